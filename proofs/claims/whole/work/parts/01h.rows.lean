theorem dX12_rank_26 : decode cX12_rank 26 = .ok (.iconst 2, 1) := by decide +kernel
theorem dX12_rank_27 : decode cX12_rank 27 = .ok (.goto 4, 3) := by decide +kernel
theorem dX12_rank_30 : decode cX12_rank 30 = .ok (.iload_n 0, 1) := by decide +kernel
theorem dX12_rank_31 : decode cX12_rank 31 = .ok (.ireturn, 1) := by decide +kernel
set_option maxRecDepth 20000 in
theorem ggX12_isLess_X12_isNumeric : GoodIn wsX12_isLess wsX12_isNumeric := goodIn_r _ [6, 7, 8, 9, 5, 10, 1, 11, 12, 13, 14, 15, 16, 17, 18, 19, 20, 21, 22, 23, 24, 25, 26, 27, 28, 36, 37, 38, 39, 40, 41, 42, 43, 44, 45, 46, 47, 48, 49, 50, 51, 52, 53, 54, 55, 56, 57, 58, 59, 60, 61, 62, 63, 64, 65, 66, 67, 68, 69] (by decide +kernel) (by decide +kernel)
set_option maxRecDepth 20000 in
theorem gX12_isLess_X12_isNumeric : GoodIn wsX12_isLess (wsV RX12 127 RX12 yX12_isNumeric wsX12_isNumeric) := goodIn_app (goodIn_of _ (by decide +kernel)) ggX12_isLess_X12_isNumeric
set_option maxRecDepth 20000 in
theorem ggX12_isLess_X12_numberOf : GoodIn wsX12_isLess wsX12_numberOf := goodIn_r _ [32, 1, 11, 12, 13, 5, 14, 15, 16, 17, 18, 19, 20, 21, 22, 7, 8, 9, 10, 23, 24, 25, 26, 27, 28, 36, 37, 38, 39, 40, 41, 42, 43, 44, 45, 46, 47, 48, 49, 50, 51, 52, 53, 54, 55, 56, 57, 58, 59, 60, 61, 62, 63, 64, 65, 66, 67, 68, 69] (by decide +kernel) (by decide +kernel)
set_option maxRecDepth 20000 in
theorem gX12_isLess_X12_numberOf : GoodIn wsX12_isLess (wsV RX12 130 RX12 yX12_numberOf wsX12_numberOf) := goodIn_app (goodIn_of _ (by decide +kernel)) ggX12_isLess_X12_numberOf
set_option maxRecDepth 20000 in
theorem ggX12_isLess_X12_from : GoodIn wsX12_isLess wsX12_from := goodIn_r _ [14, 15, 16, 36, 37, 38, 39, 40, 41, 42, 43, 44, 45, 46, 47, 48, 49, 50, 51, 52, 53, 54, 55, 56, 57, 58, 59, 60, 61, 62, 63, 64, 65, 66, 67, 68, 69] (by decide +kernel) (by decide +kernel)
set_option maxRecDepth 20000 in
theorem gX12_isLess_X12_from : GoodIn wsX12_isLess (wsV RX12 110 RX12 yX12_from wsX12_from) := goodIn_app (goodIn_of _ (by decide +kernel)) ggX12_isLess_X12_from
set_option maxRecDepth 20000 in
theorem ggX12_isLess_X12_to : GoodIn wsX12_isLess wsX12_to := goodIn_r _ [20, 21, 15, 22, 36, 37, 38, 39, 40, 41, 42, 43, 44, 45, 46, 47, 48, 49, 50, 51, 52, 53, 54, 55, 56, 57, 58, 59, 60, 61, 62, 63, 64, 65, 66, 67, 68, 69] (by decide +kernel) (by decide +kernel)
set_option maxRecDepth 20000 in
theorem gX12_isLess_X12_to : GoodIn wsX12_isLess (wsV RX12 114 RX12 yX12_to wsX12_to) := goodIn_app (goodIn_of _ (by decide +kernel)) ggX12_isLess_X12_to
set_option maxRecDepth 20000 in
theorem ggX12_isLess_X12_rank : GoodIn wsX12_isLess wsX12_rank := goodIn_r _ [35] (by decide +kernel) (by decide +kernel)
set_option maxRecDepth 20000 in
theorem gX12_isLess_X12_rank : GoodIn wsX12_isLess (va_wsS RX12 133 yX12_rank wsX12_rank) := goodIn_app (goodIn_of _ (by decide +kernel)) ggX12_isLess_X12_rank
theorem dX12_isLess_0 : decode cX12_isLess 0 = .ok (.aload_n 0, 1) := by decide +kernel
theorem dX12_isLess_1 : decode cX12_isLess 1 = .ok (.iload_n 1, 1) := by decide +kernel
theorem dX12_isLess_2 : decode cX12_isLess 2 = .ok (.invokevirtual 127, 3) := by decide +kernel
theorem dX12_isLess_5 : decode cX12_isLess 5 = .ok (.ifCond .eq 30, 3) := by decide +kernel
theorem dX12_isLess_8 : decode cX12_isLess 8 = .ok (.aload_n 0, 1) := by decide +kernel
theorem dX12_isLess_9 : decode cX12_isLess 9 = .ok (.iload_n 2, 1) := by decide +kernel
theorem dX12_isLess_10 : decode cX12_isLess 10 = .ok (.invokevirtual 127, 3) := by decide +kernel
theorem dX12_isLess_13 : decode cX12_isLess 13 = .ok (.ifCond .eq 22, 3) := by decide +kernel
theorem dX12_isLess_16 : decode cX12_isLess 16 = .ok (.aload_n 0, 1) := by decide +kernel
theorem dX12_isLess_17 : decode cX12_isLess 17 = .ok (.iload_n 1, 1) := by decide +kernel
theorem dX12_isLess_18 : decode cX12_isLess 18 = .ok (.invokevirtual 130, 3) := by decide +kernel
theorem dX12_isLess_21 : decode cX12_isLess 21 = .ok (.aload_n 0, 1) := by decide +kernel
theorem dX12_isLess_22 : decode cX12_isLess 22 = .ok (.iload_n 2, 1) := by decide +kernel
theorem dX12_isLess_23 : decode cX12_isLess 23 = .ok (.invokevirtual 130, 3) := by decide +kernel
theorem dX12_isLess_26 : decode cX12_isLess 26 = .ok (.if_icmp .ge 7, 3) := by decide +kernel
theorem dX12_isLess_29 : decode cX12_isLess 29 = .ok (.iconst 1, 1) := by decide +kernel
theorem dX12_isLess_30 : decode cX12_isLess 30 = .ok (.goto 4, 3) := by decide +kernel
theorem dX12_isLess_33 : decode cX12_isLess 33 = .ok (.iconst 0, 1) := by decide +kernel
theorem dX12_isLess_34 : decode cX12_isLess 34 = .ok (.ireturn, 1) := by decide +kernel
theorem dX12_isLess_35 : decode cX12_isLess 35 = .ok (.aload_n 0, 1) := by decide +kernel
theorem dX12_isLess_36 : decode cX12_isLess 36 = .ok (.iload_n 1, 1) := by decide +kernel
theorem dX12_isLess_37 : decode cX12_isLess 37 = .ok (.invokevirtual 110, 3) := by decide +kernel
theorem dX12_isLess_40 : decode cX12_isLess 40 = .ok (.istore_n 3, 1) := by decide +kernel
theorem dX12_isLess_41 : decode cX12_isLess 41 = .ok (.aload_n 0, 1) := by decide +kernel
theorem dX12_isLess_42 : decode cX12_isLess 42 = .ok (.iload_n 2, 1) := by decide +kernel
theorem dX12_isLess_43 : decode cX12_isLess 43 = .ok (.invokevirtual 110, 3) := by decide +kernel
theorem dX12_isLess_46 : decode cX12_isLess 46 = .ok (.istore 4, 2) := by decide +kernel
theorem dX12_isLess_48 : decode cX12_isLess 48 = .ok (.iload_n 3, 1) := by decide +kernel
theorem dX12_isLess_49 : decode cX12_isLess 49 = .ok (.aload_n 0, 1) := by decide +kernel
theorem dX12_isLess_50 : decode cX12_isLess 50 = .ok (.iload_n 1, 1) := by decide +kernel
theorem dX12_isLess_51 : decode cX12_isLess 51 = .ok (.invokevirtual 114, 3) := by decide +kernel
theorem dX12_isLess_54 : decode cX12_isLess 54 = .ok (.if_icmp .ge 38, 3) := by decide +kernel
theorem dX12_isLess_57 : decode cX12_isLess 57 = .ok (.iload 4, 2) := by decide +kernel
theorem dX12_isLess_59 : decode cX12_isLess 59 = .ok (.aload_n 0, 1) := by decide +kernel
theorem dX12_isLess_60 : decode cX12_isLess 60 = .ok (.iload_n 2, 1) := by decide +kernel
theorem dX12_isLess_61 : decode cX12_isLess 61 = .ok (.invokevirtual 114, 3) := by decide +kernel
theorem dX12_isLess_64 : decode cX12_isLess 64 = .ok (.if_icmp .ge 28, 3) := by decide +kernel
theorem dX12_isLess_67 : decode cX12_isLess 67 = .ok (.aload_n 0, 1) := by decide +kernel
theorem dX12_isLess_68 : decode cX12_isLess 68 = .ok (.getfield 13, 3) := by decide +kernel
theorem dX12_isLess_71 : decode cX12_isLess 71 = .ok (.iload_n 3, 1) := by decide +kernel
theorem dX12_isLess_72 : decode cX12_isLess 72 = .ok (.iaload, 1) := by decide +kernel
theorem dX12_isLess_73 : decode cX12_isLess 73 = .ok (.aload_n 0, 1) := by decide +kernel
theorem dX12_isLess_74 : decode cX12_isLess 74 = .ok (.getfield 13, 3) := by decide +kernel
theorem dX12_isLess_77 : decode cX12_isLess 77 = .ok (.iload 4, 2) := by decide +kernel
theorem dX12_isLess_79 : decode cX12_isLess 79 = .ok (.iaload, 1) := by decide +kernel
theorem dX12_isLess_80 : decode cX12_isLess 80 = .ok (.if_icmp .ne 12, 3) := by decide +kernel
theorem dX12_isLess_83 : decode cX12_isLess 83 = .ok (.iinc 3 1, 3) := by decide +kernel
theorem dX12_isLess_86 : decode cX12_isLess 86 = .ok (.iinc 4 1, 3) := by decide +kernel
theorem dX12_isLess_89 : decode cX12_isLess 89 = .ok (.goto (-41), 3) := by decide +kernel
theorem dX12_isLess_92 : decode cX12_isLess 92 = .ok (.iload_n 3, 1) := by decide +kernel
theorem dX12_isLess_93 : decode cX12_isLess 93 = .ok (.aload_n 0, 1) := by decide +kernel
theorem dX12_isLess_94 : decode cX12_isLess 94 = .ok (.iload_n 1, 1) := by decide +kernel
theorem dX12_isLess_95 : decode cX12_isLess 95 = .ok (.invokevirtual 114, 3) := by decide +kernel
theorem dX12_isLess_98 : decode cX12_isLess 98 = .ok (.if_icmp .eq 13, 3) := by decide +kernel
theorem dX12_isLess_101 : decode cX12_isLess 101 = .ok (.iload 4, 2) := by decide +kernel
theorem dX12_isLess_103 : decode cX12_isLess 103 = .ok (.aload_n 0, 1) := by decide +kernel
theorem dX12_isLess_104 : decode cX12_isLess 104 = .ok (.iload_n 2, 1) := by decide +kernel
theorem dX12_isLess_105 : decode cX12_isLess 105 = .ok (.invokevirtual 114, 3) := by decide +kernel
theorem dX12_isLess_108 : decode cX12_isLess 108 = .ok (.if_icmp .ne 28, 3) := by decide +kernel
theorem dX12_isLess_111 : decode cX12_isLess 111 = .ok (.iload_n 3, 1) := by decide +kernel
theorem dX12_isLess_112 : decode cX12_isLess 112 = .ok (.aload_n 0, 1) := by decide +kernel
theorem dX12_isLess_113 : decode cX12_isLess 113 = .ok (.iload_n 1, 1) := by decide +kernel
theorem dX12_isLess_114 : decode cX12_isLess 114 = .ok (.invokevirtual 114, 3) := by decide +kernel
theorem dX12_isLess_117 : decode cX12_isLess 117 = .ok (.if_icmp .ne 17, 3) := by decide +kernel
theorem dX12_isLess_120 : decode cX12_isLess 120 = .ok (.iload 4, 2) := by decide +kernel
theorem dX12_isLess_122 : decode cX12_isLess 122 = .ok (.aload_n 0, 1) := by decide +kernel
theorem dX12_isLess_123 : decode cX12_isLess 123 = .ok (.iload_n 2, 1) := by decide +kernel
theorem dX12_isLess_124 : decode cX12_isLess 124 = .ok (.invokevirtual 114, 3) := by decide +kernel
theorem dX12_isLess_127 : decode cX12_isLess 127 = .ok (.if_icmp .ge 7, 3) := by decide +kernel
theorem dX12_isLess_130 : decode cX12_isLess 130 = .ok (.iconst 1, 1) := by decide +kernel
theorem dX12_isLess_131 : decode cX12_isLess 131 = .ok (.goto 4, 3) := by decide +kernel
theorem dX12_isLess_134 : decode cX12_isLess 134 = .ok (.iconst 0, 1) := by decide +kernel
theorem dX12_isLess_135 : decode cX12_isLess 135 = .ok (.ireturn, 1) := by decide +kernel
theorem dX12_isLess_136 : decode cX12_isLess 136 = .ok (.aload_n 0, 1) := by decide +kernel
theorem dX12_isLess_137 : decode cX12_isLess 137 = .ok (.getfield 13, 3) := by decide +kernel
theorem dX12_isLess_140 : decode cX12_isLess 140 = .ok (.iload_n 3, 1) := by decide +kernel
theorem dX12_isLess_141 : decode cX12_isLess 141 = .ok (.iaload, 1) := by decide +kernel
theorem dX12_isLess_142 : decode cX12_isLess 142 = .ok (.invokestatic 133, 3) := by decide +kernel
theorem dX12_isLess_145 : decode cX12_isLess 145 = .ok (.aload_n 0, 1) := by decide +kernel
theorem dX12_isLess_146 : decode cX12_isLess 146 = .ok (.getfield 13, 3) := by decide +kernel
theorem dX12_isLess_149 : decode cX12_isLess 149 = .ok (.iload 4, 2) := by decide +kernel
theorem dX12_isLess_151 : decode cX12_isLess 151 = .ok (.iaload, 1) := by decide +kernel
theorem dX12_isLess_152 : decode cX12_isLess 152 = .ok (.invokestatic 133, 3) := by decide +kernel
theorem dX12_isLess_155 : decode cX12_isLess 155 = .ok (.if_icmp .ge 7, 3) := by decide +kernel
theorem dX12_isLess_158 : decode cX12_isLess 158 = .ok (.iconst 1, 1) := by decide +kernel
theorem dX12_isLess_159 : decode cX12_isLess 159 = .ok (.goto 4, 3) := by decide +kernel
theorem dX12_isLess_162 : decode cX12_isLess 162 = .ok (.iconst 0, 1) := by decide +kernel
theorem dX12_isLess_163 : decode cX12_isLess 163 = .ok (.ireturn, 1) := by decide +kernel
set_option maxRecDepth 20000 in
theorem ggX12_isSame_X12_isNumeric : GoodIn wsX12_isSame wsX12_isNumeric := goodIn_r _ [5, 6, 7, 8, 4, 9, 10, 11, 12, 13, 14, 15, 16, 17, 18, 19, 20, 21, 22, 23, 24, 25, 26, 27, 28, 33, 34, 35, 36, 37, 38, 39, 40, 41, 42, 43, 44, 45, 46, 47, 48, 49, 50, 51, 52, 53, 54, 55, 56, 57, 58, 59, 60, 61, 62, 63, 64, 65, 66] (by decide +kernel) (by decide +kernel)
set_option maxRecDepth 20000 in
theorem gX12_isSame_X12_isNumeric : GoodIn wsX12_isSame (wsV RX12 127 RX12 yX12_isNumeric wsX12_isNumeric) := goodIn_app (goodIn_of _ (by decide +kernel)) ggX12_isSame_X12_isNumeric
set_option maxRecDepth 20000 in
theorem ggX12_isSame_X12_numberOf : GoodIn wsX12_isSame wsX12_numberOf := goodIn_r _ [32, 10, 11, 12, 13, 4, 14, 15, 16, 17, 18, 19, 20, 21, 22, 6, 7, 8, 9, 23, 24, 25, 26, 27, 28, 33, 34, 35, 36, 37, 38, 39, 40, 41, 42, 43, 44, 45, 46, 47, 48, 49, 50, 51, 52, 53, 54, 55, 56, 57, 58, 59, 60, 61, 62, 63, 64, 65, 66] (by decide +kernel) (by decide +kernel)
set_option maxRecDepth 20000 in
theorem gX12_isSame_X12_numberOf : GoodIn wsX12_isSame (wsV RX12 130 RX12 yX12_numberOf wsX12_numberOf) := goodIn_app (goodIn_of _ (by decide +kernel)) ggX12_isSame_X12_numberOf
theorem dX12_isSame_0 : decode cX12_isSame 0 = .ok (.aload_n 0, 1) := by decide +kernel
theorem dX12_isSame_1 : decode cX12_isSame 1 = .ok (.iload_n 1, 1) := by decide +kernel
theorem dX12_isSame_2 : decode cX12_isSame 2 = .ok (.invokevirtual 127, 3) := by decide +kernel
theorem dX12_isSame_5 : decode cX12_isSame 5 = .ok (.ifCond .eq 16, 3) := by decide +kernel
theorem dX12_isSame_8 : decode cX12_isSame 8 = .ok (.aload_n 0, 1) := by decide +kernel
theorem dX12_isSame_9 : decode cX12_isSame 9 = .ok (.iload_n 1, 1) := by decide +kernel
theorem dX12_isSame_10 : decode cX12_isSame 10 = .ok (.invokevirtual 130, 3) := by decide +kernel
theorem dX12_isSame_13 : decode cX12_isSame 13 = .ok (.iload_n 2, 1) := by decide +kernel
theorem dX12_isSame_14 : decode cX12_isSame 14 = .ok (.if_icmp .ne 7, 3) := by decide +kernel
theorem dX12_isSame_17 : decode cX12_isSame 17 = .ok (.iconst 1, 1) := by decide +kernel
theorem dX12_isSame_18 : decode cX12_isSame 18 = .ok (.goto 4, 3) := by decide +kernel
theorem dX12_isSame_21 : decode cX12_isSame 21 = .ok (.iconst 0, 1) := by decide +kernel
theorem dX12_isSame_22 : decode cX12_isSame 22 = .ok (.ireturn, 1) := by decide +kernel
theorem dX12_writes_0 : decode cX12_writes 0 = .ok (.iload_n 1, 1) := by decide +kernel
theorem dX12_writes_1 : decode cX12_writes 1 = .ok (.ifCond .ge 9, 3) := by decide +kernel
theorem dX12_writes_4 : decode cX12_writes 4 = .ok (.iload_n 1, 1) := by decide +kernel
theorem dX12_writes_5 : decode cX12_writes 5 = .ok (.i2l, 1) := by decide +kernel
theorem dX12_writes_6 : decode cX12_writes 6 = .ok (.lneg, 1) := by decide +kernel
theorem dX12_writes_7 : decode cX12_writes 7 = .ok (.goto 5, 3) := by decide +kernel
theorem dX12_writes_10 : decode cX12_writes 10 = .ok (.iload_n 1, 1) := by decide +kernel
theorem dX12_writes_11 : decode cX12_writes 11 = .ok (.i2l, 1) := by decide +kernel
theorem dX12_writes_12 : decode cX12_writes 12 = .ok (.lstore_n 2, 1) := by decide +kernel
theorem dX12_writes_13 : decode cX12_writes 13 = .ok (.iconst 0, 1) := by decide +kernel
theorem dX12_writes_14 : decode cX12_writes 14 = .ok (.istore 4, 2) := by decide +kernel
theorem dX12_writes_16 : decode cX12_writes 16 = .ok (.aload_n 0, 1) := by decide +kernel
theorem dX12_writes_17 : decode cX12_writes 17 = .ok (.getfield 78, 3) := by decide +kernel
theorem dX12_writes_20 : decode cX12_writes 20 = .ok (.iload 4, 2) := by decide +kernel
theorem dX12_writes_22 : decode cX12_writes 22 = .ok (.lload_n 2, 1) := by decide +kernel
theorem dX12_writes_23 : decode cX12_writes 23 = .ok (.ldc2_w 136, 3) := by decide +kernel
theorem dX12_writes_26 : decode cX12_writes 26 = .ok (.lrem, 1) := by decide +kernel
theorem dX12_writes_27 : decode cX12_writes 27 = .ok (.l2i, 1) := by decide +kernel
theorem dX12_writes_28 : decode cX12_writes 28 = .ok (.iastore, 1) := by decide +kernel
theorem dX12_writes_29 : decode cX12_writes 29 = .ok (.lload_n 2, 1) := by decide +kernel
theorem dX12_writes_30 : decode cX12_writes 30 = .ok (.ldc2_w 136, 3) := by decide +kernel
theorem dX12_writes_33 : decode cX12_writes 33 = .ok (.ldiv, 1) := by decide +kernel
theorem dX12_writes_34 : decode cX12_writes 34 = .ok (.lstore_n 2, 1) := by decide +kernel
theorem dX12_writes_35 : decode cX12_writes 35 = .ok (.iinc 4 1, 3) := by decide +kernel
theorem dX12_writes_38 : decode cX12_writes 38 = .ok (.lload_n 2, 1) := by decide +kernel
theorem dX12_writes_39 : decode cX12_writes 39 = .ok (.lconst 0, 1) := by decide +kernel
theorem dX12_writes_40 : decode cX12_writes 40 = .ok (.lcmp, 1) := by decide +kernel
theorem dX12_writes_41 : decode cX12_writes 41 = .ok (.ifCond .gt (-25), 3) := by decide +kernel
theorem dX12_writes_44 : decode cX12_writes 44 = .ok (.aload_n 0, 1) := by decide +kernel
theorem dX12_writes_45 : decode cX12_writes 45 = .ok (.iconst 0, 1) := by decide +kernel
theorem dX12_writes_46 : decode cX12_writes 46 = .ok (.putfield 100, 3) := by decide +kernel
theorem dX12_writes_49 : decode cX12_writes 49 = .ok (.iload_n 1, 1) := by decide +kernel
theorem dX12_writes_50 : decode cX12_writes 50 = .ok (.ifCond .ge 16, 3) := by decide +kernel
theorem dX12_writes_53 : decode cX12_writes 53 = .ok (.aload_n 0, 1) := by decide +kernel
theorem dX12_writes_54 : decode cX12_writes 54 = .ok (.getfield 72, 3) := by decide +kernel
theorem dX12_writes_57 : decode cX12_writes 57 = .ok (.iconst 0, 1) := by decide +kernel
theorem dX12_writes_58 : decode cX12_writes 58 = .ok (.bipush 45, 2) := by decide +kernel
theorem dX12_writes_60 : decode cX12_writes 60 = .ok (.iastore, 1) := by decide +kernel
theorem dX12_writes_61 : decode cX12_writes 61 = .ok (.aload_n 0, 1) := by decide +kernel
theorem dX12_writes_62 : decode cX12_writes 62 = .ok (.iconst 1, 1) := by decide +kernel
theorem dX12_writes_63 : decode cX12_writes 63 = .ok (.putfield 100, 3) := by decide +kernel
theorem dX12_writes_66 : decode cX12_writes 66 = .ok (.iload 4, 2) := by decide +kernel
theorem dX12_writes_68 : decode cX12_writes 68 = .ok (.iconst 1, 1) := by decide +kernel
theorem dX12_writes_69 : decode cX12_writes 69 = .ok (.isub, 1) := by decide +kernel
theorem dX12_writes_70 : decode cX12_writes 70 = .ok (.istore 5, 2) := by decide +kernel
theorem dX12_writes_72 : decode cX12_writes 72 = .ok (.iload 5, 2) := by decide +kernel
theorem dX12_writes_74 : decode cX12_writes 74 = .ok (.ifCond .lt 38, 3) := by decide +kernel
theorem dX12_writes_77 : decode cX12_writes 77 = .ok (.aload_n 0, 1) := by decide +kernel
theorem dX12_writes_78 : decode cX12_writes 78 = .ok (.getfield 72, 3) := by decide +kernel
theorem dX12_writes_81 : decode cX12_writes 81 = .ok (.aload_n 0, 1) := by decide +kernel
theorem dX12_writes_82 : decode cX12_writes 82 = .ok (.getfield 100, 3) := by decide +kernel
theorem dX12_writes_85 : decode cX12_writes 85 = .ok (.bipush 48, 2) := by decide +kernel
theorem dX12_writes_87 : decode cX12_writes 87 = .ok (.aload_n 0, 1) := by decide +kernel
theorem dX12_writes_88 : decode cX12_writes 88 = .ok (.getfield 78, 3) := by decide +kernel
theorem dX12_writes_91 : decode cX12_writes 91 = .ok (.iload 5, 2) := by decide +kernel
theorem dX12_writes_93 : decode cX12_writes 93 = .ok (.iaload, 1) := by decide +kernel
theorem dX12_writes_94 : decode cX12_writes 94 = .ok (.iadd, 1) := by decide +kernel
theorem dX12_writes_95 : decode cX12_writes 95 = .ok (.iastore, 1) := by decide +kernel
theorem dX12_writes_96 : decode cX12_writes 96 = .ok (.aload_n 0, 1) := by decide +kernel
theorem dX12_writes_97 : decode cX12_writes 97 = .ok (.dup, 1) := by decide +kernel
theorem dX12_writes_98 : decode cX12_writes 98 = .ok (.getfield 100, 3) := by decide +kernel
theorem dX12_writes_101 : decode cX12_writes 101 = .ok (.iconst 1, 1) := by decide +kernel
theorem dX12_writes_102 : decode cX12_writes 102 = .ok (.iadd, 1) := by decide +kernel
theorem dX12_writes_103 : decode cX12_writes 103 = .ok (.putfield 100, 3) := by decide +kernel
theorem dX12_writes_106 : decode cX12_writes 106 = .ok (.iinc 5 (-1), 3) := by decide +kernel
theorem dX12_writes_109 : decode cX12_writes 109 = .ok (.goto (-37), 3) := by decide +kernel
theorem dX12_writes_112 : decode cX12_writes 112 = .ok (.return_, 1) := by decide +kernel
set_option maxRecDepth 20000 in
theorem ggX12_isOperand_X12_isIn : GoodIn wsX12_isOperand wsX12_isIn := goodIn_r _ [4] (by decide +kernel) (by decide +kernel)
set_option maxRecDepth 20000 in
theorem gX12_isOperand_X12_isIn : GoodIn wsX12_isOperand (va_wsS RX12 84 yX12_isIn wsX12_isIn) := goodIn_app (goodIn_of _ (by decide +kernel)) ggX12_isOperand_X12_isIn
theorem dX12_isOperand_0 : decode cX12_isOperand 0 = .ok (.iload_n 0, 1) := by decide +kernel
theorem dX12_isOperand_1 : decode cX12_isOperand 1 = .ok (.bipush (-13), 2) := by decide +kernel
theorem dX12_isOperand_3 : decode cX12_isOperand 3 = .ok (.sipush 9999, 3) := by decide +kernel
theorem dX12_isOperand_6 : decode cX12_isOperand 6 = .ok (.invokestatic 84, 3) := by decide +kernel
theorem dX12_isOperand_9 : decode cX12_isOperand 9 = .ok (.ifCond .ne 15, 3) := by decide +kernel
theorem dX12_isOperand_12 : decode cX12_isOperand 12 = .ok (.iload_n 0, 1) := by decide +kernel
theorem dX12_isOperand_13 : decode cX12_isOperand 13 = .ok (.bipush (-20), 2) := by decide +kernel
theorem dX12_isOperand_15 : decode cX12_isOperand 15 = .ok (.if_icmp .eq 9, 3) := by decide +kernel
theorem dX12_isOperand_18 : decode cX12_isOperand 18 = .ok (.iload_n 0, 1) := by decide +kernel
theorem dX12_isOperand_19 : decode cX12_isOperand 19 = .ok (.bipush (-21), 2) := by decide +kernel
theorem dX12_isOperand_21 : decode cX12_isOperand 21 = .ok (.if_icmp .ne 7, 3) := by decide +kernel
theorem dX12_isOperand_24 : decode cX12_isOperand 24 = .ok (.iconst 1, 1) := by decide +kernel
theorem dX12_isOperand_25 : decode cX12_isOperand 25 = .ok (.goto 4, 3) := by decide +kernel
theorem dX12_isOperand_28 : decode cX12_isOperand 28 = .ok (.iconst 0, 1) := by decide +kernel
theorem dX12_isOperand_29 : decode cX12_isOperand 29 = .ok (.ireturn, 1) := by decide +kernel
set_option maxRecDepth 20000 in
theorem ggX12_isFieldOf_X12_isIn : GoodIn wsX12_isFieldOf wsX12_isIn := goodIn_r _ [4] (by decide +kernel) (by decide +kernel)
set_option maxRecDepth 20000 in
theorem gX12_isFieldOf_X12_isIn : GoodIn wsX12_isFieldOf (va_wsS RX12 84 yX12_isIn wsX12_isIn) := goodIn_app (goodIn_of _ (by decide +kernel)) ggX12_isFieldOf_X12_isIn
theorem dX12_isFieldOf_0 : decode cX12_isFieldOf 0 = .ok (.iload_n 0, 1) := by decide +kernel
theorem dX12_isFieldOf_1 : decode cX12_isFieldOf 1 = .ok (.bipush (-13), 2) := by decide +kernel
theorem dX12_isFieldOf_3 : decode cX12_isFieldOf 3 = .ok (.iconst (-1), 1) := by decide +kernel
theorem dX12_isFieldOf_4 : decode cX12_isFieldOf 4 = .ok (.invokestatic 84, 3) := by decide +kernel
theorem dX12_isFieldOf_7 : decode cX12_isFieldOf 7 = .ok (.ireturn, 1) := by decide +kernel
set_option maxRecDepth 20000 in
theorem ggX12_numberOfOperand_X12_isFieldOf : GoodIn wsX12_numberOfOperand wsX12_isFieldOf := goodIn_r _ [6, 7, 8, 5, 9] (by decide +kernel) (by decide +kernel)
set_option maxRecDepth 20000 in
theorem gX12_numberOfOperand_X12_isFieldOf : GoodIn wsX12_numberOfOperand (va_wsS RX12 138 yX12_isFieldOf wsX12_isFieldOf) := goodIn_app (goodIn_of _ (by decide +kernel)) ggX12_numberOfOperand_X12_isFieldOf
set_option maxRecDepth 20000 in
theorem ggX12_numberOfOperand_X12_numberOf : GoodIn wsX12_numberOfOperand wsX12_numberOf := goodIn_r _ [13, 14, 15, 16, 17, 5, 18, 1, 19, 20, 21, 22, 23, 24, 25, 26, 27, 28, 29, 30, 31, 32, 7, 8, 9, 33, 34, 35, 36, 37, 38, 39, 40, 41, 42, 43, 44, 45, 46, 47, 48, 49, 50, 51, 52, 53, 54, 55, 56, 57, 58, 59, 60, 61, 62, 63, 64, 65, 66] (by decide +kernel) (by decide +kernel)
set_option maxRecDepth 20000 in
theorem gX12_numberOfOperand_X12_numberOf : GoodIn wsX12_numberOfOperand (wsV RX12 130 RX12 yX12_numberOf wsX12_numberOf) := goodIn_app (goodIn_of _ (by decide +kernel)) ggX12_numberOfOperand_X12_numberOf
theorem dX12_numberOfOperand_0 : decode cX12_numberOfOperand 0 = .ok (.iload_n 1, 1) := by decide +kernel
theorem dX12_numberOfOperand_1 : decode cX12_numberOfOperand 1 = .ok (.invokestatic 138, 3) := by decide +kernel
theorem dX12_numberOfOperand_4 : decode cX12_numberOfOperand 4 = .ok (.ifCond .eq 13, 3) := by decide +kernel
theorem dX12_numberOfOperand_7 : decode cX12_numberOfOperand 7 = .ok (.aload_n 0, 1) := by decide +kernel
theorem dX12_numberOfOperand_8 : decode cX12_numberOfOperand 8 = .ok (.iconst (-1), 1) := by decide +kernel
theorem dX12_numberOfOperand_9 : decode cX12_numberOfOperand 9 = .ok (.iload_n 1, 1) := by decide +kernel
theorem dX12_numberOfOperand_10 : decode cX12_numberOfOperand 10 = .ok (.isub, 1) := by decide +kernel
theorem dX12_numberOfOperand_11 : decode cX12_numberOfOperand 11 = .ok (.invokevirtual 130, 3) := by decide +kernel
theorem dX12_numberOfOperand_14 : decode cX12_numberOfOperand 14 = .ok (.goto 30, 3) := by decide +kernel
theorem dX12_numberOfOperand_17 : decode cX12_numberOfOperand 17 = .ok (.iload_n 1, 1) := by decide +kernel
theorem dX12_numberOfOperand_18 : decode cX12_numberOfOperand 18 = .ok (.bipush (-20), 2) := by decide +kernel
theorem dX12_numberOfOperand_20 : decode cX12_numberOfOperand 20 = .ok (.if_icmp .ne 10, 3) := by decide +kernel
theorem dX12_numberOfOperand_23 : decode cX12_numberOfOperand 23 = .ok (.aload_n 0, 1) := by decide +kernel
theorem dX12_numberOfOperand_24 : decode cX12_numberOfOperand 24 = .ok (.getfield 88, 3) := by decide +kernel
theorem dX12_numberOfOperand_27 : decode cX12_numberOfOperand 27 = .ok (.goto 17, 3) := by decide +kernel
theorem dX12_numberOfOperand_30 : decode cX12_numberOfOperand 30 = .ok (.iload_n 1, 1) := by decide +kernel
theorem dX12_numberOfOperand_31 : decode cX12_numberOfOperand 31 = .ok (.bipush (-21), 2) := by decide +kernel
theorem dX12_numberOfOperand_33 : decode cX12_numberOfOperand 33 = .ok (.if_icmp .ne 10, 3) := by decide +kernel
theorem dX12_numberOfOperand_36 : decode cX12_numberOfOperand 36 = .ok (.aload_n 0, 1) := by decide +kernel
theorem dX12_numberOfOperand_37 : decode cX12_numberOfOperand 37 = .ok (.getfield 141, 3) := by decide +kernel
theorem dX12_numberOfOperand_40 : decode cX12_numberOfOperand 40 = .ok (.goto 4, 3) := by decide +kernel
theorem dX12_numberOfOperand_43 : decode cX12_numberOfOperand 43 = .ok (.iload_n 1, 1) := by decide +kernel
theorem dX12_numberOfOperand_44 : decode cX12_numberOfOperand 44 = .ok (.ireturn, 1) := by decide +kernel
set_option maxRecDepth 20000 in
theorem ggX12_addsOperand_X12_isFieldOf : GoodIn wsX12_addsOperand wsX12_isFieldOf := goodIn_r _ [5, 6, 7, 4, 8] (by decide +kernel) (by decide +kernel)
set_option maxRecDepth 20000 in
theorem gX12_addsOperand_X12_isFieldOf : GoodIn wsX12_addsOperand (va_wsS RX12 138 yX12_isFieldOf wsX12_isFieldOf) := goodIn_app (goodIn_of _ (by decide +kernel)) ggX12_addsOperand_X12_isFieldOf
set_option maxRecDepth 20000 in
theorem ggX12_addsOperand_X12_from : GoodIn wsX12_addsOperand wsX12_from := goodIn_r _ [12, 13, 14, 55, 56, 57, 58, 59, 60, 61, 62, 63, 64, 65, 66, 67, 68, 69, 70, 71, 72, 73, 74, 75, 76, 77, 78, 79, 80, 81, 82, 83, 84, 85, 86, 87, 88] (by decide +kernel) (by decide +kernel)
set_option maxRecDepth 20000 in
theorem gX12_addsOperand_X12_from : GoodIn wsX12_addsOperand (wsV RX12 110 RX12 yX12_from wsX12_from) := goodIn_app (goodIn_of _ (by decide +kernel)) ggX12_addsOperand_X12_from
set_option maxRecDepth 20000 in
theorem ggX12_addsOperand_X12_to : GoodIn wsX12_addsOperand wsX12_to := goodIn_r _ [18, 19, 13, 20, 55, 56, 57, 58, 59, 60, 61, 62, 63, 64, 65, 66, 67, 68, 69, 70, 71, 72, 73, 74, 75, 76, 77, 78, 79, 80, 81, 82, 83, 84, 85, 86, 87, 88] (by decide +kernel) (by decide +kernel)
set_option maxRecDepth 20000 in
theorem gX12_addsOperand_X12_to : GoodIn wsX12_addsOperand (wsV RX12 114 RX12 yX12_to wsX12_to) := goodIn_app (goodIn_of _ (by decide +kernel)) ggX12_addsOperand_X12_to
set_option maxRecDepth 20000 in
theorem ggX12_addsOperand_X12_adds : GoodIn wsX12_addsOperand wsX12_adds := goodIn_r _ [24, 25, 26, 55, 56, 57, 58, 59, 60, 61, 62, 63, 64, 65, 66, 67, 68, 69, 70, 71, 72, 73, 74, 75, 76, 77, 78, 79, 80, 81, 82, 83, 84, 85, 86, 87, 88] (by decide +kernel) (by decide +kernel)
set_option maxRecDepth 20000 in
theorem gX12_addsOperand_X12_adds : GoodIn wsX12_addsOperand (wsV RX12 103 RX12 yX12_adds wsX12_adds) := goodIn_app (goodIn_of _ (by decide +kernel)) ggX12_addsOperand_X12_adds
set_option maxRecDepth 20000 in
theorem ggX12_addsOperand_X12_numberOfOperand : GoodIn wsX12_addsOperand wsX12_numberOfOperand := goodIn_r _ [30, 13, 31, 2, 3, 4, 5, 6, 7, 8, 32, 33, 34, 35, 1, 9, 10, 11, 12, 14, 15, 16, 17, 18, 19, 20, 36, 37, 38, 39, 40, 41, 42, 55, 56, 57, 58, 59, 60, 61, 62, 63, 64, 65, 66, 67, 68, 69, 70, 71, 72, 73, 74, 75, 76, 77, 78, 79, 80, 81, 82, 83, 84, 85, 86, 87, 88] (by decide +kernel) (by decide +kernel)
set_option maxRecDepth 20000 in
theorem gX12_addsOperand_X12_numberOfOperand : GoodIn wsX12_addsOperand (wsV RX12 144 RX12 yX12_numberOfOperand wsX12_numberOfOperand) := goodIn_app (goodIn_of _ (by decide +kernel)) ggX12_addsOperand_X12_numberOfOperand
set_option maxRecDepth 20000 in
theorem ggX12_addsOperand_X12_writes : GoodIn wsX12_addsOperand wsX12_writes := goodIn_r _ [46, 47, 48, 49, 50, 55, 56, 57, 58, 59, 60, 61, 62, 63, 64, 65, 66, 67, 68, 69, 70, 71, 72, 73, 74, 75, 76, 77, 78, 79, 80, 81, 82, 83, 84, 85, 86, 87, 88] (by decide +kernel) (by decide +kernel)
set_option maxRecDepth 20000 in
theorem gX12_addsOperand_X12_writes : GoodIn wsX12_addsOperand (wsV RX12 147 RX12 yX12_writes wsX12_writes) := goodIn_app (goodIn_of _ (by decide +kernel)) ggX12_addsOperand_X12_writes
set_option maxRecDepth 20000 in
theorem ggX12_addsOperand_X12_addsValue : GoodIn wsX12_addsOperand wsX12_addsValue := goodIn_r _ [54, 49, 50, 21, 22, 23, 4, 24, 25, 26, 55, 56, 57, 58, 59, 60, 61, 62, 63, 64, 65, 66, 67, 68, 69, 70, 71, 72, 73, 74, 75, 76, 77, 78, 79, 80, 81, 82, 83, 84, 85, 86, 87, 88] (by decide +kernel) (by decide +kernel)
set_option maxRecDepth 20000 in
theorem gX12_addsOperand_X12_addsValue : GoodIn wsX12_addsOperand (wsV RX12 107 RX12 yX12_addsValue wsX12_addsValue) := goodIn_app (goodIn_of _ (by decide +kernel)) ggX12_addsOperand_X12_addsValue
theorem dX12_addsOperand_0 : decode cX12_addsOperand 0 = .ok (.iload_n 1, 1) := by decide +kernel
theorem dX12_addsOperand_1 : decode cX12_addsOperand 1 = .ok (.invokestatic 138, 3) := by decide +kernel
theorem dX12_addsOperand_4 : decode cX12_addsOperand 4 = .ok (.ifCond .eq 41, 3) := by decide +kernel
theorem dX12_addsOperand_7 : decode cX12_addsOperand 7 = .ok (.aload_n 0, 1) := by decide +kernel
theorem dX12_addsOperand_8 : decode cX12_addsOperand 8 = .ok (.iconst (-1), 1) := by decide +kernel
theorem dX12_addsOperand_9 : decode cX12_addsOperand 9 = .ok (.iload_n 1, 1) := by decide +kernel
theorem dX12_addsOperand_10 : decode cX12_addsOperand 10 = .ok (.isub, 1) := by decide +kernel
theorem dX12_addsOperand_11 : decode cX12_addsOperand 11 = .ok (.invokevirtual 110, 3) := by decide +kernel
theorem dX12_addsOperand_14 : decode cX12_addsOperand 14 = .ok (.istore_n 2, 1) := by decide +kernel
theorem dX12_addsOperand_15 : decode cX12_addsOperand 15 = .ok (.iload_n 2, 1) := by decide +kernel
theorem dX12_addsOperand_16 : decode cX12_addsOperand 16 = .ok (.aload_n 0, 1) := by decide +kernel
theorem dX12_addsOperand_17 : decode cX12_addsOperand 17 = .ok (.iconst (-1), 1) := by decide +kernel
theorem dX12_addsOperand_18 : decode cX12_addsOperand 18 = .ok (.iload_n 1, 1) := by decide +kernel
theorem dX12_addsOperand_19 : decode cX12_addsOperand 19 = .ok (.isub, 1) := by decide +kernel
theorem dX12_addsOperand_20 : decode cX12_addsOperand 20 = .ok (.invokevirtual 114, 3) := by decide +kernel
theorem dX12_addsOperand_23 : decode cX12_addsOperand 23 = .ok (.if_icmp .ge 19, 3) := by decide +kernel
theorem dX12_addsOperand_26 : decode cX12_addsOperand 26 = .ok (.aload_n 0, 1) := by decide +kernel
theorem dX12_addsOperand_27 : decode cX12_addsOperand 27 = .ok (.aload_n 0, 1) := by decide +kernel
theorem dX12_addsOperand_28 : decode cX12_addsOperand 28 = .ok (.getfield 13, 3) := by decide +kernel
theorem dX12_addsOperand_31 : decode cX12_addsOperand 31 = .ok (.iload_n 2, 1) := by decide +kernel
theorem dX12_addsOperand_32 : decode cX12_addsOperand 32 = .ok (.iaload, 1) := by decide +kernel
theorem dX12_addsOperand_33 : decode cX12_addsOperand 33 = .ok (.invokevirtual 103, 3) := by decide +kernel
theorem dX12_addsOperand_36 : decode cX12_addsOperand 36 = .ok (.iinc 2 1, 3) := by decide +kernel
theorem dX12_addsOperand_39 : decode cX12_addsOperand 39 = .ok (.goto (-24), 3) := by decide +kernel
theorem dX12_addsOperand_42 : decode cX12_addsOperand 42 = .ok (.goto 16, 3) := by decide +kernel
theorem dX12_addsOperand_45 : decode cX12_addsOperand 45 = .ok (.aload_n 0, 1) := by decide +kernel
theorem dX12_addsOperand_46 : decode cX12_addsOperand 46 = .ok (.aload_n 0, 1) := by decide +kernel
theorem dX12_addsOperand_47 : decode cX12_addsOperand 47 = .ok (.iload_n 1, 1) := by decide +kernel
theorem dX12_addsOperand_48 : decode cX12_addsOperand 48 = .ok (.invokevirtual 144, 3) := by decide +kernel
theorem dX12_addsOperand_51 : decode cX12_addsOperand 51 = .ok (.invokevirtual 147, 3) := by decide +kernel
theorem dX12_addsOperand_54 : decode cX12_addsOperand 54 = .ok (.aload_n 0, 1) := by decide +kernel
theorem dX12_addsOperand_55 : decode cX12_addsOperand 55 = .ok (.invokevirtual 107, 3) := by decide +kernel
theorem dX12_addsOperand_58 : decode cX12_addsOperand 58 = .ok (.return_, 1) := by decide +kernel
set_option maxRecDepth 20000 in
theorem ggX12_finds_X12_addsOperand : GoodIn wsX12_finds wsX12_addsOperand := goodIn_r _ [12, 13, 14, 15, 11, 16, 17, 18, 19, 20, 21, 22, 23, 24, 25, 26, 27, 28, 29, 30, 31, 32, 33, 34, 35, 2, 7, 36, 37, 38, 39, 40, 41, 42, 43, 44, 45, 46, 47, 48, 49, 50, 51, 52, 53, 54, 55, 56, 57, 5, 6, 58, 59, 60, 61, 73, 74, 75, 76, 77, 78, 79, 80, 81, 82, 83, 84, 85, 86, 87, 88, 89, 90, 91, 92, 93, 94, 95, 96, 97, 98, 99, 100, 101, 102, 103, 104, 105, 106] (by decide +kernel) (by decide +kernel)
set_option maxRecDepth 20000 in
theorem gX12_finds_X12_addsOperand : GoodIn wsX12_finds (wsV RX12 150 RX12 yX12_addsOperand wsX12_addsOperand) := goodIn_app (goodIn_of _ (by decide +kernel)) ggX12_finds_X12_addsOperand
set_option maxRecDepth 20000 in
theorem ggX12_finds_X12_numberOfValue : GoodIn wsX12_finds wsX12_numberOfValue := goodIn_r _ [65, 5, 6, 49, 50, 11, 51, 17, 18, 19, 73, 74, 75, 76, 77, 78, 79, 80, 81, 82, 83, 84, 85, 86, 87, 88, 89, 90, 91, 92, 93, 94, 95, 96, 97, 98, 99, 100, 101, 102, 103, 104, 105, 106] (by decide +kernel) (by decide +kernel)
set_option maxRecDepth 20000 in
theorem gX12_finds_X12_numberOfValue : GoodIn wsX12_finds (wsV RX12 153 RX12 yX12_numberOfValue wsX12_numberOfValue) := goodIn_app (goodIn_of _ (by decide +kernel)) ggX12_finds_X12_numberOfValue
set_option maxRecDepth 20000 in
theorem ggX12_finds_X12_numberOfOperand : GoodIn wsX12_finds wsX12_numberOfOperand := goodIn_r _ [39, 24, 40, 14, 15, 11, 16, 17, 18, 19, 41, 42, 43, 44, 13, 20, 21, 22, 23, 25, 26, 27, 28, 29, 30, 31, 45, 46, 47, 48, 49, 50, 51, 73, 74, 75, 76, 77, 78, 79, 80, 81, 82, 83, 84, 85, 86, 87, 88, 89, 90, 91, 92, 93, 94, 95, 96, 97, 98, 99, 100, 101, 102, 103, 104, 105, 106] (by decide +kernel) (by decide +kernel)
set_option maxRecDepth 20000 in
theorem gX12_finds_X12_numberOfOperand : GoodIn wsX12_finds (wsV RX12 144 RX12 yX12_numberOfOperand wsX12_numberOfOperand) := goodIn_app (goodIn_of _ (by decide +kernel)) ggX12_finds_X12_numberOfOperand
set_option maxRecDepth 20000 in
theorem ggX12_finds_X12_fits : GoodIn wsX12_finds wsX12_fits := goodIn_r _ [69, 70, 71, 72, 73, 74, 75, 76, 77, 78, 79, 80, 81, 82, 83, 84, 85, 86, 87, 88, 89, 90, 91, 92, 93, 94, 95, 96, 97, 98, 99, 100, 101, 102, 103, 104, 105, 106] (by decide +kernel) (by decide +kernel)
set_option maxRecDepth 20000 in
theorem gX12_finds_X12_fits : GoodIn wsX12_finds (wsV RX12 157 RX12 yX12_fits wsX12_fits) := goodIn_app (goodIn_of _ (by decide +kernel)) ggX12_finds_X12_fits
set_option maxRecDepth 20000 in
theorem ggX12_finds_X12_writes : GoodIn wsX12_finds wsX12_writes := goodIn_r _ [55, 56, 57, 5, 6, 73, 74, 75, 76, 77, 78, 79, 80, 81, 82, 83, 84, 85, 86, 87, 88, 89, 90, 91, 92, 93, 94, 95, 96, 97, 98, 99, 100, 101, 102, 103, 104, 105, 106] (by decide +kernel) (by decide +kernel)
set_option maxRecDepth 20000 in
theorem gX12_finds_X12_writes : GoodIn wsX12_finds (wsV RX12 147 RX12 yX12_writes wsX12_writes) := goodIn_app (goodIn_of _ (by decide +kernel)) ggX12_finds_X12_writes
theorem dX12_finds_0 : decode cX12_finds 0 = .ok (.aload_n 0, 1) := by decide +kernel
theorem dX12_finds_1 : decode cX12_finds 1 = .ok (.getfield 48, 3) := by decide +kernel
theorem dX12_finds_4 : decode cX12_finds 4 = .ok (.iload_n 1, 1) := by decide +kernel
theorem dX12_finds_5 : decode cX12_finds 5 = .ok (.iaload, 1) := by decide +kernel
theorem dX12_finds_6 : decode cX12_finds 6 = .ok (.ifCond .eq 13, 3) := by decide +kernel
theorem dX12_finds_9 : decode cX12_finds 9 = .ok (.aload_n 0, 1) := by decide +kernel
theorem dX12_finds_10 : decode cX12_finds 10 = .ok (.getfield 48, 3) := by decide +kernel
theorem dX12_finds_13 : decode cX12_finds 13 = .ok (.iload_n 1, 1) := by decide +kernel
theorem dX12_finds_14 : decode cX12_finds 14 = .ok (.iaload, 1) := by decide +kernel
theorem dX12_finds_15 : decode cX12_finds 15 = .ok (.iconst 4, 1) := by decide +kernel
theorem dX12_finds_16 : decode cX12_finds 16 = .ok (.if_icmp .ne 79, 3) := by decide +kernel
theorem dX12_finds_19 : decode cX12_finds 19 = .ok (.aload_n 0, 1) := by decide +kernel
theorem dX12_finds_20 : decode cX12_finds 20 = .ok (.iconst 0, 1) := by decide +kernel
theorem dX12_finds_21 : decode cX12_finds 21 = .ok (.putfield 94, 3) := by decide +kernel
theorem dX12_finds_24 : decode cX12_finds 24 = .ok (.aload_n 0, 1) := by decide +kernel
theorem dX12_finds_25 : decode cX12_finds 25 = .ok (.aload_n 0, 1) := by decide +kernel
theorem dX12_finds_26 : decode cX12_finds 26 = .ok (.getfield 51, 3) := by decide +kernel
theorem dX12_finds_29 : decode cX12_finds 29 = .ok (.iload_n 1, 1) := by decide +kernel
theorem dX12_finds_30 : decode cX12_finds 30 = .ok (.iaload, 1) := by decide +kernel
theorem dX12_finds_31 : decode cX12_finds 31 = .ok (.invokevirtual 150, 3) := by decide +kernel
theorem dX12_finds_34 : decode cX12_finds 34 = .ok (.aload_n 0, 1) := by decide +kernel
theorem dX12_finds_35 : decode cX12_finds 35 = .ok (.getfield 48, 3) := by decide +kernel
theorem dX12_finds_38 : decode cX12_finds 38 = .ok (.iload_n 1, 1) := by decide +kernel
theorem dX12_finds_39 : decode cX12_finds 39 = .ok (.iaload, 1) := by decide +kernel
theorem dX12_finds_40 : decode cX12_finds 40 = .ok (.iconst 4, 1) := by decide +kernel
theorem dX12_finds_41 : decode cX12_finds 41 = .ok (.if_icmp .ne 13, 3) := by decide +kernel
theorem dX12_finds_44 : decode cX12_finds 44 = .ok (.aload_n 0, 1) := by decide +kernel
theorem dX12_finds_45 : decode cX12_finds 45 = .ok (.aload_n 0, 1) := by decide +kernel
theorem dX12_finds_46 : decode cX12_finds 46 = .ok (.getfield 54, 3) := by decide +kernel
theorem dX12_finds_49 : decode cX12_finds 49 = .ok (.iload_n 1, 1) := by decide +kernel
theorem dX12_finds_50 : decode cX12_finds 50 = .ok (.iaload, 1) := by decide +kernel
theorem dX12_finds_51 : decode cX12_finds 51 = .ok (.invokevirtual 150, 3) := by decide +kernel
theorem dX12_finds_54 : decode cX12_finds 54 = .ok (.aload_n 0, 1) := by decide +kernel
theorem dX12_finds_55 : decode cX12_finds 55 = .ok (.aload_n 0, 1) := by decide +kernel
theorem dX12_finds_56 : decode cX12_finds 56 = .ok (.getfield 94, 3) := by decide +kernel
theorem dX12_finds_59 : decode cX12_finds 59 = .ok (.putfield 100, 3) := by decide +kernel
theorem dX12_finds_62 : decode cX12_finds 62 = .ok (.iconst 0, 1) := by decide +kernel
theorem dX12_finds_63 : decode cX12_finds 63 = .ok (.istore_n 2, 1) := by decide +kernel
theorem dX12_finds_64 : decode cX12_finds 64 = .ok (.iload_n 2, 1) := by decide +kernel
theorem dX12_finds_65 : decode cX12_finds 65 = .ok (.aload_n 0, 1) := by decide +kernel
theorem dX12_finds_66 : decode cX12_finds 66 = .ok (.getfield 94, 3) := by decide +kernel
theorem dX12_finds_69 : decode cX12_finds 69 = .ok (.if_icmp .ge 21, 3) := by decide +kernel
theorem dX12_finds_72 : decode cX12_finds 72 = .ok (.aload_n 0, 1) := by decide +kernel
theorem dX12_finds_73 : decode cX12_finds 73 = .ok (.getfield 72, 3) := by decide +kernel
theorem dX12_finds_76 : decode cX12_finds 76 = .ok (.iload_n 2, 1) := by decide +kernel
theorem dX12_finds_77 : decode cX12_finds 77 = .ok (.aload_n 0, 1) := by decide +kernel
theorem dX12_finds_78 : decode cX12_finds 78 = .ok (.getfield 75, 3) := by decide +kernel
theorem dX12_finds_81 : decode cX12_finds 81 = .ok (.iload_n 2, 1) := by decide +kernel
theorem dX12_finds_82 : decode cX12_finds 82 = .ok (.iaload, 1) := by decide +kernel
theorem dX12_finds_83 : decode cX12_finds 83 = .ok (.iastore, 1) := by decide +kernel
theorem dX12_finds_84 : decode cX12_finds 84 = .ok (.iinc 2 1, 3) := by decide +kernel
theorem dX12_finds_87 : decode cX12_finds 87 = .ok (.goto (-23), 3) := by decide +kernel
theorem dX12_finds_90 : decode cX12_finds 90 = .ok (.aload_n 0, 1) := by decide +kernel
theorem dX12_finds_91 : decode cX12_finds 91 = .ok (.invokevirtual 153, 3) := by decide +kernel
theorem dX12_finds_94 : decode cX12_finds 94 = .ok (.ireturn, 1) := by decide +kernel
theorem dX12_finds_95 : decode cX12_finds 95 = .ok (.aload_n 0, 1) := by decide +kernel
theorem dX12_finds_96 : decode cX12_finds 96 = .ok (.aload_n 0, 1) := by decide +kernel
theorem dX12_finds_97 : decode cX12_finds 97 = .ok (.getfield 51, 3) := by decide +kernel
theorem dX12_finds_100 : decode cX12_finds 100 = .ok (.iload_n 1, 1) := by decide +kernel
theorem dX12_finds_101 : decode cX12_finds 101 = .ok (.iaload, 1) := by decide +kernel
theorem dX12_finds_102 : decode cX12_finds 102 = .ok (.invokevirtual 144, 3) := by decide +kernel
theorem dX12_finds_105 : decode cX12_finds 105 = .ok (.i2l, 1) := by decide +kernel
theorem dX12_finds_106 : decode cX12_finds 106 = .ok (.lstore_n 2, 1) := by decide +kernel
theorem dX12_finds_107 : decode cX12_finds 107 = .ok (.aload_n 0, 1) := by decide +kernel
theorem dX12_finds_108 : decode cX12_finds 108 = .ok (.aload_n 0, 1) := by decide +kernel
theorem dX12_finds_109 : decode cX12_finds 109 = .ok (.getfield 54, 3) := by decide +kernel
theorem dX12_finds_112 : decode cX12_finds 112 = .ok (.iload_n 1, 1) := by decide +kernel
theorem dX12_finds_113 : decode cX12_finds 113 = .ok (.iaload, 1) := by decide +kernel
theorem dX12_finds_114 : decode cX12_finds 114 = .ok (.invokevirtual 144, 3) := by decide +kernel
theorem dX12_finds_117 : decode cX12_finds 117 = .ok (.i2l, 1) := by decide +kernel
theorem dX12_finds_118 : decode cX12_finds 118 = .ok (.lstore 4, 2) := by decide +kernel
theorem dX12_finds_120 : decode cX12_finds 120 = .ok (.aload_n 0, 1) := by decide +kernel
theorem dX12_finds_121 : decode cX12_finds 121 = .ok (.getfield 48, 3) := by decide +kernel
theorem dX12_finds_124 : decode cX12_finds 124 = .ok (.iload_n 1, 1) := by decide +kernel
theorem dX12_finds_125 : decode cX12_finds 125 = .ok (.iaload, 1) := by decide +kernel
theorem dX12_finds_126 : decode cX12_finds 126 = .ok (.iconst 1, 1) := by decide +kernel
theorem dX12_finds_127 : decode cX12_finds 127 = .ok (.if_icmp .ne 10, 3) := by decide +kernel
theorem dX12_finds_130 : decode cX12_finds 130 = .ok (.lload_n 2, 1) := by decide +kernel
theorem dX12_finds_131 : decode cX12_finds 131 = .ok (.lload 4, 2) := by decide +kernel
theorem dX12_finds_133 : decode cX12_finds 133 = .ok (.ladd, 1) := by decide +kernel
theorem dX12_finds_134 : decode cX12_finds 134 = .ok (.goto 24, 3) := by decide +kernel
theorem dX12_finds_137 : decode cX12_finds 137 = .ok (.aload_n 0, 1) := by decide +kernel
theorem dX12_finds_138 : decode cX12_finds 138 = .ok (.getfield 48, 3) := by decide +kernel
theorem dX12_finds_141 : decode cX12_finds 141 = .ok (.iload_n 1, 1) := by decide +kernel
theorem dX12_finds_142 : decode cX12_finds 142 = .ok (.iaload, 1) := by decide +kernel
theorem dX12_finds_143 : decode cX12_finds 143 = .ok (.iconst 2, 1) := by decide +kernel
theorem dX12_finds_144 : decode cX12_finds 144 = .ok (.if_icmp .ne 10, 3) := by decide +kernel
theorem dX12_finds_147 : decode cX12_finds 147 = .ok (.lload_n 2, 1) := by decide +kernel
theorem dX12_finds_148 : decode cX12_finds 148 = .ok (.lload 4, 2) := by decide +kernel
theorem dX12_finds_150 : decode cX12_finds 150 = .ok (.lsub, 1) := by decide +kernel
theorem dX12_finds_151 : decode cX12_finds 151 = .ok (.goto 7, 3) := by decide +kernel
theorem dX12_finds_154 : decode cX12_finds 154 = .ok (.lload_n 2, 1) := by decide +kernel
theorem dX12_finds_155 : decode cX12_finds 155 = .ok (.lload 4, 2) := by decide +kernel
theorem dX12_finds_157 : decode cX12_finds 157 = .ok (.lmul, 1) := by decide +kernel
theorem dX12_finds_158 : decode cX12_finds 158 = .ok (.lstore 6, 2) := by decide +kernel
theorem dX12_finds_160 : decode cX12_finds 160 = .ok (.aload_n 0, 1) := by decide +kernel
theorem dX12_finds_161 : decode cX12_finds 161 = .ok (.lload 6, 2) := by decide +kernel
theorem dX12_finds_163 : decode cX12_finds 163 = .ok (.invokevirtual 157, 3) := by decide +kernel
theorem dX12_finds_166 : decode cX12_finds 166 = .ok (.istore 8, 2) := by decide +kernel
theorem dX12_finds_168 : decode cX12_finds 168 = .ok (.aload_n 0, 1) := by decide +kernel
theorem dX12_finds_169 : decode cX12_finds 169 = .ok (.iload 8, 2) := by decide +kernel
theorem dX12_finds_171 : decode cX12_finds 171 = .ok (.invokevirtual 147, 3) := by decide +kernel
theorem dX12_finds_174 : decode cX12_finds 174 = .ok (.aload_n 0, 1) := by decide +kernel
theorem dX12_finds_175 : decode cX12_finds 175 = .ok (.invokevirtual 153, 3) := by decide +kernel
theorem dX12_finds_178 : decode cX12_finds 178 = .ok (.ireturn, 1) := by decide +kernel
theorem dX12_fits_0 : decode cX12_fits 0 = .ok (.lload_n 1, 1) := by decide +kernel
theorem dX12_fits_1 : decode cX12_fits 1 = .ok (.ldc2_w 161, 3) := by decide +kernel
theorem dX12_fits_4 : decode cX12_fits 4 = .ok (.lcmp, 1) := by decide +kernel
theorem dX12_fits_5 : decode cX12_fits 5 = .ok (.ifCond .lt 15, 3) := by decide +kernel
theorem dX12_fits_8 : decode cX12_fits 8 = .ok (.lload_n 1, 1) := by decide +kernel
theorem dX12_fits_9 : decode cX12_fits 9 = .ok (.ldc2_w 163, 3) := by decide +kernel
theorem dX12_fits_12 : decode cX12_fits 12 = .ok (.lcmp, 1) := by decide +kernel
theorem dX12_fits_13 : decode cX12_fits 13 = .ok (.ifCond .gt 7, 3) := by decide +kernel
theorem dX12_fits_16 : decode cX12_fits 16 = .ok (.iconst 1, 1) := by decide +kernel
theorem dX12_fits_17 : decode cX12_fits 17 = .ok (.goto 4, 3) := by decide +kernel
theorem dX12_fits_20 : decode cX12_fits 20 = .ok (.iconst 0, 1) := by decide +kernel
theorem dX12_fits_21 : decode cX12_fits 21 = .ok (.istore_n 3, 1) := by decide +kernel
theorem dX12_fits_22 : decode cX12_fits 22 = .ok (.aload_n 0, 1) := by decide +kernel
theorem dX12_fits_23 : decode cX12_fits 23 = .ok (.dup, 1) := by decide +kernel
theorem dX12_fits_24 : decode cX12_fits 24 = .ok (.getfield 165, 3) := by decide +kernel
theorem dX12_fits_27 : decode cX12_fits 27 = .ok (.iload_n 3, 1) := by decide +kernel
theorem dX12_fits_28 : decode cX12_fits 28 = .ok (.ifCond .eq 7, 3) := by decide +kernel
theorem dX12_fits_31 : decode cX12_fits 31 = .ok (.iconst 0, 1) := by decide +kernel
theorem dX12_fits_32 : decode cX12_fits 32 = .ok (.goto 4, 3) := by decide +kernel
theorem dX12_fits_35 : decode cX12_fits 35 = .ok (.iconst 1, 1) := by decide +kernel
theorem dX12_fits_36 : decode cX12_fits 36 = .ok (.iadd, 1) := by decide +kernel
theorem dX12_fits_37 : decode cX12_fits 37 = .ok (.putfield 165, 3) := by decide +kernel
theorem dX12_fits_40 : decode cX12_fits 40 = .ok (.iload_n 3, 1) := by decide +kernel
theorem dX12_fits_41 : decode cX12_fits 41 = .ok (.ifCond .eq 8, 3) := by decide +kernel
theorem dX12_fits_44 : decode cX12_fits 44 = .ok (.lload_n 1, 1) := by decide +kernel
theorem dX12_fits_45 : decode cX12_fits 45 = .ok (.l2i, 1) := by decide +kernel
theorem dX12_fits_46 : decode cX12_fits 46 = .ok (.goto 4, 3) := by decide +kernel
theorem dX12_fits_49 : decode cX12_fits 49 = .ok (.iconst 0, 1) := by decide +kernel
theorem dX12_fits_50 : decode cX12_fits 50 = .ok (.ireturn, 1) := by decide +kernel
set_option maxRecDepth 20000 in
theorem ggX12_numberOfValue_X12_isDigit : GoodIn wsX12_numberOfValue wsX12_isDigit := goodIn_r _ [6, 7, 8, 5, 9] (by decide +kernel) (by decide +kernel)
set_option maxRecDepth 20000 in
theorem gX12_numberOfValue_X12_isDigit : GoodIn wsX12_numberOfValue (va_wsS RX12 120 yX12_isDigit wsX12_isDigit) := goodIn_app (goodIn_of _ (by decide +kernel)) ggX12_numberOfValue_X12_isDigit
theorem dX12_numberOfValue_0 : decode cX12_numberOfValue 0 = .ok (.aload_n 0, 1) := by decide +kernel
theorem dX12_numberOfValue_1 : decode cX12_numberOfValue 1 = .ok (.getfield 100, 3) := by decide +kernel
theorem dX12_numberOfValue_4 : decode cX12_numberOfValue 4 = .ok (.ifCond .le 18, 3) := by decide +kernel
theorem dX12_numberOfValue_7 : decode cX12_numberOfValue 7 = .ok (.aload_n 0, 1) := by decide +kernel
theorem dX12_numberOfValue_8 : decode cX12_numberOfValue 8 = .ok (.getfield 72, 3) := by decide +kernel
theorem dX12_numberOfValue_11 : decode cX12_numberOfValue 11 = .ok (.iconst 0, 1) := by decide +kernel
theorem dX12_numberOfValue_12 : decode cX12_numberOfValue 12 = .ok (.iaload, 1) := by decide +kernel
theorem dX12_numberOfValue_13 : decode cX12_numberOfValue 13 = .ok (.bipush 45, 2) := by decide +kernel
theorem dX12_numberOfValue_15 : decode cX12_numberOfValue 15 = .ok (.if_icmp .ne 7, 3) := by decide +kernel
theorem dX12_numberOfValue_18 : decode cX12_numberOfValue 18 = .ok (.iconst 1, 1) := by decide +kernel
theorem dX12_numberOfValue_19 : decode cX12_numberOfValue 19 = .ok (.goto 4, 3) := by decide +kernel
theorem dX12_numberOfValue_22 : decode cX12_numberOfValue 22 = .ok (.iconst 0, 1) := by decide +kernel
theorem dX12_numberOfValue_23 : decode cX12_numberOfValue 23 = .ok (.istore_n 1, 1) := by decide +kernel
theorem dX12_numberOfValue_24 : decode cX12_numberOfValue 24 = .ok (.iconst 0, 1) := by decide +kernel
theorem dX12_numberOfValue_25 : decode cX12_numberOfValue 25 = .ok (.istore_n 2, 1) := by decide +kernel
theorem dX12_numberOfValue_26 : decode cX12_numberOfValue 26 = .ok (.iload_n 1, 1) := by decide +kernel
theorem dX12_numberOfValue_27 : decode cX12_numberOfValue 27 = .ok (.istore_n 3, 1) := by decide +kernel
theorem dX12_numberOfValue_28 : decode cX12_numberOfValue 28 = .ok (.iload_n 3, 1) := by decide +kernel
theorem dX12_numberOfValue_29 : decode cX12_numberOfValue 29 = .ok (.aload_n 0, 1) := by decide +kernel
theorem dX12_numberOfValue_30 : decode cX12_numberOfValue 30 = .ok (.getfield 100, 3) := by decide +kernel
theorem dX12_numberOfValue_33 : decode cX12_numberOfValue 33 = .ok (.if_icmp .ge 44, 3) := by decide +kernel
theorem dX12_numberOfValue_36 : decode cX12_numberOfValue 36 = .ok (.iload_n 3, 1) := by decide +kernel
theorem dX12_numberOfValue_37 : decode cX12_numberOfValue 37 = .ok (.iload_n 1, 1) := by decide +kernel
theorem dX12_numberOfValue_38 : decode cX12_numberOfValue 38 = .ok (.bipush 9, 2) := by decide +kernel
theorem dX12_numberOfValue_40 : decode cX12_numberOfValue 40 = .ok (.iadd, 1) := by decide +kernel
theorem dX12_numberOfValue_41 : decode cX12_numberOfValue 41 = .ok (.if_icmp .ge 36, 3) := by decide +kernel
theorem dX12_numberOfValue_44 : decode cX12_numberOfValue 44 = .ok (.aload_n 0, 1) := by decide +kernel
theorem dX12_numberOfValue_45 : decode cX12_numberOfValue 45 = .ok (.getfield 72, 3) := by decide +kernel
theorem dX12_numberOfValue_48 : decode cX12_numberOfValue 48 = .ok (.iload_n 3, 1) := by decide +kernel
theorem dX12_numberOfValue_49 : decode cX12_numberOfValue 49 = .ok (.iaload, 1) := by decide +kernel
theorem dX12_numberOfValue_50 : decode cX12_numberOfValue 50 = .ok (.invokestatic 120, 3) := by decide +kernel
theorem dX12_numberOfValue_53 : decode cX12_numberOfValue 53 = .ok (.ifCond .eq 24, 3) := by decide +kernel
theorem dX12_numberOfValue_56 : decode cX12_numberOfValue 56 = .ok (.bipush 10, 2) := by decide +kernel
theorem dX12_numberOfValue_58 : decode cX12_numberOfValue 58 = .ok (.iload_n 2, 1) := by decide +kernel
theorem dX12_numberOfValue_59 : decode cX12_numberOfValue 59 = .ok (.imul, 1) := by decide +kernel
theorem dX12_numberOfValue_60 : decode cX12_numberOfValue 60 = .ok (.aload_n 0, 1) := by decide +kernel
theorem dX12_numberOfValue_61 : decode cX12_numberOfValue 61 = .ok (.getfield 72, 3) := by decide +kernel
theorem dX12_numberOfValue_64 : decode cX12_numberOfValue 64 = .ok (.iload_n 3, 1) := by decide +kernel
theorem dX12_numberOfValue_65 : decode cX12_numberOfValue 65 = .ok (.iaload, 1) := by decide +kernel
theorem dX12_numberOfValue_66 : decode cX12_numberOfValue 66 = .ok (.iadd, 1) := by decide +kernel
theorem dX12_numberOfValue_67 : decode cX12_numberOfValue 67 = .ok (.bipush 48, 2) := by decide +kernel
theorem dX12_numberOfValue_69 : decode cX12_numberOfValue 69 = .ok (.isub, 1) := by decide +kernel
theorem dX12_numberOfValue_70 : decode cX12_numberOfValue 70 = .ok (.istore_n 2, 1) := by decide +kernel
theorem dX12_numberOfValue_71 : decode cX12_numberOfValue 71 = .ok (.iinc 3 1, 3) := by decide +kernel
theorem dX12_numberOfValue_74 : decode cX12_numberOfValue 74 = .ok (.goto (-46), 3) := by decide +kernel
theorem dX12_numberOfValue_77 : decode cX12_numberOfValue 77 = .ok (.iload_n 1, 1) := by decide +kernel
theorem dX12_numberOfValue_78 : decode cX12_numberOfValue 78 = .ok (.iconst 1, 1) := by decide +kernel
theorem dX12_numberOfValue_79 : decode cX12_numberOfValue 79 = .ok (.if_icmp .ne 8, 3) := by decide +kernel
theorem dX12_numberOfValue_82 : decode cX12_numberOfValue 82 = .ok (.iload_n 2, 1) := by decide +kernel
theorem dX12_numberOfValue_83 : decode cX12_numberOfValue 83 = .ok (.ineg, 1) := by decide +kernel
theorem dX12_numberOfValue_84 : decode cX12_numberOfValue 84 = .ok (.goto 4, 3) := by decide +kernel
theorem dX12_numberOfValue_87 : decode cX12_numberOfValue 87 = .ok (.iload_n 2, 1) := by decide +kernel
theorem dX12_numberOfValue_88 : decode cX12_numberOfValue 88 = .ok (.ireturn, 1) := by decide +kernel
set_option maxRecDepth 20000 in
theorem ggX12_rule_X12_isIn : GoodIn wsX12_rule wsX12_isIn := goodIn_r _ [8] (by decide +kernel) (by decide +kernel)
set_option maxRecDepth 20000 in
theorem gX12_rule_X12_isIn : GoodIn wsX12_rule (va_wsS RX12 84 yX12_isIn wsX12_isIn) := goodIn_app (goodIn_of _ (by decide +kernel)) ggX12_rule_X12_isIn
set_option maxRecDepth 20000 in
theorem ggX12_rule_X12_fails : GoodIn wsX12_rule wsX12_fails := goodIn_r _ [12, 13, 14, 15, 16, 17, 18, 19, 20, 21, 22, 23, 24, 25, 26, 27, 28, 29, 30, 31, 32, 33, 34, 35, 36, 37, 38, 39, 40, 41, 42, 43, 44, 45, 46, 47] (by decide +kernel) (by decide +kernel)
set_option maxRecDepth 20000 in
theorem gX12_rule_X12_fails : GoodIn wsX12_rule (wsV RX12 171 RX12 yX12_fails wsX12_fails) := goodIn_app (goodIn_of _ (by decide +kernel)) ggX12_rule_X12_fails
theorem dX12_rule_0 : decode cX12_rule 0 = .ok (.iload_n 1, 1) := by decide +kernel
theorem dX12_rule_1 : decode cX12_rule 1 = .ok (.iconst 0, 1) := by decide +kernel
theorem dX12_rule_2 : decode cX12_rule 2 = .ok (.iconst 3, 1) := by decide +kernel
theorem dX12_rule_3 : decode cX12_rule 3 = .ok (.invokestatic 84, 3) := by decide +kernel
theorem dX12_rule_6 : decode cX12_rule 6 = .ok (.ifCond .eq 53, 3) := by decide +kernel
theorem dX12_rule_9 : decode cX12_rule 9 = .ok (.iload_n 1, 1) := by decide +kernel
theorem dX12_rule_10 : decode cX12_rule 10 = .ok (.ifCond .eq 45, 3) := by decide +kernel
theorem dX12_rule_13 : decode cX12_rule 13 = .ok (.iload_n 2, 1) := by decide +kernel
theorem dX12_rule_14 : decode cX12_rule 14 = .ok (.iconst 0, 1) := by decide +kernel
theorem dX12_rule_15 : decode cX12_rule 15 = .ok (.iload_n 1, 1) := by decide +kernel
theorem dX12_rule_16 : decode cX12_rule 16 = .ok (.iconst 3, 1) := by decide +kernel
theorem dX12_rule_17 : decode cX12_rule 17 = .ok (.if_icmp .ne 9, 3) := by decide +kernel
theorem dX12_rule_20 : decode cX12_rule 20 = .ok (.sipush 9999, 3) := by decide +kernel
theorem dX12_rule_23 : decode cX12_rule 23 = .ok (.goto 5, 3) := by decide +kernel
theorem dX12_rule_26 : decode cX12_rule 26 = .ok (.bipush 12, 2) := by decide +kernel
theorem dX12_rule_28 : decode cX12_rule 28 = .ok (.invokestatic 84, 3) := by decide +kernel
theorem dX12_rule_31 : decode cX12_rule 31 = .ok (.ifCond .eq 28, 3) := by decide +kernel
theorem dX12_rule_34 : decode cX12_rule 34 = .ok (.iload_n 3, 1) := by decide +kernel
theorem dX12_rule_35 : decode cX12_rule 35 = .ok (.iconst 0, 1) := by decide +kernel
theorem dX12_rule_36 : decode cX12_rule 36 = .ok (.iload_n 1, 1) := by decide +kernel
theorem dX12_rule_37 : decode cX12_rule 37 = .ok (.iconst 2, 1) := by decide +kernel
theorem dX12_rule_38 : decode cX12_rule 38 = .ok (.if_icmp .ne 8, 3) := by decide +kernel
theorem dX12_rule_41 : decode cX12_rule 41 = .ok (.bipush 12, 2) := by decide +kernel
theorem dX12_rule_43 : decode cX12_rule 43 = .ok (.goto 6, 3) := by decide +kernel
theorem dX12_rule_46 : decode cX12_rule 46 = .ok (.sipush 9999, 3) := by decide +kernel
theorem dX12_rule_49 : decode cX12_rule 49 = .ok (.invokestatic 84, 3) := by decide +kernel
theorem dX12_rule_52 : decode cX12_rule 52 = .ok (.ifCond .eq 7, 3) := by decide +kernel
theorem dX12_rule_55 : decode cX12_rule 55 = .ok (.iconst 1, 1) := by decide +kernel
theorem dX12_rule_56 : decode cX12_rule 56 = .ok (.goto 4, 3) := by decide +kernel
theorem dX12_rule_59 : decode cX12_rule 59 = .ok (.iconst 0, 1) := by decide +kernel
theorem dX12_rule_60 : decode cX12_rule 60 = .ok (.istore 4, 2) := by decide +kernel
theorem dX12_rule_62 : decode cX12_rule 62 = .ok (.aload_n 0, 1) := by decide +kernel
theorem dX12_rule_63 : decode cX12_rule 63 = .ok (.iload 4, 2) := by decide +kernel
theorem dX12_rule_65 : decode cX12_rule 65 = .ok (.ifCond .ne 7, 3) := by decide +kernel
theorem dX12_rule_68 : decode cX12_rule 68 = .ok (.iconst 1, 1) := by decide +kernel
theorem dX12_rule_69 : decode cX12_rule 69 = .ok (.goto 17, 3) := by decide +kernel
theorem dX12_rule_72 : decode cX12_rule 72 = .ok (.aload_n 0, 1) := by decide +kernel
theorem dX12_rule_73 : decode cX12_rule 73 = .ok (.getfield 168, 3) := by decide +kernel
theorem dX12_rule_76 : decode cX12_rule 76 = .ok (.bipush 8, 2) := by decide +kernel
theorem dX12_rule_78 : decode cX12_rule 78 = .ok (.if_icmp .ne 7, 3) := by decide +kernel
theorem dX12_rule_81 : decode cX12_rule 81 = .ok (.iconst 2, 1) := by decide +kernel
theorem dX12_rule_82 : decode cX12_rule 82 = .ok (.goto 4, 3) := by decide +kernel
theorem dX12_rule_85 : decode cX12_rule 85 = .ok (.iconst 0, 1) := by decide +kernel
theorem dX12_rule_86 : decode cX12_rule 86 = .ok (.invokevirtual 171, 3) := by decide +kernel
theorem dX12_rule_89 : decode cX12_rule 89 = .ok (.ifCond .eq 5, 3) := by decide +kernel
theorem dX12_rule_92 : decode cX12_rule 92 = .ok (.iconst 0, 1) := by decide +kernel
theorem dX12_rule_93 : decode cX12_rule 93 = .ok (.ireturn, 1) := by decide +kernel
theorem dX12_rule_94 : decode cX12_rule 94 = .ok (.aload_n 0, 1) := by decide +kernel
theorem dX12_rule_95 : decode cX12_rule 95 = .ok (.getfield 26, 3) := by decide +kernel
theorem dX12_rule_98 : decode cX12_rule 98 = .ok (.aload_n 0, 1) := by decide +kernel
theorem dX12_rule_99 : decode cX12_rule 99 = .ok (.getfield 168, 3) := by decide +kernel
theorem dX12_rule_102 : decode cX12_rule 102 = .ok (.iload_n 1, 1) := by decide +kernel
theorem dX12_rule_103 : decode cX12_rule 103 = .ok (.iastore, 1) := by decide +kernel
theorem dX12_rule_104 : decode cX12_rule 104 = .ok (.aload_n 0, 1) := by decide +kernel
theorem dX12_rule_105 : decode cX12_rule 105 = .ok (.getfield 29, 3) := by decide +kernel
theorem dX12_rule_108 : decode cX12_rule 108 = .ok (.aload_n 0, 1) := by decide +kernel
theorem dX12_rule_109 : decode cX12_rule 109 = .ok (.getfield 168, 3) := by decide +kernel
theorem dX12_rule_112 : decode cX12_rule 112 = .ok (.iload_n 2, 1) := by decide +kernel
theorem dX12_rule_113 : decode cX12_rule 113 = .ok (.iastore, 1) := by decide +kernel
theorem dX12_rule_114 : decode cX12_rule 114 = .ok (.aload_n 0, 1) := by decide +kernel
theorem dX12_rule_115 : decode cX12_rule 115 = .ok (.getfield 32, 3) := by decide +kernel
theorem dX12_rule_118 : decode cX12_rule 118 = .ok (.aload_n 0, 1) := by decide +kernel
theorem dX12_rule_119 : decode cX12_rule 119 = .ok (.getfield 168, 3) := by decide +kernel
theorem dX12_rule_122 : decode cX12_rule 122 = .ok (.iload_n 3, 1) := by decide +kernel
theorem dX12_rule_123 : decode cX12_rule 123 = .ok (.iastore, 1) := by decide +kernel
theorem dX12_rule_124 : decode cX12_rule 124 = .ok (.aload_n 0, 1) := by decide +kernel
theorem dX12_rule_125 : decode cX12_rule 125 = .ok (.dup, 1) := by decide +kernel
theorem dX12_rule_126 : decode cX12_rule 126 = .ok (.getfield 168, 3) := by decide +kernel
theorem dX12_rule_129 : decode cX12_rule 129 = .ok (.iconst 1, 1) := by decide +kernel
theorem dX12_rule_130 : decode cX12_rule 130 = .ok (.iadd, 1) := by decide +kernel
theorem dX12_rule_131 : decode cX12_rule 131 = .ok (.putfield 168, 3) := by decide +kernel
theorem dX12_rule_134 : decode cX12_rule 134 = .ok (.aload_n 0, 1) := by decide +kernel
theorem dX12_rule_135 : decode cX12_rule 135 = .ok (.getfield 168, 3) := by decide +kernel
theorem dX12_rule_138 : decode cX12_rule 138 = .ok (.iconst 1, 1) := by decide +kernel
theorem dX12_rule_139 : decode cX12_rule 139 = .ok (.isub, 1) := by decide +kernel
theorem dX12_rule_140 : decode cX12_rule 140 = .ok (.ireturn, 1) := by decide +kernel
set_option maxRecDepth 20000 in
theorem ggX12_act_X12_isIn : GoodIn wsX12_act wsX12_isIn := goodIn_r _ [11] (by decide +kernel) (by decide +kernel)
set_option maxRecDepth 20000 in
theorem gX12_act_X12_isIn : GoodIn wsX12_act (va_wsS RX12 84 yX12_isIn wsX12_isIn) := goodIn_app (goodIn_of _ (by decide +kernel)) ggX12_act_X12_isIn
set_option maxRecDepth 20000 in
theorem ggX12_act_X12_isField : GoodIn wsX12_act wsX12_isField := goodIn_r _ [14, 8, 9, 10, 11] (by decide +kernel) (by decide +kernel)
set_option maxRecDepth 20000 in
theorem gX12_act_X12_isField : GoodIn wsX12_act (va_wsS RX12 174 yX12_isField wsX12_isField) := goodIn_app (goodIn_of _ (by decide +kernel)) ggX12_act_X12_isField
set_option maxRecDepth 20000 in
theorem ggX12_act_X12_isOperand : GoodIn wsX12_act wsX12_isOperand := goodIn_r _ [17, 8, 9, 10, 11] (by decide +kernel) (by decide +kernel)
set_option maxRecDepth 20000 in
theorem gX12_act_X12_isOperand : GoodIn wsX12_act (va_wsS RX12 177 yX12_isOperand wsX12_isOperand) := goodIn_app (goodIn_of _ (by decide +kernel)) ggX12_act_X12_isOperand
set_option maxRecDepth 20000 in
theorem ggX12_act_X12_fails : GoodIn wsX12_act wsX12_fails := goodIn_r _ [21, 22, 23, 24, 25, 26, 27, 28, 29, 30, 31, 32, 33, 34, 35, 36, 37, 38, 39, 40, 41, 42, 43, 44, 45, 46, 47, 48, 49, 50, 51, 52, 53, 54, 55, 56] (by decide +kernel) (by decide +kernel)
set_option maxRecDepth 20000 in
theorem gX12_act_X12_fails : GoodIn wsX12_act (wsV RX12 171 RX12 yX12_fails wsX12_fails) := goodIn_app (goodIn_of _ (by decide +kernel)) ggX12_act_X12_fails
theorem dX12_act_0 : decode cX12_act 0 = .ok (.iload_n 1, 1) := by decide +kernel
theorem dX12_act_1 : decode cX12_act 1 = .ok (.iconst 0, 1) := by decide +kernel
theorem dX12_act_2 : decode cX12_act 2 = .ok (.aload_n 0, 1) := by decide +kernel
theorem dX12_act_3 : decode cX12_act 3 = .ok (.getfield 168, 3) := by decide +kernel
theorem dX12_act_6 : decode cX12_act 6 = .ok (.iconst 1, 1) := by decide +kernel
theorem dX12_act_7 : decode cX12_act 7 = .ok (.isub, 1) := by decide +kernel
theorem dX12_act_8 : decode cX12_act 8 = .ok (.invokestatic 84, 3) := by decide +kernel
theorem dX12_act_11 : decode cX12_act 11 = .ok (.istore 7, 2) := by decide +kernel
theorem dX12_act_13 : decode cX12_act 13 = .ok (.iload_n 2, 1) := by decide +kernel
theorem dX12_act_14 : decode cX12_act 14 = .ok (.iconst 0, 1) := by decide +kernel
theorem dX12_act_15 : decode cX12_act 15 = .ok (.iconst 4, 1) := by decide +kernel
theorem dX12_act_16 : decode cX12_act 16 = .ok (.invokestatic 84, 3) := by decide +kernel
theorem dX12_act_19 : decode cX12_act 19 = .ok (.ifCond .eq 40, 3) := by decide +kernel
theorem dX12_act_22 : decode cX12_act 22 = .ok (.iload_n 3, 1) := by decide +kernel
theorem dX12_act_23 : decode cX12_act 23 = .ok (.invokestatic 174, 3) := by decide +kernel
theorem dX12_act_26 : decode cX12_act 26 = .ok (.ifCond .eq 33, 3) := by decide +kernel
theorem dX12_act_29 : decode cX12_act 29 = .ok (.iload 4, 2) := by decide +kernel
theorem dX12_act_31 : decode cX12_act 31 = .ok (.iconst 0, 1) := by decide +kernel
theorem dX12_act_32 : decode cX12_act 32 = .ok (.iconst 4, 1) := by decide +kernel
theorem dX12_act_33 : decode cX12_act 33 = .ok (.invokestatic 84, 3) := by decide +kernel
theorem dX12_act_36 : decode cX12_act 36 = .ok (.ifCond .eq 23, 3) := by decide +kernel
theorem dX12_act_39 : decode cX12_act 39 = .ok (.iload 5, 2) := by decide +kernel
theorem dX12_act_41 : decode cX12_act 41 = .ok (.invokestatic 177, 3) := by decide +kernel
theorem dX12_act_44 : decode cX12_act 44 = .ok (.ifCond .eq 15, 3) := by decide +kernel
theorem dX12_act_47 : decode cX12_act 47 = .ok (.iload 6, 2) := by decide +kernel
theorem dX12_act_49 : decode cX12_act 49 = .ok (.invokestatic 177, 3) := by decide +kernel
theorem dX12_act_52 : decode cX12_act 52 = .ok (.ifCond .eq 7, 3) := by decide +kernel
theorem dX12_act_55 : decode cX12_act 55 = .ok (.iconst 1, 1) := by decide +kernel
theorem dX12_act_56 : decode cX12_act 56 = .ok (.goto 4, 3) := by decide +kernel
theorem dX12_act_59 : decode cX12_act 59 = .ok (.iconst 0, 1) := by decide +kernel
theorem dX12_act_60 : decode cX12_act 60 = .ok (.istore 8, 2) := by decide +kernel
theorem dX12_act_62 : decode cX12_act 62 = .ok (.aload_n 0, 1) := by decide +kernel
theorem dX12_act_63 : decode cX12_act 63 = .ok (.iload 7, 2) := by decide +kernel
theorem dX12_act_65 : decode cX12_act 65 = .ok (.ifCond .ne 7, 3) := by decide +kernel
theorem dX12_act_68 : decode cX12_act 68 = .ok (.iconst 1, 1) := by decide +kernel
theorem dX12_act_69 : decode cX12_act 69 = .ok (.goto 28, 3) := by decide +kernel
theorem dX12_act_72 : decode cX12_act 72 = .ok (.iload 8, 2) := by decide +kernel
theorem dX12_act_74 : decode cX12_act 74 = .ok (.ifCond .ne 7, 3) := by decide +kernel
theorem dX12_act_77 : decode cX12_act 77 = .ok (.iconst 2, 1) := by decide +kernel
theorem dX12_act_78 : decode cX12_act 78 = .ok (.goto 19, 3) := by decide +kernel
theorem dX12_act_81 : decode cX12_act 81 = .ok (.aload_n 0, 1) := by decide +kernel
theorem dX12_act_82 : decode cX12_act 82 = .ok (.getfield 39, 3) := by decide +kernel
theorem dX12_act_85 : decode cX12_act 85 = .ok (.iload_n 1, 1) := by decide +kernel
theorem dX12_act_86 : decode cX12_act 86 = .ok (.iaload, 1) := by decide +kernel
theorem dX12_act_87 : decode cX12_act 87 = .ok (.bipush 6, 2) := by decide +kernel
theorem dX12_act_89 : decode cX12_act 89 = .ok (.if_icmp .ne 7, 3) := by decide +kernel
theorem dX12_act_92 : decode cX12_act 92 = .ok (.iconst 3, 1) := by decide +kernel
theorem dX12_act_93 : decode cX12_act 93 = .ok (.goto 4, 3) := by decide +kernel
theorem dX12_act_96 : decode cX12_act 96 = .ok (.iconst 0, 1) := by decide +kernel
theorem dX12_act_97 : decode cX12_act 97 = .ok (.invokevirtual 171, 3) := by decide +kernel
theorem dX12_act_100 : decode cX12_act 100 = .ok (.ifCond .eq 5, 3) := by decide +kernel
theorem dX12_act_103 : decode cX12_act 103 = .ok (.iconst 0, 1) := by decide +kernel
theorem dX12_act_104 : decode cX12_act 104 = .ok (.ireturn, 1) := by decide +kernel
theorem dX12_act_105 : decode cX12_act 105 = .ok (.bipush 6, 2) := by decide +kernel
theorem dX12_act_107 : decode cX12_act 107 = .ok (.iload_n 1, 1) := by decide +kernel
theorem dX12_act_108 : decode cX12_act 108 = .ok (.imul, 1) := by decide +kernel
theorem dX12_act_109 : decode cX12_act 109 = .ok (.aload_n 0, 1) := by decide +kernel
theorem dX12_act_110 : decode cX12_act 110 = .ok (.getfield 39, 3) := by decide +kernel
theorem dX12_act_113 : decode cX12_act 113 = .ok (.iload_n 1, 1) := by decide +kernel
theorem dX12_act_114 : decode cX12_act 114 = .ok (.iaload, 1) := by decide +kernel
theorem dX12_act_115 : decode cX12_act 115 = .ok (.iadd, 1) := by decide +kernel
theorem dX12_act_116 : decode cX12_act 116 = .ok (.istore 9, 2) := by decide +kernel
theorem dX12_act_118 : decode cX12_act 118 = .ok (.aload_n 0, 1) := by decide +kernel
theorem dX12_act_119 : decode cX12_act 119 = .ok (.getfield 42, 3) := by decide +kernel
theorem dX12_act_122 : decode cX12_act 122 = .ok (.iload 9, 2) := by decide +kernel
theorem dX12_act_124 : decode cX12_act 124 = .ok (.iload_n 2, 1) := by decide +kernel
theorem dX12_act_125 : decode cX12_act 125 = .ok (.iastore, 1) := by decide +kernel
theorem dX12_act_126 : decode cX12_act 126 = .ok (.aload_n 0, 1) := by decide +kernel
