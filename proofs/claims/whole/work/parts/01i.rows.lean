theorem dX12_act_127 : decode cX12_act 127 = .ok (.getfield 45, 3) := by decide +kernel
theorem dX12_act_130 : decode cX12_act 130 = .ok (.iload 9, 2) := by decide +kernel
theorem dX12_act_132 : decode cX12_act 132 = .ok (.iload_n 3, 1) := by decide +kernel
theorem dX12_act_133 : decode cX12_act 133 = .ok (.iastore, 1) := by decide +kernel
theorem dX12_act_134 : decode cX12_act 134 = .ok (.aload_n 0, 1) := by decide +kernel
theorem dX12_act_135 : decode cX12_act 135 = .ok (.getfield 48, 3) := by decide +kernel
theorem dX12_act_138 : decode cX12_act 138 = .ok (.iload 9, 2) := by decide +kernel
theorem dX12_act_140 : decode cX12_act 140 = .ok (.iload 4, 2) := by decide +kernel
theorem dX12_act_142 : decode cX12_act 142 = .ok (.iastore, 1) := by decide +kernel
theorem dX12_act_143 : decode cX12_act 143 = .ok (.aload_n 0, 1) := by decide +kernel
theorem dX12_act_144 : decode cX12_act 144 = .ok (.getfield 51, 3) := by decide +kernel
theorem dX12_act_147 : decode cX12_act 147 = .ok (.iload 9, 2) := by decide +kernel
theorem dX12_act_149 : decode cX12_act 149 = .ok (.iload 5, 2) := by decide +kernel
theorem dX12_act_151 : decode cX12_act 151 = .ok (.iastore, 1) := by decide +kernel
theorem dX12_act_152 : decode cX12_act 152 = .ok (.aload_n 0, 1) := by decide +kernel
theorem dX12_act_153 : decode cX12_act 153 = .ok (.getfield 54, 3) := by decide +kernel
theorem dX12_act_156 : decode cX12_act 156 = .ok (.iload 9, 2) := by decide +kernel
theorem dX12_act_158 : decode cX12_act 158 = .ok (.iload 6, 2) := by decide +kernel
theorem dX12_act_160 : decode cX12_act 160 = .ok (.iastore, 1) := by decide +kernel
theorem dX12_act_161 : decode cX12_act 161 = .ok (.aload_n 0, 1) := by decide +kernel
theorem dX12_act_162 : decode cX12_act 162 = .ok (.getfield 39, 3) := by decide +kernel
theorem dX12_act_165 : decode cX12_act 165 = .ok (.iload_n 1, 1) := by decide +kernel
theorem dX12_act_166 : decode cX12_act 166 = .ok (.dup2, 1) := by decide +kernel
theorem dX12_act_167 : decode cX12_act 167 = .ok (.iaload, 1) := by decide +kernel
theorem dX12_act_168 : decode cX12_act 168 = .ok (.iconst 1, 1) := by decide +kernel
theorem dX12_act_169 : decode cX12_act 169 = .ok (.iadd, 1) := by decide +kernel
theorem dX12_act_170 : decode cX12_act 170 = .ok (.iastore, 1) := by decide +kernel
theorem dX12_act_171 : decode cX12_act 171 = .ok (.aload_n 0, 1) := by decide +kernel
theorem dX12_act_172 : decode cX12_act 172 = .ok (.getfield 39, 3) := by decide +kernel
theorem dX12_act_175 : decode cX12_act 175 = .ok (.iload_n 1, 1) := by decide +kernel
theorem dX12_act_176 : decode cX12_act 176 = .ok (.iaload, 1) := by decide +kernel
theorem dX12_act_177 : decode cX12_act 177 = .ok (.ireturn, 1) := by decide +kernel
theorem dX12_useStack_0 : decode cX12_useStack 0 = .ok (.aload_n 0, 1) := by decide +kernel
theorem dX12_useStack_1 : decode cX12_useStack 1 = .ok (.iconst 0, 1) := by decide +kernel
theorem dX12_useStack_2 : decode cX12_useStack 2 = .ok (.putfield 81, 3) := by decide +kernel
theorem dX12_useStack_5 : decode cX12_useStack 5 = .ok (.return_, 1) := by decide +kernel
set_option maxRecDepth 20000 in
theorem ggX12_setSeparator_X12_isIn : GoodIn wsX12_setSeparator wsX12_isIn := goodIn_r _ [6] (by decide +kernel) (by decide +kernel)
set_option maxRecDepth 20000 in
theorem gX12_setSeparator_X12_isIn : GoodIn wsX12_setSeparator (va_wsS RX12 84 yX12_isIn wsX12_isIn) := goodIn_app (goodIn_of _ (by decide +kernel)) ggX12_setSeparator_X12_isIn
set_option maxRecDepth 20000 in
theorem ggX12_setSeparator_X12_fails : GoodIn wsX12_setSeparator wsX12_fails := goodIn_r _ [10, 11, 23, 24, 25, 26, 27, 28, 29, 30, 31, 32, 33, 34, 35, 36, 37, 38, 39, 40, 41, 42, 43, 44, 45, 46, 47, 48, 49, 50, 51, 52, 53, 54, 55, 56] (by decide +kernel) (by decide +kernel)
set_option maxRecDepth 20000 in
theorem gX12_setSeparator_X12_fails : GoodIn wsX12_setSeparator (wsV RX12 171 RX12 yX12_fails wsX12_fails) := goodIn_app (goodIn_of _ (by decide +kernel)) ggX12_setSeparator_X12_fails
set_option maxRecDepth 20000 in
theorem ggX12_setSeparator_X12_letter : GoodIn wsX12_setSeparator wsX12_letter := goodIn_r _ [14] (by decide +kernel) (by decide +kernel)
set_option maxRecDepth 20000 in
theorem gX12_setSeparator_X12_letter : GoodIn wsX12_setSeparator (va_wsS RX12 180 yX12_letter wsX12_letter) := goodIn_app (goodIn_of _ (by decide +kernel)) ggX12_setSeparator_X12_letter
set_option maxRecDepth 20000 in
theorem ggX12_setSeparator_X12_cuts : GoodIn wsX12_setSeparator wsX12_cuts := goodIn_r _ [18, 19, 2, 20, 21, 1, 22, 23, 24, 25, 26, 27, 28, 29, 30, 31, 32, 33, 34, 35, 36, 37, 38, 39, 40, 41, 42, 43, 44, 45, 46, 47, 48, 49, 50, 51, 52, 53, 54, 55, 56] (by decide +kernel) (by decide +kernel)
set_option maxRecDepth 20000 in
theorem gX12_setSeparator_X12_cuts : GoodIn wsX12_setSeparator (wsV RX12 97 RX12 yX12_cuts wsX12_cuts) := goodIn_app (goodIn_of _ (by decide +kernel)) ggX12_setSeparator_X12_cuts
theorem dX12_setSeparator_0 : decode cX12_setSeparator 0 = .ok (.aload_n 0, 1) := by decide +kernel
theorem dX12_setSeparator_1 : decode cX12_setSeparator 1 = .ok (.iload_n 1, 1) := by decide +kernel
theorem dX12_setSeparator_2 : decode cX12_setSeparator 2 = .ok (.iconst 0, 1) := by decide +kernel
theorem dX12_setSeparator_3 : decode cX12_setSeparator 3 = .ok (.bipush 37, 2) := by decide +kernel
theorem dX12_setSeparator_5 : decode cX12_setSeparator 5 = .ok (.invokestatic 84, 3) := by decide +kernel
theorem dX12_setSeparator_8 : decode cX12_setSeparator 8 = .ok (.ifCond .eq 7, 3) := by decide +kernel
theorem dX12_setSeparator_11 : decode cX12_setSeparator 11 = .ok (.iconst 0, 1) := by decide +kernel
theorem dX12_setSeparator_12 : decode cX12_setSeparator 12 = .ok (.goto 4, 3) := by decide +kernel
theorem dX12_setSeparator_15 : decode cX12_setSeparator 15 = .ok (.iconst 1, 1) := by decide +kernel
theorem dX12_setSeparator_16 : decode cX12_setSeparator 16 = .ok (.invokevirtual 171, 3) := by decide +kernel
theorem dX12_setSeparator_19 : decode cX12_setSeparator 19 = .ok (.ifCond .eq 5, 3) := by decide +kernel
theorem dX12_setSeparator_22 : decode cX12_setSeparator 22 = .ok (.iconst 0, 1) := by decide +kernel
theorem dX12_setSeparator_23 : decode cX12_setSeparator 23 = .ok (.ireturn, 1) := by decide +kernel
theorem dX12_setSeparator_24 : decode cX12_setSeparator 24 = .ok (.aload_n 0, 1) := by decide +kernel
theorem dX12_setSeparator_25 : decode cX12_setSeparator 25 = .ok (.iload_n 1, 1) := by decide +kernel
theorem dX12_setSeparator_26 : decode cX12_setSeparator 26 = .ok (.invokestatic 180, 3) := by decide +kernel
theorem dX12_setSeparator_29 : decode cX12_setSeparator 29 = .ok (.putfield 7, 3) := by decide +kernel
theorem dX12_setSeparator_32 : decode cX12_setSeparator 32 = .ok (.aload_n 0, 1) := by decide +kernel
theorem dX12_setSeparator_33 : decode cX12_setSeparator 33 = .ok (.invokevirtual 97, 3) := by decide +kernel
theorem dX12_setSeparator_36 : decode cX12_setSeparator 36 = .ok (.aload_n 0, 1) := by decide +kernel
theorem dX12_setSeparator_37 : decode cX12_setSeparator 37 = .ok (.getfield 88, 3) := by decide +kernel
theorem dX12_setSeparator_40 : decode cX12_setSeparator 40 = .ok (.ireturn, 1) := by decide +kernel
set_option maxRecDepth 20000 in
theorem ggX12_type_X12_isIn : GoodIn wsX12_type wsX12_isIn := goodIn_r _ [6] (by decide +kernel) (by decide +kernel)
set_option maxRecDepth 20000 in
theorem gX12_type_X12_isIn : GoodIn wsX12_type (va_wsS RX12 84 yX12_isIn wsX12_isIn) := goodIn_app (goodIn_of _ (by decide +kernel)) ggX12_type_X12_isIn
set_option maxRecDepth 20000 in
theorem ggX12_type_X12_fails : GoodIn wsX12_type wsX12_fails := goodIn_r _ [10, 11, 15, 16, 17, 18, 19, 20, 21, 22, 23, 24, 25, 26, 27, 28, 29, 30, 31, 32, 33, 34, 35, 36, 37, 38, 39, 40, 41, 42, 43, 44, 45, 46, 47, 48] (by decide +kernel) (by decide +kernel)
set_option maxRecDepth 20000 in
theorem gX12_type_X12_fails : GoodIn wsX12_type (wsV RX12 171 RX12 yX12_fails wsX12_fails) := goodIn_app (goodIn_of _ (by decide +kernel)) ggX12_type_X12_fails
set_option maxRecDepth 20000 in
theorem ggX12_type_X12_letter : GoodIn wsX12_type wsX12_letter := goodIn_r _ [14] (by decide +kernel) (by decide +kernel)
set_option maxRecDepth 20000 in
theorem gX12_type_X12_letter : GoodIn wsX12_type (va_wsS RX12 180 yX12_letter wsX12_letter) := goodIn_app (goodIn_of _ (by decide +kernel)) ggX12_type_X12_letter
theorem dX12_type_0 : decode cX12_type 0 = .ok (.aload_n 0, 1) := by decide +kernel
theorem dX12_type_1 : decode cX12_type 1 = .ok (.iload_n 1, 1) := by decide +kernel
theorem dX12_type_2 : decode cX12_type 2 = .ok (.iconst 0, 1) := by decide +kernel
theorem dX12_type_3 : decode cX12_type 3 = .ok (.bipush 37, 2) := by decide +kernel
theorem dX12_type_5 : decode cX12_type 5 = .ok (.invokestatic 84, 3) := by decide +kernel
theorem dX12_type_8 : decode cX12_type 8 = .ok (.ifCond .ne 7, 3) := by decide +kernel
theorem dX12_type_11 : decode cX12_type 11 = .ok (.iconst 1, 1) := by decide +kernel
theorem dX12_type_12 : decode cX12_type 12 = .ok (.goto 17, 3) := by decide +kernel
theorem dX12_type_15 : decode cX12_type 15 = .ok (.aload_n 0, 1) := by decide +kernel
theorem dX12_type_16 : decode cX12_type 16 = .ok (.getfield 183, 3) := by decide +kernel
theorem dX12_type_19 : decode cX12_type 19 = .ok (.bipush 60, 2) := by decide +kernel
theorem dX12_type_21 : decode cX12_type 21 = .ok (.if_icmp .ne 7, 3) := by decide +kernel
theorem dX12_type_24 : decode cX12_type 24 = .ok (.iconst 2, 1) := by decide +kernel
theorem dX12_type_25 : decode cX12_type 25 = .ok (.goto 4, 3) := by decide +kernel
theorem dX12_type_28 : decode cX12_type 28 = .ok (.iconst 0, 1) := by decide +kernel
theorem dX12_type_29 : decode cX12_type 29 = .ok (.invokevirtual 171, 3) := by decide +kernel
theorem dX12_type_32 : decode cX12_type 32 = .ok (.ifCond .eq 5, 3) := by decide +kernel
theorem dX12_type_35 : decode cX12_type 35 = .ok (.iconst 0, 1) := by decide +kernel
theorem dX12_type_36 : decode cX12_type 36 = .ok (.ireturn, 1) := by decide +kernel
theorem dX12_type_37 : decode cX12_type 37 = .ok (.aload_n 0, 1) := by decide +kernel
theorem dX12_type_38 : decode cX12_type 38 = .ok (.getfield 23, 3) := by decide +kernel
theorem dX12_type_41 : decode cX12_type 41 = .ok (.aload_n 0, 1) := by decide +kernel
theorem dX12_type_42 : decode cX12_type 42 = .ok (.getfield 183, 3) := by decide +kernel
theorem dX12_type_45 : decode cX12_type 45 = .ok (.iload_n 1, 1) := by decide +kernel
theorem dX12_type_46 : decode cX12_type 46 = .ok (.invokestatic 180, 3) := by decide +kernel
theorem dX12_type_49 : decode cX12_type 49 = .ok (.iastore, 1) := by decide +kernel
theorem dX12_type_50 : decode cX12_type 50 = .ok (.aload_n 0, 1) := by decide +kernel
theorem dX12_type_51 : decode cX12_type 51 = .ok (.dup, 1) := by decide +kernel
theorem dX12_type_52 : decode cX12_type 52 = .ok (.getfield 183, 3) := by decide +kernel
theorem dX12_type_55 : decode cX12_type 55 = .ok (.iconst 1, 1) := by decide +kernel
theorem dX12_type_56 : decode cX12_type 56 = .ok (.iadd, 1) := by decide +kernel
theorem dX12_type_57 : decode cX12_type 57 = .ok (.putfield 183, 3) := by decide +kernel
theorem dX12_type_60 : decode cX12_type 60 = .ok (.aload_n 0, 1) := by decide +kernel
theorem dX12_type_61 : decode cX12_type 61 = .ok (.getfield 183, 3) := by decide +kernel
theorem dX12_type_64 : decode cX12_type 64 = .ok (.ireturn, 1) := by decide +kernel
set_option maxRecDepth 20000 in
theorem ggX12_isTrue_X12_isSame : GoodIn wsX12_isTrue wsX12_isSame := goodIn_r _ [9, 10, 11, 12, 8, 13, 14, 15, 16, 17, 18, 19, 20, 21, 22, 23, 24, 25, 26, 27, 28, 29, 30, 31, 32, 33, 34, 35, 36, 37, 38, 39, 40, 48, 49, 50, 51, 52, 53, 54, 55, 56, 57, 58, 59, 60, 61, 62, 63, 64, 65, 66, 67, 68, 69, 70, 71, 72, 73, 74, 75, 76, 77, 78, 79, 80, 81] (by decide +kernel) (by decide +kernel)
set_option maxRecDepth 20000 in
theorem gX12_isTrue_X12_isSame : GoodIn wsX12_isTrue (wsV RX12 186 RX12 yX12_isSame wsX12_isSame) := goodIn_app (goodIn_of _ (by decide +kernel)) ggX12_isTrue_X12_isSame
set_option maxRecDepth 20000 in
theorem ggX12_isTrue_X12_isLess : GoodIn wsX12_isTrue wsX12_isLess := goodIn_r _ [44, 18, 10, 11, 12, 8, 13, 14, 15, 16, 17, 19, 20, 21, 22, 23, 24, 25, 26, 27, 28, 29, 30, 31, 32, 33, 34, 35, 36, 37, 38, 39, 40, 45, 46, 47, 48, 49, 50, 51, 52, 53, 54, 55, 56, 57, 58, 59, 60, 61, 62, 63, 64, 65, 66, 67, 68, 69, 70, 71, 72, 73, 74, 75, 76, 77, 78, 79, 80, 81] (by decide +kernel) (by decide +kernel)
set_option maxRecDepth 20000 in
theorem gX12_isTrue_X12_isLess : GoodIn wsX12_isTrue (wsV RX12 190 RX12 yX12_isLess wsX12_isLess) := goodIn_app (goodIn_of _ (by decide +kernel)) ggX12_isTrue_X12_isLess
theorem dX12_isTrue_0 : decode cX12_isTrue 0 = .ok (.aload_n 0, 1) := by decide +kernel
theorem dX12_isTrue_1 : decode cX12_isTrue 1 = .ok (.getfield 29, 3) := by decide +kernel
theorem dX12_isTrue_4 : decode cX12_isTrue 4 = .ok (.iload_n 1, 1) := by decide +kernel
theorem dX12_isTrue_5 : decode cX12_isTrue 5 = .ok (.iaload, 1) := by decide +kernel
theorem dX12_isTrue_6 : decode cX12_isTrue 6 = .ok (.istore_n 2, 1) := by decide +kernel
theorem dX12_isTrue_7 : decode cX12_isTrue 7 = .ok (.aload_n 0, 1) := by decide +kernel
theorem dX12_isTrue_8 : decode cX12_isTrue 8 = .ok (.getfield 32, 3) := by decide +kernel
theorem dX12_isTrue_11 : decode cX12_isTrue 11 = .ok (.iload_n 1, 1) := by decide +kernel
theorem dX12_isTrue_12 : decode cX12_isTrue 12 = .ok (.iaload, 1) := by decide +kernel
theorem dX12_isTrue_13 : decode cX12_isTrue 13 = .ok (.istore_n 3, 1) := by decide +kernel
theorem dX12_isTrue_14 : decode cX12_isTrue 14 = .ok (.aload_n 0, 1) := by decide +kernel
theorem dX12_isTrue_15 : decode cX12_isTrue 15 = .ok (.getfield 26, 3) := by decide +kernel
theorem dX12_isTrue_18 : decode cX12_isTrue 18 = .ok (.iload_n 1, 1) := by decide +kernel
theorem dX12_isTrue_19 : decode cX12_isTrue 19 = .ok (.iaload, 1) := by decide +kernel
theorem dX12_isTrue_20 : decode cX12_isTrue 20 = .ok (.tableswitch 44 0 2 #[28, 30, 37], 28) := by decide +kernel
theorem dX12_isTrue_48 : decode cX12_isTrue 48 = .ok (.iconst 1, 1) := by decide +kernel
theorem dX12_isTrue_49 : decode cX12_isTrue 49 = .ok (.ireturn, 1) := by decide +kernel
theorem dX12_isTrue_50 : decode cX12_isTrue 50 = .ok (.aload_n 0, 1) := by decide +kernel
theorem dX12_isTrue_51 : decode cX12_isTrue 51 = .ok (.iload_n 2, 1) := by decide +kernel
theorem dX12_isTrue_52 : decode cX12_isTrue 52 = .ok (.iload_n 3, 1) := by decide +kernel
theorem dX12_isTrue_53 : decode cX12_isTrue 53 = .ok (.invokevirtual 186, 3) := by decide +kernel
theorem dX12_isTrue_56 : decode cX12_isTrue 56 = .ok (.ireturn, 1) := by decide +kernel
theorem dX12_isTrue_57 : decode cX12_isTrue 57 = .ok (.aload_n 0, 1) := by decide +kernel
theorem dX12_isTrue_58 : decode cX12_isTrue 58 = .ok (.iload_n 2, 1) := by decide +kernel
theorem dX12_isTrue_59 : decode cX12_isTrue 59 = .ok (.iload_n 3, 1) := by decide +kernel
theorem dX12_isTrue_60 : decode cX12_isTrue 60 = .ok (.invokevirtual 190, 3) := by decide +kernel
theorem dX12_isTrue_63 : decode cX12_isTrue 63 = .ok (.ireturn, 1) := by decide +kernel
theorem dX12_isTrue_64 : decode cX12_isTrue 64 = .ok (.aload_n 0, 1) := by decide +kernel
theorem dX12_isTrue_65 : decode cX12_isTrue 65 = .ok (.getfield 35, 3) := by decide +kernel
theorem dX12_isTrue_68 : decode cX12_isTrue 68 = .ok (.iload_n 1, 1) := by decide +kernel
theorem dX12_isTrue_69 : decode cX12_isTrue 69 = .ok (.baload, 1) := by decide +kernel
theorem dX12_isTrue_70 : decode cX12_isTrue 70 = .ok (.ifCond .ne 12, 3) := by decide +kernel
theorem dX12_isTrue_73 : decode cX12_isTrue 73 = .ok (.aload_n 0, 1) := by decide +kernel
theorem dX12_isTrue_74 : decode cX12_isTrue 74 = .ok (.iconst 1, 1) := by decide +kernel
theorem dX12_isTrue_75 : decode cX12_isTrue 75 = .ok (.iload_n 2, 1) := by decide +kernel
theorem dX12_isTrue_76 : decode cX12_isTrue 76 = .ok (.invokevirtual 186, 3) := by decide +kernel
theorem dX12_isTrue_79 : decode cX12_isTrue 79 = .ok (.ifCond .eq 7, 3) := by decide +kernel
theorem dX12_isTrue_82 : decode cX12_isTrue 82 = .ok (.iconst 1, 1) := by decide +kernel
theorem dX12_isTrue_83 : decode cX12_isTrue 83 = .ok (.goto 4, 3) := by decide +kernel
theorem dX12_isTrue_86 : decode cX12_isTrue 86 = .ok (.iconst 0, 1) := by decide +kernel
theorem dX12_isTrue_87 : decode cX12_isTrue 87 = .ok (.istore 4, 2) := by decide +kernel
theorem dX12_isTrue_89 : decode cX12_isTrue 89 = .ok (.aload_n 0, 1) := by decide +kernel
theorem dX12_isTrue_90 : decode cX12_isTrue 90 = .ok (.getfield 35, 3) := by decide +kernel
theorem dX12_isTrue_93 : decode cX12_isTrue 93 = .ok (.iload_n 1, 1) := by decide +kernel
theorem dX12_isTrue_94 : decode cX12_isTrue 94 = .ok (.iload 4, 2) := by decide +kernel
theorem dX12_isTrue_96 : decode cX12_isTrue 96 = .ok (.ifCond .eq 16, 3) := by decide +kernel
theorem dX12_isTrue_99 : decode cX12_isTrue 99 = .ok (.aload_n 0, 1) := by decide +kernel
theorem dX12_isTrue_100 : decode cX12_isTrue 100 = .ok (.iconst 1, 1) := by decide +kernel
theorem dX12_isTrue_101 : decode cX12_isTrue 101 = .ok (.iload_n 3, 1) := by decide +kernel
theorem dX12_isTrue_102 : decode cX12_isTrue 102 = .ok (.invokevirtual 186, 3) := by decide +kernel
theorem dX12_isTrue_105 : decode cX12_isTrue 105 = .ok (.ifCond .ne 7, 3) := by decide +kernel
theorem dX12_isTrue_108 : decode cX12_isTrue 108 = .ok (.iconst 1, 1) := by decide +kernel
theorem dX12_isTrue_109 : decode cX12_isTrue 109 = .ok (.goto 4, 3) := by decide +kernel
theorem dX12_isTrue_112 : decode cX12_isTrue 112 = .ok (.iconst 0, 1) := by decide +kernel
theorem dX12_isTrue_113 : decode cX12_isTrue 113 = .ok (.bastore, 1) := by decide +kernel
theorem dX12_isTrue_114 : decode cX12_isTrue 114 = .ok (.iload 4, 2) := by decide +kernel
theorem dX12_isTrue_116 : decode cX12_isTrue 116 = .ok (.ireturn, 1) := by decide +kernel
set_option maxRecDepth 20000 in
theorem ggX12_rowOf_X12_to : GoodIn wsX12_rowOf wsX12_to := goodIn_r _ [9, 10, 11, 12, 18, 19, 20, 21, 22, 23, 24, 25, 26, 27, 28, 29, 30, 31, 32, 33, 34, 35, 36, 37, 38, 39, 40, 41, 42, 43, 44, 45, 46, 47, 48, 49, 50, 51] (by decide +kernel) (by decide +kernel)
set_option maxRecDepth 20000 in
theorem gX12_rowOf_X12_to : GoodIn wsX12_rowOf (wsV RX12 114 RX12 yX12_to wsX12_to) := goodIn_app (goodIn_of _ (by decide +kernel)) ggX12_rowOf_X12_to
set_option maxRecDepth 20000 in
theorem ggX12_rowOf_X12_from : GoodIn wsX12_rowOf wsX12_from := goodIn_r _ [16, 11, 17, 18, 19, 20, 21, 22, 23, 24, 25, 26, 27, 28, 29, 30, 31, 32, 33, 34, 35, 36, 37, 38, 39, 40, 41, 42, 43, 44, 45, 46, 47, 48, 49, 50, 51] (by decide +kernel) (by decide +kernel)
set_option maxRecDepth 20000 in
theorem gX12_rowOf_X12_from : GoodIn wsX12_rowOf (wsV RX12 110 RX12 yX12_from wsX12_from) := goodIn_app (goodIn_of _ (by decide +kernel)) ggX12_rowOf_X12_from
theorem dX12_rowOf_0 : decode cX12_rowOf 0 = .ok (.iconst (-1), 1) := by decide +kernel
theorem dX12_rowOf_1 : decode cX12_rowOf 1 = .ok (.istore_n 2, 1) := by decide +kernel
theorem dX12_rowOf_2 : decode cX12_rowOf 2 = .ok (.iconst 0, 1) := by decide +kernel
theorem dX12_rowOf_3 : decode cX12_rowOf 3 = .ok (.istore_n 3, 1) := by decide +kernel
theorem dX12_rowOf_4 : decode cX12_rowOf 4 = .ok (.iload_n 3, 1) := by decide +kernel
theorem dX12_rowOf_5 : decode cX12_rowOf 5 = .ok (.aload_n 0, 1) := by decide +kernel
theorem dX12_rowOf_6 : decode cX12_rowOf 6 = .ok (.getfield 193, 3) := by decide +kernel
theorem dX12_rowOf_9 : decode cX12_rowOf 9 = .ok (.if_icmp .ge 107, 3) := by decide +kernel
theorem dX12_rowOf_12 : decode cX12_rowOf 12 = .ok (.aload_n 0, 1) := by decide +kernel
theorem dX12_rowOf_13 : decode cX12_rowOf 13 = .ok (.getfield 60, 3) := by decide +kernel
theorem dX12_rowOf_16 : decode cX12_rowOf 16 = .ok (.iload_n 3, 1) := by decide +kernel
theorem dX12_rowOf_17 : decode cX12_rowOf 17 = .ok (.iaload, 1) := by decide +kernel
theorem dX12_rowOf_18 : decode cX12_rowOf 18 = .ok (.aload_n 0, 1) := by decide +kernel
theorem dX12_rowOf_19 : decode cX12_rowOf 19 = .ok (.iload_n 1, 1) := by decide +kernel
theorem dX12_rowOf_20 : decode cX12_rowOf 20 = .ok (.invokevirtual 114, 3) := by decide +kernel
theorem dX12_rowOf_23 : decode cX12_rowOf 23 = .ok (.aload_n 0, 1) := by decide +kernel
theorem dX12_rowOf_24 : decode cX12_rowOf 24 = .ok (.iload_n 1, 1) := by decide +kernel
theorem dX12_rowOf_25 : decode cX12_rowOf 25 = .ok (.invokevirtual 110, 3) := by decide +kernel
theorem dX12_rowOf_28 : decode cX12_rowOf 28 = .ok (.isub, 1) := by decide +kernel
theorem dX12_rowOf_29 : decode cX12_rowOf 29 = .ok (.if_icmp .ne 7, 3) := by decide +kernel
theorem dX12_rowOf_32 : decode cX12_rowOf 32 = .ok (.iconst 1, 1) := by decide +kernel
theorem dX12_rowOf_33 : decode cX12_rowOf 33 = .ok (.goto 4, 3) := by decide +kernel
theorem dX12_rowOf_36 : decode cX12_rowOf 36 = .ok (.iconst 0, 1) := by decide +kernel
theorem dX12_rowOf_37 : decode cX12_rowOf 37 = .ok (.istore 4, 2) := by decide +kernel
theorem dX12_rowOf_39 : decode cX12_rowOf 39 = .ok (.iconst 0, 1) := by decide +kernel
theorem dX12_rowOf_40 : decode cX12_rowOf 40 = .ok (.istore 5, 2) := by decide +kernel
theorem dX12_rowOf_42 : decode cX12_rowOf 42 = .ok (.iload 5, 2) := by decide +kernel
theorem dX12_rowOf_44 : decode cX12_rowOf 44 = .ok (.aload_n 0, 1) := by decide +kernel
theorem dX12_rowOf_45 : decode cX12_rowOf 45 = .ok (.getfield 60, 3) := by decide +kernel
theorem dX12_rowOf_48 : decode cX12_rowOf 48 = .ok (.iload_n 3, 1) := by decide +kernel
theorem dX12_rowOf_49 : decode cX12_rowOf 49 = .ok (.iaload, 1) := by decide +kernel
theorem dX12_rowOf_50 : decode cX12_rowOf 50 = .ok (.if_icmp .ge 49, 3) := by decide +kernel
theorem dX12_rowOf_53 : decode cX12_rowOf 53 = .ok (.iload 4, 2) := by decide +kernel
theorem dX12_rowOf_55 : decode cX12_rowOf 55 = .ok (.ifCond .eq 44, 3) := by decide +kernel
theorem dX12_rowOf_58 : decode cX12_rowOf 58 = .ok (.aload_n 0, 1) := by decide +kernel
theorem dX12_rowOf_59 : decode cX12_rowOf 59 = .ok (.getfield 57, 3) := by decide +kernel
theorem dX12_rowOf_62 : decode cX12_rowOf 62 = .ok (.bipush 60, 2) := by decide +kernel
theorem dX12_rowOf_64 : decode cX12_rowOf 64 = .ok (.iload_n 3, 1) := by decide +kernel
theorem dX12_rowOf_65 : decode cX12_rowOf 65 = .ok (.imul, 1) := by decide +kernel
theorem dX12_rowOf_66 : decode cX12_rowOf 66 = .ok (.iload 5, 2) := by decide +kernel
theorem dX12_rowOf_68 : decode cX12_rowOf 68 = .ok (.iadd, 1) := by decide +kernel
theorem dX12_rowOf_69 : decode cX12_rowOf 69 = .ok (.iaload, 1) := by decide +kernel
theorem dX12_rowOf_70 : decode cX12_rowOf 70 = .ok (.aload_n 0, 1) := by decide +kernel
theorem dX12_rowOf_71 : decode cX12_rowOf 71 = .ok (.getfield 13, 3) := by decide +kernel
theorem dX12_rowOf_74 : decode cX12_rowOf 74 = .ok (.aload_n 0, 1) := by decide +kernel
theorem dX12_rowOf_75 : decode cX12_rowOf 75 = .ok (.iload_n 1, 1) := by decide +kernel
theorem dX12_rowOf_76 : decode cX12_rowOf 76 = .ok (.invokevirtual 110, 3) := by decide +kernel
theorem dX12_rowOf_79 : decode cX12_rowOf 79 = .ok (.iload 5, 2) := by decide +kernel
theorem dX12_rowOf_81 : decode cX12_rowOf 81 = .ok (.iadd, 1) := by decide +kernel
theorem dX12_rowOf_82 : decode cX12_rowOf 82 = .ok (.iaload, 1) := by decide +kernel
theorem dX12_rowOf_83 : decode cX12_rowOf 83 = .ok (.if_icmp .ne 7, 3) := by decide +kernel
theorem dX12_rowOf_86 : decode cX12_rowOf 86 = .ok (.iconst 1, 1) := by decide +kernel
theorem dX12_rowOf_87 : decode cX12_rowOf 87 = .ok (.goto 4, 3) := by decide +kernel
theorem dX12_rowOf_90 : decode cX12_rowOf 90 = .ok (.iconst 0, 1) := by decide +kernel
theorem dX12_rowOf_91 : decode cX12_rowOf 91 = .ok (.istore 4, 2) := by decide +kernel
theorem dX12_rowOf_93 : decode cX12_rowOf 93 = .ok (.iinc 5 1, 3) := by decide +kernel
theorem dX12_rowOf_96 : decode cX12_rowOf 96 = .ok (.goto (-54), 3) := by decide +kernel
theorem dX12_rowOf_99 : decode cX12_rowOf 99 = .ok (.iload 4, 2) := by decide +kernel
theorem dX12_rowOf_101 : decode cX12_rowOf 101 = .ok (.ifCond .eq 7, 3) := by decide +kernel
theorem dX12_rowOf_104 : decode cX12_rowOf 104 = .ok (.iload_n 3, 1) := by decide +kernel
theorem dX12_rowOf_105 : decode cX12_rowOf 105 = .ok (.goto 4, 3) := by decide +kernel
theorem dX12_rowOf_108 : decode cX12_rowOf 108 = .ok (.iload_n 2, 1) := by decide +kernel
theorem dX12_rowOf_109 : decode cX12_rowOf 109 = .ok (.istore_n 2, 1) := by decide +kernel
theorem dX12_rowOf_110 : decode cX12_rowOf 110 = .ok (.iinc 3 1, 3) := by decide +kernel
theorem dX12_rowOf_113 : decode cX12_rowOf 113 = .ok (.goto (-109), 3) := by decide +kernel
theorem dX12_rowOf_116 : decode cX12_rowOf 116 = .ok (.iload_n 2, 1) := by decide +kernel
theorem dX12_rowOf_117 : decode cX12_rowOf 117 = .ok (.ireturn, 1) := by decide +kernel
set_option maxRecDepth 20000 in
theorem ggX12_grows_X12_rowOf : GoodIn wsX12_grows wsX12_rowOf := goodIn_r _ [10, 1, 2, 3, 4, 11, 12, 13, 9, 14, 15, 16, 17, 18, 19, 20, 21, 22, 30, 31, 32, 33, 34, 35, 36, 37, 38, 39, 40, 41, 42, 43, 44, 45, 46, 47, 48, 49, 50, 51, 52, 53, 54, 55, 56, 57, 58, 59, 60, 61, 62, 63] (by decide +kernel) (by decide +kernel)
set_option maxRecDepth 20000 in
theorem gX12_grows_X12_rowOf : GoodIn wsX12_grows (wsV RX12 196 RX12 yX12_rowOf wsX12_rowOf) := goodIn_app (goodIn_of _ (by decide +kernel)) ggX12_grows_X12_rowOf
set_option maxRecDepth 20000 in
theorem ggX12_grows_X12_to : GoodIn wsX12_grows wsX12_to := goodIn_r _ [14, 15, 16, 17, 30, 31, 32, 33, 34, 35, 36, 37, 38, 39, 40, 41, 42, 43, 44, 45, 46, 47, 48, 49, 50, 51, 52, 53, 54, 55, 56, 57, 58, 59, 60, 61, 62, 63] (by decide +kernel) (by decide +kernel)
set_option maxRecDepth 20000 in
theorem gX12_grows_X12_to : GoodIn wsX12_grows (wsV RX12 114 RX12 yX12_to wsX12_to) := goodIn_app (goodIn_of _ (by decide +kernel)) ggX12_grows_X12_to
set_option maxRecDepth 20000 in
theorem ggX12_grows_X12_from : GoodIn wsX12_grows wsX12_from := goodIn_r _ [21, 16, 22, 30, 31, 32, 33, 34, 35, 36, 37, 38, 39, 40, 41, 42, 43, 44, 45, 46, 47, 48, 49, 50, 51, 52, 53, 54, 55, 56, 57, 58, 59, 60, 61, 62, 63] (by decide +kernel) (by decide +kernel)
set_option maxRecDepth 20000 in
theorem gX12_grows_X12_from : GoodIn wsX12_grows (wsV RX12 110 RX12 yX12_from wsX12_from) := goodIn_app (goodIn_of _ (by decide +kernel)) ggX12_grows_X12_from
set_option maxRecDepth 20000 in
theorem ggX12_grows_X12_fits : GoodIn wsX12_grows wsX12_fits := goodIn_r _ [26, 27, 28, 29, 30, 31, 32, 33, 34, 35, 36, 37, 38, 39, 40, 41, 42, 43, 44, 45, 46, 47, 48, 49, 50, 51, 52, 53, 54, 55, 56, 57, 58, 59, 60, 61, 62, 63] (by decide +kernel) (by decide +kernel)
set_option maxRecDepth 20000 in
theorem gX12_grows_X12_fits : GoodIn wsX12_grows (wsV RX12 157 RX12 yX12_fits wsX12_fits) := goodIn_app (goodIn_of _ (by decide +kernel)) ggX12_grows_X12_fits
theorem dX12_grows_0 : decode cX12_grows 0 = .ok (.aload_n 0, 1) := by decide +kernel
theorem dX12_grows_1 : decode cX12_grows 1 = .ok (.iload_n 1, 1) := by decide +kernel
theorem dX12_grows_2 : decode cX12_grows 2 = .ok (.invokevirtual 196, 3) := by decide +kernel
theorem dX12_grows_5 : decode cX12_grows 5 = .ok (.istore_n 3, 1) := by decide +kernel
theorem dX12_grows_6 : decode cX12_grows 6 = .ok (.iload_n 3, 1) := by decide +kernel
theorem dX12_grows_7 : decode cX12_grows 7 = .ok (.iconst (-1), 1) := by decide +kernel
theorem dX12_grows_8 : decode cX12_grows 8 = .ok (.if_icmp .ne 96, 3) := by decide +kernel
theorem dX12_grows_11 : decode cX12_grows 11 = .ok (.aload_n 0, 1) := by decide +kernel
theorem dX12_grows_12 : decode cX12_grows 12 = .ok (.getfield 193, 3) := by decide +kernel
theorem dX12_grows_15 : decode cX12_grows 15 = .ok (.bipush 20, 2) := by decide +kernel
theorem dX12_grows_17 : decode cX12_grows 17 = .ok (.if_icmp .ge 87, 3) := by decide +kernel
theorem dX12_grows_20 : decode cX12_grows 20 = .ok (.aload_n 0, 1) := by decide +kernel
theorem dX12_grows_21 : decode cX12_grows 21 = .ok (.getfield 193, 3) := by decide +kernel
theorem dX12_grows_24 : decode cX12_grows 24 = .ok (.istore_n 3, 1) := by decide +kernel
theorem dX12_grows_25 : decode cX12_grows 25 = .ok (.aload_n 0, 1) := by decide +kernel
theorem dX12_grows_26 : decode cX12_grows 26 = .ok (.getfield 60, 3) := by decide +kernel
theorem dX12_grows_29 : decode cX12_grows 29 = .ok (.iload_n 3, 1) := by decide +kernel
theorem dX12_grows_30 : decode cX12_grows 30 = .ok (.aload_n 0, 1) := by decide +kernel
theorem dX12_grows_31 : decode cX12_grows 31 = .ok (.iload_n 1, 1) := by decide +kernel
theorem dX12_grows_32 : decode cX12_grows 32 = .ok (.invokevirtual 114, 3) := by decide +kernel
theorem dX12_grows_35 : decode cX12_grows 35 = .ok (.aload_n 0, 1) := by decide +kernel
theorem dX12_grows_36 : decode cX12_grows 36 = .ok (.iload_n 1, 1) := by decide +kernel
theorem dX12_grows_37 : decode cX12_grows 37 = .ok (.invokevirtual 110, 3) := by decide +kernel
theorem dX12_grows_40 : decode cX12_grows 40 = .ok (.isub, 1) := by decide +kernel
theorem dX12_grows_41 : decode cX12_grows 41 = .ok (.iastore, 1) := by decide +kernel
theorem dX12_grows_42 : decode cX12_grows 42 = .ok (.iconst 0, 1) := by decide +kernel
theorem dX12_grows_43 : decode cX12_grows 43 = .ok (.istore 4, 2) := by decide +kernel
theorem dX12_grows_45 : decode cX12_grows 45 = .ok (.iload 4, 2) := by decide +kernel
theorem dX12_grows_47 : decode cX12_grows 47 = .ok (.aload_n 0, 1) := by decide +kernel
theorem dX12_grows_48 : decode cX12_grows 48 = .ok (.getfield 60, 3) := by decide +kernel
theorem dX12_grows_51 : decode cX12_grows 51 = .ok (.iload_n 3, 1) := by decide +kernel
theorem dX12_grows_52 : decode cX12_grows 52 = .ok (.iaload, 1) := by decide +kernel
theorem dX12_grows_53 : decode cX12_grows 53 = .ok (.if_icmp .ge 34, 3) := by decide +kernel
theorem dX12_grows_56 : decode cX12_grows 56 = .ok (.aload_n 0, 1) := by decide +kernel
theorem dX12_grows_57 : decode cX12_grows 57 = .ok (.getfield 57, 3) := by decide +kernel
theorem dX12_grows_60 : decode cX12_grows 60 = .ok (.bipush 60, 2) := by decide +kernel
theorem dX12_grows_62 : decode cX12_grows 62 = .ok (.iload_n 3, 1) := by decide +kernel
theorem dX12_grows_63 : decode cX12_grows 63 = .ok (.imul, 1) := by decide +kernel
theorem dX12_grows_64 : decode cX12_grows 64 = .ok (.iload 4, 2) := by decide +kernel
theorem dX12_grows_66 : decode cX12_grows 66 = .ok (.iadd, 1) := by decide +kernel
theorem dX12_grows_67 : decode cX12_grows 67 = .ok (.aload_n 0, 1) := by decide +kernel
theorem dX12_grows_68 : decode cX12_grows 68 = .ok (.getfield 13, 3) := by decide +kernel
theorem dX12_grows_71 : decode cX12_grows 71 = .ok (.aload_n 0, 1) := by decide +kernel
theorem dX12_grows_72 : decode cX12_grows 72 = .ok (.iload_n 1, 1) := by decide +kernel
theorem dX12_grows_73 : decode cX12_grows 73 = .ok (.invokevirtual 110, 3) := by decide +kernel
theorem dX12_grows_76 : decode cX12_grows 76 = .ok (.iload 4, 2) := by decide +kernel
theorem dX12_grows_78 : decode cX12_grows 78 = .ok (.iadd, 1) := by decide +kernel
theorem dX12_grows_79 : decode cX12_grows 79 = .ok (.iaload, 1) := by decide +kernel
theorem dX12_grows_80 : decode cX12_grows 80 = .ok (.iastore, 1) := by decide +kernel
theorem dX12_grows_81 : decode cX12_grows 81 = .ok (.iinc 4 1, 3) := by decide +kernel
theorem dX12_grows_84 : decode cX12_grows 84 = .ok (.goto (-39), 3) := by decide +kernel
theorem dX12_grows_87 : decode cX12_grows 87 = .ok (.aload_n 0, 1) := by decide +kernel
theorem dX12_grows_88 : decode cX12_grows 88 = .ok (.getfield 63, 3) := by decide +kernel
theorem dX12_grows_91 : decode cX12_grows 91 = .ok (.iload_n 3, 1) := by decide +kernel
theorem dX12_grows_92 : decode cX12_grows 92 = .ok (.iconst 0, 1) := by decide +kernel
theorem dX12_grows_93 : decode cX12_grows 93 = .ok (.iastore, 1) := by decide +kernel
theorem dX12_grows_94 : decode cX12_grows 94 = .ok (.aload_n 0, 1) := by decide +kernel
theorem dX12_grows_95 : decode cX12_grows 95 = .ok (.dup, 1) := by decide +kernel
theorem dX12_grows_96 : decode cX12_grows 96 = .ok (.getfield 193, 3) := by decide +kernel
theorem dX12_grows_99 : decode cX12_grows 99 = .ok (.iconst 1, 1) := by decide +kernel
theorem dX12_grows_100 : decode cX12_grows 100 = .ok (.iadd, 1) := by decide +kernel
theorem dX12_grows_101 : decode cX12_grows 101 = .ok (.putfield 193, 3) := by decide +kernel
theorem dX12_grows_104 : decode cX12_grows 104 = .ok (.iload_n 3, 1) := by decide +kernel
theorem dX12_grows_105 : decode cX12_grows 105 = .ok (.iconst (-1), 1) := by decide +kernel
theorem dX12_grows_106 : decode cX12_grows 106 = .ok (.if_icmp .eq 23, 3) := by decide +kernel
theorem dX12_grows_109 : decode cX12_grows 109 = .ok (.aload_n 0, 1) := by decide +kernel
theorem dX12_grows_110 : decode cX12_grows 110 = .ok (.getfield 63, 3) := by decide +kernel
theorem dX12_grows_113 : decode cX12_grows 113 = .ok (.iload_n 3, 1) := by decide +kernel
theorem dX12_grows_114 : decode cX12_grows 114 = .ok (.aload_n 0, 1) := by decide +kernel
theorem dX12_grows_115 : decode cX12_grows 115 = .ok (.aload_n 0, 1) := by decide +kernel
theorem dX12_grows_116 : decode cX12_grows 116 = .ok (.getfield 63, 3) := by decide +kernel
theorem dX12_grows_119 : decode cX12_grows 119 = .ok (.iload_n 3, 1) := by decide +kernel
theorem dX12_grows_120 : decode cX12_grows 120 = .ok (.iaload, 1) := by decide +kernel
theorem dX12_grows_121 : decode cX12_grows 121 = .ok (.i2l, 1) := by decide +kernel
theorem dX12_grows_122 : decode cX12_grows 122 = .ok (.iload_n 2, 1) := by decide +kernel
theorem dX12_grows_123 : decode cX12_grows 123 = .ok (.i2l, 1) := by decide +kernel
theorem dX12_grows_124 : decode cX12_grows 124 = .ok (.ladd, 1) := by decide +kernel
theorem dX12_grows_125 : decode cX12_grows 125 = .ok (.invokevirtual 157, 3) := by decide +kernel
theorem dX12_grows_128 : decode cX12_grows 128 = .ok (.iastore, 1) := by decide +kernel
theorem dX12_grows_129 : decode cX12_grows 129 = .ok (.return_, 1) := by decide +kernel
set_option maxRecDepth 20000 in
theorem ggX12_drops_X12_rowOf : GoodIn wsX12_drops wsX12_rowOf := goodIn_r _ [9, 1, 3, 4, 10, 11, 12, 13, 8, 14, 15, 16, 17, 18, 19, 20, 21, 22, 23, 24, 25, 26, 27, 28, 29, 30, 31, 32, 33, 34, 35, 36, 37, 38, 39, 40, 41, 42, 43, 44, 45, 46, 47, 48, 49, 50, 51, 52, 53, 54, 55, 56] (by decide +kernel) (by decide +kernel)
set_option maxRecDepth 20000 in
theorem gX12_drops_X12_rowOf : GoodIn wsX12_drops (wsV RX12 196 RX12 yX12_rowOf wsX12_rowOf) := goodIn_app (goodIn_of _ (by decide +kernel)) ggX12_drops_X12_rowOf
theorem dX12_drops_0 : decode cX12_drops 0 = .ok (.aload_n 0, 1) := by decide +kernel
theorem dX12_drops_1 : decode cX12_drops 1 = .ok (.iload_n 1, 1) := by decide +kernel
theorem dX12_drops_2 : decode cX12_drops 2 = .ok (.invokevirtual 196, 3) := by decide +kernel
theorem dX12_drops_5 : decode cX12_drops 5 = .ok (.istore_n 2, 1) := by decide +kernel
theorem dX12_drops_6 : decode cX12_drops 6 = .ok (.iload_n 2, 1) := by decide +kernel
theorem dX12_drops_7 : decode cX12_drops 7 = .ok (.iconst (-1), 1) := by decide +kernel
theorem dX12_drops_8 : decode cX12_drops 8 = .ok (.if_icmp .ne 4, 3) := by decide +kernel
theorem dX12_drops_11 : decode cX12_drops 11 = .ok (.return_, 1) := by decide +kernel
theorem dX12_drops_12 : decode cX12_drops 12 = .ok (.iload_n 2, 1) := by decide +kernel
theorem dX12_drops_13 : decode cX12_drops 13 = .ok (.istore_n 3, 1) := by decide +kernel
theorem dX12_drops_14 : decode cX12_drops 14 = .ok (.iload_n 3, 1) := by decide +kernel
theorem dX12_drops_15 : decode cX12_drops 15 = .ok (.aload_n 0, 1) := by decide +kernel
theorem dX12_drops_16 : decode cX12_drops 16 = .ok (.getfield 193, 3) := by decide +kernel
theorem dX12_drops_19 : decode cX12_drops 19 = .ok (.iconst 1, 1) := by decide +kernel
theorem dX12_drops_20 : decode cX12_drops 20 = .ok (.isub, 1) := by decide +kernel
theorem dX12_drops_21 : decode cX12_drops 21 = .ok (.if_icmp .ge 79, 3) := by decide +kernel
theorem dX12_drops_24 : decode cX12_drops 24 = .ok (.aload_n 0, 1) := by decide +kernel
theorem dX12_drops_25 : decode cX12_drops 25 = .ok (.getfield 63, 3) := by decide +kernel
theorem dX12_drops_28 : decode cX12_drops 28 = .ok (.iload_n 3, 1) := by decide +kernel
theorem dX12_drops_29 : decode cX12_drops 29 = .ok (.aload_n 0, 1) := by decide +kernel
theorem dX12_drops_30 : decode cX12_drops 30 = .ok (.getfield 63, 3) := by decide +kernel
theorem dX12_drops_33 : decode cX12_drops 33 = .ok (.iload_n 3, 1) := by decide +kernel
theorem dX12_drops_34 : decode cX12_drops 34 = .ok (.iconst 1, 1) := by decide +kernel
theorem dX12_drops_35 : decode cX12_drops 35 = .ok (.iadd, 1) := by decide +kernel
theorem dX12_drops_36 : decode cX12_drops 36 = .ok (.iaload, 1) := by decide +kernel
theorem dX12_drops_37 : decode cX12_drops 37 = .ok (.iastore, 1) := by decide +kernel
theorem dX12_drops_38 : decode cX12_drops 38 = .ok (.aload_n 0, 1) := by decide +kernel
theorem dX12_drops_39 : decode cX12_drops 39 = .ok (.getfield 60, 3) := by decide +kernel
theorem dX12_drops_42 : decode cX12_drops 42 = .ok (.iload_n 3, 1) := by decide +kernel
theorem dX12_drops_43 : decode cX12_drops 43 = .ok (.aload_n 0, 1) := by decide +kernel
theorem dX12_drops_44 : decode cX12_drops 44 = .ok (.getfield 60, 3) := by decide +kernel
theorem dX12_drops_47 : decode cX12_drops 47 = .ok (.iload_n 3, 1) := by decide +kernel
theorem dX12_drops_48 : decode cX12_drops 48 = .ok (.iconst 1, 1) := by decide +kernel
theorem dX12_drops_49 : decode cX12_drops 49 = .ok (.iadd, 1) := by decide +kernel
theorem dX12_drops_50 : decode cX12_drops 50 = .ok (.iaload, 1) := by decide +kernel
theorem dX12_drops_51 : decode cX12_drops 51 = .ok (.iastore, 1) := by decide +kernel
theorem dX12_drops_52 : decode cX12_drops 52 = .ok (.iconst 0, 1) := by decide +kernel
theorem dX12_drops_53 : decode cX12_drops 53 = .ok (.istore 4, 2) := by decide +kernel
theorem dX12_drops_55 : decode cX12_drops 55 = .ok (.iload 4, 2) := by decide +kernel
theorem dX12_drops_57 : decode cX12_drops 57 = .ok (.bipush 60, 2) := by decide +kernel
theorem dX12_drops_59 : decode cX12_drops 59 = .ok (.if_icmp .ge 35, 3) := by decide +kernel
theorem dX12_drops_62 : decode cX12_drops 62 = .ok (.aload_n 0, 1) := by decide +kernel
theorem dX12_drops_63 : decode cX12_drops 63 = .ok (.getfield 57, 3) := by decide +kernel
theorem dX12_drops_66 : decode cX12_drops 66 = .ok (.bipush 60, 2) := by decide +kernel
theorem dX12_drops_68 : decode cX12_drops 68 = .ok (.iload_n 3, 1) := by decide +kernel
theorem dX12_drops_69 : decode cX12_drops 69 = .ok (.imul, 1) := by decide +kernel
theorem dX12_drops_70 : decode cX12_drops 70 = .ok (.iload 4, 2) := by decide +kernel
theorem dX12_drops_72 : decode cX12_drops 72 = .ok (.iadd, 1) := by decide +kernel
theorem dX12_drops_73 : decode cX12_drops 73 = .ok (.aload_n 0, 1) := by decide +kernel
theorem dX12_drops_74 : decode cX12_drops 74 = .ok (.getfield 57, 3) := by decide +kernel
theorem dX12_drops_77 : decode cX12_drops 77 = .ok (.bipush 60, 2) := by decide +kernel
theorem dX12_drops_79 : decode cX12_drops 79 = .ok (.iload_n 3, 1) := by decide +kernel
theorem dX12_drops_80 : decode cX12_drops 80 = .ok (.iconst 1, 1) := by decide +kernel
theorem dX12_drops_81 : decode cX12_drops 81 = .ok (.iadd, 1) := by decide +kernel
theorem dX12_drops_82 : decode cX12_drops 82 = .ok (.imul, 1) := by decide +kernel
theorem dX12_drops_83 : decode cX12_drops 83 = .ok (.iload 4, 2) := by decide +kernel
theorem dX12_drops_85 : decode cX12_drops 85 = .ok (.iadd, 1) := by decide +kernel
theorem dX12_drops_86 : decode cX12_drops 86 = .ok (.iaload, 1) := by decide +kernel
theorem dX12_drops_87 : decode cX12_drops 87 = .ok (.iastore, 1) := by decide +kernel
theorem dX12_drops_88 : decode cX12_drops 88 = .ok (.iinc 4 1, 3) := by decide +kernel
theorem dX12_drops_91 : decode cX12_drops 91 = .ok (.goto (-36), 3) := by decide +kernel
theorem dX12_drops_94 : decode cX12_drops 94 = .ok (.iinc 3 1, 3) := by decide +kernel
theorem dX12_drops_97 : decode cX12_drops 97 = .ok (.goto (-83), 3) := by decide +kernel
theorem dX12_drops_100 : decode cX12_drops 100 = .ok (.aload_n 0, 1) := by decide +kernel
theorem dX12_drops_101 : decode cX12_drops 101 = .ok (.dup, 1) := by decide +kernel
theorem dX12_drops_102 : decode cX12_drops 102 = .ok (.getfield 193, 3) := by decide +kernel
theorem dX12_drops_105 : decode cX12_drops 105 = .ok (.iconst 1, 1) := by decide +kernel
theorem dX12_drops_106 : decode cX12_drops 106 = .ok (.isub, 1) := by decide +kernel
theorem dX12_drops_107 : decode cX12_drops 107 = .ok (.putfield 193, 3) := by decide +kernel
theorem dX12_drops_110 : decode cX12_drops 110 = .ok (.return_, 1) := by decide +kernel
theorem dX12_prints_0 : decode cX12_prints 0 = .ok (.aload_n 0, 1) := by decide +kernel
theorem dX12_prints_1 : decode cX12_prints 1 = .ok (.getfield 199, 3) := by decide +kernel
theorem dX12_prints_4 : decode cX12_prints 4 = .ok (.bipush 40, 2) := by decide +kernel
theorem dX12_prints_6 : decode cX12_prints 6 = .ok (.if_icmp .ne 81, 3) := by decide +kernel
theorem dX12_prints_9 : decode cX12_prints 9 = .ok (.aload_n 0, 1) := by decide +kernel
theorem dX12_prints_10 : decode cX12_prints 10 = .ok (.dup, 1) := by decide +kernel
theorem dX12_prints_11 : decode cX12_prints 11 = .ok (.getfield 199, 3) := by decide +kernel
theorem dX12_prints_14 : decode cX12_prints 14 = .ok (.iconst 1, 1) := by decide +kernel
theorem dX12_prints_15 : decode cX12_prints 15 = .ok (.isub, 1) := by decide +kernel
theorem dX12_prints_16 : decode cX12_prints 16 = .ok (.putfield 199, 3) := by decide +kernel
theorem dX12_prints_19 : decode cX12_prints 19 = .ok (.iconst 0, 1) := by decide +kernel
theorem dX12_prints_20 : decode cX12_prints 20 = .ok (.istore_n 1, 1) := by decide +kernel
theorem dX12_prints_21 : decode cX12_prints 21 = .ok (.iload_n 1, 1) := by decide +kernel
theorem dX12_prints_22 : decode cX12_prints 22 = .ok (.aload_n 0, 1) := by decide +kernel
theorem dX12_prints_23 : decode cX12_prints 23 = .ok (.getfield 199, 3) := by decide +kernel
theorem dX12_prints_26 : decode cX12_prints 26 = .ok (.if_icmp .ge 61, 3) := by decide +kernel
theorem dX12_prints_29 : decode cX12_prints 29 = .ok (.aload_n 0, 1) := by decide +kernel
theorem dX12_prints_30 : decode cX12_prints 30 = .ok (.getfield 69, 3) := by decide +kernel
theorem dX12_prints_33 : decode cX12_prints 33 = .ok (.iload_n 1, 1) := by decide +kernel
theorem dX12_prints_34 : decode cX12_prints 34 = .ok (.aload_n 0, 1) := by decide +kernel
theorem dX12_prints_35 : decode cX12_prints 35 = .ok (.getfield 69, 3) := by decide +kernel
theorem dX12_prints_38 : decode cX12_prints 38 = .ok (.iload_n 1, 1) := by decide +kernel
theorem dX12_prints_39 : decode cX12_prints 39 = .ok (.iconst 1, 1) := by decide +kernel
theorem dX12_prints_40 : decode cX12_prints 40 = .ok (.iadd, 1) := by decide +kernel
theorem dX12_prints_41 : decode cX12_prints 41 = .ok (.iaload, 1) := by decide +kernel
theorem dX12_prints_42 : decode cX12_prints 42 = .ok (.iastore, 1) := by decide +kernel
theorem dX12_prints_43 : decode cX12_prints 43 = .ok (.iconst 0, 1) := by decide +kernel
theorem dX12_prints_44 : decode cX12_prints 44 = .ok (.istore_n 2, 1) := by decide +kernel
theorem dX12_prints_45 : decode cX12_prints 45 = .ok (.iload_n 2, 1) := by decide +kernel
theorem dX12_prints_46 : decode cX12_prints 46 = .ok (.bipush 60, 2) := by decide +kernel
theorem dX12_prints_48 : decode cX12_prints 48 = .ok (.if_icmp .ge 33, 3) := by decide +kernel
theorem dX12_prints_51 : decode cX12_prints 51 = .ok (.aload_n 0, 1) := by decide +kernel
theorem dX12_prints_52 : decode cX12_prints 52 = .ok (.getfield 66, 3) := by decide +kernel
theorem dX12_prints_55 : decode cX12_prints 55 = .ok (.bipush 60, 2) := by decide +kernel
theorem dX12_prints_57 : decode cX12_prints 57 = .ok (.iload_n 1, 1) := by decide +kernel
theorem dX12_prints_58 : decode cX12_prints 58 = .ok (.imul, 1) := by decide +kernel
theorem dX12_prints_59 : decode cX12_prints 59 = .ok (.iload_n 2, 1) := by decide +kernel
theorem dX12_prints_60 : decode cX12_prints 60 = .ok (.iadd, 1) := by decide +kernel
theorem dX12_prints_61 : decode cX12_prints 61 = .ok (.aload_n 0, 1) := by decide +kernel
theorem dX12_prints_62 : decode cX12_prints 62 = .ok (.getfield 66, 3) := by decide +kernel
theorem dX12_prints_65 : decode cX12_prints 65 = .ok (.bipush 60, 2) := by decide +kernel
theorem dX12_prints_67 : decode cX12_prints 67 = .ok (.iload_n 1, 1) := by decide +kernel
theorem dX12_prints_68 : decode cX12_prints 68 = .ok (.iconst 1, 1) := by decide +kernel
theorem dX12_prints_69 : decode cX12_prints 69 = .ok (.iadd, 1) := by decide +kernel
theorem dX12_prints_70 : decode cX12_prints 70 = .ok (.imul, 1) := by decide +kernel
theorem dX12_prints_71 : decode cX12_prints 71 = .ok (.iload_n 2, 1) := by decide +kernel
theorem dX12_prints_72 : decode cX12_prints 72 = .ok (.iadd, 1) := by decide +kernel
theorem dX12_prints_73 : decode cX12_prints 73 = .ok (.iaload, 1) := by decide +kernel
theorem dX12_prints_74 : decode cX12_prints 74 = .ok (.iastore, 1) := by decide +kernel
theorem dX12_prints_75 : decode cX12_prints 75 = .ok (.iinc 2 1, 3) := by decide +kernel
theorem dX12_prints_78 : decode cX12_prints 78 = .ok (.goto (-33), 3) := by decide +kernel
theorem dX12_prints_81 : decode cX12_prints 81 = .ok (.iinc 1 1, 3) := by decide +kernel
theorem dX12_prints_84 : decode cX12_prints 84 = .ok (.goto (-63), 3) := by decide +kernel
theorem dX12_prints_87 : decode cX12_prints 87 = .ok (.aload_n 0, 1) := by decide +kernel
theorem dX12_prints_88 : decode cX12_prints 88 = .ok (.getfield 69, 3) := by decide +kernel
theorem dX12_prints_91 : decode cX12_prints 91 = .ok (.aload_n 0, 1) := by decide +kernel
theorem dX12_prints_92 : decode cX12_prints 92 = .ok (.getfield 199, 3) := by decide +kernel
theorem dX12_prints_95 : decode cX12_prints 95 = .ok (.aload_n 0, 1) := by decide +kernel
theorem dX12_prints_96 : decode cX12_prints 96 = .ok (.getfield 100, 3) := by decide +kernel
theorem dX12_prints_99 : decode cX12_prints 99 = .ok (.iastore, 1) := by decide +kernel
theorem dX12_prints_100 : decode cX12_prints 100 = .ok (.iconst 0, 1) := by decide +kernel
theorem dX12_prints_101 : decode cX12_prints 101 = .ok (.istore_n 1, 1) := by decide +kernel
theorem dX12_prints_102 : decode cX12_prints 102 = .ok (.iload_n 1, 1) := by decide +kernel
theorem dX12_prints_103 : decode cX12_prints 103 = .ok (.aload_n 0, 1) := by decide +kernel
theorem dX12_prints_104 : decode cX12_prints 104 = .ok (.getfield 100, 3) := by decide +kernel
theorem dX12_prints_107 : decode cX12_prints 107 = .ok (.if_icmp .ge 29, 3) := by decide +kernel
theorem dX12_prints_110 : decode cX12_prints 110 = .ok (.aload_n 0, 1) := by decide +kernel
theorem dX12_prints_111 : decode cX12_prints 111 = .ok (.getfield 66, 3) := by decide +kernel
theorem dX12_prints_114 : decode cX12_prints 114 = .ok (.bipush 60, 2) := by decide +kernel
theorem dX12_prints_116 : decode cX12_prints 116 = .ok (.aload_n 0, 1) := by decide +kernel
theorem dX12_prints_117 : decode cX12_prints 117 = .ok (.getfield 199, 3) := by decide +kernel
theorem dX12_prints_120 : decode cX12_prints 120 = .ok (.imul, 1) := by decide +kernel
theorem dX12_prints_121 : decode cX12_prints 121 = .ok (.iload_n 1, 1) := by decide +kernel
theorem dX12_prints_122 : decode cX12_prints 122 = .ok (.iadd, 1) := by decide +kernel
theorem dX12_prints_123 : decode cX12_prints 123 = .ok (.aload_n 0, 1) := by decide +kernel
theorem dX12_prints_124 : decode cX12_prints 124 = .ok (.getfield 72, 3) := by decide +kernel
theorem dX12_prints_127 : decode cX12_prints 127 = .ok (.iload_n 1, 1) := by decide +kernel
theorem dX12_prints_128 : decode cX12_prints 128 = .ok (.iaload, 1) := by decide +kernel
theorem dX12_prints_129 : decode cX12_prints 129 = .ok (.iastore, 1) := by decide +kernel
theorem dX12_prints_130 : decode cX12_prints 130 = .ok (.iinc 1 1, 3) := by decide +kernel
theorem dX12_prints_133 : decode cX12_prints 133 = .ok (.goto (-31), 3) := by decide +kernel
theorem dX12_prints_136 : decode cX12_prints 136 = .ok (.aload_n 0, 1) := by decide +kernel
theorem dX12_prints_137 : decode cX12_prints 137 = .ok (.dup, 1) := by decide +kernel
theorem dX12_prints_138 : decode cX12_prints 138 = .ok (.getfield 199, 3) := by decide +kernel
theorem dX12_prints_141 : decode cX12_prints 141 = .ok (.iconst 1, 1) := by decide +kernel
theorem dX12_prints_142 : decode cX12_prints 142 = .ok (.iadd, 1) := by decide +kernel
theorem dX12_prints_143 : decode cX12_prints 143 = .ok (.putfield 199, 3) := by decide +kernel
theorem dX12_prints_146 : decode cX12_prints 146 = .ok (.return_, 1) := by decide +kernel
set_option maxRecDepth 20000 in
theorem ggX12_does_X12_finds : GoodIn wsX12_does wsX12_finds := goodIn_r _ [7, 8, 9, 10, 11, 12, 13, 14, 15, 16, 17, 6, 18, 19, 20, 21, 22, 23, 24, 25, 26, 27, 28, 29, 30, 31, 32, 33, 34, 35, 36, 37, 38, 39, 40, 41, 42, 43, 44, 45, 46, 47, 48, 49, 50, 51, 52, 53, 54, 55, 56, 57, 58, 59, 60, 61, 62, 63, 64, 65, 66, 67, 68, 69, 70, 71, 72, 73, 74, 75, 76, 77, 78, 115, 116, 117, 118, 119, 120, 121, 122, 123, 124, 125, 126, 127, 128, 129, 130, 131, 132, 133, 134, 135, 136, 137, 138, 139, 140, 141, 142, 143, 144, 145, 146, 147, 148] (by decide +kernel) (by decide +kernel)
set_option maxRecDepth 20000 in
theorem gX12_does_X12_finds : GoodIn wsX12_does (wsV RX12 202 RX12 yX12_finds wsX12_finds) := goodIn_app (goodIn_of _ (by decide +kernel)) ggX12_does_X12_finds
set_option maxRecDepth 20000 in
theorem ggX12_does_X12_sets : GoodIn wsX12_does wsX12_sets := goodIn_r _ [82, 9, 30, 83, 19, 64, 65, 66, 6, 67, 12, 13, 38, 39, 40, 41, 14, 26, 27, 28, 29, 31, 32, 33, 34, 35, 36, 37, 84, 85, 86, 87, 88, 89, 90, 91, 115, 116, 117, 118, 119, 120, 121, 122, 123, 124, 125, 126, 127, 128, 129, 130, 131, 132, 133, 134, 135, 136, 137, 138, 139, 140, 141, 142, 143, 144, 145, 146, 147, 148] (by decide +kernel) (by decide +kernel)
set_option maxRecDepth 20000 in
theorem gX12_does_X12_sets : GoodIn wsX12_does (wsV RX12 205 RX12 yX12_sets wsX12_sets) := goodIn_app (goodIn_of _ (by decide +kernel)) ggX12_does_X12_sets
set_option maxRecDepth 20000 in
theorem ggX12_does_X12_grows : GoodIn wsX12_does wsX12_grows := goodIn_r _ [95, 96, 97, 98, 19, 99, 100, 101, 102, 6, 103, 32, 33, 34, 35, 36, 30, 37, 26, 27, 28, 29, 31, 72, 73, 74, 75, 76, 77, 78, 115, 116, 117, 118, 119, 120, 121, 122, 123, 124, 125, 126, 127, 128, 129, 130, 131, 132, 133, 134, 135, 136, 137, 138, 139, 140, 141, 142, 143, 144, 145, 146, 147, 148] (by decide +kernel) (by decide +kernel)
set_option maxRecDepth 20000 in
theorem gX12_does_X12_grows : GoodIn wsX12_does (wsV RX12 208 RX12 yX12_grows wsX12_grows) := goodIn_app (goodIn_of _ (by decide +kernel)) ggX12_does_X12_grows
set_option maxRecDepth 20000 in
theorem ggX12_does_X12_prints : GoodIn wsX12_does wsX12_prints := goodIn_r _ [107, 108, 109, 110, 12, 13, 115, 116, 117, 118, 119, 120, 121, 122, 123, 124, 125, 126, 127, 128, 129, 130, 131, 132, 133, 134, 135, 136, 137, 138, 139, 140, 141, 142, 143, 144, 145, 146, 147, 148] (by decide +kernel) (by decide +kernel)
set_option maxRecDepth 20000 in
theorem gX12_does_X12_prints : GoodIn wsX12_does (wsV RX12 212 RX12 yX12_prints wsX12_prints) := goodIn_app (goodIn_of _ (by decide +kernel)) ggX12_does_X12_prints
set_option maxRecDepth 20000 in
theorem ggX12_does_X12_drops : GoodIn wsX12_does wsX12_drops := goodIn_r _ [114, 96, 99, 97, 98, 100, 101, 102, 6, 103, 19, 32, 33, 34, 35, 36, 30, 37, 26, 27, 28, 29, 31, 115, 116, 117, 118, 119, 120, 121, 122, 123, 124, 125, 126, 127, 128, 129, 130, 131, 132, 133, 134, 135, 136, 137, 138, 139, 140, 141, 142, 143, 144, 145, 146, 147, 148] (by decide +kernel) (by decide +kernel)
set_option maxRecDepth 20000 in
theorem gX12_does_X12_drops : GoodIn wsX12_does (wsV RX12 215 RX12 yX12_drops wsX12_drops) := goodIn_app (goodIn_of _ (by decide +kernel)) ggX12_does_X12_drops
theorem dX12_does_0 : decode cX12_does 0 = .ok (.aload_n 0, 1) := by decide +kernel
theorem dX12_does_1 : decode cX12_does 1 = .ok (.getfield 42, 3) := by decide +kernel
theorem dX12_does_4 : decode cX12_does 4 = .ok (.iload_n 1, 1) := by decide +kernel
theorem dX12_does_5 : decode cX12_does 5 = .ok (.iaload, 1) := by decide +kernel
theorem dX12_does_6 : decode cX12_does 6 = .ok (.tableswitch 76 0 2 #[26, 45, 63], 26) := by decide +kernel
theorem dX12_does_32 : decode cX12_does 32 = .ok (.aload_n 0, 1) := by decide +kernel
theorem dX12_does_33 : decode cX12_does 33 = .ok (.iload_n 1, 1) := by decide +kernel
theorem dX12_does_34 : decode cX12_does 34 = .ok (.invokevirtual 202, 3) := by decide +kernel
theorem dX12_does_37 : decode cX12_does 37 = .ok (.pop, 1) := by decide +kernel
theorem dX12_does_38 : decode cX12_does 38 = .ok (.aload_n 0, 1) := by decide +kernel
theorem dX12_does_39 : decode cX12_does 39 = .ok (.aload_n 0, 1) := by decide +kernel
theorem dX12_does_40 : decode cX12_does 40 = .ok (.getfield 45, 3) := by decide +kernel
theorem dX12_does_43 : decode cX12_does 43 = .ok (.iload_n 1, 1) := by decide +kernel
theorem dX12_does_44 : decode cX12_does 44 = .ok (.iaload, 1) := by decide +kernel
theorem dX12_does_45 : decode cX12_does 45 = .ok (.invokevirtual 205, 3) := by decide +kernel
theorem dX12_does_48 : decode cX12_does 48 = .ok (.goto 44, 3) := by decide +kernel
theorem dX12_does_51 : decode cX12_does 51 = .ok (.aload_n 0, 1) := by decide +kernel
theorem dX12_does_52 : decode cX12_does 52 = .ok (.aload_n 0, 1) := by decide +kernel
theorem dX12_does_53 : decode cX12_does 53 = .ok (.getfield 45, 3) := by decide +kernel
theorem dX12_does_56 : decode cX12_does 56 = .ok (.iload_n 1, 1) := by decide +kernel
theorem dX12_does_57 : decode cX12_does 57 = .ok (.iaload, 1) := by decide +kernel
theorem dX12_does_58 : decode cX12_does 58 = .ok (.aload_n 0, 1) := by decide +kernel
theorem dX12_does_59 : decode cX12_does 59 = .ok (.iload_n 1, 1) := by decide +kernel
theorem dX12_does_60 : decode cX12_does 60 = .ok (.invokevirtual 202, 3) := by decide +kernel
theorem dX12_does_63 : decode cX12_does 63 = .ok (.invokevirtual 208, 3) := by decide +kernel
theorem dX12_does_66 : decode cX12_does 66 = .ok (.goto 26, 3) := by decide +kernel
theorem dX12_does_69 : decode cX12_does 69 = .ok (.aload_n 0, 1) := by decide +kernel
theorem dX12_does_70 : decode cX12_does 70 = .ok (.iload_n 1, 1) := by decide +kernel
theorem dX12_does_71 : decode cX12_does 71 = .ok (.invokevirtual 202, 3) := by decide +kernel
theorem dX12_does_74 : decode cX12_does 74 = .ok (.pop, 1) := by decide +kernel
theorem dX12_does_75 : decode cX12_does 75 = .ok (.aload_n 0, 1) := by decide +kernel
theorem dX12_does_76 : decode cX12_does 76 = .ok (.invokevirtual 212, 3) := by decide +kernel
theorem dX12_does_79 : decode cX12_does 79 = .ok (.goto 13, 3) := by decide +kernel
theorem dX12_does_82 : decode cX12_does 82 = .ok (.aload_n 0, 1) := by decide +kernel
theorem dX12_does_83 : decode cX12_does 83 = .ok (.aload_n 0, 1) := by decide +kernel
theorem dX12_does_84 : decode cX12_does 84 = .ok (.getfield 45, 3) := by decide +kernel
theorem dX12_does_87 : decode cX12_does 87 = .ok (.iload_n 1, 1) := by decide +kernel
theorem dX12_does_88 : decode cX12_does 88 = .ok (.iaload, 1) := by decide +kernel
theorem dX12_does_89 : decode cX12_does 89 = .ok (.invokevirtual 215, 3) := by decide +kernel
theorem dX12_does_92 : decode cX12_does 92 = .ok (.return_, 1) := by decide +kernel
set_option maxRecDepth 20000 in
theorem ggX12_acts_X12_does : GoodIn wsX12_acts wsX12_does := goodIn_r _ [7, 2, 8, 9, 10, 11, 6, 12, 13, 14, 15, 16, 17, 18, 19, 20, 21, 22, 23, 24, 25, 26, 27, 28, 29, 30, 31, 32, 33, 34, 35, 36, 37, 38, 39, 40, 41, 42, 43, 44, 45, 46, 47, 48, 49, 50, 51, 52, 53, 54, 55, 56, 57, 58, 59, 60, 61, 62, 63, 64, 65, 66, 67, 68, 69, 70, 71, 72, 73, 74, 75, 76, 77, 78, 79, 80, 81, 82, 83, 84, 85, 86, 87, 88, 89, 90, 91, 92, 93, 94, 95, 96, 97, 98, 99, 100, 101, 102, 103, 104, 105, 106, 107, 108, 109, 110, 111, 112, 113, 114, 115, 116, 117, 118, 119, 120, 121, 122, 123, 124, 125, 126, 127, 128, 129, 130, 131, 132, 133, 134, 135, 136, 137, 138, 139, 140, 141, 142, 143, 144, 145, 146, 147, 148, 149, 150, 151, 152, 153] (by decide +kernel) (by decide +kernel)
set_option maxRecDepth 20000 in
theorem gX12_acts_X12_does : GoodIn wsX12_acts (wsV RX12 218 RX12 yX12_does wsX12_does) := goodIn_app (goodIn_of _ (by decide +kernel)) ggX12_acts_X12_does
theorem dX12_acts_0 : decode cX12_acts 0 = .ok (.bipush 6, 2) := by decide +kernel
theorem dX12_acts_2 : decode cX12_acts 2 = .ok (.iload_n 1, 1) := by decide +kernel
theorem dX12_acts_3 : decode cX12_acts 3 = .ok (.imul, 1) := by decide +kernel
theorem dX12_acts_4 : decode cX12_acts 4 = .ok (.istore_n 2, 1) := by decide +kernel
theorem dX12_acts_5 : decode cX12_acts 5 = .ok (.iload_n 2, 1) := by decide +kernel
theorem dX12_acts_6 : decode cX12_acts 6 = .ok (.bipush 6, 2) := by decide +kernel
theorem dX12_acts_8 : decode cX12_acts 8 = .ok (.iload_n 1, 1) := by decide +kernel
theorem dX12_acts_9 : decode cX12_acts 9 = .ok (.imul, 1) := by decide +kernel
theorem dX12_acts_10 : decode cX12_acts 10 = .ok (.aload_n 0, 1) := by decide +kernel
theorem dX12_acts_11 : decode cX12_acts 11 = .ok (.getfield 39, 3) := by decide +kernel
theorem dX12_acts_14 : decode cX12_acts 14 = .ok (.iload_n 1, 1) := by decide +kernel
theorem dX12_acts_15 : decode cX12_acts 15 = .ok (.iaload, 1) := by decide +kernel
theorem dX12_acts_16 : decode cX12_acts 16 = .ok (.iadd, 1) := by decide +kernel
theorem dX12_acts_17 : decode cX12_acts 17 = .ok (.if_icmp .ge 26, 3) := by decide +kernel
theorem dX12_acts_20 : decode cX12_acts 20 = .ok (.aload_n 0, 1) := by decide +kernel
theorem dX12_acts_21 : decode cX12_acts 21 = .ok (.getfield 42, 3) := by decide +kernel
theorem dX12_acts_24 : decode cX12_acts 24 = .ok (.iload_n 2, 1) := by decide +kernel
theorem dX12_acts_25 : decode cX12_acts 25 = .ok (.iaload, 1) := by decide +kernel
theorem dX12_acts_26 : decode cX12_acts 26 = .ok (.iconst 4, 1) := by decide +kernel
theorem dX12_acts_27 : decode cX12_acts 27 = .ok (.if_icmp .ne 5, 3) := by decide +kernel
theorem dX12_acts_30 : decode cX12_acts 30 = .ok (.iconst 0, 1) := by decide +kernel
theorem dX12_acts_31 : decode cX12_acts 31 = .ok (.ireturn, 1) := by decide +kernel
theorem dX12_acts_32 : decode cX12_acts 32 = .ok (.aload_n 0, 1) := by decide +kernel
theorem dX12_acts_33 : decode cX12_acts 33 = .ok (.iload_n 2, 1) := by decide +kernel
theorem dX12_acts_34 : decode cX12_acts 34 = .ok (.invokevirtual 218, 3) := by decide +kernel
theorem dX12_acts_37 : decode cX12_acts 37 = .ok (.iinc 2 1, 3) := by decide +kernel
theorem dX12_acts_40 : decode cX12_acts 40 = .ok (.goto (-35), 3) := by decide +kernel
theorem dX12_acts_43 : decode cX12_acts 43 = .ok (.iconst 1, 1) := by decide +kernel
theorem dX12_acts_44 : decode cX12_acts 44 = .ok (.ireturn, 1) := by decide +kernel
set_option maxRecDepth 20000 in
theorem ggX12_end_X12_cuts : GoodIn wsX12_end wsX12_cuts := goodIn_r _ [12, 3, 13, 14, 4, 15, 16, 151, 152, 153, 154, 155, 156, 157, 158, 159, 160, 161, 162, 163, 164, 165, 166, 167, 168, 169, 170, 171, 172, 173, 174, 175, 176, 177, 178, 179, 180, 181, 182, 183, 184] (by decide +kernel) (by decide +kernel)
set_option maxRecDepth 20000 in
theorem gX12_end_X12_cuts : GoodIn wsX12_end (wsV RX12 97 RX12 yX12_cuts wsX12_cuts) := goodIn_app (goodIn_of _ (by decide +kernel)) ggX12_end_X12_cuts
set_option maxRecDepth 20000 in
theorem ggX12_end_X12_isTrue : GoodIn wsX12_end wsX12_isTrue := goodIn_r _ [20, 21, 22, 23, 24, 25, 26, 27, 11, 28, 29, 30, 31, 32, 33, 34, 35, 36, 4, 37, 38, 39, 40, 13, 14, 41, 42, 43, 44, 3, 16, 45, 46, 47, 48, 49, 50, 51, 52, 53, 54, 55, 56, 57, 58, 59, 60, 61, 151, 152, 153, 154, 155, 156, 157, 158, 159, 160, 161, 162, 163, 164, 165, 166, 167, 168, 169, 170, 171, 172, 173, 174, 175, 176, 177, 178, 179, 180, 181, 182, 183, 184] (by decide +kernel) (by decide +kernel)
set_option maxRecDepth 20000 in
theorem gX12_end_X12_isTrue : GoodIn wsX12_end (wsV RX12 221 RX12 yX12_isTrue wsX12_isTrue) := goodIn_app (goodIn_of _ (by decide +kernel)) ggX12_end_X12_isTrue
set_option maxRecDepth 20000 in
theorem ggX12_end_X12_acts : GoodIn wsX12_end wsX12_acts := goodIn_r _ [65, 66, 67, 68, 69, 70, 11, 71, 72, 73, 74, 75, 76, 77, 78, 79, 80, 81, 82, 83, 84, 85, 86, 87, 4, 88, 89, 90, 48, 49, 50, 37, 38, 39, 40, 13, 14, 41, 42, 43, 44, 3, 16, 91, 92, 93, 94, 95, 96, 97, 98, 6, 51, 52, 53, 54, 33, 34, 35, 36, 45, 46, 47, 99, 100, 101, 102, 103, 104, 105, 106, 107, 108, 109, 110, 111, 112, 113, 114, 115, 116, 117, 118, 119, 120, 121, 122, 123, 15, 124, 125, 126, 127, 8, 9, 10, 12, 128, 129, 130, 131, 132, 133, 134, 135, 136, 137, 138, 139, 140, 141, 142, 143, 144, 145, 146, 147, 148, 149, 150, 151, 152, 153, 154, 155, 156, 157, 158, 159, 160, 161, 162, 163, 164, 165, 166, 167, 168, 169, 170, 171, 172, 173, 174, 175, 176, 177, 178, 179, 180, 181, 182, 183, 184] (by decide +kernel) (by decide +kernel)
set_option maxRecDepth 20000 in
theorem gX12_end_X12_acts : GoodIn wsX12_end (wsV RX12 224 RX12 yX12_acts wsX12_acts) := goodIn_app (goodIn_of _ (by decide +kernel)) ggX12_end_X12_acts
theorem dX12_end_0 : decode cX12_end 0 = .ok (.aload_n 0, 1) := by decide +kernel
theorem dX12_end_1 : decode cX12_end 1 = .ok (.iconst 0, 1) := by decide +kernel
theorem dX12_end_2 : decode cX12_end 2 = .ok (.putfield 81, 3) := by decide +kernel
theorem dX12_end_5 : decode cX12_end 5 = .ok (.aload_n 0, 1) := by decide +kernel
theorem dX12_end_6 : decode cX12_end 6 = .ok (.aload_n 0, 1) := by decide +kernel
theorem dX12_end_7 : decode cX12_end 7 = .ok (.getfield 183, 3) := by decide +kernel
theorem dX12_end_10 : decode cX12_end 10 = .ok (.putfield 91, 3) := by decide +kernel
theorem dX12_end_13 : decode cX12_end 13 = .ok (.iconst 0, 1) := by decide +kernel
theorem dX12_end_14 : decode cX12_end 14 = .ok (.istore_n 1, 1) := by decide +kernel
theorem dX12_end_15 : decode cX12_end 15 = .ok (.iload_n 1, 1) := by decide +kernel
theorem dX12_end_16 : decode cX12_end 16 = .ok (.aload_n 0, 1) := by decide +kernel
theorem dX12_end_17 : decode cX12_end 17 = .ok (.getfield 183, 3) := by decide +kernel
theorem dX12_end_20 : decode cX12_end 20 = .ok (.if_icmp .ge 21, 3) := by decide +kernel
theorem dX12_end_23 : decode cX12_end 23 = .ok (.aload_n 0, 1) := by decide +kernel
theorem dX12_end_24 : decode cX12_end 24 = .ok (.getfield 13, 3) := by decide +kernel
theorem dX12_end_27 : decode cX12_end 27 = .ok (.iload_n 1, 1) := by decide +kernel
theorem dX12_end_28 : decode cX12_end 28 = .ok (.aload_n 0, 1) := by decide +kernel
theorem dX12_end_29 : decode cX12_end 29 = .ok (.getfield 23, 3) := by decide +kernel
theorem dX12_end_32 : decode cX12_end 32 = .ok (.iload_n 1, 1) := by decide +kernel
theorem dX12_end_33 : decode cX12_end 33 = .ok (.iaload, 1) := by decide +kernel
theorem dX12_end_34 : decode cX12_end 34 = .ok (.iastore, 1) := by decide +kernel
theorem dX12_end_35 : decode cX12_end 35 = .ok (.iinc 1 1, 3) := by decide +kernel
theorem dX12_end_38 : decode cX12_end 38 = .ok (.goto (-23), 3) := by decide +kernel
theorem dX12_end_41 : decode cX12_end 41 = .ok (.aload_n 0, 1) := by decide +kernel
theorem dX12_end_42 : decode cX12_end 42 = .ok (.iconst 0, 1) := by decide +kernel
theorem dX12_end_43 : decode cX12_end 43 = .ok (.putfield 183, 3) := by decide +kernel
theorem dX12_end_46 : decode cX12_end 46 = .ok (.aload_n 0, 1) := by decide +kernel
theorem dX12_end_47 : decode cX12_end 47 = .ok (.dup, 1) := by decide +kernel
theorem dX12_end_48 : decode cX12_end 48 = .ok (.getfield 141, 3) := by decide +kernel
theorem dX12_end_51 : decode cX12_end 51 = .ok (.iconst 1, 1) := by decide +kernel
theorem dX12_end_52 : decode cX12_end 52 = .ok (.iadd, 1) := by decide +kernel
theorem dX12_end_53 : decode cX12_end 53 = .ok (.putfield 141, 3) := by decide +kernel
theorem dX12_end_56 : decode cX12_end 56 = .ok (.aload_n 0, 1) := by decide +kernel
theorem dX12_end_57 : decode cX12_end 57 = .ok (.invokevirtual 97, 3) := by decide +kernel
theorem dX12_end_60 : decode cX12_end 60 = .ok (.iconst 0, 1) := by decide +kernel
theorem dX12_end_61 : decode cX12_end 61 = .ok (.istore_n 1, 1) := by decide +kernel
theorem dX12_end_62 : decode cX12_end 62 = .ok (.iconst 1, 1) := by decide +kernel
theorem dX12_end_63 : decode cX12_end 63 = .ok (.istore_n 2, 1) := by decide +kernel
theorem dX12_end_64 : decode cX12_end 64 = .ok (.iconst 0, 1) := by decide +kernel
theorem dX12_end_65 : decode cX12_end 65 = .ok (.istore_n 3, 1) := by decide +kernel
theorem dX12_end_66 : decode cX12_end 66 = .ok (.iload_n 3, 1) := by decide +kernel
theorem dX12_end_67 : decode cX12_end 67 = .ok (.aload_n 0, 1) := by decide +kernel
theorem dX12_end_68 : decode cX12_end 68 = .ok (.getfield 168, 3) := by decide +kernel
theorem dX12_end_71 : decode cX12_end 71 = .ok (.if_icmp .ge 33, 3) := by decide +kernel
theorem dX12_end_74 : decode cX12_end 74 = .ok (.iload_n 2, 1) := by decide +kernel
theorem dX12_end_75 : decode cX12_end 75 = .ok (.ifCond .eq 29, 3) := by decide +kernel
theorem dX12_end_78 : decode cX12_end 78 = .ok (.aload_n 0, 1) := by decide +kernel
theorem dX12_end_79 : decode cX12_end 79 = .ok (.iload_n 3, 1) := by decide +kernel
theorem dX12_end_80 : decode cX12_end 80 = .ok (.invokevirtual 221, 3) := by decide +kernel
theorem dX12_end_83 : decode cX12_end 83 = .ok (.ifCond .eq 15, 3) := by decide +kernel
theorem dX12_end_86 : decode cX12_end 86 = .ok (.iload_n 1, 1) := by decide +kernel
theorem dX12_end_87 : decode cX12_end 87 = .ok (.iconst 1, 1) := by decide +kernel
theorem dX12_end_88 : decode cX12_end 88 = .ok (.iload_n 3, 1) := by decide +kernel
theorem dX12_end_89 : decode cX12_end 89 = .ok (.ishl, 1) := by decide +kernel
theorem dX12_end_90 : decode cX12_end 90 = .ok (.ior, 1) := by decide +kernel
theorem dX12_end_91 : decode cX12_end 91 = .ok (.istore_n 1, 1) := by decide +kernel
theorem dX12_end_92 : decode cX12_end 92 = .ok (.aload_n 0, 1) := by decide +kernel
theorem dX12_end_93 : decode cX12_end 93 = .ok (.iload_n 3, 1) := by decide +kernel
theorem dX12_end_94 : decode cX12_end 94 = .ok (.invokevirtual 224, 3) := by decide +kernel
theorem dX12_end_97 : decode cX12_end 97 = .ok (.istore_n 2, 1) := by decide +kernel
theorem dX12_end_98 : decode cX12_end 98 = .ok (.iinc 3 1, 3) := by decide +kernel
theorem dX12_end_101 : decode cX12_end 101 = .ok (.goto (-35), 3) := by decide +kernel
theorem dX12_end_104 : decode cX12_end 104 = .ok (.iload_n 1, 1) := by decide +kernel
theorem dX12_end_105 : decode cX12_end 105 = .ok (.ireturn, 1) := by decide +kernel
set_option maxRecDepth 20000 in
theorem ggX12_setField_X12_isField : GoodIn wsX12_setField wsX12_isField := goodIn_r _ [5, 6, 7, 4, 8] (by decide +kernel) (by decide +kernel)
set_option maxRecDepth 20000 in
theorem gX12_setField_X12_isField : GoodIn wsX12_setField (va_wsS RX12 174 yX12_isField wsX12_isField) := goodIn_app (goodIn_of _ (by decide +kernel)) ggX12_setField_X12_isField
set_option maxRecDepth 20000 in
theorem ggX12_setField_X12_fails : GoodIn wsX12_setField wsX12_fails := goodIn_r _ [12, 13, 57, 58, 59, 60, 61, 62, 63, 64, 65, 66, 67, 68, 69, 70, 71, 72, 73, 74, 75, 76, 77, 78, 79, 80, 81, 82, 83, 84, 85, 86, 87, 88, 89, 90] (by decide +kernel) (by decide +kernel)
set_option maxRecDepth 20000 in
theorem gX12_setField_X12_fails : GoodIn wsX12_setField (wsV RX12 171 RX12 yX12_fails wsX12_fails) := goodIn_app (goodIn_of _ (by decide +kernel)) ggX12_setField_X12_fails
set_option maxRecDepth 20000 in
theorem ggX12_setField_X12_writes : GoodIn wsX12_setField wsX12_writes := goodIn_r _ [17, 18, 19, 20, 21, 57, 58, 59, 60, 61, 62, 63, 64, 65, 66, 67, 68, 69, 70, 71, 72, 73, 74, 75, 76, 77, 78, 79, 80, 81, 82, 83, 84, 85, 86, 87, 88, 89, 90] (by decide +kernel) (by decide +kernel)
set_option maxRecDepth 20000 in
theorem gX12_setField_X12_writes : GoodIn wsX12_setField (wsV RX12 147 RX12 yX12_writes wsX12_writes) := goodIn_app (goodIn_of _ (by decide +kernel)) ggX12_setField_X12_writes
