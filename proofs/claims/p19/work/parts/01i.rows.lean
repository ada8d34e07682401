theorem dL_fits_17 : decode cL_fits 17 = .ok (.iadd, 1) := by decide +kernel
theorem dL_fits_18 : decode cL_fits 18 = .ok (.iastore, 1) := by decide +kernel
theorem dL_fits_19 : decode cL_fits 19 = .ok (.lload_n 1, 1) := by decide +kernel
theorem dL_fits_20 : decode cL_fits 20 = .ok (.lload_n 1, 1) := by decide +kernel
theorem dL_fits_21 : decode cL_fits 21 = .ok (.l2i, 1) := by decide +kernel
theorem dL_fits_22 : decode cL_fits 22 = .ok (.i2l, 1) := by decide +kernel
theorem dL_fits_23 : decode cL_fits 23 = .ok (.lcmp, 1) := by decide +kernel
theorem dL_fits_24 : decode cL_fits 24 = .ok (.ifCond .ne 8, 3) := by decide +kernel
theorem dL_fits_27 : decode cL_fits 27 = .ok (.lload_n 1, 1) := by decide +kernel
theorem dL_fits_28 : decode cL_fits 28 = .ok (.l2i, 1) := by decide +kernel
theorem dL_fits_29 : decode cL_fits 29 = .ok (.goto 4, 3) := by decide +kernel
theorem dL_fits_32 : decode cL_fits 32 = .ok (.iconst 0, 1) := by decide +kernel
theorem dL_fits_33 : decode cL_fits 33 = .ok (.ireturn, 1) := by decide +kernel
set_option maxRecDepth 20000 in
theorem ggL_finds_L_operand : GoodIn wsL_finds wsL_operand := goodIn_r _ [6, 7, 8] (by decide +kernel) (by decide +kernel)
set_option maxRecDepth 20000 in
theorem gL_finds_L_operand : GoodIn wsL_finds (va_wsS RL 101 yL_operand wsL_operand) := goodIn_app (goodIn_of _ (by decide +kernel)) ggL_finds_L_operand
set_option maxRecDepth 20000 in
theorem ggL_finds_L_texts : GoodIn wsL_finds wsL_texts := goodIn_r _ [11, 12, 13, 5, 14, 15, 16, 17, 18, 19, 20, 21, 22, 23, 24, 25, 26, 27, 28, 29, 30, 31, 32, 33, 34] (by decide +kernel) (by decide +kernel)
set_option maxRecDepth 20000 in
theorem gL_finds_L_texts : GoodIn wsL_finds (va_wsS RL 105 yL_texts wsL_texts) := goodIn_app (goodIn_of _ (by decide +kernel)) ggL_finds_L_texts
set_option maxRecDepth 20000 in
theorem ggL_finds_L_number : GoodIn wsL_finds wsL_number := goodIn_r _ [29] (by decide +kernel) (by decide +kernel)
set_option maxRecDepth 20000 in
theorem gL_finds_L_number : GoodIn wsL_finds (va_wsS RL 80 yL_number wsL_number) := goodIn_app (goodIn_of _ (by decide +kernel)) ggL_finds_L_number
set_option maxRecDepth 20000 in
theorem ggL_finds_L_numberOf : GoodIn wsL_finds wsL_numberOf := goodIn_r _ [26, 15, 16, 5, 17, 12, 13, 14, 27, 28, 29] (by decide +kernel) (by decide +kernel)
set_option maxRecDepth 20000 in
theorem gL_finds_L_numberOf : GoodIn wsL_finds (va_wsS RL 90 yL_numberOf wsL_numberOf) := goodIn_app (goodIn_of _ (by decide +kernel)) ggL_finds_L_numberOf
set_option maxRecDepth 20000 in
theorem ggL_finds_L_fits : GoodIn wsL_finds wsL_fits := goodIn_r _ [37] (by decide +kernel) (by decide +kernel)
set_option maxRecDepth 20000 in
theorem gL_finds_L_fits : GoodIn wsL_finds (va_wsS RL 109 yL_fits wsL_fits) := goodIn_app (goodIn_of _ (by decide +kernel)) ggL_finds_L_fits
set_option maxRecDepth 20000 in
theorem ggL_finds_L_writes : GoodIn wsL_finds wsL_writes := goodIn_r _ [32, 33, 34, 21, 22, 5, 23] (by decide +kernel) (by decide +kernel)
set_option maxRecDepth 20000 in
theorem gL_finds_L_writes : GoodIn wsL_finds (va_wsS RL 94 yL_writes wsL_writes) := goodIn_app (goodIn_of _ (by decide +kernel)) ggL_finds_L_writes
theorem dL_finds_0 : decode cL_finds 0 = .ok (.aload_n 3, 1) := by decide +kernel
theorem dL_finds_1 : decode cL_finds 1 = .ok (.iload 4, 2) := by decide +kernel
theorem dL_finds_3 : decode cL_finds 3 = .ok (.laload, 1) := by decide +kernel
theorem dL_finds_4 : decode cL_finds 4 = .ok (.ldc2_w 97, 3) := by decide +kernel
theorem dL_finds_7 : decode cL_finds 7 = .ok (.ldiv, 1) := by decide +kernel
theorem dL_finds_8 : decode cL_finds 8 = .ok (.ldc2_w 99, 3) := by decide +kernel
theorem dL_finds_11 : decode cL_finds 11 = .ok (.lrem, 1) := by decide +kernel
theorem dL_finds_12 : decode cL_finds 12 = .ok (.l2i, 1) := by decide +kernel
theorem dL_finds_13 : decode cL_finds 13 = .ok (.istore 5, 2) := by decide +kernel
theorem dL_finds_15 : decode cL_finds 15 = .ok (.aload_n 3, 1) := by decide +kernel
theorem dL_finds_16 : decode cL_finds 16 = .ok (.iload 4, 2) := by decide +kernel
theorem dL_finds_18 : decode cL_finds 18 = .ok (.iconst 0, 1) := by decide +kernel
theorem dL_finds_19 : decode cL_finds 19 = .ok (.invokestatic 101, 3) := by decide +kernel
theorem dL_finds_22 : decode cL_finds 22 = .ok (.istore 6, 2) := by decide +kernel
theorem dL_finds_24 : decode cL_finds 24 = .ok (.aload_n 3, 1) := by decide +kernel
theorem dL_finds_25 : decode cL_finds 25 = .ok (.iload 4, 2) := by decide +kernel
theorem dL_finds_27 : decode cL_finds 27 = .ok (.iconst 1, 1) := by decide +kernel
theorem dL_finds_28 : decode cL_finds 28 = .ok (.invokestatic 101, 3) := by decide +kernel
theorem dL_finds_31 : decode cL_finds 31 = .ok (.istore 7, 2) := by decide +kernel
theorem dL_finds_33 : decode cL_finds 33 = .ok (.aload_n 1, 1) := by decide +kernel
theorem dL_finds_34 : decode cL_finds 34 = .ok (.bipush 60, 2) := by decide +kernel
theorem dL_finds_36 : decode cL_finds 36 = .ok (.iconst 0, 1) := by decide +kernel
theorem dL_finds_37 : decode cL_finds 37 = .ok (.iastore, 1) := by decide +kernel
theorem dL_finds_38 : decode cL_finds 38 = .ok (.iload 5, 2) := by decide +kernel
theorem dL_finds_40 : decode cL_finds 40 = .ok (.ifCond .eq 9, 3) := by decide +kernel
theorem dL_finds_43 : decode cL_finds 43 = .ok (.iload 5, 2) := by decide +kernel
theorem dL_finds_45 : decode cL_finds 45 = .ok (.iconst 4, 1) := by decide +kernel
theorem dL_finds_46 : decode cL_finds 46 = .ok (.if_icmp .ne 35, 3) := by decide +kernel
theorem dL_finds_49 : decode cL_finds 49 = .ok (.aload_n 0, 1) := by decide +kernel
theorem dL_finds_50 : decode cL_finds 50 = .ok (.aload_n 2, 1) := by decide +kernel
theorem dL_finds_51 : decode cL_finds 51 = .ok (.iload 6, 2) := by decide +kernel
theorem dL_finds_53 : decode cL_finds 53 = .ok (.aload_n 1, 1) := by decide +kernel
theorem dL_finds_54 : decode cL_finds 54 = .ok (.invokestatic 105, 3) := by decide +kernel
theorem dL_finds_57 : decode cL_finds 57 = .ok (.iload 5, 2) := by decide +kernel
theorem dL_finds_59 : decode cL_finds 59 = .ok (.iconst 4, 1) := by decide +kernel
theorem dL_finds_60 : decode cL_finds 60 = .ok (.if_icmp .ne 11, 3) := by decide +kernel
theorem dL_finds_63 : decode cL_finds 63 = .ok (.aload_n 0, 1) := by decide +kernel
theorem dL_finds_64 : decode cL_finds 64 = .ok (.aload_n 2, 1) := by decide +kernel
theorem dL_finds_65 : decode cL_finds 65 = .ok (.iload 7, 2) := by decide +kernel
theorem dL_finds_67 : decode cL_finds 67 = .ok (.aload_n 1, 1) := by decide +kernel
theorem dL_finds_68 : decode cL_finds 68 = .ok (.invokestatic 105, 3) := by decide +kernel
theorem dL_finds_71 : decode cL_finds 71 = .ok (.aload_n 1, 1) := by decide +kernel
theorem dL_finds_72 : decode cL_finds 72 = .ok (.iconst 0, 1) := by decide +kernel
theorem dL_finds_73 : decode cL_finds 73 = .ok (.aload_n 1, 1) := by decide +kernel
theorem dL_finds_74 : decode cL_finds 74 = .ok (.bipush 60, 2) := by decide +kernel
theorem dL_finds_76 : decode cL_finds 76 = .ok (.iaload, 1) := by decide +kernel
theorem dL_finds_77 : decode cL_finds 77 = .ok (.invokestatic 80, 3) := by decide +kernel
theorem dL_finds_80 : decode cL_finds 80 = .ok (.ireturn, 1) := by decide +kernel
theorem dL_finds_81 : decode cL_finds 81 = .ok (.aload_n 0, 1) := by decide +kernel
theorem dL_finds_82 : decode cL_finds 82 = .ok (.aload_n 2, 1) := by decide +kernel
theorem dL_finds_83 : decode cL_finds 83 = .ok (.iload 6, 2) := by decide +kernel
theorem dL_finds_85 : decode cL_finds 85 = .ok (.invokestatic 90, 3) := by decide +kernel
theorem dL_finds_88 : decode cL_finds 88 = .ok (.i2l, 1) := by decide +kernel
theorem dL_finds_89 : decode cL_finds 89 = .ok (.lstore 8, 2) := by decide +kernel
theorem dL_finds_91 : decode cL_finds 91 = .ok (.aload_n 0, 1) := by decide +kernel
theorem dL_finds_92 : decode cL_finds 92 = .ok (.aload_n 2, 1) := by decide +kernel
theorem dL_finds_93 : decode cL_finds 93 = .ok (.iload 7, 2) := by decide +kernel
theorem dL_finds_95 : decode cL_finds 95 = .ok (.invokestatic 90, 3) := by decide +kernel
theorem dL_finds_98 : decode cL_finds 98 = .ok (.i2l, 1) := by decide +kernel
theorem dL_finds_99 : decode cL_finds 99 = .ok (.lstore 10, 2) := by decide +kernel
theorem dL_finds_101 : decode cL_finds 101 = .ok (.aload_n 2, 1) := by decide +kernel
theorem dL_finds_102 : decode cL_finds 102 = .ok (.iload 5, 2) := by decide +kernel
theorem dL_finds_104 : decode cL_finds 104 = .ok (.iconst 1, 1) := by decide +kernel
theorem dL_finds_105 : decode cL_finds 105 = .ok (.if_icmp .ne 11, 3) := by decide +kernel
theorem dL_finds_108 : decode cL_finds 108 = .ok (.lload 8, 2) := by decide +kernel
theorem dL_finds_110 : decode cL_finds 110 = .ok (.lload 10, 2) := by decide +kernel
theorem dL_finds_112 : decode cL_finds 112 = .ok (.ladd, 1) := by decide +kernel
theorem dL_finds_113 : decode cL_finds 113 = .ok (.goto 22, 3) := by decide +kernel
theorem dL_finds_116 : decode cL_finds 116 = .ok (.iload 5, 2) := by decide +kernel
theorem dL_finds_118 : decode cL_finds 118 = .ok (.iconst 2, 1) := by decide +kernel
theorem dL_finds_119 : decode cL_finds 119 = .ok (.if_icmp .ne 11, 3) := by decide +kernel
theorem dL_finds_122 : decode cL_finds 122 = .ok (.lload 8, 2) := by decide +kernel
theorem dL_finds_124 : decode cL_finds 124 = .ok (.lload 10, 2) := by decide +kernel
theorem dL_finds_126 : decode cL_finds 126 = .ok (.lsub, 1) := by decide +kernel
theorem dL_finds_127 : decode cL_finds 127 = .ok (.goto 8, 3) := by decide +kernel
theorem dL_finds_130 : decode cL_finds 130 = .ok (.lload 8, 2) := by decide +kernel
theorem dL_finds_132 : decode cL_finds 132 = .ok (.lload 10, 2) := by decide +kernel
theorem dL_finds_134 : decode cL_finds 134 = .ok (.lmul, 1) := by decide +kernel
theorem dL_finds_135 : decode cL_finds 135 = .ok (.invokestatic 109, 3) := by decide +kernel
theorem dL_finds_138 : decode cL_finds 138 = .ok (.istore 12, 2) := by decide +kernel
theorem dL_finds_140 : decode cL_finds 140 = .ok (.aload_n 1, 1) := by decide +kernel
theorem dL_finds_141 : decode cL_finds 141 = .ok (.iload 12, 2) := by decide +kernel
theorem dL_finds_143 : decode cL_finds 143 = .ok (.invokestatic 94, 3) := by decide +kernel
theorem dL_finds_146 : decode cL_finds 146 = .ok (.aload_n 1, 1) := by decide +kernel
theorem dL_finds_147 : decode cL_finds 147 = .ok (.iconst 0, 1) := by decide +kernel
theorem dL_finds_148 : decode cL_finds 148 = .ok (.aload_n 1, 1) := by decide +kernel
theorem dL_finds_149 : decode cL_finds 149 = .ok (.bipush 60, 2) := by decide +kernel
theorem dL_finds_151 : decode cL_finds 151 = .ok (.iaload, 1) := by decide +kernel
theorem dL_finds_152 : decode cL_finds 152 = .ok (.invokestatic 80, 3) := by decide +kernel
theorem dL_finds_155 : decode cL_finds 155 = .ok (.ireturn, 1) := by decide +kernel
theorem dL_told_0 : decode cL_told 0 = .ok (.ldc2_w 113, 3) := by decide +kernel
theorem dL_told_3 : decode cL_told 3 = .ok (.lstore_n 3, 1) := by decide +kernel
theorem dL_told_4 : decode cL_told 4 = .ok (.iload_n 1, 1) := by decide +kernel
theorem dL_told_5 : decode cL_told 5 = .ok (.istore 5, 2) := by decide +kernel
theorem dL_told_7 : decode cL_told 7 = .ok (.iload 5, 2) := by decide +kernel
theorem dL_told_9 : decode cL_told 9 = .ok (.iload_n 2, 1) := by decide +kernel
theorem dL_told_10 : decode cL_told 10 = .ok (.if_icmp .ge 21, 3) := by decide +kernel
theorem dL_told_13 : decode cL_told 13 = .ok (.lload_n 3, 1) := by decide +kernel
theorem dL_told_14 : decode cL_told 14 = .ok (.ldc2_w 115, 3) := by decide +kernel
theorem dL_told_17 : decode cL_told 17 = .ok (.lmul, 1) := by decide +kernel
theorem dL_told_18 : decode cL_told 18 = .ok (.aload_n 0, 1) := by decide +kernel
theorem dL_told_19 : decode cL_told 19 = .ok (.iload 5, 2) := by decide +kernel
theorem dL_told_21 : decode cL_told 21 = .ok (.iaload, 1) := by decide +kernel
theorem dL_told_22 : decode cL_told 22 = .ok (.i2l, 1) := by decide +kernel
theorem dL_told_23 : decode cL_told 23 = .ok (.ladd, 1) := by decide +kernel
theorem dL_told_24 : decode cL_told 24 = .ok (.lstore_n 3, 1) := by decide +kernel
theorem dL_told_25 : decode cL_told 25 = .ok (.iinc 5 1, 3) := by decide +kernel
theorem dL_told_28 : decode cL_told 28 = .ok (.goto (-21), 3) := by decide +kernel
theorem dL_told_31 : decode cL_told 31 = .ok (.lload_n 3, 1) := by decide +kernel
theorem dL_told_32 : decode cL_told 32 = .ok (.lreturn, 1) := by decide +kernel
theorem dL_code_0 : decode cL_code 0 = .ok (.iload_n 0, 1) := by decide +kernel
theorem dL_code_1 : decode cL_code 1 = .ok (.bipush 32, 2) := by decide +kernel
theorem dL_code_3 : decode cL_code 3 = .ok (.if_icmp .ne 7, 3) := by decide +kernel
theorem dL_code_6 : decode cL_code 6 = .ok (.lconst 1, 1) := by decide +kernel
theorem dL_code_7 : decode cL_code 7 = .ok (.goto 54, 3) := by decide +kernel
theorem dL_code_10 : decode cL_code 10 = .ok (.iload_n 0, 1) := by decide +kernel
theorem dL_code_11 : decode cL_code 11 = .ok (.bipush 45, 2) := by decide +kernel
theorem dL_code_13 : decode cL_code 13 = .ok (.if_icmp .ne 9, 3) := by decide +kernel
theorem dL_code_16 : decode cL_code 16 = .ok (.ldc2_w 117, 3) := by decide +kernel
theorem dL_code_19 : decode cL_code 19 = .ok (.goto 42, 3) := by decide +kernel
theorem dL_code_22 : decode cL_code 22 = .ok (.iload_n 0, 1) := by decide +kernel
theorem dL_code_23 : decode cL_code 23 = .ok (.bipush 44, 2) := by decide +kernel
theorem dL_code_25 : decode cL_code 25 = .ok (.if_icmp .ne 9, 3) := by decide +kernel
theorem dL_code_28 : decode cL_code 28 = .ok (.ldc2_w 119, 3) := by decide +kernel
theorem dL_code_31 : decode cL_code 31 = .ok (.goto 30, 3) := by decide +kernel
theorem dL_code_34 : decode cL_code 34 = .ok (.iload_n 0, 1) := by decide +kernel
theorem dL_code_35 : decode cL_code 35 = .ok (.bipush 57, 2) := by decide +kernel
theorem dL_code_37 : decode cL_code 37 = .ok (.if_icmp .gt 15, 3) := by decide +kernel
theorem dL_code_40 : decode cL_code 40 = .ok (.iload_n 0, 1) := by decide +kernel
theorem dL_code_41 : decode cL_code 41 = .ok (.bipush 48, 2) := by decide +kernel
theorem dL_code_43 : decode cL_code 43 = .ok (.isub, 1) := by decide +kernel
theorem dL_code_44 : decode cL_code 44 = .ok (.i2l, 1) := by decide +kernel
theorem dL_code_45 : decode cL_code 45 = .ok (.ldc2_w 121, 3) := by decide +kernel
theorem dL_code_48 : decode cL_code 48 = .ok (.ladd, 1) := by decide +kernel
theorem dL_code_49 : decode cL_code 49 = .ok (.goto 12, 3) := by decide +kernel
theorem dL_code_52 : decode cL_code 52 = .ok (.iload_n 0, 1) := by decide +kernel
theorem dL_code_53 : decode cL_code 53 = .ok (.bipush 97, 2) := by decide +kernel
theorem dL_code_55 : decode cL_code 55 = .ok (.isub, 1) := by decide +kernel
theorem dL_code_56 : decode cL_code 56 = .ok (.i2l, 1) := by decide +kernel
theorem dL_code_57 : decode cL_code 57 = .ok (.ldc2_w 123, 3) := by decide +kernel
theorem dL_code_60 : decode cL_code 60 = .ok (.ladd, 1) := by decide +kernel
theorem dL_code_61 : decode cL_code 61 = .ok (.lreturn, 1) := by decide +kernel
set_option maxRecDepth 20000 in
theorem ggL_word_L_code : GoodIn wsL_word wsL_code := goodIn_r _ [4, 5, 6, 7, 8] (by decide +kernel) (by decide +kernel)
set_option maxRecDepth 20000 in
theorem gL_word_L_code : GoodIn wsL_word (va_wsS RL 125 yL_code wsL_code) := goodIn_app (goodIn_of _ (by decide +kernel)) ggL_word_L_code
theorem dL_word_0 : decode cL_word 0 = .ok (.lconst 0, 1) := by decide +kernel
theorem dL_word_1 : decode cL_word 1 = .ok (.lstore 4, 2) := by decide +kernel
theorem dL_word_3 : decode cL_word 3 = .ok (.iload_n 1, 1) := by decide +kernel
theorem dL_word_4 : decode cL_word 4 = .ok (.bipush 10, 2) := by decide +kernel
theorem dL_word_6 : decode cL_word 6 = .ok (.iload_n 3, 1) := by decide +kernel
theorem dL_word_7 : decode cL_word 7 = .ok (.imul, 1) := by decide +kernel
theorem dL_word_8 : decode cL_word 8 = .ok (.iadd, 1) := by decide +kernel
theorem dL_word_9 : decode cL_word 9 = .ok (.istore 6, 2) := by decide +kernel
theorem dL_word_11 : decode cL_word 11 = .ok (.iload 6, 2) := by decide +kernel
theorem dL_word_13 : decode cL_word 13 = .ok (.iload_n 2, 1) := by decide +kernel
theorem dL_word_14 : decode cL_word 14 = .ok (.if_icmp .ge 38, 3) := by decide +kernel
theorem dL_word_17 : decode cL_word 17 = .ok (.iload 6, 2) := by decide +kernel
theorem dL_word_19 : decode cL_word 19 = .ok (.iload_n 1, 1) := by decide +kernel
theorem dL_word_20 : decode cL_word 20 = .ok (.bipush 10, 2) := by decide +kernel
theorem dL_word_22 : decode cL_word 22 = .ok (.iload_n 3, 1) := by decide +kernel
theorem dL_word_23 : decode cL_word 23 = .ok (.imul, 1) := by decide +kernel
theorem dL_word_24 : decode cL_word 24 = .ok (.iadd, 1) := by decide +kernel
theorem dL_word_25 : decode cL_word 25 = .ok (.bipush 10, 2) := by decide +kernel
theorem dL_word_27 : decode cL_word 27 = .ok (.iadd, 1) := by decide +kernel
theorem dL_word_28 : decode cL_word 28 = .ok (.if_icmp .ge 24, 3) := by decide +kernel
theorem dL_word_31 : decode cL_word 31 = .ok (.lload 4, 2) := by decide +kernel
theorem dL_word_33 : decode cL_word 33 = .ok (.bipush 6, 2) := by decide +kernel
theorem dL_word_35 : decode cL_word 35 = .ok (.lshl, 1) := by decide +kernel
theorem dL_word_36 : decode cL_word 36 = .ok (.aload_n 0, 1) := by decide +kernel
theorem dL_word_37 : decode cL_word 37 = .ok (.iload 6, 2) := by decide +kernel
theorem dL_word_39 : decode cL_word 39 = .ok (.iaload, 1) := by decide +kernel
theorem dL_word_40 : decode cL_word 40 = .ok (.invokestatic 125, 3) := by decide +kernel
theorem dL_word_43 : decode cL_word 43 = .ok (.lor, 1) := by decide +kernel
theorem dL_word_44 : decode cL_word 44 = .ok (.lstore 4, 2) := by decide +kernel
theorem dL_word_46 : decode cL_word 46 = .ok (.iinc 6 1, 3) := by decide +kernel
theorem dL_word_49 : decode cL_word 49 = .ok (.goto (-38), 3) := by decide +kernel
theorem dL_word_52 : decode cL_word 52 = .ok (.lload 4, 2) := by decide +kernel
theorem dL_word_54 : decode cL_word 54 = .ok (.lreturn, 1) := by decide +kernel
theorem dL_get_0 : decode cL_get 0 = .ok (.iload_n 2, 1) := by decide +kernel
theorem dL_get_1 : decode cL_get 1 = .ok (.bipush 10, 2) := by decide +kernel
theorem dL_get_3 : decode cL_get 3 = .ok (.if_icmp .ge 14, 3) := by decide +kernel
theorem dL_get_6 : decode cL_get 6 = .ok (.aload_n 0, 1) := by decide +kernel
theorem dL_get_7 : decode cL_get 7 = .ok (.bipush 6, 2) := by decide +kernel
theorem dL_get_9 : decode cL_get 9 = .ok (.iload_n 2, 1) := by decide +kernel
theorem dL_get_10 : decode cL_get 10 = .ok (.imul, 1) := by decide +kernel
theorem dL_get_11 : decode cL_get 11 = .ok (.iload_n 3, 1) := by decide +kernel
theorem dL_get_12 : decode cL_get 12 = .ok (.iadd, 1) := by decide +kernel
theorem dL_get_13 : decode cL_get 13 = .ok (.laload, 1) := by decide +kernel
theorem dL_get_14 : decode cL_get 14 = .ok (.goto 14, 3) := by decide +kernel
theorem dL_get_17 : decode cL_get 17 = .ok (.aload_n 1, 1) := by decide +kernel
theorem dL_get_18 : decode cL_get 18 = .ok (.bipush 6, 2) := by decide +kernel
theorem dL_get_20 : decode cL_get 20 = .ok (.iload_n 2, 1) := by decide +kernel
theorem dL_get_21 : decode cL_get 21 = .ok (.imul, 1) := by decide +kernel
theorem dL_get_22 : decode cL_get 22 = .ok (.bipush 60, 2) := by decide +kernel
theorem dL_get_24 : decode cL_get 24 = .ok (.isub, 1) := by decide +kernel
theorem dL_get_25 : decode cL_get 25 = .ok (.iload_n 3, 1) := by decide +kernel
theorem dL_get_26 : decode cL_get 26 = .ok (.iadd, 1) := by decide +kernel
theorem dL_get_27 : decode cL_get 27 = .ok (.laload, 1) := by decide +kernel
theorem dL_get_28 : decode cL_get 28 = .ok (.lreturn, 1) := by decide +kernel
theorem dL_put_0 : decode cL_put 0 = .ok (.iload_n 2, 1) := by decide +kernel
theorem dL_put_1 : decode cL_put 1 = .ok (.bipush 10, 2) := by decide +kernel
theorem dL_put_3 : decode cL_put 3 = .ok (.if_icmp .ge 16, 3) := by decide +kernel
theorem dL_put_6 : decode cL_put 6 = .ok (.aload_n 0, 1) := by decide +kernel
theorem dL_put_7 : decode cL_put 7 = .ok (.bipush 6, 2) := by decide +kernel
theorem dL_put_9 : decode cL_put 9 = .ok (.iload_n 2, 1) := by decide +kernel
theorem dL_put_10 : decode cL_put 10 = .ok (.imul, 1) := by decide +kernel
theorem dL_put_11 : decode cL_put 11 = .ok (.iload_n 3, 1) := by decide +kernel
theorem dL_put_12 : decode cL_put 12 = .ok (.iadd, 1) := by decide +kernel
theorem dL_put_13 : decode cL_put 13 = .ok (.lload 4, 2) := by decide +kernel
theorem dL_put_15 : decode cL_put 15 = .ok (.lastore, 1) := by decide +kernel
theorem dL_put_16 : decode cL_put 16 = .ok (.goto 16, 3) := by decide +kernel
theorem dL_put_19 : decode cL_put 19 = .ok (.aload_n 1, 1) := by decide +kernel
theorem dL_put_20 : decode cL_put 20 = .ok (.bipush 6, 2) := by decide +kernel
theorem dL_put_22 : decode cL_put 22 = .ok (.iload_n 2, 1) := by decide +kernel
theorem dL_put_23 : decode cL_put 23 = .ok (.imul, 1) := by decide +kernel
theorem dL_put_24 : decode cL_put 24 = .ok (.bipush 60, 2) := by decide +kernel
theorem dL_put_26 : decode cL_put 26 = .ok (.isub, 1) := by decide +kernel
theorem dL_put_27 : decode cL_put 27 = .ok (.iload_n 3, 1) := by decide +kernel
theorem dL_put_28 : decode cL_put 28 = .ok (.iadd, 1) := by decide +kernel
theorem dL_put_29 : decode cL_put 29 = .ok (.lload 4, 2) := by decide +kernel
theorem dL_put_31 : decode cL_put 31 = .ok (.lastore, 1) := by decide +kernel
theorem dL_put_32 : decode cL_put 32 = .ok (.return_, 1) := by decide +kernel
set_option maxRecDepth 20000 in
theorem ggL_row_L_edge : GoodIn wsL_row wsL_edge := goodIn_r _ [4, 5, 6, 3, 7] (by decide +kernel) (by decide +kernel)
set_option maxRecDepth 20000 in
theorem gL_row_L_edge : GoodIn wsL_row (va_wsS RL 68 yL_edge wsL_edge) := goodIn_app (goodIn_of _ (by decide +kernel)) ggL_row_L_edge
set_option maxRecDepth 20000 in
theorem ggL_row_L_get : GoodIn wsL_row wsL_get := goodIn_r _ [10] (by decide +kernel) (by decide +kernel)
set_option maxRecDepth 20000 in
theorem gL_row_L_get : GoodIn wsL_row (va_wsS RL 129 yL_get wsL_get) := goodIn_app (goodIn_of _ (by decide +kernel)) ggL_row_L_get
set_option maxRecDepth 20000 in
theorem ggL_row_L_word : GoodIn wsL_row wsL_word := goodIn_r _ [13, 14, 15, 3, 16, 17, 18, 19, 20] (by decide +kernel) (by decide +kernel)
set_option maxRecDepth 20000 in
theorem gL_row_L_word : GoodIn wsL_row (va_wsS RL 133 yL_word wsL_word) := goodIn_app (goodIn_of _ (by decide +kernel)) ggL_row_L_word
theorem dL_row_0 : decode cL_row 0 = .ok (.aload_n 0, 1) := by decide +kernel
theorem dL_row_1 : decode cL_row 1 = .ok (.aload_n 1, 1) := by decide +kernel
theorem dL_row_2 : decode cL_row 2 = .ok (.iload 4, 2) := by decide +kernel
theorem dL_row_4 : decode cL_row 4 = .ok (.iconst 0, 1) := by decide +kernel
theorem dL_row_5 : decode cL_row 5 = .ok (.invokestatic 68, 3) := by decide +kernel
theorem dL_row_8 : decode cL_row 8 = .ok (.istore 5, 2) := by decide +kernel
theorem dL_row_10 : decode cL_row 10 = .ok (.aload_n 0, 1) := by decide +kernel
theorem dL_row_11 : decode cL_row 11 = .ok (.aload_n 1, 1) := by decide +kernel
theorem dL_row_12 : decode cL_row 12 = .ok (.iload 4, 2) := by decide +kernel
theorem dL_row_14 : decode cL_row 14 = .ok (.iconst 1, 1) := by decide +kernel
theorem dL_row_15 : decode cL_row 15 = .ok (.invokestatic 68, 3) := by decide +kernel
theorem dL_row_18 : decode cL_row 18 = .ok (.istore 6, 2) := by decide +kernel
theorem dL_row_20 : decode cL_row 20 = .ok (.iconst (-1), 1) := by decide +kernel
theorem dL_row_21 : decode cL_row 21 = .ok (.istore 7, 2) := by decide +kernel
theorem dL_row_23 : decode cL_row 23 = .ok (.iconst 0, 1) := by decide +kernel
theorem dL_row_24 : decode cL_row 24 = .ok (.istore 8, 2) := by decide +kernel
theorem dL_row_26 : decode cL_row 26 = .ok (.iload 8, 2) := by decide +kernel
theorem dL_row_28 : decode cL_row 28 = .ok (.aload_n 1, 1) := by decide +kernel
theorem dL_row_29 : decode cL_row 29 = .ok (.iconst 4, 1) := by decide +kernel
theorem dL_row_30 : decode cL_row 30 = .ok (.iaload, 1) := by decide +kernel
theorem dL_row_31 : decode cL_row 31 = .ok (.if_icmp .ge 77, 3) := by decide +kernel
theorem dL_row_34 : decode cL_row 34 = .ok (.iconst 1, 1) := by decide +kernel
theorem dL_row_35 : decode cL_row 35 = .ok (.istore 9, 2) := by decide +kernel
theorem dL_row_37 : decode cL_row 37 = .ok (.iconst 0, 1) := by decide +kernel
theorem dL_row_38 : decode cL_row 38 = .ok (.istore 10, 2) := by decide +kernel
theorem dL_row_40 : decode cL_row 40 = .ok (.iload 10, 2) := by decide +kernel
theorem dL_row_42 : decode cL_row 42 = .ok (.bipush 6, 2) := by decide +kernel
theorem dL_row_44 : decode cL_row 44 = .ok (.if_icmp .ge 44, 3) := by decide +kernel
theorem dL_row_47 : decode cL_row 47 = .ok (.iload 9, 2) := by decide +kernel
theorem dL_row_49 : decode cL_row 49 = .ok (.ifCond .eq 39, 3) := by decide +kernel
theorem dL_row_52 : decode cL_row 52 = .ok (.aload_n 2, 1) := by decide +kernel
theorem dL_row_53 : decode cL_row 53 = .ok (.aload_n 3, 1) := by decide +kernel
theorem dL_row_54 : decode cL_row 54 = .ok (.iload 8, 2) := by decide +kernel
theorem dL_row_56 : decode cL_row 56 = .ok (.iload 10, 2) := by decide +kernel
theorem dL_row_58 : decode cL_row 58 = .ok (.invokestatic 129, 3) := by decide +kernel
theorem dL_row_61 : decode cL_row 61 = .ok (.aload_n 0, 1) := by decide +kernel
theorem dL_row_62 : decode cL_row 62 = .ok (.iload 5, 2) := by decide +kernel
theorem dL_row_64 : decode cL_row 64 = .ok (.iload 6, 2) := by decide +kernel
theorem dL_row_66 : decode cL_row 66 = .ok (.iload 10, 2) := by decide +kernel
theorem dL_row_68 : decode cL_row 68 = .ok (.invokestatic 133, 3) := by decide +kernel
theorem dL_row_71 : decode cL_row 71 = .ok (.lcmp, 1) := by decide +kernel
theorem dL_row_72 : decode cL_row 72 = .ok (.ifCond .ne 7, 3) := by decide +kernel
theorem dL_row_75 : decode cL_row 75 = .ok (.iconst 1, 1) := by decide +kernel
theorem dL_row_76 : decode cL_row 76 = .ok (.goto 4, 3) := by decide +kernel
theorem dL_row_79 : decode cL_row 79 = .ok (.iconst 0, 1) := by decide +kernel
theorem dL_row_80 : decode cL_row 80 = .ok (.istore 9, 2) := by decide +kernel
theorem dL_row_82 : decode cL_row 82 = .ok (.iinc 10 1, 3) := by decide +kernel
theorem dL_row_85 : decode cL_row 85 = .ok (.goto (-45), 3) := by decide +kernel
theorem dL_row_88 : decode cL_row 88 = .ok (.iload 9, 2) := by decide +kernel
theorem dL_row_90 : decode cL_row 90 = .ok (.ifCond .eq 8, 3) := by decide +kernel
theorem dL_row_93 : decode cL_row 93 = .ok (.iload 8, 2) := by decide +kernel
theorem dL_row_95 : decode cL_row 95 = .ok (.goto 5, 3) := by decide +kernel
theorem dL_row_98 : decode cL_row 98 = .ok (.iload 7, 2) := by decide +kernel
theorem dL_row_100 : decode cL_row 100 = .ok (.istore 7, 2) := by decide +kernel
theorem dL_row_102 : decode cL_row 102 = .ok (.iinc 8 1, 3) := by decide +kernel
theorem dL_row_105 : decode cL_row 105 = .ok (.goto (-79), 3) := by decide +kernel
theorem dL_row_108 : decode cL_row 108 = .ok (.iload 7, 2) := by decide +kernel
theorem dL_row_110 : decode cL_row 110 = .ok (.ireturn, 1) := by decide +kernel
set_option maxRecDepth 20000 in
theorem ggL_grows_L_row : GoodIn wsL_grows wsL_row := goodIn_r _ [4, 5, 6, 3, 7, 8, 9, 10, 11, 12, 13, 14, 15, 16, 17, 18, 19, 20, 21, 22, 23] (by decide +kernel) (by decide +kernel)
set_option maxRecDepth 20000 in
theorem gL_grows_L_row : GoodIn wsL_grows (va_wsS RL 137 yL_row wsL_row) := goodIn_app (goodIn_of _ (by decide +kernel)) ggL_grows_L_row
set_option maxRecDepth 20000 in
theorem ggL_grows_L_edge : GoodIn wsL_grows wsL_edge := goodIn_r _ [7, 8, 9, 3, 10] (by decide +kernel) (by decide +kernel)
set_option maxRecDepth 20000 in
theorem gL_grows_L_edge : GoodIn wsL_grows (va_wsS RL 68 yL_edge wsL_edge) := goodIn_app (goodIn_of _ (by decide +kernel)) ggL_grows_L_edge
set_option maxRecDepth 20000 in
theorem ggL_grows_L_word : GoodIn wsL_grows wsL_word := goodIn_r _ [16, 17, 18, 3, 19, 20, 21, 22, 23] (by decide +kernel) (by decide +kernel)
set_option maxRecDepth 20000 in
theorem gL_grows_L_word : GoodIn wsL_grows (va_wsS RL 133 yL_word wsL_word) := goodIn_app (goodIn_of _ (by decide +kernel)) ggL_grows_L_word
set_option maxRecDepth 20000 in
theorem ggL_grows_L_put : GoodIn wsL_grows wsL_put := goodIn_r _ [26] (by decide +kernel) (by decide +kernel)
set_option maxRecDepth 20000 in
theorem gL_grows_L_put : GoodIn wsL_grows (va_wsS RL 140 yL_put wsL_put) := goodIn_app (goodIn_of _ (by decide +kernel)) ggL_grows_L_put
set_option maxRecDepth 20000 in
theorem ggL_grows_L_fits : GoodIn wsL_grows wsL_fits := goodIn_r _ [29] (by decide +kernel) (by decide +kernel)
set_option maxRecDepth 20000 in
theorem gL_grows_L_fits : GoodIn wsL_grows (va_wsS RL 109 yL_fits wsL_fits) := goodIn_app (goodIn_of _ (by decide +kernel)) ggL_grows_L_fits
theorem dL_grows_0 : decode cL_grows 0 = .ok (.aload_n 0, 1) := by decide +kernel
theorem dL_grows_1 : decode cL_grows 1 = .ok (.aload_n 1, 1) := by decide +kernel
theorem dL_grows_2 : decode cL_grows 2 = .ok (.aload_n 3, 1) := by decide +kernel
theorem dL_grows_3 : decode cL_grows 3 = .ok (.aload 4, 2) := by decide +kernel
theorem dL_grows_5 : decode cL_grows 5 = .ok (.iload 5, 2) := by decide +kernel
theorem dL_grows_7 : decode cL_grows 7 = .ok (.invokestatic 137, 3) := by decide +kernel
theorem dL_grows_10 : decode cL_grows 10 = .ok (.istore 7, 2) := by decide +kernel
theorem dL_grows_12 : decode cL_grows 12 = .ok (.iload 7, 2) := by decide +kernel
theorem dL_grows_14 : decode cL_grows 14 = .ok (.ifCond .ge 76, 3) := by decide +kernel
theorem dL_grows_17 : decode cL_grows 17 = .ok (.aload_n 1, 1) := by decide +kernel
theorem dL_grows_18 : decode cL_grows 18 = .ok (.iconst 4, 1) := by decide +kernel
theorem dL_grows_19 : decode cL_grows 19 = .ok (.iaload, 1) := by decide +kernel
theorem dL_grows_20 : decode cL_grows 20 = .ok (.bipush 20, 2) := by decide +kernel
theorem dL_grows_22 : decode cL_grows 22 = .ok (.if_icmp .ge 68, 3) := by decide +kernel
theorem dL_grows_25 : decode cL_grows 25 = .ok (.aload_n 1, 1) := by decide +kernel
theorem dL_grows_26 : decode cL_grows 26 = .ok (.iconst 4, 1) := by decide +kernel
theorem dL_grows_27 : decode cL_grows 27 = .ok (.iaload, 1) := by decide +kernel
theorem dL_grows_28 : decode cL_grows 28 = .ok (.istore 7, 2) := by decide +kernel
theorem dL_grows_30 : decode cL_grows 30 = .ok (.iconst 0, 1) := by decide +kernel
theorem dL_grows_31 : decode cL_grows 31 = .ok (.istore 8, 2) := by decide +kernel
theorem dL_grows_33 : decode cL_grows 33 = .ok (.iload 8, 2) := by decide +kernel
theorem dL_grows_35 : decode cL_grows 35 = .ok (.bipush 6, 2) := by decide +kernel
theorem dL_grows_37 : decode cL_grows 37 = .ok (.if_icmp .ge 41, 3) := by decide +kernel
theorem dL_grows_40 : decode cL_grows 40 = .ok (.aload_n 3, 1) := by decide +kernel
theorem dL_grows_41 : decode cL_grows 41 = .ok (.aload 4, 2) := by decide +kernel
theorem dL_grows_43 : decode cL_grows 43 = .ok (.iload 7, 2) := by decide +kernel
theorem dL_grows_45 : decode cL_grows 45 = .ok (.iload 8, 2) := by decide +kernel
theorem dL_grows_47 : decode cL_grows 47 = .ok (.aload_n 0, 1) := by decide +kernel
theorem dL_grows_48 : decode cL_grows 48 = .ok (.aload_n 0, 1) := by decide +kernel
theorem dL_grows_49 : decode cL_grows 49 = .ok (.aload_n 1, 1) := by decide +kernel
theorem dL_grows_50 : decode cL_grows 50 = .ok (.iload 5, 2) := by decide +kernel
theorem dL_grows_52 : decode cL_grows 52 = .ok (.iconst 0, 1) := by decide +kernel
theorem dL_grows_53 : decode cL_grows 53 = .ok (.invokestatic 68, 3) := by decide +kernel
theorem dL_grows_56 : decode cL_grows 56 = .ok (.aload_n 0, 1) := by decide +kernel
theorem dL_grows_57 : decode cL_grows 57 = .ok (.aload_n 1, 1) := by decide +kernel
theorem dL_grows_58 : decode cL_grows 58 = .ok (.iload 5, 2) := by decide +kernel
theorem dL_grows_60 : decode cL_grows 60 = .ok (.iconst 1, 1) := by decide +kernel
theorem dL_grows_61 : decode cL_grows 61 = .ok (.invokestatic 68, 3) := by decide +kernel
theorem dL_grows_64 : decode cL_grows 64 = .ok (.iload 8, 2) := by decide +kernel
theorem dL_grows_66 : decode cL_grows 66 = .ok (.invokestatic 133, 3) := by decide +kernel
theorem dL_grows_69 : decode cL_grows 69 = .ok (.invokestatic 140, 3) := by decide +kernel
theorem dL_grows_72 : decode cL_grows 72 = .ok (.iinc 8 1, 3) := by decide +kernel
theorem dL_grows_75 : decode cL_grows 75 = .ok (.goto (-42), 3) := by decide +kernel
theorem dL_grows_78 : decode cL_grows 78 = .ok (.aload_n 2, 1) := by decide +kernel
theorem dL_grows_79 : decode cL_grows 79 = .ok (.iload 7, 2) := by decide +kernel
theorem dL_grows_81 : decode cL_grows 81 = .ok (.iconst 0, 1) := by decide +kernel
theorem dL_grows_82 : decode cL_grows 82 = .ok (.iastore, 1) := by decide +kernel
theorem dL_grows_83 : decode cL_grows 83 = .ok (.aload_n 1, 1) := by decide +kernel
theorem dL_grows_84 : decode cL_grows 84 = .ok (.iconst 4, 1) := by decide +kernel
theorem dL_grows_85 : decode cL_grows 85 = .ok (.dup2, 1) := by decide +kernel
theorem dL_grows_86 : decode cL_grows 86 = .ok (.iaload, 1) := by decide +kernel
theorem dL_grows_87 : decode cL_grows 87 = .ok (.iconst 1, 1) := by decide +kernel
theorem dL_grows_88 : decode cL_grows 88 = .ok (.iadd, 1) := by decide +kernel
theorem dL_grows_89 : decode cL_grows 89 = .ok (.iastore, 1) := by decide +kernel
theorem dL_grows_90 : decode cL_grows 90 = .ok (.iload 7, 2) := by decide +kernel
theorem dL_grows_92 : decode cL_grows 92 = .ok (.ifCond .lt 20, 3) := by decide +kernel
theorem dL_grows_95 : decode cL_grows 95 = .ok (.aload_n 2, 1) := by decide +kernel
theorem dL_grows_96 : decode cL_grows 96 = .ok (.iload 7, 2) := by decide +kernel
theorem dL_grows_98 : decode cL_grows 98 = .ok (.aload_n 1, 1) := by decide +kernel
theorem dL_grows_99 : decode cL_grows 99 = .ok (.aload_n 2, 1) := by decide +kernel
theorem dL_grows_100 : decode cL_grows 100 = .ok (.iload 7, 2) := by decide +kernel
theorem dL_grows_102 : decode cL_grows 102 = .ok (.iaload, 1) := by decide +kernel
theorem dL_grows_103 : decode cL_grows 103 = .ok (.i2l, 1) := by decide +kernel
theorem dL_grows_104 : decode cL_grows 104 = .ok (.iload 6, 2) := by decide +kernel
theorem dL_grows_106 : decode cL_grows 106 = .ok (.i2l, 1) := by decide +kernel
theorem dL_grows_107 : decode cL_grows 107 = .ok (.ladd, 1) := by decide +kernel
theorem dL_grows_108 : decode cL_grows 108 = .ok (.invokestatic 109, 3) := by decide +kernel
theorem dL_grows_111 : decode cL_grows 111 = .ok (.iastore, 1) := by decide +kernel
theorem dL_grows_112 : decode cL_grows 112 = .ok (.return_, 1) := by decide +kernel
set_option maxRecDepth 20000 in
theorem ggL_drops_L_row : GoodIn wsL_drops wsL_row := goodIn_r _ [4, 5, 6, 3, 7, 8, 9, 10, 11, 12, 13, 14, 15, 16, 17, 18, 19, 20, 21, 22, 23] (by decide +kernel) (by decide +kernel)
set_option maxRecDepth 20000 in
theorem gL_drops_L_row : GoodIn wsL_drops (va_wsS RL 137 yL_row wsL_row) := goodIn_app (goodIn_of _ (by decide +kernel)) ggL_drops_L_row
set_option maxRecDepth 20000 in
theorem ggL_drops_L_get : GoodIn wsL_drops wsL_get := goodIn_r _ [13] (by decide +kernel) (by decide +kernel)
set_option maxRecDepth 20000 in
theorem gL_drops_L_get : GoodIn wsL_drops (va_wsS RL 129 yL_get wsL_get) := goodIn_app (goodIn_of _ (by decide +kernel)) ggL_drops_L_get
set_option maxRecDepth 20000 in
theorem ggL_drops_L_put : GoodIn wsL_drops wsL_put := goodIn_r _ [26] (by decide +kernel) (by decide +kernel)
set_option maxRecDepth 20000 in
theorem gL_drops_L_put : GoodIn wsL_drops (va_wsS RL 140 yL_put wsL_put) := goodIn_app (goodIn_of _ (by decide +kernel)) ggL_drops_L_put
theorem dL_drops_0 : decode cL_drops 0 = .ok (.aload_n 0, 1) := by decide +kernel
theorem dL_drops_1 : decode cL_drops 1 = .ok (.aload_n 1, 1) := by decide +kernel
theorem dL_drops_2 : decode cL_drops 2 = .ok (.aload_n 3, 1) := by decide +kernel
theorem dL_drops_3 : decode cL_drops 3 = .ok (.aload 4, 2) := by decide +kernel
theorem dL_drops_5 : decode cL_drops 5 = .ok (.iload 5, 2) := by decide +kernel
theorem dL_drops_7 : decode cL_drops 7 = .ok (.invokestatic 137, 3) := by decide +kernel
theorem dL_drops_10 : decode cL_drops 10 = .ok (.istore 6, 2) := by decide +kernel
theorem dL_drops_12 : decode cL_drops 12 = .ok (.aload_n 1, 1) := by decide +kernel
theorem dL_drops_13 : decode cL_drops 13 = .ok (.iconst 4, 1) := by decide +kernel
theorem dL_drops_14 : decode cL_drops 14 = .ok (.dup2, 1) := by decide +kernel
theorem dL_drops_15 : decode cL_drops 15 = .ok (.iaload, 1) := by decide +kernel
theorem dL_drops_16 : decode cL_drops 16 = .ok (.iload 6, 2) := by decide +kernel
theorem dL_drops_18 : decode cL_drops 18 = .ok (.ifCond .ge 7, 3) := by decide +kernel
theorem dL_drops_21 : decode cL_drops 21 = .ok (.iconst 0, 1) := by decide +kernel
theorem dL_drops_22 : decode cL_drops 22 = .ok (.goto 4, 3) := by decide +kernel
theorem dL_drops_25 : decode cL_drops 25 = .ok (.iconst 1, 1) := by decide +kernel
theorem dL_drops_26 : decode cL_drops 26 = .ok (.isub, 1) := by decide +kernel
theorem dL_drops_27 : decode cL_drops 27 = .ok (.iastore, 1) := by decide +kernel
theorem dL_drops_28 : decode cL_drops 28 = .ok (.iload 6, 2) := by decide +kernel
theorem dL_drops_30 : decode cL_drops 30 = .ok (.ifCond .ge 8, 3) := by decide +kernel
theorem dL_drops_33 : decode cL_drops 33 = .ok (.bipush 20, 2) := by decide +kernel
theorem dL_drops_35 : decode cL_drops 35 = .ok (.goto 5, 3) := by decide +kernel
theorem dL_drops_38 : decode cL_drops 38 = .ok (.iload 6, 2) := by decide +kernel
theorem dL_drops_40 : decode cL_drops 40 = .ok (.istore 7, 2) := by decide +kernel
theorem dL_drops_42 : decode cL_drops 42 = .ok (.iload 7, 2) := by decide +kernel
theorem dL_drops_44 : decode cL_drops 44 = .ok (.aload_n 1, 1) := by decide +kernel
theorem dL_drops_45 : decode cL_drops 45 = .ok (.iconst 4, 1) := by decide +kernel
theorem dL_drops_46 : decode cL_drops 46 = .ok (.iaload, 1) := by decide +kernel
theorem dL_drops_47 : decode cL_drops 47 = .ok (.if_icmp .ge 57, 3) := by decide +kernel
theorem dL_drops_50 : decode cL_drops 50 = .ok (.aload_n 2, 1) := by decide +kernel
theorem dL_drops_51 : decode cL_drops 51 = .ok (.iload 7, 2) := by decide +kernel
theorem dL_drops_53 : decode cL_drops 53 = .ok (.aload_n 2, 1) := by decide +kernel
theorem dL_drops_54 : decode cL_drops 54 = .ok (.iload 7, 2) := by decide +kernel
theorem dL_drops_56 : decode cL_drops 56 = .ok (.iconst 1, 1) := by decide +kernel
theorem dL_drops_57 : decode cL_drops 57 = .ok (.iadd, 1) := by decide +kernel
theorem dL_drops_58 : decode cL_drops 58 = .ok (.iaload, 1) := by decide +kernel
theorem dL_drops_59 : decode cL_drops 59 = .ok (.iastore, 1) := by decide +kernel
theorem dL_drops_60 : decode cL_drops 60 = .ok (.iconst 0, 1) := by decide +kernel
theorem dL_drops_61 : decode cL_drops 61 = .ok (.istore 8, 2) := by decide +kernel
theorem dL_drops_63 : decode cL_drops 63 = .ok (.iload 8, 2) := by decide +kernel
theorem dL_drops_65 : decode cL_drops 65 = .ok (.bipush 6, 2) := by decide +kernel
theorem dL_drops_67 : decode cL_drops 67 = .ok (.if_icmp .ge 31, 3) := by decide +kernel
theorem dL_drops_70 : decode cL_drops 70 = .ok (.aload_n 3, 1) := by decide +kernel
theorem dL_drops_71 : decode cL_drops 71 = .ok (.aload 4, 2) := by decide +kernel
theorem dL_drops_73 : decode cL_drops 73 = .ok (.iload 7, 2) := by decide +kernel
theorem dL_drops_75 : decode cL_drops 75 = .ok (.iload 8, 2) := by decide +kernel
theorem dL_drops_77 : decode cL_drops 77 = .ok (.aload_n 3, 1) := by decide +kernel
theorem dL_drops_78 : decode cL_drops 78 = .ok (.aload 4, 2) := by decide +kernel
theorem dL_drops_80 : decode cL_drops 80 = .ok (.iload 7, 2) := by decide +kernel
theorem dL_drops_82 : decode cL_drops 82 = .ok (.iconst 1, 1) := by decide +kernel
theorem dL_drops_83 : decode cL_drops 83 = .ok (.iadd, 1) := by decide +kernel
theorem dL_drops_84 : decode cL_drops 84 = .ok (.iload 8, 2) := by decide +kernel
theorem dL_drops_86 : decode cL_drops 86 = .ok (.invokestatic 129, 3) := by decide +kernel
theorem dL_drops_89 : decode cL_drops 89 = .ok (.invokestatic 140, 3) := by decide +kernel
theorem dL_drops_92 : decode cL_drops 92 = .ok (.iinc 8 1, 3) := by decide +kernel
theorem dL_drops_95 : decode cL_drops 95 = .ok (.goto (-32), 3) := by decide +kernel
theorem dL_drops_98 : decode cL_drops 98 = .ok (.iinc 7 1, 3) := by decide +kernel
theorem dL_drops_101 : decode cL_drops 101 = .ok (.goto (-59), 3) := by decide +kernel
theorem dL_drops_104 : decode cL_drops 104 = .ok (.return_, 1) := by decide +kernel
set_option maxRecDepth 20000 in
theorem ggL_prints_L_told : GoodIn wsL_prints wsL_told := goodIn_r _ [4, 5, 6] (by decide +kernel) (by decide +kernel)
set_option maxRecDepth 20000 in
theorem gL_prints_L_told : GoodIn wsL_prints (va_wsS RL 144 yL_told wsL_told) := goodIn_app (goodIn_of _ (by decide +kernel)) ggL_prints_L_told
theorem dL_prints_0 : decode cL_prints 0 = .ok (.iconst 0, 1) := by decide +kernel
theorem dL_prints_1 : decode cL_prints 1 = .ok (.istore_n 3, 1) := by decide +kernel
theorem dL_prints_2 : decode cL_prints 2 = .ok (.iload_n 3, 1) := by decide +kernel
theorem dL_prints_3 : decode cL_prints 3 = .ok (.bipush 39, 2) := by decide +kernel
theorem dL_prints_5 : decode cL_prints 5 = .ok (.if_icmp .ge 25, 3) := by decide +kernel
theorem dL_prints_8 : decode cL_prints 8 = .ok (.aload_n 1, 1) := by decide +kernel
theorem dL_prints_9 : decode cL_prints 9 = .ok (.iconst 5, 1) := by decide +kernel
theorem dL_prints_10 : decode cL_prints 10 = .ok (.iaload, 1) := by decide +kernel
theorem dL_prints_11 : decode cL_prints 11 = .ok (.bipush 40, 2) := by decide +kernel
theorem dL_prints_13 : decode cL_prints 13 = .ok (.if_icmp .ne 17, 3) := by decide +kernel
theorem dL_prints_16 : decode cL_prints 16 = .ok (.aload_n 2, 1) := by decide +kernel
theorem dL_prints_17 : decode cL_prints 17 = .ok (.iload_n 3, 1) := by decide +kernel
theorem dL_prints_18 : decode cL_prints 18 = .ok (.aload_n 2, 1) := by decide +kernel
theorem dL_prints_19 : decode cL_prints 19 = .ok (.iload_n 3, 1) := by decide +kernel
theorem dL_prints_20 : decode cL_prints 20 = .ok (.iconst 1, 1) := by decide +kernel
theorem dL_prints_21 : decode cL_prints 21 = .ok (.iadd, 1) := by decide +kernel
theorem dL_prints_22 : decode cL_prints 22 = .ok (.laload, 1) := by decide +kernel
theorem dL_prints_23 : decode cL_prints 23 = .ok (.lastore, 1) := by decide +kernel
theorem dL_prints_24 : decode cL_prints 24 = .ok (.iinc 3 1, 3) := by decide +kernel
theorem dL_prints_27 : decode cL_prints 27 = .ok (.goto (-25), 3) := by decide +kernel
theorem dL_prints_30 : decode cL_prints 30 = .ok (.aload_n 1, 1) := by decide +kernel
theorem dL_prints_31 : decode cL_prints 31 = .ok (.iconst 5, 1) := by decide +kernel
theorem dL_prints_32 : decode cL_prints 32 = .ok (.dup2, 1) := by decide +kernel
theorem dL_prints_33 : decode cL_prints 33 = .ok (.iaload, 1) := by decide +kernel
theorem dL_prints_34 : decode cL_prints 34 = .ok (.aload_n 1, 1) := by decide +kernel
theorem dL_prints_35 : decode cL_prints 35 = .ok (.iconst 5, 1) := by decide +kernel
theorem dL_prints_36 : decode cL_prints 36 = .ok (.iaload, 1) := by decide +kernel
theorem dL_prints_37 : decode cL_prints 37 = .ok (.bipush 40, 2) := by decide +kernel
theorem dL_prints_39 : decode cL_prints 39 = .ok (.if_icmp .ne 7, 3) := by decide +kernel
theorem dL_prints_42 : decode cL_prints 42 = .ok (.iconst 1, 1) := by decide +kernel
theorem dL_prints_43 : decode cL_prints 43 = .ok (.goto 4, 3) := by decide +kernel
theorem dL_prints_46 : decode cL_prints 46 = .ok (.iconst 0, 1) := by decide +kernel
theorem dL_prints_47 : decode cL_prints 47 = .ok (.isub, 1) := by decide +kernel
theorem dL_prints_48 : decode cL_prints 48 = .ok (.iastore, 1) := by decide +kernel
theorem dL_prints_49 : decode cL_prints 49 = .ok (.aload_n 2, 1) := by decide +kernel
theorem dL_prints_50 : decode cL_prints 50 = .ok (.aload_n 1, 1) := by decide +kernel
theorem dL_prints_51 : decode cL_prints 51 = .ok (.iconst 5, 1) := by decide +kernel
theorem dL_prints_52 : decode cL_prints 52 = .ok (.iaload, 1) := by decide +kernel
theorem dL_prints_53 : decode cL_prints 53 = .ok (.aload_n 0, 1) := by decide +kernel
theorem dL_prints_54 : decode cL_prints 54 = .ok (.iconst 0, 1) := by decide +kernel
theorem dL_prints_55 : decode cL_prints 55 = .ok (.aload_n 0, 1) := by decide +kernel
theorem dL_prints_56 : decode cL_prints 56 = .ok (.bipush 60, 2) := by decide +kernel
theorem dL_prints_58 : decode cL_prints 58 = .ok (.iaload, 1) := by decide +kernel
theorem dL_prints_59 : decode cL_prints 59 = .ok (.invokestatic 144, 3) := by decide +kernel
theorem dL_prints_62 : decode cL_prints 62 = .ok (.lastore, 1) := by decide +kernel
theorem dL_prints_63 : decode cL_prints 63 = .ok (.aload_n 1, 1) := by decide +kernel
theorem dL_prints_64 : decode cL_prints 64 = .ok (.iconst 5, 1) := by decide +kernel
theorem dL_prints_65 : decode cL_prints 65 = .ok (.dup2, 1) := by decide +kernel
theorem dL_prints_66 : decode cL_prints 66 = .ok (.iaload, 1) := by decide +kernel
theorem dL_prints_67 : decode cL_prints 67 = .ok (.iconst 1, 1) := by decide +kernel
theorem dL_prints_68 : decode cL_prints 68 = .ok (.iadd, 1) := by decide +kernel
theorem dL_prints_69 : decode cL_prints 69 = .ok (.iastore, 1) := by decide +kernel
theorem dL_prints_70 : decode cL_prints 70 = .ok (.return_, 1) := by decide +kernel
set_option maxRecDepth 20000 in
theorem ggL_isTrue_L_isField : GoodIn wsL_isTrue wsL_isField := goodIn_r _ [4, 5, 6, 3, 7, 8, 9, 10, 11, 12, 13, 14, 15, 16] (by decide +kernel) (by decide +kernel)
set_option maxRecDepth 20000 in
theorem gL_isTrue_L_isField : GoodIn wsL_isTrue (va_wsS RL 148 yL_isField wsL_isField) := goodIn_app (goodIn_of _ (by decide +kernel)) ggL_isTrue_L_isField
set_option maxRecDepth 20000 in
theorem ggL_isTrue_L_isLess : GoodIn wsL_isTrue wsL_isLess := goodIn_r _ [19, 5, 6, 3, 7, 8, 9, 10, 11, 12, 13, 14, 15, 16, 20, 21, 22] (by decide +kernel) (by decide +kernel)
set_option maxRecDepth 20000 in
theorem gL_isTrue_L_isLess : GoodIn wsL_isTrue (va_wsS RL 152 yL_isLess wsL_isLess) := goodIn_app (goodIn_of _ (by decide +kernel)) ggL_isTrue_L_isLess
theorem dL_isTrue_0 : decode cL_isTrue 0 = .ok (.aload_n 2, 1) := by decide +kernel
theorem dL_isTrue_1 : decode cL_isTrue 1 = .ok (.iconst 5, 1) := by decide +kernel
theorem dL_isTrue_2 : decode cL_isTrue 2 = .ok (.iload_n 3, 1) := by decide +kernel
theorem dL_isTrue_3 : decode cL_isTrue 3 = .ok (.imul, 1) := by decide +kernel
theorem dL_isTrue_4 : decode cL_isTrue 4 = .ok (.iconst 1, 1) := by decide +kernel
theorem dL_isTrue_5 : decode cL_isTrue 5 = .ok (.iadd, 1) := by decide +kernel
theorem dL_isTrue_6 : decode cL_isTrue 6 = .ok (.iaload, 1) := by decide +kernel
theorem dL_isTrue_7 : decode cL_isTrue 7 = .ok (.istore 4, 2) := by decide +kernel
theorem dL_isTrue_9 : decode cL_isTrue 9 = .ok (.aload_n 2, 1) := by decide +kernel
theorem dL_isTrue_10 : decode cL_isTrue 10 = .ok (.iconst 5, 1) := by decide +kernel
theorem dL_isTrue_11 : decode cL_isTrue 11 = .ok (.iload_n 3, 1) := by decide +kernel
theorem dL_isTrue_12 : decode cL_isTrue 12 = .ok (.imul, 1) := by decide +kernel
theorem dL_isTrue_13 : decode cL_isTrue 13 = .ok (.iconst 2, 1) := by decide +kernel
theorem dL_isTrue_14 : decode cL_isTrue 14 = .ok (.iadd, 1) := by decide +kernel
theorem dL_isTrue_15 : decode cL_isTrue 15 = .ok (.iaload, 1) := by decide +kernel
theorem dL_isTrue_16 : decode cL_isTrue 16 = .ok (.istore 5, 2) := by decide +kernel
theorem dL_isTrue_18 : decode cL_isTrue 18 = .ok (.aload_n 2, 1) := by decide +kernel
theorem dL_isTrue_19 : decode cL_isTrue 19 = .ok (.iconst 5, 1) := by decide +kernel
theorem dL_isTrue_20 : decode cL_isTrue 20 = .ok (.iload_n 3, 1) := by decide +kernel
theorem dL_isTrue_21 : decode cL_isTrue 21 = .ok (.imul, 1) := by decide +kernel
theorem dL_isTrue_22 : decode cL_isTrue 22 = .ok (.iaload, 1) := by decide +kernel
theorem dL_isTrue_23 : decode cL_isTrue 23 = .ok (.istore 6, 2) := by decide +kernel
theorem dL_isTrue_25 : decode cL_isTrue 25 = .ok (.iload 6, 2) := by decide +kernel
theorem dL_isTrue_27 : decode cL_isTrue 27 = .ok (.iconst 3, 1) := by decide +kernel
theorem dL_isTrue_28 : decode cL_isTrue 28 = .ok (.if_icmp .ge 47, 3) := by decide +kernel
theorem dL_isTrue_31 : decode cL_isTrue 31 = .ok (.iload 6, 2) := by decide +kernel
theorem dL_isTrue_33 : decode cL_isTrue 33 = .ok (.ifCond .eq 36, 3) := by decide +kernel
theorem dL_isTrue_36 : decode cL_isTrue 36 = .ok (.iload 6, 2) := by decide +kernel
theorem dL_isTrue_38 : decode cL_isTrue 38 = .ok (.iconst 1, 1) := by decide +kernel
theorem dL_isTrue_39 : decode cL_isTrue 39 = .ok (.if_icmp .ne 18, 3) := by decide +kernel
theorem dL_isTrue_42 : decode cL_isTrue 42 = .ok (.aload_n 0, 1) := by decide +kernel
theorem dL_isTrue_43 : decode cL_isTrue 43 = .ok (.aload_n 1, 1) := by decide +kernel
theorem dL_isTrue_44 : decode cL_isTrue 44 = .ok (.iload 4, 2) := by decide +kernel
theorem dL_isTrue_46 : decode cL_isTrue 46 = .ok (.iload 5, 2) := by decide +kernel
theorem dL_isTrue_48 : decode cL_isTrue 48 = .ok (.invokestatic 148, 3) := by decide +kernel
theorem dL_isTrue_51 : decode cL_isTrue 51 = .ok (.ifCond .eq 22, 3) := by decide +kernel
theorem dL_isTrue_54 : decode cL_isTrue 54 = .ok (.goto 15, 3) := by decide +kernel
theorem dL_isTrue_57 : decode cL_isTrue 57 = .ok (.aload_n 0, 1) := by decide +kernel
theorem dL_isTrue_58 : decode cL_isTrue 58 = .ok (.aload_n 1, 1) := by decide +kernel
theorem dL_isTrue_59 : decode cL_isTrue 59 = .ok (.iload 4, 2) := by decide +kernel
theorem dL_isTrue_61 : decode cL_isTrue 61 = .ok (.iload 5, 2) := by decide +kernel
theorem dL_isTrue_63 : decode cL_isTrue 63 = .ok (.invokestatic 152, 3) := by decide +kernel
theorem dL_isTrue_66 : decode cL_isTrue 66 = .ok (.ifCond .eq 7, 3) := by decide +kernel
theorem dL_isTrue_69 : decode cL_isTrue 69 = .ok (.iconst 1, 1) := by decide +kernel
theorem dL_isTrue_70 : decode cL_isTrue 70 = .ok (.goto 4, 3) := by decide +kernel
theorem dL_isTrue_73 : decode cL_isTrue 73 = .ok (.iconst 0, 1) := by decide +kernel
theorem dL_isTrue_74 : decode cL_isTrue 74 = .ok (.ireturn, 1) := by decide +kernel
theorem dL_isTrue_75 : decode cL_isTrue 75 = .ok (.aload_n 2, 1) := by decide +kernel
theorem dL_isTrue_76 : decode cL_isTrue 76 = .ok (.iconst 5, 1) := by decide +kernel
theorem dL_isTrue_77 : decode cL_isTrue 77 = .ok (.iload_n 3, 1) := by decide +kernel
theorem dL_isTrue_78 : decode cL_isTrue 78 = .ok (.imul, 1) := by decide +kernel
theorem dL_isTrue_79 : decode cL_isTrue 79 = .ok (.iconst 3, 1) := by decide +kernel
theorem dL_isTrue_80 : decode cL_isTrue 80 = .ok (.iadd, 1) := by decide +kernel
theorem dL_isTrue_81 : decode cL_isTrue 81 = .ok (.iaload, 1) := by decide +kernel
theorem dL_isTrue_82 : decode cL_isTrue 82 = .ok (.iconst 1, 1) := by decide +kernel
theorem dL_isTrue_83 : decode cL_isTrue 83 = .ok (.if_icmp .eq 14, 3) := by decide +kernel
theorem dL_isTrue_86 : decode cL_isTrue 86 = .ok (.aload_n 0, 1) := by decide +kernel
theorem dL_isTrue_87 : decode cL_isTrue 87 = .ok (.aload_n 1, 1) := by decide +kernel
theorem dL_isTrue_88 : decode cL_isTrue 88 = .ok (.iconst 1, 1) := by decide +kernel
theorem dL_isTrue_89 : decode cL_isTrue 89 = .ok (.iload 4, 2) := by decide +kernel
theorem dL_isTrue_91 : decode cL_isTrue 91 = .ok (.invokestatic 148, 3) := by decide +kernel
theorem dL_isTrue_94 : decode cL_isTrue 94 = .ok (.ifCond .eq 7, 3) := by decide +kernel
theorem dL_isTrue_97 : decode cL_isTrue 97 = .ok (.iconst 1, 1) := by decide +kernel
theorem dL_isTrue_98 : decode cL_isTrue 98 = .ok (.goto 4, 3) := by decide +kernel
theorem dL_isTrue_101 : decode cL_isTrue 101 = .ok (.iconst 0, 1) := by decide +kernel
theorem dL_isTrue_102 : decode cL_isTrue 102 = .ok (.istore 7, 2) := by decide +kernel
theorem dL_isTrue_104 : decode cL_isTrue 104 = .ok (.aload_n 2, 1) := by decide +kernel
theorem dL_isTrue_105 : decode cL_isTrue 105 = .ok (.iconst 5, 1) := by decide +kernel
theorem dL_isTrue_106 : decode cL_isTrue 106 = .ok (.iload_n 3, 1) := by decide +kernel
theorem dL_isTrue_107 : decode cL_isTrue 107 = .ok (.imul, 1) := by decide +kernel
theorem dL_isTrue_108 : decode cL_isTrue 108 = .ok (.iconst 3, 1) := by decide +kernel
theorem dL_isTrue_109 : decode cL_isTrue 109 = .ok (.iadd, 1) := by decide +kernel
theorem dL_isTrue_110 : decode cL_isTrue 110 = .ok (.iload 7, 2) := by decide +kernel
theorem dL_isTrue_112 : decode cL_isTrue 112 = .ok (.ifCond .eq 18, 3) := by decide +kernel
theorem dL_isTrue_115 : decode cL_isTrue 115 = .ok (.aload_n 0, 1) := by decide +kernel
theorem dL_isTrue_116 : decode cL_isTrue 116 = .ok (.aload_n 1, 1) := by decide +kernel
theorem dL_isTrue_117 : decode cL_isTrue 117 = .ok (.iconst 1, 1) := by decide +kernel
theorem dL_isTrue_118 : decode cL_isTrue 118 = .ok (.iload 5, 2) := by decide +kernel
theorem dL_isTrue_120 : decode cL_isTrue 120 = .ok (.invokestatic 148, 3) := by decide +kernel
theorem dL_isTrue_123 : decode cL_isTrue 123 = .ok (.ifCond .ne 7, 3) := by decide +kernel
theorem dL_isTrue_126 : decode cL_isTrue 126 = .ok (.iconst 1, 1) := by decide +kernel
theorem dL_isTrue_127 : decode cL_isTrue 127 = .ok (.goto 4, 3) := by decide +kernel
theorem dL_isTrue_130 : decode cL_isTrue 130 = .ok (.iconst 0, 1) := by decide +kernel
theorem dL_isTrue_131 : decode cL_isTrue 131 = .ok (.iastore, 1) := by decide +kernel
theorem dL_isTrue_132 : decode cL_isTrue 132 = .ok (.iload 7, 2) := by decide +kernel
theorem dL_isTrue_134 : decode cL_isTrue 134 = .ok (.ireturn, 1) := by decide +kernel
set_option maxRecDepth 20000 in
theorem ggL_ends_L_copies : GoodIn wsL_ends wsL_copies := goodIn_r _ [6, 7, 8, 5, 9] (by decide +kernel) (by decide +kernel)
set_option maxRecDepth 20000 in
theorem gL_ends_L_copies : GoodIn wsL_ends (va_wsS RL 64 yL_copies wsL_copies) := goodIn_app (goodIn_of _ (by decide +kernel)) ggL_ends_L_copies
set_option maxRecDepth 20000 in
theorem ggL_ends_L_isTrue : GoodIn wsL_ends wsL_isTrue := goodIn_r _ [12, 13, 14, 5, 15, 16, 17, 18, 19, 20, 21, 22, 23, 24, 25, 26, 27, 28, 29, 30, 31, 32, 33] (by decide +kernel) (by decide +kernel)
set_option maxRecDepth 20000 in
theorem gL_ends_L_isTrue : GoodIn wsL_ends (va_wsS RL 155 yL_isTrue wsL_isTrue) := goodIn_app (goodIn_of _ (by decide +kernel)) ggL_ends_L_isTrue
set_option maxRecDepth 20000 in
theorem ggL_ends_L_finds : GoodIn wsL_ends wsL_finds := goodIn_r _ [36, 37, 1, 38, 39, 5, 40, 41, 42, 43, 44, 45, 16, 17, 18, 19, 20, 21, 3, 4, 6, 7, 8, 9, 46, 47, 48, 25, 26, 27, 49, 50, 51, 52, 53, 54, 55, 56] (by decide +kernel) (by decide +kernel)
set_option maxRecDepth 20000 in
theorem gL_ends_L_finds : GoodIn wsL_ends (va_wsS RL 161 yL_finds wsL_finds) := goodIn_app (goodIn_of _ (by decide +kernel)) ggL_ends_L_finds
set_option maxRecDepth 20000 in
theorem ggL_ends_L_sets : GoodIn wsL_ends wsL_sets := goodIn_r _ [59, 19, 20, 5, 21, 3, 4, 6, 7, 8, 9, 16, 17, 18] (by decide +kernel) (by decide +kernel)
set_option maxRecDepth 20000 in
theorem gL_ends_L_sets : GoodIn wsL_ends (va_wsS RL 165 yL_sets wsL_sets) := goodIn_app (goodIn_of _ (by decide +kernel)) ggL_ends_L_sets
set_option maxRecDepth 20000 in
theorem ggL_ends_L_grows : GoodIn wsL_ends wsL_grows := goodIn_r _ [62, 63, 64, 5, 65, 16, 17, 18, 19, 20, 21, 66, 67, 68, 69, 70, 71, 72, 73, 74, 75, 76, 77, 78, 79, 80, 81, 54, 55, 56] (by decide +kernel) (by decide +kernel)
set_option maxRecDepth 20000 in
theorem gL_ends_L_grows : GoodIn wsL_ends (va_wsS RL 169 yL_grows wsL_grows) := goodIn_app (goodIn_of _ (by decide +kernel)) ggL_ends_L_grows
set_option maxRecDepth 20000 in
theorem ggL_ends_L_prints : GoodIn wsL_ends wsL_prints := goodIn_r _ [84, 85, 86, 5, 87, 88, 89] (by decide +kernel) (by decide +kernel)
set_option maxRecDepth 20000 in
theorem gL_ends_L_prints : GoodIn wsL_ends (va_wsS RL 173 yL_prints wsL_prints) := goodIn_app (goodIn_of _ (by decide +kernel)) ggL_ends_L_prints
set_option maxRecDepth 20000 in
theorem ggL_ends_L_drops : GoodIn wsL_ends wsL_drops := goodIn_r _ [92, 63, 64, 5, 65, 16, 17, 18, 19, 20, 21, 66, 67, 68, 69, 70, 71, 72, 73, 74, 75, 76, 77, 78, 79, 80, 81] (by decide +kernel) (by decide +kernel)
set_option maxRecDepth 20000 in
theorem gL_ends_L_drops : GoodIn wsL_ends (va_wsS RL 177 yL_drops wsL_drops) := goodIn_app (goodIn_of _ (by decide +kernel)) ggL_ends_L_drops
theorem dL_ends_0 : decode cL_ends 0 = .ok (.aload_n 0, 1) := by decide +kernel
theorem dL_ends_1 : decode cL_ends 1 = .ok (.bipush 60, 2) := by decide +kernel
theorem dL_ends_3 : decode cL_ends 3 = .ok (.iconst 0, 1) := by decide +kernel
theorem dL_ends_4 : decode cL_ends 4 = .ok (.iastore, 1) := by decide +kernel
