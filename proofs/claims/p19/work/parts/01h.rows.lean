theorem dL_fields_14 : decode cL_fields 14 = .ok (.istore_n 3, 1) := by decide +kernel
theorem dL_fields_15 : decode cL_fields 15 = .ok (.iload_n 3, 1) := by decide +kernel
theorem dL_fields_16 : decode cL_fields 16 = .ok (.aload_n 0, 1) := by decide +kernel
theorem dL_fields_17 : decode cL_fields 17 = .ok (.bipush 60, 2) := by decide +kernel
theorem dL_fields_19 : decode cL_fields 19 = .ok (.iaload, 1) := by decide +kernel
theorem dL_fields_20 : decode cL_fields 20 = .ok (.if_icmp .ge 32, 3) := by decide +kernel
theorem dL_fields_23 : decode cL_fields 23 = .ok (.iload_n 2, 1) := by decide +kernel
theorem dL_fields_24 : decode cL_fields 24 = .ok (.aload_n 0, 1) := by decide +kernel
theorem dL_fields_25 : decode cL_fields 25 = .ok (.iload_n 3, 1) := by decide +kernel
theorem dL_fields_26 : decode cL_fields 26 = .ok (.iaload, 1) := by decide +kernel
theorem dL_fields_27 : decode cL_fields 27 = .ok (.aload_n 1, 1) := by decide +kernel
theorem dL_fields_28 : decode cL_fields 28 = .ok (.iconst 0, 1) := by decide +kernel
theorem dL_fields_29 : decode cL_fields 29 = .ok (.iaload, 1) := by decide +kernel
theorem dL_fields_30 : decode cL_fields 30 = .ok (.if_icmp .ne 13, 3) := by decide +kernel
theorem dL_fields_33 : decode cL_fields 33 = .ok (.iload_n 2, 1) := by decide +kernel
theorem dL_fields_34 : decode cL_fields 34 = .ok (.bipush 12, 2) := by decide +kernel
theorem dL_fields_36 : decode cL_fields 36 = .ok (.if_icmp .ge 7, 3) := by decide +kernel
theorem dL_fields_39 : decode cL_fields 39 = .ok (.iconst 1, 1) := by decide +kernel
theorem dL_fields_40 : decode cL_fields 40 = .ok (.goto 4, 3) := by decide +kernel
theorem dL_fields_43 : decode cL_fields 43 = .ok (.iconst 0, 1) := by decide +kernel
theorem dL_fields_44 : decode cL_fields 44 = .ok (.iadd, 1) := by decide +kernel
theorem dL_fields_45 : decode cL_fields 45 = .ok (.istore_n 2, 1) := by decide +kernel
theorem dL_fields_46 : decode cL_fields 46 = .ok (.iinc 3 1, 3) := by decide +kernel
theorem dL_fields_49 : decode cL_fields 49 = .ok (.goto (-34), 3) := by decide +kernel
theorem dL_fields_52 : decode cL_fields 52 = .ok (.iload_n 2, 1) := by decide +kernel
theorem dL_fields_53 : decode cL_fields 53 = .ok (.ireturn, 1) := by decide +kernel
set_option maxRecDepth 20000 in
theorem ggL_edge_L_fields : GoodIn wsL_edge wsL_fields := goodIn_r _ [4] (by decide +kernel) (by decide +kernel)
set_option maxRecDepth 20000 in
theorem gL_edge_L_fields : GoodIn wsL_edge (va_wsS RL 54 yL_fields wsL_fields) := goodIn_app (goodIn_of _ (by decide +kernel)) ggL_edge_L_fields
theorem dL_edge_0 : decode cL_edge 0 = .ok (.iload_n 2, 1) := by decide +kernel
theorem dL_edge_1 : decode cL_edge 1 = .ok (.ifCond .ne 16, 3) := by decide +kernel
theorem dL_edge_4 : decode cL_edge 4 = .ok (.iload_n 3, 1) := by decide +kernel
theorem dL_edge_5 : decode cL_edge 5 = .ok (.ifCond .eq 10, 3) := by decide +kernel
theorem dL_edge_8 : decode cL_edge 8 = .ok (.aload_n 0, 1) := by decide +kernel
theorem dL_edge_9 : decode cL_edge 9 = .ok (.bipush 60, 2) := by decide +kernel
theorem dL_edge_11 : decode cL_edge 11 = .ok (.iaload, 1) := by decide +kernel
theorem dL_edge_12 : decode cL_edge 12 = .ok (.goto 4, 3) := by decide +kernel
theorem dL_edge_15 : decode cL_edge 15 = .ok (.iconst 0, 1) := by decide +kernel
theorem dL_edge_16 : decode cL_edge 16 = .ok (.ireturn, 1) := by decide +kernel
theorem dL_edge_17 : decode cL_edge 17 = .ok (.iload_n 2, 1) := by decide +kernel
theorem dL_edge_18 : decode cL_edge 18 = .ok (.aload_n 0, 1) := by decide +kernel
theorem dL_edge_19 : decode cL_edge 19 = .ok (.aload_n 1, 1) := by decide +kernel
theorem dL_edge_20 : decode cL_edge 20 = .ok (.invokestatic 54, 3) := by decide +kernel
theorem dL_edge_23 : decode cL_edge 23 = .ok (.if_icmp .le 5, 3) := by decide +kernel
theorem dL_edge_26 : decode cL_edge 26 = .ok (.iconst 0, 1) := by decide +kernel
theorem dL_edge_27 : decode cL_edge 27 = .ok (.ireturn, 1) := by decide +kernel
theorem dL_edge_28 : decode cL_edge 28 = .ok (.iconst 1, 1) := by decide +kernel
theorem dL_edge_29 : decode cL_edge 29 = .ok (.istore 4, 2) := by decide +kernel
theorem dL_edge_31 : decode cL_edge 31 = .ok (.iconst 0, 1) := by decide +kernel
theorem dL_edge_32 : decode cL_edge 32 = .ok (.istore 5, 2) := by decide +kernel
theorem dL_edge_34 : decode cL_edge 34 = .ok (.iconst 0, 1) := by decide +kernel
theorem dL_edge_35 : decode cL_edge 35 = .ok (.istore 6, 2) := by decide +kernel
theorem dL_edge_37 : decode cL_edge 37 = .ok (.iload 6, 2) := by decide +kernel
theorem dL_edge_39 : decode cL_edge 39 = .ok (.aload_n 0, 1) := by decide +kernel
theorem dL_edge_40 : decode cL_edge 40 = .ok (.bipush 60, 2) := by decide +kernel
theorem dL_edge_42 : decode cL_edge 42 = .ok (.iaload, 1) := by decide +kernel
theorem dL_edge_43 : decode cL_edge 43 = .ok (.if_icmp .ge 53, 3) := by decide +kernel
theorem dL_edge_46 : decode cL_edge 46 = .ok (.aload_n 0, 1) := by decide +kernel
theorem dL_edge_47 : decode cL_edge 47 = .ok (.iload 6, 2) := by decide +kernel
theorem dL_edge_49 : decode cL_edge 49 = .ok (.iaload, 1) := by decide +kernel
theorem dL_edge_50 : decode cL_edge 50 = .ok (.aload_n 1, 1) := by decide +kernel
theorem dL_edge_51 : decode cL_edge 51 = .ok (.iconst 0, 1) := by decide +kernel
theorem dL_edge_52 : decode cL_edge 52 = .ok (.iaload, 1) := by decide +kernel
theorem dL_edge_53 : decode cL_edge 53 = .ok (.if_icmp .ne 37, 3) := by decide +kernel
theorem dL_edge_56 : decode cL_edge 56 = .ok (.iload 4, 2) := by decide +kernel
theorem dL_edge_58 : decode cL_edge 58 = .ok (.bipush 12, 2) := by decide +kernel
theorem dL_edge_60 : decode cL_edge 60 = .ok (.if_icmp .ge 30, 3) := by decide +kernel
theorem dL_edge_63 : decode cL_edge 63 = .ok (.iload 4, 2) := by decide +kernel
theorem dL_edge_65 : decode cL_edge 65 = .ok (.iload_n 2, 1) := by decide +kernel
theorem dL_edge_66 : decode cL_edge 66 = .ok (.if_icmp .ne 15, 3) := by decide +kernel
theorem dL_edge_69 : decode cL_edge 69 = .ok (.iload_n 3, 1) := by decide +kernel
theorem dL_edge_70 : decode cL_edge 70 = .ok (.ifCond .eq 8, 3) := by decide +kernel
theorem dL_edge_73 : decode cL_edge 73 = .ok (.iload 6, 2) := by decide +kernel
theorem dL_edge_75 : decode cL_edge 75 = .ok (.goto 5, 3) := by decide +kernel
theorem dL_edge_78 : decode cL_edge 78 = .ok (.iload 5, 2) := by decide +kernel
theorem dL_edge_80 : decode cL_edge 80 = .ok (.ireturn, 1) := by decide +kernel
theorem dL_edge_81 : decode cL_edge 81 = .ok (.iinc 4 1, 3) := by decide +kernel
theorem dL_edge_84 : decode cL_edge 84 = .ok (.iload 6, 2) := by decide +kernel
theorem dL_edge_86 : decode cL_edge 86 = .ok (.iconst 1, 1) := by decide +kernel
theorem dL_edge_87 : decode cL_edge 87 = .ok (.iadd, 1) := by decide +kernel
theorem dL_edge_88 : decode cL_edge 88 = .ok (.istore 5, 2) := by decide +kernel
theorem dL_edge_90 : decode cL_edge 90 = .ok (.iinc 6 1, 3) := by decide +kernel
theorem dL_edge_93 : decode cL_edge 93 = .ok (.goto (-56), 3) := by decide +kernel
theorem dL_edge_96 : decode cL_edge 96 = .ok (.iload_n 3, 1) := by decide +kernel
theorem dL_edge_97 : decode cL_edge 97 = .ok (.ifCond .eq 10, 3) := by decide +kernel
theorem dL_edge_100 : decode cL_edge 100 = .ok (.aload_n 0, 1) := by decide +kernel
theorem dL_edge_101 : decode cL_edge 101 = .ok (.bipush 60, 2) := by decide +kernel
theorem dL_edge_103 : decode cL_edge 103 = .ok (.iaload, 1) := by decide +kernel
theorem dL_edge_104 : decode cL_edge 104 = .ok (.goto 5, 3) := by decide +kernel
theorem dL_edge_107 : decode cL_edge 107 = .ok (.iload 5, 2) := by decide +kernel
theorem dL_edge_109 : decode cL_edge 109 = .ok (.ireturn, 1) := by decide +kernel
theorem dL_puts_0 : decode cL_puts 0 = .ok (.aload_n 0, 1) := by decide +kernel
theorem dL_puts_1 : decode cL_puts 1 = .ok (.bipush 60, 2) := by decide +kernel
theorem dL_puts_3 : decode cL_puts 3 = .ok (.iaload, 1) := by decide +kernel
theorem dL_puts_4 : decode cL_puts 4 = .ok (.bipush 60, 2) := by decide +kernel
theorem dL_puts_6 : decode cL_puts 6 = .ok (.if_icmp .ge 18, 3) := by decide +kernel
theorem dL_puts_9 : decode cL_puts 9 = .ok (.aload_n 0, 1) := by decide +kernel
theorem dL_puts_10 : decode cL_puts 10 = .ok (.aload_n 0, 1) := by decide +kernel
theorem dL_puts_11 : decode cL_puts 11 = .ok (.bipush 60, 2) := by decide +kernel
theorem dL_puts_13 : decode cL_puts 13 = .ok (.iaload, 1) := by decide +kernel
theorem dL_puts_14 : decode cL_puts 14 = .ok (.iload_n 1, 1) := by decide +kernel
theorem dL_puts_15 : decode cL_puts 15 = .ok (.iastore, 1) := by decide +kernel
theorem dL_puts_16 : decode cL_puts 16 = .ok (.aload_n 0, 1) := by decide +kernel
theorem dL_puts_17 : decode cL_puts 17 = .ok (.bipush 60, 2) := by decide +kernel
theorem dL_puts_19 : decode cL_puts 19 = .ok (.dup2, 1) := by decide +kernel
theorem dL_puts_20 : decode cL_puts 20 = .ok (.iaload, 1) := by decide +kernel
theorem dL_puts_21 : decode cL_puts 21 = .ok (.iconst 1, 1) := by decide +kernel
theorem dL_puts_22 : decode cL_puts 22 = .ok (.iadd, 1) := by decide +kernel
theorem dL_puts_23 : decode cL_puts 23 = .ok (.iastore, 1) := by decide +kernel
theorem dL_puts_24 : decode cL_puts 24 = .ok (.return_, 1) := by decide +kernel
set_option maxRecDepth 20000 in
theorem ggL_copies_L_puts : GoodIn wsL_copies wsL_puts := goodIn_r _ [4] (by decide +kernel) (by decide +kernel)
set_option maxRecDepth 20000 in
theorem gL_copies_L_puts : GoodIn wsL_copies (va_wsS RL 60 yL_puts wsL_puts) := goodIn_app (goodIn_of _ (by decide +kernel)) ggL_copies_L_puts
theorem dL_copies_0 : decode cL_copies 0 = .ok (.iload_n 1, 1) := by decide +kernel
theorem dL_copies_1 : decode cL_copies 1 = .ok (.istore 4, 2) := by decide +kernel
theorem dL_copies_3 : decode cL_copies 3 = .ok (.iload 4, 2) := by decide +kernel
theorem dL_copies_5 : decode cL_copies 5 = .ok (.iload_n 2, 1) := by decide +kernel
theorem dL_copies_6 : decode cL_copies 6 = .ok (.if_icmp .ge 17, 3) := by decide +kernel
theorem dL_copies_9 : decode cL_copies 9 = .ok (.aload_n 3, 1) := by decide +kernel
theorem dL_copies_10 : decode cL_copies 10 = .ok (.aload_n 0, 1) := by decide +kernel
theorem dL_copies_11 : decode cL_copies 11 = .ok (.iload 4, 2) := by decide +kernel
theorem dL_copies_13 : decode cL_copies 13 = .ok (.iaload, 1) := by decide +kernel
theorem dL_copies_14 : decode cL_copies 14 = .ok (.invokestatic 60, 3) := by decide +kernel
theorem dL_copies_17 : decode cL_copies 17 = .ok (.iinc 4 1, 3) := by decide +kernel
theorem dL_copies_20 : decode cL_copies 20 = .ok (.goto (-17), 3) := by decide +kernel
theorem dL_copies_23 : decode cL_copies 23 = .ok (.return_, 1) := by decide +kernel
set_option maxRecDepth 20000 in
theorem ggL_sets_L_fields : GoodIn wsL_sets wsL_fields := goodIn_r _ [4] (by decide +kernel) (by decide +kernel)
set_option maxRecDepth 20000 in
theorem gL_sets_L_fields : GoodIn wsL_sets (va_wsS RL 54 yL_fields wsL_fields) := goodIn_app (goodIn_of _ (by decide +kernel)) ggL_sets_L_fields
set_option maxRecDepth 20000 in
theorem ggL_sets_L_copies : GoodIn wsL_sets wsL_copies := goodIn_r _ [7, 8, 9, 3, 10] (by decide +kernel) (by decide +kernel)
set_option maxRecDepth 20000 in
theorem gL_sets_L_copies : GoodIn wsL_sets (va_wsS RL 64 yL_copies wsL_copies) := goodIn_app (goodIn_of _ (by decide +kernel)) ggL_sets_L_copies
set_option maxRecDepth 20000 in
theorem ggL_sets_L_puts : GoodIn wsL_sets wsL_puts := goodIn_r _ [10] (by decide +kernel) (by decide +kernel)
set_option maxRecDepth 20000 in
theorem gL_sets_L_puts : GoodIn wsL_sets (va_wsS RL 60 yL_puts wsL_puts) := goodIn_app (goodIn_of _ (by decide +kernel)) ggL_sets_L_puts
set_option maxRecDepth 20000 in
theorem ggL_sets_L_edge : GoodIn wsL_sets wsL_edge := goodIn_r _ [13, 1, 2, 3, 4] (by decide +kernel) (by decide +kernel)
set_option maxRecDepth 20000 in
theorem gL_sets_L_edge : GoodIn wsL_sets (va_wsS RL 68 yL_edge wsL_edge) := goodIn_app (goodIn_of _ (by decide +kernel)) ggL_sets_L_edge
theorem dL_sets_0 : decode cL_sets 0 = .ok (.aload_n 2, 1) := by decide +kernel
theorem dL_sets_1 : decode cL_sets 1 = .ok (.bipush 60, 2) := by decide +kernel
theorem dL_sets_3 : decode cL_sets 3 = .ok (.iconst 0, 1) := by decide +kernel
theorem dL_sets_4 : decode cL_sets 4 = .ok (.iastore, 1) := by decide +kernel
theorem dL_sets_5 : decode cL_sets 5 = .ok (.aload_n 0, 1) := by decide +kernel
theorem dL_sets_6 : decode cL_sets 6 = .ok (.aload_n 3, 1) := by decide +kernel
theorem dL_sets_7 : decode cL_sets 7 = .ok (.invokestatic 54, 3) := by decide +kernel
theorem dL_sets_10 : decode cL_sets 10 = .ok (.istore 5, 2) := by decide +kernel
theorem dL_sets_12 : decode cL_sets 12 = .ok (.iload 4, 2) := by decide +kernel
theorem dL_sets_14 : decode cL_sets 14 = .ok (.ifCond .ne 13, 3) := by decide +kernel
theorem dL_sets_17 : decode cL_sets 17 = .ok (.aload_n 1, 1) := by decide +kernel
theorem dL_sets_18 : decode cL_sets 18 = .ok (.iconst 0, 1) := by decide +kernel
theorem dL_sets_19 : decode cL_sets 19 = .ok (.aload_n 1, 1) := by decide +kernel
theorem dL_sets_20 : decode cL_sets 20 = .ok (.bipush 60, 2) := by decide +kernel
theorem dL_sets_22 : decode cL_sets 22 = .ok (.iaload, 1) := by decide +kernel
theorem dL_sets_23 : decode cL_sets 23 = .ok (.aload_n 2, 1) := by decide +kernel
theorem dL_sets_24 : decode cL_sets 24 = .ok (.invokestatic 64, 3) := by decide +kernel
theorem dL_sets_27 : decode cL_sets 27 = .ok (.iconst 1, 1) := by decide +kernel
theorem dL_sets_28 : decode cL_sets 28 = .ok (.istore 6, 2) := by decide +kernel
theorem dL_sets_30 : decode cL_sets 30 = .ok (.iload 4, 2) := by decide +kernel
theorem dL_sets_32 : decode cL_sets 32 = .ok (.ifCond .le 77, 3) := by decide +kernel
theorem dL_sets_35 : decode cL_sets 35 = .ok (.iload 6, 2) := by decide +kernel
theorem dL_sets_37 : decode cL_sets 37 = .ok (.iload 5, 2) := by decide +kernel
theorem dL_sets_39 : decode cL_sets 39 = .ok (.if_icmp .le 10, 3) := by decide +kernel
theorem dL_sets_42 : decode cL_sets 42 = .ok (.iload 6, 2) := by decide +kernel
theorem dL_sets_44 : decode cL_sets 44 = .ok (.iload 4, 2) := by decide +kernel
theorem dL_sets_46 : decode cL_sets 46 = .ok (.if_icmp .gt 63, 3) := by decide +kernel
theorem dL_sets_49 : decode cL_sets 49 = .ok (.iload 6, 2) := by decide +kernel
theorem dL_sets_51 : decode cL_sets 51 = .ok (.iconst 1, 1) := by decide +kernel
theorem dL_sets_52 : decode cL_sets 52 = .ok (.if_icmp .le 10, 3) := by decide +kernel
theorem dL_sets_55 : decode cL_sets 55 = .ok (.aload_n 2, 1) := by decide +kernel
theorem dL_sets_56 : decode cL_sets 56 = .ok (.aload_n 3, 1) := by decide +kernel
theorem dL_sets_57 : decode cL_sets 57 = .ok (.iconst 0, 1) := by decide +kernel
theorem dL_sets_58 : decode cL_sets 58 = .ok (.iaload, 1) := by decide +kernel
theorem dL_sets_59 : decode cL_sets 59 = .ok (.invokestatic 60, 3) := by decide +kernel
theorem dL_sets_62 : decode cL_sets 62 = .ok (.iload 6, 2) := by decide +kernel
theorem dL_sets_64 : decode cL_sets 64 = .ok (.iload 4, 2) := by decide +kernel
theorem dL_sets_66 : decode cL_sets 66 = .ok (.if_icmp .ne 16, 3) := by decide +kernel
theorem dL_sets_69 : decode cL_sets 69 = .ok (.aload_n 1, 1) := by decide +kernel
theorem dL_sets_70 : decode cL_sets 70 = .ok (.iconst 0, 1) := by decide +kernel
theorem dL_sets_71 : decode cL_sets 71 = .ok (.aload_n 1, 1) := by decide +kernel
theorem dL_sets_72 : decode cL_sets 72 = .ok (.bipush 60, 2) := by decide +kernel
theorem dL_sets_74 : decode cL_sets 74 = .ok (.iaload, 1) := by decide +kernel
theorem dL_sets_75 : decode cL_sets 75 = .ok (.aload_n 2, 1) := by decide +kernel
theorem dL_sets_76 : decode cL_sets 76 = .ok (.invokestatic 64, 3) := by decide +kernel
theorem dL_sets_79 : decode cL_sets 79 = .ok (.goto 24, 3) := by decide +kernel
theorem dL_sets_82 : decode cL_sets 82 = .ok (.aload_n 0, 1) := by decide +kernel
theorem dL_sets_83 : decode cL_sets 83 = .ok (.aload_n 0, 1) := by decide +kernel
theorem dL_sets_84 : decode cL_sets 84 = .ok (.aload_n 3, 1) := by decide +kernel
theorem dL_sets_85 : decode cL_sets 85 = .ok (.iload 6, 2) := by decide +kernel
theorem dL_sets_87 : decode cL_sets 87 = .ok (.iconst 0, 1) := by decide +kernel
theorem dL_sets_88 : decode cL_sets 88 = .ok (.invokestatic 68, 3) := by decide +kernel
theorem dL_sets_91 : decode cL_sets 91 = .ok (.aload_n 0, 1) := by decide +kernel
theorem dL_sets_92 : decode cL_sets 92 = .ok (.aload_n 3, 1) := by decide +kernel
theorem dL_sets_93 : decode cL_sets 93 = .ok (.iload 6, 2) := by decide +kernel
theorem dL_sets_95 : decode cL_sets 95 = .ok (.iconst 1, 1) := by decide +kernel
theorem dL_sets_96 : decode cL_sets 96 = .ok (.invokestatic 68, 3) := by decide +kernel
theorem dL_sets_99 : decode cL_sets 99 = .ok (.aload_n 2, 1) := by decide +kernel
theorem dL_sets_100 : decode cL_sets 100 = .ok (.invokestatic 64, 3) := by decide +kernel
theorem dL_sets_103 : decode cL_sets 103 = .ok (.iinc 6 1, 3) := by decide +kernel
theorem dL_sets_106 : decode cL_sets 106 = .ok (.goto (-76), 3) := by decide +kernel
theorem dL_sets_109 : decode cL_sets 109 = .ok (.aload_n 0, 1) := by decide +kernel
theorem dL_sets_110 : decode cL_sets 110 = .ok (.bipush 60, 2) := by decide +kernel
theorem dL_sets_112 : decode cL_sets 112 = .ok (.iconst 0, 1) := by decide +kernel
theorem dL_sets_113 : decode cL_sets 113 = .ok (.iastore, 1) := by decide +kernel
theorem dL_sets_114 : decode cL_sets 114 = .ok (.aload_n 2, 1) := by decide +kernel
theorem dL_sets_115 : decode cL_sets 115 = .ok (.iconst 0, 1) := by decide +kernel
theorem dL_sets_116 : decode cL_sets 116 = .ok (.aload_n 2, 1) := by decide +kernel
theorem dL_sets_117 : decode cL_sets 117 = .ok (.bipush 60, 2) := by decide +kernel
theorem dL_sets_119 : decode cL_sets 119 = .ok (.iaload, 1) := by decide +kernel
theorem dL_sets_120 : decode cL_sets 120 = .ok (.aload_n 0, 1) := by decide +kernel
theorem dL_sets_121 : decode cL_sets 121 = .ok (.invokestatic 64, 3) := by decide +kernel
theorem dL_sets_124 : decode cL_sets 124 = .ok (.return_, 1) := by decide +kernel
set_option maxRecDepth 20000 in
theorem ggL_writes_L_puts : GoodIn wsL_writes wsL_puts := goodIn_r _ [6] (by decide +kernel) (by decide +kernel)
set_option maxRecDepth 20000 in
theorem gL_writes_L_puts : GoodIn wsL_writes (va_wsS RL 60 yL_puts wsL_puts) := goodIn_app (goodIn_of _ (by decide +kernel)) ggL_writes_L_puts
theorem dL_writes_0 : decode cL_writes 0 = .ok (.iload_n 1, 1) := by decide +kernel
theorem dL_writes_1 : decode cL_writes 1 = .ok (.ifCond .ge 9, 3) := by decide +kernel
theorem dL_writes_4 : decode cL_writes 4 = .ok (.iload_n 1, 1) := by decide +kernel
theorem dL_writes_5 : decode cL_writes 5 = .ok (.i2l, 1) := by decide +kernel
theorem dL_writes_6 : decode cL_writes 6 = .ok (.lneg, 1) := by decide +kernel
theorem dL_writes_7 : decode cL_writes 7 = .ok (.goto 5, 3) := by decide +kernel
theorem dL_writes_10 : decode cL_writes 10 = .ok (.iload_n 1, 1) := by decide +kernel
theorem dL_writes_11 : decode cL_writes 11 = .ok (.i2l, 1) := by decide +kernel
theorem dL_writes_12 : decode cL_writes 12 = .ok (.lstore_n 2, 1) := by decide +kernel
theorem dL_writes_13 : decode cL_writes 13 = .ok (.iload_n 1, 1) := by decide +kernel
theorem dL_writes_14 : decode cL_writes 14 = .ok (.ifCond .ge 9, 3) := by decide +kernel
theorem dL_writes_17 : decode cL_writes 17 = .ok (.aload_n 0, 1) := by decide +kernel
theorem dL_writes_18 : decode cL_writes 18 = .ok (.bipush 45, 2) := by decide +kernel
theorem dL_writes_20 : decode cL_writes 20 = .ok (.invokestatic 60, 3) := by decide +kernel
theorem dL_writes_23 : decode cL_writes 23 = .ok (.lconst 1, 1) := by decide +kernel
theorem dL_writes_24 : decode cL_writes 24 = .ok (.lstore 4, 2) := by decide +kernel
theorem dL_writes_26 : decode cL_writes 26 = .ok (.lload_n 2, 1) := by decide +kernel
theorem dL_writes_27 : decode cL_writes 27 = .ok (.lload 4, 2) := by decide +kernel
theorem dL_writes_29 : decode cL_writes 29 = .ok (.ldiv, 1) := by decide +kernel
theorem dL_writes_30 : decode cL_writes 30 = .ok (.ldc2_w 72, 3) := by decide +kernel
theorem dL_writes_33 : decode cL_writes 33 = .ok (.lcmp, 1) := by decide +kernel
theorem dL_writes_34 : decode cL_writes 34 = .ok (.ifCond .le 14, 3) := by decide +kernel
theorem dL_writes_37 : decode cL_writes 37 = .ok (.lload 4, 2) := by decide +kernel
theorem dL_writes_39 : decode cL_writes 39 = .ok (.ldc2_w 74, 3) := by decide +kernel
theorem dL_writes_42 : decode cL_writes 42 = .ok (.lmul, 1) := by decide +kernel
theorem dL_writes_43 : decode cL_writes 43 = .ok (.lstore 4, 2) := by decide +kernel
theorem dL_writes_45 : decode cL_writes 45 = .ok (.goto (-19), 3) := by decide +kernel
theorem dL_writes_48 : decode cL_writes 48 = .ok (.lload 4, 2) := by decide +kernel
theorem dL_writes_50 : decode cL_writes 50 = .ok (.lconst 0, 1) := by decide +kernel
theorem dL_writes_51 : decode cL_writes 51 = .ok (.lcmp, 1) := by decide +kernel
theorem dL_writes_52 : decode cL_writes 52 = .ok (.ifCond .le 30, 3) := by decide +kernel
theorem dL_writes_55 : decode cL_writes 55 = .ok (.aload_n 0, 1) := by decide +kernel
theorem dL_writes_56 : decode cL_writes 56 = .ok (.bipush 48, 2) := by decide +kernel
theorem dL_writes_58 : decode cL_writes 58 = .ok (.lload_n 2, 1) := by decide +kernel
theorem dL_writes_59 : decode cL_writes 59 = .ok (.lload 4, 2) := by decide +kernel
theorem dL_writes_61 : decode cL_writes 61 = .ok (.ldiv, 1) := by decide +kernel
theorem dL_writes_62 : decode cL_writes 62 = .ok (.ldc2_w 74, 3) := by decide +kernel
theorem dL_writes_65 : decode cL_writes 65 = .ok (.lrem, 1) := by decide +kernel
theorem dL_writes_66 : decode cL_writes 66 = .ok (.l2i, 1) := by decide +kernel
theorem dL_writes_67 : decode cL_writes 67 = .ok (.iadd, 1) := by decide +kernel
theorem dL_writes_68 : decode cL_writes 68 = .ok (.invokestatic 60, 3) := by decide +kernel
theorem dL_writes_71 : decode cL_writes 71 = .ok (.lload 4, 2) := by decide +kernel
theorem dL_writes_73 : decode cL_writes 73 = .ok (.ldc2_w 74, 3) := by decide +kernel
theorem dL_writes_76 : decode cL_writes 76 = .ok (.ldiv, 1) := by decide +kernel
theorem dL_writes_77 : decode cL_writes 77 = .ok (.lstore 4, 2) := by decide +kernel
theorem dL_writes_79 : decode cL_writes 79 = .ok (.goto (-31), 3) := by decide +kernel
theorem dL_writes_82 : decode cL_writes 82 = .ok (.return_, 1) := by decide +kernel
theorem dL_number_0 : decode cL_number 0 = .ok (.iload_n 1, 1) := by decide +kernel
theorem dL_number_1 : decode cL_number 1 = .ok (.iload_n 2, 1) := by decide +kernel
theorem dL_number_2 : decode cL_number 2 = .ok (.if_icmp .ge 17, 3) := by decide +kernel
theorem dL_number_5 : decode cL_number 5 = .ok (.aload_n 0, 1) := by decide +kernel
theorem dL_number_6 : decode cL_number 6 = .ok (.iload_n 1, 1) := by decide +kernel
theorem dL_number_7 : decode cL_number 7 = .ok (.iaload, 1) := by decide +kernel
theorem dL_number_8 : decode cL_number 8 = .ok (.bipush 45, 2) := by decide +kernel
theorem dL_number_10 : decode cL_number 10 = .ok (.if_icmp .ne 9, 3) := by decide +kernel
theorem dL_number_13 : decode cL_number 13 = .ok (.iload_n 1, 1) := by decide +kernel
theorem dL_number_14 : decode cL_number 14 = .ok (.iconst 1, 1) := by decide +kernel
theorem dL_number_15 : decode cL_number 15 = .ok (.iadd, 1) := by decide +kernel
theorem dL_number_16 : decode cL_number 16 = .ok (.goto 4, 3) := by decide +kernel
theorem dL_number_19 : decode cL_number 19 = .ok (.iload_n 1, 1) := by decide +kernel
theorem dL_number_20 : decode cL_number 20 = .ok (.istore_n 3, 1) := by decide +kernel
theorem dL_number_21 : decode cL_number 21 = .ok (.iconst 0, 1) := by decide +kernel
theorem dL_number_22 : decode cL_number 22 = .ok (.istore 4, 2) := by decide +kernel
theorem dL_number_24 : decode cL_number 24 = .ok (.iload_n 3, 1) := by decide +kernel
theorem dL_number_25 : decode cL_number 25 = .ok (.istore 5, 2) := by decide +kernel
theorem dL_number_27 : decode cL_number 27 = .ok (.iload 5, 2) := by decide +kernel
theorem dL_number_29 : decode cL_number 29 = .ok (.iload_n 2, 1) := by decide +kernel
theorem dL_number_30 : decode cL_number 30 = .ok (.if_icmp .ge 51, 3) := by decide +kernel
theorem dL_number_33 : decode cL_number 33 = .ok (.iload 5, 2) := by decide +kernel
theorem dL_number_35 : decode cL_number 35 = .ok (.iload_n 3, 1) := by decide +kernel
theorem dL_number_36 : decode cL_number 36 = .ok (.bipush 9, 2) := by decide +kernel
theorem dL_number_38 : decode cL_number 38 = .ok (.iadd, 1) := by decide +kernel
theorem dL_number_39 : decode cL_number 39 = .ok (.if_icmp .ge 42, 3) := by decide +kernel
theorem dL_number_42 : decode cL_number 42 = .ok (.aload_n 0, 1) := by decide +kernel
theorem dL_number_43 : decode cL_number 43 = .ok (.iload 5, 2) := by decide +kernel
theorem dL_number_45 : decode cL_number 45 = .ok (.iaload, 1) := by decide +kernel
theorem dL_number_46 : decode cL_number 46 = .ok (.bipush 48, 2) := by decide +kernel
theorem dL_number_48 : decode cL_number 48 = .ok (.if_icmp .lt 33, 3) := by decide +kernel
theorem dL_number_51 : decode cL_number 51 = .ok (.aload_n 0, 1) := by decide +kernel
theorem dL_number_52 : decode cL_number 52 = .ok (.iload 5, 2) := by decide +kernel
theorem dL_number_54 : decode cL_number 54 = .ok (.iaload, 1) := by decide +kernel
theorem dL_number_55 : decode cL_number 55 = .ok (.bipush 57, 2) := by decide +kernel
theorem dL_number_57 : decode cL_number 57 = .ok (.if_icmp .gt 24, 3) := by decide +kernel
theorem dL_number_60 : decode cL_number 60 = .ok (.bipush 10, 2) := by decide +kernel
theorem dL_number_62 : decode cL_number 62 = .ok (.iload 4, 2) := by decide +kernel
theorem dL_number_64 : decode cL_number 64 = .ok (.imul, 1) := by decide +kernel
theorem dL_number_65 : decode cL_number 65 = .ok (.aload_n 0, 1) := by decide +kernel
theorem dL_number_66 : decode cL_number 66 = .ok (.iload 5, 2) := by decide +kernel
theorem dL_number_68 : decode cL_number 68 = .ok (.iaload, 1) := by decide +kernel
theorem dL_number_69 : decode cL_number 69 = .ok (.iadd, 1) := by decide +kernel
theorem dL_number_70 : decode cL_number 70 = .ok (.bipush 48, 2) := by decide +kernel
theorem dL_number_72 : decode cL_number 72 = .ok (.isub, 1) := by decide +kernel
theorem dL_number_73 : decode cL_number 73 = .ok (.istore 4, 2) := by decide +kernel
theorem dL_number_75 : decode cL_number 75 = .ok (.iinc 5 1, 3) := by decide +kernel
theorem dL_number_78 : decode cL_number 78 = .ok (.goto (-51), 3) := by decide +kernel
theorem dL_number_81 : decode cL_number 81 = .ok (.iload_n 3, 1) := by decide +kernel
theorem dL_number_82 : decode cL_number 82 = .ok (.iload_n 1, 1) := by decide +kernel
theorem dL_number_83 : decode cL_number 83 = .ok (.if_icmp .le 9, 3) := by decide +kernel
theorem dL_number_86 : decode cL_number 86 = .ok (.iload 4, 2) := by decide +kernel
theorem dL_number_88 : decode cL_number 88 = .ok (.ineg, 1) := by decide +kernel
theorem dL_number_89 : decode cL_number 89 = .ok (.goto 5, 3) := by decide +kernel
theorem dL_number_92 : decode cL_number 92 = .ok (.iload 4, 2) := by decide +kernel
theorem dL_number_94 : decode cL_number 94 = .ok (.ireturn, 1) := by decide +kernel
theorem dL_isNumeric_0 : decode cL_isNumeric 0 = .ok (.iload_n 1, 1) := by decide +kernel
theorem dL_isNumeric_1 : decode cL_isNumeric 1 = .ok (.iload_n 2, 1) := by decide +kernel
theorem dL_isNumeric_2 : decode cL_isNumeric 2 = .ok (.if_icmp .ge 17, 3) := by decide +kernel
theorem dL_isNumeric_5 : decode cL_isNumeric 5 = .ok (.aload_n 0, 1) := by decide +kernel
theorem dL_isNumeric_6 : decode cL_isNumeric 6 = .ok (.iload_n 1, 1) := by decide +kernel
theorem dL_isNumeric_7 : decode cL_isNumeric 7 = .ok (.iaload, 1) := by decide +kernel
theorem dL_isNumeric_8 : decode cL_isNumeric 8 = .ok (.bipush 45, 2) := by decide +kernel
theorem dL_isNumeric_10 : decode cL_isNumeric 10 = .ok (.if_icmp .ne 9, 3) := by decide +kernel
theorem dL_isNumeric_13 : decode cL_isNumeric 13 = .ok (.iload_n 1, 1) := by decide +kernel
theorem dL_isNumeric_14 : decode cL_isNumeric 14 = .ok (.iconst 1, 1) := by decide +kernel
theorem dL_isNumeric_15 : decode cL_isNumeric 15 = .ok (.iadd, 1) := by decide +kernel
theorem dL_isNumeric_16 : decode cL_isNumeric 16 = .ok (.goto 4, 3) := by decide +kernel
theorem dL_isNumeric_19 : decode cL_isNumeric 19 = .ok (.iload_n 1, 1) := by decide +kernel
theorem dL_isNumeric_20 : decode cL_isNumeric 20 = .ok (.istore_n 3, 1) := by decide +kernel
theorem dL_isNumeric_21 : decode cL_isNumeric 21 = .ok (.iload_n 2, 1) := by decide +kernel
theorem dL_isNumeric_22 : decode cL_isNumeric 22 = .ok (.iload_n 3, 1) := by decide +kernel
theorem dL_isNumeric_23 : decode cL_isNumeric 23 = .ok (.if_icmp .le 15, 3) := by decide +kernel
theorem dL_isNumeric_26 : decode cL_isNumeric 26 = .ok (.iload_n 2, 1) := by decide +kernel
theorem dL_isNumeric_27 : decode cL_isNumeric 27 = .ok (.iload_n 3, 1) := by decide +kernel
theorem dL_isNumeric_28 : decode cL_isNumeric 28 = .ok (.bipush 10, 2) := by decide +kernel
theorem dL_isNumeric_30 : decode cL_isNumeric 30 = .ok (.iadd, 1) := by decide +kernel
theorem dL_isNumeric_31 : decode cL_isNumeric 31 = .ok (.if_icmp .ge 7, 3) := by decide +kernel
theorem dL_isNumeric_34 : decode cL_isNumeric 34 = .ok (.iconst 1, 1) := by decide +kernel
theorem dL_isNumeric_35 : decode cL_isNumeric 35 = .ok (.goto 4, 3) := by decide +kernel
theorem dL_isNumeric_38 : decode cL_isNumeric 38 = .ok (.iconst 0, 1) := by decide +kernel
theorem dL_isNumeric_39 : decode cL_isNumeric 39 = .ok (.istore 4, 2) := by decide +kernel
theorem dL_isNumeric_41 : decode cL_isNumeric 41 = .ok (.iload_n 3, 1) := by decide +kernel
theorem dL_isNumeric_42 : decode cL_isNumeric 42 = .ok (.istore 5, 2) := by decide +kernel
theorem dL_isNumeric_44 : decode cL_isNumeric 44 = .ok (.iload 5, 2) := by decide +kernel
theorem dL_isNumeric_46 : decode cL_isNumeric 46 = .ok (.iload_n 2, 1) := by decide +kernel
theorem dL_isNumeric_47 : decode cL_isNumeric 47 = .ok (.if_icmp .ge 39, 3) := by decide +kernel
theorem dL_isNumeric_50 : decode cL_isNumeric 50 = .ok (.iload 4, 2) := by decide +kernel
theorem dL_isNumeric_52 : decode cL_isNumeric 52 = .ok (.ifCond .eq 34, 3) := by decide +kernel
theorem dL_isNumeric_55 : decode cL_isNumeric 55 = .ok (.aload_n 0, 1) := by decide +kernel
theorem dL_isNumeric_56 : decode cL_isNumeric 56 = .ok (.iload 5, 2) := by decide +kernel
theorem dL_isNumeric_58 : decode cL_isNumeric 58 = .ok (.iaload, 1) := by decide +kernel
theorem dL_isNumeric_59 : decode cL_isNumeric 59 = .ok (.bipush 48, 2) := by decide +kernel
theorem dL_isNumeric_61 : decode cL_isNumeric 61 = .ok (.if_icmp .lt 16, 3) := by decide +kernel
theorem dL_isNumeric_64 : decode cL_isNumeric 64 = .ok (.aload_n 0, 1) := by decide +kernel
theorem dL_isNumeric_65 : decode cL_isNumeric 65 = .ok (.iload 5, 2) := by decide +kernel
theorem dL_isNumeric_67 : decode cL_isNumeric 67 = .ok (.iaload, 1) := by decide +kernel
theorem dL_isNumeric_68 : decode cL_isNumeric 68 = .ok (.bipush 57, 2) := by decide +kernel
theorem dL_isNumeric_70 : decode cL_isNumeric 70 = .ok (.if_icmp .gt 7, 3) := by decide +kernel
theorem dL_isNumeric_73 : decode cL_isNumeric 73 = .ok (.iconst 1, 1) := by decide +kernel
theorem dL_isNumeric_74 : decode cL_isNumeric 74 = .ok (.goto 4, 3) := by decide +kernel
theorem dL_isNumeric_77 : decode cL_isNumeric 77 = .ok (.iconst 0, 1) := by decide +kernel
theorem dL_isNumeric_78 : decode cL_isNumeric 78 = .ok (.istore 4, 2) := by decide +kernel
theorem dL_isNumeric_80 : decode cL_isNumeric 80 = .ok (.iinc 5 1, 3) := by decide +kernel
theorem dL_isNumeric_83 : decode cL_isNumeric 83 = .ok (.goto (-39), 3) := by decide +kernel
theorem dL_isNumeric_86 : decode cL_isNumeric 86 = .ok (.iload 4, 2) := by decide +kernel
theorem dL_isNumeric_88 : decode cL_isNumeric 88 = .ok (.ireturn, 1) := by decide +kernel
set_option maxRecDepth 20000 in
theorem ggL_isField_L_edge : GoodIn wsL_isField wsL_edge := goodIn_r _ [4, 5, 6, 3, 7] (by decide +kernel) (by decide +kernel)
set_option maxRecDepth 20000 in
theorem gL_isField_L_edge : GoodIn wsL_isField (va_wsS RL 68 yL_edge wsL_edge) := goodIn_app (goodIn_of _ (by decide +kernel)) ggL_isField_L_edge
set_option maxRecDepth 20000 in
theorem ggL_isField_L_isNumeric : GoodIn wsL_isField wsL_isNumeric := goodIn_r _ [10] (by decide +kernel) (by decide +kernel)
set_option maxRecDepth 20000 in
theorem gL_isField_L_isNumeric : GoodIn wsL_isField (va_wsS RL 76 yL_isNumeric wsL_isNumeric) := goodIn_app (goodIn_of _ (by decide +kernel)) ggL_isField_L_isNumeric
set_option maxRecDepth 20000 in
theorem ggL_isField_L_number : GoodIn wsL_isField wsL_number := goodIn_r _ [13] (by decide +kernel) (by decide +kernel)
set_option maxRecDepth 20000 in
theorem gL_isField_L_number : GoodIn wsL_isField (va_wsS RL 80 yL_number wsL_number) := goodIn_app (goodIn_of _ (by decide +kernel)) ggL_isField_L_number
theorem dL_isField_0 : decode cL_isField 0 = .ok (.aload_n 0, 1) := by decide +kernel
theorem dL_isField_1 : decode cL_isField 1 = .ok (.aload_n 1, 1) := by decide +kernel
theorem dL_isField_2 : decode cL_isField 2 = .ok (.iload_n 2, 1) := by decide +kernel
theorem dL_isField_3 : decode cL_isField 3 = .ok (.iconst 0, 1) := by decide +kernel
theorem dL_isField_4 : decode cL_isField 4 = .ok (.invokestatic 68, 3) := by decide +kernel
theorem dL_isField_7 : decode cL_isField 7 = .ok (.istore 4, 2) := by decide +kernel
theorem dL_isField_9 : decode cL_isField 9 = .ok (.aload_n 0, 1) := by decide +kernel
theorem dL_isField_10 : decode cL_isField 10 = .ok (.aload_n 1, 1) := by decide +kernel
theorem dL_isField_11 : decode cL_isField 11 = .ok (.iload_n 2, 1) := by decide +kernel
theorem dL_isField_12 : decode cL_isField 12 = .ok (.iconst 1, 1) := by decide +kernel
theorem dL_isField_13 : decode cL_isField 13 = .ok (.invokestatic 68, 3) := by decide +kernel
theorem dL_isField_16 : decode cL_isField 16 = .ok (.istore 5, 2) := by decide +kernel
theorem dL_isField_18 : decode cL_isField 18 = .ok (.aload_n 0, 1) := by decide +kernel
theorem dL_isField_19 : decode cL_isField 19 = .ok (.iload 4, 2) := by decide +kernel
theorem dL_isField_21 : decode cL_isField 21 = .ok (.iload 5, 2) := by decide +kernel
theorem dL_isField_23 : decode cL_isField 23 = .ok (.invokestatic 76, 3) := by decide +kernel
theorem dL_isField_26 : decode cL_isField 26 = .ok (.ifCond .eq 19, 3) := by decide +kernel
theorem dL_isField_29 : decode cL_isField 29 = .ok (.aload_n 0, 1) := by decide +kernel
theorem dL_isField_30 : decode cL_isField 30 = .ok (.iload 4, 2) := by decide +kernel
theorem dL_isField_32 : decode cL_isField 32 = .ok (.iload 5, 2) := by decide +kernel
theorem dL_isField_34 : decode cL_isField 34 = .ok (.invokestatic 80, 3) := by decide +kernel
theorem dL_isField_37 : decode cL_isField 37 = .ok (.iload_n 3, 1) := by decide +kernel
theorem dL_isField_38 : decode cL_isField 38 = .ok (.if_icmp .ne 7, 3) := by decide +kernel
theorem dL_isField_41 : decode cL_isField 41 = .ok (.iconst 1, 1) := by decide +kernel
theorem dL_isField_42 : decode cL_isField 42 = .ok (.goto 4, 3) := by decide +kernel
theorem dL_isField_45 : decode cL_isField 45 = .ok (.iconst 0, 1) := by decide +kernel
theorem dL_isField_46 : decode cL_isField 46 = .ok (.ireturn, 1) := by decide +kernel
theorem dL_place_0 : decode cL_place 0 = .ok (.iload_n 0, 1) := by decide +kernel
theorem dL_place_1 : decode cL_place 1 = .ok (.bipush 32, 2) := by decide +kernel
theorem dL_place_3 : decode cL_place 3 = .ok (.if_icmp .ne 7, 3) := by decide +kernel
theorem dL_place_6 : decode cL_place 6 = .ok (.iconst 1, 1) := by decide +kernel
theorem dL_place_7 : decode cL_place 7 = .ok (.goto 24, 3) := by decide +kernel
theorem dL_place_10 : decode cL_place 10 = .ok (.iload_n 0, 1) := by decide +kernel
theorem dL_place_11 : decode cL_place 11 = .ok (.bipush 45, 2) := by decide +kernel
theorem dL_place_13 : decode cL_place 13 = .ok (.if_icmp .ne 7, 3) := by decide +kernel
theorem dL_place_16 : decode cL_place 16 = .ok (.iconst 2, 1) := by decide +kernel
theorem dL_place_17 : decode cL_place 17 = .ok (.goto 14, 3) := by decide +kernel
theorem dL_place_20 : decode cL_place 20 = .ok (.iload_n 0, 1) := by decide +kernel
theorem dL_place_21 : decode cL_place 21 = .ok (.bipush 44, 2) := by decide +kernel
theorem dL_place_23 : decode cL_place 23 = .ok (.if_icmp .ne 7, 3) := by decide +kernel
theorem dL_place_26 : decode cL_place 26 = .ok (.iconst 3, 1) := by decide +kernel
theorem dL_place_27 : decode cL_place 27 = .ok (.goto 4, 3) := by decide +kernel
theorem dL_place_30 : decode cL_place 30 = .ok (.iload_n 0, 1) := by decide +kernel
theorem dL_place_31 : decode cL_place 31 = .ok (.ireturn, 1) := by decide +kernel
set_option maxRecDepth 20000 in
theorem ggL_isLess_L_edge : GoodIn wsL_isLess wsL_edge := goodIn_r _ [4, 5, 6, 3, 7] (by decide +kernel) (by decide +kernel)
set_option maxRecDepth 20000 in
theorem gL_isLess_L_edge : GoodIn wsL_isLess (va_wsS RL 68 yL_edge wsL_edge) := goodIn_app (goodIn_of _ (by decide +kernel)) ggL_isLess_L_edge
set_option maxRecDepth 20000 in
theorem ggL_isLess_L_isNumeric : GoodIn wsL_isLess wsL_isNumeric := goodIn_r _ [10] (by decide +kernel) (by decide +kernel)
set_option maxRecDepth 20000 in
theorem gL_isLess_L_isNumeric : GoodIn wsL_isLess (va_wsS RL 76 yL_isNumeric wsL_isNumeric) := goodIn_app (goodIn_of _ (by decide +kernel)) ggL_isLess_L_isNumeric
set_option maxRecDepth 20000 in
theorem ggL_isLess_L_number : GoodIn wsL_isLess wsL_number := goodIn_r _ [13] (by decide +kernel) (by decide +kernel)
set_option maxRecDepth 20000 in
theorem gL_isLess_L_number : GoodIn wsL_isLess (va_wsS RL 80 yL_number wsL_number) := goodIn_app (goodIn_of _ (by decide +kernel)) ggL_isLess_L_number
set_option maxRecDepth 20000 in
theorem ggL_isLess_L_place : GoodIn wsL_isLess wsL_place := goodIn_r _ [16] (by decide +kernel) (by decide +kernel)
set_option maxRecDepth 20000 in
theorem gL_isLess_L_place : GoodIn wsL_isLess (va_wsS RL 83 yL_place wsL_place) := goodIn_app (goodIn_of _ (by decide +kernel)) ggL_isLess_L_place
theorem dL_isLess_0 : decode cL_isLess 0 = .ok (.aload_n 0, 1) := by decide +kernel
theorem dL_isLess_1 : decode cL_isLess 1 = .ok (.aload_n 1, 1) := by decide +kernel
theorem dL_isLess_2 : decode cL_isLess 2 = .ok (.iload_n 2, 1) := by decide +kernel
theorem dL_isLess_3 : decode cL_isLess 3 = .ok (.iconst 0, 1) := by decide +kernel
theorem dL_isLess_4 : decode cL_isLess 4 = .ok (.invokestatic 68, 3) := by decide +kernel
theorem dL_isLess_7 : decode cL_isLess 7 = .ok (.istore 4, 2) := by decide +kernel
theorem dL_isLess_9 : decode cL_isLess 9 = .ok (.aload_n 0, 1) := by decide +kernel
theorem dL_isLess_10 : decode cL_isLess 10 = .ok (.aload_n 1, 1) := by decide +kernel
theorem dL_isLess_11 : decode cL_isLess 11 = .ok (.iload_n 2, 1) := by decide +kernel
theorem dL_isLess_12 : decode cL_isLess 12 = .ok (.iconst 1, 1) := by decide +kernel
theorem dL_isLess_13 : decode cL_isLess 13 = .ok (.invokestatic 68, 3) := by decide +kernel
theorem dL_isLess_16 : decode cL_isLess 16 = .ok (.istore 5, 2) := by decide +kernel
theorem dL_isLess_18 : decode cL_isLess 18 = .ok (.aload_n 0, 1) := by decide +kernel
theorem dL_isLess_19 : decode cL_isLess 19 = .ok (.aload_n 1, 1) := by decide +kernel
theorem dL_isLess_20 : decode cL_isLess 20 = .ok (.iload_n 3, 1) := by decide +kernel
theorem dL_isLess_21 : decode cL_isLess 21 = .ok (.iconst 0, 1) := by decide +kernel
theorem dL_isLess_22 : decode cL_isLess 22 = .ok (.invokestatic 68, 3) := by decide +kernel
theorem dL_isLess_25 : decode cL_isLess 25 = .ok (.istore 6, 2) := by decide +kernel
theorem dL_isLess_27 : decode cL_isLess 27 = .ok (.aload_n 0, 1) := by decide +kernel
theorem dL_isLess_28 : decode cL_isLess 28 = .ok (.aload_n 1, 1) := by decide +kernel
theorem dL_isLess_29 : decode cL_isLess 29 = .ok (.iload_n 3, 1) := by decide +kernel
theorem dL_isLess_30 : decode cL_isLess 30 = .ok (.iconst 1, 1) := by decide +kernel
theorem dL_isLess_31 : decode cL_isLess 31 = .ok (.invokestatic 68, 3) := by decide +kernel
theorem dL_isLess_34 : decode cL_isLess 34 = .ok (.istore 7, 2) := by decide +kernel
theorem dL_isLess_36 : decode cL_isLess 36 = .ok (.aload_n 0, 1) := by decide +kernel
theorem dL_isLess_37 : decode cL_isLess 37 = .ok (.iload 4, 2) := by decide +kernel
theorem dL_isLess_39 : decode cL_isLess 39 = .ok (.iload 5, 2) := by decide +kernel
theorem dL_isLess_41 : decode cL_isLess 41 = .ok (.invokestatic 76, 3) := by decide +kernel
theorem dL_isLess_44 : decode cL_isLess 44 = .ok (.ifCond .eq 39, 3) := by decide +kernel
theorem dL_isLess_47 : decode cL_isLess 47 = .ok (.aload_n 0, 1) := by decide +kernel
theorem dL_isLess_48 : decode cL_isLess 48 = .ok (.iload 6, 2) := by decide +kernel
theorem dL_isLess_50 : decode cL_isLess 50 = .ok (.iload 7, 2) := by decide +kernel
theorem dL_isLess_52 : decode cL_isLess 52 = .ok (.invokestatic 76, 3) := by decide +kernel
theorem dL_isLess_55 : decode cL_isLess 55 = .ok (.ifCond .eq 28, 3) := by decide +kernel
theorem dL_isLess_58 : decode cL_isLess 58 = .ok (.aload_n 0, 1) := by decide +kernel
theorem dL_isLess_59 : decode cL_isLess 59 = .ok (.iload 4, 2) := by decide +kernel
theorem dL_isLess_61 : decode cL_isLess 61 = .ok (.iload 5, 2) := by decide +kernel
theorem dL_isLess_63 : decode cL_isLess 63 = .ok (.invokestatic 80, 3) := by decide +kernel
theorem dL_isLess_66 : decode cL_isLess 66 = .ok (.aload_n 0, 1) := by decide +kernel
theorem dL_isLess_67 : decode cL_isLess 67 = .ok (.iload 6, 2) := by decide +kernel
theorem dL_isLess_69 : decode cL_isLess 69 = .ok (.iload 7, 2) := by decide +kernel
theorem dL_isLess_71 : decode cL_isLess 71 = .ok (.invokestatic 80, 3) := by decide +kernel
theorem dL_isLess_74 : decode cL_isLess 74 = .ok (.if_icmp .ge 7, 3) := by decide +kernel
theorem dL_isLess_77 : decode cL_isLess 77 = .ok (.iconst 1, 1) := by decide +kernel
theorem dL_isLess_78 : decode cL_isLess 78 = .ok (.goto 4, 3) := by decide +kernel
theorem dL_isLess_81 : decode cL_isLess 81 = .ok (.iconst 0, 1) := by decide +kernel
theorem dL_isLess_82 : decode cL_isLess 82 = .ok (.ireturn, 1) := by decide +kernel
theorem dL_isLess_83 : decode cL_isLess 83 = .ok (.iconst 0, 1) := by decide +kernel
theorem dL_isLess_84 : decode cL_isLess 84 = .ok (.istore 8, 2) := by decide +kernel
theorem dL_isLess_86 : decode cL_isLess 86 = .ok (.iload 4, 2) := by decide +kernel
theorem dL_isLess_88 : decode cL_isLess 88 = .ok (.iload 8, 2) := by decide +kernel
theorem dL_isLess_90 : decode cL_isLess 90 = .ok (.iadd, 1) := by decide +kernel
theorem dL_isLess_91 : decode cL_isLess 91 = .ok (.iload 5, 2) := by decide +kernel
theorem dL_isLess_93 : decode cL_isLess 93 = .ok (.if_icmp .lt 13, 3) := by decide +kernel
theorem dL_isLess_96 : decode cL_isLess 96 = .ok (.iload 6, 2) := by decide +kernel
theorem dL_isLess_98 : decode cL_isLess 98 = .ok (.iload 8, 2) := by decide +kernel
theorem dL_isLess_100 : decode cL_isLess 100 = .ok (.iadd, 1) := by decide +kernel
theorem dL_isLess_101 : decode cL_isLess 101 = .ok (.iload 7, 2) := by decide +kernel
theorem dL_isLess_103 : decode cL_isLess 103 = .ok (.if_icmp .ge 81, 3) := by decide +kernel
theorem dL_isLess_106 : decode cL_isLess 106 = .ok (.iload 4, 2) := by decide +kernel
theorem dL_isLess_108 : decode cL_isLess 108 = .ok (.iload 8, 2) := by decide +kernel
theorem dL_isLess_110 : decode cL_isLess 110 = .ok (.iadd, 1) := by decide +kernel
theorem dL_isLess_111 : decode cL_isLess 111 = .ok (.iload 5, 2) := by decide +kernel
theorem dL_isLess_113 : decode cL_isLess 113 = .ok (.if_icmp .ge 16, 3) := by decide +kernel
theorem dL_isLess_116 : decode cL_isLess 116 = .ok (.aload_n 0, 1) := by decide +kernel
theorem dL_isLess_117 : decode cL_isLess 117 = .ok (.iload 4, 2) := by decide +kernel
theorem dL_isLess_119 : decode cL_isLess 119 = .ok (.iload 8, 2) := by decide +kernel
theorem dL_isLess_121 : decode cL_isLess 121 = .ok (.iadd, 1) := by decide +kernel
theorem dL_isLess_122 : decode cL_isLess 122 = .ok (.iaload, 1) := by decide +kernel
theorem dL_isLess_123 : decode cL_isLess 123 = .ok (.invokestatic 83, 3) := by decide +kernel
theorem dL_isLess_126 : decode cL_isLess 126 = .ok (.goto 4, 3) := by decide +kernel
theorem dL_isLess_129 : decode cL_isLess 129 = .ok (.iconst 0, 1) := by decide +kernel
theorem dL_isLess_130 : decode cL_isLess 130 = .ok (.istore 9, 2) := by decide +kernel
theorem dL_isLess_132 : decode cL_isLess 132 = .ok (.iload 6, 2) := by decide +kernel
theorem dL_isLess_134 : decode cL_isLess 134 = .ok (.iload 8, 2) := by decide +kernel
theorem dL_isLess_136 : decode cL_isLess 136 = .ok (.iadd, 1) := by decide +kernel
theorem dL_isLess_137 : decode cL_isLess 137 = .ok (.iload 7, 2) := by decide +kernel
theorem dL_isLess_139 : decode cL_isLess 139 = .ok (.if_icmp .ge 16, 3) := by decide +kernel
theorem dL_isLess_142 : decode cL_isLess 142 = .ok (.aload_n 0, 1) := by decide +kernel
theorem dL_isLess_143 : decode cL_isLess 143 = .ok (.iload 6, 2) := by decide +kernel
theorem dL_isLess_145 : decode cL_isLess 145 = .ok (.iload 8, 2) := by decide +kernel
theorem dL_isLess_147 : decode cL_isLess 147 = .ok (.iadd, 1) := by decide +kernel
theorem dL_isLess_148 : decode cL_isLess 148 = .ok (.iaload, 1) := by decide +kernel
theorem dL_isLess_149 : decode cL_isLess 149 = .ok (.invokestatic 83, 3) := by decide +kernel
theorem dL_isLess_152 : decode cL_isLess 152 = .ok (.goto 4, 3) := by decide +kernel
theorem dL_isLess_155 : decode cL_isLess 155 = .ok (.iconst 0, 1) := by decide +kernel
theorem dL_isLess_156 : decode cL_isLess 156 = .ok (.istore 10, 2) := by decide +kernel
theorem dL_isLess_158 : decode cL_isLess 158 = .ok (.iload 9, 2) := by decide +kernel
theorem dL_isLess_160 : decode cL_isLess 160 = .ok (.iload 10, 2) := by decide +kernel
theorem dL_isLess_162 : decode cL_isLess 162 = .ok (.if_icmp .eq 16, 3) := by decide +kernel
theorem dL_isLess_165 : decode cL_isLess 165 = .ok (.iload 9, 2) := by decide +kernel
theorem dL_isLess_167 : decode cL_isLess 167 = .ok (.iload 10, 2) := by decide +kernel
theorem dL_isLess_169 : decode cL_isLess 169 = .ok (.if_icmp .ge 7, 3) := by decide +kernel
theorem dL_isLess_172 : decode cL_isLess 172 = .ok (.iconst 1, 1) := by decide +kernel
theorem dL_isLess_173 : decode cL_isLess 173 = .ok (.goto 4, 3) := by decide +kernel
theorem dL_isLess_176 : decode cL_isLess 176 = .ok (.iconst 0, 1) := by decide +kernel
theorem dL_isLess_177 : decode cL_isLess 177 = .ok (.ireturn, 1) := by decide +kernel
theorem dL_isLess_178 : decode cL_isLess 178 = .ok (.iinc 8 1, 3) := by decide +kernel
theorem dL_isLess_181 : decode cL_isLess 181 = .ok (.goto (-95), 3) := by decide +kernel
theorem dL_isLess_184 : decode cL_isLess 184 = .ok (.iconst 0, 1) := by decide +kernel
theorem dL_isLess_185 : decode cL_isLess 185 = .ok (.ireturn, 1) := by decide +kernel
theorem dL_operand_0 : decode cL_operand 0 = .ok (.aload_n 0, 1) := by decide +kernel
theorem dL_operand_1 : decode cL_operand 1 = .ok (.iload_n 1, 1) := by decide +kernel
theorem dL_operand_2 : decode cL_operand 2 = .ok (.laload, 1) := by decide +kernel
theorem dL_operand_3 : decode cL_operand 3 = .ok (.ldc2_w 86, 3) := by decide +kernel
theorem dL_operand_6 : decode cL_operand 6 = .ok (.ldiv, 1) := by decide +kernel
theorem dL_operand_7 : decode cL_operand 7 = .ok (.lstore_n 3, 1) := by decide +kernel
theorem dL_operand_8 : decode cL_operand 8 = .ok (.iload_n 2, 1) := by decide +kernel
theorem dL_operand_9 : decode cL_operand 9 = .ok (.ifCond .eq 11, 3) := by decide +kernel
theorem dL_operand_12 : decode cL_operand 12 = .ok (.lload_n 3, 1) := by decide +kernel
theorem dL_operand_13 : decode cL_operand 13 = .ok (.ldc2_w 88, 3) := by decide +kernel
theorem dL_operand_16 : decode cL_operand 16 = .ok (.ldiv, 1) := by decide +kernel
theorem dL_operand_17 : decode cL_operand 17 = .ok (.goto 8, 3) := by decide +kernel
theorem dL_operand_20 : decode cL_operand 20 = .ok (.lload_n 3, 1) := by decide +kernel
theorem dL_operand_21 : decode cL_operand 21 = .ok (.ldc2_w 88, 3) := by decide +kernel
theorem dL_operand_24 : decode cL_operand 24 = .ok (.lrem, 1) := by decide +kernel
theorem dL_operand_25 : decode cL_operand 25 = .ok (.l2i, 1) := by decide +kernel
theorem dL_operand_26 : decode cL_operand 26 = .ok (.bipush 30, 2) := by decide +kernel
theorem dL_operand_28 : decode cL_operand 28 = .ok (.isub, 1) := by decide +kernel
theorem dL_operand_29 : decode cL_operand 29 = .ok (.ireturn, 1) := by decide +kernel
set_option maxRecDepth 20000 in
theorem ggL_numberOf_L_fields : GoodIn wsL_numberOf wsL_fields := goodIn_r _ [4] (by decide +kernel) (by decide +kernel)
set_option maxRecDepth 20000 in
theorem gL_numberOf_L_fields : GoodIn wsL_numberOf (va_wsS RL 54 yL_fields wsL_fields) := goodIn_app (goodIn_of _ (by decide +kernel)) ggL_numberOf_L_fields
set_option maxRecDepth 20000 in
theorem ggL_numberOf_L_edge : GoodIn wsL_numberOf wsL_edge := goodIn_r _ [7, 1, 2, 3, 4] (by decide +kernel) (by decide +kernel)
set_option maxRecDepth 20000 in
theorem gL_numberOf_L_edge : GoodIn wsL_numberOf (va_wsS RL 68 yL_edge wsL_edge) := goodIn_app (goodIn_of _ (by decide +kernel)) ggL_numberOf_L_edge
set_option maxRecDepth 20000 in
theorem ggL_numberOf_L_number : GoodIn wsL_numberOf wsL_number := goodIn_r _ [10] (by decide +kernel) (by decide +kernel)
set_option maxRecDepth 20000 in
theorem gL_numberOf_L_number : GoodIn wsL_numberOf (va_wsS RL 80 yL_number wsL_number) := goodIn_app (goodIn_of _ (by decide +kernel)) ggL_numberOf_L_number
theorem dL_numberOf_0 : decode cL_numberOf 0 = .ok (.iload_n 2, 1) := by decide +kernel
theorem dL_numberOf_1 : decode cL_numberOf 1 = .ok (.ifCond .lt 7, 3) := by decide +kernel
theorem dL_numberOf_4 : decode cL_numberOf 4 = .ok (.iload_n 2, 1) := by decide +kernel
theorem dL_numberOf_5 : decode cL_numberOf 5 = .ok (.goto 51, 3) := by decide +kernel
theorem dL_numberOf_8 : decode cL_numberOf 8 = .ok (.iload_n 2, 1) := by decide +kernel
theorem dL_numberOf_9 : decode cL_numberOf 9 = .ok (.bipush (-20), 2) := by decide +kernel
theorem dL_numberOf_11 : decode cL_numberOf 11 = .ok (.if_icmp .ne 11, 3) := by decide +kernel
theorem dL_numberOf_14 : decode cL_numberOf 14 = .ok (.aload_n 0, 1) := by decide +kernel
theorem dL_numberOf_15 : decode cL_numberOf 15 = .ok (.aload_n 1, 1) := by decide +kernel
theorem dL_numberOf_16 : decode cL_numberOf 16 = .ok (.invokestatic 54, 3) := by decide +kernel
theorem dL_numberOf_19 : decode cL_numberOf 19 = .ok (.goto 37, 3) := by decide +kernel
theorem dL_numberOf_22 : decode cL_numberOf 22 = .ok (.iload_n 2, 1) := by decide +kernel
theorem dL_numberOf_23 : decode cL_numberOf 23 = .ok (.bipush (-21), 2) := by decide +kernel
theorem dL_numberOf_25 : decode cL_numberOf 25 = .ok (.if_icmp .ne 9, 3) := by decide +kernel
theorem dL_numberOf_28 : decode cL_numberOf 28 = .ok (.aload_n 1, 1) := by decide +kernel
theorem dL_numberOf_29 : decode cL_numberOf 29 = .ok (.iconst 1, 1) := by decide +kernel
theorem dL_numberOf_30 : decode cL_numberOf 30 = .ok (.iaload, 1) := by decide +kernel
theorem dL_numberOf_31 : decode cL_numberOf 31 = .ok (.goto 25, 3) := by decide +kernel
theorem dL_numberOf_34 : decode cL_numberOf 34 = .ok (.aload_n 0, 1) := by decide +kernel
theorem dL_numberOf_35 : decode cL_numberOf 35 = .ok (.aload_n 0, 1) := by decide +kernel
theorem dL_numberOf_36 : decode cL_numberOf 36 = .ok (.aload_n 1, 1) := by decide +kernel
theorem dL_numberOf_37 : decode cL_numberOf 37 = .ok (.iconst (-1), 1) := by decide +kernel
theorem dL_numberOf_38 : decode cL_numberOf 38 = .ok (.iload_n 2, 1) := by decide +kernel
theorem dL_numberOf_39 : decode cL_numberOf 39 = .ok (.isub, 1) := by decide +kernel
theorem dL_numberOf_40 : decode cL_numberOf 40 = .ok (.iconst 0, 1) := by decide +kernel
theorem dL_numberOf_41 : decode cL_numberOf 41 = .ok (.invokestatic 68, 3) := by decide +kernel
theorem dL_numberOf_44 : decode cL_numberOf 44 = .ok (.aload_n 0, 1) := by decide +kernel
theorem dL_numberOf_45 : decode cL_numberOf 45 = .ok (.aload_n 1, 1) := by decide +kernel
theorem dL_numberOf_46 : decode cL_numberOf 46 = .ok (.iconst (-1), 1) := by decide +kernel
theorem dL_numberOf_47 : decode cL_numberOf 47 = .ok (.iload_n 2, 1) := by decide +kernel
theorem dL_numberOf_48 : decode cL_numberOf 48 = .ok (.isub, 1) := by decide +kernel
theorem dL_numberOf_49 : decode cL_numberOf 49 = .ok (.iconst 1, 1) := by decide +kernel
theorem dL_numberOf_50 : decode cL_numberOf 50 = .ok (.invokestatic 68, 3) := by decide +kernel
theorem dL_numberOf_53 : decode cL_numberOf 53 = .ok (.invokestatic 80, 3) := by decide +kernel
theorem dL_numberOf_56 : decode cL_numberOf 56 = .ok (.ireturn, 1) := by decide +kernel
set_option maxRecDepth 20000 in
theorem ggL_texts_L_edge : GoodIn wsL_texts wsL_edge := goodIn_r _ [4, 5, 6, 3, 7] (by decide +kernel) (by decide +kernel)
set_option maxRecDepth 20000 in
theorem gL_texts_L_edge : GoodIn wsL_texts (va_wsS RL 68 yL_edge wsL_edge) := goodIn_app (goodIn_of _ (by decide +kernel)) ggL_texts_L_edge
set_option maxRecDepth 20000 in
theorem ggL_texts_L_copies : GoodIn wsL_texts wsL_copies := goodIn_r _ [10, 11, 12, 3, 13] (by decide +kernel) (by decide +kernel)
set_option maxRecDepth 20000 in
theorem gL_texts_L_copies : GoodIn wsL_texts (va_wsS RL 64 yL_copies wsL_copies) := goodIn_app (goodIn_of _ (by decide +kernel)) ggL_texts_L_copies
set_option maxRecDepth 20000 in
theorem ggL_texts_L_numberOf : GoodIn wsL_texts wsL_numberOf := goodIn_r _ [16, 5, 6, 3, 7, 1, 2, 4, 17, 18, 19] (by decide +kernel) (by decide +kernel)
set_option maxRecDepth 20000 in
theorem gL_texts_L_numberOf : GoodIn wsL_texts (va_wsS RL 90 yL_numberOf wsL_numberOf) := goodIn_app (goodIn_of _ (by decide +kernel)) ggL_texts_L_numberOf
set_option maxRecDepth 20000 in
theorem ggL_texts_L_writes : GoodIn wsL_texts wsL_writes := goodIn_r _ [22, 23, 24, 11, 12, 3, 13] (by decide +kernel) (by decide +kernel)
set_option maxRecDepth 20000 in
theorem gL_texts_L_writes : GoodIn wsL_texts (va_wsS RL 94 yL_writes wsL_writes) := goodIn_app (goodIn_of _ (by decide +kernel)) ggL_texts_L_writes
theorem dL_texts_0 : decode cL_texts 0 = .ok (.iload_n 2, 1) := by decide +kernel
theorem dL_texts_1 : decode cL_texts 1 = .ok (.ifCond .ge 35, 3) := by decide +kernel
theorem dL_texts_4 : decode cL_texts 4 = .ok (.iload_n 2, 1) := by decide +kernel
theorem dL_texts_5 : decode cL_texts 5 = .ok (.bipush (-14), 2) := by decide +kernel
theorem dL_texts_7 : decode cL_texts 7 = .ok (.if_icmp .le 29, 3) := by decide +kernel
theorem dL_texts_10 : decode cL_texts 10 = .ok (.aload_n 0, 1) := by decide +kernel
theorem dL_texts_11 : decode cL_texts 11 = .ok (.aload_n 0, 1) := by decide +kernel
theorem dL_texts_12 : decode cL_texts 12 = .ok (.aload_n 1, 1) := by decide +kernel
theorem dL_texts_13 : decode cL_texts 13 = .ok (.iconst (-1), 1) := by decide +kernel
theorem dL_texts_14 : decode cL_texts 14 = .ok (.iload_n 2, 1) := by decide +kernel
theorem dL_texts_15 : decode cL_texts 15 = .ok (.isub, 1) := by decide +kernel
theorem dL_texts_16 : decode cL_texts 16 = .ok (.iconst 0, 1) := by decide +kernel
theorem dL_texts_17 : decode cL_texts 17 = .ok (.invokestatic 68, 3) := by decide +kernel
theorem dL_texts_20 : decode cL_texts 20 = .ok (.aload_n 0, 1) := by decide +kernel
theorem dL_texts_21 : decode cL_texts 21 = .ok (.aload_n 1, 1) := by decide +kernel
theorem dL_texts_22 : decode cL_texts 22 = .ok (.iconst (-1), 1) := by decide +kernel
theorem dL_texts_23 : decode cL_texts 23 = .ok (.iload_n 2, 1) := by decide +kernel
theorem dL_texts_24 : decode cL_texts 24 = .ok (.isub, 1) := by decide +kernel
theorem dL_texts_25 : decode cL_texts 25 = .ok (.iconst 1, 1) := by decide +kernel
theorem dL_texts_26 : decode cL_texts 26 = .ok (.invokestatic 68, 3) := by decide +kernel
theorem dL_texts_29 : decode cL_texts 29 = .ok (.aload_n 3, 1) := by decide +kernel
theorem dL_texts_30 : decode cL_texts 30 = .ok (.invokestatic 64, 3) := by decide +kernel
theorem dL_texts_33 : decode cL_texts 33 = .ok (.goto 13, 3) := by decide +kernel
theorem dL_texts_36 : decode cL_texts 36 = .ok (.aload_n 3, 1) := by decide +kernel
theorem dL_texts_37 : decode cL_texts 37 = .ok (.aload_n 0, 1) := by decide +kernel
theorem dL_texts_38 : decode cL_texts 38 = .ok (.aload_n 1, 1) := by decide +kernel
theorem dL_texts_39 : decode cL_texts 39 = .ok (.iload_n 2, 1) := by decide +kernel
theorem dL_texts_40 : decode cL_texts 40 = .ok (.invokestatic 90, 3) := by decide +kernel
theorem dL_texts_43 : decode cL_texts 43 = .ok (.invokestatic 94, 3) := by decide +kernel
theorem dL_texts_46 : decode cL_texts 46 = .ok (.return_, 1) := by decide +kernel
theorem dL_fits_0 : decode cL_fits 0 = .ok (.aload_n 0, 1) := by decide +kernel
theorem dL_fits_1 : decode cL_fits 1 = .ok (.iconst 2, 1) := by decide +kernel
theorem dL_fits_2 : decode cL_fits 2 = .ok (.dup2, 1) := by decide +kernel
theorem dL_fits_3 : decode cL_fits 3 = .ok (.iaload, 1) := by decide +kernel
theorem dL_fits_4 : decode cL_fits 4 = .ok (.lload_n 1, 1) := by decide +kernel
theorem dL_fits_5 : decode cL_fits 5 = .ok (.lload_n 1, 1) := by decide +kernel
theorem dL_fits_6 : decode cL_fits 6 = .ok (.l2i, 1) := by decide +kernel
theorem dL_fits_7 : decode cL_fits 7 = .ok (.i2l, 1) := by decide +kernel
theorem dL_fits_8 : decode cL_fits 8 = .ok (.lcmp, 1) := by decide +kernel
theorem dL_fits_9 : decode cL_fits 9 = .ok (.ifCond .ne 7, 3) := by decide +kernel
theorem dL_fits_12 : decode cL_fits 12 = .ok (.iconst 0, 1) := by decide +kernel
theorem dL_fits_13 : decode cL_fits 13 = .ok (.goto 4, 3) := by decide +kernel
theorem dL_fits_16 : decode cL_fits 16 = .ok (.iconst 1, 1) := by decide +kernel
