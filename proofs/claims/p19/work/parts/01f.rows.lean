theorem dX11_rule_67 : decode cX11_rule 67 = .ok (.isub, 1) := by decide +kernel
theorem dX11_rule_68 : decode cX11_rule 68 = .ok (.ireturn, 1) := by decide +kernel
set_option maxRecDepth 20000 in
theorem ggX11_act_Jx4a65c_size_8abf5 : GoodIn wsX11_act wsJx4a65c_size_8abf5 := goodIn_r _ [16, 17, 162, 163, 164] (by decide +kernel) (by decide +kernel)
set_option maxRecDepth 20000 in
theorem gX11_act_Jx4a65c_size_8abf5 : GoodIn wsX11_act (wsV RX11 65 RJx4a65c yJx4a65c_size_8abf5 wsJx4a65c_size_8abf5) := goodIn_app (goodIn_of _ (by decide +kernel)) ggX11_act_Jx4a65c_size_8abf5
set_option maxRecDepth 20000 in
theorem ggX11_act_X11_isField : GoodIn wsX11_act wsX11_isField := goodIn_r _ [21] (by decide +kernel) (by decide +kernel)
set_option maxRecDepth 20000 in
theorem gX11_act_X11_isField : GoodIn wsX11_act (va_wsS RX11 88 yX11_isField wsX11_isField) := goodIn_app (goodIn_of _ (by decide +kernel)) ggX11_act_X11_isField
set_option maxRecDepth 20000 in
theorem ggX11_act_X11_isOperand : GoodIn wsX11_act wsX11_isOperand := goodIn_r _ [24, 25, 26, 20, 27] (by decide +kernel) (by decide +kernel)
set_option maxRecDepth 20000 in
theorem gX11_act_X11_isOperand : GoodIn wsX11_act (va_wsS RX11 94 yX11_isOperand wsX11_isOperand) := goodIn_app (goodIn_of _ (by decide +kernel)) ggX11_act_X11_isOperand
set_option maxRecDepth 20000 in
theorem ggX11_act_Jx4a65c_get_915e3 : GoodIn wsX11_act wsJx4a65c_get_915e3 := goodIn_r _ [31, 17, 32, 33, 34, 35, 36, 37, 38, 39, 40, 41, 42, 15, 43, 44, 162, 163, 164] (by decide +kernel) (by decide +kernel)
set_option maxRecDepth 20000 in
theorem gX11_act_Jx4a65c_get_915e3 : GoodIn wsX11_act (wsV RX11 99 RJx4a65c yJx4a65c_get_915e3 wsJx4a65c_get_915e3) := goodIn_app (goodIn_of _ (by decide +kernel)) ggX11_act_Jx4a65c_get_915e3
set_option maxRecDepth 20000 in
theorem ggX11_act_X11_treeOf : GoodIn wsX11_act wsX11_treeOf := goodIn_r _ [47, 48, 49, 50, 51, 52, 53, 54, 55, 56, 57, 58, 59, 60, 61, 62, 63, 64, 65, 66, 67, 68, 69, 70, 71, 72, 73, 74, 75, 76, 77, 78, 165, 166, 167, 168, 169, 170, 171] (by decide +kernel) (by decide +kernel)
set_option maxRecDepth 20000 in
theorem gX11_act_X11_treeOf : GoodIn wsX11_act (va_wsS RX11 110 yX11_treeOf wsX11_treeOf) := goodIn_app (goodIn_of _ (by decide +kernel)) ggX11_act_X11_treeOf
set_option maxRecDepth 20000 in
theorem ggX11_act_X11_codeOf : GoodIn wsX11_act wsX11_codeOf := goodIn_r _ [81, 82] (by decide +kernel) (by decide +kernel)
set_option maxRecDepth 20000 in
theorem gX11_act_X11_codeOf : GoodIn wsX11_act (va_wsS RX11 114 yX11_codeOf wsX11_codeOf) := goodIn_app (goodIn_of _ (by decide +kernel)) ggX11_act_X11_codeOf
set_option maxRecDepth 20000 in
theorem ggX11_act_X0_init : GoodIn wsX11_act wsX0_init := goodIn_r _ [85, 86, 62, 63, 87, 88, 89, 90, 158, 159, 160, 161] (by decide +kernel) (by decide +kernel)
set_option maxRecDepth 20000 in
theorem gX11_act_X0_init : GoodIn wsX11_act (wsX0_init) := ggX11_act_X0_init
set_option maxRecDepth 20000 in
theorem ggX11_act_Jx4a65c_add_9ea2d : GoodIn wsX11_act wsJx4a65c_add_9ea2d := goodIn_r _ [94, 95, 96, 44, 17, 97, 98, 99, 15, 100, 101, 102, 103, 104, 105, 106, 107, 108, 109, 110, 111, 112, 113, 114, 115, 116, 117, 118, 119, 120, 121, 122, 123, 124, 125, 126, 127, 128, 129, 130, 131, 132, 133, 134, 135, 136, 137, 138, 139, 140, 141, 142, 143, 162, 163, 164] (by decide +kernel) (by decide +kernel)
set_option maxRecDepth 20000 in
theorem gX11_act_Jx4a65c_add_9ea2d : GoodIn wsX11_act (wsV RX11 79 RJx4a65c yJx4a65c_add_9ea2d wsJx4a65c_add_9ea2d) := goodIn_app (goodIn_of _ (by decide +kernel)) ggX11_act_Jx4a65c_add_9ea2d
theorem dX11_act_0 : decode cX11_act 0 = .ok (.iload_n 1, 1) := by decide +kernel
theorem dX11_act_1 : decode cX11_act 1 = .ok (.ifCond .lt 14, 3) := by decide +kernel
theorem dX11_act_4 : decode cX11_act 4 = .ok (.iload_n 1, 1) := by decide +kernel
theorem dX11_act_5 : decode cX11_act 5 = .ok (.aload_n 0, 1) := by decide +kernel
theorem dX11_act_6 : decode cX11_act 6 = .ok (.getfield 12, 3) := by decide +kernel
theorem dX11_act_9 : decode cX11_act 9 = .ok (.invokevirtual 65, 3) := by decide +kernel
theorem dX11_act_12 : decode cX11_act 12 = .ok (.if_icmp .lt 13, 3) := by decide +kernel
theorem dX11_act_15 : decode cX11_act 15 = .ok (.new 83, 3) := by decide +kernel
theorem dX11_act_18 : decode cX11_act 18 = .ok (.dup, 1) := by decide +kernel
theorem dX11_act_19 : decode cX11_act 19 = .ok (.ldc 85, 2) := by decide +kernel
theorem dX11_act_21 : decode cX11_act 21 = .ok (.invokespecial 87, 3) := by decide +kernel
theorem dX11_act_24 : decode cX11_act 24 = .ok (.athrow, 1) := by decide +kernel
theorem dX11_act_25 : decode cX11_act 25 = .ok (.iload_n 2, 1) := by decide +kernel
theorem dX11_act_26 : decode cX11_act 26 = .ok (.ifCond .lt 15, 3) := by decide +kernel
theorem dX11_act_29 : decode cX11_act 29 = .ok (.iload_n 2, 1) := by decide +kernel
theorem dX11_act_30 : decode cX11_act 30 = .ok (.iconst 4, 1) := by decide +kernel
theorem dX11_act_31 : decode cX11_act 31 = .ok (.if_icmp .gt 10, 3) := by decide +kernel
theorem dX11_act_34 : decode cX11_act 34 = .ok (.iload_n 3, 1) := by decide +kernel
theorem dX11_act_35 : decode cX11_act 35 = .ok (.invokestatic 88, 3) := by decide +kernel
theorem dX11_act_38 : decode cX11_act 38 = .ok (.ifCond .ne 13, 3) := by decide +kernel
theorem dX11_act_41 : decode cX11_act 41 = .ok (.new 58, 3) := by decide +kernel
theorem dX11_act_44 : decode cX11_act 44 = .ok (.dup, 1) := by decide +kernel
theorem dX11_act_45 : decode cX11_act 45 = .ok (.ldc 92, 2) := by decide +kernel
theorem dX11_act_47 : decode cX11_act 47 = .ok (.invokespecial 62, 3) := by decide +kernel
theorem dX11_act_50 : decode cX11_act 50 = .ok (.athrow, 1) := by decide +kernel
theorem dX11_act_51 : decode cX11_act 51 = .ok (.iload 4, 2) := by decide +kernel
theorem dX11_act_53 : decode cX11_act 53 = .ok (.ifCond .lt 25, 3) := by decide +kernel
theorem dX11_act_56 : decode cX11_act 56 = .ok (.iload 4, 2) := by decide +kernel
theorem dX11_act_58 : decode cX11_act 58 = .ok (.iconst 4, 1) := by decide +kernel
theorem dX11_act_59 : decode cX11_act 59 = .ok (.if_icmp .gt 19, 3) := by decide +kernel
theorem dX11_act_62 : decode cX11_act 62 = .ok (.iload 5, 2) := by decide +kernel
theorem dX11_act_64 : decode cX11_act 64 = .ok (.invokestatic 94, 3) := by decide +kernel
theorem dX11_act_67 : decode cX11_act 67 = .ok (.ifCond .eq 11, 3) := by decide +kernel
theorem dX11_act_70 : decode cX11_act 70 = .ok (.iload 6, 2) := by decide +kernel
theorem dX11_act_72 : decode cX11_act 72 = .ok (.invokestatic 94, 3) := by decide +kernel
theorem dX11_act_75 : decode cX11_act 75 = .ok (.ifCond .ne 13, 3) := by decide +kernel
theorem dX11_act_78 : decode cX11_act 78 = .ok (.new 58, 3) := by decide +kernel
theorem dX11_act_81 : decode cX11_act 81 = .ok (.dup, 1) := by decide +kernel
theorem dX11_act_82 : decode cX11_act 82 = .ok (.ldc 97, 2) := by decide +kernel
theorem dX11_act_84 : decode cX11_act 84 = .ok (.invokespecial 62, 3) := by decide +kernel
theorem dX11_act_87 : decode cX11_act 87 = .ok (.athrow, 1) := by decide +kernel
theorem dX11_act_88 : decode cX11_act 88 = .ok (.aload_n 0, 1) := by decide +kernel
theorem dX11_act_89 : decode cX11_act 89 = .ok (.getfield 12, 3) := by decide +kernel
theorem dX11_act_92 : decode cX11_act 92 = .ok (.iload_n 1, 1) := by decide +kernel
theorem dX11_act_93 : decode cX11_act 93 = .ok (.invokevirtual 99, 3) := by decide +kernel
theorem dX11_act_96 : decode cX11_act 96 = .ok (.checkcast 74, 3) := by decide +kernel
theorem dX11_act_99 : decode cX11_act 99 = .ok (.getfield 103, 3) := by decide +kernel
theorem dX11_act_102 : decode cX11_act 102 = .ok (.astore 7, 2) := by decide +kernel
theorem dX11_act_104 : decode cX11_act 104 = .ok (.aload 7, 2) := by decide +kernel
theorem dX11_act_106 : decode cX11_act 106 = .ok (.invokevirtual 65, 3) := by decide +kernel
theorem dX11_act_109 : decode cX11_act 109 = .ok (.bipush 6, 2) := by decide +kernel
theorem dX11_act_111 : decode cX11_act 111 = .ok (.if_icmp .lt 13, 3) := by decide +kernel
theorem dX11_act_114 : decode cX11_act 114 = .ok (.new 69, 3) := by decide +kernel
theorem dX11_act_117 : decode cX11_act 117 = .ok (.dup, 1) := by decide +kernel
theorem dX11_act_118 : decode cX11_act 118 = .ok (.ldc 106, 2) := by decide +kernel
theorem dX11_act_120 : decode cX11_act 120 = .ok (.invokespecial 73, 3) := by decide +kernel
theorem dX11_act_123 : decode cX11_act 123 = .ok (.athrow, 1) := by decide +kernel
theorem dX11_act_124 : decode cX11_act 124 = .ok (.aload 7, 2) := by decide +kernel
theorem dX11_act_126 : decode cX11_act 126 = .ok (.new 108, 3) := by decide +kernel
theorem dX11_act_129 : decode cX11_act 129 = .ok (.dup, 1) := by decide +kernel
theorem dX11_act_130 : decode cX11_act 130 = .ok (.iload_n 2, 1) := by decide +kernel
theorem dX11_act_131 : decode cX11_act 131 = .ok (.iload_n 3, 1) := by decide +kernel
theorem dX11_act_132 : decode cX11_act 132 = .ok (.iload 4, 2) := by decide +kernel
theorem dX11_act_134 : decode cX11_act 134 = .ok (.iload 5, 2) := by decide +kernel
theorem dX11_act_136 : decode cX11_act 136 = .ok (.iload 6, 2) := by decide +kernel
theorem dX11_act_138 : decode cX11_act 138 = .ok (.invokestatic 110, 3) := by decide +kernel
theorem dX11_act_141 : decode cX11_act 141 = .ok (.iload 4, 2) := by decide +kernel
theorem dX11_act_143 : decode cX11_act 143 = .ok (.iload 5, 2) := by decide +kernel
theorem dX11_act_145 : decode cX11_act 145 = .ok (.iload 6, 2) := by decide +kernel
theorem dX11_act_147 : decode cX11_act 147 = .ok (.invokestatic 114, 3) := by decide +kernel
theorem dX11_act_150 : decode cX11_act 150 = .ok (.invokespecial 118, 3) := by decide +kernel
theorem dX11_act_153 : decode cX11_act 153 = .ok (.invokevirtual 79, 3) := by decide +kernel
theorem dX11_act_156 : decode cX11_act 156 = .ok (.pop, 1) := by decide +kernel
theorem dX11_act_157 : decode cX11_act 157 = .ok (.aload 7, 2) := by decide +kernel
theorem dX11_act_159 : decode cX11_act 159 = .ok (.invokevirtual 65, 3) := by decide +kernel
theorem dX11_act_162 : decode cX11_act 162 = .ok (.ireturn, 1) := by decide +kernel
theorem dX11_useStack_0 : decode cX11_useStack 0 = .ok (.aload_n 0, 1) := by decide +kernel
theorem dX11_useStack_1 : decode cX11_useStack 1 = .ok (.iload_n 1, 1) := by decide +kernel
theorem dX11_useStack_2 : decode cX11_useStack 2 = .ok (.putfield 121, 3) := by decide +kernel
theorem dX11_useStack_5 : decode cX11_useStack 5 = .ok (.return_, 1) := by decide +kernel
set_option maxRecDepth 20000 in
theorem ggX11_setSeparator_X11_requireCode : GoodIn wsX11_setSeparator wsX11_requireCode := goodIn_ca (goodIn_r _ [5, 6, 7] (by decide +kernel) (by decide +kernel)) (goodIn_sub (fun _ h => List.mem_cons_of_mem _ (List.mem_append_right _ h)) (by decide +kernel))
set_option maxRecDepth 20000 in
theorem gX11_setSeparator_X11_requireCode : GoodIn wsX11_setSeparator (va_wsS RX11 125 yX11_requireCode wsX11_requireCode) := goodIn_app (goodIn_of _ (by decide +kernel)) ggX11_setSeparator_X11_requireCode
set_option maxRecDepth 20000 in
theorem ggX11_setSeparator_X11_signOf : GoodIn wsX11_setSeparator wsX11_signOf := goodIn_r _ [10] (by decide +kernel) (by decide +kernel)
set_option maxRecDepth 20000 in
theorem gX11_setSeparator_X11_signOf : GoodIn wsX11_setSeparator (va_wsS RX11 129 yX11_signOf wsX11_signOf) := goodIn_app (goodIn_of _ (by decide +kernel)) ggX11_setSeparator_X11_signOf
set_option maxRecDepth 20000 in
theorem ggX11_setSeparator_X4_cut : GoodIn wsX11_setSeparator wsX4_cut := goodIn_r _ [15, 16, 17, 18, 19, 20, 21, 22, 23, 24, 25, 26, 27, 28, 29, 30, 31, 32, 33, 14, 34, 35, 36, 37, 38, 48, 49, 50, 51, 52, 53, 54] (by decide +kernel) (by decide +kernel)
set_option maxRecDepth 20000 in
theorem gX11_setSeparator_X4_cut : GoodIn wsX11_setSeparator (wsV RX11 137 RX4 yX4_cut wsX4_cut) := goodIn_app (goodIn_of _ (by decide +kernel)) ggX11_setSeparator_X4_cut
theorem dX11_setSeparator_0 : decode cX11_setSeparator 0 = .ok (.iload_n 1, 1) := by decide +kernel
theorem dX11_setSeparator_1 : decode cX11_setSeparator 1 = .ok (.invokestatic 125, 3) := by decide +kernel
theorem dX11_setSeparator_4 : decode cX11_setSeparator 4 = .ok (.aload_n 0, 1) := by decide +kernel
theorem dX11_setSeparator_5 : decode cX11_setSeparator 5 = .ok (.getfield 19, 3) := by decide +kernel
theorem dX11_setSeparator_8 : decode cX11_setSeparator 8 = .ok (.iload_n 1, 1) := by decide +kernel
theorem dX11_setSeparator_9 : decode cX11_setSeparator 9 = .ok (.invokestatic 129, 3) := by decide +kernel
theorem dX11_setSeparator_12 : decode cX11_setSeparator 12 = .ok (.putfield 133, 3) := by decide +kernel
theorem dX11_setSeparator_15 : decode cX11_setSeparator 15 = .ok (.aload_n 0, 1) := by decide +kernel
theorem dX11_setSeparator_16 : decode cX11_setSeparator 16 = .ok (.getfield 19, 3) := by decide +kernel
theorem dX11_setSeparator_19 : decode cX11_setSeparator 19 = .ok (.invokevirtual 137, 3) := by decide +kernel
theorem dX11_setSeparator_22 : decode cX11_setSeparator 22 = .ok (.aload_n 0, 1) := by decide +kernel
theorem dX11_setSeparator_23 : decode cX11_setSeparator 23 = .ok (.getfield 19, 3) := by decide +kernel
theorem dX11_setSeparator_26 : decode cX11_setSeparator 26 = .ok (.getfield 140, 3) := by decide +kernel
theorem dX11_setSeparator_29 : decode cX11_setSeparator 29 = .ok (.ireturn, 1) := by decide +kernel
set_option maxRecDepth 20000 in
theorem ggX11_type_X11_requireCode : GoodIn wsX11_type wsX11_requireCode := goodIn_ca (goodIn_r _ [7, 8, 9] (by decide +kernel) (by decide +kernel)) (goodIn_sub (fun _ h => List.mem_cons_of_mem _ (List.mem_append_right _ h)) (by decide +kernel))
set_option maxRecDepth 20000 in
theorem gX11_type_X11_requireCode : GoodIn wsX11_type (va_wsS RX11 125 yX11_requireCode wsX11_requireCode) := goodIn_app (goodIn_of _ (by decide +kernel)) ggX11_type_X11_requireCode
set_option maxRecDepth 20000 in
theorem ggX11_type_X11_signOf : GoodIn wsX11_type wsX11_signOf := goodIn_r _ [12] (by decide +kernel) (by decide +kernel)
set_option maxRecDepth 20000 in
theorem gX11_type_X11_signOf : GoodIn wsX11_type (va_wsS RX11 129 yX11_signOf wsX11_signOf) := goodIn_app (goodIn_of _ (by decide +kernel)) ggX11_type_X11_signOf
set_option maxRecDepth 20000 in
theorem ggX11_type_X10_put : GoodIn wsX11_type wsX10_put := goodIn_r _ [17, 18, 19, 29, 30] (by decide +kernel) (by decide +kernel)
set_option maxRecDepth 20000 in
theorem gX11_type_X10_put : GoodIn wsX11_type (wsV RX11 149 RX10 yX10_put wsX10_put) := goodIn_app (goodIn_of _ (by decide +kernel)) ggX11_type_X10_put
theorem dX11_type_0 : decode cX11_type 0 = .ok (.iload_n 1, 1) := by decide +kernel
theorem dX11_type_1 : decode cX11_type 1 = .ok (.invokestatic 125, 3) := by decide +kernel
theorem dX11_type_4 : decode cX11_type 4 = .ok (.aload_n 0, 1) := by decide +kernel
theorem dX11_type_5 : decode cX11_type 5 = .ok (.getfield 47, 3) := by decide +kernel
theorem dX11_type_8 : decode cX11_type 8 = .ok (.getfield 144, 3) := by decide +kernel
theorem dX11_type_11 : decode cX11_type 11 = .ok (.bipush 60, 2) := by decide +kernel
theorem dX11_type_13 : decode cX11_type 13 = .ok (.if_icmp .lt 13, 3) := by decide +kernel
theorem dX11_type_16 : decode cX11_type 16 = .ok (.new 69, 3) := by decide +kernel
theorem dX11_type_19 : decode cX11_type 19 = .ok (.dup, 1) := by decide +kernel
theorem dX11_type_20 : decode cX11_type 20 = .ok (.ldc 147, 2) := by decide +kernel
theorem dX11_type_22 : decode cX11_type 22 = .ok (.invokespecial 73, 3) := by decide +kernel
theorem dX11_type_25 : decode cX11_type 25 = .ok (.athrow, 1) := by decide +kernel
theorem dX11_type_26 : decode cX11_type 26 = .ok (.aload_n 0, 1) := by decide +kernel
theorem dX11_type_27 : decode cX11_type 27 = .ok (.getfield 47, 3) := by decide +kernel
theorem dX11_type_30 : decode cX11_type 30 = .ok (.iload_n 1, 1) := by decide +kernel
theorem dX11_type_31 : decode cX11_type 31 = .ok (.invokestatic 129, 3) := by decide +kernel
theorem dX11_type_34 : decode cX11_type 34 = .ok (.invokevirtual 149, 3) := by decide +kernel
theorem dX11_type_37 : decode cX11_type 37 = .ok (.aload_n 0, 1) := by decide +kernel
theorem dX11_type_38 : decode cX11_type 38 = .ok (.getfield 47, 3) := by decide +kernel
theorem dX11_type_41 : decode cX11_type 41 = .ok (.getfield 144, 3) := by decide +kernel
theorem dX11_type_44 : decode cX11_type 44 = .ok (.ireturn, 1) := by decide +kernel
set_option maxRecDepth 20000 in
theorem ggX11_end_X4_set : GoodIn wsX11_end wsX4_set := goodIn_r _ [9, 10, 11, 12, 13, 14, 15, 16, 17, 8, 18, 19, 20, 21, 22, 23, 24, 25, 26, 27, 28, 29, 30, 31, 32, 33, 34, 35, 36, 37, 38, 39, 40, 41, 42, 43, 44, 45, 46, 47, 48, 49, 50, 51, 52, 53, 232, 233, 234, 235, 236, 242, 243] (by decide +kernel) (by decide +kernel)
set_option maxRecDepth 20000 in
theorem gX11_end_X4_set : GoodIn wsX11_end (wsV RX11 156 RX4 yX4_set wsX4_set) := goodIn_app (goodIn_of _ (by decide +kernel)) ggX11_end_X4_set
set_option maxRecDepth 20000 in
theorem ggX11_end_X10_clear : GoodIn wsX11_end wsX10_clear := goodIn_r _ [36, 26, 242, 243] (by decide +kernel) (by decide +kernel)
set_option maxRecDepth 20000 in
theorem gX11_end_X10_clear : GoodIn wsX11_end (wsV RX11 160 RX10 yX10_clear wsX10_clear) := goodIn_app (goodIn_of _ (by decide +kernel)) ggX11_end_X10_clear
set_option maxRecDepth 20000 in
theorem ggX11_end_Jx4a65c_size_8abf5 : GoodIn wsX11_end wsJx4a65c_size_8abf5 := goodIn_r _ [59, 60, 244, 245, 246] (by decide +kernel) (by decide +kernel)
set_option maxRecDepth 20000 in
theorem gX11_end_Jx4a65c_size_8abf5 : GoodIn wsX11_end (wsV RX11 65 RJx4a65c yJx4a65c_size_8abf5 wsJx4a65c_size_8abf5) := goodIn_app (goodIn_of _ (by decide +kernel)) ggX11_end_Jx4a65c_size_8abf5
set_option maxRecDepth 20000 in
theorem ggX11_end_Jx4a65c_get_915e3 : GoodIn wsX11_end wsJx4a65c_get_915e3 := goodIn_r _ [64, 60, 65, 66, 67, 68, 69, 70, 71, 72, 73, 74, 75, 58, 76, 77, 244, 245, 246] (by decide +kernel) (by decide +kernel)
set_option maxRecDepth 20000 in
theorem gX11_end_Jx4a65c_get_915e3 : GoodIn wsX11_end (wsV RX11 99 RJx4a65c yJx4a65c_get_915e3 wsJx4a65c_get_915e3) := goodIn_app (goodIn_of _ (by decide +kernel)) ggX11_end_Jx4a65c_get_915e3
set_option maxRecDepth 20000 in
theorem ggX11_end_X7_isTrue : GoodIn wsX11_end wsX7_isTrue := goodIn_r _ [82, 83, 84, 85, 86, 16, 17, 8, 18, 19, 20, 87, 88, 89, 24, 90, 91, 92, 93, 94, 26, 95, 96, 97, 98, 27, 99, 100, 101, 102, 103, 51, 52, 53, 104, 105, 106, 107, 108, 109, 110, 111, 112, 113, 114, 115, 116, 117, 81, 118, 119, 237, 238, 239, 240, 241, 232, 233, 234, 235, 236, 242, 243] (by decide +kernel) (by decide +kernel)
set_option maxRecDepth 20000 in
theorem gX11_end_X7_isTrue : GoodIn wsX11_end (wsV RX11 163 RX7 yX7_isTrue wsX7_isTrue) := goodIn_app (goodIn_of _ (by decide +kernel)) ggX11_end_X7_isTrue
set_option maxRecDepth 20000 in
theorem ggX11_end_X11_performAll : GoodIn wsX11_end wsX11_performAll := goodIn_r _ [123, 124, 55, 56, 57, 58, 59, 60, 61, 62, 63, 64, 65, 66, 67, 68, 69, 70, 71, 72, 73, 74, 75, 76, 77, 125, 126, 127, 113, 128, 1, 129, 130, 131, 132, 133, 134, 135, 16, 17, 8, 18, 19, 20, 136, 137, 138, 139, 140, 141, 142, 143, 144, 145, 146, 147, 148, 149, 150, 151, 152, 153, 24, 154, 26, 108, 109, 110, 111, 27, 155, 156, 157, 158, 159, 160, 161, 162, 163, 164, 10, 165, 166, 167, 168, 169, 170, 171, 172, 15, 21, 22, 23, 25, 173, 174, 175, 42, 43, 44, 45, 38, 39, 40, 176, 100, 101, 102, 95, 96, 97, 98, 103, 51, 52, 53, 177, 178, 179, 180, 181, 182, 183, 184, 185, 186, 187, 188, 189, 190, 191, 192, 193, 194, 195, 196, 197, 198, 199, 200, 201, 202, 203, 204, 5, 6, 7, 9, 11, 12, 13, 14, 28, 29, 30, 31, 32, 33, 34, 35, 36, 37, 41, 46, 47, 48, 49, 50, 205, 206, 207, 208, 209, 210, 211, 212, 213, 214, 215, 216, 217, 218, 219, 220, 221, 222, 244, 245, 246, 247, 248, 249, 250, 223, 224, 225, 226, 227, 228, 229, 230, 231, 232, 233, 234, 235, 236, 251, 252, 253, 254, 242, 243, 255, 256, 257, 258, 259, 260, 261, 262, 263] (by decide +kernel) (by decide +kernel)
set_option maxRecDepth 20000 in
theorem gX11_end_X11_performAll : GoodIn wsX11_end (wsV RX11 167 RX11 yX11_performAll wsX11_performAll) := goodIn_app (goodIn_of _ (by decide +kernel)) ggX11_end_X11_performAll
theorem dX11_end_0 : decode cX11_end 0 = .ok (.aload_n 0, 1) := by decide +kernel
theorem dX11_end_1 : decode cX11_end 1 = .ok (.getfield 19, 3) := by decide +kernel
theorem dX11_end_4 : decode cX11_end 4 = .ok (.dup, 1) := by decide +kernel
theorem dX11_end_5 : decode cX11_end 5 = .ok (.getfield 153, 3) := by decide +kernel
theorem dX11_end_8 : decode cX11_end 8 = .ok (.iconst 1, 1) := by decide +kernel
theorem dX11_end_9 : decode cX11_end 9 = .ok (.iadd, 1) := by decide +kernel
theorem dX11_end_10 : decode cX11_end 10 = .ok (.putfield 153, 3) := by decide +kernel
theorem dX11_end_13 : decode cX11_end 13 = .ok (.aload_n 0, 1) := by decide +kernel
theorem dX11_end_14 : decode cX11_end 14 = .ok (.getfield 19, 3) := by decide +kernel
theorem dX11_end_17 : decode cX11_end 17 = .ok (.iconst 0, 1) := by decide +kernel
theorem dX11_end_18 : decode cX11_end 18 = .ok (.aload_n 0, 1) := by decide +kernel
theorem dX11_end_19 : decode cX11_end 19 = .ok (.getfield 47, 3) := by decide +kernel
theorem dX11_end_22 : decode cX11_end 22 = .ok (.invokevirtual 156, 3) := by decide +kernel
theorem dX11_end_25 : decode cX11_end 25 = .ok (.aload_n 0, 1) := by decide +kernel
theorem dX11_end_26 : decode cX11_end 26 = .ok (.getfield 47, 3) := by decide +kernel
theorem dX11_end_29 : decode cX11_end 29 = .ok (.invokevirtual 160, 3) := by decide +kernel
theorem dX11_end_32 : decode cX11_end 32 = .ok (.iconst 0, 1) := by decide +kernel
theorem dX11_end_33 : decode cX11_end 33 = .ok (.istore_n 1, 1) := by decide +kernel
theorem dX11_end_34 : decode cX11_end 34 = .ok (.iconst 1, 1) := by decide +kernel
theorem dX11_end_35 : decode cX11_end 35 = .ok (.istore_n 2, 1) := by decide +kernel
theorem dX11_end_36 : decode cX11_end 36 = .ok (.iconst 0, 1) := by decide +kernel
theorem dX11_end_37 : decode cX11_end 37 = .ok (.istore_n 3, 1) := by decide +kernel
theorem dX11_end_38 : decode cX11_end 38 = .ok (.iload_n 2, 1) := by decide +kernel
theorem dX11_end_39 : decode cX11_end 39 = .ok (.ifCond .eq 61, 3) := by decide +kernel
theorem dX11_end_42 : decode cX11_end 42 = .ok (.iload_n 3, 1) := by decide +kernel
theorem dX11_end_43 : decode cX11_end 43 = .ok (.aload_n 0, 1) := by decide +kernel
theorem dX11_end_44 : decode cX11_end 44 = .ok (.getfield 12, 3) := by decide +kernel
theorem dX11_end_47 : decode cX11_end 47 = .ok (.invokevirtual 65, 3) := by decide +kernel
theorem dX11_end_50 : decode cX11_end 50 = .ok (.if_icmp .ge 50, 3) := by decide +kernel
theorem dX11_end_53 : decode cX11_end 53 = .ok (.aload_n 0, 1) := by decide +kernel
theorem dX11_end_54 : decode cX11_end 54 = .ok (.getfield 12, 3) := by decide +kernel
theorem dX11_end_57 : decode cX11_end 57 = .ok (.iload_n 3, 1) := by decide +kernel
theorem dX11_end_58 : decode cX11_end 58 = .ok (.invokevirtual 99, 3) := by decide +kernel
theorem dX11_end_61 : decode cX11_end 61 = .ok (.checkcast 74, 3) := by decide +kernel
theorem dX11_end_64 : decode cX11_end 64 = .ok (.astore 4, 2) := by decide +kernel
theorem dX11_end_66 : decode cX11_end 66 = .ok (.aload 4, 2) := by decide +kernel
theorem dX11_end_68 : decode cX11_end 68 = .ok (.aload_n 0, 1) := by decide +kernel
theorem dX11_end_69 : decode cX11_end 69 = .ok (.getfield 19, 3) := by decide +kernel
theorem dX11_end_72 : decode cX11_end 72 = .ok (.invokevirtual 163, 3) := by decide +kernel
theorem dX11_end_75 : decode cX11_end 75 = .ok (.ifCond .eq 19, 3) := by decide +kernel
theorem dX11_end_78 : decode cX11_end 78 = .ok (.iload_n 1, 1) := by decide +kernel
theorem dX11_end_79 : decode cX11_end 79 = .ok (.iconst 1, 1) := by decide +kernel
theorem dX11_end_80 : decode cX11_end 80 = .ok (.iload_n 3, 1) := by decide +kernel
theorem dX11_end_81 : decode cX11_end 81 = .ok (.ishl, 1) := by decide +kernel
theorem dX11_end_82 : decode cX11_end 82 = .ok (.ior, 1) := by decide +kernel
theorem dX11_end_83 : decode cX11_end 83 = .ok (.istore_n 1, 1) := by decide +kernel
theorem dX11_end_84 : decode cX11_end 84 = .ok (.aload_n 0, 1) := by decide +kernel
theorem dX11_end_85 : decode cX11_end 85 = .ok (.aload 4, 2) := by decide +kernel
theorem dX11_end_87 : decode cX11_end 87 = .ok (.getfield 103, 3) := by decide +kernel
theorem dX11_end_90 : decode cX11_end 90 = .ok (.invokevirtual 167, 3) := by decide +kernel
theorem dX11_end_93 : decode cX11_end 93 = .ok (.istore_n 2, 1) := by decide +kernel
theorem dX11_end_94 : decode cX11_end 94 = .ok (.iinc 3 1, 3) := by decide +kernel
theorem dX11_end_97 : decode cX11_end 97 = .ok (.goto (-59), 3) := by decide +kernel
theorem dX11_end_100 : decode cX11_end 100 = .ok (.iload_n 1, 1) := by decide +kernel
theorem dX11_end_101 : decode cX11_end 101 = .ok (.ireturn, 1) := by decide +kernel
set_option maxRecDepth 20000 in
theorem ggX11_setField_X11_requireField : GoodIn wsX11_setField wsX11_requireField := goodIn_ca (goodIn_r _ [6, 7, 8, 9, 10, 5, 11] (by decide +kernel) (by decide +kernel)) (goodIn_sub (fun _ h => List.mem_cons_of_mem _ (List.mem_append_right _ h)) (by decide +kernel))
set_option maxRecDepth 20000 in
theorem gX11_setField_X11_requireField : GoodIn wsX11_setField (va_wsS RX11 171 yX11_requireField wsX11_requireField) := goodIn_app (goodIn_of _ (by decide +kernel)) ggX11_setField_X11_requireField
set_option maxRecDepth 20000 in
theorem ggX11_setField_X10_write : GoodIn wsX11_setField wsX10_write := goodIn_r _ [16, 17, 18, 19, 20, 21, 82, 83] (by decide +kernel) (by decide +kernel)
set_option maxRecDepth 20000 in
theorem gX11_setField_X10_write : GoodIn wsX11_setField (wsV RX11 174 RX10 yX10_write wsX10_write) := goodIn_app (goodIn_of _ (by decide +kernel)) ggX11_setField_X10_write
set_option maxRecDepth 20000 in
theorem ggX11_setField_X4_set : GoodIn wsX11_setField wsX4_set := goodIn_r _ [26, 27, 28, 29, 30, 31, 32, 33, 34, 25, 35, 36, 37, 38, 39, 40, 15, 41, 17, 18, 42, 43, 44, 45, 46, 47, 48, 49, 50, 51, 52, 53, 54, 55, 56, 57, 58, 59, 60, 61, 62, 63, 64, 65, 66, 67, 77, 78, 79, 80, 81, 82, 83] (by decide +kernel) (by decide +kernel)
set_option maxRecDepth 20000 in
theorem gX11_setField_X4_set : GoodIn wsX11_setField (wsV RX11 156 RX4 yX4_set wsX4_set) := goodIn_app (goodIn_of _ (by decide +kernel)) ggX11_setField_X4_set
theorem dX11_setField_0 : decode cX11_setField 0 = .ok (.iload_n 1, 1) := by decide +kernel
theorem dX11_setField_1 : decode cX11_setField 1 = .ok (.invokestatic 171, 3) := by decide +kernel
theorem dX11_setField_4 : decode cX11_setField 4 = .ok (.aload_n 0, 1) := by decide +kernel
theorem dX11_setField_5 : decode cX11_setField 5 = .ok (.getfield 51, 3) := by decide +kernel
theorem dX11_setField_8 : decode cX11_setField 8 = .ok (.iload_n 2, 1) := by decide +kernel
theorem dX11_setField_9 : decode cX11_setField 9 = .ok (.invokevirtual 174, 3) := by decide +kernel
theorem dX11_setField_12 : decode cX11_setField 12 = .ok (.aload_n 0, 1) := by decide +kernel
theorem dX11_setField_13 : decode cX11_setField 13 = .ok (.getfield 19, 3) := by decide +kernel
theorem dX11_setField_16 : decode cX11_setField 16 = .ok (.iload_n 1, 1) := by decide +kernel
theorem dX11_setField_17 : decode cX11_setField 17 = .ok (.aload_n 0, 1) := by decide +kernel
theorem dX11_setField_18 : decode cX11_setField 18 = .ok (.getfield 51, 3) := by decide +kernel
theorem dX11_setField_21 : decode cX11_setField 21 = .ok (.invokevirtual 156, 3) := by decide +kernel
theorem dX11_setField_24 : decode cX11_setField 24 = .ok (.aload_n 0, 1) := by decide +kernel
theorem dX11_setField_25 : decode cX11_setField 25 = .ok (.getfield 19, 3) := by decide +kernel
theorem dX11_setField_28 : decode cX11_setField 28 = .ok (.getfield 140, 3) := by decide +kernel
theorem dX11_setField_31 : decode cX11_setField 31 = .ok (.ireturn, 1) := by decide +kernel
theorem dX11_fields_0 : decode cX11_fields 0 = .ok (.aload_n 0, 1) := by decide +kernel
theorem dX11_fields_1 : decode cX11_fields 1 = .ok (.getfield 19, 3) := by decide +kernel
theorem dX11_fields_4 : decode cX11_fields 4 = .ok (.getfield 140, 3) := by decide +kernel
theorem dX11_fields_7 : decode cX11_fields 7 = .ok (.ireturn, 1) := by decide +kernel
set_option maxRecDepth 20000 in
theorem ggX11_number_X11_requireField : GoodIn wsX11_number wsX11_requireField := goodIn_ca (goodIn_r _ [5, 6, 7, 8, 9, 4, 10] (by decide +kernel) (by decide +kernel)) (goodIn_sub (fun _ h => List.mem_cons_of_mem _ (List.mem_append_right _ h)) (by decide +kernel))
set_option maxRecDepth 20000 in
theorem gX11_number_X11_requireField : GoodIn wsX11_number (va_wsS RX11 171 yX11_requireField wsX11_requireField) := goodIn_app (goodIn_of _ (by decide +kernel)) ggX11_number_X11_requireField
set_option maxRecDepth 20000 in
theorem ggX11_number_X4_get : GoodIn wsX11_number wsX4_get := goodIn_r _ [15, 16, 17, 42, 43, 44, 45, 46] (by decide +kernel) (by decide +kernel)
set_option maxRecDepth 20000 in
theorem gX11_number_X4_get : GoodIn wsX11_number (wsV RX11 177 RX4 yX4_get wsX4_get) := goodIn_app (goodIn_of _ (by decide +kernel)) ggX11_number_X4_get
set_option maxRecDepth 20000 in
theorem ggX11_number_X10_asNumber : GoodIn wsX11_number wsX10_asNumber := goodIn_r _ [22, 23, 24, 25, 26, 21, 27, 28, 29, 30, 31, 32, 47, 48] (by decide +kernel) (by decide +kernel)
set_option maxRecDepth 20000 in
theorem gX11_number_X10_asNumber : GoodIn wsX11_number (wsV RX11 180 RX10 yX10_asNumber wsX10_asNumber) := goodIn_app (goodIn_of _ (by decide +kernel)) ggX11_number_X10_asNumber
theorem dX11_number_0 : decode cX11_number 0 = .ok (.iload_n 1, 1) := by decide +kernel
theorem dX11_number_1 : decode cX11_number 1 = .ok (.invokestatic 171, 3) := by decide +kernel
theorem dX11_number_4 : decode cX11_number 4 = .ok (.aload_n 0, 1) := by decide +kernel
theorem dX11_number_5 : decode cX11_number 5 = .ok (.getfield 19, 3) := by decide +kernel
theorem dX11_number_8 : decode cX11_number 8 = .ok (.iload_n 1, 1) := by decide +kernel
theorem dX11_number_9 : decode cX11_number 9 = .ok (.invokevirtual 177, 3) := by decide +kernel
theorem dX11_number_12 : decode cX11_number 12 = .ok (.invokevirtual 180, 3) := by decide +kernel
theorem dX11_number_15 : decode cX11_number 15 = .ok (.ireturn, 1) := by decide +kernel
set_option maxRecDepth 20000 in
theorem ggX11_character_X11_requireField : GoodIn wsX11_character wsX11_requireField := goodIn_ca (goodIn_r _ [5, 6, 7, 8, 9, 4, 10] (by decide +kernel) (by decide +kernel)) (goodIn_sub (fun _ h => List.mem_cons_of_mem _ (List.mem_append_right _ h)) (by decide +kernel))
set_option maxRecDepth 20000 in
theorem gX11_character_X11_requireField : GoodIn wsX11_character (va_wsS RX11 171 yX11_requireField wsX11_requireField) := goodIn_app (goodIn_of _ (by decide +kernel)) ggX11_character_X11_requireField
set_option maxRecDepth 20000 in
theorem ggX11_character_X4_get : GoodIn wsX11_character wsX4_get := goodIn_r _ [15, 16, 17, 40, 41, 42, 43, 44] (by decide +kernel) (by decide +kernel)
set_option maxRecDepth 20000 in
theorem gX11_character_X4_get : GoodIn wsX11_character (wsV RX11 177 RX4 yX4_get wsX4_get) := goodIn_app (goodIn_of _ (by decide +kernel)) ggX11_character_X4_get
set_option maxRecDepth 20000 in
theorem ggX11_character_X11_signAt : GoodIn wsX11_character wsX11_signAt := goodIn_ca (goodIn_r _ [20, 21, 22, 4, 23, 6, 7, 24, 25, 26, 27, 28, 29, 30, 45, 46] (by decide +kernel) (by decide +kernel)) (goodIn_sub (fun _ h => List.mem_cons_of_mem _ (List.mem_append_right _ h)) (by decide +kernel))
set_option maxRecDepth 20000 in
theorem gX11_character_X11_signAt : GoodIn wsX11_character (va_wsS RX11 183 yX11_signAt wsX11_signAt) := goodIn_app (goodIn_of _ (by decide +kernel)) ggX11_character_X11_signAt
theorem dX11_character_0 : decode cX11_character 0 = .ok (.iload_n 1, 1) := by decide +kernel
theorem dX11_character_1 : decode cX11_character 1 = .ok (.invokestatic 171, 3) := by decide +kernel
theorem dX11_character_4 : decode cX11_character 4 = .ok (.aload_n 0, 1) := by decide +kernel
theorem dX11_character_5 : decode cX11_character 5 = .ok (.getfield 19, 3) := by decide +kernel
theorem dX11_character_8 : decode cX11_character 8 = .ok (.iload_n 1, 1) := by decide +kernel
theorem dX11_character_9 : decode cX11_character 9 = .ok (.invokevirtual 177, 3) := by decide +kernel
theorem dX11_character_12 : decode cX11_character 12 = .ok (.iload_n 2, 1) := by decide +kernel
theorem dX11_character_13 : decode cX11_character 13 = .ok (.invokestatic 183, 3) := by decide +kernel
theorem dX11_character_16 : decode cX11_character 16 = .ok (.ireturn, 1) := by decide +kernel
theorem dX11_rows_0 : decode cX11_rows 0 = .ok (.aload_n 0, 1) := by decide +kernel
theorem dX11_rows_1 : decode cX11_rows 1 = .ok (.getfield 26, 3) := by decide +kernel
theorem dX11_rows_4 : decode cX11_rows 4 = .ok (.getfield 187, 3) := by decide +kernel
theorem dX11_rows_7 : decode cX11_rows 7 = .ok (.ireturn, 1) := by decide +kernel
set_option maxRecDepth 20000 in
theorem ggX11_row_X11_requirePlace : GoodIn wsX11_row wsX11_requirePlace := goodIn_ca (goodIn_r _ [5, 6, 7] (by decide +kernel) (by decide +kernel)) (goodIn_sub (fun _ h => List.mem_cons_of_mem _ (List.mem_append_right _ h)) (by decide +kernel))
set_option maxRecDepth 20000 in
theorem gX11_row_X11_requirePlace : GoodIn wsX11_row (va_wsS RX11 188 yX11_requirePlace wsX11_requirePlace) := goodIn_app (goodIn_of _ (by decide +kernel)) ggX11_row_X11_requirePlace
set_option maxRecDepth 20000 in
theorem ggX11_row_X9_get : GoodIn wsX11_row wsX9_get := goodIn_r _ [12, 13, 23, 24] (by decide +kernel) (by decide +kernel)
set_option maxRecDepth 20000 in
theorem gX11_row_X9_get : GoodIn wsX11_row (wsV RX11 192 RX9 yX9_get wsX9_get) := goodIn_app (goodIn_of _ (by decide +kernel)) ggX11_row_X9_get
theorem dX11_row_0 : decode cX11_row 0 = .ok (.iload_n 1, 1) := by decide +kernel
theorem dX11_row_1 : decode cX11_row 1 = .ok (.aload_n 0, 1) := by decide +kernel
theorem dX11_row_2 : decode cX11_row 2 = .ok (.getfield 26, 3) := by decide +kernel
theorem dX11_row_5 : decode cX11_row 5 = .ok (.getfield 187, 3) := by decide +kernel
theorem dX11_row_8 : decode cX11_row 8 = .ok (.invokestatic 188, 3) := by decide +kernel
theorem dX11_row_11 : decode cX11_row 11 = .ok (.aload_n 0, 1) := by decide +kernel
theorem dX11_row_12 : decode cX11_row 12 = .ok (.getfield 26, 3) := by decide +kernel
theorem dX11_row_15 : decode cX11_row 15 = .ok (.iload_n 1, 1) := by decide +kernel
theorem dX11_row_16 : decode cX11_row 16 = .ok (.invokevirtual 192, 3) := by decide +kernel
theorem dX11_row_19 : decode cX11_row 19 = .ok (.getfield 195, 3) := by decide +kernel
theorem dX11_row_22 : decode cX11_row 22 = .ok (.ireturn, 1) := by decide +kernel
set_option maxRecDepth 20000 in
theorem ggX11_key_X11_requirePlace : GoodIn wsX11_key wsX11_requirePlace := goodIn_ca (goodIn_r _ [5, 6, 7] (by decide +kernel) (by decide +kernel)) (goodIn_sub (fun _ h => List.mem_cons_of_mem _ (List.mem_append_right _ h)) (by decide +kernel))
set_option maxRecDepth 20000 in
theorem gX11_key_X11_requirePlace : GoodIn wsX11_key (va_wsS RX11 188 yX11_requirePlace wsX11_requirePlace) := goodIn_app (goodIn_of _ (by decide +kernel)) ggX11_key_X11_requirePlace
set_option maxRecDepth 20000 in
theorem ggX11_key_X9_get : GoodIn wsX11_key wsX9_get := goodIn_r _ [12, 13, 33, 34] (by decide +kernel) (by decide +kernel)
set_option maxRecDepth 20000 in
theorem gX11_key_X9_get : GoodIn wsX11_key (wsV RX11 192 RX9 yX9_get wsX9_get) := goodIn_app (goodIn_of _ (by decide +kernel)) ggX11_key_X9_get
set_option maxRecDepth 20000 in
theorem ggX11_key_X11_signAt : GoodIn wsX11_key wsX11_signAt := goodIn_ca (goodIn_r _ [16, 2, 3, 4, 5, 6, 7, 17, 18, 19, 20, 21, 22, 23, 37, 38] (by decide +kernel) (by decide +kernel)) (goodIn_sub (fun _ h => List.mem_cons_of_mem _ (List.mem_append_right _ h)) (by decide +kernel))
set_option maxRecDepth 20000 in
theorem gX11_key_X11_signAt : GoodIn wsX11_key (va_wsS RX11 183 yX11_signAt wsX11_signAt) := goodIn_app (goodIn_of _ (by decide +kernel)) ggX11_key_X11_signAt
theorem dX11_key_0 : decode cX11_key 0 = .ok (.iload_n 1, 1) := by decide +kernel
theorem dX11_key_1 : decode cX11_key 1 = .ok (.aload_n 0, 1) := by decide +kernel
theorem dX11_key_2 : decode cX11_key 2 = .ok (.getfield 26, 3) := by decide +kernel
theorem dX11_key_5 : decode cX11_key 5 = .ok (.getfield 187, 3) := by decide +kernel
theorem dX11_key_8 : decode cX11_key 8 = .ok (.invokestatic 188, 3) := by decide +kernel
theorem dX11_key_11 : decode cX11_key 11 = .ok (.aload_n 0, 1) := by decide +kernel
theorem dX11_key_12 : decode cX11_key 12 = .ok (.getfield 26, 3) := by decide +kernel
theorem dX11_key_15 : decode cX11_key 15 = .ok (.iload_n 1, 1) := by decide +kernel
theorem dX11_key_16 : decode cX11_key 16 = .ok (.invokevirtual 192, 3) := by decide +kernel
theorem dX11_key_19 : decode cX11_key 19 = .ok (.getfield 200, 3) := by decide +kernel
theorem dX11_key_22 : decode cX11_key 22 = .ok (.iload_n 2, 1) := by decide +kernel
theorem dX11_key_23 : decode cX11_key 23 = .ok (.invokestatic 183, 3) := by decide +kernel
theorem dX11_key_26 : decode cX11_key 26 = .ok (.ireturn, 1) := by decide +kernel
theorem dX11_lines_0 : decode cX11_lines 0 = .ok (.aload_n 0, 1) := by decide +kernel
theorem dX11_lines_1 : decode cX11_lines 1 = .ok (.getfield 33, 3) := by decide +kernel
theorem dX11_lines_4 : decode cX11_lines 4 = .ok (.getfield 203, 3) := by decide +kernel
theorem dX11_lines_7 : decode cX11_lines 7 = .ok (.ireturn, 1) := by decide +kernel
set_option maxRecDepth 20000 in
theorem ggX11_line_X11_requirePlace : GoodIn wsX11_line wsX11_requirePlace := goodIn_ca (goodIn_r _ [5, 6, 7] (by decide +kernel) (by decide +kernel)) (goodIn_sub (fun _ h => List.mem_cons_of_mem _ (List.mem_append_right _ h)) (by decide +kernel))
set_option maxRecDepth 20000 in
theorem gX11_line_X11_requirePlace : GoodIn wsX11_line (va_wsS RX11 188 yX11_requirePlace wsX11_requirePlace) := goodIn_app (goodIn_of _ (by decide +kernel)) ggX11_line_X11_requirePlace
set_option maxRecDepth 20000 in
theorem ggX11_line_X5_get : GoodIn wsX11_line wsX5_get := goodIn_r _ [12, 13, 14, 34, 35, 36] (by decide +kernel) (by decide +kernel)
set_option maxRecDepth 20000 in
theorem gX11_line_X5_get : GoodIn wsX11_line (wsV RX11 204 RX5 yX5_get wsX5_get) := goodIn_app (goodIn_of _ (by decide +kernel)) ggX11_line_X5_get
set_option maxRecDepth 20000 in
theorem ggX11_line_X11_signAt : GoodIn wsX11_line wsX11_signAt := goodIn_ca (goodIn_r _ [17, 2, 3, 4, 5, 6, 7, 18, 19, 20, 21, 22, 23, 24, 37, 38] (by decide +kernel) (by decide +kernel)) (goodIn_sub (fun _ h => List.mem_cons_of_mem _ (List.mem_append_right _ h)) (by decide +kernel))
set_option maxRecDepth 20000 in
theorem gX11_line_X11_signAt : GoodIn wsX11_line (va_wsS RX11 183 yX11_signAt wsX11_signAt) := goodIn_app (goodIn_of _ (by decide +kernel)) ggX11_line_X11_signAt
theorem dX11_line_0 : decode cX11_line 0 = .ok (.iload_n 1, 1) := by decide +kernel
theorem dX11_line_1 : decode cX11_line 1 = .ok (.aload_n 0, 1) := by decide +kernel
theorem dX11_line_2 : decode cX11_line 2 = .ok (.getfield 33, 3) := by decide +kernel
theorem dX11_line_5 : decode cX11_line 5 = .ok (.getfield 203, 3) := by decide +kernel
theorem dX11_line_8 : decode cX11_line 8 = .ok (.invokestatic 188, 3) := by decide +kernel
theorem dX11_line_11 : decode cX11_line 11 = .ok (.aload_n 0, 1) := by decide +kernel
theorem dX11_line_12 : decode cX11_line 12 = .ok (.getfield 33, 3) := by decide +kernel
theorem dX11_line_15 : decode cX11_line 15 = .ok (.iload_n 1, 1) := by decide +kernel
theorem dX11_line_16 : decode cX11_line 16 = .ok (.invokevirtual 204, 3) := by decide +kernel
theorem dX11_line_19 : decode cX11_line 19 = .ok (.iload_n 2, 1) := by decide +kernel
theorem dX11_line_20 : decode cX11_line 20 = .ok (.invokestatic 183, 3) := by decide +kernel
theorem dX11_line_23 : decode cX11_line 23 = .ok (.ireturn, 1) := by decide +kernel
theorem dX11_faults_0 : decode cX11_faults 0 = .ok (.aload_n 0, 1) := by decide +kernel
theorem dX11_faults_1 : decode cX11_faults 1 = .ok (.getfield 205, 3) := by decide +kernel
theorem dX11_faults_4 : decode cX11_faults 4 = .ok (.ireturn, 1) := by decide +kernel
set_option maxRecDepth 20000 in
theorem ggX11_isPattern_X11_isField : GoodIn wsX11_isPattern wsX11_isField := goodIn_r _ [4] (by decide +kernel) (by decide +kernel)
set_option maxRecDepth 20000 in
theorem gX11_isPattern_X11_isField : GoodIn wsX11_isPattern (va_wsS RX11 88 yX11_isField wsX11_isField) := goodIn_app (goodIn_of _ (by decide +kernel)) ggX11_isPattern_X11_isField
set_option maxRecDepth 20000 in
theorem ggX11_isPattern_X11_isNumber : GoodIn wsX11_isPattern wsX11_isNumber := goodIn_r _ [7] (by decide +kernel) (by decide +kernel)
set_option maxRecDepth 20000 in
theorem gX11_isPattern_X11_isNumber : GoodIn wsX11_isPattern (va_wsS RX11 208 yX11_isNumber wsX11_isNumber) := goodIn_app (goodIn_of _ (by decide +kernel)) ggX11_isPattern_X11_isNumber
theorem dX11_isPattern_0 : decode cX11_isPattern 0 = .ok (.iload_n 0, 1) := by decide +kernel
theorem dX11_isPattern_1 : decode cX11_isPattern 1 = .ok (.tableswitch 93 0 3 #[31, 33, 53, 73], 31) := by decide +kernel
theorem dX11_isPattern_32 : decode cX11_isPattern 32 = .ok (.iconst 1, 1) := by decide +kernel
theorem dX11_isPattern_33 : decode cX11_isPattern 33 = .ok (.ireturn, 1) := by decide +kernel
theorem dX11_isPattern_34 : decode cX11_isPattern 34 = .ok (.iload_n 1, 1) := by decide +kernel
theorem dX11_isPattern_35 : decode cX11_isPattern 35 = .ok (.invokestatic 88, 3) := by decide +kernel
theorem dX11_isPattern_38 : decode cX11_isPattern 38 = .ok (.ifCond .eq 14, 3) := by decide +kernel
theorem dX11_isPattern_41 : decode cX11_isPattern 41 = .ok (.iload_n 2, 1) := by decide +kernel
theorem dX11_isPattern_42 : decode cX11_isPattern 42 = .ok (.invokestatic 208, 3) := by decide +kernel
theorem dX11_isPattern_45 : decode cX11_isPattern 45 = .ok (.ifCond .eq 7, 3) := by decide +kernel
theorem dX11_isPattern_48 : decode cX11_isPattern 48 = .ok (.iconst 1, 1) := by decide +kernel
theorem dX11_isPattern_49 : decode cX11_isPattern 49 = .ok (.goto 4, 3) := by decide +kernel
theorem dX11_isPattern_52 : decode cX11_isPattern 52 = .ok (.iconst 0, 1) := by decide +kernel
theorem dX11_isPattern_53 : decode cX11_isPattern 53 = .ok (.ireturn, 1) := by decide +kernel
theorem dX11_isPattern_54 : decode cX11_isPattern 54 = .ok (.iload_n 1, 1) := by decide +kernel
theorem dX11_isPattern_55 : decode cX11_isPattern 55 = .ok (.invokestatic 88, 3) := by decide +kernel
theorem dX11_isPattern_58 : decode cX11_isPattern 58 = .ok (.ifCond .eq 14, 3) := by decide +kernel
theorem dX11_isPattern_61 : decode cX11_isPattern 61 = .ok (.iload_n 2, 1) := by decide +kernel
theorem dX11_isPattern_62 : decode cX11_isPattern 62 = .ok (.invokestatic 88, 3) := by decide +kernel
theorem dX11_isPattern_65 : decode cX11_isPattern 65 = .ok (.ifCond .eq 7, 3) := by decide +kernel
theorem dX11_isPattern_68 : decode cX11_isPattern 68 = .ok (.iconst 1, 1) := by decide +kernel
theorem dX11_isPattern_69 : decode cX11_isPattern 69 = .ok (.goto 4, 3) := by decide +kernel
theorem dX11_isPattern_72 : decode cX11_isPattern 72 = .ok (.iconst 0, 1) := by decide +kernel
theorem dX11_isPattern_73 : decode cX11_isPattern 73 = .ok (.ireturn, 1) := by decide +kernel
theorem dX11_isPattern_74 : decode cX11_isPattern 74 = .ok (.iload_n 1, 1) := by decide +kernel
theorem dX11_isPattern_75 : decode cX11_isPattern 75 = .ok (.invokestatic 208, 3) := by decide +kernel
theorem dX11_isPattern_78 : decode cX11_isPattern 78 = .ok (.ifCond .eq 14, 3) := by decide +kernel
theorem dX11_isPattern_81 : decode cX11_isPattern 81 = .ok (.iload_n 2, 1) := by decide +kernel
theorem dX11_isPattern_82 : decode cX11_isPattern 82 = .ok (.invokestatic 208, 3) := by decide +kernel
theorem dX11_isPattern_85 : decode cX11_isPattern 85 = .ok (.ifCond .eq 7, 3) := by decide +kernel
theorem dX11_isPattern_88 : decode cX11_isPattern 88 = .ok (.iconst 1, 1) := by decide +kernel
theorem dX11_isPattern_89 : decode cX11_isPattern 89 = .ok (.goto 4, 3) := by decide +kernel
theorem dX11_isPattern_92 : decode cX11_isPattern 92 = .ok (.iconst 0, 1) := by decide +kernel
theorem dX11_isPattern_93 : decode cX11_isPattern 93 = .ok (.ireturn, 1) := by decide +kernel
theorem dX11_isPattern_94 : decode cX11_isPattern 94 = .ok (.iconst 0, 1) := by decide +kernel
theorem dX11_isPattern_95 : decode cX11_isPattern 95 = .ok (.ireturn, 1) := by decide +kernel
theorem dX11_isField_0 : decode cX11_isField 0 = .ok (.iload_n 0, 1) := by decide +kernel
theorem dX11_isField_1 : decode cX11_isField 1 = .ok (.ifCond .lt 13, 3) := by decide +kernel
theorem dX11_isField_4 : decode cX11_isField 4 = .ok (.iload_n 0, 1) := by decide +kernel
theorem dX11_isField_5 : decode cX11_isField 5 = .ok (.bipush 12, 2) := by decide +kernel
theorem dX11_isField_7 : decode cX11_isField 7 = .ok (.if_icmp .gt 7, 3) := by decide +kernel
theorem dX11_isField_10 : decode cX11_isField 10 = .ok (.iconst 1, 1) := by decide +kernel
theorem dX11_isField_11 : decode cX11_isField 11 = .ok (.goto 4, 3) := by decide +kernel
theorem dX11_isField_14 : decode cX11_isField 14 = .ok (.iconst 0, 1) := by decide +kernel
theorem dX11_isField_15 : decode cX11_isField 15 = .ok (.ireturn, 1) := by decide +kernel
theorem dX11_isNumber_0 : decode cX11_isNumber 0 = .ok (.iload_n 0, 1) := by decide +kernel
theorem dX11_isNumber_1 : decode cX11_isNumber 1 = .ok (.ifCond .lt 14, 3) := by decide +kernel
theorem dX11_isNumber_4 : decode cX11_isNumber 4 = .ok (.iload_n 0, 1) := by decide +kernel
theorem dX11_isNumber_5 : decode cX11_isNumber 5 = .ok (.sipush 9999, 3) := by decide +kernel
theorem dX11_isNumber_8 : decode cX11_isNumber 8 = .ok (.if_icmp .gt 7, 3) := by decide +kernel
theorem dX11_isNumber_11 : decode cX11_isNumber 11 = .ok (.iconst 1, 1) := by decide +kernel
theorem dX11_isNumber_12 : decode cX11_isNumber 12 = .ok (.goto 4, 3) := by decide +kernel
theorem dX11_isNumber_15 : decode cX11_isNumber 15 = .ok (.iconst 0, 1) := by decide +kernel
theorem dX11_isNumber_16 : decode cX11_isNumber 16 = .ok (.ireturn, 1) := by decide +kernel
set_option maxRecDepth 20000 in
theorem ggX11_isOperand_X11_isNumber : GoodIn wsX11_isOperand wsX11_isNumber := goodIn_r _ [4] (by decide +kernel) (by decide +kernel)
set_option maxRecDepth 20000 in
theorem gX11_isOperand_X11_isNumber : GoodIn wsX11_isOperand (va_wsS RX11 208 yX11_isNumber wsX11_isNumber) := goodIn_app (goodIn_of _ (by decide +kernel)) ggX11_isOperand_X11_isNumber
theorem dX11_isOperand_0 : decode cX11_isOperand 0 = .ok (.iload_n 0, 1) := by decide +kernel
theorem dX11_isOperand_1 : decode cX11_isOperand 1 = .ok (.invokestatic 208, 3) := by decide +kernel
theorem dX11_isOperand_4 : decode cX11_isOperand 4 = .ok (.ifCond .ne 26, 3) := by decide +kernel
theorem dX11_isOperand_7 : decode cX11_isOperand 7 = .ok (.iload_n 0, 1) := by decide +kernel
theorem dX11_isOperand_8 : decode cX11_isOperand 8 = .ok (.bipush (-13), 2) := by decide +kernel
theorem dX11_isOperand_10 : decode cX11_isOperand 10 = .ok (.if_icmp .lt 8, 3) := by decide +kernel
theorem dX11_isOperand_13 : decode cX11_isOperand 13 = .ok (.iload_n 0, 1) := by decide +kernel
theorem dX11_isOperand_14 : decode cX11_isOperand 14 = .ok (.iconst (-1), 1) := by decide +kernel
theorem dX11_isOperand_15 : decode cX11_isOperand 15 = .ok (.if_icmp .le 15, 3) := by decide +kernel
theorem dX11_isOperand_18 : decode cX11_isOperand 18 = .ok (.iload_n 0, 1) := by decide +kernel
theorem dX11_isOperand_19 : decode cX11_isOperand 19 = .ok (.bipush (-20), 2) := by decide +kernel
theorem dX11_isOperand_21 : decode cX11_isOperand 21 = .ok (.if_icmp .eq 9, 3) := by decide +kernel
theorem dX11_isOperand_24 : decode cX11_isOperand 24 = .ok (.iload_n 0, 1) := by decide +kernel
theorem dX11_isOperand_25 : decode cX11_isOperand 25 = .ok (.bipush (-21), 2) := by decide +kernel
theorem dX11_isOperand_27 : decode cX11_isOperand 27 = .ok (.if_icmp .ne 7, 3) := by decide +kernel
theorem dX11_isOperand_30 : decode cX11_isOperand 30 = .ok (.iconst 1, 1) := by decide +kernel
theorem dX11_isOperand_31 : decode cX11_isOperand 31 = .ok (.goto 4, 3) := by decide +kernel
theorem dX11_isOperand_34 : decode cX11_isOperand 34 = .ok (.iconst 0, 1) := by decide +kernel
theorem dX11_isOperand_35 : decode cX11_isOperand 35 = .ok (.ireturn, 1) := by decide +kernel
set_option maxRecDepth 20000 in
theorem ggX11_requireField_X11_isField : GoodIn wsX11_requireField wsX11_isField := goodIn_r _ [6] (by decide +kernel) (by decide +kernel)
set_option maxRecDepth 20000 in
theorem gX11_requireField_X11_isField : GoodIn wsX11_requireField (va_wsS RX11 88 yX11_isField wsX11_isField) := goodIn_app (goodIn_of _ (by decide +kernel)) ggX11_requireField_X11_isField
theorem dX11_requireField_0 : decode cX11_requireField 0 = .ok (.iload_n 0, 1) := by decide +kernel
theorem dX11_requireField_1 : decode cX11_requireField 1 = .ok (.invokestatic 88, 3) := by decide +kernel
theorem dX11_requireField_4 : decode cX11_requireField 4 = .ok (.ifCond .ne 13, 3) := by decide +kernel
theorem dX11_requireField_7 : decode cX11_requireField 7 = .ok (.new 83, 3) := by decide +kernel
theorem dX11_requireField_10 : decode cX11_requireField 10 = .ok (.dup, 1) := by decide +kernel
theorem dX11_requireField_11 : decode cX11_requireField 11 = .ok (.ldc 211, 2) := by decide +kernel
theorem dX11_requireField_13 : decode cX11_requireField 13 = .ok (.invokespecial 87, 3) := by decide +kernel
theorem dX11_requireField_16 : decode cX11_requireField 16 = .ok (.athrow, 1) := by decide +kernel
theorem dX11_requireField_17 : decode cX11_requireField 17 = .ok (.return_, 1) := by decide +kernel
theorem dX11_requireCode_0 : decode cX11_requireCode 0 = .ok (.iload_n 0, 1) := by decide +kernel
theorem dX11_requireCode_1 : decode cX11_requireCode 1 = .ok (.ifCond .lt 9, 3) := by decide +kernel
theorem dX11_requireCode_4 : decode cX11_requireCode 4 = .ok (.iload_n 0, 1) := by decide +kernel
theorem dX11_requireCode_5 : decode cX11_requireCode 5 = .ok (.bipush 37, 2) := by decide +kernel
theorem dX11_requireCode_7 : decode cX11_requireCode 7 = .ok (.if_icmp .le 13, 3) := by decide +kernel
theorem dX11_requireCode_10 : decode cX11_requireCode 10 = .ok (.new 58, 3) := by decide +kernel
theorem dX11_requireCode_13 : decode cX11_requireCode 13 = .ok (.dup, 1) := by decide +kernel
theorem dX11_requireCode_14 : decode cX11_requireCode 14 = .ok (.ldc 213, 2) := by decide +kernel
theorem dX11_requireCode_16 : decode cX11_requireCode 16 = .ok (.invokespecial 62, 3) := by decide +kernel
theorem dX11_requireCode_19 : decode cX11_requireCode 19 = .ok (.athrow, 1) := by decide +kernel
theorem dX11_requireCode_20 : decode cX11_requireCode 20 = .ok (.return_, 1) := by decide +kernel
theorem dX11_requirePlace_0 : decode cX11_requirePlace 0 = .ok (.iload_n 0, 1) := by decide +kernel
theorem dX11_requirePlace_1 : decode cX11_requirePlace 1 = .ok (.ifCond .lt 8, 3) := by decide +kernel
theorem dX11_requirePlace_4 : decode cX11_requirePlace 4 = .ok (.iload_n 0, 1) := by decide +kernel
theorem dX11_requirePlace_5 : decode cX11_requirePlace 5 = .ok (.iload_n 1, 1) := by decide +kernel
theorem dX11_requirePlace_6 : decode cX11_requirePlace 6 = .ok (.if_icmp .lt 13, 3) := by decide +kernel
theorem dX11_requirePlace_9 : decode cX11_requirePlace 9 = .ok (.new 83, 3) := by decide +kernel
theorem dX11_requirePlace_12 : decode cX11_requirePlace 12 = .ok (.dup, 1) := by decide +kernel
theorem dX11_requirePlace_13 : decode cX11_requirePlace 13 = .ok (.ldc 215, 2) := by decide +kernel
theorem dX11_requirePlace_15 : decode cX11_requirePlace 15 = .ok (.invokespecial 87, 3) := by decide +kernel
theorem dX11_requirePlace_18 : decode cX11_requirePlace 18 = .ok (.athrow, 1) := by decide +kernel
theorem dX11_requirePlace_19 : decode cX11_requirePlace 19 = .ok (.return_, 1) := by decide +kernel
theorem dX11_signOf_0 : decode cX11_signOf 0 = .ok (.iload_n 0, 1) := by decide +kernel
theorem dX11_signOf_1 : decode cX11_signOf 1 = .ok (.bipush 36, 2) := by decide +kernel
theorem dX11_signOf_3 : decode cX11_signOf 3 = .ok (.if_icmp .ne 6, 3) := by decide +kernel
theorem dX11_signOf_6 : decode cX11_signOf 6 = .ok (.bipush 32, 2) := by decide +kernel
theorem dX11_signOf_8 : decode cX11_signOf 8 = .ok (.ireturn, 1) := by decide +kernel
theorem dX11_signOf_9 : decode cX11_signOf 9 = .ok (.iload_n 0, 1) := by decide +kernel
theorem dX11_signOf_10 : decode cX11_signOf 10 = .ok (.bipush 37, 2) := by decide +kernel
theorem dX11_signOf_12 : decode cX11_signOf 12 = .ok (.if_icmp .ne 6, 3) := by decide +kernel
theorem dX11_signOf_15 : decode cX11_signOf 15 = .ok (.bipush 44, 2) := by decide +kernel
theorem dX11_signOf_17 : decode cX11_signOf 17 = .ok (.ireturn, 1) := by decide +kernel
theorem dX11_signOf_18 : decode cX11_signOf 18 = .ok (.iload_n 0, 1) := by decide +kernel
theorem dX11_signOf_19 : decode cX11_signOf 19 = .ok (.bipush 10, 2) := by decide +kernel
theorem dX11_signOf_21 : decode cX11_signOf 21 = .ok (.if_icmp .ge 10, 3) := by decide +kernel
theorem dX11_signOf_24 : decode cX11_signOf 24 = .ok (.bipush 48, 2) := by decide +kernel
theorem dX11_signOf_26 : decode cX11_signOf 26 = .ok (.iload_n 0, 1) := by decide +kernel
theorem dX11_signOf_27 : decode cX11_signOf 27 = .ok (.iadd, 1) := by decide +kernel
theorem dX11_signOf_28 : decode cX11_signOf 28 = .ok (.goto 10, 3) := by decide +kernel
theorem dX11_signOf_31 : decode cX11_signOf 31 = .ok (.bipush 97, 2) := by decide +kernel
theorem dX11_signOf_33 : decode cX11_signOf 33 = .ok (.iload_n 0, 1) := by decide +kernel
theorem dX11_signOf_34 : decode cX11_signOf 34 = .ok (.bipush 10, 2) := by decide +kernel
theorem dX11_signOf_36 : decode cX11_signOf 36 = .ok (.isub, 1) := by decide +kernel
theorem dX11_signOf_37 : decode cX11_signOf 37 = .ok (.iadd, 1) := by decide +kernel
theorem dX11_signOf_38 : decode cX11_signOf 38 = .ok (.i2c, 1) := by decide +kernel
theorem dX11_signOf_39 : decode cX11_signOf 39 = .ok (.ireturn, 1) := by decide +kernel
set_option maxRecDepth 20000 in
theorem ggX11_signAt_X11_requirePlace : GoodIn wsX11_signAt wsX11_requirePlace := goodIn_ca (goodIn_r _ [4, 5, 6] (by decide +kernel) (by decide +kernel)) (goodIn_sub (fun _ h => List.mem_cons_of_mem _ (List.mem_append_right _ h)) (by decide +kernel))
set_option maxRecDepth 20000 in
theorem gX11_signAt_X11_requirePlace : GoodIn wsX11_signAt (va_wsS RX11 188 yX11_requirePlace wsX11_requirePlace) := goodIn_app (goodIn_of _ (by decide +kernel)) ggX11_signAt_X11_requirePlace
set_option maxRecDepth 20000 in
theorem ggX11_signAt_X10_at : GoodIn wsX11_signAt wsX10_at := goodIn_r _ [11, 12, 13, 14, 15] (by decide +kernel) (by decide +kernel)
set_option maxRecDepth 20000 in
theorem gX11_signAt_X10_at : GoodIn wsX11_signAt (wsV RX11 217 RX10 yX10_at wsX10_at) := goodIn_app (goodIn_of _ (by decide +kernel)) ggX11_signAt_X10_at
theorem dX11_signAt_0 : decode cX11_signAt 0 = .ok (.iload_n 1, 1) := by decide +kernel
theorem dX11_signAt_1 : decode cX11_signAt 1 = .ok (.aload_n 0, 1) := by decide +kernel
theorem dX11_signAt_2 : decode cX11_signAt 2 = .ok (.getfield 144, 3) := by decide +kernel
theorem dX11_signAt_5 : decode cX11_signAt 5 = .ok (.invokestatic 188, 3) := by decide +kernel
theorem dX11_signAt_8 : decode cX11_signAt 8 = .ok (.aload_n 0, 1) := by decide +kernel
theorem dX11_signAt_9 : decode cX11_signAt 9 = .ok (.iload_n 1, 1) := by decide +kernel
theorem dX11_signAt_10 : decode cX11_signAt 10 = .ok (.invokevirtual 217, 3) := by decide +kernel
theorem dX11_signAt_13 : decode cX11_signAt 13 = .ok (.ireturn, 1) := by decide +kernel
theorem dX11_rankOf_0 : decode cX11_rankOf 0 = .ok (.iload_n 0, 1) := by decide +kernel
theorem dX11_rankOf_1 : decode cX11_rankOf 1 = .ok (.lookupswitch 41 #[(32, 35), (44, 39), (45, 37)], 35) := by decide +kernel
theorem dX11_rankOf_36 : decode cX11_rankOf 36 = .ok (.iconst 0, 1) := by decide +kernel
theorem dX11_rankOf_37 : decode cX11_rankOf 37 = .ok (.ireturn, 1) := by decide +kernel
theorem dX11_rankOf_38 : decode cX11_rankOf 38 = .ok (.iconst 1, 1) := by decide +kernel
theorem dX11_rankOf_39 : decode cX11_rankOf 39 = .ok (.ireturn, 1) := by decide +kernel
theorem dX11_rankOf_40 : decode cX11_rankOf 40 = .ok (.iconst 2, 1) := by decide +kernel
theorem dX11_rankOf_41 : decode cX11_rankOf 41 = .ok (.ireturn, 1) := by decide +kernel
theorem dX11_rankOf_42 : decode cX11_rankOf 42 = .ok (.iload_n 0, 1) := by decide +kernel
theorem dX11_rankOf_43 : decode cX11_rankOf 43 = .ok (.ireturn, 1) := by decide +kernel
set_option maxRecDepth 20000 in
theorem ggX11_performAll_Jx4a65c_size_8abf5 : GoodIn wsX11_performAll wsJx4a65c_size_8abf5 := goodIn_r _ [6, 7, 186, 187, 188] (by decide +kernel) (by decide +kernel)
set_option maxRecDepth 20000 in
theorem gX11_performAll_Jx4a65c_size_8abf5 : GoodIn wsX11_performAll (wsV RX11 65 RJx4a65c yJx4a65c_size_8abf5 wsJx4a65c_size_8abf5) := goodIn_app (goodIn_of _ (by decide +kernel)) ggX11_performAll_Jx4a65c_size_8abf5
set_option maxRecDepth 20000 in
theorem ggX11_performAll_Jx4a65c_get_915e3 : GoodIn wsX11_performAll wsJx4a65c_get_915e3 := goodIn_r _ [11, 7, 12, 13, 14, 15, 16, 17, 18, 19, 20, 21, 22, 5, 23, 24, 186, 187, 188] (by decide +kernel) (by decide +kernel)
set_option maxRecDepth 20000 in
theorem gX11_performAll_Jx4a65c_get_915e3 : GoodIn wsX11_performAll (wsV RX11 99 RJx4a65c yJx4a65c_get_915e3 wsJx4a65c_get_915e3) := goodIn_app (goodIn_of _ (by decide +kernel)) ggX11_performAll_Jx4a65c_get_915e3
set_option maxRecDepth 20000 in
theorem ggX11_performAll_X11_perform : GoodIn wsX11_performAll wsX11_perform := goodIn_r _ [29, 30, 31, 32, 33, 34, 35, 36, 37, 38, 39, 40, 41, 42, 43, 44, 45, 46, 47, 48, 49, 50, 51, 52, 53, 54, 55, 56, 57, 58, 59, 60, 61, 62, 63, 64, 65, 66, 67, 68, 69, 70, 71, 72, 73, 74, 75, 76, 77, 78, 79, 80, 81, 82, 83, 84, 85, 86, 87, 88, 89, 90, 91, 92, 93, 94, 28, 95, 96, 97, 98, 99, 100, 101, 102, 103, 104, 105, 106, 107, 108, 109, 110, 111, 112, 113, 114, 115, 116, 117, 118, 119, 120, 121, 122, 123, 124, 125, 126, 127, 128, 129, 130, 131, 132, 133, 134, 135, 136, 137, 138, 139, 140, 141, 142, 143, 144, 145, 146, 147, 148, 149, 150, 151, 152, 153, 154, 155, 156, 157, 158, 159, 160, 161, 162, 163, 164, 165, 166, 167, 168, 169, 170, 171, 172, 173, 174, 175, 176, 177, 178, 179, 180, 181, 182, 183, 184, 185, 189, 190, 191, 192, 193, 194, 195, 196, 197, 198, 199, 200, 201, 202, 203, 204, 205, 206, 207, 208, 209, 210, 211, 212, 213, 214, 215, 216, 217, 218, 219, 220, 221] (by decide +kernel) (by decide +kernel)
set_option maxRecDepth 20000 in
theorem gX11_performAll_X11_perform : GoodIn wsX11_performAll (wsV RX11 220 RX11 yX11_perform wsX11_perform) := goodIn_app (goodIn_of _ (by decide +kernel)) ggX11_performAll_X11_perform
theorem dX11_performAll_0 : decode cX11_performAll 0 = .ok (.iconst 0, 1) := by decide +kernel
theorem dX11_performAll_1 : decode cX11_performAll 1 = .ok (.istore_n 2, 1) := by decide +kernel
theorem dX11_performAll_2 : decode cX11_performAll 2 = .ok (.iload_n 2, 1) := by decide +kernel
theorem dX11_performAll_3 : decode cX11_performAll 3 = .ok (.aload_n 1, 1) := by decide +kernel
theorem dX11_performAll_4 : decode cX11_performAll 4 = .ok (.invokevirtual 65, 3) := by decide +kernel
theorem dX11_performAll_7 : decode cX11_performAll 7 = .ok (.if_icmp .ge 26, 3) := by decide +kernel
theorem dX11_performAll_10 : decode cX11_performAll 10 = .ok (.aload_n 0, 1) := by decide +kernel
theorem dX11_performAll_11 : decode cX11_performAll 11 = .ok (.aload_n 1, 1) := by decide +kernel
theorem dX11_performAll_12 : decode cX11_performAll 12 = .ok (.iload_n 2, 1) := by decide +kernel
theorem dX11_performAll_13 : decode cX11_performAll 13 = .ok (.invokevirtual 99, 3) := by decide +kernel
theorem dX11_performAll_16 : decode cX11_performAll 16 = .ok (.checkcast 108, 3) := by decide +kernel
theorem dX11_performAll_19 : decode cX11_performAll 19 = .ok (.invokevirtual 220, 3) := by decide +kernel
theorem dX11_performAll_22 : decode cX11_performAll 22 = .ok (.ifCond .ne 5, 3) := by decide +kernel
theorem dX11_performAll_25 : decode cX11_performAll 25 = .ok (.iconst 0, 1) := by decide +kernel
theorem dX11_performAll_26 : decode cX11_performAll 26 = .ok (.ireturn, 1) := by decide +kernel
theorem dX11_performAll_27 : decode cX11_performAll 27 = .ok (.iinc 2 1, 3) := by decide +kernel
theorem dX11_performAll_30 : decode cX11_performAll 30 = .ok (.goto (-28), 3) := by decide +kernel
theorem dX11_performAll_33 : decode cX11_performAll 33 = .ok (.iconst 1, 1) := by decide +kernel
theorem dX11_performAll_34 : decode cX11_performAll 34 = .ok (.ireturn, 1) := by decide +kernel
set_option maxRecDepth 20000 in
theorem ggX11_perform_X4_get : GoodIn wsX11_perform wsX4_get := goodIn_r _ [12, 13, 14, 171, 172, 173, 174, 175] (by decide +kernel) (by decide +kernel)
set_option maxRecDepth 20000 in
theorem gX11_perform_X4_get : GoodIn wsX11_perform (wsV RX11 177 RX4 yX4_get wsX4_get) := goodIn_app (goodIn_of _ (by decide +kernel)) ggX11_perform_X4_get
set_option maxRecDepth 20000 in
theorem ggX11_perform_X9_drop : GoodIn wsX11_perform wsX9_drop := goodIn_r _ [19, 20, 21, 22, 23, 24, 18, 25, 26, 27, 28, 29, 30, 31, 32, 33, 34, 35, 36, 37, 38, 39, 40, 176, 177, 178, 179, 180, 181] (by decide +kernel) (by decide +kernel)
set_option maxRecDepth 20000 in
theorem gX11_perform_X9_drop : GoodIn wsX11_perform (wsV RX11 230 RX9 yX9_drop wsX9_drop) := goodIn_app (goodIn_of _ (by decide +kernel)) ggX11_perform_X9_drop
set_option maxRecDepth 20000 in
theorem ggX11_perform_X8_run : GoodIn wsX11_perform wsX8_run := goodIn_r _ [45, 46, 47, 48, 49, 11, 50, 51, 52, 53, 54, 55, 33, 56, 35, 40, 57, 58, 59, 60, 9, 10, 12, 13, 14, 61, 62, 63, 64, 65, 66, 67, 68, 69, 70, 71, 72, 73, 74, 75, 76, 77, 78, 79, 80, 81, 82, 83, 84, 85, 86, 87, 88, 89, 90, 91, 92, 93, 94, 95, 96, 97, 182, 171, 172, 173, 174, 175, 180, 181] (by decide +kernel) (by decide +kernel)
set_option maxRecDepth 20000 in
theorem gX11_perform_X8_run : GoodIn wsX11_perform (wsV RX11 238 RX8 yX8_run wsX8_run) := goodIn_app (goodIn_of _ (by decide +kernel)) ggX11_perform_X8_run
set_option maxRecDepth 20000 in
theorem ggX11_perform_X1_find : GoodIn wsX11_perform wsX1_find := goodIn_r _ [103, 104, 105, 106, 107, 108, 109, 110, 111, 112, 113, 114, 48, 49, 11, 50, 51, 52, 53, 54, 55, 33, 56, 35, 40, 57, 58, 59, 60, 9, 10, 12, 13, 14, 61, 62, 63, 64, 65, 66, 67, 68, 69, 70, 71, 72, 73, 74, 75, 76, 77, 78, 79, 80, 81, 82, 83, 84, 85, 86, 87, 88, 89, 90, 91, 92, 93, 94, 95, 96, 183, 184, 185, 186, 187, 171, 172, 173, 174, 175, 180, 181] (by decide +kernel) (by decide +kernel)
set_option maxRecDepth 20000 in
theorem gX11_perform_X1_find_u246X1 : GoodIn wsX11_perform (va_wsU RX11 246 RX1 "FieldScribe$Node" ⟨"FieldScribe$Node", "find", "(LFieldScribe$Page;LFieldScribe$Text;)I"⟩ yX1_find wsX1_find) := goodIn_app (goodIn_of _ (by decide +kernel)) ggX11_perform_X1_find
set_option maxRecDepth 20000 in
theorem ggX11_perform_X2_find : GoodIn wsX11_perform wsX2_find := goodIn_r _ [112, 113, 114, 48, 49, 11, 50, 51, 52, 53, 54, 55, 33, 56, 35, 40, 57, 58, 59, 60, 9, 10, 12, 13, 14, 61, 62, 63, 64, 187, 171, 172, 173, 174, 175, 180, 181] (by decide +kernel) (by decide +kernel)
set_option maxRecDepth 20000 in
theorem gX11_perform_X2_find_u246X2 : GoodIn wsX11_perform (va_wsU RX11 246 RX2 "FieldScribe$Node" ⟨"FieldScribe$Node", "find", "(LFieldScribe$Page;LFieldScribe$Text;)I"⟩ yX2_find wsX2_find) := goodIn_app (goodIn_of _ (by decide +kernel)) ggX11_perform_X2_find
set_option maxRecDepth 20000 in
theorem ggX11_perform_X4_set : GoodIn wsX11_perform wsX4_set := goodIn_r _ [119, 51, 120, 121, 122, 123, 60, 9, 10, 11, 12, 13, 14, 61, 62, 63, 33, 64, 35, 40, 124, 125, 126, 127, 128, 129, 130, 131, 132, 133, 73, 74, 75, 134, 69, 70, 71, 72, 135, 136, 137, 138, 139, 85, 86, 87, 171, 172, 173, 174, 175, 180, 181] (by decide +kernel) (by decide +kernel)
set_option maxRecDepth 20000 in
theorem gX11_perform_X4_set : GoodIn wsX11_perform (wsV RX11 156 RX4 yX4_set wsX4_set) := goodIn_app (goodIn_of _ (by decide +kernel)) ggX11_perform_X4_set
set_option maxRecDepth 20000 in
theorem ggX11_perform_X10_asNumber : GoodIn wsX11_perform wsX10_asNumber := goodIn_r _ [79, 40, 80, 81, 82, 33, 83, 35, 84, 85, 86, 87, 180, 181] (by decide +kernel) (by decide +kernel)
set_option maxRecDepth 20000 in
theorem gX11_perform_X10_asNumber : GoodIn wsX11_perform (wsV RX11 180 RX10 yX10_asNumber wsX10_asNumber) := goodIn_app (goodIn_of _ (by decide +kernel)) ggX11_perform_X10_asNumber
set_option maxRecDepth 20000 in
theorem ggX11_perform_X9_grow : GoodIn wsX11_perform wsX9_grow := goodIn_r _ [143, 21, 20, 22, 23, 24, 18, 25, 26, 27, 28, 29, 30, 31, 32, 33, 34, 35, 36, 37, 38, 39, 40, 144, 62, 63, 64, 92, 66, 93, 94, 95, 176, 177, 178, 179, 180, 181] (by decide +kernel) (by decide +kernel)
set_option maxRecDepth 20000 in
theorem gX11_perform_X9_grow : GoodIn wsX11_perform (wsV RX11 252 RX9 yX9_grow wsX9_grow) := goodIn_app (goodIn_of _ (by decide +kernel)) ggX11_perform_X9_grow
set_option maxRecDepth 20000 in
theorem ggX11_perform_X5_print : GoodIn wsX11_perform wsX5_print := goodIn_r _ [149, 150, 151, 152, 153, 154, 155, 148, 156, 157, 62, 63, 33, 64, 35, 40, 188, 189, 190, 180, 181] (by decide +kernel) (by decide +kernel)
set_option maxRecDepth 20000 in
theorem gX11_perform_X5_print : GoodIn wsX11_perform (wsV RX11 256 RX5 yX5_print wsX5_print) := goodIn_app (goodIn_of _ (by decide +kernel)) ggX11_perform_X5_print
theorem dX11_perform_0 : decode cX11_perform 0 = .ok (.aload_n 1, 1) := by decide +kernel
theorem dX11_perform_1 : decode cX11_perform 1 = .ok (.getfield 224, 3) := by decide +kernel
theorem dX11_perform_4 : decode cX11_perform 4 = .ok (.iconst 4, 1) := by decide +kernel
theorem dX11_perform_5 : decode cX11_perform 5 = .ok (.if_icmp .ne 5, 3) := by decide +kernel
theorem dX11_perform_8 : decode cX11_perform 8 = .ok (.iconst 0, 1) := by decide +kernel
theorem dX11_perform_9 : decode cX11_perform 9 = .ok (.ireturn, 1) := by decide +kernel
theorem dX11_perform_10 : decode cX11_perform 10 = .ok (.aload_n 0, 1) := by decide +kernel
theorem dX11_perform_11 : decode cX11_perform 11 = .ok (.getfield 19, 3) := by decide +kernel
theorem dX11_perform_14 : decode cX11_perform 14 = .ok (.aload_n 1, 1) := by decide +kernel
theorem dX11_perform_15 : decode cX11_perform 15 = .ok (.getfield 227, 3) := by decide +kernel
theorem dX11_perform_18 : decode cX11_perform 18 = .ok (.invokevirtual 177, 3) := by decide +kernel
theorem dX11_perform_21 : decode cX11_perform 21 = .ok (.astore_n 2, 1) := by decide +kernel
theorem dX11_perform_22 : decode cX11_perform 22 = .ok (.aload_n 1, 1) := by decide +kernel
theorem dX11_perform_23 : decode cX11_perform 23 = .ok (.getfield 224, 3) := by decide +kernel
theorem dX11_perform_26 : decode cX11_perform 26 = .ok (.iconst 3, 1) := by decide +kernel
theorem dX11_perform_27 : decode cX11_perform 27 = .ok (.if_icmp .ne 13, 3) := by decide +kernel
theorem dX11_perform_30 : decode cX11_perform 30 = .ok (.aload_n 0, 1) := by decide +kernel
theorem dX11_perform_31 : decode cX11_perform 31 = .ok (.getfield 26, 3) := by decide +kernel
theorem dX11_perform_34 : decode cX11_perform 34 = .ok (.aload_n 2, 1) := by decide +kernel
theorem dX11_perform_35 : decode cX11_perform 35 = .ok (.invokevirtual 230, 3) := by decide +kernel
theorem dX11_perform_38 : decode cX11_perform 38 = .ok (.iconst 1, 1) := by decide +kernel
theorem dX11_perform_39 : decode cX11_perform 39 = .ok (.ireturn, 1) := by decide +kernel
theorem dX11_perform_40 : decode cX11_perform 40 = .ok (.aload_n 0, 1) := by decide +kernel
theorem dX11_perform_41 : decode cX11_perform 41 = .ok (.dup, 1) := by decide +kernel
theorem dX11_perform_42 : decode cX11_perform 42 = .ok (.getfield 205, 3) := by decide +kernel
theorem dX11_perform_45 : decode cX11_perform 45 = .ok (.aload_n 0, 1) := by decide +kernel
theorem dX11_perform_46 : decode cX11_perform 46 = .ok (.getfield 121, 3) := by decide +kernel
theorem dX11_perform_49 : decode cX11_perform 49 = .ok (.ifCond .eq 25, 3) := by decide +kernel
theorem dX11_perform_52 : decode cX11_perform 52 = .ok (.aload_n 0, 1) := by decide +kernel
theorem dX11_perform_53 : decode cX11_perform 53 = .ok (.getfield 40, 3) := by decide +kernel
theorem dX11_perform_56 : decode cX11_perform 56 = .ok (.aload_n 1, 1) := by decide +kernel
theorem dX11_perform_57 : decode cX11_perform 57 = .ok (.getfield 234, 3) := by decide +kernel
