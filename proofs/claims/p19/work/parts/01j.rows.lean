theorem dL_ends_5 : decode cL_ends 5 = .ok (.aload_n 3, 1) := by decide +kernel
theorem dL_ends_6 : decode cL_ends 6 = .ok (.iconst 0, 1) := by decide +kernel
theorem dL_ends_7 : decode cL_ends 7 = .ok (.aload_n 3, 1) := by decide +kernel
theorem dL_ends_8 : decode cL_ends 8 = .ok (.bipush 60, 2) := by decide +kernel
theorem dL_ends_10 : decode cL_ends 10 = .ok (.iaload, 1) := by decide +kernel
theorem dL_ends_11 : decode cL_ends 11 = .ok (.aload_n 0, 1) := by decide +kernel
theorem dL_ends_12 : decode cL_ends 12 = .ok (.invokestatic 64, 3) := by decide +kernel
theorem dL_ends_15 : decode cL_ends 15 = .ok (.aload_n 3, 1) := by decide +kernel
theorem dL_ends_16 : decode cL_ends 16 = .ok (.bipush 60, 2) := by decide +kernel
theorem dL_ends_18 : decode cL_ends 18 = .ok (.iconst 0, 1) := by decide +kernel
theorem dL_ends_19 : decode cL_ends 19 = .ok (.iastore, 1) := by decide +kernel
theorem dL_ends_20 : decode cL_ends 20 = .ok (.aload 6, 2) := by decide +kernel
theorem dL_ends_22 : decode cL_ends 22 = .ok (.iconst 1, 1) := by decide +kernel
theorem dL_ends_23 : decode cL_ends 23 = .ok (.dup2, 1) := by decide +kernel
theorem dL_ends_24 : decode cL_ends 24 = .ok (.iaload, 1) := by decide +kernel
theorem dL_ends_25 : decode cL_ends 25 = .ok (.iconst 1, 1) := by decide +kernel
theorem dL_ends_26 : decode cL_ends 26 = .ok (.iadd, 1) := by decide +kernel
theorem dL_ends_27 : decode cL_ends 27 = .ok (.iastore, 1) := by decide +kernel
theorem dL_ends_28 : decode cL_ends 28 = .ok (.iconst 0, 1) := by decide +kernel
theorem dL_ends_29 : decode cL_ends 29 = .ok (.istore 11, 2) := by decide +kernel
theorem dL_ends_31 : decode cL_ends 31 = .ok (.iconst 0, 1) := by decide +kernel
theorem dL_ends_32 : decode cL_ends 32 = .ok (.istore 12, 2) := by decide +kernel
theorem dL_ends_34 : decode cL_ends 34 = .ok (.iload 12, 2) := by decide +kernel
theorem dL_ends_36 : decode cL_ends 36 = .ok (.aload 6, 2) := by decide +kernel
theorem dL_ends_38 : decode cL_ends 38 = .ok (.iconst 3, 1) := by decide +kernel
theorem dL_ends_39 : decode cL_ends 39 = .ok (.iaload, 1) := by decide +kernel
theorem dL_ends_40 : decode cL_ends 40 = .ok (.if_icmp .ge 198, 3) := by decide +kernel
theorem dL_ends_43 : decode cL_ends 43 = .ok (.aload_n 0, 1) := by decide +kernel
theorem dL_ends_44 : decode cL_ends 44 = .ok (.aload 6, 2) := by decide +kernel
theorem dL_ends_46 : decode cL_ends 46 = .ok (.aload 4, 2) := by decide +kernel
theorem dL_ends_48 : decode cL_ends 48 = .ok (.iload 12, 2) := by decide +kernel
theorem dL_ends_50 : decode cL_ends 50 = .ok (.invokestatic 155, 3) := by decide +kernel
theorem dL_ends_53 : decode cL_ends 53 = .ok (.ifCond .eq 179, 3) := by decide +kernel
theorem dL_ends_56 : decode cL_ends 56 = .ok (.iload 11, 2) := by decide +kernel
theorem dL_ends_58 : decode cL_ends 58 = .ok (.iconst 1, 1) := by decide +kernel
theorem dL_ends_59 : decode cL_ends 59 = .ok (.iload 12, 2) := by decide +kernel
theorem dL_ends_61 : decode cL_ends 61 = .ok (.ishl, 1) := by decide +kernel
theorem dL_ends_62 : decode cL_ends 62 = .ok (.ior, 1) := by decide +kernel
theorem dL_ends_63 : decode cL_ends 63 = .ok (.istore 11, 2) := by decide +kernel
theorem dL_ends_65 : decode cL_ends 65 = .ok (.bipush 6, 2) := by decide +kernel
theorem dL_ends_67 : decode cL_ends 67 = .ok (.iload 12, 2) := by decide +kernel
theorem dL_ends_69 : decode cL_ends 69 = .ok (.imul, 1) := by decide +kernel
theorem dL_ends_70 : decode cL_ends 70 = .ok (.istore 13, 2) := by decide +kernel
theorem dL_ends_72 : decode cL_ends 72 = .ok (.iload 13, 2) := by decide +kernel
theorem dL_ends_74 : decode cL_ends 74 = .ok (.bipush 6, 2) := by decide +kernel
theorem dL_ends_76 : decode cL_ends 76 = .ok (.iload 12, 2) := by decide +kernel
theorem dL_ends_78 : decode cL_ends 78 = .ok (.imul, 1) := by decide +kernel
theorem dL_ends_79 : decode cL_ends 79 = .ok (.aload 4, 2) := by decide +kernel
theorem dL_ends_81 : decode cL_ends 81 = .ok (.iconst 5, 1) := by decide +kernel
theorem dL_ends_82 : decode cL_ends 82 = .ok (.iload 12, 2) := by decide +kernel
theorem dL_ends_84 : decode cL_ends 84 = .ok (.imul, 1) := by decide +kernel
theorem dL_ends_85 : decode cL_ends 85 = .ok (.iconst 4, 1) := by decide +kernel
theorem dL_ends_86 : decode cL_ends 86 = .ok (.iadd, 1) := by decide +kernel
theorem dL_ends_87 : decode cL_ends 87 = .ok (.iaload, 1) := by decide +kernel
theorem dL_ends_88 : decode cL_ends 88 = .ok (.iadd, 1) := by decide +kernel
theorem dL_ends_89 : decode cL_ends 89 = .ok (.if_icmp .ge 143, 3) := by decide +kernel
theorem dL_ends_92 : decode cL_ends 92 = .ok (.aload 5, 2) := by decide +kernel
theorem dL_ends_94 : decode cL_ends 94 = .ok (.iload 13, 2) := by decide +kernel
theorem dL_ends_96 : decode cL_ends 96 = .ok (.laload, 1) := by decide +kernel
theorem dL_ends_97 : decode cL_ends 97 = .ok (.ldc2_w 99, 3) := by decide +kernel
theorem dL_ends_100 : decode cL_ends 100 = .ok (.lrem, 1) := by decide +kernel
theorem dL_ends_101 : decode cL_ends 101 = .ok (.l2i, 1) := by decide +kernel
theorem dL_ends_102 : decode cL_ends 102 = .ok (.istore 14, 2) := by decide +kernel
theorem dL_ends_104 : decode cL_ends 104 = .ok (.aload 5, 2) := by decide +kernel
theorem dL_ends_106 : decode cL_ends 106 = .ok (.iload 13, 2) := by decide +kernel
theorem dL_ends_108 : decode cL_ends 108 = .ok (.laload, 1) := by decide +kernel
theorem dL_ends_109 : decode cL_ends 109 = .ok (.ldc2_w 99, 3) := by decide +kernel
theorem dL_ends_112 : decode cL_ends 112 = .ok (.ldiv, 1) := by decide +kernel
theorem dL_ends_113 : decode cL_ends 113 = .ok (.ldc2_w 159, 3) := by decide +kernel
theorem dL_ends_116 : decode cL_ends 116 = .ok (.lrem, 1) := by decide +kernel
theorem dL_ends_117 : decode cL_ends 117 = .ok (.l2i, 1) := by decide +kernel
theorem dL_ends_118 : decode cL_ends 118 = .ok (.istore 15, 2) := by decide +kernel
theorem dL_ends_120 : decode cL_ends 120 = .ok (.iload 14, 2) := by decide +kernel
theorem dL_ends_122 : decode cL_ends 122 = .ok (.iconst 4, 1) := by decide +kernel
theorem dL_ends_123 : decode cL_ends 123 = .ok (.if_icmp .ne 6, 3) := by decide +kernel
theorem dL_ends_126 : decode cL_ends 126 = .ok (.iload 11, 2) := by decide +kernel
theorem dL_ends_128 : decode cL_ends 128 = .ok (.ireturn, 1) := by decide +kernel
theorem dL_ends_129 : decode cL_ends 129 = .ok (.iload 14, 2) := by decide +kernel
theorem dL_ends_131 : decode cL_ends 131 = .ok (.iconst 3, 1) := by decide +kernel
theorem dL_ends_132 : decode cL_ends 132 = .ok (.if_icmp .ne 7, 3) := by decide +kernel
theorem dL_ends_135 : decode cL_ends 135 = .ok (.iconst 0, 1) := by decide +kernel
theorem dL_ends_136 : decode cL_ends 136 = .ok (.goto 14, 3) := by decide +kernel
theorem dL_ends_139 : decode cL_ends 139 = .ok (.aload_n 0, 1) := by decide +kernel
theorem dL_ends_140 : decode cL_ends 140 = .ok (.aload_n 1, 1) := by decide +kernel
theorem dL_ends_141 : decode cL_ends 141 = .ok (.aload 6, 2) := by decide +kernel
theorem dL_ends_143 : decode cL_ends 143 = .ok (.aload 5, 2) := by decide +kernel
theorem dL_ends_145 : decode cL_ends 145 = .ok (.iload 13, 2) := by decide +kernel
theorem dL_ends_147 : decode cL_ends 147 = .ok (.invokestatic 161, 3) := by decide +kernel
theorem dL_ends_150 : decode cL_ends 150 = .ok (.istore 16, 2) := by decide +kernel
theorem dL_ends_152 : decode cL_ends 152 = .ok (.iload 14, 2) := by decide +kernel
theorem dL_ends_154 : decode cL_ends 154 = .ok (.ifCond .ne 16, 3) := by decide +kernel
theorem dL_ends_157 : decode cL_ends 157 = .ok (.aload_n 0, 1) := by decide +kernel
theorem dL_ends_158 : decode cL_ends 158 = .ok (.aload_n 1, 1) := by decide +kernel
theorem dL_ends_159 : decode cL_ends 159 = .ok (.aload_n 2, 1) := by decide +kernel
theorem dL_ends_160 : decode cL_ends 160 = .ok (.aload 6, 2) := by decide +kernel
theorem dL_ends_162 : decode cL_ends 162 = .ok (.iload 15, 2) := by decide +kernel
theorem dL_ends_164 : decode cL_ends 164 = .ok (.invokestatic 165, 3) := by decide +kernel
theorem dL_ends_167 : decode cL_ends 167 = .ok (.goto 59, 3) := by decide +kernel
theorem dL_ends_170 : decode cL_ends 170 = .ok (.iload 14, 2) := by decide +kernel
theorem dL_ends_172 : decode cL_ends 172 = .ok (.iconst 1, 1) := by decide +kernel
theorem dL_ends_173 : decode cL_ends 173 = .ok (.if_icmp .ne 22, 3) := by decide +kernel
theorem dL_ends_176 : decode cL_ends 176 = .ok (.aload_n 0, 1) := by decide +kernel
theorem dL_ends_177 : decode cL_ends 177 = .ok (.aload 6, 2) := by decide +kernel
theorem dL_ends_179 : decode cL_ends 179 = .ok (.aload 7, 2) := by decide +kernel
theorem dL_ends_181 : decode cL_ends 181 = .ok (.aload 8, 2) := by decide +kernel
theorem dL_ends_183 : decode cL_ends 183 = .ok (.aload 9, 2) := by decide +kernel
theorem dL_ends_185 : decode cL_ends 185 = .ok (.iload 15, 2) := by decide +kernel
theorem dL_ends_187 : decode cL_ends 187 = .ok (.iload 16, 2) := by decide +kernel
theorem dL_ends_189 : decode cL_ends 189 = .ok (.invokestatic 169, 3) := by decide +kernel
theorem dL_ends_192 : decode cL_ends 192 = .ok (.goto 34, 3) := by decide +kernel
theorem dL_ends_195 : decode cL_ends 195 = .ok (.iload 14, 2) := by decide +kernel
theorem dL_ends_197 : decode cL_ends 197 = .ok (.iconst 2, 1) := by decide +kernel
theorem dL_ends_198 : decode cL_ends 198 = .ok (.if_icmp .ne 14, 3) := by decide +kernel
theorem dL_ends_201 : decode cL_ends 201 = .ok (.aload_n 1, 1) := by decide +kernel
theorem dL_ends_202 : decode cL_ends 202 = .ok (.aload 6, 2) := by decide +kernel
theorem dL_ends_204 : decode cL_ends 204 = .ok (.aload 10, 2) := by decide +kernel
theorem dL_ends_206 : decode cL_ends 206 = .ok (.invokestatic 173, 3) := by decide +kernel
theorem dL_ends_209 : decode cL_ends 209 = .ok (.goto 17, 3) := by decide +kernel
theorem dL_ends_212 : decode cL_ends 212 = .ok (.aload_n 0, 1) := by decide +kernel
theorem dL_ends_213 : decode cL_ends 213 = .ok (.aload 6, 2) := by decide +kernel
theorem dL_ends_215 : decode cL_ends 215 = .ok (.aload 7, 2) := by decide +kernel
theorem dL_ends_217 : decode cL_ends 217 = .ok (.aload 8, 2) := by decide +kernel
theorem dL_ends_219 : decode cL_ends 219 = .ok (.aload 9, 2) := by decide +kernel
theorem dL_ends_221 : decode cL_ends 221 = .ok (.iload 15, 2) := by decide +kernel
theorem dL_ends_223 : decode cL_ends 223 = .ok (.invokestatic 177, 3) := by decide +kernel
theorem dL_ends_226 : decode cL_ends 226 = .ok (.iinc 13 1, 3) := by decide +kernel
theorem dL_ends_229 : decode cL_ends 229 = .ok (.goto (-157), 3) := by decide +kernel
theorem dL_ends_232 : decode cL_ends 232 = .ok (.iinc 12 1, 3) := by decide +kernel
theorem dL_ends_235 : decode cL_ends 235 = .ok (.goto (-201), 3) := by decide +kernel
theorem dL_ends_238 : decode cL_ends 238 = .ok (.iload 11, 2) := by decide +kernel
theorem dL_ends_240 : decode cL_ends 240 = .ok (.ireturn, 1) := by decide +kernel
set_option maxRecDepth 20000 in
theorem ggL_isRecord_X11_fields : GoodIn wsL_isRecord wsX11_fields := goodIn_r _ [6, 7, 338, 339, 340, 341, 342, 343, 344, 345, 346, 347, 348, 349, 350, 351] (by decide +kernel) (by decide +kernel)
set_option maxRecDepth 20000 in
theorem gL_isRecord_X11_fields : GoodIn wsL_isRecord (wsV RL 181 RX11 yX11_fields wsX11_fields) := goodIn_app (goodIn_of _ (by decide +kernel)) ggL_isRecord_X11_fields
set_option maxRecDepth 20000 in
theorem ggL_isRecord_L_fields : GoodIn wsL_isRecord wsL_fields := goodIn_r _ [11] (by decide +kernel) (by decide +kernel)
set_option maxRecDepth 20000 in
theorem gL_isRecord_L_fields : GoodIn wsL_isRecord (va_wsS RL 54 yL_fields wsL_fields) := goodIn_app (goodIn_of _ (by decide +kernel)) ggL_isRecord_L_fields
set_option maxRecDepth 20000 in
theorem ggL_isRecord_X11_faults : GoodIn wsL_isRecord wsX11_faults := goodIn_r _ [15, 16, 338, 339, 340, 341, 342, 343, 344, 345, 346] (by decide +kernel) (by decide +kernel)
set_option maxRecDepth 20000 in
theorem gL_isRecord_X11_faults : GoodIn wsL_isRecord (wsV RL 184 RX11 yX11_faults wsX11_faults) := goodIn_app (goodIn_of _ (by decide +kernel)) ggL_isRecord_X11_faults
set_option maxRecDepth 20000 in
theorem ggL_isRecord_L_does : GoodIn wsL_isRecord wsL_does := goodIn_ca (goodIn_ca (goodIn_ca (goodIn_r _ [19, 20, 21, 22, 1, 23, 24, 25, 26, 27, 5, 28, 29, 30, 31, 32, 33, 34, 35, 36, 37, 38, 39, 40, 41, 42, 43, 44, 45, 46, 47, 48, 49, 50, 51, 52, 53, 54, 55, 56, 57, 58, 59, 60, 61, 62, 63, 64, 65, 66, 67, 68, 69, 70, 71, 72, 73, 74, 75, 76, 77, 78, 79, 80, 81, 82, 83, 84, 85, 86, 87, 88, 89, 90, 91, 92, 93, 94, 95, 96, 97, 98, 99, 100, 101, 102, 103, 104, 105, 106, 107, 108, 109, 110, 111, 112, 113, 114, 115, 116, 117, 118, 119, 120, 121, 122, 123, 124, 125, 126, 127, 128, 129, 130, 131, 132, 133, 134, 135, 136, 137, 138, 139, 140, 141, 142, 143, 144, 145, 146, 147, 148, 149, 150, 151, 152, 153, 154, 155, 156, 157, 158, 159, 160, 161, 162, 163, 164, 165, 166, 167, 168, 169, 170, 171, 172, 173, 174, 175, 176, 177, 178, 179, 180, 181, 182, 183, 184, 185, 186, 187, 188, 189, 190, 191, 192, 193, 194, 195, 196, 197, 198, 199, 200, 201, 202, 203, 204, 205, 206, 207, 7, 208, 209, 210, 211, 212, 213, 214, 215, 216, 217, 218, 219, 220, 221, 222, 223, 224, 225, 226, 227, 228, 229, 230, 231, 232, 233, 234, 235, 236, 237, 238, 239, 240, 241, 242, 243, 244, 245, 246, 247, 248, 249, 250, 251, 252, 253, 254, 255, 256, 257, 258, 259, 260, 261, 262, 263, 264, 265, 266, 267, 268, 269, 270, 271, 272, 273, 274, 275, 276, 277, 278, 279, 280, 281, 282, 283, 284, 285, 286, 287, 288, 289, 290, 291, 292, 293, 294, 295, 296, 297, 298, 299, 300, 301, 302, 303, 304, 305, 306, 307, 308, 309, 310, 311, 312, 313, 314, 315, 316, 317, 318, 319, 320, 321, 322, 323, 324, 325, 326, 327, 328, 329, 330, 331, 338, 339, 340, 341, 342, 343, 344, 345, 346, 352, 353, 354, 355, 356, 357, 358, 359, 360, 361, 362, 363, 364, 365, 366, 367, 368, 369, 370, 347, 348, 349, 350, 351, 371, 372, 373, 374, 375, 376, 377] (by decide +kernel) (by decide +kernel)) (goodIn_sub (fun _ h => List.mem_cons_of_mem _ (List.mem_append_left _ (List.mem_append_left _ (List.mem_append_right _ h)))) (by decide +kernel))) (goodIn_sub (fun _ h => List.mem_cons_of_mem _ (List.mem_append_left _ (List.mem_append_right _ h))) (by decide +kernel))) (goodIn_sub (fun _ h => List.mem_cons_of_mem _ (List.mem_append_right _ h)) (by decide +kernel))
set_option maxRecDepth 20000 in
theorem gL_isRecord_L_does : GoodIn wsL_isRecord (va_wsS RL 187 yL_does wsL_does) := goodIn_app (goodIn_of _ (by decide +kernel)) ggL_isRecord_L_does
set_option maxRecDepth 20000 in
theorem ggL_isRecord_L_edge : GoodIn wsL_isRecord wsL_edge := goodIn_r _ [334, 8, 9, 10, 11] (by decide +kernel) (by decide +kernel)
set_option maxRecDepth 20000 in
theorem gL_isRecord_L_edge : GoodIn wsL_isRecord (va_wsS RL 68 yL_edge wsL_edge) := goodIn_app (goodIn_of _ (by decide +kernel)) ggL_isRecord_L_edge
set_option maxRecDepth 20000 in
theorem ggL_isRecord_X11_number : GoodIn wsL_isRecord wsX11_number := goodIn_ca (goodIn_r _ [283, 7, 251, 252, 5, 253, 135, 136, 40, 41, 42, 284, 233, 234, 217, 235, 219, 220, 285, 286, 287, 182, 288, 191, 289, 290, 291, 292, 227, 293, 229, 230, 231, 338, 339, 340, 341, 342, 343, 344, 345, 346, 347, 348, 349, 350, 351, 369, 370] (by decide +kernel) (by decide +kernel)) (goodIn_sub (fun _ h => List.mem_cons_of_mem _ (List.mem_append_right _ h)) (by decide +kernel))
set_option maxRecDepth 20000 in
theorem gL_isRecord_X11_number : GoodIn wsL_isRecord (wsV RL 29 RX11 yX11_number wsX11_number) := goodIn_app (goodIn_of _ (by decide +kernel)) ggL_isRecord_X11_number
set_option maxRecDepth 20000 in
theorem ggL_isRecord_L_number : GoodIn wsL_isRecord wsL_number := goodIn_r _ [337] (by decide +kernel) (by decide +kernel)
set_option maxRecDepth 20000 in
theorem gL_isRecord_L_number : GoodIn wsL_isRecord (va_wsS RL 80 yL_number wsL_number) := goodIn_app (goodIn_of _ (by decide +kernel)) ggL_isRecord_L_number
set_option maxRecDepth 20000 in
theorem ggL_isRecord_X11_character : GoodIn wsL_isRecord wsX11_character := goodIn_ca (goodIn_r _ [297, 7, 251, 252, 5, 253, 135, 136, 40, 41, 42, 284, 233, 234, 217, 235, 219, 220, 298, 299, 300, 301, 302, 303, 304, 229, 230, 182, 231, 227, 191, 338, 339, 340, 341, 342, 343, 344, 345, 346, 347, 348, 349, 350, 351, 369, 370] (by decide +kernel) (by decide +kernel)) (goodIn_sub (fun _ h => List.mem_cons_of_mem _ (List.mem_append_right _ h)) (by decide +kernel))
set_option maxRecDepth 20000 in
theorem gL_isRecord_X11_character : GoodIn wsL_isRecord (wsV RL 32 RX11 yX11_character wsX11_character) := goodIn_app (goodIn_of _ (by decide +kernel)) ggL_isRecord_X11_character
theorem dL_isRecord_0 : decode cL_isRecord 0 = .ok (.aload_n 0, 1) := by decide +kernel
theorem dL_isRecord_1 : decode cL_isRecord 1 = .ok (.invokevirtual 181, 3) := by decide +kernel
theorem dL_isRecord_4 : decode cL_isRecord 4 = .ok (.aload_n 1, 1) := by decide +kernel
theorem dL_isRecord_5 : decode cL_isRecord 5 = .ok (.aload_n 2, 1) := by decide +kernel
theorem dL_isRecord_6 : decode cL_isRecord 6 = .ok (.invokestatic 54, 3) := by decide +kernel
theorem dL_isRecord_9 : decode cL_isRecord 9 = .ok (.if_icmp .ne 45, 3) := by decide +kernel
theorem dL_isRecord_12 : decode cL_isRecord 12 = .ok (.aload_n 0, 1) := by decide +kernel
theorem dL_isRecord_13 : decode cL_isRecord 13 = .ok (.invokevirtual 184, 3) := by decide +kernel
theorem dL_isRecord_16 : decode cL_isRecord 16 = .ok (.aload_n 2, 1) := by decide +kernel
theorem dL_isRecord_17 : decode cL_isRecord 17 = .ok (.iconst 2, 1) := by decide +kernel
theorem dL_isRecord_18 : decode cL_isRecord 18 = .ok (.iaload, 1) := by decide +kernel
theorem dL_isRecord_19 : decode cL_isRecord 19 = .ok (.if_icmp .ne 35, 3) := by decide +kernel
theorem dL_isRecord_22 : decode cL_isRecord 22 = .ok (.aload_n 0, 1) := by decide +kernel
theorem dL_isRecord_23 : decode cL_isRecord 23 = .ok (.iconst 5, 1) := by decide +kernel
theorem dL_isRecord_24 : decode cL_isRecord 24 = .ok (.bipush 13, 2) := by decide +kernel
theorem dL_isRecord_26 : decode cL_isRecord 26 = .ok (.iconst 0, 1) := by decide +kernel
theorem dL_isRecord_27 : decode cL_isRecord 27 = .ok (.iconst 0, 1) := by decide +kernel
theorem dL_isRecord_28 : decode cL_isRecord 28 = .ok (.invokestatic 187, 3) := by decide +kernel
theorem dL_isRecord_31 : decode cL_isRecord 31 = .ok (.ldc 47, 2) := by decide +kernel
theorem dL_isRecord_33 : decode cL_isRecord 33 = .ok (.if_icmp .ne 21, 3) := by decide +kernel
theorem dL_isRecord_36 : decode cL_isRecord 36 = .ok (.aload_n 0, 1) := by decide +kernel
theorem dL_isRecord_37 : decode cL_isRecord 37 = .ok (.bipush 6, 2) := by decide +kernel
theorem dL_isRecord_39 : decode cL_isRecord 39 = .ok (.iconst (-1), 1) := by decide +kernel
theorem dL_isRecord_40 : decode cL_isRecord 40 = .ok (.iconst 0, 1) := by decide +kernel
theorem dL_isRecord_41 : decode cL_isRecord 41 = .ok (.iconst 0, 1) := by decide +kernel
theorem dL_isRecord_42 : decode cL_isRecord 42 = .ok (.invokestatic 187, 3) := by decide +kernel
theorem dL_isRecord_45 : decode cL_isRecord 45 = .ok (.ldc 47, 2) := by decide +kernel
theorem dL_isRecord_47 : decode cL_isRecord 47 = .ok (.if_icmp .ne 7, 3) := by decide +kernel
theorem dL_isRecord_50 : decode cL_isRecord 50 = .ok (.iconst 1, 1) := by decide +kernel
theorem dL_isRecord_51 : decode cL_isRecord 51 = .ok (.goto 4, 3) := by decide +kernel
theorem dL_isRecord_54 : decode cL_isRecord 54 = .ok (.iconst 0, 1) := by decide +kernel
theorem dL_isRecord_55 : decode cL_isRecord 55 = .ok (.istore_n 3, 1) := by decide +kernel
theorem dL_isRecord_56 : decode cL_isRecord 56 = .ok (.iconst 0, 1) := by decide +kernel
theorem dL_isRecord_57 : decode cL_isRecord 57 = .ok (.istore 4, 2) := by decide +kernel
theorem dL_isRecord_59 : decode cL_isRecord 59 = .ok (.iload 4, 2) := by decide +kernel
theorem dL_isRecord_61 : decode cL_isRecord 61 = .ok (.bipush 13, 2) := by decide +kernel
theorem dL_isRecord_63 : decode cL_isRecord 63 = .ok (.if_icmp .ge 135, 3) := by decide +kernel
theorem dL_isRecord_66 : decode cL_isRecord 66 = .ok (.iload_n 3, 1) := by decide +kernel
theorem dL_isRecord_67 : decode cL_isRecord 67 = .ok (.ifCond .eq 131, 3) := by decide +kernel
theorem dL_isRecord_70 : decode cL_isRecord 70 = .ok (.aload_n 1, 1) := by decide +kernel
theorem dL_isRecord_71 : decode cL_isRecord 71 = .ok (.aload_n 2, 1) := by decide +kernel
theorem dL_isRecord_72 : decode cL_isRecord 72 = .ok (.iload 4, 2) := by decide +kernel
theorem dL_isRecord_74 : decode cL_isRecord 74 = .ok (.iconst 0, 1) := by decide +kernel
theorem dL_isRecord_75 : decode cL_isRecord 75 = .ok (.invokestatic 68, 3) := by decide +kernel
theorem dL_isRecord_78 : decode cL_isRecord 78 = .ok (.istore 5, 2) := by decide +kernel
theorem dL_isRecord_80 : decode cL_isRecord 80 = .ok (.aload_n 1, 1) := by decide +kernel
theorem dL_isRecord_81 : decode cL_isRecord 81 = .ok (.aload_n 2, 1) := by decide +kernel
theorem dL_isRecord_82 : decode cL_isRecord 82 = .ok (.iload 4, 2) := by decide +kernel
theorem dL_isRecord_84 : decode cL_isRecord 84 = .ok (.iconst 1, 1) := by decide +kernel
theorem dL_isRecord_85 : decode cL_isRecord 85 = .ok (.invokestatic 68, 3) := by decide +kernel
theorem dL_isRecord_88 : decode cL_isRecord 88 = .ok (.istore 6, 2) := by decide +kernel
theorem dL_isRecord_90 : decode cL_isRecord 90 = .ok (.aload_n 0, 1) := by decide +kernel
theorem dL_isRecord_91 : decode cL_isRecord 91 = .ok (.iload 4, 2) := by decide +kernel
theorem dL_isRecord_93 : decode cL_isRecord 93 = .ok (.invokevirtual 29, 3) := by decide +kernel
theorem dL_isRecord_96 : decode cL_isRecord 96 = .ok (.aload_n 1, 1) := by decide +kernel
theorem dL_isRecord_97 : decode cL_isRecord 97 = .ok (.iload 5, 2) := by decide +kernel
theorem dL_isRecord_99 : decode cL_isRecord 99 = .ok (.iload 6, 2) := by decide +kernel
theorem dL_isRecord_101 : decode cL_isRecord 101 = .ok (.invokestatic 80, 3) := by decide +kernel
theorem dL_isRecord_104 : decode cL_isRecord 104 = .ok (.if_icmp .ne 41, 3) := by decide +kernel
theorem dL_isRecord_107 : decode cL_isRecord 107 = .ok (.aload_n 0, 1) := by decide +kernel
theorem dL_isRecord_108 : decode cL_isRecord 108 = .ok (.bipush 6, 2) := by decide +kernel
theorem dL_isRecord_110 : decode cL_isRecord 110 = .ok (.iload 4, 2) := by decide +kernel
theorem dL_isRecord_112 : decode cL_isRecord 112 = .ok (.iload 6, 2) := by decide +kernel
theorem dL_isRecord_114 : decode cL_isRecord 114 = .ok (.iload 5, 2) := by decide +kernel
theorem dL_isRecord_116 : decode cL_isRecord 116 = .ok (.isub, 1) := by decide +kernel
theorem dL_isRecord_117 : decode cL_isRecord 117 = .ok (.iconst 0, 1) := by decide +kernel
theorem dL_isRecord_118 : decode cL_isRecord 118 = .ok (.invokestatic 187, 3) := by decide +kernel
theorem dL_isRecord_121 : decode cL_isRecord 121 = .ok (.ldc 47, 2) := by decide +kernel
theorem dL_isRecord_123 : decode cL_isRecord 123 = .ok (.if_icmp .ne 22, 3) := by decide +kernel
theorem dL_isRecord_126 : decode cL_isRecord 126 = .ok (.aload_n 0, 1) := by decide +kernel
theorem dL_isRecord_127 : decode cL_isRecord 127 = .ok (.bipush 6, 2) := by decide +kernel
theorem dL_isRecord_129 : decode cL_isRecord 129 = .ok (.iload 4, 2) := by decide +kernel
theorem dL_isRecord_131 : decode cL_isRecord 131 = .ok (.iconst (-1), 1) := by decide +kernel
theorem dL_isRecord_132 : decode cL_isRecord 132 = .ok (.iconst 0, 1) := by decide +kernel
theorem dL_isRecord_133 : decode cL_isRecord 133 = .ok (.invokestatic 187, 3) := by decide +kernel
theorem dL_isRecord_136 : decode cL_isRecord 136 = .ok (.ldc 47, 2) := by decide +kernel
theorem dL_isRecord_138 : decode cL_isRecord 138 = .ok (.if_icmp .ne 7, 3) := by decide +kernel
theorem dL_isRecord_141 : decode cL_isRecord 141 = .ok (.iconst 1, 1) := by decide +kernel
theorem dL_isRecord_142 : decode cL_isRecord 142 = .ok (.goto 4, 3) := by decide +kernel
theorem dL_isRecord_145 : decode cL_isRecord 145 = .ok (.iconst 0, 1) := by decide +kernel
theorem dL_isRecord_146 : decode cL_isRecord 146 = .ok (.istore_n 3, 1) := by decide +kernel
theorem dL_isRecord_147 : decode cL_isRecord 147 = .ok (.iload 5, 2) := by decide +kernel
theorem dL_isRecord_149 : decode cL_isRecord 149 = .ok (.istore 7, 2) := by decide +kernel
theorem dL_isRecord_151 : decode cL_isRecord 151 = .ok (.iload 7, 2) := by decide +kernel
theorem dL_isRecord_153 : decode cL_isRecord 153 = .ok (.iload 6, 2) := by decide +kernel
theorem dL_isRecord_155 : decode cL_isRecord 155 = .ok (.if_icmp .ge 37, 3) := by decide +kernel
theorem dL_isRecord_158 : decode cL_isRecord 158 = .ok (.iload_n 3, 1) := by decide +kernel
theorem dL_isRecord_159 : decode cL_isRecord 159 = .ok (.ifCond .eq 33, 3) := by decide +kernel
theorem dL_isRecord_162 : decode cL_isRecord 162 = .ok (.aload_n 0, 1) := by decide +kernel
theorem dL_isRecord_163 : decode cL_isRecord 163 = .ok (.iload 4, 2) := by decide +kernel
theorem dL_isRecord_165 : decode cL_isRecord 165 = .ok (.iload 7, 2) := by decide +kernel
theorem dL_isRecord_167 : decode cL_isRecord 167 = .ok (.iload 5, 2) := by decide +kernel
theorem dL_isRecord_169 : decode cL_isRecord 169 = .ok (.isub, 1) := by decide +kernel
theorem dL_isRecord_170 : decode cL_isRecord 170 = .ok (.invokevirtual 32, 3) := by decide +kernel
theorem dL_isRecord_173 : decode cL_isRecord 173 = .ok (.aload_n 1, 1) := by decide +kernel
theorem dL_isRecord_174 : decode cL_isRecord 174 = .ok (.iload 7, 2) := by decide +kernel
theorem dL_isRecord_176 : decode cL_isRecord 176 = .ok (.iaload, 1) := by decide +kernel
theorem dL_isRecord_177 : decode cL_isRecord 177 = .ok (.if_icmp .ne 7, 3) := by decide +kernel
theorem dL_isRecord_180 : decode cL_isRecord 180 = .ok (.iconst 1, 1) := by decide +kernel
theorem dL_isRecord_181 : decode cL_isRecord 181 = .ok (.goto 4, 3) := by decide +kernel
theorem dL_isRecord_184 : decode cL_isRecord 184 = .ok (.iconst 0, 1) := by decide +kernel
theorem dL_isRecord_185 : decode cL_isRecord 185 = .ok (.istore_n 3, 1) := by decide +kernel
theorem dL_isRecord_186 : decode cL_isRecord 186 = .ok (.iinc 7 1, 3) := by decide +kernel
theorem dL_isRecord_189 : decode cL_isRecord 189 = .ok (.goto (-38), 3) := by decide +kernel
theorem dL_isRecord_192 : decode cL_isRecord 192 = .ok (.iinc 4 1, 3) := by decide +kernel
theorem dL_isRecord_195 : decode cL_isRecord 195 = .ok (.goto (-136), 3) := by decide +kernel
theorem dL_isRecord_198 : decode cL_isRecord 198 = .ok (.iload_n 3, 1) := by decide +kernel
theorem dL_isRecord_199 : decode cL_isRecord 199 = .ok (.ireturn, 1) := by decide +kernel
set_option maxRecDepth 20000 in
theorem ggL_areRows_X11_rows : GoodIn wsL_areRows wsX11_rows := goodIn_r _ [8, 9, 343, 344, 345, 346, 347, 348, 349, 350, 351, 352, 353] (by decide +kernel) (by decide +kernel)
set_option maxRecDepth 20000 in
theorem gL_areRows_X11_rows : GoodIn wsL_areRows (wsV RL 191 RX11 yX11_rows wsX11_rows) := goodIn_app (goodIn_of _ (by decide +kernel)) ggL_areRows_X11_rows
set_option maxRecDepth 20000 in
theorem ggL_areRows_X11_lines : GoodIn wsL_areRows wsX11_lines := goodIn_r _ [13, 14, 343, 344, 345, 346, 347, 348, 349, 350, 351, 354, 355, 356] (by decide +kernel) (by decide +kernel)
set_option maxRecDepth 20000 in
theorem gL_areRows_X11_lines : GoodIn wsL_areRows (wsV RL 194 RX11 yX11_lines wsX11_lines) := goodIn_app (goodIn_of _ (by decide +kernel)) ggL_areRows_X11_lines
set_option maxRecDepth 20000 in
theorem ggL_areRows_L_does : GoodIn wsL_areRows wsL_does := goodIn_ca (goodIn_ca (goodIn_ca (goodIn_r _ [18, 19, 20, 21, 1, 22, 23, 24, 25, 26, 7, 27, 28, 29, 30, 31, 32, 33, 34, 35, 36, 37, 38, 39, 40, 41, 42, 43, 44, 45, 46, 47, 48, 49, 50, 51, 52, 53, 54, 55, 56, 57, 58, 59, 60, 61, 62, 63, 64, 65, 66, 67, 68, 69, 70, 71, 72, 73, 74, 75, 76, 77, 78, 79, 80, 81, 82, 83, 84, 85, 86, 87, 88, 89, 90, 91, 92, 93, 94, 95, 96, 97, 98, 99, 100, 101, 102, 103, 104, 105, 106, 107, 108, 109, 110, 111, 112, 113, 114, 115, 116, 117, 118, 119, 120, 121, 122, 123, 124, 125, 126, 127, 128, 129, 130, 131, 132, 133, 134, 135, 136, 137, 138, 139, 140, 141, 142, 143, 144, 145, 146, 147, 148, 149, 150, 151, 152, 153, 154, 155, 156, 157, 158, 159, 160, 161, 162, 163, 164, 165, 166, 167, 168, 169, 170, 171, 172, 173, 174, 175, 176, 177, 178, 179, 180, 181, 182, 183, 184, 185, 186, 187, 188, 189, 190, 191, 192, 193, 194, 195, 196, 197, 198, 199, 200, 201, 202, 203, 204, 205, 206, 207, 208, 209, 210, 211, 212, 213, 214, 215, 216, 217, 218, 219, 220, 221, 222, 223, 224, 225, 226, 227, 228, 229, 230, 231, 232, 233, 234, 235, 236, 237, 238, 239, 240, 241, 242, 243, 244, 245, 246, 247, 248, 249, 250, 251, 252, 253, 254, 255, 256, 257, 258, 259, 260, 261, 262, 263, 264, 265, 266, 267, 268, 269, 270, 271, 272, 273, 274, 275, 276, 277, 278, 279, 280, 281, 282, 283, 284, 285, 286, 287, 288, 289, 290, 291, 292, 293, 294, 295, 296, 297, 298, 299, 300, 301, 302, 303, 304, 305, 306, 307, 308, 9, 309, 310, 311, 312, 313, 314, 315, 316, 317, 318, 319, 320, 321, 322, 14, 323, 324, 325, 326, 327, 328, 329, 343, 344, 345, 346, 347, 348, 349, 350, 351, 357, 358, 359, 360, 361, 362, 363, 364, 365, 366, 367, 368, 369, 370, 371, 372, 373, 374, 375, 376, 377, 378, 379, 380, 352, 353, 381, 382, 354, 355, 356] (by decide +kernel) (by decide +kernel)) (goodIn_sub (fun _ h => List.mem_cons_of_mem _ (List.mem_append_left _ (List.mem_append_left _ (List.mem_append_right _ h)))) (by decide +kernel))) (goodIn_sub (fun _ h => List.mem_cons_of_mem _ (List.mem_append_left _ (List.mem_append_right _ h))) (by decide +kernel))) (goodIn_sub (fun _ h => List.mem_cons_of_mem _ (List.mem_append_right _ h)) (by decide +kernel))
set_option maxRecDepth 20000 in
theorem gL_areRows_L_does : GoodIn wsL_areRows (va_wsS RL 187 yL_does wsL_does) := goodIn_app (goodIn_of _ (by decide +kernel)) ggL_areRows_L_does
set_option maxRecDepth 20000 in
theorem ggL_areRows_X11_row : GoodIn wsL_areRows wsX11_row := goodIn_ca (goodIn_r _ [308, 9, 301, 302, 7, 303, 134, 135, 309, 310, 311, 312, 313, 314, 343, 344, 345, 346, 347, 348, 349, 350, 351, 352, 353, 381, 382] (by decide +kernel) (by decide +kernel)) (goodIn_sub (fun _ h => List.mem_cons_of_mem _ (List.mem_append_right _ h)) (by decide +kernel))
set_option maxRecDepth 20000 in
theorem gL_areRows_X11_row : GoodIn wsL_areRows (wsV RL 36 RX11 yX11_row wsX11_row) := goodIn_app (goodIn_of _ (by decide +kernel)) ggL_areRows_X11_row
set_option maxRecDepth 20000 in
theorem ggL_areRows_L_isKey : GoodIn wsL_areRows wsL_isKey := goodIn_ca (goodIn_ca (goodIn_ca (goodIn_r _ [332, 1, 15, 16, 17, 18, 19, 20, 21, 22, 23, 24, 25, 26, 7, 27, 28, 29, 30, 31, 32, 33, 34, 35, 36, 37, 38, 39, 40, 41, 42, 43, 44, 45, 46, 47, 48, 49, 50, 51, 52, 53, 54, 55, 56, 57, 58, 59, 60, 61, 62, 63, 64, 65, 66, 67, 68, 69, 70, 71, 72, 73, 74, 75, 76, 77, 78, 79, 80, 81, 82, 83, 84, 85, 86, 87, 88, 89, 90, 91, 92, 93, 94, 95, 96, 97, 98, 99, 100, 101, 102, 103, 104, 105, 106, 107, 108, 109, 110, 111, 112, 113, 114, 115, 116, 117, 118, 119, 120, 121, 122, 123, 124, 125, 126, 127, 128, 129, 130, 131, 132, 133, 134, 135, 136, 137, 138, 139, 140, 141, 142, 143, 144, 145, 146, 147, 148, 149, 150, 151, 152, 153, 154, 155, 156, 157, 158, 159, 160, 161, 162, 163, 164, 165, 166, 167, 168, 169, 170, 171, 172, 173, 174, 175, 176, 177, 178, 179, 180, 181, 182, 183, 184, 185, 186, 187, 188, 189, 190, 191, 192, 193, 194, 195, 196, 197, 198, 199, 200, 201, 202, 203, 204, 205, 206, 207, 208, 209, 210, 211, 212, 213, 214, 215, 216, 217, 218, 219, 220, 221, 222, 223, 224, 225, 226, 227, 228, 229, 230, 231, 232, 233, 234, 235, 236, 237, 238, 239, 240, 241, 242, 243, 244, 245, 246, 247, 248, 249, 250, 251, 252, 253, 254, 255, 256, 257, 258, 259, 260, 261, 262, 263, 264, 265, 266, 267, 268, 269, 270, 271, 272, 273, 274, 275, 276, 277, 278, 279, 280, 281, 282, 283, 284, 285, 286, 287, 288, 289, 290, 291, 292, 293, 294, 295, 296, 297, 298, 299, 300, 301, 302, 303, 304, 305, 306, 307, 308, 9, 309, 310, 311, 312, 313, 314, 315, 316, 317, 318, 319, 320, 321, 322, 14, 323, 324, 325, 326, 327, 328, 329, 333, 334, 335, 336, 337, 338, 339, 340, 341, 342, 343, 344, 345, 346, 347, 348, 349, 350, 351, 357, 358, 359, 360, 361, 362, 363, 364, 365, 366, 367, 368, 369, 370, 371, 372, 373, 374, 375, 376, 377, 378, 379, 380, 352, 353, 381, 382, 354, 355, 356] (by decide +kernel) (by decide +kernel)) (goodIn_sub (fun _ h => List.mem_cons_of_mem _ (List.mem_append_left _ (List.mem_append_left _ (List.mem_append_right _ h)))) (by decide +kernel))) (goodIn_sub (fun _ h => List.mem_cons_of_mem _ (List.mem_append_left _ (List.mem_append_right _ h))) (by decide +kernel))) (goodIn_sub (fun _ h => List.mem_cons_of_mem _ (List.mem_append_right _ h)) (by decide +kernel))
set_option maxRecDepth 20000 in
theorem gL_areRows_L_isKey : GoodIn wsL_areRows (va_wsS RL 197 yL_isKey wsL_isKey) := goodIn_app (goodIn_of _ (by decide +kernel)) ggL_areRows_L_isKey
theorem dL_areRows_0 : decode cL_areRows 0 = .ok (.aload_n 0, 1) := by decide +kernel
theorem dL_areRows_1 : decode cL_areRows 1 = .ok (.invokevirtual 191, 3) := by decide +kernel
theorem dL_areRows_4 : decode cL_areRows 4 = .ok (.aload_n 1, 1) := by decide +kernel
theorem dL_areRows_5 : decode cL_areRows 5 = .ok (.iconst 4, 1) := by decide +kernel
theorem dL_areRows_6 : decode cL_areRows 6 = .ok (.iaload, 1) := by decide +kernel
theorem dL_areRows_7 : decode cL_areRows 7 = .ok (.if_icmp .ne 63, 3) := by decide +kernel
theorem dL_areRows_10 : decode cL_areRows 10 = .ok (.aload_n 0, 1) := by decide +kernel
theorem dL_areRows_11 : decode cL_areRows 11 = .ok (.invokevirtual 194, 3) := by decide +kernel
theorem dL_areRows_14 : decode cL_areRows 14 = .ok (.aload_n 1, 1) := by decide +kernel
theorem dL_areRows_15 : decode cL_areRows 15 = .ok (.iconst 5, 1) := by decide +kernel
theorem dL_areRows_16 : decode cL_areRows 16 = .ok (.iaload, 1) := by decide +kernel
theorem dL_areRows_17 : decode cL_areRows 17 = .ok (.if_icmp .ne 53, 3) := by decide +kernel
theorem dL_areRows_20 : decode cL_areRows 20 = .ok (.aload_n 0, 1) := by decide +kernel
theorem dL_areRows_21 : decode cL_areRows 21 = .ok (.bipush 7, 2) := by decide +kernel
theorem dL_areRows_23 : decode cL_areRows 23 = .ok (.aload_n 1, 1) := by decide +kernel
theorem dL_areRows_24 : decode cL_areRows 24 = .ok (.iconst 4, 1) := by decide +kernel
theorem dL_areRows_25 : decode cL_areRows 25 = .ok (.iaload, 1) := by decide +kernel
theorem dL_areRows_26 : decode cL_areRows 26 = .ok (.iconst 0, 1) := by decide +kernel
theorem dL_areRows_27 : decode cL_areRows 27 = .ok (.iconst 0, 1) := by decide +kernel
theorem dL_areRows_28 : decode cL_areRows 28 = .ok (.invokestatic 187, 3) := by decide +kernel
theorem dL_areRows_31 : decode cL_areRows 31 = .ok (.ldc 47, 2) := by decide +kernel
theorem dL_areRows_33 : decode cL_areRows 33 = .ok (.if_icmp .ne 37, 3) := by decide +kernel
theorem dL_areRows_36 : decode cL_areRows 36 = .ok (.aload_n 0, 1) := by decide +kernel
theorem dL_areRows_37 : decode cL_areRows 37 = .ok (.bipush 8, 2) := by decide +kernel
theorem dL_areRows_39 : decode cL_areRows 39 = .ok (.iconst (-1), 1) := by decide +kernel
theorem dL_areRows_40 : decode cL_areRows 40 = .ok (.iconst 0, 1) := by decide +kernel
theorem dL_areRows_41 : decode cL_areRows 41 = .ok (.iconst 0, 1) := by decide +kernel
theorem dL_areRows_42 : decode cL_areRows 42 = .ok (.invokestatic 187, 3) := by decide +kernel
theorem dL_areRows_45 : decode cL_areRows 45 = .ok (.ldc 47, 2) := by decide +kernel
theorem dL_areRows_47 : decode cL_areRows 47 = .ok (.if_icmp .ne 23, 3) := by decide +kernel
theorem dL_areRows_50 : decode cL_areRows 50 = .ok (.aload_n 0, 1) := by decide +kernel
theorem dL_areRows_51 : decode cL_areRows 51 = .ok (.bipush 9, 2) := by decide +kernel
theorem dL_areRows_53 : decode cL_areRows 53 = .ok (.aload_n 1, 1) := by decide +kernel
theorem dL_areRows_54 : decode cL_areRows 54 = .ok (.iconst 5, 1) := by decide +kernel
theorem dL_areRows_55 : decode cL_areRows 55 = .ok (.iaload, 1) := by decide +kernel
theorem dL_areRows_56 : decode cL_areRows 56 = .ok (.iconst 0, 1) := by decide +kernel
theorem dL_areRows_57 : decode cL_areRows 57 = .ok (.iconst 0, 1) := by decide +kernel
theorem dL_areRows_58 : decode cL_areRows 58 = .ok (.invokestatic 187, 3) := by decide +kernel
theorem dL_areRows_61 : decode cL_areRows 61 = .ok (.ldc 47, 2) := by decide +kernel
theorem dL_areRows_63 : decode cL_areRows 63 = .ok (.if_icmp .ne 7, 3) := by decide +kernel
theorem dL_areRows_66 : decode cL_areRows 66 = .ok (.iconst 1, 1) := by decide +kernel
theorem dL_areRows_67 : decode cL_areRows 67 = .ok (.goto 4, 3) := by decide +kernel
theorem dL_areRows_70 : decode cL_areRows 70 = .ok (.iconst 0, 1) := by decide +kernel
theorem dL_areRows_71 : decode cL_areRows 71 = .ok (.istore 6, 2) := by decide +kernel
theorem dL_areRows_73 : decode cL_areRows 73 = .ok (.iconst 0, 1) := by decide +kernel
theorem dL_areRows_74 : decode cL_areRows 74 = .ok (.istore 7, 2) := by decide +kernel
theorem dL_areRows_76 : decode cL_areRows 76 = .ok (.iload 7, 2) := by decide +kernel
theorem dL_areRows_78 : decode cL_areRows 78 = .ok (.aload_n 1, 1) := by decide +kernel
theorem dL_areRows_79 : decode cL_areRows 79 = .ok (.iconst 4, 1) := by decide +kernel
theorem dL_areRows_80 : decode cL_areRows 80 = .ok (.iaload, 1) := by decide +kernel
theorem dL_areRows_81 : decode cL_areRows 81 = .ok (.if_icmp .ge 46, 3) := by decide +kernel
theorem dL_areRows_84 : decode cL_areRows 84 = .ok (.iload 6, 2) := by decide +kernel
theorem dL_areRows_86 : decode cL_areRows 86 = .ok (.ifCond .eq 41, 3) := by decide +kernel
theorem dL_areRows_89 : decode cL_areRows 89 = .ok (.aload_n 0, 1) := by decide +kernel
theorem dL_areRows_90 : decode cL_areRows 90 = .ok (.iload 7, 2) := by decide +kernel
theorem dL_areRows_92 : decode cL_areRows 92 = .ok (.invokevirtual 36, 3) := by decide +kernel
theorem dL_areRows_95 : decode cL_areRows 95 = .ok (.aload_n 2, 1) := by decide +kernel
theorem dL_areRows_96 : decode cL_areRows 96 = .ok (.iload 7, 2) := by decide +kernel
theorem dL_areRows_98 : decode cL_areRows 98 = .ok (.iaload, 1) := by decide +kernel
theorem dL_areRows_99 : decode cL_areRows 99 = .ok (.if_icmp .ne 19, 3) := by decide +kernel
theorem dL_areRows_102 : decode cL_areRows 102 = .ok (.aload_n 0, 1) := by decide +kernel
theorem dL_areRows_103 : decode cL_areRows 103 = .ok (.iload 7, 2) := by decide +kernel
theorem dL_areRows_105 : decode cL_areRows 105 = .ok (.aload_n 3, 1) := by decide +kernel
theorem dL_areRows_106 : decode cL_areRows 106 = .ok (.aload 4, 2) := by decide +kernel
theorem dL_areRows_108 : decode cL_areRows 108 = .ok (.invokestatic 197, 3) := by decide +kernel
theorem dL_areRows_111 : decode cL_areRows 111 = .ok (.ifCond .eq 7, 3) := by decide +kernel
theorem dL_areRows_114 : decode cL_areRows 114 = .ok (.iconst 1, 1) := by decide +kernel
theorem dL_areRows_115 : decode cL_areRows 115 = .ok (.goto 4, 3) := by decide +kernel
theorem dL_areRows_118 : decode cL_areRows 118 = .ok (.iconst 0, 1) := by decide +kernel
theorem dL_areRows_119 : decode cL_areRows 119 = .ok (.istore 6, 2) := by decide +kernel
theorem dL_areRows_121 : decode cL_areRows 121 = .ok (.iinc 7 1, 3) := by decide +kernel
theorem dL_areRows_124 : decode cL_areRows 124 = .ok (.goto (-48), 3) := by decide +kernel
theorem dL_areRows_127 : decode cL_areRows 127 = .ok (.iload 6, 2) := by decide +kernel
theorem dL_areRows_129 : decode cL_areRows 129 = .ok (.ifCond .eq 106, 3) := by decide +kernel
theorem dL_areRows_132 : decode cL_areRows 132 = .ok (.aload_n 1, 1) := by decide +kernel
theorem dL_areRows_133 : decode cL_areRows 133 = .ok (.iconst 5, 1) := by decide +kernel
theorem dL_areRows_134 : decode cL_areRows 134 = .ok (.iaload, 1) := by decide +kernel
theorem dL_areRows_135 : decode cL_areRows 135 = .ok (.ifCond .le 100, 3) := by decide +kernel
theorem dL_areRows_138 : decode cL_areRows 138 = .ok (.ldc2_w 113, 3) := by decide +kernel
theorem dL_areRows_141 : decode cL_areRows 141 = .ok (.lstore 7, 2) := by decide +kernel
theorem dL_areRows_143 : decode cL_areRows 143 = .ok (.iconst 0, 1) := by decide +kernel
theorem dL_areRows_144 : decode cL_areRows 144 = .ok (.istore 9, 2) := by decide +kernel
theorem dL_areRows_146 : decode cL_areRows 146 = .ok (.aload_n 0, 1) := by decide +kernel
theorem dL_areRows_147 : decode cL_areRows 147 = .ok (.bipush 9, 2) := by decide +kernel
theorem dL_areRows_149 : decode cL_areRows 149 = .ok (.aload_n 1, 1) := by decide +kernel
theorem dL_areRows_150 : decode cL_areRows 150 = .ok (.iconst 5, 1) := by decide +kernel
theorem dL_areRows_151 : decode cL_areRows 151 = .ok (.iaload, 1) := by decide +kernel
theorem dL_areRows_152 : decode cL_areRows 152 = .ok (.iconst 1, 1) := by decide +kernel
theorem dL_areRows_153 : decode cL_areRows 153 = .ok (.isub, 1) := by decide +kernel
theorem dL_areRows_154 : decode cL_areRows 154 = .ok (.iconst 0, 1) := by decide +kernel
theorem dL_areRows_155 : decode cL_areRows 155 = .ok (.iconst 0, 1) := by decide +kernel
theorem dL_areRows_156 : decode cL_areRows 156 = .ok (.invokestatic 187, 3) := by decide +kernel
theorem dL_areRows_159 : decode cL_areRows 159 = .ok (.istore 10, 2) := by decide +kernel
theorem dL_areRows_161 : decode cL_areRows 161 = .ok (.iload 10, 2) := by decide +kernel
theorem dL_areRows_163 : decode cL_areRows 163 = .ok (.ifCond .le 44, 3) := by decide +kernel
theorem dL_areRows_166 : decode cL_areRows 166 = .ok (.iload 9, 2) := by decide +kernel
theorem dL_areRows_168 : decode cL_areRows 168 = .ok (.bipush 61, 2) := by decide +kernel
theorem dL_areRows_170 : decode cL_areRows 170 = .ok (.if_icmp .ge 37, 3) := by decide +kernel
theorem dL_areRows_173 : decode cL_areRows 173 = .ok (.lload 7, 2) := by decide +kernel
theorem dL_areRows_175 : decode cL_areRows 175 = .ok (.ldc2_w 115, 3) := by decide +kernel
theorem dL_areRows_178 : decode cL_areRows 178 = .ok (.lmul, 1) := by decide +kernel
theorem dL_areRows_179 : decode cL_areRows 179 = .ok (.iload 10, 2) := by decide +kernel
theorem dL_areRows_181 : decode cL_areRows 181 = .ok (.i2l, 1) := by decide +kernel
theorem dL_areRows_182 : decode cL_areRows 182 = .ok (.ladd, 1) := by decide +kernel
theorem dL_areRows_183 : decode cL_areRows 183 = .ok (.lstore 7, 2) := by decide +kernel
theorem dL_areRows_185 : decode cL_areRows 185 = .ok (.iinc 9 1, 3) := by decide +kernel
theorem dL_areRows_188 : decode cL_areRows 188 = .ok (.aload_n 0, 1) := by decide +kernel
theorem dL_areRows_189 : decode cL_areRows 189 = .ok (.bipush 9, 2) := by decide +kernel
theorem dL_areRows_191 : decode cL_areRows 191 = .ok (.aload_n 1, 1) := by decide +kernel
theorem dL_areRows_192 : decode cL_areRows 192 = .ok (.iconst 5, 1) := by decide +kernel
theorem dL_areRows_193 : decode cL_areRows 193 = .ok (.iaload, 1) := by decide +kernel
theorem dL_areRows_194 : decode cL_areRows 194 = .ok (.iconst 1, 1) := by decide +kernel
theorem dL_areRows_195 : decode cL_areRows 195 = .ok (.isub, 1) := by decide +kernel
theorem dL_areRows_196 : decode cL_areRows 196 = .ok (.iload 9, 2) := by decide +kernel
theorem dL_areRows_198 : decode cL_areRows 198 = .ok (.iconst 0, 1) := by decide +kernel
theorem dL_areRows_199 : decode cL_areRows 199 = .ok (.invokestatic 187, 3) := by decide +kernel
theorem dL_areRows_202 : decode cL_areRows 202 = .ok (.istore 10, 2) := by decide +kernel
theorem dL_areRows_204 : decode cL_areRows 204 = .ok (.goto (-43), 3) := by decide +kernel
theorem dL_areRows_207 : decode cL_areRows 207 = .ok (.lload 7, 2) := by decide +kernel
theorem dL_areRows_209 : decode cL_areRows 209 = .ok (.aload 5, 2) := by decide +kernel
theorem dL_areRows_211 : decode cL_areRows 211 = .ok (.aload_n 1, 1) := by decide +kernel
theorem dL_areRows_212 : decode cL_areRows 212 = .ok (.iconst 5, 1) := by decide +kernel
theorem dL_areRows_213 : decode cL_areRows 213 = .ok (.iaload, 1) := by decide +kernel
theorem dL_areRows_214 : decode cL_areRows 214 = .ok (.iconst 1, 1) := by decide +kernel
theorem dL_areRows_215 : decode cL_areRows 215 = .ok (.isub, 1) := by decide +kernel
theorem dL_areRows_216 : decode cL_areRows 216 = .ok (.laload, 1) := by decide +kernel
theorem dL_areRows_217 : decode cL_areRows 217 = .ok (.lcmp, 1) := by decide +kernel
theorem dL_areRows_218 : decode cL_areRows 218 = .ok (.ifCond .ne 14, 3) := by decide +kernel
theorem dL_areRows_221 : decode cL_areRows 221 = .ok (.iload 9, 2) := by decide +kernel
theorem dL_areRows_223 : decode cL_areRows 223 = .ok (.bipush 61, 2) := by decide +kernel
theorem dL_areRows_225 : decode cL_areRows 225 = .ok (.if_icmp .ge 7, 3) := by decide +kernel
theorem dL_areRows_228 : decode cL_areRows 228 = .ok (.iconst 1, 1) := by decide +kernel
theorem dL_areRows_229 : decode cL_areRows 229 = .ok (.goto 4, 3) := by decide +kernel
theorem dL_areRows_232 : decode cL_areRows 232 = .ok (.iconst 0, 1) := by decide +kernel
theorem dL_areRows_233 : decode cL_areRows 233 = .ok (.istore 6, 2) := by decide +kernel
theorem dL_areRows_235 : decode cL_areRows 235 = .ok (.iload 6, 2) := by decide +kernel
theorem dL_areRows_237 : decode cL_areRows 237 = .ok (.ireturn, 1) := by decide +kernel
set_option maxRecDepth 20000 in
theorem ggL_isKey_L_does : GoodIn wsL_isKey wsL_does := goodIn_ca (goodIn_ca (goodIn_ca (goodIn_r _ [5, 6, 7, 8, 1, 9, 10, 11, 12, 13, 14, 15, 16, 17, 18, 19, 20, 21, 22, 23, 24, 25, 26, 27, 28, 29, 30, 31, 32, 33, 34, 35, 36, 37, 38, 39, 40, 41, 42, 43, 44, 45, 46, 47, 48, 49, 50, 51, 52, 53, 54, 55, 56, 57, 58, 59, 60, 61, 62, 63, 64, 65, 66, 67, 68, 69, 70, 71, 72, 73, 74, 75, 76, 77, 78, 79, 80, 81, 82, 83, 84, 85, 86, 87, 88, 89, 90, 91, 92, 93, 94, 95, 96, 97, 98, 99, 100, 101, 102, 103, 104, 105, 106, 107, 108, 109, 110, 111, 112, 113, 114, 115, 116, 117, 118, 119, 120, 121, 122, 123, 124, 125, 126, 127, 128, 129, 130, 131, 132, 133, 134, 135, 136, 137, 138, 139, 140, 141, 142, 143, 144, 145, 146, 147, 148, 149, 150, 151, 152, 153, 154, 155, 156, 157, 158, 159, 160, 161, 162, 163, 164, 165, 166, 167, 168, 169, 170, 171, 172, 173, 174, 175, 176, 177, 178, 179, 180, 181, 182, 183, 184, 185, 186, 187, 188, 189, 190, 191, 192, 193, 194, 195, 196, 197, 198, 199, 200, 201, 202, 203, 204, 205, 206, 207, 208, 209, 210, 211, 212, 213, 214, 215, 216, 217, 218, 219, 220, 221, 222, 223, 224, 225, 226, 227, 228, 229, 230, 231, 232, 233, 234, 235, 236, 237, 238, 239, 240, 241, 242, 243, 244, 245, 246, 247, 248, 249, 250, 251, 252, 253, 254, 255, 256, 257, 258, 259, 260, 261, 262, 263, 264, 265, 266, 267, 268, 269, 270, 271, 272, 273, 274, 275, 276, 277, 278, 279, 280, 281, 282, 283, 284, 285, 286, 287, 288, 289, 290, 291, 292, 293, 294, 295, 296, 297, 298, 299, 300, 301, 302, 303, 304, 305, 306, 307, 308, 309, 310, 311, 312, 313, 314, 315, 316, 317, 318, 319, 330, 331, 332, 333, 334, 335, 336, 337, 338, 339, 340, 341, 342, 343, 344, 345, 346, 347, 348, 349, 350, 351, 352, 353, 354, 355, 356, 357, 358, 359, 360, 361, 362, 363, 364, 365, 366, 367, 368, 369] (by decide +kernel) (by decide +kernel)) (goodIn_sub (fun _ h => List.mem_cons_of_mem _ (List.mem_append_left _ (List.mem_append_left _ (List.mem_append_right _ h)))) (by decide +kernel))) (goodIn_sub (fun _ h => List.mem_cons_of_mem _ (List.mem_append_left _ (List.mem_append_right _ h))) (by decide +kernel))) (goodIn_sub (fun _ h => List.mem_cons_of_mem _ (List.mem_append_right _ h)) (by decide +kernel))
set_option maxRecDepth 20000 in
theorem gL_isKey_L_does : GoodIn wsL_isKey (va_wsS RL 187 yL_does wsL_does) := goodIn_app (goodIn_of _ (by decide +kernel)) ggL_isKey_L_does
set_option maxRecDepth 20000 in
theorem ggL_isKey_L_code : GoodIn wsL_isKey wsL_code := goodIn_r _ [322, 323, 324, 325, 326] (by decide +kernel) (by decide +kernel)
set_option maxRecDepth 20000 in
theorem gL_isKey_L_code : GoodIn wsL_isKey (va_wsS RL 125 yL_code wsL_code) := goodIn_app (goodIn_of _ (by decide +kernel)) ggL_isKey_L_code
set_option maxRecDepth 20000 in
theorem ggL_isKey_L_get : GoodIn wsL_isKey wsL_get := goodIn_r _ [329] (by decide +kernel) (by decide +kernel)
set_option maxRecDepth 20000 in
theorem gL_isKey_L_get : GoodIn wsL_isKey (va_wsS RL 129 yL_get wsL_get) := goodIn_app (goodIn_of _ (by decide +kernel)) ggL_isKey_L_get
theorem dL_isKey_0 : decode cL_isKey 0 = .ok (.iconst 1, 1) := by decide +kernel
theorem dL_isKey_1 : decode cL_isKey 1 = .ok (.istore 4, 2) := by decide +kernel
theorem dL_isKey_3 : decode cL_isKey 3 = .ok (.iconst 0, 1) := by decide +kernel
theorem dL_isKey_4 : decode cL_isKey 4 = .ok (.istore 5, 2) := by decide +kernel
theorem dL_isKey_6 : decode cL_isKey 6 = .ok (.iconst 0, 1) := by decide +kernel
theorem dL_isKey_7 : decode cL_isKey 7 = .ok (.istore 6, 2) := by decide +kernel
theorem dL_isKey_9 : decode cL_isKey 9 = .ok (.iload 6, 2) := by decide +kernel
theorem dL_isKey_11 : decode cL_isKey 11 = .ok (.bipush 6, 2) := by decide +kernel
theorem dL_isKey_13 : decode cL_isKey 13 = .ok (.if_icmp .ge 116, 3) := by decide +kernel
theorem dL_isKey_16 : decode cL_isKey 16 = .ok (.iload 4, 2) := by decide +kernel
theorem dL_isKey_18 : decode cL_isKey 18 = .ok (.ifCond .eq 111, 3) := by decide +kernel
theorem dL_isKey_21 : decode cL_isKey 21 = .ok (.lconst 0, 1) := by decide +kernel
theorem dL_isKey_22 : decode cL_isKey 22 = .ok (.lstore 7, 2) := by decide +kernel
theorem dL_isKey_24 : decode cL_isKey 24 = .ok (.aload_n 0, 1) := by decide +kernel
theorem dL_isKey_25 : decode cL_isKey 25 = .ok (.bipush 8, 2) := by decide +kernel
theorem dL_isKey_27 : decode cL_isKey 27 = .ok (.iload_n 1, 1) := by decide +kernel
theorem dL_isKey_28 : decode cL_isKey 28 = .ok (.iload 5, 2) := by decide +kernel
theorem dL_isKey_30 : decode cL_isKey 30 = .ok (.iconst 0, 1) := by decide +kernel
theorem dL_isKey_31 : decode cL_isKey 31 = .ok (.invokestatic 187, 3) := by decide +kernel
theorem dL_isKey_34 : decode cL_isKey 34 = .ok (.istore 9, 2) := by decide +kernel
theorem dL_isKey_36 : decode cL_isKey 36 = .ok (.iload 9, 2) := by decide +kernel
theorem dL_isKey_38 : decode cL_isKey 38 = .ok (.ifCond .le 64, 3) := by decide +kernel
theorem dL_isKey_41 : decode cL_isKey 41 = .ok (.iload 5, 2) := by decide +kernel
theorem dL_isKey_43 : decode cL_isKey 43 = .ok (.bipush 10, 2) := by decide +kernel
theorem dL_isKey_45 : decode cL_isKey 45 = .ok (.iload 6, 2) := by decide +kernel
theorem dL_isKey_47 : decode cL_isKey 47 = .ok (.imul, 1) := by decide +kernel
theorem dL_isKey_48 : decode cL_isKey 48 = .ok (.bipush 10, 2) := by decide +kernel
theorem dL_isKey_50 : decode cL_isKey 50 = .ok (.iadd, 1) := by decide +kernel
theorem dL_isKey_51 : decode cL_isKey 51 = .ok (.if_icmp .ge 51, 3) := by decide +kernel
theorem dL_isKey_54 : decode cL_isKey 54 = .ok (.lload 7, 2) := by decide +kernel
theorem dL_isKey_56 : decode cL_isKey 56 = .ok (.bipush 6, 2) := by decide +kernel
theorem dL_isKey_58 : decode cL_isKey 58 = .ok (.lshl, 1) := by decide +kernel
theorem dL_isKey_59 : decode cL_isKey 59 = .ok (.iload 9, 2) := by decide +kernel
theorem dL_isKey_61 : decode cL_isKey 61 = .ok (.invokestatic 125, 3) := by decide +kernel
theorem dL_isKey_64 : decode cL_isKey 64 = .ok (.lor, 1) := by decide +kernel
theorem dL_isKey_65 : decode cL_isKey 65 = .ok (.lstore 7, 2) := by decide +kernel
theorem dL_isKey_67 : decode cL_isKey 67 = .ok (.iinc 5 1, 3) := by decide +kernel
theorem dL_isKey_70 : decode cL_isKey 70 = .ok (.iload 5, 2) := by decide +kernel
theorem dL_isKey_72 : decode cL_isKey 72 = .ok (.bipush 10, 2) := by decide +kernel
theorem dL_isKey_74 : decode cL_isKey 74 = .ok (.iload 6, 2) := by decide +kernel
theorem dL_isKey_76 : decode cL_isKey 76 = .ok (.imul, 1) := by decide +kernel
theorem dL_isKey_77 : decode cL_isKey 77 = .ok (.bipush 10, 2) := by decide +kernel
theorem dL_isKey_79 : decode cL_isKey 79 = .ok (.iadd, 1) := by decide +kernel
theorem dL_isKey_80 : decode cL_isKey 80 = .ok (.if_icmp .ge 16, 3) := by decide +kernel
theorem dL_isKey_83 : decode cL_isKey 83 = .ok (.aload_n 0, 1) := by decide +kernel
theorem dL_isKey_84 : decode cL_isKey 84 = .ok (.bipush 8, 2) := by decide +kernel
theorem dL_isKey_86 : decode cL_isKey 86 = .ok (.iload_n 1, 1) := by decide +kernel
theorem dL_isKey_87 : decode cL_isKey 87 = .ok (.iload 5, 2) := by decide +kernel
theorem dL_isKey_89 : decode cL_isKey 89 = .ok (.iconst 0, 1) := by decide +kernel
theorem dL_isKey_90 : decode cL_isKey 90 = .ok (.invokestatic 187, 3) := by decide +kernel
theorem dL_isKey_93 : decode cL_isKey 93 = .ok (.goto 4, 3) := by decide +kernel
theorem dL_isKey_96 : decode cL_isKey 96 = .ok (.iconst 0, 1) := by decide +kernel
theorem dL_isKey_97 : decode cL_isKey 97 = .ok (.istore 9, 2) := by decide +kernel
theorem dL_isKey_99 : decode cL_isKey 99 = .ok (.goto (-63), 3) := by decide +kernel
theorem dL_isKey_102 : decode cL_isKey 102 = .ok (.lload 7, 2) := by decide +kernel
theorem dL_isKey_104 : decode cL_isKey 104 = .ok (.aload_n 2, 1) := by decide +kernel
theorem dL_isKey_105 : decode cL_isKey 105 = .ok (.aload_n 3, 1) := by decide +kernel
theorem dL_isKey_106 : decode cL_isKey 106 = .ok (.iload_n 1, 1) := by decide +kernel
theorem dL_isKey_107 : decode cL_isKey 107 = .ok (.iload 6, 2) := by decide +kernel
theorem dL_isKey_109 : decode cL_isKey 109 = .ok (.invokestatic 129, 3) := by decide +kernel
theorem dL_isKey_112 : decode cL_isKey 112 = .ok (.lcmp, 1) := by decide +kernel
theorem dL_isKey_113 : decode cL_isKey 113 = .ok (.ifCond .ne 7, 3) := by decide +kernel
theorem dL_isKey_116 : decode cL_isKey 116 = .ok (.iconst 1, 1) := by decide +kernel
theorem dL_isKey_117 : decode cL_isKey 117 = .ok (.goto 4, 3) := by decide +kernel
theorem dL_isKey_120 : decode cL_isKey 120 = .ok (.iconst 0, 1) := by decide +kernel
theorem dL_isKey_121 : decode cL_isKey 121 = .ok (.istore 4, 2) := by decide +kernel
theorem dL_isKey_123 : decode cL_isKey 123 = .ok (.iinc 6 1, 3) := by decide +kernel
theorem dL_isKey_126 : decode cL_isKey 126 = .ok (.goto (-117), 3) := by decide +kernel
theorem dL_isKey_129 : decode cL_isKey 129 = .ok (.iload 4, 2) := by decide +kernel
theorem dL_isKey_131 : decode cL_isKey 131 = .ok (.ifCond .eq 22, 3) := by decide +kernel
theorem dL_isKey_134 : decode cL_isKey 134 = .ok (.aload_n 0, 1) := by decide +kernel
theorem dL_isKey_135 : decode cL_isKey 135 = .ok (.bipush 8, 2) := by decide +kernel
theorem dL_isKey_137 : decode cL_isKey 137 = .ok (.iload_n 1, 1) := by decide +kernel
theorem dL_isKey_138 : decode cL_isKey 138 = .ok (.iload 5, 2) := by decide +kernel
theorem dL_isKey_140 : decode cL_isKey 140 = .ok (.iconst 0, 1) := by decide +kernel
theorem dL_isKey_141 : decode cL_isKey 141 = .ok (.invokestatic 187, 3) := by decide +kernel
theorem dL_isKey_144 : decode cL_isKey 144 = .ok (.ldc 47, 2) := by decide +kernel
theorem dL_isKey_146 : decode cL_isKey 146 = .ok (.if_icmp .ne 7, 3) := by decide +kernel
theorem dL_isKey_149 : decode cL_isKey 149 = .ok (.iconst 1, 1) := by decide +kernel
theorem dL_isKey_150 : decode cL_isKey 150 = .ok (.goto 4, 3) := by decide +kernel
theorem dL_isKey_153 : decode cL_isKey 153 = .ok (.iconst 0, 1) := by decide +kernel
theorem dL_isKey_154 : decode cL_isKey 154 = .ok (.ireturn, 1) := by decide +kernel
theorem dL_drawn_0 : decode cL_drawn 0 = .ok (.iload_n 0, 1) := by decide +kernel
theorem dL_drawn_1 : decode cL_drawn 1 = .ok (.iconst 3, 1) := by decide +kernel
theorem dL_drawn_2 : decode cL_drawn 2 = .ok (.irem, 1) := by decide +kernel
theorem dL_drawn_3 : decode cL_drawn 3 = .ok (.ifCond .ne 12, 3) := by decide +kernel
theorem dL_drawn_6 : decode cL_drawn 6 = .ok (.iload_n 0, 1) := by decide +kernel
theorem dL_drawn_7 : decode cL_drawn 7 = .ok (.iconst 3, 1) := by decide +kernel
theorem dL_drawn_8 : decode cL_drawn 8 = .ok (.idiv, 1) := by decide +kernel
theorem dL_drawn_9 : decode cL_drawn 9 = .ok (.bipush 100, 2) := by decide +kernel
theorem dL_drawn_11 : decode cL_drawn 11 = .ok (.irem, 1) := by decide +kernel
theorem dL_drawn_12 : decode cL_drawn 12 = .ok (.goto 51, 3) := by decide +kernel
theorem dL_drawn_15 : decode cL_drawn 15 = .ok (.iload_n 0, 1) := by decide +kernel
theorem dL_drawn_16 : decode cL_drawn 16 = .ok (.iconst 3, 1) := by decide +kernel
theorem dL_drawn_17 : decode cL_drawn 17 = .ok (.irem, 1) := by decide +kernel
theorem dL_drawn_18 : decode cL_drawn 18 = .ok (.iconst 1, 1) := by decide +kernel
theorem dL_drawn_19 : decode cL_drawn 19 = .ok (.if_icmp .ne 14, 3) := by decide +kernel
theorem dL_drawn_22 : decode cL_drawn 22 = .ok (.iconst (-1), 1) := by decide +kernel
theorem dL_drawn_23 : decode cL_drawn 23 = .ok (.iload_n 0, 1) := by decide +kernel
theorem dL_drawn_24 : decode cL_drawn 24 = .ok (.iconst 3, 1) := by decide +kernel
theorem dL_drawn_25 : decode cL_drawn 25 = .ok (.idiv, 1) := by decide +kernel
theorem dL_drawn_26 : decode cL_drawn 26 = .ok (.bipush 13, 2) := by decide +kernel
theorem dL_drawn_28 : decode cL_drawn 28 = .ok (.irem, 1) := by decide +kernel
theorem dL_drawn_29 : decode cL_drawn 29 = .ok (.isub, 1) := by decide +kernel
theorem dL_drawn_30 : decode cL_drawn 30 = .ok (.goto 33, 3) := by decide +kernel
theorem dL_drawn_33 : decode cL_drawn 33 = .ok (.iload_n 0, 1) := by decide +kernel
theorem dL_drawn_34 : decode cL_drawn 34 = .ok (.bipush 30, 2) := by decide +kernel
theorem dL_drawn_36 : decode cL_drawn 36 = .ok (.irem, 1) := by decide +kernel
theorem dL_drawn_37 : decode cL_drawn 37 = .ok (.iconst 2, 1) := by decide +kernel
theorem dL_drawn_38 : decode cL_drawn 38 = .ok (.if_icmp .ne 9, 3) := by decide +kernel
theorem dL_drawn_41 : decode cL_drawn 41 = .ok (.sipush 9999, 3) := by decide +kernel
theorem dL_drawn_44 : decode cL_drawn 44 = .ok (.goto 19, 3) := by decide +kernel
theorem dL_drawn_47 : decode cL_drawn 47 = .ok (.iload_n 0, 1) := by decide +kernel
theorem dL_drawn_48 : decode cL_drawn 48 = .ok (.bipush 30, 2) := by decide +kernel
theorem dL_drawn_50 : decode cL_drawn 50 = .ok (.irem, 1) := by decide +kernel
theorem dL_drawn_51 : decode cL_drawn 51 = .ok (.bipush 12, 2) := by decide +kernel
theorem dL_drawn_53 : decode cL_drawn 53 = .ok (.if_icmp .ge 8, 3) := by decide +kernel
theorem dL_drawn_56 : decode cL_drawn 56 = .ok (.bipush (-20), 2) := by decide +kernel
theorem dL_drawn_58 : decode cL_drawn 58 = .ok (.goto 5, 3) := by decide +kernel
theorem dL_drawn_61 : decode cL_drawn 61 = .ok (.bipush (-21), 2) := by decide +kernel
theorem dL_drawn_63 : decode cL_drawn 63 = .ok (.ireturn, 1) := by decide +kernel
set_option maxRecDepth 20000 in
theorem ggL_isDone_L_part : GoodIn wsL_isDone wsL_part := goodIn_r _ [10, 11] (by decide +kernel) (by decide +kernel)
set_option maxRecDepth 20000 in
theorem gL_isDone_L_part : GoodIn wsL_isDone (va_wsS RL 201 yL_part wsL_part) := goodIn_app (goodIn_of _ (by decide +kernel)) ggL_isDone_L_part
set_option maxRecDepth 20000 in
theorem ggL_isDone_L_does : GoodIn wsL_isDone wsL_does := goodIn_ca (goodIn_ca (goodIn_ca (goodIn_r _ [14, 15, 16, 17, 3, 1, 2, 18, 19, 20, 21, 22, 23, 24, 25, 26, 27, 28, 29, 30, 31, 32, 33, 34, 35, 36, 37, 38, 39, 40, 41, 42, 43, 44, 45, 46, 47, 48, 49, 50, 51, 52, 53, 54, 55, 56, 57, 58, 59, 60, 61, 62, 63, 64, 65, 66, 67, 68, 69, 70, 71, 72, 73, 74, 75, 76, 77, 78, 79, 80, 81, 82, 83, 84, 85, 86, 87, 88, 89, 90, 91, 92, 93, 94, 95, 96, 97, 98, 99, 100, 101, 102, 103, 104, 105, 106, 107, 108, 109, 110, 111, 112, 113, 114, 115, 116, 117, 118, 119, 120, 121, 122, 123, 124, 125, 126, 127, 128, 129, 130, 131, 132, 133, 134, 135, 136, 137, 138, 139, 140, 141, 142, 143, 144, 145, 146, 147, 148, 149, 150, 151, 152, 153, 154, 155, 156, 157, 158, 159, 160, 161, 162, 163, 164, 165, 166, 167, 168, 169, 170, 171, 172, 173, 174, 175, 176, 177, 178, 179, 180, 181, 182, 183, 184, 185, 186, 187, 188, 189, 190, 191, 192, 193, 194, 195, 196, 197, 198, 199, 200, 201, 202, 203, 204, 205, 206, 207, 208, 209, 210, 211, 212, 213, 214, 215, 216, 217, 218, 219, 220, 221, 222, 223, 224, 225, 226, 227, 228, 229, 230, 231, 232, 233, 234, 235, 236, 237, 238, 239, 240, 241, 242, 243, 244, 245, 246, 247, 248, 249, 250, 251, 252, 253, 254, 255, 256, 257, 258, 259, 260, 261, 262, 263, 264, 265, 266, 267, 268, 269, 270, 271, 272, 273, 274, 275, 276, 277, 278, 279, 280, 281, 282, 283, 284, 285, 286, 287, 288, 289, 290, 291, 292, 293, 294, 295, 296, 297, 298, 299, 300, 301, 302, 303, 304, 305, 306, 307, 308, 309, 310, 311, 312, 313, 314, 315, 316, 317, 318, 319, 320, 321, 322, 323, 324, 325, 326, 538, 539, 540, 541, 542, 543, 544, 545, 546, 547, 548, 549, 550, 551, 552, 553, 554, 555, 556, 557, 558, 559, 560, 561, 562, 563, 564, 565, 566, 567, 568, 569, 570, 571, 572, 573, 574, 575, 576, 577] (by decide +kernel) (by decide +kernel)) (goodIn_sub (fun _ h => List.mem_cons_of_mem _ (List.mem_append_left _ (List.mem_append_left _ (List.mem_append_right _ h)))) (by decide +kernel))) (goodIn_sub (fun _ h => List.mem_cons_of_mem _ (List.mem_append_left _ (List.mem_append_right _ h))) (by decide +kernel))) (goodIn_sub (fun _ h => List.mem_cons_of_mem _ (List.mem_append_right _ h)) (by decide +kernel))
set_option maxRecDepth 20000 in
theorem gL_isDone_L_does : GoodIn wsL_isDone (va_wsS RL 187 yL_does wsL_does) := goodIn_app (goodIn_of _ (by decide +kernel)) ggL_isDone_L_does
set_option maxRecDepth 20000 in
theorem ggL_isDone_L_drawn : GoodIn wsL_isDone wsL_drawn := goodIn_r _ [329] (by decide +kernel) (by decide +kernel)
set_option maxRecDepth 20000 in
theorem gL_isDone_L_drawn : GoodIn wsL_isDone (va_wsS RL 204 yL_drawn wsL_drawn) := goodIn_app (goodIn_of _ (by decide +kernel)) ggL_isDone_L_drawn
set_option maxRecDepth 20000 in
theorem ggL_isDone_L_acted : GoodIn wsL_isDone wsL_acted := goodIn_ca (goodIn_ca (goodIn_ca (goodIn_r _ [332, 15, 16, 17, 3, 1, 2, 125, 126, 127, 21, 128, 129, 130, 23, 24, 25, 26, 27, 131, 132, 133, 134, 40, 41, 42, 43, 44, 45, 34, 35, 36, 135, 136, 137, 37, 38, 39, 138, 139, 140, 141, 142, 143, 144, 145, 146, 147, 148, 149, 150, 151, 152, 153, 62, 154, 155, 156, 157, 158, 159, 160, 161, 162, 163, 164, 165, 166, 167, 168, 169, 170, 50, 51, 171, 172, 173, 174, 175, 176, 177, 178, 179, 180, 181, 182, 183, 184, 185, 186, 187, 188, 189, 190, 191, 192, 193, 194, 195, 196, 197, 73, 74, 75, 76, 77, 78, 79, 80, 81, 82, 83, 84, 85, 86, 87, 88, 89, 90, 61, 91, 92, 93, 94, 95, 96, 97, 98, 99, 100, 101, 102, 103, 104, 105, 106, 107, 108, 109, 110, 111, 112, 113, 114, 115, 116, 117, 118, 119, 120, 121, 122, 123, 124, 538, 539, 540, 541, 542, 543, 544, 545, 546, 547, 548, 549, 550, 551, 555, 556, 557, 558, 552, 553, 554, 559, 560, 561, 562, 563, 564, 565] (by decide +kernel) (by decide +kernel)) (goodIn_sub (fun _ h => List.mem_cons_of_mem _ (List.mem_append_right _ h)) (by decide +kernel))) (goodIn_sub (fun _ h => List.mem_cons_of_mem _ (List.mem_append_left _ (List.mem_append_left _ (List.mem_append_right _ h)))) (by decide +kernel))) (goodIn_sub (fun _ h => List.mem_cons_of_mem _ (List.mem_append_left _ (List.mem_append_right _ h))) (by decide +kernel))
set_option maxRecDepth 20000 in
theorem gL_isDone_L_acted : GoodIn wsL_isDone (va_wsS RL 207 yL_acted wsL_acted) := goodIn_app (goodIn_of _ (by decide +kernel)) ggL_isDone_L_acted
set_option maxRecDepth 20000 in
theorem ggL_isDone_L_sign : GoodIn wsL_isDone wsL_sign := goodIn_r _ [335] (by decide +kernel) (by decide +kernel)
set_option maxRecDepth 20000 in
theorem gL_isDone_L_sign : GoodIn wsL_isDone (va_wsS RL 211 yL_sign wsL_sign) := goodIn_app (goodIn_of _ (by decide +kernel)) ggL_isDone_L_sign
set_option maxRecDepth 20000 in
theorem ggL_isDone_L_fields : GoodIn wsL_isDone wsL_fields := goodIn_r _ [338] (by decide +kernel) (by decide +kernel)
set_option maxRecDepth 20000 in
theorem gL_isDone_L_fields : GoodIn wsL_isDone (va_wsS RL 54 yL_fields wsL_fields) := goodIn_app (goodIn_of _ (by decide +kernel)) ggL_isDone_L_fields
set_option maxRecDepth 20000 in
theorem ggL_isDone_X11_useStack : GoodIn wsL_isDone wsX11_useStack := goodIn_r _ [342, 343, 538, 539, 540, 541, 542, 543, 544, 545, 546] (by decide +kernel) (by decide +kernel)
set_option maxRecDepth 20000 in
theorem gL_isDone_X11_useStack : GoodIn wsL_isDone (wsV RL 215 RX11 yX11_useStack wsX11_useStack) := goodIn_app (goodIn_of _ (by decide +kernel)) ggL_isDone_X11_useStack
set_option maxRecDepth 20000 in
theorem ggL_isDone_L_writes : GoodIn wsL_isDone wsL_writes := goodIn_r _ [346, 347, 348, 349, 350, 9, 351] (by decide +kernel) (by decide +kernel)
set_option maxRecDepth 20000 in
theorem gL_isDone_L_writes : GoodIn wsL_isDone (va_wsS RL 94 yL_writes wsL_writes) := goodIn_app (goodIn_of _ (by decide +kernel)) ggL_isDone_L_writes
set_option maxRecDepth 20000 in
theorem ggL_isDone_L_sets : GoodIn wsL_isDone wsL_sets := goodIn_r _ [354, 336, 337, 9, 338, 355, 356, 357, 349, 350, 351, 358, 359, 360] (by decide +kernel) (by decide +kernel)
set_option maxRecDepth 20000 in
theorem gL_isDone_L_sets : GoodIn wsL_isDone (va_wsS RL 165 yL_sets wsL_sets) := goodIn_app (goodIn_of _ (by decide +kernel)) ggL_isDone_L_sets
set_option maxRecDepth 20000 in
theorem ggL_isDone_L_puts : GoodIn wsL_isDone wsL_puts := goodIn_r _ [351] (by decide +kernel) (by decide +kernel)
set_option maxRecDepth 20000 in
theorem gL_isDone_L_puts : GoodIn wsL_isDone (va_wsS RL 60 yL_puts wsL_puts) := goodIn_app (goodIn_of _ (by decide +kernel)) ggL_isDone_L_puts
set_option maxRecDepth 20000 in
theorem ggL_isDone_L_ends : GoodIn wsL_isDone wsL_ends := goodIn_r _ [363, 4, 5, 355, 356, 9, 357, 349, 350, 351, 364, 365, 366, 367, 368, 369, 358, 359, 360, 336, 337, 338, 370, 371, 372, 373, 374, 375, 376, 377, 378, 379, 380, 381, 382, 383, 384, 385, 386, 387, 388, 389, 6, 390, 391, 392, 393, 394, 395, 344, 345, 346, 347, 348, 396, 397, 398, 352, 353, 354, 399, 400, 401, 402, 403, 404, 405, 406, 407, 408, 409, 410, 411, 412, 413, 414, 415, 416, 417, 418, 419, 420, 421, 422, 423, 424, 425, 426, 427, 428, 429, 430, 431] (by decide +kernel) (by decide +kernel)
set_option maxRecDepth 20000 in
theorem gL_isDone_L_ends : GoodIn wsL_isDone (va_wsS RL 219 yL_ends wsL_ends) := goodIn_app (goodIn_of _ (by decide +kernel)) ggL_isDone_L_ends
set_option maxRecDepth 20000 in
theorem ggL_isDone_X11_end : GoodIn wsL_isDone wsX11_end := goodIn_r _ [435, 202, 239, 27, 131, 256, 257, 258, 212, 259, 216, 260, 92, 93, 94, 227, 228, 229, 230, 214, 215, 261, 262, 263, 176, 264, 222, 185, 265, 266, 267, 268, 217, 218, 219, 220, 221, 231, 232, 233, 234, 269, 270, 271, 272, 273, 274, 210, 211, 213, 223, 224, 225, 226, 436, 40, 41, 42, 43, 44, 45, 138, 139, 140, 141, 142, 143, 144, 145, 146, 147, 148, 149, 150, 151, 152, 153, 62, 437, 438, 439, 30, 440, 55, 56, 57, 441, 442, 443, 444, 445, 446, 447, 448, 449, 284, 285, 286, 287, 450, 281, 282, 283, 288, 451, 452, 453, 454, 455, 456, 457, 458, 459, 21, 460, 461, 462, 463, 464, 465, 466, 467, 468, 469, 470, 471, 472, 473, 474, 304, 475, 343, 476, 245, 319, 279, 477, 478, 479, 308, 480, 481, 310, 482, 483, 484, 485, 486, 306, 307, 309, 487, 488, 489, 490, 491, 492, 493, 494, 495, 496, 497, 498, 499, 500, 501, 502, 250, 251, 252, 253, 254, 255, 503, 504, 505, 280, 506, 507, 508, 509, 510, 511, 512, 513, 249, 514, 515, 516, 517, 518, 162, 519, 179, 180, 177, 178, 520, 521, 522, 159, 523, 166, 524, 525, 526, 527, 528, 529, 530, 531, 532, 533, 323, 534, 535, 326, 325, 536, 321, 322, 324, 537, 538, 539, 540, 541, 542, 543, 544, 545, 546, 566, 567, 568, 569, 570, 547, 548, 549, 550, 551, 564, 565, 552, 553, 554, 555, 556, 557, 558, 571, 572, 573, 574, 578, 560, 561, 562, 563, 559, 575, 576, 577] (by decide +kernel) (by decide +kernel)
set_option maxRecDepth 20000 in
theorem gL_isDone_X11_end : GoodIn wsL_isDone (wsV RL 223 RX11 yX11_end wsX11_end) := goodIn_app (goodIn_of _ (by decide +kernel)) ggL_isDone_X11_end
theorem dL_isDone_0 : decode cL_isDone 0 = .ok (.aload_n 1, 1) := by decide +kernel
theorem dL_isDone_1 : decode cL_isDone 1 = .ok (.iload_n 2, 1) := by decide +kernel
theorem dL_isDone_2 : decode cL_isDone 2 = .ok (.bipush 30, 2) := by decide +kernel
theorem dL_isDone_4 : decode cL_isDone 4 = .ok (.invokestatic 201, 3) := by decide +kernel
theorem dL_isDone_7 : decode cL_isDone 7 = .ok (.istore 14, 2) := by decide +kernel
theorem dL_isDone_9 : decode cL_isDone 9 = .ok (.aload_n 1, 1) := by decide +kernel
theorem dL_isDone_10 : decode cL_isDone 10 = .ok (.iload_n 2, 1) := by decide +kernel
theorem dL_isDone_11 : decode cL_isDone 11 = .ok (.iconst 1, 1) := by decide +kernel
theorem dL_isDone_12 : decode cL_isDone 12 = .ok (.iadd, 1) := by decide +kernel
theorem dL_isDone_13 : decode cL_isDone 13 = .ok (.sipush 6000, 3) := by decide +kernel
theorem dL_isDone_16 : decode cL_isDone 16 = .ok (.invokestatic 201, 3) := by decide +kernel
theorem dL_isDone_19 : decode cL_isDone 19 = .ok (.istore 15, 2) := by decide +kernel
theorem dL_isDone_21 : decode cL_isDone 21 = .ok (.aload_n 1, 1) := by decide +kernel
theorem dL_isDone_22 : decode cL_isDone 22 = .ok (.iload_n 2, 1) := by decide +kernel
theorem dL_isDone_23 : decode cL_isDone 23 = .ok (.iconst 2, 1) := by decide +kernel
theorem dL_isDone_24 : decode cL_isDone 24 = .ok (.iadd, 1) := by decide +kernel
theorem dL_isDone_25 : decode cL_isDone 25 = .ok (.sipush 7000, 3) := by decide +kernel
theorem dL_isDone_28 : decode cL_isDone 28 = .ok (.invokestatic 201, 3) := by decide +kernel
theorem dL_isDone_31 : decode cL_isDone 31 = .ok (.istore 16, 2) := by decide +kernel
theorem dL_isDone_33 : decode cL_isDone 33 = .ok (.aload_n 1, 1) := by decide +kernel
theorem dL_isDone_34 : decode cL_isDone 34 = .ok (.iload_n 2, 1) := by decide +kernel
theorem dL_isDone_35 : decode cL_isDone 35 = .ok (.iconst 3, 1) := by decide +kernel
theorem dL_isDone_36 : decode cL_isDone 36 = .ok (.iadd, 1) := by decide +kernel
theorem dL_isDone_37 : decode cL_isDone 37 = .ok (.sipush 8000, 3) := by decide +kernel
theorem dL_isDone_40 : decode cL_isDone 40 = .ok (.invokestatic 201, 3) := by decide +kernel
theorem dL_isDone_43 : decode cL_isDone 43 = .ok (.istore 17, 2) := by decide +kernel
theorem dL_isDone_45 : decode cL_isDone 45 = .ok (.iload 14, 2) := by decide +kernel
theorem dL_isDone_47 : decode cL_isDone 47 = .ok (.iconst 3, 1) := by decide +kernel
theorem dL_isDone_48 : decode cL_isDone 48 = .ok (.if_icmp .ge 211, 3) := by decide +kernel
theorem dL_isDone_51 : decode cL_isDone 51 = .ok (.iload 15, 2) := by decide +kernel
theorem dL_isDone_53 : decode cL_isDone 53 = .ok (.bipush 25, 2) := by decide +kernel
theorem dL_isDone_55 : decode cL_isDone 55 = .ok (.irem, 1) := by decide +kernel
theorem dL_isDone_56 : decode cL_isDone 56 = .ok (.ifCond .ne 7, 3) := by decide +kernel
theorem dL_isDone_59 : decode cL_isDone 59 = .ok (.iconst 4, 1) := by decide +kernel
theorem dL_isDone_60 : decode cL_isDone 60 = .ok (.goto 7, 3) := by decide +kernel
theorem dL_isDone_63 : decode cL_isDone 63 = .ok (.iload 15, 2) := by decide +kernel
theorem dL_isDone_65 : decode cL_isDone 65 = .ok (.iconst 4, 1) := by decide +kernel
theorem dL_isDone_66 : decode cL_isDone 66 = .ok (.irem, 1) := by decide +kernel
theorem dL_isDone_67 : decode cL_isDone 67 = .ok (.istore 18, 2) := by decide +kernel
theorem dL_isDone_69 : decode cL_isDone 69 = .ok (.iload 16, 2) := by decide +kernel
theorem dL_isDone_71 : decode cL_isDone 71 = .ok (.bipush 20, 2) := by decide +kernel
theorem dL_isDone_73 : decode cL_isDone 73 = .ok (.irem, 1) := by decide +kernel
theorem dL_isDone_74 : decode cL_isDone 74 = .ok (.ifCond .ne 9, 3) := by decide +kernel
theorem dL_isDone_77 : decode cL_isDone 77 = .ok (.sipush 10000, 3) := by decide +kernel
theorem dL_isDone_80 : decode cL_isDone 80 = .ok (.goto 21, 3) := by decide +kernel
theorem dL_isDone_83 : decode cL_isDone 83 = .ok (.iload 18, 2) := by decide +kernel
theorem dL_isDone_85 : decode cL_isDone 85 = .ok (.iconst 3, 1) := by decide +kernel
theorem dL_isDone_86 : decode cL_isDone 86 = .ok (.if_icmp .ne 10, 3) := by decide +kernel
theorem dL_isDone_89 : decode cL_isDone 89 = .ok (.iload 16, 2) := by decide +kernel
theorem dL_isDone_91 : decode cL_isDone 91 = .ok (.iconst 5, 1) := by decide +kernel
theorem dL_isDone_92 : decode cL_isDone 92 = .ok (.irem, 1) := by decide +kernel
theorem dL_isDone_93 : decode cL_isDone 93 = .ok (.goto 8, 3) := by decide +kernel
theorem dL_isDone_96 : decode cL_isDone 96 = .ok (.iload 16, 2) := by decide +kernel
theorem dL_isDone_98 : decode cL_isDone 98 = .ok (.bipush 13, 2) := by decide +kernel
theorem dL_isDone_100 : decode cL_isDone 100 = .ok (.irem, 1) := by decide +kernel
theorem dL_isDone_101 : decode cL_isDone 101 = .ok (.istore 19, 2) := by decide +kernel
theorem dL_isDone_103 : decode cL_isDone 103 = .ok (.iload 18, 2) := by decide +kernel
theorem dL_isDone_105 : decode cL_isDone 105 = .ok (.iconst 2, 1) := by decide +kernel
theorem dL_isDone_106 : decode cL_isDone 106 = .ok (.if_icmp .ne 11, 3) := by decide +kernel
theorem dL_isDone_109 : decode cL_isDone 109 = .ok (.iload 17, 2) := by decide +kernel
theorem dL_isDone_111 : decode cL_isDone 111 = .ok (.bipush 14, 2) := by decide +kernel
theorem dL_isDone_113 : decode cL_isDone 113 = .ok (.irem, 1) := by decide +kernel
theorem dL_isDone_114 : decode cL_isDone 114 = .ok (.goto 8, 3) := by decide +kernel
theorem dL_isDone_117 : decode cL_isDone 117 = .ok (.iload 17, 2) := by decide +kernel
