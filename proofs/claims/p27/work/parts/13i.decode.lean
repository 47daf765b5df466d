set_option maxRecDepth 20000 in
theorem ggL_build_X8_init : GoodIn wsL_build wsX8_init := goodIn_r _ [5, 6, 7, 8, 9, 10, 11, 12, 13, 14, 15, 16, 17, 317, 318, 319, 320, 321, 322, 323, 324, 325, 326, 327] (by decide +kernel) (by decide +kernel)
set_option maxRecDepth 20000 in
theorem gL_build_X8_init_n103 : GoodIn wsL_build (wsX8_init) := ggL_build_X8_init
set_option maxRecDepth 20000 in
theorem ggL_build_L_cell : GoodIn wsL_build wsL_cell := goodIn_r _ [21, 22] (by decide +kernel) (by decide +kernel)
set_option maxRecDepth 20000 in
theorem gL_build_L_cell : GoodIn wsL_build (va_wsS RL 104 yL_cell wsL_cell) := goodIn_app (goodIn_of _ (by decide +kernel)) ggL_build_L_cell
set_option maxRecDepth 20000 in
theorem ggL_build_L_below : GoodIn wsL_build wsL_below := goodIn_r _ [25, 26] (by decide +kernel) (by decide +kernel)
set_option maxRecDepth 20000 in
theorem gL_build_L_below : GoodIn wsL_build (va_wsS RL 11 yL_below wsL_below) := goodIn_app (goodIn_of _ (by decide +kernel)) ggL_build_L_below
set_option maxRecDepth 20000 in
theorem ggL_build_L_act_h : GoodIn wsL_build [.code yL_act cL_act 21 (some .boolean)] := goodIn_1 29 rfl (by decide +kernel)
set_option maxRecDepth 20000 in
theorem ggL_build_L_act_r1 : GoodIn wsL_build wsL_act_r1 := goodIn_r _ [30, 9, 31, 32, 33, 34, 35, 36, 37, 38, 23, 24, 20, 25, 26, 39, 40, 41, 42, 43, 44, 45, 46, 47] (by decide +kernel) (by decide +kernel)
set_option maxRecDepth 20000 in
theorem ggL_build_L_act_r2 : GoodIn wsL_build wsL_act_r2 := goodIn_r _ [48, 49, 50, 51, 52, 53, 54, 55, 56, 57, 58, 59, 60, 61, 62, 63, 64, 65, 66, 67, 68, 69, 70, 71] (by decide +kernel) (by decide +kernel)
set_option maxRecDepth 20000 in
theorem ggL_build_L_act_r3 : GoodIn wsL_build wsL_act_r3 := goodIn_r _ [72, 73, 74, 75, 76, 77, 78, 79, 80, 81, 82, 83, 84, 85, 86, 87, 88, 89, 90, 91, 92, 93, 94, 95] (by decide +kernel) (by decide +kernel)
set_option maxRecDepth 20000 in
theorem ggL_build_L_act_r4 : GoodIn wsL_build wsL_act_r4 := goodIn_r _ [96, 97, 98, 99, 100, 101, 102, 103, 104, 105, 106, 107, 108, 109, 110, 111, 112, 113, 114, 115, 116, 117, 118, 119] (by decide +kernel) (by decide +kernel)
set_option maxRecDepth 20000 in
theorem ggL_build_L_act_r5 : GoodIn wsL_build wsL_act_r5 := goodIn_r _ [120, 121, 122, 123, 124, 125, 126, 127, 128, 129, 130, 131, 132, 133, 134, 135, 136, 137, 138, 139, 140, 141, 142, 143] (by decide +kernel) (by decide +kernel)
set_option maxRecDepth 20000 in
theorem ggL_build_L_act_r6 : GoodIn wsL_build wsL_act_r6 := goodIn_r _ [144, 145, 146, 147, 148, 149, 150, 151, 152, 153, 154, 155, 156, 157, 158, 159, 160, 161, 162, 163, 3, 164, 165, 166] (by decide +kernel) (by decide +kernel)
set_option maxRecDepth 20000 in
theorem ggL_build_L_act_r7 : GoodIn wsL_build wsL_act_r7 := goodIn_r _ [167, 168, 169, 170, 171, 172, 173, 174, 175, 176, 177, 178, 179, 180, 181, 182, 183, 184, 185, 186, 187, 188, 189, 190] (by decide +kernel) (by decide +kernel)
set_option maxRecDepth 20000 in
theorem ggL_build_L_act_r8 : GoodIn wsL_build wsL_act_r8 := goodIn_r _ [191, 192, 193, 194, 195, 196, 197, 198, 199, 200, 201, 202, 203, 204, 205, 206, 207, 208, 209, 210, 16, 211, 10, 15] (by decide +kernel) (by decide +kernel)
set_option maxRecDepth 20000 in
theorem ggL_build_L_act_r9 : GoodIn wsL_build wsL_act_r9 := goodIn_r _ [14, 17, 11, 12, 212, 213, 214, 215, 216, 217, 218, 219, 220, 221, 222, 223, 224, 225, 226, 227, 228, 229, 230, 231] (by decide +kernel) (by decide +kernel)
set_option maxRecDepth 20000 in
theorem ggL_build_L_act_r10 : GoodIn wsL_build wsL_act_r10 := goodIn_r _ [232, 233, 234, 235, 236, 237, 238, 239, 240, 241, 242, 243, 244, 245, 246, 247, 248, 249, 250, 251, 252, 253, 254, 255] (by decide +kernel) (by decide +kernel)
set_option maxRecDepth 20000 in
theorem ggL_build_L_act_r11 : GoodIn wsL_build wsL_act_r11 := goodIn_r _ [256, 257, 258, 259, 260, 261, 262, 263, 264, 265, 266, 267, 268, 269, 270, 271, 272, 273, 274, 275, 276, 277, 278, 279] (by decide +kernel) (by decide +kernel)
set_option maxRecDepth 20000 in
theorem ggL_build_L_act_r12 : GoodIn wsL_build wsL_act_r12 := goodIn_r _ [280, 281, 282, 283, 284, 285, 286, 287, 288, 289, 290, 291, 292, 293, 294, 295, 296, 297, 298, 299, 300, 301, 302, 303] (by decide +kernel) (by decide +kernel)
set_option maxRecDepth 20000 in
theorem ggL_build_L_act_r13 : GoodIn wsL_build wsL_act_r13 := goodIn_r _ [304, 305, 306, 307, 308, 309, 310, 311, 312, 313, 314, 315, 316] (by decide +kernel) (by decide +kernel)
theorem ggL_build_L_act_wsX80 : GoodIn wsL_build wsX80 := goodIn_sub (by decide +kernel) (by decide +kernel)
theorem ggL_build_L_act_wsX70 : GoodIn wsL_build wsX70 := goodIn_sub (by decide +kernel) (by decide +kernel)
theorem ggL_build_L_act_wsX60 : GoodIn wsL_build wsX60 := goodIn_sub (by decide +kernel) (by decide +kernel)
theorem ggL_build_L_act_wsX00 : GoodIn wsL_build wsX00 := goodIn_sub (by decide +kernel) (by decide +kernel)
theorem ggL_build_L_act_wsX20 : GoodIn wsL_build wsX20 := goodIn_sub (by decide +kernel) (by decide +kernel)
theorem ggL_build_L_act_wsX30 : GoodIn wsL_build wsX30 := goodIn_sub (by decide +kernel) (by decide +kernel)
theorem ggL_build_L_act_wsX10 : GoodIn wsL_build wsX10 := goodIn_sub (by decide +kernel) (by decide +kernel)
theorem ggL_build_L_act_wsX40 : GoodIn wsL_build wsX40 := goodIn_sub (by decide +kernel) (by decide +kernel)
theorem ggL_build_L_act : GoodIn wsL_build wsL_act := goodIn_cons ggL_build_L_act_h (goodIn_app (goodIn_app (goodIn_app (goodIn_app (goodIn_app (goodIn_app (goodIn_app (goodIn_app (goodIn_app (goodIn_app (goodIn_app (goodIn_app ggL_build_L_act_r1 (goodIn_app ggL_build_L_act_r2 (goodIn_app ggL_build_L_act_r3 (goodIn_app ggL_build_L_act_r4 (goodIn_app ggL_build_L_act_r5 (goodIn_app ggL_build_L_act_r6 (goodIn_app ggL_build_L_act_r7 (goodIn_app ggL_build_L_act_r8 (goodIn_app ggL_build_L_act_r9 (goodIn_app ggL_build_L_act_r10 (goodIn_app ggL_build_L_act_r11 (goodIn_app ggL_build_L_act_r12 (ggL_build_L_act_r13))))))))))))) ggL_build_L_act_wsX80) ggL_build_L_act_wsX70) ggL_build_L_act_wsX60) ggL_build_L_act_wsX00) ggL_build_L_act_wsX20) ggL_build_L_act_wsX30) ggL_build_L_act_wsX10) ggL_build_L_act_wsX40) (goodIn_sub (fun _ h => List.mem_cons_of_mem _ (List.mem_append_left _ (List.mem_append_left _ (List.mem_append_right _ h)))) (by decide +kernel))) (goodIn_sub (fun _ h => List.mem_cons_of_mem _ (List.mem_append_left _ (List.mem_append_right _ h))) (by decide +kernel))) (goodIn_sub (fun _ h => List.mem_cons_of_mem _ (List.mem_append_right _ h)) (by decide +kernel)))
set_option maxRecDepth 20000 in
theorem gL_build_L_act : GoodIn wsL_build (va_wsS RL 108 yL_act wsL_act) := goodIn_app (goodIn_of _ (by decide +kernel)) ggL_build_L_act
theorem dL_build_0 : decode cL_build 0 = .ok (.new 18, 3) := by decide +kernel
theorem dL_build_3 : decode cL_build 3 = .ok (.dup, 1) := by decide +kernel
theorem dL_build_4 : decode cL_build 4 = .ok (.invokespecial 103, 3) := by decide +kernel
theorem dL_build_7 : decode cL_build 7 = .ok (.astore_n 2, 1) := by decide +kernel
theorem dL_build_8 : decode cL_build 8 = .ok (.bipush 30, 2) := by decide +kernel
theorem dL_build_10 : decode cL_build 10 = .ok (.aload_n 1, 1) := by decide +kernel
theorem dL_build_11 : decode cL_build 11 = .ok (.iconst 0, 1) := by decide +kernel
theorem dL_build_12 : decode cL_build 12 = .ok (.invokestatic 104, 3) := by decide +kernel
theorem dL_build_15 : decode cL_build 15 = .ok (.bipush 60, 2) := by decide +kernel
theorem dL_build_17 : decode cL_build 17 = .ok (.invokestatic 11, 3) := by decide +kernel
theorem dL_build_20 : decode cL_build 20 = .ok (.iadd, 1) := by decide +kernel
theorem dL_build_21 : decode cL_build 21 = .ok (.istore_n 3, 1) := by decide +kernel
theorem dL_build_22 : decode cL_build 22 = .ok (.iconst 0, 1) := by decide +kernel
theorem dL_build_23 : decode cL_build 23 = .ok (.istore 4, 2) := by decide +kernel
theorem dL_build_25 : decode cL_build 25 = .ok (.iload 4, 2) := by decide +kernel
theorem dL_build_27 : decode cL_build 27 = .ok (.bipush 8, 2) := by decide +kernel
theorem dL_build_29 : decode cL_build 29 = .ok (.if_icmp .ge 44, 3) := by decide +kernel
theorem dL_build_32 : decode cL_build 32 = .ok (.aload_n 0, 1) := by decide +kernel
theorem dL_build_33 : decode cL_build 33 = .ok (.aload_n 2, 1) := by decide +kernel
theorem dL_build_34 : decode cL_build 34 = .ok (.aload_n 1, 1) := by decide +kernel
theorem dL_build_35 : decode cL_build 35 = .ok (.iload 4, 2) := by decide +kernel
theorem dL_build_37 : decode cL_build 37 = .ok (.invokestatic 104, 3) := by decide +kernel
theorem dL_build_40 : decode cL_build 40 = .ok (.sipush 255, 3) := by decide +kernel
theorem dL_build_43 : decode cL_build 43 = .ok (.iand, 1) := by decide +kernel
theorem dL_build_44 : decode cL_build 44 = .ok (.iload 4, 2) := by decide +kernel
theorem dL_build_46 : decode cL_build 46 = .ok (.iconst 4, 1) := by decide +kernel
theorem dL_build_47 : decode cL_build 47 = .ok (.irem, 1) := by decide +kernel
theorem dL_build_48 : decode cL_build 48 = .ok (.bipush 9, 2) := by decide +kernel
theorem dL_build_50 : decode cL_build 50 = .ok (.ishl, 1) := by decide +kernel
theorem dL_build_51 : decode cL_build 51 = .ok (.ior, 1) := by decide +kernel
theorem dL_build_52 : decode cL_build 52 = .ok (.sipush 11264, 3) := by decide +kernel
theorem dL_build_55 : decode cL_build 55 = .ok (.iload 4, 2) := by decide +kernel
theorem dL_build_57 : decode cL_build 57 = .ok (.imul, 1) := by decide +kernel
theorem dL_build_58 : decode cL_build 58 = .ok (.iadd, 1) := by decide +kernel
theorem dL_build_59 : decode cL_build 59 = .ok (.invokestatic 108, 3) := by decide +kernel
theorem dL_build_62 : decode cL_build 62 = .ok (.ifCond .ne 5, 3) := by decide +kernel
theorem dL_build_65 : decode cL_build 65 = .ok (.aconst_null, 1) := by decide +kernel
theorem dL_build_66 : decode cL_build 66 = .ok (.areturn, 1) := by decide +kernel
theorem dL_build_67 : decode cL_build 67 = .ok (.iinc 4 1, 3) := by decide +kernel
theorem dL_build_70 : decode cL_build 70 = .ok (.goto (-45), 3) := by decide +kernel
theorem dL_build_73 : decode cL_build 73 = .ok (.iconst 0, 1) := by decide +kernel
theorem dL_build_74 : decode cL_build 74 = .ok (.istore 4, 2) := by decide +kernel
theorem dL_build_76 : decode cL_build 76 = .ok (.iload 4, 2) := by decide +kernel
theorem dL_build_78 : decode cL_build 78 = .ok (.iload_n 3, 1) := by decide +kernel
theorem dL_build_79 : decode cL_build 79 = .ok (.if_icmp .ge 43, 3) := by decide +kernel
theorem dL_build_82 : decode cL_build 82 = .ok (.aload_n 0, 1) := by decide +kernel
theorem dL_build_83 : decode cL_build 83 = .ok (.aload_n 2, 1) := by decide +kernel
theorem dL_build_84 : decode cL_build 84 = .ok (.aload_n 1, 1) := by decide +kernel
theorem dL_build_85 : decode cL_build 85 = .ok (.iload 4, 2) := by decide +kernel
theorem dL_build_87 : decode cL_build 87 = .ok (.bipush 16, 2) := by decide +kernel
theorem dL_build_89 : decode cL_build 89 = .ok (.irem, 1) := by decide +kernel
theorem dL_build_90 : decode cL_build 90 = .ok (.invokestatic 104, 3) := by decide +kernel
theorem dL_build_93 : decode cL_build 93 = .ok (.iload 4, 2) := by decide +kernel
theorem dL_build_95 : decode cL_build 95 = .ok (.bipush 16, 2) := by decide +kernel
theorem dL_build_97 : decode cL_build 97 = .ok (.idiv, 1) := by decide +kernel
theorem dL_build_98 : decode cL_build 98 = .ok (.iconst 3, 1) := by decide +kernel
theorem dL_build_99 : decode cL_build 99 = .ok (.imul, 1) := by decide +kernel
theorem dL_build_100 : decode cL_build 100 = .ok (.ishr, 1) := by decide +kernel
theorem dL_build_101 : decode cL_build 101 = .ok (.sipush 433, 3) := by decide +kernel
theorem dL_build_104 : decode cL_build 104 = .ok (.iload 4, 2) := by decide +kernel
theorem dL_build_106 : decode cL_build 106 = .ok (.imul, 1) := by decide +kernel
theorem dL_build_107 : decode cL_build 107 = .ok (.iadd, 1) := by decide +kernel
theorem dL_build_108 : decode cL_build 108 = .ok (.invokestatic 108, 3) := by decide +kernel
theorem dL_build_111 : decode cL_build 111 = .ok (.ifCond .ne 5, 3) := by decide +kernel
theorem dL_build_114 : decode cL_build 114 = .ok (.aconst_null, 1) := by decide +kernel
theorem dL_build_115 : decode cL_build 115 = .ok (.areturn, 1) := by decide +kernel
theorem dL_build_116 : decode cL_build 116 = .ok (.iinc 4 1, 3) := by decide +kernel
theorem dL_build_119 : decode cL_build 119 = .ok (.goto (-43), 3) := by decide +kernel
theorem dL_build_122 : decode cL_build 122 = .ok (.aload_n 2, 1) := by decide +kernel
theorem dL_build_123 : decode cL_build 123 = .ok (.areturn, 1) := by decide +kernel
