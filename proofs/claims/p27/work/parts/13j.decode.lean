set_option maxRecDepth 20000 in
theorem ggL_law_X7_init : GoodIn wsL_law wsX7_init := goodIn_r _ [14, 15, 16, 17, 18, 19, 20, 21, 22, 23, 24, 25, 26, 27, 28, 29, 30, 31, 32, 33, 34, 35, 36, 37, 38, 39, 40, 41, 42, 43, 44, 45, 46, 47, 48, 49, 50, 51, 52, 53, 54, 55, 56, 57, 58, 59, 60, 61, 62, 454, 455, 456, 457, 458, 459, 460, 461, 462, 463, 464, 441, 442, 465, 466, 467, 468, 469, 470, 471, 472, 473, 474, 475, 476, 477, 478, 479, 480, 481, 482, 483, 484, 485, 486, 487, 488, 489] (by decide +kernel) (by decide +kernel)
set_option maxRecDepth 20000 in
theorem gL_law_X7_init : GoodIn wsL_law (wsX7_init) := ggL_law_X7_init
set_option maxRecDepth 20000 in
theorem ggL_law_L_build_h : GoodIn wsL_law [.code yL_build cL_build 5 (some (.object "ChicoryRoastersLaw$Sim"))] := goodIn_1 66 rfl (by decide +kernel)
set_option maxRecDepth 20000 in
theorem ggL_law_L_build_r1 : GoodIn wsL_law wsL_build_r1 := goodIn_r _ [67, 68, 69, 70, 71, 72, 16, 17, 73, 74, 75, 76, 77, 78, 79, 80, 81, 82, 83, 65, 84, 85, 86, 87] (by decide +kernel) (by decide +kernel)
set_option maxRecDepth 20000 in
theorem ggL_law_L_build_r2 : GoodIn wsL_law wsL_build_r2 := goodIn_app (a := [Cond.code yL_below cL_below 2 (some .int), Cond.constant RL 7 (2147483647), Cond.methodLink RL 108 yL_act, Cond.static yL_act]) (b := Cond.code yL_act cL_act 21 (some .boolean) :: [Cond.fieldLink RL 17 "ChicoryRoastersLaw$Sim" "beds" "[[I", Cond.fieldLink RL 32 "ChicoryRoastersLaw$Sim" "drums" "[[I", Cond.fieldLink RL 38 "ChicoryRoastersLaw$Sim" "smugglers" "[[I", Cond.fieldLink RL 44 "ChicoryRoastersLaw$Sim" "cards" "[[I", Cond.fieldLink RL 50 "ChicoryRoastersLaw$Sim" "patrol" "I", Cond.fieldLink RL 58 "ChicoryRoastersLaw$Sim" "share" "I", Cond.fieldLink RL 67 "ChicoryRoastersLaw$Sim" "store" "[I", Cond.fieldLink RL 84 "ChicoryRoastersLaw$Sim" "parts" "[I", Cond.fieldLink RL 93 "ChicoryRoastersLaw$Sim" "served" "I", Cond.methodLink RL 23 yL_with, Cond.static yL_with, Cond.code yL_with cL_with 4 (some (.array (.array .int))), Cond.classLink RL 9 "[I", Cond.methodLink RL 27 yX7_bed, Cond.instanceMethod yX7_bed, Cond.selects RX7 yX7_bed yX7_bed, Cond.initialized RX7, Cond.code yX7_bed cX7_bed 3 (some .int), Cond.fieldLink RX7 10 "ChicoryRoasters" "town" "LChicoryRoasters$Town;"]) (goodIn_r [Cond.code yL_below cL_below 2 (some .int), Cond.constant RL 7 (2147483647), Cond.methodLink RL 108 yL_act, Cond.static yL_act] [88, 89, 90, 91] (by decide +kernel) (by decide +kernel)) (goodIn_cons (goodIn_1 92 rfl (by decide +kernel)) (goodIn_r [Cond.fieldLink RL 17 "ChicoryRoastersLaw$Sim" "beds" "[[I", Cond.fieldLink RL 32 "ChicoryRoastersLaw$Sim" "drums" "[[I", Cond.fieldLink RL 38 "ChicoryRoastersLaw$Sim" "smugglers" "[[I", Cond.fieldLink RL 44 "ChicoryRoastersLaw$Sim" "cards" "[[I", Cond.fieldLink RL 50 "ChicoryRoastersLaw$Sim" "patrol" "I", Cond.fieldLink RL 58 "ChicoryRoastersLaw$Sim" "share" "I", Cond.fieldLink RL 67 "ChicoryRoastersLaw$Sim" "store" "[I", Cond.fieldLink RL 84 "ChicoryRoastersLaw$Sim" "parts" "[I", Cond.fieldLink RL 93 "ChicoryRoastersLaw$Sim" "served" "I", Cond.methodLink RL 23 yL_with, Cond.static yL_with, Cond.code yL_with cL_with 4 (some (.array (.array .int))), Cond.classLink RL 9 "[I", Cond.methodLink RL 27 yX7_bed, Cond.instanceMethod yX7_bed, Cond.selects RX7 yX7_bed yX7_bed, Cond.initialized RX7, Cond.code yX7_bed cX7_bed 3 (some .int), Cond.fieldLink RX7 10 "ChicoryRoasters" "town" "LChicoryRoasters$Town;"] [10, 3, 11, 5, 93, 94, 95, 4, 96, 97, 98, 99, 100, 101, 102, 103, 2, 104, 21] (by decide +kernel) (by decide +kernel)))
set_option maxRecDepth 20000 in
theorem ggL_law_L_build_r3 : GoodIn wsL_law wsL_build_r3 := goodIn_r _ [105, 106, 107, 108, 109, 110, 111, 112, 113, 114, 115, 116, 117, 118, 119, 39, 120, 121, 122, 123, 124, 125, 126, 127] (by decide +kernel) (by decide +kernel)
set_option maxRecDepth 20000 in
theorem ggL_law_L_build_r4 : GoodIn wsL_law wsL_build_r4 := goodIn_r _ [128, 129, 130, 131, 41, 132, 133, 134, 135, 136, 137, 138, 139, 140, 141, 142, 143, 43, 144, 145, 146, 147, 148, 149] (by decide +kernel) (by decide +kernel)
set_option maxRecDepth 20000 in
theorem ggL_law_L_build_r5 : GoodIn wsL_law wsL_build_r5 := goodIn_r _ [150, 151, 152, 153, 154, 155, 45, 156, 157, 158, 159, 160, 161, 162, 163, 164, 165, 166, 167, 168, 169, 170, 171, 172] (by decide +kernel) (by decide +kernel)
set_option maxRecDepth 20000 in
theorem ggL_law_L_build_r6 : GoodIn wsL_law wsL_build_r6 := goodIn_r _ [173, 174, 175, 176, 177, 178, 179, 180, 181, 182, 183, 184, 185, 186, 187, 188, 36, 189, 190, 191, 192, 193, 194, 195] (by decide +kernel) (by decide +kernel)
set_option maxRecDepth 20000 in
theorem ggL_law_L_build_r7 : GoodIn wsL_law wsL_build_r7 := goodIn_r _ [196, 197, 198, 199, 200, 201, 202, 203, 204, 205, 206, 207, 208, 209, 58, 210, 211, 212, 213, 214, 215, 216, 217, 218] (by decide +kernel) (by decide +kernel)
set_option maxRecDepth 20000 in
theorem ggL_law_L_build_r8 : GoodIn wsL_law wsL_build_r8 := goodIn_r _ [219, 220, 221, 222, 223, 224, 225, 226, 227, 228, 229, 230, 231, 232, 233, 234, 235, 236, 237, 238, 239, 240, 241, 242] (by decide +kernel) (by decide +kernel)
set_option maxRecDepth 20000 in
theorem ggL_law_L_build_r9 : GoodIn wsL_law wsL_build_r9 := goodIn_r _ [243, 244, 245, 246, 247, 248, 249, 250, 251, 252, 253, 254, 255, 256, 257, 258, 259, 260, 261, 262, 263, 264, 265, 266] (by decide +kernel) (by decide +kernel)
set_option maxRecDepth 20000 in
theorem ggL_law_L_build_r10 : GoodIn wsL_law wsL_build_r10 := goodIn_r _ [267, 268, 269, 270, 271, 272, 273, 274, 275, 20, 276, 277, 278, 279, 280, 281, 282, 37, 31, 283, 284, 285, 286, 287] (by decide +kernel) (by decide +kernel)
set_option maxRecDepth 20000 in
theorem ggL_law_L_build_r11 : GoodIn wsL_law wsL_build_r11 := goodIn_r _ [288, 289, 290, 291, 292, 293, 294, 295, 296, 297, 298, 299, 300, 301, 302, 29, 303, 304, 305, 306, 307, 308, 309, 310] (by decide +kernel) (by decide +kernel)
set_option maxRecDepth 20000 in
theorem ggL_law_L_build_r12 : GoodIn wsL_law wsL_build_r12 := goodIn_r _ [311, 7, 8, 9, 312, 313, 314, 315, 316, 27, 317, 318, 319, 320, 321, 322, 323, 324, 325, 326, 327, 33, 328, 329] (by decide +kernel) (by decide +kernel)
set_option maxRecDepth 20000 in
theorem ggL_law_L_build_r13 : GoodIn wsL_law wsL_build_r13 := goodIn_r _ [330, 331, 332, 333, 334, 335, 336, 337, 338, 339, 340, 341, 342, 343, 344, 345, 53, 346, 347, 348, 349, 350, 351, 352] (by decide +kernel) (by decide +kernel)
set_option maxRecDepth 20000 in
theorem ggL_law_L_build_r14 : GoodIn wsL_law wsL_build_r14 := goodIn_r _ [353, 354, 355, 356] (by decide +kernel) (by decide +kernel)
theorem ggL_law_L_build_wsX80 : GoodIn wsL_law wsX80 := goodIn_sub (by decide +kernel) (by decide +kernel)
theorem ggL_law_L_build_wsX70 : GoodIn wsL_law wsX70 := goodIn_sub (by decide +kernel) (by decide +kernel)
theorem ggL_law_L_build_wsX60 : GoodIn wsL_law wsX60 := goodIn_sub (by decide +kernel) (by decide +kernel)
theorem ggL_law_L_build_wsX00 : GoodIn wsL_law wsX00 := goodIn_sub (by decide +kernel) (by decide +kernel)
theorem ggL_law_L_build_wsX20 : GoodIn wsL_law wsX20 := goodIn_sub (by decide +kernel) (by decide +kernel)
theorem ggL_law_L_build_wsX30 : GoodIn wsL_law wsX30 := goodIn_sub (by decide +kernel) (by decide +kernel)
theorem ggL_law_L_build_wsX10 : GoodIn wsL_law wsX10 := goodIn_sub (by decide +kernel) (by decide +kernel)
theorem ggL_law_L_build_wsX40 : GoodIn wsL_law wsX40 := goodIn_sub (by decide +kernel) (by decide +kernel)
theorem ggL_law_L_build : GoodIn wsL_law wsL_build := goodIn_cons ggL_law_L_build_h (goodIn_app (goodIn_app (goodIn_app (goodIn_app (goodIn_app (goodIn_app (goodIn_app (goodIn_app (goodIn_app (goodIn_app (goodIn_app (goodIn_app ggL_law_L_build_r1 (goodIn_app ggL_law_L_build_r2 (goodIn_app ggL_law_L_build_r3 (goodIn_app ggL_law_L_build_r4 (goodIn_app ggL_law_L_build_r5 (goodIn_app ggL_law_L_build_r6 (goodIn_app ggL_law_L_build_r7 (goodIn_app ggL_law_L_build_r8 (goodIn_app ggL_law_L_build_r9 (goodIn_app ggL_law_L_build_r10 (goodIn_app ggL_law_L_build_r11 (goodIn_app ggL_law_L_build_r12 (goodIn_app ggL_law_L_build_r13 (ggL_law_L_build_r14)))))))))))))) ggL_law_L_build_wsX80) ggL_law_L_build_wsX70) ggL_law_L_build_wsX60) ggL_law_L_build_wsX00) ggL_law_L_build_wsX20) ggL_law_L_build_wsX30) ggL_law_L_build_wsX10) ggL_law_L_build_wsX40) (goodIn_sub (fun _ h => List.mem_append_left _ (List.mem_append_left _ (List.mem_append_right _ h))) (by decide +kernel))) (goodIn_sub (fun _ h => List.mem_append_left _ (List.mem_append_right _ h)) (by decide +kernel))) (goodIn_sub (fun _ h => List.mem_append_right _ h) (by decide +kernel)))
set_option maxRecDepth 20000 in
theorem gL_law_L_build : GoodIn wsL_law (va_wsS RL 113 yL_build wsL_build) := goodIn_app (goodIn_of _ (by decide +kernel)) ggL_law_L_build
