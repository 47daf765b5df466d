theorem ggL_law_X7_pass : GoodIn wsL_law wsX7_pass := goodIn_cons ggL_law_X7_pass_h (goodIn_app (goodIn_app (goodIn_app (goodIn_app (goodIn_app (goodIn_app (goodIn_app (goodIn_app (goodIn_app ggL_law_X7_pass_r1 (goodIn_app ggL_law_X7_pass_r2 (goodIn_app ggL_law_X7_pass_r3 (goodIn_app ggL_law_X7_pass_r4 (goodIn_app ggL_law_X7_pass_r5 (ggL_law_X7_pass_r6)))))) ggL_law_X7_pass_wsX70) ggL_law_X7_pass_wsX60) ggL_law_X7_pass_wsX30) ggL_law_X7_pass_wsX40) ggL_law_X7_pass_wsX20) ggL_law_X7_pass_wsX00) ggL_law_X7_pass_wsX10) (goodIn_sub (fun _ h => List.mem_append_left _ (List.mem_append_left _ (List.mem_append_right _ h))) (by decide +kernel)))
set_option maxRecDepth 20000 in
theorem gL_law_X7_pass : GoodIn wsL_law (wsV RL 100 RX7 yX7_pass wsX7_pass) := goodIn_app (goodIn_of _ (by decide +kernel)) ggL_law_X7_pass
set_option maxRecDepth 20000 in
theorem ggL_law_X8_behind : GoodIn wsL_law wsX8_behind := goodIn_r _ [256, 257, 258, 259, 69, 260, 80, 261, 74, 79, 78, 81, 75, 76, 262, 263, 264, 265, 266, 267, 268, 215, 216, 217, 443, 444, 445, 446, 447, 448, 449, 450, 451, 452, 453] (by decide +kernel) (by decide +kernel)
set_option maxRecDepth 20000 in
theorem gL_law_X8_behind : GoodIn wsL_law (wsV RL 96 RX8 yX8_behind wsX8_behind) := goodIn_app (goodIn_of _ (by decide +kernel)) ggL_law_X8_behind
set_option maxRecDepth 20000 in
theorem ggL_law_X7_ration : GoodIn wsL_law wsX7_ration := goodIn_ca (goodIn_r _ [413, 21, 151, 152, 176, 177, 2, 178, 179, 180, 361, 362, 363, 364, 365, 366, 367, 39, 368, 369, 370, 45, 371, 372, 373, 41, 374, 375, 376, 43, 377, 378, 379, 20, 380, 381, 382, 383, 384, 385, 121, 122, 321, 386, 387, 388, 157, 158, 159, 341, 340, 389, 390, 391, 133, 134, 58, 210, 211, 392, 224, 225, 226, 227, 228, 229, 230, 231, 232, 233, 234, 393, 394, 395, 145, 146, 251, 252, 292, 396, 397, 398, 277, 37, 399, 400, 401, 402, 403, 404, 405, 287, 441, 442, 454, 455, 456, 457, 458, 459, 460, 461, 462, 463, 464, 472, 473, 474, 485, 486, 487, 488, 489, 475, 476, 477, 478, 479, 480, 481, 482, 483, 484, 465, 466, 467, 468, 469, 470, 471] (by decide +kernel) (by decide +kernel)) (goodIn_sub (fun _ h => List.mem_append_right _ h) (by decide +kernel))
set_option maxRecDepth 20000 in
theorem gL_law_X7_ration : GoodIn wsL_law (wsV RL 123 RX7 yX7_ration wsX7_ration) := goodIn_app (goodIn_of _ (by decide +kernel)) ggL_law_X7_ration
set_option maxRecDepth 20000 in
theorem ggL_law_X7_about : GoodIn wsL_law wsX7_about := goodIn_ca (goodIn_r _ [417, 21, 105, 106, 176, 177, 2, 178, 179, 180, 361, 362, 363, 364, 365, 366, 367, 39, 368, 369, 370, 45, 371, 372, 373, 41, 374, 375, 376, 43, 377, 378, 379, 20, 380, 381, 382, 383, 384, 385, 121, 122, 321, 386, 387, 388, 157, 158, 159, 341, 340, 389, 390, 391, 133, 134, 58, 210, 211, 392, 224, 225, 226, 227, 228, 229, 230, 231, 232, 233, 234, 393, 394, 395, 145, 146, 251, 252, 292, 396, 397, 398, 277, 37, 399, 400, 401, 402, 403, 404, 405, 287, 441, 442, 454, 455, 456, 457, 458, 459, 460, 461, 462, 463, 464, 472, 473, 474, 485, 486, 487, 488, 489, 475, 476, 477, 478, 479, 480, 481, 482, 483, 484, 465, 466, 467, 468, 469, 470, 471] (by decide +kernel) (by decide +kernel)) (goodIn_sub (fun _ h => List.mem_append_right _ h) (by decide +kernel))
set_option maxRecDepth 20000 in
theorem gL_law_X7_about : GoodIn wsL_law (wsV RL 131 RX7 yX7_about wsX7_about) := goodIn_app (goodIn_of _ (by decide +kernel)) ggL_law_X7_about
set_option maxRecDepth 20000 in
theorem ggL_law_X7_told : GoodIn wsL_law wsX7_told := goodIn_ca (goodIn_r _ [421, 21, 139, 140, 176, 177, 2, 178, 179, 180, 361, 362, 363, 364, 365, 366, 367, 39, 368, 369, 370, 45, 371, 372, 373, 41, 374, 375, 376, 43, 377, 378, 379, 20, 380, 381, 382, 383, 384, 385, 121, 122, 321, 386, 387, 388, 157, 158, 159, 341, 340, 389, 390, 391, 133, 134, 58, 210, 211, 392, 224, 225, 226, 227, 228, 229, 230, 231, 232, 233, 234, 393, 394, 395, 145, 146, 251, 252, 292, 396, 397, 398, 277, 37, 399, 400, 401, 402, 403, 404, 405, 287, 441, 442, 454, 455, 456, 457, 458, 459, 460, 461, 462, 463, 464, 472, 473, 474, 485, 486, 487, 488, 489, 475, 476, 477, 478, 479, 480, 481, 482, 483, 484, 465, 466, 467, 468, 469, 470, 471] (by decide +kernel) (by decide +kernel)) (goodIn_sub (fun _ h => List.mem_append_right _ h) (by decide +kernel))
set_option maxRecDepth 20000 in
theorem gL_law_X7_told : GoodIn wsL_law (wsV RL 134 RX7 yX7_told wsX7_told) := goodIn_app (goodIn_of _ (by decide +kernel)) ggL_law_X7_told
set_option maxRecDepth 20000 in
theorem ggL_law_L_act_h : GoodIn wsL_law [.code yL_act cL_act 21 (some .boolean)] := goodIn_1 92 rfl (by decide +kernel)
set_option maxRecDepth 20000 in
theorem ggL_law_L_act_r1 : GoodIn wsL_law wsL_act_r1 := goodIn_r _ [10, 73, 3, 11, 5, 93, 94, 95, 4, 96, 86, 87, 65, 88, 89, 97, 98, 99, 100, 101, 102, 103, 2, 104] (by decide +kernel) (by decide +kernel)
set_option maxRecDepth 20000 in
theorem ggL_law_L_act_r2 : GoodIn wsL_law wsL_act_r2 := goodIn_r _ [21, 105, 106, 107, 108, 109, 110, 111, 112, 113, 114, 115, 116, 117, 118, 119, 39, 120, 121, 122, 123, 124, 125, 126] (by decide +kernel) (by decide +kernel)
set_option maxRecDepth 20000 in
theorem ggL_law_L_act_r3 : GoodIn wsL_law wsL_act_r3 := goodIn_r _ [127, 128, 129, 130, 131, 41, 132, 133, 134, 135, 136, 137, 138, 139, 140, 141, 142, 143, 43, 144, 145, 146, 147, 148] (by decide +kernel) (by decide +kernel)
set_option maxRecDepth 20000 in
theorem ggL_law_L_act_r4 : GoodIn wsL_law wsL_act_r4 := goodIn_r _ [149, 150, 151, 152, 153, 154, 155, 45, 156, 157, 158, 159, 160, 161, 162, 163, 164, 165, 166, 167, 168, 169, 170, 171] (by decide +kernel) (by decide +kernel)
set_option maxRecDepth 20000 in
theorem ggL_law_L_act_r5 : GoodIn wsL_law wsL_act_r5 := goodIn_r _ [172, 173, 174, 175, 176, 177, 178, 179, 180, 181, 182, 183, 184, 185, 186, 187, 188, 36, 189, 190, 191, 192, 193, 194] (by decide +kernel) (by decide +kernel)
set_option maxRecDepth 20000 in
theorem ggL_law_L_act_r6 : GoodIn wsL_law wsL_act_r6 := goodIn_r _ [195, 196, 197, 198, 199, 200, 201, 202, 203, 204, 205, 206, 207, 208, 209, 58, 210, 211, 212, 213, 69, 214, 215, 216] (by decide +kernel) (by decide +kernel)
set_option maxRecDepth 20000 in
theorem ggL_law_L_act_r7 : GoodIn wsL_law wsL_act_r7 := goodIn_r _ [217, 218, 219, 220, 221, 222, 223, 224, 225, 226, 227, 228, 229, 230, 231, 232, 233, 234, 235, 236, 237, 238, 239, 240] (by decide +kernel) (by decide +kernel)
set_option maxRecDepth 20000 in
theorem ggL_law_L_act_r8 : GoodIn wsL_law wsL_act_r8 := goodIn_r _ [241, 242, 243, 244, 245, 246, 247, 248, 249, 250, 251, 252, 253, 254, 255, 256, 257, 258, 259, 260, 80, 261, 74, 79] (by decide +kernel) (by decide +kernel)
set_option maxRecDepth 20000 in
theorem ggL_law_L_act_r9 : GoodIn wsL_law wsL_act_r9 := goodIn_r _ [78, 81, 75, 76, 262, 263, 264, 265, 266, 267, 268, 269, 270, 271, 272, 273, 274, 275, 20, 276, 277, 278, 279, 280] (by decide +kernel) (by decide +kernel)
set_option maxRecDepth 20000 in
theorem ggL_law_L_act_r10 : GoodIn wsL_law wsL_act_r10 := goodIn_r _ [281, 282, 37, 31, 283, 284, 285, 286, 287, 288, 289, 290, 291, 292, 293, 294, 295, 296, 297, 298, 299, 300, 301, 302] (by decide +kernel) (by decide +kernel)
set_option maxRecDepth 20000 in
theorem ggL_law_L_act_r11 : GoodIn wsL_law wsL_act_r11 := goodIn_r _ [29, 303, 304, 305, 306, 307, 308, 309, 310, 311, 7, 8, 9, 312, 313, 314, 315, 316, 27, 317, 318, 319, 320, 321] (by decide +kernel) (by decide +kernel)
set_option maxRecDepth 20000 in
theorem ggL_law_L_act_r12 : GoodIn wsL_law wsL_act_r12 := goodIn_r _ [322, 323, 324, 325, 326, 327, 33, 328, 329, 330, 331, 332, 333, 334, 335, 336, 337, 338, 339, 340, 341, 342, 343, 344] (by decide +kernel) (by decide +kernel)
set_option maxRecDepth 20000 in
theorem ggL_law_L_act_r13 : GoodIn wsL_law wsL_act_r13 := goodIn_r _ [345, 53, 346, 347, 348, 349, 350, 351, 352, 353, 354, 355, 356] (by decide +kernel) (by decide +kernel)
theorem ggL_law_L_act_wsX80 : GoodIn wsL_law wsX80 := goodIn_sub (by decide +kernel) (by decide +kernel)
theorem ggL_law_L_act_wsX70 : GoodIn wsL_law wsX70 := goodIn_sub (by decide +kernel) (by decide +kernel)
theorem ggL_law_L_act_wsX60 : GoodIn wsL_law wsX60 := goodIn_sub (by decide +kernel) (by decide +kernel)
theorem ggL_law_L_act_wsX00 : GoodIn wsL_law wsX00 := goodIn_sub (by decide +kernel) (by decide +kernel)
theorem ggL_law_L_act_wsX20 : GoodIn wsL_law wsX20 := goodIn_sub (by decide +kernel) (by decide +kernel)
theorem ggL_law_L_act_wsX30 : GoodIn wsL_law wsX30 := goodIn_sub (by decide +kernel) (by decide +kernel)
theorem ggL_law_L_act_wsX10 : GoodIn wsL_law wsX10 := goodIn_sub (by decide +kernel) (by decide +kernel)
theorem ggL_law_L_act_wsX40 : GoodIn wsL_law wsX40 := goodIn_sub (by decide +kernel) (by decide +kernel)
