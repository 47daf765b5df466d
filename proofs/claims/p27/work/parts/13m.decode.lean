theorem ggL_law_L_act : GoodIn wsL_law wsL_act := goodIn_cons ggL_law_L_act_h (goodIn_app (goodIn_app (goodIn_app (goodIn_app (goodIn_app (goodIn_app (goodIn_app (goodIn_app (goodIn_app (goodIn_app (goodIn_app (goodIn_app ggL_law_L_act_r1 (goodIn_app ggL_law_L_act_r2 (goodIn_app ggL_law_L_act_r3 (goodIn_app ggL_law_L_act_r4 (goodIn_app ggL_law_L_act_r5 (goodIn_app ggL_law_L_act_r6 (goodIn_app ggL_law_L_act_r7 (goodIn_app ggL_law_L_act_r8 (goodIn_app ggL_law_L_act_r9 (goodIn_app ggL_law_L_act_r10 (goodIn_app ggL_law_L_act_r11 (goodIn_app ggL_law_L_act_r12 (ggL_law_L_act_r13))))))))))))) ggL_law_L_act_wsX80) ggL_law_L_act_wsX70) ggL_law_L_act_wsX60) ggL_law_L_act_wsX00) ggL_law_L_act_wsX20) ggL_law_L_act_wsX30) ggL_law_L_act_wsX10) ggL_law_L_act_wsX40) (goodIn_sub (fun _ h => List.mem_append_left _ (List.mem_append_left _ (List.mem_append_right _ h))) (by decide +kernel))) (goodIn_sub (fun _ h => List.mem_append_left _ (List.mem_append_right _ h)) (by decide +kernel))) (goodIn_sub (fun _ h => List.mem_append_right _ h) (by decide +kernel)))
set_option maxRecDepth 20000 in
theorem gL_law_L_act : GoodIn wsL_law (va_wsS RL 108 yL_act wsL_act) := goodIn_app (goodIn_of _ (by decide +kernel)) ggL_law_L_act
set_option maxRecDepth 20000 in
theorem ggL_law_X8_isSame_h : GoodIn wsL_law [.code yX8_isSame cX8_isSame 5 (some .boolean)] := goodIn_1 425 rfl (by decide +kernel)
set_option maxRecDepth 20000 in
theorem ggL_law_X8_isSame_r1 : GoodIn wsL_law wsX8_isSame_r1 := goodIn_r _ [78, 79, 80, 81, 426, 358, 359, 2, 360, 21, 361, 362, 363, 364, 365, 366, 367, 39, 368, 369, 370, 45, 371, 372] (by decide +kernel) (by decide +kernel)
set_option maxRecDepth 20000 in
theorem ggL_law_X8_isSame_r2 : GoodIn wsL_law wsX8_isSame_r2 := goodIn_r _ [373, 41, 374, 375, 376, 43, 377, 378, 379, 20, 380, 176, 177, 178, 179, 180, 381, 382, 383, 384, 385, 121, 122, 321] (by decide +kernel) (by decide +kernel)
set_option maxRecDepth 20000 in
theorem ggL_law_X8_isSame_r3 : GoodIn wsL_law wsX8_isSame_r3 := goodIn_r _ [386, 387, 388, 157, 158, 159, 341, 340, 389, 390, 391, 133, 134, 58, 210, 211, 392, 224, 225, 226, 227, 228, 229, 230] (by decide +kernel) (by decide +kernel)
set_option maxRecDepth 20000 in
theorem ggL_law_X8_isSame_r4 : GoodIn wsL_law wsX8_isSame_r4 := goodIn_r _ [231, 232, 233, 234, 393, 394, 395, 145, 146, 251, 252, 292, 396, 397, 398, 277, 37, 399, 400, 401, 402, 403, 404, 405] (by decide +kernel) (by decide +kernel)
set_option maxRecDepth 20000 in
theorem ggL_law_X8_isSame_r5 : GoodIn wsL_law wsX8_isSame_r5 := goodIn_r _ [287, 427, 428, 429, 69, 430, 73, 261, 74, 75, 262, 263, 76, 268, 431, 415, 416, 417, 105, 106, 432, 407, 408, 409] (by decide +kernel) (by decide +kernel)
set_option maxRecDepth 20000 in
theorem ggL_law_X8_isSame_r6 : GoodIn wsL_law wsX8_isSame_r6 := goodIn_r _ [127, 128, 433, 213, 214, 215, 216, 217, 434, 419, 420, 421, 139, 140, 435, 411, 412, 413, 151, 152, 436, 437, 438, 439] (by decide +kernel) (by decide +kernel)
set_option maxRecDepth 20000 in
theorem ggL_law_X8_isSame_r7 : GoodIn wsL_law wsX8_isSame_r7 := goodIn_r _ [169, 440] (by decide +kernel) (by decide +kernel)
theorem ggL_law_X8_isSame_wsX80 : GoodIn wsL_law wsX80 := goodIn_sub (by decide +kernel) (by decide +kernel)
theorem ggL_law_X8_isSame_wsX70 : GoodIn wsL_law wsX70 := goodIn_sub (by decide +kernel) (by decide +kernel)
theorem ggL_law_X8_isSame_wsX00 : GoodIn wsL_law wsX00 := goodIn_sub (by decide +kernel) (by decide +kernel)
theorem ggL_law_X8_isSame_wsX10 : GoodIn wsL_law wsX10 := goodIn_sub (by decide +kernel) (by decide +kernel)
theorem ggL_law_X8_isSame_wsX20 : GoodIn wsL_law wsX20 := goodIn_sub (by decide +kernel) (by decide +kernel)
theorem ggL_law_X8_isSame_wsX30 : GoodIn wsL_law wsX30 := goodIn_sub (by decide +kernel) (by decide +kernel)
theorem ggL_law_X8_isSame_wsX60 : GoodIn wsL_law wsX60 := goodIn_sub (by decide +kernel) (by decide +kernel)
theorem ggL_law_X8_isSame_wsX40 : GoodIn wsL_law wsX40 := goodIn_sub (by decide +kernel) (by decide +kernel)
