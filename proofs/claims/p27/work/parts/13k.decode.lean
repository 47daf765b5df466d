set_option maxRecDepth 20000 in
theorem ggL_law_X7_count : GoodIn wsL_law wsX7_count := goodIn_ca (goodIn_r _ [360, 21, 361, 362, 2, 363, 364, 365, 366, 367, 39, 368, 369, 370, 45, 371, 372, 373, 41, 374, 375, 376, 43, 377, 378, 379, 20, 380, 176, 177, 178, 179, 180, 381, 382, 383, 384, 385, 121, 122, 321, 386, 387, 388, 157, 158, 159, 341, 340, 389, 390, 391, 133, 134, 58, 210, 211, 392, 224, 225, 226, 227, 228, 229, 230, 231, 232, 233, 234, 393, 394, 395, 145, 146, 251, 252, 292, 396, 397, 398, 277, 37, 399, 400, 401, 402, 403, 404, 405, 287, 441, 442, 472, 473, 474, 485, 486, 487, 488, 489, 475, 476, 477, 478, 479, 480, 481, 482, 483, 484, 454, 455, 456, 457, 458, 459, 460, 461, 462, 463, 464, 465, 466, 467, 468, 469, 470, 471] (by decide +kernel) (by decide +kernel)) (goodIn_sub (fun _ h => List.mem_append_right _ h) (by decide +kernel))
set_option maxRecDepth 20000 in
theorem gL_law_X7_count : GoodIn wsL_law (wsV RL 117 RX7 yX7_count wsX7_count) := goodIn_app (goodIn_of _ (by decide +kernel)) ggL_law_X7_count
set_option maxRecDepth 20000 in
theorem ggL_law_L_cell : GoodIn wsL_law wsL_cell := goodIn_r _ [84, 85] (by decide +kernel) (by decide +kernel)
set_option maxRecDepth 20000 in
theorem gL_law_L_cell : GoodIn wsL_law (va_wsS RL 104 yL_cell wsL_cell) := goodIn_app (goodIn_of _ (by decide +kernel)) ggL_law_L_cell
set_option maxRecDepth 20000 in
theorem ggL_law_X7_roast : GoodIn wsL_law wsX7_roast := goodIn_ca (goodIn_r _ [409, 21, 127, 128, 176, 177, 2, 178, 179, 180, 361, 362, 363, 364, 365, 366, 367, 39, 368, 369, 370, 45, 371, 372, 373, 41, 374, 375, 376, 43, 377, 378, 379, 20, 380, 381, 382, 383, 384, 385, 121, 122, 321, 386, 387, 388, 157, 158, 159, 341, 340, 389, 390, 391, 133, 134, 58, 210, 211, 392, 224, 225, 226, 227, 228, 229, 230, 231, 232, 233, 234, 393, 394, 395, 145, 146, 251, 252, 292, 396, 397, 398, 277, 37, 399, 400, 401, 402, 403, 404, 405, 287, 441, 442, 454, 455, 456, 457, 458, 459, 460, 461, 462, 463, 464, 472, 473, 474, 485, 486, 487, 488, 489, 475, 476, 477, 478, 479, 480, 481, 482, 483, 484, 465, 466, 467, 468, 469, 470, 471] (by decide +kernel) (by decide +kernel)) (goodIn_sub (fun _ h => List.mem_append_right _ h) (by decide +kernel))
set_option maxRecDepth 20000 in
theorem gL_law_X7_roast : GoodIn wsL_law (wsV RL 120 RX7 yX7_roast wsX7_roast) := goodIn_app (goodIn_of _ (by decide +kernel)) ggL_law_X7_roast
set_option maxRecDepth 20000 in
theorem ggL_law_X7_take : GoodIn wsL_law wsX7_take := goodIn_ca (goodIn_ca (goodIn_r _ [221, 21, 127, 128, 205, 222, 169, 176, 177, 2, 178, 179, 180, 112, 113, 114, 115, 116, 223, 224, 225, 41, 226, 58, 210, 227, 228, 229, 230, 231, 232, 233, 234, 235, 236, 237, 36, 238, 239, 240, 206, 207, 208, 209, 211, 441, 442, 454, 455, 456, 457, 458, 459, 460, 461, 462, 463, 464, 475, 476, 477, 478, 479, 465, 466, 467, 468, 469, 470, 471] (by decide +kernel) (by decide +kernel)) (goodIn_sub (fun _ h => List.mem_append_right _ h) (by decide +kernel))) (goodIn_sub (fun _ h => List.mem_append_left _ (List.mem_append_right _ h)) (by decide +kernel))
set_option maxRecDepth 20000 in
theorem gL_law_X7_take : GoodIn wsL_law (wsV RL 87 RX7 yX7_take wsX7_take) := goodIn_app (goodIn_of _ (by decide +kernel)) ggL_law_X7_take
set_option maxRecDepth 20000 in
theorem ggL_law_L_below : GoodIn wsL_law wsL_below := goodIn_r _ [88, 89] (by decide +kernel) (by decide +kernel)
set_option maxRecDepth 20000 in
theorem gL_law_L_below : GoodIn wsL_law (va_wsS RL 11 yL_below wsL_below) := goodIn_app (goodIn_of _ (by decide +kernel)) ggL_law_L_below
set_option maxRecDepth 20000 in
theorem ggL_law_X7_pass_h : GoodIn wsL_law [.code yX7_pass cX7_pass 2 (some .int)] := goodIn_1 272 rfl (by decide +kernel)
set_option maxRecDepth 20000 in
theorem ggL_law_X7_pass_r1 : GoodIn wsL_law wsX7_pass_r1 := goodIn_r _ [21, 107, 108, 2, 109, 110, 111, 273, 274, 275, 20, 276, 277, 278, 279, 280, 281, 282, 37, 31, 283, 284, 285, 286] (by decide +kernel) (by decide +kernel)
set_option maxRecDepth 20000 in
theorem ggL_law_X7_pass_r2 : GoodIn wsL_law wsX7_pass_r2 := goodIn_r _ [287, 288, 289, 290, 43, 291, 251, 252, 145, 292, 293, 294, 295, 296, 146, 297, 187, 188, 36, 189, 190, 191, 298, 299] (by decide +kernel) (by decide +kernel)
set_option maxRecDepth 20000 in
theorem ggL_law_X7_pass_r3 : GoodIn wsL_law wsX7_pass_r3 := goodIn_r _ [300, 301, 302, 29, 303, 304, 305, 41, 306, 211, 307, 308, 309, 310, 58, 134, 311, 7, 8, 9, 231, 232, 233, 234] (by decide +kernel) (by decide +kernel)
set_option maxRecDepth 20000 in
theorem ggL_law_X7_pass_r4 : GoodIn wsL_law wsX7_pass_r4 := goodIn_r _ [312, 313, 314, 315, 316, 27, 317, 318, 319, 39, 320, 321, 121, 122, 322, 323, 324, 325, 326, 327, 33, 328, 329, 330] (by decide +kernel) (by decide +kernel)
set_option maxRecDepth 20000 in
theorem ggL_law_X7_pass_r5 : GoodIn wsL_law wsX7_pass_r5 := goodIn_r _ [45, 331, 157, 159, 332, 333, 334, 335, 336, 337, 338, 339, 158, 340, 341, 342, 343, 344, 345, 53, 240, 346, 347, 348] (by decide +kernel) (by decide +kernel)
set_option maxRecDepth 20000 in
theorem ggL_law_X7_pass_r6 : GoodIn wsL_law wsX7_pass_r6 := goodIn_r _ [349, 350, 239, 351, 352, 353, 354, 355, 356] (by decide +kernel) (by decide +kernel)
theorem ggL_law_X7_pass_wsX70 : GoodIn wsL_law wsX70 := goodIn_sub (by decide +kernel) (by decide +kernel)
theorem ggL_law_X7_pass_wsX60 : GoodIn wsL_law wsX60 := goodIn_sub (by decide +kernel) (by decide +kernel)
theorem ggL_law_X7_pass_wsX30 : GoodIn wsL_law wsX30 := goodIn_sub (by decide +kernel) (by decide +kernel)
theorem ggL_law_X7_pass_wsX40 : GoodIn wsL_law wsX40 := goodIn_sub (by decide +kernel) (by decide +kernel)
theorem ggL_law_X7_pass_wsX20 : GoodIn wsL_law wsX20 := goodIn_sub (by decide +kernel) (by decide +kernel)
theorem ggL_law_X7_pass_wsX00 : GoodIn wsL_law wsX00 := goodIn_sub (by decide +kernel) (by decide +kernel)
theorem ggL_law_X7_pass_wsX10 : GoodIn wsL_law wsX10 := goodIn_sub (by decide +kernel) (by decide +kernel)
