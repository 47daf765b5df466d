theorem goodIn_cons {big : List Cond} {c : Cond} {r : List Cond} (hc : GoodIn big [c]) (hr : GoodIn big r) : GoodIn big (c :: r) := fun w h => (List.mem_cons.mp h).elim (fun e => hc w (by rw [e]; exact List.mem_cons_self)) (hr w)
theorem goodIn_1 {big : List Cond} {w : Cond} (i : Nat) (h : big[i]? = some w) (hg : goodWord w = true) : GoodIn big [w] := fun x hx => by rw [List.mem_singleton.mp hx]; exact ⟨List.mem_of_getElem? h, good_of_word hg⟩
theorem dL_below_0 : decode cL_below 0 = .ok (.iload_n 0, 1) := by decide +kernel
theorem dL_below_1 : decode cL_below 1 = .ok (.ldc 7, 2) := by decide +kernel
theorem dL_below_3 : decode cL_below 3 = .ok (.iand, 1) := by decide +kernel
theorem dL_below_4 : decode cL_below 4 = .ok (.iload_n 1, 1) := by decide +kernel
theorem dL_below_5 : decode cL_below 5 = .ok (.irem, 1) := by decide +kernel
theorem dL_below_6 : decode cL_below 6 = .ok (.ireturn, 1) := by decide +kernel
theorem dL_cell_0 : decode cL_cell 0 = .ok (.iload_n 1, 1) := by decide +kernel
theorem dL_cell_1 : decode cL_cell 1 = .ok (.aload_n 0, 1) := by decide +kernel
theorem dL_cell_2 : decode cL_cell 2 = .ok (.arraylength, 1) := by decide +kernel
theorem dL_cell_3 : decode cL_cell 3 = .ok (.if_icmp .ge 9, 3) := by decide +kernel
theorem dL_cell_6 : decode cL_cell 6 = .ok (.aload_n 0, 1) := by decide +kernel
theorem dL_cell_7 : decode cL_cell 7 = .ok (.iload_n 1, 1) := by decide +kernel
theorem dL_cell_8 : decode cL_cell 8 = .ok (.iaload, 1) := by decide +kernel
theorem dL_cell_9 : decode cL_cell 9 = .ok (.goto 9, 3) := by decide +kernel
theorem dL_cell_12 : decode cL_cell 12 = .ok (.ldc 8, 2) := by decide +kernel
theorem dL_cell_14 : decode cL_cell 14 = .ok (.iload_n 1, 1) := by decide +kernel
theorem dL_cell_15 : decode cL_cell 15 = .ok (.iconst 3, 1) := by decide +kernel
theorem dL_cell_16 : decode cL_cell 16 = .ok (.iadd, 1) := by decide +kernel
theorem dL_cell_17 : decode cL_cell 17 = .ok (.imul, 1) := by decide +kernel
theorem dL_cell_18 : decode cL_cell 18 = .ok (.ireturn, 1) := by decide +kernel
theorem dL_with_0 : decode cL_with 0 = .ok (.aload_n 0, 1) := by decide +kernel
theorem dL_with_1 : decode cL_with 1 = .ok (.arraylength, 1) := by decide +kernel
theorem dL_with_2 : decode cL_with 2 = .ok (.iconst 1, 1) := by decide +kernel
theorem dL_with_3 : decode cL_with 3 = .ok (.iadd, 1) := by decide +kernel
theorem dL_with_4 : decode cL_with 4 = .ok (.anewarray 9, 3) := by decide +kernel
theorem dL_with_7 : decode cL_with 7 = .ok (.astore_n 2, 1) := by decide +kernel
theorem dL_with_8 : decode cL_with 8 = .ok (.iconst 0, 1) := by decide +kernel
theorem dL_with_9 : decode cL_with 9 = .ok (.istore_n 3, 1) := by decide +kernel
theorem dL_with_10 : decode cL_with 10 = .ok (.iload_n 3, 1) := by decide +kernel
theorem dL_with_11 : decode cL_with 11 = .ok (.aload_n 0, 1) := by decide +kernel
theorem dL_with_12 : decode cL_with 12 = .ok (.arraylength, 1) := by decide +kernel
theorem dL_with_13 : decode cL_with 13 = .ok (.if_icmp .ge 15, 3) := by decide +kernel
theorem dL_with_16 : decode cL_with 16 = .ok (.aload_n 2, 1) := by decide +kernel
theorem dL_with_17 : decode cL_with 17 = .ok (.iload_n 3, 1) := by decide +kernel
theorem dL_with_18 : decode cL_with 18 = .ok (.aload_n 0, 1) := by decide +kernel
theorem dL_with_19 : decode cL_with 19 = .ok (.iload_n 3, 1) := by decide +kernel
theorem dL_with_20 : decode cL_with 20 = .ok (.aaload, 1) := by decide +kernel
theorem dL_with_21 : decode cL_with 21 = .ok (.aastore, 1) := by decide +kernel
theorem dL_with_22 : decode cL_with 22 = .ok (.iinc 3 1, 3) := by decide +kernel
theorem dL_with_25 : decode cL_with 25 = .ok (.goto (-15), 3) := by decide +kernel
theorem dL_with_28 : decode cL_with 28 = .ok (.aload_n 2, 1) := by decide +kernel
theorem dL_with_29 : decode cL_with 29 = .ok (.aload_n 0, 1) := by decide +kernel
theorem dL_with_30 : decode cL_with 30 = .ok (.arraylength, 1) := by decide +kernel
theorem dL_with_31 : decode cL_with 31 = .ok (.aload_n 1, 1) := by decide +kernel
theorem dL_with_32 : decode cL_with 32 = .ok (.aastore, 1) := by decide +kernel
theorem dL_with_33 : decode cL_with 33 = .ok (.aload_n 2, 1) := by decide +kernel
theorem dL_with_34 : decode cL_with 34 = .ok (.areturn, 1) := by decide +kernel
set_option maxRecDepth 20000 in
theorem ggL_act_L_below : GoodIn wsL_act wsL_below := goodIn_r _ [14, 15] (by decide +kernel) (by decide +kernel)
set_option maxRecDepth 20000 in
theorem gL_act_L_below : GoodIn wsL_act (va_wsS RL 11 yL_below wsL_below) := goodIn_app (goodIn_of _ (by decide +kernel)) ggL_act_L_below
set_option maxRecDepth 20000 in
theorem ggL_act_L_with : GoodIn wsL_act wsL_with := goodIn_r _ [18, 19] (by decide +kernel) (by decide +kernel)
set_option maxRecDepth 20000 in
theorem gL_act_L_with : GoodIn wsL_act (va_wsS RL 23 yL_with wsL_with) := goodIn_app (goodIn_of _ (by decide +kernel)) ggL_act_L_with
set_option maxRecDepth 20000 in
theorem ggL_act_X7_bed : GoodIn wsL_act wsX7_bed := goodIn_ca (goodIn_ca (goodIn_r _ [24, 25, 26, 27, 28, 29, 23, 30, 31, 32, 33, 34, 35, 36, 37, 38, 39, 40, 41, 42, 43, 44, 313, 314, 315, 316, 317, 318, 319, 320, 321, 322, 323, 324, 325, 326, 327, 328] (by decide +kernel) (by decide +kernel)) (goodIn_sub (fun _ h => List.mem_cons_of_mem _ (List.mem_append_left _ (List.mem_append_left _ (List.mem_append_right _ h)))) (by decide +kernel))) (goodIn_sub (fun _ h => List.mem_cons_of_mem _ (List.mem_append_left _ (List.mem_append_right _ h))) (by decide +kernel))
set_option maxRecDepth 20000 in
theorem gL_act_X7_bed : GoodIn wsL_act (wsV RL 27 RX7 yX7_bed wsX7_bed) := goodIn_app (goodIn_of _ (by decide +kernel)) ggL_act_X7_bed
set_option maxRecDepth 20000 in
theorem ggL_act_X7_drum : GoodIn wsL_act wsX7_drum := goodIn_ca (goodIn_ca (goodIn_r _ [48, 25, 49, 50, 28, 29, 23, 30, 31, 32, 33, 34, 35, 36, 37, 51, 52, 53, 54, 55, 56, 57, 313, 314, 315, 316, 317, 318, 319, 320, 321, 322, 323, 324, 325, 329, 330, 331, 332, 333] (by decide +kernel) (by decide +kernel)) (goodIn_sub (fun _ h => List.mem_cons_of_mem _ (List.mem_append_left _ (List.mem_append_left _ (List.mem_append_right _ h)))) (by decide +kernel))) (goodIn_sub (fun _ h => List.mem_cons_of_mem _ (List.mem_append_left _ (List.mem_append_right _ h))) (by decide +kernel))
set_option maxRecDepth 20000 in
theorem gL_act_X7_drum : GoodIn wsL_act (wsV RL 35 RX7 yX7_drum wsX7_drum) := goodIn_app (goodIn_of _ (by decide +kernel)) ggL_act_X7_drum
set_option maxRecDepth 20000 in
theorem ggL_act_X7_smuggler : GoodIn wsL_act wsX7_smuggler := goodIn_ca (goodIn_ca (goodIn_r _ [61, 25, 62, 63, 28, 29, 23, 30, 31, 32, 33, 34, 35, 36, 37, 64, 65, 66, 67, 68, 69, 70, 313, 314, 315, 316, 317, 318, 319, 320, 321, 322, 323, 324, 325, 334, 335, 336, 337, 338] (by decide +kernel) (by decide +kernel)) (goodIn_sub (fun _ h => List.mem_cons_of_mem _ (List.mem_append_left _ (List.mem_append_left _ (List.mem_append_right _ h)))) (by decide +kernel))) (goodIn_sub (fun _ h => List.mem_cons_of_mem _ (List.mem_append_left _ (List.mem_append_right _ h))) (by decide +kernel))
set_option maxRecDepth 20000 in
theorem gL_act_X7_smuggler : GoodIn wsL_act (wsV RL 41 RX7 yX7_smuggler wsX7_smuggler) := goodIn_app (goodIn_of _ (by decide +kernel)) ggL_act_X7_smuggler
set_option maxRecDepth 20000 in
theorem ggL_act_X7_card : GoodIn wsL_act wsX7_card := goodIn_ca (goodIn_ca (goodIn_r _ [74, 25, 75, 76, 28, 29, 23, 30, 31, 32, 33, 34, 35, 36, 37, 77, 78, 79, 80, 81, 82, 83, 84, 313, 314, 315, 316, 317, 318, 319, 320, 321, 322, 323, 324, 325, 339, 340, 341, 342, 343] (by decide +kernel) (by decide +kernel)) (goodIn_sub (fun _ h => List.mem_cons_of_mem _ (List.mem_append_left _ (List.mem_append_left _ (List.mem_append_right _ h)))) (by decide +kernel))) (goodIn_sub (fun _ h => List.mem_cons_of_mem _ (List.mem_append_left _ (List.mem_append_right _ h))) (by decide +kernel))
set_option maxRecDepth 20000 in
theorem gL_act_X7_card : GoodIn wsL_act (wsV RL 47 RX7 yX7_card wsX7_card) := goodIn_app (goodIn_of _ (by decide +kernel)) ggL_act_X7_card
set_option maxRecDepth 20000 in
theorem ggL_act_X7_setPatrol : GoodIn wsL_act wsX7_setPatrol := goodIn_ca (goodIn_r _ [88, 25, 89, 28, 29, 23, 30, 31, 32, 313, 314, 315, 316, 317, 318, 319, 320, 321, 322, 323, 324, 325] (by decide +kernel) (by decide +kernel)) (goodIn_sub (fun _ h => List.mem_cons_of_mem _ (List.mem_append_left _ (List.mem_append_left _ (List.mem_append_right _ h)))) (by decide +kernel))
set_option maxRecDepth 20000 in
theorem gL_act_X7_setPatrol : GoodIn wsL_act (wsV RL 54 RX7 yX7_setPatrol wsX7_setPatrol) := goodIn_app (goodIn_of _ (by decide +kernel)) ggL_act_X7_setPatrol
set_option maxRecDepth 20000 in
theorem ggL_act_X7_setShare : GoodIn wsL_act wsX7_setShare := goodIn_ca (goodIn_r _ [93, 25, 94, 95, 28, 29, 23, 30, 31, 32, 313, 314, 315, 316, 317, 318, 319, 320, 321, 322, 323, 324, 325, 344, 345, 346, 347, 348, 349, 350] (by decide +kernel) (by decide +kernel)) (goodIn_sub (fun _ h => List.mem_cons_of_mem _ (List.mem_append_left _ (List.mem_append_left _ (List.mem_append_right _ h)))) (by decide +kernel))
set_option maxRecDepth 20000 in
theorem gL_act_X7_setShare : GoodIn wsL_act (wsV RL 61 RX7 yX7_setShare wsX7_setShare) := goodIn_app (goodIn_of _ (by decide +kernel)) ggL_act_X7_setShare
set_option maxRecDepth 20000 in
theorem ggL_act_X7_setHeat : GoodIn wsL_act wsX7_setHeat := goodIn_ca (goodIn_ca (goodIn_r _ [99, 25, 49, 50, 100, 101, 102, 23, 103, 104, 105, 28, 29, 30, 31, 32, 313, 314, 315, 316, 317, 318, 319, 320, 321, 322, 323, 324, 325, 329, 330, 331, 332, 333] (by decide +kernel) (by decide +kernel)) (goodIn_sub (fun _ h => List.mem_cons_of_mem _ (List.mem_append_right _ h)) (by decide +kernel))) (goodIn_sub (fun _ h => List.mem_cons_of_mem _ (List.mem_append_left _ (List.mem_append_left _ (List.mem_append_right _ h)))) (by decide +kernel))
set_option maxRecDepth 20000 in
theorem gL_act_X7_setHeat : GoodIn wsL_act (wsV RL 64 RX7 yX7_setHeat wsX7_setHeat) := goodIn_app (goodIn_of _ (by decide +kernel)) ggL_act_X7_setHeat
set_option maxRecDepth 20000 in
theorem ggL_act_X7_dig : GoodIn wsL_act wsX7_dig := goodIn_ca (goodIn_ca (goodIn_ca (goodIn_r _ [109, 25, 26, 27, 110, 94, 101, 102, 23, 103, 104, 105, 28, 29, 30, 31, 32, 33, 34, 35, 36, 37, 111, 112, 113, 114, 115, 116, 117, 313, 314, 315, 316, 317, 318, 319, 320, 321, 322, 323, 324, 325, 326, 327, 328, 344, 345, 346, 347, 348, 349, 350] (by decide +kernel) (by decide +kernel)) (goodIn_sub (fun _ h => List.mem_cons_of_mem _ (List.mem_append_right _ h)) (by decide +kernel))) (goodIn_sub (fun _ h => List.mem_cons_of_mem _ (List.mem_append_left _ (List.mem_append_left _ (List.mem_append_right _ h)))) (by decide +kernel))) (goodIn_sub (fun _ h => List.mem_cons_of_mem _ (List.mem_append_left _ (List.mem_append_right _ h))) (by decide +kernel))
set_option maxRecDepth 20000 in
theorem gL_act_X7_dig : GoodIn wsL_act (wsV RL 70 RX7 yX7_dig wsX7_dig) := goodIn_app (goodIn_of _ (by decide +kernel)) ggL_act_X7_dig
set_option maxRecDepth 20000 in
theorem ggL_act_X7_give : GoodIn wsL_act wsX7_give := goodIn_ca (goodIn_ca (goodIn_r _ [121, 25, 94, 101, 102, 23, 103, 104, 105, 28, 29, 30, 31, 32, 111, 112, 113, 114, 115, 116, 117, 122, 123, 124, 125, 313, 314, 315, 316, 317, 318, 319, 320, 321, 322, 323, 324, 325, 344, 345, 346, 347, 348, 349, 350] (by decide +kernel) (by decide +kernel)) (goodIn_sub (fun _ h => List.mem_cons_of_mem _ (List.mem_append_right _ h)) (by decide +kernel))) (goodIn_sub (fun _ h => List.mem_cons_of_mem _ (List.mem_append_left _ (List.mem_append_left _ (List.mem_append_right _ h)))) (by decide +kernel))
set_option maxRecDepth 20000 in
theorem gL_act_X7_give : GoodIn wsL_act (wsV RL 73 RX7 yX7_give wsX7_give) := goodIn_app (goodIn_of _ (by decide +kernel)) ggL_act_X7_give
set_option maxRecDepth 20000 in
theorem ggL_act_X7_load : GoodIn wsL_act wsX7_load := goodIn_ca (goodIn_ca (goodIn_ca (goodIn_r _ [129, 25, 49, 50, 130, 131, 94, 101, 102, 23, 103, 104, 105, 28, 29, 30, 31, 32, 33, 34, 35, 36, 37, 122, 123, 124, 114, 125, 116, 117, 111, 112, 113, 115, 132, 133, 134, 54, 135, 136, 137, 138, 313, 314, 315, 316, 317, 318, 319, 320, 321, 322, 323, 324, 325, 329, 330, 331, 332, 333, 344, 345, 346, 347, 348, 349, 350] (by decide +kernel) (by decide +kernel)) (goodIn_sub (fun _ h => List.mem_cons_of_mem _ (List.mem_append_right _ h)) (by decide +kernel))) (goodIn_sub (fun _ h => List.mem_cons_of_mem _ (List.mem_append_left _ (List.mem_append_left _ (List.mem_append_right _ h)))) (by decide +kernel))) (goodIn_sub (fun _ h => List.mem_cons_of_mem _ (List.mem_append_left _ (List.mem_append_right _ h))) (by decide +kernel))
set_option maxRecDepth 20000 in
theorem gL_act_X7_load : GoodIn wsL_act (wsV RL 76 RX7 yX7_load wsX7_load) := goodIn_app (goodIn_of _ (by decide +kernel)) ggL_act_X7_load
set_option maxRecDepth 20000 in
theorem ggL_act_X8_yields : GoodIn wsL_act wsX8_yields := goodIn_r _ [142, 143, 144, 141, 145] (by decide +kernel) (by decide +kernel)
set_option maxRecDepth 20000 in
theorem gL_act_X8_yields : GoodIn wsL_act (va_wsS RL 80 yX8_yields wsX8_yields) := goodIn_app (goodIn_of _ (by decide +kernel)) ggL_act_X8_yields
set_option maxRecDepth 20000 in
theorem ggL_act_X7_take : GoodIn wsL_act wsX7_take := goodIn_ca (goodIn_ca (goodIn_r _ [149, 25, 49, 50, 131, 150, 94, 101, 102, 23, 103, 104, 105, 33, 34, 35, 36, 37, 151, 152, 153, 54, 154, 136, 137, 155, 156, 157, 158, 159, 160, 161, 162, 163, 164, 165, 114, 166, 167, 168, 132, 133, 134, 135, 138, 313, 314, 315, 316, 317, 318, 319, 320, 321, 322, 323, 324, 325, 329, 330, 331, 332, 333, 344, 345, 346, 347, 348, 349, 350] (by decide +kernel) (by decide +kernel)) (goodIn_sub (fun _ h => List.mem_cons_of_mem _ (List.mem_append_right _ h)) (by decide +kernel))) (goodIn_sub (fun _ h => List.mem_cons_of_mem _ (List.mem_append_left _ (List.mem_append_right _ h))) (by decide +kernel))
set_option maxRecDepth 20000 in
theorem gL_act_X7_take : GoodIn wsL_act (wsV RL 87 RX7 yX7_take wsX7_take) := goodIn_app (goodIn_of _ (by decide +kernel)) ggL_act_X7_take
set_option maxRecDepth 20000 in
theorem ggL_act_X7_send : GoodIn wsL_act wsX7_send := goodIn_ca (goodIn_ca (goodIn_r _ [172, 25, 62, 63, 173, 174, 101, 102, 23, 103, 104, 105, 33, 34, 35, 36, 37, 175, 176, 177, 67, 178, 179, 69, 180, 313, 314, 315, 316, 317, 318, 319, 320, 321, 322, 323, 324, 325, 334, 335, 336, 337, 338] (by decide +kernel) (by decide +kernel)) (goodIn_sub (fun _ h => List.mem_cons_of_mem _ (List.mem_append_right _ h)) (by decide +kernel))) (goodIn_sub (fun _ h => List.mem_cons_of_mem _ (List.mem_append_left _ (List.mem_append_right _ h))) (by decide +kernel))
set_option maxRecDepth 20000 in
theorem gL_act_X7_send : GoodIn wsL_act (wsV RL 90 RX7 yX7_send wsX7_send) := goodIn_app (goodIn_of _ (by decide +kernel)) ggL_act_X7_send
set_option maxRecDepth 20000 in
theorem ggL_act_X8_behind : GoodIn wsL_act wsX8_behind := goodIn_r _ [184, 185, 186, 187, 141, 188, 189, 190, 191, 192, 193, 194, 195, 196, 197, 198, 199, 200, 201, 202, 203, 143, 144, 145, 302, 303, 304, 305, 306, 307, 308, 309, 310, 311, 312] (by decide +kernel) (by decide +kernel)
set_option maxRecDepth 20000 in
theorem gL_act_X8_behind : GoodIn wsL_act (wsV RL 96 RX8 yX8_behind wsX8_behind) := goodIn_app (goodIn_of _ (by decide +kernel)) ggL_act_X8_behind
set_option maxRecDepth 20000 in
theorem ggL_act_X7_pass_h : GoodIn wsL_act [.code yX7_pass cX7_pass 2 (some .int)] := goodIn_1 207 rfl (by decide +kernel)
set_option maxRecDepth 20000 in
theorem ggL_act_X7_pass_r1 : GoodIn wsL_act wsX7_pass_r1 := goodIn_r _ [25, 28, 29, 23, 30, 31, 32, 208, 209, 210, 211, 212, 213, 214, 215, 216, 217, 218, 219, 220, 221, 222, 223, 224] (by decide +kernel) (by decide +kernel)
set_option maxRecDepth 20000 in
theorem ggL_act_X7_pass_r2 : GoodIn wsL_act wsX7_pass_r2 := goodIn_r _ [225, 226, 227, 228, 67, 229, 179, 180, 69, 230, 231, 232, 233, 234, 70, 235, 112, 113, 114, 115, 116, 117, 236, 237] (by decide +kernel) (by decide +kernel)
set_option maxRecDepth 20000 in
theorem ggL_act_X7_pass_r3 : GoodIn wsL_act wsX7_pass_r3 := goodIn_r _ [238, 239, 240, 241, 242, 243, 244, 54, 245, 138, 246, 247, 248, 249, 136, 57, 250, 251, 252, 253, 159, 160, 161, 162] (by decide +kernel) (by decide +kernel)
set_option maxRecDepth 20000 in
theorem ggL_act_X7_pass_r4 : GoodIn wsL_act wsX7_pass_r4 := goodIn_r _ [254, 255, 256, 257, 258, 259, 260, 261, 262, 41, 263, 264, 43, 44, 265, 266, 267, 268, 269, 270, 271, 272, 273, 274] (by decide +kernel) (by decide +kernel)
set_option maxRecDepth 20000 in
theorem ggL_act_X7_pass_r5 : GoodIn wsL_act wsX7_pass_r5 := goodIn_r _ [80, 275, 82, 84, 276, 277, 278, 279, 280, 281, 282, 283, 83, 284, 285, 286, 287, 288, 289, 290, 168, 291, 292, 293] (by decide +kernel) (by decide +kernel)
set_option maxRecDepth 20000 in
theorem ggL_act_X7_pass_r6 : GoodIn wsL_act wsX7_pass_r6 := goodIn_r _ [294, 295, 167, 296, 297, 298, 299, 300, 301] (by decide +kernel) (by decide +kernel)
theorem ggL_act_X7_pass_wsX70 : GoodIn wsL_act wsX70 := goodIn_sub (by decide +kernel) (by decide +kernel)
theorem ggL_act_X7_pass_wsX60 : GoodIn wsL_act wsX60 := goodIn_sub (by decide +kernel) (by decide +kernel)
theorem ggL_act_X7_pass_wsX30 : GoodIn wsL_act wsX30 := goodIn_sub (by decide +kernel) (by decide +kernel)
theorem ggL_act_X7_pass_wsX40 : GoodIn wsL_act wsX40 := goodIn_sub (by decide +kernel) (by decide +kernel)
theorem ggL_act_X7_pass_wsX20 : GoodIn wsL_act wsX20 := goodIn_sub (by decide +kernel) (by decide +kernel)
theorem ggL_act_X7_pass_wsX00 : GoodIn wsL_act wsX00 := goodIn_sub (by decide +kernel) (by decide +kernel)
theorem ggL_act_X7_pass_wsX10 : GoodIn wsL_act wsX10 := goodIn_sub (by decide +kernel) (by decide +kernel)
theorem ggL_act_X7_pass : GoodIn wsL_act wsX7_pass := goodIn_cons ggL_act_X7_pass_h (goodIn_app (goodIn_app (goodIn_app (goodIn_app (goodIn_app (goodIn_app (goodIn_app (goodIn_app (goodIn_app ggL_act_X7_pass_r1 (goodIn_app ggL_act_X7_pass_r2 (goodIn_app ggL_act_X7_pass_r3 (goodIn_app ggL_act_X7_pass_r4 (goodIn_app ggL_act_X7_pass_r5 (ggL_act_X7_pass_r6)))))) ggL_act_X7_pass_wsX70) ggL_act_X7_pass_wsX60) ggL_act_X7_pass_wsX30) ggL_act_X7_pass_wsX40) ggL_act_X7_pass_wsX20) ggL_act_X7_pass_wsX00) ggL_act_X7_pass_wsX10) (goodIn_sub (fun _ h => List.mem_cons_of_mem _ (List.mem_append_left _ (List.mem_append_left _ (List.mem_append_right _ h)))) (by decide +kernel)))
set_option maxRecDepth 20000 in
theorem gL_act_X7_pass : GoodIn wsL_act (wsV RL 100 RX7 yX7_pass wsX7_pass) := goodIn_app (goodIn_of _ (by decide +kernel)) ggL_act_X7_pass
theorem dL_act_0 : decode cL_act 0 = .ok (.iload_n 2, 1) := by decide +kernel
theorem dL_act_1 : decode cL_act 1 = .ok (.bipush 9, 2) := by decide +kernel
theorem dL_act_3 : decode cL_act 3 = .ok (.ishr, 1) := by decide +kernel
theorem dL_act_4 : decode cL_act 4 = .ok (.bipush 22, 2) := by decide +kernel
theorem dL_act_6 : decode cL_act 6 = .ok (.invokestatic 11, 3) := by decide +kernel
theorem dL_act_9 : decode cL_act 9 = .ok (.istore_n 3, 1) := by decide +kernel
theorem dL_act_10 : decode cL_act 10 = .ok (.iload_n 3, 1) := by decide +kernel
theorem dL_act_11 : decode cL_act 11 = .ok (.tableswitch 1193 0 17 #[85, 186, 295, 406, 527, 565, 602, 679, 679, 786, 786, 843, 843, 843, 979, 979, 1115, 1115], 85) := by decide +kernel
theorem dL_act_96 : decode cL_act 96 = .ok (.aload_n 1, 1) := by decide +kernel
theorem dL_act_97 : decode cL_act 97 = .ok (.getfield 17, 3) := by decide +kernel
theorem dL_act_100 : decode cL_act 100 = .ok (.arraylength, 1) := by decide +kernel
theorem dL_act_101 : decode cL_act 101 = .ok (.iconst 4, 1) := by decide +kernel
theorem dL_act_102 : decode cL_act 102 = .ok (.if_icmp .ne 5, 3) := by decide +kernel
theorem dL_act_105 : decode cL_act 105 = .ok (.iconst 1, 1) := by decide +kernel
theorem dL_act_106 : decode cL_act 106 = .ok (.ireturn, 1) := by decide +kernel
theorem dL_act_107 : decode cL_act 107 = .ok (.aload_n 1, 1) := by decide +kernel
theorem dL_act_108 : decode cL_act 108 = .ok (.aload_n 1, 1) := by decide +kernel
theorem dL_act_109 : decode cL_act 109 = .ok (.getfield 17, 3) := by decide +kernel
theorem dL_act_112 : decode cL_act 112 = .ok (.iconst 3, 1) := by decide +kernel
theorem dL_act_113 : decode cL_act 113 = .ok (.newarray .int, 2) := by decide +kernel
theorem dL_act_115 : decode cL_act 115 = .ok (.dup, 1) := by decide +kernel
theorem dL_act_116 : decode cL_act 116 = .ok (.iconst 0, 1) := by decide +kernel
theorem dL_act_117 : decode cL_act 117 = .ok (.iload_n 2, 1) := by decide +kernel
theorem dL_act_118 : decode cL_act 118 = .ok (.iconst 1, 1) := by decide +kernel
theorem dL_act_119 : decode cL_act 119 = .ok (.ishr, 1) := by decide +kernel
theorem dL_act_120 : decode cL_act 120 = .ok (.bipush 10, 2) := by decide +kernel
theorem dL_act_122 : decode cL_act 122 = .ok (.invokestatic 11, 3) := by decide +kernel
theorem dL_act_125 : decode cL_act 125 = .ok (.iastore, 1) := by decide +kernel
theorem dL_act_126 : decode cL_act 126 = .ok (.dup, 1) := by decide +kernel
theorem dL_act_127 : decode cL_act 127 = .ok (.iconst 1, 1) := by decide +kernel
theorem dL_act_128 : decode cL_act 128 = .ok (.iconst 1, 1) := by decide +kernel
theorem dL_act_129 : decode cL_act 129 = .ok (.iload_n 2, 1) := by decide +kernel
theorem dL_act_130 : decode cL_act 130 = .ok (.iconst 3, 1) := by decide +kernel
theorem dL_act_131 : decode cL_act 131 = .ok (.ishr, 1) := by decide +kernel
theorem dL_act_132 : decode cL_act 132 = .ok (.bipush 99, 2) := by decide +kernel
theorem dL_act_134 : decode cL_act 134 = .ok (.invokestatic 11, 3) := by decide +kernel
theorem dL_act_137 : decode cL_act 137 = .ok (.iadd, 1) := by decide +kernel
theorem dL_act_138 : decode cL_act 138 = .ok (.iastore, 1) := by decide +kernel
theorem dL_act_139 : decode cL_act 139 = .ok (.dup, 1) := by decide +kernel
theorem dL_act_140 : decode cL_act 140 = .ok (.iconst 2, 1) := by decide +kernel
theorem dL_act_141 : decode cL_act 141 = .ok (.iconst 0, 1) := by decide +kernel
theorem dL_act_142 : decode cL_act 142 = .ok (.iastore, 1) := by decide +kernel
theorem dL_act_143 : decode cL_act 143 = .ok (.invokestatic 23, 3) := by decide +kernel
theorem dL_act_146 : decode cL_act 146 = .ok (.putfield 17, 3) := by decide +kernel
theorem dL_act_149 : decode cL_act 149 = .ok (.aload_n 0, 1) := by decide +kernel
theorem dL_act_150 : decode cL_act 150 = .ok (.aload_n 1, 1) := by decide +kernel
theorem dL_act_151 : decode cL_act 151 = .ok (.getfield 17, 3) := by decide +kernel
theorem dL_act_154 : decode cL_act 154 = .ok (.aload_n 1, 1) := by decide +kernel
theorem dL_act_155 : decode cL_act 155 = .ok (.getfield 17, 3) := by decide +kernel
theorem dL_act_158 : decode cL_act 158 = .ok (.arraylength, 1) := by decide +kernel
theorem dL_act_159 : decode cL_act 159 = .ok (.iconst 1, 1) := by decide +kernel
theorem dL_act_160 : decode cL_act 160 = .ok (.isub, 1) := by decide +kernel
theorem dL_act_161 : decode cL_act 161 = .ok (.aaload, 1) := by decide +kernel
theorem dL_act_162 : decode cL_act 162 = .ok (.iconst 0, 1) := by decide +kernel
theorem dL_act_163 : decode cL_act 163 = .ok (.iaload, 1) := by decide +kernel
theorem dL_act_164 : decode cL_act 164 = .ok (.aload_n 1, 1) := by decide +kernel
theorem dL_act_165 : decode cL_act 165 = .ok (.getfield 17, 3) := by decide +kernel
theorem dL_act_168 : decode cL_act 168 = .ok (.aload_n 1, 1) := by decide +kernel
theorem dL_act_169 : decode cL_act 169 = .ok (.getfield 17, 3) := by decide +kernel
theorem dL_act_172 : decode cL_act 172 = .ok (.arraylength, 1) := by decide +kernel
theorem dL_act_173 : decode cL_act 173 = .ok (.iconst 1, 1) := by decide +kernel
theorem dL_act_174 : decode cL_act 174 = .ok (.isub, 1) := by decide +kernel
theorem dL_act_175 : decode cL_act 175 = .ok (.aaload, 1) := by decide +kernel
theorem dL_act_176 : decode cL_act 176 = .ok (.iconst 1, 1) := by decide +kernel
theorem dL_act_177 : decode cL_act 177 = .ok (.iaload, 1) := by decide +kernel
theorem dL_act_178 : decode cL_act 178 = .ok (.invokevirtual 27, 3) := by decide +kernel
theorem dL_act_181 : decode cL_act 181 = .ok (.aload_n 1, 1) := by decide +kernel
theorem dL_act_182 : decode cL_act 182 = .ok (.getfield 17, 3) := by decide +kernel
theorem dL_act_185 : decode cL_act 185 = .ok (.arraylength, 1) := by decide +kernel
theorem dL_act_186 : decode cL_act 186 = .ok (.iconst 1, 1) := by decide +kernel
theorem dL_act_187 : decode cL_act 187 = .ok (.isub, 1) := by decide +kernel
theorem dL_act_188 : decode cL_act 188 = .ok (.if_icmp .ne 7, 3) := by decide +kernel
theorem dL_act_191 : decode cL_act 191 = .ok (.iconst 1, 1) := by decide +kernel
theorem dL_act_192 : decode cL_act 192 = .ok (.goto 4, 3) := by decide +kernel
theorem dL_act_195 : decode cL_act 195 = .ok (.iconst 0, 1) := by decide +kernel
theorem dL_act_196 : decode cL_act 196 = .ok (.ireturn, 1) := by decide +kernel
theorem dL_act_197 : decode cL_act 197 = .ok (.aload_n 1, 1) := by decide +kernel
theorem dL_act_198 : decode cL_act 198 = .ok (.getfield 32, 3) := by decide +kernel
theorem dL_act_201 : decode cL_act 201 = .ok (.arraylength, 1) := by decide +kernel
theorem dL_act_202 : decode cL_act 202 = .ok (.iconst 4, 1) := by decide +kernel
theorem dL_act_203 : decode cL_act 203 = .ok (.if_icmp .ne 5, 3) := by decide +kernel
theorem dL_act_206 : decode cL_act 206 = .ok (.iconst 1, 1) := by decide +kernel
theorem dL_act_207 : decode cL_act 207 = .ok (.ireturn, 1) := by decide +kernel
theorem dL_act_208 : decode cL_act 208 = .ok (.aload_n 1, 1) := by decide +kernel
theorem dL_act_209 : decode cL_act 209 = .ok (.aload_n 1, 1) := by decide +kernel
theorem dL_act_210 : decode cL_act 210 = .ok (.getfield 32, 3) := by decide +kernel
theorem dL_act_213 : decode cL_act 213 = .ok (.iconst 5, 1) := by decide +kernel
theorem dL_act_214 : decode cL_act 214 = .ok (.newarray .int, 2) := by decide +kernel
theorem dL_act_216 : decode cL_act 216 = .ok (.dup, 1) := by decide +kernel
theorem dL_act_217 : decode cL_act 217 = .ok (.iconst 0, 1) := by decide +kernel
theorem dL_act_218 : decode cL_act 218 = .ok (.iconst 1, 1) := by decide +kernel
theorem dL_act_219 : decode cL_act 219 = .ok (.iload_n 2, 1) := by decide +kernel
theorem dL_act_220 : decode cL_act 220 = .ok (.iconst 1, 1) := by decide +kernel
theorem dL_act_221 : decode cL_act 221 = .ok (.ishr, 1) := by decide +kernel
theorem dL_act_222 : decode cL_act 222 = .ok (.bipush 40, 2) := by decide +kernel
theorem dL_act_224 : decode cL_act 224 = .ok (.invokestatic 11, 3) := by decide +kernel
theorem dL_act_227 : decode cL_act 227 = .ok (.iadd, 1) := by decide +kernel
theorem dL_act_228 : decode cL_act 228 = .ok (.iastore, 1) := by decide +kernel
theorem dL_act_229 : decode cL_act 229 = .ok (.dup, 1) := by decide +kernel
theorem dL_act_230 : decode cL_act 230 = .ok (.iconst 1, 1) := by decide +kernel
theorem dL_act_231 : decode cL_act 231 = .ok (.iload_n 2, 1) := by decide +kernel
theorem dL_act_232 : decode cL_act 232 = .ok (.iconst 3, 1) := by decide +kernel
theorem dL_act_233 : decode cL_act 233 = .ok (.ishr, 1) := by decide +kernel
theorem dL_act_234 : decode cL_act 234 = .ok (.bipush 10, 2) := by decide +kernel
theorem dL_act_236 : decode cL_act 236 = .ok (.invokestatic 11, 3) := by decide +kernel
theorem dL_act_239 : decode cL_act 239 = .ok (.iastore, 1) := by decide +kernel
theorem dL_act_240 : decode cL_act 240 = .ok (.dup, 1) := by decide +kernel
theorem dL_act_241 : decode cL_act 241 = .ok (.iconst 2, 1) := by decide +kernel
theorem dL_act_242 : decode cL_act 242 = .ok (.iconst (-1), 1) := by decide +kernel
theorem dL_act_243 : decode cL_act 243 = .ok (.iastore, 1) := by decide +kernel
theorem dL_act_244 : decode cL_act 244 = .ok (.dup, 1) := by decide +kernel
theorem dL_act_245 : decode cL_act 245 = .ok (.iconst 3, 1) := by decide +kernel
theorem dL_act_246 : decode cL_act 246 = .ok (.iconst 0, 1) := by decide +kernel
theorem dL_act_247 : decode cL_act 247 = .ok (.iastore, 1) := by decide +kernel
theorem dL_act_248 : decode cL_act 248 = .ok (.dup, 1) := by decide +kernel
theorem dL_act_249 : decode cL_act 249 = .ok (.iconst 4, 1) := by decide +kernel
theorem dL_act_250 : decode cL_act 250 = .ok (.iconst 0, 1) := by decide +kernel
theorem dL_act_251 : decode cL_act 251 = .ok (.iastore, 1) := by decide +kernel
theorem dL_act_252 : decode cL_act 252 = .ok (.invokestatic 23, 3) := by decide +kernel
theorem dL_act_255 : decode cL_act 255 = .ok (.putfield 32, 3) := by decide +kernel
theorem dL_act_258 : decode cL_act 258 = .ok (.aload_n 0, 1) := by decide +kernel
theorem dL_act_259 : decode cL_act 259 = .ok (.aload_n 1, 1) := by decide +kernel
theorem dL_act_260 : decode cL_act 260 = .ok (.getfield 32, 3) := by decide +kernel
theorem dL_act_263 : decode cL_act 263 = .ok (.aload_n 1, 1) := by decide +kernel
theorem dL_act_264 : decode cL_act 264 = .ok (.getfield 32, 3) := by decide +kernel
theorem dL_act_267 : decode cL_act 267 = .ok (.arraylength, 1) := by decide +kernel
theorem dL_act_268 : decode cL_act 268 = .ok (.iconst 1, 1) := by decide +kernel
theorem dL_act_269 : decode cL_act 269 = .ok (.isub, 1) := by decide +kernel
theorem dL_act_270 : decode cL_act 270 = .ok (.aaload, 1) := by decide +kernel
theorem dL_act_271 : decode cL_act 271 = .ok (.iconst 0, 1) := by decide +kernel
theorem dL_act_272 : decode cL_act 272 = .ok (.iaload, 1) := by decide +kernel
theorem dL_act_273 : decode cL_act 273 = .ok (.aload_n 1, 1) := by decide +kernel
theorem dL_act_274 : decode cL_act 274 = .ok (.getfield 32, 3) := by decide +kernel
theorem dL_act_277 : decode cL_act 277 = .ok (.aload_n 1, 1) := by decide +kernel
theorem dL_act_278 : decode cL_act 278 = .ok (.getfield 32, 3) := by decide +kernel
theorem dL_act_281 : decode cL_act 281 = .ok (.arraylength, 1) := by decide +kernel
theorem dL_act_282 : decode cL_act 282 = .ok (.iconst 1, 1) := by decide +kernel
theorem dL_act_283 : decode cL_act 283 = .ok (.isub, 1) := by decide +kernel
theorem dL_act_284 : decode cL_act 284 = .ok (.aaload, 1) := by decide +kernel
theorem dL_act_285 : decode cL_act 285 = .ok (.iconst 1, 1) := by decide +kernel
theorem dL_act_286 : decode cL_act 286 = .ok (.iaload, 1) := by decide +kernel
theorem dL_act_287 : decode cL_act 287 = .ok (.invokevirtual 35, 3) := by decide +kernel
theorem dL_act_290 : decode cL_act 290 = .ok (.aload_n 1, 1) := by decide +kernel
theorem dL_act_291 : decode cL_act 291 = .ok (.getfield 32, 3) := by decide +kernel
theorem dL_act_294 : decode cL_act 294 = .ok (.arraylength, 1) := by decide +kernel
theorem dL_act_295 : decode cL_act 295 = .ok (.iconst 1, 1) := by decide +kernel
theorem dL_act_296 : decode cL_act 296 = .ok (.isub, 1) := by decide +kernel
theorem dL_act_297 : decode cL_act 297 = .ok (.if_icmp .ne 7, 3) := by decide +kernel
theorem dL_act_300 : decode cL_act 300 = .ok (.iconst 1, 1) := by decide +kernel
theorem dL_act_301 : decode cL_act 301 = .ok (.goto 4, 3) := by decide +kernel
theorem dL_act_304 : decode cL_act 304 = .ok (.iconst 0, 1) := by decide +kernel
theorem dL_act_305 : decode cL_act 305 = .ok (.ireturn, 1) := by decide +kernel
theorem dL_act_306 : decode cL_act 306 = .ok (.aload_n 1, 1) := by decide +kernel
theorem dL_act_307 : decode cL_act 307 = .ok (.getfield 38, 3) := by decide +kernel
theorem dL_act_310 : decode cL_act 310 = .ok (.arraylength, 1) := by decide +kernel
theorem dL_act_311 : decode cL_act 311 = .ok (.iconst 4, 1) := by decide +kernel
theorem dL_act_312 : decode cL_act 312 = .ok (.if_icmp .ne 5, 3) := by decide +kernel
theorem dL_act_315 : decode cL_act 315 = .ok (.iconst 1, 1) := by decide +kernel
theorem dL_act_316 : decode cL_act 316 = .ok (.ireturn, 1) := by decide +kernel
theorem dL_act_317 : decode cL_act 317 = .ok (.aload_n 1, 1) := by decide +kernel
theorem dL_act_318 : decode cL_act 318 = .ok (.aload_n 1, 1) := by decide +kernel
theorem dL_act_319 : decode cL_act 319 = .ok (.getfield 38, 3) := by decide +kernel
theorem dL_act_322 : decode cL_act 322 = .ok (.iconst 5, 1) := by decide +kernel
theorem dL_act_323 : decode cL_act 323 = .ok (.newarray .int, 2) := by decide +kernel
theorem dL_act_325 : decode cL_act 325 = .ok (.dup, 1) := by decide +kernel
theorem dL_act_326 : decode cL_act 326 = .ok (.iconst 0, 1) := by decide +kernel
theorem dL_act_327 : decode cL_act 327 = .ok (.iconst 2, 1) := by decide +kernel
theorem dL_act_328 : decode cL_act 328 = .ok (.iload_n 2, 1) := by decide +kernel
theorem dL_act_329 : decode cL_act 329 = .ok (.iconst 1, 1) := by decide +kernel
theorem dL_act_330 : decode cL_act 330 = .ok (.ishr, 1) := by decide +kernel
theorem dL_act_331 : decode cL_act 331 = .ok (.bipush 13, 2) := by decide +kernel
theorem dL_act_333 : decode cL_act 333 = .ok (.invokestatic 11, 3) := by decide +kernel
theorem dL_act_336 : decode cL_act 336 = .ok (.iadd, 1) := by decide +kernel
theorem dL_act_337 : decode cL_act 337 = .ok (.iastore, 1) := by decide +kernel
theorem dL_act_338 : decode cL_act 338 = .ok (.dup, 1) := by decide +kernel
theorem dL_act_339 : decode cL_act 339 = .ok (.iconst 1, 1) := by decide +kernel
theorem dL_act_340 : decode cL_act 340 = .ok (.iconst 1, 1) := by decide +kernel
theorem dL_act_341 : decode cL_act 341 = .ok (.iload_n 2, 1) := by decide +kernel
theorem dL_act_342 : decode cL_act 342 = .ok (.iconst 3, 1) := by decide +kernel
theorem dL_act_343 : decode cL_act 343 = .ok (.ishr, 1) := by decide +kernel
theorem dL_act_344 : decode cL_act 344 = .ok (.bipush 30, 2) := by decide +kernel
theorem dL_act_346 : decode cL_act 346 = .ok (.invokestatic 11, 3) := by decide +kernel
theorem dL_act_349 : decode cL_act 349 = .ok (.iadd, 1) := by decide +kernel
theorem dL_act_350 : decode cL_act 350 = .ok (.iastore, 1) := by decide +kernel
theorem dL_act_351 : decode cL_act 351 = .ok (.dup, 1) := by decide +kernel
theorem dL_act_352 : decode cL_act 352 = .ok (.iconst 2, 1) := by decide +kernel
theorem dL_act_353 : decode cL_act 353 = .ok (.iconst 0, 1) := by decide +kernel
theorem dL_act_354 : decode cL_act 354 = .ok (.iastore, 1) := by decide +kernel
theorem dL_act_355 : decode cL_act 355 = .ok (.dup, 1) := by decide +kernel
theorem dL_act_356 : decode cL_act 356 = .ok (.iconst 3, 1) := by decide +kernel
theorem dL_act_357 : decode cL_act 357 = .ok (.iconst 0, 1) := by decide +kernel
theorem dL_act_358 : decode cL_act 358 = .ok (.iastore, 1) := by decide +kernel
theorem dL_act_359 : decode cL_act 359 = .ok (.dup, 1) := by decide +kernel
theorem dL_act_360 : decode cL_act 360 = .ok (.iconst 4, 1) := by decide +kernel
theorem dL_act_361 : decode cL_act 361 = .ok (.iconst 0, 1) := by decide +kernel
theorem dL_act_362 : decode cL_act 362 = .ok (.iastore, 1) := by decide +kernel
theorem dL_act_363 : decode cL_act 363 = .ok (.invokestatic 23, 3) := by decide +kernel
theorem dL_act_366 : decode cL_act 366 = .ok (.putfield 38, 3) := by decide +kernel
theorem dL_act_369 : decode cL_act 369 = .ok (.aload_n 0, 1) := by decide +kernel
theorem dL_act_370 : decode cL_act 370 = .ok (.aload_n 1, 1) := by decide +kernel
theorem dL_act_371 : decode cL_act 371 = .ok (.getfield 38, 3) := by decide +kernel
theorem dL_act_374 : decode cL_act 374 = .ok (.aload_n 1, 1) := by decide +kernel
theorem dL_act_375 : decode cL_act 375 = .ok (.getfield 38, 3) := by decide +kernel
theorem dL_act_378 : decode cL_act 378 = .ok (.arraylength, 1) := by decide +kernel
theorem dL_act_379 : decode cL_act 379 = .ok (.iconst 1, 1) := by decide +kernel
theorem dL_act_380 : decode cL_act 380 = .ok (.isub, 1) := by decide +kernel
theorem dL_act_381 : decode cL_act 381 = .ok (.aaload, 1) := by decide +kernel
theorem dL_act_382 : decode cL_act 382 = .ok (.iconst 0, 1) := by decide +kernel
theorem dL_act_383 : decode cL_act 383 = .ok (.iaload, 1) := by decide +kernel
theorem dL_act_384 : decode cL_act 384 = .ok (.aload_n 1, 1) := by decide +kernel
theorem dL_act_385 : decode cL_act 385 = .ok (.getfield 38, 3) := by decide +kernel
theorem dL_act_388 : decode cL_act 388 = .ok (.aload_n 1, 1) := by decide +kernel
theorem dL_act_389 : decode cL_act 389 = .ok (.getfield 38, 3) := by decide +kernel
theorem dL_act_392 : decode cL_act 392 = .ok (.arraylength, 1) := by decide +kernel
theorem dL_act_393 : decode cL_act 393 = .ok (.iconst 1, 1) := by decide +kernel
theorem dL_act_394 : decode cL_act 394 = .ok (.isub, 1) := by decide +kernel
theorem dL_act_395 : decode cL_act 395 = .ok (.aaload, 1) := by decide +kernel
theorem dL_act_396 : decode cL_act 396 = .ok (.iconst 1, 1) := by decide +kernel
theorem dL_act_397 : decode cL_act 397 = .ok (.iaload, 1) := by decide +kernel
theorem dL_act_398 : decode cL_act 398 = .ok (.invokevirtual 41, 3) := by decide +kernel
theorem dL_act_401 : decode cL_act 401 = .ok (.aload_n 1, 1) := by decide +kernel
theorem dL_act_402 : decode cL_act 402 = .ok (.getfield 38, 3) := by decide +kernel
theorem dL_act_405 : decode cL_act 405 = .ok (.arraylength, 1) := by decide +kernel
theorem dL_act_406 : decode cL_act 406 = .ok (.iconst 1, 1) := by decide +kernel
theorem dL_act_407 : decode cL_act 407 = .ok (.isub, 1) := by decide +kernel
theorem dL_act_408 : decode cL_act 408 = .ok (.if_icmp .ne 7, 3) := by decide +kernel
theorem dL_act_411 : decode cL_act 411 = .ok (.iconst 1, 1) := by decide +kernel
theorem dL_act_412 : decode cL_act 412 = .ok (.goto 4, 3) := by decide +kernel
theorem dL_act_415 : decode cL_act 415 = .ok (.iconst 0, 1) := by decide +kernel
theorem dL_act_416 : decode cL_act 416 = .ok (.ireturn, 1) := by decide +kernel
theorem dL_act_417 : decode cL_act 417 = .ok (.aload_n 1, 1) := by decide +kernel
theorem dL_act_418 : decode cL_act 418 = .ok (.getfield 44, 3) := by decide +kernel
theorem dL_act_421 : decode cL_act 421 = .ok (.arraylength, 1) := by decide +kernel
theorem dL_act_422 : decode cL_act 422 = .ok (.bipush 10, 2) := by decide +kernel
theorem dL_act_424 : decode cL_act 424 = .ok (.if_icmp .ne 5, 3) := by decide +kernel
theorem dL_act_427 : decode cL_act 427 = .ok (.iconst 1, 1) := by decide +kernel
theorem dL_act_428 : decode cL_act 428 = .ok (.ireturn, 1) := by decide +kernel
theorem dL_act_429 : decode cL_act 429 = .ok (.iconst 1, 1) := by decide +kernel
theorem dL_act_430 : decode cL_act 430 = .ok (.iload_n 2, 1) := by decide +kernel
theorem dL_act_431 : decode cL_act 431 = .ok (.iconst 1, 1) := by decide +kernel
theorem dL_act_432 : decode cL_act 432 = .ok (.ishr, 1) := by decide +kernel
theorem dL_act_433 : decode cL_act 433 = .ok (.bipush 9, 2) := by decide +kernel
theorem dL_act_435 : decode cL_act 435 = .ok (.invokestatic 11, 3) := by decide +kernel
theorem dL_act_438 : decode cL_act 438 = .ok (.iadd, 1) := by decide +kernel
theorem dL_act_439 : decode cL_act 439 = .ok (.istore 4, 2) := by decide +kernel
theorem dL_act_441 : decode cL_act 441 = .ok (.aload_n 1, 1) := by decide +kernel
theorem dL_act_442 : decode cL_act 442 = .ok (.aload_n 1, 1) := by decide +kernel
theorem dL_act_443 : decode cL_act 443 = .ok (.getfield 44, 3) := by decide +kernel
theorem dL_act_446 : decode cL_act 446 = .ok (.iconst 5, 1) := by decide +kernel
theorem dL_act_447 : decode cL_act 447 = .ok (.newarray .int, 2) := by decide +kernel
theorem dL_act_449 : decode cL_act 449 = .ok (.dup, 1) := by decide +kernel
theorem dL_act_450 : decode cL_act 450 = .ok (.iconst 0, 1) := by decide +kernel
theorem dL_act_451 : decode cL_act 451 = .ok (.iload 4, 2) := by decide +kernel
theorem dL_act_453 : decode cL_act 453 = .ok (.iastore, 1) := by decide +kernel
theorem dL_act_454 : decode cL_act 454 = .ok (.dup, 1) := by decide +kernel
theorem dL_act_455 : decode cL_act 455 = .ok (.iconst 1, 1) := by decide +kernel
theorem dL_act_456 : decode cL_act 456 = .ok (.iload_n 2, 1) := by decide +kernel
theorem dL_act_457 : decode cL_act 457 = .ok (.iconst 3, 1) := by decide +kernel
theorem dL_act_458 : decode cL_act 458 = .ok (.invokestatic 11, 3) := by decide +kernel
theorem dL_act_461 : decode cL_act 461 = .ok (.ifCond .ne 14, 3) := by decide +kernel
theorem dL_act_464 : decode cL_act 464 = .ok (.iload_n 2, 1) := by decide +kernel
theorem dL_act_465 : decode cL_act 465 = .ok (.iconst 3, 1) := by decide +kernel
theorem dL_act_466 : decode cL_act 466 = .ok (.ishr, 1) := by decide +kernel
theorem dL_act_467 : decode cL_act 467 = .ok (.bipush 11, 2) := by decide +kernel
theorem dL_act_469 : decode cL_act 469 = .ok (.invokestatic 11, 3) := by decide +kernel
theorem dL_act_472 : decode cL_act 472 = .ok (.goto 10, 3) := by decide +kernel
theorem dL_act_475 : decode cL_act 475 = .ok (.iload_n 2, 1) := by decide +kernel
theorem dL_act_476 : decode cL_act 476 = .ok (.iconst 3, 1) := by decide +kernel
theorem dL_act_477 : decode cL_act 477 = .ok (.ishr, 1) := by decide +kernel
theorem dL_act_478 : decode cL_act 478 = .ok (.iconst 4, 1) := by decide +kernel
theorem dL_act_479 : decode cL_act 479 = .ok (.invokestatic 11, 3) := by decide +kernel
theorem dL_act_482 : decode cL_act 482 = .ok (.iastore, 1) := by decide +kernel
theorem dL_act_483 : decode cL_act 483 = .ok (.dup, 1) := by decide +kernel
theorem dL_act_484 : decode cL_act 484 = .ok (.iconst 2, 1) := by decide +kernel
theorem dL_act_485 : decode cL_act 485 = .ok (.iload 4, 2) := by decide +kernel
theorem dL_act_487 : decode cL_act 487 = .ok (.iastore, 1) := by decide +kernel
theorem dL_act_488 : decode cL_act 488 = .ok (.dup, 1) := by decide +kernel
theorem dL_act_489 : decode cL_act 489 = .ok (.iconst 3, 1) := by decide +kernel
theorem dL_act_490 : decode cL_act 490 = .ok (.iconst 0, 1) := by decide +kernel
theorem dL_act_491 : decode cL_act 491 = .ok (.iastore, 1) := by decide +kernel
theorem dL_act_492 : decode cL_act 492 = .ok (.dup, 1) := by decide +kernel
theorem dL_act_493 : decode cL_act 493 = .ok (.iconst 4, 1) := by decide +kernel
theorem dL_act_494 : decode cL_act 494 = .ok (.iconst 0, 1) := by decide +kernel
theorem dL_act_495 : decode cL_act 495 = .ok (.iastore, 1) := by decide +kernel
theorem dL_act_496 : decode cL_act 496 = .ok (.invokestatic 23, 3) := by decide +kernel
theorem dL_act_499 : decode cL_act 499 = .ok (.putfield 44, 3) := by decide +kernel
theorem dL_act_502 : decode cL_act 502 = .ok (.aload_n 0, 1) := by decide +kernel
theorem dL_act_503 : decode cL_act 503 = .ok (.iload 4, 2) := by decide +kernel
theorem dL_act_505 : decode cL_act 505 = .ok (.aload_n 1, 1) := by decide +kernel
theorem dL_act_506 : decode cL_act 506 = .ok (.getfield 44, 3) := by decide +kernel
theorem dL_act_509 : decode cL_act 509 = .ok (.aload_n 1, 1) := by decide +kernel
theorem dL_act_510 : decode cL_act 510 = .ok (.getfield 44, 3) := by decide +kernel
theorem dL_act_513 : decode cL_act 513 = .ok (.arraylength, 1) := by decide +kernel
theorem dL_act_514 : decode cL_act 514 = .ok (.iconst 1, 1) := by decide +kernel
theorem dL_act_515 : decode cL_act 515 = .ok (.isub, 1) := by decide +kernel
theorem dL_act_516 : decode cL_act 516 = .ok (.aaload, 1) := by decide +kernel
theorem dL_act_517 : decode cL_act 517 = .ok (.iconst 1, 1) := by decide +kernel
theorem dL_act_518 : decode cL_act 518 = .ok (.iaload, 1) := by decide +kernel
theorem dL_act_519 : decode cL_act 519 = .ok (.invokevirtual 47, 3) := by decide +kernel
theorem dL_act_522 : decode cL_act 522 = .ok (.aload_n 1, 1) := by decide +kernel
theorem dL_act_523 : decode cL_act 523 = .ok (.getfield 44, 3) := by decide +kernel
theorem dL_act_526 : decode cL_act 526 = .ok (.arraylength, 1) := by decide +kernel
theorem dL_act_527 : decode cL_act 527 = .ok (.iconst 1, 1) := by decide +kernel
theorem dL_act_528 : decode cL_act 528 = .ok (.isub, 1) := by decide +kernel
