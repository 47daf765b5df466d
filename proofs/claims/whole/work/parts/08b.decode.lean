set_option maxRecDepth 20000 in
theorem ggL_bed_X7_bed : GoodIn wsL_bed wsX7_bed := goodIn_ca (goodIn_ca (goodIn_r _ [7, 8, 9, 10, 11, 12, 6, 13, 14, 15, 16, 17, 18, 19, 20, 21, 22, 23, 24, 25, 26, 27, 28, 29, 30, 31, 32, 33, 34, 35, 36, 37, 38, 39, 40, 41, 42, 43] (by decide +kernel) (by decide +kernel)) (goodIn_sub (fun _ h => List.mem_cons_of_mem _ (List.mem_append_left _ (List.mem_append_right _ h))) (by decide +kernel))) (goodIn_sub (fun _ h => List.mem_cons_of_mem _ (List.mem_append_right _ h)) (by decide +kernel))
set_option maxRecDepth 20000 in
theorem gL_bed_X7_bed : GoodIn wsL_bed (wsV RL 7 RX7 yX7_bed wsX7_bed) := goodIn_app (goodIn_of _ (by decide +kernel)) ggL_bed_X7_bed
theorem dL_bed_0 : decode cL_bed 0 = .ok (.aload_n 3, 1) := by decide +kernel
theorem dL_bed_1 : decode cL_bed 1 = .ok (.iconst 0, 1) := by decide +kernel
theorem dL_bed_2 : decode cL_bed 2 = .ok (.aload_n 0, 1) := by decide +kernel
theorem dL_bed_3 : decode cL_bed 3 = .ok (.iload_n 1, 1) := by decide +kernel
theorem dL_bed_4 : decode cL_bed 4 = .ok (.iload_n 2, 1) := by decide +kernel
theorem dL_bed_5 : decode cL_bed 5 = .ok (.invokevirtual 7, 3) := by decide +kernel
theorem dL_bed_8 : decode cL_bed 8 = .ok (.i2l, 1) := by decide +kernel
theorem dL_bed_9 : decode cL_bed 9 = .ok (.lastore, 1) := by decide +kernel
theorem dL_bed_10 : decode cL_bed 10 = .ok (.goto 11, 3) := by decide +kernel
theorem dL_bed_13 : decode cL_bed 13 = .ok (.astore 4, 2) := by decide +kernel
theorem dL_bed_15 : decode cL_bed 15 = .ok (.iconst 1, 1) := by decide +kernel
theorem dL_bed_16 : decode cL_bed 16 = .ok (.ireturn, 1) := by decide +kernel
theorem dL_bed_17 : decode cL_bed 17 = .ok (.astore 4, 2) := by decide +kernel
theorem dL_bed_19 : decode cL_bed 19 = .ok (.iconst 2, 1) := by decide +kernel
theorem dL_bed_20 : decode cL_bed 20 = .ok (.ireturn, 1) := by decide +kernel
theorem dL_bed_21 : decode cL_bed 21 = .ok (.iconst 0, 1) := by decide +kernel
theorem dL_bed_22 : decode cL_bed 22 = .ok (.ireturn, 1) := by decide +kernel
set_option maxRecDepth 20000 in
theorem ggL_drum_X7_drum : GoodIn wsL_drum wsX7_drum := goodIn_ca (goodIn_ca (goodIn_r _ [7, 8, 9, 10, 11, 12, 6, 13, 14, 15, 16, 17, 18, 19, 20, 21, 22, 23, 24, 25, 26, 27, 28, 29, 30, 31, 32, 33, 34, 35, 36, 37, 38, 39, 40, 41, 42, 43, 44, 45] (by decide +kernel) (by decide +kernel)) (goodIn_sub (fun _ h => List.mem_cons_of_mem _ (List.mem_append_left _ (List.mem_append_right _ h))) (by decide +kernel))) (goodIn_sub (fun _ h => List.mem_cons_of_mem _ (List.mem_append_right _ h)) (by decide +kernel))
set_option maxRecDepth 20000 in
theorem gL_drum_X7_drum : GoodIn wsL_drum (wsV RL 17 RX7 yX7_drum wsX7_drum) := goodIn_app (goodIn_of _ (by decide +kernel)) ggL_drum_X7_drum
theorem dL_drum_0 : decode cL_drum 0 = .ok (.aload_n 3, 1) := by decide +kernel
theorem dL_drum_1 : decode cL_drum 1 = .ok (.iconst 0, 1) := by decide +kernel
theorem dL_drum_2 : decode cL_drum 2 = .ok (.aload_n 0, 1) := by decide +kernel
theorem dL_drum_3 : decode cL_drum 3 = .ok (.iload_n 1, 1) := by decide +kernel
theorem dL_drum_4 : decode cL_drum 4 = .ok (.iload_n 2, 1) := by decide +kernel
theorem dL_drum_5 : decode cL_drum 5 = .ok (.invokevirtual 17, 3) := by decide +kernel
theorem dL_drum_8 : decode cL_drum 8 = .ok (.i2l, 1) := by decide +kernel
theorem dL_drum_9 : decode cL_drum 9 = .ok (.lastore, 1) := by decide +kernel
theorem dL_drum_10 : decode cL_drum 10 = .ok (.goto 11, 3) := by decide +kernel
theorem dL_drum_13 : decode cL_drum 13 = .ok (.astore 4, 2) := by decide +kernel
theorem dL_drum_15 : decode cL_drum 15 = .ok (.iconst 1, 1) := by decide +kernel
theorem dL_drum_16 : decode cL_drum 16 = .ok (.ireturn, 1) := by decide +kernel
theorem dL_drum_17 : decode cL_drum 17 = .ok (.astore 4, 2) := by decide +kernel
theorem dL_drum_19 : decode cL_drum 19 = .ok (.iconst 2, 1) := by decide +kernel
theorem dL_drum_20 : decode cL_drum 20 = .ok (.ireturn, 1) := by decide +kernel
theorem dL_drum_21 : decode cL_drum 21 = .ok (.iconst 0, 1) := by decide +kernel
theorem dL_drum_22 : decode cL_drum 22 = .ok (.ireturn, 1) := by decide +kernel
set_option maxRecDepth 20000 in
theorem ggL_smuggler_X7_smuggler : GoodIn wsL_smuggler wsX7_smuggler := goodIn_ca (goodIn_ca (goodIn_r _ [7, 8, 9, 10, 11, 12, 6, 13, 14, 15, 16, 17, 18, 19, 20, 21, 22, 23, 24, 25, 26, 27, 28, 29, 30, 31, 32, 33, 34, 35, 36, 37, 38, 39, 40, 41, 42, 43, 44, 45] (by decide +kernel) (by decide +kernel)) (goodIn_sub (fun _ h => List.mem_cons_of_mem _ (List.mem_append_left _ (List.mem_append_right _ h))) (by decide +kernel))) (goodIn_sub (fun _ h => List.mem_cons_of_mem _ (List.mem_append_right _ h)) (by decide +kernel))
set_option maxRecDepth 20000 in
theorem gL_smuggler_X7_smuggler : GoodIn wsL_smuggler (wsV RL 20 RX7 yX7_smuggler wsX7_smuggler) := goodIn_app (goodIn_of _ (by decide +kernel)) ggL_smuggler_X7_smuggler
theorem dL_smuggler_0 : decode cL_smuggler 0 = .ok (.aload_n 3, 1) := by decide +kernel
theorem dL_smuggler_1 : decode cL_smuggler 1 = .ok (.iconst 0, 1) := by decide +kernel
theorem dL_smuggler_2 : decode cL_smuggler 2 = .ok (.aload_n 0, 1) := by decide +kernel
theorem dL_smuggler_3 : decode cL_smuggler 3 = .ok (.iload_n 1, 1) := by decide +kernel
theorem dL_smuggler_4 : decode cL_smuggler 4 = .ok (.iload_n 2, 1) := by decide +kernel
theorem dL_smuggler_5 : decode cL_smuggler 5 = .ok (.invokevirtual 20, 3) := by decide +kernel
theorem dL_smuggler_8 : decode cL_smuggler 8 = .ok (.i2l, 1) := by decide +kernel
theorem dL_smuggler_9 : decode cL_smuggler 9 = .ok (.lastore, 1) := by decide +kernel
theorem dL_smuggler_10 : decode cL_smuggler 10 = .ok (.goto 11, 3) := by decide +kernel
theorem dL_smuggler_13 : decode cL_smuggler 13 = .ok (.astore 4, 2) := by decide +kernel
theorem dL_smuggler_15 : decode cL_smuggler 15 = .ok (.iconst 1, 1) := by decide +kernel
theorem dL_smuggler_16 : decode cL_smuggler 16 = .ok (.ireturn, 1) := by decide +kernel
theorem dL_smuggler_17 : decode cL_smuggler 17 = .ok (.astore 4, 2) := by decide +kernel
theorem dL_smuggler_19 : decode cL_smuggler 19 = .ok (.iconst 2, 1) := by decide +kernel
theorem dL_smuggler_20 : decode cL_smuggler 20 = .ok (.ireturn, 1) := by decide +kernel
theorem dL_smuggler_21 : decode cL_smuggler 21 = .ok (.iconst 0, 1) := by decide +kernel
theorem dL_smuggler_22 : decode cL_smuggler 22 = .ok (.ireturn, 1) := by decide +kernel
set_option maxRecDepth 20000 in
theorem ggL_card_X7_card : GoodIn wsL_card wsX7_card := goodIn_ca (goodIn_ca (goodIn_r _ [7, 8, 9, 10, 11, 12, 6, 13, 14, 15, 16, 17, 18, 19, 20, 21, 22, 23, 24, 25, 26, 27, 28, 29, 30, 31, 32, 33, 34, 35, 36, 37, 38, 39, 40, 41, 42, 43, 44, 45, 46] (by decide +kernel) (by decide +kernel)) (goodIn_sub (fun _ h => List.mem_cons_of_mem _ (List.mem_append_left _ (List.mem_append_right _ h))) (by decide +kernel))) (goodIn_sub (fun _ h => List.mem_cons_of_mem _ (List.mem_append_right _ h)) (by decide +kernel))
set_option maxRecDepth 20000 in
theorem gL_card_X7_card : GoodIn wsL_card (wsV RL 23 RX7 yX7_card wsX7_card) := goodIn_app (goodIn_of _ (by decide +kernel)) ggL_card_X7_card
theorem dL_card_0 : decode cL_card 0 = .ok (.aload_n 3, 1) := by decide +kernel
theorem dL_card_1 : decode cL_card 1 = .ok (.iconst 0, 1) := by decide +kernel
theorem dL_card_2 : decode cL_card 2 = .ok (.aload_n 0, 1) := by decide +kernel
theorem dL_card_3 : decode cL_card 3 = .ok (.iload_n 1, 1) := by decide +kernel
theorem dL_card_4 : decode cL_card 4 = .ok (.iload_n 2, 1) := by decide +kernel
theorem dL_card_5 : decode cL_card 5 = .ok (.invokevirtual 23, 3) := by decide +kernel
theorem dL_card_8 : decode cL_card 8 = .ok (.i2l, 1) := by decide +kernel
theorem dL_card_9 : decode cL_card 9 = .ok (.lastore, 1) := by decide +kernel
theorem dL_card_10 : decode cL_card 10 = .ok (.goto 11, 3) := by decide +kernel
theorem dL_card_13 : decode cL_card 13 = .ok (.astore 4, 2) := by decide +kernel
theorem dL_card_15 : decode cL_card 15 = .ok (.iconst 1, 1) := by decide +kernel
theorem dL_card_16 : decode cL_card 16 = .ok (.ireturn, 1) := by decide +kernel
theorem dL_card_17 : decode cL_card 17 = .ok (.astore 4, 2) := by decide +kernel
theorem dL_card_19 : decode cL_card 19 = .ok (.iconst 2, 1) := by decide +kernel
theorem dL_card_20 : decode cL_card 20 = .ok (.ireturn, 1) := by decide +kernel
theorem dL_card_21 : decode cL_card 21 = .ok (.iconst 0, 1) := by decide +kernel
theorem dL_card_22 : decode cL_card 22 = .ok (.ireturn, 1) := by decide +kernel
set_option maxRecDepth 20000 in
theorem ggL_setPatrol_X7_setPatrol : GoodIn wsL_setPatrol wsX7_setPatrol := goodIn_ca (goodIn_r _ [6, 7, 8, 9, 10, 5, 11, 12, 13, 14, 15, 16, 17, 18, 19, 20, 21, 22, 23, 24, 25, 26] (by decide +kernel) (by decide +kernel)) (goodIn_sub (fun _ h => List.mem_cons_of_mem _ (List.mem_append_right _ h)) (by decide +kernel))
set_option maxRecDepth 20000 in
theorem gL_setPatrol_X7_setPatrol : GoodIn wsL_setPatrol (wsV RL 26 RX7 yX7_setPatrol wsX7_setPatrol) := goodIn_app (goodIn_of _ (by decide +kernel)) ggL_setPatrol_X7_setPatrol
theorem dL_setPatrol_0 : decode cL_setPatrol 0 = .ok (.aload_n 2, 1) := by decide +kernel
theorem dL_setPatrol_1 : decode cL_setPatrol 1 = .ok (.iconst 0, 1) := by decide +kernel
theorem dL_setPatrol_2 : decode cL_setPatrol 2 = .ok (.aload_n 0, 1) := by decide +kernel
theorem dL_setPatrol_3 : decode cL_setPatrol 3 = .ok (.iload_n 1, 1) := by decide +kernel
theorem dL_setPatrol_4 : decode cL_setPatrol 4 = .ok (.invokevirtual 26, 3) := by decide +kernel
theorem dL_setPatrol_7 : decode cL_setPatrol 7 = .ok (.i2l, 1) := by decide +kernel
theorem dL_setPatrol_8 : decode cL_setPatrol 8 = .ok (.lastore, 1) := by decide +kernel
theorem dL_setPatrol_9 : decode cL_setPatrol 9 = .ok (.goto 6, 3) := by decide +kernel
theorem dL_setPatrol_12 : decode cL_setPatrol 12 = .ok (.astore_n 3, 1) := by decide +kernel
theorem dL_setPatrol_13 : decode cL_setPatrol 13 = .ok (.iconst 1, 1) := by decide +kernel
theorem dL_setPatrol_14 : decode cL_setPatrol 14 = .ok (.ireturn, 1) := by decide +kernel
theorem dL_setPatrol_15 : decode cL_setPatrol 15 = .ok (.iconst 0, 1) := by decide +kernel
theorem dL_setPatrol_16 : decode cL_setPatrol 16 = .ok (.ireturn, 1) := by decide +kernel
set_option maxRecDepth 20000 in
theorem ggL_setShare_X7_setShare : GoodIn wsL_setShare wsX7_setShare := goodIn_ca (goodIn_r _ [6, 7, 8, 9, 10, 11, 5, 12, 13, 14, 15, 16, 17, 18, 19, 20, 21, 22, 23, 24, 25, 26, 27, 28, 29, 30, 31, 32, 33, 34] (by decide +kernel) (by decide +kernel)) (goodIn_sub (fun _ h => List.mem_cons_of_mem _ (List.mem_append_right _ h)) (by decide +kernel))
set_option maxRecDepth 20000 in
theorem gL_setShare_X7_setShare : GoodIn wsL_setShare (wsV RL 30 RX7 yX7_setShare wsX7_setShare) := goodIn_app (goodIn_of _ (by decide +kernel)) ggL_setShare_X7_setShare
theorem dL_setShare_0 : decode cL_setShare 0 = .ok (.aload_n 2, 1) := by decide +kernel
theorem dL_setShare_1 : decode cL_setShare 1 = .ok (.iconst 0, 1) := by decide +kernel
theorem dL_setShare_2 : decode cL_setShare 2 = .ok (.aload_n 0, 1) := by decide +kernel
theorem dL_setShare_3 : decode cL_setShare 3 = .ok (.iload_n 1, 1) := by decide +kernel
theorem dL_setShare_4 : decode cL_setShare 4 = .ok (.invokevirtual 30, 3) := by decide +kernel
theorem dL_setShare_7 : decode cL_setShare 7 = .ok (.i2l, 1) := by decide +kernel
theorem dL_setShare_8 : decode cL_setShare 8 = .ok (.lastore, 1) := by decide +kernel
theorem dL_setShare_9 : decode cL_setShare 9 = .ok (.goto 6, 3) := by decide +kernel
theorem dL_setShare_12 : decode cL_setShare 12 = .ok (.astore_n 3, 1) := by decide +kernel
theorem dL_setShare_13 : decode cL_setShare 13 = .ok (.iconst 1, 1) := by decide +kernel
theorem dL_setShare_14 : decode cL_setShare 14 = .ok (.ireturn, 1) := by decide +kernel
theorem dL_setShare_15 : decode cL_setShare 15 = .ok (.iconst 0, 1) := by decide +kernel
theorem dL_setShare_16 : decode cL_setShare 16 = .ok (.ireturn, 1) := by decide +kernel
set_option maxRecDepth 20000 in
theorem ggL_setHeat_X7_setHeat : GoodIn wsL_setHeat wsX7_setHeat := goodIn_ca (goodIn_ca (goodIn_r _ [7, 8, 9, 10, 11, 12, 13, 6, 14, 15, 16, 17, 18, 19, 20, 21, 22, 23, 24, 25, 26, 27, 28, 29, 30, 31, 32, 33, 34, 35, 36, 37, 38, 39] (by decide +kernel) (by decide +kernel)) (goodIn_sub (fun _ h => List.mem_cons_of_mem _ (List.mem_append_left _ (List.mem_append_right _ h))) (by decide +kernel))) (goodIn_sub (fun _ h => List.mem_cons_of_mem _ (List.mem_append_right _ h)) (by decide +kernel))
set_option maxRecDepth 20000 in
theorem gL_setHeat_X7_setHeat : GoodIn wsL_setHeat (wsV RL 33 RX7 yX7_setHeat wsX7_setHeat) := goodIn_app (goodIn_of _ (by decide +kernel)) ggL_setHeat_X7_setHeat
theorem dL_setHeat_0 : decode cL_setHeat 0 = .ok (.aload_n 3, 1) := by decide +kernel
theorem dL_setHeat_1 : decode cL_setHeat 1 = .ok (.iconst 0, 1) := by decide +kernel
theorem dL_setHeat_2 : decode cL_setHeat 2 = .ok (.aload_n 0, 1) := by decide +kernel
theorem dL_setHeat_3 : decode cL_setHeat 3 = .ok (.iload_n 1, 1) := by decide +kernel
theorem dL_setHeat_4 : decode cL_setHeat 4 = .ok (.iload_n 2, 1) := by decide +kernel
theorem dL_setHeat_5 : decode cL_setHeat 5 = .ok (.invokevirtual 33, 3) := by decide +kernel
theorem dL_setHeat_8 : decode cL_setHeat 8 = .ok (.i2l, 1) := by decide +kernel
theorem dL_setHeat_9 : decode cL_setHeat 9 = .ok (.lastore, 1) := by decide +kernel
theorem dL_setHeat_10 : decode cL_setHeat 10 = .ok (.goto 11, 3) := by decide +kernel
theorem dL_setHeat_13 : decode cL_setHeat 13 = .ok (.astore 4, 2) := by decide +kernel
theorem dL_setHeat_15 : decode cL_setHeat 15 = .ok (.iconst 1, 1) := by decide +kernel
theorem dL_setHeat_16 : decode cL_setHeat 16 = .ok (.ireturn, 1) := by decide +kernel
theorem dL_setHeat_17 : decode cL_setHeat 17 = .ok (.astore 4, 2) := by decide +kernel
theorem dL_setHeat_19 : decode cL_setHeat 19 = .ok (.iconst 2, 1) := by decide +kernel
theorem dL_setHeat_20 : decode cL_setHeat 20 = .ok (.ireturn, 1) := by decide +kernel
theorem dL_setHeat_21 : decode cL_setHeat 21 = .ok (.iconst 0, 1) := by decide +kernel
theorem dL_setHeat_22 : decode cL_setHeat 22 = .ok (.ireturn, 1) := by decide +kernel
set_option maxRecDepth 20000 in
theorem ggL_dig_X7_dig : GoodIn wsL_dig wsX7_dig := goodIn_ca (goodIn_ca (goodIn_ca (goodIn_r _ [8, 9, 10, 11, 12, 13, 14, 15, 7, 16, 17, 18, 19, 20, 21, 22, 23, 24, 25, 26, 27, 28, 29, 30, 31, 32, 33, 34, 35, 36, 37, 38, 39, 40, 41, 42, 43, 44, 45, 46, 47, 48, 49, 50, 51, 52, 53, 54, 55, 56, 57, 58] (by decide +kernel) (by decide +kernel)) (goodIn_sub (fun _ h => List.mem_cons_of_mem _ (List.mem_append_left _ (List.mem_append_left _ (List.mem_append_right _ h)))) (by decide +kernel))) (goodIn_sub (fun _ h => List.mem_cons_of_mem _ (List.mem_append_left _ (List.mem_append_right _ h))) (by decide +kernel))) (goodIn_sub (fun _ h => List.mem_cons_of_mem _ (List.mem_append_right _ h)) (by decide +kernel))
set_option maxRecDepth 20000 in
theorem gL_dig_X7_dig : GoodIn wsL_dig (wsV RL 38 RX7 yX7_dig wsX7_dig) := goodIn_app (goodIn_of _ (by decide +kernel)) ggL_dig_X7_dig
theorem dL_dig_0 : decode cL_dig 0 = .ok (.aload_n 3, 1) := by decide +kernel
theorem dL_dig_1 : decode cL_dig 1 = .ok (.iconst 0, 1) := by decide +kernel
theorem dL_dig_2 : decode cL_dig 2 = .ok (.aload_n 0, 1) := by decide +kernel
theorem dL_dig_3 : decode cL_dig 3 = .ok (.iload_n 1, 1) := by decide +kernel
theorem dL_dig_4 : decode cL_dig 4 = .ok (.iload_n 2, 1) := by decide +kernel
theorem dL_dig_5 : decode cL_dig 5 = .ok (.invokevirtual 38, 3) := by decide +kernel
theorem dL_dig_8 : decode cL_dig 8 = .ok (.i2l, 1) := by decide +kernel
theorem dL_dig_9 : decode cL_dig 9 = .ok (.lastore, 1) := by decide +kernel
theorem dL_dig_10 : decode cL_dig 10 = .ok (.goto 15, 3) := by decide +kernel
theorem dL_dig_13 : decode cL_dig 13 = .ok (.astore 4, 2) := by decide +kernel
theorem dL_dig_15 : decode cL_dig 15 = .ok (.iconst 1, 1) := by decide +kernel
theorem dL_dig_16 : decode cL_dig 16 = .ok (.ireturn, 1) := by decide +kernel
theorem dL_dig_17 : decode cL_dig 17 = .ok (.astore 4, 2) := by decide +kernel
theorem dL_dig_19 : decode cL_dig 19 = .ok (.iconst 2, 1) := by decide +kernel
theorem dL_dig_20 : decode cL_dig 20 = .ok (.ireturn, 1) := by decide +kernel
theorem dL_dig_21 : decode cL_dig 21 = .ok (.astore 4, 2) := by decide +kernel
theorem dL_dig_23 : decode cL_dig 23 = .ok (.iconst 3, 1) := by decide +kernel
theorem dL_dig_24 : decode cL_dig 24 = .ok (.ireturn, 1) := by decide +kernel
theorem dL_dig_25 : decode cL_dig 25 = .ok (.iconst 0, 1) := by decide +kernel
theorem dL_dig_26 : decode cL_dig 26 = .ok (.ireturn, 1) := by decide +kernel
set_option maxRecDepth 20000 in
theorem ggL_give_X7_give : GoodIn wsL_give wsX7_give := goodIn_ca (goodIn_ca (goodIn_r _ [7, 8, 9, 10, 11, 6, 12, 13, 14, 15, 16, 17, 18, 19, 20, 21, 22, 23, 24, 25, 26, 27, 28, 29, 30, 31, 32, 33, 34, 35, 36, 37, 38, 39, 40, 41, 42, 43, 44, 45, 46, 47, 48, 49, 50] (by decide +kernel) (by decide +kernel)) (goodIn_sub (fun _ h => List.mem_cons_of_mem _ (List.mem_append_left _ (List.mem_append_right _ h))) (by decide +kernel))) (goodIn_sub (fun _ h => List.mem_cons_of_mem _ (List.mem_append_right _ h)) (by decide +kernel))
set_option maxRecDepth 20000 in
theorem gL_give_X7_give : GoodIn wsL_give (wsV RL 41 RX7 yX7_give wsX7_give) := goodIn_app (goodIn_of _ (by decide +kernel)) ggL_give_X7_give
theorem dL_give_0 : decode cL_give 0 = .ok (.aload_n 3, 1) := by decide +kernel
theorem dL_give_1 : decode cL_give 1 = .ok (.iconst 0, 1) := by decide +kernel
theorem dL_give_2 : decode cL_give 2 = .ok (.aload_n 0, 1) := by decide +kernel
theorem dL_give_3 : decode cL_give 3 = .ok (.iload_n 1, 1) := by decide +kernel
theorem dL_give_4 : decode cL_give 4 = .ok (.iload_n 2, 1) := by decide +kernel
theorem dL_give_5 : decode cL_give 5 = .ok (.invokevirtual 41, 3) := by decide +kernel
theorem dL_give_8 : decode cL_give 8 = .ok (.i2l, 1) := by decide +kernel
theorem dL_give_9 : decode cL_give 9 = .ok (.lastore, 1) := by decide +kernel
theorem dL_give_10 : decode cL_give 10 = .ok (.goto 11, 3) := by decide +kernel
theorem dL_give_13 : decode cL_give 13 = .ok (.astore 4, 2) := by decide +kernel
theorem dL_give_15 : decode cL_give 15 = .ok (.iconst 1, 1) := by decide +kernel
theorem dL_give_16 : decode cL_give 16 = .ok (.ireturn, 1) := by decide +kernel
theorem dL_give_17 : decode cL_give 17 = .ok (.astore 4, 2) := by decide +kernel
theorem dL_give_19 : decode cL_give 19 = .ok (.iconst 2, 1) := by decide +kernel
theorem dL_give_20 : decode cL_give 20 = .ok (.ireturn, 1) := by decide +kernel
theorem dL_give_21 : decode cL_give 21 = .ok (.iconst 0, 1) := by decide +kernel
theorem dL_give_22 : decode cL_give 22 = .ok (.ireturn, 1) := by decide +kernel
set_option maxRecDepth 20000 in
theorem ggL_load_X7_load : GoodIn wsL_load wsX7_load := goodIn_ca (goodIn_ca (goodIn_ca (goodIn_r _ [8, 9, 10, 11, 12, 13, 14, 15, 16, 7, 17, 18, 19, 20, 21, 22, 23, 24, 25, 26, 27, 28, 29, 30, 31, 32, 33, 34, 35, 36, 37, 38, 39, 40, 41, 42, 43, 44, 45, 46, 47, 48, 49, 50, 51, 52, 53, 54, 55, 56, 57, 58, 59, 60, 61, 62, 63, 64, 65, 66, 67, 68, 69, 70, 71, 72, 73] (by decide +kernel) (by decide +kernel)) (goodIn_sub (fun _ h => List.mem_cons_of_mem _ (List.mem_append_left _ (List.mem_append_left _ (List.mem_append_right _ h)))) (by decide +kernel))) (goodIn_sub (fun _ h => List.mem_cons_of_mem _ (List.mem_append_left _ (List.mem_append_right _ h))) (by decide +kernel))) (goodIn_sub (fun _ h => List.mem_cons_of_mem _ (List.mem_append_right _ h)) (by decide +kernel))
set_option maxRecDepth 20000 in
theorem gL_load_X7_load : GoodIn wsL_load (wsV RL 44 RX7 yX7_load wsX7_load) := goodIn_app (goodIn_of _ (by decide +kernel)) ggL_load_X7_load
theorem dL_load_0 : decode cL_load 0 = .ok (.aload 4, 2) := by decide +kernel
theorem dL_load_2 : decode cL_load 2 = .ok (.iconst 0, 1) := by decide +kernel
theorem dL_load_3 : decode cL_load 3 = .ok (.aload_n 0, 1) := by decide +kernel
theorem dL_load_4 : decode cL_load 4 = .ok (.iload_n 1, 1) := by decide +kernel
theorem dL_load_5 : decode cL_load 5 = .ok (.iload_n 2, 1) := by decide +kernel
theorem dL_load_6 : decode cL_load 6 = .ok (.iload_n 3, 1) := by decide +kernel
theorem dL_load_7 : decode cL_load 7 = .ok (.invokevirtual 44, 3) := by decide +kernel
theorem dL_load_10 : decode cL_load 10 = .ok (.i2l, 1) := by decide +kernel
theorem dL_load_11 : decode cL_load 11 = .ok (.lastore, 1) := by decide +kernel
theorem dL_load_12 : decode cL_load 12 = .ok (.goto 15, 3) := by decide +kernel
theorem dL_load_15 : decode cL_load 15 = .ok (.astore 5, 2) := by decide +kernel
theorem dL_load_17 : decode cL_load 17 = .ok (.iconst 1, 1) := by decide +kernel
theorem dL_load_18 : decode cL_load 18 = .ok (.ireturn, 1) := by decide +kernel
theorem dL_load_19 : decode cL_load 19 = .ok (.astore 5, 2) := by decide +kernel
theorem dL_load_21 : decode cL_load 21 = .ok (.iconst 2, 1) := by decide +kernel
theorem dL_load_22 : decode cL_load 22 = .ok (.ireturn, 1) := by decide +kernel
theorem dL_load_23 : decode cL_load 23 = .ok (.astore 5, 2) := by decide +kernel
theorem dL_load_25 : decode cL_load 25 = .ok (.iconst 3, 1) := by decide +kernel
theorem dL_load_26 : decode cL_load 26 = .ok (.ireturn, 1) := by decide +kernel
theorem dL_load_27 : decode cL_load 27 = .ok (.iconst 0, 1) := by decide +kernel
theorem dL_load_28 : decode cL_load 28 = .ok (.ireturn, 1) := by decide +kernel
set_option maxRecDepth 20000 in
theorem ggL_take_X7_take : GoodIn wsL_take wsX7_take := goodIn_ca (goodIn_ca (goodIn_r _ [7, 8, 9, 10, 11, 12, 13, 14, 15, 6, 16, 17, 18, 19, 20, 21, 22, 23, 24, 25, 26, 27, 28, 29, 30, 31, 32, 33, 34, 35, 36, 37, 38, 39, 40, 41, 42, 43, 44, 45, 46, 47, 48, 49, 50, 51, 52, 53, 54, 55, 56, 57, 58, 59, 60, 61, 62, 63, 64, 65, 66, 67, 68, 69, 70, 71, 72, 73, 74, 75] (by decide +kernel) (by decide +kernel)) (goodIn_sub (fun _ h => List.mem_cons_of_mem _ (List.mem_append_left _ (List.mem_append_right _ h))) (by decide +kernel))) (goodIn_sub (fun _ h => List.mem_cons_of_mem _ (List.mem_append_right _ h)) (by decide +kernel))
set_option maxRecDepth 20000 in
theorem gL_take_X7_take : GoodIn wsL_take (wsV RL 48 RX7 yX7_take wsX7_take) := goodIn_app (goodIn_of _ (by decide +kernel)) ggL_take_X7_take
theorem dL_take_0 : decode cL_take 0 = .ok (.aload_n 2, 1) := by decide +kernel
theorem dL_take_1 : decode cL_take 1 = .ok (.iconst 0, 1) := by decide +kernel
theorem dL_take_2 : decode cL_take 2 = .ok (.aload_n 0, 1) := by decide +kernel
theorem dL_take_3 : decode cL_take 3 = .ok (.iload_n 1, 1) := by decide +kernel
theorem dL_take_4 : decode cL_take 4 = .ok (.invokevirtual 48, 3) := by decide +kernel
theorem dL_take_7 : decode cL_take 7 = .ok (.i2l, 1) := by decide +kernel
theorem dL_take_8 : decode cL_take 8 = .ok (.lastore, 1) := by decide +kernel
theorem dL_take_9 : decode cL_take 9 = .ok (.goto 9, 3) := by decide +kernel
theorem dL_take_12 : decode cL_take 12 = .ok (.astore_n 3, 1) := by decide +kernel
theorem dL_take_13 : decode cL_take 13 = .ok (.iconst 1, 1) := by decide +kernel
theorem dL_take_14 : decode cL_take 14 = .ok (.ireturn, 1) := by decide +kernel
theorem dL_take_15 : decode cL_take 15 = .ok (.astore_n 3, 1) := by decide +kernel
theorem dL_take_16 : decode cL_take 16 = .ok (.iconst 2, 1) := by decide +kernel
theorem dL_take_17 : decode cL_take 17 = .ok (.ireturn, 1) := by decide +kernel
theorem dL_take_18 : decode cL_take 18 = .ok (.iconst 0, 1) := by decide +kernel
theorem dL_take_19 : decode cL_take 19 = .ok (.ireturn, 1) := by decide +kernel
set_option maxRecDepth 20000 in
theorem ggL_send_X7_send : GoodIn wsL_send wsX7_send := goodIn_ca (goodIn_ca (goodIn_r _ [7, 8, 9, 10, 11, 12, 13, 14, 6, 15, 16, 17, 18, 19, 20, 21, 22, 23, 24, 25, 26, 27, 28, 29, 30, 31, 32, 33, 34, 35, 36, 37, 38, 39, 40, 41, 42, 43, 44, 45, 46, 47, 48] (by decide +kernel) (by decide +kernel)) (goodIn_sub (fun _ h => List.mem_cons_of_mem _ (List.mem_append_left _ (List.mem_append_right _ h))) (by decide +kernel))) (goodIn_sub (fun _ h => List.mem_cons_of_mem _ (List.mem_append_right _ h)) (by decide +kernel))
set_option maxRecDepth 20000 in
theorem gL_send_X7_send : GoodIn wsL_send (wsV RL 51 RX7 yX7_send wsX7_send) := goodIn_app (goodIn_of _ (by decide +kernel)) ggL_send_X7_send
theorem dL_send_0 : decode cL_send 0 = .ok (.aload_n 2, 1) := by decide +kernel
theorem dL_send_1 : decode cL_send 1 = .ok (.iconst 0, 1) := by decide +kernel
theorem dL_send_2 : decode cL_send 2 = .ok (.aload_n 0, 1) := by decide +kernel
theorem dL_send_3 : decode cL_send 3 = .ok (.iload_n 1, 1) := by decide +kernel
theorem dL_send_4 : decode cL_send 4 = .ok (.invokevirtual 51, 3) := by decide +kernel
theorem dL_send_7 : decode cL_send 7 = .ok (.i2l, 1) := by decide +kernel
theorem dL_send_8 : decode cL_send 8 = .ok (.lastore, 1) := by decide +kernel
theorem dL_send_9 : decode cL_send 9 = .ok (.goto 9, 3) := by decide +kernel
theorem dL_send_12 : decode cL_send 12 = .ok (.astore_n 3, 1) := by decide +kernel
theorem dL_send_13 : decode cL_send 13 = .ok (.iconst 1, 1) := by decide +kernel
theorem dL_send_14 : decode cL_send 14 = .ok (.ireturn, 1) := by decide +kernel
theorem dL_send_15 : decode cL_send 15 = .ok (.astore_n 3, 1) := by decide +kernel
theorem dL_send_16 : decode cL_send 16 = .ok (.iconst 2, 1) := by decide +kernel
theorem dL_send_17 : decode cL_send 17 = .ok (.ireturn, 1) := by decide +kernel
theorem dL_send_18 : decode cL_send 18 = .ok (.iconst 0, 1) := by decide +kernel
theorem dL_send_19 : decode cL_send 19 = .ok (.ireturn, 1) := by decide +kernel
set_option maxRecDepth 20000 in
theorem ggL_about_X7_about : GoodIn wsL_about wsX7_about := goodIn_ca (goodIn_r _ [6, 7, 8, 9, 10, 11, 5, 12, 13, 14, 15, 16, 17, 18, 19, 20, 21, 22, 23, 24, 25, 26, 27, 28, 29, 30, 31, 32, 33, 34, 35, 36, 37, 38, 39, 40, 41, 42, 43, 44, 45, 46, 47, 48, 49, 50, 51, 52, 53, 54, 55, 56, 57, 58, 59, 60, 61, 62, 63, 64, 65, 66, 67, 68, 69, 70, 71, 72, 73, 74, 75, 76, 77, 78, 79, 80, 81, 82, 83, 84, 85, 86, 87, 88, 89, 90, 91, 92, 93, 94, 95, 96, 97, 98, 99, 100, 101, 102, 103, 104, 105, 106, 107, 108, 109, 110, 111, 112, 113, 114, 115, 116, 117, 118, 119, 120, 121, 122, 123, 124, 125, 126, 127, 128, 129, 130, 131, 132, 133, 134] (by decide +kernel) (by decide +kernel)) (goodIn_sub (fun _ h => List.mem_cons_of_mem _ (List.mem_append_right _ h)) (by decide +kernel))
set_option maxRecDepth 20000 in
theorem gL_about_X7_about : GoodIn wsL_about (wsV RL 54 RX7 yX7_about wsX7_about) := goodIn_app (goodIn_of _ (by decide +kernel)) ggL_about_X7_about
theorem dL_about_0 : decode cL_about 0 = .ok (.aload_n 3, 1) := by decide +kernel
theorem dL_about_1 : decode cL_about 1 = .ok (.iconst 0, 1) := by decide +kernel
theorem dL_about_2 : decode cL_about 2 = .ok (.aload_n 0, 1) := by decide +kernel
theorem dL_about_3 : decode cL_about 3 = .ok (.iload_n 1, 1) := by decide +kernel
theorem dL_about_4 : decode cL_about 4 = .ok (.iload_n 2, 1) := by decide +kernel
theorem dL_about_5 : decode cL_about 5 = .ok (.invokevirtual 54, 3) := by decide +kernel
theorem dL_about_8 : decode cL_about 8 = .ok (.i2l, 1) := by decide +kernel
theorem dL_about_9 : decode cL_about 9 = .ok (.lastore, 1) := by decide +kernel
theorem dL_about_10 : decode cL_about 10 = .ok (.goto 7, 3) := by decide +kernel
theorem dL_about_13 : decode cL_about 13 = .ok (.astore 4, 2) := by decide +kernel
theorem dL_about_15 : decode cL_about 15 = .ok (.iconst 1, 1) := by decide +kernel
theorem dL_about_16 : decode cL_about 16 = .ok (.ireturn, 1) := by decide +kernel
theorem dL_about_17 : decode cL_about 17 = .ok (.iconst 0, 1) := by decide +kernel
theorem dL_about_18 : decode cL_about 18 = .ok (.ireturn, 1) := by decide +kernel
set_option maxRecDepth 20000 in
theorem ggL_roast_X7_roast : GoodIn wsL_roast wsX7_roast := goodIn_ca (goodIn_r _ [6, 7, 8, 9, 10, 11, 5, 12, 13, 14, 15, 16, 17, 18, 19, 20, 21, 22, 23, 24, 25, 26, 27, 28, 29, 30, 31, 32, 33, 34, 35, 36, 37, 38, 39, 40, 41, 42, 43, 44, 45, 46, 47, 48, 49, 50, 51, 52, 53, 54, 55, 56, 57, 58, 59, 60, 61, 62, 63, 64, 65, 66, 67, 68, 69, 70, 71, 72, 73, 74, 75, 76, 77, 78, 79, 80, 81, 82, 83, 84, 85, 86, 87, 88, 89, 90, 91, 92, 93, 94, 95, 96, 97, 98, 99, 100, 101, 102, 103, 104, 105, 106, 107, 108, 109, 110, 111, 112, 113, 114, 115, 116, 117, 118, 119, 120, 121, 122, 123, 124, 125, 126, 127, 128, 129, 130, 131, 132, 133, 134] (by decide +kernel) (by decide +kernel)) (goodIn_sub (fun _ h => List.mem_cons_of_mem _ (List.mem_append_right _ h)) (by decide +kernel))
set_option maxRecDepth 20000 in
theorem gL_roast_X7_roast : GoodIn wsL_roast (wsV RL 57 RX7 yX7_roast wsX7_roast) := goodIn_app (goodIn_of _ (by decide +kernel)) ggL_roast_X7_roast
theorem dL_roast_0 : decode cL_roast 0 = .ok (.aload_n 3, 1) := by decide +kernel
theorem dL_roast_1 : decode cL_roast 1 = .ok (.iconst 0, 1) := by decide +kernel
theorem dL_roast_2 : decode cL_roast 2 = .ok (.aload_n 0, 1) := by decide +kernel
theorem dL_roast_3 : decode cL_roast 3 = .ok (.iload_n 1, 1) := by decide +kernel
theorem dL_roast_4 : decode cL_roast 4 = .ok (.iload_n 2, 1) := by decide +kernel
theorem dL_roast_5 : decode cL_roast 5 = .ok (.invokevirtual 57, 3) := by decide +kernel
theorem dL_roast_8 : decode cL_roast 8 = .ok (.i2l, 1) := by decide +kernel
theorem dL_roast_9 : decode cL_roast 9 = .ok (.lastore, 1) := by decide +kernel
theorem dL_roast_10 : decode cL_roast 10 = .ok (.goto 7, 3) := by decide +kernel
theorem dL_roast_13 : decode cL_roast 13 = .ok (.astore 4, 2) := by decide +kernel
theorem dL_roast_15 : decode cL_roast 15 = .ok (.iconst 1, 1) := by decide +kernel
theorem dL_roast_16 : decode cL_roast 16 = .ok (.ireturn, 1) := by decide +kernel
theorem dL_roast_17 : decode cL_roast 17 = .ok (.iconst 0, 1) := by decide +kernel
theorem dL_roast_18 : decode cL_roast 18 = .ok (.ireturn, 1) := by decide +kernel
set_option maxRecDepth 20000 in
theorem ggL_told_X7_told : GoodIn wsL_told wsX7_told := goodIn_ca (goodIn_r _ [6, 7, 8, 9, 10, 11, 5, 12, 13, 14, 15, 16, 17, 18, 19, 20, 21, 22, 23, 24, 25, 26, 27, 28, 29, 30, 31, 32, 33, 34, 35, 36, 37, 38, 39, 40, 41, 42, 43, 44, 45, 46, 47, 48, 49, 50, 51, 52, 53, 54, 55, 56, 57, 58, 59, 60, 61, 62, 63, 64, 65, 66, 67, 68, 69, 70, 71, 72, 73, 74, 75, 76, 77, 78, 79, 80, 81, 82, 83, 84, 85, 86, 87, 88, 89, 90, 91, 92, 93, 94, 95, 96, 97, 98, 99, 100, 101, 102, 103, 104, 105, 106, 107, 108, 109, 110, 111, 112, 113, 114, 115, 116, 117, 118, 119, 120, 121, 122, 123, 124, 125, 126, 127, 128, 129, 130, 131, 132, 133, 134] (by decide +kernel) (by decide +kernel)) (goodIn_sub (fun _ h => List.mem_cons_of_mem _ (List.mem_append_right _ h)) (by decide +kernel))
set_option maxRecDepth 20000 in
theorem gL_told_X7_told : GoodIn wsL_told (wsV RL 60 RX7 yX7_told wsX7_told) := goodIn_app (goodIn_of _ (by decide +kernel)) ggL_told_X7_told
theorem dL_told_0 : decode cL_told 0 = .ok (.aload_n 3, 1) := by decide +kernel
theorem dL_told_1 : decode cL_told 1 = .ok (.iconst 0, 1) := by decide +kernel
theorem dL_told_2 : decode cL_told 2 = .ok (.aload_n 0, 1) := by decide +kernel
theorem dL_told_3 : decode cL_told 3 = .ok (.iload_n 1, 1) := by decide +kernel
theorem dL_told_4 : decode cL_told 4 = .ok (.iload_n 2, 1) := by decide +kernel
theorem dL_told_5 : decode cL_told 5 = .ok (.invokevirtual 60, 3) := by decide +kernel
theorem dL_told_8 : decode cL_told 8 = .ok (.i2l, 1) := by decide +kernel
theorem dL_told_9 : decode cL_told 9 = .ok (.lastore, 1) := by decide +kernel
theorem dL_told_10 : decode cL_told 10 = .ok (.goto 7, 3) := by decide +kernel
theorem dL_told_13 : decode cL_told 13 = .ok (.astore 4, 2) := by decide +kernel
theorem dL_told_15 : decode cL_told 15 = .ok (.iconst 1, 1) := by decide +kernel
theorem dL_told_16 : decode cL_told 16 = .ok (.ireturn, 1) := by decide +kernel
theorem dL_told_17 : decode cL_told 17 = .ok (.iconst 0, 1) := by decide +kernel
theorem dL_told_18 : decode cL_told 18 = .ok (.ireturn, 1) := by decide +kernel
set_option maxRecDepth 20000 in
theorem ggL_ration_X7_ration : GoodIn wsL_ration wsX7_ration := goodIn_ca (goodIn_r _ [6, 7, 8, 9, 10, 11, 5, 12, 13, 14, 15, 16, 17, 18, 19, 20, 21, 22, 23, 24, 25, 26, 27, 28, 29, 30, 31, 32, 33, 34, 35, 36, 37, 38, 39, 40, 41, 42, 43, 44, 45, 46, 47, 48, 49, 50, 51, 52, 53, 54, 55, 56, 57, 58, 59, 60, 61, 62, 63, 64, 65, 66, 67, 68, 69, 70, 71, 72, 73, 74, 75, 76, 77, 78, 79, 80, 81, 82, 83, 84, 85, 86, 87, 88, 89, 90, 91, 92, 93, 94, 95, 96, 97, 98, 99, 100, 101, 102, 103, 104, 105, 106, 107, 108, 109, 110, 111, 112, 113, 114, 115, 116, 117, 118, 119, 120, 121, 122, 123, 124, 125, 126, 127, 128, 129, 130, 131, 132, 133, 134] (by decide +kernel) (by decide +kernel)) (goodIn_sub (fun _ h => List.mem_cons_of_mem _ (List.mem_append_right _ h)) (by decide +kernel))
set_option maxRecDepth 20000 in
theorem gL_ration_X7_ration : GoodIn wsL_ration (wsV RL 63 RX7 yX7_ration wsX7_ration) := goodIn_app (goodIn_of _ (by decide +kernel)) ggL_ration_X7_ration
theorem dL_ration_0 : decode cL_ration 0 = .ok (.aload_n 3, 1) := by decide +kernel
theorem dL_ration_1 : decode cL_ration 1 = .ok (.iconst 0, 1) := by decide +kernel
theorem dL_ration_2 : decode cL_ration 2 = .ok (.aload_n 0, 1) := by decide +kernel
theorem dL_ration_3 : decode cL_ration 3 = .ok (.iload_n 1, 1) := by decide +kernel
theorem dL_ration_4 : decode cL_ration 4 = .ok (.iload_n 2, 1) := by decide +kernel
theorem dL_ration_5 : decode cL_ration 5 = .ok (.invokevirtual 63, 3) := by decide +kernel
theorem dL_ration_8 : decode cL_ration 8 = .ok (.i2l, 1) := by decide +kernel
theorem dL_ration_9 : decode cL_ration 9 = .ok (.lastore, 1) := by decide +kernel
theorem dL_ration_10 : decode cL_ration 10 = .ok (.goto 7, 3) := by decide +kernel
theorem dL_ration_13 : decode cL_ration 13 = .ok (.astore 4, 2) := by decide +kernel
theorem dL_ration_15 : decode cL_ration 15 = .ok (.iconst 1, 1) := by decide +kernel
theorem dL_ration_16 : decode cL_ration 16 = .ok (.ireturn, 1) := by decide +kernel
theorem dL_ration_17 : decode cL_ration 17 = .ok (.iconst 0, 1) := by decide +kernel
theorem dL_ration_18 : decode cL_ration 18 = .ok (.ireturn, 1) := by decide +kernel
set_option maxRecDepth 20000 in
theorem ggL_count_X7_count : GoodIn wsL_count wsX7_count := goodIn_ca (goodIn_r _ [6, 7, 8, 9, 5, 10, 11, 12, 13, 14, 15, 16, 17, 18, 19, 20, 21, 22, 23, 24, 25, 26, 27, 28, 29, 30, 31, 32, 33, 34, 35, 36, 37, 38, 39, 40, 41, 42, 43, 44, 45, 46, 47, 48, 49, 50, 51, 52, 53, 54, 55, 56, 57, 58, 59, 60, 61, 62, 63, 64, 65, 66, 67, 68, 69, 70, 71, 72, 73, 74, 75, 76, 77, 78, 79, 80, 81, 82, 83, 84, 85, 86, 87, 88, 89, 90, 91, 92, 93, 94, 95, 96, 97, 98, 99, 100, 101, 102, 103, 104, 105, 106, 107, 108, 109, 110, 111, 112, 113, 114, 115, 116, 117, 118, 119, 120, 121, 122, 123, 124, 125, 126, 127, 128, 129, 130, 131, 132] (by decide +kernel) (by decide +kernel)) (goodIn_sub (fun _ h => List.mem_cons_of_mem _ (List.mem_append_right _ h)) (by decide +kernel))
set_option maxRecDepth 20000 in
theorem gL_count_X7_count : GoodIn wsL_count (wsV RL 66 RX7 yX7_count wsX7_count) := goodIn_app (goodIn_of _ (by decide +kernel)) ggL_count_X7_count
theorem dL_count_0 : decode cL_count 0 = .ok (.aload_n 2, 1) := by decide +kernel
theorem dL_count_1 : decode cL_count 1 = .ok (.iconst 0, 1) := by decide +kernel
theorem dL_count_2 : decode cL_count 2 = .ok (.aload_n 0, 1) := by decide +kernel
theorem dL_count_3 : decode cL_count 3 = .ok (.iload_n 1, 1) := by decide +kernel
theorem dL_count_4 : decode cL_count 4 = .ok (.invokevirtual 66, 3) := by decide +kernel
theorem dL_count_7 : decode cL_count 7 = .ok (.i2l, 1) := by decide +kernel
theorem dL_count_8 : decode cL_count 8 = .ok (.lastore, 1) := by decide +kernel
theorem dL_count_9 : decode cL_count 9 = .ok (.goto 6, 3) := by decide +kernel
theorem dL_count_12 : decode cL_count 12 = .ok (.astore_n 3, 1) := by decide +kernel
theorem dL_count_13 : decode cL_count 13 = .ok (.iconst 1, 1) := by decide +kernel
theorem dL_count_14 : decode cL_count 14 = .ok (.ireturn, 1) := by decide +kernel
theorem dL_count_15 : decode cL_count 15 = .ok (.iconst 0, 1) := by decide +kernel
theorem dL_count_16 : decode cL_count 16 = .ok (.ireturn, 1) := by decide +kernel
set_option maxRecDepth 20000 in
theorem ggL_pass_X7_pass : GoodIn wsL_pass wsX7_pass := goodIn_ca (goodIn_r _ [6, 7, 8, 9, 5, 10, 11, 12, 13, 14, 15, 16, 17, 18, 19, 20, 21, 22, 23, 24, 25, 26, 27, 28, 29, 30, 31, 32, 33, 34, 35, 36, 37, 38, 39, 40, 41, 42, 43, 44, 45, 46, 47, 48, 49, 50, 51, 52, 53, 54, 55, 56, 57, 58, 59, 60, 61, 62, 63, 64, 65, 66, 67, 68, 69, 70, 71, 72, 73, 74, 75, 76, 77, 78, 79, 80, 81, 82, 83, 84, 85, 86, 87, 88, 89, 90, 91, 92, 93, 94, 95, 96, 97, 98, 99, 100, 101, 102, 103, 104, 105, 106, 107, 108, 109, 110, 111, 112, 113, 114, 115, 116, 117, 118, 119, 120, 121, 122, 123, 124, 125, 126, 127, 128, 129, 130, 131, 132, 133, 134, 135, 136, 137, 138, 139, 140, 141, 142, 143, 144, 145, 146, 147, 148, 149, 150, 151, 152, 153, 154, 155, 156, 157, 158, 159, 160, 161, 162, 163, 164, 165, 166, 167, 168, 169, 170, 171, 172] (by decide +kernel) (by decide +kernel)) (goodIn_sub (fun _ h => List.mem_cons_of_mem _ (List.mem_append_right _ h)) (by decide +kernel))
set_option maxRecDepth 20000 in
theorem gL_pass_X7_pass : GoodIn wsL_pass (wsV RL 69 RX7 yX7_pass wsX7_pass) := goodIn_app (goodIn_of _ (by decide +kernel)) ggL_pass_X7_pass
theorem dL_pass_0 : decode cL_pass 0 = .ok (.aload_n 2, 1) := by decide +kernel
theorem dL_pass_1 : decode cL_pass 1 = .ok (.iconst 0, 1) := by decide +kernel
theorem dL_pass_2 : decode cL_pass 2 = .ok (.aload_n 0, 1) := by decide +kernel
theorem dL_pass_3 : decode cL_pass 3 = .ok (.iload_n 1, 1) := by decide +kernel
theorem dL_pass_4 : decode cL_pass 4 = .ok (.invokevirtual 69, 3) := by decide +kernel
theorem dL_pass_7 : decode cL_pass 7 = .ok (.i2l, 1) := by decide +kernel
theorem dL_pass_8 : decode cL_pass 8 = .ok (.lastore, 1) := by decide +kernel
theorem dL_pass_9 : decode cL_pass 9 = .ok (.goto 6, 3) := by decide +kernel
theorem dL_pass_12 : decode cL_pass 12 = .ok (.astore_n 3, 1) := by decide +kernel
theorem dL_pass_13 : decode cL_pass 13 = .ok (.iconst 1, 1) := by decide +kernel
theorem dL_pass_14 : decode cL_pass 14 = .ok (.ireturn, 1) := by decide +kernel
theorem dL_pass_15 : decode cL_pass 15 = .ok (.iconst 0, 1) := by decide +kernel
theorem dL_pass_16 : decode cL_pass 16 = .ok (.ireturn, 1) := by decide +kernel
set_option maxRecDepth 20000 in
theorem ggL_foresee_X7_foresee : GoodIn wsL_foresee wsX7_foresee := goodIn_ca (goodIn_ca (goodIn_r _ [7, 8, 9, 10, 11, 12, 13, 6, 14, 15, 16, 17, 18, 19, 20, 21, 22, 23, 24, 25, 26, 27, 28, 29, 30, 31, 32, 33, 34, 35, 36, 37, 38, 39, 40, 41, 42, 43, 44, 45, 46, 47, 48, 49, 50, 51, 52, 53, 54, 55, 56, 57, 58, 59, 60, 61, 62, 63, 64, 65, 66, 67, 68, 69, 70, 71, 72, 73, 74, 75, 76, 77, 78, 79, 80, 81, 82, 83, 84, 85, 86, 87, 88, 89, 90, 91, 92, 93, 94, 95, 96, 97, 98, 99, 100, 101, 102, 103, 104, 105, 106, 107, 108, 109, 110, 111, 112, 113, 114, 115, 116, 117, 118, 119, 120, 121, 122, 123, 124, 125, 126, 127, 128, 129, 130, 131, 132, 133, 134, 135, 136, 137, 138, 139, 140, 141, 142, 143, 144, 145, 146, 147, 148, 149, 150, 151, 152, 153, 154, 155, 156, 157, 158, 159, 160, 161, 162, 163, 164, 165, 166, 167, 168, 169, 170, 171, 172, 173, 174, 175, 176, 177, 178, 179, 180, 181, 182, 183, 184, 185, 186, 187, 188, 189, 190, 191, 192, 193, 194, 195, 196, 197, 198, 199, 200, 201, 202, 203, 204, 205, 206, 207, 208, 209, 210, 211, 212, 213] (by decide +kernel) (by decide +kernel)) (goodIn_sub (fun _ h => List.mem_cons_of_mem _ (List.mem_append_left _ (List.mem_append_right _ h))) (by decide +kernel))) (goodIn_sub (fun _ h => List.mem_cons_of_mem _ (List.mem_append_right _ h)) (by decide +kernel))
set_option maxRecDepth 20000 in
theorem gL_foresee_X7_foresee : GoodIn wsL_foresee (wsV RL 72 RX7 yX7_foresee wsX7_foresee) := goodIn_app (goodIn_of _ (by decide +kernel)) ggL_foresee_X7_foresee
theorem dL_foresee_0 : decode cL_foresee 0 = .ok (.aload_n 3, 1) := by decide +kernel
theorem dL_foresee_1 : decode cL_foresee 1 = .ok (.iconst 0, 1) := by decide +kernel
theorem dL_foresee_2 : decode cL_foresee 2 = .ok (.aload_n 0, 1) := by decide +kernel
theorem dL_foresee_3 : decode cL_foresee 3 = .ok (.iload_n 1, 1) := by decide +kernel
theorem dL_foresee_4 : decode cL_foresee 4 = .ok (.iload_n 2, 1) := by decide +kernel
theorem dL_foresee_5 : decode cL_foresee 5 = .ok (.invokevirtual 72, 3) := by decide +kernel
theorem dL_foresee_8 : decode cL_foresee 8 = .ok (.i2l, 1) := by decide +kernel
theorem dL_foresee_9 : decode cL_foresee 9 = .ok (.lastore, 1) := by decide +kernel
theorem dL_foresee_10 : decode cL_foresee 10 = .ok (.goto 11, 3) := by decide +kernel
theorem dL_foresee_13 : decode cL_foresee 13 = .ok (.astore 4, 2) := by decide +kernel
theorem dL_foresee_15 : decode cL_foresee 15 = .ok (.iconst 1, 1) := by decide +kernel
theorem dL_foresee_16 : decode cL_foresee 16 = .ok (.ireturn, 1) := by decide +kernel
theorem dL_foresee_17 : decode cL_foresee 17 = .ok (.astore 4, 2) := by decide +kernel
theorem dL_foresee_19 : decode cL_foresee 19 = .ok (.iconst 2, 1) := by decide +kernel
theorem dL_foresee_20 : decode cL_foresee 20 = .ok (.ireturn, 1) := by decide +kernel
theorem dL_foresee_21 : decode cL_foresee 21 = .ok (.iconst 0, 1) := by decide +kernel
theorem dL_foresee_22 : decode cL_foresee 22 = .ok (.ireturn, 1) := by decide +kernel
set_option maxRecDepth 20000 in
theorem ggL_ready_X7_ready : GoodIn wsL_ready wsX7_ready := goodIn_ca (goodIn_r _ [6, 7, 8, 9, 10, 11, 5, 12, 13, 14, 15, 16, 17, 18, 19, 20, 21, 22, 23, 24, 25, 26, 27, 28, 29, 30, 31, 32, 33, 34, 35, 36, 37, 38, 39, 40, 41, 42, 43, 44, 45, 46, 47, 48, 49, 50, 51, 52, 53, 54, 55, 56, 57, 58, 59, 60, 61] (by decide +kernel) (by decide +kernel)) (goodIn_sub (fun _ h => List.mem_cons_of_mem _ (List.mem_append_right _ h)) (by decide +kernel))
set_option maxRecDepth 20000 in
theorem gL_ready_X7_ready : GoodIn wsL_ready (wsV RL 75 RX7 yX7_ready wsX7_ready) := goodIn_app (goodIn_of _ (by decide +kernel)) ggL_ready_X7_ready
theorem dL_ready_0 : decode cL_ready 0 = .ok (.aload_n 2, 1) := by decide +kernel
theorem dL_ready_1 : decode cL_ready 1 = .ok (.iconst 0, 1) := by decide +kernel
theorem dL_ready_2 : decode cL_ready 2 = .ok (.aload_n 0, 1) := by decide +kernel
theorem dL_ready_3 : decode cL_ready 3 = .ok (.iload_n 1, 1) := by decide +kernel
theorem dL_ready_4 : decode cL_ready 4 = .ok (.invokevirtual 75, 3) := by decide +kernel
theorem dL_ready_7 : decode cL_ready 7 = .ok (.i2l, 1) := by decide +kernel
theorem dL_ready_8 : decode cL_ready 8 = .ok (.lastore, 1) := by decide +kernel
theorem dL_ready_9 : decode cL_ready 9 = .ok (.goto 6, 3) := by decide +kernel
theorem dL_ready_12 : decode cL_ready 12 = .ok (.astore_n 3, 1) := by decide +kernel
theorem dL_ready_13 : decode cL_ready 13 = .ok (.iconst 1, 1) := by decide +kernel
theorem dL_ready_14 : decode cL_ready 14 = .ok (.ireturn, 1) := by decide +kernel
theorem dL_ready_15 : decode cL_ready 15 = .ok (.iconst 0, 1) := by decide +kernel
theorem dL_ready_16 : decode cL_ready 16 = .ok (.ireturn, 1) := by decide +kernel
set_option maxRecDepth 20000 in
theorem ggL_caught_X7_caught : GoodIn wsL_caught wsX7_caught := goodIn_ca (goodIn_ca (goodIn_ca (goodIn_r _ [8, 9, 10, 11, 12, 13, 14, 15, 7, 16, 17, 18, 19, 20, 21, 22, 23, 24, 25, 26, 27, 28, 29, 30, 31, 32, 33, 34, 35, 36, 37, 38, 39, 40, 41, 42, 43, 44, 45, 46, 47, 48, 49, 50, 51, 52, 53, 54, 55, 56, 57, 58] (by decide +kernel) (by decide +kernel)) (goodIn_sub (fun _ h => List.mem_cons_of_mem _ (List.mem_append_left _ (List.mem_append_left _ (List.mem_append_right _ h)))) (by decide +kernel))) (goodIn_sub (fun _ h => List.mem_cons_of_mem _ (List.mem_append_left _ (List.mem_append_right _ h))) (by decide +kernel))) (goodIn_sub (fun _ h => List.mem_cons_of_mem _ (List.mem_append_right _ h)) (by decide +kernel))
set_option maxRecDepth 20000 in
theorem gL_caught_X7_caught : GoodIn wsL_caught (wsV RL 78 RX7 yX7_caught wsX7_caught) := goodIn_app (goodIn_of _ (by decide +kernel)) ggL_caught_X7_caught
theorem dL_caught_0 : decode cL_caught 0 = .ok (.aload_n 3, 1) := by decide +kernel
theorem dL_caught_1 : decode cL_caught 1 = .ok (.iconst 0, 1) := by decide +kernel
theorem dL_caught_2 : decode cL_caught 2 = .ok (.aload_n 0, 1) := by decide +kernel
theorem dL_caught_3 : decode cL_caught 3 = .ok (.iload_n 1, 1) := by decide +kernel
theorem dL_caught_4 : decode cL_caught 4 = .ok (.iload_n 2, 1) := by decide +kernel
theorem dL_caught_5 : decode cL_caught 5 = .ok (.invokevirtual 78, 3) := by decide +kernel
theorem dL_caught_8 : decode cL_caught 8 = .ok (.ifCond .eq 7, 3) := by decide +kernel
theorem dL_caught_11 : decode cL_caught 11 = .ok (.lconst 1, 1) := by decide +kernel
theorem dL_caught_12 : decode cL_caught 12 = .ok (.goto 4, 3) := by decide +kernel
theorem dL_caught_15 : decode cL_caught 15 = .ok (.lconst 0, 1) := by decide +kernel
theorem dL_caught_16 : decode cL_caught 16 = .ok (.lastore, 1) := by decide +kernel
theorem dL_caught_17 : decode cL_caught 17 = .ok (.goto 15, 3) := by decide +kernel
theorem dL_caught_20 : decode cL_caught 20 = .ok (.astore 4, 2) := by decide +kernel
theorem dL_caught_22 : decode cL_caught 22 = .ok (.iconst 1, 1) := by decide +kernel
theorem dL_caught_23 : decode cL_caught 23 = .ok (.ireturn, 1) := by decide +kernel
theorem dL_caught_24 : decode cL_caught 24 = .ok (.astore 4, 2) := by decide +kernel
theorem dL_caught_26 : decode cL_caught 26 = .ok (.iconst 2, 1) := by decide +kernel
theorem dL_caught_27 : decode cL_caught 27 = .ok (.ireturn, 1) := by decide +kernel
theorem dL_caught_28 : decode cL_caught 28 = .ok (.astore 4, 2) := by decide +kernel
theorem dL_caught_30 : decode cL_caught 30 = .ok (.iconst 3, 1) := by decide +kernel
theorem dL_caught_31 : decode cL_caught 31 = .ok (.ireturn, 1) := by decide +kernel
theorem dL_caught_32 : decode cL_caught 32 = .ok (.iconst 0, 1) := by decide +kernel
theorem dL_caught_33 : decode cL_caught 33 = .ok (.ireturn, 1) := by decide +kernel
set_option maxRecDepth 20000 in
theorem ggL_advise_X7_advise : GoodIn wsL_advise wsX7_advise := goodIn_ca (goodIn_r _ [6, 7, 8, 9, 10, 11, 12, 5, 13, 14, 15, 16, 17, 18, 19, 20, 21, 22, 23, 24, 25, 26, 27, 28, 29, 30, 31, 32, 33, 34, 35, 36, 37, 38, 39, 40, 41, 42, 43, 44, 45, 46, 47, 48, 49, 50, 51, 52, 53, 54, 55, 56, 57, 58, 59, 60, 61, 62, 63, 64, 65, 66, 67, 68, 69, 70, 71, 72, 73, 74, 75, 76, 77, 78, 79, 80, 81, 82, 83, 84, 85, 86, 87, 88, 89, 90, 91, 92, 93, 94, 95, 96, 97, 98, 99, 100, 101, 102, 103, 104, 105, 106, 107, 108, 109, 110, 111, 112, 113, 114, 115, 116, 117, 118, 119, 120, 121, 122, 123, 124, 125, 126, 127, 128, 129, 130, 131, 132, 133, 134, 135, 136, 137, 138, 139, 140, 141, 142, 143, 144, 145, 146, 147, 148, 149, 150, 151, 152, 153, 154, 155, 156, 157, 158, 159, 160, 161, 162, 163, 164, 165, 166, 167, 168, 169, 170, 171, 172, 173, 174, 175, 176, 177, 178, 179, 180, 181, 182, 183, 184, 185, 186, 187, 188, 189, 190, 191, 192, 193, 194, 195, 196, 197, 198, 199, 200, 201] (by decide +kernel) (by decide +kernel)) (goodIn_sub (fun _ h => List.mem_cons_of_mem _ (List.mem_append_right _ h)) (by decide +kernel))
set_option maxRecDepth 20000 in
theorem gL_advise_X7_advise : GoodIn wsL_advise (wsV RL 82 RX7 yX7_advise wsX7_advise) := goodIn_app (goodIn_of _ (by decide +kernel)) ggL_advise_X7_advise
theorem dL_advise_0 : decode cL_advise 0 = .ok (.aload_n 2, 1) := by decide +kernel
theorem dL_advise_1 : decode cL_advise 1 = .ok (.iconst 0, 1) := by decide +kernel
theorem dL_advise_2 : decode cL_advise 2 = .ok (.aload_n 0, 1) := by decide +kernel
theorem dL_advise_3 : decode cL_advise 3 = .ok (.iload_n 1, 1) := by decide +kernel
theorem dL_advise_4 : decode cL_advise 4 = .ok (.invokevirtual 82, 3) := by decide +kernel
theorem dL_advise_7 : decode cL_advise 7 = .ok (.i2l, 1) := by decide +kernel
theorem dL_advise_8 : decode cL_advise 8 = .ok (.lastore, 1) := by decide +kernel
theorem dL_advise_9 : decode cL_advise 9 = .ok (.goto 6, 3) := by decide +kernel
theorem dL_advise_12 : decode cL_advise 12 = .ok (.astore_n 3, 1) := by decide +kernel
theorem dL_advise_13 : decode cL_advise 13 = .ok (.iconst 1, 1) := by decide +kernel
theorem dL_advise_14 : decode cL_advise 14 = .ok (.ireturn, 1) := by decide +kernel
theorem dL_advise_15 : decode cL_advise 15 = .ok (.iconst 0, 1) := by decide +kernel
theorem dL_advise_16 : decode cL_advise 16 = .ok (.ireturn, 1) := by decide +kernel
