set_option maxRecDepth 20000 in
theorem ggX7_init_X6_init : GoodIn wsX7_init wsX6_init := goodIn_r _ [11, 12, 13, 14, 15, 16, 17, 18, 19, 20, 21, 22, 23, 24, 25, 26, 27, 28, 29, 30, 31, 32, 33, 34, 35, 2, 3, 36, 37, 38, 39, 40, 41, 42, 43, 44, 45, 46, 47, 48, 49, 50, 51, 52, 53, 54, 55, 56, 57, 58, 59, 62, 63, 64, 65, 66, 67, 68, 69, 70, 71, 72, 73, 74, 75, 76, 77, 78, 79, 80, 81, 82, 83, 84, 85, 86] (by decide +kernel) (by decide +kernel)
set_option maxRecDepth 20000 in
theorem gX7_init_X6_init : GoodIn wsX7_init (wsX6_init) := ggX7_init_X6_init
theorem dX7_init_0 : decode cX7_init 0 = .ok (.aload_n 0, 1) := by decide +kernel
theorem dX7_init_1 : decode cX7_init 1 = .ok (.invokespecial 1, 3) := by decide +kernel
theorem dX7_init_4 : decode cX7_init 4 = .ok (.aload_n 0, 1) := by decide +kernel
theorem dX7_init_5 : decode cX7_init 5 = .ok (.new 7, 3) := by decide +kernel
theorem dX7_init_8 : decode cX7_init 8 = .ok (.dup, 1) := by decide +kernel
theorem dX7_init_9 : decode cX7_init 9 = .ok (.invokespecial 9, 3) := by decide +kernel
theorem dX7_init_12 : decode cX7_init 12 = .ok (.putfield 10, 3) := by decide +kernel
theorem dX7_init_15 : decode cX7_init 15 = .ok (.aload_n 0, 1) := by decide +kernel
theorem dX7_init_16 : decode cX7_init 16 = .ok (.new 7, 3) := by decide +kernel
theorem dX7_init_19 : decode cX7_init 19 = .ok (.dup, 1) := by decide +kernel
theorem dX7_init_20 : decode cX7_init 20 = .ok (.invokespecial 9, 3) := by decide +kernel
theorem dX7_init_23 : decode cX7_init 23 = .ok (.putfield 16, 3) := by decide +kernel
theorem dX7_init_26 : decode cX7_init 26 = .ok (.return_, 1) := by decide +kernel
set_option maxRecDepth 20000 in
theorem ggX7_bed_X7_checkNumber : GoodIn wsX7_bed wsX7_checkNumber := goodIn_ca (goodIn_r _ [7, 8, 9] (by decide +kernel) (by decide +kernel)) (goodIn_sub (fun _ h => List.mem_cons_of_mem _ (List.mem_append_left _ (List.mem_append_right _ h))) (by decide +kernel))
set_option maxRecDepth 20000 in
theorem gX7_bed_X7_checkNumber : GoodIn wsX7_bed (va_wsS RX7 19 yX7_checkNumber wsX7_checkNumber) := goodIn_app (goodIn_of _ (by decide +kernel)) ggX7_bed_X7_checkNumber
set_option maxRecDepth 20000 in
theorem ggX7_bed_X7_checkState : GoodIn wsX7_bed wsX7_checkState := goodIn_ca (goodIn_r _ [12, 13, 14] (by decide +kernel) (by decide +kernel)) (goodIn_sub (fun _ h => List.mem_cons_of_mem _ (List.mem_append_right _ h)) (by decide +kernel))
set_option maxRecDepth 20000 in
theorem gX7_bed_X7_checkState : GoodIn wsX7_bed (va_wsS RX7 27 yX7_checkState wsX7_checkState) := goodIn_app (goodIn_of _ (by decide +kernel)) ggX7_bed_X7_checkState
set_option maxRecDepth 20000 in
theorem ggX7_bed_X0_lay : GoodIn wsX7_bed wsX0_lay := goodIn_r _ [19, 20, 21, 35, 36, 37] (by decide +kernel) (by decide +kernel)
set_option maxRecDepth 20000 in
theorem gX7_bed_X0_lay : GoodIn wsX7_bed (wsV RX7 35 RX0 yX0_lay wsX0_lay) := goodIn_app (goodIn_of _ (by decide +kernel)) ggX7_bed_X0_lay
theorem dX7_bed_0 : decode cX7_bed 0 = .ok (.iload_n 1, 1) := by decide +kernel
theorem dX7_bed_1 : decode cX7_bed 1 = .ok (.iconst 0, 1) := by decide +kernel
theorem dX7_bed_2 : decode cX7_bed 2 = .ok (.bipush 9, 2) := by decide +kernel
theorem dX7_bed_4 : decode cX7_bed 4 = .ok (.invokestatic 19, 3) := by decide +kernel
theorem dX7_bed_7 : decode cX7_bed 7 = .ok (.iload_n 2, 1) := by decide +kernel
theorem dX7_bed_8 : decode cX7_bed 8 = .ok (.iconst 1, 1) := by decide +kernel
theorem dX7_bed_9 : decode cX7_bed 9 = .ok (.bipush 99, 2) := by decide +kernel
theorem dX7_bed_11 : decode cX7_bed 11 = .ok (.invokestatic 19, 3) := by decide +kernel
theorem dX7_bed_14 : decode cX7_bed 14 = .ok (.aload_n 0, 1) := by decide +kernel
theorem dX7_bed_15 : decode cX7_bed 15 = .ok (.getfield 10, 3) := by decide +kernel
theorem dX7_bed_18 : decode cX7_bed 18 = .ok (.getfield 23, 3) := by decide +kernel
theorem dX7_bed_21 : decode cX7_bed 21 = .ok (.iconst 4, 1) := by decide +kernel
theorem dX7_bed_22 : decode cX7_bed 22 = .ok (.if_icmp .ge 7, 3) := by decide +kernel
theorem dX7_bed_25 : decode cX7_bed 25 = .ok (.iconst 1, 1) := by decide +kernel
theorem dX7_bed_26 : decode cX7_bed 26 = .ok (.goto 4, 3) := by decide +kernel
theorem dX7_bed_29 : decode cX7_bed 29 = .ok (.iconst 0, 1) := by decide +kernel
theorem dX7_bed_30 : decode cX7_bed 30 = .ok (.invokestatic 27, 3) := by decide +kernel
theorem dX7_bed_33 : decode cX7_bed 33 = .ok (.aload_n 0, 1) := by decide +kernel
theorem dX7_bed_34 : decode cX7_bed 34 = .ok (.getfield 10, 3) := by decide +kernel
theorem dX7_bed_37 : decode cX7_bed 37 = .ok (.getfield 31, 3) := by decide +kernel
theorem dX7_bed_40 : decode cX7_bed 40 = .ok (.aload_n 0, 1) := by decide +kernel
theorem dX7_bed_41 : decode cX7_bed 41 = .ok (.getfield 10, 3) := by decide +kernel
theorem dX7_bed_44 : decode cX7_bed 44 = .ok (.getfield 23, 3) := by decide +kernel
theorem dX7_bed_47 : decode cX7_bed 47 = .ok (.aaload, 1) := by decide +kernel
theorem dX7_bed_48 : decode cX7_bed 48 = .ok (.iload_n 1, 1) := by decide +kernel
theorem dX7_bed_49 : decode cX7_bed 49 = .ok (.iload_n 2, 1) := by decide +kernel
theorem dX7_bed_50 : decode cX7_bed 50 = .ok (.invokevirtual 35, 3) := by decide +kernel
theorem dX7_bed_53 : decode cX7_bed 53 = .ok (.aload_n 0, 1) := by decide +kernel
theorem dX7_bed_54 : decode cX7_bed 54 = .ok (.getfield 10, 3) := by decide +kernel
theorem dX7_bed_57 : decode cX7_bed 57 = .ok (.dup, 1) := by decide +kernel
theorem dX7_bed_58 : decode cX7_bed 58 = .ok (.getfield 23, 3) := by decide +kernel
theorem dX7_bed_61 : decode cX7_bed 61 = .ok (.dup_x1, 1) := by decide +kernel
theorem dX7_bed_62 : decode cX7_bed 62 = .ok (.iconst 1, 1) := by decide +kernel
theorem dX7_bed_63 : decode cX7_bed 63 = .ok (.iadd, 1) := by decide +kernel
theorem dX7_bed_64 : decode cX7_bed 64 = .ok (.putfield 23, 3) := by decide +kernel
theorem dX7_bed_67 : decode cX7_bed 67 = .ok (.ireturn, 1) := by decide +kernel
set_option maxRecDepth 20000 in
theorem ggX7_drum_X7_checkNumber : GoodIn wsX7_drum wsX7_checkNumber := goodIn_ca (goodIn_r _ [7, 8, 9] (by decide +kernel) (by decide +kernel)) (goodIn_sub (fun _ h => List.mem_cons_of_mem _ (List.mem_append_left _ (List.mem_append_right _ h))) (by decide +kernel))
set_option maxRecDepth 20000 in
theorem gX7_drum_X7_checkNumber : GoodIn wsX7_drum (va_wsS RX7 19 yX7_checkNumber wsX7_checkNumber) := goodIn_app (goodIn_of _ (by decide +kernel)) ggX7_drum_X7_checkNumber
set_option maxRecDepth 20000 in
theorem ggX7_drum_X7_checkState : GoodIn wsX7_drum wsX7_checkState := goodIn_ca (goodIn_r _ [12, 13, 14] (by decide +kernel) (by decide +kernel)) (goodIn_sub (fun _ h => List.mem_cons_of_mem _ (List.mem_append_right _ h)) (by decide +kernel))
set_option maxRecDepth 20000 in
theorem gX7_drum_X7_checkState : GoodIn wsX7_drum (va_wsS RX7 27 yX7_checkState wsX7_checkState) := goodIn_app (goodIn_of _ (by decide +kernel)) ggX7_drum_X7_checkState
set_option maxRecDepth 20000 in
theorem ggX7_drum_X2_install : GoodIn wsX7_drum wsX2_install := goodIn_r _ [19, 20, 21, 35, 36, 37, 38, 39] (by decide +kernel) (by decide +kernel)
set_option maxRecDepth 20000 in
theorem gX7_drum_X2_install : GoodIn wsX7_drum (wsV RX7 48 RX2 yX2_install wsX2_install) := goodIn_app (goodIn_of _ (by decide +kernel)) ggX7_drum_X2_install
theorem dX7_drum_0 : decode cX7_drum 0 = .ok (.iload_n 1, 1) := by decide +kernel
theorem dX7_drum_1 : decode cX7_drum 1 = .ok (.iconst 1, 1) := by decide +kernel
theorem dX7_drum_2 : decode cX7_drum 2 = .ok (.bipush 40, 2) := by decide +kernel
theorem dX7_drum_4 : decode cX7_drum 4 = .ok (.invokestatic 19, 3) := by decide +kernel
theorem dX7_drum_7 : decode cX7_drum 7 = .ok (.iload_n 2, 1) := by decide +kernel
theorem dX7_drum_8 : decode cX7_drum 8 = .ok (.iconst 0, 1) := by decide +kernel
theorem dX7_drum_9 : decode cX7_drum 9 = .ok (.bipush 9, 2) := by decide +kernel
theorem dX7_drum_11 : decode cX7_drum 11 = .ok (.invokestatic 19, 3) := by decide +kernel
theorem dX7_drum_14 : decode cX7_drum 14 = .ok (.aload_n 0, 1) := by decide +kernel
theorem dX7_drum_15 : decode cX7_drum 15 = .ok (.getfield 10, 3) := by decide +kernel
theorem dX7_drum_18 : decode cX7_drum 18 = .ok (.getfield 41, 3) := by decide +kernel
theorem dX7_drum_21 : decode cX7_drum 21 = .ok (.iconst 4, 1) := by decide +kernel
theorem dX7_drum_22 : decode cX7_drum 22 = .ok (.if_icmp .ge 7, 3) := by decide +kernel
theorem dX7_drum_25 : decode cX7_drum 25 = .ok (.iconst 1, 1) := by decide +kernel
theorem dX7_drum_26 : decode cX7_drum 26 = .ok (.goto 4, 3) := by decide +kernel
theorem dX7_drum_29 : decode cX7_drum 29 = .ok (.iconst 0, 1) := by decide +kernel
theorem dX7_drum_30 : decode cX7_drum 30 = .ok (.invokestatic 27, 3) := by decide +kernel
theorem dX7_drum_33 : decode cX7_drum 33 = .ok (.aload_n 0, 1) := by decide +kernel
theorem dX7_drum_34 : decode cX7_drum 34 = .ok (.getfield 10, 3) := by decide +kernel
theorem dX7_drum_37 : decode cX7_drum 37 = .ok (.getfield 44, 3) := by decide +kernel
theorem dX7_drum_40 : decode cX7_drum 40 = .ok (.aload_n 0, 1) := by decide +kernel
theorem dX7_drum_41 : decode cX7_drum 41 = .ok (.getfield 10, 3) := by decide +kernel
theorem dX7_drum_44 : decode cX7_drum 44 = .ok (.getfield 41, 3) := by decide +kernel
theorem dX7_drum_47 : decode cX7_drum 47 = .ok (.aaload, 1) := by decide +kernel
theorem dX7_drum_48 : decode cX7_drum 48 = .ok (.iload_n 1, 1) := by decide +kernel
theorem dX7_drum_49 : decode cX7_drum 49 = .ok (.iload_n 2, 1) := by decide +kernel
theorem dX7_drum_50 : decode cX7_drum 50 = .ok (.invokevirtual 48, 3) := by decide +kernel
theorem dX7_drum_53 : decode cX7_drum 53 = .ok (.aload_n 0, 1) := by decide +kernel
theorem dX7_drum_54 : decode cX7_drum 54 = .ok (.getfield 10, 3) := by decide +kernel
theorem dX7_drum_57 : decode cX7_drum 57 = .ok (.dup, 1) := by decide +kernel
theorem dX7_drum_58 : decode cX7_drum 58 = .ok (.getfield 41, 3) := by decide +kernel
theorem dX7_drum_61 : decode cX7_drum 61 = .ok (.dup_x1, 1) := by decide +kernel
theorem dX7_drum_62 : decode cX7_drum 62 = .ok (.iconst 1, 1) := by decide +kernel
theorem dX7_drum_63 : decode cX7_drum 63 = .ok (.iadd, 1) := by decide +kernel
theorem dX7_drum_64 : decode cX7_drum 64 = .ok (.putfield 41, 3) := by decide +kernel
theorem dX7_drum_67 : decode cX7_drum 67 = .ok (.ireturn, 1) := by decide +kernel
set_option maxRecDepth 20000 in
theorem ggX7_smuggler_X7_checkNumber : GoodIn wsX7_smuggler wsX7_checkNumber := goodIn_ca (goodIn_r _ [7, 8, 9] (by decide +kernel) (by decide +kernel)) (goodIn_sub (fun _ h => List.mem_cons_of_mem _ (List.mem_append_left _ (List.mem_append_right _ h))) (by decide +kernel))
set_option maxRecDepth 20000 in
theorem gX7_smuggler_X7_checkNumber : GoodIn wsX7_smuggler (va_wsS RX7 19 yX7_checkNumber wsX7_checkNumber) := goodIn_app (goodIn_of _ (by decide +kernel)) ggX7_smuggler_X7_checkNumber
set_option maxRecDepth 20000 in
theorem ggX7_smuggler_X7_checkState : GoodIn wsX7_smuggler wsX7_checkState := goodIn_ca (goodIn_r _ [12, 13, 14] (by decide +kernel) (by decide +kernel)) (goodIn_sub (fun _ h => List.mem_cons_of_mem _ (List.mem_append_right _ h)) (by decide +kernel))
set_option maxRecDepth 20000 in
theorem gX7_smuggler_X7_checkState : GoodIn wsX7_smuggler (va_wsS RX7 27 yX7_checkState wsX7_checkState) := goodIn_app (goodIn_of _ (by decide +kernel)) ggX7_smuggler_X7_checkState
set_option maxRecDepth 20000 in
theorem ggX7_smuggler_X3_hire : GoodIn wsX7_smuggler wsX3_hire := goodIn_r _ [19, 20, 21, 35, 36, 37, 38, 39] (by decide +kernel) (by decide +kernel)
set_option maxRecDepth 20000 in
theorem gX7_smuggler_X3_hire : GoodIn wsX7_smuggler (wsV RX7 60 RX3 yX3_hire wsX3_hire) := goodIn_app (goodIn_of _ (by decide +kernel)) ggX7_smuggler_X3_hire
theorem dX7_smuggler_0 : decode cX7_smuggler 0 = .ok (.iload_n 1, 1) := by decide +kernel
theorem dX7_smuggler_1 : decode cX7_smuggler 1 = .ok (.iconst 2, 1) := by decide +kernel
theorem dX7_smuggler_2 : decode cX7_smuggler 2 = .ok (.bipush 14, 2) := by decide +kernel
theorem dX7_smuggler_4 : decode cX7_smuggler 4 = .ok (.invokestatic 19, 3) := by decide +kernel
theorem dX7_smuggler_7 : decode cX7_smuggler 7 = .ok (.iload_n 2, 1) := by decide +kernel
theorem dX7_smuggler_8 : decode cX7_smuggler 8 = .ok (.iconst 1, 1) := by decide +kernel
theorem dX7_smuggler_9 : decode cX7_smuggler 9 = .ok (.bipush 30, 2) := by decide +kernel
theorem dX7_smuggler_11 : decode cX7_smuggler 11 = .ok (.invokestatic 19, 3) := by decide +kernel
theorem dX7_smuggler_14 : decode cX7_smuggler 14 = .ok (.aload_n 0, 1) := by decide +kernel
theorem dX7_smuggler_15 : decode cX7_smuggler 15 = .ok (.getfield 10, 3) := by decide +kernel
theorem dX7_smuggler_18 : decode cX7_smuggler 18 = .ok (.getfield 53, 3) := by decide +kernel
theorem dX7_smuggler_21 : decode cX7_smuggler 21 = .ok (.iconst 4, 1) := by decide +kernel
theorem dX7_smuggler_22 : decode cX7_smuggler 22 = .ok (.if_icmp .ge 7, 3) := by decide +kernel
theorem dX7_smuggler_25 : decode cX7_smuggler 25 = .ok (.iconst 1, 1) := by decide +kernel
theorem dX7_smuggler_26 : decode cX7_smuggler 26 = .ok (.goto 4, 3) := by decide +kernel
theorem dX7_smuggler_29 : decode cX7_smuggler 29 = .ok (.iconst 0, 1) := by decide +kernel
theorem dX7_smuggler_30 : decode cX7_smuggler 30 = .ok (.invokestatic 27, 3) := by decide +kernel
theorem dX7_smuggler_33 : decode cX7_smuggler 33 = .ok (.aload_n 0, 1) := by decide +kernel
theorem dX7_smuggler_34 : decode cX7_smuggler 34 = .ok (.getfield 10, 3) := by decide +kernel
theorem dX7_smuggler_37 : decode cX7_smuggler 37 = .ok (.getfield 56, 3) := by decide +kernel
theorem dX7_smuggler_40 : decode cX7_smuggler 40 = .ok (.aload_n 0, 1) := by decide +kernel
theorem dX7_smuggler_41 : decode cX7_smuggler 41 = .ok (.getfield 10, 3) := by decide +kernel
theorem dX7_smuggler_44 : decode cX7_smuggler 44 = .ok (.getfield 53, 3) := by decide +kernel
theorem dX7_smuggler_47 : decode cX7_smuggler 47 = .ok (.aaload, 1) := by decide +kernel
theorem dX7_smuggler_48 : decode cX7_smuggler 48 = .ok (.iload_n 1, 1) := by decide +kernel
theorem dX7_smuggler_49 : decode cX7_smuggler 49 = .ok (.iload_n 2, 1) := by decide +kernel
theorem dX7_smuggler_50 : decode cX7_smuggler 50 = .ok (.invokevirtual 60, 3) := by decide +kernel
theorem dX7_smuggler_53 : decode cX7_smuggler 53 = .ok (.aload_n 0, 1) := by decide +kernel
theorem dX7_smuggler_54 : decode cX7_smuggler 54 = .ok (.getfield 10, 3) := by decide +kernel
theorem dX7_smuggler_57 : decode cX7_smuggler 57 = .ok (.dup, 1) := by decide +kernel
theorem dX7_smuggler_58 : decode cX7_smuggler 58 = .ok (.getfield 53, 3) := by decide +kernel
theorem dX7_smuggler_61 : decode cX7_smuggler 61 = .ok (.dup_x1, 1) := by decide +kernel
theorem dX7_smuggler_62 : decode cX7_smuggler 62 = .ok (.iconst 1, 1) := by decide +kernel
theorem dX7_smuggler_63 : decode cX7_smuggler 63 = .ok (.iadd, 1) := by decide +kernel
theorem dX7_smuggler_64 : decode cX7_smuggler 64 = .ok (.putfield 53, 3) := by decide +kernel
theorem dX7_smuggler_67 : decode cX7_smuggler 67 = .ok (.ireturn, 1) := by decide +kernel
set_option maxRecDepth 20000 in
theorem ggX7_card_X7_checkNumber : GoodIn wsX7_card wsX7_checkNumber := goodIn_ca (goodIn_r _ [7, 8, 9] (by decide +kernel) (by decide +kernel)) (goodIn_sub (fun _ h => List.mem_cons_of_mem _ (List.mem_append_left _ (List.mem_append_right _ h))) (by decide +kernel))
set_option maxRecDepth 20000 in
theorem gX7_card_X7_checkNumber : GoodIn wsX7_card (va_wsS RX7 19 yX7_checkNumber wsX7_checkNumber) := goodIn_app (goodIn_of _ (by decide +kernel)) ggX7_card_X7_checkNumber
set_option maxRecDepth 20000 in
theorem ggX7_card_X7_checkState : GoodIn wsX7_card wsX7_checkState := goodIn_ca (goodIn_r _ [12, 13, 14] (by decide +kernel) (by decide +kernel)) (goodIn_sub (fun _ h => List.mem_cons_of_mem _ (List.mem_append_right _ h)) (by decide +kernel))
set_option maxRecDepth 20000 in
theorem gX7_card_X7_checkState : GoodIn wsX7_card (va_wsS RX7 27 yX7_checkState wsX7_checkState) := goodIn_app (goodIn_of _ (by decide +kernel)) ggX7_card_X7_checkState
set_option maxRecDepth 20000 in
theorem ggX7_card_X1_issue : GoodIn wsX7_card wsX1_issue := goodIn_r _ [19, 20, 21, 22, 36, 37, 38, 39, 40] (by decide +kernel) (by decide +kernel)
set_option maxRecDepth 20000 in
theorem gX7_card_X1_issue : GoodIn wsX7_card (wsV RX7 72 RX1 yX1_issue wsX1_issue) := goodIn_app (goodIn_of _ (by decide +kernel)) ggX7_card_X1_issue
theorem dX7_card_0 : decode cX7_card 0 = .ok (.iload_n 1, 1) := by decide +kernel
theorem dX7_card_1 : decode cX7_card 1 = .ok (.iconst 1, 1) := by decide +kernel
theorem dX7_card_2 : decode cX7_card 2 = .ok (.bipush 9, 2) := by decide +kernel
theorem dX7_card_4 : decode cX7_card 4 = .ok (.invokestatic 19, 3) := by decide +kernel
theorem dX7_card_7 : decode cX7_card 7 = .ok (.iload_n 2, 1) := by decide +kernel
theorem dX7_card_8 : decode cX7_card 8 = .ok (.iconst 0, 1) := by decide +kernel
theorem dX7_card_9 : decode cX7_card 9 = .ok (.bipush 10, 2) := by decide +kernel
theorem dX7_card_11 : decode cX7_card 11 = .ok (.invokestatic 19, 3) := by decide +kernel
theorem dX7_card_14 : decode cX7_card 14 = .ok (.aload_n 0, 1) := by decide +kernel
theorem dX7_card_15 : decode cX7_card 15 = .ok (.getfield 10, 3) := by decide +kernel
theorem dX7_card_18 : decode cX7_card 18 = .ok (.getfield 65, 3) := by decide +kernel
theorem dX7_card_21 : decode cX7_card 21 = .ok (.bipush 10, 2) := by decide +kernel
theorem dX7_card_23 : decode cX7_card 23 = .ok (.if_icmp .ge 7, 3) := by decide +kernel
theorem dX7_card_26 : decode cX7_card 26 = .ok (.iconst 1, 1) := by decide +kernel
theorem dX7_card_27 : decode cX7_card 27 = .ok (.goto 4, 3) := by decide +kernel
theorem dX7_card_30 : decode cX7_card 30 = .ok (.iconst 0, 1) := by decide +kernel
theorem dX7_card_31 : decode cX7_card 31 = .ok (.invokestatic 27, 3) := by decide +kernel
theorem dX7_card_34 : decode cX7_card 34 = .ok (.aload_n 0, 1) := by decide +kernel
theorem dX7_card_35 : decode cX7_card 35 = .ok (.getfield 10, 3) := by decide +kernel
theorem dX7_card_38 : decode cX7_card 38 = .ok (.getfield 68, 3) := by decide +kernel
theorem dX7_card_41 : decode cX7_card 41 = .ok (.aload_n 0, 1) := by decide +kernel
theorem dX7_card_42 : decode cX7_card 42 = .ok (.getfield 10, 3) := by decide +kernel
theorem dX7_card_45 : decode cX7_card 45 = .ok (.getfield 65, 3) := by decide +kernel
theorem dX7_card_48 : decode cX7_card 48 = .ok (.aaload, 1) := by decide +kernel
theorem dX7_card_49 : decode cX7_card 49 = .ok (.iload_n 1, 1) := by decide +kernel
theorem dX7_card_50 : decode cX7_card 50 = .ok (.iload_n 2, 1) := by decide +kernel
theorem dX7_card_51 : decode cX7_card 51 = .ok (.invokevirtual 72, 3) := by decide +kernel
theorem dX7_card_54 : decode cX7_card 54 = .ok (.aload_n 0, 1) := by decide +kernel
theorem dX7_card_55 : decode cX7_card 55 = .ok (.getfield 10, 3) := by decide +kernel
theorem dX7_card_58 : decode cX7_card 58 = .ok (.dup, 1) := by decide +kernel
theorem dX7_card_59 : decode cX7_card 59 = .ok (.getfield 65, 3) := by decide +kernel
theorem dX7_card_62 : decode cX7_card 62 = .ok (.dup_x1, 1) := by decide +kernel
theorem dX7_card_63 : decode cX7_card 63 = .ok (.iconst 1, 1) := by decide +kernel
theorem dX7_card_64 : decode cX7_card 64 = .ok (.iadd, 1) := by decide +kernel
theorem dX7_card_65 : decode cX7_card 65 = .ok (.putfield 65, 3) := by decide +kernel
theorem dX7_card_68 : decode cX7_card 68 = .ok (.ireturn, 1) := by decide +kernel
set_option maxRecDepth 20000 in
theorem ggX7_setPatrol_X7_checkNumber : GoodIn wsX7_setPatrol wsX7_checkNumber := goodIn_ca (goodIn_r _ [6, 7, 8] (by decide +kernel) (by decide +kernel)) (goodIn_sub (fun _ h => List.mem_cons_of_mem _ (List.mem_append_right _ h)) (by decide +kernel))
set_option maxRecDepth 20000 in
theorem gX7_setPatrol_X7_checkNumber : GoodIn wsX7_setPatrol (va_wsS RX7 19 yX7_checkNumber wsX7_checkNumber) := goodIn_app (goodIn_of _ (by decide +kernel)) ggX7_setPatrol_X7_checkNumber
theorem dX7_setPatrol_0 : decode cX7_setPatrol 0 = .ok (.iload_n 1, 1) := by decide +kernel
theorem dX7_setPatrol_1 : decode cX7_setPatrol 1 = .ok (.iconst 0, 1) := by decide +kernel
theorem dX7_setPatrol_2 : decode cX7_setPatrol 2 = .ok (.bipush 127, 2) := by decide +kernel
theorem dX7_setPatrol_4 : decode cX7_setPatrol 4 = .ok (.invokestatic 19, 3) := by decide +kernel
theorem dX7_setPatrol_7 : decode cX7_setPatrol 7 = .ok (.aload_n 0, 1) := by decide +kernel
theorem dX7_setPatrol_8 : decode cX7_setPatrol 8 = .ok (.getfield 10, 3) := by decide +kernel
theorem dX7_setPatrol_11 : decode cX7_setPatrol 11 = .ok (.getfield 77, 3) := by decide +kernel
theorem dX7_setPatrol_14 : decode cX7_setPatrol 14 = .ok (.istore_n 2, 1) := by decide +kernel
theorem dX7_setPatrol_15 : decode cX7_setPatrol 15 = .ok (.aload_n 0, 1) := by decide +kernel
theorem dX7_setPatrol_16 : decode cX7_setPatrol 16 = .ok (.getfield 10, 3) := by decide +kernel
theorem dX7_setPatrol_19 : decode cX7_setPatrol 19 = .ok (.iload_n 1, 1) := by decide +kernel
theorem dX7_setPatrol_20 : decode cX7_setPatrol 20 = .ok (.putfield 77, 3) := by decide +kernel
theorem dX7_setPatrol_23 : decode cX7_setPatrol 23 = .ok (.iload_n 2, 1) := by decide +kernel
theorem dX7_setPatrol_24 : decode cX7_setPatrol 24 = .ok (.ireturn, 1) := by decide +kernel
set_option maxRecDepth 20000 in
theorem ggX7_setShare_X7_checkNumber : GoodIn wsX7_setShare wsX7_checkNumber := goodIn_ca (goodIn_r _ [7, 8, 9] (by decide +kernel) (by decide +kernel)) (goodIn_sub (fun _ h => List.mem_cons_of_mem _ (List.mem_append_right _ h)) (by decide +kernel))
set_option maxRecDepth 20000 in
theorem gX7_setShare_X7_checkNumber : GoodIn wsX7_setShare (va_wsS RX7 19 yX7_checkNumber wsX7_checkNumber) := goodIn_app (goodIn_of _ (by decide +kernel)) ggX7_setShare_X7_checkNumber
theorem dX7_setShare_0 : decode cX7_setShare 0 = .ok (.iload_n 1, 1) := by decide +kernel
theorem dX7_setShare_1 : decode cX7_setShare 1 = .ok (.iconst 0, 1) := by decide +kernel
theorem dX7_setShare_2 : decode cX7_setShare 2 = .ok (.bipush 10, 2) := by decide +kernel
theorem dX7_setShare_4 : decode cX7_setShare 4 = .ok (.invokestatic 19, 3) := by decide +kernel
theorem dX7_setShare_7 : decode cX7_setShare 7 = .ok (.aload_n 0, 1) := by decide +kernel
theorem dX7_setShare_8 : decode cX7_setShare 8 = .ok (.getfield 10, 3) := by decide +kernel
theorem dX7_setShare_11 : decode cX7_setShare 11 = .ok (.getfield 80, 3) := by decide +kernel
theorem dX7_setShare_14 : decode cX7_setShare 14 = .ok (.getfield 84, 3) := by decide +kernel
theorem dX7_setShare_17 : decode cX7_setShare 17 = .ok (.istore_n 2, 1) := by decide +kernel
theorem dX7_setShare_18 : decode cX7_setShare 18 = .ok (.aload_n 0, 1) := by decide +kernel
theorem dX7_setShare_19 : decode cX7_setShare 19 = .ok (.getfield 10, 3) := by decide +kernel
theorem dX7_setShare_22 : decode cX7_setShare 22 = .ok (.getfield 80, 3) := by decide +kernel
theorem dX7_setShare_25 : decode cX7_setShare 25 = .ok (.iload_n 1, 1) := by decide +kernel
theorem dX7_setShare_26 : decode cX7_setShare 26 = .ok (.putfield 84, 3) := by decide +kernel
theorem dX7_setShare_29 : decode cX7_setShare 29 = .ok (.iload_n 2, 1) := by decide +kernel
theorem dX7_setShare_30 : decode cX7_setShare 30 = .ok (.ireturn, 1) := by decide +kernel
set_option maxRecDepth 20000 in
theorem ggX7_setHeat_X7_checkIndex : GoodIn wsX7_setHeat wsX7_checkIndex := goodIn_ca (goodIn_r _ [8, 9, 10] (by decide +kernel) (by decide +kernel)) (goodIn_sub (fun _ h => List.mem_cons_of_mem _ (List.mem_append_left _ (List.mem_append_right _ h))) (by decide +kernel))
set_option maxRecDepth 20000 in
theorem gX7_setHeat_X7_checkIndex : GoodIn wsX7_setHeat (va_wsS RX7 89 yX7_checkIndex wsX7_checkIndex) := goodIn_app (goodIn_of _ (by decide +kernel)) ggX7_setHeat_X7_checkIndex
set_option maxRecDepth 20000 in
theorem ggX7_setHeat_X7_checkNumber : GoodIn wsX7_setHeat wsX7_checkNumber := goodIn_ca (goodIn_r _ [13, 14, 15] (by decide +kernel) (by decide +kernel)) (goodIn_sub (fun _ h => List.mem_cons_of_mem _ (List.mem_append_right _ h)) (by decide +kernel))
set_option maxRecDepth 20000 in
theorem gX7_setHeat_X7_checkNumber : GoodIn wsX7_setHeat (va_wsS RX7 19 yX7_checkNumber wsX7_checkNumber) := goodIn_app (goodIn_of _ (by decide +kernel)) ggX7_setHeat_X7_checkNumber
theorem dX7_setHeat_0 : decode cX7_setHeat 0 = .ok (.iload_n 1, 1) := by decide +kernel
theorem dX7_setHeat_1 : decode cX7_setHeat 1 = .ok (.aload_n 0, 1) := by decide +kernel
theorem dX7_setHeat_2 : decode cX7_setHeat 2 = .ok (.getfield 10, 3) := by decide +kernel
theorem dX7_setHeat_5 : decode cX7_setHeat 5 = .ok (.getfield 41, 3) := by decide +kernel
theorem dX7_setHeat_8 : decode cX7_setHeat 8 = .ok (.invokestatic 89, 3) := by decide +kernel
theorem dX7_setHeat_11 : decode cX7_setHeat 11 = .ok (.iload_n 2, 1) := by decide +kernel
theorem dX7_setHeat_12 : decode cX7_setHeat 12 = .ok (.iconst 0, 1) := by decide +kernel
theorem dX7_setHeat_13 : decode cX7_setHeat 13 = .ok (.bipush 9, 2) := by decide +kernel
theorem dX7_setHeat_15 : decode cX7_setHeat 15 = .ok (.invokestatic 19, 3) := by decide +kernel
theorem dX7_setHeat_18 : decode cX7_setHeat 18 = .ok (.aload_n 0, 1) := by decide +kernel
theorem dX7_setHeat_19 : decode cX7_setHeat 19 = .ok (.getfield 10, 3) := by decide +kernel
theorem dX7_setHeat_22 : decode cX7_setHeat 22 = .ok (.getfield 44, 3) := by decide +kernel
theorem dX7_setHeat_25 : decode cX7_setHeat 25 = .ok (.iload_n 1, 1) := by decide +kernel
theorem dX7_setHeat_26 : decode cX7_setHeat 26 = .ok (.aaload, 1) := by decide +kernel
theorem dX7_setHeat_27 : decode cX7_setHeat 27 = .ok (.getfield 92, 3) := by decide +kernel
theorem dX7_setHeat_30 : decode cX7_setHeat 30 = .ok (.istore_n 3, 1) := by decide +kernel
theorem dX7_setHeat_31 : decode cX7_setHeat 31 = .ok (.aload_n 0, 1) := by decide +kernel
theorem dX7_setHeat_32 : decode cX7_setHeat 32 = .ok (.getfield 10, 3) := by decide +kernel
theorem dX7_setHeat_35 : decode cX7_setHeat 35 = .ok (.getfield 44, 3) := by decide +kernel
theorem dX7_setHeat_38 : decode cX7_setHeat 38 = .ok (.iload_n 1, 1) := by decide +kernel
theorem dX7_setHeat_39 : decode cX7_setHeat 39 = .ok (.aaload, 1) := by decide +kernel
theorem dX7_setHeat_40 : decode cX7_setHeat 40 = .ok (.iload_n 2, 1) := by decide +kernel
theorem dX7_setHeat_41 : decode cX7_setHeat 41 = .ok (.putfield 92, 3) := by decide +kernel
theorem dX7_setHeat_44 : decode cX7_setHeat 44 = .ok (.iload_n 3, 1) := by decide +kernel
theorem dX7_setHeat_45 : decode cX7_setHeat 45 = .ok (.ireturn, 1) := by decide +kernel
set_option maxRecDepth 20000 in
theorem ggX7_dig_X7_checkIndex : GoodIn wsX7_dig wsX7_checkIndex := goodIn_ca (goodIn_r _ [9, 10, 11] (by decide +kernel) (by decide +kernel)) (goodIn_sub (fun _ h => List.mem_cons_of_mem _ (List.mem_append_left _ (List.mem_append_left _ (List.mem_append_right _ h)))) (by decide +kernel))
set_option maxRecDepth 20000 in
theorem gX7_dig_X7_checkIndex : GoodIn wsX7_dig (va_wsS RX7 89 yX7_checkIndex wsX7_checkIndex) := goodIn_app (goodIn_of _ (by decide +kernel)) ggX7_dig_X7_checkIndex
set_option maxRecDepth 20000 in
theorem ggX7_dig_X7_checkNumber : GoodIn wsX7_dig wsX7_checkNumber := goodIn_ca (goodIn_r _ [14, 15, 16] (by decide +kernel) (by decide +kernel)) (goodIn_sub (fun _ h => List.mem_cons_of_mem _ (List.mem_append_left _ (List.mem_append_right _ h))) (by decide +kernel))
set_option maxRecDepth 20000 in
theorem gX7_dig_X7_checkNumber : GoodIn wsX7_dig (va_wsS RX7 19 yX7_checkNumber wsX7_checkNumber) := goodIn_app (goodIn_of _ (by decide +kernel)) ggX7_dig_X7_checkNumber
set_option maxRecDepth 20000 in
theorem ggX7_dig_X7_checkState : GoodIn wsX7_dig wsX7_checkState := goodIn_ca (goodIn_r _ [19, 20, 21] (by decide +kernel) (by decide +kernel)) (goodIn_sub (fun _ h => List.mem_cons_of_mem _ (List.mem_append_right _ h)) (by decide +kernel))
set_option maxRecDepth 20000 in
theorem gX7_dig_X7_checkState : GoodIn wsX7_dig (va_wsS RX7 27 yX7_checkState wsX7_checkState) := goodIn_app (goodIn_of _ (by decide +kernel)) ggX7_dig_X7_checkState
set_option maxRecDepth 20000 in
theorem ggX7_dig_X4_add : GoodIn wsX7_dig wsX4_add := goodIn_r _ [26, 27, 28, 45, 46, 47, 48, 49, 50, 51] (by decide +kernel) (by decide +kernel)
set_option maxRecDepth 20000 in
theorem gX7_dig_X4_add : GoodIn wsX7_dig (wsV RX7 98 RX4 yX4_add wsX4_add) := goodIn_app (goodIn_of _ (by decide +kernel)) ggX7_dig_X4_add
theorem dX7_dig_0 : decode cX7_dig 0 = .ok (.iload_n 1, 1) := by decide +kernel
theorem dX7_dig_1 : decode cX7_dig 1 = .ok (.aload_n 0, 1) := by decide +kernel
theorem dX7_dig_2 : decode cX7_dig 2 = .ok (.getfield 10, 3) := by decide +kernel
theorem dX7_dig_5 : decode cX7_dig 5 = .ok (.getfield 23, 3) := by decide +kernel
theorem dX7_dig_8 : decode cX7_dig 8 = .ok (.invokestatic 89, 3) := by decide +kernel
theorem dX7_dig_11 : decode cX7_dig 11 = .ok (.iload_n 2, 1) := by decide +kernel
theorem dX7_dig_12 : decode cX7_dig 12 = .ok (.iconst 1, 1) := by decide +kernel
theorem dX7_dig_13 : decode cX7_dig 13 = .ok (.bipush 99, 2) := by decide +kernel
theorem dX7_dig_15 : decode cX7_dig 15 = .ok (.invokestatic 19, 3) := by decide +kernel
theorem dX7_dig_18 : decode cX7_dig 18 = .ok (.aload_n 0, 1) := by decide +kernel
theorem dX7_dig_19 : decode cX7_dig 19 = .ok (.getfield 10, 3) := by decide +kernel
theorem dX7_dig_22 : decode cX7_dig 22 = .ok (.getfield 31, 3) := by decide +kernel
theorem dX7_dig_25 : decode cX7_dig 25 = .ok (.iload_n 1, 1) := by decide +kernel
theorem dX7_dig_26 : decode cX7_dig 26 = .ok (.aaload, 1) := by decide +kernel
theorem dX7_dig_27 : decode cX7_dig 27 = .ok (.getfield 95, 3) := by decide +kernel
theorem dX7_dig_30 : decode cX7_dig 30 = .ok (.iload_n 2, 1) := by decide +kernel
theorem dX7_dig_31 : decode cX7_dig 31 = .ok (.if_icmp .lt 7, 3) := by decide +kernel
theorem dX7_dig_34 : decode cX7_dig 34 = .ok (.iconst 1, 1) := by decide +kernel
theorem dX7_dig_35 : decode cX7_dig 35 = .ok (.goto 4, 3) := by decide +kernel
theorem dX7_dig_38 : decode cX7_dig 38 = .ok (.iconst 0, 1) := by decide +kernel
theorem dX7_dig_39 : decode cX7_dig 39 = .ok (.invokestatic 27, 3) := by decide +kernel
theorem dX7_dig_42 : decode cX7_dig 42 = .ok (.aload_n 0, 1) := by decide +kernel
theorem dX7_dig_43 : decode cX7_dig 43 = .ok (.getfield 10, 3) := by decide +kernel
theorem dX7_dig_46 : decode cX7_dig 46 = .ok (.getfield 31, 3) := by decide +kernel
theorem dX7_dig_49 : decode cX7_dig 49 = .ok (.iload_n 1, 1) := by decide +kernel
theorem dX7_dig_50 : decode cX7_dig 50 = .ok (.aaload, 1) := by decide +kernel
theorem dX7_dig_51 : decode cX7_dig 51 = .ok (.dup, 1) := by decide +kernel
theorem dX7_dig_52 : decode cX7_dig 52 = .ok (.getfield 95, 3) := by decide +kernel
theorem dX7_dig_55 : decode cX7_dig 55 = .ok (.iload_n 2, 1) := by decide +kernel
theorem dX7_dig_56 : decode cX7_dig 56 = .ok (.isub, 1) := by decide +kernel
theorem dX7_dig_57 : decode cX7_dig 57 = .ok (.putfield 95, 3) := by decide +kernel
theorem dX7_dig_60 : decode cX7_dig 60 = .ok (.aload_n 0, 1) := by decide +kernel
theorem dX7_dig_61 : decode cX7_dig 61 = .ok (.getfield 10, 3) := by decide +kernel
theorem dX7_dig_64 : decode cX7_dig 64 = .ok (.getfield 80, 3) := by decide +kernel
theorem dX7_dig_67 : decode cX7_dig 67 = .ok (.iconst 0, 1) := by decide +kernel
theorem dX7_dig_68 : decode cX7_dig 68 = .ok (.iload_n 2, 1) := by decide +kernel
theorem dX7_dig_69 : decode cX7_dig 69 = .ok (.invokevirtual 98, 3) := by decide +kernel
theorem dX7_dig_72 : decode cX7_dig 72 = .ok (.aload_n 0, 1) := by decide +kernel
theorem dX7_dig_73 : decode cX7_dig 73 = .ok (.getfield 10, 3) := by decide +kernel
theorem dX7_dig_76 : decode cX7_dig 76 = .ok (.getfield 31, 3) := by decide +kernel
theorem dX7_dig_79 : decode cX7_dig 79 = .ok (.iload_n 1, 1) := by decide +kernel
theorem dX7_dig_80 : decode cX7_dig 80 = .ok (.aaload, 1) := by decide +kernel
theorem dX7_dig_81 : decode cX7_dig 81 = .ok (.getfield 95, 3) := by decide +kernel
theorem dX7_dig_84 : decode cX7_dig 84 = .ok (.ireturn, 1) := by decide +kernel
set_option maxRecDepth 20000 in
theorem ggX7_give_X7_checkIndex : GoodIn wsX7_give wsX7_checkIndex := goodIn_ca (goodIn_r _ [6, 7, 8] (by decide +kernel) (by decide +kernel)) (goodIn_sub (fun _ h => List.mem_cons_of_mem _ (List.mem_append_left _ (List.mem_append_right _ h))) (by decide +kernel))
set_option maxRecDepth 20000 in
theorem gX7_give_X7_checkIndex : GoodIn wsX7_give (va_wsS RX7 89 yX7_checkIndex wsX7_checkIndex) := goodIn_app (goodIn_of _ (by decide +kernel)) ggX7_give_X7_checkIndex
set_option maxRecDepth 20000 in
theorem ggX7_give_X7_checkNumber : GoodIn wsX7_give wsX7_checkNumber := goodIn_ca (goodIn_r _ [11, 12, 13] (by decide +kernel) (by decide +kernel)) (goodIn_sub (fun _ h => List.mem_cons_of_mem _ (List.mem_append_right _ h)) (by decide +kernel))
set_option maxRecDepth 20000 in
theorem gX7_give_X7_checkNumber : GoodIn wsX7_give (va_wsS RX7 19 yX7_checkNumber wsX7_checkNumber) := goodIn_app (goodIn_of _ (by decide +kernel)) ggX7_give_X7_checkNumber
set_option maxRecDepth 20000 in
theorem ggX7_give_X4_add : GoodIn wsX7_give wsX4_add := goodIn_r _ [18, 19, 20, 38, 39, 40, 41, 42, 43, 44] (by decide +kernel) (by decide +kernel)
set_option maxRecDepth 20000 in
theorem gX7_give_X4_add : GoodIn wsX7_give (wsV RX7 98 RX4 yX4_add wsX4_add) := goodIn_app (goodIn_of _ (by decide +kernel)) ggX7_give_X4_add
set_option maxRecDepth 20000 in
theorem ggX7_give_X4_stock : GoodIn wsX7_give wsX4_stock := goodIn_r _ [24, 19, 20, 38, 39, 40, 41, 42, 43, 44] (by decide +kernel) (by decide +kernel)
set_option maxRecDepth 20000 in
theorem gX7_give_X4_stock : GoodIn wsX7_give (wsV RX7 101 RX4 yX4_stock wsX4_stock) := goodIn_app (goodIn_of _ (by decide +kernel)) ggX7_give_X4_stock
theorem dX7_give_0 : decode cX7_give 0 = .ok (.iload_n 1, 1) := by decide +kernel
theorem dX7_give_1 : decode cX7_give 1 = .ok (.iconst 2, 1) := by decide +kernel
theorem dX7_give_2 : decode cX7_give 2 = .ok (.invokestatic 89, 3) := by decide +kernel
theorem dX7_give_5 : decode cX7_give 5 = .ok (.iload_n 2, 1) := by decide +kernel
theorem dX7_give_6 : decode cX7_give 6 = .ok (.iconst 1, 1) := by decide +kernel
theorem dX7_give_7 : decode cX7_give 7 = .ok (.bipush 99, 2) := by decide +kernel
theorem dX7_give_9 : decode cX7_give 9 = .ok (.invokestatic 19, 3) := by decide +kernel
theorem dX7_give_12 : decode cX7_give 12 = .ok (.aload_n 0, 1) := by decide +kernel
theorem dX7_give_13 : decode cX7_give 13 = .ok (.getfield 10, 3) := by decide +kernel
theorem dX7_give_16 : decode cX7_give 16 = .ok (.getfield 80, 3) := by decide +kernel
theorem dX7_give_19 : decode cX7_give 19 = .ok (.iload_n 1, 1) := by decide +kernel
theorem dX7_give_20 : decode cX7_give 20 = .ok (.iload_n 2, 1) := by decide +kernel
theorem dX7_give_21 : decode cX7_give 21 = .ok (.invokevirtual 98, 3) := by decide +kernel
theorem dX7_give_24 : decode cX7_give 24 = .ok (.aload_n 0, 1) := by decide +kernel
theorem dX7_give_25 : decode cX7_give 25 = .ok (.getfield 10, 3) := by decide +kernel
theorem dX7_give_28 : decode cX7_give 28 = .ok (.getfield 80, 3) := by decide +kernel
theorem dX7_give_31 : decode cX7_give 31 = .ok (.iload_n 1, 1) := by decide +kernel
theorem dX7_give_32 : decode cX7_give 32 = .ok (.invokevirtual 101, 3) := by decide +kernel
theorem dX7_give_35 : decode cX7_give 35 = .ok (.ireturn, 1) := by decide +kernel
set_option maxRecDepth 20000 in
theorem ggX7_load_X7_checkIndex : GoodIn wsX7_load wsX7_checkIndex := goodIn_ca (goodIn_r _ [10, 11, 12] (by decide +kernel) (by decide +kernel)) (goodIn_sub (fun _ h => List.mem_cons_of_mem _ (List.mem_append_left _ (List.mem_append_left _ (List.mem_append_right _ h)))) (by decide +kernel))
set_option maxRecDepth 20000 in
theorem gX7_load_X7_checkIndex : GoodIn wsX7_load (va_wsS RX7 89 yX7_checkIndex wsX7_checkIndex) := goodIn_app (goodIn_of _ (by decide +kernel)) ggX7_load_X7_checkIndex
set_option maxRecDepth 20000 in
theorem ggX7_load_X7_checkNumber : GoodIn wsX7_load wsX7_checkNumber := goodIn_ca (goodIn_r _ [15, 16, 17] (by decide +kernel) (by decide +kernel)) (goodIn_sub (fun _ h => List.mem_cons_of_mem _ (List.mem_append_left _ (List.mem_append_right _ h))) (by decide +kernel))
set_option maxRecDepth 20000 in
theorem gX7_load_X7_checkNumber : GoodIn wsX7_load (va_wsS RX7 19 yX7_checkNumber wsX7_checkNumber) := goodIn_app (goodIn_of _ (by decide +kernel)) ggX7_load_X7_checkNumber
set_option maxRecDepth 20000 in
theorem ggX7_load_X7_checkState : GoodIn wsX7_load wsX7_checkState := goodIn_ca (goodIn_r _ [20, 21, 22] (by decide +kernel) (by decide +kernel)) (goodIn_sub (fun _ h => List.mem_cons_of_mem _ (List.mem_append_right _ h)) (by decide +kernel))
set_option maxRecDepth 20000 in
theorem gX7_load_X7_checkState : GoodIn wsX7_load (va_wsS RX7 27 yX7_checkState wsX7_checkState) := goodIn_app (goodIn_of _ (by decide +kernel)) ggX7_load_X7_checkState
set_option maxRecDepth 20000 in
theorem ggX7_load_X4_stock : GoodIn wsX7_load wsX4_stock := goodIn_r _ [27, 28, 29, 60, 61, 62, 63, 64, 65, 66] (by decide +kernel) (by decide +kernel)
set_option maxRecDepth 20000 in
theorem gX7_load_X4_stock : GoodIn wsX7_load (wsV RX7 101 RX4 yX4_stock wsX4_stock) := goodIn_app (goodIn_of _ (by decide +kernel)) ggX7_load_X4_stock
set_option maxRecDepth 20000 in
theorem ggX7_load_X4_add : GoodIn wsX7_load wsX4_add := goodIn_r _ [33, 28, 29, 60, 61, 62, 63, 64, 65, 66] (by decide +kernel) (by decide +kernel)
set_option maxRecDepth 20000 in
theorem gX7_load_X4_add : GoodIn wsX7_load (wsV RX7 98 RX4 yX4_add wsX4_add) := goodIn_app (goodIn_of _ (by decide +kernel)) ggX7_load_X4_add
set_option maxRecDepth 20000 in
theorem ggX7_load_X2_fill : GoodIn wsX7_load wsX2_fill := goodIn_r _ [38, 39, 40, 41, 55, 56, 57, 58, 59] (by decide +kernel) (by decide +kernel)
set_option maxRecDepth 20000 in
theorem gX7_load_X2_fill : GoodIn wsX7_load (wsV RX7 111 RX2 yX2_fill wsX2_fill) := goodIn_app (goodIn_of _ (by decide +kernel)) ggX7_load_X2_fill
theorem dX7_load_0 : decode cX7_load 0 = .ok (.iload_n 1, 1) := by decide +kernel
theorem dX7_load_1 : decode cX7_load 1 = .ok (.aload_n 0, 1) := by decide +kernel
theorem dX7_load_2 : decode cX7_load 2 = .ok (.getfield 10, 3) := by decide +kernel
theorem dX7_load_5 : decode cX7_load 5 = .ok (.getfield 41, 3) := by decide +kernel
theorem dX7_load_8 : decode cX7_load 8 = .ok (.invokestatic 89, 3) := by decide +kernel
theorem dX7_load_11 : decode cX7_load 11 = .ok (.iload_n 2, 1) := by decide +kernel
theorem dX7_load_12 : decode cX7_load 12 = .ok (.iconst 2, 1) := by decide +kernel
theorem dX7_load_13 : decode cX7_load 13 = .ok (.invokestatic 89, 3) := by decide +kernel
theorem dX7_load_16 : decode cX7_load 16 = .ok (.iload_n 3, 1) := by decide +kernel
theorem dX7_load_17 : decode cX7_load 17 = .ok (.iconst 1, 1) := by decide +kernel
theorem dX7_load_18 : decode cX7_load 18 = .ok (.aload_n 0, 1) := by decide +kernel
theorem dX7_load_19 : decode cX7_load 19 = .ok (.getfield 10, 3) := by decide +kernel
theorem dX7_load_22 : decode cX7_load 22 = .ok (.getfield 44, 3) := by decide +kernel
theorem dX7_load_25 : decode cX7_load 25 = .ok (.iload_n 1, 1) := by decide +kernel
theorem dX7_load_26 : decode cX7_load 26 = .ok (.aaload, 1) := by decide +kernel
theorem dX7_load_27 : decode cX7_load 27 = .ok (.getfield 105, 3) := by decide +kernel
theorem dX7_load_30 : decode cX7_load 30 = .ok (.invokestatic 19, 3) := by decide +kernel
theorem dX7_load_33 : decode cX7_load 33 = .ok (.aload_n 0, 1) := by decide +kernel
theorem dX7_load_34 : decode cX7_load 34 = .ok (.getfield 10, 3) := by decide +kernel
theorem dX7_load_37 : decode cX7_load 37 = .ok (.getfield 44, 3) := by decide +kernel
theorem dX7_load_40 : decode cX7_load 40 = .ok (.iload_n 1, 1) := by decide +kernel
theorem dX7_load_41 : decode cX7_load 41 = .ok (.aaload, 1) := by decide +kernel
theorem dX7_load_42 : decode cX7_load 42 = .ok (.getfield 108, 3) := by decide +kernel
theorem dX7_load_45 : decode cX7_load 45 = .ok (.iconst (-1), 1) := by decide +kernel
theorem dX7_load_46 : decode cX7_load 46 = .ok (.if_icmp .ne 7, 3) := by decide +kernel
theorem dX7_load_49 : decode cX7_load 49 = .ok (.iconst 1, 1) := by decide +kernel
theorem dX7_load_50 : decode cX7_load 50 = .ok (.goto 4, 3) := by decide +kernel
theorem dX7_load_53 : decode cX7_load 53 = .ok (.iconst 0, 1) := by decide +kernel
theorem dX7_load_54 : decode cX7_load 54 = .ok (.invokestatic 27, 3) := by decide +kernel
theorem dX7_load_57 : decode cX7_load 57 = .ok (.aload_n 0, 1) := by decide +kernel
theorem dX7_load_58 : decode cX7_load 58 = .ok (.getfield 10, 3) := by decide +kernel
theorem dX7_load_61 : decode cX7_load 61 = .ok (.getfield 80, 3) := by decide +kernel
theorem dX7_load_64 : decode cX7_load 64 = .ok (.iload_n 2, 1) := by decide +kernel
theorem dX7_load_65 : decode cX7_load 65 = .ok (.invokevirtual 101, 3) := by decide +kernel
theorem dX7_load_68 : decode cX7_load 68 = .ok (.iload_n 3, 1) := by decide +kernel
theorem dX7_load_69 : decode cX7_load 69 = .ok (.if_icmp .lt 7, 3) := by decide +kernel
theorem dX7_load_72 : decode cX7_load 72 = .ok (.iconst 1, 1) := by decide +kernel
theorem dX7_load_73 : decode cX7_load 73 = .ok (.goto 4, 3) := by decide +kernel
theorem dX7_load_76 : decode cX7_load 76 = .ok (.iconst 0, 1) := by decide +kernel
theorem dX7_load_77 : decode cX7_load 77 = .ok (.invokestatic 27, 3) := by decide +kernel
theorem dX7_load_80 : decode cX7_load 80 = .ok (.aload_n 0, 1) := by decide +kernel
theorem dX7_load_81 : decode cX7_load 81 = .ok (.getfield 10, 3) := by decide +kernel
theorem dX7_load_84 : decode cX7_load 84 = .ok (.getfield 80, 3) := by decide +kernel
theorem dX7_load_87 : decode cX7_load 87 = .ok (.iload_n 2, 1) := by decide +kernel
theorem dX7_load_88 : decode cX7_load 88 = .ok (.iload_n 3, 1) := by decide +kernel
theorem dX7_load_89 : decode cX7_load 89 = .ok (.ineg, 1) := by decide +kernel
theorem dX7_load_90 : decode cX7_load 90 = .ok (.invokevirtual 98, 3) := by decide +kernel
theorem dX7_load_93 : decode cX7_load 93 = .ok (.aload_n 0, 1) := by decide +kernel
theorem dX7_load_94 : decode cX7_load 94 = .ok (.getfield 10, 3) := by decide +kernel
theorem dX7_load_97 : decode cX7_load 97 = .ok (.getfield 44, 3) := by decide +kernel
theorem dX7_load_100 : decode cX7_load 100 = .ok (.iload_n 1, 1) := by decide +kernel
theorem dX7_load_101 : decode cX7_load 101 = .ok (.aaload, 1) := by decide +kernel
theorem dX7_load_102 : decode cX7_load 102 = .ok (.iload_n 2, 1) := by decide +kernel
theorem dX7_load_103 : decode cX7_load 103 = .ok (.iload_n 3, 1) := by decide +kernel
theorem dX7_load_104 : decode cX7_load 104 = .ok (.invokevirtual 111, 3) := by decide +kernel
theorem dX7_load_107 : decode cX7_load 107 = .ok (.aload_n 0, 1) := by decide +kernel
theorem dX7_load_108 : decode cX7_load 108 = .ok (.getfield 10, 3) := by decide +kernel
theorem dX7_load_111 : decode cX7_load 111 = .ok (.getfield 80, 3) := by decide +kernel
theorem dX7_load_114 : decode cX7_load 114 = .ok (.iload_n 2, 1) := by decide +kernel
theorem dX7_load_115 : decode cX7_load 115 = .ok (.invokevirtual 101, 3) := by decide +kernel
theorem dX7_load_118 : decode cX7_load 118 = .ok (.ireturn, 1) := by decide +kernel
set_option maxRecDepth 20000 in
theorem ggX7_take_X7_checkIndex : GoodIn wsX7_take wsX7_checkIndex := goodIn_ca (goodIn_r _ [10, 11, 12] (by decide +kernel) (by decide +kernel)) (goodIn_sub (fun _ h => List.mem_cons_of_mem _ (List.mem_append_left _ (List.mem_append_right _ h))) (by decide +kernel))
set_option maxRecDepth 20000 in
theorem gX7_take_X7_checkIndex : GoodIn wsX7_take (va_wsS RX7 89 yX7_checkIndex wsX7_checkIndex) := goodIn_app (goodIn_of _ (by decide +kernel)) ggX7_take_X7_checkIndex
set_option maxRecDepth 20000 in
theorem ggX7_take_X7_checkState : GoodIn wsX7_take wsX7_checkState := goodIn_ca (goodIn_r _ [15, 16, 17] (by decide +kernel) (by decide +kernel)) (goodIn_sub (fun _ h => List.mem_cons_of_mem _ (List.mem_append_right _ h)) (by decide +kernel))
set_option maxRecDepth 20000 in
theorem gX7_take_X7_checkState : GoodIn wsX7_take (va_wsS RX7 27 yX7_checkState wsX7_checkState) := goodIn_app (goodIn_of _ (by decide +kernel)) ggX7_take_X7_checkState
set_option maxRecDepth 20000 in
theorem ggX7_take_X2_partsAt : GoodIn wsX7_take wsX2_partsAt := goodIn_r _ [22, 23, 24, 25, 26, 27, 21, 28, 29, 30, 31, 32, 58, 59, 60, 61, 62] (by decide +kernel) (by decide +kernel)
set_option maxRecDepth 20000 in
theorem gX7_take_X2_partsAt : GoodIn wsX7_take (wsV RX7 117 RX2 yX2_partsAt wsX2_partsAt) := goodIn_app (goodIn_of _ (by decide +kernel)) ggX7_take_X2_partsAt
set_option maxRecDepth 20000 in
theorem ggX7_take_X4_addRoasted : GoodIn wsX7_take wsX4_addRoasted := goodIn_r _ [37, 38, 39, 63, 64, 65, 66, 67, 68, 69] (by decide +kernel) (by decide +kernel)
set_option maxRecDepth 20000 in
theorem gX7_take_X4_addRoasted : GoodIn wsX7_take (wsV RX7 120 RX4 yX4_addRoasted wsX4_addRoasted) := goodIn_app (goodIn_of _ (by decide +kernel)) ggX7_take_X4_addRoasted
set_option maxRecDepth 20000 in
theorem ggX7_take_X2_fill : GoodIn wsX7_take wsX2_fill := goodIn_r _ [43, 23, 24, 44, 58, 59, 60, 61, 62] (by decide +kernel) (by decide +kernel)
set_option maxRecDepth 20000 in
theorem gX7_take_X2_fill : GoodIn wsX7_take (wsV RX7 111 RX2 yX2_fill wsX2_fill) := goodIn_app (goodIn_of _ (by decide +kernel)) ggX7_take_X2_fill
theorem dX7_take_0 : decode cX7_take 0 = .ok (.iload_n 1, 1) := by decide +kernel
theorem dX7_take_1 : decode cX7_take 1 = .ok (.aload_n 0, 1) := by decide +kernel
theorem dX7_take_2 : decode cX7_take 2 = .ok (.getfield 10, 3) := by decide +kernel
theorem dX7_take_5 : decode cX7_take 5 = .ok (.getfield 41, 3) := by decide +kernel
theorem dX7_take_8 : decode cX7_take 8 = .ok (.invokestatic 89, 3) := by decide +kernel
theorem dX7_take_11 : decode cX7_take 11 = .ok (.aload_n 0, 1) := by decide +kernel
theorem dX7_take_12 : decode cX7_take 12 = .ok (.getfield 10, 3) := by decide +kernel
theorem dX7_take_15 : decode cX7_take 15 = .ok (.getfield 44, 3) := by decide +kernel
theorem dX7_take_18 : decode cX7_take 18 = .ok (.iload_n 1, 1) := by decide +kernel
theorem dX7_take_19 : decode cX7_take 19 = .ok (.aaload, 1) := by decide +kernel
theorem dX7_take_20 : decode cX7_take 20 = .ok (.astore_n 2, 1) := by decide +kernel
theorem dX7_take_21 : decode cX7_take 21 = .ok (.aload_n 2, 1) := by decide +kernel
theorem dX7_take_22 : decode cX7_take 22 = .ok (.getfield 108, 3) := by decide +kernel
theorem dX7_take_25 : decode cX7_take 25 = .ok (.iconst (-1), 1) := by decide +kernel
theorem dX7_take_26 : decode cX7_take 26 = .ok (.if_icmp .eq 7, 3) := by decide +kernel
theorem dX7_take_29 : decode cX7_take 29 = .ok (.iconst 1, 1) := by decide +kernel
theorem dX7_take_30 : decode cX7_take 30 = .ok (.goto 4, 3) := by decide +kernel
theorem dX7_take_33 : decode cX7_take 33 = .ok (.iconst 0, 1) := by decide +kernel
theorem dX7_take_34 : decode cX7_take 34 = .ok (.invokestatic 27, 3) := by decide +kernel
theorem dX7_take_37 : decode cX7_take 37 = .ok (.aload_n 2, 1) := by decide +kernel
theorem dX7_take_38 : decode cX7_take 38 = .ok (.aload_n 2, 1) := by decide +kernel
theorem dX7_take_39 : decode cX7_take 39 = .ok (.getfield 114, 3) := by decide +kernel
theorem dX7_take_42 : decode cX7_take 42 = .ok (.invokevirtual 117, 3) := by decide +kernel
theorem dX7_take_45 : decode cX7_take 45 = .ok (.istore_n 3, 1) := by decide +kernel
theorem dX7_take_46 : decode cX7_take 46 = .ok (.aload_n 0, 1) := by decide +kernel
theorem dX7_take_47 : decode cX7_take 47 = .ok (.getfield 10, 3) := by decide +kernel
theorem dX7_take_50 : decode cX7_take 50 = .ok (.getfield 80, 3) := by decide +kernel
theorem dX7_take_53 : decode cX7_take 53 = .ok (.aload_n 2, 1) := by decide +kernel
theorem dX7_take_54 : decode cX7_take 54 = .ok (.getfield 108, 3) := by decide +kernel
theorem dX7_take_57 : decode cX7_take 57 = .ok (.iload_n 3, 1) := by decide +kernel
theorem dX7_take_58 : decode cX7_take 58 = .ok (.invokevirtual 120, 3) := by decide +kernel
theorem dX7_take_61 : decode cX7_take 61 = .ok (.aload_n 2, 1) := by decide +kernel
theorem dX7_take_62 : decode cX7_take 62 = .ok (.iconst (-1), 1) := by decide +kernel
theorem dX7_take_63 : decode cX7_take 63 = .ok (.iconst 0, 1) := by decide +kernel
theorem dX7_take_64 : decode cX7_take 64 = .ok (.invokevirtual 111, 3) := by decide +kernel
