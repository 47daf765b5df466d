theorem dX7_setShare_29 : decode cX7_setShare 29 = .ok (.iload_n 2, 1) := by decide +kernel
theorem dX7_setShare_30 : decode cX7_setShare 30 = .ok (.ireturn, 1) := by decide +kernel
set_option maxRecDepth 20000 in
theorem ggX7_setHeat_X7_checkIndex : GoodIn wsX7_setHeat wsX7_checkIndex := goodIn_ca (goodIn_r _ [8, 9, 10] (by decide +kernel) (by decide +kernel)) (goodIn_sub (fun _ h => List.mem_cons_of_mem _ (List.mem_append_left _ (List.mem_append_right _ h))) (by decide +kernel))
set_option maxRecDepth 20000 in
theorem gX7_setHeat_X7_checkIndex : GoodIn wsX7_setHeat (va_wsS RX7 89 yX7_checkIndex wsX7_checkIndex) := goodIn_app (goodIn_of _ (by decide +kernel)) ggX7_setHeat_X7_checkIndex
set_option maxRecDepth 20000 in
theorem ggX7_setHeat_X7_checkNumber : GoodIn wsX7_setHeat wsX7_checkNumber := goodIn_ca (goodIn_r _ [13, 14, 15] (by decide +kernel) (by decide +kernel)) (goodIn_sub (fun _ h => List.mem_cons_of_mem _ (List.mem_append_right _ h)) (by decide +kernel))
set_option maxRecDepth 20000 in
theorem gX7_setHeat_X7_checkNumber : GoodIn wsX7_setHeat (va_wsS RX7 19 yX7_checkNumber wsX7_checkNumber) := goodIn_app (goodIn_of _ (by decide +kernel)) ggX7_setHeat_X7_checkNumber
theorem dX7_setHeat_0 : decode cX7_setHeat 0 = .ok (.iload_n 1, 1) := by decide +kernel
theorem dX7_setHeat_1 : decode cX7_setHeat 1 = .ok (.aload_n 0, 1) := by decide +kernel
theorem dX7_setHeat_2 : decode cX7_setHeat 2 = .ok (.getfield 10, 3) := by decide +kernel
theorem dX7_setHeat_5 : decode cX7_setHeat 5 = .ok (.getfield 41, 3) := by decide +kernel
theorem dX7_setHeat_8 : decode cX7_setHeat 8 = .ok (.invokestatic 89, 3) := by decide +kernel
theorem dX7_setHeat_11 : decode cX7_setHeat 11 = .ok (.iload_n 2, 1) := by decide +kernel
theorem dX7_setHeat_12 : decode cX7_setHeat 12 = .ok (.iconst 0, 1) := by decide +kernel
theorem dX7_setHeat_13 : decode cX7_setHeat 13 = .ok (.bipush 9, 2) := by decide +kernel
theorem dX7_setHeat_15 : decode cX7_setHeat 15 = .ok (.invokestatic 19, 3) := by decide +kernel
theorem dX7_setHeat_18 : decode cX7_setHeat 18 = .ok (.aload_n 0, 1) := by decide +kernel
theorem dX7_setHeat_19 : decode cX7_setHeat 19 = .ok (.getfield 10, 3) := by decide +kernel
theorem dX7_setHeat_22 : decode cX7_setHeat 22 = .ok (.getfield 44, 3) := by decide +kernel
theorem dX7_setHeat_25 : decode cX7_setHeat 25 = .ok (.iload_n 1, 1) := by decide +kernel
theorem dX7_setHeat_26 : decode cX7_setHeat 26 = .ok (.aaload, 1) := by decide +kernel
theorem dX7_setHeat_27 : decode cX7_setHeat 27 = .ok (.getfield 92, 3) := by decide +kernel
theorem dX7_setHeat_30 : decode cX7_setHeat 30 = .ok (.istore_n 3, 1) := by decide +kernel
theorem dX7_setHeat_31 : decode cX7_setHeat 31 = .ok (.aload_n 0, 1) := by decide +kernel
theorem dX7_setHeat_32 : decode cX7_setHeat 32 = .ok (.getfield 10, 3) := by decide +kernel
theorem dX7_setHeat_35 : decode cX7_setHeat 35 = .ok (.getfield 44, 3) := by decide +kernel
theorem dX7_setHeat_38 : decode cX7_setHeat 38 = .ok (.iload_n 1, 1) := by decide +kernel
theorem dX7_setHeat_39 : decode cX7_setHeat 39 = .ok (.aaload, 1) := by decide +kernel
theorem dX7_setHeat_40 : decode cX7_setHeat 40 = .ok (.iload_n 2, 1) := by decide +kernel
theorem dX7_setHeat_41 : decode cX7_setHeat 41 = .ok (.putfield 92, 3) := by decide +kernel
theorem dX7_setHeat_44 : decode cX7_setHeat 44 = .ok (.iload_n 3, 1) := by decide +kernel
theorem dX7_setHeat_45 : decode cX7_setHeat 45 = .ok (.ireturn, 1) := by decide +kernel
set_option maxRecDepth 20000 in
theorem ggX7_dig_X7_checkIndex : GoodIn wsX7_dig wsX7_checkIndex := goodIn_ca (goodIn_r _ [9, 10, 11] (by decide +kernel) (by decide +kernel)) (goodIn_sub (fun _ h => List.mem_cons_of_mem _ (List.mem_append_left _ (List.mem_append_left _ (List.mem_append_right _ h)))) (by decide +kernel))
set_option maxRecDepth 20000 in
theorem gX7_dig_X7_checkIndex : GoodIn wsX7_dig (va_wsS RX7 89 yX7_checkIndex wsX7_checkIndex) := goodIn_app (goodIn_of _ (by decide +kernel)) ggX7_dig_X7_checkIndex
set_option maxRecDepth 20000 in
theorem ggX7_dig_X7_checkNumber : GoodIn wsX7_dig wsX7_checkNumber := goodIn_ca (goodIn_r _ [14, 15, 16] (by decide +kernel) (by decide +kernel)) (goodIn_sub (fun _ h => List.mem_cons_of_mem _ (List.mem_append_left _ (List.mem_append_right _ h))) (by decide +kernel))
set_option maxRecDepth 20000 in
theorem gX7_dig_X7_checkNumber : GoodIn wsX7_dig (va_wsS RX7 19 yX7_checkNumber wsX7_checkNumber) := goodIn_app (goodIn_of _ (by decide +kernel)) ggX7_dig_X7_checkNumber
set_option maxRecDepth 20000 in
theorem ggX7_dig_X7_checkState : GoodIn wsX7_dig wsX7_checkState := goodIn_ca (goodIn_r _ [19, 20, 21] (by decide +kernel) (by decide +kernel)) (goodIn_sub (fun _ h => List.mem_cons_of_mem _ (List.mem_append_right _ h)) (by decide +kernel))
set_option maxRecDepth 20000 in
theorem gX7_dig_X7_checkState : GoodIn wsX7_dig (va_wsS RX7 27 yX7_checkState wsX7_checkState) := goodIn_app (goodIn_of _ (by decide +kernel)) ggX7_dig_X7_checkState
set_option maxRecDepth 20000 in
theorem ggX7_dig_X4_add : GoodIn wsX7_dig wsX4_add := goodIn_r _ [26, 27, 28, 45, 46, 47, 48, 49, 50, 51] (by decide +kernel) (by decide +kernel)
set_option maxRecDepth 20000 in
theorem gX7_dig_X4_add : GoodIn wsX7_dig (wsV RX7 98 RX4 yX4_add wsX4_add) := goodIn_app (goodIn_of _ (by decide +kernel)) ggX7_dig_X4_add
theorem dX7_dig_0 : decode cX7_dig 0 = .ok (.iload_n 1, 1) := by decide +kernel
theorem dX7_dig_1 : decode cX7_dig 1 = .ok (.aload_n 0, 1) := by decide +kernel
theorem dX7_dig_2 : decode cX7_dig 2 = .ok (.getfield 10, 3) := by decide +kernel
theorem dX7_dig_5 : decode cX7_dig 5 = .ok (.getfield 23, 3) := by decide +kernel
theorem dX7_dig_8 : decode cX7_dig 8 = .ok (.invokestatic 89, 3) := by decide +kernel
theorem dX7_dig_11 : decode cX7_dig 11 = .ok (.iload_n 2, 1) := by decide +kernel
theorem dX7_dig_12 : decode cX7_dig 12 = .ok (.iconst 1, 1) := by decide +kernel
theorem dX7_dig_13 : decode cX7_dig 13 = .ok (.bipush 99, 2) := by decide +kernel
theorem dX7_dig_15 : decode cX7_dig 15 = .ok (.invokestatic 19, 3) := by decide +kernel
theorem dX7_dig_18 : decode cX7_dig 18 = .ok (.aload_n 0, 1) := by decide +kernel
theorem dX7_dig_19 : decode cX7_dig 19 = .ok (.getfield 10, 3) := by decide +kernel
theorem dX7_dig_22 : decode cX7_dig 22 = .ok (.getfield 31, 3) := by decide +kernel
theorem dX7_dig_25 : decode cX7_dig 25 = .ok (.iload_n 1, 1) := by decide +kernel
theorem dX7_dig_26 : decode cX7_dig 26 = .ok (.aaload, 1) := by decide +kernel
theorem dX7_dig_27 : decode cX7_dig 27 = .ok (.getfield 95, 3) := by decide +kernel
theorem dX7_dig_30 : decode cX7_dig 30 = .ok (.iload_n 2, 1) := by decide +kernel
theorem dX7_dig_31 : decode cX7_dig 31 = .ok (.if_icmp .lt 7, 3) := by decide +kernel
theorem dX7_dig_34 : decode cX7_dig 34 = .ok (.iconst 1, 1) := by decide +kernel
theorem dX7_dig_35 : decode cX7_dig 35 = .ok (.goto 4, 3) := by decide +kernel
theorem dX7_dig_38 : decode cX7_dig 38 = .ok (.iconst 0, 1) := by decide +kernel
theorem dX7_dig_39 : decode cX7_dig 39 = .ok (.invokestatic 27, 3) := by decide +kernel
theorem dX7_dig_42 : decode cX7_dig 42 = .ok (.aload_n 0, 1) := by decide +kernel
theorem dX7_dig_43 : decode cX7_dig 43 = .ok (.getfield 10, 3) := by decide +kernel
theorem dX7_dig_46 : decode cX7_dig 46 = .ok (.getfield 31, 3) := by decide +kernel
theorem dX7_dig_49 : decode cX7_dig 49 = .ok (.iload_n 1, 1) := by decide +kernel
theorem dX7_dig_50 : decode cX7_dig 50 = .ok (.aaload, 1) := by decide +kernel
theorem dX7_dig_51 : decode cX7_dig 51 = .ok (.dup, 1) := by decide +kernel
theorem dX7_dig_52 : decode cX7_dig 52 = .ok (.getfield 95, 3) := by decide +kernel
theorem dX7_dig_55 : decode cX7_dig 55 = .ok (.iload_n 2, 1) := by decide +kernel
theorem dX7_dig_56 : decode cX7_dig 56 = .ok (.isub, 1) := by decide +kernel
theorem dX7_dig_57 : decode cX7_dig 57 = .ok (.putfield 95, 3) := by decide +kernel
theorem dX7_dig_60 : decode cX7_dig 60 = .ok (.aload_n 0, 1) := by decide +kernel
theorem dX7_dig_61 : decode cX7_dig 61 = .ok (.getfield 10, 3) := by decide +kernel
theorem dX7_dig_64 : decode cX7_dig 64 = .ok (.getfield 80, 3) := by decide +kernel
theorem dX7_dig_67 : decode cX7_dig 67 = .ok (.iconst 0, 1) := by decide +kernel
theorem dX7_dig_68 : decode cX7_dig 68 = .ok (.iload_n 2, 1) := by decide +kernel
theorem dX7_dig_69 : decode cX7_dig 69 = .ok (.invokevirtual 98, 3) := by decide +kernel
theorem dX7_dig_72 : decode cX7_dig 72 = .ok (.aload_n 0, 1) := by decide +kernel
theorem dX7_dig_73 : decode cX7_dig 73 = .ok (.getfield 10, 3) := by decide +kernel
theorem dX7_dig_76 : decode cX7_dig 76 = .ok (.getfield 31, 3) := by decide +kernel
theorem dX7_dig_79 : decode cX7_dig 79 = .ok (.iload_n 1, 1) := by decide +kernel
theorem dX7_dig_80 : decode cX7_dig 80 = .ok (.aaload, 1) := by decide +kernel
theorem dX7_dig_81 : decode cX7_dig 81 = .ok (.getfield 95, 3) := by decide +kernel
theorem dX7_dig_84 : decode cX7_dig 84 = .ok (.ireturn, 1) := by decide +kernel
set_option maxRecDepth 20000 in
theorem ggX7_give_X7_checkIndex : GoodIn wsX7_give wsX7_checkIndex := goodIn_ca (goodIn_r _ [6, 7, 8] (by decide +kernel) (by decide +kernel)) (goodIn_sub (fun _ h => List.mem_cons_of_mem _ (List.mem_append_left _ (List.mem_append_right _ h))) (by decide +kernel))
set_option maxRecDepth 20000 in
theorem gX7_give_X7_checkIndex : GoodIn wsX7_give (va_wsS RX7 89 yX7_checkIndex wsX7_checkIndex) := goodIn_app (goodIn_of _ (by decide +kernel)) ggX7_give_X7_checkIndex
set_option maxRecDepth 20000 in
theorem ggX7_give_X7_checkNumber : GoodIn wsX7_give wsX7_checkNumber := goodIn_ca (goodIn_r _ [11, 12, 13] (by decide +kernel) (by decide +kernel)) (goodIn_sub (fun _ h => List.mem_cons_of_mem _ (List.mem_append_right _ h)) (by decide +kernel))
set_option maxRecDepth 20000 in
theorem gX7_give_X7_checkNumber : GoodIn wsX7_give (va_wsS RX7 19 yX7_checkNumber wsX7_checkNumber) := goodIn_app (goodIn_of _ (by decide +kernel)) ggX7_give_X7_checkNumber
set_option maxRecDepth 20000 in
theorem ggX7_give_X4_add : GoodIn wsX7_give wsX4_add := goodIn_r _ [18, 19, 20, 38, 39, 40, 41, 42, 43, 44] (by decide +kernel) (by decide +kernel)
set_option maxRecDepth 20000 in
theorem gX7_give_X4_add : GoodIn wsX7_give (wsV RX7 98 RX4 yX4_add wsX4_add) := goodIn_app (goodIn_of _ (by decide +kernel)) ggX7_give_X4_add
set_option maxRecDepth 20000 in
theorem ggX7_give_X4_stock : GoodIn wsX7_give wsX4_stock := goodIn_r _ [24, 19, 20, 38, 39, 40, 41, 42, 43, 44] (by decide +kernel) (by decide +kernel)
set_option maxRecDepth 20000 in
theorem gX7_give_X4_stock : GoodIn wsX7_give (wsV RX7 101 RX4 yX4_stock wsX4_stock) := goodIn_app (goodIn_of _ (by decide +kernel)) ggX7_give_X4_stock
theorem dX7_give_0 : decode cX7_give 0 = .ok (.iload_n 1, 1) := by decide +kernel
theorem dX7_give_1 : decode cX7_give 1 = .ok (.iconst 2, 1) := by decide +kernel
theorem dX7_give_2 : decode cX7_give 2 = .ok (.invokestatic 89, 3) := by decide +kernel
theorem dX7_give_5 : decode cX7_give 5 = .ok (.iload_n 2, 1) := by decide +kernel
theorem dX7_give_6 : decode cX7_give 6 = .ok (.iconst 1, 1) := by decide +kernel
theorem dX7_give_7 : decode cX7_give 7 = .ok (.bipush 99, 2) := by decide +kernel
theorem dX7_give_9 : decode cX7_give 9 = .ok (.invokestatic 19, 3) := by decide +kernel
theorem dX7_give_12 : decode cX7_give 12 = .ok (.aload_n 0, 1) := by decide +kernel
theorem dX7_give_13 : decode cX7_give 13 = .ok (.getfield 10, 3) := by decide +kernel
theorem dX7_give_16 : decode cX7_give 16 = .ok (.getfield 80, 3) := by decide +kernel
theorem dX7_give_19 : decode cX7_give 19 = .ok (.iload_n 1, 1) := by decide +kernel
theorem dX7_give_20 : decode cX7_give 20 = .ok (.iload_n 2, 1) := by decide +kernel
theorem dX7_give_21 : decode cX7_give 21 = .ok (.invokevirtual 98, 3) := by decide +kernel
theorem dX7_give_24 : decode cX7_give 24 = .ok (.aload_n 0, 1) := by decide +kernel
theorem dX7_give_25 : decode cX7_give 25 = .ok (.getfield 10, 3) := by decide +kernel
theorem dX7_give_28 : decode cX7_give 28 = .ok (.getfield 80, 3) := by decide +kernel
theorem dX7_give_31 : decode cX7_give 31 = .ok (.iload_n 1, 1) := by decide +kernel
theorem dX7_give_32 : decode cX7_give 32 = .ok (.invokevirtual 101, 3) := by decide +kernel
theorem dX7_give_35 : decode cX7_give 35 = .ok (.ireturn, 1) := by decide +kernel
set_option maxRecDepth 20000 in
theorem ggX7_load_X7_checkIndex : GoodIn wsX7_load wsX7_checkIndex := goodIn_ca (goodIn_r _ [10, 11, 12] (by decide +kernel) (by decide +kernel)) (goodIn_sub (fun _ h => List.mem_cons_of_mem _ (List.mem_append_left _ (List.mem_append_left _ (List.mem_append_right _ h)))) (by decide +kernel))
set_option maxRecDepth 20000 in
theorem gX7_load_X7_checkIndex : GoodIn wsX7_load (va_wsS RX7 89 yX7_checkIndex wsX7_checkIndex) := goodIn_app (goodIn_of _ (by decide +kernel)) ggX7_load_X7_checkIndex
set_option maxRecDepth 20000 in
theorem ggX7_load_X7_checkNumber : GoodIn wsX7_load wsX7_checkNumber := goodIn_ca (goodIn_r _ [15, 16, 17] (by decide +kernel) (by decide +kernel)) (goodIn_sub (fun _ h => List.mem_cons_of_mem _ (List.mem_append_left _ (List.mem_append_right _ h))) (by decide +kernel))
set_option maxRecDepth 20000 in
theorem gX7_load_X7_checkNumber : GoodIn wsX7_load (va_wsS RX7 19 yX7_checkNumber wsX7_checkNumber) := goodIn_app (goodIn_of _ (by decide +kernel)) ggX7_load_X7_checkNumber
set_option maxRecDepth 20000 in
theorem ggX7_load_X7_checkState : GoodIn wsX7_load wsX7_checkState := goodIn_ca (goodIn_r _ [20, 21, 22] (by decide +kernel) (by decide +kernel)) (goodIn_sub (fun _ h => List.mem_cons_of_mem _ (List.mem_append_right _ h)) (by decide +kernel))
set_option maxRecDepth 20000 in
theorem gX7_load_X7_checkState : GoodIn wsX7_load (va_wsS RX7 27 yX7_checkState wsX7_checkState) := goodIn_app (goodIn_of _ (by decide +kernel)) ggX7_load_X7_checkState
set_option maxRecDepth 20000 in
theorem ggX7_load_X4_stock : GoodIn wsX7_load wsX4_stock := goodIn_r _ [27, 28, 29, 60, 61, 62, 63, 64, 65, 66] (by decide +kernel) (by decide +kernel)
set_option maxRecDepth 20000 in
theorem gX7_load_X4_stock : GoodIn wsX7_load (wsV RX7 101 RX4 yX4_stock wsX4_stock) := goodIn_app (goodIn_of _ (by decide +kernel)) ggX7_load_X4_stock
set_option maxRecDepth 20000 in
theorem ggX7_load_X4_add : GoodIn wsX7_load wsX4_add := goodIn_r _ [33, 28, 29, 60, 61, 62, 63, 64, 65, 66] (by decide +kernel) (by decide +kernel)
set_option maxRecDepth 20000 in
theorem gX7_load_X4_add : GoodIn wsX7_load (wsV RX7 98 RX4 yX4_add wsX4_add) := goodIn_app (goodIn_of _ (by decide +kernel)) ggX7_load_X4_add
set_option maxRecDepth 20000 in
theorem ggX7_load_X2_fill : GoodIn wsX7_load wsX2_fill := goodIn_r _ [38, 39, 40, 41, 55, 56, 57, 58, 59] (by decide +kernel) (by decide +kernel)
set_option maxRecDepth 20000 in
theorem gX7_load_X2_fill : GoodIn wsX7_load (wsV RX7 111 RX2 yX2_fill wsX2_fill) := goodIn_app (goodIn_of _ (by decide +kernel)) ggX7_load_X2_fill
theorem dX7_load_0 : decode cX7_load 0 = .ok (.iload_n 1, 1) := by decide +kernel
theorem dX7_load_1 : decode cX7_load 1 = .ok (.aload_n 0, 1) := by decide +kernel
theorem dX7_load_2 : decode cX7_load 2 = .ok (.getfield 10, 3) := by decide +kernel
theorem dX7_load_5 : decode cX7_load 5 = .ok (.getfield 41, 3) := by decide +kernel
theorem dX7_load_8 : decode cX7_load 8 = .ok (.invokestatic 89, 3) := by decide +kernel
theorem dX7_load_11 : decode cX7_load 11 = .ok (.iload_n 2, 1) := by decide +kernel
theorem dX7_load_12 : decode cX7_load 12 = .ok (.iconst 2, 1) := by decide +kernel
theorem dX7_load_13 : decode cX7_load 13 = .ok (.invokestatic 89, 3) := by decide +kernel
theorem dX7_load_16 : decode cX7_load 16 = .ok (.iload_n 3, 1) := by decide +kernel
theorem dX7_load_17 : decode cX7_load 17 = .ok (.iconst 1, 1) := by decide +kernel
theorem dX7_load_18 : decode cX7_load 18 = .ok (.aload_n 0, 1) := by decide +kernel
theorem dX7_load_19 : decode cX7_load 19 = .ok (.getfield 10, 3) := by decide +kernel
theorem dX7_load_22 : decode cX7_load 22 = .ok (.getfield 44, 3) := by decide +kernel
theorem dX7_load_25 : decode cX7_load 25 = .ok (.iload_n 1, 1) := by decide +kernel
theorem dX7_load_26 : decode cX7_load 26 = .ok (.aaload, 1) := by decide +kernel
theorem dX7_load_27 : decode cX7_load 27 = .ok (.getfield 105, 3) := by decide +kernel
theorem dX7_load_30 : decode cX7_load 30 = .ok (.invokestatic 19, 3) := by decide +kernel
theorem dX7_load_33 : decode cX7_load 33 = .ok (.aload_n 0, 1) := by decide +kernel
theorem dX7_load_34 : decode cX7_load 34 = .ok (.getfield 10, 3) := by decide +kernel
theorem dX7_load_37 : decode cX7_load 37 = .ok (.getfield 44, 3) := by decide +kernel
theorem dX7_load_40 : decode cX7_load 40 = .ok (.iload_n 1, 1) := by decide +kernel
theorem dX7_load_41 : decode cX7_load 41 = .ok (.aaload, 1) := by decide +kernel
theorem dX7_load_42 : decode cX7_load 42 = .ok (.getfield 108, 3) := by decide +kernel
theorem dX7_load_45 : decode cX7_load 45 = .ok (.iconst (-1), 1) := by decide +kernel
theorem dX7_load_46 : decode cX7_load 46 = .ok (.if_icmp .ne 7, 3) := by decide +kernel
theorem dX7_load_49 : decode cX7_load 49 = .ok (.iconst 1, 1) := by decide +kernel
theorem dX7_load_50 : decode cX7_load 50 = .ok (.goto 4, 3) := by decide +kernel
theorem dX7_load_53 : decode cX7_load 53 = .ok (.iconst 0, 1) := by decide +kernel
theorem dX7_load_54 : decode cX7_load 54 = .ok (.invokestatic 27, 3) := by decide +kernel
theorem dX7_load_57 : decode cX7_load 57 = .ok (.aload_n 0, 1) := by decide +kernel
theorem dX7_load_58 : decode cX7_load 58 = .ok (.getfield 10, 3) := by decide +kernel
theorem dX7_load_61 : decode cX7_load 61 = .ok (.getfield 80, 3) := by decide +kernel
theorem dX7_load_64 : decode cX7_load 64 = .ok (.iload_n 2, 1) := by decide +kernel
theorem dX7_load_65 : decode cX7_load 65 = .ok (.invokevirtual 101, 3) := by decide +kernel
theorem dX7_load_68 : decode cX7_load 68 = .ok (.iload_n 3, 1) := by decide +kernel
theorem dX7_load_69 : decode cX7_load 69 = .ok (.if_icmp .lt 7, 3) := by decide +kernel
theorem dX7_load_72 : decode cX7_load 72 = .ok (.iconst 1, 1) := by decide +kernel
theorem dX7_load_73 : decode cX7_load 73 = .ok (.goto 4, 3) := by decide +kernel
theorem dX7_load_76 : decode cX7_load 76 = .ok (.iconst 0, 1) := by decide +kernel
theorem dX7_load_77 : decode cX7_load 77 = .ok (.invokestatic 27, 3) := by decide +kernel
theorem dX7_load_80 : decode cX7_load 80 = .ok (.aload_n 0, 1) := by decide +kernel
theorem dX7_load_81 : decode cX7_load 81 = .ok (.getfield 10, 3) := by decide +kernel
theorem dX7_load_84 : decode cX7_load 84 = .ok (.getfield 80, 3) := by decide +kernel
theorem dX7_load_87 : decode cX7_load 87 = .ok (.iload_n 2, 1) := by decide +kernel
theorem dX7_load_88 : decode cX7_load 88 = .ok (.iload_n 3, 1) := by decide +kernel
theorem dX7_load_89 : decode cX7_load 89 = .ok (.ineg, 1) := by decide +kernel
theorem dX7_load_90 : decode cX7_load 90 = .ok (.invokevirtual 98, 3) := by decide +kernel
theorem dX7_load_93 : decode cX7_load 93 = .ok (.aload_n 0, 1) := by decide +kernel
theorem dX7_load_94 : decode cX7_load 94 = .ok (.getfield 10, 3) := by decide +kernel
theorem dX7_load_97 : decode cX7_load 97 = .ok (.getfield 44, 3) := by decide +kernel
theorem dX7_load_100 : decode cX7_load 100 = .ok (.iload_n 1, 1) := by decide +kernel
theorem dX7_load_101 : decode cX7_load 101 = .ok (.aaload, 1) := by decide +kernel
theorem dX7_load_102 : decode cX7_load 102 = .ok (.iload_n 2, 1) := by decide +kernel
theorem dX7_load_103 : decode cX7_load 103 = .ok (.iload_n 3, 1) := by decide +kernel
theorem dX7_load_104 : decode cX7_load 104 = .ok (.invokevirtual 111, 3) := by decide +kernel
theorem dX7_load_107 : decode cX7_load 107 = .ok (.aload_n 0, 1) := by decide +kernel
theorem dX7_load_108 : decode cX7_load 108 = .ok (.getfield 10, 3) := by decide +kernel
theorem dX7_load_111 : decode cX7_load 111 = .ok (.getfield 80, 3) := by decide +kernel
theorem dX7_load_114 : decode cX7_load 114 = .ok (.iload_n 2, 1) := by decide +kernel
theorem dX7_load_115 : decode cX7_load 115 = .ok (.invokevirtual 101, 3) := by decide +kernel
theorem dX7_load_118 : decode cX7_load 118 = .ok (.ireturn, 1) := by decide +kernel
set_option maxRecDepth 20000 in
theorem ggX7_take_X7_checkIndex : GoodIn wsX7_take wsX7_checkIndex := goodIn_ca (goodIn_r _ [10, 11, 12] (by decide +kernel) (by decide +kernel)) (goodIn_sub (fun _ h => List.mem_cons_of_mem _ (List.mem_append_left _ (List.mem_append_right _ h))) (by decide +kernel))
set_option maxRecDepth 20000 in
theorem gX7_take_X7_checkIndex : GoodIn wsX7_take (va_wsS RX7 89 yX7_checkIndex wsX7_checkIndex) := goodIn_app (goodIn_of _ (by decide +kernel)) ggX7_take_X7_checkIndex
set_option maxRecDepth 20000 in
theorem ggX7_take_X7_checkState : GoodIn wsX7_take wsX7_checkState := goodIn_ca (goodIn_r _ [15, 16, 17] (by decide +kernel) (by decide +kernel)) (goodIn_sub (fun _ h => List.mem_cons_of_mem _ (List.mem_append_right _ h)) (by decide +kernel))
set_option maxRecDepth 20000 in
theorem gX7_take_X7_checkState : GoodIn wsX7_take (va_wsS RX7 27 yX7_checkState wsX7_checkState) := goodIn_app (goodIn_of _ (by decide +kernel)) ggX7_take_X7_checkState
set_option maxRecDepth 20000 in
theorem ggX7_take_X2_partsAt : GoodIn wsX7_take wsX2_partsAt := goodIn_r _ [22, 23, 24, 25, 26, 27, 21, 28, 29, 30, 31, 32, 58, 59, 60, 61, 62] (by decide +kernel) (by decide +kernel)
set_option maxRecDepth 20000 in
theorem gX7_take_X2_partsAt : GoodIn wsX7_take (wsV RX7 117 RX2 yX2_partsAt wsX2_partsAt) := goodIn_app (goodIn_of _ (by decide +kernel)) ggX7_take_X2_partsAt
set_option maxRecDepth 20000 in
theorem ggX7_take_X4_addRoasted : GoodIn wsX7_take wsX4_addRoasted := goodIn_r _ [37, 38, 39, 63, 64, 65, 66, 67, 68, 69] (by decide +kernel) (by decide +kernel)
set_option maxRecDepth 20000 in
theorem gX7_take_X4_addRoasted : GoodIn wsX7_take (wsV RX7 120 RX4 yX4_addRoasted wsX4_addRoasted) := goodIn_app (goodIn_of _ (by decide +kernel)) ggX7_take_X4_addRoasted
set_option maxRecDepth 20000 in
theorem ggX7_take_X2_fill : GoodIn wsX7_take wsX2_fill := goodIn_r _ [43, 23, 24, 44, 58, 59, 60, 61, 62] (by decide +kernel) (by decide +kernel)
set_option maxRecDepth 20000 in
theorem gX7_take_X2_fill : GoodIn wsX7_take (wsV RX7 111 RX2 yX2_fill wsX2_fill) := goodIn_app (goodIn_of _ (by decide +kernel)) ggX7_take_X2_fill
theorem dX7_take_0 : decode cX7_take 0 = .ok (.iload_n 1, 1) := by decide +kernel
theorem dX7_take_1 : decode cX7_take 1 = .ok (.aload_n 0, 1) := by decide +kernel
theorem dX7_take_2 : decode cX7_take 2 = .ok (.getfield 10, 3) := by decide +kernel
theorem dX7_take_5 : decode cX7_take 5 = .ok (.getfield 41, 3) := by decide +kernel
theorem dX7_take_8 : decode cX7_take 8 = .ok (.invokestatic 89, 3) := by decide +kernel
theorem dX7_take_11 : decode cX7_take 11 = .ok (.aload_n 0, 1) := by decide +kernel
theorem dX7_take_12 : decode cX7_take 12 = .ok (.getfield 10, 3) := by decide +kernel
theorem dX7_take_15 : decode cX7_take 15 = .ok (.getfield 44, 3) := by decide +kernel
theorem dX7_take_18 : decode cX7_take 18 = .ok (.iload_n 1, 1) := by decide +kernel
theorem dX7_take_19 : decode cX7_take 19 = .ok (.aaload, 1) := by decide +kernel
theorem dX7_take_20 : decode cX7_take 20 = .ok (.astore_n 2, 1) := by decide +kernel
theorem dX7_take_21 : decode cX7_take 21 = .ok (.aload_n 2, 1) := by decide +kernel
theorem dX7_take_22 : decode cX7_take 22 = .ok (.getfield 108, 3) := by decide +kernel
theorem dX7_take_25 : decode cX7_take 25 = .ok (.iconst (-1), 1) := by decide +kernel
theorem dX7_take_26 : decode cX7_take 26 = .ok (.if_icmp .eq 7, 3) := by decide +kernel
theorem dX7_take_29 : decode cX7_take 29 = .ok (.iconst 1, 1) := by decide +kernel
theorem dX7_take_30 : decode cX7_take 30 = .ok (.goto 4, 3) := by decide +kernel
theorem dX7_take_33 : decode cX7_take 33 = .ok (.iconst 0, 1) := by decide +kernel
theorem dX7_take_34 : decode cX7_take 34 = .ok (.invokestatic 27, 3) := by decide +kernel
theorem dX7_take_37 : decode cX7_take 37 = .ok (.aload_n 2, 1) := by decide +kernel
theorem dX7_take_38 : decode cX7_take 38 = .ok (.aload_n 2, 1) := by decide +kernel
theorem dX7_take_39 : decode cX7_take 39 = .ok (.getfield 114, 3) := by decide +kernel
theorem dX7_take_42 : decode cX7_take 42 = .ok (.invokevirtual 117, 3) := by decide +kernel
theorem dX7_take_45 : decode cX7_take 45 = .ok (.istore_n 3, 1) := by decide +kernel
theorem dX7_take_46 : decode cX7_take 46 = .ok (.aload_n 0, 1) := by decide +kernel
theorem dX7_take_47 : decode cX7_take 47 = .ok (.getfield 10, 3) := by decide +kernel
theorem dX7_take_50 : decode cX7_take 50 = .ok (.getfield 80, 3) := by decide +kernel
theorem dX7_take_53 : decode cX7_take 53 = .ok (.aload_n 2, 1) := by decide +kernel
theorem dX7_take_54 : decode cX7_take 54 = .ok (.getfield 108, 3) := by decide +kernel
theorem dX7_take_57 : decode cX7_take 57 = .ok (.iload_n 3, 1) := by decide +kernel
theorem dX7_take_58 : decode cX7_take 58 = .ok (.invokevirtual 120, 3) := by decide +kernel
theorem dX7_take_61 : decode cX7_take 61 = .ok (.aload_n 2, 1) := by decide +kernel
theorem dX7_take_62 : decode cX7_take 62 = .ok (.iconst (-1), 1) := by decide +kernel
theorem dX7_take_63 : decode cX7_take 63 = .ok (.iconst 0, 1) := by decide +kernel
theorem dX7_take_64 : decode cX7_take 64 = .ok (.invokevirtual 111, 3) := by decide +kernel
theorem dX7_take_67 : decode cX7_take 67 = .ok (.iload_n 3, 1) := by decide +kernel
theorem dX7_take_68 : decode cX7_take 68 = .ok (.ireturn, 1) := by decide +kernel
set_option maxRecDepth 20000 in
theorem ggX7_send_X7_checkIndex : GoodIn wsX7_send wsX7_checkIndex := goodIn_ca (goodIn_r _ [9, 10, 11] (by decide +kernel) (by decide +kernel)) (goodIn_sub (fun _ h => List.mem_cons_of_mem _ (List.mem_append_left _ (List.mem_append_right _ h))) (by decide +kernel))
set_option maxRecDepth 20000 in
theorem gX7_send_X7_checkIndex : GoodIn wsX7_send (va_wsS RX7 89 yX7_checkIndex wsX7_checkIndex) := goodIn_app (goodIn_of _ (by decide +kernel)) ggX7_send_X7_checkIndex
set_option maxRecDepth 20000 in
theorem ggX7_send_X7_checkState : GoodIn wsX7_send wsX7_checkState := goodIn_ca (goodIn_r _ [14, 15, 16] (by decide +kernel) (by decide +kernel)) (goodIn_sub (fun _ h => List.mem_cons_of_mem _ (List.mem_append_right _ h)) (by decide +kernel))
set_option maxRecDepth 20000 in
theorem gX7_send_X7_checkState : GoodIn wsX7_send (va_wsS RX7 27 yX7_checkState wsX7_checkState) := goodIn_app (goodIn_of _ (by decide +kernel)) ggX7_send_X7_checkState
set_option maxRecDepth 20000 in
theorem ggX7_send_X3_setOut : GoodIn wsX7_send wsX3_setOut := goodIn_r _ [21, 22, 23, 24, 38, 39, 40, 41, 42] (by decide +kernel) (by decide +kernel)
set_option maxRecDepth 20000 in
theorem gX7_send_X3_setOut : GoodIn wsX7_send (wsV RX7 126 RX3 yX3_setOut wsX3_setOut) := goodIn_app (goodIn_of _ (by decide +kernel)) ggX7_send_X3_setOut
theorem dX7_send_0 : decode cX7_send 0 = .ok (.iload_n 1, 1) := by decide +kernel
theorem dX7_send_1 : decode cX7_send 1 = .ok (.aload_n 0, 1) := by decide +kernel
theorem dX7_send_2 : decode cX7_send 2 = .ok (.getfield 10, 3) := by decide +kernel
theorem dX7_send_5 : decode cX7_send 5 = .ok (.getfield 53, 3) := by decide +kernel
theorem dX7_send_8 : decode cX7_send 8 = .ok (.invokestatic 89, 3) := by decide +kernel
theorem dX7_send_11 : decode cX7_send 11 = .ok (.aload_n 0, 1) := by decide +kernel
theorem dX7_send_12 : decode cX7_send 12 = .ok (.getfield 10, 3) := by decide +kernel
theorem dX7_send_15 : decode cX7_send 15 = .ok (.getfield 56, 3) := by decide +kernel
theorem dX7_send_18 : decode cX7_send 18 = .ok (.iload_n 1, 1) := by decide +kernel
theorem dX7_send_19 : decode cX7_send 19 = .ok (.aaload, 1) := by decide +kernel
theorem dX7_send_20 : decode cX7_send 20 = .ok (.getfield 123, 3) := by decide +kernel
theorem dX7_send_23 : decode cX7_send 23 = .ok (.ifCond .ne 7, 3) := by decide +kernel
theorem dX7_send_26 : decode cX7_send 26 = .ok (.iconst 1, 1) := by decide +kernel
theorem dX7_send_27 : decode cX7_send 27 = .ok (.goto 4, 3) := by decide +kernel
theorem dX7_send_30 : decode cX7_send 30 = .ok (.iconst 0, 1) := by decide +kernel
theorem dX7_send_31 : decode cX7_send 31 = .ok (.invokestatic 27, 3) := by decide +kernel
theorem dX7_send_34 : decode cX7_send 34 = .ok (.aload_n 0, 1) := by decide +kernel
theorem dX7_send_35 : decode cX7_send 35 = .ok (.getfield 10, 3) := by decide +kernel
theorem dX7_send_38 : decode cX7_send 38 = .ok (.getfield 56, 3) := by decide +kernel
theorem dX7_send_41 : decode cX7_send 41 = .ok (.iload_n 1, 1) := by decide +kernel
theorem dX7_send_42 : decode cX7_send 42 = .ok (.aaload, 1) := by decide +kernel
theorem dX7_send_43 : decode cX7_send 43 = .ok (.invokevirtual 126, 3) := by decide +kernel
theorem dX7_send_46 : decode cX7_send 46 = .ok (.aload_n 0, 1) := by decide +kernel
theorem dX7_send_47 : decode cX7_send 47 = .ok (.getfield 10, 3) := by decide +kernel
theorem dX7_send_50 : decode cX7_send 50 = .ok (.getfield 56, 3) := by decide +kernel
theorem dX7_send_53 : decode cX7_send 53 = .ok (.iload_n 1, 1) := by decide +kernel
theorem dX7_send_54 : decode cX7_send 54 = .ok (.aaload, 1) := by decide +kernel
theorem dX7_send_55 : decode cX7_send 55 = .ok (.getfield 129, 3) := by decide +kernel
theorem dX7_send_58 : decode cX7_send 58 = .ok (.ireturn, 1) := by decide +kernel
set_option maxRecDepth 20000 in
theorem ggX7_about_X7_checkIndex : GoodIn wsX7_about wsX7_checkIndex := goodIn_ca (goodIn_r _ [7, 8, 9] (by decide +kernel) (by decide +kernel)) (goodIn_sub (fun _ h => List.mem_cons_of_mem _ (List.mem_append_right _ h)) (by decide +kernel))
set_option maxRecDepth 20000 in
theorem gX7_about_X7_checkIndex : GoodIn wsX7_about (va_wsS RX7 89 yX7_checkIndex wsX7_checkIndex) := goodIn_app (goodIn_of _ (by decide +kernel)) ggX7_about_X7_checkIndex
set_option maxRecDepth 20000 in
theorem ggX7_about_X7_ask : GoodIn wsX7_about wsX7_ask := goodIn_ca (goodIn_r _ [12, 13, 14, 15, 16, 17, 18, 19, 20, 21, 22, 23, 24, 25, 26, 27, 28, 29, 30, 31, 32, 33, 34, 4, 5, 6, 7, 8, 9, 35, 36, 37, 38, 39, 40, 41, 42, 43, 44, 45, 46, 47, 48, 49, 50, 51, 52, 53, 54, 55, 56, 57, 58, 59, 60, 61, 62, 63, 64, 65, 66, 67, 68, 69, 70, 71, 72, 73, 74, 75, 76, 77, 78, 79, 80, 81, 82, 83, 84, 85, 86, 87, 88, 89, 90, 91, 105, 106, 107, 108, 109, 110, 111, 112, 113, 114, 115, 116, 117, 118, 119, 120, 121, 122, 94, 95, 96, 97, 98, 99, 100, 101, 102, 103, 104, 123, 124, 125, 126, 127, 128, 129] (by decide +kernel) (by decide +kernel)) (goodIn_sub (fun _ h => List.mem_cons_of_mem _ (List.mem_append_right _ h)) (by decide +kernel))
set_option maxRecDepth 20000 in
theorem gX7_about_X7_ask : GoodIn wsX7_about (va_wsS RX7 132 yX7_ask wsX7_ask) := goodIn_app (goodIn_of _ (by decide +kernel)) ggX7_about_X7_ask
theorem dX7_about_0 : decode cX7_about 0 = .ok (.iload_n 1, 1) := by decide +kernel
theorem dX7_about_1 : decode cX7_about 1 = .ok (.aload_n 0, 1) := by decide +kernel
theorem dX7_about_2 : decode cX7_about 2 = .ok (.getfield 10, 3) := by decide +kernel
theorem dX7_about_5 : decode cX7_about 5 = .ok (.getfield 23, 3) := by decide +kernel
theorem dX7_about_8 : decode cX7_about 8 = .ok (.invokestatic 89, 3) := by decide +kernel
theorem dX7_about_11 : decode cX7_about 11 = .ok (.aload_n 0, 1) := by decide +kernel
theorem dX7_about_12 : decode cX7_about 12 = .ok (.getfield 10, 3) := by decide +kernel
theorem dX7_about_15 : decode cX7_about 15 = .ok (.getfield 31, 3) := by decide +kernel
theorem dX7_about_18 : decode cX7_about 18 = .ok (.iload_n 1, 1) := by decide +kernel
theorem dX7_about_19 : decode cX7_about 19 = .ok (.aaload, 1) := by decide +kernel
theorem dX7_about_20 : decode cX7_about 20 = .ok (.iload_n 2, 1) := by decide +kernel
theorem dX7_about_21 : decode cX7_about 21 = .ok (.invokestatic 132, 3) := by decide +kernel
theorem dX7_about_24 : decode cX7_about 24 = .ok (.ireturn, 1) := by decide +kernel
set_option maxRecDepth 20000 in
theorem ggX7_roast_X7_checkIndex : GoodIn wsX7_roast wsX7_checkIndex := goodIn_ca (goodIn_r _ [7, 8, 9] (by decide +kernel) (by decide +kernel)) (goodIn_sub (fun _ h => List.mem_cons_of_mem _ (List.mem_append_right _ h)) (by decide +kernel))
set_option maxRecDepth 20000 in
theorem gX7_roast_X7_checkIndex : GoodIn wsX7_roast (va_wsS RX7 89 yX7_checkIndex wsX7_checkIndex) := goodIn_app (goodIn_of _ (by decide +kernel)) ggX7_roast_X7_checkIndex
set_option maxRecDepth 20000 in
theorem ggX7_roast_X7_ask : GoodIn wsX7_roast wsX7_ask := goodIn_ca (goodIn_r _ [12, 13, 14, 15, 16, 17, 18, 19, 20, 21, 22, 23, 24, 25, 26, 27, 28, 29, 30, 31, 32, 33, 34, 4, 5, 6, 7, 8, 9, 35, 36, 37, 38, 39, 40, 41, 42, 43, 44, 45, 46, 47, 48, 49, 50, 51, 52, 53, 54, 55, 56, 57, 58, 59, 60, 61, 62, 63, 64, 65, 66, 67, 68, 69, 70, 71, 72, 73, 74, 75, 76, 77, 78, 79, 80, 81, 82, 83, 84, 85, 86, 87, 88, 89, 90, 91, 105, 106, 107, 108, 109, 110, 111, 112, 113, 114, 115, 116, 117, 118, 119, 120, 121, 122, 94, 95, 96, 97, 98, 99, 100, 101, 102, 103, 104, 123, 124, 125, 126, 127, 128, 129] (by decide +kernel) (by decide +kernel)) (goodIn_sub (fun _ h => List.mem_cons_of_mem _ (List.mem_append_right _ h)) (by decide +kernel))
set_option maxRecDepth 20000 in
theorem gX7_roast_X7_ask : GoodIn wsX7_roast (va_wsS RX7 132 yX7_ask wsX7_ask) := goodIn_app (goodIn_of _ (by decide +kernel)) ggX7_roast_X7_ask
theorem dX7_roast_0 : decode cX7_roast 0 = .ok (.iload_n 1, 1) := by decide +kernel
theorem dX7_roast_1 : decode cX7_roast 1 = .ok (.aload_n 0, 1) := by decide +kernel
theorem dX7_roast_2 : decode cX7_roast 2 = .ok (.getfield 10, 3) := by decide +kernel
theorem dX7_roast_5 : decode cX7_roast 5 = .ok (.getfield 41, 3) := by decide +kernel
theorem dX7_roast_8 : decode cX7_roast 8 = .ok (.invokestatic 89, 3) := by decide +kernel
theorem dX7_roast_11 : decode cX7_roast 11 = .ok (.aload_n 0, 1) := by decide +kernel
theorem dX7_roast_12 : decode cX7_roast 12 = .ok (.getfield 10, 3) := by decide +kernel
theorem dX7_roast_15 : decode cX7_roast 15 = .ok (.getfield 44, 3) := by decide +kernel
theorem dX7_roast_18 : decode cX7_roast 18 = .ok (.iload_n 1, 1) := by decide +kernel
theorem dX7_roast_19 : decode cX7_roast 19 = .ok (.aaload, 1) := by decide +kernel
theorem dX7_roast_20 : decode cX7_roast 20 = .ok (.iload_n 2, 1) := by decide +kernel
theorem dX7_roast_21 : decode cX7_roast 21 = .ok (.invokestatic 132, 3) := by decide +kernel
theorem dX7_roast_24 : decode cX7_roast 24 = .ok (.ireturn, 1) := by decide +kernel
set_option maxRecDepth 20000 in
theorem ggX7_told_X7_checkIndex : GoodIn wsX7_told wsX7_checkIndex := goodIn_ca (goodIn_r _ [7, 8, 9] (by decide +kernel) (by decide +kernel)) (goodIn_sub (fun _ h => List.mem_cons_of_mem _ (List.mem_append_right _ h)) (by decide +kernel))
set_option maxRecDepth 20000 in
theorem gX7_told_X7_checkIndex : GoodIn wsX7_told (va_wsS RX7 89 yX7_checkIndex wsX7_checkIndex) := goodIn_app (goodIn_of _ (by decide +kernel)) ggX7_told_X7_checkIndex
set_option maxRecDepth 20000 in
theorem ggX7_told_X7_ask : GoodIn wsX7_told wsX7_ask := goodIn_ca (goodIn_r _ [12, 13, 14, 15, 16, 17, 18, 19, 20, 21, 22, 23, 24, 25, 26, 27, 28, 29, 30, 31, 32, 33, 34, 4, 5, 6, 7, 8, 9, 35, 36, 37, 38, 39, 40, 41, 42, 43, 44, 45, 46, 47, 48, 49, 50, 51, 52, 53, 54, 55, 56, 57, 58, 59, 60, 61, 62, 63, 64, 65, 66, 67, 68, 69, 70, 71, 72, 73, 74, 75, 76, 77, 78, 79, 80, 81, 82, 83, 84, 85, 86, 87, 88, 89, 90, 91, 105, 106, 107, 108, 109, 110, 111, 112, 113, 114, 115, 116, 117, 118, 119, 120, 121, 122, 94, 95, 96, 97, 98, 99, 100, 101, 102, 103, 104, 123, 124, 125, 126, 127, 128, 129] (by decide +kernel) (by decide +kernel)) (goodIn_sub (fun _ h => List.mem_cons_of_mem _ (List.mem_append_right _ h)) (by decide +kernel))
set_option maxRecDepth 20000 in
theorem gX7_told_X7_ask : GoodIn wsX7_told (va_wsS RX7 132 yX7_ask wsX7_ask) := goodIn_app (goodIn_of _ (by decide +kernel)) ggX7_told_X7_ask
theorem dX7_told_0 : decode cX7_told 0 = .ok (.iload_n 1, 1) := by decide +kernel
theorem dX7_told_1 : decode cX7_told 1 = .ok (.aload_n 0, 1) := by decide +kernel
theorem dX7_told_2 : decode cX7_told 2 = .ok (.getfield 10, 3) := by decide +kernel
theorem dX7_told_5 : decode cX7_told 5 = .ok (.getfield 53, 3) := by decide +kernel
theorem dX7_told_8 : decode cX7_told 8 = .ok (.invokestatic 89, 3) := by decide +kernel
theorem dX7_told_11 : decode cX7_told 11 = .ok (.aload_n 0, 1) := by decide +kernel
theorem dX7_told_12 : decode cX7_told 12 = .ok (.getfield 10, 3) := by decide +kernel
theorem dX7_told_15 : decode cX7_told 15 = .ok (.getfield 56, 3) := by decide +kernel
theorem dX7_told_18 : decode cX7_told 18 = .ok (.iload_n 1, 1) := by decide +kernel
theorem dX7_told_19 : decode cX7_told 19 = .ok (.aaload, 1) := by decide +kernel
theorem dX7_told_20 : decode cX7_told 20 = .ok (.iload_n 2, 1) := by decide +kernel
theorem dX7_told_21 : decode cX7_told 21 = .ok (.invokestatic 132, 3) := by decide +kernel
theorem dX7_told_24 : decode cX7_told 24 = .ok (.ireturn, 1) := by decide +kernel
set_option maxRecDepth 20000 in
theorem ggX7_ration_X7_checkIndex : GoodIn wsX7_ration wsX7_checkIndex := goodIn_ca (goodIn_r _ [7, 8, 9] (by decide +kernel) (by decide +kernel)) (goodIn_sub (fun _ h => List.mem_cons_of_mem _ (List.mem_append_right _ h)) (by decide +kernel))
set_option maxRecDepth 20000 in
theorem gX7_ration_X7_checkIndex : GoodIn wsX7_ration (va_wsS RX7 89 yX7_checkIndex wsX7_checkIndex) := goodIn_app (goodIn_of _ (by decide +kernel)) ggX7_ration_X7_checkIndex
set_option maxRecDepth 20000 in
theorem ggX7_ration_X7_ask : GoodIn wsX7_ration wsX7_ask := goodIn_ca (goodIn_r _ [12, 13, 14, 15, 16, 17, 18, 19, 20, 21, 22, 23, 24, 25, 26, 27, 28, 29, 30, 31, 32, 33, 34, 4, 5, 6, 7, 8, 9, 35, 36, 37, 38, 39, 40, 41, 42, 43, 44, 45, 46, 47, 48, 49, 50, 51, 52, 53, 54, 55, 56, 57, 58, 59, 60, 61, 62, 63, 64, 65, 66, 67, 68, 69, 70, 71, 72, 73, 74, 75, 76, 77, 78, 79, 80, 81, 82, 83, 84, 85, 86, 87, 88, 89, 90, 91, 105, 106, 107, 108, 109, 110, 111, 112, 113, 114, 115, 116, 117, 118, 119, 120, 121, 122, 94, 95, 96, 97, 98, 99, 100, 101, 102, 103, 104, 123, 124, 125, 126, 127, 128, 129] (by decide +kernel) (by decide +kernel)) (goodIn_sub (fun _ h => List.mem_cons_of_mem _ (List.mem_append_right _ h)) (by decide +kernel))
set_option maxRecDepth 20000 in
theorem gX7_ration_X7_ask : GoodIn wsX7_ration (va_wsS RX7 132 yX7_ask wsX7_ask) := goodIn_app (goodIn_of _ (by decide +kernel)) ggX7_ration_X7_ask
theorem dX7_ration_0 : decode cX7_ration 0 = .ok (.iload_n 1, 1) := by decide +kernel
theorem dX7_ration_1 : decode cX7_ration 1 = .ok (.aload_n 0, 1) := by decide +kernel
theorem dX7_ration_2 : decode cX7_ration 2 = .ok (.getfield 10, 3) := by decide +kernel
theorem dX7_ration_5 : decode cX7_ration 5 = .ok (.getfield 65, 3) := by decide +kernel
theorem dX7_ration_8 : decode cX7_ration 8 = .ok (.invokestatic 89, 3) := by decide +kernel
theorem dX7_ration_11 : decode cX7_ration 11 = .ok (.aload_n 0, 1) := by decide +kernel
theorem dX7_ration_12 : decode cX7_ration 12 = .ok (.getfield 10, 3) := by decide +kernel
theorem dX7_ration_15 : decode cX7_ration 15 = .ok (.getfield 68, 3) := by decide +kernel
theorem dX7_ration_18 : decode cX7_ration 18 = .ok (.iload_n 1, 1) := by decide +kernel
theorem dX7_ration_19 : decode cX7_ration 19 = .ok (.aaload, 1) := by decide +kernel
theorem dX7_ration_20 : decode cX7_ration 20 = .ok (.iload_n 2, 1) := by decide +kernel
theorem dX7_ration_21 : decode cX7_ration 21 = .ok (.invokestatic 132, 3) := by decide +kernel
theorem dX7_ration_24 : decode cX7_ration 24 = .ok (.ireturn, 1) := by decide +kernel
set_option maxRecDepth 20000 in
theorem ggX7_count_X7_ask : GoodIn wsX7_count wsX7_ask := goodIn_ca (goodIn_r _ [5, 6, 7, 8, 9, 10, 11, 12, 13, 14, 15, 16, 17, 18, 19, 20, 21, 22, 23, 24, 25, 26, 27, 28, 29, 4, 30, 31, 32, 33, 34, 35, 36, 37, 38, 39, 40, 41, 42, 43, 44, 45, 46, 47, 48, 49, 50, 51, 52, 53, 54, 55, 56, 57, 58, 59, 60, 61, 62, 63, 64, 65, 66, 67, 68, 69, 70, 71, 72, 73, 74, 75, 76, 77, 78, 79, 80, 81, 82, 83, 84, 85, 86, 87, 88, 89, 92, 93, 94, 95, 96, 97, 98, 99, 100, 101, 102, 103, 104, 105, 106, 107, 108, 109, 110, 111, 112, 113, 114, 115, 116, 117, 118, 119, 120, 121, 122, 123, 124, 125, 126, 127] (by decide +kernel) (by decide +kernel)) (goodIn_sub (fun _ h => List.mem_cons_of_mem _ (List.mem_append_right _ h)) (by decide +kernel))
set_option maxRecDepth 20000 in
theorem gX7_count_X7_ask : GoodIn wsX7_count (va_wsS RX7 132 yX7_ask wsX7_ask) := goodIn_app (goodIn_of _ (by decide +kernel)) ggX7_count_X7_ask
theorem dX7_count_0 : decode cX7_count 0 = .ok (.aload_n 0, 1) := by decide +kernel
theorem dX7_count_1 : decode cX7_count 1 = .ok (.getfield 10, 3) := by decide +kernel
theorem dX7_count_4 : decode cX7_count 4 = .ok (.iload_n 1, 1) := by decide +kernel
theorem dX7_count_5 : decode cX7_count 5 = .ok (.invokestatic 132, 3) := by decide +kernel
theorem dX7_count_8 : decode cX7_count 8 = .ok (.ireturn, 1) := by decide +kernel
set_option maxRecDepth 20000 in
theorem ggX7_pass_X7_checkNumber : GoodIn wsX7_pass wsX7_checkNumber := goodIn_ca (goodIn_r _ [5, 6, 7] (by decide +kernel) (by decide +kernel)) (goodIn_sub (fun _ h => List.mem_cons_of_mem _ (List.mem_append_right _ h)) (by decide +kernel))
set_option maxRecDepth 20000 in
theorem gX7_pass_X7_checkNumber : GoodIn wsX7_pass (va_wsS RX7 19 yX7_checkNumber wsX7_checkNumber) := goodIn_app (goodIn_of _ (by decide +kernel)) ggX7_pass_X7_checkNumber
set_option maxRecDepth 20000 in
theorem ggX7_pass_X6_live : GoodIn wsX7_pass wsX6_live := goodIn_r _ [12, 13, 14, 15, 16, 11, 17, 18, 19, 20, 21, 22, 23, 24, 25, 26, 27, 28, 29, 30, 31, 32, 33, 34, 35, 36, 37, 38, 39, 40, 41, 42, 43, 44, 45, 46, 47, 48, 49, 50, 51, 52, 53, 54, 55, 56, 57, 58, 59, 60, 61, 62, 63, 64, 65, 66, 67, 68, 69, 70, 71, 72, 73, 74, 75, 76, 77, 78, 79, 80, 81, 82, 83, 84, 85, 86, 87, 88, 89, 90, 91, 92, 93, 94, 95, 96, 97, 98, 99, 100, 101, 102, 103, 104, 105, 106, 107, 108, 109, 110, 111, 112, 113, 114, 115, 116, 117, 118, 119, 120, 121, 122, 123, 124, 125, 126, 127, 128, 129, 132, 133, 134, 135, 136, 137, 138, 139, 140, 141, 142, 143, 144, 145, 146, 147, 148, 149, 150, 151, 152, 153, 154, 155, 156, 157, 158, 159, 160, 161, 162, 163, 164, 165, 166, 167] (by decide +kernel) (by decide +kernel)
set_option maxRecDepth 20000 in
theorem gX7_pass_X6_live : GoodIn wsX7_pass (wsV RX7 136 RX6 yX6_live wsX6_live) := goodIn_app (goodIn_of _ (by decide +kernel)) ggX7_pass_X6_live
theorem dX7_pass_0 : decode cX7_pass 0 = .ok (.iload_n 1, 1) := by decide +kernel
theorem dX7_pass_1 : decode cX7_pass 1 = .ok (.iconst 1, 1) := by decide +kernel
theorem dX7_pass_2 : decode cX7_pass 2 = .ok (.bipush 60, 2) := by decide +kernel
theorem dX7_pass_4 : decode cX7_pass 4 = .ok (.invokestatic 19, 3) := by decide +kernel
theorem dX7_pass_7 : decode cX7_pass 7 = .ok (.aload_n 0, 1) := by decide +kernel
theorem dX7_pass_8 : decode cX7_pass 8 = .ok (.getfield 10, 3) := by decide +kernel
theorem dX7_pass_11 : decode cX7_pass 11 = .ok (.iload_n 1, 1) := by decide +kernel
theorem dX7_pass_12 : decode cX7_pass 12 = .ok (.invokevirtual 136, 3) := by decide +kernel
theorem dX7_pass_15 : decode cX7_pass 15 = .ok (.ireturn, 1) := by decide +kernel
theorem dX7_mean_0 : decode cX7_mean 0 = .ok (.aload_n 0, 1) := by decide +kernel
theorem dX7_mean_1 : decode cX7_mean 1 = .ok (.getfield 10, 3) := by decide +kernel
theorem dX7_mean_4 : decode cX7_mean 4 = .ok (.getfield 65, 3) := by decide +kernel
theorem dX7_mean_7 : decode cX7_mean 7 = .ok (.ifCond .ne 5, 3) := by decide +kernel
theorem dX7_mean_10 : decode cX7_mean 10 = .ok (.dconst 0, 1) := by decide +kernel
theorem dX7_mean_11 : decode cX7_mean 11 = .ok (.dreturn, 1) := by decide +kernel
theorem dX7_mean_12 : decode cX7_mean 12 = .ok (.aload_n 0, 1) := by decide +kernel
theorem dX7_mean_13 : decode cX7_mean 13 = .ok (.getfield 10, 3) := by decide +kernel
theorem dX7_mean_16 : decode cX7_mean 16 = .ok (.getfield 80, 3) := by decide +kernel
theorem dX7_mean_19 : decode cX7_mean 19 = .ok (.getfield 167, 3) := by decide +kernel
theorem dX7_mean_22 : decode cX7_mean 22 = .ok (.i2d, 1) := by decide +kernel
theorem dX7_mean_23 : decode cX7_mean 23 = .ok (.aload_n 0, 1) := by decide +kernel
theorem dX7_mean_24 : decode cX7_mean 24 = .ok (.getfield 10, 3) := by decide +kernel
theorem dX7_mean_27 : decode cX7_mean 27 = .ok (.getfield 65, 3) := by decide +kernel
theorem dX7_mean_30 : decode cX7_mean 30 = .ok (.i2d, 1) := by decide +kernel
theorem dX7_mean_31 : decode cX7_mean 31 = .ok (.ddiv, 1) := by decide +kernel
theorem dX7_mean_32 : decode cX7_mean 32 = .ok (.dreturn, 1) := by decide +kernel
theorem dX7_checkIndex_0 : decode cX7_checkIndex 0 = .ok (.iload_n 0, 1) := by decide +kernel
theorem dX7_checkIndex_1 : decode cX7_checkIndex 1 = .ok (.ifCond .lt 8, 3) := by decide +kernel
theorem dX7_checkIndex_4 : decode cX7_checkIndex 4 = .ok (.iload_n 0, 1) := by decide +kernel
theorem dX7_checkIndex_5 : decode cX7_checkIndex 5 = .ok (.iload_n 1, 1) := by decide +kernel
theorem dX7_checkIndex_6 : decode cX7_checkIndex 6 = .ok (.if_icmp .lt 13, 3) := by decide +kernel
theorem dX7_checkIndex_9 : decode cX7_checkIndex 9 = .ok (.new 139, 3) := by decide +kernel
theorem dX7_checkIndex_12 : decode cX7_checkIndex 12 = .ok (.dup, 1) := by decide +kernel
theorem dX7_checkIndex_13 : decode cX7_checkIndex 13 = .ok (.ldc 180, 2) := by decide +kernel
theorem dX7_checkIndex_15 : decode cX7_checkIndex 15 = .ok (.invokespecial 143, 3) := by decide +kernel
theorem dX7_checkIndex_18 : decode cX7_checkIndex 18 = .ok (.athrow, 1) := by decide +kernel
theorem dX7_checkIndex_19 : decode cX7_checkIndex 19 = .ok (.return_, 1) := by decide +kernel
theorem dX7_checkNumber_0 : decode cX7_checkNumber 0 = .ok (.iload_n 0, 1) := by decide +kernel
theorem dX7_checkNumber_1 : decode cX7_checkNumber 1 = .ok (.iload_n 1, 1) := by decide +kernel
theorem dX7_checkNumber_2 : decode cX7_checkNumber 2 = .ok (.if_icmp .lt 8, 3) := by decide +kernel
theorem dX7_checkNumber_5 : decode cX7_checkNumber 5 = .ok (.iload_n 0, 1) := by decide +kernel
theorem dX7_checkNumber_6 : decode cX7_checkNumber 6 = .ok (.iload_n 2, 1) := by decide +kernel
theorem dX7_checkNumber_7 : decode cX7_checkNumber 7 = .ok (.if_icmp .le 13, 3) := by decide +kernel
theorem dX7_checkNumber_10 : decode cX7_checkNumber 10 = .ok (.new 182, 3) := by decide +kernel
theorem dX7_checkNumber_13 : decode cX7_checkNumber 13 = .ok (.dup, 1) := by decide +kernel
theorem dX7_checkNumber_14 : decode cX7_checkNumber 14 = .ok (.ldc 184, 2) := by decide +kernel
theorem dX7_checkNumber_16 : decode cX7_checkNumber 16 = .ok (.invokespecial 186, 3) := by decide +kernel
theorem dX7_checkNumber_19 : decode cX7_checkNumber 19 = .ok (.athrow, 1) := by decide +kernel
theorem dX7_checkNumber_20 : decode cX7_checkNumber 20 = .ok (.return_, 1) := by decide +kernel
theorem dX7_checkState_0 : decode cX7_checkState 0 = .ok (.iload_n 0, 1) := by decide +kernel
theorem dX7_checkState_1 : decode cX7_checkState 1 = .ok (.ifCond .ne 13, 3) := by decide +kernel
theorem dX7_checkState_4 : decode cX7_checkState 4 = .ok (.new 187, 3) := by decide +kernel
theorem dX7_checkState_7 : decode cX7_checkState 7 = .ok (.dup, 1) := by decide +kernel
theorem dX7_checkState_8 : decode cX7_checkState 8 = .ok (.ldc 189, 2) := by decide +kernel
theorem dX7_checkState_10 : decode cX7_checkState 10 = .ok (.invokespecial 191, 3) := by decide +kernel
theorem dX7_checkState_13 : decode cX7_checkState 13 = .ok (.athrow, 1) := by decide +kernel
theorem dX7_checkState_14 : decode cX7_checkState 14 = .ok (.return_, 1) := by decide +kernel
set_option maxRecDepth 20000 in
theorem ggX7_ask_X0_size : GoodIn wsX7_ask wsX0_size := goodIn_r _ [6] (by decide +kernel) (by decide +kernel)
set_option maxRecDepth 20000 in
theorem gX7_ask_X0_size_u192X0 : GoodIn wsX7_ask (va_wsU RX7 192 RX0 "ChicoryRoasters$Teller" ⟨"ChicoryRoasters$Teller", "size", "()I"⟩ yX0_size wsX0_size) := goodIn_app (goodIn_of _ (by decide +kernel)) ggX7_ask_X0_size
set_option maxRecDepth 20000 in
theorem ggX7_ask_X1_size : GoodIn wsX7_ask wsX1_size := goodIn_r _ [10] (by decide +kernel) (by decide +kernel)
set_option maxRecDepth 20000 in
theorem gX7_ask_X1_size_u192X1 : GoodIn wsX7_ask (va_wsU RX7 192 RX1 "ChicoryRoasters$Teller" ⟨"ChicoryRoasters$Teller", "size", "()I"⟩ yX1_size wsX1_size) := goodIn_app (goodIn_of _ (by decide +kernel)) ggX7_ask_X1_size
set_option maxRecDepth 20000 in
theorem ggX7_ask_X2_size : GoodIn wsX7_ask wsX2_size := goodIn_r _ [14] (by decide +kernel) (by decide +kernel)
set_option maxRecDepth 20000 in
theorem gX7_ask_X2_size_u192X2 : GoodIn wsX7_ask (va_wsU RX7 192 RX2 "ChicoryRoasters$Teller" ⟨"ChicoryRoasters$Teller", "size", "()I"⟩ yX2_size wsX2_size) := goodIn_app (goodIn_of _ (by decide +kernel)) ggX7_ask_X2_size
set_option maxRecDepth 20000 in
theorem ggX7_ask_X3_size : GoodIn wsX7_ask wsX3_size := goodIn_r _ [18] (by decide +kernel) (by decide +kernel)
set_option maxRecDepth 20000 in
theorem gX7_ask_X3_size_u192X3 : GoodIn wsX7_ask (va_wsU RX7 192 RX3 "ChicoryRoasters$Teller" ⟨"ChicoryRoasters$Teller", "size", "()I"⟩ yX3_size wsX3_size) := goodIn_app (goodIn_of _ (by decide +kernel)) ggX7_ask_X3_size
set_option maxRecDepth 20000 in
theorem ggX7_ask_X6_size : GoodIn wsX7_ask wsX6_size := goodIn_r _ [22] (by decide +kernel) (by decide +kernel)
set_option maxRecDepth 20000 in
theorem gX7_ask_X6_size_u192X6 : GoodIn wsX7_ask (va_wsU RX7 192 RX6 "ChicoryRoasters$Teller" ⟨"ChicoryRoasters$Teller", "size", "()I"⟩ yX6_size wsX6_size) := goodIn_app (goodIn_of _ (by decide +kernel)) ggX7_ask_X6_size
set_option maxRecDepth 20000 in
theorem ggX7_ask_X7_checkIndex : GoodIn wsX7_ask wsX7_checkIndex := goodIn_ca (goodIn_r _ [26, 27, 28] (by decide +kernel) (by decide +kernel)) (goodIn_sub (fun _ h => List.mem_cons_of_mem _ (List.mem_append_right _ h)) (by decide +kernel))
set_option maxRecDepth 20000 in
theorem gX7_ask_X7_checkIndex : GoodIn wsX7_ask (va_wsS RX7 89 yX7_checkIndex wsX7_checkIndex) := goodIn_app (goodIn_of _ (by decide +kernel)) ggX7_ask_X7_checkIndex
set_option maxRecDepth 20000 in
theorem ggX7_ask_X0_tell : GoodIn wsX7_ask wsX0_tell := goodIn_r _ [33, 34, 35, 36, 86, 87, 88] (by decide +kernel) (by decide +kernel)
set_option maxRecDepth 20000 in
theorem gX7_ask_X0_tell_u197X0 : GoodIn wsX7_ask (va_wsU RX7 197 RX0 "ChicoryRoasters$Teller" ⟨"ChicoryRoasters$Teller", "tell", "(I)I"⟩ yX0_tell wsX0_tell) := goodIn_app (goodIn_of _ (by decide +kernel)) ggX7_ask_X0_tell
set_option maxRecDepth 20000 in
theorem ggX7_ask_X1_tell : GoodIn wsX7_ask wsX1_tell := goodIn_r _ [39, 40, 41, 42, 43, 44, 89, 90, 91, 92, 93] (by decide +kernel) (by decide +kernel)
set_option maxRecDepth 20000 in
theorem gX7_ask_X1_tell_u197X1 : GoodIn wsX7_ask (va_wsU RX7 197 RX1 "ChicoryRoasters$Teller" ⟨"ChicoryRoasters$Teller", "tell", "(I)I"⟩ yX1_tell wsX1_tell) := goodIn_app (goodIn_of _ (by decide +kernel)) ggX7_ask_X1_tell
set_option maxRecDepth 20000 in
theorem ggX7_ask_X2_tell : GoodIn wsX7_ask wsX2_tell := goodIn_r _ [47, 48, 49, 50, 51, 52, 53, 54, 55, 13, 56, 57, 58, 59, 60, 61, 62, 63, 64, 94, 95, 96, 97, 98] (by decide +kernel) (by decide +kernel)
set_option maxRecDepth 20000 in
theorem gX7_ask_X2_tell_u197X2 : GoodIn wsX7_ask (va_wsU RX7 197 RX2 "ChicoryRoasters$Teller" ⟨"ChicoryRoasters$Teller", "tell", "(I)I"⟩ yX2_tell wsX2_tell) := goodIn_app (goodIn_of _ (by decide +kernel)) ggX7_ask_X2_tell
set_option maxRecDepth 20000 in
theorem ggX7_ask_X3_tell : GoodIn wsX7_ask wsX3_tell := goodIn_r _ [67, 68, 69, 70, 71, 72, 99, 100, 101, 102, 103] (by decide +kernel) (by decide +kernel)
set_option maxRecDepth 20000 in
theorem gX7_ask_X3_tell_u197X3 : GoodIn wsX7_ask (va_wsU RX7 197 RX3 "ChicoryRoasters$Teller" ⟨"ChicoryRoasters$Teller", "tell", "(I)I"⟩ yX3_tell wsX3_tell) := goodIn_app (goodIn_of _ (by decide +kernel)) ggX7_ask_X3_tell
set_option maxRecDepth 20000 in
theorem ggX7_ask_X6_tell : GoodIn wsX7_ask wsX6_tell := goodIn_r _ [75, 76, 77, 78, 79, 80, 81, 82, 83, 84, 85, 104, 105, 106, 107, 108, 109, 110, 111, 112, 113, 114, 115, 116, 117, 118, 119, 120, 121] (by decide +kernel) (by decide +kernel)
set_option maxRecDepth 20000 in
theorem gX7_ask_X6_tell_u197X6 : GoodIn wsX7_ask (va_wsU RX7 197 RX6 "ChicoryRoasters$Teller" ⟨"ChicoryRoasters$Teller", "tell", "(I)I"⟩ yX6_tell wsX6_tell) := goodIn_app (goodIn_of _ (by decide +kernel)) ggX7_ask_X6_tell
theorem dX7_ask_0 : decode cX7_ask 0 = .ok (.iload_n 1, 1) := by decide +kernel
theorem dX7_ask_1 : decode cX7_ask 1 = .ok (.aload_n 0, 1) := by decide +kernel
theorem dX7_ask_2 : decode cX7_ask 2 = .ok (.invokevirtual 192, 3) := by decide +kernel
theorem dX7_ask_5 : decode cX7_ask 5 = .ok (.invokestatic 89, 3) := by decide +kernel
theorem dX7_ask_8 : decode cX7_ask 8 = .ok (.aload_n 0, 1) := by decide +kernel
theorem dX7_ask_9 : decode cX7_ask 9 = .ok (.iload_n 1, 1) := by decide +kernel
theorem dX7_ask_10 : decode cX7_ask 10 = .ok (.invokevirtual 197, 3) := by decide +kernel
theorem dX7_ask_13 : decode cX7_ask 13 = .ok (.ireturn, 1) := by decide +kernel
