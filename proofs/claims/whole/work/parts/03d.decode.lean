theorem dX7_take_67 : decode cX7_take 67 = .ok (.iload_n 3, 1) := by decide +kernel
theorem dX7_take_68 : decode cX7_take 68 = .ok (.ireturn, 1) := by decide +kernel
set_option maxRecDepth 20000 in
theorem ggX7_send_X7_checkIndex : GoodIn wsX7_send wsX7_checkIndex := goodIn_ca (goodIn_r _ [9, 10, 11] (by decide +kernel) (by decide +kernel)) (goodIn_sub (fun _ h => List.mem_cons_of_mem _ (List.mem_append_left _ (List.mem_append_right _ h))) (by decide +kernel))
set_option maxRecDepth 20000 in
theorem gX7_send_X7_checkIndex : GoodIn wsX7_send (va_wsS RX7 89 yX7_checkIndex wsX7_checkIndex) := goodIn_app (goodIn_of _ (by decide +kernel)) ggX7_send_X7_checkIndex
set_option maxRecDepth 20000 in
theorem ggX7_send_X7_checkState : GoodIn wsX7_send wsX7_checkState := goodIn_ca (goodIn_r _ [14, 15, 16] (by decide +kernel) (by decide +kernel)) (goodIn_sub (fun _ h => List.mem_cons_of_mem _ (List.mem_append_right _ h)) (by decide +kernel))
set_option maxRecDepth 20000 in
theorem gX7_send_X7_checkState : GoodIn wsX7_send (va_wsS RX7 27 yX7_checkState wsX7_checkState) := goodIn_app (goodIn_of _ (by decide +kernel)) ggX7_send_X7_checkState
set_option maxRecDepth 20000 in
theorem ggX7_send_X3_setOut : GoodIn wsX7_send wsX3_setOut := goodIn_r _ [21, 22, 23, 24, 38, 39, 40, 41, 42] (by decide +kernel) (by decide +kernel)
set_option maxRecDepth 20000 in
theorem gX7_send_X3_setOut : GoodIn wsX7_send (wsV RX7 126 RX3 yX3_setOut wsX3_setOut) := goodIn_app (goodIn_of _ (by decide +kernel)) ggX7_send_X3_setOut
theorem dX7_send_0 : decode cX7_send 0 = .ok (.iload_n 1, 1) := by decide +kernel
theorem dX7_send_1 : decode cX7_send 1 = .ok (.aload_n 0, 1) := by decide +kernel
theorem dX7_send_2 : decode cX7_send 2 = .ok (.getfield 10, 3) := by decide +kernel
theorem dX7_send_5 : decode cX7_send 5 = .ok (.getfield 53, 3) := by decide +kernel
theorem dX7_send_8 : decode cX7_send 8 = .ok (.invokestatic 89, 3) := by decide +kernel
theorem dX7_send_11 : decode cX7_send 11 = .ok (.aload_n 0, 1) := by decide +kernel
theorem dX7_send_12 : decode cX7_send 12 = .ok (.getfield 10, 3) := by decide +kernel
theorem dX7_send_15 : decode cX7_send 15 = .ok (.getfield 56, 3) := by decide +kernel
theorem dX7_send_18 : decode cX7_send 18 = .ok (.iload_n 1, 1) := by decide +kernel
theorem dX7_send_19 : decode cX7_send 19 = .ok (.aaload, 1) := by decide +kernel
theorem dX7_send_20 : decode cX7_send 20 = .ok (.getfield 123, 3) := by decide +kernel
theorem dX7_send_23 : decode cX7_send 23 = .ok (.ifCond .ne 7, 3) := by decide +kernel
theorem dX7_send_26 : decode cX7_send 26 = .ok (.iconst 1, 1) := by decide +kernel
theorem dX7_send_27 : decode cX7_send 27 = .ok (.goto 4, 3) := by decide +kernel
theorem dX7_send_30 : decode cX7_send 30 = .ok (.iconst 0, 1) := by decide +kernel
theorem dX7_send_31 : decode cX7_send 31 = .ok (.invokestatic 27, 3) := by decide +kernel
theorem dX7_send_34 : decode cX7_send 34 = .ok (.aload_n 0, 1) := by decide +kernel
theorem dX7_send_35 : decode cX7_send 35 = .ok (.getfield 10, 3) := by decide +kernel
theorem dX7_send_38 : decode cX7_send 38 = .ok (.getfield 56, 3) := by decide +kernel
theorem dX7_send_41 : decode cX7_send 41 = .ok (.iload_n 1, 1) := by decide +kernel
theorem dX7_send_42 : decode cX7_send 42 = .ok (.aaload, 1) := by decide +kernel
theorem dX7_send_43 : decode cX7_send 43 = .ok (.invokevirtual 126, 3) := by decide +kernel
theorem dX7_send_46 : decode cX7_send 46 = .ok (.aload_n 0, 1) := by decide +kernel
theorem dX7_send_47 : decode cX7_send 47 = .ok (.getfield 10, 3) := by decide +kernel
theorem dX7_send_50 : decode cX7_send 50 = .ok (.getfield 56, 3) := by decide +kernel
theorem dX7_send_53 : decode cX7_send 53 = .ok (.iload_n 1, 1) := by decide +kernel
theorem dX7_send_54 : decode cX7_send 54 = .ok (.aaload, 1) := by decide +kernel
theorem dX7_send_55 : decode cX7_send 55 = .ok (.getfield 129, 3) := by decide +kernel
theorem dX7_send_58 : decode cX7_send 58 = .ok (.ireturn, 1) := by decide +kernel
set_option maxRecDepth 20000 in
theorem ggX7_about_X7_checkIndex : GoodIn wsX7_about wsX7_checkIndex := goodIn_ca (goodIn_r _ [7, 8, 9] (by decide +kernel) (by decide +kernel)) (goodIn_sub (fun _ h => List.mem_cons_of_mem _ (List.mem_append_right _ h)) (by decide +kernel))
set_option maxRecDepth 20000 in
theorem gX7_about_X7_checkIndex : GoodIn wsX7_about (va_wsS RX7 89 yX7_checkIndex wsX7_checkIndex) := goodIn_app (goodIn_of _ (by decide +kernel)) ggX7_about_X7_checkIndex
set_option maxRecDepth 20000 in
theorem ggX7_about_X7_ask : GoodIn wsX7_about wsX7_ask := goodIn_ca (goodIn_r _ [12, 13, 14, 15, 16, 17, 18, 19, 20, 21, 22, 23, 24, 25, 26, 27, 28, 29, 30, 31, 32, 33, 34, 4, 5, 6, 7, 8, 9, 35, 36, 37, 38, 39, 40, 41, 42, 43, 44, 45, 46, 47, 48, 49, 50, 51, 52, 53, 54, 55, 56, 57, 58, 59, 60, 61, 62, 63, 64, 65, 66, 67, 68, 69, 70, 71, 72, 73, 74, 75, 76, 77, 78, 79, 80, 81, 82, 83, 84, 85, 86, 87, 88, 89, 90, 91, 105, 106, 107, 108, 109, 110, 111, 112, 113, 114, 115, 116, 117, 118, 119, 120, 121, 122, 94, 95, 96, 97, 98, 99, 100, 101, 102, 103, 104, 123, 124, 125, 126, 127, 128, 129] (by decide +kernel) (by decide +kernel)) (goodIn_sub (fun _ h => List.mem_cons_of_mem _ (List.mem_append_right _ h)) (by decide +kernel))
set_option maxRecDepth 20000 in
theorem gX7_about_X7_ask : GoodIn wsX7_about (va_wsS RX7 132 yX7_ask wsX7_ask) := goodIn_app (goodIn_of _ (by decide +kernel)) ggX7_about_X7_ask
theorem dX7_about_0 : decode cX7_about 0 = .ok (.iload_n 1, 1) := by decide +kernel
theorem dX7_about_1 : decode cX7_about 1 = .ok (.aload_n 0, 1) := by decide +kernel
theorem dX7_about_2 : decode cX7_about 2 = .ok (.getfield 10, 3) := by decide +kernel
theorem dX7_about_5 : decode cX7_about 5 = .ok (.getfield 23, 3) := by decide +kernel
theorem dX7_about_8 : decode cX7_about 8 = .ok (.invokestatic 89, 3) := by decide +kernel
theorem dX7_about_11 : decode cX7_about 11 = .ok (.aload_n 0, 1) := by decide +kernel
theorem dX7_about_12 : decode cX7_about 12 = .ok (.getfield 10, 3) := by decide +kernel
theorem dX7_about_15 : decode cX7_about 15 = .ok (.getfield 31, 3) := by decide +kernel
theorem dX7_about_18 : decode cX7_about 18 = .ok (.iload_n 1, 1) := by decide +kernel
theorem dX7_about_19 : decode cX7_about 19 = .ok (.aaload, 1) := by decide +kernel
theorem dX7_about_20 : decode cX7_about 20 = .ok (.iload_n 2, 1) := by decide +kernel
theorem dX7_about_21 : decode cX7_about 21 = .ok (.invokestatic 132, 3) := by decide +kernel
theorem dX7_about_24 : decode cX7_about 24 = .ok (.ireturn, 1) := by decide +kernel
set_option maxRecDepth 20000 in
theorem ggX7_roast_X7_checkIndex : GoodIn wsX7_roast wsX7_checkIndex := goodIn_ca (goodIn_r _ [7, 8, 9] (by decide +kernel) (by decide +kernel)) (goodIn_sub (fun _ h => List.mem_cons_of_mem _ (List.mem_append_right _ h)) (by decide +kernel))
set_option maxRecDepth 20000 in
theorem gX7_roast_X7_checkIndex : GoodIn wsX7_roast (va_wsS RX7 89 yX7_checkIndex wsX7_checkIndex) := goodIn_app (goodIn_of _ (by decide +kernel)) ggX7_roast_X7_checkIndex
set_option maxRecDepth 20000 in
theorem ggX7_roast_X7_ask : GoodIn wsX7_roast wsX7_ask := goodIn_ca (goodIn_r _ [12, 13, 14, 15, 16, 17, 18, 19, 20, 21, 22, 23, 24, 25, 26, 27, 28, 29, 30, 31, 32, 33, 34, 4, 5, 6, 7, 8, 9, 35, 36, 37, 38, 39, 40, 41, 42, 43, 44, 45, 46, 47, 48, 49, 50, 51, 52, 53, 54, 55, 56, 57, 58, 59, 60, 61, 62, 63, 64, 65, 66, 67, 68, 69, 70, 71, 72, 73, 74, 75, 76, 77, 78, 79, 80, 81, 82, 83, 84, 85, 86, 87, 88, 89, 90, 91, 105, 106, 107, 108, 109, 110, 111, 112, 113, 114, 115, 116, 117, 118, 119, 120, 121, 122, 94, 95, 96, 97, 98, 99, 100, 101, 102, 103, 104, 123, 124, 125, 126, 127, 128, 129] (by decide +kernel) (by decide +kernel)) (goodIn_sub (fun _ h => List.mem_cons_of_mem _ (List.mem_append_right _ h)) (by decide +kernel))
set_option maxRecDepth 20000 in
theorem gX7_roast_X7_ask : GoodIn wsX7_roast (va_wsS RX7 132 yX7_ask wsX7_ask) := goodIn_app (goodIn_of _ (by decide +kernel)) ggX7_roast_X7_ask
theorem dX7_roast_0 : decode cX7_roast 0 = .ok (.iload_n 1, 1) := by decide +kernel
theorem dX7_roast_1 : decode cX7_roast 1 = .ok (.aload_n 0, 1) := by decide +kernel
theorem dX7_roast_2 : decode cX7_roast 2 = .ok (.getfield 10, 3) := by decide +kernel
theorem dX7_roast_5 : decode cX7_roast 5 = .ok (.getfield 41, 3) := by decide +kernel
theorem dX7_roast_8 : decode cX7_roast 8 = .ok (.invokestatic 89, 3) := by decide +kernel
theorem dX7_roast_11 : decode cX7_roast 11 = .ok (.aload_n 0, 1) := by decide +kernel
theorem dX7_roast_12 : decode cX7_roast 12 = .ok (.getfield 10, 3) := by decide +kernel
theorem dX7_roast_15 : decode cX7_roast 15 = .ok (.getfield 44, 3) := by decide +kernel
theorem dX7_roast_18 : decode cX7_roast 18 = .ok (.iload_n 1, 1) := by decide +kernel
theorem dX7_roast_19 : decode cX7_roast 19 = .ok (.aaload, 1) := by decide +kernel
theorem dX7_roast_20 : decode cX7_roast 20 = .ok (.iload_n 2, 1) := by decide +kernel
theorem dX7_roast_21 : decode cX7_roast 21 = .ok (.invokestatic 132, 3) := by decide +kernel
theorem dX7_roast_24 : decode cX7_roast 24 = .ok (.ireturn, 1) := by decide +kernel
set_option maxRecDepth 20000 in
theorem ggX7_told_X7_checkIndex : GoodIn wsX7_told wsX7_checkIndex := goodIn_ca (goodIn_r _ [7, 8, 9] (by decide +kernel) (by decide +kernel)) (goodIn_sub (fun _ h => List.mem_cons_of_mem _ (List.mem_append_right _ h)) (by decide +kernel))
set_option maxRecDepth 20000 in
theorem gX7_told_X7_checkIndex : GoodIn wsX7_told (va_wsS RX7 89 yX7_checkIndex wsX7_checkIndex) := goodIn_app (goodIn_of _ (by decide +kernel)) ggX7_told_X7_checkIndex
set_option maxRecDepth 20000 in
theorem ggX7_told_X7_ask : GoodIn wsX7_told wsX7_ask := goodIn_ca (goodIn_r _ [12, 13, 14, 15, 16, 17, 18, 19, 20, 21, 22, 23, 24, 25, 26, 27, 28, 29, 30, 31, 32, 33, 34, 4, 5, 6, 7, 8, 9, 35, 36, 37, 38, 39, 40, 41, 42, 43, 44, 45, 46, 47, 48, 49, 50, 51, 52, 53, 54, 55, 56, 57, 58, 59, 60, 61, 62, 63, 64, 65, 66, 67, 68, 69, 70, 71, 72, 73, 74, 75, 76, 77, 78, 79, 80, 81, 82, 83, 84, 85, 86, 87, 88, 89, 90, 91, 105, 106, 107, 108, 109, 110, 111, 112, 113, 114, 115, 116, 117, 118, 119, 120, 121, 122, 94, 95, 96, 97, 98, 99, 100, 101, 102, 103, 104, 123, 124, 125, 126, 127, 128, 129] (by decide +kernel) (by decide +kernel)) (goodIn_sub (fun _ h => List.mem_cons_of_mem _ (List.mem_append_right _ h)) (by decide +kernel))
set_option maxRecDepth 20000 in
theorem gX7_told_X7_ask : GoodIn wsX7_told (va_wsS RX7 132 yX7_ask wsX7_ask) := goodIn_app (goodIn_of _ (by decide +kernel)) ggX7_told_X7_ask
theorem dX7_told_0 : decode cX7_told 0 = .ok (.iload_n 1, 1) := by decide +kernel
theorem dX7_told_1 : decode cX7_told 1 = .ok (.aload_n 0, 1) := by decide +kernel
theorem dX7_told_2 : decode cX7_told 2 = .ok (.getfield 10, 3) := by decide +kernel
theorem dX7_told_5 : decode cX7_told 5 = .ok (.getfield 53, 3) := by decide +kernel
theorem dX7_told_8 : decode cX7_told 8 = .ok (.invokestatic 89, 3) := by decide +kernel
theorem dX7_told_11 : decode cX7_told 11 = .ok (.aload_n 0, 1) := by decide +kernel
theorem dX7_told_12 : decode cX7_told 12 = .ok (.getfield 10, 3) := by decide +kernel
theorem dX7_told_15 : decode cX7_told 15 = .ok (.getfield 56, 3) := by decide +kernel
theorem dX7_told_18 : decode cX7_told 18 = .ok (.iload_n 1, 1) := by decide +kernel
theorem dX7_told_19 : decode cX7_told 19 = .ok (.aaload, 1) := by decide +kernel
theorem dX7_told_20 : decode cX7_told 20 = .ok (.iload_n 2, 1) := by decide +kernel
theorem dX7_told_21 : decode cX7_told 21 = .ok (.invokestatic 132, 3) := by decide +kernel
theorem dX7_told_24 : decode cX7_told 24 = .ok (.ireturn, 1) := by decide +kernel
set_option maxRecDepth 20000 in
theorem ggX7_ration_X7_checkIndex : GoodIn wsX7_ration wsX7_checkIndex := goodIn_ca (goodIn_r _ [7, 8, 9] (by decide +kernel) (by decide +kernel)) (goodIn_sub (fun _ h => List.mem_cons_of_mem _ (List.mem_append_right _ h)) (by decide +kernel))
set_option maxRecDepth 20000 in
theorem gX7_ration_X7_checkIndex : GoodIn wsX7_ration (va_wsS RX7 89 yX7_checkIndex wsX7_checkIndex) := goodIn_app (goodIn_of _ (by decide +kernel)) ggX7_ration_X7_checkIndex
set_option maxRecDepth 20000 in
theorem ggX7_ration_X7_ask : GoodIn wsX7_ration wsX7_ask := goodIn_ca (goodIn_r _ [12, 13, 14, 15, 16, 17, 18, 19, 20, 21, 22, 23, 24, 25, 26, 27, 28, 29, 30, 31, 32, 33, 34, 4, 5, 6, 7, 8, 9, 35, 36, 37, 38, 39, 40, 41, 42, 43, 44, 45, 46, 47, 48, 49, 50, 51, 52, 53, 54, 55, 56, 57, 58, 59, 60, 61, 62, 63, 64, 65, 66, 67, 68, 69, 70, 71, 72, 73, 74, 75, 76, 77, 78, 79, 80, 81, 82, 83, 84, 85, 86, 87, 88, 89, 90, 91, 105, 106, 107, 108, 109, 110, 111, 112, 113, 114, 115, 116, 117, 118, 119, 120, 121, 122, 94, 95, 96, 97, 98, 99, 100, 101, 102, 103, 104, 123, 124, 125, 126, 127, 128, 129] (by decide +kernel) (by decide +kernel)) (goodIn_sub (fun _ h => List.mem_cons_of_mem _ (List.mem_append_right _ h)) (by decide +kernel))
set_option maxRecDepth 20000 in
theorem gX7_ration_X7_ask : GoodIn wsX7_ration (va_wsS RX7 132 yX7_ask wsX7_ask) := goodIn_app (goodIn_of _ (by decide +kernel)) ggX7_ration_X7_ask
theorem dX7_ration_0 : decode cX7_ration 0 = .ok (.iload_n 1, 1) := by decide +kernel
theorem dX7_ration_1 : decode cX7_ration 1 = .ok (.aload_n 0, 1) := by decide +kernel
theorem dX7_ration_2 : decode cX7_ration 2 = .ok (.getfield 10, 3) := by decide +kernel
theorem dX7_ration_5 : decode cX7_ration 5 = .ok (.getfield 65, 3) := by decide +kernel
theorem dX7_ration_8 : decode cX7_ration 8 = .ok (.invokestatic 89, 3) := by decide +kernel
theorem dX7_ration_11 : decode cX7_ration 11 = .ok (.aload_n 0, 1) := by decide +kernel
theorem dX7_ration_12 : decode cX7_ration 12 = .ok (.getfield 10, 3) := by decide +kernel
theorem dX7_ration_15 : decode cX7_ration 15 = .ok (.getfield 68, 3) := by decide +kernel
theorem dX7_ration_18 : decode cX7_ration 18 = .ok (.iload_n 1, 1) := by decide +kernel
theorem dX7_ration_19 : decode cX7_ration 19 = .ok (.aaload, 1) := by decide +kernel
theorem dX7_ration_20 : decode cX7_ration 20 = .ok (.iload_n 2, 1) := by decide +kernel
theorem dX7_ration_21 : decode cX7_ration 21 = .ok (.invokestatic 132, 3) := by decide +kernel
theorem dX7_ration_24 : decode cX7_ration 24 = .ok (.ireturn, 1) := by decide +kernel
set_option maxRecDepth 20000 in
theorem ggX7_count_X7_ask : GoodIn wsX7_count wsX7_ask := goodIn_ca (goodIn_r _ [5, 6, 7, 8, 9, 10, 11, 12, 13, 14, 15, 16, 17, 18, 19, 20, 21, 22, 23, 24, 25, 26, 27, 28, 29, 4, 30, 31, 32, 33, 34, 35, 36, 37, 38, 39, 40, 41, 42, 43, 44, 45, 46, 47, 48, 49, 50, 51, 52, 53, 54, 55, 56, 57, 58, 59, 60, 61, 62, 63, 64, 65, 66, 67, 68, 69, 70, 71, 72, 73, 74, 75, 76, 77, 78, 79, 80, 81, 82, 83, 84, 85, 86, 87, 88, 89, 92, 93, 94, 95, 96, 97, 98, 99, 100, 101, 102, 103, 104, 105, 106, 107, 108, 109, 110, 111, 112, 113, 114, 115, 116, 117, 118, 119, 120, 121, 122, 123, 124, 125, 126, 127] (by decide +kernel) (by decide +kernel)) (goodIn_sub (fun _ h => List.mem_cons_of_mem _ (List.mem_append_right _ h)) (by decide +kernel))
set_option maxRecDepth 20000 in
theorem gX7_count_X7_ask : GoodIn wsX7_count (va_wsS RX7 132 yX7_ask wsX7_ask) := goodIn_app (goodIn_of _ (by decide +kernel)) ggX7_count_X7_ask
theorem dX7_count_0 : decode cX7_count 0 = .ok (.aload_n 0, 1) := by decide +kernel
theorem dX7_count_1 : decode cX7_count 1 = .ok (.getfield 10, 3) := by decide +kernel
theorem dX7_count_4 : decode cX7_count 4 = .ok (.iload_n 1, 1) := by decide +kernel
theorem dX7_count_5 : decode cX7_count 5 = .ok (.invokestatic 132, 3) := by decide +kernel
theorem dX7_count_8 : decode cX7_count 8 = .ok (.ireturn, 1) := by decide +kernel
set_option maxRecDepth 20000 in
theorem ggX7_pass_X7_checkNumber : GoodIn wsX7_pass wsX7_checkNumber := goodIn_ca (goodIn_r _ [5, 6, 7] (by decide +kernel) (by decide +kernel)) (goodIn_sub (fun _ h => List.mem_cons_of_mem _ (List.mem_append_right _ h)) (by decide +kernel))
set_option maxRecDepth 20000 in
theorem gX7_pass_X7_checkNumber : GoodIn wsX7_pass (va_wsS RX7 19 yX7_checkNumber wsX7_checkNumber) := goodIn_app (goodIn_of _ (by decide +kernel)) ggX7_pass_X7_checkNumber
set_option maxRecDepth 20000 in
theorem ggX7_pass_X6_live : GoodIn wsX7_pass wsX6_live := goodIn_r _ [12, 13, 14, 15, 16, 11, 17, 18, 19, 20, 21, 22, 23, 24, 25, 26, 27, 28, 29, 30, 31, 32, 33, 34, 35, 36, 37, 38, 39, 40, 41, 42, 43, 44, 45, 46, 47, 48, 49, 50, 51, 52, 53, 54, 55, 56, 57, 58, 59, 60, 61, 62, 63, 64, 65, 66, 67, 68, 69, 70, 71, 72, 73, 74, 75, 76, 77, 78, 79, 80, 81, 82, 83, 84, 85, 86, 87, 88, 89, 90, 91, 92, 93, 94, 95, 96, 97, 98, 99, 100, 101, 102, 103, 104, 105, 106, 107, 108, 109, 110, 111, 112, 113, 114, 115, 116, 117, 118, 119, 120, 121, 122, 123, 124, 125, 126, 127, 128, 129, 132, 133, 134, 135, 136, 137, 138, 139, 140, 141, 142, 143, 144, 145, 146, 147, 148, 149, 150, 151, 152, 153, 154, 155, 156, 157, 158, 159, 160, 161, 162, 163, 164, 165, 166, 167] (by decide +kernel) (by decide +kernel)
set_option maxRecDepth 20000 in
theorem gX7_pass_X6_live : GoodIn wsX7_pass (wsV RX7 136 RX6 yX6_live wsX6_live) := goodIn_app (goodIn_of _ (by decide +kernel)) ggX7_pass_X6_live
theorem dX7_pass_0 : decode cX7_pass 0 = .ok (.iload_n 1, 1) := by decide +kernel
theorem dX7_pass_1 : decode cX7_pass 1 = .ok (.iconst 1, 1) := by decide +kernel
theorem dX7_pass_2 : decode cX7_pass 2 = .ok (.bipush 60, 2) := by decide +kernel
theorem dX7_pass_4 : decode cX7_pass 4 = .ok (.invokestatic 19, 3) := by decide +kernel
theorem dX7_pass_7 : decode cX7_pass 7 = .ok (.aload_n 0, 1) := by decide +kernel
theorem dX7_pass_8 : decode cX7_pass 8 = .ok (.getfield 10, 3) := by decide +kernel
theorem dX7_pass_11 : decode cX7_pass 11 = .ok (.iload_n 1, 1) := by decide +kernel
theorem dX7_pass_12 : decode cX7_pass 12 = .ok (.invokevirtual 136, 3) := by decide +kernel
theorem dX7_pass_15 : decode cX7_pass 15 = .ok (.ireturn, 1) := by decide +kernel
set_option maxRecDepth 20000 in
theorem ggX7_foresee_X7_checkNumber : GoodIn wsX7_foresee wsX7_checkNumber := goodIn_ca (goodIn_r _ [8, 9, 10] (by decide +kernel) (by decide +kernel)) (goodIn_sub (fun _ h => List.mem_cons_of_mem _ (List.mem_append_right _ h)) (by decide +kernel))
set_option maxRecDepth 20000 in
theorem gX7_foresee_X7_checkNumber : GoodIn wsX7_foresee (va_wsS RX7 19 yX7_checkNumber wsX7_checkNumber) := goodIn_app (goodIn_of _ (by decide +kernel)) ggX7_foresee_X7_checkNumber
set_option maxRecDepth 20000 in
theorem ggX7_foresee_X6_become : GoodIn wsX7_foresee wsX6_become := goodIn_r _ [15, 16, 17, 18, 19, 20, 21, 22, 23, 24, 25, 26, 27, 28, 29, 30, 31, 32, 33, 34, 35, 36, 37, 38, 39, 40, 41, 42, 43, 44, 45, 46, 47, 48, 49, 50, 51, 52, 53, 54, 55, 56, 57, 58, 59, 60, 61, 62, 63, 64, 65, 66, 67, 68, 69, 70, 71, 72, 73, 74, 75, 76, 172, 173, 174, 175, 176, 177, 178, 179, 180, 181, 182, 183, 184, 185, 186, 187, 188, 189, 190, 191, 192, 193, 194, 195, 196, 197, 198, 199, 200, 201, 202, 203, 204, 205, 206, 207] (by decide +kernel) (by decide +kernel)
set_option maxRecDepth 20000 in
theorem gX7_foresee_X6_become : GoodIn wsX7_foresee (wsV RX7 146 RX6 yX6_become wsX6_become) := goodIn_app (goodIn_of _ (by decide +kernel)) ggX7_foresee_X6_become
set_option maxRecDepth 20000 in
theorem ggX7_foresee_X6_live : GoodIn wsX7_foresee wsX6_live := goodIn_r _ [80, 16, 81, 82, 83, 14, 84, 23, 18, 24, 85, 86, 87, 88, 17, 89, 90, 91, 60, 92, 64, 65, 62, 66, 93, 94, 95, 96, 63, 97, 98, 99, 30, 100, 32, 33, 101, 102, 103, 104, 21, 22, 105, 106, 107, 50, 108, 56, 109, 110, 111, 112, 54, 53, 113, 114, 115, 116, 117, 118, 119, 120, 121, 122, 123, 124, 19, 20, 125, 126, 127, 42, 128, 46, 44, 45, 129, 130, 131, 132, 133, 25, 26, 134, 135, 136, 70, 137, 72, 74, 138, 139, 140, 141, 142, 143, 144, 145, 73, 76, 75, 146, 147, 148, 149, 36, 35, 150, 151, 152, 153, 154, 34, 155, 156, 157, 158, 38, 37, 172, 173, 174, 175, 176, 177, 178, 179, 180, 181, 182, 198, 199, 200, 201, 202, 183, 184, 185, 186, 187, 188, 189, 193, 194, 195, 196, 197, 190, 191, 192, 203, 204, 205, 206, 207] (by decide +kernel) (by decide +kernel)
set_option maxRecDepth 20000 in
theorem gX7_foresee_X6_live : GoodIn wsX7_foresee (wsV RX7 136 RX6 yX6_live wsX6_live) := goodIn_app (goodIn_of _ (by decide +kernel)) ggX7_foresee_X6_live
set_option maxRecDepth 20000 in
theorem ggX7_foresee_X6_tell : GoodIn wsX7_foresee wsX6_tell := goodIn_r _ [162, 16, 18, 163, 164, 165, 166, 167, 168, 169, 17, 172, 173, 174, 175, 176, 177, 178, 179, 180, 181, 182, 183, 184, 185, 186, 187, 188, 189] (by decide +kernel) (by decide +kernel)
set_option maxRecDepth 20000 in
theorem gX7_foresee_X6_tell : GoodIn wsX7_foresee (wsV RX7 150 RX6 yX6_tell wsX6_tell) := goodIn_app (goodIn_of _ (by decide +kernel)) ggX7_foresee_X6_tell
theorem dX7_foresee_0 : decode cX7_foresee 0 = .ok (.iload_n 1, 1) := by decide +kernel
theorem dX7_foresee_1 : decode cX7_foresee 1 = .ok (.iconst 1, 1) := by decide +kernel
theorem dX7_foresee_2 : decode cX7_foresee 2 = .ok (.bipush 60, 2) := by decide +kernel
theorem dX7_foresee_4 : decode cX7_foresee 4 = .ok (.invokestatic 19, 3) := by decide +kernel
theorem dX7_foresee_7 : decode cX7_foresee 7 = .ok (.iload_n 2, 1) := by decide +kernel
theorem dX7_foresee_8 : decode cX7_foresee 8 = .ok (.iconst 1, 1) := by decide +kernel
theorem dX7_foresee_9 : decode cX7_foresee 9 = .ok (.if_icmp .lt 9, 3) := by decide +kernel
theorem dX7_foresee_12 : decode cX7_foresee 12 = .ok (.iload_n 2, 1) := by decide +kernel
theorem dX7_foresee_13 : decode cX7_foresee 13 = .ok (.bipush 6, 2) := by decide +kernel
theorem dX7_foresee_15 : decode cX7_foresee 15 = .ok (.if_icmp .le 13, 3) := by decide +kernel
theorem dX7_foresee_18 : decode cX7_foresee 18 = .ok (.new 139, 3) := by decide +kernel
theorem dX7_foresee_21 : decode cX7_foresee 21 = .ok (.dup, 1) := by decide +kernel
theorem dX7_foresee_22 : decode cX7_foresee 22 = .ok (.ldc 141, 2) := by decide +kernel
theorem dX7_foresee_24 : decode cX7_foresee 24 = .ok (.invokespecial 143, 3) := by decide +kernel
theorem dX7_foresee_27 : decode cX7_foresee 27 = .ok (.athrow, 1) := by decide +kernel
theorem dX7_foresee_28 : decode cX7_foresee 28 = .ok (.aload_n 0, 1) := by decide +kernel
theorem dX7_foresee_29 : decode cX7_foresee 29 = .ok (.getfield 16, 3) := by decide +kernel
theorem dX7_foresee_32 : decode cX7_foresee 32 = .ok (.aload_n 0, 1) := by decide +kernel
theorem dX7_foresee_33 : decode cX7_foresee 33 = .ok (.getfield 10, 3) := by decide +kernel
theorem dX7_foresee_36 : decode cX7_foresee 36 = .ok (.invokevirtual 146, 3) := by decide +kernel
theorem dX7_foresee_39 : decode cX7_foresee 39 = .ok (.aload_n 0, 1) := by decide +kernel
theorem dX7_foresee_40 : decode cX7_foresee 40 = .ok (.getfield 16, 3) := by decide +kernel
theorem dX7_foresee_43 : decode cX7_foresee 43 = .ok (.iload_n 1, 1) := by decide +kernel
theorem dX7_foresee_44 : decode cX7_foresee 44 = .ok (.invokevirtual 136, 3) := by decide +kernel
theorem dX7_foresee_47 : decode cX7_foresee 47 = .ok (.pop, 1) := by decide +kernel
theorem dX7_foresee_48 : decode cX7_foresee 48 = .ok (.aload_n 0, 1) := by decide +kernel
theorem dX7_foresee_49 : decode cX7_foresee 49 = .ok (.getfield 16, 3) := by decide +kernel
theorem dX7_foresee_52 : decode cX7_foresee 52 = .ok (.iload_n 2, 1) := by decide +kernel
theorem dX7_foresee_53 : decode cX7_foresee 53 = .ok (.invokevirtual 150, 3) := by decide +kernel
theorem dX7_foresee_56 : decode cX7_foresee 56 = .ok (.ireturn, 1) := by decide +kernel
set_option maxRecDepth 20000 in
theorem ggX7_ready_X7_checkIndex : GoodIn wsX7_ready wsX7_checkIndex := goodIn_ca (goodIn_r _ [7, 8, 9] (by decide +kernel) (by decide +kernel)) (goodIn_sub (fun _ h => List.mem_cons_of_mem _ (List.mem_append_right _ h)) (by decide +kernel))
set_option maxRecDepth 20000 in
theorem gX7_ready_X7_checkIndex : GoodIn wsX7_ready (va_wsS RX7 89 yX7_checkIndex wsX7_checkIndex) := goodIn_app (goodIn_of _ (by decide +kernel)) ggX7_ready_X7_checkIndex
set_option maxRecDepth 20000 in
theorem ggX7_ready_X2_daysToBest : GoodIn wsX7_ready wsX2_daysToBest := goodIn_r _ [14, 15, 16, 17, 18, 13, 19, 20, 21, 22, 23, 24, 25, 26, 27, 28, 29, 30, 31, 32, 33, 34, 35, 36, 37, 38, 52, 53, 54, 55, 56] (by decide +kernel) (by decide +kernel)
set_option maxRecDepth 20000 in
theorem gX7_ready_X2_daysToBest : GoodIn wsX7_ready (wsV RX7 153 RX2 yX2_daysToBest wsX2_daysToBest) := goodIn_app (goodIn_of _ (by decide +kernel)) ggX7_ready_X2_daysToBest
theorem dX7_ready_0 : decode cX7_ready 0 = .ok (.iload_n 1, 1) := by decide +kernel
theorem dX7_ready_1 : decode cX7_ready 1 = .ok (.aload_n 0, 1) := by decide +kernel
theorem dX7_ready_2 : decode cX7_ready 2 = .ok (.getfield 10, 3) := by decide +kernel
theorem dX7_ready_5 : decode cX7_ready 5 = .ok (.getfield 41, 3) := by decide +kernel
theorem dX7_ready_8 : decode cX7_ready 8 = .ok (.invokestatic 89, 3) := by decide +kernel
theorem dX7_ready_11 : decode cX7_ready 11 = .ok (.aload_n 0, 1) := by decide +kernel
theorem dX7_ready_12 : decode cX7_ready 12 = .ok (.getfield 10, 3) := by decide +kernel
theorem dX7_ready_15 : decode cX7_ready 15 = .ok (.getfield 44, 3) := by decide +kernel
theorem dX7_ready_18 : decode cX7_ready 18 = .ok (.iload_n 1, 1) := by decide +kernel
theorem dX7_ready_19 : decode cX7_ready 19 = .ok (.aaload, 1) := by decide +kernel
theorem dX7_ready_20 : decode cX7_ready 20 = .ok (.invokevirtual 153, 3) := by decide +kernel
theorem dX7_ready_23 : decode cX7_ready 23 = .ok (.ireturn, 1) := by decide +kernel
set_option maxRecDepth 20000 in
theorem ggX7_caught_X7_checkIndex : GoodIn wsX7_caught wsX7_checkIndex := goodIn_ca (goodIn_r _ [9, 10, 11] (by decide +kernel) (by decide +kernel)) (goodIn_sub (fun _ h => List.mem_cons_of_mem _ (List.mem_append_left _ (List.mem_append_left _ (List.mem_append_right _ h)))) (by decide +kernel))
set_option maxRecDepth 20000 in
theorem gX7_caught_X7_checkIndex : GoodIn wsX7_caught (va_wsS RX7 89 yX7_checkIndex wsX7_checkIndex) := goodIn_app (goodIn_of _ (by decide +kernel)) ggX7_caught_X7_checkIndex
set_option maxRecDepth 20000 in
theorem ggX7_caught_X7_checkNumber : GoodIn wsX7_caught wsX7_checkNumber := goodIn_ca (goodIn_r _ [14, 15, 16] (by decide +kernel) (by decide +kernel)) (goodIn_sub (fun _ h => List.mem_cons_of_mem _ (List.mem_append_left _ (List.mem_append_right _ h))) (by decide +kernel))
set_option maxRecDepth 20000 in
theorem gX7_caught_X7_checkNumber : GoodIn wsX7_caught (va_wsS RX7 19 yX7_checkNumber wsX7_checkNumber) := goodIn_app (goodIn_of _ (by decide +kernel)) ggX7_caught_X7_checkNumber
set_option maxRecDepth 20000 in
theorem ggX7_caught_X7_checkState : GoodIn wsX7_caught wsX7_checkState := goodIn_ca (goodIn_r _ [19, 20, 21] (by decide +kernel) (by decide +kernel)) (goodIn_sub (fun _ h => List.mem_cons_of_mem _ (List.mem_append_right _ h)) (by decide +kernel))
set_option maxRecDepth 20000 in
theorem gX7_caught_X7_checkState : GoodIn wsX7_caught (va_wsS RX7 27 yX7_checkState wsX7_checkState) := goodIn_app (goodIn_of _ (by decide +kernel)) ggX7_caught_X7_checkState
set_option maxRecDepth 20000 in
theorem ggX7_caught_X3_daysToBorder : GoodIn wsX7_caught wsX3_daysToBorder := goodIn_r _ [26, 27, 47, 48, 49, 50, 51] (by decide +kernel) (by decide +kernel)
set_option maxRecDepth 20000 in
theorem gX7_caught_X3_daysToBorder : GoodIn wsX7_caught (wsV RX7 160 RX3 yX3_daysToBorder wsX3_daysToBorder) := goodIn_app (goodIn_of _ (by decide +kernel)) ggX7_caught_X3_daysToBorder
set_option maxRecDepth 20000 in
theorem ggX7_caught_X6_patrolled : GoodIn wsX7_caught wsX6_patrolled := goodIn_r _ [32, 33, 36, 37, 38, 39, 40, 41, 42, 43, 44, 45, 46] (by decide +kernel) (by decide +kernel)
set_option maxRecDepth 20000 in
theorem gX7_caught_X6_patrolled : GoodIn wsX7_caught (wsV RX7 163 RX6 yX6_patrolled wsX6_patrolled) := goodIn_app (goodIn_of _ (by decide +kernel)) ggX7_caught_X6_patrolled
theorem dX7_caught_0 : decode cX7_caught 0 = .ok (.iload_n 1, 1) := by decide +kernel
theorem dX7_caught_1 : decode cX7_caught 1 = .ok (.aload_n 0, 1) := by decide +kernel
theorem dX7_caught_2 : decode cX7_caught 2 = .ok (.getfield 10, 3) := by decide +kernel
theorem dX7_caught_5 : decode cX7_caught 5 = .ok (.getfield 53, 3) := by decide +kernel
theorem dX7_caught_8 : decode cX7_caught 8 = .ok (.invokestatic 89, 3) := by decide +kernel
theorem dX7_caught_11 : decode cX7_caught 11 = .ok (.iload_n 2, 1) := by decide +kernel
theorem dX7_caught_12 : decode cX7_caught 12 = .ok (.iconst 0, 1) := by decide +kernel
theorem dX7_caught_13 : decode cX7_caught 13 = .ok (.bipush 60, 2) := by decide +kernel
theorem dX7_caught_15 : decode cX7_caught 15 = .ok (.invokestatic 19, 3) := by decide +kernel
theorem dX7_caught_18 : decode cX7_caught 18 = .ok (.aload_n 0, 1) := by decide +kernel
theorem dX7_caught_19 : decode cX7_caught 19 = .ok (.getfield 10, 3) := by decide +kernel
theorem dX7_caught_22 : decode cX7_caught 22 = .ok (.getfield 56, 3) := by decide +kernel
theorem dX7_caught_25 : decode cX7_caught 25 = .ok (.iload_n 1, 1) := by decide +kernel
theorem dX7_caught_26 : decode cX7_caught 26 = .ok (.aaload, 1) := by decide +kernel
theorem dX7_caught_27 : decode cX7_caught 27 = .ok (.getfield 123, 3) := by decide +kernel
theorem dX7_caught_30 : decode cX7_caught 30 = .ok (.ifCond .ne 7, 3) := by decide +kernel
theorem dX7_caught_33 : decode cX7_caught 33 = .ok (.iconst 1, 1) := by decide +kernel
theorem dX7_caught_34 : decode cX7_caught 34 = .ok (.goto 4, 3) := by decide +kernel
theorem dX7_caught_37 : decode cX7_caught 37 = .ok (.iconst 0, 1) := by decide +kernel
theorem dX7_caught_38 : decode cX7_caught 38 = .ok (.invokestatic 27, 3) := by decide +kernel
theorem dX7_caught_41 : decode cX7_caught 41 = .ok (.aload_n 0, 1) := by decide +kernel
theorem dX7_caught_42 : decode cX7_caught 42 = .ok (.getfield 10, 3) := by decide +kernel
theorem dX7_caught_45 : decode cX7_caught 45 = .ok (.aload_n 0, 1) := by decide +kernel
theorem dX7_caught_46 : decode cX7_caught 46 = .ok (.getfield 10, 3) := by decide +kernel
theorem dX7_caught_49 : decode cX7_caught 49 = .ok (.getfield 157, 3) := by decide +kernel
theorem dX7_caught_52 : decode cX7_caught 52 = .ok (.iload_n 2, 1) := by decide +kernel
theorem dX7_caught_53 : decode cX7_caught 53 = .ok (.iadd, 1) := by decide +kernel
theorem dX7_caught_54 : decode cX7_caught 54 = .ok (.aload_n 0, 1) := by decide +kernel
theorem dX7_caught_55 : decode cX7_caught 55 = .ok (.getfield 10, 3) := by decide +kernel
theorem dX7_caught_58 : decode cX7_caught 58 = .ok (.getfield 56, 3) := by decide +kernel
theorem dX7_caught_61 : decode cX7_caught 61 = .ok (.iload_n 1, 1) := by decide +kernel
theorem dX7_caught_62 : decode cX7_caught 62 = .ok (.aaload, 1) := by decide +kernel
theorem dX7_caught_63 : decode cX7_caught 63 = .ok (.invokevirtual 160, 3) := by decide +kernel
theorem dX7_caught_66 : decode cX7_caught 66 = .ok (.iadd, 1) := by decide +kernel
theorem dX7_caught_67 : decode cX7_caught 67 = .ok (.iconst 1, 1) := by decide +kernel
theorem dX7_caught_68 : decode cX7_caught 68 = .ok (.isub, 1) := by decide +kernel
theorem dX7_caught_69 : decode cX7_caught 69 = .ok (.invokevirtual 163, 3) := by decide +kernel
theorem dX7_caught_72 : decode cX7_caught 72 = .ok (.ireturn, 1) := by decide +kernel
set_option maxRecDepth 20000 in
theorem ggX7_advise_X7_checkNumber : GoodIn wsX7_advise wsX7_checkNumber := goodIn_ca (goodIn_r _ [8, 9, 10] (by decide +kernel) (by decide +kernel)) (goodIn_sub (fun _ h => List.mem_cons_of_mem _ (List.mem_append_right _ h)) (by decide +kernel))
set_option maxRecDepth 20000 in
theorem gX7_advise_X7_checkNumber : GoodIn wsX7_advise (va_wsS RX7 19 yX7_checkNumber wsX7_checkNumber) := goodIn_app (goodIn_of _ (by decide +kernel)) ggX7_advise_X7_checkNumber
set_option maxRecDepth 20000 in
theorem ggX7_advise_X6_become : GoodIn wsX7_advise wsX6_become := goodIn_r _ [15, 16, 17, 18, 19, 20, 21, 22, 23, 24, 25, 26, 27, 28, 29, 30, 31, 32, 33, 34, 35, 36, 37, 38, 39, 40, 41, 42, 43, 44, 45, 46, 47, 48, 49, 50, 51, 52, 53, 54, 55, 56, 57, 58, 59, 60, 61, 62, 63, 64, 65, 66, 67, 68, 69, 70, 71, 72, 73, 74, 75, 76, 161, 162, 163, 164, 165, 166, 167, 168, 169, 170, 171, 172, 173, 174, 175, 176, 177, 178, 179, 180, 181, 182, 183, 184, 185, 186, 187, 188, 189, 190, 191, 192, 193, 194, 195, 196] (by decide +kernel) (by decide +kernel)
set_option maxRecDepth 20000 in
theorem gX7_advise_X6_become : GoodIn wsX7_advise (wsV RX7 146 RX6 yX6_become wsX6_become) := goodIn_app (goodIn_of _ (by decide +kernel)) ggX7_advise_X6_become
set_option maxRecDepth 20000 in
theorem ggX7_advise_X6_live : GoodIn wsX7_advise wsX6_live := goodIn_r _ [80, 16, 81, 82, 83, 14, 84, 23, 18, 24, 85, 86, 87, 88, 17, 89, 90, 91, 60, 92, 64, 65, 62, 66, 93, 94, 95, 96, 63, 97, 98, 99, 30, 100, 32, 33, 101, 102, 103, 104, 21, 22, 105, 106, 107, 50, 108, 56, 109, 110, 111, 112, 54, 53, 113, 114, 115, 116, 117, 118, 119, 120, 121, 122, 123, 124, 19, 20, 125, 126, 127, 42, 128, 46, 44, 45, 129, 130, 131, 132, 133, 25, 26, 134, 135, 136, 70, 137, 72, 74, 138, 139, 140, 141, 142, 143, 144, 145, 73, 76, 75, 146, 147, 148, 149, 36, 35, 150, 151, 152, 153, 154, 34, 155, 156, 157, 158, 38, 37, 161, 162, 163, 164, 165, 166, 167, 168, 169, 170, 171, 187, 188, 189, 190, 191, 172, 173, 174, 175, 176, 177, 178, 182, 183, 184, 185, 186, 179, 180, 181, 192, 193, 194, 195, 196] (by decide +kernel) (by decide +kernel)
set_option maxRecDepth 20000 in
theorem gX7_advise_X6_live : GoodIn wsX7_advise (wsV RX7 136 RX6 yX6_live wsX6_live) := goodIn_app (goodIn_of _ (by decide +kernel)) ggX7_advise_X6_live
theorem dX7_advise_0 : decode cX7_advise 0 = .ok (.iload_n 1, 1) := by decide +kernel
theorem dX7_advise_1 : decode cX7_advise 1 = .ok (.iconst 1, 1) := by decide +kernel
theorem dX7_advise_2 : decode cX7_advise 2 = .ok (.bipush 28, 2) := by decide +kernel
theorem dX7_advise_4 : decode cX7_advise 4 = .ok (.invokestatic 19, 3) := by decide +kernel
theorem dX7_advise_7 : decode cX7_advise 7 = .ok (.iconst 0, 1) := by decide +kernel
theorem dX7_advise_8 : decode cX7_advise 8 = .ok (.istore_n 2, 1) := by decide +kernel
theorem dX7_advise_9 : decode cX7_advise 9 = .ok (.iconst (-1), 1) := by decide +kernel
theorem dX7_advise_10 : decode cX7_advise 10 = .ok (.istore_n 3, 1) := by decide +kernel
theorem dX7_advise_11 : decode cX7_advise 11 = .ok (.iconst 0, 1) := by decide +kernel
theorem dX7_advise_12 : decode cX7_advise 12 = .ok (.istore 4, 2) := by decide +kernel
theorem dX7_advise_14 : decode cX7_advise 14 = .ok (.iload 4, 2) := by decide +kernel
theorem dX7_advise_16 : decode cX7_advise 16 = .ok (.bipush 10, 2) := by decide +kernel
theorem dX7_advise_18 : decode cX7_advise 18 = .ok (.if_icmp .gt 54, 3) := by decide +kernel
theorem dX7_advise_21 : decode cX7_advise 21 = .ok (.aload_n 0, 1) := by decide +kernel
theorem dX7_advise_22 : decode cX7_advise 22 = .ok (.getfield 16, 3) := by decide +kernel
theorem dX7_advise_25 : decode cX7_advise 25 = .ok (.aload_n 0, 1) := by decide +kernel
theorem dX7_advise_26 : decode cX7_advise 26 = .ok (.getfield 10, 3) := by decide +kernel
theorem dX7_advise_29 : decode cX7_advise 29 = .ok (.invokevirtual 146, 3) := by decide +kernel
theorem dX7_advise_32 : decode cX7_advise 32 = .ok (.aload_n 0, 1) := by decide +kernel
theorem dX7_advise_33 : decode cX7_advise 33 = .ok (.getfield 16, 3) := by decide +kernel
theorem dX7_advise_36 : decode cX7_advise 36 = .ok (.getfield 80, 3) := by decide +kernel
theorem dX7_advise_39 : decode cX7_advise 39 = .ok (.iload 4, 2) := by decide +kernel
theorem dX7_advise_41 : decode cX7_advise 41 = .ok (.putfield 84, 3) := by decide +kernel
theorem dX7_advise_44 : decode cX7_advise 44 = .ok (.aload_n 0, 1) := by decide +kernel
theorem dX7_advise_45 : decode cX7_advise 45 = .ok (.getfield 16, 3) := by decide +kernel
theorem dX7_advise_48 : decode cX7_advise 48 = .ok (.iload_n 1, 1) := by decide +kernel
theorem dX7_advise_49 : decode cX7_advise 49 = .ok (.invokevirtual 136, 3) := by decide +kernel
theorem dX7_advise_52 : decode cX7_advise 52 = .ok (.istore 5, 2) := by decide +kernel
theorem dX7_advise_54 : decode cX7_advise 54 = .ok (.iload 5, 2) := by decide +kernel
theorem dX7_advise_56 : decode cX7_advise 56 = .ok (.iload_n 3, 1) := by decide +kernel
theorem dX7_advise_57 : decode cX7_advise 57 = .ok (.if_icmp .le 9, 3) := by decide +kernel
theorem dX7_advise_60 : decode cX7_advise 60 = .ok (.iload 5, 2) := by decide +kernel
theorem dX7_advise_62 : decode cX7_advise 62 = .ok (.istore_n 3, 1) := by decide +kernel
theorem dX7_advise_63 : decode cX7_advise 63 = .ok (.iload 4, 2) := by decide +kernel
theorem dX7_advise_65 : decode cX7_advise 65 = .ok (.istore_n 2, 1) := by decide +kernel
theorem dX7_advise_66 : decode cX7_advise 66 = .ok (.iinc 4 1, 3) := by decide +kernel
theorem dX7_advise_69 : decode cX7_advise 69 = .ok (.goto (-55), 3) := by decide +kernel
theorem dX7_advise_72 : decode cX7_advise 72 = .ok (.iload_n 2, 1) := by decide +kernel
theorem dX7_advise_73 : decode cX7_advise 73 = .ok (.ireturn, 1) := by decide +kernel
theorem dX7_mean_0 : decode cX7_mean 0 = .ok (.aload_n 0, 1) := by decide +kernel
theorem dX7_mean_1 : decode cX7_mean 1 = .ok (.getfield 10, 3) := by decide +kernel
theorem dX7_mean_4 : decode cX7_mean 4 = .ok (.getfield 65, 3) := by decide +kernel
theorem dX7_mean_7 : decode cX7_mean 7 = .ok (.ifCond .ne 5, 3) := by decide +kernel
theorem dX7_mean_10 : decode cX7_mean 10 = .ok (.dconst 0, 1) := by decide +kernel
theorem dX7_mean_11 : decode cX7_mean 11 = .ok (.dreturn, 1) := by decide +kernel
theorem dX7_mean_12 : decode cX7_mean 12 = .ok (.aload_n 0, 1) := by decide +kernel
theorem dX7_mean_13 : decode cX7_mean 13 = .ok (.getfield 10, 3) := by decide +kernel
theorem dX7_mean_16 : decode cX7_mean 16 = .ok (.getfield 80, 3) := by decide +kernel
theorem dX7_mean_19 : decode cX7_mean 19 = .ok (.getfield 167, 3) := by decide +kernel
theorem dX7_mean_22 : decode cX7_mean 22 = .ok (.i2d, 1) := by decide +kernel
theorem dX7_mean_23 : decode cX7_mean 23 = .ok (.aload_n 0, 1) := by decide +kernel
theorem dX7_mean_24 : decode cX7_mean 24 = .ok (.getfield 10, 3) := by decide +kernel
theorem dX7_mean_27 : decode cX7_mean 27 = .ok (.getfield 65, 3) := by decide +kernel
theorem dX7_mean_30 : decode cX7_mean 30 = .ok (.i2d, 1) := by decide +kernel
theorem dX7_mean_31 : decode cX7_mean 31 = .ok (.ddiv, 1) := by decide +kernel
theorem dX7_mean_32 : decode cX7_mean 32 = .ok (.dreturn, 1) := by decide +kernel
set_option maxRecDepth 20000 in
theorem ggX7_digest_X5_digestOnto : GoodIn wsX7_digest wsX5_digestOnto := goodIn_r _ [16, 17, 18, 19, 20, 21, 22, 23, 24, 25, 26, 27, 28, 29, 30, 31, 32, 33, 34, 35, 36, 37, 38, 39, 40, 41, 42, 43, 44, 45, 46, 47, 48, 49, 50, 51, 52, 53, 54, 55, 56, 57, 58, 59, 60, 61, 62, 63, 64, 65, 66, 67, 68, 69, 70, 71, 72, 73, 74, 75, 76, 77, 78, 79, 80, 81, 82, 83, 84, 85, 86, 87, 88, 89, 90, 91, 92, 93, 94, 95, 96, 122, 123, 124, 125, 126, 127, 128, 129, 130, 131, 132, 133, 134, 135, 136, 137, 138, 139, 111, 112, 113, 114, 115, 116, 117, 118, 119, 120, 121, 140, 141, 142, 143, 144, 145, 146] (by decide +kernel) (by decide +kernel)
set_option maxRecDepth 20000 in
theorem gX7_digest_X5_digestOnto_u172X6 : GoodIn wsX7_digest (va_wsU RX7 172 RX6 "ChicoryRoasters$Teller" ⟨"ChicoryRoasters$Town", "digestOnto", "(J)J"⟩ yX5_digestOnto wsX5_digestOnto) := goodIn_app (goodIn_of _ (by decide +kernel)) ggX7_digest_X5_digestOnto
set_option maxRecDepth 20000 in
theorem gX7_digest_X5_digestOnto_u176X0 : GoodIn wsX7_digest (va_wsU RX7 176 RX0 "ChicoryRoasters$Teller" ⟨"ChicoryRoasters$Bed", "digestOnto", "(J)J"⟩ yX5_digestOnto wsX5_digestOnto) := goodIn_app (goodIn_of _ (by decide +kernel)) ggX7_digest_X5_digestOnto
set_option maxRecDepth 20000 in
theorem gX7_digest_X5_digestOnto_u177X2 : GoodIn wsX7_digest (va_wsU RX7 177 RX2 "ChicoryRoasters$Teller" ⟨"ChicoryRoasters$Drum", "digestOnto", "(J)J"⟩ yX5_digestOnto wsX5_digestOnto) := goodIn_app (goodIn_of _ (by decide +kernel)) ggX7_digest_X5_digestOnto
set_option maxRecDepth 20000 in
theorem gX7_digest_X5_digestOnto_u178X3 : GoodIn wsX7_digest (va_wsU RX7 178 RX3 "ChicoryRoasters$Teller" ⟨"ChicoryRoasters$Smuggler", "digestOnto", "(J)J"⟩ yX5_digestOnto wsX5_digestOnto) := goodIn_app (goodIn_of _ (by decide +kernel)) ggX7_digest_X5_digestOnto
set_option maxRecDepth 20000 in
theorem gX7_digest_X5_digestOnto_u179X1 : GoodIn wsX7_digest (va_wsU RX7 179 RX1 "ChicoryRoasters$Teller" ⟨"ChicoryRoasters$Card", "digestOnto", "(J)J"⟩ yX5_digestOnto wsX5_digestOnto) := goodIn_app (goodIn_of _ (by decide +kernel)) ggX7_digest_X5_digestOnto
theorem dX7_digest_0 : decode cX7_digest 0 = .ok (.aload_n 0, 1) := by decide +kernel
theorem dX7_digest_1 : decode cX7_digest 1 = .ok (.getfield 10, 3) := by decide +kernel
theorem dX7_digest_4 : decode cX7_digest 4 = .ok (.ldc2_w 170, 3) := by decide +kernel
theorem dX7_digest_7 : decode cX7_digest 7 = .ok (.invokevirtual 172, 3) := by decide +kernel
theorem dX7_digest_10 : decode cX7_digest 10 = .ok (.lstore_n 1, 1) := by decide +kernel
theorem dX7_digest_11 : decode cX7_digest 11 = .ok (.iconst 0, 1) := by decide +kernel
theorem dX7_digest_12 : decode cX7_digest 12 = .ok (.istore_n 3, 1) := by decide +kernel
theorem dX7_digest_13 : decode cX7_digest 13 = .ok (.iload_n 3, 1) := by decide +kernel
theorem dX7_digest_14 : decode cX7_digest 14 = .ok (.aload_n 0, 1) := by decide +kernel
theorem dX7_digest_15 : decode cX7_digest 15 = .ok (.getfield 10, 3) := by decide +kernel
theorem dX7_digest_18 : decode cX7_digest 18 = .ok (.getfield 23, 3) := by decide +kernel
theorem dX7_digest_21 : decode cX7_digest 21 = .ok (.if_icmp .ge 23, 3) := by decide +kernel
theorem dX7_digest_24 : decode cX7_digest 24 = .ok (.aload_n 0, 1) := by decide +kernel
theorem dX7_digest_25 : decode cX7_digest 25 = .ok (.getfield 10, 3) := by decide +kernel
theorem dX7_digest_28 : decode cX7_digest 28 = .ok (.getfield 31, 3) := by decide +kernel
theorem dX7_digest_31 : decode cX7_digest 31 = .ok (.iload_n 3, 1) := by decide +kernel
theorem dX7_digest_32 : decode cX7_digest 32 = .ok (.aaload, 1) := by decide +kernel
theorem dX7_digest_33 : decode cX7_digest 33 = .ok (.lload_n 1, 1) := by decide +kernel
theorem dX7_digest_34 : decode cX7_digest 34 = .ok (.invokevirtual 176, 3) := by decide +kernel
theorem dX7_digest_37 : decode cX7_digest 37 = .ok (.lstore_n 1, 1) := by decide +kernel
theorem dX7_digest_38 : decode cX7_digest 38 = .ok (.iinc 3 1, 3) := by decide +kernel
theorem dX7_digest_41 : decode cX7_digest 41 = .ok (.goto (-28), 3) := by decide +kernel
theorem dX7_digest_44 : decode cX7_digest 44 = .ok (.iconst 0, 1) := by decide +kernel
theorem dX7_digest_45 : decode cX7_digest 45 = .ok (.istore_n 3, 1) := by decide +kernel
theorem dX7_digest_46 : decode cX7_digest 46 = .ok (.iload_n 3, 1) := by decide +kernel
theorem dX7_digest_47 : decode cX7_digest 47 = .ok (.aload_n 0, 1) := by decide +kernel
theorem dX7_digest_48 : decode cX7_digest 48 = .ok (.getfield 10, 3) := by decide +kernel
theorem dX7_digest_51 : decode cX7_digest 51 = .ok (.getfield 41, 3) := by decide +kernel
theorem dX7_digest_54 : decode cX7_digest 54 = .ok (.if_icmp .ge 23, 3) := by decide +kernel
theorem dX7_digest_57 : decode cX7_digest 57 = .ok (.aload_n 0, 1) := by decide +kernel
theorem dX7_digest_58 : decode cX7_digest 58 = .ok (.getfield 10, 3) := by decide +kernel
theorem dX7_digest_61 : decode cX7_digest 61 = .ok (.getfield 44, 3) := by decide +kernel
theorem dX7_digest_64 : decode cX7_digest 64 = .ok (.iload_n 3, 1) := by decide +kernel
theorem dX7_digest_65 : decode cX7_digest 65 = .ok (.aaload, 1) := by decide +kernel
theorem dX7_digest_66 : decode cX7_digest 66 = .ok (.lload_n 1, 1) := by decide +kernel
theorem dX7_digest_67 : decode cX7_digest 67 = .ok (.invokevirtual 177, 3) := by decide +kernel
theorem dX7_digest_70 : decode cX7_digest 70 = .ok (.lstore_n 1, 1) := by decide +kernel
theorem dX7_digest_71 : decode cX7_digest 71 = .ok (.iinc 3 1, 3) := by decide +kernel
theorem dX7_digest_74 : decode cX7_digest 74 = .ok (.goto (-28), 3) := by decide +kernel
theorem dX7_digest_77 : decode cX7_digest 77 = .ok (.iconst 0, 1) := by decide +kernel
theorem dX7_digest_78 : decode cX7_digest 78 = .ok (.istore_n 3, 1) := by decide +kernel
theorem dX7_digest_79 : decode cX7_digest 79 = .ok (.iload_n 3, 1) := by decide +kernel
theorem dX7_digest_80 : decode cX7_digest 80 = .ok (.aload_n 0, 1) := by decide +kernel
theorem dX7_digest_81 : decode cX7_digest 81 = .ok (.getfield 10, 3) := by decide +kernel
theorem dX7_digest_84 : decode cX7_digest 84 = .ok (.getfield 53, 3) := by decide +kernel
theorem dX7_digest_87 : decode cX7_digest 87 = .ok (.if_icmp .ge 23, 3) := by decide +kernel
theorem dX7_digest_90 : decode cX7_digest 90 = .ok (.aload_n 0, 1) := by decide +kernel
theorem dX7_digest_91 : decode cX7_digest 91 = .ok (.getfield 10, 3) := by decide +kernel
theorem dX7_digest_94 : decode cX7_digest 94 = .ok (.getfield 56, 3) := by decide +kernel
theorem dX7_digest_97 : decode cX7_digest 97 = .ok (.iload_n 3, 1) := by decide +kernel
theorem dX7_digest_98 : decode cX7_digest 98 = .ok (.aaload, 1) := by decide +kernel
theorem dX7_digest_99 : decode cX7_digest 99 = .ok (.lload_n 1, 1) := by decide +kernel
theorem dX7_digest_100 : decode cX7_digest 100 = .ok (.invokevirtual 178, 3) := by decide +kernel
theorem dX7_digest_103 : decode cX7_digest 103 = .ok (.lstore_n 1, 1) := by decide +kernel
theorem dX7_digest_104 : decode cX7_digest 104 = .ok (.iinc 3 1, 3) := by decide +kernel
theorem dX7_digest_107 : decode cX7_digest 107 = .ok (.goto (-28), 3) := by decide +kernel
theorem dX7_digest_110 : decode cX7_digest 110 = .ok (.iconst 0, 1) := by decide +kernel
theorem dX7_digest_111 : decode cX7_digest 111 = .ok (.istore_n 3, 1) := by decide +kernel
theorem dX7_digest_112 : decode cX7_digest 112 = .ok (.iload_n 3, 1) := by decide +kernel
theorem dX7_digest_113 : decode cX7_digest 113 = .ok (.aload_n 0, 1) := by decide +kernel
theorem dX7_digest_114 : decode cX7_digest 114 = .ok (.getfield 10, 3) := by decide +kernel
theorem dX7_digest_117 : decode cX7_digest 117 = .ok (.getfield 65, 3) := by decide +kernel
theorem dX7_digest_120 : decode cX7_digest 120 = .ok (.if_icmp .ge 23, 3) := by decide +kernel
theorem dX7_digest_123 : decode cX7_digest 123 = .ok (.aload_n 0, 1) := by decide +kernel
theorem dX7_digest_124 : decode cX7_digest 124 = .ok (.getfield 10, 3) := by decide +kernel
theorem dX7_digest_127 : decode cX7_digest 127 = .ok (.getfield 68, 3) := by decide +kernel
theorem dX7_digest_130 : decode cX7_digest 130 = .ok (.iload_n 3, 1) := by decide +kernel
theorem dX7_digest_131 : decode cX7_digest 131 = .ok (.aaload, 1) := by decide +kernel
theorem dX7_digest_132 : decode cX7_digest 132 = .ok (.lload_n 1, 1) := by decide +kernel
theorem dX7_digest_133 : decode cX7_digest 133 = .ok (.invokevirtual 179, 3) := by decide +kernel
theorem dX7_digest_136 : decode cX7_digest 136 = .ok (.lstore_n 1, 1) := by decide +kernel
theorem dX7_digest_137 : decode cX7_digest 137 = .ok (.iinc 3 1, 3) := by decide +kernel
theorem dX7_digest_140 : decode cX7_digest 140 = .ok (.goto (-28), 3) := by decide +kernel
theorem dX7_digest_143 : decode cX7_digest 143 = .ok (.lload_n 1, 1) := by decide +kernel
theorem dX7_digest_144 : decode cX7_digest 144 = .ok (.lreturn, 1) := by decide +kernel
theorem dX7_checkIndex_0 : decode cX7_checkIndex 0 = .ok (.iload_n 0, 1) := by decide +kernel
theorem dX7_checkIndex_1 : decode cX7_checkIndex 1 = .ok (.ifCond .lt 8, 3) := by decide +kernel
theorem dX7_checkIndex_4 : decode cX7_checkIndex 4 = .ok (.iload_n 0, 1) := by decide +kernel
theorem dX7_checkIndex_5 : decode cX7_checkIndex 5 = .ok (.iload_n 1, 1) := by decide +kernel
theorem dX7_checkIndex_6 : decode cX7_checkIndex 6 = .ok (.if_icmp .lt 13, 3) := by decide +kernel
theorem dX7_checkIndex_9 : decode cX7_checkIndex 9 = .ok (.new 139, 3) := by decide +kernel
theorem dX7_checkIndex_12 : decode cX7_checkIndex 12 = .ok (.dup, 1) := by decide +kernel
theorem dX7_checkIndex_13 : decode cX7_checkIndex 13 = .ok (.ldc 180, 2) := by decide +kernel
theorem dX7_checkIndex_15 : decode cX7_checkIndex 15 = .ok (.invokespecial 143, 3) := by decide +kernel
theorem dX7_checkIndex_18 : decode cX7_checkIndex 18 = .ok (.athrow, 1) := by decide +kernel
theorem dX7_checkIndex_19 : decode cX7_checkIndex 19 = .ok (.return_, 1) := by decide +kernel
theorem dX7_checkNumber_0 : decode cX7_checkNumber 0 = .ok (.iload_n 0, 1) := by decide +kernel
theorem dX7_checkNumber_1 : decode cX7_checkNumber 1 = .ok (.iload_n 1, 1) := by decide +kernel
theorem dX7_checkNumber_2 : decode cX7_checkNumber 2 = .ok (.if_icmp .lt 8, 3) := by decide +kernel
theorem dX7_checkNumber_5 : decode cX7_checkNumber 5 = .ok (.iload_n 0, 1) := by decide +kernel
theorem dX7_checkNumber_6 : decode cX7_checkNumber 6 = .ok (.iload_n 2, 1) := by decide +kernel
theorem dX7_checkNumber_7 : decode cX7_checkNumber 7 = .ok (.if_icmp .le 13, 3) := by decide +kernel
theorem dX7_checkNumber_10 : decode cX7_checkNumber 10 = .ok (.new 182, 3) := by decide +kernel
theorem dX7_checkNumber_13 : decode cX7_checkNumber 13 = .ok (.dup, 1) := by decide +kernel
theorem dX7_checkNumber_14 : decode cX7_checkNumber 14 = .ok (.ldc 184, 2) := by decide +kernel
theorem dX7_checkNumber_16 : decode cX7_checkNumber 16 = .ok (.invokespecial 186, 3) := by decide +kernel
theorem dX7_checkNumber_19 : decode cX7_checkNumber 19 = .ok (.athrow, 1) := by decide +kernel
theorem dX7_checkNumber_20 : decode cX7_checkNumber 20 = .ok (.return_, 1) := by decide +kernel
theorem dX7_checkState_0 : decode cX7_checkState 0 = .ok (.iload_n 0, 1) := by decide +kernel
theorem dX7_checkState_1 : decode cX7_checkState 1 = .ok (.ifCond .ne 13, 3) := by decide +kernel
theorem dX7_checkState_4 : decode cX7_checkState 4 = .ok (.new 187, 3) := by decide +kernel
theorem dX7_checkState_7 : decode cX7_checkState 7 = .ok (.dup, 1) := by decide +kernel
theorem dX7_checkState_8 : decode cX7_checkState 8 = .ok (.ldc 189, 2) := by decide +kernel
theorem dX7_checkState_10 : decode cX7_checkState 10 = .ok (.invokespecial 191, 3) := by decide +kernel
theorem dX7_checkState_13 : decode cX7_checkState 13 = .ok (.athrow, 1) := by decide +kernel
theorem dX7_checkState_14 : decode cX7_checkState 14 = .ok (.return_, 1) := by decide +kernel
set_option maxRecDepth 20000 in
theorem ggX7_ask_X0_size : GoodIn wsX7_ask wsX0_size := goodIn_r _ [6] (by decide +kernel) (by decide +kernel)
set_option maxRecDepth 20000 in
theorem gX7_ask_X0_size_u192X0 : GoodIn wsX7_ask (va_wsU RX7 192 RX0 "ChicoryRoasters$Teller" ⟨"ChicoryRoasters$Teller", "size", "()I"⟩ yX0_size wsX0_size) := goodIn_app (goodIn_of _ (by decide +kernel)) ggX7_ask_X0_size
set_option maxRecDepth 20000 in
theorem ggX7_ask_X1_size : GoodIn wsX7_ask wsX1_size := goodIn_r _ [10] (by decide +kernel) (by decide +kernel)
set_option maxRecDepth 20000 in
theorem gX7_ask_X1_size_u192X1 : GoodIn wsX7_ask (va_wsU RX7 192 RX1 "ChicoryRoasters$Teller" ⟨"ChicoryRoasters$Teller", "size", "()I"⟩ yX1_size wsX1_size) := goodIn_app (goodIn_of _ (by decide +kernel)) ggX7_ask_X1_size
set_option maxRecDepth 20000 in
theorem ggX7_ask_X2_size : GoodIn wsX7_ask wsX2_size := goodIn_r _ [14] (by decide +kernel) (by decide +kernel)
set_option maxRecDepth 20000 in
theorem gX7_ask_X2_size_u192X2 : GoodIn wsX7_ask (va_wsU RX7 192 RX2 "ChicoryRoasters$Teller" ⟨"ChicoryRoasters$Teller", "size", "()I"⟩ yX2_size wsX2_size) := goodIn_app (goodIn_of _ (by decide +kernel)) ggX7_ask_X2_size
set_option maxRecDepth 20000 in
theorem ggX7_ask_X3_size : GoodIn wsX7_ask wsX3_size := goodIn_r _ [18] (by decide +kernel) (by decide +kernel)
set_option maxRecDepth 20000 in
theorem gX7_ask_X3_size_u192X3 : GoodIn wsX7_ask (va_wsU RX7 192 RX3 "ChicoryRoasters$Teller" ⟨"ChicoryRoasters$Teller", "size", "()I"⟩ yX3_size wsX3_size) := goodIn_app (goodIn_of _ (by decide +kernel)) ggX7_ask_X3_size
set_option maxRecDepth 20000 in
theorem ggX7_ask_X6_size : GoodIn wsX7_ask wsX6_size := goodIn_r _ [22] (by decide +kernel) (by decide +kernel)
set_option maxRecDepth 20000 in
theorem gX7_ask_X6_size_u192X6 : GoodIn wsX7_ask (va_wsU RX7 192 RX6 "ChicoryRoasters$Teller" ⟨"ChicoryRoasters$Teller", "size", "()I"⟩ yX6_size wsX6_size) := goodIn_app (goodIn_of _ (by decide +kernel)) ggX7_ask_X6_size
set_option maxRecDepth 20000 in
theorem ggX7_ask_X7_checkIndex : GoodIn wsX7_ask wsX7_checkIndex := goodIn_ca (goodIn_r _ [26, 27, 28] (by decide +kernel) (by decide +kernel)) (goodIn_sub (fun _ h => List.mem_cons_of_mem _ (List.mem_append_right _ h)) (by decide +kernel))
set_option maxRecDepth 20000 in
theorem gX7_ask_X7_checkIndex : GoodIn wsX7_ask (va_wsS RX7 89 yX7_checkIndex wsX7_checkIndex) := goodIn_app (goodIn_of _ (by decide +kernel)) ggX7_ask_X7_checkIndex
set_option maxRecDepth 20000 in
theorem ggX7_ask_X0_tell : GoodIn wsX7_ask wsX0_tell := goodIn_r _ [33, 34, 35, 36, 86, 87, 88] (by decide +kernel) (by decide +kernel)
set_option maxRecDepth 20000 in
theorem gX7_ask_X0_tell_u197X0 : GoodIn wsX7_ask (va_wsU RX7 197 RX0 "ChicoryRoasters$Teller" ⟨"ChicoryRoasters$Teller", "tell", "(I)I"⟩ yX0_tell wsX0_tell) := goodIn_app (goodIn_of _ (by decide +kernel)) ggX7_ask_X0_tell
set_option maxRecDepth 20000 in
theorem ggX7_ask_X1_tell : GoodIn wsX7_ask wsX1_tell := goodIn_r _ [39, 40, 41, 42, 43, 44, 89, 90, 91, 92, 93] (by decide +kernel) (by decide +kernel)
set_option maxRecDepth 20000 in
theorem gX7_ask_X1_tell_u197X1 : GoodIn wsX7_ask (va_wsU RX7 197 RX1 "ChicoryRoasters$Teller" ⟨"ChicoryRoasters$Teller", "tell", "(I)I"⟩ yX1_tell wsX1_tell) := goodIn_app (goodIn_of _ (by decide +kernel)) ggX7_ask_X1_tell
set_option maxRecDepth 20000 in
theorem ggX7_ask_X2_tell : GoodIn wsX7_ask wsX2_tell := goodIn_r _ [47, 48, 49, 50, 51, 52, 53, 54, 55, 13, 56, 57, 58, 59, 60, 61, 62, 63, 64, 94, 95, 96, 97, 98] (by decide +kernel) (by decide +kernel)
set_option maxRecDepth 20000 in
theorem gX7_ask_X2_tell_u197X2 : GoodIn wsX7_ask (va_wsU RX7 197 RX2 "ChicoryRoasters$Teller" ⟨"ChicoryRoasters$Teller", "tell", "(I)I"⟩ yX2_tell wsX2_tell) := goodIn_app (goodIn_of _ (by decide +kernel)) ggX7_ask_X2_tell
set_option maxRecDepth 20000 in
theorem ggX7_ask_X3_tell : GoodIn wsX7_ask wsX3_tell := goodIn_r _ [67, 68, 69, 70, 71, 72, 99, 100, 101, 102, 103] (by decide +kernel) (by decide +kernel)
set_option maxRecDepth 20000 in
theorem gX7_ask_X3_tell_u197X3 : GoodIn wsX7_ask (va_wsU RX7 197 RX3 "ChicoryRoasters$Teller" ⟨"ChicoryRoasters$Teller", "tell", "(I)I"⟩ yX3_tell wsX3_tell) := goodIn_app (goodIn_of _ (by decide +kernel)) ggX7_ask_X3_tell
set_option maxRecDepth 20000 in
theorem ggX7_ask_X6_tell : GoodIn wsX7_ask wsX6_tell := goodIn_r _ [75, 76, 77, 78, 79, 80, 81, 82, 83, 84, 85, 104, 105, 106, 107, 108, 109, 110, 111, 112, 113, 114, 115, 116, 117, 118, 119, 120, 121] (by decide +kernel) (by decide +kernel)
set_option maxRecDepth 20000 in
theorem gX7_ask_X6_tell_u197X6 : GoodIn wsX7_ask (va_wsU RX7 197 RX6 "ChicoryRoasters$Teller" ⟨"ChicoryRoasters$Teller", "tell", "(I)I"⟩ yX6_tell wsX6_tell) := goodIn_app (goodIn_of _ (by decide +kernel)) ggX7_ask_X6_tell
theorem dX7_ask_0 : decode cX7_ask 0 = .ok (.iload_n 1, 1) := by decide +kernel
theorem dX7_ask_1 : decode cX7_ask 1 = .ok (.aload_n 0, 1) := by decide +kernel
theorem dX7_ask_2 : decode cX7_ask 2 = .ok (.invokevirtual 192, 3) := by decide +kernel
theorem dX7_ask_5 : decode cX7_ask 5 = .ok (.invokestatic 89, 3) := by decide +kernel
theorem dX7_ask_8 : decode cX7_ask 8 = .ok (.aload_n 0, 1) := by decide +kernel
theorem dX7_ask_9 : decode cX7_ask 9 = .ok (.iload_n 1, 1) := by decide +kernel
theorem dX7_ask_10 : decode cX7_ask 10 = .ok (.invokevirtual 197, 3) := by decide +kernel
theorem dX7_ask_13 : decode cX7_ask 13 = .ok (.ireturn, 1) := by decide +kernel
