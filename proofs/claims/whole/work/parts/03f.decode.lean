theorem dX8_roast_0 : decode cX8_roast 0 = .ok (.aload_n 0, 1) := by decide +kernel
theorem dX8_roast_1 : decode cX8_roast 1 = .ok (.iconst 0, 1) := by decide +kernel
theorem dX8_roast_2 : decode cX8_roast 2 = .ok (.putfield 28, 3) := by decide +kernel
theorem dX8_roast_5 : decode cX8_roast 5 = .ok (.aload_n 0, 1) := by decide +kernel
theorem dX8_roast_6 : decode cX8_roast 6 = .ok (.iload_n 1, 1) := by decide +kernel
theorem dX8_roast_7 : decode cX8_roast 7 = .ok (.invokevirtual 69, 3) := by decide +kernel
theorem dX8_roast_10 : decode cX8_roast 10 = .ok (.ifCond .eq 21, 3) := by decide +kernel
theorem dX8_roast_13 : decode cX8_roast 13 = .ok (.iload_n 2, 1) := by decide +kernel
theorem dX8_roast_14 : decode cX8_roast 14 = .ok (.iconst 0, 1) := by decide +kernel
theorem dX8_roast_15 : decode cX8_roast 15 = .ok (.iconst 5, 1) := by decide +kernel
theorem dX8_roast_16 : decode cX8_roast 16 = .ok (.invokestatic 35, 3) := by decide +kernel
theorem dX8_roast_19 : decode cX8_roast 19 = .ok (.ifCond .eq 12, 3) := by decide +kernel
theorem dX8_roast_22 : decode cX8_roast 22 = .ok (.aload_n 0, 1) := by decide +kernel
theorem dX8_roast_23 : decode cX8_roast 23 = .ok (.iload_n 1, 1) := by decide +kernel
theorem dX8_roast_24 : decode cX8_roast 24 = .ok (.iload_n 2, 1) := by decide +kernel
theorem dX8_roast_25 : decode cX8_roast 25 = .ok (.invokevirtual 104, 3) := by decide +kernel
theorem dX8_roast_28 : decode cX8_roast 28 = .ok (.goto 8, 3) := by decide +kernel
theorem dX8_roast_31 : decode cX8_roast 31 = .ok (.aload_n 0, 1) := by decide +kernel
theorem dX8_roast_32 : decode cX8_roast 32 = .ok (.iconst 1, 1) := by decide +kernel
theorem dX8_roast_33 : decode cX8_roast 33 = .ok (.invokevirtual 48, 3) := by decide +kernel
theorem dX8_roast_36 : decode cX8_roast 36 = .ok (.ireturn, 1) := by decide +kernel
set_option maxRecDepth 20000 in
theorem ggX8_smugglerIs_X8_sm : GoodIn wsX8_smugglerIs wsX8_sm := goodIn_r _ [6, 7, 8, 9, 10, 11, 12, 13, 14, 15, 16, 17, 18] (by decide +kernel) (by decide +kernel)
set_option maxRecDepth 20000 in
theorem gX8_smugglerIs_X8_sm : GoodIn wsX8_smugglerIs (wsV RX8 95 RX8 yX8_sm wsX8_sm) := goodIn_app (goodIn_of _ (by decide +kernel)) ggX8_smugglerIs_X8_sm
theorem dX8_smugglerIs_0 : decode cX8_smugglerIs 0 = .ok (.iload_n 2, 1) := by decide +kernel
theorem dX8_smugglerIs_1 : decode cX8_smugglerIs 1 = .ok (.iconst 2, 1) := by decide +kernel
theorem dX8_smugglerIs_2 : decode cX8_smugglerIs 2 = .ok (.if_icmp .ge 16, 3) := by decide +kernel
theorem dX8_smugglerIs_5 : decode cX8_smugglerIs 5 = .ok (.aload_n 0, 1) := by decide +kernel
theorem dX8_smugglerIs_6 : decode cX8_smugglerIs 6 = .ok (.getfield 16, 3) := by decide +kernel
theorem dX8_smugglerIs_9 : decode cX8_smugglerIs 9 = .ok (.iconst 2, 1) := by decide +kernel
theorem dX8_smugglerIs_10 : decode cX8_smugglerIs 10 = .ok (.iload_n 1, 1) := by decide +kernel
theorem dX8_smugglerIs_11 : decode cX8_smugglerIs 11 = .ok (.imul, 1) := by decide +kernel
theorem dX8_smugglerIs_12 : decode cX8_smugglerIs 12 = .ok (.iload_n 2, 1) := by decide +kernel
theorem dX8_smugglerIs_13 : decode cX8_smugglerIs 13 = .ok (.iadd, 1) := by decide +kernel
theorem dX8_smugglerIs_14 : decode cX8_smugglerIs 14 = .ok (.iaload, 1) := by decide +kernel
theorem dX8_smugglerIs_15 : decode cX8_smugglerIs 15 = .ok (.goto 11, 3) := by decide +kernel
theorem dX8_smugglerIs_18 : decode cX8_smugglerIs 18 = .ok (.aload_n 0, 1) := by decide +kernel
theorem dX8_smugglerIs_19 : decode cX8_smugglerIs 19 = .ok (.iload_n 1, 1) := by decide +kernel
theorem dX8_smugglerIs_20 : decode cX8_smugglerIs 20 = .ok (.iload_n 2, 1) := by decide +kernel
theorem dX8_smugglerIs_21 : decode cX8_smugglerIs 21 = .ok (.iconst 2, 1) := by decide +kernel
theorem dX8_smugglerIs_22 : decode cX8_smugglerIs 22 = .ok (.isub, 1) := by decide +kernel
theorem dX8_smugglerIs_23 : decode cX8_smugglerIs 23 = .ok (.invokevirtual 95, 3) := by decide +kernel
theorem dX8_smugglerIs_26 : decode cX8_smugglerIs 26 = .ok (.ireturn, 1) := by decide +kernel
set_option maxRecDepth 20000 in
theorem ggX8_told_X8_isSmuggler : GoodIn wsX8_told wsX8_isSmuggler := goodIn_r _ [6, 7, 8, 9, 5, 10, 25, 26, 27, 28, 29, 30, 31, 32, 33, 34, 35] (by decide +kernel) (by decide +kernel)
set_option maxRecDepth 20000 in
theorem gX8_told_X8_isSmuggler : GoodIn wsX8_told (wsV RX8 92 RX8 yX8_isSmuggler wsX8_isSmuggler) := goodIn_app (goodIn_of _ (by decide +kernel)) ggX8_told_X8_isSmuggler
set_option maxRecDepth 20000 in
theorem ggX8_told_X8_isIn : GoodIn wsX8_told wsX8_isIn := goodIn_r _ [10] (by decide +kernel) (by decide +kernel)
set_option maxRecDepth 20000 in
theorem gX8_told_X8_isIn : GoodIn wsX8_told (va_wsS RX8 35 yX8_isIn wsX8_isIn) := goodIn_app (goodIn_of _ (by decide +kernel)) ggX8_told_X8_isIn
set_option maxRecDepth 20000 in
theorem ggX8_told_X8_smugglerIs : GoodIn wsX8_told wsX8_smugglerIs := goodIn_r _ [14, 15, 16, 17, 18, 5, 19, 20, 25, 26, 27, 28, 29, 30, 31, 32, 33, 34, 35] (by decide +kernel) (by decide +kernel)
set_option maxRecDepth 20000 in
theorem gX8_told_X8_smugglerIs : GoodIn wsX8_told (wsV RX8 107 RX8 yX8_smugglerIs wsX8_smugglerIs) := goodIn_app (goodIn_of _ (by decide +kernel)) ggX8_told_X8_smugglerIs
set_option maxRecDepth 20000 in
theorem ggX8_told_X8_fail : GoodIn wsX8_told wsX8_fail := goodIn_r _ [24, 1, 25, 26, 27, 28, 29, 30, 31, 32, 33, 34, 35] (by decide +kernel) (by decide +kernel)
set_option maxRecDepth 20000 in
theorem gX8_told_X8_fail : GoodIn wsX8_told (wsV RX8 48 RX8 yX8_fail wsX8_fail) := goodIn_app (goodIn_of _ (by decide +kernel)) ggX8_told_X8_fail
theorem dX8_told_0 : decode cX8_told 0 = .ok (.aload_n 0, 1) := by decide +kernel
theorem dX8_told_1 : decode cX8_told 1 = .ok (.iconst 0, 1) := by decide +kernel
theorem dX8_told_2 : decode cX8_told 2 = .ok (.putfield 28, 3) := by decide +kernel
theorem dX8_told_5 : decode cX8_told 5 = .ok (.aload_n 0, 1) := by decide +kernel
theorem dX8_told_6 : decode cX8_told 6 = .ok (.iload_n 1, 1) := by decide +kernel
theorem dX8_told_7 : decode cX8_told 7 = .ok (.invokevirtual 92, 3) := by decide +kernel
theorem dX8_told_10 : decode cX8_told 10 = .ok (.ifCond .eq 21, 3) := by decide +kernel
theorem dX8_told_13 : decode cX8_told 13 = .ok (.iload_n 2, 1) := by decide +kernel
theorem dX8_told_14 : decode cX8_told 14 = .ok (.iconst 0, 1) := by decide +kernel
theorem dX8_told_15 : decode cX8_told 15 = .ok (.iconst 4, 1) := by decide +kernel
theorem dX8_told_16 : decode cX8_told 16 = .ok (.invokestatic 35, 3) := by decide +kernel
theorem dX8_told_19 : decode cX8_told 19 = .ok (.ifCond .eq 12, 3) := by decide +kernel
theorem dX8_told_22 : decode cX8_told 22 = .ok (.aload_n 0, 1) := by decide +kernel
theorem dX8_told_23 : decode cX8_told 23 = .ok (.iload_n 1, 1) := by decide +kernel
theorem dX8_told_24 : decode cX8_told 24 = .ok (.iload_n 2, 1) := by decide +kernel
theorem dX8_told_25 : decode cX8_told 25 = .ok (.invokevirtual 107, 3) := by decide +kernel
theorem dX8_told_28 : decode cX8_told 28 = .ok (.goto 8, 3) := by decide +kernel
theorem dX8_told_31 : decode cX8_told 31 = .ok (.aload_n 0, 1) := by decide +kernel
theorem dX8_told_32 : decode cX8_told 32 = .ok (.iconst 1, 1) := by decide +kernel
theorem dX8_told_33 : decode cX8_told 33 = .ok (.invokevirtual 48, 3) := by decide +kernel
theorem dX8_told_36 : decode cX8_told 36 = .ok (.ireturn, 1) := by decide +kernel
set_option maxRecDepth 20000 in
theorem ggX8_cardIs_X8_ca : GoodIn wsX8_cardIs wsX8_ca := goodIn_r _ [6, 7, 8, 9, 10, 11, 12, 13, 14, 15, 16, 17, 18] (by decide +kernel) (by decide +kernel)
set_option maxRecDepth 20000 in
theorem gX8_cardIs_X8_ca : GoodIn wsX8_cardIs (wsV RX8 110 RX8 yX8_ca wsX8_ca) := goodIn_app (goodIn_of _ (by decide +kernel)) ggX8_cardIs_X8_ca
theorem dX8_cardIs_0 : decode cX8_cardIs 0 = .ok (.iload_n 2, 1) := by decide +kernel
theorem dX8_cardIs_1 : decode cX8_cardIs 1 = .ok (.iconst 2, 1) := by decide +kernel
theorem dX8_cardIs_2 : decode cX8_cardIs 2 = .ok (.if_icmp .ge 16, 3) := by decide +kernel
theorem dX8_cardIs_5 : decode cX8_cardIs 5 = .ok (.aload_n 0, 1) := by decide +kernel
theorem dX8_cardIs_6 : decode cX8_cardIs 6 = .ok (.getfield 19, 3) := by decide +kernel
theorem dX8_cardIs_9 : decode cX8_cardIs 9 = .ok (.iconst 2, 1) := by decide +kernel
theorem dX8_cardIs_10 : decode cX8_cardIs 10 = .ok (.iload_n 1, 1) := by decide +kernel
theorem dX8_cardIs_11 : decode cX8_cardIs 11 = .ok (.imul, 1) := by decide +kernel
theorem dX8_cardIs_12 : decode cX8_cardIs 12 = .ok (.iload_n 2, 1) := by decide +kernel
theorem dX8_cardIs_13 : decode cX8_cardIs 13 = .ok (.iadd, 1) := by decide +kernel
theorem dX8_cardIs_14 : decode cX8_cardIs 14 = .ok (.iaload, 1) := by decide +kernel
theorem dX8_cardIs_15 : decode cX8_cardIs 15 = .ok (.goto 11, 3) := by decide +kernel
theorem dX8_cardIs_18 : decode cX8_cardIs 18 = .ok (.aload_n 0, 1) := by decide +kernel
theorem dX8_cardIs_19 : decode cX8_cardIs 19 = .ok (.iload_n 1, 1) := by decide +kernel
theorem dX8_cardIs_20 : decode cX8_cardIs 20 = .ok (.iload_n 2, 1) := by decide +kernel
theorem dX8_cardIs_21 : decode cX8_cardIs 21 = .ok (.iconst 2, 1) := by decide +kernel
theorem dX8_cardIs_22 : decode cX8_cardIs 22 = .ok (.isub, 1) := by decide +kernel
theorem dX8_cardIs_23 : decode cX8_cardIs 23 = .ok (.invokevirtual 110, 3) := by decide +kernel
theorem dX8_cardIs_26 : decode cX8_cardIs 26 = .ok (.ireturn, 1) := by decide +kernel
set_option maxRecDepth 20000 in
theorem ggX8_ration_X8_isIn : GoodIn wsX8_ration wsX8_isIn := goodIn_r _ [6] (by decide +kernel) (by decide +kernel)
set_option maxRecDepth 20000 in
theorem gX8_ration_X8_isIn : GoodIn wsX8_ration (va_wsS RX8 35 yX8_isIn wsX8_isIn) := goodIn_app (goodIn_of _ (by decide +kernel)) ggX8_ration_X8_isIn
set_option maxRecDepth 20000 in
theorem ggX8_ration_X8_cardIs : GoodIn wsX8_ration wsX8_cardIs := goodIn_r _ [10, 11, 12, 13, 14, 5, 15, 16, 21, 22, 23, 24, 25, 26, 27, 28, 29, 30, 31] (by decide +kernel) (by decide +kernel)
set_option maxRecDepth 20000 in
theorem gX8_ration_X8_cardIs : GoodIn wsX8_ration (wsV RX8 113 RX8 yX8_cardIs wsX8_cardIs) := goodIn_app (goodIn_of _ (by decide +kernel)) ggX8_ration_X8_cardIs
set_option maxRecDepth 20000 in
theorem ggX8_ration_X8_fail : GoodIn wsX8_ration wsX8_fail := goodIn_r _ [20, 1, 21, 22, 23, 24, 25, 26, 27, 28, 29, 30, 31] (by decide +kernel) (by decide +kernel)
set_option maxRecDepth 20000 in
theorem gX8_ration_X8_fail : GoodIn wsX8_ration (wsV RX8 48 RX8 yX8_fail wsX8_fail) := goodIn_app (goodIn_of _ (by decide +kernel)) ggX8_ration_X8_fail
theorem dX8_ration_0 : decode cX8_ration 0 = .ok (.aload_n 0, 1) := by decide +kernel
theorem dX8_ration_1 : decode cX8_ration 1 = .ok (.iconst 0, 1) := by decide +kernel
theorem dX8_ration_2 : decode cX8_ration 2 = .ok (.putfield 28, 3) := by decide +kernel
theorem dX8_ration_5 : decode cX8_ration 5 = .ok (.iload_n 1, 1) := by decide +kernel
theorem dX8_ration_6 : decode cX8_ration 6 = .ok (.iconst 0, 1) := by decide +kernel
theorem dX8_ration_7 : decode cX8_ration 7 = .ok (.aload_n 0, 1) := by decide +kernel
theorem dX8_ration_8 : decode cX8_ration 8 = .ok (.getfield 59, 3) := by decide +kernel
theorem dX8_ration_11 : decode cX8_ration 11 = .ok (.iconst 1, 1) := by decide +kernel
theorem dX8_ration_12 : decode cX8_ration 12 = .ok (.isub, 1) := by decide +kernel
theorem dX8_ration_13 : decode cX8_ration 13 = .ok (.invokestatic 35, 3) := by decide +kernel
theorem dX8_ration_16 : decode cX8_ration 16 = .ok (.ifCond .eq 21, 3) := by decide +kernel
theorem dX8_ration_19 : decode cX8_ration 19 = .ok (.iload_n 2, 1) := by decide +kernel
theorem dX8_ration_20 : decode cX8_ration 20 = .ok (.iconst 0, 1) := by decide +kernel
theorem dX8_ration_21 : decode cX8_ration 21 = .ok (.iconst 4, 1) := by decide +kernel
theorem dX8_ration_22 : decode cX8_ration 22 = .ok (.invokestatic 35, 3) := by decide +kernel
theorem dX8_ration_25 : decode cX8_ration 25 = .ok (.ifCond .eq 12, 3) := by decide +kernel
theorem dX8_ration_28 : decode cX8_ration 28 = .ok (.aload_n 0, 1) := by decide +kernel
theorem dX8_ration_29 : decode cX8_ration 29 = .ok (.iload_n 1, 1) := by decide +kernel
theorem dX8_ration_30 : decode cX8_ration 30 = .ok (.iload_n 2, 1) := by decide +kernel
theorem dX8_ration_31 : decode cX8_ration 31 = .ok (.invokevirtual 113, 3) := by decide +kernel
theorem dX8_ration_34 : decode cX8_ration 34 = .ok (.goto 8, 3) := by decide +kernel
theorem dX8_ration_37 : decode cX8_ration 37 = .ok (.aload_n 0, 1) := by decide +kernel
theorem dX8_ration_38 : decode cX8_ration 38 = .ok (.iconst 1, 1) := by decide +kernel
theorem dX8_ration_39 : decode cX8_ration 39 = .ok (.invokevirtual 48, 3) := by decide +kernel
theorem dX8_ration_42 : decode cX8_ration 42 = .ok (.ireturn, 1) := by decide +kernel
set_option maxRecDepth 20000 in
theorem ggX8_count_X8_isIn : GoodIn wsX8_count wsX8_isIn := goodIn_r _ [6] (by decide +kernel) (by decide +kernel)
set_option maxRecDepth 20000 in
theorem gX8_count_X8_isIn : GoodIn wsX8_count (va_wsS RX8 35 yX8_isIn wsX8_isIn) := goodIn_app (goodIn_of _ (by decide +kernel)) ggX8_count_X8_isIn
set_option maxRecDepth 20000 in
theorem ggX8_count_X8_fail : GoodIn wsX8_count wsX8_fail := goodIn_r _ [10, 1, 11, 12, 13, 14, 15, 16, 17, 18, 19, 20, 21] (by decide +kernel) (by decide +kernel)
set_option maxRecDepth 20000 in
theorem gX8_count_X8_fail : GoodIn wsX8_count (wsV RX8 48 RX8 yX8_fail wsX8_fail) := goodIn_app (goodIn_of _ (by decide +kernel)) ggX8_count_X8_fail
theorem dX8_count_0 : decode cX8_count 0 = .ok (.aload_n 0, 1) := by decide +kernel
theorem dX8_count_1 : decode cX8_count 1 = .ok (.iconst 0, 1) := by decide +kernel
theorem dX8_count_2 : decode cX8_count 2 = .ok (.putfield 28, 3) := by decide +kernel
theorem dX8_count_5 : decode cX8_count 5 = .ok (.iload_n 1, 1) := by decide +kernel
theorem dX8_count_6 : decode cX8_count 6 = .ok (.iconst 0, 1) := by decide +kernel
theorem dX8_count_7 : decode cX8_count 7 = .ok (.bipush 8, 2) := by decide +kernel
theorem dX8_count_9 : decode cX8_count 9 = .ok (.invokestatic 35, 3) := by decide +kernel
theorem dX8_count_12 : decode cX8_count 12 = .ok (.ifCond .eq 12, 3) := by decide +kernel
theorem dX8_count_15 : decode cX8_count 15 = .ok (.aload_n 0, 1) := by decide +kernel
theorem dX8_count_16 : decode cX8_count 16 = .ok (.getfield 22, 3) := by decide +kernel
theorem dX8_count_19 : decode cX8_count 19 = .ok (.iload_n 1, 1) := by decide +kernel
theorem dX8_count_20 : decode cX8_count 20 = .ok (.iaload, 1) := by decide +kernel
theorem dX8_count_21 : decode cX8_count 21 = .ok (.goto 8, 3) := by decide +kernel
theorem dX8_count_24 : decode cX8_count 24 = .ok (.aload_n 0, 1) := by decide +kernel
theorem dX8_count_25 : decode cX8_count 25 = .ok (.iconst 1, 1) := by decide +kernel
theorem dX8_count_26 : decode cX8_count 26 = .ok (.invokevirtual 48, 3) := by decide +kernel
theorem dX8_count_29 : decode cX8_count 29 = .ok (.ireturn, 1) := by decide +kernel
theorem dX8_isPatrol_0 : decode cX8_isPatrol 0 = .ok (.aload_n 0, 1) := by decide +kernel
theorem dX8_isPatrol_1 : decode cX8_isPatrol 1 = .ok (.getfield 22, 3) := by decide +kernel
theorem dX8_isPatrol_4 : decode cX8_isPatrol 4 = .ok (.bipush 8, 2) := by decide +kernel
theorem dX8_isPatrol_6 : decode cX8_isPatrol 6 = .ok (.iaload, 1) := by decide +kernel
theorem dX8_isPatrol_7 : decode cX8_isPatrol 7 = .ok (.iload_n 1, 1) := by decide +kernel
theorem dX8_isPatrol_8 : decode cX8_isPatrol 8 = .ok (.bipush 7, 2) := by decide +kernel
theorem dX8_isPatrol_10 : decode cX8_isPatrol 10 = .ok (.irem, 1) := by decide +kernel
theorem dX8_isPatrol_11 : decode cX8_isPatrol 11 = .ok (.ishr, 1) := by decide +kernel
theorem dX8_isPatrol_12 : decode cX8_isPatrol 12 = .ok (.iconst 1, 1) := by decide +kernel
theorem dX8_isPatrol_13 : decode cX8_isPatrol 13 = .ok (.iand, 1) := by decide +kernel
theorem dX8_isPatrol_14 : decode cX8_isPatrol 14 = .ok (.iconst 1, 1) := by decide +kernel
theorem dX8_isPatrol_15 : decode cX8_isPatrol 15 = .ok (.if_icmp .ne 7, 3) := by decide +kernel
theorem dX8_isPatrol_18 : decode cX8_isPatrol 18 = .ok (.iconst 1, 1) := by decide +kernel
theorem dX8_isPatrol_19 : decode cX8_isPatrol 19 = .ok (.goto 4, 3) := by decide +kernel
theorem dX8_isPatrol_22 : decode cX8_isPatrol 22 = .ok (.iconst 0, 1) := by decide +kernel
theorem dX8_isPatrol_23 : decode cX8_isPatrol 23 = .ok (.ireturn, 1) := by decide +kernel
set_option maxRecDepth 20000 in
theorem ggX8_goOn_X8_sm : GoodIn wsX8_goOn wsX8_sm := goodIn_r _ [7, 2, 16, 17, 18, 19, 20, 21, 22, 23, 24, 25, 26] (by decide +kernel) (by decide +kernel)
set_option maxRecDepth 20000 in
theorem gX8_goOn_X8_sm : GoodIn wsX8_goOn (wsV RX8 95 RX8 yX8_sm wsX8_sm) := goodIn_app (goodIn_of _ (by decide +kernel)) ggX8_goOn_X8_sm
set_option maxRecDepth 20000 in
theorem ggX8_goOn_X8_isPatrol : GoodIn wsX8_goOn wsX8_isPatrol := goodIn_r _ [11, 2, 16, 17, 18, 19, 20, 21, 22, 23, 24, 25, 26] (by decide +kernel) (by decide +kernel)
set_option maxRecDepth 20000 in
theorem gX8_goOn_X8_isPatrol : GoodIn wsX8_goOn (wsV RX8 116 RX8 yX8_isPatrol wsX8_isPatrol) := goodIn_app (goodIn_of _ (by decide +kernel)) ggX8_goOn_X8_isPatrol
set_option maxRecDepth 20000 in
theorem ggX8_goOn_X8_letSmuggler : GoodIn wsX8_goOn wsX8_letSmuggler := goodIn_r _ [15, 2, 16, 17, 18, 19, 20, 21, 22, 23, 24, 25, 26] (by decide +kernel) (by decide +kernel)
set_option maxRecDepth 20000 in
theorem gX8_goOn_X8_letSmuggler : GoodIn wsX8_goOn (wsV RX8 98 RX8 yX8_letSmuggler wsX8_letSmuggler) := goodIn_app (goodIn_of _ (by decide +kernel)) ggX8_goOn_X8_letSmuggler
theorem dX8_goOn_0 : decode cX8_goOn 0 = .ok (.aload_n 0, 1) := by decide +kernel
theorem dX8_goOn_1 : decode cX8_goOn 1 = .ok (.iload_n 1, 1) := by decide +kernel
theorem dX8_goOn_2 : decode cX8_goOn 2 = .ok (.iconst 0, 1) := by decide +kernel
theorem dX8_goOn_3 : decode cX8_goOn 3 = .ok (.invokevirtual 95, 3) := by decide +kernel
theorem dX8_goOn_6 : decode cX8_goOn 6 = .ok (.istore_n 2, 1) := by decide +kernel
theorem dX8_goOn_7 : decode cX8_goOn 7 = .ok (.aload_n 0, 1) := by decide +kernel
theorem dX8_goOn_8 : decode cX8_goOn 8 = .ok (.iload_n 1, 1) := by decide +kernel
theorem dX8_goOn_9 : decode cX8_goOn 9 = .ok (.iconst 1, 1) := by decide +kernel
theorem dX8_goOn_10 : decode cX8_goOn 10 = .ok (.invokevirtual 95, 3) := by decide +kernel
theorem dX8_goOn_13 : decode cX8_goOn 13 = .ok (.iconst 1, 1) := by decide +kernel
theorem dX8_goOn_14 : decode cX8_goOn 14 = .ok (.isub, 1) := by decide +kernel
theorem dX8_goOn_15 : decode cX8_goOn 15 = .ok (.istore_n 3, 1) := by decide +kernel
theorem dX8_goOn_16 : decode cX8_goOn 16 = .ok (.iload_n 2, 1) := by decide +kernel
theorem dX8_goOn_17 : decode cX8_goOn 17 = .ok (.iconst 1, 1) := by decide +kernel
theorem dX8_goOn_18 : decode cX8_goOn 18 = .ok (.if_icmp .ne 56, 3) := by decide +kernel
theorem dX8_goOn_21 : decode cX8_goOn 21 = .ok (.iload_n 3, 1) := by decide +kernel
theorem dX8_goOn_22 : decode cX8_goOn 22 = .ok (.aload_n 0, 1) := by decide +kernel
theorem dX8_goOn_23 : decode cX8_goOn 23 = .ok (.getfield 16, 3) := by decide +kernel
theorem dX8_goOn_26 : decode cX8_goOn 26 = .ok (.iconst 2, 1) := by decide +kernel
theorem dX8_goOn_27 : decode cX8_goOn 27 = .ok (.iload_n 1, 1) := by decide +kernel
theorem dX8_goOn_28 : decode cX8_goOn 28 = .ok (.imul, 1) := by decide +kernel
theorem dX8_goOn_29 : decode cX8_goOn 29 = .ok (.iaload, 1) := by decide +kernel
theorem dX8_goOn_30 : decode cX8_goOn 30 = .ok (.iconst 2, 1) := by decide +kernel
theorem dX8_goOn_31 : decode cX8_goOn 31 = .ok (.idiv, 1) := by decide +kernel
theorem dX8_goOn_32 : decode cX8_goOn 32 = .ok (.if_icmp .ne 42, 3) := by decide +kernel
theorem dX8_goOn_35 : decode cX8_goOn 35 = .ok (.aload_n 0, 1) := by decide +kernel
theorem dX8_goOn_36 : decode cX8_goOn 36 = .ok (.aload_n 0, 1) := by decide +kernel
theorem dX8_goOn_37 : decode cX8_goOn 37 = .ok (.getfield 22, 3) := by decide +kernel
theorem dX8_goOn_40 : decode cX8_goOn 40 = .ok (.iconst 0, 1) := by decide +kernel
theorem dX8_goOn_41 : decode cX8_goOn 41 = .ok (.iaload, 1) := by decide +kernel
theorem dX8_goOn_42 : decode cX8_goOn 42 = .ok (.invokevirtual 116, 3) := by decide +kernel
theorem dX8_goOn_45 : decode cX8_goOn 45 = .ok (.ifCond .eq 29, 3) := by decide +kernel
theorem dX8_goOn_48 : decode cX8_goOn 48 = .ok (.aload_n 0, 1) := by decide +kernel
theorem dX8_goOn_49 : decode cX8_goOn 49 = .ok (.iload_n 1, 1) := by decide +kernel
theorem dX8_goOn_50 : decode cX8_goOn 50 = .ok (.iconst 2, 1) := by decide +kernel
theorem dX8_goOn_51 : decode cX8_goOn 51 = .ok (.bipush 10, 2) := by decide +kernel
theorem dX8_goOn_53 : decode cX8_goOn 53 = .ok (.invokevirtual 98, 3) := by decide +kernel
theorem dX8_goOn_56 : decode cX8_goOn 56 = .ok (.aload_n 0, 1) := by decide +kernel
theorem dX8_goOn_57 : decode cX8_goOn 57 = .ok (.getfield 22, 3) := by decide +kernel
theorem dX8_goOn_60 : decode cX8_goOn 60 = .ok (.bipush 30, 2) := by decide +kernel
theorem dX8_goOn_62 : decode cX8_goOn 62 = .ok (.iconst 3, 1) := by decide +kernel
theorem dX8_goOn_63 : decode cX8_goOn 63 = .ok (.iload_n 1, 1) := by decide +kernel
theorem dX8_goOn_64 : decode cX8_goOn 64 = .ok (.imul, 1) := by decide +kernel
theorem dX8_goOn_65 : decode cX8_goOn 65 = .ok (.iadd, 1) := by decide +kernel
theorem dX8_goOn_66 : decode cX8_goOn 66 = .ok (.iconst 2, 1) := by decide +kernel
theorem dX8_goOn_67 : decode cX8_goOn 67 = .ok (.iadd, 1) := by decide +kernel
theorem dX8_goOn_68 : decode cX8_goOn 68 = .ok (.dup2, 1) := by decide +kernel
theorem dX8_goOn_69 : decode cX8_goOn 69 = .ok (.iaload, 1) := by decide +kernel
theorem dX8_goOn_70 : decode cX8_goOn 70 = .ok (.iconst 1, 1) := by decide +kernel
theorem dX8_goOn_71 : decode cX8_goOn 71 = .ok (.iadd, 1) := by decide +kernel
theorem dX8_goOn_72 : decode cX8_goOn 72 = .ok (.iastore, 1) := by decide +kernel
theorem dX8_goOn_73 : decode cX8_goOn 73 = .ok (.return_, 1) := by decide +kernel
theorem dX8_goOn_74 : decode cX8_goOn 74 = .ok (.aload_n 0, 1) := by decide +kernel
theorem dX8_goOn_75 : decode cX8_goOn 75 = .ok (.iload_n 1, 1) := by decide +kernel
theorem dX8_goOn_76 : decode cX8_goOn 76 = .ok (.iload_n 3, 1) := by decide +kernel
theorem dX8_goOn_77 : decode cX8_goOn 77 = .ok (.ifCond .ne 7, 3) := by decide +kernel
theorem dX8_goOn_80 : decode cX8_goOn 80 = .ok (.iconst 0, 1) := by decide +kernel
theorem dX8_goOn_81 : decode cX8_goOn 81 = .ok (.goto 4, 3) := by decide +kernel
theorem dX8_goOn_84 : decode cX8_goOn 84 = .ok (.iload_n 2, 1) := by decide +kernel
theorem dX8_goOn_85 : decode cX8_goOn 85 = .ok (.iload_n 3, 1) := by decide +kernel
theorem dX8_goOn_86 : decode cX8_goOn 86 = .ok (.invokevirtual 98, 3) := by decide +kernel
theorem dX8_goOn_89 : decode cX8_goOn 89 = .ok (.iload_n 3, 1) := by decide +kernel
theorem dX8_goOn_90 : decode cX8_goOn 90 = .ok (.ifCond .ne 27, 3) := by decide +kernel
theorem dX8_goOn_93 : decode cX8_goOn 93 = .ok (.iload_n 2, 1) := by decide +kernel
theorem dX8_goOn_94 : decode cX8_goOn 94 = .ok (.iconst 1, 1) := by decide +kernel
theorem dX8_goOn_95 : decode cX8_goOn 95 = .ok (.if_icmp .ne 22, 3) := by decide +kernel
theorem dX8_goOn_98 : decode cX8_goOn 98 = .ok (.aload_n 0, 1) := by decide +kernel
theorem dX8_goOn_99 : decode cX8_goOn 99 = .ok (.getfield 22, 3) := by decide +kernel
theorem dX8_goOn_102 : decode cX8_goOn 102 = .ok (.iconst 2, 1) := by decide +kernel
theorem dX8_goOn_103 : decode cX8_goOn 103 = .ok (.dup2, 1) := by decide +kernel
theorem dX8_goOn_104 : decode cX8_goOn 104 = .ok (.iaload, 1) := by decide +kernel
theorem dX8_goOn_105 : decode cX8_goOn 105 = .ok (.aload_n 0, 1) := by decide +kernel
theorem dX8_goOn_106 : decode cX8_goOn 106 = .ok (.getfield 16, 3) := by decide +kernel
theorem dX8_goOn_109 : decode cX8_goOn 109 = .ok (.iconst 2, 1) := by decide +kernel
theorem dX8_goOn_110 : decode cX8_goOn 110 = .ok (.iload_n 1, 1) := by decide +kernel
theorem dX8_goOn_111 : decode cX8_goOn 111 = .ok (.imul, 1) := by decide +kernel
theorem dX8_goOn_112 : decode cX8_goOn 112 = .ok (.iconst 1, 1) := by decide +kernel
theorem dX8_goOn_113 : decode cX8_goOn 113 = .ok (.iadd, 1) := by decide +kernel
theorem dX8_goOn_114 : decode cX8_goOn 114 = .ok (.iaload, 1) := by decide +kernel
theorem dX8_goOn_115 : decode cX8_goOn 115 = .ok (.iadd, 1) := by decide +kernel
theorem dX8_goOn_116 : decode cX8_goOn 116 = .ok (.iastore, 1) := by decide +kernel
theorem dX8_goOn_117 : decode cX8_goOn 117 = .ok (.return_, 1) := by decide +kernel
set_option maxRecDepth 20000 in
theorem ggX8_serve_X8_ca : GoodIn wsX8_serve wsX8_ca := goodIn_r _ [11, 1, 16, 17, 18, 19, 20, 21, 22, 23, 24, 25, 26] (by decide +kernel) (by decide +kernel)
set_option maxRecDepth 20000 in
theorem gX8_serve_X8_ca : GoodIn wsX8_serve (wsV RX8 110 RX8 yX8_ca wsX8_ca) := goodIn_app (goodIn_of _ (by decide +kernel)) ggX8_serve_X8_ca
set_option maxRecDepth 20000 in
theorem ggX8_serve_X8_moreCard : GoodIn wsX8_serve wsX8_moreCard := goodIn_r _ [15, 1, 16, 17, 18, 19, 20, 21, 22, 23, 24, 25, 26] (by decide +kernel) (by decide +kernel)
set_option maxRecDepth 20000 in
theorem gX8_serve_X8_moreCard : GoodIn wsX8_serve (wsV RX8 62 RX8 yX8_moreCard wsX8_moreCard) := goodIn_app (goodIn_of _ (by decide +kernel)) ggX8_serve_X8_moreCard
theorem dX8_serve_0 : decode cX8_serve 0 = .ok (.aload_n 0, 1) := by decide +kernel
theorem dX8_serve_1 : decode cX8_serve 1 = .ok (.getfield 22, 3) := by decide +kernel
theorem dX8_serve_4 : decode cX8_serve 4 = .ok (.bipush 7, 2) := by decide +kernel
theorem dX8_serve_6 : decode cX8_serve 6 = .ok (.iaload, 1) := by decide +kernel
theorem dX8_serve_7 : decode cX8_serve 7 = .ok (.aload_n 0, 1) := by decide +kernel
theorem dX8_serve_8 : decode cX8_serve 8 = .ok (.getfield 22, 3) := by decide +kernel
theorem dX8_serve_11 : decode cX8_serve 11 = .ok (.iconst 4, 1) := by decide +kernel
theorem dX8_serve_12 : decode cX8_serve 12 = .ok (.iaload, 1) := by decide +kernel
theorem dX8_serve_13 : decode cX8_serve 13 = .ok (.invokestatic 119, 3) := by decide +kernel
theorem dX8_serve_16 : decode cX8_serve 16 = .ok (.istore_n 2, 1) := by decide +kernel
theorem dX8_serve_17 : decode cX8_serve 17 = .ok (.aload_n 0, 1) := by decide +kernel
theorem dX8_serve_18 : decode cX8_serve 18 = .ok (.iload_n 1, 1) := by decide +kernel
theorem dX8_serve_19 : decode cX8_serve 19 = .ok (.iconst 0, 1) := by decide +kernel
theorem dX8_serve_20 : decode cX8_serve 20 = .ok (.invokevirtual 110, 3) := by decide +kernel
theorem dX8_serve_23 : decode cX8_serve 23 = .ok (.ifCond .eq 16, 3) := by decide +kernel
theorem dX8_serve_26 : decode cX8_serve 26 = .ok (.aload_n 0, 1) := by decide +kernel
theorem dX8_serve_27 : decode cX8_serve 27 = .ok (.getfield 22, 3) := by decide +kernel
theorem dX8_serve_30 : decode cX8_serve 30 = .ok (.iconst 3, 1) := by decide +kernel
theorem dX8_serve_31 : decode cX8_serve 31 = .ok (.iaload, 1) := by decide +kernel
theorem dX8_serve_32 : decode cX8_serve 32 = .ok (.bipush 10, 2) := by decide +kernel
theorem dX8_serve_34 : decode cX8_serve 34 = .ok (.iload_n 2, 1) := by decide +kernel
theorem dX8_serve_35 : decode cX8_serve 35 = .ok (.isub, 1) := by decide +kernel
theorem dX8_serve_36 : decode cX8_serve 36 = .ok (.if_icmp .ge 5, 3) := by decide +kernel
theorem dX8_serve_39 : decode cX8_serve 39 = .ok (.iconst 0, 1) := by decide +kernel
theorem dX8_serve_40 : decode cX8_serve 40 = .ok (.ireturn, 1) := by decide +kernel
theorem dX8_serve_41 : decode cX8_serve 41 = .ok (.iload_n 2, 1) := by decide +kernel
theorem dX8_serve_42 : decode cX8_serve 42 = .ok (.aload_n 0, 1) := by decide +kernel
theorem dX8_serve_43 : decode cX8_serve 43 = .ok (.getfield 19, 3) := by decide +kernel
theorem dX8_serve_46 : decode cX8_serve 46 = .ok (.iconst 2, 1) := by decide +kernel
theorem dX8_serve_47 : decode cX8_serve 47 = .ok (.iload_n 1, 1) := by decide +kernel
theorem dX8_serve_48 : decode cX8_serve 48 = .ok (.imul, 1) := by decide +kernel
theorem dX8_serve_49 : decode cX8_serve 49 = .ok (.iconst 1, 1) := by decide +kernel
theorem dX8_serve_50 : decode cX8_serve 50 = .ok (.iadd, 1) := by decide +kernel
theorem dX8_serve_51 : decode cX8_serve 51 = .ok (.iaload, 1) := by decide +kernel
theorem dX8_serve_52 : decode cX8_serve 52 = .ok (.if_icmp .ge 12, 3) := by decide +kernel
theorem dX8_serve_55 : decode cX8_serve 55 = .ok (.aload_n 0, 1) := by decide +kernel
theorem dX8_serve_56 : decode cX8_serve 56 = .ok (.iload_n 1, 1) := by decide +kernel
theorem dX8_serve_57 : decode cX8_serve 57 = .ok (.iconst 2, 1) := by decide +kernel
theorem dX8_serve_58 : decode cX8_serve 58 = .ok (.iconst 1, 1) := by decide +kernel
theorem dX8_serve_59 : decode cX8_serve 59 = .ok (.invokevirtual 62, 3) := by decide +kernel
theorem dX8_serve_62 : decode cX8_serve 62 = .ok (.iconst 0, 1) := by decide +kernel
theorem dX8_serve_63 : decode cX8_serve 63 = .ok (.ireturn, 1) := by decide +kernel
theorem dX8_serve_64 : decode cX8_serve 64 = .ok (.aload_n 0, 1) := by decide +kernel
theorem dX8_serve_65 : decode cX8_serve 65 = .ok (.getfield 22, 3) := by decide +kernel
theorem dX8_serve_68 : decode cX8_serve 68 = .ok (.iconst 4, 1) := by decide +kernel
theorem dX8_serve_69 : decode cX8_serve 69 = .ok (.dup2, 1) := by decide +kernel
theorem dX8_serve_70 : decode cX8_serve 70 = .ok (.iaload, 1) := by decide +kernel
theorem dX8_serve_71 : decode cX8_serve 71 = .ok (.iload_n 2, 1) := by decide +kernel
theorem dX8_serve_72 : decode cX8_serve 72 = .ok (.isub, 1) := by decide +kernel
theorem dX8_serve_73 : decode cX8_serve 73 = .ok (.iastore, 1) := by decide +kernel
theorem dX8_serve_74 : decode cX8_serve 74 = .ok (.aload_n 0, 1) := by decide +kernel
theorem dX8_serve_75 : decode cX8_serve 75 = .ok (.getfield 22, 3) := by decide +kernel
theorem dX8_serve_78 : decode cX8_serve 78 = .ok (.iconst 3, 1) := by decide +kernel
theorem dX8_serve_79 : decode cX8_serve 79 = .ok (.dup2, 1) := by decide +kernel
theorem dX8_serve_80 : decode cX8_serve 80 = .ok (.iaload, 1) := by decide +kernel
theorem dX8_serve_81 : decode cX8_serve 81 = .ok (.bipush 10, 2) := by decide +kernel
theorem dX8_serve_83 : decode cX8_serve 83 = .ok (.iload_n 2, 1) := by decide +kernel
theorem dX8_serve_84 : decode cX8_serve 84 = .ok (.isub, 1) := by decide +kernel
theorem dX8_serve_85 : decode cX8_serve 85 = .ok (.isub, 1) := by decide +kernel
theorem dX8_serve_86 : decode cX8_serve 86 = .ok (.iastore, 1) := by decide +kernel
theorem dX8_serve_87 : decode cX8_serve 87 = .ok (.aload_n 0, 1) := by decide +kernel
theorem dX8_serve_88 : decode cX8_serve 88 = .ok (.getfield 22, 3) := by decide +kernel
theorem dX8_serve_91 : decode cX8_serve 91 = .ok (.iconst 5, 1) := by decide +kernel
theorem dX8_serve_92 : decode cX8_serve 92 = .ok (.dup2, 1) := by decide +kernel
theorem dX8_serve_93 : decode cX8_serve 93 = .ok (.iaload, 1) := by decide +kernel
theorem dX8_serve_94 : decode cX8_serve 94 = .ok (.iconst 1, 1) := by decide +kernel
theorem dX8_serve_95 : decode cX8_serve 95 = .ok (.iadd, 1) := by decide +kernel
theorem dX8_serve_96 : decode cX8_serve 96 = .ok (.iastore, 1) := by decide +kernel
theorem dX8_serve_97 : decode cX8_serve 97 = .ok (.aload_n 0, 1) := by decide +kernel
theorem dX8_serve_98 : decode cX8_serve 98 = .ok (.getfield 22, 3) := by decide +kernel
theorem dX8_serve_101 : decode cX8_serve 101 = .ok (.bipush 6, 2) := by decide +kernel
theorem dX8_serve_103 : decode cX8_serve 103 = .ok (.dup2, 1) := by decide +kernel
theorem dX8_serve_104 : decode cX8_serve 104 = .ok (.iaload, 1) := by decide +kernel
theorem dX8_serve_105 : decode cX8_serve 105 = .ok (.iload_n 2, 1) := by decide +kernel
theorem dX8_serve_106 : decode cX8_serve 106 = .ok (.aload_n 0, 1) := by decide +kernel
theorem dX8_serve_107 : decode cX8_serve 107 = .ok (.getfield 22, 3) := by decide +kernel
theorem dX8_serve_110 : decode cX8_serve 110 = .ok (.bipush 7, 2) := by decide +kernel
theorem dX8_serve_112 : decode cX8_serve 112 = .ok (.iaload, 1) := by decide +kernel
theorem dX8_serve_113 : decode cX8_serve 113 = .ok (.if_icmp .ge 7, 3) := by decide +kernel
theorem dX8_serve_116 : decode cX8_serve 116 = .ok (.iconst 1, 1) := by decide +kernel
theorem dX8_serve_117 : decode cX8_serve 117 = .ok (.goto 4, 3) := by decide +kernel
theorem dX8_serve_120 : decode cX8_serve 120 = .ok (.iconst 0, 1) := by decide +kernel
theorem dX8_serve_121 : decode cX8_serve 121 = .ok (.iadd, 1) := by decide +kernel
theorem dX8_serve_122 : decode cX8_serve 122 = .ok (.iastore, 1) := by decide +kernel
theorem dX8_serve_123 : decode cX8_serve 123 = .ok (.aload_n 0, 1) := by decide +kernel
theorem dX8_serve_124 : decode cX8_serve 124 = .ok (.iload_n 1, 1) := by decide +kernel
theorem dX8_serve_125 : decode cX8_serve 125 = .ok (.iconst 0, 1) := by decide +kernel
theorem dX8_serve_126 : decode cX8_serve 126 = .ok (.iconst (-1), 1) := by decide +kernel
theorem dX8_serve_127 : decode cX8_serve 127 = .ok (.invokevirtual 62, 3) := by decide +kernel
theorem dX8_serve_130 : decode cX8_serve 130 = .ok (.aload_n 0, 1) := by decide +kernel
theorem dX8_serve_131 : decode cX8_serve 131 = .ok (.iload_n 1, 1) := by decide +kernel
theorem dX8_serve_132 : decode cX8_serve 132 = .ok (.iconst 1, 1) := by decide +kernel
theorem dX8_serve_133 : decode cX8_serve 133 = .ok (.iconst 1, 1) := by decide +kernel
theorem dX8_serve_134 : decode cX8_serve 134 = .ok (.invokevirtual 62, 3) := by decide +kernel
theorem dX8_serve_137 : decode cX8_serve 137 = .ok (.iconst 1, 1) := by decide +kernel
theorem dX8_serve_138 : decode cX8_serve 138 = .ok (.ireturn, 1) := by decide +kernel
set_option maxRecDepth 20000 in
theorem ggX8_dayOn_X8_sm : GoodIn wsX8_dayOn wsX8_sm := goodIn_r _ [17, 9, 51, 52, 53, 54, 55, 56, 57, 58, 59, 60, 61] (by decide +kernel) (by decide +kernel)
set_option maxRecDepth 20000 in
theorem gX8_dayOn_X8_sm : GoodIn wsX8_dayOn (wsV RX8 95 RX8 yX8_sm wsX8_sm) := goodIn_app (goodIn_of _ (by decide +kernel)) ggX8_dayOn_X8_sm
set_option maxRecDepth 20000 in
theorem ggX8_dayOn_X8_goOn : GoodIn wsX8_dayOn wsX8_goOn := goodIn_r _ [21, 22, 9, 13, 14, 15, 16, 17, 23, 24, 25, 26, 27, 28, 29, 30, 51, 52, 53, 54, 55, 56, 57, 58, 59, 60, 61] (by decide +kernel) (by decide +kernel)
set_option maxRecDepth 20000 in
theorem gX8_dayOn_X8_goOn : GoodIn wsX8_dayOn (wsV RX8 124 RX8 yX8_goOn wsX8_goOn) := goodIn_app (goodIn_of _ (by decide +kernel)) ggX8_dayOn_X8_goOn
set_option maxRecDepth 20000 in
theorem ggX8_dayOn_X8_dr : GoodIn wsX8_dayOn wsX8_dr := goodIn_r _ [34, 9, 51, 52, 53, 54, 55, 56, 57, 58, 59, 60, 61] (by decide +kernel) (by decide +kernel)
set_option maxRecDepth 20000 in
theorem gX8_dayOn_X8_dr : GoodIn wsX8_dayOn (wsV RX8 73 RX8 yX8_dr wsX8_dr) := goodIn_app (goodIn_of _ (by decide +kernel)) ggX8_dayOn_X8_dr
set_option maxRecDepth 20000 in
theorem ggX8_dayOn_X8_letDrum : GoodIn wsX8_dayOn wsX8_letDrum := goodIn_r _ [38, 9, 51, 52, 53, 54, 55, 56, 57, 58, 59, 60, 61] (by decide +kernel) (by decide +kernel)
set_option maxRecDepth 20000 in
theorem gX8_dayOn_X8_letDrum : GoodIn wsX8_dayOn (wsV RX8 55 RX8 yX8_letDrum wsX8_letDrum) := goodIn_app (goodIn_of _ (by decide +kernel)) ggX8_dayOn_X8_letDrum
set_option maxRecDepth 20000 in
theorem ggX8_dayOn_X8_serve : GoodIn wsX8_dayOn wsX8_serve := goodIn_r _ [42, 9, 4, 5, 6, 7, 12, 43, 44, 45, 16, 46, 47, 48, 49, 50, 51, 52, 53, 54, 55, 56, 57, 58, 59, 60, 61] (by decide +kernel) (by decide +kernel)
set_option maxRecDepth 20000 in
theorem gX8_dayOn_X8_serve : GoodIn wsX8_dayOn (wsV RX8 128 RX8 yX8_serve wsX8_serve) := goodIn_app (goodIn_of _ (by decide +kernel)) ggX8_dayOn_X8_serve
theorem dX8_dayOn_0 : decode cX8_dayOn 0 = .ok (.iconst 0, 1) := by decide +kernel
theorem dX8_dayOn_1 : decode cX8_dayOn 1 = .ok (.istore_n 1, 1) := by decide +kernel
theorem dX8_dayOn_2 : decode cX8_dayOn 2 = .ok (.iload_n 1, 1) := by decide +kernel
theorem dX8_dayOn_3 : decode cX8_dayOn 3 = .ok (.aload_n 0, 1) := by decide +kernel
theorem dX8_dayOn_4 : decode cX8_dayOn 4 = .ok (.getfield 39, 3) := by decide +kernel
theorem dX8_dayOn_7 : decode cX8_dayOn 7 = .ok (.if_icmp .ge 23, 3) := by decide +kernel
theorem dX8_dayOn_10 : decode cX8_dayOn 10 = .ok (.aload_n 0, 1) := by decide +kernel
theorem dX8_dayOn_11 : decode cX8_dayOn 11 = .ok (.iload_n 1, 1) := by decide +kernel
theorem dX8_dayOn_12 : decode cX8_dayOn 12 = .ok (.iconst 0, 1) := by decide +kernel
theorem dX8_dayOn_13 : decode cX8_dayOn 13 = .ok (.invokevirtual 95, 3) := by decide +kernel
theorem dX8_dayOn_16 : decode cX8_dayOn 16 = .ok (.ifCond .eq 8, 3) := by decide +kernel
theorem dX8_dayOn_19 : decode cX8_dayOn 19 = .ok (.aload_n 0, 1) := by decide +kernel
theorem dX8_dayOn_20 : decode cX8_dayOn 20 = .ok (.iload_n 1, 1) := by decide +kernel
theorem dX8_dayOn_21 : decode cX8_dayOn 21 = .ok (.invokevirtual 124, 3) := by decide +kernel
theorem dX8_dayOn_24 : decode cX8_dayOn 24 = .ok (.iinc 1 1, 3) := by decide +kernel
theorem dX8_dayOn_27 : decode cX8_dayOn 27 = .ok (.goto (-25), 3) := by decide +kernel
theorem dX8_dayOn_30 : decode cX8_dayOn 30 = .ok (.iconst 0, 1) := by decide +kernel
theorem dX8_dayOn_31 : decode cX8_dayOn 31 = .ok (.istore_n 1, 1) := by decide +kernel
theorem dX8_dayOn_32 : decode cX8_dayOn 32 = .ok (.iload_n 1, 1) := by decide +kernel
theorem dX8_dayOn_33 : decode cX8_dayOn 33 = .ok (.aload_n 0, 1) := by decide +kernel
theorem dX8_dayOn_34 : decode cX8_dayOn 34 = .ok (.getfield 32, 3) := by decide +kernel
theorem dX8_dayOn_37 : decode cX8_dayOn 37 = .ok (.if_icmp .ge 51, 3) := by decide +kernel
theorem dX8_dayOn_40 : decode cX8_dayOn 40 = .ok (.aload_n 0, 1) := by decide +kernel
theorem dX8_dayOn_41 : decode cX8_dayOn 41 = .ok (.iload_n 1, 1) := by decide +kernel
theorem dX8_dayOn_42 : decode cX8_dayOn 42 = .ok (.iconst 1, 1) := by decide +kernel
theorem dX8_dayOn_43 : decode cX8_dayOn 43 = .ok (.invokevirtual 73, 3) := by decide +kernel
theorem dX8_dayOn_46 : decode cX8_dayOn 46 = .ok (.iconst (-1), 1) := by decide +kernel
theorem dX8_dayOn_47 : decode cX8_dayOn 47 = .ok (.if_icmp .eq 35, 3) := by decide +kernel
theorem dX8_dayOn_50 : decode cX8_dayOn 50 = .ok (.aload_n 0, 1) := by decide +kernel
theorem dX8_dayOn_51 : decode cX8_dayOn 51 = .ok (.iload_n 1, 1) := by decide +kernel
theorem dX8_dayOn_52 : decode cX8_dayOn 52 = .ok (.iconst 3, 1) := by decide +kernel
theorem dX8_dayOn_53 : decode cX8_dayOn 53 = .ok (.getstatic 80, 3) := by decide +kernel
theorem dX8_dayOn_56 : decode cX8_dayOn 56 = .ok (.aload_n 0, 1) := by decide +kernel
theorem dX8_dayOn_57 : decode cX8_dayOn 57 = .ok (.iload_n 1, 1) := by decide +kernel
theorem dX8_dayOn_58 : decode cX8_dayOn 58 = .ok (.iconst 1, 1) := by decide +kernel
theorem dX8_dayOn_59 : decode cX8_dayOn 59 = .ok (.invokevirtual 73, 3) := by decide +kernel
theorem dX8_dayOn_62 : decode cX8_dayOn 62 = .ok (.iaload, 1) := by decide +kernel
theorem dX8_dayOn_63 : decode cX8_dayOn 63 = .ok (.aload_n 0, 1) := by decide +kernel
theorem dX8_dayOn_64 : decode cX8_dayOn 64 = .ok (.iload_n 1, 1) := by decide +kernel
theorem dX8_dayOn_65 : decode cX8_dayOn 65 = .ok (.iconst 3, 1) := by decide +kernel
theorem dX8_dayOn_66 : decode cX8_dayOn 66 = .ok (.invokevirtual 73, 3) := by decide +kernel
theorem dX8_dayOn_69 : decode cX8_dayOn 69 = .ok (.aload_n 0, 1) := by decide +kernel
theorem dX8_dayOn_70 : decode cX8_dayOn 70 = .ok (.iload_n 1, 1) := by decide +kernel
theorem dX8_dayOn_71 : decode cX8_dayOn 71 = .ok (.iconst 0, 1) := by decide +kernel
theorem dX8_dayOn_72 : decode cX8_dayOn 72 = .ok (.invokevirtual 73, 3) := by decide +kernel
theorem dX8_dayOn_75 : decode cX8_dayOn 75 = .ok (.iadd, 1) := by decide +kernel
theorem dX8_dayOn_76 : decode cX8_dayOn 76 = .ok (.invokestatic 119, 3) := by decide +kernel
theorem dX8_dayOn_79 : decode cX8_dayOn 79 = .ok (.invokevirtual 55, 3) := by decide +kernel
theorem dX8_dayOn_82 : decode cX8_dayOn 82 = .ok (.iinc 1 1, 3) := by decide +kernel
theorem dX8_dayOn_85 : decode cX8_dayOn 85 = .ok (.goto (-53), 3) := by decide +kernel
theorem dX8_dayOn_88 : decode cX8_dayOn 88 = .ok (.iconst 0, 1) := by decide +kernel
theorem dX8_dayOn_89 : decode cX8_dayOn 89 = .ok (.istore_n 1, 1) := by decide +kernel
theorem dX8_dayOn_90 : decode cX8_dayOn 90 = .ok (.iload_n 1, 1) := by decide +kernel
theorem dX8_dayOn_91 : decode cX8_dayOn 91 = .ok (.aload_n 0, 1) := by decide +kernel
theorem dX8_dayOn_92 : decode cX8_dayOn 92 = .ok (.getfield 52, 3) := by decide +kernel
theorem dX8_dayOn_95 : decode cX8_dayOn 95 = .ok (.if_icmp .ge 49, 3) := by decide +kernel
theorem dX8_dayOn_98 : decode cX8_dayOn 98 = .ok (.aload_n 0, 1) := by decide +kernel
theorem dX8_dayOn_99 : decode cX8_dayOn 99 = .ok (.getfield 22, 3) := by decide +kernel
theorem dX8_dayOn_102 : decode cX8_dayOn 102 = .ok (.bipush 10, 2) := by decide +kernel
theorem dX8_dayOn_104 : decode cX8_dayOn 104 = .ok (.iload_n 1, 1) := by decide +kernel
theorem dX8_dayOn_105 : decode cX8_dayOn 105 = .ok (.iadd, 1) := by decide +kernel
theorem dX8_dayOn_106 : decode cX8_dayOn 106 = .ok (.aload_n 0, 1) := by decide +kernel
theorem dX8_dayOn_107 : decode cX8_dayOn 107 = .ok (.getfield 9, 3) := by decide +kernel
theorem dX8_dayOn_110 : decode cX8_dayOn 110 = .ok (.iconst 2, 1) := by decide +kernel
theorem dX8_dayOn_111 : decode cX8_dayOn 111 = .ok (.iload_n 1, 1) := by decide +kernel
theorem dX8_dayOn_112 : decode cX8_dayOn 112 = .ok (.imul, 1) := by decide +kernel
theorem dX8_dayOn_113 : decode cX8_dayOn 113 = .ok (.iconst 1, 1) := by decide +kernel
theorem dX8_dayOn_114 : decode cX8_dayOn 114 = .ok (.iadd, 1) := by decide +kernel
theorem dX8_dayOn_115 : decode cX8_dayOn 115 = .ok (.iaload, 1) := by decide +kernel
theorem dX8_dayOn_116 : decode cX8_dayOn 116 = .ok (.aload_n 0, 1) := by decide +kernel
theorem dX8_dayOn_117 : decode cX8_dayOn 117 = .ok (.getfield 22, 3) := by decide +kernel
theorem dX8_dayOn_120 : decode cX8_dayOn 120 = .ok (.bipush 10, 2) := by decide +kernel
theorem dX8_dayOn_122 : decode cX8_dayOn 122 = .ok (.iload_n 1, 1) := by decide +kernel
theorem dX8_dayOn_123 : decode cX8_dayOn 123 = .ok (.iadd, 1) := by decide +kernel
theorem dX8_dayOn_124 : decode cX8_dayOn 124 = .ok (.iaload, 1) := by decide +kernel
theorem dX8_dayOn_125 : decode cX8_dayOn 125 = .ok (.aload_n 0, 1) := by decide +kernel
theorem dX8_dayOn_126 : decode cX8_dayOn 126 = .ok (.getfield 9, 3) := by decide +kernel
theorem dX8_dayOn_129 : decode cX8_dayOn 129 = .ok (.iconst 2, 1) := by decide +kernel
theorem dX8_dayOn_130 : decode cX8_dayOn 130 = .ok (.iload_n 1, 1) := by decide +kernel
theorem dX8_dayOn_131 : decode cX8_dayOn 131 = .ok (.imul, 1) := by decide +kernel
theorem dX8_dayOn_132 : decode cX8_dayOn 132 = .ok (.iaload, 1) := by decide +kernel
theorem dX8_dayOn_133 : decode cX8_dayOn 133 = .ok (.iadd, 1) := by decide +kernel
theorem dX8_dayOn_134 : decode cX8_dayOn 134 = .ok (.invokestatic 119, 3) := by decide +kernel
theorem dX8_dayOn_137 : decode cX8_dayOn 137 = .ok (.iastore, 1) := by decide +kernel
theorem dX8_dayOn_138 : decode cX8_dayOn 138 = .ok (.iinc 1 1, 3) := by decide +kernel
theorem dX8_dayOn_141 : decode cX8_dayOn 141 = .ok (.goto (-51), 3) := by decide +kernel
theorem dX8_dayOn_144 : decode cX8_dayOn 144 = .ok (.iconst 0, 1) := by decide +kernel
theorem dX8_dayOn_145 : decode cX8_dayOn 145 = .ok (.istore_n 1, 1) := by decide +kernel
theorem dX8_dayOn_146 : decode cX8_dayOn 146 = .ok (.iload_n 1, 1) := by decide +kernel
theorem dX8_dayOn_147 : decode cX8_dayOn 147 = .ok (.aload_n 0, 1) := by decide +kernel
theorem dX8_dayOn_148 : decode cX8_dayOn 148 = .ok (.getfield 59, 3) := by decide +kernel
theorem dX8_dayOn_151 : decode cX8_dayOn 151 = .ok (.if_icmp .ge 63, 3) := by decide +kernel
theorem dX8_dayOn_154 : decode cX8_dayOn 154 = .ok (.aload_n 0, 1) := by decide +kernel
theorem dX8_dayOn_155 : decode cX8_dayOn 155 = .ok (.getfield 22, 3) := by decide +kernel
theorem dX8_dayOn_158 : decode cX8_dayOn 158 = .ok (.iconst 0, 1) := by decide +kernel
theorem dX8_dayOn_159 : decode cX8_dayOn 159 = .ok (.iaload, 1) := by decide +kernel
theorem dX8_dayOn_160 : decode cX8_dayOn 160 = .ok (.bipush 7, 2) := by decide +kernel
theorem dX8_dayOn_162 : decode cX8_dayOn 162 = .ok (.irem, 1) := by decide +kernel
theorem dX8_dayOn_163 : decode cX8_dayOn 163 = .ok (.ifCond .ne 24, 3) := by decide +kernel
theorem dX8_dayOn_166 : decode cX8_dayOn 166 = .ok (.aload_n 0, 1) := by decide +kernel
theorem dX8_dayOn_167 : decode cX8_dayOn 167 = .ok (.getfield 22, 3) := by decide +kernel
theorem dX8_dayOn_170 : decode cX8_dayOn 170 = .ok (.bipush 42, 2) := by decide +kernel
theorem dX8_dayOn_172 : decode cX8_dayOn 172 = .ok (.iconst 3, 1) := by decide +kernel
theorem dX8_dayOn_173 : decode cX8_dayOn 173 = .ok (.iload_n 1, 1) := by decide +kernel
theorem dX8_dayOn_174 : decode cX8_dayOn 174 = .ok (.imul, 1) := by decide +kernel
theorem dX8_dayOn_175 : decode cX8_dayOn 175 = .ok (.iadd, 1) := by decide +kernel
theorem dX8_dayOn_176 : decode cX8_dayOn 176 = .ok (.iconst 0, 1) := by decide +kernel
theorem dX8_dayOn_177 : decode cX8_dayOn 177 = .ok (.iadd, 1) := by decide +kernel
theorem dX8_dayOn_178 : decode cX8_dayOn 178 = .ok (.aload_n 0, 1) := by decide +kernel
theorem dX8_dayOn_179 : decode cX8_dayOn 179 = .ok (.getfield 19, 3) := by decide +kernel
theorem dX8_dayOn_182 : decode cX8_dayOn 182 = .ok (.iconst 2, 1) := by decide +kernel
theorem dX8_dayOn_183 : decode cX8_dayOn 183 = .ok (.iload_n 1, 1) := by decide +kernel
theorem dX8_dayOn_184 : decode cX8_dayOn 184 = .ok (.imul, 1) := by decide +kernel
theorem dX8_dayOn_185 : decode cX8_dayOn 185 = .ok (.iaload, 1) := by decide +kernel
theorem dX8_dayOn_186 : decode cX8_dayOn 186 = .ok (.iastore, 1) := by decide +kernel
theorem dX8_dayOn_187 : decode cX8_dayOn 187 = .ok (.iconst 0, 1) := by decide +kernel
theorem dX8_dayOn_188 : decode cX8_dayOn 188 = .ok (.istore_n 2, 1) := by decide +kernel
theorem dX8_dayOn_189 : decode cX8_dayOn 189 = .ok (.iload_n 2, 1) := by decide +kernel
theorem dX8_dayOn_190 : decode cX8_dayOn 190 = .ok (.iconst 2, 1) := by decide +kernel
theorem dX8_dayOn_191 : decode cX8_dayOn 191 = .ok (.if_icmp .ge 17, 3) := by decide +kernel
theorem dX8_dayOn_194 : decode cX8_dayOn 194 = .ok (.aload_n 0, 1) := by decide +kernel
theorem dX8_dayOn_195 : decode cX8_dayOn 195 = .ok (.iload_n 1, 1) := by decide +kernel
theorem dX8_dayOn_196 : decode cX8_dayOn 196 = .ok (.invokevirtual 128, 3) := by decide +kernel
theorem dX8_dayOn_199 : decode cX8_dayOn 199 = .ok (.ifCond .eq 9, 3) := by decide +kernel
theorem dX8_dayOn_202 : decode cX8_dayOn 202 = .ok (.iinc 2 1, 3) := by decide +kernel
theorem dX8_dayOn_205 : decode cX8_dayOn 205 = .ok (.goto (-16), 3) := by decide +kernel
theorem dX8_dayOn_208 : decode cX8_dayOn 208 = .ok (.iinc 1 1, 3) := by decide +kernel
theorem dX8_dayOn_211 : decode cX8_dayOn 211 = .ok (.goto (-65), 3) := by decide +kernel
theorem dX8_dayOn_214 : decode cX8_dayOn 214 = .ok (.aload_n 0, 1) := by decide +kernel
theorem dX8_dayOn_215 : decode cX8_dayOn 215 = .ok (.getfield 22, 3) := by decide +kernel
theorem dX8_dayOn_218 : decode cX8_dayOn 218 = .ok (.iconst 0, 1) := by decide +kernel
theorem dX8_dayOn_219 : decode cX8_dayOn 219 = .ok (.dup2, 1) := by decide +kernel
theorem dX8_dayOn_220 : decode cX8_dayOn 220 = .ok (.iaload, 1) := by decide +kernel
theorem dX8_dayOn_221 : decode cX8_dayOn 221 = .ok (.iconst 1, 1) := by decide +kernel
theorem dX8_dayOn_222 : decode cX8_dayOn 222 = .ok (.iadd, 1) := by decide +kernel
theorem dX8_dayOn_223 : decode cX8_dayOn 223 = .ok (.iastore, 1) := by decide +kernel
theorem dX8_dayOn_224 : decode cX8_dayOn 224 = .ok (.return_, 1) := by decide +kernel
set_option maxRecDepth 20000 in
theorem ggX8_daysOn_X8_dayOn : GoodIn wsX8_daysOn wsX8_dayOn := goodIn_r _ [5, 6, 7, 8, 9, 10, 11, 12, 13, 14, 15, 16, 17, 18, 19, 20, 4, 21, 22, 23, 24, 25, 26, 27, 28, 29, 30, 31, 32, 33, 34, 35, 36, 37, 38, 39, 40, 41, 42, 43, 44, 45, 46, 47, 48, 49, 50, 51, 52, 53, 54, 55, 56, 57, 58, 59, 60, 61, 62, 63, 64, 65] (by decide +kernel) (by decide +kernel)
set_option maxRecDepth 20000 in
theorem gX8_daysOn_X8_dayOn : GoodIn wsX8_daysOn (wsV RX8 131 RX8 yX8_dayOn wsX8_dayOn) := goodIn_app (goodIn_of _ (by decide +kernel)) ggX8_daysOn_X8_dayOn
theorem dX8_daysOn_0 : decode cX8_daysOn 0 = .ok (.iconst 0, 1) := by decide +kernel
theorem dX8_daysOn_1 : decode cX8_daysOn 1 = .ok (.istore_n 2, 1) := by decide +kernel
theorem dX8_daysOn_2 : decode cX8_daysOn 2 = .ok (.iload_n 2, 1) := by decide +kernel
theorem dX8_daysOn_3 : decode cX8_daysOn 3 = .ok (.iload_n 1, 1) := by decide +kernel
theorem dX8_daysOn_4 : decode cX8_daysOn 4 = .ok (.if_icmp .ge 13, 3) := by decide +kernel
theorem dX8_daysOn_7 : decode cX8_daysOn 7 = .ok (.aload_n 0, 1) := by decide +kernel
theorem dX8_daysOn_8 : decode cX8_daysOn 8 = .ok (.invokevirtual 131, 3) := by decide +kernel
theorem dX8_daysOn_11 : decode cX8_daysOn 11 = .ok (.iinc 2 1, 3) := by decide +kernel
theorem dX8_daysOn_14 : decode cX8_daysOn 14 = .ok (.goto (-12), 3) := by decide +kernel
theorem dX8_daysOn_17 : decode cX8_daysOn 17 = .ok (.return_, 1) := by decide +kernel
set_option maxRecDepth 20000 in
theorem ggX8_pass_X8_isIn : GoodIn wsX8_pass wsX8_isIn := goodIn_r _ [6] (by decide +kernel) (by decide +kernel)
set_option maxRecDepth 20000 in
theorem gX8_pass_X8_isIn : GoodIn wsX8_pass (va_wsS RX8 35 yX8_isIn wsX8_isIn) := goodIn_app (goodIn_of _ (by decide +kernel)) ggX8_pass_X8_isIn
set_option maxRecDepth 20000 in
theorem ggX8_pass_X8_fail : GoodIn wsX8_pass wsX8_fail := goodIn_r _ [10, 1, 67, 68, 69, 70, 71, 72, 73, 74, 75, 76, 77] (by decide +kernel) (by decide +kernel)
set_option maxRecDepth 20000 in
theorem gX8_pass_X8_fail : GoodIn wsX8_pass (wsV RX8 48 RX8 yX8_fail wsX8_fail) := goodIn_app (goodIn_of _ (by decide +kernel)) ggX8_pass_X8_fail
set_option maxRecDepth 20000 in
theorem ggX8_pass_X8_daysOn : GoodIn wsX8_pass wsX8_daysOn := goodIn_r _ [14, 15, 16, 17, 5, 18, 19, 20, 21, 22, 23, 24, 25, 26, 2, 27, 28, 29, 30, 31, 32, 33, 34, 35, 36, 37, 38, 39, 40, 41, 42, 43, 44, 45, 46, 47, 48, 49, 50, 51, 52, 53, 54, 55, 56, 57, 58, 59, 60, 61, 62, 63, 64, 65, 66, 67, 68, 69, 70, 71, 72, 73, 74, 75, 76, 77] (by decide +kernel) (by decide +kernel)
set_option maxRecDepth 20000 in
theorem gX8_pass_X8_daysOn : GoodIn wsX8_pass (wsV RX8 134 RX8 yX8_daysOn wsX8_daysOn) := goodIn_app (goodIn_of _ (by decide +kernel)) ggX8_pass_X8_daysOn
theorem dX8_pass_0 : decode cX8_pass 0 = .ok (.aload_n 0, 1) := by decide +kernel
theorem dX8_pass_1 : decode cX8_pass 1 = .ok (.iconst 0, 1) := by decide +kernel
theorem dX8_pass_2 : decode cX8_pass 2 = .ok (.putfield 28, 3) := by decide +kernel
theorem dX8_pass_5 : decode cX8_pass 5 = .ok (.iload_n 1, 1) := by decide +kernel
theorem dX8_pass_6 : decode cX8_pass 6 = .ok (.iconst 1, 1) := by decide +kernel
theorem dX8_pass_7 : decode cX8_pass 7 = .ok (.bipush 60, 2) := by decide +kernel
theorem dX8_pass_9 : decode cX8_pass 9 = .ok (.invokestatic 35, 3) := by decide +kernel
theorem dX8_pass_12 : decode cX8_pass 12 = .ok (.ifCond .ne 9, 3) := by decide +kernel
theorem dX8_pass_15 : decode cX8_pass 15 = .ok (.aload_n 0, 1) := by decide +kernel
theorem dX8_pass_16 : decode cX8_pass 16 = .ok (.iconst 1, 1) := by decide +kernel
theorem dX8_pass_17 : decode cX8_pass 17 = .ok (.invokevirtual 48, 3) := by decide +kernel
theorem dX8_pass_20 : decode cX8_pass 20 = .ok (.ireturn, 1) := by decide +kernel
theorem dX8_pass_21 : decode cX8_pass 21 = .ok (.aload_n 0, 1) := by decide +kernel
theorem dX8_pass_22 : decode cX8_pass 22 = .ok (.getfield 22, 3) := by decide +kernel
theorem dX8_pass_25 : decode cX8_pass 25 = .ok (.iconst 5, 1) := by decide +kernel
theorem dX8_pass_26 : decode cX8_pass 26 = .ok (.iaload, 1) := by decide +kernel
theorem dX8_pass_27 : decode cX8_pass 27 = .ok (.istore_n 2, 1) := by decide +kernel
theorem dX8_pass_28 : decode cX8_pass 28 = .ok (.aload_n 0, 1) := by decide +kernel
theorem dX8_pass_29 : decode cX8_pass 29 = .ok (.iload_n 1, 1) := by decide +kernel
theorem dX8_pass_30 : decode cX8_pass 30 = .ok (.invokevirtual 134, 3) := by decide +kernel
theorem dX8_pass_33 : decode cX8_pass 33 = .ok (.aload_n 0, 1) := by decide +kernel
theorem dX8_pass_34 : decode cX8_pass 34 = .ok (.getfield 22, 3) := by decide +kernel
theorem dX8_pass_37 : decode cX8_pass 37 = .ok (.iconst 5, 1) := by decide +kernel
theorem dX8_pass_38 : decode cX8_pass 38 = .ok (.iaload, 1) := by decide +kernel
theorem dX8_pass_39 : decode cX8_pass 39 = .ok (.iload_n 2, 1) := by decide +kernel
theorem dX8_pass_40 : decode cX8_pass 40 = .ok (.isub, 1) := by decide +kernel
theorem dX8_pass_41 : decode cX8_pass 41 = .ok (.ireturn, 1) := by decide +kernel
set_option maxRecDepth 20000 in
theorem ggX8_behind_X8_daysOn : GoodIn wsX8_behind wsX8_daysOn := goodIn_r _ [6, 7, 8, 9, 5, 10, 11, 12, 13, 14, 15, 16, 17, 18, 1, 19, 20, 21, 22, 23, 24, 25, 26, 27, 28, 29, 30, 31, 32, 33, 34, 35, 36, 37, 38, 39, 40, 41, 42, 43, 44, 45, 46, 47, 48, 49, 50, 51, 52, 53, 54, 55, 56, 57, 58, 68, 69, 70, 71, 72, 73, 74, 75, 76, 77, 78] (by decide +kernel) (by decide +kernel)
set_option maxRecDepth 20000 in
theorem gX8_behind_X8_daysOn : GoodIn wsX8_behind (wsV RX8 134 RX8 yX8_daysOn wsX8_daysOn) := goodIn_app (goodIn_of _ (by decide +kernel)) ggX8_behind_X8_daysOn
set_option maxRecDepth 20000 in
theorem ggX8_behind_X8_bringBack : GoodIn wsX8_behind wsX8_bringBack := goodIn_r _ [62, 63, 1, 64, 65, 66, 67, 68, 69, 70, 71, 72, 73, 74, 75, 76, 77, 78] (by decide +kernel) (by decide +kernel)
set_option maxRecDepth 20000 in
theorem gX8_behind_X8_bringBack : GoodIn wsX8_behind (wsV RX8 137 RX8 yX8_bringBack wsX8_bringBack) := goodIn_app (goodIn_of _ (by decide +kernel)) ggX8_behind_X8_bringBack
theorem dX8_behind_0 : decode cX8_behind 0 = .ok (.aload_n 0, 1) := by decide +kernel
theorem dX8_behind_1 : decode cX8_behind 1 = .ok (.iload_n 1, 1) := by decide +kernel
theorem dX8_behind_2 : decode cX8_behind 2 = .ok (.invokevirtual 134, 3) := by decide +kernel
theorem dX8_behind_5 : decode cX8_behind 5 = .ok (.aload_n 0, 1) := by decide +kernel
theorem dX8_behind_6 : decode cX8_behind 6 = .ok (.getfield 22, 3) := by decide +kernel
theorem dX8_behind_9 : decode cX8_behind 9 = .ok (.iload_n 2, 1) := by decide +kernel
theorem dX8_behind_10 : decode cX8_behind 10 = .ok (.iaload, 1) := by decide +kernel
theorem dX8_behind_11 : decode cX8_behind 11 = .ok (.istore_n 3, 1) := by decide +kernel
theorem dX8_behind_12 : decode cX8_behind 12 = .ok (.aload_n 0, 1) := by decide +kernel
theorem dX8_behind_13 : decode cX8_behind 13 = .ok (.invokevirtual 137, 3) := by decide +kernel
theorem dX8_behind_16 : decode cX8_behind 16 = .ok (.iload_n 3, 1) := by decide +kernel
theorem dX8_behind_17 : decode cX8_behind 17 = .ok (.ireturn, 1) := by decide +kernel
set_option maxRecDepth 20000 in
theorem ggX8_foresee_X8_isIn : GoodIn wsX8_foresee wsX8_isIn := goodIn_r _ [5] (by decide +kernel) (by decide +kernel)
set_option maxRecDepth 20000 in
theorem gX8_foresee_X8_isIn : GoodIn wsX8_foresee (va_wsS RX8 35 yX8_isIn wsX8_isIn) := goodIn_app (goodIn_of _ (by decide +kernel)) ggX8_foresee_X8_isIn
set_option maxRecDepth 20000 in
theorem ggX8_foresee_X8_fail : GoodIn wsX8_foresee wsX8_fail := goodIn_r _ [9, 1, 84, 85, 86, 87, 88, 89, 90, 91, 92, 93, 94] (by decide +kernel) (by decide +kernel)
set_option maxRecDepth 20000 in
theorem gX8_foresee_X8_fail : GoodIn wsX8_foresee (wsV RX8 48 RX8 yX8_fail wsX8_fail) := goodIn_app (goodIn_of _ (by decide +kernel)) ggX8_foresee_X8_fail
set_option maxRecDepth 20000 in
theorem ggX8_foresee_X8_keep : GoodIn wsX8_foresee wsX8_keep := goodIn_r _ [13, 14, 15, 16, 17, 18, 19, 84, 85, 86, 87, 88, 89, 90, 91, 92, 93, 94] (by decide +kernel) (by decide +kernel)
set_option maxRecDepth 20000 in
theorem gX8_foresee_X8_keep : GoodIn wsX8_foresee (wsV RX8 140 RX8 yX8_keep wsX8_keep) := goodIn_app (goodIn_of _ (by decide +kernel)) ggX8_foresee_X8_keep
set_option maxRecDepth 20000 in
theorem ggX8_foresee_X8_behind : GoodIn wsX8_foresee wsX8_behind := goodIn_r _ [23, 14, 24, 25, 26, 4, 27, 28, 29, 30, 31, 32, 33, 34, 35, 36, 37, 38, 39, 40, 41, 42, 43, 44, 45, 46, 47, 48, 49, 50, 51, 52, 53, 54, 55, 56, 57, 58, 59, 60, 61, 62, 63, 64, 65, 66, 67, 68, 69, 70, 71, 72, 73, 74, 75, 76, 77, 78, 79, 80, 81, 82, 83, 15, 16, 17, 18, 19, 84, 85, 86, 87, 88, 89, 90, 91, 92, 93, 94] (by decide +kernel) (by decide +kernel)
set_option maxRecDepth 20000 in
theorem gX8_foresee_X8_behind : GoodIn wsX8_foresee (wsV RX8 143 RX8 yX8_behind wsX8_behind) := goodIn_app (goodIn_of _ (by decide +kernel)) ggX8_foresee_X8_behind
theorem dX8_foresee_0 : decode cX8_foresee 0 = .ok (.aload_n 0, 1) := by decide +kernel
theorem dX8_foresee_1 : decode cX8_foresee 1 = .ok (.iconst 0, 1) := by decide +kernel
theorem dX8_foresee_2 : decode cX8_foresee 2 = .ok (.putfield 28, 3) := by decide +kernel
theorem dX8_foresee_5 : decode cX8_foresee 5 = .ok (.iload_n 1, 1) := by decide +kernel
theorem dX8_foresee_6 : decode cX8_foresee 6 = .ok (.iconst 1, 1) := by decide +kernel
theorem dX8_foresee_7 : decode cX8_foresee 7 = .ok (.bipush 60, 2) := by decide +kernel
theorem dX8_foresee_9 : decode cX8_foresee 9 = .ok (.invokestatic 35, 3) := by decide +kernel
theorem dX8_foresee_12 : decode cX8_foresee 12 = .ok (.ifCond .ne 9, 3) := by decide +kernel
theorem dX8_foresee_15 : decode cX8_foresee 15 = .ok (.aload_n 0, 1) := by decide +kernel
theorem dX8_foresee_16 : decode cX8_foresee 16 = .ok (.iconst 1, 1) := by decide +kernel
theorem dX8_foresee_17 : decode cX8_foresee 17 = .ok (.invokevirtual 48, 3) := by decide +kernel
theorem dX8_foresee_20 : decode cX8_foresee 20 = .ok (.ireturn, 1) := by decide +kernel
theorem dX8_foresee_21 : decode cX8_foresee 21 = .ok (.iload_n 2, 1) := by decide +kernel
theorem dX8_foresee_22 : decode cX8_foresee 22 = .ok (.iconst 1, 1) := by decide +kernel
theorem dX8_foresee_23 : decode cX8_foresee 23 = .ok (.bipush 6, 2) := by decide +kernel
theorem dX8_foresee_25 : decode cX8_foresee 25 = .ok (.invokestatic 35, 3) := by decide +kernel
theorem dX8_foresee_28 : decode cX8_foresee 28 = .ok (.ifCond .ne 9, 3) := by decide +kernel
theorem dX8_foresee_31 : decode cX8_foresee 31 = .ok (.aload_n 0, 1) := by decide +kernel
theorem dX8_foresee_32 : decode cX8_foresee 32 = .ok (.iconst 2, 1) := by decide +kernel
theorem dX8_foresee_33 : decode cX8_foresee 33 = .ok (.invokevirtual 48, 3) := by decide +kernel
theorem dX8_foresee_36 : decode cX8_foresee 36 = .ok (.ireturn, 1) := by decide +kernel
theorem dX8_foresee_37 : decode cX8_foresee 37 = .ok (.aload_n 0, 1) := by decide +kernel
theorem dX8_foresee_38 : decode cX8_foresee 38 = .ok (.invokevirtual 140, 3) := by decide +kernel
theorem dX8_foresee_41 : decode cX8_foresee 41 = .ok (.aload_n 0, 1) := by decide +kernel
theorem dX8_foresee_42 : decode cX8_foresee 42 = .ok (.iload_n 1, 1) := by decide +kernel
theorem dX8_foresee_43 : decode cX8_foresee 43 = .ok (.iload_n 2, 1) := by decide +kernel
theorem dX8_foresee_44 : decode cX8_foresee 44 = .ok (.invokevirtual 143, 3) := by decide +kernel
theorem dX8_foresee_47 : decode cX8_foresee 47 = .ok (.ireturn, 1) := by decide +kernel
set_option maxRecDepth 20000 in
theorem ggX8_ready_X8_isDrum : GoodIn wsX8_ready wsX8_isDrum := goodIn_r _ [6, 7, 8, 9, 5, 10, 26, 27, 28, 29, 30, 31, 32, 33, 34, 35, 36] (by decide +kernel) (by decide +kernel)
set_option maxRecDepth 20000 in
theorem gX8_ready_X8_isDrum : GoodIn wsX8_ready (wsV RX8 69 RX8 yX8_isDrum wsX8_isDrum) := goodIn_app (goodIn_of _ (by decide +kernel)) ggX8_ready_X8_isDrum
set_option maxRecDepth 20000 in
theorem ggX8_ready_X8_fail : GoodIn wsX8_ready wsX8_fail := goodIn_r _ [14, 1, 26, 27, 28, 29, 30, 31, 32, 33, 34, 35, 36] (by decide +kernel) (by decide +kernel)
set_option maxRecDepth 20000 in
theorem gX8_ready_X8_fail : GoodIn wsX8_ready (wsV RX8 48 RX8 yX8_fail wsX8_fail) := goodIn_app (goodIn_of _ (by decide +kernel)) ggX8_ready_X8_fail
set_option maxRecDepth 20000 in
theorem ggX8_ready_X8_dr : GoodIn wsX8_ready wsX8_dr := goodIn_r _ [18, 19, 26, 27, 28, 29, 30, 31, 32, 33, 34, 35, 36] (by decide +kernel) (by decide +kernel)
set_option maxRecDepth 20000 in
theorem gX8_ready_X8_dr : GoodIn wsX8_ready (wsV RX8 73 RX8 yX8_dr wsX8_dr) := goodIn_app (goodIn_of _ (by decide +kernel)) ggX8_ready_X8_dr
set_option maxRecDepth 20000 in
theorem ggX8_ready_X8_yields : GoodIn wsX8_ready wsX8_yields := goodIn_r _ [22, 23, 24, 25] (by decide +kernel) (by decide +kernel)
set_option maxRecDepth 20000 in
theorem gX8_ready_X8_yields : GoodIn wsX8_ready (va_wsS RX8 86 yX8_yields wsX8_yields) := goodIn_app (goodIn_of _ (by decide +kernel)) ggX8_ready_X8_yields
theorem dX8_ready_0 : decode cX8_ready 0 = .ok (.aload_n 0, 1) := by decide +kernel
theorem dX8_ready_1 : decode cX8_ready 1 = .ok (.iconst 0, 1) := by decide +kernel
theorem dX8_ready_2 : decode cX8_ready 2 = .ok (.putfield 28, 3) := by decide +kernel
theorem dX8_ready_5 : decode cX8_ready 5 = .ok (.aload_n 0, 1) := by decide +kernel
theorem dX8_ready_6 : decode cX8_ready 6 = .ok (.iload_n 1, 1) := by decide +kernel
theorem dX8_ready_7 : decode cX8_ready 7 = .ok (.invokevirtual 69, 3) := by decide +kernel
theorem dX8_ready_10 : decode cX8_ready 10 = .ok (.ifCond .ne 9, 3) := by decide +kernel
theorem dX8_ready_13 : decode cX8_ready 13 = .ok (.aload_n 0, 1) := by decide +kernel
theorem dX8_ready_14 : decode cX8_ready 14 = .ok (.iconst 1, 1) := by decide +kernel
theorem dX8_ready_15 : decode cX8_ready 15 = .ok (.invokevirtual 48, 3) := by decide +kernel
theorem dX8_ready_18 : decode cX8_ready 18 = .ok (.ireturn, 1) := by decide +kernel
theorem dX8_ready_19 : decode cX8_ready 19 = .ok (.aload_n 0, 1) := by decide +kernel
theorem dX8_ready_20 : decode cX8_ready 20 = .ok (.iload_n 1, 1) := by decide +kernel
theorem dX8_ready_21 : decode cX8_ready 21 = .ok (.iconst 1, 1) := by decide +kernel
theorem dX8_ready_22 : decode cX8_ready 22 = .ok (.invokevirtual 73, 3) := by decide +kernel
theorem dX8_ready_25 : decode cX8_ready 25 = .ok (.iconst (-1), 1) := by decide +kernel
theorem dX8_ready_26 : decode cX8_ready 26 = .ok (.if_icmp .ne 5, 3) := by decide +kernel
theorem dX8_ready_29 : decode cX8_ready 29 = .ok (.iconst (-1), 1) := by decide +kernel
theorem dX8_ready_30 : decode cX8_ready 30 = .ok (.ireturn, 1) := by decide +kernel
theorem dX8_ready_31 : decode cX8_ready 31 = .ok (.iconst (-1), 1) := by decide +kernel
theorem dX8_ready_32 : decode cX8_ready 32 = .ok (.istore_n 2, 1) := by decide +kernel
theorem dX8_ready_33 : decode cX8_ready 33 = .ok (.iconst 0, 1) := by decide +kernel
theorem dX8_ready_34 : decode cX8_ready 34 = .ok (.istore_n 3, 1) := by decide +kernel
theorem dX8_ready_35 : decode cX8_ready 35 = .ok (.iconst 0, 1) := by decide +kernel
theorem dX8_ready_36 : decode cX8_ready 36 = .ok (.istore 4, 2) := by decide +kernel
theorem dX8_ready_38 : decode cX8_ready 38 = .ok (.iload 4, 2) := by decide +kernel
theorem dX8_ready_40 : decode cX8_ready 40 = .ok (.bipush 60, 2) := by decide +kernel
theorem dX8_ready_42 : decode cX8_ready 42 = .ok (.if_icmp .gt 57, 3) := by decide +kernel
theorem dX8_ready_45 : decode cX8_ready 45 = .ok (.aload_n 0, 1) := by decide +kernel
theorem dX8_ready_46 : decode cX8_ready 46 = .ok (.iload_n 1, 1) := by decide +kernel
theorem dX8_ready_47 : decode cX8_ready 47 = .ok (.iconst 1, 1) := by decide +kernel
theorem dX8_ready_48 : decode cX8_ready 48 = .ok (.invokevirtual 73, 3) := by decide +kernel
theorem dX8_ready_51 : decode cX8_ready 51 = .ok (.aload_n 0, 1) := by decide +kernel
theorem dX8_ready_52 : decode cX8_ready 52 = .ok (.iload_n 1, 1) := by decide +kernel
theorem dX8_ready_53 : decode cX8_ready 53 = .ok (.iconst 2, 1) := by decide +kernel
theorem dX8_ready_54 : decode cX8_ready 54 = .ok (.invokevirtual 73, 3) := by decide +kernel
theorem dX8_ready_57 : decode cX8_ready 57 = .ok (.aload_n 0, 1) := by decide +kernel
theorem dX8_ready_58 : decode cX8_ready 58 = .ok (.iload_n 1, 1) := by decide +kernel
theorem dX8_ready_59 : decode cX8_ready 59 = .ok (.iconst 3, 1) := by decide +kernel
theorem dX8_ready_60 : decode cX8_ready 60 = .ok (.invokevirtual 73, 3) := by decide +kernel
theorem dX8_ready_63 : decode cX8_ready 63 = .ok (.iload 4, 2) := by decide +kernel
theorem dX8_ready_65 : decode cX8_ready 65 = .ok (.aload_n 0, 1) := by decide +kernel
theorem dX8_ready_66 : decode cX8_ready 66 = .ok (.iload_n 1, 1) := by decide +kernel
theorem dX8_ready_67 : decode cX8_ready 67 = .ok (.iconst 0, 1) := by decide +kernel
theorem dX8_ready_68 : decode cX8_ready 68 = .ok (.invokevirtual 73, 3) := by decide +kernel
theorem dX8_ready_71 : decode cX8_ready 71 = .ok (.imul, 1) := by decide +kernel
theorem dX8_ready_72 : decode cX8_ready 72 = .ok (.iadd, 1) := by decide +kernel
theorem dX8_ready_73 : decode cX8_ready 73 = .ok (.invokestatic 86, 3) := by decide +kernel
theorem dX8_ready_76 : decode cX8_ready 76 = .ok (.istore 5, 2) := by decide +kernel
theorem dX8_ready_78 : decode cX8_ready 78 = .ok (.iload 5, 2) := by decide +kernel
theorem dX8_ready_80 : decode cX8_ready 80 = .ok (.iload_n 3, 1) := by decide +kernel
theorem dX8_ready_81 : decode cX8_ready 81 = .ok (.if_icmp .gt 6, 3) := by decide +kernel
theorem dX8_ready_84 : decode cX8_ready 84 = .ok (.goto 9, 3) := by decide +kernel
theorem dX8_ready_87 : decode cX8_ready 87 = .ok (.iload 4, 2) := by decide +kernel
theorem dX8_ready_89 : decode cX8_ready 89 = .ok (.istore_n 2, 1) := by decide +kernel
theorem dX8_ready_90 : decode cX8_ready 90 = .ok (.iload 5, 2) := by decide +kernel
theorem dX8_ready_92 : decode cX8_ready 92 = .ok (.istore_n 3, 1) := by decide +kernel
theorem dX8_ready_93 : decode cX8_ready 93 = .ok (.iinc 4 1, 3) := by decide +kernel
theorem dX8_ready_96 : decode cX8_ready 96 = .ok (.goto (-58), 3) := by decide +kernel
theorem dX8_ready_99 : decode cX8_ready 99 = .ok (.iload_n 2, 1) := by decide +kernel
theorem dX8_ready_100 : decode cX8_ready 100 = .ok (.ireturn, 1) := by decide +kernel
set_option maxRecDepth 20000 in
theorem ggX8_caught_X8_isSmuggler : GoodIn wsX8_caught wsX8_isSmuggler := goodIn_r _ [8, 9, 10, 11, 7, 12, 21, 22, 23, 24, 25, 26, 27, 28, 29, 30, 31] (by decide +kernel) (by decide +kernel)
set_option maxRecDepth 20000 in
theorem gX8_caught_X8_isSmuggler : GoodIn wsX8_caught (wsV RX8 92 RX8 yX8_isSmuggler wsX8_isSmuggler) := goodIn_app (goodIn_of _ (by decide +kernel)) ggX8_caught_X8_isSmuggler
set_option maxRecDepth 20000 in
theorem ggX8_caught_X8_isIn : GoodIn wsX8_caught wsX8_isIn := goodIn_r _ [12] (by decide +kernel) (by decide +kernel)
set_option maxRecDepth 20000 in
theorem gX8_caught_X8_isIn : GoodIn wsX8_caught (va_wsS RX8 35 yX8_isIn wsX8_isIn) := goodIn_app (goodIn_of _ (by decide +kernel)) ggX8_caught_X8_isIn
set_option maxRecDepth 20000 in
theorem ggX8_caught_X8_sm : GoodIn wsX8_caught wsX8_sm := goodIn_r _ [16, 3, 21, 22, 23, 24, 25, 26, 27, 28, 29, 30, 31] (by decide +kernel) (by decide +kernel)
set_option maxRecDepth 20000 in
theorem gX8_caught_X8_sm : GoodIn wsX8_caught (wsV RX8 95 RX8 yX8_sm wsX8_sm) := goodIn_app (goodIn_of _ (by decide +kernel)) ggX8_caught_X8_sm
set_option maxRecDepth 20000 in
theorem ggX8_caught_X8_isPatrol : GoodIn wsX8_caught wsX8_isPatrol := goodIn_r _ [20, 3, 21, 22, 23, 24, 25, 26, 27, 28, 29, 30, 31] (by decide +kernel) (by decide +kernel)
set_option maxRecDepth 20000 in
theorem gX8_caught_X8_isPatrol : GoodIn wsX8_caught (wsV RX8 116 RX8 yX8_isPatrol wsX8_isPatrol) := goodIn_app (goodIn_of _ (by decide +kernel)) ggX8_caught_X8_isPatrol
theorem dX8_caught_0 : decode cX8_caught 0 = .ok (.aload_n 0, 1) := by decide +kernel
theorem dX8_caught_1 : decode cX8_caught 1 = .ok (.aload_n 0, 1) := by decide +kernel
theorem dX8_caught_2 : decode cX8_caught 2 = .ok (.iload_n 1, 1) := by decide +kernel
theorem dX8_caught_3 : decode cX8_caught 3 = .ok (.invokevirtual 92, 3) := by decide +kernel
theorem dX8_caught_6 : decode cX8_caught 6 = .ok (.ifCond .ne 7, 3) := by decide +kernel
theorem dX8_caught_9 : decode cX8_caught 9 = .ok (.iconst 1, 1) := by decide +kernel
theorem dX8_caught_10 : decode cX8_caught 10 = .ok (.goto 31, 3) := by decide +kernel
theorem dX8_caught_13 : decode cX8_caught 13 = .ok (.iload_n 2, 1) := by decide +kernel
theorem dX8_caught_14 : decode cX8_caught 14 = .ok (.iconst 0, 1) := by decide +kernel
theorem dX8_caught_15 : decode cX8_caught 15 = .ok (.bipush 60, 2) := by decide +kernel
theorem dX8_caught_17 : decode cX8_caught 17 = .ok (.invokestatic 35, 3) := by decide +kernel
theorem dX8_caught_20 : decode cX8_caught 20 = .ok (.ifCond .ne 7, 3) := by decide +kernel
theorem dX8_caught_23 : decode cX8_caught 23 = .ok (.iconst 2, 1) := by decide +kernel
theorem dX8_caught_24 : decode cX8_caught 24 = .ok (.goto 17, 3) := by decide +kernel
theorem dX8_caught_27 : decode cX8_caught 27 = .ok (.aload_n 0, 1) := by decide +kernel
theorem dX8_caught_28 : decode cX8_caught 28 = .ok (.iload_n 1, 1) := by decide +kernel
theorem dX8_caught_29 : decode cX8_caught 29 = .ok (.iconst 0, 1) := by decide +kernel
theorem dX8_caught_30 : decode cX8_caught 30 = .ok (.invokevirtual 95, 3) := by decide +kernel
theorem dX8_caught_33 : decode cX8_caught 33 = .ok (.ifCond .eq 7, 3) := by decide +kernel
theorem dX8_caught_36 : decode cX8_caught 36 = .ok (.iconst 3, 1) := by decide +kernel
theorem dX8_caught_37 : decode cX8_caught 37 = .ok (.goto 4, 3) := by decide +kernel
theorem dX8_caught_40 : decode cX8_caught 40 = .ok (.iconst 0, 1) := by decide +kernel
theorem dX8_caught_41 : decode cX8_caught 41 = .ok (.putfield 28, 3) := by decide +kernel
theorem dX8_caught_44 : decode cX8_caught 44 = .ok (.aload_n 0, 1) := by decide +kernel
theorem dX8_caught_45 : decode cX8_caught 45 = .ok (.getfield 28, 3) := by decide +kernel
theorem dX8_caught_48 : decode cX8_caught 48 = .ok (.ifCond .eq 5, 3) := by decide +kernel
theorem dX8_caught_51 : decode cX8_caught 51 = .ok (.iconst 0, 1) := by decide +kernel
theorem dX8_caught_52 : decode cX8_caught 52 = .ok (.ireturn, 1) := by decide +kernel
theorem dX8_caught_53 : decode cX8_caught 53 = .ok (.aload_n 0, 1) := by decide +kernel
theorem dX8_caught_54 : decode cX8_caught 54 = .ok (.getfield 16, 3) := by decide +kernel
theorem dX8_caught_57 : decode cX8_caught 57 = .ok (.iconst 2, 1) := by decide +kernel
theorem dX8_caught_58 : decode cX8_caught 58 = .ok (.iload_n 1, 1) := by decide +kernel
theorem dX8_caught_59 : decode cX8_caught 59 = .ok (.imul, 1) := by decide +kernel
theorem dX8_caught_60 : decode cX8_caught 60 = .ok (.iaload, 1) := by decide +kernel
theorem dX8_caught_61 : decode cX8_caught 61 = .ok (.istore_n 3, 1) := by decide +kernel
theorem dX8_caught_62 : decode cX8_caught 62 = .ok (.aload_n 0, 1) := by decide +kernel
theorem dX8_caught_63 : decode cX8_caught 63 = .ok (.aload_n 0, 1) := by decide +kernel
theorem dX8_caught_64 : decode cX8_caught 64 = .ok (.getfield 22, 3) := by decide +kernel
theorem dX8_caught_67 : decode cX8_caught 67 = .ok (.iconst 0, 1) := by decide +kernel
theorem dX8_caught_68 : decode cX8_caught 68 = .ok (.iaload, 1) := by decide +kernel
theorem dX8_caught_69 : decode cX8_caught 69 = .ok (.iload_n 2, 1) := by decide +kernel
theorem dX8_caught_70 : decode cX8_caught 70 = .ok (.iadd, 1) := by decide +kernel
theorem dX8_caught_71 : decode cX8_caught 71 = .ok (.iload_n 3, 1) := by decide +kernel
theorem dX8_caught_72 : decode cX8_caught 72 = .ok (.iadd, 1) := by decide +kernel
theorem dX8_caught_73 : decode cX8_caught 73 = .ok (.iload_n 3, 1) := by decide +kernel
theorem dX8_caught_74 : decode cX8_caught 74 = .ok (.iconst 2, 1) := by decide +kernel
theorem dX8_caught_75 : decode cX8_caught 75 = .ok (.idiv, 1) := by decide +kernel
theorem dX8_caught_76 : decode cX8_caught 76 = .ok (.isub, 1) := by decide +kernel
theorem dX8_caught_77 : decode cX8_caught 77 = .ok (.iconst 1, 1) := by decide +kernel
theorem dX8_caught_78 : decode cX8_caught 78 = .ok (.isub, 1) := by decide +kernel
theorem dX8_caught_79 : decode cX8_caught 79 = .ok (.invokevirtual 116, 3) := by decide +kernel
theorem dX8_caught_82 : decode cX8_caught 82 = .ok (.ireturn, 1) := by decide +kernel
set_option maxRecDepth 20000 in
theorem ggX8_advise_X8_isIn : GoodIn wsX8_advise wsX8_isIn := goodIn_r _ [6] (by decide +kernel) (by decide +kernel)
set_option maxRecDepth 20000 in
theorem gX8_advise_X8_isIn : GoodIn wsX8_advise (va_wsS RX8 35 yX8_isIn wsX8_isIn) := goodIn_app (goodIn_of _ (by decide +kernel)) ggX8_advise_X8_isIn
set_option maxRecDepth 20000 in
theorem ggX8_advise_X8_fail : GoodIn wsX8_advise wsX8_fail := goodIn_r _ [10, 1, 84, 85, 86, 87, 88, 89, 90, 91, 92, 93, 94] (by decide +kernel) (by decide +kernel)
set_option maxRecDepth 20000 in
theorem gX8_advise_X8_fail : GoodIn wsX8_advise (wsV RX8 48 RX8 yX8_fail wsX8_fail) := goodIn_app (goodIn_of _ (by decide +kernel)) ggX8_advise_X8_fail
set_option maxRecDepth 20000 in
theorem ggX8_advise_X8_keep : GoodIn wsX8_advise wsX8_keep := goodIn_r _ [14, 2, 15, 16, 17, 18, 19, 84, 85, 86, 87, 88, 89, 90, 91, 92, 93, 94] (by decide +kernel) (by decide +kernel)
set_option maxRecDepth 20000 in
theorem gX8_advise_X8_keep : GoodIn wsX8_advise (wsV RX8 140 RX8 yX8_keep wsX8_keep) := goodIn_app (goodIn_of _ (by decide +kernel)) ggX8_advise_X8_keep
set_option maxRecDepth 20000 in
theorem ggX8_advise_X8_behind : GoodIn wsX8_advise wsX8_behind := goodIn_r _ [23, 2, 24, 25, 26, 5, 27, 28, 29, 30, 31, 32, 33, 34, 35, 36, 37, 38, 39, 40, 41, 42, 43, 44, 45, 46, 47, 48, 49, 50, 51, 52, 53, 54, 55, 56, 57, 58, 59, 60, 61, 62, 63, 64, 65, 66, 67, 68, 69, 70, 71, 72, 73, 74, 75, 76, 77, 78, 79, 80, 81, 82, 83, 15, 16, 17, 18, 19, 84, 85, 86, 87, 88, 89, 90, 91, 92, 93, 94] (by decide +kernel) (by decide +kernel)
set_option maxRecDepth 20000 in
theorem gX8_advise_X8_behind : GoodIn wsX8_advise (wsV RX8 143 RX8 yX8_behind wsX8_behind) := goodIn_app (goodIn_of _ (by decide +kernel)) ggX8_advise_X8_behind
theorem dX8_advise_0 : decode cX8_advise 0 = .ok (.aload_n 0, 1) := by decide +kernel
theorem dX8_advise_1 : decode cX8_advise 1 = .ok (.iconst 0, 1) := by decide +kernel
theorem dX8_advise_2 : decode cX8_advise 2 = .ok (.putfield 28, 3) := by decide +kernel
theorem dX8_advise_5 : decode cX8_advise 5 = .ok (.iload_n 1, 1) := by decide +kernel
theorem dX8_advise_6 : decode cX8_advise 6 = .ok (.iconst 1, 1) := by decide +kernel
theorem dX8_advise_7 : decode cX8_advise 7 = .ok (.bipush 28, 2) := by decide +kernel
theorem dX8_advise_9 : decode cX8_advise 9 = .ok (.invokestatic 35, 3) := by decide +kernel
theorem dX8_advise_12 : decode cX8_advise 12 = .ok (.ifCond .ne 9, 3) := by decide +kernel
theorem dX8_advise_15 : decode cX8_advise 15 = .ok (.aload_n 0, 1) := by decide +kernel
theorem dX8_advise_16 : decode cX8_advise 16 = .ok (.iconst 1, 1) := by decide +kernel
theorem dX8_advise_17 : decode cX8_advise 17 = .ok (.invokevirtual 48, 3) := by decide +kernel
theorem dX8_advise_20 : decode cX8_advise 20 = .ok (.ireturn, 1) := by decide +kernel
theorem dX8_advise_21 : decode cX8_advise 21 = .ok (.aload_n 0, 1) := by decide +kernel
theorem dX8_advise_22 : decode cX8_advise 22 = .ok (.invokevirtual 140, 3) := by decide +kernel
theorem dX8_advise_25 : decode cX8_advise 25 = .ok (.iconst (-1), 1) := by decide +kernel
theorem dX8_advise_26 : decode cX8_advise 26 = .ok (.istore_n 2, 1) := by decide +kernel
theorem dX8_advise_27 : decode cX8_advise 27 = .ok (.iconst (-1), 1) := by decide +kernel
theorem dX8_advise_28 : decode cX8_advise 28 = .ok (.istore_n 3, 1) := by decide +kernel
theorem dX8_advise_29 : decode cX8_advise 29 = .ok (.iconst 0, 1) := by decide +kernel
theorem dX8_advise_30 : decode cX8_advise 30 = .ok (.istore 4, 2) := by decide +kernel
theorem dX8_advise_32 : decode cX8_advise 32 = .ok (.iload 4, 2) := by decide +kernel
theorem dX8_advise_34 : decode cX8_advise 34 = .ok (.bipush 10, 2) := by decide +kernel
theorem dX8_advise_36 : decode cX8_advise 36 = .ok (.if_icmp .gt 41, 3) := by decide +kernel
theorem dX8_advise_39 : decode cX8_advise 39 = .ok (.aload_n 0, 1) := by decide +kernel
theorem dX8_advise_40 : decode cX8_advise 40 = .ok (.getfield 22, 3) := by decide +kernel
theorem dX8_advise_43 : decode cX8_advise 43 = .ok (.bipush 7, 2) := by decide +kernel
theorem dX8_advise_45 : decode cX8_advise 45 = .ok (.iload 4, 2) := by decide +kernel
theorem dX8_advise_47 : decode cX8_advise 47 = .ok (.iastore, 1) := by decide +kernel
theorem dX8_advise_48 : decode cX8_advise 48 = .ok (.aload_n 0, 1) := by decide +kernel
theorem dX8_advise_49 : decode cX8_advise 49 = .ok (.iload_n 1, 1) := by decide +kernel
theorem dX8_advise_50 : decode cX8_advise 50 = .ok (.iconst 5, 1) := by decide +kernel
theorem dX8_advise_51 : decode cX8_advise 51 = .ok (.invokevirtual 143, 3) := by decide +kernel
theorem dX8_advise_54 : decode cX8_advise 54 = .ok (.istore 5, 2) := by decide +kernel
theorem dX8_advise_56 : decode cX8_advise 56 = .ok (.iload 5, 2) := by decide +kernel
theorem dX8_advise_58 : decode cX8_advise 58 = .ok (.iload_n 3, 1) := by decide +kernel
theorem dX8_advise_59 : decode cX8_advise 59 = .ok (.if_icmp .gt 6, 3) := by decide +kernel
theorem dX8_advise_62 : decode cX8_advise 62 = .ok (.goto 9, 3) := by decide +kernel
theorem dX8_advise_65 : decode cX8_advise 65 = .ok (.iload 4, 2) := by decide +kernel
theorem dX8_advise_67 : decode cX8_advise 67 = .ok (.istore_n 2, 1) := by decide +kernel
theorem dX8_advise_68 : decode cX8_advise 68 = .ok (.iload 5, 2) := by decide +kernel
theorem dX8_advise_70 : decode cX8_advise 70 = .ok (.istore_n 3, 1) := by decide +kernel
theorem dX8_advise_71 : decode cX8_advise 71 = .ok (.iinc 4 1, 3) := by decide +kernel
theorem dX8_advise_74 : decode cX8_advise 74 = .ok (.goto (-42), 3) := by decide +kernel
theorem dX8_advise_77 : decode cX8_advise 77 = .ok (.iload_n 2, 1) := by decide +kernel
theorem dX8_advise_78 : decode cX8_advise 78 = .ok (.ireturn, 1) := by decide +kernel
set_option maxRecDepth 20000 in
theorem ggX8_mean_X8_ca : GoodIn wsX8_mean wsX8_ca := goodIn_r _ [7, 8, 9, 10, 11, 12, 13, 14, 15, 16, 17, 18, 19] (by decide +kernel) (by decide +kernel)
set_option maxRecDepth 20000 in
theorem gX8_mean_X8_ca : GoodIn wsX8_mean (wsV RX8 110 RX8 yX8_ca wsX8_ca) := goodIn_app (goodIn_of _ (by decide +kernel)) ggX8_mean_X8_ca
theorem dX8_mean_0 : decode cX8_mean 0 = .ok (.aload_n 0, 1) := by decide +kernel
theorem dX8_mean_1 : decode cX8_mean 1 = .ok (.iconst 0, 1) := by decide +kernel
theorem dX8_mean_2 : decode cX8_mean 2 = .ok (.putfield 28, 3) := by decide +kernel
theorem dX8_mean_5 : decode cX8_mean 5 = .ok (.iconst 0, 1) := by decide +kernel
theorem dX8_mean_6 : decode cX8_mean 6 = .ok (.istore_n 1, 1) := by decide +kernel
theorem dX8_mean_7 : decode cX8_mean 7 = .ok (.iconst 0, 1) := by decide +kernel
theorem dX8_mean_8 : decode cX8_mean 8 = .ok (.istore_n 2, 1) := by decide +kernel
theorem dX8_mean_9 : decode cX8_mean 9 = .ok (.iload_n 2, 1) := by decide +kernel
theorem dX8_mean_10 : decode cX8_mean 10 = .ok (.aload_n 0, 1) := by decide +kernel
theorem dX8_mean_11 : decode cX8_mean 11 = .ok (.getfield 59, 3) := by decide +kernel
theorem dX8_mean_14 : decode cX8_mean 14 = .ok (.if_icmp .ge 18, 3) := by decide +kernel
theorem dX8_mean_17 : decode cX8_mean 17 = .ok (.iload_n 1, 1) := by decide +kernel
theorem dX8_mean_18 : decode cX8_mean 18 = .ok (.aload_n 0, 1) := by decide +kernel
theorem dX8_mean_19 : decode cX8_mean 19 = .ok (.iload_n 2, 1) := by decide +kernel
theorem dX8_mean_20 : decode cX8_mean 20 = .ok (.iconst 1, 1) := by decide +kernel
theorem dX8_mean_21 : decode cX8_mean 21 = .ok (.invokevirtual 110, 3) := by decide +kernel
theorem dX8_mean_24 : decode cX8_mean 24 = .ok (.iadd, 1) := by decide +kernel
theorem dX8_mean_25 : decode cX8_mean 25 = .ok (.istore_n 1, 1) := by decide +kernel
theorem dX8_mean_26 : decode cX8_mean 26 = .ok (.iinc 2 1, 3) := by decide +kernel
theorem dX8_mean_29 : decode cX8_mean 29 = .ok (.goto (-20), 3) := by decide +kernel
theorem dX8_mean_32 : decode cX8_mean 32 = .ok (.aload_n 0, 1) := by decide +kernel
theorem dX8_mean_33 : decode cX8_mean 33 = .ok (.getfield 59, 3) := by decide +kernel
theorem dX8_mean_36 : decode cX8_mean 36 = .ok (.ifCond .ne 7, 3) := by decide +kernel
theorem dX8_mean_39 : decode cX8_mean 39 = .ok (.dconst 0, 1) := by decide +kernel
theorem dX8_mean_40 : decode cX8_mean 40 = .ok (.goto 11, 3) := by decide +kernel
theorem dX8_mean_43 : decode cX8_mean 43 = .ok (.iload_n 1, 1) := by decide +kernel
theorem dX8_mean_44 : decode cX8_mean 44 = .ok (.i2d, 1) := by decide +kernel
theorem dX8_mean_45 : decode cX8_mean 45 = .ok (.aload_n 0, 1) := by decide +kernel
theorem dX8_mean_46 : decode cX8_mean 46 = .ok (.getfield 59, 3) := by decide +kernel
theorem dX8_mean_49 : decode cX8_mean 49 = .ok (.i2d, 1) := by decide +kernel
theorem dX8_mean_50 : decode cX8_mean 50 = .ok (.ddiv, 1) := by decide +kernel
theorem dX8_mean_51 : decode cX8_mean 51 = .ok (.dreturn, 1) := by decide +kernel
set_option maxRecDepth 20000 in
theorem ggX8_digest_X8_bedIs : GoodIn wsX8_digest wsX8_bedIs := goodIn_r _ [13, 14, 4, 52, 53, 54, 55, 56, 57, 58, 59, 60, 61, 62] (by decide +kernel) (by decide +kernel)
set_option maxRecDepth 20000 in
theorem gX8_digest_X8_bedIs : GoodIn wsX8_digest (wsV RX8 101 RX8 yX8_bedIs wsX8_bedIs) := goodIn_app (goodIn_of _ (by decide +kernel)) ggX8_digest_X8_bedIs
set_option maxRecDepth 20000 in
theorem ggX8_digest_X8_drumIs : GoodIn wsX8_digest wsX8_drumIs := goodIn_r _ [18, 19, 20, 21, 22, 12, 23, 24, 25, 26, 27, 4, 28, 29, 30, 31, 32, 33, 52, 53, 54, 55, 56, 57, 58, 59, 60, 61, 62] (by decide +kernel) (by decide +kernel)
set_option maxRecDepth 20000 in
theorem gX8_digest_X8_drumIs : GoodIn wsX8_digest (wsV RX8 104 RX8 yX8_drumIs wsX8_drumIs) := goodIn_app (goodIn_of _ (by decide +kernel)) ggX8_digest_X8_drumIs
set_option maxRecDepth 20000 in
theorem ggX8_digest_X8_smugglerIs : GoodIn wsX8_digest wsX8_smugglerIs := goodIn_r _ [37, 38, 39, 40, 41, 12, 42, 4, 52, 53, 54, 55, 56, 57, 58, 59, 60, 61, 62] (by decide +kernel) (by decide +kernel)
set_option maxRecDepth 20000 in
theorem gX8_digest_X8_smugglerIs : GoodIn wsX8_digest (wsV RX8 107 RX8 yX8_smugglerIs wsX8_smugglerIs) := goodIn_app (goodIn_of _ (by decide +kernel)) ggX8_digest_X8_smugglerIs
set_option maxRecDepth 20000 in
theorem ggX8_digest_X8_cardIs : GoodIn wsX8_digest wsX8_cardIs := goodIn_r _ [46, 47, 48, 49, 50, 12, 51, 4, 52, 53, 54, 55, 56, 57, 58, 59, 60, 61, 62] (by decide +kernel) (by decide +kernel)
set_option maxRecDepth 20000 in
theorem gX8_digest_X8_cardIs : GoodIn wsX8_digest (wsV RX8 113 RX8 yX8_cardIs wsX8_cardIs) := goodIn_app (goodIn_of _ (by decide +kernel)) ggX8_digest_X8_cardIs
theorem dX8_digest_0 : decode cX8_digest 0 = .ok (.aload_n 0, 1) := by decide +kernel
theorem dX8_digest_1 : decode cX8_digest 1 = .ok (.iconst 0, 1) := by decide +kernel
theorem dX8_digest_2 : decode cX8_digest 2 = .ok (.putfield 28, 3) := by decide +kernel
theorem dX8_digest_5 : decode cX8_digest 5 = .ok (.ldc2_w 146, 3) := by decide +kernel
theorem dX8_digest_8 : decode cX8_digest 8 = .ok (.lstore_n 1, 1) := by decide +kernel
theorem dX8_digest_9 : decode cX8_digest 9 = .ok (.iconst 0, 1) := by decide +kernel
theorem dX8_digest_10 : decode cX8_digest 10 = .ok (.istore_n 3, 1) := by decide +kernel
theorem dX8_digest_11 : decode cX8_digest 11 = .ok (.iload_n 3, 1) := by decide +kernel
theorem dX8_digest_12 : decode cX8_digest 12 = .ok (.bipush 9, 2) := by decide +kernel
theorem dX8_digest_14 : decode cX8_digest 14 = .ok (.if_icmp .ge 23, 3) := by decide +kernel
theorem dX8_digest_17 : decode cX8_digest 17 = .ok (.lload_n 1, 1) := by decide +kernel
theorem dX8_digest_18 : decode cX8_digest 18 = .ok (.ldc2_w 148, 3) := by decide +kernel
theorem dX8_digest_21 : decode cX8_digest 21 = .ok (.lmul, 1) := by decide +kernel
theorem dX8_digest_22 : decode cX8_digest 22 = .ok (.aload_n 0, 1) := by decide +kernel
theorem dX8_digest_23 : decode cX8_digest 23 = .ok (.getfield 22, 3) := by decide +kernel
theorem dX8_digest_26 : decode cX8_digest 26 = .ok (.iload_n 3, 1) := by decide +kernel
theorem dX8_digest_27 : decode cX8_digest 27 = .ok (.iaload, 1) := by decide +kernel
theorem dX8_digest_28 : decode cX8_digest 28 = .ok (.i2l, 1) := by decide +kernel
theorem dX8_digest_29 : decode cX8_digest 29 = .ok (.ladd, 1) := by decide +kernel
theorem dX8_digest_30 : decode cX8_digest 30 = .ok (.lstore_n 1, 1) := by decide +kernel
theorem dX8_digest_31 : decode cX8_digest 31 = .ok (.iinc 3 1, 3) := by decide +kernel
theorem dX8_digest_34 : decode cX8_digest 34 = .ok (.goto (-23), 3) := by decide +kernel
theorem dX8_digest_37 : decode cX8_digest 37 = .ok (.iconst 0, 1) := by decide +kernel
theorem dX8_digest_38 : decode cX8_digest 38 = .ok (.istore_n 3, 1) := by decide +kernel
theorem dX8_digest_39 : decode cX8_digest 39 = .ok (.iload_n 3, 1) := by decide +kernel
theorem dX8_digest_40 : decode cX8_digest 40 = .ok (.aload_n 0, 1) := by decide +kernel
theorem dX8_digest_41 : decode cX8_digest 41 = .ok (.getfield 52, 3) := by decide +kernel
theorem dX8_digest_44 : decode cX8_digest 44 = .ok (.if_icmp .ge 39, 3) := by decide +kernel
theorem dX8_digest_47 : decode cX8_digest 47 = .ok (.iconst 0, 1) := by decide +kernel
theorem dX8_digest_48 : decode cX8_digest 48 = .ok (.istore 4, 2) := by decide +kernel
theorem dX8_digest_50 : decode cX8_digest 50 = .ok (.iload 4, 2) := by decide +kernel
theorem dX8_digest_52 : decode cX8_digest 52 = .ok (.iconst 3, 1) := by decide +kernel
theorem dX8_digest_53 : decode cX8_digest 53 = .ok (.if_icmp .ge 24, 3) := by decide +kernel
theorem dX8_digest_56 : decode cX8_digest 56 = .ok (.lload_n 1, 1) := by decide +kernel
theorem dX8_digest_57 : decode cX8_digest 57 = .ok (.ldc2_w 148, 3) := by decide +kernel
theorem dX8_digest_60 : decode cX8_digest 60 = .ok (.lmul, 1) := by decide +kernel
theorem dX8_digest_61 : decode cX8_digest 61 = .ok (.aload_n 0, 1) := by decide +kernel
theorem dX8_digest_62 : decode cX8_digest 62 = .ok (.iload_n 3, 1) := by decide +kernel
theorem dX8_digest_63 : decode cX8_digest 63 = .ok (.iload 4, 2) := by decide +kernel
theorem dX8_digest_65 : decode cX8_digest 65 = .ok (.invokevirtual 101, 3) := by decide +kernel
theorem dX8_digest_68 : decode cX8_digest 68 = .ok (.i2l, 1) := by decide +kernel
theorem dX8_digest_69 : decode cX8_digest 69 = .ok (.ladd, 1) := by decide +kernel
theorem dX8_digest_70 : decode cX8_digest 70 = .ok (.lstore_n 1, 1) := by decide +kernel
theorem dX8_digest_71 : decode cX8_digest 71 = .ok (.iinc 4 1, 3) := by decide +kernel
theorem dX8_digest_74 : decode cX8_digest 74 = .ok (.goto (-24), 3) := by decide +kernel
theorem dX8_digest_77 : decode cX8_digest 77 = .ok (.iinc 3 1, 3) := by decide +kernel
theorem dX8_digest_80 : decode cX8_digest 80 = .ok (.goto (-41), 3) := by decide +kernel
theorem dX8_digest_83 : decode cX8_digest 83 = .ok (.iconst 0, 1) := by decide +kernel
theorem dX8_digest_84 : decode cX8_digest 84 = .ok (.istore_n 3, 1) := by decide +kernel
theorem dX8_digest_85 : decode cX8_digest 85 = .ok (.iload_n 3, 1) := by decide +kernel
theorem dX8_digest_86 : decode cX8_digest 86 = .ok (.aload_n 0, 1) := by decide +kernel
theorem dX8_digest_87 : decode cX8_digest 87 = .ok (.getfield 32, 3) := by decide +kernel
theorem dX8_digest_90 : decode cX8_digest 90 = .ok (.if_icmp .ge 40, 3) := by decide +kernel
theorem dX8_digest_93 : decode cX8_digest 93 = .ok (.iconst 0, 1) := by decide +kernel
theorem dX8_digest_94 : decode cX8_digest 94 = .ok (.istore 4, 2) := by decide +kernel
theorem dX8_digest_96 : decode cX8_digest 96 = .ok (.iload 4, 2) := by decide +kernel
theorem dX8_digest_98 : decode cX8_digest 98 = .ok (.bipush 6, 2) := by decide +kernel
theorem dX8_digest_100 : decode cX8_digest 100 = .ok (.if_icmp .ge 24, 3) := by decide +kernel
theorem dX8_digest_103 : decode cX8_digest 103 = .ok (.lload_n 1, 1) := by decide +kernel
theorem dX8_digest_104 : decode cX8_digest 104 = .ok (.ldc2_w 148, 3) := by decide +kernel
theorem dX8_digest_107 : decode cX8_digest 107 = .ok (.lmul, 1) := by decide +kernel
theorem dX8_digest_108 : decode cX8_digest 108 = .ok (.aload_n 0, 1) := by decide +kernel
theorem dX8_digest_109 : decode cX8_digest 109 = .ok (.iload_n 3, 1) := by decide +kernel
theorem dX8_digest_110 : decode cX8_digest 110 = .ok (.iload 4, 2) := by decide +kernel
theorem dX8_digest_112 : decode cX8_digest 112 = .ok (.invokevirtual 104, 3) := by decide +kernel
theorem dX8_digest_115 : decode cX8_digest 115 = .ok (.i2l, 1) := by decide +kernel
theorem dX8_digest_116 : decode cX8_digest 116 = .ok (.ladd, 1) := by decide +kernel
theorem dX8_digest_117 : decode cX8_digest 117 = .ok (.lstore_n 1, 1) := by decide +kernel
theorem dX8_digest_118 : decode cX8_digest 118 = .ok (.iinc 4 1, 3) := by decide +kernel
theorem dX8_digest_121 : decode cX8_digest 121 = .ok (.goto (-25), 3) := by decide +kernel
theorem dX8_digest_124 : decode cX8_digest 124 = .ok (.iinc 3 1, 3) := by decide +kernel
theorem dX8_digest_127 : decode cX8_digest 127 = .ok (.goto (-42), 3) := by decide +kernel
theorem dX8_digest_130 : decode cX8_digest 130 = .ok (.iconst 0, 1) := by decide +kernel
theorem dX8_digest_131 : decode cX8_digest 131 = .ok (.istore_n 3, 1) := by decide +kernel
theorem dX8_digest_132 : decode cX8_digest 132 = .ok (.iload_n 3, 1) := by decide +kernel
theorem dX8_digest_133 : decode cX8_digest 133 = .ok (.aload_n 0, 1) := by decide +kernel
theorem dX8_digest_134 : decode cX8_digest 134 = .ok (.getfield 39, 3) := by decide +kernel
theorem dX8_digest_137 : decode cX8_digest 137 = .ok (.if_icmp .ge 39, 3) := by decide +kernel
theorem dX8_digest_140 : decode cX8_digest 140 = .ok (.iconst 0, 1) := by decide +kernel
theorem dX8_digest_141 : decode cX8_digest 141 = .ok (.istore 4, 2) := by decide +kernel
theorem dX8_digest_143 : decode cX8_digest 143 = .ok (.iload 4, 2) := by decide +kernel
theorem dX8_digest_145 : decode cX8_digest 145 = .ok (.iconst 5, 1) := by decide +kernel
theorem dX8_digest_146 : decode cX8_digest 146 = .ok (.if_icmp .ge 24, 3) := by decide +kernel
theorem dX8_digest_149 : decode cX8_digest 149 = .ok (.lload_n 1, 1) := by decide +kernel
theorem dX8_digest_150 : decode cX8_digest 150 = .ok (.ldc2_w 148, 3) := by decide +kernel
theorem dX8_digest_153 : decode cX8_digest 153 = .ok (.lmul, 1) := by decide +kernel
theorem dX8_digest_154 : decode cX8_digest 154 = .ok (.aload_n 0, 1) := by decide +kernel
theorem dX8_digest_155 : decode cX8_digest 155 = .ok (.iload_n 3, 1) := by decide +kernel
theorem dX8_digest_156 : decode cX8_digest 156 = .ok (.iload 4, 2) := by decide +kernel
theorem dX8_digest_158 : decode cX8_digest 158 = .ok (.invokevirtual 107, 3) := by decide +kernel
theorem dX8_digest_161 : decode cX8_digest 161 = .ok (.i2l, 1) := by decide +kernel
theorem dX8_digest_162 : decode cX8_digest 162 = .ok (.ladd, 1) := by decide +kernel
theorem dX8_digest_163 : decode cX8_digest 163 = .ok (.lstore_n 1, 1) := by decide +kernel
theorem dX8_digest_164 : decode cX8_digest 164 = .ok (.iinc 4 1, 3) := by decide +kernel
theorem dX8_digest_167 : decode cX8_digest 167 = .ok (.goto (-24), 3) := by decide +kernel
theorem dX8_digest_170 : decode cX8_digest 170 = .ok (.iinc 3 1, 3) := by decide +kernel
theorem dX8_digest_173 : decode cX8_digest 173 = .ok (.goto (-41), 3) := by decide +kernel
theorem dX8_digest_176 : decode cX8_digest 176 = .ok (.iconst 0, 1) := by decide +kernel
theorem dX8_digest_177 : decode cX8_digest 177 = .ok (.istore_n 3, 1) := by decide +kernel
theorem dX8_digest_178 : decode cX8_digest 178 = .ok (.iload_n 3, 1) := by decide +kernel
theorem dX8_digest_179 : decode cX8_digest 179 = .ok (.aload_n 0, 1) := by decide +kernel
theorem dX8_digest_180 : decode cX8_digest 180 = .ok (.getfield 59, 3) := by decide +kernel
theorem dX8_digest_183 : decode cX8_digest 183 = .ok (.if_icmp .ge 39, 3) := by decide +kernel
theorem dX8_digest_186 : decode cX8_digest 186 = .ok (.iconst 0, 1) := by decide +kernel
theorem dX8_digest_187 : decode cX8_digest 187 = .ok (.istore 4, 2) := by decide +kernel
theorem dX8_digest_189 : decode cX8_digest 189 = .ok (.iload 4, 2) := by decide +kernel
theorem dX8_digest_191 : decode cX8_digest 191 = .ok (.iconst 5, 1) := by decide +kernel
theorem dX8_digest_192 : decode cX8_digest 192 = .ok (.if_icmp .ge 24, 3) := by decide +kernel
theorem dX8_digest_195 : decode cX8_digest 195 = .ok (.lload_n 1, 1) := by decide +kernel
theorem dX8_digest_196 : decode cX8_digest 196 = .ok (.ldc2_w 148, 3) := by decide +kernel
theorem dX8_digest_199 : decode cX8_digest 199 = .ok (.lmul, 1) := by decide +kernel
theorem dX8_digest_200 : decode cX8_digest 200 = .ok (.aload_n 0, 1) := by decide +kernel
theorem dX8_digest_201 : decode cX8_digest 201 = .ok (.iload_n 3, 1) := by decide +kernel
theorem dX8_digest_202 : decode cX8_digest 202 = .ok (.iload 4, 2) := by decide +kernel
theorem dX8_digest_204 : decode cX8_digest 204 = .ok (.invokevirtual 113, 3) := by decide +kernel
theorem dX8_digest_207 : decode cX8_digest 207 = .ok (.i2l, 1) := by decide +kernel
theorem dX8_digest_208 : decode cX8_digest 208 = .ok (.ladd, 1) := by decide +kernel
theorem dX8_digest_209 : decode cX8_digest 209 = .ok (.lstore_n 1, 1) := by decide +kernel
theorem dX8_digest_210 : decode cX8_digest 210 = .ok (.iinc 4 1, 3) := by decide +kernel
theorem dX8_digest_213 : decode cX8_digest 213 = .ok (.goto (-24), 3) := by decide +kernel
theorem dX8_digest_216 : decode cX8_digest 216 = .ok (.iinc 3 1, 3) := by decide +kernel
theorem dX8_digest_219 : decode cX8_digest 219 = .ok (.goto (-41), 3) := by decide +kernel
theorem dX8_digest_222 : decode cX8_digest 222 = .ok (.lload_n 1, 1) := by decide +kernel
theorem dX8_digest_223 : decode cX8_digest 223 = .ok (.lreturn, 1) := by decide +kernel
theorem dJ9_min_7cf53_0 : decode cJ9_min_7cf53 0 = .ok (.iload_n 0, 1) := by decide +kernel
theorem dJ9_min_7cf53_1 : decode cJ9_min_7cf53 1 = .ok (.iload_n 1, 1) := by decide +kernel
theorem dJ9_min_7cf53_2 : decode cJ9_min_7cf53 2 = .ok (.if_icmp .gt 7, 3) := by decide +kernel
theorem dJ9_min_7cf53_5 : decode cJ9_min_7cf53 5 = .ok (.iload_n 0, 1) := by decide +kernel
theorem dJ9_min_7cf53_6 : decode cJ9_min_7cf53 6 = .ok (.goto 4, 3) := by decide +kernel
theorem dJ9_min_7cf53_9 : decode cJ9_min_7cf53 9 = .ok (.iload_n 1, 1) := by decide +kernel
theorem dJ9_min_7cf53_10 : decode cJ9_min_7cf53 10 = .ok (.ireturn, 1) := by decide +kernel
