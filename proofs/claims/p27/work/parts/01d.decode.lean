theorem dX6_init_14 : decode cX6_init 14 = .ok (.anewarray 17, 3) := by decide +kernel
theorem dX6_init_17 : decode cX6_init 17 = .ok (.putfield 19, 3) := by decide +kernel
theorem dX6_init_20 : decode cX6_init 20 = .ok (.aload_n 0, 1) := by decide +kernel
theorem dX6_init_21 : decode cX6_init 21 = .ok (.iconst 4, 1) := by decide +kernel
theorem dX6_init_22 : decode cX6_init 22 = .ok (.anewarray 23, 3) := by decide +kernel
theorem dX6_init_25 : decode cX6_init 25 = .ok (.putfield 25, 3) := by decide +kernel
theorem dX6_init_28 : decode cX6_init 28 = .ok (.aload_n 0, 1) := by decide +kernel
theorem dX6_init_29 : decode cX6_init 29 = .ok (.bipush 10, 2) := by decide +kernel
theorem dX6_init_31 : decode cX6_init 31 = .ok (.anewarray 29, 3) := by decide +kernel
theorem dX6_init_34 : decode cX6_init 34 = .ok (.putfield 31, 3) := by decide +kernel
theorem dX6_init_37 : decode cX6_init 37 = .ok (.aload_n 0, 1) := by decide +kernel
theorem dX6_init_38 : decode cX6_init 38 = .ok (.new 35, 3) := by decide +kernel
theorem dX6_init_41 : decode cX6_init 41 = .ok (.dup, 1) := by decide +kernel
theorem dX6_init_42 : decode cX6_init 42 = .ok (.invokespecial 37, 3) := by decide +kernel
theorem dX6_init_45 : decode cX6_init 45 = .ok (.putfield 38, 3) := by decide +kernel
theorem dX6_init_48 : decode cX6_init 48 = .ok (.iconst 0, 1) := by decide +kernel
theorem dX6_init_49 : decode cX6_init 49 = .ok (.istore_n 1, 1) := by decide +kernel
theorem dX6_init_50 : decode cX6_init 50 = .ok (.iload_n 1, 1) := by decide +kernel
theorem dX6_init_51 : decode cX6_init 51 = .ok (.iconst 4, 1) := by decide +kernel
theorem dX6_init_52 : decode cX6_init 52 = .ok (.if_icmp .ge 22, 3) := by decide +kernel
theorem dX6_init_55 : decode cX6_init 55 = .ok (.aload_n 0, 1) := by decide +kernel
theorem dX6_init_56 : decode cX6_init 56 = .ok (.getfield 11, 3) := by decide +kernel
theorem dX6_init_59 : decode cX6_init 59 = .ok (.iload_n 1, 1) := by decide +kernel
theorem dX6_init_60 : decode cX6_init 60 = .ok (.new 9, 3) := by decide +kernel
theorem dX6_init_63 : decode cX6_init 63 = .ok (.dup, 1) := by decide +kernel
theorem dX6_init_64 : decode cX6_init 64 = .ok (.invokespecial 42, 3) := by decide +kernel
theorem dX6_init_67 : decode cX6_init 67 = .ok (.aastore, 1) := by decide +kernel
theorem dX6_init_68 : decode cX6_init 68 = .ok (.iinc 1 1, 3) := by decide +kernel
theorem dX6_init_71 : decode cX6_init 71 = .ok (.goto (-21), 3) := by decide +kernel
theorem dX6_init_74 : decode cX6_init 74 = .ok (.iconst 0, 1) := by decide +kernel
theorem dX6_init_75 : decode cX6_init 75 = .ok (.istore_n 1, 1) := by decide +kernel
theorem dX6_init_76 : decode cX6_init 76 = .ok (.iload_n 1, 1) := by decide +kernel
theorem dX6_init_77 : decode cX6_init 77 = .ok (.iconst 4, 1) := by decide +kernel
theorem dX6_init_78 : decode cX6_init 78 = .ok (.if_icmp .ge 22, 3) := by decide +kernel
theorem dX6_init_81 : decode cX6_init 81 = .ok (.aload_n 0, 1) := by decide +kernel
theorem dX6_init_82 : decode cX6_init 82 = .ok (.getfield 19, 3) := by decide +kernel
theorem dX6_init_85 : decode cX6_init 85 = .ok (.iload_n 1, 1) := by decide +kernel
theorem dX6_init_86 : decode cX6_init 86 = .ok (.new 17, 3) := by decide +kernel
theorem dX6_init_89 : decode cX6_init 89 = .ok (.dup, 1) := by decide +kernel
theorem dX6_init_90 : decode cX6_init 90 = .ok (.invokespecial 43, 3) := by decide +kernel
theorem dX6_init_93 : decode cX6_init 93 = .ok (.aastore, 1) := by decide +kernel
theorem dX6_init_94 : decode cX6_init 94 = .ok (.iinc 1 1, 3) := by decide +kernel
theorem dX6_init_97 : decode cX6_init 97 = .ok (.goto (-21), 3) := by decide +kernel
theorem dX6_init_100 : decode cX6_init 100 = .ok (.iconst 0, 1) := by decide +kernel
theorem dX6_init_101 : decode cX6_init 101 = .ok (.istore_n 1, 1) := by decide +kernel
theorem dX6_init_102 : decode cX6_init 102 = .ok (.iload_n 1, 1) := by decide +kernel
theorem dX6_init_103 : decode cX6_init 103 = .ok (.iconst 4, 1) := by decide +kernel
theorem dX6_init_104 : decode cX6_init 104 = .ok (.if_icmp .ge 22, 3) := by decide +kernel
theorem dX6_init_107 : decode cX6_init 107 = .ok (.aload_n 0, 1) := by decide +kernel
theorem dX6_init_108 : decode cX6_init 108 = .ok (.getfield 25, 3) := by decide +kernel
theorem dX6_init_111 : decode cX6_init 111 = .ok (.iload_n 1, 1) := by decide +kernel
theorem dX6_init_112 : decode cX6_init 112 = .ok (.new 23, 3) := by decide +kernel
theorem dX6_init_115 : decode cX6_init 115 = .ok (.dup, 1) := by decide +kernel
theorem dX6_init_116 : decode cX6_init 116 = .ok (.invokespecial 44, 3) := by decide +kernel
theorem dX6_init_119 : decode cX6_init 119 = .ok (.aastore, 1) := by decide +kernel
theorem dX6_init_120 : decode cX6_init 120 = .ok (.iinc 1 1, 3) := by decide +kernel
theorem dX6_init_123 : decode cX6_init 123 = .ok (.goto (-21), 3) := by decide +kernel
theorem dX6_init_126 : decode cX6_init 126 = .ok (.iconst 0, 1) := by decide +kernel
theorem dX6_init_127 : decode cX6_init 127 = .ok (.istore_n 1, 1) := by decide +kernel
theorem dX6_init_128 : decode cX6_init 128 = .ok (.iload_n 1, 1) := by decide +kernel
theorem dX6_init_129 : decode cX6_init 129 = .ok (.bipush 10, 2) := by decide +kernel
theorem dX6_init_131 : decode cX6_init 131 = .ok (.if_icmp .ge 22, 3) := by decide +kernel
theorem dX6_init_134 : decode cX6_init 134 = .ok (.aload_n 0, 1) := by decide +kernel
theorem dX6_init_135 : decode cX6_init 135 = .ok (.getfield 31, 3) := by decide +kernel
theorem dX6_init_138 : decode cX6_init 138 = .ok (.iload_n 1, 1) := by decide +kernel
theorem dX6_init_139 : decode cX6_init 139 = .ok (.new 29, 3) := by decide +kernel
theorem dX6_init_142 : decode cX6_init 142 = .ok (.dup, 1) := by decide +kernel
theorem dX6_init_143 : decode cX6_init 143 = .ok (.invokespecial 45, 3) := by decide +kernel
theorem dX6_init_146 : decode cX6_init 146 = .ok (.aastore, 1) := by decide +kernel
theorem dX6_init_147 : decode cX6_init 147 = .ok (.iinc 1 1, 3) := by decide +kernel
theorem dX6_init_150 : decode cX6_init 150 = .ok (.goto (-22), 3) := by decide +kernel
theorem dX6_init_153 : decode cX6_init 153 = .ok (.return_, 1) := by decide +kernel
theorem dX6_patrolled_0 : decode cX6_patrolled 0 = .ok (.aload_n 0, 1) := by decide +kernel
theorem dX6_patrolled_1 : decode cX6_patrolled 1 = .ok (.getfield 46, 3) := by decide +kernel
theorem dX6_patrolled_4 : decode cX6_patrolled 4 = .ok (.iload_n 1, 1) := by decide +kernel
theorem dX6_patrolled_5 : decode cX6_patrolled 5 = .ok (.bipush 7, 2) := by decide +kernel
theorem dX6_patrolled_7 : decode cX6_patrolled 7 = .ok (.irem, 1) := by decide +kernel
theorem dX6_patrolled_8 : decode cX6_patrolled 8 = .ok (.ishr, 1) := by decide +kernel
theorem dX6_patrolled_9 : decode cX6_patrolled 9 = .ok (.iconst 1, 1) := by decide +kernel
theorem dX6_patrolled_10 : decode cX6_patrolled 10 = .ok (.iand, 1) := by decide +kernel
theorem dX6_patrolled_11 : decode cX6_patrolled 11 = .ok (.iconst 1, 1) := by decide +kernel
theorem dX6_patrolled_12 : decode cX6_patrolled 12 = .ok (.if_icmp .ne 7, 3) := by decide +kernel
theorem dX6_patrolled_15 : decode cX6_patrolled 15 = .ok (.iconst 1, 1) := by decide +kernel
theorem dX6_patrolled_16 : decode cX6_patrolled 16 = .ok (.goto 4, 3) := by decide +kernel
theorem dX6_patrolled_19 : decode cX6_patrolled 19 = .ok (.iconst 0, 1) := by decide +kernel
theorem dX6_patrolled_20 : decode cX6_patrolled 20 = .ok (.ireturn, 1) := by decide +kernel
set_option maxRecDepth 20000 in
theorem ggX6_live_X6_travel : GoodIn wsX6_live wsX6_travel := goodIn_r _ [6, 7, 8, 9, 1, 10, 11, 12, 5, 13, 14, 15, 16, 17, 18, 19, 20, 21, 22, 23, 24, 25, 26, 27, 28, 29, 30, 31, 32, 33, 34, 35, 119, 120, 121, 122, 123, 124, 125, 126, 127, 128, 129, 130, 131, 132, 133, 134, 135, 136, 137, 138, 139, 140, 141] (by decide +kernel) (by decide +kernel)
set_option maxRecDepth 20000 in
theorem gX6_live_X6_travel : GoodIn wsX6_live (wsV RX6 50 RX6 yX6_travel wsX6_travel) := goodIn_app (goodIn_of _ (by decide +kernel)) ggX6_live_X6_travel
set_option maxRecDepth 20000 in
theorem ggX6_live_X6_warm : GoodIn wsX6_live wsX6_warm := goodIn_r _ [39, 40, 41, 42, 43, 44, 45, 46, 47, 48, 49, 50, 51, 52, 53, 54, 55, 56, 57, 58, 59, 60, 61, 119, 120, 121, 122, 123, 124, 125, 126, 127, 128, 129, 142, 143, 144, 145, 146] (by decide +kernel) (by decide +kernel)
set_option maxRecDepth 20000 in
theorem gX6_live_X6_warm : GoodIn wsX6_live (wsV RX6 53 RX6 yX6_warm wsX6_warm) := goodIn_app (goodIn_of _ (by decide +kernel)) ggX6_live_X6_warm
set_option maxRecDepth 20000 in
theorem ggX6_live_X6_grow : GoodIn wsX6_live wsX6_grow := goodIn_r _ [65, 66, 67, 68, 69, 70, 71, 72, 73, 74, 75, 76, 55, 56, 57, 119, 120, 121, 122, 123, 124, 125, 126, 127, 128, 129, 147, 148, 149] (by decide +kernel) (by decide +kernel)
set_option maxRecDepth 20000 in
theorem gX6_live_X6_grow : GoodIn wsX6_live (wsV RX6 56 RX6 yX6_grow wsX6_grow) := goodIn_app (goodIn_of _ (by decide +kernel)) ggX6_live_X6_grow
set_option maxRecDepth 20000 in
theorem ggX6_live_X6_serve : GoodIn wsX6_live wsX6_serve := goodIn_r _ [80, 81, 1, 82, 8, 83, 84, 85, 86, 87, 88, 89, 90, 91, 92, 93, 94, 95, 96, 97, 98, 99, 100, 101, 102, 103, 32, 104, 105, 106, 107, 55, 56, 57, 108, 109, 110, 111, 112, 113, 114, 115, 116, 117, 118, 119, 120, 121, 122, 123, 124, 125, 126, 127, 128, 129, 150, 151, 152, 153, 154, 135, 136, 137, 138, 139, 140, 141] (by decide +kernel) (by decide +kernel)
set_option maxRecDepth 20000 in
theorem gX6_live_X6_serve : GoodIn wsX6_live (wsV RX6 59 RX6 yX6_serve wsX6_serve) := goodIn_app (goodIn_of _ (by decide +kernel)) ggX6_live_X6_serve
theorem dX6_live_0 : decode cX6_live 0 = .ok (.iconst 0, 1) := by decide +kernel
theorem dX6_live_1 : decode cX6_live 1 = .ok (.istore_n 2, 1) := by decide +kernel
theorem dX6_live_2 : decode cX6_live 2 = .ok (.iconst 0, 1) := by decide +kernel
theorem dX6_live_3 : decode cX6_live 3 = .ok (.istore_n 3, 1) := by decide +kernel
theorem dX6_live_4 : decode cX6_live 4 = .ok (.iload_n 3, 1) := by decide +kernel
theorem dX6_live_5 : decode cX6_live 5 = .ok (.iload_n 1, 1) := by decide +kernel
theorem dX6_live_6 : decode cX6_live 6 = .ok (.if_icmp .ge 38, 3) := by decide +kernel
theorem dX6_live_9 : decode cX6_live 9 = .ok (.aload_n 0, 1) := by decide +kernel
theorem dX6_live_10 : decode cX6_live 10 = .ok (.invokevirtual 50, 3) := by decide +kernel
theorem dX6_live_13 : decode cX6_live 13 = .ok (.aload_n 0, 1) := by decide +kernel
theorem dX6_live_14 : decode cX6_live 14 = .ok (.invokevirtual 53, 3) := by decide +kernel
theorem dX6_live_17 : decode cX6_live 17 = .ok (.aload_n 0, 1) := by decide +kernel
theorem dX6_live_18 : decode cX6_live 18 = .ok (.invokevirtual 56, 3) := by decide +kernel
theorem dX6_live_21 : decode cX6_live 21 = .ok (.iload_n 2, 1) := by decide +kernel
theorem dX6_live_22 : decode cX6_live 22 = .ok (.aload_n 0, 1) := by decide +kernel
theorem dX6_live_23 : decode cX6_live 23 = .ok (.invokevirtual 59, 3) := by decide +kernel
theorem dX6_live_26 : decode cX6_live 26 = .ok (.iadd, 1) := by decide +kernel
theorem dX6_live_27 : decode cX6_live 27 = .ok (.istore_n 2, 1) := by decide +kernel
theorem dX6_live_28 : decode cX6_live 28 = .ok (.aload_n 0, 1) := by decide +kernel
theorem dX6_live_29 : decode cX6_live 29 = .ok (.dup, 1) := by decide +kernel
theorem dX6_live_30 : decode cX6_live 30 = .ok (.getfield 63, 3) := by decide +kernel
theorem dX6_live_33 : decode cX6_live 33 = .ok (.iconst 1, 1) := by decide +kernel
theorem dX6_live_34 : decode cX6_live 34 = .ok (.iadd, 1) := by decide +kernel
theorem dX6_live_35 : decode cX6_live 35 = .ok (.putfield 63, 3) := by decide +kernel
theorem dX6_live_38 : decode cX6_live 38 = .ok (.iinc 3 1, 3) := by decide +kernel
theorem dX6_live_41 : decode cX6_live 41 = .ok (.goto (-37), 3) := by decide +kernel
theorem dX6_live_44 : decode cX6_live 44 = .ok (.iload_n 2, 1) := by decide +kernel
theorem dX6_live_45 : decode cX6_live 45 = .ok (.ireturn, 1) := by decide +kernel
set_option maxRecDepth 20000 in
theorem ggX6_travel_X6_patrolled : GoodIn wsX6_travel wsX6_patrolled := goodIn_r _ [9, 10, 32, 33, 34, 35, 36, 37, 38, 39, 40, 41, 42] (by decide +kernel) (by decide +kernel)
set_option maxRecDepth 20000 in
theorem gX6_travel_X6_patrolled : GoodIn wsX6_travel (wsV RX6 69 RX6 yX6_patrolled wsX6_patrolled) := goodIn_app (goodIn_of _ (by decide +kernel)) ggX6_travel_X6_patrolled
set_option maxRecDepth 20000 in
theorem ggX6_travel_X3_travel : GoodIn wsX6_travel wsX3_travel := goodIn_r _ [15, 16, 17, 18, 19, 20, 21, 22, 14, 23, 24, 43, 44, 45, 46, 47] (by decide +kernel) (by decide +kernel)
set_option maxRecDepth 20000 in
theorem gX6_travel_X3_travel : GoodIn wsX6_travel (wsV RX6 73 RX3 yX3_travel wsX3_travel) := goodIn_app (goodIn_of _ (by decide +kernel)) ggX6_travel_X3_travel
set_option maxRecDepth 20000 in
theorem ggX6_travel_X4_add : GoodIn wsX6_travel wsX4_add := goodIn_r _ [29, 30, 31, 48, 49, 50, 51, 52, 53, 54] (by decide +kernel) (by decide +kernel)
set_option maxRecDepth 20000 in
theorem gX6_travel_X4_add : GoodIn wsX6_travel (wsV RX6 76 RX4 yX4_add wsX4_add) := goodIn_app (goodIn_of _ (by decide +kernel)) ggX6_travel_X4_add
theorem dX6_travel_0 : decode cX6_travel 0 = .ok (.iconst 0, 1) := by decide +kernel
theorem dX6_travel_1 : decode cX6_travel 1 = .ok (.istore_n 1, 1) := by decide +kernel
theorem dX6_travel_2 : decode cX6_travel 2 = .ok (.iload_n 1, 1) := by decide +kernel
theorem dX6_travel_3 : decode cX6_travel 3 = .ok (.aload_n 0, 1) := by decide +kernel
theorem dX6_travel_4 : decode cX6_travel 4 = .ok (.getfield 66, 3) := by decide +kernel
theorem dX6_travel_7 : decode cX6_travel 7 = .ok (.if_icmp .ge 34, 3) := by decide +kernel
theorem dX6_travel_10 : decode cX6_travel 10 = .ok (.aload_n 0, 1) := by decide +kernel
theorem dX6_travel_11 : decode cX6_travel 11 = .ok (.getfield 38, 3) := by decide +kernel
theorem dX6_travel_14 : decode cX6_travel 14 = .ok (.iconst 1, 1) := by decide +kernel
theorem dX6_travel_15 : decode cX6_travel 15 = .ok (.aload_n 0, 1) := by decide +kernel
theorem dX6_travel_16 : decode cX6_travel 16 = .ok (.getfield 25, 3) := by decide +kernel
theorem dX6_travel_19 : decode cX6_travel 19 = .ok (.iload_n 1, 1) := by decide +kernel
theorem dX6_travel_20 : decode cX6_travel 20 = .ok (.aaload, 1) := by decide +kernel
theorem dX6_travel_21 : decode cX6_travel 21 = .ok (.aload_n 0, 1) := by decide +kernel
theorem dX6_travel_22 : decode cX6_travel 22 = .ok (.aload_n 0, 1) := by decide +kernel
theorem dX6_travel_23 : decode cX6_travel 23 = .ok (.getfield 63, 3) := by decide +kernel
theorem dX6_travel_26 : decode cX6_travel 26 = .ok (.invokevirtual 69, 3) := by decide +kernel
theorem dX6_travel_29 : decode cX6_travel 29 = .ok (.invokevirtual 73, 3) := by decide +kernel
theorem dX6_travel_32 : decode cX6_travel 32 = .ok (.invokevirtual 76, 3) := by decide +kernel
theorem dX6_travel_35 : decode cX6_travel 35 = .ok (.iinc 1 1, 3) := by decide +kernel
theorem dX6_travel_38 : decode cX6_travel 38 = .ok (.goto (-36), 3) := by decide +kernel
theorem dX6_travel_41 : decode cX6_travel 41 = .ok (.return_, 1) := by decide +kernel
set_option maxRecDepth 20000 in
theorem ggX6_warm_X2_warm : GoodIn wsX6_warm wsX2_warm := goodIn_r _ [7, 8, 9, 10, 11, 6, 12, 13, 14, 15, 16, 17, 18, 19, 20, 21, 22, 34, 35, 36, 37, 38] (by decide +kernel) (by decide +kernel)
set_option maxRecDepth 20000 in
theorem gX6_warm_X2_warm : GoodIn wsX6_warm (wsV RX6 83 RX2 yX2_warm wsX2_warm) := goodIn_app (goodIn_of _ (by decide +kernel)) ggX6_warm_X2_warm
theorem dX6_warm_0 : decode cX6_warm 0 = .ok (.iconst 0, 1) := by decide +kernel
theorem dX6_warm_1 : decode cX6_warm 1 = .ok (.istore_n 1, 1) := by decide +kernel
theorem dX6_warm_2 : decode cX6_warm 2 = .ok (.iload_n 1, 1) := by decide +kernel
theorem dX6_warm_3 : decode cX6_warm 3 = .ok (.aload_n 0, 1) := by decide +kernel
theorem dX6_warm_4 : decode cX6_warm 4 = .ok (.getfield 80, 3) := by decide +kernel
theorem dX6_warm_7 : decode cX6_warm 7 = .ok (.if_icmp .ge 18, 3) := by decide +kernel
theorem dX6_warm_10 : decode cX6_warm 10 = .ok (.aload_n 0, 1) := by decide +kernel
theorem dX6_warm_11 : decode cX6_warm 11 = .ok (.getfield 19, 3) := by decide +kernel
theorem dX6_warm_14 : decode cX6_warm 14 = .ok (.iload_n 1, 1) := by decide +kernel
theorem dX6_warm_15 : decode cX6_warm 15 = .ok (.aaload, 1) := by decide +kernel
theorem dX6_warm_16 : decode cX6_warm 16 = .ok (.invokevirtual 83, 3) := by decide +kernel
theorem dX6_warm_19 : decode cX6_warm 19 = .ok (.iinc 1 1, 3) := by decide +kernel
theorem dX6_warm_22 : decode cX6_warm 22 = .ok (.goto (-20), 3) := by decide +kernel
theorem dX6_warm_25 : decode cX6_warm 25 = .ok (.return_, 1) := by decide +kernel
set_option maxRecDepth 20000 in
theorem ggX6_grow_X0_grow : GoodIn wsX6_grow wsX0_grow := goodIn_r _ [7, 8, 9, 10, 11, 12, 13, 14, 26, 27, 28] (by decide +kernel) (by decide +kernel)
set_option maxRecDepth 20000 in
theorem gX6_grow_X0_grow : GoodIn wsX6_grow (wsV RX6 87 RX0 yX0_grow wsX0_grow) := goodIn_app (goodIn_of _ (by decide +kernel)) ggX6_grow_X0_grow
theorem dX6_grow_0 : decode cX6_grow 0 = .ok (.iconst 0, 1) := by decide +kernel
theorem dX6_grow_1 : decode cX6_grow 1 = .ok (.istore_n 1, 1) := by decide +kernel
theorem dX6_grow_2 : decode cX6_grow 2 = .ok (.iload_n 1, 1) := by decide +kernel
theorem dX6_grow_3 : decode cX6_grow 3 = .ok (.aload_n 0, 1) := by decide +kernel
theorem dX6_grow_4 : decode cX6_grow 4 = .ok (.getfield 84, 3) := by decide +kernel
theorem dX6_grow_7 : decode cX6_grow 7 = .ok (.if_icmp .ge 18, 3) := by decide +kernel
theorem dX6_grow_10 : decode cX6_grow 10 = .ok (.aload_n 0, 1) := by decide +kernel
theorem dX6_grow_11 : decode cX6_grow 11 = .ok (.getfield 11, 3) := by decide +kernel
theorem dX6_grow_14 : decode cX6_grow 14 = .ok (.iload_n 1, 1) := by decide +kernel
theorem dX6_grow_15 : decode cX6_grow 15 = .ok (.aaload, 1) := by decide +kernel
theorem dX6_grow_16 : decode cX6_grow 16 = .ok (.invokevirtual 87, 3) := by decide +kernel
theorem dX6_grow_19 : decode cX6_grow 19 = .ok (.iinc 1 1, 3) := by decide +kernel
theorem dX6_grow_22 : decode cX6_grow 22 = .ok (.goto (-20), 3) := by decide +kernel
theorem dX6_grow_25 : decode cX6_grow 25 = .ok (.return_, 1) := by decide +kernel
set_option maxRecDepth 20000 in
theorem ggX6_serve_X1_renew : GoodIn wsX6_serve wsX1_renew := goodIn_r _ [9, 10, 11, 56, 57, 58, 59, 60] (by decide +kernel) (by decide +kernel)
set_option maxRecDepth 20000 in
theorem gX6_serve_X1_renew : GoodIn wsX6_serve (wsV RX6 91 RX1 yX1_renew wsX1_renew) := goodIn_app (goodIn_of _ (by decide +kernel)) ggX6_serve_X1_renew
set_option maxRecDepth 20000 in
theorem ggX6_serve_X1_serveDay : GoodIn wsX6_serve wsX1_serveDay := goodIn_r _ [15, 16, 17, 18, 8, 19, 11, 20, 21, 22, 23, 24, 25, 26, 27, 28, 29, 30, 31, 32, 33, 34, 35, 36, 37, 38, 39, 40, 41, 42, 43, 44, 56, 57, 58, 59, 60, 61, 62, 63, 64, 65, 66, 67] (by decide +kernel) (by decide +kernel)
set_option maxRecDepth 20000 in
theorem gX6_serve_X1_serveDay : GoodIn wsX6_serve (wsV RX6 94 RX1 yX1_serveDay wsX1_serveDay) := goodIn_app (goodIn_of _ (by decide +kernel)) ggX6_serve_X1_serveDay
theorem dX6_serve_0 : decode cX6_serve 0 = .ok (.iconst 0, 1) := by decide +kernel
theorem dX6_serve_1 : decode cX6_serve 1 = .ok (.istore_n 1, 1) := by decide +kernel
theorem dX6_serve_2 : decode cX6_serve 2 = .ok (.iconst 0, 1) := by decide +kernel
theorem dX6_serve_3 : decode cX6_serve 3 = .ok (.istore_n 2, 1) := by decide +kernel
theorem dX6_serve_4 : decode cX6_serve 4 = .ok (.iload_n 2, 1) := by decide +kernel
theorem dX6_serve_5 : decode cX6_serve 5 = .ok (.aload_n 0, 1) := by decide +kernel
theorem dX6_serve_6 : decode cX6_serve 6 = .ok (.getfield 88, 3) := by decide +kernel
theorem dX6_serve_9 : decode cX6_serve 9 = .ok (.if_icmp .ge 44, 3) := by decide +kernel
theorem dX6_serve_12 : decode cX6_serve 12 = .ok (.aload_n 0, 1) := by decide +kernel
theorem dX6_serve_13 : decode cX6_serve 13 = .ok (.getfield 63, 3) := by decide +kernel
theorem dX6_serve_16 : decode cX6_serve 16 = .ok (.bipush 7, 2) := by decide +kernel
theorem dX6_serve_18 : decode cX6_serve 18 = .ok (.irem, 1) := by decide +kernel
theorem dX6_serve_19 : decode cX6_serve 19 = .ok (.ifCond .ne 12, 3) := by decide +kernel
theorem dX6_serve_22 : decode cX6_serve 22 = .ok (.aload_n 0, 1) := by decide +kernel
theorem dX6_serve_23 : decode cX6_serve 23 = .ok (.getfield 31, 3) := by decide +kernel
theorem dX6_serve_26 : decode cX6_serve 26 = .ok (.iload_n 2, 1) := by decide +kernel
theorem dX6_serve_27 : decode cX6_serve 27 = .ok (.aaload, 1) := by decide +kernel
theorem dX6_serve_28 : decode cX6_serve 28 = .ok (.invokevirtual 91, 3) := by decide +kernel
theorem dX6_serve_31 : decode cX6_serve 31 = .ok (.iload_n 1, 1) := by decide +kernel
theorem dX6_serve_32 : decode cX6_serve 32 = .ok (.aload_n 0, 1) := by decide +kernel
theorem dX6_serve_33 : decode cX6_serve 33 = .ok (.getfield 31, 3) := by decide +kernel
theorem dX6_serve_36 : decode cX6_serve 36 = .ok (.iload_n 2, 1) := by decide +kernel
theorem dX6_serve_37 : decode cX6_serve 37 = .ok (.aaload, 1) := by decide +kernel
theorem dX6_serve_38 : decode cX6_serve 38 = .ok (.aload_n 0, 1) := by decide +kernel
theorem dX6_serve_39 : decode cX6_serve 39 = .ok (.getfield 38, 3) := by decide +kernel
theorem dX6_serve_42 : decode cX6_serve 42 = .ok (.invokevirtual 94, 3) := by decide +kernel
theorem dX6_serve_45 : decode cX6_serve 45 = .ok (.iadd, 1) := by decide +kernel
theorem dX6_serve_46 : decode cX6_serve 46 = .ok (.istore_n 1, 1) := by decide +kernel
theorem dX6_serve_47 : decode cX6_serve 47 = .ok (.iinc 2 1, 3) := by decide +kernel
theorem dX6_serve_50 : decode cX6_serve 50 = .ok (.goto (-46), 3) := by decide +kernel
theorem dX6_serve_53 : decode cX6_serve 53 = .ok (.iload_n 1, 1) := by decide +kernel
theorem dX6_serve_54 : decode cX6_serve 54 = .ok (.ireturn, 1) := by decide +kernel
theorem dX6_size_0 : decode cX6_size 0 = .ok (.bipush 9, 2) := by decide +kernel
theorem dX6_size_2 : decode cX6_size 2 = .ok (.ireturn, 1) := by decide +kernel
theorem dX6_tell_0 : decode cX6_tell 0 = .ok (.iload_n 1, 1) := by decide +kernel
theorem dX6_tell_1 : decode cX6_tell 1 = .ok (.tableswitch 108 0 7 #[47, 52, 60, 68, 76, 84, 92, 100], 47) := by decide +kernel
theorem dX6_tell_48 : decode cX6_tell 48 = .ok (.aload_n 0, 1) := by decide +kernel
theorem dX6_tell_49 : decode cX6_tell 49 = .ok (.getfield 63, 3) := by decide +kernel
theorem dX6_tell_52 : decode cX6_tell 52 = .ok (.ireturn, 1) := by decide +kernel
theorem dX6_tell_53 : decode cX6_tell 53 = .ok (.aload_n 0, 1) := by decide +kernel
theorem dX6_tell_54 : decode cX6_tell 54 = .ok (.getfield 38, 3) := by decide +kernel
theorem dX6_tell_57 : decode cX6_tell 57 = .ok (.getfield 114, 3) := by decide +kernel
theorem dX6_tell_60 : decode cX6_tell 60 = .ok (.ireturn, 1) := by decide +kernel
theorem dX6_tell_61 : decode cX6_tell 61 = .ok (.aload_n 0, 1) := by decide +kernel
theorem dX6_tell_62 : decode cX6_tell 62 = .ok (.getfield 38, 3) := by decide +kernel
theorem dX6_tell_65 : decode cX6_tell 65 = .ok (.getfield 117, 3) := by decide +kernel
theorem dX6_tell_68 : decode cX6_tell 68 = .ok (.ireturn, 1) := by decide +kernel
theorem dX6_tell_69 : decode cX6_tell 69 = .ok (.aload_n 0, 1) := by decide +kernel
theorem dX6_tell_70 : decode cX6_tell 70 = .ok (.getfield 38, 3) := by decide +kernel
theorem dX6_tell_73 : decode cX6_tell 73 = .ok (.getfield 120, 3) := by decide +kernel
theorem dX6_tell_76 : decode cX6_tell 76 = .ok (.ireturn, 1) := by decide +kernel
theorem dX6_tell_77 : decode cX6_tell 77 = .ok (.aload_n 0, 1) := by decide +kernel
theorem dX6_tell_78 : decode cX6_tell 78 = .ok (.getfield 38, 3) := by decide +kernel
theorem dX6_tell_81 : decode cX6_tell 81 = .ok (.getfield 123, 3) := by decide +kernel
theorem dX6_tell_84 : decode cX6_tell 84 = .ok (.ireturn, 1) := by decide +kernel
theorem dX6_tell_85 : decode cX6_tell 85 = .ok (.aload_n 0, 1) := by decide +kernel
theorem dX6_tell_86 : decode cX6_tell 86 = .ok (.getfield 38, 3) := by decide +kernel
theorem dX6_tell_89 : decode cX6_tell 89 = .ok (.getfield 126, 3) := by decide +kernel
theorem dX6_tell_92 : decode cX6_tell 92 = .ok (.ireturn, 1) := by decide +kernel
theorem dX6_tell_93 : decode cX6_tell 93 = .ok (.aload_n 0, 1) := by decide +kernel
theorem dX6_tell_94 : decode cX6_tell 94 = .ok (.getfield 38, 3) := by decide +kernel
theorem dX6_tell_97 : decode cX6_tell 97 = .ok (.getfield 129, 3) := by decide +kernel
theorem dX6_tell_100 : decode cX6_tell 100 = .ok (.ireturn, 1) := by decide +kernel
theorem dX6_tell_101 : decode cX6_tell 101 = .ok (.aload_n 0, 1) := by decide +kernel
theorem dX6_tell_102 : decode cX6_tell 102 = .ok (.getfield 38, 3) := by decide +kernel
theorem dX6_tell_105 : decode cX6_tell 105 = .ok (.getfield 132, 3) := by decide +kernel
theorem dX6_tell_108 : decode cX6_tell 108 = .ok (.ireturn, 1) := by decide +kernel
theorem dX6_tell_109 : decode cX6_tell 109 = .ok (.aload_n 0, 1) := by decide +kernel
theorem dX6_tell_110 : decode cX6_tell 110 = .ok (.getfield 46, 3) := by decide +kernel
theorem dX6_tell_113 : decode cX6_tell 113 = .ok (.ireturn, 1) := by decide +kernel
set_option maxRecDepth 20000 in
theorem ggX7_init_X6_init : GoodIn wsX7_init wsX6_init := goodIn_r _ [11, 12, 13, 14, 15, 16, 17, 18, 19, 20, 21, 22, 23, 24, 25, 26, 27, 28, 29, 30, 31, 32, 33, 34, 35, 2, 3, 36, 37, 38, 39, 40, 41, 42, 43, 44, 45, 46, 47, 48, 49, 50, 51, 52, 53, 54, 55, 56, 57, 58, 59, 62, 63, 64, 65, 66, 67, 68, 69, 70, 71, 72, 73, 74, 75, 76, 77, 78, 79, 80, 81, 82, 83, 84, 85, 86] (by decide +kernel) (by decide +kernel)
set_option maxRecDepth 20000 in
theorem gX7_init_X6_init : GoodIn wsX7_init (wsX6_init) := ggX7_init_X6_init
theorem dX7_init_0 : decode cX7_init 0 = .ok (.aload_n 0, 1) := by decide +kernel
theorem dX7_init_1 : decode cX7_init 1 = .ok (.invokespecial 1, 3) := by decide +kernel
theorem dX7_init_4 : decode cX7_init 4 = .ok (.aload_n 0, 1) := by decide +kernel
theorem dX7_init_5 : decode cX7_init 5 = .ok (.new 7, 3) := by decide +kernel
theorem dX7_init_8 : decode cX7_init 8 = .ok (.dup, 1) := by decide +kernel
theorem dX7_init_9 : decode cX7_init 9 = .ok (.invokespecial 9, 3) := by decide +kernel
theorem dX7_init_12 : decode cX7_init 12 = .ok (.putfield 10, 3) := by decide +kernel
theorem dX7_init_15 : decode cX7_init 15 = .ok (.aload_n 0, 1) := by decide +kernel
theorem dX7_init_16 : decode cX7_init 16 = .ok (.new 7, 3) := by decide +kernel
theorem dX7_init_19 : decode cX7_init 19 = .ok (.dup, 1) := by decide +kernel
theorem dX7_init_20 : decode cX7_init 20 = .ok (.invokespecial 9, 3) := by decide +kernel
theorem dX7_init_23 : decode cX7_init 23 = .ok (.putfield 16, 3) := by decide +kernel
theorem dX7_init_26 : decode cX7_init 26 = .ok (.return_, 1) := by decide +kernel
set_option maxRecDepth 20000 in
theorem ggX7_bed_X7_checkNumber : GoodIn wsX7_bed wsX7_checkNumber := goodIn_ca (goodIn_r _ [7, 8, 9] (by decide +kernel) (by decide +kernel)) (goodIn_sub (fun _ h => List.mem_cons_of_mem _ (List.mem_append_left _ (List.mem_append_right _ h))) (by decide +kernel))
set_option maxRecDepth 20000 in
theorem gX7_bed_X7_checkNumber : GoodIn wsX7_bed (va_wsS RX7 19 yX7_checkNumber wsX7_checkNumber) := goodIn_app (goodIn_of _ (by decide +kernel)) ggX7_bed_X7_checkNumber
set_option maxRecDepth 20000 in
theorem ggX7_bed_X7_checkState : GoodIn wsX7_bed wsX7_checkState := goodIn_ca (goodIn_r _ [12, 13, 14] (by decide +kernel) (by decide +kernel)) (goodIn_sub (fun _ h => List.mem_cons_of_mem _ (List.mem_append_right _ h)) (by decide +kernel))
set_option maxRecDepth 20000 in
theorem gX7_bed_X7_checkState : GoodIn wsX7_bed (va_wsS RX7 27 yX7_checkState wsX7_checkState) := goodIn_app (goodIn_of _ (by decide +kernel)) ggX7_bed_X7_checkState
set_option maxRecDepth 20000 in
theorem ggX7_bed_X0_lay : GoodIn wsX7_bed wsX0_lay := goodIn_r _ [19, 20, 21, 35, 36, 37] (by decide +kernel) (by decide +kernel)
set_option maxRecDepth 20000 in
theorem gX7_bed_X0_lay : GoodIn wsX7_bed (wsV RX7 35 RX0 yX0_lay wsX0_lay) := goodIn_app (goodIn_of _ (by decide +kernel)) ggX7_bed_X0_lay
theorem dX7_bed_0 : decode cX7_bed 0 = .ok (.iload_n 1, 1) := by decide +kernel
theorem dX7_bed_1 : decode cX7_bed 1 = .ok (.iconst 0, 1) := by decide +kernel
theorem dX7_bed_2 : decode cX7_bed 2 = .ok (.bipush 9, 2) := by decide +kernel
theorem dX7_bed_4 : decode cX7_bed 4 = .ok (.invokestatic 19, 3) := by decide +kernel
theorem dX7_bed_7 : decode cX7_bed 7 = .ok (.iload_n 2, 1) := by decide +kernel
theorem dX7_bed_8 : decode cX7_bed 8 = .ok (.iconst 1, 1) := by decide +kernel
theorem dX7_bed_9 : decode cX7_bed 9 = .ok (.bipush 99, 2) := by decide +kernel
theorem dX7_bed_11 : decode cX7_bed 11 = .ok (.invokestatic 19, 3) := by decide +kernel
theorem dX7_bed_14 : decode cX7_bed 14 = .ok (.aload_n 0, 1) := by decide +kernel
theorem dX7_bed_15 : decode cX7_bed 15 = .ok (.getfield 10, 3) := by decide +kernel
theorem dX7_bed_18 : decode cX7_bed 18 = .ok (.getfield 23, 3) := by decide +kernel
theorem dX7_bed_21 : decode cX7_bed 21 = .ok (.iconst 4, 1) := by decide +kernel
theorem dX7_bed_22 : decode cX7_bed 22 = .ok (.if_icmp .ge 7, 3) := by decide +kernel
theorem dX7_bed_25 : decode cX7_bed 25 = .ok (.iconst 1, 1) := by decide +kernel
theorem dX7_bed_26 : decode cX7_bed 26 = .ok (.goto 4, 3) := by decide +kernel
theorem dX7_bed_29 : decode cX7_bed 29 = .ok (.iconst 0, 1) := by decide +kernel
theorem dX7_bed_30 : decode cX7_bed 30 = .ok (.invokestatic 27, 3) := by decide +kernel
theorem dX7_bed_33 : decode cX7_bed 33 = .ok (.aload_n 0, 1) := by decide +kernel
theorem dX7_bed_34 : decode cX7_bed 34 = .ok (.getfield 10, 3) := by decide +kernel
theorem dX7_bed_37 : decode cX7_bed 37 = .ok (.getfield 31, 3) := by decide +kernel
theorem dX7_bed_40 : decode cX7_bed 40 = .ok (.aload_n 0, 1) := by decide +kernel
theorem dX7_bed_41 : decode cX7_bed 41 = .ok (.getfield 10, 3) := by decide +kernel
theorem dX7_bed_44 : decode cX7_bed 44 = .ok (.getfield 23, 3) := by decide +kernel
theorem dX7_bed_47 : decode cX7_bed 47 = .ok (.aaload, 1) := by decide +kernel
theorem dX7_bed_48 : decode cX7_bed 48 = .ok (.iload_n 1, 1) := by decide +kernel
theorem dX7_bed_49 : decode cX7_bed 49 = .ok (.iload_n 2, 1) := by decide +kernel
theorem dX7_bed_50 : decode cX7_bed 50 = .ok (.invokevirtual 35, 3) := by decide +kernel
theorem dX7_bed_53 : decode cX7_bed 53 = .ok (.aload_n 0, 1) := by decide +kernel
theorem dX7_bed_54 : decode cX7_bed 54 = .ok (.getfield 10, 3) := by decide +kernel
theorem dX7_bed_57 : decode cX7_bed 57 = .ok (.dup, 1) := by decide +kernel
theorem dX7_bed_58 : decode cX7_bed 58 = .ok (.getfield 23, 3) := by decide +kernel
theorem dX7_bed_61 : decode cX7_bed 61 = .ok (.dup_x1, 1) := by decide +kernel
theorem dX7_bed_62 : decode cX7_bed 62 = .ok (.iconst 1, 1) := by decide +kernel
theorem dX7_bed_63 : decode cX7_bed 63 = .ok (.iadd, 1) := by decide +kernel
theorem dX7_bed_64 : decode cX7_bed 64 = .ok (.putfield 23, 3) := by decide +kernel
theorem dX7_bed_67 : decode cX7_bed 67 = .ok (.ireturn, 1) := by decide +kernel
set_option maxRecDepth 20000 in
theorem ggX7_drum_X7_checkNumber : GoodIn wsX7_drum wsX7_checkNumber := goodIn_ca (goodIn_r _ [7, 8, 9] (by decide +kernel) (by decide +kernel)) (goodIn_sub (fun _ h => List.mem_cons_of_mem _ (List.mem_append_left _ (List.mem_append_right _ h))) (by decide +kernel))
set_option maxRecDepth 20000 in
theorem gX7_drum_X7_checkNumber : GoodIn wsX7_drum (va_wsS RX7 19 yX7_checkNumber wsX7_checkNumber) := goodIn_app (goodIn_of _ (by decide +kernel)) ggX7_drum_X7_checkNumber
set_option maxRecDepth 20000 in
theorem ggX7_drum_X7_checkState : GoodIn wsX7_drum wsX7_checkState := goodIn_ca (goodIn_r _ [12, 13, 14] (by decide +kernel) (by decide +kernel)) (goodIn_sub (fun _ h => List.mem_cons_of_mem _ (List.mem_append_right _ h)) (by decide +kernel))
set_option maxRecDepth 20000 in
theorem gX7_drum_X7_checkState : GoodIn wsX7_drum (va_wsS RX7 27 yX7_checkState wsX7_checkState) := goodIn_app (goodIn_of _ (by decide +kernel)) ggX7_drum_X7_checkState
set_option maxRecDepth 20000 in
theorem ggX7_drum_X2_install : GoodIn wsX7_drum wsX2_install := goodIn_r _ [19, 20, 21, 35, 36, 37, 38, 39] (by decide +kernel) (by decide +kernel)
set_option maxRecDepth 20000 in
theorem gX7_drum_X2_install : GoodIn wsX7_drum (wsV RX7 48 RX2 yX2_install wsX2_install) := goodIn_app (goodIn_of _ (by decide +kernel)) ggX7_drum_X2_install
theorem dX7_drum_0 : decode cX7_drum 0 = .ok (.iload_n 1, 1) := by decide +kernel
theorem dX7_drum_1 : decode cX7_drum 1 = .ok (.iconst 1, 1) := by decide +kernel
theorem dX7_drum_2 : decode cX7_drum 2 = .ok (.bipush 40, 2) := by decide +kernel
theorem dX7_drum_4 : decode cX7_drum 4 = .ok (.invokestatic 19, 3) := by decide +kernel
theorem dX7_drum_7 : decode cX7_drum 7 = .ok (.iload_n 2, 1) := by decide +kernel
theorem dX7_drum_8 : decode cX7_drum 8 = .ok (.iconst 0, 1) := by decide +kernel
theorem dX7_drum_9 : decode cX7_drum 9 = .ok (.bipush 9, 2) := by decide +kernel
theorem dX7_drum_11 : decode cX7_drum 11 = .ok (.invokestatic 19, 3) := by decide +kernel
theorem dX7_drum_14 : decode cX7_drum 14 = .ok (.aload_n 0, 1) := by decide +kernel
theorem dX7_drum_15 : decode cX7_drum 15 = .ok (.getfield 10, 3) := by decide +kernel
theorem dX7_drum_18 : decode cX7_drum 18 = .ok (.getfield 41, 3) := by decide +kernel
theorem dX7_drum_21 : decode cX7_drum 21 = .ok (.iconst 4, 1) := by decide +kernel
theorem dX7_drum_22 : decode cX7_drum 22 = .ok (.if_icmp .ge 7, 3) := by decide +kernel
theorem dX7_drum_25 : decode cX7_drum 25 = .ok (.iconst 1, 1) := by decide +kernel
theorem dX7_drum_26 : decode cX7_drum 26 = .ok (.goto 4, 3) := by decide +kernel
theorem dX7_drum_29 : decode cX7_drum 29 = .ok (.iconst 0, 1) := by decide +kernel
theorem dX7_drum_30 : decode cX7_drum 30 = .ok (.invokestatic 27, 3) := by decide +kernel
theorem dX7_drum_33 : decode cX7_drum 33 = .ok (.aload_n 0, 1) := by decide +kernel
theorem dX7_drum_34 : decode cX7_drum 34 = .ok (.getfield 10, 3) := by decide +kernel
theorem dX7_drum_37 : decode cX7_drum 37 = .ok (.getfield 44, 3) := by decide +kernel
theorem dX7_drum_40 : decode cX7_drum 40 = .ok (.aload_n 0, 1) := by decide +kernel
theorem dX7_drum_41 : decode cX7_drum 41 = .ok (.getfield 10, 3) := by decide +kernel
theorem dX7_drum_44 : decode cX7_drum 44 = .ok (.getfield 41, 3) := by decide +kernel
theorem dX7_drum_47 : decode cX7_drum 47 = .ok (.aaload, 1) := by decide +kernel
theorem dX7_drum_48 : decode cX7_drum 48 = .ok (.iload_n 1, 1) := by decide +kernel
theorem dX7_drum_49 : decode cX7_drum 49 = .ok (.iload_n 2, 1) := by decide +kernel
theorem dX7_drum_50 : decode cX7_drum 50 = .ok (.invokevirtual 48, 3) := by decide +kernel
theorem dX7_drum_53 : decode cX7_drum 53 = .ok (.aload_n 0, 1) := by decide +kernel
theorem dX7_drum_54 : decode cX7_drum 54 = .ok (.getfield 10, 3) := by decide +kernel
theorem dX7_drum_57 : decode cX7_drum 57 = .ok (.dup, 1) := by decide +kernel
theorem dX7_drum_58 : decode cX7_drum 58 = .ok (.getfield 41, 3) := by decide +kernel
theorem dX7_drum_61 : decode cX7_drum 61 = .ok (.dup_x1, 1) := by decide +kernel
theorem dX7_drum_62 : decode cX7_drum 62 = .ok (.iconst 1, 1) := by decide +kernel
theorem dX7_drum_63 : decode cX7_drum 63 = .ok (.iadd, 1) := by decide +kernel
theorem dX7_drum_64 : decode cX7_drum 64 = .ok (.putfield 41, 3) := by decide +kernel
theorem dX7_drum_67 : decode cX7_drum 67 = .ok (.ireturn, 1) := by decide +kernel
set_option maxRecDepth 20000 in
theorem ggX7_smuggler_X7_checkNumber : GoodIn wsX7_smuggler wsX7_checkNumber := goodIn_ca (goodIn_r _ [7, 8, 9] (by decide +kernel) (by decide +kernel)) (goodIn_sub (fun _ h => List.mem_cons_of_mem _ (List.mem_append_left _ (List.mem_append_right _ h))) (by decide +kernel))
set_option maxRecDepth 20000 in
theorem gX7_smuggler_X7_checkNumber : GoodIn wsX7_smuggler (va_wsS RX7 19 yX7_checkNumber wsX7_checkNumber) := goodIn_app (goodIn_of _ (by decide +kernel)) ggX7_smuggler_X7_checkNumber
set_option maxRecDepth 20000 in
theorem ggX7_smuggler_X7_checkState : GoodIn wsX7_smuggler wsX7_checkState := goodIn_ca (goodIn_r _ [12, 13, 14] (by decide +kernel) (by decide +kernel)) (goodIn_sub (fun _ h => List.mem_cons_of_mem _ (List.mem_append_right _ h)) (by decide +kernel))
set_option maxRecDepth 20000 in
theorem gX7_smuggler_X7_checkState : GoodIn wsX7_smuggler (va_wsS RX7 27 yX7_checkState wsX7_checkState) := goodIn_app (goodIn_of _ (by decide +kernel)) ggX7_smuggler_X7_checkState
set_option maxRecDepth 20000 in
theorem ggX7_smuggler_X3_hire : GoodIn wsX7_smuggler wsX3_hire := goodIn_r _ [19, 20, 21, 35, 36, 37, 38, 39] (by decide +kernel) (by decide +kernel)
set_option maxRecDepth 20000 in
theorem gX7_smuggler_X3_hire : GoodIn wsX7_smuggler (wsV RX7 60 RX3 yX3_hire wsX3_hire) := goodIn_app (goodIn_of _ (by decide +kernel)) ggX7_smuggler_X3_hire
theorem dX7_smuggler_0 : decode cX7_smuggler 0 = .ok (.iload_n 1, 1) := by decide +kernel
theorem dX7_smuggler_1 : decode cX7_smuggler 1 = .ok (.iconst 2, 1) := by decide +kernel
theorem dX7_smuggler_2 : decode cX7_smuggler 2 = .ok (.bipush 14, 2) := by decide +kernel
theorem dX7_smuggler_4 : decode cX7_smuggler 4 = .ok (.invokestatic 19, 3) := by decide +kernel
theorem dX7_smuggler_7 : decode cX7_smuggler 7 = .ok (.iload_n 2, 1) := by decide +kernel
theorem dX7_smuggler_8 : decode cX7_smuggler 8 = .ok (.iconst 1, 1) := by decide +kernel
theorem dX7_smuggler_9 : decode cX7_smuggler 9 = .ok (.bipush 30, 2) := by decide +kernel
theorem dX7_smuggler_11 : decode cX7_smuggler 11 = .ok (.invokestatic 19, 3) := by decide +kernel
theorem dX7_smuggler_14 : decode cX7_smuggler 14 = .ok (.aload_n 0, 1) := by decide +kernel
theorem dX7_smuggler_15 : decode cX7_smuggler 15 = .ok (.getfield 10, 3) := by decide +kernel
theorem dX7_smuggler_18 : decode cX7_smuggler 18 = .ok (.getfield 53, 3) := by decide +kernel
theorem dX7_smuggler_21 : decode cX7_smuggler 21 = .ok (.iconst 4, 1) := by decide +kernel
theorem dX7_smuggler_22 : decode cX7_smuggler 22 = .ok (.if_icmp .ge 7, 3) := by decide +kernel
theorem dX7_smuggler_25 : decode cX7_smuggler 25 = .ok (.iconst 1, 1) := by decide +kernel
theorem dX7_smuggler_26 : decode cX7_smuggler 26 = .ok (.goto 4, 3) := by decide +kernel
theorem dX7_smuggler_29 : decode cX7_smuggler 29 = .ok (.iconst 0, 1) := by decide +kernel
theorem dX7_smuggler_30 : decode cX7_smuggler 30 = .ok (.invokestatic 27, 3) := by decide +kernel
theorem dX7_smuggler_33 : decode cX7_smuggler 33 = .ok (.aload_n 0, 1) := by decide +kernel
theorem dX7_smuggler_34 : decode cX7_smuggler 34 = .ok (.getfield 10, 3) := by decide +kernel
theorem dX7_smuggler_37 : decode cX7_smuggler 37 = .ok (.getfield 56, 3) := by decide +kernel
theorem dX7_smuggler_40 : decode cX7_smuggler 40 = .ok (.aload_n 0, 1) := by decide +kernel
theorem dX7_smuggler_41 : decode cX7_smuggler 41 = .ok (.getfield 10, 3) := by decide +kernel
theorem dX7_smuggler_44 : decode cX7_smuggler 44 = .ok (.getfield 53, 3) := by decide +kernel
theorem dX7_smuggler_47 : decode cX7_smuggler 47 = .ok (.aaload, 1) := by decide +kernel
theorem dX7_smuggler_48 : decode cX7_smuggler 48 = .ok (.iload_n 1, 1) := by decide +kernel
theorem dX7_smuggler_49 : decode cX7_smuggler 49 = .ok (.iload_n 2, 1) := by decide +kernel
theorem dX7_smuggler_50 : decode cX7_smuggler 50 = .ok (.invokevirtual 60, 3) := by decide +kernel
theorem dX7_smuggler_53 : decode cX7_smuggler 53 = .ok (.aload_n 0, 1) := by decide +kernel
theorem dX7_smuggler_54 : decode cX7_smuggler 54 = .ok (.getfield 10, 3) := by decide +kernel
theorem dX7_smuggler_57 : decode cX7_smuggler 57 = .ok (.dup, 1) := by decide +kernel
theorem dX7_smuggler_58 : decode cX7_smuggler 58 = .ok (.getfield 53, 3) := by decide +kernel
theorem dX7_smuggler_61 : decode cX7_smuggler 61 = .ok (.dup_x1, 1) := by decide +kernel
theorem dX7_smuggler_62 : decode cX7_smuggler 62 = .ok (.iconst 1, 1) := by decide +kernel
theorem dX7_smuggler_63 : decode cX7_smuggler 63 = .ok (.iadd, 1) := by decide +kernel
theorem dX7_smuggler_64 : decode cX7_smuggler 64 = .ok (.putfield 53, 3) := by decide +kernel
theorem dX7_smuggler_67 : decode cX7_smuggler 67 = .ok (.ireturn, 1) := by decide +kernel
set_option maxRecDepth 20000 in
theorem ggX7_card_X7_checkNumber : GoodIn wsX7_card wsX7_checkNumber := goodIn_ca (goodIn_r _ [7, 8, 9] (by decide +kernel) (by decide +kernel)) (goodIn_sub (fun _ h => List.mem_cons_of_mem _ (List.mem_append_left _ (List.mem_append_right _ h))) (by decide +kernel))
set_option maxRecDepth 20000 in
theorem gX7_card_X7_checkNumber : GoodIn wsX7_card (va_wsS RX7 19 yX7_checkNumber wsX7_checkNumber) := goodIn_app (goodIn_of _ (by decide +kernel)) ggX7_card_X7_checkNumber
set_option maxRecDepth 20000 in
theorem ggX7_card_X7_checkState : GoodIn wsX7_card wsX7_checkState := goodIn_ca (goodIn_r _ [12, 13, 14] (by decide +kernel) (by decide +kernel)) (goodIn_sub (fun _ h => List.mem_cons_of_mem _ (List.mem_append_right _ h)) (by decide +kernel))
set_option maxRecDepth 20000 in
theorem gX7_card_X7_checkState : GoodIn wsX7_card (va_wsS RX7 27 yX7_checkState wsX7_checkState) := goodIn_app (goodIn_of _ (by decide +kernel)) ggX7_card_X7_checkState
set_option maxRecDepth 20000 in
theorem ggX7_card_X1_issue : GoodIn wsX7_card wsX1_issue := goodIn_r _ [19, 20, 21, 22, 36, 37, 38, 39, 40] (by decide +kernel) (by decide +kernel)
set_option maxRecDepth 20000 in
theorem gX7_card_X1_issue : GoodIn wsX7_card (wsV RX7 72 RX1 yX1_issue wsX1_issue) := goodIn_app (goodIn_of _ (by decide +kernel)) ggX7_card_X1_issue
theorem dX7_card_0 : decode cX7_card 0 = .ok (.iload_n 1, 1) := by decide +kernel
theorem dX7_card_1 : decode cX7_card 1 = .ok (.iconst 1, 1) := by decide +kernel
theorem dX7_card_2 : decode cX7_card 2 = .ok (.bipush 9, 2) := by decide +kernel
theorem dX7_card_4 : decode cX7_card 4 = .ok (.invokestatic 19, 3) := by decide +kernel
theorem dX7_card_7 : decode cX7_card 7 = .ok (.iload_n 2, 1) := by decide +kernel
theorem dX7_card_8 : decode cX7_card 8 = .ok (.iconst 0, 1) := by decide +kernel
theorem dX7_card_9 : decode cX7_card 9 = .ok (.bipush 10, 2) := by decide +kernel
theorem dX7_card_11 : decode cX7_card 11 = .ok (.invokestatic 19, 3) := by decide +kernel
theorem dX7_card_14 : decode cX7_card 14 = .ok (.aload_n 0, 1) := by decide +kernel
theorem dX7_card_15 : decode cX7_card 15 = .ok (.getfield 10, 3) := by decide +kernel
theorem dX7_card_18 : decode cX7_card 18 = .ok (.getfield 65, 3) := by decide +kernel
theorem dX7_card_21 : decode cX7_card 21 = .ok (.bipush 10, 2) := by decide +kernel
theorem dX7_card_23 : decode cX7_card 23 = .ok (.if_icmp .ge 7, 3) := by decide +kernel
theorem dX7_card_26 : decode cX7_card 26 = .ok (.iconst 1, 1) := by decide +kernel
theorem dX7_card_27 : decode cX7_card 27 = .ok (.goto 4, 3) := by decide +kernel
theorem dX7_card_30 : decode cX7_card 30 = .ok (.iconst 0, 1) := by decide +kernel
theorem dX7_card_31 : decode cX7_card 31 = .ok (.invokestatic 27, 3) := by decide +kernel
theorem dX7_card_34 : decode cX7_card 34 = .ok (.aload_n 0, 1) := by decide +kernel
theorem dX7_card_35 : decode cX7_card 35 = .ok (.getfield 10, 3) := by decide +kernel
theorem dX7_card_38 : decode cX7_card 38 = .ok (.getfield 68, 3) := by decide +kernel
theorem dX7_card_41 : decode cX7_card 41 = .ok (.aload_n 0, 1) := by decide +kernel
theorem dX7_card_42 : decode cX7_card 42 = .ok (.getfield 10, 3) := by decide +kernel
theorem dX7_card_45 : decode cX7_card 45 = .ok (.getfield 65, 3) := by decide +kernel
theorem dX7_card_48 : decode cX7_card 48 = .ok (.aaload, 1) := by decide +kernel
theorem dX7_card_49 : decode cX7_card 49 = .ok (.iload_n 1, 1) := by decide +kernel
theorem dX7_card_50 : decode cX7_card 50 = .ok (.iload_n 2, 1) := by decide +kernel
theorem dX7_card_51 : decode cX7_card 51 = .ok (.invokevirtual 72, 3) := by decide +kernel
theorem dX7_card_54 : decode cX7_card 54 = .ok (.aload_n 0, 1) := by decide +kernel
theorem dX7_card_55 : decode cX7_card 55 = .ok (.getfield 10, 3) := by decide +kernel
theorem dX7_card_58 : decode cX7_card 58 = .ok (.dup, 1) := by decide +kernel
theorem dX7_card_59 : decode cX7_card 59 = .ok (.getfield 65, 3) := by decide +kernel
theorem dX7_card_62 : decode cX7_card 62 = .ok (.dup_x1, 1) := by decide +kernel
theorem dX7_card_63 : decode cX7_card 63 = .ok (.iconst 1, 1) := by decide +kernel
theorem dX7_card_64 : decode cX7_card 64 = .ok (.iadd, 1) := by decide +kernel
theorem dX7_card_65 : decode cX7_card 65 = .ok (.putfield 65, 3) := by decide +kernel
theorem dX7_card_68 : decode cX7_card 68 = .ok (.ireturn, 1) := by decide +kernel
set_option maxRecDepth 20000 in
theorem ggX7_setPatrol_X7_checkNumber : GoodIn wsX7_setPatrol wsX7_checkNumber := goodIn_ca (goodIn_r _ [6, 7, 8] (by decide +kernel) (by decide +kernel)) (goodIn_sub (fun _ h => List.mem_cons_of_mem _ (List.mem_append_right _ h)) (by decide +kernel))
set_option maxRecDepth 20000 in
theorem gX7_setPatrol_X7_checkNumber : GoodIn wsX7_setPatrol (va_wsS RX7 19 yX7_checkNumber wsX7_checkNumber) := goodIn_app (goodIn_of _ (by decide +kernel)) ggX7_setPatrol_X7_checkNumber
theorem dX7_setPatrol_0 : decode cX7_setPatrol 0 = .ok (.iload_n 1, 1) := by decide +kernel
theorem dX7_setPatrol_1 : decode cX7_setPatrol 1 = .ok (.iconst 0, 1) := by decide +kernel
theorem dX7_setPatrol_2 : decode cX7_setPatrol 2 = .ok (.bipush 127, 2) := by decide +kernel
theorem dX7_setPatrol_4 : decode cX7_setPatrol 4 = .ok (.invokestatic 19, 3) := by decide +kernel
theorem dX7_setPatrol_7 : decode cX7_setPatrol 7 = .ok (.aload_n 0, 1) := by decide +kernel
theorem dX7_setPatrol_8 : decode cX7_setPatrol 8 = .ok (.getfield 10, 3) := by decide +kernel
theorem dX7_setPatrol_11 : decode cX7_setPatrol 11 = .ok (.getfield 77, 3) := by decide +kernel
theorem dX7_setPatrol_14 : decode cX7_setPatrol 14 = .ok (.istore_n 2, 1) := by decide +kernel
theorem dX7_setPatrol_15 : decode cX7_setPatrol 15 = .ok (.aload_n 0, 1) := by decide +kernel
theorem dX7_setPatrol_16 : decode cX7_setPatrol 16 = .ok (.getfield 10, 3) := by decide +kernel
theorem dX7_setPatrol_19 : decode cX7_setPatrol 19 = .ok (.iload_n 1, 1) := by decide +kernel
theorem dX7_setPatrol_20 : decode cX7_setPatrol 20 = .ok (.putfield 77, 3) := by decide +kernel
theorem dX7_setPatrol_23 : decode cX7_setPatrol 23 = .ok (.iload_n 2, 1) := by decide +kernel
theorem dX7_setPatrol_24 : decode cX7_setPatrol 24 = .ok (.ireturn, 1) := by decide +kernel
set_option maxRecDepth 20000 in
theorem ggX7_setShare_X7_checkNumber : GoodIn wsX7_setShare wsX7_checkNumber := goodIn_ca (goodIn_r _ [7, 8, 9] (by decide +kernel) (by decide +kernel)) (goodIn_sub (fun _ h => List.mem_cons_of_mem _ (List.mem_append_right _ h)) (by decide +kernel))
set_option maxRecDepth 20000 in
theorem gX7_setShare_X7_checkNumber : GoodIn wsX7_setShare (va_wsS RX7 19 yX7_checkNumber wsX7_checkNumber) := goodIn_app (goodIn_of _ (by decide +kernel)) ggX7_setShare_X7_checkNumber
theorem dX7_setShare_0 : decode cX7_setShare 0 = .ok (.iload_n 1, 1) := by decide +kernel
theorem dX7_setShare_1 : decode cX7_setShare 1 = .ok (.iconst 0, 1) := by decide +kernel
theorem dX7_setShare_2 : decode cX7_setShare 2 = .ok (.bipush 10, 2) := by decide +kernel
theorem dX7_setShare_4 : decode cX7_setShare 4 = .ok (.invokestatic 19, 3) := by decide +kernel
theorem dX7_setShare_7 : decode cX7_setShare 7 = .ok (.aload_n 0, 1) := by decide +kernel
theorem dX7_setShare_8 : decode cX7_setShare 8 = .ok (.getfield 10, 3) := by decide +kernel
theorem dX7_setShare_11 : decode cX7_setShare 11 = .ok (.getfield 80, 3) := by decide +kernel
theorem dX7_setShare_14 : decode cX7_setShare 14 = .ok (.getfield 84, 3) := by decide +kernel
theorem dX7_setShare_17 : decode cX7_setShare 17 = .ok (.istore_n 2, 1) := by decide +kernel
theorem dX7_setShare_18 : decode cX7_setShare 18 = .ok (.aload_n 0, 1) := by decide +kernel
theorem dX7_setShare_19 : decode cX7_setShare 19 = .ok (.getfield 10, 3) := by decide +kernel
theorem dX7_setShare_22 : decode cX7_setShare 22 = .ok (.getfield 80, 3) := by decide +kernel
theorem dX7_setShare_25 : decode cX7_setShare 25 = .ok (.iload_n 1, 1) := by decide +kernel
theorem dX7_setShare_26 : decode cX7_setShare 26 = .ok (.putfield 84, 3) := by decide +kernel
