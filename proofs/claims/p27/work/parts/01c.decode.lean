set_option maxRecDepth 20000 in
theorem ggX0_init_X5_init : GoodIn wsX0_init wsX5_init := goodIn_r _ [3, 4, 5, 6] (by decide +kernel) (by decide +kernel)
set_option maxRecDepth 20000 in
theorem gX0_init_X5_init_n1 : GoodIn wsX0_init (wsX5_init) := ggX0_init_X5_init
theorem dX0_init_0 : decode cX0_init 0 = .ok (.aload_n 0, 1) := by decide +kernel
theorem dX0_init_1 : decode cX0_init 1 = .ok (.invokespecial 1, 3) := by decide +kernel
theorem dX0_init_4 : decode cX0_init 4 = .ok (.return_, 1) := by decide +kernel
theorem dX0_lay_0 : decode cX0_lay 0 = .ok (.aload_n 0, 1) := by decide +kernel
theorem dX0_lay_1 : decode cX0_lay 1 = .ok (.iload_n 1, 1) := by decide +kernel
theorem dX0_lay_2 : decode cX0_lay 2 = .ok (.putfield 7, 3) := by decide +kernel
theorem dX0_lay_5 : decode cX0_lay 5 = .ok (.aload_n 0, 1) := by decide +kernel
theorem dX0_lay_6 : decode cX0_lay 6 = .ok (.iload_n 2, 1) := by decide +kernel
theorem dX0_lay_7 : decode cX0_lay 7 = .ok (.putfield 13, 3) := by decide +kernel
theorem dX0_lay_10 : decode cX0_lay 10 = .ok (.return_, 1) := by decide +kernel
theorem dX0_grow_0 : decode cX0_grow 0 = .ok (.aload_n 0, 1) := by decide +kernel
theorem dX0_grow_1 : decode cX0_grow 1 = .ok (.aload_n 0, 1) := by decide +kernel
theorem dX0_grow_2 : decode cX0_grow 2 = .ok (.getfield 16, 3) := by decide +kernel
theorem dX0_grow_5 : decode cX0_grow 5 = .ok (.aload_n 0, 1) := by decide +kernel
theorem dX0_grow_6 : decode cX0_grow 6 = .ok (.getfield 7, 3) := by decide +kernel
theorem dX0_grow_9 : decode cX0_grow 9 = .ok (.iadd, 1) := by decide +kernel
theorem dX0_grow_10 : decode cX0_grow 10 = .ok (.aload_n 0, 1) := by decide +kernel
theorem dX0_grow_11 : decode cX0_grow 11 = .ok (.getfield 13, 3) := by decide +kernel
theorem dX0_grow_14 : decode cX0_grow 14 = .ok (.invokestatic 19, 3) := by decide +kernel
theorem dX0_grow_17 : decode cX0_grow 17 = .ok (.putfield 16, 3) := by decide +kernel
theorem dX0_grow_20 : decode cX0_grow 20 = .ok (.return_, 1) := by decide +kernel
theorem dX0_size_0 : decode cX0_size 0 = .ok (.iconst 3, 1) := by decide +kernel
theorem dX0_size_1 : decode cX0_size 1 = .ok (.ireturn, 1) := by decide +kernel
theorem dX0_tell_0 : decode cX0_tell 0 = .ok (.iload_n 1, 1) := by decide +kernel
theorem dX0_tell_1 : decode cX0_tell 1 = .ok (.lookupswitch 37 #[(0, 27), (1, 32)], 27) := by decide +kernel
theorem dX0_tell_28 : decode cX0_tell 28 = .ok (.aload_n 0, 1) := by decide +kernel
theorem dX0_tell_29 : decode cX0_tell 29 = .ok (.getfield 7, 3) := by decide +kernel
theorem dX0_tell_32 : decode cX0_tell 32 = .ok (.ireturn, 1) := by decide +kernel
theorem dX0_tell_33 : decode cX0_tell 33 = .ok (.aload_n 0, 1) := by decide +kernel
theorem dX0_tell_34 : decode cX0_tell 34 = .ok (.getfield 13, 3) := by decide +kernel
theorem dX0_tell_37 : decode cX0_tell 37 = .ok (.ireturn, 1) := by decide +kernel
theorem dX0_tell_38 : decode cX0_tell 38 = .ok (.aload_n 0, 1) := by decide +kernel
theorem dX0_tell_39 : decode cX0_tell 39 = .ok (.getfield 16, 3) := by decide +kernel
theorem dX0_tell_42 : decode cX0_tell 42 = .ok (.ireturn, 1) := by decide +kernel
set_option maxRecDepth 20000 in
theorem ggX1_init_X5_init : GoodIn wsX1_init wsX5_init := goodIn_r _ [3, 4, 5, 6] (by decide +kernel) (by decide +kernel)
set_option maxRecDepth 20000 in
theorem gX1_init_X5_init_n3 : GoodIn wsX1_init (wsX5_init) := ggX1_init_X5_init
theorem dX1_init_0 : decode cX1_init 0 = .ok (.aload_n 0, 1) := by decide +kernel
theorem dX1_init_1 : decode cX1_init 1 = .ok (.invokespecial 3, 3) := by decide +kernel
theorem dX1_init_4 : decode cX1_init 4 = .ok (.return_, 1) := by decide +kernel
theorem dX1_issue_0 : decode cX1_issue 0 = .ok (.aload_n 0, 1) := by decide +kernel
theorem dX1_issue_1 : decode cX1_issue 1 = .ok (.iload_n 1, 1) := by decide +kernel
theorem dX1_issue_2 : decode cX1_issue 2 = .ok (.putfield 9, 3) := by decide +kernel
theorem dX1_issue_5 : decode cX1_issue 5 = .ok (.aload_n 0, 1) := by decide +kernel
theorem dX1_issue_6 : decode cX1_issue 6 = .ok (.iload_n 2, 1) := by decide +kernel
theorem dX1_issue_7 : decode cX1_issue 7 = .ok (.putfield 15, 3) := by decide +kernel
theorem dX1_issue_10 : decode cX1_issue 10 = .ok (.aload_n 0, 1) := by decide +kernel
theorem dX1_issue_11 : decode cX1_issue 11 = .ok (.iload_n 1, 1) := by decide +kernel
theorem dX1_issue_12 : decode cX1_issue 12 = .ok (.putfield 18, 3) := by decide +kernel
theorem dX1_issue_15 : decode cX1_issue 15 = .ok (.return_, 1) := by decide +kernel
theorem dX1_renew_0 : decode cX1_renew 0 = .ok (.aload_n 0, 1) := by decide +kernel
theorem dX1_renew_1 : decode cX1_renew 1 = .ok (.aload_n 0, 1) := by decide +kernel
theorem dX1_renew_2 : decode cX1_renew 2 = .ok (.getfield 9, 3) := by decide +kernel
theorem dX1_renew_5 : decode cX1_renew 5 = .ok (.putfield 18, 3) := by decide +kernel
theorem dX1_renew_8 : decode cX1_renew 8 = .ok (.return_, 1) := by decide +kernel
set_option maxRecDepth 20000 in
theorem ggX1_serveDay_X1_serveOne : GoodIn wsX1_serveDay wsX1_serveOne := goodIn_r _ [5, 6, 7, 8, 9, 10, 11, 12, 13, 14, 15, 16, 17, 18, 19, 20, 21, 22, 23, 24, 25, 26, 27, 28, 29, 30, 31, 32, 33, 34, 35, 36, 37, 38, 39, 40, 41, 42, 43] (by decide +kernel) (by decide +kernel)
set_option maxRecDepth 20000 in
theorem gX1_serveDay_X1_serveOne : GoodIn wsX1_serveDay (wsV RX1 21 RX1 yX1_serveOne wsX1_serveOne) := goodIn_app (goodIn_of _ (by decide +kernel)) ggX1_serveDay_X1_serveOne
theorem dX1_serveDay_0 : decode cX1_serveDay 0 = .ok (.iconst 0, 1) := by decide +kernel
theorem dX1_serveDay_1 : decode cX1_serveDay 1 = .ok (.istore_n 2, 1) := by decide +kernel
theorem dX1_serveDay_2 : decode cX1_serveDay 2 = .ok (.iload_n 2, 1) := by decide +kernel
theorem dX1_serveDay_3 : decode cX1_serveDay 3 = .ok (.iconst 2, 1) := by decide +kernel
theorem dX1_serveDay_4 : decode cX1_serveDay 4 = .ok (.if_icmp .ge 17, 3) := by decide +kernel
theorem dX1_serveDay_7 : decode cX1_serveDay 7 = .ok (.aload_n 0, 1) := by decide +kernel
theorem dX1_serveDay_8 : decode cX1_serveDay 8 = .ok (.aload_n 1, 1) := by decide +kernel
theorem dX1_serveDay_9 : decode cX1_serveDay 9 = .ok (.invokevirtual 21, 3) := by decide +kernel
theorem dX1_serveDay_12 : decode cX1_serveDay 12 = .ok (.ifCond .eq 9, 3) := by decide +kernel
theorem dX1_serveDay_15 : decode cX1_serveDay 15 = .ok (.iinc 2 1, 3) := by decide +kernel
theorem dX1_serveDay_18 : decode cX1_serveDay 18 = .ok (.goto (-16), 3) := by decide +kernel
theorem dX1_serveDay_21 : decode cX1_serveDay 21 = .ok (.iload_n 2, 1) := by decide +kernel
theorem dX1_serveDay_22 : decode cX1_serveDay 22 = .ok (.ireturn, 1) := by decide +kernel
set_option maxRecDepth 20000 in
theorem ggX1_serveOne_X4_coffeeOfPortion : GoodIn wsX1_serveOne wsX4_coffeeOfPortion := goodIn_r _ [9, 10, 11, 12, 13, 14, 15, 32, 33, 34, 35, 36, 37, 38] (by decide +kernel) (by decide +kernel)
set_option maxRecDepth 20000 in
theorem gX1_serveOne_X4_coffeeOfPortion : GoodIn wsX1_serveOne (wsV RX1 25 RX4 yX4_coffeeOfPortion wsX4_coffeeOfPortion) := goodIn_app (goodIn_of _ (by decide +kernel)) ggX1_serveOne_X4_coffeeOfPortion
set_option maxRecDepth 20000 in
theorem ggX1_serveOne_X4_canMix : GoodIn wsX1_serveOne wsX4_canMix := goodIn_r _ [19, 20, 32, 33, 34, 35, 36, 37, 38] (by decide +kernel) (by decide +kernel)
set_option maxRecDepth 20000 in
theorem gX1_serveOne_X4_canMix : GoodIn wsX1_serveOne (wsV RX1 31 RX4 yX4_canMix wsX4_canMix) := goodIn_app (goodIn_of _ (by decide +kernel)) ggX1_serveOne_X4_canMix
set_option maxRecDepth 20000 in
theorem ggX1_serveOne_X4_servePortion : GoodIn wsX1_serveOne wsX4_servePortion := goodIn_r _ [24, 10, 25, 11, 20, 26, 32, 33, 34, 35, 36, 37, 38] (by decide +kernel) (by decide +kernel)
set_option maxRecDepth 20000 in
theorem gX1_serveOne_X4_servePortion : GoodIn wsX1_serveOne (wsV RX1 38 RX4 yX4_servePortion wsX4_servePortion) := goodIn_app (goodIn_of _ (by decide +kernel)) ggX1_serveOne_X4_servePortion
theorem dX1_serveOne_0 : decode cX1_serveOne 0 = .ok (.aload_n 1, 1) := by decide +kernel
theorem dX1_serveOne_1 : decode cX1_serveOne 1 = .ok (.invokevirtual 25, 3) := by decide +kernel
theorem dX1_serveOne_4 : decode cX1_serveOne 4 = .ok (.istore_n 2, 1) := by decide +kernel
theorem dX1_serveOne_5 : decode cX1_serveOne 5 = .ok (.aload_n 0, 1) := by decide +kernel
theorem dX1_serveOne_6 : decode cX1_serveOne 6 = .ok (.getfield 18, 3) := by decide +kernel
theorem dX1_serveOne_9 : decode cX1_serveOne 9 = .ok (.ifCond .eq 11, 3) := by decide +kernel
theorem dX1_serveOne_12 : decode cX1_serveOne 12 = .ok (.aload_n 1, 1) := by decide +kernel
theorem dX1_serveOne_13 : decode cX1_serveOne 13 = .ok (.iload_n 2, 1) := by decide +kernel
theorem dX1_serveOne_14 : decode cX1_serveOne 14 = .ok (.invokevirtual 31, 3) := by decide +kernel
theorem dX1_serveOne_17 : decode cX1_serveOne 17 = .ok (.ifCond .ne 5, 3) := by decide +kernel
theorem dX1_serveOne_20 : decode cX1_serveOne 20 = .ok (.iconst 0, 1) := by decide +kernel
theorem dX1_serveOne_21 : decode cX1_serveOne 21 = .ok (.ireturn, 1) := by decide +kernel
theorem dX1_serveOne_22 : decode cX1_serveOne 22 = .ok (.iload_n 2, 1) := by decide +kernel
theorem dX1_serveOne_23 : decode cX1_serveOne 23 = .ok (.aload_n 0, 1) := by decide +kernel
theorem dX1_serveOne_24 : decode cX1_serveOne 24 = .ok (.getfield 15, 3) := by decide +kernel
theorem dX1_serveOne_27 : decode cX1_serveOne 27 = .ok (.if_icmp .ge 15, 3) := by decide +kernel
theorem dX1_serveOne_30 : decode cX1_serveOne 30 = .ok (.aload_n 0, 1) := by decide +kernel
theorem dX1_serveOne_31 : decode cX1_serveOne 31 = .ok (.dup, 1) := by decide +kernel
theorem dX1_serveOne_32 : decode cX1_serveOne 32 = .ok (.getfield 35, 3) := by decide +kernel
theorem dX1_serveOne_35 : decode cX1_serveOne 35 = .ok (.iconst 1, 1) := by decide +kernel
theorem dX1_serveOne_36 : decode cX1_serveOne 36 = .ok (.iadd, 1) := by decide +kernel
theorem dX1_serveOne_37 : decode cX1_serveOne 37 = .ok (.putfield 35, 3) := by decide +kernel
theorem dX1_serveOne_40 : decode cX1_serveOne 40 = .ok (.iconst 0, 1) := by decide +kernel
theorem dX1_serveOne_41 : decode cX1_serveOne 41 = .ok (.ireturn, 1) := by decide +kernel
theorem dX1_serveOne_42 : decode cX1_serveOne 42 = .ok (.aload_n 1, 1) := by decide +kernel
theorem dX1_serveOne_43 : decode cX1_serveOne 43 = .ok (.iload_n 2, 1) := by decide +kernel
theorem dX1_serveOne_44 : decode cX1_serveOne 44 = .ok (.invokevirtual 38, 3) := by decide +kernel
theorem dX1_serveOne_47 : decode cX1_serveOne 47 = .ok (.aload_n 0, 1) := by decide +kernel
theorem dX1_serveOne_48 : decode cX1_serveOne 48 = .ok (.dup, 1) := by decide +kernel
theorem dX1_serveOne_49 : decode cX1_serveOne 49 = .ok (.getfield 18, 3) := by decide +kernel
theorem dX1_serveOne_52 : decode cX1_serveOne 52 = .ok (.iconst 1, 1) := by decide +kernel
theorem dX1_serveOne_53 : decode cX1_serveOne 53 = .ok (.isub, 1) := by decide +kernel
theorem dX1_serveOne_54 : decode cX1_serveOne 54 = .ok (.putfield 18, 3) := by decide +kernel
theorem dX1_serveOne_57 : decode cX1_serveOne 57 = .ok (.aload_n 0, 1) := by decide +kernel
theorem dX1_serveOne_58 : decode cX1_serveOne 58 = .ok (.dup, 1) := by decide +kernel
theorem dX1_serveOne_59 : decode cX1_serveOne 59 = .ok (.getfield 42, 3) := by decide +kernel
theorem dX1_serveOne_62 : decode cX1_serveOne 62 = .ok (.iconst 1, 1) := by decide +kernel
theorem dX1_serveOne_63 : decode cX1_serveOne 63 = .ok (.iadd, 1) := by decide +kernel
theorem dX1_serveOne_64 : decode cX1_serveOne 64 = .ok (.putfield 42, 3) := by decide +kernel
theorem dX1_serveOne_67 : decode cX1_serveOne 67 = .ok (.iconst 1, 1) := by decide +kernel
theorem dX1_serveOne_68 : decode cX1_serveOne 68 = .ok (.ireturn, 1) := by decide +kernel
theorem dX1_size_0 : decode cX1_size 0 = .ok (.iconst 5, 1) := by decide +kernel
theorem dX1_size_1 : decode cX1_size 1 = .ok (.ireturn, 1) := by decide +kernel
theorem dX1_tell_0 : decode cX1_tell 0 = .ok (.iload_n 1, 1) := by decide +kernel
theorem dX1_tell_1 : decode cX1_tell 1 = .ok (.tableswitch 51 0 3 #[31, 36, 41, 46], 31) := by decide +kernel
theorem dX1_tell_32 : decode cX1_tell 32 = .ok (.aload_n 0, 1) := by decide +kernel
theorem dX1_tell_33 : decode cX1_tell 33 = .ok (.getfield 9, 3) := by decide +kernel
theorem dX1_tell_36 : decode cX1_tell 36 = .ok (.ireturn, 1) := by decide +kernel
theorem dX1_tell_37 : decode cX1_tell 37 = .ok (.aload_n 0, 1) := by decide +kernel
theorem dX1_tell_38 : decode cX1_tell 38 = .ok (.getfield 15, 3) := by decide +kernel
theorem dX1_tell_41 : decode cX1_tell 41 = .ok (.ireturn, 1) := by decide +kernel
theorem dX1_tell_42 : decode cX1_tell 42 = .ok (.aload_n 0, 1) := by decide +kernel
theorem dX1_tell_43 : decode cX1_tell 43 = .ok (.getfield 18, 3) := by decide +kernel
theorem dX1_tell_46 : decode cX1_tell 46 = .ok (.ireturn, 1) := by decide +kernel
theorem dX1_tell_47 : decode cX1_tell 47 = .ok (.aload_n 0, 1) := by decide +kernel
theorem dX1_tell_48 : decode cX1_tell 48 = .ok (.getfield 42, 3) := by decide +kernel
theorem dX1_tell_51 : decode cX1_tell 51 = .ok (.ireturn, 1) := by decide +kernel
theorem dX1_tell_52 : decode cX1_tell 52 = .ok (.aload_n 0, 1) := by decide +kernel
theorem dX1_tell_53 : decode cX1_tell 53 = .ok (.getfield 35, 3) := by decide +kernel
theorem dX1_tell_56 : decode cX1_tell 56 = .ok (.ireturn, 1) := by decide +kernel
set_option maxRecDepth 20000 in
theorem ggX2_init_X5_init : GoodIn wsX2_init wsX5_init := goodIn_r _ [4, 5, 6, 7] (by decide +kernel) (by decide +kernel)
set_option maxRecDepth 20000 in
theorem gX2_init_X5_init_n3 : GoodIn wsX2_init (wsX5_init) := ggX2_init_X5_init
theorem dX2_init_0 : decode cX2_init 0 = .ok (.aload_n 0, 1) := by decide +kernel
theorem dX2_init_1 : decode cX2_init 1 = .ok (.invokespecial 3, 3) := by decide +kernel
theorem dX2_init_4 : decode cX2_init 4 = .ok (.aload_n 0, 1) := by decide +kernel
theorem dX2_init_5 : decode cX2_init 5 = .ok (.iconst (-1), 1) := by decide +kernel
theorem dX2_init_6 : decode cX2_init 6 = .ok (.putfield 9, 3) := by decide +kernel
theorem dX2_init_9 : decode cX2_init 9 = .ok (.return_, 1) := by decide +kernel
theorem dX2_install_0 : decode cX2_install 0 = .ok (.aload_n 0, 1) := by decide +kernel
theorem dX2_install_1 : decode cX2_install 1 = .ok (.iload_n 1, 1) := by decide +kernel
theorem dX2_install_2 : decode cX2_install 2 = .ok (.putfield 15, 3) := by decide +kernel
theorem dX2_install_5 : decode cX2_install 5 = .ok (.aload_n 0, 1) := by decide +kernel
theorem dX2_install_6 : decode cX2_install 6 = .ok (.iload_n 2, 1) := by decide +kernel
theorem dX2_install_7 : decode cX2_install 7 = .ok (.putfield 18, 3) := by decide +kernel
theorem dX2_install_10 : decode cX2_install 10 = .ok (.return_, 1) := by decide +kernel
theorem dX2_fill_0 : decode cX2_fill 0 = .ok (.aload_n 0, 1) := by decide +kernel
theorem dX2_fill_1 : decode cX2_fill 1 = .ok (.iload_n 1, 1) := by decide +kernel
theorem dX2_fill_2 : decode cX2_fill 2 = .ok (.putfield 9, 3) := by decide +kernel
theorem dX2_fill_5 : decode cX2_fill 5 = .ok (.aload_n 0, 1) := by decide +kernel
theorem dX2_fill_6 : decode cX2_fill 6 = .ok (.iload_n 2, 1) := by decide +kernel
theorem dX2_fill_7 : decode cX2_fill 7 = .ok (.putfield 21, 3) := by decide +kernel
theorem dX2_fill_10 : decode cX2_fill 10 = .ok (.aload_n 0, 1) := by decide +kernel
theorem dX2_fill_11 : decode cX2_fill 11 = .ok (.iconst 0, 1) := by decide +kernel
theorem dX2_fill_12 : decode cX2_fill 12 = .ok (.putfield 24, 3) := by decide +kernel
theorem dX2_fill_15 : decode cX2_fill 15 = .ok (.return_, 1) := by decide +kernel
set_option maxRecDepth 20000 in
theorem ggX2_warm_X2_levelAfter : GoodIn wsX2_warm wsX2_levelAfter := goodIn_r _ [6, 7, 8, 9, 10, 11, 12, 13, 14, 15, 5, 16, 17, 18, 19, 20, 21] (by decide +kernel) (by decide +kernel)
set_option maxRecDepth 20000 in
theorem gX2_warm_X2_levelAfter : GoodIn wsX2_warm (wsV RX2 27 RX2 yX2_levelAfter wsX2_levelAfter) := goodIn_app (goodIn_of _ (by decide +kernel)) ggX2_warm_X2_levelAfter
theorem dX2_warm_0 : decode cX2_warm 0 = .ok (.aload_n 0, 1) := by decide +kernel
theorem dX2_warm_1 : decode cX2_warm 1 = .ok (.aload_n 0, 1) := by decide +kernel
theorem dX2_warm_2 : decode cX2_warm 2 = .ok (.aload_n 0, 1) := by decide +kernel
theorem dX2_warm_3 : decode cX2_warm 3 = .ok (.getfield 24, 3) := by decide +kernel
theorem dX2_warm_6 : decode cX2_warm 6 = .ok (.invokevirtual 27, 3) := by decide +kernel
theorem dX2_warm_9 : decode cX2_warm 9 = .ok (.putfield 24, 3) := by decide +kernel
theorem dX2_warm_12 : decode cX2_warm 12 = .ok (.return_, 1) := by decide +kernel
set_option maxRecDepth 20000 in
theorem ggX2_levelAfter_X2_burnt : GoodIn wsX2_levelAfter wsX2_burnt := goodIn_r _ [11, 1, 12, 13, 14, 15, 16] (by decide +kernel) (by decide +kernel)
set_option maxRecDepth 20000 in
theorem gX2_levelAfter_X2_burnt : GoodIn wsX2_levelAfter (wsV RX2 31 RX2 yX2_burnt wsX2_burnt) := goodIn_app (goodIn_of _ (by decide +kernel)) ggX2_levelAfter_X2_burnt
theorem dX2_levelAfter_0 : decode cX2_levelAfter 0 = .ok (.aload_n 0, 1) := by decide +kernel
theorem dX2_levelAfter_1 : decode cX2_levelAfter 1 = .ok (.getfield 9, 3) := by decide +kernel
theorem dX2_levelAfter_4 : decode cX2_levelAfter 4 = .ok (.iconst (-1), 1) := by decide +kernel
theorem dX2_levelAfter_5 : decode cX2_levelAfter 5 = .ok (.if_icmp .ne 5, 3) := by decide +kernel
theorem dX2_levelAfter_8 : decode cX2_levelAfter 8 = .ok (.iconst 0, 1) := by decide +kernel
theorem dX2_levelAfter_9 : decode cX2_levelAfter 9 = .ok (.ireturn, 1) := by decide +kernel
theorem dX2_levelAfter_10 : decode cX2_levelAfter 10 = .ok (.iload_n 1, 1) := by decide +kernel
theorem dX2_levelAfter_11 : decode cX2_levelAfter 11 = .ok (.aload_n 0, 1) := by decide +kernel
theorem dX2_levelAfter_12 : decode cX2_levelAfter 12 = .ok (.getfield 18, 3) := by decide +kernel
theorem dX2_levelAfter_15 : decode cX2_levelAfter 15 = .ok (.iadd, 1) := by decide +kernel
theorem dX2_levelAfter_16 : decode cX2_levelAfter 16 = .ok (.aload_n 0, 1) := by decide +kernel
theorem dX2_levelAfter_17 : decode cX2_levelAfter 17 = .ok (.invokevirtual 31, 3) := by decide +kernel
theorem dX2_levelAfter_20 : decode cX2_levelAfter 20 = .ok (.invokestatic 35, 3) := by decide +kernel
theorem dX2_levelAfter_23 : decode cX2_levelAfter 23 = .ok (.ireturn, 1) := by decide +kernel
set_option maxRecDepth 20000 in
theorem ggX2_partsAt_X2_done : GoodIn wsX2_partsAt wsX2_done := goodIn_r _ [7, 1, 12, 13, 14, 15, 16] (by decide +kernel) (by decide +kernel)
set_option maxRecDepth 20000 in
theorem gX2_partsAt_X2_done : GoodIn wsX2_partsAt (wsV RX2 41 RX2 yX2_done wsX2_done) := goodIn_app (goodIn_of _ (by decide +kernel)) ggX2_partsAt_X2_done
set_option maxRecDepth 20000 in
theorem ggX2_partsAt_X2_burnt : GoodIn wsX2_partsAt wsX2_burnt := goodIn_r _ [11, 1, 12, 13, 14, 15, 16] (by decide +kernel) (by decide +kernel)
set_option maxRecDepth 20000 in
theorem gX2_partsAt_X2_burnt : GoodIn wsX2_partsAt (wsV RX2 31 RX2 yX2_burnt wsX2_burnt) := goodIn_app (goodIn_of _ (by decide +kernel)) ggX2_partsAt_X2_burnt
theorem dX2_partsAt_0 : decode cX2_partsAt 0 = .ok (.aload_n 0, 1) := by decide +kernel
theorem dX2_partsAt_1 : decode cX2_partsAt 1 = .ok (.getfield 9, 3) := by decide +kernel
theorem dX2_partsAt_4 : decode cX2_partsAt 4 = .ok (.iconst (-1), 1) := by decide +kernel
theorem dX2_partsAt_5 : decode cX2_partsAt 5 = .ok (.if_icmp .eq 19, 3) := by decide +kernel
theorem dX2_partsAt_8 : decode cX2_partsAt 8 = .ok (.iload_n 1, 1) := by decide +kernel
theorem dX2_partsAt_9 : decode cX2_partsAt 9 = .ok (.aload_n 0, 1) := by decide +kernel
theorem dX2_partsAt_10 : decode cX2_partsAt 10 = .ok (.invokevirtual 41, 3) := by decide +kernel
theorem dX2_partsAt_13 : decode cX2_partsAt 13 = .ok (.if_icmp .lt 11, 3) := by decide +kernel
theorem dX2_partsAt_16 : decode cX2_partsAt 16 = .ok (.iload_n 1, 1) := by decide +kernel
theorem dX2_partsAt_17 : decode cX2_partsAt 17 = .ok (.aload_n 0, 1) := by decide +kernel
theorem dX2_partsAt_18 : decode cX2_partsAt 18 = .ok (.invokevirtual 31, 3) := by decide +kernel
theorem dX2_partsAt_21 : decode cX2_partsAt 21 = .ok (.if_icmp .lt 5, 3) := by decide +kernel
theorem dX2_partsAt_24 : decode cX2_partsAt 24 = .ok (.iconst 0, 1) := by decide +kernel
theorem dX2_partsAt_25 : decode cX2_partsAt 25 = .ok (.ireturn, 1) := by decide +kernel
theorem dX2_partsAt_26 : decode cX2_partsAt 26 = .ok (.aload_n 0, 1) := by decide +kernel
theorem dX2_partsAt_27 : decode cX2_partsAt 27 = .ok (.getfield 9, 3) := by decide +kernel
theorem dX2_partsAt_30 : decode cX2_partsAt 30 = .ok (.ifCond .ne 8, 3) := by decide +kernel
theorem dX2_partsAt_33 : decode cX2_partsAt 33 = .ok (.bipush 6, 2) := by decide +kernel
theorem dX2_partsAt_35 : decode cX2_partsAt 35 = .ok (.goto 5, 3) := by decide +kernel
theorem dX2_partsAt_38 : decode cX2_partsAt 38 = .ok (.bipush 8, 2) := by decide +kernel
theorem dX2_partsAt_40 : decode cX2_partsAt 40 = .ok (.istore_n 2, 1) := by decide +kernel
theorem dX2_partsAt_41 : decode cX2_partsAt 41 = .ok (.aload_n 0, 1) := by decide +kernel
theorem dX2_partsAt_42 : decode cX2_partsAt 42 = .ok (.getfield 21, 3) := by decide +kernel
theorem dX2_partsAt_45 : decode cX2_partsAt 45 = .ok (.iload_n 2, 1) := by decide +kernel
theorem dX2_partsAt_46 : decode cX2_partsAt 46 = .ok (.imul, 1) := by decide +kernel
theorem dX2_partsAt_47 : decode cX2_partsAt 47 = .ok (.aload_n 0, 1) := by decide +kernel
theorem dX2_partsAt_48 : decode cX2_partsAt 48 = .ok (.invokevirtual 31, 3) := by decide +kernel
theorem dX2_partsAt_51 : decode cX2_partsAt 51 = .ok (.iload_n 1, 1) := by decide +kernel
theorem dX2_partsAt_52 : decode cX2_partsAt 52 = .ok (.isub, 1) := by decide +kernel
theorem dX2_partsAt_53 : decode cX2_partsAt 53 = .ok (.imul, 1) := by decide +kernel
theorem dX2_partsAt_54 : decode cX2_partsAt 54 = .ok (.aload_n 0, 1) := by decide +kernel
theorem dX2_partsAt_55 : decode cX2_partsAt 55 = .ok (.invokevirtual 31, 3) := by decide +kernel
theorem dX2_partsAt_58 : decode cX2_partsAt 58 = .ok (.aload_n 0, 1) := by decide +kernel
theorem dX2_partsAt_59 : decode cX2_partsAt 59 = .ok (.invokevirtual 41, 3) := by decide +kernel
theorem dX2_partsAt_62 : decode cX2_partsAt 62 = .ok (.isub, 1) := by decide +kernel
theorem dX2_partsAt_63 : decode cX2_partsAt 63 = .ok (.idiv, 1) := by decide +kernel
theorem dX2_partsAt_64 : decode cX2_partsAt 64 = .ok (.ireturn, 1) := by decide +kernel
theorem dX2_done_0 : decode cX2_done 0 = .ok (.aload_n 0, 1) := by decide +kernel
theorem dX2_done_1 : decode cX2_done 1 = .ok (.getfield 9, 3) := by decide +kernel
theorem dX2_done_4 : decode cX2_done 4 = .ok (.ifCond .ne 8, 3) := by decide +kernel
theorem dX2_done_7 : decode cX2_done 7 = .ok (.bipush 12, 2) := by decide +kernel
theorem dX2_done_9 : decode cX2_done 9 = .ok (.goto 5, 3) := by decide +kernel
theorem dX2_done_12 : decode cX2_done 12 = .ok (.bipush 8, 2) := by decide +kernel
theorem dX2_done_14 : decode cX2_done 14 = .ok (.ireturn, 1) := by decide +kernel
theorem dX2_burnt_0 : decode cX2_burnt 0 = .ok (.aload_n 0, 1) := by decide +kernel
theorem dX2_burnt_1 : decode cX2_burnt 1 = .ok (.getfield 9, 3) := by decide +kernel
theorem dX2_burnt_4 : decode cX2_burnt 4 = .ok (.ifCond .ne 8, 3) := by decide +kernel
theorem dX2_burnt_7 : decode cX2_burnt 7 = .ok (.bipush 24, 2) := by decide +kernel
theorem dX2_burnt_9 : decode cX2_burnt 9 = .ok (.goto 5, 3) := by decide +kernel
theorem dX2_burnt_12 : decode cX2_burnt 12 = .ok (.bipush 15, 2) := by decide +kernel
theorem dX2_burnt_14 : decode cX2_burnt 14 = .ok (.ireturn, 1) := by decide +kernel
theorem dX2_size_0 : decode cX2_size 0 = .ok (.bipush 6, 2) := by decide +kernel
theorem dX2_size_2 : decode cX2_size 2 = .ok (.ireturn, 1) := by decide +kernel
set_option maxRecDepth 20000 in
theorem ggX2_tell_X2_partsAt : GoodIn wsX2_tell wsX2_partsAt := goodIn_r _ [10, 3, 4, 11, 12, 13, 9, 14, 15, 16, 17, 18, 19, 20, 21, 22, 23] (by decide +kernel) (by decide +kernel)
set_option maxRecDepth 20000 in
theorem gX2_tell_X2_partsAt : GoodIn wsX2_tell (wsV RX2 44 RX2 yX2_partsAt wsX2_partsAt) := goodIn_app (goodIn_of _ (by decide +kernel)) ggX2_tell_X2_partsAt
theorem dX2_tell_0 : decode cX2_tell 0 = .ok (.iload_n 1, 1) := by decide +kernel
theorem dX2_tell_1 : decode cX2_tell 1 = .ok (.tableswitch 60 0 4 #[35, 40, 45, 50, 55], 35) := by decide +kernel
theorem dX2_tell_36 : decode cX2_tell 36 = .ok (.aload_n 0, 1) := by decide +kernel
theorem dX2_tell_37 : decode cX2_tell 37 = .ok (.getfield 15, 3) := by decide +kernel
theorem dX2_tell_40 : decode cX2_tell 40 = .ok (.ireturn, 1) := by decide +kernel
theorem dX2_tell_41 : decode cX2_tell 41 = .ok (.aload_n 0, 1) := by decide +kernel
theorem dX2_tell_42 : decode cX2_tell 42 = .ok (.getfield 18, 3) := by decide +kernel
theorem dX2_tell_45 : decode cX2_tell 45 = .ok (.ireturn, 1) := by decide +kernel
theorem dX2_tell_46 : decode cX2_tell 46 = .ok (.aload_n 0, 1) := by decide +kernel
theorem dX2_tell_47 : decode cX2_tell 47 = .ok (.getfield 9, 3) := by decide +kernel
theorem dX2_tell_50 : decode cX2_tell 50 = .ok (.ireturn, 1) := by decide +kernel
theorem dX2_tell_51 : decode cX2_tell 51 = .ok (.aload_n 0, 1) := by decide +kernel
theorem dX2_tell_52 : decode cX2_tell 52 = .ok (.getfield 21, 3) := by decide +kernel
theorem dX2_tell_55 : decode cX2_tell 55 = .ok (.ireturn, 1) := by decide +kernel
theorem dX2_tell_56 : decode cX2_tell 56 = .ok (.aload_n 0, 1) := by decide +kernel
theorem dX2_tell_57 : decode cX2_tell 57 = .ok (.getfield 24, 3) := by decide +kernel
theorem dX2_tell_60 : decode cX2_tell 60 = .ok (.ireturn, 1) := by decide +kernel
theorem dX2_tell_61 : decode cX2_tell 61 = .ok (.aload_n 0, 1) := by decide +kernel
theorem dX2_tell_62 : decode cX2_tell 62 = .ok (.aload_n 0, 1) := by decide +kernel
theorem dX2_tell_63 : decode cX2_tell 63 = .ok (.getfield 24, 3) := by decide +kernel
theorem dX2_tell_66 : decode cX2_tell 66 = .ok (.invokevirtual 44, 3) := by decide +kernel
theorem dX2_tell_69 : decode cX2_tell 69 = .ok (.ireturn, 1) := by decide +kernel
set_option maxRecDepth 20000 in
theorem ggX3_init_X5_init : GoodIn wsX3_init wsX5_init := goodIn_r _ [3, 4, 5, 6] (by decide +kernel) (by decide +kernel)
set_option maxRecDepth 20000 in
theorem gX3_init_X5_init_n3 : GoodIn wsX3_init (wsX5_init) := ggX3_init_X5_init
theorem dX3_init_0 : decode cX3_init 0 = .ok (.aload_n 0, 1) := by decide +kernel
theorem dX3_init_1 : decode cX3_init 1 = .ok (.invokespecial 3, 3) := by decide +kernel
theorem dX3_init_4 : decode cX3_init 4 = .ok (.return_, 1) := by decide +kernel
theorem dX3_hire_0 : decode cX3_hire 0 = .ok (.aload_n 0, 1) := by decide +kernel
theorem dX3_hire_1 : decode cX3_hire 1 = .ok (.iload_n 1, 1) := by decide +kernel
theorem dX3_hire_2 : decode cX3_hire 2 = .ok (.putfield 9, 3) := by decide +kernel
theorem dX3_hire_5 : decode cX3_hire 5 = .ok (.aload_n 0, 1) := by decide +kernel
theorem dX3_hire_6 : decode cX3_hire 6 = .ok (.iload_n 2, 1) := by decide +kernel
theorem dX3_hire_7 : decode cX3_hire 7 = .ok (.putfield 15, 3) := by decide +kernel
theorem dX3_hire_10 : decode cX3_hire 10 = .ok (.return_, 1) := by decide +kernel
theorem dX3_setOut_0 : decode cX3_setOut 0 = .ok (.aload_n 0, 1) := by decide +kernel
theorem dX3_setOut_1 : decode cX3_setOut 1 = .ok (.iconst 1, 1) := by decide +kernel
theorem dX3_setOut_2 : decode cX3_setOut 2 = .ok (.putfield 18, 3) := by decide +kernel
theorem dX3_setOut_5 : decode cX3_setOut 5 = .ok (.aload_n 0, 1) := by decide +kernel
theorem dX3_setOut_6 : decode cX3_setOut 6 = .ok (.aload_n 0, 1) := by decide +kernel
theorem dX3_setOut_7 : decode cX3_setOut 7 = .ok (.getfield 9, 3) := by decide +kernel
theorem dX3_setOut_10 : decode cX3_setOut 10 = .ok (.putfield 21, 3) := by decide +kernel
theorem dX3_setOut_13 : decode cX3_setOut 13 = .ok (.return_, 1) := by decide +kernel
set_option maxRecDepth 20000 in
theorem ggX3_travel_X3_comeHome : GoodIn wsX3_travel wsX3_comeHome := goodIn_r _ [9, 1, 10, 11, 12, 13, 14, 15] (by decide +kernel) (by decide +kernel)
set_option maxRecDepth 20000 in
theorem gX3_travel_X3_comeHome : GoodIn wsX3_travel (wsV RX3 27 RX3 yX3_comeHome wsX3_comeHome) := goodIn_app (goodIn_of _ (by decide +kernel)) ggX3_travel_X3_comeHome
theorem dX3_travel_0 : decode cX3_travel 0 = .ok (.aload_n 0, 1) := by decide +kernel
theorem dX3_travel_1 : decode cX3_travel 1 = .ok (.getfield 18, 3) := by decide +kernel
theorem dX3_travel_4 : decode cX3_travel 4 = .ok (.ifCond .ne 5, 3) := by decide +kernel
theorem dX3_travel_7 : decode cX3_travel 7 = .ok (.iconst 0, 1) := by decide +kernel
theorem dX3_travel_8 : decode cX3_travel 8 = .ok (.ireturn, 1) := by decide +kernel
theorem dX3_travel_9 : decode cX3_travel 9 = .ok (.aload_n 0, 1) := by decide +kernel
theorem dX3_travel_10 : decode cX3_travel 10 = .ok (.dup, 1) := by decide +kernel
theorem dX3_travel_11 : decode cX3_travel 11 = .ok (.getfield 21, 3) := by decide +kernel
theorem dX3_travel_14 : decode cX3_travel 14 = .ok (.iconst 1, 1) := by decide +kernel
theorem dX3_travel_15 : decode cX3_travel 15 = .ok (.isub, 1) := by decide +kernel
theorem dX3_travel_16 : decode cX3_travel 16 = .ok (.putfield 21, 3) := by decide +kernel
theorem dX3_travel_19 : decode cX3_travel 19 = .ok (.aload_n 0, 1) := by decide +kernel
theorem dX3_travel_20 : decode cX3_travel 20 = .ok (.getfield 18, 3) := by decide +kernel
theorem dX3_travel_23 : decode cX3_travel 23 = .ok (.iconst 1, 1) := by decide +kernel
theorem dX3_travel_24 : decode cX3_travel 24 = .ok (.if_icmp .ne 41, 3) := by decide +kernel
theorem dX3_travel_27 : decode cX3_travel 27 = .ok (.aload_n 0, 1) := by decide +kernel
theorem dX3_travel_28 : decode cX3_travel 28 = .ok (.getfield 21, 3) := by decide +kernel
theorem dX3_travel_31 : decode cX3_travel 31 = .ok (.aload_n 0, 1) := by decide +kernel
theorem dX3_travel_32 : decode cX3_travel 32 = .ok (.getfield 9, 3) := by decide +kernel
theorem dX3_travel_35 : decode cX3_travel 35 = .ok (.iconst 2, 1) := by decide +kernel
theorem dX3_travel_36 : decode cX3_travel 36 = .ok (.idiv, 1) := by decide +kernel
theorem dX3_travel_37 : decode cX3_travel 37 = .ok (.if_icmp .ne 28, 3) := by decide +kernel
theorem dX3_travel_40 : decode cX3_travel 40 = .ok (.iload_n 1, 1) := by decide +kernel
theorem dX3_travel_41 : decode cX3_travel 41 = .ok (.ifCond .eq 24, 3) := by decide +kernel
theorem dX3_travel_44 : decode cX3_travel 44 = .ok (.aload_n 0, 1) := by decide +kernel
theorem dX3_travel_45 : decode cX3_travel 45 = .ok (.iconst 2, 1) := by decide +kernel
theorem dX3_travel_46 : decode cX3_travel 46 = .ok (.putfield 18, 3) := by decide +kernel
theorem dX3_travel_49 : decode cX3_travel 49 = .ok (.aload_n 0, 1) := by decide +kernel
theorem dX3_travel_50 : decode cX3_travel 50 = .ok (.bipush 10, 2) := by decide +kernel
theorem dX3_travel_52 : decode cX3_travel 52 = .ok (.putfield 21, 3) := by decide +kernel
theorem dX3_travel_55 : decode cX3_travel 55 = .ok (.aload_n 0, 1) := by decide +kernel
theorem dX3_travel_56 : decode cX3_travel 56 = .ok (.dup, 1) := by decide +kernel
theorem dX3_travel_57 : decode cX3_travel 57 = .ok (.getfield 24, 3) := by decide +kernel
theorem dX3_travel_60 : decode cX3_travel 60 = .ok (.iconst 1, 1) := by decide +kernel
theorem dX3_travel_61 : decode cX3_travel 61 = .ok (.iadd, 1) := by decide +kernel
theorem dX3_travel_62 : decode cX3_travel 62 = .ok (.putfield 24, 3) := by decide +kernel
theorem dX3_travel_65 : decode cX3_travel 65 = .ok (.aload_n 0, 1) := by decide +kernel
theorem dX3_travel_66 : decode cX3_travel 66 = .ok (.getfield 21, 3) := by decide +kernel
theorem dX3_travel_69 : decode cX3_travel 69 = .ok (.ifCond .le 7, 3) := by decide +kernel
theorem dX3_travel_72 : decode cX3_travel 72 = .ok (.iconst 0, 1) := by decide +kernel
theorem dX3_travel_73 : decode cX3_travel 73 = .ok (.goto 7, 3) := by decide +kernel
theorem dX3_travel_76 : decode cX3_travel 76 = .ok (.aload_n 0, 1) := by decide +kernel
theorem dX3_travel_77 : decode cX3_travel 77 = .ok (.invokevirtual 27, 3) := by decide +kernel
theorem dX3_travel_80 : decode cX3_travel 80 = .ok (.ireturn, 1) := by decide +kernel
theorem dX3_comeHome_0 : decode cX3_comeHome 0 = .ok (.aload_n 0, 1) := by decide +kernel
theorem dX3_comeHome_1 : decode cX3_comeHome 1 = .ok (.getfield 18, 3) := by decide +kernel
theorem dX3_comeHome_4 : decode cX3_comeHome 4 = .ok (.iconst 1, 1) := by decide +kernel
theorem dX3_comeHome_5 : decode cX3_comeHome 5 = .ok (.if_icmp .ne 10, 3) := by decide +kernel
theorem dX3_comeHome_8 : decode cX3_comeHome 8 = .ok (.aload_n 0, 1) := by decide +kernel
theorem dX3_comeHome_9 : decode cX3_comeHome 9 = .ok (.getfield 15, 3) := by decide +kernel
theorem dX3_comeHome_12 : decode cX3_comeHome 12 = .ok (.goto 4, 3) := by decide +kernel
theorem dX3_comeHome_15 : decode cX3_comeHome 15 = .ok (.iconst 0, 1) := by decide +kernel
theorem dX3_comeHome_16 : decode cX3_comeHome 16 = .ok (.istore_n 1, 1) := by decide +kernel
theorem dX3_comeHome_17 : decode cX3_comeHome 17 = .ok (.aload_n 0, 1) := by decide +kernel
theorem dX3_comeHome_18 : decode cX3_comeHome 18 = .ok (.iconst 0, 1) := by decide +kernel
theorem dX3_comeHome_19 : decode cX3_comeHome 19 = .ok (.putfield 18, 3) := by decide +kernel
theorem dX3_comeHome_22 : decode cX3_comeHome 22 = .ok (.iload_n 1, 1) := by decide +kernel
theorem dX3_comeHome_23 : decode cX3_comeHome 23 = .ok (.ireturn, 1) := by decide +kernel
theorem dX3_size_0 : decode cX3_size 0 = .ok (.iconst 5, 1) := by decide +kernel
theorem dX3_size_1 : decode cX3_size 1 = .ok (.ireturn, 1) := by decide +kernel
theorem dX3_tell_0 : decode cX3_tell 0 = .ok (.iload_n 1, 1) := by decide +kernel
theorem dX3_tell_1 : decode cX3_tell 1 = .ok (.tableswitch 51 0 3 #[31, 36, 41, 46], 31) := by decide +kernel
theorem dX3_tell_32 : decode cX3_tell 32 = .ok (.aload_n 0, 1) := by decide +kernel
theorem dX3_tell_33 : decode cX3_tell 33 = .ok (.getfield 9, 3) := by decide +kernel
theorem dX3_tell_36 : decode cX3_tell 36 = .ok (.ireturn, 1) := by decide +kernel
theorem dX3_tell_37 : decode cX3_tell 37 = .ok (.aload_n 0, 1) := by decide +kernel
theorem dX3_tell_38 : decode cX3_tell 38 = .ok (.getfield 15, 3) := by decide +kernel
theorem dX3_tell_41 : decode cX3_tell 41 = .ok (.ireturn, 1) := by decide +kernel
theorem dX3_tell_42 : decode cX3_tell 42 = .ok (.aload_n 0, 1) := by decide +kernel
theorem dX3_tell_43 : decode cX3_tell 43 = .ok (.getfield 18, 3) := by decide +kernel
theorem dX3_tell_46 : decode cX3_tell 46 = .ok (.ireturn, 1) := by decide +kernel
theorem dX3_tell_47 : decode cX3_tell 47 = .ok (.aload_n 0, 1) := by decide +kernel
theorem dX3_tell_48 : decode cX3_tell 48 = .ok (.getfield 21, 3) := by decide +kernel
theorem dX3_tell_51 : decode cX3_tell 51 = .ok (.ireturn, 1) := by decide +kernel
theorem dX3_tell_52 : decode cX3_tell 52 = .ok (.aload_n 0, 1) := by decide +kernel
theorem dX3_tell_53 : decode cX3_tell 53 = .ok (.getfield 24, 3) := by decide +kernel
theorem dX3_tell_56 : decode cX3_tell 56 = .ok (.ireturn, 1) := by decide +kernel
theorem dX4_init_0 : decode cX4_init 0 = .ok (.aload_n 0, 1) := by decide +kernel
theorem dX4_init_1 : decode cX4_init 1 = .ok (.invokespecial 3, 3) := by decide +kernel
theorem dX4_init_4 : decode cX4_init 4 = .ok (.aload_n 0, 1) := by decide +kernel
theorem dX4_init_5 : decode cX4_init 5 = .ok (.iconst 5, 1) := by decide +kernel
theorem dX4_init_6 : decode cX4_init 6 = .ok (.putfield 9, 3) := by decide +kernel
theorem dX4_init_9 : decode cX4_init 9 = .ok (.return_, 1) := by decide +kernel
theorem dX4_stock_0 : decode cX4_stock 0 = .ok (.iload_n 1, 1) := by decide +kernel
theorem dX4_stock_1 : decode cX4_stock 1 = .ok (.ifCond .ne 10, 3) := by decide +kernel
theorem dX4_stock_4 : decode cX4_stock 4 = .ok (.aload_n 0, 1) := by decide +kernel
theorem dX4_stock_5 : decode cX4_stock 5 = .ok (.getfield 15, 3) := by decide +kernel
theorem dX4_stock_8 : decode cX4_stock 8 = .ok (.goto 7, 3) := by decide +kernel
theorem dX4_stock_11 : decode cX4_stock 11 = .ok (.aload_n 0, 1) := by decide +kernel
theorem dX4_stock_12 : decode cX4_stock 12 = .ok (.getfield 18, 3) := by decide +kernel
theorem dX4_stock_15 : decode cX4_stock 15 = .ok (.ireturn, 1) := by decide +kernel
theorem dX4_add_0 : decode cX4_add 0 = .ok (.iload_n 1, 1) := by decide +kernel
theorem dX4_add_1 : decode cX4_add 1 = .ok (.ifCond .ne 16, 3) := by decide +kernel
theorem dX4_add_4 : decode cX4_add 4 = .ok (.aload_n 0, 1) := by decide +kernel
theorem dX4_add_5 : decode cX4_add 5 = .ok (.dup, 1) := by decide +kernel
theorem dX4_add_6 : decode cX4_add 6 = .ok (.getfield 15, 3) := by decide +kernel
theorem dX4_add_9 : decode cX4_add 9 = .ok (.iload_n 2, 1) := by decide +kernel
theorem dX4_add_10 : decode cX4_add 10 = .ok (.iadd, 1) := by decide +kernel
theorem dX4_add_11 : decode cX4_add 11 = .ok (.putfield 15, 3) := by decide +kernel
theorem dX4_add_14 : decode cX4_add 14 = .ok (.goto 13, 3) := by decide +kernel
theorem dX4_add_17 : decode cX4_add 17 = .ok (.aload_n 0, 1) := by decide +kernel
theorem dX4_add_18 : decode cX4_add 18 = .ok (.dup, 1) := by decide +kernel
theorem dX4_add_19 : decode cX4_add 19 = .ok (.getfield 18, 3) := by decide +kernel
theorem dX4_add_22 : decode cX4_add 22 = .ok (.iload_n 2, 1) := by decide +kernel
theorem dX4_add_23 : decode cX4_add 23 = .ok (.iadd, 1) := by decide +kernel
theorem dX4_add_24 : decode cX4_add 24 = .ok (.putfield 18, 3) := by decide +kernel
theorem dX4_add_27 : decode cX4_add 27 = .ok (.return_, 1) := by decide +kernel
theorem dX4_addRoasted_0 : decode cX4_addRoasted 0 = .ok (.iload_n 1, 1) := by decide +kernel
theorem dX4_addRoasted_1 : decode cX4_addRoasted 1 = .ok (.ifCond .ne 16, 3) := by decide +kernel
theorem dX4_addRoasted_4 : decode cX4_addRoasted 4 = .ok (.aload_n 0, 1) := by decide +kernel
theorem dX4_addRoasted_5 : decode cX4_addRoasted 5 = .ok (.dup, 1) := by decide +kernel
theorem dX4_addRoasted_6 : decode cX4_addRoasted 6 = .ok (.getfield 21, 3) := by decide +kernel
theorem dX4_addRoasted_9 : decode cX4_addRoasted 9 = .ok (.iload_n 2, 1) := by decide +kernel
theorem dX4_addRoasted_10 : decode cX4_addRoasted 10 = .ok (.iadd, 1) := by decide +kernel
theorem dX4_addRoasted_11 : decode cX4_addRoasted 11 = .ok (.putfield 21, 3) := by decide +kernel
theorem dX4_addRoasted_14 : decode cX4_addRoasted 14 = .ok (.goto 13, 3) := by decide +kernel
theorem dX4_addRoasted_17 : decode cX4_addRoasted 17 = .ok (.aload_n 0, 1) := by decide +kernel
theorem dX4_addRoasted_18 : decode cX4_addRoasted 18 = .ok (.dup, 1) := by decide +kernel
theorem dX4_addRoasted_19 : decode cX4_addRoasted 19 = .ok (.getfield 24, 3) := by decide +kernel
theorem dX4_addRoasted_22 : decode cX4_addRoasted 22 = .ok (.iload_n 2, 1) := by decide +kernel
theorem dX4_addRoasted_23 : decode cX4_addRoasted 23 = .ok (.iadd, 1) := by decide +kernel
theorem dX4_addRoasted_24 : decode cX4_addRoasted 24 = .ok (.putfield 24, 3) := by decide +kernel
theorem dX4_addRoasted_27 : decode cX4_addRoasted 27 = .ok (.return_, 1) := by decide +kernel
theorem dX4_coffeeOfPortion_0 : decode cX4_coffeeOfPortion 0 = .ok (.aload_n 0, 1) := by decide +kernel
theorem dX4_coffeeOfPortion_1 : decode cX4_coffeeOfPortion 1 = .ok (.getfield 9, 3) := by decide +kernel
theorem dX4_coffeeOfPortion_4 : decode cX4_coffeeOfPortion 4 = .ok (.aload_n 0, 1) := by decide +kernel
theorem dX4_coffeeOfPortion_5 : decode cX4_coffeeOfPortion 5 = .ok (.getfield 24, 3) := by decide +kernel
theorem dX4_coffeeOfPortion_8 : decode cX4_coffeeOfPortion 8 = .ok (.invokestatic 27, 3) := by decide +kernel
theorem dX4_coffeeOfPortion_11 : decode cX4_coffeeOfPortion 11 = .ok (.ireturn, 1) := by decide +kernel
theorem dX4_canMix_0 : decode cX4_canMix 0 = .ok (.aload_n 0, 1) := by decide +kernel
theorem dX4_canMix_1 : decode cX4_canMix 1 = .ok (.getfield 21, 3) := by decide +kernel
theorem dX4_canMix_4 : decode cX4_canMix 4 = .ok (.bipush 10, 2) := by decide +kernel
theorem dX4_canMix_6 : decode cX4_canMix 6 = .ok (.iload_n 1, 1) := by decide +kernel
theorem dX4_canMix_7 : decode cX4_canMix 7 = .ok (.isub, 1) := by decide +kernel
theorem dX4_canMix_8 : decode cX4_canMix 8 = .ok (.if_icmp .lt 7, 3) := by decide +kernel
theorem dX4_canMix_11 : decode cX4_canMix 11 = .ok (.iconst 1, 1) := by decide +kernel
theorem dX4_canMix_12 : decode cX4_canMix 12 = .ok (.goto 4, 3) := by decide +kernel
theorem dX4_canMix_15 : decode cX4_canMix 15 = .ok (.iconst 0, 1) := by decide +kernel
theorem dX4_canMix_16 : decode cX4_canMix 16 = .ok (.ireturn, 1) := by decide +kernel
theorem dX4_servePortion_0 : decode cX4_servePortion 0 = .ok (.iload_n 1, 1) := by decide +kernel
theorem dX4_servePortion_1 : decode cX4_servePortion 1 = .ok (.aload_n 0, 1) := by decide +kernel
theorem dX4_servePortion_2 : decode cX4_servePortion 2 = .ok (.getfield 9, 3) := by decide +kernel
theorem dX4_servePortion_5 : decode cX4_servePortion 5 = .ok (.if_icmp .ge 13, 3) := by decide +kernel
theorem dX4_servePortion_8 : decode cX4_servePortion 8 = .ok (.aload_n 0, 1) := by decide +kernel
theorem dX4_servePortion_9 : decode cX4_servePortion 9 = .ok (.dup, 1) := by decide +kernel
theorem dX4_servePortion_10 : decode cX4_servePortion 10 = .ok (.getfield 33, 3) := by decide +kernel
theorem dX4_servePortion_13 : decode cX4_servePortion 13 = .ok (.iconst 1, 1) := by decide +kernel
theorem dX4_servePortion_14 : decode cX4_servePortion 14 = .ok (.iadd, 1) := by decide +kernel
theorem dX4_servePortion_15 : decode cX4_servePortion 15 = .ok (.putfield 33, 3) := by decide +kernel
theorem dX4_servePortion_18 : decode cX4_servePortion 18 = .ok (.aload_n 0, 1) := by decide +kernel
theorem dX4_servePortion_19 : decode cX4_servePortion 19 = .ok (.dup, 1) := by decide +kernel
theorem dX4_servePortion_20 : decode cX4_servePortion 20 = .ok (.getfield 24, 3) := by decide +kernel
theorem dX4_servePortion_23 : decode cX4_servePortion 23 = .ok (.iload_n 1, 1) := by decide +kernel
theorem dX4_servePortion_24 : decode cX4_servePortion 24 = .ok (.isub, 1) := by decide +kernel
theorem dX4_servePortion_25 : decode cX4_servePortion 25 = .ok (.putfield 24, 3) := by decide +kernel
theorem dX4_servePortion_28 : decode cX4_servePortion 28 = .ok (.aload_n 0, 1) := by decide +kernel
theorem dX4_servePortion_29 : decode cX4_servePortion 29 = .ok (.dup, 1) := by decide +kernel
theorem dX4_servePortion_30 : decode cX4_servePortion 30 = .ok (.getfield 21, 3) := by decide +kernel
theorem dX4_servePortion_33 : decode cX4_servePortion 33 = .ok (.bipush 10, 2) := by decide +kernel
theorem dX4_servePortion_35 : decode cX4_servePortion 35 = .ok (.iload_n 1, 1) := by decide +kernel
theorem dX4_servePortion_36 : decode cX4_servePortion 36 = .ok (.isub, 1) := by decide +kernel
theorem dX4_servePortion_37 : decode cX4_servePortion 37 = .ok (.isub, 1) := by decide +kernel
theorem dX4_servePortion_38 : decode cX4_servePortion 38 = .ok (.putfield 21, 3) := by decide +kernel
theorem dX4_servePortion_41 : decode cX4_servePortion 41 = .ok (.aload_n 0, 1) := by decide +kernel
theorem dX4_servePortion_42 : decode cX4_servePortion 42 = .ok (.dup, 1) := by decide +kernel
theorem dX4_servePortion_43 : decode cX4_servePortion 43 = .ok (.getfield 36, 3) := by decide +kernel
theorem dX4_servePortion_46 : decode cX4_servePortion 46 = .ok (.iconst 1, 1) := by decide +kernel
theorem dX4_servePortion_47 : decode cX4_servePortion 47 = .ok (.iadd, 1) := by decide +kernel
theorem dX4_servePortion_48 : decode cX4_servePortion 48 = .ok (.putfield 36, 3) := by decide +kernel
theorem dX4_servePortion_51 : decode cX4_servePortion 51 = .ok (.return_, 1) := by decide +kernel
theorem dX5_init_0 : decode cX5_init 0 = .ok (.aload_n 0, 1) := by decide +kernel
theorem dX5_init_1 : decode cX5_init 1 = .ok (.invokespecial 1, 3) := by decide +kernel
theorem dX5_init_4 : decode cX5_init 4 = .ok (.return_, 1) := by decide +kernel
set_option maxRecDepth 20000 in
theorem ggX6_init_X5_init : GoodIn wsX6_init wsX5_init := goodIn_r _ [23, 24, 25, 26] (by decide +kernel) (by decide +kernel)
set_option maxRecDepth 20000 in
theorem gX6_init_X5_init_n3 : GoodIn wsX6_init (wsX5_init) := ggX6_init_X5_init
set_option maxRecDepth 20000 in
theorem ggX6_init_X4_init : GoodIn wsX6_init wsX4_init := goodIn_r _ [28, 29, 25, 26, 30, 51, 52, 53, 54, 55, 56, 57] (by decide +kernel) (by decide +kernel)
set_option maxRecDepth 20000 in
theorem gX6_init_X4_init_n37 : GoodIn wsX6_init (wsX4_init) := ggX6_init_X4_init
set_option maxRecDepth 20000 in
theorem ggX6_init_X0_init : GoodIn wsX6_init wsX0_init := goodIn_r _ [32, 21, 22, 23, 24, 25, 26] (by decide +kernel) (by decide +kernel)
set_option maxRecDepth 20000 in
theorem gX6_init_X0_init_n42 : GoodIn wsX6_init (wsX0_init) := ggX6_init_X0_init
set_option maxRecDepth 20000 in
theorem ggX6_init_X2_init : GoodIn wsX6_init wsX2_init := goodIn_r _ [34, 35, 21, 22, 23, 24, 25, 26, 61, 62, 63, 64, 65] (by decide +kernel) (by decide +kernel)
set_option maxRecDepth 20000 in
theorem gX6_init_X2_init_n43 : GoodIn wsX6_init (wsX2_init) := ggX6_init_X2_init
set_option maxRecDepth 20000 in
theorem ggX6_init_X3_init : GoodIn wsX6_init wsX3_init := goodIn_r _ [37, 21, 22, 23, 24, 25, 26] (by decide +kernel) (by decide +kernel)
set_option maxRecDepth 20000 in
theorem gX6_init_X3_init_n44 : GoodIn wsX6_init (wsX3_init) := ggX6_init_X3_init
set_option maxRecDepth 20000 in
theorem ggX6_init_X1_init : GoodIn wsX6_init wsX1_init := goodIn_r _ [39, 21, 22, 23, 24, 25, 26] (by decide +kernel) (by decide +kernel)
set_option maxRecDepth 20000 in
theorem gX6_init_X1_init_n45 : GoodIn wsX6_init (wsX1_init) := ggX6_init_X1_init
theorem dX6_init_0 : decode cX6_init 0 = .ok (.aload_n 0, 1) := by decide +kernel
theorem dX6_init_1 : decode cX6_init 1 = .ok (.invokespecial 3, 3) := by decide +kernel
theorem dX6_init_4 : decode cX6_init 4 = .ok (.aload_n 0, 1) := by decide +kernel
theorem dX6_init_5 : decode cX6_init 5 = .ok (.iconst 4, 1) := by decide +kernel
theorem dX6_init_6 : decode cX6_init 6 = .ok (.anewarray 9, 3) := by decide +kernel
theorem dX6_init_9 : decode cX6_init 9 = .ok (.putfield 11, 3) := by decide +kernel
theorem dX6_init_12 : decode cX6_init 12 = .ok (.aload_n 0, 1) := by decide +kernel
theorem dX6_init_13 : decode cX6_init 13 = .ok (.iconst 4, 1) := by decide +kernel
