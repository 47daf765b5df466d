theorem dX4_coffeeOfPortion_5 : decode cX4_coffeeOfPortion 5 = .ok (.getfield 24, 3) := by decide +kernel
theorem dX4_coffeeOfPortion_8 : decode cX4_coffeeOfPortion 8 = .ok (.invokestatic 27, 3) := by decide +kernel
theorem dX4_coffeeOfPortion_11 : decode cX4_coffeeOfPortion 11 = .ok (.ireturn, 1) := by decide +kernel
theorem dX4_canMix_0 : decode cX4_canMix 0 = .ok (.aload_n 0, 1) := by decide +kernel
theorem dX4_canMix_1 : decode cX4_canMix 1 = .ok (.getfield 21, 3) := by decide +kernel
theorem dX4_canMix_4 : decode cX4_canMix 4 = .ok (.bipush 10, 2) := by decide +kernel
theorem dX4_canMix_6 : decode cX4_canMix 6 = .ok (.iload_n 1, 1) := by decide +kernel
theorem dX4_canMix_7 : decode cX4_canMix 7 = .ok (.isub, 1) := by decide +kernel
theorem dX4_canMix_8 : decode cX4_canMix 8 = .ok (.if_icmp .lt 7, 3) := by decide +kernel
theorem dX4_canMix_11 : decode cX4_canMix 11 = .ok (.iconst 1, 1) := by decide +kernel
theorem dX4_canMix_12 : decode cX4_canMix 12 = .ok (.goto 4, 3) := by decide +kernel
theorem dX4_canMix_15 : decode cX4_canMix 15 = .ok (.iconst 0, 1) := by decide +kernel
theorem dX4_canMix_16 : decode cX4_canMix 16 = .ok (.ireturn, 1) := by decide +kernel
theorem dX4_servePortion_0 : decode cX4_servePortion 0 = .ok (.iload_n 1, 1) := by decide +kernel
theorem dX4_servePortion_1 : decode cX4_servePortion 1 = .ok (.aload_n 0, 1) := by decide +kernel
theorem dX4_servePortion_2 : decode cX4_servePortion 2 = .ok (.getfield 9, 3) := by decide +kernel
theorem dX4_servePortion_5 : decode cX4_servePortion 5 = .ok (.if_icmp .ge 13, 3) := by decide +kernel
theorem dX4_servePortion_8 : decode cX4_servePortion 8 = .ok (.aload_n 0, 1) := by decide +kernel
theorem dX4_servePortion_9 : decode cX4_servePortion 9 = .ok (.dup, 1) := by decide +kernel
theorem dX4_servePortion_10 : decode cX4_servePortion 10 = .ok (.getfield 33, 3) := by decide +kernel
theorem dX4_servePortion_13 : decode cX4_servePortion 13 = .ok (.iconst 1, 1) := by decide +kernel
theorem dX4_servePortion_14 : decode cX4_servePortion 14 = .ok (.iadd, 1) := by decide +kernel
theorem dX4_servePortion_15 : decode cX4_servePortion 15 = .ok (.putfield 33, 3) := by decide +kernel
theorem dX4_servePortion_18 : decode cX4_servePortion 18 = .ok (.aload_n 0, 1) := by decide +kernel
theorem dX4_servePortion_19 : decode cX4_servePortion 19 = .ok (.dup, 1) := by decide +kernel
theorem dX4_servePortion_20 : decode cX4_servePortion 20 = .ok (.getfield 24, 3) := by decide +kernel
theorem dX4_servePortion_23 : decode cX4_servePortion 23 = .ok (.iload_n 1, 1) := by decide +kernel
theorem dX4_servePortion_24 : decode cX4_servePortion 24 = .ok (.isub, 1) := by decide +kernel
theorem dX4_servePortion_25 : decode cX4_servePortion 25 = .ok (.putfield 24, 3) := by decide +kernel
theorem dX4_servePortion_28 : decode cX4_servePortion 28 = .ok (.aload_n 0, 1) := by decide +kernel
theorem dX4_servePortion_29 : decode cX4_servePortion 29 = .ok (.dup, 1) := by decide +kernel
theorem dX4_servePortion_30 : decode cX4_servePortion 30 = .ok (.getfield 21, 3) := by decide +kernel
theorem dX4_servePortion_33 : decode cX4_servePortion 33 = .ok (.bipush 10, 2) := by decide +kernel
theorem dX4_servePortion_35 : decode cX4_servePortion 35 = .ok (.iload_n 1, 1) := by decide +kernel
theorem dX4_servePortion_36 : decode cX4_servePortion 36 = .ok (.isub, 1) := by decide +kernel
theorem dX4_servePortion_37 : decode cX4_servePortion 37 = .ok (.isub, 1) := by decide +kernel
theorem dX4_servePortion_38 : decode cX4_servePortion 38 = .ok (.putfield 21, 3) := by decide +kernel
theorem dX4_servePortion_41 : decode cX4_servePortion 41 = .ok (.aload_n 0, 1) := by decide +kernel
theorem dX4_servePortion_42 : decode cX4_servePortion 42 = .ok (.dup, 1) := by decide +kernel
theorem dX4_servePortion_43 : decode cX4_servePortion 43 = .ok (.getfield 36, 3) := by decide +kernel
theorem dX4_servePortion_46 : decode cX4_servePortion 46 = .ok (.iconst 1, 1) := by decide +kernel
theorem dX4_servePortion_47 : decode cX4_servePortion 47 = .ok (.iadd, 1) := by decide +kernel
theorem dX4_servePortion_48 : decode cX4_servePortion 48 = .ok (.putfield 36, 3) := by decide +kernel
theorem dX4_servePortion_51 : decode cX4_servePortion 51 = .ok (.return_, 1) := by decide +kernel
theorem dX4_become_0 : decode cX4_become 0 = .ok (.aload_n 0, 1) := by decide +kernel
theorem dX4_become_1 : decode cX4_become 1 = .ok (.aload_n 1, 1) := by decide +kernel
theorem dX4_become_2 : decode cX4_become 2 = .ok (.getfield 15, 3) := by decide +kernel
theorem dX4_become_5 : decode cX4_become 5 = .ok (.putfield 15, 3) := by decide +kernel
theorem dX4_become_8 : decode cX4_become 8 = .ok (.aload_n 0, 1) := by decide +kernel
theorem dX4_become_9 : decode cX4_become 9 = .ok (.aload_n 1, 1) := by decide +kernel
theorem dX4_become_10 : decode cX4_become 10 = .ok (.getfield 18, 3) := by decide +kernel
theorem dX4_become_13 : decode cX4_become 13 = .ok (.putfield 18, 3) := by decide +kernel
theorem dX4_become_16 : decode cX4_become 16 = .ok (.aload_n 0, 1) := by decide +kernel
theorem dX4_become_17 : decode cX4_become 17 = .ok (.aload_n 1, 1) := by decide +kernel
theorem dX4_become_18 : decode cX4_become 18 = .ok (.getfield 21, 3) := by decide +kernel
theorem dX4_become_21 : decode cX4_become 21 = .ok (.putfield 21, 3) := by decide +kernel
theorem dX4_become_24 : decode cX4_become 24 = .ok (.aload_n 0, 1) := by decide +kernel
theorem dX4_become_25 : decode cX4_become 25 = .ok (.aload_n 1, 1) := by decide +kernel
theorem dX4_become_26 : decode cX4_become 26 = .ok (.getfield 24, 3) := by decide +kernel
theorem dX4_become_29 : decode cX4_become 29 = .ok (.putfield 24, 3) := by decide +kernel
theorem dX4_become_32 : decode cX4_become 32 = .ok (.aload_n 0, 1) := by decide +kernel
theorem dX4_become_33 : decode cX4_become 33 = .ok (.aload_n 1, 1) := by decide +kernel
theorem dX4_become_34 : decode cX4_become 34 = .ok (.getfield 9, 3) := by decide +kernel
theorem dX4_become_37 : decode cX4_become 37 = .ok (.putfield 9, 3) := by decide +kernel
theorem dX4_become_40 : decode cX4_become 40 = .ok (.aload_n 0, 1) := by decide +kernel
theorem dX4_become_41 : decode cX4_become 41 = .ok (.aload_n 1, 1) := by decide +kernel
theorem dX4_become_42 : decode cX4_become 42 = .ok (.getfield 36, 3) := by decide +kernel
theorem dX4_become_45 : decode cX4_become 45 = .ok (.putfield 36, 3) := by decide +kernel
theorem dX4_become_48 : decode cX4_become 48 = .ok (.aload_n 0, 1) := by decide +kernel
theorem dX4_become_49 : decode cX4_become 49 = .ok (.aload_n 1, 1) := by decide +kernel
theorem dX4_become_50 : decode cX4_become 50 = .ok (.getfield 33, 3) := by decide +kernel
theorem dX4_become_53 : decode cX4_become 53 = .ok (.putfield 33, 3) := by decide +kernel
theorem dX4_become_56 : decode cX4_become 56 = .ok (.return_, 1) := by decide +kernel
theorem dX5_init_0 : decode cX5_init 0 = .ok (.aload_n 0, 1) := by decide +kernel
theorem dX5_init_1 : decode cX5_init 1 = .ok (.invokespecial 1, 3) := by decide +kernel
theorem dX5_init_4 : decode cX5_init 4 = .ok (.return_, 1) := by decide +kernel
set_option maxRecDepth 20000 in
theorem ggX5_digestOnto_X0_size : GoodIn wsX5_digestOnto wsX0_size := goodIn_r _ [7] (by decide +kernel) (by decide +kernel)
set_option maxRecDepth 20000 in
theorem gX5_digestOnto_X0_size_u7X0 : GoodIn wsX5_digestOnto (va_wsU RX5 7 RX0 "ChicoryRoasters$Teller" ⟨"ChicoryRoasters$Teller", "size", "()I"⟩ yX0_size wsX0_size) := goodIn_app (goodIn_of _ (by decide +kernel)) ggX5_digestOnto_X0_size
set_option maxRecDepth 20000 in
theorem ggX5_digestOnto_X1_size : GoodIn wsX5_digestOnto wsX1_size := goodIn_r _ [11] (by decide +kernel) (by decide +kernel)
set_option maxRecDepth 20000 in
theorem gX5_digestOnto_X1_size_u7X1 : GoodIn wsX5_digestOnto (va_wsU RX5 7 RX1 "ChicoryRoasters$Teller" ⟨"ChicoryRoasters$Teller", "size", "()I"⟩ yX1_size wsX1_size) := goodIn_app (goodIn_of _ (by decide +kernel)) ggX5_digestOnto_X1_size
set_option maxRecDepth 20000 in
theorem ggX5_digestOnto_X2_size : GoodIn wsX5_digestOnto wsX2_size := goodIn_r _ [15] (by decide +kernel) (by decide +kernel)
set_option maxRecDepth 20000 in
theorem gX5_digestOnto_X2_size_u7X2 : GoodIn wsX5_digestOnto (va_wsU RX5 7 RX2 "ChicoryRoasters$Teller" ⟨"ChicoryRoasters$Teller", "size", "()I"⟩ yX2_size wsX2_size) := goodIn_app (goodIn_of _ (by decide +kernel)) ggX5_digestOnto_X2_size
set_option maxRecDepth 20000 in
theorem ggX5_digestOnto_X3_size : GoodIn wsX5_digestOnto wsX3_size := goodIn_r _ [19] (by decide +kernel) (by decide +kernel)
set_option maxRecDepth 20000 in
theorem gX5_digestOnto_X3_size_u7X3 : GoodIn wsX5_digestOnto (va_wsU RX5 7 RX3 "ChicoryRoasters$Teller" ⟨"ChicoryRoasters$Teller", "size", "()I"⟩ yX3_size wsX3_size) := goodIn_app (goodIn_of _ (by decide +kernel)) ggX5_digestOnto_X3_size
set_option maxRecDepth 20000 in
theorem ggX5_digestOnto_X6_size : GoodIn wsX5_digestOnto wsX6_size := goodIn_r _ [23] (by decide +kernel) (by decide +kernel)
set_option maxRecDepth 20000 in
theorem gX5_digestOnto_X6_size_u7X6 : GoodIn wsX5_digestOnto (va_wsU RX5 7 RX6 "ChicoryRoasters$Teller" ⟨"ChicoryRoasters$Teller", "size", "()I"⟩ yX6_size wsX6_size) := goodIn_app (goodIn_of _ (by decide +kernel)) ggX5_digestOnto_X6_size
set_option maxRecDepth 20000 in
theorem ggX5_digestOnto_X0_tell : GoodIn wsX5_digestOnto wsX0_tell := goodIn_r _ [28, 29, 30, 31, 81, 82, 83] (by decide +kernel) (by decide +kernel)
set_option maxRecDepth 20000 in
theorem gX5_digestOnto_X0_tell_u15X0 : GoodIn wsX5_digestOnto (va_wsU RX5 15 RX0 "ChicoryRoasters$Teller" ⟨"ChicoryRoasters$Teller", "tell", "(I)I"⟩ yX0_tell wsX0_tell) := goodIn_app (goodIn_of _ (by decide +kernel)) ggX5_digestOnto_X0_tell
set_option maxRecDepth 20000 in
theorem ggX5_digestOnto_X1_tell : GoodIn wsX5_digestOnto wsX1_tell := goodIn_r _ [34, 35, 36, 37, 38, 39, 84, 85, 86, 87, 88] (by decide +kernel) (by decide +kernel)
set_option maxRecDepth 20000 in
theorem gX5_digestOnto_X1_tell_u15X1 : GoodIn wsX5_digestOnto (va_wsU RX5 15 RX1 "ChicoryRoasters$Teller" ⟨"ChicoryRoasters$Teller", "tell", "(I)I"⟩ yX1_tell wsX1_tell) := goodIn_app (goodIn_of _ (by decide +kernel)) ggX5_digestOnto_X1_tell
set_option maxRecDepth 20000 in
theorem ggX5_digestOnto_X2_tell : GoodIn wsX5_digestOnto wsX2_tell := goodIn_r _ [42, 43, 44, 45, 46, 47, 48, 49, 50, 14, 51, 52, 53, 54, 55, 56, 57, 58, 59, 89, 90, 91, 92, 93] (by decide +kernel) (by decide +kernel)
set_option maxRecDepth 20000 in
theorem gX5_digestOnto_X2_tell_u15X2 : GoodIn wsX5_digestOnto (va_wsU RX5 15 RX2 "ChicoryRoasters$Teller" ⟨"ChicoryRoasters$Teller", "tell", "(I)I"⟩ yX2_tell wsX2_tell) := goodIn_app (goodIn_of _ (by decide +kernel)) ggX5_digestOnto_X2_tell
set_option maxRecDepth 20000 in
theorem ggX5_digestOnto_X3_tell : GoodIn wsX5_digestOnto wsX3_tell := goodIn_r _ [62, 63, 64, 65, 66, 67, 94, 95, 96, 97, 98] (by decide +kernel) (by decide +kernel)
set_option maxRecDepth 20000 in
theorem gX5_digestOnto_X3_tell_u15X3 : GoodIn wsX5_digestOnto (va_wsU RX5 15 RX3 "ChicoryRoasters$Teller" ⟨"ChicoryRoasters$Teller", "tell", "(I)I"⟩ yX3_tell wsX3_tell) := goodIn_app (goodIn_of _ (by decide +kernel)) ggX5_digestOnto_X3_tell
set_option maxRecDepth 20000 in
theorem ggX5_digestOnto_X6_tell : GoodIn wsX5_digestOnto wsX6_tell := goodIn_r _ [70, 71, 72, 73, 74, 75, 76, 77, 78, 79, 80, 99, 100, 101, 102, 103, 104, 105, 106, 107, 108, 109, 110, 111, 112, 113, 114, 115, 116] (by decide +kernel) (by decide +kernel)
set_option maxRecDepth 20000 in
theorem gX5_digestOnto_X6_tell_u15X6 : GoodIn wsX5_digestOnto (va_wsU RX5 15 RX6 "ChicoryRoasters$Teller" ⟨"ChicoryRoasters$Teller", "tell", "(I)I"⟩ yX6_tell wsX6_tell) := goodIn_app (goodIn_of _ (by decide +kernel)) ggX5_digestOnto_X6_tell
theorem dX5_digestOnto_0 : decode cX5_digestOnto 0 = .ok (.lload_n 1, 1) := by decide +kernel
theorem dX5_digestOnto_1 : decode cX5_digestOnto 1 = .ok (.lstore_n 3, 1) := by decide +kernel
theorem dX5_digestOnto_2 : decode cX5_digestOnto 2 = .ok (.aload_n 0, 1) := by decide +kernel
theorem dX5_digestOnto_3 : decode cX5_digestOnto 3 = .ok (.invokevirtual 7, 3) := by decide +kernel
theorem dX5_digestOnto_6 : decode cX5_digestOnto 6 = .ok (.istore 5, 2) := by decide +kernel
theorem dX5_digestOnto_8 : decode cX5_digestOnto 8 = .ok (.iconst 0, 1) := by decide +kernel
theorem dX5_digestOnto_9 : decode cX5_digestOnto 9 = .ok (.istore 6, 2) := by decide +kernel
theorem dX5_digestOnto_11 : decode cX5_digestOnto 11 = .ok (.iload 6, 2) := by decide +kernel
theorem dX5_digestOnto_13 : decode cX5_digestOnto 13 = .ok (.iload 5, 2) := by decide +kernel
theorem dX5_digestOnto_15 : decode cX5_digestOnto 15 = .ok (.if_icmp .ge 23, 3) := by decide +kernel
theorem dX5_digestOnto_18 : decode cX5_digestOnto 18 = .ok (.lload_n 3, 1) := by decide +kernel
theorem dX5_digestOnto_19 : decode cX5_digestOnto 19 = .ok (.ldc2_w 13, 3) := by decide +kernel
theorem dX5_digestOnto_22 : decode cX5_digestOnto 22 = .ok (.lmul, 1) := by decide +kernel
theorem dX5_digestOnto_23 : decode cX5_digestOnto 23 = .ok (.aload_n 0, 1) := by decide +kernel
theorem dX5_digestOnto_24 : decode cX5_digestOnto 24 = .ok (.iload 6, 2) := by decide +kernel
theorem dX5_digestOnto_26 : decode cX5_digestOnto 26 = .ok (.invokevirtual 15, 3) := by decide +kernel
theorem dX5_digestOnto_29 : decode cX5_digestOnto 29 = .ok (.i2l, 1) := by decide +kernel
theorem dX5_digestOnto_30 : decode cX5_digestOnto 30 = .ok (.ladd, 1) := by decide +kernel
theorem dX5_digestOnto_31 : decode cX5_digestOnto 31 = .ok (.lstore_n 3, 1) := by decide +kernel
theorem dX5_digestOnto_32 : decode cX5_digestOnto 32 = .ok (.iinc 6 1, 3) := by decide +kernel
theorem dX5_digestOnto_35 : decode cX5_digestOnto 35 = .ok (.goto (-24), 3) := by decide +kernel
theorem dX5_digestOnto_38 : decode cX5_digestOnto 38 = .ok (.lload_n 3, 1) := by decide +kernel
theorem dX5_digestOnto_39 : decode cX5_digestOnto 39 = .ok (.lreturn, 1) := by decide +kernel
set_option maxRecDepth 20000 in
theorem ggX6_init_X5_init : GoodIn wsX6_init wsX5_init := goodIn_r _ [23, 24, 25, 26] (by decide +kernel) (by decide +kernel)
set_option maxRecDepth 20000 in
theorem gX6_init_X5_init_n3 : GoodIn wsX6_init (wsX5_init) := ggX6_init_X5_init
set_option maxRecDepth 20000 in
theorem ggX6_init_X4_init : GoodIn wsX6_init wsX4_init := goodIn_r _ [28, 29, 25, 26, 30, 51, 52, 53, 54, 55, 56, 57] (by decide +kernel) (by decide +kernel)
set_option maxRecDepth 20000 in
theorem gX6_init_X4_init_n37 : GoodIn wsX6_init (wsX4_init) := ggX6_init_X4_init
set_option maxRecDepth 20000 in
theorem ggX6_init_X0_init : GoodIn wsX6_init wsX0_init := goodIn_r _ [32, 21, 22, 23, 24, 25, 26] (by decide +kernel) (by decide +kernel)
set_option maxRecDepth 20000 in
theorem gX6_init_X0_init_n42 : GoodIn wsX6_init (wsX0_init) := ggX6_init_X0_init
set_option maxRecDepth 20000 in
theorem ggX6_init_X2_init : GoodIn wsX6_init wsX2_init := goodIn_r _ [34, 35, 21, 22, 23, 24, 25, 26, 61, 62, 63, 64, 65] (by decide +kernel) (by decide +kernel)
set_option maxRecDepth 20000 in
theorem gX6_init_X2_init_n43 : GoodIn wsX6_init (wsX2_init) := ggX6_init_X2_init
set_option maxRecDepth 20000 in
theorem ggX6_init_X3_init : GoodIn wsX6_init wsX3_init := goodIn_r _ [37, 21, 22, 23, 24, 25, 26] (by decide +kernel) (by decide +kernel)
set_option maxRecDepth 20000 in
theorem gX6_init_X3_init_n44 : GoodIn wsX6_init (wsX3_init) := ggX6_init_X3_init
set_option maxRecDepth 20000 in
theorem ggX6_init_X1_init : GoodIn wsX6_init wsX1_init := goodIn_r _ [39, 21, 22, 23, 24, 25, 26] (by decide +kernel) (by decide +kernel)
set_option maxRecDepth 20000 in
theorem gX6_init_X1_init_n45 : GoodIn wsX6_init (wsX1_init) := ggX6_init_X1_init
theorem dX6_init_0 : decode cX6_init 0 = .ok (.aload_n 0, 1) := by decide +kernel
theorem dX6_init_1 : decode cX6_init 1 = .ok (.invokespecial 3, 3) := by decide +kernel
theorem dX6_init_4 : decode cX6_init 4 = .ok (.aload_n 0, 1) := by decide +kernel
theorem dX6_init_5 : decode cX6_init 5 = .ok (.iconst 4, 1) := by decide +kernel
theorem dX6_init_6 : decode cX6_init 6 = .ok (.anewarray 9, 3) := by decide +kernel
theorem dX6_init_9 : decode cX6_init 9 = .ok (.putfield 11, 3) := by decide +kernel
theorem dX6_init_12 : decode cX6_init 12 = .ok (.aload_n 0, 1) := by decide +kernel
theorem dX6_init_13 : decode cX6_init 13 = .ok (.iconst 4, 1) := by decide +kernel
theorem dX6_init_14 : decode cX6_init 14 = .ok (.anewarray 17, 3) := by decide +kernel
theorem dX6_init_17 : decode cX6_init 17 = .ok (.putfield 19, 3) := by decide +kernel
theorem dX6_init_20 : decode cX6_init 20 = .ok (.aload_n 0, 1) := by decide +kernel
theorem dX6_init_21 : decode cX6_init 21 = .ok (.iconst 4, 1) := by decide +kernel
theorem dX6_init_22 : decode cX6_init 22 = .ok (.anewarray 23, 3) := by decide +kernel
theorem dX6_init_25 : decode cX6_init 25 = .ok (.putfield 25, 3) := by decide +kernel
theorem dX6_init_28 : decode cX6_init 28 = .ok (.aload_n 0, 1) := by decide +kernel
theorem dX6_init_29 : decode cX6_init 29 = .ok (.bipush 10, 2) := by decide +kernel
theorem dX6_init_31 : decode cX6_init 31 = .ok (.anewarray 29, 3) := by decide +kernel
theorem dX6_init_34 : decode cX6_init 34 = .ok (.putfield 31, 3) := by decide +kernel
theorem dX6_init_37 : decode cX6_init 37 = .ok (.aload_n 0, 1) := by decide +kernel
theorem dX6_init_38 : decode cX6_init 38 = .ok (.new 35, 3) := by decide +kernel
theorem dX6_init_41 : decode cX6_init 41 = .ok (.dup, 1) := by decide +kernel
theorem dX6_init_42 : decode cX6_init 42 = .ok (.invokespecial 37, 3) := by decide +kernel
theorem dX6_init_45 : decode cX6_init 45 = .ok (.putfield 38, 3) := by decide +kernel
theorem dX6_init_48 : decode cX6_init 48 = .ok (.iconst 0, 1) := by decide +kernel
theorem dX6_init_49 : decode cX6_init 49 = .ok (.istore_n 1, 1) := by decide +kernel
theorem dX6_init_50 : decode cX6_init 50 = .ok (.iload_n 1, 1) := by decide +kernel
theorem dX6_init_51 : decode cX6_init 51 = .ok (.iconst 4, 1) := by decide +kernel
theorem dX6_init_52 : decode cX6_init 52 = .ok (.if_icmp .ge 22, 3) := by decide +kernel
theorem dX6_init_55 : decode cX6_init 55 = .ok (.aload_n 0, 1) := by decide +kernel
theorem dX6_init_56 : decode cX6_init 56 = .ok (.getfield 11, 3) := by decide +kernel
theorem dX6_init_59 : decode cX6_init 59 = .ok (.iload_n 1, 1) := by decide +kernel
theorem dX6_init_60 : decode cX6_init 60 = .ok (.new 9, 3) := by decide +kernel
theorem dX6_init_63 : decode cX6_init 63 = .ok (.dup, 1) := by decide +kernel
theorem dX6_init_64 : decode cX6_init 64 = .ok (.invokespecial 42, 3) := by decide +kernel
theorem dX6_init_67 : decode cX6_init 67 = .ok (.aastore, 1) := by decide +kernel
theorem dX6_init_68 : decode cX6_init 68 = .ok (.iinc 1 1, 3) := by decide +kernel
theorem dX6_init_71 : decode cX6_init 71 = .ok (.goto (-21), 3) := by decide +kernel
theorem dX6_init_74 : decode cX6_init 74 = .ok (.iconst 0, 1) := by decide +kernel
theorem dX6_init_75 : decode cX6_init 75 = .ok (.istore_n 1, 1) := by decide +kernel
theorem dX6_init_76 : decode cX6_init 76 = .ok (.iload_n 1, 1) := by decide +kernel
theorem dX6_init_77 : decode cX6_init 77 = .ok (.iconst 4, 1) := by decide +kernel
theorem dX6_init_78 : decode cX6_init 78 = .ok (.if_icmp .ge 22, 3) := by decide +kernel
theorem dX6_init_81 : decode cX6_init 81 = .ok (.aload_n 0, 1) := by decide +kernel
theorem dX6_init_82 : decode cX6_init 82 = .ok (.getfield 19, 3) := by decide +kernel
theorem dX6_init_85 : decode cX6_init 85 = .ok (.iload_n 1, 1) := by decide +kernel
theorem dX6_init_86 : decode cX6_init 86 = .ok (.new 17, 3) := by decide +kernel
theorem dX6_init_89 : decode cX6_init 89 = .ok (.dup, 1) := by decide +kernel
theorem dX6_init_90 : decode cX6_init 90 = .ok (.invokespecial 43, 3) := by decide +kernel
theorem dX6_init_93 : decode cX6_init 93 = .ok (.aastore, 1) := by decide +kernel
theorem dX6_init_94 : decode cX6_init 94 = .ok (.iinc 1 1, 3) := by decide +kernel
theorem dX6_init_97 : decode cX6_init 97 = .ok (.goto (-21), 3) := by decide +kernel
theorem dX6_init_100 : decode cX6_init 100 = .ok (.iconst 0, 1) := by decide +kernel
theorem dX6_init_101 : decode cX6_init 101 = .ok (.istore_n 1, 1) := by decide +kernel
theorem dX6_init_102 : decode cX6_init 102 = .ok (.iload_n 1, 1) := by decide +kernel
theorem dX6_init_103 : decode cX6_init 103 = .ok (.iconst 4, 1) := by decide +kernel
theorem dX6_init_104 : decode cX6_init 104 = .ok (.if_icmp .ge 22, 3) := by decide +kernel
theorem dX6_init_107 : decode cX6_init 107 = .ok (.aload_n 0, 1) := by decide +kernel
theorem dX6_init_108 : decode cX6_init 108 = .ok (.getfield 25, 3) := by decide +kernel
theorem dX6_init_111 : decode cX6_init 111 = .ok (.iload_n 1, 1) := by decide +kernel
theorem dX6_init_112 : decode cX6_init 112 = .ok (.new 23, 3) := by decide +kernel
theorem dX6_init_115 : decode cX6_init 115 = .ok (.dup, 1) := by decide +kernel
theorem dX6_init_116 : decode cX6_init 116 = .ok (.invokespecial 44, 3) := by decide +kernel
theorem dX6_init_119 : decode cX6_init 119 = .ok (.aastore, 1) := by decide +kernel
theorem dX6_init_120 : decode cX6_init 120 = .ok (.iinc 1 1, 3) := by decide +kernel
theorem dX6_init_123 : decode cX6_init 123 = .ok (.goto (-21), 3) := by decide +kernel
theorem dX6_init_126 : decode cX6_init 126 = .ok (.iconst 0, 1) := by decide +kernel
theorem dX6_init_127 : decode cX6_init 127 = .ok (.istore_n 1, 1) := by decide +kernel
theorem dX6_init_128 : decode cX6_init 128 = .ok (.iload_n 1, 1) := by decide +kernel
theorem dX6_init_129 : decode cX6_init 129 = .ok (.bipush 10, 2) := by decide +kernel
theorem dX6_init_131 : decode cX6_init 131 = .ok (.if_icmp .ge 22, 3) := by decide +kernel
theorem dX6_init_134 : decode cX6_init 134 = .ok (.aload_n 0, 1) := by decide +kernel
theorem dX6_init_135 : decode cX6_init 135 = .ok (.getfield 31, 3) := by decide +kernel
theorem dX6_init_138 : decode cX6_init 138 = .ok (.iload_n 1, 1) := by decide +kernel
theorem dX6_init_139 : decode cX6_init 139 = .ok (.new 29, 3) := by decide +kernel
theorem dX6_init_142 : decode cX6_init 142 = .ok (.dup, 1) := by decide +kernel
theorem dX6_init_143 : decode cX6_init 143 = .ok (.invokespecial 45, 3) := by decide +kernel
theorem dX6_init_146 : decode cX6_init 146 = .ok (.aastore, 1) := by decide +kernel
theorem dX6_init_147 : decode cX6_init 147 = .ok (.iinc 1 1, 3) := by decide +kernel
theorem dX6_init_150 : decode cX6_init 150 = .ok (.goto (-22), 3) := by decide +kernel
theorem dX6_init_153 : decode cX6_init 153 = .ok (.return_, 1) := by decide +kernel
theorem dX6_patrolled_0 : decode cX6_patrolled 0 = .ok (.aload_n 0, 1) := by decide +kernel
theorem dX6_patrolled_1 : decode cX6_patrolled 1 = .ok (.getfield 46, 3) := by decide +kernel
theorem dX6_patrolled_4 : decode cX6_patrolled 4 = .ok (.iload_n 1, 1) := by decide +kernel
theorem dX6_patrolled_5 : decode cX6_patrolled 5 = .ok (.bipush 7, 2) := by decide +kernel
theorem dX6_patrolled_7 : decode cX6_patrolled 7 = .ok (.irem, 1) := by decide +kernel
theorem dX6_patrolled_8 : decode cX6_patrolled 8 = .ok (.ishr, 1) := by decide +kernel
theorem dX6_patrolled_9 : decode cX6_patrolled 9 = .ok (.iconst 1, 1) := by decide +kernel
theorem dX6_patrolled_10 : decode cX6_patrolled 10 = .ok (.iand, 1) := by decide +kernel
theorem dX6_patrolled_11 : decode cX6_patrolled 11 = .ok (.iconst 1, 1) := by decide +kernel
theorem dX6_patrolled_12 : decode cX6_patrolled 12 = .ok (.if_icmp .ne 7, 3) := by decide +kernel
theorem dX6_patrolled_15 : decode cX6_patrolled 15 = .ok (.iconst 1, 1) := by decide +kernel
theorem dX6_patrolled_16 : decode cX6_patrolled 16 = .ok (.goto 4, 3) := by decide +kernel
theorem dX6_patrolled_19 : decode cX6_patrolled 19 = .ok (.iconst 0, 1) := by decide +kernel
theorem dX6_patrolled_20 : decode cX6_patrolled 20 = .ok (.ireturn, 1) := by decide +kernel
set_option maxRecDepth 20000 in
theorem ggX6_live_X6_travel : GoodIn wsX6_live wsX6_travel := goodIn_r _ [6, 7, 8, 9, 1, 10, 11, 12, 5, 13, 14, 15, 16, 17, 18, 19, 20, 21, 22, 23, 24, 25, 26, 27, 28, 29, 30, 31, 32, 33, 34, 35, 119, 120, 121, 122, 123, 124, 125, 126, 127, 128, 129, 130, 131, 132, 133, 134, 135, 136, 137, 138, 139, 140, 141] (by decide +kernel) (by decide +kernel)
set_option maxRecDepth 20000 in
theorem gX6_live_X6_travel : GoodIn wsX6_live (wsV RX6 50 RX6 yX6_travel wsX6_travel) := goodIn_app (goodIn_of _ (by decide +kernel)) ggX6_live_X6_travel
set_option maxRecDepth 20000 in
theorem ggX6_live_X6_warm : GoodIn wsX6_live wsX6_warm := goodIn_r _ [39, 40, 41, 42, 43, 44, 45, 46, 47, 48, 49, 50, 51, 52, 53, 54, 55, 56, 57, 58, 59, 60, 61, 119, 120, 121, 122, 123, 124, 125, 126, 127, 128, 129, 142, 143, 144, 145, 146] (by decide +kernel) (by decide +kernel)
set_option maxRecDepth 20000 in
theorem gX6_live_X6_warm : GoodIn wsX6_live (wsV RX6 53 RX6 yX6_warm wsX6_warm) := goodIn_app (goodIn_of _ (by decide +kernel)) ggX6_live_X6_warm
set_option maxRecDepth 20000 in
theorem ggX6_live_X6_grow : GoodIn wsX6_live wsX6_grow := goodIn_r _ [65, 66, 67, 68, 69, 70, 71, 72, 73, 74, 75, 76, 55, 56, 57, 119, 120, 121, 122, 123, 124, 125, 126, 127, 128, 129, 147, 148, 149] (by decide +kernel) (by decide +kernel)
set_option maxRecDepth 20000 in
theorem gX6_live_X6_grow : GoodIn wsX6_live (wsV RX6 56 RX6 yX6_grow wsX6_grow) := goodIn_app (goodIn_of _ (by decide +kernel)) ggX6_live_X6_grow
set_option maxRecDepth 20000 in
theorem ggX6_live_X6_serve : GoodIn wsX6_live wsX6_serve := goodIn_r _ [80, 81, 1, 82, 8, 83, 84, 85, 86, 87, 88, 89, 90, 91, 92, 93, 94, 95, 96, 97, 98, 99, 100, 101, 102, 103, 32, 104, 105, 106, 107, 55, 56, 57, 108, 109, 110, 111, 112, 113, 114, 115, 116, 117, 118, 119, 120, 121, 122, 123, 124, 125, 126, 127, 128, 129, 150, 151, 152, 153, 154, 135, 136, 137, 138, 139, 140, 141] (by decide +kernel) (by decide +kernel)
set_option maxRecDepth 20000 in
theorem gX6_live_X6_serve : GoodIn wsX6_live (wsV RX6 59 RX6 yX6_serve wsX6_serve) := goodIn_app (goodIn_of _ (by decide +kernel)) ggX6_live_X6_serve
theorem dX6_live_0 : decode cX6_live 0 = .ok (.iconst 0, 1) := by decide +kernel
theorem dX6_live_1 : decode cX6_live 1 = .ok (.istore_n 2, 1) := by decide +kernel
theorem dX6_live_2 : decode cX6_live 2 = .ok (.iconst 0, 1) := by decide +kernel
theorem dX6_live_3 : decode cX6_live 3 = .ok (.istore_n 3, 1) := by decide +kernel
theorem dX6_live_4 : decode cX6_live 4 = .ok (.iload_n 3, 1) := by decide +kernel
theorem dX6_live_5 : decode cX6_live 5 = .ok (.iload_n 1, 1) := by decide +kernel
theorem dX6_live_6 : decode cX6_live 6 = .ok (.if_icmp .ge 38, 3) := by decide +kernel
theorem dX6_live_9 : decode cX6_live 9 = .ok (.aload_n 0, 1) := by decide +kernel
theorem dX6_live_10 : decode cX6_live 10 = .ok (.invokevirtual 50, 3) := by decide +kernel
theorem dX6_live_13 : decode cX6_live 13 = .ok (.aload_n 0, 1) := by decide +kernel
theorem dX6_live_14 : decode cX6_live 14 = .ok (.invokevirtual 53, 3) := by decide +kernel
theorem dX6_live_17 : decode cX6_live 17 = .ok (.aload_n 0, 1) := by decide +kernel
theorem dX6_live_18 : decode cX6_live 18 = .ok (.invokevirtual 56, 3) := by decide +kernel
theorem dX6_live_21 : decode cX6_live 21 = .ok (.iload_n 2, 1) := by decide +kernel
theorem dX6_live_22 : decode cX6_live 22 = .ok (.aload_n 0, 1) := by decide +kernel
theorem dX6_live_23 : decode cX6_live 23 = .ok (.invokevirtual 59, 3) := by decide +kernel
theorem dX6_live_26 : decode cX6_live 26 = .ok (.iadd, 1) := by decide +kernel
theorem dX6_live_27 : decode cX6_live 27 = .ok (.istore_n 2, 1) := by decide +kernel
theorem dX6_live_28 : decode cX6_live 28 = .ok (.aload_n 0, 1) := by decide +kernel
theorem dX6_live_29 : decode cX6_live 29 = .ok (.dup, 1) := by decide +kernel
theorem dX6_live_30 : decode cX6_live 30 = .ok (.getfield 63, 3) := by decide +kernel
theorem dX6_live_33 : decode cX6_live 33 = .ok (.iconst 1, 1) := by decide +kernel
theorem dX6_live_34 : decode cX6_live 34 = .ok (.iadd, 1) := by decide +kernel
theorem dX6_live_35 : decode cX6_live 35 = .ok (.putfield 63, 3) := by decide +kernel
theorem dX6_live_38 : decode cX6_live 38 = .ok (.iinc 3 1, 3) := by decide +kernel
theorem dX6_live_41 : decode cX6_live 41 = .ok (.goto (-37), 3) := by decide +kernel
theorem dX6_live_44 : decode cX6_live 44 = .ok (.iload_n 2, 1) := by decide +kernel
theorem dX6_live_45 : decode cX6_live 45 = .ok (.ireturn, 1) := by decide +kernel
set_option maxRecDepth 20000 in
theorem ggX6_travel_X6_patrolled : GoodIn wsX6_travel wsX6_patrolled := goodIn_r _ [9, 10, 32, 33, 34, 35, 36, 37, 38, 39, 40, 41, 42] (by decide +kernel) (by decide +kernel)
set_option maxRecDepth 20000 in
theorem gX6_travel_X6_patrolled : GoodIn wsX6_travel (wsV RX6 69 RX6 yX6_patrolled wsX6_patrolled) := goodIn_app (goodIn_of _ (by decide +kernel)) ggX6_travel_X6_patrolled
set_option maxRecDepth 20000 in
theorem ggX6_travel_X3_travel : GoodIn wsX6_travel wsX3_travel := goodIn_r _ [15, 16, 17, 18, 19, 20, 21, 22, 14, 23, 24, 43, 44, 45, 46, 47] (by decide +kernel) (by decide +kernel)
set_option maxRecDepth 20000 in
theorem gX6_travel_X3_travel : GoodIn wsX6_travel (wsV RX6 73 RX3 yX3_travel wsX3_travel) := goodIn_app (goodIn_of _ (by decide +kernel)) ggX6_travel_X3_travel
set_option maxRecDepth 20000 in
theorem ggX6_travel_X4_add : GoodIn wsX6_travel wsX4_add := goodIn_r _ [29, 30, 31, 48, 49, 50, 51, 52, 53, 54] (by decide +kernel) (by decide +kernel)
set_option maxRecDepth 20000 in
theorem gX6_travel_X4_add : GoodIn wsX6_travel (wsV RX6 76 RX4 yX4_add wsX4_add) := goodIn_app (goodIn_of _ (by decide +kernel)) ggX6_travel_X4_add
theorem dX6_travel_0 : decode cX6_travel 0 = .ok (.iconst 0, 1) := by decide +kernel
theorem dX6_travel_1 : decode cX6_travel 1 = .ok (.istore_n 1, 1) := by decide +kernel
theorem dX6_travel_2 : decode cX6_travel 2 = .ok (.iload_n 1, 1) := by decide +kernel
theorem dX6_travel_3 : decode cX6_travel 3 = .ok (.aload_n 0, 1) := by decide +kernel
theorem dX6_travel_4 : decode cX6_travel 4 = .ok (.getfield 66, 3) := by decide +kernel
theorem dX6_travel_7 : decode cX6_travel 7 = .ok (.if_icmp .ge 34, 3) := by decide +kernel
theorem dX6_travel_10 : decode cX6_travel 10 = .ok (.aload_n 0, 1) := by decide +kernel
theorem dX6_travel_11 : decode cX6_travel 11 = .ok (.getfield 38, 3) := by decide +kernel
theorem dX6_travel_14 : decode cX6_travel 14 = .ok (.iconst 1, 1) := by decide +kernel
theorem dX6_travel_15 : decode cX6_travel 15 = .ok (.aload_n 0, 1) := by decide +kernel
theorem dX6_travel_16 : decode cX6_travel 16 = .ok (.getfield 25, 3) := by decide +kernel
theorem dX6_travel_19 : decode cX6_travel 19 = .ok (.iload_n 1, 1) := by decide +kernel
theorem dX6_travel_20 : decode cX6_travel 20 = .ok (.aaload, 1) := by decide +kernel
theorem dX6_travel_21 : decode cX6_travel 21 = .ok (.aload_n 0, 1) := by decide +kernel
theorem dX6_travel_22 : decode cX6_travel 22 = .ok (.aload_n 0, 1) := by decide +kernel
theorem dX6_travel_23 : decode cX6_travel 23 = .ok (.getfield 63, 3) := by decide +kernel
theorem dX6_travel_26 : decode cX6_travel 26 = .ok (.invokevirtual 69, 3) := by decide +kernel
theorem dX6_travel_29 : decode cX6_travel 29 = .ok (.invokevirtual 73, 3) := by decide +kernel
theorem dX6_travel_32 : decode cX6_travel 32 = .ok (.invokevirtual 76, 3) := by decide +kernel
theorem dX6_travel_35 : decode cX6_travel 35 = .ok (.iinc 1 1, 3) := by decide +kernel
theorem dX6_travel_38 : decode cX6_travel 38 = .ok (.goto (-36), 3) := by decide +kernel
theorem dX6_travel_41 : decode cX6_travel 41 = .ok (.return_, 1) := by decide +kernel
set_option maxRecDepth 20000 in
theorem ggX6_warm_X2_warm : GoodIn wsX6_warm wsX2_warm := goodIn_r _ [7, 8, 9, 10, 11, 6, 12, 13, 14, 15, 16, 17, 18, 19, 20, 21, 22, 34, 35, 36, 37, 38] (by decide +kernel) (by decide +kernel)
set_option maxRecDepth 20000 in
theorem gX6_warm_X2_warm : GoodIn wsX6_warm (wsV RX6 83 RX2 yX2_warm wsX2_warm) := goodIn_app (goodIn_of _ (by decide +kernel)) ggX6_warm_X2_warm
theorem dX6_warm_0 : decode cX6_warm 0 = .ok (.iconst 0, 1) := by decide +kernel
theorem dX6_warm_1 : decode cX6_warm 1 = .ok (.istore_n 1, 1) := by decide +kernel
theorem dX6_warm_2 : decode cX6_warm 2 = .ok (.iload_n 1, 1) := by decide +kernel
theorem dX6_warm_3 : decode cX6_warm 3 = .ok (.aload_n 0, 1) := by decide +kernel
theorem dX6_warm_4 : decode cX6_warm 4 = .ok (.getfield 80, 3) := by decide +kernel
theorem dX6_warm_7 : decode cX6_warm 7 = .ok (.if_icmp .ge 18, 3) := by decide +kernel
theorem dX6_warm_10 : decode cX6_warm 10 = .ok (.aload_n 0, 1) := by decide +kernel
theorem dX6_warm_11 : decode cX6_warm 11 = .ok (.getfield 19, 3) := by decide +kernel
theorem dX6_warm_14 : decode cX6_warm 14 = .ok (.iload_n 1, 1) := by decide +kernel
theorem dX6_warm_15 : decode cX6_warm 15 = .ok (.aaload, 1) := by decide +kernel
theorem dX6_warm_16 : decode cX6_warm 16 = .ok (.invokevirtual 83, 3) := by decide +kernel
theorem dX6_warm_19 : decode cX6_warm 19 = .ok (.iinc 1 1, 3) := by decide +kernel
theorem dX6_warm_22 : decode cX6_warm 22 = .ok (.goto (-20), 3) := by decide +kernel
theorem dX6_warm_25 : decode cX6_warm 25 = .ok (.return_, 1) := by decide +kernel
set_option maxRecDepth 20000 in
theorem ggX6_grow_X0_grow : GoodIn wsX6_grow wsX0_grow := goodIn_r _ [7, 8, 9, 10, 11, 12, 13, 14, 26, 27, 28] (by decide +kernel) (by decide +kernel)
set_option maxRecDepth 20000 in
theorem gX6_grow_X0_grow : GoodIn wsX6_grow (wsV RX6 87 RX0 yX0_grow wsX0_grow) := goodIn_app (goodIn_of _ (by decide +kernel)) ggX6_grow_X0_grow
theorem dX6_grow_0 : decode cX6_grow 0 = .ok (.iconst 0, 1) := by decide +kernel
theorem dX6_grow_1 : decode cX6_grow 1 = .ok (.istore_n 1, 1) := by decide +kernel
theorem dX6_grow_2 : decode cX6_grow 2 = .ok (.iload_n 1, 1) := by decide +kernel
theorem dX6_grow_3 : decode cX6_grow 3 = .ok (.aload_n 0, 1) := by decide +kernel
theorem dX6_grow_4 : decode cX6_grow 4 = .ok (.getfield 84, 3) := by decide +kernel
theorem dX6_grow_7 : decode cX6_grow 7 = .ok (.if_icmp .ge 18, 3) := by decide +kernel
theorem dX6_grow_10 : decode cX6_grow 10 = .ok (.aload_n 0, 1) := by decide +kernel
theorem dX6_grow_11 : decode cX6_grow 11 = .ok (.getfield 11, 3) := by decide +kernel
theorem dX6_grow_14 : decode cX6_grow 14 = .ok (.iload_n 1, 1) := by decide +kernel
theorem dX6_grow_15 : decode cX6_grow 15 = .ok (.aaload, 1) := by decide +kernel
theorem dX6_grow_16 : decode cX6_grow 16 = .ok (.invokevirtual 87, 3) := by decide +kernel
theorem dX6_grow_19 : decode cX6_grow 19 = .ok (.iinc 1 1, 3) := by decide +kernel
theorem dX6_grow_22 : decode cX6_grow 22 = .ok (.goto (-20), 3) := by decide +kernel
theorem dX6_grow_25 : decode cX6_grow 25 = .ok (.return_, 1) := by decide +kernel
set_option maxRecDepth 20000 in
theorem ggX6_serve_X1_renew : GoodIn wsX6_serve wsX1_renew := goodIn_r _ [9, 10, 11, 56, 57, 58, 59, 60] (by decide +kernel) (by decide +kernel)
set_option maxRecDepth 20000 in
theorem gX6_serve_X1_renew : GoodIn wsX6_serve (wsV RX6 91 RX1 yX1_renew wsX1_renew) := goodIn_app (goodIn_of _ (by decide +kernel)) ggX6_serve_X1_renew
set_option maxRecDepth 20000 in
theorem ggX6_serve_X1_serveDay : GoodIn wsX6_serve wsX1_serveDay := goodIn_r _ [15, 16, 17, 18, 8, 19, 11, 20, 21, 22, 23, 24, 25, 26, 27, 28, 29, 30, 31, 32, 33, 34, 35, 36, 37, 38, 39, 40, 41, 42, 43, 44, 56, 57, 58, 59, 60, 61, 62, 63, 64, 65, 66, 67] (by decide +kernel) (by decide +kernel)
set_option maxRecDepth 20000 in
theorem gX6_serve_X1_serveDay : GoodIn wsX6_serve (wsV RX6 94 RX1 yX1_serveDay wsX1_serveDay) := goodIn_app (goodIn_of _ (by decide +kernel)) ggX6_serve_X1_serveDay
theorem dX6_serve_0 : decode cX6_serve 0 = .ok (.iconst 0, 1) := by decide +kernel
theorem dX6_serve_1 : decode cX6_serve 1 = .ok (.istore_n 1, 1) := by decide +kernel
theorem dX6_serve_2 : decode cX6_serve 2 = .ok (.iconst 0, 1) := by decide +kernel
theorem dX6_serve_3 : decode cX6_serve 3 = .ok (.istore_n 2, 1) := by decide +kernel
theorem dX6_serve_4 : decode cX6_serve 4 = .ok (.iload_n 2, 1) := by decide +kernel
theorem dX6_serve_5 : decode cX6_serve 5 = .ok (.aload_n 0, 1) := by decide +kernel
theorem dX6_serve_6 : decode cX6_serve 6 = .ok (.getfield 88, 3) := by decide +kernel
theorem dX6_serve_9 : decode cX6_serve 9 = .ok (.if_icmp .ge 44, 3) := by decide +kernel
theorem dX6_serve_12 : decode cX6_serve 12 = .ok (.aload_n 0, 1) := by decide +kernel
theorem dX6_serve_13 : decode cX6_serve 13 = .ok (.getfield 63, 3) := by decide +kernel
theorem dX6_serve_16 : decode cX6_serve 16 = .ok (.bipush 7, 2) := by decide +kernel
theorem dX6_serve_18 : decode cX6_serve 18 = .ok (.irem, 1) := by decide +kernel
theorem dX6_serve_19 : decode cX6_serve 19 = .ok (.ifCond .ne 12, 3) := by decide +kernel
theorem dX6_serve_22 : decode cX6_serve 22 = .ok (.aload_n 0, 1) := by decide +kernel
theorem dX6_serve_23 : decode cX6_serve 23 = .ok (.getfield 31, 3) := by decide +kernel
theorem dX6_serve_26 : decode cX6_serve 26 = .ok (.iload_n 2, 1) := by decide +kernel
theorem dX6_serve_27 : decode cX6_serve 27 = .ok (.aaload, 1) := by decide +kernel
theorem dX6_serve_28 : decode cX6_serve 28 = .ok (.invokevirtual 91, 3) := by decide +kernel
theorem dX6_serve_31 : decode cX6_serve 31 = .ok (.iload_n 1, 1) := by decide +kernel
theorem dX6_serve_32 : decode cX6_serve 32 = .ok (.aload_n 0, 1) := by decide +kernel
theorem dX6_serve_33 : decode cX6_serve 33 = .ok (.getfield 31, 3) := by decide +kernel
theorem dX6_serve_36 : decode cX6_serve 36 = .ok (.iload_n 2, 1) := by decide +kernel
theorem dX6_serve_37 : decode cX6_serve 37 = .ok (.aaload, 1) := by decide +kernel
theorem dX6_serve_38 : decode cX6_serve 38 = .ok (.aload_n 0, 1) := by decide +kernel
theorem dX6_serve_39 : decode cX6_serve 39 = .ok (.getfield 38, 3) := by decide +kernel
theorem dX6_serve_42 : decode cX6_serve 42 = .ok (.invokevirtual 94, 3) := by decide +kernel
theorem dX6_serve_45 : decode cX6_serve 45 = .ok (.iadd, 1) := by decide +kernel
theorem dX6_serve_46 : decode cX6_serve 46 = .ok (.istore_n 1, 1) := by decide +kernel
theorem dX6_serve_47 : decode cX6_serve 47 = .ok (.iinc 2 1, 3) := by decide +kernel
theorem dX6_serve_50 : decode cX6_serve 50 = .ok (.goto (-46), 3) := by decide +kernel
theorem dX6_serve_53 : decode cX6_serve 53 = .ok (.iload_n 1, 1) := by decide +kernel
theorem dX6_serve_54 : decode cX6_serve 54 = .ok (.ireturn, 1) := by decide +kernel
set_option maxRecDepth 20000 in
theorem ggX6_become_X4_become : GoodIn wsX6_become wsX4_become := goodIn_r _ [16, 17, 18, 19, 20, 21, 22, 23, 73, 74, 75, 76, 77, 78, 79] (by decide +kernel) (by decide +kernel)
set_option maxRecDepth 20000 in
theorem gX6_become_X4_become : GoodIn wsX6_become (wsV RX6 98 RX4 yX4_become wsX4_become) := goodIn_app (goodIn_of _ (by decide +kernel)) ggX6_become_X4_become
set_option maxRecDepth 20000 in
theorem ggX6_become_X0_become : GoodIn wsX6_become wsX0_become := goodIn_r _ [28, 29, 30, 31, 80, 81, 82] (by decide +kernel) (by decide +kernel)
set_option maxRecDepth 20000 in
theorem gX6_become_X0_become : GoodIn wsX6_become (wsV RX6 102 RX0 yX0_become wsX0_become) := goodIn_app (goodIn_of _ (by decide +kernel)) ggX6_become_X0_become
set_option maxRecDepth 20000 in
theorem ggX6_become_X2_become : GoodIn wsX6_become wsX2_become := goodIn_r _ [36, 37, 38, 39, 40, 41, 83, 84, 85, 86, 87] (by decide +kernel) (by decide +kernel)
set_option maxRecDepth 20000 in
theorem gX6_become_X2_become : GoodIn wsX6_become (wsV RX6 105 RX2 yX2_become wsX2_become) := goodIn_app (goodIn_of _ (by decide +kernel)) ggX6_become_X2_become
set_option maxRecDepth 20000 in
theorem ggX6_become_X3_become : GoodIn wsX6_become wsX3_become := goodIn_r _ [46, 47, 48, 49, 50, 51, 88, 89, 90, 91, 92] (by decide +kernel) (by decide +kernel)
set_option maxRecDepth 20000 in
theorem gX6_become_X3_become : GoodIn wsX6_become (wsV RX6 108 RX3 yX3_become wsX3_become) := goodIn_app (goodIn_of _ (by decide +kernel)) ggX6_become_X3_become
set_option maxRecDepth 20000 in
theorem ggX6_become_X1_become : GoodIn wsX6_become wsX1_become := goodIn_r _ [56, 57, 58, 59, 60, 61, 93, 94, 95, 96, 97] (by decide +kernel) (by decide +kernel)
set_option maxRecDepth 20000 in
theorem gX6_become_X1_become : GoodIn wsX6_become (wsV RX6 111 RX1 yX1_become wsX1_become) := goodIn_app (goodIn_of _ (by decide +kernel)) ggX6_become_X1_become
theorem dX6_become_0 : decode cX6_become 0 = .ok (.aload_n 0, 1) := by decide +kernel
theorem dX6_become_1 : decode cX6_become 1 = .ok (.aload_n 1, 1) := by decide +kernel
theorem dX6_become_2 : decode cX6_become 2 = .ok (.getfield 63, 3) := by decide +kernel
theorem dX6_become_5 : decode cX6_become 5 = .ok (.putfield 63, 3) := by decide +kernel
theorem dX6_become_8 : decode cX6_become 8 = .ok (.aload_n 0, 1) := by decide +kernel
theorem dX6_become_9 : decode cX6_become 9 = .ok (.aload_n 1, 1) := by decide +kernel
theorem dX6_become_10 : decode cX6_become 10 = .ok (.getfield 46, 3) := by decide +kernel
theorem dX6_become_13 : decode cX6_become 13 = .ok (.putfield 46, 3) := by decide +kernel
theorem dX6_become_16 : decode cX6_become 16 = .ok (.aload_n 0, 1) := by decide +kernel
theorem dX6_become_17 : decode cX6_become 17 = .ok (.getfield 38, 3) := by decide +kernel
theorem dX6_become_20 : decode cX6_become 20 = .ok (.aload_n 1, 1) := by decide +kernel
theorem dX6_become_21 : decode cX6_become 21 = .ok (.getfield 38, 3) := by decide +kernel
theorem dX6_become_24 : decode cX6_become 24 = .ok (.invokevirtual 98, 3) := by decide +kernel
theorem dX6_become_27 : decode cX6_become 27 = .ok (.aload_n 0, 1) := by decide +kernel
theorem dX6_become_28 : decode cX6_become 28 = .ok (.aload_n 1, 1) := by decide +kernel
theorem dX6_become_29 : decode cX6_become 29 = .ok (.getfield 84, 3) := by decide +kernel
theorem dX6_become_32 : decode cX6_become 32 = .ok (.putfield 84, 3) := by decide +kernel
theorem dX6_become_35 : decode cX6_become 35 = .ok (.iconst 0, 1) := by decide +kernel
theorem dX6_become_36 : decode cX6_become 36 = .ok (.istore_n 2, 1) := by decide +kernel
theorem dX6_become_37 : decode cX6_become 37 = .ok (.iload_n 2, 1) := by decide +kernel
theorem dX6_become_38 : decode cX6_become 38 = .ok (.aload_n 0, 1) := by decide +kernel
theorem dX6_become_39 : decode cX6_become 39 = .ok (.getfield 84, 3) := by decide +kernel
theorem dX6_become_42 : decode cX6_become 42 = .ok (.if_icmp .ge 24, 3) := by decide +kernel
theorem dX6_become_45 : decode cX6_become 45 = .ok (.aload_n 0, 1) := by decide +kernel
theorem dX6_become_46 : decode cX6_become 46 = .ok (.getfield 11, 3) := by decide +kernel
theorem dX6_become_49 : decode cX6_become 49 = .ok (.iload_n 2, 1) := by decide +kernel
theorem dX6_become_50 : decode cX6_become 50 = .ok (.aaload, 1) := by decide +kernel
theorem dX6_become_51 : decode cX6_become 51 = .ok (.aload_n 1, 1) := by decide +kernel
theorem dX6_become_52 : decode cX6_become 52 = .ok (.getfield 11, 3) := by decide +kernel
theorem dX6_become_55 : decode cX6_become 55 = .ok (.iload_n 2, 1) := by decide +kernel
theorem dX6_become_56 : decode cX6_become 56 = .ok (.aaload, 1) := by decide +kernel
theorem dX6_become_57 : decode cX6_become 57 = .ok (.invokevirtual 102, 3) := by decide +kernel
theorem dX6_become_60 : decode cX6_become 60 = .ok (.iinc 2 1, 3) := by decide +kernel
theorem dX6_become_63 : decode cX6_become 63 = .ok (.goto (-26), 3) := by decide +kernel
theorem dX6_become_66 : decode cX6_become 66 = .ok (.aload_n 0, 1) := by decide +kernel
theorem dX6_become_67 : decode cX6_become 67 = .ok (.aload_n 1, 1) := by decide +kernel
theorem dX6_become_68 : decode cX6_become 68 = .ok (.getfield 80, 3) := by decide +kernel
theorem dX6_become_71 : decode cX6_become 71 = .ok (.putfield 80, 3) := by decide +kernel
theorem dX6_become_74 : decode cX6_become 74 = .ok (.iconst 0, 1) := by decide +kernel
theorem dX6_become_75 : decode cX6_become 75 = .ok (.istore_n 2, 1) := by decide +kernel
theorem dX6_become_76 : decode cX6_become 76 = .ok (.iload_n 2, 1) := by decide +kernel
theorem dX6_become_77 : decode cX6_become 77 = .ok (.aload_n 0, 1) := by decide +kernel
theorem dX6_become_78 : decode cX6_become 78 = .ok (.getfield 80, 3) := by decide +kernel
theorem dX6_become_81 : decode cX6_become 81 = .ok (.if_icmp .ge 24, 3) := by decide +kernel
theorem dX6_become_84 : decode cX6_become 84 = .ok (.aload_n 0, 1) := by decide +kernel
theorem dX6_become_85 : decode cX6_become 85 = .ok (.getfield 19, 3) := by decide +kernel
theorem dX6_become_88 : decode cX6_become 88 = .ok (.iload_n 2, 1) := by decide +kernel
theorem dX6_become_89 : decode cX6_become 89 = .ok (.aaload, 1) := by decide +kernel
theorem dX6_become_90 : decode cX6_become 90 = .ok (.aload_n 1, 1) := by decide +kernel
theorem dX6_become_91 : decode cX6_become 91 = .ok (.getfield 19, 3) := by decide +kernel
theorem dX6_become_94 : decode cX6_become 94 = .ok (.iload_n 2, 1) := by decide +kernel
theorem dX6_become_95 : decode cX6_become 95 = .ok (.aaload, 1) := by decide +kernel
theorem dX6_become_96 : decode cX6_become 96 = .ok (.invokevirtual 105, 3) := by decide +kernel
theorem dX6_become_99 : decode cX6_become 99 = .ok (.iinc 2 1, 3) := by decide +kernel
theorem dX6_become_102 : decode cX6_become 102 = .ok (.goto (-26), 3) := by decide +kernel
theorem dX6_become_105 : decode cX6_become 105 = .ok (.aload_n 0, 1) := by decide +kernel
theorem dX6_become_106 : decode cX6_become 106 = .ok (.aload_n 1, 1) := by decide +kernel
theorem dX6_become_107 : decode cX6_become 107 = .ok (.getfield 66, 3) := by decide +kernel
theorem dX6_become_110 : decode cX6_become 110 = .ok (.putfield 66, 3) := by decide +kernel
theorem dX6_become_113 : decode cX6_become 113 = .ok (.iconst 0, 1) := by decide +kernel
theorem dX6_become_114 : decode cX6_become 114 = .ok (.istore_n 2, 1) := by decide +kernel
theorem dX6_become_115 : decode cX6_become 115 = .ok (.iload_n 2, 1) := by decide +kernel
theorem dX6_become_116 : decode cX6_become 116 = .ok (.aload_n 0, 1) := by decide +kernel
theorem dX6_become_117 : decode cX6_become 117 = .ok (.getfield 66, 3) := by decide +kernel
theorem dX6_become_120 : decode cX6_become 120 = .ok (.if_icmp .ge 24, 3) := by decide +kernel
theorem dX6_become_123 : decode cX6_become 123 = .ok (.aload_n 0, 1) := by decide +kernel
theorem dX6_become_124 : decode cX6_become 124 = .ok (.getfield 25, 3) := by decide +kernel
theorem dX6_become_127 : decode cX6_become 127 = .ok (.iload_n 2, 1) := by decide +kernel
theorem dX6_become_128 : decode cX6_become 128 = .ok (.aaload, 1) := by decide +kernel
theorem dX6_become_129 : decode cX6_become 129 = .ok (.aload_n 1, 1) := by decide +kernel
theorem dX6_become_130 : decode cX6_become 130 = .ok (.getfield 25, 3) := by decide +kernel
theorem dX6_become_133 : decode cX6_become 133 = .ok (.iload_n 2, 1) := by decide +kernel
theorem dX6_become_134 : decode cX6_become 134 = .ok (.aaload, 1) := by decide +kernel
theorem dX6_become_135 : decode cX6_become 135 = .ok (.invokevirtual 108, 3) := by decide +kernel
theorem dX6_become_138 : decode cX6_become 138 = .ok (.iinc 2 1, 3) := by decide +kernel
theorem dX6_become_141 : decode cX6_become 141 = .ok (.goto (-26), 3) := by decide +kernel
theorem dX6_become_144 : decode cX6_become 144 = .ok (.aload_n 0, 1) := by decide +kernel
theorem dX6_become_145 : decode cX6_become 145 = .ok (.aload_n 1, 1) := by decide +kernel
theorem dX6_become_146 : decode cX6_become 146 = .ok (.getfield 88, 3) := by decide +kernel
theorem dX6_become_149 : decode cX6_become 149 = .ok (.putfield 88, 3) := by decide +kernel
theorem dX6_become_152 : decode cX6_become 152 = .ok (.iconst 0, 1) := by decide +kernel
theorem dX6_become_153 : decode cX6_become 153 = .ok (.istore_n 2, 1) := by decide +kernel
theorem dX6_become_154 : decode cX6_become 154 = .ok (.iload_n 2, 1) := by decide +kernel
theorem dX6_become_155 : decode cX6_become 155 = .ok (.aload_n 0, 1) := by decide +kernel
theorem dX6_become_156 : decode cX6_become 156 = .ok (.getfield 88, 3) := by decide +kernel
theorem dX6_become_159 : decode cX6_become 159 = .ok (.if_icmp .ge 24, 3) := by decide +kernel
theorem dX6_become_162 : decode cX6_become 162 = .ok (.aload_n 0, 1) := by decide +kernel
theorem dX6_become_163 : decode cX6_become 163 = .ok (.getfield 31, 3) := by decide +kernel
theorem dX6_become_166 : decode cX6_become 166 = .ok (.iload_n 2, 1) := by decide +kernel
theorem dX6_become_167 : decode cX6_become 167 = .ok (.aaload, 1) := by decide +kernel
theorem dX6_become_168 : decode cX6_become 168 = .ok (.aload_n 1, 1) := by decide +kernel
theorem dX6_become_169 : decode cX6_become 169 = .ok (.getfield 31, 3) := by decide +kernel
theorem dX6_become_172 : decode cX6_become 172 = .ok (.iload_n 2, 1) := by decide +kernel
theorem dX6_become_173 : decode cX6_become 173 = .ok (.aaload, 1) := by decide +kernel
theorem dX6_become_174 : decode cX6_become 174 = .ok (.invokevirtual 111, 3) := by decide +kernel
theorem dX6_become_177 : decode cX6_become 177 = .ok (.iinc 2 1, 3) := by decide +kernel
theorem dX6_become_180 : decode cX6_become 180 = .ok (.goto (-26), 3) := by decide +kernel
theorem dX6_become_183 : decode cX6_become 183 = .ok (.return_, 1) := by decide +kernel
theorem dX6_size_0 : decode cX6_size 0 = .ok (.bipush 9, 2) := by decide +kernel
theorem dX6_size_2 : decode cX6_size 2 = .ok (.ireturn, 1) := by decide +kernel
theorem dX6_tell_0 : decode cX6_tell 0 = .ok (.iload_n 1, 1) := by decide +kernel
theorem dX6_tell_1 : decode cX6_tell 1 = .ok (.tableswitch 108 0 7 #[47, 52, 60, 68, 76, 84, 92, 100], 47) := by decide +kernel
theorem dX6_tell_48 : decode cX6_tell 48 = .ok (.aload_n 0, 1) := by decide +kernel
theorem dX6_tell_49 : decode cX6_tell 49 = .ok (.getfield 63, 3) := by decide +kernel
theorem dX6_tell_52 : decode cX6_tell 52 = .ok (.ireturn, 1) := by decide +kernel
theorem dX6_tell_53 : decode cX6_tell 53 = .ok (.aload_n 0, 1) := by decide +kernel
theorem dX6_tell_54 : decode cX6_tell 54 = .ok (.getfield 38, 3) := by decide +kernel
theorem dX6_tell_57 : decode cX6_tell 57 = .ok (.getfield 114, 3) := by decide +kernel
theorem dX6_tell_60 : decode cX6_tell 60 = .ok (.ireturn, 1) := by decide +kernel
theorem dX6_tell_61 : decode cX6_tell 61 = .ok (.aload_n 0, 1) := by decide +kernel
theorem dX6_tell_62 : decode cX6_tell 62 = .ok (.getfield 38, 3) := by decide +kernel
theorem dX6_tell_65 : decode cX6_tell 65 = .ok (.getfield 117, 3) := by decide +kernel
theorem dX6_tell_68 : decode cX6_tell 68 = .ok (.ireturn, 1) := by decide +kernel
theorem dX6_tell_69 : decode cX6_tell 69 = .ok (.aload_n 0, 1) := by decide +kernel
theorem dX6_tell_70 : decode cX6_tell 70 = .ok (.getfield 38, 3) := by decide +kernel
theorem dX6_tell_73 : decode cX6_tell 73 = .ok (.getfield 120, 3) := by decide +kernel
theorem dX6_tell_76 : decode cX6_tell 76 = .ok (.ireturn, 1) := by decide +kernel
theorem dX6_tell_77 : decode cX6_tell 77 = .ok (.aload_n 0, 1) := by decide +kernel
theorem dX6_tell_78 : decode cX6_tell 78 = .ok (.getfield 38, 3) := by decide +kernel
theorem dX6_tell_81 : decode cX6_tell 81 = .ok (.getfield 123, 3) := by decide +kernel
theorem dX6_tell_84 : decode cX6_tell 84 = .ok (.ireturn, 1) := by decide +kernel
theorem dX6_tell_85 : decode cX6_tell 85 = .ok (.aload_n 0, 1) := by decide +kernel
theorem dX6_tell_86 : decode cX6_tell 86 = .ok (.getfield 38, 3) := by decide +kernel
theorem dX6_tell_89 : decode cX6_tell 89 = .ok (.getfield 126, 3) := by decide +kernel
theorem dX6_tell_92 : decode cX6_tell 92 = .ok (.ireturn, 1) := by decide +kernel
theorem dX6_tell_93 : decode cX6_tell 93 = .ok (.aload_n 0, 1) := by decide +kernel
theorem dX6_tell_94 : decode cX6_tell 94 = .ok (.getfield 38, 3) := by decide +kernel
theorem dX6_tell_97 : decode cX6_tell 97 = .ok (.getfield 129, 3) := by decide +kernel
theorem dX6_tell_100 : decode cX6_tell 100 = .ok (.ireturn, 1) := by decide +kernel
theorem dX6_tell_101 : decode cX6_tell 101 = .ok (.aload_n 0, 1) := by decide +kernel
theorem dX6_tell_102 : decode cX6_tell 102 = .ok (.getfield 38, 3) := by decide +kernel
theorem dX6_tell_105 : decode cX6_tell 105 = .ok (.getfield 132, 3) := by decide +kernel
theorem dX6_tell_108 : decode cX6_tell 108 = .ok (.ireturn, 1) := by decide +kernel
theorem dX6_tell_109 : decode cX6_tell 109 = .ok (.aload_n 0, 1) := by decide +kernel
theorem dX6_tell_110 : decode cX6_tell 110 = .ok (.getfield 46, 3) := by decide +kernel
theorem dX6_tell_113 : decode cX6_tell 113 = .ok (.ireturn, 1) := by decide +kernel
