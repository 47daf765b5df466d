theorem dX8_init_0 : decode cX8_init 0 = .ok (.aload_n 0, 1) := by decide +kernel
theorem dX8_init_1 : decode cX8_init 1 = .ok (.invokespecial 1, 3) := by decide +kernel
theorem dX8_init_4 : decode cX8_init 4 = .ok (.aload_n 0, 1) := by decide +kernel
theorem dX8_init_5 : decode cX8_init 5 = .ok (.iconst 2, 1) := by decide +kernel
theorem dX8_init_6 : decode cX8_init 6 = .ok (.newarray .int, 2) := by decide +kernel
theorem dX8_init_8 : decode cX8_init 8 = .ok (.putfield 7, 3) := by decide +kernel
theorem dX8_init_11 : decode cX8_init 11 = .ok (.aload_n 0, 1) := by decide +kernel
theorem dX8_init_12 : decode cX8_init 12 = .ok (.iconst 2, 1) := by decide +kernel
theorem dX8_init_13 : decode cX8_init 13 = .ok (.newarray .int, 2) := by decide +kernel
theorem dX8_init_15 : decode cX8_init 15 = .ok (.putfield 13, 3) := by decide +kernel
theorem dX8_init_18 : decode cX8_init 18 = .ok (.aload_n 0, 1) := by decide +kernel
theorem dX8_init_19 : decode cX8_init 19 = .ok (.iconst 5, 1) := by decide +kernel
theorem dX8_init_20 : decode cX8_init 20 = .ok (.putfield 16, 3) := by decide +kernel
theorem dX8_init_23 : decode cX8_init 23 = .ok (.aload_n 0, 1) := by decide +kernel
theorem dX8_init_24 : decode cX8_init 24 = .ok (.iconst 0, 1) := by decide +kernel
theorem dX8_init_25 : decode cX8_init 25 = .ok (.anewarray 20, 3) := by decide +kernel
theorem dX8_init_28 : decode cX8_init 28 = .ok (.putfield 21, 3) := by decide +kernel
theorem dX8_init_31 : decode cX8_init 31 = .ok (.aload_n 0, 1) := by decide +kernel
theorem dX8_init_32 : decode cX8_init 32 = .ok (.iconst 0, 1) := by decide +kernel
theorem dX8_init_33 : decode cX8_init 33 = .ok (.anewarray 20, 3) := by decide +kernel
theorem dX8_init_36 : decode cX8_init 36 = .ok (.putfield 25, 3) := by decide +kernel
theorem dX8_init_39 : decode cX8_init 39 = .ok (.aload_n 0, 1) := by decide +kernel
theorem dX8_init_40 : decode cX8_init 40 = .ok (.iconst 0, 1) := by decide +kernel
theorem dX8_init_41 : decode cX8_init 41 = .ok (.anewarray 20, 3) := by decide +kernel
theorem dX8_init_44 : decode cX8_init 44 = .ok (.putfield 28, 3) := by decide +kernel
theorem dX8_init_47 : decode cX8_init 47 = .ok (.aload_n 0, 1) := by decide +kernel
theorem dX8_init_48 : decode cX8_init 48 = .ok (.iconst 0, 1) := by decide +kernel
theorem dX8_init_49 : decode cX8_init 49 = .ok (.anewarray 20, 3) := by decide +kernel
theorem dX8_init_52 : decode cX8_init 52 = .ok (.putfield 31, 3) := by decide +kernel
theorem dX8_init_55 : decode cX8_init 55 = .ok (.return_, 1) := by decide +kernel
theorem dX8_burnt_0 : decode cX8_burnt 0 = .ok (.iload_n 0, 1) := by decide +kernel
theorem dX8_burnt_1 : decode cX8_burnt 1 = .ok (.ifCond .ne 8, 3) := by decide +kernel
theorem dX8_burnt_4 : decode cX8_burnt 4 = .ok (.bipush 24, 2) := by decide +kernel
theorem dX8_burnt_6 : decode cX8_burnt 6 = .ok (.goto 5, 3) := by decide +kernel
theorem dX8_burnt_9 : decode cX8_burnt 9 = .ok (.bipush 15, 2) := by decide +kernel
theorem dX8_burnt_11 : decode cX8_burnt 11 = .ok (.ireturn, 1) := by decide +kernel
set_option maxRecDepth 20000 in
theorem ggX8_yields_X8_burnt : GoodIn wsX8_yields wsX8_burnt := goodIn_r _ [4] (by decide +kernel) (by decide +kernel)
set_option maxRecDepth 20000 in
theorem gX8_yields_X8_burnt : GoodIn wsX8_yields (va_wsS RX8 55 yX8_burnt wsX8_burnt) := goodIn_app (goodIn_of _ (by decide +kernel)) ggX8_yields_X8_burnt
theorem dX8_yields_0 : decode cX8_yields 0 = .ok (.aload_n 0, 1) := by decide +kernel
theorem dX8_yields_1 : decode cX8_yields 1 = .ok (.iconst 2, 1) := by decide +kernel
theorem dX8_yields_2 : decode cX8_yields 2 = .ok (.iaload, 1) := by decide +kernel
theorem dX8_yields_3 : decode cX8_yields 3 = .ok (.ifCond .ge 5, 3) := by decide +kernel
theorem dX8_yields_6 : decode cX8_yields 6 = .ok (.iconst 0, 1) := by decide +kernel
theorem dX8_yields_7 : decode cX8_yields 7 = .ok (.ireturn, 1) := by decide +kernel
theorem dX8_yields_8 : decode cX8_yields 8 = .ok (.aload_n 0, 1) := by decide +kernel
theorem dX8_yields_9 : decode cX8_yields 9 = .ok (.iconst 2, 1) := by decide +kernel
theorem dX8_yields_10 : decode cX8_yields 10 = .ok (.iaload, 1) := by decide +kernel
theorem dX8_yields_11 : decode cX8_yields 11 = .ok (.ifCond .ne 7, 3) := by decide +kernel
theorem dX8_yields_14 : decode cX8_yields 14 = .ok (.iconst 1, 1) := by decide +kernel
theorem dX8_yields_15 : decode cX8_yields 15 = .ok (.goto 4, 3) := by decide +kernel
theorem dX8_yields_18 : decode cX8_yields 18 = .ok (.iconst 0, 1) := by decide +kernel
theorem dX8_yields_19 : decode cX8_yields 19 = .ok (.istore_n 1, 1) := by decide +kernel
theorem dX8_yields_20 : decode cX8_yields 20 = .ok (.aload_n 0, 1) := by decide +kernel
theorem dX8_yields_21 : decode cX8_yields 21 = .ok (.iconst 2, 1) := by decide +kernel
theorem dX8_yields_22 : decode cX8_yields 22 = .ok (.iaload, 1) := by decide +kernel
theorem dX8_yields_23 : decode cX8_yields 23 = .ok (.invokestatic 55, 3) := by decide +kernel
theorem dX8_yields_26 : decode cX8_yields 26 = .ok (.aload_n 0, 1) := by decide +kernel
theorem dX8_yields_27 : decode cX8_yields 27 = .ok (.iconst 4, 1) := by decide +kernel
theorem dX8_yields_28 : decode cX8_yields 28 = .ok (.iaload, 1) := by decide +kernel
theorem dX8_yields_29 : decode cX8_yields 29 = .ok (.isub, 1) := by decide +kernel
theorem dX8_yields_30 : decode cX8_yields 30 = .ok (.istore_n 2, 1) := by decide +kernel
theorem dX8_yields_31 : decode cX8_yields 31 = .ok (.iload_n 2, 1) := by decide +kernel
theorem dX8_yields_32 : decode cX8_yields 32 = .ok (.ifCond .le 20, 3) := by decide +kernel
theorem dX8_yields_35 : decode cX8_yields 35 = .ok (.aload_n 0, 1) := by decide +kernel
theorem dX8_yields_36 : decode cX8_yields 36 = .ok (.iconst 4, 1) := by decide +kernel
theorem dX8_yields_37 : decode cX8_yields 37 = .ok (.iaload, 1) := by decide +kernel
theorem dX8_yields_38 : decode cX8_yields 38 = .ok (.iload_n 1, 1) := by decide +kernel
theorem dX8_yields_39 : decode cX8_yields 39 = .ok (.ifCond .eq 8, 3) := by decide +kernel
theorem dX8_yields_42 : decode cX8_yields 42 = .ok (.bipush 12, 2) := by decide +kernel
theorem dX8_yields_44 : decode cX8_yields 44 = .ok (.goto 5, 3) := by decide +kernel
theorem dX8_yields_47 : decode cX8_yields 47 = .ok (.bipush 8, 2) := by decide +kernel
theorem dX8_yields_49 : decode cX8_yields 49 = .ok (.if_icmp .ge 5, 3) := by decide +kernel
theorem dX8_yields_52 : decode cX8_yields 52 = .ok (.iconst 0, 1) := by decide +kernel
theorem dX8_yields_53 : decode cX8_yields 53 = .ok (.ireturn, 1) := by decide +kernel
theorem dX8_yields_54 : decode cX8_yields 54 = .ok (.iload_n 1, 1) := by decide +kernel
theorem dX8_yields_55 : decode cX8_yields 55 = .ok (.ifCond .eq 17, 3) := by decide +kernel
theorem dX8_yields_58 : decode cX8_yields 58 = .ok (.aload_n 0, 1) := by decide +kernel
theorem dX8_yields_59 : decode cX8_yields 59 = .ok (.iconst 3, 1) := by decide +kernel
theorem dX8_yields_60 : decode cX8_yields 60 = .ok (.iaload, 1) := by decide +kernel
theorem dX8_yields_61 : decode cX8_yields 61 = .ok (.bipush 6, 2) := by decide +kernel
theorem dX8_yields_63 : decode cX8_yields 63 = .ok (.imul, 1) := by decide +kernel
theorem dX8_yields_64 : decode cX8_yields 64 = .ok (.iload_n 2, 1) := by decide +kernel
theorem dX8_yields_65 : decode cX8_yields 65 = .ok (.imul, 1) := by decide +kernel
theorem dX8_yields_66 : decode cX8_yields 66 = .ok (.bipush 12, 2) := by decide +kernel
theorem dX8_yields_68 : decode cX8_yields 68 = .ok (.idiv, 1) := by decide +kernel
theorem dX8_yields_69 : decode cX8_yields 69 = .ok (.goto 14, 3) := by decide +kernel
theorem dX8_yields_72 : decode cX8_yields 72 = .ok (.aload_n 0, 1) := by decide +kernel
theorem dX8_yields_73 : decode cX8_yields 73 = .ok (.iconst 3, 1) := by decide +kernel
theorem dX8_yields_74 : decode cX8_yields 74 = .ok (.iaload, 1) := by decide +kernel
theorem dX8_yields_75 : decode cX8_yields 75 = .ok (.bipush 8, 2) := by decide +kernel
theorem dX8_yields_77 : decode cX8_yields 77 = .ok (.imul, 1) := by decide +kernel
theorem dX8_yields_78 : decode cX8_yields 78 = .ok (.iload_n 2, 1) := by decide +kernel
theorem dX8_yields_79 : decode cX8_yields 79 = .ok (.imul, 1) := by decide +kernel
theorem dX8_yields_80 : decode cX8_yields 80 = .ok (.bipush 7, 2) := by decide +kernel
theorem dX8_yields_82 : decode cX8_yields 82 = .ok (.idiv, 1) := by decide +kernel
theorem dX8_yields_83 : decode cX8_yields 83 = .ok (.ireturn, 1) := by decide +kernel
theorem dX8_isThere_0 : decode cX8_isThere 0 = .ok (.aload_n 0, 1) := by decide +kernel
theorem dX8_isThere_1 : decode cX8_isThere 1 = .ok (.getfield 48, 3) := by decide +kernel
theorem dX8_isThere_4 : decode cX8_isThere 4 = .ok (.iconst 1, 1) := by decide +kernel
theorem dX8_isThere_5 : decode cX8_isThere 5 = .ok (.iload_n 1, 1) := by decide +kernel
theorem dX8_isThere_6 : decode cX8_isThere 6 = .ok (.bipush 7, 2) := by decide +kernel
theorem dX8_isThere_8 : decode cX8_isThere 8 = .ok (.irem, 1) := by decide +kernel
theorem dX8_isThere_9 : decode cX8_isThere 9 = .ok (.ishl, 1) := by decide +kernel
theorem dX8_isThere_10 : decode cX8_isThere 10 = .ok (.idiv, 1) := by decide +kernel
theorem dX8_isThere_11 : decode cX8_isThere 11 = .ok (.iconst 2, 1) := by decide +kernel
theorem dX8_isThere_12 : decode cX8_isThere 12 = .ok (.irem, 1) := by decide +kernel
theorem dX8_isThere_13 : decode cX8_isThere 13 = .ok (.iconst 1, 1) := by decide +kernel
theorem dX8_isThere_14 : decode cX8_isThere 14 = .ok (.if_icmp .ne 7, 3) := by decide +kernel
theorem dX8_isThere_17 : decode cX8_isThere 17 = .ok (.iconst 1, 1) := by decide +kernel
theorem dX8_isThere_18 : decode cX8_isThere 18 = .ok (.goto 4, 3) := by decide +kernel
theorem dX8_isThere_21 : decode cX8_isThere 21 = .ok (.iconst 0, 1) := by decide +kernel
theorem dX8_isThere_22 : decode cX8_isThere 22 = .ok (.ireturn, 1) := by decide +kernel
set_option maxRecDepth 20000 in
theorem ggX8_pass_X8_isThere : GoodIn wsX8_pass wsX8_isThere := goodIn_r _ [15, 16, 20, 21, 22, 23, 24, 25, 26, 27, 28, 29, 30] (by decide +kernel) (by decide +kernel)
set_option maxRecDepth 20000 in
theorem gX8_pass_X8_isThere : GoodIn wsX8_pass (wsV RX8 59 RX8 yX8_isThere wsX8_isThere) := goodIn_app (goodIn_of _ (by decide +kernel)) ggX8_pass_X8_isThere
set_option maxRecDepth 20000 in
theorem ggX8_pass_X8_burnt : GoodIn wsX8_pass wsX8_burnt := goodIn_r _ [19] (by decide +kernel) (by decide +kernel)
set_option maxRecDepth 20000 in
theorem gX8_pass_X8_burnt : GoodIn wsX8_pass (va_wsS RX8 55 yX8_burnt wsX8_burnt) := goodIn_app (goodIn_of _ (by decide +kernel)) ggX8_pass_X8_burnt
theorem dX8_pass_0 : decode cX8_pass 0 = .ok (.aload_n 0, 1) := by decide +kernel
theorem dX8_pass_1 : decode cX8_pass 1 = .ok (.getfield 28, 3) := by decide +kernel
theorem dX8_pass_4 : decode cX8_pass 4 = .ok (.astore_n 1, 1) := by decide +kernel
theorem dX8_pass_5 : decode cX8_pass 5 = .ok (.aload_n 1, 1) := by decide +kernel
theorem dX8_pass_6 : decode cX8_pass 6 = .ok (.arraylength, 1) := by decide +kernel
theorem dX8_pass_7 : decode cX8_pass 7 = .ok (.istore_n 2, 1) := by decide +kernel
theorem dX8_pass_8 : decode cX8_pass 8 = .ok (.iconst 0, 1) := by decide +kernel
theorem dX8_pass_9 : decode cX8_pass 9 = .ok (.istore_n 3, 1) := by decide +kernel
theorem dX8_pass_10 : decode cX8_pass 10 = .ok (.iload_n 3, 1) := by decide +kernel
theorem dX8_pass_11 : decode cX8_pass 11 = .ok (.iload_n 2, 1) := by decide +kernel
theorem dX8_pass_12 : decode cX8_pass 12 = .ok (.if_icmp .ge 123, 3) := by decide +kernel
theorem dX8_pass_15 : decode cX8_pass 15 = .ok (.aload_n 1, 1) := by decide +kernel
theorem dX8_pass_16 : decode cX8_pass 16 = .ok (.iload_n 3, 1) := by decide +kernel
theorem dX8_pass_17 : decode cX8_pass 17 = .ok (.aaload, 1) := by decide +kernel
theorem dX8_pass_18 : decode cX8_pass 18 = .ok (.astore 4, 2) := by decide +kernel
theorem dX8_pass_20 : decode cX8_pass 20 = .ok (.aload 4, 2) := by decide +kernel
theorem dX8_pass_22 : decode cX8_pass 22 = .ok (.iconst 2, 1) := by decide +kernel
theorem dX8_pass_23 : decode cX8_pass 23 = .ok (.iaload, 1) := by decide +kernel
theorem dX8_pass_24 : decode cX8_pass 24 = .ok (.ifCond .ne 6, 3) := by decide +kernel
theorem dX8_pass_27 : decode cX8_pass 27 = .ok (.goto 102, 3) := by decide +kernel
theorem dX8_pass_30 : decode cX8_pass 30 = .ok (.aload 4, 2) := by decide +kernel
theorem dX8_pass_32 : decode cX8_pass 32 = .ok (.iconst 3, 1) := by decide +kernel
theorem dX8_pass_33 : decode cX8_pass 33 = .ok (.dup2, 1) := by decide +kernel
theorem dX8_pass_34 : decode cX8_pass 34 = .ok (.iaload, 1) := by decide +kernel
theorem dX8_pass_35 : decode cX8_pass 35 = .ok (.iconst 1, 1) := by decide +kernel
theorem dX8_pass_36 : decode cX8_pass 36 = .ok (.isub, 1) := by decide +kernel
theorem dX8_pass_37 : decode cX8_pass 37 = .ok (.iastore, 1) := by decide +kernel
theorem dX8_pass_38 : decode cX8_pass 38 = .ok (.aload 4, 2) := by decide +kernel
theorem dX8_pass_40 : decode cX8_pass 40 = .ok (.iconst 2, 1) := by decide +kernel
theorem dX8_pass_41 : decode cX8_pass 41 = .ok (.iaload, 1) := by decide +kernel
theorem dX8_pass_42 : decode cX8_pass 42 = .ok (.iconst 1, 1) := by decide +kernel
theorem dX8_pass_43 : decode cX8_pass 43 = .ok (.if_icmp .ne 49, 3) := by decide +kernel
theorem dX8_pass_46 : decode cX8_pass 46 = .ok (.aload 4, 2) := by decide +kernel
theorem dX8_pass_48 : decode cX8_pass 48 = .ok (.iconst 3, 1) := by decide +kernel
theorem dX8_pass_49 : decode cX8_pass 49 = .ok (.iaload, 1) := by decide +kernel
theorem dX8_pass_50 : decode cX8_pass 50 = .ok (.aload 4, 2) := by decide +kernel
theorem dX8_pass_52 : decode cX8_pass 52 = .ok (.iconst 0, 1) := by decide +kernel
theorem dX8_pass_53 : decode cX8_pass 53 = .ok (.iaload, 1) := by decide +kernel
theorem dX8_pass_54 : decode cX8_pass 54 = .ok (.iconst 2, 1) := by decide +kernel
theorem dX8_pass_55 : decode cX8_pass 55 = .ok (.idiv, 1) := by decide +kernel
theorem dX8_pass_56 : decode cX8_pass 56 = .ok (.if_icmp .ne 36, 3) := by decide +kernel
theorem dX8_pass_59 : decode cX8_pass 59 = .ok (.aload_n 0, 1) := by decide +kernel
theorem dX8_pass_60 : decode cX8_pass 60 = .ok (.aload_n 0, 1) := by decide +kernel
theorem dX8_pass_61 : decode cX8_pass 61 = .ok (.getfield 39, 3) := by decide +kernel
theorem dX8_pass_64 : decode cX8_pass 64 = .ok (.invokevirtual 59, 3) := by decide +kernel
theorem dX8_pass_67 : decode cX8_pass 67 = .ok (.ifCond .eq 25, 3) := by decide +kernel
theorem dX8_pass_70 : decode cX8_pass 70 = .ok (.aload 4, 2) := by decide +kernel
theorem dX8_pass_72 : decode cX8_pass 72 = .ok (.iconst 2, 1) := by decide +kernel
theorem dX8_pass_73 : decode cX8_pass 73 = .ok (.iconst 2, 1) := by decide +kernel
theorem dX8_pass_74 : decode cX8_pass 74 = .ok (.iastore, 1) := by decide +kernel
theorem dX8_pass_75 : decode cX8_pass 75 = .ok (.aload 4, 2) := by decide +kernel
theorem dX8_pass_77 : decode cX8_pass 77 = .ok (.iconst 3, 1) := by decide +kernel
theorem dX8_pass_78 : decode cX8_pass 78 = .ok (.bipush 10, 2) := by decide +kernel
theorem dX8_pass_80 : decode cX8_pass 80 = .ok (.iastore, 1) := by decide +kernel
theorem dX8_pass_81 : decode cX8_pass 81 = .ok (.aload 4, 2) := by decide +kernel
theorem dX8_pass_83 : decode cX8_pass 83 = .ok (.iconst 4, 1) := by decide +kernel
theorem dX8_pass_84 : decode cX8_pass 84 = .ok (.dup2, 1) := by decide +kernel
theorem dX8_pass_85 : decode cX8_pass 85 = .ok (.iaload, 1) := by decide +kernel
theorem dX8_pass_86 : decode cX8_pass 86 = .ok (.iconst 1, 1) := by decide +kernel
theorem dX8_pass_87 : decode cX8_pass 87 = .ok (.iadd, 1) := by decide +kernel
theorem dX8_pass_88 : decode cX8_pass 88 = .ok (.iastore, 1) := by decide +kernel
theorem dX8_pass_89 : decode cX8_pass 89 = .ok (.goto 40, 3) := by decide +kernel
theorem dX8_pass_92 : decode cX8_pass 92 = .ok (.aload 4, 2) := by decide +kernel
theorem dX8_pass_94 : decode cX8_pass 94 = .ok (.iconst 3, 1) := by decide +kernel
theorem dX8_pass_95 : decode cX8_pass 95 = .ok (.iaload, 1) := by decide +kernel
theorem dX8_pass_96 : decode cX8_pass 96 = .ok (.ifCond .ne 33, 3) := by decide +kernel
theorem dX8_pass_99 : decode cX8_pass 99 = .ok (.aload_n 0, 1) := by decide +kernel
theorem dX8_pass_100 : decode cX8_pass 100 = .ok (.getfield 7, 3) := by decide +kernel
theorem dX8_pass_103 : decode cX8_pass 103 = .ok (.iconst 1, 1) := by decide +kernel
theorem dX8_pass_104 : decode cX8_pass 104 = .ok (.dup2, 1) := by decide +kernel
theorem dX8_pass_105 : decode cX8_pass 105 = .ok (.iaload, 1) := by decide +kernel
theorem dX8_pass_106 : decode cX8_pass 106 = .ok (.aload 4, 2) := by decide +kernel
theorem dX8_pass_108 : decode cX8_pass 108 = .ok (.iconst 2, 1) := by decide +kernel
theorem dX8_pass_109 : decode cX8_pass 109 = .ok (.iaload, 1) := by decide +kernel
theorem dX8_pass_110 : decode cX8_pass 110 = .ok (.iconst 1, 1) := by decide +kernel
theorem dX8_pass_111 : decode cX8_pass 111 = .ok (.if_icmp .ne 10, 3) := by decide +kernel
theorem dX8_pass_114 : decode cX8_pass 114 = .ok (.aload 4, 2) := by decide +kernel
theorem dX8_pass_116 : decode cX8_pass 116 = .ok (.iconst 1, 1) := by decide +kernel
theorem dX8_pass_117 : decode cX8_pass 117 = .ok (.iaload, 1) := by decide +kernel
theorem dX8_pass_118 : decode cX8_pass 118 = .ok (.goto 4, 3) := by decide +kernel
theorem dX8_pass_121 : decode cX8_pass 121 = .ok (.iconst 0, 1) := by decide +kernel
theorem dX8_pass_122 : decode cX8_pass 122 = .ok (.iadd, 1) := by decide +kernel
theorem dX8_pass_123 : decode cX8_pass 123 = .ok (.iastore, 1) := by decide +kernel
theorem dX8_pass_124 : decode cX8_pass 124 = .ok (.aload 4, 2) := by decide +kernel
theorem dX8_pass_126 : decode cX8_pass 126 = .ok (.iconst 2, 1) := by decide +kernel
theorem dX8_pass_127 : decode cX8_pass 127 = .ok (.iconst 0, 1) := by decide +kernel
theorem dX8_pass_128 : decode cX8_pass 128 = .ok (.iastore, 1) := by decide +kernel
theorem dX8_pass_129 : decode cX8_pass 129 = .ok (.iinc 3 1, 3) := by decide +kernel
theorem dX8_pass_132 : decode cX8_pass 132 = .ok (.goto (-122), 3) := by decide +kernel
theorem dX8_pass_135 : decode cX8_pass 135 = .ok (.aload_n 0, 1) := by decide +kernel
theorem dX8_pass_136 : decode cX8_pass 136 = .ok (.getfield 25, 3) := by decide +kernel
theorem dX8_pass_139 : decode cX8_pass 139 = .ok (.astore_n 1, 1) := by decide +kernel
theorem dX8_pass_140 : decode cX8_pass 140 = .ok (.aload_n 1, 1) := by decide +kernel
theorem dX8_pass_141 : decode cX8_pass 141 = .ok (.arraylength, 1) := by decide +kernel
theorem dX8_pass_142 : decode cX8_pass 142 = .ok (.istore_n 2, 1) := by decide +kernel
theorem dX8_pass_143 : decode cX8_pass 143 = .ok (.iconst 0, 1) := by decide +kernel
theorem dX8_pass_144 : decode cX8_pass 144 = .ok (.istore_n 3, 1) := by decide +kernel
theorem dX8_pass_145 : decode cX8_pass 145 = .ok (.iload_n 3, 1) := by decide +kernel
theorem dX8_pass_146 : decode cX8_pass 146 = .ok (.iload_n 2, 1) := by decide +kernel
theorem dX8_pass_147 : decode cX8_pass 147 = .ok (.if_icmp .ge 63, 3) := by decide +kernel
theorem dX8_pass_150 : decode cX8_pass 150 = .ok (.aload_n 1, 1) := by decide +kernel
theorem dX8_pass_151 : decode cX8_pass 151 = .ok (.iload_n 3, 1) := by decide +kernel
theorem dX8_pass_152 : decode cX8_pass 152 = .ok (.aaload, 1) := by decide +kernel
theorem dX8_pass_153 : decode cX8_pass 153 = .ok (.astore 4, 2) := by decide +kernel
theorem dX8_pass_155 : decode cX8_pass 155 = .ok (.aload 4, 2) := by decide +kernel
theorem dX8_pass_157 : decode cX8_pass 157 = .ok (.iconst 2, 1) := by decide +kernel
theorem dX8_pass_158 : decode cX8_pass 158 = .ok (.iaload, 1) := by decide +kernel
theorem dX8_pass_159 : decode cX8_pass 159 = .ok (.ifCond .lt 45, 3) := by decide +kernel
theorem dX8_pass_162 : decode cX8_pass 162 = .ok (.aload 4, 2) := by decide +kernel
theorem dX8_pass_164 : decode cX8_pass 164 = .ok (.iconst 4, 1) := by decide +kernel
theorem dX8_pass_165 : decode cX8_pass 165 = .ok (.aload 4, 2) := by decide +kernel
theorem dX8_pass_167 : decode cX8_pass 167 = .ok (.iconst 4, 1) := by decide +kernel
theorem dX8_pass_168 : decode cX8_pass 168 = .ok (.iaload, 1) := by decide +kernel
theorem dX8_pass_169 : decode cX8_pass 169 = .ok (.aload 4, 2) := by decide +kernel
theorem dX8_pass_171 : decode cX8_pass 171 = .ok (.iconst 1, 1) := by decide +kernel
theorem dX8_pass_172 : decode cX8_pass 172 = .ok (.iaload, 1) := by decide +kernel
theorem dX8_pass_173 : decode cX8_pass 173 = .ok (.iadd, 1) := by decide +kernel
theorem dX8_pass_174 : decode cX8_pass 174 = .ok (.aload 4, 2) := by decide +kernel
theorem dX8_pass_176 : decode cX8_pass 176 = .ok (.iconst 2, 1) := by decide +kernel
theorem dX8_pass_177 : decode cX8_pass 177 = .ok (.iaload, 1) := by decide +kernel
theorem dX8_pass_178 : decode cX8_pass 178 = .ok (.invokestatic 55, 3) := by decide +kernel
theorem dX8_pass_181 : decode cX8_pass 181 = .ok (.if_icmp .le 13, 3) := by decide +kernel
theorem dX8_pass_184 : decode cX8_pass 184 = .ok (.aload 4, 2) := by decide +kernel
theorem dX8_pass_186 : decode cX8_pass 186 = .ok (.iconst 2, 1) := by decide +kernel
theorem dX8_pass_187 : decode cX8_pass 187 = .ok (.iaload, 1) := by decide +kernel
theorem dX8_pass_188 : decode cX8_pass 188 = .ok (.invokestatic 55, 3) := by decide +kernel
theorem dX8_pass_191 : decode cX8_pass 191 = .ok (.goto 12, 3) := by decide +kernel
theorem dX8_pass_194 : decode cX8_pass 194 = .ok (.aload 4, 2) := by decide +kernel
theorem dX8_pass_196 : decode cX8_pass 196 = .ok (.iconst 4, 1) := by decide +kernel
theorem dX8_pass_197 : decode cX8_pass 197 = .ok (.iaload, 1) := by decide +kernel
theorem dX8_pass_198 : decode cX8_pass 198 = .ok (.aload 4, 2) := by decide +kernel
theorem dX8_pass_200 : decode cX8_pass 200 = .ok (.iconst 1, 1) := by decide +kernel
theorem dX8_pass_201 : decode cX8_pass 201 = .ok (.iaload, 1) := by decide +kernel
theorem dX8_pass_202 : decode cX8_pass 202 = .ok (.iadd, 1) := by decide +kernel
theorem dX8_pass_203 : decode cX8_pass 203 = .ok (.iastore, 1) := by decide +kernel
theorem dX8_pass_204 : decode cX8_pass 204 = .ok (.iinc 3 1, 3) := by decide +kernel
theorem dX8_pass_207 : decode cX8_pass 207 = .ok (.goto (-62), 3) := by decide +kernel
theorem dX8_pass_210 : decode cX8_pass 210 = .ok (.aload_n 0, 1) := by decide +kernel
theorem dX8_pass_211 : decode cX8_pass 211 = .ok (.getfield 21, 3) := by decide +kernel
theorem dX8_pass_214 : decode cX8_pass 214 = .ok (.astore_n 1, 1) := by decide +kernel
theorem dX8_pass_215 : decode cX8_pass 215 = .ok (.aload_n 1, 1) := by decide +kernel
theorem dX8_pass_216 : decode cX8_pass 216 = .ok (.arraylength, 1) := by decide +kernel
theorem dX8_pass_217 : decode cX8_pass 217 = .ok (.istore_n 2, 1) := by decide +kernel
theorem dX8_pass_218 : decode cX8_pass 218 = .ok (.iconst 0, 1) := by decide +kernel
theorem dX8_pass_219 : decode cX8_pass 219 = .ok (.istore_n 3, 1) := by decide +kernel
theorem dX8_pass_220 : decode cX8_pass 220 = .ok (.iload_n 3, 1) := by decide +kernel
theorem dX8_pass_221 : decode cX8_pass 221 = .ok (.iload_n 2, 1) := by decide +kernel
theorem dX8_pass_222 : decode cX8_pass 222 = .ok (.if_icmp .ge 50, 3) := by decide +kernel
theorem dX8_pass_225 : decode cX8_pass 225 = .ok (.aload_n 1, 1) := by decide +kernel
theorem dX8_pass_226 : decode cX8_pass 226 = .ok (.iload_n 3, 1) := by decide +kernel
theorem dX8_pass_227 : decode cX8_pass 227 = .ok (.aaload, 1) := by decide +kernel
theorem dX8_pass_228 : decode cX8_pass 228 = .ok (.astore 4, 2) := by decide +kernel
theorem dX8_pass_230 : decode cX8_pass 230 = .ok (.aload 4, 2) := by decide +kernel
theorem dX8_pass_232 : decode cX8_pass 232 = .ok (.iconst 2, 1) := by decide +kernel
theorem dX8_pass_233 : decode cX8_pass 233 = .ok (.aload 4, 2) := by decide +kernel
theorem dX8_pass_235 : decode cX8_pass 235 = .ok (.iconst 2, 1) := by decide +kernel
theorem dX8_pass_236 : decode cX8_pass 236 = .ok (.iaload, 1) := by decide +kernel
theorem dX8_pass_237 : decode cX8_pass 237 = .ok (.aload 4, 2) := by decide +kernel
theorem dX8_pass_239 : decode cX8_pass 239 = .ok (.iconst 0, 1) := by decide +kernel
theorem dX8_pass_240 : decode cX8_pass 240 = .ok (.iaload, 1) := by decide +kernel
theorem dX8_pass_241 : decode cX8_pass 241 = .ok (.iadd, 1) := by decide +kernel
theorem dX8_pass_242 : decode cX8_pass 242 = .ok (.aload 4, 2) := by decide +kernel
theorem dX8_pass_244 : decode cX8_pass 244 = .ok (.iconst 1, 1) := by decide +kernel
theorem dX8_pass_245 : decode cX8_pass 245 = .ok (.iaload, 1) := by decide +kernel
theorem dX8_pass_246 : decode cX8_pass 246 = .ok (.if_icmp .le 10, 3) := by decide +kernel
theorem dX8_pass_249 : decode cX8_pass 249 = .ok (.aload 4, 2) := by decide +kernel
theorem dX8_pass_251 : decode cX8_pass 251 = .ok (.iconst 1, 1) := by decide +kernel
theorem dX8_pass_252 : decode cX8_pass 252 = .ok (.iaload, 1) := by decide +kernel
theorem dX8_pass_253 : decode cX8_pass 253 = .ok (.goto 12, 3) := by decide +kernel
theorem dX8_pass_256 : decode cX8_pass 256 = .ok (.aload 4, 2) := by decide +kernel
theorem dX8_pass_258 : decode cX8_pass 258 = .ok (.iconst 2, 1) := by decide +kernel
theorem dX8_pass_259 : decode cX8_pass 259 = .ok (.iaload, 1) := by decide +kernel
theorem dX8_pass_260 : decode cX8_pass 260 = .ok (.aload 4, 2) := by decide +kernel
theorem dX8_pass_262 : decode cX8_pass 262 = .ok (.iconst 0, 1) := by decide +kernel
theorem dX8_pass_263 : decode cX8_pass 263 = .ok (.iaload, 1) := by decide +kernel
theorem dX8_pass_264 : decode cX8_pass 264 = .ok (.iadd, 1) := by decide +kernel
theorem dX8_pass_265 : decode cX8_pass 265 = .ok (.iastore, 1) := by decide +kernel
theorem dX8_pass_266 : decode cX8_pass 266 = .ok (.iinc 3 1, 3) := by decide +kernel
theorem dX8_pass_269 : decode cX8_pass 269 = .ok (.goto (-49), 3) := by decide +kernel
theorem dX8_pass_272 : decode cX8_pass 272 = .ok (.aload_n 0, 1) := by decide +kernel
theorem dX8_pass_273 : decode cX8_pass 273 = .ok (.getfield 31, 3) := by decide +kernel
theorem dX8_pass_276 : decode cX8_pass 276 = .ok (.astore_n 1, 1) := by decide +kernel
theorem dX8_pass_277 : decode cX8_pass 277 = .ok (.aload_n 1, 1) := by decide +kernel
theorem dX8_pass_278 : decode cX8_pass 278 = .ok (.arraylength, 1) := by decide +kernel
theorem dX8_pass_279 : decode cX8_pass 279 = .ok (.istore_n 2, 1) := by decide +kernel
theorem dX8_pass_280 : decode cX8_pass 280 = .ok (.iconst 0, 1) := by decide +kernel
theorem dX8_pass_281 : decode cX8_pass 281 = .ok (.istore_n 3, 1) := by decide +kernel
theorem dX8_pass_282 : decode cX8_pass 282 = .ok (.iload_n 3, 1) := by decide +kernel
theorem dX8_pass_283 : decode cX8_pass 283 = .ok (.iload_n 2, 1) := by decide +kernel
theorem dX8_pass_284 : decode cX8_pass 284 = .ok (.if_icmp .ge 193, 3) := by decide +kernel
theorem dX8_pass_287 : decode cX8_pass 287 = .ok (.aload_n 1, 1) := by decide +kernel
theorem dX8_pass_288 : decode cX8_pass 288 = .ok (.iload_n 3, 1) := by decide +kernel
theorem dX8_pass_289 : decode cX8_pass 289 = .ok (.aaload, 1) := by decide +kernel
theorem dX8_pass_290 : decode cX8_pass 290 = .ok (.astore 4, 2) := by decide +kernel
theorem dX8_pass_292 : decode cX8_pass 292 = .ok (.aload_n 0, 1) := by decide +kernel
theorem dX8_pass_293 : decode cX8_pass 293 = .ok (.getfield 39, 3) := by decide +kernel
theorem dX8_pass_296 : decode cX8_pass 296 = .ok (.bipush 7, 2) := by decide +kernel
theorem dX8_pass_298 : decode cX8_pass 298 = .ok (.irem, 1) := by decide +kernel
theorem dX8_pass_299 : decode cX8_pass 299 = .ok (.ifCond .ne 11, 3) := by decide +kernel
theorem dX8_pass_302 : decode cX8_pass 302 = .ok (.aload 4, 2) := by decide +kernel
theorem dX8_pass_304 : decode cX8_pass 304 = .ok (.iconst 2, 1) := by decide +kernel
theorem dX8_pass_305 : decode cX8_pass 305 = .ok (.aload 4, 2) := by decide +kernel
theorem dX8_pass_307 : decode cX8_pass 307 = .ok (.iconst 0, 1) := by decide +kernel
theorem dX8_pass_308 : decode cX8_pass 308 = .ok (.iaload, 1) := by decide +kernel
theorem dX8_pass_309 : decode cX8_pass 309 = .ok (.iastore, 1) := by decide +kernel
theorem dX8_pass_310 : decode cX8_pass 310 = .ok (.iconst 0, 1) := by decide +kernel
theorem dX8_pass_311 : decode cX8_pass 311 = .ok (.istore 5, 2) := by decide +kernel
theorem dX8_pass_313 : decode cX8_pass 313 = .ok (.iload 5, 2) := by decide +kernel
theorem dX8_pass_315 : decode cX8_pass 315 = .ok (.iconst 2, 1) := by decide +kernel
theorem dX8_pass_316 : decode cX8_pass 316 = .ok (.if_icmp .ge 155, 3) := by decide +kernel
theorem dX8_pass_319 : decode cX8_pass 319 = .ok (.aload 4, 2) := by decide +kernel
theorem dX8_pass_321 : decode cX8_pass 321 = .ok (.iconst 2, 1) := by decide +kernel
theorem dX8_pass_322 : decode cX8_pass 322 = .ok (.iaload, 1) := by decide +kernel
theorem dX8_pass_323 : decode cX8_pass 323 = .ok (.ifCond .le 148, 3) := by decide +kernel
theorem dX8_pass_326 : decode cX8_pass 326 = .ok (.aload_n 0, 1) := by decide +kernel
theorem dX8_pass_327 : decode cX8_pass 327 = .ok (.getfield 13, 3) := by decide +kernel
theorem dX8_pass_330 : decode cX8_pass 330 = .ok (.iconst 1, 1) := by decide +kernel
theorem dX8_pass_331 : decode cX8_pass 331 = .ok (.iaload, 1) := by decide +kernel
theorem dX8_pass_332 : decode cX8_pass 332 = .ok (.aload_n 0, 1) := by decide +kernel
theorem dX8_pass_333 : decode cX8_pass 333 = .ok (.getfield 16, 3) := by decide +kernel
theorem dX8_pass_336 : decode cX8_pass 336 = .ok (.if_icmp .ge 12, 3) := by decide +kernel
theorem dX8_pass_339 : decode cX8_pass 339 = .ok (.aload_n 0, 1) := by decide +kernel
theorem dX8_pass_340 : decode cX8_pass 340 = .ok (.getfield 13, 3) := by decide +kernel
theorem dX8_pass_343 : decode cX8_pass 343 = .ok (.iconst 1, 1) := by decide +kernel
theorem dX8_pass_344 : decode cX8_pass 344 = .ok (.iaload, 1) := by decide +kernel
theorem dX8_pass_345 : decode cX8_pass 345 = .ok (.goto 7, 3) := by decide +kernel
theorem dX8_pass_348 : decode cX8_pass 348 = .ok (.aload_n 0, 1) := by decide +kernel
theorem dX8_pass_349 : decode cX8_pass 349 = .ok (.getfield 16, 3) := by decide +kernel
theorem dX8_pass_352 : decode cX8_pass 352 = .ok (.istore 6, 2) := by decide +kernel
theorem dX8_pass_354 : decode cX8_pass 354 = .ok (.aload_n 0, 1) := by decide +kernel
theorem dX8_pass_355 : decode cX8_pass 355 = .ok (.getfield 13, 3) := by decide +kernel
theorem dX8_pass_358 : decode cX8_pass 358 = .ok (.iconst 0, 1) := by decide +kernel
theorem dX8_pass_359 : decode cX8_pass 359 = .ok (.iaload, 1) := by decide +kernel
theorem dX8_pass_360 : decode cX8_pass 360 = .ok (.bipush 10, 2) := by decide +kernel
theorem dX8_pass_362 : decode cX8_pass 362 = .ok (.iload 6, 2) := by decide +kernel
theorem dX8_pass_364 : decode cX8_pass 364 = .ok (.isub, 1) := by decide +kernel
theorem dX8_pass_365 : decode cX8_pass 365 = .ok (.if_icmp .ge 6, 3) := by decide +kernel
theorem dX8_pass_368 : decode cX8_pass 368 = .ok (.goto 103, 3) := by decide +kernel
theorem dX8_pass_371 : decode cX8_pass 371 = .ok (.iload 6, 2) := by decide +kernel
theorem dX8_pass_373 : decode cX8_pass 373 = .ok (.aload 4, 2) := by decide +kernel
theorem dX8_pass_375 : decode cX8_pass 375 = .ok (.iconst 1, 1) := by decide +kernel
theorem dX8_pass_376 : decode cX8_pass 376 = .ok (.iaload, 1) := by decide +kernel
theorem dX8_pass_377 : decode cX8_pass 377 = .ok (.if_icmp .ge 14, 3) := by decide +kernel
theorem dX8_pass_380 : decode cX8_pass 380 = .ok (.aload 4, 2) := by decide +kernel
theorem dX8_pass_382 : decode cX8_pass 382 = .ok (.iconst 4, 1) := by decide +kernel
theorem dX8_pass_383 : decode cX8_pass 383 = .ok (.dup2, 1) := by decide +kernel
theorem dX8_pass_384 : decode cX8_pass 384 = .ok (.iaload, 1) := by decide +kernel
theorem dX8_pass_385 : decode cX8_pass 385 = .ok (.iconst 1, 1) := by decide +kernel
theorem dX8_pass_386 : decode cX8_pass 386 = .ok (.iadd, 1) := by decide +kernel
theorem dX8_pass_387 : decode cX8_pass 387 = .ok (.iastore, 1) := by decide +kernel
theorem dX8_pass_388 : decode cX8_pass 388 = .ok (.goto 83, 3) := by decide +kernel
theorem dX8_pass_391 : decode cX8_pass 391 = .ok (.aload_n 0, 1) := by decide +kernel
theorem dX8_pass_392 : decode cX8_pass 392 = .ok (.getfield 13, 3) := by decide +kernel
theorem dX8_pass_395 : decode cX8_pass 395 = .ok (.iconst 1, 1) := by decide +kernel
theorem dX8_pass_396 : decode cX8_pass 396 = .ok (.dup2, 1) := by decide +kernel
theorem dX8_pass_397 : decode cX8_pass 397 = .ok (.iaload, 1) := by decide +kernel
theorem dX8_pass_398 : decode cX8_pass 398 = .ok (.iload 6, 2) := by decide +kernel
theorem dX8_pass_400 : decode cX8_pass 400 = .ok (.isub, 1) := by decide +kernel
theorem dX8_pass_401 : decode cX8_pass 401 = .ok (.iastore, 1) := by decide +kernel
theorem dX8_pass_402 : decode cX8_pass 402 = .ok (.aload_n 0, 1) := by decide +kernel
theorem dX8_pass_403 : decode cX8_pass 403 = .ok (.getfield 13, 3) := by decide +kernel
theorem dX8_pass_406 : decode cX8_pass 406 = .ok (.iconst 0, 1) := by decide +kernel
theorem dX8_pass_407 : decode cX8_pass 407 = .ok (.dup2, 1) := by decide +kernel
theorem dX8_pass_408 : decode cX8_pass 408 = .ok (.iaload, 1) := by decide +kernel
theorem dX8_pass_409 : decode cX8_pass 409 = .ok (.bipush 10, 2) := by decide +kernel
theorem dX8_pass_411 : decode cX8_pass 411 = .ok (.iload 6, 2) := by decide +kernel
theorem dX8_pass_413 : decode cX8_pass 413 = .ok (.isub, 1) := by decide +kernel
theorem dX8_pass_414 : decode cX8_pass 414 = .ok (.isub, 1) := by decide +kernel
theorem dX8_pass_415 : decode cX8_pass 415 = .ok (.iastore, 1) := by decide +kernel
theorem dX8_pass_416 : decode cX8_pass 416 = .ok (.aload 4, 2) := by decide +kernel
theorem dX8_pass_418 : decode cX8_pass 418 = .ok (.iconst 2, 1) := by decide +kernel
theorem dX8_pass_419 : decode cX8_pass 419 = .ok (.dup2, 1) := by decide +kernel
theorem dX8_pass_420 : decode cX8_pass 420 = .ok (.iaload, 1) := by decide +kernel
theorem dX8_pass_421 : decode cX8_pass 421 = .ok (.iconst 1, 1) := by decide +kernel
theorem dX8_pass_422 : decode cX8_pass 422 = .ok (.isub, 1) := by decide +kernel
theorem dX8_pass_423 : decode cX8_pass 423 = .ok (.iastore, 1) := by decide +kernel
theorem dX8_pass_424 : decode cX8_pass 424 = .ok (.aload 4, 2) := by decide +kernel
theorem dX8_pass_426 : decode cX8_pass 426 = .ok (.iconst 3, 1) := by decide +kernel
theorem dX8_pass_427 : decode cX8_pass 427 = .ok (.dup2, 1) := by decide +kernel
theorem dX8_pass_428 : decode cX8_pass 428 = .ok (.iaload, 1) := by decide +kernel
theorem dX8_pass_429 : decode cX8_pass 429 = .ok (.iconst 1, 1) := by decide +kernel
theorem dX8_pass_430 : decode cX8_pass 430 = .ok (.iadd, 1) := by decide +kernel
theorem dX8_pass_431 : decode cX8_pass 431 = .ok (.iastore, 1) := by decide +kernel
theorem dX8_pass_432 : decode cX8_pass 432 = .ok (.aload_n 0, 1) := by decide +kernel
theorem dX8_pass_433 : decode cX8_pass 433 = .ok (.dup, 1) := by decide +kernel
theorem dX8_pass_434 : decode cX8_pass 434 = .ok (.getfield 42, 3) := by decide +kernel
theorem dX8_pass_437 : decode cX8_pass 437 = .ok (.iconst 1, 1) := by decide +kernel
theorem dX8_pass_438 : decode cX8_pass 438 = .ok (.iadd, 1) := by decide +kernel
theorem dX8_pass_439 : decode cX8_pass 439 = .ok (.putfield 42, 3) := by decide +kernel
theorem dX8_pass_442 : decode cX8_pass 442 = .ok (.aload_n 0, 1) := by decide +kernel
theorem dX8_pass_443 : decode cX8_pass 443 = .ok (.dup, 1) := by decide +kernel
theorem dX8_pass_444 : decode cX8_pass 444 = .ok (.getfield 45, 3) := by decide +kernel
theorem dX8_pass_447 : decode cX8_pass 447 = .ok (.iload 6, 2) := by decide +kernel
theorem dX8_pass_449 : decode cX8_pass 449 = .ok (.aload_n 0, 1) := by decide +kernel
theorem dX8_pass_450 : decode cX8_pass 450 = .ok (.getfield 16, 3) := by decide +kernel
theorem dX8_pass_453 : decode cX8_pass 453 = .ok (.if_icmp .ge 7, 3) := by decide +kernel
theorem dX8_pass_456 : decode cX8_pass 456 = .ok (.iconst 1, 1) := by decide +kernel
theorem dX8_pass_457 : decode cX8_pass 457 = .ok (.goto 4, 3) := by decide +kernel
theorem dX8_pass_460 : decode cX8_pass 460 = .ok (.iconst 0, 1) := by decide +kernel
theorem dX8_pass_461 : decode cX8_pass 461 = .ok (.iadd, 1) := by decide +kernel
theorem dX8_pass_462 : decode cX8_pass 462 = .ok (.putfield 45, 3) := by decide +kernel
theorem dX8_pass_465 : decode cX8_pass 465 = .ok (.iinc 5 1, 3) := by decide +kernel
theorem dX8_pass_468 : decode cX8_pass 468 = .ok (.goto (-155), 3) := by decide +kernel
theorem dX8_pass_471 : decode cX8_pass 471 = .ok (.iinc 3 1, 3) := by decide +kernel
theorem dX8_pass_474 : decode cX8_pass 474 = .ok (.goto (-192), 3) := by decide +kernel
theorem dX8_pass_477 : decode cX8_pass 477 = .ok (.aload_n 0, 1) := by decide +kernel
theorem dX8_pass_478 : decode cX8_pass 478 = .ok (.dup, 1) := by decide +kernel
theorem dX8_pass_479 : decode cX8_pass 479 = .ok (.getfield 39, 3) := by decide +kernel
theorem dX8_pass_482 : decode cX8_pass 482 = .ok (.iconst 1, 1) := by decide +kernel
theorem dX8_pass_483 : decode cX8_pass 483 = .ok (.iadd, 1) := by decide +kernel
theorem dX8_pass_484 : decode cX8_pass 484 = .ok (.putfield 39, 3) := by decide +kernel
theorem dX8_pass_487 : decode cX8_pass 487 = .ok (.return_, 1) := by decide +kernel
set_option maxRecDepth 20000 in
theorem ggX8_behind_X8_pass : GoodIn wsX8_behind wsX8_pass := goodIn_r _ [5, 6, 7, 8, 9, 10, 11, 12, 13, 14, 15, 16, 17, 18, 4, 19, 20, 21, 22, 23, 24, 25, 26, 27, 28, 29, 30, 31, 32, 33, 34] (by decide +kernel) (by decide +kernel)
set_option maxRecDepth 20000 in
theorem gX8_behind_X8_pass : GoodIn wsX8_behind (wsV RX8 63 RX8 yX8_pass wsX8_pass) := goodIn_app (goodIn_of _ (by decide +kernel)) ggX8_behind_X8_pass
theorem dX8_behind_0 : decode cX8_behind 0 = .ok (.iconst 0, 1) := by decide +kernel
theorem dX8_behind_1 : decode cX8_behind 1 = .ok (.istore_n 2, 1) := by decide +kernel
theorem dX8_behind_2 : decode cX8_behind 2 = .ok (.iload_n 2, 1) := by decide +kernel
theorem dX8_behind_3 : decode cX8_behind 3 = .ok (.iload_n 1, 1) := by decide +kernel
theorem dX8_behind_4 : decode cX8_behind 4 = .ok (.if_icmp .ge 13, 3) := by decide +kernel
theorem dX8_behind_7 : decode cX8_behind 7 = .ok (.aload_n 0, 1) := by decide +kernel
theorem dX8_behind_8 : decode cX8_behind 8 = .ok (.invokevirtual 63, 3) := by decide +kernel
theorem dX8_behind_11 : decode cX8_behind 11 = .ok (.iinc 2 1, 3) := by decide +kernel
theorem dX8_behind_14 : decode cX8_behind 14 = .ok (.goto (-12), 3) := by decide +kernel
theorem dX8_behind_17 : decode cX8_behind 17 = .ok (.aload_n 0, 1) := by decide +kernel
theorem dX8_behind_18 : decode cX8_behind 18 = .ok (.areturn, 1) := by decide +kernel
theorem dX8_counted_0 : decode cX8_counted 0 = .ok (.bipush 9, 2) := by decide +kernel
theorem dX8_counted_2 : decode cX8_counted 2 = .ok (.newarray .int, 2) := by decide +kernel
theorem dX8_counted_4 : decode cX8_counted 4 = .ok (.dup, 1) := by decide +kernel
theorem dX8_counted_5 : decode cX8_counted 5 = .ok (.iconst 0, 1) := by decide +kernel
theorem dX8_counted_6 : decode cX8_counted 6 = .ok (.aload_n 0, 1) := by decide +kernel
theorem dX8_counted_7 : decode cX8_counted 7 = .ok (.getfield 39, 3) := by decide +kernel
theorem dX8_counted_10 : decode cX8_counted 10 = .ok (.iastore, 1) := by decide +kernel
theorem dX8_counted_11 : decode cX8_counted 11 = .ok (.dup, 1) := by decide +kernel
theorem dX8_counted_12 : decode cX8_counted 12 = .ok (.iconst 1, 1) := by decide +kernel
theorem dX8_counted_13 : decode cX8_counted 13 = .ok (.aload_n 0, 1) := by decide +kernel
theorem dX8_counted_14 : decode cX8_counted 14 = .ok (.getfield 7, 3) := by decide +kernel
theorem dX8_counted_17 : decode cX8_counted 17 = .ok (.iconst 0, 1) := by decide +kernel
theorem dX8_counted_18 : decode cX8_counted 18 = .ok (.iaload, 1) := by decide +kernel
theorem dX8_counted_19 : decode cX8_counted 19 = .ok (.iastore, 1) := by decide +kernel
theorem dX8_counted_20 : decode cX8_counted 20 = .ok (.dup, 1) := by decide +kernel
theorem dX8_counted_21 : decode cX8_counted 21 = .ok (.iconst 2, 1) := by decide +kernel
theorem dX8_counted_22 : decode cX8_counted 22 = .ok (.aload_n 0, 1) := by decide +kernel
theorem dX8_counted_23 : decode cX8_counted 23 = .ok (.getfield 7, 3) := by decide +kernel
theorem dX8_counted_26 : decode cX8_counted 26 = .ok (.iconst 1, 1) := by decide +kernel
theorem dX8_counted_27 : decode cX8_counted 27 = .ok (.iaload, 1) := by decide +kernel
theorem dX8_counted_28 : decode cX8_counted 28 = .ok (.iastore, 1) := by decide +kernel
theorem dX8_counted_29 : decode cX8_counted 29 = .ok (.dup, 1) := by decide +kernel
theorem dX8_counted_30 : decode cX8_counted 30 = .ok (.iconst 3, 1) := by decide +kernel
theorem dX8_counted_31 : decode cX8_counted 31 = .ok (.aload_n 0, 1) := by decide +kernel
theorem dX8_counted_32 : decode cX8_counted 32 = .ok (.getfield 13, 3) := by decide +kernel
theorem dX8_counted_35 : decode cX8_counted 35 = .ok (.iconst 0, 1) := by decide +kernel
theorem dX8_counted_36 : decode cX8_counted 36 = .ok (.iaload, 1) := by decide +kernel
theorem dX8_counted_37 : decode cX8_counted 37 = .ok (.iastore, 1) := by decide +kernel
theorem dX8_counted_38 : decode cX8_counted 38 = .ok (.dup, 1) := by decide +kernel
theorem dX8_counted_39 : decode cX8_counted 39 = .ok (.iconst 4, 1) := by decide +kernel
theorem dX8_counted_40 : decode cX8_counted 40 = .ok (.aload_n 0, 1) := by decide +kernel
theorem dX8_counted_41 : decode cX8_counted 41 = .ok (.getfield 13, 3) := by decide +kernel
theorem dX8_counted_44 : decode cX8_counted 44 = .ok (.iconst 1, 1) := by decide +kernel
theorem dX8_counted_45 : decode cX8_counted 45 = .ok (.iaload, 1) := by decide +kernel
theorem dX8_counted_46 : decode cX8_counted 46 = .ok (.iastore, 1) := by decide +kernel
theorem dX8_counted_47 : decode cX8_counted 47 = .ok (.dup, 1) := by decide +kernel
theorem dX8_counted_48 : decode cX8_counted 48 = .ok (.iconst 5, 1) := by decide +kernel
theorem dX8_counted_49 : decode cX8_counted 49 = .ok (.aload_n 0, 1) := by decide +kernel
theorem dX8_counted_50 : decode cX8_counted 50 = .ok (.getfield 42, 3) := by decide +kernel
theorem dX8_counted_53 : decode cX8_counted 53 = .ok (.iastore, 1) := by decide +kernel
theorem dX8_counted_54 : decode cX8_counted 54 = .ok (.dup, 1) := by decide +kernel
theorem dX8_counted_55 : decode cX8_counted 55 = .ok (.bipush 6, 2) := by decide +kernel
theorem dX8_counted_57 : decode cX8_counted 57 = .ok (.aload_n 0, 1) := by decide +kernel
theorem dX8_counted_58 : decode cX8_counted 58 = .ok (.getfield 45, 3) := by decide +kernel
theorem dX8_counted_61 : decode cX8_counted 61 = .ok (.iastore, 1) := by decide +kernel
theorem dX8_counted_62 : decode cX8_counted 62 = .ok (.dup, 1) := by decide +kernel
theorem dX8_counted_63 : decode cX8_counted 63 = .ok (.bipush 7, 2) := by decide +kernel
theorem dX8_counted_65 : decode cX8_counted 65 = .ok (.aload_n 0, 1) := by decide +kernel
theorem dX8_counted_66 : decode cX8_counted 66 = .ok (.getfield 16, 3) := by decide +kernel
theorem dX8_counted_69 : decode cX8_counted 69 = .ok (.iastore, 1) := by decide +kernel
theorem dX8_counted_70 : decode cX8_counted 70 = .ok (.dup, 1) := by decide +kernel
theorem dX8_counted_71 : decode cX8_counted 71 = .ok (.bipush 8, 2) := by decide +kernel
theorem dX8_counted_73 : decode cX8_counted 73 = .ok (.aload_n 0, 1) := by decide +kernel
theorem dX8_counted_74 : decode cX8_counted 74 = .ok (.getfield 48, 3) := by decide +kernel
theorem dX8_counted_77 : decode cX8_counted 77 = .ok (.iastore, 1) := by decide +kernel
theorem dX8_counted_78 : decode cX8_counted 78 = .ok (.astore_n 2, 1) := by decide +kernel
theorem dX8_counted_79 : decode cX8_counted 79 = .ok (.aload_n 2, 1) := by decide +kernel
theorem dX8_counted_80 : decode cX8_counted 80 = .ok (.iload_n 1, 1) := by decide +kernel
theorem dX8_counted_81 : decode cX8_counted 81 = .ok (.iaload, 1) := by decide +kernel
theorem dX8_counted_82 : decode cX8_counted 82 = .ok (.ireturn, 1) := by decide +kernel
set_option maxRecDepth 20000 in
theorem ggX8_isSame_X7_count : GoodIn wsX8_isSame wsX7_count := goodIn_ca (goodIn_r _ [9, 10, 11, 12, 8, 13, 14, 15, 16, 17, 18, 19, 20, 21, 22, 23, 24, 25, 26, 27, 28, 29, 30, 31, 32, 33, 34, 35, 36, 37, 38, 39, 40, 41, 42, 43, 44, 45, 46, 47, 48, 49, 50, 51, 52, 53, 54, 55, 56, 57, 58, 59, 60, 61, 62, 63, 64, 65, 66, 67, 68, 69, 70, 71, 72, 73, 74, 75, 76, 77, 78, 79, 80, 81, 82, 83, 84, 85, 86, 87, 88, 89, 90, 91, 92, 93, 94, 95, 96, 97, 158, 159, 160, 161, 162, 163, 164, 165, 166, 167, 168, 169, 170, 171, 172, 173, 174, 175, 176, 177, 178, 179, 180, 181, 182, 183, 184, 185, 186, 187, 188, 189, 190, 191, 192, 193, 194, 195] (by decide +kernel) (by decide +kernel)) (goodIn_sub (fun _ h => List.mem_cons_of_mem _ (List.mem_append_right _ h)) (by decide +kernel))
set_option maxRecDepth 20000 in
theorem gX8_isSame_X7_count : GoodIn wsX8_isSame (wsV RX8 66 RX7 yX7_count wsX7_count) := goodIn_app (goodIn_of _ (by decide +kernel)) ggX8_isSame_X7_count
set_option maxRecDepth 20000 in
theorem ggX8_isSame_X8_counted : GoodIn wsX8_isSame wsX8_counted := goodIn_r _ [102, 103, 104, 105, 106, 107, 108, 109, 110, 147, 148, 149, 150, 151, 152, 153, 154, 155, 156, 157] (by decide +kernel) (by decide +kernel)
set_option maxRecDepth 20000 in
theorem gX8_isSame_X8_counted : GoodIn wsX8_isSame (wsV RX8 71 RX8 yX8_counted wsX8_counted) := goodIn_app (goodIn_of _ (by decide +kernel)) ggX8_isSame_X8_counted
set_option maxRecDepth 20000 in
theorem ggX8_isSame_X7_about : GoodIn wsX8_isSame wsX7_about := goodIn_ca (goodIn_r _ [114, 10, 115, 116, 36, 37, 8, 38, 39, 40, 11, 12, 13, 14, 15, 16, 17, 18, 19, 20, 21, 22, 23, 24, 25, 26, 27, 28, 29, 30, 31, 32, 33, 34, 35, 41, 42, 43, 44, 45, 46, 47, 48, 49, 50, 51, 52, 53, 54, 55, 56, 57, 58, 59, 60, 61, 62, 63, 64, 65, 66, 67, 68, 69, 70, 71, 72, 73, 74, 75, 76, 77, 78, 79, 80, 81, 82, 83, 84, 85, 86, 87, 88, 89, 90, 91, 92, 93, 94, 95, 96, 97, 158, 159, 178, 179, 180, 181, 182, 183, 184, 185, 186, 187, 188, 160, 161, 162, 163, 164, 165, 166, 167, 168, 169, 170, 171, 172, 173, 174, 175, 176, 177, 189, 190, 191, 192, 193, 194, 195] (by decide +kernel) (by decide +kernel)) (goodIn_sub (fun _ h => List.mem_cons_of_mem _ (List.mem_append_right _ h)) (by decide +kernel))
set_option maxRecDepth 20000 in
theorem gX8_isSame_X7_about : GoodIn wsX8_isSame (wsV RX8 74 RX7 yX7_about wsX7_about) := goodIn_app (goodIn_of _ (by decide +kernel)) ggX8_isSame_X7_about
set_option maxRecDepth 20000 in
theorem ggX8_isSame_X7_roast : GoodIn wsX8_isSame wsX7_roast := goodIn_ca (goodIn_r _ [120, 10, 121, 122, 36, 37, 8, 38, 39, 40, 11, 12, 13, 14, 15, 16, 17, 18, 19, 20, 21, 22, 23, 24, 25, 26, 27, 28, 29, 30, 31, 32, 33, 34, 35, 41, 42, 43, 44, 45, 46, 47, 48, 49, 50, 51, 52, 53, 54, 55, 56, 57, 58, 59, 60, 61, 62, 63, 64, 65, 66, 67, 68, 69, 70, 71, 72, 73, 74, 75, 76, 77, 78, 79, 80, 81, 82, 83, 84, 85, 86, 87, 88, 89, 90, 91, 92, 93, 94, 95, 96, 97, 158, 159, 178, 179, 180, 181, 182, 183, 184, 185, 186, 187, 188, 160, 161, 162, 163, 164, 165, 166, 167, 168, 169, 170, 171, 172, 173, 174, 175, 176, 177, 189, 190, 191, 192, 193, 194, 195] (by decide +kernel) (by decide +kernel)) (goodIn_sub (fun _ h => List.mem_cons_of_mem _ (List.mem_append_right _ h)) (by decide +kernel))
set_option maxRecDepth 20000 in
theorem gX8_isSame_X7_roast : GoodIn wsX8_isSame (wsV RX8 78 RX7 yX7_roast wsX7_roast) := goodIn_app (goodIn_of _ (by decide +kernel)) ggX8_isSame_X7_roast
set_option maxRecDepth 20000 in
theorem ggX8_isSame_X8_yields : GoodIn wsX8_isSame wsX8_yields := goodIn_r _ [125, 126, 127, 101, 128] (by decide +kernel) (by decide +kernel)
set_option maxRecDepth 20000 in
theorem gX8_isSame_X8_yields : GoodIn wsX8_isSame (va_wsS RX8 81 yX8_yields wsX8_yields) := goodIn_app (goodIn_of _ (by decide +kernel)) ggX8_isSame_X8_yields
set_option maxRecDepth 20000 in
theorem ggX8_isSame_X7_told : GoodIn wsX8_isSame wsX7_told := goodIn_ca (goodIn_r _ [132, 10, 133, 134, 36, 37, 8, 38, 39, 40, 11, 12, 13, 14, 15, 16, 17, 18, 19, 20, 21, 22, 23, 24, 25, 26, 27, 28, 29, 30, 31, 32, 33, 34, 35, 41, 42, 43, 44, 45, 46, 47, 48, 49, 50, 51, 52, 53, 54, 55, 56, 57, 58, 59, 60, 61, 62, 63, 64, 65, 66, 67, 68, 69, 70, 71, 72, 73, 74, 75, 76, 77, 78, 79, 80, 81, 82, 83, 84, 85, 86, 87, 88, 89, 90, 91, 92, 93, 94, 95, 96, 97, 158, 159, 178, 179, 180, 181, 182, 183, 184, 185, 186, 187, 188, 160, 161, 162, 163, 164, 165, 166, 167, 168, 169, 170, 171, 172, 173, 174, 175, 176, 177, 189, 190, 191, 192, 193, 194, 195] (by decide +kernel) (by decide +kernel)) (goodIn_sub (fun _ h => List.mem_cons_of_mem _ (List.mem_append_right _ h)) (by decide +kernel))
set_option maxRecDepth 20000 in
theorem gX8_isSame_X7_told : GoodIn wsX8_isSame (wsV RX8 85 RX7 yX7_told wsX7_told) := goodIn_app (goodIn_of _ (by decide +kernel)) ggX8_isSame_X7_told
set_option maxRecDepth 20000 in
theorem ggX8_isSame_X7_ration : GoodIn wsX8_isSame wsX7_ration := goodIn_ca (goodIn_r _ [138, 10, 139, 140, 36, 37, 8, 38, 39, 40, 11, 12, 13, 14, 15, 16, 17, 18, 19, 20, 21, 22, 23, 24, 25, 26, 27, 28, 29, 30, 31, 32, 33, 34, 35, 41, 42, 43, 44, 45, 46, 47, 48, 49, 50, 51, 52, 53, 54, 55, 56, 57, 58, 59, 60, 61, 62, 63, 64, 65, 66, 67, 68, 69, 70, 71, 72, 73, 74, 75, 76, 77, 78, 79, 80, 81, 82, 83, 84, 85, 86, 87, 88, 89, 90, 91, 92, 93, 94, 95, 96, 97, 158, 159, 178, 179, 180, 181, 182, 183, 184, 185, 186, 187, 188, 160, 161, 162, 163, 164, 165, 166, 167, 168, 169, 170, 171, 172, 173, 174, 175, 176, 177, 189, 190, 191, 192, 193, 194, 195] (by decide +kernel) (by decide +kernel)) (goodIn_sub (fun _ h => List.mem_cons_of_mem _ (List.mem_append_right _ h)) (by decide +kernel))
set_option maxRecDepth 20000 in
theorem gX8_isSame_X7_ration : GoodIn wsX8_isSame (wsV RX8 88 RX7 yX7_ration wsX7_ration) := goodIn_app (goodIn_of _ (by decide +kernel)) ggX8_isSame_X7_ration
set_option maxRecDepth 20000 in
theorem ggX8_isSame_X7_mean : GoodIn wsX8_isSame wsX7_mean := goodIn_r _ [144, 10, 139, 145, 146, 158, 159, 178, 179, 180, 181, 182, 183, 184, 185, 186, 187, 188, 189, 190, 191, 192, 193, 194, 195] (by decide +kernel) (by decide +kernel)
set_option maxRecDepth 20000 in
theorem gX8_isSame_X7_mean : GoodIn wsX8_isSame (wsV RX8 91 RX7 yX7_mean wsX7_mean) := goodIn_app (goodIn_of _ (by decide +kernel)) ggX8_isSame_X7_mean
theorem dX8_isSame_0 : decode cX8_isSame 0 = .ok (.iconst 0, 1) := by decide +kernel
theorem dX8_isSame_1 : decode cX8_isSame 1 = .ok (.istore_n 2, 1) := by decide +kernel
theorem dX8_isSame_2 : decode cX8_isSame 2 = .ok (.iload_n 2, 1) := by decide +kernel
theorem dX8_isSame_3 : decode cX8_isSame 3 = .ok (.bipush 9, 2) := by decide +kernel
theorem dX8_isSame_5 : decode cX8_isSame 5 = .ok (.if_icmp .ge 24, 3) := by decide +kernel
theorem dX8_isSame_8 : decode cX8_isSame 8 = .ok (.aload_n 1, 1) := by decide +kernel
theorem dX8_isSame_9 : decode cX8_isSame 9 = .ok (.iload_n 2, 1) := by decide +kernel
theorem dX8_isSame_10 : decode cX8_isSame 10 = .ok (.invokevirtual 66, 3) := by decide +kernel
theorem dX8_isSame_13 : decode cX8_isSame 13 = .ok (.aload_n 0, 1) := by decide +kernel
theorem dX8_isSame_14 : decode cX8_isSame 14 = .ok (.iload_n 2, 1) := by decide +kernel
theorem dX8_isSame_15 : decode cX8_isSame 15 = .ok (.invokevirtual 71, 3) := by decide +kernel
theorem dX8_isSame_18 : decode cX8_isSame 18 = .ok (.if_icmp .eq 5, 3) := by decide +kernel
theorem dX8_isSame_21 : decode cX8_isSame 21 = .ok (.iconst 0, 1) := by decide +kernel
theorem dX8_isSame_22 : decode cX8_isSame 22 = .ok (.ireturn, 1) := by decide +kernel
theorem dX8_isSame_23 : decode cX8_isSame 23 = .ok (.iinc 2 1, 3) := by decide +kernel
theorem dX8_isSame_26 : decode cX8_isSame 26 = .ok (.goto (-24), 3) := by decide +kernel
theorem dX8_isSame_29 : decode cX8_isSame 29 = .ok (.iconst 0, 1) := by decide +kernel
theorem dX8_isSame_30 : decode cX8_isSame 30 = .ok (.istore_n 2, 1) := by decide +kernel
theorem dX8_isSame_31 : decode cX8_isSame 31 = .ok (.iconst 0, 1) := by decide +kernel
theorem dX8_isSame_32 : decode cX8_isSame 32 = .ok (.istore_n 3, 1) := by decide +kernel
theorem dX8_isSame_33 : decode cX8_isSame 33 = .ok (.iload_n 3, 1) := by decide +kernel
theorem dX8_isSame_34 : decode cX8_isSame 34 = .ok (.aload_n 0, 1) := by decide +kernel
theorem dX8_isSame_35 : decode cX8_isSame 35 = .ok (.getfield 21, 3) := by decide +kernel
theorem dX8_isSame_38 : decode cX8_isSame 38 = .ok (.arraylength, 1) := by decide +kernel
theorem dX8_isSame_39 : decode cX8_isSame 39 = .ok (.if_icmp .ge 45, 3) := by decide +kernel
theorem dX8_isSame_42 : decode cX8_isSame 42 = .ok (.iconst 0, 1) := by decide +kernel
theorem dX8_isSame_43 : decode cX8_isSame 43 = .ok (.istore 4, 2) := by decide +kernel
theorem dX8_isSame_45 : decode cX8_isSame 45 = .ok (.iload 4, 2) := by decide +kernel
theorem dX8_isSame_47 : decode cX8_isSame 47 = .ok (.iconst 3, 1) := by decide +kernel
theorem dX8_isSame_48 : decode cX8_isSame 48 = .ok (.if_icmp .ge 30, 3) := by decide +kernel
theorem dX8_isSame_51 : decode cX8_isSame 51 = .ok (.aload_n 1, 1) := by decide +kernel
theorem dX8_isSame_52 : decode cX8_isSame 52 = .ok (.iload_n 3, 1) := by decide +kernel
theorem dX8_isSame_53 : decode cX8_isSame 53 = .ok (.iload 4, 2) := by decide +kernel
theorem dX8_isSame_55 : decode cX8_isSame 55 = .ok (.invokevirtual 74, 3) := by decide +kernel
theorem dX8_isSame_58 : decode cX8_isSame 58 = .ok (.aload_n 0, 1) := by decide +kernel
theorem dX8_isSame_59 : decode cX8_isSame 59 = .ok (.getfield 21, 3) := by decide +kernel
theorem dX8_isSame_62 : decode cX8_isSame 62 = .ok (.iload_n 3, 1) := by decide +kernel
theorem dX8_isSame_63 : decode cX8_isSame 63 = .ok (.aaload, 1) := by decide +kernel
theorem dX8_isSame_64 : decode cX8_isSame 64 = .ok (.iload 4, 2) := by decide +kernel
theorem dX8_isSame_66 : decode cX8_isSame 66 = .ok (.iaload, 1) := by decide +kernel
theorem dX8_isSame_67 : decode cX8_isSame 67 = .ok (.if_icmp .eq 5, 3) := by decide +kernel
theorem dX8_isSame_70 : decode cX8_isSame 70 = .ok (.iconst 0, 1) := by decide +kernel
theorem dX8_isSame_71 : decode cX8_isSame 71 = .ok (.ireturn, 1) := by decide +kernel
theorem dX8_isSame_72 : decode cX8_isSame 72 = .ok (.iinc 4 1, 3) := by decide +kernel
theorem dX8_isSame_75 : decode cX8_isSame 75 = .ok (.goto (-30), 3) := by decide +kernel
theorem dX8_isSame_78 : decode cX8_isSame 78 = .ok (.iinc 3 1, 3) := by decide +kernel
theorem dX8_isSame_81 : decode cX8_isSame 81 = .ok (.goto (-48), 3) := by decide +kernel
theorem dX8_isSame_84 : decode cX8_isSame 84 = .ok (.iconst 0, 1) := by decide +kernel
theorem dX8_isSame_85 : decode cX8_isSame 85 = .ok (.istore_n 3, 1) := by decide +kernel
theorem dX8_isSame_86 : decode cX8_isSame 86 = .ok (.iload_n 3, 1) := by decide +kernel
theorem dX8_isSame_87 : decode cX8_isSame 87 = .ok (.aload_n 0, 1) := by decide +kernel
theorem dX8_isSame_88 : decode cX8_isSame 88 = .ok (.getfield 25, 3) := by decide +kernel
theorem dX8_isSame_91 : decode cX8_isSame 91 = .ok (.arraylength, 1) := by decide +kernel
theorem dX8_isSame_92 : decode cX8_isSame 92 = .ok (.if_icmp .ge 65, 3) := by decide +kernel
theorem dX8_isSame_95 : decode cX8_isSame 95 = .ok (.iconst 0, 1) := by decide +kernel
theorem dX8_isSame_96 : decode cX8_isSame 96 = .ok (.istore 4, 2) := by decide +kernel
theorem dX8_isSame_98 : decode cX8_isSame 98 = .ok (.iload 4, 2) := by decide +kernel
theorem dX8_isSame_100 : decode cX8_isSame 100 = .ok (.iconst 5, 1) := by decide +kernel
theorem dX8_isSame_101 : decode cX8_isSame 101 = .ok (.if_icmp .ge 30, 3) := by decide +kernel
theorem dX8_isSame_104 : decode cX8_isSame 104 = .ok (.aload_n 1, 1) := by decide +kernel
theorem dX8_isSame_105 : decode cX8_isSame 105 = .ok (.iload_n 3, 1) := by decide +kernel
theorem dX8_isSame_106 : decode cX8_isSame 106 = .ok (.iload 4, 2) := by decide +kernel
theorem dX8_isSame_108 : decode cX8_isSame 108 = .ok (.invokevirtual 78, 3) := by decide +kernel
theorem dX8_isSame_111 : decode cX8_isSame 111 = .ok (.aload_n 0, 1) := by decide +kernel
theorem dX8_isSame_112 : decode cX8_isSame 112 = .ok (.getfield 25, 3) := by decide +kernel
theorem dX8_isSame_115 : decode cX8_isSame 115 = .ok (.iload_n 3, 1) := by decide +kernel
theorem dX8_isSame_116 : decode cX8_isSame 116 = .ok (.aaload, 1) := by decide +kernel
theorem dX8_isSame_117 : decode cX8_isSame 117 = .ok (.iload 4, 2) := by decide +kernel
theorem dX8_isSame_119 : decode cX8_isSame 119 = .ok (.iaload, 1) := by decide +kernel
theorem dX8_isSame_120 : decode cX8_isSame 120 = .ok (.if_icmp .eq 5, 3) := by decide +kernel
theorem dX8_isSame_123 : decode cX8_isSame 123 = .ok (.iconst 0, 1) := by decide +kernel
theorem dX8_isSame_124 : decode cX8_isSame 124 = .ok (.ireturn, 1) := by decide +kernel
theorem dX8_isSame_125 : decode cX8_isSame 125 = .ok (.iinc 4 1, 3) := by decide +kernel
theorem dX8_isSame_128 : decode cX8_isSame 128 = .ok (.goto (-30), 3) := by decide +kernel
theorem dX8_isSame_131 : decode cX8_isSame 131 = .ok (.aload_n 1, 1) := by decide +kernel
theorem dX8_isSame_132 : decode cX8_isSame 132 = .ok (.iload_n 3, 1) := by decide +kernel
theorem dX8_isSame_133 : decode cX8_isSame 133 = .ok (.iconst 5, 1) := by decide +kernel
theorem dX8_isSame_134 : decode cX8_isSame 134 = .ok (.invokevirtual 78, 3) := by decide +kernel
theorem dX8_isSame_137 : decode cX8_isSame 137 = .ok (.aload_n 0, 1) := by decide +kernel
theorem dX8_isSame_138 : decode cX8_isSame 138 = .ok (.getfield 25, 3) := by decide +kernel
theorem dX8_isSame_141 : decode cX8_isSame 141 = .ok (.iload_n 3, 1) := by decide +kernel
theorem dX8_isSame_142 : decode cX8_isSame 142 = .ok (.aaload, 1) := by decide +kernel
theorem dX8_isSame_143 : decode cX8_isSame 143 = .ok (.invokestatic 81, 3) := by decide +kernel
theorem dX8_isSame_146 : decode cX8_isSame 146 = .ok (.if_icmp .eq 5, 3) := by decide +kernel
theorem dX8_isSame_149 : decode cX8_isSame 149 = .ok (.iconst 0, 1) := by decide +kernel
theorem dX8_isSame_150 : decode cX8_isSame 150 = .ok (.ireturn, 1) := by decide +kernel
theorem dX8_isSame_151 : decode cX8_isSame 151 = .ok (.iinc 3 1, 3) := by decide +kernel
theorem dX8_isSame_154 : decode cX8_isSame 154 = .ok (.goto (-68), 3) := by decide +kernel
theorem dX8_isSame_157 : decode cX8_isSame 157 = .ok (.iconst 0, 1) := by decide +kernel
theorem dX8_isSame_158 : decode cX8_isSame 158 = .ok (.istore_n 3, 1) := by decide +kernel
theorem dX8_isSame_159 : decode cX8_isSame 159 = .ok (.iload_n 3, 1) := by decide +kernel
theorem dX8_isSame_160 : decode cX8_isSame 160 = .ok (.aload_n 0, 1) := by decide +kernel
theorem dX8_isSame_161 : decode cX8_isSame 161 = .ok (.getfield 28, 3) := by decide +kernel
theorem dX8_isSame_164 : decode cX8_isSame 164 = .ok (.arraylength, 1) := by decide +kernel
theorem dX8_isSame_165 : decode cX8_isSame 165 = .ok (.if_icmp .ge 45, 3) := by decide +kernel
theorem dX8_isSame_168 : decode cX8_isSame 168 = .ok (.iconst 0, 1) := by decide +kernel
theorem dX8_isSame_169 : decode cX8_isSame 169 = .ok (.istore 4, 2) := by decide +kernel
theorem dX8_isSame_171 : decode cX8_isSame 171 = .ok (.iload 4, 2) := by decide +kernel
theorem dX8_isSame_173 : decode cX8_isSame 173 = .ok (.iconst 5, 1) := by decide +kernel
theorem dX8_isSame_174 : decode cX8_isSame 174 = .ok (.if_icmp .ge 30, 3) := by decide +kernel
theorem dX8_isSame_177 : decode cX8_isSame 177 = .ok (.aload_n 1, 1) := by decide +kernel
theorem dX8_isSame_178 : decode cX8_isSame 178 = .ok (.iload_n 3, 1) := by decide +kernel
theorem dX8_isSame_179 : decode cX8_isSame 179 = .ok (.iload 4, 2) := by decide +kernel
theorem dX8_isSame_181 : decode cX8_isSame 181 = .ok (.invokevirtual 85, 3) := by decide +kernel
theorem dX8_isSame_184 : decode cX8_isSame 184 = .ok (.aload_n 0, 1) := by decide +kernel
theorem dX8_isSame_185 : decode cX8_isSame 185 = .ok (.getfield 28, 3) := by decide +kernel
theorem dX8_isSame_188 : decode cX8_isSame 188 = .ok (.iload_n 3, 1) := by decide +kernel
theorem dX8_isSame_189 : decode cX8_isSame 189 = .ok (.aaload, 1) := by decide +kernel
theorem dX8_isSame_190 : decode cX8_isSame 190 = .ok (.iload 4, 2) := by decide +kernel
theorem dX8_isSame_192 : decode cX8_isSame 192 = .ok (.iaload, 1) := by decide +kernel
theorem dX8_isSame_193 : decode cX8_isSame 193 = .ok (.if_icmp .eq 5, 3) := by decide +kernel
theorem dX8_isSame_196 : decode cX8_isSame 196 = .ok (.iconst 0, 1) := by decide +kernel
theorem dX8_isSame_197 : decode cX8_isSame 197 = .ok (.ireturn, 1) := by decide +kernel
theorem dX8_isSame_198 : decode cX8_isSame 198 = .ok (.iinc 4 1, 3) := by decide +kernel
theorem dX8_isSame_201 : decode cX8_isSame 201 = .ok (.goto (-30), 3) := by decide +kernel
theorem dX8_isSame_204 : decode cX8_isSame 204 = .ok (.iinc 3 1, 3) := by decide +kernel
theorem dX8_isSame_207 : decode cX8_isSame 207 = .ok (.goto (-48), 3) := by decide +kernel
theorem dX8_isSame_210 : decode cX8_isSame 210 = .ok (.iconst 0, 1) := by decide +kernel
theorem dX8_isSame_211 : decode cX8_isSame 211 = .ok (.istore_n 3, 1) := by decide +kernel
theorem dX8_isSame_212 : decode cX8_isSame 212 = .ok (.iload_n 3, 1) := by decide +kernel
theorem dX8_isSame_213 : decode cX8_isSame 213 = .ok (.aload_n 0, 1) := by decide +kernel
theorem dX8_isSame_214 : decode cX8_isSame 214 = .ok (.getfield 31, 3) := by decide +kernel
theorem dX8_isSame_217 : decode cX8_isSame 217 = .ok (.arraylength, 1) := by decide +kernel
theorem dX8_isSame_218 : decode cX8_isSame 218 = .ok (.if_icmp .ge 56, 3) := by decide +kernel
theorem dX8_isSame_221 : decode cX8_isSame 221 = .ok (.iconst 0, 1) := by decide +kernel
theorem dX8_isSame_222 : decode cX8_isSame 222 = .ok (.istore 4, 2) := by decide +kernel
theorem dX8_isSame_224 : decode cX8_isSame 224 = .ok (.iload 4, 2) := by decide +kernel
theorem dX8_isSame_226 : decode cX8_isSame 226 = .ok (.iconst 5, 1) := by decide +kernel
theorem dX8_isSame_227 : decode cX8_isSame 227 = .ok (.if_icmp .ge 30, 3) := by decide +kernel
theorem dX8_isSame_230 : decode cX8_isSame 230 = .ok (.aload_n 1, 1) := by decide +kernel
theorem dX8_isSame_231 : decode cX8_isSame 231 = .ok (.iload_n 3, 1) := by decide +kernel
theorem dX8_isSame_232 : decode cX8_isSame 232 = .ok (.iload 4, 2) := by decide +kernel
theorem dX8_isSame_234 : decode cX8_isSame 234 = .ok (.invokevirtual 88, 3) := by decide +kernel
theorem dX8_isSame_237 : decode cX8_isSame 237 = .ok (.aload_n 0, 1) := by decide +kernel
theorem dX8_isSame_238 : decode cX8_isSame 238 = .ok (.getfield 31, 3) := by decide +kernel
theorem dX8_isSame_241 : decode cX8_isSame 241 = .ok (.iload_n 3, 1) := by decide +kernel
theorem dX8_isSame_242 : decode cX8_isSame 242 = .ok (.aaload, 1) := by decide +kernel
theorem dX8_isSame_243 : decode cX8_isSame 243 = .ok (.iload 4, 2) := by decide +kernel
theorem dX8_isSame_245 : decode cX8_isSame 245 = .ok (.iaload, 1) := by decide +kernel
theorem dX8_isSame_246 : decode cX8_isSame 246 = .ok (.if_icmp .eq 5, 3) := by decide +kernel
theorem dX8_isSame_249 : decode cX8_isSame 249 = .ok (.iconst 0, 1) := by decide +kernel
theorem dX8_isSame_250 : decode cX8_isSame 250 = .ok (.ireturn, 1) := by decide +kernel
theorem dX8_isSame_251 : decode cX8_isSame 251 = .ok (.iinc 4 1, 3) := by decide +kernel
theorem dX8_isSame_254 : decode cX8_isSame 254 = .ok (.goto (-30), 3) := by decide +kernel
theorem dX8_isSame_257 : decode cX8_isSame 257 = .ok (.iload_n 2, 1) := by decide +kernel
theorem dX8_isSame_258 : decode cX8_isSame 258 = .ok (.aload_n 0, 1) := by decide +kernel
theorem dX8_isSame_259 : decode cX8_isSame 259 = .ok (.getfield 31, 3) := by decide +kernel
theorem dX8_isSame_262 : decode cX8_isSame 262 = .ok (.iload_n 3, 1) := by decide +kernel
theorem dX8_isSame_263 : decode cX8_isSame 263 = .ok (.aaload, 1) := by decide +kernel
theorem dX8_isSame_264 : decode cX8_isSame 264 = .ok (.iconst 3, 1) := by decide +kernel
theorem dX8_isSame_265 : decode cX8_isSame 265 = .ok (.iaload, 1) := by decide +kernel
theorem dX8_isSame_266 : decode cX8_isSame 266 = .ok (.iadd, 1) := by decide +kernel
theorem dX8_isSame_267 : decode cX8_isSame 267 = .ok (.istore_n 2, 1) := by decide +kernel
theorem dX8_isSame_268 : decode cX8_isSame 268 = .ok (.iinc 3 1, 3) := by decide +kernel
theorem dX8_isSame_271 : decode cX8_isSame 271 = .ok (.goto (-59), 3) := by decide +kernel
theorem dX8_isSame_274 : decode cX8_isSame 274 = .ok (.aload_n 1, 1) := by decide +kernel
theorem dX8_isSame_275 : decode cX8_isSame 275 = .ok (.invokevirtual 91, 3) := by decide +kernel
theorem dX8_isSame_278 : decode cX8_isSame 278 = .ok (.aload_n 0, 1) := by decide +kernel
theorem dX8_isSame_279 : decode cX8_isSame 279 = .ok (.getfield 31, 3) := by decide +kernel
theorem dX8_isSame_282 : decode cX8_isSame 282 = .ok (.arraylength, 1) := by decide +kernel
theorem dX8_isSame_283 : decode cX8_isSame 283 = .ok (.ifCond .ne 7, 3) := by decide +kernel
theorem dX8_isSame_286 : decode cX8_isSame 286 = .ok (.dconst 0, 1) := by decide +kernel
theorem dX8_isSame_287 : decode cX8_isSame 287 = .ok (.goto 12, 3) := by decide +kernel
theorem dX8_isSame_290 : decode cX8_isSame 290 = .ok (.iload_n 2, 1) := by decide +kernel
theorem dX8_isSame_291 : decode cX8_isSame 291 = .ok (.i2d, 1) := by decide +kernel
theorem dX8_isSame_292 : decode cX8_isSame 292 = .ok (.aload_n 0, 1) := by decide +kernel
theorem dX8_isSame_293 : decode cX8_isSame 293 = .ok (.getfield 31, 3) := by decide +kernel
theorem dX8_isSame_296 : decode cX8_isSame 296 = .ok (.arraylength, 1) := by decide +kernel
theorem dX8_isSame_297 : decode cX8_isSame 297 = .ok (.i2d, 1) := by decide +kernel
theorem dX8_isSame_298 : decode cX8_isSame 298 = .ok (.ddiv, 1) := by decide +kernel
theorem dX8_isSame_299 : decode cX8_isSame 299 = .ok (.dcmp .l, 1) := by decide +kernel
theorem dX8_isSame_300 : decode cX8_isSame 300 = .ok (.ifCond .ne 7, 3) := by decide +kernel
theorem dX8_isSame_303 : decode cX8_isSame 303 = .ok (.iconst 1, 1) := by decide +kernel
theorem dX8_isSame_304 : decode cX8_isSame 304 = .ok (.goto 4, 3) := by decide +kernel
theorem dX8_isSame_307 : decode cX8_isSame 307 = .ok (.iconst 0, 1) := by decide +kernel
theorem dX8_isSame_308 : decode cX8_isSame 308 = .ok (.ireturn, 1) := by decide +kernel
theorem dJ9_min_7cf53_0 : decode cJ9_min_7cf53 0 = .ok (.iload_n 0, 1) := by decide +kernel
theorem dJ9_min_7cf53_1 : decode cJ9_min_7cf53 1 = .ok (.iload_n 1, 1) := by decide +kernel
theorem dJ9_min_7cf53_2 : decode cJ9_min_7cf53 2 = .ok (.if_icmp .gt 7, 3) := by decide +kernel
theorem dJ9_min_7cf53_5 : decode cJ9_min_7cf53 5 = .ok (.iload_n 0, 1) := by decide +kernel
theorem dJ9_min_7cf53_6 : decode cJ9_min_7cf53 6 = .ok (.goto 4, 3) := by decide +kernel
theorem dJ9_min_7cf53_9 : decode cJ9_min_7cf53 9 = .ok (.iload_n 1, 1) := by decide +kernel
theorem dJ9_min_7cf53_10 : decode cJ9_min_7cf53 10 = .ok (.ireturn, 1) := by decide +kernel
