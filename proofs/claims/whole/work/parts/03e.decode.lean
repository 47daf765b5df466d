theorem dX8_init_0 : decode cX8_init 0 = .ok (.aload_n 0, 1) := by decide +kernel
theorem dX8_init_1 : decode cX8_init 1 = .ok (.invokespecial 1, 3) := by decide +kernel
theorem dX8_init_4 : decode cX8_init 4 = .ok (.aload_n 0, 1) := by decide +kernel
theorem dX8_init_5 : decode cX8_init 5 = .ok (.bipush 8, 2) := by decide +kernel
theorem dX8_init_7 : decode cX8_init 7 = .ok (.newarray .int, 2) := by decide +kernel
theorem dX8_init_9 : decode cX8_init 9 = .ok (.putfield 9, 3) := by decide +kernel
theorem dX8_init_12 : decode cX8_init 12 = .ok (.aload_n 0, 1) := by decide +kernel
theorem dX8_init_13 : decode cX8_init 13 = .ok (.iconst 4, 1) := by decide +kernel
theorem dX8_init_14 : decode cX8_init 14 = .ok (.newarray .int, 2) := by decide +kernel
theorem dX8_init_16 : decode cX8_init 16 = .ok (.putfield 13, 3) := by decide +kernel
theorem dX8_init_19 : decode cX8_init 19 = .ok (.aload_n 0, 1) := by decide +kernel
theorem dX8_init_20 : decode cX8_init 20 = .ok (.bipush 8, 2) := by decide +kernel
theorem dX8_init_22 : decode cX8_init 22 = .ok (.newarray .int, 2) := by decide +kernel
theorem dX8_init_24 : decode cX8_init 24 = .ok (.putfield 16, 3) := by decide +kernel
theorem dX8_init_27 : decode cX8_init 27 = .ok (.aload_n 0, 1) := by decide +kernel
theorem dX8_init_28 : decode cX8_init 28 = .ok (.bipush 20, 2) := by decide +kernel
theorem dX8_init_30 : decode cX8_init 30 = .ok (.newarray .int, 2) := by decide +kernel
theorem dX8_init_32 : decode cX8_init 32 = .ok (.putfield 19, 3) := by decide +kernel
theorem dX8_init_35 : decode cX8_init 35 = .ok (.aload_n 0, 1) := by decide +kernel
theorem dX8_init_36 : decode cX8_init 36 = .ok (.bipush 72, 2) := by decide +kernel
theorem dX8_init_38 : decode cX8_init 38 = .ok (.newarray .int, 2) := by decide +kernel
theorem dX8_init_40 : decode cX8_init 40 = .ok (.putfield 22, 3) := by decide +kernel
theorem dX8_init_43 : decode cX8_init 43 = .ok (.aload_n 0, 1) := by decide +kernel
theorem dX8_init_44 : decode cX8_init 44 = .ok (.bipush 72, 2) := by decide +kernel
theorem dX8_init_46 : decode cX8_init 46 = .ok (.newarray .int, 2) := by decide +kernel
theorem dX8_init_48 : decode cX8_init 48 = .ok (.putfield 25, 3) := by decide +kernel
theorem dX8_init_51 : decode cX8_init 51 = .ok (.aload_n 0, 1) := by decide +kernel
theorem dX8_init_52 : decode cX8_init 52 = .ok (.getfield 22, 3) := by decide +kernel
theorem dX8_init_55 : decode cX8_init 55 = .ok (.bipush 7, 2) := by decide +kernel
theorem dX8_init_57 : decode cX8_init 57 = .ok (.iconst 5, 1) := by decide +kernel
theorem dX8_init_58 : decode cX8_init 58 = .ok (.iastore, 1) := by decide +kernel
theorem dX8_init_59 : decode cX8_init 59 = .ok (.return_, 1) := by decide +kernel
theorem dX8_thrown_0 : decode cX8_thrown 0 = .ok (.aload_n 0, 1) := by decide +kernel
theorem dX8_thrown_1 : decode cX8_thrown 1 = .ok (.getfield 28, 3) := by decide +kernel
theorem dX8_thrown_4 : decode cX8_thrown 4 = .ok (.ireturn, 1) := by decide +kernel
theorem dX8_fail_0 : decode cX8_fail 0 = .ok (.aload_n 0, 1) := by decide +kernel
theorem dX8_fail_1 : decode cX8_fail 1 = .ok (.iload_n 1, 1) := by decide +kernel
theorem dX8_fail_2 : decode cX8_fail 2 = .ok (.putfield 28, 3) := by decide +kernel
theorem dX8_fail_5 : decode cX8_fail 5 = .ok (.iconst 0, 1) := by decide +kernel
theorem dX8_fail_6 : decode cX8_fail 6 = .ok (.ireturn, 1) := by decide +kernel
theorem dX8_isIn_0 : decode cX8_isIn 0 = .ok (.iload_n 0, 1) := by decide +kernel
theorem dX8_isIn_1 : decode cX8_isIn 1 = .ok (.iload_n 1, 1) := by decide +kernel
theorem dX8_isIn_2 : decode cX8_isIn 2 = .ok (.if_icmp .lt 12, 3) := by decide +kernel
theorem dX8_isIn_5 : decode cX8_isIn 5 = .ok (.iload_n 0, 1) := by decide +kernel
theorem dX8_isIn_6 : decode cX8_isIn 6 = .ok (.iload_n 2, 1) := by decide +kernel
theorem dX8_isIn_7 : decode cX8_isIn 7 = .ok (.if_icmp .gt 7, 3) := by decide +kernel
theorem dX8_isIn_10 : decode cX8_isIn 10 = .ok (.iconst 1, 1) := by decide +kernel
theorem dX8_isIn_11 : decode cX8_isIn 11 = .ok (.goto 4, 3) := by decide +kernel
theorem dX8_isIn_14 : decode cX8_isIn 14 = .ok (.iconst 0, 1) := by decide +kernel
theorem dX8_isIn_15 : decode cX8_isIn 15 = .ok (.ireturn, 1) := by decide +kernel
set_option maxRecDepth 20000 in
theorem ggX8_isDrum_X8_isIn : GoodIn wsX8_isDrum wsX8_isIn := goodIn_r _ [5] (by decide +kernel) (by decide +kernel)
set_option maxRecDepth 20000 in
theorem gX8_isDrum_X8_isIn : GoodIn wsX8_isDrum (va_wsS RX8 35 yX8_isIn wsX8_isIn) := goodIn_app (goodIn_of _ (by decide +kernel)) ggX8_isDrum_X8_isIn
theorem dX8_isDrum_0 : decode cX8_isDrum 0 = .ok (.iload_n 1, 1) := by decide +kernel
theorem dX8_isDrum_1 : decode cX8_isDrum 1 = .ok (.iconst 0, 1) := by decide +kernel
theorem dX8_isDrum_2 : decode cX8_isDrum 2 = .ok (.aload_n 0, 1) := by decide +kernel
theorem dX8_isDrum_3 : decode cX8_isDrum 3 = .ok (.getfield 32, 3) := by decide +kernel
theorem dX8_isDrum_6 : decode cX8_isDrum 6 = .ok (.iconst 1, 1) := by decide +kernel
theorem dX8_isDrum_7 : decode cX8_isDrum 7 = .ok (.isub, 1) := by decide +kernel
theorem dX8_isDrum_8 : decode cX8_isDrum 8 = .ok (.invokestatic 35, 3) := by decide +kernel
theorem dX8_isDrum_11 : decode cX8_isDrum 11 = .ok (.ireturn, 1) := by decide +kernel
set_option maxRecDepth 20000 in
theorem ggX8_isSmuggler_X8_isIn : GoodIn wsX8_isSmuggler wsX8_isIn := goodIn_r _ [5] (by decide +kernel) (by decide +kernel)
set_option maxRecDepth 20000 in
theorem gX8_isSmuggler_X8_isIn : GoodIn wsX8_isSmuggler (va_wsS RX8 35 yX8_isIn wsX8_isIn) := goodIn_app (goodIn_of _ (by decide +kernel)) ggX8_isSmuggler_X8_isIn
theorem dX8_isSmuggler_0 : decode cX8_isSmuggler 0 = .ok (.iload_n 1, 1) := by decide +kernel
theorem dX8_isSmuggler_1 : decode cX8_isSmuggler 1 = .ok (.iconst 0, 1) := by decide +kernel
theorem dX8_isSmuggler_2 : decode cX8_isSmuggler 2 = .ok (.aload_n 0, 1) := by decide +kernel
theorem dX8_isSmuggler_3 : decode cX8_isSmuggler 3 = .ok (.getfield 39, 3) := by decide +kernel
theorem dX8_isSmuggler_6 : decode cX8_isSmuggler 6 = .ok (.iconst 1, 1) := by decide +kernel
theorem dX8_isSmuggler_7 : decode cX8_isSmuggler 7 = .ok (.isub, 1) := by decide +kernel
theorem dX8_isSmuggler_8 : decode cX8_isSmuggler 8 = .ok (.invokestatic 35, 3) := by decide +kernel
theorem dX8_isSmuggler_11 : decode cX8_isSmuggler 11 = .ok (.ireturn, 1) := by decide +kernel
theorem dX8_keep_0 : decode cX8_keep 0 = .ok (.aload_n 0, 1) := by decide +kernel
theorem dX8_keep_1 : decode cX8_keep 1 = .ok (.getfield 22, 3) := by decide +kernel
theorem dX8_keep_4 : decode cX8_keep 4 = .ok (.iconst 0, 1) := by decide +kernel
theorem dX8_keep_5 : decode cX8_keep 5 = .ok (.aload_n 0, 1) := by decide +kernel
theorem dX8_keep_6 : decode cX8_keep 6 = .ok (.getfield 25, 3) := by decide +kernel
theorem dX8_keep_9 : decode cX8_keep 9 = .ok (.iconst 0, 1) := by decide +kernel
theorem dX8_keep_10 : decode cX8_keep 10 = .ok (.bipush 72, 2) := by decide +kernel
theorem dX8_keep_12 : decode cX8_keep 12 = .ok (.invokestatic 42, 3) := by decide +kernel
theorem dX8_keep_15 : decode cX8_keep 15 = .ok (.return_, 1) := by decide +kernel
theorem dX8_bringBack_0 : decode cX8_bringBack 0 = .ok (.aload_n 0, 1) := by decide +kernel
theorem dX8_bringBack_1 : decode cX8_bringBack 1 = .ok (.getfield 25, 3) := by decide +kernel
theorem dX8_bringBack_4 : decode cX8_bringBack 4 = .ok (.iconst 0, 1) := by decide +kernel
theorem dX8_bringBack_5 : decode cX8_bringBack 5 = .ok (.aload_n 0, 1) := by decide +kernel
theorem dX8_bringBack_6 : decode cX8_bringBack 6 = .ok (.getfield 22, 3) := by decide +kernel
theorem dX8_bringBack_9 : decode cX8_bringBack 9 = .ok (.iconst 0, 1) := by decide +kernel
theorem dX8_bringBack_10 : decode cX8_bringBack 10 = .ok (.bipush 72, 2) := by decide +kernel
theorem dX8_bringBack_12 : decode cX8_bringBack 12 = .ok (.invokestatic 42, 3) := by decide +kernel
theorem dX8_bringBack_15 : decode cX8_bringBack 15 = .ok (.return_, 1) := by decide +kernel
theorem dX8_dr_0 : decode cX8_dr 0 = .ok (.aload_n 0, 1) := by decide +kernel
theorem dX8_dr_1 : decode cX8_dr 1 = .ok (.getfield 22, 3) := by decide +kernel
theorem dX8_dr_4 : decode cX8_dr 4 = .ok (.bipush 14, 2) := by decide +kernel
theorem dX8_dr_6 : decode cX8_dr 6 = .ok (.iconst 4, 1) := by decide +kernel
theorem dX8_dr_7 : decode cX8_dr 7 = .ok (.iload_n 1, 1) := by decide +kernel
theorem dX8_dr_8 : decode cX8_dr 8 = .ok (.imul, 1) := by decide +kernel
theorem dX8_dr_9 : decode cX8_dr 9 = .ok (.iadd, 1) := by decide +kernel
theorem dX8_dr_10 : decode cX8_dr 10 = .ok (.iload_n 2, 1) := by decide +kernel
theorem dX8_dr_11 : decode cX8_dr 11 = .ok (.iadd, 1) := by decide +kernel
theorem dX8_dr_12 : decode cX8_dr 12 = .ok (.iaload, 1) := by decide +kernel
theorem dX8_dr_13 : decode cX8_dr 13 = .ok (.ireturn, 1) := by decide +kernel
theorem dX8_letDrum_0 : decode cX8_letDrum 0 = .ok (.aload_n 0, 1) := by decide +kernel
theorem dX8_letDrum_1 : decode cX8_letDrum 1 = .ok (.getfield 22, 3) := by decide +kernel
theorem dX8_letDrum_4 : decode cX8_letDrum 4 = .ok (.bipush 14, 2) := by decide +kernel
theorem dX8_letDrum_6 : decode cX8_letDrum 6 = .ok (.iconst 4, 1) := by decide +kernel
theorem dX8_letDrum_7 : decode cX8_letDrum 7 = .ok (.iload_n 1, 1) := by decide +kernel
theorem dX8_letDrum_8 : decode cX8_letDrum 8 = .ok (.imul, 1) := by decide +kernel
theorem dX8_letDrum_9 : decode cX8_letDrum 9 = .ok (.iadd, 1) := by decide +kernel
theorem dX8_letDrum_10 : decode cX8_letDrum 10 = .ok (.iload_n 2, 1) := by decide +kernel
theorem dX8_letDrum_11 : decode cX8_letDrum 11 = .ok (.iadd, 1) := by decide +kernel
theorem dX8_letDrum_12 : decode cX8_letDrum 12 = .ok (.iload_n 3, 1) := by decide +kernel
theorem dX8_letDrum_13 : decode cX8_letDrum 13 = .ok (.iastore, 1) := by decide +kernel
theorem dX8_letDrum_14 : decode cX8_letDrum 14 = .ok (.return_, 1) := by decide +kernel
theorem dX8_sm_0 : decode cX8_sm 0 = .ok (.aload_n 0, 1) := by decide +kernel
theorem dX8_sm_1 : decode cX8_sm 1 = .ok (.getfield 22, 3) := by decide +kernel
theorem dX8_sm_4 : decode cX8_sm 4 = .ok (.bipush 30, 2) := by decide +kernel
theorem dX8_sm_6 : decode cX8_sm 6 = .ok (.iconst 3, 1) := by decide +kernel
theorem dX8_sm_7 : decode cX8_sm 7 = .ok (.iload_n 1, 1) := by decide +kernel
theorem dX8_sm_8 : decode cX8_sm 8 = .ok (.imul, 1) := by decide +kernel
theorem dX8_sm_9 : decode cX8_sm 9 = .ok (.iadd, 1) := by decide +kernel
theorem dX8_sm_10 : decode cX8_sm 10 = .ok (.iload_n 2, 1) := by decide +kernel
theorem dX8_sm_11 : decode cX8_sm 11 = .ok (.iadd, 1) := by decide +kernel
theorem dX8_sm_12 : decode cX8_sm 12 = .ok (.iaload, 1) := by decide +kernel
theorem dX8_sm_13 : decode cX8_sm 13 = .ok (.ireturn, 1) := by decide +kernel
theorem dX8_letSmuggler_0 : decode cX8_letSmuggler 0 = .ok (.aload_n 0, 1) := by decide +kernel
theorem dX8_letSmuggler_1 : decode cX8_letSmuggler 1 = .ok (.getfield 22, 3) := by decide +kernel
theorem dX8_letSmuggler_4 : decode cX8_letSmuggler 4 = .ok (.bipush 30, 2) := by decide +kernel
theorem dX8_letSmuggler_6 : decode cX8_letSmuggler 6 = .ok (.iconst 3, 1) := by decide +kernel
theorem dX8_letSmuggler_7 : decode cX8_letSmuggler 7 = .ok (.iload_n 1, 1) := by decide +kernel
theorem dX8_letSmuggler_8 : decode cX8_letSmuggler 8 = .ok (.imul, 1) := by decide +kernel
theorem dX8_letSmuggler_9 : decode cX8_letSmuggler 9 = .ok (.iadd, 1) := by decide +kernel
theorem dX8_letSmuggler_10 : decode cX8_letSmuggler 10 = .ok (.iconst 0, 1) := by decide +kernel
theorem dX8_letSmuggler_11 : decode cX8_letSmuggler 11 = .ok (.iadd, 1) := by decide +kernel
theorem dX8_letSmuggler_12 : decode cX8_letSmuggler 12 = .ok (.iload_n 2, 1) := by decide +kernel
theorem dX8_letSmuggler_13 : decode cX8_letSmuggler 13 = .ok (.iastore, 1) := by decide +kernel
theorem dX8_letSmuggler_14 : decode cX8_letSmuggler 14 = .ok (.aload_n 0, 1) := by decide +kernel
theorem dX8_letSmuggler_15 : decode cX8_letSmuggler 15 = .ok (.getfield 22, 3) := by decide +kernel
theorem dX8_letSmuggler_18 : decode cX8_letSmuggler 18 = .ok (.bipush 30, 2) := by decide +kernel
theorem dX8_letSmuggler_20 : decode cX8_letSmuggler 20 = .ok (.iconst 3, 1) := by decide +kernel
theorem dX8_letSmuggler_21 : decode cX8_letSmuggler 21 = .ok (.iload_n 1, 1) := by decide +kernel
theorem dX8_letSmuggler_22 : decode cX8_letSmuggler 22 = .ok (.imul, 1) := by decide +kernel
theorem dX8_letSmuggler_23 : decode cX8_letSmuggler 23 = .ok (.iadd, 1) := by decide +kernel
theorem dX8_letSmuggler_24 : decode cX8_letSmuggler 24 = .ok (.iconst 1, 1) := by decide +kernel
theorem dX8_letSmuggler_25 : decode cX8_letSmuggler 25 = .ok (.iadd, 1) := by decide +kernel
theorem dX8_letSmuggler_26 : decode cX8_letSmuggler 26 = .ok (.iload_n 3, 1) := by decide +kernel
theorem dX8_letSmuggler_27 : decode cX8_letSmuggler 27 = .ok (.iastore, 1) := by decide +kernel
theorem dX8_letSmuggler_28 : decode cX8_letSmuggler 28 = .ok (.return_, 1) := by decide +kernel
theorem dX8_ca_0 : decode cX8_ca 0 = .ok (.aload_n 0, 1) := by decide +kernel
theorem dX8_ca_1 : decode cX8_ca 1 = .ok (.getfield 22, 3) := by decide +kernel
theorem dX8_ca_4 : decode cX8_ca 4 = .ok (.bipush 42, 2) := by decide +kernel
theorem dX8_ca_6 : decode cX8_ca 6 = .ok (.iconst 3, 1) := by decide +kernel
theorem dX8_ca_7 : decode cX8_ca 7 = .ok (.iload_n 1, 1) := by decide +kernel
theorem dX8_ca_8 : decode cX8_ca 8 = .ok (.imul, 1) := by decide +kernel
theorem dX8_ca_9 : decode cX8_ca 9 = .ok (.iadd, 1) := by decide +kernel
theorem dX8_ca_10 : decode cX8_ca 10 = .ok (.iload_n 2, 1) := by decide +kernel
theorem dX8_ca_11 : decode cX8_ca 11 = .ok (.iadd, 1) := by decide +kernel
theorem dX8_ca_12 : decode cX8_ca 12 = .ok (.iaload, 1) := by decide +kernel
theorem dX8_ca_13 : decode cX8_ca 13 = .ok (.ireturn, 1) := by decide +kernel
theorem dX8_moreCard_0 : decode cX8_moreCard 0 = .ok (.aload_n 0, 1) := by decide +kernel
theorem dX8_moreCard_1 : decode cX8_moreCard 1 = .ok (.getfield 22, 3) := by decide +kernel
theorem dX8_moreCard_4 : decode cX8_moreCard 4 = .ok (.bipush 42, 2) := by decide +kernel
theorem dX8_moreCard_6 : decode cX8_moreCard 6 = .ok (.iconst 3, 1) := by decide +kernel
theorem dX8_moreCard_7 : decode cX8_moreCard 7 = .ok (.iload_n 1, 1) := by decide +kernel
theorem dX8_moreCard_8 : decode cX8_moreCard 8 = .ok (.imul, 1) := by decide +kernel
theorem dX8_moreCard_9 : decode cX8_moreCard 9 = .ok (.iadd, 1) := by decide +kernel
theorem dX8_moreCard_10 : decode cX8_moreCard 10 = .ok (.iload_n 2, 1) := by decide +kernel
theorem dX8_moreCard_11 : decode cX8_moreCard 11 = .ok (.iadd, 1) := by decide +kernel
theorem dX8_moreCard_12 : decode cX8_moreCard 12 = .ok (.dup2, 1) := by decide +kernel
theorem dX8_moreCard_13 : decode cX8_moreCard 13 = .ok (.iaload, 1) := by decide +kernel
theorem dX8_moreCard_14 : decode cX8_moreCard 14 = .ok (.iload_n 3, 1) := by decide +kernel
theorem dX8_moreCard_15 : decode cX8_moreCard 15 = .ok (.iadd, 1) := by decide +kernel
theorem dX8_moreCard_16 : decode cX8_moreCard 16 = .ok (.iastore, 1) := by decide +kernel
theorem dX8_moreCard_17 : decode cX8_moreCard 17 = .ok (.return_, 1) := by decide +kernel
set_option maxRecDepth 20000 in
theorem ggX8_bed_X8_isIn : GoodIn wsX8_bed wsX8_isIn := goodIn_r _ [7] (by decide +kernel) (by decide +kernel)
set_option maxRecDepth 20000 in
theorem gX8_bed_X8_isIn : GoodIn wsX8_bed (va_wsS RX8 35 yX8_isIn wsX8_isIn) := goodIn_app (goodIn_of _ (by decide +kernel)) ggX8_bed_X8_isIn
set_option maxRecDepth 20000 in
theorem ggX8_bed_X8_fail : GoodIn wsX8_bed wsX8_fail := goodIn_r _ [11, 1, 12, 13, 14, 15, 16, 17, 18, 19, 20, 21, 22] (by decide +kernel) (by decide +kernel)
set_option maxRecDepth 20000 in
theorem gX8_bed_X8_fail : GoodIn wsX8_bed (wsV RX8 48 RX8 yX8_fail wsX8_fail) := goodIn_app (goodIn_of _ (by decide +kernel)) ggX8_bed_X8_fail
theorem dX8_bed_0 : decode cX8_bed 0 = .ok (.aload_n 0, 1) := by decide +kernel
theorem dX8_bed_1 : decode cX8_bed 1 = .ok (.iconst 0, 1) := by decide +kernel
theorem dX8_bed_2 : decode cX8_bed 2 = .ok (.putfield 28, 3) := by decide +kernel
theorem dX8_bed_5 : decode cX8_bed 5 = .ok (.iload_n 1, 1) := by decide +kernel
theorem dX8_bed_6 : decode cX8_bed 6 = .ok (.iconst 0, 1) := by decide +kernel
theorem dX8_bed_7 : decode cX8_bed 7 = .ok (.bipush 9, 2) := by decide +kernel
theorem dX8_bed_9 : decode cX8_bed 9 = .ok (.invokestatic 35, 3) := by decide +kernel
theorem dX8_bed_12 : decode cX8_bed 12 = .ok (.ifCond .eq 13, 3) := by decide +kernel
theorem dX8_bed_15 : decode cX8_bed 15 = .ok (.iload_n 2, 1) := by decide +kernel
theorem dX8_bed_16 : decode cX8_bed 16 = .ok (.iconst 1, 1) := by decide +kernel
theorem dX8_bed_17 : decode cX8_bed 17 = .ok (.bipush 99, 2) := by decide +kernel
theorem dX8_bed_19 : decode cX8_bed 19 = .ok (.invokestatic 35, 3) := by decide +kernel
theorem dX8_bed_22 : decode cX8_bed 22 = .ok (.ifCond .ne 9, 3) := by decide +kernel
theorem dX8_bed_25 : decode cX8_bed 25 = .ok (.aload_n 0, 1) := by decide +kernel
theorem dX8_bed_26 : decode cX8_bed 26 = .ok (.iconst 1, 1) := by decide +kernel
theorem dX8_bed_27 : decode cX8_bed 27 = .ok (.invokevirtual 48, 3) := by decide +kernel
theorem dX8_bed_30 : decode cX8_bed 30 = .ok (.ireturn, 1) := by decide +kernel
theorem dX8_bed_31 : decode cX8_bed 31 = .ok (.aload_n 0, 1) := by decide +kernel
theorem dX8_bed_32 : decode cX8_bed 32 = .ok (.getfield 52, 3) := by decide +kernel
theorem dX8_bed_35 : decode cX8_bed 35 = .ok (.iconst 4, 1) := by decide +kernel
theorem dX8_bed_36 : decode cX8_bed 36 = .ok (.if_icmp .ne 9, 3) := by decide +kernel
theorem dX8_bed_39 : decode cX8_bed 39 = .ok (.aload_n 0, 1) := by decide +kernel
theorem dX8_bed_40 : decode cX8_bed 40 = .ok (.iconst 2, 1) := by decide +kernel
theorem dX8_bed_41 : decode cX8_bed 41 = .ok (.invokevirtual 48, 3) := by decide +kernel
theorem dX8_bed_44 : decode cX8_bed 44 = .ok (.ireturn, 1) := by decide +kernel
theorem dX8_bed_45 : decode cX8_bed 45 = .ok (.aload_n 0, 1) := by decide +kernel
theorem dX8_bed_46 : decode cX8_bed 46 = .ok (.getfield 9, 3) := by decide +kernel
theorem dX8_bed_49 : decode cX8_bed 49 = .ok (.iconst 2, 1) := by decide +kernel
theorem dX8_bed_50 : decode cX8_bed 50 = .ok (.aload_n 0, 1) := by decide +kernel
theorem dX8_bed_51 : decode cX8_bed 51 = .ok (.getfield 52, 3) := by decide +kernel
theorem dX8_bed_54 : decode cX8_bed 54 = .ok (.imul, 1) := by decide +kernel
theorem dX8_bed_55 : decode cX8_bed 55 = .ok (.iload_n 1, 1) := by decide +kernel
theorem dX8_bed_56 : decode cX8_bed 56 = .ok (.iastore, 1) := by decide +kernel
theorem dX8_bed_57 : decode cX8_bed 57 = .ok (.aload_n 0, 1) := by decide +kernel
theorem dX8_bed_58 : decode cX8_bed 58 = .ok (.getfield 9, 3) := by decide +kernel
theorem dX8_bed_61 : decode cX8_bed 61 = .ok (.iconst 2, 1) := by decide +kernel
theorem dX8_bed_62 : decode cX8_bed 62 = .ok (.aload_n 0, 1) := by decide +kernel
theorem dX8_bed_63 : decode cX8_bed 63 = .ok (.getfield 52, 3) := by decide +kernel
theorem dX8_bed_66 : decode cX8_bed 66 = .ok (.imul, 1) := by decide +kernel
theorem dX8_bed_67 : decode cX8_bed 67 = .ok (.iconst 1, 1) := by decide +kernel
theorem dX8_bed_68 : decode cX8_bed 68 = .ok (.iadd, 1) := by decide +kernel
theorem dX8_bed_69 : decode cX8_bed 69 = .ok (.iload_n 2, 1) := by decide +kernel
theorem dX8_bed_70 : decode cX8_bed 70 = .ok (.iastore, 1) := by decide +kernel
theorem dX8_bed_71 : decode cX8_bed 71 = .ok (.aload_n 0, 1) := by decide +kernel
theorem dX8_bed_72 : decode cX8_bed 72 = .ok (.dup, 1) := by decide +kernel
theorem dX8_bed_73 : decode cX8_bed 73 = .ok (.getfield 52, 3) := by decide +kernel
theorem dX8_bed_76 : decode cX8_bed 76 = .ok (.iconst 1, 1) := by decide +kernel
theorem dX8_bed_77 : decode cX8_bed 77 = .ok (.iadd, 1) := by decide +kernel
theorem dX8_bed_78 : decode cX8_bed 78 = .ok (.putfield 52, 3) := by decide +kernel
theorem dX8_bed_81 : decode cX8_bed 81 = .ok (.aload_n 0, 1) := by decide +kernel
theorem dX8_bed_82 : decode cX8_bed 82 = .ok (.getfield 52, 3) := by decide +kernel
theorem dX8_bed_85 : decode cX8_bed 85 = .ok (.iconst 1, 1) := by decide +kernel
theorem dX8_bed_86 : decode cX8_bed 86 = .ok (.isub, 1) := by decide +kernel
theorem dX8_bed_87 : decode cX8_bed 87 = .ok (.ireturn, 1) := by decide +kernel
set_option maxRecDepth 20000 in
theorem ggX8_drum_X8_isIn : GoodIn wsX8_drum wsX8_isIn := goodIn_r _ [7] (by decide +kernel) (by decide +kernel)
set_option maxRecDepth 20000 in
theorem gX8_drum_X8_isIn : GoodIn wsX8_drum (va_wsS RX8 35 yX8_isIn wsX8_isIn) := goodIn_app (goodIn_of _ (by decide +kernel)) ggX8_drum_X8_isIn
set_option maxRecDepth 20000 in
theorem ggX8_drum_X8_fail : GoodIn wsX8_drum wsX8_fail := goodIn_r _ [11, 1, 17, 18, 19, 20, 21, 22, 23, 24, 25, 26, 27] (by decide +kernel) (by decide +kernel)
set_option maxRecDepth 20000 in
theorem gX8_drum_X8_fail : GoodIn wsX8_drum (wsV RX8 48 RX8 yX8_fail wsX8_fail) := goodIn_app (goodIn_of _ (by decide +kernel)) ggX8_drum_X8_fail
set_option maxRecDepth 20000 in
theorem ggX8_drum_X8_letDrum : GoodIn wsX8_drum wsX8_letDrum := goodIn_r _ [15, 16, 17, 18, 19, 20, 21, 22, 23, 24, 25, 26, 27] (by decide +kernel) (by decide +kernel)
set_option maxRecDepth 20000 in
theorem gX8_drum_X8_letDrum : GoodIn wsX8_drum (wsV RX8 55 RX8 yX8_letDrum wsX8_letDrum) := goodIn_app (goodIn_of _ (by decide +kernel)) ggX8_drum_X8_letDrum
theorem dX8_drum_0 : decode cX8_drum 0 = .ok (.aload_n 0, 1) := by decide +kernel
theorem dX8_drum_1 : decode cX8_drum 1 = .ok (.iconst 0, 1) := by decide +kernel
theorem dX8_drum_2 : decode cX8_drum 2 = .ok (.putfield 28, 3) := by decide +kernel
theorem dX8_drum_5 : decode cX8_drum 5 = .ok (.iload_n 1, 1) := by decide +kernel
theorem dX8_drum_6 : decode cX8_drum 6 = .ok (.iconst 1, 1) := by decide +kernel
theorem dX8_drum_7 : decode cX8_drum 7 = .ok (.bipush 40, 2) := by decide +kernel
theorem dX8_drum_9 : decode cX8_drum 9 = .ok (.invokestatic 35, 3) := by decide +kernel
theorem dX8_drum_12 : decode cX8_drum 12 = .ok (.ifCond .eq 13, 3) := by decide +kernel
theorem dX8_drum_15 : decode cX8_drum 15 = .ok (.iload_n 2, 1) := by decide +kernel
theorem dX8_drum_16 : decode cX8_drum 16 = .ok (.iconst 0, 1) := by decide +kernel
theorem dX8_drum_17 : decode cX8_drum 17 = .ok (.bipush 9, 2) := by decide +kernel
theorem dX8_drum_19 : decode cX8_drum 19 = .ok (.invokestatic 35, 3) := by decide +kernel
theorem dX8_drum_22 : decode cX8_drum 22 = .ok (.ifCond .ne 9, 3) := by decide +kernel
theorem dX8_drum_25 : decode cX8_drum 25 = .ok (.aload_n 0, 1) := by decide +kernel
theorem dX8_drum_26 : decode cX8_drum 26 = .ok (.iconst 1, 1) := by decide +kernel
theorem dX8_drum_27 : decode cX8_drum 27 = .ok (.invokevirtual 48, 3) := by decide +kernel
theorem dX8_drum_30 : decode cX8_drum 30 = .ok (.ireturn, 1) := by decide +kernel
theorem dX8_drum_31 : decode cX8_drum 31 = .ok (.aload_n 0, 1) := by decide +kernel
theorem dX8_drum_32 : decode cX8_drum 32 = .ok (.getfield 32, 3) := by decide +kernel
theorem dX8_drum_35 : decode cX8_drum 35 = .ok (.iconst 4, 1) := by decide +kernel
theorem dX8_drum_36 : decode cX8_drum 36 = .ok (.if_icmp .ne 9, 3) := by decide +kernel
theorem dX8_drum_39 : decode cX8_drum 39 = .ok (.aload_n 0, 1) := by decide +kernel
theorem dX8_drum_40 : decode cX8_drum 40 = .ok (.iconst 2, 1) := by decide +kernel
theorem dX8_drum_41 : decode cX8_drum 41 = .ok (.invokevirtual 48, 3) := by decide +kernel
theorem dX8_drum_44 : decode cX8_drum 44 = .ok (.ireturn, 1) := by decide +kernel
theorem dX8_drum_45 : decode cX8_drum 45 = .ok (.aload_n 0, 1) := by decide +kernel
theorem dX8_drum_46 : decode cX8_drum 46 = .ok (.getfield 13, 3) := by decide +kernel
theorem dX8_drum_49 : decode cX8_drum 49 = .ok (.aload_n 0, 1) := by decide +kernel
theorem dX8_drum_50 : decode cX8_drum 50 = .ok (.getfield 32, 3) := by decide +kernel
theorem dX8_drum_53 : decode cX8_drum 53 = .ok (.iload_n 1, 1) := by decide +kernel
theorem dX8_drum_54 : decode cX8_drum 54 = .ok (.iastore, 1) := by decide +kernel
theorem dX8_drum_55 : decode cX8_drum 55 = .ok (.aload_n 0, 1) := by decide +kernel
theorem dX8_drum_56 : decode cX8_drum 56 = .ok (.aload_n 0, 1) := by decide +kernel
theorem dX8_drum_57 : decode cX8_drum 57 = .ok (.getfield 32, 3) := by decide +kernel
theorem dX8_drum_60 : decode cX8_drum 60 = .ok (.iconst 0, 1) := by decide +kernel
theorem dX8_drum_61 : decode cX8_drum 61 = .ok (.iload_n 2, 1) := by decide +kernel
theorem dX8_drum_62 : decode cX8_drum 62 = .ok (.invokevirtual 55, 3) := by decide +kernel
theorem dX8_drum_65 : decode cX8_drum 65 = .ok (.aload_n 0, 1) := by decide +kernel
theorem dX8_drum_66 : decode cX8_drum 66 = .ok (.aload_n 0, 1) := by decide +kernel
theorem dX8_drum_67 : decode cX8_drum 67 = .ok (.getfield 32, 3) := by decide +kernel
theorem dX8_drum_70 : decode cX8_drum 70 = .ok (.iconst 1, 1) := by decide +kernel
theorem dX8_drum_71 : decode cX8_drum 71 = .ok (.iconst (-1), 1) := by decide +kernel
theorem dX8_drum_72 : decode cX8_drum 72 = .ok (.invokevirtual 55, 3) := by decide +kernel
theorem dX8_drum_75 : decode cX8_drum 75 = .ok (.aload_n 0, 1) := by decide +kernel
theorem dX8_drum_76 : decode cX8_drum 76 = .ok (.dup, 1) := by decide +kernel
theorem dX8_drum_77 : decode cX8_drum 77 = .ok (.getfield 32, 3) := by decide +kernel
theorem dX8_drum_80 : decode cX8_drum 80 = .ok (.iconst 1, 1) := by decide +kernel
theorem dX8_drum_81 : decode cX8_drum 81 = .ok (.iadd, 1) := by decide +kernel
theorem dX8_drum_82 : decode cX8_drum 82 = .ok (.putfield 32, 3) := by decide +kernel
theorem dX8_drum_85 : decode cX8_drum 85 = .ok (.aload_n 0, 1) := by decide +kernel
theorem dX8_drum_86 : decode cX8_drum 86 = .ok (.getfield 32, 3) := by decide +kernel
theorem dX8_drum_89 : decode cX8_drum 89 = .ok (.iconst 1, 1) := by decide +kernel
theorem dX8_drum_90 : decode cX8_drum 90 = .ok (.isub, 1) := by decide +kernel
theorem dX8_drum_91 : decode cX8_drum 91 = .ok (.ireturn, 1) := by decide +kernel
set_option maxRecDepth 20000 in
theorem ggX8_smuggler_X8_isIn : GoodIn wsX8_smuggler wsX8_isIn := goodIn_r _ [7] (by decide +kernel) (by decide +kernel)
set_option maxRecDepth 20000 in
theorem gX8_smuggler_X8_isIn : GoodIn wsX8_smuggler (va_wsS RX8 35 yX8_isIn wsX8_isIn) := goodIn_app (goodIn_of _ (by decide +kernel)) ggX8_smuggler_X8_isIn
set_option maxRecDepth 20000 in
theorem ggX8_smuggler_X8_fail : GoodIn wsX8_smuggler wsX8_fail := goodIn_r _ [11, 1, 12, 13, 14, 15, 16, 17, 18, 19, 20, 21, 22] (by decide +kernel) (by decide +kernel)
set_option maxRecDepth 20000 in
theorem gX8_smuggler_X8_fail : GoodIn wsX8_smuggler (wsV RX8 48 RX8 yX8_fail wsX8_fail) := goodIn_app (goodIn_of _ (by decide +kernel)) ggX8_smuggler_X8_fail
theorem dX8_smuggler_0 : decode cX8_smuggler 0 = .ok (.aload_n 0, 1) := by decide +kernel
theorem dX8_smuggler_1 : decode cX8_smuggler 1 = .ok (.iconst 0, 1) := by decide +kernel
theorem dX8_smuggler_2 : decode cX8_smuggler 2 = .ok (.putfield 28, 3) := by decide +kernel
theorem dX8_smuggler_5 : decode cX8_smuggler 5 = .ok (.iload_n 1, 1) := by decide +kernel
theorem dX8_smuggler_6 : decode cX8_smuggler 6 = .ok (.iconst 2, 1) := by decide +kernel
theorem dX8_smuggler_7 : decode cX8_smuggler 7 = .ok (.bipush 14, 2) := by decide +kernel
theorem dX8_smuggler_9 : decode cX8_smuggler 9 = .ok (.invokestatic 35, 3) := by decide +kernel
theorem dX8_smuggler_12 : decode cX8_smuggler 12 = .ok (.ifCond .eq 13, 3) := by decide +kernel
theorem dX8_smuggler_15 : decode cX8_smuggler 15 = .ok (.iload_n 2, 1) := by decide +kernel
theorem dX8_smuggler_16 : decode cX8_smuggler 16 = .ok (.iconst 1, 1) := by decide +kernel
theorem dX8_smuggler_17 : decode cX8_smuggler 17 = .ok (.bipush 30, 2) := by decide +kernel
theorem dX8_smuggler_19 : decode cX8_smuggler 19 = .ok (.invokestatic 35, 3) := by decide +kernel
theorem dX8_smuggler_22 : decode cX8_smuggler 22 = .ok (.ifCond .ne 9, 3) := by decide +kernel
theorem dX8_smuggler_25 : decode cX8_smuggler 25 = .ok (.aload_n 0, 1) := by decide +kernel
theorem dX8_smuggler_26 : decode cX8_smuggler 26 = .ok (.iconst 1, 1) := by decide +kernel
theorem dX8_smuggler_27 : decode cX8_smuggler 27 = .ok (.invokevirtual 48, 3) := by decide +kernel
theorem dX8_smuggler_30 : decode cX8_smuggler 30 = .ok (.ireturn, 1) := by decide +kernel
theorem dX8_smuggler_31 : decode cX8_smuggler 31 = .ok (.aload_n 0, 1) := by decide +kernel
theorem dX8_smuggler_32 : decode cX8_smuggler 32 = .ok (.getfield 39, 3) := by decide +kernel
theorem dX8_smuggler_35 : decode cX8_smuggler 35 = .ok (.iconst 4, 1) := by decide +kernel
theorem dX8_smuggler_36 : decode cX8_smuggler 36 = .ok (.if_icmp .ne 9, 3) := by decide +kernel
theorem dX8_smuggler_39 : decode cX8_smuggler 39 = .ok (.aload_n 0, 1) := by decide +kernel
theorem dX8_smuggler_40 : decode cX8_smuggler 40 = .ok (.iconst 2, 1) := by decide +kernel
theorem dX8_smuggler_41 : decode cX8_smuggler 41 = .ok (.invokevirtual 48, 3) := by decide +kernel
theorem dX8_smuggler_44 : decode cX8_smuggler 44 = .ok (.ireturn, 1) := by decide +kernel
theorem dX8_smuggler_45 : decode cX8_smuggler 45 = .ok (.aload_n 0, 1) := by decide +kernel
theorem dX8_smuggler_46 : decode cX8_smuggler 46 = .ok (.getfield 16, 3) := by decide +kernel
theorem dX8_smuggler_49 : decode cX8_smuggler 49 = .ok (.iconst 2, 1) := by decide +kernel
theorem dX8_smuggler_50 : decode cX8_smuggler 50 = .ok (.aload_n 0, 1) := by decide +kernel
theorem dX8_smuggler_51 : decode cX8_smuggler 51 = .ok (.getfield 39, 3) := by decide +kernel
theorem dX8_smuggler_54 : decode cX8_smuggler 54 = .ok (.imul, 1) := by decide +kernel
theorem dX8_smuggler_55 : decode cX8_smuggler 55 = .ok (.iload_n 1, 1) := by decide +kernel
theorem dX8_smuggler_56 : decode cX8_smuggler 56 = .ok (.iastore, 1) := by decide +kernel
theorem dX8_smuggler_57 : decode cX8_smuggler 57 = .ok (.aload_n 0, 1) := by decide +kernel
theorem dX8_smuggler_58 : decode cX8_smuggler 58 = .ok (.getfield 16, 3) := by decide +kernel
theorem dX8_smuggler_61 : decode cX8_smuggler 61 = .ok (.iconst 2, 1) := by decide +kernel
theorem dX8_smuggler_62 : decode cX8_smuggler 62 = .ok (.aload_n 0, 1) := by decide +kernel
theorem dX8_smuggler_63 : decode cX8_smuggler 63 = .ok (.getfield 39, 3) := by decide +kernel
theorem dX8_smuggler_66 : decode cX8_smuggler 66 = .ok (.imul, 1) := by decide +kernel
theorem dX8_smuggler_67 : decode cX8_smuggler 67 = .ok (.iconst 1, 1) := by decide +kernel
theorem dX8_smuggler_68 : decode cX8_smuggler 68 = .ok (.iadd, 1) := by decide +kernel
theorem dX8_smuggler_69 : decode cX8_smuggler 69 = .ok (.iload_n 2, 1) := by decide +kernel
theorem dX8_smuggler_70 : decode cX8_smuggler 70 = .ok (.iastore, 1) := by decide +kernel
theorem dX8_smuggler_71 : decode cX8_smuggler 71 = .ok (.aload_n 0, 1) := by decide +kernel
theorem dX8_smuggler_72 : decode cX8_smuggler 72 = .ok (.dup, 1) := by decide +kernel
theorem dX8_smuggler_73 : decode cX8_smuggler 73 = .ok (.getfield 39, 3) := by decide +kernel
theorem dX8_smuggler_76 : decode cX8_smuggler 76 = .ok (.iconst 1, 1) := by decide +kernel
theorem dX8_smuggler_77 : decode cX8_smuggler 77 = .ok (.iadd, 1) := by decide +kernel
theorem dX8_smuggler_78 : decode cX8_smuggler 78 = .ok (.putfield 39, 3) := by decide +kernel
theorem dX8_smuggler_81 : decode cX8_smuggler 81 = .ok (.aload_n 0, 1) := by decide +kernel
theorem dX8_smuggler_82 : decode cX8_smuggler 82 = .ok (.getfield 39, 3) := by decide +kernel
theorem dX8_smuggler_85 : decode cX8_smuggler 85 = .ok (.iconst 1, 1) := by decide +kernel
theorem dX8_smuggler_86 : decode cX8_smuggler 86 = .ok (.isub, 1) := by decide +kernel
theorem dX8_smuggler_87 : decode cX8_smuggler 87 = .ok (.ireturn, 1) := by decide +kernel
set_option maxRecDepth 20000 in
theorem ggX8_card_X8_isIn : GoodIn wsX8_card wsX8_isIn := goodIn_r _ [7] (by decide +kernel) (by decide +kernel)
set_option maxRecDepth 20000 in
theorem gX8_card_X8_isIn : GoodIn wsX8_card (va_wsS RX8 35 yX8_isIn wsX8_isIn) := goodIn_app (goodIn_of _ (by decide +kernel)) ggX8_card_X8_isIn
set_option maxRecDepth 20000 in
theorem ggX8_card_X8_fail : GoodIn wsX8_card wsX8_fail := goodIn_r _ [11, 1, 17, 18, 19, 20, 21, 22, 23, 24, 25, 26, 27] (by decide +kernel) (by decide +kernel)
set_option maxRecDepth 20000 in
theorem gX8_card_X8_fail : GoodIn wsX8_card (wsV RX8 48 RX8 yX8_fail wsX8_fail) := goodIn_app (goodIn_of _ (by decide +kernel)) ggX8_card_X8_fail
set_option maxRecDepth 20000 in
theorem ggX8_card_X8_moreCard : GoodIn wsX8_card wsX8_moreCard := goodIn_r _ [15, 16, 17, 18, 19, 20, 21, 22, 23, 24, 25, 26, 27] (by decide +kernel) (by decide +kernel)
set_option maxRecDepth 20000 in
theorem gX8_card_X8_moreCard : GoodIn wsX8_card (wsV RX8 62 RX8 yX8_moreCard wsX8_moreCard) := goodIn_app (goodIn_of _ (by decide +kernel)) ggX8_card_X8_moreCard
theorem dX8_card_0 : decode cX8_card 0 = .ok (.aload_n 0, 1) := by decide +kernel
theorem dX8_card_1 : decode cX8_card 1 = .ok (.iconst 0, 1) := by decide +kernel
theorem dX8_card_2 : decode cX8_card 2 = .ok (.putfield 28, 3) := by decide +kernel
theorem dX8_card_5 : decode cX8_card 5 = .ok (.iload_n 1, 1) := by decide +kernel
theorem dX8_card_6 : decode cX8_card 6 = .ok (.iconst 1, 1) := by decide +kernel
theorem dX8_card_7 : decode cX8_card 7 = .ok (.bipush 9, 2) := by decide +kernel
theorem dX8_card_9 : decode cX8_card 9 = .ok (.invokestatic 35, 3) := by decide +kernel
theorem dX8_card_12 : decode cX8_card 12 = .ok (.ifCond .eq 13, 3) := by decide +kernel
theorem dX8_card_15 : decode cX8_card 15 = .ok (.iload_n 2, 1) := by decide +kernel
theorem dX8_card_16 : decode cX8_card 16 = .ok (.iconst 0, 1) := by decide +kernel
theorem dX8_card_17 : decode cX8_card 17 = .ok (.bipush 10, 2) := by decide +kernel
theorem dX8_card_19 : decode cX8_card 19 = .ok (.invokestatic 35, 3) := by decide +kernel
theorem dX8_card_22 : decode cX8_card 22 = .ok (.ifCond .ne 9, 3) := by decide +kernel
theorem dX8_card_25 : decode cX8_card 25 = .ok (.aload_n 0, 1) := by decide +kernel
theorem dX8_card_26 : decode cX8_card 26 = .ok (.iconst 1, 1) := by decide +kernel
theorem dX8_card_27 : decode cX8_card 27 = .ok (.invokevirtual 48, 3) := by decide +kernel
theorem dX8_card_30 : decode cX8_card 30 = .ok (.ireturn, 1) := by decide +kernel
theorem dX8_card_31 : decode cX8_card 31 = .ok (.aload_n 0, 1) := by decide +kernel
theorem dX8_card_32 : decode cX8_card 32 = .ok (.getfield 59, 3) := by decide +kernel
theorem dX8_card_35 : decode cX8_card 35 = .ok (.bipush 10, 2) := by decide +kernel
theorem dX8_card_37 : decode cX8_card 37 = .ok (.if_icmp .ne 9, 3) := by decide +kernel
theorem dX8_card_40 : decode cX8_card 40 = .ok (.aload_n 0, 1) := by decide +kernel
theorem dX8_card_41 : decode cX8_card 41 = .ok (.iconst 2, 1) := by decide +kernel
theorem dX8_card_42 : decode cX8_card 42 = .ok (.invokevirtual 48, 3) := by decide +kernel
theorem dX8_card_45 : decode cX8_card 45 = .ok (.ireturn, 1) := by decide +kernel
theorem dX8_card_46 : decode cX8_card 46 = .ok (.aload_n 0, 1) := by decide +kernel
theorem dX8_card_47 : decode cX8_card 47 = .ok (.getfield 19, 3) := by decide +kernel
theorem dX8_card_50 : decode cX8_card 50 = .ok (.iconst 2, 1) := by decide +kernel
theorem dX8_card_51 : decode cX8_card 51 = .ok (.aload_n 0, 1) := by decide +kernel
theorem dX8_card_52 : decode cX8_card 52 = .ok (.getfield 59, 3) := by decide +kernel
theorem dX8_card_55 : decode cX8_card 55 = .ok (.imul, 1) := by decide +kernel
theorem dX8_card_56 : decode cX8_card 56 = .ok (.iload_n 1, 1) := by decide +kernel
theorem dX8_card_57 : decode cX8_card 57 = .ok (.iastore, 1) := by decide +kernel
theorem dX8_card_58 : decode cX8_card 58 = .ok (.aload_n 0, 1) := by decide +kernel
theorem dX8_card_59 : decode cX8_card 59 = .ok (.getfield 19, 3) := by decide +kernel
theorem dX8_card_62 : decode cX8_card 62 = .ok (.iconst 2, 1) := by decide +kernel
theorem dX8_card_63 : decode cX8_card 63 = .ok (.aload_n 0, 1) := by decide +kernel
theorem dX8_card_64 : decode cX8_card 64 = .ok (.getfield 59, 3) := by decide +kernel
theorem dX8_card_67 : decode cX8_card 67 = .ok (.imul, 1) := by decide +kernel
theorem dX8_card_68 : decode cX8_card 68 = .ok (.iconst 1, 1) := by decide +kernel
theorem dX8_card_69 : decode cX8_card 69 = .ok (.iadd, 1) := by decide +kernel
theorem dX8_card_70 : decode cX8_card 70 = .ok (.iload_n 2, 1) := by decide +kernel
theorem dX8_card_71 : decode cX8_card 71 = .ok (.iastore, 1) := by decide +kernel
theorem dX8_card_72 : decode cX8_card 72 = .ok (.aload_n 0, 1) := by decide +kernel
theorem dX8_card_73 : decode cX8_card 73 = .ok (.aload_n 0, 1) := by decide +kernel
theorem dX8_card_74 : decode cX8_card 74 = .ok (.getfield 59, 3) := by decide +kernel
theorem dX8_card_77 : decode cX8_card 77 = .ok (.iconst 0, 1) := by decide +kernel
theorem dX8_card_78 : decode cX8_card 78 = .ok (.iload_n 1, 1) := by decide +kernel
theorem dX8_card_79 : decode cX8_card 79 = .ok (.invokevirtual 62, 3) := by decide +kernel
theorem dX8_card_82 : decode cX8_card 82 = .ok (.aload_n 0, 1) := by decide +kernel
theorem dX8_card_83 : decode cX8_card 83 = .ok (.dup, 1) := by decide +kernel
theorem dX8_card_84 : decode cX8_card 84 = .ok (.getfield 59, 3) := by decide +kernel
theorem dX8_card_87 : decode cX8_card 87 = .ok (.iconst 1, 1) := by decide +kernel
theorem dX8_card_88 : decode cX8_card 88 = .ok (.iadd, 1) := by decide +kernel
theorem dX8_card_89 : decode cX8_card 89 = .ok (.putfield 59, 3) := by decide +kernel
theorem dX8_card_92 : decode cX8_card 92 = .ok (.aload_n 0, 1) := by decide +kernel
theorem dX8_card_93 : decode cX8_card 93 = .ok (.getfield 59, 3) := by decide +kernel
theorem dX8_card_96 : decode cX8_card 96 = .ok (.iconst 1, 1) := by decide +kernel
theorem dX8_card_97 : decode cX8_card 97 = .ok (.isub, 1) := by decide +kernel
theorem dX8_card_98 : decode cX8_card 98 = .ok (.ireturn, 1) := by decide +kernel
set_option maxRecDepth 20000 in
theorem ggX8_change_X8_isIn : GoodIn wsX8_change wsX8_isIn := goodIn_r _ [5] (by decide +kernel) (by decide +kernel)
set_option maxRecDepth 20000 in
theorem gX8_change_X8_isIn : GoodIn wsX8_change (va_wsS RX8 35 yX8_isIn wsX8_isIn) := goodIn_app (goodIn_of _ (by decide +kernel)) ggX8_change_X8_isIn
set_option maxRecDepth 20000 in
theorem ggX8_change_X8_fail : GoodIn wsX8_change wsX8_fail := goodIn_r _ [9, 10, 11, 12, 13, 14, 15, 16, 17, 18, 19, 20, 21] (by decide +kernel) (by decide +kernel)
set_option maxRecDepth 20000 in
theorem gX8_change_X8_fail : GoodIn wsX8_change (wsV RX8 48 RX8 yX8_fail wsX8_fail) := goodIn_app (goodIn_of _ (by decide +kernel)) ggX8_change_X8_fail
theorem dX8_change_0 : decode cX8_change 0 = .ok (.iload_n 2, 1) := by decide +kernel
theorem dX8_change_1 : decode cX8_change 1 = .ok (.iconst 0, 1) := by decide +kernel
theorem dX8_change_2 : decode cX8_change 2 = .ok (.iload_n 3, 1) := by decide +kernel
theorem dX8_change_3 : decode cX8_change 3 = .ok (.invokestatic 35, 3) := by decide +kernel
theorem dX8_change_6 : decode cX8_change 6 = .ok (.ifCond .ne 9, 3) := by decide +kernel
theorem dX8_change_9 : decode cX8_change 9 = .ok (.aload_n 0, 1) := by decide +kernel
theorem dX8_change_10 : decode cX8_change 10 = .ok (.iconst 1, 1) := by decide +kernel
theorem dX8_change_11 : decode cX8_change 11 = .ok (.invokevirtual 48, 3) := by decide +kernel
theorem dX8_change_14 : decode cX8_change 14 = .ok (.ireturn, 1) := by decide +kernel
theorem dX8_change_15 : decode cX8_change 15 = .ok (.aload_n 0, 1) := by decide +kernel
theorem dX8_change_16 : decode cX8_change 16 = .ok (.getfield 22, 3) := by decide +kernel
theorem dX8_change_19 : decode cX8_change 19 = .ok (.iload_n 1, 1) := by decide +kernel
theorem dX8_change_20 : decode cX8_change 20 = .ok (.iaload, 1) := by decide +kernel
theorem dX8_change_21 : decode cX8_change 21 = .ok (.istore 4, 2) := by decide +kernel
theorem dX8_change_23 : decode cX8_change 23 = .ok (.aload_n 0, 1) := by decide +kernel
theorem dX8_change_24 : decode cX8_change 24 = .ok (.getfield 22, 3) := by decide +kernel
theorem dX8_change_27 : decode cX8_change 27 = .ok (.iload_n 1, 1) := by decide +kernel
theorem dX8_change_28 : decode cX8_change 28 = .ok (.iload_n 2, 1) := by decide +kernel
theorem dX8_change_29 : decode cX8_change 29 = .ok (.iastore, 1) := by decide +kernel
theorem dX8_change_30 : decode cX8_change 30 = .ok (.iload 4, 2) := by decide +kernel
theorem dX8_change_32 : decode cX8_change 32 = .ok (.ireturn, 1) := by decide +kernel
set_option maxRecDepth 20000 in
theorem ggX8_setPatrol_X8_change : GoodIn wsX8_setPatrol wsX8_change := goodIn_r _ [6, 7, 8, 9, 5, 10, 11, 12, 13, 14, 1, 15, 16, 17, 18, 19, 20, 21, 22, 23, 24, 25] (by decide +kernel) (by decide +kernel)
set_option maxRecDepth 20000 in
theorem gX8_setPatrol_X8_change : GoodIn wsX8_setPatrol (wsV RX8 65 RX8 yX8_change wsX8_change) := goodIn_app (goodIn_of _ (by decide +kernel)) ggX8_setPatrol_X8_change
theorem dX8_setPatrol_0 : decode cX8_setPatrol 0 = .ok (.aload_n 0, 1) := by decide +kernel
theorem dX8_setPatrol_1 : decode cX8_setPatrol 1 = .ok (.iconst 0, 1) := by decide +kernel
theorem dX8_setPatrol_2 : decode cX8_setPatrol 2 = .ok (.putfield 28, 3) := by decide +kernel
theorem dX8_setPatrol_5 : decode cX8_setPatrol 5 = .ok (.aload_n 0, 1) := by decide +kernel
theorem dX8_setPatrol_6 : decode cX8_setPatrol 6 = .ok (.bipush 8, 2) := by decide +kernel
theorem dX8_setPatrol_8 : decode cX8_setPatrol 8 = .ok (.iload_n 1, 1) := by decide +kernel
theorem dX8_setPatrol_9 : decode cX8_setPatrol 9 = .ok (.bipush 127, 2) := by decide +kernel
theorem dX8_setPatrol_11 : decode cX8_setPatrol 11 = .ok (.invokevirtual 65, 3) := by decide +kernel
theorem dX8_setPatrol_14 : decode cX8_setPatrol 14 = .ok (.ireturn, 1) := by decide +kernel
set_option maxRecDepth 20000 in
theorem ggX8_setShare_X8_change : GoodIn wsX8_setShare wsX8_change := goodIn_r _ [6, 7, 8, 9, 5, 10, 11, 12, 13, 14, 1, 15, 16, 17, 18, 19, 20, 21, 22, 23, 24, 25] (by decide +kernel) (by decide +kernel)
set_option maxRecDepth 20000 in
theorem gX8_setShare_X8_change : GoodIn wsX8_setShare (wsV RX8 65 RX8 yX8_change wsX8_change) := goodIn_app (goodIn_of _ (by decide +kernel)) ggX8_setShare_X8_change
theorem dX8_setShare_0 : decode cX8_setShare 0 = .ok (.aload_n 0, 1) := by decide +kernel
theorem dX8_setShare_1 : decode cX8_setShare 1 = .ok (.iconst 0, 1) := by decide +kernel
theorem dX8_setShare_2 : decode cX8_setShare 2 = .ok (.putfield 28, 3) := by decide +kernel
theorem dX8_setShare_5 : decode cX8_setShare 5 = .ok (.aload_n 0, 1) := by decide +kernel
theorem dX8_setShare_6 : decode cX8_setShare 6 = .ok (.bipush 7, 2) := by decide +kernel
theorem dX8_setShare_8 : decode cX8_setShare 8 = .ok (.iload_n 1, 1) := by decide +kernel
theorem dX8_setShare_9 : decode cX8_setShare 9 = .ok (.bipush 10, 2) := by decide +kernel
theorem dX8_setShare_11 : decode cX8_setShare 11 = .ok (.invokevirtual 65, 3) := by decide +kernel
theorem dX8_setShare_14 : decode cX8_setShare 14 = .ok (.ireturn, 1) := by decide +kernel
set_option maxRecDepth 20000 in
theorem ggX8_setHeat_X8_isDrum : GoodIn wsX8_setHeat wsX8_isDrum := goodIn_r _ [6, 7, 8, 9, 5, 10, 24, 25, 26, 27, 28, 29, 30, 31, 32, 33, 34] (by decide +kernel) (by decide +kernel)
set_option maxRecDepth 20000 in
theorem gX8_setHeat_X8_isDrum : GoodIn wsX8_setHeat (wsV RX8 69 RX8 yX8_isDrum wsX8_isDrum) := goodIn_app (goodIn_of _ (by decide +kernel)) ggX8_setHeat_X8_isDrum
set_option maxRecDepth 20000 in
theorem ggX8_setHeat_X8_fail : GoodIn wsX8_setHeat wsX8_fail := goodIn_r _ [14, 1, 24, 25, 26, 27, 28, 29, 30, 31, 32, 33, 34] (by decide +kernel) (by decide +kernel)
set_option maxRecDepth 20000 in
theorem gX8_setHeat_X8_fail : GoodIn wsX8_setHeat (wsV RX8 48 RX8 yX8_fail wsX8_fail) := goodIn_app (goodIn_of _ (by decide +kernel)) ggX8_setHeat_X8_fail
set_option maxRecDepth 20000 in
theorem ggX8_setHeat_X8_isIn : GoodIn wsX8_setHeat wsX8_isIn := goodIn_r _ [10] (by decide +kernel) (by decide +kernel)
set_option maxRecDepth 20000 in
theorem gX8_setHeat_X8_isIn : GoodIn wsX8_setHeat (va_wsS RX8 35 yX8_isIn wsX8_isIn) := goodIn_app (goodIn_of _ (by decide +kernel)) ggX8_setHeat_X8_isIn
set_option maxRecDepth 20000 in
theorem ggX8_setHeat_X8_dr : GoodIn wsX8_setHeat wsX8_dr := goodIn_r _ [18, 19, 24, 25, 26, 27, 28, 29, 30, 31, 32, 33, 34] (by decide +kernel) (by decide +kernel)
set_option maxRecDepth 20000 in
theorem gX8_setHeat_X8_dr : GoodIn wsX8_setHeat (wsV RX8 73 RX8 yX8_dr wsX8_dr) := goodIn_app (goodIn_of _ (by decide +kernel)) ggX8_setHeat_X8_dr
set_option maxRecDepth 20000 in
theorem ggX8_setHeat_X8_letDrum : GoodIn wsX8_setHeat wsX8_letDrum := goodIn_r _ [23, 19, 24, 25, 26, 27, 28, 29, 30, 31, 32, 33, 34] (by decide +kernel) (by decide +kernel)
set_option maxRecDepth 20000 in
theorem gX8_setHeat_X8_letDrum : GoodIn wsX8_setHeat (wsV RX8 55 RX8 yX8_letDrum wsX8_letDrum) := goodIn_app (goodIn_of _ (by decide +kernel)) ggX8_setHeat_X8_letDrum
theorem dX8_setHeat_0 : decode cX8_setHeat 0 = .ok (.aload_n 0, 1) := by decide +kernel
theorem dX8_setHeat_1 : decode cX8_setHeat 1 = .ok (.iconst 0, 1) := by decide +kernel
theorem dX8_setHeat_2 : decode cX8_setHeat 2 = .ok (.putfield 28, 3) := by decide +kernel
theorem dX8_setHeat_5 : decode cX8_setHeat 5 = .ok (.aload_n 0, 1) := by decide +kernel
theorem dX8_setHeat_6 : decode cX8_setHeat 6 = .ok (.iload_n 1, 1) := by decide +kernel
theorem dX8_setHeat_7 : decode cX8_setHeat 7 = .ok (.invokevirtual 69, 3) := by decide +kernel
theorem dX8_setHeat_10 : decode cX8_setHeat 10 = .ok (.ifCond .ne 9, 3) := by decide +kernel
theorem dX8_setHeat_13 : decode cX8_setHeat 13 = .ok (.aload_n 0, 1) := by decide +kernel
theorem dX8_setHeat_14 : decode cX8_setHeat 14 = .ok (.iconst 1, 1) := by decide +kernel
theorem dX8_setHeat_15 : decode cX8_setHeat 15 = .ok (.invokevirtual 48, 3) := by decide +kernel
theorem dX8_setHeat_18 : decode cX8_setHeat 18 = .ok (.ireturn, 1) := by decide +kernel
theorem dX8_setHeat_19 : decode cX8_setHeat 19 = .ok (.iload_n 2, 1) := by decide +kernel
theorem dX8_setHeat_20 : decode cX8_setHeat 20 = .ok (.iconst 0, 1) := by decide +kernel
theorem dX8_setHeat_21 : decode cX8_setHeat 21 = .ok (.bipush 9, 2) := by decide +kernel
theorem dX8_setHeat_23 : decode cX8_setHeat 23 = .ok (.invokestatic 35, 3) := by decide +kernel
theorem dX8_setHeat_26 : decode cX8_setHeat 26 = .ok (.ifCond .ne 9, 3) := by decide +kernel
theorem dX8_setHeat_29 : decode cX8_setHeat 29 = .ok (.aload_n 0, 1) := by decide +kernel
theorem dX8_setHeat_30 : decode cX8_setHeat 30 = .ok (.iconst 2, 1) := by decide +kernel
theorem dX8_setHeat_31 : decode cX8_setHeat 31 = .ok (.invokevirtual 48, 3) := by decide +kernel
theorem dX8_setHeat_34 : decode cX8_setHeat 34 = .ok (.ireturn, 1) := by decide +kernel
theorem dX8_setHeat_35 : decode cX8_setHeat 35 = .ok (.aload_n 0, 1) := by decide +kernel
theorem dX8_setHeat_36 : decode cX8_setHeat 36 = .ok (.iload_n 1, 1) := by decide +kernel
theorem dX8_setHeat_37 : decode cX8_setHeat 37 = .ok (.iconst 0, 1) := by decide +kernel
theorem dX8_setHeat_38 : decode cX8_setHeat 38 = .ok (.invokevirtual 73, 3) := by decide +kernel
theorem dX8_setHeat_41 : decode cX8_setHeat 41 = .ok (.istore_n 3, 1) := by decide +kernel
theorem dX8_setHeat_42 : decode cX8_setHeat 42 = .ok (.aload_n 0, 1) := by decide +kernel
theorem dX8_setHeat_43 : decode cX8_setHeat 43 = .ok (.iload_n 1, 1) := by decide +kernel
theorem dX8_setHeat_44 : decode cX8_setHeat 44 = .ok (.iconst 0, 1) := by decide +kernel
theorem dX8_setHeat_45 : decode cX8_setHeat 45 = .ok (.iload_n 2, 1) := by decide +kernel
theorem dX8_setHeat_46 : decode cX8_setHeat 46 = .ok (.invokevirtual 55, 3) := by decide +kernel
theorem dX8_setHeat_49 : decode cX8_setHeat 49 = .ok (.iload_n 3, 1) := by decide +kernel
theorem dX8_setHeat_50 : decode cX8_setHeat 50 = .ok (.ireturn, 1) := by decide +kernel
set_option maxRecDepth 20000 in
theorem ggX8_dig_X8_isIn : GoodIn wsX8_dig wsX8_isIn := goodIn_r _ [7] (by decide +kernel) (by decide +kernel)
set_option maxRecDepth 20000 in
theorem gX8_dig_X8_isIn : GoodIn wsX8_dig (va_wsS RX8 35 yX8_isIn wsX8_isIn) := goodIn_app (goodIn_of _ (by decide +kernel)) ggX8_dig_X8_isIn
set_option maxRecDepth 20000 in
theorem ggX8_dig_X8_fail : GoodIn wsX8_dig wsX8_fail := goodIn_r _ [11, 1, 12, 13, 14, 15, 16, 17, 18, 19, 20, 21, 22] (by decide +kernel) (by decide +kernel)
set_option maxRecDepth 20000 in
theorem gX8_dig_X8_fail : GoodIn wsX8_dig (wsV RX8 48 RX8 yX8_fail wsX8_fail) := goodIn_app (goodIn_of _ (by decide +kernel)) ggX8_dig_X8_fail
theorem dX8_dig_0 : decode cX8_dig 0 = .ok (.aload_n 0, 1) := by decide +kernel
theorem dX8_dig_1 : decode cX8_dig 1 = .ok (.iconst 0, 1) := by decide +kernel
theorem dX8_dig_2 : decode cX8_dig 2 = .ok (.putfield 28, 3) := by decide +kernel
theorem dX8_dig_5 : decode cX8_dig 5 = .ok (.iload_n 1, 1) := by decide +kernel
theorem dX8_dig_6 : decode cX8_dig 6 = .ok (.iconst 0, 1) := by decide +kernel
theorem dX8_dig_7 : decode cX8_dig 7 = .ok (.aload_n 0, 1) := by decide +kernel
theorem dX8_dig_8 : decode cX8_dig 8 = .ok (.getfield 52, 3) := by decide +kernel
theorem dX8_dig_11 : decode cX8_dig 11 = .ok (.iconst 1, 1) := by decide +kernel
theorem dX8_dig_12 : decode cX8_dig 12 = .ok (.isub, 1) := by decide +kernel
theorem dX8_dig_13 : decode cX8_dig 13 = .ok (.invokestatic 35, 3) := by decide +kernel
theorem dX8_dig_16 : decode cX8_dig 16 = .ok (.ifCond .ne 9, 3) := by decide +kernel
theorem dX8_dig_19 : decode cX8_dig 19 = .ok (.aload_n 0, 1) := by decide +kernel
theorem dX8_dig_20 : decode cX8_dig 20 = .ok (.iconst 1, 1) := by decide +kernel
theorem dX8_dig_21 : decode cX8_dig 21 = .ok (.invokevirtual 48, 3) := by decide +kernel
theorem dX8_dig_24 : decode cX8_dig 24 = .ok (.ireturn, 1) := by decide +kernel
theorem dX8_dig_25 : decode cX8_dig 25 = .ok (.iload_n 2, 1) := by decide +kernel
theorem dX8_dig_26 : decode cX8_dig 26 = .ok (.iconst 1, 1) := by decide +kernel
theorem dX8_dig_27 : decode cX8_dig 27 = .ok (.bipush 99, 2) := by decide +kernel
theorem dX8_dig_29 : decode cX8_dig 29 = .ok (.invokestatic 35, 3) := by decide +kernel
theorem dX8_dig_32 : decode cX8_dig 32 = .ok (.ifCond .ne 9, 3) := by decide +kernel
theorem dX8_dig_35 : decode cX8_dig 35 = .ok (.aload_n 0, 1) := by decide +kernel
theorem dX8_dig_36 : decode cX8_dig 36 = .ok (.iconst 2, 1) := by decide +kernel
theorem dX8_dig_37 : decode cX8_dig 37 = .ok (.invokevirtual 48, 3) := by decide +kernel
theorem dX8_dig_40 : decode cX8_dig 40 = .ok (.ireturn, 1) := by decide +kernel
theorem dX8_dig_41 : decode cX8_dig 41 = .ok (.aload_n 0, 1) := by decide +kernel
theorem dX8_dig_42 : decode cX8_dig 42 = .ok (.getfield 22, 3) := by decide +kernel
theorem dX8_dig_45 : decode cX8_dig 45 = .ok (.bipush 10, 2) := by decide +kernel
theorem dX8_dig_47 : decode cX8_dig 47 = .ok (.iload_n 1, 1) := by decide +kernel
theorem dX8_dig_48 : decode cX8_dig 48 = .ok (.iadd, 1) := by decide +kernel
theorem dX8_dig_49 : decode cX8_dig 49 = .ok (.iaload, 1) := by decide +kernel
theorem dX8_dig_50 : decode cX8_dig 50 = .ok (.iload_n 2, 1) := by decide +kernel
theorem dX8_dig_51 : decode cX8_dig 51 = .ok (.if_icmp .ge 9, 3) := by decide +kernel
theorem dX8_dig_54 : decode cX8_dig 54 = .ok (.aload_n 0, 1) := by decide +kernel
theorem dX8_dig_55 : decode cX8_dig 55 = .ok (.iconst 3, 1) := by decide +kernel
theorem dX8_dig_56 : decode cX8_dig 56 = .ok (.invokevirtual 48, 3) := by decide +kernel
theorem dX8_dig_59 : decode cX8_dig 59 = .ok (.ireturn, 1) := by decide +kernel
theorem dX8_dig_60 : decode cX8_dig 60 = .ok (.aload_n 0, 1) := by decide +kernel
theorem dX8_dig_61 : decode cX8_dig 61 = .ok (.getfield 22, 3) := by decide +kernel
theorem dX8_dig_64 : decode cX8_dig 64 = .ok (.bipush 10, 2) := by decide +kernel
theorem dX8_dig_66 : decode cX8_dig 66 = .ok (.iload_n 1, 1) := by decide +kernel
theorem dX8_dig_67 : decode cX8_dig 67 = .ok (.iadd, 1) := by decide +kernel
theorem dX8_dig_68 : decode cX8_dig 68 = .ok (.dup2, 1) := by decide +kernel
theorem dX8_dig_69 : decode cX8_dig 69 = .ok (.iaload, 1) := by decide +kernel
theorem dX8_dig_70 : decode cX8_dig 70 = .ok (.iload_n 2, 1) := by decide +kernel
theorem dX8_dig_71 : decode cX8_dig 71 = .ok (.isub, 1) := by decide +kernel
theorem dX8_dig_72 : decode cX8_dig 72 = .ok (.iastore, 1) := by decide +kernel
theorem dX8_dig_73 : decode cX8_dig 73 = .ok (.aload_n 0, 1) := by decide +kernel
theorem dX8_dig_74 : decode cX8_dig 74 = .ok (.getfield 22, 3) := by decide +kernel
theorem dX8_dig_77 : decode cX8_dig 77 = .ok (.iconst 1, 1) := by decide +kernel
theorem dX8_dig_78 : decode cX8_dig 78 = .ok (.dup2, 1) := by decide +kernel
theorem dX8_dig_79 : decode cX8_dig 79 = .ok (.iaload, 1) := by decide +kernel
theorem dX8_dig_80 : decode cX8_dig 80 = .ok (.iload_n 2, 1) := by decide +kernel
theorem dX8_dig_81 : decode cX8_dig 81 = .ok (.iadd, 1) := by decide +kernel
theorem dX8_dig_82 : decode cX8_dig 82 = .ok (.iastore, 1) := by decide +kernel
theorem dX8_dig_83 : decode cX8_dig 83 = .ok (.aload_n 0, 1) := by decide +kernel
theorem dX8_dig_84 : decode cX8_dig 84 = .ok (.getfield 22, 3) := by decide +kernel
theorem dX8_dig_87 : decode cX8_dig 87 = .ok (.bipush 10, 2) := by decide +kernel
theorem dX8_dig_89 : decode cX8_dig 89 = .ok (.iload_n 1, 1) := by decide +kernel
theorem dX8_dig_90 : decode cX8_dig 90 = .ok (.iadd, 1) := by decide +kernel
theorem dX8_dig_91 : decode cX8_dig 91 = .ok (.iaload, 1) := by decide +kernel
theorem dX8_dig_92 : decode cX8_dig 92 = .ok (.ireturn, 1) := by decide +kernel
set_option maxRecDepth 20000 in
theorem ggX8_give_X8_isIn : GoodIn wsX8_give wsX8_isIn := goodIn_r _ [6] (by decide +kernel) (by decide +kernel)
set_option maxRecDepth 20000 in
theorem gX8_give_X8_isIn : GoodIn wsX8_give (va_wsS RX8 35 yX8_isIn wsX8_isIn) := goodIn_app (goodIn_of _ (by decide +kernel)) ggX8_give_X8_isIn
set_option maxRecDepth 20000 in
theorem ggX8_give_X8_fail : GoodIn wsX8_give wsX8_fail := goodIn_r _ [10, 1, 11, 12, 13, 14, 15, 16, 17, 18, 19, 20, 21] (by decide +kernel) (by decide +kernel)
set_option maxRecDepth 20000 in
theorem gX8_give_X8_fail : GoodIn wsX8_give (wsV RX8 48 RX8 yX8_fail wsX8_fail) := goodIn_app (goodIn_of _ (by decide +kernel)) ggX8_give_X8_fail
theorem dX8_give_0 : decode cX8_give 0 = .ok (.aload_n 0, 1) := by decide +kernel
theorem dX8_give_1 : decode cX8_give 1 = .ok (.iconst 0, 1) := by decide +kernel
theorem dX8_give_2 : decode cX8_give 2 = .ok (.putfield 28, 3) := by decide +kernel
theorem dX8_give_5 : decode cX8_give 5 = .ok (.iload_n 1, 1) := by decide +kernel
theorem dX8_give_6 : decode cX8_give 6 = .ok (.iconst 0, 1) := by decide +kernel
theorem dX8_give_7 : decode cX8_give 7 = .ok (.iconst 1, 1) := by decide +kernel
theorem dX8_give_8 : decode cX8_give 8 = .ok (.invokestatic 35, 3) := by decide +kernel
theorem dX8_give_11 : decode cX8_give 11 = .ok (.ifCond .ne 9, 3) := by decide +kernel
theorem dX8_give_14 : decode cX8_give 14 = .ok (.aload_n 0, 1) := by decide +kernel
theorem dX8_give_15 : decode cX8_give 15 = .ok (.iconst 1, 1) := by decide +kernel
theorem dX8_give_16 : decode cX8_give 16 = .ok (.invokevirtual 48, 3) := by decide +kernel
theorem dX8_give_19 : decode cX8_give 19 = .ok (.ireturn, 1) := by decide +kernel
theorem dX8_give_20 : decode cX8_give 20 = .ok (.iload_n 2, 1) := by decide +kernel
theorem dX8_give_21 : decode cX8_give 21 = .ok (.iconst 1, 1) := by decide +kernel
theorem dX8_give_22 : decode cX8_give 22 = .ok (.bipush 99, 2) := by decide +kernel
theorem dX8_give_24 : decode cX8_give 24 = .ok (.invokestatic 35, 3) := by decide +kernel
theorem dX8_give_27 : decode cX8_give 27 = .ok (.ifCond .ne 9, 3) := by decide +kernel
theorem dX8_give_30 : decode cX8_give 30 = .ok (.aload_n 0, 1) := by decide +kernel
theorem dX8_give_31 : decode cX8_give 31 = .ok (.iconst 2, 1) := by decide +kernel
theorem dX8_give_32 : decode cX8_give 32 = .ok (.invokevirtual 48, 3) := by decide +kernel
theorem dX8_give_35 : decode cX8_give 35 = .ok (.ireturn, 1) := by decide +kernel
theorem dX8_give_36 : decode cX8_give 36 = .ok (.aload_n 0, 1) := by decide +kernel
theorem dX8_give_37 : decode cX8_give 37 = .ok (.getfield 22, 3) := by decide +kernel
theorem dX8_give_40 : decode cX8_give 40 = .ok (.iconst 1, 1) := by decide +kernel
theorem dX8_give_41 : decode cX8_give 41 = .ok (.iload_n 1, 1) := by decide +kernel
theorem dX8_give_42 : decode cX8_give 42 = .ok (.iadd, 1) := by decide +kernel
theorem dX8_give_43 : decode cX8_give 43 = .ok (.dup2, 1) := by decide +kernel
theorem dX8_give_44 : decode cX8_give 44 = .ok (.iaload, 1) := by decide +kernel
theorem dX8_give_45 : decode cX8_give 45 = .ok (.iload_n 2, 1) := by decide +kernel
theorem dX8_give_46 : decode cX8_give 46 = .ok (.iadd, 1) := by decide +kernel
theorem dX8_give_47 : decode cX8_give 47 = .ok (.iastore, 1) := by decide +kernel
theorem dX8_give_48 : decode cX8_give 48 = .ok (.aload_n 0, 1) := by decide +kernel
theorem dX8_give_49 : decode cX8_give 49 = .ok (.getfield 22, 3) := by decide +kernel
theorem dX8_give_52 : decode cX8_give 52 = .ok (.iconst 1, 1) := by decide +kernel
theorem dX8_give_53 : decode cX8_give 53 = .ok (.iload_n 1, 1) := by decide +kernel
theorem dX8_give_54 : decode cX8_give 54 = .ok (.iadd, 1) := by decide +kernel
theorem dX8_give_55 : decode cX8_give 55 = .ok (.iaload, 1) := by decide +kernel
theorem dX8_give_56 : decode cX8_give 56 = .ok (.ireturn, 1) := by decide +kernel
set_option maxRecDepth 20000 in
theorem ggX8_load_X8_isDrum : GoodIn wsX8_load wsX8_isDrum := goodIn_r _ [8, 9, 10, 11, 7, 12, 25, 26, 27, 28, 29, 30, 31, 32, 33, 34, 35] (by decide +kernel) (by decide +kernel)
set_option maxRecDepth 20000 in
theorem gX8_load_X8_isDrum : GoodIn wsX8_load (wsV RX8 69 RX8 yX8_isDrum wsX8_isDrum) := goodIn_app (goodIn_of _ (by decide +kernel)) ggX8_load_X8_isDrum
set_option maxRecDepth 20000 in
theorem ggX8_load_X8_isIn : GoodIn wsX8_load wsX8_isIn := goodIn_r _ [12] (by decide +kernel) (by decide +kernel)
set_option maxRecDepth 20000 in
theorem gX8_load_X8_isIn : GoodIn wsX8_load (va_wsS RX8 35 yX8_isIn wsX8_isIn) := goodIn_app (goodIn_of _ (by decide +kernel)) ggX8_load_X8_isIn
set_option maxRecDepth 20000 in
theorem ggX8_load_X8_fail : GoodIn wsX8_load wsX8_fail := goodIn_r _ [16, 1, 25, 26, 27, 28, 29, 30, 31, 32, 33, 34, 35] (by decide +kernel) (by decide +kernel)
set_option maxRecDepth 20000 in
theorem gX8_load_X8_fail : GoodIn wsX8_load (wsV RX8 48 RX8 yX8_fail wsX8_fail) := goodIn_app (goodIn_of _ (by decide +kernel)) ggX8_load_X8_fail
set_option maxRecDepth 20000 in
theorem ggX8_load_X8_dr : GoodIn wsX8_load wsX8_dr := goodIn_r _ [20, 3, 25, 26, 27, 28, 29, 30, 31, 32, 33, 34, 35] (by decide +kernel) (by decide +kernel)
set_option maxRecDepth 20000 in
theorem gX8_load_X8_dr : GoodIn wsX8_load (wsV RX8 73 RX8 yX8_dr wsX8_dr) := goodIn_app (goodIn_of _ (by decide +kernel)) ggX8_load_X8_dr
set_option maxRecDepth 20000 in
theorem ggX8_load_X8_letDrum : GoodIn wsX8_load wsX8_letDrum := goodIn_r _ [24, 3, 25, 26, 27, 28, 29, 30, 31, 32, 33, 34, 35] (by decide +kernel) (by decide +kernel)
set_option maxRecDepth 20000 in
theorem gX8_load_X8_letDrum : GoodIn wsX8_load (wsV RX8 55 RX8 yX8_letDrum wsX8_letDrum) := goodIn_app (goodIn_of _ (by decide +kernel)) ggX8_load_X8_letDrum
theorem dX8_load_0 : decode cX8_load 0 = .ok (.aload_n 0, 1) := by decide +kernel
theorem dX8_load_1 : decode cX8_load 1 = .ok (.iconst 0, 1) := by decide +kernel
theorem dX8_load_2 : decode cX8_load 2 = .ok (.putfield 28, 3) := by decide +kernel
theorem dX8_load_5 : decode cX8_load 5 = .ok (.aload_n 0, 1) := by decide +kernel
theorem dX8_load_6 : decode cX8_load 6 = .ok (.iload_n 1, 1) := by decide +kernel
theorem dX8_load_7 : decode cX8_load 7 = .ok (.invokevirtual 69, 3) := by decide +kernel
theorem dX8_load_10 : decode cX8_load 10 = .ok (.ifCond .eq 12, 3) := by decide +kernel
theorem dX8_load_13 : decode cX8_load 13 = .ok (.iload_n 2, 1) := by decide +kernel
theorem dX8_load_14 : decode cX8_load 14 = .ok (.iconst 0, 1) := by decide +kernel
theorem dX8_load_15 : decode cX8_load 15 = .ok (.iconst 1, 1) := by decide +kernel
theorem dX8_load_16 : decode cX8_load 16 = .ok (.invokestatic 35, 3) := by decide +kernel
theorem dX8_load_19 : decode cX8_load 19 = .ok (.ifCond .ne 9, 3) := by decide +kernel
theorem dX8_load_22 : decode cX8_load 22 = .ok (.aload_n 0, 1) := by decide +kernel
theorem dX8_load_23 : decode cX8_load 23 = .ok (.iconst 1, 1) := by decide +kernel
theorem dX8_load_24 : decode cX8_load 24 = .ok (.invokevirtual 48, 3) := by decide +kernel
theorem dX8_load_27 : decode cX8_load 27 = .ok (.ireturn, 1) := by decide +kernel
theorem dX8_load_28 : decode cX8_load 28 = .ok (.iload_n 3, 1) := by decide +kernel
theorem dX8_load_29 : decode cX8_load 29 = .ok (.iconst 1, 1) := by decide +kernel
theorem dX8_load_30 : decode cX8_load 30 = .ok (.aload_n 0, 1) := by decide +kernel
theorem dX8_load_31 : decode cX8_load 31 = .ok (.getfield 13, 3) := by decide +kernel
theorem dX8_load_34 : decode cX8_load 34 = .ok (.iload_n 1, 1) := by decide +kernel
theorem dX8_load_35 : decode cX8_load 35 = .ok (.iaload, 1) := by decide +kernel
theorem dX8_load_36 : decode cX8_load 36 = .ok (.invokestatic 35, 3) := by decide +kernel
theorem dX8_load_39 : decode cX8_load 39 = .ok (.ifCond .ne 9, 3) := by decide +kernel
theorem dX8_load_42 : decode cX8_load 42 = .ok (.aload_n 0, 1) := by decide +kernel
theorem dX8_load_43 : decode cX8_load 43 = .ok (.iconst 2, 1) := by decide +kernel
theorem dX8_load_44 : decode cX8_load 44 = .ok (.invokevirtual 48, 3) := by decide +kernel
theorem dX8_load_47 : decode cX8_load 47 = .ok (.ireturn, 1) := by decide +kernel
theorem dX8_load_48 : decode cX8_load 48 = .ok (.aload_n 0, 1) := by decide +kernel
theorem dX8_load_49 : decode cX8_load 49 = .ok (.iload_n 1, 1) := by decide +kernel
theorem dX8_load_50 : decode cX8_load 50 = .ok (.iconst 1, 1) := by decide +kernel
theorem dX8_load_51 : decode cX8_load 51 = .ok (.invokevirtual 73, 3) := by decide +kernel
theorem dX8_load_54 : decode cX8_load 54 = .ok (.iconst (-1), 1) := by decide +kernel
theorem dX8_load_55 : decode cX8_load 55 = .ok (.if_icmp .ne 15, 3) := by decide +kernel
theorem dX8_load_58 : decode cX8_load 58 = .ok (.aload_n 0, 1) := by decide +kernel
theorem dX8_load_59 : decode cX8_load 59 = .ok (.getfield 22, 3) := by decide +kernel
theorem dX8_load_62 : decode cX8_load 62 = .ok (.iconst 1, 1) := by decide +kernel
theorem dX8_load_63 : decode cX8_load 63 = .ok (.iload_n 2, 1) := by decide +kernel
theorem dX8_load_64 : decode cX8_load 64 = .ok (.iadd, 1) := by decide +kernel
theorem dX8_load_65 : decode cX8_load 65 = .ok (.iaload, 1) := by decide +kernel
theorem dX8_load_66 : decode cX8_load 66 = .ok (.iload_n 3, 1) := by decide +kernel
theorem dX8_load_67 : decode cX8_load 67 = .ok (.if_icmp .ge 9, 3) := by decide +kernel
theorem dX8_load_70 : decode cX8_load 70 = .ok (.aload_n 0, 1) := by decide +kernel
theorem dX8_load_71 : decode cX8_load 71 = .ok (.iconst 3, 1) := by decide +kernel
theorem dX8_load_72 : decode cX8_load 72 = .ok (.invokevirtual 48, 3) := by decide +kernel
theorem dX8_load_75 : decode cX8_load 75 = .ok (.ireturn, 1) := by decide +kernel
theorem dX8_load_76 : decode cX8_load 76 = .ok (.aload_n 0, 1) := by decide +kernel
theorem dX8_load_77 : decode cX8_load 77 = .ok (.getfield 22, 3) := by decide +kernel
theorem dX8_load_80 : decode cX8_load 80 = .ok (.iconst 1, 1) := by decide +kernel
theorem dX8_load_81 : decode cX8_load 81 = .ok (.iload_n 2, 1) := by decide +kernel
theorem dX8_load_82 : decode cX8_load 82 = .ok (.iadd, 1) := by decide +kernel
theorem dX8_load_83 : decode cX8_load 83 = .ok (.dup2, 1) := by decide +kernel
theorem dX8_load_84 : decode cX8_load 84 = .ok (.iaload, 1) := by decide +kernel
theorem dX8_load_85 : decode cX8_load 85 = .ok (.iload_n 3, 1) := by decide +kernel
theorem dX8_load_86 : decode cX8_load 86 = .ok (.isub, 1) := by decide +kernel
theorem dX8_load_87 : decode cX8_load 87 = .ok (.iastore, 1) := by decide +kernel
theorem dX8_load_88 : decode cX8_load 88 = .ok (.aload_n 0, 1) := by decide +kernel
theorem dX8_load_89 : decode cX8_load 89 = .ok (.iload_n 1, 1) := by decide +kernel
theorem dX8_load_90 : decode cX8_load 90 = .ok (.iconst 1, 1) := by decide +kernel
theorem dX8_load_91 : decode cX8_load 91 = .ok (.iload_n 2, 1) := by decide +kernel
theorem dX8_load_92 : decode cX8_load 92 = .ok (.invokevirtual 55, 3) := by decide +kernel
theorem dX8_load_95 : decode cX8_load 95 = .ok (.aload_n 0, 1) := by decide +kernel
theorem dX8_load_96 : decode cX8_load 96 = .ok (.iload_n 1, 1) := by decide +kernel
theorem dX8_load_97 : decode cX8_load 97 = .ok (.iconst 2, 1) := by decide +kernel
theorem dX8_load_98 : decode cX8_load 98 = .ok (.iload_n 3, 1) := by decide +kernel
theorem dX8_load_99 : decode cX8_load 99 = .ok (.invokevirtual 55, 3) := by decide +kernel
theorem dX8_load_102 : decode cX8_load 102 = .ok (.aload_n 0, 1) := by decide +kernel
theorem dX8_load_103 : decode cX8_load 103 = .ok (.iload_n 1, 1) := by decide +kernel
theorem dX8_load_104 : decode cX8_load 104 = .ok (.iconst 3, 1) := by decide +kernel
theorem dX8_load_105 : decode cX8_load 105 = .ok (.iconst 0, 1) := by decide +kernel
theorem dX8_load_106 : decode cX8_load 106 = .ok (.invokevirtual 55, 3) := by decide +kernel
theorem dX8_load_109 : decode cX8_load 109 = .ok (.aload_n 0, 1) := by decide +kernel
theorem dX8_load_110 : decode cX8_load 110 = .ok (.getfield 22, 3) := by decide +kernel
theorem dX8_load_113 : decode cX8_load 113 = .ok (.iconst 1, 1) := by decide +kernel
theorem dX8_load_114 : decode cX8_load 114 = .ok (.iload_n 2, 1) := by decide +kernel
theorem dX8_load_115 : decode cX8_load 115 = .ok (.iadd, 1) := by decide +kernel
theorem dX8_load_116 : decode cX8_load 116 = .ok (.iaload, 1) := by decide +kernel
theorem dX8_load_117 : decode cX8_load 117 = .ok (.ireturn, 1) := by decide +kernel
theorem dX8_yields_0 : decode cX8_yields 0 = .ok (.iload_n 2, 1) := by decide +kernel
theorem dX8_yields_1 : decode cX8_yields 1 = .ok (.getstatic 77, 3) := by decide +kernel
theorem dX8_yields_4 : decode cX8_yields 4 = .ok (.iload_n 0, 1) := by decide +kernel
theorem dX8_yields_5 : decode cX8_yields 5 = .ok (.iaload, 1) := by decide +kernel
theorem dX8_yields_6 : decode cX8_yields 6 = .ok (.if_icmp .lt 12, 3) := by decide +kernel
theorem dX8_yields_9 : decode cX8_yields 9 = .ok (.iload_n 2, 1) := by decide +kernel
theorem dX8_yields_10 : decode cX8_yields 10 = .ok (.getstatic 80, 3) := by decide +kernel
theorem dX8_yields_13 : decode cX8_yields 13 = .ok (.iload_n 0, 1) := by decide +kernel
theorem dX8_yields_14 : decode cX8_yields 14 = .ok (.iaload, 1) := by decide +kernel
theorem dX8_yields_15 : decode cX8_yields 15 = .ok (.if_icmp .lt 5, 3) := by decide +kernel
theorem dX8_yields_18 : decode cX8_yields 18 = .ok (.iconst 0, 1) := by decide +kernel
theorem dX8_yields_19 : decode cX8_yields 19 = .ok (.ireturn, 1) := by decide +kernel
theorem dX8_yields_20 : decode cX8_yields 20 = .ok (.iload_n 1, 1) := by decide +kernel
theorem dX8_yields_21 : decode cX8_yields 21 = .ok (.getstatic 83, 3) := by decide +kernel
theorem dX8_yields_24 : decode cX8_yields 24 = .ok (.iload_n 0, 1) := by decide +kernel
theorem dX8_yields_25 : decode cX8_yields 25 = .ok (.iaload, 1) := by decide +kernel
theorem dX8_yields_26 : decode cX8_yields 26 = .ok (.imul, 1) := by decide +kernel
theorem dX8_yields_27 : decode cX8_yields 27 = .ok (.getstatic 80, 3) := by decide +kernel
theorem dX8_yields_30 : decode cX8_yields 30 = .ok (.iload_n 0, 1) := by decide +kernel
theorem dX8_yields_31 : decode cX8_yields 31 = .ok (.iaload, 1) := by decide +kernel
theorem dX8_yields_32 : decode cX8_yields 32 = .ok (.iload_n 2, 1) := by decide +kernel
theorem dX8_yields_33 : decode cX8_yields 33 = .ok (.isub, 1) := by decide +kernel
theorem dX8_yields_34 : decode cX8_yields 34 = .ok (.imul, 1) := by decide +kernel
theorem dX8_yields_35 : decode cX8_yields 35 = .ok (.getstatic 80, 3) := by decide +kernel
theorem dX8_yields_38 : decode cX8_yields 38 = .ok (.iload_n 0, 1) := by decide +kernel
theorem dX8_yields_39 : decode cX8_yields 39 = .ok (.iaload, 1) := by decide +kernel
theorem dX8_yields_40 : decode cX8_yields 40 = .ok (.getstatic 77, 3) := by decide +kernel
theorem dX8_yields_43 : decode cX8_yields 43 = .ok (.iload_n 0, 1) := by decide +kernel
theorem dX8_yields_44 : decode cX8_yields 44 = .ok (.iaload, 1) := by decide +kernel
theorem dX8_yields_45 : decode cX8_yields 45 = .ok (.isub, 1) := by decide +kernel
theorem dX8_yields_46 : decode cX8_yields 46 = .ok (.idiv, 1) := by decide +kernel
theorem dX8_yields_47 : decode cX8_yields 47 = .ok (.ireturn, 1) := by decide +kernel
set_option maxRecDepth 20000 in
theorem ggX8_yieldOf_X8_dr : GoodIn wsX8_yieldOf wsX8_dr := goodIn_r _ [5, 6, 13, 14, 15, 16, 17, 18, 19, 20, 21, 22, 23] (by decide +kernel) (by decide +kernel)
set_option maxRecDepth 20000 in
theorem gX8_yieldOf_X8_dr : GoodIn wsX8_yieldOf (wsV RX8 73 RX8 yX8_dr wsX8_dr) := goodIn_app (goodIn_of _ (by decide +kernel)) ggX8_yieldOf_X8_dr
set_option maxRecDepth 20000 in
theorem ggX8_yieldOf_X8_yields : GoodIn wsX8_yieldOf wsX8_yields := goodIn_r _ [9, 10, 11, 12] (by decide +kernel) (by decide +kernel)
set_option maxRecDepth 20000 in
theorem gX8_yieldOf_X8_yields : GoodIn wsX8_yieldOf (va_wsS RX8 86 yX8_yields wsX8_yields) := goodIn_app (goodIn_of _ (by decide +kernel)) ggX8_yieldOf_X8_yields
theorem dX8_yieldOf_0 : decode cX8_yieldOf 0 = .ok (.aload_n 0, 1) := by decide +kernel
theorem dX8_yieldOf_1 : decode cX8_yieldOf 1 = .ok (.iload_n 1, 1) := by decide +kernel
theorem dX8_yieldOf_2 : decode cX8_yieldOf 2 = .ok (.iconst 1, 1) := by decide +kernel
theorem dX8_yieldOf_3 : decode cX8_yieldOf 3 = .ok (.invokevirtual 73, 3) := by decide +kernel
theorem dX8_yieldOf_6 : decode cX8_yieldOf 6 = .ok (.iconst (-1), 1) := by decide +kernel
theorem dX8_yieldOf_7 : decode cX8_yieldOf 7 = .ok (.if_icmp .ne 7, 3) := by decide +kernel
theorem dX8_yieldOf_10 : decode cX8_yieldOf 10 = .ok (.iconst 0, 1) := by decide +kernel
theorem dX8_yieldOf_11 : decode cX8_yieldOf 11 = .ok (.goto 24, 3) := by decide +kernel
theorem dX8_yieldOf_14 : decode cX8_yieldOf 14 = .ok (.aload_n 0, 1) := by decide +kernel
theorem dX8_yieldOf_15 : decode cX8_yieldOf 15 = .ok (.iload_n 1, 1) := by decide +kernel
theorem dX8_yieldOf_16 : decode cX8_yieldOf 16 = .ok (.iconst 1, 1) := by decide +kernel
theorem dX8_yieldOf_17 : decode cX8_yieldOf 17 = .ok (.invokevirtual 73, 3) := by decide +kernel
theorem dX8_yieldOf_20 : decode cX8_yieldOf 20 = .ok (.aload_n 0, 1) := by decide +kernel
theorem dX8_yieldOf_21 : decode cX8_yieldOf 21 = .ok (.iload_n 1, 1) := by decide +kernel
theorem dX8_yieldOf_22 : decode cX8_yieldOf 22 = .ok (.iconst 2, 1) := by decide +kernel
theorem dX8_yieldOf_23 : decode cX8_yieldOf 23 = .ok (.invokevirtual 73, 3) := by decide +kernel
theorem dX8_yieldOf_26 : decode cX8_yieldOf 26 = .ok (.aload_n 0, 1) := by decide +kernel
theorem dX8_yieldOf_27 : decode cX8_yieldOf 27 = .ok (.iload_n 1, 1) := by decide +kernel
theorem dX8_yieldOf_28 : decode cX8_yieldOf 28 = .ok (.iconst 3, 1) := by decide +kernel
theorem dX8_yieldOf_29 : decode cX8_yieldOf 29 = .ok (.invokevirtual 73, 3) := by decide +kernel
theorem dX8_yieldOf_32 : decode cX8_yieldOf 32 = .ok (.invokestatic 86, 3) := by decide +kernel
theorem dX8_yieldOf_35 : decode cX8_yieldOf 35 = .ok (.ireturn, 1) := by decide +kernel
set_option maxRecDepth 20000 in
theorem ggX8_take_X8_isDrum : GoodIn wsX8_take wsX8_isDrum := goodIn_r _ [7, 8, 9, 10, 6, 11, 34, 35, 36, 37, 38, 39, 40, 41, 42, 43, 44] (by decide +kernel) (by decide +kernel)
set_option maxRecDepth 20000 in
theorem gX8_take_X8_isDrum : GoodIn wsX8_take (wsV RX8 69 RX8 yX8_isDrum wsX8_isDrum) := goodIn_app (goodIn_of _ (by decide +kernel)) ggX8_take_X8_isDrum
set_option maxRecDepth 20000 in
theorem ggX8_take_X8_fail : GoodIn wsX8_take wsX8_fail := goodIn_r _ [15, 1, 34, 35, 36, 37, 38, 39, 40, 41, 42, 43, 44] (by decide +kernel) (by decide +kernel)
set_option maxRecDepth 20000 in
theorem gX8_take_X8_fail : GoodIn wsX8_take (wsV RX8 48 RX8 yX8_fail wsX8_fail) := goodIn_app (goodIn_of _ (by decide +kernel)) ggX8_take_X8_fail
set_option maxRecDepth 20000 in
theorem ggX8_take_X8_dr : GoodIn wsX8_take wsX8_dr := goodIn_r _ [19, 2, 34, 35, 36, 37, 38, 39, 40, 41, 42, 43, 44] (by decide +kernel) (by decide +kernel)
set_option maxRecDepth 20000 in
theorem gX8_take_X8_dr : GoodIn wsX8_take (wsV RX8 73 RX8 yX8_dr wsX8_dr) := goodIn_app (goodIn_of _ (by decide +kernel)) ggX8_take_X8_dr
set_option maxRecDepth 20000 in
theorem ggX8_take_X8_yieldOf : GoodIn wsX8_take wsX8_yieldOf := goodIn_r _ [23, 16, 17, 18, 6, 19, 2, 24, 25, 26, 27, 28, 29, 34, 35, 36, 37, 38, 39, 40, 41, 42, 43, 44] (by decide +kernel) (by decide +kernel)
set_option maxRecDepth 20000 in
theorem gX8_take_X8_yieldOf : GoodIn wsX8_take (wsV RX8 89 RX8 yX8_yieldOf wsX8_yieldOf) := goodIn_app (goodIn_of _ (by decide +kernel)) ggX8_take_X8_yieldOf
set_option maxRecDepth 20000 in
theorem ggX8_take_X8_letDrum : GoodIn wsX8_take wsX8_letDrum := goodIn_r _ [33, 2, 34, 35, 36, 37, 38, 39, 40, 41, 42, 43, 44] (by decide +kernel) (by decide +kernel)
set_option maxRecDepth 20000 in
theorem gX8_take_X8_letDrum : GoodIn wsX8_take (wsV RX8 55 RX8 yX8_letDrum wsX8_letDrum) := goodIn_app (goodIn_of _ (by decide +kernel)) ggX8_take_X8_letDrum
theorem dX8_take_0 : decode cX8_take 0 = .ok (.aload_n 0, 1) := by decide +kernel
theorem dX8_take_1 : decode cX8_take 1 = .ok (.iconst 0, 1) := by decide +kernel
theorem dX8_take_2 : decode cX8_take 2 = .ok (.putfield 28, 3) := by decide +kernel
theorem dX8_take_5 : decode cX8_take 5 = .ok (.aload_n 0, 1) := by decide +kernel
theorem dX8_take_6 : decode cX8_take 6 = .ok (.iload_n 1, 1) := by decide +kernel
theorem dX8_take_7 : decode cX8_take 7 = .ok (.invokevirtual 69, 3) := by decide +kernel
theorem dX8_take_10 : decode cX8_take 10 = .ok (.ifCond .ne 9, 3) := by decide +kernel
theorem dX8_take_13 : decode cX8_take 13 = .ok (.aload_n 0, 1) := by decide +kernel
theorem dX8_take_14 : decode cX8_take 14 = .ok (.iconst 1, 1) := by decide +kernel
theorem dX8_take_15 : decode cX8_take 15 = .ok (.invokevirtual 48, 3) := by decide +kernel
theorem dX8_take_18 : decode cX8_take 18 = .ok (.ireturn, 1) := by decide +kernel
theorem dX8_take_19 : decode cX8_take 19 = .ok (.aload_n 0, 1) := by decide +kernel
theorem dX8_take_20 : decode cX8_take 20 = .ok (.iload_n 1, 1) := by decide +kernel
theorem dX8_take_21 : decode cX8_take 21 = .ok (.iconst 1, 1) := by decide +kernel
theorem dX8_take_22 : decode cX8_take 22 = .ok (.invokevirtual 73, 3) := by decide +kernel
theorem dX8_take_25 : decode cX8_take 25 = .ok (.iconst (-1), 1) := by decide +kernel
theorem dX8_take_26 : decode cX8_take 26 = .ok (.if_icmp .ne 9, 3) := by decide +kernel
theorem dX8_take_29 : decode cX8_take 29 = .ok (.aload_n 0, 1) := by decide +kernel
theorem dX8_take_30 : decode cX8_take 30 = .ok (.iconst 2, 1) := by decide +kernel
theorem dX8_take_31 : decode cX8_take 31 = .ok (.invokevirtual 48, 3) := by decide +kernel
theorem dX8_take_34 : decode cX8_take 34 = .ok (.ireturn, 1) := by decide +kernel
theorem dX8_take_35 : decode cX8_take 35 = .ok (.aload_n 0, 1) := by decide +kernel
theorem dX8_take_36 : decode cX8_take 36 = .ok (.iload_n 1, 1) := by decide +kernel
theorem dX8_take_37 : decode cX8_take 37 = .ok (.invokevirtual 89, 3) := by decide +kernel
theorem dX8_take_40 : decode cX8_take 40 = .ok (.istore_n 2, 1) := by decide +kernel
theorem dX8_take_41 : decode cX8_take 41 = .ok (.aload_n 0, 1) := by decide +kernel
theorem dX8_take_42 : decode cX8_take 42 = .ok (.getfield 22, 3) := by decide +kernel
theorem dX8_take_45 : decode cX8_take 45 = .ok (.iconst 3, 1) := by decide +kernel
theorem dX8_take_46 : decode cX8_take 46 = .ok (.aload_n 0, 1) := by decide +kernel
theorem dX8_take_47 : decode cX8_take 47 = .ok (.iload_n 1, 1) := by decide +kernel
theorem dX8_take_48 : decode cX8_take 48 = .ok (.iconst 1, 1) := by decide +kernel
theorem dX8_take_49 : decode cX8_take 49 = .ok (.invokevirtual 73, 3) := by decide +kernel
theorem dX8_take_52 : decode cX8_take 52 = .ok (.iadd, 1) := by decide +kernel
theorem dX8_take_53 : decode cX8_take 53 = .ok (.dup2, 1) := by decide +kernel
theorem dX8_take_54 : decode cX8_take 54 = .ok (.iaload, 1) := by decide +kernel
theorem dX8_take_55 : decode cX8_take 55 = .ok (.iload_n 2, 1) := by decide +kernel
theorem dX8_take_56 : decode cX8_take 56 = .ok (.iadd, 1) := by decide +kernel
theorem dX8_take_57 : decode cX8_take 57 = .ok (.iastore, 1) := by decide +kernel
theorem dX8_take_58 : decode cX8_take 58 = .ok (.aload_n 0, 1) := by decide +kernel
theorem dX8_take_59 : decode cX8_take 59 = .ok (.iload_n 1, 1) := by decide +kernel
theorem dX8_take_60 : decode cX8_take 60 = .ok (.iconst 1, 1) := by decide +kernel
theorem dX8_take_61 : decode cX8_take 61 = .ok (.iconst (-1), 1) := by decide +kernel
theorem dX8_take_62 : decode cX8_take 62 = .ok (.invokevirtual 55, 3) := by decide +kernel
theorem dX8_take_65 : decode cX8_take 65 = .ok (.aload_n 0, 1) := by decide +kernel
theorem dX8_take_66 : decode cX8_take 66 = .ok (.iload_n 1, 1) := by decide +kernel
theorem dX8_take_67 : decode cX8_take 67 = .ok (.iconst 2, 1) := by decide +kernel
theorem dX8_take_68 : decode cX8_take 68 = .ok (.iconst 0, 1) := by decide +kernel
theorem dX8_take_69 : decode cX8_take 69 = .ok (.invokevirtual 55, 3) := by decide +kernel
theorem dX8_take_72 : decode cX8_take 72 = .ok (.aload_n 0, 1) := by decide +kernel
theorem dX8_take_73 : decode cX8_take 73 = .ok (.iload_n 1, 1) := by decide +kernel
theorem dX8_take_74 : decode cX8_take 74 = .ok (.iconst 3, 1) := by decide +kernel
theorem dX8_take_75 : decode cX8_take 75 = .ok (.iconst 0, 1) := by decide +kernel
theorem dX8_take_76 : decode cX8_take 76 = .ok (.invokevirtual 55, 3) := by decide +kernel
theorem dX8_take_79 : decode cX8_take 79 = .ok (.iload_n 2, 1) := by decide +kernel
theorem dX8_take_80 : decode cX8_take 80 = .ok (.ireturn, 1) := by decide +kernel
set_option maxRecDepth 20000 in
theorem ggX8_send_X8_isSmuggler : GoodIn wsX8_send wsX8_isSmuggler := goodIn_r _ [7, 8, 9, 10, 6, 11, 25, 26, 27, 28, 29, 30, 31, 32, 33, 34, 35] (by decide +kernel) (by decide +kernel)
set_option maxRecDepth 20000 in
theorem gX8_send_X8_isSmuggler : GoodIn wsX8_send (wsV RX8 92 RX8 yX8_isSmuggler wsX8_isSmuggler) := goodIn_app (goodIn_of _ (by decide +kernel)) ggX8_send_X8_isSmuggler
set_option maxRecDepth 20000 in
theorem ggX8_send_X8_fail : GoodIn wsX8_send wsX8_fail := goodIn_r _ [15, 1, 25, 26, 27, 28, 29, 30, 31, 32, 33, 34, 35] (by decide +kernel) (by decide +kernel)
set_option maxRecDepth 20000 in
theorem gX8_send_X8_fail : GoodIn wsX8_send (wsV RX8 48 RX8 yX8_fail wsX8_fail) := goodIn_app (goodIn_of _ (by decide +kernel)) ggX8_send_X8_fail
set_option maxRecDepth 20000 in
theorem ggX8_send_X8_sm : GoodIn wsX8_send wsX8_sm := goodIn_r _ [19, 20, 25, 26, 27, 28, 29, 30, 31, 32, 33, 34, 35] (by decide +kernel) (by decide +kernel)
set_option maxRecDepth 20000 in
theorem gX8_send_X8_sm : GoodIn wsX8_send (wsV RX8 95 RX8 yX8_sm wsX8_sm) := goodIn_app (goodIn_of _ (by decide +kernel)) ggX8_send_X8_sm
set_option maxRecDepth 20000 in
theorem ggX8_send_X8_letSmuggler : GoodIn wsX8_send wsX8_letSmuggler := goodIn_r _ [24, 20, 25, 26, 27, 28, 29, 30, 31, 32, 33, 34, 35] (by decide +kernel) (by decide +kernel)
set_option maxRecDepth 20000 in
theorem gX8_send_X8_letSmuggler : GoodIn wsX8_send (wsV RX8 98 RX8 yX8_letSmuggler wsX8_letSmuggler) := goodIn_app (goodIn_of _ (by decide +kernel)) ggX8_send_X8_letSmuggler
theorem dX8_send_0 : decode cX8_send 0 = .ok (.aload_n 0, 1) := by decide +kernel
theorem dX8_send_1 : decode cX8_send 1 = .ok (.iconst 0, 1) := by decide +kernel
theorem dX8_send_2 : decode cX8_send 2 = .ok (.putfield 28, 3) := by decide +kernel
theorem dX8_send_5 : decode cX8_send 5 = .ok (.aload_n 0, 1) := by decide +kernel
theorem dX8_send_6 : decode cX8_send 6 = .ok (.iload_n 1, 1) := by decide +kernel
theorem dX8_send_7 : decode cX8_send 7 = .ok (.invokevirtual 92, 3) := by decide +kernel
theorem dX8_send_10 : decode cX8_send 10 = .ok (.ifCond .ne 9, 3) := by decide +kernel
theorem dX8_send_13 : decode cX8_send 13 = .ok (.aload_n 0, 1) := by decide +kernel
theorem dX8_send_14 : decode cX8_send 14 = .ok (.iconst 1, 1) := by decide +kernel
theorem dX8_send_15 : decode cX8_send 15 = .ok (.invokevirtual 48, 3) := by decide +kernel
theorem dX8_send_18 : decode cX8_send 18 = .ok (.ireturn, 1) := by decide +kernel
theorem dX8_send_19 : decode cX8_send 19 = .ok (.aload_n 0, 1) := by decide +kernel
theorem dX8_send_20 : decode cX8_send 20 = .ok (.iload_n 1, 1) := by decide +kernel
theorem dX8_send_21 : decode cX8_send 21 = .ok (.iconst 0, 1) := by decide +kernel
theorem dX8_send_22 : decode cX8_send 22 = .ok (.invokevirtual 95, 3) := by decide +kernel
theorem dX8_send_25 : decode cX8_send 25 = .ok (.ifCond .eq 9, 3) := by decide +kernel
theorem dX8_send_28 : decode cX8_send 28 = .ok (.aload_n 0, 1) := by decide +kernel
theorem dX8_send_29 : decode cX8_send 29 = .ok (.iconst 2, 1) := by decide +kernel
theorem dX8_send_30 : decode cX8_send 30 = .ok (.invokevirtual 48, 3) := by decide +kernel
theorem dX8_send_33 : decode cX8_send 33 = .ok (.ireturn, 1) := by decide +kernel
theorem dX8_send_34 : decode cX8_send 34 = .ok (.aload_n 0, 1) := by decide +kernel
theorem dX8_send_35 : decode cX8_send 35 = .ok (.iload_n 1, 1) := by decide +kernel
theorem dX8_send_36 : decode cX8_send 36 = .ok (.iconst 1, 1) := by decide +kernel
theorem dX8_send_37 : decode cX8_send 37 = .ok (.aload_n 0, 1) := by decide +kernel
theorem dX8_send_38 : decode cX8_send 38 = .ok (.getfield 16, 3) := by decide +kernel
theorem dX8_send_41 : decode cX8_send 41 = .ok (.iconst 2, 1) := by decide +kernel
theorem dX8_send_42 : decode cX8_send 42 = .ok (.iload_n 1, 1) := by decide +kernel
theorem dX8_send_43 : decode cX8_send 43 = .ok (.imul, 1) := by decide +kernel
theorem dX8_send_44 : decode cX8_send 44 = .ok (.iaload, 1) := by decide +kernel
theorem dX8_send_45 : decode cX8_send 45 = .ok (.invokevirtual 98, 3) := by decide +kernel
theorem dX8_send_48 : decode cX8_send 48 = .ok (.aload_n 0, 1) := by decide +kernel
theorem dX8_send_49 : decode cX8_send 49 = .ok (.iload_n 1, 1) := by decide +kernel
theorem dX8_send_50 : decode cX8_send 50 = .ok (.iconst 1, 1) := by decide +kernel
theorem dX8_send_51 : decode cX8_send 51 = .ok (.invokevirtual 95, 3) := by decide +kernel
theorem dX8_send_54 : decode cX8_send 54 = .ok (.ireturn, 1) := by decide +kernel
theorem dX8_bedIs_0 : decode cX8_bedIs 0 = .ok (.iload_n 2, 1) := by decide +kernel
theorem dX8_bedIs_1 : decode cX8_bedIs 1 = .ok (.iconst 2, 1) := by decide +kernel
theorem dX8_bedIs_2 : decode cX8_bedIs 2 = .ok (.if_icmp .ge 16, 3) := by decide +kernel
theorem dX8_bedIs_5 : decode cX8_bedIs 5 = .ok (.aload_n 0, 1) := by decide +kernel
theorem dX8_bedIs_6 : decode cX8_bedIs 6 = .ok (.getfield 9, 3) := by decide +kernel
theorem dX8_bedIs_9 : decode cX8_bedIs 9 = .ok (.iconst 2, 1) := by decide +kernel
theorem dX8_bedIs_10 : decode cX8_bedIs 10 = .ok (.iload_n 1, 1) := by decide +kernel
theorem dX8_bedIs_11 : decode cX8_bedIs 11 = .ok (.imul, 1) := by decide +kernel
theorem dX8_bedIs_12 : decode cX8_bedIs 12 = .ok (.iload_n 2, 1) := by decide +kernel
theorem dX8_bedIs_13 : decode cX8_bedIs 13 = .ok (.iadd, 1) := by decide +kernel
theorem dX8_bedIs_14 : decode cX8_bedIs 14 = .ok (.iaload, 1) := by decide +kernel
theorem dX8_bedIs_15 : decode cX8_bedIs 15 = .ok (.goto 12, 3) := by decide +kernel
theorem dX8_bedIs_18 : decode cX8_bedIs 18 = .ok (.aload_n 0, 1) := by decide +kernel
theorem dX8_bedIs_19 : decode cX8_bedIs 19 = .ok (.getfield 22, 3) := by decide +kernel
theorem dX8_bedIs_22 : decode cX8_bedIs 22 = .ok (.bipush 10, 2) := by decide +kernel
theorem dX8_bedIs_24 : decode cX8_bedIs 24 = .ok (.iload_n 1, 1) := by decide +kernel
theorem dX8_bedIs_25 : decode cX8_bedIs 25 = .ok (.iadd, 1) := by decide +kernel
theorem dX8_bedIs_26 : decode cX8_bedIs 26 = .ok (.iaload, 1) := by decide +kernel
theorem dX8_bedIs_27 : decode cX8_bedIs 27 = .ok (.ireturn, 1) := by decide +kernel
set_option maxRecDepth 20000 in
theorem ggX8_about_X8_isIn : GoodIn wsX8_about wsX8_isIn := goodIn_r _ [6] (by decide +kernel) (by decide +kernel)
set_option maxRecDepth 20000 in
theorem gX8_about_X8_isIn : GoodIn wsX8_about (va_wsS RX8 35 yX8_isIn wsX8_isIn) := goodIn_app (goodIn_of _ (by decide +kernel)) ggX8_about_X8_isIn
set_option maxRecDepth 20000 in
theorem ggX8_about_X8_bedIs : GoodIn wsX8_about wsX8_bedIs := goodIn_r _ [10, 11, 12, 17, 18, 19, 20, 21, 22, 23, 24, 25, 26, 27] (by decide +kernel) (by decide +kernel)
set_option maxRecDepth 20000 in
theorem gX8_about_X8_bedIs : GoodIn wsX8_about (wsV RX8 101 RX8 yX8_bedIs wsX8_bedIs) := goodIn_app (goodIn_of _ (by decide +kernel)) ggX8_about_X8_bedIs
set_option maxRecDepth 20000 in
theorem ggX8_about_X8_fail : GoodIn wsX8_about wsX8_fail := goodIn_r _ [16, 1, 17, 18, 19, 20, 21, 22, 23, 24, 25, 26, 27] (by decide +kernel) (by decide +kernel)
set_option maxRecDepth 20000 in
theorem gX8_about_X8_fail : GoodIn wsX8_about (wsV RX8 48 RX8 yX8_fail wsX8_fail) := goodIn_app (goodIn_of _ (by decide +kernel)) ggX8_about_X8_fail
theorem dX8_about_0 : decode cX8_about 0 = .ok (.aload_n 0, 1) := by decide +kernel
theorem dX8_about_1 : decode cX8_about 1 = .ok (.iconst 0, 1) := by decide +kernel
theorem dX8_about_2 : decode cX8_about 2 = .ok (.putfield 28, 3) := by decide +kernel
theorem dX8_about_5 : decode cX8_about 5 = .ok (.iload_n 1, 1) := by decide +kernel
theorem dX8_about_6 : decode cX8_about 6 = .ok (.iconst 0, 1) := by decide +kernel
theorem dX8_about_7 : decode cX8_about 7 = .ok (.aload_n 0, 1) := by decide +kernel
theorem dX8_about_8 : decode cX8_about 8 = .ok (.getfield 52, 3) := by decide +kernel
theorem dX8_about_11 : decode cX8_about 11 = .ok (.iconst 1, 1) := by decide +kernel
theorem dX8_about_12 : decode cX8_about 12 = .ok (.isub, 1) := by decide +kernel
theorem dX8_about_13 : decode cX8_about 13 = .ok (.invokestatic 35, 3) := by decide +kernel
theorem dX8_about_16 : decode cX8_about 16 = .ok (.ifCond .eq 21, 3) := by decide +kernel
theorem dX8_about_19 : decode cX8_about 19 = .ok (.iload_n 2, 1) := by decide +kernel
theorem dX8_about_20 : decode cX8_about 20 = .ok (.iconst 0, 1) := by decide +kernel
theorem dX8_about_21 : decode cX8_about 21 = .ok (.iconst 2, 1) := by decide +kernel
theorem dX8_about_22 : decode cX8_about 22 = .ok (.invokestatic 35, 3) := by decide +kernel
theorem dX8_about_25 : decode cX8_about 25 = .ok (.ifCond .eq 12, 3) := by decide +kernel
theorem dX8_about_28 : decode cX8_about 28 = .ok (.aload_n 0, 1) := by decide +kernel
theorem dX8_about_29 : decode cX8_about 29 = .ok (.iload_n 1, 1) := by decide +kernel
theorem dX8_about_30 : decode cX8_about 30 = .ok (.iload_n 2, 1) := by decide +kernel
theorem dX8_about_31 : decode cX8_about 31 = .ok (.invokevirtual 101, 3) := by decide +kernel
theorem dX8_about_34 : decode cX8_about 34 = .ok (.goto 8, 3) := by decide +kernel
theorem dX8_about_37 : decode cX8_about 37 = .ok (.aload_n 0, 1) := by decide +kernel
theorem dX8_about_38 : decode cX8_about 38 = .ok (.iconst 1, 1) := by decide +kernel
theorem dX8_about_39 : decode cX8_about 39 = .ok (.invokevirtual 48, 3) := by decide +kernel
theorem dX8_about_42 : decode cX8_about 42 = .ok (.ireturn, 1) := by decide +kernel
set_option maxRecDepth 20000 in
theorem ggX8_drumIs_X8_yieldOf : GoodIn wsX8_drumIs wsX8_yieldOf := goodIn_r _ [6, 7, 8, 9, 5, 10, 11, 12, 13, 14, 15, 16, 17, 18, 19, 20, 21, 22, 23, 24, 25, 26, 27, 28] (by decide +kernel) (by decide +kernel)
set_option maxRecDepth 20000 in
theorem gX8_drumIs_X8_yieldOf : GoodIn wsX8_drumIs (wsV RX8 89 RX8 yX8_yieldOf wsX8_yieldOf) := goodIn_app (goodIn_of _ (by decide +kernel)) ggX8_drumIs_X8_yieldOf
set_option maxRecDepth 20000 in
theorem ggX8_drumIs_X8_dr : GoodIn wsX8_drumIs wsX8_dr := goodIn_r _ [10, 11, 18, 19, 20, 21, 22, 23, 24, 25, 26, 27, 28] (by decide +kernel) (by decide +kernel)
set_option maxRecDepth 20000 in
theorem gX8_drumIs_X8_dr : GoodIn wsX8_drumIs (wsV RX8 73 RX8 yX8_dr wsX8_dr) := goodIn_app (goodIn_of _ (by decide +kernel)) ggX8_drumIs_X8_dr
theorem dX8_drumIs_0 : decode cX8_drumIs 0 = .ok (.iload_n 2, 1) := by decide +kernel
theorem dX8_drumIs_1 : decode cX8_drumIs 1 = .ok (.ifCond .ne 12, 3) := by decide +kernel
theorem dX8_drumIs_4 : decode cX8_drumIs 4 = .ok (.aload_n 0, 1) := by decide +kernel
theorem dX8_drumIs_5 : decode cX8_drumIs 5 = .ok (.getfield 13, 3) := by decide +kernel
theorem dX8_drumIs_8 : decode cX8_drumIs 8 = .ok (.iload_n 1, 1) := by decide +kernel
theorem dX8_drumIs_9 : decode cX8_drumIs 9 = .ok (.iaload, 1) := by decide +kernel
theorem dX8_drumIs_10 : decode cX8_drumIs 10 = .ok (.goto 24, 3) := by decide +kernel
theorem dX8_drumIs_13 : decode cX8_drumIs 13 = .ok (.iload_n 2, 1) := by decide +kernel
theorem dX8_drumIs_14 : decode cX8_drumIs 14 = .ok (.iconst 5, 1) := by decide +kernel
theorem dX8_drumIs_15 : decode cX8_drumIs 15 = .ok (.if_icmp .ne 11, 3) := by decide +kernel
theorem dX8_drumIs_18 : decode cX8_drumIs 18 = .ok (.aload_n 0, 1) := by decide +kernel
theorem dX8_drumIs_19 : decode cX8_drumIs 19 = .ok (.iload_n 1, 1) := by decide +kernel
theorem dX8_drumIs_20 : decode cX8_drumIs 20 = .ok (.invokevirtual 89, 3) := by decide +kernel
theorem dX8_drumIs_23 : decode cX8_drumIs 23 = .ok (.goto 11, 3) := by decide +kernel
theorem dX8_drumIs_26 : decode cX8_drumIs 26 = .ok (.aload_n 0, 1) := by decide +kernel
theorem dX8_drumIs_27 : decode cX8_drumIs 27 = .ok (.iload_n 1, 1) := by decide +kernel
theorem dX8_drumIs_28 : decode cX8_drumIs 28 = .ok (.iload_n 2, 1) := by decide +kernel
theorem dX8_drumIs_29 : decode cX8_drumIs 29 = .ok (.iconst 1, 1) := by decide +kernel
theorem dX8_drumIs_30 : decode cX8_drumIs 30 = .ok (.isub, 1) := by decide +kernel
theorem dX8_drumIs_31 : decode cX8_drumIs 31 = .ok (.invokevirtual 73, 3) := by decide +kernel
theorem dX8_drumIs_34 : decode cX8_drumIs 34 = .ok (.ireturn, 1) := by decide +kernel
set_option maxRecDepth 20000 in
theorem ggX8_roast_X8_isDrum : GoodIn wsX8_roast wsX8_isDrum := goodIn_r _ [6, 7, 8, 9, 5, 10, 35, 36, 37, 38, 39, 40, 41, 42, 43, 44, 45] (by decide +kernel) (by decide +kernel)
set_option maxRecDepth 20000 in
theorem gX8_roast_X8_isDrum : GoodIn wsX8_roast (wsV RX8 69 RX8 yX8_isDrum wsX8_isDrum) := goodIn_app (goodIn_of _ (by decide +kernel)) ggX8_roast_X8_isDrum
set_option maxRecDepth 20000 in
theorem ggX8_roast_X8_isIn : GoodIn wsX8_roast wsX8_isIn := goodIn_r _ [10] (by decide +kernel) (by decide +kernel)
set_option maxRecDepth 20000 in
theorem gX8_roast_X8_isIn : GoodIn wsX8_roast (va_wsS RX8 35 yX8_isIn wsX8_isIn) := goodIn_app (goodIn_of _ (by decide +kernel)) ggX8_roast_X8_isIn
set_option maxRecDepth 20000 in
theorem ggX8_roast_X8_drumIs : GoodIn wsX8_roast wsX8_drumIs := goodIn_r _ [14, 15, 16, 17, 18, 5, 19, 20, 21, 22, 23, 24, 25, 26, 27, 28, 29, 30, 35, 36, 37, 38, 39, 40, 41, 42, 43, 44, 45] (by decide +kernel) (by decide +kernel)
set_option maxRecDepth 20000 in
theorem gX8_roast_X8_drumIs : GoodIn wsX8_roast (wsV RX8 104 RX8 yX8_drumIs wsX8_drumIs) := goodIn_app (goodIn_of _ (by decide +kernel)) ggX8_roast_X8_drumIs
set_option maxRecDepth 20000 in
theorem ggX8_roast_X8_fail : GoodIn wsX8_roast wsX8_fail := goodIn_r _ [34, 1, 35, 36, 37, 38, 39, 40, 41, 42, 43, 44, 45] (by decide +kernel) (by decide +kernel)
set_option maxRecDepth 20000 in
theorem gX8_roast_X8_fail : GoodIn wsX8_roast (wsV RX8 48 RX8 yX8_fail wsX8_fail) := goodIn_app (goodIn_of _ (by decide +kernel)) ggX8_roast_X8_fail
