theorem dX8_init_0 : decode cX8_init 0 = .ok (.aload_n 0, 1) := by decide +kernel
theorem dX8_init_1 : decode cX8_init 1 = .ok (.invokespecial 3, 3) := by decide +kernel
theorem dX8_init_4 : decode cX8_init 4 = .ok (.aload_n 0, 1) := by decide +kernel
theorem dX8_init_5 : decode cX8_init 5 = .ok (.bipush 20, 2) := by decide +kernel
theorem dX8_init_7 : decode cX8_init 7 = .ok (.newarray .int, 2) := by decide +kernel
theorem dX8_init_9 : decode cX8_init 9 = .ok (.putfield 11, 3) := by decide +kernel
theorem dX8_init_12 : decode cX8_init 12 = .ok (.aload_n 0, 1) := by decide +kernel
theorem dX8_init_13 : decode cX8_init 13 = .ok (.bipush 20, 2) := by decide +kernel
theorem dX8_init_15 : decode cX8_init 15 = .ok (.newarray .boolean, 2) := by decide +kernel
theorem dX8_init_17 : decode cX8_init 17 = .ok (.putfield 15, 3) := by decide +kernel
theorem dX8_init_20 : decode cX8_init 20 = .ok (.aload_n 0, 1) := by decide +kernel
theorem dX8_init_21 : decode cX8_init 21 = .ok (.bipush 13, 2) := by decide +kernel
theorem dX8_init_23 : decode cX8_init 23 = .ok (.newarray .long, 2) := by decide +kernel
theorem dX8_init_25 : decode cX8_init 25 = .ok (.putfield 19, 3) := by decide +kernel
theorem dX8_init_28 : decode cX8_init 28 = .ok (.return_, 1) := by decide +kernel
theorem dX8_append_0 : decode cX8_append 0 = .ok (.aload_n 0, 1) := by decide +kernel
theorem dX8_append_1 : decode cX8_append 1 = .ok (.getfield 23, 3) := by decide +kernel
theorem dX8_append_4 : decode cX8_append 4 = .ok (.bipush 20, 2) := by decide +kernel
theorem dX8_append_6 : decode cX8_append 6 = .ok (.if_icmp .lt 6, 3) := by decide +kernel
theorem dX8_append_9 : decode cX8_append 9 = .ok (.bipush (-4), 2) := by decide +kernel
theorem dX8_append_11 : decode cX8_append 11 = .ok (.ireturn, 1) := by decide +kernel
theorem dX8_append_12 : decode cX8_append 12 = .ok (.aload_n 0, 1) := by decide +kernel
theorem dX8_append_13 : decode cX8_append 13 = .ok (.getfield 11, 3) := by decide +kernel
theorem dX8_append_16 : decode cX8_append 16 = .ok (.aload_n 0, 1) := by decide +kernel
theorem dX8_append_17 : decode cX8_append 17 = .ok (.getfield 23, 3) := by decide +kernel
theorem dX8_append_20 : decode cX8_append 20 = .ok (.iload_n 1, 1) := by decide +kernel
theorem dX8_append_21 : decode cX8_append 21 = .ok (.iastore, 1) := by decide +kernel
theorem dX8_append_22 : decode cX8_append 22 = .ok (.aload_n 0, 1) := by decide +kernel
theorem dX8_append_23 : decode cX8_append 23 = .ok (.dup, 1) := by decide +kernel
theorem dX8_append_24 : decode cX8_append 24 = .ok (.getfield 23, 3) := by decide +kernel
theorem dX8_append_27 : decode cX8_append 27 = .ok (.iconst 1, 1) := by decide +kernel
theorem dX8_append_28 : decode cX8_append 28 = .ok (.iadd, 1) := by decide +kernel
theorem dX8_append_29 : decode cX8_append 29 = .ok (.putfield 23, 3) := by decide +kernel
theorem dX8_append_32 : decode cX8_append 32 = .ok (.aload_n 0, 1) := by decide +kernel
theorem dX8_append_33 : decode cX8_append 33 = .ok (.getfield 23, 3) := by decide +kernel
theorem dX8_append_36 : decode cX8_append 36 = .ok (.iconst 1, 1) := by decide +kernel
theorem dX8_append_37 : decode cX8_append 37 = .ok (.isub, 1) := by decide +kernel
theorem dX8_append_38 : decode cX8_append 38 = .ok (.ireturn, 1) := by decide +kernel
theorem dX8_count_0 : decode cX8_count 0 = .ok (.aload_n 0, 1) := by decide +kernel
theorem dX8_count_1 : decode cX8_count 1 = .ok (.getfield 23, 3) := by decide +kernel
theorem dX8_count_4 : decode cX8_count 4 = .ok (.ireturn, 1) := by decide +kernel
set_option maxRecDepth 20000 in
theorem ggX8_changeBarred_X9_within : GoodIn wsX8_changeBarred wsX9_within := goodIn_r _ [5] (by decide +kernel) (by decide +kernel)
set_option maxRecDepth 20000 in
theorem gX8_changeBarred_X9_within_n27 : GoodIn wsX8_changeBarred (wsX9_within) := ggX8_changeBarred_X9_within
theorem dX8_changeBarred_0 : decode cX8_changeBarred 0 = .ok (.iload_n 1, 1) := by decide +kernel
theorem dX8_changeBarred_1 : decode cX8_changeBarred 1 = .ok (.iconst 0, 1) := by decide +kernel
theorem dX8_changeBarred_2 : decode cX8_changeBarred 2 = .ok (.aload_n 0, 1) := by decide +kernel
theorem dX8_changeBarred_3 : decode cX8_changeBarred 3 = .ok (.getfield 23, 3) := by decide +kernel
theorem dX8_changeBarred_6 : decode cX8_changeBarred 6 = .ok (.iconst 1, 1) := by decide +kernel
theorem dX8_changeBarred_7 : decode cX8_changeBarred 7 = .ok (.isub, 1) := by decide +kernel
theorem dX8_changeBarred_8 : decode cX8_changeBarred 8 = .ok (.invokestatic 27, 3) := by decide +kernel
theorem dX8_changeBarred_11 : decode cX8_changeBarred 11 = .ok (.ifCond .eq 9, 3) := by decide +kernel
theorem dX8_changeBarred_14 : decode cX8_changeBarred 14 = .ok (.iload_n 1, 1) := by decide +kernel
theorem dX8_changeBarred_15 : decode cX8_changeBarred 15 = .ok (.bipush 20, 2) := by decide +kernel
theorem dX8_changeBarred_17 : decode cX8_changeBarred 17 = .ok (.if_icmp .lt 5, 3) := by decide +kernel
theorem dX8_changeBarred_20 : decode cX8_changeBarred 20 = .ok (.iconst (-1), 1) := by decide +kernel
theorem dX8_changeBarred_21 : decode cX8_changeBarred 21 = .ok (.ireturn, 1) := by decide +kernel
theorem dX8_changeBarred_22 : decode cX8_changeBarred 22 = .ok (.aload_n 0, 1) := by decide +kernel
theorem dX8_changeBarred_23 : decode cX8_changeBarred 23 = .ok (.getfield 15, 3) := by decide +kernel
theorem dX8_changeBarred_26 : decode cX8_changeBarred 26 = .ok (.iload_n 1, 1) := by decide +kernel
theorem dX8_changeBarred_27 : decode cX8_changeBarred 27 = .ok (.baload, 1) := by decide +kernel
theorem dX8_changeBarred_28 : decode cX8_changeBarred 28 = .ok (.ifCond .eq 7, 3) := by decide +kernel
theorem dX8_changeBarred_31 : decode cX8_changeBarred 31 = .ok (.iconst 1, 1) := by decide +kernel
theorem dX8_changeBarred_32 : decode cX8_changeBarred 32 = .ok (.goto 4, 3) := by decide +kernel
theorem dX8_changeBarred_35 : decode cX8_changeBarred 35 = .ok (.iconst 0, 1) := by decide +kernel
theorem dX8_changeBarred_36 : decode cX8_changeBarred 36 = .ok (.istore_n 3, 1) := by decide +kernel
theorem dX8_changeBarred_37 : decode cX8_changeBarred 37 = .ok (.aload_n 0, 1) := by decide +kernel
theorem dX8_changeBarred_38 : decode cX8_changeBarred 38 = .ok (.getfield 15, 3) := by decide +kernel
theorem dX8_changeBarred_41 : decode cX8_changeBarred 41 = .ok (.iload_n 1, 1) := by decide +kernel
theorem dX8_changeBarred_42 : decode cX8_changeBarred 42 = .ok (.iload_n 2, 1) := by decide +kernel
theorem dX8_changeBarred_43 : decode cX8_changeBarred 43 = .ok (.bastore, 1) := by decide +kernel
theorem dX8_changeBarred_44 : decode cX8_changeBarred 44 = .ok (.iload_n 3, 1) := by decide +kernel
theorem dX8_changeBarred_45 : decode cX8_changeBarred 45 = .ok (.ireturn, 1) := by decide +kernel
theorem dX8_kept_0 : decode cX8_kept 0 = .ok (.iconst 0, 1) := by decide +kernel
theorem dX8_kept_1 : decode cX8_kept 1 = .ok (.istore_n 1, 1) := by decide +kernel
theorem dX8_kept_2 : decode cX8_kept 2 = .ok (.iconst 0, 1) := by decide +kernel
theorem dX8_kept_3 : decode cX8_kept 3 = .ok (.istore_n 2, 1) := by decide +kernel
theorem dX8_kept_4 : decode cX8_kept 4 = .ok (.iload_n 2, 1) := by decide +kernel
theorem dX8_kept_5 : decode cX8_kept 5 = .ok (.aload_n 0, 1) := by decide +kernel
theorem dX8_kept_6 : decode cX8_kept 6 = .ok (.getfield 23, 3) := by decide +kernel
theorem dX8_kept_9 : decode cX8_kept 9 = .ok (.if_icmp .ge 21, 3) := by decide +kernel
theorem dX8_kept_12 : decode cX8_kept 12 = .ok (.aload_n 0, 1) := by decide +kernel
theorem dX8_kept_13 : decode cX8_kept 13 = .ok (.getfield 15, 3) := by decide +kernel
theorem dX8_kept_16 : decode cX8_kept 16 = .ok (.iload_n 2, 1) := by decide +kernel
theorem dX8_kept_17 : decode cX8_kept 17 = .ok (.baload, 1) := by decide +kernel
theorem dX8_kept_18 : decode cX8_kept 18 = .ok (.ifCond .ne 6, 3) := by decide +kernel
theorem dX8_kept_21 : decode cX8_kept 21 = .ok (.iinc 1 1, 3) := by decide +kernel
theorem dX8_kept_24 : decode cX8_kept 24 = .ok (.iinc 2 1, 3) := by decide +kernel
theorem dX8_kept_27 : decode cX8_kept 27 = .ok (.goto (-23), 3) := by decide +kernel
theorem dX8_kept_30 : decode cX8_kept 30 = .ok (.iload_n 1, 1) := by decide +kernel
theorem dX8_kept_31 : decode cX8_kept 31 = .ok (.ireturn, 1) := by decide +kernel
set_option maxRecDepth 20000 in
theorem ggX8_tellMean_X8_sum : GoodIn wsX8_tellMean wsX8_sum := goodIn_r _ [5, 6, 7, 8, 27, 28, 29, 30] (by decide +kernel) (by decide +kernel)
set_option maxRecDepth 20000 in
theorem gX8_tellMean_X8_sum : GoodIn wsX8_tellMean (wsV RX8 31 RX8 yX8_sum wsX8_sum) := goodIn_app (goodIn_of _ (by decide +kernel)) ggX8_tellMean_X8_sum
set_option maxRecDepth 20000 in
theorem ggX8_tellMean_X8_kept : GoodIn wsX8_tellMean wsX8_kept := goodIn_r _ [12, 6, 7, 27, 28, 29, 30] (by decide +kernel) (by decide +kernel)
set_option maxRecDepth 20000 in
theorem gX8_tellMean_X8_kept : GoodIn wsX8_tellMean (wsV RX8 35 RX8 yX8_kept wsX8_kept) := goodIn_app (goodIn_of _ (by decide +kernel)) ggX8_tellMean_X8_kept
set_option maxRecDepth 20000 in
theorem ggX8_tellMean_X2_reduce : GoodIn wsX8_tellMean wsX2_reduce := goodIn_r _ [17, 18, 19, 20, 21, 22, 23, 24, 25, 16, 26, 31, 32] (by decide +kernel) (by decide +kernel)
set_option maxRecDepth 20000 in
theorem gX8_tellMean_X2_reduce : GoodIn wsX8_tellMean (wsV RX8 39 RX2 yX2_reduce wsX2_reduce) := goodIn_app (goodIn_of _ (by decide +kernel)) ggX8_tellMean_X2_reduce
theorem dX8_tellMean_0 : decode cX8_tellMean 0 = .ok (.aload_n 1, 1) := by decide +kernel
theorem dX8_tellMean_1 : decode cX8_tellMean 1 = .ok (.aload_n 0, 1) := by decide +kernel
theorem dX8_tellMean_2 : decode cX8_tellMean 2 = .ok (.invokevirtual 31, 3) := by decide +kernel
theorem dX8_tellMean_5 : decode cX8_tellMean 5 = .ok (.aload_n 0, 1) := by decide +kernel
theorem dX8_tellMean_6 : decode cX8_tellMean 6 = .ok (.invokevirtual 35, 3) := by decide +kernel
theorem dX8_tellMean_9 : decode cX8_tellMean 9 = .ok (.i2l, 1) := by decide +kernel
theorem dX8_tellMean_10 : decode cX8_tellMean 10 = .ok (.invokevirtual 39, 3) := by decide +kernel
theorem dX8_tellMean_13 : decode cX8_tellMean 13 = .ok (.return_, 1) := by decide +kernel
set_option maxRecDepth 20000 in
theorem ggX8_tellSpread_X8_kept : GoodIn wsX8_tellSpread wsX8_kept := goodIn_r _ [5, 6, 7, 31, 32, 33, 34] (by decide +kernel) (by decide +kernel)
set_option maxRecDepth 20000 in
theorem gX8_tellSpread_X8_kept : GoodIn wsX8_tellSpread (wsV RX8 35 RX8 yX8_kept wsX8_kept) := goodIn_app (goodIn_of _ (by decide +kernel)) ggX8_tellSpread_X8_kept
set_option maxRecDepth 20000 in
theorem ggX8_tellSpread_X8_sum : GoodIn wsX8_tellSpread wsX8_sum := goodIn_r _ [11, 6, 7, 12, 31, 32, 33, 34] (by decide +kernel) (by decide +kernel)
set_option maxRecDepth 20000 in
theorem gX8_tellSpread_X8_sum : GoodIn wsX8_tellSpread (wsV RX8 31 RX8 yX8_sum wsX8_sum) := goodIn_app (goodIn_of _ (by decide +kernel)) ggX8_tellSpread_X8_sum
set_option maxRecDepth 20000 in
theorem ggX8_tellSpread_X8_sumOfSquares : GoodIn wsX8_tellSpread wsX8_sumOfSquares := goodIn_r _ [16, 6, 7, 12, 31, 32, 33, 34] (by decide +kernel) (by decide +kernel)
set_option maxRecDepth 20000 in
theorem gX8_tellSpread_X8_sumOfSquares : GoodIn wsX8_tellSpread (wsV RX8 45 RX8 yX8_sumOfSquares wsX8_sumOfSquares) := goodIn_app (goodIn_of _ (by decide +kernel)) ggX8_tellSpread_X8_sumOfSquares
set_option maxRecDepth 20000 in
theorem ggX8_tellSpread_X2_reduce : GoodIn wsX8_tellSpread wsX2_reduce := goodIn_r _ [21, 22, 23, 24, 25, 26, 27, 28, 29, 20, 30, 35, 36] (by decide +kernel) (by decide +kernel)
set_option maxRecDepth 20000 in
theorem gX8_tellSpread_X2_reduce : GoodIn wsX8_tellSpread (wsV RX8 39 RX2 yX2_reduce wsX2_reduce) := goodIn_app (goodIn_of _ (by decide +kernel)) ggX8_tellSpread_X2_reduce
theorem dX8_tellSpread_0 : decode cX8_tellSpread 0 = .ok (.aload_n 0, 1) := by decide +kernel
theorem dX8_tellSpread_1 : decode cX8_tellSpread 1 = .ok (.invokevirtual 35, 3) := by decide +kernel
theorem dX8_tellSpread_4 : decode cX8_tellSpread 4 = .ok (.i2l, 1) := by decide +kernel
theorem dX8_tellSpread_5 : decode cX8_tellSpread 5 = .ok (.lstore_n 2, 1) := by decide +kernel
theorem dX8_tellSpread_6 : decode cX8_tellSpread 6 = .ok (.aload_n 0, 1) := by decide +kernel
theorem dX8_tellSpread_7 : decode cX8_tellSpread 7 = .ok (.invokevirtual 31, 3) := by decide +kernel
theorem dX8_tellSpread_10 : decode cX8_tellSpread 10 = .ok (.lstore 4, 2) := by decide +kernel
theorem dX8_tellSpread_12 : decode cX8_tellSpread 12 = .ok (.aload_n 1, 1) := by decide +kernel
theorem dX8_tellSpread_13 : decode cX8_tellSpread 13 = .ok (.lload_n 2, 1) := by decide +kernel
theorem dX8_tellSpread_14 : decode cX8_tellSpread 14 = .ok (.aload_n 0, 1) := by decide +kernel
theorem dX8_tellSpread_15 : decode cX8_tellSpread 15 = .ok (.invokevirtual 45, 3) := by decide +kernel
theorem dX8_tellSpread_18 : decode cX8_tellSpread 18 = .ok (.lmul, 1) := by decide +kernel
theorem dX8_tellSpread_19 : decode cX8_tellSpread 19 = .ok (.lload 4, 2) := by decide +kernel
theorem dX8_tellSpread_21 : decode cX8_tellSpread 21 = .ok (.lload 4, 2) := by decide +kernel
theorem dX8_tellSpread_23 : decode cX8_tellSpread 23 = .ok (.lmul, 1) := by decide +kernel
theorem dX8_tellSpread_24 : decode cX8_tellSpread 24 = .ok (.lsub, 1) := by decide +kernel
theorem dX8_tellSpread_25 : decode cX8_tellSpread 25 = .ok (.lload_n 2, 1) := by decide +kernel
theorem dX8_tellSpread_26 : decode cX8_tellSpread 26 = .ok (.lload_n 2, 1) := by decide +kernel
theorem dX8_tellSpread_27 : decode cX8_tellSpread 27 = .ok (.lmul, 1) := by decide +kernel
theorem dX8_tellSpread_28 : decode cX8_tellSpread 28 = .ok (.invokevirtual 39, 3) := by decide +kernel
theorem dX8_tellSpread_31 : decode cX8_tellSpread 31 = .ok (.return_, 1) := by decide +kernel
set_option maxRecDepth 20000 in
theorem ggX8_countWeak_X8_weakAmongFirst : GoodIn wsX8_countWeak wsX8_weakAmongFirst := goodIn_r _ [5, 6, 7, 8, 9, 10, 11, 12] (by decide +kernel) (by decide +kernel)
set_option maxRecDepth 20000 in
theorem gX8_countWeak_X8_weakAmongFirst : GoodIn wsX8_countWeak (wsV RX8 48 RX8 yX8_weakAmongFirst wsX8_weakAmongFirst) := goodIn_app (goodIn_of _ (by decide +kernel)) ggX8_countWeak_X8_weakAmongFirst
theorem dX8_countWeak_0 : decode cX8_countWeak 0 = .ok (.aload_n 0, 1) := by decide +kernel
theorem dX8_countWeak_1 : decode cX8_countWeak 1 = .ok (.bipush 20, 2) := by decide +kernel
theorem dX8_countWeak_3 : decode cX8_countWeak 3 = .ok (.iload_n 1, 1) := by decide +kernel
theorem dX8_countWeak_4 : decode cX8_countWeak 4 = .ok (.invokevirtual 48, 3) := by decide +kernel
theorem dX8_countWeak_7 : decode cX8_countWeak 7 = .ok (.ireturn, 1) := by decide +kernel
set_option maxRecDepth 20000 in
theorem ggX8_tellOdds_X8_kept : GoodIn wsX8_tellOdds wsX8_kept := goodIn_r _ [10, 11, 12, 39, 40, 41, 42] (by decide +kernel) (by decide +kernel)
set_option maxRecDepth 20000 in
theorem gX8_tellOdds_X8_kept : GoodIn wsX8_tellOdds (wsV RX8 35 RX8 yX8_kept wsX8_kept) := goodIn_app (goodIn_of _ (by decide +kernel)) ggX8_tellOdds_X8_kept
set_option maxRecDepth 20000 in
theorem ggX8_tellOdds_X8_weigh : GoodIn wsX8_tellOdds wsX8_weigh := goodIn_r _ [16, 5, 1, 2, 3, 4, 17, 18, 19, 20, 39, 40, 41, 42] (by decide +kernel) (by decide +kernel)
set_option maxRecDepth 20000 in
theorem gX8_tellOdds_X8_weigh : GoodIn wsX8_tellOdds (wsV RX8 57 RX8 yX8_weigh wsX8_weigh) := goodIn_app (goodIn_of _ (by decide +kernel)) ggX8_tellOdds_X8_weigh
set_option maxRecDepth 20000 in
theorem ggX8_tellOdds_X8_weakAmongFirst : GoodIn wsX8_tellOdds wsX8_weakAmongFirst := goodIn_r _ [24, 11, 12, 25, 39, 40, 41, 42] (by decide +kernel) (by decide +kernel)
set_option maxRecDepth 20000 in
theorem gX8_tellOdds_X8_weakAmongFirst : GoodIn wsX8_tellOdds (wsV RX8 48 RX8 yX8_weakAmongFirst wsX8_weakAmongFirst) := goodIn_app (goodIn_of _ (by decide +kernel)) ggX8_tellOdds_X8_weakAmongFirst
set_option maxRecDepth 20000 in
theorem ggX8_tellOdds_X2_reduce : GoodIn wsX8_tellOdds wsX2_reduce := goodIn_r _ [30, 31, 32, 3, 33, 34, 35, 36, 37, 29, 38, 43, 44] (by decide +kernel) (by decide +kernel)
set_option maxRecDepth 20000 in
theorem gX8_tellOdds_X2_reduce : GoodIn wsX8_tellOdds (wsV RX8 39 RX2 yX2_reduce wsX2_reduce) := goodIn_app (goodIn_of _ (by decide +kernel)) ggX8_tellOdds_X2_reduce
theorem dX8_tellOdds_0 : decode cX8_tellOdds 0 = .ok (.aload_n 0, 1) := by decide +kernel
theorem dX8_tellOdds_1 : decode cX8_tellOdds 1 = .ok (.invokevirtual 35, 3) := by decide +kernel
theorem dX8_tellOdds_4 : decode cX8_tellOdds 4 = .ok (.bipush 12, 2) := by decide +kernel
theorem dX8_tellOdds_6 : decode cX8_tellOdds 6 = .ok (.invokestatic 52, 3) := by decide +kernel
theorem dX8_tellOdds_9 : decode cX8_tellOdds 9 = .ok (.istore 4, 2) := by decide +kernel
theorem dX8_tellOdds_11 : decode cX8_tellOdds 11 = .ok (.aload_n 0, 1) := by decide +kernel
theorem dX8_tellOdds_12 : decode cX8_tellOdds 12 = .ok (.iload 4, 2) := by decide +kernel
theorem dX8_tellOdds_14 : decode cX8_tellOdds 14 = .ok (.iload_n 1, 1) := by decide +kernel
theorem dX8_tellOdds_15 : decode cX8_tellOdds 15 = .ok (.invokevirtual 57, 3) := by decide +kernel
theorem dX8_tellOdds_18 : decode cX8_tellOdds 18 = .ok (.aload_n 0, 1) := by decide +kernel
theorem dX8_tellOdds_19 : decode cX8_tellOdds 19 = .ok (.bipush 12, 2) := by decide +kernel
theorem dX8_tellOdds_21 : decode cX8_tellOdds 21 = .ok (.iload_n 2, 1) := by decide +kernel
theorem dX8_tellOdds_22 : decode cX8_tellOdds 22 = .ok (.invokevirtual 48, 3) := by decide +kernel
theorem dX8_tellOdds_25 : decode cX8_tellOdds 25 = .ok (.istore 5, 2) := by decide +kernel
theorem dX8_tellOdds_27 : decode cX8_tellOdds 27 = .ok (.lconst 0, 1) := by decide +kernel
theorem dX8_tellOdds_28 : decode cX8_tellOdds 28 = .ok (.lstore 6, 2) := by decide +kernel
theorem dX8_tellOdds_30 : decode cX8_tellOdds 30 = .ok (.lconst 0, 1) := by decide +kernel
theorem dX8_tellOdds_31 : decode cX8_tellOdds 31 = .ok (.lstore 8, 2) := by decide +kernel
theorem dX8_tellOdds_33 : decode cX8_tellOdds 33 = .ok (.iconst 0, 1) := by decide +kernel
theorem dX8_tellOdds_34 : decode cX8_tellOdds 34 = .ok (.istore 10, 2) := by decide +kernel
theorem dX8_tellOdds_36 : decode cX8_tellOdds 36 = .ok (.iload 10, 2) := by decide +kernel
theorem dX8_tellOdds_38 : decode cX8_tellOdds 38 = .ok (.iload 4, 2) := by decide +kernel
theorem dX8_tellOdds_40 : decode cX8_tellOdds 40 = .ok (.if_icmp .gt 40, 3) := by decide +kernel
theorem dX8_tellOdds_43 : decode cX8_tellOdds 43 = .ok (.lload 8, 2) := by decide +kernel
theorem dX8_tellOdds_45 : decode cX8_tellOdds 45 = .ok (.aload_n 0, 1) := by decide +kernel
theorem dX8_tellOdds_46 : decode cX8_tellOdds 46 = .ok (.getfield 19, 3) := by decide +kernel
theorem dX8_tellOdds_49 : decode cX8_tellOdds 49 = .ok (.iload 10, 2) := by decide +kernel
theorem dX8_tellOdds_51 : decode cX8_tellOdds 51 = .ok (.laload, 1) := by decide +kernel
theorem dX8_tellOdds_52 : decode cX8_tellOdds 52 = .ok (.ladd, 1) := by decide +kernel
theorem dX8_tellOdds_53 : decode cX8_tellOdds 53 = .ok (.lstore 8, 2) := by decide +kernel
theorem dX8_tellOdds_55 : decode cX8_tellOdds 55 = .ok (.iload 10, 2) := by decide +kernel
theorem dX8_tellOdds_57 : decode cX8_tellOdds 57 = .ok (.iload 5, 2) := by decide +kernel
theorem dX8_tellOdds_59 : decode cX8_tellOdds 59 = .ok (.if_icmp .lt 15, 3) := by decide +kernel
theorem dX8_tellOdds_62 : decode cX8_tellOdds 62 = .ok (.lload 6, 2) := by decide +kernel
theorem dX8_tellOdds_64 : decode cX8_tellOdds 64 = .ok (.aload_n 0, 1) := by decide +kernel
theorem dX8_tellOdds_65 : decode cX8_tellOdds 65 = .ok (.getfield 19, 3) := by decide +kernel
theorem dX8_tellOdds_68 : decode cX8_tellOdds 68 = .ok (.iload 10, 2) := by decide +kernel
theorem dX8_tellOdds_70 : decode cX8_tellOdds 70 = .ok (.laload, 1) := by decide +kernel
theorem dX8_tellOdds_71 : decode cX8_tellOdds 71 = .ok (.ladd, 1) := by decide +kernel
theorem dX8_tellOdds_72 : decode cX8_tellOdds 72 = .ok (.lstore 6, 2) := by decide +kernel
theorem dX8_tellOdds_74 : decode cX8_tellOdds 74 = .ok (.iinc 10 1, 3) := by decide +kernel
theorem dX8_tellOdds_77 : decode cX8_tellOdds 77 = .ok (.goto (-41), 3) := by decide +kernel
theorem dX8_tellOdds_80 : decode cX8_tellOdds 80 = .ok (.aload_n 3, 1) := by decide +kernel
theorem dX8_tellOdds_81 : decode cX8_tellOdds 81 = .ok (.lload 6, 2) := by decide +kernel
theorem dX8_tellOdds_83 : decode cX8_tellOdds 83 = .ok (.lload 8, 2) := by decide +kernel
theorem dX8_tellOdds_85 : decode cX8_tellOdds 85 = .ok (.invokevirtual 39, 3) := by decide +kernel
theorem dX8_tellOdds_88 : decode cX8_tellOdds 88 = .ok (.return_, 1) := by decide +kernel
set_option maxRecDepth 20000 in
theorem ggX8_weigh_J7_fill_d0a16 : GoodIn wsX8_weigh wsJ7_fill_d0a16 := goodIn_r _ [9] (by decide +kernel) (by decide +kernel)
set_option maxRecDepth 20000 in
theorem gX8_weigh_J7_fill_d0a16 : GoodIn wsX8_weigh (va_wsS RX8 61 yJ7_fill_d0a16 wsJ7_fill_d0a16) := goodIn_app (goodIn_of _ (by decide +kernel)) ggX8_weigh_J7_fill_d0a16
theorem dX8_weigh_0 : decode cX8_weigh 0 = .ok (.aload_n 0, 1) := by decide +kernel
theorem dX8_weigh_1 : decode cX8_weigh 1 = .ok (.getfield 19, 3) := by decide +kernel
theorem dX8_weigh_4 : decode cX8_weigh 4 = .ok (.lconst 0, 1) := by decide +kernel
theorem dX8_weigh_5 : decode cX8_weigh 5 = .ok (.invokestatic 61, 3) := by decide +kernel
theorem dX8_weigh_8 : decode cX8_weigh 8 = .ok (.aload_n 0, 1) := by decide +kernel
theorem dX8_weigh_9 : decode cX8_weigh 9 = .ok (.getfield 19, 3) := by decide +kernel
theorem dX8_weigh_12 : decode cX8_weigh 12 = .ok (.iconst 0, 1) := by decide +kernel
theorem dX8_weigh_13 : decode cX8_weigh 13 = .ok (.lconst 1, 1) := by decide +kernel
theorem dX8_weigh_14 : decode cX8_weigh 14 = .ok (.lastore, 1) := by decide +kernel
theorem dX8_weigh_15 : decode cX8_weigh 15 = .ok (.iconst 1, 1) := by decide +kernel
theorem dX8_weigh_16 : decode cX8_weigh 16 = .ok (.istore_n 3, 1) := by decide +kernel
theorem dX8_weigh_17 : decode cX8_weigh 17 = .ok (.iload_n 3, 1) := by decide +kernel
theorem dX8_weigh_18 : decode cX8_weigh 18 = .ok (.iload_n 1, 1) := by decide +kernel
theorem dX8_weigh_19 : decode cX8_weigh 19 = .ok (.if_icmp .gt 76, 3) := by decide +kernel
theorem dX8_weigh_22 : decode cX8_weigh 22 = .ok (.iload_n 3, 1) := by decide +kernel
theorem dX8_weigh_23 : decode cX8_weigh 23 = .ok (.bipush 12, 2) := by decide +kernel
theorem dX8_weigh_25 : decode cX8_weigh 25 = .ok (.invokestatic 52, 3) := by decide +kernel
theorem dX8_weigh_28 : decode cX8_weigh 28 = .ok (.istore 4, 2) := by decide +kernel
theorem dX8_weigh_30 : decode cX8_weigh 30 = .ok (.iload 4, 2) := by decide +kernel
theorem dX8_weigh_32 : decode cX8_weigh 32 = .ok (.iconst 1, 1) := by decide +kernel
theorem dX8_weigh_33 : decode cX8_weigh 33 = .ok (.if_icmp .lt 42, 3) := by decide +kernel
theorem dX8_weigh_36 : decode cX8_weigh 36 = .ok (.aload_n 0, 1) := by decide +kernel
theorem dX8_weigh_37 : decode cX8_weigh 37 = .ok (.getfield 19, 3) := by decide +kernel
theorem dX8_weigh_40 : decode cX8_weigh 40 = .ok (.iload 4, 2) := by decide +kernel
theorem dX8_weigh_42 : decode cX8_weigh 42 = .ok (.aload_n 0, 1) := by decide +kernel
theorem dX8_weigh_43 : decode cX8_weigh 43 = .ok (.getfield 19, 3) := by decide +kernel
theorem dX8_weigh_46 : decode cX8_weigh 46 = .ok (.iload 4, 2) := by decide +kernel
theorem dX8_weigh_48 : decode cX8_weigh 48 = .ok (.laload, 1) := by decide +kernel
theorem dX8_weigh_49 : decode cX8_weigh 49 = .ok (.bipush 20, 2) := by decide +kernel
theorem dX8_weigh_51 : decode cX8_weigh 51 = .ok (.iload_n 2, 1) := by decide +kernel
theorem dX8_weigh_52 : decode cX8_weigh 52 = .ok (.isub, 1) := by decide +kernel
theorem dX8_weigh_53 : decode cX8_weigh 53 = .ok (.i2l, 1) := by decide +kernel
theorem dX8_weigh_54 : decode cX8_weigh 54 = .ok (.lmul, 1) := by decide +kernel
theorem dX8_weigh_55 : decode cX8_weigh 55 = .ok (.aload_n 0, 1) := by decide +kernel
theorem dX8_weigh_56 : decode cX8_weigh 56 = .ok (.getfield 19, 3) := by decide +kernel
theorem dX8_weigh_59 : decode cX8_weigh 59 = .ok (.iload 4, 2) := by decide +kernel
theorem dX8_weigh_61 : decode cX8_weigh 61 = .ok (.iconst 1, 1) := by decide +kernel
theorem dX8_weigh_62 : decode cX8_weigh 62 = .ok (.isub, 1) := by decide +kernel
theorem dX8_weigh_63 : decode cX8_weigh 63 = .ok (.laload, 1) := by decide +kernel
theorem dX8_weigh_64 : decode cX8_weigh 64 = .ok (.iload_n 2, 1) := by decide +kernel
theorem dX8_weigh_65 : decode cX8_weigh 65 = .ok (.i2l, 1) := by decide +kernel
theorem dX8_weigh_66 : decode cX8_weigh 66 = .ok (.lmul, 1) := by decide +kernel
theorem dX8_weigh_67 : decode cX8_weigh 67 = .ok (.ladd, 1) := by decide +kernel
theorem dX8_weigh_68 : decode cX8_weigh 68 = .ok (.lastore, 1) := by decide +kernel
theorem dX8_weigh_69 : decode cX8_weigh 69 = .ok (.iinc 4 (-1), 3) := by decide +kernel
theorem dX8_weigh_72 : decode cX8_weigh 72 = .ok (.goto (-42), 3) := by decide +kernel
theorem dX8_weigh_75 : decode cX8_weigh 75 = .ok (.aload_n 0, 1) := by decide +kernel
theorem dX8_weigh_76 : decode cX8_weigh 76 = .ok (.getfield 19, 3) := by decide +kernel
theorem dX8_weigh_79 : decode cX8_weigh 79 = .ok (.iconst 0, 1) := by decide +kernel
theorem dX8_weigh_80 : decode cX8_weigh 80 = .ok (.dup2, 1) := by decide +kernel
theorem dX8_weigh_81 : decode cX8_weigh 81 = .ok (.laload, 1) := by decide +kernel
theorem dX8_weigh_82 : decode cX8_weigh 82 = .ok (.bipush 20, 2) := by decide +kernel
theorem dX8_weigh_84 : decode cX8_weigh 84 = .ok (.iload_n 2, 1) := by decide +kernel
theorem dX8_weigh_85 : decode cX8_weigh 85 = .ok (.isub, 1) := by decide +kernel
theorem dX8_weigh_86 : decode cX8_weigh 86 = .ok (.i2l, 1) := by decide +kernel
theorem dX8_weigh_87 : decode cX8_weigh 87 = .ok (.lmul, 1) := by decide +kernel
theorem dX8_weigh_88 : decode cX8_weigh 88 = .ok (.lastore, 1) := by decide +kernel
theorem dX8_weigh_89 : decode cX8_weigh 89 = .ok (.iinc 3 1, 3) := by decide +kernel
theorem dX8_weigh_92 : decode cX8_weigh 92 = .ok (.goto (-75), 3) := by decide +kernel
theorem dX8_weigh_95 : decode cX8_weigh 95 = .ok (.return_, 1) := by decide +kernel
theorem dX8_weakAmongFirst_0 : decode cX8_weakAmongFirst 0 = .ok (.iconst 0, 1) := by decide +kernel
theorem dX8_weakAmongFirst_1 : decode cX8_weakAmongFirst 1 = .ok (.istore_n 3, 1) := by decide +kernel
theorem dX8_weakAmongFirst_2 : decode cX8_weakAmongFirst 2 = .ok (.iconst 0, 1) := by decide +kernel
theorem dX8_weakAmongFirst_3 : decode cX8_weakAmongFirst 3 = .ok (.istore 4, 2) := by decide +kernel
theorem dX8_weakAmongFirst_5 : decode cX8_weakAmongFirst 5 = .ok (.iconst 0, 1) := by decide +kernel
theorem dX8_weakAmongFirst_6 : decode cX8_weakAmongFirst 6 = .ok (.istore 5, 2) := by decide +kernel
theorem dX8_weakAmongFirst_8 : decode cX8_weakAmongFirst 8 = .ok (.iload 5, 2) := by decide +kernel
theorem dX8_weakAmongFirst_10 : decode cX8_weakAmongFirst 10 = .ok (.aload_n 0, 1) := by decide +kernel
theorem dX8_weakAmongFirst_11 : decode cX8_weakAmongFirst 11 = .ok (.getfield 23, 3) := by decide +kernel
theorem dX8_weakAmongFirst_14 : decode cX8_weakAmongFirst 14 = .ok (.if_icmp .ge 41, 3) := by decide +kernel
theorem dX8_weakAmongFirst_17 : decode cX8_weakAmongFirst 17 = .ok (.iload_n 3, 1) := by decide +kernel
theorem dX8_weakAmongFirst_18 : decode cX8_weakAmongFirst 18 = .ok (.iload_n 1, 1) := by decide +kernel
theorem dX8_weakAmongFirst_19 : decode cX8_weakAmongFirst 19 = .ok (.if_icmp .ge 36, 3) := by decide +kernel
theorem dX8_weakAmongFirst_22 : decode cX8_weakAmongFirst 22 = .ok (.aload_n 0, 1) := by decide +kernel
theorem dX8_weakAmongFirst_23 : decode cX8_weakAmongFirst 23 = .ok (.getfield 15, 3) := by decide +kernel
theorem dX8_weakAmongFirst_26 : decode cX8_weakAmongFirst 26 = .ok (.iload 5, 2) := by decide +kernel
theorem dX8_weakAmongFirst_28 : decode cX8_weakAmongFirst 28 = .ok (.baload, 1) := by decide +kernel
theorem dX8_weakAmongFirst_29 : decode cX8_weakAmongFirst 29 = .ok (.ifCond .ne 20, 3) := by decide +kernel
theorem dX8_weakAmongFirst_32 : decode cX8_weakAmongFirst 32 = .ok (.iinc 3 1, 3) := by decide +kernel
theorem dX8_weakAmongFirst_35 : decode cX8_weakAmongFirst 35 = .ok (.aload_n 0, 1) := by decide +kernel
theorem dX8_weakAmongFirst_36 : decode cX8_weakAmongFirst 36 = .ok (.getfield 11, 3) := by decide +kernel
theorem dX8_weakAmongFirst_39 : decode cX8_weakAmongFirst 39 = .ok (.iload 5, 2) := by decide +kernel
theorem dX8_weakAmongFirst_41 : decode cX8_weakAmongFirst 41 = .ok (.iaload, 1) := by decide +kernel
theorem dX8_weakAmongFirst_42 : decode cX8_weakAmongFirst 42 = .ok (.iload_n 2, 1) := by decide +kernel
theorem dX8_weakAmongFirst_43 : decode cX8_weakAmongFirst 43 = .ok (.if_icmp .ge 6, 3) := by decide +kernel
theorem dX8_weakAmongFirst_46 : decode cX8_weakAmongFirst 46 = .ok (.iinc 4 1, 3) := by decide +kernel
theorem dX8_weakAmongFirst_49 : decode cX8_weakAmongFirst 49 = .ok (.iinc 5 1, 3) := by decide +kernel
theorem dX8_weakAmongFirst_52 : decode cX8_weakAmongFirst 52 = .ok (.goto (-44), 3) := by decide +kernel
theorem dX8_weakAmongFirst_55 : decode cX8_weakAmongFirst 55 = .ok (.iload 4, 2) := by decide +kernel
theorem dX8_weakAmongFirst_57 : decode cX8_weakAmongFirst 57 = .ok (.ireturn, 1) := by decide +kernel
theorem dX8_sum_0 : decode cX8_sum 0 = .ok (.lconst 0, 1) := by decide +kernel
theorem dX8_sum_1 : decode cX8_sum 1 = .ok (.lstore_n 1, 1) := by decide +kernel
theorem dX8_sum_2 : decode cX8_sum 2 = .ok (.iconst 0, 1) := by decide +kernel
theorem dX8_sum_3 : decode cX8_sum 3 = .ok (.istore_n 3, 1) := by decide +kernel
theorem dX8_sum_4 : decode cX8_sum 4 = .ok (.iload_n 3, 1) := by decide +kernel
theorem dX8_sum_5 : decode cX8_sum 5 = .ok (.aload_n 0, 1) := by decide +kernel
theorem dX8_sum_6 : decode cX8_sum 6 = .ok (.getfield 23, 3) := by decide +kernel
theorem dX8_sum_9 : decode cX8_sum 9 = .ok (.if_icmp .ge 28, 3) := by decide +kernel
theorem dX8_sum_12 : decode cX8_sum 12 = .ok (.aload_n 0, 1) := by decide +kernel
theorem dX8_sum_13 : decode cX8_sum 13 = .ok (.getfield 15, 3) := by decide +kernel
theorem dX8_sum_16 : decode cX8_sum 16 = .ok (.iload_n 3, 1) := by decide +kernel
theorem dX8_sum_17 : decode cX8_sum 17 = .ok (.baload, 1) := by decide +kernel
theorem dX8_sum_18 : decode cX8_sum 18 = .ok (.ifCond .ne 13, 3) := by decide +kernel
theorem dX8_sum_21 : decode cX8_sum 21 = .ok (.lload_n 1, 1) := by decide +kernel
theorem dX8_sum_22 : decode cX8_sum 22 = .ok (.aload_n 0, 1) := by decide +kernel
theorem dX8_sum_23 : decode cX8_sum 23 = .ok (.getfield 11, 3) := by decide +kernel
theorem dX8_sum_26 : decode cX8_sum 26 = .ok (.iload_n 3, 1) := by decide +kernel
theorem dX8_sum_27 : decode cX8_sum 27 = .ok (.iaload, 1) := by decide +kernel
theorem dX8_sum_28 : decode cX8_sum 28 = .ok (.i2l, 1) := by decide +kernel
theorem dX8_sum_29 : decode cX8_sum 29 = .ok (.ladd, 1) := by decide +kernel
theorem dX8_sum_30 : decode cX8_sum 30 = .ok (.lstore_n 1, 1) := by decide +kernel
theorem dX8_sum_31 : decode cX8_sum 31 = .ok (.iinc 3 1, 3) := by decide +kernel
theorem dX8_sum_34 : decode cX8_sum 34 = .ok (.goto (-30), 3) := by decide +kernel
theorem dX8_sum_37 : decode cX8_sum 37 = .ok (.lload_n 1, 1) := by decide +kernel
theorem dX8_sum_38 : decode cX8_sum 38 = .ok (.lreturn, 1) := by decide +kernel
theorem dX8_sumOfSquares_0 : decode cX8_sumOfSquares 0 = .ok (.lconst 0, 1) := by decide +kernel
theorem dX8_sumOfSquares_1 : decode cX8_sumOfSquares 1 = .ok (.lstore_n 1, 1) := by decide +kernel
theorem dX8_sumOfSquares_2 : decode cX8_sumOfSquares 2 = .ok (.iconst 0, 1) := by decide +kernel
theorem dX8_sumOfSquares_3 : decode cX8_sumOfSquares 3 = .ok (.istore_n 3, 1) := by decide +kernel
theorem dX8_sumOfSquares_4 : decode cX8_sumOfSquares 4 = .ok (.iload_n 3, 1) := by decide +kernel
theorem dX8_sumOfSquares_5 : decode cX8_sumOfSquares 5 = .ok (.aload_n 0, 1) := by decide +kernel
theorem dX8_sumOfSquares_6 : decode cX8_sumOfSquares 6 = .ok (.getfield 23, 3) := by decide +kernel
theorem dX8_sumOfSquares_9 : decode cX8_sumOfSquares 9 = .ok (.if_icmp .ge 36, 3) := by decide +kernel
theorem dX8_sumOfSquares_12 : decode cX8_sumOfSquares 12 = .ok (.aload_n 0, 1) := by decide +kernel
theorem dX8_sumOfSquares_13 : decode cX8_sumOfSquares 13 = .ok (.getfield 15, 3) := by decide +kernel
theorem dX8_sumOfSquares_16 : decode cX8_sumOfSquares 16 = .ok (.iload_n 3, 1) := by decide +kernel
theorem dX8_sumOfSquares_17 : decode cX8_sumOfSquares 17 = .ok (.baload, 1) := by decide +kernel
theorem dX8_sumOfSquares_18 : decode cX8_sumOfSquares 18 = .ok (.ifCond .ne 21, 3) := by decide +kernel
theorem dX8_sumOfSquares_21 : decode cX8_sumOfSquares 21 = .ok (.lload_n 1, 1) := by decide +kernel
theorem dX8_sumOfSquares_22 : decode cX8_sumOfSquares 22 = .ok (.aload_n 0, 1) := by decide +kernel
theorem dX8_sumOfSquares_23 : decode cX8_sumOfSquares 23 = .ok (.getfield 11, 3) := by decide +kernel
theorem dX8_sumOfSquares_26 : decode cX8_sumOfSquares 26 = .ok (.iload_n 3, 1) := by decide +kernel
theorem dX8_sumOfSquares_27 : decode cX8_sumOfSquares 27 = .ok (.iaload, 1) := by decide +kernel
theorem dX8_sumOfSquares_28 : decode cX8_sumOfSquares 28 = .ok (.i2l, 1) := by decide +kernel
theorem dX8_sumOfSquares_29 : decode cX8_sumOfSquares 29 = .ok (.aload_n 0, 1) := by decide +kernel
theorem dX8_sumOfSquares_30 : decode cX8_sumOfSquares 30 = .ok (.getfield 11, 3) := by decide +kernel
theorem dX8_sumOfSquares_33 : decode cX8_sumOfSquares 33 = .ok (.iload_n 3, 1) := by decide +kernel
theorem dX8_sumOfSquares_34 : decode cX8_sumOfSquares 34 = .ok (.iaload, 1) := by decide +kernel
theorem dX8_sumOfSquares_35 : decode cX8_sumOfSquares 35 = .ok (.i2l, 1) := by decide +kernel
theorem dX8_sumOfSquares_36 : decode cX8_sumOfSquares 36 = .ok (.lmul, 1) := by decide +kernel
theorem dX8_sumOfSquares_37 : decode cX8_sumOfSquares 37 = .ok (.ladd, 1) := by decide +kernel
theorem dX8_sumOfSquares_38 : decode cX8_sumOfSquares 38 = .ok (.lstore_n 1, 1) := by decide +kernel
theorem dX8_sumOfSquares_39 : decode cX8_sumOfSquares 39 = .ok (.iinc 3 1, 3) := by decide +kernel
theorem dX8_sumOfSquares_42 : decode cX8_sumOfSquares 42 = .ok (.goto (-38), 3) := by decide +kernel
theorem dX8_sumOfSquares_45 : decode cX8_sumOfSquares 45 = .ok (.lload_n 1, 1) := by decide +kernel
theorem dX8_sumOfSquares_46 : decode cX8_sumOfSquares 46 = .ok (.lreturn, 1) := by decide +kernel
