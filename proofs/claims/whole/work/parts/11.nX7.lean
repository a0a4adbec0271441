theorem dX7_init_0 : decode cX7_init 0 = .ok (.aload_n 0, 1) := by decide +kernel
theorem dX7_init_1 : decode cX7_init 1 = .ok (.invokespecial 5, 3) := by decide +kernel
theorem dX7_init_4 : decode cX7_init 4 = .ok (.aload_n 0, 1) := by decide +kernel
theorem dX7_init_5 : decode cX7_init 5 = .ok (.bipush 40, 2) := by decide +kernel
theorem dX7_init_7 : decode cX7_init 7 = .ok (.newarray .int, 2) := by decide +kernel
theorem dX7_init_9 : decode cX7_init 9 = .ok (.putfield 11, 3) := by decide +kernel
theorem dX7_init_12 : decode cX7_init 12 = .ok (.return_, 1) := by decide +kernel
theorem dX7_append_0 : decode cX7_append 0 = .ok (.aload_n 0, 1) := by decide +kernel
theorem dX7_append_1 : decode cX7_append 1 = .ok (.getfield 15, 3) := by decide +kernel
theorem dX7_append_4 : decode cX7_append 4 = .ok (.aload_n 0, 1) := by decide +kernel
theorem dX7_append_5 : decode cX7_append 5 = .ok (.getfield 11, 3) := by decide +kernel
theorem dX7_append_8 : decode cX7_append 8 = .ok (.arraylength, 1) := by decide +kernel
theorem dX7_append_9 : decode cX7_append 9 = .ok (.if_icmp .lt 6, 3) := by decide +kernel
theorem dX7_append_12 : decode cX7_append 12 = .ok (.bipush (-4), 2) := by decide +kernel
theorem dX7_append_14 : decode cX7_append 14 = .ok (.ireturn, 1) := by decide +kernel
theorem dX7_append_15 : decode cX7_append 15 = .ok (.aload_n 0, 1) := by decide +kernel
theorem dX7_append_16 : decode cX7_append 16 = .ok (.getfield 11, 3) := by decide +kernel
theorem dX7_append_19 : decode cX7_append 19 = .ok (.aload_n 0, 1) := by decide +kernel
theorem dX7_append_20 : decode cX7_append 20 = .ok (.getfield 15, 3) := by decide +kernel
theorem dX7_append_23 : decode cX7_append 23 = .ok (.iload_n 1, 1) := by decide +kernel
theorem dX7_append_24 : decode cX7_append 24 = .ok (.iastore, 1) := by decide +kernel
theorem dX7_append_25 : decode cX7_append 25 = .ok (.aload_n 0, 1) := by decide +kernel
theorem dX7_append_26 : decode cX7_append 26 = .ok (.dup, 1) := by decide +kernel
theorem dX7_append_27 : decode cX7_append 27 = .ok (.getfield 15, 3) := by decide +kernel
theorem dX7_append_30 : decode cX7_append 30 = .ok (.iconst 1, 1) := by decide +kernel
theorem dX7_append_31 : decode cX7_append 31 = .ok (.iadd, 1) := by decide +kernel
theorem dX7_append_32 : decode cX7_append 32 = .ok (.putfield 15, 3) := by decide +kernel
theorem dX7_append_35 : decode cX7_append 35 = .ok (.aload_n 0, 1) := by decide +kernel
theorem dX7_append_36 : decode cX7_append 36 = .ok (.getfield 15, 3) := by decide +kernel
theorem dX7_append_39 : decode cX7_append 39 = .ok (.ireturn, 1) := by decide +kernel
theorem dX7_clear_0 : decode cX7_clear 0 = .ok (.aload_n 0, 1) := by decide +kernel
theorem dX7_clear_1 : decode cX7_clear 1 = .ok (.getfield 15, 3) := by decide +kernel
theorem dX7_clear_4 : decode cX7_clear 4 = .ok (.istore_n 1, 1) := by decide +kernel
theorem dX7_clear_5 : decode cX7_clear 5 = .ok (.aload_n 0, 1) := by decide +kernel
theorem dX7_clear_6 : decode cX7_clear 6 = .ok (.iconst 0, 1) := by decide +kernel
theorem dX7_clear_7 : decode cX7_clear 7 = .ok (.putfield 15, 3) := by decide +kernel
theorem dX7_clear_10 : decode cX7_clear 10 = .ok (.iload_n 1, 1) := by decide +kernel
theorem dX7_clear_11 : decode cX7_clear 11 = .ok (.ireturn, 1) := by decide +kernel
theorem dX7_count_0 : decode cX7_count 0 = .ok (.aload_n 0, 1) := by decide +kernel
theorem dX7_count_1 : decode cX7_count 1 = .ok (.getfield 15, 3) := by decide +kernel
theorem dX7_count_4 : decode cX7_count 4 = .ok (.ireturn, 1) := by decide +kernel
set_option maxRecDepth 20000 in
theorem ggX7_faultPlace_X7_stands : GoodIn wsX7_faultPlace wsX7_stands := goodIn_r _ [6, 7, 8, 9, 5, 10, 11, 12, 13, 14, 15, 16] (by decide +kernel) (by decide +kernel)
set_option maxRecDepth 20000 in
theorem gX7_faultPlace_X7_stands : GoodIn wsX7_faultPlace (wsV RX7 19 RX7 yX7_stands wsX7_stands) := goodIn_app (goodIn_of _ (by decide +kernel)) ggX7_faultPlace_X7_stands
theorem dX7_faultPlace_0 : decode cX7_faultPlace 0 = .ok (.iconst 0, 1) := by decide +kernel
theorem dX7_faultPlace_1 : decode cX7_faultPlace 1 = .ok (.istore_n 1, 1) := by decide +kernel
theorem dX7_faultPlace_2 : decode cX7_faultPlace 2 = .ok (.iload_n 1, 1) := by decide +kernel
theorem dX7_faultPlace_3 : decode cX7_faultPlace 3 = .ok (.aload_n 0, 1) := by decide +kernel
theorem dX7_faultPlace_4 : decode cX7_faultPlace 4 = .ok (.getfield 15, 3) := by decide +kernel
theorem dX7_faultPlace_7 : decode cX7_faultPlace 7 = .ok (.if_icmp .ge 19, 3) := by decide +kernel
theorem dX7_faultPlace_10 : decode cX7_faultPlace 10 = .ok (.aload_n 0, 1) := by decide +kernel
theorem dX7_faultPlace_11 : decode cX7_faultPlace 11 = .ok (.iload_n 1, 1) := by decide +kernel
theorem dX7_faultPlace_12 : decode cX7_faultPlace 12 = .ok (.invokevirtual 19, 3) := by decide +kernel
theorem dX7_faultPlace_15 : decode cX7_faultPlace 15 = .ok (.ifCond .ne 5, 3) := by decide +kernel
theorem dX7_faultPlace_18 : decode cX7_faultPlace 18 = .ok (.iload_n 1, 1) := by decide +kernel
theorem dX7_faultPlace_19 : decode cX7_faultPlace 19 = .ok (.ireturn, 1) := by decide +kernel
theorem dX7_faultPlace_20 : decode cX7_faultPlace 20 = .ok (.iinc 1 1, 3) := by decide +kernel
theorem dX7_faultPlace_23 : decode cX7_faultPlace 23 = .ok (.goto (-21), 3) := by decide +kernel
theorem dX7_faultPlace_26 : decode cX7_faultPlace 26 = .ok (.aload_n 0, 1) := by decide +kernel
theorem dX7_faultPlace_27 : decode cX7_faultPlace 27 = .ok (.getfield 15, 3) := by decide +kernel
theorem dX7_faultPlace_30 : decode cX7_faultPlace 30 = .ok (.iconst 5, 1) := by decide +kernel
theorem dX7_faultPlace_31 : decode cX7_faultPlace 31 = .ok (.irem, 1) := by decide +kernel
theorem dX7_faultPlace_32 : decode cX7_faultPlace 32 = .ok (.iconst 1, 1) := by decide +kernel
theorem dX7_faultPlace_33 : decode cX7_faultPlace 33 = .ok (.if_icmp .ne 8, 3) := by decide +kernel
theorem dX7_faultPlace_36 : decode cX7_faultPlace 36 = .ok (.bipush (-6), 2) := by decide +kernel
theorem dX7_faultPlace_38 : decode cX7_faultPlace 38 = .ok (.goto 7, 3) := by decide +kernel
theorem dX7_faultPlace_41 : decode cX7_faultPlace 41 = .ok (.aload_n 0, 1) := by decide +kernel
theorem dX7_faultPlace_42 : decode cX7_faultPlace 42 = .ok (.getfield 15, 3) := by decide +kernel
theorem dX7_faultPlace_45 : decode cX7_faultPlace 45 = .ok (.ireturn, 1) := by decide +kernel
theorem dX7_spots_0 : decode cX7_spots 0 = .ok (.aload_n 0, 1) := by decide +kernel
theorem dX7_spots_1 : decode cX7_spots 1 = .ok (.getfield 15, 3) := by decide +kernel
theorem dX7_spots_4 : decode cX7_spots 4 = .ok (.iconst 5, 1) := by decide +kernel
theorem dX7_spots_5 : decode cX7_spots 5 = .ok (.idiv, 1) := by decide +kernel
theorem dX7_spots_6 : decode cX7_spots 6 = .ok (.iconst 1, 1) := by decide +kernel
theorem dX7_spots_7 : decode cX7_spots 7 = .ok (.iadd, 1) := by decide +kernel
theorem dX7_spots_8 : decode cX7_spots 8 = .ok (.iconst 5, 1) := by decide +kernel
theorem dX7_spots_9 : decode cX7_spots 9 = .ok (.invokestatic 23, 3) := by decide +kernel
theorem dX7_spots_12 : decode cX7_spots 12 = .ok (.ireturn, 1) := by decide +kernel
set_option maxRecDepth 20000 in
theorem ggX7_glueOf_X7_digitAt : GoodIn wsX7_glueOf wsX7_digitAt := goodIn_r _ [5, 6, 7, 8, 9, 10, 11] (by decide +kernel) (by decide +kernel)
set_option maxRecDepth 20000 in
theorem gX7_glueOf_X7_digitAt : GoodIn wsX7_glueOf (wsV RX7 29 RX7 yX7_digitAt wsX7_digitAt) := goodIn_app (goodIn_of _ (by decide +kernel)) ggX7_glueOf_X7_digitAt
theorem dX7_glueOf_0 : decode cX7_glueOf 0 = .ok (.aload_n 0, 1) := by decide +kernel
theorem dX7_glueOf_1 : decode cX7_glueOf 1 = .ok (.iload_n 1, 1) := by decide +kernel
theorem dX7_glueOf_2 : decode cX7_glueOf 2 = .ok (.iconst 5, 1) := by decide +kernel
theorem dX7_glueOf_3 : decode cX7_glueOf 3 = .ok (.imul, 1) := by decide +kernel
theorem dX7_glueOf_4 : decode cX7_glueOf 4 = .ok (.invokevirtual 29, 3) := by decide +kernel
theorem dX7_glueOf_7 : decode cX7_glueOf 7 = .ok (.ireturn, 1) := by decide +kernel
set_option maxRecDepth 20000 in
theorem ggX7_upperBehind_X7_digitAt : GoodIn wsX7_upperBehind wsX7_digitAt := goodIn_r _ [5, 6, 7, 8, 9, 10, 11] (by decide +kernel) (by decide +kernel)
set_option maxRecDepth 20000 in
theorem gX7_upperBehind_X7_digitAt : GoodIn wsX7_upperBehind (wsV RX7 29 RX7 yX7_digitAt wsX7_digitAt) := goodIn_app (goodIn_of _ (by decide +kernel)) ggX7_upperBehind_X7_digitAt
theorem dX7_upperBehind_0 : decode cX7_upperBehind 0 = .ok (.aload_n 0, 1) := by decide +kernel
theorem dX7_upperBehind_1 : decode cX7_upperBehind 1 = .ok (.iload_n 1, 1) := by decide +kernel
theorem dX7_upperBehind_2 : decode cX7_upperBehind 2 = .ok (.iconst 5, 1) := by decide +kernel
theorem dX7_upperBehind_3 : decode cX7_upperBehind 3 = .ok (.imul, 1) := by decide +kernel
theorem dX7_upperBehind_4 : decode cX7_upperBehind 4 = .ok (.iconst 2, 1) := by decide +kernel
theorem dX7_upperBehind_5 : decode cX7_upperBehind 5 = .ok (.iadd, 1) := by decide +kernel
theorem dX7_upperBehind_6 : decode cX7_upperBehind 6 = .ok (.invokevirtual 29, 3) := by decide +kernel
theorem dX7_upperBehind_9 : decode cX7_upperBehind 9 = .ok (.ireturn, 1) := by decide +kernel
set_option maxRecDepth 20000 in
theorem ggX7_underBehind_X7_digitAt : GoodIn wsX7_underBehind wsX7_digitAt := goodIn_r _ [5, 6, 7, 8, 9, 10, 11] (by decide +kernel) (by decide +kernel)
set_option maxRecDepth 20000 in
theorem gX7_underBehind_X7_digitAt : GoodIn wsX7_underBehind (wsV RX7 29 RX7 yX7_digitAt wsX7_digitAt) := goodIn_app (goodIn_of _ (by decide +kernel)) ggX7_underBehind_X7_digitAt
theorem dX7_underBehind_0 : decode cX7_underBehind 0 = .ok (.aload_n 0, 1) := by decide +kernel
theorem dX7_underBehind_1 : decode cX7_underBehind 1 = .ok (.iload_n 1, 1) := by decide +kernel
theorem dX7_underBehind_2 : decode cX7_underBehind 2 = .ok (.iconst 5, 1) := by decide +kernel
theorem dX7_underBehind_3 : decode cX7_underBehind 3 = .ok (.imul, 1) := by decide +kernel
theorem dX7_underBehind_4 : decode cX7_underBehind 4 = .ok (.iconst 3, 1) := by decide +kernel
theorem dX7_underBehind_5 : decode cX7_underBehind 5 = .ok (.iadd, 1) := by decide +kernel
theorem dX7_underBehind_6 : decode cX7_underBehind 6 = .ok (.invokevirtual 29, 3) := by decide +kernel
theorem dX7_underBehind_9 : decode cX7_underBehind 9 = .ok (.ireturn, 1) := by decide +kernel
set_option maxRecDepth 20000 in
theorem ggX7_stands_X7_digitAt : GoodIn wsX7_stands wsX7_digitAt := goodIn_r _ [5, 6, 7, 8, 9, 10, 11] (by decide +kernel) (by decide +kernel)
set_option maxRecDepth 20000 in
theorem gX7_stands_X7_digitAt : GoodIn wsX7_stands (wsV RX7 29 RX7 yX7_digitAt wsX7_digitAt) := goodIn_app (goodIn_of _ (by decide +kernel)) ggX7_stands_X7_digitAt
set_option maxRecDepth 20000 in
theorem ggX7_stands_X9_within : GoodIn wsX7_stands wsX9_within := goodIn_r _ [9] (by decide +kernel) (by decide +kernel)
set_option maxRecDepth 20000 in
theorem gX7_stands_X9_within_n33 : GoodIn wsX7_stands (wsX9_within) := ggX7_stands_X9_within
theorem dX7_stands_0 : decode cX7_stands 0 = .ok (.iload_n 1, 1) := by decide +kernel
theorem dX7_stands_1 : decode cX7_stands 1 = .ok (.bipush 21, 2) := by decide +kernel
theorem dX7_stands_3 : decode cX7_stands 3 = .ok (.if_icmp .lt 5, 3) := by decide +kernel
theorem dX7_stands_6 : decode cX7_stands 6 = .ok (.iconst 0, 1) := by decide +kernel
theorem dX7_stands_7 : decode cX7_stands 7 = .ok (.ireturn, 1) := by decide +kernel
theorem dX7_stands_8 : decode cX7_stands 8 = .ok (.iload_n 1, 1) := by decide +kernel
theorem dX7_stands_9 : decode cX7_stands 9 = .ok (.iconst 5, 1) := by decide +kernel
theorem dX7_stands_10 : decode cX7_stands 10 = .ok (.irem, 1) := by decide +kernel
theorem dX7_stands_11 : decode cX7_stands 11 = .ok (.tableswitch 51 0 3 #[29, 51, 40, 40], 29) := by decide +kernel
theorem dX7_stands_40 : decode cX7_stands 40 = .ok (.aload_n 0, 1) := by decide +kernel
theorem dX7_stands_41 : decode cX7_stands 41 = .ok (.iload_n 1, 1) := by decide +kernel
theorem dX7_stands_42 : decode cX7_stands 42 = .ok (.invokevirtual 29, 3) := by decide +kernel
theorem dX7_stands_45 : decode cX7_stands 45 = .ok (.iconst 0, 1) := by decide +kernel
theorem dX7_stands_46 : decode cX7_stands 46 = .ok (.iconst 5, 1) := by decide +kernel
theorem dX7_stands_47 : decode cX7_stands 47 = .ok (.invokestatic 33, 3) := by decide +kernel
theorem dX7_stands_50 : decode cX7_stands 50 = .ok (.ireturn, 1) := by decide +kernel
theorem dX7_stands_51 : decode cX7_stands 51 = .ok (.aload_n 0, 1) := by decide +kernel
theorem dX7_stands_52 : decode cX7_stands 52 = .ok (.iload_n 1, 1) := by decide +kernel
theorem dX7_stands_53 : decode cX7_stands 53 = .ok (.invokevirtual 29, 3) := by decide +kernel
theorem dX7_stands_56 : decode cX7_stands 56 = .ok (.iconst 0, 1) := by decide +kernel
theorem dX7_stands_57 : decode cX7_stands 57 = .ok (.iconst 3, 1) := by decide +kernel
theorem dX7_stands_58 : decode cX7_stands 58 = .ok (.invokestatic 33, 3) := by decide +kernel
theorem dX7_stands_61 : decode cX7_stands 61 = .ok (.ireturn, 1) := by decide +kernel
theorem dX7_stands_62 : decode cX7_stands 62 = .ok (.aload_n 0, 1) := by decide +kernel
theorem dX7_stands_63 : decode cX7_stands 63 = .ok (.iload_n 1, 1) := by decide +kernel
theorem dX7_stands_64 : decode cX7_stands 64 = .ok (.invokevirtual 29, 3) := by decide +kernel
theorem dX7_stands_67 : decode cX7_stands 67 = .ok (.iconst (-1), 1) := by decide +kernel
theorem dX7_stands_68 : decode cX7_stands 68 = .ok (.if_icmp .ne 7, 3) := by decide +kernel
theorem dX7_stands_71 : decode cX7_stands 71 = .ok (.iconst 1, 1) := by decide +kernel
theorem dX7_stands_72 : decode cX7_stands 72 = .ok (.goto 4, 3) := by decide +kernel
theorem dX7_stands_75 : decode cX7_stands 75 = .ok (.iconst 0, 1) := by decide +kernel
theorem dX7_stands_76 : decode cX7_stands 76 = .ok (.ireturn, 1) := by decide +kernel
set_option maxRecDepth 20000 in
theorem ggX7_digitAt_X9_within : GoodIn wsX7_digitAt wsX9_within := goodIn_r _ [4] (by decide +kernel) (by decide +kernel)
set_option maxRecDepth 20000 in
theorem gX7_digitAt_X9_within_n33 : GoodIn wsX7_digitAt (wsX9_within) := ggX7_digitAt_X9_within
theorem dX7_digitAt_0 : decode cX7_digitAt 0 = .ok (.iload_n 1, 1) := by decide +kernel
theorem dX7_digitAt_1 : decode cX7_digitAt 1 = .ok (.iconst 0, 1) := by decide +kernel
theorem dX7_digitAt_2 : decode cX7_digitAt 2 = .ok (.aload_n 0, 1) := by decide +kernel
theorem dX7_digitAt_3 : decode cX7_digitAt 3 = .ok (.getfield 11, 3) := by decide +kernel
theorem dX7_digitAt_6 : decode cX7_digitAt 6 = .ok (.arraylength, 1) := by decide +kernel
theorem dX7_digitAt_7 : decode cX7_digitAt 7 = .ok (.iconst 1, 1) := by decide +kernel
theorem dX7_digitAt_8 : decode cX7_digitAt 8 = .ok (.isub, 1) := by decide +kernel
theorem dX7_digitAt_9 : decode cX7_digitAt 9 = .ok (.invokestatic 33, 3) := by decide +kernel
theorem dX7_digitAt_12 : decode cX7_digitAt 12 = .ok (.ifCond .eq 15, 3) := by decide +kernel
theorem dX7_digitAt_15 : decode cX7_digitAt 15 = .ok (.aload_n 0, 1) := by decide +kernel
theorem dX7_digitAt_16 : decode cX7_digitAt 16 = .ok (.getfield 11, 3) := by decide +kernel
theorem dX7_digitAt_19 : decode cX7_digitAt 19 = .ok (.iload_n 1, 1) := by decide +kernel
theorem dX7_digitAt_20 : decode cX7_digitAt 20 = .ok (.iaload, 1) := by decide +kernel
theorem dX7_digitAt_21 : decode cX7_digitAt 21 = .ok (.bipush 48, 2) := by decide +kernel
theorem dX7_digitAt_23 : decode cX7_digitAt 23 = .ok (.isub, 1) := by decide +kernel
theorem dX7_digitAt_24 : decode cX7_digitAt 24 = .ok (.goto 4, 3) := by decide +kernel
theorem dX7_digitAt_27 : decode cX7_digitAt 27 = .ok (.iconst 0, 1) := by decide +kernel
theorem dX7_digitAt_28 : decode cX7_digitAt 28 = .ok (.ireturn, 1) := by decide +kernel
