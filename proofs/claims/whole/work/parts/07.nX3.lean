theorem dX3_init_0 : decode cX3_init 0 = .ok (.aload_n 0, 1) := by decide +kernel
theorem dX3_init_1 : decode cX3_init 1 = .ok (.invokespecial 5, 3) := by decide +kernel
theorem dX3_init_4 : decode cX3_init 4 = .ok (.aload_n 0, 1) := by decide +kernel
theorem dX3_init_5 : decode cX3_init 5 = .ok (.bipush 7, 2) := by decide +kernel
theorem dX3_init_7 : decode cX3_init 7 = .ok (.newarray .int, 2) := by decide +kernel
theorem dX3_init_9 : decode cX3_init 9 = .ok (.putfield 11, 3) := by decide +kernel
theorem dX3_init_12 : decode cX3_init 12 = .ok (.aload_n 0, 1) := by decide +kernel
theorem dX3_init_13 : decode cX3_init 13 = .ok (.bipush 7, 2) := by decide +kernel
theorem dX3_init_15 : decode cX3_init 15 = .ok (.newarray .int, 2) := by decide +kernel
theorem dX3_init_17 : decode cX3_init 17 = .ok (.putfield 15, 3) := by decide +kernel
theorem dX3_init_20 : decode cX3_init 20 = .ok (.aload_n 0, 1) := by decide +kernel
theorem dX3_init_21 : decode cX3_init 21 = .ok (.iconst 3, 1) := by decide +kernel
theorem dX3_init_22 : decode cX3_init 22 = .ok (.newarray .int, 2) := by decide +kernel
theorem dX3_init_24 : decode cX3_init 24 = .ok (.putfield 18, 3) := by decide +kernel
theorem dX3_init_27 : decode cX3_init 27 = .ok (.aload_n 0, 1) := by decide +kernel
theorem dX3_init_28 : decode cX3_init 28 = .ok (.bipush 7, 2) := by decide +kernel
theorem dX3_init_30 : decode cX3_init 30 = .ok (.newarray .int, 2) := by decide +kernel
theorem dX3_init_32 : decode cX3_init 32 = .ok (.putfield 21, 3) := by decide +kernel
theorem dX3_init_35 : decode cX3_init 35 = .ok (.aload_n 0, 1) := by decide +kernel
theorem dX3_init_36 : decode cX3_init 36 = .ok (.bipush 7, 2) := by decide +kernel
theorem dX3_init_38 : decode cX3_init 38 = .ok (.newarray .int, 2) := by decide +kernel
theorem dX3_init_40 : decode cX3_init 40 = .ok (.putfield 24, 3) := by decide +kernel
theorem dX3_init_43 : decode cX3_init 43 = .ok (.aload_n 0, 1) := by decide +kernel
theorem dX3_init_44 : decode cX3_init 44 = .ok (.bipush 7, 2) := by decide +kernel
theorem dX3_init_46 : decode cX3_init 46 = .ok (.newarray .int, 2) := by decide +kernel
theorem dX3_init_48 : decode cX3_init 48 = .ok (.putfield 27, 3) := by decide +kernel
theorem dX3_init_51 : decode cX3_init 51 = .ok (.aload_n 0, 1) := by decide +kernel
theorem dX3_init_52 : decode cX3_init 52 = .ok (.bipush 7, 2) := by decide +kernel
theorem dX3_init_54 : decode cX3_init 54 = .ok (.newarray .int, 2) := by decide +kernel
theorem dX3_init_56 : decode cX3_init 56 = .ok (.putfield 30, 3) := by decide +kernel
theorem dX3_init_59 : decode cX3_init 59 = .ok (.return_, 1) := by decide +kernel
set_option maxRecDepth 20000 in
theorem ggX3_change_X9_within : GoodIn wsX3_change wsX9_within := goodIn_r _ [6] (by decide +kernel) (by decide +kernel)
set_option maxRecDepth 20000 in
theorem gX3_change_X9_within_n33 : GoodIn wsX3_change (wsX9_within) := ggX3_change_X9_within
theorem dX3_change_0 : decode cX3_change 0 = .ok (.iload_n 1, 1) := by decide +kernel
theorem dX3_change_1 : decode cX3_change 1 = .ok (.iconst 0, 1) := by decide +kernel
theorem dX3_change_2 : decode cX3_change 2 = .ok (.bipush 6, 2) := by decide +kernel
theorem dX3_change_4 : decode cX3_change 4 = .ok (.invokestatic 33, 3) := by decide +kernel
theorem dX3_change_7 : decode cX3_change 7 = .ok (.ifCond .ne 5, 3) := by decide +kernel
theorem dX3_change_10 : decode cX3_change 10 = .ok (.iconst (-1), 1) := by decide +kernel
theorem dX3_change_11 : decode cX3_change 11 = .ok (.ireturn, 1) := by decide +kernel
theorem dX3_change_12 : decode cX3_change 12 = .ok (.aload_n 0, 1) := by decide +kernel
theorem dX3_change_13 : decode cX3_change 13 = .ok (.getfield 11, 3) := by decide +kernel
theorem dX3_change_16 : decode cX3_change 16 = .ok (.iload_n 1, 1) := by decide +kernel
theorem dX3_change_17 : decode cX3_change 17 = .ok (.iaload, 1) := by decide +kernel
theorem dX3_change_18 : decode cX3_change 18 = .ok (.istore 4, 2) := by decide +kernel
theorem dX3_change_20 : decode cX3_change 20 = .ok (.aload_n 0, 1) := by decide +kernel
theorem dX3_change_21 : decode cX3_change 21 = .ok (.getfield 11, 3) := by decide +kernel
theorem dX3_change_24 : decode cX3_change 24 = .ok (.iload_n 1, 1) := by decide +kernel
theorem dX3_change_25 : decode cX3_change 25 = .ok (.iload_n 2, 1) := by decide +kernel
theorem dX3_change_26 : decode cX3_change 26 = .ok (.iastore, 1) := by decide +kernel
theorem dX3_change_27 : decode cX3_change 27 = .ok (.aload_n 0, 1) := by decide +kernel
theorem dX3_change_28 : decode cX3_change 28 = .ok (.getfield 15, 3) := by decide +kernel
theorem dX3_change_31 : decode cX3_change 31 = .ok (.iload_n 1, 1) := by decide +kernel
theorem dX3_change_32 : decode cX3_change 32 = .ok (.iload_n 3, 1) := by decide +kernel
theorem dX3_change_33 : decode cX3_change 33 = .ok (.iastore, 1) := by decide +kernel
theorem dX3_change_34 : decode cX3_change 34 = .ok (.aload_n 0, 1) := by decide +kernel
theorem dX3_change_35 : decode cX3_change 35 = .ok (.iconst 0, 1) := by decide +kernel
theorem dX3_change_36 : decode cX3_change 36 = .ok (.putfield 37, 3) := by decide +kernel
theorem dX3_change_39 : decode cX3_change 39 = .ok (.iload 4, 2) := by decide +kernel
theorem dX3_change_41 : decode cX3_change 41 = .ok (.ireturn, 1) := by decide +kernel
set_option maxRecDepth 20000 in
theorem ggX3_isThere_X9_within : GoodIn wsX3_isThere wsX9_within := goodIn_r _ [4] (by decide +kernel) (by decide +kernel)
set_option maxRecDepth 20000 in
theorem gX3_isThere_X9_within_n33 : GoodIn wsX3_isThere (wsX9_within) := ggX3_isThere_X9_within
theorem dX3_isThere_0 : decode cX3_isThere 0 = .ok (.iload_n 1, 1) := by decide +kernel
theorem dX3_isThere_1 : decode cX3_isThere 1 = .ok (.iconst 0, 1) := by decide +kernel
theorem dX3_isThere_2 : decode cX3_isThere 2 = .ok (.bipush 6, 2) := by decide +kernel
theorem dX3_isThere_4 : decode cX3_isThere 4 = .ok (.invokestatic 33, 3) := by decide +kernel
theorem dX3_isThere_7 : decode cX3_isThere 7 = .ok (.ifCond .eq 16, 3) := by decide +kernel
theorem dX3_isThere_10 : decode cX3_isThere 10 = .ok (.aload_n 0, 1) := by decide +kernel
theorem dX3_isThere_11 : decode cX3_isThere 11 = .ok (.getfield 11, 3) := by decide +kernel
theorem dX3_isThere_14 : decode cX3_isThere 14 = .ok (.iload_n 1, 1) := by decide +kernel
theorem dX3_isThere_15 : decode cX3_isThere 15 = .ok (.iaload, 1) := by decide +kernel
theorem dX3_isThere_16 : decode cX3_isThere 16 = .ok (.ifCond .le 7, 3) := by decide +kernel
theorem dX3_isThere_19 : decode cX3_isThere 19 = .ok (.iconst 1, 1) := by decide +kernel
theorem dX3_isThere_20 : decode cX3_isThere 20 = .ok (.goto 4, 3) := by decide +kernel
theorem dX3_isThere_23 : decode cX3_isThere 23 = .ok (.iconst 0, 1) := by decide +kernel
theorem dX3_isThere_24 : decode cX3_isThere 24 = .ok (.ireturn, 1) := by decide +kernel
set_option maxRecDepth 20000 in
theorem ggX3_bits_X3_isThere : GoodIn wsX3_bits wsX3_isThere := goodIn_r _ [5, 6, 7, 8, 9, 10, 11, 12, 13, 14, 15, 16, 17, 18, 19, 20] (by decide +kernel) (by decide +kernel)
set_option maxRecDepth 20000 in
theorem gX3_bits_X3_isThere : GoodIn wsX3_bits (wsV RX3 41 RX3 yX3_isThere wsX3_isThere) := goodIn_app (goodIn_of _ (by decide +kernel)) ggX3_bits_X3_isThere
theorem dX3_bits_0 : decode cX3_bits 0 = .ok (.iconst 0, 1) := by decide +kernel
theorem dX3_bits_1 : decode cX3_bits 1 = .ok (.istore_n 1, 1) := by decide +kernel
theorem dX3_bits_2 : decode cX3_bits 2 = .ok (.iconst 0, 1) := by decide +kernel
theorem dX3_bits_3 : decode cX3_bits 3 = .ok (.istore_n 2, 1) := by decide +kernel
theorem dX3_bits_4 : decode cX3_bits 4 = .ok (.iload_n 2, 1) := by decide +kernel
theorem dX3_bits_5 : decode cX3_bits 5 = .ok (.bipush 7, 2) := by decide +kernel
theorem dX3_bits_7 : decode cX3_bits 7 = .ok (.if_icmp .ge 23, 3) := by decide +kernel
theorem dX3_bits_10 : decode cX3_bits 10 = .ok (.aload_n 0, 1) := by decide +kernel
theorem dX3_bits_11 : decode cX3_bits 11 = .ok (.iload_n 2, 1) := by decide +kernel
theorem dX3_bits_12 : decode cX3_bits 12 = .ok (.invokevirtual 41, 3) := by decide +kernel
theorem dX3_bits_15 : decode cX3_bits 15 = .ok (.ifCond .eq 9, 3) := by decide +kernel
theorem dX3_bits_18 : decode cX3_bits 18 = .ok (.iload_n 1, 1) := by decide +kernel
theorem dX3_bits_19 : decode cX3_bits 19 = .ok (.iconst 1, 1) := by decide +kernel
theorem dX3_bits_20 : decode cX3_bits 20 = .ok (.iload_n 2, 1) := by decide +kernel
theorem dX3_bits_21 : decode cX3_bits 21 = .ok (.ishl, 1) := by decide +kernel
theorem dX3_bits_22 : decode cX3_bits 22 = .ok (.ior, 1) := by decide +kernel
theorem dX3_bits_23 : decode cX3_bits 23 = .ok (.istore_n 1, 1) := by decide +kernel
theorem dX3_bits_24 : decode cX3_bits 24 = .ok (.iinc 2 1, 3) := by decide +kernel
theorem dX3_bits_27 : decode cX3_bits 27 = .ok (.goto (-23), 3) := by decide +kernel
theorem dX3_bits_30 : decode cX3_bits 30 = .ok (.iload_n 1, 1) := by decide +kernel
theorem dX3_bits_31 : decode cX3_bits 31 = .ok (.ireturn, 1) := by decide +kernel
theorem dX3_end_0 : decode cX3_end 0 = .ok (.aload_n 0, 1) := by decide +kernel
theorem dX3_end_1 : decode cX3_end 1 = .ok (.getfield 45, 3) := by decide +kernel
theorem dX3_end_4 : decode cX3_end 4 = .ok (.ireturn, 1) := by decide +kernel
set_option maxRecDepth 20000 in
theorem ggX3_inOrder_X9_within : GoodIn wsX3_inOrder wsX9_within := goodIn_r _ [5] (by decide +kernel) (by decide +kernel)
set_option maxRecDepth 20000 in
theorem gX3_inOrder_X9_within_n33 : GoodIn wsX3_inOrder (wsX9_within) := ggX3_inOrder_X9_within
theorem dX3_inOrder_0 : decode cX3_inOrder 0 = .ok (.iload_n 1, 1) := by decide +kernel
theorem dX3_inOrder_1 : decode cX3_inOrder 1 = .ok (.iconst 0, 1) := by decide +kernel
theorem dX3_inOrder_2 : decode cX3_inOrder 2 = .ok (.aload_n 0, 1) := by decide +kernel
theorem dX3_inOrder_3 : decode cX3_inOrder 3 = .ok (.getfield 48, 3) := by decide +kernel
theorem dX3_inOrder_6 : decode cX3_inOrder 6 = .ok (.iconst 1, 1) := by decide +kernel
theorem dX3_inOrder_7 : decode cX3_inOrder 7 = .ok (.isub, 1) := by decide +kernel
theorem dX3_inOrder_8 : decode cX3_inOrder 8 = .ok (.invokestatic 33, 3) := by decide +kernel
theorem dX3_inOrder_11 : decode cX3_inOrder 11 = .ok (.ifCond .eq 18, 3) := by decide +kernel
theorem dX3_inOrder_14 : decode cX3_inOrder 14 = .ok (.iload_n 1, 1) := by decide +kernel
theorem dX3_inOrder_15 : decode cX3_inOrder 15 = .ok (.bipush 7, 2) := by decide +kernel
theorem dX3_inOrder_17 : decode cX3_inOrder 17 = .ok (.if_icmp .ge 12, 3) := by decide +kernel
theorem dX3_inOrder_20 : decode cX3_inOrder 20 = .ok (.aload_n 0, 1) := by decide +kernel
theorem dX3_inOrder_21 : decode cX3_inOrder 21 = .ok (.getfield 27, 3) := by decide +kernel
theorem dX3_inOrder_24 : decode cX3_inOrder 24 = .ok (.iload_n 1, 1) := by decide +kernel
theorem dX3_inOrder_25 : decode cX3_inOrder 25 = .ok (.iaload, 1) := by decide +kernel
theorem dX3_inOrder_26 : decode cX3_inOrder 26 = .ok (.goto 5, 3) := by decide +kernel
theorem dX3_inOrder_29 : decode cX3_inOrder 29 = .ok (.bipush (-6), 2) := by decide +kernel
theorem dX3_inOrder_31 : decode cX3_inOrder 31 = .ok (.ireturn, 1) := by decide +kernel
set_option maxRecDepth 20000 in
theorem ggX3_startOf_X3_isThere : GoodIn wsX3_startOf wsX3_isThere := goodIn_r _ [6, 7, 8, 9, 10, 11, 12, 13, 14, 15, 16, 17, 18, 19, 20, 21] (by decide +kernel) (by decide +kernel)
set_option maxRecDepth 20000 in
theorem gX3_startOf_X3_isThere : GoodIn wsX3_startOf (wsV RX3 41 RX3 yX3_isThere wsX3_isThere) := goodIn_app (goodIn_of _ (by decide +kernel)) ggX3_startOf_X3_isThere
theorem dX3_startOf_0 : decode cX3_startOf 0 = .ok (.aload_n 0, 1) := by decide +kernel
theorem dX3_startOf_1 : decode cX3_startOf 1 = .ok (.iload_n 1, 1) := by decide +kernel
theorem dX3_startOf_2 : decode cX3_startOf 2 = .ok (.invokevirtual 41, 3) := by decide +kernel
theorem dX3_startOf_5 : decode cX3_startOf 5 = .ok (.ifCond .eq 12, 3) := by decide +kernel
theorem dX3_startOf_8 : decode cX3_startOf 8 = .ok (.aload_n 0, 1) := by decide +kernel
theorem dX3_startOf_9 : decode cX3_startOf 9 = .ok (.getfield 30, 3) := by decide +kernel
theorem dX3_startOf_12 : decode cX3_startOf 12 = .ok (.iload_n 1, 1) := by decide +kernel
theorem dX3_startOf_13 : decode cX3_startOf 13 = .ok (.iaload, 1) := by decide +kernel
theorem dX3_startOf_14 : decode cX3_startOf 14 = .ok (.goto 4, 3) := by decide +kernel
theorem dX3_startOf_17 : decode cX3_startOf 17 = .ok (.iconst (-1), 1) := by decide +kernel
theorem dX3_startOf_18 : decode cX3_startOf 18 = .ok (.ireturn, 1) := by decide +kernel
set_option maxRecDepth 20000 in
theorem ggX3_findBest_X3_search : GoodIn wsX3_findBest wsX3_search := goodIn_r _ [12, 13, 7, 14, 15, 16, 17, 11, 18, 19, 20, 21, 22, 23, 24, 25, 26, 27, 28, 29, 30, 31, 32, 33, 34, 35, 36, 37, 38, 39, 40, 41, 42, 43, 44, 45, 46, 47, 48, 49, 50, 51, 52, 53, 54, 55, 56, 57, 58, 6, 59, 60, 61, 62, 63, 64, 4, 65, 66, 67, 68, 69, 70, 71, 72, 73, 74, 75, 76, 77, 78, 79, 80, 81, 82, 83, 84] (by decide +kernel) (by decide +kernel)
set_option maxRecDepth 20000 in
theorem gX3_findBest_X3_search : GoodIn wsX3_findBest (wsV RX3 60 RX3 yX3_search wsX3_search) := goodIn_app (goodIn_of _ (by decide +kernel)) ggX3_findBest_X3_search
theorem dX3_findBest_0 : decode cX3_findBest 0 = .ok (.aload_n 0, 1) := by decide +kernel
theorem dX3_findBest_1 : decode cX3_findBest 1 = .ok (.getfield 37, 3) := by decide +kernel
theorem dX3_findBest_4 : decode cX3_findBest 4 = .ok (.iload_n 1, 1) := by decide +kernel
theorem dX3_findBest_5 : decode cX3_findBest 5 = .ok (.if_icmp .eq 21, 3) := by decide +kernel
theorem dX3_findBest_8 : decode cX3_findBest 8 = .ok (.aload_n 0, 1) := by decide +kernel
theorem dX3_findBest_9 : decode cX3_findBest 9 = .ok (.iload_n 1, 1) := by decide +kernel
theorem dX3_findBest_10 : decode cX3_findBest 10 = .ok (.putfield 37, 3) := by decide +kernel
theorem dX3_findBest_13 : decode cX3_findBest 13 = .ok (.aload_n 0, 1) := by decide +kernel
theorem dX3_findBest_14 : decode cX3_findBest 14 = .ok (.iload_n 1, 1) := by decide +kernel
theorem dX3_findBest_15 : decode cX3_findBest 15 = .ok (.iconst 3, 1) := by decide +kernel
theorem dX3_findBest_16 : decode cX3_findBest 16 = .ok (.invokestatic 51, 3) := by decide +kernel
theorem dX3_findBest_19 : decode cX3_findBest 19 = .ok (.putfield 57, 3) := by decide +kernel
theorem dX3_findBest_22 : decode cX3_findBest 22 = .ok (.aload_n 0, 1) := by decide +kernel
theorem dX3_findBest_23 : decode cX3_findBest 23 = .ok (.invokevirtual 60, 3) := by decide +kernel
theorem dX3_findBest_26 : decode cX3_findBest 26 = .ok (.aload_n 0, 1) := by decide +kernel
theorem dX3_findBest_27 : decode cX3_findBest 27 = .ok (.getfield 45, 3) := by decide +kernel
theorem dX3_findBest_30 : decode cX3_findBest 30 = .ok (.sipush 701, 3) := by decide +kernel
theorem dX3_findBest_33 : decode cX3_findBest 33 = .ok (.if_icmp .ge 7, 3) := by decide +kernel
theorem dX3_findBest_36 : decode cX3_findBest 36 = .ok (.iconst 1, 1) := by decide +kernel
theorem dX3_findBest_37 : decode cX3_findBest 37 = .ok (.goto 4, 3) := by decide +kernel
theorem dX3_findBest_40 : decode cX3_findBest 40 = .ok (.iconst 0, 1) := by decide +kernel
theorem dX3_findBest_41 : decode cX3_findBest 41 = .ok (.ireturn, 1) := by decide +kernel
set_option maxRecDepth 20000 in
theorem ggX3_search_X3_bits : GoodIn wsX3_search wsX3_bits := goodIn_r _ [8, 9, 10, 11, 7, 12, 13, 14, 15, 16, 66, 67, 68, 69, 70, 71, 72, 73, 74, 75, 76] (by decide +kernel) (by decide +kernel)
set_option maxRecDepth 20000 in
theorem gX3_search_X3_bits : GoodIn wsX3_search (wsV RX3 63 RX3 yX3_bits wsX3_bits) := goodIn_app (goodIn_of _ (by decide +kernel)) ggX3_search_X3_bits
set_option maxRecDepth 20000 in
theorem ggX3_search_J6_bitCount_0f7a4 : GoodIn wsX3_search wsJ6_bitCount_0f7a4 := goodIn_r _ [20, 21, 22, 23] (by decide +kernel) (by decide +kernel)
set_option maxRecDepth 20000 in
theorem gX3_search_J6_bitCount_0f7a4 : GoodIn wsX3_search (va_wsS RX3 67 yJ6_bitCount_0f7a4 wsJ6_bitCount_0f7a4) := goodIn_app (goodIn_of _ (by decide +kernel)) ggX3_search_J6_bitCount_0f7a4
set_option maxRecDepth 20000 in
theorem ggX3_search_J7_fill_53178 : GoodIn wsX3_search wsJ7_fill_53178 := goodIn_r _ [27] (by decide +kernel) (by decide +kernel)
set_option maxRecDepth 20000 in
theorem gX3_search_J7_fill_53178 : GoodIn wsX3_search (va_wsS RX3 73 yJ7_fill_53178 wsJ7_fill_53178) := goodIn_app (goodIn_of _ (by decide +kernel)) ggX3_search_J7_fill_53178
set_option maxRecDepth 20000 in
theorem ggX3_search_X3_canAllBeCured : GoodIn wsX3_search wsX3_canAllBeCured := goodIn_r _ [31, 32, 9, 10, 11, 7, 12, 13, 14, 15, 16, 4, 5, 6, 8, 66, 67, 68, 69, 70, 71, 72, 73, 74, 75, 76] (by decide +kernel) (by decide +kernel)
set_option maxRecDepth 20000 in
theorem gX3_search_X3_canAllBeCured : GoodIn wsX3_search (wsV RX3 79 RX3 yX3_canAllBeCured wsX3_canAllBeCured) := goodIn_app (goodIn_of _ (by decide +kernel)) ggX3_search_X3_canAllBeCured
set_option maxRecDepth 20000 in
theorem ggX3_search_X3_goOn : GoodIn wsX3_search wsX3_goOn := goodIn_r _ [36, 1, 32, 37, 38, 39, 7, 40, 2, 41, 42, 43, 44, 45, 46, 47, 48, 49, 3, 13, 9, 10, 11, 12, 14, 15, 16, 50, 51, 52, 53, 54, 55, 56, 57, 58, 59, 60, 61, 62, 63, 64, 65, 33, 34, 35, 66, 67, 68, 69, 70, 71, 72, 73, 74, 75, 76] (by decide +kernel) (by decide +kernel)
set_option maxRecDepth 20000 in
theorem gX3_search_X3_goOn : GoodIn wsX3_search (wsV RX3 83 RX3 yX3_goOn wsX3_goOn) := goodIn_app (goodIn_of _ (by decide +kernel)) ggX3_search_X3_goOn
theorem dX3_search_0 : decode cX3_search 0 = .ok (.aload_n 0, 1) := by decide +kernel
theorem dX3_search_1 : decode cX3_search 1 = .ok (.aload_n 0, 1) := by decide +kernel
theorem dX3_search_2 : decode cX3_search 2 = .ok (.invokevirtual 63, 3) := by decide +kernel
theorem dX3_search_5 : decode cX3_search 5 = .ok (.invokestatic 67, 3) := by decide +kernel
theorem dX3_search_8 : decode cX3_search 8 = .ok (.putfield 48, 3) := by decide +kernel
theorem dX3_search_11 : decode cX3_search 11 = .ok (.aload_n 0, 1) := by decide +kernel
theorem dX3_search_12 : decode cX3_search 12 = .ok (.sipush 701, 3) := by decide +kernel
theorem dX3_search_15 : decode cX3_search 15 = .ok (.putfield 45, 3) := by decide +kernel
theorem dX3_search_18 : decode cX3_search 18 = .ok (.aload_n 0, 1) := by decide +kernel
theorem dX3_search_19 : decode cX3_search 19 = .ok (.getfield 18, 3) := by decide +kernel
theorem dX3_search_22 : decode cX3_search 22 = .ok (.iconst 0, 1) := by decide +kernel
theorem dX3_search_23 : decode cX3_search 23 = .ok (.invokestatic 73, 3) := by decide +kernel
theorem dX3_search_26 : decode cX3_search 26 = .ok (.aload_n 0, 1) := by decide +kernel
theorem dX3_search_27 : decode cX3_search 27 = .ok (.invokevirtual 79, 3) := by decide +kernel
theorem dX3_search_30 : decode cX3_search 30 = .ok (.ifCond .eq 11, 3) := by decide +kernel
theorem dX3_search_33 : decode cX3_search 33 = .ok (.aload_n 0, 1) := by decide +kernel
theorem dX3_search_34 : decode cX3_search 34 = .ok (.iconst 0, 1) := by decide +kernel
theorem dX3_search_35 : decode cX3_search 35 = .ok (.iconst 0, 1) := by decide +kernel
theorem dX3_search_36 : decode cX3_search 36 = .ok (.iconst 0, 1) := by decide +kernel
theorem dX3_search_37 : decode cX3_search 37 = .ok (.iconst 0, 1) := by decide +kernel
theorem dX3_search_38 : decode cX3_search 38 = .ok (.invokevirtual 83, 3) := by decide +kernel
theorem dX3_search_41 : decode cX3_search 41 = .ok (.return_, 1) := by decide +kernel
set_option maxRecDepth 20000 in
theorem ggX3_canAllBeCured_X3_isThere : GoodIn wsX3_canAllBeCured wsX3_isThere := goodIn_r _ [6, 7, 8, 9, 10, 15, 16, 17, 18, 19, 20, 21, 22, 23, 24, 25] (by decide +kernel) (by decide +kernel)
set_option maxRecDepth 20000 in
theorem gX3_canAllBeCured_X3_isThere : GoodIn wsX3_canAllBeCured (wsV RX3 41 RX3 yX3_isThere wsX3_isThere) := goodIn_app (goodIn_of _ (by decide +kernel)) ggX3_canAllBeCured_X3_isThere
set_option maxRecDepth 20000 in
theorem ggX3_canAllBeCured_X3_bits : GoodIn wsX3_canAllBeCured wsX3_bits := goodIn_r _ [14, 2, 3, 4, 5, 6, 7, 8, 9, 10, 15, 16, 17, 18, 19, 20, 21, 22, 23, 24, 25] (by decide +kernel) (by decide +kernel)
set_option maxRecDepth 20000 in
theorem gX3_canAllBeCured_X3_bits : GoodIn wsX3_canAllBeCured (wsV RX3 63 RX3 yX3_bits wsX3_bits) := goodIn_app (goodIn_of _ (by decide +kernel)) ggX3_canAllBeCured_X3_bits
theorem dX3_canAllBeCured_0 : decode cX3_canAllBeCured 0 = .ok (.iconst 0, 1) := by decide +kernel
theorem dX3_canAllBeCured_1 : decode cX3_canAllBeCured 1 = .ok (.istore_n 1, 1) := by decide +kernel
theorem dX3_canAllBeCured_2 : decode cX3_canAllBeCured 2 = .ok (.iconst 0, 1) := by decide +kernel
theorem dX3_canAllBeCured_3 : decode cX3_canAllBeCured 3 = .ok (.istore_n 2, 1) := by decide +kernel
theorem dX3_canAllBeCured_4 : decode cX3_canAllBeCured 4 = .ok (.iload_n 2, 1) := by decide +kernel
theorem dX3_canAllBeCured_5 : decode cX3_canAllBeCured 5 = .ok (.bipush 7, 2) := by decide +kernel
theorem dX3_canAllBeCured_7 : decode cX3_canAllBeCured 7 = .ok (.if_icmp .ge 50, 3) := by decide +kernel
theorem dX3_canAllBeCured_10 : decode cX3_canAllBeCured 10 = .ok (.iconst 0, 1) := by decide +kernel
theorem dX3_canAllBeCured_11 : decode cX3_canAllBeCured 11 = .ok (.istore_n 3, 1) := by decide +kernel
theorem dX3_canAllBeCured_12 : decode cX3_canAllBeCured 12 = .ok (.iload_n 3, 1) := by decide +kernel
theorem dX3_canAllBeCured_13 : decode cX3_canAllBeCured 13 = .ok (.bipush 7, 2) := by decide +kernel
theorem dX3_canAllBeCured_15 : decode cX3_canAllBeCured 15 = .ok (.if_icmp .ge 36, 3) := by decide +kernel
theorem dX3_canAllBeCured_18 : decode cX3_canAllBeCured 18 = .ok (.aload_n 0, 1) := by decide +kernel
theorem dX3_canAllBeCured_19 : decode cX3_canAllBeCured 19 = .ok (.iload_n 3, 1) := by decide +kernel
theorem dX3_canAllBeCured_20 : decode cX3_canAllBeCured 20 = .ok (.invokevirtual 41, 3) := by decide +kernel
theorem dX3_canAllBeCured_23 : decode cX3_canAllBeCured 23 = .ok (.ifCond .eq 22, 3) := by decide +kernel
theorem dX3_canAllBeCured_26 : decode cX3_canAllBeCured 26 = .ok (.aload_n 0, 1) := by decide +kernel
theorem dX3_canAllBeCured_27 : decode cX3_canAllBeCured 27 = .ok (.getfield 15, 3) := by decide +kernel
theorem dX3_canAllBeCured_30 : decode cX3_canAllBeCured 30 = .ok (.iload_n 3, 1) := by decide +kernel
theorem dX3_canAllBeCured_31 : decode cX3_canAllBeCured 31 = .ok (.iaload, 1) := by decide +kernel
theorem dX3_canAllBeCured_32 : decode cX3_canAllBeCured 32 = .ok (.iload_n 1, 1) := by decide +kernel
theorem dX3_canAllBeCured_33 : decode cX3_canAllBeCured 33 = .ok (.iconst (-1), 1) := by decide +kernel
theorem dX3_canAllBeCured_34 : decode cX3_canAllBeCured 34 = .ok (.ixor, 1) := by decide +kernel
theorem dX3_canAllBeCured_35 : decode cX3_canAllBeCured 35 = .ok (.iand, 1) := by decide +kernel
theorem dX3_canAllBeCured_36 : decode cX3_canAllBeCured 36 = .ok (.ifCond .ne 9, 3) := by decide +kernel
theorem dX3_canAllBeCured_39 : decode cX3_canAllBeCured 39 = .ok (.iload_n 1, 1) := by decide +kernel
theorem dX3_canAllBeCured_40 : decode cX3_canAllBeCured 40 = .ok (.iconst 1, 1) := by decide +kernel
theorem dX3_canAllBeCured_41 : decode cX3_canAllBeCured 41 = .ok (.iload_n 3, 1) := by decide +kernel
theorem dX3_canAllBeCured_42 : decode cX3_canAllBeCured 42 = .ok (.ishl, 1) := by decide +kernel
theorem dX3_canAllBeCured_43 : decode cX3_canAllBeCured 43 = .ok (.ior, 1) := by decide +kernel
theorem dX3_canAllBeCured_44 : decode cX3_canAllBeCured 44 = .ok (.istore_n 1, 1) := by decide +kernel
theorem dX3_canAllBeCured_45 : decode cX3_canAllBeCured 45 = .ok (.iinc 3 1, 3) := by decide +kernel
theorem dX3_canAllBeCured_48 : decode cX3_canAllBeCured 48 = .ok (.goto (-36), 3) := by decide +kernel
theorem dX3_canAllBeCured_51 : decode cX3_canAllBeCured 51 = .ok (.iinc 2 1, 3) := by decide +kernel
theorem dX3_canAllBeCured_54 : decode cX3_canAllBeCured 54 = .ok (.goto (-50), 3) := by decide +kernel
theorem dX3_canAllBeCured_57 : decode cX3_canAllBeCured 57 = .ok (.iload_n 1, 1) := by decide +kernel
theorem dX3_canAllBeCured_58 : decode cX3_canAllBeCured 58 = .ok (.aload_n 0, 1) := by decide +kernel
theorem dX3_canAllBeCured_59 : decode cX3_canAllBeCured 59 = .ok (.invokevirtual 63, 3) := by decide +kernel
theorem dX3_canAllBeCured_62 : decode cX3_canAllBeCured 62 = .ok (.if_icmp .ne 7, 3) := by decide +kernel
theorem dX3_canAllBeCured_65 : decode cX3_canAllBeCured 65 = .ok (.iconst 1, 1) := by decide +kernel
theorem dX3_canAllBeCured_66 : decode cX3_canAllBeCured 66 = .ok (.goto 4, 3) := by decide +kernel
theorem dX3_canAllBeCured_69 : decode cX3_canAllBeCured 69 = .ok (.iconst 0, 1) := by decide +kernel
theorem dX3_canAllBeCured_70 : decode cX3_canAllBeCured 70 = .ok (.ireturn, 1) := by decide +kernel
set_option maxRecDepth 20000 in
theorem ggX3_goOn_X3_keep : GoodIn wsX3_goOn wsX3_keep := goodIn_r _ [7, 8, 9, 10, 11, 12, 46, 47, 48, 49, 50, 51, 52, 53, 54, 55, 56] (by decide +kernel) (by decide +kernel)
set_option maxRecDepth 20000 in
theorem gX3_goOn_X3_keep : GoodIn wsX3_goOn (wsV RX3 87 RX3 yX3_keep wsX3_keep) := goodIn_app (goodIn_of _ (by decide +kernel)) ggX3_goOn_X3_keep
set_option maxRecDepth 20000 in
theorem ggX3_goOn_X3_cannotEndSooner : GoodIn wsX3_goOn wsX3_cannotEndSooner := goodIn_r _ [16, 17, 18, 19, 8, 46, 47, 48, 49, 50, 51, 52, 53, 54, 55, 56] (by decide +kernel) (by decide +kernel)
set_option maxRecDepth 20000 in
theorem gX3_goOn_X3_cannotEndSooner : GoodIn wsX3_goOn (wsV RX3 91 RX3 yX3_cannotEndSooner wsX3_cannotEndSooner) := goodIn_app (goodIn_of _ (by decide +kernel)) ggX3_goOn_X3_cannotEndSooner
set_option maxRecDepth 20000 in
theorem ggX3_goOn_X3_isThere : GoodIn wsX3_goOn wsX3_isThere := goodIn_r _ [23, 19, 24, 25, 26, 46, 47, 48, 49, 50, 51, 52, 53, 54, 55, 56] (by decide +kernel) (by decide +kernel)
set_option maxRecDepth 20000 in
theorem gX3_goOn_X3_isThere : GoodIn wsX3_goOn (wsV RX3 41 RX3 yX3_isThere wsX3_isThere) := goodIn_app (goodIn_of _ (by decide +kernel)) ggX3_goOn_X3_isThere
set_option maxRecDepth 20000 in
theorem ggX3_goOn_X3_place : GoodIn wsX3_goOn wsX3_place := goodIn_r _ [30, 18, 31, 32, 33, 34, 19, 8, 10, 12, 35, 36, 37, 6, 38, 17, 39, 40, 41, 42, 2, 43, 44, 45, 0, 1, 3, 4, 5, 7, 9, 11, 13, 14, 15, 16, 20, 21, 22, 23, 24, 25, 26, 27, 28, 29, 46, 47, 48, 49, 50, 51, 52, 53, 54, 55, 56] (by decide +kernel) (by decide +kernel)
set_option maxRecDepth 20000 in
theorem gX3_goOn_X3_place : GoodIn wsX3_goOn (wsV RX3 94 RX3 yX3_place wsX3_place) := goodIn_app (goodIn_of _ (by decide +kernel)) ggX3_goOn_X3_place
theorem dX3_goOn_0 : decode cX3_goOn 0 = .ok (.iload_n 1, 1) := by decide +kernel
theorem dX3_goOn_1 : decode cX3_goOn 1 = .ok (.aload_n 0, 1) := by decide +kernel
theorem dX3_goOn_2 : decode cX3_goOn 2 = .ok (.getfield 48, 3) := by decide +kernel
theorem dX3_goOn_5 : decode cX3_goOn 5 = .ok (.if_icmp .ge 9, 3) := by decide +kernel
theorem dX3_goOn_8 : decode cX3_goOn 8 = .ok (.iload_n 1, 1) := by decide +kernel
theorem dX3_goOn_9 : decode cX3_goOn 9 = .ok (.bipush 7, 2) := by decide +kernel
theorem dX3_goOn_11 : decode cX3_goOn 11 = .ok (.if_icmp .lt 10, 3) := by decide +kernel
theorem dX3_goOn_14 : decode cX3_goOn 14 = .ok (.aload_n 0, 1) := by decide +kernel
theorem dX3_goOn_15 : decode cX3_goOn 15 = .ok (.iload 4, 2) := by decide +kernel
theorem dX3_goOn_17 : decode cX3_goOn 17 = .ok (.invokevirtual 87, 3) := by decide +kernel
theorem dX3_goOn_20 : decode cX3_goOn 20 = .ok (.return_, 1) := by decide +kernel
theorem dX3_goOn_21 : decode cX3_goOn 21 = .ok (.aload_n 0, 1) := by decide +kernel
theorem dX3_goOn_22 : decode cX3_goOn 22 = .ok (.iload_n 2, 1) := by decide +kernel
theorem dX3_goOn_23 : decode cX3_goOn 23 = .ok (.invokevirtual 91, 3) := by decide +kernel
theorem dX3_goOn_26 : decode cX3_goOn 26 = .ok (.ifCond .eq 4, 3) := by decide +kernel
theorem dX3_goOn_29 : decode cX3_goOn 29 = .ok (.return_, 1) := by decide +kernel
theorem dX3_goOn_30 : decode cX3_goOn 30 = .ok (.iconst 0, 1) := by decide +kernel
theorem dX3_goOn_31 : decode cX3_goOn 31 = .ok (.istore 5, 2) := by decide +kernel
theorem dX3_goOn_33 : decode cX3_goOn 33 = .ok (.iload 5, 2) := by decide +kernel
theorem dX3_goOn_35 : decode cX3_goOn 35 = .ok (.bipush 7, 2) := by decide +kernel
theorem dX3_goOn_37 : decode cX3_goOn 37 = .ok (.if_icmp .ge 64, 3) := by decide +kernel
theorem dX3_goOn_40 : decode cX3_goOn 40 = .ok (.aload_n 0, 1) := by decide +kernel
theorem dX3_goOn_41 : decode cX3_goOn 41 = .ok (.iload 5, 2) := by decide +kernel
theorem dX3_goOn_43 : decode cX3_goOn 43 = .ok (.invokevirtual 41, 3) := by decide +kernel
theorem dX3_goOn_46 : decode cX3_goOn 46 = .ok (.ifCond .eq 16, 3) := by decide +kernel
theorem dX3_goOn_49 : decode cX3_goOn 49 = .ok (.iload_n 2, 1) := by decide +kernel
theorem dX3_goOn_50 : decode cX3_goOn 50 = .ok (.iconst 1, 1) := by decide +kernel
theorem dX3_goOn_51 : decode cX3_goOn 51 = .ok (.iload 5, 2) := by decide +kernel
theorem dX3_goOn_53 : decode cX3_goOn 53 = .ok (.ishl, 1) := by decide +kernel
theorem dX3_goOn_54 : decode cX3_goOn 54 = .ok (.iand, 1) := by decide +kernel
theorem dX3_goOn_55 : decode cX3_goOn 55 = .ok (.ifCond .ne 7, 3) := by decide +kernel
theorem dX3_goOn_58 : decode cX3_goOn 58 = .ok (.iconst 1, 1) := by decide +kernel
theorem dX3_goOn_59 : decode cX3_goOn 59 = .ok (.goto 4, 3) := by decide +kernel
theorem dX3_goOn_62 : decode cX3_goOn 62 = .ok (.iconst 0, 1) := by decide +kernel
theorem dX3_goOn_63 : decode cX3_goOn 63 = .ok (.istore 6, 2) := by decide +kernel
theorem dX3_goOn_65 : decode cX3_goOn 65 = .ok (.iload 6, 2) := by decide +kernel
theorem dX3_goOn_67 : decode cX3_goOn 67 = .ok (.ifCond .eq 28, 3) := by decide +kernel
theorem dX3_goOn_70 : decode cX3_goOn 70 = .ok (.aload_n 0, 1) := by decide +kernel
theorem dX3_goOn_71 : decode cX3_goOn 71 = .ok (.getfield 15, 3) := by decide +kernel
theorem dX3_goOn_74 : decode cX3_goOn 74 = .ok (.iload 5, 2) := by decide +kernel
theorem dX3_goOn_76 : decode cX3_goOn 76 = .ok (.iaload, 1) := by decide +kernel
theorem dX3_goOn_77 : decode cX3_goOn 77 = .ok (.iload_n 2, 1) := by decide +kernel
theorem dX3_goOn_78 : decode cX3_goOn 78 = .ok (.iconst (-1), 1) := by decide +kernel
theorem dX3_goOn_79 : decode cX3_goOn 79 = .ok (.ixor, 1) := by decide +kernel
theorem dX3_goOn_80 : decode cX3_goOn 80 = .ok (.iand, 1) := by decide +kernel
theorem dX3_goOn_81 : decode cX3_goOn 81 = .ok (.ifCond .ne 14, 3) := by decide +kernel
theorem dX3_goOn_84 : decode cX3_goOn 84 = .ok (.aload_n 0, 1) := by decide +kernel
theorem dX3_goOn_85 : decode cX3_goOn 85 = .ok (.iload 5, 2) := by decide +kernel
theorem dX3_goOn_87 : decode cX3_goOn 87 = .ok (.iload_n 1, 1) := by decide +kernel
theorem dX3_goOn_88 : decode cX3_goOn 88 = .ok (.iload_n 2, 1) := by decide +kernel
theorem dX3_goOn_89 : decode cX3_goOn 89 = .ok (.iload_n 3, 1) := by decide +kernel
theorem dX3_goOn_90 : decode cX3_goOn 90 = .ok (.iload 4, 2) := by decide +kernel
theorem dX3_goOn_92 : decode cX3_goOn 92 = .ok (.invokevirtual 94, 3) := by decide +kernel
theorem dX3_goOn_95 : decode cX3_goOn 95 = .ok (.iinc 5 1, 3) := by decide +kernel
theorem dX3_goOn_98 : decode cX3_goOn 98 = .ok (.goto (-65), 3) := by decide +kernel
theorem dX3_goOn_101 : decode cX3_goOn 101 = .ok (.return_, 1) := by decide +kernel
set_option maxRecDepth 20000 in
theorem ggX3_place_X3_firstFreeClamp : GoodIn wsX3_place wsX3_firstFreeClamp := goodIn_r _ [14, 15, 1, 46, 47, 48, 49, 50, 51, 52, 53, 54, 55, 56] (by decide +kernel) (by decide +kernel)
set_option maxRecDepth 20000 in
theorem gX3_place_X3_firstFreeClamp : GoodIn wsX3_place (wsV RX3 98 RX3 yX3_firstFreeClamp wsX3_firstFreeClamp) := goodIn_app (goodIn_of _ (by decide +kernel)) ggX3_place_X3_firstFreeClamp
set_option maxRecDepth 20000 in
theorem ggX3_place_X3_needsCuredAt : GoodIn wsX3_place wsX3_needsCuredAt := goodIn_r _ [19, 20, 9, 6, 2, 3, 4, 5, 46, 47, 48, 49, 50, 51, 52, 53, 54, 55, 56] (by decide +kernel) (by decide +kernel)
set_option maxRecDepth 20000 in
theorem gX3_place_X3_needsCuredAt : GoodIn wsX3_place (wsV RX3 104 RX3 yX3_needsCuredAt wsX3_needsCuredAt) := goodIn_app (goodIn_of _ (by decide +kernel)) ggX3_place_X3_needsCuredAt
set_option maxRecDepth 20000 in
theorem ggX3_place_X3_goOn : GoodIn wsX3_place wsX3_goOn := goodIn_r _ [24, 25, 20, 26, 27, 28, 13, 29, 7, 30, 8, 31, 9, 32, 33, 34, 35, 15, 1, 6, 36, 37, 38, 39, 40, 41, 42, 43, 44, 45, 0, 2, 3, 4, 5, 10, 11, 12, 14, 16, 17, 18, 19, 21, 22, 23, 46, 47, 48, 49, 50, 51, 52, 53, 54, 55, 56] (by decide +kernel) (by decide +kernel)
set_option maxRecDepth 20000 in
theorem gX3_place_X3_goOn : GoodIn wsX3_place (wsV RX3 83 RX3 yX3_goOn wsX3_goOn) := goodIn_app (goodIn_of _ (by decide +kernel)) ggX3_place_X3_goOn
theorem dX3_place_0 : decode cX3_place 0 = .ok (.aload_n 0, 1) := by decide +kernel
theorem dX3_place_1 : decode cX3_place 1 = .ok (.invokevirtual 98, 3) := by decide +kernel
theorem dX3_place_4 : decode cX3_place 4 = .ok (.istore 6, 2) := by decide +kernel
theorem dX3_place_6 : decode cX3_place 6 = .ok (.aload_n 0, 1) := by decide +kernel
theorem dX3_place_7 : decode cX3_place 7 = .ok (.getfield 18, 3) := by decide +kernel
theorem dX3_place_10 : decode cX3_place 10 = .ok (.iload 6, 2) := by decide +kernel
theorem dX3_place_12 : decode cX3_place 12 = .ok (.iaload, 1) := by decide +kernel
theorem dX3_place_13 : decode cX3_place 13 = .ok (.istore 7, 2) := by decide +kernel
theorem dX3_place_15 : decode cX3_place 15 = .ok (.iload 4, 2) := by decide +kernel
theorem dX3_place_17 : decode cX3_place 17 = .ok (.iload 7, 2) := by decide +kernel
theorem dX3_place_19 : decode cX3_place 19 = .ok (.invokestatic 101, 3) := by decide +kernel
theorem dX3_place_22 : decode cX3_place 22 = .ok (.aload_n 0, 1) := by decide +kernel
theorem dX3_place_23 : decode cX3_place 23 = .ok (.iload_n 1, 1) := by decide +kernel
theorem dX3_place_24 : decode cX3_place 24 = .ok (.invokevirtual 104, 3) := by decide +kernel
theorem dX3_place_27 : decode cX3_place 27 = .ok (.invokestatic 101, 3) := by decide +kernel
theorem dX3_place_30 : decode cX3_place 30 = .ok (.istore 8, 2) := by decide +kernel
theorem dX3_place_32 : decode cX3_place 32 = .ok (.iload 8, 2) := by decide +kernel
theorem dX3_place_34 : decode cX3_place 34 = .ok (.aload_n 0, 1) := by decide +kernel
theorem dX3_place_35 : decode cX3_place 35 = .ok (.getfield 11, 3) := by decide +kernel
theorem dX3_place_38 : decode cX3_place 38 = .ok (.iload_n 1, 1) := by decide +kernel
theorem dX3_place_39 : decode cX3_place 39 = .ok (.iaload, 1) := by decide +kernel
theorem dX3_place_40 : decode cX3_place 40 = .ok (.iadd, 1) := by decide +kernel
theorem dX3_place_41 : decode cX3_place 41 = .ok (.istore 9, 2) := by decide +kernel
theorem dX3_place_43 : decode cX3_place 43 = .ok (.iload 5, 2) := by decide +kernel
theorem dX3_place_45 : decode cX3_place 45 = .ok (.iload 9, 2) := by decide +kernel
theorem dX3_place_47 : decode cX3_place 47 = .ok (.invokestatic 101, 3) := by decide +kernel
theorem dX3_place_50 : decode cX3_place 50 = .ok (.istore 10, 2) := by decide +kernel
theorem dX3_place_52 : decode cX3_place 52 = .ok (.iload 10, 2) := by decide +kernel
theorem dX3_place_54 : decode cX3_place 54 = .ok (.aload_n 0, 1) := by decide +kernel
theorem dX3_place_55 : decode cX3_place 55 = .ok (.getfield 45, 3) := by decide +kernel
theorem dX3_place_58 : decode cX3_place 58 = .ok (.if_icmp .ge 9, 3) := by decide +kernel
theorem dX3_place_61 : decode cX3_place 61 = .ok (.iload_n 2, 1) := by decide +kernel
theorem dX3_place_62 : decode cX3_place 62 = .ok (.bipush 7, 2) := by decide +kernel
theorem dX3_place_64 : decode cX3_place 64 = .ok (.if_icmp .lt 4, 3) := by decide +kernel
theorem dX3_place_67 : decode cX3_place 67 = .ok (.return_, 1) := by decide +kernel
theorem dX3_place_68 : decode cX3_place 68 = .ok (.aload_n 0, 1) := by decide +kernel
theorem dX3_place_69 : decode cX3_place 69 = .ok (.getfield 21, 3) := by decide +kernel
theorem dX3_place_72 : decode cX3_place 72 = .ok (.iload_n 2, 1) := by decide +kernel
theorem dX3_place_73 : decode cX3_place 73 = .ok (.iload_n 1, 1) := by decide +kernel
theorem dX3_place_74 : decode cX3_place 74 = .ok (.iastore, 1) := by decide +kernel
theorem dX3_place_75 : decode cX3_place 75 = .ok (.aload_n 0, 1) := by decide +kernel
theorem dX3_place_76 : decode cX3_place 76 = .ok (.getfield 24, 3) := by decide +kernel
theorem dX3_place_79 : decode cX3_place 79 = .ok (.iload_n 1, 1) := by decide +kernel
theorem dX3_place_80 : decode cX3_place 80 = .ok (.iload 8, 2) := by decide +kernel
theorem dX3_place_82 : decode cX3_place 82 = .ok (.iastore, 1) := by decide +kernel
theorem dX3_place_83 : decode cX3_place 83 = .ok (.aload_n 0, 1) := by decide +kernel
theorem dX3_place_84 : decode cX3_place 84 = .ok (.getfield 18, 3) := by decide +kernel
theorem dX3_place_87 : decode cX3_place 87 = .ok (.iload 6, 2) := by decide +kernel
theorem dX3_place_89 : decode cX3_place 89 = .ok (.iload 9, 2) := by decide +kernel
theorem dX3_place_91 : decode cX3_place 91 = .ok (.iastore, 1) := by decide +kernel
theorem dX3_place_92 : decode cX3_place 92 = .ok (.aload_n 0, 1) := by decide +kernel
theorem dX3_place_93 : decode cX3_place 93 = .ok (.iload_n 2, 1) := by decide +kernel
theorem dX3_place_94 : decode cX3_place 94 = .ok (.iconst 1, 1) := by decide +kernel
theorem dX3_place_95 : decode cX3_place 95 = .ok (.iadd, 1) := by decide +kernel
theorem dX3_place_96 : decode cX3_place 96 = .ok (.iload_n 3, 1) := by decide +kernel
theorem dX3_place_97 : decode cX3_place 97 = .ok (.iconst 1, 1) := by decide +kernel
theorem dX3_place_98 : decode cX3_place 98 = .ok (.iload_n 1, 1) := by decide +kernel
theorem dX3_place_99 : decode cX3_place 99 = .ok (.ishl, 1) := by decide +kernel
theorem dX3_place_100 : decode cX3_place 100 = .ok (.ior, 1) := by decide +kernel
theorem dX3_place_101 : decode cX3_place 101 = .ok (.iload 8, 2) := by decide +kernel
theorem dX3_place_103 : decode cX3_place 103 = .ok (.iload 10, 2) := by decide +kernel
theorem dX3_place_105 : decode cX3_place 105 = .ok (.invokevirtual 83, 3) := by decide +kernel
theorem dX3_place_108 : decode cX3_place 108 = .ok (.aload_n 0, 1) := by decide +kernel
theorem dX3_place_109 : decode cX3_place 109 = .ok (.getfield 18, 3) := by decide +kernel
theorem dX3_place_112 : decode cX3_place 112 = .ok (.iload 6, 2) := by decide +kernel
theorem dX3_place_114 : decode cX3_place 114 = .ok (.iload 7, 2) := by decide +kernel
theorem dX3_place_116 : decode cX3_place 116 = .ok (.iastore, 1) := by decide +kernel
theorem dX3_place_117 : decode cX3_place 117 = .ok (.return_, 1) := by decide +kernel
theorem dX3_cannotEndSooner_0 : decode cX3_cannotEndSooner 0 = .ok (.iconst 0, 1) := by decide +kernel
theorem dX3_cannotEndSooner_1 : decode cX3_cannotEndSooner 1 = .ok (.istore_n 2, 1) := by decide +kernel
theorem dX3_cannotEndSooner_2 : decode cX3_cannotEndSooner 2 = .ok (.iconst 0, 1) := by decide +kernel
theorem dX3_cannotEndSooner_3 : decode cX3_cannotEndSooner 3 = .ok (.istore_n 3, 1) := by decide +kernel
theorem dX3_cannotEndSooner_4 : decode cX3_cannotEndSooner 4 = .ok (.iload_n 3, 1) := by decide +kernel
theorem dX3_cannotEndSooner_5 : decode cX3_cannotEndSooner 5 = .ok (.aload_n 0, 1) := by decide +kernel
theorem dX3_cannotEndSooner_6 : decode cX3_cannotEndSooner 6 = .ok (.getfield 57, 3) := by decide +kernel
theorem dX3_cannotEndSooner_9 : decode cX3_cannotEndSooner 9 = .ok (.if_icmp .ge 18, 3) := by decide +kernel
theorem dX3_cannotEndSooner_12 : decode cX3_cannotEndSooner 12 = .ok (.iload_n 2, 1) := by decide +kernel
theorem dX3_cannotEndSooner_13 : decode cX3_cannotEndSooner 13 = .ok (.aload_n 0, 1) := by decide +kernel
theorem dX3_cannotEndSooner_14 : decode cX3_cannotEndSooner 14 = .ok (.getfield 18, 3) := by decide +kernel
theorem dX3_cannotEndSooner_17 : decode cX3_cannotEndSooner 17 = .ok (.iload_n 3, 1) := by decide +kernel
theorem dX3_cannotEndSooner_18 : decode cX3_cannotEndSooner 18 = .ok (.iaload, 1) := by decide +kernel
theorem dX3_cannotEndSooner_19 : decode cX3_cannotEndSooner 19 = .ok (.iadd, 1) := by decide +kernel
theorem dX3_cannotEndSooner_20 : decode cX3_cannotEndSooner 20 = .ok (.istore_n 2, 1) := by decide +kernel
theorem dX3_cannotEndSooner_21 : decode cX3_cannotEndSooner 21 = .ok (.iinc 3 1, 3) := by decide +kernel
theorem dX3_cannotEndSooner_24 : decode cX3_cannotEndSooner 24 = .ok (.goto (-20), 3) := by decide +kernel
theorem dX3_cannotEndSooner_27 : decode cX3_cannotEndSooner 27 = .ok (.iconst 0, 1) := by decide +kernel
theorem dX3_cannotEndSooner_28 : decode cX3_cannotEndSooner 28 = .ok (.istore_n 3, 1) := by decide +kernel
theorem dX3_cannotEndSooner_29 : decode cX3_cannotEndSooner 29 = .ok (.iload_n 3, 1) := by decide +kernel
theorem dX3_cannotEndSooner_30 : decode cX3_cannotEndSooner 30 = .ok (.bipush 7, 2) := by decide +kernel
theorem dX3_cannotEndSooner_32 : decode cX3_cannotEndSooner 32 = .ok (.if_icmp .ge 26, 3) := by decide +kernel
theorem dX3_cannotEndSooner_35 : decode cX3_cannotEndSooner 35 = .ok (.iload_n 1, 1) := by decide +kernel
theorem dX3_cannotEndSooner_36 : decode cX3_cannotEndSooner 36 = .ok (.iconst 1, 1) := by decide +kernel
theorem dX3_cannotEndSooner_37 : decode cX3_cannotEndSooner 37 = .ok (.iload_n 3, 1) := by decide +kernel
theorem dX3_cannotEndSooner_38 : decode cX3_cannotEndSooner 38 = .ok (.ishl, 1) := by decide +kernel
theorem dX3_cannotEndSooner_39 : decode cX3_cannotEndSooner 39 = .ok (.iand, 1) := by decide +kernel
theorem dX3_cannotEndSooner_40 : decode cX3_cannotEndSooner 40 = .ok (.ifCond .ne 12, 3) := by decide +kernel
theorem dX3_cannotEndSooner_43 : decode cX3_cannotEndSooner 43 = .ok (.iload_n 2, 1) := by decide +kernel
theorem dX3_cannotEndSooner_44 : decode cX3_cannotEndSooner 44 = .ok (.aload_n 0, 1) := by decide +kernel
theorem dX3_cannotEndSooner_45 : decode cX3_cannotEndSooner 45 = .ok (.getfield 11, 3) := by decide +kernel
theorem dX3_cannotEndSooner_48 : decode cX3_cannotEndSooner 48 = .ok (.iload_n 3, 1) := by decide +kernel
theorem dX3_cannotEndSooner_49 : decode cX3_cannotEndSooner 49 = .ok (.iaload, 1) := by decide +kernel
theorem dX3_cannotEndSooner_50 : decode cX3_cannotEndSooner 50 = .ok (.iadd, 1) := by decide +kernel
theorem dX3_cannotEndSooner_51 : decode cX3_cannotEndSooner 51 = .ok (.istore_n 2, 1) := by decide +kernel
theorem dX3_cannotEndSooner_52 : decode cX3_cannotEndSooner 52 = .ok (.iinc 3 1, 3) := by decide +kernel
theorem dX3_cannotEndSooner_55 : decode cX3_cannotEndSooner 55 = .ok (.goto (-26), 3) := by decide +kernel
theorem dX3_cannotEndSooner_58 : decode cX3_cannotEndSooner 58 = .ok (.iload_n 2, 1) := by decide +kernel
theorem dX3_cannotEndSooner_59 : decode cX3_cannotEndSooner 59 = .ok (.aload_n 0, 1) := by decide +kernel
theorem dX3_cannotEndSooner_60 : decode cX3_cannotEndSooner 60 = .ok (.getfield 57, 3) := by decide +kernel
theorem dX3_cannotEndSooner_63 : decode cX3_cannotEndSooner 63 = .ok (.aload_n 0, 1) := by decide +kernel
theorem dX3_cannotEndSooner_64 : decode cX3_cannotEndSooner 64 = .ok (.getfield 45, 3) := by decide +kernel
theorem dX3_cannotEndSooner_67 : decode cX3_cannotEndSooner 67 = .ok (.iconst 1, 1) := by decide +kernel
theorem dX3_cannotEndSooner_68 : decode cX3_cannotEndSooner 68 = .ok (.isub, 1) := by decide +kernel
theorem dX3_cannotEndSooner_69 : decode cX3_cannotEndSooner 69 = .ok (.imul, 1) := by decide +kernel
theorem dX3_cannotEndSooner_70 : decode cX3_cannotEndSooner 70 = .ok (.if_icmp .le 7, 3) := by decide +kernel
theorem dX3_cannotEndSooner_73 : decode cX3_cannotEndSooner 73 = .ok (.iconst 1, 1) := by decide +kernel
theorem dX3_cannotEndSooner_74 : decode cX3_cannotEndSooner 74 = .ok (.goto 4, 3) := by decide +kernel
theorem dX3_cannotEndSooner_77 : decode cX3_cannotEndSooner 77 = .ok (.iconst 0, 1) := by decide +kernel
theorem dX3_cannotEndSooner_78 : decode cX3_cannotEndSooner 78 = .ok (.ireturn, 1) := by decide +kernel
theorem dX3_firstFreeClamp_0 : decode cX3_firstFreeClamp 0 = .ok (.iconst 0, 1) := by decide +kernel
theorem dX3_firstFreeClamp_1 : decode cX3_firstFreeClamp 1 = .ok (.istore_n 1, 1) := by decide +kernel
theorem dX3_firstFreeClamp_2 : decode cX3_firstFreeClamp 2 = .ok (.iconst 1, 1) := by decide +kernel
theorem dX3_firstFreeClamp_3 : decode cX3_firstFreeClamp 3 = .ok (.istore_n 2, 1) := by decide +kernel
theorem dX3_firstFreeClamp_4 : decode cX3_firstFreeClamp 4 = .ok (.iload_n 2, 1) := by decide +kernel
theorem dX3_firstFreeClamp_5 : decode cX3_firstFreeClamp 5 = .ok (.aload_n 0, 1) := by decide +kernel
theorem dX3_firstFreeClamp_6 : decode cX3_firstFreeClamp 6 = .ok (.getfield 57, 3) := by decide +kernel
theorem dX3_firstFreeClamp_9 : decode cX3_firstFreeClamp 9 = .ok (.if_icmp .ge 26, 3) := by decide +kernel
theorem dX3_firstFreeClamp_12 : decode cX3_firstFreeClamp 12 = .ok (.aload_n 0, 1) := by decide +kernel
theorem dX3_firstFreeClamp_13 : decode cX3_firstFreeClamp 13 = .ok (.getfield 18, 3) := by decide +kernel
theorem dX3_firstFreeClamp_16 : decode cX3_firstFreeClamp 16 = .ok (.iload_n 2, 1) := by decide +kernel
theorem dX3_firstFreeClamp_17 : decode cX3_firstFreeClamp 17 = .ok (.iaload, 1) := by decide +kernel
theorem dX3_firstFreeClamp_18 : decode cX3_firstFreeClamp 18 = .ok (.aload_n 0, 1) := by decide +kernel
theorem dX3_firstFreeClamp_19 : decode cX3_firstFreeClamp 19 = .ok (.getfield 18, 3) := by decide +kernel
theorem dX3_firstFreeClamp_22 : decode cX3_firstFreeClamp 22 = .ok (.iload_n 1, 1) := by decide +kernel
theorem dX3_firstFreeClamp_23 : decode cX3_firstFreeClamp 23 = .ok (.iaload, 1) := by decide +kernel
theorem dX3_firstFreeClamp_24 : decode cX3_firstFreeClamp 24 = .ok (.if_icmp .ge 5, 3) := by decide +kernel
theorem dX3_firstFreeClamp_27 : decode cX3_firstFreeClamp 27 = .ok (.iload_n 2, 1) := by decide +kernel
theorem dX3_firstFreeClamp_28 : decode cX3_firstFreeClamp 28 = .ok (.istore_n 1, 1) := by decide +kernel
theorem dX3_firstFreeClamp_29 : decode cX3_firstFreeClamp 29 = .ok (.iinc 2 1, 3) := by decide +kernel
theorem dX3_firstFreeClamp_32 : decode cX3_firstFreeClamp 32 = .ok (.goto (-28), 3) := by decide +kernel
theorem dX3_firstFreeClamp_35 : decode cX3_firstFreeClamp 35 = .ok (.iload_n 1, 1) := by decide +kernel
theorem dX3_firstFreeClamp_36 : decode cX3_firstFreeClamp 36 = .ok (.ireturn, 1) := by decide +kernel
theorem dX3_needsCuredAt_0 : decode cX3_needsCuredAt 0 = .ok (.iconst 0, 1) := by decide +kernel
theorem dX3_needsCuredAt_1 : decode cX3_needsCuredAt 1 = .ok (.istore_n 2, 1) := by decide +kernel
theorem dX3_needsCuredAt_2 : decode cX3_needsCuredAt 2 = .ok (.iconst 0, 1) := by decide +kernel
theorem dX3_needsCuredAt_3 : decode cX3_needsCuredAt 3 = .ok (.istore_n 3, 1) := by decide +kernel
theorem dX3_needsCuredAt_4 : decode cX3_needsCuredAt 4 = .ok (.iload_n 3, 1) := by decide +kernel
theorem dX3_needsCuredAt_5 : decode cX3_needsCuredAt 5 = .ok (.bipush 7, 2) := by decide +kernel
theorem dX3_needsCuredAt_7 : decode cX3_needsCuredAt 7 = .ok (.if_icmp .ge 40, 3) := by decide +kernel
theorem dX3_needsCuredAt_10 : decode cX3_needsCuredAt 10 = .ok (.aload_n 0, 1) := by decide +kernel
theorem dX3_needsCuredAt_11 : decode cX3_needsCuredAt 11 = .ok (.getfield 15, 3) := by decide +kernel
theorem dX3_needsCuredAt_14 : decode cX3_needsCuredAt 14 = .ok (.iload_n 1, 1) := by decide +kernel
theorem dX3_needsCuredAt_15 : decode cX3_needsCuredAt 15 = .ok (.iaload, 1) := by decide +kernel
theorem dX3_needsCuredAt_16 : decode cX3_needsCuredAt 16 = .ok (.iconst 1, 1) := by decide +kernel
theorem dX3_needsCuredAt_17 : decode cX3_needsCuredAt 17 = .ok (.iload_n 3, 1) := by decide +kernel
theorem dX3_needsCuredAt_18 : decode cX3_needsCuredAt 18 = .ok (.ishl, 1) := by decide +kernel
theorem dX3_needsCuredAt_19 : decode cX3_needsCuredAt 19 = .ok (.iand, 1) := by decide +kernel
theorem dX3_needsCuredAt_20 : decode cX3_needsCuredAt 20 = .ok (.ifCond .eq 21, 3) := by decide +kernel
theorem dX3_needsCuredAt_23 : decode cX3_needsCuredAt 23 = .ok (.iload_n 2, 1) := by decide +kernel
theorem dX3_needsCuredAt_24 : decode cX3_needsCuredAt 24 = .ok (.aload_n 0, 1) := by decide +kernel
theorem dX3_needsCuredAt_25 : decode cX3_needsCuredAt 25 = .ok (.getfield 24, 3) := by decide +kernel
theorem dX3_needsCuredAt_28 : decode cX3_needsCuredAt 28 = .ok (.iload_n 3, 1) := by decide +kernel
theorem dX3_needsCuredAt_29 : decode cX3_needsCuredAt 29 = .ok (.iaload, 1) := by decide +kernel
theorem dX3_needsCuredAt_30 : decode cX3_needsCuredAt 30 = .ok (.aload_n 0, 1) := by decide +kernel
theorem dX3_needsCuredAt_31 : decode cX3_needsCuredAt 31 = .ok (.getfield 11, 3) := by decide +kernel
theorem dX3_needsCuredAt_34 : decode cX3_needsCuredAt 34 = .ok (.iload_n 3, 1) := by decide +kernel
theorem dX3_needsCuredAt_35 : decode cX3_needsCuredAt 35 = .ok (.iaload, 1) := by decide +kernel
theorem dX3_needsCuredAt_36 : decode cX3_needsCuredAt 36 = .ok (.iadd, 1) := by decide +kernel
theorem dX3_needsCuredAt_37 : decode cX3_needsCuredAt 37 = .ok (.invokestatic 101, 3) := by decide +kernel
theorem dX3_needsCuredAt_40 : decode cX3_needsCuredAt 40 = .ok (.istore_n 2, 1) := by decide +kernel
theorem dX3_needsCuredAt_41 : decode cX3_needsCuredAt 41 = .ok (.iinc 3 1, 3) := by decide +kernel
theorem dX3_needsCuredAt_44 : decode cX3_needsCuredAt 44 = .ok (.goto (-40), 3) := by decide +kernel
theorem dX3_needsCuredAt_47 : decode cX3_needsCuredAt 47 = .ok (.iload_n 2, 1) := by decide +kernel
theorem dX3_needsCuredAt_48 : decode cX3_needsCuredAt 48 = .ok (.ireturn, 1) := by decide +kernel
theorem dX3_keep_0 : decode cX3_keep 0 = .ok (.aload_n 0, 1) := by decide +kernel
theorem dX3_keep_1 : decode cX3_keep 1 = .ok (.iload_n 1, 1) := by decide +kernel
theorem dX3_keep_2 : decode cX3_keep 2 = .ok (.putfield 45, 3) := by decide +kernel
theorem dX3_keep_5 : decode cX3_keep 5 = .ok (.iconst 0, 1) := by decide +kernel
theorem dX3_keep_6 : decode cX3_keep 6 = .ok (.istore_n 2, 1) := by decide +kernel
theorem dX3_keep_7 : decode cX3_keep 7 = .ok (.iload_n 2, 1) := by decide +kernel
theorem dX3_keep_8 : decode cX3_keep 8 = .ok (.bipush 7, 2) := by decide +kernel
theorem dX3_keep_10 : decode cX3_keep 10 = .ok (.if_icmp .ge 33, 3) := by decide +kernel
theorem dX3_keep_13 : decode cX3_keep 13 = .ok (.aload_n 0, 1) := by decide +kernel
theorem dX3_keep_14 : decode cX3_keep 14 = .ok (.getfield 27, 3) := by decide +kernel
theorem dX3_keep_17 : decode cX3_keep 17 = .ok (.iload_n 2, 1) := by decide +kernel
theorem dX3_keep_18 : decode cX3_keep 18 = .ok (.aload_n 0, 1) := by decide +kernel
theorem dX3_keep_19 : decode cX3_keep 19 = .ok (.getfield 21, 3) := by decide +kernel
theorem dX3_keep_22 : decode cX3_keep 22 = .ok (.iload_n 2, 1) := by decide +kernel
theorem dX3_keep_23 : decode cX3_keep 23 = .ok (.iaload, 1) := by decide +kernel
theorem dX3_keep_24 : decode cX3_keep 24 = .ok (.iastore, 1) := by decide +kernel
theorem dX3_keep_25 : decode cX3_keep 25 = .ok (.aload_n 0, 1) := by decide +kernel
theorem dX3_keep_26 : decode cX3_keep 26 = .ok (.getfield 30, 3) := by decide +kernel
theorem dX3_keep_29 : decode cX3_keep 29 = .ok (.iload_n 2, 1) := by decide +kernel
theorem dX3_keep_30 : decode cX3_keep 30 = .ok (.aload_n 0, 1) := by decide +kernel
theorem dX3_keep_31 : decode cX3_keep 31 = .ok (.getfield 24, 3) := by decide +kernel
theorem dX3_keep_34 : decode cX3_keep 34 = .ok (.iload_n 2, 1) := by decide +kernel
theorem dX3_keep_35 : decode cX3_keep 35 = .ok (.iaload, 1) := by decide +kernel
theorem dX3_keep_36 : decode cX3_keep 36 = .ok (.iastore, 1) := by decide +kernel
theorem dX3_keep_37 : decode cX3_keep 37 = .ok (.iinc 2 1, 3) := by decide +kernel
theorem dX3_keep_40 : decode cX3_keep 40 = .ok (.goto (-33), 3) := by decide +kernel
theorem dX3_keep_43 : decode cX3_keep 43 = .ok (.return_, 1) := by decide +kernel
