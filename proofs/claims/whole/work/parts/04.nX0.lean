set_option maxRecDepth 20000 in
theorem ggX0_init_X6_init : GoodIn wsX0_init wsX6_init := goodIn_r _ [13, 14, 2, 3, 8, 15, 16, 17, 18, 19, 20, 21, 22, 23, 24] (by decide +kernel) (by decide +kernel)
set_option maxRecDepth 20000 in
theorem gX0_init_X6_init : GoodIn wsX0_init (wsX6_init) := ggX0_init_X6_init
theorem dX0_init_0 : decode cX0_init 0 = .ok (.aload_n 0, 1) := by decide +kernel
theorem dX0_init_1 : decode cX0_init 1 = .ok (.invokespecial 3, 3) := by decide +kernel
theorem dX0_init_4 : decode cX0_init 4 = .ok (.aload_n 0, 1) := by decide +kernel
theorem dX0_init_5 : decode cX0_init 5 = .ok (.new 9, 3) := by decide +kernel
theorem dX0_init_8 : decode cX0_init 8 = .ok (.dup, 1) := by decide +kernel
theorem dX0_init_9 : decode cX0_init 9 = .ok (.invokespecial 11, 3) := by decide +kernel
theorem dX0_init_12 : decode cX0_init 12 = .ok (.putfield 12, 3) := by decide +kernel
theorem dX0_init_15 : decode cX0_init 15 = .ok (.aload_n 0, 1) := by decide +kernel
theorem dX0_init_16 : decode cX0_init 16 = .ok (.iconst 5, 1) := by decide +kernel
theorem dX0_init_17 : decode cX0_init 17 = .ok (.newarray .long, 2) := by decide +kernel
theorem dX0_init_19 : decode cX0_init 19 = .ok (.putfield 18, 3) := by decide +kernel
theorem dX0_init_22 : decode cX0_init 22 = .ok (.aload_n 0, 1) := by decide +kernel
theorem dX0_init_23 : decode cX0_init 23 = .ok (.lconst 1, 1) := by decide +kernel
theorem dX0_init_24 : decode cX0_init 24 = .ok (.putfield 22, 3) := by decide +kernel
theorem dX0_init_27 : decode cX0_init 27 = .ok (.return_, 1) := by decide +kernel
set_option maxRecDepth 20000 in
theorem ggX0_tellPull_X6_reckon : GoodIn wsX0_tellPull wsX6_reckon := goodIn_r _ [10, 11, 12, 13, 14, 9, 15, 16, 17, 18, 19, 20, 21, 22, 23, 24, 25, 26, 27, 49, 50, 51, 52, 53, 54, 55, 56, 57, 58, 59, 60, 61, 62] (by decide +kernel) (by decide +kernel)
set_option maxRecDepth 20000 in
theorem gX0_tellPull_X6_reckon : GoodIn wsX0_tellPull (wsV RX0 26 RX6 yX6_reckon wsX6_reckon) := goodIn_app (goodIn_of _ (by decide +kernel)) ggX0_tellPull_X6_reckon
set_option maxRecDepth 20000 in
theorem ggX0_tellPull_X9_within : GoodIn wsX0_tellPull wsX9_within := goodIn_r _ [30] (by decide +kernel) (by decide +kernel)
set_option maxRecDepth 20000 in
theorem gX0_tellPull_X9_within_n30 : GoodIn wsX0_tellPull (wsX9_within) := ggX0_tellPull_X9_within
set_option maxRecDepth 20000 in
theorem ggX0_tellPull_X2_reduce : GoodIn wsX0_tellPull wsX2_reduce := goodIn_r _ [35, 36, 37, 38, 39, 40, 41, 42, 43, 34, 44, 63, 64] (by decide +kernel) (by decide +kernel)
set_option maxRecDepth 20000 in
theorem gX0_tellPull_X2_reduce : GoodIn wsX0_tellPull (wsV RX0 46 RX2 yX2_reduce wsX2_reduce) := goodIn_app (goodIn_of _ (by decide +kernel)) ggX0_tellPull_X2_reduce
theorem dX0_tellPull_0 : decode cX0_tellPull 0 = .ok (.aload_n 0, 1) := by decide +kernel
theorem dX0_tellPull_1 : decode cX0_tellPull 1 = .ok (.getfield 12, 3) := by decide +kernel
theorem dX0_tellPull_4 : decode cX0_tellPull 4 = .ok (.aload_n 1, 1) := by decide +kernel
theorem dX0_tellPull_5 : decode cX0_tellPull 5 = .ok (.iconst (-1), 1) := by decide +kernel
theorem dX0_tellPull_6 : decode cX0_tellPull 6 = .ok (.invokevirtual 26, 3) := by decide +kernel
theorem dX0_tellPull_9 : decode cX0_tellPull 9 = .ok (.ifCond .eq 70, 3) := by decide +kernel
theorem dX0_tellPull_12 : decode cX0_tellPull 12 = .ok (.iload_n 2, 1) := by decide +kernel
theorem dX0_tellPull_13 : decode cX0_tellPull 13 = .ok (.iconst 0, 1) := by decide +kernel
theorem dX0_tellPull_14 : decode cX0_tellPull 14 = .ok (.iconst 4, 1) := by decide +kernel
theorem dX0_tellPull_15 : decode cX0_tellPull 15 = .ok (.invokestatic 30, 3) := by decide +kernel
theorem dX0_tellPull_18 : decode cX0_tellPull 18 = .ok (.ifCond .eq 61, 3) := by decide +kernel
theorem dX0_tellPull_21 : decode cX0_tellPull 21 = .ok (.iload_n 3, 1) := by decide +kernel
theorem dX0_tellPull_22 : decode cX0_tellPull 22 = .ok (.ifCond .ne 15, 3) := by decide +kernel
theorem dX0_tellPull_25 : decode cX0_tellPull 25 = .ok (.aload_n 0, 1) := by decide +kernel
theorem dX0_tellPull_26 : decode cX0_tellPull 26 = .ok (.getfield 12, 3) := by decide +kernel
theorem dX0_tellPull_29 : decode cX0_tellPull 29 = .ok (.getfield 34, 3) := by decide +kernel
theorem dX0_tellPull_32 : decode cX0_tellPull 32 = .ok (.iload_n 2, 1) := by decide +kernel
theorem dX0_tellPull_33 : decode cX0_tellPull 33 = .ok (.laload, 1) := by decide +kernel
theorem dX0_tellPull_34 : decode cX0_tellPull 34 = .ok (.goto 29, 3) := by decide +kernel
theorem dX0_tellPull_37 : decode cX0_tellPull 37 = .ok (.iload_n 3, 1) := by decide +kernel
theorem dX0_tellPull_38 : decode cX0_tellPull 38 = .ok (.iconst 1, 1) := by decide +kernel
theorem dX0_tellPull_39 : decode cX0_tellPull 39 = .ok (.if_icmp .ne 15, 3) := by decide +kernel
theorem dX0_tellPull_42 : decode cX0_tellPull 42 = .ok (.aload_n 0, 1) := by decide +kernel
theorem dX0_tellPull_43 : decode cX0_tellPull 43 = .ok (.getfield 12, 3) := by decide +kernel
theorem dX0_tellPull_46 : decode cX0_tellPull 46 = .ok (.getfield 37, 3) := by decide +kernel
theorem dX0_tellPull_49 : decode cX0_tellPull 49 = .ok (.iload_n 2, 1) := by decide +kernel
theorem dX0_tellPull_50 : decode cX0_tellPull 50 = .ok (.laload, 1) := by decide +kernel
theorem dX0_tellPull_51 : decode cX0_tellPull 51 = .ok (.goto 12, 3) := by decide +kernel
theorem dX0_tellPull_54 : decode cX0_tellPull 54 = .ok (.aload_n 0, 1) := by decide +kernel
theorem dX0_tellPull_55 : decode cX0_tellPull 55 = .ok (.getfield 12, 3) := by decide +kernel
theorem dX0_tellPull_58 : decode cX0_tellPull 58 = .ok (.getfield 40, 3) := by decide +kernel
theorem dX0_tellPull_61 : decode cX0_tellPull 61 = .ok (.iload_n 2, 1) := by decide +kernel
theorem dX0_tellPull_62 : decode cX0_tellPull 62 = .ok (.laload, 1) := by decide +kernel
theorem dX0_tellPull_63 : decode cX0_tellPull 63 = .ok (.lstore 5, 2) := by decide +kernel
theorem dX0_tellPull_65 : decode cX0_tellPull 65 = .ok (.aload 4, 2) := by decide +kernel
theorem dX0_tellPull_67 : decode cX0_tellPull 67 = .ok (.lload 5, 2) := by decide +kernel
theorem dX0_tellPull_69 : decode cX0_tellPull 69 = .ok (.aload_n 0, 1) := by decide +kernel
theorem dX0_tellPull_70 : decode cX0_tellPull 70 = .ok (.getfield 12, 3) := by decide +kernel
theorem dX0_tellPull_73 : decode cX0_tellPull 73 = .ok (.getfield 43, 3) := by decide +kernel
theorem dX0_tellPull_76 : decode cX0_tellPull 76 = .ok (.invokevirtual 46, 3) := by decide +kernel
theorem dX0_tellPull_79 : decode cX0_tellPull 79 = .ok (.return_, 1) := by decide +kernel
set_option maxRecDepth 20000 in
theorem ggX0_tellGive_X6_reckon : GoodIn wsX0_tellGive wsX6_reckon := goodIn_r _ [8, 9, 10, 11, 12, 7, 13, 14, 15, 16, 17, 18, 19, 20, 21, 22, 23, 24, 25, 44, 45, 46, 47, 48, 49, 50, 51, 52, 53, 54, 55, 56, 57] (by decide +kernel) (by decide +kernel)
set_option maxRecDepth 20000 in
theorem gX0_tellGive_X6_reckon : GoodIn wsX0_tellGive (wsV RX0 26 RX6 yX6_reckon wsX6_reckon) := goodIn_app (goodIn_of _ (by decide +kernel)) ggX0_tellGive_X6_reckon
set_option maxRecDepth 20000 in
theorem ggX0_tellGive_X2_reduce : GoodIn wsX0_tellGive wsX2_reduce := goodIn_r _ [30, 31, 32, 33, 34, 35, 36, 37, 38, 29, 39, 58, 59] (by decide +kernel) (by decide +kernel)
set_option maxRecDepth 20000 in
theorem gX0_tellGive_X2_reduce : GoodIn wsX0_tellGive (wsV RX0 46 RX2 yX2_reduce wsX2_reduce) := goodIn_app (goodIn_of _ (by decide +kernel)) ggX0_tellGive_X2_reduce
theorem dX0_tellGive_0 : decode cX0_tellGive 0 = .ok (.aload_n 0, 1) := by decide +kernel
theorem dX0_tellGive_1 : decode cX0_tellGive 1 = .ok (.getfield 12, 3) := by decide +kernel
theorem dX0_tellGive_4 : decode cX0_tellGive 4 = .ok (.aload_n 1, 1) := by decide +kernel
theorem dX0_tellGive_5 : decode cX0_tellGive 5 = .ok (.iconst (-1), 1) := by decide +kernel
theorem dX0_tellGive_6 : decode cX0_tellGive 6 = .ok (.invokevirtual 26, 3) := by decide +kernel
theorem dX0_tellGive_9 : decode cX0_tellGive 9 = .ok (.ifCond .eq 21, 3) := by decide +kernel
theorem dX0_tellGive_12 : decode cX0_tellGive 12 = .ok (.aload_n 2, 1) := by decide +kernel
theorem dX0_tellGive_13 : decode cX0_tellGive 13 = .ok (.aload_n 0, 1) := by decide +kernel
theorem dX0_tellGive_14 : decode cX0_tellGive 14 = .ok (.getfield 12, 3) := by decide +kernel
theorem dX0_tellGive_17 : decode cX0_tellGive 17 = .ok (.getfield 52, 3) := by decide +kernel
theorem dX0_tellGive_20 : decode cX0_tellGive 20 = .ok (.aload_n 0, 1) := by decide +kernel
theorem dX0_tellGive_21 : decode cX0_tellGive 21 = .ok (.getfield 12, 3) := by decide +kernel
theorem dX0_tellGive_24 : decode cX0_tellGive 24 = .ok (.getfield 43, 3) := by decide +kernel
theorem dX0_tellGive_27 : decode cX0_tellGive 27 = .ok (.invokevirtual 46, 3) := by decide +kernel
theorem dX0_tellGive_30 : decode cX0_tellGive 30 = .ok (.return_, 1) := by decide +kernel
set_option maxRecDepth 20000 in
theorem ggX0_hardestSpot_X6_reckon : GoodIn wsX0_hardestSpot wsX6_reckon := goodIn_r _ [13, 14, 15, 16, 17, 12, 18, 19, 20, 21, 22, 23, 24, 25, 26, 27, 28, 29, 30, 35, 36, 37, 38, 39, 40, 41, 42, 43, 44, 45, 46, 47, 48] (by decide +kernel) (by decide +kernel)
set_option maxRecDepth 20000 in
theorem gX0_hardestSpot_X6_reckon : GoodIn wsX0_hardestSpot (wsV RX0 26 RX6 yX6_reckon wsX6_reckon) := goodIn_app (goodIn_of _ (by decide +kernel)) ggX0_hardestSpot_X6_reckon
theorem dX0_hardestSpot_0 : decode cX0_hardestSpot 0 = .ok (.aload_n 0, 1) := by decide +kernel
theorem dX0_hardestSpot_1 : decode cX0_hardestSpot 1 = .ok (.getfield 12, 3) := by decide +kernel
theorem dX0_hardestSpot_4 : decode cX0_hardestSpot 4 = .ok (.aload_n 1, 1) := by decide +kernel
theorem dX0_hardestSpot_5 : decode cX0_hardestSpot 5 = .ok (.iconst (-1), 1) := by decide +kernel
theorem dX0_hardestSpot_6 : decode cX0_hardestSpot 6 = .ok (.invokevirtual 26, 3) := by decide +kernel
theorem dX0_hardestSpot_9 : decode cX0_hardestSpot 9 = .ok (.pop, 1) := by decide +kernel
theorem dX0_hardestSpot_10 : decode cX0_hardestSpot 10 = .ok (.bipush (-6), 2) := by decide +kernel
theorem dX0_hardestSpot_12 : decode cX0_hardestSpot 12 = .ok (.istore_n 2, 1) := by decide +kernel
theorem dX0_hardestSpot_13 : decode cX0_hardestSpot 13 = .ok (.ldc2_w 55, 3) := by decide +kernel
theorem dX0_hardestSpot_16 : decode cX0_hardestSpot 16 = .ok (.lstore_n 3, 1) := by decide +kernel
theorem dX0_hardestSpot_17 : decode cX0_hardestSpot 17 = .ok (.iconst 0, 1) := by decide +kernel
theorem dX0_hardestSpot_18 : decode cX0_hardestSpot 18 = .ok (.istore 5, 2) := by decide +kernel
theorem dX0_hardestSpot_20 : decode cX0_hardestSpot 20 = .ok (.iload 5, 2) := by decide +kernel
theorem dX0_hardestSpot_22 : decode cX0_hardestSpot 22 = .ok (.iconst 5, 1) := by decide +kernel
theorem dX0_hardestSpot_23 : decode cX0_hardestSpot 23 = .ok (.if_icmp .ge 47, 3) := by decide +kernel
theorem dX0_hardestSpot_26 : decode cX0_hardestSpot 26 = .ok (.aload_n 0, 1) := by decide +kernel
theorem dX0_hardestSpot_27 : decode cX0_hardestSpot 27 = .ok (.getfield 12, 3) := by decide +kernel
theorem dX0_hardestSpot_30 : decode cX0_hardestSpot 30 = .ok (.getfield 37, 3) := by decide +kernel
theorem dX0_hardestSpot_33 : decode cX0_hardestSpot 33 = .ok (.iload 5, 2) := by decide +kernel
theorem dX0_hardestSpot_35 : decode cX0_hardestSpot 35 = .ok (.laload, 1) := by decide +kernel
theorem dX0_hardestSpot_36 : decode cX0_hardestSpot 36 = .ok (.invokestatic 57, 3) := by decide +kernel
theorem dX0_hardestSpot_39 : decode cX0_hardestSpot 39 = .ok (.lstore 6, 2) := by decide +kernel
theorem dX0_hardestSpot_41 : decode cX0_hardestSpot 41 = .ok (.aload_n 1, 1) := by decide +kernel
theorem dX0_hardestSpot_42 : decode cX0_hardestSpot 42 = .ok (.getfield 63, 3) := by decide +kernel
theorem dX0_hardestSpot_45 : decode cX0_hardestSpot 45 = .ok (.iload 5, 2) := by decide +kernel
theorem dX0_hardestSpot_47 : decode cX0_hardestSpot 47 = .ok (.iaload, 1) := by decide +kernel
theorem dX0_hardestSpot_48 : decode cX0_hardestSpot 48 = .ok (.ifCond .le 16, 3) := by decide +kernel
theorem dX0_hardestSpot_51 : decode cX0_hardestSpot 51 = .ok (.lload 6, 2) := by decide +kernel
theorem dX0_hardestSpot_53 : decode cX0_hardestSpot 53 = .ok (.lload_n 3, 1) := by decide +kernel
theorem dX0_hardestSpot_54 : decode cX0_hardestSpot 54 = .ok (.lcmp, 1) := by decide +kernel
theorem dX0_hardestSpot_55 : decode cX0_hardestSpot 55 = .ok (.ifCond .le 9, 3) := by decide +kernel
theorem dX0_hardestSpot_58 : decode cX0_hardestSpot 58 = .ok (.lload 6, 2) := by decide +kernel
theorem dX0_hardestSpot_60 : decode cX0_hardestSpot 60 = .ok (.lstore_n 3, 1) := by decide +kernel
theorem dX0_hardestSpot_61 : decode cX0_hardestSpot 61 = .ok (.iload 5, 2) := by decide +kernel
theorem dX0_hardestSpot_63 : decode cX0_hardestSpot 63 = .ok (.istore_n 2, 1) := by decide +kernel
theorem dX0_hardestSpot_64 : decode cX0_hardestSpot 64 = .ok (.iinc 5 1, 3) := by decide +kernel
theorem dX0_hardestSpot_67 : decode cX0_hardestSpot 67 = .ok (.goto (-47), 3) := by decide +kernel
theorem dX0_hardestSpot_70 : decode cX0_hardestSpot 70 = .ok (.iload_n 2, 1) := by decide +kernel
theorem dX0_hardestSpot_71 : decode cX0_hardestSpot 71 = .ok (.ireturn, 1) := by decide +kernel
set_option maxRecDepth 20000 in
theorem ggX0_tellBack_X0_weighBack : GoodIn wsX0_tellBack wsX0_weighBack := goodIn_r _ [7, 8, 9, 10, 1, 11, 2, 12, 13, 14, 15, 16, 17, 18, 19, 20, 21, 22, 23, 24, 25, 26, 27, 28, 29, 30, 31, 32, 33, 48, 49, 50, 51, 52, 53, 54, 55, 56, 57, 58, 59, 60, 61, 62, 63, 64, 65] (by decide +kernel) (by decide +kernel)
set_option maxRecDepth 20000 in
theorem gX0_tellBack_X0_weighBack : GoodIn wsX0_tellBack (wsV RX0 69 RX0 yX0_weighBack wsX0_weighBack) := goodIn_app (goodIn_of _ (by decide +kernel)) ggX0_tellBack_X0_weighBack
set_option maxRecDepth 20000 in
theorem ggX0_tellBack_X2_reduce : GoodIn wsX0_tellBack wsX2_reduce := goodIn_r _ [38, 39, 40, 41, 42, 43, 44, 45, 46, 37, 47, 66, 67] (by decide +kernel) (by decide +kernel)
set_option maxRecDepth 20000 in
theorem gX0_tellBack_X2_reduce : GoodIn wsX0_tellBack (wsV RX0 46 RX2 yX2_reduce wsX2_reduce) := goodIn_app (goodIn_of _ (by decide +kernel)) ggX0_tellBack_X2_reduce
theorem dX0_tellBack_0 : decode cX0_tellBack 0 = .ok (.aload_n 0, 1) := by decide +kernel
theorem dX0_tellBack_1 : decode cX0_tellBack 1 = .ok (.aload_n 1, 1) := by decide +kernel
theorem dX0_tellBack_2 : decode cX0_tellBack 2 = .ok (.iload_n 2, 1) := by decide +kernel
theorem dX0_tellBack_3 : decode cX0_tellBack 3 = .ok (.invokevirtual 69, 3) := by decide +kernel
theorem dX0_tellBack_6 : decode cX0_tellBack 6 = .ok (.aload 4, 2) := by decide +kernel
theorem dX0_tellBack_8 : decode cX0_tellBack 8 = .ok (.aload_n 0, 1) := by decide +kernel
theorem dX0_tellBack_9 : decode cX0_tellBack 9 = .ok (.getfield 73, 3) := by decide +kernel
theorem dX0_tellBack_12 : decode cX0_tellBack 12 = .ok (.iload_n 3, 1) := by decide +kernel
theorem dX0_tellBack_13 : decode cX0_tellBack 13 = .ok (.i2l, 1) := by decide +kernel
theorem dX0_tellBack_14 : decode cX0_tellBack 14 = .ok (.lmul, 1) := by decide +kernel
theorem dX0_tellBack_15 : decode cX0_tellBack 15 = .ok (.iload_n 3, 1) := by decide +kernel
theorem dX0_tellBack_16 : decode cX0_tellBack 16 = .ok (.i2l, 1) := by decide +kernel
theorem dX0_tellBack_17 : decode cX0_tellBack 17 = .ok (.lmul, 1) := by decide +kernel
theorem dX0_tellBack_18 : decode cX0_tellBack 18 = .ok (.aload_n 0, 1) := by decide +kernel
theorem dX0_tellBack_19 : decode cX0_tellBack 19 = .ok (.getfield 22, 3) := by decide +kernel
theorem dX0_tellBack_22 : decode cX0_tellBack 22 = .ok (.invokevirtual 46, 3) := by decide +kernel
theorem dX0_tellBack_25 : decode cX0_tellBack 25 = .ok (.return_, 1) := by decide +kernel
set_option maxRecDepth 20000 in
theorem ggX0_spreadingSpots_X0_goesBy : GoodIn wsX0_spreadingSpots wsX0_goesBy := goodIn_r _ [5, 6, 7, 8, 9, 10, 4, 11, 12, 13, 14, 15, 16, 17, 18, 19, 20, 21, 22, 23, 24, 25, 26, 27, 28, 29, 30, 31, 32, 33, 34, 35, 36, 37, 38, 39, 40, 41, 42, 43, 44, 45, 46, 47, 48, 49, 50, 51, 52, 53, 54, 55, 56, 57, 58, 59, 60, 61] (by decide +kernel) (by decide +kernel)
set_option maxRecDepth 20000 in
theorem gX0_spreadingSpots_X0_goesBy : GoodIn wsX0_spreadingSpots (wsV RX0 76 RX0 yX0_goesBy wsX0_goesBy) := goodIn_app (goodIn_of _ (by decide +kernel)) ggX0_spreadingSpots_X0_goesBy
theorem dX0_spreadingSpots_0 : decode cX0_spreadingSpots 0 = .ok (.iconst 0, 1) := by decide +kernel
theorem dX0_spreadingSpots_1 : decode cX0_spreadingSpots 1 = .ok (.istore_n 3, 1) := by decide +kernel
theorem dX0_spreadingSpots_2 : decode cX0_spreadingSpots 2 = .ok (.iconst 0, 1) := by decide +kernel
theorem dX0_spreadingSpots_3 : decode cX0_spreadingSpots 3 = .ok (.istore 4, 2) := by decide +kernel
theorem dX0_spreadingSpots_5 : decode cX0_spreadingSpots 5 = .ok (.iload 4, 2) := by decide +kernel
theorem dX0_spreadingSpots_7 : decode cX0_spreadingSpots 7 = .ok (.iconst 5, 1) := by decide +kernel
theorem dX0_spreadingSpots_8 : decode cX0_spreadingSpots 8 = .ok (.if_icmp .ge 27, 3) := by decide +kernel
theorem dX0_spreadingSpots_11 : decode cX0_spreadingSpots 11 = .ok (.aload_n 0, 1) := by decide +kernel
theorem dX0_spreadingSpots_12 : decode cX0_spreadingSpots 12 = .ok (.aload_n 1, 1) := by decide +kernel
theorem dX0_spreadingSpots_13 : decode cX0_spreadingSpots 13 = .ok (.iload 4, 2) := by decide +kernel
theorem dX0_spreadingSpots_15 : decode cX0_spreadingSpots 15 = .ok (.iload_n 2, 1) := by decide +kernel
theorem dX0_spreadingSpots_16 : decode cX0_spreadingSpots 16 = .ok (.invokevirtual 76, 3) := by decide +kernel
theorem dX0_spreadingSpots_19 : decode cX0_spreadingSpots 19 = .ok (.ifCond .eq 10, 3) := by decide +kernel
theorem dX0_spreadingSpots_22 : decode cX0_spreadingSpots 22 = .ok (.iload_n 3, 1) := by decide +kernel
theorem dX0_spreadingSpots_23 : decode cX0_spreadingSpots 23 = .ok (.iconst 1, 1) := by decide +kernel
theorem dX0_spreadingSpots_24 : decode cX0_spreadingSpots 24 = .ok (.iload 4, 2) := by decide +kernel
theorem dX0_spreadingSpots_26 : decode cX0_spreadingSpots 26 = .ok (.ishl, 1) := by decide +kernel
theorem dX0_spreadingSpots_27 : decode cX0_spreadingSpots 27 = .ok (.ior, 1) := by decide +kernel
theorem dX0_spreadingSpots_28 : decode cX0_spreadingSpots 28 = .ok (.istore_n 3, 1) := by decide +kernel
theorem dX0_spreadingSpots_29 : decode cX0_spreadingSpots 29 = .ok (.iinc 4 1, 3) := by decide +kernel
theorem dX0_spreadingSpots_32 : decode cX0_spreadingSpots 32 = .ok (.goto (-27), 3) := by decide +kernel
theorem dX0_spreadingSpots_35 : decode cX0_spreadingSpots 35 = .ok (.iload_n 3, 1) := by decide +kernel
theorem dX0_spreadingSpots_36 : decode cX0_spreadingSpots 36 = .ok (.ireturn, 1) := by decide +kernel
set_option maxRecDepth 20000 in
theorem ggX0_leastPull_X0_weighBack : GoodIn wsX0_leastPull wsX0_weighBack := goodIn_r _ [7, 8, 9, 10, 11, 12, 13, 14, 15, 16, 17, 18, 19, 20, 21, 22, 23, 24, 25, 26, 27, 28, 29, 30, 31, 32, 33, 34, 35, 52, 53, 54, 55, 56, 57, 58, 59, 60, 61, 44, 45, 46, 47, 48, 49, 50, 51] (by decide +kernel) (by decide +kernel)
set_option maxRecDepth 20000 in
theorem gX0_leastPull_X0_weighBack : GoodIn wsX0_leastPull (wsV RX0 69 RX0 yX0_weighBack wsX0_weighBack) := goodIn_app (goodIn_of _ (by decide +kernel)) ggX0_leastPull_X0_weighBack
set_option maxRecDepth 20000 in
theorem ggX0_leastPull_X0_leastPullOf : GoodIn wsX0_leastPull wsX0_leastPullOf := goodIn_r _ [39, 40, 41, 42, 6, 43, 11, 13, 52, 53, 54, 55] (by decide +kernel) (by decide +kernel)
set_option maxRecDepth 20000 in
theorem gX0_leastPull_X0_leastPullOf : GoodIn wsX0_leastPull (wsV RX0 83 RX0 yX0_leastPullOf wsX0_leastPullOf) := goodIn_app (goodIn_of _ (by decide +kernel)) ggX0_leastPull_X0_leastPullOf
theorem dX0_leastPull_0 : decode cX0_leastPull 0 = .ok (.bipush 101, 2) := by decide +kernel
theorem dX0_leastPull_2 : decode cX0_leastPull 2 = .ok (.istore_n 2, 1) := by decide +kernel
theorem dX0_leastPull_3 : decode cX0_leastPull 3 = .ok (.iconst 0, 1) := by decide +kernel
theorem dX0_leastPull_4 : decode cX0_leastPull 4 = .ok (.istore_n 3, 1) := by decide +kernel
theorem dX0_leastPull_5 : decode cX0_leastPull 5 = .ok (.iload_n 3, 1) := by decide +kernel
theorem dX0_leastPull_6 : decode cX0_leastPull 6 = .ok (.iconst 5, 1) := by decide +kernel
theorem dX0_leastPull_7 : decode cX0_leastPull 7 = .ok (.if_icmp .ge 36, 3) := by decide +kernel
theorem dX0_leastPull_10 : decode cX0_leastPull 10 = .ok (.aload_n 1, 1) := by decide +kernel
theorem dX0_leastPull_11 : decode cX0_leastPull 11 = .ok (.getfield 63, 3) := by decide +kernel
theorem dX0_leastPull_14 : decode cX0_leastPull 14 = .ok (.iload_n 3, 1) := by decide +kernel
theorem dX0_leastPull_15 : decode cX0_leastPull 15 = .ok (.iaload, 1) := by decide +kernel
theorem dX0_leastPull_16 : decode cX0_leastPull 16 = .ok (.ifCond .le 21, 3) := by decide +kernel
theorem dX0_leastPull_19 : decode cX0_leastPull 19 = .ok (.aload_n 0, 1) := by decide +kernel
theorem dX0_leastPull_20 : decode cX0_leastPull 20 = .ok (.aload_n 1, 1) := by decide +kernel
theorem dX0_leastPull_21 : decode cX0_leastPull 21 = .ok (.iload_n 3, 1) := by decide +kernel
theorem dX0_leastPull_22 : decode cX0_leastPull 22 = .ok (.invokevirtual 69, 3) := by decide +kernel
theorem dX0_leastPull_25 : decode cX0_leastPull 25 = .ok (.aload_n 0, 1) := by decide +kernel
theorem dX0_leastPull_26 : decode cX0_leastPull 26 = .ok (.aload_n 1, 1) := by decide +kernel
theorem dX0_leastPull_27 : decode cX0_leastPull 27 = .ok (.getfield 80, 3) := by decide +kernel
theorem dX0_leastPull_30 : decode cX0_leastPull 30 = .ok (.iload_n 3, 1) := by decide +kernel
theorem dX0_leastPull_31 : decode cX0_leastPull 31 = .ok (.iaload, 1) := by decide +kernel
theorem dX0_leastPull_32 : decode cX0_leastPull 32 = .ok (.iload_n 2, 1) := by decide +kernel
theorem dX0_leastPull_33 : decode cX0_leastPull 33 = .ok (.invokevirtual 83, 3) := by decide +kernel
theorem dX0_leastPull_36 : decode cX0_leastPull 36 = .ok (.istore_n 2, 1) := by decide +kernel
theorem dX0_leastPull_37 : decode cX0_leastPull 37 = .ok (.iinc 3 1, 3) := by decide +kernel
theorem dX0_leastPull_40 : decode cX0_leastPull 40 = .ok (.goto (-35), 3) := by decide +kernel
theorem dX0_leastPull_43 : decode cX0_leastPull 43 = .ok (.iload_n 2, 1) := by decide +kernel
theorem dX0_leastPull_44 : decode cX0_leastPull 44 = .ok (.bipush 100, 2) := by decide +kernel
theorem dX0_leastPull_46 : decode cX0_leastPull 46 = .ok (.if_icmp .le 8, 3) := by decide +kernel
theorem dX0_leastPull_49 : decode cX0_leastPull 49 = .ok (.bipush (-6), 2) := by decide +kernel
theorem dX0_leastPull_51 : decode cX0_leastPull 51 = .ok (.goto 4, 3) := by decide +kernel
theorem dX0_leastPull_54 : decode cX0_leastPull 54 = .ok (.iload_n 2, 1) := by decide +kernel
theorem dX0_leastPull_55 : decode cX0_leastPull 55 = .ok (.ireturn, 1) := by decide +kernel
set_option maxRecDepth 20000 in
theorem ggX0_breakBy_X0_lowestSpreading : GoodIn wsX0_breakBy wsX0_lowestSpreading := goodIn_r _ [6, 7, 8, 9, 5, 10, 1, 11, 12, 13, 14, 15, 16, 17, 18, 19, 20, 21, 22, 23, 24, 25, 26, 27, 28, 29, 30, 31, 32, 33, 34, 35, 36, 37, 38, 39, 40, 41, 42, 43, 44, 45, 46, 47, 58, 59, 60, 61, 62, 63, 64, 65, 66, 67, 68, 69, 70, 71, 72, 73, 74, 75] (by decide +kernel) (by decide +kernel)
set_option maxRecDepth 20000 in
theorem gX0_breakBy_X0_lowestSpreading : GoodIn wsX0_breakBy (wsV RX0 87 RX0 yX0_lowestSpreading wsX0_lowestSpreading) := goodIn_app (goodIn_of _ (by decide +kernel)) ggX0_breakBy_X0_lowestSpreading
set_option maxRecDepth 20000 in
theorem ggX0_breakBy_X5_isLoose : GoodIn wsX0_breakBy wsX5_isLoose := goodIn_r _ [52, 53, 54, 55, 51, 56, 57, 58, 59, 60, 61, 62, 63, 64, 65] (by decide +kernel) (by decide +kernel)
set_option maxRecDepth 20000 in
theorem gX0_breakBy_X5_isLoose : GoodIn wsX0_breakBy (wsV RX0 91 RX5 yX5_isLoose wsX5_isLoose) := goodIn_app (goodIn_of _ (by decide +kernel)) ggX0_breakBy_X5_isLoose
theorem dX0_breakBy_0 : decode cX0_breakBy 0 = .ok (.iconst 0, 1) := by decide +kernel
theorem dX0_breakBy_1 : decode cX0_breakBy 1 = .ok (.istore_n 3, 1) := by decide +kernel
theorem dX0_breakBy_2 : decode cX0_breakBy 2 = .ok (.iconst 0, 1) := by decide +kernel
theorem dX0_breakBy_3 : decode cX0_breakBy 3 = .ok (.istore 4, 2) := by decide +kernel
theorem dX0_breakBy_5 : decode cX0_breakBy 5 = .ok (.iload 4, 2) := by decide +kernel
theorem dX0_breakBy_7 : decode cX0_breakBy 7 = .ok (.iconst 5, 1) := by decide +kernel
theorem dX0_breakBy_8 : decode cX0_breakBy 8 = .ok (.if_icmp .ge 48, 3) := by decide +kernel
theorem dX0_breakBy_11 : decode cX0_breakBy 11 = .ok (.aload_n 0, 1) := by decide +kernel
theorem dX0_breakBy_12 : decode cX0_breakBy 12 = .ok (.aload_n 1, 1) := by decide +kernel
theorem dX0_breakBy_13 : decode cX0_breakBy 13 = .ok (.iload_n 2, 1) := by decide +kernel
theorem dX0_breakBy_14 : decode cX0_breakBy 14 = .ok (.invokevirtual 87, 3) := by decide +kernel
theorem dX0_breakBy_17 : decode cX0_breakBy 17 = .ok (.istore 5, 2) := by decide +kernel
theorem dX0_breakBy_19 : decode cX0_breakBy 19 = .ok (.iload 5, 2) := by decide +kernel
theorem dX0_breakBy_21 : decode cX0_breakBy 21 = .ok (.iconst (-1), 1) := by decide +kernel
theorem dX0_breakBy_22 : decode cX0_breakBy 22 = .ok (.if_icmp .ne 5, 3) := by decide +kernel
theorem dX0_breakBy_25 : decode cX0_breakBy 25 = .ok (.iload_n 3, 1) := by decide +kernel
theorem dX0_breakBy_26 : decode cX0_breakBy 26 = .ok (.ireturn, 1) := by decide +kernel
theorem dX0_breakBy_27 : decode cX0_breakBy 27 = .ok (.aload_n 1, 1) := by decide +kernel
theorem dX0_breakBy_28 : decode cX0_breakBy 28 = .ok (.getfield 63, 3) := by decide +kernel
theorem dX0_breakBy_31 : decode cX0_breakBy 31 = .ok (.iload 5, 2) := by decide +kernel
theorem dX0_breakBy_33 : decode cX0_breakBy 33 = .ok (.iconst 0, 1) := by decide +kernel
theorem dX0_breakBy_34 : decode cX0_breakBy 34 = .ok (.iastore, 1) := by decide +kernel
theorem dX0_breakBy_35 : decode cX0_breakBy 35 = .ok (.iinc 3 1, 3) := by decide +kernel
theorem dX0_breakBy_38 : decode cX0_breakBy 38 = .ok (.aload_n 1, 1) := by decide +kernel
theorem dX0_breakBy_39 : decode cX0_breakBy 39 = .ok (.invokevirtual 91, 3) := by decide +kernel
theorem dX0_breakBy_42 : decode cX0_breakBy 42 = .ok (.ifCond .eq 8, 3) := by decide +kernel
theorem dX0_breakBy_45 : decode cX0_breakBy 45 = .ok (.iload_n 3, 1) := by decide +kernel
theorem dX0_breakBy_46 : decode cX0_breakBy 46 = .ok (.bipush 100, 2) := by decide +kernel
theorem dX0_breakBy_48 : decode cX0_breakBy 48 = .ok (.isub, 1) := by decide +kernel
theorem dX0_breakBy_49 : decode cX0_breakBy 49 = .ok (.ireturn, 1) := by decide +kernel
theorem dX0_breakBy_50 : decode cX0_breakBy 50 = .ok (.iinc 4 1, 3) := by decide +kernel
theorem dX0_breakBy_53 : decode cX0_breakBy 53 = .ok (.goto (-48), 3) := by decide +kernel
theorem dX0_breakBy_56 : decode cX0_breakBy 56 = .ok (.iload_n 3, 1) := by decide +kernel
theorem dX0_breakBy_57 : decode cX0_breakBy 57 = .ok (.ireturn, 1) := by decide +kernel
set_option maxRecDepth 20000 in
theorem ggX0_wearOut_X0_weighWear : GoodIn wsX0_wearOut wsX0_weighWear := goodIn_r _ [5, 6, 7, 8, 9, 10, 11, 12, 13, 14, 15, 16, 17, 18, 19, 20, 21, 22, 23, 24, 25, 26, 27, 28, 29, 30, 31, 32, 33, 34, 35, 52, 53, 54, 55, 56, 57, 58, 59, 60, 61, 62, 63, 64, 65, 66, 67, 68, 69] (by decide +kernel) (by decide +kernel)
set_option maxRecDepth 20000 in
theorem gX0_wearOut_X0_weighWear : GoodIn wsX0_wearOut (wsV RX0 95 RX0 yX0_weighWear wsX0_weighWear) := goodIn_app (goodIn_of _ (by decide +kernel)) ggX0_wearOut_X0_weighWear
set_option maxRecDepth 20000 in
theorem ggX0_wearOut_X0_wearOnce : GoodIn wsX0_wearOut wsX0_wearOnce := goodIn_r _ [39, 40, 41, 7, 62, 63, 64, 65, 66, 67, 68, 69, 52, 53, 54, 55] (by decide +kernel) (by decide +kernel)
set_option maxRecDepth 20000 in
theorem gX0_wearOut_X0_wearOnce : GoodIn wsX0_wearOut (wsV RX0 98 RX0 yX0_wearOnce wsX0_wearOnce) := goodIn_app (goodIn_of _ (by decide +kernel)) ggX0_wearOut_X0_wearOnce
set_option maxRecDepth 20000 in
theorem ggX0_wearOut_X5_isLoose : GoodIn wsX0_wearOut wsX5_isLoose := goodIn_r _ [46, 47, 48, 49, 45, 50, 51, 62, 63, 64, 65, 66, 67, 68, 69] (by decide +kernel) (by decide +kernel)
set_option maxRecDepth 20000 in
theorem gX0_wearOut_X5_isLoose : GoodIn wsX0_wearOut (wsV RX0 91 RX5 yX5_isLoose wsX5_isLoose) := goodIn_app (goodIn_of _ (by decide +kernel)) ggX0_wearOut_X5_isLoose
theorem dX0_wearOut_0 : decode cX0_wearOut 0 = .ok (.iconst 1, 1) := by decide +kernel
theorem dX0_wearOut_1 : decode cX0_wearOut 1 = .ok (.istore 5, 2) := by decide +kernel
theorem dX0_wearOut_3 : decode cX0_wearOut 3 = .ok (.iconst 1, 1) := by decide +kernel
theorem dX0_wearOut_4 : decode cX0_wearOut 4 = .ok (.istore 6, 2) := by decide +kernel
theorem dX0_wearOut_6 : decode cX0_wearOut 6 = .ok (.iload 6, 2) := by decide +kernel
theorem dX0_wearOut_8 : decode cX0_wearOut 8 = .ok (.iload_n 3, 1) := by decide +kernel
theorem dX0_wearOut_9 : decode cX0_wearOut 9 = .ok (.if_icmp .gt 44, 3) := by decide +kernel
theorem dX0_wearOut_12 : decode cX0_wearOut 12 = .ok (.iload 5, 2) := by decide +kernel
theorem dX0_wearOut_14 : decode cX0_wearOut 14 = .ok (.ifCond .eq 9, 3) := by decide +kernel
theorem dX0_wearOut_17 : decode cX0_wearOut 17 = .ok (.aload_n 0, 1) := by decide +kernel
theorem dX0_wearOut_18 : decode cX0_wearOut 18 = .ok (.aload_n 1, 1) := by decide +kernel
theorem dX0_wearOut_19 : decode cX0_wearOut 19 = .ok (.iload_n 2, 1) := by decide +kernel
theorem dX0_wearOut_20 : decode cX0_wearOut 20 = .ok (.invokevirtual 95, 3) := by decide +kernel
theorem dX0_wearOut_23 : decode cX0_wearOut 23 = .ok (.aload_n 0, 1) := by decide +kernel
theorem dX0_wearOut_24 : decode cX0_wearOut 24 = .ok (.aload_n 1, 1) := by decide +kernel
theorem dX0_wearOut_25 : decode cX0_wearOut 25 = .ok (.iload 4, 2) := by decide +kernel
theorem dX0_wearOut_27 : decode cX0_wearOut 27 = .ok (.invokevirtual 98, 3) := by decide +kernel
theorem dX0_wearOut_30 : decode cX0_wearOut 30 = .ok (.istore 5, 2) := by decide +kernel
theorem dX0_wearOut_32 : decode cX0_wearOut 32 = .ok (.iload 5, 2) := by decide +kernel
theorem dX0_wearOut_34 : decode cX0_wearOut 34 = .ok (.ifCond .eq 13, 3) := by decide +kernel
theorem dX0_wearOut_37 : decode cX0_wearOut 37 = .ok (.aload_n 1, 1) := by decide +kernel
theorem dX0_wearOut_38 : decode cX0_wearOut 38 = .ok (.invokevirtual 91, 3) := by decide +kernel
theorem dX0_wearOut_41 : decode cX0_wearOut 41 = .ok (.ifCond .eq 6, 3) := by decide +kernel
theorem dX0_wearOut_44 : decode cX0_wearOut 44 = .ok (.iload 6, 2) := by decide +kernel
theorem dX0_wearOut_46 : decode cX0_wearOut 46 = .ok (.ireturn, 1) := by decide +kernel
theorem dX0_wearOut_47 : decode cX0_wearOut 47 = .ok (.iinc 6 1, 3) := by decide +kernel
theorem dX0_wearOut_50 : decode cX0_wearOut 50 = .ok (.goto (-44), 3) := by decide +kernel
theorem dX0_wearOut_53 : decode cX0_wearOut 53 = .ok (.bipush (-6), 2) := by decide +kernel
theorem dX0_wearOut_55 : decode cX0_wearOut 55 = .ok (.ireturn, 1) := by decide +kernel
set_option maxRecDepth 20000 in
theorem ggX0_weighBack_X6_reckon : GoodIn wsX0_weighBack wsX6_reckon := goodIn_r _ [11, 12, 13, 14, 15, 10, 16, 17, 18, 19, 20, 21, 22, 23, 24, 25, 26, 27, 28, 33, 34, 35, 36, 37, 38, 39, 40, 41, 42, 43, 44, 45, 46] (by decide +kernel) (by decide +kernel)
set_option maxRecDepth 20000 in
theorem gX0_weighBack_X6_reckon : GoodIn wsX0_weighBack (wsV RX0 26 RX6 yX6_reckon wsX6_reckon) := goodIn_app (goodIn_of _ (by decide +kernel)) ggX0_weighBack_X6_reckon
theorem dX0_weighBack_0 : decode cX0_weighBack 0 = .ok (.aload_n 0, 1) := by decide +kernel
theorem dX0_weighBack_1 : decode cX0_weighBack 1 = .ok (.getfield 12, 3) := by decide +kernel
theorem dX0_weighBack_4 : decode cX0_weighBack 4 = .ok (.aload_n 1, 1) := by decide +kernel
theorem dX0_weighBack_5 : decode cX0_weighBack 5 = .ok (.iconst (-1), 1) := by decide +kernel
theorem dX0_weighBack_6 : decode cX0_weighBack 6 = .ok (.invokevirtual 26, 3) := by decide +kernel
theorem dX0_weighBack_9 : decode cX0_weighBack 9 = .ok (.pop, 1) := by decide +kernel
theorem dX0_weighBack_10 : decode cX0_weighBack 10 = .ok (.aload_n 0, 1) := by decide +kernel
theorem dX0_weighBack_11 : decode cX0_weighBack 11 = .ok (.getfield 12, 3) := by decide +kernel
theorem dX0_weighBack_14 : decode cX0_weighBack 14 = .ok (.getfield 52, 3) := by decide +kernel
theorem dX0_weighBack_17 : decode cX0_weighBack 17 = .ok (.lstore_n 3, 1) := by decide +kernel
theorem dX0_weighBack_18 : decode cX0_weighBack 18 = .ok (.aload_n 0, 1) := by decide +kernel
theorem dX0_weighBack_19 : decode cX0_weighBack 19 = .ok (.getfield 12, 3) := by decide +kernel
theorem dX0_weighBack_22 : decode cX0_weighBack 22 = .ok (.getfield 43, 3) := by decide +kernel
theorem dX0_weighBack_25 : decode cX0_weighBack 25 = .ok (.lstore 5, 2) := by decide +kernel
theorem dX0_weighBack_27 : decode cX0_weighBack 27 = .ok (.aload_n 0, 1) := by decide +kernel
theorem dX0_weighBack_28 : decode cX0_weighBack 28 = .ok (.getfield 12, 3) := by decide +kernel
theorem dX0_weighBack_31 : decode cX0_weighBack 31 = .ok (.aload_n 1, 1) := by decide +kernel
theorem dX0_weighBack_32 : decode cX0_weighBack 32 = .ok (.iload_n 2, 1) := by decide +kernel
theorem dX0_weighBack_33 : decode cX0_weighBack 33 = .ok (.invokevirtual 26, 3) := by decide +kernel
theorem dX0_weighBack_36 : decode cX0_weighBack 36 = .ok (.ifCond .eq 48, 3) := by decide +kernel
theorem dX0_weighBack_39 : decode cX0_weighBack 39 = .ok (.aload_n 0, 1) := by decide +kernel
theorem dX0_weighBack_40 : decode cX0_weighBack 40 = .ok (.aload_n 0, 1) := by decide +kernel
theorem dX0_weighBack_41 : decode cX0_weighBack 41 = .ok (.getfield 12, 3) := by decide +kernel
theorem dX0_weighBack_44 : decode cX0_weighBack 44 = .ok (.getfield 52, 3) := by decide +kernel
theorem dX0_weighBack_47 : decode cX0_weighBack 47 = .ok (.lload 5, 2) := by decide +kernel
theorem dX0_weighBack_49 : decode cX0_weighBack 49 = .ok (.lmul, 1) := by decide +kernel
theorem dX0_weighBack_50 : decode cX0_weighBack 50 = .ok (.lload_n 3, 1) := by decide +kernel
theorem dX0_weighBack_51 : decode cX0_weighBack 51 = .ok (.aload_n 0, 1) := by decide +kernel
theorem dX0_weighBack_52 : decode cX0_weighBack 52 = .ok (.getfield 12, 3) := by decide +kernel
theorem dX0_weighBack_55 : decode cX0_weighBack 55 = .ok (.getfield 43, 3) := by decide +kernel
theorem dX0_weighBack_58 : decode cX0_weighBack 58 = .ok (.lmul, 1) := by decide +kernel
theorem dX0_weighBack_59 : decode cX0_weighBack 59 = .ok (.lsub, 1) := by decide +kernel
theorem dX0_weighBack_60 : decode cX0_weighBack 60 = .ok (.putfield 73, 3) := by decide +kernel
theorem dX0_weighBack_63 : decode cX0_weighBack 63 = .ok (.aload_n 0, 1) := by decide +kernel
theorem dX0_weighBack_64 : decode cX0_weighBack 64 = .ok (.ldc2_w 101, 3) := by decide +kernel
theorem dX0_weighBack_67 : decode cX0_weighBack 67 = .ok (.lload 5, 2) := by decide +kernel
theorem dX0_weighBack_69 : decode cX0_weighBack 69 = .ok (.lmul, 1) := by decide +kernel
theorem dX0_weighBack_70 : decode cX0_weighBack 70 = .ok (.aload_n 0, 1) := by decide +kernel
theorem dX0_weighBack_71 : decode cX0_weighBack 71 = .ok (.getfield 12, 3) := by decide +kernel
theorem dX0_weighBack_74 : decode cX0_weighBack 74 = .ok (.getfield 43, 3) := by decide +kernel
theorem dX0_weighBack_77 : decode cX0_weighBack 77 = .ok (.lmul, 1) := by decide +kernel
theorem dX0_weighBack_78 : decode cX0_weighBack 78 = .ok (.putfield 22, 3) := by decide +kernel
theorem dX0_weighBack_81 : decode cX0_weighBack 81 = .ok (.goto 18, 3) := by decide +kernel
theorem dX0_weighBack_84 : decode cX0_weighBack 84 = .ok (.aload_n 0, 1) := by decide +kernel
theorem dX0_weighBack_85 : decode cX0_weighBack 85 = .ok (.lload_n 3, 1) := by decide +kernel
theorem dX0_weighBack_86 : decode cX0_weighBack 86 = .ok (.putfield 73, 3) := by decide +kernel
theorem dX0_weighBack_89 : decode cX0_weighBack 89 = .ok (.aload_n 0, 1) := by decide +kernel
theorem dX0_weighBack_90 : decode cX0_weighBack 90 = .ok (.ldc2_w 101, 3) := by decide +kernel
theorem dX0_weighBack_93 : decode cX0_weighBack 93 = .ok (.lload 5, 2) := by decide +kernel
theorem dX0_weighBack_95 : decode cX0_weighBack 95 = .ok (.lmul, 1) := by decide +kernel
theorem dX0_weighBack_96 : decode cX0_weighBack 96 = .ok (.putfield 22, 3) := by decide +kernel
theorem dX0_weighBack_99 : decode cX0_weighBack 99 = .ok (.return_, 1) := by decide +kernel
theorem dX0_isEnough_0 : decode cX0_isEnough 0 = .ok (.aload_n 0, 1) := by decide +kernel
theorem dX0_isEnough_1 : decode cX0_isEnough 1 = .ok (.getfield 73, 3) := by decide +kernel
theorem dX0_isEnough_4 : decode cX0_isEnough 4 = .ok (.iload_n 1, 1) := by decide +kernel
theorem dX0_isEnough_5 : decode cX0_isEnough 5 = .ok (.i2l, 1) := by decide +kernel
theorem dX0_isEnough_6 : decode cX0_isEnough 6 = .ok (.lmul, 1) := by decide +kernel
theorem dX0_isEnough_7 : decode cX0_isEnough 7 = .ok (.iload_n 1, 1) := by decide +kernel
theorem dX0_isEnough_8 : decode cX0_isEnough 8 = .ok (.i2l, 1) := by decide +kernel
theorem dX0_isEnough_9 : decode cX0_isEnough 9 = .ok (.lmul, 1) := by decide +kernel
theorem dX0_isEnough_10 : decode cX0_isEnough 10 = .ok (.aload_n 0, 1) := by decide +kernel
theorem dX0_isEnough_11 : decode cX0_isEnough 11 = .ok (.getfield 22, 3) := by decide +kernel
theorem dX0_isEnough_14 : decode cX0_isEnough 14 = .ok (.iload_n 2, 1) := by decide +kernel
theorem dX0_isEnough_15 : decode cX0_isEnough 15 = .ok (.i2l, 1) := by decide +kernel
theorem dX0_isEnough_16 : decode cX0_isEnough 16 = .ok (.lmul, 1) := by decide +kernel
theorem dX0_isEnough_17 : decode cX0_isEnough 17 = .ok (.lcmp, 1) := by decide +kernel
theorem dX0_isEnough_18 : decode cX0_isEnough 18 = .ok (.ifCond .lt 7, 3) := by decide +kernel
theorem dX0_isEnough_21 : decode cX0_isEnough 21 = .ok (.iconst 1, 1) := by decide +kernel
theorem dX0_isEnough_22 : decode cX0_isEnough 22 = .ok (.goto 4, 3) := by decide +kernel
theorem dX0_isEnough_25 : decode cX0_isEnough 25 = .ok (.iconst 0, 1) := by decide +kernel
theorem dX0_isEnough_26 : decode cX0_isEnough 26 = .ok (.ireturn, 1) := by decide +kernel
set_option maxRecDepth 20000 in
theorem ggX0_leastPullOf_X0_isEnough : GoodIn wsX0_leastPullOf wsX0_isEnough := goodIn_r _ [5, 6, 7, 8, 9, 10, 11] (by decide +kernel) (by decide +kernel)
set_option maxRecDepth 20000 in
theorem gX0_leastPullOf_X0_isEnough : GoodIn wsX0_leastPullOf (wsV RX0 103 RX0 yX0_isEnough wsX0_isEnough) := goodIn_app (goodIn_of _ (by decide +kernel)) ggX0_leastPullOf_X0_isEnough
theorem dX0_leastPullOf_0 : decode cX0_leastPullOf 0 = .ok (.iconst 1, 1) := by decide +kernel
theorem dX0_leastPullOf_1 : decode cX0_leastPullOf 1 = .ok (.istore_n 3, 1) := by decide +kernel
theorem dX0_leastPullOf_2 : decode cX0_leastPullOf 2 = .ok (.iload_n 3, 1) := by decide +kernel
theorem dX0_leastPullOf_3 : decode cX0_leastPullOf 3 = .ok (.iload_n 2, 1) := by decide +kernel
theorem dX0_leastPullOf_4 : decode cX0_leastPullOf 4 = .ok (.if_icmp .ge 20, 3) := by decide +kernel
theorem dX0_leastPullOf_7 : decode cX0_leastPullOf 7 = .ok (.aload_n 0, 1) := by decide +kernel
theorem dX0_leastPullOf_8 : decode cX0_leastPullOf 8 = .ok (.iload_n 3, 1) := by decide +kernel
theorem dX0_leastPullOf_9 : decode cX0_leastPullOf 9 = .ok (.iload_n 1, 1) := by decide +kernel
theorem dX0_leastPullOf_10 : decode cX0_leastPullOf 10 = .ok (.invokevirtual 103, 3) := by decide +kernel
theorem dX0_leastPullOf_13 : decode cX0_leastPullOf 13 = .ok (.ifCond .eq 5, 3) := by decide +kernel
theorem dX0_leastPullOf_16 : decode cX0_leastPullOf 16 = .ok (.iload_n 3, 1) := by decide +kernel
theorem dX0_leastPullOf_17 : decode cX0_leastPullOf 17 = .ok (.ireturn, 1) := by decide +kernel
theorem dX0_leastPullOf_18 : decode cX0_leastPullOf 18 = .ok (.iinc 3 1, 3) := by decide +kernel
theorem dX0_leastPullOf_21 : decode cX0_leastPullOf 21 = .ok (.goto (-19), 3) := by decide +kernel
theorem dX0_leastPullOf_24 : decode cX0_leastPullOf 24 = .ok (.iload_n 2, 1) := by decide +kernel
theorem dX0_leastPullOf_25 : decode cX0_leastPullOf 25 = .ok (.ireturn, 1) := by decide +kernel
set_option maxRecDepth 20000 in
theorem ggX0_goesBy_X0_weighBack : GoodIn wsX0_goesBy wsX0_weighBack := goodIn_r _ [7, 8, 9, 10, 11, 12, 13, 14, 15, 16, 17, 18, 19, 20, 21, 22, 23, 24, 25, 26, 27, 28, 29, 30, 31, 32, 33, 34, 35, 48, 49, 50, 51, 52, 53, 54, 55, 56, 57, 40, 41, 42, 43, 44, 45, 46, 47] (by decide +kernel) (by decide +kernel)
set_option maxRecDepth 20000 in
theorem gX0_goesBy_X0_weighBack : GoodIn wsX0_goesBy (wsV RX0 69 RX0 yX0_weighBack wsX0_weighBack) := goodIn_app (goodIn_of _ (by decide +kernel)) ggX0_goesBy_X0_weighBack
set_option maxRecDepth 20000 in
theorem ggX0_goesBy_X0_isEnough : GoodIn wsX0_goesBy wsX0_isEnough := goodIn_r _ [39, 11, 13, 48, 49, 50, 51] (by decide +kernel) (by decide +kernel)
set_option maxRecDepth 20000 in
theorem gX0_goesBy_X0_isEnough : GoodIn wsX0_goesBy (wsV RX0 103 RX0 yX0_isEnough wsX0_isEnough) := goodIn_app (goodIn_of _ (by decide +kernel)) ggX0_goesBy_X0_isEnough
theorem dX0_goesBy_0 : decode cX0_goesBy 0 = .ok (.aload_n 1, 1) := by decide +kernel
theorem dX0_goesBy_1 : decode cX0_goesBy 1 = .ok (.getfield 63, 3) := by decide +kernel
theorem dX0_goesBy_4 : decode cX0_goesBy 4 = .ok (.iload_n 2, 1) := by decide +kernel
theorem dX0_goesBy_5 : decode cX0_goesBy 5 = .ok (.iaload, 1) := by decide +kernel
theorem dX0_goesBy_6 : decode cX0_goesBy 6 = .ok (.ifCond .ne 5, 3) := by decide +kernel
theorem dX0_goesBy_9 : decode cX0_goesBy 9 = .ok (.iconst 0, 1) := by decide +kernel
theorem dX0_goesBy_10 : decode cX0_goesBy 10 = .ok (.ireturn, 1) := by decide +kernel
theorem dX0_goesBy_11 : decode cX0_goesBy 11 = .ok (.aload_n 0, 1) := by decide +kernel
theorem dX0_goesBy_12 : decode cX0_goesBy 12 = .ok (.aload_n 1, 1) := by decide +kernel
theorem dX0_goesBy_13 : decode cX0_goesBy 13 = .ok (.iload_n 2, 1) := by decide +kernel
theorem dX0_goesBy_14 : decode cX0_goesBy 14 = .ok (.invokevirtual 69, 3) := by decide +kernel
theorem dX0_goesBy_17 : decode cX0_goesBy 17 = .ok (.aload_n 0, 1) := by decide +kernel
theorem dX0_goesBy_18 : decode cX0_goesBy 18 = .ok (.iload_n 3, 1) := by decide +kernel
theorem dX0_goesBy_19 : decode cX0_goesBy 19 = .ok (.aload_n 1, 1) := by decide +kernel
theorem dX0_goesBy_20 : decode cX0_goesBy 20 = .ok (.getfield 80, 3) := by decide +kernel
theorem dX0_goesBy_23 : decode cX0_goesBy 23 = .ok (.iload_n 2, 1) := by decide +kernel
theorem dX0_goesBy_24 : decode cX0_goesBy 24 = .ok (.iaload, 1) := by decide +kernel
theorem dX0_goesBy_25 : decode cX0_goesBy 25 = .ok (.invokevirtual 103, 3) := by decide +kernel
theorem dX0_goesBy_28 : decode cX0_goesBy 28 = .ok (.ireturn, 1) := by decide +kernel
set_option maxRecDepth 20000 in
theorem ggX0_lowestSpreading_X0_goesBy : GoodIn wsX0_lowestSpreading wsX0_goesBy := goodIn_r _ [5, 6, 7, 8, 9, 10, 4, 11, 12, 13, 14, 15, 16, 17, 18, 19, 20, 21, 22, 23, 24, 25, 26, 27, 28, 29, 30, 31, 32, 33, 34, 35, 36, 37, 38, 39, 40, 41, 42, 43, 44, 45, 46, 47, 48, 49, 50, 51, 52, 53, 54, 55, 56, 57, 58, 59, 60, 61] (by decide +kernel) (by decide +kernel)
set_option maxRecDepth 20000 in
theorem gX0_lowestSpreading_X0_goesBy : GoodIn wsX0_lowestSpreading (wsV RX0 76 RX0 yX0_goesBy wsX0_goesBy) := goodIn_app (goodIn_of _ (by decide +kernel)) ggX0_lowestSpreading_X0_goesBy
theorem dX0_lowestSpreading_0 : decode cX0_lowestSpreading 0 = .ok (.iconst 0, 1) := by decide +kernel
theorem dX0_lowestSpreading_1 : decode cX0_lowestSpreading 1 = .ok (.istore_n 3, 1) := by decide +kernel
theorem dX0_lowestSpreading_2 : decode cX0_lowestSpreading 2 = .ok (.iload_n 3, 1) := by decide +kernel
theorem dX0_lowestSpreading_3 : decode cX0_lowestSpreading 3 = .ok (.iconst 5, 1) := by decide +kernel
theorem dX0_lowestSpreading_4 : decode cX0_lowestSpreading 4 = .ok (.if_icmp .ge 21, 3) := by decide +kernel
theorem dX0_lowestSpreading_7 : decode cX0_lowestSpreading 7 = .ok (.aload_n 0, 1) := by decide +kernel
theorem dX0_lowestSpreading_8 : decode cX0_lowestSpreading 8 = .ok (.aload_n 1, 1) := by decide +kernel
theorem dX0_lowestSpreading_9 : decode cX0_lowestSpreading 9 = .ok (.iload_n 3, 1) := by decide +kernel
theorem dX0_lowestSpreading_10 : decode cX0_lowestSpreading 10 = .ok (.iload_n 2, 1) := by decide +kernel
theorem dX0_lowestSpreading_11 : decode cX0_lowestSpreading 11 = .ok (.invokevirtual 76, 3) := by decide +kernel
theorem dX0_lowestSpreading_14 : decode cX0_lowestSpreading 14 = .ok (.ifCond .eq 5, 3) := by decide +kernel
theorem dX0_lowestSpreading_17 : decode cX0_lowestSpreading 17 = .ok (.iload_n 3, 1) := by decide +kernel
theorem dX0_lowestSpreading_18 : decode cX0_lowestSpreading 18 = .ok (.ireturn, 1) := by decide +kernel
theorem dX0_lowestSpreading_19 : decode cX0_lowestSpreading 19 = .ok (.iinc 3 1, 3) := by decide +kernel
theorem dX0_lowestSpreading_22 : decode cX0_lowestSpreading 22 = .ok (.goto (-20), 3) := by decide +kernel
theorem dX0_lowestSpreading_25 : decode cX0_lowestSpreading 25 = .ok (.iconst (-1), 1) := by decide +kernel
theorem dX0_lowestSpreading_26 : decode cX0_lowestSpreading 26 = .ok (.ireturn, 1) := by decide +kernel
set_option maxRecDepth 20000 in
theorem ggX0_weighWear_X6_reckon : GoodIn wsX0_weighWear wsX6_reckon := goodIn_r _ [13, 14, 15, 16, 17, 12, 18, 19, 20, 21, 22, 23, 24, 25, 26, 27, 28, 29, 30, 35, 36, 37, 38, 39, 40, 41, 42, 43, 44, 45, 46, 47, 48] (by decide +kernel) (by decide +kernel)
set_option maxRecDepth 20000 in
theorem gX0_weighWear_X6_reckon : GoodIn wsX0_weighWear (wsV RX0 26 RX6 yX6_reckon wsX6_reckon) := goodIn_app (goodIn_of _ (by decide +kernel)) ggX0_weighWear_X6_reckon
theorem dX0_weighWear_0 : decode cX0_weighWear 0 = .ok (.aload_n 0, 1) := by decide +kernel
theorem dX0_weighWear_1 : decode cX0_weighWear 1 = .ok (.getfield 12, 3) := by decide +kernel
theorem dX0_weighWear_4 : decode cX0_weighWear 4 = .ok (.aload_n 1, 1) := by decide +kernel
theorem dX0_weighWear_5 : decode cX0_weighWear 5 = .ok (.iconst (-1), 1) := by decide +kernel
theorem dX0_weighWear_6 : decode cX0_weighWear 6 = .ok (.invokevirtual 26, 3) := by decide +kernel
theorem dX0_weighWear_9 : decode cX0_weighWear 9 = .ok (.istore_n 3, 1) := by decide +kernel
theorem dX0_weighWear_10 : decode cX0_weighWear 10 = .ok (.iconst 0, 1) := by decide +kernel
theorem dX0_weighWear_11 : decode cX0_weighWear 11 = .ok (.istore 4, 2) := by decide +kernel
theorem dX0_weighWear_13 : decode cX0_weighWear 13 = .ok (.iload 4, 2) := by decide +kernel
theorem dX0_weighWear_15 : decode cX0_weighWear 15 = .ok (.iconst 5, 1) := by decide +kernel
theorem dX0_weighWear_16 : decode cX0_weighWear 16 = .ok (.if_icmp .ge 52, 3) := by decide +kernel
theorem dX0_weighWear_19 : decode cX0_weighWear 19 = .ok (.aload_n 0, 1) := by decide +kernel
theorem dX0_weighWear_20 : decode cX0_weighWear 20 = .ok (.getfield 18, 3) := by decide +kernel
theorem dX0_weighWear_23 : decode cX0_weighWear 23 = .ok (.iload 4, 2) := by decide +kernel
theorem dX0_weighWear_25 : decode cX0_weighWear 25 = .ok (.iload_n 3, 1) := by decide +kernel
theorem dX0_weighWear_26 : decode cX0_weighWear 26 = .ok (.ifCond .eq 34, 3) := by decide +kernel
theorem dX0_weighWear_29 : decode cX0_weighWear 29 = .ok (.sipush 1000, 3) := by decide +kernel
theorem dX0_weighWear_32 : decode cX0_weighWear 32 = .ok (.iload_n 2, 1) := by decide +kernel
theorem dX0_weighWear_33 : decode cX0_weighWear 33 = .ok (.imul, 1) := by decide +kernel
theorem dX0_weighWear_34 : decode cX0_weighWear 34 = .ok (.i2l, 1) := by decide +kernel
theorem dX0_weighWear_35 : decode cX0_weighWear 35 = .ok (.aload_n 0, 1) := by decide +kernel
theorem dX0_weighWear_36 : decode cX0_weighWear 36 = .ok (.getfield 12, 3) := by decide +kernel
theorem dX0_weighWear_39 : decode cX0_weighWear 39 = .ok (.getfield 37, 3) := by decide +kernel
theorem dX0_weighWear_42 : decode cX0_weighWear 42 = .ok (.iload 4, 2) := by decide +kernel
theorem dX0_weighWear_44 : decode cX0_weighWear 44 = .ok (.laload, 1) := by decide +kernel
theorem dX0_weighWear_45 : decode cX0_weighWear 45 = .ok (.invokestatic 57, 3) := by decide +kernel
theorem dX0_weighWear_48 : decode cX0_weighWear 48 = .ok (.lmul, 1) := by decide +kernel
theorem dX0_weighWear_49 : decode cX0_weighWear 49 = .ok (.aload_n 0, 1) := by decide +kernel
theorem dX0_weighWear_50 : decode cX0_weighWear 50 = .ok (.getfield 12, 3) := by decide +kernel
theorem dX0_weighWear_53 : decode cX0_weighWear 53 = .ok (.getfield 43, 3) := by decide +kernel
theorem dX0_weighWear_56 : decode cX0_weighWear 56 = .ok (.ldiv, 1) := by decide +kernel
theorem dX0_weighWear_57 : decode cX0_weighWear 57 = .ok (.goto 4, 3) := by decide +kernel
theorem dX0_weighWear_60 : decode cX0_weighWear 60 = .ok (.lconst 0, 1) := by decide +kernel
theorem dX0_weighWear_61 : decode cX0_weighWear 61 = .ok (.lastore, 1) := by decide +kernel
theorem dX0_weighWear_62 : decode cX0_weighWear 62 = .ok (.iinc 4 1, 3) := by decide +kernel
theorem dX0_weighWear_65 : decode cX0_weighWear 65 = .ok (.goto (-52), 3) := by decide +kernel
theorem dX0_weighWear_68 : decode cX0_weighWear 68 = .ok (.return_, 1) := by decide +kernel
theorem dX0_wearOnce_0 : decode cX0_wearOnce 0 = .ok (.iconst 0, 1) := by decide +kernel
theorem dX0_wearOnce_1 : decode cX0_wearOnce 1 = .ok (.istore_n 3, 1) := by decide +kernel
theorem dX0_wearOnce_2 : decode cX0_wearOnce 2 = .ok (.iconst 0, 1) := by decide +kernel
theorem dX0_wearOnce_3 : decode cX0_wearOnce 3 = .ok (.istore 4, 2) := by decide +kernel
theorem dX0_wearOnce_5 : decode cX0_wearOnce 5 = .ok (.iload 4, 2) := by decide +kernel
theorem dX0_wearOnce_7 : decode cX0_wearOnce 7 = .ok (.iconst 5, 1) := by decide +kernel
theorem dX0_wearOnce_8 : decode cX0_wearOnce 8 = .ok (.if_icmp .ge 58, 3) := by decide +kernel
theorem dX0_wearOnce_11 : decode cX0_wearOnce 11 = .ok (.aload_n 1, 1) := by decide +kernel
theorem dX0_wearOnce_12 : decode cX0_wearOnce 12 = .ok (.getfield 63, 3) := by decide +kernel
theorem dX0_wearOnce_15 : decode cX0_wearOnce 15 = .ok (.iload 4, 2) := by decide +kernel
theorem dX0_wearOnce_17 : decode cX0_wearOnce 17 = .ok (.iaload, 1) := by decide +kernel
theorem dX0_wearOnce_18 : decode cX0_wearOnce 18 = .ok (.ifCond .le 42, 3) := by decide +kernel
theorem dX0_wearOnce_21 : decode cX0_wearOnce 21 = .ok (.aload_n 1, 1) := by decide +kernel
theorem dX0_wearOnce_22 : decode cX0_wearOnce 22 = .ok (.getfield 107, 3) := by decide +kernel
theorem dX0_wearOnce_25 : decode cX0_wearOnce 25 = .ok (.iload 4, 2) := by decide +kernel
theorem dX0_wearOnce_27 : decode cX0_wearOnce 27 = .ok (.dup2, 1) := by decide +kernel
theorem dX0_wearOnce_28 : decode cX0_wearOnce 28 = .ok (.iaload, 1) := by decide +kernel
theorem dX0_wearOnce_29 : decode cX0_wearOnce 29 = .ok (.aload_n 0, 1) := by decide +kernel
theorem dX0_wearOnce_30 : decode cX0_wearOnce 30 = .ok (.getfield 18, 3) := by decide +kernel
theorem dX0_wearOnce_33 : decode cX0_wearOnce 33 = .ok (.iload 4, 2) := by decide +kernel
theorem dX0_wearOnce_35 : decode cX0_wearOnce 35 = .ok (.laload, 1) := by decide +kernel
theorem dX0_wearOnce_36 : decode cX0_wearOnce 36 = .ok (.l2i, 1) := by decide +kernel
theorem dX0_wearOnce_37 : decode cX0_wearOnce 37 = .ok (.iadd, 1) := by decide +kernel
theorem dX0_wearOnce_38 : decode cX0_wearOnce 38 = .ok (.iastore, 1) := by decide +kernel
theorem dX0_wearOnce_39 : decode cX0_wearOnce 39 = .ok (.aload_n 1, 1) := by decide +kernel
theorem dX0_wearOnce_40 : decode cX0_wearOnce 40 = .ok (.getfield 107, 3) := by decide +kernel
theorem dX0_wearOnce_43 : decode cX0_wearOnce 43 = .ok (.iload 4, 2) := by decide +kernel
theorem dX0_wearOnce_45 : decode cX0_wearOnce 45 = .ok (.iaload, 1) := by decide +kernel
theorem dX0_wearOnce_46 : decode cX0_wearOnce 46 = .ok (.iload_n 2, 1) := by decide +kernel
theorem dX0_wearOnce_47 : decode cX0_wearOnce 47 = .ok (.if_icmp .lt 13, 3) := by decide +kernel
theorem dX0_wearOnce_50 : decode cX0_wearOnce 50 = .ok (.aload_n 1, 1) := by decide +kernel
theorem dX0_wearOnce_51 : decode cX0_wearOnce 51 = .ok (.getfield 63, 3) := by decide +kernel
theorem dX0_wearOnce_54 : decode cX0_wearOnce 54 = .ok (.iload 4, 2) := by decide +kernel
theorem dX0_wearOnce_56 : decode cX0_wearOnce 56 = .ok (.iconst 0, 1) := by decide +kernel
theorem dX0_wearOnce_57 : decode cX0_wearOnce 57 = .ok (.iastore, 1) := by decide +kernel
theorem dX0_wearOnce_58 : decode cX0_wearOnce 58 = .ok (.iconst 1, 1) := by decide +kernel
theorem dX0_wearOnce_59 : decode cX0_wearOnce 59 = .ok (.istore_n 3, 1) := by decide +kernel
theorem dX0_wearOnce_60 : decode cX0_wearOnce 60 = .ok (.iinc 4 1, 3) := by decide +kernel
theorem dX0_wearOnce_63 : decode cX0_wearOnce 63 = .ok (.goto (-58), 3) := by decide +kernel
theorem dX0_wearOnce_66 : decode cX0_wearOnce 66 = .ok (.iload_n 3, 1) := by decide +kernel
theorem dX0_wearOnce_67 : decode cX0_wearOnce 67 = .ok (.ireturn, 1) := by decide +kernel
