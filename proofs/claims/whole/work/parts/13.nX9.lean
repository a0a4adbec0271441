set_option maxRecDepth 20000 in
theorem ggX9_init_X7_init : GoodIn wsX9_init wsX7_init := goodIn_r _ [46, 47, 2, 3, 26, 48, 114, 115] (by decide +kernel) (by decide +kernel)
set_option maxRecDepth 20000 in
theorem gX9_init_X7_init : GoodIn wsX9_init (wsX7_init) := ggX9_init_X7_init
set_option maxRecDepth 20000 in
theorem ggX9_init_X0_init : GoodIn wsX9_init wsX0_init := goodIn_r _ [51, 52, 2, 3, 53, 54, 55, 56, 57, 58, 59, 60, 61, 62, 63, 64, 65, 66, 67, 157, 158, 159, 160, 161, 162, 126, 127, 128, 129] (by decide +kernel) (by decide +kernel)
set_option maxRecDepth 20000 in
theorem gX9_init_X0_init : GoodIn wsX9_init (wsX0_init) := ggX9_init_X0_init
set_option maxRecDepth 20000 in
theorem ggX9_init_X2_init : GoodIn wsX9_init wsX2_init := goodIn_r _ [70, 71, 2, 3, 72, 73, 130, 131] (by decide +kernel) (by decide +kernel)
set_option maxRecDepth 20000 in
theorem gX9_init_X2_init : GoodIn wsX9_init (wsX2_init) := ggX9_init_X2_init
set_option maxRecDepth 20000 in
theorem ggX9_init_X3_init : GoodIn wsX9_init wsX3_init := goodIn_r _ [76, 77, 2, 3, 26, 78, 79, 80, 81, 82, 83, 84, 132, 133, 134, 135, 136, 137, 138, 139, 140, 141, 142] (by decide +kernel) (by decide +kernel)
set_option maxRecDepth 20000 in
theorem gX9_init_X3_init : GoodIn wsX9_init (wsX3_init) := ggX9_init_X3_init
set_option maxRecDepth 20000 in
theorem ggX9_init_X8_init : GoodIn wsX9_init wsX8_init := goodIn_r _ [87, 88, 2, 3, 26, 89, 90, 91, 57, 92, 143, 144, 145, 146] (by decide +kernel) (by decide +kernel)
set_option maxRecDepth 20000 in
theorem gX9_init_X8_init : GoodIn wsX9_init (wsX8_init) := ggX9_init_X8_init
set_option maxRecDepth 20000 in
theorem ggX9_init_X4_init : GoodIn wsX9_init wsX4_init := goodIn_r _ [95, 96, 2, 3, 26, 97, 98, 99, 100, 101, 102, 103, 104, 105, 147, 148, 149, 150, 151] (by decide +kernel) (by decide +kernel)
set_option maxRecDepth 20000 in
theorem gX9_init_X4_init : GoodIn wsX9_init (wsX4_init) := ggX9_init_X4_init
set_option maxRecDepth 20000 in
theorem ggX9_init_X1_init : GoodIn wsX9_init wsX1_init := goodIn_r _ [108, 109, 2, 3, 26, 110, 111, 112, 113, 152, 153, 154, 155, 156] (by decide +kernel) (by decide +kernel)
set_option maxRecDepth 20000 in
theorem gX9_init_X1_init : GoodIn wsX9_init (wsX1_init) := ggX9_init_X1_init
theorem dX9_init_0 : decode cX9_init 0 = .ok (.aload_n 0, 1) := by decide +kernel
theorem dX9_init_1 : decode cX9_init 1 = .ok (.invokespecial 1, 3) := by decide +kernel
theorem dX9_init_4 : decode cX9_init 4 = .ok (.aload_n 0, 1) := by decide +kernel
theorem dX9_init_5 : decode cX9_init 5 = .ok (.new 7, 3) := by decide +kernel
theorem dX9_init_8 : decode cX9_init 8 = .ok (.dup, 1) := by decide +kernel
theorem dX9_init_9 : decode cX9_init 9 = .ok (.invokespecial 9, 3) := by decide +kernel
theorem dX9_init_12 : decode cX9_init 12 = .ok (.putfield 10, 3) := by decide +kernel
theorem dX9_init_15 : decode cX9_init 15 = .ok (.aload_n 0, 1) := by decide +kernel
theorem dX9_init_16 : decode cX9_init 16 = .ok (.bipush 6, 2) := by decide +kernel
theorem dX9_init_18 : decode cX9_init 18 = .ok (.anewarray 16, 3) := by decide +kernel
theorem dX9_init_21 : decode cX9_init 21 = .ok (.putfield 18, 3) := by decide +kernel
theorem dX9_init_24 : decode cX9_init 24 = .ok (.aload_n 0, 1) := by decide +kernel
theorem dX9_init_25 : decode cX9_init 25 = .ok (.new 22, 3) := by decide +kernel
theorem dX9_init_28 : decode cX9_init 28 = .ok (.dup, 1) := by decide +kernel
theorem dX9_init_29 : decode cX9_init 29 = .ok (.invokespecial 24, 3) := by decide +kernel
theorem dX9_init_32 : decode cX9_init 32 = .ok (.putfield 25, 3) := by decide +kernel
theorem dX9_init_35 : decode cX9_init 35 = .ok (.aload_n 0, 1) := by decide +kernel
theorem dX9_init_36 : decode cX9_init 36 = .ok (.new 29, 3) := by decide +kernel
theorem dX9_init_39 : decode cX9_init 39 = .ok (.dup, 1) := by decide +kernel
theorem dX9_init_40 : decode cX9_init 40 = .ok (.invokespecial 31, 3) := by decide +kernel
theorem dX9_init_43 : decode cX9_init 43 = .ok (.putfield 32, 3) := by decide +kernel
theorem dX9_init_46 : decode cX9_init 46 = .ok (.aload_n 0, 1) := by decide +kernel
theorem dX9_init_47 : decode cX9_init 47 = .ok (.getstatic 36, 3) := by decide +kernel
theorem dX9_init_50 : decode cX9_init 50 = .ok (.invokevirtual 40, 3) := by decide +kernel
theorem dX9_init_53 : decode cX9_init 53 = .ok (.checkcast 41, 3) := by decide +kernel
theorem dX9_init_56 : decode cX9_init 56 = .ok (.putfield 45, 3) := by decide +kernel
theorem dX9_init_59 : decode cX9_init 59 = .ok (.aload_n 0, 1) := by decide +kernel
theorem dX9_init_60 : decode cX9_init 60 = .ok (.iconst 5, 1) := by decide +kernel
theorem dX9_init_61 : decode cX9_init 61 = .ok (.newarray .int, 2) := by decide +kernel
theorem dX9_init_63 : decode cX9_init 63 = .ok (.putfield 48, 3) := by decide +kernel
theorem dX9_init_66 : decode cX9_init 66 = .ok (.aload_n 0, 1) := by decide +kernel
theorem dX9_init_67 : decode cX9_init 67 = .ok (.new 51, 3) := by decide +kernel
theorem dX9_init_70 : decode cX9_init 70 = .ok (.dup, 1) := by decide +kernel
theorem dX9_init_71 : decode cX9_init 71 = .ok (.invokespecial 53, 3) := by decide +kernel
theorem dX9_init_74 : decode cX9_init 74 = .ok (.putfield 54, 3) := by decide +kernel
theorem dX9_init_77 : decode cX9_init 77 = .ok (.aload_n 0, 1) := by decide +kernel
theorem dX9_init_78 : decode cX9_init 78 = .ok (.new 58, 3) := by decide +kernel
theorem dX9_init_81 : decode cX9_init 81 = .ok (.dup, 1) := by decide +kernel
theorem dX9_init_82 : decode cX9_init 82 = .ok (.invokespecial 60, 3) := by decide +kernel
theorem dX9_init_85 : decode cX9_init 85 = .ok (.putfield 61, 3) := by decide +kernel
theorem dX9_init_88 : decode cX9_init 88 = .ok (.aload_n 0, 1) := by decide +kernel
theorem dX9_init_89 : decode cX9_init 89 = .ok (.new 65, 3) := by decide +kernel
theorem dX9_init_92 : decode cX9_init 92 = .ok (.dup, 1) := by decide +kernel
theorem dX9_init_93 : decode cX9_init 93 = .ok (.invokespecial 67, 3) := by decide +kernel
theorem dX9_init_96 : decode cX9_init 96 = .ok (.putfield 68, 3) := by decide +kernel
theorem dX9_init_99 : decode cX9_init 99 = .ok (.aload_n 0, 1) := by decide +kernel
theorem dX9_init_100 : decode cX9_init 100 = .ok (.new 72, 3) := by decide +kernel
theorem dX9_init_103 : decode cX9_init 103 = .ok (.dup, 1) := by decide +kernel
theorem dX9_init_104 : decode cX9_init 104 = .ok (.invokespecial 74, 3) := by decide +kernel
theorem dX9_init_107 : decode cX9_init 107 = .ok (.putfield 75, 3) := by decide +kernel
theorem dX9_init_110 : decode cX9_init 110 = .ok (.return_, 1) := by decide +kernel
set_option maxRecDepth 20000 in
theorem ggX9_say_X9_within : GoodIn wsX9_say wsX9_within := goodIn_r _ [5] (by decide +kernel) (by decide +kernel)
set_option maxRecDepth 20000 in
theorem gX9_say_X9_within : GoodIn wsX9_say (va_wsS RX9 79 yX9_within wsX9_within) := goodIn_app (goodIn_of _ (by decide +kernel)) ggX9_say_X9_within
set_option maxRecDepth 20000 in
theorem ggX9_say_X7_append : GoodIn wsX9_say wsX7_append := goodIn_r _ [10, 11, 12, 23, 24] (by decide +kernel) (by decide +kernel)
set_option maxRecDepth 20000 in
theorem gX9_say_X7_append : GoodIn wsX9_say (wsV RX9 83 RX7 yX7_append wsX7_append) := goodIn_app (goodIn_of _ (by decide +kernel)) ggX9_say_X7_append
theorem dX9_say_0 : decode cX9_say 0 = .ok (.iload_n 1, 1) := by decide +kernel
theorem dX9_say_1 : decode cX9_say 1 = .ok (.bipush 33, 2) := by decide +kernel
theorem dX9_say_3 : decode cX9_say 3 = .ok (.bipush 126, 2) := by decide +kernel
theorem dX9_say_5 : decode cX9_say 5 = .ok (.invokestatic 79, 3) := by decide +kernel
theorem dX9_say_8 : decode cX9_say 8 = .ok (.ifCond .ne 6, 3) := by decide +kernel
theorem dX9_say_11 : decode cX9_say 11 = .ok (.bipush (-2), 2) := by decide +kernel
theorem dX9_say_13 : decode cX9_say 13 = .ok (.ireturn, 1) := by decide +kernel
theorem dX9_say_14 : decode cX9_say 14 = .ok (.aload_n 0, 1) := by decide +kernel
theorem dX9_say_15 : decode cX9_say 15 = .ok (.getfield 10, 3) := by decide +kernel
theorem dX9_say_18 : decode cX9_say 18 = .ok (.iload_n 1, 1) := by decide +kernel
theorem dX9_say_19 : decode cX9_say 19 = .ok (.invokevirtual 83, 3) := by decide +kernel
theorem dX9_say_22 : decode cX9_say 22 = .ok (.ireturn, 1) := by decide +kernel
set_option maxRecDepth 20000 in
theorem ggX9_wipe_X7_clear : GoodIn wsX9_wipe wsX7_clear := goodIn_r _ [6, 7, 18, 19] (by decide +kernel) (by decide +kernel)
set_option maxRecDepth 20000 in
theorem gX9_wipe_X7_clear : GoodIn wsX9_wipe (wsV RX9 87 RX7 yX7_clear wsX7_clear) := goodIn_app (goodIn_of _ (by decide +kernel)) ggX9_wipe_X7_clear
theorem dX9_wipe_0 : decode cX9_wipe 0 = .ok (.aload_n 0, 1) := by decide +kernel
theorem dX9_wipe_1 : decode cX9_wipe 1 = .ok (.getfield 10, 3) := by decide +kernel
theorem dX9_wipe_4 : decode cX9_wipe 4 = .ok (.invokevirtual 87, 3) := by decide +kernel
theorem dX9_wipe_7 : decode cX9_wipe 7 = .ok (.ireturn, 1) := by decide +kernel
set_option maxRecDepth 20000 in
theorem ggX9_fault_X7_faultPlace : GoodIn wsX9_fault wsX7_faultPlace := goodIn_r _ [6, 7, 8, 9, 10, 5, 11, 12, 13, 14, 15, 16, 17, 18, 19, 30, 31] (by decide +kernel) (by decide +kernel)
set_option maxRecDepth 20000 in
theorem gX9_fault_X7_faultPlace : GoodIn wsX9_fault (wsV RX9 91 RX7 yX7_faultPlace wsX7_faultPlace) := goodIn_app (goodIn_of _ (by decide +kernel)) ggX9_fault_X7_faultPlace
theorem dX9_fault_0 : decode cX9_fault 0 = .ok (.aload_n 0, 1) := by decide +kernel
theorem dX9_fault_1 : decode cX9_fault 1 = .ok (.getfield 10, 3) := by decide +kernel
theorem dX9_fault_4 : decode cX9_fault 4 = .ok (.invokevirtual 91, 3) := by decide +kernel
theorem dX9_fault_7 : decode cX9_fault 7 = .ok (.ireturn, 1) := by decide +kernel
set_option maxRecDepth 20000 in
theorem ggX9_read_X9_within : GoodIn wsX9_read wsX9_within := goodIn_r _ [10] (by decide +kernel) (by decide +kernel)
set_option maxRecDepth 20000 in
theorem gX9_read_X9_within : GoodIn wsX9_read (va_wsS RX9 79 yX9_within wsX9_within) := goodIn_app (goodIn_of _ (by decide +kernel)) ggX9_read_X9_within
set_option maxRecDepth 20000 in
theorem ggX9_read_X7_faultPlace : GoodIn wsX9_read wsX7_faultPlace := goodIn_r _ [15, 16, 17, 18, 19, 14, 20, 21, 22, 23, 24, 25, 8, 9, 10, 91, 92] (by decide +kernel) (by decide +kernel)
set_option maxRecDepth 20000 in
theorem gX9_read_X7_faultPlace : GoodIn wsX9_read (wsV RX9 91 RX7 yX7_faultPlace wsX7_faultPlace) := goodIn_app (goodIn_of _ (by decide +kernel)) ggX9_read_X7_faultPlace
set_option maxRecDepth 20000 in
theorem ggX9_read_X5_init : GoodIn wsX9_read wsX5_init := goodIn_r _ [28, 29, 30, 31, 32, 33, 34, 35, 36, 37, 38, 83, 84, 85, 86, 87, 88, 89, 90] (by decide +kernel) (by decide +kernel)
set_option maxRecDepth 20000 in
theorem gX9_read_X5_init : GoodIn wsX9_read (wsX5_init) := ggX9_read_X5_init
set_option maxRecDepth 20000 in
theorem ggX9_read_X5_readFrom : GoodIn wsX9_read wsX5_readFrom := goodIn_r _ [42, 43, 33, 34, 35, 36, 37, 38, 44, 45, 46, 47, 14, 48, 16, 49, 50, 51, 52, 53, 54, 55, 56, 21, 22, 23, 24, 25, 8, 9, 10, 57, 58, 59, 60, 61, 62, 63, 64, 65, 66, 67, 68, 83, 84, 85, 86, 87, 88, 89, 90, 91, 92] (by decide +kernel) (by decide +kernel)
set_option maxRecDepth 20000 in
theorem gX9_read_X5_readFrom : GoodIn wsX9_read (wsV RX9 95 RX5 yX5_readFrom wsX5_readFrom) := goodIn_app (goodIn_of _ (by decide +kernel)) ggX9_read_X5_readFrom
set_option maxRecDepth 20000 in
theorem ggX9_read_X7_clear : GoodIn wsX9_read wsX7_clear := goodIn_r _ [72, 16, 91, 92] (by decide +kernel) (by decide +kernel)
set_option maxRecDepth 20000 in
theorem gX9_read_X7_clear : GoodIn wsX9_read (wsV RX9 87 RX7 yX7_clear wsX7_clear) := goodIn_app (goodIn_of _ (by decide +kernel)) ggX9_read_X7_clear
theorem dX9_read_0 : decode cX9_read 0 = .ok (.iload_n 1, 1) := by decide +kernel
theorem dX9_read_1 : decode cX9_read 1 = .ok (.iconst 0, 1) := by decide +kernel
theorem dX9_read_2 : decode cX9_read 2 = .ok (.iconst 5, 1) := by decide +kernel
theorem dX9_read_3 : decode cX9_read 3 = .ok (.invokestatic 79, 3) := by decide +kernel
theorem dX9_read_6 : decode cX9_read 6 = .ok (.ifCond .ne 5, 3) := by decide +kernel
theorem dX9_read_9 : decode cX9_read 9 = .ok (.iconst (-1), 1) := by decide +kernel
theorem dX9_read_10 : decode cX9_read 10 = .ok (.ireturn, 1) := by decide +kernel
theorem dX9_read_11 : decode cX9_read 11 = .ok (.aload_n 0, 1) := by decide +kernel
theorem dX9_read_12 : decode cX9_read 12 = .ok (.getfield 10, 3) := by decide +kernel
theorem dX9_read_15 : decode cX9_read 15 = .ok (.invokevirtual 91, 3) := by decide +kernel
theorem dX9_read_18 : decode cX9_read 18 = .ok (.bipush (-6), 2) := by decide +kernel
theorem dX9_read_20 : decode cX9_read 20 = .ok (.if_icmp .eq 6, 3) := by decide +kernel
theorem dX9_read_23 : decode cX9_read 23 = .ok (.bipush (-5), 2) := by decide +kernel
theorem dX9_read_25 : decode cX9_read 25 = .ok (.ireturn, 1) := by decide +kernel
theorem dX9_read_26 : decode cX9_read 26 = .ok (.aload_n 0, 1) := by decide +kernel
theorem dX9_read_27 : decode cX9_read 27 = .ok (.getfield 18, 3) := by decide +kernel
theorem dX9_read_30 : decode cX9_read 30 = .ok (.iload_n 1, 1) := by decide +kernel
theorem dX9_read_31 : decode cX9_read 31 = .ok (.aaload, 1) := by decide +kernel
theorem dX9_read_32 : decode cX9_read 32 = .ok (.ifnonnull 16, 3) := by decide +kernel
theorem dX9_read_35 : decode cX9_read 35 = .ok (.aload_n 0, 1) := by decide +kernel
theorem dX9_read_36 : decode cX9_read 36 = .ok (.getfield 18, 3) := by decide +kernel
theorem dX9_read_39 : decode cX9_read 39 = .ok (.iload_n 1, 1) := by decide +kernel
theorem dX9_read_40 : decode cX9_read 40 = .ok (.new 16, 3) := by decide +kernel
theorem dX9_read_43 : decode cX9_read 43 = .ok (.dup, 1) := by decide +kernel
theorem dX9_read_44 : decode cX9_read 44 = .ok (.invokespecial 94, 3) := by decide +kernel
theorem dX9_read_47 : decode cX9_read 47 = .ok (.aastore, 1) := by decide +kernel
theorem dX9_read_48 : decode cX9_read 48 = .ok (.aload_n 0, 1) := by decide +kernel
theorem dX9_read_49 : decode cX9_read 49 = .ok (.getfield 18, 3) := by decide +kernel
theorem dX9_read_52 : decode cX9_read 52 = .ok (.iload_n 1, 1) := by decide +kernel
theorem dX9_read_53 : decode cX9_read 53 = .ok (.aaload, 1) := by decide +kernel
theorem dX9_read_54 : decode cX9_read 54 = .ok (.aload_n 0, 1) := by decide +kernel
theorem dX9_read_55 : decode cX9_read 55 = .ok (.getfield 10, 3) := by decide +kernel
theorem dX9_read_58 : decode cX9_read 58 = .ok (.invokevirtual 95, 3) := by decide +kernel
theorem dX9_read_61 : decode cX9_read 61 = .ok (.aload_n 0, 1) := by decide +kernel
theorem dX9_read_62 : decode cX9_read 62 = .ok (.getfield 10, 3) := by decide +kernel
theorem dX9_read_65 : decode cX9_read 65 = .ok (.invokevirtual 87, 3) := by decide +kernel
theorem dX9_read_68 : decode cX9_read 68 = .ok (.pop, 1) := by decide +kernel
theorem dX9_read_69 : decode cX9_read 69 = .ok (.aload_n 0, 1) := by decide +kernel
theorem dX9_read_70 : decode cX9_read 70 = .ok (.getfield 18, 3) := by decide +kernel
theorem dX9_read_73 : decode cX9_read 73 = .ok (.iload_n 1, 1) := by decide +kernel
theorem dX9_read_74 : decode cX9_read 74 = .ok (.aaload, 1) := by decide +kernel
theorem dX9_read_75 : decode cX9_read 75 = .ok (.getfield 99, 3) := by decide +kernel
theorem dX9_read_78 : decode cX9_read 78 = .ok (.ireturn, 1) := by decide +kernel
set_option maxRecDepth 20000 in
theorem ggX9_spot_X9_lapAt : GoodIn wsX9_spot wsX9_lapAt := goodIn_r _ [10, 11, 12, 13, 9, 14, 33, 34, 35, 36, 37, 38, 39, 40, 41, 42] (by decide +kernel) (by decide +kernel)
set_option maxRecDepth 20000 in
theorem gX9_spot_X9_lapAt : GoodIn wsX9_spot (wsV RX9 103 RX9 yX9_lapAt wsX9_lapAt) := goodIn_app (goodIn_of _ (by decide +kernel)) ggX9_spot_X9_lapAt
set_option maxRecDepth 20000 in
theorem ggX9_spot_X5_hasSpot : GoodIn wsX9_spot wsX5_hasSpot := goodIn_r _ [19, 20, 13, 9, 14, 25, 26, 27, 28, 29, 30, 31, 32] (by decide +kernel) (by decide +kernel)
set_option maxRecDepth 20000 in
theorem gX9_spot_X5_hasSpot : GoodIn wsX9_spot (wsV RX9 107 RX5 yX5_hasSpot wsX5_hasSpot) := goodIn_app (goodIn_of _ (by decide +kernel)) ggX9_spot_X5_hasSpot
set_option maxRecDepth 20000 in
theorem ggX9_spot_X5_isLast : GoodIn wsX9_spot wsX5_isLast := goodIn_r _ [24, 20, 25, 26, 27, 28, 29, 30, 31, 32] (by decide +kernel) (by decide +kernel)
set_option maxRecDepth 20000 in
theorem gX9_spot_X5_isLast : GoodIn wsX9_spot (wsV RX9 114 RX5 yX5_isLast wsX5_isLast) := goodIn_app (goodIn_of _ (by decide +kernel)) ggX9_spot_X5_isLast
theorem dX9_spot_0 : decode cX9_spot 0 = .ok (.aload_n 0, 1) := by decide +kernel
theorem dX9_spot_1 : decode cX9_spot 1 = .ok (.iload_n 1, 1) := by decide +kernel
theorem dX9_spot_2 : decode cX9_spot 2 = .ok (.invokevirtual 103, 3) := by decide +kernel
theorem dX9_spot_5 : decode cX9_spot 5 = .ok (.astore 4, 2) := by decide +kernel
theorem dX9_spot_7 : decode cX9_spot 7 = .ok (.aload 4, 2) := by decide +kernel
theorem dX9_spot_9 : decode cX9_spot 9 = .ok (.ifnull 12, 3) := by decide +kernel
theorem dX9_spot_12 : decode cX9_spot 12 = .ok (.aload 4, 2) := by decide +kernel
theorem dX9_spot_14 : decode cX9_spot 14 = .ok (.iload_n 2, 1) := by decide +kernel
theorem dX9_spot_15 : decode cX9_spot 15 = .ok (.invokevirtual 107, 3) := by decide +kernel
theorem dX9_spot_18 : decode cX9_spot 18 = .ok (.ifCond .ne 5, 3) := by decide +kernel
theorem dX9_spot_21 : decode cX9_spot 21 = .ok (.iconst (-1), 1) := by decide +kernel
theorem dX9_spot_22 : decode cX9_spot 22 = .ok (.ireturn, 1) := by decide +kernel
theorem dX9_spot_23 : decode cX9_spot 23 = .ok (.iload_n 3, 1) := by decide +kernel
theorem dX9_spot_24 : decode cX9_spot 24 = .ok (.tableswitch 104 0 4 #[36, 44, 66, 88, 96], 36) := by decide +kernel
theorem dX9_spot_60 : decode cX9_spot 60 = .ok (.aload 4, 2) := by decide +kernel
theorem dX9_spot_62 : decode cX9_spot 62 = .ok (.getfield 111, 3) := by decide +kernel
theorem dX9_spot_65 : decode cX9_spot 65 = .ok (.iload_n 2, 1) := by decide +kernel
theorem dX9_spot_66 : decode cX9_spot 66 = .ok (.iaload, 1) := by decide +kernel
theorem dX9_spot_67 : decode cX9_spot 67 = .ok (.ireturn, 1) := by decide +kernel
theorem dX9_spot_68 : decode cX9_spot 68 = .ok (.aload 4, 2) := by decide +kernel
theorem dX9_spot_70 : decode cX9_spot 70 = .ok (.iload_n 2, 1) := by decide +kernel
theorem dX9_spot_71 : decode cX9_spot 71 = .ok (.invokevirtual 114, 3) := by decide +kernel
theorem dX9_spot_74 : decode cX9_spot 74 = .ok (.ifCond .eq 8, 3) := by decide +kernel
theorem dX9_spot_77 : decode cX9_spot 77 = .ok (.bipush (-6), 2) := by decide +kernel
theorem dX9_spot_79 : decode cX9_spot 79 = .ok (.goto 10, 3) := by decide +kernel
theorem dX9_spot_82 : decode cX9_spot 82 = .ok (.aload 4, 2) := by decide +kernel
theorem dX9_spot_84 : decode cX9_spot 84 = .ok (.getfield 117, 3) := by decide +kernel
theorem dX9_spot_87 : decode cX9_spot 87 = .ok (.iload_n 2, 1) := by decide +kernel
theorem dX9_spot_88 : decode cX9_spot 88 = .ok (.iaload, 1) := by decide +kernel
theorem dX9_spot_89 : decode cX9_spot 89 = .ok (.ireturn, 1) := by decide +kernel
theorem dX9_spot_90 : decode cX9_spot 90 = .ok (.aload 4, 2) := by decide +kernel
theorem dX9_spot_92 : decode cX9_spot 92 = .ok (.iload_n 2, 1) := by decide +kernel
theorem dX9_spot_93 : decode cX9_spot 93 = .ok (.invokevirtual 114, 3) := by decide +kernel
theorem dX9_spot_96 : decode cX9_spot 96 = .ok (.ifCond .eq 8, 3) := by decide +kernel
theorem dX9_spot_99 : decode cX9_spot 99 = .ok (.bipush (-6), 2) := by decide +kernel
theorem dX9_spot_101 : decode cX9_spot 101 = .ok (.goto 10, 3) := by decide +kernel
theorem dX9_spot_104 : decode cX9_spot 104 = .ok (.aload 4, 2) := by decide +kernel
theorem dX9_spot_106 : decode cX9_spot 106 = .ok (.getfield 120, 3) := by decide +kernel
theorem dX9_spot_109 : decode cX9_spot 109 = .ok (.iload_n 2, 1) := by decide +kernel
theorem dX9_spot_110 : decode cX9_spot 110 = .ok (.iaload, 1) := by decide +kernel
theorem dX9_spot_111 : decode cX9_spot 111 = .ok (.ireturn, 1) := by decide +kernel
theorem dX9_spot_112 : decode cX9_spot 112 = .ok (.aload 4, 2) := by decide +kernel
theorem dX9_spot_114 : decode cX9_spot 114 = .ok (.getfield 123, 3) := by decide +kernel
theorem dX9_spot_117 : decode cX9_spot 117 = .ok (.iload_n 2, 1) := by decide +kernel
theorem dX9_spot_118 : decode cX9_spot 118 = .ok (.iaload, 1) := by decide +kernel
theorem dX9_spot_119 : decode cX9_spot 119 = .ok (.ireturn, 1) := by decide +kernel
theorem dX9_spot_120 : decode cX9_spot 120 = .ok (.aload 4, 2) := by decide +kernel
theorem dX9_spot_122 : decode cX9_spot 122 = .ok (.getfield 126, 3) := by decide +kernel
theorem dX9_spot_125 : decode cX9_spot 125 = .ok (.iload_n 2, 1) := by decide +kernel
theorem dX9_spot_126 : decode cX9_spot 126 = .ok (.iaload, 1) := by decide +kernel
theorem dX9_spot_127 : decode cX9_spot 127 = .ok (.ireturn, 1) := by decide +kernel
theorem dX9_spot_128 : decode cX9_spot 128 = .ok (.bipush (-2), 2) := by decide +kernel
theorem dX9_spot_130 : decode cX9_spot 130 = .ok (.ireturn, 1) := by decide +kernel
set_option maxRecDepth 20000 in
theorem ggX9_glue_X9_lapAt : GoodIn wsX9_glue wsX9_lapAt := goodIn_r _ [6, 7, 8, 9, 5, 10, 28, 29, 30, 31, 32, 33, 34, 35, 36, 37] (by decide +kernel) (by decide +kernel)
set_option maxRecDepth 20000 in
theorem gX9_glue_X9_lapAt : GoodIn wsX9_glue (wsV RX9 103 RX9 yX9_lapAt wsX9_lapAt) := goodIn_app (goodIn_of _ (by decide +kernel)) ggX9_glue_X9_lapAt
set_option maxRecDepth 20000 in
theorem ggX9_glue_X5_hasSpot : GoodIn wsX9_glue wsX5_hasSpot := goodIn_r _ [15, 16, 9, 5, 10, 20, 21, 22, 23, 24, 25, 26, 27] (by decide +kernel) (by decide +kernel)
set_option maxRecDepth 20000 in
theorem gX9_glue_X5_hasSpot : GoodIn wsX9_glue (wsV RX9 107 RX5 yX5_hasSpot wsX5_hasSpot) := goodIn_app (goodIn_of _ (by decide +kernel)) ggX9_glue_X5_hasSpot
set_option maxRecDepth 20000 in
theorem ggX9_glue_X9_put : GoodIn wsX9_glue wsX9_put := goodIn_r _ [19, 8, 9, 5, 10] (by decide +kernel) (by decide +kernel)
set_option maxRecDepth 20000 in
theorem gX9_glue_X9_put : GoodIn wsX9_glue (va_wsS RX9 129 yX9_put wsX9_put) := goodIn_app (goodIn_of _ (by decide +kernel)) ggX9_glue_X9_put
theorem dX9_glue_0 : decode cX9_glue 0 = .ok (.aload_n 0, 1) := by decide +kernel
theorem dX9_glue_1 : decode cX9_glue 1 = .ok (.iload_n 1, 1) := by decide +kernel
theorem dX9_glue_2 : decode cX9_glue 2 = .ok (.invokevirtual 103, 3) := by decide +kernel
theorem dX9_glue_5 : decode cX9_glue 5 = .ok (.astore 4, 2) := by decide +kernel
theorem dX9_glue_7 : decode cX9_glue 7 = .ok (.aload 4, 2) := by decide +kernel
theorem dX9_glue_9 : decode cX9_glue 9 = .ok (.ifnull 12, 3) := by decide +kernel
theorem dX9_glue_12 : decode cX9_glue 12 = .ok (.aload 4, 2) := by decide +kernel
theorem dX9_glue_14 : decode cX9_glue 14 = .ok (.iload_n 2, 1) := by decide +kernel
theorem dX9_glue_15 : decode cX9_glue 15 = .ok (.invokevirtual 107, 3) := by decide +kernel
theorem dX9_glue_18 : decode cX9_glue 18 = .ok (.ifCond .ne 5, 3) := by decide +kernel
theorem dX9_glue_21 : decode cX9_glue 21 = .ok (.iconst (-1), 1) := by decide +kernel
theorem dX9_glue_22 : decode cX9_glue 22 = .ok (.ireturn, 1) := by decide +kernel
theorem dX9_glue_23 : decode cX9_glue 23 = .ok (.aload 4, 2) := by decide +kernel
theorem dX9_glue_25 : decode cX9_glue 25 = .ok (.getfield 111, 3) := by decide +kernel
theorem dX9_glue_28 : decode cX9_glue 28 = .ok (.iload_n 2, 1) := by decide +kernel
theorem dX9_glue_29 : decode cX9_glue 29 = .ok (.iload_n 3, 1) := by decide +kernel
theorem dX9_glue_30 : decode cX9_glue 30 = .ok (.iconst 0, 1) := by decide +kernel
theorem dX9_glue_31 : decode cX9_glue 31 = .ok (.iconst 5, 1) := by decide +kernel
theorem dX9_glue_32 : decode cX9_glue 32 = .ok (.invokestatic 129, 3) := by decide +kernel
theorem dX9_glue_35 : decode cX9_glue 35 = .ok (.ireturn, 1) := by decide +kernel
set_option maxRecDepth 20000 in
theorem ggX9_work_X9_lapAt : GoodIn wsX9_work wsX9_lapAt := goodIn_r _ [6, 7, 8, 9, 5, 10, 28, 29, 30, 31, 32, 33, 34, 35, 36, 37] (by decide +kernel) (by decide +kernel)
set_option maxRecDepth 20000 in
theorem gX9_work_X9_lapAt : GoodIn wsX9_work (wsV RX9 103 RX9 yX9_lapAt wsX9_lapAt) := goodIn_app (goodIn_of _ (by decide +kernel)) ggX9_work_X9_lapAt
set_option maxRecDepth 20000 in
theorem ggX9_work_X5_hasSpot : GoodIn wsX9_work wsX5_hasSpot := goodIn_r _ [15, 16, 9, 5, 10, 20, 21, 22, 23, 24, 25, 26, 27] (by decide +kernel) (by decide +kernel)
set_option maxRecDepth 20000 in
theorem gX9_work_X5_hasSpot : GoodIn wsX9_work (wsV RX9 107 RX5 yX5_hasSpot wsX5_hasSpot) := goodIn_app (goodIn_of _ (by decide +kernel)) ggX9_work_X5_hasSpot
set_option maxRecDepth 20000 in
theorem ggX9_work_X9_put : GoodIn wsX9_work wsX9_put := goodIn_r _ [19, 8, 9, 5, 10] (by decide +kernel) (by decide +kernel)
set_option maxRecDepth 20000 in
theorem gX9_work_X9_put : GoodIn wsX9_work (va_wsS RX9 129 yX9_put wsX9_put) := goodIn_app (goodIn_of _ (by decide +kernel)) ggX9_work_X9_put
theorem dX9_work_0 : decode cX9_work 0 = .ok (.aload_n 0, 1) := by decide +kernel
theorem dX9_work_1 : decode cX9_work 1 = .ok (.iload_n 1, 1) := by decide +kernel
theorem dX9_work_2 : decode cX9_work 2 = .ok (.invokevirtual 103, 3) := by decide +kernel
theorem dX9_work_5 : decode cX9_work 5 = .ok (.astore 4, 2) := by decide +kernel
theorem dX9_work_7 : decode cX9_work 7 = .ok (.aload 4, 2) := by decide +kernel
theorem dX9_work_9 : decode cX9_work 9 = .ok (.ifnull 12, 3) := by decide +kernel
theorem dX9_work_12 : decode cX9_work 12 = .ok (.aload 4, 2) := by decide +kernel
theorem dX9_work_14 : decode cX9_work 14 = .ok (.iload_n 2, 1) := by decide +kernel
theorem dX9_work_15 : decode cX9_work 15 = .ok (.invokevirtual 107, 3) := by decide +kernel
theorem dX9_work_18 : decode cX9_work 18 = .ok (.ifCond .ne 5, 3) := by decide +kernel
theorem dX9_work_21 : decode cX9_work 21 = .ok (.iconst (-1), 1) := by decide +kernel
theorem dX9_work_22 : decode cX9_work 22 = .ok (.ireturn, 1) := by decide +kernel
theorem dX9_work_23 : decode cX9_work 23 = .ok (.aload 4, 2) := by decide +kernel
theorem dX9_work_25 : decode cX9_work 25 = .ok (.getfield 123, 3) := by decide +kernel
theorem dX9_work_28 : decode cX9_work 28 = .ok (.iload_n 2, 1) := by decide +kernel
theorem dX9_work_29 : decode cX9_work 29 = .ok (.iload_n 3, 1) := by decide +kernel
theorem dX9_work_30 : decode cX9_work 30 = .ok (.iconst 0, 1) := by decide +kernel
theorem dX9_work_31 : decode cX9_work 31 = .ok (.sipush 1000, 3) := by decide +kernel
theorem dX9_work_34 : decode cX9_work 34 = .ok (.invokestatic 129, 3) := by decide +kernel
theorem dX9_work_37 : decode cX9_work 37 = .ok (.ireturn, 1) := by decide +kernel
set_option maxRecDepth 20000 in
theorem ggX9_pull_X9_lapAt : GoodIn wsX9_pull wsX9_lapAt := goodIn_r _ [10, 11, 12, 13, 9, 14, 83, 84, 85, 86, 87, 88, 89, 90, 91, 92] (by decide +kernel) (by decide +kernel)
set_option maxRecDepth 20000 in
theorem gX9_pull_X9_lapAt : GoodIn wsX9_pull (wsV RX9 103 RX9 yX9_lapAt wsX9_lapAt) := goodIn_app (goodIn_of _ (by decide +kernel)) ggX9_pull_X9_lapAt
set_option maxRecDepth 20000 in
theorem ggX9_pull_X5_hasSpot : GoodIn wsX9_pull wsX5_hasSpot := goodIn_r _ [19, 20, 13, 9, 14, 93, 94, 95, 96, 97, 98, 99, 100] (by decide +kernel) (by decide +kernel)
set_option maxRecDepth 20000 in
theorem gX9_pull_X5_hasSpot : GoodIn wsX9_pull (wsV RX9 107 RX5 yX5_hasSpot wsX5_hasSpot) := goodIn_app (goodIn_of _ (by decide +kernel)) ggX9_pull_X5_hasSpot
set_option maxRecDepth 20000 in
theorem ggX9_pull_X9_within : GoodIn wsX9_pull wsX9_within := goodIn_r _ [14] (by decide +kernel) (by decide +kernel)
set_option maxRecDepth 20000 in
theorem gX9_pull_X9_within : GoodIn wsX9_pull (va_wsS RX9 79 yX9_within wsX9_within) := goodIn_app (goodIn_of _ (by decide +kernel)) ggX9_pull_X9_within
set_option maxRecDepth 20000 in
theorem ggX9_pull_X9_isPart : GoodIn wsX9_pull wsX9_isPart := goodIn_r _ [23, 12, 13, 9, 14] (by decide +kernel) (by decide +kernel)
set_option maxRecDepth 20000 in
theorem gX9_pull_X9_isPart : GoodIn wsX9_pull (va_wsS RX9 135 yX9_isPart wsX9_isPart) := goodIn_app (goodIn_of _ (by decide +kernel)) ggX9_pull_X9_isPart
set_option maxRecDepth 20000 in
theorem ggX9_pull_X5_isLoose : GoodIn wsX9_pull wsX5_isLoose := goodIn_r _ [27, 28, 29, 30, 18, 31, 32, 93, 94, 95, 96, 97, 98, 99, 100] (by decide +kernel) (by decide +kernel)
set_option maxRecDepth 20000 in
theorem gX9_pull_X5_isLoose : GoodIn wsX9_pull (wsV RX9 140 RX5 yX5_isLoose wsX5_isLoose) := goodIn_app (goodIn_of _ (by decide +kernel)) ggX9_pull_X5_isLoose
set_option maxRecDepth 20000 in
theorem ggX9_pull_X0_tellPull : GoodIn wsX9_pull wsX0_tellPull := goodIn_r _ [37, 38, 39, 40, 41, 42, 43, 44, 45, 46, 47, 48, 49, 50, 51, 52, 53, 54, 55, 56, 57, 58, 59, 60, 61, 62, 63, 64, 13, 9, 14, 65, 66, 67, 68, 69, 70, 71, 72, 73, 74, 75, 76, 77, 78, 101, 102, 103, 104, 105, 106, 107, 108, 109, 110, 93, 94, 95, 96, 97, 98, 99, 100, 111, 112] (by decide +kernel) (by decide +kernel)
set_option maxRecDepth 20000 in
theorem gX9_pull_X0_tellPull : GoodIn wsX9_pull (wsV RX9 146 RX0 yX0_tellPull wsX0_tellPull) := goodIn_app (goodIn_of _ (by decide +kernel)) ggX9_pull_X0_tellPull
set_option maxRecDepth 20000 in
theorem ggX9_pull_X2_number : GoodIn wsX9_pull wsX2_number := goodIn_r _ [82, 74, 75, 111, 112] (by decide +kernel) (by decide +kernel)
set_option maxRecDepth 20000 in
theorem gX9_pull_X2_number : GoodIn wsX9_pull (wsV RX9 150 RX2 yX2_number wsX2_number) := goodIn_app (goodIn_of _ (by decide +kernel)) ggX9_pull_X2_number
theorem dX9_pull_0 : decode cX9_pull 0 = .ok (.aload_n 0, 1) := by decide +kernel
theorem dX9_pull_1 : decode cX9_pull 1 = .ok (.iload_n 1, 1) := by decide +kernel
theorem dX9_pull_2 : decode cX9_pull 2 = .ok (.invokevirtual 103, 3) := by decide +kernel
theorem dX9_pull_5 : decode cX9_pull 5 = .ok (.astore 5, 2) := by decide +kernel
theorem dX9_pull_7 : decode cX9_pull 7 = .ok (.aload 5, 2) := by decide +kernel
theorem dX9_pull_9 : decode cX9_pull 9 = .ok (.ifnull 12, 3) := by decide +kernel
theorem dX9_pull_12 : decode cX9_pull 12 = .ok (.aload 5, 2) := by decide +kernel
theorem dX9_pull_14 : decode cX9_pull 14 = .ok (.iload_n 2, 1) := by decide +kernel
theorem dX9_pull_15 : decode cX9_pull 15 = .ok (.invokevirtual 107, 3) := by decide +kernel
theorem dX9_pull_18 : decode cX9_pull 18 = .ok (.ifCond .ne 7, 3) := by decide +kernel
theorem dX9_pull_21 : decode cX9_pull 21 = .ok (.ldc2_w 133, 3) := by decide +kernel
theorem dX9_pull_24 : decode cX9_pull 24 = .ok (.lreturn, 1) := by decide +kernel
theorem dX9_pull_25 : decode cX9_pull 25 = .ok (.iload_n 3, 1) := by decide +kernel
theorem dX9_pull_26 : decode cX9_pull 26 = .ok (.iconst 0, 1) := by decide +kernel
theorem dX9_pull_27 : decode cX9_pull 27 = .ok (.iconst 2, 1) := by decide +kernel
theorem dX9_pull_28 : decode cX9_pull 28 = .ok (.invokestatic 79, 3) := by decide +kernel
theorem dX9_pull_31 : decode cX9_pull 31 = .ok (.ifCond .eq 11, 3) := by decide +kernel
theorem dX9_pull_34 : decode cX9_pull 34 = .ok (.iload 4, 2) := by decide +kernel
theorem dX9_pull_36 : decode cX9_pull 36 = .ok (.invokestatic 135, 3) := by decide +kernel
theorem dX9_pull_39 : decode cX9_pull 39 = .ok (.ifCond .ne 7, 3) := by decide +kernel
theorem dX9_pull_42 : decode cX9_pull 42 = .ok (.ldc2_w 138, 3) := by decide +kernel
theorem dX9_pull_45 : decode cX9_pull 45 = .ok (.lreturn, 1) := by decide +kernel
theorem dX9_pull_46 : decode cX9_pull 46 = .ok (.aload 5, 2) := by decide +kernel
theorem dX9_pull_48 : decode cX9_pull 48 = .ok (.invokevirtual 140, 3) := by decide +kernel
theorem dX9_pull_51 : decode cX9_pull 51 = .ok (.ifCond .eq 7, 3) := by decide +kernel
theorem dX9_pull_54 : decode cX9_pull 54 = .ok (.ldc2_w 144, 3) := by decide +kernel
theorem dX9_pull_57 : decode cX9_pull 57 = .ok (.lreturn, 1) := by decide +kernel
theorem dX9_pull_58 : decode cX9_pull 58 = .ok (.aload_n 0, 1) := by decide +kernel
theorem dX9_pull_59 : decode cX9_pull 59 = .ok (.getfield 25, 3) := by decide +kernel
theorem dX9_pull_62 : decode cX9_pull 62 = .ok (.aload 5, 2) := by decide +kernel
theorem dX9_pull_64 : decode cX9_pull 64 = .ok (.iload_n 2, 1) := by decide +kernel
theorem dX9_pull_65 : decode cX9_pull 65 = .ok (.iload_n 3, 1) := by decide +kernel
theorem dX9_pull_66 : decode cX9_pull 66 = .ok (.aload_n 0, 1) := by decide +kernel
theorem dX9_pull_67 : decode cX9_pull 67 = .ok (.getfield 32, 3) := by decide +kernel
theorem dX9_pull_70 : decode cX9_pull 70 = .ok (.invokevirtual 146, 3) := by decide +kernel
theorem dX9_pull_73 : decode cX9_pull 73 = .ok (.aload_n 0, 1) := by decide +kernel
theorem dX9_pull_74 : decode cX9_pull 74 = .ok (.getfield 32, 3) := by decide +kernel
theorem dX9_pull_77 : decode cX9_pull 77 = .ok (.iload 4, 2) := by decide +kernel
theorem dX9_pull_79 : decode cX9_pull 79 = .ok (.invokevirtual 150, 3) := by decide +kernel
theorem dX9_pull_82 : decode cX9_pull 82 = .ok (.lreturn, 1) := by decide +kernel
set_option maxRecDepth 20000 in
theorem ggX9_give_X9_lapAt : GoodIn wsX9_give wsX9_lapAt := goodIn_r _ [10, 11, 12, 13, 9, 14, 76, 77, 78, 79, 80, 81, 82, 83, 84, 85] (by decide +kernel) (by decide +kernel)
set_option maxRecDepth 20000 in
theorem gX9_give_X9_lapAt : GoodIn wsX9_give (wsV RX9 103 RX9 yX9_lapAt wsX9_lapAt) := goodIn_app (goodIn_of _ (by decide +kernel)) ggX9_give_X9_lapAt
set_option maxRecDepth 20000 in
theorem ggX9_give_X9_isPart : GoodIn wsX9_give wsX9_isPart := goodIn_r _ [17, 12, 13, 9, 14] (by decide +kernel) (by decide +kernel)
set_option maxRecDepth 20000 in
theorem gX9_give_X9_isPart : GoodIn wsX9_give (va_wsS RX9 135 yX9_isPart wsX9_isPart) := goodIn_app (goodIn_of _ (by decide +kernel)) ggX9_give_X9_isPart
set_option maxRecDepth 20000 in
theorem ggX9_give_X5_isLoose : GoodIn wsX9_give wsX5_isLoose := goodIn_r _ [22, 23, 24, 25, 21, 26, 27, 86, 87, 88, 89, 90, 91, 92, 93] (by decide +kernel) (by decide +kernel)
set_option maxRecDepth 20000 in
theorem gX9_give_X5_isLoose : GoodIn wsX9_give (wsV RX9 140 RX5 yX5_isLoose wsX5_isLoose) := goodIn_app (goodIn_of _ (by decide +kernel)) ggX9_give_X5_isLoose
set_option maxRecDepth 20000 in
theorem ggX9_give_X0_tellGive : GoodIn wsX9_give wsX0_tellGive := goodIn_r _ [32, 33, 34, 35, 36, 37, 38, 39, 40, 41, 42, 43, 44, 45, 46, 47, 48, 49, 50, 51, 52, 53, 54, 55, 56, 57, 58, 59, 60, 61, 62, 63, 64, 65, 66, 67, 68, 69, 70, 71, 94, 95, 96, 97, 98, 99, 100, 101, 102, 103, 86, 87, 88, 89, 90, 91, 92, 93, 104, 105] (by decide +kernel) (by decide +kernel)
set_option maxRecDepth 20000 in
theorem gX9_give_X0_tellGive : GoodIn wsX9_give (wsV RX9 154 RX0 yX0_tellGive wsX0_tellGive) := goodIn_app (goodIn_of _ (by decide +kernel)) ggX9_give_X0_tellGive
set_option maxRecDepth 20000 in
theorem ggX9_give_X2_number : GoodIn wsX9_give wsX2_number := goodIn_r _ [75, 67, 68, 104, 105] (by decide +kernel) (by decide +kernel)
set_option maxRecDepth 20000 in
theorem gX9_give_X2_number : GoodIn wsX9_give (wsV RX9 150 RX2 yX2_number wsX2_number) := goodIn_app (goodIn_of _ (by decide +kernel)) ggX9_give_X2_number
theorem dX9_give_0 : decode cX9_give 0 = .ok (.aload_n 0, 1) := by decide +kernel
theorem dX9_give_1 : decode cX9_give 1 = .ok (.iload_n 1, 1) := by decide +kernel
theorem dX9_give_2 : decode cX9_give 2 = .ok (.invokevirtual 103, 3) := by decide +kernel
theorem dX9_give_5 : decode cX9_give 5 = .ok (.astore_n 3, 1) := by decide +kernel
theorem dX9_give_6 : decode cX9_give 6 = .ok (.aload_n 3, 1) := by decide +kernel
theorem dX9_give_7 : decode cX9_give 7 = .ok (.ifnonnull 7, 3) := by decide +kernel
theorem dX9_give_10 : decode cX9_give 10 = .ok (.ldc2_w 133, 3) := by decide +kernel
theorem dX9_give_13 : decode cX9_give 13 = .ok (.lreturn, 1) := by decide +kernel
theorem dX9_give_14 : decode cX9_give 14 = .ok (.iload_n 2, 1) := by decide +kernel
theorem dX9_give_15 : decode cX9_give 15 = .ok (.invokestatic 135, 3) := by decide +kernel
theorem dX9_give_18 : decode cX9_give 18 = .ok (.ifCond .ne 7, 3) := by decide +kernel
theorem dX9_give_21 : decode cX9_give 21 = .ok (.ldc2_w 138, 3) := by decide +kernel
theorem dX9_give_24 : decode cX9_give 24 = .ok (.lreturn, 1) := by decide +kernel
theorem dX9_give_25 : decode cX9_give 25 = .ok (.aload_n 3, 1) := by decide +kernel
theorem dX9_give_26 : decode cX9_give 26 = .ok (.invokevirtual 140, 3) := by decide +kernel
theorem dX9_give_29 : decode cX9_give 29 = .ok (.ifCond .eq 7, 3) := by decide +kernel
theorem dX9_give_32 : decode cX9_give 32 = .ok (.ldc2_w 144, 3) := by decide +kernel
theorem dX9_give_35 : decode cX9_give 35 = .ok (.lreturn, 1) := by decide +kernel
theorem dX9_give_36 : decode cX9_give 36 = .ok (.aload_n 0, 1) := by decide +kernel
theorem dX9_give_37 : decode cX9_give 37 = .ok (.getfield 25, 3) := by decide +kernel
theorem dX9_give_40 : decode cX9_give 40 = .ok (.aload_n 3, 1) := by decide +kernel
theorem dX9_give_41 : decode cX9_give 41 = .ok (.aload_n 0, 1) := by decide +kernel
theorem dX9_give_42 : decode cX9_give 42 = .ok (.getfield 32, 3) := by decide +kernel
theorem dX9_give_45 : decode cX9_give 45 = .ok (.invokevirtual 154, 3) := by decide +kernel
theorem dX9_give_48 : decode cX9_give 48 = .ok (.aload_n 0, 1) := by decide +kernel
theorem dX9_give_49 : decode cX9_give 49 = .ok (.getfield 32, 3) := by decide +kernel
theorem dX9_give_52 : decode cX9_give 52 = .ok (.iload_n 2, 1) := by decide +kernel
theorem dX9_give_53 : decode cX9_give 53 = .ok (.invokevirtual 150, 3) := by decide +kernel
theorem dX9_give_56 : decode cX9_give 56 = .ok (.lreturn, 1) := by decide +kernel
set_option maxRecDepth 20000 in
theorem ggX9_hardest_X9_lapAt : GoodIn wsX9_hardest wsX9_lapAt := goodIn_r _ [6, 7, 8, 9, 5, 10, 56, 57, 58, 59, 60, 61, 62, 63, 64, 65] (by decide +kernel) (by decide +kernel)
set_option maxRecDepth 20000 in
theorem gX9_hardest_X9_lapAt : GoodIn wsX9_hardest (wsV RX9 103 RX9 yX9_lapAt wsX9_lapAt) := goodIn_app (goodIn_of _ (by decide +kernel)) ggX9_hardest_X9_lapAt
set_option maxRecDepth 20000 in
theorem ggX9_hardest_X5_isLoose : GoodIn wsX9_hardest wsX5_isLoose := goodIn_r _ [15, 16, 17, 18, 14, 19, 20, 66, 67, 68, 69, 70, 71, 72, 73] (by decide +kernel) (by decide +kernel)
set_option maxRecDepth 20000 in
theorem gX9_hardest_X5_isLoose : GoodIn wsX9_hardest (wsV RX9 140 RX5 yX5_isLoose wsX5_isLoose) := goodIn_app (goodIn_of _ (by decide +kernel)) ggX9_hardest_X5_isLoose
set_option maxRecDepth 20000 in
theorem ggX9_hardest_X0_hardestSpot : GoodIn wsX9_hardest wsX0_hardestSpot := goodIn_r _ [25, 26, 27, 28, 29, 30, 31, 32, 33, 34, 35, 36, 37, 38, 39, 40, 41, 42, 43, 44, 45, 46, 47, 48, 49, 50, 51, 52, 53, 54, 55, 74, 75, 76, 77, 78, 79, 80, 81, 82, 83, 66, 67, 68, 69, 70, 71, 72, 73] (by decide +kernel) (by decide +kernel)
set_option maxRecDepth 20000 in
theorem gX9_hardest_X0_hardestSpot : GoodIn wsX9_hardest (wsV RX9 158 RX0 yX0_hardestSpot wsX0_hardestSpot) := goodIn_app (goodIn_of _ (by decide +kernel)) ggX9_hardest_X0_hardestSpot
theorem dX9_hardest_0 : decode cX9_hardest 0 = .ok (.aload_n 0, 1) := by decide +kernel
theorem dX9_hardest_1 : decode cX9_hardest 1 = .ok (.iload_n 1, 1) := by decide +kernel
theorem dX9_hardest_2 : decode cX9_hardest 2 = .ok (.invokevirtual 103, 3) := by decide +kernel
theorem dX9_hardest_5 : decode cX9_hardest 5 = .ok (.astore_n 2, 1) := by decide +kernel
theorem dX9_hardest_6 : decode cX9_hardest 6 = .ok (.aload_n 2, 1) := by decide +kernel
theorem dX9_hardest_7 : decode cX9_hardest 7 = .ok (.ifnonnull 5, 3) := by decide +kernel
theorem dX9_hardest_10 : decode cX9_hardest 10 = .ok (.iconst (-1), 1) := by decide +kernel
theorem dX9_hardest_11 : decode cX9_hardest 11 = .ok (.ireturn, 1) := by decide +kernel
theorem dX9_hardest_12 : decode cX9_hardest 12 = .ok (.aload_n 2, 1) := by decide +kernel
theorem dX9_hardest_13 : decode cX9_hardest 13 = .ok (.invokevirtual 140, 3) := by decide +kernel
theorem dX9_hardest_16 : decode cX9_hardest 16 = .ok (.ifCond .eq 8, 3) := by decide +kernel
theorem dX9_hardest_19 : decode cX9_hardest 19 = .ok (.bipush (-3), 2) := by decide +kernel
theorem dX9_hardest_21 : decode cX9_hardest 21 = .ok (.goto 11, 3) := by decide +kernel
theorem dX9_hardest_24 : decode cX9_hardest 24 = .ok (.aload_n 0, 1) := by decide +kernel
theorem dX9_hardest_25 : decode cX9_hardest 25 = .ok (.getfield 25, 3) := by decide +kernel
theorem dX9_hardest_28 : decode cX9_hardest 28 = .ok (.aload_n 2, 1) := by decide +kernel
theorem dX9_hardest_29 : decode cX9_hardest 29 = .ok (.invokevirtual 158, 3) := by decide +kernel
theorem dX9_hardest_32 : decode cX9_hardest 32 = .ok (.ireturn, 1) := by decide +kernel
set_option maxRecDepth 20000 in
theorem ggX9_back_X9_lapAt : GoodIn wsX9_back wsX9_lapAt := goodIn_r _ [11, 12, 13, 14, 10, 15, 91, 92, 93, 94, 95, 96, 97, 98, 99, 100] (by decide +kernel) (by decide +kernel)
set_option maxRecDepth 20000 in
theorem gX9_back_X9_lapAt : GoodIn wsX9_back (wsV RX9 103 RX9 yX9_lapAt wsX9_lapAt) := goodIn_app (goodIn_of _ (by decide +kernel)) ggX9_back_X9_lapAt
set_option maxRecDepth 20000 in
theorem ggX9_back_X5_hasSpot : GoodIn wsX9_back wsX5_hasSpot := goodIn_r _ [20, 21, 14, 10, 15, 83, 84, 85, 86, 87, 88, 89, 90] (by decide +kernel) (by decide +kernel)
set_option maxRecDepth 20000 in
theorem gX9_back_X5_hasSpot : GoodIn wsX9_back (wsV RX9 107 RX5 yX5_hasSpot wsX5_hasSpot) := goodIn_app (goodIn_of _ (by decide +kernel)) ggX9_back_X5_hasSpot
set_option maxRecDepth 20000 in
theorem ggX9_back_X9_isPull : GoodIn wsX9_back wsX9_isPull := goodIn_r _ [24, 13, 14, 10, 15] (by decide +kernel) (by decide +kernel)
set_option maxRecDepth 20000 in
theorem gX9_back_X9_isPull : GoodIn wsX9_back (va_wsS RX9 162 yX9_isPull wsX9_isPull) := goodIn_app (goodIn_of _ (by decide +kernel)) ggX9_back_X9_isPull
set_option maxRecDepth 20000 in
theorem ggX9_back_X9_isPart : GoodIn wsX9_back wsX9_isPart := goodIn_r _ [27, 13, 14, 10, 15] (by decide +kernel) (by decide +kernel)
set_option maxRecDepth 20000 in
theorem gX9_back_X9_isPart : GoodIn wsX9_back (va_wsS RX9 135 yX9_isPart wsX9_isPart) := goodIn_app (goodIn_of _ (by decide +kernel)) ggX9_back_X9_isPart
set_option maxRecDepth 20000 in
theorem ggX9_back_X0_tellBack : GoodIn wsX9_back wsX0_tellBack := goodIn_r _ [32, 33, 34, 35, 36, 37, 31, 38, 39, 40, 41, 42, 43, 44, 45, 46, 47, 48, 49, 50, 51, 52, 53, 54, 55, 56, 57, 58, 59, 60, 61, 62, 63, 64, 65, 66, 67, 68, 69, 70, 71, 72, 73, 74, 75, 76, 77, 78, 101, 102, 103, 104, 105, 106, 107, 108, 109, 110, 83, 84, 85, 86, 87, 88, 89, 90, 111, 112] (by decide +kernel) (by decide +kernel)
set_option maxRecDepth 20000 in
theorem gX9_back_X0_tellBack : GoodIn wsX9_back (wsV RX9 165 RX0 yX0_tellBack wsX0_tellBack) := goodIn_app (goodIn_of _ (by decide +kernel)) ggX9_back_X0_tellBack
set_option maxRecDepth 20000 in
theorem ggX9_back_X2_number : GoodIn wsX9_back wsX2_number := goodIn_r _ [82, 74, 75, 111, 112] (by decide +kernel) (by decide +kernel)
set_option maxRecDepth 20000 in
theorem gX9_back_X2_number : GoodIn wsX9_back (wsV RX9 150 RX2 yX2_number wsX2_number) := goodIn_app (goodIn_of _ (by decide +kernel)) ggX9_back_X2_number
theorem dX9_back_0 : decode cX9_back 0 = .ok (.aload_n 0, 1) := by decide +kernel
theorem dX9_back_1 : decode cX9_back 1 = .ok (.iload_n 1, 1) := by decide +kernel
theorem dX9_back_2 : decode cX9_back 2 = .ok (.invokevirtual 103, 3) := by decide +kernel
theorem dX9_back_5 : decode cX9_back 5 = .ok (.astore 5, 2) := by decide +kernel
theorem dX9_back_7 : decode cX9_back 7 = .ok (.aload 5, 2) := by decide +kernel
theorem dX9_back_9 : decode cX9_back 9 = .ok (.ifnull 12, 3) := by decide +kernel
theorem dX9_back_12 : decode cX9_back 12 = .ok (.aload 5, 2) := by decide +kernel
theorem dX9_back_14 : decode cX9_back 14 = .ok (.iload_n 2, 1) := by decide +kernel
theorem dX9_back_15 : decode cX9_back 15 = .ok (.invokevirtual 107, 3) := by decide +kernel
theorem dX9_back_18 : decode cX9_back 18 = .ok (.ifCond .ne 7, 3) := by decide +kernel
theorem dX9_back_21 : decode cX9_back 21 = .ok (.ldc2_w 133, 3) := by decide +kernel
theorem dX9_back_24 : decode cX9_back 24 = .ok (.lreturn, 1) := by decide +kernel
theorem dX9_back_25 : decode cX9_back 25 = .ok (.iload_n 3, 1) := by decide +kernel
theorem dX9_back_26 : decode cX9_back 26 = .ok (.invokestatic 162, 3) := by decide +kernel
theorem dX9_back_29 : decode cX9_back 29 = .ok (.ifCond .eq 11, 3) := by decide +kernel
theorem dX9_back_32 : decode cX9_back 32 = .ok (.iload 4, 2) := by decide +kernel
theorem dX9_back_34 : decode cX9_back 34 = .ok (.invokestatic 135, 3) := by decide +kernel
theorem dX9_back_37 : decode cX9_back 37 = .ok (.ifCond .ne 7, 3) := by decide +kernel
theorem dX9_back_40 : decode cX9_back 40 = .ok (.ldc2_w 138, 3) := by decide +kernel
theorem dX9_back_43 : decode cX9_back 43 = .ok (.lreturn, 1) := by decide +kernel
theorem dX9_back_44 : decode cX9_back 44 = .ok (.aload 5, 2) := by decide +kernel
theorem dX9_back_46 : decode cX9_back 46 = .ok (.getfield 111, 3) := by decide +kernel
theorem dX9_back_49 : decode cX9_back 49 = .ok (.iload_n 2, 1) := by decide +kernel
theorem dX9_back_50 : decode cX9_back 50 = .ok (.iaload, 1) := by decide +kernel
theorem dX9_back_51 : decode cX9_back 51 = .ok (.ifCond .ne 7, 3) := by decide +kernel
theorem dX9_back_54 : decode cX9_back 54 = .ok (.ldc2_w 144, 3) := by decide +kernel
theorem dX9_back_57 : decode cX9_back 57 = .ok (.lreturn, 1) := by decide +kernel
theorem dX9_back_58 : decode cX9_back 58 = .ok (.aload_n 0, 1) := by decide +kernel
theorem dX9_back_59 : decode cX9_back 59 = .ok (.getfield 25, 3) := by decide +kernel
theorem dX9_back_62 : decode cX9_back 62 = .ok (.aload 5, 2) := by decide +kernel
theorem dX9_back_64 : decode cX9_back 64 = .ok (.iload_n 2, 1) := by decide +kernel
theorem dX9_back_65 : decode cX9_back 65 = .ok (.iload_n 3, 1) := by decide +kernel
theorem dX9_back_66 : decode cX9_back 66 = .ok (.aload_n 0, 1) := by decide +kernel
theorem dX9_back_67 : decode cX9_back 67 = .ok (.getfield 32, 3) := by decide +kernel
theorem dX9_back_70 : decode cX9_back 70 = .ok (.invokevirtual 165, 3) := by decide +kernel
theorem dX9_back_73 : decode cX9_back 73 = .ok (.aload_n 0, 1) := by decide +kernel
theorem dX9_back_74 : decode cX9_back 74 = .ok (.getfield 32, 3) := by decide +kernel
theorem dX9_back_77 : decode cX9_back 77 = .ok (.iload 4, 2) := by decide +kernel
theorem dX9_back_79 : decode cX9_back 79 = .ok (.invokevirtual 150, 3) := by decide +kernel
theorem dX9_back_82 : decode cX9_back 82 = .ok (.lreturn, 1) := by decide +kernel
set_option maxRecDepth 20000 in
theorem ggX9_spreads_X9_lapAt : GoodIn wsX9_spreads wsX9_lapAt := goodIn_r _ [6, 7, 8, 9, 5, 10, 74, 75, 76, 77, 78, 79, 80, 81, 82, 83] (by decide +kernel) (by decide +kernel)
set_option maxRecDepth 20000 in
theorem gX9_spreads_X9_lapAt : GoodIn wsX9_spreads (wsV RX9 103 RX9 yX9_lapAt wsX9_lapAt) := goodIn_app (goodIn_of _ (by decide +kernel)) ggX9_spreads_X9_lapAt
set_option maxRecDepth 20000 in
theorem ggX9_spreads_X9_refusalOfPull : GoodIn wsX9_spreads wsX9_refusalOfPull := goodIn_r _ [13, 14, 15, 5, 16, 8, 9, 10, 17, 18, 19, 20, 21, 22, 23, 24, 25, 26, 84, 85, 86, 87, 88, 89, 90, 91] (by decide +kernel) (by decide +kernel)
set_option maxRecDepth 20000 in
theorem gX9_spreads_X9_refusalOfPull : GoodIn wsX9_spreads (va_wsS RX9 168 yX9_refusalOfPull wsX9_refusalOfPull) := goodIn_app (goodIn_of _ (by decide +kernel)) ggX9_spreads_X9_refusalOfPull
set_option maxRecDepth 20000 in
theorem ggX9_spreads_X0_spreadingSpots : GoodIn wsX9_spreads wsX0_spreadingSpots := goodIn_r _ [31, 32, 33, 34, 30, 35, 36, 37, 38, 39, 40, 41, 42, 43, 44, 45, 46, 47, 48, 49, 50, 51, 52, 53, 54, 55, 56, 57, 58, 59, 60, 61, 62, 63, 64, 65, 66, 67, 68, 69, 70, 71, 72, 73, 84, 85, 86, 87, 88, 89, 90, 91, 92, 93, 94, 95, 96, 97, 98, 99, 100, 101] (by decide +kernel) (by decide +kernel)
set_option maxRecDepth 20000 in
theorem gX9_spreads_X0_spreadingSpots : GoodIn wsX9_spreads (wsV RX9 172 RX0 yX0_spreadingSpots wsX0_spreadingSpots) := goodIn_app (goodIn_of _ (by decide +kernel)) ggX9_spreads_X0_spreadingSpots
theorem dX9_spreads_0 : decode cX9_spreads 0 = .ok (.aload_n 0, 1) := by decide +kernel
theorem dX9_spreads_1 : decode cX9_spreads 1 = .ok (.iload_n 1, 1) := by decide +kernel
theorem dX9_spreads_2 : decode cX9_spreads 2 = .ok (.invokevirtual 103, 3) := by decide +kernel
theorem dX9_spreads_5 : decode cX9_spreads 5 = .ok (.astore_n 3, 1) := by decide +kernel
theorem dX9_spreads_6 : decode cX9_spreads 6 = .ok (.aload_n 3, 1) := by decide +kernel
theorem dX9_spreads_7 : decode cX9_spreads 7 = .ok (.iload_n 2, 1) := by decide +kernel
theorem dX9_spreads_8 : decode cX9_spreads 8 = .ok (.iconst 1, 1) := by decide +kernel
theorem dX9_spreads_9 : decode cX9_spreads 9 = .ok (.invokestatic 168, 3) := by decide +kernel
theorem dX9_spreads_12 : decode cX9_spreads 12 = .ok (.istore 4, 2) := by decide +kernel
theorem dX9_spreads_14 : decode cX9_spreads 14 = .ok (.iload 4, 2) := by decide +kernel
theorem dX9_spreads_16 : decode cX9_spreads 16 = .ok (.ifCond .eq 8, 3) := by decide +kernel
theorem dX9_spreads_19 : decode cX9_spreads 19 = .ok (.iload 4, 2) := by decide +kernel
theorem dX9_spreads_21 : decode cX9_spreads 21 = .ok (.goto 12, 3) := by decide +kernel
theorem dX9_spreads_24 : decode cX9_spreads 24 = .ok (.aload_n 0, 1) := by decide +kernel
theorem dX9_spreads_25 : decode cX9_spreads 25 = .ok (.getfield 25, 3) := by decide +kernel
theorem dX9_spreads_28 : decode cX9_spreads 28 = .ok (.aload_n 3, 1) := by decide +kernel
theorem dX9_spreads_29 : decode cX9_spreads 29 = .ok (.iload_n 2, 1) := by decide +kernel
theorem dX9_spreads_30 : decode cX9_spreads 30 = .ok (.invokevirtual 172, 3) := by decide +kernel
theorem dX9_spreads_33 : decode cX9_spreads 33 = .ok (.ireturn, 1) := by decide +kernel
set_option maxRecDepth 20000 in
theorem ggX9_first_X9_lapAt : GoodIn wsX9_first wsX9_lapAt := goodIn_r _ [6, 7, 8, 9, 5, 10, 68, 69, 70, 71, 72, 73, 74, 75, 76, 77] (by decide +kernel) (by decide +kernel)
set_option maxRecDepth 20000 in
theorem gX9_first_X9_lapAt : GoodIn wsX9_first (wsV RX9 103 RX9 yX9_lapAt wsX9_lapAt) := goodIn_app (goodIn_of _ (by decide +kernel)) ggX9_first_X9_lapAt
set_option maxRecDepth 20000 in
theorem ggX9_first_X5_isLoose : GoodIn wsX9_first wsX5_isLoose := goodIn_r _ [15, 16, 17, 18, 14, 19, 20, 78, 79, 80, 81, 82, 83, 84, 85] (by decide +kernel) (by decide +kernel)
set_option maxRecDepth 20000 in
theorem gX9_first_X5_isLoose : GoodIn wsX9_first (wsV RX9 140 RX5 yX5_isLoose wsX5_isLoose) := goodIn_app (goodIn_of _ (by decide +kernel)) ggX9_first_X5_isLoose
set_option maxRecDepth 20000 in
theorem ggX9_first_X0_leastPull : GoodIn wsX9_first wsX0_leastPull := goodIn_r _ [25, 26, 27, 28, 29, 30, 24, 31, 32, 33, 34, 35, 36, 37, 38, 39, 40, 41, 42, 43, 44, 45, 46, 47, 48, 49, 50, 51, 52, 53, 54, 55, 56, 57, 58, 59, 60, 61, 62, 63, 64, 65, 66, 67, 78, 79, 80, 81, 82, 83, 84, 85, 86, 87, 88, 89, 90, 91, 92, 93, 94, 95] (by decide +kernel) (by decide +kernel)
set_option maxRecDepth 20000 in
theorem gX9_first_X0_leastPull : GoodIn wsX9_first (wsV RX9 176 RX0 yX0_leastPull wsX0_leastPull) := goodIn_app (goodIn_of _ (by decide +kernel)) ggX9_first_X0_leastPull
theorem dX9_first_0 : decode cX9_first 0 = .ok (.aload_n 0, 1) := by decide +kernel
theorem dX9_first_1 : decode cX9_first 1 = .ok (.iload_n 1, 1) := by decide +kernel
theorem dX9_first_2 : decode cX9_first 2 = .ok (.invokevirtual 103, 3) := by decide +kernel
theorem dX9_first_5 : decode cX9_first 5 = .ok (.astore_n 2, 1) := by decide +kernel
theorem dX9_first_6 : decode cX9_first 6 = .ok (.aload_n 2, 1) := by decide +kernel
theorem dX9_first_7 : decode cX9_first 7 = .ok (.ifnonnull 5, 3) := by decide +kernel
theorem dX9_first_10 : decode cX9_first 10 = .ok (.iconst (-1), 1) := by decide +kernel
theorem dX9_first_11 : decode cX9_first 11 = .ok (.ireturn, 1) := by decide +kernel
theorem dX9_first_12 : decode cX9_first 12 = .ok (.aload_n 2, 1) := by decide +kernel
theorem dX9_first_13 : decode cX9_first 13 = .ok (.invokevirtual 140, 3) := by decide +kernel
theorem dX9_first_16 : decode cX9_first 16 = .ok (.ifCond .eq 8, 3) := by decide +kernel
theorem dX9_first_19 : decode cX9_first 19 = .ok (.bipush (-3), 2) := by decide +kernel
theorem dX9_first_21 : decode cX9_first 21 = .ok (.goto 11, 3) := by decide +kernel
theorem dX9_first_24 : decode cX9_first 24 = .ok (.aload_n 0, 1) := by decide +kernel
theorem dX9_first_25 : decode cX9_first 25 = .ok (.getfield 25, 3) := by decide +kernel
theorem dX9_first_28 : decode cX9_first 28 = .ok (.aload_n 2, 1) := by decide +kernel
theorem dX9_first_29 : decode cX9_first 29 = .ok (.invokevirtual 176, 3) := by decide +kernel
theorem dX9_first_32 : decode cX9_first 32 = .ok (.ireturn, 1) := by decide +kernel
set_option maxRecDepth 20000 in
theorem ggX9_snap_X9_lapAt : GoodIn wsX9_snap wsX9_lapAt := goodIn_r _ [6, 7, 8, 9, 5, 10, 79, 80, 81, 82, 83, 84, 85, 86, 87, 88] (by decide +kernel) (by decide +kernel)
set_option maxRecDepth 20000 in
theorem gX9_snap_X9_lapAt : GoodIn wsX9_snap (wsV RX9 103 RX9 yX9_lapAt wsX9_lapAt) := goodIn_app (goodIn_of _ (by decide +kernel)) ggX9_snap_X9_lapAt
set_option maxRecDepth 20000 in
theorem ggX9_snap_X9_refusalOfPull : GoodIn wsX9_snap wsX9_refusalOfPull := goodIn_r _ [13, 14, 15, 5, 16, 8, 9, 10, 17, 18, 19, 20, 21, 22, 23, 24, 25, 26, 89, 90, 91, 92, 93, 94, 95, 96] (by decide +kernel) (by decide +kernel)
set_option maxRecDepth 20000 in
theorem gX9_snap_X9_refusalOfPull : GoodIn wsX9_snap (va_wsS RX9 168 yX9_refusalOfPull wsX9_refusalOfPull) := goodIn_app (goodIn_of _ (by decide +kernel)) ggX9_snap_X9_refusalOfPull
set_option maxRecDepth 20000 in
theorem ggX9_snap_X0_breakBy : GoodIn wsX9_snap wsX0_breakBy := goodIn_r _ [31, 32, 33, 34, 35, 30, 36, 37, 38, 39, 40, 41, 42, 43, 44, 45, 46, 47, 48, 49, 50, 51, 52, 53, 54, 55, 56, 57, 58, 59, 60, 61, 62, 63, 64, 65, 66, 67, 68, 69, 70, 71, 72, 73, 74, 75, 76, 77, 78, 18, 19, 20, 21, 22, 23, 24, 25, 26, 89, 90, 91, 92, 93, 94, 95, 96, 97, 98, 99, 100, 101, 102, 103, 104, 105, 106] (by decide +kernel) (by decide +kernel)
set_option maxRecDepth 20000 in
theorem gX9_snap_X0_breakBy : GoodIn wsX9_snap (wsV RX9 179 RX0 yX0_breakBy wsX0_breakBy) := goodIn_app (goodIn_of _ (by decide +kernel)) ggX9_snap_X0_breakBy
theorem dX9_snap_0 : decode cX9_snap 0 = .ok (.aload_n 0, 1) := by decide +kernel
theorem dX9_snap_1 : decode cX9_snap 1 = .ok (.iload_n 1, 1) := by decide +kernel
theorem dX9_snap_2 : decode cX9_snap 2 = .ok (.invokevirtual 103, 3) := by decide +kernel
theorem dX9_snap_5 : decode cX9_snap 5 = .ok (.astore_n 3, 1) := by decide +kernel
theorem dX9_snap_6 : decode cX9_snap 6 = .ok (.aload_n 3, 1) := by decide +kernel
theorem dX9_snap_7 : decode cX9_snap 7 = .ok (.iload_n 2, 1) := by decide +kernel
theorem dX9_snap_8 : decode cX9_snap 8 = .ok (.iconst 1, 1) := by decide +kernel
theorem dX9_snap_9 : decode cX9_snap 9 = .ok (.invokestatic 168, 3) := by decide +kernel
theorem dX9_snap_12 : decode cX9_snap 12 = .ok (.istore 4, 2) := by decide +kernel
theorem dX9_snap_14 : decode cX9_snap 14 = .ok (.iload 4, 2) := by decide +kernel
theorem dX9_snap_16 : decode cX9_snap 16 = .ok (.ifCond .eq 8, 3) := by decide +kernel
theorem dX9_snap_19 : decode cX9_snap 19 = .ok (.iload 4, 2) := by decide +kernel
theorem dX9_snap_21 : decode cX9_snap 21 = .ok (.goto 12, 3) := by decide +kernel
theorem dX9_snap_24 : decode cX9_snap 24 = .ok (.aload_n 0, 1) := by decide +kernel
theorem dX9_snap_25 : decode cX9_snap 25 = .ok (.getfield 25, 3) := by decide +kernel
theorem dX9_snap_28 : decode cX9_snap 28 = .ok (.aload_n 3, 1) := by decide +kernel
theorem dX9_snap_29 : decode cX9_snap 29 = .ok (.iload_n 2, 1) := by decide +kernel
theorem dX9_snap_30 : decode cX9_snap 30 = .ok (.invokevirtual 179, 3) := by decide +kernel
theorem dX9_snap_33 : decode cX9_snap 33 = .ok (.ireturn, 1) := by decide +kernel
set_option maxRecDepth 20000 in
theorem ggX9_rounds_X9_lapAt : GoodIn wsX9_rounds wsX9_lapAt := goodIn_r _ [7, 8, 9, 10, 6, 11, 74, 75, 76, 77, 78, 79, 80, 81, 82, 83] (by decide +kernel) (by decide +kernel)
set_option maxRecDepth 20000 in
theorem gX9_rounds_X9_lapAt : GoodIn wsX9_rounds (wsV RX9 103 RX9 yX9_lapAt wsX9_lapAt) := goodIn_app (goodIn_of _ (by decide +kernel)) ggX9_rounds_X9_lapAt
set_option maxRecDepth 20000 in
theorem ggX9_rounds_X9_within : GoodIn wsX9_rounds wsX9_within := goodIn_r _ [11] (by decide +kernel) (by decide +kernel)
set_option maxRecDepth 20000 in
theorem gX9_rounds_X9_within : GoodIn wsX9_rounds (va_wsS RX9 79 yX9_within wsX9_within) := goodIn_app (goodIn_of _ (by decide +kernel)) ggX9_rounds_X9_within
set_option maxRecDepth 20000 in
theorem ggX9_rounds_X9_refusalOfPull : GoodIn wsX9_rounds wsX9_refusalOfPull := goodIn_r _ [14, 15, 16, 6, 17, 9, 10, 11, 18, 19, 20, 21, 22, 23, 24, 25, 26, 27, 84, 85, 86, 87, 88, 89, 90, 91] (by decide +kernel) (by decide +kernel)
set_option maxRecDepth 20000 in
theorem gX9_rounds_X9_refusalOfPull : GoodIn wsX9_rounds (va_wsS RX9 168 yX9_refusalOfPull wsX9_refusalOfPull) := goodIn_app (goodIn_of _ (by decide +kernel)) ggX9_rounds_X9_refusalOfPull
set_option maxRecDepth 20000 in
theorem ggX9_rounds_X0_wearOut : GoodIn wsX9_rounds wsX0_wearOut := goodIn_r _ [32, 33, 34, 35, 31, 36, 37, 38, 39, 40, 41, 42, 43, 44, 45, 46, 47, 48, 49, 50, 51, 52, 53, 54, 55, 56, 57, 58, 59, 60, 61, 62, 63, 64, 65, 66, 67, 68, 69, 70, 71, 72, 73, 19, 20, 21, 22, 23, 24, 25, 26, 27, 92, 93, 94, 95, 96, 97, 98, 99, 100, 101, 84, 85, 86, 87, 88, 89, 90, 91] (by decide +kernel) (by decide +kernel)
set_option maxRecDepth 20000 in
theorem gX9_rounds_X0_wearOut : GoodIn wsX9_rounds (wsV RX9 182 RX0 yX0_wearOut wsX0_wearOut) := goodIn_app (goodIn_of _ (by decide +kernel)) ggX9_rounds_X0_wearOut
theorem dX9_rounds_0 : decode cX9_rounds 0 = .ok (.aload_n 0, 1) := by decide +kernel
theorem dX9_rounds_1 : decode cX9_rounds 1 = .ok (.iload_n 1, 1) := by decide +kernel
theorem dX9_rounds_2 : decode cX9_rounds 2 = .ok (.invokevirtual 103, 3) := by decide +kernel
theorem dX9_rounds_5 : decode cX9_rounds 5 = .ok (.astore 4, 2) := by decide +kernel
theorem dX9_rounds_7 : decode cX9_rounds 7 = .ok (.aload 4, 2) := by decide +kernel
theorem dX9_rounds_9 : decode cX9_rounds 9 = .ok (.iload_n 2, 1) := by decide +kernel
theorem dX9_rounds_10 : decode cX9_rounds 10 = .ok (.iload_n 3, 1) := by decide +kernel
theorem dX9_rounds_11 : decode cX9_rounds 11 = .ok (.iconst 1, 1) := by decide +kernel
theorem dX9_rounds_12 : decode cX9_rounds 12 = .ok (.sipush 1000, 3) := by decide +kernel
theorem dX9_rounds_15 : decode cX9_rounds 15 = .ok (.invokestatic 79, 3) := by decide +kernel
theorem dX9_rounds_18 : decode cX9_rounds 18 = .ok (.invokestatic 168, 3) := by decide +kernel
theorem dX9_rounds_21 : decode cX9_rounds 21 = .ok (.istore 5, 2) := by decide +kernel
theorem dX9_rounds_23 : decode cX9_rounds 23 = .ok (.iload 5, 2) := by decide +kernel
theorem dX9_rounds_25 : decode cX9_rounds 25 = .ok (.ifCond .eq 8, 3) := by decide +kernel
theorem dX9_rounds_28 : decode cX9_rounds 28 = .ok (.iload 5, 2) := by decide +kernel
theorem dX9_rounds_30 : decode cX9_rounds 30 = .ok (.goto 20, 3) := by decide +kernel
theorem dX9_rounds_33 : decode cX9_rounds 33 = .ok (.aload_n 0, 1) := by decide +kernel
theorem dX9_rounds_34 : decode cX9_rounds 34 = .ok (.getfield 25, 3) := by decide +kernel
theorem dX9_rounds_37 : decode cX9_rounds 37 = .ok (.aload 4, 2) := by decide +kernel
theorem dX9_rounds_39 : decode cX9_rounds 39 = .ok (.iload_n 2, 1) := by decide +kernel
theorem dX9_rounds_40 : decode cX9_rounds 40 = .ok (.iload_n 3, 1) := by decide +kernel
theorem dX9_rounds_41 : decode cX9_rounds 41 = .ok (.aload_n 0, 1) := by decide +kernel
theorem dX9_rounds_42 : decode cX9_rounds 42 = .ok (.getfield 45, 3) := by decide +kernel
theorem dX9_rounds_45 : decode cX9_rounds 45 = .ok (.iconst 0, 1) := by decide +kernel
theorem dX9_rounds_46 : decode cX9_rounds 46 = .ok (.iaload, 1) := by decide +kernel
theorem dX9_rounds_47 : decode cX9_rounds 47 = .ok (.invokevirtual 182, 3) := by decide +kernel
theorem dX9_rounds_50 : decode cX9_rounds 50 = .ok (.ireturn, 1) := by decide +kernel
set_option maxRecDepth 20000 in
theorem ggX9_set_X9_within : GoodIn wsX9_set wsX9_within := goodIn_r _ [7] (by decide +kernel) (by decide +kernel)
set_option maxRecDepth 20000 in
theorem gX9_set_X9_within : GoodIn wsX9_set (va_wsS RX9 79 yX9_within wsX9_within) := goodIn_app (goodIn_of _ (by decide +kernel)) ggX9_set_X9_within
set_option maxRecDepth 20000 in
theorem ggX9_set_X9_put : GoodIn wsX9_set wsX9_put := goodIn_r _ [10, 4, 5, 6, 7] (by decide +kernel) (by decide +kernel)
set_option maxRecDepth 20000 in
theorem gX9_set_X9_put : GoodIn wsX9_set (va_wsS RX9 129 yX9_put wsX9_put) := goodIn_app (goodIn_of _ (by decide +kernel)) ggX9_set_X9_put
theorem dX9_set_0 : decode cX9_set 0 = .ok (.iload_n 1, 1) := by decide +kernel
theorem dX9_set_1 : decode cX9_set 1 = .ok (.iconst 0, 1) := by decide +kernel
theorem dX9_set_2 : decode cX9_set 2 = .ok (.aload_n 0, 1) := by decide +kernel
theorem dX9_set_3 : decode cX9_set 3 = .ok (.getfield 45, 3) := by decide +kernel
theorem dX9_set_6 : decode cX9_set 6 = .ok (.arraylength, 1) := by decide +kernel
theorem dX9_set_7 : decode cX9_set 7 = .ok (.iconst 1, 1) := by decide +kernel
theorem dX9_set_8 : decode cX9_set 8 = .ok (.isub, 1) := by decide +kernel
theorem dX9_set_9 : decode cX9_set 9 = .ok (.invokestatic 79, 3) := by decide +kernel
theorem dX9_set_12 : decode cX9_set 12 = .ok (.ifCond .ne 6, 3) := by decide +kernel
theorem dX9_set_15 : decode cX9_set 15 = .ok (.bipush (-2), 2) := by decide +kernel
theorem dX9_set_17 : decode cX9_set 17 = .ok (.ireturn, 1) := by decide +kernel
theorem dX9_set_18 : decode cX9_set 18 = .ok (.aload_n 0, 1) := by decide +kernel
theorem dX9_set_19 : decode cX9_set 19 = .ok (.getfield 45, 3) := by decide +kernel
theorem dX9_set_22 : decode cX9_set 22 = .ok (.iload_n 1, 1) := by decide +kernel
theorem dX9_set_23 : decode cX9_set 23 = .ok (.iload_n 2, 1) := by decide +kernel
theorem dX9_set_24 : decode cX9_set 24 = .ok (.getstatic 186, 3) := by decide +kernel
theorem dX9_set_27 : decode cX9_set 27 = .ok (.iload_n 1, 1) := by decide +kernel
theorem dX9_set_28 : decode cX9_set 28 = .ok (.iaload, 1) := by decide +kernel
theorem dX9_set_29 : decode cX9_set 29 = .ok (.getstatic 189, 3) := by decide +kernel
theorem dX9_set_32 : decode cX9_set 32 = .ok (.iload_n 1, 1) := by decide +kernel
theorem dX9_set_33 : decode cX9_set 33 = .ok (.iaload, 1) := by decide +kernel
theorem dX9_set_34 : decode cX9_set 34 = .ok (.invokestatic 129, 3) := by decide +kernel
theorem dX9_set_37 : decode cX9_set 37 = .ok (.ireturn, 1) := by decide +kernel
set_option maxRecDepth 20000 in
theorem ggX9_damp_X9_lapAt : GoodIn wsX9_damp wsX9_lapAt := goodIn_r _ [6, 7, 8, 9, 5, 10, 22, 23, 24, 25, 26, 27, 28, 29, 30, 31] (by decide +kernel) (by decide +kernel)
set_option maxRecDepth 20000 in
theorem gX9_damp_X9_lapAt : GoodIn wsX9_damp (wsV RX9 103 RX9 yX9_lapAt wsX9_lapAt) := goodIn_app (goodIn_of _ (by decide +kernel)) ggX9_damp_X9_lapAt
set_option maxRecDepth 20000 in
theorem ggX9_damp_X9_put : GoodIn wsX9_damp wsX9_put := goodIn_r _ [13, 8, 9, 5, 10] (by decide +kernel) (by decide +kernel)
set_option maxRecDepth 20000 in
theorem gX9_damp_X9_put : GoodIn wsX9_damp (va_wsS RX9 129 yX9_put wsX9_put) := goodIn_app (goodIn_of _ (by decide +kernel)) ggX9_damp_X9_put
theorem dX9_damp_0 : decode cX9_damp 0 = .ok (.aload_n 0, 1) := by decide +kernel
theorem dX9_damp_1 : decode cX9_damp 1 = .ok (.iload_n 1, 1) := by decide +kernel
theorem dX9_damp_2 : decode cX9_damp 2 = .ok (.invokevirtual 103, 3) := by decide +kernel
theorem dX9_damp_5 : decode cX9_damp 5 = .ok (.astore 4, 2) := by decide +kernel
theorem dX9_damp_7 : decode cX9_damp 7 = .ok (.aload 4, 2) := by decide +kernel
theorem dX9_damp_9 : decode cX9_damp 9 = .ok (.ifnonnull 7, 3) := by decide +kernel
theorem dX9_damp_12 : decode cX9_damp 12 = .ok (.iconst (-1), 1) := by decide +kernel
theorem dX9_damp_13 : decode cX9_damp 13 = .ok (.goto 17, 3) := by decide +kernel
theorem dX9_damp_16 : decode cX9_damp 16 = .ok (.aload 4, 2) := by decide +kernel
theorem dX9_damp_18 : decode cX9_damp 18 = .ok (.getfield 192, 3) := by decide +kernel
theorem dX9_damp_21 : decode cX9_damp 21 = .ok (.iload_n 2, 1) := by decide +kernel
theorem dX9_damp_22 : decode cX9_damp 22 = .ok (.iload_n 3, 1) := by decide +kernel
theorem dX9_damp_23 : decode cX9_damp 23 = .ok (.iconst 0, 1) := by decide +kernel
theorem dX9_damp_24 : decode cX9_damp 24 = .ok (.sipush 1000, 3) := by decide +kernel
theorem dX9_damp_27 : decode cX9_damp 27 = .ok (.invokestatic 129, 3) := by decide +kernel
theorem dX9_damp_30 : decode cX9_damp 30 = .ok (.ireturn, 1) := by decide +kernel
set_option maxRecDepth 20000 in
theorem ggX9_hours_X9_lapAt : GoodIn wsX9_hours wsX9_lapAt := goodIn_r _ [8, 9, 10, 11, 7, 12, 28, 29, 30, 31, 32, 33, 34, 35, 36, 37] (by decide +kernel) (by decide +kernel)
set_option maxRecDepth 20000 in
theorem gX9_hours_X9_lapAt : GoodIn wsX9_hours (wsV RX9 103 RX9 yX9_lapAt wsX9_lapAt) := goodIn_app (goodIn_of _ (by decide +kernel)) ggX9_hours_X9_lapAt
set_option maxRecDepth 20000 in
theorem ggX9_hours_X9_within : GoodIn wsX9_hours wsX9_within := goodIn_r _ [12] (by decide +kernel) (by decide +kernel)
set_option maxRecDepth 20000 in
theorem gX9_hours_X9_within : GoodIn wsX9_hours (va_wsS RX9 79 yX9_within wsX9_within) := goodIn_app (goodIn_of _ (by decide +kernel)) ggX9_hours_X9_within
set_option maxRecDepth 20000 in
theorem ggX9_hours_X5_soak : GoodIn wsX9_hours wsX5_soak := goodIn_r _ [17, 18, 38, 39, 40, 41, 42, 43, 44, 45] (by decide +kernel) (by decide +kernel)
set_option maxRecDepth 20000 in
theorem gX9_hours_X5_soak : GoodIn wsX9_hours (wsV RX9 195 RX5 yX5_soak wsX5_soak) := goodIn_app (goodIn_of _ (by decide +kernel)) ggX9_hours_X5_soak
set_option maxRecDepth 20000 in
theorem ggX9_hours_X5_cureBy : GoodIn wsX9_hours wsX5_cureBy := goodIn_r _ [22, 23, 24, 25, 26, 27, 38, 39, 40, 41, 42, 43, 44, 45] (by decide +kernel) (by decide +kernel)
set_option maxRecDepth 20000 in
theorem gX9_hours_X5_cureBy : GoodIn wsX9_hours (wsV RX9 199 RX5 yX5_cureBy wsX5_cureBy) := goodIn_app (goodIn_of _ (by decide +kernel)) ggX9_hours_X5_cureBy
theorem dX9_hours_0 : decode cX9_hours 0 = .ok (.aload_n 0, 1) := by decide +kernel
theorem dX9_hours_1 : decode cX9_hours 1 = .ok (.iload_n 1, 1) := by decide +kernel
theorem dX9_hours_2 : decode cX9_hours 2 = .ok (.invokevirtual 103, 3) := by decide +kernel
theorem dX9_hours_5 : decode cX9_hours 5 = .ok (.astore_n 3, 1) := by decide +kernel
theorem dX9_hours_6 : decode cX9_hours 6 = .ok (.aload_n 3, 1) := by decide +kernel
theorem dX9_hours_7 : decode cX9_hours 7 = .ok (.ifnonnull 5, 3) := by decide +kernel
theorem dX9_hours_10 : decode cX9_hours 10 = .ok (.iconst (-1), 1) := by decide +kernel
theorem dX9_hours_11 : decode cX9_hours 11 = .ok (.ireturn, 1) := by decide +kernel
theorem dX9_hours_12 : decode cX9_hours 12 = .ok (.iload_n 2, 1) := by decide +kernel
theorem dX9_hours_13 : decode cX9_hours 13 = .ok (.iconst 1, 1) := by decide +kernel
theorem dX9_hours_14 : decode cX9_hours 14 = .ok (.sipush 1000, 3) := by decide +kernel
theorem dX9_hours_17 : decode cX9_hours 17 = .ok (.invokestatic 79, 3) := by decide +kernel
theorem dX9_hours_20 : decode cX9_hours 20 = .ok (.ifCond .ne 6, 3) := by decide +kernel
theorem dX9_hours_23 : decode cX9_hours 23 = .ok (.bipush (-2), 2) := by decide +kernel
theorem dX9_hours_25 : decode cX9_hours 25 = .ok (.ireturn, 1) := by decide +kernel
theorem dX9_hours_26 : decode cX9_hours 26 = .ok (.aload_n 0, 1) := by decide +kernel
theorem dX9_hours_27 : decode cX9_hours 27 = .ok (.getfield 45, 3) := by decide +kernel
theorem dX9_hours_30 : decode cX9_hours 30 = .ok (.iconst 3, 1) := by decide +kernel
theorem dX9_hours_31 : decode cX9_hours 31 = .ok (.iaload, 1) := by decide +kernel
theorem dX9_hours_32 : decode cX9_hours 32 = .ok (.bipush 10, 2) := by decide +kernel
theorem dX9_hours_34 : decode cX9_hours 34 = .ok (.idiv, 1) := by decide +kernel
theorem dX9_hours_35 : decode cX9_hours 35 = .ok (.istore 4, 2) := by decide +kernel
theorem dX9_hours_37 : decode cX9_hours 37 = .ok (.iload 4, 2) := by decide +kernel
theorem dX9_hours_39 : decode cX9_hours 39 = .ok (.iconst 0, 1) := by decide +kernel
theorem dX9_hours_40 : decode cX9_hours 40 = .ok (.aload_n 0, 1) := by decide +kernel
theorem dX9_hours_41 : decode cX9_hours 41 = .ok (.getfield 48, 3) := by decide +kernel
theorem dX9_hours_44 : decode cX9_hours 44 = .ok (.arraylength, 1) := by decide +kernel
theorem dX9_hours_45 : decode cX9_hours 45 = .ok (.iconst 1, 1) := by decide +kernel
theorem dX9_hours_46 : decode cX9_hours 46 = .ok (.isub, 1) := by decide +kernel
theorem dX9_hours_47 : decode cX9_hours 47 = .ok (.invokestatic 79, 3) := by decide +kernel
theorem dX9_hours_50 : decode cX9_hours 50 = .ok (.ifCond .eq 13, 3) := by decide +kernel
theorem dX9_hours_53 : decode cX9_hours 53 = .ok (.aload_n 0, 1) := by decide +kernel
theorem dX9_hours_54 : decode cX9_hours 54 = .ok (.getfield 48, 3) := by decide +kernel
theorem dX9_hours_57 : decode cX9_hours 57 = .ok (.iload 4, 2) := by decide +kernel
theorem dX9_hours_59 : decode cX9_hours 59 = .ok (.iaload, 1) := by decide +kernel
theorem dX9_hours_60 : decode cX9_hours 60 = .ok (.goto 4, 3) := by decide +kernel
theorem dX9_hours_63 : decode cX9_hours 63 = .ok (.iconst 0, 1) := by decide +kernel
theorem dX9_hours_64 : decode cX9_hours 64 = .ok (.istore 5, 2) := by decide +kernel
theorem dX9_hours_66 : decode cX9_hours 66 = .ok (.iconst 0, 1) := by decide +kernel
theorem dX9_hours_67 : decode cX9_hours 67 = .ok (.istore 6, 2) := by decide +kernel
theorem dX9_hours_69 : decode cX9_hours 69 = .ok (.iload 6, 2) := by decide +kernel
theorem dX9_hours_71 : decode cX9_hours 71 = .ok (.iload_n 2, 1) := by decide +kernel
theorem dX9_hours_72 : decode cX9_hours 72 = .ok (.if_icmp .ge 31, 3) := by decide +kernel
theorem dX9_hours_75 : decode cX9_hours 75 = .ok (.aload_n 3, 1) := by decide +kernel
theorem dX9_hours_76 : decode cX9_hours 76 = .ok (.aload_n 0, 1) := by decide +kernel
theorem dX9_hours_77 : decode cX9_hours 77 = .ok (.getfield 45, 3) := by decide +kernel
theorem dX9_hours_80 : decode cX9_hours 80 = .ok (.iconst 1, 1) := by decide +kernel
theorem dX9_hours_81 : decode cX9_hours 81 = .ok (.iaload, 1) := by decide +kernel
theorem dX9_hours_82 : decode cX9_hours 82 = .ok (.aload_n 0, 1) := by decide +kernel
theorem dX9_hours_83 : decode cX9_hours 83 = .ok (.getfield 45, 3) := by decide +kernel
theorem dX9_hours_86 : decode cX9_hours 86 = .ok (.iconst 2, 1) := by decide +kernel
theorem dX9_hours_87 : decode cX9_hours 87 = .ok (.iaload, 1) := by decide +kernel
theorem dX9_hours_88 : decode cX9_hours 88 = .ok (.invokevirtual 195, 3) := by decide +kernel
theorem dX9_hours_91 : decode cX9_hours 91 = .ok (.aload_n 3, 1) := by decide +kernel
theorem dX9_hours_92 : decode cX9_hours 92 = .ok (.iload 5, 2) := by decide +kernel
theorem dX9_hours_94 : decode cX9_hours 94 = .ok (.invokevirtual 199, 3) := by decide +kernel
theorem dX9_hours_97 : decode cX9_hours 97 = .ok (.iinc 6 1, 3) := by decide +kernel
theorem dX9_hours_100 : decode cX9_hours 100 = .ok (.goto (-31), 3) := by decide +kernel
theorem dX9_hours_103 : decode cX9_hours 103 = .ok (.aload_n 3, 1) := by decide +kernel
theorem dX9_hours_104 : decode cX9_hours 104 = .ok (.getfield 203, 3) := by decide +kernel
theorem dX9_hours_107 : decode cX9_hours 107 = .ok (.ireturn, 1) := by decide +kernel
set_option maxRecDepth 20000 in
theorem ggX9_of_X9_lapAt : GoodIn wsX9_of wsX9_lapAt := goodIn_r _ [8, 9, 10, 11, 7, 12, 27, 28, 29, 30, 31, 32, 33, 34, 35, 36] (by decide +kernel) (by decide +kernel)
set_option maxRecDepth 20000 in
theorem gX9_of_X9_lapAt : GoodIn wsX9_of (wsV RX9 103 RX9 yX9_lapAt wsX9_lapAt) := goodIn_app (goodIn_of _ (by decide +kernel)) ggX9_of_X9_lapAt
set_option maxRecDepth 20000 in
theorem ggX9_of_X9_within : GoodIn wsX9_of wsX9_within := goodIn_r _ [12] (by decide +kernel) (by decide +kernel)
set_option maxRecDepth 20000 in
theorem gX9_of_X9_within : GoodIn wsX9_of (va_wsS RX9 79 yX9_within wsX9_within) := goodIn_app (goodIn_of _ (by decide +kernel)) ggX9_of_X9_within
set_option maxRecDepth 20000 in
theorem ggX9_of_X5_holding : GoodIn wsX9_of wsX5_holding := goodIn_r _ [17, 18, 19, 20, 21, 22, 23, 24, 25, 26] (by decide +kernel) (by decide +kernel)
set_option maxRecDepth 20000 in
theorem gX9_of_X5_holding : GoodIn wsX9_of (wsV RX9 206 RX5 yX5_holding wsX5_holding) := goodIn_app (goodIn_of _ (by decide +kernel)) ggX9_of_X5_holding
theorem dX9_of_0 : decode cX9_of 0 = .ok (.aload_n 0, 1) := by decide +kernel
theorem dX9_of_1 : decode cX9_of 1 = .ok (.iload_n 1, 1) := by decide +kernel
theorem dX9_of_2 : decode cX9_of 2 = .ok (.invokevirtual 103, 3) := by decide +kernel
theorem dX9_of_5 : decode cX9_of 5 = .ok (.astore_n 3, 1) := by decide +kernel
theorem dX9_of_6 : decode cX9_of 6 = .ok (.aload_n 3, 1) := by decide +kernel
theorem dX9_of_7 : decode cX9_of 7 = .ok (.ifnonnull 5, 3) := by decide +kernel
theorem dX9_of_10 : decode cX9_of 10 = .ok (.iconst (-1), 1) := by decide +kernel
theorem dX9_of_11 : decode cX9_of 11 = .ok (.ireturn, 1) := by decide +kernel
theorem dX9_of_12 : decode cX9_of 12 = .ok (.iload_n 2, 1) := by decide +kernel
theorem dX9_of_13 : decode cX9_of 13 = .ok (.iconst 0, 1) := by decide +kernel
theorem dX9_of_14 : decode cX9_of 14 = .ok (.bipush 9, 2) := by decide +kernel
theorem dX9_of_16 : decode cX9_of 16 = .ok (.invokestatic 79, 3) := by decide +kernel
theorem dX9_of_19 : decode cX9_of 19 = .ok (.ifCond .eq 10, 3) := by decide +kernel
theorem dX9_of_22 : decode cX9_of 22 = .ok (.aload_n 3, 1) := by decide +kernel
theorem dX9_of_23 : decode cX9_of 23 = .ok (.getfield 192, 3) := by decide +kernel
theorem dX9_of_26 : decode cX9_of 26 = .ok (.iload_n 2, 1) := by decide +kernel
theorem dX9_of_27 : decode cX9_of 27 = .ok (.iaload, 1) := by decide +kernel
theorem dX9_of_28 : decode cX9_of 28 = .ok (.ireturn, 1) := by decide +kernel
theorem dX9_of_29 : decode cX9_of 29 = .ok (.iload_n 2, 1) := by decide +kernel
theorem dX9_of_30 : decode cX9_of 30 = .ok (.tableswitch 41 10 12 #[26, 31, 36], 26) := by decide +kernel
theorem dX9_of_56 : decode cX9_of 56 = .ok (.aload_n 3, 1) := by decide +kernel
theorem dX9_of_57 : decode cX9_of 57 = .ok (.getfield 203, 3) := by decide +kernel
theorem dX9_of_60 : decode cX9_of 60 = .ok (.ireturn, 1) := by decide +kernel
theorem dX9_of_61 : decode cX9_of 61 = .ok (.aload_n 3, 1) := by decide +kernel
theorem dX9_of_62 : decode cX9_of 62 = .ok (.getfield 99, 3) := by decide +kernel
theorem dX9_of_65 : decode cX9_of 65 = .ok (.ireturn, 1) := by decide +kernel
theorem dX9_of_66 : decode cX9_of 66 = .ok (.aload_n 3, 1) := by decide +kernel
theorem dX9_of_67 : decode cX9_of 67 = .ok (.invokevirtual 206, 3) := by decide +kernel
theorem dX9_of_70 : decode cX9_of 70 = .ok (.ireturn, 1) := by decide +kernel
theorem dX9_of_71 : decode cX9_of 71 = .ok (.bipush (-2), 2) := by decide +kernel
theorem dX9_of_73 : decode cX9_of 73 = .ok (.ireturn, 1) := by decide +kernel
set_option maxRecDepth 20000 in
theorem ggX9_rate_X9_put : GoodIn wsX9_rate wsX9_put := goodIn_r _ [5, 6, 7, 4, 8] (by decide +kernel) (by decide +kernel)
set_option maxRecDepth 20000 in
theorem gX9_rate_X9_put : GoodIn wsX9_rate (va_wsS RX9 129 yX9_put wsX9_put) := goodIn_app (goodIn_of _ (by decide +kernel)) ggX9_rate_X9_put
theorem dX9_rate_0 : decode cX9_rate 0 = .ok (.aload_n 0, 1) := by decide +kernel
theorem dX9_rate_1 : decode cX9_rate 1 = .ok (.getfield 48, 3) := by decide +kernel
theorem dX9_rate_4 : decode cX9_rate 4 = .ok (.iload_n 1, 1) := by decide +kernel
theorem dX9_rate_5 : decode cX9_rate 5 = .ok (.iload_n 2, 1) := by decide +kernel
theorem dX9_rate_6 : decode cX9_rate 6 = .ok (.iconst 0, 1) := by decide +kernel
theorem dX9_rate_7 : decode cX9_rate 7 = .ok (.bipush 100, 2) := by decide +kernel
theorem dX9_rate_9 : decode cX9_rate 9 = .ok (.invokestatic 129, 3) := by decide +kernel
theorem dX9_rate_12 : decode cX9_rate 12 = .ok (.ireturn, 1) := by decide +kernel
set_option maxRecDepth 20000 in
theorem ggX9_joint_X9_within : GoodIn wsX9_joint wsX9_within := goodIn_r _ [5] (by decide +kernel) (by decide +kernel)
set_option maxRecDepth 20000 in
theorem gX9_joint_X9_within : GoodIn wsX9_joint (va_wsS RX9 79 yX9_within wsX9_within) := goodIn_app (goodIn_of _ (by decide +kernel)) ggX9_joint_X9_within
set_option maxRecDepth 20000 in
theorem ggX9_joint_X3_change : GoodIn wsX9_joint wsX3_change := goodIn_r _ [10, 11, 12, 13, 3, 4, 5, 24, 25, 26, 27, 28, 29, 30, 31, 32, 33, 34] (by decide +kernel) (by decide +kernel)
set_option maxRecDepth 20000 in
theorem gX9_joint_X3_change : GoodIn wsX9_joint (wsV RX9 209 RX3 yX3_change wsX3_change) := goodIn_app (goodIn_of _ (by decide +kernel)) ggX9_joint_X3_change
theorem dX9_joint_0 : decode cX9_joint 0 = .ok (.iload_n 1, 1) := by decide +kernel
theorem dX9_joint_1 : decode cX9_joint 1 = .ok (.iconst 0, 1) := by decide +kernel
theorem dX9_joint_2 : decode cX9_joint 2 = .ok (.bipush 6, 2) := by decide +kernel
theorem dX9_joint_4 : decode cX9_joint 4 = .ok (.invokestatic 79, 3) := by decide +kernel
theorem dX9_joint_7 : decode cX9_joint 7 = .ok (.ifCond .ne 5, 3) := by decide +kernel
theorem dX9_joint_10 : decode cX9_joint 10 = .ok (.iconst (-1), 1) := by decide +kernel
theorem dX9_joint_11 : decode cX9_joint 11 = .ok (.ireturn, 1) := by decide +kernel
theorem dX9_joint_12 : decode cX9_joint 12 = .ok (.iload_n 2, 1) := by decide +kernel
theorem dX9_joint_13 : decode cX9_joint 13 = .ok (.iconst 0, 1) := by decide +kernel
theorem dX9_joint_14 : decode cX9_joint 14 = .ok (.bipush 100, 2) := by decide +kernel
theorem dX9_joint_16 : decode cX9_joint 16 = .ok (.invokestatic 79, 3) := by decide +kernel
theorem dX9_joint_19 : decode cX9_joint 19 = .ok (.ifCond .eq 13, 3) := by decide +kernel
theorem dX9_joint_22 : decode cX9_joint 22 = .ok (.iload_n 3, 1) := by decide +kernel
theorem dX9_joint_23 : decode cX9_joint 23 = .ok (.iconst 0, 1) := by decide +kernel
theorem dX9_joint_24 : decode cX9_joint 24 = .ok (.bipush 127, 2) := by decide +kernel
theorem dX9_joint_26 : decode cX9_joint 26 = .ok (.invokestatic 79, 3) := by decide +kernel
theorem dX9_joint_29 : decode cX9_joint 29 = .ok (.ifCond .ne 6, 3) := by decide +kernel
theorem dX9_joint_32 : decode cX9_joint 32 = .ok (.bipush (-2), 2) := by decide +kernel
theorem dX9_joint_34 : decode cX9_joint 34 = .ok (.ireturn, 1) := by decide +kernel
theorem dX9_joint_35 : decode cX9_joint 35 = .ok (.aload_n 0, 1) := by decide +kernel
theorem dX9_joint_36 : decode cX9_joint 36 = .ok (.getfield 54, 3) := by decide +kernel
theorem dX9_joint_39 : decode cX9_joint 39 = .ok (.iload_n 1, 1) := by decide +kernel
theorem dX9_joint_40 : decode cX9_joint 40 = .ok (.iload_n 2, 1) := by decide +kernel
theorem dX9_joint_41 : decode cX9_joint 41 = .ok (.iload_n 3, 1) := by decide +kernel
theorem dX9_joint_42 : decode cX9_joint 42 = .ok (.invokevirtual 209, 3) := by decide +kernel
theorem dX9_joint_45 : decode cX9_joint 45 = .ok (.ireturn, 1) := by decide +kernel
set_option maxRecDepth 20000 in
theorem ggX9_best_X3_findBest : GoodIn wsX9_best wsX3_findBest := goodIn_r _ [7, 8, 9, 10, 11, 12, 13, 14, 15, 16, 17, 6, 18, 19, 20, 21, 22, 23, 24, 25, 26, 27, 28, 29, 30, 31, 32, 33, 34, 35, 36, 37, 38, 39, 40, 41, 42, 43, 44, 45, 46, 47, 48, 49, 50, 51, 52, 53, 54, 55, 56, 57, 58, 59, 60, 61, 62, 63, 64, 65, 66, 67, 68, 69, 70, 71, 72, 73, 74, 75, 76, 77, 78, 79, 98, 99, 100, 101, 102, 103, 104, 105, 106, 107, 108] (by decide +kernel) (by decide +kernel)
set_option maxRecDepth 20000 in
theorem gX9_best_X3_findBest : GoodIn wsX9_best (wsV RX9 213 RX3 yX3_findBest wsX3_findBest) := goodIn_app (goodIn_of _ (by decide +kernel)) ggX9_best_X3_findBest
set_option maxRecDepth 20000 in
theorem ggX9_best_X3_end : GoodIn wsX9_best wsX3_end := goodIn_r _ [83, 14, 98, 99, 100, 101, 102, 103, 104, 105, 106, 107, 108] (by decide +kernel) (by decide +kernel)
set_option maxRecDepth 20000 in
theorem gX9_best_X3_end : GoodIn wsX9_best (wsV RX9 216 RX3 yX3_end wsX3_end) := goodIn_app (goodIn_of _ (by decide +kernel)) ggX9_best_X3_end
set_option maxRecDepth 20000 in
theorem ggX9_best_X3_inOrder : GoodIn wsX9_best wsX3_inOrder := goodIn_r _ [87, 19, 57, 30, 31, 32, 98, 99, 100, 101, 102, 103, 104, 105, 106, 107, 108] (by decide +kernel) (by decide +kernel)
set_option maxRecDepth 20000 in
theorem gX9_best_X3_inOrder : GoodIn wsX9_best (wsV RX9 219 RX3 yX3_inOrder wsX3_inOrder) := goodIn_app (goodIn_of _ (by decide +kernel)) ggX9_best_X3_inOrder
theorem dX9_best_0 : decode cX9_best 0 = .ok (.aload_n 0, 1) := by decide +kernel
theorem dX9_best_1 : decode cX9_best 1 = .ok (.getfield 54, 3) := by decide +kernel
theorem dX9_best_4 : decode cX9_best 4 = .ok (.aload_n 0, 1) := by decide +kernel
theorem dX9_best_5 : decode cX9_best 5 = .ok (.getfield 45, 3) := by decide +kernel
theorem dX9_best_8 : decode cX9_best 8 = .ok (.iconst 4, 1) := by decide +kernel
theorem dX9_best_9 : decode cX9_best 9 = .ok (.iaload, 1) := by decide +kernel
theorem dX9_best_10 : decode cX9_best 10 = .ok (.invokevirtual 213, 3) := by decide +kernel
theorem dX9_best_13 : decode cX9_best 13 = .ok (.ifCond .ne 6, 3) := by decide +kernel
theorem dX9_best_16 : decode cX9_best 16 = .ok (.bipush (-3), 2) := by decide +kernel
theorem dX9_best_18 : decode cX9_best 18 = .ok (.ireturn, 1) := by decide +kernel
theorem dX9_best_19 : decode cX9_best 19 = .ok (.iload_n 1, 1) := by decide +kernel
theorem dX9_best_20 : decode cX9_best 20 = .ok (.iconst (-1), 1) := by decide +kernel
theorem dX9_best_21 : decode cX9_best 21 = .ok (.if_icmp .ne 13, 3) := by decide +kernel
theorem dX9_best_24 : decode cX9_best 24 = .ok (.aload_n 0, 1) := by decide +kernel
theorem dX9_best_25 : decode cX9_best 25 = .ok (.getfield 54, 3) := by decide +kernel
theorem dX9_best_28 : decode cX9_best 28 = .ok (.invokevirtual 216, 3) := by decide +kernel
theorem dX9_best_31 : decode cX9_best 31 = .ok (.goto 11, 3) := by decide +kernel
theorem dX9_best_34 : decode cX9_best 34 = .ok (.aload_n 0, 1) := by decide +kernel
theorem dX9_best_35 : decode cX9_best 35 = .ok (.getfield 54, 3) := by decide +kernel
theorem dX9_best_38 : decode cX9_best 38 = .ok (.iload_n 1, 1) := by decide +kernel
theorem dX9_best_39 : decode cX9_best 39 = .ok (.invokevirtual 219, 3) := by decide +kernel
theorem dX9_best_42 : decode cX9_best 42 = .ok (.ireturn, 1) := by decide +kernel
set_option maxRecDepth 20000 in
theorem ggX9_begun_X3_isThere : GoodIn wsX9_begun wsX3_isThere := goodIn_r _ [7, 8, 9, 10, 11, 95, 96, 97, 98, 99, 100, 101, 102, 103, 104, 105] (by decide +kernel) (by decide +kernel)
set_option maxRecDepth 20000 in
theorem gX9_begun_X3_isThere : GoodIn wsX9_begun (wsV RX9 222 RX3 yX3_isThere wsX3_isThere) := goodIn_app (goodIn_of _ (by decide +kernel)) ggX9_begun_X3_isThere
set_option maxRecDepth 20000 in
theorem ggX9_begun_X3_findBest : GoodIn wsX9_begun wsX3_findBest := goodIn_r _ [15, 16, 17, 18, 19, 20, 21, 22, 23, 24, 25, 6, 26, 27, 28, 29, 30, 31, 32, 33, 4, 5, 7, 8, 9, 10, 11, 34, 35, 36, 37, 38, 39, 40, 41, 42, 43, 44, 45, 46, 47, 48, 49, 50, 51, 52, 53, 54, 55, 56, 57, 58, 59, 60, 61, 62, 63, 64, 65, 66, 67, 68, 69, 70, 71, 72, 73, 74, 75, 76, 77, 78, 79, 80, 95, 96, 97, 98, 99, 100, 101, 102, 103, 104, 105] (by decide +kernel) (by decide +kernel)
set_option maxRecDepth 20000 in
theorem gX9_begun_X3_findBest : GoodIn wsX9_begun (wsV RX9 213 RX3 yX3_findBest wsX3_findBest) := goodIn_app (goodIn_of _ (by decide +kernel)) ggX9_begun_X3_findBest
set_option maxRecDepth 20000 in
theorem ggX9_begun_X3_startOf : GoodIn wsX9_begun wsX3_startOf := goodIn_r _ [84, 60, 33, 4, 5, 6, 7, 8, 9, 10, 11, 95, 96, 97, 98, 99, 100, 101, 102, 103, 104, 105] (by decide +kernel) (by decide +kernel)
set_option maxRecDepth 20000 in
theorem gX9_begun_X3_startOf : GoodIn wsX9_begun (wsV RX9 225 RX3 yX3_startOf wsX3_startOf) := goodIn_app (goodIn_of _ (by decide +kernel)) ggX9_begun_X3_startOf
theorem dX9_begun_0 : decode cX9_begun 0 = .ok (.aload_n 0, 1) := by decide +kernel
theorem dX9_begun_1 : decode cX9_begun 1 = .ok (.getfield 54, 3) := by decide +kernel
theorem dX9_begun_4 : decode cX9_begun 4 = .ok (.iload_n 1, 1) := by decide +kernel
theorem dX9_begun_5 : decode cX9_begun 5 = .ok (.invokevirtual 222, 3) := by decide +kernel
theorem dX9_begun_8 : decode cX9_begun 8 = .ok (.ifCond .ne 5, 3) := by decide +kernel
theorem dX9_begun_11 : decode cX9_begun 11 = .ok (.iconst (-1), 1) := by decide +kernel
theorem dX9_begun_12 : decode cX9_begun 12 = .ok (.ireturn, 1) := by decide +kernel
theorem dX9_begun_13 : decode cX9_begun 13 = .ok (.aload_n 0, 1) := by decide +kernel
theorem dX9_begun_14 : decode cX9_begun 14 = .ok (.getfield 54, 3) := by decide +kernel
theorem dX9_begun_17 : decode cX9_begun 17 = .ok (.aload_n 0, 1) := by decide +kernel
theorem dX9_begun_18 : decode cX9_begun 18 = .ok (.getfield 45, 3) := by decide +kernel
theorem dX9_begun_21 : decode cX9_begun 21 = .ok (.iconst 4, 1) := by decide +kernel
theorem dX9_begun_22 : decode cX9_begun 22 = .ok (.iaload, 1) := by decide +kernel
theorem dX9_begun_23 : decode cX9_begun 23 = .ok (.invokevirtual 213, 3) := by decide +kernel
theorem dX9_begun_26 : decode cX9_begun 26 = .ok (.ifCond .eq 14, 3) := by decide +kernel
theorem dX9_begun_29 : decode cX9_begun 29 = .ok (.aload_n 0, 1) := by decide +kernel
theorem dX9_begun_30 : decode cX9_begun 30 = .ok (.getfield 54, 3) := by decide +kernel
theorem dX9_begun_33 : decode cX9_begun 33 = .ok (.iload_n 1, 1) := by decide +kernel
theorem dX9_begun_34 : decode cX9_begun 34 = .ok (.invokevirtual 225, 3) := by decide +kernel
theorem dX9_begun_37 : decode cX9_begun 37 = .ok (.goto 5, 3) := by decide +kernel
theorem dX9_begun_40 : decode cX9_begun 40 = .ok (.bipush (-3), 2) := by decide +kernel
theorem dX9_begun_42 : decode cX9_begun 42 = .ok (.ireturn, 1) := by decide +kernel
set_option maxRecDepth 20000 in
theorem ggX9_strip_X9_within : GoodIn wsX9_strip wsX9_within := goodIn_r _ [5] (by decide +kernel) (by decide +kernel)
set_option maxRecDepth 20000 in
theorem gX9_strip_X9_within : GoodIn wsX9_strip (va_wsS RX9 79 yX9_within wsX9_within) := goodIn_app (goodIn_of _ (by decide +kernel)) ggX9_strip_X9_within
set_option maxRecDepth 20000 in
theorem ggX9_strip_X8_append : GoodIn wsX9_strip wsX8_append := goodIn_r _ [10, 11, 12, 23, 24, 25, 26] (by decide +kernel) (by decide +kernel)
set_option maxRecDepth 20000 in
theorem gX9_strip_X8_append : GoodIn wsX9_strip (wsV RX9 228 RX8 yX8_append wsX8_append) := goodIn_app (goodIn_of _ (by decide +kernel)) ggX9_strip_X8_append
theorem dX9_strip_0 : decode cX9_strip 0 = .ok (.iload_n 1, 1) := by decide +kernel
theorem dX9_strip_1 : decode cX9_strip 1 = .ok (.iconst 0, 1) := by decide +kernel
theorem dX9_strip_2 : decode cX9_strip 2 = .ok (.sipush 10000, 3) := by decide +kernel
theorem dX9_strip_5 : decode cX9_strip 5 = .ok (.invokestatic 79, 3) := by decide +kernel
theorem dX9_strip_8 : decode cX9_strip 8 = .ok (.ifCond .eq 14, 3) := by decide +kernel
theorem dX9_strip_11 : decode cX9_strip 11 = .ok (.aload_n 0, 1) := by decide +kernel
theorem dX9_strip_12 : decode cX9_strip 12 = .ok (.getfield 61, 3) := by decide +kernel
theorem dX9_strip_15 : decode cX9_strip 15 = .ok (.iload_n 1, 1) := by decide +kernel
theorem dX9_strip_16 : decode cX9_strip 16 = .ok (.invokevirtual 228, 3) := by decide +kernel
theorem dX9_strip_19 : decode cX9_strip 19 = .ok (.goto 5, 3) := by decide +kernel
theorem dX9_strip_22 : decode cX9_strip 22 = .ok (.bipush (-2), 2) := by decide +kernel
theorem dX9_strip_24 : decode cX9_strip 24 = .ok (.ireturn, 1) := by decide +kernel
set_option maxRecDepth 20000 in
theorem ggX9_bar_X8_changeBarred : GoodIn wsX9_bar wsX8_changeBarred := goodIn_r _ [6, 7, 8, 9, 10, 11, 22, 23, 24, 25] (by decide +kernel) (by decide +kernel)
set_option maxRecDepth 20000 in
theorem gX9_bar_X8_changeBarred : GoodIn wsX9_bar (wsV RX9 229 RX8 yX8_changeBarred wsX8_changeBarred) := goodIn_app (goodIn_of _ (by decide +kernel)) ggX9_bar_X8_changeBarred
theorem dX9_bar_0 : decode cX9_bar 0 = .ok (.aload_n 0, 1) := by decide +kernel
theorem dX9_bar_1 : decode cX9_bar 1 = .ok (.getfield 61, 3) := by decide +kernel
theorem dX9_bar_4 : decode cX9_bar 4 = .ok (.iload_n 1, 1) := by decide +kernel
theorem dX9_bar_5 : decode cX9_bar 5 = .ok (.iload_n 2, 1) := by decide +kernel
theorem dX9_bar_6 : decode cX9_bar 6 = .ok (.invokevirtual 229, 3) := by decide +kernel
theorem dX9_bar_9 : decode cX9_bar 9 = .ok (.ireturn, 1) := by decide +kernel
set_option maxRecDepth 20000 in
theorem ggX9_strips_X9_within : GoodIn wsX9_strips wsX9_within := goodIn_r _ [8] (by decide +kernel) (by decide +kernel)
set_option maxRecDepth 20000 in
theorem gX9_strips_X9_within : GoodIn wsX9_strips (va_wsS RX9 79 yX9_within wsX9_within) := goodIn_app (goodIn_of _ (by decide +kernel)) ggX9_strips_X9_within
set_option maxRecDepth 20000 in
theorem ggX9_strips_X9_isPart : GoodIn wsX9_strips wsX9_isPart := goodIn_r _ [11, 5, 6, 7, 8] (by decide +kernel) (by decide +kernel)
set_option maxRecDepth 20000 in
theorem gX9_strips_X9_isPart : GoodIn wsX9_strips (va_wsS RX9 135 yX9_isPart wsX9_isPart) := goodIn_app (goodIn_of _ (by decide +kernel)) ggX9_strips_X9_isPart
set_option maxRecDepth 20000 in
theorem ggX9_strips_X8_kept : GoodIn wsX9_strips wsX8_kept := goodIn_r _ [16, 17, 18, 65, 66, 67, 68] (by decide +kernel) (by decide +kernel)
set_option maxRecDepth 20000 in
theorem gX9_strips_X8_kept : GoodIn wsX9_strips (wsV RX9 233 RX8 yX8_kept wsX8_kept) := goodIn_app (goodIn_of _ (by decide +kernel)) ggX9_strips_X8_kept
set_option maxRecDepth 20000 in
theorem ggX9_strips_X8_tellMean : GoodIn wsX9_strips wsX8_tellMean := goodIn_r _ [22, 23, 24, 25, 15, 26, 17, 18, 27, 28, 13, 14, 16, 29, 30, 31, 32, 33, 34, 35, 36, 37, 38, 39, 40, 41, 42, 65, 66, 67, 68, 69, 70] (by decide +kernel) (by decide +kernel)
set_option maxRecDepth 20000 in
theorem gX9_strips_X8_tellMean : GoodIn wsX9_strips (wsV RX9 236 RX8 yX8_tellMean wsX8_tellMean) := goodIn_app (goodIn_of _ (by decide +kernel)) ggX9_strips_X8_tellMean
set_option maxRecDepth 20000 in
theorem ggX9_strips_X8_tellSpread : GoodIn wsX9_strips wsX8_tellSpread := goodIn_r _ [46, 28, 13, 14, 15, 16, 17, 18, 23, 24, 25, 26, 27, 47, 48, 49, 50, 29, 30, 31, 32, 33, 34, 35, 36, 37, 38, 39, 40, 41, 42, 65, 66, 67, 68, 69, 70] (by decide +kernel) (by decide +kernel)
set_option maxRecDepth 20000 in
theorem gX9_strips_X8_tellSpread : GoodIn wsX9_strips (wsV RX9 240 RX8 yX8_tellSpread wsX8_tellSpread) := goodIn_app (goodIn_of _ (by decide +kernel)) ggX9_strips_X8_tellSpread
set_option maxRecDepth 20000 in
theorem ggX9_strips_X2_number : GoodIn wsX9_strips wsX2_number := goodIn_r _ [54, 38, 39, 69, 70] (by decide +kernel) (by decide +kernel)
set_option maxRecDepth 20000 in
theorem gX9_strips_X2_number : GoodIn wsX9_strips (wsV RX9 150 RX2 yX2_number wsX2_number) := goodIn_app (goodIn_of _ (by decide +kernel)) ggX9_strips_X2_number
theorem dX9_strips_0 : decode cX9_strips 0 = .ok (.iload_n 1, 1) := by decide +kernel
theorem dX9_strips_1 : decode cX9_strips 1 = .ok (.iconst 0, 1) := by decide +kernel
theorem dX9_strips_2 : decode cX9_strips 2 = .ok (.iconst 1, 1) := by decide +kernel
theorem dX9_strips_3 : decode cX9_strips 3 = .ok (.invokestatic 79, 3) := by decide +kernel
theorem dX9_strips_6 : decode cX9_strips 6 = .ok (.ifCond .eq 10, 3) := by decide +kernel
theorem dX9_strips_9 : decode cX9_strips 9 = .ok (.iload_n 2, 1) := by decide +kernel
theorem dX9_strips_10 : decode cX9_strips 10 = .ok (.invokestatic 135, 3) := by decide +kernel
theorem dX9_strips_13 : decode cX9_strips 13 = .ok (.ifCond .ne 7, 3) := by decide +kernel
theorem dX9_strips_16 : decode cX9_strips 16 = .ok (.ldc2_w 138, 3) := by decide +kernel
theorem dX9_strips_19 : decode cX9_strips 19 = .ok (.lreturn, 1) := by decide +kernel
theorem dX9_strips_20 : decode cX9_strips 20 = .ok (.aload_n 0, 1) := by decide +kernel
theorem dX9_strips_21 : decode cX9_strips 21 = .ok (.getfield 61, 3) := by decide +kernel
theorem dX9_strips_24 : decode cX9_strips 24 = .ok (.invokevirtual 233, 3) := by decide +kernel
theorem dX9_strips_27 : decode cX9_strips 27 = .ok (.ifCond .ne 7, 3) := by decide +kernel
theorem dX9_strips_30 : decode cX9_strips 30 = .ok (.ldc2_w 144, 3) := by decide +kernel
theorem dX9_strips_33 : decode cX9_strips 33 = .ok (.lreturn, 1) := by decide +kernel
theorem dX9_strips_34 : decode cX9_strips 34 = .ok (.iload_n 1, 1) := by decide +kernel
theorem dX9_strips_35 : decode cX9_strips 35 = .ok (.ifCond .ne 17, 3) := by decide +kernel
theorem dX9_strips_38 : decode cX9_strips 38 = .ok (.aload_n 0, 1) := by decide +kernel
theorem dX9_strips_39 : decode cX9_strips 39 = .ok (.getfield 61, 3) := by decide +kernel
theorem dX9_strips_42 : decode cX9_strips 42 = .ok (.aload_n 0, 1) := by decide +kernel
theorem dX9_strips_43 : decode cX9_strips 43 = .ok (.getfield 32, 3) := by decide +kernel
theorem dX9_strips_46 : decode cX9_strips 46 = .ok (.invokevirtual 236, 3) := by decide +kernel
theorem dX9_strips_49 : decode cX9_strips 49 = .ok (.goto 14, 3) := by decide +kernel
theorem dX9_strips_52 : decode cX9_strips 52 = .ok (.aload_n 0, 1) := by decide +kernel
theorem dX9_strips_53 : decode cX9_strips 53 = .ok (.getfield 61, 3) := by decide +kernel
theorem dX9_strips_56 : decode cX9_strips 56 = .ok (.aload_n 0, 1) := by decide +kernel
theorem dX9_strips_57 : decode cX9_strips 57 = .ok (.getfield 32, 3) := by decide +kernel
theorem dX9_strips_60 : decode cX9_strips 60 = .ok (.invokevirtual 240, 3) := by decide +kernel
theorem dX9_strips_63 : decode cX9_strips 63 = .ok (.aload_n 0, 1) := by decide +kernel
theorem dX9_strips_64 : decode cX9_strips 64 = .ok (.getfield 32, 3) := by decide +kernel
theorem dX9_strips_67 : decode cX9_strips 67 = .ok (.iload_n 2, 1) := by decide +kernel
theorem dX9_strips_68 : decode cX9_strips 68 = .ok (.invokevirtual 150, 3) := by decide +kernel
theorem dX9_strips_71 : decode cX9_strips 71 = .ok (.lreturn, 1) := by decide +kernel
set_option maxRecDepth 20000 in
theorem ggX9_weak_X8_countWeak : GoodIn wsX9_weak wsX8_countWeak := goodIn_r _ [7, 8, 9, 10, 6, 11, 12, 13, 14, 25, 26, 27, 28] (by decide +kernel) (by decide +kernel)
set_option maxRecDepth 20000 in
theorem gX9_weak_X8_countWeak : GoodIn wsX9_weak (wsV RX9 243 RX8 yX8_countWeak wsX8_countWeak) := goodIn_app (goodIn_of _ (by decide +kernel)) ggX9_weak_X8_countWeak
theorem dX9_weak_0 : decode cX9_weak 0 = .ok (.aload_n 0, 1) := by decide +kernel
theorem dX9_weak_1 : decode cX9_weak 1 = .ok (.getfield 61, 3) := by decide +kernel
theorem dX9_weak_4 : decode cX9_weak 4 = .ok (.aload_n 0, 1) := by decide +kernel
theorem dX9_weak_5 : decode cX9_weak 5 = .ok (.getfield 45, 3) := by decide +kernel
theorem dX9_weak_8 : decode cX9_weak 8 = .ok (.iconst 5, 1) := by decide +kernel
theorem dX9_weak_9 : decode cX9_weak 9 = .ok (.iaload, 1) := by decide +kernel
theorem dX9_weak_10 : decode cX9_weak 10 = .ok (.invokevirtual 243, 3) := by decide +kernel
theorem dX9_weak_13 : decode cX9_weak 13 = .ok (.ireturn, 1) := by decide +kernel
set_option maxRecDepth 20000 in
theorem ggX9_odd_X9_within : GoodIn wsX9_odd wsX9_within := goodIn_r _ [9] (by decide +kernel) (by decide +kernel)
set_option maxRecDepth 20000 in
theorem gX9_odd_X9_within : GoodIn wsX9_odd (va_wsS RX9 79 yX9_within wsX9_within) := goodIn_app (goodIn_of _ (by decide +kernel)) ggX9_odd_X9_within
set_option maxRecDepth 20000 in
theorem ggX9_odd_X9_isPart : GoodIn wsX9_odd wsX9_isPart := goodIn_r _ [12, 6, 7, 8, 9] (by decide +kernel) (by decide +kernel)
set_option maxRecDepth 20000 in
theorem gX9_odd_X9_isPart : GoodIn wsX9_odd (va_wsS RX9 135 yX9_isPart wsX9_isPart) := goodIn_app (goodIn_of _ (by decide +kernel)) ggX9_odd_X9_isPart
set_option maxRecDepth 20000 in
theorem ggX9_odd_X8_kept : GoodIn wsX9_odd wsX8_kept := goodIn_r _ [17, 18, 19, 70, 71, 72, 73] (by decide +kernel) (by decide +kernel)
set_option maxRecDepth 20000 in
theorem gX9_odd_X8_kept : GoodIn wsX9_odd (wsV RX9 233 RX8 yX8_kept wsX8_kept) := goodIn_app (goodIn_of _ (by decide +kernel)) ggX9_odd_X8_kept
set_option maxRecDepth 20000 in
theorem ggX9_odd_X8_tellOdds : GoodIn wsX9_odd wsX8_tellOdds := goodIn_r _ [23, 24, 25, 26, 27, 28, 29, 14, 15, 16, 17, 18, 19, 30, 31, 32, 33, 34, 35, 36, 37, 38, 39, 40, 41, 42, 43, 44, 45, 46, 47, 48, 49, 50, 51, 52, 53, 54, 55, 70, 71, 72, 73, 74, 75] (by decide +kernel) (by decide +kernel)
set_option maxRecDepth 20000 in
theorem gX9_odd_X8_tellOdds : GoodIn wsX9_odd (wsV RX9 246 RX8 yX8_tellOdds wsX8_tellOdds) := goodIn_app (goodIn_of _ (by decide +kernel)) ggX9_odd_X8_tellOdds
set_option maxRecDepth 20000 in
theorem ggX9_odd_X2_number : GoodIn wsX9_odd wsX2_number := goodIn_r _ [59, 51, 52, 74, 75] (by decide +kernel) (by decide +kernel)
set_option maxRecDepth 20000 in
theorem gX9_odd_X2_number : GoodIn wsX9_odd (wsV RX9 150 RX2 yX2_number wsX2_number) := goodIn_app (goodIn_of _ (by decide +kernel)) ggX9_odd_X2_number
theorem dX9_odd_0 : decode cX9_odd 0 = .ok (.iload_n 1, 1) := by decide +kernel
theorem dX9_odd_1 : decode cX9_odd 1 = .ok (.iconst 1, 1) := by decide +kernel
theorem dX9_odd_2 : decode cX9_odd 2 = .ok (.bipush 19, 2) := by decide +kernel
theorem dX9_odd_4 : decode cX9_odd 4 = .ok (.invokestatic 79, 3) := by decide +kernel
theorem dX9_odd_7 : decode cX9_odd 7 = .ok (.ifCond .eq 10, 3) := by decide +kernel
theorem dX9_odd_10 : decode cX9_odd 10 = .ok (.iload_n 2, 1) := by decide +kernel
theorem dX9_odd_11 : decode cX9_odd 11 = .ok (.invokestatic 135, 3) := by decide +kernel
theorem dX9_odd_14 : decode cX9_odd 14 = .ok (.ifCond .ne 7, 3) := by decide +kernel
theorem dX9_odd_17 : decode cX9_odd 17 = .ok (.ldc2_w 138, 3) := by decide +kernel
theorem dX9_odd_20 : decode cX9_odd 20 = .ok (.lreturn, 1) := by decide +kernel
theorem dX9_odd_21 : decode cX9_odd 21 = .ok (.aload_n 0, 1) := by decide +kernel
theorem dX9_odd_22 : decode cX9_odd 22 = .ok (.getfield 61, 3) := by decide +kernel
theorem dX9_odd_25 : decode cX9_odd 25 = .ok (.invokevirtual 233, 3) := by decide +kernel
theorem dX9_odd_28 : decode cX9_odd 28 = .ok (.ifCond .ne 7, 3) := by decide +kernel
theorem dX9_odd_31 : decode cX9_odd 31 = .ok (.ldc2_w 144, 3) := by decide +kernel
theorem dX9_odd_34 : decode cX9_odd 34 = .ok (.lreturn, 1) := by decide +kernel
theorem dX9_odd_35 : decode cX9_odd 35 = .ok (.aload_n 0, 1) := by decide +kernel
theorem dX9_odd_36 : decode cX9_odd 36 = .ok (.getfield 61, 3) := by decide +kernel
theorem dX9_odd_39 : decode cX9_odd 39 = .ok (.iload_n 1, 1) := by decide +kernel
theorem dX9_odd_40 : decode cX9_odd 40 = .ok (.aload_n 0, 1) := by decide +kernel
theorem dX9_odd_41 : decode cX9_odd 41 = .ok (.getfield 45, 3) := by decide +kernel
theorem dX9_odd_44 : decode cX9_odd 44 = .ok (.iconst 5, 1) := by decide +kernel
theorem dX9_odd_45 : decode cX9_odd 45 = .ok (.iaload, 1) := by decide +kernel
theorem dX9_odd_46 : decode cX9_odd 46 = .ok (.aload_n 0, 1) := by decide +kernel
theorem dX9_odd_47 : decode cX9_odd 47 = .ok (.getfield 32, 3) := by decide +kernel
theorem dX9_odd_50 : decode cX9_odd 50 = .ok (.invokevirtual 246, 3) := by decide +kernel
theorem dX9_odd_53 : decode cX9_odd 53 = .ok (.aload_n 0, 1) := by decide +kernel
theorem dX9_odd_54 : decode cX9_odd 54 = .ok (.getfield 32, 3) := by decide +kernel
theorem dX9_odd_57 : decode cX9_odd 57 = .ok (.iload_n 2, 1) := by decide +kernel
theorem dX9_odd_58 : decode cX9_odd 58 = .ok (.invokevirtual 150, 3) := by decide +kernel
theorem dX9_odd_61 : decode cX9_odd 61 = .ok (.lreturn, 1) := by decide +kernel
set_option maxRecDepth 20000 in
theorem ggX9_knock_X9_within : GoodIn wsX9_knock wsX9_within := goodIn_r _ [6] (by decide +kernel) (by decide +kernel)
set_option maxRecDepth 20000 in
theorem gX9_knock_X9_within : GoodIn wsX9_knock (va_wsS RX9 79 yX9_within wsX9_within) := goodIn_app (goodIn_of _ (by decide +kernel)) ggX9_knock_X9_within
set_option maxRecDepth 20000 in
theorem ggX9_knock_X9_put : GoodIn wsX9_knock wsX9_put := goodIn_r _ [9, 3, 4, 5, 6] (by decide +kernel) (by decide +kernel)
set_option maxRecDepth 20000 in
theorem gX9_knock_X9_put : GoodIn wsX9_knock (va_wsS RX9 129 yX9_put wsX9_put) := goodIn_app (goodIn_of _ (by decide +kernel)) ggX9_knock_X9_put
theorem dX9_knock_0 : decode cX9_knock 0 = .ok (.iload_n 1, 1) := by decide +kernel
theorem dX9_knock_1 : decode cX9_knock 1 = .ok (.iconst 0, 1) := by decide +kernel
theorem dX9_knock_2 : decode cX9_knock 2 = .ok (.bipush 9, 2) := by decide +kernel
theorem dX9_knock_4 : decode cX9_knock 4 = .ok (.invokestatic 79, 3) := by decide +kernel
theorem dX9_knock_7 : decode cX9_knock 7 = .ok (.ifCond .ne 5, 3) := by decide +kernel
theorem dX9_knock_10 : decode cX9_knock 10 = .ok (.iconst (-1), 1) := by decide +kernel
theorem dX9_knock_11 : decode cX9_knock 11 = .ok (.ireturn, 1) := by decide +kernel
theorem dX9_knock_12 : decode cX9_knock 12 = .ok (.aload_n 0, 1) := by decide +kernel
theorem dX9_knock_13 : decode cX9_knock 13 = .ok (.getfield 68, 3) := by decide +kernel
theorem dX9_knock_16 : decode cX9_knock 16 = .ok (.getfield 250, 3) := by decide +kernel
theorem dX9_knock_19 : decode cX9_knock 19 = .ok (.iload_n 1, 1) := by decide +kernel
theorem dX9_knock_20 : decode cX9_knock 20 = .ok (.iload_n 2, 1) := by decide +kernel
theorem dX9_knock_21 : decode cX9_knock 21 = .ok (.iconst (-1), 1) := by decide +kernel
theorem dX9_knock_22 : decode cX9_knock 22 = .ok (.bipush 9, 2) := by decide +kernel
theorem dX9_knock_24 : decode cX9_knock 24 = .ok (.invokestatic 129, 3) := by decide +kernel
theorem dX9_knock_27 : decode cX9_knock 27 = .ok (.istore_n 3, 1) := by decide +kernel
theorem dX9_knock_28 : decode cX9_knock 28 = .ok (.iload_n 3, 1) := by decide +kernel
theorem dX9_knock_29 : decode cX9_knock 29 = .ok (.iconst (-1), 1) := by decide +kernel
theorem dX9_knock_30 : decode cX9_knock 30 = .ok (.if_icmp .ne 8, 3) := by decide +kernel
theorem dX9_knock_33 : decode cX9_knock 33 = .ok (.bipush (-6), 2) := by decide +kernel
theorem dX9_knock_35 : decode cX9_knock 35 = .ok (.goto 4, 3) := by decide +kernel
theorem dX9_knock_38 : decode cX9_knock 38 = .ok (.iload_n 3, 1) := by decide +kernel
theorem dX9_knock_39 : decode cX9_knock 39 = .ok (.ireturn, 1) := by decide +kernel
set_option maxRecDepth 20000 in
theorem ggX9_sheet_X9_within : GoodIn wsX9_sheet wsX9_within := goodIn_r _ [6] (by decide +kernel) (by decide +kernel)
set_option maxRecDepth 20000 in
theorem gX9_sheet_X9_within : GoodIn wsX9_sheet (va_wsS RX9 79 yX9_within wsX9_within) := goodIn_app (goodIn_of _ (by decide +kernel)) ggX9_sheet_X9_within
set_option maxRecDepth 20000 in
theorem ggX9_sheet_X9_put : GoodIn wsX9_sheet wsX9_put := goodIn_r _ [9, 3, 4, 5, 6] (by decide +kernel) (by decide +kernel)
set_option maxRecDepth 20000 in
theorem gX9_sheet_X9_put : GoodIn wsX9_sheet (va_wsS RX9 129 yX9_put wsX9_put) := goodIn_app (goodIn_of _ (by decide +kernel)) ggX9_sheet_X9_put
theorem dX9_sheet_0 : decode cX9_sheet 0 = .ok (.iload_n 1, 1) := by decide +kernel
theorem dX9_sheet_1 : decode cX9_sheet 1 = .ok (.iconst 0, 1) := by decide +kernel
theorem dX9_sheet_2 : decode cX9_sheet 2 = .ok (.bipush 9, 2) := by decide +kernel
theorem dX9_sheet_4 : decode cX9_sheet 4 = .ok (.invokestatic 79, 3) := by decide +kernel
theorem dX9_sheet_7 : decode cX9_sheet 7 = .ok (.ifCond .ne 5, 3) := by decide +kernel
theorem dX9_sheet_10 : decode cX9_sheet 10 = .ok (.iconst (-1), 1) := by decide +kernel
theorem dX9_sheet_11 : decode cX9_sheet 11 = .ok (.ireturn, 1) := by decide +kernel
theorem dX9_sheet_12 : decode cX9_sheet 12 = .ok (.aload_n 0, 1) := by decide +kernel
theorem dX9_sheet_13 : decode cX9_sheet 13 = .ok (.getfield 68, 3) := by decide +kernel
theorem dX9_sheet_16 : decode cX9_sheet 16 = .ok (.getfield 253, 3) := by decide +kernel
theorem dX9_sheet_19 : decode cX9_sheet 19 = .ok (.iload_n 1, 1) := by decide +kernel
theorem dX9_sheet_20 : decode cX9_sheet 20 = .ok (.iload_n 2, 1) := by decide +kernel
theorem dX9_sheet_21 : decode cX9_sheet 21 = .ok (.iconst 0, 1) := by decide +kernel
theorem dX9_sheet_22 : decode cX9_sheet 22 = .ok (.iconst 3, 1) := by decide +kernel
theorem dX9_sheet_23 : decode cX9_sheet 23 = .ok (.invokestatic 129, 3) := by decide +kernel
theorem dX9_sheet_26 : decode cX9_sheet 26 = .ok (.ireturn, 1) := by decide +kernel
set_option maxRecDepth 20000 in
theorem ggX9_table_X9_within : GoodIn wsX9_table wsX9_within := goodIn_r _ [6] (by decide +kernel) (by decide +kernel)
set_option maxRecDepth 20000 in
theorem gX9_table_X9_within : GoodIn wsX9_table (va_wsS RX9 79 yX9_within wsX9_within) := goodIn_app (goodIn_of _ (by decide +kernel)) ggX9_table_X9_within
set_option maxRecDepth 20000 in
theorem ggX9_table_X9_put : GoodIn wsX9_table wsX9_put := goodIn_r _ [9, 3, 4, 5, 6] (by decide +kernel) (by decide +kernel)
set_option maxRecDepth 20000 in
theorem gX9_table_X9_put : GoodIn wsX9_table (va_wsS RX9 129 yX9_put wsX9_put) := goodIn_app (goodIn_of _ (by decide +kernel)) ggX9_table_X9_put
theorem dX9_table_0 : decode cX9_table 0 = .ok (.iload_n 1, 1) := by decide +kernel
theorem dX9_table_1 : decode cX9_table 1 = .ok (.iconst 0, 1) := by decide +kernel
theorem dX9_table_2 : decode cX9_table 2 = .ok (.iconst 3, 1) := by decide +kernel
theorem dX9_table_3 : decode cX9_table 3 = .ok (.invokestatic 79, 3) := by decide +kernel
theorem dX9_table_6 : decode cX9_table 6 = .ok (.ifCond .eq 12, 3) := by decide +kernel
theorem dX9_table_9 : decode cX9_table 9 = .ok (.iload_n 2, 1) := by decide +kernel
theorem dX9_table_10 : decode cX9_table 10 = .ok (.iconst 0, 1) := by decide +kernel
theorem dX9_table_11 : decode cX9_table 11 = .ok (.iconst 3, 1) := by decide +kernel
theorem dX9_table_12 : decode cX9_table 12 = .ok (.invokestatic 79, 3) := by decide +kernel
theorem dX9_table_15 : decode cX9_table 15 = .ok (.ifCond .ne 6, 3) := by decide +kernel
theorem dX9_table_18 : decode cX9_table 18 = .ok (.bipush (-2), 2) := by decide +kernel
theorem dX9_table_20 : decode cX9_table 20 = .ok (.ireturn, 1) := by decide +kernel
theorem dX9_table_21 : decode cX9_table 21 = .ok (.aload_n 0, 1) := by decide +kernel
theorem dX9_table_22 : decode cX9_table 22 = .ok (.getfield 68, 3) := by decide +kernel
theorem dX9_table_25 : decode cX9_table 25 = .ok (.getfield 256, 3) := by decide +kernel
theorem dX9_table_28 : decode cX9_table 28 = .ok (.iload_n 1, 1) := by decide +kernel
theorem dX9_table_29 : decode cX9_table 29 = .ok (.iconst 4, 1) := by decide +kernel
theorem dX9_table_30 : decode cX9_table 30 = .ok (.imul, 1) := by decide +kernel
theorem dX9_table_31 : decode cX9_table 31 = .ok (.iload_n 2, 1) := by decide +kernel
theorem dX9_table_32 : decode cX9_table 32 = .ok (.iadd, 1) := by decide +kernel
theorem dX9_table_33 : decode cX9_table 33 = .ok (.iload_n 3, 1) := by decide +kernel
theorem dX9_table_34 : decode cX9_table 34 = .ok (.iconst 0, 1) := by decide +kernel
theorem dX9_table_35 : decode cX9_table 35 = .ok (.bipush 9, 2) := by decide +kernel
theorem dX9_table_37 : decode cX9_table 37 = .ok (.invokestatic 129, 3) := by decide +kernel
theorem dX9_table_40 : decode cX9_table 40 = .ok (.ireturn, 1) := by decide +kernel
set_option maxRecDepth 20000 in
theorem ggX9_fit_X9_within : GoodIn wsX9_fit wsX9_within := goodIn_r _ [5] (by decide +kernel) (by decide +kernel)
set_option maxRecDepth 20000 in
theorem gX9_fit_X9_within : GoodIn wsX9_fit (va_wsS RX9 79 yX9_within wsX9_within) := goodIn_app (goodIn_of _ (by decide +kernel)) ggX9_fit_X9_within
set_option maxRecDepth 20000 in
theorem ggX9_fit_X4_gapsThatFit : GoodIn wsX9_fit wsX4_gapsThatFit := goodIn_r _ [10, 11, 12, 3, 4, 5, 13, 14, 15, 9, 16, 17, 28, 29, 30, 31, 32] (by decide +kernel) (by decide +kernel)
set_option maxRecDepth 20000 in
theorem gX9_fit_X4_gapsThatFit : GoodIn wsX9_fit (wsV RX9 259 RX4 yX4_gapsThatFit wsX4_gapsThatFit) := goodIn_app (goodIn_of _ (by decide +kernel)) ggX9_fit_X4_gapsThatFit
theorem dX9_fit_0 : decode cX9_fit 0 = .ok (.iload_n 1, 1) := by decide +kernel
theorem dX9_fit_1 : decode cX9_fit 1 = .ok (.iconst 0, 1) := by decide +kernel
theorem dX9_fit_2 : decode cX9_fit 2 = .ok (.bipush 9, 2) := by decide +kernel
theorem dX9_fit_4 : decode cX9_fit 4 = .ok (.invokestatic 79, 3) := by decide +kernel
theorem dX9_fit_7 : decode cX9_fit 7 = .ok (.ifCond .eq 14, 3) := by decide +kernel
theorem dX9_fit_10 : decode cX9_fit 10 = .ok (.aload_n 0, 1) := by decide +kernel
theorem dX9_fit_11 : decode cX9_fit 11 = .ok (.getfield 68, 3) := by decide +kernel
theorem dX9_fit_14 : decode cX9_fit 14 = .ok (.iload_n 1, 1) := by decide +kernel
theorem dX9_fit_15 : decode cX9_fit 15 = .ok (.invokevirtual 259, 3) := by decide +kernel
theorem dX9_fit_18 : decode cX9_fit 18 = .ok (.goto 4, 3) := by decide +kernel
theorem dX9_fit_21 : decode cX9_fit 21 = .ok (.iconst (-1), 1) := by decide +kernel
theorem dX9_fit_22 : decode cX9_fit 22 = .ok (.ireturn, 1) := by decide +kernel
set_option maxRecDepth 20000 in
theorem ggX9_fits_X4_rowsThatFit : GoodIn wsX9_fits wsX4_rowsThatFit := goodIn_r _ [7, 8, 9, 10, 11, 6, 12, 13, 14, 15, 16, 17, 18, 19, 20, 21, 22, 23, 24, 25, 26, 27, 28, 29, 30, 31, 32, 33, 34, 35, 46, 47, 48, 49, 50] (by decide +kernel) (by decide +kernel)
set_option maxRecDepth 20000 in
theorem gX9_fits_X4_rowsThatFit : GoodIn wsX9_fits (wsV RX9 262 RX4 yX4_rowsThatFit wsX4_rowsThatFit) := goodIn_app (goodIn_of _ (by decide +kernel)) ggX9_fits_X4_rowsThatFit
theorem dX9_fits_0 : decode cX9_fits 0 = .ok (.aload_n 0, 1) := by decide +kernel
theorem dX9_fits_1 : decode cX9_fits 1 = .ok (.getfield 68, 3) := by decide +kernel
theorem dX9_fits_4 : decode cX9_fits 4 = .ok (.aload_n 0, 1) := by decide +kernel
theorem dX9_fits_5 : decode cX9_fits 5 = .ok (.getfield 45, 3) := by decide +kernel
theorem dX9_fits_8 : decode cX9_fits 8 = .ok (.bipush 6, 2) := by decide +kernel
theorem dX9_fits_10 : decode cX9_fits 10 = .ok (.iaload, 1) := by decide +kernel
theorem dX9_fits_11 : decode cX9_fits 11 = .ok (.invokevirtual 262, 3) := by decide +kernel
theorem dX9_fits_14 : decode cX9_fits 14 = .ok (.ireturn, 1) := by decide +kernel
set_option maxRecDepth 20000 in
theorem ggX9_sure_X9_within : GoodIn wsX9_sure wsX9_within := goodIn_r _ [6] (by decide +kernel) (by decide +kernel)
set_option maxRecDepth 20000 in
theorem gX9_sure_X9_within : GoodIn wsX9_sure (va_wsS RX9 79 yX9_within wsX9_within) := goodIn_app (goodIn_of _ (by decide +kernel)) ggX9_sure_X9_within
set_option maxRecDepth 20000 in
theorem ggX9_sure_X4_onlyGap : GoodIn wsX9_sure wsX4_onlyGap := goodIn_r _ [11, 12, 13, 14, 10, 15, 16, 17, 18, 19, 20, 21, 4, 5, 6, 22, 23, 24, 25, 26, 27, 28, 29, 30, 31, 32, 33, 34, 35, 36, 37, 38, 39, 40, 51, 52, 53, 54, 55] (by decide +kernel) (by decide +kernel)
set_option maxRecDepth 20000 in
theorem gX9_sure_X4_onlyGap : GoodIn wsX9_sure (wsV RX9 265 RX4 yX4_onlyGap wsX4_onlyGap) := goodIn_app (goodIn_of _ (by decide +kernel)) ggX9_sure_X4_onlyGap
theorem dX9_sure_0 : decode cX9_sure 0 = .ok (.iload_n 1, 1) := by decide +kernel
theorem dX9_sure_1 : decode cX9_sure 1 = .ok (.iconst 0, 1) := by decide +kernel
theorem dX9_sure_2 : decode cX9_sure 2 = .ok (.bipush 9, 2) := by decide +kernel
theorem dX9_sure_4 : decode cX9_sure 4 = .ok (.invokestatic 79, 3) := by decide +kernel
theorem dX9_sure_7 : decode cX9_sure 7 = .ok (.ifCond .eq 21, 3) := by decide +kernel
theorem dX9_sure_10 : decode cX9_sure 10 = .ok (.aload_n 0, 1) := by decide +kernel
theorem dX9_sure_11 : decode cX9_sure 11 = .ok (.getfield 68, 3) := by decide +kernel
theorem dX9_sure_14 : decode cX9_sure 14 = .ok (.iload_n 1, 1) := by decide +kernel
theorem dX9_sure_15 : decode cX9_sure 15 = .ok (.aload_n 0, 1) := by decide +kernel
theorem dX9_sure_16 : decode cX9_sure 16 = .ok (.getfield 45, 3) := by decide +kernel
theorem dX9_sure_19 : decode cX9_sure 19 = .ok (.bipush 6, 2) := by decide +kernel
theorem dX9_sure_21 : decode cX9_sure 21 = .ok (.iaload, 1) := by decide +kernel
theorem dX9_sure_22 : decode cX9_sure 22 = .ok (.invokevirtual 265, 3) := by decide +kernel
theorem dX9_sure_25 : decode cX9_sure 25 = .ok (.goto 4, 3) := by decide +kernel
theorem dX9_sure_28 : decode cX9_sure 28 = .ok (.iconst (-1), 1) := by decide +kernel
theorem dX9_sure_29 : decode cX9_sure 29 = .ok (.ireturn, 1) := by decide +kernel
set_option maxRecDepth 20000 in
theorem ggX9_unseen_X9_within : GoodIn wsX9_unseen wsX9_within := goodIn_r _ [5] (by decide +kernel) (by decide +kernel)
set_option maxRecDepth 20000 in
theorem gX9_unseen_X9_within : GoodIn wsX9_unseen (va_wsS RX9 79 yX9_within wsX9_within) := goodIn_app (goodIn_of _ (by decide +kernel)) ggX9_unseen_X9_within
set_option maxRecDepth 20000 in
theorem ggX9_unseen_X4_pairsAlike : GoodIn wsX9_unseen wsX4_pairsAlike := goodIn_r _ [10, 11, 12, 13, 9, 14, 15, 3, 4, 5, 26, 27, 28, 29, 30] (by decide +kernel) (by decide +kernel)
set_option maxRecDepth 20000 in
theorem gX9_unseen_X4_pairsAlike : GoodIn wsX9_unseen (wsV RX9 269 RX4 yX4_pairsAlike wsX4_pairsAlike) := goodIn_app (goodIn_of _ (by decide +kernel)) ggX9_unseen_X4_pairsAlike
theorem dX9_unseen_0 : decode cX9_unseen 0 = .ok (.iload_n 1, 1) := by decide +kernel
theorem dX9_unseen_1 : decode cX9_unseen 1 = .ok (.iconst 0, 1) := by decide +kernel
theorem dX9_unseen_2 : decode cX9_unseen 2 = .ok (.iconst 3, 1) := by decide +kernel
theorem dX9_unseen_3 : decode cX9_unseen 3 = .ok (.invokestatic 79, 3) := by decide +kernel
theorem dX9_unseen_6 : decode cX9_unseen 6 = .ok (.ifCond .eq 14, 3) := by decide +kernel
theorem dX9_unseen_9 : decode cX9_unseen 9 = .ok (.aload_n 0, 1) := by decide +kernel
theorem dX9_unseen_10 : decode cX9_unseen 10 = .ok (.getfield 68, 3) := by decide +kernel
theorem dX9_unseen_13 : decode cX9_unseen 13 = .ok (.iload_n 1, 1) := by decide +kernel
theorem dX9_unseen_14 : decode cX9_unseen 14 = .ok (.invokevirtual 269, 3) := by decide +kernel
theorem dX9_unseen_17 : decode cX9_unseen 17 = .ok (.goto 5, 3) := by decide +kernel
theorem dX9_unseen_20 : decode cX9_unseen 20 = .ok (.bipush (-2), 2) := by decide +kernel
theorem dX9_unseen_22 : decode cX9_unseen 22 = .ok (.ireturn, 1) := by decide +kernel
set_option maxRecDepth 20000 in
theorem ggX9_choice_X9_within : GoodIn wsX9_choice wsX9_within := goodIn_r _ [5] (by decide +kernel) (by decide +kernel)
set_option maxRecDepth 20000 in
theorem gX9_choice_X9_within : GoodIn wsX9_choice (va_wsS RX9 79 yX9_within wsX9_within) := goodIn_app (goodIn_of _ (by decide +kernel)) ggX9_choice_X9_within
set_option maxRecDepth 20000 in
theorem ggX9_choice_X9_isLoad : GoodIn wsX9_choice wsX9_isLoad := goodIn_r _ [8, 2, 3, 4, 5] (by decide +kernel) (by decide +kernel)
set_option maxRecDepth 20000 in
theorem gX9_choice_X9_isLoad : GoodIn wsX9_choice (va_wsS RX9 272 yX9_isLoad wsX9_isLoad) := goodIn_app (goodIn_of _ (by decide +kernel)) ggX9_choice_X9_isLoad
set_option maxRecDepth 20000 in
theorem ggX9_choice_X1_append : GoodIn wsX9_choice wsX1_append := goodIn_r _ [13, 14, 15, 16, 17, 18, 29, 30, 31, 32, 33] (by decide +kernel) (by decide +kernel)
set_option maxRecDepth 20000 in
theorem gX9_choice_X1_append : GoodIn wsX9_choice (wsV RX9 275 RX1 yX1_append wsX1_append) := goodIn_app (goodIn_of _ (by decide +kernel)) ggX9_choice_X1_append
theorem dX9_choice_0 : decode cX9_choice 0 = .ok (.iload_n 1, 1) := by decide +kernel
theorem dX9_choice_1 : decode cX9_choice 1 = .ok (.iconst 0, 1) := by decide +kernel
theorem dX9_choice_2 : decode cX9_choice 2 = .ok (.iconst 3, 1) := by decide +kernel
theorem dX9_choice_3 : decode cX9_choice 3 = .ok (.invokestatic 79, 3) := by decide +kernel
theorem dX9_choice_6 : decode cX9_choice 6 = .ok (.ifCond .ne 5, 3) := by decide +kernel
theorem dX9_choice_9 : decode cX9_choice 9 = .ok (.iconst (-1), 1) := by decide +kernel
theorem dX9_choice_10 : decode cX9_choice 10 = .ok (.ireturn, 1) := by decide +kernel
theorem dX9_choice_11 : decode cX9_choice 11 = .ok (.iload_n 2, 1) := by decide +kernel
theorem dX9_choice_12 : decode cX9_choice 12 = .ok (.iconst 0, 1) := by decide +kernel
theorem dX9_choice_13 : decode cX9_choice 13 = .ok (.sipush 1000, 3) := by decide +kernel
theorem dX9_choice_16 : decode cX9_choice 16 = .ok (.invokestatic 79, 3) := by decide +kernel
theorem dX9_choice_19 : decode cX9_choice 19 = .ok (.ifCond .eq 18, 3) := by decide +kernel
theorem dX9_choice_22 : decode cX9_choice 22 = .ok (.iload_n 3, 1) := by decide +kernel
theorem dX9_choice_23 : decode cX9_choice 23 = .ok (.invokestatic 272, 3) := by decide +kernel
theorem dX9_choice_26 : decode cX9_choice 26 = .ok (.ifCond .eq 11, 3) := by decide +kernel
theorem dX9_choice_29 : decode cX9_choice 29 = .ok (.iload 4, 2) := by decide +kernel
theorem dX9_choice_31 : decode cX9_choice 31 = .ok (.invokestatic 272, 3) := by decide +kernel
theorem dX9_choice_34 : decode cX9_choice 34 = .ok (.ifCond .ne 6, 3) := by decide +kernel
theorem dX9_choice_37 : decode cX9_choice 37 = .ok (.bipush (-2), 2) := by decide +kernel
theorem dX9_choice_39 : decode cX9_choice 39 = .ok (.ireturn, 1) := by decide +kernel
theorem dX9_choice_40 : decode cX9_choice 40 = .ok (.aload_n 0, 1) := by decide +kernel
theorem dX9_choice_41 : decode cX9_choice 41 = .ok (.getfield 75, 3) := by decide +kernel
theorem dX9_choice_44 : decode cX9_choice 44 = .ok (.iload_n 1, 1) := by decide +kernel
theorem dX9_choice_45 : decode cX9_choice 45 = .ok (.iload_n 2, 1) := by decide +kernel
theorem dX9_choice_46 : decode cX9_choice 46 = .ok (.iload_n 3, 1) := by decide +kernel
theorem dX9_choice_47 : decode cX9_choice 47 = .ok (.iload 4, 2) := by decide +kernel
theorem dX9_choice_49 : decode cX9_choice 49 = .ok (.invokevirtual 275, 3) := by decide +kernel
theorem dX9_choice_52 : decode cX9_choice 52 = .ok (.ireturn, 1) := by decide +kernel
set_option maxRecDepth 20000 in
theorem ggX9_cheapest_X9_within : GoodIn wsX9_cheapest wsX9_within := goodIn_r _ [6] (by decide +kernel) (by decide +kernel)
set_option maxRecDepth 20000 in
theorem gX9_cheapest_X9_within : GoodIn wsX9_cheapest (va_wsS RX9 79 yX9_within wsX9_within) := goodIn_app (goodIn_of _ (by decide +kernel)) ggX9_cheapest_X9_within
set_option maxRecDepth 20000 in
theorem ggX9_cheapest_X9_isLoad : GoodIn wsX9_cheapest wsX9_isLoad := goodIn_r _ [9, 3, 4, 5, 6] (by decide +kernel) (by decide +kernel)
set_option maxRecDepth 20000 in
theorem gX9_cheapest_X9_isLoad : GoodIn wsX9_cheapest (va_wsS RX9 272 yX9_isLoad wsX9_isLoad) := goodIn_app (goodIn_of _ (by decide +kernel)) ggX9_cheapest_X9_isLoad
set_option maxRecDepth 20000 in
theorem ggX9_cheapest_X1_bestFor : GoodIn wsX9_cheapest wsX1_bestFor := goodIn_r _ [14, 15, 16, 17, 18, 19, 20, 21, 13, 22, 23, 34, 35, 36, 37, 38] (by decide +kernel) (by decide +kernel)
set_option maxRecDepth 20000 in
theorem gX9_cheapest_X1_bestFor : GoodIn wsX9_cheapest (wsV RX9 278 RX1 yX1_bestFor wsX1_bestFor) := goodIn_app (goodIn_of _ (by decide +kernel)) ggX9_cheapest_X1_bestFor
theorem dX9_cheapest_0 : decode cX9_cheapest 0 = .ok (.iload_n 2, 1) := by decide +kernel
theorem dX9_cheapest_1 : decode cX9_cheapest 1 = .ok (.iconst (-1), 1) := by decide +kernel
theorem dX9_cheapest_2 : decode cX9_cheapest 2 = .ok (.iconst 3, 1) := by decide +kernel
theorem dX9_cheapest_3 : decode cX9_cheapest 3 = .ok (.invokestatic 79, 3) := by decide +kernel
theorem dX9_cheapest_6 : decode cX9_cheapest 6 = .ok (.ifCond .ne 5, 3) := by decide +kernel
theorem dX9_cheapest_9 : decode cX9_cheapest 9 = .ok (.iconst (-1), 1) := by decide +kernel
theorem dX9_cheapest_10 : decode cX9_cheapest 10 = .ok (.ireturn, 1) := by decide +kernel
theorem dX9_cheapest_11 : decode cX9_cheapest 11 = .ok (.iload_n 1, 1) := by decide +kernel
theorem dX9_cheapest_12 : decode cX9_cheapest 12 = .ok (.invokestatic 272, 3) := by decide +kernel
theorem dX9_cheapest_15 : decode cX9_cheapest 15 = .ok (.ifCond .eq 22, 3) := by decide +kernel
theorem dX9_cheapest_18 : decode cX9_cheapest 18 = .ok (.aload_n 0, 1) := by decide +kernel
theorem dX9_cheapest_19 : decode cX9_cheapest 19 = .ok (.getfield 75, 3) := by decide +kernel
theorem dX9_cheapest_22 : decode cX9_cheapest 22 = .ok (.iload_n 1, 1) := by decide +kernel
theorem dX9_cheapest_23 : decode cX9_cheapest 23 = .ok (.iload_n 2, 1) := by decide +kernel
theorem dX9_cheapest_24 : decode cX9_cheapest 24 = .ok (.aload_n 0, 1) := by decide +kernel
theorem dX9_cheapest_25 : decode cX9_cheapest 25 = .ok (.getfield 45, 3) := by decide +kernel
theorem dX9_cheapest_28 : decode cX9_cheapest 28 = .ok (.bipush 7, 2) := by decide +kernel
theorem dX9_cheapest_30 : decode cX9_cheapest 30 = .ok (.iaload, 1) := by decide +kernel
theorem dX9_cheapest_31 : decode cX9_cheapest 31 = .ok (.invokevirtual 278, 3) := by decide +kernel
theorem dX9_cheapest_34 : decode cX9_cheapest 34 = .ok (.goto 5, 3) := by decide +kernel
theorem dX9_cheapest_37 : decode cX9_cheapest 37 = .ok (.bipush (-2), 2) := by decide +kernel
theorem dX9_cheapest_39 : decode cX9_cheapest 39 = .ok (.ireturn, 1) := by decide +kernel
set_option maxRecDepth 20000 in
theorem ggX9_led_X9_lapAt : GoodIn wsX9_led wsX9_lapAt := goodIn_r _ [6, 7, 8, 9, 5, 10, 38, 39, 40, 41, 42, 43, 44, 45, 46, 47] (by decide +kernel) (by decide +kernel)
set_option maxRecDepth 20000 in
theorem gX9_led_X9_lapAt : GoodIn wsX9_led (wsV RX9 103 RX9 yX9_lapAt wsX9_lapAt) := goodIn_app (goodIn_of _ (by decide +kernel)) ggX9_led_X9_lapAt
set_option maxRecDepth 20000 in
theorem ggX9_led_X9_isLoad : GoodIn wsX9_led wsX9_isLoad := goodIn_r _ [13, 8, 9, 5, 10] (by decide +kernel) (by decide +kernel)
set_option maxRecDepth 20000 in
theorem gX9_led_X9_isLoad : GoodIn wsX9_led (va_wsS RX9 272 yX9_isLoad wsX9_isLoad) := goodIn_app (goodIn_of _ (by decide +kernel)) ggX9_led_X9_isLoad
set_option maxRecDepth 20000 in
theorem ggX9_led_X9_within : GoodIn wsX9_led wsX9_within := goodIn_r _ [10] (by decide +kernel) (by decide +kernel)
set_option maxRecDepth 20000 in
theorem gX9_led_X9_within : GoodIn wsX9_led (va_wsS RX9 79 yX9_within wsX9_within) := goodIn_app (goodIn_of _ (by decide +kernel)) ggX9_led_X9_within
set_option maxRecDepth 20000 in
theorem ggX9_led_X5_greatestDamp : GoodIn wsX9_led wsX5_greatestDamp := goodIn_r _ [18, 19, 20, 21, 22, 23, 30, 31, 32, 33, 34, 35, 36, 37] (by decide +kernel) (by decide +kernel)
set_option maxRecDepth 20000 in
theorem gX9_led_X5_greatestDamp : GoodIn wsX9_led (wsV RX9 281 RX5 yX5_greatestDamp wsX5_greatestDamp) := goodIn_app (goodIn_of _ (by decide +kernel)) ggX9_led_X5_greatestDamp
set_option maxRecDepth 20000 in
theorem ggX9_led_X9_strengthOf : GoodIn wsX9_led wsX9_strengthOf := goodIn_r _ [26] (by decide +kernel) (by decide +kernel)
set_option maxRecDepth 20000 in
theorem gX9_led_X9_strengthOf : GoodIn wsX9_led (va_wsS RX9 284 yX9_strengthOf wsX9_strengthOf) := goodIn_app (goodIn_of _ (by decide +kernel)) ggX9_led_X9_strengthOf
set_option maxRecDepth 20000 in
theorem ggX9_led_X9_causesAlone : GoodIn wsX9_led wsX9_causesAlone := goodIn_r _ [29, 1, 24, 25, 5, 26, 14, 15, 16, 17, 18, 19, 20, 21, 22, 23, 30, 31, 32, 33, 34, 35, 36, 37] (by decide +kernel) (by decide +kernel)
set_option maxRecDepth 20000 in
theorem gX9_led_X9_causesAlone : GoodIn wsX9_led (va_wsS RX9 287 yX9_causesAlone wsX9_causesAlone) := goodIn_app (goodIn_of _ (by decide +kernel)) ggX9_led_X9_causesAlone
theorem dX9_led_0 : decode cX9_led 0 = .ok (.aload_n 0, 1) := by decide +kernel
theorem dX9_led_1 : decode cX9_led 1 = .ok (.iload_n 1, 1) := by decide +kernel
theorem dX9_led_2 : decode cX9_led 2 = .ok (.invokevirtual 103, 3) := by decide +kernel
theorem dX9_led_5 : decode cX9_led 5 = .ok (.astore 7, 2) := by decide +kernel
theorem dX9_led_7 : decode cX9_led 7 = .ok (.aload 7, 2) := by decide +kernel
theorem dX9_led_9 : decode cX9_led 9 = .ok (.ifnonnull 5, 3) := by decide +kernel
theorem dX9_led_12 : decode cX9_led 12 = .ok (.iconst (-1), 1) := by decide +kernel
theorem dX9_led_13 : decode cX9_led 13 = .ok (.ireturn, 1) := by decide +kernel
theorem dX9_led_14 : decode cX9_led 14 = .ok (.iload_n 2, 1) := by decide +kernel
theorem dX9_led_15 : decode cX9_led 15 = .ok (.invokestatic 272, 3) := by decide +kernel
theorem dX9_led_18 : decode cX9_led 18 = .ok (.ifCond .eq 39, 3) := by decide +kernel
theorem dX9_led_21 : decode cX9_led 21 = .ok (.iload_n 3, 1) := by decide +kernel
theorem dX9_led_22 : decode cX9_led 22 = .ok (.iconst 0, 1) := by decide +kernel
theorem dX9_led_23 : decode cX9_led 23 = .ok (.bipush 100, 2) := by decide +kernel
theorem dX9_led_25 : decode cX9_led 25 = .ok (.invokestatic 79, 3) := by decide +kernel
theorem dX9_led_28 : decode cX9_led 28 = .ok (.ifCond .eq 29, 3) := by decide +kernel
theorem dX9_led_31 : decode cX9_led 31 = .ok (.iload 4, 2) := by decide +kernel
theorem dX9_led_33 : decode cX9_led 33 = .ok (.invokestatic 272, 3) := by decide +kernel
theorem dX9_led_36 : decode cX9_led 36 = .ok (.ifCond .eq 21, 3) := by decide +kernel
theorem dX9_led_39 : decode cX9_led 39 = .ok (.iload 5, 2) := by decide +kernel
theorem dX9_led_41 : decode cX9_led 41 = .ok (.invokestatic 272, 3) := by decide +kernel
theorem dX9_led_44 : decode cX9_led 44 = .ok (.ifCond .eq 13, 3) := by decide +kernel
theorem dX9_led_47 : decode cX9_led 47 = .ok (.iload 6, 2) := by decide +kernel
theorem dX9_led_49 : decode cX9_led 49 = .ok (.iconst 0, 1) := by decide +kernel
theorem dX9_led_50 : decode cX9_led 50 = .ok (.iconst 1, 1) := by decide +kernel
theorem dX9_led_51 : decode cX9_led 51 = .ok (.invokestatic 79, 3) := by decide +kernel
theorem dX9_led_54 : decode cX9_led 54 = .ok (.ifCond .ne 6, 3) := by decide +kernel
theorem dX9_led_57 : decode cX9_led 57 = .ok (.bipush (-2), 2) := by decide +kernel
theorem dX9_led_59 : decode cX9_led 59 = .ok (.ireturn, 1) := by decide +kernel
theorem dX9_led_60 : decode cX9_led 60 = .ok (.iload 6, 2) := by decide +kernel
theorem dX9_led_62 : decode cX9_led 62 = .ok (.ifCond .ne 19, 3) := by decide +kernel
theorem dX9_led_65 : decode cX9_led 65 = .ok (.iload_n 2, 1) := by decide +kernel
theorem dX9_led_66 : decode cX9_led 66 = .ok (.iload_n 3, 1) := by decide +kernel
theorem dX9_led_67 : decode cX9_led 67 = .ok (.aload 7, 2) := by decide +kernel
theorem dX9_led_69 : decode cX9_led 69 = .ok (.getfield 203, 3) := by decide +kernel
theorem dX9_led_72 : decode cX9_led 72 = .ok (.aload 7, 2) := by decide +kernel
theorem dX9_led_74 : decode cX9_led 74 = .ok (.invokevirtual 281, 3) := by decide +kernel
theorem dX9_led_77 : decode cX9_led 77 = .ok (.invokestatic 284, 3) := by decide +kernel
theorem dX9_led_80 : decode cX9_led 80 = .ok (.ireturn, 1) := by decide +kernel
theorem dX9_led_81 : decode cX9_led 81 = .ok (.aload 7, 2) := by decide +kernel
theorem dX9_led_83 : decode cX9_led 83 = .ok (.iload_n 2, 1) := by decide +kernel
theorem dX9_led_84 : decode cX9_led 84 = .ok (.iload_n 3, 1) := by decide +kernel
theorem dX9_led_85 : decode cX9_led 85 = .ok (.iload 4, 2) := by decide +kernel
theorem dX9_led_87 : decode cX9_led 87 = .ok (.iload 5, 2) := by decide +kernel
theorem dX9_led_89 : decode cX9_led 89 = .ok (.invokestatic 287, 3) := by decide +kernel
theorem dX9_led_92 : decode cX9_led 92 = .ok (.ireturn, 1) := by decide +kernel
set_option maxRecDepth 20000 in
theorem ggX9_told_X9_within : GoodIn wsX9_told wsX9_within := goodIn_r _ [9] (by decide +kernel) (by decide +kernel)
set_option maxRecDepth 20000 in
theorem gX9_told_X9_within : GoodIn wsX9_told (va_wsS RX9 79 yX9_within wsX9_within) := goodIn_app (goodIn_of _ (by decide +kernel)) ggX9_told_X9_within
set_option maxRecDepth 20000 in
theorem ggX9_told_X7_count : GoodIn wsX9_told wsX7_count := goodIn_r _ [14, 15, 53, 54] (by decide +kernel) (by decide +kernel)
set_option maxRecDepth 20000 in
theorem gX9_told_X7_count : GoodIn wsX9_told (wsV RX9 291 RX7 yX7_count wsX7_count) := goodIn_app (goodIn_of _ (by decide +kernel)) ggX9_told_X7_count
set_option maxRecDepth 20000 in
theorem ggX9_told_X9_lapBits : GoodIn wsX9_told wsX9_lapBits := goodIn_r _ [19, 20, 43, 44, 45, 46, 47, 48, 49, 50, 51, 52] (by decide +kernel) (by decide +kernel)
set_option maxRecDepth 20000 in
theorem gX9_told_X9_lapBits : GoodIn wsX9_told (wsV RX9 294 RX9 yX9_lapBits wsX9_lapBits) := goodIn_app (goodIn_of _ (by decide +kernel)) ggX9_told_X9_lapBits
set_option maxRecDepth 20000 in
theorem ggX9_told_X8_count : GoodIn wsX9_told wsX8_count := goodIn_r _ [25, 26, 55, 56, 57, 58] (by decide +kernel) (by decide +kernel)
set_option maxRecDepth 20000 in
theorem gX9_told_X8_count : GoodIn wsX9_told (wsV RX9 297 RX8 yX8_count wsX8_count) := goodIn_app (goodIn_of _ (by decide +kernel)) ggX9_told_X8_count
set_option maxRecDepth 20000 in
theorem ggX9_told_X1_count : GoodIn wsX9_told wsX1_count := goodIn_r _ [31, 32, 59, 60, 61, 62, 63] (by decide +kernel) (by decide +kernel)
set_option maxRecDepth 20000 in
theorem gX9_told_X1_count : GoodIn wsX9_told (wsV RX9 298 RX1 yX1_count wsX1_count) := goodIn_app (goodIn_of _ (by decide +kernel)) ggX9_told_X1_count
set_option maxRecDepth 20000 in
theorem ggX9_told_X3_bits : GoodIn wsX9_told wsX3_bits := goodIn_r _ [37, 38, 39, 40, 36, 41, 42, 7, 8, 9, 64, 65, 66, 67, 68, 69, 70, 71, 72, 73, 74] (by decide +kernel) (by decide +kernel)
set_option maxRecDepth 20000 in
theorem gX9_told_X3_bits : GoodIn wsX9_told (wsV RX9 299 RX3 yX3_bits wsX3_bits) := goodIn_app (goodIn_of _ (by decide +kernel)) ggX9_told_X3_bits
theorem dX9_told_0 : decode cX9_told 0 = .ok (.iload_n 1, 1) := by decide +kernel
theorem dX9_told_1 : decode cX9_told 1 = .ok (.bipush 10, 2) := by decide +kernel
theorem dX9_told_3 : decode cX9_told 3 = .ok (.bipush 10, 2) := by decide +kernel
theorem dX9_told_5 : decode cX9_told 5 = .ok (.aload_n 0, 1) := by decide +kernel
theorem dX9_told_6 : decode cX9_told 6 = .ok (.getfield 45, 3) := by decide +kernel
theorem dX9_told_9 : decode cX9_told 9 = .ok (.arraylength, 1) := by decide +kernel
theorem dX9_told_10 : decode cX9_told 10 = .ok (.iadd, 1) := by decide +kernel
theorem dX9_told_11 : decode cX9_told 11 = .ok (.iconst 1, 1) := by decide +kernel
theorem dX9_told_12 : decode cX9_told 12 = .ok (.isub, 1) := by decide +kernel
theorem dX9_told_13 : decode cX9_told 13 = .ok (.invokestatic 79, 3) := by decide +kernel
theorem dX9_told_16 : decode cX9_told 16 = .ok (.ifCond .eq 13, 3) := by decide +kernel
theorem dX9_told_19 : decode cX9_told 19 = .ok (.aload_n 0, 1) := by decide +kernel
theorem dX9_told_20 : decode cX9_told 20 = .ok (.getfield 45, 3) := by decide +kernel
theorem dX9_told_23 : decode cX9_told 23 = .ok (.iload_n 1, 1) := by decide +kernel
theorem dX9_told_24 : decode cX9_told 24 = .ok (.bipush 10, 2) := by decide +kernel
theorem dX9_told_26 : decode cX9_told 26 = .ok (.isub, 1) := by decide +kernel
theorem dX9_told_27 : decode cX9_told 27 = .ok (.iaload, 1) := by decide +kernel
theorem dX9_told_28 : decode cX9_told 28 = .ok (.ireturn, 1) := by decide +kernel
theorem dX9_told_29 : decode cX9_told 29 = .ok (.iload_n 1, 1) := by decide +kernel
theorem dX9_told_30 : decode cX9_told 30 = .ok (.tableswitch 71 0 4 #[34, 42, 47, 55, 63], 34) := by decide +kernel
theorem dX9_told_64 : decode cX9_told 64 = .ok (.aload_n 0, 1) := by decide +kernel
theorem dX9_told_65 : decode cX9_told 65 = .ok (.getfield 10, 3) := by decide +kernel
theorem dX9_told_68 : decode cX9_told 68 = .ok (.invokevirtual 291, 3) := by decide +kernel
theorem dX9_told_71 : decode cX9_told 71 = .ok (.ireturn, 1) := by decide +kernel
theorem dX9_told_72 : decode cX9_told 72 = .ok (.aload_n 0, 1) := by decide +kernel
theorem dX9_told_73 : decode cX9_told 73 = .ok (.invokevirtual 294, 3) := by decide +kernel
theorem dX9_told_76 : decode cX9_told 76 = .ok (.ireturn, 1) := by decide +kernel
theorem dX9_told_77 : decode cX9_told 77 = .ok (.aload_n 0, 1) := by decide +kernel
theorem dX9_told_78 : decode cX9_told 78 = .ok (.getfield 61, 3) := by decide +kernel
theorem dX9_told_81 : decode cX9_told 81 = .ok (.invokevirtual 297, 3) := by decide +kernel
theorem dX9_told_84 : decode cX9_told 84 = .ok (.ireturn, 1) := by decide +kernel
theorem dX9_told_85 : decode cX9_told 85 = .ok (.aload_n 0, 1) := by decide +kernel
theorem dX9_told_86 : decode cX9_told 86 = .ok (.getfield 75, 3) := by decide +kernel
theorem dX9_told_89 : decode cX9_told 89 = .ok (.invokevirtual 298, 3) := by decide +kernel
theorem dX9_told_92 : decode cX9_told 92 = .ok (.ireturn, 1) := by decide +kernel
theorem dX9_told_93 : decode cX9_told 93 = .ok (.aload_n 0, 1) := by decide +kernel
theorem dX9_told_94 : decode cX9_told 94 = .ok (.getfield 54, 3) := by decide +kernel
theorem dX9_told_97 : decode cX9_told 97 = .ok (.invokevirtual 299, 3) := by decide +kernel
theorem dX9_told_100 : decode cX9_told 100 = .ok (.ireturn, 1) := by decide +kernel
theorem dX9_told_101 : decode cX9_told 101 = .ok (.bipush (-2), 2) := by decide +kernel
theorem dX9_told_103 : decode cX9_told 103 = .ok (.ireturn, 1) := by decide +kernel
theorem dX9_within_0 : decode cX9_within 0 = .ok (.iload_n 0, 1) := by decide +kernel
theorem dX9_within_1 : decode cX9_within 1 = .ok (.iload_n 1, 1) := by decide +kernel
theorem dX9_within_2 : decode cX9_within 2 = .ok (.if_icmp .lt 12, 3) := by decide +kernel
theorem dX9_within_5 : decode cX9_within 5 = .ok (.iload_n 0, 1) := by decide +kernel
theorem dX9_within_6 : decode cX9_within 6 = .ok (.iload_n 2, 1) := by decide +kernel
theorem dX9_within_7 : decode cX9_within 7 = .ok (.if_icmp .gt 7, 3) := by decide +kernel
theorem dX9_within_10 : decode cX9_within 10 = .ok (.iconst 1, 1) := by decide +kernel
theorem dX9_within_11 : decode cX9_within 11 = .ok (.goto 4, 3) := by decide +kernel
theorem dX9_within_14 : decode cX9_within 14 = .ok (.iconst 0, 1) := by decide +kernel
theorem dX9_within_15 : decode cX9_within 15 = .ok (.ireturn, 1) := by decide +kernel
set_option maxRecDepth 20000 in
theorem ggX9_isPart_X9_within : GoodIn wsX9_isPart wsX9_within := goodIn_r _ [4] (by decide +kernel) (by decide +kernel)
set_option maxRecDepth 20000 in
theorem gX9_isPart_X9_within : GoodIn wsX9_isPart (va_wsS RX9 79 yX9_within wsX9_within) := goodIn_app (goodIn_of _ (by decide +kernel)) ggX9_isPart_X9_within
theorem dX9_isPart_0 : decode cX9_isPart 0 = .ok (.iload_n 0, 1) := by decide +kernel
theorem dX9_isPart_1 : decode cX9_isPart 1 = .ok (.iconst 0, 1) := by decide +kernel
theorem dX9_isPart_2 : decode cX9_isPart 2 = .ok (.iconst 1, 1) := by decide +kernel
theorem dX9_isPart_3 : decode cX9_isPart 3 = .ok (.invokestatic 79, 3) := by decide +kernel
theorem dX9_isPart_6 : decode cX9_isPart 6 = .ok (.ireturn, 1) := by decide +kernel
set_option maxRecDepth 20000 in
theorem ggX9_isPull_X9_within : GoodIn wsX9_isPull wsX9_within := goodIn_r _ [4] (by decide +kernel) (by decide +kernel)
set_option maxRecDepth 20000 in
theorem gX9_isPull_X9_within : GoodIn wsX9_isPull (va_wsS RX9 79 yX9_within wsX9_within) := goodIn_app (goodIn_of _ (by decide +kernel)) ggX9_isPull_X9_within
theorem dX9_isPull_0 : decode cX9_isPull 0 = .ok (.iload_n 0, 1) := by decide +kernel
theorem dX9_isPull_1 : decode cX9_isPull 1 = .ok (.iconst 1, 1) := by decide +kernel
theorem dX9_isPull_2 : decode cX9_isPull 2 = .ok (.bipush 100, 2) := by decide +kernel
theorem dX9_isPull_4 : decode cX9_isPull 4 = .ok (.invokestatic 79, 3) := by decide +kernel
theorem dX9_isPull_7 : decode cX9_isPull 7 = .ok (.ireturn, 1) := by decide +kernel
set_option maxRecDepth 20000 in
theorem ggX9_isLoad_X9_within : GoodIn wsX9_isLoad wsX9_within := goodIn_r _ [4] (by decide +kernel) (by decide +kernel)
set_option maxRecDepth 20000 in
theorem gX9_isLoad_X9_within : GoodIn wsX9_isLoad (va_wsS RX9 79 yX9_within wsX9_within) := goodIn_app (goodIn_of _ (by decide +kernel)) ggX9_isLoad_X9_within
theorem dX9_isLoad_0 : decode cX9_isLoad 0 = .ok (.iload_n 0, 1) := by decide +kernel
theorem dX9_isLoad_1 : decode cX9_isLoad 1 = .ok (.iconst 0, 1) := by decide +kernel
theorem dX9_isLoad_2 : decode cX9_isLoad 2 = .ok (.sipush 10000, 3) := by decide +kernel
theorem dX9_isLoad_5 : decode cX9_isLoad 5 = .ok (.invokestatic 79, 3) := by decide +kernel
theorem dX9_isLoad_8 : decode cX9_isLoad 8 = .ok (.ireturn, 1) := by decide +kernel
set_option maxRecDepth 20000 in
theorem ggX9_put_X9_within : GoodIn wsX9_put wsX9_within := goodIn_r _ [4] (by decide +kernel) (by decide +kernel)
set_option maxRecDepth 20000 in
theorem gX9_put_X9_within : GoodIn wsX9_put (va_wsS RX9 79 yX9_within wsX9_within) := goodIn_app (goodIn_of _ (by decide +kernel)) ggX9_put_X9_within
theorem dX9_put_0 : decode cX9_put 0 = .ok (.iload_n 1, 1) := by decide +kernel
theorem dX9_put_1 : decode cX9_put 1 = .ok (.iconst 0, 1) := by decide +kernel
theorem dX9_put_2 : decode cX9_put 2 = .ok (.aload_n 0, 1) := by decide +kernel
theorem dX9_put_3 : decode cX9_put 3 = .ok (.arraylength, 1) := by decide +kernel
theorem dX9_put_4 : decode cX9_put 4 = .ok (.iconst 1, 1) := by decide +kernel
theorem dX9_put_5 : decode cX9_put 5 = .ok (.isub, 1) := by decide +kernel
theorem dX9_put_6 : decode cX9_put 6 = .ok (.invokestatic 79, 3) := by decide +kernel
theorem dX9_put_9 : decode cX9_put 9 = .ok (.ifCond .eq 13, 3) := by decide +kernel
theorem dX9_put_12 : decode cX9_put 12 = .ok (.iload_n 2, 1) := by decide +kernel
theorem dX9_put_13 : decode cX9_put 13 = .ok (.iload_n 3, 1) := by decide +kernel
theorem dX9_put_14 : decode cX9_put 14 = .ok (.iload 4, 2) := by decide +kernel
theorem dX9_put_16 : decode cX9_put 16 = .ok (.invokestatic 79, 3) := by decide +kernel
theorem dX9_put_19 : decode cX9_put 19 = .ok (.ifCond .ne 6, 3) := by decide +kernel
theorem dX9_put_22 : decode cX9_put 22 = .ok (.bipush (-2), 2) := by decide +kernel
theorem dX9_put_24 : decode cX9_put 24 = .ok (.ireturn, 1) := by decide +kernel
theorem dX9_put_25 : decode cX9_put 25 = .ok (.aload_n 0, 1) := by decide +kernel
theorem dX9_put_26 : decode cX9_put 26 = .ok (.iload_n 1, 1) := by decide +kernel
theorem dX9_put_27 : decode cX9_put 27 = .ok (.iaload, 1) := by decide +kernel
theorem dX9_put_28 : decode cX9_put 28 = .ok (.istore 5, 2) := by decide +kernel
theorem dX9_put_30 : decode cX9_put 30 = .ok (.aload_n 0, 1) := by decide +kernel
theorem dX9_put_31 : decode cX9_put 31 = .ok (.iload_n 1, 1) := by decide +kernel
theorem dX9_put_32 : decode cX9_put 32 = .ok (.iload_n 2, 1) := by decide +kernel
theorem dX9_put_33 : decode cX9_put 33 = .ok (.iastore, 1) := by decide +kernel
theorem dX9_put_34 : decode cX9_put 34 = .ok (.iload 5, 2) := by decide +kernel
theorem dX9_put_36 : decode cX9_put 36 = .ok (.ireturn, 1) := by decide +kernel
set_option maxRecDepth 20000 in
theorem ggX9_lapAt_X9_within : GoodIn wsX9_lapAt wsX9_within := goodIn_r _ [5] (by decide +kernel) (by decide +kernel)
set_option maxRecDepth 20000 in
theorem gX9_lapAt_X9_within : GoodIn wsX9_lapAt (va_wsS RX9 79 yX9_within wsX9_within) := goodIn_app (goodIn_of _ (by decide +kernel)) ggX9_lapAt_X9_within
theorem dX9_lapAt_0 : decode cX9_lapAt 0 = .ok (.iload_n 1, 1) := by decide +kernel
theorem dX9_lapAt_1 : decode cX9_lapAt 1 = .ok (.iconst 0, 1) := by decide +kernel
theorem dX9_lapAt_2 : decode cX9_lapAt 2 = .ok (.iconst 5, 1) := by decide +kernel
theorem dX9_lapAt_3 : decode cX9_lapAt 3 = .ok (.invokestatic 79, 3) := by decide +kernel
theorem dX9_lapAt_6 : decode cX9_lapAt 6 = .ok (.ifCond .eq 12, 3) := by decide +kernel
theorem dX9_lapAt_9 : decode cX9_lapAt 9 = .ok (.aload_n 0, 1) := by decide +kernel
theorem dX9_lapAt_10 : decode cX9_lapAt 10 = .ok (.getfield 18, 3) := by decide +kernel
theorem dX9_lapAt_13 : decode cX9_lapAt 13 = .ok (.iload_n 1, 1) := by decide +kernel
theorem dX9_lapAt_14 : decode cX9_lapAt 14 = .ok (.aaload, 1) := by decide +kernel
theorem dX9_lapAt_15 : decode cX9_lapAt 15 = .ok (.goto 4, 3) := by decide +kernel
theorem dX9_lapAt_18 : decode cX9_lapAt 18 = .ok (.aconst_null, 1) := by decide +kernel
theorem dX9_lapAt_19 : decode cX9_lapAt 19 = .ok (.areturn, 1) := by decide +kernel
theorem dX9_lapBits_0 : decode cX9_lapBits 0 = .ok (.iconst 0, 1) := by decide +kernel
theorem dX9_lapBits_1 : decode cX9_lapBits 1 = .ok (.istore_n 1, 1) := by decide +kernel
theorem dX9_lapBits_2 : decode cX9_lapBits 2 = .ok (.iconst 0, 1) := by decide +kernel
theorem dX9_lapBits_3 : decode cX9_lapBits 3 = .ok (.istore_n 2, 1) := by decide +kernel
theorem dX9_lapBits_4 : decode cX9_lapBits 4 = .ok (.iload_n 2, 1) := by decide +kernel
theorem dX9_lapBits_5 : decode cX9_lapBits 5 = .ok (.bipush 6, 2) := by decide +kernel
theorem dX9_lapBits_7 : decode cX9_lapBits 7 = .ok (.if_icmp .ge 24, 3) := by decide +kernel
theorem dX9_lapBits_10 : decode cX9_lapBits 10 = .ok (.aload_n 0, 1) := by decide +kernel
theorem dX9_lapBits_11 : decode cX9_lapBits 11 = .ok (.getfield 18, 3) := by decide +kernel
theorem dX9_lapBits_14 : decode cX9_lapBits 14 = .ok (.iload_n 2, 1) := by decide +kernel
theorem dX9_lapBits_15 : decode cX9_lapBits 15 = .ok (.aaload, 1) := by decide +kernel
theorem dX9_lapBits_16 : decode cX9_lapBits 16 = .ok (.ifnull 9, 3) := by decide +kernel
theorem dX9_lapBits_19 : decode cX9_lapBits 19 = .ok (.iload_n 1, 1) := by decide +kernel
theorem dX9_lapBits_20 : decode cX9_lapBits 20 = .ok (.iconst 1, 1) := by decide +kernel
theorem dX9_lapBits_21 : decode cX9_lapBits 21 = .ok (.iload_n 2, 1) := by decide +kernel
theorem dX9_lapBits_22 : decode cX9_lapBits 22 = .ok (.ishl, 1) := by decide +kernel
theorem dX9_lapBits_23 : decode cX9_lapBits 23 = .ok (.ior, 1) := by decide +kernel
theorem dX9_lapBits_24 : decode cX9_lapBits 24 = .ok (.istore_n 1, 1) := by decide +kernel
theorem dX9_lapBits_25 : decode cX9_lapBits 25 = .ok (.iinc 2 1, 3) := by decide +kernel
theorem dX9_lapBits_28 : decode cX9_lapBits 28 = .ok (.goto (-24), 3) := by decide +kernel
theorem dX9_lapBits_31 : decode cX9_lapBits 31 = .ok (.iload_n 1, 1) := by decide +kernel
theorem dX9_lapBits_32 : decode cX9_lapBits 32 = .ok (.ireturn, 1) := by decide +kernel
set_option maxRecDepth 20000 in
theorem ggX9_refusalOfPull_X9_isPull : GoodIn wsX9_refusalOfPull wsX9_isPull := goodIn_r _ [4, 5, 6, 3, 7] (by decide +kernel) (by decide +kernel)
set_option maxRecDepth 20000 in
theorem gX9_refusalOfPull_X9_isPull : GoodIn wsX9_refusalOfPull (va_wsS RX9 162 yX9_isPull wsX9_isPull) := goodIn_app (goodIn_of _ (by decide +kernel)) ggX9_refusalOfPull_X9_isPull
set_option maxRecDepth 20000 in
theorem ggX9_refusalOfPull_X5_isLoose : GoodIn wsX9_refusalOfPull wsX5_isLoose := goodIn_r _ [12, 13, 14, 15, 11, 16, 17, 18, 19, 20, 21, 22, 23, 24, 25] (by decide +kernel) (by decide +kernel)
set_option maxRecDepth 20000 in
theorem gX9_refusalOfPull_X5_isLoose : GoodIn wsX9_refusalOfPull (wsV RX9 140 RX5 yX5_isLoose wsX5_isLoose) := goodIn_app (goodIn_of _ (by decide +kernel)) ggX9_refusalOfPull_X5_isLoose
theorem dX9_refusalOfPull_0 : decode cX9_refusalOfPull 0 = .ok (.aload_n 0, 1) := by decide +kernel
theorem dX9_refusalOfPull_1 : decode cX9_refusalOfPull 1 = .ok (.ifnonnull 5, 3) := by decide +kernel
theorem dX9_refusalOfPull_4 : decode cX9_refusalOfPull 4 = .ok (.iconst (-1), 1) := by decide +kernel
theorem dX9_refusalOfPull_5 : decode cX9_refusalOfPull 5 = .ok (.ireturn, 1) := by decide +kernel
theorem dX9_refusalOfPull_6 : decode cX9_refusalOfPull 6 = .ok (.iload_n 1, 1) := by decide +kernel
theorem dX9_refusalOfPull_7 : decode cX9_refusalOfPull 7 = .ok (.invokestatic 162, 3) := by decide +kernel
theorem dX9_refusalOfPull_10 : decode cX9_refusalOfPull 10 = .ok (.ifCond .eq 7, 3) := by decide +kernel
theorem dX9_refusalOfPull_13 : decode cX9_refusalOfPull 13 = .ok (.iload_n 2, 1) := by decide +kernel
theorem dX9_refusalOfPull_14 : decode cX9_refusalOfPull 14 = .ok (.ifCond .ne 6, 3) := by decide +kernel
theorem dX9_refusalOfPull_17 : decode cX9_refusalOfPull 17 = .ok (.bipush (-2), 2) := by decide +kernel
theorem dX9_refusalOfPull_19 : decode cX9_refusalOfPull 19 = .ok (.ireturn, 1) := by decide +kernel
theorem dX9_refusalOfPull_20 : decode cX9_refusalOfPull 20 = .ok (.aload_n 0, 1) := by decide +kernel
theorem dX9_refusalOfPull_21 : decode cX9_refusalOfPull 21 = .ok (.invokevirtual 140, 3) := by decide +kernel
theorem dX9_refusalOfPull_24 : decode cX9_refusalOfPull 24 = .ok (.ifCond .eq 8, 3) := by decide +kernel
theorem dX9_refusalOfPull_27 : decode cX9_refusalOfPull 27 = .ok (.bipush (-3), 2) := by decide +kernel
theorem dX9_refusalOfPull_29 : decode cX9_refusalOfPull 29 = .ok (.goto 4, 3) := by decide +kernel
theorem dX9_refusalOfPull_32 : decode cX9_refusalOfPull 32 = .ok (.iconst 0, 1) := by decide +kernel
theorem dX9_refusalOfPull_33 : decode cX9_refusalOfPull 33 = .ok (.ireturn, 1) := by decide +kernel
theorem dX9_strengthOf_0 : decode cX9_strengthOf 0 = .ok (.iload_n 0, 1) := by decide +kernel
theorem dX9_strengthOf_1 : decode cX9_strengthOf 1 = .ok (.iload_n 1, 1) := by decide +kernel
theorem dX9_strengthOf_2 : decode cX9_strengthOf 2 = .ok (.imul, 1) := by decide +kernel
theorem dX9_strengthOf_3 : decode cX9_strengthOf 3 = .ok (.bipush 100, 2) := by decide +kernel
theorem dX9_strengthOf_5 : decode cX9_strengthOf 5 = .ok (.idiv, 1) := by decide +kernel
theorem dX9_strengthOf_6 : decode cX9_strengthOf 6 = .ok (.istore 4, 2) := by decide +kernel
theorem dX9_strengthOf_8 : decode cX9_strengthOf 8 = .ok (.iload 4, 2) := by decide +kernel
theorem dX9_strengthOf_10 : decode cX9_strengthOf 10 = .ok (.iload_n 2, 1) := by decide +kernel
theorem dX9_strengthOf_11 : decode cX9_strengthOf 11 = .ok (.imul, 1) := by decide +kernel
theorem dX9_strengthOf_12 : decode cX9_strengthOf 12 = .ok (.sipush 1000, 3) := by decide +kernel
theorem dX9_strengthOf_15 : decode cX9_strengthOf 15 = .ok (.idiv, 1) := by decide +kernel
theorem dX9_strengthOf_16 : decode cX9_strengthOf 16 = .ok (.istore 5, 2) := by decide +kernel
theorem dX9_strengthOf_18 : decode cX9_strengthOf 18 = .ok (.iload 5, 2) := by decide +kernel
theorem dX9_strengthOf_20 : decode cX9_strengthOf 20 = .ok (.sipush 1000, 3) := by decide +kernel
theorem dX9_strengthOf_23 : decode cX9_strengthOf 23 = .ok (.iload_n 3, 1) := by decide +kernel
theorem dX9_strengthOf_24 : decode cX9_strengthOf 24 = .ok (.isub, 1) := by decide +kernel
theorem dX9_strengthOf_25 : decode cX9_strengthOf 25 = .ok (.imul, 1) := by decide +kernel
theorem dX9_strengthOf_26 : decode cX9_strengthOf 26 = .ok (.sipush 1000, 3) := by decide +kernel
theorem dX9_strengthOf_29 : decode cX9_strengthOf 29 = .ok (.idiv, 1) := by decide +kernel
theorem dX9_strengthOf_30 : decode cX9_strengthOf 30 = .ok (.ireturn, 1) := by decide +kernel
set_option maxRecDepth 20000 in
theorem ggX9_causesAlone_X9_strengthOf : GoodIn wsX9_causesAlone wsX9_strengthOf := goodIn_r _ [5] (by decide +kernel) (by decide +kernel)
set_option maxRecDepth 20000 in
theorem gX9_causesAlone_X9_strengthOf : GoodIn wsX9_causesAlone (va_wsS RX9 284 yX9_strengthOf wsX9_strengthOf) := goodIn_app (goodIn_of _ (by decide +kernel)) ggX9_causesAlone_X9_strengthOf
set_option maxRecDepth 20000 in
theorem ggX9_causesAlone_X5_greatestDamp : GoodIn wsX9_causesAlone wsX5_greatestDamp := goodIn_r _ [10, 11, 12, 13, 14, 15, 16, 17, 18, 19, 20, 21, 22, 23] (by decide +kernel) (by decide +kernel)
set_option maxRecDepth 20000 in
theorem gX9_causesAlone_X5_greatestDamp : GoodIn wsX9_causesAlone (wsV RX9 281 RX5 yX5_greatestDamp wsX5_greatestDamp) := goodIn_app (goodIn_of _ (by decide +kernel)) ggX9_causesAlone_X5_greatestDamp
theorem dX9_causesAlone_0 : decode cX9_causesAlone 0 = .ok (.iconst 0, 1) := by decide +kernel
theorem dX9_causesAlone_1 : decode cX9_causesAlone 1 = .ok (.istore 5, 2) := by decide +kernel
theorem dX9_causesAlone_3 : decode cX9_causesAlone 3 = .ok (.iload_n 1, 1) := by decide +kernel
theorem dX9_causesAlone_4 : decode cX9_causesAlone 4 = .ok (.iload_n 2, 1) := by decide +kernel
theorem dX9_causesAlone_5 : decode cX9_causesAlone 5 = .ok (.sipush 1000, 3) := by decide +kernel
theorem dX9_causesAlone_8 : decode cX9_causesAlone 8 = .ok (.iconst 0, 1) := by decide +kernel
theorem dX9_causesAlone_9 : decode cX9_causesAlone 9 = .ok (.invokestatic 284, 3) := by decide +kernel
theorem dX9_causesAlone_12 : decode cX9_causesAlone 12 = .ok (.iload 4, 2) := by decide +kernel
theorem dX9_causesAlone_14 : decode cX9_causesAlone 14 = .ok (.if_icmp .ge 9, 3) := by decide +kernel
theorem dX9_causesAlone_17 : decode cX9_causesAlone 17 = .ok (.iload 5, 2) := by decide +kernel
theorem dX9_causesAlone_19 : decode cX9_causesAlone 19 = .ok (.iconst 1, 1) := by decide +kernel
theorem dX9_causesAlone_20 : decode cX9_causesAlone 20 = .ok (.ior, 1) := by decide +kernel
theorem dX9_causesAlone_21 : decode cX9_causesAlone 21 = .ok (.istore 5, 2) := by decide +kernel
theorem dX9_causesAlone_23 : decode cX9_causesAlone 23 = .ok (.iload_n 1, 1) := by decide +kernel
theorem dX9_causesAlone_24 : decode cX9_causesAlone 24 = .ok (.bipush 100, 2) := by decide +kernel
theorem dX9_causesAlone_26 : decode cX9_causesAlone 26 = .ok (.aload_n 0, 1) := by decide +kernel
theorem dX9_causesAlone_27 : decode cX9_causesAlone 27 = .ok (.getfield 203, 3) := by decide +kernel
theorem dX9_causesAlone_30 : decode cX9_causesAlone 30 = .ok (.iconst 0, 1) := by decide +kernel
theorem dX9_causesAlone_31 : decode cX9_causesAlone 31 = .ok (.invokestatic 284, 3) := by decide +kernel
theorem dX9_causesAlone_34 : decode cX9_causesAlone 34 = .ok (.iload 4, 2) := by decide +kernel
theorem dX9_causesAlone_36 : decode cX9_causesAlone 36 = .ok (.if_icmp .ge 9, 3) := by decide +kernel
theorem dX9_causesAlone_39 : decode cX9_causesAlone 39 = .ok (.iload 5, 2) := by decide +kernel
theorem dX9_causesAlone_41 : decode cX9_causesAlone 41 = .ok (.iconst 2, 1) := by decide +kernel
theorem dX9_causesAlone_42 : decode cX9_causesAlone 42 = .ok (.ior, 1) := by decide +kernel
theorem dX9_causesAlone_43 : decode cX9_causesAlone 43 = .ok (.istore 5, 2) := by decide +kernel
theorem dX9_causesAlone_45 : decode cX9_causesAlone 45 = .ok (.iload_n 1, 1) := by decide +kernel
theorem dX9_causesAlone_46 : decode cX9_causesAlone 46 = .ok (.bipush 100, 2) := by decide +kernel
theorem dX9_causesAlone_48 : decode cX9_causesAlone 48 = .ok (.sipush 1000, 3) := by decide +kernel
theorem dX9_causesAlone_51 : decode cX9_causesAlone 51 = .ok (.aload_n 0, 1) := by decide +kernel
theorem dX9_causesAlone_52 : decode cX9_causesAlone 52 = .ok (.invokevirtual 281, 3) := by decide +kernel
theorem dX9_causesAlone_55 : decode cX9_causesAlone 55 = .ok (.invokestatic 284, 3) := by decide +kernel
theorem dX9_causesAlone_58 : decode cX9_causesAlone 58 = .ok (.iload 4, 2) := by decide +kernel
theorem dX9_causesAlone_60 : decode cX9_causesAlone 60 = .ok (.if_icmp .ge 9, 3) := by decide +kernel
theorem dX9_causesAlone_63 : decode cX9_causesAlone 63 = .ok (.iload 5, 2) := by decide +kernel
theorem dX9_causesAlone_65 : decode cX9_causesAlone 65 = .ok (.iconst 4, 1) := by decide +kernel
theorem dX9_causesAlone_66 : decode cX9_causesAlone 66 = .ok (.ior, 1) := by decide +kernel
theorem dX9_causesAlone_67 : decode cX9_causesAlone 67 = .ok (.istore 5, 2) := by decide +kernel
theorem dX9_causesAlone_69 : decode cX9_causesAlone 69 = .ok (.iload_n 3, 1) := by decide +kernel
theorem dX9_causesAlone_70 : decode cX9_causesAlone 70 = .ok (.iload 4, 2) := by decide +kernel
theorem dX9_causesAlone_72 : decode cX9_causesAlone 72 = .ok (.if_icmp .le 24, 3) := by decide +kernel
theorem dX9_causesAlone_75 : decode cX9_causesAlone 75 = .ok (.iload_n 1, 1) := by decide +kernel
theorem dX9_causesAlone_76 : decode cX9_causesAlone 76 = .ok (.bipush 100, 2) := by decide +kernel
theorem dX9_causesAlone_78 : decode cX9_causesAlone 78 = .ok (.sipush 1000, 3) := by decide +kernel
theorem dX9_causesAlone_81 : decode cX9_causesAlone 81 = .ok (.iconst 0, 1) := by decide +kernel
theorem dX9_causesAlone_82 : decode cX9_causesAlone 82 = .ok (.invokestatic 284, 3) := by decide +kernel
theorem dX9_causesAlone_85 : decode cX9_causesAlone 85 = .ok (.iload_n 3, 1) := by decide +kernel
theorem dX9_causesAlone_86 : decode cX9_causesAlone 86 = .ok (.if_icmp .ge 10, 3) := by decide +kernel
theorem dX9_causesAlone_89 : decode cX9_causesAlone 89 = .ok (.iload 5, 2) := by decide +kernel
theorem dX9_causesAlone_91 : decode cX9_causesAlone 91 = .ok (.bipush 8, 2) := by decide +kernel
theorem dX9_causesAlone_93 : decode cX9_causesAlone 93 = .ok (.ior, 1) := by decide +kernel
theorem dX9_causesAlone_94 : decode cX9_causesAlone 94 = .ok (.istore 5, 2) := by decide +kernel
theorem dX9_causesAlone_96 : decode cX9_causesAlone 96 = .ok (.iload 5, 2) := by decide +kernel
theorem dX9_causesAlone_98 : decode cX9_causesAlone 98 = .ok (.ireturn, 1) := by decide +kernel
