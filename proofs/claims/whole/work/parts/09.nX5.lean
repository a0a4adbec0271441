theorem dX5_init_0 : decode cX5_init 0 = .ok (.aload_n 0, 1) := by decide +kernel
theorem dX5_init_1 : decode cX5_init 1 = .ok (.invokespecial 3, 3) := by decide +kernel
theorem dX5_init_4 : decode cX5_init 4 = .ok (.aload_n 0, 1) := by decide +kernel
theorem dX5_init_5 : decode cX5_init 5 = .ok (.iconst 5, 1) := by decide +kernel
theorem dX5_init_6 : decode cX5_init 6 = .ok (.newarray .int, 2) := by decide +kernel
theorem dX5_init_8 : decode cX5_init 8 = .ok (.putfield 9, 3) := by decide +kernel
theorem dX5_init_11 : decode cX5_init 11 = .ok (.aload_n 0, 1) := by decide +kernel
theorem dX5_init_12 : decode cX5_init 12 = .ok (.iconst 5, 1) := by decide +kernel
theorem dX5_init_13 : decode cX5_init 13 = .ok (.newarray .int, 2) := by decide +kernel
theorem dX5_init_15 : decode cX5_init 15 = .ok (.putfield 15, 3) := by decide +kernel
theorem dX5_init_18 : decode cX5_init 18 = .ok (.aload_n 0, 1) := by decide +kernel
theorem dX5_init_19 : decode cX5_init 19 = .ok (.iconst 5, 1) := by decide +kernel
theorem dX5_init_20 : decode cX5_init 20 = .ok (.newarray .int, 2) := by decide +kernel
theorem dX5_init_22 : decode cX5_init 22 = .ok (.putfield 18, 3) := by decide +kernel
theorem dX5_init_25 : decode cX5_init 25 = .ok (.aload_n 0, 1) := by decide +kernel
theorem dX5_init_26 : decode cX5_init 26 = .ok (.iconst 5, 1) := by decide +kernel
theorem dX5_init_27 : decode cX5_init 27 = .ok (.newarray .int, 2) := by decide +kernel
theorem dX5_init_29 : decode cX5_init 29 = .ok (.putfield 21, 3) := by decide +kernel
theorem dX5_init_32 : decode cX5_init 32 = .ok (.aload_n 0, 1) := by decide +kernel
theorem dX5_init_33 : decode cX5_init 33 = .ok (.iconst 5, 1) := by decide +kernel
theorem dX5_init_34 : decode cX5_init 34 = .ok (.newarray .int, 2) := by decide +kernel
theorem dX5_init_36 : decode cX5_init 36 = .ok (.putfield 24, 3) := by decide +kernel
theorem dX5_init_39 : decode cX5_init 39 = .ok (.aload_n 0, 1) := by decide +kernel
theorem dX5_init_40 : decode cX5_init 40 = .ok (.bipush 10, 2) := by decide +kernel
theorem dX5_init_42 : decode cX5_init 42 = .ok (.newarray .int, 2) := by decide +kernel
theorem dX5_init_44 : decode cX5_init 44 = .ok (.putfield 27, 3) := by decide +kernel
theorem dX5_init_47 : decode cX5_init 47 = .ok (.return_, 1) := by decide +kernel
set_option maxRecDepth 20000 in
theorem ggX5_readFrom_X7_spots : GoodIn wsX5_readFrom wsX7_spots := goodIn_r _ [13, 14, 15, 16, 17, 18, 51, 52] (by decide +kernel) (by decide +kernel)
set_option maxRecDepth 20000 in
theorem gX5_readFrom_X7_spots : GoodIn wsX5_readFrom (wsV RX5 30 RX7 yX7_spots wsX7_spots) := goodIn_app (goodIn_of _ (by decide +kernel)) ggX5_readFrom_X7_spots
set_option maxRecDepth 20000 in
theorem ggX5_readFrom_X7_glueOf : GoodIn wsX5_readFrom wsX7_glueOf := goodIn_r _ [22, 23, 24, 25, 12, 26, 27, 28, 29, 30, 51, 52] (by decide +kernel) (by decide +kernel)
set_option maxRecDepth 20000 in
theorem gX5_readFrom_X7_glueOf : GoodIn wsX5_readFrom (wsV RX5 39 RX7 yX7_glueOf wsX7_glueOf) := goodIn_app (goodIn_of _ (by decide +kernel)) ggX5_readFrom_X7_glueOf
set_option maxRecDepth 20000 in
theorem ggX5_readFrom_X7_upperBehind : GoodIn wsX5_readFrom wsX7_upperBehind := goodIn_r _ [34, 23, 24, 25, 12, 26, 27, 28, 29, 30, 51, 52] (by decide +kernel) (by decide +kernel)
set_option maxRecDepth 20000 in
theorem gX5_readFrom_X7_upperBehind : GoodIn wsX5_readFrom (wsV RX5 43 RX7 yX7_upperBehind wsX7_upperBehind) := goodIn_app (goodIn_of _ (by decide +kernel)) ggX5_readFrom_X7_upperBehind
set_option maxRecDepth 20000 in
theorem ggX5_readFrom_X7_underBehind : GoodIn wsX5_readFrom wsX7_underBehind := goodIn_r _ [38, 23, 24, 25, 12, 26, 27, 28, 29, 30, 51, 52] (by decide +kernel) (by decide +kernel)
set_option maxRecDepth 20000 in
theorem gX5_readFrom_X7_underBehind : GoodIn wsX5_readFrom (wsV RX5 46 RX7 yX7_underBehind wsX7_underBehind) := goodIn_app (goodIn_of _ (by decide +kernel)) ggX5_readFrom_X7_underBehind
set_option maxRecDepth 20000 in
theorem ggX5_readFrom_J7_fill_53178 : GoodIn wsX5_readFrom wsJ7_fill_53178 := goodIn_r _ [42] (by decide +kernel) (by decide +kernel)
set_option maxRecDepth 20000 in
theorem gX5_readFrom_J7_fill_53178 : GoodIn wsX5_readFrom (va_wsS RX5 49 yJ7_fill_53178 wsJ7_fill_53178) := goodIn_app (goodIn_of _ (by decide +kernel)) ggX5_readFrom_J7_fill_53178
theorem dX5_readFrom_0 : decode cX5_readFrom 0 = .ok (.aload_n 0, 1) := by decide +kernel
theorem dX5_readFrom_1 : decode cX5_readFrom 1 = .ok (.aload_n 1, 1) := by decide +kernel
theorem dX5_readFrom_2 : decode cX5_readFrom 2 = .ok (.invokevirtual 30, 3) := by decide +kernel
theorem dX5_readFrom_5 : decode cX5_readFrom 5 = .ok (.putfield 36, 3) := by decide +kernel
theorem dX5_readFrom_8 : decode cX5_readFrom 8 = .ok (.iconst 0, 1) := by decide +kernel
theorem dX5_readFrom_9 : decode cX5_readFrom 9 = .ok (.istore_n 2, 1) := by decide +kernel
theorem dX5_readFrom_10 : decode cX5_readFrom 10 = .ok (.iload_n 2, 1) := by decide +kernel
theorem dX5_readFrom_11 : decode cX5_readFrom 11 = .ok (.iconst 5, 1) := by decide +kernel
theorem dX5_readFrom_12 : decode cX5_readFrom 12 = .ok (.if_icmp .ge 99, 3) := by decide +kernel
theorem dX5_readFrom_15 : decode cX5_readFrom 15 = .ok (.iload_n 2, 1) := by decide +kernel
theorem dX5_readFrom_16 : decode cX5_readFrom 16 = .ok (.aload_n 0, 1) := by decide +kernel
theorem dX5_readFrom_17 : decode cX5_readFrom 17 = .ok (.getfield 36, 3) := by decide +kernel
theorem dX5_readFrom_20 : decode cX5_readFrom 20 = .ok (.if_icmp .ge 7, 3) := by decide +kernel
theorem dX5_readFrom_23 : decode cX5_readFrom 23 = .ok (.iconst 1, 1) := by decide +kernel
theorem dX5_readFrom_24 : decode cX5_readFrom 24 = .ok (.goto 4, 3) := by decide +kernel
theorem dX5_readFrom_27 : decode cX5_readFrom 27 = .ok (.iconst 0, 1) := by decide +kernel
theorem dX5_readFrom_28 : decode cX5_readFrom 28 = .ok (.istore_n 3, 1) := by decide +kernel
theorem dX5_readFrom_29 : decode cX5_readFrom 29 = .ok (.iload_n 2, 1) := by decide +kernel
theorem dX5_readFrom_30 : decode cX5_readFrom 30 = .ok (.aload_n 0, 1) := by decide +kernel
theorem dX5_readFrom_31 : decode cX5_readFrom 31 = .ok (.getfield 36, 3) := by decide +kernel
theorem dX5_readFrom_34 : decode cX5_readFrom 34 = .ok (.iconst 1, 1) := by decide +kernel
theorem dX5_readFrom_35 : decode cX5_readFrom 35 = .ok (.isub, 1) := by decide +kernel
theorem dX5_readFrom_36 : decode cX5_readFrom 36 = .ok (.if_icmp .ge 7, 3) := by decide +kernel
theorem dX5_readFrom_39 : decode cX5_readFrom 39 = .ok (.iconst 1, 1) := by decide +kernel
theorem dX5_readFrom_40 : decode cX5_readFrom 40 = .ok (.goto 4, 3) := by decide +kernel
theorem dX5_readFrom_43 : decode cX5_readFrom 43 = .ok (.iconst 0, 1) := by decide +kernel
theorem dX5_readFrom_44 : decode cX5_readFrom 44 = .ok (.istore 4, 2) := by decide +kernel
theorem dX5_readFrom_46 : decode cX5_readFrom 46 = .ok (.aload_n 0, 1) := by decide +kernel
theorem dX5_readFrom_47 : decode cX5_readFrom 47 = .ok (.getfield 9, 3) := by decide +kernel
theorem dX5_readFrom_50 : decode cX5_readFrom 50 = .ok (.iload_n 2, 1) := by decide +kernel
theorem dX5_readFrom_51 : decode cX5_readFrom 51 = .ok (.iload_n 3, 1) := by decide +kernel
theorem dX5_readFrom_52 : decode cX5_readFrom 52 = .ok (.ifCond .eq 11, 3) := by decide +kernel
theorem dX5_readFrom_55 : decode cX5_readFrom 55 = .ok (.aload_n 1, 1) := by decide +kernel
theorem dX5_readFrom_56 : decode cX5_readFrom 56 = .ok (.iload_n 2, 1) := by decide +kernel
theorem dX5_readFrom_57 : decode cX5_readFrom 57 = .ok (.invokevirtual 39, 3) := by decide +kernel
theorem dX5_readFrom_60 : decode cX5_readFrom 60 = .ok (.goto 4, 3) := by decide +kernel
theorem dX5_readFrom_63 : decode cX5_readFrom 63 = .ok (.iconst 0, 1) := by decide +kernel
theorem dX5_readFrom_64 : decode cX5_readFrom 64 = .ok (.iastore, 1) := by decide +kernel
theorem dX5_readFrom_65 : decode cX5_readFrom 65 = .ok (.aload_n 0, 1) := by decide +kernel
theorem dX5_readFrom_66 : decode cX5_readFrom 66 = .ok (.getfield 15, 3) := by decide +kernel
theorem dX5_readFrom_69 : decode cX5_readFrom 69 = .ok (.iload_n 2, 1) := by decide +kernel
theorem dX5_readFrom_70 : decode cX5_readFrom 70 = .ok (.iload 4, 2) := by decide +kernel
theorem dX5_readFrom_72 : decode cX5_readFrom 72 = .ok (.ifCond .eq 11, 3) := by decide +kernel
theorem dX5_readFrom_75 : decode cX5_readFrom 75 = .ok (.aload_n 1, 1) := by decide +kernel
theorem dX5_readFrom_76 : decode cX5_readFrom 76 = .ok (.iload_n 2, 1) := by decide +kernel
theorem dX5_readFrom_77 : decode cX5_readFrom 77 = .ok (.invokevirtual 43, 3) := by decide +kernel
theorem dX5_readFrom_80 : decode cX5_readFrom 80 = .ok (.goto 4, 3) := by decide +kernel
theorem dX5_readFrom_83 : decode cX5_readFrom 83 = .ok (.iconst 0, 1) := by decide +kernel
theorem dX5_readFrom_84 : decode cX5_readFrom 84 = .ok (.iastore, 1) := by decide +kernel
theorem dX5_readFrom_85 : decode cX5_readFrom 85 = .ok (.aload_n 0, 1) := by decide +kernel
theorem dX5_readFrom_86 : decode cX5_readFrom 86 = .ok (.getfield 18, 3) := by decide +kernel
theorem dX5_readFrom_89 : decode cX5_readFrom 89 = .ok (.iload_n 2, 1) := by decide +kernel
theorem dX5_readFrom_90 : decode cX5_readFrom 90 = .ok (.iload 4, 2) := by decide +kernel
theorem dX5_readFrom_92 : decode cX5_readFrom 92 = .ok (.ifCond .eq 11, 3) := by decide +kernel
theorem dX5_readFrom_95 : decode cX5_readFrom 95 = .ok (.aload_n 1, 1) := by decide +kernel
theorem dX5_readFrom_96 : decode cX5_readFrom 96 = .ok (.iload_n 2, 1) := by decide +kernel
theorem dX5_readFrom_97 : decode cX5_readFrom 97 = .ok (.invokevirtual 46, 3) := by decide +kernel
theorem dX5_readFrom_100 : decode cX5_readFrom 100 = .ok (.goto 4, 3) := by decide +kernel
theorem dX5_readFrom_103 : decode cX5_readFrom 103 = .ok (.iconst 0, 1) := by decide +kernel
theorem dX5_readFrom_104 : decode cX5_readFrom 104 = .ok (.iastore, 1) := by decide +kernel
theorem dX5_readFrom_105 : decode cX5_readFrom 105 = .ok (.iinc 2 1, 3) := by decide +kernel
theorem dX5_readFrom_108 : decode cX5_readFrom 108 = .ok (.goto (-98), 3) := by decide +kernel
theorem dX5_readFrom_111 : decode cX5_readFrom 111 = .ok (.aload_n 0, 1) := by decide +kernel
theorem dX5_readFrom_112 : decode cX5_readFrom 112 = .ok (.getfield 21, 3) := by decide +kernel
theorem dX5_readFrom_115 : decode cX5_readFrom 115 = .ok (.bipush 10, 2) := by decide +kernel
theorem dX5_readFrom_117 : decode cX5_readFrom 117 = .ok (.invokestatic 49, 3) := by decide +kernel
theorem dX5_readFrom_120 : decode cX5_readFrom 120 = .ok (.aload_n 0, 1) := by decide +kernel
theorem dX5_readFrom_121 : decode cX5_readFrom 121 = .ok (.getfield 24, 3) := by decide +kernel
theorem dX5_readFrom_124 : decode cX5_readFrom 124 = .ok (.iconst 0, 1) := by decide +kernel
theorem dX5_readFrom_125 : decode cX5_readFrom 125 = .ok (.invokestatic 49, 3) := by decide +kernel
theorem dX5_readFrom_128 : decode cX5_readFrom 128 = .ok (.aload_n 0, 1) := by decide +kernel
theorem dX5_readFrom_129 : decode cX5_readFrom 129 = .ok (.getfield 27, 3) := by decide +kernel
theorem dX5_readFrom_132 : decode cX5_readFrom 132 = .ok (.iconst 0, 1) := by decide +kernel
theorem dX5_readFrom_133 : decode cX5_readFrom 133 = .ok (.invokestatic 49, 3) := by decide +kernel
theorem dX5_readFrom_136 : decode cX5_readFrom 136 = .ok (.aload_n 0, 1) := by decide +kernel
theorem dX5_readFrom_137 : decode cX5_readFrom 137 = .ok (.iconst 0, 1) := by decide +kernel
theorem dX5_readFrom_138 : decode cX5_readFrom 138 = .ok (.putfield 55, 3) := by decide +kernel
theorem dX5_readFrom_141 : decode cX5_readFrom 141 = .ok (.return_, 1) := by decide +kernel
set_option maxRecDepth 20000 in
theorem ggX5_hasSpot_X9_within : GoodIn wsX5_hasSpot wsX9_within := goodIn_r _ [4] (by decide +kernel) (by decide +kernel)
set_option maxRecDepth 20000 in
theorem gX5_hasSpot_X9_within_n58 : GoodIn wsX5_hasSpot (wsX9_within) := ggX5_hasSpot_X9_within
theorem dX5_hasSpot_0 : decode cX5_hasSpot 0 = .ok (.iload_n 1, 1) := by decide +kernel
theorem dX5_hasSpot_1 : decode cX5_hasSpot 1 = .ok (.iconst 0, 1) := by decide +kernel
theorem dX5_hasSpot_2 : decode cX5_hasSpot 2 = .ok (.aload_n 0, 1) := by decide +kernel
theorem dX5_hasSpot_3 : decode cX5_hasSpot 3 = .ok (.getfield 36, 3) := by decide +kernel
theorem dX5_hasSpot_6 : decode cX5_hasSpot 6 = .ok (.iconst 1, 1) := by decide +kernel
theorem dX5_hasSpot_7 : decode cX5_hasSpot 7 = .ok (.isub, 1) := by decide +kernel
theorem dX5_hasSpot_8 : decode cX5_hasSpot 8 = .ok (.invokestatic 58, 3) := by decide +kernel
theorem dX5_hasSpot_11 : decode cX5_hasSpot 11 = .ok (.ifCond .eq 12, 3) := by decide +kernel
theorem dX5_hasSpot_14 : decode cX5_hasSpot 14 = .ok (.iload_n 1, 1) := by decide +kernel
theorem dX5_hasSpot_15 : decode cX5_hasSpot 15 = .ok (.iconst 5, 1) := by decide +kernel
theorem dX5_hasSpot_16 : decode cX5_hasSpot 16 = .ok (.if_icmp .ge 7, 3) := by decide +kernel
theorem dX5_hasSpot_19 : decode cX5_hasSpot 19 = .ok (.iconst 1, 1) := by decide +kernel
theorem dX5_hasSpot_20 : decode cX5_hasSpot 20 = .ok (.goto 4, 3) := by decide +kernel
theorem dX5_hasSpot_23 : decode cX5_hasSpot 23 = .ok (.iconst 0, 1) := by decide +kernel
theorem dX5_hasSpot_24 : decode cX5_hasSpot 24 = .ok (.ireturn, 1) := by decide +kernel
theorem dX5_isLast_0 : decode cX5_isLast 0 = .ok (.iload_n 1, 1) := by decide +kernel
theorem dX5_isLast_1 : decode cX5_isLast 1 = .ok (.aload_n 0, 1) := by decide +kernel
theorem dX5_isLast_2 : decode cX5_isLast 2 = .ok (.getfield 36, 3) := by decide +kernel
theorem dX5_isLast_5 : decode cX5_isLast 5 = .ok (.iconst 1, 1) := by decide +kernel
theorem dX5_isLast_6 : decode cX5_isLast 6 = .ok (.isub, 1) := by decide +kernel
theorem dX5_isLast_7 : decode cX5_isLast 7 = .ok (.if_icmp .ne 7, 3) := by decide +kernel
theorem dX5_isLast_10 : decode cX5_isLast 10 = .ok (.iconst 1, 1) := by decide +kernel
theorem dX5_isLast_11 : decode cX5_isLast 11 = .ok (.goto 4, 3) := by decide +kernel
theorem dX5_isLast_14 : decode cX5_isLast 14 = .ok (.iconst 0, 1) := by decide +kernel
theorem dX5_isLast_15 : decode cX5_isLast 15 = .ok (.ireturn, 1) := by decide +kernel
theorem dX5_holding_0 : decode cX5_holding 0 = .ok (.iconst 0, 1) := by decide +kernel
theorem dX5_holding_1 : decode cX5_holding 1 = .ok (.istore_n 1, 1) := by decide +kernel
theorem dX5_holding_2 : decode cX5_holding 2 = .ok (.iconst 0, 1) := by decide +kernel
theorem dX5_holding_3 : decode cX5_holding 3 = .ok (.istore_n 2, 1) := by decide +kernel
theorem dX5_holding_4 : decode cX5_holding 4 = .ok (.iload_n 2, 1) := by decide +kernel
theorem dX5_holding_5 : decode cX5_holding 5 = .ok (.iconst 5, 1) := by decide +kernel
theorem dX5_holding_6 : decode cX5_holding 6 = .ok (.if_icmp .ge 21, 3) := by decide +kernel
theorem dX5_holding_9 : decode cX5_holding 9 = .ok (.aload_n 0, 1) := by decide +kernel
theorem dX5_holding_10 : decode cX5_holding 10 = .ok (.getfield 9, 3) := by decide +kernel
theorem dX5_holding_13 : decode cX5_holding 13 = .ok (.iload_n 2, 1) := by decide +kernel
theorem dX5_holding_14 : decode cX5_holding 14 = .ok (.iaload, 1) := by decide +kernel
theorem dX5_holding_15 : decode cX5_holding 15 = .ok (.ifCond .le 6, 3) := by decide +kernel
theorem dX5_holding_18 : decode cX5_holding 18 = .ok (.iinc 1 1, 3) := by decide +kernel
theorem dX5_holding_21 : decode cX5_holding 21 = .ok (.iinc 2 1, 3) := by decide +kernel
theorem dX5_holding_24 : decode cX5_holding 24 = .ok (.goto (-20), 3) := by decide +kernel
theorem dX5_holding_27 : decode cX5_holding 27 = .ok (.iload_n 1, 1) := by decide +kernel
theorem dX5_holding_28 : decode cX5_holding 28 = .ok (.ireturn, 1) := by decide +kernel
set_option maxRecDepth 20000 in
theorem ggX5_isLoose_X5_holding : GoodIn wsX5_isLoose wsX5_holding := goodIn_r _ [5, 6, 7, 8, 9, 10, 11, 12, 13, 14] (by decide +kernel) (by decide +kernel)
set_option maxRecDepth 20000 in
theorem gX5_isLoose_X5_holding : GoodIn wsX5_isLoose (wsV RX5 62 RX5 yX5_holding wsX5_holding) := goodIn_app (goodIn_of _ (by decide +kernel)) ggX5_isLoose_X5_holding
theorem dX5_isLoose_0 : decode cX5_isLoose 0 = .ok (.aload_n 0, 1) := by decide +kernel
theorem dX5_isLoose_1 : decode cX5_isLoose 1 = .ok (.invokevirtual 62, 3) := by decide +kernel
theorem dX5_isLoose_4 : decode cX5_isLoose 4 = .ok (.ifCond .ne 7, 3) := by decide +kernel
theorem dX5_isLoose_7 : decode cX5_isLoose 7 = .ok (.iconst 1, 1) := by decide +kernel
theorem dX5_isLoose_8 : decode cX5_isLoose 8 = .ok (.goto 4, 3) := by decide +kernel
theorem dX5_isLoose_11 : decode cX5_isLoose 11 = .ok (.iconst 0, 1) := by decide +kernel
theorem dX5_isLoose_12 : decode cX5_isLoose 12 = .ok (.ireturn, 1) := by decide +kernel
theorem dX5_soak_0 : decode cX5_soak 0 = .ok (.iload_n 2, 1) := by decide +kernel
theorem dX5_soak_1 : decode cX5_soak 1 = .ok (.istore_n 3, 1) := by decide +kernel
theorem dX5_soak_2 : decode cX5_soak 2 = .ok (.iconst 0, 1) := by decide +kernel
theorem dX5_soak_3 : decode cX5_soak 3 = .ok (.istore 4, 2) := by decide +kernel
theorem dX5_soak_5 : decode cX5_soak 5 = .ok (.iload 4, 2) := by decide +kernel
theorem dX5_soak_7 : decode cX5_soak 7 = .ok (.bipush 10, 2) := by decide +kernel
theorem dX5_soak_9 : decode cX5_soak 9 = .ok (.if_icmp .ge 67, 3) := by decide +kernel
theorem dX5_soak_12 : decode cX5_soak 12 = .ok (.aload_n 0, 1) := by decide +kernel
theorem dX5_soak_13 : decode cX5_soak 13 = .ok (.getfield 27, 3) := by decide +kernel
theorem dX5_soak_16 : decode cX5_soak 16 = .ok (.iload 4, 2) := by decide +kernel
theorem dX5_soak_18 : decode cX5_soak 18 = .ok (.iaload, 1) := by decide +kernel
theorem dX5_soak_19 : decode cX5_soak 19 = .ok (.istore 5, 2) := by decide +kernel
theorem dX5_soak_21 : decode cX5_soak 21 = .ok (.iload 4, 2) := by decide +kernel
theorem dX5_soak_23 : decode cX5_soak 23 = .ok (.bipush 9, 2) := by decide +kernel
theorem dX5_soak_25 : decode cX5_soak 25 = .ok (.if_icmp .ge 15, 3) := by decide +kernel
theorem dX5_soak_28 : decode cX5_soak 28 = .ok (.aload_n 0, 1) := by decide +kernel
theorem dX5_soak_29 : decode cX5_soak 29 = .ok (.getfield 27, 3) := by decide +kernel
theorem dX5_soak_32 : decode cX5_soak 32 = .ok (.iload 4, 2) := by decide +kernel
theorem dX5_soak_34 : decode cX5_soak 34 = .ok (.iconst 1, 1) := by decide +kernel
theorem dX5_soak_35 : decode cX5_soak 35 = .ok (.iadd, 1) := by decide +kernel
theorem dX5_soak_36 : decode cX5_soak 36 = .ok (.iaload, 1) := by decide +kernel
theorem dX5_soak_37 : decode cX5_soak 37 = .ok (.goto 4, 3) := by decide +kernel
theorem dX5_soak_40 : decode cX5_soak 40 = .ok (.iload_n 2, 1) := by decide +kernel
theorem dX5_soak_41 : decode cX5_soak 41 = .ok (.istore 6, 2) := by decide +kernel
theorem dX5_soak_43 : decode cX5_soak 43 = .ok (.aload_n 0, 1) := by decide +kernel
theorem dX5_soak_44 : decode cX5_soak 44 = .ok (.getfield 27, 3) := by decide +kernel
theorem dX5_soak_47 : decode cX5_soak 47 = .ok (.iload 4, 2) := by decide +kernel
theorem dX5_soak_49 : decode cX5_soak 49 = .ok (.iload 5, 2) := by decide +kernel
theorem dX5_soak_51 : decode cX5_soak 51 = .ok (.iload_n 1, 1) := by decide +kernel
theorem dX5_soak_52 : decode cX5_soak 52 = .ok (.iload_n 3, 1) := by decide +kernel
theorem dX5_soak_53 : decode cX5_soak 53 = .ok (.iload 6, 2) := by decide +kernel
theorem dX5_soak_55 : decode cX5_soak 55 = .ok (.iadd, 1) := by decide +kernel
theorem dX5_soak_56 : decode cX5_soak 56 = .ok (.iconst 2, 1) := by decide +kernel
theorem dX5_soak_57 : decode cX5_soak 57 = .ok (.iload 5, 2) := by decide +kernel
theorem dX5_soak_59 : decode cX5_soak 59 = .ok (.imul, 1) := by decide +kernel
theorem dX5_soak_60 : decode cX5_soak 60 = .ok (.isub, 1) := by decide +kernel
theorem dX5_soak_61 : decode cX5_soak 61 = .ok (.imul, 1) := by decide +kernel
theorem dX5_soak_62 : decode cX5_soak 62 = .ok (.bipush 100, 2) := by decide +kernel
theorem dX5_soak_64 : decode cX5_soak 64 = .ok (.idiv, 1) := by decide +kernel
theorem dX5_soak_65 : decode cX5_soak 65 = .ok (.iadd, 1) := by decide +kernel
theorem dX5_soak_66 : decode cX5_soak 66 = .ok (.iastore, 1) := by decide +kernel
theorem dX5_soak_67 : decode cX5_soak 67 = .ok (.iload 5, 2) := by decide +kernel
theorem dX5_soak_69 : decode cX5_soak 69 = .ok (.istore_n 3, 1) := by decide +kernel
theorem dX5_soak_70 : decode cX5_soak 70 = .ok (.iinc 4 1, 3) := by decide +kernel
theorem dX5_soak_73 : decode cX5_soak 73 = .ok (.goto (-68), 3) := by decide +kernel
theorem dX5_soak_76 : decode cX5_soak 76 = .ok (.return_, 1) := by decide +kernel
theorem dX5_cureBy_0 : decode cX5_cureBy 0 = .ok (.aload_n 0, 1) := by decide +kernel
theorem dX5_cureBy_1 : decode cX5_cureBy 1 = .ok (.aload_n 0, 1) := by decide +kernel
theorem dX5_cureBy_2 : decode cX5_cureBy 2 = .ok (.getfield 55, 3) := by decide +kernel
theorem dX5_cureBy_5 : decode cX5_cureBy 5 = .ok (.iload_n 1, 1) := by decide +kernel
theorem dX5_cureBy_6 : decode cX5_cureBy 6 = .ok (.iadd, 1) := by decide +kernel
theorem dX5_cureBy_7 : decode cX5_cureBy 7 = .ok (.sipush 1000, 3) := by decide +kernel
theorem dX5_cureBy_10 : decode cX5_cureBy 10 = .ok (.invokestatic 65, 3) := by decide +kernel
theorem dX5_cureBy_13 : decode cX5_cureBy 13 = .ok (.putfield 55, 3) := by decide +kernel
theorem dX5_cureBy_16 : decode cX5_cureBy 16 = .ok (.return_, 1) := by decide +kernel
theorem dX5_greatestDamp_0 : decode cX5_greatestDamp 0 = .ok (.iconst 0, 1) := by decide +kernel
theorem dX5_greatestDamp_1 : decode cX5_greatestDamp 1 = .ok (.istore_n 1, 1) := by decide +kernel
theorem dX5_greatestDamp_2 : decode cX5_greatestDamp 2 = .ok (.iconst 0, 1) := by decide +kernel
theorem dX5_greatestDamp_3 : decode cX5_greatestDamp 3 = .ok (.istore_n 2, 1) := by decide +kernel
theorem dX5_greatestDamp_4 : decode cX5_greatestDamp 4 = .ok (.iload_n 2, 1) := by decide +kernel
theorem dX5_greatestDamp_5 : decode cX5_greatestDamp 5 = .ok (.bipush 10, 2) := by decide +kernel
theorem dX5_greatestDamp_7 : decode cX5_greatestDamp 7 = .ok (.if_icmp .ge 20, 3) := by decide +kernel
theorem dX5_greatestDamp_10 : decode cX5_greatestDamp 10 = .ok (.iload_n 1, 1) := by decide +kernel
theorem dX5_greatestDamp_11 : decode cX5_greatestDamp 11 = .ok (.aload_n 0, 1) := by decide +kernel
theorem dX5_greatestDamp_12 : decode cX5_greatestDamp 12 = .ok (.getfield 27, 3) := by decide +kernel
theorem dX5_greatestDamp_15 : decode cX5_greatestDamp 15 = .ok (.iload_n 2, 1) := by decide +kernel
theorem dX5_greatestDamp_16 : decode cX5_greatestDamp 16 = .ok (.iaload, 1) := by decide +kernel
theorem dX5_greatestDamp_17 : decode cX5_greatestDamp 17 = .ok (.invokestatic 71, 3) := by decide +kernel
theorem dX5_greatestDamp_20 : decode cX5_greatestDamp 20 = .ok (.istore_n 1, 1) := by decide +kernel
theorem dX5_greatestDamp_21 : decode cX5_greatestDamp 21 = .ok (.iinc 2 1, 3) := by decide +kernel
theorem dX5_greatestDamp_24 : decode cX5_greatestDamp 24 = .ok (.goto (-20), 3) := by decide +kernel
theorem dX5_greatestDamp_27 : decode cX5_greatestDamp 27 = .ok (.iload_n 1, 1) := by decide +kernel
theorem dX5_greatestDamp_28 : decode cX5_greatestDamp 28 = .ok (.ireturn, 1) := by decide +kernel
