set_option maxRecDepth 20000 in
theorem ggX4_init_J7_fill_53178 : GoodIn wsX4_init wsJ7_fill_53178 := goodIn_r _ [13] (by decide +kernel) (by decide +kernel)
set_option maxRecDepth 20000 in
theorem gX4_init_J7_fill_53178 : GoodIn wsX4_init (va_wsS RX4 27 yJ7_fill_53178 wsJ7_fill_53178) := goodIn_app (goodIn_of _ (by decide +kernel)) ggX4_init_J7_fill_53178
theorem dX4_init_0 : decode cX4_init 0 = .ok (.aload_n 0, 1) := by decide +kernel
theorem dX4_init_1 : decode cX4_init 1 = .ok (.invokespecial 3, 3) := by decide +kernel
theorem dX4_init_4 : decode cX4_init 4 = .ok (.aload_n 0, 1) := by decide +kernel
theorem dX4_init_5 : decode cX4_init 5 = .ok (.bipush 10, 2) := by decide +kernel
theorem dX4_init_7 : decode cX4_init 7 = .ok (.newarray .int, 2) := by decide +kernel
theorem dX4_init_9 : decode cX4_init 9 = .ok (.putfield 11, 3) := by decide +kernel
theorem dX4_init_12 : decode cX4_init 12 = .ok (.aload_n 0, 1) := by decide +kernel
theorem dX4_init_13 : decode cX4_init 13 = .ok (.bipush 10, 2) := by decide +kernel
theorem dX4_init_15 : decode cX4_init 15 = .ok (.newarray .int, 2) := by decide +kernel
theorem dX4_init_17 : decode cX4_init 17 = .ok (.putfield 15, 3) := by decide +kernel
theorem dX4_init_20 : decode cX4_init 20 = .ok (.aload_n 0, 1) := by decide +kernel
theorem dX4_init_21 : decode cX4_init 21 = .ok (.bipush 16, 2) := by decide +kernel
theorem dX4_init_23 : decode cX4_init 23 = .ok (.newarray .int, 2) := by decide +kernel
theorem dX4_init_25 : decode cX4_init 25 = .ok (.putfield 18, 3) := by decide +kernel
theorem dX4_init_28 : decode cX4_init 28 = .ok (.aload_n 0, 1) := by decide +kernel
theorem dX4_init_29 : decode cX4_init 29 = .ok (.iconst 4, 1) := by decide +kernel
theorem dX4_init_30 : decode cX4_init 30 = .ok (.newarray .int, 2) := by decide +kernel
theorem dX4_init_32 : decode cX4_init 32 = .ok (.putfield 21, 3) := by decide +kernel
theorem dX4_init_35 : decode cX4_init 35 = .ok (.aload_n 0, 1) := by decide +kernel
theorem dX4_init_36 : decode cX4_init 36 = .ok (.iconst 4, 1) := by decide +kernel
theorem dX4_init_37 : decode cX4_init 37 = .ok (.newarray .int, 2) := by decide +kernel
theorem dX4_init_39 : decode cX4_init 39 = .ok (.putfield 24, 3) := by decide +kernel
theorem dX4_init_42 : decode cX4_init 42 = .ok (.aload_n 0, 1) := by decide +kernel
theorem dX4_init_43 : decode cX4_init 43 = .ok (.getfield 11, 3) := by decide +kernel
theorem dX4_init_46 : decode cX4_init 46 = .ok (.iconst (-1), 1) := by decide +kernel
theorem dX4_init_47 : decode cX4_init 47 = .ok (.invokestatic 27, 3) := by decide +kernel
theorem dX4_init_50 : decode cX4_init 50 = .ok (.return_, 1) := by decide +kernel
set_option maxRecDepth 20000 in
theorem ggX4_gapsThatFit_X9_within : GoodIn wsX4_gapsThatFit wsX9_within := goodIn_r _ [5] (by decide +kernel) (by decide +kernel)
set_option maxRecDepth 20000 in
theorem gX4_gapsThatFit_X9_within_n33 : GoodIn wsX4_gapsThatFit (wsX9_within) := ggX4_gapsThatFit_X9_within
set_option maxRecDepth 20000 in
theorem ggX4_gapsThatFit_X4_soundAt : GoodIn wsX4_gapsThatFit wsX4_soundAt := goodIn_r _ [10, 11, 3, 4, 5, 12, 13, 14, 15, 16] (by decide +kernel) (by decide +kernel)
set_option maxRecDepth 20000 in
theorem gX4_gapsThatFit_X4_soundAt : GoodIn wsX4_gapsThatFit (wsV RX4 37 RX4 yX4_soundAt wsX4_soundAt) := goodIn_app (goodIn_of _ (by decide +kernel)) ggX4_gapsThatFit_X4_soundAt
theorem dX4_gapsThatFit_0 : decode cX4_gapsThatFit 0 = .ok (.iload_n 1, 1) := by decide +kernel
theorem dX4_gapsThatFit_1 : decode cX4_gapsThatFit 1 = .ok (.iconst 0, 1) := by decide +kernel
theorem dX4_gapsThatFit_2 : decode cX4_gapsThatFit 2 = .ok (.bipush 9, 2) := by decide +kernel
theorem dX4_gapsThatFit_4 : decode cX4_gapsThatFit 4 = .ok (.invokestatic 33, 3) := by decide +kernel
theorem dX4_gapsThatFit_7 : decode cX4_gapsThatFit 7 = .ok (.ifCond .ne 5, 3) := by decide +kernel
theorem dX4_gapsThatFit_10 : decode cX4_gapsThatFit 10 = .ok (.iconst 0, 1) := by decide +kernel
theorem dX4_gapsThatFit_11 : decode cX4_gapsThatFit 11 = .ok (.ireturn, 1) := by decide +kernel
theorem dX4_gapsThatFit_12 : decode cX4_gapsThatFit 12 = .ok (.aload_n 0, 1) := by decide +kernel
theorem dX4_gapsThatFit_13 : decode cX4_gapsThatFit 13 = .ok (.getfield 11, 3) := by decide +kernel
theorem dX4_gapsThatFit_16 : decode cX4_gapsThatFit 16 = .ok (.iload_n 1, 1) := by decide +kernel
theorem dX4_gapsThatFit_17 : decode cX4_gapsThatFit 17 = .ok (.iaload, 1) := by decide +kernel
theorem dX4_gapsThatFit_18 : decode cX4_gapsThatFit 18 = .ok (.istore_n 2, 1) := by decide +kernel
theorem dX4_gapsThatFit_19 : decode cX4_gapsThatFit 19 = .ok (.iconst 0, 1) := by decide +kernel
theorem dX4_gapsThatFit_20 : decode cX4_gapsThatFit 20 = .ok (.istore_n 3, 1) := by decide +kernel
theorem dX4_gapsThatFit_21 : decode cX4_gapsThatFit 21 = .ok (.iconst 0, 1) := by decide +kernel
theorem dX4_gapsThatFit_22 : decode cX4_gapsThatFit 22 = .ok (.istore 4, 2) := by decide +kernel
theorem dX4_gapsThatFit_24 : decode cX4_gapsThatFit 24 = .ok (.iload 4, 2) := by decide +kernel
theorem dX4_gapsThatFit_26 : decode cX4_gapsThatFit 26 = .ok (.iconst 4, 1) := by decide +kernel
theorem dX4_gapsThatFit_27 : decode cX4_gapsThatFit 27 = .ok (.if_icmp .ge 37, 3) := by decide +kernel
theorem dX4_gapsThatFit_30 : decode cX4_gapsThatFit 30 = .ok (.iload_n 2, 1) := by decide +kernel
theorem dX4_gapsThatFit_31 : decode cX4_gapsThatFit 31 = .ok (.iconst (-1), 1) := by decide +kernel
theorem dX4_gapsThatFit_32 : decode cX4_gapsThatFit 32 = .ok (.if_icmp .eq 19, 3) := by decide +kernel
theorem dX4_gapsThatFit_35 : decode cX4_gapsThatFit 35 = .ok (.aload_n 0, 1) := by decide +kernel
theorem dX4_gapsThatFit_36 : decode cX4_gapsThatFit 36 = .ok (.aload_n 0, 1) := by decide +kernel
theorem dX4_gapsThatFit_37 : decode cX4_gapsThatFit 37 = .ok (.getfield 15, 3) := by decide +kernel
theorem dX4_gapsThatFit_40 : decode cX4_gapsThatFit 40 = .ok (.iload_n 1, 1) := by decide +kernel
theorem dX4_gapsThatFit_41 : decode cX4_gapsThatFit 41 = .ok (.iaload, 1) := by decide +kernel
theorem dX4_gapsThatFit_42 : decode cX4_gapsThatFit 42 = .ok (.iload 4, 2) := by decide +kernel
theorem dX4_gapsThatFit_44 : decode cX4_gapsThatFit 44 = .ok (.invokevirtual 37, 3) := by decide +kernel
theorem dX4_gapsThatFit_47 : decode cX4_gapsThatFit 47 = .ok (.iload_n 2, 1) := by decide +kernel
theorem dX4_gapsThatFit_48 : decode cX4_gapsThatFit 48 = .ok (.if_icmp .ne 10, 3) := by decide +kernel
theorem dX4_gapsThatFit_51 : decode cX4_gapsThatFit 51 = .ok (.iload_n 3, 1) := by decide +kernel
theorem dX4_gapsThatFit_52 : decode cX4_gapsThatFit 52 = .ok (.iconst 1, 1) := by decide +kernel
theorem dX4_gapsThatFit_53 : decode cX4_gapsThatFit 53 = .ok (.iload 4, 2) := by decide +kernel
theorem dX4_gapsThatFit_55 : decode cX4_gapsThatFit 55 = .ok (.ishl, 1) := by decide +kernel
theorem dX4_gapsThatFit_56 : decode cX4_gapsThatFit 56 = .ok (.ior, 1) := by decide +kernel
theorem dX4_gapsThatFit_57 : decode cX4_gapsThatFit 57 = .ok (.istore_n 3, 1) := by decide +kernel
theorem dX4_gapsThatFit_58 : decode cX4_gapsThatFit 58 = .ok (.iinc 4 1, 3) := by decide +kernel
theorem dX4_gapsThatFit_61 : decode cX4_gapsThatFit 61 = .ok (.goto (-37), 3) := by decide +kernel
theorem dX4_gapsThatFit_64 : decode cX4_gapsThatFit 64 = .ok (.iload_n 3, 1) := by decide +kernel
theorem dX4_gapsThatFit_65 : decode cX4_gapsThatFit 65 = .ok (.ireturn, 1) := by decide +kernel
set_option maxRecDepth 20000 in
theorem ggX4_rowsThatFit_X4_gapsThatFit : GoodIn wsX4_rowsThatFit wsX4_gapsThatFit := goodIn_r _ [6, 7, 8, 9, 10, 11, 12, 13, 14, 5, 15, 16, 30, 31, 32, 33, 34] (by decide +kernel) (by decide +kernel)
set_option maxRecDepth 20000 in
theorem gX4_rowsThatFit_X4_gapsThatFit : GoodIn wsX4_rowsThatFit (wsV RX4 41 RX4 yX4_gapsThatFit wsX4_gapsThatFit) := goodIn_app (goodIn_of _ (by decide +kernel)) ggX4_rowsThatFit_X4_gapsThatFit
set_option maxRecDepth 20000 in
theorem ggX4_rowsThatFit_X4_goOnTo : GoodIn wsX4_rowsThatFit wsX4_goOnTo := goodIn_r _ [20, 21, 22, 23, 24, 25, 1, 26, 27, 28, 29, 30, 31, 32, 33, 34] (by decide +kernel) (by decide +kernel)
set_option maxRecDepth 20000 in
theorem gX4_rowsThatFit_X4_goOnTo : GoodIn wsX4_rowsThatFit (wsV RX4 45 RX4 yX4_goOnTo wsX4_goOnTo) := goodIn_app (goodIn_of _ (by decide +kernel)) ggX4_rowsThatFit_X4_goOnTo
theorem dX4_rowsThatFit_0 : decode cX4_rowsThatFit 0 = .ok (.iconst 0, 1) := by decide +kernel
theorem dX4_rowsThatFit_1 : decode cX4_rowsThatFit 1 = .ok (.istore_n 2, 1) := by decide +kernel
theorem dX4_rowsThatFit_2 : decode cX4_rowsThatFit 2 = .ok (.iload_n 2, 1) := by decide +kernel
theorem dX4_rowsThatFit_3 : decode cX4_rowsThatFit 3 = .ok (.iconst 4, 1) := by decide +kernel
theorem dX4_rowsThatFit_4 : decode cX4_rowsThatFit 4 = .ok (.if_icmp .ge 24, 3) := by decide +kernel
theorem dX4_rowsThatFit_7 : decode cX4_rowsThatFit 7 = .ok (.aload_n 0, 1) := by decide +kernel
theorem dX4_rowsThatFit_8 : decode cX4_rowsThatFit 8 = .ok (.getfield 21, 3) := by decide +kernel
theorem dX4_rowsThatFit_11 : decode cX4_rowsThatFit 11 = .ok (.iload_n 2, 1) := by decide +kernel
theorem dX4_rowsThatFit_12 : decode cX4_rowsThatFit 12 = .ok (.aload_n 0, 1) := by decide +kernel
theorem dX4_rowsThatFit_13 : decode cX4_rowsThatFit 13 = .ok (.iconst 0, 1) := by decide +kernel
theorem dX4_rowsThatFit_14 : decode cX4_rowsThatFit 14 = .ok (.invokevirtual 41, 3) := by decide +kernel
theorem dX4_rowsThatFit_17 : decode cX4_rowsThatFit 17 = .ok (.iload_n 2, 1) := by decide +kernel
theorem dX4_rowsThatFit_18 : decode cX4_rowsThatFit 18 = .ok (.ishr, 1) := by decide +kernel
theorem dX4_rowsThatFit_19 : decode cX4_rowsThatFit 19 = .ok (.iconst 1, 1) := by decide +kernel
theorem dX4_rowsThatFit_20 : decode cX4_rowsThatFit 20 = .ok (.iand, 1) := by decide +kernel
theorem dX4_rowsThatFit_21 : decode cX4_rowsThatFit 21 = .ok (.iastore, 1) := by decide +kernel
theorem dX4_rowsThatFit_22 : decode cX4_rowsThatFit 22 = .ok (.iinc 2 1, 3) := by decide +kernel
theorem dX4_rowsThatFit_25 : decode cX4_rowsThatFit 25 = .ok (.goto (-23), 3) := by decide +kernel
theorem dX4_rowsThatFit_28 : decode cX4_rowsThatFit 28 = .ok (.iconst 1, 1) := by decide +kernel
theorem dX4_rowsThatFit_29 : decode cX4_rowsThatFit 29 = .ok (.istore_n 2, 1) := by decide +kernel
theorem dX4_rowsThatFit_30 : decode cX4_rowsThatFit 30 = .ok (.iload_n 2, 1) := by decide +kernel
theorem dX4_rowsThatFit_31 : decode cX4_rowsThatFit 31 = .ok (.bipush 10, 2) := by decide +kernel
theorem dX4_rowsThatFit_33 : decode cX4_rowsThatFit 33 = .ok (.if_icmp .ge 19, 3) := by decide +kernel
theorem dX4_rowsThatFit_36 : decode cX4_rowsThatFit 36 = .ok (.aload_n 0, 1) := by decide +kernel
theorem dX4_rowsThatFit_37 : decode cX4_rowsThatFit 37 = .ok (.aload_n 0, 1) := by decide +kernel
theorem dX4_rowsThatFit_38 : decode cX4_rowsThatFit 38 = .ok (.iload_n 2, 1) := by decide +kernel
theorem dX4_rowsThatFit_39 : decode cX4_rowsThatFit 39 = .ok (.invokevirtual 41, 3) := by decide +kernel
theorem dX4_rowsThatFit_42 : decode cX4_rowsThatFit 42 = .ok (.iload_n 1, 1) := by decide +kernel
theorem dX4_rowsThatFit_43 : decode cX4_rowsThatFit 43 = .ok (.invokevirtual 45, 3) := by decide +kernel
theorem dX4_rowsThatFit_46 : decode cX4_rowsThatFit 46 = .ok (.iinc 2 1, 3) := by decide +kernel
theorem dX4_rowsThatFit_49 : decode cX4_rowsThatFit 49 = .ok (.goto (-19), 3) := by decide +kernel
theorem dX4_rowsThatFit_52 : decode cX4_rowsThatFit 52 = .ok (.iconst 0, 1) := by decide +kernel
theorem dX4_rowsThatFit_53 : decode cX4_rowsThatFit 53 = .ok (.istore_n 2, 1) := by decide +kernel
theorem dX4_rowsThatFit_54 : decode cX4_rowsThatFit 54 = .ok (.iconst 0, 1) := by decide +kernel
theorem dX4_rowsThatFit_55 : decode cX4_rowsThatFit 55 = .ok (.istore_n 3, 1) := by decide +kernel
theorem dX4_rowsThatFit_56 : decode cX4_rowsThatFit 56 = .ok (.iload_n 3, 1) := by decide +kernel
theorem dX4_rowsThatFit_57 : decode cX4_rowsThatFit 57 = .ok (.iconst 4, 1) := by decide +kernel
theorem dX4_rowsThatFit_58 : decode cX4_rowsThatFit 58 = .ok (.if_icmp .ge 18, 3) := by decide +kernel
theorem dX4_rowsThatFit_61 : decode cX4_rowsThatFit 61 = .ok (.iload_n 2, 1) := by decide +kernel
theorem dX4_rowsThatFit_62 : decode cX4_rowsThatFit 62 = .ok (.aload_n 0, 1) := by decide +kernel
theorem dX4_rowsThatFit_63 : decode cX4_rowsThatFit 63 = .ok (.getfield 21, 3) := by decide +kernel
theorem dX4_rowsThatFit_66 : decode cX4_rowsThatFit 66 = .ok (.iload_n 3, 1) := by decide +kernel
theorem dX4_rowsThatFit_67 : decode cX4_rowsThatFit 67 = .ok (.iaload, 1) := by decide +kernel
theorem dX4_rowsThatFit_68 : decode cX4_rowsThatFit 68 = .ok (.iadd, 1) := by decide +kernel
theorem dX4_rowsThatFit_69 : decode cX4_rowsThatFit 69 = .ok (.istore_n 2, 1) := by decide +kernel
theorem dX4_rowsThatFit_70 : decode cX4_rowsThatFit 70 = .ok (.iinc 3 1, 3) := by decide +kernel
theorem dX4_rowsThatFit_73 : decode cX4_rowsThatFit 73 = .ok (.goto (-17), 3) := by decide +kernel
theorem dX4_rowsThatFit_76 : decode cX4_rowsThatFit 76 = .ok (.iload_n 2, 1) := by decide +kernel
theorem dX4_rowsThatFit_77 : decode cX4_rowsThatFit 77 = .ok (.ireturn, 1) := by decide +kernel
set_option maxRecDepth 20000 in
theorem ggX4_onlyGap_X4_gapsInRows : GoodIn wsX4_onlyGap wsX4_gapsInRows := goodIn_r _ [5, 6, 7, 8, 4, 9, 10, 11, 12, 13, 14, 15, 16, 17, 18, 19, 20, 21, 22, 34, 35, 36, 37, 38] (by decide +kernel) (by decide +kernel)
set_option maxRecDepth 20000 in
theorem gX4_onlyGap_X4_gapsInRows : GoodIn wsX4_onlyGap (wsV RX4 49 RX4 yX4_gapsInRows wsX4_gapsInRows) := goodIn_app (goodIn_of _ (by decide +kernel)) ggX4_onlyGap_X4_gapsInRows
set_option maxRecDepth 20000 in
theorem ggX4_onlyGap_J6_bitCount_0f7a4 : GoodIn wsX4_onlyGap wsJ6_bitCount_0f7a4 := goodIn_r _ [26, 27, 28, 29] (by decide +kernel) (by decide +kernel)
set_option maxRecDepth 20000 in
theorem gX4_onlyGap_J6_bitCount_0f7a4 : GoodIn wsX4_onlyGap (va_wsS RX4 52 yJ6_bitCount_0f7a4 wsJ6_bitCount_0f7a4) := goodIn_app (goodIn_of _ (by decide +kernel)) ggX4_onlyGap_J6_bitCount_0f7a4
set_option maxRecDepth 20000 in
theorem ggX4_onlyGap_J6_numberOfTrailingZeros_0f7a4 : GoodIn wsX4_onlyGap wsJ6_numberOfTrailingZeros_0f7a4 := goodIn_r _ [32, 33] (by decide +kernel) (by decide +kernel)
set_option maxRecDepth 20000 in
theorem gX4_onlyGap_J6_numberOfTrailingZeros_0f7a4 : GoodIn wsX4_onlyGap (va_wsS RX4 57 yJ6_numberOfTrailingZeros_0f7a4 wsJ6_numberOfTrailingZeros_0f7a4) := goodIn_app (goodIn_of _ (by decide +kernel)) ggX4_onlyGap_J6_numberOfTrailingZeros_0f7a4
theorem dX4_onlyGap_0 : decode cX4_onlyGap 0 = .ok (.aload_n 0, 1) := by decide +kernel
theorem dX4_onlyGap_1 : decode cX4_onlyGap 1 = .ok (.iload_n 1, 1) := by decide +kernel
theorem dX4_onlyGap_2 : decode cX4_onlyGap 2 = .ok (.iload_n 2, 1) := by decide +kernel
theorem dX4_onlyGap_3 : decode cX4_onlyGap 3 = .ok (.invokevirtual 49, 3) := by decide +kernel
theorem dX4_onlyGap_6 : decode cX4_onlyGap 6 = .ok (.istore_n 3, 1) := by decide +kernel
theorem dX4_onlyGap_7 : decode cX4_onlyGap 7 = .ok (.iload_n 3, 1) := by decide +kernel
theorem dX4_onlyGap_8 : decode cX4_onlyGap 8 = .ok (.invokestatic 52, 3) := by decide +kernel
theorem dX4_onlyGap_11 : decode cX4_onlyGap 11 = .ok (.iconst 1, 1) := by decide +kernel
theorem dX4_onlyGap_12 : decode cX4_onlyGap 12 = .ok (.if_icmp .ne 10, 3) := by decide +kernel
theorem dX4_onlyGap_15 : decode cX4_onlyGap 15 = .ok (.iload_n 3, 1) := by decide +kernel
theorem dX4_onlyGap_16 : decode cX4_onlyGap 16 = .ok (.invokestatic 57, 3) := by decide +kernel
theorem dX4_onlyGap_19 : decode cX4_onlyGap 19 = .ok (.goto 5, 3) := by decide +kernel
theorem dX4_onlyGap_22 : decode cX4_onlyGap 22 = .ok (.bipush (-6), 2) := by decide +kernel
theorem dX4_onlyGap_24 : decode cX4_onlyGap 24 = .ok (.ireturn, 1) := by decide +kernel
set_option maxRecDepth 20000 in
theorem ggX4_pairsAlike_X4_soundAt : GoodIn wsX4_pairsAlike wsX4_soundAt := goodIn_r _ [5, 6, 7, 8, 9, 10, 11, 12, 13, 14] (by decide +kernel) (by decide +kernel)
set_option maxRecDepth 20000 in
theorem gX4_pairsAlike_X4_soundAt : GoodIn wsX4_pairsAlike (wsV RX4 37 RX4 yX4_soundAt wsX4_soundAt) := goodIn_app (goodIn_of _ (by decide +kernel)) ggX4_pairsAlike_X4_soundAt
theorem dX4_pairsAlike_0 : decode cX4_pairsAlike 0 = .ok (.iconst 0, 1) := by decide +kernel
theorem dX4_pairsAlike_1 : decode cX4_pairsAlike 1 = .ok (.istore_n 2, 1) := by decide +kernel
theorem dX4_pairsAlike_2 : decode cX4_pairsAlike 2 = .ok (.iconst 0, 1) := by decide +kernel
theorem dX4_pairsAlike_3 : decode cX4_pairsAlike 3 = .ok (.istore_n 3, 1) := by decide +kernel
theorem dX4_pairsAlike_4 : decode cX4_pairsAlike 4 = .ok (.iload_n 3, 1) := by decide +kernel
theorem dX4_pairsAlike_5 : decode cX4_pairsAlike 5 = .ok (.iconst 4, 1) := by decide +kernel
theorem dX4_pairsAlike_6 : decode cX4_pairsAlike 6 = .ok (.if_icmp .ge 45, 3) := by decide +kernel
theorem dX4_pairsAlike_9 : decode cX4_pairsAlike 9 = .ok (.iload_n 3, 1) := by decide +kernel
theorem dX4_pairsAlike_10 : decode cX4_pairsAlike 10 = .ok (.iconst 1, 1) := by decide +kernel
theorem dX4_pairsAlike_11 : decode cX4_pairsAlike 11 = .ok (.iadd, 1) := by decide +kernel
theorem dX4_pairsAlike_12 : decode cX4_pairsAlike 12 = .ok (.istore 4, 2) := by decide +kernel
theorem dX4_pairsAlike_14 : decode cX4_pairsAlike 14 = .ok (.iload 4, 2) := by decide +kernel
theorem dX4_pairsAlike_16 : decode cX4_pairsAlike 16 = .ok (.iconst 4, 1) := by decide +kernel
theorem dX4_pairsAlike_17 : decode cX4_pairsAlike 17 = .ok (.if_icmp .ge 28, 3) := by decide +kernel
theorem dX4_pairsAlike_20 : decode cX4_pairsAlike 20 = .ok (.aload_n 0, 1) := by decide +kernel
theorem dX4_pairsAlike_21 : decode cX4_pairsAlike 21 = .ok (.iload_n 1, 1) := by decide +kernel
theorem dX4_pairsAlike_22 : decode cX4_pairsAlike 22 = .ok (.iload_n 3, 1) := by decide +kernel
theorem dX4_pairsAlike_23 : decode cX4_pairsAlike 23 = .ok (.invokevirtual 37, 3) := by decide +kernel
theorem dX4_pairsAlike_26 : decode cX4_pairsAlike 26 = .ok (.aload_n 0, 1) := by decide +kernel
theorem dX4_pairsAlike_27 : decode cX4_pairsAlike 27 = .ok (.iload_n 1, 1) := by decide +kernel
theorem dX4_pairsAlike_28 : decode cX4_pairsAlike 28 = .ok (.iload 4, 2) := by decide +kernel
theorem dX4_pairsAlike_30 : decode cX4_pairsAlike 30 = .ok (.invokevirtual 37, 3) := by decide +kernel
theorem dX4_pairsAlike_33 : decode cX4_pairsAlike 33 = .ok (.if_icmp .ne 6, 3) := by decide +kernel
theorem dX4_pairsAlike_36 : decode cX4_pairsAlike 36 = .ok (.iinc 2 1, 3) := by decide +kernel
theorem dX4_pairsAlike_39 : decode cX4_pairsAlike 39 = .ok (.iinc 4 1, 3) := by decide +kernel
theorem dX4_pairsAlike_42 : decode cX4_pairsAlike 42 = .ok (.goto (-28), 3) := by decide +kernel
theorem dX4_pairsAlike_45 : decode cX4_pairsAlike 45 = .ok (.iinc 3 1, 3) := by decide +kernel
theorem dX4_pairsAlike_48 : decode cX4_pairsAlike 48 = .ok (.goto (-44), 3) := by decide +kernel
theorem dX4_pairsAlike_51 : decode cX4_pairsAlike 51 = .ok (.iload_n 2, 1) := by decide +kernel
theorem dX4_pairsAlike_52 : decode cX4_pairsAlike 52 = .ok (.ireturn, 1) := by decide +kernel
set_option maxRecDepth 20000 in
theorem ggX4_gapsInRows_X4_gapsThatFit : GoodIn wsX4_gapsInRows wsX4_gapsThatFit := goodIn_r _ [5, 6, 7, 8, 9, 10, 11, 12, 13, 4, 14, 15, 19, 20, 21, 22, 23] (by decide +kernel) (by decide +kernel)
set_option maxRecDepth 20000 in
theorem gX4_gapsInRows_X4_gapsThatFit : GoodIn wsX4_gapsInRows (wsV RX4 41 RX4 yX4_gapsThatFit wsX4_gapsThatFit) := goodIn_app (goodIn_of _ (by decide +kernel)) ggX4_gapsInRows_X4_gapsThatFit
set_option maxRecDepth 20000 in
theorem ggX4_gapsInRows_X4_near : GoodIn wsX4_gapsInRows wsX4_near := goodIn_r _ [18] (by decide +kernel) (by decide +kernel)
set_option maxRecDepth 20000 in
theorem gX4_gapsInRows_X4_near : GoodIn wsX4_gapsInRows (va_wsS RX4 60 yX4_near wsX4_near) := goodIn_app (goodIn_of _ (by decide +kernel)) ggX4_gapsInRows_X4_near
theorem dX4_gapsInRows_0 : decode cX4_gapsInRows 0 = .ok (.bipush 15, 2) := by decide +kernel
theorem dX4_gapsInRows_2 : decode cX4_gapsInRows 2 = .ok (.istore_n 3, 1) := by decide +kernel
theorem dX4_gapsInRows_3 : decode cX4_gapsInRows 3 = .ok (.iconst 0, 1) := by decide +kernel
theorem dX4_gapsInRows_4 : decode cX4_gapsInRows 4 = .ok (.istore 4, 2) := by decide +kernel
theorem dX4_gapsInRows_6 : decode cX4_gapsInRows 6 = .ok (.iload 4, 2) := by decide +kernel
theorem dX4_gapsInRows_8 : decode cX4_gapsInRows 8 = .ok (.iload_n 1, 1) := by decide +kernel
theorem dX4_gapsInRows_9 : decode cX4_gapsInRows 9 = .ok (.if_icmp .ge 29, 3) := by decide +kernel
theorem dX4_gapsInRows_12 : decode cX4_gapsInRows 12 = .ok (.iload 4, 2) := by decide +kernel
theorem dX4_gapsInRows_14 : decode cX4_gapsInRows 14 = .ok (.bipush 10, 2) := by decide +kernel
theorem dX4_gapsInRows_16 : decode cX4_gapsInRows 16 = .ok (.if_icmp .ge 22, 3) := by decide +kernel
theorem dX4_gapsInRows_19 : decode cX4_gapsInRows 19 = .ok (.iload_n 3, 1) := by decide +kernel
theorem dX4_gapsInRows_20 : decode cX4_gapsInRows 20 = .ok (.aload_n 0, 1) := by decide +kernel
theorem dX4_gapsInRows_21 : decode cX4_gapsInRows 21 = .ok (.iload 4, 2) := by decide +kernel
theorem dX4_gapsInRows_23 : decode cX4_gapsInRows 23 = .ok (.invokevirtual 41, 3) := by decide +kernel
theorem dX4_gapsInRows_26 : decode cX4_gapsInRows 26 = .ok (.iand, 1) := by decide +kernel
theorem dX4_gapsInRows_27 : decode cX4_gapsInRows 27 = .ok (.iload_n 2, 1) := by decide +kernel
theorem dX4_gapsInRows_28 : decode cX4_gapsInRows 28 = .ok (.invokestatic 60, 3) := by decide +kernel
theorem dX4_gapsInRows_31 : decode cX4_gapsInRows 31 = .ok (.istore_n 3, 1) := by decide +kernel
theorem dX4_gapsInRows_32 : decode cX4_gapsInRows 32 = .ok (.iinc 4 1, 3) := by decide +kernel
theorem dX4_gapsInRows_35 : decode cX4_gapsInRows 35 = .ok (.goto (-29), 3) := by decide +kernel
theorem dX4_gapsInRows_38 : decode cX4_gapsInRows 38 = .ok (.bipush 15, 2) := by decide +kernel
theorem dX4_gapsInRows_40 : decode cX4_gapsInRows 40 = .ok (.istore 4, 2) := by decide +kernel
theorem dX4_gapsInRows_42 : decode cX4_gapsInRows 42 = .ok (.bipush 9, 2) := by decide +kernel
theorem dX4_gapsInRows_44 : decode cX4_gapsInRows 44 = .ok (.istore 5, 2) := by decide +kernel
theorem dX4_gapsInRows_46 : decode cX4_gapsInRows 46 = .ok (.iload 5, 2) := by decide +kernel
theorem dX4_gapsInRows_48 : decode cX4_gapsInRows 48 = .ok (.iload_n 1, 1) := by decide +kernel
theorem dX4_gapsInRows_49 : decode cX4_gapsInRows 49 = .ok (.if_icmp .le 29, 3) := by decide +kernel
theorem dX4_gapsInRows_52 : decode cX4_gapsInRows 52 = .ok (.iload 5, 2) := by decide +kernel
theorem dX4_gapsInRows_54 : decode cX4_gapsInRows 54 = .ok (.ifCond .lt 24, 3) := by decide +kernel
theorem dX4_gapsInRows_57 : decode cX4_gapsInRows 57 = .ok (.iload 4, 2) := by decide +kernel
theorem dX4_gapsInRows_59 : decode cX4_gapsInRows 59 = .ok (.aload_n 0, 1) := by decide +kernel
theorem dX4_gapsInRows_60 : decode cX4_gapsInRows 60 = .ok (.iload 5, 2) := by decide +kernel
theorem dX4_gapsInRows_62 : decode cX4_gapsInRows 62 = .ok (.invokevirtual 41, 3) := by decide +kernel
theorem dX4_gapsInRows_65 : decode cX4_gapsInRows 65 = .ok (.iand, 1) := by decide +kernel
theorem dX4_gapsInRows_66 : decode cX4_gapsInRows 66 = .ok (.iload_n 2, 1) := by decide +kernel
theorem dX4_gapsInRows_67 : decode cX4_gapsInRows 67 = .ok (.invokestatic 60, 3) := by decide +kernel
theorem dX4_gapsInRows_70 : decode cX4_gapsInRows 70 = .ok (.istore 4, 2) := by decide +kernel
theorem dX4_gapsInRows_72 : decode cX4_gapsInRows 72 = .ok (.iinc 5 (-1), 3) := by decide +kernel
theorem dX4_gapsInRows_75 : decode cX4_gapsInRows 75 = .ok (.goto (-29), 3) := by decide +kernel
theorem dX4_gapsInRows_78 : decode cX4_gapsInRows 78 = .ok (.iload_n 3, 1) := by decide +kernel
theorem dX4_gapsInRows_79 : decode cX4_gapsInRows 79 = .ok (.iload 4, 2) := by decide +kernel
theorem dX4_gapsInRows_81 : decode cX4_gapsInRows 81 = .ok (.iand, 1) := by decide +kernel
theorem dX4_gapsInRows_82 : decode cX4_gapsInRows 82 = .ok (.aload_n 0, 1) := by decide +kernel
theorem dX4_gapsInRows_83 : decode cX4_gapsInRows 83 = .ok (.iload_n 1, 1) := by decide +kernel
theorem dX4_gapsInRows_84 : decode cX4_gapsInRows 84 = .ok (.invokevirtual 41, 3) := by decide +kernel
theorem dX4_gapsInRows_87 : decode cX4_gapsInRows 87 = .ok (.iand, 1) := by decide +kernel
theorem dX4_gapsInRows_88 : decode cX4_gapsInRows 88 = .ok (.ireturn, 1) := by decide +kernel
theorem dX4_near_0 : decode cX4_near 0 = .ok (.iload_n 0, 1) := by decide +kernel
theorem dX4_near_1 : decode cX4_near 1 = .ok (.istore_n 2, 1) := by decide +kernel
theorem dX4_near_2 : decode cX4_near 2 = .ok (.iconst 1, 1) := by decide +kernel
theorem dX4_near_3 : decode cX4_near 3 = .ok (.istore_n 3, 1) := by decide +kernel
theorem dX4_near_4 : decode cX4_near 4 = .ok (.iload_n 3, 1) := by decide +kernel
theorem dX4_near_5 : decode cX4_near 5 = .ok (.iload_n 1, 1) := by decide +kernel
theorem dX4_near_6 : decode cX4_near 6 = .ok (.if_icmp .gt 24, 3) := by decide +kernel
theorem dX4_near_9 : decode cX4_near 9 = .ok (.iload_n 3, 1) := by decide +kernel
theorem dX4_near_10 : decode cX4_near 10 = .ok (.iconst 4, 1) := by decide +kernel
theorem dX4_near_11 : decode cX4_near 11 = .ok (.if_icmp .ge 19, 3) := by decide +kernel
theorem dX4_near_14 : decode cX4_near 14 = .ok (.iload_n 2, 1) := by decide +kernel
theorem dX4_near_15 : decode cX4_near 15 = .ok (.iload_n 0, 1) := by decide +kernel
theorem dX4_near_16 : decode cX4_near 16 = .ok (.iload_n 3, 1) := by decide +kernel
theorem dX4_near_17 : decode cX4_near 17 = .ok (.ishl, 1) := by decide +kernel
theorem dX4_near_18 : decode cX4_near 18 = .ok (.iload_n 0, 1) := by decide +kernel
theorem dX4_near_19 : decode cX4_near 19 = .ok (.iload_n 3, 1) := by decide +kernel
theorem dX4_near_20 : decode cX4_near 20 = .ok (.ishr, 1) := by decide +kernel
theorem dX4_near_21 : decode cX4_near 21 = .ok (.ior, 1) := by decide +kernel
theorem dX4_near_22 : decode cX4_near 22 = .ok (.ior, 1) := by decide +kernel
theorem dX4_near_23 : decode cX4_near 23 = .ok (.istore_n 2, 1) := by decide +kernel
theorem dX4_near_24 : decode cX4_near 24 = .ok (.iinc 3 1, 3) := by decide +kernel
theorem dX4_near_27 : decode cX4_near 27 = .ok (.goto (-23), 3) := by decide +kernel
theorem dX4_near_30 : decode cX4_near 30 = .ok (.iload_n 2, 1) := by decide +kernel
theorem dX4_near_31 : decode cX4_near 31 = .ok (.bipush 15, 2) := by decide +kernel
theorem dX4_near_33 : decode cX4_near 33 = .ok (.iand, 1) := by decide +kernel
theorem dX4_near_34 : decode cX4_near 34 = .ok (.ireturn, 1) := by decide +kernel
theorem dX4_goOnTo_0 : decode cX4_goOnTo 0 = .ok (.iconst 0, 1) := by decide +kernel
theorem dX4_goOnTo_1 : decode cX4_goOnTo 1 = .ok (.istore_n 3, 1) := by decide +kernel
theorem dX4_goOnTo_2 : decode cX4_goOnTo 2 = .ok (.iload_n 3, 1) := by decide +kernel
theorem dX4_goOnTo_3 : decode cX4_goOnTo 3 = .ok (.iconst 4, 1) := by decide +kernel
theorem dX4_goOnTo_4 : decode cX4_goOnTo 4 = .ok (.if_icmp .ge 67, 3) := by decide +kernel
theorem dX4_goOnTo_7 : decode cX4_goOnTo 7 = .ok (.aload_n 0, 1) := by decide +kernel
theorem dX4_goOnTo_8 : decode cX4_goOnTo 8 = .ok (.getfield 24, 3) := by decide +kernel
theorem dX4_goOnTo_11 : decode cX4_goOnTo 11 = .ok (.iload_n 3, 1) := by decide +kernel
theorem dX4_goOnTo_12 : decode cX4_goOnTo 12 = .ok (.iconst 0, 1) := by decide +kernel
theorem dX4_goOnTo_13 : decode cX4_goOnTo 13 = .ok (.iastore, 1) := by decide +kernel
theorem dX4_goOnTo_14 : decode cX4_goOnTo 14 = .ok (.iconst 0, 1) := by decide +kernel
theorem dX4_goOnTo_15 : decode cX4_goOnTo 15 = .ok (.istore 4, 2) := by decide +kernel
theorem dX4_goOnTo_17 : decode cX4_goOnTo 17 = .ok (.iload 4, 2) := by decide +kernel
theorem dX4_goOnTo_19 : decode cX4_goOnTo 19 = .ok (.iconst 4, 1) := by decide +kernel
theorem dX4_goOnTo_20 : decode cX4_goOnTo 20 = .ok (.if_icmp .ge 45, 3) := by decide +kernel
theorem dX4_goOnTo_23 : decode cX4_goOnTo 23 = .ok (.iload_n 1, 1) := by decide +kernel
theorem dX4_goOnTo_24 : decode cX4_goOnTo 24 = .ok (.iload_n 3, 1) := by decide +kernel
theorem dX4_goOnTo_25 : decode cX4_goOnTo 25 = .ok (.ishr, 1) := by decide +kernel
theorem dX4_goOnTo_26 : decode cX4_goOnTo 26 = .ok (.iconst 1, 1) := by decide +kernel
theorem dX4_goOnTo_27 : decode cX4_goOnTo 27 = .ok (.iand, 1) := by decide +kernel
theorem dX4_goOnTo_28 : decode cX4_goOnTo 28 = .ok (.iconst 1, 1) := by decide +kernel
theorem dX4_goOnTo_29 : decode cX4_goOnTo 29 = .ok (.if_icmp .ne 30, 3) := by decide +kernel
theorem dX4_goOnTo_32 : decode cX4_goOnTo 32 = .ok (.iload_n 3, 1) := by decide +kernel
theorem dX4_goOnTo_33 : decode cX4_goOnTo 33 = .ok (.iload 4, 2) := by decide +kernel
theorem dX4_goOnTo_35 : decode cX4_goOnTo 35 = .ok (.isub, 1) := by decide +kernel
theorem dX4_goOnTo_36 : decode cX4_goOnTo 36 = .ok (.invokestatic 63, 3) := by decide +kernel
theorem dX4_goOnTo_39 : decode cX4_goOnTo 39 = .ok (.iload_n 2, 1) := by decide +kernel
theorem dX4_goOnTo_40 : decode cX4_goOnTo 40 = .ok (.if_icmp .gt 19, 3) := by decide +kernel
theorem dX4_goOnTo_43 : decode cX4_goOnTo 43 = .ok (.aload_n 0, 1) := by decide +kernel
theorem dX4_goOnTo_44 : decode cX4_goOnTo 44 = .ok (.getfield 24, 3) := by decide +kernel
theorem dX4_goOnTo_47 : decode cX4_goOnTo 47 = .ok (.iload_n 3, 1) := by decide +kernel
theorem dX4_goOnTo_48 : decode cX4_goOnTo 48 = .ok (.dup2, 1) := by decide +kernel
theorem dX4_goOnTo_49 : decode cX4_goOnTo 49 = .ok (.iaload, 1) := by decide +kernel
theorem dX4_goOnTo_50 : decode cX4_goOnTo 50 = .ok (.aload_n 0, 1) := by decide +kernel
theorem dX4_goOnTo_51 : decode cX4_goOnTo 51 = .ok (.getfield 21, 3) := by decide +kernel
theorem dX4_goOnTo_54 : decode cX4_goOnTo 54 = .ok (.iload 4, 2) := by decide +kernel
theorem dX4_goOnTo_56 : decode cX4_goOnTo 56 = .ok (.iaload, 1) := by decide +kernel
theorem dX4_goOnTo_57 : decode cX4_goOnTo 57 = .ok (.iadd, 1) := by decide +kernel
theorem dX4_goOnTo_58 : decode cX4_goOnTo 58 = .ok (.iastore, 1) := by decide +kernel
theorem dX4_goOnTo_59 : decode cX4_goOnTo 59 = .ok (.iinc 4 1, 3) := by decide +kernel
theorem dX4_goOnTo_62 : decode cX4_goOnTo 62 = .ok (.goto (-45), 3) := by decide +kernel
theorem dX4_goOnTo_65 : decode cX4_goOnTo 65 = .ok (.iinc 3 1, 3) := by decide +kernel
theorem dX4_goOnTo_68 : decode cX4_goOnTo 68 = .ok (.goto (-66), 3) := by decide +kernel
theorem dX4_goOnTo_71 : decode cX4_goOnTo 71 = .ok (.aload_n 0, 1) := by decide +kernel
theorem dX4_goOnTo_72 : decode cX4_goOnTo 72 = .ok (.getfield 24, 3) := by decide +kernel
theorem dX4_goOnTo_75 : decode cX4_goOnTo 75 = .ok (.iconst 0, 1) := by decide +kernel
theorem dX4_goOnTo_76 : decode cX4_goOnTo 76 = .ok (.aload_n 0, 1) := by decide +kernel
theorem dX4_goOnTo_77 : decode cX4_goOnTo 77 = .ok (.getfield 21, 3) := by decide +kernel
theorem dX4_goOnTo_80 : decode cX4_goOnTo 80 = .ok (.iconst 0, 1) := by decide +kernel
theorem dX4_goOnTo_81 : decode cX4_goOnTo 81 = .ok (.iconst 4, 1) := by decide +kernel
theorem dX4_goOnTo_82 : decode cX4_goOnTo 82 = .ok (.invokestatic 68, 3) := by decide +kernel
theorem dX4_goOnTo_85 : decode cX4_goOnTo 85 = .ok (.return_, 1) := by decide +kernel
set_option maxRecDepth 20000 in
theorem ggX4_soundAt_X9_within : GoodIn wsX4_soundAt wsX9_within := goodIn_r _ [4] (by decide +kernel) (by decide +kernel)
set_option maxRecDepth 20000 in
theorem gX4_soundAt_X9_within_n33 : GoodIn wsX4_soundAt (wsX9_within) := ggX4_soundAt_X9_within
theorem dX4_soundAt_0 : decode cX4_soundAt 0 = .ok (.iload_n 1, 1) := by decide +kernel
theorem dX4_soundAt_1 : decode cX4_soundAt 1 = .ok (.iconst 4, 1) := by decide +kernel
theorem dX4_soundAt_2 : decode cX4_soundAt 2 = .ok (.imul, 1) := by decide +kernel
theorem dX4_soundAt_3 : decode cX4_soundAt 3 = .ok (.iload_n 2, 1) := by decide +kernel
theorem dX4_soundAt_4 : decode cX4_soundAt 4 = .ok (.iadd, 1) := by decide +kernel
theorem dX4_soundAt_5 : decode cX4_soundAt 5 = .ok (.istore_n 3, 1) := by decide +kernel
theorem dX4_soundAt_6 : decode cX4_soundAt 6 = .ok (.iload_n 3, 1) := by decide +kernel
theorem dX4_soundAt_7 : decode cX4_soundAt 7 = .ok (.iconst 0, 1) := by decide +kernel
theorem dX4_soundAt_8 : decode cX4_soundAt 8 = .ok (.aload_n 0, 1) := by decide +kernel
theorem dX4_soundAt_9 : decode cX4_soundAt 9 = .ok (.getfield 18, 3) := by decide +kernel
theorem dX4_soundAt_12 : decode cX4_soundAt 12 = .ok (.arraylength, 1) := by decide +kernel
theorem dX4_soundAt_13 : decode cX4_soundAt 13 = .ok (.iconst 1, 1) := by decide +kernel
theorem dX4_soundAt_14 : decode cX4_soundAt 14 = .ok (.isub, 1) := by decide +kernel
theorem dX4_soundAt_15 : decode cX4_soundAt 15 = .ok (.invokestatic 33, 3) := by decide +kernel
theorem dX4_soundAt_18 : decode cX4_soundAt 18 = .ok (.ifCond .eq 12, 3) := by decide +kernel
theorem dX4_soundAt_21 : decode cX4_soundAt 21 = .ok (.aload_n 0, 1) := by decide +kernel
theorem dX4_soundAt_22 : decode cX4_soundAt 22 = .ok (.getfield 18, 3) := by decide +kernel
theorem dX4_soundAt_25 : decode cX4_soundAt 25 = .ok (.iload_n 3, 1) := by decide +kernel
theorem dX4_soundAt_26 : decode cX4_soundAt 26 = .ok (.iaload, 1) := by decide +kernel
theorem dX4_soundAt_27 : decode cX4_soundAt 27 = .ok (.goto 4, 3) := by decide +kernel
theorem dX4_soundAt_30 : decode cX4_soundAt 30 = .ok (.iconst (-1), 1) := by decide +kernel
theorem dX4_soundAt_31 : decode cX4_soundAt 31 = .ok (.ireturn, 1) := by decide +kernel
