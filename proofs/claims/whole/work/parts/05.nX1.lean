theorem dX1_init_0 : decode cX1_init 0 = .ok (.aload_n 0, 1) := by decide +kernel
theorem dX1_init_1 : decode cX1_init 1 = .ok (.invokespecial 3, 3) := by decide +kernel
theorem dX1_init_4 : decode cX1_init 4 = .ok (.aload_n 0, 1) := by decide +kernel
theorem dX1_init_5 : decode cX1_init 5 = .ok (.bipush 12, 2) := by decide +kernel
theorem dX1_init_7 : decode cX1_init 7 = .ok (.newarray .int, 2) := by decide +kernel
theorem dX1_init_9 : decode cX1_init 9 = .ok (.putfield 11, 3) := by decide +kernel
theorem dX1_init_12 : decode cX1_init 12 = .ok (.aload_n 0, 1) := by decide +kernel
theorem dX1_init_13 : decode cX1_init 13 = .ok (.bipush 12, 2) := by decide +kernel
theorem dX1_init_15 : decode cX1_init 15 = .ok (.newarray .int, 2) := by decide +kernel
theorem dX1_init_17 : decode cX1_init 17 = .ok (.putfield 15, 3) := by decide +kernel
theorem dX1_init_20 : decode cX1_init 20 = .ok (.aload_n 0, 1) := by decide +kernel
theorem dX1_init_21 : decode cX1_init 21 = .ok (.bipush 12, 2) := by decide +kernel
theorem dX1_init_23 : decode cX1_init 23 = .ok (.newarray .int, 2) := by decide +kernel
theorem dX1_init_25 : decode cX1_init 25 = .ok (.putfield 18, 3) := by decide +kernel
theorem dX1_init_28 : decode cX1_init 28 = .ok (.aload_n 0, 1) := by decide +kernel
theorem dX1_init_29 : decode cX1_init 29 = .ok (.bipush 12, 2) := by decide +kernel
theorem dX1_init_31 : decode cX1_init 31 = .ok (.newarray .int, 2) := by decide +kernel
theorem dX1_init_33 : decode cX1_init 33 = .ok (.putfield 21, 3) := by decide +kernel
theorem dX1_init_36 : decode cX1_init 36 = .ok (.return_, 1) := by decide +kernel
theorem dX1_append_0 : decode cX1_append 0 = .ok (.aload_n 0, 1) := by decide +kernel
theorem dX1_append_1 : decode cX1_append 1 = .ok (.getfield 24, 3) := by decide +kernel
theorem dX1_append_4 : decode cX1_append 4 = .ok (.bipush 12, 2) := by decide +kernel
theorem dX1_append_6 : decode cX1_append 6 = .ok (.if_icmp .lt 6, 3) := by decide +kernel
theorem dX1_append_9 : decode cX1_append 9 = .ok (.bipush (-4), 2) := by decide +kernel
theorem dX1_append_11 : decode cX1_append 11 = .ok (.ireturn, 1) := by decide +kernel
theorem dX1_append_12 : decode cX1_append 12 = .ok (.aload_n 0, 1) := by decide +kernel
theorem dX1_append_13 : decode cX1_append 13 = .ok (.getfield 11, 3) := by decide +kernel
theorem dX1_append_16 : decode cX1_append 16 = .ok (.aload_n 0, 1) := by decide +kernel
theorem dX1_append_17 : decode cX1_append 17 = .ok (.getfield 24, 3) := by decide +kernel
theorem dX1_append_20 : decode cX1_append 20 = .ok (.iload_n 1, 1) := by decide +kernel
theorem dX1_append_21 : decode cX1_append 21 = .ok (.iastore, 1) := by decide +kernel
theorem dX1_append_22 : decode cX1_append 22 = .ok (.aload_n 0, 1) := by decide +kernel
theorem dX1_append_23 : decode cX1_append 23 = .ok (.getfield 15, 3) := by decide +kernel
theorem dX1_append_26 : decode cX1_append 26 = .ok (.aload_n 0, 1) := by decide +kernel
theorem dX1_append_27 : decode cX1_append 27 = .ok (.getfield 24, 3) := by decide +kernel
theorem dX1_append_30 : decode cX1_append 30 = .ok (.iload_n 2, 1) := by decide +kernel
theorem dX1_append_31 : decode cX1_append 31 = .ok (.iastore, 1) := by decide +kernel
theorem dX1_append_32 : decode cX1_append 32 = .ok (.aload_n 0, 1) := by decide +kernel
theorem dX1_append_33 : decode cX1_append 33 = .ok (.getfield 18, 3) := by decide +kernel
theorem dX1_append_36 : decode cX1_append 36 = .ok (.aload_n 0, 1) := by decide +kernel
theorem dX1_append_37 : decode cX1_append 37 = .ok (.getfield 24, 3) := by decide +kernel
theorem dX1_append_40 : decode cX1_append 40 = .ok (.iload_n 3, 1) := by decide +kernel
theorem dX1_append_41 : decode cX1_append 41 = .ok (.iastore, 1) := by decide +kernel
theorem dX1_append_42 : decode cX1_append 42 = .ok (.aload_n 0, 1) := by decide +kernel
theorem dX1_append_43 : decode cX1_append 43 = .ok (.getfield 21, 3) := by decide +kernel
theorem dX1_append_46 : decode cX1_append 46 = .ok (.aload_n 0, 1) := by decide +kernel
theorem dX1_append_47 : decode cX1_append 47 = .ok (.getfield 24, 3) := by decide +kernel
theorem dX1_append_50 : decode cX1_append 50 = .ok (.iload 4, 2) := by decide +kernel
theorem dX1_append_52 : decode cX1_append 52 = .ok (.iastore, 1) := by decide +kernel
theorem dX1_append_53 : decode cX1_append 53 = .ok (.aload_n 0, 1) := by decide +kernel
theorem dX1_append_54 : decode cX1_append 54 = .ok (.dup, 1) := by decide +kernel
theorem dX1_append_55 : decode cX1_append 55 = .ok (.getfield 24, 3) := by decide +kernel
theorem dX1_append_58 : decode cX1_append 58 = .ok (.iconst 1, 1) := by decide +kernel
theorem dX1_append_59 : decode cX1_append 59 = .ok (.iadd, 1) := by decide +kernel
theorem dX1_append_60 : decode cX1_append 60 = .ok (.putfield 24, 3) := by decide +kernel
theorem dX1_append_63 : decode cX1_append 63 = .ok (.aload_n 0, 1) := by decide +kernel
theorem dX1_append_64 : decode cX1_append 64 = .ok (.getfield 24, 3) := by decide +kernel
theorem dX1_append_67 : decode cX1_append 67 = .ok (.iconst 1, 1) := by decide +kernel
theorem dX1_append_68 : decode cX1_append 68 = .ok (.isub, 1) := by decide +kernel
theorem dX1_append_69 : decode cX1_append 69 = .ok (.ireturn, 1) := by decide +kernel
theorem dX1_count_0 : decode cX1_count 0 = .ok (.aload_n 0, 1) := by decide +kernel
theorem dX1_count_1 : decode cX1_count 1 = .ok (.getfield 24, 3) := by decide +kernel
theorem dX1_count_4 : decode cX1_count 4 = .ok (.ireturn, 1) := by decide +kernel
set_option maxRecDepth 20000 in
theorem ggX1_bestFor_X1_warns : GoodIn wsX1_bestFor wsX1_warns := goodIn_r _ [9, 3, 10, 11, 12, 13, 14, 15] (by decide +kernel) (by decide +kernel)
set_option maxRecDepth 20000 in
theorem gX1_bestFor_X1_warns : GoodIn wsX1_bestFor (wsV RX1 28 RX1 yX1_warns wsX1_warns) := goodIn_app (goodIn_of _ (by decide +kernel)) ggX1_bestFor_X1_warns
theorem dX1_bestFor_0 : decode cX1_bestFor 0 = .ok (.bipush (-6), 2) := by decide +kernel
theorem dX1_bestFor_2 : decode cX1_bestFor 2 = .ok (.istore 4, 2) := by decide +kernel
theorem dX1_bestFor_4 : decode cX1_bestFor 4 = .ok (.sipush 1001, 3) := by decide +kernel
theorem dX1_bestFor_7 : decode cX1_bestFor 7 = .ok (.istore 5, 2) := by decide +kernel
theorem dX1_bestFor_9 : decode cX1_bestFor 9 = .ok (.iconst 0, 1) := by decide +kernel
theorem dX1_bestFor_10 : decode cX1_bestFor 10 = .ok (.istore 6, 2) := by decide +kernel
theorem dX1_bestFor_12 : decode cX1_bestFor 12 = .ok (.iload 6, 2) := by decide +kernel
theorem dX1_bestFor_14 : decode cX1_bestFor 14 = .ok (.aload_n 0, 1) := by decide +kernel
theorem dX1_bestFor_15 : decode cX1_bestFor 15 = .ok (.getfield 24, 3) := by decide +kernel
theorem dX1_bestFor_18 : decode cX1_bestFor 18 = .ok (.if_icmp .ge 83, 3) := by decide +kernel
theorem dX1_bestFor_21 : decode cX1_bestFor 21 = .ok (.iload_n 2, 1) := by decide +kernel
theorem dX1_bestFor_22 : decode cX1_bestFor 22 = .ok (.iconst (-1), 1) := by decide +kernel
theorem dX1_bestFor_23 : decode cX1_bestFor 23 = .ok (.if_icmp .eq 14, 3) := by decide +kernel
theorem dX1_bestFor_26 : decode cX1_bestFor 26 = .ok (.aload_n 0, 1) := by decide +kernel
theorem dX1_bestFor_27 : decode cX1_bestFor 27 = .ok (.getfield 11, 3) := by decide +kernel
theorem dX1_bestFor_30 : decode cX1_bestFor 30 = .ok (.iload 6, 2) := by decide +kernel
theorem dX1_bestFor_32 : decode cX1_bestFor 32 = .ok (.iaload, 1) := by decide +kernel
theorem dX1_bestFor_33 : decode cX1_bestFor 33 = .ok (.iload_n 2, 1) := by decide +kernel
theorem dX1_bestFor_34 : decode cX1_bestFor 34 = .ok (.if_icmp .ne 7, 3) := by decide +kernel
theorem dX1_bestFor_37 : decode cX1_bestFor 37 = .ok (.iconst 1, 1) := by decide +kernel
theorem dX1_bestFor_38 : decode cX1_bestFor 38 = .ok (.goto 4, 3) := by decide +kernel
theorem dX1_bestFor_41 : decode cX1_bestFor 41 = .ok (.iconst 0, 1) := by decide +kernel
theorem dX1_bestFor_42 : decode cX1_bestFor 42 = .ok (.istore 7, 2) := by decide +kernel
theorem dX1_bestFor_44 : decode cX1_bestFor 44 = .ok (.iload 7, 2) := by decide +kernel
theorem dX1_bestFor_46 : decode cX1_bestFor 46 = .ok (.ifCond .eq 49, 3) := by decide +kernel
theorem dX1_bestFor_49 : decode cX1_bestFor 49 = .ok (.aload_n 0, 1) := by decide +kernel
theorem dX1_bestFor_50 : decode cX1_bestFor 50 = .ok (.getfield 18, 3) := by decide +kernel
theorem dX1_bestFor_53 : decode cX1_bestFor 53 = .ok (.iload 6, 2) := by decide +kernel
theorem dX1_bestFor_55 : decode cX1_bestFor 55 = .ok (.iaload, 1) := by decide +kernel
theorem dX1_bestFor_56 : decode cX1_bestFor 56 = .ok (.iload_n 1, 1) := by decide +kernel
theorem dX1_bestFor_57 : decode cX1_bestFor 57 = .ok (.if_icmp .lt 38, 3) := by decide +kernel
theorem dX1_bestFor_60 : decode cX1_bestFor 60 = .ok (.aload_n 0, 1) := by decide +kernel
theorem dX1_bestFor_61 : decode cX1_bestFor 61 = .ok (.iload 6, 2) := by decide +kernel
theorem dX1_bestFor_63 : decode cX1_bestFor 63 = .ok (.iload_n 3, 1) := by decide +kernel
theorem dX1_bestFor_64 : decode cX1_bestFor 64 = .ok (.invokevirtual 28, 3) := by decide +kernel
theorem dX1_bestFor_67 : decode cX1_bestFor 67 = .ok (.ifCond .eq 28, 3) := by decide +kernel
theorem dX1_bestFor_70 : decode cX1_bestFor 70 = .ok (.aload_n 0, 1) := by decide +kernel
theorem dX1_bestFor_71 : decode cX1_bestFor 71 = .ok (.getfield 15, 3) := by decide +kernel
theorem dX1_bestFor_74 : decode cX1_bestFor 74 = .ok (.iload 6, 2) := by decide +kernel
theorem dX1_bestFor_76 : decode cX1_bestFor 76 = .ok (.iaload, 1) := by decide +kernel
theorem dX1_bestFor_77 : decode cX1_bestFor 77 = .ok (.iload 5, 2) := by decide +kernel
theorem dX1_bestFor_79 : decode cX1_bestFor 79 = .ok (.if_icmp .ge 16, 3) := by decide +kernel
theorem dX1_bestFor_82 : decode cX1_bestFor 82 = .ok (.aload_n 0, 1) := by decide +kernel
theorem dX1_bestFor_83 : decode cX1_bestFor 83 = .ok (.getfield 15, 3) := by decide +kernel
theorem dX1_bestFor_86 : decode cX1_bestFor 86 = .ok (.iload 6, 2) := by decide +kernel
theorem dX1_bestFor_88 : decode cX1_bestFor 88 = .ok (.iaload, 1) := by decide +kernel
theorem dX1_bestFor_89 : decode cX1_bestFor 89 = .ok (.istore 5, 2) := by decide +kernel
theorem dX1_bestFor_91 : decode cX1_bestFor 91 = .ok (.iload 6, 2) := by decide +kernel
theorem dX1_bestFor_93 : decode cX1_bestFor 93 = .ok (.istore 4, 2) := by decide +kernel
theorem dX1_bestFor_95 : decode cX1_bestFor 95 = .ok (.iinc 6 1, 3) := by decide +kernel
theorem dX1_bestFor_98 : decode cX1_bestFor 98 = .ok (.goto (-86), 3) := by decide +kernel
theorem dX1_bestFor_101 : decode cX1_bestFor 101 = .ok (.iload 4, 2) := by decide +kernel
theorem dX1_bestFor_103 : decode cX1_bestFor 103 = .ok (.ireturn, 1) := by decide +kernel
theorem dX1_warns_0 : decode cX1_warns 0 = .ok (.aload_n 0, 1) := by decide +kernel
theorem dX1_warns_1 : decode cX1_warns 1 = .ok (.getfield 18, 3) := by decide +kernel
theorem dX1_warns_4 : decode cX1_warns 4 = .ok (.iload_n 1, 1) := by decide +kernel
theorem dX1_warns_5 : decode cX1_warns 5 = .ok (.iaload, 1) := by decide +kernel
theorem dX1_warns_6 : decode cX1_warns 6 = .ok (.aload_n 0, 1) := by decide +kernel
theorem dX1_warns_7 : decode cX1_warns 7 = .ok (.getfield 21, 3) := by decide +kernel
theorem dX1_warns_10 : decode cX1_warns 10 = .ok (.iload_n 1, 1) := by decide +kernel
theorem dX1_warns_11 : decode cX1_warns 11 = .ok (.iaload, 1) := by decide +kernel
theorem dX1_warns_12 : decode cX1_warns 12 = .ok (.isub, 1) := by decide +kernel
theorem dX1_warns_13 : decode cX1_warns 13 = .ok (.aload_n 0, 1) := by decide +kernel
theorem dX1_warns_14 : decode cX1_warns 14 = .ok (.getfield 18, 3) := by decide +kernel
theorem dX1_warns_17 : decode cX1_warns 17 = .ok (.iload_n 1, 1) := by decide +kernel
theorem dX1_warns_18 : decode cX1_warns 18 = .ok (.iaload, 1) := by decide +kernel
theorem dX1_warns_19 : decode cX1_warns 19 = .ok (.iload_n 2, 1) := by decide +kernel
theorem dX1_warns_20 : decode cX1_warns 20 = .ok (.imul, 1) := by decide +kernel
theorem dX1_warns_21 : decode cX1_warns 21 = .ok (.bipush 100, 2) := by decide +kernel
theorem dX1_warns_23 : decode cX1_warns 23 = .ok (.idiv, 1) := by decide +kernel
theorem dX1_warns_24 : decode cX1_warns 24 = .ok (.if_icmp .lt 7, 3) := by decide +kernel
theorem dX1_warns_27 : decode cX1_warns 27 = .ok (.iconst 1, 1) := by decide +kernel
theorem dX1_warns_28 : decode cX1_warns 28 = .ok (.goto 4, 3) := by decide +kernel
theorem dX1_warns_31 : decode cX1_warns 31 = .ok (.iconst 0, 1) := by decide +kernel
theorem dX1_warns_32 : decode cX1_warns 32 = .ok (.ireturn, 1) := by decide +kernel
