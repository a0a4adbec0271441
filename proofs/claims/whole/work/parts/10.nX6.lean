theorem dX6_init_0 : decode cX6_init 0 = .ok (.aload_n 0, 1) := by decide +kernel
theorem dX6_init_1 : decode cX6_init 1 = .ok (.invokespecial 3, 3) := by decide +kernel
theorem dX6_init_4 : decode cX6_init 4 = .ok (.aload_n 0, 1) := by decide +kernel
theorem dX6_init_5 : decode cX6_init 5 = .ok (.iconst 5, 1) := by decide +kernel
theorem dX6_init_6 : decode cX6_init 6 = .ok (.newarray .long, 2) := by decide +kernel
theorem dX6_init_8 : decode cX6_init 8 = .ok (.putfield 9, 3) := by decide +kernel
theorem dX6_init_11 : decode cX6_init 11 = .ok (.aload_n 0, 1) := by decide +kernel
theorem dX6_init_12 : decode cX6_init 12 = .ok (.iconst 5, 1) := by decide +kernel
theorem dX6_init_13 : decode cX6_init 13 = .ok (.newarray .long, 2) := by decide +kernel
theorem dX6_init_15 : decode cX6_init 15 = .ok (.putfield 15, 3) := by decide +kernel
theorem dX6_init_18 : decode cX6_init 18 = .ok (.aload_n 0, 1) := by decide +kernel
theorem dX6_init_19 : decode cX6_init 19 = .ok (.iconst 5, 1) := by decide +kernel
theorem dX6_init_20 : decode cX6_init 20 = .ok (.newarray .long, 2) := by decide +kernel
theorem dX6_init_22 : decode cX6_init 22 = .ok (.putfield 18, 3) := by decide +kernel
theorem dX6_init_25 : decode cX6_init 25 = .ok (.aload_n 0, 1) := by decide +kernel
theorem dX6_init_26 : decode cX6_init 26 = .ok (.lconst 1, 1) := by decide +kernel
theorem dX6_init_27 : decode cX6_init 27 = .ok (.putfield 21, 3) := by decide +kernel
theorem dX6_init_30 : decode cX6_init 30 = .ok (.return_, 1) := by decide +kernel
set_option maxRecDepth 20000 in
theorem ggX6_reckon_X6_findFirstSlip : GoodIn wsX6_reckon wsX6_findFirstSlip := goodIn_r _ [6, 7, 8, 9, 1, 10, 25, 26, 27, 28, 29, 30, 31, 32, 19, 20, 21, 22, 23, 24] (by decide +kernel) (by decide +kernel)
set_option maxRecDepth 20000 in
theorem gX6_reckon_X6_findFirstSlip : GoodIn wsX6_reckon (wsV RX6 25 RX6 yX6_findFirstSlip wsX6_findFirstSlip) := goodIn_app (goodIn_of _ (by decide +kernel)) ggX6_reckon_X6_findFirstSlip
set_option maxRecDepth 20000 in
theorem ggX6_reckon_X6_follow : GoodIn wsX6_reckon wsX6_follow := goodIn_r _ [14, 10, 15, 16, 17, 7, 18, 1, 8, 9, 19, 20, 21, 22, 23, 24, 25, 26, 27, 28, 29, 30, 31, 32] (by decide +kernel) (by decide +kernel)
set_option maxRecDepth 20000 in
theorem gX6_reckon_X6_follow : GoodIn wsX6_reckon (wsV RX6 29 RX6 yX6_follow wsX6_follow) := goodIn_app (goodIn_of _ (by decide +kernel)) ggX6_reckon_X6_follow
theorem dX6_reckon_0 : decode cX6_reckon 0 = .ok (.aload_n 0, 1) := by decide +kernel
theorem dX6_reckon_1 : decode cX6_reckon 1 = .ok (.aload_n 1, 1) := by decide +kernel
theorem dX6_reckon_2 : decode cX6_reckon 2 = .ok (.iload_n 2, 1) := by decide +kernel
theorem dX6_reckon_3 : decode cX6_reckon 3 = .ok (.invokevirtual 25, 3) := by decide +kernel
theorem dX6_reckon_6 : decode cX6_reckon 6 = .ok (.aload_n 0, 1) := by decide +kernel
theorem dX6_reckon_7 : decode cX6_reckon 7 = .ok (.getfield 21, 3) := by decide +kernel
theorem dX6_reckon_10 : decode cX6_reckon 10 = .ok (.lconst 0, 1) := by decide +kernel
theorem dX6_reckon_11 : decode cX6_reckon 11 = .ok (.lcmp, 1) := by decide +kernel
theorem dX6_reckon_12 : decode cX6_reckon 12 = .ok (.ifCond .gt 5, 3) := by decide +kernel
theorem dX6_reckon_15 : decode cX6_reckon 15 = .ok (.iconst 0, 1) := by decide +kernel
theorem dX6_reckon_16 : decode cX6_reckon 16 = .ok (.ireturn, 1) := by decide +kernel
theorem dX6_reckon_17 : decode cX6_reckon 17 = .ok (.aload_n 0, 1) := by decide +kernel
theorem dX6_reckon_18 : decode cX6_reckon 18 = .ok (.aload_n 1, 1) := by decide +kernel
theorem dX6_reckon_19 : decode cX6_reckon 19 = .ok (.iload_n 2, 1) := by decide +kernel
theorem dX6_reckon_20 : decode cX6_reckon 20 = .ok (.invokevirtual 29, 3) := by decide +kernel
theorem dX6_reckon_23 : decode cX6_reckon 23 = .ok (.iconst 1, 1) := by decide +kernel
theorem dX6_reckon_24 : decode cX6_reckon 24 = .ok (.ireturn, 1) := by decide +kernel
theorem dX6_findFirstSlip_0 : decode cX6_findFirstSlip 0 = .ok (.lconst 1, 1) := by decide +kernel
theorem dX6_findFirstSlip_1 : decode cX6_findFirstSlip 1 = .ok (.lstore_n 3, 1) := by decide +kernel
theorem dX6_findFirstSlip_2 : decode cX6_findFirstSlip 2 = .ok (.lconst 0, 1) := by decide +kernel
theorem dX6_findFirstSlip_3 : decode cX6_findFirstSlip 3 = .ok (.lstore 5, 2) := by decide +kernel
theorem dX6_findFirstSlip_5 : decode cX6_findFirstSlip 5 = .ok (.lconst 0, 1) := by decide +kernel
theorem dX6_findFirstSlip_6 : decode cX6_findFirstSlip 6 = .ok (.lstore 7, 2) := by decide +kernel
theorem dX6_findFirstSlip_8 : decode cX6_findFirstSlip 8 = .ok (.lconst 0, 1) := by decide +kernel
theorem dX6_findFirstSlip_9 : decode cX6_findFirstSlip 9 = .ok (.lstore 9, 2) := by decide +kernel
theorem dX6_findFirstSlip_11 : decode cX6_findFirstSlip 11 = .ok (.iconst 0, 1) := by decide +kernel
theorem dX6_findFirstSlip_12 : decode cX6_findFirstSlip 12 = .ok (.istore 11, 2) := by decide +kernel
theorem dX6_findFirstSlip_14 : decode cX6_findFirstSlip 14 = .ok (.iload 11, 2) := by decide +kernel
theorem dX6_findFirstSlip_16 : decode cX6_findFirstSlip 16 = .ok (.iconst 5, 1) := by decide +kernel
theorem dX6_findFirstSlip_17 : decode cX6_findFirstSlip 17 = .ok (.if_icmp .ge 93, 3) := by decide +kernel
theorem dX6_findFirstSlip_20 : decode cX6_findFirstSlip 20 = .ok (.iload 11, 2) := by decide +kernel
theorem dX6_findFirstSlip_22 : decode cX6_findFirstSlip 22 = .ok (.iload_n 2, 1) := by decide +kernel
theorem dX6_findFirstSlip_23 : decode cX6_findFirstSlip 23 = .ok (.if_icmp .ne 7, 3) := by decide +kernel
theorem dX6_findFirstSlip_26 : decode cX6_findFirstSlip 26 = .ok (.lconst 0, 1) := by decide +kernel
theorem dX6_findFirstSlip_27 : decode cX6_findFirstSlip 27 = .ok (.goto 11, 3) := by decide +kernel
theorem dX6_findFirstSlip_30 : decode cX6_findFirstSlip 30 = .ok (.aload_n 1, 1) := by decide +kernel
theorem dX6_findFirstSlip_31 : decode cX6_findFirstSlip 31 = .ok (.getfield 32, 3) := by decide +kernel
theorem dX6_findFirstSlip_34 : decode cX6_findFirstSlip 34 = .ok (.iload 11, 2) := by decide +kernel
theorem dX6_findFirstSlip_36 : decode cX6_findFirstSlip 36 = .ok (.iaload, 1) := by decide +kernel
theorem dX6_findFirstSlip_37 : decode cX6_findFirstSlip 37 = .ok (.i2l, 1) := by decide +kernel
theorem dX6_findFirstSlip_38 : decode cX6_findFirstSlip 38 = .ok (.lstore 12, 2) := by decide +kernel
theorem dX6_findFirstSlip_40 : decode cX6_findFirstSlip 40 = .ok (.aload_n 1, 1) := by decide +kernel
theorem dX6_findFirstSlip_41 : decode cX6_findFirstSlip 41 = .ok (.getfield 38, 3) := by decide +kernel
theorem dX6_findFirstSlip_44 : decode cX6_findFirstSlip 44 = .ok (.iload 11, 2) := by decide +kernel
theorem dX6_findFirstSlip_46 : decode cX6_findFirstSlip 46 = .ok (.iaload, 1) := by decide +kernel
theorem dX6_findFirstSlip_47 : decode cX6_findFirstSlip 47 = .ok (.aload_n 1, 1) := by decide +kernel
theorem dX6_findFirstSlip_48 : decode cX6_findFirstSlip 48 = .ok (.getfield 41, 3) := by decide +kernel
theorem dX6_findFirstSlip_51 : decode cX6_findFirstSlip 51 = .ok (.iload 11, 2) := by decide +kernel
theorem dX6_findFirstSlip_53 : decode cX6_findFirstSlip 53 = .ok (.iaload, 1) := by decide +kernel
theorem dX6_findFirstSlip_54 : decode cX6_findFirstSlip 54 = .ok (.iadd, 1) := by decide +kernel
theorem dX6_findFirstSlip_55 : decode cX6_findFirstSlip 55 = .ok (.i2l, 1) := by decide +kernel
theorem dX6_findFirstSlip_56 : decode cX6_findFirstSlip 56 = .ok (.lstore 14, 2) := by decide +kernel
theorem dX6_findFirstSlip_58 : decode cX6_findFirstSlip 58 = .ok (.lload 7, 2) := by decide +kernel
theorem dX6_findFirstSlip_60 : decode cX6_findFirstSlip 60 = .ok (.lload 12, 2) := by decide +kernel
theorem dX6_findFirstSlip_62 : decode cX6_findFirstSlip 62 = .ok (.lload_n 3, 1) := by decide +kernel
theorem dX6_findFirstSlip_63 : decode cX6_findFirstSlip 63 = .ok (.lmul, 1) := by decide +kernel
theorem dX6_findFirstSlip_64 : decode cX6_findFirstSlip 64 = .ok (.ladd, 1) := by decide +kernel
theorem dX6_findFirstSlip_65 : decode cX6_findFirstSlip 65 = .ok (.lstore 7, 2) := by decide +kernel
theorem dX6_findFirstSlip_67 : decode cX6_findFirstSlip 67 = .ok (.lload 9, 2) := by decide +kernel
theorem dX6_findFirstSlip_69 : decode cX6_findFirstSlip 69 = .ok (.lload 12, 2) := by decide +kernel
theorem dX6_findFirstSlip_71 : decode cX6_findFirstSlip 71 = .ok (.lload 5, 2) := by decide +kernel
theorem dX6_findFirstSlip_73 : decode cX6_findFirstSlip 73 = .ok (.lmul, 1) := by decide +kernel
theorem dX6_findFirstSlip_74 : decode cX6_findFirstSlip 74 = .ok (.ladd, 1) := by decide +kernel
theorem dX6_findFirstSlip_75 : decode cX6_findFirstSlip 75 = .ok (.lstore 9, 2) := by decide +kernel
theorem dX6_findFirstSlip_77 : decode cX6_findFirstSlip 77 = .ok (.lload_n 3, 1) := by decide +kernel
theorem dX6_findFirstSlip_78 : decode cX6_findFirstSlip 78 = .ok (.lload 14, 2) := by decide +kernel
theorem dX6_findFirstSlip_80 : decode cX6_findFirstSlip 80 = .ok (.lload 7, 2) := by decide +kernel
theorem dX6_findFirstSlip_82 : decode cX6_findFirstSlip 82 = .ok (.lmul, 1) := by decide +kernel
theorem dX6_findFirstSlip_83 : decode cX6_findFirstSlip 83 = .ok (.ladd, 1) := by decide +kernel
theorem dX6_findFirstSlip_84 : decode cX6_findFirstSlip 84 = .ok (.lstore_n 3, 1) := by decide +kernel
theorem dX6_findFirstSlip_85 : decode cX6_findFirstSlip 85 = .ok (.lload 5, 2) := by decide +kernel
theorem dX6_findFirstSlip_87 : decode cX6_findFirstSlip 87 = .ok (.lload 14, 2) := by decide +kernel
theorem dX6_findFirstSlip_89 : decode cX6_findFirstSlip 89 = .ok (.lload 9, 2) := by decide +kernel
theorem dX6_findFirstSlip_91 : decode cX6_findFirstSlip 91 = .ok (.lmul, 1) := by decide +kernel
theorem dX6_findFirstSlip_92 : decode cX6_findFirstSlip 92 = .ok (.aload_n 1, 1) := by decide +kernel
theorem dX6_findFirstSlip_93 : decode cX6_findFirstSlip 93 = .ok (.getfield 38, 3) := by decide +kernel
theorem dX6_findFirstSlip_96 : decode cX6_findFirstSlip 96 = .ok (.iload 11, 2) := by decide +kernel
theorem dX6_findFirstSlip_98 : decode cX6_findFirstSlip 98 = .ok (.iaload, 1) := by decide +kernel
theorem dX6_findFirstSlip_99 : decode cX6_findFirstSlip 99 = .ok (.i2l, 1) := by decide +kernel
theorem dX6_findFirstSlip_100 : decode cX6_findFirstSlip 100 = .ok (.lsub, 1) := by decide +kernel
theorem dX6_findFirstSlip_101 : decode cX6_findFirstSlip 101 = .ok (.ladd, 1) := by decide +kernel
theorem dX6_findFirstSlip_102 : decode cX6_findFirstSlip 102 = .ok (.lstore 5, 2) := by decide +kernel
theorem dX6_findFirstSlip_104 : decode cX6_findFirstSlip 104 = .ok (.iinc 11 1, 3) := by decide +kernel
theorem dX6_findFirstSlip_107 : decode cX6_findFirstSlip 107 = .ok (.goto (-93), 3) := by decide +kernel
theorem dX6_findFirstSlip_110 : decode cX6_findFirstSlip 110 = .ok (.aload_n 0, 1) := by decide +kernel
theorem dX6_findFirstSlip_111 : decode cX6_findFirstSlip 111 = .ok (.lload 7, 2) := by decide +kernel
theorem dX6_findFirstSlip_113 : decode cX6_findFirstSlip 113 = .ok (.putfield 21, 3) := by decide +kernel
theorem dX6_findFirstSlip_116 : decode cX6_findFirstSlip 116 = .ok (.aload_n 0, 1) := by decide +kernel
theorem dX6_findFirstSlip_117 : decode cX6_findFirstSlip 117 = .ok (.lconst 1, 1) := by decide +kernel
theorem dX6_findFirstSlip_118 : decode cX6_findFirstSlip 118 = .ok (.lload 9, 2) := by decide +kernel
theorem dX6_findFirstSlip_120 : decode cX6_findFirstSlip 120 = .ok (.lsub, 1) := by decide +kernel
theorem dX6_findFirstSlip_121 : decode cX6_findFirstSlip 121 = .ok (.putfield 44, 3) := by decide +kernel
theorem dX6_findFirstSlip_124 : decode cX6_findFirstSlip 124 = .ok (.return_, 1) := by decide +kernel
theorem dX6_follow_0 : decode cX6_follow 0 = .ok (.aload_n 0, 1) := by decide +kernel
theorem dX6_follow_1 : decode cX6_follow 1 = .ok (.getfield 44, 3) := by decide +kernel
theorem dX6_follow_4 : decode cX6_follow 4 = .ok (.lstore_n 3, 1) := by decide +kernel
theorem dX6_follow_5 : decode cX6_follow 5 = .ok (.lconst 0, 1) := by decide +kernel
theorem dX6_follow_6 : decode cX6_follow 6 = .ok (.lstore 5, 2) := by decide +kernel
theorem dX6_follow_8 : decode cX6_follow 8 = .ok (.aload_n 0, 1) := by decide +kernel
theorem dX6_follow_9 : decode cX6_follow 9 = .ok (.lconst 0, 1) := by decide +kernel
theorem dX6_follow_10 : decode cX6_follow 10 = .ok (.putfield 47, 3) := by decide +kernel
theorem dX6_follow_13 : decode cX6_follow 13 = .ok (.iconst 0, 1) := by decide +kernel
theorem dX6_follow_14 : decode cX6_follow 14 = .ok (.istore 7, 2) := by decide +kernel
theorem dX6_follow_16 : decode cX6_follow 16 = .ok (.iload 7, 2) := by decide +kernel
theorem dX6_follow_18 : decode cX6_follow 18 = .ok (.iconst 5, 1) := by decide +kernel
theorem dX6_follow_19 : decode cX6_follow 19 = .ok (.if_icmp .ge 126, 3) := by decide +kernel
theorem dX6_follow_22 : decode cX6_follow 22 = .ok (.aload_n 0, 1) := by decide +kernel
theorem dX6_follow_23 : decode cX6_follow 23 = .ok (.getfield 9, 3) := by decide +kernel
theorem dX6_follow_26 : decode cX6_follow 26 = .ok (.iload 7, 2) := by decide +kernel
theorem dX6_follow_28 : decode cX6_follow 28 = .ok (.lload_n 3, 1) := by decide +kernel
theorem dX6_follow_29 : decode cX6_follow 29 = .ok (.lastore, 1) := by decide +kernel
theorem dX6_follow_30 : decode cX6_follow 30 = .ok (.aload_n 0, 1) := by decide +kernel
theorem dX6_follow_31 : decode cX6_follow 31 = .ok (.getfield 15, 3) := by decide +kernel
theorem dX6_follow_34 : decode cX6_follow 34 = .ok (.iload 7, 2) := by decide +kernel
theorem dX6_follow_36 : decode cX6_follow 36 = .ok (.iload 7, 2) := by decide +kernel
theorem dX6_follow_38 : decode cX6_follow 38 = .ok (.iload_n 2, 1) := by decide +kernel
theorem dX6_follow_39 : decode cX6_follow 39 = .ok (.if_icmp .ne 7, 3) := by decide +kernel
theorem dX6_follow_42 : decode cX6_follow 42 = .ok (.lconst 0, 1) := by decide +kernel
theorem dX6_follow_43 : decode cX6_follow 43 = .ok (.goto 13, 3) := by decide +kernel
theorem dX6_follow_46 : decode cX6_follow 46 = .ok (.aload_n 1, 1) := by decide +kernel
theorem dX6_follow_47 : decode cX6_follow 47 = .ok (.getfield 32, 3) := by decide +kernel
theorem dX6_follow_50 : decode cX6_follow 50 = .ok (.iload 7, 2) := by decide +kernel
theorem dX6_follow_52 : decode cX6_follow 52 = .ok (.iaload, 1) := by decide +kernel
theorem dX6_follow_53 : decode cX6_follow 53 = .ok (.i2l, 1) := by decide +kernel
theorem dX6_follow_54 : decode cX6_follow 54 = .ok (.lload_n 3, 1) := by decide +kernel
theorem dX6_follow_55 : decode cX6_follow 55 = .ok (.lmul, 1) := by decide +kernel
theorem dX6_follow_56 : decode cX6_follow 56 = .ok (.lastore, 1) := by decide +kernel
theorem dX6_follow_57 : decode cX6_follow 57 = .ok (.lload 5, 2) := by decide +kernel
theorem dX6_follow_59 : decode cX6_follow 59 = .ok (.aload_n 0, 1) := by decide +kernel
theorem dX6_follow_60 : decode cX6_follow 60 = .ok (.getfield 15, 3) := by decide +kernel
theorem dX6_follow_63 : decode cX6_follow 63 = .ok (.iload 7, 2) := by decide +kernel
theorem dX6_follow_65 : decode cX6_follow 65 = .ok (.laload, 1) := by decide +kernel
theorem dX6_follow_66 : decode cX6_follow 66 = .ok (.ladd, 1) := by decide +kernel
theorem dX6_follow_67 : decode cX6_follow 67 = .ok (.lstore 5, 2) := by decide +kernel
theorem dX6_follow_69 : decode cX6_follow 69 = .ok (.aload_n 0, 1) := by decide +kernel
theorem dX6_follow_70 : decode cX6_follow 70 = .ok (.getfield 18, 3) := by decide +kernel
theorem dX6_follow_73 : decode cX6_follow 73 = .ok (.iload 7, 2) := by decide +kernel
theorem dX6_follow_75 : decode cX6_follow 75 = .ok (.aload_n 0, 1) := by decide +kernel
theorem dX6_follow_76 : decode cX6_follow 76 = .ok (.getfield 21, 3) := by decide +kernel
theorem dX6_follow_79 : decode cX6_follow 79 = .ok (.lload 5, 2) := by decide +kernel
theorem dX6_follow_81 : decode cX6_follow 81 = .ok (.lsub, 1) := by decide +kernel
theorem dX6_follow_82 : decode cX6_follow 82 = .ok (.lastore, 1) := by decide +kernel
theorem dX6_follow_83 : decode cX6_follow 83 = .ok (.aload_n 0, 1) := by decide +kernel
theorem dX6_follow_84 : decode cX6_follow 84 = .ok (.dup, 1) := by decide +kernel
theorem dX6_follow_85 : decode cX6_follow 85 = .ok (.getfield 47, 3) := by decide +kernel
theorem dX6_follow_88 : decode cX6_follow 88 = .ok (.aload_n 1, 1) := by decide +kernel
theorem dX6_follow_89 : decode cX6_follow 89 = .ok (.getfield 38, 3) := by decide +kernel
theorem dX6_follow_92 : decode cX6_follow 92 = .ok (.iload 7, 2) := by decide +kernel
theorem dX6_follow_94 : decode cX6_follow 94 = .ok (.iaload, 1) := by decide +kernel
theorem dX6_follow_95 : decode cX6_follow 95 = .ok (.i2l, 1) := by decide +kernel
theorem dX6_follow_96 : decode cX6_follow 96 = .ok (.aload_n 0, 1) := by decide +kernel
theorem dX6_follow_97 : decode cX6_follow 97 = .ok (.getfield 18, 3) := by decide +kernel
theorem dX6_follow_100 : decode cX6_follow 100 = .ok (.iload 7, 2) := by decide +kernel
theorem dX6_follow_102 : decode cX6_follow 102 = .ok (.laload, 1) := by decide +kernel
theorem dX6_follow_103 : decode cX6_follow 103 = .ok (.lmul, 1) := by decide +kernel
theorem dX6_follow_104 : decode cX6_follow 104 = .ok (.ladd, 1) := by decide +kernel
theorem dX6_follow_105 : decode cX6_follow 105 = .ok (.putfield 47, 3) := by decide +kernel
theorem dX6_follow_108 : decode cX6_follow 108 = .ok (.lload_n 3, 1) := by decide +kernel
theorem dX6_follow_109 : decode cX6_follow 109 = .ok (.aload_n 1, 1) := by decide +kernel
theorem dX6_follow_110 : decode cX6_follow 110 = .ok (.getfield 41, 3) := by decide +kernel
theorem dX6_follow_113 : decode cX6_follow 113 = .ok (.iload 7, 2) := by decide +kernel
theorem dX6_follow_115 : decode cX6_follow 115 = .ok (.iaload, 1) := by decide +kernel
theorem dX6_follow_116 : decode cX6_follow 116 = .ok (.i2l, 1) := by decide +kernel
theorem dX6_follow_117 : decode cX6_follow 117 = .ok (.lload 5, 2) := by decide +kernel
theorem dX6_follow_119 : decode cX6_follow 119 = .ok (.lmul, 1) := by decide +kernel
theorem dX6_follow_120 : decode cX6_follow 120 = .ok (.aload_n 1, 1) := by decide +kernel
theorem dX6_follow_121 : decode cX6_follow 121 = .ok (.getfield 38, 3) := by decide +kernel
theorem dX6_follow_124 : decode cX6_follow 124 = .ok (.iload 7, 2) := by decide +kernel
theorem dX6_follow_126 : decode cX6_follow 126 = .ok (.iaload, 1) := by decide +kernel
theorem dX6_follow_127 : decode cX6_follow 127 = .ok (.i2l, 1) := by decide +kernel
theorem dX6_follow_128 : decode cX6_follow 128 = .ok (.aload_n 0, 1) := by decide +kernel
theorem dX6_follow_129 : decode cX6_follow 129 = .ok (.getfield 18, 3) := by decide +kernel
theorem dX6_follow_132 : decode cX6_follow 132 = .ok (.iload 7, 2) := by decide +kernel
theorem dX6_follow_134 : decode cX6_follow 134 = .ok (.laload, 1) := by decide +kernel
theorem dX6_follow_135 : decode cX6_follow 135 = .ok (.lmul, 1) := by decide +kernel
theorem dX6_follow_136 : decode cX6_follow 136 = .ok (.lsub, 1) := by decide +kernel
theorem dX6_follow_137 : decode cX6_follow 137 = .ok (.ladd, 1) := by decide +kernel
theorem dX6_follow_138 : decode cX6_follow 138 = .ok (.lstore_n 3, 1) := by decide +kernel
theorem dX6_follow_139 : decode cX6_follow 139 = .ok (.iinc 7 1, 3) := by decide +kernel
theorem dX6_follow_142 : decode cX6_follow 142 = .ok (.goto (-126), 3) := by decide +kernel
theorem dX6_follow_145 : decode cX6_follow 145 = .ok (.aload_n 0, 1) := by decide +kernel
theorem dX6_follow_146 : decode cX6_follow 146 = .ok (.dup, 1) := by decide +kernel
theorem dX6_follow_147 : decode cX6_follow 147 = .ok (.getfield 47, 3) := by decide +kernel
theorem dX6_follow_150 : decode cX6_follow 150 = .ok (.lload_n 3, 1) := by decide +kernel
theorem dX6_follow_151 : decode cX6_follow 151 = .ok (.ladd, 1) := by decide +kernel
theorem dX6_follow_152 : decode cX6_follow 152 = .ok (.putfield 47, 3) := by decide +kernel
theorem dX6_follow_155 : decode cX6_follow 155 = .ok (.return_, 1) := by decide +kernel
