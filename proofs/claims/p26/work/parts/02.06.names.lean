theorem dX6_titleOf_75 : decode cX6_titleOf 75 = .ok (.getfield 289, 3) := by decide +kernel
theorem dX6_titleOf_78 : decode cX6_titleOf 78 = .ok (.iload_n 2, 1) := by decide +kernel
theorem dX6_titleOf_79 : decode cX6_titleOf 79 = .ok (.if_icmp .ne 11, 3) := by decide +kernel
theorem dX6_titleOf_82 : decode cX6_titleOf 82 = .ok (.aload 8, 2) := by decide +kernel
theorem dX6_titleOf_84 : decode cX6_titleOf 84 = .ok (.getfield 292, 3) := by decide +kernel
theorem dX6_titleOf_87 : decode cX6_titleOf 87 = .ok (.goto 4, 3) := by decide +kernel
theorem dX6_titleOf_90 : decode cX6_titleOf 90 = .ok (.iconst 0, 1) := by decide +kernel
theorem dX6_titleOf_91 : decode cX6_titleOf 91 = .ok (.iadd, 1) := by decide +kernel
theorem dX6_titleOf_92 : decode cX6_titleOf 92 = .ok (.istore 4, 2) := by decide +kernel
theorem dX6_titleOf_94 : decode cX6_titleOf 94 = .ok (.iload 4, 2) := by decide +kernel
theorem dX6_titleOf_96 : decode cX6_titleOf 96 = .ok (.aload 8, 2) := by decide +kernel
theorem dX6_titleOf_98 : decode cX6_titleOf 98 = .ok (.getfield 294, 3) := by decide +kernel
theorem dX6_titleOf_101 : decode cX6_titleOf 101 = .ok (.iload_n 2, 1) := by decide +kernel
theorem dX6_titleOf_102 : decode cX6_titleOf 102 = .ok (.if_icmp .ne 11, 3) := by decide +kernel
theorem dX6_titleOf_105 : decode cX6_titleOf 105 = .ok (.aload 8, 2) := by decide +kernel
theorem dX6_titleOf_107 : decode cX6_titleOf 107 = .ok (.getfield 292, 3) := by decide +kernel
theorem dX6_titleOf_110 : decode cX6_titleOf 110 = .ok (.goto 4, 3) := by decide +kernel
theorem dX6_titleOf_113 : decode cX6_titleOf 113 = .ok (.iconst 0, 1) := by decide +kernel
theorem dX6_titleOf_114 : decode cX6_titleOf 114 = .ok (.isub, 1) := by decide +kernel
theorem dX6_titleOf_115 : decode cX6_titleOf 115 = .ok (.istore 4, 2) := by decide +kernel
theorem dX6_titleOf_117 : decode cX6_titleOf 117 = .ok (.iinc 7 1, 3) := by decide +kernel
theorem dX6_titleOf_120 : decode cX6_titleOf 120 = .ok (.goto (-89), 3) := by decide +kernel
theorem dX6_titleOf_123 : decode cX6_titleOf 123 = .ok (.iload 4, 2) := by decide +kernel
theorem dX6_titleOf_125 : decode cX6_titleOf 125 = .ok (.ireturn, 1) := by decide +kernel
set_option maxRecDepth 20000 in
theorem ggX6_leastTitle_X6_titleOf : GoodIn wsX6_leastTitle wsX6_titleOf := goodIn_r _ [10, 11, 12, 13, 14, 15, 16, 17, 38, 39, 40, 18, 19, 20, 21, 22, 23, 24, 25, 26, 27, 28, 29, 30, 31, 32, 33, 34, 35, 36, 37, 41, 42, 43, 44, 45] (by decide +kernel) (by decide +kernel)
set_option maxRecDepth 20000 in
theorem gX6_leastTitle_X6_titleOf : GoodIn wsX6_leastTitle (wsV RX6 144 RX6 yX6_titleOf wsX6_titleOf) := goodIn_app (goodIn_of _ (by decide +kernel)) ggX6_leastTitle_X6_titleOf
theorem dX6_leastTitle_0 : decode cX6_leastTitle 0 = .ok (.sipush 10000, 3) := by decide +kernel
theorem dX6_leastTitle_3 : decode cX6_leastTitle 3 = .ok (.istore 4, 2) := by decide +kernel
theorem dX6_leastTitle_5 : decode cX6_leastTitle 5 = .ok (.iload_n 3, 1) := by decide +kernel
theorem dX6_leastTitle_6 : decode cX6_leastTitle 6 = .ok (.istore 5, 2) := by decide +kernel
theorem dX6_leastTitle_8 : decode cX6_leastTitle 8 = .ok (.iload 5, 2) := by decide +kernel
theorem dX6_leastTitle_10 : decode cX6_leastTitle 10 = .ok (.aload_n 0, 1) := by decide +kernel
theorem dX6_leastTitle_11 : decode cX6_leastTitle 11 = .ok (.getfield 9, 3) := by decide +kernel
theorem dX6_leastTitle_14 : decode cX6_leastTitle 14 = .ok (.if_icmp .gt 24, 3) := by decide +kernel
theorem dX6_leastTitle_17 : decode cX6_leastTitle 17 = .ok (.iload 4, 2) := by decide +kernel
theorem dX6_leastTitle_19 : decode cX6_leastTitle 19 = .ok (.aload_n 0, 1) := by decide +kernel
theorem dX6_leastTitle_20 : decode cX6_leastTitle 20 = .ok (.aload_n 1, 1) := by decide +kernel
theorem dX6_leastTitle_21 : decode cX6_leastTitle 21 = .ok (.iload_n 2, 1) := by decide +kernel
theorem dX6_leastTitle_22 : decode cX6_leastTitle 22 = .ok (.iload 5, 2) := by decide +kernel
theorem dX6_leastTitle_24 : decode cX6_leastTitle 24 = .ok (.invokevirtual 144, 3) := by decide +kernel
theorem dX6_leastTitle_27 : decode cX6_leastTitle 27 = .ok (.invokestatic 297, 3) := by decide +kernel
theorem dX6_leastTitle_30 : decode cX6_leastTitle 30 = .ok (.istore 4, 2) := by decide +kernel
theorem dX6_leastTitle_32 : decode cX6_leastTitle 32 = .ok (.iinc 5 1, 3) := by decide +kernel
theorem dX6_leastTitle_35 : decode cX6_leastTitle 35 = .ok (.goto (-27), 3) := by decide +kernel
theorem dX6_leastTitle_38 : decode cX6_leastTitle 38 = .ok (.iload 4, 2) := by decide +kernel
theorem dX6_leastTitle_40 : decode cX6_leastTitle 40 = .ok (.ireturn, 1) := by decide +kernel
theorem dX6_readTitles_0 : decode cX6_readTitles 0 = .ok (.iconst 0, 1) := by decide +kernel
theorem dX6_readTitles_1 : decode cX6_readTitles 1 = .ok (.istore_n 3, 1) := by decide +kernel
theorem dX6_readTitles_2 : decode cX6_readTitles 2 = .ok (.iload_n 3, 1) := by decide +kernel
theorem dX6_readTitles_3 : decode cX6_readTitles 3 = .ok (.bipush 10, 2) := by decide +kernel
theorem dX6_readTitles_5 : decode cX6_readTitles 5 = .ok (.if_icmp .ge 30, 3) := by decide +kernel
theorem dX6_readTitles_8 : decode cX6_readTitles 8 = .ok (.aload_n 0, 1) := by decide +kernel
theorem dX6_readTitles_9 : decode cX6_readTitles 9 = .ok (.getfield 78, 3) := by decide +kernel
theorem dX6_readTitles_12 : decode cX6_readTitles 12 = .ok (.iload_n 3, 1) := by decide +kernel
theorem dX6_readTitles_13 : decode cX6_readTitles 13 = .ok (.aload_n 1, 1) := by decide +kernel
theorem dX6_readTitles_14 : decode cX6_readTitles 14 = .ok (.getfield 279, 3) := by decide +kernel
theorem dX6_readTitles_17 : decode cX6_readTitles 17 = .ok (.iload_n 3, 1) := by decide +kernel
theorem dX6_readTitles_18 : decode cX6_readTitles 18 = .ok (.if_icmp .ne 9, 3) := by decide +kernel
theorem dX6_readTitles_21 : decode cX6_readTitles 21 = .ok (.sipush 10000, 3) := by decide +kernel
theorem dX6_readTitles_24 : decode cX6_readTitles 24 = .ok (.goto 4, 3) := by decide +kernel
theorem dX6_readTitles_27 : decode cX6_readTitles 27 = .ok (.iconst 0, 1) := by decide +kernel
theorem dX6_readTitles_28 : decode cX6_readTitles 28 = .ok (.iastore, 1) := by decide +kernel
theorem dX6_readTitles_29 : decode cX6_readTitles 29 = .ok (.iinc 3 1, 3) := by decide +kernel
theorem dX6_readTitles_32 : decode cX6_readTitles 32 = .ok (.goto (-30), 3) := by decide +kernel
theorem dX6_readTitles_35 : decode cX6_readTitles 35 = .ok (.aload_n 0, 1) := by decide +kernel
theorem dX6_readTitles_36 : decode cX6_readTitles 36 = .ok (.getfield 24, 3) := by decide +kernel
theorem dX6_readTitles_39 : decode cX6_readTitles 39 = .ok (.astore_n 3, 1) := by decide +kernel
theorem dX6_readTitles_40 : decode cX6_readTitles 40 = .ok (.aload_n 3, 1) := by decide +kernel
theorem dX6_readTitles_41 : decode cX6_readTitles 41 = .ok (.arraylength, 1) := by decide +kernel
theorem dX6_readTitles_42 : decode cX6_readTitles 42 = .ok (.istore 4, 2) := by decide +kernel
theorem dX6_readTitles_44 : decode cX6_readTitles 44 = .ok (.iconst 0, 1) := by decide +kernel
theorem dX6_readTitles_45 : decode cX6_readTitles 45 = .ok (.istore 5, 2) := by decide +kernel
theorem dX6_readTitles_47 : decode cX6_readTitles 47 = .ok (.iload 5, 2) := by decide +kernel
theorem dX6_readTitles_49 : decode cX6_readTitles 49 = .ok (.iload 4, 2) := by decide +kernel
theorem dX6_readTitles_51 : decode cX6_readTitles 51 = .ok (.if_icmp .ge 77, 3) := by decide +kernel
theorem dX6_readTitles_54 : decode cX6_readTitles 54 = .ok (.aload_n 3, 1) := by decide +kernel
theorem dX6_readTitles_55 : decode cX6_readTitles 55 = .ok (.iload 5, 2) := by decide +kernel
theorem dX6_readTitles_57 : decode cX6_readTitles 57 = .ok (.aaload, 1) := by decide +kernel
theorem dX6_readTitles_58 : decode cX6_readTitles 58 = .ok (.astore 6, 2) := by decide +kernel
theorem dX6_readTitles_60 : decode cX6_readTitles 60 = .ok (.aload 6, 2) := by decide +kernel
theorem dX6_readTitles_62 : decode cX6_readTitles 62 = .ok (.ifnonnull 6, 3) := by decide +kernel
theorem dX6_readTitles_65 : decode cX6_readTitles 65 = .ok (.goto 63, 3) := by decide +kernel
theorem dX6_readTitles_68 : decode cX6_readTitles 68 = .ok (.aload 6, 2) := by decide +kernel
theorem dX6_readTitles_70 : decode cX6_readTitles 70 = .ok (.getfield 282, 3) := by decide +kernel
theorem dX6_readTitles_73 : decode cX6_readTitles 73 = .ok (.aload_n 1, 1) := by decide +kernel
theorem dX6_readTitles_74 : decode cX6_readTitles 74 = .ok (.if_acmp .ne 48, 3) := by decide +kernel
theorem dX6_readTitles_77 : decode cX6_readTitles 77 = .ok (.aload 6, 2) := by decide +kernel
theorem dX6_readTitles_79 : decode cX6_readTitles 79 = .ok (.getfield 286, 3) := by decide +kernel
theorem dX6_readTitles_82 : decode cX6_readTitles 82 = .ok (.iload_n 2, 1) := by decide +kernel
theorem dX6_readTitles_83 : decode cX6_readTitles 83 = .ok (.if_icmp .gt 39, 3) := by decide +kernel
theorem dX6_readTitles_86 : decode cX6_readTitles 86 = .ok (.aload_n 0, 1) := by decide +kernel
theorem dX6_readTitles_87 : decode cX6_readTitles 87 = .ok (.getfield 78, 3) := by decide +kernel
theorem dX6_readTitles_90 : decode cX6_readTitles 90 = .ok (.aload 6, 2) := by decide +kernel
theorem dX6_readTitles_92 : decode cX6_readTitles 92 = .ok (.getfield 294, 3) := by decide +kernel
theorem dX6_readTitles_95 : decode cX6_readTitles 95 = .ok (.dup2, 1) := by decide +kernel
theorem dX6_readTitles_96 : decode cX6_readTitles 96 = .ok (.iaload, 1) := by decide +kernel
theorem dX6_readTitles_97 : decode cX6_readTitles 97 = .ok (.aload 6, 2) := by decide +kernel
theorem dX6_readTitles_99 : decode cX6_readTitles 99 = .ok (.getfield 292, 3) := by decide +kernel
theorem dX6_readTitles_102 : decode cX6_readTitles 102 = .ok (.isub, 1) := by decide +kernel
theorem dX6_readTitles_103 : decode cX6_readTitles 103 = .ok (.iastore, 1) := by decide +kernel
theorem dX6_readTitles_104 : decode cX6_readTitles 104 = .ok (.aload_n 0, 1) := by decide +kernel
theorem dX6_readTitles_105 : decode cX6_readTitles 105 = .ok (.getfield 78, 3) := by decide +kernel
theorem dX6_readTitles_108 : decode cX6_readTitles 108 = .ok (.aload 6, 2) := by decide +kernel
theorem dX6_readTitles_110 : decode cX6_readTitles 110 = .ok (.getfield 289, 3) := by decide +kernel
theorem dX6_readTitles_113 : decode cX6_readTitles 113 = .ok (.dup2, 1) := by decide +kernel
theorem dX6_readTitles_114 : decode cX6_readTitles 114 = .ok (.iaload, 1) := by decide +kernel
theorem dX6_readTitles_115 : decode cX6_readTitles 115 = .ok (.aload 6, 2) := by decide +kernel
theorem dX6_readTitles_117 : decode cX6_readTitles 117 = .ok (.getfield 292, 3) := by decide +kernel
theorem dX6_readTitles_120 : decode cX6_readTitles 120 = .ok (.iadd, 1) := by decide +kernel
theorem dX6_readTitles_121 : decode cX6_readTitles 121 = .ok (.iastore, 1) := by decide +kernel
theorem dX6_readTitles_122 : decode cX6_readTitles 122 = .ok (.iinc 5 1, 3) := by decide +kernel
theorem dX6_readTitles_125 : decode cX6_readTitles 125 = .ok (.goto (-78), 3) := by decide +kernel
theorem dX6_readTitles_128 : decode cX6_readTitles 128 = .ok (.return_, 1) := by decide +kernel
theorem dX6_taxIn_0 : decode cX6_taxIn 0 = .ok (.iload_n 1, 1) := by decide +kernel
theorem dX6_taxIn_1 : decode cX6_taxIn 1 = .ok (.istore_n 2, 1) := by decide +kernel
theorem dX6_taxIn_2 : decode cX6_taxIn 2 = .ok (.iload_n 2, 1) := by decide +kernel
theorem dX6_taxIn_3 : decode cX6_taxIn 3 = .ok (.ifCond .lt 26, 3) := by decide +kernel
theorem dX6_taxIn_6 : decode cX6_taxIn 6 = .ok (.aload_n 0, 1) := by decide +kernel
theorem dX6_taxIn_7 : decode cX6_taxIn 7 = .ok (.getfield 58, 3) := by decide +kernel
theorem dX6_taxIn_10 : decode cX6_taxIn 10 = .ok (.iload_n 2, 1) := by decide +kernel
theorem dX6_taxIn_11 : decode cX6_taxIn 11 = .ok (.iaload, 1) := by decide +kernel
theorem dX6_taxIn_12 : decode cX6_taxIn 12 = .ok (.iconst (-1), 1) := by decide +kernel
theorem dX6_taxIn_13 : decode cX6_taxIn 13 = .ok (.if_icmp .eq 10, 3) := by decide +kernel
theorem dX6_taxIn_16 : decode cX6_taxIn 16 = .ok (.aload_n 0, 1) := by decide +kernel
theorem dX6_taxIn_17 : decode cX6_taxIn 17 = .ok (.getfield 58, 3) := by decide +kernel
theorem dX6_taxIn_20 : decode cX6_taxIn 20 = .ok (.iload_n 2, 1) := by decide +kernel
theorem dX6_taxIn_21 : decode cX6_taxIn 21 = .ok (.iaload, 1) := by decide +kernel
theorem dX6_taxIn_22 : decode cX6_taxIn 22 = .ok (.ireturn, 1) := by decide +kernel
theorem dX6_taxIn_23 : decode cX6_taxIn 23 = .ok (.iinc 2 (-1), 3) := by decide +kernel
theorem dX6_taxIn_26 : decode cX6_taxIn 26 = .ok (.goto (-24), 3) := by decide +kernel
theorem dX6_taxIn_29 : decode cX6_taxIn 29 = .ok (.iconst 0, 1) := by decide +kernel
theorem dX6_taxIn_30 : decode cX6_taxIn 30 = .ok (.ireturn, 1) := by decide +kernel
set_option maxRecDepth 20000 in
theorem ggX6_revenueOf_X6_taxIn : GoodIn wsX6_revenueOf wsX6_taxIn := goodIn_r _ [7, 8, 16, 17, 18, 19, 20, 21, 22, 23, 24, 25, 26, 27, 28, 29, 30, 31, 32, 33, 34, 35] (by decide +kernel) (by decide +kernel)
set_option maxRecDepth 20000 in
theorem gX6_revenueOf_X6_taxIn : GoodIn wsX6_revenueOf (wsV RX6 227 RX6 yX6_taxIn wsX6_taxIn) := goodIn_app (goodIn_of _ (by decide +kernel)) ggX6_revenueOf_X6_taxIn
theorem dX6_revenueOf_0 : decode cX6_revenueOf 0 = .ok (.aload_n 1, 1) := by decide +kernel
theorem dX6_revenueOf_1 : decode cX6_revenueOf 1 = .ok (.getfield 303, 3) := by decide +kernel
theorem dX6_revenueOf_4 : decode cX6_revenueOf 4 = .ok (.iload_n 2, 1) := by decide +kernel
theorem dX6_revenueOf_5 : decode cX6_revenueOf 5 = .ok (.iaload, 1) := by decide +kernel
theorem dX6_revenueOf_6 : decode cX6_revenueOf 6 = .ok (.i2l, 1) := by decide +kernel
theorem dX6_revenueOf_7 : decode cX6_revenueOf 7 = .ok (.lstore_n 3, 1) := by decide +kernel
theorem dX6_revenueOf_8 : decode cX6_revenueOf 8 = .ok (.lload_n 3, 1) := by decide +kernel
theorem dX6_revenueOf_9 : decode cX6_revenueOf 9 = .ok (.lload_n 3, 1) := by decide +kernel
theorem dX6_revenueOf_10 : decode cX6_revenueOf 10 = .ok (.aload_n 0, 1) := by decide +kernel
theorem dX6_revenueOf_11 : decode cX6_revenueOf 11 = .ok (.iload_n 2, 1) := by decide +kernel
theorem dX6_revenueOf_12 : decode cX6_revenueOf 12 = .ok (.invokevirtual 227, 3) := by decide +kernel
theorem dX6_revenueOf_15 : decode cX6_revenueOf 15 = .ok (.i2l, 1) := by decide +kernel
theorem dX6_revenueOf_16 : decode cX6_revenueOf 16 = .ok (.lmul, 1) := by decide +kernel
theorem dX6_revenueOf_17 : decode cX6_revenueOf 17 = .ok (.ldc2_w 306, 3) := by decide +kernel
theorem dX6_revenueOf_20 : decode cX6_revenueOf 20 = .ok (.ldiv, 1) := by decide +kernel
theorem dX6_revenueOf_21 : decode cX6_revenueOf 21 = .ok (.lsub, 1) := by decide +kernel
theorem dX6_revenueOf_22 : decode cX6_revenueOf 22 = .ok (.lreturn, 1) := by decide +kernel
set_option maxRecDepth 20000 in
theorem ggX6_layDeck_X2_clear : GoodIn wsX6_layDeck wsX2_clear := goodIn_r _ [8, 9, 72, 73, 74] (by decide +kernel) (by decide +kernel)
set_option maxRecDepth 20000 in
theorem gX6_layDeck_X2_clear : GoodIn wsX6_layDeck (wsV RX6 308 RX2 yX2_clear wsX2_clear) := goodIn_app (goodIn_of _ (by decide +kernel)) ggX6_layDeck_X2_clear
set_option maxRecDepth 20000 in
theorem ggX6_layDeck_X6_layTract : GoodIn wsX6_layDeck wsX6_layTract := goodIn_r _ [14, 15, 16, 1, 17, 18, 19, 20, 21, 22, 23, 13, 24, 25, 26, 27, 28, 29, 30, 31, 32, 33, 34, 35, 36, 37, 38, 39, 40, 41, 42, 43, 44, 45, 46, 47, 48, 49, 50, 51, 52, 53, 54, 55, 56, 57, 58, 59, 60, 61, 62, 63, 64, 65, 66, 67, 68, 69, 70, 71, 72, 73, 74, 75, 76, 77, 78, 79, 80, 81, 82, 83, 84, 85, 86, 87, 88, 89, 90, 91, 92] (by decide +kernel) (by decide +kernel)
set_option maxRecDepth 20000 in
theorem gX6_layDeck_X6_layTract : GoodIn wsX6_layDeck (wsV RX6 311 RX6 yX6_layTract wsX6_layTract) := goodIn_app (goodIn_of _ (by decide +kernel)) ggX6_layDeck_X6_layTract
theorem dX6_layDeck_0 : decode cX6_layDeck 0 = .ok (.aload_n 0, 1) := by decide +kernel
theorem dX6_layDeck_1 : decode cX6_layDeck 1 = .ok (.getfield 86, 3) := by decide +kernel
theorem dX6_layDeck_4 : decode cX6_layDeck 4 = .ok (.invokevirtual 308, 3) := by decide +kernel
theorem dX6_layDeck_7 : decode cX6_layDeck 7 = .ok (.aload_n 0, 1) := by decide +kernel
theorem dX6_layDeck_8 : decode cX6_layDeck 8 = .ok (.getfield 15, 3) := by decide +kernel
theorem dX6_layDeck_11 : decode cX6_layDeck 11 = .ok (.astore_n 3, 1) := by decide +kernel
theorem dX6_layDeck_12 : decode cX6_layDeck 12 = .ok (.aload_n 3, 1) := by decide +kernel
theorem dX6_layDeck_13 : decode cX6_layDeck 13 = .ok (.arraylength, 1) := by decide +kernel
theorem dX6_layDeck_14 : decode cX6_layDeck 14 = .ok (.istore 4, 2) := by decide +kernel
theorem dX6_layDeck_16 : decode cX6_layDeck 16 = .ok (.iconst 0, 1) := by decide +kernel
theorem dX6_layDeck_17 : decode cX6_layDeck 17 = .ok (.istore 5, 2) := by decide +kernel
theorem dX6_layDeck_19 : decode cX6_layDeck 19 = .ok (.iload 5, 2) := by decide +kernel
theorem dX6_layDeck_21 : decode cX6_layDeck 21 = .ok (.iload 4, 2) := by decide +kernel
theorem dX6_layDeck_23 : decode cX6_layDeck 23 = .ok (.if_icmp .ge 39, 3) := by decide +kernel
theorem dX6_layDeck_26 : decode cX6_layDeck 26 = .ok (.aload_n 3, 1) := by decide +kernel
theorem dX6_layDeck_27 : decode cX6_layDeck 27 = .ok (.iload 5, 2) := by decide +kernel
theorem dX6_layDeck_29 : decode cX6_layDeck 29 = .ok (.aaload, 1) := by decide +kernel
theorem dX6_layDeck_30 : decode cX6_layDeck 30 = .ok (.astore 6, 2) := by decide +kernel
theorem dX6_layDeck_32 : decode cX6_layDeck 32 = .ok (.aload 6, 2) := by decide +kernel
theorem dX6_layDeck_34 : decode cX6_layDeck 34 = .ok (.ifnonnull 6, 3) := by decide +kernel
theorem dX6_layDeck_37 : decode cX6_layDeck 37 = .ok (.goto 25, 3) := by decide +kernel
theorem dX6_layDeck_40 : decode cX6_layDeck 40 = .ok (.aload 6, 2) := by decide +kernel
theorem dX6_layDeck_42 : decode cX6_layDeck 42 = .ok (.getfield 179, 3) := by decide +kernel
theorem dX6_layDeck_45 : decode cX6_layDeck 45 = .ok (.aload_n 1, 1) := by decide +kernel
theorem dX6_layDeck_46 : decode cX6_layDeck 46 = .ok (.if_acmp .ne 10, 3) := by decide +kernel
theorem dX6_layDeck_49 : decode cX6_layDeck 49 = .ok (.aload_n 0, 1) := by decide +kernel
theorem dX6_layDeck_50 : decode cX6_layDeck 50 = .ok (.aload 6, 2) := by decide +kernel
theorem dX6_layDeck_52 : decode cX6_layDeck 52 = .ok (.iload_n 2, 1) := by decide +kernel
theorem dX6_layDeck_53 : decode cX6_layDeck 53 = .ok (.invokevirtual 311, 3) := by decide +kernel
theorem dX6_layDeck_56 : decode cX6_layDeck 56 = .ok (.iinc 5 1, 3) := by decide +kernel
theorem dX6_layDeck_59 : decode cX6_layDeck 59 = .ok (.goto (-40), 3) := by decide +kernel
theorem dX6_layDeck_62 : decode cX6_layDeck 62 = .ok (.return_, 1) := by decide +kernel
set_option maxRecDepth 20000 in
theorem ggX6_layTract_X6_readTitles : GoodIn wsX6_layTract wsX6_readTitles := goodIn_r _ [12, 1, 13, 14, 15, 16, 17, 18, 19, 37, 38, 39, 40, 41, 42, 43, 44, 45, 46, 47, 48, 49, 50, 51, 52, 53, 54, 55, 56, 57, 58, 59, 69, 70, 71, 72, 73] (by decide +kernel) (by decide +kernel)
set_option maxRecDepth 20000 in
theorem gX6_layTract_X6_readTitles : GoodIn wsX6_layTract (wsV RX6 315 RX6 yX6_readTitles wsX6_readTitles) := goodIn_app (goodIn_of _ (by decide +kernel)) ggX6_layTract_X6_readTitles
set_option maxRecDepth 20000 in
theorem ggX6_layTract_X6_leaseThatCounts : GoodIn wsX6_layTract wsX6_leaseThatCounts := goodIn_r _ [23, 24, 25, 26, 27, 28, 29, 30, 31, 32, 33, 34, 35, 36, 37, 38, 39, 40, 41, 42, 43, 44, 45, 46, 47, 48, 49, 50, 51, 52, 53, 54, 55, 56, 63, 64, 65, 66, 67, 68, 57, 58, 59, 74, 75, 76, 77, 78, 79, 80] (by decide +kernel) (by decide +kernel)
set_option maxRecDepth 20000 in
theorem gX6_layTract_X6_leaseThatCounts : GoodIn wsX6_layTract (wsV RX6 321 RX6 yX6_leaseThatCounts wsX6_leaseThatCounts) := goodIn_app (goodIn_of _ (by decide +kernel)) ggX6_layTract_X6_leaseThatCounts
theorem dX6_layTract_0 : decode cX6_layTract 0 = .ok (.aload_n 0, 1) := by decide +kernel
theorem dX6_layTract_1 : decode cX6_layTract 1 = .ok (.aload_n 1, 1) := by decide +kernel
theorem dX6_layTract_2 : decode cX6_layTract 2 = .ok (.iload_n 2, 1) := by decide +kernel
theorem dX6_layTract_3 : decode cX6_layTract 3 = .ok (.invokevirtual 315, 3) := by decide +kernel
theorem dX6_layTract_6 : decode cX6_layTract 6 = .ok (.iconst 0, 1) := by decide +kernel
theorem dX6_layTract_7 : decode cX6_layTract 7 = .ok (.istore_n 3, 1) := by decide +kernel
theorem dX6_layTract_8 : decode cX6_layTract 8 = .ok (.iload_n 3, 1) := by decide +kernel
theorem dX6_layTract_9 : decode cX6_layTract 9 = .ok (.bipush 10, 2) := by decide +kernel
theorem dX6_layTract_11 : decode cX6_layTract 11 = .ok (.if_icmp .ge 124, 3) := by decide +kernel
theorem dX6_layTract_14 : decode cX6_layTract 14 = .ok (.aload_n 0, 1) := by decide +kernel
theorem dX6_layTract_15 : decode cX6_layTract 15 = .ok (.getfield 78, 3) := by decide +kernel
theorem dX6_layTract_18 : decode cX6_layTract 18 = .ok (.iload_n 3, 1) := by decide +kernel
theorem dX6_layTract_19 : decode cX6_layTract 19 = .ok (.iaload, 1) := by decide +kernel
theorem dX6_layTract_20 : decode cX6_layTract 20 = .ok (.ifCond .le 109, 3) := by decide +kernel
theorem dX6_layTract_23 : decode cX6_layTract 23 = .ok (.aload_n 1, 1) := by decide +kernel
theorem dX6_layTract_24 : decode cX6_layTract 24 = .ok (.getfield 318, 3) := by decide +kernel
theorem dX6_layTract_27 : decode cX6_layTract 27 = .ok (.i2l, 1) := by decide +kernel
theorem dX6_layTract_28 : decode cX6_layTract 28 = .ok (.aload_n 0, 1) := by decide +kernel
theorem dX6_layTract_29 : decode cX6_layTract 29 = .ok (.getfield 78, 3) := by decide +kernel
theorem dX6_layTract_32 : decode cX6_layTract 32 = .ok (.iload_n 3, 1) := by decide +kernel
theorem dX6_layTract_33 : decode cX6_layTract 33 = .ok (.iaload, 1) := by decide +kernel
theorem dX6_layTract_34 : decode cX6_layTract 34 = .ok (.i2l, 1) := by decide +kernel
theorem dX6_layTract_35 : decode cX6_layTract 35 = .ok (.lmul, 1) := by decide +kernel
theorem dX6_layTract_36 : decode cX6_layTract 36 = .ok (.lstore 4, 2) := by decide +kernel
theorem dX6_layTract_38 : decode cX6_layTract 38 = .ok (.aload_n 0, 1) := by decide +kernel
theorem dX6_layTract_39 : decode cX6_layTract 39 = .ok (.aload_n 1, 1) := by decide +kernel
theorem dX6_layTract_40 : decode cX6_layTract 40 = .ok (.iload_n 3, 1) := by decide +kernel
theorem dX6_layTract_41 : decode cX6_layTract 41 = .ok (.iload_n 2, 1) := by decide +kernel
theorem dX6_layTract_42 : decode cX6_layTract 42 = .ok (.invokevirtual 321, 3) := by decide +kernel
theorem dX6_layTract_45 : decode cX6_layTract 45 = .ok (.astore 6, 2) := by decide +kernel
theorem dX6_layTract_47 : decode cX6_layTract 47 = .ok (.aload 6, 2) := by decide +kernel
theorem dX6_layTract_49 : decode cX6_layTract 49 = .ok (.ifnonnull 27, 3) := by decide +kernel
theorem dX6_layTract_52 : decode cX6_layTract 52 = .ok (.aload_n 0, 1) := by decide +kernel
theorem dX6_layTract_53 : decode cX6_layTract 53 = .ok (.getfield 86, 3) := by decide +kernel
theorem dX6_layTract_56 : decode cX6_layTract 56 = .ok (.getfield 325, 3) := by decide +kernel
theorem dX6_layTract_59 : decode cX6_layTract 59 = .ok (.bipush 10, 2) := by decide +kernel
theorem dX6_layTract_61 : decode cX6_layTract 61 = .ok (.iload_n 3, 1) := by decide +kernel
theorem dX6_layTract_62 : decode cX6_layTract 62 = .ok (.iadd, 1) := by decide +kernel
theorem dX6_layTract_63 : decode cX6_layTract 63 = .ok (.dup2, 1) := by decide +kernel
theorem dX6_layTract_64 : decode cX6_layTract 64 = .ok (.laload, 1) := by decide +kernel
theorem dX6_layTract_65 : decode cX6_layTract 65 = .ok (.lload 4, 2) := by decide +kernel
theorem dX6_layTract_67 : decode cX6_layTract 67 = .ok (.ldc2_w 328, 3) := by decide +kernel
theorem dX6_layTract_70 : decode cX6_layTract 70 = .ok (.lmul, 1) := by decide +kernel
theorem dX6_layTract_71 : decode cX6_layTract 71 = .ok (.ladd, 1) := by decide +kernel
theorem dX6_layTract_72 : decode cX6_layTract 72 = .ok (.lastore, 1) := by decide +kernel
theorem dX6_layTract_73 : decode cX6_layTract 73 = .ok (.goto 56, 3) := by decide +kernel
theorem dX6_layTract_76 : decode cX6_layTract 76 = .ok (.aload_n 0, 1) := by decide +kernel
theorem dX6_layTract_77 : decode cX6_layTract 77 = .ok (.getfield 86, 3) := by decide +kernel
theorem dX6_layTract_80 : decode cX6_layTract 80 = .ok (.getfield 325, 3) := by decide +kernel
theorem dX6_layTract_83 : decode cX6_layTract 83 = .ok (.iload_n 3, 1) := by decide +kernel
theorem dX6_layTract_84 : decode cX6_layTract 84 = .ok (.dup2, 1) := by decide +kernel
theorem dX6_layTract_85 : decode cX6_layTract 85 = .ok (.laload, 1) := by decide +kernel
theorem dX6_layTract_86 : decode cX6_layTract 86 = .ok (.lload 4, 2) := by decide +kernel
theorem dX6_layTract_88 : decode cX6_layTract 88 = .ok (.aload 6, 2) := by decide +kernel
theorem dX6_layTract_90 : decode cX6_layTract 90 = .ok (.getfield 330, 3) := by decide +kernel
theorem dX6_layTract_93 : decode cX6_layTract 93 = .ok (.i2l, 1) := by decide +kernel
theorem dX6_layTract_94 : decode cX6_layTract 94 = .ok (.lmul, 1) := by decide +kernel
theorem dX6_layTract_95 : decode cX6_layTract 95 = .ok (.ladd, 1) := by decide +kernel
theorem dX6_layTract_96 : decode cX6_layTract 96 = .ok (.lastore, 1) := by decide +kernel
theorem dX6_layTract_97 : decode cX6_layTract 97 = .ok (.aload_n 0, 1) := by decide +kernel
theorem dX6_layTract_98 : decode cX6_layTract 98 = .ok (.getfield 86, 3) := by decide +kernel
theorem dX6_layTract_101 : decode cX6_layTract 101 = .ok (.getfield 325, 3) := by decide +kernel
theorem dX6_layTract_104 : decode cX6_layTract 104 = .ok (.bipush 10, 2) := by decide +kernel
theorem dX6_layTract_106 : decode cX6_layTract 106 = .ok (.aload 6, 2) := by decide +kernel
theorem dX6_layTract_108 : decode cX6_layTract 108 = .ok (.getfield 333, 3) := by decide +kernel
theorem dX6_layTract_111 : decode cX6_layTract 111 = .ok (.iadd, 1) := by decide +kernel
theorem dX6_layTract_112 : decode cX6_layTract 112 = .ok (.dup2, 1) := by decide +kernel
theorem dX6_layTract_113 : decode cX6_layTract 113 = .ok (.laload, 1) := by decide +kernel
theorem dX6_layTract_114 : decode cX6_layTract 114 = .ok (.lload 4, 2) := by decide +kernel
theorem dX6_layTract_116 : decode cX6_layTract 116 = .ok (.sipush 1000, 3) := by decide +kernel
theorem dX6_layTract_119 : decode cX6_layTract 119 = .ok (.aload 6, 2) := by decide +kernel
theorem dX6_layTract_121 : decode cX6_layTract 121 = .ok (.getfield 330, 3) := by decide +kernel
theorem dX6_layTract_124 : decode cX6_layTract 124 = .ok (.isub, 1) := by decide +kernel
theorem dX6_layTract_125 : decode cX6_layTract 125 = .ok (.i2l, 1) := by decide +kernel
theorem dX6_layTract_126 : decode cX6_layTract 126 = .ok (.lmul, 1) := by decide +kernel
theorem dX6_layTract_127 : decode cX6_layTract 127 = .ok (.ladd, 1) := by decide +kernel
theorem dX6_layTract_128 : decode cX6_layTract 128 = .ok (.lastore, 1) := by decide +kernel
theorem dX6_layTract_129 : decode cX6_layTract 129 = .ok (.iinc 3 1, 3) := by decide +kernel
theorem dX6_layTract_132 : decode cX6_layTract 132 = .ok (.goto (-124), 3) := by decide +kernel
theorem dX6_layTract_135 : decode cX6_layTract 135 = .ok (.return_, 1) := by decide +kernel
set_option maxRecDepth 20000 in
theorem ggX6_leaseThatCounts_X1_isInForce : GoodIn wsX6_leaseThatCounts wsX1_isInForce := goodIn_r _ [8, 9, 10, 11, 12, 13, 34, 35, 36, 37, 38, 39, 40, 41, 42, 43, 44, 45, 46, 47, 48, 49] (by decide +kernel) (by decide +kernel)
set_option maxRecDepth 20000 in
theorem gX6_leaseThatCounts_X1_isInForce : GoodIn wsX6_leaseThatCounts (wsV RX6 164 RX1 yX1_isInForce wsX1_isInForce) := goodIn_app (goodIn_of _ (by decide +kernel)) ggX6_leaseThatCounts_X1_isInForce
theorem dX6_leaseThatCounts_0 : decode cX6_leaseThatCounts 0 = .ok (.aload_n 0, 1) := by decide +kernel
theorem dX6_leaseThatCounts_1 : decode cX6_leaseThatCounts 1 = .ok (.getfield 33, 3) := by decide +kernel
theorem dX6_leaseThatCounts_4 : decode cX6_leaseThatCounts 4 = .ok (.astore 4, 2) := by decide +kernel
theorem dX6_leaseThatCounts_6 : decode cX6_leaseThatCounts 6 = .ok (.aload 4, 2) := by decide +kernel
theorem dX6_leaseThatCounts_8 : decode cX6_leaseThatCounts 8 = .ok (.arraylength, 1) := by decide +kernel
theorem dX6_leaseThatCounts_9 : decode cX6_leaseThatCounts 9 = .ok (.istore 5, 2) := by decide +kernel
theorem dX6_leaseThatCounts_11 : decode cX6_leaseThatCounts 11 = .ok (.iconst 0, 1) := by decide +kernel
theorem dX6_leaseThatCounts_12 : decode cX6_leaseThatCounts 12 = .ok (.istore 6, 2) := by decide +kernel
theorem dX6_leaseThatCounts_14 : decode cX6_leaseThatCounts 14 = .ok (.iload 6, 2) := by decide +kernel
theorem dX6_leaseThatCounts_16 : decode cX6_leaseThatCounts 16 = .ok (.iload 5, 2) := by decide +kernel
theorem dX6_leaseThatCounts_18 : decode cX6_leaseThatCounts 18 = .ok (.if_icmp .ge 54, 3) := by decide +kernel
theorem dX6_leaseThatCounts_21 : decode cX6_leaseThatCounts 21 = .ok (.aload 4, 2) := by decide +kernel
theorem dX6_leaseThatCounts_23 : decode cX6_leaseThatCounts 23 = .ok (.iload 6, 2) := by decide +kernel
theorem dX6_leaseThatCounts_25 : decode cX6_leaseThatCounts 25 = .ok (.aaload, 1) := by decide +kernel
theorem dX6_leaseThatCounts_26 : decode cX6_leaseThatCounts 26 = .ok (.astore 7, 2) := by decide +kernel
theorem dX6_leaseThatCounts_28 : decode cX6_leaseThatCounts 28 = .ok (.aload 7, 2) := by decide +kernel
theorem dX6_leaseThatCounts_30 : decode cX6_leaseThatCounts 30 = .ok (.ifnonnull 6, 3) := by decide +kernel
theorem dX6_leaseThatCounts_33 : decode cX6_leaseThatCounts 33 = .ok (.goto 39, 3) := by decide +kernel
theorem dX6_leaseThatCounts_36 : decode cX6_leaseThatCounts 36 = .ok (.aload 7, 2) := by decide +kernel
theorem dX6_leaseThatCounts_38 : decode cX6_leaseThatCounts 38 = .ok (.getfield 336, 3) := by decide +kernel
theorem dX6_leaseThatCounts_41 : decode cX6_leaseThatCounts 41 = .ok (.aload_n 1, 1) := by decide +kernel
theorem dX6_leaseThatCounts_42 : decode cX6_leaseThatCounts 42 = .ok (.if_acmp .ne 24, 3) := by decide +kernel
theorem dX6_leaseThatCounts_45 : decode cX6_leaseThatCounts 45 = .ok (.aload 7, 2) := by decide +kernel
theorem dX6_leaseThatCounts_47 : decode cX6_leaseThatCounts 47 = .ok (.getfield 337, 3) := by decide +kernel
theorem dX6_leaseThatCounts_50 : decode cX6_leaseThatCounts 50 = .ok (.iload_n 2, 1) := by decide +kernel
theorem dX6_leaseThatCounts_51 : decode cX6_leaseThatCounts 51 = .ok (.if_icmp .ne 15, 3) := by decide +kernel
theorem dX6_leaseThatCounts_54 : decode cX6_leaseThatCounts 54 = .ok (.aload 7, 2) := by decide +kernel
theorem dX6_leaseThatCounts_56 : decode cX6_leaseThatCounts 56 = .ok (.iload_n 3, 1) := by decide +kernel
theorem dX6_leaseThatCounts_57 : decode cX6_leaseThatCounts 57 = .ok (.invokevirtual 164, 3) := by decide +kernel
theorem dX6_leaseThatCounts_60 : decode cX6_leaseThatCounts 60 = .ok (.ifCond .eq 6, 3) := by decide +kernel
theorem dX6_leaseThatCounts_63 : decode cX6_leaseThatCounts 63 = .ok (.aload 7, 2) := by decide +kernel
theorem dX6_leaseThatCounts_65 : decode cX6_leaseThatCounts 65 = .ok (.areturn, 1) := by decide +kernel
theorem dX6_leaseThatCounts_66 : decode cX6_leaseThatCounts 66 = .ok (.iinc 6 1, 3) := by decide +kernel
theorem dX6_leaseThatCounts_69 : decode cX6_leaseThatCounts 69 = .ok (.goto (-55), 3) := by decide +kernel
theorem dX6_leaseThatCounts_72 : decode cX6_leaseThatCounts 72 = .ok (.aconst_null, 1) := by decide +kernel
theorem dX6_leaseThatCounts_73 : decode cX6_leaseThatCounts 73 = .ok (.areturn, 1) := by decide +kernel
theorem dX6_unsettle_0 : decode cX6_unsettle 0 = .ok (.aload_n 0, 1) := by decide +kernel
theorem dX6_unsettle_1 : decode cX6_unsettle 1 = .ok (.aload_n 0, 1) := by decide +kernel
theorem dX6_unsettle_2 : decode cX6_unsettle 2 = .ok (.getfield 75, 3) := by decide +kernel
theorem dX6_unsettle_5 : decode cX6_unsettle 5 = .ok (.iload_n 1, 1) := by decide +kernel
theorem dX6_unsettle_6 : decode cX6_unsettle 6 = .ok (.invokestatic 297, 3) := by decide +kernel
theorem dX6_unsettle_9 : decode cX6_unsettle 9 = .ok (.putfield 75, 3) := by decide +kernel
theorem dX6_unsettle_12 : decode cX6_unsettle 12 = .ok (.return_, 1) := by decide +kernel
set_option maxRecDepth 20000 in
theorem ggX6_settle_X6_settleMonth : GoodIn wsX6_settle wsX6_settleMonth := goodIn_r _ [9, 10, 11, 12, 13, 14, 15, 16, 17, 18, 19, 20, 21, 22, 8, 23, 24, 25, 26, 27, 28, 29, 30, 31, 32, 33, 34, 35, 36, 37, 38, 39, 40, 41, 42, 43, 44, 45, 46, 47, 48, 49, 50, 51, 52, 53, 54, 55, 56, 57, 58, 59, 60, 61, 62, 63, 64, 65, 66, 67, 68, 69, 70, 71, 72, 73, 74, 75, 76, 77, 78, 79, 80, 81, 82, 83, 84, 85, 86, 87, 88, 89, 90, 91, 92, 93, 94, 95, 96, 97, 98, 99, 100, 101, 102, 103, 104, 105, 106, 107, 108, 109, 110, 111, 112, 113, 114, 115, 116, 117, 118, 119, 120, 121, 122, 123, 144, 145, 146, 147, 148, 149, 150, 124, 125, 126, 127, 128, 129, 130, 131, 132, 133, 134, 135, 136, 137, 138, 139, 140, 141, 142, 143, 151, 152, 153, 154, 155, 156, 157, 158, 159, 160, 161, 162, 163, 164, 165, 166, 167] (by decide +kernel) (by decide +kernel)
set_option maxRecDepth 20000 in
theorem gX6_settle_X6_settleMonth : GoodIn wsX6_settle (wsV RX6 340 RX6 yX6_settleMonth wsX6_settleMonth) := goodIn_app (goodIn_of _ (by decide +kernel)) ggX6_settle_X6_settleMonth
theorem dX6_settle_0 : decode cX6_settle 0 = .ok (.aload_n 0, 1) := by decide +kernel
theorem dX6_settle_1 : decode cX6_settle 1 = .ok (.getfield 75, 3) := by decide +kernel
theorem dX6_settle_4 : decode cX6_settle 4 = .ok (.istore_n 1, 1) := by decide +kernel
theorem dX6_settle_5 : decode cX6_settle 5 = .ok (.iload_n 1, 1) := by decide +kernel
theorem dX6_settle_6 : decode cX6_settle 6 = .ok (.aload_n 0, 1) := by decide +kernel
theorem dX6_settle_7 : decode cX6_settle 7 = .ok (.getfield 9, 3) := by decide +kernel
theorem dX6_settle_10 : decode cX6_settle 10 = .ok (.if_icmp .gt 59, 3) := by decide +kernel
theorem dX6_settle_13 : decode cX6_settle 13 = .ok (.aload_n 0, 1) := by decide +kernel
theorem dX6_settle_14 : decode cX6_settle 14 = .ok (.getfield 42, 3) := by decide +kernel
theorem dX6_settle_17 : decode cX6_settle 17 = .ok (.astore_n 2, 1) := by decide +kernel
theorem dX6_settle_18 : decode cX6_settle 18 = .ok (.aload_n 2, 1) := by decide +kernel
theorem dX6_settle_19 : decode cX6_settle 19 = .ok (.arraylength, 1) := by decide +kernel
theorem dX6_settle_20 : decode cX6_settle 20 = .ok (.istore_n 3, 1) := by decide +kernel
theorem dX6_settle_21 : decode cX6_settle 21 = .ok (.iconst 0, 1) := by decide +kernel
theorem dX6_settle_22 : decode cX6_settle 22 = .ok (.istore 4, 2) := by decide +kernel
theorem dX6_settle_24 : decode cX6_settle 24 = .ok (.iload 4, 2) := by decide +kernel
theorem dX6_settle_26 : decode cX6_settle 26 = .ok (.iload_n 3, 1) := by decide +kernel
theorem dX6_settle_27 : decode cX6_settle 27 = .ok (.if_icmp .ge 36, 3) := by decide +kernel
theorem dX6_settle_30 : decode cX6_settle 30 = .ok (.aload_n 2, 1) := by decide +kernel
theorem dX6_settle_31 : decode cX6_settle 31 = .ok (.iload 4, 2) := by decide +kernel
theorem dX6_settle_33 : decode cX6_settle 33 = .ok (.aaload, 1) := by decide +kernel
theorem dX6_settle_34 : decode cX6_settle 34 = .ok (.astore 5, 2) := by decide +kernel
theorem dX6_settle_36 : decode cX6_settle 36 = .ok (.aload 5, 2) := by decide +kernel
theorem dX6_settle_38 : decode cX6_settle 38 = .ok (.ifnull 19, 3) := by decide +kernel
theorem dX6_settle_41 : decode cX6_settle 41 = .ok (.aload 5, 2) := by decide +kernel
theorem dX6_settle_43 : decode cX6_settle 43 = .ok (.getfield 203, 3) := by decide +kernel
theorem dX6_settle_46 : decode cX6_settle 46 = .ok (.iload_n 1, 1) := by decide +kernel
theorem dX6_settle_47 : decode cX6_settle 47 = .ok (.if_icmp .gt 10, 3) := by decide +kernel
theorem dX6_settle_50 : decode cX6_settle 50 = .ok (.aload_n 0, 1) := by decide +kernel
theorem dX6_settle_51 : decode cX6_settle 51 = .ok (.aload 5, 2) := by decide +kernel
theorem dX6_settle_53 : decode cX6_settle 53 = .ok (.iload_n 1, 1) := by decide +kernel
theorem dX6_settle_54 : decode cX6_settle 54 = .ok (.invokevirtual 340, 3) := by decide +kernel
theorem dX6_settle_57 : decode cX6_settle 57 = .ok (.iinc 4 1, 3) := by decide +kernel
theorem dX6_settle_60 : decode cX6_settle 60 = .ok (.goto (-36), 3) := by decide +kernel
theorem dX6_settle_63 : decode cX6_settle 63 = .ok (.iinc 1 1, 3) := by decide +kernel
theorem dX6_settle_66 : decode cX6_settle 66 = .ok (.goto (-61), 3) := by decide +kernel
theorem dX6_settle_69 : decode cX6_settle 69 = .ok (.aload_n 0, 1) := by decide +kernel
theorem dX6_settle_70 : decode cX6_settle 70 = .ok (.aload_n 0, 1) := by decide +kernel
theorem dX6_settle_71 : decode cX6_settle 71 = .ok (.getfield 9, 3) := by decide +kernel
theorem dX6_settle_74 : decode cX6_settle 74 = .ok (.iconst 1, 1) := by decide +kernel
theorem dX6_settle_75 : decode cX6_settle 75 = .ok (.iadd, 1) := by decide +kernel
theorem dX6_settle_76 : decode cX6_settle 76 = .ok (.putfield 75, 3) := by decide +kernel
theorem dX6_settle_79 : decode cX6_settle 79 = .ok (.return_, 1) := by decide +kernel
set_option maxRecDepth 20000 in
theorem ggX6_settleMonth_X4_openMonth : GoodIn wsX6_settleMonth wsX4_openMonth := goodIn_r _ [7, 8, 9, 10, 116, 117, 118, 119, 120, 121, 122] (by decide +kernel) (by decide +kernel)
set_option maxRecDepth 20000 in
theorem gX6_settleMonth_X4_openMonth : GoodIn wsX6_settleMonth (wsV RX6 343 RX4 yX4_openMonth wsX4_openMonth) := goodIn_app (goodIn_of _ (by decide +kernel)) ggX6_settleMonth_X4_openMonth
set_option maxRecDepth 20000 in
theorem ggX6_settleMonth_X6_layDeck : GoodIn wsX6_settleMonth wsX6_layDeck := goodIn_r _ [15, 16, 17, 18, 19, 20, 21, 22, 23, 24, 25, 26, 27, 14, 28, 29, 30, 31, 32, 33, 34, 35, 36, 37, 38, 39, 40, 41, 42, 43, 44, 45, 46, 47, 48, 49, 50, 51, 52, 53, 54, 55, 56, 57, 58, 59, 60, 61, 62, 123, 124, 125, 126, 127, 128, 129, 130, 131, 132, 133, 134, 135, 136, 137, 138, 139, 140, 141, 142, 143, 144, 145, 146, 147, 148, 149, 150, 151, 152, 153, 154, 155, 156, 157, 158, 159, 116, 117, 118, 119, 120, 121, 122] (by decide +kernel) (by decide +kernel)
set_option maxRecDepth 20000 in
theorem gX6_settleMonth_X6_layDeck : GoodIn wsX6_settleMonth (wsV RX6 246 RX6 yX6_layDeck wsX6_layDeck) := goodIn_app (goodIn_of _ (by decide +kernel)) ggX6_settleMonth_X6_layDeck
set_option maxRecDepth 20000 in
theorem ggX6_settleMonth_X6_carriedOwners : GoodIn wsX6_settleMonth wsX6_carriedOwners := goodIn_r _ [66, 16, 31, 67, 68, 69, 70, 14, 71, 72, 73, 74, 123, 124, 125, 126, 127, 128, 129, 130, 131, 132, 133, 134, 135, 136, 137, 138, 139, 140, 141, 142, 146, 147, 148, 116, 117, 118, 119, 120, 121, 122] (by decide +kernel) (by decide +kernel)
set_option maxRecDepth 20000 in
theorem gX6_settleMonth_X6_carriedOwners : GoodIn wsX6_settleMonth (wsV RX6 346 RX6 yX6_carriedOwners wsX6_carriedOwners) := goodIn_app (goodIn_of _ (by decide +kernel)) ggX6_settleMonth_X6_carriedOwners
set_option maxRecDepth 20000 in
theorem ggX6_settleMonth_X6_bookCosts : GoodIn wsX6_settleMonth wsX6_bookCosts := goodIn_r _ [78, 2, 68, 79, 80, 81, 82, 83, 84, 85, 86, 14, 87, 31, 16, 69, 70, 71, 88, 89, 90, 22, 91, 24, 92, 93, 94, 95, 96, 97, 98, 116, 117, 118, 119, 120, 121, 122, 123, 124, 125, 126, 127, 128, 129, 130, 131, 132, 133, 134, 135, 136, 137, 138, 139, 140, 141, 142, 146, 147, 148] (by decide +kernel) (by decide +kernel)
set_option maxRecDepth 20000 in
theorem gX6_settleMonth_X6_bookCosts : GoodIn wsX6_settleMonth (wsV RX6 350 RX6 yX6_bookCosts wsX6_bookCosts) := goodIn_app (goodIn_of _ (by decide +kernel)) ggX6_settleMonth_X6_bookCosts
set_option maxRecDepth 20000 in
theorem ggX6_settleMonth_X6_bookRevenue : GoodIn wsX6_settleMonth wsX6_bookRevenue := goodIn_r _ [102, 16, 80, 68, 103, 104, 105, 106, 83, 79, 107, 108, 109, 14, 110, 1, 82, 111, 112, 113, 114, 115, 88, 89, 90, 22, 91, 24, 92, 93, 94, 95, 96, 97, 98, 69, 70, 71, 84, 85, 86, 87, 31, 123, 124, 125, 126, 127, 128, 129, 130, 131, 132, 133, 134, 135, 136, 137, 138, 139, 140, 141, 142, 146, 147, 148, 116, 117, 118, 119, 120, 121, 122] (by decide +kernel) (by decide +kernel)
set_option maxRecDepth 20000 in
theorem gX6_settleMonth_X6_bookRevenue : GoodIn wsX6_settleMonth (wsV RX6 354 RX6 yX6_bookRevenue wsX6_bookRevenue) := goodIn_app (goodIn_of _ (by decide +kernel)) ggX6_settleMonth_X6_bookRevenue
theorem dX6_settleMonth_0 : decode cX6_settleMonth 0 = .ok (.aload_n 1, 1) := by decide +kernel
theorem dX6_settleMonth_1 : decode cX6_settleMonth 1 = .ok (.iload_n 2, 1) := by decide +kernel
theorem dX6_settleMonth_2 : decode cX6_settleMonth 2 = .ok (.invokevirtual 343, 3) := by decide +kernel
theorem dX6_settleMonth_5 : decode cX6_settleMonth 5 = .ok (.aload_n 1, 1) := by decide +kernel
theorem dX6_settleMonth_6 : decode cX6_settleMonth 6 = .ok (.getfield 303, 3) := by decide +kernel
theorem dX6_settleMonth_9 : decode cX6_settleMonth 9 = .ok (.iload_n 2, 1) := by decide +kernel
theorem dX6_settleMonth_10 : decode cX6_settleMonth 10 = .ok (.iaload, 1) := by decide +kernel
theorem dX6_settleMonth_11 : decode cX6_settleMonth 11 = .ok (.ifCond .ne 13, 3) := by decide +kernel
theorem dX6_settleMonth_14 : decode cX6_settleMonth 14 = .ok (.aload_n 1, 1) := by decide +kernel
theorem dX6_settleMonth_15 : decode cX6_settleMonth 15 = .ok (.getfield 222, 3) := by decide +kernel
theorem dX6_settleMonth_18 : decode cX6_settleMonth 18 = .ok (.iload_n 2, 1) := by decide +kernel
theorem dX6_settleMonth_19 : decode cX6_settleMonth 19 = .ok (.iaload, 1) := by decide +kernel
theorem dX6_settleMonth_20 : decode cX6_settleMonth 20 = .ok (.ifCond .ne 4, 3) := by decide +kernel
theorem dX6_settleMonth_23 : decode cX6_settleMonth 23 = .ok (.return_, 1) := by decide +kernel
theorem dX6_settleMonth_24 : decode cX6_settleMonth 24 = .ok (.aload_n 0, 1) := by decide +kernel
theorem dX6_settleMonth_25 : decode cX6_settleMonth 25 = .ok (.aload_n 1, 1) := by decide +kernel
theorem dX6_settleMonth_26 : decode cX6_settleMonth 26 = .ok (.iload_n 2, 1) := by decide +kernel
theorem dX6_settleMonth_27 : decode cX6_settleMonth 27 = .ok (.invokevirtual 246, 3) := by decide +kernel
theorem dX6_settleMonth_30 : decode cX6_settleMonth 30 = .ok (.aload_n 0, 1) := by decide +kernel
theorem dX6_settleMonth_31 : decode cX6_settleMonth 31 = .ok (.aload_n 1, 1) := by decide +kernel
theorem dX6_settleMonth_32 : decode cX6_settleMonth 32 = .ok (.iload_n 2, 1) := by decide +kernel
theorem dX6_settleMonth_33 : decode cX6_settleMonth 33 = .ok (.invokevirtual 346, 3) := by decide +kernel
theorem dX6_settleMonth_36 : decode cX6_settleMonth 36 = .ok (.istore_n 3, 1) := by decide +kernel
theorem dX6_settleMonth_37 : decode cX6_settleMonth 37 = .ok (.aload_n 0, 1) := by decide +kernel
theorem dX6_settleMonth_38 : decode cX6_settleMonth 38 = .ok (.aload_n 1, 1) := by decide +kernel
theorem dX6_settleMonth_39 : decode cX6_settleMonth 39 = .ok (.iload_n 2, 1) := by decide +kernel
theorem dX6_settleMonth_40 : decode cX6_settleMonth 40 = .ok (.iload_n 3, 1) := by decide +kernel
theorem dX6_settleMonth_41 : decode cX6_settleMonth 41 = .ok (.invokevirtual 350, 3) := by decide +kernel
theorem dX6_settleMonth_44 : decode cX6_settleMonth 44 = .ok (.aload_n 0, 1) := by decide +kernel
theorem dX6_settleMonth_45 : decode cX6_settleMonth 45 = .ok (.aload_n 1, 1) := by decide +kernel
theorem dX6_settleMonth_46 : decode cX6_settleMonth 46 = .ok (.iload_n 2, 1) := by decide +kernel
theorem dX6_settleMonth_47 : decode cX6_settleMonth 47 = .ok (.iload_n 3, 1) := by decide +kernel
theorem dX6_settleMonth_48 : decode cX6_settleMonth 48 = .ok (.invokevirtual 354, 3) := by decide +kernel
theorem dX6_settleMonth_51 : decode cX6_settleMonth 51 = .ok (.return_, 1) := by decide +kernel
set_option maxRecDepth 20000 in
theorem ggX6_carriedOwners_X6_hasBit : GoodIn wsX6_carriedOwners wsX6_hasBit := goodIn_r _ [8] (by decide +kernel) (by decide +kernel)
set_option maxRecDepth 20000 in
theorem gX6_carriedOwners_X6_hasBit : GoodIn wsX6_carriedOwners (va_wsS RX6 175 yX6_hasBit wsX6_hasBit) := goodIn_app (goodIn_of _ (by decide +kernel)) ggX6_carriedOwners_X6_hasBit
set_option maxRecDepth 20000 in
theorem ggX6_carriedOwners_X6_withBit : GoodIn wsX6_carriedOwners wsX6_withBit := goodIn_r _ [11] (by decide +kernel) (by decide +kernel)
set_option maxRecDepth 20000 in
theorem gX6_carriedOwners_X6_withBit : GoodIn wsX6_carriedOwners (va_wsS RX6 236 yX6_withBit wsX6_withBit) := goodIn_app (goodIn_of _ (by decide +kernel)) ggX6_carriedOwners_X6_withBit
theorem dX6_carriedOwners_0 : decode cX6_carriedOwners 0 = .ok (.iconst 0, 1) := by decide +kernel
theorem dX6_carriedOwners_1 : decode cX6_carriedOwners 1 = .ok (.istore_n 3, 1) := by decide +kernel
theorem dX6_carriedOwners_2 : decode cX6_carriedOwners 2 = .ok (.iconst 0, 1) := by decide +kernel
theorem dX6_carriedOwners_3 : decode cX6_carriedOwners 3 = .ok (.istore 4, 2) := by decide +kernel
theorem dX6_carriedOwners_5 : decode cX6_carriedOwners 5 = .ok (.iconst 0, 1) := by decide +kernel
theorem dX6_carriedOwners_6 : decode cX6_carriedOwners 6 = .ok (.istore 5, 2) := by decide +kernel
theorem dX6_carriedOwners_8 : decode cX6_carriedOwners 8 = .ok (.iload 5, 2) := by decide +kernel
theorem dX6_carriedOwners_10 : decode cX6_carriedOwners 10 = .ok (.bipush 10, 2) := by decide +kernel
theorem dX6_carriedOwners_12 : decode cX6_carriedOwners 12 = .ok (.if_icmp .ge 84, 3) := by decide +kernel
theorem dX6_carriedOwners_15 : decode cX6_carriedOwners 15 = .ok (.aload_n 0, 1) := by decide +kernel
theorem dX6_carriedOwners_16 : decode cX6_carriedOwners 16 = .ok (.getfield 86, 3) := by decide +kernel
