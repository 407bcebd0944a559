theorem dX6_carriedOwners_19 : decode cX6_carriedOwners 19 = .ok (.getfield 325, 3) := by decide +kernel
theorem dX6_carriedOwners_22 : decode cX6_carriedOwners 22 = .ok (.bipush 10, 2) := by decide +kernel
theorem dX6_carriedOwners_24 : decode cX6_carriedOwners 24 = .ok (.iload 5, 2) := by decide +kernel
theorem dX6_carriedOwners_26 : decode cX6_carriedOwners 26 = .ok (.iadd, 1) := by decide +kernel
theorem dX6_carriedOwners_27 : decode cX6_carriedOwners 27 = .ok (.laload, 1) := by decide +kernel
theorem dX6_carriedOwners_28 : decode cX6_carriedOwners 28 = .ok (.lconst 0, 1) := by decide +kernel
theorem dX6_carriedOwners_29 : decode cX6_carriedOwners 29 = .ok (.lcmp, 1) := by decide +kernel
theorem dX6_carriedOwners_30 : decode cX6_carriedOwners 30 = .ok (.ifCond .le 60, 3) := by decide +kernel
theorem dX6_carriedOwners_33 : decode cX6_carriedOwners 33 = .ok (.aload_n 1, 1) := by decide +kernel
theorem dX6_carriedOwners_34 : decode cX6_carriedOwners 34 = .ok (.getfield 233, 3) := by decide +kernel
theorem dX6_carriedOwners_37 : decode cX6_carriedOwners 37 = .ok (.iload_n 2, 1) := by decide +kernel
theorem dX6_carriedOwners_38 : decode cX6_carriedOwners 38 = .ok (.iaload, 1) := by decide +kernel
theorem dX6_carriedOwners_39 : decode cX6_carriedOwners 39 = .ok (.iload 5, 2) := by decide +kernel
theorem dX6_carriedOwners_41 : decode cX6_carriedOwners 41 = .ok (.invokestatic 175, 3) := by decide +kernel
theorem dX6_carriedOwners_44 : decode cX6_carriedOwners 44 = .ok (.ifCond .ne 20, 3) := by decide +kernel
theorem dX6_carriedOwners_47 : decode cX6_carriedOwners 47 = .ok (.aload_n 1, 1) := by decide +kernel
theorem dX6_carriedOwners_48 : decode cX6_carriedOwners 48 = .ok (.getfield 271, 3) := by decide +kernel
theorem dX6_carriedOwners_51 : decode cX6_carriedOwners 51 = .ok (.iload_n 2, 1) := by decide +kernel
theorem dX6_carriedOwners_52 : decode cX6_carriedOwners 52 = .ok (.bipush 10, 2) := by decide +kernel
theorem dX6_carriedOwners_54 : decode cX6_carriedOwners 54 = .ok (.imul, 1) := by decide +kernel
theorem dX6_carriedOwners_55 : decode cX6_carriedOwners 55 = .ok (.iload 5, 2) := by decide +kernel
theorem dX6_carriedOwners_57 : decode cX6_carriedOwners 57 = .ok (.iadd, 1) := by decide +kernel
theorem dX6_carriedOwners_58 : decode cX6_carriedOwners 58 = .ok (.laload, 1) := by decide +kernel
theorem dX6_carriedOwners_59 : decode cX6_carriedOwners 59 = .ok (.lconst 0, 1) := by decide +kernel
theorem dX6_carriedOwners_60 : decode cX6_carriedOwners 60 = .ok (.lcmp, 1) := by decide +kernel
theorem dX6_carriedOwners_61 : decode cX6_carriedOwners 61 = .ok (.ifCond .le 7, 3) := by decide +kernel
theorem dX6_carriedOwners_64 : decode cX6_carriedOwners 64 = .ok (.iconst 1, 1) := by decide +kernel
theorem dX6_carriedOwners_65 : decode cX6_carriedOwners 65 = .ok (.goto 4, 3) := by decide +kernel
theorem dX6_carriedOwners_68 : decode cX6_carriedOwners 68 = .ok (.iconst 0, 1) := by decide +kernel
theorem dX6_carriedOwners_69 : decode cX6_carriedOwners 69 = .ok (.istore 6, 2) := by decide +kernel
theorem dX6_carriedOwners_71 : decode cX6_carriedOwners 71 = .ok (.iload_n 3, 1) := by decide +kernel
theorem dX6_carriedOwners_72 : decode cX6_carriedOwners 72 = .ok (.iload 5, 2) := by decide +kernel
theorem dX6_carriedOwners_74 : decode cX6_carriedOwners 74 = .ok (.iconst 1, 1) := by decide +kernel
theorem dX6_carriedOwners_75 : decode cX6_carriedOwners 75 = .ok (.invokestatic 236, 3) := by decide +kernel
theorem dX6_carriedOwners_78 : decode cX6_carriedOwners 78 = .ok (.istore_n 3, 1) := by decide +kernel
theorem dX6_carriedOwners_79 : decode cX6_carriedOwners 79 = .ok (.iload 4, 2) := by decide +kernel
theorem dX6_carriedOwners_81 : decode cX6_carriedOwners 81 = .ok (.iload 5, 2) := by decide +kernel
theorem dX6_carriedOwners_83 : decode cX6_carriedOwners 83 = .ok (.iload 6, 2) := by decide +kernel
theorem dX6_carriedOwners_85 : decode cX6_carriedOwners 85 = .ok (.invokestatic 236, 3) := by decide +kernel
theorem dX6_carriedOwners_88 : decode cX6_carriedOwners 88 = .ok (.istore 4, 2) := by decide +kernel
theorem dX6_carriedOwners_90 : decode cX6_carriedOwners 90 = .ok (.iinc 5 1, 3) := by decide +kernel
theorem dX6_carriedOwners_93 : decode cX6_carriedOwners 93 = .ok (.goto (-85), 3) := by decide +kernel
theorem dX6_carriedOwners_96 : decode cX6_carriedOwners 96 = .ok (.iload 4, 2) := by decide +kernel
theorem dX6_carriedOwners_98 : decode cX6_carriedOwners 98 = .ok (.iload_n 3, 1) := by decide +kernel
theorem dX6_carriedOwners_99 : decode cX6_carriedOwners 99 = .ok (.if_icmp .ne 7, 3) := by decide +kernel
theorem dX6_carriedOwners_102 : decode cX6_carriedOwners 102 = .ok (.iconst 0, 1) := by decide +kernel
theorem dX6_carriedOwners_103 : decode cX6_carriedOwners 103 = .ok (.goto 5, 3) := by decide +kernel
theorem dX6_carriedOwners_106 : decode cX6_carriedOwners 106 = .ok (.iload 4, 2) := by decide +kernel
theorem dX6_carriedOwners_108 : decode cX6_carriedOwners 108 = .ok (.ireturn, 1) := by decide +kernel
set_option maxRecDepth 20000 in
theorem ggX6_bookCosts_X6_partByWorking : GoodIn wsX6_bookCosts wsX6_partByWorking := goodIn_r _ [12, 3, 13, 14, 15, 16, 11, 17, 18, 19, 20, 21, 22, 23, 24, 25, 26, 27, 28, 29, 30, 38, 39, 40, 41, 42, 43, 44, 45, 46, 47, 48, 49, 50, 51, 52, 53, 54, 55, 56, 57, 58, 59, 60] (by decide +kernel) (by decide +kernel)
set_option maxRecDepth 20000 in
theorem gX6_bookCosts_X6_partByWorking : GoodIn wsX6_bookCosts (wsV RX6 357 RX6 yX6_partByWorking wsX6_partByWorking) := goodIn_app (goodIn_of _ (by decide +kernel)) ggX6_bookCosts_X6_partByWorking
set_option maxRecDepth 20000 in
theorem ggX6_bookCosts_X6_hasBit : GoodIn wsX6_bookCosts wsX6_hasBit := goodIn_r _ [17] (by decide +kernel) (by decide +kernel)
set_option maxRecDepth 20000 in
theorem gX6_bookCosts_X6_hasBit : GoodIn wsX6_bookCosts (va_wsS RX6 175 yX6_hasBit wsX6_hasBit) := goodIn_app (goodIn_of _ (by decide +kernel)) ggX6_bookCosts_X6_hasBit
theorem dX6_bookCosts_0 : decode cX6_bookCosts 0 = .ok (.iload_n 2, 1) := by decide +kernel
theorem dX6_bookCosts_1 : decode cX6_bookCosts 1 = .ok (.bipush 10, 2) := by decide +kernel
theorem dX6_bookCosts_3 : decode cX6_bookCosts 3 = .ok (.imul, 1) := by decide +kernel
theorem dX6_bookCosts_4 : decode cX6_bookCosts 4 = .ok (.istore 4, 2) := by decide +kernel
theorem dX6_bookCosts_6 : decode cX6_bookCosts 6 = .ok (.aload_n 0, 1) := by decide +kernel
theorem dX6_bookCosts_7 : decode cX6_bookCosts 7 = .ok (.aload_n 1, 1) := by decide +kernel
theorem dX6_bookCosts_8 : decode cX6_bookCosts 8 = .ok (.getfield 222, 3) := by decide +kernel
theorem dX6_bookCosts_11 : decode cX6_bookCosts 11 = .ok (.iload_n 2, 1) := by decide +kernel
theorem dX6_bookCosts_12 : decode cX6_bookCosts 12 = .ok (.iaload, 1) := by decide +kernel
theorem dX6_bookCosts_13 : decode cX6_bookCosts 13 = .ok (.i2l, 1) := by decide +kernel
theorem dX6_bookCosts_14 : decode cX6_bookCosts 14 = .ok (.iconst 0, 1) := by decide +kernel
theorem dX6_bookCosts_15 : decode cX6_bookCosts 15 = .ok (.invokevirtual 357, 3) := by decide +kernel
theorem dX6_bookCosts_18 : decode cX6_bookCosts 18 = .ok (.iconst 0, 1) := by decide +kernel
theorem dX6_bookCosts_19 : decode cX6_bookCosts 19 = .ok (.istore 5, 2) := by decide +kernel
theorem dX6_bookCosts_21 : decode cX6_bookCosts 21 = .ok (.iload 5, 2) := by decide +kernel
theorem dX6_bookCosts_23 : decode cX6_bookCosts 23 = .ok (.bipush 10, 2) := by decide +kernel
theorem dX6_bookCosts_25 : decode cX6_bookCosts 25 = .ok (.if_icmp .ge 51, 3) := by decide +kernel
theorem dX6_bookCosts_28 : decode cX6_bookCosts 28 = .ok (.iload_n 3, 1) := by decide +kernel
theorem dX6_bookCosts_29 : decode cX6_bookCosts 29 = .ok (.iload 5, 2) := by decide +kernel
theorem dX6_bookCosts_31 : decode cX6_bookCosts 31 = .ok (.invokestatic 175, 3) := by decide +kernel
theorem dX6_bookCosts_34 : decode cX6_bookCosts 34 = .ok (.ifCond .eq 36, 3) := by decide +kernel
theorem dX6_bookCosts_37 : decode cX6_bookCosts 37 = .ok (.aload_n 1, 1) := by decide +kernel
theorem dX6_bookCosts_38 : decode cX6_bookCosts 38 = .ok (.getfield 271, 3) := by decide +kernel
theorem dX6_bookCosts_41 : decode cX6_bookCosts 41 = .ok (.iload 4, 2) := by decide +kernel
theorem dX6_bookCosts_43 : decode cX6_bookCosts 43 = .ok (.iload 5, 2) := by decide +kernel
theorem dX6_bookCosts_45 : decode cX6_bookCosts 45 = .ok (.iadd, 1) := by decide +kernel
theorem dX6_bookCosts_46 : decode cX6_bookCosts 46 = .ok (.dup2, 1) := by decide +kernel
theorem dX6_bookCosts_47 : decode cX6_bookCosts 47 = .ok (.laload, 1) := by decide +kernel
theorem dX6_bookCosts_48 : decode cX6_bookCosts 48 = .ok (.aload_n 0, 1) := by decide +kernel
theorem dX6_bookCosts_49 : decode cX6_bookCosts 49 = .ok (.getfield 90, 3) := by decide +kernel
theorem dX6_bookCosts_52 : decode cX6_bookCosts 52 = .ok (.getfield 256, 3) := by decide +kernel
theorem dX6_bookCosts_55 : decode cX6_bookCosts 55 = .ok (.iload 5, 2) := by decide +kernel
theorem dX6_bookCosts_57 : decode cX6_bookCosts 57 = .ok (.laload, 1) := by decide +kernel
theorem dX6_bookCosts_58 : decode cX6_bookCosts 58 = .ok (.aload_n 0, 1) := by decide +kernel
theorem dX6_bookCosts_59 : decode cX6_bookCosts 59 = .ok (.getfield 62, 3) := by decide +kernel
theorem dX6_bookCosts_62 : decode cX6_bookCosts 62 = .ok (.i2l, 1) := by decide +kernel
theorem dX6_bookCosts_63 : decode cX6_bookCosts 63 = .ok (.lmul, 1) := by decide +kernel
theorem dX6_bookCosts_64 : decode cX6_bookCosts 64 = .ok (.ldc2_w 306, 3) := by decide +kernel
theorem dX6_bookCosts_67 : decode cX6_bookCosts 67 = .ok (.ldiv, 1) := by decide +kernel
theorem dX6_bookCosts_68 : decode cX6_bookCosts 68 = .ok (.ladd, 1) := by decide +kernel
theorem dX6_bookCosts_69 : decode cX6_bookCosts 69 = .ok (.lastore, 1) := by decide +kernel
theorem dX6_bookCosts_70 : decode cX6_bookCosts 70 = .ok (.iinc 5 1, 3) := by decide +kernel
theorem dX6_bookCosts_73 : decode cX6_bookCosts 73 = .ok (.goto (-52), 3) := by decide +kernel
theorem dX6_bookCosts_76 : decode cX6_bookCosts 76 = .ok (.aload_n 0, 1) := by decide +kernel
theorem dX6_bookCosts_77 : decode cX6_bookCosts 77 = .ok (.aload_n 1, 1) := by decide +kernel
theorem dX6_bookCosts_78 : decode cX6_bookCosts 78 = .ok (.getfield 222, 3) := by decide +kernel
theorem dX6_bookCosts_81 : decode cX6_bookCosts 81 = .ok (.iload_n 2, 1) := by decide +kernel
theorem dX6_bookCosts_82 : decode cX6_bookCosts 82 = .ok (.iaload, 1) := by decide +kernel
theorem dX6_bookCosts_83 : decode cX6_bookCosts 83 = .ok (.i2l, 1) := by decide +kernel
theorem dX6_bookCosts_84 : decode cX6_bookCosts 84 = .ok (.iload_n 3, 1) := by decide +kernel
theorem dX6_bookCosts_85 : decode cX6_bookCosts 85 = .ok (.invokevirtual 357, 3) := by decide +kernel
theorem dX6_bookCosts_88 : decode cX6_bookCosts 88 = .ok (.iconst 0, 1) := by decide +kernel
theorem dX6_bookCosts_89 : decode cX6_bookCosts 89 = .ok (.istore 5, 2) := by decide +kernel
theorem dX6_bookCosts_91 : decode cX6_bookCosts 91 = .ok (.iload 5, 2) := by decide +kernel
theorem dX6_bookCosts_93 : decode cX6_bookCosts 93 = .ok (.bipush 10, 2) := by decide +kernel
theorem dX6_bookCosts_95 : decode cX6_bookCosts 95 = .ok (.if_icmp .ge 32, 3) := by decide +kernel
theorem dX6_bookCosts_98 : decode cX6_bookCosts 98 = .ok (.aload_n 1, 1) := by decide +kernel
theorem dX6_bookCosts_99 : decode cX6_bookCosts 99 = .ok (.getfield 268, 3) := by decide +kernel
theorem dX6_bookCosts_102 : decode cX6_bookCosts 102 = .ok (.iload 4, 2) := by decide +kernel
theorem dX6_bookCosts_104 : decode cX6_bookCosts 104 = .ok (.iload 5, 2) := by decide +kernel
theorem dX6_bookCosts_106 : decode cX6_bookCosts 106 = .ok (.iadd, 1) := by decide +kernel
theorem dX6_bookCosts_107 : decode cX6_bookCosts 107 = .ok (.dup2, 1) := by decide +kernel
theorem dX6_bookCosts_108 : decode cX6_bookCosts 108 = .ok (.laload, 1) := by decide +kernel
theorem dX6_bookCosts_109 : decode cX6_bookCosts 109 = .ok (.aload_n 0, 1) := by decide +kernel
theorem dX6_bookCosts_110 : decode cX6_bookCosts 110 = .ok (.getfield 90, 3) := by decide +kernel
theorem dX6_bookCosts_113 : decode cX6_bookCosts 113 = .ok (.getfield 256, 3) := by decide +kernel
theorem dX6_bookCosts_116 : decode cX6_bookCosts 116 = .ok (.iload 5, 2) := by decide +kernel
theorem dX6_bookCosts_118 : decode cX6_bookCosts 118 = .ok (.laload, 1) := by decide +kernel
theorem dX6_bookCosts_119 : decode cX6_bookCosts 119 = .ok (.lsub, 1) := by decide +kernel
theorem dX6_bookCosts_120 : decode cX6_bookCosts 120 = .ok (.lastore, 1) := by decide +kernel
theorem dX6_bookCosts_121 : decode cX6_bookCosts 121 = .ok (.iinc 5 1, 3) := by decide +kernel
theorem dX6_bookCosts_124 : decode cX6_bookCosts 124 = .ok (.goto (-33), 3) := by decide +kernel
theorem dX6_bookCosts_127 : decode cX6_bookCosts 127 = .ok (.return_, 1) := by decide +kernel
set_option maxRecDepth 20000 in
theorem ggX6_bookRevenue_X6_revenueOf : GoodIn wsX6_bookRevenue wsX6_revenueOf := goodIn_r _ [14, 15, 16, 17, 18, 19, 13, 20, 21, 66, 67, 68, 69, 70, 71, 72, 43, 44, 45, 46, 47, 48, 49, 50, 51, 52, 53, 54, 55, 56, 57, 58, 59, 60, 61, 62] (by decide +kernel) (by decide +kernel)
set_option maxRecDepth 20000 in
theorem gX6_bookRevenue_X6_revenueOf : GoodIn wsX6_bookRevenue (wsV RX6 261 RX6 yX6_revenueOf wsX6_revenueOf) := goodIn_app (goodIn_of _ (by decide +kernel)) ggX6_bookRevenue_X6_revenueOf
set_option maxRecDepth 20000 in
theorem ggX6_bookRevenue_X2_partOut : GoodIn wsX6_bookRevenue wsX2_partOut := goodIn_r _ [26, 27, 28, 29, 30, 31, 32, 25, 33, 34, 63, 64, 65] (by decide +kernel) (by decide +kernel)
set_option maxRecDepth 20000 in
theorem gX6_bookRevenue_X2_partOut : GoodIn wsX6_bookRevenue (wsV RX6 252 RX2 yX2_partOut wsX2_partOut) := goodIn_app (goodIn_of _ (by decide +kernel)) ggX6_bookRevenue_X2_partOut
set_option maxRecDepth 20000 in
theorem ggX6_bookRevenue_X6_hasBit : GoodIn wsX6_bookRevenue wsX6_hasBit := goodIn_r _ [37] (by decide +kernel) (by decide +kernel)
set_option maxRecDepth 20000 in
theorem gX6_bookRevenue_X6_hasBit : GoodIn wsX6_bookRevenue (va_wsS RX6 175 yX6_hasBit wsX6_hasBit) := goodIn_app (goodIn_of _ (by decide +kernel)) ggX6_bookRevenue_X6_hasBit
set_option maxRecDepth 20000 in
theorem ggX6_bookRevenue_X6_partByWorking : GoodIn wsX6_bookRevenue wsX6_partByWorking := goodIn_r _ [41, 9, 42, 1, 35, 36, 13, 37, 22, 23, 24, 25, 26, 27, 28, 29, 30, 31, 32, 33, 34, 43, 44, 45, 46, 47, 48, 49, 50, 51, 52, 53, 54, 55, 56, 57, 58, 59, 60, 61, 62, 63, 64, 65] (by decide +kernel) (by decide +kernel)
set_option maxRecDepth 20000 in
theorem gX6_bookRevenue_X6_partByWorking : GoodIn wsX6_bookRevenue (wsV RX6 357 RX6 yX6_partByWorking wsX6_partByWorking) := goodIn_app (goodIn_of _ (by decide +kernel)) ggX6_bookRevenue_X6_partByWorking
theorem dX6_bookRevenue_0 : decode cX6_bookRevenue 0 = .ok (.iload_n 2, 1) := by decide +kernel
theorem dX6_bookRevenue_1 : decode cX6_bookRevenue 1 = .ok (.bipush 10, 2) := by decide +kernel
theorem dX6_bookRevenue_3 : decode cX6_bookRevenue 3 = .ok (.imul, 1) := by decide +kernel
theorem dX6_bookRevenue_4 : decode cX6_bookRevenue 4 = .ok (.istore 4, 2) := by decide +kernel
theorem dX6_bookRevenue_6 : decode cX6_bookRevenue 6 = .ok (.lconst 0, 1) := by decide +kernel
theorem dX6_bookRevenue_7 : decode cX6_bookRevenue 7 = .ok (.lstore 5, 2) := by decide +kernel
theorem dX6_bookRevenue_9 : decode cX6_bookRevenue 9 = .ok (.aload_n 0, 1) := by decide +kernel
theorem dX6_bookRevenue_10 : decode cX6_bookRevenue 10 = .ok (.getfield 86, 3) := by decide +kernel
theorem dX6_bookRevenue_13 : decode cX6_bookRevenue 13 = .ok (.aload_n 0, 1) := by decide +kernel
theorem dX6_bookRevenue_14 : decode cX6_bookRevenue 14 = .ok (.aload_n 1, 1) := by decide +kernel
theorem dX6_bookRevenue_15 : decode cX6_bookRevenue 15 = .ok (.iload_n 2, 1) := by decide +kernel
theorem dX6_bookRevenue_16 : decode cX6_bookRevenue 16 = .ok (.invokevirtual 261, 3) := by decide +kernel
theorem dX6_bookRevenue_19 : decode cX6_bookRevenue 19 = .ok (.invokevirtual 252, 3) := by decide +kernel
theorem dX6_bookRevenue_22 : decode cX6_bookRevenue 22 = .ok (.iconst 0, 1) := by decide +kernel
theorem dX6_bookRevenue_23 : decode cX6_bookRevenue 23 = .ok (.istore 7, 2) := by decide +kernel
theorem dX6_bookRevenue_25 : decode cX6_bookRevenue 25 = .ok (.iload 7, 2) := by decide +kernel
theorem dX6_bookRevenue_27 : decode cX6_bookRevenue 27 = .ok (.bipush 10, 2) := by decide +kernel
theorem dX6_bookRevenue_29 : decode cX6_bookRevenue 29 = .ok (.if_icmp .ge 105, 3) := by decide +kernel
theorem dX6_bookRevenue_32 : decode cX6_bookRevenue 32 = .ok (.aload_n 0, 1) := by decide +kernel
theorem dX6_bookRevenue_33 : decode cX6_bookRevenue 33 = .ok (.getfield 86, 3) := by decide +kernel
theorem dX6_bookRevenue_36 : decode cX6_bookRevenue 36 = .ok (.getfield 256, 3) := by decide +kernel
theorem dX6_bookRevenue_39 : decode cX6_bookRevenue 39 = .ok (.bipush 10, 2) := by decide +kernel
theorem dX6_bookRevenue_41 : decode cX6_bookRevenue 41 = .ok (.iload 7, 2) := by decide +kernel
theorem dX6_bookRevenue_43 : decode cX6_bookRevenue 43 = .ok (.iadd, 1) := by decide +kernel
theorem dX6_bookRevenue_44 : decode cX6_bookRevenue 44 = .ok (.laload, 1) := by decide +kernel
theorem dX6_bookRevenue_45 : decode cX6_bookRevenue 45 = .ok (.lstore 8, 2) := by decide +kernel
theorem dX6_bookRevenue_47 : decode cX6_bookRevenue 47 = .ok (.iload_n 3, 1) := by decide +kernel
theorem dX6_bookRevenue_48 : decode cX6_bookRevenue 48 = .ok (.iload 7, 2) := by decide +kernel
theorem dX6_bookRevenue_50 : decode cX6_bookRevenue 50 = .ok (.invokestatic 175, 3) := by decide +kernel
theorem dX6_bookRevenue_53 : decode cX6_bookRevenue 53 = .ok (.ifCond .eq 21, 3) := by decide +kernel
theorem dX6_bookRevenue_56 : decode cX6_bookRevenue 56 = .ok (.lload 8, 2) := by decide +kernel
theorem dX6_bookRevenue_58 : decode cX6_bookRevenue 58 = .ok (.aload_n 1, 1) := by decide +kernel
theorem dX6_bookRevenue_59 : decode cX6_bookRevenue 59 = .ok (.getfield 271, 3) := by decide +kernel
theorem dX6_bookRevenue_62 : decode cX6_bookRevenue 62 = .ok (.iload 4, 2) := by decide +kernel
theorem dX6_bookRevenue_64 : decode cX6_bookRevenue 64 = .ok (.iload 7, 2) := by decide +kernel
theorem dX6_bookRevenue_66 : decode cX6_bookRevenue 66 = .ok (.iadd, 1) := by decide +kernel
theorem dX6_bookRevenue_67 : decode cX6_bookRevenue 67 = .ok (.laload, 1) := by decide +kernel
theorem dX6_bookRevenue_68 : decode cX6_bookRevenue 68 = .ok (.invokestatic 361, 3) := by decide +kernel
theorem dX6_bookRevenue_71 : decode cX6_bookRevenue 71 = .ok (.goto 4, 3) := by decide +kernel
theorem dX6_bookRevenue_74 : decode cX6_bookRevenue 74 = .ok (.lconst 0, 1) := by decide +kernel
theorem dX6_bookRevenue_75 : decode cX6_bookRevenue 75 = .ok (.lstore 10, 2) := by decide +kernel
theorem dX6_bookRevenue_77 : decode cX6_bookRevenue 77 = .ok (.aload_n 1, 1) := by decide +kernel
theorem dX6_bookRevenue_78 : decode cX6_bookRevenue 78 = .ok (.getfield 271, 3) := by decide +kernel
theorem dX6_bookRevenue_81 : decode cX6_bookRevenue 81 = .ok (.iload 4, 2) := by decide +kernel
theorem dX6_bookRevenue_83 : decode cX6_bookRevenue 83 = .ok (.iload 7, 2) := by decide +kernel
theorem dX6_bookRevenue_85 : decode cX6_bookRevenue 85 = .ok (.iadd, 1) := by decide +kernel
theorem dX6_bookRevenue_86 : decode cX6_bookRevenue 86 = .ok (.dup2, 1) := by decide +kernel
theorem dX6_bookRevenue_87 : decode cX6_bookRevenue 87 = .ok (.laload, 1) := by decide +kernel
theorem dX6_bookRevenue_88 : decode cX6_bookRevenue 88 = .ok (.lload 10, 2) := by decide +kernel
theorem dX6_bookRevenue_90 : decode cX6_bookRevenue 90 = .ok (.lsub, 1) := by decide +kernel
theorem dX6_bookRevenue_91 : decode cX6_bookRevenue 91 = .ok (.lastore, 1) := by decide +kernel
theorem dX6_bookRevenue_92 : decode cX6_bookRevenue 92 = .ok (.aload_n 1, 1) := by decide +kernel
theorem dX6_bookRevenue_93 : decode cX6_bookRevenue 93 = .ok (.getfield 268, 3) := by decide +kernel
theorem dX6_bookRevenue_96 : decode cX6_bookRevenue 96 = .ok (.iload 4, 2) := by decide +kernel
theorem dX6_bookRevenue_98 : decode cX6_bookRevenue 98 = .ok (.iload 7, 2) := by decide +kernel
theorem dX6_bookRevenue_100 : decode cX6_bookRevenue 100 = .ok (.iadd, 1) := by decide +kernel
theorem dX6_bookRevenue_101 : decode cX6_bookRevenue 101 = .ok (.dup2, 1) := by decide +kernel
theorem dX6_bookRevenue_102 : decode cX6_bookRevenue 102 = .ok (.laload, 1) := by decide +kernel
theorem dX6_bookRevenue_103 : decode cX6_bookRevenue 103 = .ok (.aload_n 0, 1) := by decide +kernel
theorem dX6_bookRevenue_104 : decode cX6_bookRevenue 104 = .ok (.getfield 86, 3) := by decide +kernel
theorem dX6_bookRevenue_107 : decode cX6_bookRevenue 107 = .ok (.getfield 256, 3) := by decide +kernel
theorem dX6_bookRevenue_110 : decode cX6_bookRevenue 110 = .ok (.iload 7, 2) := by decide +kernel
theorem dX6_bookRevenue_112 : decode cX6_bookRevenue 112 = .ok (.laload, 1) := by decide +kernel
theorem dX6_bookRevenue_113 : decode cX6_bookRevenue 113 = .ok (.lload 8, 2) := by decide +kernel
theorem dX6_bookRevenue_115 : decode cX6_bookRevenue 115 = .ok (.ladd, 1) := by decide +kernel
theorem dX6_bookRevenue_116 : decode cX6_bookRevenue 116 = .ok (.lload 10, 2) := by decide +kernel
theorem dX6_bookRevenue_118 : decode cX6_bookRevenue 118 = .ok (.lsub, 1) := by decide +kernel
theorem dX6_bookRevenue_119 : decode cX6_bookRevenue 119 = .ok (.ladd, 1) := by decide +kernel
theorem dX6_bookRevenue_120 : decode cX6_bookRevenue 120 = .ok (.lastore, 1) := by decide +kernel
theorem dX6_bookRevenue_121 : decode cX6_bookRevenue 121 = .ok (.lload 5, 2) := by decide +kernel
theorem dX6_bookRevenue_123 : decode cX6_bookRevenue 123 = .ok (.lload 10, 2) := by decide +kernel
theorem dX6_bookRevenue_125 : decode cX6_bookRevenue 125 = .ok (.ladd, 1) := by decide +kernel
theorem dX6_bookRevenue_126 : decode cX6_bookRevenue 126 = .ok (.lstore 5, 2) := by decide +kernel
theorem dX6_bookRevenue_128 : decode cX6_bookRevenue 128 = .ok (.iinc 7 1, 3) := by decide +kernel
theorem dX6_bookRevenue_131 : decode cX6_bookRevenue 131 = .ok (.goto (-106), 3) := by decide +kernel
theorem dX6_bookRevenue_134 : decode cX6_bookRevenue 134 = .ok (.aload_n 0, 1) := by decide +kernel
theorem dX6_bookRevenue_135 : decode cX6_bookRevenue 135 = .ok (.lload 5, 2) := by decide +kernel
theorem dX6_bookRevenue_137 : decode cX6_bookRevenue 137 = .ok (.iload_n 3, 1) := by decide +kernel
theorem dX6_bookRevenue_138 : decode cX6_bookRevenue 138 = .ok (.invokevirtual 357, 3) := by decide +kernel
theorem dX6_bookRevenue_141 : decode cX6_bookRevenue 141 = .ok (.iconst 0, 1) := by decide +kernel
theorem dX6_bookRevenue_142 : decode cX6_bookRevenue 142 = .ok (.istore 7, 2) := by decide +kernel
theorem dX6_bookRevenue_144 : decode cX6_bookRevenue 144 = .ok (.iload 7, 2) := by decide +kernel
theorem dX6_bookRevenue_146 : decode cX6_bookRevenue 146 = .ok (.bipush 10, 2) := by decide +kernel
theorem dX6_bookRevenue_148 : decode cX6_bookRevenue 148 = .ok (.if_icmp .ge 32, 3) := by decide +kernel
theorem dX6_bookRevenue_151 : decode cX6_bookRevenue 151 = .ok (.aload_n 1, 1) := by decide +kernel
theorem dX6_bookRevenue_152 : decode cX6_bookRevenue 152 = .ok (.getfield 268, 3) := by decide +kernel
theorem dX6_bookRevenue_155 : decode cX6_bookRevenue 155 = .ok (.iload 4, 2) := by decide +kernel
theorem dX6_bookRevenue_157 : decode cX6_bookRevenue 157 = .ok (.iload 7, 2) := by decide +kernel
theorem dX6_bookRevenue_159 : decode cX6_bookRevenue 159 = .ok (.iadd, 1) := by decide +kernel
theorem dX6_bookRevenue_160 : decode cX6_bookRevenue 160 = .ok (.dup2, 1) := by decide +kernel
theorem dX6_bookRevenue_161 : decode cX6_bookRevenue 161 = .ok (.laload, 1) := by decide +kernel
theorem dX6_bookRevenue_162 : decode cX6_bookRevenue 162 = .ok (.aload_n 0, 1) := by decide +kernel
theorem dX6_bookRevenue_163 : decode cX6_bookRevenue 163 = .ok (.getfield 90, 3) := by decide +kernel
theorem dX6_bookRevenue_166 : decode cX6_bookRevenue 166 = .ok (.getfield 256, 3) := by decide +kernel
theorem dX6_bookRevenue_169 : decode cX6_bookRevenue 169 = .ok (.iload 7, 2) := by decide +kernel
theorem dX6_bookRevenue_171 : decode cX6_bookRevenue 171 = .ok (.laload, 1) := by decide +kernel
theorem dX6_bookRevenue_172 : decode cX6_bookRevenue 172 = .ok (.ladd, 1) := by decide +kernel
theorem dX6_bookRevenue_173 : decode cX6_bookRevenue 173 = .ok (.lastore, 1) := by decide +kernel
theorem dX6_bookRevenue_174 : decode cX6_bookRevenue 174 = .ok (.iinc 7 1, 3) := by decide +kernel
theorem dX6_bookRevenue_177 : decode cX6_bookRevenue 177 = .ok (.goto (-33), 3) := by decide +kernel
theorem dX6_bookRevenue_180 : decode cX6_bookRevenue 180 = .ok (.return_, 1) := by decide +kernel
set_option maxRecDepth 20000 in
theorem ggX6_partByWorking_X6_hasBit : GoodIn wsX6_partByWorking wsX6_hasBit := goodIn_r _ [7] (by decide +kernel) (by decide +kernel)
set_option maxRecDepth 20000 in
theorem gX6_partByWorking_X6_hasBit : GoodIn wsX6_partByWorking (va_wsS RX6 175 yX6_hasBit wsX6_hasBit) := goodIn_app (goodIn_of _ (by decide +kernel)) ggX6_partByWorking_X6_hasBit
set_option maxRecDepth 20000 in
theorem ggX6_partByWorking_X2_partOut : GoodIn wsX6_partByWorking wsX2_partOut := goodIn_r _ [12, 13, 14, 15, 16, 17, 18, 11, 19, 20, 41, 42, 43] (by decide +kernel) (by decide +kernel)
set_option maxRecDepth 20000 in
theorem gX6_partByWorking_X2_partOut : GoodIn wsX6_partByWorking (wsV RX6 252 RX2 yX2_partOut wsX2_partOut) := goodIn_app (goodIn_of _ (by decide +kernel)) ggX6_partByWorking_X2_partOut
theorem dX6_partByWorking_0 : decode cX6_partByWorking 0 = .ok (.iconst 0, 1) := by decide +kernel
theorem dX6_partByWorking_1 : decode cX6_partByWorking 1 = .ok (.istore 4, 2) := by decide +kernel
theorem dX6_partByWorking_3 : decode cX6_partByWorking 3 = .ok (.iload 4, 2) := by decide +kernel
theorem dX6_partByWorking_5 : decode cX6_partByWorking 5 = .ok (.bipush 10, 2) := by decide +kernel
theorem dX6_partByWorking_7 : decode cX6_partByWorking 7 = .ok (.if_icmp .ge 45, 3) := by decide +kernel
theorem dX6_partByWorking_10 : decode cX6_partByWorking 10 = .ok (.aload_n 0, 1) := by decide +kernel
theorem dX6_partByWorking_11 : decode cX6_partByWorking 11 = .ok (.getfield 90, 3) := by decide +kernel
theorem dX6_partByWorking_14 : decode cX6_partByWorking 14 = .ok (.getfield 325, 3) := by decide +kernel
theorem dX6_partByWorking_17 : decode cX6_partByWorking 17 = .ok (.iload 4, 2) := by decide +kernel
theorem dX6_partByWorking_19 : decode cX6_partByWorking 19 = .ok (.iload_n 3, 1) := by decide +kernel
theorem dX6_partByWorking_20 : decode cX6_partByWorking 20 = .ok (.iload 4, 2) := by decide +kernel
theorem dX6_partByWorking_22 : decode cX6_partByWorking 22 = .ok (.invokestatic 175, 3) := by decide +kernel
theorem dX6_partByWorking_25 : decode cX6_partByWorking 25 = .ok (.ifCond .eq 7, 3) := by decide +kernel
theorem dX6_partByWorking_28 : decode cX6_partByWorking 28 = .ok (.lconst 0, 1) := by decide +kernel
theorem dX6_partByWorking_29 : decode cX6_partByWorking 29 = .ok (.goto 16, 3) := by decide +kernel
theorem dX6_partByWorking_32 : decode cX6_partByWorking 32 = .ok (.aload_n 0, 1) := by decide +kernel
theorem dX6_partByWorking_33 : decode cX6_partByWorking 33 = .ok (.getfield 86, 3) := by decide +kernel
theorem dX6_partByWorking_36 : decode cX6_partByWorking 36 = .ok (.getfield 325, 3) := by decide +kernel
theorem dX6_partByWorking_39 : decode cX6_partByWorking 39 = .ok (.bipush 10, 2) := by decide +kernel
theorem dX6_partByWorking_41 : decode cX6_partByWorking 41 = .ok (.iload 4, 2) := by decide +kernel
theorem dX6_partByWorking_43 : decode cX6_partByWorking 43 = .ok (.iadd, 1) := by decide +kernel
theorem dX6_partByWorking_44 : decode cX6_partByWorking 44 = .ok (.laload, 1) := by decide +kernel
theorem dX6_partByWorking_45 : decode cX6_partByWorking 45 = .ok (.lastore, 1) := by decide +kernel
theorem dX6_partByWorking_46 : decode cX6_partByWorking 46 = .ok (.iinc 4 1, 3) := by decide +kernel
theorem dX6_partByWorking_49 : decode cX6_partByWorking 49 = .ok (.goto (-46), 3) := by decide +kernel
theorem dX6_partByWorking_52 : decode cX6_partByWorking 52 = .ok (.aload_n 0, 1) := by decide +kernel
theorem dX6_partByWorking_53 : decode cX6_partByWorking 53 = .ok (.getfield 90, 3) := by decide +kernel
theorem dX6_partByWorking_56 : decode cX6_partByWorking 56 = .ok (.lload_n 1, 1) := by decide +kernel
theorem dX6_partByWorking_57 : decode cX6_partByWorking 57 = .ok (.invokevirtual 252, 3) := by decide +kernel
theorem dX6_partByWorking_60 : decode cX6_partByWorking 60 = .ok (.return_, 1) := by decide +kernel
theorem dX6_settledOwed_0 : decode cX6_settledOwed 0 = .ok (.aload_n 0, 1) := by decide +kernel
theorem dX6_settledOwed_1 : decode cX6_settledOwed 1 = .ok (.getfield 71, 3) := by decide +kernel
theorem dX6_settledOwed_4 : decode cX6_settledOwed 4 = .ok (.iload_n 1, 1) := by decide +kernel
theorem dX6_settledOwed_5 : decode cX6_settledOwed 5 = .ok (.laload, 1) := by decide +kernel
theorem dX6_settledOwed_6 : decode cX6_settledOwed 6 = .ok (.lneg, 1) := by decide +kernel
theorem dX6_settledOwed_7 : decode cX6_settledOwed 7 = .ok (.lstore_n 2, 1) := by decide +kernel
theorem dX6_settledOwed_8 : decode cX6_settledOwed 8 = .ok (.aload_n 0, 1) := by decide +kernel
theorem dX6_settledOwed_9 : decode cX6_settledOwed 9 = .ok (.getfield 42, 3) := by decide +kernel
theorem dX6_settledOwed_12 : decode cX6_settledOwed 12 = .ok (.astore 4, 2) := by decide +kernel
theorem dX6_settledOwed_14 : decode cX6_settledOwed 14 = .ok (.aload 4, 2) := by decide +kernel
theorem dX6_settledOwed_16 : decode cX6_settledOwed 16 = .ok (.arraylength, 1) := by decide +kernel
theorem dX6_settledOwed_17 : decode cX6_settledOwed 17 = .ok (.istore 5, 2) := by decide +kernel
theorem dX6_settledOwed_19 : decode cX6_settledOwed 19 = .ok (.iconst 0, 1) := by decide +kernel
theorem dX6_settledOwed_20 : decode cX6_settledOwed 20 = .ok (.istore 6, 2) := by decide +kernel
theorem dX6_settledOwed_22 : decode cX6_settledOwed 22 = .ok (.iload 6, 2) := by decide +kernel
theorem dX6_settledOwed_24 : decode cX6_settledOwed 24 = .ok (.iload 5, 2) := by decide +kernel
theorem dX6_settledOwed_26 : decode cX6_settledOwed 26 = .ok (.if_icmp .ge 59, 3) := by decide +kernel
theorem dX6_settledOwed_29 : decode cX6_settledOwed 29 = .ok (.aload 4, 2) := by decide +kernel
theorem dX6_settledOwed_31 : decode cX6_settledOwed 31 = .ok (.iload 6, 2) := by decide +kernel
theorem dX6_settledOwed_33 : decode cX6_settledOwed 33 = .ok (.aaload, 1) := by decide +kernel
theorem dX6_settledOwed_34 : decode cX6_settledOwed 34 = .ok (.astore 7, 2) := by decide +kernel
theorem dX6_settledOwed_36 : decode cX6_settledOwed 36 = .ok (.aload 7, 2) := by decide +kernel
theorem dX6_settledOwed_38 : decode cX6_settledOwed 38 = .ok (.ifnull 41, 3) := by decide +kernel
theorem dX6_settledOwed_41 : decode cX6_settledOwed 41 = .ok (.aload 7, 2) := by decide +kernel
theorem dX6_settledOwed_43 : decode cX6_settledOwed 43 = .ok (.getfield 203, 3) := by decide +kernel
theorem dX6_settledOwed_46 : decode cX6_settledOwed 46 = .ok (.istore 8, 2) := by decide +kernel
theorem dX6_settledOwed_48 : decode cX6_settledOwed 48 = .ok (.iload 8, 2) := by decide +kernel
theorem dX6_settledOwed_50 : decode cX6_settledOwed 50 = .ok (.aload_n 0, 1) := by decide +kernel
theorem dX6_settledOwed_51 : decode cX6_settledOwed 51 = .ok (.getfield 9, 3) := by decide +kernel
theorem dX6_settledOwed_54 : decode cX6_settledOwed 54 = .ok (.if_icmp .gt 25, 3) := by decide +kernel
theorem dX6_settledOwed_57 : decode cX6_settledOwed 57 = .ok (.lload_n 2, 1) := by decide +kernel
theorem dX6_settledOwed_58 : decode cX6_settledOwed 58 = .ok (.aload 7, 2) := by decide +kernel
theorem dX6_settledOwed_60 : decode cX6_settledOwed 60 = .ok (.getfield 268, 3) := by decide +kernel
theorem dX6_settledOwed_63 : decode cX6_settledOwed 63 = .ok (.iload 8, 2) := by decide +kernel
theorem dX6_settledOwed_65 : decode cX6_settledOwed 65 = .ok (.bipush 10, 2) := by decide +kernel
theorem dX6_settledOwed_67 : decode cX6_settledOwed 67 = .ok (.imul, 1) := by decide +kernel
theorem dX6_settledOwed_68 : decode cX6_settledOwed 68 = .ok (.iload_n 1, 1) := by decide +kernel
theorem dX6_settledOwed_69 : decode cX6_settledOwed 69 = .ok (.iadd, 1) := by decide +kernel
theorem dX6_settledOwed_70 : decode cX6_settledOwed 70 = .ok (.laload, 1) := by decide +kernel
theorem dX6_settledOwed_71 : decode cX6_settledOwed 71 = .ok (.ladd, 1) := by decide +kernel
theorem dX6_settledOwed_72 : decode cX6_settledOwed 72 = .ok (.lstore_n 2, 1) := by decide +kernel
theorem dX6_settledOwed_73 : decode cX6_settledOwed 73 = .ok (.iinc 8 1, 3) := by decide +kernel
theorem dX6_settledOwed_76 : decode cX6_settledOwed 76 = .ok (.goto (-28), 3) := by decide +kernel
theorem dX6_settledOwed_79 : decode cX6_settledOwed 79 = .ok (.iinc 6 1, 3) := by decide +kernel
theorem dX6_settledOwed_82 : decode cX6_settledOwed 82 = .ok (.goto (-60), 3) := by decide +kernel
theorem dX6_settledOwed_85 : decode cX6_settledOwed 85 = .ok (.lload_n 2, 1) := by decide +kernel
theorem dX6_settledOwed_86 : decode cX6_settledOwed 86 = .ok (.lreturn, 1) := by decide +kernel
theorem dJ9_min_7cf53_0 : decode cJ9_min_7cf53 0 = .ok (.iload_n 0, 1) := by decide +kernel
theorem dJ9_min_7cf53_1 : decode cJ9_min_7cf53 1 = .ok (.iload_n 1, 1) := by decide +kernel
theorem dJ9_min_7cf53_2 : decode cJ9_min_7cf53 2 = .ok (.if_icmp .gt 7, 3) := by decide +kernel
theorem dJ9_min_7cf53_5 : decode cJ9_min_7cf53 5 = .ok (.iload_n 0, 1) := by decide +kernel
theorem dJ9_min_7cf53_6 : decode cJ9_min_7cf53 6 = .ok (.goto 4, 3) := by decide +kernel
theorem dJ9_min_7cf53_9 : decode cJ9_min_7cf53 9 = .ok (.iload_n 1, 1) := by decide +kernel
theorem dJ9_min_7cf53_10 : decode cJ9_min_7cf53 10 = .ok (.ireturn, 1) := by decide +kernel
theorem dJ9_min_f86c9_0 : decode cJ9_min_f86c9 0 = .ok (.lload_n 0, 1) := by decide +kernel
theorem dJ9_min_f86c9_1 : decode cJ9_min_f86c9 1 = .ok (.lload_n 2, 1) := by decide +kernel
theorem dJ9_min_f86c9_2 : decode cJ9_min_f86c9 2 = .ok (.lcmp, 1) := by decide +kernel
theorem dJ9_min_f86c9_3 : decode cJ9_min_f86c9 3 = .ok (.ifCond .gt 7, 3) := by decide +kernel
theorem dJ9_min_f86c9_6 : decode cJ9_min_f86c9 6 = .ok (.lload_n 0, 1) := by decide +kernel
theorem dJ9_min_f86c9_7 : decode cJ9_min_f86c9 7 = .ok (.goto 4, 3) := by decide +kernel
theorem dJ9_min_f86c9_10 : decode cJ9_min_f86c9 10 = .ok (.lload_n 2, 1) := by decide +kernel
theorem dJ9_min_f86c9_11 : decode cJ9_min_f86c9 11 = .ok (.lreturn, 1) := by decide +kernel
theorem dL_drawn_0 : decode cL_drawn 0 = .ok (.iload_n 1, 1) := by decide +kernel
theorem dL_drawn_1 : decode cL_drawn 1 = .ok (.aload_n 0, 1) := by decide +kernel
theorem dL_drawn_2 : decode cL_drawn 2 = .ok (.arraylength, 1) := by decide +kernel
theorem dL_drawn_3 : decode cL_drawn 3 = .ok (.if_icmp .ge 9, 3) := by decide +kernel
theorem dL_drawn_6 : decode cL_drawn 6 = .ok (.aload_n 0, 1) := by decide +kernel
theorem dL_drawn_7 : decode cL_drawn 7 = .ok (.iload_n 1, 1) := by decide +kernel
theorem dL_drawn_8 : decode cL_drawn 8 = .ok (.iaload, 1) := by decide +kernel
theorem dL_drawn_9 : decode cL_drawn 9 = .ok (.goto 15, 3) := by decide +kernel
theorem dL_drawn_12 : decode cL_drawn 12 = .ok (.ldc 7, 2) := by decide +kernel
theorem dL_drawn_14 : decode cL_drawn 14 = .ok (.iload_n 1, 1) := by decide +kernel
theorem dL_drawn_15 : decode cL_drawn 15 = .ok (.sipush 7919, 3) := by decide +kernel
theorem dL_drawn_18 : decode cL_drawn 18 = .ok (.irem, 1) := by decide +kernel
theorem dL_drawn_19 : decode cL_drawn 19 = .ok (.imul, 1) := by decide +kernel
theorem dL_drawn_20 : decode cL_drawn 20 = .ok (.sipush 5077, 3) := by decide +kernel
theorem dL_drawn_23 : decode cL_drawn 23 = .ok (.iadd, 1) := by decide +kernel
theorem dL_drawn_24 : decode cL_drawn 24 = .ok (.ldc 8, 2) := by decide +kernel
theorem dL_drawn_26 : decode cL_drawn 26 = .ok (.iand, 1) := by decide +kernel
theorem dL_drawn_27 : decode cL_drawn 27 = .ok (.ireturn, 1) := by decide +kernel
set_option maxRecDepth 20000 in
theorem ggL_pass_X6_pass : GoodIn wsL_pass wsX6_pass := goodIn_ca (goodIn_ca (goodIn_r _ [7, 8, 9, 10, 11, 12, 13, 14, 15, 16, 17, 18, 19, 20, 21, 22, 23, 24, 25, 26, 27, 28, 29, 30, 31, 32] (by decide +kernel) (by decide +kernel)) (goodIn_sub (fun _ h => List.mem_cons_of_mem _ (List.mem_append_left _ (List.mem_append_right _ h))) (by decide +kernel))) (goodIn_sub (fun _ h => List.mem_cons_of_mem _ (List.mem_append_right _ h)) (by decide +kernel))
set_option maxRecDepth 20000 in
theorem gL_pass_X6_pass : GoodIn wsL_pass (wsV RL 9 RX6 yX6_pass wsX6_pass) := goodIn_app (goodIn_of _ (by decide +kernel)) ggL_pass_X6_pass
theorem dL_pass_0 : decode cL_pass 0 = .ok (.aload_n 0, 1) := by decide +kernel
theorem dL_pass_1 : decode cL_pass 1 = .ok (.iload_n 1, 1) := by decide +kernel
theorem dL_pass_2 : decode cL_pass 2 = .ok (.invokevirtual 9, 3) := by decide +kernel
theorem dL_pass_5 : decode cL_pass 5 = .ok (.ireturn, 1) := by decide +kernel
theorem dL_pass_6 : decode cL_pass 6 = .ok (.astore_n 2, 1) := by decide +kernel
theorem dL_pass_7 : decode cL_pass 7 = .ok (.bipush (-102), 2) := by decide +kernel
theorem dL_pass_9 : decode cL_pass 9 = .ok (.ireturn, 1) := by decide +kernel
theorem dL_pass_10 : decode cL_pass 10 = .ok (.astore_n 2, 1) := by decide +kernel
theorem dL_pass_11 : decode cL_pass 11 = .ok (.bipush (-103), 2) := by decide +kernel
theorem dL_pass_13 : decode cL_pass 13 = .ok (.ireturn, 1) := by decide +kernel
set_option maxRecDepth 20000 in
theorem ggL_tract_X6_tract : GoodIn wsL_tract wsX6_tract := goodIn_ca (goodIn_ca (goodIn_ca (goodIn_r _ [8, 9, 10, 11, 12, 13, 14, 15, 16, 17, 18, 19, 20, 21, 7, 22, 23, 24, 25, 26, 27, 28, 29, 30, 31, 32, 33, 34, 35, 36, 37, 38, 39, 40, 41, 42, 43, 44, 45, 46, 47, 48, 49, 50, 51, 52, 53, 54] (by decide +kernel) (by decide +kernel)) (goodIn_sub (fun _ h => List.mem_cons_of_mem _ (List.mem_append_left _ (List.mem_append_left _ (List.mem_append_right _ h)))) (by decide +kernel))) (goodIn_sub (fun _ h => List.mem_cons_of_mem _ (List.mem_append_left _ (List.mem_append_right _ h))) (by decide +kernel))) (goodIn_sub (fun _ h => List.mem_cons_of_mem _ (List.mem_append_right _ h)) (by decide +kernel))
set_option maxRecDepth 20000 in
theorem gL_tract_X6_tract : GoodIn wsL_tract (wsV RL 19 RX6 yX6_tract wsX6_tract) := goodIn_app (goodIn_of _ (by decide +kernel)) ggL_tract_X6_tract
theorem dL_tract_0 : decode cL_tract 0 = .ok (.aload_n 0, 1) := by decide +kernel
theorem dL_tract_1 : decode cL_tract 1 = .ok (.iload_n 1, 1) := by decide +kernel
theorem dL_tract_2 : decode cL_tract 2 = .ok (.iload_n 2, 1) := by decide +kernel
theorem dL_tract_3 : decode cL_tract 3 = .ok (.invokevirtual 19, 3) := by decide +kernel
theorem dL_tract_6 : decode cL_tract 6 = .ok (.ireturn, 1) := by decide +kernel
theorem dL_tract_7 : decode cL_tract 7 = .ok (.astore_n 3, 1) := by decide +kernel
theorem dL_tract_8 : decode cL_tract 8 = .ok (.bipush (-101), 2) := by decide +kernel
theorem dL_tract_10 : decode cL_tract 10 = .ok (.ireturn, 1) := by decide +kernel
theorem dL_tract_11 : decode cL_tract 11 = .ok (.astore_n 3, 1) := by decide +kernel
theorem dL_tract_12 : decode cL_tract 12 = .ok (.bipush (-102), 2) := by decide +kernel
theorem dL_tract_14 : decode cL_tract 14 = .ok (.ireturn, 1) := by decide +kernel
theorem dL_tract_15 : decode cL_tract 15 = .ok (.astore_n 3, 1) := by decide +kernel
theorem dL_tract_16 : decode cL_tract 16 = .ok (.bipush (-103), 2) := by decide +kernel
theorem dL_tract_18 : decode cL_tract 18 = .ok (.ireturn, 1) := by decide +kernel
set_option maxRecDepth 20000 in
theorem ggL_deed_X6_deed : GoodIn wsL_deed wsX6_deed := goodIn_ca (goodIn_ca (goodIn_ca (goodIn_r _ [8, 9, 10, 11, 12, 13, 14, 15, 16, 17, 18, 19, 20, 21, 22, 23, 7, 24, 25, 26, 27, 28, 29, 30, 31, 32, 33, 34, 35, 36, 37, 38, 39, 40, 41, 42, 43, 44, 45, 46, 47, 48, 49, 50, 51, 52, 53, 54, 55, 56, 57, 58, 59, 60, 61, 62, 63, 64, 65, 66, 67, 68, 69, 70, 71, 72, 73, 74, 75, 76, 77, 78, 79, 80, 81, 82, 83, 84, 85, 86, 87, 88, 89, 90, 91, 92, 93, 94] (by decide +kernel) (by decide +kernel)) (goodIn_sub (fun _ h => List.mem_cons_of_mem _ (List.mem_append_left _ (List.mem_append_left _ (List.mem_append_right _ h)))) (by decide +kernel))) (goodIn_sub (fun _ h => List.mem_cons_of_mem _ (List.mem_append_left _ (List.mem_append_right _ h))) (by decide +kernel))) (goodIn_sub (fun _ h => List.mem_cons_of_mem _ (List.mem_append_right _ h)) (by decide +kernel))
set_option maxRecDepth 20000 in
theorem gL_deed_X6_deed : GoodIn wsL_deed (wsV RL 25 RX6 yX6_deed wsX6_deed) := goodIn_app (goodIn_of _ (by decide +kernel)) ggL_deed_X6_deed
theorem dL_deed_0 : decode cL_deed 0 = .ok (.aload_n 0, 1) := by decide +kernel
theorem dL_deed_1 : decode cL_deed 1 = .ok (.iload_n 1, 1) := by decide +kernel
theorem dL_deed_2 : decode cL_deed 2 = .ok (.iload_n 2, 1) := by decide +kernel
theorem dL_deed_3 : decode cL_deed 3 = .ok (.iload_n 3, 1) := by decide +kernel
theorem dL_deed_4 : decode cL_deed 4 = .ok (.iload 4, 2) := by decide +kernel
theorem dL_deed_6 : decode cL_deed 6 = .ok (.iload 5, 2) := by decide +kernel
theorem dL_deed_8 : decode cL_deed 8 = .ok (.invokevirtual 25, 3) := by decide +kernel
theorem dL_deed_11 : decode cL_deed 11 = .ok (.ireturn, 1) := by decide +kernel
theorem dL_deed_12 : decode cL_deed 12 = .ok (.astore 6, 2) := by decide +kernel
theorem dL_deed_14 : decode cL_deed 14 = .ok (.bipush (-101), 2) := by decide +kernel
theorem dL_deed_16 : decode cL_deed 16 = .ok (.ireturn, 1) := by decide +kernel
theorem dL_deed_17 : decode cL_deed 17 = .ok (.astore 6, 2) := by decide +kernel
theorem dL_deed_19 : decode cL_deed 19 = .ok (.bipush (-102), 2) := by decide +kernel
theorem dL_deed_21 : decode cL_deed 21 = .ok (.ireturn, 1) := by decide +kernel
theorem dL_deed_22 : decode cL_deed 22 = .ok (.astore 6, 2) := by decide +kernel
theorem dL_deed_24 : decode cL_deed 24 = .ok (.bipush (-103), 2) := by decide +kernel
theorem dL_deed_26 : decode cL_deed 26 = .ok (.ireturn, 1) := by decide +kernel
set_option maxRecDepth 20000 in
theorem ggL_title_X6_title : GoodIn wsL_title wsX6_title := goodIn_ca (goodIn_r _ [6, 7, 8, 9, 10, 11, 5, 12, 13, 14, 15, 16, 17, 18, 19, 20, 21, 22, 23, 24, 25, 26, 27, 28, 29, 30, 31, 32, 33, 34, 35, 36, 37, 38, 39, 40, 41, 42, 43, 44, 45, 46, 47, 48, 49, 50, 51, 52, 53, 54, 55, 56, 57, 58, 59, 60] (by decide +kernel) (by decide +kernel)) (goodIn_sub (fun _ h => List.mem_cons_of_mem _ (List.mem_append_right _ h)) (by decide +kernel))
set_option maxRecDepth 20000 in
theorem gL_title_X6_title : GoodIn wsL_title (wsV RL 29 RX6 yX6_title wsX6_title) := goodIn_app (goodIn_of _ (by decide +kernel)) ggL_title_X6_title
theorem dL_title_0 : decode cL_title 0 = .ok (.aload_n 0, 1) := by decide +kernel
theorem dL_title_1 : decode cL_title 1 = .ok (.iload_n 1, 1) := by decide +kernel
theorem dL_title_2 : decode cL_title 2 = .ok (.iload_n 2, 1) := by decide +kernel
theorem dL_title_3 : decode cL_title 3 = .ok (.iload_n 3, 1) := by decide +kernel
theorem dL_title_4 : decode cL_title 4 = .ok (.invokevirtual 29, 3) := by decide +kernel
theorem dL_title_7 : decode cL_title 7 = .ok (.ireturn, 1) := by decide +kernel
theorem dL_title_8 : decode cL_title 8 = .ok (.astore 4, 2) := by decide +kernel
theorem dL_title_10 : decode cL_title 10 = .ok (.bipush (-101), 2) := by decide +kernel
theorem dL_title_12 : decode cL_title 12 = .ok (.ireturn, 1) := by decide +kernel
set_option maxRecDepth 20000 in
theorem ggL_lease_X6_lease : GoodIn wsL_lease wsX6_lease := goodIn_ca (goodIn_ca (goodIn_ca (goodIn_r _ [8, 9, 10, 11, 12, 13, 14, 15, 16, 17, 18, 19, 20, 21, 22, 23, 24, 25, 7, 26, 27, 28, 29, 30, 31, 32, 33, 34, 35, 36, 37, 38, 39, 40, 41, 42, 43, 44, 45, 46, 47, 48, 49, 50, 51, 52, 53, 54, 55, 56, 57, 58, 59, 60, 61, 62, 63, 64, 65, 66, 67, 68, 69, 70, 71, 72, 73, 74, 75, 76, 77] (by decide +kernel) (by decide +kernel)) (goodIn_sub (fun _ h => List.mem_cons_of_mem _ (List.mem_append_left _ (List.mem_append_left _ (List.mem_append_right _ h)))) (by decide +kernel))) (goodIn_sub (fun _ h => List.mem_cons_of_mem _ (List.mem_append_left _ (List.mem_append_right _ h))) (by decide +kernel))) (goodIn_sub (fun _ h => List.mem_cons_of_mem _ (List.mem_append_right _ h)) (by decide +kernel))
set_option maxRecDepth 20000 in
theorem gL_lease_X6_lease : GoodIn wsL_lease (wsV RL 33 RX6 yX6_lease wsX6_lease) := goodIn_app (goodIn_of _ (by decide +kernel)) ggL_lease_X6_lease
theorem dL_lease_0 : decode cL_lease 0 = .ok (.aload_n 0, 1) := by decide +kernel
theorem dL_lease_1 : decode cL_lease 1 = .ok (.iload_n 1, 1) := by decide +kernel
theorem dL_lease_2 : decode cL_lease 2 = .ok (.iload_n 2, 1) := by decide +kernel
theorem dL_lease_3 : decode cL_lease 3 = .ok (.iload_n 3, 1) := by decide +kernel
theorem dL_lease_4 : decode cL_lease 4 = .ok (.iload 4, 2) := by decide +kernel
theorem dL_lease_6 : decode cL_lease 6 = .ok (.iload 5, 2) := by decide +kernel
theorem dL_lease_8 : decode cL_lease 8 = .ok (.invokevirtual 33, 3) := by decide +kernel
theorem dL_lease_11 : decode cL_lease 11 = .ok (.ireturn, 1) := by decide +kernel
theorem dL_lease_12 : decode cL_lease 12 = .ok (.astore 6, 2) := by decide +kernel
theorem dL_lease_14 : decode cL_lease 14 = .ok (.bipush (-101), 2) := by decide +kernel
theorem dL_lease_16 : decode cL_lease 16 = .ok (.ireturn, 1) := by decide +kernel
theorem dL_lease_17 : decode cL_lease 17 = .ok (.astore 6, 2) := by decide +kernel
theorem dL_lease_19 : decode cL_lease 19 = .ok (.bipush (-102), 2) := by decide +kernel
theorem dL_lease_21 : decode cL_lease 21 = .ok (.ireturn, 1) := by decide +kernel
theorem dL_lease_22 : decode cL_lease 22 = .ok (.astore 6, 2) := by decide +kernel
