theorem dX6_bookCosts_93 : decode cX6_bookCosts 93 = .ok (.bipush 10, 2) := by decide +kernel
theorem dX6_bookCosts_95 : decode cX6_bookCosts 95 = .ok (.if_icmp .ge 32, 3) := by decide +kernel
theorem dX6_bookCosts_98 : decode cX6_bookCosts 98 = .ok (.aload_n 1, 1) := by decide +kernel
theorem dX6_bookCosts_99 : decode cX6_bookCosts 99 = .ok (.getfield 268, 3) := by decide +kernel
theorem dX6_bookCosts_102 : decode cX6_bookCosts 102 = .ok (.iload 4, 2) := by decide +kernel
theorem dX6_bookCosts_104 : decode cX6_bookCosts 104 = .ok (.iload 5, 2) := by decide +kernel
theorem dX6_bookCosts_106 : decode cX6_bookCosts 106 = .ok (.iadd, 1) := by decide +kernel
theorem dX6_bookCosts_107 : decode cX6_bookCosts 107 = .ok (.dup2, 1) := by decide +kernel
theorem dX6_bookCosts_108 : decode cX6_bookCosts 108 = .ok (.laload, 1) := by decide +kernel
theorem dX6_bookCosts_109 : decode cX6_bookCosts 109 = .ok (.aload_n 0, 1) := by decide +kernel
theorem dX6_bookCosts_110 : decode cX6_bookCosts 110 = .ok (.getfield 90, 3) := by decide +kernel
theorem dX6_bookCosts_113 : decode cX6_bookCosts 113 = .ok (.getfield 256, 3) := by decide +kernel
theorem dX6_bookCosts_116 : decode cX6_bookCosts 116 = .ok (.iload 5, 2) := by decide +kernel
theorem dX6_bookCosts_118 : decode cX6_bookCosts 118 = .ok (.laload, 1) := by decide +kernel
theorem dX6_bookCosts_119 : decode cX6_bookCosts 119 = .ok (.lsub, 1) := by decide +kernel
theorem dX6_bookCosts_120 : decode cX6_bookCosts 120 = .ok (.lastore, 1) := by decide +kernel
theorem dX6_bookCosts_121 : decode cX6_bookCosts 121 = .ok (.iinc 5 1, 3) := by decide +kernel
theorem dX6_bookCosts_124 : decode cX6_bookCosts 124 = .ok (.goto (-33), 3) := by decide +kernel
theorem dX6_bookCosts_127 : decode cX6_bookCosts 127 = .ok (.return_, 1) := by decide +kernel
set_option maxRecDepth 20000 in
theorem ggX6_bookRevenue_X6_revenueOf : GoodIn wsX6_bookRevenue wsX6_revenueOf := goodIn_r _ [14, 15, 16, 17, 18, 19, 13, 20, 21, 66, 67, 68, 69, 70, 71, 72, 43, 44, 45, 46, 47, 48, 49, 50, 51, 52, 53, 54, 55, 56, 57, 58, 59, 60, 61, 62] (by decide +kernel) (by decide +kernel)
set_option maxRecDepth 20000 in
theorem gX6_bookRevenue_X6_revenueOf : GoodIn wsX6_bookRevenue (wsV RX6 261 RX6 yX6_revenueOf wsX6_revenueOf) := goodIn_app (goodIn_of _ (by decide +kernel)) ggX6_bookRevenue_X6_revenueOf
set_option maxRecDepth 20000 in
theorem ggX6_bookRevenue_X2_partOut : GoodIn wsX6_bookRevenue wsX2_partOut := goodIn_r _ [26, 27, 28, 29, 30, 31, 32, 25, 33, 34, 63, 64, 65] (by decide +kernel) (by decide +kernel)
set_option maxRecDepth 20000 in
theorem gX6_bookRevenue_X2_partOut : GoodIn wsX6_bookRevenue (wsV RX6 252 RX2 yX2_partOut wsX2_partOut) := goodIn_app (goodIn_of _ (by decide +kernel)) ggX6_bookRevenue_X2_partOut
set_option maxRecDepth 20000 in
theorem ggX6_bookRevenue_X6_hasBit : GoodIn wsX6_bookRevenue wsX6_hasBit := goodIn_r _ [37] (by decide +kernel) (by decide +kernel)
set_option maxRecDepth 20000 in
theorem gX6_bookRevenue_X6_hasBit : GoodIn wsX6_bookRevenue (va_wsS RX6 175 yX6_hasBit wsX6_hasBit) := goodIn_app (goodIn_of _ (by decide +kernel)) ggX6_bookRevenue_X6_hasBit
set_option maxRecDepth 20000 in
theorem ggX6_bookRevenue_X6_partByWorking : GoodIn wsX6_bookRevenue wsX6_partByWorking := goodIn_r _ [41, 9, 42, 1, 35, 36, 13, 37, 22, 23, 24, 25, 26, 27, 28, 29, 30, 31, 32, 33, 34, 43, 44, 45, 46, 47, 48, 49, 50, 51, 52, 53, 54, 55, 56, 57, 58, 59, 60, 61, 62, 63, 64, 65] (by decide +kernel) (by decide +kernel)
set_option maxRecDepth 20000 in
theorem gX6_bookRevenue_X6_partByWorking : GoodIn wsX6_bookRevenue (wsV RX6 357 RX6 yX6_partByWorking wsX6_partByWorking) := goodIn_app (goodIn_of _ (by decide +kernel)) ggX6_bookRevenue_X6_partByWorking
theorem dX6_bookRevenue_0 : decode cX6_bookRevenue 0 = .ok (.iload_n 2, 1) := by decide +kernel
theorem dX6_bookRevenue_1 : decode cX6_bookRevenue 1 = .ok (.bipush 10, 2) := by decide +kernel
theorem dX6_bookRevenue_3 : decode cX6_bookRevenue 3 = .ok (.imul, 1) := by decide +kernel
theorem dX6_bookRevenue_4 : decode cX6_bookRevenue 4 = .ok (.istore 4, 2) := by decide +kernel
theorem dX6_bookRevenue_6 : decode cX6_bookRevenue 6 = .ok (.lconst 0, 1) := by decide +kernel
theorem dX6_bookRevenue_7 : decode cX6_bookRevenue 7 = .ok (.lstore 5, 2) := by decide +kernel
theorem dX6_bookRevenue_9 : decode cX6_bookRevenue 9 = .ok (.aload_n 0, 1) := by decide +kernel
theorem dX6_bookRevenue_10 : decode cX6_bookRevenue 10 = .ok (.getfield 86, 3) := by decide +kernel
theorem dX6_bookRevenue_13 : decode cX6_bookRevenue 13 = .ok (.aload_n 0, 1) := by decide +kernel
theorem dX6_bookRevenue_14 : decode cX6_bookRevenue 14 = .ok (.aload_n 1, 1) := by decide +kernel
theorem dX6_bookRevenue_15 : decode cX6_bookRevenue 15 = .ok (.iload_n 2, 1) := by decide +kernel
theorem dX6_bookRevenue_16 : decode cX6_bookRevenue 16 = .ok (.invokevirtual 261, 3) := by decide +kernel
theorem dX6_bookRevenue_19 : decode cX6_bookRevenue 19 = .ok (.invokevirtual 252, 3) := by decide +kernel
theorem dX6_bookRevenue_22 : decode cX6_bookRevenue 22 = .ok (.iconst 0, 1) := by decide +kernel
theorem dX6_bookRevenue_23 : decode cX6_bookRevenue 23 = .ok (.istore 7, 2) := by decide +kernel
theorem dX6_bookRevenue_25 : decode cX6_bookRevenue 25 = .ok (.iload 7, 2) := by decide +kernel
theorem dX6_bookRevenue_27 : decode cX6_bookRevenue 27 = .ok (.bipush 10, 2) := by decide +kernel
theorem dX6_bookRevenue_29 : decode cX6_bookRevenue 29 = .ok (.if_icmp .ge 105, 3) := by decide +kernel
theorem dX6_bookRevenue_32 : decode cX6_bookRevenue 32 = .ok (.aload_n 0, 1) := by decide +kernel
theorem dX6_bookRevenue_33 : decode cX6_bookRevenue 33 = .ok (.getfield 86, 3) := by decide +kernel
theorem dX6_bookRevenue_36 : decode cX6_bookRevenue 36 = .ok (.getfield 256, 3) := by decide +kernel
theorem dX6_bookRevenue_39 : decode cX6_bookRevenue 39 = .ok (.bipush 10, 2) := by decide +kernel
theorem dX6_bookRevenue_41 : decode cX6_bookRevenue 41 = .ok (.iload 7, 2) := by decide +kernel
theorem dX6_bookRevenue_43 : decode cX6_bookRevenue 43 = .ok (.iadd, 1) := by decide +kernel
theorem dX6_bookRevenue_44 : decode cX6_bookRevenue 44 = .ok (.laload, 1) := by decide +kernel
theorem dX6_bookRevenue_45 : decode cX6_bookRevenue 45 = .ok (.lstore 8, 2) := by decide +kernel
theorem dX6_bookRevenue_47 : decode cX6_bookRevenue 47 = .ok (.iload_n 3, 1) := by decide +kernel
theorem dX6_bookRevenue_48 : decode cX6_bookRevenue 48 = .ok (.iload 7, 2) := by decide +kernel
theorem dX6_bookRevenue_50 : decode cX6_bookRevenue 50 = .ok (.invokestatic 175, 3) := by decide +kernel
theorem dX6_bookRevenue_53 : decode cX6_bookRevenue 53 = .ok (.ifCond .eq 21, 3) := by decide +kernel
theorem dX6_bookRevenue_56 : decode cX6_bookRevenue 56 = .ok (.lload 8, 2) := by decide +kernel
theorem dX6_bookRevenue_58 : decode cX6_bookRevenue 58 = .ok (.aload_n 1, 1) := by decide +kernel
theorem dX6_bookRevenue_59 : decode cX6_bookRevenue 59 = .ok (.getfield 271, 3) := by decide +kernel
theorem dX6_bookRevenue_62 : decode cX6_bookRevenue 62 = .ok (.iload 4, 2) := by decide +kernel
theorem dX6_bookRevenue_64 : decode cX6_bookRevenue 64 = .ok (.iload 7, 2) := by decide +kernel
theorem dX6_bookRevenue_66 : decode cX6_bookRevenue 66 = .ok (.iadd, 1) := by decide +kernel
theorem dX6_bookRevenue_67 : decode cX6_bookRevenue 67 = .ok (.laload, 1) := by decide +kernel
theorem dX6_bookRevenue_68 : decode cX6_bookRevenue 68 = .ok (.invokestatic 361, 3) := by decide +kernel
theorem dX6_bookRevenue_71 : decode cX6_bookRevenue 71 = .ok (.goto 4, 3) := by decide +kernel
theorem dX6_bookRevenue_74 : decode cX6_bookRevenue 74 = .ok (.lconst 0, 1) := by decide +kernel
theorem dX6_bookRevenue_75 : decode cX6_bookRevenue 75 = .ok (.lstore 10, 2) := by decide +kernel
theorem dX6_bookRevenue_77 : decode cX6_bookRevenue 77 = .ok (.aload_n 1, 1) := by decide +kernel
theorem dX6_bookRevenue_78 : decode cX6_bookRevenue 78 = .ok (.getfield 271, 3) := by decide +kernel
theorem dX6_bookRevenue_81 : decode cX6_bookRevenue 81 = .ok (.iload 4, 2) := by decide +kernel
theorem dX6_bookRevenue_83 : decode cX6_bookRevenue 83 = .ok (.iload 7, 2) := by decide +kernel
theorem dX6_bookRevenue_85 : decode cX6_bookRevenue 85 = .ok (.iadd, 1) := by decide +kernel
theorem dX6_bookRevenue_86 : decode cX6_bookRevenue 86 = .ok (.dup2, 1) := by decide +kernel
theorem dX6_bookRevenue_87 : decode cX6_bookRevenue 87 = .ok (.laload, 1) := by decide +kernel
theorem dX6_bookRevenue_88 : decode cX6_bookRevenue 88 = .ok (.lload 10, 2) := by decide +kernel
theorem dX6_bookRevenue_90 : decode cX6_bookRevenue 90 = .ok (.lsub, 1) := by decide +kernel
theorem dX6_bookRevenue_91 : decode cX6_bookRevenue 91 = .ok (.lastore, 1) := by decide +kernel
theorem dX6_bookRevenue_92 : decode cX6_bookRevenue 92 = .ok (.aload_n 1, 1) := by decide +kernel
theorem dX6_bookRevenue_93 : decode cX6_bookRevenue 93 = .ok (.getfield 268, 3) := by decide +kernel
theorem dX6_bookRevenue_96 : decode cX6_bookRevenue 96 = .ok (.iload 4, 2) := by decide +kernel
theorem dX6_bookRevenue_98 : decode cX6_bookRevenue 98 = .ok (.iload 7, 2) := by decide +kernel
theorem dX6_bookRevenue_100 : decode cX6_bookRevenue 100 = .ok (.iadd, 1) := by decide +kernel
theorem dX6_bookRevenue_101 : decode cX6_bookRevenue 101 = .ok (.dup2, 1) := by decide +kernel
theorem dX6_bookRevenue_102 : decode cX6_bookRevenue 102 = .ok (.laload, 1) := by decide +kernel
theorem dX6_bookRevenue_103 : decode cX6_bookRevenue 103 = .ok (.aload_n 0, 1) := by decide +kernel
theorem dX6_bookRevenue_104 : decode cX6_bookRevenue 104 = .ok (.getfield 86, 3) := by decide +kernel
theorem dX6_bookRevenue_107 : decode cX6_bookRevenue 107 = .ok (.getfield 256, 3) := by decide +kernel
theorem dX6_bookRevenue_110 : decode cX6_bookRevenue 110 = .ok (.iload 7, 2) := by decide +kernel
theorem dX6_bookRevenue_112 : decode cX6_bookRevenue 112 = .ok (.laload, 1) := by decide +kernel
theorem dX6_bookRevenue_113 : decode cX6_bookRevenue 113 = .ok (.lload 8, 2) := by decide +kernel
theorem dX6_bookRevenue_115 : decode cX6_bookRevenue 115 = .ok (.ladd, 1) := by decide +kernel
theorem dX6_bookRevenue_116 : decode cX6_bookRevenue 116 = .ok (.lload 10, 2) := by decide +kernel
theorem dX6_bookRevenue_118 : decode cX6_bookRevenue 118 = .ok (.lsub, 1) := by decide +kernel
theorem dX6_bookRevenue_119 : decode cX6_bookRevenue 119 = .ok (.ladd, 1) := by decide +kernel
theorem dX6_bookRevenue_120 : decode cX6_bookRevenue 120 = .ok (.lastore, 1) := by decide +kernel
theorem dX6_bookRevenue_121 : decode cX6_bookRevenue 121 = .ok (.lload 5, 2) := by decide +kernel
theorem dX6_bookRevenue_123 : decode cX6_bookRevenue 123 = .ok (.lload 10, 2) := by decide +kernel
theorem dX6_bookRevenue_125 : decode cX6_bookRevenue 125 = .ok (.ladd, 1) := by decide +kernel
theorem dX6_bookRevenue_126 : decode cX6_bookRevenue 126 = .ok (.lstore 5, 2) := by decide +kernel
theorem dX6_bookRevenue_128 : decode cX6_bookRevenue 128 = .ok (.iinc 7 1, 3) := by decide +kernel
theorem dX6_bookRevenue_131 : decode cX6_bookRevenue 131 = .ok (.goto (-106), 3) := by decide +kernel
theorem dX6_bookRevenue_134 : decode cX6_bookRevenue 134 = .ok (.aload_n 0, 1) := by decide +kernel
theorem dX6_bookRevenue_135 : decode cX6_bookRevenue 135 = .ok (.lload 5, 2) := by decide +kernel
theorem dX6_bookRevenue_137 : decode cX6_bookRevenue 137 = .ok (.iload_n 3, 1) := by decide +kernel
theorem dX6_bookRevenue_138 : decode cX6_bookRevenue 138 = .ok (.invokevirtual 357, 3) := by decide +kernel
theorem dX6_bookRevenue_141 : decode cX6_bookRevenue 141 = .ok (.iconst 0, 1) := by decide +kernel
theorem dX6_bookRevenue_142 : decode cX6_bookRevenue 142 = .ok (.istore 7, 2) := by decide +kernel
theorem dX6_bookRevenue_144 : decode cX6_bookRevenue 144 = .ok (.iload 7, 2) := by decide +kernel
theorem dX6_bookRevenue_146 : decode cX6_bookRevenue 146 = .ok (.bipush 10, 2) := by decide +kernel
theorem dX6_bookRevenue_148 : decode cX6_bookRevenue 148 = .ok (.if_icmp .ge 32, 3) := by decide +kernel
theorem dX6_bookRevenue_151 : decode cX6_bookRevenue 151 = .ok (.aload_n 1, 1) := by decide +kernel
theorem dX6_bookRevenue_152 : decode cX6_bookRevenue 152 = .ok (.getfield 268, 3) := by decide +kernel
theorem dX6_bookRevenue_155 : decode cX6_bookRevenue 155 = .ok (.iload 4, 2) := by decide +kernel
theorem dX6_bookRevenue_157 : decode cX6_bookRevenue 157 = .ok (.iload 7, 2) := by decide +kernel
theorem dX6_bookRevenue_159 : decode cX6_bookRevenue 159 = .ok (.iadd, 1) := by decide +kernel
theorem dX6_bookRevenue_160 : decode cX6_bookRevenue 160 = .ok (.dup2, 1) := by decide +kernel
theorem dX6_bookRevenue_161 : decode cX6_bookRevenue 161 = .ok (.laload, 1) := by decide +kernel
theorem dX6_bookRevenue_162 : decode cX6_bookRevenue 162 = .ok (.aload_n 0, 1) := by decide +kernel
theorem dX6_bookRevenue_163 : decode cX6_bookRevenue 163 = .ok (.getfield 90, 3) := by decide +kernel
theorem dX6_bookRevenue_166 : decode cX6_bookRevenue 166 = .ok (.getfield 256, 3) := by decide +kernel
theorem dX6_bookRevenue_169 : decode cX6_bookRevenue 169 = .ok (.iload 7, 2) := by decide +kernel
theorem dX6_bookRevenue_171 : decode cX6_bookRevenue 171 = .ok (.laload, 1) := by decide +kernel
theorem dX6_bookRevenue_172 : decode cX6_bookRevenue 172 = .ok (.ladd, 1) := by decide +kernel
theorem dX6_bookRevenue_173 : decode cX6_bookRevenue 173 = .ok (.lastore, 1) := by decide +kernel
theorem dX6_bookRevenue_174 : decode cX6_bookRevenue 174 = .ok (.iinc 7 1, 3) := by decide +kernel
theorem dX6_bookRevenue_177 : decode cX6_bookRevenue 177 = .ok (.goto (-33), 3) := by decide +kernel
theorem dX6_bookRevenue_180 : decode cX6_bookRevenue 180 = .ok (.return_, 1) := by decide +kernel
set_option maxRecDepth 20000 in
theorem ggX6_partByWorking_X6_hasBit : GoodIn wsX6_partByWorking wsX6_hasBit := goodIn_r _ [7] (by decide +kernel) (by decide +kernel)
set_option maxRecDepth 20000 in
theorem gX6_partByWorking_X6_hasBit : GoodIn wsX6_partByWorking (va_wsS RX6 175 yX6_hasBit wsX6_hasBit) := goodIn_app (goodIn_of _ (by decide +kernel)) ggX6_partByWorking_X6_hasBit
set_option maxRecDepth 20000 in
theorem ggX6_partByWorking_X2_partOut : GoodIn wsX6_partByWorking wsX2_partOut := goodIn_r _ [12, 13, 14, 15, 16, 17, 18, 11, 19, 20, 41, 42, 43] (by decide +kernel) (by decide +kernel)
set_option maxRecDepth 20000 in
theorem gX6_partByWorking_X2_partOut : GoodIn wsX6_partByWorking (wsV RX6 252 RX2 yX2_partOut wsX2_partOut) := goodIn_app (goodIn_of _ (by decide +kernel)) ggX6_partByWorking_X2_partOut
theorem dX6_partByWorking_0 : decode cX6_partByWorking 0 = .ok (.iconst 0, 1) := by decide +kernel
theorem dX6_partByWorking_1 : decode cX6_partByWorking 1 = .ok (.istore 4, 2) := by decide +kernel
theorem dX6_partByWorking_3 : decode cX6_partByWorking 3 = .ok (.iload 4, 2) := by decide +kernel
theorem dX6_partByWorking_5 : decode cX6_partByWorking 5 = .ok (.bipush 10, 2) := by decide +kernel
theorem dX6_partByWorking_7 : decode cX6_partByWorking 7 = .ok (.if_icmp .ge 45, 3) := by decide +kernel
theorem dX6_partByWorking_10 : decode cX6_partByWorking 10 = .ok (.aload_n 0, 1) := by decide +kernel
theorem dX6_partByWorking_11 : decode cX6_partByWorking 11 = .ok (.getfield 90, 3) := by decide +kernel
theorem dX6_partByWorking_14 : decode cX6_partByWorking 14 = .ok (.getfield 325, 3) := by decide +kernel
theorem dX6_partByWorking_17 : decode cX6_partByWorking 17 = .ok (.iload 4, 2) := by decide +kernel
theorem dX6_partByWorking_19 : decode cX6_partByWorking 19 = .ok (.iload_n 3, 1) := by decide +kernel
theorem dX6_partByWorking_20 : decode cX6_partByWorking 20 = .ok (.iload 4, 2) := by decide +kernel
theorem dX6_partByWorking_22 : decode cX6_partByWorking 22 = .ok (.invokestatic 175, 3) := by decide +kernel
theorem dX6_partByWorking_25 : decode cX6_partByWorking 25 = .ok (.ifCond .eq 7, 3) := by decide +kernel
theorem dX6_partByWorking_28 : decode cX6_partByWorking 28 = .ok (.lconst 0, 1) := by decide +kernel
theorem dX6_partByWorking_29 : decode cX6_partByWorking 29 = .ok (.goto 16, 3) := by decide +kernel
theorem dX6_partByWorking_32 : decode cX6_partByWorking 32 = .ok (.aload_n 0, 1) := by decide +kernel
theorem dX6_partByWorking_33 : decode cX6_partByWorking 33 = .ok (.getfield 86, 3) := by decide +kernel
theorem dX6_partByWorking_36 : decode cX6_partByWorking 36 = .ok (.getfield 325, 3) := by decide +kernel
theorem dX6_partByWorking_39 : decode cX6_partByWorking 39 = .ok (.bipush 10, 2) := by decide +kernel
theorem dX6_partByWorking_41 : decode cX6_partByWorking 41 = .ok (.iload 4, 2) := by decide +kernel
theorem dX6_partByWorking_43 : decode cX6_partByWorking 43 = .ok (.iadd, 1) := by decide +kernel
theorem dX6_partByWorking_44 : decode cX6_partByWorking 44 = .ok (.laload, 1) := by decide +kernel
theorem dX6_partByWorking_45 : decode cX6_partByWorking 45 = .ok (.lastore, 1) := by decide +kernel
theorem dX6_partByWorking_46 : decode cX6_partByWorking 46 = .ok (.iinc 4 1, 3) := by decide +kernel
theorem dX6_partByWorking_49 : decode cX6_partByWorking 49 = .ok (.goto (-46), 3) := by decide +kernel
theorem dX6_partByWorking_52 : decode cX6_partByWorking 52 = .ok (.aload_n 0, 1) := by decide +kernel
theorem dX6_partByWorking_53 : decode cX6_partByWorking 53 = .ok (.getfield 90, 3) := by decide +kernel
theorem dX6_partByWorking_56 : decode cX6_partByWorking 56 = .ok (.lload_n 1, 1) := by decide +kernel
theorem dX6_partByWorking_57 : decode cX6_partByWorking 57 = .ok (.invokevirtual 252, 3) := by decide +kernel
theorem dX6_partByWorking_60 : decode cX6_partByWorking 60 = .ok (.return_, 1) := by decide +kernel
theorem dX6_settledOwed_0 : decode cX6_settledOwed 0 = .ok (.aload_n 0, 1) := by decide +kernel
theorem dX6_settledOwed_1 : decode cX6_settledOwed 1 = .ok (.getfield 71, 3) := by decide +kernel
theorem dX6_settledOwed_4 : decode cX6_settledOwed 4 = .ok (.iload_n 1, 1) := by decide +kernel
theorem dX6_settledOwed_5 : decode cX6_settledOwed 5 = .ok (.laload, 1) := by decide +kernel
theorem dX6_settledOwed_6 : decode cX6_settledOwed 6 = .ok (.lneg, 1) := by decide +kernel
theorem dX6_settledOwed_7 : decode cX6_settledOwed 7 = .ok (.lstore_n 2, 1) := by decide +kernel
theorem dX6_settledOwed_8 : decode cX6_settledOwed 8 = .ok (.aload_n 0, 1) := by decide +kernel
theorem dX6_settledOwed_9 : decode cX6_settledOwed 9 = .ok (.getfield 42, 3) := by decide +kernel
theorem dX6_settledOwed_12 : decode cX6_settledOwed 12 = .ok (.astore 4, 2) := by decide +kernel
theorem dX6_settledOwed_14 : decode cX6_settledOwed 14 = .ok (.aload 4, 2) := by decide +kernel
theorem dX6_settledOwed_16 : decode cX6_settledOwed 16 = .ok (.arraylength, 1) := by decide +kernel
theorem dX6_settledOwed_17 : decode cX6_settledOwed 17 = .ok (.istore 5, 2) := by decide +kernel
theorem dX6_settledOwed_19 : decode cX6_settledOwed 19 = .ok (.iconst 0, 1) := by decide +kernel
theorem dX6_settledOwed_20 : decode cX6_settledOwed 20 = .ok (.istore 6, 2) := by decide +kernel
theorem dX6_settledOwed_22 : decode cX6_settledOwed 22 = .ok (.iload 6, 2) := by decide +kernel
theorem dX6_settledOwed_24 : decode cX6_settledOwed 24 = .ok (.iload 5, 2) := by decide +kernel
theorem dX6_settledOwed_26 : decode cX6_settledOwed 26 = .ok (.if_icmp .ge 59, 3) := by decide +kernel
theorem dX6_settledOwed_29 : decode cX6_settledOwed 29 = .ok (.aload 4, 2) := by decide +kernel
theorem dX6_settledOwed_31 : decode cX6_settledOwed 31 = .ok (.iload 6, 2) := by decide +kernel
theorem dX6_settledOwed_33 : decode cX6_settledOwed 33 = .ok (.aaload, 1) := by decide +kernel
theorem dX6_settledOwed_34 : decode cX6_settledOwed 34 = .ok (.astore 7, 2) := by decide +kernel
theorem dX6_settledOwed_36 : decode cX6_settledOwed 36 = .ok (.aload 7, 2) := by decide +kernel
theorem dX6_settledOwed_38 : decode cX6_settledOwed 38 = .ok (.ifnull 41, 3) := by decide +kernel
theorem dX6_settledOwed_41 : decode cX6_settledOwed 41 = .ok (.aload 7, 2) := by decide +kernel
theorem dX6_settledOwed_43 : decode cX6_settledOwed 43 = .ok (.getfield 203, 3) := by decide +kernel
theorem dX6_settledOwed_46 : decode cX6_settledOwed 46 = .ok (.istore 8, 2) := by decide +kernel
theorem dX6_settledOwed_48 : decode cX6_settledOwed 48 = .ok (.iload 8, 2) := by decide +kernel
theorem dX6_settledOwed_50 : decode cX6_settledOwed 50 = .ok (.aload_n 0, 1) := by decide +kernel
theorem dX6_settledOwed_51 : decode cX6_settledOwed 51 = .ok (.getfield 9, 3) := by decide +kernel
theorem dX6_settledOwed_54 : decode cX6_settledOwed 54 = .ok (.if_icmp .gt 25, 3) := by decide +kernel
theorem dX6_settledOwed_57 : decode cX6_settledOwed 57 = .ok (.lload_n 2, 1) := by decide +kernel
theorem dX6_settledOwed_58 : decode cX6_settledOwed 58 = .ok (.aload 7, 2) := by decide +kernel
theorem dX6_settledOwed_60 : decode cX6_settledOwed 60 = .ok (.getfield 268, 3) := by decide +kernel
theorem dX6_settledOwed_63 : decode cX6_settledOwed 63 = .ok (.iload 8, 2) := by decide +kernel
theorem dX6_settledOwed_65 : decode cX6_settledOwed 65 = .ok (.bipush 10, 2) := by decide +kernel
theorem dX6_settledOwed_67 : decode cX6_settledOwed 67 = .ok (.imul, 1) := by decide +kernel
theorem dX6_settledOwed_68 : decode cX6_settledOwed 68 = .ok (.iload_n 1, 1) := by decide +kernel
theorem dX6_settledOwed_69 : decode cX6_settledOwed 69 = .ok (.iadd, 1) := by decide +kernel
theorem dX6_settledOwed_70 : decode cX6_settledOwed 70 = .ok (.laload, 1) := by decide +kernel
theorem dX6_settledOwed_71 : decode cX6_settledOwed 71 = .ok (.ladd, 1) := by decide +kernel
theorem dX6_settledOwed_72 : decode cX6_settledOwed 72 = .ok (.lstore_n 2, 1) := by decide +kernel
theorem dX6_settledOwed_73 : decode cX6_settledOwed 73 = .ok (.iinc 8 1, 3) := by decide +kernel
theorem dX6_settledOwed_76 : decode cX6_settledOwed 76 = .ok (.goto (-28), 3) := by decide +kernel
theorem dX6_settledOwed_79 : decode cX6_settledOwed 79 = .ok (.iinc 6 1, 3) := by decide +kernel
theorem dX6_settledOwed_82 : decode cX6_settledOwed 82 = .ok (.goto (-60), 3) := by decide +kernel
theorem dX6_settledOwed_85 : decode cX6_settledOwed 85 = .ok (.lload_n 2, 1) := by decide +kernel
theorem dX6_settledOwed_86 : decode cX6_settledOwed 86 = .ok (.lreturn, 1) := by decide +kernel
theorem dX7_init_0 : decode cX7_init 0 = .ok (.aload_n 0, 1) := by decide +kernel
theorem dX7_init_1 : decode cX7_init 1 = .ok (.invokespecial 1, 3) := by decide +kernel
theorem dX7_init_4 : decode cX7_init 4 = .ok (.aload_n 0, 1) := by decide +kernel
theorem dX7_init_5 : decode cX7_init 5 = .ok (.bipush 8, 2) := by decide +kernel
theorem dX7_init_7 : decode cX7_init 7 = .ok (.newarray .int, 2) := by decide +kernel
theorem dX7_init_9 : decode cX7_init 9 = .ok (.putfield 7, 3) := by decide +kernel
theorem dX7_init_12 : decode cX7_init 12 = .ok (.aload_n 0, 1) := by decide +kernel
theorem dX7_init_13 : decode cX7_init 13 = .ok (.bipush 8, 2) := by decide +kernel
theorem dX7_init_15 : decode cX7_init 15 = .ok (.newarray .int, 2) := by decide +kernel
theorem dX7_init_17 : decode cX7_init 17 = .ok (.putfield 13, 3) := by decide +kernel
theorem dX7_init_20 : decode cX7_init 20 = .ok (.aload_n 0, 1) := by decide +kernel
theorem dX7_init_21 : decode cX7_init 21 = .ok (.bipush 8, 2) := by decide +kernel
theorem dX7_init_23 : decode cX7_init 23 = .ok (.newarray .int, 2) := by decide +kernel
theorem dX7_init_25 : decode cX7_init 25 = .ok (.putfield 16, 3) := by decide +kernel
theorem dX7_init_28 : decode cX7_init 28 = .ok (.aload_n 0, 1) := by decide +kernel
theorem dX7_init_29 : decode cX7_init 29 = .ok (.bipush 40, 2) := by decide +kernel
theorem dX7_init_31 : decode cX7_init 31 = .ok (.newarray .int, 2) := by decide +kernel
theorem dX7_init_33 : decode cX7_init 33 = .ok (.putfield 19, 3) := by decide +kernel
theorem dX7_init_36 : decode cX7_init 36 = .ok (.aload_n 0, 1) := by decide +kernel
theorem dX7_init_37 : decode cX7_init 37 = .ok (.bipush 40, 2) := by decide +kernel
theorem dX7_init_39 : decode cX7_init 39 = .ok (.newarray .int, 2) := by decide +kernel
theorem dX7_init_41 : decode cX7_init 41 = .ok (.putfield 22, 3) := by decide +kernel
theorem dX7_init_44 : decode cX7_init 44 = .ok (.aload_n 0, 1) := by decide +kernel
theorem dX7_init_45 : decode cX7_init 45 = .ok (.bipush 40, 2) := by decide +kernel
theorem dX7_init_47 : decode cX7_init 47 = .ok (.newarray .int, 2) := by decide +kernel
theorem dX7_init_49 : decode cX7_init 49 = .ok (.putfield 25, 3) := by decide +kernel
theorem dX7_init_52 : decode cX7_init 52 = .ok (.aload_n 0, 1) := by decide +kernel
theorem dX7_init_53 : decode cX7_init 53 = .ok (.bipush 40, 2) := by decide +kernel
theorem dX7_init_55 : decode cX7_init 55 = .ok (.newarray .int, 2) := by decide +kernel
theorem dX7_init_57 : decode cX7_init 57 = .ok (.putfield 28, 3) := by decide +kernel
theorem dX7_init_60 : decode cX7_init 60 = .ok (.aload_n 0, 1) := by decide +kernel
theorem dX7_init_61 : decode cX7_init 61 = .ok (.bipush 40, 2) := by decide +kernel
theorem dX7_init_63 : decode cX7_init 63 = .ok (.newarray .int, 2) := by decide +kernel
theorem dX7_init_65 : decode cX7_init 65 = .ok (.putfield 31, 3) := by decide +kernel
theorem dX7_init_68 : decode cX7_init 68 = .ok (.aload_n 0, 1) := by decide +kernel
theorem dX7_init_69 : decode cX7_init 69 = .ok (.bipush 16, 2) := by decide +kernel
theorem dX7_init_71 : decode cX7_init 71 = .ok (.newarray .int, 2) := by decide +kernel
theorem dX7_init_73 : decode cX7_init 73 = .ok (.putfield 34, 3) := by decide +kernel
theorem dX7_init_76 : decode cX7_init 76 = .ok (.aload_n 0, 1) := by decide +kernel
theorem dX7_init_77 : decode cX7_init 77 = .ok (.bipush 16, 2) := by decide +kernel
theorem dX7_init_79 : decode cX7_init 79 = .ok (.newarray .int, 2) := by decide +kernel
theorem dX7_init_81 : decode cX7_init 81 = .ok (.putfield 37, 3) := by decide +kernel
theorem dX7_init_84 : decode cX7_init 84 = .ok (.aload_n 0, 1) := by decide +kernel
theorem dX7_init_85 : decode cX7_init 85 = .ok (.bipush 16, 2) := by decide +kernel
theorem dX7_init_87 : decode cX7_init 87 = .ok (.newarray .int, 2) := by decide +kernel
theorem dX7_init_89 : decode cX7_init 89 = .ok (.putfield 40, 3) := by decide +kernel
theorem dX7_init_92 : decode cX7_init 92 = .ok (.aload_n 0, 1) := by decide +kernel
theorem dX7_init_93 : decode cX7_init 93 = .ok (.bipush 16, 2) := by decide +kernel
theorem dX7_init_95 : decode cX7_init 95 = .ok (.newarray .int, 2) := by decide +kernel
theorem dX7_init_97 : decode cX7_init 97 = .ok (.putfield 43, 3) := by decide +kernel
theorem dX7_init_100 : decode cX7_init 100 = .ok (.aload_n 0, 1) := by decide +kernel
theorem dX7_init_101 : decode cX7_init 101 = .ok (.bipush 16, 2) := by decide +kernel
theorem dX7_init_103 : decode cX7_init 103 = .ok (.newarray .int, 2) := by decide +kernel
theorem dX7_init_105 : decode cX7_init 105 = .ok (.putfield 46, 3) := by decide +kernel
theorem dX7_init_108 : decode cX7_init 108 = .ok (.aload_n 0, 1) := by decide +kernel
theorem dX7_init_109 : decode cX7_init 109 = .ok (.bipush 16, 2) := by decide +kernel
theorem dX7_init_111 : decode cX7_init 111 = .ok (.newarray .int, 2) := by decide +kernel
theorem dX7_init_113 : decode cX7_init 113 = .ok (.putfield 49, 3) := by decide +kernel
theorem dX7_init_116 : decode cX7_init 116 = .ok (.aload_n 0, 1) := by decide +kernel
theorem dX7_init_117 : decode cX7_init 117 = .ok (.iconst 3, 1) := by decide +kernel
theorem dX7_init_118 : decode cX7_init 118 = .ok (.newarray .int, 2) := by decide +kernel
theorem dX7_init_120 : decode cX7_init 120 = .ok (.putfield 52, 3) := by decide +kernel
theorem dX7_init_123 : decode cX7_init 123 = .ok (.aload_n 0, 1) := by decide +kernel
theorem dX7_init_124 : decode cX7_init 124 = .ok (.bipush 6, 2) := by decide +kernel
theorem dX7_init_126 : decode cX7_init 126 = .ok (.newarray .int, 2) := by decide +kernel
theorem dX7_init_128 : decode cX7_init 128 = .ok (.putfield 55, 3) := by decide +kernel
theorem dX7_init_131 : decode cX7_init 131 = .ok (.aload_n 0, 1) := by decide +kernel
theorem dX7_init_132 : decode cX7_init 132 = .ok (.sipush 366, 3) := by decide +kernel
theorem dX7_init_135 : decode cX7_init 135 = .ok (.newarray .int, 2) := by decide +kernel
theorem dX7_init_137 : decode cX7_init 137 = .ok (.putfield 58, 3) := by decide +kernel
theorem dX7_init_140 : decode cX7_init 140 = .ok (.aload_n 0, 1) := by decide +kernel
theorem dX7_init_141 : decode cX7_init 141 = .ok (.sipush 366, 3) := by decide +kernel
theorem dX7_init_144 : decode cX7_init 144 = .ok (.newarray .int, 2) := by decide +kernel
theorem dX7_init_146 : decode cX7_init 146 = .ok (.putfield 61, 3) := by decide +kernel
theorem dX7_init_149 : decode cX7_init 149 = .ok (.aload_n 0, 1) := by decide +kernel
theorem dX7_init_150 : decode cX7_init 150 = .ok (.sipush 366, 3) := by decide +kernel
theorem dX7_init_153 : decode cX7_init 153 = .ok (.newarray .int, 2) := by decide +kernel
theorem dX7_init_155 : decode cX7_init 155 = .ok (.putfield 64, 3) := by decide +kernel
theorem dX7_init_158 : decode cX7_init 158 = .ok (.aload_n 0, 1) := by decide +kernel
theorem dX7_init_159 : decode cX7_init 159 = .ok (.bipush 61, 2) := by decide +kernel
theorem dX7_init_161 : decode cX7_init 161 = .ok (.newarray .int, 2) := by decide +kernel
theorem dX7_init_163 : decode cX7_init 163 = .ok (.putfield 67, 3) := by decide +kernel
theorem dX7_init_166 : decode cX7_init 166 = .ok (.aload_n 0, 1) := by decide +kernel
theorem dX7_init_167 : decode cX7_init 167 = .ok (.sipush 1830, 3) := by decide +kernel
theorem dX7_init_170 : decode cX7_init 170 = .ok (.newarray .int, 2) := by decide +kernel
theorem dX7_init_172 : decode cX7_init 172 = .ok (.putfield 70, 3) := by decide +kernel
theorem dX7_init_175 : decode cX7_init 175 = .ok (.aload_n 0, 1) := by decide +kernel
theorem dX7_init_176 : decode cX7_init 176 = .ok (.sipush 300, 3) := by decide +kernel
theorem dX7_init_179 : decode cX7_init 179 = .ok (.putfield 73, 3) := by decide +kernel
theorem dX7_init_182 : decode cX7_init 182 = .ok (.aload_n 0, 1) := by decide +kernel
theorem dX7_init_183 : decode cX7_init 183 = .ok (.bipush 100, 2) := by decide +kernel
theorem dX7_init_185 : decode cX7_init 185 = .ok (.putfield 77, 3) := by decide +kernel
theorem dX7_init_188 : decode cX7_init 188 = .ok (.aload_n 0, 1) := by decide +kernel
theorem dX7_init_189 : decode cX7_init 189 = .ok (.bipush 10, 2) := by decide +kernel
theorem dX7_init_191 : decode cX7_init 191 = .ok (.newarray .boolean, 2) := by decide +kernel
theorem dX7_init_193 : decode cX7_init 193 = .ok (.putfield 80, 3) := by decide +kernel
theorem dX7_init_196 : decode cX7_init 196 = .ok (.aload_n 0, 1) := by decide +kernel
theorem dX7_init_197 : decode cX7_init 197 = .ok (.bipush 10, 2) := by decide +kernel
theorem dX7_init_199 : decode cX7_init 199 = .ok (.newarray .long, 2) := by decide +kernel
theorem dX7_init_201 : decode cX7_init 201 = .ok (.putfield 84, 3) := by decide +kernel
theorem dX7_init_204 : decode cX7_init 204 = .ok (.aload_n 0, 1) := by decide +kernel
theorem dX7_init_205 : decode cX7_init 205 = .ok (.bipush 20, 2) := by decide +kernel
theorem dX7_init_207 : decode cX7_init 207 = .ok (.newarray .long, 2) := by decide +kernel
theorem dX7_init_209 : decode cX7_init 209 = .ok (.putfield 88, 3) := by decide +kernel
theorem dX7_init_212 : decode cX7_init 212 = .ok (.aload_n 0, 1) := by decide +kernel
theorem dX7_init_213 : decode cX7_init 213 = .ok (.bipush 20, 2) := by decide +kernel
theorem dX7_init_215 : decode cX7_init 215 = .ok (.newarray .long, 2) := by decide +kernel
theorem dX7_init_217 : decode cX7_init 217 = .ok (.putfield 91, 3) := by decide +kernel
theorem dX7_init_220 : decode cX7_init 220 = .ok (.aload_n 0, 1) := by decide +kernel
theorem dX7_init_221 : decode cX7_init 221 = .ok (.bipush 20, 2) := by decide +kernel
theorem dX7_init_223 : decode cX7_init 223 = .ok (.newarray .long, 2) := by decide +kernel
theorem dX7_init_225 : decode cX7_init 225 = .ok (.putfield 94, 3) := by decide +kernel
theorem dX7_init_228 : decode cX7_init 228 = .ok (.aload_n 0, 1) := by decide +kernel
theorem dX7_init_229 : decode cX7_init 229 = .ok (.bipush 20, 2) := by decide +kernel
theorem dX7_init_231 : decode cX7_init 231 = .ok (.newarray .long, 2) := by decide +kernel
theorem dX7_init_233 : decode cX7_init 233 = .ok (.putfield 97, 3) := by decide +kernel
theorem dX7_init_236 : decode cX7_init 236 = .ok (.aload_n 0, 1) := by decide +kernel
theorem dX7_init_237 : decode cX7_init 237 = .ok (.bipush 10, 2) := by decide +kernel
theorem dX7_init_239 : decode cX7_init 239 = .ok (.newarray .boolean, 2) := by decide +kernel
theorem dX7_init_241 : decode cX7_init 241 = .ok (.putfield 100, 3) := by decide +kernel
theorem dX7_init_244 : decode cX7_init 244 = .ok (.aload_n 0, 1) := by decide +kernel
theorem dX7_init_245 : decode cX7_init 245 = .ok (.bipush 10, 2) := by decide +kernel
theorem dX7_init_247 : decode cX7_init 247 = .ok (.newarray .long, 2) := by decide +kernel
theorem dX7_init_249 : decode cX7_init 249 = .ok (.putfield 103, 3) := by decide +kernel
theorem dX7_init_252 : decode cX7_init 252 = .ok (.aload_n 0, 1) := by decide +kernel
theorem dX7_init_253 : decode cX7_init 253 = .ok (.bipush 10, 2) := by decide +kernel
theorem dX7_init_255 : decode cX7_init 255 = .ok (.newarray .long, 2) := by decide +kernel
theorem dX7_init_257 : decode cX7_init 257 = .ok (.putfield 106, 3) := by decide +kernel
theorem dX7_init_260 : decode cX7_init 260 = .ok (.aload_n 0, 1) := by decide +kernel
theorem dX7_init_261 : decode cX7_init 261 = .ok (.bipush 10, 2) := by decide +kernel
theorem dX7_init_263 : decode cX7_init 263 = .ok (.newarray .long, 2) := by decide +kernel
theorem dX7_init_265 : decode cX7_init 265 = .ok (.putfield 109, 3) := by decide +kernel
theorem dX7_init_268 : decode cX7_init 268 = .ok (.iconst 0, 1) := by decide +kernel
theorem dX7_init_269 : decode cX7_init 269 = .ok (.istore_n 1, 1) := by decide +kernel
theorem dX7_init_270 : decode cX7_init 270 = .ok (.iload_n 1, 1) := by decide +kernel
theorem dX7_init_271 : decode cX7_init 271 = .ok (.bipush 60, 2) := by decide +kernel
theorem dX7_init_273 : decode cX7_init 273 = .ok (.if_icmp .gt 16, 3) := by decide +kernel
theorem dX7_init_276 : decode cX7_init 276 = .ok (.aload_n 0, 1) := by decide +kernel
theorem dX7_init_277 : decode cX7_init 277 = .ok (.getfield 67, 3) := by decide +kernel
theorem dX7_init_280 : decode cX7_init 280 = .ok (.iload_n 1, 1) := by decide +kernel
theorem dX7_init_281 : decode cX7_init 281 = .ok (.iconst (-1), 1) := by decide +kernel
theorem dX7_init_282 : decode cX7_init 282 = .ok (.iastore, 1) := by decide +kernel
theorem dX7_init_283 : decode cX7_init 283 = .ok (.iinc 1 1, 3) := by decide +kernel
theorem dX7_init_286 : decode cX7_init 286 = .ok (.goto (-16), 3) := by decide +kernel
theorem dX7_init_289 : decode cX7_init 289 = .ok (.iconst 0, 1) := by decide +kernel
theorem dX7_init_290 : decode cX7_init 290 = .ok (.istore_n 1, 1) := by decide +kernel
theorem dX7_init_291 : decode cX7_init 291 = .ok (.iload_n 1, 1) := by decide +kernel
theorem dX7_init_292 : decode cX7_init 292 = .ok (.bipush 8, 2) := by decide +kernel
theorem dX7_init_294 : decode cX7_init 294 = .ok (.if_icmp .ge 16, 3) := by decide +kernel
theorem dX7_init_297 : decode cX7_init 297 = .ok (.aload_n 0, 1) := by decide +kernel
theorem dX7_init_298 : decode cX7_init 298 = .ok (.getfield 16, 3) := by decide +kernel
theorem dX7_init_301 : decode cX7_init 301 = .ok (.iload_n 1, 1) := by decide +kernel
theorem dX7_init_302 : decode cX7_init 302 = .ok (.iconst (-1), 1) := by decide +kernel
theorem dX7_init_303 : decode cX7_init 303 = .ok (.iastore, 1) := by decide +kernel
theorem dX7_init_304 : decode cX7_init 304 = .ok (.iinc 1 1, 3) := by decide +kernel
theorem dX7_init_307 : decode cX7_init 307 = .ok (.goto (-16), 3) := by decide +kernel
theorem dX7_init_310 : decode cX7_init 310 = .ok (.return_, 1) := by decide +kernel
theorem dX7_thrown_0 : decode cX7_thrown 0 = .ok (.aload_n 0, 1) := by decide +kernel
theorem dX7_thrown_1 : decode cX7_thrown 1 = .ok (.getfield 112, 3) := by decide +kernel
theorem dX7_thrown_4 : decode cX7_thrown 4 = .ok (.ireturn, 1) := by decide +kernel
theorem dX7_goes_0 : decode cX7_goes 0 = .ok (.aload_n 0, 1) := by decide +kernel
theorem dX7_goes_1 : decode cX7_goes 1 = .ok (.iload_n 1, 1) := by decide +kernel
theorem dX7_goes_2 : decode cX7_goes 2 = .ok (.ifCond .ne 7, 3) := by decide +kernel
theorem dX7_goes_5 : decode cX7_goes 5 = .ok (.iconst 1, 1) := by decide +kernel
theorem dX7_goes_6 : decode cX7_goes 6 = .ok (.goto 20, 3) := by decide +kernel
theorem dX7_goes_9 : decode cX7_goes 9 = .ok (.iload_n 2, 1) := by decide +kernel
theorem dX7_goes_10 : decode cX7_goes 10 = .ok (.ifCond .ne 7, 3) := by decide +kernel
theorem dX7_goes_13 : decode cX7_goes 13 = .ok (.iconst 2, 1) := by decide +kernel
theorem dX7_goes_14 : decode cX7_goes 14 = .ok (.goto 12, 3) := by decide +kernel
theorem dX7_goes_17 : decode cX7_goes 17 = .ok (.iload_n 3, 1) := by decide +kernel
theorem dX7_goes_18 : decode cX7_goes 18 = .ok (.ifCond .ne 7, 3) := by decide +kernel
theorem dX7_goes_21 : decode cX7_goes 21 = .ok (.iconst 3, 1) := by decide +kernel
theorem dX7_goes_22 : decode cX7_goes 22 = .ok (.goto 4, 3) := by decide +kernel
theorem dX7_goes_25 : decode cX7_goes 25 = .ok (.iconst 0, 1) := by decide +kernel
theorem dX7_goes_26 : decode cX7_goes 26 = .ok (.putfield 112, 3) := by decide +kernel
theorem dX7_goes_29 : decode cX7_goes 29 = .ok (.aload_n 0, 1) := by decide +kernel
theorem dX7_goes_30 : decode cX7_goes 30 = .ok (.getfield 112, 3) := by decide +kernel
theorem dX7_goes_33 : decode cX7_goes 33 = .ok (.ifCond .ne 7, 3) := by decide +kernel
theorem dX7_goes_36 : decode cX7_goes 36 = .ok (.iconst 1, 1) := by decide +kernel
theorem dX7_goes_37 : decode cX7_goes 37 = .ok (.goto 4, 3) := by decide +kernel
theorem dX7_goes_40 : decode cX7_goes 40 = .ok (.iconst 0, 1) := by decide +kernel
theorem dX7_goes_41 : decode cX7_goes 41 = .ok (.ireturn, 1) := by decide +kernel
theorem dX7_isBetween_0 : decode cX7_isBetween 0 = .ok (.iload_n 0, 1) := by decide +kernel
theorem dX7_isBetween_1 : decode cX7_isBetween 1 = .ok (.iload_n 1, 1) := by decide +kernel
theorem dX7_isBetween_2 : decode cX7_isBetween 2 = .ok (.if_icmp .lt 12, 3) := by decide +kernel
theorem dX7_isBetween_5 : decode cX7_isBetween 5 = .ok (.iload_n 0, 1) := by decide +kernel
theorem dX7_isBetween_6 : decode cX7_isBetween 6 = .ok (.iload_n 2, 1) := by decide +kernel
theorem dX7_isBetween_7 : decode cX7_isBetween 7 = .ok (.if_icmp .gt 7, 3) := by decide +kernel
theorem dX7_isBetween_10 : decode cX7_isBetween 10 = .ok (.iconst 1, 1) := by decide +kernel
theorem dX7_isBetween_11 : decode cX7_isBetween 11 = .ok (.goto 4, 3) := by decide +kernel
theorem dX7_isBetween_14 : decode cX7_isBetween 14 = .ok (.iconst 0, 1) := by decide +kernel
theorem dX7_isBetween_15 : decode cX7_isBetween 15 = .ok (.ireturn, 1) := by decide +kernel
set_option maxRecDepth 20000 in
theorem ggX7_isOwner_X7_isBetween : GoodIn wsX7_isOwner wsX7_isBetween := goodIn_r _ [4] (by decide +kernel) (by decide +kernel)
set_option maxRecDepth 20000 in
theorem gX7_isOwner_X7_isBetween : GoodIn wsX7_isOwner (va_wsS RX7 115 yX7_isBetween wsX7_isBetween) := goodIn_app (goodIn_of _ (by decide +kernel)) ggX7_isOwner_X7_isBetween
theorem dX7_isOwner_0 : decode cX7_isOwner 0 = .ok (.iload_n 0, 1) := by decide +kernel
theorem dX7_isOwner_1 : decode cX7_isOwner 1 = .ok (.iconst 0, 1) := by decide +kernel
theorem dX7_isOwner_2 : decode cX7_isOwner 2 = .ok (.bipush 9, 2) := by decide +kernel
theorem dX7_isOwner_4 : decode cX7_isOwner 4 = .ok (.invokestatic 115, 3) := by decide +kernel
theorem dX7_isOwner_7 : decode cX7_isOwner 7 = .ok (.ireturn, 1) := by decide +kernel
set_option maxRecDepth 20000 in
theorem ggX7_isTract_X7_isBetween : GoodIn wsX7_isTract wsX7_isBetween := goodIn_r _ [5] (by decide +kernel) (by decide +kernel)
set_option maxRecDepth 20000 in
theorem gX7_isTract_X7_isBetween : GoodIn wsX7_isTract (va_wsS RX7 115 yX7_isBetween wsX7_isBetween) := goodIn_app (goodIn_of _ (by decide +kernel)) ggX7_isTract_X7_isBetween
theorem dX7_isTract_0 : decode cX7_isTract 0 = .ok (.iload_n 1, 1) := by decide +kernel
theorem dX7_isTract_1 : decode cX7_isTract 1 = .ok (.iconst 0, 1) := by decide +kernel
theorem dX7_isTract_2 : decode cX7_isTract 2 = .ok (.aload_n 0, 1) := by decide +kernel
theorem dX7_isTract_3 : decode cX7_isTract 3 = .ok (.getfield 119, 3) := by decide +kernel
theorem dX7_isTract_6 : decode cX7_isTract 6 = .ok (.iconst 1, 1) := by decide +kernel
theorem dX7_isTract_7 : decode cX7_isTract 7 = .ok (.isub, 1) := by decide +kernel
theorem dX7_isTract_8 : decode cX7_isTract 8 = .ok (.invokestatic 115, 3) := by decide +kernel
theorem dX7_isTract_11 : decode cX7_isTract 11 = .ok (.ireturn, 1) := by decide +kernel
set_option maxRecDepth 20000 in
theorem ggX7_isMonth_X7_isBetween : GoodIn wsX7_isMonth wsX7_isBetween := goodIn_r _ [5] (by decide +kernel) (by decide +kernel)
set_option maxRecDepth 20000 in
theorem gX7_isMonth_X7_isBetween : GoodIn wsX7_isMonth (va_wsS RX7 115 yX7_isBetween wsX7_isBetween) := goodIn_app (goodIn_of _ (by decide +kernel)) ggX7_isMonth_X7_isBetween
theorem dX7_isMonth_0 : decode cX7_isMonth 0 = .ok (.iload_n 1, 1) := by decide +kernel
theorem dX7_isMonth_1 : decode cX7_isMonth 1 = .ok (.iconst 0, 1) := by decide +kernel
theorem dX7_isMonth_2 : decode cX7_isMonth 2 = .ok (.aload_n 0, 1) := by decide +kernel
theorem dX7_isMonth_3 : decode cX7_isMonth 3 = .ok (.getfield 122, 3) := by decide +kernel
theorem dX7_isMonth_6 : decode cX7_isMonth 6 = .ok (.invokestatic 115, 3) := by decide +kernel
theorem dX7_isMonth_9 : decode cX7_isMonth 9 = .ok (.ireturn, 1) := by decide +kernel
set_option maxRecDepth 20000 in
theorem ggX7_isUnitMonth_X7_isBetween : GoodIn wsX7_isUnitMonth wsX7_isBetween := goodIn_r _ [7] (by decide +kernel) (by decide +kernel)
set_option maxRecDepth 20000 in
theorem gX7_isUnitMonth_X7_isBetween : GoodIn wsX7_isUnitMonth (va_wsS RX7 115 yX7_isBetween wsX7_isBetween) := goodIn_app (goodIn_of _ (by decide +kernel)) ggX7_isUnitMonth_X7_isBetween
theorem dX7_isUnitMonth_0 : decode cX7_isUnitMonth 0 = .ok (.iload_n 1, 1) := by decide +kernel
theorem dX7_isUnitMonth_1 : decode cX7_isUnitMonth 1 = .ok (.iconst 0, 1) := by decide +kernel
theorem dX7_isUnitMonth_2 : decode cX7_isUnitMonth 2 = .ok (.aload_n 0, 1) := by decide +kernel
theorem dX7_isUnitMonth_3 : decode cX7_isUnitMonth 3 = .ok (.getfield 125, 3) := by decide +kernel
theorem dX7_isUnitMonth_6 : decode cX7_isUnitMonth 6 = .ok (.iconst 1, 1) := by decide +kernel
theorem dX7_isUnitMonth_7 : decode cX7_isUnitMonth 7 = .ok (.isub, 1) := by decide +kernel
theorem dX7_isUnitMonth_8 : decode cX7_isUnitMonth 8 = .ok (.invokestatic 115, 3) := by decide +kernel
theorem dX7_isUnitMonth_11 : decode cX7_isUnitMonth 11 = .ok (.ifCond .eq 42, 3) := by decide +kernel
theorem dX7_isUnitMonth_14 : decode cX7_isUnitMonth 14 = .ok (.iload_n 2, 1) := by decide +kernel
theorem dX7_isUnitMonth_15 : decode cX7_isUnitMonth 15 = .ok (.aload_n 0, 1) := by decide +kernel
theorem dX7_isUnitMonth_16 : decode cX7_isUnitMonth 16 = .ok (.getfield 52, 3) := by decide +kernel
theorem dX7_isUnitMonth_19 : decode cX7_isUnitMonth 19 = .ok (.iload_n 1, 1) := by decide +kernel
theorem dX7_isUnitMonth_20 : decode cX7_isUnitMonth 20 = .ok (.iconst 0, 1) := by decide +kernel
theorem dX7_isUnitMonth_21 : decode cX7_isUnitMonth 21 = .ok (.aload_n 0, 1) := by decide +kernel
theorem dX7_isUnitMonth_22 : decode cX7_isUnitMonth 22 = .ok (.getfield 125, 3) := by decide +kernel
theorem dX7_isUnitMonth_25 : decode cX7_isUnitMonth 25 = .ok (.iconst 1, 1) := by decide +kernel
theorem dX7_isUnitMonth_26 : decode cX7_isUnitMonth 26 = .ok (.isub, 1) := by decide +kernel
theorem dX7_isUnitMonth_27 : decode cX7_isUnitMonth 27 = .ok (.invokestatic 115, 3) := by decide +kernel
theorem dX7_isUnitMonth_30 : decode cX7_isUnitMonth 30 = .ok (.ifCond .eq 7, 3) := by decide +kernel
theorem dX7_isUnitMonth_33 : decode cX7_isUnitMonth 33 = .ok (.iload_n 1, 1) := by decide +kernel
theorem dX7_isUnitMonth_34 : decode cX7_isUnitMonth 34 = .ok (.goto 4, 3) := by decide +kernel
theorem dX7_isUnitMonth_37 : decode cX7_isUnitMonth 37 = .ok (.iconst 0, 1) := by decide +kernel
theorem dX7_isUnitMonth_38 : decode cX7_isUnitMonth 38 = .ok (.iaload, 1) := by decide +kernel
theorem dX7_isUnitMonth_39 : decode cX7_isUnitMonth 39 = .ok (.aload_n 0, 1) := by decide +kernel
theorem dX7_isUnitMonth_40 : decode cX7_isUnitMonth 40 = .ok (.getfield 122, 3) := by decide +kernel
theorem dX7_isUnitMonth_43 : decode cX7_isUnitMonth 43 = .ok (.invokestatic 115, 3) := by decide +kernel
theorem dX7_isUnitMonth_46 : decode cX7_isUnitMonth 46 = .ok (.ifCond .eq 7, 3) := by decide +kernel
theorem dX7_isUnitMonth_49 : decode cX7_isUnitMonth 49 = .ok (.iconst 1, 1) := by decide +kernel
theorem dX7_isUnitMonth_50 : decode cX7_isUnitMonth 50 = .ok (.goto 4, 3) := by decide +kernel
theorem dX7_isUnitMonth_53 : decode cX7_isUnitMonth 53 = .ok (.iconst 0, 1) := by decide +kernel
theorem dX7_isUnitMonth_54 : decode cX7_isUnitMonth 54 = .ok (.ireturn, 1) := by decide +kernel
set_option maxRecDepth 20000 in
theorem ggX7_pass_X7_isBetween : GoodIn wsX7_pass wsX7_isBetween := goodIn_r _ [5] (by decide +kernel) (by decide +kernel)
set_option maxRecDepth 20000 in
theorem gX7_pass_X7_isBetween : GoodIn wsX7_pass (va_wsS RX7 115 yX7_isBetween wsX7_isBetween) := goodIn_app (goodIn_of _ (by decide +kernel)) ggX7_pass_X7_isBetween
set_option maxRecDepth 20000 in
theorem ggX7_pass_X7_goes : GoodIn wsX7_pass wsX7_goes := goodIn_r _ [9, 10, 11, 12, 13, 14, 15, 16, 17, 18, 19, 20, 21, 22, 23, 24, 25, 26, 27, 28, 29, 30, 31, 32, 33, 34, 35, 36, 37, 38, 39, 40, 41, 42, 43, 44, 45, 46, 47, 48, 49, 50] (by decide +kernel) (by decide +kernel)
set_option maxRecDepth 20000 in
theorem gX7_pass_X7_goes : GoodIn wsX7_pass (wsV RX7 128 RX7 yX7_goes wsX7_goes) := goodIn_app (goodIn_of _ (by decide +kernel)) ggX7_pass_X7_goes
theorem dX7_pass_0 : decode cX7_pass 0 = .ok (.aload_n 0, 1) := by decide +kernel
theorem dX7_pass_1 : decode cX7_pass 1 = .ok (.iload_n 1, 1) := by decide +kernel
theorem dX7_pass_2 : decode cX7_pass 2 = .ok (.iconst 1, 1) := by decide +kernel
theorem dX7_pass_3 : decode cX7_pass 3 = .ok (.bipush 12, 2) := by decide +kernel
theorem dX7_pass_5 : decode cX7_pass 5 = .ok (.invokestatic 115, 3) := by decide +kernel
theorem dX7_pass_8 : decode cX7_pass 8 = .ok (.aload_n 0, 1) := by decide +kernel
theorem dX7_pass_9 : decode cX7_pass 9 = .ok (.getfield 122, 3) := by decide +kernel
theorem dX7_pass_12 : decode cX7_pass 12 = .ok (.iload_n 1, 1) := by decide +kernel
theorem dX7_pass_13 : decode cX7_pass 13 = .ok (.iadd, 1) := by decide +kernel
theorem dX7_pass_14 : decode cX7_pass 14 = .ok (.bipush 60, 2) := by decide +kernel
theorem dX7_pass_16 : decode cX7_pass 16 = .ok (.if_icmp .gt 7, 3) := by decide +kernel
theorem dX7_pass_19 : decode cX7_pass 19 = .ok (.iconst 1, 1) := by decide +kernel
theorem dX7_pass_20 : decode cX7_pass 20 = .ok (.goto 4, 3) := by decide +kernel
theorem dX7_pass_23 : decode cX7_pass 23 = .ok (.iconst 0, 1) := by decide +kernel
theorem dX7_pass_24 : decode cX7_pass 24 = .ok (.iconst 1, 1) := by decide +kernel
theorem dX7_pass_25 : decode cX7_pass 25 = .ok (.invokevirtual 128, 3) := by decide +kernel
theorem dX7_pass_28 : decode cX7_pass 28 = .ok (.ifCond .ne 5, 3) := by decide +kernel
theorem dX7_pass_31 : decode cX7_pass 31 = .ok (.iconst 0, 1) := by decide +kernel
theorem dX7_pass_32 : decode cX7_pass 32 = .ok (.ireturn, 1) := by decide +kernel
theorem dX7_pass_33 : decode cX7_pass 33 = .ok (.aload_n 0, 1) := by decide +kernel
theorem dX7_pass_34 : decode cX7_pass 34 = .ok (.dup, 1) := by decide +kernel
theorem dX7_pass_35 : decode cX7_pass 35 = .ok (.getfield 122, 3) := by decide +kernel
theorem dX7_pass_38 : decode cX7_pass 38 = .ok (.iload_n 1, 1) := by decide +kernel
theorem dX7_pass_39 : decode cX7_pass 39 = .ok (.iadd, 1) := by decide +kernel
theorem dX7_pass_40 : decode cX7_pass 40 = .ok (.putfield 122, 3) := by decide +kernel
theorem dX7_pass_43 : decode cX7_pass 43 = .ok (.aload_n 0, 1) := by decide +kernel
theorem dX7_pass_44 : decode cX7_pass 44 = .ok (.getfield 122, 3) := by decide +kernel
theorem dX7_pass_47 : decode cX7_pass 47 = .ok (.ireturn, 1) := by decide +kernel
set_option maxRecDepth 20000 in
theorem ggX7_tract_X7_isOwner : GoodIn wsX7_tract wsX7_isOwner := goodIn_r _ [7, 8, 9, 6, 10] (by decide +kernel) (by decide +kernel)
set_option maxRecDepth 20000 in
theorem gX7_tract_X7_isOwner : GoodIn wsX7_tract (va_wsS RX7 132 yX7_isOwner wsX7_isOwner) := goodIn_app (goodIn_of _ (by decide +kernel)) ggX7_tract_X7_isOwner
set_option maxRecDepth 20000 in
theorem ggX7_tract_X7_isBetween : GoodIn wsX7_tract wsX7_isBetween := goodIn_r _ [10] (by decide +kernel) (by decide +kernel)
set_option maxRecDepth 20000 in
theorem gX7_tract_X7_isBetween : GoodIn wsX7_tract (va_wsS RX7 115 yX7_isBetween wsX7_isBetween) := goodIn_app (goodIn_of _ (by decide +kernel)) ggX7_tract_X7_isBetween
set_option maxRecDepth 20000 in
theorem ggX7_tract_X7_goes : GoodIn wsX7_tract wsX7_goes := goodIn_r _ [14, 15, 16, 17, 18, 19, 20, 21, 22, 23, 24, 25, 26, 27, 28, 29, 30, 31, 32, 33, 34, 35, 36, 37, 38, 39, 40, 41, 42, 43, 44, 45, 46, 47, 48, 49, 50, 51, 52, 53, 54, 55] (by decide +kernel) (by decide +kernel)
set_option maxRecDepth 20000 in
theorem gX7_tract_X7_goes : GoodIn wsX7_tract (wsV RX7 128 RX7 yX7_goes wsX7_goes) := goodIn_app (goodIn_of _ (by decide +kernel)) ggX7_tract_X7_goes
theorem dX7_tract_0 : decode cX7_tract 0 = .ok (.aload_n 0, 1) := by decide +kernel
theorem dX7_tract_1 : decode cX7_tract 1 = .ok (.iload_n 2, 1) := by decide +kernel
theorem dX7_tract_2 : decode cX7_tract 2 = .ok (.invokestatic 132, 3) := by decide +kernel
theorem dX7_tract_5 : decode cX7_tract 5 = .ok (.iload_n 1, 1) := by decide +kernel
theorem dX7_tract_6 : decode cX7_tract 6 = .ok (.iconst 1, 1) := by decide +kernel
theorem dX7_tract_7 : decode cX7_tract 7 = .ok (.sipush 1000, 3) := by decide +kernel
theorem dX7_tract_10 : decode cX7_tract 10 = .ok (.invokestatic 115, 3) := by decide +kernel
theorem dX7_tract_13 : decode cX7_tract 13 = .ok (.aload_n 0, 1) := by decide +kernel
theorem dX7_tract_14 : decode cX7_tract 14 = .ok (.getfield 119, 3) := by decide +kernel
theorem dX7_tract_17 : decode cX7_tract 17 = .ok (.bipush 8, 2) := by decide +kernel
theorem dX7_tract_19 : decode cX7_tract 19 = .ok (.if_icmp .ge 7, 3) := by decide +kernel
theorem dX7_tract_22 : decode cX7_tract 22 = .ok (.iconst 1, 1) := by decide +kernel
theorem dX7_tract_23 : decode cX7_tract 23 = .ok (.goto 4, 3) := by decide +kernel
theorem dX7_tract_26 : decode cX7_tract 26 = .ok (.iconst 0, 1) := by decide +kernel
theorem dX7_tract_27 : decode cX7_tract 27 = .ok (.invokevirtual 128, 3) := by decide +kernel
theorem dX7_tract_30 : decode cX7_tract 30 = .ok (.ifCond .ne 5, 3) := by decide +kernel
theorem dX7_tract_33 : decode cX7_tract 33 = .ok (.iconst 0, 1) := by decide +kernel
theorem dX7_tract_34 : decode cX7_tract 34 = .ok (.ireturn, 1) := by decide +kernel
theorem dX7_tract_35 : decode cX7_tract 35 = .ok (.aload_n 0, 1) := by decide +kernel
theorem dX7_tract_36 : decode cX7_tract 36 = .ok (.getfield 7, 3) := by decide +kernel
theorem dX7_tract_39 : decode cX7_tract 39 = .ok (.aload_n 0, 1) := by decide +kernel
theorem dX7_tract_40 : decode cX7_tract 40 = .ok (.getfield 119, 3) := by decide +kernel
theorem dX7_tract_43 : decode cX7_tract 43 = .ok (.iload_n 1, 1) := by decide +kernel
theorem dX7_tract_44 : decode cX7_tract 44 = .ok (.iastore, 1) := by decide +kernel
theorem dX7_tract_45 : decode cX7_tract 45 = .ok (.aload_n 0, 1) := by decide +kernel
theorem dX7_tract_46 : decode cX7_tract 46 = .ok (.getfield 13, 3) := by decide +kernel
theorem dX7_tract_49 : decode cX7_tract 49 = .ok (.aload_n 0, 1) := by decide +kernel
theorem dX7_tract_50 : decode cX7_tract 50 = .ok (.getfield 119, 3) := by decide +kernel
theorem dX7_tract_53 : decode cX7_tract 53 = .ok (.iload_n 2, 1) := by decide +kernel
theorem dX7_tract_54 : decode cX7_tract 54 = .ok (.iastore, 1) := by decide +kernel
theorem dX7_tract_55 : decode cX7_tract 55 = .ok (.aload_n 0, 1) := by decide +kernel
theorem dX7_tract_56 : decode cX7_tract 56 = .ok (.dup, 1) := by decide +kernel
theorem dX7_tract_57 : decode cX7_tract 57 = .ok (.getfield 119, 3) := by decide +kernel
theorem dX7_tract_60 : decode cX7_tract 60 = .ok (.iconst 1, 1) := by decide +kernel
theorem dX7_tract_61 : decode cX7_tract 61 = .ok (.iadd, 1) := by decide +kernel
theorem dX7_tract_62 : decode cX7_tract 62 = .ok (.putfield 119, 3) := by decide +kernel
theorem dX7_tract_65 : decode cX7_tract 65 = .ok (.aload_n 0, 1) := by decide +kernel
theorem dX7_tract_66 : decode cX7_tract 66 = .ok (.getfield 119, 3) := by decide +kernel
theorem dX7_tract_69 : decode cX7_tract 69 = .ok (.iconst 1, 1) := by decide +kernel
theorem dX7_tract_70 : decode cX7_tract 70 = .ok (.isub, 1) := by decide +kernel
theorem dX7_tract_71 : decode cX7_tract 71 = .ok (.ireturn, 1) := by decide +kernel
theorem dX7_titleOf_0 : decode cX7_titleOf 0 = .ok (.aload_n 0, 1) := by decide +kernel
theorem dX7_titleOf_1 : decode cX7_titleOf 1 = .ok (.getfield 13, 3) := by decide +kernel
theorem dX7_titleOf_4 : decode cX7_titleOf 4 = .ok (.iload_n 1, 1) := by decide +kernel
theorem dX7_titleOf_5 : decode cX7_titleOf 5 = .ok (.iaload, 1) := by decide +kernel
theorem dX7_titleOf_6 : decode cX7_titleOf 6 = .ok (.iload_n 2, 1) := by decide +kernel
theorem dX7_titleOf_7 : decode cX7_titleOf 7 = .ok (.if_icmp .ne 9, 3) := by decide +kernel
theorem dX7_titleOf_10 : decode cX7_titleOf 10 = .ok (.sipush 10000, 3) := by decide +kernel
theorem dX7_titleOf_13 : decode cX7_titleOf 13 = .ok (.goto 4, 3) := by decide +kernel
theorem dX7_titleOf_16 : decode cX7_titleOf 16 = .ok (.iconst 0, 1) := by decide +kernel
theorem dX7_titleOf_17 : decode cX7_titleOf 17 = .ok (.istore 4, 2) := by decide +kernel
theorem dX7_titleOf_19 : decode cX7_titleOf 19 = .ok (.iconst 0, 1) := by decide +kernel
theorem dX7_titleOf_20 : decode cX7_titleOf 20 = .ok (.istore 5, 2) := by decide +kernel
theorem dX7_titleOf_22 : decode cX7_titleOf 22 = .ok (.iload 5, 2) := by decide +kernel
theorem dX7_titleOf_24 : decode cX7_titleOf 24 = .ok (.aload_n 0, 1) := by decide +kernel
theorem dX7_titleOf_25 : decode cX7_titleOf 25 = .ok (.getfield 136, 3) := by decide +kernel
theorem dX7_titleOf_28 : decode cX7_titleOf 28 = .ok (.if_icmp .ge 85, 3) := by decide +kernel
theorem dX7_titleOf_31 : decode cX7_titleOf 31 = .ok (.aload_n 0, 1) := by decide +kernel
theorem dX7_titleOf_32 : decode cX7_titleOf 32 = .ok (.getfield 19, 3) := by decide +kernel
theorem dX7_titleOf_35 : decode cX7_titleOf 35 = .ok (.iload 5, 2) := by decide +kernel
theorem dX7_titleOf_37 : decode cX7_titleOf 37 = .ok (.iaload, 1) := by decide +kernel
theorem dX7_titleOf_38 : decode cX7_titleOf 38 = .ok (.iload_n 1, 1) := by decide +kernel
theorem dX7_titleOf_39 : decode cX7_titleOf 39 = .ok (.if_icmp .ne 68, 3) := by decide +kernel
theorem dX7_titleOf_42 : decode cX7_titleOf 42 = .ok (.aload_n 0, 1) := by decide +kernel
theorem dX7_titleOf_43 : decode cX7_titleOf 43 = .ok (.getfield 31, 3) := by decide +kernel
theorem dX7_titleOf_46 : decode cX7_titleOf 46 = .ok (.iload 5, 2) := by decide +kernel
theorem dX7_titleOf_48 : decode cX7_titleOf 48 = .ok (.iaload, 1) := by decide +kernel
theorem dX7_titleOf_49 : decode cX7_titleOf 49 = .ok (.iload_n 3, 1) := by decide +kernel
theorem dX7_titleOf_50 : decode cX7_titleOf 50 = .ok (.if_icmp .gt 57, 3) := by decide +kernel
theorem dX7_titleOf_53 : decode cX7_titleOf 53 = .ok (.iload 4, 2) := by decide +kernel
theorem dX7_titleOf_55 : decode cX7_titleOf 55 = .ok (.aload_n 0, 1) := by decide +kernel
theorem dX7_titleOf_56 : decode cX7_titleOf 56 = .ok (.getfield 25, 3) := by decide +kernel
theorem dX7_titleOf_59 : decode cX7_titleOf 59 = .ok (.iload 5, 2) := by decide +kernel
theorem dX7_titleOf_61 : decode cX7_titleOf 61 = .ok (.iaload, 1) := by decide +kernel
theorem dX7_titleOf_62 : decode cX7_titleOf 62 = .ok (.iload_n 2, 1) := by decide +kernel
theorem dX7_titleOf_63 : decode cX7_titleOf 63 = .ok (.if_icmp .ne 13, 3) := by decide +kernel
theorem dX7_titleOf_66 : decode cX7_titleOf 66 = .ok (.aload_n 0, 1) := by decide +kernel
theorem dX7_titleOf_67 : decode cX7_titleOf 67 = .ok (.getfield 28, 3) := by decide +kernel
theorem dX7_titleOf_70 : decode cX7_titleOf 70 = .ok (.iload 5, 2) := by decide +kernel
theorem dX7_titleOf_72 : decode cX7_titleOf 72 = .ok (.iaload, 1) := by decide +kernel
theorem dX7_titleOf_73 : decode cX7_titleOf 73 = .ok (.goto 4, 3) := by decide +kernel
theorem dX7_titleOf_76 : decode cX7_titleOf 76 = .ok (.iconst 0, 1) := by decide +kernel
theorem dX7_titleOf_77 : decode cX7_titleOf 77 = .ok (.iadd, 1) := by decide +kernel
theorem dX7_titleOf_78 : decode cX7_titleOf 78 = .ok (.istore 4, 2) := by decide +kernel
theorem dX7_titleOf_80 : decode cX7_titleOf 80 = .ok (.iload 4, 2) := by decide +kernel
theorem dX7_titleOf_82 : decode cX7_titleOf 82 = .ok (.aload_n 0, 1) := by decide +kernel
theorem dX7_titleOf_83 : decode cX7_titleOf 83 = .ok (.getfield 22, 3) := by decide +kernel
theorem dX7_titleOf_86 : decode cX7_titleOf 86 = .ok (.iload 5, 2) := by decide +kernel
theorem dX7_titleOf_88 : decode cX7_titleOf 88 = .ok (.iaload, 1) := by decide +kernel
theorem dX7_titleOf_89 : decode cX7_titleOf 89 = .ok (.iload_n 2, 1) := by decide +kernel
theorem dX7_titleOf_90 : decode cX7_titleOf 90 = .ok (.if_icmp .ne 13, 3) := by decide +kernel
theorem dX7_titleOf_93 : decode cX7_titleOf 93 = .ok (.aload_n 0, 1) := by decide +kernel
theorem dX7_titleOf_94 : decode cX7_titleOf 94 = .ok (.getfield 28, 3) := by decide +kernel
theorem dX7_titleOf_97 : decode cX7_titleOf 97 = .ok (.iload 5, 2) := by decide +kernel
theorem dX7_titleOf_99 : decode cX7_titleOf 99 = .ok (.iaload, 1) := by decide +kernel
theorem dX7_titleOf_100 : decode cX7_titleOf 100 = .ok (.goto 4, 3) := by decide +kernel
theorem dX7_titleOf_103 : decode cX7_titleOf 103 = .ok (.iconst 0, 1) := by decide +kernel
theorem dX7_titleOf_104 : decode cX7_titleOf 104 = .ok (.isub, 1) := by decide +kernel
theorem dX7_titleOf_105 : decode cX7_titleOf 105 = .ok (.istore 4, 2) := by decide +kernel
theorem dX7_titleOf_107 : decode cX7_titleOf 107 = .ok (.iinc 5 1, 3) := by decide +kernel
theorem dX7_titleOf_110 : decode cX7_titleOf 110 = .ok (.goto (-88), 3) := by decide +kernel
theorem dX7_titleOf_113 : decode cX7_titleOf 113 = .ok (.iload 4, 2) := by decide +kernel
theorem dX7_titleOf_115 : decode cX7_titleOf 115 = .ok (.ireturn, 1) := by decide +kernel
set_option maxRecDepth 20000 in
theorem ggX7_deed_X7_isTract : GoodIn wsX7_deed wsX7_isTract := goodIn_r _ [12, 13, 14, 15, 11, 16, 34, 35, 36, 37, 38, 39, 40, 41, 42, 43, 44, 45, 46, 47, 48, 49, 50, 51, 52, 53, 54, 55, 56, 57, 58, 59, 60, 61, 62, 63, 64, 65, 66, 67, 68, 69, 70, 71, 72, 73] (by decide +kernel) (by decide +kernel)
set_option maxRecDepth 20000 in
theorem gX7_deed_X7_isTract : GoodIn wsX7_deed (wsV RX7 139 RX7 yX7_isTract wsX7_isTract) := goodIn_app (goodIn_of _ (by decide +kernel)) ggX7_deed_X7_isTract
set_option maxRecDepth 20000 in
theorem ggX7_deed_X7_isOwner : GoodIn wsX7_deed wsX7_isOwner := goodIn_r _ [19, 14, 15, 11, 16] (by decide +kernel) (by decide +kernel)
set_option maxRecDepth 20000 in
theorem gX7_deed_X7_isOwner : GoodIn wsX7_deed (va_wsS RX7 132 yX7_isOwner wsX7_isOwner) := goodIn_app (goodIn_of _ (by decide +kernel)) ggX7_deed_X7_isOwner
set_option maxRecDepth 20000 in
theorem ggX7_deed_X7_isMonth : GoodIn wsX7_deed wsX7_isMonth := goodIn_r _ [23, 2, 14, 15, 11, 16, 34, 35, 36, 37, 38, 39, 40, 41, 42, 43, 44, 45, 46, 47, 48, 49, 50, 51, 52, 53, 54, 55, 56, 57, 58, 59, 60, 61, 62, 63, 64, 65, 66, 67, 68, 69, 70, 71, 72, 73] (by decide +kernel) (by decide +kernel)
set_option maxRecDepth 20000 in
theorem gX7_deed_X7_isMonth : GoodIn wsX7_deed (wsV RX7 142 RX7 yX7_isMonth wsX7_isMonth) := goodIn_app (goodIn_of _ (by decide +kernel)) ggX7_deed_X7_isMonth
set_option maxRecDepth 20000 in
theorem ggX7_deed_X7_isBetween : GoodIn wsX7_deed wsX7_isBetween := goodIn_r _ [16] (by decide +kernel) (by decide +kernel)
set_option maxRecDepth 20000 in
theorem gX7_deed_X7_isBetween : GoodIn wsX7_deed (va_wsS RX7 115 yX7_isBetween wsX7_isBetween) := goodIn_app (goodIn_of _ (by decide +kernel)) ggX7_deed_X7_isBetween
set_option maxRecDepth 20000 in
theorem ggX7_deed_X7_titleOf : GoodIn wsX7_deed wsX7_titleOf := goodIn_r _ [27, 28, 1, 3, 7, 5, 6, 4, 34, 35, 36, 37, 38, 39, 40, 41, 42, 43, 44, 45, 46, 47, 48, 49, 50, 51, 52, 53, 54, 55, 56, 57, 58, 59, 60, 61, 62, 63, 64, 65, 66, 67, 68, 69, 70, 71, 72, 73] (by decide +kernel) (by decide +kernel)
set_option maxRecDepth 20000 in
theorem gX7_deed_X7_titleOf : GoodIn wsX7_deed (wsV RX7 145 RX7 yX7_titleOf wsX7_titleOf) := goodIn_app (goodIn_of _ (by decide +kernel)) ggX7_deed_X7_titleOf
