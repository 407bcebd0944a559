theorem dX7_revenueOf_35 : decode cX7_revenueOf 35 = .ok (.iload_n 2, 1) := by decide +kernel
theorem dX7_revenueOf_36 : decode cX7_revenueOf 36 = .ok (.iadd, 1) := by decide +kernel
theorem dX7_revenueOf_37 : decode cX7_revenueOf 37 = .ok (.iaload, 1) := by decide +kernel
theorem dX7_revenueOf_38 : decode cX7_revenueOf 38 = .ok (.aload_n 0, 1) := by decide +kernel
theorem dX7_revenueOf_39 : decode cX7_revenueOf 39 = .ok (.getfield 61, 3) := by decide +kernel
theorem dX7_revenueOf_42 : decode cX7_revenueOf 42 = .ok (.bipush 61, 2) := by decide +kernel
theorem dX7_revenueOf_44 : decode cX7_revenueOf 44 = .ok (.iload 4, 2) := by decide +kernel
theorem dX7_revenueOf_46 : decode cX7_revenueOf 46 = .ok (.imul, 1) := by decide +kernel
theorem dX7_revenueOf_47 : decode cX7_revenueOf 47 = .ok (.iload_n 2, 1) := by decide +kernel
theorem dX7_revenueOf_48 : decode cX7_revenueOf 48 = .ok (.iadd, 1) := by decide +kernel
theorem dX7_revenueOf_49 : decode cX7_revenueOf 49 = .ok (.iaload, 1) := by decide +kernel
theorem dX7_revenueOf_50 : decode cX7_revenueOf 50 = .ok (.imul, 1) := by decide +kernel
theorem dX7_revenueOf_51 : decode cX7_revenueOf 51 = .ok (.goto 4, 3) := by decide +kernel
theorem dX7_revenueOf_54 : decode cX7_revenueOf 54 = .ok (.iconst 0, 1) := by decide +kernel
theorem dX7_revenueOf_55 : decode cX7_revenueOf 55 = .ok (.iadd, 1) := by decide +kernel
theorem dX7_revenueOf_56 : decode cX7_revenueOf 56 = .ok (.istore_n 3, 1) := by decide +kernel
theorem dX7_revenueOf_57 : decode cX7_revenueOf 57 = .ok (.iinc 4 1, 3) := by decide +kernel
theorem dX7_revenueOf_60 : decode cX7_revenueOf 60 = .ok (.goto (-55), 3) := by decide +kernel
theorem dX7_revenueOf_63 : decode cX7_revenueOf 63 = .ok (.iload_n 3, 1) := by decide +kernel
theorem dX7_revenueOf_64 : decode cX7_revenueOf 64 = .ok (.iload_n 3, 1) := by decide +kernel
theorem dX7_revenueOf_65 : decode cX7_revenueOf 65 = .ok (.i2l, 1) := by decide +kernel
theorem dX7_revenueOf_66 : decode cX7_revenueOf 66 = .ok (.aload_n 0, 1) := by decide +kernel
theorem dX7_revenueOf_67 : decode cX7_revenueOf 67 = .ok (.iload_n 2, 1) := by decide +kernel
theorem dX7_revenueOf_68 : decode cX7_revenueOf 68 = .ok (.invokevirtual 167, 3) := by decide +kernel
theorem dX7_revenueOf_71 : decode cX7_revenueOf 71 = .ok (.i2l, 1) := by decide +kernel
theorem dX7_revenueOf_72 : decode cX7_revenueOf 72 = .ok (.lmul, 1) := by decide +kernel
theorem dX7_revenueOf_73 : decode cX7_revenueOf 73 = .ok (.ldc2_w 194, 3) := by decide +kernel
theorem dX7_revenueOf_76 : decode cX7_revenueOf 76 = .ok (.ldiv, 1) := by decide +kernel
theorem dX7_revenueOf_77 : decode cX7_revenueOf 77 = .ok (.l2i, 1) := by decide +kernel
theorem dX7_revenueOf_78 : decode cX7_revenueOf 78 = .ok (.isub, 1) := by decide +kernel
theorem dX7_revenueOf_79 : decode cX7_revenueOf 79 = .ok (.ireturn, 1) := by decide +kernel
theorem dX7_costOf_0 : decode cX7_costOf 0 = .ok (.iconst 0, 1) := by decide +kernel
theorem dX7_costOf_1 : decode cX7_costOf 1 = .ok (.istore_n 3, 1) := by decide +kernel
theorem dX7_costOf_2 : decode cX7_costOf 2 = .ok (.iconst 0, 1) := by decide +kernel
theorem dX7_costOf_3 : decode cX7_costOf 3 = .ok (.istore 4, 2) := by decide +kernel
theorem dX7_costOf_5 : decode cX7_costOf 5 = .ok (.iload 4, 2) := by decide +kernel
theorem dX7_costOf_7 : decode cX7_costOf 7 = .ok (.aload_n 0, 1) := by decide +kernel
theorem dX7_costOf_8 : decode cX7_costOf 8 = .ok (.getfield 152, 3) := by decide +kernel
theorem dX7_costOf_11 : decode cX7_costOf 11 = .ok (.if_icmp .ge 39, 3) := by decide +kernel
theorem dX7_costOf_14 : decode cX7_costOf 14 = .ok (.iload_n 3, 1) := by decide +kernel
theorem dX7_costOf_15 : decode cX7_costOf 15 = .ok (.aload_n 0, 1) := by decide +kernel
theorem dX7_costOf_16 : decode cX7_costOf 16 = .ok (.getfield 55, 3) := by decide +kernel
theorem dX7_costOf_19 : decode cX7_costOf 19 = .ok (.iload 4, 2) := by decide +kernel
theorem dX7_costOf_21 : decode cX7_costOf 21 = .ok (.iaload, 1) := by decide +kernel
theorem dX7_costOf_22 : decode cX7_costOf 22 = .ok (.iload_n 1, 1) := by decide +kernel
theorem dX7_costOf_23 : decode cX7_costOf 23 = .ok (.if_icmp .ne 18, 3) := by decide +kernel
theorem dX7_costOf_26 : decode cX7_costOf 26 = .ok (.aload_n 0, 1) := by decide +kernel
theorem dX7_costOf_27 : decode cX7_costOf 27 = .ok (.getfield 64, 3) := by decide +kernel
theorem dX7_costOf_30 : decode cX7_costOf 30 = .ok (.bipush 61, 2) := by decide +kernel
theorem dX7_costOf_32 : decode cX7_costOf 32 = .ok (.iload 4, 2) := by decide +kernel
theorem dX7_costOf_34 : decode cX7_costOf 34 = .ok (.imul, 1) := by decide +kernel
theorem dX7_costOf_35 : decode cX7_costOf 35 = .ok (.iload_n 2, 1) := by decide +kernel
theorem dX7_costOf_36 : decode cX7_costOf 36 = .ok (.iadd, 1) := by decide +kernel
theorem dX7_costOf_37 : decode cX7_costOf 37 = .ok (.iaload, 1) := by decide +kernel
theorem dX7_costOf_38 : decode cX7_costOf 38 = .ok (.goto 4, 3) := by decide +kernel
theorem dX7_costOf_41 : decode cX7_costOf 41 = .ok (.iconst 0, 1) := by decide +kernel
theorem dX7_costOf_42 : decode cX7_costOf 42 = .ok (.iadd, 1) := by decide +kernel
theorem dX7_costOf_43 : decode cX7_costOf 43 = .ok (.istore_n 3, 1) := by decide +kernel
theorem dX7_costOf_44 : decode cX7_costOf 44 = .ok (.iinc 4 1, 3) := by decide +kernel
theorem dX7_costOf_47 : decode cX7_costOf 47 = .ok (.goto (-42), 3) := by decide +kernel
theorem dX7_costOf_50 : decode cX7_costOf 50 = .ok (.iload_n 3, 1) := by decide +kernel
theorem dX7_costOf_51 : decode cX7_costOf 51 = .ok (.ireturn, 1) := by decide +kernel
set_option maxRecDepth 20000 in
theorem ggX7_revenue_X7_isUnitMonth : GoodIn wsX7_revenue wsX7_isUnitMonth := goodIn_r _ [5, 6, 7, 8, 9, 10, 4, 11, 31, 32, 33, 34, 35, 36, 37, 38, 39, 40, 41, 42, 43, 44, 45, 46, 47, 48, 49, 50, 51, 52, 53, 54, 55, 56, 57, 58, 59, 60, 61, 62, 63, 64, 65, 66, 67, 68, 69, 70] (by decide +kernel) (by decide +kernel)
set_option maxRecDepth 20000 in
theorem gX7_revenue_X7_isUnitMonth : GoodIn wsX7_revenue (wsV RX7 181 RX7 yX7_isUnitMonth wsX7_isUnitMonth) := goodIn_app (goodIn_of _ (by decide +kernel)) ggX7_revenue_X7_isUnitMonth
set_option maxRecDepth 20000 in
theorem ggX7_revenue_X7_goes : GoodIn wsX7_revenue wsX7_goes := goodIn_r _ [15, 16, 31, 32, 33, 34, 35, 36, 37, 38, 39, 40, 41, 42, 43, 44, 45, 46, 47, 48, 49, 50, 51, 52, 53, 54, 55, 56, 57, 58, 59, 60, 61, 62, 63, 64, 65, 66, 67, 68, 69, 70] (by decide +kernel) (by decide +kernel)
set_option maxRecDepth 20000 in
theorem gX7_revenue_X7_goes : GoodIn wsX7_revenue (wsV RX7 128 RX7 yX7_goes wsX7_goes) := goodIn_app (goodIn_of _ (by decide +kernel)) ggX7_revenue_X7_goes
set_option maxRecDepth 20000 in
theorem ggX7_revenue_X7_revenueOf : GoodIn wsX7_revenue wsX7_revenueOf := goodIn_r _ [20, 21, 22, 23, 24, 25, 26, 27, 28, 4, 29, 30, 31, 32, 33, 34, 35, 36, 37, 38, 39, 40, 41, 42, 43, 44, 45, 46, 47, 48, 49, 50, 51, 52, 53, 54, 55, 56, 57, 58, 59, 60, 61, 62, 63, 64, 65, 66, 67, 68, 69, 70] (by decide +kernel) (by decide +kernel)
set_option maxRecDepth 20000 in
theorem gX7_revenue_X7_revenueOf : GoodIn wsX7_revenue (wsV RX7 196 RX7 yX7_revenueOf wsX7_revenueOf) := goodIn_app (goodIn_of _ (by decide +kernel)) ggX7_revenue_X7_revenueOf
theorem dX7_revenue_0 : decode cX7_revenue 0 = .ok (.aload_n 0, 1) := by decide +kernel
theorem dX7_revenue_1 : decode cX7_revenue 1 = .ok (.aload_n 0, 1) := by decide +kernel
theorem dX7_revenue_2 : decode cX7_revenue 2 = .ok (.iload_n 1, 1) := by decide +kernel
theorem dX7_revenue_3 : decode cX7_revenue 3 = .ok (.iload_n 2, 1) := by decide +kernel
theorem dX7_revenue_4 : decode cX7_revenue 4 = .ok (.invokevirtual 181, 3) := by decide +kernel
theorem dX7_revenue_7 : decode cX7_revenue 7 = .ok (.iconst 1, 1) := by decide +kernel
theorem dX7_revenue_8 : decode cX7_revenue 8 = .ok (.iconst 1, 1) := by decide +kernel
theorem dX7_revenue_9 : decode cX7_revenue 9 = .ok (.invokevirtual 128, 3) := by decide +kernel
theorem dX7_revenue_12 : decode cX7_revenue 12 = .ok (.ifCond .ne 5, 3) := by decide +kernel
theorem dX7_revenue_15 : decode cX7_revenue 15 = .ok (.iconst 0, 1) := by decide +kernel
theorem dX7_revenue_16 : decode cX7_revenue 16 = .ok (.ireturn, 1) := by decide +kernel
theorem dX7_revenue_17 : decode cX7_revenue 17 = .ok (.aload_n 0, 1) := by decide +kernel
theorem dX7_revenue_18 : decode cX7_revenue 18 = .ok (.iload_n 1, 1) := by decide +kernel
theorem dX7_revenue_19 : decode cX7_revenue 19 = .ok (.iload_n 2, 1) := by decide +kernel
theorem dX7_revenue_20 : decode cX7_revenue 20 = .ok (.invokevirtual 196, 3) := by decide +kernel
theorem dX7_revenue_23 : decode cX7_revenue 23 = .ok (.ireturn, 1) := by decide +kernel
set_option maxRecDepth 20000 in
theorem ggX7_carries_X7_doesConsent : GoodIn wsX7_carries wsX7_doesConsent := goodIn_r _ [8, 9, 10, 11, 12, 13, 14, 15, 16, 17, 18, 19, 20, 21, 22, 23, 24, 25, 26, 27, 28, 29, 30, 31, 32, 33, 34, 35, 36, 37, 38, 39, 40, 41, 42, 43, 44, 45, 46, 47, 48, 49] (by decide +kernel) (by decide +kernel)
set_option maxRecDepth 20000 in
theorem gX7_carries_X7_doesConsent : GoodIn wsX7_carries (wsV RX7 171 RX7 yX7_doesConsent wsX7_doesConsent) := goodIn_app (goodIn_of _ (by decide +kernel)) ggX7_carries_X7_doesConsent
theorem dX7_carries_0 : decode cX7_carries 0 = .ok (.iconst 0, 1) := by decide +kernel
theorem dX7_carries_1 : decode cX7_carries 1 = .ok (.istore_n 3, 1) := by decide +kernel
theorem dX7_carries_2 : decode cX7_carries 2 = .ok (.iconst 0, 1) := by decide +kernel
theorem dX7_carries_3 : decode cX7_carries 3 = .ok (.istore 4, 2) := by decide +kernel
theorem dX7_carries_5 : decode cX7_carries 5 = .ok (.iload 4, 2) := by decide +kernel
theorem dX7_carries_7 : decode cX7_carries 7 = .ok (.bipush 10, 2) := by decide +kernel
theorem dX7_carries_9 : decode cX7_carries 9 = .ok (.if_icmp .ge 94, 3) := by decide +kernel
theorem dX7_carries_12 : decode cX7_carries 12 = .ok (.aload_n 0, 1) := by decide +kernel
theorem dX7_carries_13 : decode cX7_carries 13 = .ok (.getfield 100, 3) := by decide +kernel
theorem dX7_carries_16 : decode cX7_carries 16 = .ok (.iload 4, 2) := by decide +kernel
theorem dX7_carries_18 : decode cX7_carries 18 = .ok (.aload_n 0, 1) := by decide +kernel
theorem dX7_carries_19 : decode cX7_carries 19 = .ok (.getfield 88, 3) := by decide +kernel
theorem dX7_carries_22 : decode cX7_carries 22 = .ok (.bipush 10, 2) := by decide +kernel
theorem dX7_carries_24 : decode cX7_carries 24 = .ok (.iload 4, 2) := by decide +kernel
theorem dX7_carries_26 : decode cX7_carries 26 = .ok (.iadd, 1) := by decide +kernel
theorem dX7_carries_27 : decode cX7_carries 27 = .ok (.laload, 1) := by decide +kernel
theorem dX7_carries_28 : decode cX7_carries 28 = .ok (.lconst 0, 1) := by decide +kernel
theorem dX7_carries_29 : decode cX7_carries 29 = .ok (.lcmp, 1) := by decide +kernel
theorem dX7_carries_30 : decode cX7_carries 30 = .ok (.ifCond .le 30, 3) := by decide +kernel
theorem dX7_carries_33 : decode cX7_carries 33 = .ok (.aload_n 0, 1) := by decide +kernel
theorem dX7_carries_34 : decode cX7_carries 34 = .ok (.getfield 103, 3) := by decide +kernel
theorem dX7_carries_37 : decode cX7_carries 37 = .ok (.iload 4, 2) := by decide +kernel
theorem dX7_carries_39 : decode cX7_carries 39 = .ok (.laload, 1) := by decide +kernel
theorem dX7_carries_40 : decode cX7_carries 40 = .ok (.lconst 0, 1) := by decide +kernel
theorem dX7_carries_41 : decode cX7_carries 41 = .ok (.lcmp, 1) := by decide +kernel
theorem dX7_carries_42 : decode cX7_carries 42 = .ok (.ifCond .gt 14, 3) := by decide +kernel
theorem dX7_carries_45 : decode cX7_carries 45 = .ok (.aload_n 0, 1) := by decide +kernel
theorem dX7_carries_46 : decode cX7_carries 46 = .ok (.iload_n 1, 1) := by decide +kernel
theorem dX7_carries_47 : decode cX7_carries 47 = .ok (.iload 4, 2) := by decide +kernel
theorem dX7_carries_49 : decode cX7_carries 49 = .ok (.iload_n 2, 1) := by decide +kernel
theorem dX7_carries_50 : decode cX7_carries 50 = .ok (.invokevirtual 171, 3) := by decide +kernel
theorem dX7_carries_53 : decode cX7_carries 53 = .ok (.ifCond .ne 7, 3) := by decide +kernel
theorem dX7_carries_56 : decode cX7_carries 56 = .ok (.iconst 1, 1) := by decide +kernel
theorem dX7_carries_57 : decode cX7_carries 57 = .ok (.goto 4, 3) := by decide +kernel
theorem dX7_carries_60 : decode cX7_carries 60 = .ok (.iconst 0, 1) := by decide +kernel
theorem dX7_carries_61 : decode cX7_carries 61 = .ok (.bastore, 1) := by decide +kernel
theorem dX7_carries_62 : decode cX7_carries 62 = .ok (.iload_n 3, 1) := by decide +kernel
theorem dX7_carries_63 : decode cX7_carries 63 = .ok (.ifCond .ne 28, 3) := by decide +kernel
theorem dX7_carries_66 : decode cX7_carries 66 = .ok (.aload_n 0, 1) := by decide +kernel
theorem dX7_carries_67 : decode cX7_carries 67 = .ok (.getfield 88, 3) := by decide +kernel
theorem dX7_carries_70 : decode cX7_carries 70 = .ok (.bipush 10, 2) := by decide +kernel
theorem dX7_carries_72 : decode cX7_carries 72 = .ok (.iload 4, 2) := by decide +kernel
theorem dX7_carries_74 : decode cX7_carries 74 = .ok (.iadd, 1) := by decide +kernel
theorem dX7_carries_75 : decode cX7_carries 75 = .ok (.laload, 1) := by decide +kernel
theorem dX7_carries_76 : decode cX7_carries 76 = .ok (.lconst 0, 1) := by decide +kernel
theorem dX7_carries_77 : decode cX7_carries 77 = .ok (.lcmp, 1) := by decide +kernel
theorem dX7_carries_78 : decode cX7_carries 78 = .ok (.ifCond .le 17, 3) := by decide +kernel
theorem dX7_carries_81 : decode cX7_carries 81 = .ok (.aload_n 0, 1) := by decide +kernel
theorem dX7_carries_82 : decode cX7_carries 82 = .ok (.getfield 100, 3) := by decide +kernel
theorem dX7_carries_85 : decode cX7_carries 85 = .ok (.iload 4, 2) := by decide +kernel
theorem dX7_carries_87 : decode cX7_carries 87 = .ok (.baload, 1) := by decide +kernel
theorem dX7_carries_88 : decode cX7_carries 88 = .ok (.ifCond .ne 7, 3) := by decide +kernel
theorem dX7_carries_91 : decode cX7_carries 91 = .ok (.iconst 1, 1) := by decide +kernel
theorem dX7_carries_92 : decode cX7_carries 92 = .ok (.goto 4, 3) := by decide +kernel
theorem dX7_carries_95 : decode cX7_carries 95 = .ok (.iconst 0, 1) := by decide +kernel
theorem dX7_carries_96 : decode cX7_carries 96 = .ok (.istore_n 3, 1) := by decide +kernel
theorem dX7_carries_97 : decode cX7_carries 97 = .ok (.iinc 4 1, 3) := by decide +kernel
theorem dX7_carries_100 : decode cX7_carries 100 = .ok (.goto (-95), 3) := by decide +kernel
theorem dX7_carries_103 : decode cX7_carries 103 = .ok (.iconst 0, 1) := by decide +kernel
theorem dX7_carries_104 : decode cX7_carries 104 = .ok (.istore 4, 2) := by decide +kernel
theorem dX7_carries_106 : decode cX7_carries 106 = .ok (.iload 4, 2) := by decide +kernel
theorem dX7_carries_108 : decode cX7_carries 108 = .ok (.bipush 10, 2) := by decide +kernel
theorem dX7_carries_110 : decode cX7_carries 110 = .ok (.if_icmp .ge 35, 3) := by decide +kernel
theorem dX7_carries_113 : decode cX7_carries 113 = .ok (.aload_n 0, 1) := by decide +kernel
theorem dX7_carries_114 : decode cX7_carries 114 = .ok (.getfield 100, 3) := by decide +kernel
theorem dX7_carries_117 : decode cX7_carries 117 = .ok (.iload 4, 2) := by decide +kernel
theorem dX7_carries_119 : decode cX7_carries 119 = .ok (.aload_n 0, 1) := by decide +kernel
theorem dX7_carries_120 : decode cX7_carries 120 = .ok (.getfield 100, 3) := by decide +kernel
theorem dX7_carries_123 : decode cX7_carries 123 = .ok (.iload 4, 2) := by decide +kernel
theorem dX7_carries_125 : decode cX7_carries 125 = .ok (.baload, 1) := by decide +kernel
theorem dX7_carries_126 : decode cX7_carries 126 = .ok (.ifCond .eq 11, 3) := by decide +kernel
theorem dX7_carries_129 : decode cX7_carries 129 = .ok (.iload_n 3, 1) := by decide +kernel
theorem dX7_carries_130 : decode cX7_carries 130 = .ok (.ifCond .eq 7, 3) := by decide +kernel
theorem dX7_carries_133 : decode cX7_carries 133 = .ok (.iconst 1, 1) := by decide +kernel
theorem dX7_carries_134 : decode cX7_carries 134 = .ok (.goto 4, 3) := by decide +kernel
theorem dX7_carries_137 : decode cX7_carries 137 = .ok (.iconst 0, 1) := by decide +kernel
theorem dX7_carries_138 : decode cX7_carries 138 = .ok (.bastore, 1) := by decide +kernel
theorem dX7_carries_139 : decode cX7_carries 139 = .ok (.iinc 4 1, 3) := by decide +kernel
theorem dX7_carries_142 : decode cX7_carries 142 = .ok (.goto (-36), 3) := by decide +kernel
theorem dX7_carries_145 : decode cX7_carries 145 = .ok (.return_, 1) := by decide +kernel
theorem dX7_takesWorking_0 : decode cX7_takesWorking 0 = .ok (.iconst 0, 1) := by decide +kernel
theorem dX7_takesWorking_1 : decode cX7_takesWorking 1 = .ok (.istore_n 2, 1) := by decide +kernel
theorem dX7_takesWorking_2 : decode cX7_takesWorking 2 = .ok (.iload_n 2, 1) := by decide +kernel
theorem dX7_takesWorking_3 : decode cX7_takesWorking 3 = .ok (.bipush 10, 2) := by decide +kernel
theorem dX7_takesWorking_5 : decode cX7_takesWorking 5 = .ok (.if_icmp .ge 41, 3) := by decide +kernel
theorem dX7_takesWorking_8 : decode cX7_takesWorking 8 = .ok (.aload_n 0, 1) := by decide +kernel
theorem dX7_takesWorking_9 : decode cX7_takesWorking 9 = .ok (.getfield 91, 3) := by decide +kernel
theorem dX7_takesWorking_12 : decode cX7_takesWorking 12 = .ok (.iload_n 2, 1) := by decide +kernel
theorem dX7_takesWorking_13 : decode cX7_takesWorking 13 = .ok (.iload_n 1, 1) := by decide +kernel
theorem dX7_takesWorking_14 : decode cX7_takesWorking 14 = .ok (.ifCond .ne 12, 3) := by decide +kernel
theorem dX7_takesWorking_17 : decode cX7_takesWorking 17 = .ok (.aload_n 0, 1) := by decide +kernel
theorem dX7_takesWorking_18 : decode cX7_takesWorking 18 = .ok (.getfield 100, 3) := by decide +kernel
theorem dX7_takesWorking_21 : decode cX7_takesWorking 21 = .ok (.iload_n 2, 1) := by decide +kernel
theorem dX7_takesWorking_22 : decode cX7_takesWorking 22 = .ok (.baload, 1) := by decide +kernel
theorem dX7_takesWorking_23 : decode cX7_takesWorking 23 = .ok (.ifCond .ne 15, 3) := by decide +kernel
theorem dX7_takesWorking_26 : decode cX7_takesWorking 26 = .ok (.aload_n 0, 1) := by decide +kernel
theorem dX7_takesWorking_27 : decode cX7_takesWorking 27 = .ok (.getfield 88, 3) := by decide +kernel
theorem dX7_takesWorking_30 : decode cX7_takesWorking 30 = .ok (.bipush 10, 2) := by decide +kernel
theorem dX7_takesWorking_32 : decode cX7_takesWorking 32 = .ok (.iload_n 2, 1) := by decide +kernel
theorem dX7_takesWorking_33 : decode cX7_takesWorking 33 = .ok (.iadd, 1) := by decide +kernel
theorem dX7_takesWorking_34 : decode cX7_takesWorking 34 = .ok (.laload, 1) := by decide +kernel
theorem dX7_takesWorking_35 : decode cX7_takesWorking 35 = .ok (.goto 4, 3) := by decide +kernel
theorem dX7_takesWorking_38 : decode cX7_takesWorking 38 = .ok (.lconst 0, 1) := by decide +kernel
theorem dX7_takesWorking_39 : decode cX7_takesWorking 39 = .ok (.lastore, 1) := by decide +kernel
theorem dX7_takesWorking_40 : decode cX7_takesWorking 40 = .ok (.iinc 2 1, 3) := by decide +kernel
theorem dX7_takesWorking_43 : decode cX7_takesWorking 43 = .ok (.goto (-41), 3) := by decide +kernel
theorem dX7_takesWorking_46 : decode cX7_takesWorking 46 = .ok (.return_, 1) := by decide +kernel
set_option maxRecDepth 20000 in
theorem ggX7_settles_X7_decks : GoodIn wsX7_settles wsX7_decks := goodIn_r _ [13, 8, 14, 15, 16, 17, 18, 19, 20, 21, 22, 12, 23, 24, 25, 26, 27, 28, 29, 30, 31, 32, 33, 34, 35, 36, 37, 38, 39, 40, 41, 42, 43, 44, 45, 46, 47, 48, 49, 50, 85, 86, 87, 88, 89, 90, 91, 92, 93, 94, 95, 96, 97, 98, 99, 100, 101, 102, 103, 104, 105, 106, 107, 108, 109, 110, 111, 112, 113, 114, 115, 116, 117, 118, 119, 120, 121, 122, 123, 124] (by decide +kernel) (by decide +kernel)
set_option maxRecDepth 20000 in
theorem gX7_settles_X7_decks : GoodIn wsX7_settles (wsV RX7 184 RX7 yX7_decks wsX7_decks) := goodIn_app (goodIn_of _ (by decide +kernel)) ggX7_settles_X7_decks
set_option maxRecDepth 20000 in
theorem ggX7_settles_X7_carries : GoodIn wsX7_settles wsX7_carries := goodIn_r _ [54, 2, 8, 1, 55, 56, 57, 12, 58, 59, 85, 86, 87, 88, 89, 90, 91, 92, 93, 94, 95, 96, 97, 98, 99, 100, 101, 102, 103, 104, 105, 106, 107, 108, 109, 110, 111, 112, 113, 114, 115, 116, 117, 118, 119, 120, 121, 122, 123, 124] (by decide +kernel) (by decide +kernel)
set_option maxRecDepth 20000 in
theorem gX7_settles_X7_carries : GoodIn wsX7_settles (wsV RX7 200 RX7 yX7_carries wsX7_carries) := goodIn_app (goodIn_of _ (by decide +kernel)) ggX7_settles_X7_carries
set_option maxRecDepth 20000 in
theorem ggX7_settles_X7_costOf : GoodIn wsX7_settles wsX7_costOf := goodIn_r _ [63, 48, 49, 64, 85, 86, 87, 88, 89, 90, 91, 92, 93, 94, 95, 96, 97, 98, 99, 100, 101, 102, 103, 104, 105, 106, 107, 108, 109, 110, 111, 112, 113, 114, 115, 116, 117, 118, 119, 120, 121, 122, 123, 124] (by decide +kernel) (by decide +kernel)
set_option maxRecDepth 20000 in
theorem gX7_settles_X7_costOf : GoodIn wsX7_settles (wsV RX7 203 RX7 yX7_costOf wsX7_costOf) := goodIn_app (goodIn_of _ (by decide +kernel)) ggX7_settles_X7_costOf
set_option maxRecDepth 20000 in
theorem ggX7_settles_X7_takesWorking : GoodIn wsX7_settles wsX7_takesWorking := goodIn_r _ [68, 7, 2, 8, 85, 86, 87, 88, 89, 90, 91, 92, 93, 94, 95, 96, 97, 98, 99, 100, 101, 102, 103, 104, 105, 106, 107, 108, 109, 110, 111, 112, 113, 114, 115, 116, 117, 118, 119, 120, 121, 122, 123, 124] (by decide +kernel) (by decide +kernel)
set_option maxRecDepth 20000 in
theorem gX7_settles_X7_takesWorking : GoodIn wsX7_settles (wsV RX7 206 RX7 yX7_takesWorking wsX7_takesWorking) := goodIn_app (goodIn_of _ (by decide +kernel)) ggX7_settles_X7_takesWorking
set_option maxRecDepth 20000 in
theorem ggX7_settles_X7_parted : GoodIn wsX7_settles wsX7_parted := goodIn_r _ [72, 7, 3, 73, 74, 85, 86, 87, 88, 89, 90, 91, 92, 93, 94, 95, 96, 97, 98, 99, 100, 101, 102, 103, 104, 105, 106, 107, 108, 109, 110, 111, 112, 113, 114, 115, 116, 117, 118, 119, 120, 121, 122, 123, 124] (by decide +kernel) (by decide +kernel)
set_option maxRecDepth 20000 in
theorem gX7_settles_X7_parted : GoodIn wsX7_settles (wsV RX7 190 RX7 yX7_parted wsX7_parted) := goodIn_app (goodIn_of _ (by decide +kernel)) ggX7_settles_X7_parted
set_option maxRecDepth 20000 in
theorem ggX7_settles_X7_revenueOf : GoodIn wsX7_settles wsX7_revenueOf := goodIn_r _ [78, 48, 49, 50, 79, 5, 80, 81, 82, 12, 83, 84, 85, 86, 87, 88, 89, 90, 91, 92, 93, 94, 95, 96, 97, 98, 99, 100, 101, 102, 103, 104, 105, 106, 107, 108, 109, 110, 111, 112, 113, 114, 115, 116, 117, 118, 119, 120, 121, 122, 123, 124] (by decide +kernel) (by decide +kernel)
set_option maxRecDepth 20000 in
theorem gX7_settles_X7_revenueOf : GoodIn wsX7_settles (wsV RX7 196 RX7 yX7_revenueOf wsX7_revenueOf) := goodIn_app (goodIn_of _ (by decide +kernel)) ggX7_settles_X7_revenueOf
theorem dX7_settles_0 : decode cX7_settles 0 = .ok (.aload_n 0, 1) := by decide +kernel
theorem dX7_settles_1 : decode cX7_settles 1 = .ok (.iload_n 1, 1) := by decide +kernel
theorem dX7_settles_2 : decode cX7_settles 2 = .ok (.iload_n 2, 1) := by decide +kernel
theorem dX7_settles_3 : decode cX7_settles 3 = .ok (.invokevirtual 184, 3) := by decide +kernel
theorem dX7_settles_6 : decode cX7_settles 6 = .ok (.aload_n 0, 1) := by decide +kernel
theorem dX7_settles_7 : decode cX7_settles 7 = .ok (.iload_n 1, 1) := by decide +kernel
theorem dX7_settles_8 : decode cX7_settles 8 = .ok (.iload_n 2, 1) := by decide +kernel
theorem dX7_settles_9 : decode cX7_settles 9 = .ok (.invokevirtual 200, 3) := by decide +kernel
theorem dX7_settles_12 : decode cX7_settles 12 = .ok (.aload_n 0, 1) := by decide +kernel
theorem dX7_settles_13 : decode cX7_settles 13 = .ok (.iload_n 1, 1) := by decide +kernel
theorem dX7_settles_14 : decode cX7_settles 14 = .ok (.iload_n 2, 1) := by decide +kernel
theorem dX7_settles_15 : decode cX7_settles 15 = .ok (.invokevirtual 203, 3) := by decide +kernel
theorem dX7_settles_18 : decode cX7_settles 18 = .ok (.istore_n 3, 1) := by decide +kernel
theorem dX7_settles_19 : decode cX7_settles 19 = .ok (.aload_n 0, 1) := by decide +kernel
theorem dX7_settles_20 : decode cX7_settles 20 = .ok (.iconst 1, 1) := by decide +kernel
theorem dX7_settles_21 : decode cX7_settles 21 = .ok (.invokevirtual 206, 3) := by decide +kernel
theorem dX7_settles_24 : decode cX7_settles 24 = .ok (.aload_n 0, 1) := by decide +kernel
theorem dX7_settles_25 : decode cX7_settles 25 = .ok (.iload_n 3, 1) := by decide +kernel
theorem dX7_settles_26 : decode cX7_settles 26 = .ok (.i2l, 1) := by decide +kernel
theorem dX7_settles_27 : decode cX7_settles 27 = .ok (.bipush 10, 2) := by decide +kernel
theorem dX7_settles_29 : decode cX7_settles 29 = .ok (.invokevirtual 190, 3) := by decide +kernel
theorem dX7_settles_32 : decode cX7_settles 32 = .ok (.iconst 0, 1) := by decide +kernel
theorem dX7_settles_33 : decode cX7_settles 33 = .ok (.istore 4, 2) := by decide +kernel
theorem dX7_settles_35 : decode cX7_settles 35 = .ok (.iload 4, 2) := by decide +kernel
theorem dX7_settles_37 : decode cX7_settles 37 = .ok (.bipush 10, 2) := by decide +kernel
theorem dX7_settles_39 : decode cX7_settles 39 = .ok (.if_icmp .ge 50, 3) := by decide +kernel
theorem dX7_settles_42 : decode cX7_settles 42 = .ok (.aload_n 0, 1) := by decide +kernel
theorem dX7_settles_43 : decode cX7_settles 43 = .ok (.getfield 103, 3) := by decide +kernel
theorem dX7_settles_46 : decode cX7_settles 46 = .ok (.iload 4, 2) := by decide +kernel
theorem dX7_settles_48 : decode cX7_settles 48 = .ok (.dup2, 1) := by decide +kernel
theorem dX7_settles_49 : decode cX7_settles 49 = .ok (.laload, 1) := by decide +kernel
theorem dX7_settles_50 : decode cX7_settles 50 = .ok (.aload_n 0, 1) := by decide +kernel
theorem dX7_settles_51 : decode cX7_settles 51 = .ok (.getfield 100, 3) := by decide +kernel
theorem dX7_settles_54 : decode cX7_settles 54 = .ok (.iload 4, 2) := by decide +kernel
theorem dX7_settles_56 : decode cX7_settles 56 = .ok (.baload, 1) := by decide +kernel
theorem dX7_settles_57 : decode cX7_settles 57 = .ok (.ifCond .eq 23, 3) := by decide +kernel
theorem dX7_settles_60 : decode cX7_settles 60 = .ok (.aload_n 0, 1) := by decide +kernel
theorem dX7_settles_61 : decode cX7_settles 61 = .ok (.getfield 94, 3) := by decide +kernel
theorem dX7_settles_64 : decode cX7_settles 64 = .ok (.iload 4, 2) := by decide +kernel
theorem dX7_settles_66 : decode cX7_settles 66 = .ok (.laload, 1) := by decide +kernel
theorem dX7_settles_67 : decode cX7_settles 67 = .ok (.aload_n 0, 1) := by decide +kernel
theorem dX7_settles_68 : decode cX7_settles 68 = .ok (.getfield 73, 3) := by decide +kernel
theorem dX7_settles_71 : decode cX7_settles 71 = .ok (.i2l, 1) := by decide +kernel
theorem dX7_settles_72 : decode cX7_settles 72 = .ok (.lmul, 1) := by decide +kernel
theorem dX7_settles_73 : decode cX7_settles 73 = .ok (.ldc2_w 194, 3) := by decide +kernel
theorem dX7_settles_76 : decode cX7_settles 76 = .ok (.ldiv, 1) := by decide +kernel
theorem dX7_settles_77 : decode cX7_settles 77 = .ok (.goto 4, 3) := by decide +kernel
theorem dX7_settles_80 : decode cX7_settles 80 = .ok (.lconst 0, 1) := by decide +kernel
theorem dX7_settles_81 : decode cX7_settles 81 = .ok (.ladd, 1) := by decide +kernel
theorem dX7_settles_82 : decode cX7_settles 82 = .ok (.lastore, 1) := by decide +kernel
theorem dX7_settles_83 : decode cX7_settles 83 = .ok (.iinc 4 1, 3) := by decide +kernel
theorem dX7_settles_86 : decode cX7_settles 86 = .ok (.goto (-51), 3) := by decide +kernel
theorem dX7_settles_89 : decode cX7_settles 89 = .ok (.aload_n 0, 1) := by decide +kernel
theorem dX7_settles_90 : decode cX7_settles 90 = .ok (.iconst 0, 1) := by decide +kernel
theorem dX7_settles_91 : decode cX7_settles 91 = .ok (.invokevirtual 206, 3) := by decide +kernel
theorem dX7_settles_94 : decode cX7_settles 94 = .ok (.aload_n 0, 1) := by decide +kernel
theorem dX7_settles_95 : decode cX7_settles 95 = .ok (.iload_n 3, 1) := by decide +kernel
theorem dX7_settles_96 : decode cX7_settles 96 = .ok (.i2l, 1) := by decide +kernel
theorem dX7_settles_97 : decode cX7_settles 97 = .ok (.bipush 10, 2) := by decide +kernel
theorem dX7_settles_99 : decode cX7_settles 99 = .ok (.invokevirtual 190, 3) := by decide +kernel
theorem dX7_settles_102 : decode cX7_settles 102 = .ok (.iconst 0, 1) := by decide +kernel
theorem dX7_settles_103 : decode cX7_settles 103 = .ok (.istore 4, 2) := by decide +kernel
theorem dX7_settles_105 : decode cX7_settles 105 = .ok (.iload 4, 2) := by decide +kernel
theorem dX7_settles_107 : decode cX7_settles 107 = .ok (.bipush 10, 2) := by decide +kernel
theorem dX7_settles_109 : decode cX7_settles 109 = .ok (.if_icmp .ge 24, 3) := by decide +kernel
theorem dX7_settles_112 : decode cX7_settles 112 = .ok (.aload_n 0, 1) := by decide +kernel
theorem dX7_settles_113 : decode cX7_settles 113 = .ok (.getfield 106, 3) := by decide +kernel
theorem dX7_settles_116 : decode cX7_settles 116 = .ok (.iload 4, 2) := by decide +kernel
theorem dX7_settles_118 : decode cX7_settles 118 = .ok (.aload_n 0, 1) := by decide +kernel
theorem dX7_settles_119 : decode cX7_settles 119 = .ok (.getfield 94, 3) := by decide +kernel
theorem dX7_settles_122 : decode cX7_settles 122 = .ok (.iload 4, 2) := by decide +kernel
theorem dX7_settles_124 : decode cX7_settles 124 = .ok (.laload, 1) := by decide +kernel
theorem dX7_settles_125 : decode cX7_settles 125 = .ok (.lneg, 1) := by decide +kernel
theorem dX7_settles_126 : decode cX7_settles 126 = .ok (.lastore, 1) := by decide +kernel
theorem dX7_settles_127 : decode cX7_settles 127 = .ok (.iinc 4 1, 3) := by decide +kernel
theorem dX7_settles_130 : decode cX7_settles 130 = .ok (.goto (-25), 3) := by decide +kernel
theorem dX7_settles_133 : decode cX7_settles 133 = .ok (.iconst 0, 1) := by decide +kernel
theorem dX7_settles_134 : decode cX7_settles 134 = .ok (.istore 4, 2) := by decide +kernel
theorem dX7_settles_136 : decode cX7_settles 136 = .ok (.iload 4, 2) := by decide +kernel
theorem dX7_settles_138 : decode cX7_settles 138 = .ok (.bipush 20, 2) := by decide +kernel
theorem dX7_settles_140 : decode cX7_settles 140 = .ok (.if_icmp .ge 23, 3) := by decide +kernel
theorem dX7_settles_143 : decode cX7_settles 143 = .ok (.aload_n 0, 1) := by decide +kernel
theorem dX7_settles_144 : decode cX7_settles 144 = .ok (.getfield 91, 3) := by decide +kernel
theorem dX7_settles_147 : decode cX7_settles 147 = .ok (.iload 4, 2) := by decide +kernel
theorem dX7_settles_149 : decode cX7_settles 149 = .ok (.aload_n 0, 1) := by decide +kernel
theorem dX7_settles_150 : decode cX7_settles 150 = .ok (.getfield 88, 3) := by decide +kernel
theorem dX7_settles_153 : decode cX7_settles 153 = .ok (.iload 4, 2) := by decide +kernel
theorem dX7_settles_155 : decode cX7_settles 155 = .ok (.laload, 1) := by decide +kernel
theorem dX7_settles_156 : decode cX7_settles 156 = .ok (.lastore, 1) := by decide +kernel
theorem dX7_settles_157 : decode cX7_settles 157 = .ok (.iinc 4 1, 3) := by decide +kernel
theorem dX7_settles_160 : decode cX7_settles 160 = .ok (.goto (-24), 3) := by decide +kernel
theorem dX7_settles_163 : decode cX7_settles 163 = .ok (.aload_n 0, 1) := by decide +kernel
theorem dX7_settles_164 : decode cX7_settles 164 = .ok (.aload_n 0, 1) := by decide +kernel
theorem dX7_settles_165 : decode cX7_settles 165 = .ok (.iload_n 1, 1) := by decide +kernel
theorem dX7_settles_166 : decode cX7_settles 166 = .ok (.iload_n 2, 1) := by decide +kernel
theorem dX7_settles_167 : decode cX7_settles 167 = .ok (.invokevirtual 196, 3) := by decide +kernel
theorem dX7_settles_170 : decode cX7_settles 170 = .ok (.i2l, 1) := by decide +kernel
theorem dX7_settles_171 : decode cX7_settles 171 = .ok (.bipush 20, 2) := by decide +kernel
theorem dX7_settles_173 : decode cX7_settles 173 = .ok (.invokevirtual 190, 3) := by decide +kernel
theorem dX7_settles_176 : decode cX7_settles 176 = .ok (.lconst 0, 1) := by decide +kernel
theorem dX7_settles_177 : decode cX7_settles 177 = .ok (.lstore 4, 2) := by decide +kernel
theorem dX7_settles_179 : decode cX7_settles 179 = .ok (.iconst 0, 1) := by decide +kernel
theorem dX7_settles_180 : decode cX7_settles 180 = .ok (.istore 6, 2) := by decide +kernel
theorem dX7_settles_182 : decode cX7_settles 182 = .ok (.iload 6, 2) := by decide +kernel
theorem dX7_settles_184 : decode cX7_settles 184 = .ok (.bipush 10, 2) := by decide +kernel
theorem dX7_settles_186 : decode cX7_settles 186 = .ok (.if_icmp .ge 104, 3) := by decide +kernel
theorem dX7_settles_189 : decode cX7_settles 189 = .ok (.aload_n 0, 1) := by decide +kernel
theorem dX7_settles_190 : decode cX7_settles 190 = .ok (.getfield 94, 3) := by decide +kernel
theorem dX7_settles_193 : decode cX7_settles 193 = .ok (.bipush 10, 2) := by decide +kernel
theorem dX7_settles_195 : decode cX7_settles 195 = .ok (.iload 6, 2) := by decide +kernel
theorem dX7_settles_197 : decode cX7_settles 197 = .ok (.iadd, 1) := by decide +kernel
theorem dX7_settles_198 : decode cX7_settles 198 = .ok (.laload, 1) := by decide +kernel
theorem dX7_settles_199 : decode cX7_settles 199 = .ok (.lstore 7, 2) := by decide +kernel
theorem dX7_settles_201 : decode cX7_settles 201 = .ok (.aload_n 0, 1) := by decide +kernel
theorem dX7_settles_202 : decode cX7_settles 202 = .ok (.getfield 100, 3) := by decide +kernel
theorem dX7_settles_205 : decode cX7_settles 205 = .ok (.iload 6, 2) := by decide +kernel
theorem dX7_settles_207 : decode cX7_settles 207 = .ok (.baload, 1) := by decide +kernel
theorem dX7_settles_208 : decode cX7_settles 208 = .ok (.ifCond .ne 7, 3) := by decide +kernel
theorem dX7_settles_211 : decode cX7_settles 211 = .ok (.lconst 0, 1) := by decide +kernel
theorem dX7_settles_212 : decode cX7_settles 212 = .ok (.goto 28, 3) := by decide +kernel
theorem dX7_settles_215 : decode cX7_settles 215 = .ok (.lload 7, 2) := by decide +kernel
theorem dX7_settles_217 : decode cX7_settles 217 = .ok (.aload_n 0, 1) := by decide +kernel
theorem dX7_settles_218 : decode cX7_settles 218 = .ok (.getfield 103, 3) := by decide +kernel
theorem dX7_settles_221 : decode cX7_settles 221 = .ok (.iload 6, 2) := by decide +kernel
theorem dX7_settles_223 : decode cX7_settles 223 = .ok (.laload, 1) := by decide +kernel
theorem dX7_settles_224 : decode cX7_settles 224 = .ok (.lcmp, 1) := by decide +kernel
theorem dX7_settles_225 : decode cX7_settles 225 = .ok (.ifCond .ge 8, 3) := by decide +kernel
theorem dX7_settles_228 : decode cX7_settles 228 = .ok (.lload 7, 2) := by decide +kernel
theorem dX7_settles_230 : decode cX7_settles 230 = .ok (.goto 10, 3) := by decide +kernel
theorem dX7_settles_233 : decode cX7_settles 233 = .ok (.aload_n 0, 1) := by decide +kernel
theorem dX7_settles_234 : decode cX7_settles 234 = .ok (.getfield 103, 3) := by decide +kernel
theorem dX7_settles_237 : decode cX7_settles 237 = .ok (.iload 6, 2) := by decide +kernel
theorem dX7_settles_239 : decode cX7_settles 239 = .ok (.laload, 1) := by decide +kernel
theorem dX7_settles_240 : decode cX7_settles 240 = .ok (.lstore 9, 2) := by decide +kernel
theorem dX7_settles_242 : decode cX7_settles 242 = .ok (.aload_n 0, 1) := by decide +kernel
theorem dX7_settles_243 : decode cX7_settles 243 = .ok (.getfield 103, 3) := by decide +kernel
theorem dX7_settles_246 : decode cX7_settles 246 = .ok (.iload 6, 2) := by decide +kernel
theorem dX7_settles_248 : decode cX7_settles 248 = .ok (.dup2, 1) := by decide +kernel
theorem dX7_settles_249 : decode cX7_settles 249 = .ok (.laload, 1) := by decide +kernel
theorem dX7_settles_250 : decode cX7_settles 250 = .ok (.lload 9, 2) := by decide +kernel
theorem dX7_settles_252 : decode cX7_settles 252 = .ok (.lsub, 1) := by decide +kernel
theorem dX7_settles_253 : decode cX7_settles 253 = .ok (.lastore, 1) := by decide +kernel
theorem dX7_settles_254 : decode cX7_settles 254 = .ok (.lload 4, 2) := by decide +kernel
theorem dX7_settles_256 : decode cX7_settles 256 = .ok (.lload 9, 2) := by decide +kernel
theorem dX7_settles_258 : decode cX7_settles 258 = .ok (.ladd, 1) := by decide +kernel
theorem dX7_settles_259 : decode cX7_settles 259 = .ok (.lstore 4, 2) := by decide +kernel
theorem dX7_settles_261 : decode cX7_settles 261 = .ok (.aload_n 0, 1) := by decide +kernel
theorem dX7_settles_262 : decode cX7_settles 262 = .ok (.getfield 106, 3) := by decide +kernel
theorem dX7_settles_265 : decode cX7_settles 265 = .ok (.iload 6, 2) := by decide +kernel
theorem dX7_settles_267 : decode cX7_settles 267 = .ok (.dup2, 1) := by decide +kernel
theorem dX7_settles_268 : decode cX7_settles 268 = .ok (.laload, 1) := by decide +kernel
theorem dX7_settles_269 : decode cX7_settles 269 = .ok (.aload_n 0, 1) := by decide +kernel
theorem dX7_settles_270 : decode cX7_settles 270 = .ok (.getfield 94, 3) := by decide +kernel
theorem dX7_settles_273 : decode cX7_settles 273 = .ok (.iload 6, 2) := by decide +kernel
theorem dX7_settles_275 : decode cX7_settles 275 = .ok (.laload, 1) := by decide +kernel
theorem dX7_settles_276 : decode cX7_settles 276 = .ok (.lload 7, 2) := by decide +kernel
theorem dX7_settles_278 : decode cX7_settles 278 = .ok (.ladd, 1) := by decide +kernel
theorem dX7_settles_279 : decode cX7_settles 279 = .ok (.lload 9, 2) := by decide +kernel
theorem dX7_settles_281 : decode cX7_settles 281 = .ok (.lsub, 1) := by decide +kernel
theorem dX7_settles_282 : decode cX7_settles 282 = .ok (.ladd, 1) := by decide +kernel
theorem dX7_settles_283 : decode cX7_settles 283 = .ok (.lastore, 1) := by decide +kernel
theorem dX7_settles_284 : decode cX7_settles 284 = .ok (.iinc 6 1, 3) := by decide +kernel
theorem dX7_settles_287 : decode cX7_settles 287 = .ok (.goto (-105), 3) := by decide +kernel
theorem dX7_settles_290 : decode cX7_settles 290 = .ok (.aload_n 0, 1) := by decide +kernel
theorem dX7_settles_291 : decode cX7_settles 291 = .ok (.iconst 0, 1) := by decide +kernel
theorem dX7_settles_292 : decode cX7_settles 292 = .ok (.invokevirtual 206, 3) := by decide +kernel
theorem dX7_settles_295 : decode cX7_settles 295 = .ok (.aload_n 0, 1) := by decide +kernel
theorem dX7_settles_296 : decode cX7_settles 296 = .ok (.lload 4, 2) := by decide +kernel
theorem dX7_settles_298 : decode cX7_settles 298 = .ok (.bipush 10, 2) := by decide +kernel
theorem dX7_settles_300 : decode cX7_settles 300 = .ok (.invokevirtual 190, 3) := by decide +kernel
theorem dX7_settles_303 : decode cX7_settles 303 = .ok (.iconst 0, 1) := by decide +kernel
theorem dX7_settles_304 : decode cX7_settles 304 = .ok (.istore 6, 2) := by decide +kernel
theorem dX7_settles_306 : decode cX7_settles 306 = .ok (.iload 6, 2) := by decide +kernel
theorem dX7_settles_308 : decode cX7_settles 308 = .ok (.bipush 10, 2) := by decide +kernel
theorem dX7_settles_310 : decode cX7_settles 310 = .ok (.if_icmp .ge 26, 3) := by decide +kernel
theorem dX7_settles_313 : decode cX7_settles 313 = .ok (.aload_n 0, 1) := by decide +kernel
theorem dX7_settles_314 : decode cX7_settles 314 = .ok (.getfield 106, 3) := by decide +kernel
theorem dX7_settles_317 : decode cX7_settles 317 = .ok (.iload 6, 2) := by decide +kernel
theorem dX7_settles_319 : decode cX7_settles 319 = .ok (.dup2, 1) := by decide +kernel
theorem dX7_settles_320 : decode cX7_settles 320 = .ok (.laload, 1) := by decide +kernel
theorem dX7_settles_321 : decode cX7_settles 321 = .ok (.aload_n 0, 1) := by decide +kernel
theorem dX7_settles_322 : decode cX7_settles 322 = .ok (.getfield 94, 3) := by decide +kernel
theorem dX7_settles_325 : decode cX7_settles 325 = .ok (.iload 6, 2) := by decide +kernel
theorem dX7_settles_327 : decode cX7_settles 327 = .ok (.laload, 1) := by decide +kernel
theorem dX7_settles_328 : decode cX7_settles 328 = .ok (.ladd, 1) := by decide +kernel
theorem dX7_settles_329 : decode cX7_settles 329 = .ok (.lastore, 1) := by decide +kernel
theorem dX7_settles_330 : decode cX7_settles 330 = .ok (.iinc 6 1, 3) := by decide +kernel
theorem dX7_settles_333 : decode cX7_settles 333 = .ok (.goto (-27), 3) := by decide +kernel
theorem dX7_settles_336 : decode cX7_settles 336 = .ok (.return_, 1) := by decide +kernel
set_option maxRecDepth 20000 in
theorem ggX7_settlesTo_X7_settles : GoodIn wsX7_settlesTo wsX7_settles := goodIn_r _ [7, 1, 8, 9, 10, 11, 12, 13, 14, 15, 16, 17, 6, 18, 19, 20, 21, 22, 23, 24, 25, 26, 27, 28, 29, 30, 31, 32, 33, 34, 35, 36, 37, 38, 39, 40, 41, 42, 43, 44, 45, 46, 47, 48, 49, 50, 51, 52, 53, 54, 55, 56, 57, 58, 59, 60, 61, 62, 63, 64, 65, 66, 67, 68, 69, 70, 71, 72, 73, 74, 75, 76, 77, 78, 79, 80, 81, 82, 83, 84, 85, 86, 87, 88, 89, 90, 91, 92, 93, 94, 95, 96, 97, 98, 99, 100, 101, 102, 103, 104, 105, 106, 107, 108, 109, 110, 111, 112, 113, 114, 115, 116, 117, 118, 119, 120, 121, 122, 123, 124, 125, 126, 127, 128, 129] (by decide +kernel) (by decide +kernel)
set_option maxRecDepth 20000 in
theorem gX7_settlesTo_X7_settles : GoodIn wsX7_settlesTo (wsV RX7 210 RX7 yX7_settles wsX7_settles) := goodIn_app (goodIn_of _ (by decide +kernel)) ggX7_settlesTo_X7_settles
theorem dX7_settlesTo_0 : decode cX7_settlesTo 0 = .ok (.iconst 0, 1) := by decide +kernel
theorem dX7_settlesTo_1 : decode cX7_settlesTo 1 = .ok (.istore_n 3, 1) := by decide +kernel
theorem dX7_settlesTo_2 : decode cX7_settlesTo 2 = .ok (.iload_n 3, 1) := by decide +kernel
theorem dX7_settlesTo_3 : decode cX7_settlesTo 3 = .ok (.bipush 10, 2) := by decide +kernel
theorem dX7_settlesTo_5 : decode cX7_settlesTo 5 = .ok (.if_icmp .ge 16, 3) := by decide +kernel
theorem dX7_settlesTo_8 : decode cX7_settlesTo 8 = .ok (.aload_n 0, 1) := by decide +kernel
theorem dX7_settlesTo_9 : decode cX7_settlesTo 9 = .ok (.getfield 103, 3) := by decide +kernel
theorem dX7_settlesTo_12 : decode cX7_settlesTo 12 = .ok (.iload_n 3, 1) := by decide +kernel
theorem dX7_settlesTo_13 : decode cX7_settlesTo 13 = .ok (.lconst 0, 1) := by decide +kernel
theorem dX7_settlesTo_14 : decode cX7_settlesTo 14 = .ok (.lastore, 1) := by decide +kernel
theorem dX7_settlesTo_15 : decode cX7_settlesTo 15 = .ok (.iinc 3 1, 3) := by decide +kernel
theorem dX7_settlesTo_18 : decode cX7_settlesTo 18 = .ok (.goto (-16), 3) := by decide +kernel
theorem dX7_settlesTo_21 : decode cX7_settlesTo 21 = .ok (.aload_n 0, 1) := by decide +kernel
theorem dX7_settlesTo_22 : decode cX7_settlesTo 22 = .ok (.getfield 52, 3) := by decide +kernel
theorem dX7_settlesTo_25 : decode cX7_settlesTo 25 = .ok (.iload_n 1, 1) := by decide +kernel
theorem dX7_settlesTo_26 : decode cX7_settlesTo 26 = .ok (.iaload, 1) := by decide +kernel
theorem dX7_settlesTo_27 : decode cX7_settlesTo 27 = .ok (.istore_n 3, 1) := by decide +kernel
theorem dX7_settlesTo_28 : decode cX7_settlesTo 28 = .ok (.iload_n 3, 1) := by decide +kernel
theorem dX7_settlesTo_29 : decode cX7_settlesTo 29 = .ok (.iload_n 2, 1) := by decide +kernel
theorem dX7_settlesTo_30 : decode cX7_settlesTo 30 = .ok (.if_icmp .gt 15, 3) := by decide +kernel
theorem dX7_settlesTo_33 : decode cX7_settlesTo 33 = .ok (.aload_n 0, 1) := by decide +kernel
theorem dX7_settlesTo_34 : decode cX7_settlesTo 34 = .ok (.iload_n 1, 1) := by decide +kernel
theorem dX7_settlesTo_35 : decode cX7_settlesTo 35 = .ok (.iload_n 3, 1) := by decide +kernel
theorem dX7_settlesTo_36 : decode cX7_settlesTo 36 = .ok (.invokevirtual 210, 3) := by decide +kernel
theorem dX7_settlesTo_39 : decode cX7_settlesTo 39 = .ok (.iinc 3 1, 3) := by decide +kernel
theorem dX7_settlesTo_42 : decode cX7_settlesTo 42 = .ok (.goto (-14), 3) := by decide +kernel
theorem dX7_settlesTo_45 : decode cX7_settlesTo 45 = .ok (.return_, 1) := by decide +kernel
set_option maxRecDepth 20000 in
theorem ggX7_due_X7_isUnitMonth : GoodIn wsX7_due wsX7_isUnitMonth := goodIn_r _ [6, 7, 8, 9, 10, 11, 5, 12, 111, 112, 113, 114, 115, 116, 117, 118, 119, 120, 121, 122, 123, 124, 125, 126, 127, 128, 129, 130, 131, 132, 133, 134, 135, 136, 137, 138, 139, 140, 141, 142, 143, 144, 145, 146, 147, 148, 149, 150] (by decide +kernel) (by decide +kernel)
set_option maxRecDepth 20000 in
theorem gX7_due_X7_isUnitMonth : GoodIn wsX7_due (wsV RX7 181 RX7 yX7_isUnitMonth wsX7_isUnitMonth) := goodIn_app (goodIn_of _ (by decide +kernel)) ggX7_due_X7_isUnitMonth
set_option maxRecDepth 20000 in
theorem ggX7_due_X7_isOwner : GoodIn wsX7_due wsX7_isOwner := goodIn_r _ [15, 10, 11, 5, 12] (by decide +kernel) (by decide +kernel)
set_option maxRecDepth 20000 in
theorem gX7_due_X7_isOwner : GoodIn wsX7_due (va_wsS RX7 132 yX7_isOwner wsX7_isOwner) := goodIn_app (goodIn_of _ (by decide +kernel)) ggX7_due_X7_isOwner
set_option maxRecDepth 20000 in
theorem ggX7_due_X7_goes : GoodIn wsX7_due wsX7_goes := goodIn_r _ [19, 20, 111, 112, 113, 114, 115, 116, 117, 118, 119, 120, 121, 122, 123, 124, 125, 126, 127, 128, 129, 130, 131, 132, 133, 134, 135, 136, 137, 138, 139, 140, 141, 142, 143, 144, 145, 146, 147, 148, 149, 150] (by decide +kernel) (by decide +kernel)
set_option maxRecDepth 20000 in
theorem gX7_due_X7_goes : GoodIn wsX7_due (wsV RX7 128 RX7 yX7_goes wsX7_goes) := goodIn_app (goodIn_of _ (by decide +kernel)) ggX7_due_X7_goes
set_option maxRecDepth 20000 in
theorem ggX7_due_X7_settlesTo : GoodIn wsX7_due wsX7_settlesTo := goodIn_r _ [24, 25, 8, 26, 27, 28, 5, 29, 30, 31, 32, 33, 1, 34, 35, 36, 37, 38, 39, 40, 41, 42, 43, 44, 45, 46, 47, 48, 49, 50, 51, 52, 53, 54, 55, 56, 57, 58, 59, 60, 61, 62, 63, 64, 65, 66, 67, 68, 69, 70, 71, 72, 73, 74, 75, 76, 77, 78, 79, 80, 81, 82, 83, 84, 85, 86, 87, 88, 89, 90, 91, 92, 93, 94, 95, 96, 97, 98, 99, 100, 101, 102, 103, 104, 105, 106, 107, 108, 109, 110, 111, 112, 113, 114, 115, 116, 117, 118, 119, 120, 121, 122, 123, 124, 125, 126, 127, 128, 129, 130, 131, 132, 133, 134, 135, 136, 137, 138, 139, 140, 141, 142, 143, 144, 145, 146, 147, 148, 149, 150] (by decide +kernel) (by decide +kernel)
set_option maxRecDepth 20000 in
theorem gX7_due_X7_settlesTo : GoodIn wsX7_due (wsV RX7 213 RX7 yX7_settlesTo wsX7_settlesTo) := goodIn_app (goodIn_of _ (by decide +kernel)) ggX7_due_X7_settlesTo
theorem dX7_due_0 : decode cX7_due 0 = .ok (.aload_n 0, 1) := by decide +kernel
theorem dX7_due_1 : decode cX7_due 1 = .ok (.aload_n 0, 1) := by decide +kernel
theorem dX7_due_2 : decode cX7_due 2 = .ok (.iload_n 1, 1) := by decide +kernel
theorem dX7_due_3 : decode cX7_due 3 = .ok (.iload_n 2, 1) := by decide +kernel
theorem dX7_due_4 : decode cX7_due 4 = .ok (.invokevirtual 181, 3) := by decide +kernel
theorem dX7_due_7 : decode cX7_due 7 = .ok (.ifCond .eq 14, 3) := by decide +kernel
theorem dX7_due_10 : decode cX7_due 10 = .ok (.iload_n 3, 1) := by decide +kernel
theorem dX7_due_11 : decode cX7_due 11 = .ok (.invokestatic 132, 3) := by decide +kernel
theorem dX7_due_14 : decode cX7_due 14 = .ok (.ifCond .eq 7, 3) := by decide +kernel
theorem dX7_due_17 : decode cX7_due 17 = .ok (.iconst 1, 1) := by decide +kernel
theorem dX7_due_18 : decode cX7_due 18 = .ok (.goto 4, 3) := by decide +kernel
theorem dX7_due_21 : decode cX7_due 21 = .ok (.iconst 0, 1) := by decide +kernel
theorem dX7_due_22 : decode cX7_due 22 = .ok (.iconst 1, 1) := by decide +kernel
theorem dX7_due_23 : decode cX7_due 23 = .ok (.iconst 1, 1) := by decide +kernel
theorem dX7_due_24 : decode cX7_due 24 = .ok (.invokevirtual 128, 3) := by decide +kernel
theorem dX7_due_27 : decode cX7_due 27 = .ok (.ifCond .ne 5, 3) := by decide +kernel
theorem dX7_due_30 : decode cX7_due 30 = .ok (.iconst 0, 1) := by decide +kernel
theorem dX7_due_31 : decode cX7_due 31 = .ok (.ireturn, 1) := by decide +kernel
theorem dX7_due_32 : decode cX7_due 32 = .ok (.aload_n 0, 1) := by decide +kernel
theorem dX7_due_33 : decode cX7_due 33 = .ok (.iload_n 1, 1) := by decide +kernel
theorem dX7_due_34 : decode cX7_due 34 = .ok (.iload_n 2, 1) := by decide +kernel
theorem dX7_due_35 : decode cX7_due 35 = .ok (.invokevirtual 213, 3) := by decide +kernel
theorem dX7_due_38 : decode cX7_due 38 = .ok (.aload_n 0, 1) := by decide +kernel
theorem dX7_due_39 : decode cX7_due 39 = .ok (.getfield 106, 3) := by decide +kernel
theorem dX7_due_42 : decode cX7_due 42 = .ok (.iload_n 3, 1) := by decide +kernel
theorem dX7_due_43 : decode cX7_due 43 = .ok (.laload, 1) := by decide +kernel
theorem dX7_due_44 : decode cX7_due 44 = .ok (.l2i, 1) := by decide +kernel
theorem dX7_due_45 : decode cX7_due 45 = .ok (.ireturn, 1) := by decide +kernel
set_option maxRecDepth 20000 in
theorem ggX7_balance_X7_isUnitMonth : GoodIn wsX7_balance wsX7_isUnitMonth := goodIn_r _ [6, 7, 8, 9, 10, 11, 5, 12, 111, 112, 113, 114, 115, 116, 117, 118, 119, 120, 121, 122, 123, 124, 125, 126, 127, 128, 129, 130, 131, 132, 133, 134, 135, 136, 137, 138, 139, 140, 141, 142, 143, 144, 145, 146, 147, 148, 149, 150] (by decide +kernel) (by decide +kernel)
set_option maxRecDepth 20000 in
theorem gX7_balance_X7_isUnitMonth : GoodIn wsX7_balance (wsV RX7 181 RX7 yX7_isUnitMonth wsX7_isUnitMonth) := goodIn_app (goodIn_of _ (by decide +kernel)) ggX7_balance_X7_isUnitMonth
set_option maxRecDepth 20000 in
theorem ggX7_balance_X7_isOwner : GoodIn wsX7_balance wsX7_isOwner := goodIn_r _ [15, 10, 11, 5, 12] (by decide +kernel) (by decide +kernel)
set_option maxRecDepth 20000 in
theorem gX7_balance_X7_isOwner : GoodIn wsX7_balance (va_wsS RX7 132 yX7_isOwner wsX7_isOwner) := goodIn_app (goodIn_of _ (by decide +kernel)) ggX7_balance_X7_isOwner
set_option maxRecDepth 20000 in
theorem ggX7_balance_X7_goes : GoodIn wsX7_balance wsX7_goes := goodIn_r _ [19, 20, 111, 112, 113, 114, 115, 116, 117, 118, 119, 120, 121, 122, 123, 124, 125, 126, 127, 128, 129, 130, 131, 132, 133, 134, 135, 136, 137, 138, 139, 140, 141, 142, 143, 144, 145, 146, 147, 148, 149, 150] (by decide +kernel) (by decide +kernel)
set_option maxRecDepth 20000 in
theorem gX7_balance_X7_goes : GoodIn wsX7_balance (wsV RX7 128 RX7 yX7_goes wsX7_goes) := goodIn_app (goodIn_of _ (by decide +kernel)) ggX7_balance_X7_goes
set_option maxRecDepth 20000 in
theorem ggX7_balance_X7_settlesTo : GoodIn wsX7_balance wsX7_settlesTo := goodIn_r _ [24, 1, 8, 25, 26, 27, 5, 28, 29, 30, 31, 32, 33, 34, 35, 36, 37, 38, 39, 40, 41, 42, 43, 44, 45, 46, 47, 48, 49, 50, 51, 52, 53, 54, 55, 56, 57, 58, 59, 60, 61, 62, 63, 64, 65, 66, 67, 68, 69, 70, 71, 72, 73, 74, 75, 76, 77, 78, 79, 80, 81, 82, 83, 84, 85, 86, 87, 88, 89, 90, 91, 92, 93, 94, 95, 96, 97, 98, 99, 100, 101, 102, 103, 104, 105, 106, 107, 108, 109, 110, 111, 112, 113, 114, 115, 116, 117, 118, 119, 120, 121, 122, 123, 124, 125, 126, 127, 128, 129, 130, 131, 132, 133, 134, 135, 136, 137, 138, 139, 140, 141, 142, 143, 144, 145, 146, 147, 148, 149, 150] (by decide +kernel) (by decide +kernel)
set_option maxRecDepth 20000 in
theorem gX7_balance_X7_settlesTo : GoodIn wsX7_balance (wsV RX7 213 RX7 yX7_settlesTo wsX7_settlesTo) := goodIn_app (goodIn_of _ (by decide +kernel)) ggX7_balance_X7_settlesTo
theorem dX7_balance_0 : decode cX7_balance 0 = .ok (.aload_n 0, 1) := by decide +kernel
theorem dX7_balance_1 : decode cX7_balance 1 = .ok (.aload_n 0, 1) := by decide +kernel
theorem dX7_balance_2 : decode cX7_balance 2 = .ok (.iload_n 1, 1) := by decide +kernel
theorem dX7_balance_3 : decode cX7_balance 3 = .ok (.iload_n 2, 1) := by decide +kernel
theorem dX7_balance_4 : decode cX7_balance 4 = .ok (.invokevirtual 181, 3) := by decide +kernel
theorem dX7_balance_7 : decode cX7_balance 7 = .ok (.ifCond .eq 14, 3) := by decide +kernel
theorem dX7_balance_10 : decode cX7_balance 10 = .ok (.iload_n 3, 1) := by decide +kernel
theorem dX7_balance_11 : decode cX7_balance 11 = .ok (.invokestatic 132, 3) := by decide +kernel
theorem dX7_balance_14 : decode cX7_balance 14 = .ok (.ifCond .eq 7, 3) := by decide +kernel
theorem dX7_balance_17 : decode cX7_balance 17 = .ok (.iconst 1, 1) := by decide +kernel
theorem dX7_balance_18 : decode cX7_balance 18 = .ok (.goto 4, 3) := by decide +kernel
theorem dX7_balance_21 : decode cX7_balance 21 = .ok (.iconst 0, 1) := by decide +kernel
theorem dX7_balance_22 : decode cX7_balance 22 = .ok (.iconst 1, 1) := by decide +kernel
theorem dX7_balance_23 : decode cX7_balance 23 = .ok (.iconst 1, 1) := by decide +kernel
theorem dX7_balance_24 : decode cX7_balance 24 = .ok (.invokevirtual 128, 3) := by decide +kernel
theorem dX7_balance_27 : decode cX7_balance 27 = .ok (.ifCond .ne 5, 3) := by decide +kernel
theorem dX7_balance_30 : decode cX7_balance 30 = .ok (.lconst 0, 1) := by decide +kernel
theorem dX7_balance_31 : decode cX7_balance 31 = .ok (.lreturn, 1) := by decide +kernel
theorem dX7_balance_32 : decode cX7_balance 32 = .ok (.aload_n 0, 1) := by decide +kernel
theorem dX7_balance_33 : decode cX7_balance 33 = .ok (.iload_n 1, 1) := by decide +kernel
theorem dX7_balance_34 : decode cX7_balance 34 = .ok (.iload_n 2, 1) := by decide +kernel
theorem dX7_balance_35 : decode cX7_balance 35 = .ok (.invokevirtual 213, 3) := by decide +kernel
theorem dX7_balance_38 : decode cX7_balance 38 = .ok (.aload_n 0, 1) := by decide +kernel
theorem dX7_balance_39 : decode cX7_balance 39 = .ok (.getfield 103, 3) := by decide +kernel
theorem dX7_balance_42 : decode cX7_balance 42 = .ok (.iload_n 3, 1) := by decide +kernel
theorem dX7_balance_43 : decode cX7_balance 43 = .ok (.laload, 1) := by decide +kernel
theorem dX7_balance_44 : decode cX7_balance 44 = .ok (.lreturn, 1) := by decide +kernel
set_option maxRecDepth 20000 in
theorem ggX7_agrees_X7_isUnitMonth : GoodIn wsX7_agrees wsX7_isUnitMonth := goodIn_r _ [6, 7, 8, 9, 10, 11, 5, 12, 108, 109, 110, 111, 112, 113, 114, 115, 116, 117, 118, 119, 120, 121, 122, 123, 124, 125, 126, 127, 128, 129, 130, 131, 132, 133, 134, 135, 136, 137, 138, 139, 140, 141, 142, 143, 144, 145, 146, 147] (by decide +kernel) (by decide +kernel)
set_option maxRecDepth 20000 in
theorem gX7_agrees_X7_isUnitMonth : GoodIn wsX7_agrees (wsV RX7 181 RX7 yX7_isUnitMonth wsX7_isUnitMonth) := goodIn_app (goodIn_of _ (by decide +kernel)) ggX7_agrees_X7_isUnitMonth
set_option maxRecDepth 20000 in
theorem ggX7_agrees_X7_goes : GoodIn wsX7_agrees wsX7_goes := goodIn_r _ [16, 17, 108, 109, 110, 111, 112, 113, 114, 115, 116, 117, 118, 119, 120, 121, 122, 123, 124, 125, 126, 127, 128, 129, 130, 131, 132, 133, 134, 135, 136, 137, 138, 139, 140, 141, 142, 143, 144, 145, 146, 147] (by decide +kernel) (by decide +kernel)
set_option maxRecDepth 20000 in
theorem gX7_agrees_X7_goes : GoodIn wsX7_agrees (wsV RX7 128 RX7 yX7_goes wsX7_goes) := goodIn_app (goodIn_of _ (by decide +kernel)) ggX7_agrees_X7_goes
set_option maxRecDepth 20000 in
theorem ggX7_agrees_X7_settlesTo : GoodIn wsX7_agrees wsX7_settlesTo := goodIn_r _ [21, 22, 8, 23, 24, 25, 5, 26, 27, 28, 29, 30, 1, 31, 32, 33, 34, 35, 36, 37, 38, 39, 40, 41, 42, 43, 44, 45, 46, 47, 48, 49, 50, 51, 52, 53, 54, 55, 56, 57, 58, 59, 60, 61, 62, 63, 64, 65, 66, 67, 68, 69, 70, 71, 72, 73, 74, 75, 76, 77, 78, 79, 80, 81, 82, 83, 84, 85, 86, 87, 88, 89, 90, 91, 92, 93, 94, 95, 96, 97, 98, 99, 100, 101, 102, 103, 104, 105, 106, 107, 108, 109, 110, 111, 112, 113, 114, 115, 116, 117, 118, 119, 120, 121, 122, 123, 124, 125, 126, 127, 128, 129, 130, 131, 132, 133, 134, 135, 136, 137, 138, 139, 140, 141, 142, 143, 144, 145, 146, 147] (by decide +kernel) (by decide +kernel)
set_option maxRecDepth 20000 in
theorem gX7_agrees_X7_settlesTo : GoodIn wsX7_agrees (wsV RX7 213 RX7 yX7_settlesTo wsX7_settlesTo) := goodIn_app (goodIn_of _ (by decide +kernel)) ggX7_agrees_X7_settlesTo
set_option maxRecDepth 20000 in
theorem ggX7_agrees_X7_revenueOf : GoodIn wsX7_agrees wsX7_revenueOf := goodIn_r _ [101, 71, 72, 73, 102, 30, 103, 104, 105, 5, 106, 107, 108, 109, 110, 111, 112, 113, 114, 115, 116, 117, 118, 119, 120, 121, 122, 123, 124, 125, 126, 127, 128, 129, 130, 131, 132, 133, 134, 135, 136, 137, 138, 139, 140, 141, 142, 143, 144, 145, 146, 147] (by decide +kernel) (by decide +kernel)
set_option maxRecDepth 20000 in
theorem gX7_agrees_X7_revenueOf : GoodIn wsX7_agrees (wsV RX7 196 RX7 yX7_revenueOf wsX7_revenueOf) := goodIn_app (goodIn_of _ (by decide +kernel)) ggX7_agrees_X7_revenueOf
set_option maxRecDepth 20000 in
theorem ggX7_agrees_X7_costOf : GoodIn wsX7_agrees wsX7_costOf := goodIn_r _ [86, 71, 72, 87, 108, 109, 110, 111, 112, 113, 114, 115, 116, 117, 118, 119, 120, 121, 122, 123, 124, 125, 126, 127, 128, 129, 130, 131, 132, 133, 134, 135, 136, 137, 138, 139, 140, 141, 142, 143, 144, 145, 146, 147] (by decide +kernel) (by decide +kernel)
set_option maxRecDepth 20000 in
theorem gX7_agrees_X7_costOf : GoodIn wsX7_agrees (wsV RX7 203 RX7 yX7_costOf wsX7_costOf) := goodIn_app (goodIn_of _ (by decide +kernel)) ggX7_agrees_X7_costOf
theorem dX7_agrees_0 : decode cX7_agrees 0 = .ok (.aload_n 0, 1) := by decide +kernel
theorem dX7_agrees_1 : decode cX7_agrees 1 = .ok (.aload_n 0, 1) := by decide +kernel
theorem dX7_agrees_2 : decode cX7_agrees 2 = .ok (.iload_n 1, 1) := by decide +kernel
theorem dX7_agrees_3 : decode cX7_agrees 3 = .ok (.iload_n 2, 1) := by decide +kernel
theorem dX7_agrees_4 : decode cX7_agrees 4 = .ok (.invokevirtual 181, 3) := by decide +kernel
theorem dX7_agrees_7 : decode cX7_agrees 7 = .ok (.iconst 1, 1) := by decide +kernel
theorem dX7_agrees_8 : decode cX7_agrees 8 = .ok (.iconst 1, 1) := by decide +kernel
theorem dX7_agrees_9 : decode cX7_agrees 9 = .ok (.invokevirtual 128, 3) := by decide +kernel
theorem dX7_agrees_12 : decode cX7_agrees 12 = .ok (.ifCond .ne 5, 3) := by decide +kernel
theorem dX7_agrees_15 : decode cX7_agrees 15 = .ok (.iconst 0, 1) := by decide +kernel
theorem dX7_agrees_16 : decode cX7_agrees 16 = .ok (.ireturn, 1) := by decide +kernel
theorem dX7_agrees_17 : decode cX7_agrees 17 = .ok (.aload_n 0, 1) := by decide +kernel
theorem dX7_agrees_18 : decode cX7_agrees 18 = .ok (.iload_n 1, 1) := by decide +kernel
theorem dX7_agrees_19 : decode cX7_agrees 19 = .ok (.iload_n 2, 1) := by decide +kernel
theorem dX7_agrees_20 : decode cX7_agrees 20 = .ok (.invokevirtual 213, 3) := by decide +kernel
theorem dX7_agrees_23 : decode cX7_agrees 23 = .ok (.lconst 0, 1) := by decide +kernel
theorem dX7_agrees_24 : decode cX7_agrees 24 = .ok (.lstore_n 3, 1) := by decide +kernel
theorem dX7_agrees_25 : decode cX7_agrees 25 = .ok (.iconst 0, 1) := by decide +kernel
theorem dX7_agrees_26 : decode cX7_agrees 26 = .ok (.istore 5, 2) := by decide +kernel
theorem dX7_agrees_28 : decode cX7_agrees 28 = .ok (.iload 5, 2) := by decide +kernel
theorem dX7_agrees_30 : decode cX7_agrees 30 = .ok (.bipush 10, 2) := by decide +kernel
theorem dX7_agrees_32 : decode cX7_agrees 32 = .ok (.if_icmp .ge 19, 3) := by decide +kernel
theorem dX7_agrees_35 : decode cX7_agrees 35 = .ok (.lload_n 3, 1) := by decide +kernel
theorem dX7_agrees_36 : decode cX7_agrees 36 = .ok (.aload_n 0, 1) := by decide +kernel
theorem dX7_agrees_37 : decode cX7_agrees 37 = .ok (.getfield 106, 3) := by decide +kernel
theorem dX7_agrees_40 : decode cX7_agrees 40 = .ok (.iload 5, 2) := by decide +kernel
theorem dX7_agrees_42 : decode cX7_agrees 42 = .ok (.laload, 1) := by decide +kernel
theorem dX7_agrees_43 : decode cX7_agrees 43 = .ok (.ladd, 1) := by decide +kernel
theorem dX7_agrees_44 : decode cX7_agrees 44 = .ok (.lstore_n 3, 1) := by decide +kernel
theorem dX7_agrees_45 : decode cX7_agrees 45 = .ok (.iinc 5 1, 3) := by decide +kernel
theorem dX7_agrees_48 : decode cX7_agrees 48 = .ok (.goto (-20), 3) := by decide +kernel
theorem dX7_agrees_51 : decode cX7_agrees 51 = .ok (.lload_n 3, 1) := by decide +kernel
theorem dX7_agrees_52 : decode cX7_agrees 52 = .ok (.aload_n 0, 1) := by decide +kernel
theorem dX7_agrees_53 : decode cX7_agrees 53 = .ok (.iload_n 1, 1) := by decide +kernel
theorem dX7_agrees_54 : decode cX7_agrees 54 = .ok (.iload_n 2, 1) := by decide +kernel
theorem dX7_agrees_55 : decode cX7_agrees 55 = .ok (.invokevirtual 196, 3) := by decide +kernel
theorem dX7_agrees_58 : decode cX7_agrees 58 = .ok (.aload_n 0, 1) := by decide +kernel
theorem dX7_agrees_59 : decode cX7_agrees 59 = .ok (.iload_n 1, 1) := by decide +kernel
theorem dX7_agrees_60 : decode cX7_agrees 60 = .ok (.iload_n 2, 1) := by decide +kernel
theorem dX7_agrees_61 : decode cX7_agrees 61 = .ok (.invokevirtual 203, 3) := by decide +kernel
theorem dX7_agrees_64 : decode cX7_agrees 64 = .ok (.isub, 1) := by decide +kernel
theorem dX7_agrees_65 : decode cX7_agrees 65 = .ok (.i2l, 1) := by decide +kernel
theorem dX7_agrees_66 : decode cX7_agrees 66 = .ok (.lcmp, 1) := by decide +kernel
theorem dX7_agrees_67 : decode cX7_agrees 67 = .ok (.ifCond .ne 7, 3) := by decide +kernel
theorem dX7_agrees_70 : decode cX7_agrees 70 = .ok (.iconst 1, 1) := by decide +kernel
theorem dX7_agrees_71 : decode cX7_agrees 71 = .ok (.goto 4, 3) := by decide +kernel
theorem dX7_agrees_74 : decode cX7_agrees 74 = .ok (.iconst 0, 1) := by decide +kernel
theorem dX7_agrees_75 : decode cX7_agrees 75 = .ok (.ireturn, 1) := by decide +kernel
set_option maxRecDepth 20000 in
theorem ggX7_suspend_X7_isOwner : GoodIn wsX7_suspend wsX7_isOwner := goodIn_r _ [5, 6, 7, 4, 8] (by decide +kernel) (by decide +kernel)
set_option maxRecDepth 20000 in
theorem gX7_suspend_X7_isOwner : GoodIn wsX7_suspend (va_wsS RX7 132 yX7_isOwner wsX7_isOwner) := goodIn_app (goodIn_of _ (by decide +kernel)) ggX7_suspend_X7_isOwner
set_option maxRecDepth 20000 in
theorem ggX7_suspend_X7_goes : GoodIn wsX7_suspend wsX7_goes := goodIn_r _ [12, 13, 14, 15, 16, 17, 18, 19, 20, 21, 22, 23, 24, 25, 26, 27, 28, 29, 30, 31, 32, 33, 34, 35, 36, 37, 38, 39, 40, 41, 42, 43, 44, 45, 46, 47, 48, 49, 50, 51, 52, 53] (by decide +kernel) (by decide +kernel)
set_option maxRecDepth 20000 in
theorem gX7_suspend_X7_goes : GoodIn wsX7_suspend (wsV RX7 128 RX7 yX7_goes wsX7_goes) := goodIn_app (goodIn_of _ (by decide +kernel)) ggX7_suspend_X7_goes
theorem dX7_suspend_0 : decode cX7_suspend 0 = .ok (.aload_n 0, 1) := by decide +kernel
theorem dX7_suspend_1 : decode cX7_suspend 1 = .ok (.iload_n 1, 1) := by decide +kernel
theorem dX7_suspend_2 : decode cX7_suspend 2 = .ok (.invokestatic 132, 3) := by decide +kernel
theorem dX7_suspend_5 : decode cX7_suspend 5 = .ok (.iconst 1, 1) := by decide +kernel
theorem dX7_suspend_6 : decode cX7_suspend 6 = .ok (.iconst 1, 1) := by decide +kernel
theorem dX7_suspend_7 : decode cX7_suspend 7 = .ok (.invokevirtual 128, 3) := by decide +kernel
theorem dX7_suspend_10 : decode cX7_suspend 10 = .ok (.ifCond .ne 5, 3) := by decide +kernel
theorem dX7_suspend_13 : decode cX7_suspend 13 = .ok (.iconst 0, 1) := by decide +kernel
theorem dX7_suspend_14 : decode cX7_suspend 14 = .ok (.ireturn, 1) := by decide +kernel
theorem dX7_suspend_15 : decode cX7_suspend 15 = .ok (.aload_n 0, 1) := by decide +kernel
theorem dX7_suspend_16 : decode cX7_suspend 16 = .ok (.getfield 80, 3) := by decide +kernel
theorem dX7_suspend_19 : decode cX7_suspend 19 = .ok (.iload_n 1, 1) := by decide +kernel
theorem dX7_suspend_20 : decode cX7_suspend 20 = .ok (.baload, 1) := by decide +kernel
theorem dX7_suspend_21 : decode cX7_suspend 21 = .ok (.istore_n 3, 1) := by decide +kernel
theorem dX7_suspend_22 : decode cX7_suspend 22 = .ok (.aload_n 0, 1) := by decide +kernel
theorem dX7_suspend_23 : decode cX7_suspend 23 = .ok (.getfield 80, 3) := by decide +kernel
theorem dX7_suspend_26 : decode cX7_suspend 26 = .ok (.iload_n 1, 1) := by decide +kernel
theorem dX7_suspend_27 : decode cX7_suspend 27 = .ok (.iload_n 2, 1) := by decide +kernel
theorem dX7_suspend_28 : decode cX7_suspend 28 = .ok (.bastore, 1) := by decide +kernel
theorem dX7_suspend_29 : decode cX7_suspend 29 = .ok (.iload_n 3, 1) := by decide +kernel
theorem dX7_suspend_30 : decode cX7_suspend 30 = .ok (.ireturn, 1) := by decide +kernel
set_option maxRecDepth 20000 in
theorem ggX7_least_X7_isBetween : GoodIn wsX7_least wsX7_isBetween := goodIn_r _ [6] (by decide +kernel) (by decide +kernel)
set_option maxRecDepth 20000 in
theorem gX7_least_X7_isBetween : GoodIn wsX7_least (va_wsS RX7 115 yX7_isBetween wsX7_isBetween) := goodIn_app (goodIn_of _ (by decide +kernel)) ggX7_least_X7_isBetween
set_option maxRecDepth 20000 in
theorem ggX7_least_X7_goes : GoodIn wsX7_least wsX7_goes := goodIn_r _ [10, 11, 12, 13, 14, 15, 16, 17, 18, 19, 20, 21, 22, 23, 24, 25, 26, 27, 28, 29, 30, 31, 32, 33, 34, 35, 36, 37, 38, 39, 40, 41, 42, 43, 44, 45, 46, 47, 48, 49, 50, 51] (by decide +kernel) (by decide +kernel)
set_option maxRecDepth 20000 in
theorem gX7_least_X7_goes : GoodIn wsX7_least (wsV RX7 128 RX7 yX7_goes wsX7_goes) := goodIn_app (goodIn_of _ (by decide +kernel)) ggX7_least_X7_goes
theorem dX7_least_0 : decode cX7_least 0 = .ok (.aload_n 0, 1) := by decide +kernel
theorem dX7_least_1 : decode cX7_least 1 = .ok (.iload_n 1, 1) := by decide +kernel
theorem dX7_least_2 : decode cX7_least 2 = .ok (.iconst 1, 1) := by decide +kernel
theorem dX7_least_3 : decode cX7_least 3 = .ok (.ldc 216, 2) := by decide +kernel
theorem dX7_least_5 : decode cX7_least 5 = .ok (.invokestatic 115, 3) := by decide +kernel
theorem dX7_least_8 : decode cX7_least 8 = .ok (.iconst 1, 1) := by decide +kernel
theorem dX7_least_9 : decode cX7_least 9 = .ok (.iconst 1, 1) := by decide +kernel
theorem dX7_least_10 : decode cX7_least 10 = .ok (.invokevirtual 128, 3) := by decide +kernel
theorem dX7_least_13 : decode cX7_least 13 = .ok (.ifCond .ne 5, 3) := by decide +kernel
theorem dX7_least_16 : decode cX7_least 16 = .ok (.iconst 0, 1) := by decide +kernel
theorem dX7_least_17 : decode cX7_least 17 = .ok (.ireturn, 1) := by decide +kernel
theorem dX7_least_18 : decode cX7_least 18 = .ok (.aload_n 0, 1) := by decide +kernel
theorem dX7_least_19 : decode cX7_least 19 = .ok (.getfield 77, 3) := by decide +kernel
