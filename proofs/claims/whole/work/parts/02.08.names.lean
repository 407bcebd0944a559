theorem dX7_oil_100 : decode cX7_oil 100 = .ok (.iload_n 1, 1) := by decide +kernel
theorem dX7_oil_101 : decode cX7_oil 101 = .ok (.imul, 1) := by decide +kernel
theorem dX7_oil_102 : decode cX7_oil 102 = .ok (.iload_n 2, 1) := by decide +kernel
theorem dX7_oil_103 : decode cX7_oil 103 = .ok (.iadd, 1) := by decide +kernel
theorem dX7_oil_104 : decode cX7_oil 104 = .ok (.iload_n 3, 1) := by decide +kernel
theorem dX7_oil_105 : decode cX7_oil 105 = .ok (.iastore, 1) := by decide +kernel
theorem dX7_oil_106 : decode cX7_oil 106 = .ok (.aload_n 0, 1) := by decide +kernel
theorem dX7_oil_107 : decode cX7_oil 107 = .ok (.getfield 61, 3) := by decide +kernel
theorem dX7_oil_110 : decode cX7_oil 110 = .ok (.bipush 61, 2) := by decide +kernel
theorem dX7_oil_112 : decode cX7_oil 112 = .ok (.iload_n 1, 1) := by decide +kernel
theorem dX7_oil_113 : decode cX7_oil 113 = .ok (.imul, 1) := by decide +kernel
theorem dX7_oil_114 : decode cX7_oil 114 = .ok (.iload_n 2, 1) := by decide +kernel
theorem dX7_oil_115 : decode cX7_oil 115 = .ok (.iadd, 1) := by decide +kernel
theorem dX7_oil_116 : decode cX7_oil 116 = .ok (.iload 4, 2) := by decide +kernel
theorem dX7_oil_118 : decode cX7_oil 118 = .ok (.iastore, 1) := by decide +kernel
theorem dX7_oil_119 : decode cX7_oil 119 = .ok (.iload 6, 2) := by decide +kernel
theorem dX7_oil_121 : decode cX7_oil 121 = .ok (.ireturn, 1) := by decide +kernel
set_option maxRecDepth 20000 in
theorem ggX7_cost_X7_isWellMonth : GoodIn wsX7_cost wsX7_isWellMonth := goodIn_r _ [10, 11, 12, 13, 9, 14, 15, 16, 17, 18, 19, 25, 26, 27, 28, 29, 30, 31, 32, 33, 34, 35, 36, 37, 38, 39, 40, 41, 42, 43, 44, 45, 46, 47, 48, 49, 50, 51, 52, 53, 54, 55, 56, 57, 58, 59, 60, 61, 62, 63, 64] (by decide +kernel) (by decide +kernel)
set_option maxRecDepth 20000 in
theorem gX7_cost_X7_isWellMonth : GoodIn wsX7_cost (wsV RX7 162 RX7 yX7_isWellMonth wsX7_isWellMonth) := goodIn_app (goodIn_of _ (by decide +kernel)) ggX7_cost_X7_isWellMonth
set_option maxRecDepth 20000 in
theorem ggX7_cost_X7_isBetween : GoodIn wsX7_cost wsX7_isBetween := goodIn_r _ [14] (by decide +kernel) (by decide +kernel)
set_option maxRecDepth 20000 in
theorem gX7_cost_X7_isBetween : GoodIn wsX7_cost (va_wsS RX7 115 yX7_isBetween wsX7_isBetween) := goodIn_app (goodIn_of _ (by decide +kernel)) ggX7_cost_X7_isBetween
set_option maxRecDepth 20000 in
theorem ggX7_cost_X7_goes : GoodIn wsX7_cost wsX7_goes := goodIn_r _ [23, 24, 25, 26, 27, 28, 29, 30, 31, 32, 33, 34, 35, 36, 37, 38, 39, 40, 41, 42, 43, 44, 45, 46, 47, 48, 49, 50, 51, 52, 53, 54, 55, 56, 57, 58, 59, 60, 61, 62, 63, 64] (by decide +kernel) (by decide +kernel)
set_option maxRecDepth 20000 in
theorem gX7_cost_X7_goes : GoodIn wsX7_cost (wsV RX7 128 RX7 yX7_goes wsX7_goes) := goodIn_app (goodIn_of _ (by decide +kernel)) ggX7_cost_X7_goes
theorem dX7_cost_0 : decode cX7_cost 0 = .ok (.aload_n 0, 1) := by decide +kernel
theorem dX7_cost_1 : decode cX7_cost 1 = .ok (.iload_n 1, 1) := by decide +kernel
theorem dX7_cost_2 : decode cX7_cost 2 = .ok (.iload_n 2, 1) := by decide +kernel
theorem dX7_cost_3 : decode cX7_cost 3 = .ok (.invokevirtual 162, 3) := by decide +kernel
theorem dX7_cost_6 : decode cX7_cost 6 = .ok (.istore 4, 2) := by decide +kernel
theorem dX7_cost_8 : decode cX7_cost 8 = .ok (.iload_n 3, 1) := by decide +kernel
theorem dX7_cost_9 : decode cX7_cost 9 = .ok (.iconst 1, 1) := by decide +kernel
theorem dX7_cost_10 : decode cX7_cost 10 = .ok (.ldc 165, 2) := by decide +kernel
theorem dX7_cost_12 : decode cX7_cost 12 = .ok (.invokestatic 115, 3) := by decide +kernel
theorem dX7_cost_15 : decode cX7_cost 15 = .ok (.istore 5, 2) := by decide +kernel
theorem dX7_cost_17 : decode cX7_cost 17 = .ok (.iload 4, 2) := by decide +kernel
theorem dX7_cost_19 : decode cX7_cost 19 = .ok (.ifCond .eq 63, 3) := by decide +kernel
theorem dX7_cost_22 : decode cX7_cost 22 = .ok (.iload 5, 2) := by decide +kernel
theorem dX7_cost_24 : decode cX7_cost 24 = .ok (.ifCond .eq 58, 3) := by decide +kernel
theorem dX7_cost_27 : decode cX7_cost 27 = .ok (.aload_n 0, 1) := by decide +kernel
theorem dX7_cost_28 : decode cX7_cost 28 = .ok (.getfield 52, 3) := by decide +kernel
theorem dX7_cost_31 : decode cX7_cost 31 = .ok (.iload 4, 2) := by decide +kernel
theorem dX7_cost_33 : decode cX7_cost 33 = .ok (.ifCond .eq 12, 3) := by decide +kernel
theorem dX7_cost_36 : decode cX7_cost 36 = .ok (.aload_n 0, 1) := by decide +kernel
theorem dX7_cost_37 : decode cX7_cost 37 = .ok (.getfield 55, 3) := by decide +kernel
theorem dX7_cost_40 : decode cX7_cost 40 = .ok (.iload_n 1, 1) := by decide +kernel
theorem dX7_cost_41 : decode cX7_cost 41 = .ok (.iaload, 1) := by decide +kernel
theorem dX7_cost_42 : decode cX7_cost 42 = .ok (.goto 4, 3) := by decide +kernel
theorem dX7_cost_45 : decode cX7_cost 45 = .ok (.iconst 0, 1) := by decide +kernel
theorem dX7_cost_46 : decode cX7_cost 46 = .ok (.iaload, 1) := by decide +kernel
theorem dX7_cost_47 : decode cX7_cost 47 = .ok (.iload_n 2, 1) := by decide +kernel
theorem dX7_cost_48 : decode cX7_cost 48 = .ok (.if_icmp .gt 34, 3) := by decide +kernel
theorem dX7_cost_51 : decode cX7_cost 51 = .ok (.aload_n 0, 1) := by decide +kernel
theorem dX7_cost_52 : decode cX7_cost 52 = .ok (.getfield 64, 3) := by decide +kernel
theorem dX7_cost_55 : decode cX7_cost 55 = .ok (.iload 4, 2) := by decide +kernel
theorem dX7_cost_57 : decode cX7_cost 57 = .ok (.ifCond .eq 12, 3) := by decide +kernel
theorem dX7_cost_60 : decode cX7_cost 60 = .ok (.bipush 61, 2) := by decide +kernel
theorem dX7_cost_62 : decode cX7_cost 62 = .ok (.iload_n 1, 1) := by decide +kernel
theorem dX7_cost_63 : decode cX7_cost 63 = .ok (.imul, 1) := by decide +kernel
theorem dX7_cost_64 : decode cX7_cost 64 = .ok (.iload_n 2, 1) := by decide +kernel
theorem dX7_cost_65 : decode cX7_cost 65 = .ok (.iadd, 1) := by decide +kernel
theorem dX7_cost_66 : decode cX7_cost 66 = .ok (.goto 4, 3) := by decide +kernel
theorem dX7_cost_69 : decode cX7_cost 69 = .ok (.iconst 0, 1) := by decide +kernel
theorem dX7_cost_70 : decode cX7_cost 70 = .ok (.iaload, 1) := by decide +kernel
theorem dX7_cost_71 : decode cX7_cost 71 = .ok (.iload_n 3, 1) := by decide +kernel
theorem dX7_cost_72 : decode cX7_cost 72 = .ok (.iadd, 1) := by decide +kernel
theorem dX7_cost_73 : decode cX7_cost 73 = .ok (.ldc 166, 2) := by decide +kernel
theorem dX7_cost_75 : decode cX7_cost 75 = .ok (.if_icmp .gt 7, 3) := by decide +kernel
theorem dX7_cost_78 : decode cX7_cost 78 = .ok (.iconst 1, 1) := by decide +kernel
theorem dX7_cost_79 : decode cX7_cost 79 = .ok (.goto 4, 3) := by decide +kernel
theorem dX7_cost_82 : decode cX7_cost 82 = .ok (.iconst 0, 1) := by decide +kernel
theorem dX7_cost_83 : decode cX7_cost 83 = .ok (.istore 6, 2) := by decide +kernel
theorem dX7_cost_85 : decode cX7_cost 85 = .ok (.aload_n 0, 1) := by decide +kernel
theorem dX7_cost_86 : decode cX7_cost 86 = .ok (.iload 4, 2) := by decide +kernel
theorem dX7_cost_88 : decode cX7_cost 88 = .ok (.iload 5, 2) := by decide +kernel
theorem dX7_cost_90 : decode cX7_cost 90 = .ok (.iload 6, 2) := by decide +kernel
theorem dX7_cost_92 : decode cX7_cost 92 = .ok (.invokevirtual 128, 3) := by decide +kernel
theorem dX7_cost_95 : decode cX7_cost 95 = .ok (.ifCond .ne 5, 3) := by decide +kernel
theorem dX7_cost_98 : decode cX7_cost 98 = .ok (.iconst 0, 1) := by decide +kernel
theorem dX7_cost_99 : decode cX7_cost 99 = .ok (.ireturn, 1) := by decide +kernel
theorem dX7_cost_100 : decode cX7_cost 100 = .ok (.aload_n 0, 1) := by decide +kernel
theorem dX7_cost_101 : decode cX7_cost 101 = .ok (.getfield 64, 3) := by decide +kernel
theorem dX7_cost_104 : decode cX7_cost 104 = .ok (.bipush 61, 2) := by decide +kernel
theorem dX7_cost_106 : decode cX7_cost 106 = .ok (.iload_n 1, 1) := by decide +kernel
theorem dX7_cost_107 : decode cX7_cost 107 = .ok (.imul, 1) := by decide +kernel
theorem dX7_cost_108 : decode cX7_cost 108 = .ok (.iload_n 2, 1) := by decide +kernel
theorem dX7_cost_109 : decode cX7_cost 109 = .ok (.iadd, 1) := by decide +kernel
theorem dX7_cost_110 : decode cX7_cost 110 = .ok (.dup2, 1) := by decide +kernel
theorem dX7_cost_111 : decode cX7_cost 111 = .ok (.iaload, 1) := by decide +kernel
theorem dX7_cost_112 : decode cX7_cost 112 = .ok (.iload_n 3, 1) := by decide +kernel
theorem dX7_cost_113 : decode cX7_cost 113 = .ok (.iadd, 1) := by decide +kernel
theorem dX7_cost_114 : decode cX7_cost 114 = .ok (.iastore, 1) := by decide +kernel
theorem dX7_cost_115 : decode cX7_cost 115 = .ok (.aload_n 0, 1) := by decide +kernel
theorem dX7_cost_116 : decode cX7_cost 116 = .ok (.getfield 64, 3) := by decide +kernel
theorem dX7_cost_119 : decode cX7_cost 119 = .ok (.bipush 61, 2) := by decide +kernel
theorem dX7_cost_121 : decode cX7_cost 121 = .ok (.iload_n 1, 1) := by decide +kernel
theorem dX7_cost_122 : decode cX7_cost 122 = .ok (.imul, 1) := by decide +kernel
theorem dX7_cost_123 : decode cX7_cost 123 = .ok (.iload_n 2, 1) := by decide +kernel
theorem dX7_cost_124 : decode cX7_cost 124 = .ok (.iadd, 1) := by decide +kernel
theorem dX7_cost_125 : decode cX7_cost 125 = .ok (.iaload, 1) := by decide +kernel
theorem dX7_cost_126 : decode cX7_cost 126 = .ok (.ireturn, 1) := by decide +kernel
theorem dX7_taxOf_0 : decode cX7_taxOf 0 = .ok (.iconst 0, 1) := by decide +kernel
theorem dX7_taxOf_1 : decode cX7_taxOf 1 = .ok (.istore_n 2, 1) := by decide +kernel
theorem dX7_taxOf_2 : decode cX7_taxOf 2 = .ok (.iconst 0, 1) := by decide +kernel
theorem dX7_taxOf_3 : decode cX7_taxOf 3 = .ok (.istore_n 3, 1) := by decide +kernel
theorem dX7_taxOf_4 : decode cX7_taxOf 4 = .ok (.iload_n 3, 1) := by decide +kernel
theorem dX7_taxOf_5 : decode cX7_taxOf 5 = .ok (.iload_n 1, 1) := by decide +kernel
theorem dX7_taxOf_6 : decode cX7_taxOf 6 = .ok (.if_icmp .gt 30, 3) := by decide +kernel
theorem dX7_taxOf_9 : decode cX7_taxOf 9 = .ok (.aload_n 0, 1) := by decide +kernel
theorem dX7_taxOf_10 : decode cX7_taxOf 10 = .ok (.getfield 67, 3) := by decide +kernel
theorem dX7_taxOf_13 : decode cX7_taxOf 13 = .ok (.iload_n 3, 1) := by decide +kernel
theorem dX7_taxOf_14 : decode cX7_taxOf 14 = .ok (.iaload, 1) := by decide +kernel
theorem dX7_taxOf_15 : decode cX7_taxOf 15 = .ok (.iconst (-1), 1) := by decide +kernel
theorem dX7_taxOf_16 : decode cX7_taxOf 16 = .ok (.if_icmp .ne 7, 3) := by decide +kernel
theorem dX7_taxOf_19 : decode cX7_taxOf 19 = .ok (.iload_n 2, 1) := by decide +kernel
theorem dX7_taxOf_20 : decode cX7_taxOf 20 = .ok (.goto 9, 3) := by decide +kernel
theorem dX7_taxOf_23 : decode cX7_taxOf 23 = .ok (.aload_n 0, 1) := by decide +kernel
theorem dX7_taxOf_24 : decode cX7_taxOf 24 = .ok (.getfield 67, 3) := by decide +kernel
theorem dX7_taxOf_27 : decode cX7_taxOf 27 = .ok (.iload_n 3, 1) := by decide +kernel
theorem dX7_taxOf_28 : decode cX7_taxOf 28 = .ok (.iaload, 1) := by decide +kernel
theorem dX7_taxOf_29 : decode cX7_taxOf 29 = .ok (.istore_n 2, 1) := by decide +kernel
theorem dX7_taxOf_30 : decode cX7_taxOf 30 = .ok (.iinc 3 1, 3) := by decide +kernel
theorem dX7_taxOf_33 : decode cX7_taxOf 33 = .ok (.goto (-29), 3) := by decide +kernel
theorem dX7_taxOf_36 : decode cX7_taxOf 36 = .ok (.iload_n 2, 1) := by decide +kernel
theorem dX7_taxOf_37 : decode cX7_taxOf 37 = .ok (.ireturn, 1) := by decide +kernel
set_option maxRecDepth 20000 in
theorem ggX7_tax_X7_isMonth : GoodIn wsX7_tax wsX7_isMonth := goodIn_r _ [6, 7, 8, 9, 5, 10, 20, 21, 22, 23, 24, 25, 26, 27, 28, 29, 30, 31, 32, 33, 34, 35, 36, 37, 38, 39, 40, 41, 42, 43, 44, 45, 46, 47, 48, 49, 50, 51, 52, 53, 54, 55, 56, 57, 58, 59] (by decide +kernel) (by decide +kernel)
set_option maxRecDepth 20000 in
theorem gX7_tax_X7_isMonth : GoodIn wsX7_tax (wsV RX7 142 RX7 yX7_isMonth wsX7_isMonth) := goodIn_app (goodIn_of _ (by decide +kernel)) ggX7_tax_X7_isMonth
set_option maxRecDepth 20000 in
theorem ggX7_tax_X7_isBetween : GoodIn wsX7_tax wsX7_isBetween := goodIn_r _ [10] (by decide +kernel) (by decide +kernel)
set_option maxRecDepth 20000 in
theorem gX7_tax_X7_isBetween : GoodIn wsX7_tax (va_wsS RX7 115 yX7_isBetween wsX7_isBetween) := goodIn_app (goodIn_of _ (by decide +kernel)) ggX7_tax_X7_isBetween
set_option maxRecDepth 20000 in
theorem ggX7_tax_X7_goes : GoodIn wsX7_tax wsX7_goes := goodIn_r _ [14, 15, 20, 21, 22, 23, 24, 25, 26, 27, 28, 29, 30, 31, 32, 33, 34, 35, 36, 37, 38, 39, 40, 41, 42, 43, 44, 45, 46, 47, 48, 49, 50, 51, 52, 53, 54, 55, 56, 57, 58, 59] (by decide +kernel) (by decide +kernel)
set_option maxRecDepth 20000 in
theorem gX7_tax_X7_goes : GoodIn wsX7_tax (wsV RX7 128 RX7 yX7_goes wsX7_goes) := goodIn_app (goodIn_of _ (by decide +kernel)) ggX7_tax_X7_goes
set_option maxRecDepth 20000 in
theorem ggX7_tax_X7_taxOf : GoodIn wsX7_tax wsX7_taxOf := goodIn_r _ [19, 1, 20, 21, 22, 23, 24, 25, 26, 27, 28, 29, 30, 31, 32, 33, 34, 35, 36, 37, 38, 39, 40, 41, 42, 43, 44, 45, 46, 47, 48, 49, 50, 51, 52, 53, 54, 55, 56, 57, 58, 59] (by decide +kernel) (by decide +kernel)
set_option maxRecDepth 20000 in
theorem gX7_tax_X7_taxOf : GoodIn wsX7_tax (wsV RX7 167 RX7 yX7_taxOf wsX7_taxOf) := goodIn_app (goodIn_of _ (by decide +kernel)) ggX7_tax_X7_taxOf
theorem dX7_tax_0 : decode cX7_tax 0 = .ok (.aload_n 0, 1) := by decide +kernel
theorem dX7_tax_1 : decode cX7_tax 1 = .ok (.aload_n 0, 1) := by decide +kernel
theorem dX7_tax_2 : decode cX7_tax 2 = .ok (.iload_n 2, 1) := by decide +kernel
theorem dX7_tax_3 : decode cX7_tax 3 = .ok (.invokevirtual 142, 3) := by decide +kernel
theorem dX7_tax_6 : decode cX7_tax 6 = .ok (.iload_n 1, 1) := by decide +kernel
theorem dX7_tax_7 : decode cX7_tax 7 = .ok (.iconst 0, 1) := by decide +kernel
theorem dX7_tax_8 : decode cX7_tax 8 = .ok (.bipush 50, 2) := by decide +kernel
theorem dX7_tax_10 : decode cX7_tax 10 = .ok (.invokestatic 115, 3) := by decide +kernel
theorem dX7_tax_13 : decode cX7_tax 13 = .ok (.iconst 1, 1) := by decide +kernel
theorem dX7_tax_14 : decode cX7_tax 14 = .ok (.invokevirtual 128, 3) := by decide +kernel
theorem dX7_tax_17 : decode cX7_tax 17 = .ok (.ifCond .ne 5, 3) := by decide +kernel
theorem dX7_tax_20 : decode cX7_tax 20 = .ok (.iconst 0, 1) := by decide +kernel
theorem dX7_tax_21 : decode cX7_tax 21 = .ok (.ireturn, 1) := by decide +kernel
theorem dX7_tax_22 : decode cX7_tax 22 = .ok (.aload_n 0, 1) := by decide +kernel
theorem dX7_tax_23 : decode cX7_tax 23 = .ok (.iload_n 2, 1) := by decide +kernel
theorem dX7_tax_24 : decode cX7_tax 24 = .ok (.invokevirtual 167, 3) := by decide +kernel
theorem dX7_tax_27 : decode cX7_tax 27 = .ok (.istore_n 3, 1) := by decide +kernel
theorem dX7_tax_28 : decode cX7_tax 28 = .ok (.aload_n 0, 1) := by decide +kernel
theorem dX7_tax_29 : decode cX7_tax 29 = .ok (.getfield 67, 3) := by decide +kernel
theorem dX7_tax_32 : decode cX7_tax 32 = .ok (.iload_n 2, 1) := by decide +kernel
theorem dX7_tax_33 : decode cX7_tax 33 = .ok (.iload_n 1, 1) := by decide +kernel
theorem dX7_tax_34 : decode cX7_tax 34 = .ok (.iastore, 1) := by decide +kernel
theorem dX7_tax_35 : decode cX7_tax 35 = .ok (.iload_n 3, 1) := by decide +kernel
theorem dX7_tax_36 : decode cX7_tax 36 = .ok (.ireturn, 1) := by decide +kernel
theorem dX7_doesConsent_0 : decode cX7_doesConsent 0 = .ok (.iconst 1, 1) := by decide +kernel
theorem dX7_doesConsent_1 : decode cX7_doesConsent 1 = .ok (.istore 4, 2) := by decide +kernel
theorem dX7_doesConsent_3 : decode cX7_doesConsent 3 = .ok (.iconst 0, 1) := by decide +kernel
theorem dX7_doesConsent_4 : decode cX7_doesConsent 4 = .ok (.istore 5, 2) := by decide +kernel
theorem dX7_doesConsent_6 : decode cX7_doesConsent 6 = .ok (.iload 5, 2) := by decide +kernel
theorem dX7_doesConsent_8 : decode cX7_doesConsent 8 = .ok (.iload_n 3, 1) := by decide +kernel
theorem dX7_doesConsent_9 : decode cX7_doesConsent 9 = .ok (.if_icmp .gt 43, 3) := by decide +kernel
theorem dX7_doesConsent_12 : decode cX7_doesConsent 12 = .ok (.aload_n 0, 1) := by decide +kernel
theorem dX7_doesConsent_13 : decode cX7_doesConsent 13 = .ok (.getfield 70, 3) := by decide +kernel
theorem dX7_doesConsent_16 : decode cX7_doesConsent 16 = .ok (.sipush 610, 3) := by decide +kernel
theorem dX7_doesConsent_19 : decode cX7_doesConsent 19 = .ok (.iload_n 1, 1) := by decide +kernel
theorem dX7_doesConsent_20 : decode cX7_doesConsent 20 = .ok (.imul, 1) := by decide +kernel
theorem dX7_doesConsent_21 : decode cX7_doesConsent 21 = .ok (.bipush 61, 2) := by decide +kernel
theorem dX7_doesConsent_23 : decode cX7_doesConsent 23 = .ok (.iload_n 2, 1) := by decide +kernel
theorem dX7_doesConsent_24 : decode cX7_doesConsent 24 = .ok (.imul, 1) := by decide +kernel
theorem dX7_doesConsent_25 : decode cX7_doesConsent 25 = .ok (.iadd, 1) := by decide +kernel
theorem dX7_doesConsent_26 : decode cX7_doesConsent 26 = .ok (.iload 5, 2) := by decide +kernel
theorem dX7_doesConsent_28 : decode cX7_doesConsent 28 = .ok (.iadd, 1) := by decide +kernel
theorem dX7_doesConsent_29 : decode cX7_doesConsent 29 = .ok (.iaload, 1) := by decide +kernel
theorem dX7_doesConsent_30 : decode cX7_doesConsent 30 = .ok (.istore 6, 2) := by decide +kernel
theorem dX7_doesConsent_32 : decode cX7_doesConsent 32 = .ok (.iload 6, 2) := by decide +kernel
theorem dX7_doesConsent_34 : decode cX7_doesConsent 34 = .ok (.ifCond .ne 8, 3) := by decide +kernel
theorem dX7_doesConsent_37 : decode cX7_doesConsent 37 = .ok (.iload 4, 2) := by decide +kernel
theorem dX7_doesConsent_39 : decode cX7_doesConsent 39 = .ok (.goto 5, 3) := by decide +kernel
theorem dX7_doesConsent_42 : decode cX7_doesConsent 42 = .ok (.iload 6, 2) := by decide +kernel
theorem dX7_doesConsent_44 : decode cX7_doesConsent 44 = .ok (.istore 4, 2) := by decide +kernel
theorem dX7_doesConsent_46 : decode cX7_doesConsent 46 = .ok (.iinc 5 1, 3) := by decide +kernel
theorem dX7_doesConsent_49 : decode cX7_doesConsent 49 = .ok (.goto (-43), 3) := by decide +kernel
theorem dX7_doesConsent_52 : decode cX7_doesConsent 52 = .ok (.iload 4, 2) := by decide +kernel
theorem dX7_doesConsent_54 : decode cX7_doesConsent 54 = .ok (.iconst 1, 1) := by decide +kernel
theorem dX7_doesConsent_55 : decode cX7_doesConsent 55 = .ok (.if_icmp .ne 7, 3) := by decide +kernel
theorem dX7_doesConsent_58 : decode cX7_doesConsent 58 = .ok (.iconst 1, 1) := by decide +kernel
theorem dX7_doesConsent_59 : decode cX7_doesConsent 59 = .ok (.goto 4, 3) := by decide +kernel
theorem dX7_doesConsent_62 : decode cX7_doesConsent 62 = .ok (.iconst 0, 1) := by decide +kernel
theorem dX7_doesConsent_63 : decode cX7_doesConsent 63 = .ok (.ireturn, 1) := by decide +kernel
set_option maxRecDepth 20000 in
theorem ggX7_consent_X7_isBetween : GoodIn wsX7_consent wsX7_isBetween := goodIn_r _ [7] (by decide +kernel) (by decide +kernel)
set_option maxRecDepth 20000 in
theorem gX7_consent_X7_isBetween : GoodIn wsX7_consent (va_wsS RX7 115 yX7_isBetween wsX7_isBetween) := goodIn_app (goodIn_of _ (by decide +kernel)) ggX7_consent_X7_isBetween
set_option maxRecDepth 20000 in
theorem ggX7_consent_X7_isOwner : GoodIn wsX7_consent wsX7_isOwner := goodIn_r _ [10, 4, 5, 6, 7] (by decide +kernel) (by decide +kernel)
set_option maxRecDepth 20000 in
theorem gX7_consent_X7_isOwner : GoodIn wsX7_consent (va_wsS RX7 132 yX7_isOwner wsX7_isOwner) := goodIn_app (goodIn_of _ (by decide +kernel)) ggX7_consent_X7_isOwner
set_option maxRecDepth 20000 in
theorem ggX7_consent_X7_goes : GoodIn wsX7_consent wsX7_goes := goodIn_r _ [14, 15, 20, 21, 22, 23, 24, 25, 26, 27, 28, 29, 30, 31, 32, 33, 34, 35, 36, 37, 38, 39, 40, 41, 42, 43, 44, 45, 46, 47, 48, 49, 50, 51, 52, 53, 54, 55, 56, 57, 58, 59] (by decide +kernel) (by decide +kernel)
set_option maxRecDepth 20000 in
theorem gX7_consent_X7_goes : GoodIn wsX7_consent (wsV RX7 128 RX7 yX7_goes wsX7_goes) := goodIn_app (goodIn_of _ (by decide +kernel)) ggX7_consent_X7_goes
set_option maxRecDepth 20000 in
theorem ggX7_consent_X7_doesConsent : GoodIn wsX7_consent wsX7_doesConsent := goodIn_r _ [19, 3, 20, 21, 22, 23, 24, 25, 26, 27, 28, 29, 30, 31, 32, 33, 34, 35, 36, 37, 38, 39, 40, 41, 42, 43, 44, 45, 46, 47, 48, 49, 50, 51, 52, 53, 54, 55, 56, 57, 58, 59] (by decide +kernel) (by decide +kernel)
set_option maxRecDepth 20000 in
theorem gX7_consent_X7_doesConsent : GoodIn wsX7_consent (wsV RX7 171 RX7 yX7_doesConsent wsX7_doesConsent) := goodIn_app (goodIn_of _ (by decide +kernel)) ggX7_consent_X7_doesConsent
theorem dX7_consent_0 : decode cX7_consent 0 = .ok (.aload_n 0, 1) := by decide +kernel
theorem dX7_consent_1 : decode cX7_consent 1 = .ok (.iload_n 1, 1) := by decide +kernel
theorem dX7_consent_2 : decode cX7_consent 2 = .ok (.iconst 0, 1) := by decide +kernel
theorem dX7_consent_3 : decode cX7_consent 3 = .ok (.aload_n 0, 1) := by decide +kernel
theorem dX7_consent_4 : decode cX7_consent 4 = .ok (.getfield 125, 3) := by decide +kernel
theorem dX7_consent_7 : decode cX7_consent 7 = .ok (.iconst 1, 1) := by decide +kernel
theorem dX7_consent_8 : decode cX7_consent 8 = .ok (.isub, 1) := by decide +kernel
theorem dX7_consent_9 : decode cX7_consent 9 = .ok (.invokestatic 115, 3) := by decide +kernel
theorem dX7_consent_12 : decode cX7_consent 12 = .ok (.ifCond .eq 14, 3) := by decide +kernel
theorem dX7_consent_15 : decode cX7_consent 15 = .ok (.iload_n 2, 1) := by decide +kernel
theorem dX7_consent_16 : decode cX7_consent 16 = .ok (.invokestatic 132, 3) := by decide +kernel
theorem dX7_consent_19 : decode cX7_consent 19 = .ok (.ifCond .eq 7, 3) := by decide +kernel
theorem dX7_consent_22 : decode cX7_consent 22 = .ok (.iconst 1, 1) := by decide +kernel
theorem dX7_consent_23 : decode cX7_consent 23 = .ok (.goto 4, 3) := by decide +kernel
theorem dX7_consent_26 : decode cX7_consent 26 = .ok (.iconst 0, 1) := by decide +kernel
theorem dX7_consent_27 : decode cX7_consent 27 = .ok (.iconst 1, 1) := by decide +kernel
theorem dX7_consent_28 : decode cX7_consent 28 = .ok (.iconst 1, 1) := by decide +kernel
theorem dX7_consent_29 : decode cX7_consent 29 = .ok (.invokevirtual 128, 3) := by decide +kernel
theorem dX7_consent_32 : decode cX7_consent 32 = .ok (.ifCond .ne 5, 3) := by decide +kernel
theorem dX7_consent_35 : decode cX7_consent 35 = .ok (.iconst 0, 1) := by decide +kernel
theorem dX7_consent_36 : decode cX7_consent 36 = .ok (.ireturn, 1) := by decide +kernel
theorem dX7_consent_37 : decode cX7_consent 37 = .ok (.aload_n 0, 1) := by decide +kernel
theorem dX7_consent_38 : decode cX7_consent 38 = .ok (.iload_n 1, 1) := by decide +kernel
theorem dX7_consent_39 : decode cX7_consent 39 = .ok (.iload_n 2, 1) := by decide +kernel
theorem dX7_consent_40 : decode cX7_consent 40 = .ok (.aload_n 0, 1) := by decide +kernel
theorem dX7_consent_41 : decode cX7_consent 41 = .ok (.getfield 122, 3) := by decide +kernel
theorem dX7_consent_44 : decode cX7_consent 44 = .ok (.invokevirtual 171, 3) := by decide +kernel
theorem dX7_consent_47 : decode cX7_consent 47 = .ok (.istore 4, 2) := by decide +kernel
theorem dX7_consent_49 : decode cX7_consent 49 = .ok (.aload_n 0, 1) := by decide +kernel
theorem dX7_consent_50 : decode cX7_consent 50 = .ok (.getfield 70, 3) := by decide +kernel
theorem dX7_consent_53 : decode cX7_consent 53 = .ok (.sipush 610, 3) := by decide +kernel
theorem dX7_consent_56 : decode cX7_consent 56 = .ok (.iload_n 1, 1) := by decide +kernel
theorem dX7_consent_57 : decode cX7_consent 57 = .ok (.imul, 1) := by decide +kernel
theorem dX7_consent_58 : decode cX7_consent 58 = .ok (.bipush 61, 2) := by decide +kernel
theorem dX7_consent_60 : decode cX7_consent 60 = .ok (.iload_n 2, 1) := by decide +kernel
theorem dX7_consent_61 : decode cX7_consent 61 = .ok (.imul, 1) := by decide +kernel
theorem dX7_consent_62 : decode cX7_consent 62 = .ok (.iadd, 1) := by decide +kernel
theorem dX7_consent_63 : decode cX7_consent 63 = .ok (.aload_n 0, 1) := by decide +kernel
theorem dX7_consent_64 : decode cX7_consent 64 = .ok (.getfield 122, 3) := by decide +kernel
theorem dX7_consent_67 : decode cX7_consent 67 = .ok (.iadd, 1) := by decide +kernel
theorem dX7_consent_68 : decode cX7_consent 68 = .ok (.iload_n 3, 1) := by decide +kernel
theorem dX7_consent_69 : decode cX7_consent 69 = .ok (.ifCond .eq 7, 3) := by decide +kernel
theorem dX7_consent_72 : decode cX7_consent 72 = .ok (.iconst 1, 1) := by decide +kernel
theorem dX7_consent_73 : decode cX7_consent 73 = .ok (.goto 4, 3) := by decide +kernel
theorem dX7_consent_76 : decode cX7_consent 76 = .ok (.iconst 2, 1) := by decide +kernel
theorem dX7_consent_77 : decode cX7_consent 77 = .ok (.iastore, 1) := by decide +kernel
theorem dX7_consent_78 : decode cX7_consent 78 = .ok (.iload 4, 2) := by decide +kernel
theorem dX7_consent_80 : decode cX7_consent 80 = .ok (.ireturn, 1) := by decide +kernel
set_option maxRecDepth 20000 in
theorem ggX7_penalty_X7_isBetween : GoodIn wsX7_penalty wsX7_isBetween := goodIn_r _ [5] (by decide +kernel) (by decide +kernel)
set_option maxRecDepth 20000 in
theorem gX7_penalty_X7_isBetween : GoodIn wsX7_penalty (va_wsS RX7 115 yX7_isBetween wsX7_isBetween) := goodIn_app (goodIn_of _ (by decide +kernel)) ggX7_penalty_X7_isBetween
set_option maxRecDepth 20000 in
theorem ggX7_penalty_X7_goes : GoodIn wsX7_penalty wsX7_goes := goodIn_r _ [9, 10, 11, 12, 13, 14, 15, 16, 17, 18, 19, 20, 21, 22, 23, 24, 25, 26, 27, 28, 29, 30, 31, 32, 33, 34, 35, 36, 37, 38, 39, 40, 41, 42, 43, 44, 45, 46, 47, 48, 49, 50] (by decide +kernel) (by decide +kernel)
set_option maxRecDepth 20000 in
theorem gX7_penalty_X7_goes : GoodIn wsX7_penalty (wsV RX7 128 RX7 yX7_goes wsX7_goes) := goodIn_app (goodIn_of _ (by decide +kernel)) ggX7_penalty_X7_goes
theorem dX7_penalty_0 : decode cX7_penalty 0 = .ok (.aload_n 0, 1) := by decide +kernel
theorem dX7_penalty_1 : decode cX7_penalty 1 = .ok (.iload_n 1, 1) := by decide +kernel
theorem dX7_penalty_2 : decode cX7_penalty 2 = .ok (.bipush 100, 2) := by decide +kernel
theorem dX7_penalty_4 : decode cX7_penalty 4 = .ok (.sipush 500, 3) := by decide +kernel
theorem dX7_penalty_7 : decode cX7_penalty 7 = .ok (.invokestatic 115, 3) := by decide +kernel
theorem dX7_penalty_10 : decode cX7_penalty 10 = .ok (.iconst 1, 1) := by decide +kernel
theorem dX7_penalty_11 : decode cX7_penalty 11 = .ok (.iconst 1, 1) := by decide +kernel
theorem dX7_penalty_12 : decode cX7_penalty 12 = .ok (.invokevirtual 128, 3) := by decide +kernel
theorem dX7_penalty_15 : decode cX7_penalty 15 = .ok (.ifCond .ne 5, 3) := by decide +kernel
theorem dX7_penalty_18 : decode cX7_penalty 18 = .ok (.iconst 0, 1) := by decide +kernel
theorem dX7_penalty_19 : decode cX7_penalty 19 = .ok (.ireturn, 1) := by decide +kernel
theorem dX7_penalty_20 : decode cX7_penalty 20 = .ok (.aload_n 0, 1) := by decide +kernel
theorem dX7_penalty_21 : decode cX7_penalty 21 = .ok (.getfield 73, 3) := by decide +kernel
theorem dX7_penalty_24 : decode cX7_penalty 24 = .ok (.istore_n 2, 1) := by decide +kernel
theorem dX7_penalty_25 : decode cX7_penalty 25 = .ok (.aload_n 0, 1) := by decide +kernel
theorem dX7_penalty_26 : decode cX7_penalty 26 = .ok (.iload_n 1, 1) := by decide +kernel
theorem dX7_penalty_27 : decode cX7_penalty 27 = .ok (.putfield 73, 3) := by decide +kernel
theorem dX7_penalty_30 : decode cX7_penalty 30 = .ok (.iload_n 2, 1) := by decide +kernel
theorem dX7_penalty_31 : decode cX7_penalty 31 = .ok (.ireturn, 1) := by decide +kernel
set_option maxRecDepth 20000 in
theorem ggX7_leaseOf_X7_holds : GoodIn wsX7_leaseOf wsX7_holds := goodIn_r _ [8, 9, 10, 11, 2, 12, 13, 14, 7, 15, 16, 17, 18, 19, 20, 21, 22, 23, 24, 25, 26, 27, 28, 29, 30, 31, 32, 33, 34, 35, 36, 37, 38, 39, 40, 41, 42, 43, 44, 45, 46, 47, 48, 49, 50, 51, 52, 53, 54, 55, 56, 57, 58] (by decide +kernel) (by decide +kernel)
set_option maxRecDepth 20000 in
theorem gX7_leaseOf_X7_holds : GoodIn wsX7_leaseOf (wsV RX7 159 RX7 yX7_holds wsX7_holds) := goodIn_app (goodIn_of _ (by decide +kernel)) ggX7_leaseOf_X7_holds
theorem dX7_leaseOf_0 : decode cX7_leaseOf 0 = .ok (.iconst (-1), 1) := by decide +kernel
theorem dX7_leaseOf_1 : decode cX7_leaseOf 1 = .ok (.istore 4, 2) := by decide +kernel
theorem dX7_leaseOf_3 : decode cX7_leaseOf 3 = .ok (.aload_n 0, 1) := by decide +kernel
theorem dX7_leaseOf_4 : decode cX7_leaseOf 4 = .ok (.getfield 149, 3) := by decide +kernel
theorem dX7_leaseOf_7 : decode cX7_leaseOf 7 = .ok (.iconst 1, 1) := by decide +kernel
theorem dX7_leaseOf_8 : decode cX7_leaseOf 8 = .ok (.isub, 1) := by decide +kernel
theorem dX7_leaseOf_9 : decode cX7_leaseOf 9 = .ok (.istore 5, 2) := by decide +kernel
theorem dX7_leaseOf_11 : decode cX7_leaseOf 11 = .ok (.iload 5, 2) := by decide +kernel
theorem dX7_leaseOf_13 : decode cX7_leaseOf 13 = .ok (.ifCond .lt 50, 3) := by decide +kernel
theorem dX7_leaseOf_16 : decode cX7_leaseOf 16 = .ok (.aload_n 0, 1) := by decide +kernel
theorem dX7_leaseOf_17 : decode cX7_leaseOf 17 = .ok (.getfield 34, 3) := by decide +kernel
theorem dX7_leaseOf_20 : decode cX7_leaseOf 20 = .ok (.iload 5, 2) := by decide +kernel
theorem dX7_leaseOf_22 : decode cX7_leaseOf 22 = .ok (.iaload, 1) := by decide +kernel
theorem dX7_leaseOf_23 : decode cX7_leaseOf 23 = .ok (.iload_n 1, 1) := by decide +kernel
theorem dX7_leaseOf_24 : decode cX7_leaseOf 24 = .ok (.if_icmp .ne 29, 3) := by decide +kernel
theorem dX7_leaseOf_27 : decode cX7_leaseOf 27 = .ok (.aload_n 0, 1) := by decide +kernel
theorem dX7_leaseOf_28 : decode cX7_leaseOf 28 = .ok (.getfield 37, 3) := by decide +kernel
theorem dX7_leaseOf_31 : decode cX7_leaseOf 31 = .ok (.iload 5, 2) := by decide +kernel
theorem dX7_leaseOf_33 : decode cX7_leaseOf 33 = .ok (.iaload, 1) := by decide +kernel
theorem dX7_leaseOf_34 : decode cX7_leaseOf 34 = .ok (.iload_n 2, 1) := by decide +kernel
theorem dX7_leaseOf_35 : decode cX7_leaseOf 35 = .ok (.if_icmp .ne 18, 3) := by decide +kernel
theorem dX7_leaseOf_38 : decode cX7_leaseOf 38 = .ok (.aload_n 0, 1) := by decide +kernel
theorem dX7_leaseOf_39 : decode cX7_leaseOf 39 = .ok (.iload 5, 2) := by decide +kernel
theorem dX7_leaseOf_41 : decode cX7_leaseOf 41 = .ok (.iload_n 3, 1) := by decide +kernel
theorem dX7_leaseOf_42 : decode cX7_leaseOf 42 = .ok (.invokevirtual 159, 3) := by decide +kernel
theorem dX7_leaseOf_45 : decode cX7_leaseOf 45 = .ok (.ifCond .eq 8, 3) := by decide +kernel
theorem dX7_leaseOf_48 : decode cX7_leaseOf 48 = .ok (.iload 5, 2) := by decide +kernel
theorem dX7_leaseOf_50 : decode cX7_leaseOf 50 = .ok (.goto 5, 3) := by decide +kernel
theorem dX7_leaseOf_53 : decode cX7_leaseOf 53 = .ok (.iload 4, 2) := by decide +kernel
theorem dX7_leaseOf_55 : decode cX7_leaseOf 55 = .ok (.istore 4, 2) := by decide +kernel
theorem dX7_leaseOf_57 : decode cX7_leaseOf 57 = .ok (.iinc 5 (-1), 3) := by decide +kernel
theorem dX7_leaseOf_60 : decode cX7_leaseOf 60 = .ok (.goto (-49), 3) := by decide +kernel
theorem dX7_leaseOf_63 : decode cX7_leaseOf 63 = .ok (.iload 4, 2) := by decide +kernel
theorem dX7_leaseOf_65 : decode cX7_leaseOf 65 = .ok (.ireturn, 1) := by decide +kernel
set_option maxRecDepth 20000 in
theorem ggX7_decks_X7_titleOf : GoodIn wsX7_decks wsX7_titleOf := goodIn_r _ [12, 13, 14, 15, 16, 17, 18, 19, 40, 41, 42, 43, 44, 45, 46, 47, 48, 49, 50, 51, 52, 53, 54, 55, 56, 57, 58, 59, 60, 61, 62, 63, 64, 65, 66, 67, 68, 69, 70, 71, 72, 73, 74, 75, 76, 77, 78, 79] (by decide +kernel) (by decide +kernel)
set_option maxRecDepth 20000 in
theorem gX7_decks_X7_titleOf : GoodIn wsX7_decks (wsV RX7 145 RX7 yX7_titleOf wsX7_titleOf) := goodIn_app (goodIn_of _ (by decide +kernel)) ggX7_decks_X7_titleOf
set_option maxRecDepth 20000 in
theorem ggX7_decks_X7_leaseOf : GoodIn wsX7_decks wsX7_leaseOf := goodIn_r _ [23, 24, 25, 26, 27, 28, 29, 11, 30, 31, 32, 3, 33, 34, 35, 36, 37, 38, 39, 40, 41, 42, 43, 44, 45, 46, 47, 48, 49, 50, 51, 52, 53, 54, 55, 56, 57, 58, 59, 60, 61, 62, 63, 64, 65, 66, 67, 68, 69, 70, 71, 72, 73, 74, 75, 76, 77, 78, 79] (by decide +kernel) (by decide +kernel)
set_option maxRecDepth 20000 in
theorem gX7_decks_X7_leaseOf : GoodIn wsX7_decks (wsV RX7 174 RX7 yX7_leaseOf wsX7_leaseOf) := goodIn_app (goodIn_of _ (by decide +kernel)) ggX7_decks_X7_leaseOf
theorem dX7_decks_0 : decode cX7_decks 0 = .ok (.iconst 0, 1) := by decide +kernel
theorem dX7_decks_1 : decode cX7_decks 1 = .ok (.istore_n 3, 1) := by decide +kernel
theorem dX7_decks_2 : decode cX7_decks 2 = .ok (.iload_n 3, 1) := by decide +kernel
theorem dX7_decks_3 : decode cX7_decks 3 = .ok (.bipush 20, 2) := by decide +kernel
theorem dX7_decks_5 : decode cX7_decks 5 = .ok (.if_icmp .ge 16, 3) := by decide +kernel
theorem dX7_decks_8 : decode cX7_decks 8 = .ok (.aload_n 0, 1) := by decide +kernel
theorem dX7_decks_9 : decode cX7_decks 9 = .ok (.getfield 88, 3) := by decide +kernel
theorem dX7_decks_12 : decode cX7_decks 12 = .ok (.iload_n 3, 1) := by decide +kernel
theorem dX7_decks_13 : decode cX7_decks 13 = .ok (.lconst 0, 1) := by decide +kernel
theorem dX7_decks_14 : decode cX7_decks 14 = .ok (.lastore, 1) := by decide +kernel
theorem dX7_decks_15 : decode cX7_decks 15 = .ok (.iinc 3 1, 3) := by decide +kernel
theorem dX7_decks_18 : decode cX7_decks 18 = .ok (.goto (-16), 3) := by decide +kernel
theorem dX7_decks_21 : decode cX7_decks 21 = .ok (.iconst 0, 1) := by decide +kernel
theorem dX7_decks_22 : decode cX7_decks 22 = .ok (.istore_n 3, 1) := by decide +kernel
theorem dX7_decks_23 : decode cX7_decks 23 = .ok (.iload_n 3, 1) := by decide +kernel
theorem dX7_decks_24 : decode cX7_decks 24 = .ok (.aload_n 0, 1) := by decide +kernel
theorem dX7_decks_25 : decode cX7_decks 25 = .ok (.getfield 119, 3) := by decide +kernel
theorem dX7_decks_28 : decode cX7_decks 28 = .ok (.if_icmp .ge 157, 3) := by decide +kernel
theorem dX7_decks_31 : decode cX7_decks 31 = .ok (.iconst 0, 1) := by decide +kernel
theorem dX7_decks_32 : decode cX7_decks 32 = .ok (.istore 4, 2) := by decide +kernel
theorem dX7_decks_34 : decode cX7_decks 34 = .ok (.iload 4, 2) := by decide +kernel
theorem dX7_decks_36 : decode cX7_decks 36 = .ok (.bipush 10, 2) := by decide +kernel
theorem dX7_decks_38 : decode cX7_decks 38 = .ok (.if_icmp .ge 141, 3) := by decide +kernel
theorem dX7_decks_41 : decode cX7_decks 41 = .ok (.aload_n 0, 1) := by decide +kernel
theorem dX7_decks_42 : decode cX7_decks 42 = .ok (.getfield 16, 3) := by decide +kernel
theorem dX7_decks_45 : decode cX7_decks 45 = .ok (.iload_n 3, 1) := by decide +kernel
theorem dX7_decks_46 : decode cX7_decks 46 = .ok (.iaload, 1) := by decide +kernel
theorem dX7_decks_47 : decode cX7_decks 47 = .ok (.iload_n 1, 1) := by decide +kernel
theorem dX7_decks_48 : decode cX7_decks 48 = .ok (.if_icmp .ne 131, 3) := by decide +kernel
theorem dX7_decks_51 : decode cX7_decks 51 = .ok (.aload_n 0, 1) := by decide +kernel
theorem dX7_decks_52 : decode cX7_decks 52 = .ok (.getfield 7, 3) := by decide +kernel
theorem dX7_decks_55 : decode cX7_decks 55 = .ok (.iload_n 3, 1) := by decide +kernel
theorem dX7_decks_56 : decode cX7_decks 56 = .ok (.iaload, 1) := by decide +kernel
theorem dX7_decks_57 : decode cX7_decks 57 = .ok (.i2l, 1) := by decide +kernel
theorem dX7_decks_58 : decode cX7_decks 58 = .ok (.aload_n 0, 1) := by decide +kernel
theorem dX7_decks_59 : decode cX7_decks 59 = .ok (.iload_n 3, 1) := by decide +kernel
theorem dX7_decks_60 : decode cX7_decks 60 = .ok (.iload 4, 2) := by decide +kernel
theorem dX7_decks_62 : decode cX7_decks 62 = .ok (.iload_n 2, 1) := by decide +kernel
theorem dX7_decks_63 : decode cX7_decks 63 = .ok (.invokevirtual 145, 3) := by decide +kernel
theorem dX7_decks_66 : decode cX7_decks 66 = .ok (.i2l, 1) := by decide +kernel
theorem dX7_decks_67 : decode cX7_decks 67 = .ok (.lmul, 1) := by decide +kernel
theorem dX7_decks_68 : decode cX7_decks 68 = .ok (.lstore 5, 2) := by decide +kernel
theorem dX7_decks_70 : decode cX7_decks 70 = .ok (.lload 5, 2) := by decide +kernel
theorem dX7_decks_72 : decode cX7_decks 72 = .ok (.lconst 0, 1) := by decide +kernel
theorem dX7_decks_73 : decode cX7_decks 73 = .ok (.lcmp, 1) := by decide +kernel
theorem dX7_decks_74 : decode cX7_decks 74 = .ok (.ifCond .le 14, 3) := by decide +kernel
theorem dX7_decks_77 : decode cX7_decks 77 = .ok (.aload_n 0, 1) := by decide +kernel
theorem dX7_decks_78 : decode cX7_decks 78 = .ok (.iload_n 3, 1) := by decide +kernel
theorem dX7_decks_79 : decode cX7_decks 79 = .ok (.iload 4, 2) := by decide +kernel
theorem dX7_decks_81 : decode cX7_decks 81 = .ok (.iload_n 2, 1) := by decide +kernel
theorem dX7_decks_82 : decode cX7_decks 82 = .ok (.invokevirtual 174, 3) := by decide +kernel
theorem dX7_decks_85 : decode cX7_decks 85 = .ok (.goto 4, 3) := by decide +kernel
theorem dX7_decks_88 : decode cX7_decks 88 = .ok (.iconst (-1), 1) := by decide +kernel
theorem dX7_decks_89 : decode cX7_decks 89 = .ok (.istore 7, 2) := by decide +kernel
theorem dX7_decks_91 : decode cX7_decks 91 = .ok (.iload 7, 2) := by decide +kernel
theorem dX7_decks_93 : decode cX7_decks 93 = .ok (.iconst (-1), 1) := by decide +kernel
theorem dX7_decks_94 : decode cX7_decks 94 = .ok (.if_icmp .ne 25, 3) := by decide +kernel
theorem dX7_decks_97 : decode cX7_decks 97 = .ok (.aload_n 0, 1) := by decide +kernel
theorem dX7_decks_98 : decode cX7_decks 98 = .ok (.getfield 88, 3) := by decide +kernel
theorem dX7_decks_101 : decode cX7_decks 101 = .ok (.bipush 10, 2) := by decide +kernel
theorem dX7_decks_103 : decode cX7_decks 103 = .ok (.iload 4, 2) := by decide +kernel
theorem dX7_decks_105 : decode cX7_decks 105 = .ok (.iadd, 1) := by decide +kernel
theorem dX7_decks_106 : decode cX7_decks 106 = .ok (.dup2, 1) := by decide +kernel
theorem dX7_decks_107 : decode cX7_decks 107 = .ok (.laload, 1) := by decide +kernel
theorem dX7_decks_108 : decode cX7_decks 108 = .ok (.ldc2_w 177, 3) := by decide +kernel
theorem dX7_decks_111 : decode cX7_decks 111 = .ok (.lload 5, 2) := by decide +kernel
theorem dX7_decks_113 : decode cX7_decks 113 = .ok (.lmul, 1) := by decide +kernel
theorem dX7_decks_114 : decode cX7_decks 114 = .ok (.ladd, 1) := by decide +kernel
theorem dX7_decks_115 : decode cX7_decks 115 = .ok (.lastore, 1) := by decide +kernel
theorem dX7_decks_116 : decode cX7_decks 116 = .ok (.goto 57, 3) := by decide +kernel
theorem dX7_decks_119 : decode cX7_decks 119 = .ok (.aload_n 0, 1) := by decide +kernel
theorem dX7_decks_120 : decode cX7_decks 120 = .ok (.getfield 88, 3) := by decide +kernel
theorem dX7_decks_123 : decode cX7_decks 123 = .ok (.iload 4, 2) := by decide +kernel
theorem dX7_decks_125 : decode cX7_decks 125 = .ok (.dup2, 1) := by decide +kernel
theorem dX7_decks_126 : decode cX7_decks 126 = .ok (.laload, 1) := by decide +kernel
theorem dX7_decks_127 : decode cX7_decks 127 = .ok (.aload_n 0, 1) := by decide +kernel
theorem dX7_decks_128 : decode cX7_decks 128 = .ok (.getfield 43, 3) := by decide +kernel
theorem dX7_decks_131 : decode cX7_decks 131 = .ok (.iload 7, 2) := by decide +kernel
theorem dX7_decks_133 : decode cX7_decks 133 = .ok (.iaload, 1) := by decide +kernel
theorem dX7_decks_134 : decode cX7_decks 134 = .ok (.i2l, 1) := by decide +kernel
theorem dX7_decks_135 : decode cX7_decks 135 = .ok (.lload 5, 2) := by decide +kernel
theorem dX7_decks_137 : decode cX7_decks 137 = .ok (.lmul, 1) := by decide +kernel
theorem dX7_decks_138 : decode cX7_decks 138 = .ok (.ladd, 1) := by decide +kernel
theorem dX7_decks_139 : decode cX7_decks 139 = .ok (.lastore, 1) := by decide +kernel
theorem dX7_decks_140 : decode cX7_decks 140 = .ok (.aload_n 0, 1) := by decide +kernel
theorem dX7_decks_141 : decode cX7_decks 141 = .ok (.getfield 88, 3) := by decide +kernel
theorem dX7_decks_144 : decode cX7_decks 144 = .ok (.bipush 10, 2) := by decide +kernel
theorem dX7_decks_146 : decode cX7_decks 146 = .ok (.aload_n 0, 1) := by decide +kernel
theorem dX7_decks_147 : decode cX7_decks 147 = .ok (.getfield 40, 3) := by decide +kernel
theorem dX7_decks_150 : decode cX7_decks 150 = .ok (.iload 7, 2) := by decide +kernel
theorem dX7_decks_152 : decode cX7_decks 152 = .ok (.iaload, 1) := by decide +kernel
theorem dX7_decks_153 : decode cX7_decks 153 = .ok (.iadd, 1) := by decide +kernel
theorem dX7_decks_154 : decode cX7_decks 154 = .ok (.dup2, 1) := by decide +kernel
theorem dX7_decks_155 : decode cX7_decks 155 = .ok (.laload, 1) := by decide +kernel
theorem dX7_decks_156 : decode cX7_decks 156 = .ok (.sipush 1000, 3) := by decide +kernel
theorem dX7_decks_159 : decode cX7_decks 159 = .ok (.aload_n 0, 1) := by decide +kernel
theorem dX7_decks_160 : decode cX7_decks 160 = .ok (.getfield 43, 3) := by decide +kernel
theorem dX7_decks_163 : decode cX7_decks 163 = .ok (.iload 7, 2) := by decide +kernel
theorem dX7_decks_165 : decode cX7_decks 165 = .ok (.iaload, 1) := by decide +kernel
theorem dX7_decks_166 : decode cX7_decks 166 = .ok (.isub, 1) := by decide +kernel
theorem dX7_decks_167 : decode cX7_decks 167 = .ok (.i2l, 1) := by decide +kernel
theorem dX7_decks_168 : decode cX7_decks 168 = .ok (.lload 5, 2) := by decide +kernel
theorem dX7_decks_170 : decode cX7_decks 170 = .ok (.lmul, 1) := by decide +kernel
theorem dX7_decks_171 : decode cX7_decks 171 = .ok (.ladd, 1) := by decide +kernel
theorem dX7_decks_172 : decode cX7_decks 172 = .ok (.lastore, 1) := by decide +kernel
theorem dX7_decks_173 : decode cX7_decks 173 = .ok (.iinc 4 1, 3) := by decide +kernel
theorem dX7_decks_176 : decode cX7_decks 176 = .ok (.goto (-142), 3) := by decide +kernel
theorem dX7_decks_179 : decode cX7_decks 179 = .ok (.iinc 3 1, 3) := by decide +kernel
theorem dX7_decks_182 : decode cX7_decks 182 = .ok (.goto (-159), 3) := by decide +kernel
theorem dX7_decks_185 : decode cX7_decks 185 = .ok (.return_, 1) := by decide +kernel
theorem dX7_parted_0 : decode cX7_parted 0 = .ok (.lconst 0, 1) := by decide +kernel
theorem dX7_parted_1 : decode cX7_parted 1 = .ok (.lstore 4, 2) := by decide +kernel
theorem dX7_parted_3 : decode cX7_parted 3 = .ok (.iconst 0, 1) := by decide +kernel
theorem dX7_parted_4 : decode cX7_parted 4 = .ok (.istore 6, 2) := by decide +kernel
theorem dX7_parted_6 : decode cX7_parted 6 = .ok (.iload 6, 2) := by decide +kernel
theorem dX7_parted_8 : decode cX7_parted 8 = .ok (.iload_n 3, 1) := by decide +kernel
theorem dX7_parted_9 : decode cX7_parted 9 = .ok (.if_icmp .ge 21, 3) := by decide +kernel
theorem dX7_parted_12 : decode cX7_parted 12 = .ok (.lload 4, 2) := by decide +kernel
theorem dX7_parted_14 : decode cX7_parted 14 = .ok (.aload_n 0, 1) := by decide +kernel
theorem dX7_parted_15 : decode cX7_parted 15 = .ok (.getfield 91, 3) := by decide +kernel
theorem dX7_parted_18 : decode cX7_parted 18 = .ok (.iload 6, 2) := by decide +kernel
theorem dX7_parted_20 : decode cX7_parted 20 = .ok (.laload, 1) := by decide +kernel
theorem dX7_parted_21 : decode cX7_parted 21 = .ok (.ladd, 1) := by decide +kernel
theorem dX7_parted_22 : decode cX7_parted 22 = .ok (.lstore 4, 2) := by decide +kernel
theorem dX7_parted_24 : decode cX7_parted 24 = .ok (.iinc 6 1, 3) := by decide +kernel
theorem dX7_parted_27 : decode cX7_parted 27 = .ok (.goto (-21), 3) := by decide +kernel
theorem dX7_parted_30 : decode cX7_parted 30 = .ok (.lload_n 1, 1) := by decide +kernel
theorem dX7_parted_31 : decode cX7_parted 31 = .ok (.lstore 6, 2) := by decide +kernel
theorem dX7_parted_33 : decode cX7_parted 33 = .ok (.iconst 0, 1) := by decide +kernel
theorem dX7_parted_34 : decode cX7_parted 34 = .ok (.istore 8, 2) := by decide +kernel
theorem dX7_parted_36 : decode cX7_parted 36 = .ok (.iload 8, 2) := by decide +kernel
theorem dX7_parted_38 : decode cX7_parted 38 = .ok (.iload_n 3, 1) := by decide +kernel
theorem dX7_parted_39 : decode cX7_parted 39 = .ok (.if_icmp .ge 59, 3) := by decide +kernel
theorem dX7_parted_42 : decode cX7_parted 42 = .ok (.aload_n 0, 1) := by decide +kernel
theorem dX7_parted_43 : decode cX7_parted 43 = .ok (.getfield 94, 3) := by decide +kernel
theorem dX7_parted_46 : decode cX7_parted 46 = .ok (.iload 8, 2) := by decide +kernel
theorem dX7_parted_48 : decode cX7_parted 48 = .ok (.lload_n 1, 1) := by decide +kernel
theorem dX7_parted_49 : decode cX7_parted 49 = .ok (.aload_n 0, 1) := by decide +kernel
theorem dX7_parted_50 : decode cX7_parted 50 = .ok (.getfield 91, 3) := by decide +kernel
theorem dX7_parted_53 : decode cX7_parted 53 = .ok (.iload 8, 2) := by decide +kernel
theorem dX7_parted_55 : decode cX7_parted 55 = .ok (.laload, 1) := by decide +kernel
theorem dX7_parted_56 : decode cX7_parted 56 = .ok (.lmul, 1) := by decide +kernel
theorem dX7_parted_57 : decode cX7_parted 57 = .ok (.lload 4, 2) := by decide +kernel
theorem dX7_parted_59 : decode cX7_parted 59 = .ok (.ldiv, 1) := by decide +kernel
theorem dX7_parted_60 : decode cX7_parted 60 = .ok (.lastore, 1) := by decide +kernel
theorem dX7_parted_61 : decode cX7_parted 61 = .ok (.aload_n 0, 1) := by decide +kernel
theorem dX7_parted_62 : decode cX7_parted 62 = .ok (.getfield 97, 3) := by decide +kernel
theorem dX7_parted_65 : decode cX7_parted 65 = .ok (.iload 8, 2) := by decide +kernel
theorem dX7_parted_67 : decode cX7_parted 67 = .ok (.lload_n 1, 1) := by decide +kernel
theorem dX7_parted_68 : decode cX7_parted 68 = .ok (.aload_n 0, 1) := by decide +kernel
theorem dX7_parted_69 : decode cX7_parted 69 = .ok (.getfield 91, 3) := by decide +kernel
theorem dX7_parted_72 : decode cX7_parted 72 = .ok (.iload 8, 2) := by decide +kernel
theorem dX7_parted_74 : decode cX7_parted 74 = .ok (.laload, 1) := by decide +kernel
theorem dX7_parted_75 : decode cX7_parted 75 = .ok (.lmul, 1) := by decide +kernel
theorem dX7_parted_76 : decode cX7_parted 76 = .ok (.lload 4, 2) := by decide +kernel
theorem dX7_parted_78 : decode cX7_parted 78 = .ok (.lrem, 1) := by decide +kernel
theorem dX7_parted_79 : decode cX7_parted 79 = .ok (.lastore, 1) := by decide +kernel
theorem dX7_parted_80 : decode cX7_parted 80 = .ok (.lload 6, 2) := by decide +kernel
theorem dX7_parted_82 : decode cX7_parted 82 = .ok (.aload_n 0, 1) := by decide +kernel
theorem dX7_parted_83 : decode cX7_parted 83 = .ok (.getfield 94, 3) := by decide +kernel
theorem dX7_parted_86 : decode cX7_parted 86 = .ok (.iload 8, 2) := by decide +kernel
theorem dX7_parted_88 : decode cX7_parted 88 = .ok (.laload, 1) := by decide +kernel
theorem dX7_parted_89 : decode cX7_parted 89 = .ok (.lsub, 1) := by decide +kernel
theorem dX7_parted_90 : decode cX7_parted 90 = .ok (.lstore 6, 2) := by decide +kernel
theorem dX7_parted_92 : decode cX7_parted 92 = .ok (.iinc 8 1, 3) := by decide +kernel
theorem dX7_parted_95 : decode cX7_parted 95 = .ok (.goto (-59), 3) := by decide +kernel
theorem dX7_parted_98 : decode cX7_parted 98 = .ok (.iconst 0, 1) := by decide +kernel
theorem dX7_parted_99 : decode cX7_parted 99 = .ok (.istore 8, 2) := by decide +kernel
theorem dX7_parted_101 : decode cX7_parted 101 = .ok (.iload 8, 2) := by decide +kernel
theorem dX7_parted_103 : decode cX7_parted 103 = .ok (.i2l, 1) := by decide +kernel
theorem dX7_parted_104 : decode cX7_parted 104 = .ok (.lload 6, 2) := by decide +kernel
theorem dX7_parted_106 : decode cX7_parted 106 = .ok (.lcmp, 1) := by decide +kernel
theorem dX7_parted_107 : decode cX7_parted 107 = .ok (.ifCond .ge 75, 3) := by decide +kernel
theorem dX7_parted_110 : decode cX7_parted 110 = .ok (.iconst 0, 1) := by decide +kernel
theorem dX7_parted_111 : decode cX7_parted 111 = .ok (.istore 9, 2) := by decide +kernel
theorem dX7_parted_113 : decode cX7_parted 113 = .ok (.iconst 1, 1) := by decide +kernel
theorem dX7_parted_114 : decode cX7_parted 114 = .ok (.istore 10, 2) := by decide +kernel
theorem dX7_parted_116 : decode cX7_parted 116 = .ok (.iload 10, 2) := by decide +kernel
theorem dX7_parted_118 : decode cX7_parted 118 = .ok (.iload_n 3, 1) := by decide +kernel
theorem dX7_parted_119 : decode cX7_parted 119 = .ok (.if_icmp .ge 36, 3) := by decide +kernel
theorem dX7_parted_122 : decode cX7_parted 122 = .ok (.aload_n 0, 1) := by decide +kernel
theorem dX7_parted_123 : decode cX7_parted 123 = .ok (.getfield 97, 3) := by decide +kernel
theorem dX7_parted_126 : decode cX7_parted 126 = .ok (.iload 10, 2) := by decide +kernel
theorem dX7_parted_128 : decode cX7_parted 128 = .ok (.laload, 1) := by decide +kernel
theorem dX7_parted_129 : decode cX7_parted 129 = .ok (.aload_n 0, 1) := by decide +kernel
theorem dX7_parted_130 : decode cX7_parted 130 = .ok (.getfield 97, 3) := by decide +kernel
theorem dX7_parted_133 : decode cX7_parted 133 = .ok (.iload 9, 2) := by decide +kernel
theorem dX7_parted_135 : decode cX7_parted 135 = .ok (.laload, 1) := by decide +kernel
theorem dX7_parted_136 : decode cX7_parted 136 = .ok (.lcmp, 1) := by decide +kernel
theorem dX7_parted_137 : decode cX7_parted 137 = .ok (.ifCond .le 8, 3) := by decide +kernel
theorem dX7_parted_140 : decode cX7_parted 140 = .ok (.iload 10, 2) := by decide +kernel
theorem dX7_parted_142 : decode cX7_parted 142 = .ok (.goto 5, 3) := by decide +kernel
theorem dX7_parted_145 : decode cX7_parted 145 = .ok (.iload 9, 2) := by decide +kernel
theorem dX7_parted_147 : decode cX7_parted 147 = .ok (.istore 9, 2) := by decide +kernel
theorem dX7_parted_149 : decode cX7_parted 149 = .ok (.iinc 10 1, 3) := by decide +kernel
theorem dX7_parted_152 : decode cX7_parted 152 = .ok (.goto (-36), 3) := by decide +kernel
theorem dX7_parted_155 : decode cX7_parted 155 = .ok (.aload_n 0, 1) := by decide +kernel
theorem dX7_parted_156 : decode cX7_parted 156 = .ok (.getfield 94, 3) := by decide +kernel
theorem dX7_parted_159 : decode cX7_parted 159 = .ok (.iload 9, 2) := by decide +kernel
theorem dX7_parted_161 : decode cX7_parted 161 = .ok (.dup2, 1) := by decide +kernel
theorem dX7_parted_162 : decode cX7_parted 162 = .ok (.laload, 1) := by decide +kernel
theorem dX7_parted_163 : decode cX7_parted 163 = .ok (.lconst 1, 1) := by decide +kernel
theorem dX7_parted_164 : decode cX7_parted 164 = .ok (.ladd, 1) := by decide +kernel
theorem dX7_parted_165 : decode cX7_parted 165 = .ok (.lastore, 1) := by decide +kernel
theorem dX7_parted_166 : decode cX7_parted 166 = .ok (.aload_n 0, 1) := by decide +kernel
theorem dX7_parted_167 : decode cX7_parted 167 = .ok (.getfield 97, 3) := by decide +kernel
theorem dX7_parted_170 : decode cX7_parted 170 = .ok (.iload 9, 2) := by decide +kernel
theorem dX7_parted_172 : decode cX7_parted 172 = .ok (.ldc2_w 179, 3) := by decide +kernel
theorem dX7_parted_175 : decode cX7_parted 175 = .ok (.lastore, 1) := by decide +kernel
theorem dX7_parted_176 : decode cX7_parted 176 = .ok (.iinc 8 1, 3) := by decide +kernel
theorem dX7_parted_179 : decode cX7_parted 179 = .ok (.goto (-78), 3) := by decide +kernel
theorem dX7_parted_182 : decode cX7_parted 182 = .ok (.return_, 1) := by decide +kernel
set_option maxRecDepth 20000 in
theorem ggX7_interest_X7_isUnitMonth : GoodIn wsX7_interest wsX7_isUnitMonth := goodIn_r _ [9, 10, 11, 12, 13, 14, 8, 15, 71, 72, 73, 74, 75, 76, 77, 78, 79, 80, 81, 82, 83, 84, 85, 86, 87, 88, 89, 90, 91, 92, 93, 94, 95, 96, 97, 98, 99, 100, 101, 102, 103, 104, 105, 106, 107, 108, 109, 110] (by decide +kernel) (by decide +kernel)
set_option maxRecDepth 20000 in
theorem gX7_interest_X7_isUnitMonth : GoodIn wsX7_interest (wsV RX7 181 RX7 yX7_isUnitMonth wsX7_isUnitMonth) := goodIn_app (goodIn_of _ (by decide +kernel)) ggX7_interest_X7_isUnitMonth
set_option maxRecDepth 20000 in
theorem ggX7_interest_X7_isOwner : GoodIn wsX7_interest wsX7_isOwner := goodIn_r _ [18, 13, 14, 8, 15] (by decide +kernel) (by decide +kernel)
set_option maxRecDepth 20000 in
theorem gX7_interest_X7_isOwner : GoodIn wsX7_interest (va_wsS RX7 132 yX7_isOwner wsX7_isOwner) := goodIn_app (goodIn_of _ (by decide +kernel)) ggX7_interest_X7_isOwner
set_option maxRecDepth 20000 in
theorem ggX7_interest_X7_goes : GoodIn wsX7_interest wsX7_goes := goodIn_r _ [22, 23, 71, 72, 73, 74, 75, 76, 77, 78, 79, 80, 81, 82, 83, 84, 85, 86, 87, 88, 89, 90, 91, 92, 93, 94, 95, 96, 97, 98, 99, 100, 101, 102, 103, 104, 105, 106, 107, 108, 109, 110] (by decide +kernel) (by decide +kernel)
set_option maxRecDepth 20000 in
theorem gX7_interest_X7_goes : GoodIn wsX7_interest (wsV RX7 128 RX7 yX7_goes wsX7_goes) := goodIn_app (goodIn_of _ (by decide +kernel)) ggX7_interest_X7_goes
set_option maxRecDepth 20000 in
theorem ggX7_interest_X7_decks : GoodIn wsX7_interest wsX7_decks := goodIn_r _ [27, 2, 28, 29, 30, 31, 32, 33, 34, 35, 36, 8, 37, 38, 39, 40, 41, 42, 43, 44, 45, 46, 47, 48, 49, 50, 51, 52, 53, 54, 55, 56, 57, 58, 59, 60, 61, 62, 63, 64, 71, 72, 73, 74, 75, 76, 77, 78, 79, 80, 81, 82, 83, 84, 85, 86, 87, 88, 89, 90, 91, 92, 93, 94, 95, 96, 97, 98, 99, 100, 101, 102, 103, 104, 105, 106, 107, 108, 109, 110] (by decide +kernel) (by decide +kernel)
set_option maxRecDepth 20000 in
theorem gX7_interest_X7_decks : GoodIn wsX7_interest (wsV RX7 184 RX7 yX7_decks wsX7_decks) := goodIn_app (goodIn_of _ (by decide +kernel)) ggX7_interest_X7_decks
set_option maxRecDepth 20000 in
theorem ggX7_interest_X7_parted : GoodIn wsX7_interest wsX7_parted := goodIn_r _ [68, 1, 4, 69, 70, 71, 72, 73, 74, 75, 76, 77, 78, 79, 80, 81, 82, 83, 84, 85, 86, 87, 88, 89, 90, 91, 92, 93, 94, 95, 96, 97, 98, 99, 100, 101, 102, 103, 104, 105, 106, 107, 108, 109, 110] (by decide +kernel) (by decide +kernel)
set_option maxRecDepth 20000 in
theorem gX7_interest_X7_parted : GoodIn wsX7_interest (wsV RX7 190 RX7 yX7_parted wsX7_parted) := goodIn_app (goodIn_of _ (by decide +kernel)) ggX7_interest_X7_parted
theorem dX7_interest_0 : decode cX7_interest 0 = .ok (.aload_n 0, 1) := by decide +kernel
theorem dX7_interest_1 : decode cX7_interest 1 = .ok (.aload_n 0, 1) := by decide +kernel
theorem dX7_interest_2 : decode cX7_interest 2 = .ok (.iload_n 1, 1) := by decide +kernel
theorem dX7_interest_3 : decode cX7_interest 3 = .ok (.iload_n 2, 1) := by decide +kernel
theorem dX7_interest_4 : decode cX7_interest 4 = .ok (.invokevirtual 181, 3) := by decide +kernel
theorem dX7_interest_7 : decode cX7_interest 7 = .ok (.ifCond .eq 14, 3) := by decide +kernel
theorem dX7_interest_10 : decode cX7_interest 10 = .ok (.iload_n 3, 1) := by decide +kernel
theorem dX7_interest_11 : decode cX7_interest 11 = .ok (.invokestatic 132, 3) := by decide +kernel
theorem dX7_interest_14 : decode cX7_interest 14 = .ok (.ifCond .eq 7, 3) := by decide +kernel
theorem dX7_interest_17 : decode cX7_interest 17 = .ok (.iconst 1, 1) := by decide +kernel
theorem dX7_interest_18 : decode cX7_interest 18 = .ok (.goto 4, 3) := by decide +kernel
theorem dX7_interest_21 : decode cX7_interest 21 = .ok (.iconst 0, 1) := by decide +kernel
theorem dX7_interest_22 : decode cX7_interest 22 = .ok (.iconst 1, 1) := by decide +kernel
theorem dX7_interest_23 : decode cX7_interest 23 = .ok (.iconst 1, 1) := by decide +kernel
theorem dX7_interest_24 : decode cX7_interest 24 = .ok (.invokevirtual 128, 3) := by decide +kernel
theorem dX7_interest_27 : decode cX7_interest 27 = .ok (.ifCond .ne 5, 3) := by decide +kernel
theorem dX7_interest_30 : decode cX7_interest 30 = .ok (.iconst 0, 1) := by decide +kernel
theorem dX7_interest_31 : decode cX7_interest 31 = .ok (.ireturn, 1) := by decide +kernel
theorem dX7_interest_32 : decode cX7_interest 32 = .ok (.aload_n 0, 1) := by decide +kernel
theorem dX7_interest_33 : decode cX7_interest 33 = .ok (.iload_n 1, 1) := by decide +kernel
theorem dX7_interest_34 : decode cX7_interest 34 = .ok (.iload_n 2, 1) := by decide +kernel
theorem dX7_interest_35 : decode cX7_interest 35 = .ok (.invokevirtual 184, 3) := by decide +kernel
theorem dX7_interest_38 : decode cX7_interest 38 = .ok (.iconst 0, 1) := by decide +kernel
theorem dX7_interest_39 : decode cX7_interest 39 = .ok (.istore 5, 2) := by decide +kernel
theorem dX7_interest_41 : decode cX7_interest 41 = .ok (.iload 5, 2) := by decide +kernel
theorem dX7_interest_43 : decode cX7_interest 43 = .ok (.bipush 20, 2) := by decide +kernel
theorem dX7_interest_45 : decode cX7_interest 45 = .ok (.if_icmp .ge 23, 3) := by decide +kernel
theorem dX7_interest_48 : decode cX7_interest 48 = .ok (.aload_n 0, 1) := by decide +kernel
theorem dX7_interest_49 : decode cX7_interest 49 = .ok (.getfield 91, 3) := by decide +kernel
theorem dX7_interest_52 : decode cX7_interest 52 = .ok (.iload 5, 2) := by decide +kernel
theorem dX7_interest_54 : decode cX7_interest 54 = .ok (.aload_n 0, 1) := by decide +kernel
theorem dX7_interest_55 : decode cX7_interest 55 = .ok (.getfield 88, 3) := by decide +kernel
theorem dX7_interest_58 : decode cX7_interest 58 = .ok (.iload 5, 2) := by decide +kernel
theorem dX7_interest_60 : decode cX7_interest 60 = .ok (.laload, 1) := by decide +kernel
theorem dX7_interest_61 : decode cX7_interest 61 = .ok (.lastore, 1) := by decide +kernel
theorem dX7_interest_62 : decode cX7_interest 62 = .ok (.iinc 5 1, 3) := by decide +kernel
theorem dX7_interest_65 : decode cX7_interest 65 = .ok (.goto (-24), 3) := by decide +kernel
theorem dX7_interest_68 : decode cX7_interest 68 = .ok (.aload_n 0, 1) := by decide +kernel
theorem dX7_interest_69 : decode cX7_interest 69 = .ok (.ldc2_w 188, 3) := by decide +kernel
theorem dX7_interest_72 : decode cX7_interest 72 = .ok (.bipush 20, 2) := by decide +kernel
theorem dX7_interest_74 : decode cX7_interest 74 = .ok (.invokevirtual 190, 3) := by decide +kernel
theorem dX7_interest_77 : decode cX7_interest 77 = .ok (.aload_n 0, 1) := by decide +kernel
theorem dX7_interest_78 : decode cX7_interest 78 = .ok (.getfield 94, 3) := by decide +kernel
theorem dX7_interest_81 : decode cX7_interest 81 = .ok (.iload 4, 2) := by decide +kernel
theorem dX7_interest_83 : decode cX7_interest 83 = .ok (.ifCond .eq 7, 3) := by decide +kernel
theorem dX7_interest_86 : decode cX7_interest 86 = .ok (.iload_n 3, 1) := by decide +kernel
theorem dX7_interest_87 : decode cX7_interest 87 = .ok (.goto 7, 3) := by decide +kernel
theorem dX7_interest_90 : decode cX7_interest 90 = .ok (.bipush 10, 2) := by decide +kernel
theorem dX7_interest_92 : decode cX7_interest 92 = .ok (.iload_n 3, 1) := by decide +kernel
theorem dX7_interest_93 : decode cX7_interest 93 = .ok (.iadd, 1) := by decide +kernel
theorem dX7_interest_94 : decode cX7_interest 94 = .ok (.laload, 1) := by decide +kernel
theorem dX7_interest_95 : decode cX7_interest 95 = .ok (.l2i, 1) := by decide +kernel
theorem dX7_interest_96 : decode cX7_interest 96 = .ok (.ireturn, 1) := by decide +kernel
set_option maxRecDepth 20000 in
theorem ggX7_revenueOf_X7_taxOf : GoodIn wsX7_revenueOf wsX7_taxOf := goodIn_r _ [10, 11, 12, 13, 14, 15, 16, 17, 18, 19, 20, 21, 22, 23, 24, 25, 26, 27, 28, 29, 30, 31, 32, 33, 34, 35, 36, 37, 38, 39, 40, 41, 42, 43, 44, 45, 46, 47, 48, 49, 50, 51] (by decide +kernel) (by decide +kernel)
set_option maxRecDepth 20000 in
theorem gX7_revenueOf_X7_taxOf : GoodIn wsX7_revenueOf (wsV RX7 167 RX7 yX7_taxOf wsX7_taxOf) := goodIn_app (goodIn_of _ (by decide +kernel)) ggX7_revenueOf_X7_taxOf
theorem dX7_revenueOf_0 : decode cX7_revenueOf 0 = .ok (.iconst 0, 1) := by decide +kernel
theorem dX7_revenueOf_1 : decode cX7_revenueOf 1 = .ok (.istore_n 3, 1) := by decide +kernel
theorem dX7_revenueOf_2 : decode cX7_revenueOf 2 = .ok (.iconst 0, 1) := by decide +kernel
theorem dX7_revenueOf_3 : decode cX7_revenueOf 3 = .ok (.istore 4, 2) := by decide +kernel
theorem dX7_revenueOf_5 : decode cX7_revenueOf 5 = .ok (.iload 4, 2) := by decide +kernel
theorem dX7_revenueOf_7 : decode cX7_revenueOf 7 = .ok (.aload_n 0, 1) := by decide +kernel
theorem dX7_revenueOf_8 : decode cX7_revenueOf 8 = .ok (.getfield 152, 3) := by decide +kernel
theorem dX7_revenueOf_11 : decode cX7_revenueOf 11 = .ok (.if_icmp .ge 52, 3) := by decide +kernel
theorem dX7_revenueOf_14 : decode cX7_revenueOf 14 = .ok (.iload_n 3, 1) := by decide +kernel
theorem dX7_revenueOf_15 : decode cX7_revenueOf 15 = .ok (.aload_n 0, 1) := by decide +kernel
theorem dX7_revenueOf_16 : decode cX7_revenueOf 16 = .ok (.getfield 55, 3) := by decide +kernel
theorem dX7_revenueOf_19 : decode cX7_revenueOf 19 = .ok (.iload 4, 2) := by decide +kernel
theorem dX7_revenueOf_21 : decode cX7_revenueOf 21 = .ok (.iaload, 1) := by decide +kernel
theorem dX7_revenueOf_22 : decode cX7_revenueOf 22 = .ok (.iload_n 1, 1) := by decide +kernel
theorem dX7_revenueOf_23 : decode cX7_revenueOf 23 = .ok (.if_icmp .ne 31, 3) := by decide +kernel
theorem dX7_revenueOf_26 : decode cX7_revenueOf 26 = .ok (.aload_n 0, 1) := by decide +kernel
theorem dX7_revenueOf_27 : decode cX7_revenueOf 27 = .ok (.getfield 58, 3) := by decide +kernel
theorem dX7_revenueOf_30 : decode cX7_revenueOf 30 = .ok (.bipush 61, 2) := by decide +kernel
theorem dX7_revenueOf_32 : decode cX7_revenueOf 32 = .ok (.iload 4, 2) := by decide +kernel
theorem dX7_revenueOf_34 : decode cX7_revenueOf 34 = .ok (.imul, 1) := by decide +kernel
