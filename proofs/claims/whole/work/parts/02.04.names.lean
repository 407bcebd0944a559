theorem dX6_cost_24 : decode cX6_cost 24 = .ok (.ldc 198, 2) := by decide +kernel
theorem dX6_cost_26 : decode cX6_cost 26 = .ok (.invokespecial 113, 3) := by decide +kernel
theorem dX6_cost_29 : decode cX6_cost 29 = .ok (.athrow, 1) := by decide +kernel
theorem dX6_cost_30 : decode cX6_cost 30 = .ok (.iload_n 3, 1) := by decide +kernel
theorem dX6_cost_31 : decode cX6_cost 31 = .ok (.iconst 1, 1) := by decide +kernel
theorem dX6_cost_32 : decode cX6_cost 32 = .ok (.if_icmp .lt 9, 3) := by decide +kernel
theorem dX6_cost_35 : decode cX6_cost 35 = .ok (.iload_n 3, 1) := by decide +kernel
theorem dX6_cost_36 : decode cX6_cost 36 = .ok (.ldc 213, 2) := by decide +kernel
theorem dX6_cost_38 : decode cX6_cost 38 = .ok (.if_icmp .le 13, 3) := by decide +kernel
theorem dX6_cost_41 : decode cX6_cost 41 = .ok (.new 93, 3) := by decide +kernel
theorem dX6_cost_44 : decode cX6_cost 44 = .ok (.dup, 1) := by decide +kernel
theorem dX6_cost_45 : decode cX6_cost 45 = .ok (.ldc 214, 2) := by decide +kernel
theorem dX6_cost_47 : decode cX6_cost 47 = .ok (.invokespecial 97, 3) := by decide +kernel
theorem dX6_cost_50 : decode cX6_cost 50 = .ok (.athrow, 1) := by decide +kernel
theorem dX6_cost_51 : decode cX6_cost 51 = .ok (.iload_n 2, 1) := by decide +kernel
theorem dX6_cost_52 : decode cX6_cost 52 = .ok (.aload 4, 2) := by decide +kernel
theorem dX6_cost_54 : decode cX6_cost 54 = .ok (.getfield 202, 3) := by decide +kernel
theorem dX6_cost_57 : decode cX6_cost 57 = .ok (.getfield 203, 3) := by decide +kernel
theorem dX6_cost_60 : decode cX6_cost 60 = .ok (.if_icmp .lt 17, 3) := by decide +kernel
theorem dX6_cost_63 : decode cX6_cost 63 = .ok (.aload 4, 2) := by decide +kernel
theorem dX6_cost_65 : decode cX6_cost 65 = .ok (.getfield 216, 3) := by decide +kernel
theorem dX6_cost_68 : decode cX6_cost 68 = .ok (.iload_n 2, 1) := by decide +kernel
theorem dX6_cost_69 : decode cX6_cost 69 = .ok (.iaload, 1) := by decide +kernel
theorem dX6_cost_70 : decode cX6_cost 70 = .ok (.iload_n 3, 1) := by decide +kernel
theorem dX6_cost_71 : decode cX6_cost 71 = .ok (.iadd, 1) := by decide +kernel
theorem dX6_cost_72 : decode cX6_cost 72 = .ok (.ldc 219, 2) := by decide +kernel
theorem dX6_cost_74 : decode cX6_cost 74 = .ok (.if_icmp .le 13, 3) := by decide +kernel
theorem dX6_cost_77 : decode cX6_cost 77 = .ok (.new 100, 3) := by decide +kernel
theorem dX6_cost_80 : decode cX6_cost 80 = .ok (.dup, 1) := by decide +kernel
theorem dX6_cost_81 : decode cX6_cost 81 = .ok (.ldc 220, 2) := by decide +kernel
theorem dX6_cost_83 : decode cX6_cost 83 = .ok (.invokespecial 104, 3) := by decide +kernel
theorem dX6_cost_86 : decode cX6_cost 86 = .ok (.athrow, 1) := by decide +kernel
theorem dX6_cost_87 : decode cX6_cost 87 = .ok (.aload 4, 2) := by decide +kernel
theorem dX6_cost_89 : decode cX6_cost 89 = .ok (.getfield 216, 3) := by decide +kernel
theorem dX6_cost_92 : decode cX6_cost 92 = .ok (.iload_n 2, 1) := by decide +kernel
theorem dX6_cost_93 : decode cX6_cost 93 = .ok (.dup2, 1) := by decide +kernel
theorem dX6_cost_94 : decode cX6_cost 94 = .ok (.iaload, 1) := by decide +kernel
theorem dX6_cost_95 : decode cX6_cost 95 = .ok (.iload_n 3, 1) := by decide +kernel
theorem dX6_cost_96 : decode cX6_cost 96 = .ok (.iadd, 1) := by decide +kernel
theorem dX6_cost_97 : decode cX6_cost 97 = .ok (.iastore, 1) := by decide +kernel
theorem dX6_cost_98 : decode cX6_cost 98 = .ok (.aload 4, 2) := by decide +kernel
theorem dX6_cost_100 : decode cX6_cost 100 = .ok (.getfield 202, 3) := by decide +kernel
theorem dX6_cost_103 : decode cX6_cost 103 = .ok (.getfield 222, 3) := by decide +kernel
theorem dX6_cost_106 : decode cX6_cost 106 = .ok (.iload_n 2, 1) := by decide +kernel
theorem dX6_cost_107 : decode cX6_cost 107 = .ok (.dup2, 1) := by decide +kernel
theorem dX6_cost_108 : decode cX6_cost 108 = .ok (.iaload, 1) := by decide +kernel
theorem dX6_cost_109 : decode cX6_cost 109 = .ok (.iload_n 3, 1) := by decide +kernel
theorem dX6_cost_110 : decode cX6_cost 110 = .ok (.iadd, 1) := by decide +kernel
theorem dX6_cost_111 : decode cX6_cost 111 = .ok (.iastore, 1) := by decide +kernel
theorem dX6_cost_112 : decode cX6_cost 112 = .ok (.aload_n 0, 1) := by decide +kernel
theorem dX6_cost_113 : decode cX6_cost 113 = .ok (.iload_n 2, 1) := by decide +kernel
theorem dX6_cost_114 : decode cX6_cost 114 = .ok (.invokevirtual 141, 3) := by decide +kernel
theorem dX6_cost_117 : decode cX6_cost 117 = .ok (.aload 4, 2) := by decide +kernel
theorem dX6_cost_119 : decode cX6_cost 119 = .ok (.getfield 216, 3) := by decide +kernel
theorem dX6_cost_122 : decode cX6_cost 122 = .ok (.iload_n 2, 1) := by decide +kernel
theorem dX6_cost_123 : decode cX6_cost 123 = .ok (.iaload, 1) := by decide +kernel
theorem dX6_cost_124 : decode cX6_cost 124 = .ok (.ireturn, 1) := by decide +kernel
set_option maxRecDepth 20000 in
theorem ggX6_tax_X6_isMonth : GoodIn wsX6_tax wsX6_isMonth := goodIn_r _ [10, 11, 25, 26, 27, 28, 29, 30, 31, 32, 33, 34, 35, 36, 37, 38, 39, 40, 41, 42, 43, 44] (by decide +kernel) (by decide +kernel)
set_option maxRecDepth 20000 in
theorem gX6_tax_X6_isMonth : GoodIn wsX6_tax (wsV RX6 125 RX6 yX6_isMonth wsX6_isMonth) := goodIn_app (goodIn_of _ (by decide +kernel)) ggX6_tax_X6_isMonth
set_option maxRecDepth 20000 in
theorem ggX6_tax_X6_taxIn : GoodIn wsX6_tax wsX6_taxIn := goodIn_r _ [15, 5, 25, 26, 27, 28, 29, 30, 31, 32, 33, 34, 35, 36, 37, 38, 39, 40, 41, 42, 43, 44] (by decide +kernel) (by decide +kernel)
set_option maxRecDepth 20000 in
theorem gX6_tax_X6_taxIn : GoodIn wsX6_tax (wsV RX6 227 RX6 yX6_taxIn wsX6_taxIn) := goodIn_app (goodIn_of _ (by decide +kernel)) ggX6_tax_X6_taxIn
set_option maxRecDepth 20000 in
theorem ggX6_tax_X6_unsettle : GoodIn wsX6_tax wsX6_unsettle := goodIn_r _ [19, 20, 21, 22, 23, 24, 25, 26, 27, 28, 29, 30, 31, 32, 33, 34, 35, 36, 37, 38, 39, 40, 41, 42, 43, 44] (by decide +kernel) (by decide +kernel)
set_option maxRecDepth 20000 in
theorem gX6_tax_X6_unsettle : GoodIn wsX6_tax (wsV RX6 141 RX6 yX6_unsettle wsX6_unsettle) := goodIn_app (goodIn_of _ (by decide +kernel)) ggX6_tax_X6_unsettle
theorem dX6_tax_0 : decode cX6_tax 0 = .ok (.aload_n 0, 1) := by decide +kernel
theorem dX6_tax_1 : decode cX6_tax 1 = .ok (.iload_n 2, 1) := by decide +kernel
theorem dX6_tax_2 : decode cX6_tax 2 = .ok (.invokevirtual 125, 3) := by decide +kernel
theorem dX6_tax_5 : decode cX6_tax 5 = .ok (.ifCond .ne 13, 3) := by decide +kernel
theorem dX6_tax_8 : decode cX6_tax 8 = .ok (.new 109, 3) := by decide +kernel
theorem dX6_tax_11 : decode cX6_tax 11 = .ok (.dup, 1) := by decide +kernel
theorem dX6_tax_12 : decode cX6_tax 12 = .ok (.ldc 223, 2) := by decide +kernel
theorem dX6_tax_14 : decode cX6_tax 14 = .ok (.invokespecial 113, 3) := by decide +kernel
theorem dX6_tax_17 : decode cX6_tax 17 = .ok (.athrow, 1) := by decide +kernel
theorem dX6_tax_18 : decode cX6_tax 18 = .ok (.iload_n 1, 1) := by decide +kernel
theorem dX6_tax_19 : decode cX6_tax 19 = .ok (.ifCond .lt 9, 3) := by decide +kernel
theorem dX6_tax_22 : decode cX6_tax 22 = .ok (.iload_n 1, 1) := by decide +kernel
theorem dX6_tax_23 : decode cX6_tax 23 = .ok (.bipush 50, 2) := by decide +kernel
theorem dX6_tax_25 : decode cX6_tax 25 = .ok (.if_icmp .le 13, 3) := by decide +kernel
theorem dX6_tax_28 : decode cX6_tax 28 = .ok (.new 93, 3) := by decide +kernel
theorem dX6_tax_31 : decode cX6_tax 31 = .ok (.dup, 1) := by decide +kernel
theorem dX6_tax_32 : decode cX6_tax 32 = .ok (.ldc 225, 2) := by decide +kernel
theorem dX6_tax_34 : decode cX6_tax 34 = .ok (.invokespecial 97, 3) := by decide +kernel
theorem dX6_tax_37 : decode cX6_tax 37 = .ok (.athrow, 1) := by decide +kernel
theorem dX6_tax_38 : decode cX6_tax 38 = .ok (.aload_n 0, 1) := by decide +kernel
theorem dX6_tax_39 : decode cX6_tax 39 = .ok (.iload_n 2, 1) := by decide +kernel
theorem dX6_tax_40 : decode cX6_tax 40 = .ok (.invokevirtual 227, 3) := by decide +kernel
theorem dX6_tax_43 : decode cX6_tax 43 = .ok (.istore_n 3, 1) := by decide +kernel
theorem dX6_tax_44 : decode cX6_tax 44 = .ok (.aload_n 0, 1) := by decide +kernel
theorem dX6_tax_45 : decode cX6_tax 45 = .ok (.getfield 58, 3) := by decide +kernel
theorem dX6_tax_48 : decode cX6_tax 48 = .ok (.iload_n 2, 1) := by decide +kernel
theorem dX6_tax_49 : decode cX6_tax 49 = .ok (.iload_n 1, 1) := by decide +kernel
theorem dX6_tax_50 : decode cX6_tax 50 = .ok (.iastore, 1) := by decide +kernel
theorem dX6_tax_51 : decode cX6_tax 51 = .ok (.aload_n 0, 1) := by decide +kernel
theorem dX6_tax_52 : decode cX6_tax 52 = .ok (.iload_n 2, 1) := by decide +kernel
theorem dX6_tax_53 : decode cX6_tax 53 = .ok (.invokevirtual 141, 3) := by decide +kernel
theorem dX6_tax_56 : decode cX6_tax 56 = .ok (.iload_n 3, 1) := by decide +kernel
theorem dX6_tax_57 : decode cX6_tax 57 = .ok (.ireturn, 1) := by decide +kernel
set_option maxRecDepth 20000 in
theorem ggX6_consent_X6_unitAt : GoodIn wsX6_consent wsX6_unitAt := goodIn_r _ [9, 10, 36, 37, 38, 39, 40, 41, 42, 43, 44, 45, 46, 47, 48, 49, 50, 51, 52, 53, 54, 55] (by decide +kernel) (by decide +kernel)
set_option maxRecDepth 20000 in
theorem gX6_consent_X6_unitAt : GoodIn wsX6_consent (wsV RX6 183 RX6 yX6_unitAt wsX6_unitAt) := goodIn_app (goodIn_of _ (by decide +kernel)) ggX6_consent_X6_unitAt
set_option maxRecDepth 20000 in
theorem ggX6_consent_X6_isOwner : GoodIn wsX6_consent wsX6_isOwner := goodIn_r _ [13] (by decide +kernel) (by decide +kernel)
set_option maxRecDepth 20000 in
theorem gX6_consent_X6_isOwner : GoodIn wsX6_consent (va_wsS RX6 105 yX6_isOwner wsX6_isOwner) := goodIn_app (goodIn_of _ (by decide +kernel)) ggX6_consent_X6_isOwner
set_option maxRecDepth 20000 in
theorem ggX6_consent_X6_hasBit : GoodIn wsX6_consent wsX6_hasBit := goodIn_r _ [16] (by decide +kernel) (by decide +kernel)
set_option maxRecDepth 20000 in
theorem gX6_consent_X6_hasBit : GoodIn wsX6_consent (va_wsS RX6 175 yX6_hasBit wsX6_hasBit) := goodIn_app (goodIn_of _ (by decide +kernel)) ggX6_consent_X6_hasBit
set_option maxRecDepth 20000 in
theorem ggX6_consent_X6_withBit : GoodIn wsX6_consent wsX6_withBit := goodIn_r _ [19] (by decide +kernel) (by decide +kernel)
set_option maxRecDepth 20000 in
theorem gX6_consent_X6_withBit : GoodIn wsX6_consent (va_wsS RX6 236 yX6_withBit wsX6_withBit) := goodIn_app (goodIn_of _ (by decide +kernel)) ggX6_consent_X6_withBit
set_option maxRecDepth 20000 in
theorem ggX6_consent_X6_unsettle : GoodIn wsX6_consent wsX6_unsettle := goodIn_r _ [23, 24, 25, 26, 27, 28, 36, 37, 38, 39, 40, 41, 42, 43, 44, 45, 46, 47, 48, 49, 50, 51, 52, 53, 54, 55] (by decide +kernel) (by decide +kernel)
set_option maxRecDepth 20000 in
theorem gX6_consent_X6_unsettle : GoodIn wsX6_consent (wsV RX6 141 RX6 yX6_unsettle wsX6_unsettle) := goodIn_app (goodIn_of _ (by decide +kernel)) ggX6_consent_X6_unsettle
theorem dX6_consent_0 : decode cX6_consent 0 = .ok (.aload_n 0, 1) := by decide +kernel
theorem dX6_consent_1 : decode cX6_consent 1 = .ok (.iload_n 1, 1) := by decide +kernel
theorem dX6_consent_2 : decode cX6_consent 2 = .ok (.invokevirtual 183, 3) := by decide +kernel
theorem dX6_consent_5 : decode cX6_consent 5 = .ok (.astore 4, 2) := by decide +kernel
theorem dX6_consent_7 : decode cX6_consent 7 = .ok (.aload 4, 2) := by decide +kernel
theorem dX6_consent_9 : decode cX6_consent 9 = .ok (.ifnull 10, 3) := by decide +kernel
theorem dX6_consent_12 : decode cX6_consent 12 = .ok (.iload_n 2, 1) := by decide +kernel
theorem dX6_consent_13 : decode cX6_consent 13 = .ok (.invokestatic 105, 3) := by decide +kernel
theorem dX6_consent_16 : decode cX6_consent 16 = .ok (.ifCond .ne 13, 3) := by decide +kernel
theorem dX6_consent_19 : decode cX6_consent 19 = .ok (.new 109, 3) := by decide +kernel
theorem dX6_consent_22 : decode cX6_consent 22 = .ok (.dup, 1) := by decide +kernel
theorem dX6_consent_23 : decode cX6_consent 23 = .ok (.ldc 231, 2) := by decide +kernel
theorem dX6_consent_25 : decode cX6_consent 25 = .ok (.invokespecial 113, 3) := by decide +kernel
theorem dX6_consent_28 : decode cX6_consent 28 = .ok (.athrow, 1) := by decide +kernel
theorem dX6_consent_29 : decode cX6_consent 29 = .ok (.aload 4, 2) := by decide +kernel
theorem dX6_consent_31 : decode cX6_consent 31 = .ok (.getfield 233, 3) := by decide +kernel
theorem dX6_consent_34 : decode cX6_consent 34 = .ok (.aload_n 0, 1) := by decide +kernel
theorem dX6_consent_35 : decode cX6_consent 35 = .ok (.getfield 9, 3) := by decide +kernel
theorem dX6_consent_38 : decode cX6_consent 38 = .ok (.iaload, 1) := by decide +kernel
theorem dX6_consent_39 : decode cX6_consent 39 = .ok (.iload_n 2, 1) := by decide +kernel
theorem dX6_consent_40 : decode cX6_consent 40 = .ok (.invokestatic 175, 3) := by decide +kernel
theorem dX6_consent_43 : decode cX6_consent 43 = .ok (.ifCond .ne 7, 3) := by decide +kernel
theorem dX6_consent_46 : decode cX6_consent 46 = .ok (.iconst 1, 1) := by decide +kernel
theorem dX6_consent_47 : decode cX6_consent 47 = .ok (.goto 4, 3) := by decide +kernel
theorem dX6_consent_50 : decode cX6_consent 50 = .ok (.iconst 0, 1) := by decide +kernel
theorem dX6_consent_51 : decode cX6_consent 51 = .ok (.istore 5, 2) := by decide +kernel
theorem dX6_consent_53 : decode cX6_consent 53 = .ok (.aload_n 0, 1) := by decide +kernel
theorem dX6_consent_54 : decode cX6_consent 54 = .ok (.getfield 9, 3) := by decide +kernel
theorem dX6_consent_57 : decode cX6_consent 57 = .ok (.istore 6, 2) := by decide +kernel
theorem dX6_consent_59 : decode cX6_consent 59 = .ok (.iload 6, 2) := by decide +kernel
theorem dX6_consent_61 : decode cX6_consent 61 = .ok (.bipush 61, 2) := by decide +kernel
theorem dX6_consent_63 : decode cX6_consent 63 = .ok (.if_icmp .ge 38, 3) := by decide +kernel
theorem dX6_consent_66 : decode cX6_consent 66 = .ok (.aload 4, 2) := by decide +kernel
theorem dX6_consent_68 : decode cX6_consent 68 = .ok (.getfield 233, 3) := by decide +kernel
theorem dX6_consent_71 : decode cX6_consent 71 = .ok (.iload 6, 2) := by decide +kernel
theorem dX6_consent_73 : decode cX6_consent 73 = .ok (.aload 4, 2) := by decide +kernel
theorem dX6_consent_75 : decode cX6_consent 75 = .ok (.getfield 233, 3) := by decide +kernel
theorem dX6_consent_78 : decode cX6_consent 78 = .ok (.iload 6, 2) := by decide +kernel
theorem dX6_consent_80 : decode cX6_consent 80 = .ok (.iaload, 1) := by decide +kernel
theorem dX6_consent_81 : decode cX6_consent 81 = .ok (.iload_n 2, 1) := by decide +kernel
theorem dX6_consent_82 : decode cX6_consent 82 = .ok (.iload_n 3, 1) := by decide +kernel
theorem dX6_consent_83 : decode cX6_consent 83 = .ok (.ifCond .ne 7, 3) := by decide +kernel
theorem dX6_consent_86 : decode cX6_consent 86 = .ok (.iconst 1, 1) := by decide +kernel
theorem dX6_consent_87 : decode cX6_consent 87 = .ok (.goto 4, 3) := by decide +kernel
theorem dX6_consent_90 : decode cX6_consent 90 = .ok (.iconst 0, 1) := by decide +kernel
theorem dX6_consent_91 : decode cX6_consent 91 = .ok (.invokestatic 236, 3) := by decide +kernel
theorem dX6_consent_94 : decode cX6_consent 94 = .ok (.iastore, 1) := by decide +kernel
theorem dX6_consent_95 : decode cX6_consent 95 = .ok (.iinc 6 1, 3) := by decide +kernel
theorem dX6_consent_98 : decode cX6_consent 98 = .ok (.goto (-39), 3) := by decide +kernel
theorem dX6_consent_101 : decode cX6_consent 101 = .ok (.aload_n 0, 1) := by decide +kernel
theorem dX6_consent_102 : decode cX6_consent 102 = .ok (.aload_n 0, 1) := by decide +kernel
theorem dX6_consent_103 : decode cX6_consent 103 = .ok (.getfield 9, 3) := by decide +kernel
theorem dX6_consent_106 : decode cX6_consent 106 = .ok (.invokevirtual 141, 3) := by decide +kernel
theorem dX6_consent_109 : decode cX6_consent 109 = .ok (.iload 5, 2) := by decide +kernel
theorem dX6_consent_111 : decode cX6_consent 111 = .ok (.ireturn, 1) := by decide +kernel
set_option maxRecDepth 20000 in
theorem ggX6_penalty_X6_unsettle : GoodIn wsX6_penalty wsX6_unsettle := goodIn_r _ [8, 9, 10, 11, 12, 13, 14, 15, 16, 17, 18, 19, 20, 21, 22, 23, 24, 25, 26, 27, 28, 29, 30, 31, 32, 33] (by decide +kernel) (by decide +kernel)
set_option maxRecDepth 20000 in
theorem gX6_penalty_X6_unsettle : GoodIn wsX6_penalty (wsV RX6 141 RX6 yX6_unsettle wsX6_unsettle) := goodIn_app (goodIn_of _ (by decide +kernel)) ggX6_penalty_X6_unsettle
theorem dX6_penalty_0 : decode cX6_penalty 0 = .ok (.iload_n 1, 1) := by decide +kernel
theorem dX6_penalty_1 : decode cX6_penalty 1 = .ok (.bipush 100, 2) := by decide +kernel
theorem dX6_penalty_3 : decode cX6_penalty 3 = .ok (.if_icmp .lt 10, 3) := by decide +kernel
theorem dX6_penalty_6 : decode cX6_penalty 6 = .ok (.iload_n 1, 1) := by decide +kernel
theorem dX6_penalty_7 : decode cX6_penalty 7 = .ok (.sipush 500, 3) := by decide +kernel
theorem dX6_penalty_10 : decode cX6_penalty 10 = .ok (.if_icmp .le 13, 3) := by decide +kernel
theorem dX6_penalty_13 : decode cX6_penalty 13 = .ok (.new 93, 3) := by decide +kernel
theorem dX6_penalty_16 : decode cX6_penalty 16 = .ok (.dup, 1) := by decide +kernel
theorem dX6_penalty_17 : decode cX6_penalty 17 = .ok (.ldc 225, 2) := by decide +kernel
theorem dX6_penalty_19 : decode cX6_penalty 19 = .ok (.invokespecial 97, 3) := by decide +kernel
theorem dX6_penalty_22 : decode cX6_penalty 22 = .ok (.athrow, 1) := by decide +kernel
theorem dX6_penalty_23 : decode cX6_penalty 23 = .ok (.aload_n 0, 1) := by decide +kernel
theorem dX6_penalty_24 : decode cX6_penalty 24 = .ok (.getfield 62, 3) := by decide +kernel
theorem dX6_penalty_27 : decode cX6_penalty 27 = .ok (.istore_n 2, 1) := by decide +kernel
theorem dX6_penalty_28 : decode cX6_penalty 28 = .ok (.aload_n 0, 1) := by decide +kernel
theorem dX6_penalty_29 : decode cX6_penalty 29 = .ok (.iload_n 1, 1) := by decide +kernel
theorem dX6_penalty_30 : decode cX6_penalty 30 = .ok (.putfield 62, 3) := by decide +kernel
theorem dX6_penalty_33 : decode cX6_penalty 33 = .ok (.aload_n 0, 1) := by decide +kernel
theorem dX6_penalty_34 : decode cX6_penalty 34 = .ok (.iconst 0, 1) := by decide +kernel
theorem dX6_penalty_35 : decode cX6_penalty 35 = .ok (.invokevirtual 141, 3) := by decide +kernel
theorem dX6_penalty_38 : decode cX6_penalty 38 = .ok (.iload_n 2, 1) := by decide +kernel
theorem dX6_penalty_39 : decode cX6_penalty 39 = .ok (.ireturn, 1) := by decide +kernel
set_option maxRecDepth 20000 in
theorem ggX6_interest_X6_unitIn : GoodIn wsX6_interest wsX6_unitIn := goodIn_r _ [10, 11, 12, 13, 14, 15, 9, 16, 17, 105, 106, 107, 108, 109, 110, 111, 82, 83, 84, 85, 86, 87, 88, 89, 90, 91, 92, 93, 94, 95, 96, 97, 98, 99, 100, 101] (by decide +kernel) (by decide +kernel)
set_option maxRecDepth 20000 in
theorem gX6_interest_X6_unitIn : GoodIn wsX6_interest (wsV RX6 240 RX6 yX6_unitIn wsX6_unitIn) := goodIn_app (goodIn_of _ (by decide +kernel)) ggX6_interest_X6_unitIn
set_option maxRecDepth 20000 in
theorem ggX6_interest_X6_isOwner : GoodIn wsX6_interest wsX6_isOwner := goodIn_r _ [20] (by decide +kernel) (by decide +kernel)
set_option maxRecDepth 20000 in
theorem gX6_interest_X6_isOwner : GoodIn wsX6_interest (va_wsS RX6 105 yX6_isOwner wsX6_isOwner) := goodIn_app (goodIn_of _ (by decide +kernel)) ggX6_interest_X6_isOwner
set_option maxRecDepth 20000 in
theorem ggX6_interest_X6_layDeck : GoodIn wsX6_interest wsX6_layDeck := goodIn_r _ [24, 3, 25, 26, 27, 28, 29, 30, 31, 32, 33, 34, 35, 9, 36, 37, 38, 39, 40, 41, 42, 43, 44, 45, 46, 47, 48, 49, 50, 51, 52, 53, 54, 55, 56, 57, 58, 59, 60, 61, 62, 63, 64, 65, 66, 67, 68, 69, 70, 82, 83, 84, 85, 86, 87, 88, 89, 90, 91, 92, 93, 94, 95, 96, 97, 98, 99, 100, 101, 112, 113, 114, 102, 103, 104, 115, 116, 117, 118, 119, 120, 121, 122, 123, 124, 125, 105, 106, 107, 108, 109, 110, 111] (by decide +kernel) (by decide +kernel)
set_option maxRecDepth 20000 in
theorem gX6_interest_X6_layDeck : GoodIn wsX6_interest (wsV RX6 246 RX6 yX6_layDeck wsX6_layDeck) := goodIn_app (goodIn_of _ (by decide +kernel)) ggX6_interest_X6_layDeck
set_option maxRecDepth 20000 in
theorem ggX6_interest_X2_partOut : GoodIn wsX6_interest wsX2_partOut := goodIn_r _ [74, 32, 75, 76, 77, 78, 79, 30, 80, 81, 102, 103, 104] (by decide +kernel) (by decide +kernel)
set_option maxRecDepth 20000 in
theorem gX6_interest_X2_partOut : GoodIn wsX6_interest (wsV RX6 252 RX2 yX2_partOut wsX2_partOut) := goodIn_app (goodIn_of _ (by decide +kernel)) ggX6_interest_X2_partOut
theorem dX6_interest_0 : decode cX6_interest 0 = .ok (.aload_n 0, 1) := by decide +kernel
theorem dX6_interest_1 : decode cX6_interest 1 = .ok (.iload_n 1, 1) := by decide +kernel
theorem dX6_interest_2 : decode cX6_interest 2 = .ok (.iload_n 2, 1) := by decide +kernel
theorem dX6_interest_3 : decode cX6_interest 3 = .ok (.invokevirtual 240, 3) := by decide +kernel
theorem dX6_interest_6 : decode cX6_interest 6 = .ok (.astore 5, 2) := by decide +kernel
theorem dX6_interest_8 : decode cX6_interest 8 = .ok (.aload 5, 2) := by decide +kernel
theorem dX6_interest_10 : decode cX6_interest 10 = .ok (.ifnull 10, 3) := by decide +kernel
theorem dX6_interest_13 : decode cX6_interest 13 = .ok (.iload_n 3, 1) := by decide +kernel
theorem dX6_interest_14 : decode cX6_interest 14 = .ok (.invokestatic 105, 3) := by decide +kernel
theorem dX6_interest_17 : decode cX6_interest 17 = .ok (.ifCond .ne 13, 3) := by decide +kernel
theorem dX6_interest_20 : decode cX6_interest 20 = .ok (.new 109, 3) := by decide +kernel
theorem dX6_interest_23 : decode cX6_interest 23 = .ok (.dup, 1) := by decide +kernel
theorem dX6_interest_24 : decode cX6_interest 24 = .ok (.ldc 244, 2) := by decide +kernel
theorem dX6_interest_26 : decode cX6_interest 26 = .ok (.invokespecial 113, 3) := by decide +kernel
theorem dX6_interest_29 : decode cX6_interest 29 = .ok (.athrow, 1) := by decide +kernel
theorem dX6_interest_30 : decode cX6_interest 30 = .ok (.aload_n 0, 1) := by decide +kernel
theorem dX6_interest_31 : decode cX6_interest 31 = .ok (.aload 5, 2) := by decide +kernel
theorem dX6_interest_33 : decode cX6_interest 33 = .ok (.iload_n 2, 1) := by decide +kernel
theorem dX6_interest_34 : decode cX6_interest 34 = .ok (.invokevirtual 246, 3) := by decide +kernel
theorem dX6_interest_37 : decode cX6_interest 37 = .ok (.aload_n 0, 1) := by decide +kernel
theorem dX6_interest_38 : decode cX6_interest 38 = .ok (.getfield 86, 3) := by decide +kernel
theorem dX6_interest_41 : decode cX6_interest 41 = .ok (.ldc2_w 250, 3) := by decide +kernel
theorem dX6_interest_44 : decode cX6_interest 44 = .ok (.invokevirtual 252, 3) := by decide +kernel
theorem dX6_interest_47 : decode cX6_interest 47 = .ok (.aload_n 0, 1) := by decide +kernel
theorem dX6_interest_48 : decode cX6_interest 48 = .ok (.getfield 86, 3) := by decide +kernel
theorem dX6_interest_51 : decode cX6_interest 51 = .ok (.getfield 256, 3) := by decide +kernel
theorem dX6_interest_54 : decode cX6_interest 54 = .ok (.iload 4, 2) := by decide +kernel
theorem dX6_interest_56 : decode cX6_interest 56 = .ok (.ifCond .eq 7, 3) := by decide +kernel
theorem dX6_interest_59 : decode cX6_interest 59 = .ok (.iload_n 3, 1) := by decide +kernel
theorem dX6_interest_60 : decode cX6_interest 60 = .ok (.goto 7, 3) := by decide +kernel
theorem dX6_interest_63 : decode cX6_interest 63 = .ok (.bipush 10, 2) := by decide +kernel
theorem dX6_interest_65 : decode cX6_interest 65 = .ok (.iload_n 3, 1) := by decide +kernel
theorem dX6_interest_66 : decode cX6_interest 66 = .ok (.iadd, 1) := by decide +kernel
theorem dX6_interest_67 : decode cX6_interest 67 = .ok (.laload, 1) := by decide +kernel
theorem dX6_interest_68 : decode cX6_interest 68 = .ok (.l2i, 1) := by decide +kernel
theorem dX6_interest_69 : decode cX6_interest 69 = .ok (.ireturn, 1) := by decide +kernel
set_option maxRecDepth 20000 in
theorem ggX6_revenue_X6_unitIn : GoodIn wsX6_revenue wsX6_unitIn := goodIn_r _ [7, 8, 9, 10, 11, 12, 6, 13, 14, 26, 27, 28, 29, 30, 31, 32, 33, 34, 35, 36, 37, 38, 39, 40, 41, 42, 43, 44, 45, 46, 47, 48, 49, 50, 51, 52] (by decide +kernel) (by decide +kernel)
set_option maxRecDepth 20000 in
theorem gX6_revenue_X6_unitIn : GoodIn wsX6_revenue (wsV RX6 240 RX6 yX6_unitIn wsX6_unitIn) := goodIn_app (goodIn_of _ (by decide +kernel)) ggX6_revenue_X6_unitIn
set_option maxRecDepth 20000 in
theorem ggX6_revenue_X6_revenueOf : GoodIn wsX6_revenue wsX6_revenueOf := goodIn_r _ [18, 19, 20, 21, 22, 23, 6, 24, 25, 26, 27, 28, 29, 30, 31, 32, 33, 34, 35, 36, 37, 38, 39, 40, 41, 42, 43, 44, 45, 46, 47, 48, 49, 50, 51, 52] (by decide +kernel) (by decide +kernel)
set_option maxRecDepth 20000 in
theorem gX6_revenue_X6_revenueOf : GoodIn wsX6_revenue (wsV RX6 261 RX6 yX6_revenueOf wsX6_revenueOf) := goodIn_app (goodIn_of _ (by decide +kernel)) ggX6_revenue_X6_revenueOf
theorem dX6_revenue_0 : decode cX6_revenue 0 = .ok (.aload_n 0, 1) := by decide +kernel
theorem dX6_revenue_1 : decode cX6_revenue 1 = .ok (.iload_n 1, 1) := by decide +kernel
theorem dX6_revenue_2 : decode cX6_revenue 2 = .ok (.iload_n 2, 1) := by decide +kernel
theorem dX6_revenue_3 : decode cX6_revenue 3 = .ok (.invokevirtual 240, 3) := by decide +kernel
theorem dX6_revenue_6 : decode cX6_revenue 6 = .ok (.astore_n 3, 1) := by decide +kernel
theorem dX6_revenue_7 : decode cX6_revenue 7 = .ok (.aload_n 3, 1) := by decide +kernel
theorem dX6_revenue_8 : decode cX6_revenue 8 = .ok (.ifnonnull 14, 3) := by decide +kernel
theorem dX6_revenue_11 : decode cX6_revenue 11 = .ok (.new 109, 3) := by decide +kernel
theorem dX6_revenue_14 : decode cX6_revenue 14 = .ok (.dup, 1) := by decide +kernel
theorem dX6_revenue_15 : decode cX6_revenue 15 = .ok (.ldc_w 259, 3) := by decide +kernel
theorem dX6_revenue_18 : decode cX6_revenue 18 = .ok (.invokespecial 113, 3) := by decide +kernel
theorem dX6_revenue_21 : decode cX6_revenue 21 = .ok (.athrow, 1) := by decide +kernel
theorem dX6_revenue_22 : decode cX6_revenue 22 = .ok (.aload_n 0, 1) := by decide +kernel
theorem dX6_revenue_23 : decode cX6_revenue 23 = .ok (.aload_n 3, 1) := by decide +kernel
theorem dX6_revenue_24 : decode cX6_revenue 24 = .ok (.iload_n 2, 1) := by decide +kernel
theorem dX6_revenue_25 : decode cX6_revenue 25 = .ok (.invokevirtual 261, 3) := by decide +kernel
theorem dX6_revenue_28 : decode cX6_revenue 28 = .ok (.l2i, 1) := by decide +kernel
theorem dX6_revenue_29 : decode cX6_revenue 29 = .ok (.ireturn, 1) := by decide +kernel
set_option maxRecDepth 20000 in
theorem ggX6_due_X6_unitIn : GoodIn wsX6_due wsX6_unitIn := goodIn_r _ [8, 9, 10, 11, 12, 13, 7, 14, 15, 141, 142, 143, 144, 145, 146, 147, 148, 149, 150, 151, 152, 153, 154, 155, 156, 157, 158, 159, 160, 161, 162, 163, 164, 165, 166, 167] (by decide +kernel) (by decide +kernel)
set_option maxRecDepth 20000 in
theorem gX6_due_X6_unitIn : GoodIn wsX6_due (wsV RX6 240 RX6 yX6_unitIn wsX6_unitIn) := goodIn_app (goodIn_of _ (by decide +kernel)) ggX6_due_X6_unitIn
set_option maxRecDepth 20000 in
theorem ggX6_due_X6_isOwner : GoodIn wsX6_due wsX6_isOwner := goodIn_r _ [18] (by decide +kernel) (by decide +kernel)
set_option maxRecDepth 20000 in
theorem gX6_due_X6_isOwner : GoodIn wsX6_due (va_wsS RX6 105 yX6_isOwner wsX6_isOwner) := goodIn_app (goodIn_of _ (by decide +kernel)) ggX6_due_X6_isOwner
set_option maxRecDepth 20000 in
theorem ggX6_due_X6_settle : GoodIn wsX6_due wsX6_settle := goodIn_r _ [22, 23, 10, 15, 9, 24, 25, 26, 7, 27, 28, 29, 30, 31, 32, 33, 34, 35, 36, 37, 38, 39, 40, 41, 42, 43, 44, 45, 46, 47, 48, 49, 50, 51, 52, 53, 54, 55, 56, 57, 58, 59, 60, 61, 62, 63, 64, 65, 66, 67, 68, 69, 70, 71, 72, 73, 74, 75, 76, 77, 78, 79, 80, 81, 82, 83, 84, 85, 86, 87, 88, 89, 90, 91, 92, 93, 94, 95, 96, 97, 98, 99, 100, 101, 102, 103, 104, 105, 106, 107, 108, 3, 109, 110, 111, 112, 113, 114, 115, 116, 117, 118, 119, 120, 121, 122, 123, 124, 125, 126, 127, 128, 129, 130, 131, 132, 133, 134, 135, 136, 137, 138, 139, 140, 148, 149, 150, 151, 152, 153, 154, 155, 156, 157, 158, 159, 160, 161, 162, 163, 164, 165, 166, 167, 141, 142, 143, 144, 145, 146, 147, 168, 169, 170, 171, 172, 173, 174, 175, 176, 177, 178, 179, 180, 181, 182, 183, 184] (by decide +kernel) (by decide +kernel)
set_option maxRecDepth 20000 in
theorem gX6_due_X6_settle : GoodIn wsX6_due (wsV RX6 265 RX6 yX6_settle wsX6_settle) := goodIn_app (goodIn_of _ (by decide +kernel)) ggX6_due_X6_settle
theorem dX6_due_0 : decode cX6_due 0 = .ok (.aload_n 0, 1) := by decide +kernel
theorem dX6_due_1 : decode cX6_due 1 = .ok (.iload_n 1, 1) := by decide +kernel
theorem dX6_due_2 : decode cX6_due 2 = .ok (.iload_n 2, 1) := by decide +kernel
theorem dX6_due_3 : decode cX6_due 3 = .ok (.invokevirtual 240, 3) := by decide +kernel
theorem dX6_due_6 : decode cX6_due 6 = .ok (.astore 4, 2) := by decide +kernel
theorem dX6_due_8 : decode cX6_due 8 = .ok (.aload 4, 2) := by decide +kernel
theorem dX6_due_10 : decode cX6_due 10 = .ok (.ifnull 10, 3) := by decide +kernel
theorem dX6_due_13 : decode cX6_due 13 = .ok (.iload_n 3, 1) := by decide +kernel
theorem dX6_due_14 : decode cX6_due 14 = .ok (.invokestatic 105, 3) := by decide +kernel
theorem dX6_due_17 : decode cX6_due 17 = .ok (.ifCond .ne 13, 3) := by decide +kernel
theorem dX6_due_20 : decode cX6_due 20 = .ok (.new 109, 3) := by decide +kernel
theorem dX6_due_23 : decode cX6_due 23 = .ok (.dup, 1) := by decide +kernel
theorem dX6_due_24 : decode cX6_due 24 = .ok (.ldc 244, 2) := by decide +kernel
theorem dX6_due_26 : decode cX6_due 26 = .ok (.invokespecial 113, 3) := by decide +kernel
theorem dX6_due_29 : decode cX6_due 29 = .ok (.athrow, 1) := by decide +kernel
theorem dX6_due_30 : decode cX6_due 30 = .ok (.aload_n 0, 1) := by decide +kernel
theorem dX6_due_31 : decode cX6_due 31 = .ok (.invokevirtual 265, 3) := by decide +kernel
theorem dX6_due_34 : decode cX6_due 34 = .ok (.aload 4, 2) := by decide +kernel
theorem dX6_due_36 : decode cX6_due 36 = .ok (.getfield 268, 3) := by decide +kernel
theorem dX6_due_39 : decode cX6_due 39 = .ok (.iload_n 2, 1) := by decide +kernel
theorem dX6_due_40 : decode cX6_due 40 = .ok (.bipush 10, 2) := by decide +kernel
theorem dX6_due_42 : decode cX6_due 42 = .ok (.imul, 1) := by decide +kernel
theorem dX6_due_43 : decode cX6_due 43 = .ok (.iload_n 3, 1) := by decide +kernel
theorem dX6_due_44 : decode cX6_due 44 = .ok (.iadd, 1) := by decide +kernel
theorem dX6_due_45 : decode cX6_due 45 = .ok (.laload, 1) := by decide +kernel
theorem dX6_due_46 : decode cX6_due 46 = .ok (.l2i, 1) := by decide +kernel
theorem dX6_due_47 : decode cX6_due 47 = .ok (.ireturn, 1) := by decide +kernel
set_option maxRecDepth 20000 in
theorem ggX6_balance_X6_unitIn : GoodIn wsX6_balance wsX6_unitIn := goodIn_r _ [8, 9, 10, 11, 12, 13, 7, 14, 15, 141, 142, 143, 144, 145, 146, 147, 148, 149, 150, 151, 152, 153, 154, 155, 156, 157, 158, 159, 160, 161, 162, 163, 164, 165, 166, 167] (by decide +kernel) (by decide +kernel)
set_option maxRecDepth 20000 in
theorem gX6_balance_X6_unitIn : GoodIn wsX6_balance (wsV RX6 240 RX6 yX6_unitIn wsX6_unitIn) := goodIn_app (goodIn_of _ (by decide +kernel)) ggX6_balance_X6_unitIn
set_option maxRecDepth 20000 in
theorem ggX6_balance_X6_isOwner : GoodIn wsX6_balance wsX6_isOwner := goodIn_r _ [18] (by decide +kernel) (by decide +kernel)
set_option maxRecDepth 20000 in
theorem gX6_balance_X6_isOwner : GoodIn wsX6_balance (va_wsS RX6 105 yX6_isOwner wsX6_isOwner) := goodIn_app (goodIn_of _ (by decide +kernel)) ggX6_balance_X6_isOwner
set_option maxRecDepth 20000 in
theorem ggX6_balance_X6_settle : GoodIn wsX6_balance wsX6_settle := goodIn_r _ [22, 23, 10, 15, 9, 24, 25, 26, 7, 27, 28, 29, 30, 31, 32, 33, 34, 35, 36, 37, 38, 39, 40, 41, 42, 43, 44, 45, 46, 47, 48, 49, 50, 51, 52, 53, 54, 55, 56, 57, 58, 59, 60, 61, 62, 63, 64, 65, 66, 67, 68, 69, 70, 71, 72, 73, 74, 75, 76, 77, 78, 79, 80, 81, 82, 83, 84, 85, 86, 87, 88, 89, 90, 91, 92, 93, 3, 94, 95, 96, 97, 98, 99, 100, 101, 102, 103, 104, 105, 106, 107, 108, 109, 110, 111, 112, 113, 114, 115, 116, 117, 118, 119, 120, 121, 122, 123, 124, 125, 126, 127, 128, 129, 130, 131, 132, 133, 134, 135, 136, 137, 138, 139, 140, 148, 149, 150, 151, 152, 153, 154, 155, 156, 157, 158, 159, 160, 161, 162, 163, 164, 165, 166, 167, 141, 142, 143, 144, 145, 146, 147, 168, 169, 170, 171, 172, 173, 174, 175, 176, 177, 178, 179, 180, 181, 182, 183, 184] (by decide +kernel) (by decide +kernel)
set_option maxRecDepth 20000 in
theorem gX6_balance_X6_settle : GoodIn wsX6_balance (wsV RX6 265 RX6 yX6_settle wsX6_settle) := goodIn_app (goodIn_of _ (by decide +kernel)) ggX6_balance_X6_settle
theorem dX6_balance_0 : decode cX6_balance 0 = .ok (.aload_n 0, 1) := by decide +kernel
theorem dX6_balance_1 : decode cX6_balance 1 = .ok (.iload_n 1, 1) := by decide +kernel
theorem dX6_balance_2 : decode cX6_balance 2 = .ok (.iload_n 2, 1) := by decide +kernel
theorem dX6_balance_3 : decode cX6_balance 3 = .ok (.invokevirtual 240, 3) := by decide +kernel
theorem dX6_balance_6 : decode cX6_balance 6 = .ok (.astore 4, 2) := by decide +kernel
theorem dX6_balance_8 : decode cX6_balance 8 = .ok (.aload 4, 2) := by decide +kernel
theorem dX6_balance_10 : decode cX6_balance 10 = .ok (.ifnull 10, 3) := by decide +kernel
theorem dX6_balance_13 : decode cX6_balance 13 = .ok (.iload_n 3, 1) := by decide +kernel
theorem dX6_balance_14 : decode cX6_balance 14 = .ok (.invokestatic 105, 3) := by decide +kernel
theorem dX6_balance_17 : decode cX6_balance 17 = .ok (.ifCond .ne 13, 3) := by decide +kernel
theorem dX6_balance_20 : decode cX6_balance 20 = .ok (.new 109, 3) := by decide +kernel
theorem dX6_balance_23 : decode cX6_balance 23 = .ok (.dup, 1) := by decide +kernel
theorem dX6_balance_24 : decode cX6_balance 24 = .ok (.ldc 244, 2) := by decide +kernel
theorem dX6_balance_26 : decode cX6_balance 26 = .ok (.invokespecial 113, 3) := by decide +kernel
theorem dX6_balance_29 : decode cX6_balance 29 = .ok (.athrow, 1) := by decide +kernel
theorem dX6_balance_30 : decode cX6_balance 30 = .ok (.aload_n 0, 1) := by decide +kernel
theorem dX6_balance_31 : decode cX6_balance 31 = .ok (.invokevirtual 265, 3) := by decide +kernel
theorem dX6_balance_34 : decode cX6_balance 34 = .ok (.aload 4, 2) := by decide +kernel
theorem dX6_balance_36 : decode cX6_balance 36 = .ok (.getfield 271, 3) := by decide +kernel
theorem dX6_balance_39 : decode cX6_balance 39 = .ok (.iload_n 2, 1) := by decide +kernel
theorem dX6_balance_40 : decode cX6_balance 40 = .ok (.bipush 10, 2) := by decide +kernel
theorem dX6_balance_42 : decode cX6_balance 42 = .ok (.imul, 1) := by decide +kernel
theorem dX6_balance_43 : decode cX6_balance 43 = .ok (.iload_n 3, 1) := by decide +kernel
theorem dX6_balance_44 : decode cX6_balance 44 = .ok (.iadd, 1) := by decide +kernel
theorem dX6_balance_45 : decode cX6_balance 45 = .ok (.laload, 1) := by decide +kernel
theorem dX6_balance_46 : decode cX6_balance 46 = .ok (.lreturn, 1) := by decide +kernel
set_option maxRecDepth 20000 in
theorem ggX6_agrees_X6_unitIn : GoodIn wsX6_agrees wsX6_unitIn := goodIn_r _ [9, 10, 11, 12, 13, 14, 8, 15, 16, 138, 139, 140, 141, 142, 143, 144, 145, 146, 147, 148, 149, 150, 151, 152, 153, 154, 155, 156, 157, 158, 159, 160, 161, 162, 163, 164] (by decide +kernel) (by decide +kernel)
set_option maxRecDepth 20000 in
theorem gX6_agrees_X6_unitIn : GoodIn wsX6_agrees (wsV RX6 240 RX6 yX6_unitIn wsX6_unitIn) := goodIn_app (goodIn_of _ (by decide +kernel)) ggX6_agrees_X6_unitIn
set_option maxRecDepth 20000 in
theorem ggX6_agrees_X6_settle : GoodIn wsX6_agrees wsX6_settle := goodIn_r _ [20, 21, 11, 16, 10, 22, 23, 24, 8, 25, 26, 4, 27, 28, 29, 30, 31, 32, 33, 34, 35, 36, 37, 38, 39, 40, 41, 42, 43, 44, 45, 46, 47, 48, 49, 50, 51, 52, 53, 54, 55, 56, 57, 58, 59, 60, 61, 62, 63, 64, 65, 66, 67, 68, 69, 70, 71, 72, 73, 74, 75, 76, 77, 78, 79, 80, 81, 82, 83, 84, 85, 86, 87, 88, 89, 90, 91, 92, 93, 94, 95, 96, 97, 98, 99, 100, 101, 102, 103, 104, 105, 3, 106, 107, 108, 109, 110, 111, 112, 113, 114, 115, 116, 117, 118, 119, 120, 121, 122, 123, 124, 125, 126, 127, 128, 129, 130, 131, 132, 133, 134, 135, 136, 137, 145, 146, 147, 148, 149, 150, 151, 152, 153, 154, 155, 156, 157, 158, 159, 160, 161, 162, 163, 164, 138, 139, 140, 141, 142, 143, 144, 165, 166, 167, 168, 169, 170, 171, 172, 173, 174, 175, 176, 177, 178, 179, 180, 181] (by decide +kernel) (by decide +kernel)
set_option maxRecDepth 20000 in
theorem gX6_agrees_X6_settle : GoodIn wsX6_agrees (wsV RX6 265 RX6 yX6_settle wsX6_settle) := goodIn_app (goodIn_of _ (by decide +kernel)) ggX6_agrees_X6_settle
set_option maxRecDepth 20000 in
theorem ggX6_agrees_X6_revenueOf : GoodIn wsX6_agrees wsX6_revenueOf := goodIn_r _ [132, 26, 105, 133, 134, 135, 8, 136, 137, 138, 139, 140, 141, 142, 143, 144, 145, 146, 147, 148, 149, 150, 151, 152, 153, 154, 155, 156, 157, 158, 159, 160, 161, 162, 163, 164] (by decide +kernel) (by decide +kernel)
set_option maxRecDepth 20000 in
theorem gX6_agrees_X6_revenueOf : GoodIn wsX6_agrees (wsV RX6 261 RX6 yX6_revenueOf wsX6_revenueOf) := goodIn_app (goodIn_of _ (by decide +kernel)) ggX6_agrees_X6_revenueOf
theorem dX6_agrees_0 : decode cX6_agrees 0 = .ok (.aload_n 0, 1) := by decide +kernel
theorem dX6_agrees_1 : decode cX6_agrees 1 = .ok (.iload_n 1, 1) := by decide +kernel
theorem dX6_agrees_2 : decode cX6_agrees 2 = .ok (.iload_n 2, 1) := by decide +kernel
theorem dX6_agrees_3 : decode cX6_agrees 3 = .ok (.invokevirtual 240, 3) := by decide +kernel
theorem dX6_agrees_6 : decode cX6_agrees 6 = .ok (.astore_n 3, 1) := by decide +kernel
theorem dX6_agrees_7 : decode cX6_agrees 7 = .ok (.aload_n 3, 1) := by decide +kernel
theorem dX6_agrees_8 : decode cX6_agrees 8 = .ok (.ifnonnull 14, 3) := by decide +kernel
theorem dX6_agrees_11 : decode cX6_agrees 11 = .ok (.new 109, 3) := by decide +kernel
theorem dX6_agrees_14 : decode cX6_agrees 14 = .ok (.dup, 1) := by decide +kernel
theorem dX6_agrees_15 : decode cX6_agrees 15 = .ok (.ldc_w 259, 3) := by decide +kernel
theorem dX6_agrees_18 : decode cX6_agrees 18 = .ok (.invokespecial 113, 3) := by decide +kernel
theorem dX6_agrees_21 : decode cX6_agrees 21 = .ok (.athrow, 1) := by decide +kernel
theorem dX6_agrees_22 : decode cX6_agrees 22 = .ok (.aload_n 0, 1) := by decide +kernel
theorem dX6_agrees_23 : decode cX6_agrees 23 = .ok (.invokevirtual 265, 3) := by decide +kernel
theorem dX6_agrees_26 : decode cX6_agrees 26 = .ok (.lconst 0, 1) := by decide +kernel
theorem dX6_agrees_27 : decode cX6_agrees 27 = .ok (.lstore 4, 2) := by decide +kernel
theorem dX6_agrees_29 : decode cX6_agrees 29 = .ok (.iconst 0, 1) := by decide +kernel
theorem dX6_agrees_30 : decode cX6_agrees 30 = .ok (.istore 6, 2) := by decide +kernel
theorem dX6_agrees_32 : decode cX6_agrees 32 = .ok (.iload 6, 2) := by decide +kernel
theorem dX6_agrees_34 : decode cX6_agrees 34 = .ok (.bipush 10, 2) := by decide +kernel
theorem dX6_agrees_36 : decode cX6_agrees 36 = .ok (.if_icmp .ge 26, 3) := by decide +kernel
theorem dX6_agrees_39 : decode cX6_agrees 39 = .ok (.lload 4, 2) := by decide +kernel
theorem dX6_agrees_41 : decode cX6_agrees 41 = .ok (.aload_n 3, 1) := by decide +kernel
theorem dX6_agrees_42 : decode cX6_agrees 42 = .ok (.getfield 268, 3) := by decide +kernel
theorem dX6_agrees_45 : decode cX6_agrees 45 = .ok (.iload_n 2, 1) := by decide +kernel
theorem dX6_agrees_46 : decode cX6_agrees 46 = .ok (.bipush 10, 2) := by decide +kernel
theorem dX6_agrees_48 : decode cX6_agrees 48 = .ok (.imul, 1) := by decide +kernel
theorem dX6_agrees_49 : decode cX6_agrees 49 = .ok (.iload 6, 2) := by decide +kernel
theorem dX6_agrees_51 : decode cX6_agrees 51 = .ok (.iadd, 1) := by decide +kernel
theorem dX6_agrees_52 : decode cX6_agrees 52 = .ok (.laload, 1) := by decide +kernel
theorem dX6_agrees_53 : decode cX6_agrees 53 = .ok (.ladd, 1) := by decide +kernel
theorem dX6_agrees_54 : decode cX6_agrees 54 = .ok (.lstore 4, 2) := by decide +kernel
theorem dX6_agrees_56 : decode cX6_agrees 56 = .ok (.iinc 6 1, 3) := by decide +kernel
theorem dX6_agrees_59 : decode cX6_agrees 59 = .ok (.goto (-27), 3) := by decide +kernel
theorem dX6_agrees_62 : decode cX6_agrees 62 = .ok (.lload 4, 2) := by decide +kernel
theorem dX6_agrees_64 : decode cX6_agrees 64 = .ok (.aload_n 0, 1) := by decide +kernel
theorem dX6_agrees_65 : decode cX6_agrees 65 = .ok (.aload_n 3, 1) := by decide +kernel
theorem dX6_agrees_66 : decode cX6_agrees 66 = .ok (.iload_n 2, 1) := by decide +kernel
theorem dX6_agrees_67 : decode cX6_agrees 67 = .ok (.invokevirtual 261, 3) := by decide +kernel
theorem dX6_agrees_70 : decode cX6_agrees 70 = .ok (.aload_n 3, 1) := by decide +kernel
theorem dX6_agrees_71 : decode cX6_agrees 71 = .ok (.getfield 222, 3) := by decide +kernel
theorem dX6_agrees_74 : decode cX6_agrees 74 = .ok (.iload_n 2, 1) := by decide +kernel
theorem dX6_agrees_75 : decode cX6_agrees 75 = .ok (.iaload, 1) := by decide +kernel
theorem dX6_agrees_76 : decode cX6_agrees 76 = .ok (.i2l, 1) := by decide +kernel
theorem dX6_agrees_77 : decode cX6_agrees 77 = .ok (.lsub, 1) := by decide +kernel
theorem dX6_agrees_78 : decode cX6_agrees 78 = .ok (.lcmp, 1) := by decide +kernel
theorem dX6_agrees_79 : decode cX6_agrees 79 = .ok (.ifCond .ne 7, 3) := by decide +kernel
theorem dX6_agrees_82 : decode cX6_agrees 82 = .ok (.iconst 1, 1) := by decide +kernel
theorem dX6_agrees_83 : decode cX6_agrees 83 = .ok (.goto 4, 3) := by decide +kernel
theorem dX6_agrees_86 : decode cX6_agrees 86 = .ok (.iconst 0, 1) := by decide +kernel
theorem dX6_agrees_87 : decode cX6_agrees 87 = .ok (.ireturn, 1) := by decide +kernel
set_option maxRecDepth 20000 in
theorem ggX6_suspend_X6_isOwner : GoodIn wsX6_suspend wsX6_isOwner := goodIn_r _ [7] (by decide +kernel) (by decide +kernel)
set_option maxRecDepth 20000 in
theorem gX6_suspend_X6_isOwner : GoodIn wsX6_suspend (va_wsS RX6 105 yX6_isOwner wsX6_isOwner) := goodIn_app (goodIn_of _ (by decide +kernel)) ggX6_suspend_X6_isOwner
set_option maxRecDepth 20000 in
theorem ggX6_suspend_X6_hasBit : GoodIn wsX6_suspend wsX6_hasBit := goodIn_r _ [10] (by decide +kernel) (by decide +kernel)
set_option maxRecDepth 20000 in
theorem gX6_suspend_X6_hasBit : GoodIn wsX6_suspend (va_wsS RX6 175 yX6_hasBit wsX6_hasBit) := goodIn_app (goodIn_of _ (by decide +kernel)) ggX6_suspend_X6_hasBit
set_option maxRecDepth 20000 in
theorem ggX6_suspend_X6_withBit : GoodIn wsX6_suspend wsX6_withBit := goodIn_r _ [13] (by decide +kernel) (by decide +kernel)
set_option maxRecDepth 20000 in
theorem gX6_suspend_X6_withBit : GoodIn wsX6_suspend (va_wsS RX6 236 yX6_withBit wsX6_withBit) := goodIn_app (goodIn_of _ (by decide +kernel)) ggX6_suspend_X6_withBit
theorem dX6_suspend_0 : decode cX6_suspend 0 = .ok (.iload_n 1, 1) := by decide +kernel
theorem dX6_suspend_1 : decode cX6_suspend 1 = .ok (.invokestatic 105, 3) := by decide +kernel
theorem dX6_suspend_4 : decode cX6_suspend 4 = .ok (.ifCond .ne 13, 3) := by decide +kernel
theorem dX6_suspend_7 : decode cX6_suspend 7 = .ok (.new 109, 3) := by decide +kernel
theorem dX6_suspend_10 : decode cX6_suspend 10 = .ok (.dup, 1) := by decide +kernel
theorem dX6_suspend_11 : decode cX6_suspend 11 = .ok (.ldc 111, 2) := by decide +kernel
theorem dX6_suspend_13 : decode cX6_suspend 13 = .ok (.invokespecial 113, 3) := by decide +kernel
theorem dX6_suspend_16 : decode cX6_suspend 16 = .ok (.athrow, 1) := by decide +kernel
theorem dX6_suspend_17 : decode cX6_suspend 17 = .ok (.aload_n 0, 1) := by decide +kernel
theorem dX6_suspend_18 : decode cX6_suspend 18 = .ok (.getfield 65, 3) := by decide +kernel
theorem dX6_suspend_21 : decode cX6_suspend 21 = .ok (.iload_n 1, 1) := by decide +kernel
theorem dX6_suspend_22 : decode cX6_suspend 22 = .ok (.invokestatic 175, 3) := by decide +kernel
theorem dX6_suspend_25 : decode cX6_suspend 25 = .ok (.istore_n 3, 1) := by decide +kernel
theorem dX6_suspend_26 : decode cX6_suspend 26 = .ok (.aload_n 0, 1) := by decide +kernel
theorem dX6_suspend_27 : decode cX6_suspend 27 = .ok (.aload_n 0, 1) := by decide +kernel
theorem dX6_suspend_28 : decode cX6_suspend 28 = .ok (.getfield 65, 3) := by decide +kernel
theorem dX6_suspend_31 : decode cX6_suspend 31 = .ok (.iload_n 1, 1) := by decide +kernel
theorem dX6_suspend_32 : decode cX6_suspend 32 = .ok (.iload_n 2, 1) := by decide +kernel
theorem dX6_suspend_33 : decode cX6_suspend 33 = .ok (.invokestatic 236, 3) := by decide +kernel
theorem dX6_suspend_36 : decode cX6_suspend 36 = .ok (.putfield 65, 3) := by decide +kernel
theorem dX6_suspend_39 : decode cX6_suspend 39 = .ok (.iload_n 3, 1) := by decide +kernel
theorem dX6_suspend_40 : decode cX6_suspend 40 = .ok (.ireturn, 1) := by decide +kernel
theorem dX6_least_0 : decode cX6_least 0 = .ok (.iload_n 1, 1) := by decide +kernel
theorem dX6_least_1 : decode cX6_least 1 = .ok (.iconst 1, 1) := by decide +kernel
theorem dX6_least_2 : decode cX6_least 2 = .ok (.if_icmp .lt 10, 3) := by decide +kernel
theorem dX6_least_5 : decode cX6_least 5 = .ok (.iload_n 1, 1) := by decide +kernel
theorem dX6_least_6 : decode cX6_least 6 = .ok (.ldc_w 274, 3) := by decide +kernel
theorem dX6_least_9 : decode cX6_least 9 = .ok (.if_icmp .le 13, 3) := by decide +kernel
theorem dX6_least_12 : decode cX6_least 12 = .ok (.new 93, 3) := by decide +kernel
theorem dX6_least_15 : decode cX6_least 15 = .ok (.dup, 1) := by decide +kernel
theorem dX6_least_16 : decode cX6_least 16 = .ok (.ldc 214, 2) := by decide +kernel
theorem dX6_least_18 : decode cX6_least 18 = .ok (.invokespecial 97, 3) := by decide +kernel
theorem dX6_least_21 : decode cX6_least 21 = .ok (.athrow, 1) := by decide +kernel
theorem dX6_least_22 : decode cX6_least 22 = .ok (.aload_n 0, 1) := by decide +kernel
theorem dX6_least_23 : decode cX6_least 23 = .ok (.getfield 68, 3) := by decide +kernel
theorem dX6_least_26 : decode cX6_least 26 = .ok (.istore_n 2, 1) := by decide +kernel
theorem dX6_least_27 : decode cX6_least 27 = .ok (.aload_n 0, 1) := by decide +kernel
theorem dX6_least_28 : decode cX6_least 28 = .ok (.iload_n 1, 1) := by decide +kernel
theorem dX6_least_29 : decode cX6_least 29 = .ok (.putfield 68, 3) := by decide +kernel
theorem dX6_least_32 : decode cX6_least 32 = .ok (.iload_n 2, 1) := by decide +kernel
theorem dX6_least_33 : decode cX6_least 33 = .ok (.ireturn, 1) := by decide +kernel
set_option maxRecDepth 20000 in
theorem ggX6_payDay_X6_settle : GoodIn wsX6_payDay wsX6_settle := goodIn_r _ [8, 9, 10, 11, 12, 13, 14, 15, 7, 16, 17, 18, 19, 20, 21, 22, 23, 24, 25, 26, 27, 28, 29, 30, 31, 32, 33, 34, 35, 36, 37, 38, 39, 40, 41, 42, 43, 44, 45, 46, 47, 48, 49, 50, 51, 52, 53, 54, 55, 56, 57, 58, 59, 60, 61, 62, 63, 64, 65, 66, 67, 68, 69, 70, 71, 72, 73, 74, 75, 76, 77, 78, 79, 80, 81, 82, 83, 84, 85, 86, 87, 88, 89, 90, 91, 92, 93, 94, 95, 96, 97, 98, 99, 100, 101, 102, 103, 104, 105, 106, 107, 108, 109, 110, 111, 112, 113, 114, 115, 116, 117, 118, 119, 120, 121, 122, 123, 124, 125, 126, 127, 128, 129, 130, 135, 136, 137, 138, 139, 140, 141, 142, 143, 144, 145, 146, 147, 148, 149, 150, 151, 152, 153, 154, 155, 156, 157, 158, 159, 160, 161, 162, 163, 164, 165, 166, 167, 168, 169, 170, 171, 172, 173, 174, 175, 176, 177, 178] (by decide +kernel) (by decide +kernel)
set_option maxRecDepth 20000 in
theorem gX6_payDay_X6_settle : GoodIn wsX6_payDay (wsV RX6 265 RX6 yX6_settle wsX6_settle) := goodIn_app (goodIn_of _ (by decide +kernel)) ggX6_payDay_X6_settle
set_option maxRecDepth 20000 in
theorem ggX6_payDay_X6_hasBit : GoodIn wsX6_payDay wsX6_hasBit := goodIn_r _ [86] (by decide +kernel) (by decide +kernel)
set_option maxRecDepth 20000 in
theorem gX6_payDay_X6_hasBit : GoodIn wsX6_payDay (va_wsS RX6 175 yX6_hasBit wsX6_hasBit) := goodIn_app (goodIn_of _ (by decide +kernel)) ggX6_payDay_X6_hasBit
set_option maxRecDepth 20000 in
theorem ggX6_payDay_X6_settledOwed : GoodIn wsX6_payDay wsX6_settledOwed := goodIn_r _ [134, 3, 11, 12, 10, 98, 135, 136, 137, 138, 139, 140, 141, 142, 143, 144, 145, 146, 147, 148, 149, 150, 151, 152, 153, 154, 155, 156, 157, 158, 159, 160, 161] (by decide +kernel) (by decide +kernel)
set_option maxRecDepth 20000 in
theorem gX6_payDay_X6_settledOwed : GoodIn wsX6_payDay (wsV RX6 275 RX6 yX6_settledOwed wsX6_settledOwed) := goodIn_app (goodIn_of _ (by decide +kernel)) ggX6_payDay_X6_settledOwed
theorem dX6_payDay_0 : decode cX6_payDay 0 = .ok (.aload_n 0, 1) := by decide +kernel
theorem dX6_payDay_1 : decode cX6_payDay 1 = .ok (.invokevirtual 265, 3) := by decide +kernel
theorem dX6_payDay_4 : decode cX6_payDay 4 = .ok (.lconst 0, 1) := by decide +kernel
theorem dX6_payDay_5 : decode cX6_payDay 5 = .ok (.lstore_n 1, 1) := by decide +kernel
theorem dX6_payDay_6 : decode cX6_payDay 6 = .ok (.iconst 0, 1) := by decide +kernel
theorem dX6_payDay_7 : decode cX6_payDay 7 = .ok (.istore_n 3, 1) := by decide +kernel
theorem dX6_payDay_8 : decode cX6_payDay 8 = .ok (.iload_n 3, 1) := by decide +kernel
theorem dX6_payDay_9 : decode cX6_payDay 9 = .ok (.bipush 10, 2) := by decide +kernel
theorem dX6_payDay_11 : decode cX6_payDay 11 = .ok (.if_icmp .ge 58, 3) := by decide +kernel
theorem dX6_payDay_14 : decode cX6_payDay 14 = .ok (.aload_n 0, 1) := by decide +kernel
theorem dX6_payDay_15 : decode cX6_payDay 15 = .ok (.getfield 65, 3) := by decide +kernel
theorem dX6_payDay_18 : decode cX6_payDay 18 = .ok (.iload_n 3, 1) := by decide +kernel
theorem dX6_payDay_19 : decode cX6_payDay 19 = .ok (.invokestatic 175, 3) := by decide +kernel
theorem dX6_payDay_22 : decode cX6_payDay 22 = .ok (.ifCond .eq 7, 3) := by decide +kernel
theorem dX6_payDay_25 : decode cX6_payDay 25 = .ok (.lconst 0, 1) := by decide +kernel
theorem dX6_payDay_26 : decode cX6_payDay 26 = .ok (.goto 8, 3) := by decide +kernel
theorem dX6_payDay_29 : decode cX6_payDay 29 = .ok (.aload_n 0, 1) := by decide +kernel
theorem dX6_payDay_30 : decode cX6_payDay 30 = .ok (.iload_n 3, 1) := by decide +kernel
theorem dX6_payDay_31 : decode cX6_payDay 31 = .ok (.invokevirtual 275, 3) := by decide +kernel
theorem dX6_payDay_34 : decode cX6_payDay 34 = .ok (.lstore 4, 2) := by decide +kernel
theorem dX6_payDay_36 : decode cX6_payDay 36 = .ok (.lload 4, 2) := by decide +kernel
theorem dX6_payDay_38 : decode cX6_payDay 38 = .ok (.aload_n 0, 1) := by decide +kernel
theorem dX6_payDay_39 : decode cX6_payDay 39 = .ok (.getfield 68, 3) := by decide +kernel
theorem dX6_payDay_42 : decode cX6_payDay 42 = .ok (.i2l, 1) := by decide +kernel
theorem dX6_payDay_43 : decode cX6_payDay 43 = .ok (.lcmp, 1) := by decide +kernel
theorem dX6_payDay_44 : decode cX6_payDay 44 = .ok (.ifCond .lt 19, 3) := by decide +kernel
theorem dX6_payDay_47 : decode cX6_payDay 47 = .ok (.aload_n 0, 1) := by decide +kernel
theorem dX6_payDay_48 : decode cX6_payDay 48 = .ok (.getfield 71, 3) := by decide +kernel
theorem dX6_payDay_51 : decode cX6_payDay 51 = .ok (.iload_n 3, 1) := by decide +kernel
theorem dX6_payDay_52 : decode cX6_payDay 52 = .ok (.dup2, 1) := by decide +kernel
theorem dX6_payDay_53 : decode cX6_payDay 53 = .ok (.laload, 1) := by decide +kernel
theorem dX6_payDay_54 : decode cX6_payDay 54 = .ok (.lload 4, 2) := by decide +kernel
theorem dX6_payDay_56 : decode cX6_payDay 56 = .ok (.ladd, 1) := by decide +kernel
theorem dX6_payDay_57 : decode cX6_payDay 57 = .ok (.lastore, 1) := by decide +kernel
theorem dX6_payDay_58 : decode cX6_payDay 58 = .ok (.lload_n 1, 1) := by decide +kernel
theorem dX6_payDay_59 : decode cX6_payDay 59 = .ok (.lload 4, 2) := by decide +kernel
theorem dX6_payDay_61 : decode cX6_payDay 61 = .ok (.ladd, 1) := by decide +kernel
theorem dX6_payDay_62 : decode cX6_payDay 62 = .ok (.lstore_n 1, 1) := by decide +kernel
theorem dX6_payDay_63 : decode cX6_payDay 63 = .ok (.iinc 3 1, 3) := by decide +kernel
theorem dX6_payDay_66 : decode cX6_payDay 66 = .ok (.goto (-58), 3) := by decide +kernel
theorem dX6_payDay_69 : decode cX6_payDay 69 = .ok (.lload_n 1, 1) := by decide +kernel
theorem dX6_payDay_70 : decode cX6_payDay 70 = .ok (.lreturn, 1) := by decide +kernel
set_option maxRecDepth 20000 in
theorem ggX6_owed_X6_isOwner : GoodIn wsX6_owed wsX6_isOwner := goodIn_r _ [6] (by decide +kernel) (by decide +kernel)
set_option maxRecDepth 20000 in
theorem gX6_owed_X6_isOwner : GoodIn wsX6_owed (va_wsS RX6 105 yX6_isOwner wsX6_isOwner) := goodIn_app (goodIn_of _ (by decide +kernel)) ggX6_owed_X6_isOwner
set_option maxRecDepth 20000 in
theorem ggX6_owed_X6_settle : GoodIn wsX6_owed wsX6_settle := goodIn_r _ [10, 11, 12, 13, 14, 15, 16, 17, 5, 18, 19, 20, 21, 22, 23, 24, 25, 26, 27, 28, 29, 30, 31, 32, 33, 34, 35, 36, 37, 38, 39, 40, 41, 42, 43, 44, 45, 46, 47, 48, 49, 50, 51, 52, 53, 54, 55, 56, 57, 58, 59, 60, 61, 62, 63, 64, 65, 66, 67, 68, 69, 70, 71, 72, 73, 74, 75, 76, 77, 78, 79, 80, 81, 82, 83, 84, 85, 86, 87, 88, 89, 90, 91, 92, 93, 94, 95, 96, 97, 98, 99, 100, 101, 102, 103, 104, 105, 106, 107, 108, 109, 110, 111, 112, 113, 114, 115, 116, 117, 118, 119, 120, 121, 122, 123, 124, 125, 126, 127, 128, 129, 130, 131, 132, 138, 139, 140, 141, 142, 143, 144, 145, 146, 147, 148, 149, 150, 151, 152, 153, 154, 155, 156, 157, 158, 159, 160, 161, 162, 163, 164, 165, 166, 167, 168, 169, 170, 171, 172, 173, 174, 175, 176, 177, 178, 179, 180, 181] (by decide +kernel) (by decide +kernel)
set_option maxRecDepth 20000 in
theorem gX6_owed_X6_settle : GoodIn wsX6_owed (wsV RX6 265 RX6 yX6_settle wsX6_settle) := goodIn_app (goodIn_of _ (by decide +kernel)) ggX6_owed_X6_settle
set_option maxRecDepth 20000 in
theorem ggX6_owed_X6_settledOwed : GoodIn wsX6_owed wsX6_settledOwed := goodIn_r _ [136, 137, 13, 14, 12, 100, 138, 139, 140, 141, 142, 143, 144, 145, 146, 147, 148, 149, 150, 151, 152, 153, 154, 155, 156, 157, 158, 159, 160, 161, 162, 163, 164] (by decide +kernel) (by decide +kernel)
set_option maxRecDepth 20000 in
theorem gX6_owed_X6_settledOwed : GoodIn wsX6_owed (wsV RX6 275 RX6 yX6_settledOwed wsX6_settledOwed) := goodIn_app (goodIn_of _ (by decide +kernel)) ggX6_owed_X6_settledOwed
theorem dX6_owed_0 : decode cX6_owed 0 = .ok (.iload_n 1, 1) := by decide +kernel
theorem dX6_owed_1 : decode cX6_owed 1 = .ok (.invokestatic 105, 3) := by decide +kernel
theorem dX6_owed_4 : decode cX6_owed 4 = .ok (.ifCond .ne 13, 3) := by decide +kernel
theorem dX6_owed_7 : decode cX6_owed 7 = .ok (.new 109, 3) := by decide +kernel
theorem dX6_owed_10 : decode cX6_owed 10 = .ok (.dup, 1) := by decide +kernel
theorem dX6_owed_11 : decode cX6_owed 11 = .ok (.ldc 111, 2) := by decide +kernel
theorem dX6_owed_13 : decode cX6_owed 13 = .ok (.invokespecial 113, 3) := by decide +kernel
theorem dX6_owed_16 : decode cX6_owed 16 = .ok (.athrow, 1) := by decide +kernel
theorem dX6_owed_17 : decode cX6_owed 17 = .ok (.aload_n 0, 1) := by decide +kernel
theorem dX6_owed_18 : decode cX6_owed 18 = .ok (.invokevirtual 265, 3) := by decide +kernel
theorem dX6_owed_21 : decode cX6_owed 21 = .ok (.aload_n 0, 1) := by decide +kernel
theorem dX6_owed_22 : decode cX6_owed 22 = .ok (.iload_n 1, 1) := by decide +kernel
theorem dX6_owed_23 : decode cX6_owed 23 = .ok (.invokevirtual 275, 3) := by decide +kernel
theorem dX6_owed_26 : decode cX6_owed 26 = .ok (.lreturn, 1) := by decide +kernel
set_option maxRecDepth 20000 in
theorem ggX6_paid_X6_isOwner : GoodIn wsX6_paid wsX6_isOwner := goodIn_r _ [7] (by decide +kernel) (by decide +kernel)
set_option maxRecDepth 20000 in
theorem gX6_paid_X6_isOwner : GoodIn wsX6_paid (va_wsS RX6 105 yX6_isOwner wsX6_isOwner) := goodIn_app (goodIn_of _ (by decide +kernel)) ggX6_paid_X6_isOwner
theorem dX6_paid_0 : decode cX6_paid 0 = .ok (.iload_n 1, 1) := by decide +kernel
theorem dX6_paid_1 : decode cX6_paid 1 = .ok (.invokestatic 105, 3) := by decide +kernel
theorem dX6_paid_4 : decode cX6_paid 4 = .ok (.ifCond .ne 13, 3) := by decide +kernel
theorem dX6_paid_7 : decode cX6_paid 7 = .ok (.new 109, 3) := by decide +kernel
theorem dX6_paid_10 : decode cX6_paid 10 = .ok (.dup, 1) := by decide +kernel
theorem dX6_paid_11 : decode cX6_paid 11 = .ok (.ldc 111, 2) := by decide +kernel
theorem dX6_paid_13 : decode cX6_paid 13 = .ok (.invokespecial 113, 3) := by decide +kernel
theorem dX6_paid_16 : decode cX6_paid 16 = .ok (.athrow, 1) := by decide +kernel
theorem dX6_paid_17 : decode cX6_paid 17 = .ok (.aload_n 0, 1) := by decide +kernel
theorem dX6_paid_18 : decode cX6_paid 18 = .ok (.getfield 71, 3) := by decide +kernel
theorem dX6_paid_21 : decode cX6_paid 21 = .ok (.iload_n 1, 1) := by decide +kernel
theorem dX6_paid_22 : decode cX6_paid 22 = .ok (.laload, 1) := by decide +kernel
theorem dX6_paid_23 : decode cX6_paid 23 = .ok (.lreturn, 1) := by decide +kernel
theorem dX6_isOwner_0 : decode cX6_isOwner 0 = .ok (.iload_n 0, 1) := by decide +kernel
theorem dX6_isOwner_1 : decode cX6_isOwner 1 = .ok (.ifCond .lt 13, 3) := by decide +kernel
theorem dX6_isOwner_4 : decode cX6_isOwner 4 = .ok (.iload_n 0, 1) := by decide +kernel
theorem dX6_isOwner_5 : decode cX6_isOwner 5 = .ok (.bipush 10, 2) := by decide +kernel
theorem dX6_isOwner_7 : decode cX6_isOwner 7 = .ok (.if_icmp .ge 7, 3) := by decide +kernel
theorem dX6_isOwner_10 : decode cX6_isOwner 10 = .ok (.iconst 1, 1) := by decide +kernel
theorem dX6_isOwner_11 : decode cX6_isOwner 11 = .ok (.goto 4, 3) := by decide +kernel
theorem dX6_isOwner_14 : decode cX6_isOwner 14 = .ok (.iconst 0, 1) := by decide +kernel
theorem dX6_isOwner_15 : decode cX6_isOwner 15 = .ok (.ireturn, 1) := by decide +kernel
theorem dX6_isMonth_0 : decode cX6_isMonth 0 = .ok (.iload_n 1, 1) := by decide +kernel
theorem dX6_isMonth_1 : decode cX6_isMonth 1 = .ok (.ifCond .lt 15, 3) := by decide +kernel
theorem dX6_isMonth_4 : decode cX6_isMonth 4 = .ok (.iload_n 1, 1) := by decide +kernel
theorem dX6_isMonth_5 : decode cX6_isMonth 5 = .ok (.aload_n 0, 1) := by decide +kernel
theorem dX6_isMonth_6 : decode cX6_isMonth 6 = .ok (.getfield 9, 3) := by decide +kernel
theorem dX6_isMonth_9 : decode cX6_isMonth 9 = .ok (.if_icmp .gt 7, 3) := by decide +kernel
theorem dX6_isMonth_12 : decode cX6_isMonth 12 = .ok (.iconst 1, 1) := by decide +kernel
theorem dX6_isMonth_13 : decode cX6_isMonth 13 = .ok (.goto 4, 3) := by decide +kernel
theorem dX6_isMonth_16 : decode cX6_isMonth 16 = .ok (.iconst 0, 1) := by decide +kernel
theorem dX6_isMonth_17 : decode cX6_isMonth 17 = .ok (.ireturn, 1) := by decide +kernel
theorem dX6_tractAt_0 : decode cX6_tractAt 0 = .ok (.iload_n 1, 1) := by decide +kernel
theorem dX6_tractAt_1 : decode cX6_tractAt 1 = .ok (.ifCond .lt 18, 3) := by decide +kernel
theorem dX6_tractAt_4 : decode cX6_tractAt 4 = .ok (.iload_n 1, 1) := by decide +kernel
theorem dX6_tractAt_5 : decode cX6_tractAt 5 = .ok (.bipush 8, 2) := by decide +kernel
theorem dX6_tractAt_7 : decode cX6_tractAt 7 = .ok (.if_icmp .ge 12, 3) := by decide +kernel
theorem dX6_tractAt_10 : decode cX6_tractAt 10 = .ok (.aload_n 0, 1) := by decide +kernel
theorem dX6_tractAt_11 : decode cX6_tractAt 11 = .ok (.getfield 15, 3) := by decide +kernel
theorem dX6_tractAt_14 : decode cX6_tractAt 14 = .ok (.iload_n 1, 1) := by decide +kernel
theorem dX6_tractAt_15 : decode cX6_tractAt 15 = .ok (.aaload, 1) := by decide +kernel
theorem dX6_tractAt_16 : decode cX6_tractAt 16 = .ok (.goto 4, 3) := by decide +kernel
theorem dX6_tractAt_19 : decode cX6_tractAt 19 = .ok (.aconst_null, 1) := by decide +kernel
theorem dX6_tractAt_20 : decode cX6_tractAt 20 = .ok (.areturn, 1) := by decide +kernel
theorem dX6_unitAt_0 : decode cX6_unitAt 0 = .ok (.iload_n 1, 1) := by decide +kernel
theorem dX6_unitAt_1 : decode cX6_unitAt 1 = .ok (.ifCond .lt 17, 3) := by decide +kernel
theorem dX6_unitAt_4 : decode cX6_unitAt 4 = .ok (.iload_n 1, 1) := by decide +kernel
theorem dX6_unitAt_5 : decode cX6_unitAt 5 = .ok (.iconst 3, 1) := by decide +kernel
theorem dX6_unitAt_6 : decode cX6_unitAt 6 = .ok (.if_icmp .ge 12, 3) := by decide +kernel
theorem dX6_unitAt_9 : decode cX6_unitAt 9 = .ok (.aload_n 0, 1) := by decide +kernel
theorem dX6_unitAt_10 : decode cX6_unitAt 10 = .ok (.getfield 42, 3) := by decide +kernel
theorem dX6_unitAt_13 : decode cX6_unitAt 13 = .ok (.iload_n 1, 1) := by decide +kernel
theorem dX6_unitAt_14 : decode cX6_unitAt 14 = .ok (.aaload, 1) := by decide +kernel
theorem dX6_unitAt_15 : decode cX6_unitAt 15 = .ok (.goto 4, 3) := by decide +kernel
theorem dX6_unitAt_18 : decode cX6_unitAt 18 = .ok (.aconst_null, 1) := by decide +kernel
theorem dX6_unitAt_19 : decode cX6_unitAt 19 = .ok (.areturn, 1) := by decide +kernel
set_option maxRecDepth 20000 in
theorem ggX6_unitIn_X6_unitAt : GoodIn wsX6_unitIn wsX6_unitAt := goodIn_r _ [7, 8, 16, 17, 18, 19, 20, 21, 22, 23, 24, 25, 26, 27, 28, 29, 30, 31, 32, 33, 34, 35] (by decide +kernel) (by decide +kernel)
set_option maxRecDepth 20000 in
theorem gX6_unitIn_X6_unitAt : GoodIn wsX6_unitIn (wsV RX6 183 RX6 yX6_unitAt wsX6_unitAt) := goodIn_app (goodIn_of _ (by decide +kernel)) ggX6_unitIn_X6_unitAt
theorem dX6_unitIn_0 : decode cX6_unitIn 0 = .ok (.aload_n 0, 1) := by decide +kernel
theorem dX6_unitIn_1 : decode cX6_unitIn 1 = .ok (.iload_n 1, 1) := by decide +kernel
theorem dX6_unitIn_2 : decode cX6_unitIn 2 = .ok (.invokevirtual 183, 3) := by decide +kernel
theorem dX6_unitIn_5 : decode cX6_unitIn 5 = .ok (.astore_n 3, 1) := by decide +kernel
theorem dX6_unitIn_6 : decode cX6_unitIn 6 = .ok (.aload_n 3, 1) := by decide +kernel
theorem dX6_unitIn_7 : decode cX6_unitIn 7 = .ok (.ifnull 23, 3) := by decide +kernel
theorem dX6_unitIn_10 : decode cX6_unitIn 10 = .ok (.iload_n 2, 1) := by decide +kernel
theorem dX6_unitIn_11 : decode cX6_unitIn 11 = .ok (.aload_n 3, 1) := by decide +kernel
theorem dX6_unitIn_12 : decode cX6_unitIn 12 = .ok (.getfield 203, 3) := by decide +kernel
theorem dX6_unitIn_15 : decode cX6_unitIn 15 = .ok (.if_icmp .lt 15, 3) := by decide +kernel
theorem dX6_unitIn_18 : decode cX6_unitIn 18 = .ok (.iload_n 2, 1) := by decide +kernel
theorem dX6_unitIn_19 : decode cX6_unitIn 19 = .ok (.aload_n 0, 1) := by decide +kernel
theorem dX6_unitIn_20 : decode cX6_unitIn 20 = .ok (.getfield 9, 3) := by decide +kernel
theorem dX6_unitIn_23 : decode cX6_unitIn 23 = .ok (.if_icmp .gt 7, 3) := by decide +kernel
theorem dX6_unitIn_26 : decode cX6_unitIn 26 = .ok (.aload_n 3, 1) := by decide +kernel
theorem dX6_unitIn_27 : decode cX6_unitIn 27 = .ok (.goto 4, 3) := by decide +kernel
theorem dX6_unitIn_30 : decode cX6_unitIn 30 = .ok (.aconst_null, 1) := by decide +kernel
theorem dX6_unitIn_31 : decode cX6_unitIn 31 = .ok (.areturn, 1) := by decide +kernel
theorem dX6_wellAt_0 : decode cX6_wellAt 0 = .ok (.iload_n 1, 1) := by decide +kernel
theorem dX6_wellAt_1 : decode cX6_wellAt 1 = .ok (.ifCond .lt 18, 3) := by decide +kernel
theorem dX6_wellAt_4 : decode cX6_wellAt 4 = .ok (.iload_n 1, 1) := by decide +kernel
theorem dX6_wellAt_5 : decode cX6_wellAt 5 = .ok (.bipush 6, 2) := by decide +kernel
theorem dX6_wellAt_7 : decode cX6_wellAt 7 = .ok (.if_icmp .ge 12, 3) := by decide +kernel
theorem dX6_wellAt_10 : decode cX6_wellAt 10 = .ok (.aload_n 0, 1) := by decide +kernel
theorem dX6_wellAt_11 : decode cX6_wellAt 11 = .ok (.getfield 51, 3) := by decide +kernel
theorem dX6_wellAt_14 : decode cX6_wellAt 14 = .ok (.iload_n 1, 1) := by decide +kernel
theorem dX6_wellAt_15 : decode cX6_wellAt 15 = .ok (.aaload, 1) := by decide +kernel
theorem dX6_wellAt_16 : decode cX6_wellAt 16 = .ok (.goto 4, 3) := by decide +kernel
theorem dX6_wellAt_19 : decode cX6_wellAt 19 = .ok (.aconst_null, 1) := by decide +kernel
theorem dX6_wellAt_20 : decode cX6_wellAt 20 = .ok (.areturn, 1) := by decide +kernel
set_option maxRecDepth 20000 in
theorem ggX6_hasTractOfUnit_X6_hasBit : GoodIn wsX6_hasTractOfUnit wsX6_hasBit := goodIn_r _ [6] (by decide +kernel) (by decide +kernel)
