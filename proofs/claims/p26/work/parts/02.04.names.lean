theorem dX6_unit_93 : decode cX6_unit 93 = .ok (.putfield 179, 3) := by decide +kernel
theorem dX6_unit_96 : decode cX6_unit 96 = .ok (.iinc 3 1, 3) := by decide +kernel
theorem dX6_unit_99 : decode cX6_unit 99 = .ok (.goto (-36), 3) := by decide +kernel
theorem dX6_unit_102 : decode cX6_unit 102 = .ok (.aload_n 0, 1) := by decide +kernel
theorem dX6_unit_103 : decode cX6_unit 103 = .ok (.getfield 42, 3) := by decide +kernel
theorem dX6_unit_106 : decode cX6_unit 106 = .ok (.aload_n 0, 1) := by decide +kernel
theorem dX6_unit_107 : decode cX6_unit 107 = .ok (.getfield 46, 3) := by decide +kernel
theorem dX6_unit_110 : decode cX6_unit 110 = .ok (.aload_n 2, 1) := by decide +kernel
theorem dX6_unit_111 : decode cX6_unit 111 = .ok (.aastore, 1) := by decide +kernel
theorem dX6_unit_112 : decode cX6_unit 112 = .ok (.aload_n 0, 1) := by decide +kernel
theorem dX6_unit_113 : decode cX6_unit 113 = .ok (.aload_n 0, 1) := by decide +kernel
theorem dX6_unit_114 : decode cX6_unit 114 = .ok (.getfield 9, 3) := by decide +kernel
theorem dX6_unit_117 : decode cX6_unit 117 = .ok (.invokevirtual 141, 3) := by decide +kernel
theorem dX6_unit_120 : decode cX6_unit 120 = .ok (.aload_n 0, 1) := by decide +kernel
theorem dX6_unit_121 : decode cX6_unit 121 = .ok (.dup, 1) := by decide +kernel
theorem dX6_unit_122 : decode cX6_unit 122 = .ok (.getfield 46, 3) := by decide +kernel
theorem dX6_unit_125 : decode cX6_unit 125 = .ok (.dup_x1, 1) := by decide +kernel
theorem dX6_unit_126 : decode cX6_unit 126 = .ok (.iconst 1, 1) := by decide +kernel
theorem dX6_unit_127 : decode cX6_unit 127 = .ok (.iadd, 1) := by decide +kernel
theorem dX6_unit_128 : decode cX6_unit 128 = .ok (.putfield 46, 3) := by decide +kernel
theorem dX6_unit_131 : decode cX6_unit 131 = .ok (.ireturn, 1) := by decide +kernel
set_option maxRecDepth 20000 in
theorem ggX6_well_X6_unitAt : GoodIn wsX6_well wsX6_unitAt := goodIn_r _ [14, 15, 27, 28, 29, 30, 31, 32, 33, 34, 35, 36, 37, 38, 39, 40, 41, 42, 43, 44, 45, 46] (by decide +kernel) (by decide +kernel)
set_option maxRecDepth 20000 in
theorem gX6_well_X6_unitAt : GoodIn wsX6_well (wsV RX6 183 RX6 yX6_unitAt wsX6_unitAt) := goodIn_app (goodIn_of _ (by decide +kernel)) ggX6_well_X6_unitAt
set_option maxRecDepth 20000 in
theorem ggX6_well_X5_init : GoodIn wsX6_well wsX5_init := goodIn_r _ [18, 19, 20, 21, 22, 23, 24, 25, 26, 47, 48, 49, 50] (by decide +kernel) (by decide +kernel)
set_option maxRecDepth 20000 in
theorem gX6_well_X5_init : GoodIn wsX6_well (wsX5_init) := ggX6_well_X5_init
theorem dX6_well_0 : decode cX6_well 0 = .ok (.aload_n 0, 1) := by decide +kernel
theorem dX6_well_1 : decode cX6_well 1 = .ok (.iload_n 1, 1) := by decide +kernel
theorem dX6_well_2 : decode cX6_well 2 = .ok (.invokevirtual 183, 3) := by decide +kernel
theorem dX6_well_5 : decode cX6_well 5 = .ok (.astore_n 2, 1) := by decide +kernel
theorem dX6_well_6 : decode cX6_well 6 = .ok (.aload_n 2, 1) := by decide +kernel
theorem dX6_well_7 : decode cX6_well 7 = .ok (.ifnonnull 13, 3) := by decide +kernel
theorem dX6_well_10 : decode cX6_well 10 = .ok (.new 109, 3) := by decide +kernel
theorem dX6_well_13 : decode cX6_well 13 = .ok (.dup, 1) := by decide +kernel
theorem dX6_well_14 : decode cX6_well 14 = .ok (.ldc 187, 2) := by decide +kernel
theorem dX6_well_16 : decode cX6_well 16 = .ok (.invokespecial 113, 3) := by decide +kernel
theorem dX6_well_19 : decode cX6_well 19 = .ok (.athrow, 1) := by decide +kernel
theorem dX6_well_20 : decode cX6_well 20 = .ok (.aload_n 0, 1) := by decide +kernel
theorem dX6_well_21 : decode cX6_well 21 = .ok (.getfield 55, 3) := by decide +kernel
theorem dX6_well_24 : decode cX6_well 24 = .ok (.bipush 6, 2) := by decide +kernel
theorem dX6_well_26 : decode cX6_well 26 = .ok (.if_icmp .lt 13, 3) := by decide +kernel
theorem dX6_well_29 : decode cX6_well 29 = .ok (.new 100, 3) := by decide +kernel
theorem dX6_well_32 : decode cX6_well 32 = .ok (.dup, 1) := by decide +kernel
theorem dX6_well_33 : decode cX6_well 33 = .ok (.ldc 189, 2) := by decide +kernel
theorem dX6_well_35 : decode cX6_well 35 = .ok (.invokespecial 104, 3) := by decide +kernel
theorem dX6_well_38 : decode cX6_well 38 = .ok (.athrow, 1) := by decide +kernel
theorem dX6_well_39 : decode cX6_well 39 = .ok (.aload_n 0, 1) := by decide +kernel
theorem dX6_well_40 : decode cX6_well 40 = .ok (.getfield 51, 3) := by decide +kernel
theorem dX6_well_43 : decode cX6_well 43 = .ok (.aload_n 0, 1) := by decide +kernel
theorem dX6_well_44 : decode cX6_well 44 = .ok (.getfield 55, 3) := by decide +kernel
theorem dX6_well_47 : decode cX6_well 47 = .ok (.new 49, 3) := by decide +kernel
theorem dX6_well_50 : decode cX6_well 50 = .ok (.dup, 1) := by decide +kernel
theorem dX6_well_51 : decode cX6_well 51 = .ok (.aload_n 2, 1) := by decide +kernel
theorem dX6_well_52 : decode cX6_well 52 = .ok (.invokespecial 191, 3) := by decide +kernel
theorem dX6_well_55 : decode cX6_well 55 = .ok (.aastore, 1) := by decide +kernel
theorem dX6_well_56 : decode cX6_well 56 = .ok (.aload_n 0, 1) := by decide +kernel
theorem dX6_well_57 : decode cX6_well 57 = .ok (.dup, 1) := by decide +kernel
theorem dX6_well_58 : decode cX6_well 58 = .ok (.getfield 55, 3) := by decide +kernel
theorem dX6_well_61 : decode cX6_well 61 = .ok (.dup_x1, 1) := by decide +kernel
theorem dX6_well_62 : decode cX6_well 62 = .ok (.iconst 1, 1) := by decide +kernel
theorem dX6_well_63 : decode cX6_well 63 = .ok (.iadd, 1) := by decide +kernel
theorem dX6_well_64 : decode cX6_well 64 = .ok (.putfield 55, 3) := by decide +kernel
theorem dX6_well_67 : decode cX6_well 67 = .ok (.ireturn, 1) := by decide +kernel
set_option maxRecDepth 20000 in
theorem ggX6_oil_X6_wellAt : GoodIn wsX6_oil wsX6_wellAt := goodIn_r _ [14, 15, 51, 52, 53, 54, 55, 56, 57, 58, 59, 60, 61, 62, 63, 64, 65, 66, 67, 68, 69, 70] (by decide +kernel) (by decide +kernel)
set_option maxRecDepth 20000 in
theorem gX6_oil_X6_wellAt : GoodIn wsX6_oil (wsV RX6 194 RX6 yX6_wellAt wsX6_wellAt) := goodIn_app (goodIn_of _ (by decide +kernel)) ggX6_oil_X6_wellAt
set_option maxRecDepth 20000 in
theorem ggX6_oil_X6_isMonth : GoodIn wsX6_oil wsX6_isMonth := goodIn_r _ [19, 20, 51, 52, 53, 54, 55, 56, 57, 58, 59, 60, 61, 62, 63, 64, 65, 66, 67, 68, 69, 70] (by decide +kernel) (by decide +kernel)
set_option maxRecDepth 20000 in
theorem gX6_oil_X6_isMonth : GoodIn wsX6_oil (wsV RX6 125 RX6 yX6_isMonth wsX6_isMonth) := goodIn_app (goodIn_of _ (by decide +kernel)) ggX6_oil_X6_isMonth
set_option maxRecDepth 20000 in
theorem ggX6_oil_X5_tellOil : GoodIn wsX6_oil wsX5_tellOil := goodIn_r _ [25, 26, 27, 28, 29, 30, 40, 41, 42, 43, 44, 45, 46, 47, 48, 49, 50] (by decide +kernel) (by decide +kernel)
set_option maxRecDepth 20000 in
theorem gX6_oil_X5_tellOil : GoodIn wsX6_oil (wsV RX6 209 RX5 yX5_tellOil wsX5_tellOil) := goodIn_app (goodIn_of _ (by decide +kernel)) ggX6_oil_X5_tellOil
set_option maxRecDepth 20000 in
theorem ggX6_oil_X6_unsettle : GoodIn wsX6_oil wsX6_unsettle := goodIn_r _ [34, 35, 36, 37, 38, 39, 51, 52, 53, 54, 55, 56, 57, 58, 59, 60, 61, 62, 63, 64, 65, 66, 67, 68, 69, 70] (by decide +kernel) (by decide +kernel)
set_option maxRecDepth 20000 in
theorem gX6_oil_X6_unsettle : GoodIn wsX6_oil (wsV RX6 141 RX6 yX6_unsettle wsX6_unsettle) := goodIn_app (goodIn_of _ (by decide +kernel)) ggX6_oil_X6_unsettle
theorem dX6_oil_0 : decode cX6_oil 0 = .ok (.aload_n 0, 1) := by decide +kernel
theorem dX6_oil_1 : decode cX6_oil 1 = .ok (.iload_n 1, 1) := by decide +kernel
theorem dX6_oil_2 : decode cX6_oil 2 = .ok (.invokevirtual 194, 3) := by decide +kernel
theorem dX6_oil_5 : decode cX6_oil 5 = .ok (.astore 5, 2) := by decide +kernel
theorem dX6_oil_7 : decode cX6_oil 7 = .ok (.aload 5, 2) := by decide +kernel
theorem dX6_oil_9 : decode cX6_oil 9 = .ok (.ifnull 11, 3) := by decide +kernel
theorem dX6_oil_12 : decode cX6_oil 12 = .ok (.aload_n 0, 1) := by decide +kernel
theorem dX6_oil_13 : decode cX6_oil 13 = .ok (.iload_n 2, 1) := by decide +kernel
theorem dX6_oil_14 : decode cX6_oil 14 = .ok (.invokevirtual 125, 3) := by decide +kernel
theorem dX6_oil_17 : decode cX6_oil 17 = .ok (.ifCond .ne 13, 3) := by decide +kernel
theorem dX6_oil_20 : decode cX6_oil 20 = .ok (.new 109, 3) := by decide +kernel
theorem dX6_oil_23 : decode cX6_oil 23 = .ok (.dup, 1) := by decide +kernel
theorem dX6_oil_24 : decode cX6_oil 24 = .ok (.ldc 198, 2) := by decide +kernel
theorem dX6_oil_26 : decode cX6_oil 26 = .ok (.invokespecial 113, 3) := by decide +kernel
theorem dX6_oil_29 : decode cX6_oil 29 = .ok (.athrow, 1) := by decide +kernel
theorem dX6_oil_30 : decode cX6_oil 30 = .ok (.iload_n 3, 1) := by decide +kernel
theorem dX6_oil_31 : decode cX6_oil 31 = .ok (.ifCond .lt 23, 3) := by decide +kernel
theorem dX6_oil_34 : decode cX6_oil 34 = .ok (.iload_n 3, 1) := by decide +kernel
theorem dX6_oil_35 : decode cX6_oil 35 = .ok (.sipush 1000, 3) := by decide +kernel
theorem dX6_oil_38 : decode cX6_oil 38 = .ok (.if_icmp .gt 16, 3) := by decide +kernel
theorem dX6_oil_41 : decode cX6_oil 41 = .ok (.iload 4, 2) := by decide +kernel
theorem dX6_oil_43 : decode cX6_oil 43 = .ok (.ifCond .lt 11, 3) := by decide +kernel
theorem dX6_oil_46 : decode cX6_oil 46 = .ok (.iload 4, 2) := by decide +kernel
theorem dX6_oil_48 : decode cX6_oil 48 = .ok (.sipush 10000, 3) := by decide +kernel
theorem dX6_oil_51 : decode cX6_oil 51 = .ok (.if_icmp .le 13, 3) := by decide +kernel
theorem dX6_oil_54 : decode cX6_oil 54 = .ok (.new 93, 3) := by decide +kernel
theorem dX6_oil_57 : decode cX6_oil 57 = .ok (.dup, 1) := by decide +kernel
theorem dX6_oil_58 : decode cX6_oil 58 = .ok (.ldc 200, 2) := by decide +kernel
theorem dX6_oil_60 : decode cX6_oil 60 = .ok (.invokespecial 97, 3) := by decide +kernel
theorem dX6_oil_63 : decode cX6_oil 63 = .ok (.athrow, 1) := by decide +kernel
theorem dX6_oil_64 : decode cX6_oil 64 = .ok (.iload_n 2, 1) := by decide +kernel
theorem dX6_oil_65 : decode cX6_oil 65 = .ok (.aload 5, 2) := by decide +kernel
theorem dX6_oil_67 : decode cX6_oil 67 = .ok (.getfield 202, 3) := by decide +kernel
theorem dX6_oil_70 : decode cX6_oil 70 = .ok (.getfield 203, 3) := by decide +kernel
theorem dX6_oil_73 : decode cX6_oil 73 = .ok (.if_icmp .ge 13, 3) := by decide +kernel
theorem dX6_oil_76 : decode cX6_oil 76 = .ok (.new 100, 3) := by decide +kernel
theorem dX6_oil_79 : decode cX6_oil 79 = .ok (.dup, 1) := by decide +kernel
theorem dX6_oil_80 : decode cX6_oil 80 = .ok (.ldc 204, 2) := by decide +kernel
theorem dX6_oil_82 : decode cX6_oil 82 = .ok (.invokespecial 104, 3) := by decide +kernel
theorem dX6_oil_85 : decode cX6_oil 85 = .ok (.athrow, 1) := by decide +kernel
theorem dX6_oil_86 : decode cX6_oil 86 = .ok (.aload 5, 2) := by decide +kernel
theorem dX6_oil_88 : decode cX6_oil 88 = .ok (.getfield 206, 3) := by decide +kernel
theorem dX6_oil_91 : decode cX6_oil 91 = .ok (.iload_n 2, 1) := by decide +kernel
theorem dX6_oil_92 : decode cX6_oil 92 = .ok (.iaload, 1) := by decide +kernel
theorem dX6_oil_93 : decode cX6_oil 93 = .ok (.istore 6, 2) := by decide +kernel
theorem dX6_oil_95 : decode cX6_oil 95 = .ok (.aload 5, 2) := by decide +kernel
theorem dX6_oil_97 : decode cX6_oil 97 = .ok (.iload_n 2, 1) := by decide +kernel
theorem dX6_oil_98 : decode cX6_oil 98 = .ok (.iload_n 3, 1) := by decide +kernel
theorem dX6_oil_99 : decode cX6_oil 99 = .ok (.iload 4, 2) := by decide +kernel
theorem dX6_oil_101 : decode cX6_oil 101 = .ok (.invokevirtual 209, 3) := by decide +kernel
theorem dX6_oil_104 : decode cX6_oil 104 = .ok (.aload_n 0, 1) := by decide +kernel
theorem dX6_oil_105 : decode cX6_oil 105 = .ok (.iload_n 2, 1) := by decide +kernel
theorem dX6_oil_106 : decode cX6_oil 106 = .ok (.invokevirtual 141, 3) := by decide +kernel
theorem dX6_oil_109 : decode cX6_oil 109 = .ok (.iload 6, 2) := by decide +kernel
theorem dX6_oil_111 : decode cX6_oil 111 = .ok (.ireturn, 1) := by decide +kernel
set_option maxRecDepth 20000 in
theorem ggX6_cost_X6_wellAt : GoodIn wsX6_cost wsX6_wellAt := goodIn_r _ [17, 18, 44, 45, 46, 47, 48, 49, 50, 51, 52, 53, 54, 55, 56, 57, 58, 59, 60, 61, 62, 63] (by decide +kernel) (by decide +kernel)
set_option maxRecDepth 20000 in
theorem gX6_cost_X6_wellAt : GoodIn wsX6_cost (wsV RX6 194 RX6 yX6_wellAt wsX6_wellAt) := goodIn_app (goodIn_of _ (by decide +kernel)) ggX6_cost_X6_wellAt
set_option maxRecDepth 20000 in
theorem ggX6_cost_X6_isMonth : GoodIn wsX6_cost wsX6_isMonth := goodIn_r _ [22, 23, 44, 45, 46, 47, 48, 49, 50, 51, 52, 53, 54, 55, 56, 57, 58, 59, 60, 61, 62, 63] (by decide +kernel) (by decide +kernel)
set_option maxRecDepth 20000 in
theorem gX6_cost_X6_isMonth : GoodIn wsX6_cost (wsV RX6 125 RX6 yX6_isMonth wsX6_isMonth) := goodIn_app (goodIn_of _ (by decide +kernel)) ggX6_cost_X6_isMonth
set_option maxRecDepth 20000 in
theorem ggX6_cost_X6_unsettle : GoodIn wsX6_cost wsX6_unsettle := goodIn_r _ [27, 28, 29, 30, 31, 32, 44, 45, 46, 47, 48, 49, 50, 51, 52, 53, 54, 55, 56, 57, 58, 59, 60, 61, 62, 63] (by decide +kernel) (by decide +kernel)
set_option maxRecDepth 20000 in
theorem gX6_cost_X6_unsettle : GoodIn wsX6_cost (wsV RX6 141 RX6 yX6_unsettle wsX6_unsettle) := goodIn_app (goodIn_of _ (by decide +kernel)) ggX6_cost_X6_unsettle
theorem dX6_cost_0 : decode cX6_cost 0 = .ok (.aload_n 0, 1) := by decide +kernel
theorem dX6_cost_1 : decode cX6_cost 1 = .ok (.iload_n 1, 1) := by decide +kernel
theorem dX6_cost_2 : decode cX6_cost 2 = .ok (.invokevirtual 194, 3) := by decide +kernel
theorem dX6_cost_5 : decode cX6_cost 5 = .ok (.astore 4, 2) := by decide +kernel
theorem dX6_cost_7 : decode cX6_cost 7 = .ok (.aload 4, 2) := by decide +kernel
theorem dX6_cost_9 : decode cX6_cost 9 = .ok (.ifnull 11, 3) := by decide +kernel
theorem dX6_cost_12 : decode cX6_cost 12 = .ok (.aload_n 0, 1) := by decide +kernel
theorem dX6_cost_13 : decode cX6_cost 13 = .ok (.iload_n 2, 1) := by decide +kernel
theorem dX6_cost_14 : decode cX6_cost 14 = .ok (.invokevirtual 125, 3) := by decide +kernel
theorem dX6_cost_17 : decode cX6_cost 17 = .ok (.ifCond .ne 13, 3) := by decide +kernel
theorem dX6_cost_20 : decode cX6_cost 20 = .ok (.new 109, 3) := by decide +kernel
theorem dX6_cost_23 : decode cX6_cost 23 = .ok (.dup, 1) := by decide +kernel
theorem dX6_cost_24 : decode cX6_cost 24 = .ok (.ldc 198, 2) := by decide +kernel
theorem dX6_cost_26 : decode cX6_cost 26 = .ok (.invokespecial 113, 3) := by decide +kernel
theorem dX6_cost_29 : decode cX6_cost 29 = .ok (.athrow, 1) := by decide +kernel
theorem dX6_cost_30 : decode cX6_cost 30 = .ok (.iload_n 3, 1) := by decide +kernel
theorem dX6_cost_31 : decode cX6_cost 31 = .ok (.iconst 1, 1) := by decide +kernel
theorem dX6_cost_32 : decode cX6_cost 32 = .ok (.if_icmp .lt 9, 3) := by decide +kernel
theorem dX6_cost_35 : decode cX6_cost 35 = .ok (.iload_n 3, 1) := by decide +kernel
theorem dX6_cost_36 : decode cX6_cost 36 = .ok (.ldc 213, 2) := by decide +kernel
theorem dX6_cost_38 : decode cX6_cost 38 = .ok (.if_icmp .le 13, 3) := by decide +kernel
theorem dX6_cost_41 : decode cX6_cost 41 = .ok (.new 93, 3) := by decide +kernel
theorem dX6_cost_44 : decode cX6_cost 44 = .ok (.dup, 1) := by decide +kernel
theorem dX6_cost_45 : decode cX6_cost 45 = .ok (.ldc 214, 2) := by decide +kernel
theorem dX6_cost_47 : decode cX6_cost 47 = .ok (.invokespecial 97, 3) := by decide +kernel
theorem dX6_cost_50 : decode cX6_cost 50 = .ok (.athrow, 1) := by decide +kernel
theorem dX6_cost_51 : decode cX6_cost 51 = .ok (.iload_n 2, 1) := by decide +kernel
theorem dX6_cost_52 : decode cX6_cost 52 = .ok (.aload 4, 2) := by decide +kernel
theorem dX6_cost_54 : decode cX6_cost 54 = .ok (.getfield 202, 3) := by decide +kernel
theorem dX6_cost_57 : decode cX6_cost 57 = .ok (.getfield 203, 3) := by decide +kernel
theorem dX6_cost_60 : decode cX6_cost 60 = .ok (.if_icmp .lt 17, 3) := by decide +kernel
theorem dX6_cost_63 : decode cX6_cost 63 = .ok (.aload 4, 2) := by decide +kernel
theorem dX6_cost_65 : decode cX6_cost 65 = .ok (.getfield 216, 3) := by decide +kernel
theorem dX6_cost_68 : decode cX6_cost 68 = .ok (.iload_n 2, 1) := by decide +kernel
theorem dX6_cost_69 : decode cX6_cost 69 = .ok (.iaload, 1) := by decide +kernel
theorem dX6_cost_70 : decode cX6_cost 70 = .ok (.iload_n 3, 1) := by decide +kernel
theorem dX6_cost_71 : decode cX6_cost 71 = .ok (.iadd, 1) := by decide +kernel
theorem dX6_cost_72 : decode cX6_cost 72 = .ok (.ldc 219, 2) := by decide +kernel
theorem dX6_cost_74 : decode cX6_cost 74 = .ok (.if_icmp .le 13, 3) := by decide +kernel
theorem dX6_cost_77 : decode cX6_cost 77 = .ok (.new 100, 3) := by decide +kernel
theorem dX6_cost_80 : decode cX6_cost 80 = .ok (.dup, 1) := by decide +kernel
theorem dX6_cost_81 : decode cX6_cost 81 = .ok (.ldc 220, 2) := by decide +kernel
theorem dX6_cost_83 : decode cX6_cost 83 = .ok (.invokespecial 104, 3) := by decide +kernel
theorem dX6_cost_86 : decode cX6_cost 86 = .ok (.athrow, 1) := by decide +kernel
theorem dX6_cost_87 : decode cX6_cost 87 = .ok (.aload 4, 2) := by decide +kernel
theorem dX6_cost_89 : decode cX6_cost 89 = .ok (.getfield 216, 3) := by decide +kernel
theorem dX6_cost_92 : decode cX6_cost 92 = .ok (.iload_n 2, 1) := by decide +kernel
theorem dX6_cost_93 : decode cX6_cost 93 = .ok (.dup2, 1) := by decide +kernel
theorem dX6_cost_94 : decode cX6_cost 94 = .ok (.iaload, 1) := by decide +kernel
theorem dX6_cost_95 : decode cX6_cost 95 = .ok (.iload_n 3, 1) := by decide +kernel
theorem dX6_cost_96 : decode cX6_cost 96 = .ok (.iadd, 1) := by decide +kernel
theorem dX6_cost_97 : decode cX6_cost 97 = .ok (.iastore, 1) := by decide +kernel
theorem dX6_cost_98 : decode cX6_cost 98 = .ok (.aload 4, 2) := by decide +kernel
theorem dX6_cost_100 : decode cX6_cost 100 = .ok (.getfield 202, 3) := by decide +kernel
theorem dX6_cost_103 : decode cX6_cost 103 = .ok (.getfield 222, 3) := by decide +kernel
theorem dX6_cost_106 : decode cX6_cost 106 = .ok (.iload_n 2, 1) := by decide +kernel
theorem dX6_cost_107 : decode cX6_cost 107 = .ok (.dup2, 1) := by decide +kernel
theorem dX6_cost_108 : decode cX6_cost 108 = .ok (.iaload, 1) := by decide +kernel
theorem dX6_cost_109 : decode cX6_cost 109 = .ok (.iload_n 3, 1) := by decide +kernel
theorem dX6_cost_110 : decode cX6_cost 110 = .ok (.iadd, 1) := by decide +kernel
theorem dX6_cost_111 : decode cX6_cost 111 = .ok (.iastore, 1) := by decide +kernel
theorem dX6_cost_112 : decode cX6_cost 112 = .ok (.aload_n 0, 1) := by decide +kernel
theorem dX6_cost_113 : decode cX6_cost 113 = .ok (.iload_n 2, 1) := by decide +kernel
theorem dX6_cost_114 : decode cX6_cost 114 = .ok (.invokevirtual 141, 3) := by decide +kernel
theorem dX6_cost_117 : decode cX6_cost 117 = .ok (.aload 4, 2) := by decide +kernel
theorem dX6_cost_119 : decode cX6_cost 119 = .ok (.getfield 216, 3) := by decide +kernel
theorem dX6_cost_122 : decode cX6_cost 122 = .ok (.iload_n 2, 1) := by decide +kernel
theorem dX6_cost_123 : decode cX6_cost 123 = .ok (.iaload, 1) := by decide +kernel
theorem dX6_cost_124 : decode cX6_cost 124 = .ok (.ireturn, 1) := by decide +kernel
set_option maxRecDepth 20000 in
theorem ggX6_tax_X6_isMonth : GoodIn wsX6_tax wsX6_isMonth := goodIn_r _ [10, 11, 25, 26, 27, 28, 29, 30, 31, 32, 33, 34, 35, 36, 37, 38, 39, 40, 41, 42, 43, 44] (by decide +kernel) (by decide +kernel)
set_option maxRecDepth 20000 in
theorem gX6_tax_X6_isMonth : GoodIn wsX6_tax (wsV RX6 125 RX6 yX6_isMonth wsX6_isMonth) := goodIn_app (goodIn_of _ (by decide +kernel)) ggX6_tax_X6_isMonth
set_option maxRecDepth 20000 in
theorem ggX6_tax_X6_taxIn : GoodIn wsX6_tax wsX6_taxIn := goodIn_r _ [15, 5, 25, 26, 27, 28, 29, 30, 31, 32, 33, 34, 35, 36, 37, 38, 39, 40, 41, 42, 43, 44] (by decide +kernel) (by decide +kernel)
set_option maxRecDepth 20000 in
theorem gX6_tax_X6_taxIn : GoodIn wsX6_tax (wsV RX6 227 RX6 yX6_taxIn wsX6_taxIn) := goodIn_app (goodIn_of _ (by decide +kernel)) ggX6_tax_X6_taxIn
set_option maxRecDepth 20000 in
theorem ggX6_tax_X6_unsettle : GoodIn wsX6_tax wsX6_unsettle := goodIn_r _ [19, 20, 21, 22, 23, 24, 25, 26, 27, 28, 29, 30, 31, 32, 33, 34, 35, 36, 37, 38, 39, 40, 41, 42, 43, 44] (by decide +kernel) (by decide +kernel)
set_option maxRecDepth 20000 in
theorem gX6_tax_X6_unsettle : GoodIn wsX6_tax (wsV RX6 141 RX6 yX6_unsettle wsX6_unsettle) := goodIn_app (goodIn_of _ (by decide +kernel)) ggX6_tax_X6_unsettle
theorem dX6_tax_0 : decode cX6_tax 0 = .ok (.aload_n 0, 1) := by decide +kernel
theorem dX6_tax_1 : decode cX6_tax 1 = .ok (.iload_n 2, 1) := by decide +kernel
theorem dX6_tax_2 : decode cX6_tax 2 = .ok (.invokevirtual 125, 3) := by decide +kernel
theorem dX6_tax_5 : decode cX6_tax 5 = .ok (.ifCond .ne 13, 3) := by decide +kernel
theorem dX6_tax_8 : decode cX6_tax 8 = .ok (.new 109, 3) := by decide +kernel
theorem dX6_tax_11 : decode cX6_tax 11 = .ok (.dup, 1) := by decide +kernel
theorem dX6_tax_12 : decode cX6_tax 12 = .ok (.ldc 223, 2) := by decide +kernel
theorem dX6_tax_14 : decode cX6_tax 14 = .ok (.invokespecial 113, 3) := by decide +kernel
theorem dX6_tax_17 : decode cX6_tax 17 = .ok (.athrow, 1) := by decide +kernel
theorem dX6_tax_18 : decode cX6_tax 18 = .ok (.iload_n 1, 1) := by decide +kernel
theorem dX6_tax_19 : decode cX6_tax 19 = .ok (.ifCond .lt 9, 3) := by decide +kernel
theorem dX6_tax_22 : decode cX6_tax 22 = .ok (.iload_n 1, 1) := by decide +kernel
theorem dX6_tax_23 : decode cX6_tax 23 = .ok (.bipush 50, 2) := by decide +kernel
theorem dX6_tax_25 : decode cX6_tax 25 = .ok (.if_icmp .le 13, 3) := by decide +kernel
theorem dX6_tax_28 : decode cX6_tax 28 = .ok (.new 93, 3) := by decide +kernel
theorem dX6_tax_31 : decode cX6_tax 31 = .ok (.dup, 1) := by decide +kernel
theorem dX6_tax_32 : decode cX6_tax 32 = .ok (.ldc 225, 2) := by decide +kernel
theorem dX6_tax_34 : decode cX6_tax 34 = .ok (.invokespecial 97, 3) := by decide +kernel
theorem dX6_tax_37 : decode cX6_tax 37 = .ok (.athrow, 1) := by decide +kernel
theorem dX6_tax_38 : decode cX6_tax 38 = .ok (.aload_n 0, 1) := by decide +kernel
theorem dX6_tax_39 : decode cX6_tax 39 = .ok (.iload_n 2, 1) := by decide +kernel
theorem dX6_tax_40 : decode cX6_tax 40 = .ok (.invokevirtual 227, 3) := by decide +kernel
theorem dX6_tax_43 : decode cX6_tax 43 = .ok (.istore_n 3, 1) := by decide +kernel
theorem dX6_tax_44 : decode cX6_tax 44 = .ok (.aload_n 0, 1) := by decide +kernel
theorem dX6_tax_45 : decode cX6_tax 45 = .ok (.getfield 58, 3) := by decide +kernel
theorem dX6_tax_48 : decode cX6_tax 48 = .ok (.iload_n 2, 1) := by decide +kernel
theorem dX6_tax_49 : decode cX6_tax 49 = .ok (.iload_n 1, 1) := by decide +kernel
theorem dX6_tax_50 : decode cX6_tax 50 = .ok (.iastore, 1) := by decide +kernel
theorem dX6_tax_51 : decode cX6_tax 51 = .ok (.aload_n 0, 1) := by decide +kernel
theorem dX6_tax_52 : decode cX6_tax 52 = .ok (.iload_n 2, 1) := by decide +kernel
theorem dX6_tax_53 : decode cX6_tax 53 = .ok (.invokevirtual 141, 3) := by decide +kernel
theorem dX6_tax_56 : decode cX6_tax 56 = .ok (.iload_n 3, 1) := by decide +kernel
theorem dX6_tax_57 : decode cX6_tax 57 = .ok (.ireturn, 1) := by decide +kernel
set_option maxRecDepth 20000 in
theorem ggX6_consent_X6_unitAt : GoodIn wsX6_consent wsX6_unitAt := goodIn_r _ [9, 10, 36, 37, 38, 39, 40, 41, 42, 43, 44, 45, 46, 47, 48, 49, 50, 51, 52, 53, 54, 55] (by decide +kernel) (by decide +kernel)
set_option maxRecDepth 20000 in
theorem gX6_consent_X6_unitAt : GoodIn wsX6_consent (wsV RX6 183 RX6 yX6_unitAt wsX6_unitAt) := goodIn_app (goodIn_of _ (by decide +kernel)) ggX6_consent_X6_unitAt
set_option maxRecDepth 20000 in
theorem ggX6_consent_X6_isOwner : GoodIn wsX6_consent wsX6_isOwner := goodIn_r _ [13] (by decide +kernel) (by decide +kernel)
set_option maxRecDepth 20000 in
theorem gX6_consent_X6_isOwner : GoodIn wsX6_consent (va_wsS RX6 105 yX6_isOwner wsX6_isOwner) := goodIn_app (goodIn_of _ (by decide +kernel)) ggX6_consent_X6_isOwner
set_option maxRecDepth 20000 in
theorem ggX6_consent_X6_hasBit : GoodIn wsX6_consent wsX6_hasBit := goodIn_r _ [16] (by decide +kernel) (by decide +kernel)
set_option maxRecDepth 20000 in
theorem gX6_consent_X6_hasBit : GoodIn wsX6_consent (va_wsS RX6 175 yX6_hasBit wsX6_hasBit) := goodIn_app (goodIn_of _ (by decide +kernel)) ggX6_consent_X6_hasBit
set_option maxRecDepth 20000 in
theorem ggX6_consent_X6_withBit : GoodIn wsX6_consent wsX6_withBit := goodIn_r _ [19] (by decide +kernel) (by decide +kernel)
set_option maxRecDepth 20000 in
theorem gX6_consent_X6_withBit : GoodIn wsX6_consent (va_wsS RX6 236 yX6_withBit wsX6_withBit) := goodIn_app (goodIn_of _ (by decide +kernel)) ggX6_consent_X6_withBit
set_option maxRecDepth 20000 in
theorem ggX6_consent_X6_unsettle : GoodIn wsX6_consent wsX6_unsettle := goodIn_r _ [23, 24, 25, 26, 27, 28, 36, 37, 38, 39, 40, 41, 42, 43, 44, 45, 46, 47, 48, 49, 50, 51, 52, 53, 54, 55] (by decide +kernel) (by decide +kernel)
set_option maxRecDepth 20000 in
theorem gX6_consent_X6_unsettle : GoodIn wsX6_consent (wsV RX6 141 RX6 yX6_unsettle wsX6_unsettle) := goodIn_app (goodIn_of _ (by decide +kernel)) ggX6_consent_X6_unsettle
theorem dX6_consent_0 : decode cX6_consent 0 = .ok (.aload_n 0, 1) := by decide +kernel
theorem dX6_consent_1 : decode cX6_consent 1 = .ok (.iload_n 1, 1) := by decide +kernel
theorem dX6_consent_2 : decode cX6_consent 2 = .ok (.invokevirtual 183, 3) := by decide +kernel
theorem dX6_consent_5 : decode cX6_consent 5 = .ok (.astore 4, 2) := by decide +kernel
theorem dX6_consent_7 : decode cX6_consent 7 = .ok (.aload 4, 2) := by decide +kernel
theorem dX6_consent_9 : decode cX6_consent 9 = .ok (.ifnull 10, 3) := by decide +kernel
theorem dX6_consent_12 : decode cX6_consent 12 = .ok (.iload_n 2, 1) := by decide +kernel
theorem dX6_consent_13 : decode cX6_consent 13 = .ok (.invokestatic 105, 3) := by decide +kernel
theorem dX6_consent_16 : decode cX6_consent 16 = .ok (.ifCond .ne 13, 3) := by decide +kernel
theorem dX6_consent_19 : decode cX6_consent 19 = .ok (.new 109, 3) := by decide +kernel
theorem dX6_consent_22 : decode cX6_consent 22 = .ok (.dup, 1) := by decide +kernel
theorem dX6_consent_23 : decode cX6_consent 23 = .ok (.ldc 231, 2) := by decide +kernel
theorem dX6_consent_25 : decode cX6_consent 25 = .ok (.invokespecial 113, 3) := by decide +kernel
theorem dX6_consent_28 : decode cX6_consent 28 = .ok (.athrow, 1) := by decide +kernel
theorem dX6_consent_29 : decode cX6_consent 29 = .ok (.aload 4, 2) := by decide +kernel
theorem dX6_consent_31 : decode cX6_consent 31 = .ok (.getfield 233, 3) := by decide +kernel
theorem dX6_consent_34 : decode cX6_consent 34 = .ok (.aload_n 0, 1) := by decide +kernel
theorem dX6_consent_35 : decode cX6_consent 35 = .ok (.getfield 9, 3) := by decide +kernel
theorem dX6_consent_38 : decode cX6_consent 38 = .ok (.iaload, 1) := by decide +kernel
theorem dX6_consent_39 : decode cX6_consent 39 = .ok (.iload_n 2, 1) := by decide +kernel
theorem dX6_consent_40 : decode cX6_consent 40 = .ok (.invokestatic 175, 3) := by decide +kernel
theorem dX6_consent_43 : decode cX6_consent 43 = .ok (.ifCond .ne 7, 3) := by decide +kernel
theorem dX6_consent_46 : decode cX6_consent 46 = .ok (.iconst 1, 1) := by decide +kernel
theorem dX6_consent_47 : decode cX6_consent 47 = .ok (.goto 4, 3) := by decide +kernel
theorem dX6_consent_50 : decode cX6_consent 50 = .ok (.iconst 0, 1) := by decide +kernel
theorem dX6_consent_51 : decode cX6_consent 51 = .ok (.istore 5, 2) := by decide +kernel
theorem dX6_consent_53 : decode cX6_consent 53 = .ok (.aload_n 0, 1) := by decide +kernel
theorem dX6_consent_54 : decode cX6_consent 54 = .ok (.getfield 9, 3) := by decide +kernel
theorem dX6_consent_57 : decode cX6_consent 57 = .ok (.istore 6, 2) := by decide +kernel
theorem dX6_consent_59 : decode cX6_consent 59 = .ok (.iload 6, 2) := by decide +kernel
theorem dX6_consent_61 : decode cX6_consent 61 = .ok (.bipush 61, 2) := by decide +kernel
theorem dX6_consent_63 : decode cX6_consent 63 = .ok (.if_icmp .ge 38, 3) := by decide +kernel
theorem dX6_consent_66 : decode cX6_consent 66 = .ok (.aload 4, 2) := by decide +kernel
theorem dX6_consent_68 : decode cX6_consent 68 = .ok (.getfield 233, 3) := by decide +kernel
theorem dX6_consent_71 : decode cX6_consent 71 = .ok (.iload 6, 2) := by decide +kernel
theorem dX6_consent_73 : decode cX6_consent 73 = .ok (.aload 4, 2) := by decide +kernel
theorem dX6_consent_75 : decode cX6_consent 75 = .ok (.getfield 233, 3) := by decide +kernel
theorem dX6_consent_78 : decode cX6_consent 78 = .ok (.iload 6, 2) := by decide +kernel
theorem dX6_consent_80 : decode cX6_consent 80 = .ok (.iaload, 1) := by decide +kernel
theorem dX6_consent_81 : decode cX6_consent 81 = .ok (.iload_n 2, 1) := by decide +kernel
theorem dX6_consent_82 : decode cX6_consent 82 = .ok (.iload_n 3, 1) := by decide +kernel
theorem dX6_consent_83 : decode cX6_consent 83 = .ok (.ifCond .ne 7, 3) := by decide +kernel
theorem dX6_consent_86 : decode cX6_consent 86 = .ok (.iconst 1, 1) := by decide +kernel
theorem dX6_consent_87 : decode cX6_consent 87 = .ok (.goto 4, 3) := by decide +kernel
theorem dX6_consent_90 : decode cX6_consent 90 = .ok (.iconst 0, 1) := by decide +kernel
theorem dX6_consent_91 : decode cX6_consent 91 = .ok (.invokestatic 236, 3) := by decide +kernel
theorem dX6_consent_94 : decode cX6_consent 94 = .ok (.iastore, 1) := by decide +kernel
theorem dX6_consent_95 : decode cX6_consent 95 = .ok (.iinc 6 1, 3) := by decide +kernel
theorem dX6_consent_98 : decode cX6_consent 98 = .ok (.goto (-39), 3) := by decide +kernel
theorem dX6_consent_101 : decode cX6_consent 101 = .ok (.aload_n 0, 1) := by decide +kernel
theorem dX6_consent_102 : decode cX6_consent 102 = .ok (.aload_n 0, 1) := by decide +kernel
theorem dX6_consent_103 : decode cX6_consent 103 = .ok (.getfield 9, 3) := by decide +kernel
theorem dX6_consent_106 : decode cX6_consent 106 = .ok (.invokevirtual 141, 3) := by decide +kernel
theorem dX6_consent_109 : decode cX6_consent 109 = .ok (.iload 5, 2) := by decide +kernel
theorem dX6_consent_111 : decode cX6_consent 111 = .ok (.ireturn, 1) := by decide +kernel
set_option maxRecDepth 20000 in
theorem ggX6_penalty_X6_unsettle : GoodIn wsX6_penalty wsX6_unsettle := goodIn_r _ [8, 9, 10, 11, 12, 13, 14, 15, 16, 17, 18, 19, 20, 21, 22, 23, 24, 25, 26, 27, 28, 29, 30, 31, 32, 33] (by decide +kernel) (by decide +kernel)
set_option maxRecDepth 20000 in
theorem gX6_penalty_X6_unsettle : GoodIn wsX6_penalty (wsV RX6 141 RX6 yX6_unsettle wsX6_unsettle) := goodIn_app (goodIn_of _ (by decide +kernel)) ggX6_penalty_X6_unsettle
theorem dX6_penalty_0 : decode cX6_penalty 0 = .ok (.iload_n 1, 1) := by decide +kernel
theorem dX6_penalty_1 : decode cX6_penalty 1 = .ok (.bipush 100, 2) := by decide +kernel
theorem dX6_penalty_3 : decode cX6_penalty 3 = .ok (.if_icmp .lt 10, 3) := by decide +kernel
theorem dX6_penalty_6 : decode cX6_penalty 6 = .ok (.iload_n 1, 1) := by decide +kernel
theorem dX6_penalty_7 : decode cX6_penalty 7 = .ok (.sipush 500, 3) := by decide +kernel
theorem dX6_penalty_10 : decode cX6_penalty 10 = .ok (.if_icmp .le 13, 3) := by decide +kernel
theorem dX6_penalty_13 : decode cX6_penalty 13 = .ok (.new 93, 3) := by decide +kernel
theorem dX6_penalty_16 : decode cX6_penalty 16 = .ok (.dup, 1) := by decide +kernel
theorem dX6_penalty_17 : decode cX6_penalty 17 = .ok (.ldc 225, 2) := by decide +kernel
theorem dX6_penalty_19 : decode cX6_penalty 19 = .ok (.invokespecial 97, 3) := by decide +kernel
theorem dX6_penalty_22 : decode cX6_penalty 22 = .ok (.athrow, 1) := by decide +kernel
theorem dX6_penalty_23 : decode cX6_penalty 23 = .ok (.aload_n 0, 1) := by decide +kernel
theorem dX6_penalty_24 : decode cX6_penalty 24 = .ok (.getfield 62, 3) := by decide +kernel
theorem dX6_penalty_27 : decode cX6_penalty 27 = .ok (.istore_n 2, 1) := by decide +kernel
theorem dX6_penalty_28 : decode cX6_penalty 28 = .ok (.aload_n 0, 1) := by decide +kernel
theorem dX6_penalty_29 : decode cX6_penalty 29 = .ok (.iload_n 1, 1) := by decide +kernel
theorem dX6_penalty_30 : decode cX6_penalty 30 = .ok (.putfield 62, 3) := by decide +kernel
theorem dX6_penalty_33 : decode cX6_penalty 33 = .ok (.aload_n 0, 1) := by decide +kernel
theorem dX6_penalty_34 : decode cX6_penalty 34 = .ok (.iconst 0, 1) := by decide +kernel
theorem dX6_penalty_35 : decode cX6_penalty 35 = .ok (.invokevirtual 141, 3) := by decide +kernel
theorem dX6_penalty_38 : decode cX6_penalty 38 = .ok (.iload_n 2, 1) := by decide +kernel
theorem dX6_penalty_39 : decode cX6_penalty 39 = .ok (.ireturn, 1) := by decide +kernel
set_option maxRecDepth 20000 in
theorem ggX6_interest_X6_unitIn : GoodIn wsX6_interest wsX6_unitIn := goodIn_r _ [10, 11, 12, 13, 14, 15, 9, 16, 17, 105, 106, 107, 108, 109, 110, 111, 82, 83, 84, 85, 86, 87, 88, 89, 90, 91, 92, 93, 94, 95, 96, 97, 98, 99, 100, 101] (by decide +kernel) (by decide +kernel)
set_option maxRecDepth 20000 in
theorem gX6_interest_X6_unitIn : GoodIn wsX6_interest (wsV RX6 240 RX6 yX6_unitIn wsX6_unitIn) := goodIn_app (goodIn_of _ (by decide +kernel)) ggX6_interest_X6_unitIn
set_option maxRecDepth 20000 in
theorem ggX6_interest_X6_isOwner : GoodIn wsX6_interest wsX6_isOwner := goodIn_r _ [20] (by decide +kernel) (by decide +kernel)
set_option maxRecDepth 20000 in
theorem gX6_interest_X6_isOwner : GoodIn wsX6_interest (va_wsS RX6 105 yX6_isOwner wsX6_isOwner) := goodIn_app (goodIn_of _ (by decide +kernel)) ggX6_interest_X6_isOwner
set_option maxRecDepth 20000 in
theorem ggX6_interest_X6_layDeck : GoodIn wsX6_interest wsX6_layDeck := goodIn_r _ [24, 3, 25, 26, 27, 28, 29, 30, 31, 32, 33, 34, 35, 9, 36, 37, 38, 39, 40, 41, 42, 43, 44, 45, 46, 47, 48, 49, 50, 51, 52, 53, 54, 55, 56, 57, 58, 59, 60, 61, 62, 63, 64, 65, 66, 67, 68, 69, 70, 82, 83, 84, 85, 86, 87, 88, 89, 90, 91, 92, 93, 94, 95, 96, 97, 98, 99, 100, 101, 112, 113, 114, 102, 103, 104, 115, 116, 117, 118, 119, 120, 121, 122, 123, 124, 125, 105, 106, 107, 108, 109, 110, 111] (by decide +kernel) (by decide +kernel)
set_option maxRecDepth 20000 in
theorem gX6_interest_X6_layDeck : GoodIn wsX6_interest (wsV RX6 246 RX6 yX6_layDeck wsX6_layDeck) := goodIn_app (goodIn_of _ (by decide +kernel)) ggX6_interest_X6_layDeck
set_option maxRecDepth 20000 in
theorem ggX6_interest_X2_partOut : GoodIn wsX6_interest wsX2_partOut := goodIn_r _ [74, 32, 75, 76, 77, 78, 79, 30, 80, 81, 102, 103, 104] (by decide +kernel) (by decide +kernel)
set_option maxRecDepth 20000 in
theorem gX6_interest_X2_partOut : GoodIn wsX6_interest (wsV RX6 252 RX2 yX2_partOut wsX2_partOut) := goodIn_app (goodIn_of _ (by decide +kernel)) ggX6_interest_X2_partOut
theorem dX6_interest_0 : decode cX6_interest 0 = .ok (.aload_n 0, 1) := by decide +kernel
theorem dX6_interest_1 : decode cX6_interest 1 = .ok (.iload_n 1, 1) := by decide +kernel
theorem dX6_interest_2 : decode cX6_interest 2 = .ok (.iload_n 2, 1) := by decide +kernel
theorem dX6_interest_3 : decode cX6_interest 3 = .ok (.invokevirtual 240, 3) := by decide +kernel
theorem dX6_interest_6 : decode cX6_interest 6 = .ok (.astore 5, 2) := by decide +kernel
theorem dX6_interest_8 : decode cX6_interest 8 = .ok (.aload 5, 2) := by decide +kernel
theorem dX6_interest_10 : decode cX6_interest 10 = .ok (.ifnull 10, 3) := by decide +kernel
theorem dX6_interest_13 : decode cX6_interest 13 = .ok (.iload_n 3, 1) := by decide +kernel
theorem dX6_interest_14 : decode cX6_interest 14 = .ok (.invokestatic 105, 3) := by decide +kernel
theorem dX6_interest_17 : decode cX6_interest 17 = .ok (.ifCond .ne 13, 3) := by decide +kernel
theorem dX6_interest_20 : decode cX6_interest 20 = .ok (.new 109, 3) := by decide +kernel
theorem dX6_interest_23 : decode cX6_interest 23 = .ok (.dup, 1) := by decide +kernel
theorem dX6_interest_24 : decode cX6_interest 24 = .ok (.ldc 244, 2) := by decide +kernel
theorem dX6_interest_26 : decode cX6_interest 26 = .ok (.invokespecial 113, 3) := by decide +kernel
theorem dX6_interest_29 : decode cX6_interest 29 = .ok (.athrow, 1) := by decide +kernel
theorem dX6_interest_30 : decode cX6_interest 30 = .ok (.aload_n 0, 1) := by decide +kernel
theorem dX6_interest_31 : decode cX6_interest 31 = .ok (.aload 5, 2) := by decide +kernel
theorem dX6_interest_33 : decode cX6_interest 33 = .ok (.iload_n 2, 1) := by decide +kernel
theorem dX6_interest_34 : decode cX6_interest 34 = .ok (.invokevirtual 246, 3) := by decide +kernel
theorem dX6_interest_37 : decode cX6_interest 37 = .ok (.aload_n 0, 1) := by decide +kernel
theorem dX6_interest_38 : decode cX6_interest 38 = .ok (.getfield 86, 3) := by decide +kernel
theorem dX6_interest_41 : decode cX6_interest 41 = .ok (.ldc2_w 250, 3) := by decide +kernel
theorem dX6_interest_44 : decode cX6_interest 44 = .ok (.invokevirtual 252, 3) := by decide +kernel
theorem dX6_interest_47 : decode cX6_interest 47 = .ok (.aload_n 0, 1) := by decide +kernel
theorem dX6_interest_48 : decode cX6_interest 48 = .ok (.getfield 86, 3) := by decide +kernel
theorem dX6_interest_51 : decode cX6_interest 51 = .ok (.getfield 256, 3) := by decide +kernel
theorem dX6_interest_54 : decode cX6_interest 54 = .ok (.iload 4, 2) := by decide +kernel
theorem dX6_interest_56 : decode cX6_interest 56 = .ok (.ifCond .eq 7, 3) := by decide +kernel
theorem dX6_interest_59 : decode cX6_interest 59 = .ok (.iload_n 3, 1) := by decide +kernel
theorem dX6_interest_60 : decode cX6_interest 60 = .ok (.goto 7, 3) := by decide +kernel
theorem dX6_interest_63 : decode cX6_interest 63 = .ok (.bipush 10, 2) := by decide +kernel
theorem dX6_interest_65 : decode cX6_interest 65 = .ok (.iload_n 3, 1) := by decide +kernel
theorem dX6_interest_66 : decode cX6_interest 66 = .ok (.iadd, 1) := by decide +kernel
theorem dX6_interest_67 : decode cX6_interest 67 = .ok (.laload, 1) := by decide +kernel
theorem dX6_interest_68 : decode cX6_interest 68 = .ok (.l2i, 1) := by decide +kernel
theorem dX6_interest_69 : decode cX6_interest 69 = .ok (.ireturn, 1) := by decide +kernel
set_option maxRecDepth 20000 in
theorem ggX6_revenue_X6_unitIn : GoodIn wsX6_revenue wsX6_unitIn := goodIn_r _ [7, 8, 9, 10, 11, 12, 6, 13, 14, 26, 27, 28, 29, 30, 31, 32, 33, 34, 35, 36, 37, 38, 39, 40, 41, 42, 43, 44, 45, 46, 47, 48, 49, 50, 51, 52] (by decide +kernel) (by decide +kernel)
set_option maxRecDepth 20000 in
theorem gX6_revenue_X6_unitIn : GoodIn wsX6_revenue (wsV RX6 240 RX6 yX6_unitIn wsX6_unitIn) := goodIn_app (goodIn_of _ (by decide +kernel)) ggX6_revenue_X6_unitIn
set_option maxRecDepth 20000 in
theorem ggX6_revenue_X6_revenueOf : GoodIn wsX6_revenue wsX6_revenueOf := goodIn_r _ [18, 19, 20, 21, 22, 23, 6, 24, 25, 26, 27, 28, 29, 30, 31, 32, 33, 34, 35, 36, 37, 38, 39, 40, 41, 42, 43, 44, 45, 46, 47, 48, 49, 50, 51, 52] (by decide +kernel) (by decide +kernel)
set_option maxRecDepth 20000 in
theorem gX6_revenue_X6_revenueOf : GoodIn wsX6_revenue (wsV RX6 261 RX6 yX6_revenueOf wsX6_revenueOf) := goodIn_app (goodIn_of _ (by decide +kernel)) ggX6_revenue_X6_revenueOf
theorem dX6_revenue_0 : decode cX6_revenue 0 = .ok (.aload_n 0, 1) := by decide +kernel
theorem dX6_revenue_1 : decode cX6_revenue 1 = .ok (.iload_n 1, 1) := by decide +kernel
theorem dX6_revenue_2 : decode cX6_revenue 2 = .ok (.iload_n 2, 1) := by decide +kernel
theorem dX6_revenue_3 : decode cX6_revenue 3 = .ok (.invokevirtual 240, 3) := by decide +kernel
theorem dX6_revenue_6 : decode cX6_revenue 6 = .ok (.astore_n 3, 1) := by decide +kernel
theorem dX6_revenue_7 : decode cX6_revenue 7 = .ok (.aload_n 3, 1) := by decide +kernel
theorem dX6_revenue_8 : decode cX6_revenue 8 = .ok (.ifnonnull 14, 3) := by decide +kernel
theorem dX6_revenue_11 : decode cX6_revenue 11 = .ok (.new 109, 3) := by decide +kernel
theorem dX6_revenue_14 : decode cX6_revenue 14 = .ok (.dup, 1) := by decide +kernel
theorem dX6_revenue_15 : decode cX6_revenue 15 = .ok (.ldc_w 259, 3) := by decide +kernel
theorem dX6_revenue_18 : decode cX6_revenue 18 = .ok (.invokespecial 113, 3) := by decide +kernel
theorem dX6_revenue_21 : decode cX6_revenue 21 = .ok (.athrow, 1) := by decide +kernel
theorem dX6_revenue_22 : decode cX6_revenue 22 = .ok (.aload_n 0, 1) := by decide +kernel
theorem dX6_revenue_23 : decode cX6_revenue 23 = .ok (.aload_n 3, 1) := by decide +kernel
theorem dX6_revenue_24 : decode cX6_revenue 24 = .ok (.iload_n 2, 1) := by decide +kernel
theorem dX6_revenue_25 : decode cX6_revenue 25 = .ok (.invokevirtual 261, 3) := by decide +kernel
theorem dX6_revenue_28 : decode cX6_revenue 28 = .ok (.l2i, 1) := by decide +kernel
theorem dX6_revenue_29 : decode cX6_revenue 29 = .ok (.ireturn, 1) := by decide +kernel
set_option maxRecDepth 20000 in
theorem ggX6_due_X6_unitIn : GoodIn wsX6_due wsX6_unitIn := goodIn_r _ [8, 9, 10, 11, 12, 13, 7, 14, 15, 141, 142, 143, 144, 145, 146, 147, 148, 149, 150, 151, 152, 153, 154, 155, 156, 157, 158, 159, 160, 161, 162, 163, 164, 165, 166, 167] (by decide +kernel) (by decide +kernel)
set_option maxRecDepth 20000 in
theorem gX6_due_X6_unitIn : GoodIn wsX6_due (wsV RX6 240 RX6 yX6_unitIn wsX6_unitIn) := goodIn_app (goodIn_of _ (by decide +kernel)) ggX6_due_X6_unitIn
set_option maxRecDepth 20000 in
theorem ggX6_due_X6_isOwner : GoodIn wsX6_due wsX6_isOwner := goodIn_r _ [18] (by decide +kernel) (by decide +kernel)
set_option maxRecDepth 20000 in
theorem gX6_due_X6_isOwner : GoodIn wsX6_due (va_wsS RX6 105 yX6_isOwner wsX6_isOwner) := goodIn_app (goodIn_of _ (by decide +kernel)) ggX6_due_X6_isOwner
