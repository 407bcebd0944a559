theorem dX6_init_70 : decode cX6_init 70 = .ok (.putfield 51, 3) := by decide +kernel
theorem dX6_init_73 : decode cX6_init 73 = .ok (.aload_n 0, 1) := by decide +kernel
theorem dX6_init_74 : decode cX6_init 74 = .ok (.iconst 0, 1) := by decide +kernel
theorem dX6_init_75 : decode cX6_init 75 = .ok (.putfield 55, 3) := by decide +kernel
theorem dX6_init_78 : decode cX6_init 78 = .ok (.aload_n 0, 1) := by decide +kernel
theorem dX6_init_79 : decode cX6_init 79 = .ok (.bipush 61, 2) := by decide +kernel
theorem dX6_init_81 : decode cX6_init 81 = .ok (.newarray .int, 2) := by decide +kernel
theorem dX6_init_83 : decode cX6_init 83 = .ok (.putfield 58, 3) := by decide +kernel
theorem dX6_init_86 : decode cX6_init 86 = .ok (.aload_n 0, 1) := by decide +kernel
theorem dX6_init_87 : decode cX6_init 87 = .ok (.sipush 300, 3) := by decide +kernel
theorem dX6_init_90 : decode cX6_init 90 = .ok (.putfield 62, 3) := by decide +kernel
theorem dX6_init_93 : decode cX6_init 93 = .ok (.aload_n 0, 1) := by decide +kernel
theorem dX6_init_94 : decode cX6_init 94 = .ok (.iconst 0, 1) := by decide +kernel
theorem dX6_init_95 : decode cX6_init 95 = .ok (.putfield 65, 3) := by decide +kernel
theorem dX6_init_98 : decode cX6_init 98 = .ok (.aload_n 0, 1) := by decide +kernel
theorem dX6_init_99 : decode cX6_init 99 = .ok (.bipush 100, 2) := by decide +kernel
theorem dX6_init_101 : decode cX6_init 101 = .ok (.putfield 68, 3) := by decide +kernel
theorem dX6_init_104 : decode cX6_init 104 = .ok (.aload_n 0, 1) := by decide +kernel
theorem dX6_init_105 : decode cX6_init 105 = .ok (.bipush 10, 2) := by decide +kernel
theorem dX6_init_107 : decode cX6_init 107 = .ok (.newarray .long, 2) := by decide +kernel
theorem dX6_init_109 : decode cX6_init 109 = .ok (.putfield 71, 3) := by decide +kernel
theorem dX6_init_112 : decode cX6_init 112 = .ok (.aload_n 0, 1) := by decide +kernel
theorem dX6_init_113 : decode cX6_init 113 = .ok (.iconst 0, 1) := by decide +kernel
theorem dX6_init_114 : decode cX6_init 114 = .ok (.putfield 75, 3) := by decide +kernel
theorem dX6_init_117 : decode cX6_init 117 = .ok (.aload_n 0, 1) := by decide +kernel
theorem dX6_init_118 : decode cX6_init 118 = .ok (.bipush 10, 2) := by decide +kernel
theorem dX6_init_120 : decode cX6_init 120 = .ok (.newarray .int, 2) := by decide +kernel
theorem dX6_init_122 : decode cX6_init 122 = .ok (.putfield 78, 3) := by decide +kernel
theorem dX6_init_125 : decode cX6_init 125 = .ok (.aload_n 0, 1) := by decide +kernel
theorem dX6_init_126 : decode cX6_init 126 = .ok (.new 81, 3) := by decide +kernel
theorem dX6_init_129 : decode cX6_init 129 = .ok (.dup, 1) := by decide +kernel
theorem dX6_init_130 : decode cX6_init 130 = .ok (.bipush 20, 2) := by decide +kernel
theorem dX6_init_132 : decode cX6_init 132 = .ok (.invokespecial 83, 3) := by decide +kernel
theorem dX6_init_135 : decode cX6_init 135 = .ok (.putfield 86, 3) := by decide +kernel
theorem dX6_init_138 : decode cX6_init 138 = .ok (.aload_n 0, 1) := by decide +kernel
theorem dX6_init_139 : decode cX6_init 139 = .ok (.new 81, 3) := by decide +kernel
theorem dX6_init_142 : decode cX6_init 142 = .ok (.dup, 1) := by decide +kernel
theorem dX6_init_143 : decode cX6_init 143 = .ok (.bipush 10, 2) := by decide +kernel
theorem dX6_init_145 : decode cX6_init 145 = .ok (.invokespecial 83, 3) := by decide +kernel
theorem dX6_init_148 : decode cX6_init 148 = .ok (.putfield 90, 3) := by decide +kernel
theorem dX6_init_151 : decode cX6_init 151 = .ok (.iconst 0, 1) := by decide +kernel
theorem dX6_init_152 : decode cX6_init 152 = .ok (.istore_n 1, 1) := by decide +kernel
theorem dX6_init_153 : decode cX6_init 153 = .ok (.iload_n 1, 1) := by decide +kernel
theorem dX6_init_154 : decode cX6_init 154 = .ok (.bipush 61, 2) := by decide +kernel
theorem dX6_init_156 : decode cX6_init 156 = .ok (.if_icmp .ge 16, 3) := by decide +kernel
theorem dX6_init_159 : decode cX6_init 159 = .ok (.aload_n 0, 1) := by decide +kernel
theorem dX6_init_160 : decode cX6_init 160 = .ok (.getfield 58, 3) := by decide +kernel
theorem dX6_init_163 : decode cX6_init 163 = .ok (.iload_n 1, 1) := by decide +kernel
theorem dX6_init_164 : decode cX6_init 164 = .ok (.iconst (-1), 1) := by decide +kernel
theorem dX6_init_165 : decode cX6_init 165 = .ok (.iastore, 1) := by decide +kernel
theorem dX6_init_166 : decode cX6_init 166 = .ok (.iinc 1 1, 3) := by decide +kernel
theorem dX6_init_169 : decode cX6_init 169 = .ok (.goto (-16), 3) := by decide +kernel
theorem dX6_init_172 : decode cX6_init 172 = .ok (.return_, 1) := by decide +kernel
theorem dX6_pass_0 : decode cX6_pass 0 = .ok (.iload_n 1, 1) := by decide +kernel
theorem dX6_pass_1 : decode cX6_pass 1 = .ok (.iconst 1, 1) := by decide +kernel
theorem dX6_pass_2 : decode cX6_pass 2 = .ok (.if_icmp .lt 9, 3) := by decide +kernel
theorem dX6_pass_5 : decode cX6_pass 5 = .ok (.iload_n 1, 1) := by decide +kernel
theorem dX6_pass_6 : decode cX6_pass 6 = .ok (.bipush 12, 2) := by decide +kernel
theorem dX6_pass_8 : decode cX6_pass 8 = .ok (.if_icmp .le 13, 3) := by decide +kernel
theorem dX6_pass_11 : decode cX6_pass 11 = .ok (.new 93, 3) := by decide +kernel
theorem dX6_pass_14 : decode cX6_pass 14 = .ok (.dup, 1) := by decide +kernel
theorem dX6_pass_15 : decode cX6_pass 15 = .ok (.ldc 95, 2) := by decide +kernel
theorem dX6_pass_17 : decode cX6_pass 17 = .ok (.invokespecial 97, 3) := by decide +kernel
theorem dX6_pass_20 : decode cX6_pass 20 = .ok (.athrow, 1) := by decide +kernel
theorem dX6_pass_21 : decode cX6_pass 21 = .ok (.aload_n 0, 1) := by decide +kernel
theorem dX6_pass_22 : decode cX6_pass 22 = .ok (.getfield 9, 3) := by decide +kernel
theorem dX6_pass_25 : decode cX6_pass 25 = .ok (.iload_n 1, 1) := by decide +kernel
theorem dX6_pass_26 : decode cX6_pass 26 = .ok (.iadd, 1) := by decide +kernel
theorem dX6_pass_27 : decode cX6_pass 27 = .ok (.bipush 60, 2) := by decide +kernel
theorem dX6_pass_29 : decode cX6_pass 29 = .ok (.if_icmp .le 13, 3) := by decide +kernel
theorem dX6_pass_32 : decode cX6_pass 32 = .ok (.new 100, 3) := by decide +kernel
theorem dX6_pass_35 : decode cX6_pass 35 = .ok (.dup, 1) := by decide +kernel
theorem dX6_pass_36 : decode cX6_pass 36 = .ok (.ldc 102, 2) := by decide +kernel
theorem dX6_pass_38 : decode cX6_pass 38 = .ok (.invokespecial 104, 3) := by decide +kernel
theorem dX6_pass_41 : decode cX6_pass 41 = .ok (.athrow, 1) := by decide +kernel
theorem dX6_pass_42 : decode cX6_pass 42 = .ok (.aload_n 0, 1) := by decide +kernel
theorem dX6_pass_43 : decode cX6_pass 43 = .ok (.dup, 1) := by decide +kernel
theorem dX6_pass_44 : decode cX6_pass 44 = .ok (.getfield 9, 3) := by decide +kernel
theorem dX6_pass_47 : decode cX6_pass 47 = .ok (.iload_n 1, 1) := by decide +kernel
theorem dX6_pass_48 : decode cX6_pass 48 = .ok (.iadd, 1) := by decide +kernel
theorem dX6_pass_49 : decode cX6_pass 49 = .ok (.putfield 9, 3) := by decide +kernel
theorem dX6_pass_52 : decode cX6_pass 52 = .ok (.aload_n 0, 1) := by decide +kernel
theorem dX6_pass_53 : decode cX6_pass 53 = .ok (.getfield 9, 3) := by decide +kernel
theorem dX6_pass_56 : decode cX6_pass 56 = .ok (.ireturn, 1) := by decide +kernel
set_option maxRecDepth 20000 in
theorem ggX6_tract_X6_isOwner : GoodIn wsX6_tract wsX6_isOwner := goodIn_r _ [15] (by decide +kernel) (by decide +kernel)
set_option maxRecDepth 20000 in
theorem gX6_tract_X6_isOwner : GoodIn wsX6_tract (va_wsS RX6 105 yX6_isOwner wsX6_isOwner) := goodIn_app (goodIn_of _ (by decide +kernel)) ggX6_tract_X6_isOwner
set_option maxRecDepth 20000 in
theorem ggX6_tract_X3_init : GoodIn wsX6_tract wsX3_init := goodIn_r _ [18, 19, 20, 21, 22, 23, 24, 45, 46, 47] (by decide +kernel) (by decide +kernel)
set_option maxRecDepth 20000 in
theorem gX6_tract_X3_init : GoodIn wsX6_tract (wsX3_init) := ggX6_tract_X3_init
theorem dX6_tract_0 : decode cX6_tract 0 = .ok (.iload_n 2, 1) := by decide +kernel
theorem dX6_tract_1 : decode cX6_tract 1 = .ok (.invokestatic 105, 3) := by decide +kernel
theorem dX6_tract_4 : decode cX6_tract 4 = .ok (.ifCond .ne 13, 3) := by decide +kernel
theorem dX6_tract_7 : decode cX6_tract 7 = .ok (.new 109, 3) := by decide +kernel
theorem dX6_tract_10 : decode cX6_tract 10 = .ok (.dup, 1) := by decide +kernel
theorem dX6_tract_11 : decode cX6_tract 11 = .ok (.ldc 111, 2) := by decide +kernel
theorem dX6_tract_13 : decode cX6_tract 13 = .ok (.invokespecial 113, 3) := by decide +kernel
theorem dX6_tract_16 : decode cX6_tract 16 = .ok (.athrow, 1) := by decide +kernel
theorem dX6_tract_17 : decode cX6_tract 17 = .ok (.iload_n 1, 1) := by decide +kernel
theorem dX6_tract_18 : decode cX6_tract 18 = .ok (.iconst 1, 1) := by decide +kernel
theorem dX6_tract_19 : decode cX6_tract 19 = .ok (.if_icmp .lt 10, 3) := by decide +kernel
theorem dX6_tract_22 : decode cX6_tract 22 = .ok (.iload_n 1, 1) := by decide +kernel
theorem dX6_tract_23 : decode cX6_tract 23 = .ok (.sipush 1000, 3) := by decide +kernel
theorem dX6_tract_26 : decode cX6_tract 26 = .ok (.if_icmp .le 13, 3) := by decide +kernel
theorem dX6_tract_29 : decode cX6_tract 29 = .ok (.new 93, 3) := by decide +kernel
theorem dX6_tract_32 : decode cX6_tract 32 = .ok (.dup, 1) := by decide +kernel
theorem dX6_tract_33 : decode cX6_tract 33 = .ok (.ldc 114, 2) := by decide +kernel
theorem dX6_tract_35 : decode cX6_tract 35 = .ok (.invokespecial 97, 3) := by decide +kernel
theorem dX6_tract_38 : decode cX6_tract 38 = .ok (.athrow, 1) := by decide +kernel
theorem dX6_tract_39 : decode cX6_tract 39 = .ok (.aload_n 0, 1) := by decide +kernel
theorem dX6_tract_40 : decode cX6_tract 40 = .ok (.getfield 19, 3) := by decide +kernel
theorem dX6_tract_43 : decode cX6_tract 43 = .ok (.bipush 8, 2) := by decide +kernel
theorem dX6_tract_45 : decode cX6_tract 45 = .ok (.if_icmp .lt 13, 3) := by decide +kernel
theorem dX6_tract_48 : decode cX6_tract 48 = .ok (.new 100, 3) := by decide +kernel
theorem dX6_tract_51 : decode cX6_tract 51 = .ok (.dup, 1) := by decide +kernel
theorem dX6_tract_52 : decode cX6_tract 52 = .ok (.ldc 116, 2) := by decide +kernel
theorem dX6_tract_54 : decode cX6_tract 54 = .ok (.invokespecial 104, 3) := by decide +kernel
theorem dX6_tract_57 : decode cX6_tract 57 = .ok (.athrow, 1) := by decide +kernel
theorem dX6_tract_58 : decode cX6_tract 58 = .ok (.aload_n 0, 1) := by decide +kernel
theorem dX6_tract_59 : decode cX6_tract 59 = .ok (.getfield 15, 3) := by decide +kernel
theorem dX6_tract_62 : decode cX6_tract 62 = .ok (.aload_n 0, 1) := by decide +kernel
theorem dX6_tract_63 : decode cX6_tract 63 = .ok (.getfield 19, 3) := by decide +kernel
theorem dX6_tract_66 : decode cX6_tract 66 = .ok (.new 13, 3) := by decide +kernel
theorem dX6_tract_69 : decode cX6_tract 69 = .ok (.dup, 1) := by decide +kernel
theorem dX6_tract_70 : decode cX6_tract 70 = .ok (.iload_n 1, 1) := by decide +kernel
theorem dX6_tract_71 : decode cX6_tract 71 = .ok (.iload_n 2, 1) := by decide +kernel
theorem dX6_tract_72 : decode cX6_tract 72 = .ok (.invokespecial 118, 3) := by decide +kernel
theorem dX6_tract_75 : decode cX6_tract 75 = .ok (.aastore, 1) := by decide +kernel
theorem dX6_tract_76 : decode cX6_tract 76 = .ok (.aload_n 0, 1) := by decide +kernel
theorem dX6_tract_77 : decode cX6_tract 77 = .ok (.dup, 1) := by decide +kernel
theorem dX6_tract_78 : decode cX6_tract 78 = .ok (.getfield 19, 3) := by decide +kernel
theorem dX6_tract_81 : decode cX6_tract 81 = .ok (.dup_x1, 1) := by decide +kernel
theorem dX6_tract_82 : decode cX6_tract 82 = .ok (.iconst 1, 1) := by decide +kernel
theorem dX6_tract_83 : decode cX6_tract 83 = .ok (.iadd, 1) := by decide +kernel
theorem dX6_tract_84 : decode cX6_tract 84 = .ok (.putfield 19, 3) := by decide +kernel
theorem dX6_tract_87 : decode cX6_tract 87 = .ok (.ireturn, 1) := by decide +kernel
set_option maxRecDepth 20000 in
theorem ggX6_deed_X6_tractAt : GoodIn wsX6_deed wsX6_tractAt := goodIn_r _ [17, 18, 60, 61, 62, 63, 64, 65, 66, 67, 68, 69, 70, 71, 72, 73, 74, 75, 76, 77, 78, 79] (by decide +kernel) (by decide +kernel)
set_option maxRecDepth 20000 in
theorem gX6_deed_X6_tractAt : GoodIn wsX6_deed (wsV RX6 121 RX6 yX6_tractAt wsX6_tractAt) := goodIn_app (goodIn_of _ (by decide +kernel)) ggX6_deed_X6_tractAt
set_option maxRecDepth 20000 in
theorem ggX6_deed_X6_isOwner : GoodIn wsX6_deed wsX6_isOwner := goodIn_r _ [21] (by decide +kernel) (by decide +kernel)
set_option maxRecDepth 20000 in
theorem gX6_deed_X6_isOwner : GoodIn wsX6_deed (va_wsS RX6 105 yX6_isOwner wsX6_isOwner) := goodIn_app (goodIn_of _ (by decide +kernel)) ggX6_deed_X6_isOwner
set_option maxRecDepth 20000 in
theorem ggX6_deed_X6_isMonth : GoodIn wsX6_deed wsX6_isMonth := goodIn_r _ [25, 12, 60, 61, 62, 63, 64, 65, 66, 67, 68, 69, 70, 71, 72, 73, 74, 75, 76, 77, 78, 79] (by decide +kernel) (by decide +kernel)
set_option maxRecDepth 20000 in
theorem gX6_deed_X6_isMonth : GoodIn wsX6_deed (wsV RX6 125 RX6 yX6_isMonth wsX6_isMonth) := goodIn_app (goodIn_of _ (by decide +kernel)) ggX6_deed_X6_isMonth
set_option maxRecDepth 20000 in
theorem ggX6_deed_X6_leastTitle : GoodIn wsX6_deed wsX6_leastTitle := goodIn_r _ [29, 12, 30, 31, 32, 33, 34, 35, 36, 16, 37, 38, 8, 39, 40, 41, 42, 43, 60, 61, 62, 63, 64, 65, 66, 67, 68, 69, 70, 71, 72, 73, 74, 75, 76, 77, 78, 79, 85, 86, 87, 80, 81, 82, 83, 84] (by decide +kernel) (by decide +kernel)
set_option maxRecDepth 20000 in
theorem gX6_deed_X6_leastTitle : GoodIn wsX6_deed (wsV RX6 132 RX6 yX6_leastTitle wsX6_leastTitle) := goodIn_app (goodIn_of _ (by decide +kernel)) ggX6_deed_X6_leastTitle
set_option maxRecDepth 20000 in
theorem ggX6_deed_X0_init : GoodIn wsX6_deed wsX0_init := goodIn_r _ [46, 47, 48, 49, 50, 51, 52, 53, 54, 80, 81, 82, 83, 84] (by decide +kernel) (by decide +kernel)
set_option maxRecDepth 20000 in
theorem gX6_deed_X0_init : GoodIn wsX6_deed (wsX0_init) := ggX6_deed_X0_init
set_option maxRecDepth 20000 in
theorem ggX6_deed_X6_unsettle : GoodIn wsX6_deed wsX6_unsettle := goodIn_r _ [58, 59, 30, 31, 32, 33, 60, 61, 62, 63, 64, 65, 66, 67, 68, 69, 70, 71, 72, 73, 74, 75, 76, 77, 78, 79] (by decide +kernel) (by decide +kernel)
set_option maxRecDepth 20000 in
theorem gX6_deed_X6_unsettle : GoodIn wsX6_deed (wsV RX6 141 RX6 yX6_unsettle wsX6_unsettle) := goodIn_app (goodIn_of _ (by decide +kernel)) ggX6_deed_X6_unsettle
set_option maxRecDepth 20000 in
theorem ggX6_deed_X6_titleOf : GoodIn wsX6_deed wsX6_titleOf := goodIn_r _ [37, 38, 8, 39, 40, 41, 42, 43, 85, 86, 87, 60, 61, 62, 63, 64, 65, 66, 67, 68, 69, 70, 71, 72, 73, 74, 75, 76, 77, 78, 79, 80, 81, 82, 83, 84] (by decide +kernel) (by decide +kernel)
set_option maxRecDepth 20000 in
theorem gX6_deed_X6_titleOf : GoodIn wsX6_deed (wsV RX6 144 RX6 yX6_titleOf wsX6_titleOf) := goodIn_app (goodIn_of _ (by decide +kernel)) ggX6_deed_X6_titleOf
theorem dX6_deed_0 : decode cX6_deed 0 = .ok (.aload_n 0, 1) := by decide +kernel
theorem dX6_deed_1 : decode cX6_deed 1 = .ok (.iload_n 1, 1) := by decide +kernel
theorem dX6_deed_2 : decode cX6_deed 2 = .ok (.invokevirtual 121, 3) := by decide +kernel
theorem dX6_deed_5 : decode cX6_deed 5 = .ok (.astore 6, 2) := by decide +kernel
theorem dX6_deed_7 : decode cX6_deed 7 = .ok (.aload 6, 2) := by decide +kernel
theorem dX6_deed_9 : decode cX6_deed 9 = .ok (.ifnull 26, 3) := by decide +kernel
theorem dX6_deed_12 : decode cX6_deed 12 = .ok (.iload_n 2, 1) := by decide +kernel
theorem dX6_deed_13 : decode cX6_deed 13 = .ok (.invokestatic 105, 3) := by decide +kernel
theorem dX6_deed_16 : decode cX6_deed 16 = .ok (.ifCond .eq 19, 3) := by decide +kernel
theorem dX6_deed_19 : decode cX6_deed 19 = .ok (.iload_n 3, 1) := by decide +kernel
theorem dX6_deed_20 : decode cX6_deed 20 = .ok (.invokestatic 105, 3) := by decide +kernel
theorem dX6_deed_23 : decode cX6_deed 23 = .ok (.ifCond .eq 12, 3) := by decide +kernel
theorem dX6_deed_26 : decode cX6_deed 26 = .ok (.aload_n 0, 1) := by decide +kernel
theorem dX6_deed_27 : decode cX6_deed 27 = .ok (.iload 5, 2) := by decide +kernel
theorem dX6_deed_29 : decode cX6_deed 29 = .ok (.invokevirtual 125, 3) := by decide +kernel
theorem dX6_deed_32 : decode cX6_deed 32 = .ok (.ifCond .ne 13, 3) := by decide +kernel
theorem dX6_deed_35 : decode cX6_deed 35 = .ok (.new 109, 3) := by decide +kernel
theorem dX6_deed_38 : decode cX6_deed 38 = .ok (.dup, 1) := by decide +kernel
theorem dX6_deed_39 : decode cX6_deed 39 = .ok (.ldc 128, 2) := by decide +kernel
theorem dX6_deed_41 : decode cX6_deed 41 = .ok (.invokespecial 113, 3) := by decide +kernel
theorem dX6_deed_44 : decode cX6_deed 44 = .ok (.athrow, 1) := by decide +kernel
theorem dX6_deed_45 : decode cX6_deed 45 = .ok (.iload_n 2, 1) := by decide +kernel
theorem dX6_deed_46 : decode cX6_deed 46 = .ok (.iload_n 3, 1) := by decide +kernel
theorem dX6_deed_47 : decode cX6_deed 47 = .ok (.if_icmp .eq 17, 3) := by decide +kernel
theorem dX6_deed_50 : decode cX6_deed 50 = .ok (.iload 4, 2) := by decide +kernel
theorem dX6_deed_52 : decode cX6_deed 52 = .ok (.iconst 1, 1) := by decide +kernel
theorem dX6_deed_53 : decode cX6_deed 53 = .ok (.if_icmp .lt 11, 3) := by decide +kernel
theorem dX6_deed_56 : decode cX6_deed 56 = .ok (.iload 4, 2) := by decide +kernel
theorem dX6_deed_58 : decode cX6_deed 58 = .ok (.sipush 10000, 3) := by decide +kernel
theorem dX6_deed_61 : decode cX6_deed 61 = .ok (.if_icmp .le 13, 3) := by decide +kernel
theorem dX6_deed_64 : decode cX6_deed 64 = .ok (.new 93, 3) := by decide +kernel
theorem dX6_deed_67 : decode cX6_deed 67 = .ok (.dup, 1) := by decide +kernel
theorem dX6_deed_68 : decode cX6_deed 68 = .ok (.ldc 130, 2) := by decide +kernel
theorem dX6_deed_70 : decode cX6_deed 70 = .ok (.invokespecial 97, 3) := by decide +kernel
theorem dX6_deed_73 : decode cX6_deed 73 = .ok (.athrow, 1) := by decide +kernel
theorem dX6_deed_74 : decode cX6_deed 74 = .ok (.aload_n 0, 1) := by decide +kernel
theorem dX6_deed_75 : decode cX6_deed 75 = .ok (.aload 6, 2) := by decide +kernel
theorem dX6_deed_77 : decode cX6_deed 77 = .ok (.iload_n 2, 1) := by decide +kernel
theorem dX6_deed_78 : decode cX6_deed 78 = .ok (.iload 5, 2) := by decide +kernel
theorem dX6_deed_80 : decode cX6_deed 80 = .ok (.invokevirtual 132, 3) := by decide +kernel
theorem dX6_deed_83 : decode cX6_deed 83 = .ok (.iload 4, 2) := by decide +kernel
theorem dX6_deed_85 : decode cX6_deed 85 = .ok (.if_icmp .lt 12, 3) := by decide +kernel
theorem dX6_deed_88 : decode cX6_deed 88 = .ok (.aload_n 0, 1) := by decide +kernel
theorem dX6_deed_89 : decode cX6_deed 89 = .ok (.getfield 28, 3) := by decide +kernel
theorem dX6_deed_92 : decode cX6_deed 92 = .ok (.bipush 40, 2) := by decide +kernel
theorem dX6_deed_94 : decode cX6_deed 94 = .ok (.if_icmp .lt 13, 3) := by decide +kernel
theorem dX6_deed_97 : decode cX6_deed 97 = .ok (.new 100, 3) := by decide +kernel
theorem dX6_deed_100 : decode cX6_deed 100 = .ok (.dup, 1) := by decide +kernel
theorem dX6_deed_101 : decode cX6_deed 101 = .ok (.ldc 136, 2) := by decide +kernel
theorem dX6_deed_103 : decode cX6_deed 103 = .ok (.invokespecial 104, 3) := by decide +kernel
theorem dX6_deed_106 : decode cX6_deed 106 = .ok (.athrow, 1) := by decide +kernel
theorem dX6_deed_107 : decode cX6_deed 107 = .ok (.aload_n 0, 1) := by decide +kernel
theorem dX6_deed_108 : decode cX6_deed 108 = .ok (.getfield 24, 3) := by decide +kernel
theorem dX6_deed_111 : decode cX6_deed 111 = .ok (.aload_n 0, 1) := by decide +kernel
theorem dX6_deed_112 : decode cX6_deed 112 = .ok (.getfield 28, 3) := by decide +kernel
theorem dX6_deed_115 : decode cX6_deed 115 = .ok (.new 22, 3) := by decide +kernel
theorem dX6_deed_118 : decode cX6_deed 118 = .ok (.dup, 1) := by decide +kernel
theorem dX6_deed_119 : decode cX6_deed 119 = .ok (.aload 6, 2) := by decide +kernel
theorem dX6_deed_121 : decode cX6_deed 121 = .ok (.iload_n 2, 1) := by decide +kernel
theorem dX6_deed_122 : decode cX6_deed 122 = .ok (.iload_n 3, 1) := by decide +kernel
theorem dX6_deed_123 : decode cX6_deed 123 = .ok (.iload 4, 2) := by decide +kernel
theorem dX6_deed_125 : decode cX6_deed 125 = .ok (.iload 5, 2) := by decide +kernel
theorem dX6_deed_127 : decode cX6_deed 127 = .ok (.invokespecial 138, 3) := by decide +kernel
theorem dX6_deed_130 : decode cX6_deed 130 = .ok (.aastore, 1) := by decide +kernel
theorem dX6_deed_131 : decode cX6_deed 131 = .ok (.aload_n 0, 1) := by decide +kernel
theorem dX6_deed_132 : decode cX6_deed 132 = .ok (.dup, 1) := by decide +kernel
theorem dX6_deed_133 : decode cX6_deed 133 = .ok (.getfield 28, 3) := by decide +kernel
theorem dX6_deed_136 : decode cX6_deed 136 = .ok (.iconst 1, 1) := by decide +kernel
theorem dX6_deed_137 : decode cX6_deed 137 = .ok (.iadd, 1) := by decide +kernel
theorem dX6_deed_138 : decode cX6_deed 138 = .ok (.putfield 28, 3) := by decide +kernel
theorem dX6_deed_141 : decode cX6_deed 141 = .ok (.aload_n 0, 1) := by decide +kernel
theorem dX6_deed_142 : decode cX6_deed 142 = .ok (.iload 5, 2) := by decide +kernel
theorem dX6_deed_144 : decode cX6_deed 144 = .ok (.invokevirtual 141, 3) := by decide +kernel
theorem dX6_deed_147 : decode cX6_deed 147 = .ok (.aload_n 0, 1) := by decide +kernel
theorem dX6_deed_148 : decode cX6_deed 148 = .ok (.aload 6, 2) := by decide +kernel
theorem dX6_deed_150 : decode cX6_deed 150 = .ok (.iload_n 2, 1) := by decide +kernel
theorem dX6_deed_151 : decode cX6_deed 151 = .ok (.aload_n 0, 1) := by decide +kernel
theorem dX6_deed_152 : decode cX6_deed 152 = .ok (.getfield 9, 3) := by decide +kernel
theorem dX6_deed_155 : decode cX6_deed 155 = .ok (.invokevirtual 144, 3) := by decide +kernel
theorem dX6_deed_158 : decode cX6_deed 158 = .ok (.ireturn, 1) := by decide +kernel
set_option maxRecDepth 20000 in
theorem ggX6_title_X6_tractAt : GoodIn wsX6_title wsX6_tractAt := goodIn_r _ [7, 8, 28, 29, 30, 31, 32, 33, 34, 35, 36, 37, 38, 39, 40, 41, 42, 43, 44, 45, 46, 47] (by decide +kernel) (by decide +kernel)
set_option maxRecDepth 20000 in
theorem gX6_title_X6_tractAt : GoodIn wsX6_title (wsV RX6 121 RX6 yX6_tractAt wsX6_tractAt) := goodIn_app (goodIn_of _ (by decide +kernel)) ggX6_title_X6_tractAt
set_option maxRecDepth 20000 in
theorem ggX6_title_X6_isOwner : GoodIn wsX6_title wsX6_isOwner := goodIn_r _ [11] (by decide +kernel) (by decide +kernel)
set_option maxRecDepth 20000 in
theorem gX6_title_X6_isOwner : GoodIn wsX6_title (va_wsS RX6 105 yX6_isOwner wsX6_isOwner) := goodIn_app (goodIn_of _ (by decide +kernel)) ggX6_title_X6_isOwner
set_option maxRecDepth 20000 in
theorem ggX6_title_X6_isMonth : GoodIn wsX6_title wsX6_isMonth := goodIn_r _ [15, 16, 28, 29, 30, 31, 32, 33, 34, 35, 36, 37, 38, 39, 40, 41, 42, 43, 44, 45, 46, 47] (by decide +kernel) (by decide +kernel)
set_option maxRecDepth 20000 in
theorem gX6_title_X6_isMonth : GoodIn wsX6_title (wsV RX6 125 RX6 yX6_isMonth wsX6_isMonth) := goodIn_app (goodIn_of _ (by decide +kernel)) ggX6_title_X6_isMonth
set_option maxRecDepth 20000 in
theorem ggX6_title_X6_titleOf : GoodIn wsX6_title wsX6_titleOf := goodIn_r _ [20, 21, 22, 23, 24, 25, 26, 27, 48, 49, 50, 28, 29, 30, 31, 32, 33, 34, 35, 36, 37, 38, 39, 40, 41, 42, 43, 44, 45, 46, 47, 51, 52, 53, 54, 55] (by decide +kernel) (by decide +kernel)
set_option maxRecDepth 20000 in
theorem gX6_title_X6_titleOf : GoodIn wsX6_title (wsV RX6 144 RX6 yX6_titleOf wsX6_titleOf) := goodIn_app (goodIn_of _ (by decide +kernel)) ggX6_title_X6_titleOf
theorem dX6_title_0 : decode cX6_title 0 = .ok (.aload_n 0, 1) := by decide +kernel
theorem dX6_title_1 : decode cX6_title 1 = .ok (.iload_n 1, 1) := by decide +kernel
theorem dX6_title_2 : decode cX6_title 2 = .ok (.invokevirtual 121, 3) := by decide +kernel
theorem dX6_title_5 : decode cX6_title 5 = .ok (.astore 4, 2) := by decide +kernel
theorem dX6_title_7 : decode cX6_title 7 = .ok (.aload 4, 2) := by decide +kernel
theorem dX6_title_9 : decode cX6_title 9 = .ok (.ifnull 18, 3) := by decide +kernel
theorem dX6_title_12 : decode cX6_title 12 = .ok (.iload_n 2, 1) := by decide +kernel
theorem dX6_title_13 : decode cX6_title 13 = .ok (.invokestatic 105, 3) := by decide +kernel
theorem dX6_title_16 : decode cX6_title 16 = .ok (.ifCond .eq 11, 3) := by decide +kernel
theorem dX6_title_19 : decode cX6_title 19 = .ok (.aload_n 0, 1) := by decide +kernel
theorem dX6_title_20 : decode cX6_title 20 = .ok (.iload_n 3, 1) := by decide +kernel
theorem dX6_title_21 : decode cX6_title 21 = .ok (.invokevirtual 125, 3) := by decide +kernel
theorem dX6_title_24 : decode cX6_title 24 = .ok (.ifCond .ne 13, 3) := by decide +kernel
theorem dX6_title_27 : decode cX6_title 27 = .ok (.new 109, 3) := by decide +kernel
theorem dX6_title_30 : decode cX6_title 30 = .ok (.dup, 1) := by decide +kernel
theorem dX6_title_31 : decode cX6_title 31 = .ok (.ldc 128, 2) := by decide +kernel
theorem dX6_title_33 : decode cX6_title 33 = .ok (.invokespecial 113, 3) := by decide +kernel
theorem dX6_title_36 : decode cX6_title 36 = .ok (.athrow, 1) := by decide +kernel
theorem dX6_title_37 : decode cX6_title 37 = .ok (.aload_n 0, 1) := by decide +kernel
theorem dX6_title_38 : decode cX6_title 38 = .ok (.aload 4, 2) := by decide +kernel
theorem dX6_title_40 : decode cX6_title 40 = .ok (.iload_n 2, 1) := by decide +kernel
theorem dX6_title_41 : decode cX6_title 41 = .ok (.iload_n 3, 1) := by decide +kernel
theorem dX6_title_42 : decode cX6_title 42 = .ok (.invokevirtual 144, 3) := by decide +kernel
theorem dX6_title_45 : decode cX6_title 45 = .ok (.ireturn, 1) := by decide +kernel
set_option maxRecDepth 20000 in
theorem ggX6_lease_X6_tractAt : GoodIn wsX6_lease wsX6_tractAt := goodIn_r _ [19, 20, 45, 46, 47, 48, 49, 50, 51, 52, 53, 54, 55, 56, 57, 58, 59, 60, 61, 62, 63, 64] (by decide +kernel) (by decide +kernel)
set_option maxRecDepth 20000 in
theorem gX6_lease_X6_tractAt : GoodIn wsX6_lease (wsV RX6 121 RX6 yX6_tractAt wsX6_tractAt) := goodIn_app (goodIn_of _ (by decide +kernel)) ggX6_lease_X6_tractAt
set_option maxRecDepth 20000 in
theorem ggX6_lease_X6_isOwner : GoodIn wsX6_lease wsX6_isOwner := goodIn_r _ [23] (by decide +kernel) (by decide +kernel)
set_option maxRecDepth 20000 in
theorem gX6_lease_X6_isOwner : GoodIn wsX6_lease (va_wsS RX6 105 yX6_isOwner wsX6_isOwner) := goodIn_app (goodIn_of _ (by decide +kernel)) ggX6_lease_X6_isOwner
set_option maxRecDepth 20000 in
theorem ggX6_lease_X1_init : GoodIn wsX6_lease wsX1_init := goodIn_r _ [26, 27, 28, 29, 30, 31, 32, 33, 34, 35, 65, 66, 67, 68, 69, 70] (by decide +kernel) (by decide +kernel)
set_option maxRecDepth 20000 in
theorem gX6_lease_X1_init : GoodIn wsX6_lease (wsX1_init) := ggX6_lease_X1_init
set_option maxRecDepth 20000 in
theorem ggX6_lease_X6_unsettle : GoodIn wsX6_lease wsX6_unsettle := goodIn_r _ [39, 40, 41, 42, 43, 44, 45, 46, 47, 48, 49, 50, 51, 52, 53, 54, 55, 56, 57, 58, 59, 60, 61, 62, 63, 64] (by decide +kernel) (by decide +kernel)
set_option maxRecDepth 20000 in
theorem gX6_lease_X6_unsettle : GoodIn wsX6_lease (wsV RX6 141 RX6 yX6_unsettle wsX6_unsettle) := goodIn_app (goodIn_of _ (by decide +kernel)) ggX6_lease_X6_unsettle
theorem dX6_lease_0 : decode cX6_lease 0 = .ok (.aload_n 0, 1) := by decide +kernel
theorem dX6_lease_1 : decode cX6_lease 1 = .ok (.iload_n 1, 1) := by decide +kernel
theorem dX6_lease_2 : decode cX6_lease 2 = .ok (.invokevirtual 121, 3) := by decide +kernel
theorem dX6_lease_5 : decode cX6_lease 5 = .ok (.astore 6, 2) := by decide +kernel
theorem dX6_lease_7 : decode cX6_lease 7 = .ok (.aload 6, 2) := by decide +kernel
theorem dX6_lease_9 : decode cX6_lease 9 = .ok (.ifnull 17, 3) := by decide +kernel
theorem dX6_lease_12 : decode cX6_lease 12 = .ok (.iload_n 2, 1) := by decide +kernel
theorem dX6_lease_13 : decode cX6_lease 13 = .ok (.invokestatic 105, 3) := by decide +kernel
theorem dX6_lease_16 : decode cX6_lease 16 = .ok (.ifCond .eq 10, 3) := by decide +kernel
theorem dX6_lease_19 : decode cX6_lease 19 = .ok (.iload_n 3, 1) := by decide +kernel
theorem dX6_lease_20 : decode cX6_lease 20 = .ok (.invokestatic 105, 3) := by decide +kernel
theorem dX6_lease_23 : decode cX6_lease 23 = .ok (.ifCond .ne 13, 3) := by decide +kernel
theorem dX6_lease_26 : decode cX6_lease 26 = .ok (.new 109, 3) := by decide +kernel
theorem dX6_lease_29 : decode cX6_lease 29 = .ok (.dup, 1) := by decide +kernel
theorem dX6_lease_30 : decode cX6_lease 30 = .ok (.ldc 147, 2) := by decide +kernel
theorem dX6_lease_32 : decode cX6_lease 32 = .ok (.invokespecial 113, 3) := by decide +kernel
theorem dX6_lease_35 : decode cX6_lease 35 = .ok (.athrow, 1) := by decide +kernel
theorem dX6_lease_36 : decode cX6_lease 36 = .ok (.iload_n 2, 1) := by decide +kernel
theorem dX6_lease_37 : decode cX6_lease 37 = .ok (.iload_n 3, 1) := by decide +kernel
theorem dX6_lease_38 : decode cX6_lease 38 = .ok (.if_icmp .eq 29, 3) := by decide +kernel
theorem dX6_lease_41 : decode cX6_lease 41 = .ok (.iload 4, 2) := by decide +kernel
theorem dX6_lease_43 : decode cX6_lease 43 = .ok (.ifCond .lt 24, 3) := by decide +kernel
theorem dX6_lease_46 : decode cX6_lease 46 = .ok (.iload 4, 2) := by decide +kernel
theorem dX6_lease_48 : decode cX6_lease 48 = .ok (.sipush 500, 3) := by decide +kernel
theorem dX6_lease_51 : decode cX6_lease 51 = .ok (.if_icmp .gt 16, 3) := by decide +kernel
theorem dX6_lease_54 : decode cX6_lease 54 = .ok (.iload 5, 2) := by decide +kernel
theorem dX6_lease_56 : decode cX6_lease 56 = .ok (.iconst 1, 1) := by decide +kernel
theorem dX6_lease_57 : decode cX6_lease 57 = .ok (.if_icmp .lt 10, 3) := by decide +kernel
theorem dX6_lease_60 : decode cX6_lease 60 = .ok (.iload 5, 2) := by decide +kernel
theorem dX6_lease_62 : decode cX6_lease 62 = .ok (.bipush 36, 2) := by decide +kernel
theorem dX6_lease_64 : decode cX6_lease 64 = .ok (.if_icmp .le 13, 3) := by decide +kernel
theorem dX6_lease_67 : decode cX6_lease 67 = .ok (.new 93, 3) := by decide +kernel
theorem dX6_lease_70 : decode cX6_lease 70 = .ok (.dup, 1) := by decide +kernel
theorem dX6_lease_71 : decode cX6_lease 71 = .ok (.ldc 149, 2) := by decide +kernel
theorem dX6_lease_73 : decode cX6_lease 73 = .ok (.invokespecial 97, 3) := by decide +kernel
theorem dX6_lease_76 : decode cX6_lease 76 = .ok (.athrow, 1) := by decide +kernel
theorem dX6_lease_77 : decode cX6_lease 77 = .ok (.aload_n 0, 1) := by decide +kernel
theorem dX6_lease_78 : decode cX6_lease 78 = .ok (.getfield 37, 3) := by decide +kernel
theorem dX6_lease_81 : decode cX6_lease 81 = .ok (.bipush 16, 2) := by decide +kernel
theorem dX6_lease_83 : decode cX6_lease 83 = .ok (.if_icmp .lt 13, 3) := by decide +kernel
theorem dX6_lease_86 : decode cX6_lease 86 = .ok (.new 100, 3) := by decide +kernel
theorem dX6_lease_89 : decode cX6_lease 89 = .ok (.dup, 1) := by decide +kernel
theorem dX6_lease_90 : decode cX6_lease 90 = .ok (.ldc 151, 2) := by decide +kernel
theorem dX6_lease_92 : decode cX6_lease 92 = .ok (.invokespecial 104, 3) := by decide +kernel
theorem dX6_lease_95 : decode cX6_lease 95 = .ok (.athrow, 1) := by decide +kernel
theorem dX6_lease_96 : decode cX6_lease 96 = .ok (.new 31, 3) := by decide +kernel
theorem dX6_lease_99 : decode cX6_lease 99 = .ok (.dup, 1) := by decide +kernel
theorem dX6_lease_100 : decode cX6_lease 100 = .ok (.aload 6, 2) := by decide +kernel
theorem dX6_lease_102 : decode cX6_lease 102 = .ok (.iload_n 2, 1) := by decide +kernel
theorem dX6_lease_103 : decode cX6_lease 103 = .ok (.iload_n 3, 1) := by decide +kernel
theorem dX6_lease_104 : decode cX6_lease 104 = .ok (.iload 4, 2) := by decide +kernel
theorem dX6_lease_106 : decode cX6_lease 106 = .ok (.invokespecial 153, 3) := by decide +kernel
theorem dX6_lease_109 : decode cX6_lease 109 = .ok (.astore 7, 2) := by decide +kernel
theorem dX6_lease_111 : decode cX6_lease 111 = .ok (.aload 7, 2) := by decide +kernel
theorem dX6_lease_113 : decode cX6_lease 113 = .ok (.aload_n 0, 1) := by decide +kernel
theorem dX6_lease_114 : decode cX6_lease 114 = .ok (.getfield 9, 3) := by decide +kernel
theorem dX6_lease_117 : decode cX6_lease 117 = .ok (.putfield 156, 3) := by decide +kernel
theorem dX6_lease_120 : decode cX6_lease 120 = .ok (.aload 7, 2) := by decide +kernel
theorem dX6_lease_122 : decode cX6_lease 122 = .ok (.aload_n 0, 1) := by decide +kernel
theorem dX6_lease_123 : decode cX6_lease 123 = .ok (.getfield 9, 3) := by decide +kernel
theorem dX6_lease_126 : decode cX6_lease 126 = .ok (.iload 5, 2) := by decide +kernel
theorem dX6_lease_128 : decode cX6_lease 128 = .ok (.iadd, 1) := by decide +kernel
theorem dX6_lease_129 : decode cX6_lease 129 = .ok (.iconst 1, 1) := by decide +kernel
theorem dX6_lease_130 : decode cX6_lease 130 = .ok (.isub, 1) := by decide +kernel
theorem dX6_lease_131 : decode cX6_lease 131 = .ok (.putfield 159, 3) := by decide +kernel
theorem dX6_lease_134 : decode cX6_lease 134 = .ok (.aload_n 0, 1) := by decide +kernel
theorem dX6_lease_135 : decode cX6_lease 135 = .ok (.getfield 33, 3) := by decide +kernel
theorem dX6_lease_138 : decode cX6_lease 138 = .ok (.aload_n 0, 1) := by decide +kernel
theorem dX6_lease_139 : decode cX6_lease 139 = .ok (.getfield 37, 3) := by decide +kernel
theorem dX6_lease_142 : decode cX6_lease 142 = .ok (.aload 7, 2) := by decide +kernel
theorem dX6_lease_144 : decode cX6_lease 144 = .ok (.aastore, 1) := by decide +kernel
theorem dX6_lease_145 : decode cX6_lease 145 = .ok (.aload_n 0, 1) := by decide +kernel
theorem dX6_lease_146 : decode cX6_lease 146 = .ok (.aload_n 0, 1) := by decide +kernel
theorem dX6_lease_147 : decode cX6_lease 147 = .ok (.getfield 9, 3) := by decide +kernel
theorem dX6_lease_150 : decode cX6_lease 150 = .ok (.invokevirtual 141, 3) := by decide +kernel
theorem dX6_lease_153 : decode cX6_lease 153 = .ok (.aload_n 0, 1) := by decide +kernel
theorem dX6_lease_154 : decode cX6_lease 154 = .ok (.dup, 1) := by decide +kernel
theorem dX6_lease_155 : decode cX6_lease 155 = .ok (.getfield 37, 3) := by decide +kernel
theorem dX6_lease_158 : decode cX6_lease 158 = .ok (.dup_x1, 1) := by decide +kernel
theorem dX6_lease_159 : decode cX6_lease 159 = .ok (.iconst 1, 1) := by decide +kernel
theorem dX6_lease_160 : decode cX6_lease 160 = .ok (.iadd, 1) := by decide +kernel
theorem dX6_lease_161 : decode cX6_lease 161 = .ok (.putfield 37, 3) := by decide +kernel
theorem dX6_lease_164 : decode cX6_lease 164 = .ok (.ireturn, 1) := by decide +kernel
set_option maxRecDepth 20000 in
theorem ggX6_unit_X6_hasTractOfUnit : GoodIn wsX6_unit wsX6_hasTractOfUnit := goodIn_r _ [18, 11, 12, 19, 20, 17, 21, 46, 47, 48, 49, 50, 51, 52, 53, 54, 55, 56, 57, 58, 59, 60, 61, 62, 63, 64, 65, 73, 74, 75] (by decide +kernel) (by decide +kernel)
set_option maxRecDepth 20000 in
theorem gX6_unit_X6_hasTractOfUnit : GoodIn wsX6_unit (wsV RX6 169 RX6 yX6_hasTractOfUnit wsX6_hasTractOfUnit) := goodIn_app (goodIn_of _ (by decide +kernel)) ggX6_unit_X6_hasTractOfUnit
set_option maxRecDepth 20000 in
theorem ggX6_unit_X4_init : GoodIn wsX6_unit wsX4_init := goodIn_r _ [24, 25, 26, 27, 28, 29, 30, 31, 32, 33, 34, 35, 36, 66, 67, 68, 69, 70, 71, 72] (by decide +kernel) (by decide +kernel)
set_option maxRecDepth 20000 in
theorem gX6_unit_X4_init : GoodIn wsX6_unit (wsX4_init) := ggX6_unit_X4_init
set_option maxRecDepth 20000 in
theorem ggX6_unit_X6_hasBit : GoodIn wsX6_unit wsX6_hasBit := goodIn_r _ [21] (by decide +kernel) (by decide +kernel)
set_option maxRecDepth 20000 in
theorem gX6_unit_X6_hasBit : GoodIn wsX6_unit (va_wsS RX6 175 yX6_hasBit wsX6_hasBit) := goodIn_app (goodIn_of _ (by decide +kernel)) ggX6_unit_X6_hasBit
set_option maxRecDepth 20000 in
theorem ggX6_unit_X6_unsettle : GoodIn wsX6_unit wsX6_unsettle := goodIn_r _ [40, 41, 42, 43, 44, 45, 46, 47, 48, 49, 50, 51, 52, 53, 54, 55, 56, 57, 58, 59, 60, 61, 62, 63, 64, 65] (by decide +kernel) (by decide +kernel)
set_option maxRecDepth 20000 in
theorem gX6_unit_X6_unsettle : GoodIn wsX6_unit (wsV RX6 141 RX6 yX6_unsettle wsX6_unsettle) := goodIn_app (goodIn_of _ (by decide +kernel)) ggX6_unit_X6_unsettle
theorem dX6_unit_0 : decode cX6_unit 0 = .ok (.iload_n 1, 1) := by decide +kernel
theorem dX6_unit_1 : decode cX6_unit 1 = .ok (.ifCond .eq 12, 3) := by decide +kernel
theorem dX6_unit_4 : decode cX6_unit 4 = .ok (.iload_n 1, 1) := by decide +kernel
theorem dX6_unit_5 : decode cX6_unit 5 = .ok (.aload_n 0, 1) := by decide +kernel
theorem dX6_unit_6 : decode cX6_unit 6 = .ok (.getfield 19, 3) := by decide +kernel
theorem dX6_unit_9 : decode cX6_unit 9 = .ok (.iushr, 1) := by decide +kernel
theorem dX6_unit_10 : decode cX6_unit 10 = .ok (.ifCond .eq 13, 3) := by decide +kernel
theorem dX6_unit_13 : decode cX6_unit 13 = .ok (.new 93, 3) := by decide +kernel
theorem dX6_unit_16 : decode cX6_unit 16 = .ok (.dup, 1) := by decide +kernel
theorem dX6_unit_17 : decode cX6_unit 17 = .ok (.ldc 167, 2) := by decide +kernel
theorem dX6_unit_19 : decode cX6_unit 19 = .ok (.invokespecial 97, 3) := by decide +kernel
theorem dX6_unit_22 : decode cX6_unit 22 = .ok (.athrow, 1) := by decide +kernel
theorem dX6_unit_23 : decode cX6_unit 23 = .ok (.aload_n 0, 1) := by decide +kernel
theorem dX6_unit_24 : decode cX6_unit 24 = .ok (.iload_n 1, 1) := by decide +kernel
theorem dX6_unit_25 : decode cX6_unit 25 = .ok (.invokevirtual 169, 3) := by decide +kernel
theorem dX6_unit_28 : decode cX6_unit 28 = .ok (.ifCond .ne 11, 3) := by decide +kernel
theorem dX6_unit_31 : decode cX6_unit 31 = .ok (.aload_n 0, 1) := by decide +kernel
theorem dX6_unit_32 : decode cX6_unit 32 = .ok (.getfield 46, 3) := by decide +kernel
theorem dX6_unit_35 : decode cX6_unit 35 = .ok (.iconst 3, 1) := by decide +kernel
theorem dX6_unit_36 : decode cX6_unit 36 = .ok (.if_icmp .lt 13, 3) := by decide +kernel
theorem dX6_unit_39 : decode cX6_unit 39 = .ok (.new 100, 3) := by decide +kernel
theorem dX6_unit_42 : decode cX6_unit 42 = .ok (.dup, 1) := by decide +kernel
theorem dX6_unit_43 : decode cX6_unit 43 = .ok (.ldc 172, 2) := by decide +kernel
theorem dX6_unit_45 : decode cX6_unit 45 = .ok (.invokespecial 104, 3) := by decide +kernel
theorem dX6_unit_48 : decode cX6_unit 48 = .ok (.athrow, 1) := by decide +kernel
theorem dX6_unit_49 : decode cX6_unit 49 = .ok (.new 40, 3) := by decide +kernel
theorem dX6_unit_52 : decode cX6_unit 52 = .ok (.dup, 1) := by decide +kernel
theorem dX6_unit_53 : decode cX6_unit 53 = .ok (.aload_n 0, 1) := by decide +kernel
theorem dX6_unit_54 : decode cX6_unit 54 = .ok (.getfield 9, 3) := by decide +kernel
theorem dX6_unit_57 : decode cX6_unit 57 = .ok (.invokespecial 174, 3) := by decide +kernel
theorem dX6_unit_60 : decode cX6_unit 60 = .ok (.astore_n 2, 1) := by decide +kernel
theorem dX6_unit_61 : decode cX6_unit 61 = .ok (.iconst 0, 1) := by decide +kernel
theorem dX6_unit_62 : decode cX6_unit 62 = .ok (.istore_n 3, 1) := by decide +kernel
theorem dX6_unit_63 : decode cX6_unit 63 = .ok (.iload_n 3, 1) := by decide +kernel
theorem dX6_unit_64 : decode cX6_unit 64 = .ok (.bipush 8, 2) := by decide +kernel
theorem dX6_unit_66 : decode cX6_unit 66 = .ok (.if_icmp .ge 36, 3) := by decide +kernel
theorem dX6_unit_69 : decode cX6_unit 69 = .ok (.aload_n 0, 1) := by decide +kernel
theorem dX6_unit_70 : decode cX6_unit 70 = .ok (.getfield 15, 3) := by decide +kernel
theorem dX6_unit_73 : decode cX6_unit 73 = .ok (.iload_n 3, 1) := by decide +kernel
theorem dX6_unit_74 : decode cX6_unit 74 = .ok (.aaload, 1) := by decide +kernel
theorem dX6_unit_75 : decode cX6_unit 75 = .ok (.astore 4, 2) := by decide +kernel
theorem dX6_unit_77 : decode cX6_unit 77 = .ok (.aload 4, 2) := by decide +kernel
theorem dX6_unit_79 : decode cX6_unit 79 = .ok (.ifnull 17, 3) := by decide +kernel
theorem dX6_unit_82 : decode cX6_unit 82 = .ok (.iload_n 1, 1) := by decide +kernel
theorem dX6_unit_83 : decode cX6_unit 83 = .ok (.iload_n 3, 1) := by decide +kernel
theorem dX6_unit_84 : decode cX6_unit 84 = .ok (.invokestatic 175, 3) := by decide +kernel
theorem dX6_unit_87 : decode cX6_unit 87 = .ok (.ifCond .eq 9, 3) := by decide +kernel
theorem dX6_unit_90 : decode cX6_unit 90 = .ok (.aload 4, 2) := by decide +kernel
theorem dX6_unit_92 : decode cX6_unit 92 = .ok (.aload_n 2, 1) := by decide +kernel
