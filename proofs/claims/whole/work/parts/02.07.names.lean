set_option maxRecDepth 20000 in
theorem ggX7_deed_X7_goes : GoodIn wsX7_deed wsX7_goes := goodIn_r _ [32, 33, 34, 35, 36, 37, 38, 39, 40, 41, 42, 43, 44, 45, 46, 47, 48, 49, 50, 51, 52, 53, 54, 55, 56, 57, 58, 59, 60, 61, 62, 63, 64, 65, 66, 67, 68, 69, 70, 71, 72, 73] (by decide +kernel) (by decide +kernel)
set_option maxRecDepth 20000 in
theorem gX7_deed_X7_goes : GoodIn wsX7_deed (wsV RX7 128 RX7 yX7_goes wsX7_goes) := goodIn_app (goodIn_of _ (by decide +kernel)) ggX7_deed_X7_goes
theorem dX7_deed_0 : decode cX7_deed 0 = .ok (.aload_n 0, 1) := by decide +kernel
theorem dX7_deed_1 : decode cX7_deed 1 = .ok (.iload_n 1, 1) := by decide +kernel
theorem dX7_deed_2 : decode cX7_deed 2 = .ok (.invokevirtual 139, 3) := by decide +kernel
theorem dX7_deed_5 : decode cX7_deed 5 = .ok (.ifCond .eq 30, 3) := by decide +kernel
theorem dX7_deed_8 : decode cX7_deed 8 = .ok (.iload_n 2, 1) := by decide +kernel
theorem dX7_deed_9 : decode cX7_deed 9 = .ok (.invokestatic 132, 3) := by decide +kernel
theorem dX7_deed_12 : decode cX7_deed 12 = .ok (.ifCond .eq 23, 3) := by decide +kernel
theorem dX7_deed_15 : decode cX7_deed 15 = .ok (.iload_n 3, 1) := by decide +kernel
theorem dX7_deed_16 : decode cX7_deed 16 = .ok (.invokestatic 132, 3) := by decide +kernel
theorem dX7_deed_19 : decode cX7_deed 19 = .ok (.ifCond .eq 16, 3) := by decide +kernel
theorem dX7_deed_22 : decode cX7_deed 22 = .ok (.aload_n 0, 1) := by decide +kernel
theorem dX7_deed_23 : decode cX7_deed 23 = .ok (.iload 5, 2) := by decide +kernel
theorem dX7_deed_25 : decode cX7_deed 25 = .ok (.invokevirtual 142, 3) := by decide +kernel
theorem dX7_deed_28 : decode cX7_deed 28 = .ok (.ifCond .eq 7, 3) := by decide +kernel
theorem dX7_deed_31 : decode cX7_deed 31 = .ok (.iconst 1, 1) := by decide +kernel
theorem dX7_deed_32 : decode cX7_deed 32 = .ok (.goto 4, 3) := by decide +kernel
theorem dX7_deed_35 : decode cX7_deed 35 = .ok (.iconst 0, 1) := by decide +kernel
theorem dX7_deed_36 : decode cX7_deed 36 = .ok (.istore 6, 2) := by decide +kernel
theorem dX7_deed_38 : decode cX7_deed 38 = .ok (.iload_n 2, 1) := by decide +kernel
theorem dX7_deed_39 : decode cX7_deed 39 = .ok (.iload_n 3, 1) := by decide +kernel
theorem dX7_deed_40 : decode cX7_deed 40 = .ok (.if_icmp .eq 19, 3) := by decide +kernel
theorem dX7_deed_43 : decode cX7_deed 43 = .ok (.iload 4, 2) := by decide +kernel
theorem dX7_deed_45 : decode cX7_deed 45 = .ok (.iconst 1, 1) := by decide +kernel
theorem dX7_deed_46 : decode cX7_deed 46 = .ok (.sipush 10000, 3) := by decide +kernel
theorem dX7_deed_49 : decode cX7_deed 49 = .ok (.invokestatic 115, 3) := by decide +kernel
theorem dX7_deed_52 : decode cX7_deed 52 = .ok (.ifCond .eq 7, 3) := by decide +kernel
theorem dX7_deed_55 : decode cX7_deed 55 = .ok (.iconst 1, 1) := by decide +kernel
theorem dX7_deed_56 : decode cX7_deed 56 = .ok (.goto 4, 3) := by decide +kernel
theorem dX7_deed_59 : decode cX7_deed 59 = .ok (.iconst 0, 1) := by decide +kernel
theorem dX7_deed_60 : decode cX7_deed 60 = .ok (.istore 7, 2) := by decide +kernel
theorem dX7_deed_62 : decode cX7_deed 62 = .ok (.iload 6, 2) := by decide +kernel
theorem dX7_deed_64 : decode cX7_deed 64 = .ok (.ifCond .eq 21, 3) := by decide +kernel
theorem dX7_deed_67 : decode cX7_deed 67 = .ok (.iload 7, 2) := by decide +kernel
theorem dX7_deed_69 : decode cX7_deed 69 = .ok (.ifCond .eq 16, 3) := by decide +kernel
theorem dX7_deed_72 : decode cX7_deed 72 = .ok (.aload_n 0, 1) := by decide +kernel
theorem dX7_deed_73 : decode cX7_deed 73 = .ok (.getfield 136, 3) := by decide +kernel
theorem dX7_deed_76 : decode cX7_deed 76 = .ok (.bipush 40, 2) := by decide +kernel
theorem dX7_deed_78 : decode cX7_deed 78 = .ok (.if_icmp .ge 7, 3) := by decide +kernel
theorem dX7_deed_81 : decode cX7_deed 81 = .ok (.iconst 1, 1) := by decide +kernel
theorem dX7_deed_82 : decode cX7_deed 82 = .ok (.goto 4, 3) := by decide +kernel
theorem dX7_deed_85 : decode cX7_deed 85 = .ok (.iconst 0, 1) := by decide +kernel
theorem dX7_deed_86 : decode cX7_deed 86 = .ok (.istore 8, 2) := by decide +kernel
theorem dX7_deed_88 : decode cX7_deed 88 = .ok (.iload 5, 2) := by decide +kernel
theorem dX7_deed_90 : decode cX7_deed 90 = .ok (.istore 9, 2) := by decide +kernel
theorem dX7_deed_92 : decode cX7_deed 92 = .ok (.iload 9, 2) := by decide +kernel
theorem dX7_deed_94 : decode cX7_deed 94 = .ok (.aload_n 0, 1) := by decide +kernel
theorem dX7_deed_95 : decode cX7_deed 95 = .ok (.getfield 122, 3) := by decide +kernel
theorem dX7_deed_98 : decode cX7_deed 98 = .ok (.if_icmp .gt 34, 3) := by decide +kernel
theorem dX7_deed_101 : decode cX7_deed 101 = .ok (.iload 8, 2) := by decide +kernel
theorem dX7_deed_103 : decode cX7_deed 103 = .ok (.ifCond .eq 29, 3) := by decide +kernel
theorem dX7_deed_106 : decode cX7_deed 106 = .ok (.aload_n 0, 1) := by decide +kernel
theorem dX7_deed_107 : decode cX7_deed 107 = .ok (.iload_n 1, 1) := by decide +kernel
theorem dX7_deed_108 : decode cX7_deed 108 = .ok (.iload_n 2, 1) := by decide +kernel
theorem dX7_deed_109 : decode cX7_deed 109 = .ok (.iload 9, 2) := by decide +kernel
theorem dX7_deed_111 : decode cX7_deed 111 = .ok (.invokevirtual 145, 3) := by decide +kernel
theorem dX7_deed_114 : decode cX7_deed 114 = .ok (.iload 4, 2) := by decide +kernel
theorem dX7_deed_116 : decode cX7_deed 116 = .ok (.if_icmp .lt 7, 3) := by decide +kernel
theorem dX7_deed_119 : decode cX7_deed 119 = .ok (.iconst 1, 1) := by decide +kernel
theorem dX7_deed_120 : decode cX7_deed 120 = .ok (.goto 4, 3) := by decide +kernel
theorem dX7_deed_123 : decode cX7_deed 123 = .ok (.iconst 0, 1) := by decide +kernel
theorem dX7_deed_124 : decode cX7_deed 124 = .ok (.istore 8, 2) := by decide +kernel
theorem dX7_deed_126 : decode cX7_deed 126 = .ok (.iinc 9 1, 3) := by decide +kernel
theorem dX7_deed_129 : decode cX7_deed 129 = .ok (.goto (-37), 3) := by decide +kernel
theorem dX7_deed_132 : decode cX7_deed 132 = .ok (.aload_n 0, 1) := by decide +kernel
theorem dX7_deed_133 : decode cX7_deed 133 = .ok (.iload 6, 2) := by decide +kernel
theorem dX7_deed_135 : decode cX7_deed 135 = .ok (.iload 7, 2) := by decide +kernel
theorem dX7_deed_137 : decode cX7_deed 137 = .ok (.iload 8, 2) := by decide +kernel
theorem dX7_deed_139 : decode cX7_deed 139 = .ok (.invokevirtual 128, 3) := by decide +kernel
theorem dX7_deed_142 : decode cX7_deed 142 = .ok (.ifCond .ne 5, 3) := by decide +kernel
theorem dX7_deed_145 : decode cX7_deed 145 = .ok (.iconst 0, 1) := by decide +kernel
theorem dX7_deed_146 : decode cX7_deed 146 = .ok (.ireturn, 1) := by decide +kernel
theorem dX7_deed_147 : decode cX7_deed 147 = .ok (.aload_n 0, 1) := by decide +kernel
theorem dX7_deed_148 : decode cX7_deed 148 = .ok (.getfield 19, 3) := by decide +kernel
theorem dX7_deed_151 : decode cX7_deed 151 = .ok (.aload_n 0, 1) := by decide +kernel
theorem dX7_deed_152 : decode cX7_deed 152 = .ok (.getfield 136, 3) := by decide +kernel
theorem dX7_deed_155 : decode cX7_deed 155 = .ok (.iload_n 1, 1) := by decide +kernel
theorem dX7_deed_156 : decode cX7_deed 156 = .ok (.iastore, 1) := by decide +kernel
theorem dX7_deed_157 : decode cX7_deed 157 = .ok (.aload_n 0, 1) := by decide +kernel
theorem dX7_deed_158 : decode cX7_deed 158 = .ok (.getfield 22, 3) := by decide +kernel
theorem dX7_deed_161 : decode cX7_deed 161 = .ok (.aload_n 0, 1) := by decide +kernel
theorem dX7_deed_162 : decode cX7_deed 162 = .ok (.getfield 136, 3) := by decide +kernel
theorem dX7_deed_165 : decode cX7_deed 165 = .ok (.iload_n 2, 1) := by decide +kernel
theorem dX7_deed_166 : decode cX7_deed 166 = .ok (.iastore, 1) := by decide +kernel
theorem dX7_deed_167 : decode cX7_deed 167 = .ok (.aload_n 0, 1) := by decide +kernel
theorem dX7_deed_168 : decode cX7_deed 168 = .ok (.getfield 25, 3) := by decide +kernel
theorem dX7_deed_171 : decode cX7_deed 171 = .ok (.aload_n 0, 1) := by decide +kernel
theorem dX7_deed_172 : decode cX7_deed 172 = .ok (.getfield 136, 3) := by decide +kernel
theorem dX7_deed_175 : decode cX7_deed 175 = .ok (.iload_n 3, 1) := by decide +kernel
theorem dX7_deed_176 : decode cX7_deed 176 = .ok (.iastore, 1) := by decide +kernel
theorem dX7_deed_177 : decode cX7_deed 177 = .ok (.aload_n 0, 1) := by decide +kernel
theorem dX7_deed_178 : decode cX7_deed 178 = .ok (.getfield 28, 3) := by decide +kernel
theorem dX7_deed_181 : decode cX7_deed 181 = .ok (.aload_n 0, 1) := by decide +kernel
theorem dX7_deed_182 : decode cX7_deed 182 = .ok (.getfield 136, 3) := by decide +kernel
theorem dX7_deed_185 : decode cX7_deed 185 = .ok (.iload 4, 2) := by decide +kernel
theorem dX7_deed_187 : decode cX7_deed 187 = .ok (.iastore, 1) := by decide +kernel
theorem dX7_deed_188 : decode cX7_deed 188 = .ok (.aload_n 0, 1) := by decide +kernel
theorem dX7_deed_189 : decode cX7_deed 189 = .ok (.getfield 31, 3) := by decide +kernel
theorem dX7_deed_192 : decode cX7_deed 192 = .ok (.aload_n 0, 1) := by decide +kernel
theorem dX7_deed_193 : decode cX7_deed 193 = .ok (.getfield 136, 3) := by decide +kernel
theorem dX7_deed_196 : decode cX7_deed 196 = .ok (.iload 5, 2) := by decide +kernel
theorem dX7_deed_198 : decode cX7_deed 198 = .ok (.iastore, 1) := by decide +kernel
theorem dX7_deed_199 : decode cX7_deed 199 = .ok (.aload_n 0, 1) := by decide +kernel
theorem dX7_deed_200 : decode cX7_deed 200 = .ok (.dup, 1) := by decide +kernel
theorem dX7_deed_201 : decode cX7_deed 201 = .ok (.getfield 136, 3) := by decide +kernel
theorem dX7_deed_204 : decode cX7_deed 204 = .ok (.iconst 1, 1) := by decide +kernel
theorem dX7_deed_205 : decode cX7_deed 205 = .ok (.iadd, 1) := by decide +kernel
theorem dX7_deed_206 : decode cX7_deed 206 = .ok (.putfield 136, 3) := by decide +kernel
theorem dX7_deed_209 : decode cX7_deed 209 = .ok (.aload_n 0, 1) := by decide +kernel
theorem dX7_deed_210 : decode cX7_deed 210 = .ok (.iload_n 1, 1) := by decide +kernel
theorem dX7_deed_211 : decode cX7_deed 211 = .ok (.iload_n 2, 1) := by decide +kernel
theorem dX7_deed_212 : decode cX7_deed 212 = .ok (.aload_n 0, 1) := by decide +kernel
theorem dX7_deed_213 : decode cX7_deed 213 = .ok (.getfield 122, 3) := by decide +kernel
theorem dX7_deed_216 : decode cX7_deed 216 = .ok (.invokevirtual 145, 3) := by decide +kernel
theorem dX7_deed_219 : decode cX7_deed 219 = .ok (.ireturn, 1) := by decide +kernel
set_option maxRecDepth 20000 in
theorem ggX7_title_X7_isTract : GoodIn wsX7_title wsX7_isTract := goodIn_r _ [5, 6, 7, 8, 4, 9, 34, 35, 36, 37, 38, 39, 40, 41, 42, 43, 44, 45, 46, 47, 48, 49, 50, 51, 52, 53, 54, 55, 56, 57, 58, 59, 60, 61, 62, 63, 64, 65, 66, 67, 68, 69, 70, 71, 72, 73] (by decide +kernel) (by decide +kernel)
set_option maxRecDepth 20000 in
theorem gX7_title_X7_isTract : GoodIn wsX7_title (wsV RX7 139 RX7 yX7_isTract wsX7_isTract) := goodIn_app (goodIn_of _ (by decide +kernel)) ggX7_title_X7_isTract
set_option maxRecDepth 20000 in
theorem ggX7_title_X7_isOwner : GoodIn wsX7_title wsX7_isOwner := goodIn_r _ [12, 7, 8, 4, 9] (by decide +kernel) (by decide +kernel)
set_option maxRecDepth 20000 in
theorem gX7_title_X7_isOwner : GoodIn wsX7_title (va_wsS RX7 132 yX7_isOwner wsX7_isOwner) := goodIn_app (goodIn_of _ (by decide +kernel)) ggX7_title_X7_isOwner
set_option maxRecDepth 20000 in
theorem ggX7_title_X7_isMonth : GoodIn wsX7_title wsX7_isMonth := goodIn_r _ [16, 17, 7, 8, 4, 9, 34, 35, 36, 37, 38, 39, 40, 41, 42, 43, 44, 45, 46, 47, 48, 49, 50, 51, 52, 53, 54, 55, 56, 57, 58, 59, 60, 61, 62, 63, 64, 65, 66, 67, 68, 69, 70, 71, 72, 73] (by decide +kernel) (by decide +kernel)
set_option maxRecDepth 20000 in
theorem gX7_title_X7_isMonth : GoodIn wsX7_title (wsV RX7 142 RX7 yX7_isMonth wsX7_isMonth) := goodIn_app (goodIn_of _ (by decide +kernel)) ggX7_title_X7_isMonth
set_option maxRecDepth 20000 in
theorem ggX7_title_X7_goes : GoodIn wsX7_title wsX7_goes := goodIn_r _ [21, 22, 34, 35, 36, 37, 38, 39, 40, 41, 42, 43, 44, 45, 46, 47, 48, 49, 50, 51, 52, 53, 54, 55, 56, 57, 58, 59, 60, 61, 62, 63, 64, 65, 66, 67, 68, 69, 70, 71, 72, 73] (by decide +kernel) (by decide +kernel)
set_option maxRecDepth 20000 in
theorem gX7_title_X7_goes : GoodIn wsX7_title (wsV RX7 128 RX7 yX7_goes wsX7_goes) := goodIn_app (goodIn_of _ (by decide +kernel)) ggX7_title_X7_goes
set_option maxRecDepth 20000 in
theorem ggX7_title_X7_titleOf : GoodIn wsX7_title wsX7_titleOf := goodIn_r _ [26, 27, 28, 29, 30, 31, 32, 33, 34, 35, 36, 37, 38, 39, 40, 41, 42, 43, 44, 45, 46, 47, 48, 49, 50, 51, 52, 53, 54, 55, 56, 57, 58, 59, 60, 61, 62, 63, 64, 65, 66, 67, 68, 69, 70, 71, 72, 73] (by decide +kernel) (by decide +kernel)
set_option maxRecDepth 20000 in
theorem gX7_title_X7_titleOf : GoodIn wsX7_title (wsV RX7 145 RX7 yX7_titleOf wsX7_titleOf) := goodIn_app (goodIn_of _ (by decide +kernel)) ggX7_title_X7_titleOf
theorem dX7_title_0 : decode cX7_title 0 = .ok (.aload_n 0, 1) := by decide +kernel
theorem dX7_title_1 : decode cX7_title 1 = .ok (.aload_n 0, 1) := by decide +kernel
theorem dX7_title_2 : decode cX7_title 2 = .ok (.iload_n 1, 1) := by decide +kernel
theorem dX7_title_3 : decode cX7_title 3 = .ok (.invokevirtual 139, 3) := by decide +kernel
theorem dX7_title_6 : decode cX7_title 6 = .ok (.ifCond .eq 22, 3) := by decide +kernel
theorem dX7_title_9 : decode cX7_title 9 = .ok (.iload_n 2, 1) := by decide +kernel
theorem dX7_title_10 : decode cX7_title 10 = .ok (.invokestatic 132, 3) := by decide +kernel
theorem dX7_title_13 : decode cX7_title 13 = .ok (.ifCond .eq 15, 3) := by decide +kernel
theorem dX7_title_16 : decode cX7_title 16 = .ok (.aload_n 0, 1) := by decide +kernel
theorem dX7_title_17 : decode cX7_title 17 = .ok (.iload_n 3, 1) := by decide +kernel
theorem dX7_title_18 : decode cX7_title 18 = .ok (.invokevirtual 142, 3) := by decide +kernel
theorem dX7_title_21 : decode cX7_title 21 = .ok (.ifCond .eq 7, 3) := by decide +kernel
theorem dX7_title_24 : decode cX7_title 24 = .ok (.iconst 1, 1) := by decide +kernel
theorem dX7_title_25 : decode cX7_title 25 = .ok (.goto 4, 3) := by decide +kernel
theorem dX7_title_28 : decode cX7_title 28 = .ok (.iconst 0, 1) := by decide +kernel
theorem dX7_title_29 : decode cX7_title 29 = .ok (.iconst 1, 1) := by decide +kernel
theorem dX7_title_30 : decode cX7_title 30 = .ok (.iconst 1, 1) := by decide +kernel
theorem dX7_title_31 : decode cX7_title 31 = .ok (.invokevirtual 128, 3) := by decide +kernel
theorem dX7_title_34 : decode cX7_title 34 = .ok (.ifCond .ne 5, 3) := by decide +kernel
theorem dX7_title_37 : decode cX7_title 37 = .ok (.iconst 0, 1) := by decide +kernel
theorem dX7_title_38 : decode cX7_title 38 = .ok (.ireturn, 1) := by decide +kernel
theorem dX7_title_39 : decode cX7_title 39 = .ok (.aload_n 0, 1) := by decide +kernel
theorem dX7_title_40 : decode cX7_title 40 = .ok (.iload_n 1, 1) := by decide +kernel
theorem dX7_title_41 : decode cX7_title 41 = .ok (.iload_n 2, 1) := by decide +kernel
theorem dX7_title_42 : decode cX7_title 42 = .ok (.iload_n 3, 1) := by decide +kernel
theorem dX7_title_43 : decode cX7_title 43 = .ok (.invokevirtual 145, 3) := by decide +kernel
theorem dX7_title_46 : decode cX7_title 46 = .ok (.ireturn, 1) := by decide +kernel
set_option maxRecDepth 20000 in
theorem ggX7_lease_X7_isTract : GoodIn wsX7_lease wsX7_isTract := goodIn_r _ [13, 14, 15, 16, 12, 17, 26, 27, 28, 29, 30, 31, 32, 33, 34, 35, 36, 37, 38, 39, 40, 41, 42, 43, 44, 45, 46, 47, 48, 49, 50, 51, 52, 53, 54, 55, 56, 57, 58, 59, 60, 61, 62, 63, 64, 65] (by decide +kernel) (by decide +kernel)
set_option maxRecDepth 20000 in
theorem gX7_lease_X7_isTract : GoodIn wsX7_lease (wsV RX7 139 RX7 yX7_isTract wsX7_isTract) := goodIn_app (goodIn_of _ (by decide +kernel)) ggX7_lease_X7_isTract
set_option maxRecDepth 20000 in
theorem ggX7_lease_X7_isOwner : GoodIn wsX7_lease wsX7_isOwner := goodIn_r _ [20, 15, 16, 12, 17] (by decide +kernel) (by decide +kernel)
set_option maxRecDepth 20000 in
theorem gX7_lease_X7_isOwner : GoodIn wsX7_lease (va_wsS RX7 132 yX7_isOwner wsX7_isOwner) := goodIn_app (goodIn_of _ (by decide +kernel)) ggX7_lease_X7_isOwner
set_option maxRecDepth 20000 in
theorem ggX7_lease_X7_isBetween : GoodIn wsX7_lease wsX7_isBetween := goodIn_r _ [17] (by decide +kernel) (by decide +kernel)
set_option maxRecDepth 20000 in
theorem gX7_lease_X7_isBetween : GoodIn wsX7_lease (va_wsS RX7 115 yX7_isBetween wsX7_isBetween) := goodIn_app (goodIn_of _ (by decide +kernel)) ggX7_lease_X7_isBetween
set_option maxRecDepth 20000 in
theorem ggX7_lease_X7_goes : GoodIn wsX7_lease wsX7_goes := goodIn_r _ [24, 25, 26, 27, 28, 29, 30, 31, 32, 33, 34, 35, 36, 37, 38, 39, 40, 41, 42, 43, 44, 45, 46, 47, 48, 49, 50, 51, 52, 53, 54, 55, 56, 57, 58, 59, 60, 61, 62, 63, 64, 65] (by decide +kernel) (by decide +kernel)
set_option maxRecDepth 20000 in
theorem gX7_lease_X7_goes : GoodIn wsX7_lease (wsV RX7 128 RX7 yX7_goes wsX7_goes) := goodIn_app (goodIn_of _ (by decide +kernel)) ggX7_lease_X7_goes
theorem dX7_lease_0 : decode cX7_lease 0 = .ok (.aload_n 0, 1) := by decide +kernel
theorem dX7_lease_1 : decode cX7_lease 1 = .ok (.iload_n 1, 1) := by decide +kernel
theorem dX7_lease_2 : decode cX7_lease 2 = .ok (.invokevirtual 139, 3) := by decide +kernel
theorem dX7_lease_5 : decode cX7_lease 5 = .ok (.ifCond .eq 21, 3) := by decide +kernel
theorem dX7_lease_8 : decode cX7_lease 8 = .ok (.iload_n 2, 1) := by decide +kernel
theorem dX7_lease_9 : decode cX7_lease 9 = .ok (.invokestatic 132, 3) := by decide +kernel
theorem dX7_lease_12 : decode cX7_lease 12 = .ok (.ifCond .eq 14, 3) := by decide +kernel
theorem dX7_lease_15 : decode cX7_lease 15 = .ok (.iload_n 3, 1) := by decide +kernel
theorem dX7_lease_16 : decode cX7_lease 16 = .ok (.invokestatic 132, 3) := by decide +kernel
theorem dX7_lease_19 : decode cX7_lease 19 = .ok (.ifCond .eq 7, 3) := by decide +kernel
theorem dX7_lease_22 : decode cX7_lease 22 = .ok (.iconst 1, 1) := by decide +kernel
theorem dX7_lease_23 : decode cX7_lease 23 = .ok (.goto 4, 3) := by decide +kernel
theorem dX7_lease_26 : decode cX7_lease 26 = .ok (.iconst 0, 1) := by decide +kernel
theorem dX7_lease_27 : decode cX7_lease 27 = .ok (.istore 6, 2) := by decide +kernel
theorem dX7_lease_29 : decode cX7_lease 29 = .ok (.aload_n 0, 1) := by decide +kernel
theorem dX7_lease_30 : decode cX7_lease 30 = .ok (.iload 6, 2) := by decide +kernel
theorem dX7_lease_32 : decode cX7_lease 32 = .ok (.iload_n 2, 1) := by decide +kernel
theorem dX7_lease_33 : decode cX7_lease 33 = .ok (.iload_n 3, 1) := by decide +kernel
theorem dX7_lease_34 : decode cX7_lease 34 = .ok (.if_icmp .eq 30, 3) := by decide +kernel
theorem dX7_lease_37 : decode cX7_lease 37 = .ok (.iload 4, 2) := by decide +kernel
theorem dX7_lease_39 : decode cX7_lease 39 = .ok (.iconst 0, 1) := by decide +kernel
theorem dX7_lease_40 : decode cX7_lease 40 = .ok (.sipush 500, 3) := by decide +kernel
theorem dX7_lease_43 : decode cX7_lease 43 = .ok (.invokestatic 115, 3) := by decide +kernel
theorem dX7_lease_46 : decode cX7_lease 46 = .ok (.ifCond .eq 18, 3) := by decide +kernel
theorem dX7_lease_49 : decode cX7_lease 49 = .ok (.iload 5, 2) := by decide +kernel
theorem dX7_lease_51 : decode cX7_lease 51 = .ok (.iconst 1, 1) := by decide +kernel
theorem dX7_lease_52 : decode cX7_lease 52 = .ok (.bipush 36, 2) := by decide +kernel
theorem dX7_lease_54 : decode cX7_lease 54 = .ok (.invokestatic 115, 3) := by decide +kernel
theorem dX7_lease_57 : decode cX7_lease 57 = .ok (.ifCond .eq 7, 3) := by decide +kernel
theorem dX7_lease_60 : decode cX7_lease 60 = .ok (.iconst 1, 1) := by decide +kernel
theorem dX7_lease_61 : decode cX7_lease 61 = .ok (.goto 4, 3) := by decide +kernel
theorem dX7_lease_64 : decode cX7_lease 64 = .ok (.iconst 0, 1) := by decide +kernel
theorem dX7_lease_65 : decode cX7_lease 65 = .ok (.aload_n 0, 1) := by decide +kernel
theorem dX7_lease_66 : decode cX7_lease 66 = .ok (.getfield 149, 3) := by decide +kernel
theorem dX7_lease_69 : decode cX7_lease 69 = .ok (.bipush 16, 2) := by decide +kernel
theorem dX7_lease_71 : decode cX7_lease 71 = .ok (.if_icmp .ge 7, 3) := by decide +kernel
theorem dX7_lease_74 : decode cX7_lease 74 = .ok (.iconst 1, 1) := by decide +kernel
theorem dX7_lease_75 : decode cX7_lease 75 = .ok (.goto 4, 3) := by decide +kernel
theorem dX7_lease_78 : decode cX7_lease 78 = .ok (.iconst 0, 1) := by decide +kernel
theorem dX7_lease_79 : decode cX7_lease 79 = .ok (.invokevirtual 128, 3) := by decide +kernel
theorem dX7_lease_82 : decode cX7_lease 82 = .ok (.ifCond .ne 5, 3) := by decide +kernel
theorem dX7_lease_85 : decode cX7_lease 85 = .ok (.iconst 0, 1) := by decide +kernel
theorem dX7_lease_86 : decode cX7_lease 86 = .ok (.ireturn, 1) := by decide +kernel
theorem dX7_lease_87 : decode cX7_lease 87 = .ok (.aload_n 0, 1) := by decide +kernel
theorem dX7_lease_88 : decode cX7_lease 88 = .ok (.getfield 34, 3) := by decide +kernel
theorem dX7_lease_91 : decode cX7_lease 91 = .ok (.aload_n 0, 1) := by decide +kernel
theorem dX7_lease_92 : decode cX7_lease 92 = .ok (.getfield 149, 3) := by decide +kernel
theorem dX7_lease_95 : decode cX7_lease 95 = .ok (.iload_n 1, 1) := by decide +kernel
theorem dX7_lease_96 : decode cX7_lease 96 = .ok (.iastore, 1) := by decide +kernel
theorem dX7_lease_97 : decode cX7_lease 97 = .ok (.aload_n 0, 1) := by decide +kernel
theorem dX7_lease_98 : decode cX7_lease 98 = .ok (.getfield 37, 3) := by decide +kernel
theorem dX7_lease_101 : decode cX7_lease 101 = .ok (.aload_n 0, 1) := by decide +kernel
theorem dX7_lease_102 : decode cX7_lease 102 = .ok (.getfield 149, 3) := by decide +kernel
theorem dX7_lease_105 : decode cX7_lease 105 = .ok (.iload_n 2, 1) := by decide +kernel
theorem dX7_lease_106 : decode cX7_lease 106 = .ok (.iastore, 1) := by decide +kernel
theorem dX7_lease_107 : decode cX7_lease 107 = .ok (.aload_n 0, 1) := by decide +kernel
theorem dX7_lease_108 : decode cX7_lease 108 = .ok (.getfield 40, 3) := by decide +kernel
theorem dX7_lease_111 : decode cX7_lease 111 = .ok (.aload_n 0, 1) := by decide +kernel
theorem dX7_lease_112 : decode cX7_lease 112 = .ok (.getfield 149, 3) := by decide +kernel
theorem dX7_lease_115 : decode cX7_lease 115 = .ok (.iload_n 3, 1) := by decide +kernel
theorem dX7_lease_116 : decode cX7_lease 116 = .ok (.iastore, 1) := by decide +kernel
theorem dX7_lease_117 : decode cX7_lease 117 = .ok (.aload_n 0, 1) := by decide +kernel
theorem dX7_lease_118 : decode cX7_lease 118 = .ok (.getfield 43, 3) := by decide +kernel
theorem dX7_lease_121 : decode cX7_lease 121 = .ok (.aload_n 0, 1) := by decide +kernel
theorem dX7_lease_122 : decode cX7_lease 122 = .ok (.getfield 149, 3) := by decide +kernel
theorem dX7_lease_125 : decode cX7_lease 125 = .ok (.iload 4, 2) := by decide +kernel
theorem dX7_lease_127 : decode cX7_lease 127 = .ok (.iastore, 1) := by decide +kernel
theorem dX7_lease_128 : decode cX7_lease 128 = .ok (.aload_n 0, 1) := by decide +kernel
theorem dX7_lease_129 : decode cX7_lease 129 = .ok (.getfield 46, 3) := by decide +kernel
theorem dX7_lease_132 : decode cX7_lease 132 = .ok (.aload_n 0, 1) := by decide +kernel
theorem dX7_lease_133 : decode cX7_lease 133 = .ok (.getfield 149, 3) := by decide +kernel
theorem dX7_lease_136 : decode cX7_lease 136 = .ok (.aload_n 0, 1) := by decide +kernel
theorem dX7_lease_137 : decode cX7_lease 137 = .ok (.getfield 122, 3) := by decide +kernel
theorem dX7_lease_140 : decode cX7_lease 140 = .ok (.iastore, 1) := by decide +kernel
theorem dX7_lease_141 : decode cX7_lease 141 = .ok (.aload_n 0, 1) := by decide +kernel
theorem dX7_lease_142 : decode cX7_lease 142 = .ok (.getfield 49, 3) := by decide +kernel
theorem dX7_lease_145 : decode cX7_lease 145 = .ok (.aload_n 0, 1) := by decide +kernel
theorem dX7_lease_146 : decode cX7_lease 146 = .ok (.getfield 149, 3) := by decide +kernel
theorem dX7_lease_149 : decode cX7_lease 149 = .ok (.iload 5, 2) := by decide +kernel
theorem dX7_lease_151 : decode cX7_lease 151 = .ok (.iastore, 1) := by decide +kernel
theorem dX7_lease_152 : decode cX7_lease 152 = .ok (.aload_n 0, 1) := by decide +kernel
theorem dX7_lease_153 : decode cX7_lease 153 = .ok (.dup, 1) := by decide +kernel
theorem dX7_lease_154 : decode cX7_lease 154 = .ok (.getfield 149, 3) := by decide +kernel
theorem dX7_lease_157 : decode cX7_lease 157 = .ok (.iconst 1, 1) := by decide +kernel
theorem dX7_lease_158 : decode cX7_lease 158 = .ok (.iadd, 1) := by decide +kernel
theorem dX7_lease_159 : decode cX7_lease 159 = .ok (.putfield 149, 3) := by decide +kernel
theorem dX7_lease_162 : decode cX7_lease 162 = .ok (.aload_n 0, 1) := by decide +kernel
theorem dX7_lease_163 : decode cX7_lease 163 = .ok (.getfield 149, 3) := by decide +kernel
theorem dX7_lease_166 : decode cX7_lease 166 = .ok (.iconst 1, 1) := by decide +kernel
theorem dX7_lease_167 : decode cX7_lease 167 = .ok (.isub, 1) := by decide +kernel
theorem dX7_lease_168 : decode cX7_lease 168 = .ok (.ireturn, 1) := by decide +kernel
theorem dX7_gaveOil_0 : decode cX7_gaveOil 0 = .ok (.iconst 0, 1) := by decide +kernel
theorem dX7_gaveOil_1 : decode cX7_gaveOil 1 = .ok (.istore_n 3, 1) := by decide +kernel
theorem dX7_gaveOil_2 : decode cX7_gaveOil 2 = .ok (.iconst 0, 1) := by decide +kernel
theorem dX7_gaveOil_3 : decode cX7_gaveOil 3 = .ok (.istore 4, 2) := by decide +kernel
theorem dX7_gaveOil_5 : decode cX7_gaveOil 5 = .ok (.iload 4, 2) := by decide +kernel
theorem dX7_gaveOil_7 : decode cX7_gaveOil 7 = .ok (.aload_n 0, 1) := by decide +kernel
theorem dX7_gaveOil_8 : decode cX7_gaveOil 8 = .ok (.getfield 152, 3) := by decide +kernel
theorem dX7_gaveOil_11 : decode cX7_gaveOil 11 = .ok (.if_icmp .ge 45, 3) := by decide +kernel
theorem dX7_gaveOil_14 : decode cX7_gaveOil 14 = .ok (.iload_n 3, 1) := by decide +kernel
theorem dX7_gaveOil_15 : decode cX7_gaveOil 15 = .ok (.ifCond .ne 29, 3) := by decide +kernel
theorem dX7_gaveOil_18 : decode cX7_gaveOil 18 = .ok (.aload_n 0, 1) := by decide +kernel
theorem dX7_gaveOil_19 : decode cX7_gaveOil 19 = .ok (.getfield 55, 3) := by decide +kernel
theorem dX7_gaveOil_22 : decode cX7_gaveOil 22 = .ok (.iload 4, 2) := by decide +kernel
theorem dX7_gaveOil_24 : decode cX7_gaveOil 24 = .ok (.iaload, 1) := by decide +kernel
theorem dX7_gaveOil_25 : decode cX7_gaveOil 25 = .ok (.iload_n 1, 1) := by decide +kernel
theorem dX7_gaveOil_26 : decode cX7_gaveOil 26 = .ok (.if_icmp .ne 22, 3) := by decide +kernel
theorem dX7_gaveOil_29 : decode cX7_gaveOil 29 = .ok (.aload_n 0, 1) := by decide +kernel
theorem dX7_gaveOil_30 : decode cX7_gaveOil 30 = .ok (.getfield 58, 3) := by decide +kernel
theorem dX7_gaveOil_33 : decode cX7_gaveOil 33 = .ok (.bipush 61, 2) := by decide +kernel
theorem dX7_gaveOil_35 : decode cX7_gaveOil 35 = .ok (.iload 4, 2) := by decide +kernel
theorem dX7_gaveOil_37 : decode cX7_gaveOil 37 = .ok (.imul, 1) := by decide +kernel
theorem dX7_gaveOil_38 : decode cX7_gaveOil 38 = .ok (.iload_n 2, 1) := by decide +kernel
theorem dX7_gaveOil_39 : decode cX7_gaveOil 39 = .ok (.iadd, 1) := by decide +kernel
theorem dX7_gaveOil_40 : decode cX7_gaveOil 40 = .ok (.iaload, 1) := by decide +kernel
theorem dX7_gaveOil_41 : decode cX7_gaveOil 41 = .ok (.ifCond .le 7, 3) := by decide +kernel
theorem dX7_gaveOil_44 : decode cX7_gaveOil 44 = .ok (.iconst 1, 1) := by decide +kernel
theorem dX7_gaveOil_45 : decode cX7_gaveOil 45 = .ok (.goto 4, 3) := by decide +kernel
theorem dX7_gaveOil_48 : decode cX7_gaveOil 48 = .ok (.iconst 0, 1) := by decide +kernel
theorem dX7_gaveOil_49 : decode cX7_gaveOil 49 = .ok (.istore_n 3, 1) := by decide +kernel
theorem dX7_gaveOil_50 : decode cX7_gaveOil 50 = .ok (.iinc 4 1, 3) := by decide +kernel
theorem dX7_gaveOil_53 : decode cX7_gaveOil 53 = .ok (.goto (-48), 3) := by decide +kernel
theorem dX7_gaveOil_56 : decode cX7_gaveOil 56 = .ok (.iload_n 3, 1) := by decide +kernel
theorem dX7_gaveOil_57 : decode cX7_gaveOil 57 = .ok (.ireturn, 1) := by decide +kernel
set_option maxRecDepth 20000 in
theorem ggX7_holds_X7_gaveOil : GoodIn wsX7_holds wsX7_gaveOil := goodIn_r _ [9, 10, 11, 12, 13, 14, 15, 16, 17, 18, 19, 20, 21, 22, 23, 24, 25, 26, 27, 28, 29, 30, 31, 32, 33, 34, 35, 36, 37, 38, 39, 40, 41, 42, 43, 44, 45, 46, 47, 48, 49, 50, 51, 52] (by decide +kernel) (by decide +kernel)
set_option maxRecDepth 20000 in
theorem gX7_holds_X7_gaveOil : GoodIn wsX7_holds (wsV RX7 155 RX7 yX7_gaveOil wsX7_gaveOil) := goodIn_app (goodIn_of _ (by decide +kernel)) ggX7_holds_X7_gaveOil
theorem dX7_holds_0 : decode cX7_holds 0 = .ok (.aload_n 0, 1) := by decide +kernel
theorem dX7_holds_1 : decode cX7_holds 1 = .ok (.getfield 46, 3) := by decide +kernel
theorem dX7_holds_4 : decode cX7_holds 4 = .ok (.iload_n 1, 1) := by decide +kernel
theorem dX7_holds_5 : decode cX7_holds 5 = .ok (.iaload, 1) := by decide +kernel
theorem dX7_holds_6 : decode cX7_holds 6 = .ok (.aload_n 0, 1) := by decide +kernel
theorem dX7_holds_7 : decode cX7_holds 7 = .ok (.getfield 49, 3) := by decide +kernel
theorem dX7_holds_10 : decode cX7_holds 10 = .ok (.iload_n 1, 1) := by decide +kernel
theorem dX7_holds_11 : decode cX7_holds 11 = .ok (.iaload, 1) := by decide +kernel
theorem dX7_holds_12 : decode cX7_holds 12 = .ok (.iadd, 1) := by decide +kernel
theorem dX7_holds_13 : decode cX7_holds 13 = .ok (.iconst 1, 1) := by decide +kernel
theorem dX7_holds_14 : decode cX7_holds 14 = .ok (.isub, 1) := by decide +kernel
theorem dX7_holds_15 : decode cX7_holds 15 = .ok (.istore_n 3, 1) := by decide +kernel
theorem dX7_holds_16 : decode cX7_holds 16 = .ok (.iload_n 2, 1) := by decide +kernel
theorem dX7_holds_17 : decode cX7_holds 17 = .ok (.aload_n 0, 1) := by decide +kernel
theorem dX7_holds_18 : decode cX7_holds 18 = .ok (.getfield 46, 3) := by decide +kernel
theorem dX7_holds_21 : decode cX7_holds 21 = .ok (.iload_n 1, 1) := by decide +kernel
theorem dX7_holds_22 : decode cX7_holds 22 = .ok (.iaload, 1) := by decide +kernel
theorem dX7_holds_23 : decode cX7_holds 23 = .ok (.if_icmp .lt 7, 3) := by decide +kernel
theorem dX7_holds_26 : decode cX7_holds 26 = .ok (.iconst 1, 1) := by decide +kernel
theorem dX7_holds_27 : decode cX7_holds 27 = .ok (.goto 4, 3) := by decide +kernel
theorem dX7_holds_30 : decode cX7_holds 30 = .ok (.iconst 0, 1) := by decide +kernel
theorem dX7_holds_31 : decode cX7_holds 31 = .ok (.istore 4, 2) := by decide +kernel
theorem dX7_holds_33 : decode cX7_holds 33 = .ok (.iload_n 3, 1) := by decide +kernel
theorem dX7_holds_34 : decode cX7_holds 34 = .ok (.istore 5, 2) := by decide +kernel
theorem dX7_holds_36 : decode cX7_holds 36 = .ok (.iload 5, 2) := by decide +kernel
theorem dX7_holds_38 : decode cX7_holds 38 = .ok (.iload_n 2, 1) := by decide +kernel
theorem dX7_holds_39 : decode cX7_holds 39 = .ok (.if_icmp .ge 56, 3) := by decide +kernel
theorem dX7_holds_42 : decode cX7_holds 42 = .ok (.iload 4, 2) := by decide +kernel
theorem dX7_holds_44 : decode cX7_holds 44 = .ok (.ifCond .eq 51, 3) := by decide +kernel
theorem dX7_holds_47 : decode cX7_holds 47 = .ok (.aload_n 0, 1) := by decide +kernel
theorem dX7_holds_48 : decode cX7_holds 48 = .ok (.getfield 16, 3) := by decide +kernel
theorem dX7_holds_51 : decode cX7_holds 51 = .ok (.aload_n 0, 1) := by decide +kernel
theorem dX7_holds_52 : decode cX7_holds 52 = .ok (.getfield 34, 3) := by decide +kernel
theorem dX7_holds_55 : decode cX7_holds 55 = .ok (.iload_n 1, 1) := by decide +kernel
theorem dX7_holds_56 : decode cX7_holds 56 = .ok (.iaload, 1) := by decide +kernel
theorem dX7_holds_57 : decode cX7_holds 57 = .ok (.iaload, 1) := by decide +kernel
theorem dX7_holds_58 : decode cX7_holds 58 = .ok (.iconst (-1), 1) := by decide +kernel
theorem dX7_holds_59 : decode cX7_holds 59 = .ok (.if_icmp .eq 27, 3) := by decide +kernel
theorem dX7_holds_62 : decode cX7_holds 62 = .ok (.aload_n 0, 1) := by decide +kernel
theorem dX7_holds_63 : decode cX7_holds 63 = .ok (.aload_n 0, 1) := by decide +kernel
theorem dX7_holds_64 : decode cX7_holds 64 = .ok (.getfield 16, 3) := by decide +kernel
theorem dX7_holds_67 : decode cX7_holds 67 = .ok (.aload_n 0, 1) := by decide +kernel
theorem dX7_holds_68 : decode cX7_holds 68 = .ok (.getfield 34, 3) := by decide +kernel
theorem dX7_holds_71 : decode cX7_holds 71 = .ok (.iload_n 1, 1) := by decide +kernel
theorem dX7_holds_72 : decode cX7_holds 72 = .ok (.iaload, 1) := by decide +kernel
theorem dX7_holds_73 : decode cX7_holds 73 = .ok (.iaload, 1) := by decide +kernel
theorem dX7_holds_74 : decode cX7_holds 74 = .ok (.iload 5, 2) := by decide +kernel
theorem dX7_holds_76 : decode cX7_holds 76 = .ok (.invokevirtual 155, 3) := by decide +kernel
theorem dX7_holds_79 : decode cX7_holds 79 = .ok (.ifCond .eq 7, 3) := by decide +kernel
theorem dX7_holds_82 : decode cX7_holds 82 = .ok (.iconst 1, 1) := by decide +kernel
theorem dX7_holds_83 : decode cX7_holds 83 = .ok (.goto 4, 3) := by decide +kernel
theorem dX7_holds_86 : decode cX7_holds 86 = .ok (.iconst 0, 1) := by decide +kernel
theorem dX7_holds_87 : decode cX7_holds 87 = .ok (.istore 4, 2) := by decide +kernel
theorem dX7_holds_89 : decode cX7_holds 89 = .ok (.iinc 5 1, 3) := by decide +kernel
theorem dX7_holds_92 : decode cX7_holds 92 = .ok (.goto (-56), 3) := by decide +kernel
theorem dX7_holds_95 : decode cX7_holds 95 = .ok (.iload 4, 2) := by decide +kernel
theorem dX7_holds_97 : decode cX7_holds 97 = .ok (.ireturn, 1) := by decide +kernel
set_option maxRecDepth 20000 in
theorem ggX7_isHeld_X7_isBetween : GoodIn wsX7_isHeld wsX7_isBetween := goodIn_r _ [5] (by decide +kernel) (by decide +kernel)
set_option maxRecDepth 20000 in
theorem gX7_isHeld_X7_isBetween : GoodIn wsX7_isHeld (va_wsS RX7 115 yX7_isBetween wsX7_isBetween) := goodIn_app (goodIn_of _ (by decide +kernel)) ggX7_isHeld_X7_isBetween
set_option maxRecDepth 20000 in
theorem ggX7_isHeld_X7_isMonth : GoodIn wsX7_isHeld wsX7_isMonth := goodIn_r _ [9, 10, 2, 3, 4, 5, 31, 32, 33, 34, 35, 36, 37, 38, 39, 40, 41, 42, 43, 44, 45, 46, 47, 48, 49, 50, 51, 52, 53, 54, 55, 56, 57, 58, 59, 60, 61, 62, 63, 64, 65, 66, 67, 68, 69, 70] (by decide +kernel) (by decide +kernel)
set_option maxRecDepth 20000 in
theorem gX7_isHeld_X7_isMonth : GoodIn wsX7_isHeld (wsV RX7 142 RX7 yX7_isMonth wsX7_isMonth) := goodIn_app (goodIn_of _ (by decide +kernel)) ggX7_isHeld_X7_isMonth
set_option maxRecDepth 20000 in
theorem ggX7_isHeld_X7_goes : GoodIn wsX7_isHeld wsX7_goes := goodIn_r _ [14, 15, 31, 32, 33, 34, 35, 36, 37, 38, 39, 40, 41, 42, 43, 44, 45, 46, 47, 48, 49, 50, 51, 52, 53, 54, 55, 56, 57, 58, 59, 60, 61, 62, 63, 64, 65, 66, 67, 68, 69, 70] (by decide +kernel) (by decide +kernel)
set_option maxRecDepth 20000 in
theorem gX7_isHeld_X7_goes : GoodIn wsX7_isHeld (wsV RX7 128 RX7 yX7_goes wsX7_goes) := goodIn_app (goodIn_of _ (by decide +kernel)) ggX7_isHeld_X7_goes
set_option maxRecDepth 20000 in
theorem ggX7_isHeld_X7_holds : GoodIn wsX7_isHeld wsX7_holds := goodIn_r _ [19, 20, 21, 22, 23, 24, 25, 26, 4, 27, 28, 29, 30, 31, 32, 33, 34, 35, 36, 37, 38, 39, 40, 41, 42, 43, 44, 45, 46, 47, 48, 49, 50, 51, 52, 53, 54, 55, 56, 57, 58, 59, 60, 61, 62, 63, 64, 65, 66, 67, 68, 69, 70] (by decide +kernel) (by decide +kernel)
set_option maxRecDepth 20000 in
theorem gX7_isHeld_X7_holds : GoodIn wsX7_isHeld (wsV RX7 159 RX7 yX7_holds wsX7_holds) := goodIn_app (goodIn_of _ (by decide +kernel)) ggX7_isHeld_X7_holds
theorem dX7_isHeld_0 : decode cX7_isHeld 0 = .ok (.aload_n 0, 1) := by decide +kernel
theorem dX7_isHeld_1 : decode cX7_isHeld 1 = .ok (.iload_n 1, 1) := by decide +kernel
theorem dX7_isHeld_2 : decode cX7_isHeld 2 = .ok (.iconst 0, 1) := by decide +kernel
theorem dX7_isHeld_3 : decode cX7_isHeld 3 = .ok (.aload_n 0, 1) := by decide +kernel
theorem dX7_isHeld_4 : decode cX7_isHeld 4 = .ok (.getfield 149, 3) := by decide +kernel
theorem dX7_isHeld_7 : decode cX7_isHeld 7 = .ok (.iconst 1, 1) := by decide +kernel
theorem dX7_isHeld_8 : decode cX7_isHeld 8 = .ok (.isub, 1) := by decide +kernel
theorem dX7_isHeld_9 : decode cX7_isHeld 9 = .ok (.invokestatic 115, 3) := by decide +kernel
theorem dX7_isHeld_12 : decode cX7_isHeld 12 = .ok (.ifCond .eq 15, 3) := by decide +kernel
theorem dX7_isHeld_15 : decode cX7_isHeld 15 = .ok (.aload_n 0, 1) := by decide +kernel
theorem dX7_isHeld_16 : decode cX7_isHeld 16 = .ok (.iload_n 2, 1) := by decide +kernel
theorem dX7_isHeld_17 : decode cX7_isHeld 17 = .ok (.invokevirtual 142, 3) := by decide +kernel
theorem dX7_isHeld_20 : decode cX7_isHeld 20 = .ok (.ifCond .eq 7, 3) := by decide +kernel
theorem dX7_isHeld_23 : decode cX7_isHeld 23 = .ok (.iconst 1, 1) := by decide +kernel
theorem dX7_isHeld_24 : decode cX7_isHeld 24 = .ok (.goto 4, 3) := by decide +kernel
theorem dX7_isHeld_27 : decode cX7_isHeld 27 = .ok (.iconst 0, 1) := by decide +kernel
theorem dX7_isHeld_28 : decode cX7_isHeld 28 = .ok (.iconst 1, 1) := by decide +kernel
theorem dX7_isHeld_29 : decode cX7_isHeld 29 = .ok (.iconst 1, 1) := by decide +kernel
theorem dX7_isHeld_30 : decode cX7_isHeld 30 = .ok (.invokevirtual 128, 3) := by decide +kernel
theorem dX7_isHeld_33 : decode cX7_isHeld 33 = .ok (.ifCond .eq 16, 3) := by decide +kernel
theorem dX7_isHeld_36 : decode cX7_isHeld 36 = .ok (.aload_n 0, 1) := by decide +kernel
theorem dX7_isHeld_37 : decode cX7_isHeld 37 = .ok (.iload_n 1, 1) := by decide +kernel
theorem dX7_isHeld_38 : decode cX7_isHeld 38 = .ok (.iload_n 2, 1) := by decide +kernel
theorem dX7_isHeld_39 : decode cX7_isHeld 39 = .ok (.invokevirtual 159, 3) := by decide +kernel
theorem dX7_isHeld_42 : decode cX7_isHeld 42 = .ok (.ifCond .eq 7, 3) := by decide +kernel
theorem dX7_isHeld_45 : decode cX7_isHeld 45 = .ok (.iconst 1, 1) := by decide +kernel
theorem dX7_isHeld_46 : decode cX7_isHeld 46 = .ok (.goto 4, 3) := by decide +kernel
theorem dX7_isHeld_49 : decode cX7_isHeld 49 = .ok (.iconst 0, 1) := by decide +kernel
theorem dX7_isHeld_50 : decode cX7_isHeld 50 = .ok (.ireturn, 1) := by decide +kernel
set_option maxRecDepth 20000 in
theorem ggX7_unit_X7_goes : GoodIn wsX7_unit wsX7_goes := goodIn_r _ [10, 11, 12, 13, 14, 15, 16, 17, 18, 19, 20, 21, 22, 23, 24, 25, 26, 27, 28, 29, 30, 31, 32, 33, 34, 35, 36, 37, 38, 39, 40, 41, 42, 43, 44, 45, 46, 47, 48, 49, 50, 51] (by decide +kernel) (by decide +kernel)
set_option maxRecDepth 20000 in
theorem gX7_unit_X7_goes : GoodIn wsX7_unit (wsV RX7 128 RX7 yX7_goes wsX7_goes) := goodIn_app (goodIn_of _ (by decide +kernel)) ggX7_unit_X7_goes
theorem dX7_unit_0 : decode cX7_unit 0 = .ok (.iload_n 1, 1) := by decide +kernel
theorem dX7_unit_1 : decode cX7_unit 1 = .ok (.iconst 1, 1) := by decide +kernel
theorem dX7_unit_2 : decode cX7_unit 2 = .ok (.if_icmp .lt 16, 3) := by decide +kernel
theorem dX7_unit_5 : decode cX7_unit 5 = .ok (.iload_n 1, 1) := by decide +kernel
theorem dX7_unit_6 : decode cX7_unit 6 = .ok (.aload_n 0, 1) := by decide +kernel
theorem dX7_unit_7 : decode cX7_unit 7 = .ok (.getfield 119, 3) := by decide +kernel
theorem dX7_unit_10 : decode cX7_unit 10 = .ok (.ishr, 1) := by decide +kernel
theorem dX7_unit_11 : decode cX7_unit 11 = .ok (.ifCond .ne 7, 3) := by decide +kernel
theorem dX7_unit_14 : decode cX7_unit 14 = .ok (.iconst 1, 1) := by decide +kernel
theorem dX7_unit_15 : decode cX7_unit 15 = .ok (.goto 4, 3) := by decide +kernel
theorem dX7_unit_18 : decode cX7_unit 18 = .ok (.iconst 0, 1) := by decide +kernel
theorem dX7_unit_19 : decode cX7_unit 19 = .ok (.istore_n 2, 1) := by decide +kernel
theorem dX7_unit_20 : decode cX7_unit 20 = .ok (.iload_n 2, 1) := by decide +kernel
theorem dX7_unit_21 : decode cX7_unit 21 = .ok (.ifCond .eq 15, 3) := by decide +kernel
theorem dX7_unit_24 : decode cX7_unit 24 = .ok (.aload_n 0, 1) := by decide +kernel
theorem dX7_unit_25 : decode cX7_unit 25 = .ok (.getfield 125, 3) := by decide +kernel
theorem dX7_unit_28 : decode cX7_unit 28 = .ok (.iconst 3, 1) := by decide +kernel
theorem dX7_unit_29 : decode cX7_unit 29 = .ok (.if_icmp .ge 7, 3) := by decide +kernel
theorem dX7_unit_32 : decode cX7_unit 32 = .ok (.iconst 1, 1) := by decide +kernel
theorem dX7_unit_33 : decode cX7_unit 33 = .ok (.goto 4, 3) := by decide +kernel
theorem dX7_unit_36 : decode cX7_unit 36 = .ok (.iconst 0, 1) := by decide +kernel
theorem dX7_unit_37 : decode cX7_unit 37 = .ok (.istore_n 3, 1) := by decide +kernel
theorem dX7_unit_38 : decode cX7_unit 38 = .ok (.iconst 0, 1) := by decide +kernel
theorem dX7_unit_39 : decode cX7_unit 39 = .ok (.istore 4, 2) := by decide +kernel
theorem dX7_unit_41 : decode cX7_unit 41 = .ok (.iload 4, 2) := by decide +kernel
theorem dX7_unit_43 : decode cX7_unit 43 = .ok (.aload_n 0, 1) := by decide +kernel
theorem dX7_unit_44 : decode cX7_unit 44 = .ok (.getfield 119, 3) := by decide +kernel
theorem dX7_unit_47 : decode cX7_unit 47 = .ok (.if_icmp .ge 39, 3) := by decide +kernel
theorem dX7_unit_50 : decode cX7_unit 50 = .ok (.iload_n 3, 1) := by decide +kernel
theorem dX7_unit_51 : decode cX7_unit 51 = .ok (.ifCond .eq 35, 3) := by decide +kernel
theorem dX7_unit_54 : decode cX7_unit 54 = .ok (.iload_n 1, 1) := by decide +kernel
theorem dX7_unit_55 : decode cX7_unit 55 = .ok (.iload 4, 2) := by decide +kernel
theorem dX7_unit_57 : decode cX7_unit 57 = .ok (.ishr, 1) := by decide +kernel
theorem dX7_unit_58 : decode cX7_unit 58 = .ok (.iconst 1, 1) := by decide +kernel
theorem dX7_unit_59 : decode cX7_unit 59 = .ok (.iand, 1) := by decide +kernel
theorem dX7_unit_60 : decode cX7_unit 60 = .ok (.ifCond .eq 14, 3) := by decide +kernel
theorem dX7_unit_63 : decode cX7_unit 63 = .ok (.aload_n 0, 1) := by decide +kernel
theorem dX7_unit_64 : decode cX7_unit 64 = .ok (.getfield 16, 3) := by decide +kernel
theorem dX7_unit_67 : decode cX7_unit 67 = .ok (.iload 4, 2) := by decide +kernel
theorem dX7_unit_69 : decode cX7_unit 69 = .ok (.iaload, 1) := by decide +kernel
theorem dX7_unit_70 : decode cX7_unit 70 = .ok (.iconst (-1), 1) := by decide +kernel
theorem dX7_unit_71 : decode cX7_unit 71 = .ok (.if_icmp .ne 7, 3) := by decide +kernel
theorem dX7_unit_74 : decode cX7_unit 74 = .ok (.iconst 1, 1) := by decide +kernel
theorem dX7_unit_75 : decode cX7_unit 75 = .ok (.goto 4, 3) := by decide +kernel
theorem dX7_unit_78 : decode cX7_unit 78 = .ok (.iconst 0, 1) := by decide +kernel
theorem dX7_unit_79 : decode cX7_unit 79 = .ok (.istore_n 3, 1) := by decide +kernel
theorem dX7_unit_80 : decode cX7_unit 80 = .ok (.iinc 4 1, 3) := by decide +kernel
theorem dX7_unit_83 : decode cX7_unit 83 = .ok (.goto (-42), 3) := by decide +kernel
theorem dX7_unit_86 : decode cX7_unit 86 = .ok (.aload_n 0, 1) := by decide +kernel
theorem dX7_unit_87 : decode cX7_unit 87 = .ok (.iload_n 2, 1) := by decide +kernel
theorem dX7_unit_88 : decode cX7_unit 88 = .ok (.iload_n 3, 1) := by decide +kernel
theorem dX7_unit_89 : decode cX7_unit 89 = .ok (.iconst 1, 1) := by decide +kernel
theorem dX7_unit_90 : decode cX7_unit 90 = .ok (.invokevirtual 128, 3) := by decide +kernel
theorem dX7_unit_93 : decode cX7_unit 93 = .ok (.ifCond .ne 5, 3) := by decide +kernel
theorem dX7_unit_96 : decode cX7_unit 96 = .ok (.iconst 0, 1) := by decide +kernel
theorem dX7_unit_97 : decode cX7_unit 97 = .ok (.ireturn, 1) := by decide +kernel
theorem dX7_unit_98 : decode cX7_unit 98 = .ok (.iconst 0, 1) := by decide +kernel
theorem dX7_unit_99 : decode cX7_unit 99 = .ok (.istore 4, 2) := by decide +kernel
theorem dX7_unit_101 : decode cX7_unit 101 = .ok (.iload 4, 2) := by decide +kernel
theorem dX7_unit_103 : decode cX7_unit 103 = .ok (.aload_n 0, 1) := by decide +kernel
theorem dX7_unit_104 : decode cX7_unit 104 = .ok (.getfield 119, 3) := by decide +kernel
theorem dX7_unit_107 : decode cX7_unit 107 = .ok (.if_icmp .ge 40, 3) := by decide +kernel
theorem dX7_unit_110 : decode cX7_unit 110 = .ok (.aload_n 0, 1) := by decide +kernel
theorem dX7_unit_111 : decode cX7_unit 111 = .ok (.getfield 16, 3) := by decide +kernel
theorem dX7_unit_114 : decode cX7_unit 114 = .ok (.iload 4, 2) := by decide +kernel
theorem dX7_unit_116 : decode cX7_unit 116 = .ok (.iload_n 1, 1) := by decide +kernel
theorem dX7_unit_117 : decode cX7_unit 117 = .ok (.iload 4, 2) := by decide +kernel
theorem dX7_unit_119 : decode cX7_unit 119 = .ok (.ishr, 1) := by decide +kernel
theorem dX7_unit_120 : decode cX7_unit 120 = .ok (.iconst 1, 1) := by decide +kernel
theorem dX7_unit_121 : decode cX7_unit 121 = .ok (.iand, 1) := by decide +kernel
theorem dX7_unit_122 : decode cX7_unit 122 = .ok (.iconst 1, 1) := by decide +kernel
theorem dX7_unit_123 : decode cX7_unit 123 = .ok (.if_icmp .ne 10, 3) := by decide +kernel
theorem dX7_unit_126 : decode cX7_unit 126 = .ok (.aload_n 0, 1) := by decide +kernel
theorem dX7_unit_127 : decode cX7_unit 127 = .ok (.getfield 125, 3) := by decide +kernel
theorem dX7_unit_130 : decode cX7_unit 130 = .ok (.goto 10, 3) := by decide +kernel
theorem dX7_unit_133 : decode cX7_unit 133 = .ok (.aload_n 0, 1) := by decide +kernel
theorem dX7_unit_134 : decode cX7_unit 134 = .ok (.getfield 16, 3) := by decide +kernel
theorem dX7_unit_137 : decode cX7_unit 137 = .ok (.iload 4, 2) := by decide +kernel
theorem dX7_unit_139 : decode cX7_unit 139 = .ok (.iaload, 1) := by decide +kernel
theorem dX7_unit_140 : decode cX7_unit 140 = .ok (.iastore, 1) := by decide +kernel
theorem dX7_unit_141 : decode cX7_unit 141 = .ok (.iinc 4 1, 3) := by decide +kernel
theorem dX7_unit_144 : decode cX7_unit 144 = .ok (.goto (-43), 3) := by decide +kernel
theorem dX7_unit_147 : decode cX7_unit 147 = .ok (.aload_n 0, 1) := by decide +kernel
theorem dX7_unit_148 : decode cX7_unit 148 = .ok (.getfield 52, 3) := by decide +kernel
theorem dX7_unit_151 : decode cX7_unit 151 = .ok (.aload_n 0, 1) := by decide +kernel
theorem dX7_unit_152 : decode cX7_unit 152 = .ok (.getfield 125, 3) := by decide +kernel
theorem dX7_unit_155 : decode cX7_unit 155 = .ok (.aload_n 0, 1) := by decide +kernel
theorem dX7_unit_156 : decode cX7_unit 156 = .ok (.getfield 122, 3) := by decide +kernel
theorem dX7_unit_159 : decode cX7_unit 159 = .ok (.iastore, 1) := by decide +kernel
theorem dX7_unit_160 : decode cX7_unit 160 = .ok (.aload_n 0, 1) := by decide +kernel
theorem dX7_unit_161 : decode cX7_unit 161 = .ok (.dup, 1) := by decide +kernel
theorem dX7_unit_162 : decode cX7_unit 162 = .ok (.getfield 125, 3) := by decide +kernel
theorem dX7_unit_165 : decode cX7_unit 165 = .ok (.iconst 1, 1) := by decide +kernel
theorem dX7_unit_166 : decode cX7_unit 166 = .ok (.iadd, 1) := by decide +kernel
theorem dX7_unit_167 : decode cX7_unit 167 = .ok (.putfield 125, 3) := by decide +kernel
theorem dX7_unit_170 : decode cX7_unit 170 = .ok (.aload_n 0, 1) := by decide +kernel
theorem dX7_unit_171 : decode cX7_unit 171 = .ok (.getfield 125, 3) := by decide +kernel
theorem dX7_unit_174 : decode cX7_unit 174 = .ok (.iconst 1, 1) := by decide +kernel
theorem dX7_unit_175 : decode cX7_unit 175 = .ok (.isub, 1) := by decide +kernel
theorem dX7_unit_176 : decode cX7_unit 176 = .ok (.ireturn, 1) := by decide +kernel
set_option maxRecDepth 20000 in
theorem ggX7_well_X7_isBetween : GoodIn wsX7_well wsX7_isBetween := goodIn_r _ [7] (by decide +kernel) (by decide +kernel)
set_option maxRecDepth 20000 in
theorem gX7_well_X7_isBetween : GoodIn wsX7_well (va_wsS RX7 115 yX7_isBetween wsX7_isBetween) := goodIn_app (goodIn_of _ (by decide +kernel)) ggX7_well_X7_isBetween
set_option maxRecDepth 20000 in
theorem ggX7_well_X7_goes : GoodIn wsX7_well wsX7_goes := goodIn_r _ [11, 12, 13, 14, 15, 16, 17, 18, 19, 20, 21, 22, 23, 24, 25, 26, 27, 28, 29, 30, 31, 32, 33, 34, 35, 36, 37, 38, 39, 40, 41, 42, 43, 44, 45, 46, 47, 48, 49, 50, 51, 52] (by decide +kernel) (by decide +kernel)
set_option maxRecDepth 20000 in
theorem gX7_well_X7_goes : GoodIn wsX7_well (wsV RX7 128 RX7 yX7_goes wsX7_goes) := goodIn_app (goodIn_of _ (by decide +kernel)) ggX7_well_X7_goes
theorem dX7_well_0 : decode cX7_well 0 = .ok (.aload_n 0, 1) := by decide +kernel
theorem dX7_well_1 : decode cX7_well 1 = .ok (.iload_n 1, 1) := by decide +kernel
theorem dX7_well_2 : decode cX7_well 2 = .ok (.iconst 0, 1) := by decide +kernel
theorem dX7_well_3 : decode cX7_well 3 = .ok (.aload_n 0, 1) := by decide +kernel
theorem dX7_well_4 : decode cX7_well 4 = .ok (.getfield 125, 3) := by decide +kernel
theorem dX7_well_7 : decode cX7_well 7 = .ok (.iconst 1, 1) := by decide +kernel
theorem dX7_well_8 : decode cX7_well 8 = .ok (.isub, 1) := by decide +kernel
theorem dX7_well_9 : decode cX7_well 9 = .ok (.invokestatic 115, 3) := by decide +kernel
theorem dX7_well_12 : decode cX7_well 12 = .ok (.aload_n 0, 1) := by decide +kernel
theorem dX7_well_13 : decode cX7_well 13 = .ok (.getfield 152, 3) := by decide +kernel
theorem dX7_well_16 : decode cX7_well 16 = .ok (.bipush 6, 2) := by decide +kernel
theorem dX7_well_18 : decode cX7_well 18 = .ok (.if_icmp .ge 7, 3) := by decide +kernel
theorem dX7_well_21 : decode cX7_well 21 = .ok (.iconst 1, 1) := by decide +kernel
theorem dX7_well_22 : decode cX7_well 22 = .ok (.goto 4, 3) := by decide +kernel
theorem dX7_well_25 : decode cX7_well 25 = .ok (.iconst 0, 1) := by decide +kernel
theorem dX7_well_26 : decode cX7_well 26 = .ok (.iconst 1, 1) := by decide +kernel
theorem dX7_well_27 : decode cX7_well 27 = .ok (.invokevirtual 128, 3) := by decide +kernel
theorem dX7_well_30 : decode cX7_well 30 = .ok (.ifCond .ne 5, 3) := by decide +kernel
theorem dX7_well_33 : decode cX7_well 33 = .ok (.iconst 0, 1) := by decide +kernel
theorem dX7_well_34 : decode cX7_well 34 = .ok (.ireturn, 1) := by decide +kernel
theorem dX7_well_35 : decode cX7_well 35 = .ok (.aload_n 0, 1) := by decide +kernel
theorem dX7_well_36 : decode cX7_well 36 = .ok (.getfield 55, 3) := by decide +kernel
theorem dX7_well_39 : decode cX7_well 39 = .ok (.aload_n 0, 1) := by decide +kernel
theorem dX7_well_40 : decode cX7_well 40 = .ok (.getfield 152, 3) := by decide +kernel
theorem dX7_well_43 : decode cX7_well 43 = .ok (.iload_n 1, 1) := by decide +kernel
theorem dX7_well_44 : decode cX7_well 44 = .ok (.iastore, 1) := by decide +kernel
theorem dX7_well_45 : decode cX7_well 45 = .ok (.aload_n 0, 1) := by decide +kernel
theorem dX7_well_46 : decode cX7_well 46 = .ok (.dup, 1) := by decide +kernel
theorem dX7_well_47 : decode cX7_well 47 = .ok (.getfield 152, 3) := by decide +kernel
theorem dX7_well_50 : decode cX7_well 50 = .ok (.iconst 1, 1) := by decide +kernel
theorem dX7_well_51 : decode cX7_well 51 = .ok (.iadd, 1) := by decide +kernel
theorem dX7_well_52 : decode cX7_well 52 = .ok (.putfield 152, 3) := by decide +kernel
theorem dX7_well_55 : decode cX7_well 55 = .ok (.aload_n 0, 1) := by decide +kernel
theorem dX7_well_56 : decode cX7_well 56 = .ok (.getfield 152, 3) := by decide +kernel
theorem dX7_well_59 : decode cX7_well 59 = .ok (.iconst 1, 1) := by decide +kernel
theorem dX7_well_60 : decode cX7_well 60 = .ok (.isub, 1) := by decide +kernel
theorem dX7_well_61 : decode cX7_well 61 = .ok (.ireturn, 1) := by decide +kernel
set_option maxRecDepth 20000 in
theorem ggX7_isWellMonth_X7_isBetween : GoodIn wsX7_isWellMonth wsX7_isBetween := goodIn_r _ [5] (by decide +kernel) (by decide +kernel)
set_option maxRecDepth 20000 in
theorem gX7_isWellMonth_X7_isBetween : GoodIn wsX7_isWellMonth (va_wsS RX7 115 yX7_isBetween wsX7_isBetween) := goodIn_app (goodIn_of _ (by decide +kernel)) ggX7_isWellMonth_X7_isBetween
set_option maxRecDepth 20000 in
theorem ggX7_isWellMonth_X7_isMonth : GoodIn wsX7_isWellMonth wsX7_isMonth := goodIn_r _ [9, 10, 2, 3, 4, 5, 11, 12, 13, 14, 15, 16, 17, 18, 19, 20, 21, 22, 23, 24, 25, 26, 27, 28, 29, 30, 31, 32, 33, 34, 35, 36, 37, 38, 39, 40, 41, 42, 43, 44, 45, 46, 47, 48, 49, 50] (by decide +kernel) (by decide +kernel)
set_option maxRecDepth 20000 in
theorem gX7_isWellMonth_X7_isMonth : GoodIn wsX7_isWellMonth (wsV RX7 142 RX7 yX7_isMonth wsX7_isMonth) := goodIn_app (goodIn_of _ (by decide +kernel)) ggX7_isWellMonth_X7_isMonth
theorem dX7_isWellMonth_0 : decode cX7_isWellMonth 0 = .ok (.iload_n 1, 1) := by decide +kernel
theorem dX7_isWellMonth_1 : decode cX7_isWellMonth 1 = .ok (.iconst 0, 1) := by decide +kernel
theorem dX7_isWellMonth_2 : decode cX7_isWellMonth 2 = .ok (.aload_n 0, 1) := by decide +kernel
theorem dX7_isWellMonth_3 : decode cX7_isWellMonth 3 = .ok (.getfield 152, 3) := by decide +kernel
theorem dX7_isWellMonth_6 : decode cX7_isWellMonth 6 = .ok (.iconst 1, 1) := by decide +kernel
theorem dX7_isWellMonth_7 : decode cX7_isWellMonth 7 = .ok (.isub, 1) := by decide +kernel
theorem dX7_isWellMonth_8 : decode cX7_isWellMonth 8 = .ok (.invokestatic 115, 3) := by decide +kernel
theorem dX7_isWellMonth_11 : decode cX7_isWellMonth 11 = .ok (.ifCond .eq 15, 3) := by decide +kernel
theorem dX7_isWellMonth_14 : decode cX7_isWellMonth 14 = .ok (.aload_n 0, 1) := by decide +kernel
theorem dX7_isWellMonth_15 : decode cX7_isWellMonth 15 = .ok (.iload_n 2, 1) := by decide +kernel
theorem dX7_isWellMonth_16 : decode cX7_isWellMonth 16 = .ok (.invokevirtual 142, 3) := by decide +kernel
theorem dX7_isWellMonth_19 : decode cX7_isWellMonth 19 = .ok (.ifCond .eq 7, 3) := by decide +kernel
theorem dX7_isWellMonth_22 : decode cX7_isWellMonth 22 = .ok (.iconst 1, 1) := by decide +kernel
theorem dX7_isWellMonth_23 : decode cX7_isWellMonth 23 = .ok (.goto 4, 3) := by decide +kernel
theorem dX7_isWellMonth_26 : decode cX7_isWellMonth 26 = .ok (.iconst 0, 1) := by decide +kernel
theorem dX7_isWellMonth_27 : decode cX7_isWellMonth 27 = .ok (.ireturn, 1) := by decide +kernel
set_option maxRecDepth 20000 in
theorem ggX7_oil_X7_isWellMonth : GoodIn wsX7_oil wsX7_isWellMonth := goodIn_r _ [9, 10, 11, 12, 8, 13, 14, 15, 16, 17, 18, 24, 25, 26, 27, 28, 29, 30, 31, 32, 33, 34, 35, 36, 37, 38, 39, 40, 41, 42, 43, 44, 45, 46, 47, 48, 49, 50, 51, 52, 53, 54, 55, 56, 57, 58, 59, 60, 61, 62, 63] (by decide +kernel) (by decide +kernel)
set_option maxRecDepth 20000 in
theorem gX7_oil_X7_isWellMonth : GoodIn wsX7_oil (wsV RX7 162 RX7 yX7_isWellMonth wsX7_isWellMonth) := goodIn_app (goodIn_of _ (by decide +kernel)) ggX7_oil_X7_isWellMonth
set_option maxRecDepth 20000 in
theorem ggX7_oil_X7_isBetween : GoodIn wsX7_oil wsX7_isBetween := goodIn_r _ [13] (by decide +kernel) (by decide +kernel)
set_option maxRecDepth 20000 in
theorem gX7_oil_X7_isBetween : GoodIn wsX7_oil (va_wsS RX7 115 yX7_isBetween wsX7_isBetween) := goodIn_app (goodIn_of _ (by decide +kernel)) ggX7_oil_X7_isBetween
set_option maxRecDepth 20000 in
theorem ggX7_oil_X7_goes : GoodIn wsX7_oil wsX7_goes := goodIn_r _ [22, 23, 24, 25, 26, 27, 28, 29, 30, 31, 32, 33, 34, 35, 36, 37, 38, 39, 40, 41, 42, 43, 44, 45, 46, 47, 48, 49, 50, 51, 52, 53, 54, 55, 56, 57, 58, 59, 60, 61, 62, 63] (by decide +kernel) (by decide +kernel)
set_option maxRecDepth 20000 in
theorem gX7_oil_X7_goes : GoodIn wsX7_oil (wsV RX7 128 RX7 yX7_goes wsX7_goes) := goodIn_app (goodIn_of _ (by decide +kernel)) ggX7_oil_X7_goes
theorem dX7_oil_0 : decode cX7_oil 0 = .ok (.aload_n 0, 1) := by decide +kernel
theorem dX7_oil_1 : decode cX7_oil 1 = .ok (.iload_n 1, 1) := by decide +kernel
theorem dX7_oil_2 : decode cX7_oil 2 = .ok (.iload_n 2, 1) := by decide +kernel
theorem dX7_oil_3 : decode cX7_oil 3 = .ok (.invokevirtual 162, 3) := by decide +kernel
theorem dX7_oil_6 : decode cX7_oil 6 = .ok (.istore 5, 2) := by decide +kernel
theorem dX7_oil_8 : decode cX7_oil 8 = .ok (.aload_n 0, 1) := by decide +kernel
theorem dX7_oil_9 : decode cX7_oil 9 = .ok (.iload 5, 2) := by decide +kernel
theorem dX7_oil_11 : decode cX7_oil 11 = .ok (.iload_n 3, 1) := by decide +kernel
theorem dX7_oil_12 : decode cX7_oil 12 = .ok (.iconst 0, 1) := by decide +kernel
theorem dX7_oil_13 : decode cX7_oil 13 = .ok (.sipush 1000, 3) := by decide +kernel
theorem dX7_oil_16 : decode cX7_oil 16 = .ok (.invokestatic 115, 3) := by decide +kernel
theorem dX7_oil_19 : decode cX7_oil 19 = .ok (.ifCond .eq 19, 3) := by decide +kernel
theorem dX7_oil_22 : decode cX7_oil 22 = .ok (.iload 4, 2) := by decide +kernel
theorem dX7_oil_24 : decode cX7_oil 24 = .ok (.iconst 0, 1) := by decide +kernel
theorem dX7_oil_25 : decode cX7_oil 25 = .ok (.sipush 10000, 3) := by decide +kernel
theorem dX7_oil_28 : decode cX7_oil 28 = .ok (.invokestatic 115, 3) := by decide +kernel
theorem dX7_oil_31 : decode cX7_oil 31 = .ok (.ifCond .eq 7, 3) := by decide +kernel
theorem dX7_oil_34 : decode cX7_oil 34 = .ok (.iconst 1, 1) := by decide +kernel
theorem dX7_oil_35 : decode cX7_oil 35 = .ok (.goto 4, 3) := by decide +kernel
theorem dX7_oil_38 : decode cX7_oil 38 = .ok (.iconst 0, 1) := by decide +kernel
theorem dX7_oil_39 : decode cX7_oil 39 = .ok (.iload 5, 2) := by decide +kernel
theorem dX7_oil_41 : decode cX7_oil 41 = .ok (.ifCond .eq 31, 3) := by decide +kernel
theorem dX7_oil_44 : decode cX7_oil 44 = .ok (.aload_n 0, 1) := by decide +kernel
theorem dX7_oil_45 : decode cX7_oil 45 = .ok (.getfield 52, 3) := by decide +kernel
theorem dX7_oil_48 : decode cX7_oil 48 = .ok (.iload 5, 2) := by decide +kernel
theorem dX7_oil_50 : decode cX7_oil 50 = .ok (.ifCond .eq 12, 3) := by decide +kernel
theorem dX7_oil_53 : decode cX7_oil 53 = .ok (.aload_n 0, 1) := by decide +kernel
theorem dX7_oil_54 : decode cX7_oil 54 = .ok (.getfield 55, 3) := by decide +kernel
theorem dX7_oil_57 : decode cX7_oil 57 = .ok (.iload_n 1, 1) := by decide +kernel
theorem dX7_oil_58 : decode cX7_oil 58 = .ok (.iaload, 1) := by decide +kernel
theorem dX7_oil_59 : decode cX7_oil 59 = .ok (.goto 4, 3) := by decide +kernel
theorem dX7_oil_62 : decode cX7_oil 62 = .ok (.iconst 0, 1) := by decide +kernel
theorem dX7_oil_63 : decode cX7_oil 63 = .ok (.iaload, 1) := by decide +kernel
theorem dX7_oil_64 : decode cX7_oil 64 = .ok (.iload_n 2, 1) := by decide +kernel
theorem dX7_oil_65 : decode cX7_oil 65 = .ok (.if_icmp .gt 7, 3) := by decide +kernel
theorem dX7_oil_68 : decode cX7_oil 68 = .ok (.iconst 1, 1) := by decide +kernel
theorem dX7_oil_69 : decode cX7_oil 69 = .ok (.goto 4, 3) := by decide +kernel
theorem dX7_oil_72 : decode cX7_oil 72 = .ok (.iconst 0, 1) := by decide +kernel
theorem dX7_oil_73 : decode cX7_oil 73 = .ok (.invokevirtual 128, 3) := by decide +kernel
theorem dX7_oil_76 : decode cX7_oil 76 = .ok (.ifCond .ne 5, 3) := by decide +kernel
theorem dX7_oil_79 : decode cX7_oil 79 = .ok (.iconst 0, 1) := by decide +kernel
theorem dX7_oil_80 : decode cX7_oil 80 = .ok (.ireturn, 1) := by decide +kernel
theorem dX7_oil_81 : decode cX7_oil 81 = .ok (.aload_n 0, 1) := by decide +kernel
theorem dX7_oil_82 : decode cX7_oil 82 = .ok (.getfield 58, 3) := by decide +kernel
theorem dX7_oil_85 : decode cX7_oil 85 = .ok (.bipush 61, 2) := by decide +kernel
theorem dX7_oil_87 : decode cX7_oil 87 = .ok (.iload_n 1, 1) := by decide +kernel
theorem dX7_oil_88 : decode cX7_oil 88 = .ok (.imul, 1) := by decide +kernel
theorem dX7_oil_89 : decode cX7_oil 89 = .ok (.iload_n 2, 1) := by decide +kernel
theorem dX7_oil_90 : decode cX7_oil 90 = .ok (.iadd, 1) := by decide +kernel
theorem dX7_oil_91 : decode cX7_oil 91 = .ok (.iaload, 1) := by decide +kernel
theorem dX7_oil_92 : decode cX7_oil 92 = .ok (.istore 6, 2) := by decide +kernel
theorem dX7_oil_94 : decode cX7_oil 94 = .ok (.aload_n 0, 1) := by decide +kernel
theorem dX7_oil_95 : decode cX7_oil 95 = .ok (.getfield 58, 3) := by decide +kernel
theorem dX7_oil_98 : decode cX7_oil 98 = .ok (.bipush 61, 2) := by decide +kernel
