theorem dX7_least_22 : decode cX7_least 22 = .ok (.istore_n 2, 1) := by decide +kernel
theorem dX7_least_23 : decode cX7_least 23 = .ok (.aload_n 0, 1) := by decide +kernel
theorem dX7_least_24 : decode cX7_least 24 = .ok (.iload_n 1, 1) := by decide +kernel
theorem dX7_least_25 : decode cX7_least 25 = .ok (.putfield 77, 3) := by decide +kernel
theorem dX7_least_28 : decode cX7_least 28 = .ok (.iload_n 2, 1) := by decide +kernel
theorem dX7_least_29 : decode cX7_least 29 = .ok (.ireturn, 1) := by decide +kernel
set_option maxRecDepth 20000 in
theorem ggX7_owes_X7_settles : GoodIn wsX7_owes wsX7_settles := goodIn_r _ [12, 4, 13, 14, 15, 16, 7, 17, 18, 19, 20, 21, 11, 22, 23, 24, 25, 26, 27, 28, 29, 30, 31, 32, 33, 34, 35, 36, 37, 38, 39, 40, 41, 42, 43, 44, 45, 46, 47, 48, 49, 50, 51, 52, 53, 54, 55, 56, 57, 58, 59, 60, 61, 62, 63, 64, 65, 66, 67, 68, 69, 70, 71, 72, 73, 74, 75, 76, 77, 78, 79, 80, 81, 82, 83, 84, 85, 86, 87, 88, 89, 90, 91, 92, 93, 94, 95, 96, 97, 98, 99, 100, 101, 102, 103, 104, 105, 106, 107, 108, 109, 110, 111, 112, 113, 114, 115, 116, 117, 118, 119, 120, 121, 122, 123, 124, 125, 126, 127, 128, 129, 130, 131, 132, 133] (by decide +kernel) (by decide +kernel)
set_option maxRecDepth 20000 in
theorem gX7_owes_X7_settles : GoodIn wsX7_owes (wsV RX7 210 RX7 yX7_settles wsX7_settles) := goodIn_app (goodIn_of _ (by decide +kernel)) ggX7_owes_X7_settles
theorem dX7_owes_0 : decode cX7_owes 0 = .ok (.iconst 0, 1) := by decide +kernel
theorem dX7_owes_1 : decode cX7_owes 1 = .ok (.istore_n 1, 1) := by decide +kernel
theorem dX7_owes_2 : decode cX7_owes 2 = .ok (.iload_n 1, 1) := by decide +kernel
theorem dX7_owes_3 : decode cX7_owes 3 = .ok (.bipush 10, 2) := by decide +kernel
theorem dX7_owes_5 : decode cX7_owes 5 = .ok (.if_icmp .ge 22, 3) := by decide +kernel
theorem dX7_owes_8 : decode cX7_owes 8 = .ok (.aload_n 0, 1) := by decide +kernel
theorem dX7_owes_9 : decode cX7_owes 9 = .ok (.getfield 109, 3) := by decide +kernel
theorem dX7_owes_12 : decode cX7_owes 12 = .ok (.iload_n 1, 1) := by decide +kernel
theorem dX7_owes_13 : decode cX7_owes 13 = .ok (.aload_n 0, 1) := by decide +kernel
theorem dX7_owes_14 : decode cX7_owes 14 = .ok (.getfield 84, 3) := by decide +kernel
theorem dX7_owes_17 : decode cX7_owes 17 = .ok (.iload_n 1, 1) := by decide +kernel
theorem dX7_owes_18 : decode cX7_owes 18 = .ok (.laload, 1) := by decide +kernel
theorem dX7_owes_19 : decode cX7_owes 19 = .ok (.lneg, 1) := by decide +kernel
theorem dX7_owes_20 : decode cX7_owes 20 = .ok (.lastore, 1) := by decide +kernel
theorem dX7_owes_21 : decode cX7_owes 21 = .ok (.iinc 1 1, 3) := by decide +kernel
theorem dX7_owes_24 : decode cX7_owes 24 = .ok (.goto (-22), 3) := by decide +kernel
theorem dX7_owes_27 : decode cX7_owes 27 = .ok (.iconst 0, 1) := by decide +kernel
theorem dX7_owes_28 : decode cX7_owes 28 = .ok (.istore_n 1, 1) := by decide +kernel
theorem dX7_owes_29 : decode cX7_owes 29 = .ok (.iload_n 1, 1) := by decide +kernel
theorem dX7_owes_30 : decode cX7_owes 30 = .ok (.aload_n 0, 1) := by decide +kernel
theorem dX7_owes_31 : decode cX7_owes 31 = .ok (.getfield 125, 3) := by decide +kernel
theorem dX7_owes_34 : decode cX7_owes 34 = .ok (.if_icmp .ge 86, 3) := by decide +kernel
theorem dX7_owes_37 : decode cX7_owes 37 = .ok (.iconst 0, 1) := by decide +kernel
theorem dX7_owes_38 : decode cX7_owes 38 = .ok (.istore_n 2, 1) := by decide +kernel
theorem dX7_owes_39 : decode cX7_owes 39 = .ok (.iload_n 2, 1) := by decide +kernel
theorem dX7_owes_40 : decode cX7_owes 40 = .ok (.bipush 10, 2) := by decide +kernel
theorem dX7_owes_42 : decode cX7_owes 42 = .ok (.if_icmp .ge 16, 3) := by decide +kernel
theorem dX7_owes_45 : decode cX7_owes 45 = .ok (.aload_n 0, 1) := by decide +kernel
theorem dX7_owes_46 : decode cX7_owes 46 = .ok (.getfield 103, 3) := by decide +kernel
theorem dX7_owes_49 : decode cX7_owes 49 = .ok (.iload_n 2, 1) := by decide +kernel
theorem dX7_owes_50 : decode cX7_owes 50 = .ok (.lconst 0, 1) := by decide +kernel
theorem dX7_owes_51 : decode cX7_owes 51 = .ok (.lastore, 1) := by decide +kernel
theorem dX7_owes_52 : decode cX7_owes 52 = .ok (.iinc 2 1, 3) := by decide +kernel
theorem dX7_owes_55 : decode cX7_owes 55 = .ok (.goto (-16), 3) := by decide +kernel
theorem dX7_owes_58 : decode cX7_owes 58 = .ok (.aload_n 0, 1) := by decide +kernel
theorem dX7_owes_59 : decode cX7_owes 59 = .ok (.getfield 52, 3) := by decide +kernel
theorem dX7_owes_62 : decode cX7_owes 62 = .ok (.iload_n 1, 1) := by decide +kernel
theorem dX7_owes_63 : decode cX7_owes 63 = .ok (.iaload, 1) := by decide +kernel
theorem dX7_owes_64 : decode cX7_owes 64 = .ok (.istore_n 2, 1) := by decide +kernel
theorem dX7_owes_65 : decode cX7_owes 65 = .ok (.iload_n 2, 1) := by decide +kernel
theorem dX7_owes_66 : decode cX7_owes 66 = .ok (.aload_n 0, 1) := by decide +kernel
theorem dX7_owes_67 : decode cX7_owes 67 = .ok (.getfield 122, 3) := by decide +kernel
theorem dX7_owes_70 : decode cX7_owes 70 = .ok (.if_icmp .gt 44, 3) := by decide +kernel
theorem dX7_owes_73 : decode cX7_owes 73 = .ok (.aload_n 0, 1) := by decide +kernel
theorem dX7_owes_74 : decode cX7_owes 74 = .ok (.iload_n 1, 1) := by decide +kernel
theorem dX7_owes_75 : decode cX7_owes 75 = .ok (.iload_n 2, 1) := by decide +kernel
theorem dX7_owes_76 : decode cX7_owes 76 = .ok (.invokevirtual 210, 3) := by decide +kernel
theorem dX7_owes_79 : decode cX7_owes 79 = .ok (.iconst 0, 1) := by decide +kernel
theorem dX7_owes_80 : decode cX7_owes 80 = .ok (.istore_n 3, 1) := by decide +kernel
theorem dX7_owes_81 : decode cX7_owes 81 = .ok (.iload_n 3, 1) := by decide +kernel
theorem dX7_owes_82 : decode cX7_owes 82 = .ok (.bipush 10, 2) := by decide +kernel
theorem dX7_owes_84 : decode cX7_owes 84 = .ok (.if_icmp .ge 24, 3) := by decide +kernel
theorem dX7_owes_87 : decode cX7_owes 87 = .ok (.aload_n 0, 1) := by decide +kernel
theorem dX7_owes_88 : decode cX7_owes 88 = .ok (.getfield 109, 3) := by decide +kernel
theorem dX7_owes_91 : decode cX7_owes 91 = .ok (.iload_n 3, 1) := by decide +kernel
theorem dX7_owes_92 : decode cX7_owes 92 = .ok (.dup2, 1) := by decide +kernel
theorem dX7_owes_93 : decode cX7_owes 93 = .ok (.laload, 1) := by decide +kernel
theorem dX7_owes_94 : decode cX7_owes 94 = .ok (.aload_n 0, 1) := by decide +kernel
theorem dX7_owes_95 : decode cX7_owes 95 = .ok (.getfield 106, 3) := by decide +kernel
theorem dX7_owes_98 : decode cX7_owes 98 = .ok (.iload_n 3, 1) := by decide +kernel
theorem dX7_owes_99 : decode cX7_owes 99 = .ok (.laload, 1) := by decide +kernel
theorem dX7_owes_100 : decode cX7_owes 100 = .ok (.ladd, 1) := by decide +kernel
theorem dX7_owes_101 : decode cX7_owes 101 = .ok (.lastore, 1) := by decide +kernel
theorem dX7_owes_102 : decode cX7_owes 102 = .ok (.iinc 3 1, 3) := by decide +kernel
theorem dX7_owes_105 : decode cX7_owes 105 = .ok (.goto (-24), 3) := by decide +kernel
theorem dX7_owes_108 : decode cX7_owes 108 = .ok (.iinc 2 1, 3) := by decide +kernel
theorem dX7_owes_111 : decode cX7_owes 111 = .ok (.goto (-46), 3) := by decide +kernel
theorem dX7_owes_114 : decode cX7_owes 114 = .ok (.iinc 1 1, 3) := by decide +kernel
theorem dX7_owes_117 : decode cX7_owes 117 = .ok (.goto (-88), 3) := by decide +kernel
theorem dX7_owes_120 : decode cX7_owes 120 = .ok (.return_, 1) := by decide +kernel
set_option maxRecDepth 20000 in
theorem ggX7_payDay_X7_owes : GoodIn wsX7_payDay wsX7_owes := goodIn_r _ [10, 2, 5, 11, 12, 13, 14, 15, 16, 17, 18, 9, 19, 20, 21, 22, 23, 24, 25, 26, 27, 28, 29, 30, 31, 32, 33, 34, 35, 36, 37, 38, 39, 40, 41, 42, 43, 44, 45, 46, 47, 48, 49, 50, 51, 52, 53, 54, 55, 56, 57, 58, 59, 60, 61, 62, 63, 64, 65, 66, 67, 68, 69, 70, 71, 72, 73, 74, 75, 76, 77, 78, 79, 80, 81, 82, 83, 84, 85, 86, 87, 88, 89, 90, 91, 92, 93, 94, 95, 96, 97, 98, 99, 100, 101, 102, 103, 104, 105, 106, 107, 108, 109, 110, 111, 112, 113, 114, 115, 116, 117, 118, 119, 120, 121, 122, 123, 124, 125, 126, 127, 128, 129, 130, 131, 132, 133, 134, 135, 136, 137, 138, 139, 140] (by decide +kernel) (by decide +kernel)
set_option maxRecDepth 20000 in
theorem gX7_payDay_X7_owes : GoodIn wsX7_payDay (wsV RX7 217 RX7 yX7_owes wsX7_owes) := goodIn_app (goodIn_of _ (by decide +kernel)) ggX7_payDay_X7_owes
theorem dX7_payDay_0 : decode cX7_payDay 0 = .ok (.aload_n 0, 1) := by decide +kernel
theorem dX7_payDay_1 : decode cX7_payDay 1 = .ok (.iconst 0, 1) := by decide +kernel
theorem dX7_payDay_2 : decode cX7_payDay 2 = .ok (.putfield 112, 3) := by decide +kernel
theorem dX7_payDay_5 : decode cX7_payDay 5 = .ok (.lconst 0, 1) := by decide +kernel
theorem dX7_payDay_6 : decode cX7_payDay 6 = .ok (.lstore_n 1, 1) := by decide +kernel
theorem dX7_payDay_7 : decode cX7_payDay 7 = .ok (.aload_n 0, 1) := by decide +kernel
theorem dX7_payDay_8 : decode cX7_payDay 8 = .ok (.invokevirtual 217, 3) := by decide +kernel
theorem dX7_payDay_11 : decode cX7_payDay 11 = .ok (.iconst 0, 1) := by decide +kernel
theorem dX7_payDay_12 : decode cX7_payDay 12 = .ok (.istore_n 3, 1) := by decide +kernel
theorem dX7_payDay_13 : decode cX7_payDay 13 = .ok (.iload_n 3, 1) := by decide +kernel
theorem dX7_payDay_14 : decode cX7_payDay 14 = .ok (.bipush 10, 2) := by decide +kernel
theorem dX7_payDay_16 : decode cX7_payDay 16 = .ok (.if_icmp .ge 53, 3) := by decide +kernel
theorem dX7_payDay_19 : decode cX7_payDay 19 = .ok (.aload_n 0, 1) := by decide +kernel
theorem dX7_payDay_20 : decode cX7_payDay 20 = .ok (.getfield 109, 3) := by decide +kernel
theorem dX7_payDay_23 : decode cX7_payDay 23 = .ok (.iload_n 3, 1) := by decide +kernel
theorem dX7_payDay_24 : decode cX7_payDay 24 = .ok (.laload, 1) := by decide +kernel
theorem dX7_payDay_25 : decode cX7_payDay 25 = .ok (.lstore 4, 2) := by decide +kernel
theorem dX7_payDay_27 : decode cX7_payDay 27 = .ok (.aload_n 0, 1) := by decide +kernel
theorem dX7_payDay_28 : decode cX7_payDay 28 = .ok (.getfield 80, 3) := by decide +kernel
theorem dX7_payDay_31 : decode cX7_payDay 31 = .ok (.iload_n 3, 1) := by decide +kernel
theorem dX7_payDay_32 : decode cX7_payDay 32 = .ok (.baload, 1) := by decide +kernel
theorem dX7_payDay_33 : decode cX7_payDay 33 = .ok (.ifCond .ne 30, 3) := by decide +kernel
theorem dX7_payDay_36 : decode cX7_payDay 36 = .ok (.lload 4, 2) := by decide +kernel
theorem dX7_payDay_38 : decode cX7_payDay 38 = .ok (.aload_n 0, 1) := by decide +kernel
theorem dX7_payDay_39 : decode cX7_payDay 39 = .ok (.getfield 77, 3) := by decide +kernel
theorem dX7_payDay_42 : decode cX7_payDay 42 = .ok (.i2l, 1) := by decide +kernel
theorem dX7_payDay_43 : decode cX7_payDay 43 = .ok (.lcmp, 1) := by decide +kernel
theorem dX7_payDay_44 : decode cX7_payDay 44 = .ok (.ifCond .lt 19, 3) := by decide +kernel
theorem dX7_payDay_47 : decode cX7_payDay 47 = .ok (.aload_n 0, 1) := by decide +kernel
theorem dX7_payDay_48 : decode cX7_payDay 48 = .ok (.getfield 84, 3) := by decide +kernel
theorem dX7_payDay_51 : decode cX7_payDay 51 = .ok (.iload_n 3, 1) := by decide +kernel
theorem dX7_payDay_52 : decode cX7_payDay 52 = .ok (.dup2, 1) := by decide +kernel
theorem dX7_payDay_53 : decode cX7_payDay 53 = .ok (.laload, 1) := by decide +kernel
theorem dX7_payDay_54 : decode cX7_payDay 54 = .ok (.lload 4, 2) := by decide +kernel
theorem dX7_payDay_56 : decode cX7_payDay 56 = .ok (.ladd, 1) := by decide +kernel
theorem dX7_payDay_57 : decode cX7_payDay 57 = .ok (.lastore, 1) := by decide +kernel
theorem dX7_payDay_58 : decode cX7_payDay 58 = .ok (.lload_n 1, 1) := by decide +kernel
theorem dX7_payDay_59 : decode cX7_payDay 59 = .ok (.lload 4, 2) := by decide +kernel
theorem dX7_payDay_61 : decode cX7_payDay 61 = .ok (.ladd, 1) := by decide +kernel
theorem dX7_payDay_62 : decode cX7_payDay 62 = .ok (.lstore_n 1, 1) := by decide +kernel
theorem dX7_payDay_63 : decode cX7_payDay 63 = .ok (.iinc 3 1, 3) := by decide +kernel
theorem dX7_payDay_66 : decode cX7_payDay 66 = .ok (.goto (-53), 3) := by decide +kernel
theorem dX7_payDay_69 : decode cX7_payDay 69 = .ok (.lload_n 1, 1) := by decide +kernel
theorem dX7_payDay_70 : decode cX7_payDay 70 = .ok (.lreturn, 1) := by decide +kernel
set_option maxRecDepth 20000 in
theorem ggX7_owed_X7_isOwner : GoodIn wsX7_owed wsX7_isOwner := goodIn_r _ [5, 6, 7, 4, 8] (by decide +kernel) (by decide +kernel)
set_option maxRecDepth 20000 in
theorem gX7_owed_X7_isOwner : GoodIn wsX7_owed (va_wsS RX7 132 yX7_isOwner wsX7_isOwner) := goodIn_app (goodIn_of _ (by decide +kernel)) ggX7_owed_X7_isOwner
set_option maxRecDepth 20000 in
theorem ggX7_owed_X7_goes : GoodIn wsX7_owed wsX7_goes := goodIn_r _ [12, 13, 109, 110, 111, 112, 113, 114, 115, 116, 117, 118, 119, 120, 121, 122, 123, 124, 125, 126, 127, 128, 129, 130, 131, 132, 133, 134, 135, 136, 137, 138, 139, 140, 141, 142, 143, 144, 145, 146, 147, 148] (by decide +kernel) (by decide +kernel)
set_option maxRecDepth 20000 in
theorem gX7_owed_X7_goes : GoodIn wsX7_owed (wsV RX7 128 RX7 yX7_goes wsX7_goes) := goodIn_app (goodIn_of _ (by decide +kernel)) ggX7_owed_X7_goes
set_option maxRecDepth 20000 in
theorem ggX7_owed_X7_owes : GoodIn wsX7_owed wsX7_owes := goodIn_r _ [17, 1, 18, 19, 20, 21, 22, 23, 24, 25, 26, 4, 27, 28, 29, 30, 31, 32, 33, 34, 35, 36, 37, 38, 39, 40, 41, 42, 43, 44, 45, 46, 47, 48, 49, 50, 51, 52, 53, 54, 55, 56, 57, 58, 59, 60, 61, 62, 63, 64, 65, 66, 67, 68, 69, 70, 71, 72, 73, 74, 75, 76, 77, 78, 79, 80, 81, 82, 83, 84, 85, 86, 87, 88, 89, 90, 91, 92, 93, 94, 95, 96, 97, 98, 99, 100, 101, 102, 103, 104, 105, 106, 107, 108, 109, 110, 111, 112, 113, 114, 115, 116, 117, 118, 119, 120, 121, 122, 123, 124, 125, 126, 127, 128, 129, 130, 131, 132, 133, 134, 135, 136, 137, 138, 139, 140, 141, 142, 143, 144, 145, 146, 147, 148] (by decide +kernel) (by decide +kernel)
set_option maxRecDepth 20000 in
theorem gX7_owed_X7_owes : GoodIn wsX7_owed (wsV RX7 217 RX7 yX7_owes wsX7_owes) := goodIn_app (goodIn_of _ (by decide +kernel)) ggX7_owed_X7_owes
theorem dX7_owed_0 : decode cX7_owed 0 = .ok (.aload_n 0, 1) := by decide +kernel
theorem dX7_owed_1 : decode cX7_owed 1 = .ok (.iload_n 1, 1) := by decide +kernel
theorem dX7_owed_2 : decode cX7_owed 2 = .ok (.invokestatic 132, 3) := by decide +kernel
theorem dX7_owed_5 : decode cX7_owed 5 = .ok (.iconst 1, 1) := by decide +kernel
theorem dX7_owed_6 : decode cX7_owed 6 = .ok (.iconst 1, 1) := by decide +kernel
theorem dX7_owed_7 : decode cX7_owed 7 = .ok (.invokevirtual 128, 3) := by decide +kernel
theorem dX7_owed_10 : decode cX7_owed 10 = .ok (.ifCond .ne 5, 3) := by decide +kernel
theorem dX7_owed_13 : decode cX7_owed 13 = .ok (.lconst 0, 1) := by decide +kernel
theorem dX7_owed_14 : decode cX7_owed 14 = .ok (.lreturn, 1) := by decide +kernel
theorem dX7_owed_15 : decode cX7_owed 15 = .ok (.aload_n 0, 1) := by decide +kernel
theorem dX7_owed_16 : decode cX7_owed 16 = .ok (.invokevirtual 217, 3) := by decide +kernel
theorem dX7_owed_19 : decode cX7_owed 19 = .ok (.aload_n 0, 1) := by decide +kernel
theorem dX7_owed_20 : decode cX7_owed 20 = .ok (.getfield 109, 3) := by decide +kernel
theorem dX7_owed_23 : decode cX7_owed 23 = .ok (.iload_n 1, 1) := by decide +kernel
theorem dX7_owed_24 : decode cX7_owed 24 = .ok (.laload, 1) := by decide +kernel
theorem dX7_owed_25 : decode cX7_owed 25 = .ok (.lreturn, 1) := by decide +kernel
set_option maxRecDepth 20000 in
theorem ggX7_paid_X7_isOwner : GoodIn wsX7_paid wsX7_isOwner := goodIn_r _ [5, 6, 7, 4, 8] (by decide +kernel) (by decide +kernel)
set_option maxRecDepth 20000 in
theorem gX7_paid_X7_isOwner : GoodIn wsX7_paid (va_wsS RX7 132 yX7_isOwner wsX7_isOwner) := goodIn_app (goodIn_of _ (by decide +kernel)) ggX7_paid_X7_isOwner
set_option maxRecDepth 20000 in
theorem ggX7_paid_X7_goes : GoodIn wsX7_paid wsX7_goes := goodIn_r _ [12, 13, 14, 15, 16, 17, 18, 19, 20, 21, 22, 23, 24, 25, 26, 27, 28, 29, 30, 31, 32, 33, 34, 35, 36, 37, 38, 39, 40, 41, 42, 43, 44, 45, 46, 47, 48, 49, 50, 51, 52, 53] (by decide +kernel) (by decide +kernel)
set_option maxRecDepth 20000 in
theorem gX7_paid_X7_goes : GoodIn wsX7_paid (wsV RX7 128 RX7 yX7_goes wsX7_goes) := goodIn_app (goodIn_of _ (by decide +kernel)) ggX7_paid_X7_goes
theorem dX7_paid_0 : decode cX7_paid 0 = .ok (.aload_n 0, 1) := by decide +kernel
theorem dX7_paid_1 : decode cX7_paid 1 = .ok (.iload_n 1, 1) := by decide +kernel
theorem dX7_paid_2 : decode cX7_paid 2 = .ok (.invokestatic 132, 3) := by decide +kernel
theorem dX7_paid_5 : decode cX7_paid 5 = .ok (.iconst 1, 1) := by decide +kernel
theorem dX7_paid_6 : decode cX7_paid 6 = .ok (.iconst 1, 1) := by decide +kernel
theorem dX7_paid_7 : decode cX7_paid 7 = .ok (.invokevirtual 128, 3) := by decide +kernel
theorem dX7_paid_10 : decode cX7_paid 10 = .ok (.ifCond .ne 5, 3) := by decide +kernel
theorem dX7_paid_13 : decode cX7_paid 13 = .ok (.lconst 0, 1) := by decide +kernel
theorem dX7_paid_14 : decode cX7_paid 14 = .ok (.lreturn, 1) := by decide +kernel
theorem dX7_paid_15 : decode cX7_paid 15 = .ok (.aload_n 0, 1) := by decide +kernel
theorem dX7_paid_16 : decode cX7_paid 16 = .ok (.getfield 84, 3) := by decide +kernel
theorem dX7_paid_19 : decode cX7_paid 19 = .ok (.iload_n 1, 1) := by decide +kernel
theorem dX7_paid_20 : decode cX7_paid 20 = .ok (.laload, 1) := by decide +kernel
theorem dX7_paid_21 : decode cX7_paid 21 = .ok (.lreturn, 1) := by decide +kernel
theorem dJ9_min_7cf53_0 : decode cJ9_min_7cf53 0 = .ok (.iload_n 0, 1) := by decide +kernel
theorem dJ9_min_7cf53_1 : decode cJ9_min_7cf53 1 = .ok (.iload_n 1, 1) := by decide +kernel
theorem dJ9_min_7cf53_2 : decode cJ9_min_7cf53 2 = .ok (.if_icmp .gt 7, 3) := by decide +kernel
theorem dJ9_min_7cf53_5 : decode cJ9_min_7cf53 5 = .ok (.iload_n 0, 1) := by decide +kernel
theorem dJ9_min_7cf53_6 : decode cJ9_min_7cf53 6 = .ok (.goto 4, 3) := by decide +kernel
theorem dJ9_min_7cf53_9 : decode cJ9_min_7cf53 9 = .ok (.iload_n 1, 1) := by decide +kernel
theorem dJ9_min_7cf53_10 : decode cJ9_min_7cf53 10 = .ok (.ireturn, 1) := by decide +kernel
theorem dJ9_min_f86c9_0 : decode cJ9_min_f86c9 0 = .ok (.lload_n 0, 1) := by decide +kernel
theorem dJ9_min_f86c9_1 : decode cJ9_min_f86c9 1 = .ok (.lload_n 2, 1) := by decide +kernel
theorem dJ9_min_f86c9_2 : decode cJ9_min_f86c9 2 = .ok (.lcmp, 1) := by decide +kernel
theorem dJ9_min_f86c9_3 : decode cJ9_min_f86c9 3 = .ok (.ifCond .gt 7, 3) := by decide +kernel
theorem dJ9_min_f86c9_6 : decode cJ9_min_f86c9 6 = .ok (.lload_n 0, 1) := by decide +kernel
theorem dJ9_min_f86c9_7 : decode cJ9_min_f86c9 7 = .ok (.goto 4, 3) := by decide +kernel
theorem dJ9_min_f86c9_10 : decode cJ9_min_f86c9 10 = .ok (.lload_n 2, 1) := by decide +kernel
theorem dJ9_min_f86c9_11 : decode cJ9_min_f86c9 11 = .ok (.lreturn, 1) := by decide +kernel
set_option maxRecDepth 20000 in
theorem ggL_pass_X6_pass : GoodIn wsL_pass wsX6_pass := goodIn_ca (goodIn_ca (goodIn_r _ [7, 8, 9, 10, 11, 12, 13, 14, 15, 16, 17, 18, 19, 20, 21, 22, 23, 24, 25, 26, 27, 28, 29, 30, 31, 32] (by decide +kernel) (by decide +kernel)) (goodIn_sub (fun _ h => List.mem_cons_of_mem _ (List.mem_append_left _ (List.mem_append_right _ h))) (by decide +kernel))) (goodIn_sub (fun _ h => List.mem_cons_of_mem _ (List.mem_append_right _ h)) (by decide +kernel))
set_option maxRecDepth 20000 in
theorem gL_pass_X6_pass : GoodIn wsL_pass (wsV RL 7 RX6 yX6_pass wsX6_pass) := goodIn_app (goodIn_of _ (by decide +kernel)) ggL_pass_X6_pass
theorem dL_pass_0 : decode cL_pass 0 = .ok (.aload_n 2, 1) := by decide +kernel
theorem dL_pass_1 : decode cL_pass 1 = .ok (.iconst 0, 1) := by decide +kernel
theorem dL_pass_2 : decode cL_pass 2 = .ok (.aload_n 0, 1) := by decide +kernel
theorem dL_pass_3 : decode cL_pass 3 = .ok (.iload_n 1, 1) := by decide +kernel
theorem dL_pass_4 : decode cL_pass 4 = .ok (.invokevirtual 7, 3) := by decide +kernel
theorem dL_pass_7 : decode cL_pass 7 = .ok (.i2l, 1) := by decide +kernel
theorem dL_pass_8 : decode cL_pass 8 = .ok (.lastore, 1) := by decide +kernel
theorem dL_pass_9 : decode cL_pass 9 = .ok (.goto 9, 3) := by decide +kernel
theorem dL_pass_12 : decode cL_pass 12 = .ok (.astore_n 3, 1) := by decide +kernel
theorem dL_pass_13 : decode cL_pass 13 = .ok (.iconst 1, 1) := by decide +kernel
theorem dL_pass_14 : decode cL_pass 14 = .ok (.ireturn, 1) := by decide +kernel
theorem dL_pass_15 : decode cL_pass 15 = .ok (.astore_n 3, 1) := by decide +kernel
theorem dL_pass_16 : decode cL_pass 16 = .ok (.iconst 2, 1) := by decide +kernel
theorem dL_pass_17 : decode cL_pass 17 = .ok (.ireturn, 1) := by decide +kernel
theorem dL_pass_18 : decode cL_pass 18 = .ok (.iconst 0, 1) := by decide +kernel
theorem dL_pass_19 : decode cL_pass 19 = .ok (.ireturn, 1) := by decide +kernel
set_option maxRecDepth 20000 in
theorem ggL_tract_X6_tract : GoodIn wsL_tract wsX6_tract := goodIn_ca (goodIn_ca (goodIn_ca (goodIn_r _ [8, 9, 10, 11, 12, 13, 14, 15, 16, 17, 18, 19, 20, 21, 7, 22, 23, 24, 25, 26, 27, 28, 29, 30, 31, 32, 33, 34, 35, 36, 37, 38, 39, 40, 41, 42, 43, 44, 45, 46, 47, 48, 49, 50, 51, 52, 53, 54] (by decide +kernel) (by decide +kernel)) (goodIn_sub (fun _ h => List.mem_cons_of_mem _ (List.mem_append_left _ (List.mem_append_left _ (List.mem_append_right _ h)))) (by decide +kernel))) (goodIn_sub (fun _ h => List.mem_cons_of_mem _ (List.mem_append_left _ (List.mem_append_right _ h))) (by decide +kernel))) (goodIn_sub (fun _ h => List.mem_cons_of_mem _ (List.mem_append_right _ h)) (by decide +kernel))
set_option maxRecDepth 20000 in
theorem gL_tract_X6_tract : GoodIn wsL_tract (wsV RL 17 RX6 yX6_tract wsX6_tract) := goodIn_app (goodIn_of _ (by decide +kernel)) ggL_tract_X6_tract
theorem dL_tract_0 : decode cL_tract 0 = .ok (.aload_n 3, 1) := by decide +kernel
theorem dL_tract_1 : decode cL_tract 1 = .ok (.iconst 0, 1) := by decide +kernel
theorem dL_tract_2 : decode cL_tract 2 = .ok (.aload_n 0, 1) := by decide +kernel
theorem dL_tract_3 : decode cL_tract 3 = .ok (.iload_n 1, 1) := by decide +kernel
theorem dL_tract_4 : decode cL_tract 4 = .ok (.iload_n 2, 1) := by decide +kernel
theorem dL_tract_5 : decode cL_tract 5 = .ok (.invokevirtual 17, 3) := by decide +kernel
theorem dL_tract_8 : decode cL_tract 8 = .ok (.i2l, 1) := by decide +kernel
theorem dL_tract_9 : decode cL_tract 9 = .ok (.lastore, 1) := by decide +kernel
theorem dL_tract_10 : decode cL_tract 10 = .ok (.goto 15, 3) := by decide +kernel
theorem dL_tract_13 : decode cL_tract 13 = .ok (.astore 4, 2) := by decide +kernel
theorem dL_tract_15 : decode cL_tract 15 = .ok (.iconst 1, 1) := by decide +kernel
theorem dL_tract_16 : decode cL_tract 16 = .ok (.ireturn, 1) := by decide +kernel
theorem dL_tract_17 : decode cL_tract 17 = .ok (.astore 4, 2) := by decide +kernel
theorem dL_tract_19 : decode cL_tract 19 = .ok (.iconst 2, 1) := by decide +kernel
theorem dL_tract_20 : decode cL_tract 20 = .ok (.ireturn, 1) := by decide +kernel
theorem dL_tract_21 : decode cL_tract 21 = .ok (.astore 4, 2) := by decide +kernel
theorem dL_tract_23 : decode cL_tract 23 = .ok (.iconst 3, 1) := by decide +kernel
theorem dL_tract_24 : decode cL_tract 24 = .ok (.ireturn, 1) := by decide +kernel
theorem dL_tract_25 : decode cL_tract 25 = .ok (.iconst 0, 1) := by decide +kernel
theorem dL_tract_26 : decode cL_tract 26 = .ok (.ireturn, 1) := by decide +kernel
set_option maxRecDepth 20000 in
theorem ggL_deed_X6_deed : GoodIn wsL_deed wsX6_deed := goodIn_ca (goodIn_ca (goodIn_ca (goodIn_r _ [8, 9, 10, 11, 12, 13, 14, 15, 16, 17, 18, 19, 20, 21, 22, 23, 7, 24, 25, 26, 27, 28, 29, 30, 31, 32, 33, 34, 35, 36, 37, 38, 39, 40, 41, 42, 43, 44, 45, 46, 47, 48, 49, 50, 51, 52, 53, 54, 55, 56, 57, 58, 59, 60, 61, 62, 63, 64, 65, 66, 67, 68, 69, 70, 71, 72, 73, 74, 75, 76, 77, 78, 79, 80, 81, 82, 83, 84, 85, 86, 87, 88, 89, 90, 91, 92, 93, 94] (by decide +kernel) (by decide +kernel)) (goodIn_sub (fun _ h => List.mem_cons_of_mem _ (List.mem_append_left _ (List.mem_append_left _ (List.mem_append_right _ h)))) (by decide +kernel))) (goodIn_sub (fun _ h => List.mem_cons_of_mem _ (List.mem_append_left _ (List.mem_append_right _ h))) (by decide +kernel))) (goodIn_sub (fun _ h => List.mem_cons_of_mem _ (List.mem_append_right _ h)) (by decide +kernel))
set_option maxRecDepth 20000 in
theorem gL_deed_X6_deed : GoodIn wsL_deed (wsV RL 23 RX6 yX6_deed wsX6_deed) := goodIn_app (goodIn_of _ (by decide +kernel)) ggL_deed_X6_deed
theorem dL_deed_0 : decode cL_deed 0 = .ok (.aload 6, 2) := by decide +kernel
theorem dL_deed_2 : decode cL_deed 2 = .ok (.iconst 0, 1) := by decide +kernel
theorem dL_deed_3 : decode cL_deed 3 = .ok (.aload_n 0, 1) := by decide +kernel
theorem dL_deed_4 : decode cL_deed 4 = .ok (.iload_n 1, 1) := by decide +kernel
theorem dL_deed_5 : decode cL_deed 5 = .ok (.iload_n 2, 1) := by decide +kernel
theorem dL_deed_6 : decode cL_deed 6 = .ok (.iload_n 3, 1) := by decide +kernel
theorem dL_deed_7 : decode cL_deed 7 = .ok (.iload 4, 2) := by decide +kernel
theorem dL_deed_9 : decode cL_deed 9 = .ok (.iload 5, 2) := by decide +kernel
theorem dL_deed_11 : decode cL_deed 11 = .ok (.invokevirtual 23, 3) := by decide +kernel
theorem dL_deed_14 : decode cL_deed 14 = .ok (.i2l, 1) := by decide +kernel
theorem dL_deed_15 : decode cL_deed 15 = .ok (.lastore, 1) := by decide +kernel
theorem dL_deed_16 : decode cL_deed 16 = .ok (.goto 15, 3) := by decide +kernel
theorem dL_deed_19 : decode cL_deed 19 = .ok (.astore 7, 2) := by decide +kernel
theorem dL_deed_21 : decode cL_deed 21 = .ok (.iconst 1, 1) := by decide +kernel
theorem dL_deed_22 : decode cL_deed 22 = .ok (.ireturn, 1) := by decide +kernel
theorem dL_deed_23 : decode cL_deed 23 = .ok (.astore 7, 2) := by decide +kernel
theorem dL_deed_25 : decode cL_deed 25 = .ok (.iconst 2, 1) := by decide +kernel
theorem dL_deed_26 : decode cL_deed 26 = .ok (.ireturn, 1) := by decide +kernel
theorem dL_deed_27 : decode cL_deed 27 = .ok (.astore 7, 2) := by decide +kernel
theorem dL_deed_29 : decode cL_deed 29 = .ok (.iconst 3, 1) := by decide +kernel
theorem dL_deed_30 : decode cL_deed 30 = .ok (.ireturn, 1) := by decide +kernel
theorem dL_deed_31 : decode cL_deed 31 = .ok (.iconst 0, 1) := by decide +kernel
theorem dL_deed_32 : decode cL_deed 32 = .ok (.ireturn, 1) := by decide +kernel
set_option maxRecDepth 20000 in
theorem ggL_title_X6_title : GoodIn wsL_title wsX6_title := goodIn_ca (goodIn_r _ [6, 7, 8, 9, 10, 11, 5, 12, 13, 14, 15, 16, 17, 18, 19, 20, 21, 22, 23, 24, 25, 26, 27, 28, 29, 30, 31, 32, 33, 34, 35, 36, 37, 38, 39, 40, 41, 42, 43, 44, 45, 46, 47, 48, 49, 50, 51, 52, 53, 54, 55, 56, 57, 58, 59, 60] (by decide +kernel) (by decide +kernel)) (goodIn_sub (fun _ h => List.mem_cons_of_mem _ (List.mem_append_right _ h)) (by decide +kernel))
set_option maxRecDepth 20000 in
theorem gL_title_X6_title : GoodIn wsL_title (wsV RL 27 RX6 yX6_title wsX6_title) := goodIn_app (goodIn_of _ (by decide +kernel)) ggL_title_X6_title
theorem dL_title_0 : decode cL_title 0 = .ok (.aload 4, 2) := by decide +kernel
theorem dL_title_2 : decode cL_title 2 = .ok (.iconst 0, 1) := by decide +kernel
theorem dL_title_3 : decode cL_title 3 = .ok (.aload_n 0, 1) := by decide +kernel
theorem dL_title_4 : decode cL_title 4 = .ok (.iload_n 1, 1) := by decide +kernel
theorem dL_title_5 : decode cL_title 5 = .ok (.iload_n 2, 1) := by decide +kernel
theorem dL_title_6 : decode cL_title 6 = .ok (.iload_n 3, 1) := by decide +kernel
theorem dL_title_7 : decode cL_title 7 = .ok (.invokevirtual 27, 3) := by decide +kernel
theorem dL_title_10 : decode cL_title 10 = .ok (.i2l, 1) := by decide +kernel
theorem dL_title_11 : decode cL_title 11 = .ok (.lastore, 1) := by decide +kernel
theorem dL_title_12 : decode cL_title 12 = .ok (.goto 7, 3) := by decide +kernel
theorem dL_title_15 : decode cL_title 15 = .ok (.astore 5, 2) := by decide +kernel
theorem dL_title_17 : decode cL_title 17 = .ok (.iconst 1, 1) := by decide +kernel
theorem dL_title_18 : decode cL_title 18 = .ok (.ireturn, 1) := by decide +kernel
theorem dL_title_19 : decode cL_title 19 = .ok (.iconst 0, 1) := by decide +kernel
theorem dL_title_20 : decode cL_title 20 = .ok (.ireturn, 1) := by decide +kernel
set_option maxRecDepth 20000 in
theorem ggL_lease_X6_lease : GoodIn wsL_lease wsX6_lease := goodIn_ca (goodIn_ca (goodIn_ca (goodIn_r _ [8, 9, 10, 11, 12, 13, 14, 15, 16, 17, 18, 19, 20, 21, 22, 23, 24, 25, 7, 26, 27, 28, 29, 30, 31, 32, 33, 34, 35, 36, 37, 38, 39, 40, 41, 42, 43, 44, 45, 46, 47, 48, 49, 50, 51, 52, 53, 54, 55, 56, 57, 58, 59, 60, 61, 62, 63, 64, 65, 66, 67, 68, 69, 70, 71, 72, 73, 74, 75, 76, 77] (by decide +kernel) (by decide +kernel)) (goodIn_sub (fun _ h => List.mem_cons_of_mem _ (List.mem_append_left _ (List.mem_append_left _ (List.mem_append_right _ h)))) (by decide +kernel))) (goodIn_sub (fun _ h => List.mem_cons_of_mem _ (List.mem_append_left _ (List.mem_append_right _ h))) (by decide +kernel))) (goodIn_sub (fun _ h => List.mem_cons_of_mem _ (List.mem_append_right _ h)) (by decide +kernel))
set_option maxRecDepth 20000 in
theorem gL_lease_X6_lease : GoodIn wsL_lease (wsV RL 31 RX6 yX6_lease wsX6_lease) := goodIn_app (goodIn_of _ (by decide +kernel)) ggL_lease_X6_lease
theorem dL_lease_0 : decode cL_lease 0 = .ok (.aload 6, 2) := by decide +kernel
theorem dL_lease_2 : decode cL_lease 2 = .ok (.iconst 0, 1) := by decide +kernel
theorem dL_lease_3 : decode cL_lease 3 = .ok (.aload_n 0, 1) := by decide +kernel
theorem dL_lease_4 : decode cL_lease 4 = .ok (.iload_n 1, 1) := by decide +kernel
theorem dL_lease_5 : decode cL_lease 5 = .ok (.iload_n 2, 1) := by decide +kernel
theorem dL_lease_6 : decode cL_lease 6 = .ok (.iload_n 3, 1) := by decide +kernel
theorem dL_lease_7 : decode cL_lease 7 = .ok (.iload 4, 2) := by decide +kernel
theorem dL_lease_9 : decode cL_lease 9 = .ok (.iload 5, 2) := by decide +kernel
theorem dL_lease_11 : decode cL_lease 11 = .ok (.invokevirtual 31, 3) := by decide +kernel
theorem dL_lease_14 : decode cL_lease 14 = .ok (.i2l, 1) := by decide +kernel
theorem dL_lease_15 : decode cL_lease 15 = .ok (.lastore, 1) := by decide +kernel
theorem dL_lease_16 : decode cL_lease 16 = .ok (.goto 15, 3) := by decide +kernel
theorem dL_lease_19 : decode cL_lease 19 = .ok (.astore 7, 2) := by decide +kernel
theorem dL_lease_21 : decode cL_lease 21 = .ok (.iconst 1, 1) := by decide +kernel
theorem dL_lease_22 : decode cL_lease 22 = .ok (.ireturn, 1) := by decide +kernel
theorem dL_lease_23 : decode cL_lease 23 = .ok (.astore 7, 2) := by decide +kernel
theorem dL_lease_25 : decode cL_lease 25 = .ok (.iconst 2, 1) := by decide +kernel
theorem dL_lease_26 : decode cL_lease 26 = .ok (.ireturn, 1) := by decide +kernel
theorem dL_lease_27 : decode cL_lease 27 = .ok (.astore 7, 2) := by decide +kernel
theorem dL_lease_29 : decode cL_lease 29 = .ok (.iconst 3, 1) := by decide +kernel
theorem dL_lease_30 : decode cL_lease 30 = .ok (.ireturn, 1) := by decide +kernel
theorem dL_lease_31 : decode cL_lease 31 = .ok (.iconst 0, 1) := by decide +kernel
theorem dL_lease_32 : decode cL_lease 32 = .ok (.ireturn, 1) := by decide +kernel
set_option maxRecDepth 20000 in
theorem ggL_isHeld_X6_isHeld : GoodIn wsL_isHeld wsX6_isHeld := goodIn_ca (goodIn_r _ [6, 7, 8, 9, 10, 11, 12, 5, 13, 14, 15, 16, 17, 18, 19, 20, 21, 22, 23, 24, 25, 26, 27, 28, 29, 30, 31, 32, 33, 34, 35, 36, 37, 38, 39, 40, 41, 42, 43, 44, 45, 46, 47, 48, 49, 50, 51, 52, 53, 54, 55, 56, 57, 58, 59, 60] (by decide +kernel) (by decide +kernel)) (goodIn_sub (fun _ h => List.mem_cons_of_mem _ (List.mem_append_right _ h)) (by decide +kernel))
set_option maxRecDepth 20000 in
theorem gL_isHeld_X6_isHeld : GoodIn wsL_isHeld (wsV RL 34 RX6 yX6_isHeld wsX6_isHeld) := goodIn_app (goodIn_of _ (by decide +kernel)) ggL_isHeld_X6_isHeld
theorem dL_isHeld_0 : decode cL_isHeld 0 = .ok (.aload_n 3, 1) := by decide +kernel
theorem dL_isHeld_1 : decode cL_isHeld 1 = .ok (.iconst 0, 1) := by decide +kernel
theorem dL_isHeld_2 : decode cL_isHeld 2 = .ok (.aload_n 0, 1) := by decide +kernel
theorem dL_isHeld_3 : decode cL_isHeld 3 = .ok (.iload_n 1, 1) := by decide +kernel
theorem dL_isHeld_4 : decode cL_isHeld 4 = .ok (.iload_n 2, 1) := by decide +kernel
theorem dL_isHeld_5 : decode cL_isHeld 5 = .ok (.invokevirtual 34, 3) := by decide +kernel
theorem dL_isHeld_8 : decode cL_isHeld 8 = .ok (.ifCond .eq 7, 3) := by decide +kernel
theorem dL_isHeld_11 : decode cL_isHeld 11 = .ok (.lconst 1, 1) := by decide +kernel
theorem dL_isHeld_12 : decode cL_isHeld 12 = .ok (.goto 4, 3) := by decide +kernel
theorem dL_isHeld_15 : decode cL_isHeld 15 = .ok (.lconst 0, 1) := by decide +kernel
theorem dL_isHeld_16 : decode cL_isHeld 16 = .ok (.lastore, 1) := by decide +kernel
theorem dL_isHeld_17 : decode cL_isHeld 17 = .ok (.goto 7, 3) := by decide +kernel
theorem dL_isHeld_20 : decode cL_isHeld 20 = .ok (.astore 4, 2) := by decide +kernel
theorem dL_isHeld_22 : decode cL_isHeld 22 = .ok (.iconst 1, 1) := by decide +kernel
theorem dL_isHeld_23 : decode cL_isHeld 23 = .ok (.ireturn, 1) := by decide +kernel
theorem dL_isHeld_24 : decode cL_isHeld 24 = .ok (.iconst 0, 1) := by decide +kernel
theorem dL_isHeld_25 : decode cL_isHeld 25 = .ok (.ireturn, 1) := by decide +kernel
set_option maxRecDepth 20000 in
theorem ggL_unit_X6_unit : GoodIn wsL_unit wsX6_unit := goodIn_ca (goodIn_ca (goodIn_r _ [7, 8, 9, 10, 11, 12, 13, 14, 15, 16, 17, 18, 19, 20, 21, 22, 23, 6, 24, 25, 26, 27, 28, 29, 30, 31, 32, 33, 34, 35, 36, 37, 38, 39, 40, 41, 42, 43, 44, 45, 46, 47, 48, 49, 50, 51, 52, 53, 54, 55, 56, 57, 58, 59, 60, 61, 62, 63, 64, 65, 66, 67, 68, 69, 70, 71, 72, 73, 74, 75, 76, 77, 78, 79, 80, 81] (by decide +kernel) (by decide +kernel)) (goodIn_sub (fun _ h => List.mem_cons_of_mem _ (List.mem_append_left _ (List.mem_append_right _ h))) (by decide +kernel))) (goodIn_sub (fun _ h => List.mem_cons_of_mem _ (List.mem_append_right _ h)) (by decide +kernel))
set_option maxRecDepth 20000 in
theorem gL_unit_X6_unit : GoodIn wsL_unit (wsV RL 38 RX6 yX6_unit wsX6_unit) := goodIn_app (goodIn_of _ (by decide +kernel)) ggL_unit_X6_unit
theorem dL_unit_0 : decode cL_unit 0 = .ok (.aload_n 2, 1) := by decide +kernel
theorem dL_unit_1 : decode cL_unit 1 = .ok (.iconst 0, 1) := by decide +kernel
theorem dL_unit_2 : decode cL_unit 2 = .ok (.aload_n 0, 1) := by decide +kernel
theorem dL_unit_3 : decode cL_unit 3 = .ok (.iload_n 1, 1) := by decide +kernel
theorem dL_unit_4 : decode cL_unit 4 = .ok (.invokevirtual 38, 3) := by decide +kernel
theorem dL_unit_7 : decode cL_unit 7 = .ok (.i2l, 1) := by decide +kernel
theorem dL_unit_8 : decode cL_unit 8 = .ok (.lastore, 1) := by decide +kernel
theorem dL_unit_9 : decode cL_unit 9 = .ok (.goto 9, 3) := by decide +kernel
theorem dL_unit_12 : decode cL_unit 12 = .ok (.astore_n 3, 1) := by decide +kernel
theorem dL_unit_13 : decode cL_unit 13 = .ok (.iconst 1, 1) := by decide +kernel
theorem dL_unit_14 : decode cL_unit 14 = .ok (.ireturn, 1) := by decide +kernel
theorem dL_unit_15 : decode cL_unit 15 = .ok (.astore_n 3, 1) := by decide +kernel
theorem dL_unit_16 : decode cL_unit 16 = .ok (.iconst 2, 1) := by decide +kernel
theorem dL_unit_17 : decode cL_unit 17 = .ok (.ireturn, 1) := by decide +kernel
theorem dL_unit_18 : decode cL_unit 18 = .ok (.iconst 0, 1) := by decide +kernel
theorem dL_unit_19 : decode cL_unit 19 = .ok (.ireturn, 1) := by decide +kernel
set_option maxRecDepth 20000 in
theorem ggL_well_X6_well : GoodIn wsL_well wsX6_well := goodIn_ca (goodIn_ca (goodIn_r _ [7, 8, 9, 10, 11, 12, 13, 14, 15, 16, 17, 18, 19, 6, 20, 21, 22, 23, 24, 25, 26, 27, 28, 29, 30, 31, 32, 33, 34, 35, 36, 37, 38, 39, 40, 41, 42, 43, 44, 45, 46, 47, 48, 49, 50, 51, 52, 53, 54, 55, 56] (by decide +kernel) (by decide +kernel)) (goodIn_sub (fun _ h => List.mem_cons_of_mem _ (List.mem_append_left _ (List.mem_append_right _ h))) (by decide +kernel))) (goodIn_sub (fun _ h => List.mem_cons_of_mem _ (List.mem_append_right _ h)) (by decide +kernel))
set_option maxRecDepth 20000 in
theorem gL_well_X6_well : GoodIn wsL_well (wsV RL 41 RX6 yX6_well wsX6_well) := goodIn_app (goodIn_of _ (by decide +kernel)) ggL_well_X6_well
theorem dL_well_0 : decode cL_well 0 = .ok (.aload_n 2, 1) := by decide +kernel
theorem dL_well_1 : decode cL_well 1 = .ok (.iconst 0, 1) := by decide +kernel
theorem dL_well_2 : decode cL_well 2 = .ok (.aload_n 0, 1) := by decide +kernel
theorem dL_well_3 : decode cL_well 3 = .ok (.iload_n 1, 1) := by decide +kernel
theorem dL_well_4 : decode cL_well 4 = .ok (.invokevirtual 41, 3) := by decide +kernel
theorem dL_well_7 : decode cL_well 7 = .ok (.i2l, 1) := by decide +kernel
theorem dL_well_8 : decode cL_well 8 = .ok (.lastore, 1) := by decide +kernel
theorem dL_well_9 : decode cL_well 9 = .ok (.goto 9, 3) := by decide +kernel
theorem dL_well_12 : decode cL_well 12 = .ok (.astore_n 3, 1) := by decide +kernel
theorem dL_well_13 : decode cL_well 13 = .ok (.iconst 1, 1) := by decide +kernel
theorem dL_well_14 : decode cL_well 14 = .ok (.ireturn, 1) := by decide +kernel
theorem dL_well_15 : decode cL_well 15 = .ok (.astore_n 3, 1) := by decide +kernel
theorem dL_well_16 : decode cL_well 16 = .ok (.iconst 2, 1) := by decide +kernel
theorem dL_well_17 : decode cL_well 17 = .ok (.ireturn, 1) := by decide +kernel
theorem dL_well_18 : decode cL_well 18 = .ok (.iconst 0, 1) := by decide +kernel
theorem dL_well_19 : decode cL_well 19 = .ok (.ireturn, 1) := by decide +kernel
set_option maxRecDepth 20000 in
theorem ggL_oil_X6_oil : GoodIn wsL_oil wsX6_oil := goodIn_ca (goodIn_ca (goodIn_ca (goodIn_r _ [8, 9, 10, 11, 12, 13, 14, 15, 16, 17, 18, 19, 20, 7, 21, 22, 23, 24, 25, 26, 27, 28, 29, 30, 31, 32, 33, 34, 35, 36, 37, 38, 39, 40, 41, 42, 43, 44, 45, 46, 47, 48, 49, 50, 51, 52, 53, 54, 55, 56, 57, 58, 59, 60, 61, 62, 63, 64, 65, 66, 67, 68, 69, 70, 71, 72, 73, 74, 75, 76, 77] (by decide +kernel) (by decide +kernel)) (goodIn_sub (fun _ h => List.mem_cons_of_mem _ (List.mem_append_left _ (List.mem_append_left _ (List.mem_append_right _ h)))) (by decide +kernel))) (goodIn_sub (fun _ h => List.mem_cons_of_mem _ (List.mem_append_left _ (List.mem_append_right _ h))) (by decide +kernel))) (goodIn_sub (fun _ h => List.mem_cons_of_mem _ (List.mem_append_right _ h)) (by decide +kernel))
set_option maxRecDepth 20000 in
theorem gL_oil_X6_oil : GoodIn wsL_oil (wsV RL 44 RX6 yX6_oil wsX6_oil) := goodIn_app (goodIn_of _ (by decide +kernel)) ggL_oil_X6_oil
theorem dL_oil_0 : decode cL_oil 0 = .ok (.aload 5, 2) := by decide +kernel
theorem dL_oil_2 : decode cL_oil 2 = .ok (.iconst 0, 1) := by decide +kernel
theorem dL_oil_3 : decode cL_oil 3 = .ok (.aload_n 0, 1) := by decide +kernel
theorem dL_oil_4 : decode cL_oil 4 = .ok (.iload_n 1, 1) := by decide +kernel
theorem dL_oil_5 : decode cL_oil 5 = .ok (.iload_n 2, 1) := by decide +kernel
theorem dL_oil_6 : decode cL_oil 6 = .ok (.iload_n 3, 1) := by decide +kernel
theorem dL_oil_7 : decode cL_oil 7 = .ok (.iload 4, 2) := by decide +kernel
theorem dL_oil_9 : decode cL_oil 9 = .ok (.invokevirtual 44, 3) := by decide +kernel
theorem dL_oil_12 : decode cL_oil 12 = .ok (.i2l, 1) := by decide +kernel
theorem dL_oil_13 : decode cL_oil 13 = .ok (.lastore, 1) := by decide +kernel
theorem dL_oil_14 : decode cL_oil 14 = .ok (.goto 15, 3) := by decide +kernel
theorem dL_oil_17 : decode cL_oil 17 = .ok (.astore 6, 2) := by decide +kernel
theorem dL_oil_19 : decode cL_oil 19 = .ok (.iconst 1, 1) := by decide +kernel
theorem dL_oil_20 : decode cL_oil 20 = .ok (.ireturn, 1) := by decide +kernel
theorem dL_oil_21 : decode cL_oil 21 = .ok (.astore 6, 2) := by decide +kernel
theorem dL_oil_23 : decode cL_oil 23 = .ok (.iconst 2, 1) := by decide +kernel
theorem dL_oil_24 : decode cL_oil 24 = .ok (.ireturn, 1) := by decide +kernel
theorem dL_oil_25 : decode cL_oil 25 = .ok (.astore 6, 2) := by decide +kernel
theorem dL_oil_27 : decode cL_oil 27 = .ok (.iconst 3, 1) := by decide +kernel
theorem dL_oil_28 : decode cL_oil 28 = .ok (.ireturn, 1) := by decide +kernel
theorem dL_oil_29 : decode cL_oil 29 = .ok (.iconst 0, 1) := by decide +kernel
theorem dL_oil_30 : decode cL_oil 30 = .ok (.ireturn, 1) := by decide +kernel
set_option maxRecDepth 20000 in
theorem ggL_cost_X6_cost : GoodIn wsL_cost wsX6_cost := goodIn_ca (goodIn_ca (goodIn_ca (goodIn_r _ [8, 9, 10, 11, 12, 13, 14, 15, 16, 17, 18, 19, 20, 21, 22, 23, 7, 24, 25, 26, 27, 28, 29, 30, 31, 32, 33, 34, 35, 36, 37, 38, 39, 40, 41, 42, 43, 44, 45, 46, 47, 48, 49, 50, 51, 52, 53, 54, 55, 56, 57, 58, 59, 60, 61, 62, 63, 64, 65, 66, 67, 68, 69, 70] (by decide +kernel) (by decide +kernel)) (goodIn_sub (fun _ h => List.mem_cons_of_mem _ (List.mem_append_left _ (List.mem_append_left _ (List.mem_append_right _ h)))) (by decide +kernel))) (goodIn_sub (fun _ h => List.mem_cons_of_mem _ (List.mem_append_left _ (List.mem_append_right _ h))) (by decide +kernel))) (goodIn_sub (fun _ h => List.mem_cons_of_mem _ (List.mem_append_right _ h)) (by decide +kernel))
set_option maxRecDepth 20000 in
theorem gL_cost_X6_cost : GoodIn wsL_cost (wsV RL 48 RX6 yX6_cost wsX6_cost) := goodIn_app (goodIn_of _ (by decide +kernel)) ggL_cost_X6_cost
theorem dL_cost_0 : decode cL_cost 0 = .ok (.aload 4, 2) := by decide +kernel
theorem dL_cost_2 : decode cL_cost 2 = .ok (.iconst 0, 1) := by decide +kernel
theorem dL_cost_3 : decode cL_cost 3 = .ok (.aload_n 0, 1) := by decide +kernel
theorem dL_cost_4 : decode cL_cost 4 = .ok (.iload_n 1, 1) := by decide +kernel
theorem dL_cost_5 : decode cL_cost 5 = .ok (.iload_n 2, 1) := by decide +kernel
theorem dL_cost_6 : decode cL_cost 6 = .ok (.iload_n 3, 1) := by decide +kernel
theorem dL_cost_7 : decode cL_cost 7 = .ok (.invokevirtual 48, 3) := by decide +kernel
theorem dL_cost_10 : decode cL_cost 10 = .ok (.i2l, 1) := by decide +kernel
theorem dL_cost_11 : decode cL_cost 11 = .ok (.lastore, 1) := by decide +kernel
theorem dL_cost_12 : decode cL_cost 12 = .ok (.goto 15, 3) := by decide +kernel
theorem dL_cost_15 : decode cL_cost 15 = .ok (.astore 5, 2) := by decide +kernel
theorem dL_cost_17 : decode cL_cost 17 = .ok (.iconst 1, 1) := by decide +kernel
theorem dL_cost_18 : decode cL_cost 18 = .ok (.ireturn, 1) := by decide +kernel
theorem dL_cost_19 : decode cL_cost 19 = .ok (.astore 5, 2) := by decide +kernel
theorem dL_cost_21 : decode cL_cost 21 = .ok (.iconst 2, 1) := by decide +kernel
theorem dL_cost_22 : decode cL_cost 22 = .ok (.ireturn, 1) := by decide +kernel
theorem dL_cost_23 : decode cL_cost 23 = .ok (.astore 5, 2) := by decide +kernel
theorem dL_cost_25 : decode cL_cost 25 = .ok (.iconst 3, 1) := by decide +kernel
theorem dL_cost_26 : decode cL_cost 26 = .ok (.ireturn, 1) := by decide +kernel
theorem dL_cost_27 : decode cL_cost 27 = .ok (.iconst 0, 1) := by decide +kernel
theorem dL_cost_28 : decode cL_cost 28 = .ok (.ireturn, 1) := by decide +kernel
set_option maxRecDepth 20000 in
theorem ggL_tax_X6_tax : GoodIn wsL_tax wsX6_tax := goodIn_ca (goodIn_ca (goodIn_r _ [7, 8, 9, 10, 11, 12, 13, 14, 15, 6, 16, 17, 18, 19, 20, 21, 22, 23, 24, 25, 26, 27, 28, 29, 30, 31, 32, 33, 34, 35, 36, 37, 38, 39, 40, 41, 42, 43, 44, 45, 46, 47, 48, 49, 50] (by decide +kernel) (by decide +kernel)) (goodIn_sub (fun _ h => List.mem_cons_of_mem _ (List.mem_append_left _ (List.mem_append_right _ h))) (by decide +kernel))) (goodIn_sub (fun _ h => List.mem_cons_of_mem _ (List.mem_append_right _ h)) (by decide +kernel))
set_option maxRecDepth 20000 in
theorem gL_tax_X6_tax : GoodIn wsL_tax (wsV RL 51 RX6 yX6_tax wsX6_tax) := goodIn_app (goodIn_of _ (by decide +kernel)) ggL_tax_X6_tax
theorem dL_tax_0 : decode cL_tax 0 = .ok (.aload_n 3, 1) := by decide +kernel
theorem dL_tax_1 : decode cL_tax 1 = .ok (.iconst 0, 1) := by decide +kernel
theorem dL_tax_2 : decode cL_tax 2 = .ok (.aload_n 0, 1) := by decide +kernel
theorem dL_tax_3 : decode cL_tax 3 = .ok (.iload_n 1, 1) := by decide +kernel
theorem dL_tax_4 : decode cL_tax 4 = .ok (.iload_n 2, 1) := by decide +kernel
theorem dL_tax_5 : decode cL_tax 5 = .ok (.invokevirtual 51, 3) := by decide +kernel
theorem dL_tax_8 : decode cL_tax 8 = .ok (.i2l, 1) := by decide +kernel
theorem dL_tax_9 : decode cL_tax 9 = .ok (.lastore, 1) := by decide +kernel
theorem dL_tax_10 : decode cL_tax 10 = .ok (.goto 11, 3) := by decide +kernel
theorem dL_tax_13 : decode cL_tax 13 = .ok (.astore 4, 2) := by decide +kernel
theorem dL_tax_15 : decode cL_tax 15 = .ok (.iconst 1, 1) := by decide +kernel
theorem dL_tax_16 : decode cL_tax 16 = .ok (.ireturn, 1) := by decide +kernel
theorem dL_tax_17 : decode cL_tax 17 = .ok (.astore 4, 2) := by decide +kernel
theorem dL_tax_19 : decode cL_tax 19 = .ok (.iconst 2, 1) := by decide +kernel
theorem dL_tax_20 : decode cL_tax 20 = .ok (.ireturn, 1) := by decide +kernel
theorem dL_tax_21 : decode cL_tax 21 = .ok (.iconst 0, 1) := by decide +kernel
theorem dL_tax_22 : decode cL_tax 22 = .ok (.ireturn, 1) := by decide +kernel
set_option maxRecDepth 20000 in
theorem ggL_consent_X6_consent : GoodIn wsL_consent wsX6_consent := goodIn_ca (goodIn_r _ [6, 7, 8, 9, 10, 11, 12, 13, 5, 14, 15, 16, 17, 18, 19, 20, 21, 22, 23, 24, 25, 26, 27, 28, 29, 30, 31, 32, 33, 34, 35, 36, 37, 38, 39, 40, 41, 42, 43, 44, 45, 46, 47, 48, 49, 50, 51, 52, 53, 54, 55, 56, 57, 58, 59, 60] (by decide +kernel) (by decide +kernel)) (goodIn_sub (fun _ h => List.mem_cons_of_mem _ (List.mem_append_right _ h)) (by decide +kernel))
set_option maxRecDepth 20000 in
theorem gL_consent_X6_consent : GoodIn wsL_consent (wsV RL 54 RX6 yX6_consent wsX6_consent) := goodIn_app (goodIn_of _ (by decide +kernel)) ggL_consent_X6_consent
theorem dL_consent_0 : decode cL_consent 0 = .ok (.aload 4, 2) := by decide +kernel
theorem dL_consent_2 : decode cL_consent 2 = .ok (.iconst 0, 1) := by decide +kernel
theorem dL_consent_3 : decode cL_consent 3 = .ok (.aload_n 0, 1) := by decide +kernel
theorem dL_consent_4 : decode cL_consent 4 = .ok (.iload_n 1, 1) := by decide +kernel
theorem dL_consent_5 : decode cL_consent 5 = .ok (.iload_n 2, 1) := by decide +kernel
theorem dL_consent_6 : decode cL_consent 6 = .ok (.iload_n 3, 1) := by decide +kernel
theorem dL_consent_7 : decode cL_consent 7 = .ok (.invokevirtual 54, 3) := by decide +kernel
theorem dL_consent_10 : decode cL_consent 10 = .ok (.ifCond .eq 7, 3) := by decide +kernel
theorem dL_consent_13 : decode cL_consent 13 = .ok (.lconst 1, 1) := by decide +kernel
theorem dL_consent_14 : decode cL_consent 14 = .ok (.goto 4, 3) := by decide +kernel
theorem dL_consent_17 : decode cL_consent 17 = .ok (.lconst 0, 1) := by decide +kernel
theorem dL_consent_18 : decode cL_consent 18 = .ok (.lastore, 1) := by decide +kernel
theorem dL_consent_19 : decode cL_consent 19 = .ok (.goto 7, 3) := by decide +kernel
theorem dL_consent_22 : decode cL_consent 22 = .ok (.astore 5, 2) := by decide +kernel
theorem dL_consent_24 : decode cL_consent 24 = .ok (.iconst 1, 1) := by decide +kernel
theorem dL_consent_25 : decode cL_consent 25 = .ok (.ireturn, 1) := by decide +kernel
theorem dL_consent_26 : decode cL_consent 26 = .ok (.iconst 0, 1) := by decide +kernel
theorem dL_consent_27 : decode cL_consent 27 = .ok (.ireturn, 1) := by decide +kernel
set_option maxRecDepth 20000 in
theorem ggL_penalty_X6_penalty : GoodIn wsL_penalty wsX6_penalty := goodIn_ca (goodIn_r _ [6, 7, 8, 9, 10, 11, 12, 5, 13, 14, 15, 16, 17, 18, 19, 20, 21, 22, 23, 24, 25, 26, 27, 28, 29, 30, 31, 32, 33, 34, 35, 36, 37, 38] (by decide +kernel) (by decide +kernel)) (goodIn_sub (fun _ h => List.mem_cons_of_mem _ (List.mem_append_right _ h)) (by decide +kernel))
set_option maxRecDepth 20000 in
theorem gL_penalty_X6_penalty : GoodIn wsL_penalty (wsV RL 58 RX6 yX6_penalty wsX6_penalty) := goodIn_app (goodIn_of _ (by decide +kernel)) ggL_penalty_X6_penalty
theorem dL_penalty_0 : decode cL_penalty 0 = .ok (.aload_n 2, 1) := by decide +kernel
theorem dL_penalty_1 : decode cL_penalty 1 = .ok (.iconst 0, 1) := by decide +kernel
theorem dL_penalty_2 : decode cL_penalty 2 = .ok (.aload_n 0, 1) := by decide +kernel
theorem dL_penalty_3 : decode cL_penalty 3 = .ok (.iload_n 1, 1) := by decide +kernel
theorem dL_penalty_4 : decode cL_penalty 4 = .ok (.invokevirtual 58, 3) := by decide +kernel
theorem dL_penalty_7 : decode cL_penalty 7 = .ok (.i2l, 1) := by decide +kernel
theorem dL_penalty_8 : decode cL_penalty 8 = .ok (.lastore, 1) := by decide +kernel
theorem dL_penalty_9 : decode cL_penalty 9 = .ok (.goto 6, 3) := by decide +kernel
theorem dL_penalty_12 : decode cL_penalty 12 = .ok (.astore_n 3, 1) := by decide +kernel
theorem dL_penalty_13 : decode cL_penalty 13 = .ok (.iconst 1, 1) := by decide +kernel
theorem dL_penalty_14 : decode cL_penalty 14 = .ok (.ireturn, 1) := by decide +kernel
theorem dL_penalty_15 : decode cL_penalty 15 = .ok (.iconst 0, 1) := by decide +kernel
theorem dL_penalty_16 : decode cL_penalty 16 = .ok (.ireturn, 1) := by decide +kernel
set_option maxRecDepth 20000 in
theorem ggL_interest_X6_interest : GoodIn wsL_interest wsX6_interest := goodIn_ca (goodIn_r _ [6, 7, 8, 9, 10, 11, 12, 13, 14, 5, 15, 16, 17, 18, 19, 20, 21, 22, 23, 24, 25, 26, 27, 28, 29, 30, 31, 32, 33, 34, 35, 36, 37, 38, 39, 40, 41, 42, 43, 44, 45, 46, 47, 48, 49, 50, 51, 52, 53, 54, 55, 56, 57, 58, 59, 60, 61, 62, 63, 64, 65, 66, 67, 68, 69, 70, 71, 72, 73, 74, 75, 76, 77, 78, 79, 80, 81, 82, 83, 84, 85, 86, 87, 88, 89, 90, 91, 92, 93, 94, 95, 96, 97, 98, 99, 100, 101, 102, 103, 104, 105, 106, 107, 108, 109, 110, 111, 112, 113, 114, 115, 116, 117, 118, 119, 120, 121, 122, 123, 124, 125, 126, 127, 128, 129, 130] (by decide +kernel) (by decide +kernel)) (goodIn_sub (fun _ h => List.mem_cons_of_mem _ (List.mem_append_right _ h)) (by decide +kernel))
set_option maxRecDepth 20000 in
theorem gL_interest_X6_interest : GoodIn wsL_interest (wsV RL 61 RX6 yX6_interest wsX6_interest) := goodIn_app (goodIn_of _ (by decide +kernel)) ggL_interest_X6_interest
theorem dL_interest_0 : decode cL_interest 0 = .ok (.aload 5, 2) := by decide +kernel
theorem dL_interest_2 : decode cL_interest 2 = .ok (.iconst 0, 1) := by decide +kernel
theorem dL_interest_3 : decode cL_interest 3 = .ok (.aload_n 0, 1) := by decide +kernel
theorem dL_interest_4 : decode cL_interest 4 = .ok (.iload_n 1, 1) := by decide +kernel
theorem dL_interest_5 : decode cL_interest 5 = .ok (.iload_n 2, 1) := by decide +kernel
theorem dL_interest_6 : decode cL_interest 6 = .ok (.iload_n 3, 1) := by decide +kernel
theorem dL_interest_7 : decode cL_interest 7 = .ok (.iload 4, 2) := by decide +kernel
theorem dL_interest_9 : decode cL_interest 9 = .ok (.invokevirtual 61, 3) := by decide +kernel
theorem dL_interest_12 : decode cL_interest 12 = .ok (.i2l, 1) := by decide +kernel
theorem dL_interest_13 : decode cL_interest 13 = .ok (.lastore, 1) := by decide +kernel
theorem dL_interest_14 : decode cL_interest 14 = .ok (.goto 7, 3) := by decide +kernel
theorem dL_interest_17 : decode cL_interest 17 = .ok (.astore 6, 2) := by decide +kernel
theorem dL_interest_19 : decode cL_interest 19 = .ok (.iconst 1, 1) := by decide +kernel
theorem dL_interest_20 : decode cL_interest 20 = .ok (.ireturn, 1) := by decide +kernel
theorem dL_interest_21 : decode cL_interest 21 = .ok (.iconst 0, 1) := by decide +kernel
theorem dL_interest_22 : decode cL_interest 22 = .ok (.ireturn, 1) := by decide +kernel
set_option maxRecDepth 20000 in
theorem ggL_revenue_X6_revenue : GoodIn wsL_revenue wsX6_revenue := goodIn_ca (goodIn_r _ [6, 7, 8, 9, 10, 11, 5, 12, 13, 14, 15, 16, 17, 18, 19, 20, 21, 22, 23, 24, 25, 26, 27, 28, 29, 30, 31, 32, 33, 34, 35, 36, 37, 38, 39, 40, 41, 42, 43, 44, 45, 46, 47, 48, 49, 50, 51, 52, 53, 54, 55, 56, 57] (by decide +kernel) (by decide +kernel)) (goodIn_sub (fun _ h => List.mem_cons_of_mem _ (List.mem_append_right _ h)) (by decide +kernel))
set_option maxRecDepth 20000 in
theorem gL_revenue_X6_revenue : GoodIn wsL_revenue (wsV RL 65 RX6 yX6_revenue wsX6_revenue) := goodIn_app (goodIn_of _ (by decide +kernel)) ggL_revenue_X6_revenue
theorem dL_revenue_0 : decode cL_revenue 0 = .ok (.aload_n 3, 1) := by decide +kernel
theorem dL_revenue_1 : decode cL_revenue 1 = .ok (.iconst 0, 1) := by decide +kernel
theorem dL_revenue_2 : decode cL_revenue 2 = .ok (.aload_n 0, 1) := by decide +kernel
theorem dL_revenue_3 : decode cL_revenue 3 = .ok (.iload_n 1, 1) := by decide +kernel
theorem dL_revenue_4 : decode cL_revenue 4 = .ok (.iload_n 2, 1) := by decide +kernel
theorem dL_revenue_5 : decode cL_revenue 5 = .ok (.invokevirtual 65, 3) := by decide +kernel
theorem dL_revenue_8 : decode cL_revenue 8 = .ok (.i2l, 1) := by decide +kernel
theorem dL_revenue_9 : decode cL_revenue 9 = .ok (.lastore, 1) := by decide +kernel
theorem dL_revenue_10 : decode cL_revenue 10 = .ok (.goto 7, 3) := by decide +kernel
theorem dL_revenue_13 : decode cL_revenue 13 = .ok (.astore 4, 2) := by decide +kernel
theorem dL_revenue_15 : decode cL_revenue 15 = .ok (.iconst 1, 1) := by decide +kernel
theorem dL_revenue_16 : decode cL_revenue 16 = .ok (.ireturn, 1) := by decide +kernel
theorem dL_revenue_17 : decode cL_revenue 17 = .ok (.iconst 0, 1) := by decide +kernel
theorem dL_revenue_18 : decode cL_revenue 18 = .ok (.ireturn, 1) := by decide +kernel
set_option maxRecDepth 20000 in
theorem ggL_due_X6_due : GoodIn wsL_due wsX6_due := goodIn_ca (goodIn_r _ [6, 7, 8, 9, 10, 11, 12, 5, 13, 14, 15, 16, 17, 18, 19, 20, 21, 22, 23, 24, 25, 26, 27, 28, 29, 30, 31, 32, 33, 34, 35, 36, 37, 38, 39, 40, 41, 42, 43, 44, 45, 46, 47, 48, 49, 50, 51, 52, 53, 54, 55, 56, 57, 58, 59, 60, 61, 62, 63, 64, 65, 66, 67, 68, 69, 70, 71, 72, 73, 74, 75, 76, 77, 78, 79, 80, 81, 82, 83, 84, 85, 86, 87, 88, 89, 90, 91, 92, 93, 94, 95, 96, 97, 98, 99, 100, 101, 102, 103, 104, 105, 106, 107, 108, 109, 110, 111, 112, 113, 114, 115, 116, 117, 118, 119, 120, 121, 122, 123, 124, 125, 126, 127, 128, 129, 130, 131, 132, 133, 134, 135, 136, 137, 138, 139, 140, 141, 142, 143, 144, 145, 146, 147, 148, 149, 150, 151, 152, 153, 154, 155, 156, 157, 158, 159, 160, 161, 162, 163, 164, 165, 166, 167, 168, 169, 170, 171, 172, 173, 174, 175, 176, 177, 178, 179, 180, 181, 182, 183, 184, 185, 186, 187, 188, 189] (by decide +kernel) (by decide +kernel)) (goodIn_sub (fun _ h => List.mem_cons_of_mem _ (List.mem_append_right _ h)) (by decide +kernel))
set_option maxRecDepth 20000 in
theorem gL_due_X6_due : GoodIn wsL_due (wsV RL 68 RX6 yX6_due wsX6_due) := goodIn_app (goodIn_of _ (by decide +kernel)) ggL_due_X6_due
theorem dL_due_0 : decode cL_due 0 = .ok (.aload 4, 2) := by decide +kernel
theorem dL_due_2 : decode cL_due 2 = .ok (.iconst 0, 1) := by decide +kernel
theorem dL_due_3 : decode cL_due 3 = .ok (.aload_n 0, 1) := by decide +kernel
theorem dL_due_4 : decode cL_due 4 = .ok (.iload_n 1, 1) := by decide +kernel
theorem dL_due_5 : decode cL_due 5 = .ok (.iload_n 2, 1) := by decide +kernel
theorem dL_due_6 : decode cL_due 6 = .ok (.iload_n 3, 1) := by decide +kernel
theorem dL_due_7 : decode cL_due 7 = .ok (.invokevirtual 68, 3) := by decide +kernel
theorem dL_due_10 : decode cL_due 10 = .ok (.i2l, 1) := by decide +kernel
theorem dL_due_11 : decode cL_due 11 = .ok (.lastore, 1) := by decide +kernel
theorem dL_due_12 : decode cL_due 12 = .ok (.goto 7, 3) := by decide +kernel
theorem dL_due_15 : decode cL_due 15 = .ok (.astore 5, 2) := by decide +kernel
theorem dL_due_17 : decode cL_due 17 = .ok (.iconst 1, 1) := by decide +kernel
theorem dL_due_18 : decode cL_due 18 = .ok (.ireturn, 1) := by decide +kernel
theorem dL_due_19 : decode cL_due 19 = .ok (.iconst 0, 1) := by decide +kernel
theorem dL_due_20 : decode cL_due 20 = .ok (.ireturn, 1) := by decide +kernel
set_option maxRecDepth 20000 in
theorem ggL_balance_X6_balance : GoodIn wsL_balance wsX6_balance := goodIn_ca (goodIn_r _ [6, 7, 8, 9, 10, 11, 12, 5, 13, 14, 15, 16, 17, 18, 19, 20, 21, 22, 23, 24, 25, 26, 27, 28, 29, 30, 31, 32, 33, 34, 35, 36, 37, 38, 39, 40, 41, 42, 43, 44, 45, 46, 47, 48, 49, 50, 51, 52, 53, 54, 55, 56, 57, 58, 59, 60, 61, 62, 63, 64, 65, 66, 67, 68, 69, 70, 71, 72, 73, 74, 75, 76, 77, 78, 79, 80, 81, 82, 83, 84, 85, 86, 87, 88, 89, 90, 91, 92, 93, 94, 95, 96, 97, 98, 99, 100, 101, 102, 103, 104, 105, 106, 107, 108, 109, 110, 111, 112, 113, 114, 115, 116, 117, 118, 119, 120, 121, 122, 123, 124, 125, 126, 127, 128, 129, 130, 131, 132, 133, 134, 135, 136, 137, 138, 139, 140, 141, 142, 143, 144, 145, 146, 147, 148, 149, 150, 151, 152, 153, 154, 155, 156, 157, 158, 159, 160, 161, 162, 163, 164, 165, 166, 167, 168, 169, 170, 171, 172, 173, 174, 175, 176, 177, 178, 179, 180, 181, 182, 183, 184, 185, 186, 187, 188, 189] (by decide +kernel) (by decide +kernel)) (goodIn_sub (fun _ h => List.mem_cons_of_mem _ (List.mem_append_right _ h)) (by decide +kernel))
set_option maxRecDepth 20000 in
theorem gL_balance_X6_balance : GoodIn wsL_balance (wsV RL 71 RX6 yX6_balance wsX6_balance) := goodIn_app (goodIn_of _ (by decide +kernel)) ggL_balance_X6_balance
theorem dL_balance_0 : decode cL_balance 0 = .ok (.aload 4, 2) := by decide +kernel
theorem dL_balance_2 : decode cL_balance 2 = .ok (.iconst 0, 1) := by decide +kernel
theorem dL_balance_3 : decode cL_balance 3 = .ok (.aload_n 0, 1) := by decide +kernel
theorem dL_balance_4 : decode cL_balance 4 = .ok (.iload_n 1, 1) := by decide +kernel
theorem dL_balance_5 : decode cL_balance 5 = .ok (.iload_n 2, 1) := by decide +kernel
theorem dL_balance_6 : decode cL_balance 6 = .ok (.iload_n 3, 1) := by decide +kernel
theorem dL_balance_7 : decode cL_balance 7 = .ok (.invokevirtual 71, 3) := by decide +kernel
theorem dL_balance_10 : decode cL_balance 10 = .ok (.lastore, 1) := by decide +kernel
theorem dL_balance_11 : decode cL_balance 11 = .ok (.goto 7, 3) := by decide +kernel
theorem dL_balance_14 : decode cL_balance 14 = .ok (.astore 5, 2) := by decide +kernel
theorem dL_balance_16 : decode cL_balance 16 = .ok (.iconst 1, 1) := by decide +kernel
theorem dL_balance_17 : decode cL_balance 17 = .ok (.ireturn, 1) := by decide +kernel
theorem dL_balance_18 : decode cL_balance 18 = .ok (.iconst 0, 1) := by decide +kernel
theorem dL_balance_19 : decode cL_balance 19 = .ok (.ireturn, 1) := by decide +kernel
set_option maxRecDepth 20000 in
theorem ggL_agrees_X6_agrees : GoodIn wsL_agrees wsX6_agrees := goodIn_ca (goodIn_r _ [6, 7, 8, 9, 10, 11, 12, 13, 5, 14, 15, 16, 17, 18, 19, 20, 21, 22, 23, 24, 25, 26, 27, 28, 29, 30, 31, 32, 33, 34, 35, 36, 37, 38, 39, 40, 41, 42, 43, 44, 45, 46, 47, 48, 49, 50, 51, 52, 53, 54, 55, 56, 57, 58, 59, 60, 61, 62, 63, 64, 65, 66, 67, 68, 69, 70, 71, 72, 73, 74, 75, 76, 77, 78, 79, 80, 81, 82, 83, 84, 85, 86, 87, 88, 89, 90, 91, 92, 93, 94, 95, 96, 97, 98, 99, 100, 101, 102, 103, 104, 105, 106, 107, 108, 109, 110, 111, 112, 113, 114, 115, 116, 117, 118, 119, 120, 121, 122, 123, 124, 125, 126, 127, 128, 129, 130, 131, 132, 133, 134, 135, 136, 137, 138, 139, 140, 141, 142, 143, 144, 145, 146, 147, 148, 149, 150, 151, 152, 153, 154, 155, 156, 157, 158, 159, 160, 161, 162, 163, 164, 165, 166, 167, 168, 169, 170, 171, 172, 173, 174, 175, 176, 177, 178, 179, 180, 181, 182, 183, 184, 185, 186] (by decide +kernel) (by decide +kernel)) (goodIn_sub (fun _ h => List.mem_cons_of_mem _ (List.mem_append_right _ h)) (by decide +kernel))
set_option maxRecDepth 20000 in
theorem gL_agrees_X6_agrees : GoodIn wsL_agrees (wsV RL 75 RX6 yX6_agrees wsX6_agrees) := goodIn_app (goodIn_of _ (by decide +kernel)) ggL_agrees_X6_agrees
theorem dL_agrees_0 : decode cL_agrees 0 = .ok (.aload_n 3, 1) := by decide +kernel
theorem dL_agrees_1 : decode cL_agrees 1 = .ok (.iconst 0, 1) := by decide +kernel
theorem dL_agrees_2 : decode cL_agrees 2 = .ok (.aload_n 0, 1) := by decide +kernel
theorem dL_agrees_3 : decode cL_agrees 3 = .ok (.iload_n 1, 1) := by decide +kernel
theorem dL_agrees_4 : decode cL_agrees 4 = .ok (.iload_n 2, 1) := by decide +kernel
theorem dL_agrees_5 : decode cL_agrees 5 = .ok (.invokevirtual 75, 3) := by decide +kernel
theorem dL_agrees_8 : decode cL_agrees 8 = .ok (.ifCond .eq 7, 3) := by decide +kernel
theorem dL_agrees_11 : decode cL_agrees 11 = .ok (.lconst 1, 1) := by decide +kernel
theorem dL_agrees_12 : decode cL_agrees 12 = .ok (.goto 4, 3) := by decide +kernel
theorem dL_agrees_15 : decode cL_agrees 15 = .ok (.lconst 0, 1) := by decide +kernel
theorem dL_agrees_16 : decode cL_agrees 16 = .ok (.lastore, 1) := by decide +kernel
theorem dL_agrees_17 : decode cL_agrees 17 = .ok (.goto 7, 3) := by decide +kernel
theorem dL_agrees_20 : decode cL_agrees 20 = .ok (.astore 4, 2) := by decide +kernel
theorem dL_agrees_22 : decode cL_agrees 22 = .ok (.iconst 1, 1) := by decide +kernel
theorem dL_agrees_23 : decode cL_agrees 23 = .ok (.ireturn, 1) := by decide +kernel
theorem dL_agrees_24 : decode cL_agrees 24 = .ok (.iconst 0, 1) := by decide +kernel
theorem dL_agrees_25 : decode cL_agrees 25 = .ok (.ireturn, 1) := by decide +kernel
set_option maxRecDepth 20000 in
theorem ggL_suspend_X6_suspend : GoodIn wsL_suspend wsX6_suspend := goodIn_ca (goodIn_r _ [6, 7, 8, 9, 10, 11, 5, 12, 13, 14, 15, 16, 17, 18, 19, 20, 21, 22, 23, 24, 25, 26, 27, 28, 29, 30, 31, 32, 33, 34, 35, 36, 37, 38] (by decide +kernel) (by decide +kernel)) (goodIn_sub (fun _ h => List.mem_cons_of_mem _ (List.mem_append_right _ h)) (by decide +kernel))
set_option maxRecDepth 20000 in
theorem gL_suspend_X6_suspend : GoodIn wsL_suspend (wsV RL 78 RX6 yX6_suspend wsX6_suspend) := goodIn_app (goodIn_of _ (by decide +kernel)) ggL_suspend_X6_suspend
theorem dL_suspend_0 : decode cL_suspend 0 = .ok (.aload_n 3, 1) := by decide +kernel
theorem dL_suspend_1 : decode cL_suspend 1 = .ok (.iconst 0, 1) := by decide +kernel
theorem dL_suspend_2 : decode cL_suspend 2 = .ok (.aload_n 0, 1) := by decide +kernel
theorem dL_suspend_3 : decode cL_suspend 3 = .ok (.iload_n 1, 1) := by decide +kernel
theorem dL_suspend_4 : decode cL_suspend 4 = .ok (.iload_n 2, 1) := by decide +kernel
theorem dL_suspend_5 : decode cL_suspend 5 = .ok (.invokevirtual 78, 3) := by decide +kernel
theorem dL_suspend_8 : decode cL_suspend 8 = .ok (.ifCond .eq 7, 3) := by decide +kernel
theorem dL_suspend_11 : decode cL_suspend 11 = .ok (.lconst 1, 1) := by decide +kernel
theorem dL_suspend_12 : decode cL_suspend 12 = .ok (.goto 4, 3) := by decide +kernel
theorem dL_suspend_15 : decode cL_suspend 15 = .ok (.lconst 0, 1) := by decide +kernel
theorem dL_suspend_16 : decode cL_suspend 16 = .ok (.lastore, 1) := by decide +kernel
theorem dL_suspend_17 : decode cL_suspend 17 = .ok (.goto 7, 3) := by decide +kernel
theorem dL_suspend_20 : decode cL_suspend 20 = .ok (.astore 4, 2) := by decide +kernel
theorem dL_suspend_22 : decode cL_suspend 22 = .ok (.iconst 1, 1) := by decide +kernel
theorem dL_suspend_23 : decode cL_suspend 23 = .ok (.ireturn, 1) := by decide +kernel
theorem dL_suspend_24 : decode cL_suspend 24 = .ok (.iconst 0, 1) := by decide +kernel
theorem dL_suspend_25 : decode cL_suspend 25 = .ok (.ireturn, 1) := by decide +kernel
set_option maxRecDepth 20000 in
theorem ggL_least_X6_least : GoodIn wsL_least wsX6_least := goodIn_ca (goodIn_r _ [6, 7, 8, 9, 10, 11, 12, 13, 14, 15, 16, 17, 18, 19, 20, 21, 22, 23, 24, 25, 26, 27, 28, 29, 30] (by decide +kernel) (by decide +kernel)) (goodIn_sub (fun _ h => List.mem_cons_of_mem _ (List.mem_append_right _ h)) (by decide +kernel))
set_option maxRecDepth 20000 in
theorem gL_least_X6_least : GoodIn wsL_least (wsV RL 82 RX6 yX6_least wsX6_least) := goodIn_app (goodIn_of _ (by decide +kernel)) ggL_least_X6_least
theorem dL_least_0 : decode cL_least 0 = .ok (.aload_n 2, 1) := by decide +kernel
theorem dL_least_1 : decode cL_least 1 = .ok (.iconst 0, 1) := by decide +kernel
theorem dL_least_2 : decode cL_least 2 = .ok (.aload_n 0, 1) := by decide +kernel
theorem dL_least_3 : decode cL_least 3 = .ok (.iload_n 1, 1) := by decide +kernel
theorem dL_least_4 : decode cL_least 4 = .ok (.invokevirtual 82, 3) := by decide +kernel
theorem dL_least_7 : decode cL_least 7 = .ok (.i2l, 1) := by decide +kernel
theorem dL_least_8 : decode cL_least 8 = .ok (.lastore, 1) := by decide +kernel
theorem dL_least_9 : decode cL_least 9 = .ok (.goto 6, 3) := by decide +kernel
theorem dL_least_12 : decode cL_least 12 = .ok (.astore_n 3, 1) := by decide +kernel
theorem dL_least_13 : decode cL_least 13 = .ok (.iconst 1, 1) := by decide +kernel
theorem dL_least_14 : decode cL_least 14 = .ok (.ireturn, 1) := by decide +kernel
theorem dL_least_15 : decode cL_least 15 = .ok (.iconst 0, 1) := by decide +kernel
theorem dL_least_16 : decode cL_least 16 = .ok (.ireturn, 1) := by decide +kernel
set_option maxRecDepth 20000 in
theorem ggL_owed_X6_owed : GoodIn wsL_owed wsX6_owed := goodIn_ca (goodIn_r _ [6, 7, 8, 9, 10, 5, 11, 12, 13, 14, 15, 16, 17, 18, 19, 20, 21, 22, 23, 24, 25, 26, 27, 28, 29, 30, 31, 32, 33, 34, 35, 36, 37, 38, 39, 40, 41, 42, 43, 44, 45, 46, 47, 48, 49, 50, 51, 52, 53, 54, 55, 56, 57, 58, 59, 60, 61, 62, 63, 64, 65, 66, 67, 68, 69, 70, 71, 72, 73, 74, 75, 76, 77, 78, 79, 80, 81, 82, 83, 84, 85, 86, 87, 88, 89, 90, 91, 92, 93, 94, 95, 96, 97, 98, 99, 100, 101, 102, 103, 104, 105, 106, 107, 108, 109, 110, 111, 112, 113, 114, 115, 116, 117, 118, 119, 120, 121, 122, 123, 124, 125, 126, 127, 128, 129, 130, 131, 132, 133, 134, 135, 136, 137, 138, 139, 140, 141, 142, 143, 144, 145, 146, 147, 148, 149, 150, 151, 152, 153, 154, 155, 156, 157, 158, 159, 160, 161, 162, 163, 164, 165, 166, 167, 168, 169, 170, 171, 172, 173, 174, 175, 176, 177, 178, 179, 180, 181, 182, 183, 184, 185, 186] (by decide +kernel) (by decide +kernel)) (goodIn_sub (fun _ h => List.mem_cons_of_mem _ (List.mem_append_right _ h)) (by decide +kernel))
set_option maxRecDepth 20000 in
theorem gL_owed_X6_owed : GoodIn wsL_owed (wsV RL 85 RX6 yX6_owed wsX6_owed) := goodIn_app (goodIn_of _ (by decide +kernel)) ggL_owed_X6_owed
theorem dL_owed_0 : decode cL_owed 0 = .ok (.aload_n 2, 1) := by decide +kernel
theorem dL_owed_1 : decode cL_owed 1 = .ok (.iconst 0, 1) := by decide +kernel
theorem dL_owed_2 : decode cL_owed 2 = .ok (.aload_n 0, 1) := by decide +kernel
theorem dL_owed_3 : decode cL_owed 3 = .ok (.iload_n 1, 1) := by decide +kernel
theorem dL_owed_4 : decode cL_owed 4 = .ok (.invokevirtual 85, 3) := by decide +kernel
theorem dL_owed_7 : decode cL_owed 7 = .ok (.lastore, 1) := by decide +kernel
theorem dL_owed_8 : decode cL_owed 8 = .ok (.goto 6, 3) := by decide +kernel
theorem dL_owed_11 : decode cL_owed 11 = .ok (.astore_n 3, 1) := by decide +kernel
theorem dL_owed_12 : decode cL_owed 12 = .ok (.iconst 1, 1) := by decide +kernel
theorem dL_owed_13 : decode cL_owed 13 = .ok (.ireturn, 1) := by decide +kernel
theorem dL_owed_14 : decode cL_owed 14 = .ok (.iconst 0, 1) := by decide +kernel
theorem dL_owed_15 : decode cL_owed 15 = .ok (.ireturn, 1) := by decide +kernel
set_option maxRecDepth 20000 in
theorem ggL_paid_X6_paid : GoodIn wsL_paid wsX6_paid := goodIn_ca (goodIn_r _ [6, 7, 8, 9, 10, 11, 5, 12, 13, 14, 15, 16, 17, 18, 19, 20, 21, 22, 23, 24, 25, 26, 27, 28, 29, 30, 31, 32] (by decide +kernel) (by decide +kernel)) (goodIn_sub (fun _ h => List.mem_cons_of_mem _ (List.mem_append_right _ h)) (by decide +kernel))
set_option maxRecDepth 20000 in
theorem gL_paid_X6_paid : GoodIn wsL_paid (wsV RL 89 RX6 yX6_paid wsX6_paid) := goodIn_app (goodIn_of _ (by decide +kernel)) ggL_paid_X6_paid
theorem dL_paid_0 : decode cL_paid 0 = .ok (.aload_n 2, 1) := by decide +kernel
theorem dL_paid_1 : decode cL_paid 1 = .ok (.iconst 0, 1) := by decide +kernel
theorem dL_paid_2 : decode cL_paid 2 = .ok (.aload_n 0, 1) := by decide +kernel
theorem dL_paid_3 : decode cL_paid 3 = .ok (.iload_n 1, 1) := by decide +kernel
theorem dL_paid_4 : decode cL_paid 4 = .ok (.invokevirtual 89, 3) := by decide +kernel
theorem dL_paid_7 : decode cL_paid 7 = .ok (.lastore, 1) := by decide +kernel
theorem dL_paid_8 : decode cL_paid 8 = .ok (.goto 6, 3) := by decide +kernel
theorem dL_paid_11 : decode cL_paid 11 = .ok (.astore_n 3, 1) := by decide +kernel
theorem dL_paid_12 : decode cL_paid 12 = .ok (.iconst 1, 1) := by decide +kernel
theorem dL_paid_13 : decode cL_paid 13 = .ok (.ireturn, 1) := by decide +kernel
theorem dL_paid_14 : decode cL_paid 14 = .ok (.iconst 0, 1) := by decide +kernel
theorem dL_paid_15 : decode cL_paid 15 = .ok (.ireturn, 1) := by decide +kernel
set_option maxRecDepth 20000 in
theorem ggL_law_X6_init : GoodIn wsL_law wsX6_init := goodIn_r _ [9, 10, 11, 12, 13, 14, 15, 16, 17, 18, 19, 20, 21, 22, 23, 24, 25, 26, 27, 28, 29, 30, 31, 32, 33, 6, 34, 35, 36, 37, 38, 39, 40, 41, 42, 43, 44, 45, 46, 47, 48, 670, 671, 672, 673, 674, 675, 676, 677, 678, 679, 680, 681, 682, 683, 684, 685, 686, 687, 688, 689, 730, 731, 732] (by decide +kernel) (by decide +kernel)
