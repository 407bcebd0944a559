set_option maxRecDepth 20000 in
theorem ggX6_due_X6_settle : GoodIn wsX6_due wsX6_settle := goodIn_r _ [22, 23, 10, 15, 9, 24, 25, 26, 7, 27, 28, 29, 30, 31, 32, 33, 34, 35, 36, 37, 38, 39, 40, 41, 42, 43, 44, 45, 46, 47, 48, 49, 50, 51, 52, 53, 54, 55, 56, 57, 58, 59, 60, 61, 62, 63, 64, 65, 66, 67, 68, 69, 70, 71, 72, 73, 74, 75, 76, 77, 78, 79, 80, 81, 82, 83, 84, 85, 86, 87, 88, 89, 90, 91, 92, 93, 94, 95, 96, 97, 98, 99, 100, 101, 102, 103, 104, 105, 106, 107, 108, 3, 109, 110, 111, 112, 113, 114, 115, 116, 117, 118, 119, 120, 121, 122, 123, 124, 125, 126, 127, 128, 129, 130, 131, 132, 133, 134, 135, 136, 137, 138, 139, 140, 148, 149, 150, 151, 152, 153, 154, 155, 156, 157, 158, 159, 160, 161, 162, 163, 164, 165, 166, 167, 141, 142, 143, 144, 145, 146, 147, 168, 169, 170, 171, 172, 173, 174, 175, 176, 177, 178, 179, 180, 181, 182, 183, 184] (by decide +kernel) (by decide +kernel)
set_option maxRecDepth 20000 in
theorem gX6_due_X6_settle : GoodIn wsX6_due (wsV RX6 265 RX6 yX6_settle wsX6_settle) := goodIn_app (goodIn_of _ (by decide +kernel)) ggX6_due_X6_settle
theorem dX6_due_0 : decode cX6_due 0 = .ok (.aload_n 0, 1) := by decide +kernel
theorem dX6_due_1 : decode cX6_due 1 = .ok (.iload_n 1, 1) := by decide +kernel
theorem dX6_due_2 : decode cX6_due 2 = .ok (.iload_n 2, 1) := by decide +kernel
theorem dX6_due_3 : decode cX6_due 3 = .ok (.invokevirtual 240, 3) := by decide +kernel
theorem dX6_due_6 : decode cX6_due 6 = .ok (.astore 4, 2) := by decide +kernel
theorem dX6_due_8 : decode cX6_due 8 = .ok (.aload 4, 2) := by decide +kernel
theorem dX6_due_10 : decode cX6_due 10 = .ok (.ifnull 10, 3) := by decide +kernel
theorem dX6_due_13 : decode cX6_due 13 = .ok (.iload_n 3, 1) := by decide +kernel
theorem dX6_due_14 : decode cX6_due 14 = .ok (.invokestatic 105, 3) := by decide +kernel
theorem dX6_due_17 : decode cX6_due 17 = .ok (.ifCond .ne 13, 3) := by decide +kernel
theorem dX6_due_20 : decode cX6_due 20 = .ok (.new 109, 3) := by decide +kernel
theorem dX6_due_23 : decode cX6_due 23 = .ok (.dup, 1) := by decide +kernel
theorem dX6_due_24 : decode cX6_due 24 = .ok (.ldc 244, 2) := by decide +kernel
theorem dX6_due_26 : decode cX6_due 26 = .ok (.invokespecial 113, 3) := by decide +kernel
theorem dX6_due_29 : decode cX6_due 29 = .ok (.athrow, 1) := by decide +kernel
theorem dX6_due_30 : decode cX6_due 30 = .ok (.aload_n 0, 1) := by decide +kernel
theorem dX6_due_31 : decode cX6_due 31 = .ok (.invokevirtual 265, 3) := by decide +kernel
theorem dX6_due_34 : decode cX6_due 34 = .ok (.aload 4, 2) := by decide +kernel
theorem dX6_due_36 : decode cX6_due 36 = .ok (.getfield 268, 3) := by decide +kernel
theorem dX6_due_39 : decode cX6_due 39 = .ok (.iload_n 2, 1) := by decide +kernel
theorem dX6_due_40 : decode cX6_due 40 = .ok (.bipush 10, 2) := by decide +kernel
theorem dX6_due_42 : decode cX6_due 42 = .ok (.imul, 1) := by decide +kernel
theorem dX6_due_43 : decode cX6_due 43 = .ok (.iload_n 3, 1) := by decide +kernel
theorem dX6_due_44 : decode cX6_due 44 = .ok (.iadd, 1) := by decide +kernel
theorem dX6_due_45 : decode cX6_due 45 = .ok (.laload, 1) := by decide +kernel
theorem dX6_due_46 : decode cX6_due 46 = .ok (.l2i, 1) := by decide +kernel
theorem dX6_due_47 : decode cX6_due 47 = .ok (.ireturn, 1) := by decide +kernel
set_option maxRecDepth 20000 in
theorem ggX6_balance_X6_unitIn : GoodIn wsX6_balance wsX6_unitIn := goodIn_r _ [8, 9, 10, 11, 12, 13, 7, 14, 15, 141, 142, 143, 144, 145, 146, 147, 148, 149, 150, 151, 152, 153, 154, 155, 156, 157, 158, 159, 160, 161, 162, 163, 164, 165, 166, 167] (by decide +kernel) (by decide +kernel)
set_option maxRecDepth 20000 in
theorem gX6_balance_X6_unitIn : GoodIn wsX6_balance (wsV RX6 240 RX6 yX6_unitIn wsX6_unitIn) := goodIn_app (goodIn_of _ (by decide +kernel)) ggX6_balance_X6_unitIn
set_option maxRecDepth 20000 in
theorem ggX6_balance_X6_isOwner : GoodIn wsX6_balance wsX6_isOwner := goodIn_r _ [18] (by decide +kernel) (by decide +kernel)
set_option maxRecDepth 20000 in
theorem gX6_balance_X6_isOwner : GoodIn wsX6_balance (va_wsS RX6 105 yX6_isOwner wsX6_isOwner) := goodIn_app (goodIn_of _ (by decide +kernel)) ggX6_balance_X6_isOwner
set_option maxRecDepth 20000 in
theorem ggX6_balance_X6_settle : GoodIn wsX6_balance wsX6_settle := goodIn_r _ [22, 23, 10, 15, 9, 24, 25, 26, 7, 27, 28, 29, 30, 31, 32, 33, 34, 35, 36, 37, 38, 39, 40, 41, 42, 43, 44, 45, 46, 47, 48, 49, 50, 51, 52, 53, 54, 55, 56, 57, 58, 59, 60, 61, 62, 63, 64, 65, 66, 67, 68, 69, 70, 71, 72, 73, 74, 75, 76, 77, 78, 79, 80, 81, 82, 83, 84, 85, 86, 87, 88, 89, 90, 91, 92, 93, 3, 94, 95, 96, 97, 98, 99, 100, 101, 102, 103, 104, 105, 106, 107, 108, 109, 110, 111, 112, 113, 114, 115, 116, 117, 118, 119, 120, 121, 122, 123, 124, 125, 126, 127, 128, 129, 130, 131, 132, 133, 134, 135, 136, 137, 138, 139, 140, 148, 149, 150, 151, 152, 153, 154, 155, 156, 157, 158, 159, 160, 161, 162, 163, 164, 165, 166, 167, 141, 142, 143, 144, 145, 146, 147, 168, 169, 170, 171, 172, 173, 174, 175, 176, 177, 178, 179, 180, 181, 182, 183, 184] (by decide +kernel) (by decide +kernel)
set_option maxRecDepth 20000 in
theorem gX6_balance_X6_settle : GoodIn wsX6_balance (wsV RX6 265 RX6 yX6_settle wsX6_settle) := goodIn_app (goodIn_of _ (by decide +kernel)) ggX6_balance_X6_settle
theorem dX6_balance_0 : decode cX6_balance 0 = .ok (.aload_n 0, 1) := by decide +kernel
theorem dX6_balance_1 : decode cX6_balance 1 = .ok (.iload_n 1, 1) := by decide +kernel
theorem dX6_balance_2 : decode cX6_balance 2 = .ok (.iload_n 2, 1) := by decide +kernel
theorem dX6_balance_3 : decode cX6_balance 3 = .ok (.invokevirtual 240, 3) := by decide +kernel
theorem dX6_balance_6 : decode cX6_balance 6 = .ok (.astore 4, 2) := by decide +kernel
theorem dX6_balance_8 : decode cX6_balance 8 = .ok (.aload 4, 2) := by decide +kernel
theorem dX6_balance_10 : decode cX6_balance 10 = .ok (.ifnull 10, 3) := by decide +kernel
theorem dX6_balance_13 : decode cX6_balance 13 = .ok (.iload_n 3, 1) := by decide +kernel
theorem dX6_balance_14 : decode cX6_balance 14 = .ok (.invokestatic 105, 3) := by decide +kernel
theorem dX6_balance_17 : decode cX6_balance 17 = .ok (.ifCond .ne 13, 3) := by decide +kernel
theorem dX6_balance_20 : decode cX6_balance 20 = .ok (.new 109, 3) := by decide +kernel
theorem dX6_balance_23 : decode cX6_balance 23 = .ok (.dup, 1) := by decide +kernel
theorem dX6_balance_24 : decode cX6_balance 24 = .ok (.ldc 244, 2) := by decide +kernel
theorem dX6_balance_26 : decode cX6_balance 26 = .ok (.invokespecial 113, 3) := by decide +kernel
theorem dX6_balance_29 : decode cX6_balance 29 = .ok (.athrow, 1) := by decide +kernel
theorem dX6_balance_30 : decode cX6_balance 30 = .ok (.aload_n 0, 1) := by decide +kernel
theorem dX6_balance_31 : decode cX6_balance 31 = .ok (.invokevirtual 265, 3) := by decide +kernel
theorem dX6_balance_34 : decode cX6_balance 34 = .ok (.aload 4, 2) := by decide +kernel
theorem dX6_balance_36 : decode cX6_balance 36 = .ok (.getfield 271, 3) := by decide +kernel
theorem dX6_balance_39 : decode cX6_balance 39 = .ok (.iload_n 2, 1) := by decide +kernel
theorem dX6_balance_40 : decode cX6_balance 40 = .ok (.bipush 10, 2) := by decide +kernel
theorem dX6_balance_42 : decode cX6_balance 42 = .ok (.imul, 1) := by decide +kernel
theorem dX6_balance_43 : decode cX6_balance 43 = .ok (.iload_n 3, 1) := by decide +kernel
theorem dX6_balance_44 : decode cX6_balance 44 = .ok (.iadd, 1) := by decide +kernel
theorem dX6_balance_45 : decode cX6_balance 45 = .ok (.laload, 1) := by decide +kernel
theorem dX6_balance_46 : decode cX6_balance 46 = .ok (.lreturn, 1) := by decide +kernel
set_option maxRecDepth 20000 in
theorem ggX6_agrees_X6_unitIn : GoodIn wsX6_agrees wsX6_unitIn := goodIn_r _ [9, 10, 11, 12, 13, 14, 8, 15, 16, 138, 139, 140, 141, 142, 143, 144, 145, 146, 147, 148, 149, 150, 151, 152, 153, 154, 155, 156, 157, 158, 159, 160, 161, 162, 163, 164] (by decide +kernel) (by decide +kernel)
set_option maxRecDepth 20000 in
theorem gX6_agrees_X6_unitIn : GoodIn wsX6_agrees (wsV RX6 240 RX6 yX6_unitIn wsX6_unitIn) := goodIn_app (goodIn_of _ (by decide +kernel)) ggX6_agrees_X6_unitIn
set_option maxRecDepth 20000 in
theorem ggX6_agrees_X6_settle : GoodIn wsX6_agrees wsX6_settle := goodIn_r _ [20, 21, 11, 16, 10, 22, 23, 24, 8, 25, 26, 4, 27, 28, 29, 30, 31, 32, 33, 34, 35, 36, 37, 38, 39, 40, 41, 42, 43, 44, 45, 46, 47, 48, 49, 50, 51, 52, 53, 54, 55, 56, 57, 58, 59, 60, 61, 62, 63, 64, 65, 66, 67, 68, 69, 70, 71, 72, 73, 74, 75, 76, 77, 78, 79, 80, 81, 82, 83, 84, 85, 86, 87, 88, 89, 90, 91, 92, 93, 94, 95, 96, 97, 98, 99, 100, 101, 102, 103, 104, 105, 3, 106, 107, 108, 109, 110, 111, 112, 113, 114, 115, 116, 117, 118, 119, 120, 121, 122, 123, 124, 125, 126, 127, 128, 129, 130, 131, 132, 133, 134, 135, 136, 137, 145, 146, 147, 148, 149, 150, 151, 152, 153, 154, 155, 156, 157, 158, 159, 160, 161, 162, 163, 164, 138, 139, 140, 141, 142, 143, 144, 165, 166, 167, 168, 169, 170, 171, 172, 173, 174, 175, 176, 177, 178, 179, 180, 181] (by decide +kernel) (by decide +kernel)
set_option maxRecDepth 20000 in
theorem gX6_agrees_X6_settle : GoodIn wsX6_agrees (wsV RX6 265 RX6 yX6_settle wsX6_settle) := goodIn_app (goodIn_of _ (by decide +kernel)) ggX6_agrees_X6_settle
set_option maxRecDepth 20000 in
theorem ggX6_agrees_X6_revenueOf : GoodIn wsX6_agrees wsX6_revenueOf := goodIn_r _ [132, 26, 105, 133, 134, 135, 8, 136, 137, 138, 139, 140, 141, 142, 143, 144, 145, 146, 147, 148, 149, 150, 151, 152, 153, 154, 155, 156, 157, 158, 159, 160, 161, 162, 163, 164] (by decide +kernel) (by decide +kernel)
set_option maxRecDepth 20000 in
theorem gX6_agrees_X6_revenueOf : GoodIn wsX6_agrees (wsV RX6 261 RX6 yX6_revenueOf wsX6_revenueOf) := goodIn_app (goodIn_of _ (by decide +kernel)) ggX6_agrees_X6_revenueOf
theorem dX6_agrees_0 : decode cX6_agrees 0 = .ok (.aload_n 0, 1) := by decide +kernel
theorem dX6_agrees_1 : decode cX6_agrees 1 = .ok (.iload_n 1, 1) := by decide +kernel
theorem dX6_agrees_2 : decode cX6_agrees 2 = .ok (.iload_n 2, 1) := by decide +kernel
theorem dX6_agrees_3 : decode cX6_agrees 3 = .ok (.invokevirtual 240, 3) := by decide +kernel
theorem dX6_agrees_6 : decode cX6_agrees 6 = .ok (.astore_n 3, 1) := by decide +kernel
theorem dX6_agrees_7 : decode cX6_agrees 7 = .ok (.aload_n 3, 1) := by decide +kernel
theorem dX6_agrees_8 : decode cX6_agrees 8 = .ok (.ifnonnull 14, 3) := by decide +kernel
theorem dX6_agrees_11 : decode cX6_agrees 11 = .ok (.new 109, 3) := by decide +kernel
theorem dX6_agrees_14 : decode cX6_agrees 14 = .ok (.dup, 1) := by decide +kernel
theorem dX6_agrees_15 : decode cX6_agrees 15 = .ok (.ldc_w 259, 3) := by decide +kernel
theorem dX6_agrees_18 : decode cX6_agrees 18 = .ok (.invokespecial 113, 3) := by decide +kernel
theorem dX6_agrees_21 : decode cX6_agrees 21 = .ok (.athrow, 1) := by decide +kernel
theorem dX6_agrees_22 : decode cX6_agrees 22 = .ok (.aload_n 0, 1) := by decide +kernel
theorem dX6_agrees_23 : decode cX6_agrees 23 = .ok (.invokevirtual 265, 3) := by decide +kernel
theorem dX6_agrees_26 : decode cX6_agrees 26 = .ok (.lconst 0, 1) := by decide +kernel
theorem dX6_agrees_27 : decode cX6_agrees 27 = .ok (.lstore 4, 2) := by decide +kernel
theorem dX6_agrees_29 : decode cX6_agrees 29 = .ok (.iconst 0, 1) := by decide +kernel
theorem dX6_agrees_30 : decode cX6_agrees 30 = .ok (.istore 6, 2) := by decide +kernel
theorem dX6_agrees_32 : decode cX6_agrees 32 = .ok (.iload 6, 2) := by decide +kernel
theorem dX6_agrees_34 : decode cX6_agrees 34 = .ok (.bipush 10, 2) := by decide +kernel
theorem dX6_agrees_36 : decode cX6_agrees 36 = .ok (.if_icmp .ge 26, 3) := by decide +kernel
theorem dX6_agrees_39 : decode cX6_agrees 39 = .ok (.lload 4, 2) := by decide +kernel
theorem dX6_agrees_41 : decode cX6_agrees 41 = .ok (.aload_n 3, 1) := by decide +kernel
theorem dX6_agrees_42 : decode cX6_agrees 42 = .ok (.getfield 268, 3) := by decide +kernel
theorem dX6_agrees_45 : decode cX6_agrees 45 = .ok (.iload_n 2, 1) := by decide +kernel
theorem dX6_agrees_46 : decode cX6_agrees 46 = .ok (.bipush 10, 2) := by decide +kernel
theorem dX6_agrees_48 : decode cX6_agrees 48 = .ok (.imul, 1) := by decide +kernel
theorem dX6_agrees_49 : decode cX6_agrees 49 = .ok (.iload 6, 2) := by decide +kernel
theorem dX6_agrees_51 : decode cX6_agrees 51 = .ok (.iadd, 1) := by decide +kernel
theorem dX6_agrees_52 : decode cX6_agrees 52 = .ok (.laload, 1) := by decide +kernel
theorem dX6_agrees_53 : decode cX6_agrees 53 = .ok (.ladd, 1) := by decide +kernel
theorem dX6_agrees_54 : decode cX6_agrees 54 = .ok (.lstore 4, 2) := by decide +kernel
theorem dX6_agrees_56 : decode cX6_agrees 56 = .ok (.iinc 6 1, 3) := by decide +kernel
theorem dX6_agrees_59 : decode cX6_agrees 59 = .ok (.goto (-27), 3) := by decide +kernel
theorem dX6_agrees_62 : decode cX6_agrees 62 = .ok (.lload 4, 2) := by decide +kernel
theorem dX6_agrees_64 : decode cX6_agrees 64 = .ok (.aload_n 0, 1) := by decide +kernel
theorem dX6_agrees_65 : decode cX6_agrees 65 = .ok (.aload_n 3, 1) := by decide +kernel
theorem dX6_agrees_66 : decode cX6_agrees 66 = .ok (.iload_n 2, 1) := by decide +kernel
theorem dX6_agrees_67 : decode cX6_agrees 67 = .ok (.invokevirtual 261, 3) := by decide +kernel
theorem dX6_agrees_70 : decode cX6_agrees 70 = .ok (.aload_n 3, 1) := by decide +kernel
theorem dX6_agrees_71 : decode cX6_agrees 71 = .ok (.getfield 222, 3) := by decide +kernel
theorem dX6_agrees_74 : decode cX6_agrees 74 = .ok (.iload_n 2, 1) := by decide +kernel
theorem dX6_agrees_75 : decode cX6_agrees 75 = .ok (.iaload, 1) := by decide +kernel
theorem dX6_agrees_76 : decode cX6_agrees 76 = .ok (.i2l, 1) := by decide +kernel
theorem dX6_agrees_77 : decode cX6_agrees 77 = .ok (.lsub, 1) := by decide +kernel
theorem dX6_agrees_78 : decode cX6_agrees 78 = .ok (.lcmp, 1) := by decide +kernel
theorem dX6_agrees_79 : decode cX6_agrees 79 = .ok (.ifCond .ne 7, 3) := by decide +kernel
theorem dX6_agrees_82 : decode cX6_agrees 82 = .ok (.iconst 1, 1) := by decide +kernel
theorem dX6_agrees_83 : decode cX6_agrees 83 = .ok (.goto 4, 3) := by decide +kernel
theorem dX6_agrees_86 : decode cX6_agrees 86 = .ok (.iconst 0, 1) := by decide +kernel
theorem dX6_agrees_87 : decode cX6_agrees 87 = .ok (.ireturn, 1) := by decide +kernel
set_option maxRecDepth 20000 in
theorem ggX6_suspend_X6_isOwner : GoodIn wsX6_suspend wsX6_isOwner := goodIn_r _ [7] (by decide +kernel) (by decide +kernel)
set_option maxRecDepth 20000 in
theorem gX6_suspend_X6_isOwner : GoodIn wsX6_suspend (va_wsS RX6 105 yX6_isOwner wsX6_isOwner) := goodIn_app (goodIn_of _ (by decide +kernel)) ggX6_suspend_X6_isOwner
set_option maxRecDepth 20000 in
theorem ggX6_suspend_X6_hasBit : GoodIn wsX6_suspend wsX6_hasBit := goodIn_r _ [10] (by decide +kernel) (by decide +kernel)
set_option maxRecDepth 20000 in
theorem gX6_suspend_X6_hasBit : GoodIn wsX6_suspend (va_wsS RX6 175 yX6_hasBit wsX6_hasBit) := goodIn_app (goodIn_of _ (by decide +kernel)) ggX6_suspend_X6_hasBit
set_option maxRecDepth 20000 in
theorem ggX6_suspend_X6_withBit : GoodIn wsX6_suspend wsX6_withBit := goodIn_r _ [13] (by decide +kernel) (by decide +kernel)
set_option maxRecDepth 20000 in
theorem gX6_suspend_X6_withBit : GoodIn wsX6_suspend (va_wsS RX6 236 yX6_withBit wsX6_withBit) := goodIn_app (goodIn_of _ (by decide +kernel)) ggX6_suspend_X6_withBit
theorem dX6_suspend_0 : decode cX6_suspend 0 = .ok (.iload_n 1, 1) := by decide +kernel
theorem dX6_suspend_1 : decode cX6_suspend 1 = .ok (.invokestatic 105, 3) := by decide +kernel
theorem dX6_suspend_4 : decode cX6_suspend 4 = .ok (.ifCond .ne 13, 3) := by decide +kernel
theorem dX6_suspend_7 : decode cX6_suspend 7 = .ok (.new 109, 3) := by decide +kernel
theorem dX6_suspend_10 : decode cX6_suspend 10 = .ok (.dup, 1) := by decide +kernel
theorem dX6_suspend_11 : decode cX6_suspend 11 = .ok (.ldc 111, 2) := by decide +kernel
theorem dX6_suspend_13 : decode cX6_suspend 13 = .ok (.invokespecial 113, 3) := by decide +kernel
theorem dX6_suspend_16 : decode cX6_suspend 16 = .ok (.athrow, 1) := by decide +kernel
theorem dX6_suspend_17 : decode cX6_suspend 17 = .ok (.aload_n 0, 1) := by decide +kernel
theorem dX6_suspend_18 : decode cX6_suspend 18 = .ok (.getfield 65, 3) := by decide +kernel
theorem dX6_suspend_21 : decode cX6_suspend 21 = .ok (.iload_n 1, 1) := by decide +kernel
theorem dX6_suspend_22 : decode cX6_suspend 22 = .ok (.invokestatic 175, 3) := by decide +kernel
theorem dX6_suspend_25 : decode cX6_suspend 25 = .ok (.istore_n 3, 1) := by decide +kernel
theorem dX6_suspend_26 : decode cX6_suspend 26 = .ok (.aload_n 0, 1) := by decide +kernel
theorem dX6_suspend_27 : decode cX6_suspend 27 = .ok (.aload_n 0, 1) := by decide +kernel
theorem dX6_suspend_28 : decode cX6_suspend 28 = .ok (.getfield 65, 3) := by decide +kernel
theorem dX6_suspend_31 : decode cX6_suspend 31 = .ok (.iload_n 1, 1) := by decide +kernel
theorem dX6_suspend_32 : decode cX6_suspend 32 = .ok (.iload_n 2, 1) := by decide +kernel
theorem dX6_suspend_33 : decode cX6_suspend 33 = .ok (.invokestatic 236, 3) := by decide +kernel
theorem dX6_suspend_36 : decode cX6_suspend 36 = .ok (.putfield 65, 3) := by decide +kernel
theorem dX6_suspend_39 : decode cX6_suspend 39 = .ok (.iload_n 3, 1) := by decide +kernel
theorem dX6_suspend_40 : decode cX6_suspend 40 = .ok (.ireturn, 1) := by decide +kernel
theorem dX6_least_0 : decode cX6_least 0 = .ok (.iload_n 1, 1) := by decide +kernel
theorem dX6_least_1 : decode cX6_least 1 = .ok (.iconst 1, 1) := by decide +kernel
theorem dX6_least_2 : decode cX6_least 2 = .ok (.if_icmp .lt 10, 3) := by decide +kernel
theorem dX6_least_5 : decode cX6_least 5 = .ok (.iload_n 1, 1) := by decide +kernel
theorem dX6_least_6 : decode cX6_least 6 = .ok (.ldc_w 274, 3) := by decide +kernel
theorem dX6_least_9 : decode cX6_least 9 = .ok (.if_icmp .le 13, 3) := by decide +kernel
theorem dX6_least_12 : decode cX6_least 12 = .ok (.new 93, 3) := by decide +kernel
theorem dX6_least_15 : decode cX6_least 15 = .ok (.dup, 1) := by decide +kernel
theorem dX6_least_16 : decode cX6_least 16 = .ok (.ldc 214, 2) := by decide +kernel
theorem dX6_least_18 : decode cX6_least 18 = .ok (.invokespecial 97, 3) := by decide +kernel
theorem dX6_least_21 : decode cX6_least 21 = .ok (.athrow, 1) := by decide +kernel
theorem dX6_least_22 : decode cX6_least 22 = .ok (.aload_n 0, 1) := by decide +kernel
theorem dX6_least_23 : decode cX6_least 23 = .ok (.getfield 68, 3) := by decide +kernel
theorem dX6_least_26 : decode cX6_least 26 = .ok (.istore_n 2, 1) := by decide +kernel
theorem dX6_least_27 : decode cX6_least 27 = .ok (.aload_n 0, 1) := by decide +kernel
theorem dX6_least_28 : decode cX6_least 28 = .ok (.iload_n 1, 1) := by decide +kernel
theorem dX6_least_29 : decode cX6_least 29 = .ok (.putfield 68, 3) := by decide +kernel
theorem dX6_least_32 : decode cX6_least 32 = .ok (.iload_n 2, 1) := by decide +kernel
theorem dX6_least_33 : decode cX6_least 33 = .ok (.ireturn, 1) := by decide +kernel
set_option maxRecDepth 20000 in
theorem ggX6_payDay_X6_settle : GoodIn wsX6_payDay wsX6_settle := goodIn_r _ [8, 9, 10, 11, 12, 13, 14, 15, 7, 16, 17, 18, 19, 20, 21, 22, 23, 24, 25, 26, 27, 28, 29, 30, 31, 32, 33, 34, 35, 36, 37, 38, 39, 40, 41, 42, 43, 44, 45, 46, 47, 48, 49, 50, 51, 52, 53, 54, 55, 56, 57, 58, 59, 60, 61, 62, 63, 64, 65, 66, 67, 68, 69, 70, 71, 72, 73, 74, 75, 76, 77, 78, 79, 80, 81, 82, 83, 84, 85, 86, 87, 88, 89, 90, 91, 92, 93, 94, 95, 96, 97, 98, 99, 100, 101, 102, 103, 104, 105, 106, 107, 108, 109, 110, 111, 112, 113, 114, 115, 116, 117, 118, 119, 120, 121, 122, 123, 124, 125, 126, 127, 128, 129, 130, 135, 136, 137, 138, 139, 140, 141, 142, 143, 144, 145, 146, 147, 148, 149, 150, 151, 152, 153, 154, 155, 156, 157, 158, 159, 160, 161, 162, 163, 164, 165, 166, 167, 168, 169, 170, 171, 172, 173, 174, 175, 176, 177, 178] (by decide +kernel) (by decide +kernel)
set_option maxRecDepth 20000 in
theorem gX6_payDay_X6_settle : GoodIn wsX6_payDay (wsV RX6 265 RX6 yX6_settle wsX6_settle) := goodIn_app (goodIn_of _ (by decide +kernel)) ggX6_payDay_X6_settle
set_option maxRecDepth 20000 in
theorem ggX6_payDay_X6_hasBit : GoodIn wsX6_payDay wsX6_hasBit := goodIn_r _ [86] (by decide +kernel) (by decide +kernel)
set_option maxRecDepth 20000 in
theorem gX6_payDay_X6_hasBit : GoodIn wsX6_payDay (va_wsS RX6 175 yX6_hasBit wsX6_hasBit) := goodIn_app (goodIn_of _ (by decide +kernel)) ggX6_payDay_X6_hasBit
set_option maxRecDepth 20000 in
theorem ggX6_payDay_X6_settledOwed : GoodIn wsX6_payDay wsX6_settledOwed := goodIn_r _ [134, 3, 11, 12, 10, 98, 135, 136, 137, 138, 139, 140, 141, 142, 143, 144, 145, 146, 147, 148, 149, 150, 151, 152, 153, 154, 155, 156, 157, 158, 159, 160, 161] (by decide +kernel) (by decide +kernel)
set_option maxRecDepth 20000 in
theorem gX6_payDay_X6_settledOwed : GoodIn wsX6_payDay (wsV RX6 275 RX6 yX6_settledOwed wsX6_settledOwed) := goodIn_app (goodIn_of _ (by decide +kernel)) ggX6_payDay_X6_settledOwed
theorem dX6_payDay_0 : decode cX6_payDay 0 = .ok (.aload_n 0, 1) := by decide +kernel
theorem dX6_payDay_1 : decode cX6_payDay 1 = .ok (.invokevirtual 265, 3) := by decide +kernel
theorem dX6_payDay_4 : decode cX6_payDay 4 = .ok (.lconst 0, 1) := by decide +kernel
theorem dX6_payDay_5 : decode cX6_payDay 5 = .ok (.lstore_n 1, 1) := by decide +kernel
theorem dX6_payDay_6 : decode cX6_payDay 6 = .ok (.iconst 0, 1) := by decide +kernel
theorem dX6_payDay_7 : decode cX6_payDay 7 = .ok (.istore_n 3, 1) := by decide +kernel
theorem dX6_payDay_8 : decode cX6_payDay 8 = .ok (.iload_n 3, 1) := by decide +kernel
theorem dX6_payDay_9 : decode cX6_payDay 9 = .ok (.bipush 10, 2) := by decide +kernel
theorem dX6_payDay_11 : decode cX6_payDay 11 = .ok (.if_icmp .ge 58, 3) := by decide +kernel
theorem dX6_payDay_14 : decode cX6_payDay 14 = .ok (.aload_n 0, 1) := by decide +kernel
theorem dX6_payDay_15 : decode cX6_payDay 15 = .ok (.getfield 65, 3) := by decide +kernel
theorem dX6_payDay_18 : decode cX6_payDay 18 = .ok (.iload_n 3, 1) := by decide +kernel
theorem dX6_payDay_19 : decode cX6_payDay 19 = .ok (.invokestatic 175, 3) := by decide +kernel
theorem dX6_payDay_22 : decode cX6_payDay 22 = .ok (.ifCond .eq 7, 3) := by decide +kernel
theorem dX6_payDay_25 : decode cX6_payDay 25 = .ok (.lconst 0, 1) := by decide +kernel
theorem dX6_payDay_26 : decode cX6_payDay 26 = .ok (.goto 8, 3) := by decide +kernel
theorem dX6_payDay_29 : decode cX6_payDay 29 = .ok (.aload_n 0, 1) := by decide +kernel
theorem dX6_payDay_30 : decode cX6_payDay 30 = .ok (.iload_n 3, 1) := by decide +kernel
theorem dX6_payDay_31 : decode cX6_payDay 31 = .ok (.invokevirtual 275, 3) := by decide +kernel
theorem dX6_payDay_34 : decode cX6_payDay 34 = .ok (.lstore 4, 2) := by decide +kernel
theorem dX6_payDay_36 : decode cX6_payDay 36 = .ok (.lload 4, 2) := by decide +kernel
theorem dX6_payDay_38 : decode cX6_payDay 38 = .ok (.aload_n 0, 1) := by decide +kernel
theorem dX6_payDay_39 : decode cX6_payDay 39 = .ok (.getfield 68, 3) := by decide +kernel
theorem dX6_payDay_42 : decode cX6_payDay 42 = .ok (.i2l, 1) := by decide +kernel
theorem dX6_payDay_43 : decode cX6_payDay 43 = .ok (.lcmp, 1) := by decide +kernel
theorem dX6_payDay_44 : decode cX6_payDay 44 = .ok (.ifCond .lt 19, 3) := by decide +kernel
theorem dX6_payDay_47 : decode cX6_payDay 47 = .ok (.aload_n 0, 1) := by decide +kernel
theorem dX6_payDay_48 : decode cX6_payDay 48 = .ok (.getfield 71, 3) := by decide +kernel
theorem dX6_payDay_51 : decode cX6_payDay 51 = .ok (.iload_n 3, 1) := by decide +kernel
theorem dX6_payDay_52 : decode cX6_payDay 52 = .ok (.dup2, 1) := by decide +kernel
theorem dX6_payDay_53 : decode cX6_payDay 53 = .ok (.laload, 1) := by decide +kernel
theorem dX6_payDay_54 : decode cX6_payDay 54 = .ok (.lload 4, 2) := by decide +kernel
theorem dX6_payDay_56 : decode cX6_payDay 56 = .ok (.ladd, 1) := by decide +kernel
theorem dX6_payDay_57 : decode cX6_payDay 57 = .ok (.lastore, 1) := by decide +kernel
theorem dX6_payDay_58 : decode cX6_payDay 58 = .ok (.lload_n 1, 1) := by decide +kernel
theorem dX6_payDay_59 : decode cX6_payDay 59 = .ok (.lload 4, 2) := by decide +kernel
theorem dX6_payDay_61 : decode cX6_payDay 61 = .ok (.ladd, 1) := by decide +kernel
theorem dX6_payDay_62 : decode cX6_payDay 62 = .ok (.lstore_n 1, 1) := by decide +kernel
theorem dX6_payDay_63 : decode cX6_payDay 63 = .ok (.iinc 3 1, 3) := by decide +kernel
theorem dX6_payDay_66 : decode cX6_payDay 66 = .ok (.goto (-58), 3) := by decide +kernel
theorem dX6_payDay_69 : decode cX6_payDay 69 = .ok (.lload_n 1, 1) := by decide +kernel
theorem dX6_payDay_70 : decode cX6_payDay 70 = .ok (.lreturn, 1) := by decide +kernel
set_option maxRecDepth 20000 in
theorem ggX6_owed_X6_isOwner : GoodIn wsX6_owed wsX6_isOwner := goodIn_r _ [6] (by decide +kernel) (by decide +kernel)
set_option maxRecDepth 20000 in
theorem gX6_owed_X6_isOwner : GoodIn wsX6_owed (va_wsS RX6 105 yX6_isOwner wsX6_isOwner) := goodIn_app (goodIn_of _ (by decide +kernel)) ggX6_owed_X6_isOwner
set_option maxRecDepth 20000 in
theorem ggX6_owed_X6_settle : GoodIn wsX6_owed wsX6_settle := goodIn_r _ [10, 11, 12, 13, 14, 15, 16, 17, 5, 18, 19, 20, 21, 22, 23, 24, 25, 26, 27, 28, 29, 30, 31, 32, 33, 34, 35, 36, 37, 38, 39, 40, 41, 42, 43, 44, 45, 46, 47, 48, 49, 50, 51, 52, 53, 54, 55, 56, 57, 58, 59, 60, 61, 62, 63, 64, 65, 66, 67, 68, 69, 70, 71, 72, 73, 74, 75, 76, 77, 78, 79, 80, 81, 82, 83, 84, 85, 86, 87, 88, 89, 90, 91, 92, 93, 94, 95, 96, 97, 98, 99, 100, 101, 102, 103, 104, 105, 106, 107, 108, 109, 110, 111, 112, 113, 114, 115, 116, 117, 118, 119, 120, 121, 122, 123, 124, 125, 126, 127, 128, 129, 130, 131, 132, 138, 139, 140, 141, 142, 143, 144, 145, 146, 147, 148, 149, 150, 151, 152, 153, 154, 155, 156, 157, 158, 159, 160, 161, 162, 163, 164, 165, 166, 167, 168, 169, 170, 171, 172, 173, 174, 175, 176, 177, 178, 179, 180, 181] (by decide +kernel) (by decide +kernel)
set_option maxRecDepth 20000 in
theorem gX6_owed_X6_settle : GoodIn wsX6_owed (wsV RX6 265 RX6 yX6_settle wsX6_settle) := goodIn_app (goodIn_of _ (by decide +kernel)) ggX6_owed_X6_settle
set_option maxRecDepth 20000 in
theorem ggX6_owed_X6_settledOwed : GoodIn wsX6_owed wsX6_settledOwed := goodIn_r _ [136, 137, 13, 14, 12, 100, 138, 139, 140, 141, 142, 143, 144, 145, 146, 147, 148, 149, 150, 151, 152, 153, 154, 155, 156, 157, 158, 159, 160, 161, 162, 163, 164] (by decide +kernel) (by decide +kernel)
set_option maxRecDepth 20000 in
theorem gX6_owed_X6_settledOwed : GoodIn wsX6_owed (wsV RX6 275 RX6 yX6_settledOwed wsX6_settledOwed) := goodIn_app (goodIn_of _ (by decide +kernel)) ggX6_owed_X6_settledOwed
theorem dX6_owed_0 : decode cX6_owed 0 = .ok (.iload_n 1, 1) := by decide +kernel
theorem dX6_owed_1 : decode cX6_owed 1 = .ok (.invokestatic 105, 3) := by decide +kernel
theorem dX6_owed_4 : decode cX6_owed 4 = .ok (.ifCond .ne 13, 3) := by decide +kernel
theorem dX6_owed_7 : decode cX6_owed 7 = .ok (.new 109, 3) := by decide +kernel
theorem dX6_owed_10 : decode cX6_owed 10 = .ok (.dup, 1) := by decide +kernel
theorem dX6_owed_11 : decode cX6_owed 11 = .ok (.ldc 111, 2) := by decide +kernel
theorem dX6_owed_13 : decode cX6_owed 13 = .ok (.invokespecial 113, 3) := by decide +kernel
theorem dX6_owed_16 : decode cX6_owed 16 = .ok (.athrow, 1) := by decide +kernel
theorem dX6_owed_17 : decode cX6_owed 17 = .ok (.aload_n 0, 1) := by decide +kernel
theorem dX6_owed_18 : decode cX6_owed 18 = .ok (.invokevirtual 265, 3) := by decide +kernel
theorem dX6_owed_21 : decode cX6_owed 21 = .ok (.aload_n 0, 1) := by decide +kernel
theorem dX6_owed_22 : decode cX6_owed 22 = .ok (.iload_n 1, 1) := by decide +kernel
theorem dX6_owed_23 : decode cX6_owed 23 = .ok (.invokevirtual 275, 3) := by decide +kernel
theorem dX6_owed_26 : decode cX6_owed 26 = .ok (.lreturn, 1) := by decide +kernel
set_option maxRecDepth 20000 in
theorem ggX6_paid_X6_isOwner : GoodIn wsX6_paid wsX6_isOwner := goodIn_r _ [7] (by decide +kernel) (by decide +kernel)
set_option maxRecDepth 20000 in
theorem gX6_paid_X6_isOwner : GoodIn wsX6_paid (va_wsS RX6 105 yX6_isOwner wsX6_isOwner) := goodIn_app (goodIn_of _ (by decide +kernel)) ggX6_paid_X6_isOwner
theorem dX6_paid_0 : decode cX6_paid 0 = .ok (.iload_n 1, 1) := by decide +kernel
theorem dX6_paid_1 : decode cX6_paid 1 = .ok (.invokestatic 105, 3) := by decide +kernel
theorem dX6_paid_4 : decode cX6_paid 4 = .ok (.ifCond .ne 13, 3) := by decide +kernel
theorem dX6_paid_7 : decode cX6_paid 7 = .ok (.new 109, 3) := by decide +kernel
theorem dX6_paid_10 : decode cX6_paid 10 = .ok (.dup, 1) := by decide +kernel
theorem dX6_paid_11 : decode cX6_paid 11 = .ok (.ldc 111, 2) := by decide +kernel
theorem dX6_paid_13 : decode cX6_paid 13 = .ok (.invokespecial 113, 3) := by decide +kernel
theorem dX6_paid_16 : decode cX6_paid 16 = .ok (.athrow, 1) := by decide +kernel
theorem dX6_paid_17 : decode cX6_paid 17 = .ok (.aload_n 0, 1) := by decide +kernel
theorem dX6_paid_18 : decode cX6_paid 18 = .ok (.getfield 71, 3) := by decide +kernel
theorem dX6_paid_21 : decode cX6_paid 21 = .ok (.iload_n 1, 1) := by decide +kernel
theorem dX6_paid_22 : decode cX6_paid 22 = .ok (.laload, 1) := by decide +kernel
theorem dX6_paid_23 : decode cX6_paid 23 = .ok (.lreturn, 1) := by decide +kernel
theorem dX6_isOwner_0 : decode cX6_isOwner 0 = .ok (.iload_n 0, 1) := by decide +kernel
theorem dX6_isOwner_1 : decode cX6_isOwner 1 = .ok (.ifCond .lt 13, 3) := by decide +kernel
theorem dX6_isOwner_4 : decode cX6_isOwner 4 = .ok (.iload_n 0, 1) := by decide +kernel
theorem dX6_isOwner_5 : decode cX6_isOwner 5 = .ok (.bipush 10, 2) := by decide +kernel
theorem dX6_isOwner_7 : decode cX6_isOwner 7 = .ok (.if_icmp .ge 7, 3) := by decide +kernel
theorem dX6_isOwner_10 : decode cX6_isOwner 10 = .ok (.iconst 1, 1) := by decide +kernel
theorem dX6_isOwner_11 : decode cX6_isOwner 11 = .ok (.goto 4, 3) := by decide +kernel
theorem dX6_isOwner_14 : decode cX6_isOwner 14 = .ok (.iconst 0, 1) := by decide +kernel
theorem dX6_isOwner_15 : decode cX6_isOwner 15 = .ok (.ireturn, 1) := by decide +kernel
theorem dX6_isMonth_0 : decode cX6_isMonth 0 = .ok (.iload_n 1, 1) := by decide +kernel
theorem dX6_isMonth_1 : decode cX6_isMonth 1 = .ok (.ifCond .lt 15, 3) := by decide +kernel
theorem dX6_isMonth_4 : decode cX6_isMonth 4 = .ok (.iload_n 1, 1) := by decide +kernel
theorem dX6_isMonth_5 : decode cX6_isMonth 5 = .ok (.aload_n 0, 1) := by decide +kernel
theorem dX6_isMonth_6 : decode cX6_isMonth 6 = .ok (.getfield 9, 3) := by decide +kernel
theorem dX6_isMonth_9 : decode cX6_isMonth 9 = .ok (.if_icmp .gt 7, 3) := by decide +kernel
theorem dX6_isMonth_12 : decode cX6_isMonth 12 = .ok (.iconst 1, 1) := by decide +kernel
theorem dX6_isMonth_13 : decode cX6_isMonth 13 = .ok (.goto 4, 3) := by decide +kernel
theorem dX6_isMonth_16 : decode cX6_isMonth 16 = .ok (.iconst 0, 1) := by decide +kernel
theorem dX6_isMonth_17 : decode cX6_isMonth 17 = .ok (.ireturn, 1) := by decide +kernel
theorem dX6_tractAt_0 : decode cX6_tractAt 0 = .ok (.iload_n 1, 1) := by decide +kernel
theorem dX6_tractAt_1 : decode cX6_tractAt 1 = .ok (.ifCond .lt 18, 3) := by decide +kernel
theorem dX6_tractAt_4 : decode cX6_tractAt 4 = .ok (.iload_n 1, 1) := by decide +kernel
theorem dX6_tractAt_5 : decode cX6_tractAt 5 = .ok (.bipush 8, 2) := by decide +kernel
theorem dX6_tractAt_7 : decode cX6_tractAt 7 = .ok (.if_icmp .ge 12, 3) := by decide +kernel
theorem dX6_tractAt_10 : decode cX6_tractAt 10 = .ok (.aload_n 0, 1) := by decide +kernel
theorem dX6_tractAt_11 : decode cX6_tractAt 11 = .ok (.getfield 15, 3) := by decide +kernel
theorem dX6_tractAt_14 : decode cX6_tractAt 14 = .ok (.iload_n 1, 1) := by decide +kernel
theorem dX6_tractAt_15 : decode cX6_tractAt 15 = .ok (.aaload, 1) := by decide +kernel
theorem dX6_tractAt_16 : decode cX6_tractAt 16 = .ok (.goto 4, 3) := by decide +kernel
theorem dX6_tractAt_19 : decode cX6_tractAt 19 = .ok (.aconst_null, 1) := by decide +kernel
theorem dX6_tractAt_20 : decode cX6_tractAt 20 = .ok (.areturn, 1) := by decide +kernel
theorem dX6_unitAt_0 : decode cX6_unitAt 0 = .ok (.iload_n 1, 1) := by decide +kernel
theorem dX6_unitAt_1 : decode cX6_unitAt 1 = .ok (.ifCond .lt 17, 3) := by decide +kernel
theorem dX6_unitAt_4 : decode cX6_unitAt 4 = .ok (.iload_n 1, 1) := by decide +kernel
theorem dX6_unitAt_5 : decode cX6_unitAt 5 = .ok (.iconst 3, 1) := by decide +kernel
theorem dX6_unitAt_6 : decode cX6_unitAt 6 = .ok (.if_icmp .ge 12, 3) := by decide +kernel
theorem dX6_unitAt_9 : decode cX6_unitAt 9 = .ok (.aload_n 0, 1) := by decide +kernel
theorem dX6_unitAt_10 : decode cX6_unitAt 10 = .ok (.getfield 42, 3) := by decide +kernel
theorem dX6_unitAt_13 : decode cX6_unitAt 13 = .ok (.iload_n 1, 1) := by decide +kernel
theorem dX6_unitAt_14 : decode cX6_unitAt 14 = .ok (.aaload, 1) := by decide +kernel
theorem dX6_unitAt_15 : decode cX6_unitAt 15 = .ok (.goto 4, 3) := by decide +kernel
theorem dX6_unitAt_18 : decode cX6_unitAt 18 = .ok (.aconst_null, 1) := by decide +kernel
theorem dX6_unitAt_19 : decode cX6_unitAt 19 = .ok (.areturn, 1) := by decide +kernel
set_option maxRecDepth 20000 in
theorem ggX6_unitIn_X6_unitAt : GoodIn wsX6_unitIn wsX6_unitAt := goodIn_r _ [7, 8, 16, 17, 18, 19, 20, 21, 22, 23, 24, 25, 26, 27, 28, 29, 30, 31, 32, 33, 34, 35] (by decide +kernel) (by decide +kernel)
set_option maxRecDepth 20000 in
theorem gX6_unitIn_X6_unitAt : GoodIn wsX6_unitIn (wsV RX6 183 RX6 yX6_unitAt wsX6_unitAt) := goodIn_app (goodIn_of _ (by decide +kernel)) ggX6_unitIn_X6_unitAt
theorem dX6_unitIn_0 : decode cX6_unitIn 0 = .ok (.aload_n 0, 1) := by decide +kernel
theorem dX6_unitIn_1 : decode cX6_unitIn 1 = .ok (.iload_n 1, 1) := by decide +kernel
theorem dX6_unitIn_2 : decode cX6_unitIn 2 = .ok (.invokevirtual 183, 3) := by decide +kernel
theorem dX6_unitIn_5 : decode cX6_unitIn 5 = .ok (.astore_n 3, 1) := by decide +kernel
theorem dX6_unitIn_6 : decode cX6_unitIn 6 = .ok (.aload_n 3, 1) := by decide +kernel
theorem dX6_unitIn_7 : decode cX6_unitIn 7 = .ok (.ifnull 23, 3) := by decide +kernel
theorem dX6_unitIn_10 : decode cX6_unitIn 10 = .ok (.iload_n 2, 1) := by decide +kernel
theorem dX6_unitIn_11 : decode cX6_unitIn 11 = .ok (.aload_n 3, 1) := by decide +kernel
theorem dX6_unitIn_12 : decode cX6_unitIn 12 = .ok (.getfield 203, 3) := by decide +kernel
theorem dX6_unitIn_15 : decode cX6_unitIn 15 = .ok (.if_icmp .lt 15, 3) := by decide +kernel
theorem dX6_unitIn_18 : decode cX6_unitIn 18 = .ok (.iload_n 2, 1) := by decide +kernel
theorem dX6_unitIn_19 : decode cX6_unitIn 19 = .ok (.aload_n 0, 1) := by decide +kernel
theorem dX6_unitIn_20 : decode cX6_unitIn 20 = .ok (.getfield 9, 3) := by decide +kernel
theorem dX6_unitIn_23 : decode cX6_unitIn 23 = .ok (.if_icmp .gt 7, 3) := by decide +kernel
theorem dX6_unitIn_26 : decode cX6_unitIn 26 = .ok (.aload_n 3, 1) := by decide +kernel
theorem dX6_unitIn_27 : decode cX6_unitIn 27 = .ok (.goto 4, 3) := by decide +kernel
theorem dX6_unitIn_30 : decode cX6_unitIn 30 = .ok (.aconst_null, 1) := by decide +kernel
theorem dX6_unitIn_31 : decode cX6_unitIn 31 = .ok (.areturn, 1) := by decide +kernel
theorem dX6_wellAt_0 : decode cX6_wellAt 0 = .ok (.iload_n 1, 1) := by decide +kernel
theorem dX6_wellAt_1 : decode cX6_wellAt 1 = .ok (.ifCond .lt 18, 3) := by decide +kernel
theorem dX6_wellAt_4 : decode cX6_wellAt 4 = .ok (.iload_n 1, 1) := by decide +kernel
theorem dX6_wellAt_5 : decode cX6_wellAt 5 = .ok (.bipush 6, 2) := by decide +kernel
theorem dX6_wellAt_7 : decode cX6_wellAt 7 = .ok (.if_icmp .ge 12, 3) := by decide +kernel
theorem dX6_wellAt_10 : decode cX6_wellAt 10 = .ok (.aload_n 0, 1) := by decide +kernel
theorem dX6_wellAt_11 : decode cX6_wellAt 11 = .ok (.getfield 51, 3) := by decide +kernel
theorem dX6_wellAt_14 : decode cX6_wellAt 14 = .ok (.iload_n 1, 1) := by decide +kernel
theorem dX6_wellAt_15 : decode cX6_wellAt 15 = .ok (.aaload, 1) := by decide +kernel
theorem dX6_wellAt_16 : decode cX6_wellAt 16 = .ok (.goto 4, 3) := by decide +kernel
theorem dX6_wellAt_19 : decode cX6_wellAt 19 = .ok (.aconst_null, 1) := by decide +kernel
theorem dX6_wellAt_20 : decode cX6_wellAt 20 = .ok (.areturn, 1) := by decide +kernel
set_option maxRecDepth 20000 in
theorem ggX6_hasTractOfUnit_X6_hasBit : GoodIn wsX6_hasTractOfUnit wsX6_hasBit := goodIn_r _ [6] (by decide +kernel) (by decide +kernel)
set_option maxRecDepth 20000 in
theorem gX6_hasTractOfUnit_X6_hasBit : GoodIn wsX6_hasTractOfUnit (va_wsS RX6 175 yX6_hasBit wsX6_hasBit) := goodIn_app (goodIn_of _ (by decide +kernel)) ggX6_hasTractOfUnit_X6_hasBit
theorem dX6_hasTractOfUnit_0 : decode cX6_hasTractOfUnit 0 = .ok (.iconst 0, 1) := by decide +kernel
theorem dX6_hasTractOfUnit_1 : decode cX6_hasTractOfUnit 1 = .ok (.istore_n 2, 1) := by decide +kernel
theorem dX6_hasTractOfUnit_2 : decode cX6_hasTractOfUnit 2 = .ok (.iload_n 2, 1) := by decide +kernel
theorem dX6_hasTractOfUnit_3 : decode cX6_hasTractOfUnit 3 = .ok (.bipush 8, 2) := by decide +kernel
theorem dX6_hasTractOfUnit_5 : decode cX6_hasTractOfUnit 5 = .ok (.if_icmp .ge 37, 3) := by decide +kernel
theorem dX6_hasTractOfUnit_8 : decode cX6_hasTractOfUnit 8 = .ok (.aload_n 0, 1) := by decide +kernel
theorem dX6_hasTractOfUnit_9 : decode cX6_hasTractOfUnit 9 = .ok (.getfield 15, 3) := by decide +kernel
theorem dX6_hasTractOfUnit_12 : decode cX6_hasTractOfUnit 12 = .ok (.iload_n 2, 1) := by decide +kernel
theorem dX6_hasTractOfUnit_13 : decode cX6_hasTractOfUnit 13 = .ok (.aaload, 1) := by decide +kernel
theorem dX6_hasTractOfUnit_14 : decode cX6_hasTractOfUnit 14 = .ok (.astore_n 3, 1) := by decide +kernel
theorem dX6_hasTractOfUnit_15 : decode cX6_hasTractOfUnit 15 = .ok (.aload_n 3, 1) := by decide +kernel
theorem dX6_hasTractOfUnit_16 : decode cX6_hasTractOfUnit 16 = .ok (.ifnull 20, 3) := by decide +kernel
theorem dX6_hasTractOfUnit_19 : decode cX6_hasTractOfUnit 19 = .ok (.iload_n 1, 1) := by decide +kernel
theorem dX6_hasTractOfUnit_20 : decode cX6_hasTractOfUnit 20 = .ok (.iload_n 2, 1) := by decide +kernel
theorem dX6_hasTractOfUnit_21 : decode cX6_hasTractOfUnit 21 = .ok (.invokestatic 175, 3) := by decide +kernel
theorem dX6_hasTractOfUnit_24 : decode cX6_hasTractOfUnit 24 = .ok (.ifCond .eq 12, 3) := by decide +kernel
theorem dX6_hasTractOfUnit_27 : decode cX6_hasTractOfUnit 27 = .ok (.aload_n 3, 1) := by decide +kernel
theorem dX6_hasTractOfUnit_28 : decode cX6_hasTractOfUnit 28 = .ok (.getfield 179, 3) := by decide +kernel
theorem dX6_hasTractOfUnit_31 : decode cX6_hasTractOfUnit 31 = .ok (.ifnull 5, 3) := by decide +kernel
theorem dX6_hasTractOfUnit_34 : decode cX6_hasTractOfUnit 34 = .ok (.iconst 1, 1) := by decide +kernel
theorem dX6_hasTractOfUnit_35 : decode cX6_hasTractOfUnit 35 = .ok (.ireturn, 1) := by decide +kernel
theorem dX6_hasTractOfUnit_36 : decode cX6_hasTractOfUnit 36 = .ok (.iinc 2 1, 3) := by decide +kernel
theorem dX6_hasTractOfUnit_39 : decode cX6_hasTractOfUnit 39 = .ok (.goto (-37), 3) := by decide +kernel
theorem dX6_hasTractOfUnit_42 : decode cX6_hasTractOfUnit 42 = .ok (.iconst 0, 1) := by decide +kernel
theorem dX6_hasTractOfUnit_43 : decode cX6_hasTractOfUnit 43 = .ok (.ireturn, 1) := by decide +kernel
theorem dX6_hasBit_0 : decode cX6_hasBit 0 = .ok (.iload_n 0, 1) := by decide +kernel
theorem dX6_hasBit_1 : decode cX6_hasBit 1 = .ok (.iload_n 1, 1) := by decide +kernel
theorem dX6_hasBit_2 : decode cX6_hasBit 2 = .ok (.ishr, 1) := by decide +kernel
theorem dX6_hasBit_3 : decode cX6_hasBit 3 = .ok (.iconst 1, 1) := by decide +kernel
theorem dX6_hasBit_4 : decode cX6_hasBit 4 = .ok (.iand, 1) := by decide +kernel
theorem dX6_hasBit_5 : decode cX6_hasBit 5 = .ok (.ifCond .eq 7, 3) := by decide +kernel
theorem dX6_hasBit_8 : decode cX6_hasBit 8 = .ok (.iconst 1, 1) := by decide +kernel
theorem dX6_hasBit_9 : decode cX6_hasBit 9 = .ok (.goto 4, 3) := by decide +kernel
theorem dX6_hasBit_12 : decode cX6_hasBit 12 = .ok (.iconst 0, 1) := by decide +kernel
theorem dX6_hasBit_13 : decode cX6_hasBit 13 = .ok (.ireturn, 1) := by decide +kernel
theorem dX6_withBit_0 : decode cX6_withBit 0 = .ok (.iload_n 2, 1) := by decide +kernel
theorem dX6_withBit_1 : decode cX6_withBit 1 = .ok (.ifCond .eq 11, 3) := by decide +kernel
theorem dX6_withBit_4 : decode cX6_withBit 4 = .ok (.iload_n 0, 1) := by decide +kernel
theorem dX6_withBit_5 : decode cX6_withBit 5 = .ok (.iconst 1, 1) := by decide +kernel
theorem dX6_withBit_6 : decode cX6_withBit 6 = .ok (.iload_n 1, 1) := by decide +kernel
theorem dX6_withBit_7 : decode cX6_withBit 7 = .ok (.ishl, 1) := by decide +kernel
theorem dX6_withBit_8 : decode cX6_withBit 8 = .ok (.ior, 1) := by decide +kernel
theorem dX6_withBit_9 : decode cX6_withBit 9 = .ok (.goto 10, 3) := by decide +kernel
theorem dX6_withBit_12 : decode cX6_withBit 12 = .ok (.iload_n 0, 1) := by decide +kernel
theorem dX6_withBit_13 : decode cX6_withBit 13 = .ok (.iconst 1, 1) := by decide +kernel
theorem dX6_withBit_14 : decode cX6_withBit 14 = .ok (.iload_n 1, 1) := by decide +kernel
theorem dX6_withBit_15 : decode cX6_withBit 15 = .ok (.ishl, 1) := by decide +kernel
theorem dX6_withBit_16 : decode cX6_withBit 16 = .ok (.iconst (-1), 1) := by decide +kernel
theorem dX6_withBit_17 : decode cX6_withBit 17 = .ok (.ixor, 1) := by decide +kernel
theorem dX6_withBit_18 : decode cX6_withBit 18 = .ok (.iand, 1) := by decide +kernel
theorem dX6_withBit_19 : decode cX6_withBit 19 = .ok (.ireturn, 1) := by decide +kernel
theorem dX6_titleOf_0 : decode cX6_titleOf 0 = .ok (.aload_n 1, 1) := by decide +kernel
theorem dX6_titleOf_1 : decode cX6_titleOf 1 = .ok (.getfield 279, 3) := by decide +kernel
theorem dX6_titleOf_4 : decode cX6_titleOf 4 = .ok (.iload_n 2, 1) := by decide +kernel
theorem dX6_titleOf_5 : decode cX6_titleOf 5 = .ok (.if_icmp .ne 9, 3) := by decide +kernel
theorem dX6_titleOf_8 : decode cX6_titleOf 8 = .ok (.sipush 10000, 3) := by decide +kernel
theorem dX6_titleOf_11 : decode cX6_titleOf 11 = .ok (.goto 4, 3) := by decide +kernel
theorem dX6_titleOf_14 : decode cX6_titleOf 14 = .ok (.iconst 0, 1) := by decide +kernel
theorem dX6_titleOf_15 : decode cX6_titleOf 15 = .ok (.istore 4, 2) := by decide +kernel
theorem dX6_titleOf_17 : decode cX6_titleOf 17 = .ok (.aload_n 0, 1) := by decide +kernel
theorem dX6_titleOf_18 : decode cX6_titleOf 18 = .ok (.getfield 24, 3) := by decide +kernel
theorem dX6_titleOf_21 : decode cX6_titleOf 21 = .ok (.astore 5, 2) := by decide +kernel
theorem dX6_titleOf_23 : decode cX6_titleOf 23 = .ok (.aload 5, 2) := by decide +kernel
theorem dX6_titleOf_25 : decode cX6_titleOf 25 = .ok (.arraylength, 1) := by decide +kernel
theorem dX6_titleOf_26 : decode cX6_titleOf 26 = .ok (.istore 6, 2) := by decide +kernel
theorem dX6_titleOf_28 : decode cX6_titleOf 28 = .ok (.iconst 0, 1) := by decide +kernel
theorem dX6_titleOf_29 : decode cX6_titleOf 29 = .ok (.istore 7, 2) := by decide +kernel
theorem dX6_titleOf_31 : decode cX6_titleOf 31 = .ok (.iload 7, 2) := by decide +kernel
theorem dX6_titleOf_33 : decode cX6_titleOf 33 = .ok (.iload 6, 2) := by decide +kernel
theorem dX6_titleOf_35 : decode cX6_titleOf 35 = .ok (.if_icmp .ge 88, 3) := by decide +kernel
theorem dX6_titleOf_38 : decode cX6_titleOf 38 = .ok (.aload 5, 2) := by decide +kernel
theorem dX6_titleOf_40 : decode cX6_titleOf 40 = .ok (.iload 7, 2) := by decide +kernel
theorem dX6_titleOf_42 : decode cX6_titleOf 42 = .ok (.aaload, 1) := by decide +kernel
theorem dX6_titleOf_43 : decode cX6_titleOf 43 = .ok (.astore 8, 2) := by decide +kernel
theorem dX6_titleOf_45 : decode cX6_titleOf 45 = .ok (.aload 8, 2) := by decide +kernel
theorem dX6_titleOf_47 : decode cX6_titleOf 47 = .ok (.ifnonnull 6, 3) := by decide +kernel
theorem dX6_titleOf_50 : decode cX6_titleOf 50 = .ok (.goto 73, 3) := by decide +kernel
theorem dX6_titleOf_53 : decode cX6_titleOf 53 = .ok (.aload 8, 2) := by decide +kernel
theorem dX6_titleOf_55 : decode cX6_titleOf 55 = .ok (.getfield 282, 3) := by decide +kernel
theorem dX6_titleOf_58 : decode cX6_titleOf 58 = .ok (.aload_n 1, 1) := by decide +kernel
theorem dX6_titleOf_59 : decode cX6_titleOf 59 = .ok (.if_acmp .ne 58, 3) := by decide +kernel
theorem dX6_titleOf_62 : decode cX6_titleOf 62 = .ok (.aload 8, 2) := by decide +kernel
theorem dX6_titleOf_64 : decode cX6_titleOf 64 = .ok (.getfield 286, 3) := by decide +kernel
theorem dX6_titleOf_67 : decode cX6_titleOf 67 = .ok (.iload_n 3, 1) := by decide +kernel
theorem dX6_titleOf_68 : decode cX6_titleOf 68 = .ok (.if_icmp .gt 49, 3) := by decide +kernel
theorem dX6_titleOf_71 : decode cX6_titleOf 71 = .ok (.iload 4, 2) := by decide +kernel
theorem dX6_titleOf_73 : decode cX6_titleOf 73 = .ok (.aload 8, 2) := by decide +kernel
