theorem wsL_law_x0 : ∀ w ∈ (vx_atS RX6 113 "java/lang/IndexOutOfBoundsException" ["java/lang/RuntimeException", "java/lang/Exception"]).filter goodWord, w ∈ lw_tbl := by decide +kernel
theorem wsL_law_x1 : ∀ w ∈ (vx_atS RX6 97 "java/lang/IllegalArgumentException" ["java/lang/RuntimeException", "java/lang/Exception"]).filter goodWord, w ∈ lw_tbl := by decide +kernel
theorem wsL_law_x2 : ∀ w ∈ (vx_atS RX6 104 "java/lang/IllegalStateException" ["java/lang/RuntimeException", "java/lang/Exception"]).filter goodWord, w ∈ lw_tbl := by decide +kernel
theorem wsL_law_in : ∀ w ∈ wsL_law, w ∈ lw_tbl := fun w h => (List.mem_append.mp h).elim (fun h => (List.mem_append.mp h).elim (fun h => (List.mem_append.mp h).elim (fun h => wsL_law_in0 w h) (fun h => wsL_law_x0 w h)) (fun h => wsL_law_x1 w h)) (fun h => wsL_law_x2 w h)
theorem inlX0 : ∀ w ∈ wsX00, w ∈ wsL_law := fun _ h => List.mem_append_left _ (List.mem_append_left _ (List.mem_append_left _ (List.mem_append_left _ (List.mem_append_left _ (List.mem_append_left _ (List.mem_append_left _ (List.mem_append_right _ h)))))))
theorem inX0 : ∀ w ∈ wsX00, w ∈ lw_tbl := fun w h => wsL_law_in w (inlX0 w h)
theorem inlX1 : ∀ w ∈ wsX10, w ∈ wsL_law := fun _ h => List.mem_append_left _ (List.mem_append_left _ (List.mem_append_left _ (List.mem_append_left _ (List.mem_append_right _ h))))
theorem inX1 : ∀ w ∈ wsX10, w ∈ lw_tbl := fun w h => wsL_law_in w (inlX1 w h)
theorem inlX2 : ∀ w ∈ wsX20, w ∈ wsL_law := fun _ h => List.mem_append_left _ (List.mem_append_left _ (List.mem_append_left _ (List.mem_append_left _ (List.mem_append_left _ (List.mem_append_left _ (List.mem_append_left _ (List.mem_append_left _ (List.mem_append_left _ (List.mem_append_right _ h)))))))))
theorem inX2 : ∀ w ∈ wsX20, w ∈ lw_tbl := fun w h => wsL_law_in w (inlX2 w h)
theorem inlX3 : ∀ w ∈ wsX30, w ∈ wsL_law := fun _ h => List.mem_append_left _ (List.mem_append_left _ (List.mem_append_left _ (List.mem_append_left _ (List.mem_append_left _ (List.mem_append_left _ (List.mem_append_left _ (List.mem_append_left _ (List.mem_append_right _ h))))))))
theorem inX3 : ∀ w ∈ wsX30, w ∈ lw_tbl := fun w h => wsL_law_in w (inlX3 w h)
theorem inlX4 : ∀ w ∈ wsX40, w ∈ wsL_law := fun _ h => List.mem_append_left _ (List.mem_append_left _ (List.mem_append_left _ (List.mem_append_left _ (List.mem_append_left _ (List.mem_append_left _ (List.mem_append_right _ h))))))
theorem inX4 : ∀ w ∈ wsX40, w ∈ lw_tbl := fun w h => wsL_law_in w (inlX4 w h)
theorem inlX5 : ∀ w ∈ wsX50, w ∈ wsL_law := fun _ h => List.mem_append_left _ (List.mem_append_left _ (List.mem_append_left _ (List.mem_append_left _ (List.mem_append_left _ (List.mem_append_right _ h)))))
theorem inX5 : ∀ w ∈ wsX50, w ∈ lw_tbl := fun w h => wsL_law_in w (inlX5 w h)
theorem inlX6 : ∀ w ∈ wsX60, w ∈ wsL_law := fun _ h => List.mem_append_left _ (List.mem_append_left _ (List.mem_append_left _ (List.mem_append_left _ (List.mem_append_left _ (List.mem_append_left _ (List.mem_append_left _ (List.mem_append_left _ (List.mem_append_left _ (List.mem_append_left _ (List.mem_append_right _ h))))))))))
theorem inX6 : ∀ w ∈ wsX60, w ∈ lw_tbl := fun w h => wsL_law_in w (inlX6 w h)
theorem inX7 : ∀ w ∈ wsX70, w ∈ lw_tbl := by decide +kernel
theorem inJ9 : ∀ w ∈ wsJ90, w ∈ lw_tbl := by decide +kernel
theorem inJ0 : ∀ w ∈ wsJ00, w ∈ lw_tbl := by decide +kernel
theorem dX0_init_0 : decode cX0_init 0 = .ok (.aload_n 0, 1) := by decide +kernel
theorem dX0_init_1 : decode cX0_init 1 = .ok (.invokespecial 1, 3) := by decide +kernel
theorem dX0_init_4 : decode cX0_init 4 = .ok (.aload_n 0, 1) := by decide +kernel
theorem dX0_init_5 : decode cX0_init 5 = .ok (.aload_n 1, 1) := by decide +kernel
theorem dX0_init_6 : decode cX0_init 6 = .ok (.putfield 7, 3) := by decide +kernel
theorem dX0_init_9 : decode cX0_init 9 = .ok (.aload_n 0, 1) := by decide +kernel
theorem dX0_init_10 : decode cX0_init 10 = .ok (.iload_n 2, 1) := by decide +kernel
theorem dX0_init_11 : decode cX0_init 11 = .ok (.putfield 13, 3) := by decide +kernel
theorem dX0_init_14 : decode cX0_init 14 = .ok (.aload_n 0, 1) := by decide +kernel
theorem dX0_init_15 : decode cX0_init 15 = .ok (.iload_n 3, 1) := by decide +kernel
theorem dX0_init_16 : decode cX0_init 16 = .ok (.putfield 17, 3) := by decide +kernel
theorem dX0_init_19 : decode cX0_init 19 = .ok (.aload_n 0, 1) := by decide +kernel
theorem dX0_init_20 : decode cX0_init 20 = .ok (.iload 4, 2) := by decide +kernel
theorem dX0_init_22 : decode cX0_init 22 = .ok (.putfield 20, 3) := by decide +kernel
theorem dX0_init_25 : decode cX0_init 25 = .ok (.aload_n 0, 1) := by decide +kernel
theorem dX0_init_26 : decode cX0_init 26 = .ok (.iload 5, 2) := by decide +kernel
theorem dX0_init_28 : decode cX0_init 28 = .ok (.putfield 23, 3) := by decide +kernel
theorem dX0_init_31 : decode cX0_init 31 = .ok (.return_, 1) := by decide +kernel
theorem dX1_init_0 : decode cX1_init 0 = .ok (.aload_n 0, 1) := by decide +kernel
theorem dX1_init_1 : decode cX1_init 1 = .ok (.invokespecial 3, 3) := by decide +kernel
theorem dX1_init_4 : decode cX1_init 4 = .ok (.aload_n 0, 1) := by decide +kernel
theorem dX1_init_5 : decode cX1_init 5 = .ok (.iconst 0, 1) := by decide +kernel
theorem dX1_init_6 : decode cX1_init 6 = .ok (.putfield 9, 3) := by decide +kernel
theorem dX1_init_9 : decode cX1_init 9 = .ok (.aload_n 0, 1) := by decide +kernel
theorem dX1_init_10 : decode cX1_init 10 = .ok (.iconst 0, 1) := by decide +kernel
theorem dX1_init_11 : decode cX1_init 11 = .ok (.putfield 15, 3) := by decide +kernel
theorem dX1_init_14 : decode cX1_init 14 = .ok (.aload_n 0, 1) := by decide +kernel
theorem dX1_init_15 : decode cX1_init 15 = .ok (.aload_n 1, 1) := by decide +kernel
theorem dX1_init_16 : decode cX1_init 16 = .ok (.putfield 18, 3) := by decide +kernel
theorem dX1_init_19 : decode cX1_init 19 = .ok (.aload_n 0, 1) := by decide +kernel
theorem dX1_init_20 : decode cX1_init 20 = .ok (.iload_n 2, 1) := by decide +kernel
theorem dX1_init_21 : decode cX1_init 21 = .ok (.putfield 22, 3) := by decide +kernel
theorem dX1_init_24 : decode cX1_init 24 = .ok (.aload_n 0, 1) := by decide +kernel
theorem dX1_init_25 : decode cX1_init 25 = .ok (.iload_n 3, 1) := by decide +kernel
theorem dX1_init_26 : decode cX1_init 26 = .ok (.putfield 25, 3) := by decide +kernel
theorem dX1_init_29 : decode cX1_init 29 = .ok (.aload_n 0, 1) := by decide +kernel
theorem dX1_init_30 : decode cX1_init 30 = .ok (.iload 4, 2) := by decide +kernel
theorem dX1_init_32 : decode cX1_init 32 = .ok (.putfield 28, 3) := by decide +kernel
theorem dX1_init_35 : decode cX1_init 35 = .ok (.return_, 1) := by decide +kernel
theorem dX1_isInForce_0 : decode cX1_isInForce 0 = .ok (.iload_n 1, 1) := by decide +kernel
theorem dX1_isInForce_1 : decode cX1_isInForce 1 = .ok (.aload_n 0, 1) := by decide +kernel
theorem dX1_isInForce_2 : decode cX1_isInForce 2 = .ok (.getfield 9, 3) := by decide +kernel
theorem dX1_isInForce_5 : decode cX1_isInForce 5 = .ok (.if_icmp .ge 5, 3) := by decide +kernel
theorem dX1_isInForce_8 : decode cX1_isInForce 8 = .ok (.iconst 0, 1) := by decide +kernel
theorem dX1_isInForce_9 : decode cX1_isInForce 9 = .ok (.ireturn, 1) := by decide +kernel
theorem dX1_isInForce_10 : decode cX1_isInForce 10 = .ok (.aload_n 0, 1) := by decide +kernel
theorem dX1_isInForce_11 : decode cX1_isInForce 11 = .ok (.getfield 18, 3) := by decide +kernel
theorem dX1_isInForce_14 : decode cX1_isInForce 14 = .ok (.getfield 31, 3) := by decide +kernel
theorem dX1_isInForce_17 : decode cX1_isInForce 17 = .ok (.astore_n 2, 1) := by decide +kernel
theorem dX1_isInForce_18 : decode cX1_isInForce 18 = .ok (.aload_n 2, 1) := by decide +kernel
theorem dX1_isInForce_19 : decode cX1_isInForce 19 = .ok (.ifnonnull 17, 3) := by decide +kernel
theorem dX1_isInForce_22 : decode cX1_isInForce 22 = .ok (.iload_n 1, 1) := by decide +kernel
theorem dX1_isInForce_23 : decode cX1_isInForce 23 = .ok (.aload_n 0, 1) := by decide +kernel
theorem dX1_isInForce_24 : decode cX1_isInForce 24 = .ok (.getfield 15, 3) := by decide +kernel
theorem dX1_isInForce_27 : decode cX1_isInForce 27 = .ok (.if_icmp .gt 7, 3) := by decide +kernel
theorem dX1_isInForce_30 : decode cX1_isInForce 30 = .ok (.iconst 1, 1) := by decide +kernel
theorem dX1_isInForce_31 : decode cX1_isInForce 31 = .ok (.goto 4, 3) := by decide +kernel
theorem dX1_isInForce_34 : decode cX1_isInForce 34 = .ok (.iconst 0, 1) := by decide +kernel
theorem dX1_isInForce_35 : decode cX1_isInForce 35 = .ok (.ireturn, 1) := by decide +kernel
theorem dX1_isInForce_36 : decode cX1_isInForce 36 = .ok (.aload_n 0, 1) := by decide +kernel
theorem dX1_isInForce_37 : decode cX1_isInForce 37 = .ok (.getfield 15, 3) := by decide +kernel
theorem dX1_isInForce_40 : decode cX1_isInForce 40 = .ok (.istore_n 3, 1) := by decide +kernel
theorem dX1_isInForce_41 : decode cX1_isInForce 41 = .ok (.iload_n 3, 1) := by decide +kernel
theorem dX1_isInForce_42 : decode cX1_isInForce 42 = .ok (.iload_n 1, 1) := by decide +kernel
theorem dX1_isInForce_43 : decode cX1_isInForce 43 = .ok (.if_icmp .ge 26, 3) := by decide +kernel
theorem dX1_isInForce_46 : decode cX1_isInForce 46 = .ok (.iload_n 3, 1) := by decide +kernel
theorem dX1_isInForce_47 : decode cX1_isInForce 47 = .ok (.bipush 61, 2) := by decide +kernel
theorem dX1_isInForce_49 : decode cX1_isInForce 49 = .ok (.if_icmp .ge 20, 3) := by decide +kernel
theorem dX1_isInForce_52 : decode cX1_isInForce 52 = .ok (.aload_n 2, 1) := by decide +kernel
theorem dX1_isInForce_53 : decode cX1_isInForce 53 = .ok (.getfield 37, 3) := by decide +kernel
theorem dX1_isInForce_56 : decode cX1_isInForce 56 = .ok (.iload_n 3, 1) := by decide +kernel
theorem dX1_isInForce_57 : decode cX1_isInForce 57 = .ok (.iaload, 1) := by decide +kernel
theorem dX1_isInForce_58 : decode cX1_isInForce 58 = .ok (.ifCond .ne 5, 3) := by decide +kernel
theorem dX1_isInForce_61 : decode cX1_isInForce 61 = .ok (.iconst 0, 1) := by decide +kernel
theorem dX1_isInForce_62 : decode cX1_isInForce 62 = .ok (.ireturn, 1) := by decide +kernel
theorem dX1_isInForce_63 : decode cX1_isInForce 63 = .ok (.iinc 3 1, 3) := by decide +kernel
theorem dX1_isInForce_66 : decode cX1_isInForce 66 = .ok (.goto (-25), 3) := by decide +kernel
theorem dX1_isInForce_69 : decode cX1_isInForce 69 = .ok (.iconst 1, 1) := by decide +kernel
theorem dX1_isInForce_70 : decode cX1_isInForce 70 = .ok (.ireturn, 1) := by decide +kernel
theorem dX2_init_0 : decode cX2_init 0 = .ok (.aload_n 0, 1) := by decide +kernel
theorem dX2_init_1 : decode cX2_init 1 = .ok (.invokespecial 1, 3) := by decide +kernel
theorem dX2_init_4 : decode cX2_init 4 = .ok (.aload_n 0, 1) := by decide +kernel
theorem dX2_init_5 : decode cX2_init 5 = .ok (.iload_n 1, 1) := by decide +kernel
theorem dX2_init_6 : decode cX2_init 6 = .ok (.newarray .long, 2) := by decide +kernel
theorem dX2_init_8 : decode cX2_init 8 = .ok (.putfield 7, 3) := by decide +kernel
theorem dX2_init_11 : decode cX2_init 11 = .ok (.aload_n 0, 1) := by decide +kernel
theorem dX2_init_12 : decode cX2_init 12 = .ok (.iload_n 1, 1) := by decide +kernel
theorem dX2_init_13 : decode cX2_init 13 = .ok (.newarray .long, 2) := by decide +kernel
theorem dX2_init_15 : decode cX2_init 15 = .ok (.putfield 13, 3) := by decide +kernel
theorem dX2_init_18 : decode cX2_init 18 = .ok (.aload_n 0, 1) := by decide +kernel
theorem dX2_init_19 : decode cX2_init 19 = .ok (.iload_n 1, 1) := by decide +kernel
theorem dX2_init_20 : decode cX2_init 20 = .ok (.newarray .long, 2) := by decide +kernel
theorem dX2_init_22 : decode cX2_init 22 = .ok (.putfield 16, 3) := by decide +kernel
theorem dX2_init_25 : decode cX2_init 25 = .ok (.return_, 1) := by decide +kernel
theorem dX2_clear_0 : decode cX2_clear 0 = .ok (.iconst 0, 1) := by decide +kernel
theorem dX2_clear_1 : decode cX2_clear 1 = .ok (.istore_n 1, 1) := by decide +kernel
theorem dX2_clear_2 : decode cX2_clear 2 = .ok (.iload_n 1, 1) := by decide +kernel
theorem dX2_clear_3 : decode cX2_clear 3 = .ok (.aload_n 0, 1) := by decide +kernel
theorem dX2_clear_4 : decode cX2_clear 4 = .ok (.getfield 7, 3) := by decide +kernel
theorem dX2_clear_7 : decode cX2_clear 7 = .ok (.arraylength, 1) := by decide +kernel
theorem dX2_clear_8 : decode cX2_clear 8 = .ok (.if_icmp .ge 16, 3) := by decide +kernel
theorem dX2_clear_11 : decode cX2_clear 11 = .ok (.aload_n 0, 1) := by decide +kernel
theorem dX2_clear_12 : decode cX2_clear 12 = .ok (.getfield 7, 3) := by decide +kernel
theorem dX2_clear_15 : decode cX2_clear 15 = .ok (.iload_n 1, 1) := by decide +kernel
theorem dX2_clear_16 : decode cX2_clear 16 = .ok (.lconst 0, 1) := by decide +kernel
theorem dX2_clear_17 : decode cX2_clear 17 = .ok (.lastore, 1) := by decide +kernel
theorem dX2_clear_18 : decode cX2_clear 18 = .ok (.iinc 1 1, 3) := by decide +kernel
theorem dX2_clear_21 : decode cX2_clear 21 = .ok (.goto (-19), 3) := by decide +kernel
theorem dX2_clear_24 : decode cX2_clear 24 = .ok (.return_, 1) := by decide +kernel
set_option maxRecDepth 20000 in
theorem ggX2_partOut_X2_giveOne : GoodIn wsX2_partOut wsX2_giveOne := goodIn_r _ [8, 3, 2, 9, 10, 11, 12] (by decide +kernel) (by decide +kernel)
set_option maxRecDepth 20000 in
theorem gX2_partOut_X2_giveOne : GoodIn wsX2_partOut (wsV RX2 19 RX2 yX2_giveOne wsX2_giveOne) := goodIn_app (goodIn_of _ (by decide +kernel)) ggX2_partOut_X2_giveOne
theorem dX2_partOut_0 : decode cX2_partOut 0 = .ok (.lconst 0, 1) := by decide +kernel
theorem dX2_partOut_1 : decode cX2_partOut 1 = .ok (.lstore_n 3, 1) := by decide +kernel
theorem dX2_partOut_2 : decode cX2_partOut 2 = .ok (.aload_n 0, 1) := by decide +kernel
theorem dX2_partOut_3 : decode cX2_partOut 3 = .ok (.getfield 7, 3) := by decide +kernel
theorem dX2_partOut_6 : decode cX2_partOut 6 = .ok (.astore 5, 2) := by decide +kernel
theorem dX2_partOut_8 : decode cX2_partOut 8 = .ok (.aload 5, 2) := by decide +kernel
theorem dX2_partOut_10 : decode cX2_partOut 10 = .ok (.arraylength, 1) := by decide +kernel
theorem dX2_partOut_11 : decode cX2_partOut 11 = .ok (.istore 6, 2) := by decide +kernel
theorem dX2_partOut_13 : decode cX2_partOut 13 = .ok (.iconst 0, 1) := by decide +kernel
theorem dX2_partOut_14 : decode cX2_partOut 14 = .ok (.istore 7, 2) := by decide +kernel
theorem dX2_partOut_16 : decode cX2_partOut 16 = .ok (.iload 7, 2) := by decide +kernel
theorem dX2_partOut_18 : decode cX2_partOut 18 = .ok (.iload 6, 2) := by decide +kernel
theorem dX2_partOut_20 : decode cX2_partOut 20 = .ok (.if_icmp .ge 21, 3) := by decide +kernel
theorem dX2_partOut_23 : decode cX2_partOut 23 = .ok (.aload 5, 2) := by decide +kernel
theorem dX2_partOut_25 : decode cX2_partOut 25 = .ok (.iload 7, 2) := by decide +kernel
theorem dX2_partOut_27 : decode cX2_partOut 27 = .ok (.laload, 1) := by decide +kernel
theorem dX2_partOut_28 : decode cX2_partOut 28 = .ok (.lstore 8, 2) := by decide +kernel
theorem dX2_partOut_30 : decode cX2_partOut 30 = .ok (.lload_n 3, 1) := by decide +kernel
theorem dX2_partOut_31 : decode cX2_partOut 31 = .ok (.lload 8, 2) := by decide +kernel
theorem dX2_partOut_33 : decode cX2_partOut 33 = .ok (.ladd, 1) := by decide +kernel
theorem dX2_partOut_34 : decode cX2_partOut 34 = .ok (.lstore_n 3, 1) := by decide +kernel
theorem dX2_partOut_35 : decode cX2_partOut 35 = .ok (.iinc 7 1, 3) := by decide +kernel
theorem dX2_partOut_38 : decode cX2_partOut 38 = .ok (.goto (-22), 3) := by decide +kernel
theorem dX2_partOut_41 : decode cX2_partOut 41 = .ok (.lload_n 1, 1) := by decide +kernel
theorem dX2_partOut_42 : decode cX2_partOut 42 = .ok (.lstore 5, 2) := by decide +kernel
theorem dX2_partOut_44 : decode cX2_partOut 44 = .ok (.iconst 0, 1) := by decide +kernel
theorem dX2_partOut_45 : decode cX2_partOut 45 = .ok (.istore 7, 2) := by decide +kernel
theorem dX2_partOut_47 : decode cX2_partOut 47 = .ok (.iload 7, 2) := by decide +kernel
theorem dX2_partOut_49 : decode cX2_partOut 49 = .ok (.aload_n 0, 1) := by decide +kernel
theorem dX2_partOut_50 : decode cX2_partOut 50 = .ok (.getfield 7, 3) := by decide +kernel
theorem dX2_partOut_53 : decode cX2_partOut 53 = .ok (.arraylength, 1) := by decide +kernel
theorem dX2_partOut_54 : decode cX2_partOut 54 = .ok (.if_icmp .ge 74, 3) := by decide +kernel
theorem dX2_partOut_57 : decode cX2_partOut 57 = .ok (.lload_n 1, 1) := by decide +kernel
theorem dX2_partOut_58 : decode cX2_partOut 58 = .ok (.aload_n 0, 1) := by decide +kernel
theorem dX2_partOut_59 : decode cX2_partOut 59 = .ok (.getfield 7, 3) := by decide +kernel
theorem dX2_partOut_62 : decode cX2_partOut 62 = .ok (.iload 7, 2) := by decide +kernel
theorem dX2_partOut_64 : decode cX2_partOut 64 = .ok (.laload, 1) := by decide +kernel
theorem dX2_partOut_65 : decode cX2_partOut 65 = .ok (.lmul, 1) := by decide +kernel
theorem dX2_partOut_66 : decode cX2_partOut 66 = .ok (.lstore 8, 2) := by decide +kernel
theorem dX2_partOut_68 : decode cX2_partOut 68 = .ok (.aload_n 0, 1) := by decide +kernel
theorem dX2_partOut_69 : decode cX2_partOut 69 = .ok (.getfield 13, 3) := by decide +kernel
theorem dX2_partOut_72 : decode cX2_partOut 72 = .ok (.iload 7, 2) := by decide +kernel
theorem dX2_partOut_74 : decode cX2_partOut 74 = .ok (.lload_n 3, 1) := by decide +kernel
theorem dX2_partOut_75 : decode cX2_partOut 75 = .ok (.lconst 0, 1) := by decide +kernel
theorem dX2_partOut_76 : decode cX2_partOut 76 = .ok (.lcmp, 1) := by decide +kernel
theorem dX2_partOut_77 : decode cX2_partOut 77 = .ok (.ifCond .le 10, 3) := by decide +kernel
theorem dX2_partOut_80 : decode cX2_partOut 80 = .ok (.lload 8, 2) := by decide +kernel
theorem dX2_partOut_82 : decode cX2_partOut 82 = .ok (.lload_n 3, 1) := by decide +kernel
theorem dX2_partOut_83 : decode cX2_partOut 83 = .ok (.ldiv, 1) := by decide +kernel
theorem dX2_partOut_84 : decode cX2_partOut 84 = .ok (.goto 4, 3) := by decide +kernel
theorem dX2_partOut_87 : decode cX2_partOut 87 = .ok (.lconst 0, 1) := by decide +kernel
theorem dX2_partOut_88 : decode cX2_partOut 88 = .ok (.lastore, 1) := by decide +kernel
theorem dX2_partOut_89 : decode cX2_partOut 89 = .ok (.aload_n 0, 1) := by decide +kernel
theorem dX2_partOut_90 : decode cX2_partOut 90 = .ok (.getfield 16, 3) := by decide +kernel
theorem dX2_partOut_93 : decode cX2_partOut 93 = .ok (.iload 7, 2) := by decide +kernel
theorem dX2_partOut_95 : decode cX2_partOut 95 = .ok (.lload_n 3, 1) := by decide +kernel
theorem dX2_partOut_96 : decode cX2_partOut 96 = .ok (.lconst 0, 1) := by decide +kernel
theorem dX2_partOut_97 : decode cX2_partOut 97 = .ok (.lcmp, 1) := by decide +kernel
theorem dX2_partOut_98 : decode cX2_partOut 98 = .ok (.ifCond .le 10, 3) := by decide +kernel
theorem dX2_partOut_101 : decode cX2_partOut 101 = .ok (.lload 8, 2) := by decide +kernel
theorem dX2_partOut_103 : decode cX2_partOut 103 = .ok (.lload_n 3, 1) := by decide +kernel
theorem dX2_partOut_104 : decode cX2_partOut 104 = .ok (.lrem, 1) := by decide +kernel
theorem dX2_partOut_105 : decode cX2_partOut 105 = .ok (.goto 4, 3) := by decide +kernel
theorem dX2_partOut_108 : decode cX2_partOut 108 = .ok (.lconst 0, 1) := by decide +kernel
theorem dX2_partOut_109 : decode cX2_partOut 109 = .ok (.lastore, 1) := by decide +kernel
theorem dX2_partOut_110 : decode cX2_partOut 110 = .ok (.lload 5, 2) := by decide +kernel
theorem dX2_partOut_112 : decode cX2_partOut 112 = .ok (.aload_n 0, 1) := by decide +kernel
theorem dX2_partOut_113 : decode cX2_partOut 113 = .ok (.getfield 13, 3) := by decide +kernel
theorem dX2_partOut_116 : decode cX2_partOut 116 = .ok (.iload 7, 2) := by decide +kernel
theorem dX2_partOut_118 : decode cX2_partOut 118 = .ok (.laload, 1) := by decide +kernel
theorem dX2_partOut_119 : decode cX2_partOut 119 = .ok (.lsub, 1) := by decide +kernel
theorem dX2_partOut_120 : decode cX2_partOut 120 = .ok (.lstore 5, 2) := by decide +kernel
theorem dX2_partOut_122 : decode cX2_partOut 122 = .ok (.iinc 7 1, 3) := by decide +kernel
theorem dX2_partOut_125 : decode cX2_partOut 125 = .ok (.goto (-78), 3) := by decide +kernel
theorem dX2_partOut_128 : decode cX2_partOut 128 = .ok (.iconst 0, 1) := by decide +kernel
theorem dX2_partOut_129 : decode cX2_partOut 129 = .ok (.istore 7, 2) := by decide +kernel
theorem dX2_partOut_131 : decode cX2_partOut 131 = .ok (.iload 7, 2) := by decide +kernel
theorem dX2_partOut_133 : decode cX2_partOut 133 = .ok (.i2l, 1) := by decide +kernel
theorem dX2_partOut_134 : decode cX2_partOut 134 = .ok (.lload 5, 2) := by decide +kernel
theorem dX2_partOut_136 : decode cX2_partOut 136 = .ok (.lcmp, 1) := by decide +kernel
theorem dX2_partOut_137 : decode cX2_partOut 137 = .ok (.ifCond .ge 23, 3) := by decide +kernel
theorem dX2_partOut_140 : decode cX2_partOut 140 = .ok (.iload 7, 2) := by decide +kernel
theorem dX2_partOut_142 : decode cX2_partOut 142 = .ok (.aload_n 0, 1) := by decide +kernel
theorem dX2_partOut_143 : decode cX2_partOut 143 = .ok (.getfield 7, 3) := by decide +kernel
theorem dX2_partOut_146 : decode cX2_partOut 146 = .ok (.arraylength, 1) := by decide +kernel
theorem dX2_partOut_147 : decode cX2_partOut 147 = .ok (.if_icmp .ge 13, 3) := by decide +kernel
theorem dX2_partOut_150 : decode cX2_partOut 150 = .ok (.aload_n 0, 1) := by decide +kernel
theorem dX2_partOut_151 : decode cX2_partOut 151 = .ok (.invokevirtual 19, 3) := by decide +kernel
theorem dX2_partOut_154 : decode cX2_partOut 154 = .ok (.iinc 7 1, 3) := by decide +kernel
theorem dX2_partOut_157 : decode cX2_partOut 157 = .ok (.goto (-26), 3) := by decide +kernel
theorem dX2_partOut_160 : decode cX2_partOut 160 = .ok (.return_, 1) := by decide +kernel
theorem dX2_giveOne_0 : decode cX2_giveOne 0 = .ok (.iconst 0, 1) := by decide +kernel
theorem dX2_giveOne_1 : decode cX2_giveOne 1 = .ok (.istore_n 1, 1) := by decide +kernel
theorem dX2_giveOne_2 : decode cX2_giveOne 2 = .ok (.iconst 1, 1) := by decide +kernel
theorem dX2_giveOne_3 : decode cX2_giveOne 3 = .ok (.istore_n 2, 1) := by decide +kernel
theorem dX2_giveOne_4 : decode cX2_giveOne 4 = .ok (.iload_n 2, 1) := by decide +kernel
theorem dX2_giveOne_5 : decode cX2_giveOne 5 = .ok (.aload_n 0, 1) := by decide +kernel
theorem dX2_giveOne_6 : decode cX2_giveOne 6 = .ok (.getfield 16, 3) := by decide +kernel
theorem dX2_giveOne_9 : decode cX2_giveOne 9 = .ok (.arraylength, 1) := by decide +kernel
theorem dX2_giveOne_10 : decode cX2_giveOne 10 = .ok (.if_icmp .ge 27, 3) := by decide +kernel
theorem dX2_giveOne_13 : decode cX2_giveOne 13 = .ok (.aload_n 0, 1) := by decide +kernel
theorem dX2_giveOne_14 : decode cX2_giveOne 14 = .ok (.getfield 16, 3) := by decide +kernel
theorem dX2_giveOne_17 : decode cX2_giveOne 17 = .ok (.iload_n 2, 1) := by decide +kernel
theorem dX2_giveOne_18 : decode cX2_giveOne 18 = .ok (.laload, 1) := by decide +kernel
theorem dX2_giveOne_19 : decode cX2_giveOne 19 = .ok (.aload_n 0, 1) := by decide +kernel
theorem dX2_giveOne_20 : decode cX2_giveOne 20 = .ok (.getfield 16, 3) := by decide +kernel
theorem dX2_giveOne_23 : decode cX2_giveOne 23 = .ok (.iload_n 1, 1) := by decide +kernel
theorem dX2_giveOne_24 : decode cX2_giveOne 24 = .ok (.laload, 1) := by decide +kernel
theorem dX2_giveOne_25 : decode cX2_giveOne 25 = .ok (.lcmp, 1) := by decide +kernel
theorem dX2_giveOne_26 : decode cX2_giveOne 26 = .ok (.ifCond .le 5, 3) := by decide +kernel
theorem dX2_giveOne_29 : decode cX2_giveOne 29 = .ok (.iload_n 2, 1) := by decide +kernel
theorem dX2_giveOne_30 : decode cX2_giveOne 30 = .ok (.istore_n 1, 1) := by decide +kernel
theorem dX2_giveOne_31 : decode cX2_giveOne 31 = .ok (.iinc 2 1, 3) := by decide +kernel
theorem dX2_giveOne_34 : decode cX2_giveOne 34 = .ok (.goto (-30), 3) := by decide +kernel
theorem dX2_giveOne_37 : decode cX2_giveOne 37 = .ok (.aload_n 0, 1) := by decide +kernel
theorem dX2_giveOne_38 : decode cX2_giveOne 38 = .ok (.getfield 13, 3) := by decide +kernel
theorem dX2_giveOne_41 : decode cX2_giveOne 41 = .ok (.iload_n 1, 1) := by decide +kernel
theorem dX2_giveOne_42 : decode cX2_giveOne 42 = .ok (.dup2, 1) := by decide +kernel
theorem dX2_giveOne_43 : decode cX2_giveOne 43 = .ok (.laload, 1) := by decide +kernel
theorem dX2_giveOne_44 : decode cX2_giveOne 44 = .ok (.lconst 1, 1) := by decide +kernel
theorem dX2_giveOne_45 : decode cX2_giveOne 45 = .ok (.ladd, 1) := by decide +kernel
theorem dX2_giveOne_46 : decode cX2_giveOne 46 = .ok (.lastore, 1) := by decide +kernel
theorem dX2_giveOne_47 : decode cX2_giveOne 47 = .ok (.aload_n 0, 1) := by decide +kernel
theorem dX2_giveOne_48 : decode cX2_giveOne 48 = .ok (.getfield 16, 3) := by decide +kernel
theorem dX2_giveOne_51 : decode cX2_giveOne 51 = .ok (.iload_n 1, 1) := by decide +kernel
theorem dX2_giveOne_52 : decode cX2_giveOne 52 = .ok (.ldc2_w 22, 3) := by decide +kernel
theorem dX2_giveOne_55 : decode cX2_giveOne 55 = .ok (.lastore, 1) := by decide +kernel
theorem dX2_giveOne_56 : decode cX2_giveOne 56 = .ok (.return_, 1) := by decide +kernel
theorem dX3_init_0 : decode cX3_init 0 = .ok (.aload_n 0, 1) := by decide +kernel
theorem dX3_init_1 : decode cX3_init 1 = .ok (.invokespecial 1, 3) := by decide +kernel
theorem dX3_init_4 : decode cX3_init 4 = .ok (.aload_n 0, 1) := by decide +kernel
theorem dX3_init_5 : decode cX3_init 5 = .ok (.aconst_null, 1) := by decide +kernel
theorem dX3_init_6 : decode cX3_init 6 = .ok (.putfield 7, 3) := by decide +kernel
theorem dX3_init_9 : decode cX3_init 9 = .ok (.aload_n 0, 1) := by decide +kernel
theorem dX3_init_10 : decode cX3_init 10 = .ok (.iload_n 1, 1) := by decide +kernel
theorem dX3_init_11 : decode cX3_init 11 = .ok (.putfield 13, 3) := by decide +kernel
theorem dX3_init_14 : decode cX3_init 14 = .ok (.aload_n 0, 1) := by decide +kernel
theorem dX3_init_15 : decode cX3_init 15 = .ok (.iload_n 2, 1) := by decide +kernel
theorem dX3_init_16 : decode cX3_init 16 = .ok (.putfield 17, 3) := by decide +kernel
theorem dX3_init_19 : decode cX3_init 19 = .ok (.return_, 1) := by decide +kernel
theorem dX4_init_0 : decode cX4_init 0 = .ok (.aload_n 0, 1) := by decide +kernel
theorem dX4_init_1 : decode cX4_init 1 = .ok (.invokespecial 3, 3) := by decide +kernel
theorem dX4_init_4 : decode cX4_init 4 = .ok (.aload_n 0, 1) := by decide +kernel
theorem dX4_init_5 : decode cX4_init 5 = .ok (.bipush 61, 2) := by decide +kernel
theorem dX4_init_7 : decode cX4_init 7 = .ok (.newarray .int, 2) := by decide +kernel
theorem dX4_init_9 : decode cX4_init 9 = .ok (.putfield 9, 3) := by decide +kernel
theorem dX4_init_12 : decode cX4_init 12 = .ok (.aload_n 0, 1) := by decide +kernel
theorem dX4_init_13 : decode cX4_init 13 = .ok (.bipush 61, 2) := by decide +kernel
theorem dX4_init_15 : decode cX4_init 15 = .ok (.newarray .int, 2) := by decide +kernel
theorem dX4_init_17 : decode cX4_init 17 = .ok (.putfield 15, 3) := by decide +kernel
theorem dX4_init_20 : decode cX4_init 20 = .ok (.aload_n 0, 1) := by decide +kernel
theorem dX4_init_21 : decode cX4_init 21 = .ok (.bipush 61, 2) := by decide +kernel
theorem dX4_init_23 : decode cX4_init 23 = .ok (.newarray .int, 2) := by decide +kernel
theorem dX4_init_25 : decode cX4_init 25 = .ok (.putfield 18, 3) := by decide +kernel
theorem dX4_init_28 : decode cX4_init 28 = .ok (.aload_n 0, 1) := by decide +kernel
theorem dX4_init_29 : decode cX4_init 29 = .ok (.bipush 61, 2) := by decide +kernel
theorem dX4_init_31 : decode cX4_init 31 = .ok (.newarray .int, 2) := by decide +kernel
theorem dX4_init_33 : decode cX4_init 33 = .ok (.putfield 21, 3) := by decide +kernel
theorem dX4_init_36 : decode cX4_init 36 = .ok (.aload_n 0, 1) := by decide +kernel
theorem dX4_init_37 : decode cX4_init 37 = .ok (.sipush 610, 3) := by decide +kernel
theorem dX4_init_40 : decode cX4_init 40 = .ok (.newarray .long, 2) := by decide +kernel
theorem dX4_init_42 : decode cX4_init 42 = .ok (.putfield 24, 3) := by decide +kernel
theorem dX4_init_45 : decode cX4_init 45 = .ok (.aload_n 0, 1) := by decide +kernel
theorem dX4_init_46 : decode cX4_init 46 = .ok (.sipush 610, 3) := by decide +kernel
theorem dX4_init_49 : decode cX4_init 49 = .ok (.newarray .long, 2) := by decide +kernel
theorem dX4_init_51 : decode cX4_init 51 = .ok (.putfield 28, 3) := by decide +kernel
theorem dX4_init_54 : decode cX4_init 54 = .ok (.aload_n 0, 1) := by decide +kernel
theorem dX4_init_55 : decode cX4_init 55 = .ok (.iload_n 1, 1) := by decide +kernel
theorem dX4_init_56 : decode cX4_init 56 = .ok (.putfield 31, 3) := by decide +kernel
theorem dX4_init_59 : decode cX4_init 59 = .ok (.return_, 1) := by decide +kernel
theorem dX4_openMonth_0 : decode cX4_openMonth 0 = .ok (.iload_n 1, 1) := by decide +kernel
theorem dX4_openMonth_1 : decode cX4_openMonth 1 = .ok (.bipush 10, 2) := by decide +kernel
theorem dX4_openMonth_3 : decode cX4_openMonth 3 = .ok (.imul, 1) := by decide +kernel
theorem dX4_openMonth_4 : decode cX4_openMonth 4 = .ok (.istore_n 2, 1) := by decide +kernel
theorem dX4_openMonth_5 : decode cX4_openMonth 5 = .ok (.iload_n 2, 1) := by decide +kernel
theorem dX4_openMonth_6 : decode cX4_openMonth 6 = .ok (.bipush 10, 2) := by decide +kernel
theorem dX4_openMonth_8 : decode cX4_openMonth 8 = .ok (.isub, 1) := by decide +kernel
theorem dX4_openMonth_9 : decode cX4_openMonth 9 = .ok (.istore_n 3, 1) := by decide +kernel
theorem dX4_openMonth_10 : decode cX4_openMonth 10 = .ok (.iconst 0, 1) := by decide +kernel
theorem dX4_openMonth_11 : decode cX4_openMonth 11 = .ok (.istore 4, 2) := by decide +kernel
theorem dX4_openMonth_13 : decode cX4_openMonth 13 = .ok (.iload 4, 2) := by decide +kernel
theorem dX4_openMonth_15 : decode cX4_openMonth 15 = .ok (.bipush 10, 2) := by decide +kernel
theorem dX4_openMonth_17 : decode cX4_openMonth 17 = .ok (.if_icmp .ge 49, 3) := by decide +kernel
theorem dX4_openMonth_20 : decode cX4_openMonth 20 = .ok (.aload_n 0, 1) := by decide +kernel
theorem dX4_openMonth_21 : decode cX4_openMonth 21 = .ok (.getfield 24, 3) := by decide +kernel
theorem dX4_openMonth_24 : decode cX4_openMonth 24 = .ok (.iload_n 2, 1) := by decide +kernel
theorem dX4_openMonth_25 : decode cX4_openMonth 25 = .ok (.iload 4, 2) := by decide +kernel
theorem dX4_openMonth_27 : decode cX4_openMonth 27 = .ok (.iadd, 1) := by decide +kernel
theorem dX4_openMonth_28 : decode cX4_openMonth 28 = .ok (.lconst 0, 1) := by decide +kernel
theorem dX4_openMonth_29 : decode cX4_openMonth 29 = .ok (.lastore, 1) := by decide +kernel
theorem dX4_openMonth_30 : decode cX4_openMonth 30 = .ok (.aload_n 0, 1) := by decide +kernel
theorem dX4_openMonth_31 : decode cX4_openMonth 31 = .ok (.getfield 28, 3) := by decide +kernel
theorem dX4_openMonth_34 : decode cX4_openMonth 34 = .ok (.iload_n 2, 1) := by decide +kernel
theorem dX4_openMonth_35 : decode cX4_openMonth 35 = .ok (.iload 4, 2) := by decide +kernel
theorem dX4_openMonth_37 : decode cX4_openMonth 37 = .ok (.iadd, 1) := by decide +kernel
theorem dX4_openMonth_38 : decode cX4_openMonth 38 = .ok (.iload_n 1, 1) := by decide +kernel
theorem dX4_openMonth_39 : decode cX4_openMonth 39 = .ok (.aload_n 0, 1) := by decide +kernel
theorem dX4_openMonth_40 : decode cX4_openMonth 40 = .ok (.getfield 31, 3) := by decide +kernel
theorem dX4_openMonth_43 : decode cX4_openMonth 43 = .ok (.if_icmp .le 15, 3) := by decide +kernel
theorem dX4_openMonth_46 : decode cX4_openMonth 46 = .ok (.aload_n 0, 1) := by decide +kernel
theorem dX4_openMonth_47 : decode cX4_openMonth 47 = .ok (.getfield 28, 3) := by decide +kernel
theorem dX4_openMonth_50 : decode cX4_openMonth 50 = .ok (.iload_n 3, 1) := by decide +kernel
theorem dX4_openMonth_51 : decode cX4_openMonth 51 = .ok (.iload 4, 2) := by decide +kernel
theorem dX4_openMonth_53 : decode cX4_openMonth 53 = .ok (.iadd, 1) := by decide +kernel
theorem dX4_openMonth_54 : decode cX4_openMonth 54 = .ok (.laload, 1) := by decide +kernel
theorem dX4_openMonth_55 : decode cX4_openMonth 55 = .ok (.goto 4, 3) := by decide +kernel
theorem dX4_openMonth_58 : decode cX4_openMonth 58 = .ok (.lconst 0, 1) := by decide +kernel
theorem dX4_openMonth_59 : decode cX4_openMonth 59 = .ok (.lastore, 1) := by decide +kernel
theorem dX4_openMonth_60 : decode cX4_openMonth 60 = .ok (.iinc 4 1, 3) := by decide +kernel
theorem dX4_openMonth_63 : decode cX4_openMonth 63 = .ok (.goto (-50), 3) := by decide +kernel
theorem dX4_openMonth_66 : decode cX4_openMonth 66 = .ok (.return_, 1) := by decide +kernel
theorem dX5_init_0 : decode cX5_init 0 = .ok (.aload_n 0, 1) := by decide +kernel
theorem dX5_init_1 : decode cX5_init 1 = .ok (.invokespecial 3, 3) := by decide +kernel
theorem dX5_init_4 : decode cX5_init 4 = .ok (.aload_n 0, 1) := by decide +kernel
theorem dX5_init_5 : decode cX5_init 5 = .ok (.bipush 61, 2) := by decide +kernel
theorem dX5_init_7 : decode cX5_init 7 = .ok (.newarray .int, 2) := by decide +kernel
theorem dX5_init_9 : decode cX5_init 9 = .ok (.putfield 9, 3) := by decide +kernel
theorem dX5_init_12 : decode cX5_init 12 = .ok (.aload_n 0, 1) := by decide +kernel
theorem dX5_init_13 : decode cX5_init 13 = .ok (.bipush 61, 2) := by decide +kernel
theorem dX5_init_15 : decode cX5_init 15 = .ok (.newarray .int, 2) := by decide +kernel
theorem dX5_init_17 : decode cX5_init 17 = .ok (.putfield 15, 3) := by decide +kernel
theorem dX5_init_20 : decode cX5_init 20 = .ok (.aload_n 0, 1) := by decide +kernel
theorem dX5_init_21 : decode cX5_init 21 = .ok (.bipush 61, 2) := by decide +kernel
theorem dX5_init_23 : decode cX5_init 23 = .ok (.newarray .int, 2) := by decide +kernel
theorem dX5_init_25 : decode cX5_init 25 = .ok (.putfield 18, 3) := by decide +kernel
theorem dX5_init_28 : decode cX5_init 28 = .ok (.aload_n 0, 1) := by decide +kernel
theorem dX5_init_29 : decode cX5_init 29 = .ok (.aload_n 1, 1) := by decide +kernel
theorem dX5_init_30 : decode cX5_init 30 = .ok (.putfield 21, 3) := by decide +kernel
theorem dX5_init_33 : decode cX5_init 33 = .ok (.return_, 1) := by decide +kernel
theorem dX5_tellOil_0 : decode cX5_tellOil 0 = .ok (.aload_n 0, 1) := by decide +kernel
theorem dX5_tellOil_1 : decode cX5_tellOil 1 = .ok (.getfield 21, 3) := by decide +kernel
theorem dX5_tellOil_4 : decode cX5_tellOil 4 = .ok (.getfield 25, 3) := by decide +kernel
theorem dX5_tellOil_7 : decode cX5_tellOil 7 = .ok (.iload_n 1, 1) := by decide +kernel
theorem dX5_tellOil_8 : decode cX5_tellOil 8 = .ok (.dup2, 1) := by decide +kernel
theorem dX5_tellOil_9 : decode cX5_tellOil 9 = .ok (.iaload, 1) := by decide +kernel
theorem dX5_tellOil_10 : decode cX5_tellOil 10 = .ok (.iload_n 2, 1) := by decide +kernel
theorem dX5_tellOil_11 : decode cX5_tellOil 11 = .ok (.aload_n 0, 1) := by decide +kernel
theorem dX5_tellOil_12 : decode cX5_tellOil 12 = .ok (.getfield 9, 3) := by decide +kernel
theorem dX5_tellOil_15 : decode cX5_tellOil 15 = .ok (.iload_n 1, 1) := by decide +kernel
theorem dX5_tellOil_16 : decode cX5_tellOil 16 = .ok (.iaload, 1) := by decide +kernel
theorem dX5_tellOil_17 : decode cX5_tellOil 17 = .ok (.isub, 1) := by decide +kernel
theorem dX5_tellOil_18 : decode cX5_tellOil 18 = .ok (.iadd, 1) := by decide +kernel
theorem dX5_tellOil_19 : decode cX5_tellOil 19 = .ok (.iastore, 1) := by decide +kernel
theorem dX5_tellOil_20 : decode cX5_tellOil 20 = .ok (.aload_n 0, 1) := by decide +kernel
theorem dX5_tellOil_21 : decode cX5_tellOil 21 = .ok (.getfield 21, 3) := by decide +kernel
theorem dX5_tellOil_24 : decode cX5_tellOil 24 = .ok (.getfield 28, 3) := by decide +kernel
theorem dX5_tellOil_27 : decode cX5_tellOil 27 = .ok (.iload_n 1, 1) := by decide +kernel
theorem dX5_tellOil_28 : decode cX5_tellOil 28 = .ok (.dup2, 1) := by decide +kernel
theorem dX5_tellOil_29 : decode cX5_tellOil 29 = .ok (.iaload, 1) := by decide +kernel
theorem dX5_tellOil_30 : decode cX5_tellOil 30 = .ok (.iload_n 2, 1) := by decide +kernel
theorem dX5_tellOil_31 : decode cX5_tellOil 31 = .ok (.iload_n 3, 1) := by decide +kernel
theorem dX5_tellOil_32 : decode cX5_tellOil 32 = .ok (.imul, 1) := by decide +kernel
theorem dX5_tellOil_33 : decode cX5_tellOil 33 = .ok (.aload_n 0, 1) := by decide +kernel
theorem dX5_tellOil_34 : decode cX5_tellOil 34 = .ok (.getfield 9, 3) := by decide +kernel
theorem dX5_tellOil_37 : decode cX5_tellOil 37 = .ok (.iload_n 1, 1) := by decide +kernel
theorem dX5_tellOil_38 : decode cX5_tellOil 38 = .ok (.iaload, 1) := by decide +kernel
theorem dX5_tellOil_39 : decode cX5_tellOil 39 = .ok (.aload_n 0, 1) := by decide +kernel
theorem dX5_tellOil_40 : decode cX5_tellOil 40 = .ok (.getfield 15, 3) := by decide +kernel
theorem dX5_tellOil_43 : decode cX5_tellOil 43 = .ok (.iload_n 1, 1) := by decide +kernel
theorem dX5_tellOil_44 : decode cX5_tellOil 44 = .ok (.iaload, 1) := by decide +kernel
theorem dX5_tellOil_45 : decode cX5_tellOil 45 = .ok (.imul, 1) := by decide +kernel
theorem dX5_tellOil_46 : decode cX5_tellOil 46 = .ok (.isub, 1) := by decide +kernel
theorem dX5_tellOil_47 : decode cX5_tellOil 47 = .ok (.iadd, 1) := by decide +kernel
theorem dX5_tellOil_48 : decode cX5_tellOil 48 = .ok (.iastore, 1) := by decide +kernel
theorem dX5_tellOil_49 : decode cX5_tellOil 49 = .ok (.aload_n 0, 1) := by decide +kernel
theorem dX5_tellOil_50 : decode cX5_tellOil 50 = .ok (.getfield 9, 3) := by decide +kernel
theorem dX5_tellOil_53 : decode cX5_tellOil 53 = .ok (.iload_n 1, 1) := by decide +kernel
theorem dX5_tellOil_54 : decode cX5_tellOil 54 = .ok (.iload_n 2, 1) := by decide +kernel
theorem dX5_tellOil_55 : decode cX5_tellOil 55 = .ok (.iastore, 1) := by decide +kernel
theorem dX5_tellOil_56 : decode cX5_tellOil 56 = .ok (.aload_n 0, 1) := by decide +kernel
theorem dX5_tellOil_57 : decode cX5_tellOil 57 = .ok (.getfield 15, 3) := by decide +kernel
theorem dX5_tellOil_60 : decode cX5_tellOil 60 = .ok (.iload_n 1, 1) := by decide +kernel
theorem dX5_tellOil_61 : decode cX5_tellOil 61 = .ok (.iload_n 3, 1) := by decide +kernel
theorem dX5_tellOil_62 : decode cX5_tellOil 62 = .ok (.iastore, 1) := by decide +kernel
theorem dX5_tellOil_63 : decode cX5_tellOil 63 = .ok (.return_, 1) := by decide +kernel
set_option maxRecDepth 20000 in
theorem ggX6_init_X2_init : GoodIn wsX6_init wsX2_init := goodIn_r _ [36, 37, 2, 3, 25, 38, 39, 40, 61, 62, 63] (by decide +kernel) (by decide +kernel)
set_option maxRecDepth 20000 in
theorem gX6_init_X2_init : GoodIn wsX6_init (wsX2_init) := ggX6_init_X2_init
theorem dX6_init_0 : decode cX6_init 0 = .ok (.aload_n 0, 1) := by decide +kernel
theorem dX6_init_1 : decode cX6_init 1 = .ok (.invokespecial 3, 3) := by decide +kernel
theorem dX6_init_4 : decode cX6_init 4 = .ok (.aload_n 0, 1) := by decide +kernel
theorem dX6_init_5 : decode cX6_init 5 = .ok (.iconst 0, 1) := by decide +kernel
theorem dX6_init_6 : decode cX6_init 6 = .ok (.putfield 9, 3) := by decide +kernel
theorem dX6_init_9 : decode cX6_init 9 = .ok (.aload_n 0, 1) := by decide +kernel
theorem dX6_init_10 : decode cX6_init 10 = .ok (.bipush 8, 2) := by decide +kernel
theorem dX6_init_12 : decode cX6_init 12 = .ok (.anewarray 13, 3) := by decide +kernel
theorem dX6_init_15 : decode cX6_init 15 = .ok (.putfield 15, 3) := by decide +kernel
theorem dX6_init_18 : decode cX6_init 18 = .ok (.aload_n 0, 1) := by decide +kernel
theorem dX6_init_19 : decode cX6_init 19 = .ok (.iconst 0, 1) := by decide +kernel
theorem dX6_init_20 : decode cX6_init 20 = .ok (.putfield 19, 3) := by decide +kernel
theorem dX6_init_23 : decode cX6_init 23 = .ok (.aload_n 0, 1) := by decide +kernel
theorem dX6_init_24 : decode cX6_init 24 = .ok (.bipush 40, 2) := by decide +kernel
theorem dX6_init_26 : decode cX6_init 26 = .ok (.anewarray 22, 3) := by decide +kernel
theorem dX6_init_29 : decode cX6_init 29 = .ok (.putfield 24, 3) := by decide +kernel
theorem dX6_init_32 : decode cX6_init 32 = .ok (.aload_n 0, 1) := by decide +kernel
theorem dX6_init_33 : decode cX6_init 33 = .ok (.iconst 0, 1) := by decide +kernel
theorem dX6_init_34 : decode cX6_init 34 = .ok (.putfield 28, 3) := by decide +kernel
theorem dX6_init_37 : decode cX6_init 37 = .ok (.aload_n 0, 1) := by decide +kernel
theorem dX6_init_38 : decode cX6_init 38 = .ok (.bipush 16, 2) := by decide +kernel
theorem dX6_init_40 : decode cX6_init 40 = .ok (.anewarray 31, 3) := by decide +kernel
theorem dX6_init_43 : decode cX6_init 43 = .ok (.putfield 33, 3) := by decide +kernel
theorem dX6_init_46 : decode cX6_init 46 = .ok (.aload_n 0, 1) := by decide +kernel
theorem dX6_init_47 : decode cX6_init 47 = .ok (.iconst 0, 1) := by decide +kernel
theorem dX6_init_48 : decode cX6_init 48 = .ok (.putfield 37, 3) := by decide +kernel
theorem dX6_init_51 : decode cX6_init 51 = .ok (.aload_n 0, 1) := by decide +kernel
theorem dX6_init_52 : decode cX6_init 52 = .ok (.iconst 3, 1) := by decide +kernel
theorem dX6_init_53 : decode cX6_init 53 = .ok (.anewarray 40, 3) := by decide +kernel
theorem dX6_init_56 : decode cX6_init 56 = .ok (.putfield 42, 3) := by decide +kernel
theorem dX6_init_59 : decode cX6_init 59 = .ok (.aload_n 0, 1) := by decide +kernel
theorem dX6_init_60 : decode cX6_init 60 = .ok (.iconst 0, 1) := by decide +kernel
theorem dX6_init_61 : decode cX6_init 61 = .ok (.putfield 46, 3) := by decide +kernel
theorem dX6_init_64 : decode cX6_init 64 = .ok (.aload_n 0, 1) := by decide +kernel
theorem dX6_init_65 : decode cX6_init 65 = .ok (.bipush 6, 2) := by decide +kernel
theorem dX6_init_67 : decode cX6_init 67 = .ok (.anewarray 49, 3) := by decide +kernel
