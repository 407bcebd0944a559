theorem dL_fits_0 : decode cL_fits 0 = .ok (.iconst 0, 1) := by decide +kernel
theorem dL_fits_1 : decode cL_fits 1 = .ok (.istore_n 3, 1) := by decide +kernel
theorem dL_fits_2 : decode cL_fits 2 = .ok (.aload_n 0, 1) := by decide +kernel
theorem dL_fits_3 : decode cL_fits 3 = .ok (.iload_n 1, 1) := by decide +kernel
theorem dL_fits_4 : decode cL_fits 4 = .ok (.iload_n 2, 1) := by decide +kernel
theorem dL_fits_5 : decode cL_fits 5 = .ok (.invokestatic 96, 3) := by decide +kernel
theorem dL_fits_8 : decode cL_fits 8 = .ok (.iconst 1, 1) := by decide +kernel
theorem dL_fits_9 : decode cL_fits 9 = .ok (.if_icmp .ne 16, 3) := by decide +kernel
theorem dL_fits_12 : decode cL_fits 12 = .ok (.aload_n 0, 1) := by decide +kernel
theorem dL_fits_13 : decode cL_fits 13 = .ok (.iload_n 1, 1) := by decide +kernel
theorem dL_fits_14 : decode cL_fits 14 = .ok (.iload_n 2, 1) := by decide +kernel
theorem dL_fits_15 : decode cL_fits 15 = .ok (.invokestatic 101, 3) := by decide +kernel
theorem dL_fits_18 : decode cL_fits 18 = .ok (.ifCond .lt 7, 3) := by decide +kernel
theorem dL_fits_21 : decode cL_fits 21 = .ok (.iconst 1, 1) := by decide +kernel
theorem dL_fits_22 : decode cL_fits 22 = .ok (.goto 4, 3) := by decide +kernel
theorem dL_fits_25 : decode cL_fits 25 = .ok (.iconst 0, 1) := by decide +kernel
theorem dL_fits_26 : decode cL_fits 26 = .ok (.istore 4, 2) := by decide +kernel
theorem dL_fits_28 : decode cL_fits 28 = .ok (.iconst 0, 1) := by decide +kernel
theorem dL_fits_29 : decode cL_fits 29 = .ok (.istore 5, 2) := by decide +kernel
theorem dL_fits_31 : decode cL_fits 31 = .ok (.iload 5, 2) := by decide +kernel
theorem dL_fits_33 : decode cL_fits 33 = .ok (.bipush 10, 2) := by decide +kernel
theorem dL_fits_35 : decode cL_fits 35 = .ok (.if_icmp .ge 81, 3) := by decide +kernel
theorem dL_fits_38 : decode cL_fits 38 = .ok (.iload 4, 2) := by decide +kernel
theorem dL_fits_40 : decode cL_fits 40 = .ok (.ifCond .eq 76, 3) := by decide +kernel
theorem dL_fits_43 : decode cL_fits 43 = .ok (.aload_n 0, 1) := by decide +kernel
theorem dL_fits_44 : decode cL_fits 44 = .ok (.iload_n 1, 1) := by decide +kernel
theorem dL_fits_45 : decode cL_fits 45 = .ok (.iload_n 2, 1) := by decide +kernel
theorem dL_fits_46 : decode cL_fits 46 = .ok (.iload 5, 2) := by decide +kernel
theorem dL_fits_48 : decode cL_fits 48 = .ok (.iconst 1, 1) := by decide +kernel
theorem dL_fits_49 : decode cL_fits 49 = .ok (.invokestatic 103, 3) := by decide +kernel
theorem dL_fits_52 : decode cL_fits 52 = .ok (.istore 6, 2) := by decide +kernel
theorem dL_fits_54 : decode cL_fits 54 = .ok (.aload_n 0, 1) := by decide +kernel
theorem dL_fits_55 : decode cL_fits 55 = .ok (.iload_n 1, 1) := by decide +kernel
theorem dL_fits_56 : decode cL_fits 56 = .ok (.iload_n 2, 1) := by decide +kernel
theorem dL_fits_57 : decode cL_fits 57 = .ok (.iload 5, 2) := by decide +kernel
theorem dL_fits_59 : decode cL_fits 59 = .ok (.iconst 0, 1) := by decide +kernel
theorem dL_fits_60 : decode cL_fits 60 = .ok (.invokestatic 103, 3) := by decide +kernel
theorem dL_fits_63 : decode cL_fits 63 = .ok (.istore 7, 2) := by decide +kernel
theorem dL_fits_65 : decode cL_fits 65 = .ok (.iload_n 3, 1) := by decide +kernel
theorem dL_fits_66 : decode cL_fits 66 = .ok (.iload 6, 2) := by decide +kernel
theorem dL_fits_68 : decode cL_fits 68 = .ok (.iload 7, 2) := by decide +kernel
theorem dL_fits_70 : decode cL_fits 70 = .ok (.iadd, 1) := by decide +kernel
theorem dL_fits_71 : decode cL_fits 71 = .ok (.iadd, 1) := by decide +kernel
theorem dL_fits_72 : decode cL_fits 72 = .ok (.istore_n 3, 1) := by decide +kernel
theorem dL_fits_73 : decode cL_fits 73 = .ok (.iload 6, 2) := by decide +kernel
theorem dL_fits_75 : decode cL_fits 75 = .ok (.ifCond .lt 32, 3) := by decide +kernel
theorem dL_fits_78 : decode cL_fits 78 = .ok (.iload 7, 2) := by decide +kernel
theorem dL_fits_80 : decode cL_fits 80 = .ok (.ifCond .lt 27, 3) := by decide +kernel
theorem dL_fits_83 : decode cL_fits 83 = .ok (.iload 5, 2) := by decide +kernel
theorem dL_fits_85 : decode cL_fits 85 = .ok (.iconst 4, 1) := by decide +kernel
theorem dL_fits_86 : decode cL_fits 86 = .ok (.irem, 1) := by decide +kernel
theorem dL_fits_87 : decode cL_fits 87 = .ok (.ifCond .ne 16, 3) := by decide +kernel
theorem dL_fits_90 : decode cL_fits 90 = .ok (.aload_n 0, 1) := by decide +kernel
theorem dL_fits_91 : decode cL_fits 91 = .ok (.iload_n 1, 1) := by decide +kernel
theorem dL_fits_92 : decode cL_fits 92 = .ok (.iload_n 2, 1) := by decide +kernel
theorem dL_fits_93 : decode cL_fits 93 = .ok (.iload 5, 2) := by decide +kernel
theorem dL_fits_95 : decode cL_fits 95 = .ok (.invokestatic 106, 3) := by decide +kernel
theorem dL_fits_98 : decode cL_fits 98 = .ok (.lconst 0, 1) := by decide +kernel
theorem dL_fits_99 : decode cL_fits 99 = .ok (.lcmp, 1) := by decide +kernel
theorem dL_fits_100 : decode cL_fits 100 = .ok (.ifCond .lt 7, 3) := by decide +kernel
theorem dL_fits_103 : decode cL_fits 103 = .ok (.iconst 1, 1) := by decide +kernel
theorem dL_fits_104 : decode cL_fits 104 = .ok (.goto 4, 3) := by decide +kernel
theorem dL_fits_107 : decode cL_fits 107 = .ok (.iconst 0, 1) := by decide +kernel
theorem dL_fits_108 : decode cL_fits 108 = .ok (.istore 4, 2) := by decide +kernel
theorem dL_fits_110 : decode cL_fits 110 = .ok (.iinc 5 1, 3) := by decide +kernel
theorem dL_fits_113 : decode cL_fits 113 = .ok (.goto (-82), 3) := by decide +kernel
theorem dL_fits_116 : decode cL_fits 116 = .ok (.iload 4, 2) := by decide +kernel
theorem dL_fits_118 : decode cL_fits 118 = .ok (.ifCond .eq 13, 3) := by decide +kernel
theorem dL_fits_121 : decode cL_fits 121 = .ok (.iload_n 3, 1) := by decide +kernel
theorem dL_fits_122 : decode cL_fits 122 = .ok (.ldc 109, 2) := by decide +kernel
theorem dL_fits_124 : decode cL_fits 124 = .ok (.if_icmp .ne 7, 3) := by decide +kernel
theorem dL_fits_127 : decode cL_fits 127 = .ok (.iconst 1, 1) := by decide +kernel
theorem dL_fits_128 : decode cL_fits 128 = .ok (.goto 4, 3) := by decide +kernel
theorem dL_fits_131 : decode cL_fits 131 = .ok (.iconst 0, 1) := by decide +kernel
theorem dL_fits_132 : decode cL_fits 132 = .ok (.ireturn, 1) := by decide +kernel
set_option maxRecDepth 20000 in
theorem ggL_law_X6_init : GoodIn wsL_law wsX6_init := goodIn_r _ [7, 8, 9, 10, 11, 12, 13, 14, 15, 16, 17, 18, 19, 20, 21, 22, 23, 24, 25, 26, 27, 28, 29, 30, 31, 32, 33, 34, 35, 36, 37, 38, 39, 40, 41, 42, 43, 44, 45, 46, 47, 440, 441, 442, 443, 444, 445, 446, 447, 448, 449, 450, 451, 452, 453, 454, 455, 456, 457, 458, 459, 460, 461, 462] (by decide +kernel) (by decide +kernel)
set_option maxRecDepth 20000 in
theorem gL_law_X6_init : GoodIn wsL_law (wsX6_init) := ggL_law_X6_init
set_option maxRecDepth 20000 in
theorem ggL_law_L_drawn : GoodIn wsL_law wsL_drawn := goodIn_r _ [51, 52, 53] (by decide +kernel) (by decide +kernel)
set_option maxRecDepth 20000 in
theorem gL_law_L_drawn : GoodIn wsL_law (va_wsS RL 111 yL_drawn wsL_drawn) := goodIn_app (goodIn_of _ (by decide +kernel)) ggL_law_L_drawn
set_option maxRecDepth 20000 in
theorem ggL_law_L_tract : GoodIn wsL_law wsL_tract := goodIn_ca (goodIn_ca (goodIn_ca (goodIn_r _ [56, 57, 58, 59, 60, 61, 62, 2, 63, 64, 65, 66, 67, 68, 69, 14, 13, 12, 70, 71, 72, 73, 74, 75, 76, 77, 78, 9, 10, 79, 80, 81, 440, 441, 442, 443, 444, 445, 446, 447, 448, 449, 450, 451, 452, 453, 454, 455, 456, 457, 458, 459, 463, 464, 465] (by decide +kernel) (by decide +kernel)) (goodIn_sub (fun _ h => List.mem_append_left _ (List.mem_append_left _ (List.mem_append_right _ h))) (by decide +kernel))) (goodIn_sub (fun _ h => List.mem_append_left _ (List.mem_append_right _ h)) (by decide +kernel))) (goodIn_sub (fun _ h => List.mem_append_right _ h) (by decide +kernel))
set_option maxRecDepth 20000 in
theorem gL_law_L_tract : GoodIn wsL_law (va_wsS RL 115 yL_tract wsL_tract) := goodIn_app (goodIn_of _ (by decide +kernel)) ggL_law_L_tract
set_option maxRecDepth 20000 in
theorem ggL_law_L_deed : GoodIn wsL_law wsL_deed := goodIn_ca (goodIn_ca (goodIn_ca (goodIn_r _ [84, 57, 58, 59, 85, 86, 87, 2, 88, 64, 65, 66, 67, 68, 69, 17, 16, 15, 89, 90, 11, 91, 92, 93, 94, 13, 72, 73, 74, 95, 96, 97, 98, 99, 100, 101, 102, 103, 104, 105, 106, 107, 108, 109, 110, 111, 112, 113, 114, 115, 116, 117, 118, 119, 120, 9, 10, 121, 122, 123, 124, 125, 126, 127, 128, 129, 34, 440, 441, 442, 443, 444, 445, 446, 447, 448, 449, 450, 451, 452, 453, 454, 455, 456, 457, 458, 459, 466, 467, 468, 469, 470, 463, 464, 465] (by decide +kernel) (by decide +kernel)) (goodIn_sub (fun _ h => List.mem_append_left _ (List.mem_append_left _ (List.mem_append_right _ h))) (by decide +kernel))) (goodIn_sub (fun _ h => List.mem_append_left _ (List.mem_append_right _ h)) (by decide +kernel))) (goodIn_sub (fun _ h => List.mem_append_right _ h) (by decide +kernel))
set_option maxRecDepth 20000 in
theorem gL_law_L_deed : GoodIn wsL_law (va_wsS RL 117 yL_deed wsL_deed) := goodIn_app (goodIn_of _ (by decide +kernel)) ggL_law_L_deed
set_option maxRecDepth 20000 in
theorem ggL_law_L_unit : GoodIn wsL_law wsL_unit := goodIn_ca (goodIn_ca (goodIn_r _ [132, 58, 59, 133, 134, 135, 2, 136, 66, 67, 68, 69, 14, 23, 21, 137, 138, 11, 13, 139, 22, 140, 141, 142, 143, 144, 145, 146, 147, 148, 149, 150, 9, 10, 27, 151, 152, 153, 154, 32, 155, 156, 157, 126, 127, 128, 129, 34, 103, 104, 105, 106, 440, 441, 442, 443, 444, 445, 446, 447, 448, 449, 450, 451, 452, 453, 454, 455, 456, 457, 458, 459, 471, 472, 473, 474, 475, 476, 477, 463, 464, 465] (by decide +kernel) (by decide +kernel)) (goodIn_sub (fun _ h => List.mem_append_left _ (List.mem_append_right _ h)) (by decide +kernel))) (goodIn_sub (fun _ h => List.mem_append_right _ h) (by decide +kernel))
set_option maxRecDepth 20000 in
theorem gL_law_L_unit : GoodIn wsL_law (va_wsS RL 120 yL_unit wsL_unit) := goodIn_app (goodIn_of _ (by decide +kernel)) ggL_law_L_unit
set_option maxRecDepth 20000 in
theorem ggL_law_L_well : GoodIn wsL_law wsL_well := goodIn_ca (goodIn_ca (goodIn_r _ [160, 57, 59, 161, 162, 163, 2, 164, 64, 65, 68, 69, 26, 25, 24, 165, 166, 167, 168, 169, 170, 22, 171, 172, 173, 174, 9, 10, 27, 175, 176, 177, 178, 440, 441, 442, 443, 444, 445, 446, 447, 448, 449, 450, 451, 452, 453, 454, 455, 456, 457, 458, 459, 478, 479, 480, 481] (by decide +kernel) (by decide +kernel)) (goodIn_sub (fun _ h => List.mem_append_left _ (List.mem_append_left _ (List.mem_append_right _ h))) (by decide +kernel))) (goodIn_sub (fun _ h => List.mem_append_right _ h) (by decide +kernel))
set_option maxRecDepth 20000 in
theorem gL_law_L_well : GoodIn wsL_law (va_wsS RL 123 yL_well wsL_well) := goodIn_app (goodIn_of _ (by decide +kernel)) ggL_law_L_well
set_option maxRecDepth 20000 in
theorem ggL_law_L_lease : GoodIn wsL_law wsL_lease := goodIn_ca (goodIn_ca (goodIn_ca (goodIn_r _ [181, 57, 58, 59, 182, 183, 184, 2, 185, 64, 65, 66, 67, 68, 69, 20, 18, 186, 187, 11, 188, 189, 19, 91, 92, 93, 94, 13, 72, 73, 74, 190, 191, 192, 193, 9, 10, 194, 195, 196, 197, 198, 199, 126, 127, 128, 129, 34, 103, 104, 105, 106, 440, 441, 442, 443, 444, 445, 446, 447, 448, 449, 450, 451, 452, 453, 454, 455, 456, 457, 458, 459, 482, 483, 484, 485, 486, 487] (by decide +kernel) (by decide +kernel)) (goodIn_sub (fun _ h => List.mem_append_left _ (List.mem_append_left _ (List.mem_append_right _ h))) (by decide +kernel))) (goodIn_sub (fun _ h => List.mem_append_left _ (List.mem_append_right _ h)) (by decide +kernel))) (goodIn_sub (fun _ h => List.mem_append_right _ h) (by decide +kernel))
set_option maxRecDepth 20000 in
theorem gL_law_L_lease : GoodIn wsL_law (va_wsS RL 125 yL_lease wsL_lease) := goodIn_app (goodIn_of _ (by decide +kernel)) ggL_law_L_lease
set_option maxRecDepth 20000 in
theorem ggL_law_L_oil : GoodIn wsL_law wsL_oil := goodIn_ca (goodIn_ca (goodIn_ca (goodIn_r _ [202, 57, 58, 59, 203, 204, 205, 2, 206, 64, 65, 66, 67, 68, 69, 207, 208, 209, 210, 211, 212, 213, 25, 95, 96, 97, 98, 11, 214, 215, 216, 166, 217, 178, 218, 175, 219, 176, 126, 127, 128, 129, 34, 103, 104, 105, 106, 478, 479, 480, 481, 471, 472, 473, 474, 475, 476, 477, 440, 441, 442, 443, 444, 445, 446, 447, 448, 449, 450, 451, 452, 453, 454, 455, 456, 457, 458, 459] (by decide +kernel) (by decide +kernel)) (goodIn_sub (fun _ h => List.mem_append_left _ (List.mem_append_left _ (List.mem_append_right _ h))) (by decide +kernel))) (goodIn_sub (fun _ h => List.mem_append_left _ (List.mem_append_right _ h)) (by decide +kernel))) (goodIn_sub (fun _ h => List.mem_append_right _ h) (by decide +kernel))
set_option maxRecDepth 20000 in
theorem gL_law_L_oil : GoodIn wsL_law (va_wsS RL 127 yL_oil wsL_oil) := goodIn_app (goodIn_of _ (by decide +kernel)) ggL_law_L_oil
set_option maxRecDepth 20000 in
theorem ggL_law_L_cost : GoodIn wsL_law wsL_cost := goodIn_ca (goodIn_ca (goodIn_ca (goodIn_r _ [222, 57, 58, 59, 223, 224, 225, 2, 226, 64, 65, 66, 67, 68, 69, 227, 207, 208, 228, 229, 230, 210, 211, 212, 213, 25, 95, 96, 97, 98, 11, 126, 127, 128, 129, 34, 103, 104, 105, 106, 478, 479, 480, 481, 471, 472, 473, 474, 475, 476, 477, 440, 441, 442, 443, 444, 445, 446, 447, 448, 449, 450, 451, 452, 453, 454, 455, 456, 457, 458, 459] (by decide +kernel) (by decide +kernel)) (goodIn_sub (fun _ h => List.mem_append_left _ (List.mem_append_left _ (List.mem_append_right _ h))) (by decide +kernel))) (goodIn_sub (fun _ h => List.mem_append_left _ (List.mem_append_right _ h)) (by decide +kernel))) (goodIn_sub (fun _ h => List.mem_append_right _ h) (by decide +kernel))
set_option maxRecDepth 20000 in
theorem gL_law_L_cost : GoodIn wsL_law (va_wsS RL 131 yL_cost wsL_cost) := goodIn_app (goodIn_of _ (by decide +kernel)) ggL_law_L_cost
set_option maxRecDepth 20000 in
theorem ggL_law_L_consent : GoodIn wsL_law wsL_consent := goodIn_ca (goodIn_r _ [233, 57, 234, 235, 236, 2, 237, 64, 65, 238, 11, 167, 168, 169, 170, 22, 72, 73, 74, 144, 145, 146, 239, 240, 241, 126, 127, 128, 129, 34, 103, 104, 105, 106, 471, 472, 473, 474, 475, 476, 477, 440, 441, 442, 443, 444, 445, 446, 447, 448, 449, 450, 451, 452, 453, 454, 455, 456, 457, 458, 459] (by decide +kernel) (by decide +kernel)) (goodIn_sub (fun _ h => List.mem_append_left _ (List.mem_append_left _ (List.mem_append_right _ h))) (by decide +kernel))
set_option maxRecDepth 20000 in
theorem gL_law_L_consent : GoodIn wsL_law (va_wsS RL 134 yL_consent wsL_consent) := goodIn_app (goodIn_of _ (by decide +kernel)) ggL_law_L_consent
set_option maxRecDepth 20000 in
theorem ggL_law_L_penalty : GoodIn wsL_law wsL_penalty := goodIn_ca (goodIn_r _ [244, 58, 245, 246, 247, 2, 248, 66, 67, 29, 126, 127, 128, 129, 34, 103, 104, 105, 106, 440, 441, 442, 443, 444, 445, 446, 447, 448, 449, 450, 451, 452, 453, 454, 455, 456, 457, 458, 459] (by decide +kernel) (by decide +kernel)) (goodIn_sub (fun _ h => List.mem_append_left _ (List.mem_append_right _ h)) (by decide +kernel))
set_option maxRecDepth 20000 in
theorem gL_law_L_penalty : GoodIn wsL_law (va_wsS RL 137 yL_penalty wsL_penalty) := goodIn_app (goodIn_of _ (by decide +kernel)) ggL_law_L_penalty
set_option maxRecDepth 20000 in
theorem ggL_law_L_tax : GoodIn wsL_law wsL_tax := goodIn_ca (goodIn_ca (goodIn_r _ [251, 57, 58, 252, 253, 254, 2, 255, 64, 65, 66, 67, 28, 95, 96, 97, 98, 11, 256, 257, 258, 259, 126, 127, 128, 129, 34, 103, 104, 105, 106, 440, 441, 442, 443, 444, 445, 446, 447, 448, 449, 450, 451, 452, 453, 454, 455, 456, 457, 458, 459] (by decide +kernel) (by decide +kernel)) (goodIn_sub (fun _ h => List.mem_append_left _ (List.mem_append_left _ (List.mem_append_right _ h))) (by decide +kernel))) (goodIn_sub (fun _ h => List.mem_append_left _ (List.mem_append_right _ h)) (by decide +kernel))
set_option maxRecDepth 20000 in
theorem gL_law_L_tax : GoodIn wsL_law (va_wsS RL 139 yL_tax wsL_tax) := goodIn_app (goodIn_of _ (by decide +kernel)) ggL_law_L_tax
set_option maxRecDepth 20000 in
theorem ggL_law_L_least : GoodIn wsL_law wsL_least := goodIn_ca (goodIn_r _ [262, 58, 263, 264, 265, 2, 266, 66, 67, 267, 31, 440, 441, 442, 443, 444, 445, 446, 447, 448, 449, 450, 451, 452, 453, 454, 455, 456, 457, 458, 459] (by decide +kernel) (by decide +kernel)) (goodIn_sub (fun _ h => List.mem_append_left _ (List.mem_append_right _ h)) (by decide +kernel))
set_option maxRecDepth 20000 in
theorem gL_law_L_least : GoodIn wsL_law (va_wsS RL 141 yL_least wsL_least) := goodIn_app (goodIn_of _ (by decide +kernel)) ggL_law_L_least
set_option maxRecDepth 20000 in
theorem ggL_law_L_suspend : GoodIn wsL_law wsL_suspend := goodIn_ca (goodIn_r _ [270, 57, 271, 272, 273, 2, 274, 64, 65, 30, 72, 73, 74, 144, 145, 146, 239, 240, 241, 440, 441, 442, 443, 444, 445, 446, 447, 448, 449, 450, 451, 452, 453, 454, 455, 456, 457, 458, 459] (by decide +kernel) (by decide +kernel)) (goodIn_sub (fun _ h => List.mem_append_left _ (List.mem_append_left _ (List.mem_append_right _ h))) (by decide +kernel))
set_option maxRecDepth 20000 in
theorem gL_law_L_suspend : GoodIn wsL_law (va_wsS RL 143 yL_suspend wsL_suspend) := goodIn_app (goodIn_of _ (by decide +kernel)) ggL_law_L_suspend
set_option maxRecDepth 20000 in
theorem ggL_law_L_paid : GoodIn wsL_law wsL_paid := goodIn_ca (goodIn_r _ [277, 57, 278, 279, 280, 281, 2, 282, 64, 65, 33, 72, 73, 74, 440, 441, 442, 443, 444, 445, 446, 447, 448, 449, 450, 451, 452, 453, 454, 455, 456, 457, 458, 459] (by decide +kernel) (by decide +kernel)) (goodIn_sub (fun _ h => List.mem_append_left _ (List.mem_append_left _ (List.mem_append_right _ h))) (by decide +kernel))
set_option maxRecDepth 20000 in
theorem gL_law_L_paid : GoodIn wsL_law (va_wsS RL 146 yL_paid wsL_paid) := goodIn_app (goodIn_of _ (by decide +kernel)) ggL_law_L_paid
set_option maxRecDepth 20000 in
theorem ggL_law_X6_payDay : GoodIn wsL_law wsX6_payDay := goodIn_r _ [286, 30, 31, 33, 287, 288, 289, 2, 290, 34, 11, 22, 208, 291, 292, 293, 294, 295, 230, 296, 297, 298, 138, 299, 155, 156, 157, 300, 301, 302, 303, 39, 13, 139, 304, 305, 306, 38, 307, 45, 308, 309, 310, 311, 35, 312, 313, 314, 315, 316, 317, 318, 319, 320, 111, 16, 112, 113, 116, 115, 114, 321, 322, 323, 324, 19, 325, 326, 327, 328, 329, 187, 330, 194, 196, 331, 195, 332, 333, 334, 335, 336, 238, 337, 144, 145, 146, 239, 240, 241, 338, 339, 340, 341, 40, 342, 29, 343, 344, 345, 346, 347, 348, 349, 350, 351, 352, 46, 47, 353, 354, 355, 356, 357, 358, 359, 360, 361, 362, 363, 105, 364, 365, 366, 367, 368, 256, 257, 258, 259, 28, 369, 370, 371, 372, 440, 441, 442, 443, 444, 445, 446, 447, 448, 449, 450, 451, 452, 453, 454, 455, 456, 457, 458, 459, 471, 472, 473, 474, 475, 476, 477, 463, 464, 465, 460, 461, 462, 482, 483, 484, 485, 486, 487, 466, 467, 468, 469, 470] (by decide +kernel) (by decide +kernel)
set_option maxRecDepth 20000 in
theorem gL_law_X6_payDay : GoodIn wsL_law (wsV RL 149 RX6 yX6_payDay wsX6_payDay) := goodIn_app (goodIn_of _ (by decide +kernel)) ggL_law_X6_payDay
set_option maxRecDepth 20000 in
theorem ggL_law_L_pass : GoodIn wsL_law wsL_pass := goodIn_ca (goodIn_ca (goodIn_r _ [375, 58, 59, 376, 377, 378, 2, 379, 66, 67, 68, 69, 11, 440, 441, 442, 443, 444, 445, 446, 447, 448, 449, 450, 451, 452, 453, 454, 455, 456, 457, 458, 459] (by decide +kernel) (by decide +kernel)) (goodIn_sub (fun _ h => List.mem_append_left _ (List.mem_append_right _ h)) (by decide +kernel))) (goodIn_sub (fun _ h => List.mem_append_right _ h) (by decide +kernel))
set_option maxRecDepth 20000 in
theorem gL_law_L_pass : GoodIn wsL_law (va_wsS RL 153 yL_pass wsL_pass) := goodIn_app (goodIn_of _ (by decide +kernel)) ggL_law_L_pass
set_option maxRecDepth 20000 in
theorem ggL_law_L_title : GoodIn wsL_law wsL_title := goodIn_ca (goodIn_r _ [382, 57, 383, 384, 385, 2, 386, 64, 65, 91, 92, 93, 94, 13, 72, 73, 74, 95, 96, 97, 98, 11, 107, 108, 109, 110, 111, 16, 112, 113, 114, 115, 116, 440, 441, 442, 443, 444, 445, 446, 447, 448, 449, 450, 451, 452, 453, 454, 455, 456, 457, 458, 459, 463, 464, 465, 466, 467, 468, 469, 470] (by decide +kernel) (by decide +kernel)) (goodIn_sub (fun _ h => List.mem_append_left _ (List.mem_append_left _ (List.mem_append_right _ h))) (by decide +kernel))
set_option maxRecDepth 20000 in
theorem gL_law_L_title : GoodIn wsL_law (va_wsS RL 155 yL_title wsL_title) := goodIn_app (goodIn_of _ (by decide +kernel)) ggL_law_L_title
set_option maxRecDepth 20000 in
theorem ggL_law_L_revenue : GoodIn wsL_law wsL_revenue := goodIn_ca (goodIn_r _ [389, 57, 390, 391, 392, 2, 393, 64, 65, 394, 395, 396, 397, 208, 11, 167, 168, 169, 170, 22, 365, 366, 367, 368, 295, 343, 256, 257, 258, 259, 28, 471, 472, 473, 474, 475, 476, 477, 440, 441, 442, 443, 444, 445, 446, 447, 448, 449, 450, 451, 452, 453, 454, 455, 456, 457, 458, 459] (by decide +kernel) (by decide +kernel)) (goodIn_sub (fun _ h => List.mem_append_left _ (List.mem_append_left _ (List.mem_append_right _ h))) (by decide +kernel))
set_option maxRecDepth 20000 in
theorem gL_law_L_revenue : GoodIn wsL_law (va_wsS RL 101 yL_revenue wsL_revenue) := goodIn_app (goodIn_of _ (by decide +kernel)) ggL_law_L_revenue
set_option maxRecDepth 20000 in
theorem ggL_law_L_fits : GoodIn wsL_law wsL_fits := goodIn_ca (goodIn_r _ [400, 401, 402, 403, 50, 404, 57, 405, 406, 407, 2, 408, 64, 65, 344, 230, 394, 395, 396, 397, 208, 11, 167, 168, 169, 170, 22, 287, 288, 289, 290, 34, 291, 292, 293, 294, 295, 296, 297, 298, 138, 299, 155, 156, 157, 300, 301, 302, 303, 39, 13, 139, 304, 305, 306, 38, 307, 45, 308, 309, 310, 311, 35, 312, 313, 314, 315, 316, 317, 318, 319, 320, 111, 16, 112, 113, 116, 115, 114, 321, 322, 323, 324, 19, 325, 326, 327, 328, 329, 187, 330, 194, 196, 331, 195, 332, 333, 334, 335, 336, 238, 337, 144, 145, 146, 239, 240, 241, 338, 339, 340, 341, 40, 342, 29, 343, 345, 346, 347, 348, 349, 350, 351, 352, 46, 47, 353, 354, 355, 356, 357, 358, 359, 360, 361, 362, 363, 105, 364, 365, 366, 367, 368, 256, 257, 258, 259, 28, 387, 388, 389, 390, 391, 392, 393, 409, 410, 411, 412, 413, 414, 415, 416, 72, 73, 74, 417, 418, 419, 278, 420, 421, 422, 423, 471, 472, 473, 474, 475, 476, 477, 440, 441, 442, 443, 444, 445, 446, 447, 448, 449, 450, 451, 452, 453, 454, 455, 456, 457, 458, 459, 463, 464, 465, 460, 461, 462, 482, 483, 484, 485, 486, 487, 466, 467, 468, 469, 470] (by decide +kernel) (by decide +kernel)) (goodIn_sub (fun _ h => List.mem_append_left _ (List.mem_append_left _ (List.mem_append_right _ h))) (by decide +kernel))
set_option maxRecDepth 20000 in
theorem gL_law_L_fits : GoodIn wsL_law (va_wsS RL 157 yL_fits wsL_fits) := goodIn_app (goodIn_of _ (by decide +kernel)) ggL_law_L_fits
set_option maxRecDepth 20000 in
theorem ggL_law_L_due : GoodIn wsL_law wsL_due := goodIn_ca (goodIn_r _ [426, 57, 427, 428, 429, 430, 2, 431, 64, 65, 344, 394, 395, 396, 397, 208, 11, 167, 168, 169, 170, 22, 72, 73, 74, 287, 288, 289, 290, 34, 291, 292, 293, 294, 295, 230, 296, 297, 298, 138, 299, 155, 156, 157, 300, 301, 302, 303, 39, 13, 139, 304, 305, 306, 38, 307, 45, 308, 309, 310, 311, 35, 312, 313, 314, 315, 316, 317, 318, 319, 320, 111, 16, 112, 113, 116, 115, 114, 321, 322, 323, 324, 19, 325, 326, 327, 328, 329, 187, 330, 194, 196, 331, 195, 332, 333, 334, 335, 336, 238, 337, 144, 145, 146, 239, 240, 241, 338, 339, 340, 341, 40, 342, 29, 343, 345, 346, 347, 348, 349, 350, 351, 352, 46, 47, 353, 354, 355, 356, 357, 358, 359, 360, 361, 362, 363, 105, 364, 365, 366, 367, 368, 256, 257, 258, 259, 28, 471, 472, 473, 474, 475, 476, 477, 440, 441, 442, 443, 444, 445, 446, 447, 448, 449, 450, 451, 452, 453, 454, 455, 456, 457, 458, 459, 463, 464, 465, 460, 461, 462, 482, 483, 484, 485, 486, 487, 466, 467, 468, 469, 470] (by decide +kernel) (by decide +kernel)) (goodIn_sub (fun _ h => List.mem_append_left _ (List.mem_append_left _ (List.mem_append_right _ h))) (by decide +kernel))
set_option maxRecDepth 20000 in
theorem gL_law_L_due : GoodIn wsL_law (va_wsS RL 161 yL_due wsL_due) := goodIn_app (goodIn_of _ (by decide +kernel)) ggL_law_L_due
set_option maxRecDepth 20000 in
theorem ggL_law_L_owed : GoodIn wsL_law wsL_owed := goodIn_ca (goodIn_r _ [434, 57, 435, 436, 437, 438, 2, 439, 64, 65, 72, 73, 74, 287, 288, 289, 290, 34, 11, 22, 208, 291, 292, 293, 294, 295, 230, 296, 297, 298, 138, 299, 155, 156, 157, 300, 301, 302, 303, 39, 13, 139, 304, 305, 306, 38, 307, 45, 308, 309, 310, 311, 35, 312, 313, 314, 315, 316, 317, 318, 319, 320, 111, 16, 112, 113, 116, 115, 114, 321, 322, 323, 324, 19, 325, 326, 327, 328, 329, 187, 330, 194, 196, 331, 195, 332, 333, 334, 335, 336, 238, 337, 144, 145, 146, 239, 240, 241, 338, 339, 340, 341, 40, 342, 29, 343, 344, 345, 346, 347, 348, 349, 350, 351, 352, 46, 47, 353, 354, 355, 356, 357, 358, 359, 360, 361, 362, 363, 105, 364, 365, 366, 367, 368, 256, 257, 258, 259, 28, 369, 370, 371, 372, 33, 440, 441, 442, 443, 444, 445, 446, 447, 448, 449, 450, 451, 452, 453, 454, 455, 456, 457, 458, 459, 471, 472, 473, 474, 475, 476, 477, 463, 464, 465, 460, 461, 462, 482, 483, 484, 485, 486, 487, 466, 467, 468, 469, 470] (by decide +kernel) (by decide +kernel)) (goodIn_sub (fun _ h => List.mem_append_left _ (List.mem_append_left _ (List.mem_append_right _ h))) (by decide +kernel))
set_option maxRecDepth 20000 in
theorem gL_law_L_owed : GoodIn wsL_law (va_wsS RL 164 yL_owed wsL_owed) := goodIn_app (goodIn_of _ (by decide +kernel)) ggL_law_L_owed
theorem dL_law_0 : decode cL_law 0 = .ok (.new 10, 3) := by decide +kernel
theorem dL_law_3 : decode cL_law 3 = .ok (.dup, 1) := by decide +kernel
theorem dL_law_4 : decode cL_law 4 = .ok (.invokespecial 110, 3) := by decide +kernel
theorem dL_law_7 : decode cL_law 7 = .ok (.astore_n 1, 1) := by decide +kernel
theorem dL_law_8 : decode cL_law 8 = .ok (.iconst 0, 1) := by decide +kernel
theorem dL_law_9 : decode cL_law 9 = .ok (.istore_n 2, 1) := by decide +kernel
theorem dL_law_10 : decode cL_law 10 = .ok (.iconst 0, 1) := by decide +kernel
theorem dL_law_11 : decode cL_law 11 = .ok (.istore_n 3, 1) := by decide +kernel
theorem dL_law_12 : decode cL_law 12 = .ok (.iconst 0, 1) := by decide +kernel
theorem dL_law_13 : decode cL_law 13 = .ok (.istore 4, 2) := by decide +kernel
theorem dL_law_15 : decode cL_law 15 = .ok (.iconst 0, 1) := by decide +kernel
theorem dL_law_16 : decode cL_law 16 = .ok (.istore 5, 2) := by decide +kernel
theorem dL_law_18 : decode cL_law 18 = .ok (.lconst 0, 1) := by decide +kernel
theorem dL_law_19 : decode cL_law 19 = .ok (.lstore 6, 2) := by decide +kernel
theorem dL_law_21 : decode cL_law 21 = .ok (.iconst 1, 1) := by decide +kernel
theorem dL_law_22 : decode cL_law 22 = .ok (.istore 8, 2) := by decide +kernel
theorem dL_law_24 : decode cL_law 24 = .ok (.iconst 0, 1) := by decide +kernel
theorem dL_law_25 : decode cL_law 25 = .ok (.istore 9, 2) := by decide +kernel
theorem dL_law_27 : decode cL_law 27 = .ok (.iload 9, 2) := by decide +kernel
theorem dL_law_29 : decode cL_law 29 = .ok (.bipush 28, 2) := by decide +kernel
theorem dL_law_31 : decode cL_law 31 = .ok (.if_icmp .ge 924, 3) := by decide +kernel
theorem dL_law_34 : decode cL_law 34 = .ok (.iload 8, 2) := by decide +kernel
theorem dL_law_36 : decode cL_law 36 = .ok (.ifCond .eq 919, 3) := by decide +kernel
theorem dL_law_39 : decode cL_law 39 = .ok (.aload_n 0, 1) := by decide +kernel
theorem dL_law_40 : decode cL_law 40 = .ok (.iload 9, 2) := by decide +kernel
theorem dL_law_42 : decode cL_law 42 = .ok (.invokestatic 111, 3) := by decide +kernel
theorem dL_law_45 : decode cL_law 45 = .ok (.istore 10, 2) := by decide +kernel
