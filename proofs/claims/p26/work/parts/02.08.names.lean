theorem dL_lease_24 : decode cL_lease 24 = .ok (.bipush (-103), 2) := by decide +kernel
theorem dL_lease_26 : decode cL_lease 26 = .ok (.ireturn, 1) := by decide +kernel
set_option maxRecDepth 20000 in
theorem ggL_unit_X6_unit : GoodIn wsL_unit wsX6_unit := goodIn_ca (goodIn_ca (goodIn_r _ [7, 8, 9, 10, 11, 12, 13, 14, 15, 16, 17, 18, 19, 20, 21, 22, 23, 6, 24, 25, 26, 27, 28, 29, 30, 31, 32, 33, 34, 35, 36, 37, 38, 39, 40, 41, 42, 43, 44, 45, 46, 47, 48, 49, 50, 51, 52, 53, 54, 55, 56, 57, 58, 59, 60, 61, 62, 63, 64, 65, 66, 67, 68, 69, 70, 71, 72, 73, 74, 75, 76, 77, 78, 79, 80, 81] (by decide +kernel) (by decide +kernel)) (goodIn_sub (fun _ h => List.mem_cons_of_mem _ (List.mem_append_left _ (List.mem_append_right _ h))) (by decide +kernel))) (goodIn_sub (fun _ h => List.mem_cons_of_mem _ (List.mem_append_right _ h)) (by decide +kernel))
set_option maxRecDepth 20000 in
theorem gL_unit_X6_unit : GoodIn wsL_unit (wsV RL 36 RX6 yX6_unit wsX6_unit) := goodIn_app (goodIn_of _ (by decide +kernel)) ggL_unit_X6_unit
theorem dL_unit_0 : decode cL_unit 0 = .ok (.aload_n 0, 1) := by decide +kernel
theorem dL_unit_1 : decode cL_unit 1 = .ok (.iload_n 1, 1) := by decide +kernel
theorem dL_unit_2 : decode cL_unit 2 = .ok (.invokevirtual 36, 3) := by decide +kernel
theorem dL_unit_5 : decode cL_unit 5 = .ok (.ireturn, 1) := by decide +kernel
theorem dL_unit_6 : decode cL_unit 6 = .ok (.astore_n 2, 1) := by decide +kernel
theorem dL_unit_7 : decode cL_unit 7 = .ok (.bipush (-102), 2) := by decide +kernel
theorem dL_unit_9 : decode cL_unit 9 = .ok (.ireturn, 1) := by decide +kernel
theorem dL_unit_10 : decode cL_unit 10 = .ok (.astore_n 2, 1) := by decide +kernel
theorem dL_unit_11 : decode cL_unit 11 = .ok (.bipush (-103), 2) := by decide +kernel
theorem dL_unit_13 : decode cL_unit 13 = .ok (.ireturn, 1) := by decide +kernel
set_option maxRecDepth 20000 in
theorem ggL_well_X6_well : GoodIn wsL_well wsX6_well := goodIn_ca (goodIn_ca (goodIn_r _ [7, 8, 9, 10, 11, 12, 13, 14, 15, 16, 17, 18, 19, 6, 20, 21, 22, 23, 24, 25, 26, 27, 28, 29, 30, 31, 32, 33, 34, 35, 36, 37, 38, 39, 40, 41, 42, 43, 44, 45, 46, 47, 48, 49, 50, 51, 52, 53, 54, 55, 56] (by decide +kernel) (by decide +kernel)) (goodIn_sub (fun _ h => List.mem_cons_of_mem _ (List.mem_append_left _ (List.mem_append_right _ h))) (by decide +kernel))) (goodIn_sub (fun _ h => List.mem_cons_of_mem _ (List.mem_append_right _ h)) (by decide +kernel))
set_option maxRecDepth 20000 in
theorem gL_well_X6_well : GoodIn wsL_well (wsV RL 39 RX6 yX6_well wsX6_well) := goodIn_app (goodIn_of _ (by decide +kernel)) ggL_well_X6_well
theorem dL_well_0 : decode cL_well 0 = .ok (.aload_n 0, 1) := by decide +kernel
theorem dL_well_1 : decode cL_well 1 = .ok (.iload_n 1, 1) := by decide +kernel
theorem dL_well_2 : decode cL_well 2 = .ok (.invokevirtual 39, 3) := by decide +kernel
theorem dL_well_5 : decode cL_well 5 = .ok (.ireturn, 1) := by decide +kernel
theorem dL_well_6 : decode cL_well 6 = .ok (.astore_n 2, 1) := by decide +kernel
theorem dL_well_7 : decode cL_well 7 = .ok (.bipush (-101), 2) := by decide +kernel
theorem dL_well_9 : decode cL_well 9 = .ok (.ireturn, 1) := by decide +kernel
theorem dL_well_10 : decode cL_well 10 = .ok (.astore_n 2, 1) := by decide +kernel
theorem dL_well_11 : decode cL_well 11 = .ok (.bipush (-103), 2) := by decide +kernel
theorem dL_well_13 : decode cL_well 13 = .ok (.ireturn, 1) := by decide +kernel
set_option maxRecDepth 20000 in
theorem ggL_oil_X6_oil : GoodIn wsL_oil wsX6_oil := goodIn_ca (goodIn_ca (goodIn_ca (goodIn_r _ [8, 9, 10, 11, 12, 13, 14, 15, 16, 17, 18, 19, 20, 7, 21, 22, 23, 24, 25, 26, 27, 28, 29, 30, 31, 32, 33, 34, 35, 36, 37, 38, 39, 40, 41, 42, 43, 44, 45, 46, 47, 48, 49, 50, 51, 52, 53, 54, 55, 56, 57, 58, 59, 60, 61, 62, 63, 64, 65, 66, 67, 68, 69, 70, 71, 72, 73, 74, 75, 76, 77] (by decide +kernel) (by decide +kernel)) (goodIn_sub (fun _ h => List.mem_cons_of_mem _ (List.mem_append_left _ (List.mem_append_left _ (List.mem_append_right _ h)))) (by decide +kernel))) (goodIn_sub (fun _ h => List.mem_cons_of_mem _ (List.mem_append_left _ (List.mem_append_right _ h))) (by decide +kernel))) (goodIn_sub (fun _ h => List.mem_cons_of_mem _ (List.mem_append_right _ h)) (by decide +kernel))
set_option maxRecDepth 20000 in
theorem gL_oil_X6_oil : GoodIn wsL_oil (wsV RL 42 RX6 yX6_oil wsX6_oil) := goodIn_app (goodIn_of _ (by decide +kernel)) ggL_oil_X6_oil
theorem dL_oil_0 : decode cL_oil 0 = .ok (.aload_n 0, 1) := by decide +kernel
theorem dL_oil_1 : decode cL_oil 1 = .ok (.iload_n 1, 1) := by decide +kernel
theorem dL_oil_2 : decode cL_oil 2 = .ok (.iload_n 2, 1) := by decide +kernel
theorem dL_oil_3 : decode cL_oil 3 = .ok (.iload_n 3, 1) := by decide +kernel
theorem dL_oil_4 : decode cL_oil 4 = .ok (.iload 4, 2) := by decide +kernel
theorem dL_oil_6 : decode cL_oil 6 = .ok (.invokevirtual 42, 3) := by decide +kernel
theorem dL_oil_9 : decode cL_oil 9 = .ok (.ireturn, 1) := by decide +kernel
theorem dL_oil_10 : decode cL_oil 10 = .ok (.astore 5, 2) := by decide +kernel
theorem dL_oil_12 : decode cL_oil 12 = .ok (.bipush (-101), 2) := by decide +kernel
theorem dL_oil_14 : decode cL_oil 14 = .ok (.ireturn, 1) := by decide +kernel
theorem dL_oil_15 : decode cL_oil 15 = .ok (.astore 5, 2) := by decide +kernel
theorem dL_oil_17 : decode cL_oil 17 = .ok (.bipush (-102), 2) := by decide +kernel
theorem dL_oil_19 : decode cL_oil 19 = .ok (.ireturn, 1) := by decide +kernel
theorem dL_oil_20 : decode cL_oil 20 = .ok (.astore 5, 2) := by decide +kernel
theorem dL_oil_22 : decode cL_oil 22 = .ok (.bipush (-103), 2) := by decide +kernel
theorem dL_oil_24 : decode cL_oil 24 = .ok (.ireturn, 1) := by decide +kernel
set_option maxRecDepth 20000 in
theorem ggL_cost_X6_cost : GoodIn wsL_cost wsX6_cost := goodIn_ca (goodIn_ca (goodIn_ca (goodIn_r _ [8, 9, 10, 11, 12, 13, 14, 15, 16, 17, 18, 19, 20, 21, 22, 23, 7, 24, 25, 26, 27, 28, 29, 30, 31, 32, 33, 34, 35, 36, 37, 38, 39, 40, 41, 42, 43, 44, 45, 46, 47, 48, 49, 50, 51, 52, 53, 54, 55, 56, 57, 58, 59, 60, 61, 62, 63, 64, 65, 66, 67, 68, 69, 70] (by decide +kernel) (by decide +kernel)) (goodIn_sub (fun _ h => List.mem_cons_of_mem _ (List.mem_append_left _ (List.mem_append_left _ (List.mem_append_right _ h)))) (by decide +kernel))) (goodIn_sub (fun _ h => List.mem_cons_of_mem _ (List.mem_append_left _ (List.mem_append_right _ h))) (by decide +kernel))) (goodIn_sub (fun _ h => List.mem_cons_of_mem _ (List.mem_append_right _ h)) (by decide +kernel))
set_option maxRecDepth 20000 in
theorem gL_cost_X6_cost : GoodIn wsL_cost (wsV RL 46 RX6 yX6_cost wsX6_cost) := goodIn_app (goodIn_of _ (by decide +kernel)) ggL_cost_X6_cost
theorem dL_cost_0 : decode cL_cost 0 = .ok (.aload_n 0, 1) := by decide +kernel
theorem dL_cost_1 : decode cL_cost 1 = .ok (.iload_n 1, 1) := by decide +kernel
theorem dL_cost_2 : decode cL_cost 2 = .ok (.iload_n 2, 1) := by decide +kernel
theorem dL_cost_3 : decode cL_cost 3 = .ok (.iload_n 3, 1) := by decide +kernel
theorem dL_cost_4 : decode cL_cost 4 = .ok (.invokevirtual 46, 3) := by decide +kernel
theorem dL_cost_7 : decode cL_cost 7 = .ok (.ireturn, 1) := by decide +kernel
theorem dL_cost_8 : decode cL_cost 8 = .ok (.astore 4, 2) := by decide +kernel
theorem dL_cost_10 : decode cL_cost 10 = .ok (.bipush (-101), 2) := by decide +kernel
theorem dL_cost_12 : decode cL_cost 12 = .ok (.ireturn, 1) := by decide +kernel
theorem dL_cost_13 : decode cL_cost 13 = .ok (.astore 4, 2) := by decide +kernel
theorem dL_cost_15 : decode cL_cost 15 = .ok (.bipush (-102), 2) := by decide +kernel
theorem dL_cost_17 : decode cL_cost 17 = .ok (.ireturn, 1) := by decide +kernel
theorem dL_cost_18 : decode cL_cost 18 = .ok (.astore 4, 2) := by decide +kernel
theorem dL_cost_20 : decode cL_cost 20 = .ok (.bipush (-103), 2) := by decide +kernel
theorem dL_cost_22 : decode cL_cost 22 = .ok (.ireturn, 1) := by decide +kernel
set_option maxRecDepth 20000 in
theorem ggL_tax_X6_tax : GoodIn wsL_tax wsX6_tax := goodIn_ca (goodIn_ca (goodIn_r _ [7, 8, 9, 10, 11, 12, 13, 14, 15, 6, 16, 17, 18, 19, 20, 21, 22, 23, 24, 25, 26, 27, 28, 29, 30, 31, 32, 33, 34, 35, 36, 37, 38, 39, 40, 41, 42, 43, 44, 45, 46, 47, 48, 49, 50] (by decide +kernel) (by decide +kernel)) (goodIn_sub (fun _ h => List.mem_cons_of_mem _ (List.mem_append_left _ (List.mem_append_right _ h))) (by decide +kernel))) (goodIn_sub (fun _ h => List.mem_cons_of_mem _ (List.mem_append_right _ h)) (by decide +kernel))
set_option maxRecDepth 20000 in
theorem gL_tax_X6_tax : GoodIn wsL_tax (wsV RL 49 RX6 yX6_tax wsX6_tax) := goodIn_app (goodIn_of _ (by decide +kernel)) ggL_tax_X6_tax
theorem dL_tax_0 : decode cL_tax 0 = .ok (.aload_n 0, 1) := by decide +kernel
theorem dL_tax_1 : decode cL_tax 1 = .ok (.iload_n 1, 1) := by decide +kernel
theorem dL_tax_2 : decode cL_tax 2 = .ok (.iload_n 2, 1) := by decide +kernel
theorem dL_tax_3 : decode cL_tax 3 = .ok (.invokevirtual 49, 3) := by decide +kernel
theorem dL_tax_6 : decode cL_tax 6 = .ok (.ireturn, 1) := by decide +kernel
theorem dL_tax_7 : decode cL_tax 7 = .ok (.astore_n 3, 1) := by decide +kernel
theorem dL_tax_8 : decode cL_tax 8 = .ok (.bipush (-101), 2) := by decide +kernel
theorem dL_tax_10 : decode cL_tax 10 = .ok (.ireturn, 1) := by decide +kernel
theorem dL_tax_11 : decode cL_tax 11 = .ok (.astore_n 3, 1) := by decide +kernel
theorem dL_tax_12 : decode cL_tax 12 = .ok (.bipush (-102), 2) := by decide +kernel
theorem dL_tax_14 : decode cL_tax 14 = .ok (.ireturn, 1) := by decide +kernel
set_option maxRecDepth 20000 in
theorem ggL_consent_X6_consent : GoodIn wsL_consent wsX6_consent := goodIn_ca (goodIn_r _ [6, 7, 8, 9, 10, 11, 12, 13, 5, 14, 15, 16, 17, 18, 19, 20, 21, 22, 23, 24, 25, 26, 27, 28, 29, 30, 31, 32, 33, 34, 35, 36, 37, 38, 39, 40, 41, 42, 43, 44, 45, 46, 47, 48, 49, 50, 51, 52, 53, 54, 55, 56, 57, 58, 59, 60] (by decide +kernel) (by decide +kernel)) (goodIn_sub (fun _ h => List.mem_cons_of_mem _ (List.mem_append_right _ h)) (by decide +kernel))
set_option maxRecDepth 20000 in
theorem gL_consent_X6_consent : GoodIn wsL_consent (wsV RL 52 RX6 yX6_consent wsX6_consent) := goodIn_app (goodIn_of _ (by decide +kernel)) ggL_consent_X6_consent
theorem dL_consent_0 : decode cL_consent 0 = .ok (.aload_n 0, 1) := by decide +kernel
theorem dL_consent_1 : decode cL_consent 1 = .ok (.iload_n 1, 1) := by decide +kernel
theorem dL_consent_2 : decode cL_consent 2 = .ok (.iload_n 2, 1) := by decide +kernel
theorem dL_consent_3 : decode cL_consent 3 = .ok (.iload_n 3, 1) := by decide +kernel
theorem dL_consent_4 : decode cL_consent 4 = .ok (.invokevirtual 52, 3) := by decide +kernel
theorem dL_consent_7 : decode cL_consent 7 = .ok (.ifCond .eq 7, 3) := by decide +kernel
theorem dL_consent_10 : decode cL_consent 10 = .ok (.iconst 1, 1) := by decide +kernel
theorem dL_consent_11 : decode cL_consent 11 = .ok (.goto 4, 3) := by decide +kernel
theorem dL_consent_14 : decode cL_consent 14 = .ok (.iconst 0, 1) := by decide +kernel
theorem dL_consent_15 : decode cL_consent 15 = .ok (.ireturn, 1) := by decide +kernel
theorem dL_consent_16 : decode cL_consent 16 = .ok (.astore 4, 2) := by decide +kernel
theorem dL_consent_18 : decode cL_consent 18 = .ok (.bipush (-101), 2) := by decide +kernel
theorem dL_consent_20 : decode cL_consent 20 = .ok (.ireturn, 1) := by decide +kernel
set_option maxRecDepth 20000 in
theorem ggL_penalty_X6_penalty : GoodIn wsL_penalty wsX6_penalty := goodIn_ca (goodIn_r _ [6, 7, 8, 9, 10, 11, 12, 5, 13, 14, 15, 16, 17, 18, 19, 20, 21, 22, 23, 24, 25, 26, 27, 28, 29, 30, 31, 32, 33, 34, 35, 36, 37, 38] (by decide +kernel) (by decide +kernel)) (goodIn_sub (fun _ h => List.mem_cons_of_mem _ (List.mem_append_right _ h)) (by decide +kernel))
set_option maxRecDepth 20000 in
theorem gL_penalty_X6_penalty : GoodIn wsL_penalty (wsV RL 56 RX6 yX6_penalty wsX6_penalty) := goodIn_app (goodIn_of _ (by decide +kernel)) ggL_penalty_X6_penalty
theorem dL_penalty_0 : decode cL_penalty 0 = .ok (.aload_n 0, 1) := by decide +kernel
theorem dL_penalty_1 : decode cL_penalty 1 = .ok (.iload_n 1, 1) := by decide +kernel
theorem dL_penalty_2 : decode cL_penalty 2 = .ok (.invokevirtual 56, 3) := by decide +kernel
theorem dL_penalty_5 : decode cL_penalty 5 = .ok (.ireturn, 1) := by decide +kernel
theorem dL_penalty_6 : decode cL_penalty 6 = .ok (.astore_n 2, 1) := by decide +kernel
theorem dL_penalty_7 : decode cL_penalty 7 = .ok (.bipush (-102), 2) := by decide +kernel
theorem dL_penalty_9 : decode cL_penalty 9 = .ok (.ireturn, 1) := by decide +kernel
set_option maxRecDepth 20000 in
theorem ggL_interest_X6_interest : GoodIn wsL_interest wsX6_interest := goodIn_ca (goodIn_r _ [6, 7, 8, 9, 10, 11, 12, 13, 14, 5, 15, 16, 17, 18, 19, 20, 21, 22, 23, 24, 25, 26, 27, 28, 29, 30, 31, 32, 33, 34, 35, 36, 37, 38, 39, 40, 41, 42, 43, 44, 45, 46, 47, 48, 49, 50, 51, 52, 53, 54, 55, 56, 57, 58, 59, 60, 61, 62, 63, 64, 65, 66, 67, 68, 69, 70, 71, 72, 73, 74, 75, 76, 77, 78, 79, 80, 81, 82, 83, 84, 85, 86, 87, 88, 89, 90, 91, 92, 93, 94, 95, 96, 97, 98, 99, 100, 101, 102, 103, 104, 105, 106, 107, 108, 109, 110, 111, 112, 113, 114, 115, 116, 117, 118, 119, 120, 121, 122, 123, 124, 125, 126, 127, 128, 129, 130] (by decide +kernel) (by decide +kernel)) (goodIn_sub (fun _ h => List.mem_cons_of_mem _ (List.mem_append_right _ h)) (by decide +kernel))
set_option maxRecDepth 20000 in
theorem gL_interest_X6_interest : GoodIn wsL_interest (wsV RL 59 RX6 yX6_interest wsX6_interest) := goodIn_app (goodIn_of _ (by decide +kernel)) ggL_interest_X6_interest
theorem dL_interest_0 : decode cL_interest 0 = .ok (.aload_n 0, 1) := by decide +kernel
theorem dL_interest_1 : decode cL_interest 1 = .ok (.iload_n 1, 1) := by decide +kernel
theorem dL_interest_2 : decode cL_interest 2 = .ok (.iload_n 2, 1) := by decide +kernel
theorem dL_interest_3 : decode cL_interest 3 = .ok (.iload_n 3, 1) := by decide +kernel
theorem dL_interest_4 : decode cL_interest 4 = .ok (.iload 4, 2) := by decide +kernel
theorem dL_interest_6 : decode cL_interest 6 = .ok (.invokevirtual 59, 3) := by decide +kernel
theorem dL_interest_9 : decode cL_interest 9 = .ok (.ireturn, 1) := by decide +kernel
theorem dL_interest_10 : decode cL_interest 10 = .ok (.astore 5, 2) := by decide +kernel
theorem dL_interest_12 : decode cL_interest 12 = .ok (.bipush (-101), 2) := by decide +kernel
theorem dL_interest_14 : decode cL_interest 14 = .ok (.ireturn, 1) := by decide +kernel
set_option maxRecDepth 20000 in
theorem ggL_revenue_X6_revenue : GoodIn wsL_revenue wsX6_revenue := goodIn_ca (goodIn_r _ [6, 7, 8, 9, 10, 11, 5, 12, 13, 14, 15, 16, 17, 18, 19, 20, 21, 22, 23, 24, 25, 26, 27, 28, 29, 30, 31, 32, 33, 34, 35, 36, 37, 38, 39, 40, 41, 42, 43, 44, 45, 46, 47, 48, 49, 50, 51, 52, 53, 54, 55, 56, 57] (by decide +kernel) (by decide +kernel)) (goodIn_sub (fun _ h => List.mem_cons_of_mem _ (List.mem_append_right _ h)) (by decide +kernel))
set_option maxRecDepth 20000 in
theorem gL_revenue_X6_revenue : GoodIn wsL_revenue (wsV RL 63 RX6 yX6_revenue wsX6_revenue) := goodIn_app (goodIn_of _ (by decide +kernel)) ggL_revenue_X6_revenue
theorem dL_revenue_0 : decode cL_revenue 0 = .ok (.aload_n 0, 1) := by decide +kernel
theorem dL_revenue_1 : decode cL_revenue 1 = .ok (.iload_n 1, 1) := by decide +kernel
theorem dL_revenue_2 : decode cL_revenue 2 = .ok (.iload_n 2, 1) := by decide +kernel
theorem dL_revenue_3 : decode cL_revenue 3 = .ok (.invokevirtual 63, 3) := by decide +kernel
theorem dL_revenue_6 : decode cL_revenue 6 = .ok (.ireturn, 1) := by decide +kernel
theorem dL_revenue_7 : decode cL_revenue 7 = .ok (.astore_n 3, 1) := by decide +kernel
theorem dL_revenue_8 : decode cL_revenue 8 = .ok (.bipush (-101), 2) := by decide +kernel
theorem dL_revenue_10 : decode cL_revenue 10 = .ok (.ireturn, 1) := by decide +kernel
set_option maxRecDepth 20000 in
theorem ggL_due_X6_due : GoodIn wsL_due wsX6_due := goodIn_ca (goodIn_r _ [7, 8, 9, 10, 11, 12, 13, 6, 14, 15, 16, 17, 18, 19, 20, 21, 22, 23, 24, 25, 26, 27, 28, 29, 30, 31, 32, 33, 34, 35, 36, 37, 38, 39, 40, 41, 42, 43, 44, 45, 46, 47, 48, 49, 50, 51, 52, 53, 54, 55, 56, 57, 58, 59, 60, 61, 62, 63, 64, 65, 66, 67, 68, 69, 70, 71, 72, 73, 74, 75, 76, 77, 78, 79, 80, 81, 82, 83, 84, 85, 86, 87, 88, 89, 90, 91, 92, 93, 94, 95, 96, 97, 98, 99, 100, 101, 102, 103, 104, 105, 106, 107, 108, 109, 110, 111, 112, 113, 114, 115, 116, 117, 118, 119, 120, 121, 122, 123, 124, 125, 126, 127, 128, 129, 130, 131, 132, 133, 134, 135, 136, 137, 138, 139, 140, 141, 142, 143, 144, 145, 146, 147, 148, 149, 150, 151, 152, 153, 154, 155, 156, 157, 158, 159, 160, 161, 162, 163, 164, 165, 166, 167, 168, 169, 170, 171, 172, 173, 174, 175, 176, 177, 178, 179, 180, 181, 182, 183, 184, 185, 186, 187, 188, 189, 190] (by decide +kernel) (by decide +kernel)) (goodIn_sub (fun _ h => List.mem_cons_of_mem _ (List.mem_append_right _ h)) (by decide +kernel))
set_option maxRecDepth 20000 in
theorem gL_due_X6_due : GoodIn wsL_due (wsV RL 66 RX6 yX6_due wsX6_due) := goodIn_app (goodIn_of _ (by decide +kernel)) ggL_due_X6_due
theorem dL_due_0 : decode cL_due 0 = .ok (.aload_n 0, 1) := by decide +kernel
theorem dL_due_1 : decode cL_due 1 = .ok (.iload_n 1, 1) := by decide +kernel
theorem dL_due_2 : decode cL_due 2 = .ok (.iload_n 2, 1) := by decide +kernel
theorem dL_due_3 : decode cL_due 3 = .ok (.iload_n 3, 1) := by decide +kernel
theorem dL_due_4 : decode cL_due 4 = .ok (.invokevirtual 66, 3) := by decide +kernel
theorem dL_due_7 : decode cL_due 7 = .ok (.ireturn, 1) := by decide +kernel
theorem dL_due_8 : decode cL_due 8 = .ok (.astore 4, 2) := by decide +kernel
theorem dL_due_10 : decode cL_due 10 = .ok (.ldc 69, 2) := by decide +kernel
theorem dL_due_12 : decode cL_due 12 = .ok (.ireturn, 1) := by decide +kernel
set_option maxRecDepth 20000 in
theorem ggL_balance_X6_balance : GoodIn wsL_balance wsX6_balance := goodIn_ca (goodIn_r _ [7, 8, 9, 10, 11, 12, 13, 6, 14, 15, 16, 17, 18, 19, 20, 21, 22, 23, 24, 25, 26, 27, 28, 29, 30, 31, 32, 33, 34, 35, 36, 37, 38, 39, 40, 41, 42, 43, 44, 45, 46, 47, 48, 49, 50, 51, 52, 53, 54, 55, 56, 57, 58, 59, 60, 61, 62, 63, 64, 65, 66, 67, 68, 69, 70, 71, 72, 73, 74, 75, 76, 77, 78, 79, 80, 81, 82, 83, 84, 85, 86, 87, 88, 89, 90, 91, 92, 93, 94, 95, 96, 97, 98, 99, 100, 101, 102, 103, 104, 105, 106, 107, 108, 109, 110, 111, 112, 113, 114, 115, 116, 117, 118, 119, 120, 121, 122, 123, 124, 125, 126, 127, 128, 129, 130, 131, 132, 133, 134, 135, 136, 137, 138, 139, 140, 141, 142, 143, 144, 145, 146, 147, 148, 149, 150, 151, 152, 153, 154, 155, 156, 157, 158, 159, 160, 161, 162, 163, 164, 165, 166, 167, 168, 169, 170, 171, 172, 173, 174, 175, 176, 177, 178, 179, 180, 181, 182, 183, 184, 185, 186, 187, 188, 189, 190] (by decide +kernel) (by decide +kernel)) (goodIn_sub (fun _ h => List.mem_cons_of_mem _ (List.mem_append_right _ h)) (by decide +kernel))
set_option maxRecDepth 20000 in
theorem gL_balance_X6_balance : GoodIn wsL_balance (wsV RL 70 RX6 yX6_balance wsX6_balance) := goodIn_app (goodIn_of _ (by decide +kernel)) ggL_balance_X6_balance
theorem dL_balance_0 : decode cL_balance 0 = .ok (.aload_n 0, 1) := by decide +kernel
theorem dL_balance_1 : decode cL_balance 1 = .ok (.iload_n 1, 1) := by decide +kernel
theorem dL_balance_2 : decode cL_balance 2 = .ok (.iload_n 2, 1) := by decide +kernel
theorem dL_balance_3 : decode cL_balance 3 = .ok (.iload_n 3, 1) := by decide +kernel
theorem dL_balance_4 : decode cL_balance 4 = .ok (.invokevirtual 70, 3) := by decide +kernel
theorem dL_balance_7 : decode cL_balance 7 = .ok (.lreturn, 1) := by decide +kernel
theorem dL_balance_8 : decode cL_balance 8 = .ok (.astore 4, 2) := by decide +kernel
theorem dL_balance_10 : decode cL_balance 10 = .ok (.ldc2_w 74, 3) := by decide +kernel
theorem dL_balance_13 : decode cL_balance 13 = .ok (.lreturn, 1) := by decide +kernel
set_option maxRecDepth 20000 in
theorem ggL_agrees_X6_agrees : GoodIn wsL_agrees wsX6_agrees := goodIn_ca (goodIn_r _ [6, 7, 8, 9, 10, 11, 12, 13, 5, 14, 15, 16, 17, 18, 19, 20, 21, 22, 23, 24, 25, 26, 27, 28, 29, 30, 31, 32, 33, 34, 35, 36, 37, 38, 39, 40, 41, 42, 43, 44, 45, 46, 47, 48, 49, 50, 51, 52, 53, 54, 55, 56, 57, 58, 59, 60, 61, 62, 63, 64, 65, 66, 67, 68, 69, 70, 71, 72, 73, 74, 75, 76, 77, 78, 79, 80, 81, 82, 83, 84, 85, 86, 87, 88, 89, 90, 91, 92, 93, 94, 95, 96, 97, 98, 99, 100, 101, 102, 103, 104, 105, 106, 107, 108, 109, 110, 111, 112, 113, 114, 115, 116, 117, 118, 119, 120, 121, 122, 123, 124, 125, 126, 127, 128, 129, 130, 131, 132, 133, 134, 135, 136, 137, 138, 139, 140, 141, 142, 143, 144, 145, 146, 147, 148, 149, 150, 151, 152, 153, 154, 155, 156, 157, 158, 159, 160, 161, 162, 163, 164, 165, 166, 167, 168, 169, 170, 171, 172, 173, 174, 175, 176, 177, 178, 179, 180, 181, 182, 183, 184, 185, 186] (by decide +kernel) (by decide +kernel)) (goodIn_sub (fun _ h => List.mem_cons_of_mem _ (List.mem_append_right _ h)) (by decide +kernel))
set_option maxRecDepth 20000 in
theorem gL_agrees_X6_agrees : GoodIn wsL_agrees (wsV RL 76 RX6 yX6_agrees wsX6_agrees) := goodIn_app (goodIn_of _ (by decide +kernel)) ggL_agrees_X6_agrees
theorem dL_agrees_0 : decode cL_agrees 0 = .ok (.aload_n 0, 1) := by decide +kernel
theorem dL_agrees_1 : decode cL_agrees 1 = .ok (.iload_n 1, 1) := by decide +kernel
theorem dL_agrees_2 : decode cL_agrees 2 = .ok (.iload_n 2, 1) := by decide +kernel
theorem dL_agrees_3 : decode cL_agrees 3 = .ok (.invokevirtual 76, 3) := by decide +kernel
theorem dL_agrees_6 : decode cL_agrees 6 = .ok (.ifCond .eq 7, 3) := by decide +kernel
theorem dL_agrees_9 : decode cL_agrees 9 = .ok (.iconst 1, 1) := by decide +kernel
theorem dL_agrees_10 : decode cL_agrees 10 = .ok (.goto 4, 3) := by decide +kernel
theorem dL_agrees_13 : decode cL_agrees 13 = .ok (.iconst 0, 1) := by decide +kernel
theorem dL_agrees_14 : decode cL_agrees 14 = .ok (.ireturn, 1) := by decide +kernel
theorem dL_agrees_15 : decode cL_agrees 15 = .ok (.astore_n 3, 1) := by decide +kernel
theorem dL_agrees_16 : decode cL_agrees 16 = .ok (.bipush (-101), 2) := by decide +kernel
theorem dL_agrees_18 : decode cL_agrees 18 = .ok (.ireturn, 1) := by decide +kernel
set_option maxRecDepth 20000 in
theorem ggL_suspend_X6_suspend : GoodIn wsL_suspend wsX6_suspend := goodIn_ca (goodIn_r _ [6, 7, 8, 9, 10, 11, 5, 12, 13, 14, 15, 16, 17, 18, 19, 20, 21, 22, 23, 24, 25, 26, 27, 28, 29, 30, 31, 32, 33, 34, 35, 36, 37, 38] (by decide +kernel) (by decide +kernel)) (goodIn_sub (fun _ h => List.mem_cons_of_mem _ (List.mem_append_right _ h)) (by decide +kernel))
set_option maxRecDepth 20000 in
theorem gL_suspend_X6_suspend : GoodIn wsL_suspend (wsV RL 80 RX6 yX6_suspend wsX6_suspend) := goodIn_app (goodIn_of _ (by decide +kernel)) ggL_suspend_X6_suspend
theorem dL_suspend_0 : decode cL_suspend 0 = .ok (.aload_n 0, 1) := by decide +kernel
theorem dL_suspend_1 : decode cL_suspend 1 = .ok (.iload_n 1, 1) := by decide +kernel
theorem dL_suspend_2 : decode cL_suspend 2 = .ok (.iload_n 2, 1) := by decide +kernel
theorem dL_suspend_3 : decode cL_suspend 3 = .ok (.invokevirtual 80, 3) := by decide +kernel
theorem dL_suspend_6 : decode cL_suspend 6 = .ok (.ifCond .eq 7, 3) := by decide +kernel
theorem dL_suspend_9 : decode cL_suspend 9 = .ok (.iconst 1, 1) := by decide +kernel
theorem dL_suspend_10 : decode cL_suspend 10 = .ok (.goto 4, 3) := by decide +kernel
theorem dL_suspend_13 : decode cL_suspend 13 = .ok (.iconst 0, 1) := by decide +kernel
theorem dL_suspend_14 : decode cL_suspend 14 = .ok (.ireturn, 1) := by decide +kernel
theorem dL_suspend_15 : decode cL_suspend 15 = .ok (.astore_n 3, 1) := by decide +kernel
theorem dL_suspend_16 : decode cL_suspend 16 = .ok (.bipush (-101), 2) := by decide +kernel
theorem dL_suspend_18 : decode cL_suspend 18 = .ok (.ireturn, 1) := by decide +kernel
set_option maxRecDepth 20000 in
theorem ggL_least_X6_least : GoodIn wsL_least wsX6_least := goodIn_ca (goodIn_r _ [6, 7, 8, 9, 10, 11, 12, 13, 14, 15, 16, 17, 18, 19, 20, 21, 22, 23, 24, 25, 26, 27, 28, 29, 30] (by decide +kernel) (by decide +kernel)) (goodIn_sub (fun _ h => List.mem_cons_of_mem _ (List.mem_append_right _ h)) (by decide +kernel))
set_option maxRecDepth 20000 in
theorem gL_least_X6_least : GoodIn wsL_least (wsV RL 84 RX6 yX6_least wsX6_least) := goodIn_app (goodIn_of _ (by decide +kernel)) ggL_least_X6_least
theorem dL_least_0 : decode cL_least 0 = .ok (.aload_n 0, 1) := by decide +kernel
theorem dL_least_1 : decode cL_least 1 = .ok (.iload_n 1, 1) := by decide +kernel
theorem dL_least_2 : decode cL_least 2 = .ok (.invokevirtual 84, 3) := by decide +kernel
theorem dL_least_5 : decode cL_least 5 = .ok (.ireturn, 1) := by decide +kernel
theorem dL_least_6 : decode cL_least 6 = .ok (.astore_n 2, 1) := by decide +kernel
theorem dL_least_7 : decode cL_least 7 = .ok (.bipush (-102), 2) := by decide +kernel
theorem dL_least_9 : decode cL_least 9 = .ok (.ireturn, 1) := by decide +kernel
set_option maxRecDepth 20000 in
theorem ggL_owed_X6_owed : GoodIn wsL_owed wsX6_owed := goodIn_ca (goodIn_r _ [7, 8, 9, 10, 11, 6, 12, 13, 14, 15, 16, 17, 18, 19, 20, 21, 22, 23, 24, 25, 26, 27, 28, 29, 30, 31, 32, 33, 34, 35, 36, 37, 38, 39, 40, 41, 42, 43, 44, 45, 46, 47, 48, 49, 50, 51, 52, 53, 54, 55, 56, 57, 58, 59, 60, 61, 62, 63, 64, 65, 66, 67, 68, 69, 70, 71, 72, 73, 74, 75, 76, 77, 78, 79, 80, 81, 82, 83, 84, 85, 86, 87, 88, 89, 90, 91, 92, 93, 94, 95, 96, 97, 98, 99, 100, 101, 102, 103, 104, 105, 106, 107, 108, 109, 110, 111, 112, 113, 114, 115, 116, 117, 118, 119, 120, 121, 122, 123, 124, 125, 126, 127, 128, 129, 130, 131, 132, 133, 134, 135, 136, 137, 138, 139, 140, 141, 142, 143, 144, 145, 146, 147, 148, 149, 150, 151, 152, 153, 154, 155, 156, 157, 158, 159, 160, 161, 162, 163, 164, 165, 166, 167, 168, 169, 170, 171, 172, 173, 174, 175, 176, 177, 178, 179, 180, 181, 182, 183, 184, 185, 186, 187] (by decide +kernel) (by decide +kernel)) (goodIn_sub (fun _ h => List.mem_cons_of_mem _ (List.mem_append_right _ h)) (by decide +kernel))
set_option maxRecDepth 20000 in
theorem gL_owed_X6_owed : GoodIn wsL_owed (wsV RL 87 RX6 yX6_owed wsX6_owed) := goodIn_app (goodIn_of _ (by decide +kernel)) ggL_owed_X6_owed
theorem dL_owed_0 : decode cL_owed 0 = .ok (.aload_n 0, 1) := by decide +kernel
theorem dL_owed_1 : decode cL_owed 1 = .ok (.iload_n 1, 1) := by decide +kernel
theorem dL_owed_2 : decode cL_owed 2 = .ok (.invokevirtual 87, 3) := by decide +kernel
theorem dL_owed_5 : decode cL_owed 5 = .ok (.lreturn, 1) := by decide +kernel
theorem dL_owed_6 : decode cL_owed 6 = .ok (.astore_n 2, 1) := by decide +kernel
theorem dL_owed_7 : decode cL_owed 7 = .ok (.ldc2_w 91, 3) := by decide +kernel
theorem dL_owed_10 : decode cL_owed 10 = .ok (.lreturn, 1) := by decide +kernel
set_option maxRecDepth 20000 in
theorem ggL_paid_X6_paid : GoodIn wsL_paid wsX6_paid := goodIn_ca (goodIn_r _ [7, 8, 9, 10, 11, 12, 6, 13, 14, 15, 16, 17, 18, 19, 20, 21, 22, 23, 24, 25, 26, 27, 28, 29, 30, 31, 32, 33] (by decide +kernel) (by decide +kernel)) (goodIn_sub (fun _ h => List.mem_cons_of_mem _ (List.mem_append_right _ h)) (by decide +kernel))
set_option maxRecDepth 20000 in
theorem gL_paid_X6_paid : GoodIn wsL_paid (wsV RL 93 RX6 yX6_paid wsX6_paid) := goodIn_app (goodIn_of _ (by decide +kernel)) ggL_paid_X6_paid
theorem dL_paid_0 : decode cL_paid 0 = .ok (.aload_n 0, 1) := by decide +kernel
theorem dL_paid_1 : decode cL_paid 1 = .ok (.iload_n 1, 1) := by decide +kernel
theorem dL_paid_2 : decode cL_paid 2 = .ok (.invokevirtual 93, 3) := by decide +kernel
theorem dL_paid_5 : decode cL_paid 5 = .ok (.lreturn, 1) := by decide +kernel
theorem dL_paid_6 : decode cL_paid 6 = .ok (.astore_n 2, 1) := by decide +kernel
theorem dL_paid_7 : decode cL_paid 7 = .ok (.ldc2_w 74, 3) := by decide +kernel
theorem dL_paid_10 : decode cL_paid 10 = .ok (.lreturn, 1) := by decide +kernel
set_option maxRecDepth 20000 in
theorem ggL_fits_L_agrees : GoodIn wsL_fits wsL_agrees := goodIn_ca (goodIn_r _ [5, 6, 7, 8, 9, 10, 11, 12, 13, 14, 15, 16, 17, 18, 19, 20, 21, 22, 23, 24, 25, 26, 27, 28, 29, 30, 31, 32, 33, 34, 35, 36, 37, 38, 39, 40, 41, 42, 43, 44, 45, 46, 47, 48, 49, 50, 51, 52, 53, 54, 55, 56, 57, 58, 59, 60, 61, 62, 63, 64, 65, 66, 67, 68, 69, 70, 71, 72, 73, 74, 75, 76, 77, 78, 79, 80, 81, 82, 83, 84, 85, 86, 87, 88, 89, 90, 91, 92, 93, 94, 95, 96, 97, 98, 99, 100, 101, 102, 103, 104, 105, 106, 107, 108, 109, 110, 111, 112, 113, 114, 115, 116, 117, 118, 119, 120, 121, 122, 123, 124, 125, 126, 127, 128, 129, 130, 131, 132, 133, 134, 135, 136, 137, 138, 139, 140, 141, 142, 143, 144, 145, 146, 147, 174, 175, 176, 177, 178, 179, 180, 181, 182, 183, 184, 185, 186, 187, 188, 189, 190, 191, 192, 193, 194, 195, 196, 197, 198, 199, 200, 201, 202, 203, 204, 205, 206, 207, 208, 209, 210, 211, 212, 213, 214, 215, 216, 217] (by decide +kernel) (by decide +kernel)) (goodIn_sub (fun _ h => List.mem_cons_of_mem _ (List.mem_append_right _ h)) (by decide +kernel))
set_option maxRecDepth 20000 in
theorem gL_fits_L_agrees : GoodIn wsL_fits (va_wsS RL 96 yL_agrees wsL_agrees) := goodIn_app (goodIn_of _ (by decide +kernel)) ggL_fits_L_agrees
set_option maxRecDepth 20000 in
theorem ggL_fits_L_revenue : GoodIn wsL_fits wsL_revenue := goodIn_ca (goodIn_r _ [150, 6, 151, 152, 153, 10, 154, 12, 13, 16, 17, 18, 19, 20, 21, 22, 23, 24, 25, 26, 139, 140, 141, 142, 36, 115, 143, 144, 145, 146, 147, 174, 175, 176, 177, 178, 179, 180, 181, 182, 183, 184, 185, 186, 187, 188, 189, 190, 191, 192, 193, 194, 195, 196, 197, 198, 199, 200] (by decide +kernel) (by decide +kernel)) (goodIn_sub (fun _ h => List.mem_cons_of_mem _ (List.mem_append_right _ h)) (by decide +kernel))
set_option maxRecDepth 20000 in
theorem gL_fits_L_revenue : GoodIn wsL_fits (va_wsS RL 101 yL_revenue wsL_revenue) := goodIn_app (goodIn_of _ (by decide +kernel)) ggL_fits_L_revenue
set_option maxRecDepth 20000 in
theorem ggL_fits_L_interest : GoodIn wsL_fits wsL_interest := goodIn_ca (goodIn_r _ [157, 6, 158, 159, 160, 10, 161, 12, 13, 49, 162, 113, 16, 17, 18, 19, 20, 21, 22, 23, 24, 25, 26, 163, 164, 165, 45, 46, 47, 48, 50, 51, 52, 53, 54, 55, 56, 57, 58, 59, 60, 61, 62, 63, 64, 65, 66, 67, 68, 69, 70, 71, 72, 73, 74, 75, 76, 77, 78, 79, 80, 81, 82, 83, 84, 85, 86, 87, 88, 89, 90, 91, 92, 93, 94, 95, 120, 121, 122, 123, 124, 125, 126, 127, 128, 129, 130, 181, 182, 183, 184, 185, 186, 187, 188, 189, 190, 191, 192, 193, 194, 195, 196, 197, 198, 199, 200, 204, 205, 206, 174, 175, 176, 177, 178, 179, 180, 201, 202, 203, 207, 208, 209, 210, 211, 212, 213, 214, 215, 216, 217] (by decide +kernel) (by decide +kernel)) (goodIn_sub (fun _ h => List.mem_cons_of_mem _ (List.mem_append_right _ h)) (by decide +kernel))
set_option maxRecDepth 20000 in
theorem gL_fits_L_interest : GoodIn wsL_fits (va_wsS RL 103 yL_interest wsL_interest) := goodIn_app (goodIn_of _ (by decide +kernel)) ggL_fits_L_interest
set_option maxRecDepth 20000 in
theorem ggL_fits_L_balance : GoodIn wsL_fits wsL_balance := goodIn_ca (goodIn_r _ [168, 6, 169, 170, 171, 172, 10, 173, 12, 13, 101, 16, 17, 18, 19, 20, 21, 22, 23, 24, 25, 26, 163, 164, 165, 27, 28, 29, 30, 31, 32, 33, 34, 35, 36, 15, 37, 38, 39, 40, 41, 42, 43, 44, 45, 46, 47, 48, 49, 50, 51, 52, 53, 54, 55, 56, 57, 58, 59, 60, 61, 62, 63, 64, 65, 66, 67, 68, 69, 70, 71, 72, 73, 74, 75, 76, 77, 78, 79, 80, 81, 82, 83, 84, 85, 86, 87, 88, 89, 90, 91, 92, 93, 94, 95, 96, 97, 98, 99, 100, 102, 103, 104, 105, 106, 107, 108, 109, 110, 111, 112, 113, 114, 115, 14, 116, 117, 118, 119, 120, 121, 122, 123, 124, 125, 126, 127, 128, 129, 130, 131, 132, 133, 134, 135, 136, 137, 138, 139, 140, 141, 142, 143, 144, 145, 146, 147, 174, 175, 176, 177, 178, 179, 180, 181, 182, 183, 184, 185, 186, 187, 188, 189, 190, 191, 192, 193, 194, 195, 196, 197, 198, 199, 200, 201, 202, 203, 204, 205, 206, 207, 208, 209, 210, 211, 212, 213, 214, 215, 216, 217] (by decide +kernel) (by decide +kernel)) (goodIn_sub (fun _ h => List.mem_cons_of_mem _ (List.mem_append_right _ h)) (by decide +kernel))
set_option maxRecDepth 20000 in
theorem gL_fits_L_balance : GoodIn wsL_fits (va_wsS RL 106 yL_balance wsL_balance) := goodIn_app (goodIn_of _ (by decide +kernel)) ggL_fits_L_balance
