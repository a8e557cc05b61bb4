theorem dL_addLine_2 : decode cL_addLine 2 = .ok (.iconst 0, 1) := by decide +kernel
theorem dL_addLine_3 : decode cL_addLine 3 = .ok (.aload_n 0, 1) := by decide +kernel
theorem dL_addLine_4 : decode cL_addLine 4 = .ok (.iload_n 1, 1) := by decide +kernel
theorem dL_addLine_5 : decode cL_addLine 5 = .ok (.iload_n 2, 1) := by decide +kernel
theorem dL_addLine_6 : decode cL_addLine 6 = .ok (.iload_n 3, 1) := by decide +kernel
theorem dL_addLine_7 : decode cL_addLine 7 = .ok (.invokevirtual 27, 3) := by decide +kernel
theorem dL_addLine_10 : decode cL_addLine 10 = .ok (.i2l, 1) := by decide +kernel
theorem dL_addLine_11 : decode cL_addLine 11 = .ok (.lastore, 1) := by decide +kernel
theorem dL_addLine_12 : decode cL_addLine 12 = .ok (.goto 15, 3) := by decide +kernel
theorem dL_addLine_15 : decode cL_addLine 15 = .ok (.astore 5, 2) := by decide +kernel
theorem dL_addLine_17 : decode cL_addLine 17 = .ok (.iconst 1, 1) := by decide +kernel
theorem dL_addLine_18 : decode cL_addLine 18 = .ok (.ireturn, 1) := by decide +kernel
theorem dL_addLine_19 : decode cL_addLine 19 = .ok (.astore 5, 2) := by decide +kernel
theorem dL_addLine_21 : decode cL_addLine 21 = .ok (.iconst 2, 1) := by decide +kernel
theorem dL_addLine_22 : decode cL_addLine 22 = .ok (.ireturn, 1) := by decide +kernel
theorem dL_addLine_23 : decode cL_addLine 23 = .ok (.astore 5, 2) := by decide +kernel
theorem dL_addLine_25 : decode cL_addLine 25 = .ok (.iconst 3, 1) := by decide +kernel
theorem dL_addLine_26 : decode cL_addLine 26 = .ok (.ireturn, 1) := by decide +kernel
theorem dL_addLine_27 : decode cL_addLine 27 = .ok (.iconst 0, 1) := by decide +kernel
theorem dL_addLine_28 : decode cL_addLine 28 = .ok (.ireturn, 1) := by decide +kernel
set_option maxRecDepth 20000 in
theorem ggL_addScenario_X3_addScenario : GoodIn wsL_addScenario wsX3_addScenario := goodIn_ca (goodIn_ca (goodIn_ca (goodIn_r _ [7, 8, 9, 10, 11, 12, 13, 6, 14, 15, 16, 17, 18, 19, 20, 21, 22, 23, 24, 25, 26, 27, 28, 29, 30, 31, 32, 33, 34] (by decide +kernel) (by decide +kernel)) (goodIn_sub (fun _ h => List.mem_cons_of_mem _ (List.mem_append_left _ (List.mem_append_right _ h))) (by decide +kernel))) (goodIn_sub (fun _ h => List.mem_cons_of_mem _ (List.mem_append_right _ h)) (by decide +kernel))) (goodIn_sub (fun _ h => List.mem_cons_of_mem _ (List.mem_append_left _ (List.mem_append_left _ (List.mem_append_right _ h)))) (by decide +kernel))
set_option maxRecDepth 20000 in
theorem gL_addScenario_X3_addScenario : GoodIn wsL_addScenario (wsV RL 31 RX3 yX3_addScenario wsX3_addScenario) := goodIn_app (goodIn_of _ (by decide +kernel)) ggL_addScenario_X3_addScenario
theorem dL_addScenario_0 : decode cL_addScenario 0 = .ok (.aload_n 2, 1) := by decide +kernel
theorem dL_addScenario_1 : decode cL_addScenario 1 = .ok (.iconst 0, 1) := by decide +kernel
theorem dL_addScenario_2 : decode cL_addScenario 2 = .ok (.aload_n 0, 1) := by decide +kernel
theorem dL_addScenario_3 : decode cL_addScenario 3 = .ok (.iload_n 1, 1) := by decide +kernel
theorem dL_addScenario_4 : decode cL_addScenario 4 = .ok (.invokevirtual 31, 3) := by decide +kernel
theorem dL_addScenario_7 : decode cL_addScenario 7 = .ok (.i2l, 1) := by decide +kernel
theorem dL_addScenario_8 : decode cL_addScenario 8 = .ok (.lastore, 1) := by decide +kernel
theorem dL_addScenario_9 : decode cL_addScenario 9 = .ok (.goto 9, 3) := by decide +kernel
theorem dL_addScenario_12 : decode cL_addScenario 12 = .ok (.astore_n 3, 1) := by decide +kernel
theorem dL_addScenario_13 : decode cL_addScenario 13 = .ok (.iconst 1, 1) := by decide +kernel
theorem dL_addScenario_14 : decode cL_addScenario 14 = .ok (.ireturn, 1) := by decide +kernel
theorem dL_addScenario_15 : decode cL_addScenario 15 = .ok (.astore_n 3, 1) := by decide +kernel
theorem dL_addScenario_16 : decode cL_addScenario 16 = .ok (.iconst 2, 1) := by decide +kernel
theorem dL_addScenario_17 : decode cL_addScenario 17 = .ok (.ireturn, 1) := by decide +kernel
theorem dL_addScenario_18 : decode cL_addScenario 18 = .ok (.iconst 0, 1) := by decide +kernel
theorem dL_addScenario_19 : decode cL_addScenario 19 = .ok (.ireturn, 1) := by decide +kernel
set_option maxRecDepth 20000 in
theorem ggL_differ_X3_differ : GoodIn wsL_differ wsX3_differ := goodIn_ca (goodIn_ca (goodIn_ca (goodIn_ca (goodIn_ca (goodIn_r _ [9, 10, 11, 12, 13, 14, 15, 16, 17, 18, 19, 8, 20, 21, 22, 23, 24, 25, 26, 27, 28, 29, 30, 31, 32, 33, 34, 35, 36, 37, 38, 39, 40, 41, 42, 43, 44, 45, 46, 47, 48, 49, 50, 51, 52] (by decide +kernel) (by decide +kernel)) (goodIn_sub (fun _ h => List.mem_cons_of_mem _ (List.mem_append_left _ (List.mem_append_left _ (List.mem_append_left _ (List.mem_append_right _ h))))) (by decide +kernel))) (goodIn_sub (fun _ h => List.mem_cons_of_mem _ (List.mem_append_left _ (List.mem_append_left _ (List.mem_append_right _ h)))) (by decide +kernel))) (goodIn_sub (fun _ h => List.mem_cons_of_mem _ (List.mem_append_left _ (List.mem_append_right _ h))) (by decide +kernel))) (goodIn_sub (fun _ h => List.mem_cons_of_mem _ (List.mem_append_right _ h)) (by decide +kernel))) (goodIn_sub (fun _ h => List.mem_cons_of_mem _ (List.mem_append_left _ (List.mem_append_left _ (List.mem_append_left _ (List.mem_append_left _ (List.mem_append_right _ h)))))) (by decide +kernel))
set_option maxRecDepth 20000 in
theorem gL_differ_X3_differ : GoodIn wsL_differ (wsV RL 34 RX3 yX3_differ wsX3_differ) := goodIn_app (goodIn_of _ (by decide +kernel)) ggL_differ_X3_differ
theorem dL_differ_0 : decode cL_differ 0 = .ok (.aload 5, 2) := by decide +kernel
theorem dL_differ_2 : decode cL_differ 2 = .ok (.iconst 0, 1) := by decide +kernel
theorem dL_differ_3 : decode cL_differ 3 = .ok (.aload_n 0, 1) := by decide +kernel
theorem dL_differ_4 : decode cL_differ 4 = .ok (.iload_n 1, 1) := by decide +kernel
theorem dL_differ_5 : decode cL_differ 5 = .ok (.iload_n 2, 1) := by decide +kernel
theorem dL_differ_6 : decode cL_differ 6 = .ok (.iload_n 3, 1) := by decide +kernel
theorem dL_differ_7 : decode cL_differ 7 = .ok (.iload 4, 2) := by decide +kernel
theorem dL_differ_9 : decode cL_differ 9 = .ok (.invokevirtual 34, 3) := by decide +kernel
theorem dL_differ_12 : decode cL_differ 12 = .ok (.i2l, 1) := by decide +kernel
theorem dL_differ_13 : decode cL_differ 13 = .ok (.lastore, 1) := by decide +kernel
theorem dL_differ_14 : decode cL_differ 14 = .ok (.goto 19, 3) := by decide +kernel
theorem dL_differ_17 : decode cL_differ 17 = .ok (.astore 6, 2) := by decide +kernel
theorem dL_differ_19 : decode cL_differ 19 = .ok (.iconst 1, 1) := by decide +kernel
theorem dL_differ_20 : decode cL_differ 20 = .ok (.ireturn, 1) := by decide +kernel
theorem dL_differ_21 : decode cL_differ 21 = .ok (.astore 6, 2) := by decide +kernel
theorem dL_differ_23 : decode cL_differ 23 = .ok (.iconst 2, 1) := by decide +kernel
theorem dL_differ_24 : decode cL_differ 24 = .ok (.ireturn, 1) := by decide +kernel
theorem dL_differ_25 : decode cL_differ 25 = .ok (.astore 6, 2) := by decide +kernel
theorem dL_differ_27 : decode cL_differ 27 = .ok (.iconst 3, 1) := by decide +kernel
theorem dL_differ_28 : decode cL_differ 28 = .ok (.ireturn, 1) := by decide +kernel
theorem dL_differ_29 : decode cL_differ 29 = .ok (.astore 6, 2) := by decide +kernel
theorem dL_differ_31 : decode cL_differ 31 = .ok (.iconst 4, 1) := by decide +kernel
theorem dL_differ_32 : decode cL_differ 32 = .ok (.ireturn, 1) := by decide +kernel
theorem dL_differ_33 : decode cL_differ 33 = .ok (.iconst 0, 1) := by decide +kernel
theorem dL_differ_34 : decode cL_differ 34 = .ok (.ireturn, 1) := by decide +kernel
set_option maxRecDepth 20000 in
theorem ggL_number_X3_number : GoodIn wsL_number wsX3_number := goodIn_ca (goodIn_ca (goodIn_ca (goodIn_r _ [7, 8, 9, 10, 6, 11, 12, 13, 14, 15, 16, 17, 18, 19, 20, 21, 22, 23, 24, 25, 26, 27, 28, 29, 30, 31, 32, 33, 34, 35, 36, 37, 38, 39, 40, 41, 42, 43, 44, 45, 46, 47, 48, 49, 50, 51, 52, 53, 54, 55, 56, 57, 58, 59, 60, 61, 62, 63, 64, 65, 66, 67, 68, 69, 70, 71, 72, 73, 74, 75, 76, 77, 78, 79, 80, 81, 82, 83, 84, 85, 86, 87, 88, 89, 90, 91, 92, 93, 94, 95, 96, 97] (by decide +kernel) (by decide +kernel)) (goodIn_sub (fun _ h => List.mem_cons_of_mem _ (List.mem_append_left _ (List.mem_append_right _ h))) (by decide +kernel))) (goodIn_sub (fun _ h => List.mem_cons_of_mem _ (List.mem_append_left _ (List.mem_append_left _ (List.mem_append_right _ h)))) (by decide +kernel))) (goodIn_sub (fun _ h => List.mem_cons_of_mem _ (List.mem_append_right _ h)) (by decide +kernel))
set_option maxRecDepth 20000 in
theorem gL_number_X3_number : GoodIn wsL_number (wsV RL 40 RX3 yX3_number wsX3_number) := goodIn_app (goodIn_of _ (by decide +kernel)) ggL_number_X3_number
theorem dL_number_0 : decode cL_number 0 = .ok (.aload 4, 2) := by decide +kernel
theorem dL_number_2 : decode cL_number 2 = .ok (.iconst 0, 1) := by decide +kernel
theorem dL_number_3 : decode cL_number 3 = .ok (.aload_n 0, 1) := by decide +kernel
theorem dL_number_4 : decode cL_number 4 = .ok (.iload_n 1, 1) := by decide +kernel
theorem dL_number_5 : decode cL_number 5 = .ok (.iload_n 2, 1) := by decide +kernel
theorem dL_number_6 : decode cL_number 6 = .ok (.iload_n 3, 1) := by decide +kernel
theorem dL_number_7 : decode cL_number 7 = .ok (.invokevirtual 40, 3) := by decide +kernel
theorem dL_number_10 : decode cL_number 10 = .ok (.i2l, 1) := by decide +kernel
theorem dL_number_11 : decode cL_number 11 = .ok (.lastore, 1) := by decide +kernel
theorem dL_number_12 : decode cL_number 12 = .ok (.goto 11, 3) := by decide +kernel
theorem dL_number_15 : decode cL_number 15 = .ok (.astore 5, 2) := by decide +kernel
theorem dL_number_17 : decode cL_number 17 = .ok (.iconst 1, 1) := by decide +kernel
theorem dL_number_18 : decode cL_number 18 = .ok (.ireturn, 1) := by decide +kernel
theorem dL_number_19 : decode cL_number 19 = .ok (.astore 5, 2) := by decide +kernel
theorem dL_number_21 : decode cL_number 21 = .ok (.iconst 2, 1) := by decide +kernel
theorem dL_number_22 : decode cL_number 22 = .ok (.ireturn, 1) := by decide +kernel
theorem dL_number_23 : decode cL_number 23 = .ok (.iconst 0, 1) := by decide +kernel
theorem dL_number_24 : decode cL_number 24 = .ok (.ireturn, 1) := by decide +kernel
set_option maxRecDepth 20000 in
theorem ggL_numberByHand_X3_numberByHand : GoodIn wsL_numberByHand wsX3_numberByHand := goodIn_ca (goodIn_ca (goodIn_ca (goodIn_r _ [7, 8, 9, 10, 11, 12, 6, 13, 14, 15, 16, 17, 18, 19, 20, 21, 22, 23, 24, 25, 26, 27, 28, 29, 30, 31, 32, 33, 34, 35, 36, 37, 38, 39, 40, 41, 42, 43, 44, 45, 46, 47, 48, 49, 50, 51, 52, 53, 54, 55, 56, 57, 58, 59, 60, 61, 62, 63, 64, 65, 66, 67, 68, 69, 70, 71, 72, 73, 74, 75, 76, 77, 78, 79, 80, 81, 82, 83, 84, 85, 86, 87, 88, 89, 90] (by decide +kernel) (by decide +kernel)) (goodIn_sub (fun _ h => List.mem_cons_of_mem _ (List.mem_append_left _ (List.mem_append_left _ (List.mem_append_right _ h)))) (by decide +kernel))) (goodIn_sub (fun _ h => List.mem_cons_of_mem _ (List.mem_append_left _ (List.mem_append_right _ h))) (by decide +kernel))) (goodIn_sub (fun _ h => List.mem_cons_of_mem _ (List.mem_append_right _ h)) (by decide +kernel))
set_option maxRecDepth 20000 in
theorem gL_numberByHand_X3_numberByHand : GoodIn wsL_numberByHand (wsV RL 43 RX3 yX3_numberByHand wsX3_numberByHand) := goodIn_app (goodIn_of _ (by decide +kernel)) ggL_numberByHand_X3_numberByHand
theorem dL_numberByHand_0 : decode cL_numberByHand 0 = .ok (.aload 4, 2) := by decide +kernel
theorem dL_numberByHand_2 : decode cL_numberByHand 2 = .ok (.iconst 0, 1) := by decide +kernel
theorem dL_numberByHand_3 : decode cL_numberByHand 3 = .ok (.aload_n 0, 1) := by decide +kernel
theorem dL_numberByHand_4 : decode cL_numberByHand 4 = .ok (.iload_n 1, 1) := by decide +kernel
theorem dL_numberByHand_5 : decode cL_numberByHand 5 = .ok (.iload_n 2, 1) := by decide +kernel
theorem dL_numberByHand_6 : decode cL_numberByHand 6 = .ok (.iload_n 3, 1) := by decide +kernel
theorem dL_numberByHand_7 : decode cL_numberByHand 7 = .ok (.invokevirtual 43, 3) := by decide +kernel
theorem dL_numberByHand_10 : decode cL_numberByHand 10 = .ok (.i2l, 1) := by decide +kernel
theorem dL_numberByHand_11 : decode cL_numberByHand 11 = .ok (.lastore, 1) := by decide +kernel
theorem dL_numberByHand_12 : decode cL_numberByHand 12 = .ok (.goto 11, 3) := by decide +kernel
theorem dL_numberByHand_15 : decode cL_numberByHand 15 = .ok (.astore 5, 2) := by decide +kernel
theorem dL_numberByHand_17 : decode cL_numberByHand 17 = .ok (.iconst 1, 1) := by decide +kernel
theorem dL_numberByHand_18 : decode cL_numberByHand 18 = .ok (.ireturn, 1) := by decide +kernel
theorem dL_numberByHand_19 : decode cL_numberByHand 19 = .ok (.astore 5, 2) := by decide +kernel
theorem dL_numberByHand_21 : decode cL_numberByHand 21 = .ok (.iconst 2, 1) := by decide +kernel
theorem dL_numberByHand_22 : decode cL_numberByHand 22 = .ok (.ireturn, 1) := by decide +kernel
theorem dL_numberByHand_23 : decode cL_numberByHand 23 = .ok (.iconst 0, 1) := by decide +kernel
theorem dL_numberByHand_24 : decode cL_numberByHand 24 = .ok (.ireturn, 1) := by decide +kernel
set_option maxRecDepth 20000 in
theorem ggL_year_X3_year : GoodIn wsL_year wsX3_year := goodIn_ca (goodIn_ca (goodIn_ca (goodIn_r _ [7, 8, 9, 10, 6, 11, 12, 13, 14, 15, 16, 17, 18, 19, 20, 21, 22, 23, 24, 25, 26, 27, 28, 29, 30, 31, 32, 33, 34, 35, 36, 37, 38, 39, 40, 41, 42, 43, 44, 45, 46, 47, 48, 49, 50, 51, 52, 53, 54, 55, 56, 57, 58, 59, 60, 61, 62, 63, 64, 65, 66, 67, 68, 69, 70, 71, 72, 73, 74, 75, 76, 77, 78, 79, 80, 81, 82, 83, 84, 85, 86, 87, 88, 89, 90, 91, 92, 93, 94] (by decide +kernel) (by decide +kernel)) (goodIn_sub (fun _ h => List.mem_cons_of_mem _ (List.mem_append_left _ (List.mem_append_right _ h))) (by decide +kernel))) (goodIn_sub (fun _ h => List.mem_cons_of_mem _ (List.mem_append_left _ (List.mem_append_left _ (List.mem_append_right _ h)))) (by decide +kernel))) (goodIn_sub (fun _ h => List.mem_cons_of_mem _ (List.mem_append_right _ h)) (by decide +kernel))
set_option maxRecDepth 20000 in
theorem gL_year_X3_year : GoodIn wsL_year (wsV RL 46 RX3 yX3_year wsX3_year) := goodIn_app (goodIn_of _ (by decide +kernel)) ggL_year_X3_year
theorem dL_year_0 : decode cL_year 0 = .ok (.aload_n 3, 1) := by decide +kernel
theorem dL_year_1 : decode cL_year 1 = .ok (.iconst 0, 1) := by decide +kernel
theorem dL_year_2 : decode cL_year 2 = .ok (.aload_n 0, 1) := by decide +kernel
theorem dL_year_3 : decode cL_year 3 = .ok (.iload_n 1, 1) := by decide +kernel
theorem dL_year_4 : decode cL_year 4 = .ok (.iload_n 2, 1) := by decide +kernel
theorem dL_year_5 : decode cL_year 5 = .ok (.invokevirtual 46, 3) := by decide +kernel
theorem dL_year_8 : decode cL_year 8 = .ok (.lastore, 1) := by decide +kernel
theorem dL_year_9 : decode cL_year 9 = .ok (.goto 11, 3) := by decide +kernel
theorem dL_year_12 : decode cL_year 12 = .ok (.astore 4, 2) := by decide +kernel
theorem dL_year_14 : decode cL_year 14 = .ok (.iconst 1, 1) := by decide +kernel
theorem dL_year_15 : decode cL_year 15 = .ok (.ireturn, 1) := by decide +kernel
theorem dL_year_16 : decode cL_year 16 = .ok (.astore 4, 2) := by decide +kernel
theorem dL_year_18 : decode cL_year 18 = .ok (.iconst 2, 1) := by decide +kernel
theorem dL_year_19 : decode cL_year 19 = .ok (.ireturn, 1) := by decide +kernel
theorem dL_year_20 : decode cL_year 20 = .ok (.iconst 0, 1) := by decide +kernel
theorem dL_year_21 : decode cL_year 21 = .ok (.ireturn, 1) := by decide +kernel
set_option maxRecDepth 20000 in
theorem ggL_effect_X3_effect : GoodIn wsL_effect wsX3_effect := goodIn_ca (goodIn_ca (goodIn_ca (goodIn_r _ [7, 8, 9, 10, 6, 11, 12, 13, 14, 15, 16, 17, 18, 19, 20, 21, 22, 23, 24, 25, 26, 27, 28, 29, 30, 31, 32, 33, 34, 35, 36, 37, 38, 39, 40, 41, 42, 43, 44, 45, 46, 47, 48, 49, 50, 51, 52, 53, 54, 55, 56, 57, 58, 59, 60, 61, 62, 63, 64, 65, 66, 67, 68, 69, 70, 71, 72, 73, 74, 75, 76, 77, 78, 79, 80, 81, 82, 83, 84, 85, 86, 87, 88, 89, 90, 91, 92, 93, 94, 95, 96, 97, 98, 99, 100, 101] (by decide +kernel) (by decide +kernel)) (goodIn_sub (fun _ h => List.mem_cons_of_mem _ (List.mem_append_left _ (List.mem_append_right _ h))) (by decide +kernel))) (goodIn_sub (fun _ h => List.mem_cons_of_mem _ (List.mem_append_left _ (List.mem_append_left _ (List.mem_append_right _ h)))) (by decide +kernel))) (goodIn_sub (fun _ h => List.mem_cons_of_mem _ (List.mem_append_right _ h)) (by decide +kernel))
set_option maxRecDepth 20000 in
theorem gL_effect_X3_effect : GoodIn wsL_effect (wsV RL 50 RX3 yX3_effect wsX3_effect) := goodIn_app (goodIn_of _ (by decide +kernel)) ggL_effect_X3_effect
theorem dL_effect_0 : decode cL_effect 0 = .ok (.aload 5, 2) := by decide +kernel
theorem dL_effect_2 : decode cL_effect 2 = .ok (.iconst 0, 1) := by decide +kernel
theorem dL_effect_3 : decode cL_effect 3 = .ok (.aload_n 0, 1) := by decide +kernel
theorem dL_effect_4 : decode cL_effect 4 = .ok (.iload_n 1, 1) := by decide +kernel
theorem dL_effect_5 : decode cL_effect 5 = .ok (.iload_n 2, 1) := by decide +kernel
theorem dL_effect_6 : decode cL_effect 6 = .ok (.iload_n 3, 1) := by decide +kernel
theorem dL_effect_7 : decode cL_effect 7 = .ok (.iload 4, 2) := by decide +kernel
theorem dL_effect_9 : decode cL_effect 9 = .ok (.invokevirtual 50, 3) := by decide +kernel
theorem dL_effect_12 : decode cL_effect 12 = .ok (.i2l, 1) := by decide +kernel
theorem dL_effect_13 : decode cL_effect 13 = .ok (.lastore, 1) := by decide +kernel
theorem dL_effect_14 : decode cL_effect 14 = .ok (.goto 11, 3) := by decide +kernel
theorem dL_effect_17 : decode cL_effect 17 = .ok (.astore 6, 2) := by decide +kernel
theorem dL_effect_19 : decode cL_effect 19 = .ok (.iconst 1, 1) := by decide +kernel
theorem dL_effect_20 : decode cL_effect 20 = .ok (.ireturn, 1) := by decide +kernel
theorem dL_effect_21 : decode cL_effect 21 = .ok (.astore 6, 2) := by decide +kernel
theorem dL_effect_23 : decode cL_effect 23 = .ok (.iconst 2, 1) := by decide +kernel
theorem dL_effect_24 : decode cL_effect 24 = .ok (.ireturn, 1) := by decide +kernel
theorem dL_effect_25 : decode cL_effect 25 = .ok (.iconst 0, 1) := by decide +kernel
theorem dL_effect_26 : decode cL_effect 26 = .ok (.ireturn, 1) := by decide +kernel
set_option maxRecDepth 20000 in
theorem ggL_seek_X3_seek : GoodIn wsL_seek wsX3_seek := goodIn_ca (goodIn_ca (goodIn_ca (goodIn_r _ [7, 8, 9, 10, 11, 12, 13, 14, 15, 6, 16, 17, 18, 19, 20, 21, 22, 23, 24, 25, 26, 27, 28, 29, 30, 31, 32, 33, 34, 35, 36, 37, 38, 39, 40, 41, 42, 43, 44, 45, 46, 47, 48, 49, 50, 51, 52, 53, 54, 55, 56, 57, 58, 59, 60, 61, 62, 63, 64, 65, 66, 67, 68, 69, 70, 71, 72, 73, 74, 75, 76, 77, 78, 79, 80, 81, 82, 83, 84, 85, 86, 87, 88, 89, 90] (by decide +kernel) (by decide +kernel)) (goodIn_sub (fun _ h => List.mem_cons_of_mem _ (List.mem_append_left _ (List.mem_append_left _ (List.mem_append_right _ h)))) (by decide +kernel))) (goodIn_sub (fun _ h => List.mem_cons_of_mem _ (List.mem_append_left _ (List.mem_append_right _ h))) (by decide +kernel))) (goodIn_sub (fun _ h => List.mem_cons_of_mem _ (List.mem_append_right _ h)) (by decide +kernel))
set_option maxRecDepth 20000 in
theorem gL_seek_X3_seek : GoodIn wsL_seek (wsV RL 53 RX3 yX3_seek wsX3_seek) := goodIn_app (goodIn_of _ (by decide +kernel)) ggL_seek_X3_seek
theorem dL_seek_0 : decode cL_seek 0 = .ok (.aload 5, 2) := by decide +kernel
theorem dL_seek_2 : decode cL_seek 2 = .ok (.iconst 0, 1) := by decide +kernel
theorem dL_seek_3 : decode cL_seek 3 = .ok (.aload_n 0, 1) := by decide +kernel
theorem dL_seek_4 : decode cL_seek 4 = .ok (.iload_n 1, 1) := by decide +kernel
theorem dL_seek_5 : decode cL_seek 5 = .ok (.iload_n 2, 1) := by decide +kernel
theorem dL_seek_6 : decode cL_seek 6 = .ok (.iload_n 3, 1) := by decide +kernel
theorem dL_seek_7 : decode cL_seek 7 = .ok (.iload 4, 2) := by decide +kernel
theorem dL_seek_9 : decode cL_seek 9 = .ok (.invokevirtual 53, 3) := by decide +kernel
theorem dL_seek_12 : decode cL_seek 12 = .ok (.i2l, 1) := by decide +kernel
theorem dL_seek_13 : decode cL_seek 13 = .ok (.lastore, 1) := by decide +kernel
theorem dL_seek_14 : decode cL_seek 14 = .ok (.goto 11, 3) := by decide +kernel
theorem dL_seek_17 : decode cL_seek 17 = .ok (.astore 6, 2) := by decide +kernel
theorem dL_seek_19 : decode cL_seek 19 = .ok (.iconst 1, 1) := by decide +kernel
theorem dL_seek_20 : decode cL_seek 20 = .ok (.ireturn, 1) := by decide +kernel
theorem dL_seek_21 : decode cL_seek 21 = .ok (.astore 6, 2) := by decide +kernel
theorem dL_seek_23 : decode cL_seek 23 = .ok (.iconst 2, 1) := by decide +kernel
theorem dL_seek_24 : decode cL_seek 24 = .ok (.ireturn, 1) := by decide +kernel
theorem dL_seek_25 : decode cL_seek 25 = .ok (.iconst 0, 1) := by decide +kernel
theorem dL_seek_26 : decode cL_seek 26 = .ok (.ireturn, 1) := by decide +kernel
set_option maxRecDepth 20000 in
theorem ggL_actual_X3_actual : GoodIn wsL_actual wsX3_actual := goodIn_ca (goodIn_ca (goodIn_ca (goodIn_r _ [7, 8, 9, 10, 11, 12, 13, 14, 15, 16, 6, 17, 18, 19, 20, 21, 22, 23, 24, 25, 26, 27, 28, 29, 30, 31, 32, 33, 34, 35, 36, 37, 38, 39, 40, 41, 42, 43, 44, 45, 46, 47, 48, 49, 50, 51, 52, 53, 54, 55, 56, 57, 58, 59, 60, 61, 62, 63, 64, 65, 66, 67, 68, 69, 70, 71, 72, 73, 74, 75, 76, 77, 78, 79, 80, 81, 82, 83, 84, 85, 86, 87, 88, 89, 90, 91, 92, 93, 94, 95, 96, 97, 98, 99, 100, 101, 102, 103, 104, 105, 106, 107, 108, 109, 110] (by decide +kernel) (by decide +kernel)) (goodIn_sub (fun _ h => List.mem_cons_of_mem _ (List.mem_append_left _ (List.mem_append_right _ h))) (by decide +kernel))) (goodIn_sub (fun _ h => List.mem_cons_of_mem _ (List.mem_append_left _ (List.mem_append_left _ (List.mem_append_right _ h)))) (by decide +kernel))) (goodIn_sub (fun _ h => List.mem_cons_of_mem _ (List.mem_append_right _ h)) (by decide +kernel))
set_option maxRecDepth 20000 in
theorem gL_actual_X3_actual : GoodIn wsL_actual (wsV RL 58 RX3 yX3_actual wsX3_actual) := goodIn_app (goodIn_of _ (by decide +kernel)) ggL_actual_X3_actual
theorem dL_actual_0 : decode cL_actual 0 = .ok (.aload 4, 2) := by decide +kernel
theorem dL_actual_2 : decode cL_actual 2 = .ok (.iconst 0, 1) := by decide +kernel
theorem dL_actual_3 : decode cL_actual 3 = .ok (.aload_n 0, 1) := by decide +kernel
theorem dL_actual_4 : decode cL_actual 4 = .ok (.iload_n 1, 1) := by decide +kernel
theorem dL_actual_5 : decode cL_actual 5 = .ok (.iload_n 2, 1) := by decide +kernel
theorem dL_actual_6 : decode cL_actual 6 = .ok (.iload_n 3, 1) := by decide +kernel
theorem dL_actual_7 : decode cL_actual 7 = .ok (.invokevirtual 58, 3) := by decide +kernel
theorem dL_actual_10 : decode cL_actual 10 = .ok (.i2l, 1) := by decide +kernel
theorem dL_actual_11 : decode cL_actual 11 = .ok (.lastore, 1) := by decide +kernel
theorem dL_actual_12 : decode cL_actual 12 = .ok (.goto 11, 3) := by decide +kernel
theorem dL_actual_15 : decode cL_actual 15 = .ok (.astore 5, 2) := by decide +kernel
theorem dL_actual_17 : decode cL_actual 17 = .ok (.iconst 1, 1) := by decide +kernel
theorem dL_actual_18 : decode cL_actual 18 = .ok (.ireturn, 1) := by decide +kernel
theorem dL_actual_19 : decode cL_actual 19 = .ok (.astore 5, 2) := by decide +kernel
theorem dL_actual_21 : decode cL_actual 21 = .ok (.iconst 2, 1) := by decide +kernel
theorem dL_actual_22 : decode cL_actual 22 = .ok (.ireturn, 1) := by decide +kernel
theorem dL_actual_23 : decode cL_actual 23 = .ok (.iconst 0, 1) := by decide +kernel
theorem dL_actual_24 : decode cL_actual 24 = .ok (.ireturn, 1) := by decide +kernel
set_option maxRecDepth 20000 in
theorem ggL_takeActual_X3_takeActual : GoodIn wsL_takeActual wsX3_takeActual := goodIn_ca (goodIn_ca (goodIn_ca (goodIn_r _ [7, 8, 9, 10, 11, 12, 13, 14, 6, 15, 16, 17, 18, 19, 20, 21, 22, 23, 24, 25, 26, 27, 28, 29, 30, 31, 32, 33, 34, 35, 36, 37, 38, 39, 40, 41, 42, 43, 44, 45, 46, 47, 48, 49, 50, 51, 52, 53, 54, 55, 56, 57, 58, 59, 60, 61, 62, 63, 64, 65, 66, 67, 68, 69, 70, 71, 72, 73, 74, 75, 76, 77, 78, 79, 80, 81, 82, 83, 84, 85, 86, 87, 88, 89, 90, 91, 92, 93, 94, 95, 96, 97, 98, 99, 100, 101, 102, 103, 104, 105, 106, 107, 108] (by decide +kernel) (by decide +kernel)) (goodIn_sub (fun _ h => List.mem_cons_of_mem _ (List.mem_append_left _ (List.mem_append_left _ (List.mem_append_right _ h)))) (by decide +kernel))) (goodIn_sub (fun _ h => List.mem_cons_of_mem _ (List.mem_append_left _ (List.mem_append_right _ h))) (by decide +kernel))) (goodIn_sub (fun _ h => List.mem_cons_of_mem _ (List.mem_append_right _ h)) (by decide +kernel))
set_option maxRecDepth 20000 in
theorem gL_takeActual_X3_takeActual : GoodIn wsL_takeActual (wsV RL 61 RX3 yX3_takeActual wsX3_takeActual) := goodIn_app (goodIn_of _ (by decide +kernel)) ggL_takeActual_X3_takeActual
theorem dL_takeActual_0 : decode cL_takeActual 0 = .ok (.aload_n 3, 1) := by decide +kernel
theorem dL_takeActual_1 : decode cL_takeActual 1 = .ok (.iconst 0, 1) := by decide +kernel
theorem dL_takeActual_2 : decode cL_takeActual 2 = .ok (.aload_n 0, 1) := by decide +kernel
theorem dL_takeActual_3 : decode cL_takeActual 3 = .ok (.iload_n 1, 1) := by decide +kernel
theorem dL_takeActual_4 : decode cL_takeActual 4 = .ok (.iload_n 2, 1) := by decide +kernel
theorem dL_takeActual_5 : decode cL_takeActual 5 = .ok (.invokevirtual 61, 3) := by decide +kernel
theorem dL_takeActual_8 : decode cL_takeActual 8 = .ok (.i2l, 1) := by decide +kernel
theorem dL_takeActual_9 : decode cL_takeActual 9 = .ok (.lastore, 1) := by decide +kernel
theorem dL_takeActual_10 : decode cL_takeActual 10 = .ok (.goto 11, 3) := by decide +kernel
theorem dL_takeActual_13 : decode cL_takeActual 13 = .ok (.astore 4, 2) := by decide +kernel
theorem dL_takeActual_15 : decode cL_takeActual 15 = .ok (.iconst 1, 1) := by decide +kernel
theorem dL_takeActual_16 : decode cL_takeActual 16 = .ok (.ireturn, 1) := by decide +kernel
theorem dL_takeActual_17 : decode cL_takeActual 17 = .ok (.astore 4, 2) := by decide +kernel
theorem dL_takeActual_19 : decode cL_takeActual 19 = .ok (.iconst 2, 1) := by decide +kernel
theorem dL_takeActual_20 : decode cL_takeActual 20 = .ok (.ireturn, 1) := by decide +kernel
theorem dL_takeActual_21 : decode cL_takeActual 21 = .ok (.iconst 0, 1) := by decide +kernel
theorem dL_takeActual_22 : decode cL_takeActual 22 = .ok (.ireturn, 1) := by decide +kernel
set_option maxRecDepth 20000 in
theorem ggL_pass_X3_pass : GoodIn wsL_pass wsX3_pass := goodIn_ca (goodIn_r _ [6, 7, 8, 9, 10, 11, 12, 13, 14, 15, 16] (by decide +kernel) (by decide +kernel)) (goodIn_sub (fun _ h => List.mem_cons_of_mem _ (List.mem_append_right _ h)) (by decide +kernel))
set_option maxRecDepth 20000 in
theorem gL_pass_X3_pass : GoodIn wsL_pass (wsV RL 64 RX3 yX3_pass wsX3_pass) := goodIn_app (goodIn_of _ (by decide +kernel)) ggL_pass_X3_pass
theorem dL_pass_0 : decode cL_pass 0 = .ok (.aload_n 1, 1) := by decide +kernel
theorem dL_pass_1 : decode cL_pass 1 = .ok (.iconst 0, 1) := by decide +kernel
theorem dL_pass_2 : decode cL_pass 2 = .ok (.aload_n 0, 1) := by decide +kernel
theorem dL_pass_3 : decode cL_pass 3 = .ok (.invokevirtual 64, 3) := by decide +kernel
theorem dL_pass_6 : decode cL_pass 6 = .ok (.i2l, 1) := by decide +kernel
theorem dL_pass_7 : decode cL_pass 7 = .ok (.lastore, 1) := by decide +kernel
theorem dL_pass_8 : decode cL_pass 8 = .ok (.goto 6, 3) := by decide +kernel
theorem dL_pass_11 : decode cL_pass 11 = .ok (.astore_n 2, 1) := by decide +kernel
theorem dL_pass_12 : decode cL_pass 12 = .ok (.iconst 1, 1) := by decide +kernel
theorem dL_pass_13 : decode cL_pass 13 = .ok (.ireturn, 1) := by decide +kernel
theorem dL_pass_14 : decode cL_pass 14 = .ok (.iconst 0, 1) := by decide +kernel
theorem dL_pass_15 : decode cL_pass 15 = .ok (.ireturn, 1) := by decide +kernel
set_option maxRecDepth 20000 in
theorem ggL_approve_X3_approve : GoodIn wsL_approve wsX3_approve := goodIn_ca (goodIn_ca (goodIn_ca (goodIn_ca (goodIn_r _ [8, 9, 10, 11, 12, 13, 14, 7, 15, 16, 17, 18, 19, 20, 21, 22, 23, 24, 25, 26, 27, 28, 29, 30, 31, 32, 33, 34, 35, 36, 37, 38, 39, 40, 41, 42, 43, 44, 45, 46, 47, 48, 49, 50, 51, 52, 53, 54, 55, 56, 57, 58, 59, 60, 61, 62, 63, 64, 65, 66, 67, 68, 69, 70, 71, 72, 73, 74, 75, 76, 77, 78, 79, 80, 81, 82, 83, 84, 85, 86, 87, 88, 89, 90, 91, 92, 93, 94, 95, 96, 97, 98, 99, 100, 101, 102, 103, 104, 105, 106, 107, 108] (by decide +kernel) (by decide +kernel)) (goodIn_sub (fun _ h => List.mem_cons_of_mem _ (List.mem_append_left _ (List.mem_append_left _ (List.mem_append_right _ h)))) (by decide +kernel))) (goodIn_sub (fun _ h => List.mem_cons_of_mem _ (List.mem_append_left _ (List.mem_append_right _ h))) (by decide +kernel))) (goodIn_sub (fun _ h => List.mem_cons_of_mem _ (List.mem_append_left _ (List.mem_append_left _ (List.mem_append_left _ (List.mem_append_right _ h))))) (by decide +kernel))) (goodIn_sub (fun _ h => List.mem_cons_of_mem _ (List.mem_append_right _ h)) (by decide +kernel))
set_option maxRecDepth 20000 in
theorem gL_approve_X3_approve : GoodIn wsL_approve (wsV RL 68 RX3 yX3_approve wsX3_approve) := goodIn_app (goodIn_of _ (by decide +kernel)) ggL_approve_X3_approve
theorem dL_approve_0 : decode cL_approve 0 = .ok (.aload 4, 2) := by decide +kernel
theorem dL_approve_2 : decode cL_approve 2 = .ok (.iconst 0, 1) := by decide +kernel
theorem dL_approve_3 : decode cL_approve 3 = .ok (.aload_n 0, 1) := by decide +kernel
theorem dL_approve_4 : decode cL_approve 4 = .ok (.iload_n 1, 1) := by decide +kernel
theorem dL_approve_5 : decode cL_approve 5 = .ok (.iload_n 2, 1) := by decide +kernel
theorem dL_approve_6 : decode cL_approve 6 = .ok (.iload_n 3, 1) := by decide +kernel
theorem dL_approve_7 : decode cL_approve 7 = .ok (.invokevirtual 68, 3) := by decide +kernel
theorem dL_approve_10 : decode cL_approve 10 = .ok (.i2l, 1) := by decide +kernel
theorem dL_approve_11 : decode cL_approve 11 = .ok (.lastore, 1) := by decide +kernel
theorem dL_approve_12 : decode cL_approve 12 = .ok (.goto 15, 3) := by decide +kernel
theorem dL_approve_15 : decode cL_approve 15 = .ok (.astore 5, 2) := by decide +kernel
theorem dL_approve_17 : decode cL_approve 17 = .ok (.iconst 1, 1) := by decide +kernel
theorem dL_approve_18 : decode cL_approve 18 = .ok (.ireturn, 1) := by decide +kernel
theorem dL_approve_19 : decode cL_approve 19 = .ok (.astore 5, 2) := by decide +kernel
theorem dL_approve_21 : decode cL_approve 21 = .ok (.iconst 2, 1) := by decide +kernel
theorem dL_approve_22 : decode cL_approve 22 = .ok (.ireturn, 1) := by decide +kernel
theorem dL_approve_23 : decode cL_approve 23 = .ok (.astore 5, 2) := by decide +kernel
theorem dL_approve_25 : decode cL_approve 25 = .ok (.iconst 3, 1) := by decide +kernel
theorem dL_approve_26 : decode cL_approve 26 = .ok (.ireturn, 1) := by decide +kernel
theorem dL_approve_27 : decode cL_approve 27 = .ok (.iconst 0, 1) := by decide +kernel
theorem dL_approve_28 : decode cL_approve 28 = .ok (.ireturn, 1) := by decide +kernel
set_option maxRecDepth 20000 in
theorem ggL_state_X3_state : GoodIn wsL_state wsX3_state := goodIn_ca (goodIn_ca (goodIn_r _ [6, 7, 8, 9, 10, 5, 11, 12, 13, 14, 15, 16, 17, 18, 19, 20, 21, 22, 23, 24, 25, 26, 27, 28, 29, 30, 31, 32, 33, 34, 35, 36, 37] (by decide +kernel) (by decide +kernel)) (goodIn_sub (fun _ h => List.mem_cons_of_mem _ (List.mem_append_left _ (List.mem_append_right _ h))) (by decide +kernel))) (goodIn_sub (fun _ h => List.mem_cons_of_mem _ (List.mem_append_right _ h)) (by decide +kernel))
set_option maxRecDepth 20000 in
theorem gL_state_X3_state : GoodIn wsL_state (wsV RL 71 RX3 yX3_state wsX3_state) := goodIn_app (goodIn_of _ (by decide +kernel)) ggL_state_X3_state
theorem dL_state_0 : decode cL_state 0 = .ok (.aload_n 3, 1) := by decide +kernel
theorem dL_state_1 : decode cL_state 1 = .ok (.iconst 0, 1) := by decide +kernel
theorem dL_state_2 : decode cL_state 2 = .ok (.aload_n 0, 1) := by decide +kernel
theorem dL_state_3 : decode cL_state 3 = .ok (.iload_n 1, 1) := by decide +kernel
theorem dL_state_4 : decode cL_state 4 = .ok (.iload_n 2, 1) := by decide +kernel
theorem dL_state_5 : decode cL_state 5 = .ok (.invokevirtual 71, 3) := by decide +kernel
theorem dL_state_8 : decode cL_state 8 = .ok (.i2l, 1) := by decide +kernel
theorem dL_state_9 : decode cL_state 9 = .ok (.lastore, 1) := by decide +kernel
theorem dL_state_10 : decode cL_state 10 = .ok (.goto 7, 3) := by decide +kernel
theorem dL_state_13 : decode cL_state 13 = .ok (.astore 4, 2) := by decide +kernel
theorem dL_state_15 : decode cL_state 15 = .ok (.iconst 1, 1) := by decide +kernel
theorem dL_state_16 : decode cL_state 16 = .ok (.ireturn, 1) := by decide +kernel
theorem dL_state_17 : decode cL_state 17 = .ok (.iconst 0, 1) := by decide +kernel
theorem dL_state_18 : decode cL_state 18 = .ok (.ireturn, 1) := by decide +kernel
set_option maxRecDepth 20000 in
theorem ggL_drift_X3_drift : GoodIn wsL_drift wsX3_drift := goodIn_ca (goodIn_ca (goodIn_ca (goodIn_ca (goodIn_r _ [8, 9, 10, 11, 12, 13, 14, 7, 15, 16, 17, 18, 19, 20, 21, 22, 23, 24, 25, 26, 27, 28, 29, 30, 31, 32, 33, 34, 35, 36, 37, 38, 39, 40, 41, 42, 43, 44, 45, 46, 47, 48, 49, 50, 51, 52, 53, 54, 55, 56, 57, 58, 59, 60, 61, 62, 63, 64, 65, 66, 67, 68, 69, 70, 71, 72, 73, 74, 75, 76, 77, 78, 79, 80, 81, 82, 83, 84, 85, 86, 87, 88, 89, 90, 91, 92, 93, 94, 95, 96, 97, 98, 99, 100, 101] (by decide +kernel) (by decide +kernel)) (goodIn_sub (fun _ h => List.mem_cons_of_mem _ (List.mem_append_left _ (List.mem_append_left _ (List.mem_append_left _ (List.mem_append_right _ h))))) (by decide +kernel))) (goodIn_sub (fun _ h => List.mem_cons_of_mem _ (List.mem_append_left _ (List.mem_append_left _ (List.mem_append_right _ h)))) (by decide +kernel))) (goodIn_sub (fun _ h => List.mem_cons_of_mem _ (List.mem_append_left _ (List.mem_append_right _ h))) (by decide +kernel))) (goodIn_sub (fun _ h => List.mem_cons_of_mem _ (List.mem_append_right _ h)) (by decide +kernel))
set_option maxRecDepth 20000 in
theorem gL_drift_X3_drift : GoodIn wsL_drift (wsV RL 75 RX3 yX3_drift wsX3_drift) := goodIn_app (goodIn_of _ (by decide +kernel)) ggL_drift_X3_drift
theorem dL_drift_0 : decode cL_drift 0 = .ok (.aload_n 3, 1) := by decide +kernel
theorem dL_drift_1 : decode cL_drift 1 = .ok (.iconst 0, 1) := by decide +kernel
theorem dL_drift_2 : decode cL_drift 2 = .ok (.aload_n 0, 1) := by decide +kernel
theorem dL_drift_3 : decode cL_drift 3 = .ok (.iload_n 1, 1) := by decide +kernel
theorem dL_drift_4 : decode cL_drift 4 = .ok (.iload_n 2, 1) := by decide +kernel
theorem dL_drift_5 : decode cL_drift 5 = .ok (.invokevirtual 75, 3) := by decide +kernel
theorem dL_drift_8 : decode cL_drift 8 = .ok (.i2l, 1) := by decide +kernel
theorem dL_drift_9 : decode cL_drift 9 = .ok (.lastore, 1) := by decide +kernel
theorem dL_drift_10 : decode cL_drift 10 = .ok (.goto 15, 3) := by decide +kernel
theorem dL_drift_13 : decode cL_drift 13 = .ok (.astore 4, 2) := by decide +kernel
theorem dL_drift_15 : decode cL_drift 15 = .ok (.iconst 1, 1) := by decide +kernel
theorem dL_drift_16 : decode cL_drift 16 = .ok (.ireturn, 1) := by decide +kernel
theorem dL_drift_17 : decode cL_drift 17 = .ok (.astore 4, 2) := by decide +kernel
theorem dL_drift_19 : decode cL_drift 19 = .ok (.iconst 2, 1) := by decide +kernel
theorem dL_drift_20 : decode cL_drift 20 = .ok (.ireturn, 1) := by decide +kernel
theorem dL_drift_21 : decode cL_drift 21 = .ok (.astore 4, 2) := by decide +kernel
theorem dL_drift_23 : decode cL_drift 23 = .ok (.iconst 3, 1) := by decide +kernel
theorem dL_drift_24 : decode cL_drift 24 = .ok (.ireturn, 1) := by decide +kernel
theorem dL_drift_25 : decode cL_drift 25 = .ok (.iconst 0, 1) := by decide +kernel
theorem dL_drift_26 : decode cL_drift 26 = .ok (.ireturn, 1) := by decide +kernel
set_option maxRecDepth 20000 in
theorem ggL_approvedShare_X3_approvedShare : GoodIn wsL_approvedShare wsX3_approvedShare := goodIn_ca (goodIn_ca (goodIn_r _ [6, 7, 8, 9, 10, 11, 12, 13, 14, 15, 16, 17, 18, 19, 20, 21, 22, 23, 24] (by decide +kernel) (by decide +kernel)) (goodIn_sub (fun _ h => List.mem_cons_of_mem _ (List.mem_append_right _ h)) (by decide +kernel))) (goodIn_sub (fun _ h => List.mem_cons_of_mem _ (List.mem_append_left _ (List.mem_append_right _ h))) (by decide +kernel))
set_option maxRecDepth 20000 in
theorem gL_approvedShare_X3_approvedShare : GoodIn wsL_approvedShare (wsV RL 78 RX3 yX3_approvedShare wsX3_approvedShare) := goodIn_app (goodIn_of _ (by decide +kernel)) ggL_approvedShare_X3_approvedShare
theorem dL_approvedShare_0 : decode cL_approvedShare 0 = .ok (.aload_n 1, 1) := by decide +kernel
theorem dL_approvedShare_1 : decode cL_approvedShare 1 = .ok (.iconst 0, 1) := by decide +kernel
theorem dL_approvedShare_2 : decode cL_approvedShare 2 = .ok (.aload_n 0, 1) := by decide +kernel
theorem dL_approvedShare_3 : decode cL_approvedShare 3 = .ok (.invokevirtual 78, 3) := by decide +kernel
theorem dL_approvedShare_6 : decode cL_approvedShare 6 = .ok (.f2d, 1) := by decide +kernel
theorem dL_approvedShare_7 : decode cL_approvedShare 7 = .ok (.dastore, 1) := by decide +kernel
theorem dL_approvedShare_8 : decode cL_approvedShare 8 = .ok (.goto 6, 3) := by decide +kernel
theorem dL_approvedShare_11 : decode cL_approvedShare 11 = .ok (.astore_n 2, 1) := by decide +kernel
theorem dL_approvedShare_12 : decode cL_approvedShare 12 = .ok (.iconst 1, 1) := by decide +kernel
theorem dL_approvedShare_13 : decode cL_approvedShare 13 = .ok (.ireturn, 1) := by decide +kernel
theorem dL_approvedShare_14 : decode cL_approvedShare 14 = .ok (.iconst 0, 1) := by decide +kernel
theorem dL_approvedShare_15 : decode cL_approvedShare 15 = .ok (.ireturn, 1) := by decide +kernel
set_option maxRecDepth 20000 in
theorem ggL_meanTolerance_X3_meanTolerance : GoodIn wsL_meanTolerance wsX3_meanTolerance := goodIn_ca (goodIn_ca (goodIn_r _ [6, 7, 8, 9, 10, 11, 12, 13, 14, 15, 16, 17, 18, 19, 20, 21, 22, 23, 24, 25, 26, 27, 28] (by decide +kernel) (by decide +kernel)) (goodIn_sub (fun _ h => List.mem_cons_of_mem _ (List.mem_append_right _ h)) (by decide +kernel))) (goodIn_sub (fun _ h => List.mem_cons_of_mem _ (List.mem_append_left _ (List.mem_append_right _ h))) (by decide +kernel))
set_option maxRecDepth 20000 in
theorem gL_meanTolerance_X3_meanTolerance : GoodIn wsL_meanTolerance (wsV RL 84 RX3 yX3_meanTolerance wsX3_meanTolerance) := goodIn_app (goodIn_of _ (by decide +kernel)) ggL_meanTolerance_X3_meanTolerance
theorem dL_meanTolerance_0 : decode cL_meanTolerance 0 = .ok (.aload_n 1, 1) := by decide +kernel
theorem dL_meanTolerance_1 : decode cL_meanTolerance 1 = .ok (.iconst 0, 1) := by decide +kernel
theorem dL_meanTolerance_2 : decode cL_meanTolerance 2 = .ok (.aload_n 0, 1) := by decide +kernel
theorem dL_meanTolerance_3 : decode cL_meanTolerance 3 = .ok (.invokevirtual 84, 3) := by decide +kernel
theorem dL_meanTolerance_6 : decode cL_meanTolerance 6 = .ok (.dastore, 1) := by decide +kernel
theorem dL_meanTolerance_7 : decode cL_meanTolerance 7 = .ok (.goto 6, 3) := by decide +kernel
theorem dL_meanTolerance_10 : decode cL_meanTolerance 10 = .ok (.astore_n 2, 1) := by decide +kernel
theorem dL_meanTolerance_11 : decode cL_meanTolerance 11 = .ok (.iconst 1, 1) := by decide +kernel
theorem dL_meanTolerance_12 : decode cL_meanTolerance 12 = .ok (.ireturn, 1) := by decide +kernel
theorem dL_meanTolerance_13 : decode cL_meanTolerance 13 = .ok (.iconst 0, 1) := by decide +kernel
theorem dL_meanTolerance_14 : decode cL_meanTolerance 14 = .ok (.ireturn, 1) := by decide +kernel
set_option maxRecDepth 20000 in
theorem ggL_law_X3_init : GoodIn wsL_law wsX3_init := goodIn_ca (goodIn_r _ [10, 11, 12, 13, 14, 15, 16, 17, 18, 19, 20, 21, 22, 23, 24, 25, 26, 27, 28, 29, 30, 31, 32, 33, 34, 35, 36, 37, 38, 39, 40, 41, 42, 43, 44, 45, 46, 47, 48, 49, 50, 51, 52, 53, 485, 486, 487, 488, 489, 490, 491, 514, 515, 516, 517, 518, 519, 520, 521, 522, 523, 524, 525, 526, 527, 528] (by decide +kernel) (by decide +kernel)) (goodIn_sub (fun _ h => List.mem_append_left _ (List.mem_append_left _ (List.mem_append_left _ (List.mem_append_left _ (List.mem_append_left _ (List.mem_append_left _ (List.mem_append_right _ h))))))) (by decide +kernel))
set_option maxRecDepth 20000 in
theorem gL_law_X3_init : GoodIn wsL_law (wsX3_init) := ggL_law_X3_init
set_option maxRecDepth 20000 in
theorem ggL_law_X4_init : GoodIn wsL_law wsX4_init := goodIn_ca (goodIn_r _ [56, 57, 12, 13, 14, 58, 59, 60, 61, 62, 63, 64, 65, 66, 67, 68, 69, 44, 70, 71, 39, 72, 6, 73, 74, 75, 76, 77, 78, 79, 492, 493, 494, 495, 496, 497, 498, 499, 500, 501, 502, 503, 504, 505, 506, 507, 508, 509, 510, 511, 512, 513] (by decide +kernel) (by decide +kernel)) (goodIn_sub (fun _ h => List.mem_append_left _ (List.mem_append_left _ (List.mem_append_left _ (List.mem_append_left _ (List.mem_append_left _ (List.mem_append_left _ (List.mem_append_right _ h))))))) (by decide +kernel))
set_option maxRecDepth 20000 in
theorem gL_law_X4_init : GoodIn wsL_law (wsX4_init) := ggL_law_X4_init
set_option maxRecDepth 20000 in
theorem ggL_law_L_addDriver : GoodIn wsL_law wsL_addDriver := goodIn_ca (goodIn_ca (goodIn_ca (goodIn_r _ [83, 84, 85, 86, 87, 88, 2, 89, 90, 91, 92, 15, 93, 94, 95, 96, 97, 485, 486, 487, 488, 489, 490, 491] (by decide +kernel) (by decide +kernel)) (goodIn_sub (fun _ h => List.mem_append_left _ (List.mem_append_left _ (List.mem_append_left _ (List.mem_append_left _ (List.mem_append_left _ (List.mem_append_left _ (List.mem_append_right _ h))))))) (by decide +kernel))) (goodIn_sub (fun _ h => List.mem_append_left _ (List.mem_append_left _ (List.mem_append_left _ (List.mem_append_left _ (List.mem_append_left _ (List.mem_append_right _ h)))))) (by decide +kernel))) (goodIn_sub (fun _ h => List.mem_append_left _ (List.mem_append_left _ (List.mem_append_left _ (List.mem_append_left _ (List.mem_append_right _ h))))) (by decide +kernel))
set_option maxRecDepth 20000 in
theorem gL_law_L_addDriver : GoodIn wsL_law (va_wsS RL 92 yL_addDriver wsL_addDriver) := goodIn_app (goodIn_of _ (by decide +kernel)) ggL_law_L_addDriver
set_option maxRecDepth 20000 in
theorem ggL_law_X4_addDriver : GoodIn wsL_law wsX4_addDriver := goodIn_ca (goodIn_r _ [101, 75, 74, 58, 102, 103, 5, 104, 492, 493, 494, 495, 496, 497, 498, 499, 500, 501, 502, 503, 504, 505, 506, 507, 508, 509, 510, 511, 512, 513] (by decide +kernel) (by decide +kernel)) (goodIn_sub (fun _ h => List.mem_append_left _ (List.mem_append_left _ (List.mem_append_left _ (List.mem_append_left _ (List.mem_append_left _ (List.mem_append_left _ (List.mem_append_right _ h))))))) (by decide +kernel))
set_option maxRecDepth 20000 in
theorem gL_law_X4_addDriver : GoodIn wsL_law (wsV RL 97 RX4 yX4_addDriver wsX4_addDriver) := goodIn_app (goodIn_of _ (by decide +kernel)) ggL_law_X4_addDriver
set_option maxRecDepth 20000 in
theorem ggL_law_X4_thrown : GoodIn wsL_law wsX4_thrown := goodIn_r _ [108, 74, 492, 493, 494, 495, 496, 497, 498, 499, 500, 501, 502, 503, 504, 505, 506, 507, 508, 509, 510, 511, 512, 513] (by decide +kernel) (by decide +kernel)
set_option maxRecDepth 20000 in
theorem gL_law_X4_thrown : GoodIn wsL_law (wsV RL 98 RX4 yX4_thrown wsX4_thrown) := goodIn_app (goodIn_of _ (by decide +kernel)) ggL_law_X4_thrown
set_option maxRecDepth 20000 in
theorem ggL_law_L_setDriver : GoodIn wsL_law wsL_setDriver := goodIn_ca (goodIn_ca (goodIn_ca (goodIn_r _ [111, 112, 84, 113, 114, 115, 2, 116, 15, 117, 118, 119, 120, 121, 122, 92, 93, 94, 95, 96, 97, 123, 124, 125, 126, 23, 28, 27, 127, 128, 129, 130, 131, 132, 133, 134, 19, 135, 18, 136, 137, 34, 32, 138, 139, 140, 141, 22, 142, 143, 144, 46, 145, 146, 147, 148, 43, 47, 40, 41, 42, 149, 150, 151, 152, 153, 154, 155, 156, 157, 158, 26, 159, 160, 51, 161, 162, 163, 164, 165, 52, 166, 167, 168, 169, 53, 485, 486, 487, 488, 489, 490, 491, 519, 520, 521, 522, 523, 524, 525, 514, 515, 516, 517, 518, 526, 527, 528] (by decide +kernel) (by decide +kernel)) (goodIn_sub (fun _ h => List.mem_append_left _ (List.mem_append_left _ (List.mem_append_left _ (List.mem_append_left _ (List.mem_append_left _ (List.mem_append_left _ (List.mem_append_right _ h))))))) (by decide +kernel))) (goodIn_sub (fun _ h => List.mem_append_left _ (List.mem_append_left _ (List.mem_append_left _ (List.mem_append_right _ h)))) (by decide +kernel))) (goodIn_sub (fun _ h => List.mem_append_left _ (List.mem_append_left _ (List.mem_append_left _ (List.mem_append_left _ (List.mem_append_right _ h))))) (by decide +kernel))
set_option maxRecDepth 20000 in
theorem gL_law_L_setDriver : GoodIn wsL_law (va_wsS RL 101 yL_setDriver wsL_setDriver) := goodIn_app (goodIn_of _ (by decide +kernel)) ggL_law_L_setDriver
set_option maxRecDepth 20000 in
theorem ggL_law_X4_setDriver : GoodIn wsL_law wsX4_setDriver := goodIn_ca (goodIn_r _ [173, 74, 58, 174, 175, 176, 5, 177, 75, 102, 103, 104, 178, 179, 180, 181, 76, 72, 73, 68, 69, 182, 183, 184, 185, 186, 187, 188, 70, 59, 71, 60, 61, 67, 189, 190, 191, 192, 193, 194, 195, 196, 197, 198, 199, 78, 64, 65, 63, 66, 200, 201, 202, 203, 62, 492, 493, 494, 495, 496, 497, 498, 499, 500, 501, 502, 503, 504, 505, 506, 507, 508, 509, 510, 511, 512, 513] (by decide +kernel) (by decide +kernel)) (goodIn_sub (fun _ h => List.mem_append_left _ (List.mem_append_left _ (List.mem_append_left _ (List.mem_append_left _ (List.mem_append_left _ (List.mem_append_left _ (List.mem_append_right _ h))))))) (by decide +kernel))
set_option maxRecDepth 20000 in
theorem gL_law_X4_setDriver : GoodIn wsL_law (wsV RL 104 RX4 yX4_setDriver wsX4_setDriver) := goodIn_app (goodIn_of _ (by decide +kernel)) ggL_law_X4_setDriver
set_option maxRecDepth 20000 in
theorem ggL_law_L_driver : GoodIn wsL_law wsL_driver := goodIn_ca (goodIn_ca (goodIn_r _ [206, 112, 207, 208, 209, 2, 210, 211, 212, 213, 214, 121, 122, 19, 117, 118, 119, 120, 92, 215, 216, 217, 131, 132, 133, 134, 15, 135, 18, 136, 137, 34, 32, 138, 139, 140, 485, 486, 487, 488, 489, 490, 491, 514, 515, 516, 517, 518] (by decide +kernel) (by decide +kernel)) (goodIn_sub (fun _ h => List.mem_append_left _ (List.mem_append_left _ (List.mem_append_left _ (List.mem_append_left _ (List.mem_append_left _ (List.mem_append_left _ (List.mem_append_right _ h))))))) (by decide +kernel))) (goodIn_sub (fun _ h => List.mem_append_left _ (List.mem_append_left _ (List.mem_append_left _ (List.mem_append_right _ h)))) (by decide +kernel))
set_option maxRecDepth 20000 in
theorem gL_law_L_driver : GoodIn wsL_law (va_wsS RL 105 yL_driver wsL_driver) := goodIn_app (goodIn_of _ (by decide +kernel)) ggL_law_L_driver
set_option maxRecDepth 20000 in
theorem ggL_law_X4_driver : GoodIn wsL_law wsX4_driver := goodIn_ca (goodIn_r _ [221, 222, 223, 224, 5, 225, 77, 102, 103, 104, 174, 175, 176, 177, 75, 226, 227, 228, 229, 230, 231, 232, 74, 196, 197, 198, 199, 58, 78, 64, 65, 63, 66, 200, 201, 202, 203, 62, 492, 493, 494, 495, 496, 497, 498, 499, 500, 501, 502, 503, 504, 505, 506, 507, 508, 509, 510, 511, 512, 513] (by decide +kernel) (by decide +kernel)) (goodIn_sub (fun _ h => List.mem_append_left _ (List.mem_append_left _ (List.mem_append_left _ (List.mem_append_left _ (List.mem_append_left _ (List.mem_append_left _ (List.mem_append_right _ h))))))) (by decide +kernel))
set_option maxRecDepth 20000 in
theorem gL_law_X4_driver : GoodIn wsL_law (wsV RL 108 RX4 yX4_driver wsX4_driver) := goodIn_app (goodIn_of _ (by decide +kernel)) ggL_law_X4_driver
set_option maxRecDepth 20000 in
theorem ggL_law_L_addLine : GoodIn wsL_law wsL_addLine := goodIn_ca (goodIn_ca (goodIn_ca (goodIn_ca (goodIn_r _ [235, 84, 112, 85, 236, 237, 238, 2, 239, 96, 97, 90, 91, 23, 117, 118, 119, 120, 121, 122, 92, 240, 241, 242, 243, 244, 22, 245, 246, 40, 144, 41, 42, 485, 486, 487, 488, 489, 490, 491, 519, 520, 521, 522, 523, 524, 525] (by decide +kernel) (by decide +kernel)) (goodIn_sub (fun _ h => List.mem_append_left _ (List.mem_append_left _ (List.mem_append_left _ (List.mem_append_left _ (List.mem_append_left _ (List.mem_append_left _ (List.mem_append_right _ h))))))) (by decide +kernel))) (goodIn_sub (fun _ h => List.mem_append_left _ (List.mem_append_left _ (List.mem_append_left _ (List.mem_append_left _ (List.mem_append_right _ h))))) (by decide +kernel))) (goodIn_sub (fun _ h => List.mem_append_left _ (List.mem_append_left _ (List.mem_append_left _ (List.mem_append_left _ (List.mem_append_left _ (List.mem_append_right _ h)))))) (by decide +kernel))) (goodIn_sub (fun _ h => List.mem_append_left _ (List.mem_append_left _ (List.mem_append_left _ (List.mem_append_right _ h)))) (by decide +kernel))
set_option maxRecDepth 20000 in
theorem gL_law_L_addLine : GoodIn wsL_law (va_wsS RL 109 yL_addLine wsL_addLine) := goodIn_app (goodIn_of _ (by decide +kernel)) ggL_law_L_addLine
set_option maxRecDepth 20000 in
theorem ggL_law_X4_addLine : GoodIn wsL_law wsX4_addLine := goodIn_ca (goodIn_r _ [250, 76, 74, 59, 60, 61, 174, 175, 176, 5, 177, 75, 102, 103, 104, 251, 252, 253, 254, 492, 493, 494, 495, 496, 497, 498, 499, 500, 501, 502, 503, 504, 505, 506, 507, 508, 509, 510, 511, 512, 513] (by decide +kernel) (by decide +kernel)) (goodIn_sub (fun _ h => List.mem_append_left _ (List.mem_append_left _ (List.mem_append_left _ (List.mem_append_left _ (List.mem_append_left _ (List.mem_append_left _ (List.mem_append_right _ h))))))) (by decide +kernel))
set_option maxRecDepth 20000 in
theorem gL_law_X4_addLine : GoodIn wsL_law (wsV RL 112 RX4 yX4_addLine wsX4_addLine) := goodIn_app (goodIn_of _ (by decide +kernel)) ggL_law_X4_addLine
set_option maxRecDepth 20000 in
theorem ggL_law_L_addScenario : GoodIn wsL_law wsL_addScenario := goodIn_ca (goodIn_ca (goodIn_ca (goodIn_r _ [257, 112, 85, 258, 259, 260, 2, 261, 90, 91, 19, 211, 212, 213, 214, 121, 122, 262, 18, 263, 264, 32, 35, 485, 486, 487, 488, 489, 490, 491, 514, 515, 516, 517, 518] (by decide +kernel) (by decide +kernel)) (goodIn_sub (fun _ h => List.mem_append_left _ (List.mem_append_left _ (List.mem_append_left _ (List.mem_append_left _ (List.mem_append_left _ (List.mem_append_left _ (List.mem_append_right _ h))))))) (by decide +kernel))) (goodIn_sub (fun _ h => List.mem_append_left _ (List.mem_append_left _ (List.mem_append_left _ (List.mem_append_left _ (List.mem_append_left _ (List.mem_append_right _ h)))))) (by decide +kernel))) (goodIn_sub (fun _ h => List.mem_append_left _ (List.mem_append_left _ (List.mem_append_left _ (List.mem_append_right _ h)))) (by decide +kernel))
set_option maxRecDepth 20000 in
theorem gL_law_L_addScenario : GoodIn wsL_law (va_wsS RL 113 yL_addScenario wsL_addScenario) := goodIn_app (goodIn_of _ (by decide +kernel)) ggL_law_L_addScenario
set_option maxRecDepth 20000 in
theorem ggL_law_X4_addScenario : GoodIn wsL_law wsX4_addScenario := goodIn_ca (goodIn_r _ [268, 77, 74, 62, 222, 223, 224, 5, 225, 102, 103, 104, 492, 493, 494, 495, 496, 497, 498, 499, 500, 501, 502, 503, 504, 505, 506, 507, 508, 509, 510, 511, 512, 513] (by decide +kernel) (by decide +kernel)) (goodIn_sub (fun _ h => List.mem_append_left _ (List.mem_append_left _ (List.mem_append_left _ (List.mem_append_left _ (List.mem_append_left _ (List.mem_append_left _ (List.mem_append_right _ h))))))) (by decide +kernel))
set_option maxRecDepth 20000 in
theorem gL_law_X4_addScenario : GoodIn wsL_law (wsV RL 115 RX4 yX4_addScenario wsX4_addScenario) := goodIn_app (goodIn_of _ (by decide +kernel)) ggL_law_X4_addScenario
set_option maxRecDepth 20000 in
theorem ggL_law_L_differ : GoodIn wsL_law wsL_differ := goodIn_ca (goodIn_ca (goodIn_ca (goodIn_ca (goodIn_ca (goodIn_r _ [271, 112, 84, 272, 85, 273, 274, 275, 2, 276, 96, 97, 277, 278, 90, 91, 19, 211, 212, 213, 214, 121, 122, 117, 118, 119, 120, 92, 215, 216, 217, 279, 18, 280, 281, 34, 282, 33, 138, 139, 140, 485, 486, 487, 488, 489, 490, 491, 514, 515, 516, 517, 518] (by decide +kernel) (by decide +kernel)) (goodIn_sub (fun _ h => List.mem_append_left _ (List.mem_append_left _ (List.mem_append_left _ (List.mem_append_left _ (List.mem_append_left _ (List.mem_append_left _ (List.mem_append_right _ h))))))) (by decide +kernel))) (goodIn_sub (fun _ h => List.mem_append_left _ (List.mem_append_left _ (List.mem_append_left _ (List.mem_append_left _ (List.mem_append_right _ h))))) (by decide +kernel))) (goodIn_sub (fun _ h => List.mem_append_left _ (List.mem_append_left _ (List.mem_append_right _ h))) (by decide +kernel))) (goodIn_sub (fun _ h => List.mem_append_left _ (List.mem_append_left _ (List.mem_append_left _ (List.mem_append_left _ (List.mem_append_left _ (List.mem_append_right _ h)))))) (by decide +kernel))) (goodIn_sub (fun _ h => List.mem_append_left _ (List.mem_append_left _ (List.mem_append_left _ (List.mem_append_right _ h)))) (by decide +kernel))
set_option maxRecDepth 20000 in
theorem gL_law_L_differ : GoodIn wsL_law (va_wsS RL 116 yL_differ wsL_differ) := goodIn_app (goodIn_of _ (by decide +kernel)) ggL_law_L_differ
set_option maxRecDepth 20000 in
theorem ggL_law_X4_differ : GoodIn wsL_law wsX4_differ := goodIn_ca (goodIn_r _ [286, 78, 74, 63, 64, 65, 66, 222, 223, 224, 5, 225, 77, 102, 103, 104, 174, 175, 176, 177, 75, 226, 227, 228, 492, 493, 494, 495, 496, 497, 498, 499, 500, 501, 502, 503, 504, 505, 506, 507, 508, 509, 510, 511, 512, 513] (by decide +kernel) (by decide +kernel)) (goodIn_sub (fun _ h => List.mem_append_left _ (List.mem_append_left _ (List.mem_append_left _ (List.mem_append_left _ (List.mem_append_left _ (List.mem_append_left _ (List.mem_append_right _ h))))))) (by decide +kernel))
set_option maxRecDepth 20000 in
theorem gL_law_X4_differ : GoodIn wsL_law (wsV RL 119 RX4 yX4_differ wsX4_differ) := goodIn_app (goodIn_of _ (by decide +kernel)) ggL_law_X4_differ
set_option maxRecDepth 20000 in
theorem ggL_law_L_number : GoodIn wsL_law wsL_number := goodIn_ca (goodIn_ca (goodIn_ca (goodIn_r _ [289, 112, 272, 290, 291, 292, 2, 293, 211, 212, 213, 214, 121, 122, 19, 240, 241, 242, 243, 23, 215, 216, 217, 294, 295, 296, 297, 28, 127, 128, 129, 130, 92, 15, 131, 132, 133, 134, 135, 18, 136, 137, 34, 32, 138, 139, 140, 298, 22, 299, 300, 45, 40, 43, 47, 41, 42, 149, 150, 301, 302, 303, 46, 145, 146, 147, 148, 151, 152, 153, 154, 155, 156, 304, 305, 306, 277, 278, 307, 485, 486, 487, 488, 489, 490, 491, 514, 515, 516, 517, 518, 519, 520, 521, 522, 523, 524, 525] (by decide +kernel) (by decide +kernel)) (goodIn_sub (fun _ h => List.mem_append_left _ (List.mem_append_left _ (List.mem_append_left _ (List.mem_append_left _ (List.mem_append_left _ (List.mem_append_left _ (List.mem_append_right _ h))))))) (by decide +kernel))) (goodIn_sub (fun _ h => List.mem_append_left _ (List.mem_append_left _ (List.mem_append_left _ (List.mem_append_right _ h)))) (by decide +kernel))) (goodIn_sub (fun _ h => List.mem_append_left _ (List.mem_append_left _ (List.mem_append_right _ h))) (by decide +kernel))
set_option maxRecDepth 20000 in
theorem gL_law_L_number : GoodIn wsL_law (va_wsS RL 120 yL_number wsL_number) := goodIn_app (goodIn_of _ (by decide +kernel)) ggL_law_L_number
set_option maxRecDepth 20000 in
theorem ggL_law_X4_number : GoodIn wsL_law wsX4_number := goodIn_ca (goodIn_r _ [311, 74, 73, 222, 223, 224, 5, 225, 77, 102, 103, 104, 251, 252, 253, 254, 76, 226, 227, 228, 185, 186, 187, 188, 70, 59, 71, 60, 61, 67, 189, 190, 182, 183, 184, 191, 192, 193, 194, 195, 196, 197, 198, 199, 58, 78, 64, 65, 63, 66, 200, 201, 202, 203, 62, 492, 493, 494, 495, 496, 497, 498, 499, 500, 501, 502, 503, 504, 505, 506, 507, 508, 509, 510, 511, 512, 513] (by decide +kernel) (by decide +kernel)) (goodIn_sub (fun _ h => List.mem_append_left _ (List.mem_append_left _ (List.mem_append_left _ (List.mem_append_left _ (List.mem_append_left _ (List.mem_append_left _ (List.mem_append_right _ h))))))) (by decide +kernel))
set_option maxRecDepth 20000 in
theorem gL_law_X4_number : GoodIn wsL_law (wsV RL 122 RX4 yX4_number wsX4_number) := goodIn_app (goodIn_of _ (by decide +kernel)) ggL_law_X4_number
set_option maxRecDepth 20000 in
theorem ggL_law_L_numberByHand : GoodIn wsL_law wsL_numberByHand := goodIn_ca (goodIn_ca (goodIn_ca (goodIn_r _ [314, 112, 272, 315, 316, 317, 2, 318, 23, 28, 211, 212, 213, 214, 121, 122, 19, 240, 241, 242, 243, 215, 216, 217, 127, 128, 129, 130, 92, 15, 131, 132, 133, 134, 135, 18, 136, 137, 34, 32, 138, 139, 140, 141, 22, 142, 143, 144, 46, 145, 146, 147, 148, 43, 47, 40, 41, 42, 149, 150, 151, 152, 153, 154, 155, 156, 304, 305, 306, 277, 278, 307, 485, 486, 487, 488, 489, 490, 491, 519, 520, 521, 522, 523, 524, 525, 514, 515, 516, 517, 518] (by decide +kernel) (by decide +kernel)) (goodIn_sub (fun _ h => List.mem_append_left _ (List.mem_append_left _ (List.mem_append_left _ (List.mem_append_left _ (List.mem_append_left _ (List.mem_append_left _ (List.mem_append_right _ h))))))) (by decide +kernel))) (goodIn_sub (fun _ h => List.mem_append_left _ (List.mem_append_left _ (List.mem_append_left _ (List.mem_append_right _ h)))) (by decide +kernel))) (goodIn_sub (fun _ h => List.mem_append_left _ (List.mem_append_left _ (List.mem_append_right _ h))) (by decide +kernel))
set_option maxRecDepth 20000 in
theorem gL_law_L_numberByHand : GoodIn wsL_law (va_wsS RL 123 yL_numberByHand wsL_numberByHand) := goodIn_app (goodIn_of _ (by decide +kernel)) ggL_law_L_numberByHand
set_option maxRecDepth 20000 in
theorem ggL_law_X4_numberByHand : GoodIn wsL_law wsX4_numberByHand := goodIn_ca (goodIn_r _ [322, 323, 309, 310, 5, 311, 74, 73, 222, 223, 224, 225, 77, 102, 103, 104, 251, 252, 253, 254, 76, 226, 227, 228, 185, 186, 187, 188, 70, 59, 71, 60, 61, 67, 189, 190, 182, 183, 184, 191, 192, 193, 194, 195, 196, 197, 198, 199, 58, 78, 64, 65, 63, 66, 200, 201, 202, 203, 62, 492, 493, 494, 495, 496, 497, 498, 499, 500, 501, 502, 503, 504, 505, 506, 507, 508, 509, 510, 511, 512, 513] (by decide +kernel) (by decide +kernel)) (goodIn_sub (fun _ h => List.mem_append_left _ (List.mem_append_left _ (List.mem_append_left _ (List.mem_append_left _ (List.mem_append_left _ (List.mem_append_left _ (List.mem_append_right _ h))))))) (by decide +kernel))
set_option maxRecDepth 20000 in
theorem gL_law_X4_numberByHand : GoodIn wsL_law (wsV RL 125 RX4 yX4_numberByHand wsX4_numberByHand) := goodIn_app (goodIn_of _ (by decide +kernel)) ggL_law_X4_numberByHand
set_option maxRecDepth 20000 in
theorem ggL_law_L_year : GoodIn wsL_law wsL_year := goodIn_ca (goodIn_ca (goodIn_ca (goodIn_r _ [326, 112, 272, 327, 328, 329, 2, 330, 211, 212, 213, 214, 121, 122, 19, 240, 241, 242, 243, 23, 294, 295, 296, 297, 28, 127, 128, 129, 130, 92, 15, 131, 132, 133, 134, 135, 18, 136, 137, 34, 32, 138, 139, 140, 298, 22, 299, 300, 45, 40, 43, 47, 41, 42, 149, 150, 301, 302, 303, 46, 145, 146, 147, 148, 151, 152, 153, 154, 155, 156, 304, 305, 306, 277, 278, 307, 485, 486, 487, 488, 489, 490, 491, 514, 515, 516, 517, 518, 519, 520, 521, 522, 523, 524, 525] (by decide +kernel) (by decide +kernel)) (goodIn_sub (fun _ h => List.mem_append_left _ (List.mem_append_left _ (List.mem_append_left _ (List.mem_append_left _ (List.mem_append_left _ (List.mem_append_left _ (List.mem_append_right _ h))))))) (by decide +kernel))) (goodIn_sub (fun _ h => List.mem_append_left _ (List.mem_append_left _ (List.mem_append_left _ (List.mem_append_right _ h)))) (by decide +kernel))) (goodIn_sub (fun _ h => List.mem_append_left _ (List.mem_append_left _ (List.mem_append_right _ h))) (by decide +kernel))
set_option maxRecDepth 20000 in
theorem gL_law_L_year : GoodIn wsL_law (va_wsS RL 126 yL_year wsL_year) := goodIn_app (goodIn_of _ (by decide +kernel)) ggL_law_L_year
set_option maxRecDepth 20000 in
theorem ggL_law_X4_year : GoodIn wsL_law wsX4_year := goodIn_ca (goodIn_r _ [334, 74, 73, 222, 223, 224, 5, 225, 77, 102, 103, 104, 251, 252, 253, 254, 76, 185, 186, 187, 188, 70, 59, 71, 60, 61, 67, 189, 190, 182, 183, 184, 191, 192, 193, 194, 195, 196, 197, 198, 199, 58, 78, 64, 65, 63, 66, 200, 201, 202, 203, 62, 492, 493, 494, 495, 496, 497, 498, 499, 500, 501, 502, 503, 504, 505, 506, 507, 508, 509, 510, 511, 512, 513] (by decide +kernel) (by decide +kernel)) (goodIn_sub (fun _ h => List.mem_append_left _ (List.mem_append_left _ (List.mem_append_left _ (List.mem_append_left _ (List.mem_append_left _ (List.mem_append_left _ (List.mem_append_right _ h))))))) (by decide +kernel))
set_option maxRecDepth 20000 in
theorem gL_law_X4_year : GoodIn wsL_law (wsV RL 128 RX4 yX4_year wsX4_year) := goodIn_app (goodIn_of _ (by decide +kernel)) ggL_law_X4_year
set_option maxRecDepth 20000 in
theorem ggL_law_L_effect : GoodIn wsL_law wsL_effect := goodIn_ca (goodIn_ca (goodIn_ca (goodIn_r _ [337, 112, 272, 338, 339, 340, 2, 341, 211, 212, 213, 214, 121, 122, 19, 117, 118, 119, 120, 92, 240, 241, 242, 243, 23, 215, 216, 217, 294, 295, 296, 297, 28, 127, 128, 129, 130, 15, 131, 132, 133, 134, 135, 18, 136, 137, 34, 32, 138, 139, 140, 298, 22, 299, 300, 45, 40, 43, 47, 41, 42, 149, 150, 301, 302, 303, 46, 145, 146, 147, 148, 151, 152, 153, 154, 155, 156, 304, 305, 306, 277, 278, 307, 485, 486, 487, 488, 489, 490, 491, 514, 515, 516, 517, 518, 519, 520, 521, 522, 523, 524, 525] (by decide +kernel) (by decide +kernel)) (goodIn_sub (fun _ h => List.mem_append_left _ (List.mem_append_left _ (List.mem_append_left _ (List.mem_append_left _ (List.mem_append_left _ (List.mem_append_left _ (List.mem_append_right _ h))))))) (by decide +kernel))) (goodIn_sub (fun _ h => List.mem_append_left _ (List.mem_append_left _ (List.mem_append_left _ (List.mem_append_right _ h)))) (by decide +kernel))) (goodIn_sub (fun _ h => List.mem_append_left _ (List.mem_append_left _ (List.mem_append_right _ h))) (by decide +kernel))
set_option maxRecDepth 20000 in
theorem gL_law_L_effect : GoodIn wsL_law (va_wsS RL 129 yL_effect wsL_effect) := goodIn_app (goodIn_of _ (by decide +kernel)) ggL_law_L_effect
set_option maxRecDepth 20000 in
theorem ggL_law_X4_effect : GoodIn wsL_law wsX4_effect := goodIn_ca (goodIn_r _ [345, 74, 73, 222, 223, 224, 5, 225, 77, 102, 103, 104, 174, 175, 176, 177, 75, 251, 252, 253, 254, 76, 226, 227, 228, 185, 186, 187, 188, 70, 59, 71, 60, 61, 67, 189, 190, 182, 183, 184, 191, 192, 193, 194, 195, 196, 197, 198, 199, 58, 78, 64, 65, 63, 66, 200, 201, 202, 203, 62, 492, 493, 494, 495, 496, 497, 498, 499, 500, 501, 502, 503, 504, 505, 506, 507, 508, 509, 510, 511, 512, 513] (by decide +kernel) (by decide +kernel)) (goodIn_sub (fun _ h => List.mem_append_left _ (List.mem_append_left _ (List.mem_append_left _ (List.mem_append_left _ (List.mem_append_left _ (List.mem_append_left _ (List.mem_append_right _ h))))))) (by decide +kernel))
set_option maxRecDepth 20000 in
theorem gL_law_X4_effect : GoodIn wsL_law (wsV RL 131 RX4 yX4_effect wsX4_effect) := goodIn_app (goodIn_of _ (by decide +kernel)) ggL_law_X4_effect
set_option maxRecDepth 20000 in
theorem ggL_law_L_seek : GoodIn wsL_law wsL_seek := goodIn_ca (goodIn_ca (goodIn_ca (goodIn_r _ [348, 112, 349, 350, 351, 352, 2, 353, 354, 355, 23, 28, 307, 117, 118, 119, 120, 121, 122, 92, 240, 241, 242, 243, 215, 216, 217, 127, 128, 129, 130, 15, 131, 132, 133, 134, 19, 135, 18, 136, 137, 34, 32, 138, 139, 140, 298, 22, 299, 300, 45, 40, 43, 47, 41, 42, 149, 150, 301, 302, 303, 46, 145, 146, 147, 148, 151, 152, 153, 154, 155, 156, 485, 486, 487, 488, 489, 490, 491, 519, 520, 521, 522, 523, 524, 525, 514, 515, 516, 517, 518] (by decide +kernel) (by decide +kernel)) (goodIn_sub (fun _ h => List.mem_append_left _ (List.mem_append_left _ (List.mem_append_left _ (List.mem_append_left _ (List.mem_append_left _ (List.mem_append_left _ (List.mem_append_right _ h))))))) (by decide +kernel))) (goodIn_sub (fun _ h => List.mem_append_left _ (List.mem_append_right _ h)) (by decide +kernel))) (goodIn_sub (fun _ h => List.mem_append_left _ (List.mem_append_left _ (List.mem_append_left _ (List.mem_append_right _ h)))) (by decide +kernel))
set_option maxRecDepth 20000 in
theorem gL_law_L_seek : GoodIn wsL_law (va_wsS RL 132 yL_seek wsL_seek) := goodIn_app (goodIn_of _ (by decide +kernel)) ggL_law_L_seek
set_option maxRecDepth 20000 in
theorem ggL_law_X4_seek : GoodIn wsL_law wsX4_seek := goodIn_ca (goodIn_r _ [359, 74, 58, 73, 174, 175, 176, 5, 177, 75, 102, 103, 104, 251, 252, 253, 254, 76, 226, 227, 228, 185, 186, 187, 188, 70, 59, 71, 60, 61, 67, 189, 190, 182, 183, 184, 191, 192, 193, 194, 195, 196, 197, 198, 199, 78, 64, 65, 63, 66, 200, 201, 202, 203, 62, 492, 493, 494, 495, 496, 497, 498, 499, 500, 501, 502, 503, 504, 505, 506, 507, 508, 509, 510, 511, 512, 513] (by decide +kernel) (by decide +kernel)) (goodIn_sub (fun _ h => List.mem_append_left _ (List.mem_append_left _ (List.mem_append_left _ (List.mem_append_left _ (List.mem_append_left _ (List.mem_append_left _ (List.mem_append_right _ h))))))) (by decide +kernel))
set_option maxRecDepth 20000 in
theorem gL_law_X4_seek : GoodIn wsL_law (wsV RL 134 RX4 yX4_seek wsX4_seek) := goodIn_app (goodIn_of _ (by decide +kernel)) ggL_law_X4_seek
set_option maxRecDepth 20000 in
theorem ggL_law_L_actual : GoodIn wsL_law wsL_actual := goodIn_ca (goodIn_ca (goodIn_ca (goodIn_r _ [362, 112, 84, 363, 364, 365, 2, 366, 96, 97, 367, 368, 369, 23, 240, 241, 242, 243, 121, 122, 215, 216, 217, 157, 149, 150, 123, 124, 125, 126, 28, 27, 127, 128, 129, 130, 92, 15, 131, 132, 133, 134, 19, 135, 18, 136, 137, 34, 32, 138, 139, 140, 141, 22, 142, 143, 144, 46, 145, 146, 147, 148, 43, 47, 40, 41, 42, 151, 152, 153, 154, 155, 156, 158, 26, 159, 160, 51, 161, 162, 163, 164, 165, 52, 166, 167, 168, 169, 53, 485, 486, 487, 488, 489, 490, 491, 519, 520, 521, 522, 523, 524, 525, 514, 515, 516, 517, 518, 526, 527, 528] (by decide +kernel) (by decide +kernel)) (goodIn_sub (fun _ h => List.mem_append_left _ (List.mem_append_left _ (List.mem_append_left _ (List.mem_append_left _ (List.mem_append_left _ (List.mem_append_left _ (List.mem_append_right _ h))))))) (by decide +kernel))) (goodIn_sub (fun _ h => List.mem_append_left _ (List.mem_append_left _ (List.mem_append_left _ (List.mem_append_left _ (List.mem_append_right _ h))))) (by decide +kernel))) (goodIn_sub (fun _ h => List.mem_append_left _ (List.mem_append_left _ (List.mem_append_left _ (List.mem_append_right _ h)))) (by decide +kernel))
set_option maxRecDepth 20000 in
theorem gL_law_L_actual : GoodIn wsL_law (va_wsS RL 135 yL_actual wsL_actual) := goodIn_app (goodIn_of _ (by decide +kernel)) ggL_law_L_actual
set_option maxRecDepth 20000 in
theorem ggL_law_X4_actual : GoodIn wsL_law wsX4_actual := goodIn_ca (goodIn_r _ [373, 79, 374, 375, 74, 70, 67, 251, 252, 253, 5, 254, 76, 102, 103, 104, 226, 227, 228, 182, 183, 184, 178, 179, 180, 181, 72, 73, 68, 69, 185, 186, 187, 188, 59, 71, 60, 61, 189, 190, 191, 192, 193, 194, 195, 196, 197, 198, 199, 58, 78, 64, 65, 63, 66, 200, 201, 202, 203, 62, 492, 493, 494, 495, 496, 497, 498, 499, 500, 501, 502, 503, 504, 505, 506, 507, 508, 509, 510, 511, 512, 513] (by decide +kernel) (by decide +kernel)) (goodIn_sub (fun _ h => List.mem_append_left _ (List.mem_append_left _ (List.mem_append_left _ (List.mem_append_left _ (List.mem_append_left _ (List.mem_append_left _ (List.mem_append_right _ h))))))) (by decide +kernel))
set_option maxRecDepth 20000 in
theorem gL_law_X4_actual : GoodIn wsL_law (wsV RL 137 RX4 yX4_actual wsX4_actual) := goodIn_app (goodIn_of _ (by decide +kernel)) ggL_law_X4_actual
set_option maxRecDepth 20000 in
theorem ggL_law_L_takeActual : GoodIn wsL_law wsL_takeActual := goodIn_ca (goodIn_ca (goodIn_ca (goodIn_r _ [378, 112, 349, 379, 380, 381, 2, 382, 354, 355, 23, 307, 240, 241, 242, 243, 121, 122, 215, 216, 217, 157, 149, 150, 123, 124, 125, 126, 28, 27, 127, 128, 129, 130, 92, 15, 131, 132, 133, 134, 19, 135, 18, 136, 137, 34, 32, 138, 139, 140, 141, 22, 142, 143, 144, 46, 145, 146, 147, 148, 43, 47, 40, 41, 42, 151, 152, 153, 154, 155, 156, 158, 26, 159, 160, 51, 161, 162, 163, 164, 165, 52, 166, 167, 168, 169, 53, 485, 486, 487, 488, 489, 490, 491, 519, 520, 521, 522, 523, 524, 525, 514, 515, 516, 517, 518, 526, 527, 528] (by decide +kernel) (by decide +kernel)) (goodIn_sub (fun _ h => List.mem_append_left _ (List.mem_append_left _ (List.mem_append_left _ (List.mem_append_left _ (List.mem_append_left _ (List.mem_append_left _ (List.mem_append_right _ h))))))) (by decide +kernel))) (goodIn_sub (fun _ h => List.mem_append_left _ (List.mem_append_right _ h)) (by decide +kernel))) (goodIn_sub (fun _ h => List.mem_append_left _ (List.mem_append_left _ (List.mem_append_left _ (List.mem_append_right _ h)))) (by decide +kernel))
set_option maxRecDepth 20000 in
theorem gL_law_L_takeActual : GoodIn wsL_law (va_wsS RL 138 yL_takeActual wsL_takeActual) := goodIn_app (goodIn_of _ (by decide +kernel)) ggL_law_L_takeActual
set_option maxRecDepth 20000 in
theorem ggL_law_X4_takeActual : GoodIn wsL_law wsX4_takeActual := goodIn_ca (goodIn_r _ [386, 70, 74, 251, 252, 253, 5, 254, 76, 102, 103, 104, 226, 227, 228, 182, 183, 184, 178, 179, 180, 181, 72, 73, 68, 69, 185, 186, 187, 188, 59, 71, 60, 61, 67, 189, 190, 191, 192, 193, 194, 195, 196, 197, 198, 199, 58, 78, 64, 65, 63, 66, 200, 201, 202, 203, 62, 492, 493, 494, 495, 496, 497, 498, 499, 500, 501, 502, 503, 504, 505, 506, 507, 508, 509, 510, 511, 512, 513] (by decide +kernel) (by decide +kernel)) (goodIn_sub (fun _ h => List.mem_append_left _ (List.mem_append_left _ (List.mem_append_left _ (List.mem_append_left _ (List.mem_append_left _ (List.mem_append_left _ (List.mem_append_right _ h))))))) (by decide +kernel))
set_option maxRecDepth 20000 in
theorem gL_law_X4_takeActual : GoodIn wsL_law (wsV RL 140 RX4 yX4_takeActual wsX4_takeActual) := goodIn_app (goodIn_of _ (by decide +kernel)) ggL_law_X4_takeActual
set_option maxRecDepth 20000 in
theorem ggL_law_L_pass : GoodIn wsL_law wsL_pass := goodIn_ca (goodIn_ca (goodIn_r _ [389, 85, 390, 391, 392, 2, 393, 90, 91, 367, 485, 486, 487, 488, 489, 490, 491] (by decide +kernel) (by decide +kernel)) (goodIn_sub (fun _ h => List.mem_append_left _ (List.mem_append_left _ (List.mem_append_left _ (List.mem_append_left _ (List.mem_append_left _ (List.mem_append_left _ (List.mem_append_right _ h))))))) (by decide +kernel))) (goodIn_sub (fun _ h => List.mem_append_left _ (List.mem_append_left _ (List.mem_append_left _ (List.mem_append_left _ (List.mem_append_left _ (List.mem_append_right _ h)))))) (by decide +kernel))
set_option maxRecDepth 20000 in
theorem gL_law_L_pass : GoodIn wsL_law (va_wsS RL 141 yL_pass wsL_pass) := goodIn_app (goodIn_of _ (by decide +kernel)) ggL_law_L_pass
set_option maxRecDepth 20000 in
theorem ggL_law_X4_pass : GoodIn wsL_law wsX4_pass := goodIn_r _ [397, 79, 229, 230, 231, 5, 232, 74, 492, 493, 494, 495, 496, 497, 498, 499, 500, 501, 502, 503, 504, 505, 506, 507, 508, 509, 510, 511, 512, 513] (by decide +kernel) (by decide +kernel)
set_option maxRecDepth 20000 in
theorem gL_law_X4_pass : GoodIn wsL_law (wsV RL 144 RX4 yX4_pass wsX4_pass) := goodIn_app (goodIn_of _ (by decide +kernel)) ggL_law_X4_pass
set_option maxRecDepth 20000 in
theorem ggL_law_X3_month : GoodIn wsL_law wsX3_month := goodIn_r _ [401, 367, 485, 486, 487, 488, 489, 490, 491] (by decide +kernel) (by decide +kernel)
set_option maxRecDepth 20000 in
theorem gL_law_X3_month : GoodIn wsL_law (wsV RL 145 RX3 yX3_month wsX3_month) := goodIn_app (goodIn_of _ (by decide +kernel)) ggL_law_X3_month
set_option maxRecDepth 20000 in
theorem ggL_law_X4_month : GoodIn wsL_law wsX4_month := goodIn_r _ [405, 74, 79, 492, 493, 494, 495, 496, 497, 498, 499, 500, 501, 502, 503, 504, 505, 506, 507, 508, 509, 510, 511, 512, 513] (by decide +kernel) (by decide +kernel)
set_option maxRecDepth 20000 in
theorem gL_law_X4_month : GoodIn wsL_law (wsV RL 148 RX4 yX4_month wsX4_month) := goodIn_app (goodIn_of _ (by decide +kernel)) ggL_law_X4_month
set_option maxRecDepth 20000 in
theorem ggL_law_L_approve : GoodIn wsL_law wsL_approve := goodIn_ca (goodIn_ca (goodIn_ca (goodIn_ca (goodIn_r _ [408, 112, 84, 272, 409, 410, 411, 2, 412, 96, 97, 27, 240, 241, 242, 243, 121, 122, 23, 215, 216, 217, 294, 295, 296, 297, 28, 127, 128, 129, 130, 92, 15, 131, 132, 133, 134, 19, 135, 18, 136, 137, 34, 32, 138, 139, 140, 298, 22, 299, 300, 45, 40, 43, 47, 41, 42, 149, 150, 301, 302, 303, 46, 145, 146, 147, 148, 151, 152, 153, 154, 155, 156, 304, 305, 306, 277, 278, 307, 157, 413, 26, 414, 415, 51, 52, 53, 485, 486, 487, 488, 489, 490, 491, 519, 520, 521, 522, 523, 524, 525, 514, 515, 516, 517, 518, 526, 527, 528] (by decide +kernel) (by decide +kernel)) (goodIn_sub (fun _ h => List.mem_append_left _ (List.mem_append_left _ (List.mem_append_left _ (List.mem_append_left _ (List.mem_append_left _ (List.mem_append_left _ (List.mem_append_right _ h))))))) (by decide +kernel))) (goodIn_sub (fun _ h => List.mem_append_left _ (List.mem_append_left _ (List.mem_append_left _ (List.mem_append_left _ (List.mem_append_right _ h))))) (by decide +kernel))) (goodIn_sub (fun _ h => List.mem_append_left _ (List.mem_append_left _ (List.mem_append_left _ (List.mem_append_right _ h)))) (by decide +kernel))) (goodIn_sub (fun _ h => List.mem_append_left _ (List.mem_append_left _ (List.mem_append_right _ h))) (by decide +kernel))
set_option maxRecDepth 20000 in
theorem gL_law_L_approve : GoodIn wsL_law (va_wsS RL 149 yL_approve wsL_approve) := goodIn_app (goodIn_of _ (by decide +kernel)) ggL_law_L_approve
set_option maxRecDepth 20000 in
theorem ggL_law_X4_approve : GoodIn wsL_law wsX4_approve := goodIn_ca (goodIn_r _ [419, 74, 72, 68, 73, 69, 251, 252, 253, 5, 254, 76, 102, 103, 104, 226, 227, 228, 185, 186, 187, 188, 70, 59, 71, 60, 61, 67, 189, 190, 182, 183, 184, 191, 192, 193, 194, 195, 196, 197, 198, 199, 58, 78, 64, 65, 63, 66, 200, 201, 202, 203, 62, 492, 493, 494, 495, 496, 497, 498, 499, 500, 501, 502, 503, 504, 505, 506, 507, 508, 509, 510, 511, 512, 513] (by decide +kernel) (by decide +kernel)) (goodIn_sub (fun _ h => List.mem_append_left _ (List.mem_append_left _ (List.mem_append_left _ (List.mem_append_left _ (List.mem_append_left _ (List.mem_append_left _ (List.mem_append_right _ h))))))) (by decide +kernel))
set_option maxRecDepth 20000 in
theorem gL_law_X4_approve : GoodIn wsL_law (wsV RL 151 RX4 yX4_approve wsX4_approve) := goodIn_app (goodIn_of _ (by decide +kernel)) ggL_law_X4_approve
set_option maxRecDepth 20000 in
theorem ggL_law_L_state : GoodIn wsL_law wsL_state := goodIn_ca (goodIn_ca (goodIn_r _ [422, 112, 423, 424, 425, 2, 426, 27, 240, 241, 242, 243, 121, 122, 23, 215, 216, 217, 157, 149, 150, 485, 486, 487, 488, 489, 490, 491, 526, 527, 528, 519, 520, 521, 522, 523, 524, 525] (by decide +kernel) (by decide +kernel)) (goodIn_sub (fun _ h => List.mem_append_left _ (List.mem_append_left _ (List.mem_append_left _ (List.mem_append_left _ (List.mem_append_left _ (List.mem_append_left _ (List.mem_append_right _ h))))))) (by decide +kernel))) (goodIn_sub (fun _ h => List.mem_append_left _ (List.mem_append_left _ (List.mem_append_left _ (List.mem_append_right _ h)))) (by decide +kernel))
set_option maxRecDepth 20000 in
theorem gL_law_L_state : GoodIn wsL_law (va_wsS RL 152 yL_state wsL_state) := goodIn_app (goodIn_of _ (by decide +kernel)) ggL_law_L_state
set_option maxRecDepth 20000 in
theorem ggL_law_X4_state : GoodIn wsL_law wsX4_state := goodIn_ca (goodIn_r _ [430, 72, 251, 252, 253, 5, 254, 76, 102, 103, 104, 226, 227, 228, 229, 230, 231, 232, 74, 182, 183, 184, 492, 493, 494, 495, 496, 497, 498, 499, 500, 501, 502, 503, 504, 505, 506, 507, 508, 509, 510, 511, 512, 513] (by decide +kernel) (by decide +kernel)) (goodIn_sub (fun _ h => List.mem_append_left _ (List.mem_append_left _ (List.mem_append_left _ (List.mem_append_left _ (List.mem_append_left _ (List.mem_append_left _ (List.mem_append_right _ h))))))) (by decide +kernel))
set_option maxRecDepth 20000 in
theorem gL_law_X4_state : GoodIn wsL_law (wsV RL 154 RX4 yX4_state wsX4_state) := goodIn_app (goodIn_of _ (by decide +kernel)) ggL_law_X4_state
set_option maxRecDepth 20000 in
theorem ggL_law_L_drift : GoodIn wsL_law wsL_drift := goodIn_ca (goodIn_ca (goodIn_ca (goodIn_ca (goodIn_r _ [433, 112, 349, 272, 434, 435, 436, 2, 437, 354, 355, 27, 240, 241, 242, 243, 121, 122, 23, 215, 216, 217, 157, 149, 150, 294, 295, 296, 297, 28, 127, 128, 129, 130, 92, 15, 131, 132, 133, 134, 19, 135, 18, 136, 137, 34, 32, 138, 139, 140, 298, 22, 299, 300, 45, 40, 43, 47, 41, 42, 301, 302, 303, 46, 145, 146, 147, 148, 151, 152, 153, 154, 155, 156, 304, 305, 306, 277, 278, 307, 485, 486, 487, 488, 489, 490, 491, 526, 527, 528, 519, 520, 521, 522, 523, 524, 525, 514, 515, 516, 517, 518] (by decide +kernel) (by decide +kernel)) (goodIn_sub (fun _ h => List.mem_append_left _ (List.mem_append_left _ (List.mem_append_left _ (List.mem_append_left _ (List.mem_append_left _ (List.mem_append_left _ (List.mem_append_right _ h))))))) (by decide +kernel))) (goodIn_sub (fun _ h => List.mem_append_left _ (List.mem_append_right _ h)) (by decide +kernel))) (goodIn_sub (fun _ h => List.mem_append_left _ (List.mem_append_left _ (List.mem_append_left _ (List.mem_append_right _ h)))) (by decide +kernel))) (goodIn_sub (fun _ h => List.mem_append_left _ (List.mem_append_left _ (List.mem_append_right _ h))) (by decide +kernel))
set_option maxRecDepth 20000 in
theorem gL_law_L_drift : GoodIn wsL_law (va_wsS RL 155 yL_drift wsL_drift) := goodIn_app (goodIn_of _ (by decide +kernel)) ggL_law_L_drift
set_option maxRecDepth 20000 in
theorem ggL_law_X4_drift : GoodIn wsL_law wsX4_drift := goodIn_ca (goodIn_r _ [441, 72, 74, 73, 68, 251, 252, 253, 5, 254, 76, 102, 103, 104, 226, 227, 228, 182, 183, 184, 185, 186, 187, 188, 70, 59, 71, 60, 61, 67, 189, 190, 191, 192, 193, 194, 195, 196, 197, 198, 199, 58, 78, 64, 65, 63, 66, 200, 201, 202, 203, 62, 492, 493, 494, 495, 496, 497, 498, 499, 500, 501, 502, 503, 504, 505, 506, 507, 508, 509, 510, 511, 512, 513] (by decide +kernel) (by decide +kernel)) (goodIn_sub (fun _ h => List.mem_append_left _ (List.mem_append_left _ (List.mem_append_left _ (List.mem_append_left _ (List.mem_append_left _ (List.mem_append_left _ (List.mem_append_right _ h))))))) (by decide +kernel))
set_option maxRecDepth 20000 in
theorem gL_law_X4_drift : GoodIn wsL_law (wsV RL 157 RX4 yX4_drift wsX4_drift) := goodIn_app (goodIn_of _ (by decide +kernel)) ggL_law_X4_drift
set_option maxRecDepth 20000 in
theorem ggL_law_X3_open : GoodIn wsL_law wsX3_open := goodIn_ca (goodIn_r _ [445, 27, 446, 26, 447, 448, 51, 485, 486, 487, 488, 489, 490, 491, 526, 527, 528] (by decide +kernel) (by decide +kernel)) (goodIn_sub (fun _ h => List.mem_append_left _ (List.mem_append_left _ (List.mem_append_left _ (List.mem_append_left _ (List.mem_append_left _ (List.mem_append_left _ (List.mem_append_right _ h))))))) (by decide +kernel))
set_option maxRecDepth 20000 in
theorem gL_law_X3_open : GoodIn wsL_law (wsV RL 158 RX3 yX3_open wsX3_open) := goodIn_app (goodIn_of _ (by decide +kernel)) ggL_law_X3_open
set_option maxRecDepth 20000 in
theorem ggL_law_X4_open : GoodIn wsL_law wsX4_open := goodIn_ca (goodIn_r _ [452, 74, 453, 454, 455, 5, 456, 72, 492, 493, 494, 495, 496, 497, 498, 499, 500, 501, 502, 503, 504, 505, 506, 507, 508, 509, 510, 511, 512, 513] (by decide +kernel) (by decide +kernel)) (goodIn_sub (fun _ h => List.mem_append_left _ (List.mem_append_left _ (List.mem_append_left _ (List.mem_append_left _ (List.mem_append_left _ (List.mem_append_left _ (List.mem_append_right _ h))))))) (by decide +kernel))
set_option maxRecDepth 20000 in
theorem gL_law_X4_open : GoodIn wsL_law (wsV RL 161 RX4 yX4_open wsX4_open) := goodIn_app (goodIn_of _ (by decide +kernel)) ggL_law_X4_open
set_option maxRecDepth 20000 in
theorem ggL_law_L_approvedShare : GoodIn wsL_law wsL_approvedShare := goodIn_ca (goodIn_ca (goodIn_r _ [459, 460, 461, 462, 463, 2, 464, 465, 466, 27, 446, 26, 447, 448, 51, 485, 486, 487, 488, 489, 490, 491, 526, 527, 528] (by decide +kernel) (by decide +kernel)) (goodIn_sub (fun _ h => List.mem_append_left _ (List.mem_append_left _ (List.mem_append_left _ (List.mem_append_left _ (List.mem_append_left _ (List.mem_append_left _ (List.mem_append_right _ h))))))) (by decide +kernel))) (goodIn_sub (fun _ h => List.mem_append_right _ h) (by decide +kernel))
set_option maxRecDepth 20000 in
theorem gL_law_L_approvedShare : GoodIn wsL_law (va_wsS RL 162 yL_approvedShare wsL_approvedShare) := goodIn_app (goodIn_of _ (by decide +kernel)) ggL_law_L_approvedShare
set_option maxRecDepth 20000 in
theorem ggL_law_X4_approvedShare : GoodIn wsL_law wsX4_approvedShare := goodIn_ca (goodIn_r _ [470, 453, 454, 455, 5, 456, 72, 229, 230, 231, 232, 74, 492, 493, 494, 495, 496, 497, 498, 499, 500, 501, 502, 503, 504, 505, 506, 507, 508, 509, 510, 511, 512, 513] (by decide +kernel) (by decide +kernel)) (goodIn_sub (fun _ h => List.mem_append_left _ (List.mem_append_left _ (List.mem_append_left _ (List.mem_append_left _ (List.mem_append_left _ (List.mem_append_left _ (List.mem_append_right _ h))))))) (by decide +kernel))
set_option maxRecDepth 20000 in
theorem gL_law_X4_approvedShare : GoodIn wsL_law (wsV RL 165 RX4 yX4_approvedShare wsX4_approvedShare) := goodIn_app (goodIn_of _ (by decide +kernel)) ggL_law_X4_approvedShare
set_option maxRecDepth 20000 in
theorem ggL_law_L_meanTolerance : GoodIn wsL_law wsL_meanTolerance := goodIn_ca (goodIn_ca (goodIn_r _ [473, 460, 474, 475, 476, 2, 477, 465, 466, 27, 446, 26, 447, 448, 51, 478, 479, 480, 53, 485, 486, 487, 488, 489, 490, 491, 526, 527, 528] (by decide +kernel) (by decide +kernel)) (goodIn_sub (fun _ h => List.mem_append_left _ (List.mem_append_left _ (List.mem_append_left _ (List.mem_append_left _ (List.mem_append_left _ (List.mem_append_left _ (List.mem_append_right _ h))))))) (by decide +kernel))) (goodIn_sub (fun _ h => List.mem_append_right _ h) (by decide +kernel))
set_option maxRecDepth 20000 in
theorem gL_law_L_meanTolerance : GoodIn wsL_law (va_wsS RL 166 yL_meanTolerance wsL_meanTolerance) := goodIn_app (goodIn_of _ (by decide +kernel)) ggL_law_L_meanTolerance
set_option maxRecDepth 20000 in
theorem ggL_law_X4_meanTolerance : GoodIn wsL_law wsX4_meanTolerance := goodIn_ca (goodIn_r _ [484, 72, 69, 453, 454, 455, 5, 456, 229, 230, 231, 232, 74, 492, 493, 494, 495, 496, 497, 498, 499, 500, 501, 502, 503, 504, 505, 506, 507, 508, 509, 510, 511, 512, 513] (by decide +kernel) (by decide +kernel)) (goodIn_sub (fun _ h => List.mem_append_left _ (List.mem_append_left _ (List.mem_append_left _ (List.mem_append_left _ (List.mem_append_left _ (List.mem_append_left _ (List.mem_append_right _ h))))))) (by decide +kernel))
set_option maxRecDepth 20000 in
theorem gL_law_X4_meanTolerance : GoodIn wsL_law (wsV RL 168 RX4 yX4_meanTolerance wsX4_meanTolerance) := goodIn_app (goodIn_of _ (by decide +kernel)) ggL_law_X4_meanTolerance
theorem dL_law_0 : decode cL_law 0 = .ok (.new 8, 3) := by decide +kernel
theorem dL_law_3 : decode cL_law 3 = .ok (.dup, 1) := by decide +kernel
theorem dL_law_4 : decode cL_law 4 = .ok (.invokespecial 88, 3) := by decide +kernel
theorem dL_law_7 : decode cL_law 7 = .ok (.astore_n 1, 1) := by decide +kernel
theorem dL_law_8 : decode cL_law 8 = .ok (.new 89, 3) := by decide +kernel
theorem dL_law_11 : decode cL_law 11 = .ok (.dup, 1) := by decide +kernel
theorem dL_law_12 : decode cL_law 12 = .ok (.invokespecial 91, 3) := by decide +kernel
theorem dL_law_15 : decode cL_law 15 = .ok (.astore_n 2, 1) := by decide +kernel
theorem dL_law_16 : decode cL_law 16 = .ok (.iconst 1, 1) := by decide +kernel
theorem dL_law_17 : decode cL_law 17 = .ok (.newarray .long, 2) := by decide +kernel
theorem dL_law_19 : decode cL_law 19 = .ok (.astore_n 3, 1) := by decide +kernel
theorem dL_law_20 : decode cL_law 20 = .ok (.iconst 1, 1) := by decide +kernel
theorem dL_law_21 : decode cL_law 21 = .ok (.newarray .double, 2) := by decide +kernel
theorem dL_law_23 : decode cL_law 23 = .ok (.astore 4, 2) := by decide +kernel
theorem dL_law_25 : decode cL_law 25 = .ok (.iconst 0, 1) := by decide +kernel
theorem dL_law_26 : decode cL_law 26 = .ok (.istore 5, 2) := by decide +kernel
theorem dL_law_28 : decode cL_law 28 = .ok (.iload 5, 2) := by decide +kernel
theorem dL_law_30 : decode cL_law 30 = .ok (.aload_n 0, 1) := by decide +kernel
theorem dL_law_31 : decode cL_law 31 = .ok (.arraylength, 1) := by decide +kernel
theorem dL_law_32 : decode cL_law 32 = .ok (.iconst 5, 1) := by decide +kernel
theorem dL_law_33 : decode cL_law 33 = .ok (.isub, 1) := by decide +kernel
theorem dL_law_34 : decode cL_law 34 = .ok (.if_icmp .gt 1526, 3) := by decide +kernel
theorem dL_law_37 : decode cL_law 37 = .ok (.aload_n 0, 1) := by decide +kernel
theorem dL_law_38 : decode cL_law 38 = .ok (.iload 5, 2) := by decide +kernel
theorem dL_law_40 : decode cL_law 40 = .ok (.iaload, 1) := by decide +kernel
theorem dL_law_41 : decode cL_law 41 = .ok (.bipush 31, 2) := by decide +kernel
theorem dL_law_43 : decode cL_law 43 = .ok (.iand, 1) := by decide +kernel
theorem dL_law_44 : decode cL_law 44 = .ok (.tableswitch 1510 0 20 #[100, 156, 224, 304, 386, 442, 534, 614, 694, 761, 853, 945, 1025, 1093, 1137, 1150, 1230, 1298, 1366, 1379, 1445], 100) := by decide +kernel
theorem dL_law_144 : decode cL_law 144 = .ok (.aload_n 1, 1) := by decide +kernel
theorem dL_law_145 : decode cL_law 145 = .ok (.aload_n 0, 1) := by decide +kernel
theorem dL_law_146 : decode cL_law 146 = .ok (.iload 5, 2) := by decide +kernel
theorem dL_law_148 : decode cL_law 148 = .ok (.iconst 1, 1) := by decide +kernel
theorem dL_law_149 : decode cL_law 149 = .ok (.iadd, 1) := by decide +kernel
theorem dL_law_150 : decode cL_law 150 = .ok (.iaload, 1) := by decide +kernel
theorem dL_law_151 : decode cL_law 151 = .ok (.aload_n 3, 1) := by decide +kernel
theorem dL_law_152 : decode cL_law 152 = .ok (.invokestatic 92, 3) := by decide +kernel
theorem dL_law_155 : decode cL_law 155 = .ok (.istore 6, 2) := by decide +kernel
theorem dL_law_157 : decode cL_law 157 = .ok (.aload_n 2, 1) := by decide +kernel
theorem dL_law_158 : decode cL_law 158 = .ok (.aload_n 0, 1) := by decide +kernel
theorem dL_law_159 : decode cL_law 159 = .ok (.iload 5, 2) := by decide +kernel
theorem dL_law_161 : decode cL_law 161 = .ok (.iconst 1, 1) := by decide +kernel
theorem dL_law_162 : decode cL_law 162 = .ok (.iadd, 1) := by decide +kernel
theorem dL_law_163 : decode cL_law 163 = .ok (.iaload, 1) := by decide +kernel
theorem dL_law_164 : decode cL_law 164 = .ok (.invokevirtual 97, 3) := by decide +kernel
theorem dL_law_167 : decode cL_law 167 = .ok (.istore 7, 2) := by decide +kernel
theorem dL_law_169 : decode cL_law 169 = .ok (.aload_n 2, 1) := by decide +kernel
theorem dL_law_170 : decode cL_law 170 = .ok (.invokevirtual 98, 3) := by decide +kernel
theorem dL_law_173 : decode cL_law 173 = .ok (.iload 6, 2) := by decide +kernel
theorem dL_law_175 : decode cL_law 175 = .ok (.if_icmp .eq 5, 3) := by decide +kernel
theorem dL_law_178 : decode cL_law 178 = .ok (.iconst 0, 1) := by decide +kernel
theorem dL_law_179 : decode cL_law 179 = .ok (.ireturn, 1) := by decide +kernel
theorem dL_law_180 : decode cL_law 180 = .ok (.iload 6, 2) := by decide +kernel
theorem dL_law_182 : decode cL_law 182 = .ok (.ifCond .ne 15, 3) := by decide +kernel
theorem dL_law_185 : decode cL_law 185 = .ok (.aload_n 3, 1) := by decide +kernel
theorem dL_law_186 : decode cL_law 186 = .ok (.iconst 0, 1) := by decide +kernel
theorem dL_law_187 : decode cL_law 187 = .ok (.laload, 1) := by decide +kernel
theorem dL_law_188 : decode cL_law 188 = .ok (.iload 7, 2) := by decide +kernel
theorem dL_law_190 : decode cL_law 190 = .ok (.i2l, 1) := by decide +kernel
theorem dL_law_191 : decode cL_law 191 = .ok (.lcmp, 1) := by decide +kernel
theorem dL_law_192 : decode cL_law 192 = .ok (.ifCond .eq 5, 3) := by decide +kernel
theorem dL_law_195 : decode cL_law 195 = .ok (.iconst 0, 1) := by decide +kernel
theorem dL_law_196 : decode cL_law 196 = .ok (.ireturn, 1) := by decide +kernel
theorem dL_law_197 : decode cL_law 197 = .ok (.goto 1357, 3) := by decide +kernel
theorem dL_law_200 : decode cL_law 200 = .ok (.aload_n 1, 1) := by decide +kernel
theorem dL_law_201 : decode cL_law 201 = .ok (.aload_n 0, 1) := by decide +kernel
theorem dL_law_202 : decode cL_law 202 = .ok (.iload 5, 2) := by decide +kernel
theorem dL_law_204 : decode cL_law 204 = .ok (.iconst 1, 1) := by decide +kernel
theorem dL_law_205 : decode cL_law 205 = .ok (.iadd, 1) := by decide +kernel
theorem dL_law_206 : decode cL_law 206 = .ok (.iaload, 1) := by decide +kernel
theorem dL_law_207 : decode cL_law 207 = .ok (.aload_n 0, 1) := by decide +kernel
theorem dL_law_208 : decode cL_law 208 = .ok (.iload 5, 2) := by decide +kernel
theorem dL_law_210 : decode cL_law 210 = .ok (.iconst 2, 1) := by decide +kernel
theorem dL_law_211 : decode cL_law 211 = .ok (.iadd, 1) := by decide +kernel
theorem dL_law_212 : decode cL_law 212 = .ok (.iaload, 1) := by decide +kernel
theorem dL_law_213 : decode cL_law 213 = .ok (.aload_n 3, 1) := by decide +kernel
theorem dL_law_214 : decode cL_law 214 = .ok (.invokestatic 101, 3) := by decide +kernel
theorem dL_law_217 : decode cL_law 217 = .ok (.istore 6, 2) := by decide +kernel
theorem dL_law_219 : decode cL_law 219 = .ok (.aload_n 2, 1) := by decide +kernel
theorem dL_law_220 : decode cL_law 220 = .ok (.aload_n 0, 1) := by decide +kernel
theorem dL_law_221 : decode cL_law 221 = .ok (.iload 5, 2) := by decide +kernel
theorem dL_law_223 : decode cL_law 223 = .ok (.iconst 1, 1) := by decide +kernel
theorem dL_law_224 : decode cL_law 224 = .ok (.iadd, 1) := by decide +kernel
theorem dL_law_225 : decode cL_law 225 = .ok (.iaload, 1) := by decide +kernel
theorem dL_law_226 : decode cL_law 226 = .ok (.aload_n 0, 1) := by decide +kernel
theorem dL_law_227 : decode cL_law 227 = .ok (.iload 5, 2) := by decide +kernel
theorem dL_law_229 : decode cL_law 229 = .ok (.iconst 2, 1) := by decide +kernel
theorem dL_law_230 : decode cL_law 230 = .ok (.iadd, 1) := by decide +kernel
theorem dL_law_231 : decode cL_law 231 = .ok (.iaload, 1) := by decide +kernel
theorem dL_law_232 : decode cL_law 232 = .ok (.invokevirtual 104, 3) := by decide +kernel
theorem dL_law_235 : decode cL_law 235 = .ok (.istore 7, 2) := by decide +kernel
theorem dL_law_237 : decode cL_law 237 = .ok (.aload_n 2, 1) := by decide +kernel
theorem dL_law_238 : decode cL_law 238 = .ok (.invokevirtual 98, 3) := by decide +kernel
theorem dL_law_241 : decode cL_law 241 = .ok (.iload 6, 2) := by decide +kernel
theorem dL_law_243 : decode cL_law 243 = .ok (.if_icmp .eq 5, 3) := by decide +kernel
theorem dL_law_246 : decode cL_law 246 = .ok (.iconst 0, 1) := by decide +kernel
theorem dL_law_247 : decode cL_law 247 = .ok (.ireturn, 1) := by decide +kernel
theorem dL_law_248 : decode cL_law 248 = .ok (.iload 6, 2) := by decide +kernel
theorem dL_law_250 : decode cL_law 250 = .ok (.ifCond .ne 15, 3) := by decide +kernel
theorem dL_law_253 : decode cL_law 253 = .ok (.aload_n 3, 1) := by decide +kernel
theorem dL_law_254 : decode cL_law 254 = .ok (.iconst 0, 1) := by decide +kernel
theorem dL_law_255 : decode cL_law 255 = .ok (.laload, 1) := by decide +kernel
theorem dL_law_256 : decode cL_law 256 = .ok (.iload 7, 2) := by decide +kernel
theorem dL_law_258 : decode cL_law 258 = .ok (.i2l, 1) := by decide +kernel
theorem dL_law_259 : decode cL_law 259 = .ok (.lcmp, 1) := by decide +kernel
theorem dL_law_260 : decode cL_law 260 = .ok (.ifCond .eq 5, 3) := by decide +kernel
theorem dL_law_263 : decode cL_law 263 = .ok (.iconst 0, 1) := by decide +kernel
theorem dL_law_264 : decode cL_law 264 = .ok (.ireturn, 1) := by decide +kernel
theorem dL_law_265 : decode cL_law 265 = .ok (.goto 1289, 3) := by decide +kernel
theorem dL_law_268 : decode cL_law 268 = .ok (.aload_n 1, 1) := by decide +kernel
theorem dL_law_269 : decode cL_law 269 = .ok (.aload_n 0, 1) := by decide +kernel
theorem dL_law_270 : decode cL_law 270 = .ok (.iload 5, 2) := by decide +kernel
theorem dL_law_272 : decode cL_law 272 = .ok (.iconst 1, 1) := by decide +kernel
theorem dL_law_273 : decode cL_law 273 = .ok (.iadd, 1) := by decide +kernel
theorem dL_law_274 : decode cL_law 274 = .ok (.iaload, 1) := by decide +kernel
theorem dL_law_275 : decode cL_law 275 = .ok (.aload_n 0, 1) := by decide +kernel
theorem dL_law_276 : decode cL_law 276 = .ok (.iload 5, 2) := by decide +kernel
theorem dL_law_278 : decode cL_law 278 = .ok (.iconst 2, 1) := by decide +kernel
theorem dL_law_279 : decode cL_law 279 = .ok (.iadd, 1) := by decide +kernel
theorem dL_law_280 : decode cL_law 280 = .ok (.iaload, 1) := by decide +kernel
theorem dL_law_281 : decode cL_law 281 = .ok (.aload_n 0, 1) := by decide +kernel
theorem dL_law_282 : decode cL_law 282 = .ok (.iload 5, 2) := by decide +kernel
theorem dL_law_284 : decode cL_law 284 = .ok (.iconst 3, 1) := by decide +kernel
theorem dL_law_285 : decode cL_law 285 = .ok (.iadd, 1) := by decide +kernel
theorem dL_law_286 : decode cL_law 286 = .ok (.iaload, 1) := by decide +kernel
theorem dL_law_287 : decode cL_law 287 = .ok (.aload_n 3, 1) := by decide +kernel
theorem dL_law_288 : decode cL_law 288 = .ok (.invokestatic 105, 3) := by decide +kernel
theorem dL_law_291 : decode cL_law 291 = .ok (.istore 6, 2) := by decide +kernel
theorem dL_law_293 : decode cL_law 293 = .ok (.aload_n 2, 1) := by decide +kernel
theorem dL_law_294 : decode cL_law 294 = .ok (.aload_n 0, 1) := by decide +kernel
theorem dL_law_295 : decode cL_law 295 = .ok (.iload 5, 2) := by decide +kernel
theorem dL_law_297 : decode cL_law 297 = .ok (.iconst 1, 1) := by decide +kernel
theorem dL_law_298 : decode cL_law 298 = .ok (.iadd, 1) := by decide +kernel
theorem dL_law_299 : decode cL_law 299 = .ok (.iaload, 1) := by decide +kernel
theorem dL_law_300 : decode cL_law 300 = .ok (.aload_n 0, 1) := by decide +kernel
theorem dL_law_301 : decode cL_law 301 = .ok (.iload 5, 2) := by decide +kernel
theorem dL_law_303 : decode cL_law 303 = .ok (.iconst 2, 1) := by decide +kernel
theorem dL_law_304 : decode cL_law 304 = .ok (.iadd, 1) := by decide +kernel
theorem dL_law_305 : decode cL_law 305 = .ok (.iaload, 1) := by decide +kernel
theorem dL_law_306 : decode cL_law 306 = .ok (.aload_n 0, 1) := by decide +kernel
theorem dL_law_307 : decode cL_law 307 = .ok (.iload 5, 2) := by decide +kernel
theorem dL_law_309 : decode cL_law 309 = .ok (.iconst 3, 1) := by decide +kernel
theorem dL_law_310 : decode cL_law 310 = .ok (.iadd, 1) := by decide +kernel
theorem dL_law_311 : decode cL_law 311 = .ok (.iaload, 1) := by decide +kernel
theorem dL_law_312 : decode cL_law 312 = .ok (.invokevirtual 108, 3) := by decide +kernel
theorem dL_law_315 : decode cL_law 315 = .ok (.istore 7, 2) := by decide +kernel
theorem dL_law_317 : decode cL_law 317 = .ok (.aload_n 2, 1) := by decide +kernel
theorem dL_law_318 : decode cL_law 318 = .ok (.invokevirtual 98, 3) := by decide +kernel
theorem dL_law_321 : decode cL_law 321 = .ok (.iload 6, 2) := by decide +kernel
theorem dL_law_323 : decode cL_law 323 = .ok (.if_icmp .eq 5, 3) := by decide +kernel
theorem dL_law_326 : decode cL_law 326 = .ok (.iconst 0, 1) := by decide +kernel
theorem dL_law_327 : decode cL_law 327 = .ok (.ireturn, 1) := by decide +kernel
theorem dL_law_328 : decode cL_law 328 = .ok (.iload 6, 2) := by decide +kernel
theorem dL_law_330 : decode cL_law 330 = .ok (.ifCond .ne 15, 3) := by decide +kernel
theorem dL_law_333 : decode cL_law 333 = .ok (.aload_n 3, 1) := by decide +kernel
theorem dL_law_334 : decode cL_law 334 = .ok (.iconst 0, 1) := by decide +kernel
theorem dL_law_335 : decode cL_law 335 = .ok (.laload, 1) := by decide +kernel
theorem dL_law_336 : decode cL_law 336 = .ok (.iload 7, 2) := by decide +kernel
theorem dL_law_338 : decode cL_law 338 = .ok (.i2l, 1) := by decide +kernel
theorem dL_law_339 : decode cL_law 339 = .ok (.lcmp, 1) := by decide +kernel
theorem dL_law_340 : decode cL_law 340 = .ok (.ifCond .eq 5, 3) := by decide +kernel
theorem dL_law_343 : decode cL_law 343 = .ok (.iconst 0, 1) := by decide +kernel
theorem dL_law_344 : decode cL_law 344 = .ok (.ireturn, 1) := by decide +kernel
theorem dL_law_345 : decode cL_law 345 = .ok (.goto 1209, 3) := by decide +kernel
theorem dL_law_348 : decode cL_law 348 = .ok (.aload_n 1, 1) := by decide +kernel
theorem dL_law_349 : decode cL_law 349 = .ok (.aload_n 0, 1) := by decide +kernel
theorem dL_law_350 : decode cL_law 350 = .ok (.iload 5, 2) := by decide +kernel
theorem dL_law_352 : decode cL_law 352 = .ok (.iconst 1, 1) := by decide +kernel
theorem dL_law_353 : decode cL_law 353 = .ok (.iadd, 1) := by decide +kernel
theorem dL_law_354 : decode cL_law 354 = .ok (.iaload, 1) := by decide +kernel
theorem dL_law_355 : decode cL_law 355 = .ok (.i2c, 1) := by decide +kernel
theorem dL_law_356 : decode cL_law 356 = .ok (.aload_n 0, 1) := by decide +kernel
theorem dL_law_357 : decode cL_law 357 = .ok (.iload 5, 2) := by decide +kernel
theorem dL_law_359 : decode cL_law 359 = .ok (.iconst 2, 1) := by decide +kernel
theorem dL_law_360 : decode cL_law 360 = .ok (.iadd, 1) := by decide +kernel
theorem dL_law_361 : decode cL_law 361 = .ok (.iaload, 1) := by decide +kernel
theorem dL_law_362 : decode cL_law 362 = .ok (.aload_n 0, 1) := by decide +kernel
theorem dL_law_363 : decode cL_law 363 = .ok (.iload 5, 2) := by decide +kernel
theorem dL_law_365 : decode cL_law 365 = .ok (.iconst 3, 1) := by decide +kernel
theorem dL_law_366 : decode cL_law 366 = .ok (.iadd, 1) := by decide +kernel
theorem dL_law_367 : decode cL_law 367 = .ok (.iaload, 1) := by decide +kernel
theorem dL_law_368 : decode cL_law 368 = .ok (.aload_n 3, 1) := by decide +kernel
theorem dL_law_369 : decode cL_law 369 = .ok (.invokestatic 109, 3) := by decide +kernel
theorem dL_law_372 : decode cL_law 372 = .ok (.istore 6, 2) := by decide +kernel
theorem dL_law_374 : decode cL_law 374 = .ok (.aload_n 2, 1) := by decide +kernel
theorem dL_law_375 : decode cL_law 375 = .ok (.aload_n 0, 1) := by decide +kernel
theorem dL_law_376 : decode cL_law 376 = .ok (.iload 5, 2) := by decide +kernel
theorem dL_law_378 : decode cL_law 378 = .ok (.iconst 1, 1) := by decide +kernel
theorem dL_law_379 : decode cL_law 379 = .ok (.iadd, 1) := by decide +kernel
theorem dL_law_380 : decode cL_law 380 = .ok (.iaload, 1) := by decide +kernel
theorem dL_law_381 : decode cL_law 381 = .ok (.i2c, 1) := by decide +kernel
theorem dL_law_382 : decode cL_law 382 = .ok (.aload_n 0, 1) := by decide +kernel
theorem dL_law_383 : decode cL_law 383 = .ok (.iload 5, 2) := by decide +kernel
theorem dL_law_385 : decode cL_law 385 = .ok (.iconst 2, 1) := by decide +kernel
theorem dL_law_386 : decode cL_law 386 = .ok (.iadd, 1) := by decide +kernel
theorem dL_law_387 : decode cL_law 387 = .ok (.iaload, 1) := by decide +kernel
theorem dL_law_388 : decode cL_law 388 = .ok (.aload_n 0, 1) := by decide +kernel
theorem dL_law_389 : decode cL_law 389 = .ok (.iload 5, 2) := by decide +kernel
theorem dL_law_391 : decode cL_law 391 = .ok (.iconst 3, 1) := by decide +kernel
theorem dL_law_392 : decode cL_law 392 = .ok (.iadd, 1) := by decide +kernel
theorem dL_law_393 : decode cL_law 393 = .ok (.iaload, 1) := by decide +kernel
theorem dL_law_394 : decode cL_law 394 = .ok (.invokevirtual 112, 3) := by decide +kernel
theorem dL_law_397 : decode cL_law 397 = .ok (.istore 7, 2) := by decide +kernel
theorem dL_law_399 : decode cL_law 399 = .ok (.aload_n 2, 1) := by decide +kernel
theorem dL_law_400 : decode cL_law 400 = .ok (.invokevirtual 98, 3) := by decide +kernel
theorem dL_law_403 : decode cL_law 403 = .ok (.iload 6, 2) := by decide +kernel
theorem dL_law_405 : decode cL_law 405 = .ok (.if_icmp .eq 5, 3) := by decide +kernel
theorem dL_law_408 : decode cL_law 408 = .ok (.iconst 0, 1) := by decide +kernel
theorem dL_law_409 : decode cL_law 409 = .ok (.ireturn, 1) := by decide +kernel
theorem dL_law_410 : decode cL_law 410 = .ok (.iload 6, 2) := by decide +kernel
theorem dL_law_412 : decode cL_law 412 = .ok (.ifCond .ne 15, 3) := by decide +kernel
theorem dL_law_415 : decode cL_law 415 = .ok (.aload_n 3, 1) := by decide +kernel
theorem dL_law_416 : decode cL_law 416 = .ok (.iconst 0, 1) := by decide +kernel
theorem dL_law_417 : decode cL_law 417 = .ok (.laload, 1) := by decide +kernel
theorem dL_law_418 : decode cL_law 418 = .ok (.iload 7, 2) := by decide +kernel
theorem dL_law_420 : decode cL_law 420 = .ok (.i2l, 1) := by decide +kernel
theorem dL_law_421 : decode cL_law 421 = .ok (.lcmp, 1) := by decide +kernel
theorem dL_law_422 : decode cL_law 422 = .ok (.ifCond .eq 5, 3) := by decide +kernel
theorem dL_law_425 : decode cL_law 425 = .ok (.iconst 0, 1) := by decide +kernel
theorem dL_law_426 : decode cL_law 426 = .ok (.ireturn, 1) := by decide +kernel
theorem dL_law_427 : decode cL_law 427 = .ok (.goto 1127, 3) := by decide +kernel
theorem dL_law_430 : decode cL_law 430 = .ok (.aload_n 1, 1) := by decide +kernel
theorem dL_law_431 : decode cL_law 431 = .ok (.aload_n 0, 1) := by decide +kernel
theorem dL_law_432 : decode cL_law 432 = .ok (.iload 5, 2) := by decide +kernel
theorem dL_law_434 : decode cL_law 434 = .ok (.iconst 1, 1) := by decide +kernel
theorem dL_law_435 : decode cL_law 435 = .ok (.iadd, 1) := by decide +kernel
theorem dL_law_436 : decode cL_law 436 = .ok (.iaload, 1) := by decide +kernel
theorem dL_law_437 : decode cL_law 437 = .ok (.aload_n 3, 1) := by decide +kernel
theorem dL_law_438 : decode cL_law 438 = .ok (.invokestatic 113, 3) := by decide +kernel
theorem dL_law_441 : decode cL_law 441 = .ok (.istore 6, 2) := by decide +kernel
theorem dL_law_443 : decode cL_law 443 = .ok (.aload_n 2, 1) := by decide +kernel
theorem dL_law_444 : decode cL_law 444 = .ok (.aload_n 0, 1) := by decide +kernel
theorem dL_law_445 : decode cL_law 445 = .ok (.iload 5, 2) := by decide +kernel
theorem dL_law_447 : decode cL_law 447 = .ok (.iconst 1, 1) := by decide +kernel
theorem dL_law_448 : decode cL_law 448 = .ok (.iadd, 1) := by decide +kernel
theorem dL_law_449 : decode cL_law 449 = .ok (.iaload, 1) := by decide +kernel
theorem dL_law_450 : decode cL_law 450 = .ok (.invokevirtual 115, 3) := by decide +kernel
theorem dL_law_453 : decode cL_law 453 = .ok (.istore 7, 2) := by decide +kernel
theorem dL_law_455 : decode cL_law 455 = .ok (.aload_n 2, 1) := by decide +kernel
theorem dL_law_456 : decode cL_law 456 = .ok (.invokevirtual 98, 3) := by decide +kernel
theorem dL_law_459 : decode cL_law 459 = .ok (.iload 6, 2) := by decide +kernel
theorem dL_law_461 : decode cL_law 461 = .ok (.if_icmp .eq 5, 3) := by decide +kernel
theorem dL_law_464 : decode cL_law 464 = .ok (.iconst 0, 1) := by decide +kernel
theorem dL_law_465 : decode cL_law 465 = .ok (.ireturn, 1) := by decide +kernel
theorem dL_law_466 : decode cL_law 466 = .ok (.iload 6, 2) := by decide +kernel
theorem dL_law_468 : decode cL_law 468 = .ok (.ifCond .ne 15, 3) := by decide +kernel
theorem dL_law_471 : decode cL_law 471 = .ok (.aload_n 3, 1) := by decide +kernel
theorem dL_law_472 : decode cL_law 472 = .ok (.iconst 0, 1) := by decide +kernel
theorem dL_law_473 : decode cL_law 473 = .ok (.laload, 1) := by decide +kernel
theorem dL_law_474 : decode cL_law 474 = .ok (.iload 7, 2) := by decide +kernel
theorem dL_law_476 : decode cL_law 476 = .ok (.i2l, 1) := by decide +kernel
theorem dL_law_477 : decode cL_law 477 = .ok (.lcmp, 1) := by decide +kernel
theorem dL_law_478 : decode cL_law 478 = .ok (.ifCond .eq 5, 3) := by decide +kernel
theorem dL_law_481 : decode cL_law 481 = .ok (.iconst 0, 1) := by decide +kernel
theorem dL_law_482 : decode cL_law 482 = .ok (.ireturn, 1) := by decide +kernel
theorem dL_law_483 : decode cL_law 483 = .ok (.goto 1071, 3) := by decide +kernel
theorem dL_law_486 : decode cL_law 486 = .ok (.aload_n 1, 1) := by decide +kernel
theorem dL_law_487 : decode cL_law 487 = .ok (.aload_n 0, 1) := by decide +kernel
theorem dL_law_488 : decode cL_law 488 = .ok (.iload 5, 2) := by decide +kernel
theorem dL_law_490 : decode cL_law 490 = .ok (.iconst 1, 1) := by decide +kernel
theorem dL_law_491 : decode cL_law 491 = .ok (.iadd, 1) := by decide +kernel
theorem dL_law_492 : decode cL_law 492 = .ok (.iaload, 1) := by decide +kernel
theorem dL_law_493 : decode cL_law 493 = .ok (.aload_n 0, 1) := by decide +kernel
theorem dL_law_494 : decode cL_law 494 = .ok (.iload 5, 2) := by decide +kernel
theorem dL_law_496 : decode cL_law 496 = .ok (.iconst 2, 1) := by decide +kernel
theorem dL_law_497 : decode cL_law 497 = .ok (.iadd, 1) := by decide +kernel
theorem dL_law_498 : decode cL_law 498 = .ok (.iaload, 1) := by decide +kernel
theorem dL_law_499 : decode cL_law 499 = .ok (.aload_n 0, 1) := by decide +kernel
theorem dL_law_500 : decode cL_law 500 = .ok (.iload 5, 2) := by decide +kernel
theorem dL_law_502 : decode cL_law 502 = .ok (.iconst 3, 1) := by decide +kernel
theorem dL_law_503 : decode cL_law 503 = .ok (.iadd, 1) := by decide +kernel
theorem dL_law_504 : decode cL_law 504 = .ok (.iaload, 1) := by decide +kernel
theorem dL_law_505 : decode cL_law 505 = .ok (.aload_n 0, 1) := by decide +kernel
theorem dL_law_506 : decode cL_law 506 = .ok (.iload 5, 2) := by decide +kernel
theorem dL_law_508 : decode cL_law 508 = .ok (.iconst 4, 1) := by decide +kernel
theorem dL_law_509 : decode cL_law 509 = .ok (.iadd, 1) := by decide +kernel
theorem dL_law_510 : decode cL_law 510 = .ok (.iaload, 1) := by decide +kernel
theorem dL_law_511 : decode cL_law 511 = .ok (.aload_n 3, 1) := by decide +kernel
theorem dL_law_512 : decode cL_law 512 = .ok (.invokestatic 116, 3) := by decide +kernel
theorem dL_law_515 : decode cL_law 515 = .ok (.istore 6, 2) := by decide +kernel
theorem dL_law_517 : decode cL_law 517 = .ok (.aload_n 2, 1) := by decide +kernel
theorem dL_law_518 : decode cL_law 518 = .ok (.aload_n 0, 1) := by decide +kernel
theorem dL_law_519 : decode cL_law 519 = .ok (.iload 5, 2) := by decide +kernel
theorem dL_law_521 : decode cL_law 521 = .ok (.iconst 1, 1) := by decide +kernel
theorem dL_law_522 : decode cL_law 522 = .ok (.iadd, 1) := by decide +kernel
theorem dL_law_523 : decode cL_law 523 = .ok (.iaload, 1) := by decide +kernel
theorem dL_law_524 : decode cL_law 524 = .ok (.aload_n 0, 1) := by decide +kernel
theorem dL_law_525 : decode cL_law 525 = .ok (.iload 5, 2) := by decide +kernel
theorem dL_law_527 : decode cL_law 527 = .ok (.iconst 2, 1) := by decide +kernel
theorem dL_law_528 : decode cL_law 528 = .ok (.iadd, 1) := by decide +kernel
theorem dL_law_529 : decode cL_law 529 = .ok (.iaload, 1) := by decide +kernel
theorem dL_law_530 : decode cL_law 530 = .ok (.aload_n 0, 1) := by decide +kernel
theorem dL_law_531 : decode cL_law 531 = .ok (.iload 5, 2) := by decide +kernel
theorem dL_law_533 : decode cL_law 533 = .ok (.iconst 3, 1) := by decide +kernel
theorem dL_law_534 : decode cL_law 534 = .ok (.iadd, 1) := by decide +kernel
theorem dL_law_535 : decode cL_law 535 = .ok (.iaload, 1) := by decide +kernel
theorem dL_law_536 : decode cL_law 536 = .ok (.aload_n 0, 1) := by decide +kernel
theorem dL_law_537 : decode cL_law 537 = .ok (.iload 5, 2) := by decide +kernel
theorem dL_law_539 : decode cL_law 539 = .ok (.iconst 4, 1) := by decide +kernel
theorem dL_law_540 : decode cL_law 540 = .ok (.iadd, 1) := by decide +kernel
theorem dL_law_541 : decode cL_law 541 = .ok (.iaload, 1) := by decide +kernel
theorem dL_law_542 : decode cL_law 542 = .ok (.invokevirtual 119, 3) := by decide +kernel
theorem dL_law_545 : decode cL_law 545 = .ok (.istore 7, 2) := by decide +kernel
theorem dL_law_547 : decode cL_law 547 = .ok (.aload_n 2, 1) := by decide +kernel
theorem dL_law_548 : decode cL_law 548 = .ok (.invokevirtual 98, 3) := by decide +kernel
