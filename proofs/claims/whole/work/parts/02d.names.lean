theorem dX3_number_16 : decode cX3_number 16 = .ok (.iload_n 2, 1) := by decide +kernel
theorem dX3_number_17 : decode cX3_number 17 = .ok (.iload_n 3, 1) := by decide +kernel
theorem dX3_number_18 : decode cX3_number 18 = .ok (.bipush 6, 2) := by decide +kernel
theorem dX3_number_20 : decode cX3_number 20 = .ok (.invokevirtual 92, 3) := by decide +kernel
theorem dX3_number_23 : decode cX3_number 23 = .ok (.invokestatic 95, 3) := by decide +kernel
theorem dX3_number_26 : decode cX3_number 26 = .ok (.ireturn, 1) := by decide +kernel
set_option maxRecDepth 20000 in
theorem ggX3_numberByHand_X3_requireScenario : GoodIn wsX3_numberByHand wsX3_requireScenario := goodIn_ca (goodIn_r _ [7, 8, 9, 10, 66, 67, 68, 69, 70, 71, 72, 80, 81, 82, 83, 84] (by decide +kernel) (by decide +kernel)) (goodIn_sub (fun _ h => List.mem_cons_of_mem _ (List.mem_append_left _ (List.mem_append_right _ h))) (by decide +kernel))
set_option maxRecDepth 20000 in
theorem gX3_numberByHand_X3_requireScenario : GoodIn wsX3_numberByHand (wsV RX3 55 RX3 yX3_requireScenario wsX3_requireScenario) := goodIn_app (goodIn_of _ (by decide +kernel)) ggX3_numberByHand_X3_requireScenario
set_option maxRecDepth 20000 in
theorem ggX3_numberByHand_X3_requireLine : GoodIn wsX3_numberByHand wsX3_requireLine := goodIn_ca (goodIn_r _ [14, 8, 9, 1, 66, 67, 68, 69, 70, 71, 72, 73, 74, 75, 76, 77, 78, 79] (by decide +kernel) (by decide +kernel)) (goodIn_sub (fun _ h => List.mem_cons_of_mem _ (List.mem_append_left _ (List.mem_append_right _ h))) (by decide +kernel))
set_option maxRecDepth 20000 in
theorem gX3_numberByHand_X3_requireLine : GoodIn wsX3_numberByHand (wsV RX3 68 RX3 yX3_requireLine wsX3_requireLine) := goodIn_app (goodIn_of _ (by decide +kernel)) ggX3_numberByHand_X3_requireLine
set_option maxRecDepth 20000 in
theorem ggX3_numberByHand_X3_requireMonth : GoodIn wsX3_numberByHand wsX3_requireMonth := goodIn_ca (goodIn_r _ [17, 8, 9] (by decide +kernel) (by decide +kernel)) (goodIn_sub (fun _ h => List.mem_cons_of_mem _ (List.mem_append_left _ (List.mem_append_right _ h))) (by decide +kernel))
set_option maxRecDepth 20000 in
theorem gX3_numberByHand_X3_requireMonth : GoodIn wsX3_numberByHand (va_wsS RX3 58 yX3_requireMonth wsX3_requireMonth) := goodIn_app (goodIn_of _ (by decide +kernel)) ggX3_numberByHand_X3_requireMonth
set_option maxRecDepth 20000 in
theorem ggX3_numberByHand_X3_fillInputs : GoodIn wsX3_numberByHand wsX3_fillInputs := goodIn_ca (goodIn_r _ [21, 22, 2, 23, 24, 25, 26, 6, 27, 10, 28, 29, 30, 31, 32, 33, 34, 35, 36, 66, 67, 68, 69, 70, 71, 72, 80, 81, 82, 83, 84] (by decide +kernel) (by decide +kernel)) (goodIn_sub (fun _ h => List.mem_cons_of_mem _ (List.mem_append_left _ (List.mem_append_left _ (List.mem_append_right _ h)))) (by decide +kernel))
set_option maxRecDepth 20000 in
theorem gX3_numberByHand_X3_fillInputs : GoodIn wsX3_numberByHand (wsV RX3 98 RX3 yX3_fillInputs wsX3_fillInputs) := goodIn_app (goodIn_of _ (by decide +kernel)) ggX3_numberByHand_X3_fillInputs
set_option maxRecDepth 20000 in
theorem ggX3_numberByHand_X1_findAll : GoodIn wsX3_numberByHand wsX1_findAll := goodIn_ca (goodIn_r _ [40, 41, 42, 43, 44, 45, 38, 46, 47, 48, 49, 50, 51, 52, 6, 53, 54, 55, 56, 57, 58, 59, 73, 74, 75, 76, 77, 78, 79] (by decide +kernel) (by decide +kernel)) (goodIn_sub (fun _ h => List.mem_cons_of_mem _ (List.mem_append_left _ (List.mem_append_left _ (List.mem_append_right _ h)))) (by decide +kernel))
set_option maxRecDepth 20000 in
theorem gX3_numberByHand_X1_findAll_n102 : GoodIn wsX3_numberByHand (wsX1_findAll) := ggX3_numberByHand_X1_findAll
set_option maxRecDepth 20000 in
theorem ggX3_numberByHand_X3_required : GoodIn wsX3_numberByHand wsX3_required := goodIn_ca (goodIn_r _ [62, 63, 64, 65] (by decide +kernel) (by decide +kernel)) (goodIn_sub (fun _ h => List.mem_cons_of_mem _ (List.mem_append_right _ h)) (by decide +kernel))
set_option maxRecDepth 20000 in
theorem gX3_numberByHand_X3_required : GoodIn wsX3_numberByHand (va_wsS RX3 95 yX3_required wsX3_required) := goodIn_app (goodIn_of _ (by decide +kernel)) ggX3_numberByHand_X3_required
theorem dX3_numberByHand_0 : decode cX3_numberByHand 0 = .ok (.aload_n 0, 1) := by decide +kernel
theorem dX3_numberByHand_1 : decode cX3_numberByHand 1 = .ok (.iload_n 1, 1) := by decide +kernel
theorem dX3_numberByHand_2 : decode cX3_numberByHand 2 = .ok (.invokevirtual 55, 3) := by decide +kernel
theorem dX3_numberByHand_5 : decode cX3_numberByHand 5 = .ok (.aload_n 0, 1) := by decide +kernel
theorem dX3_numberByHand_6 : decode cX3_numberByHand 6 = .ok (.iload_n 2, 1) := by decide +kernel
theorem dX3_numberByHand_7 : decode cX3_numberByHand 7 = .ok (.invokevirtual 68, 3) := by decide +kernel
theorem dX3_numberByHand_10 : decode cX3_numberByHand 10 = .ok (.iload_n 3, 1) := by decide +kernel
theorem dX3_numberByHand_11 : decode cX3_numberByHand 11 = .ok (.invokestatic 58, 3) := by decide +kernel
theorem dX3_numberByHand_14 : decode cX3_numberByHand 14 = .ok (.aload_n 0, 1) := by decide +kernel
theorem dX3_numberByHand_15 : decode cX3_numberByHand 15 = .ok (.iload_n 1, 1) := by decide +kernel
theorem dX3_numberByHand_16 : decode cX3_numberByHand 16 = .ok (.iload_n 3, 1) := by decide +kernel
theorem dX3_numberByHand_17 : decode cX3_numberByHand 17 = .ok (.bipush 6, 2) := by decide +kernel
theorem dX3_numberByHand_19 : decode cX3_numberByHand 19 = .ok (.invokevirtual 98, 3) := by decide +kernel
theorem dX3_numberByHand_22 : decode cX3_numberByHand 22 = .ok (.aload_n 0, 1) := by decide +kernel
theorem dX3_numberByHand_23 : decode cX3_numberByHand 23 = .ok (.getfield 23, 3) := by decide +kernel
theorem dX3_numberByHand_26 : decode cX3_numberByHand 26 = .ok (.iload_n 3, 1) := by decide +kernel
theorem dX3_numberByHand_27 : decode cX3_numberByHand 27 = .ok (.aload_n 0, 1) := by decide +kernel
theorem dX3_numberByHand_28 : decode cX3_numberByHand 28 = .ok (.getfield 34, 3) := by decide +kernel
theorem dX3_numberByHand_31 : decode cX3_numberByHand 31 = .ok (.invokevirtual 102, 3) := by decide +kernel
theorem dX3_numberByHand_34 : decode cX3_numberByHand 34 = .ok (.aload_n 0, 1) := by decide +kernel
theorem dX3_numberByHand_35 : decode cX3_numberByHand 35 = .ok (.getfield 23, 3) := by decide +kernel
theorem dX3_numberByHand_38 : decode cX3_numberByHand 38 = .ok (.getfield 106, 3) := by decide +kernel
theorem dX3_numberByHand_41 : decode cX3_numberByHand 41 = .ok (.iload_n 2, 1) := by decide +kernel
theorem dX3_numberByHand_42 : decode cX3_numberByHand 42 = .ok (.iaload, 1) := by decide +kernel
theorem dX3_numberByHand_43 : decode cX3_numberByHand 43 = .ok (.invokestatic 95, 3) := by decide +kernel
theorem dX3_numberByHand_46 : decode cX3_numberByHand 46 = .ok (.ireturn, 1) := by decide +kernel
set_option maxRecDepth 20000 in
theorem ggX3_year_X3_requireScenario : GoodIn wsX3_year wsX3_requireScenario := goodIn_ca (goodIn_r _ [5, 6, 7, 8, 70, 71, 72, 73, 74, 75, 76, 77, 78, 79, 80, 81] (by decide +kernel) (by decide +kernel)) (goodIn_sub (fun _ h => List.mem_cons_of_mem _ (List.mem_append_left _ (List.mem_append_left _ (List.mem_append_right _ h)))) (by decide +kernel))
set_option maxRecDepth 20000 in
theorem gX3_year_X3_requireScenario : GoodIn wsX3_year (wsV RX3 55 RX3 yX3_requireScenario wsX3_requireScenario) := goodIn_app (goodIn_of _ (by decide +kernel)) ggX3_year_X3_requireScenario
set_option maxRecDepth 20000 in
theorem ggX3_year_X3_requireLine : GoodIn wsX3_year wsX3_requireLine := goodIn_ca (goodIn_r _ [12, 6, 7, 13, 70, 71, 72, 73, 74, 75, 76, 82, 83, 84, 85, 86, 87, 88] (by decide +kernel) (by decide +kernel)) (goodIn_sub (fun _ h => List.mem_cons_of_mem _ (List.mem_append_left _ (List.mem_append_left _ (List.mem_append_right _ h)))) (by decide +kernel))
set_option maxRecDepth 20000 in
theorem gX3_year_X3_requireLine : GoodIn wsX3_year (wsV RX3 68 RX3 yX3_requireLine wsX3_requireLine) := goodIn_app (goodIn_of _ (by decide +kernel)) ggX3_year_X3_requireLine
set_option maxRecDepth 20000 in
theorem ggX3_year_X3_numberIn : GoodIn wsX3_year wsX3_numberIn := goodIn_ca (goodIn_r _ [17, 13, 18, 19, 20, 21, 4, 22, 23, 24, 25, 26, 27, 28, 8, 29, 30, 31, 32, 33, 34, 35, 36, 37, 38, 39, 40, 41, 42, 43, 44, 45, 46, 47, 48, 49, 50, 51, 52, 53, 54, 55, 56, 57, 58, 59, 60, 61, 62, 63, 70, 71, 72, 73, 74, 75, 76, 77, 78, 79, 80, 81, 82, 83, 84, 85, 86, 87, 88] (by decide +kernel) (by decide +kernel)) (goodIn_sub (fun _ h => List.mem_cons_of_mem _ (List.mem_append_left _ (List.mem_append_right _ h))) (by decide +kernel))
set_option maxRecDepth 20000 in
theorem gX3_year_X3_numberIn : GoodIn wsX3_year (wsV RX3 92 RX3 yX3_numberIn wsX3_numberIn) := goodIn_app (goodIn_of _ (by decide +kernel)) ggX3_year_X3_numberIn
set_option maxRecDepth 20000 in
theorem ggX3_year_X3_required : GoodIn wsX3_year wsX3_required := goodIn_ca (goodIn_r _ [66, 67, 68, 69] (by decide +kernel) (by decide +kernel)) (goodIn_sub (fun _ h => List.mem_cons_of_mem _ (List.mem_append_right _ h)) (by decide +kernel))
set_option maxRecDepth 20000 in
theorem gX3_year_X3_required : GoodIn wsX3_year (va_wsS RX3 95 yX3_required wsX3_required) := goodIn_app (goodIn_of _ (by decide +kernel)) ggX3_year_X3_required
theorem dX3_year_0 : decode cX3_year 0 = .ok (.aload_n 0, 1) := by decide +kernel
theorem dX3_year_1 : decode cX3_year 1 = .ok (.iload_n 1, 1) := by decide +kernel
theorem dX3_year_2 : decode cX3_year 2 = .ok (.invokevirtual 55, 3) := by decide +kernel
theorem dX3_year_5 : decode cX3_year 5 = .ok (.aload_n 0, 1) := by decide +kernel
theorem dX3_year_6 : decode cX3_year 6 = .ok (.iload_n 2, 1) := by decide +kernel
theorem dX3_year_7 : decode cX3_year 7 = .ok (.invokevirtual 68, 3) := by decide +kernel
theorem dX3_year_10 : decode cX3_year 10 = .ok (.lconst 0, 1) := by decide +kernel
theorem dX3_year_11 : decode cX3_year 11 = .ok (.lstore_n 3, 1) := by decide +kernel
theorem dX3_year_12 : decode cX3_year 12 = .ok (.iconst 0, 1) := by decide +kernel
theorem dX3_year_13 : decode cX3_year 13 = .ok (.istore 5, 2) := by decide +kernel
theorem dX3_year_15 : decode cX3_year 15 = .ok (.iload 5, 2) := by decide +kernel
theorem dX3_year_17 : decode cX3_year 17 = .ok (.bipush 12, 2) := by decide +kernel
theorem dX3_year_19 : decode cX3_year 19 = .ok (.if_icmp .ge 26, 3) := by decide +kernel
theorem dX3_year_22 : decode cX3_year 22 = .ok (.lload_n 3, 1) := by decide +kernel
theorem dX3_year_23 : decode cX3_year 23 = .ok (.aload_n 0, 1) := by decide +kernel
theorem dX3_year_24 : decode cX3_year 24 = .ok (.iload_n 1, 1) := by decide +kernel
theorem dX3_year_25 : decode cX3_year 25 = .ok (.iload_n 2, 1) := by decide +kernel
theorem dX3_year_26 : decode cX3_year 26 = .ok (.iload 5, 2) := by decide +kernel
theorem dX3_year_28 : decode cX3_year 28 = .ok (.bipush 6, 2) := by decide +kernel
theorem dX3_year_30 : decode cX3_year 30 = .ok (.invokevirtual 92, 3) := by decide +kernel
theorem dX3_year_33 : decode cX3_year 33 = .ok (.invokestatic 95, 3) := by decide +kernel
theorem dX3_year_36 : decode cX3_year 36 = .ok (.i2l, 1) := by decide +kernel
theorem dX3_year_37 : decode cX3_year 37 = .ok (.ladd, 1) := by decide +kernel
theorem dX3_year_38 : decode cX3_year 38 = .ok (.lstore_n 3, 1) := by decide +kernel
theorem dX3_year_39 : decode cX3_year 39 = .ok (.iinc 5 1, 3) := by decide +kernel
theorem dX3_year_42 : decode cX3_year 42 = .ok (.goto (-27), 3) := by decide +kernel
theorem dX3_year_45 : decode cX3_year 45 = .ok (.lload_n 3, 1) := by decide +kernel
theorem dX3_year_46 : decode cX3_year 46 = .ok (.lreturn, 1) := by decide +kernel
set_option maxRecDepth 20000 in
theorem ggX3_effect_X3_requireScenario : GoodIn wsX3_effect wsX3_requireScenario := goodIn_ca (goodIn_r _ [5, 6, 7, 8, 77, 78, 79, 80, 81, 82, 83, 84, 85, 86, 87, 88] (by decide +kernel) (by decide +kernel)) (goodIn_sub (fun _ h => List.mem_cons_of_mem _ (List.mem_append_left _ (List.mem_append_left _ (List.mem_append_right _ h)))) (by decide +kernel))
set_option maxRecDepth 20000 in
theorem gX3_effect_X3_requireScenario : GoodIn wsX3_effect (wsV RX3 55 RX3 yX3_requireScenario wsX3_requireScenario) := goodIn_app (goodIn_of _ (by decide +kernel)) ggX3_effect_X3_requireScenario
set_option maxRecDepth 20000 in
theorem ggX3_effect_X3_requireDriver : GoodIn wsX3_effect wsX3_requireDriver := goodIn_ca (goodIn_r _ [12, 6, 7, 13, 77, 78, 79, 80, 81, 82, 83] (by decide +kernel) (by decide +kernel)) (goodIn_sub (fun _ h => List.mem_cons_of_mem _ (List.mem_append_left _ (List.mem_append_left _ (List.mem_append_right _ h)))) (by decide +kernel))
set_option maxRecDepth 20000 in
theorem gX3_effect_X3_requireDriver : GoodIn wsX3_effect (wsV RX3 48 RX3 yX3_requireDriver wsX3_requireDriver) := goodIn_app (goodIn_of _ (by decide +kernel)) ggX3_effect_X3_requireDriver
set_option maxRecDepth 20000 in
theorem ggX3_effect_X3_requireLine : GoodIn wsX3_effect wsX3_requireLine := goodIn_ca (goodIn_r _ [17, 6, 7, 18, 77, 78, 79, 80, 81, 82, 83, 89, 90, 91, 92, 93, 94, 95] (by decide +kernel) (by decide +kernel)) (goodIn_sub (fun _ h => List.mem_cons_of_mem _ (List.mem_append_left _ (List.mem_append_left _ (List.mem_append_right _ h)))) (by decide +kernel))
set_option maxRecDepth 20000 in
theorem gX3_effect_X3_requireLine : GoodIn wsX3_effect (wsV RX3 68 RX3 yX3_requireLine wsX3_requireLine) := goodIn_app (goodIn_of _ (by decide +kernel)) ggX3_effect_X3_requireLine
set_option maxRecDepth 20000 in
theorem ggX3_effect_X3_requireMonth : GoodIn wsX3_effect wsX3_requireMonth := goodIn_ca (goodIn_r _ [21, 6, 7] (by decide +kernel) (by decide +kernel)) (goodIn_sub (fun _ h => List.mem_cons_of_mem _ (List.mem_append_left _ (List.mem_append_left _ (List.mem_append_right _ h)))) (by decide +kernel))
set_option maxRecDepth 20000 in
theorem gX3_effect_X3_requireMonth : GoodIn wsX3_effect (va_wsS RX3 58 yX3_requireMonth wsX3_requireMonth) := goodIn_app (goodIn_of _ (by decide +kernel)) ggX3_effect_X3_requireMonth
set_option maxRecDepth 20000 in
theorem ggX3_effect_X3_numberIn : GoodIn wsX3_effect wsX3_numberIn := goodIn_ca (goodIn_r _ [25, 18, 26, 27, 28, 29, 4, 30, 13, 31, 32, 33, 34, 35, 8, 36, 37, 38, 39, 40, 41, 42, 43, 44, 45, 46, 47, 48, 49, 50, 51, 52, 53, 54, 55, 56, 57, 58, 59, 60, 61, 62, 63, 64, 65, 66, 67, 68, 69, 70, 77, 78, 79, 80, 81, 82, 83, 84, 85, 86, 87, 88, 89, 90, 91, 92, 93, 94, 95] (by decide +kernel) (by decide +kernel)) (goodIn_sub (fun _ h => List.mem_cons_of_mem _ (List.mem_append_left _ (List.mem_append_right _ h))) (by decide +kernel))
set_option maxRecDepth 20000 in
theorem gX3_effect_X3_numberIn : GoodIn wsX3_effect (wsV RX3 92 RX3 yX3_numberIn wsX3_numberIn) := goodIn_app (goodIn_of _ (by decide +kernel)) ggX3_effect_X3_numberIn
set_option maxRecDepth 20000 in
theorem ggX3_effect_X3_required : GoodIn wsX3_effect wsX3_required := goodIn_ca (goodIn_r _ [73, 74, 75, 76] (by decide +kernel) (by decide +kernel)) (goodIn_sub (fun _ h => List.mem_cons_of_mem _ (List.mem_append_right _ h)) (by decide +kernel))
set_option maxRecDepth 20000 in
theorem gX3_effect_X3_required : GoodIn wsX3_effect (va_wsS RX3 95 yX3_required wsX3_required) := goodIn_app (goodIn_of _ (by decide +kernel)) ggX3_effect_X3_required
theorem dX3_effect_0 : decode cX3_effect 0 = .ok (.aload_n 0, 1) := by decide +kernel
theorem dX3_effect_1 : decode cX3_effect 1 = .ok (.iload_n 1, 1) := by decide +kernel
theorem dX3_effect_2 : decode cX3_effect 2 = .ok (.invokevirtual 55, 3) := by decide +kernel
theorem dX3_effect_5 : decode cX3_effect 5 = .ok (.aload_n 0, 1) := by decide +kernel
theorem dX3_effect_6 : decode cX3_effect 6 = .ok (.iload_n 2, 1) := by decide +kernel
theorem dX3_effect_7 : decode cX3_effect 7 = .ok (.invokevirtual 48, 3) := by decide +kernel
theorem dX3_effect_10 : decode cX3_effect 10 = .ok (.aload_n 0, 1) := by decide +kernel
theorem dX3_effect_11 : decode cX3_effect 11 = .ok (.iload_n 3, 1) := by decide +kernel
theorem dX3_effect_12 : decode cX3_effect 12 = .ok (.invokevirtual 68, 3) := by decide +kernel
theorem dX3_effect_15 : decode cX3_effect 15 = .ok (.iload 4, 2) := by decide +kernel
theorem dX3_effect_17 : decode cX3_effect 17 = .ok (.invokestatic 58, 3) := by decide +kernel
theorem dX3_effect_20 : decode cX3_effect 20 = .ok (.aload_n 0, 1) := by decide +kernel
theorem dX3_effect_21 : decode cX3_effect 21 = .ok (.iload_n 1, 1) := by decide +kernel
theorem dX3_effect_22 : decode cX3_effect 22 = .ok (.iload_n 3, 1) := by decide +kernel
theorem dX3_effect_23 : decode cX3_effect 23 = .ok (.iload 4, 2) := by decide +kernel
theorem dX3_effect_25 : decode cX3_effect 25 = .ok (.iload_n 2, 1) := by decide +kernel
theorem dX3_effect_26 : decode cX3_effect 26 = .ok (.iconst 1, 1) := by decide +kernel
theorem dX3_effect_27 : decode cX3_effect 27 = .ok (.iadd, 1) := by decide +kernel
theorem dX3_effect_28 : decode cX3_effect 28 = .ok (.invokevirtual 92, 3) := by decide +kernel
theorem dX3_effect_31 : decode cX3_effect 31 = .ok (.invokestatic 95, 3) := by decide +kernel
theorem dX3_effect_34 : decode cX3_effect 34 = .ok (.istore 5, 2) := by decide +kernel
theorem dX3_effect_36 : decode cX3_effect 36 = .ok (.aload_n 0, 1) := by decide +kernel
theorem dX3_effect_37 : decode cX3_effect 37 = .ok (.iload_n 1, 1) := by decide +kernel
theorem dX3_effect_38 : decode cX3_effect 38 = .ok (.iload_n 3, 1) := by decide +kernel
theorem dX3_effect_39 : decode cX3_effect 39 = .ok (.iload 4, 2) := by decide +kernel
theorem dX3_effect_41 : decode cX3_effect 41 = .ok (.iload_n 2, 1) := by decide +kernel
theorem dX3_effect_42 : decode cX3_effect 42 = .ok (.invokevirtual 92, 3) := by decide +kernel
theorem dX3_effect_45 : decode cX3_effect 45 = .ok (.invokestatic 95, 3) := by decide +kernel
theorem dX3_effect_48 : decode cX3_effect 48 = .ok (.istore 6, 2) := by decide +kernel
theorem dX3_effect_50 : decode cX3_effect 50 = .ok (.iload 5, 2) := by decide +kernel
theorem dX3_effect_52 : decode cX3_effect 52 = .ok (.iload 6, 2) := by decide +kernel
theorem dX3_effect_54 : decode cX3_effect 54 = .ok (.isub, 1) := by decide +kernel
theorem dX3_effect_55 : decode cX3_effect 55 = .ok (.ireturn, 1) := by decide +kernel
set_option maxRecDepth 20000 in
theorem ggX3_seek_X3_requireDriver : GoodIn wsX3_seek wsX3_requireDriver := goodIn_ca (goodIn_r _ [10, 11, 12, 13, 66, 67, 68, 69, 70, 71, 72] (by decide +kernel) (by decide +kernel)) (goodIn_sub (fun _ h => List.mem_cons_of_mem _ (List.mem_append_right _ h)) (by decide +kernel))
set_option maxRecDepth 20000 in
theorem gX3_seek_X3_requireDriver : GoodIn wsX3_seek (wsV RX3 48 RX3 yX3_requireDriver wsX3_requireDriver) := goodIn_app (goodIn_of _ (by decide +kernel)) ggX3_seek_X3_requireDriver
set_option maxRecDepth 20000 in
theorem ggX3_seek_X3_requireLine : GoodIn wsX3_seek wsX3_requireLine := goodIn_ca (goodIn_r _ [17, 11, 12, 3, 66, 67, 68, 69, 70, 71, 72, 73, 74, 75, 76, 77, 78, 79] (by decide +kernel) (by decide +kernel)) (goodIn_sub (fun _ h => List.mem_cons_of_mem _ (List.mem_append_right _ h)) (by decide +kernel))
set_option maxRecDepth 20000 in
theorem gX3_seek_X3_requireLine : GoodIn wsX3_seek (wsV RX3 68 RX3 yX3_requireLine wsX3_requireLine) := goodIn_app (goodIn_of _ (by decide +kernel)) ggX3_seek_X3_requireLine
set_option maxRecDepth 20000 in
theorem ggX3_seek_X3_requireMonth : GoodIn wsX3_seek wsX3_requireMonth := goodIn_ca (goodIn_r _ [20, 11, 12] (by decide +kernel) (by decide +kernel)) (goodIn_sub (fun _ h => List.mem_cons_of_mem _ (List.mem_append_right _ h)) (by decide +kernel))
set_option maxRecDepth 20000 in
theorem gX3_seek_X3_requireMonth : GoodIn wsX3_seek (va_wsS RX3 58 yX3_requireMonth wsX3_requireMonth) := goodIn_app (goodIn_of _ (by decide +kernel)) ggX3_seek_X3_requireMonth
set_option maxRecDepth 20000 in
theorem ggX3_seek_X3_fillInputs : GoodIn wsX3_seek wsX3_fillInputs := goodIn_ca (goodIn_r _ [24, 13, 4, 25, 26, 27, 28, 9, 29, 30, 31, 32, 33, 34, 35, 36, 37, 38, 39, 66, 67, 68, 69, 70, 71, 72, 80, 81, 82, 83, 84] (by decide +kernel) (by decide +kernel)) (goodIn_sub (fun _ h => List.mem_cons_of_mem _ (List.mem_append_left _ (List.mem_append_left _ (List.mem_append_right _ h)))) (by decide +kernel))
set_option maxRecDepth 20000 in
theorem gX3_seek_X3_fillInputs : GoodIn wsX3_seek (wsV RX3 98 RX3 yX3_fillInputs wsX3_fillInputs) := goodIn_app (goodIn_of _ (by decide +kernel)) ggX3_seek_X3_fillInputs
set_option maxRecDepth 20000 in
theorem ggX3_seek_X1_markNeeded : GoodIn wsX3_seek wsX1_markNeeded := goodIn_ca (goodIn_r _ [43, 44, 45, 46, 47, 48, 49, 50, 9, 51, 73, 74, 75, 76, 77, 78, 79] (by decide +kernel) (by decide +kernel)) (goodIn_sub (fun _ h => List.mem_cons_of_mem _ (List.mem_append_left _ (List.mem_append_left _ (List.mem_append_right _ h)))) (by decide +kernel))
set_option maxRecDepth 20000 in
theorem gX3_seek_X1_markNeeded_n109 : GoodIn wsX3_seek (wsX1_markNeeded) := ggX3_seek_X1_markNeeded
set_option maxRecDepth 20000 in
theorem ggX3_seek_X1_findNeeded : GoodIn wsX3_seek wsX1_findNeeded := goodIn_ca (goodIn_r _ [54, 44, 55, 56, 57, 58, 41, 59, 46, 47, 45, 48, 49, 50, 9, 51, 60, 61, 62, 63, 64, 65, 73, 74, 75, 76, 77, 78, 79] (by decide +kernel) (by decide +kernel)) (goodIn_sub (fun _ h => List.mem_cons_of_mem _ (List.mem_append_left _ (List.mem_append_left _ (List.mem_append_right _ h)))) (by decide +kernel))
set_option maxRecDepth 20000 in
theorem gX3_seek_X1_findNeeded_n113 : GoodIn wsX3_seek (wsX1_findNeeded) := ggX3_seek_X1_findNeeded
theorem dX3_seek_0 : decode cX3_seek 0 = .ok (.aload_n 0, 1) := by decide +kernel
theorem dX3_seek_1 : decode cX3_seek 1 = .ok (.iload_n 1, 1) := by decide +kernel
theorem dX3_seek_2 : decode cX3_seek 2 = .ok (.invokevirtual 48, 3) := by decide +kernel
theorem dX3_seek_5 : decode cX3_seek 5 = .ok (.aload_n 0, 1) := by decide +kernel
theorem dX3_seek_6 : decode cX3_seek 6 = .ok (.iload_n 2, 1) := by decide +kernel
theorem dX3_seek_7 : decode cX3_seek 7 = .ok (.invokevirtual 68, 3) := by decide +kernel
theorem dX3_seek_10 : decode cX3_seek 10 = .ok (.iload_n 3, 1) := by decide +kernel
theorem dX3_seek_11 : decode cX3_seek 11 = .ok (.invokestatic 58, 3) := by decide +kernel
theorem dX3_seek_14 : decode cX3_seek 14 = .ok (.aload_n 0, 1) := by decide +kernel
theorem dX3_seek_15 : decode cX3_seek 15 = .ok (.iconst 0, 1) := by decide +kernel
theorem dX3_seek_16 : decode cX3_seek 16 = .ok (.iload_n 3, 1) := by decide +kernel
theorem dX3_seek_17 : decode cX3_seek 17 = .ok (.bipush 6, 2) := by decide +kernel
theorem dX3_seek_19 : decode cX3_seek 19 = .ok (.invokevirtual 98, 3) := by decide +kernel
theorem dX3_seek_22 : decode cX3_seek 22 = .ok (.aload_n 0, 1) := by decide +kernel
theorem dX3_seek_23 : decode cX3_seek 23 = .ok (.getfield 23, 3) := by decide +kernel
theorem dX3_seek_26 : decode cX3_seek 26 = .ok (.iload_n 2, 1) := by decide +kernel
theorem dX3_seek_27 : decode cX3_seek 27 = .ok (.iload_n 3, 1) := by decide +kernel
theorem dX3_seek_28 : decode cX3_seek 28 = .ok (.invokevirtual 109, 3) := by decide +kernel
theorem dX3_seek_31 : decode cX3_seek 31 = .ok (.iconst 0, 1) := by decide +kernel
theorem dX3_seek_32 : decode cX3_seek 32 = .ok (.istore 5, 2) := by decide +kernel
theorem dX3_seek_34 : decode cX3_seek 34 = .ok (.iload 5, 2) := by decide +kernel
theorem dX3_seek_36 : decode cX3_seek 36 = .ok (.sipush 999, 3) := by decide +kernel
theorem dX3_seek_39 : decode cX3_seek 39 = .ok (.if_icmp .gt 49, 3) := by decide +kernel
theorem dX3_seek_42 : decode cX3_seek 42 = .ok (.aload_n 0, 1) := by decide +kernel
theorem dX3_seek_43 : decode cX3_seek 43 = .ok (.getfield 34, 3) := by decide +kernel
theorem dX3_seek_46 : decode cX3_seek 46 = .ok (.iload_n 1, 1) := by decide +kernel
theorem dX3_seek_47 : decode cX3_seek 47 = .ok (.iload 5, 2) := by decide +kernel
theorem dX3_seek_49 : decode cX3_seek 49 = .ok (.iastore, 1) := by decide +kernel
theorem dX3_seek_50 : decode cX3_seek 50 = .ok (.aload_n 0, 1) := by decide +kernel
theorem dX3_seek_51 : decode cX3_seek 51 = .ok (.getfield 23, 3) := by decide +kernel
theorem dX3_seek_54 : decode cX3_seek 54 = .ok (.iload_n 2, 1) := by decide +kernel
theorem dX3_seek_55 : decode cX3_seek 55 = .ok (.iload_n 3, 1) := by decide +kernel
theorem dX3_seek_56 : decode cX3_seek 56 = .ok (.aload_n 0, 1) := by decide +kernel
theorem dX3_seek_57 : decode cX3_seek 57 = .ok (.getfield 34, 3) := by decide +kernel
theorem dX3_seek_60 : decode cX3_seek 60 = .ok (.invokevirtual 113, 3) := by decide +kernel
theorem dX3_seek_63 : decode cX3_seek 63 = .ok (.istore 6, 2) := by decide +kernel
theorem dX3_seek_65 : decode cX3_seek 65 = .ok (.iload 6, 2) := by decide +kernel
theorem dX3_seek_67 : decode cX3_seek 67 = .ok (.ldc 117, 2) := by decide +kernel
theorem dX3_seek_69 : decode cX3_seek 69 = .ok (.if_icmp .eq 13, 3) := by decide +kernel
theorem dX3_seek_72 : decode cX3_seek 72 = .ok (.iload 6, 2) := by decide +kernel
theorem dX3_seek_74 : decode cX3_seek 74 = .ok (.iload 4, 2) := by decide +kernel
theorem dX3_seek_76 : decode cX3_seek 76 = .ok (.if_icmp .lt 6, 3) := by decide +kernel
theorem dX3_seek_79 : decode cX3_seek 79 = .ok (.iload 5, 2) := by decide +kernel
theorem dX3_seek_81 : decode cX3_seek 81 = .ok (.ireturn, 1) := by decide +kernel
theorem dX3_seek_82 : decode cX3_seek 82 = .ok (.iinc 5 1, 3) := by decide +kernel
theorem dX3_seek_85 : decode cX3_seek 85 = .ok (.goto (-51), 3) := by decide +kernel
theorem dX3_seek_88 : decode cX3_seek 88 = .ok (.new 118, 3) := by decide +kernel
theorem dX3_seek_91 : decode cX3_seek 91 = .ok (.dup, 1) := by decide +kernel
theorem dX3_seek_92 : decode cX3_seek 92 = .ok (.invokespecial 120, 3) := by decide +kernel
theorem dX3_seek_95 : decode cX3_seek 95 = .ok (.athrow, 1) := by decide +kernel
set_option maxRecDepth 20000 in
theorem ggX3_actual_X3_requireLine : GoodIn wsX3_actual wsX3_requireLine := goodIn_ca (goodIn_r _ [11, 12, 13, 6, 83, 84, 85, 86, 87, 88, 89, 90, 91, 92, 93, 94, 95, 96] (by decide +kernel) (by decide +kernel)) (goodIn_sub (fun _ h => List.mem_cons_of_mem _ (List.mem_append_right _ h)) (by decide +kernel))
set_option maxRecDepth 20000 in
theorem gX3_actual_X3_requireLine : GoodIn wsX3_actual (wsV RX3 68 RX3 yX3_requireLine wsX3_requireLine) := goodIn_app (goodIn_of _ (by decide +kernel)) ggX3_actual_X3_requireLine
set_option maxRecDepth 20000 in
theorem ggX3_actual_X3_requireMonth : GoodIn wsX3_actual wsX3_requireMonth := goodIn_ca (goodIn_r _ [16, 12, 13] (by decide +kernel) (by decide +kernel)) (goodIn_sub (fun _ h => List.mem_cons_of_mem _ (List.mem_append_right _ h)) (by decide +kernel))
set_option maxRecDepth 20000 in
theorem gX3_actual_X3_requireMonth : GoodIn wsX3_actual (va_wsS RX3 58 yX3_requireMonth wsX3_requireMonth) := goodIn_app (goodIn_of _ (by decide +kernel)) ggX3_actual_X3_requireMonth
set_option maxRecDepth 20000 in
theorem ggX3_actual_X3_cell : GoodIn wsX3_actual wsX3_cell := goodIn_r _ [19] (by decide +kernel) (by decide +kernel)
set_option maxRecDepth 20000 in
theorem gX3_actual_X3_cell : GoodIn wsX3_actual (va_wsS RX3 129 yX3_cell wsX3_cell) := goodIn_app (goodIn_of _ (by decide +kernel)) ggX3_actual_X3_cell
set_option maxRecDepth 20000 in
theorem ggX3_actual_X3_reopenDrifted : GoodIn wsX3_actual wsX3_reopenDrifted := goodIn_ca (goodIn_r _ [23, 6, 24, 25, 26, 27, 28, 10, 29, 30, 31, 32, 33, 34, 35, 36, 37, 38, 39, 40, 41, 42, 43, 44, 45, 46, 47, 48, 49, 50, 51, 52, 53, 54, 55, 56, 57, 58, 59, 60, 18, 19, 61, 62, 63, 64, 65, 66, 17, 67, 68, 69, 70, 71, 72, 73, 74, 75, 76, 77, 78, 79, 80, 81, 82, 83, 84, 85, 86, 87, 88, 89, 90, 91, 92, 93, 94, 95, 96, 97, 98, 99, 100, 101, 102, 103, 104] (by decide +kernel) (by decide +kernel)) (goodIn_sub (fun _ h => List.mem_cons_of_mem _ (List.mem_append_left _ (List.mem_append_right _ h))) (by decide +kernel))
set_option maxRecDepth 20000 in
theorem gX3_actual_X3_reopenDrifted : GoodIn wsX3_actual (wsV RX3 51 RX3 yX3_reopenDrifted wsX3_reopenDrifted) := goodIn_app (goodIn_of _ (by decide +kernel)) ggX3_actual_X3_reopenDrifted
theorem dX3_actual_0 : decode cX3_actual 0 = .ok (.aload_n 0, 1) := by decide +kernel
theorem dX3_actual_1 : decode cX3_actual 1 = .ok (.iload_n 1, 1) := by decide +kernel
theorem dX3_actual_2 : decode cX3_actual 2 = .ok (.invokevirtual 68, 3) := by decide +kernel
theorem dX3_actual_5 : decode cX3_actual 5 = .ok (.iload_n 2, 1) := by decide +kernel
theorem dX3_actual_6 : decode cX3_actual 6 = .ok (.invokestatic 58, 3) := by decide +kernel
theorem dX3_actual_9 : decode cX3_actual 9 = .ok (.iload_n 2, 1) := by decide +kernel
theorem dX3_actual_10 : decode cX3_actual 10 = .ok (.aload_n 0, 1) := by decide +kernel
theorem dX3_actual_11 : decode cX3_actual 11 = .ok (.getfield 121, 3) := by decide +kernel
theorem dX3_actual_14 : decode cX3_actual 14 = .ok (.if_icmp .gt 15, 3) := by decide +kernel
theorem dX3_actual_17 : decode cX3_actual 17 = .ok (.iload_n 3, 1) := by decide +kernel
theorem dX3_actual_18 : decode cX3_actual 18 = .ok (.ldc 124, 2) := by decide +kernel
theorem dX3_actual_20 : decode cX3_actual 20 = .ok (.if_icmp .lt 9, 3) := by decide +kernel
theorem dX3_actual_23 : decode cX3_actual 23 = .ok (.iload_n 3, 1) := by decide +kernel
theorem dX3_actual_24 : decode cX3_actual 24 = .ok (.ldc 125, 2) := by decide +kernel
theorem dX3_actual_26 : decode cX3_actual 26 = .ok (.if_icmp .le 11, 3) := by decide +kernel
theorem dX3_actual_29 : decode cX3_actual 29 = .ok (.new 65, 3) := by decide +kernel
theorem dX3_actual_32 : decode cX3_actual 32 = .ok (.dup, 1) := by decide +kernel
theorem dX3_actual_33 : decode cX3_actual 33 = .ok (.invokespecial 67, 3) := by decide +kernel
theorem dX3_actual_36 : decode cX3_actual 36 = .ok (.athrow, 1) := by decide +kernel
theorem dX3_actual_37 : decode cX3_actual 37 = .ok (.aload_n 0, 1) := by decide +kernel
theorem dX3_actual_38 : decode cX3_actual 38 = .ok (.getfield 23, 3) := by decide +kernel
theorem dX3_actual_41 : decode cX3_actual 41 = .ok (.getfield 126, 3) := by decide +kernel
theorem dX3_actual_44 : decode cX3_actual 44 = .ok (.iload_n 1, 1) := by decide +kernel
theorem dX3_actual_45 : decode cX3_actual 45 = .ok (.iload_n 2, 1) := by decide +kernel
theorem dX3_actual_46 : decode cX3_actual 46 = .ok (.invokestatic 129, 3) := by decide +kernel
theorem dX3_actual_49 : decode cX3_actual 49 = .ok (.iload_n 3, 1) := by decide +kernel
theorem dX3_actual_50 : decode cX3_actual 50 = .ok (.iastore, 1) := by decide +kernel
theorem dX3_actual_51 : decode cX3_actual 51 = .ok (.aload_n 0, 1) := by decide +kernel
theorem dX3_actual_52 : decode cX3_actual 52 = .ok (.invokevirtual 51, 3) := by decide +kernel
theorem dX3_actual_55 : decode cX3_actual 55 = .ok (.ireturn, 1) := by decide +kernel
set_option maxRecDepth 20000 in
theorem ggX3_takeActual_X3_requireLine : GoodIn wsX3_takeActual wsX3_requireLine := goodIn_ca (goodIn_r _ [9, 10, 11, 3, 81, 82, 83, 84, 85, 86, 87, 88, 89, 90, 91, 92, 93, 94] (by decide +kernel) (by decide +kernel)) (goodIn_sub (fun _ h => List.mem_cons_of_mem _ (List.mem_append_right _ h)) (by decide +kernel))
set_option maxRecDepth 20000 in
theorem gX3_takeActual_X3_requireLine : GoodIn wsX3_takeActual (wsV RX3 68 RX3 yX3_requireLine wsX3_requireLine) := goodIn_app (goodIn_of _ (by decide +kernel)) ggX3_takeActual_X3_requireLine
set_option maxRecDepth 20000 in
theorem ggX3_takeActual_X3_requireMonth : GoodIn wsX3_takeActual wsX3_requireMonth := goodIn_ca (goodIn_r _ [14, 10, 11] (by decide +kernel) (by decide +kernel)) (goodIn_sub (fun _ h => List.mem_cons_of_mem _ (List.mem_append_right _ h)) (by decide +kernel))
set_option maxRecDepth 20000 in
theorem gX3_takeActual_X3_requireMonth : GoodIn wsX3_takeActual (va_wsS RX3 58 yX3_requireMonth wsX3_requireMonth) := goodIn_app (goodIn_of _ (by decide +kernel)) ggX3_takeActual_X3_requireMonth
set_option maxRecDepth 20000 in
theorem ggX3_takeActual_X3_cell : GoodIn wsX3_takeActual wsX3_cell := goodIn_r _ [17] (by decide +kernel) (by decide +kernel)
set_option maxRecDepth 20000 in
theorem gX3_takeActual_X3_cell : GoodIn wsX3_takeActual (va_wsS RX3 129 yX3_cell wsX3_cell) := goodIn_app (goodIn_of _ (by decide +kernel)) ggX3_takeActual_X3_cell
set_option maxRecDepth 20000 in
theorem ggX3_takeActual_X3_reopenDrifted : GoodIn wsX3_takeActual wsX3_reopenDrifted := goodIn_ca (goodIn_r _ [21, 3, 22, 23, 24, 25, 26, 8, 27, 28, 29, 30, 31, 32, 33, 34, 35, 36, 37, 38, 39, 40, 41, 42, 43, 44, 45, 46, 47, 48, 49, 50, 51, 52, 53, 54, 55, 56, 57, 58, 16, 17, 59, 60, 61, 62, 63, 64, 15, 65, 66, 67, 68, 69, 70, 71, 72, 73, 74, 75, 76, 77, 78, 79, 80, 81, 82, 83, 84, 85, 86, 87, 88, 89, 90, 91, 92, 93, 94, 95, 96, 97, 98, 99, 100, 101, 102] (by decide +kernel) (by decide +kernel)) (goodIn_sub (fun _ h => List.mem_cons_of_mem _ (List.mem_append_left _ (List.mem_append_left _ (List.mem_append_right _ h)))) (by decide +kernel))
set_option maxRecDepth 20000 in
theorem gX3_takeActual_X3_reopenDrifted : GoodIn wsX3_takeActual (wsV RX3 51 RX3 yX3_reopenDrifted wsX3_reopenDrifted) := goodIn_app (goodIn_of _ (by decide +kernel)) ggX3_takeActual_X3_reopenDrifted
theorem dX3_takeActual_0 : decode cX3_takeActual 0 = .ok (.aload_n 0, 1) := by decide +kernel
theorem dX3_takeActual_1 : decode cX3_takeActual 1 = .ok (.iload_n 1, 1) := by decide +kernel
theorem dX3_takeActual_2 : decode cX3_takeActual 2 = .ok (.invokevirtual 68, 3) := by decide +kernel
theorem dX3_takeActual_5 : decode cX3_takeActual 5 = .ok (.iload_n 2, 1) := by decide +kernel
theorem dX3_takeActual_6 : decode cX3_takeActual 6 = .ok (.invokestatic 58, 3) := by decide +kernel
theorem dX3_takeActual_9 : decode cX3_takeActual 9 = .ok (.aload_n 0, 1) := by decide +kernel
theorem dX3_takeActual_10 : decode cX3_takeActual 10 = .ok (.getfield 23, 3) := by decide +kernel
theorem dX3_takeActual_13 : decode cX3_takeActual 13 = .ok (.getfield 126, 3) := by decide +kernel
theorem dX3_takeActual_16 : decode cX3_takeActual 16 = .ok (.iload_n 1, 1) := by decide +kernel
theorem dX3_takeActual_17 : decode cX3_takeActual 17 = .ok (.iload_n 2, 1) := by decide +kernel
theorem dX3_takeActual_18 : decode cX3_takeActual 18 = .ok (.invokestatic 129, 3) := by decide +kernel
theorem dX3_takeActual_21 : decode cX3_takeActual 21 = .ok (.iaload, 1) := by decide +kernel
theorem dX3_takeActual_22 : decode cX3_takeActual 22 = .ok (.ldc 117, 2) := by decide +kernel
theorem dX3_takeActual_24 : decode cX3_takeActual 24 = .ok (.if_icmp .ne 11, 3) := by decide +kernel
theorem dX3_takeActual_27 : decode cX3_takeActual 27 = .ok (.new 118, 3) := by decide +kernel
theorem dX3_takeActual_30 : decode cX3_takeActual 30 = .ok (.dup, 1) := by decide +kernel
theorem dX3_takeActual_31 : decode cX3_takeActual 31 = .ok (.invokespecial 120, 3) := by decide +kernel
theorem dX3_takeActual_34 : decode cX3_takeActual 34 = .ok (.athrow, 1) := by decide +kernel
theorem dX3_takeActual_35 : decode cX3_takeActual 35 = .ok (.aload_n 0, 1) := by decide +kernel
theorem dX3_takeActual_36 : decode cX3_takeActual 36 = .ok (.getfield 23, 3) := by decide +kernel
theorem dX3_takeActual_39 : decode cX3_takeActual 39 = .ok (.getfield 126, 3) := by decide +kernel
theorem dX3_takeActual_42 : decode cX3_takeActual 42 = .ok (.iload_n 1, 1) := by decide +kernel
theorem dX3_takeActual_43 : decode cX3_takeActual 43 = .ok (.iload_n 2, 1) := by decide +kernel
theorem dX3_takeActual_44 : decode cX3_takeActual 44 = .ok (.invokestatic 129, 3) := by decide +kernel
theorem dX3_takeActual_47 : decode cX3_takeActual 47 = .ok (.ldc 117, 2) := by decide +kernel
theorem dX3_takeActual_49 : decode cX3_takeActual 49 = .ok (.iastore, 1) := by decide +kernel
theorem dX3_takeActual_50 : decode cX3_takeActual 50 = .ok (.aload_n 0, 1) := by decide +kernel
theorem dX3_takeActual_51 : decode cX3_takeActual 51 = .ok (.invokevirtual 51, 3) := by decide +kernel
theorem dX3_takeActual_54 : decode cX3_takeActual 54 = .ok (.ireturn, 1) := by decide +kernel
theorem dX3_pass_0 : decode cX3_pass 0 = .ok (.aload_n 0, 1) := by decide +kernel
theorem dX3_pass_1 : decode cX3_pass 1 = .ok (.getfield 121, 3) := by decide +kernel
theorem dX3_pass_4 : decode cX3_pass 4 = .ok (.bipush 11, 2) := by decide +kernel
theorem dX3_pass_6 : decode cX3_pass 6 = .ok (.if_icmp .lt 11, 3) := by decide +kernel
theorem dX3_pass_9 : decode cX3_pass 9 = .ok (.new 45, 3) := by decide +kernel
theorem dX3_pass_12 : decode cX3_pass 12 = .ok (.dup, 1) := by decide +kernel
theorem dX3_pass_13 : decode cX3_pass 13 = .ok (.invokespecial 47, 3) := by decide +kernel
theorem dX3_pass_16 : decode cX3_pass 16 = .ok (.athrow, 1) := by decide +kernel
theorem dX3_pass_17 : decode cX3_pass 17 = .ok (.aload_n 0, 1) := by decide +kernel
theorem dX3_pass_18 : decode cX3_pass 18 = .ok (.dup, 1) := by decide +kernel
theorem dX3_pass_19 : decode cX3_pass 19 = .ok (.getfield 121, 3) := by decide +kernel
theorem dX3_pass_22 : decode cX3_pass 22 = .ok (.iconst 1, 1) := by decide +kernel
theorem dX3_pass_23 : decode cX3_pass 23 = .ok (.iadd, 1) := by decide +kernel
theorem dX3_pass_24 : decode cX3_pass 24 = .ok (.putfield 121, 3) := by decide +kernel
theorem dX3_pass_27 : decode cX3_pass 27 = .ok (.aload_n 0, 1) := by decide +kernel
theorem dX3_pass_28 : decode cX3_pass 28 = .ok (.getfield 121, 3) := by decide +kernel
theorem dX3_pass_31 : decode cX3_pass 31 = .ok (.ireturn, 1) := by decide +kernel
theorem dX3_month_0 : decode cX3_month 0 = .ok (.aload_n 0, 1) := by decide +kernel
theorem dX3_month_1 : decode cX3_month 1 = .ok (.getfield 121, 3) := by decide +kernel
theorem dX3_month_4 : decode cX3_month 4 = .ok (.ireturn, 1) := by decide +kernel
set_option maxRecDepth 20000 in
theorem ggX3_approve_X3_requireLine : GoodIn wsX3_approve wsX3_requireLine := goodIn_ca (goodIn_r _ [8, 9, 10, 11, 80, 81, 82, 83, 84, 85, 86, 87, 88, 89, 90, 91, 92, 93] (by decide +kernel) (by decide +kernel)) (goodIn_sub (fun _ h => List.mem_cons_of_mem _ (List.mem_append_left _ (List.mem_append_left _ (List.mem_append_right _ h)))) (by decide +kernel))
set_option maxRecDepth 20000 in
theorem gX3_approve_X3_requireLine : GoodIn wsX3_approve (wsV RX3 68 RX3 yX3_requireLine wsX3_requireLine) := goodIn_app (goodIn_of _ (by decide +kernel)) ggX3_approve_X3_requireLine
set_option maxRecDepth 20000 in
theorem ggX3_approve_X3_requireMonth : GoodIn wsX3_approve wsX3_requireMonth := goodIn_ca (goodIn_r _ [14, 9, 10] (by decide +kernel) (by decide +kernel)) (goodIn_sub (fun _ h => List.mem_cons_of_mem _ (List.mem_append_left _ (List.mem_append_left _ (List.mem_append_right _ h)))) (by decide +kernel))
set_option maxRecDepth 20000 in
theorem gX3_approve_X3_requireMonth : GoodIn wsX3_approve (va_wsS RX3 58 yX3_requireMonth wsX3_requireMonth) := goodIn_app (goodIn_of _ (by decide +kernel)) ggX3_approve_X3_requireMonth
set_option maxRecDepth 20000 in
theorem ggX3_approve_X3_numberIn : GoodIn wsX3_approve wsX3_numberIn := goodIn_ca (goodIn_r _ [18, 11, 19, 20, 21, 22, 7, 23, 24, 25, 26, 27, 28, 29, 30, 31, 32, 33, 34, 35, 36, 37, 38, 39, 40, 41, 42, 43, 44, 45, 46, 47, 48, 49, 50, 51, 52, 53, 54, 55, 56, 57, 58, 59, 60, 61, 62, 63, 64, 65, 80, 81, 82, 83, 84, 85, 86, 94, 95, 96, 97, 98, 87, 88, 89, 90, 91, 92, 93] (by decide +kernel) (by decide +kernel)) (goodIn_sub (fun _ h => List.mem_cons_of_mem _ (List.mem_append_left _ (List.mem_append_right _ h))) (by decide +kernel))
set_option maxRecDepth 20000 in
theorem gX3_approve_X3_numberIn : GoodIn wsX3_approve (wsV RX3 92 RX3 yX3_numberIn wsX3_numberIn) := goodIn_app (goodIn_of _ (by decide +kernel)) ggX3_approve_X3_numberIn
set_option maxRecDepth 20000 in
theorem ggX3_approve_X3_required : GoodIn wsX3_approve wsX3_required := goodIn_ca (goodIn_r _ [68, 69, 70, 71] (by decide +kernel) (by decide +kernel)) (goodIn_sub (fun _ h => List.mem_cons_of_mem _ (List.mem_append_right _ h)) (by decide +kernel))
set_option maxRecDepth 20000 in
theorem gX3_approve_X3_required : GoodIn wsX3_approve (va_wsS RX3 95 yX3_required wsX3_required) := goodIn_app (goodIn_of _ (by decide +kernel)) ggX3_approve_X3_required
set_option maxRecDepth 20000 in
theorem ggX3_approve_X3_cell : GoodIn wsX3_approve wsX3_cell := goodIn_r _ [51] (by decide +kernel) (by decide +kernel)
set_option maxRecDepth 20000 in
theorem gX3_approve_X3_cell : GoodIn wsX3_approve (va_wsS RX3 129 yX3_cell wsX3_cell) := goodIn_app (goodIn_of _ (by decide +kernel)) ggX3_approve_X3_cell
set_option maxRecDepth 20000 in
theorem ggX3_approve_X0_keep : GoodIn wsX3_approve wsX0_keep := goodIn_ca (goodIn_r _ [76, 77, 78, 79, 99, 100, 101] (by decide +kernel) (by decide +kernel)) (goodIn_sub (fun _ h => List.mem_cons_of_mem _ (List.mem_append_left _ (List.mem_append_right _ h))) (by decide +kernel))
set_option maxRecDepth 20000 in
theorem gX3_approve_X0_keep_n133 : GoodIn wsX3_approve (wsX0_keep) := ggX3_approve_X0_keep
theorem dX3_approve_0 : decode cX3_approve 0 = .ok (.aload_n 0, 1) := by decide +kernel
theorem dX3_approve_1 : decode cX3_approve 1 = .ok (.iload_n 1, 1) := by decide +kernel
theorem dX3_approve_2 : decode cX3_approve 2 = .ok (.invokevirtual 68, 3) := by decide +kernel
theorem dX3_approve_5 : decode cX3_approve 5 = .ok (.iload_n 2, 1) := by decide +kernel
theorem dX3_approve_6 : decode cX3_approve 6 = .ok (.invokestatic 58, 3) := by decide +kernel
theorem dX3_approve_9 : decode cX3_approve 9 = .ok (.iload_n 3, 1) := by decide +kernel
theorem dX3_approve_10 : decode cX3_approve 10 = .ok (.ifCond .lt 10, 3) := by decide +kernel
theorem dX3_approve_13 : decode cX3_approve 13 = .ok (.iload_n 3, 1) := by decide +kernel
theorem dX3_approve_14 : decode cX3_approve 14 = .ok (.sipush 9999, 3) := by decide +kernel
theorem dX3_approve_17 : decode cX3_approve 17 = .ok (.if_icmp .le 11, 3) := by decide +kernel
theorem dX3_approve_20 : decode cX3_approve 20 = .ok (.new 65, 3) := by decide +kernel
theorem dX3_approve_23 : decode cX3_approve 23 = .ok (.dup, 1) := by decide +kernel
theorem dX3_approve_24 : decode cX3_approve 24 = .ok (.invokespecial 67, 3) := by decide +kernel
theorem dX3_approve_27 : decode cX3_approve 27 = .ok (.athrow, 1) := by decide +kernel
theorem dX3_approve_28 : decode cX3_approve 28 = .ok (.aload_n 0, 1) := by decide +kernel
theorem dX3_approve_29 : decode cX3_approve 29 = .ok (.iconst 0, 1) := by decide +kernel
theorem dX3_approve_30 : decode cX3_approve 30 = .ok (.iload_n 1, 1) := by decide +kernel
theorem dX3_approve_31 : decode cX3_approve 31 = .ok (.iload_n 2, 1) := by decide +kernel
theorem dX3_approve_32 : decode cX3_approve 32 = .ok (.bipush 6, 2) := by decide +kernel
theorem dX3_approve_34 : decode cX3_approve 34 = .ok (.invokevirtual 92, 3) := by decide +kernel
theorem dX3_approve_37 : decode cX3_approve 37 = .ok (.invokestatic 95, 3) := by decide +kernel
theorem dX3_approve_40 : decode cX3_approve 40 = .ok (.istore 4, 2) := by decide +kernel
theorem dX3_approve_42 : decode cX3_approve 42 = .ok (.aload_n 0, 1) := by decide +kernel
theorem dX3_approve_43 : decode cX3_approve 43 = .ok (.getfield 30, 3) := by decide +kernel
theorem dX3_approve_46 : decode cX3_approve 46 = .ok (.iload_n 1, 1) := by decide +kernel
theorem dX3_approve_47 : decode cX3_approve 47 = .ok (.iload_n 2, 1) := by decide +kernel
theorem dX3_approve_48 : decode cX3_approve 48 = .ok (.invokestatic 129, 3) := by decide +kernel
theorem dX3_approve_51 : decode cX3_approve 51 = .ok (.iload 4, 2) := by decide +kernel
theorem dX3_approve_53 : decode cX3_approve 53 = .ok (.iload_n 3, 1) := by decide +kernel
theorem dX3_approve_54 : decode cX3_approve 54 = .ok (.invokevirtual 133, 3) := by decide +kernel
theorem dX3_approve_57 : decode cX3_approve 57 = .ok (.iload 4, 2) := by decide +kernel
theorem dX3_approve_59 : decode cX3_approve 59 = .ok (.ireturn, 1) := by decide +kernel
set_option maxRecDepth 20000 in
theorem ggX3_state_X3_requireLine : GoodIn wsX3_state wsX3_requireLine := goodIn_ca (goodIn_r _ [6, 7, 8, 9, 16, 17, 18, 19, 20, 21, 22, 26, 27, 28, 29, 30, 31, 32] (by decide +kernel) (by decide +kernel)) (goodIn_sub (fun _ h => List.mem_cons_of_mem _ (List.mem_append_right _ h)) (by decide +kernel))
set_option maxRecDepth 20000 in
theorem gX3_state_X3_requireLine : GoodIn wsX3_state (wsV RX3 68 RX3 yX3_requireLine wsX3_requireLine) := goodIn_app (goodIn_of _ (by decide +kernel)) ggX3_state_X3_requireLine
set_option maxRecDepth 20000 in
theorem ggX3_state_X3_requireMonth : GoodIn wsX3_state wsX3_requireMonth := goodIn_ca (goodIn_r _ [12, 7, 8] (by decide +kernel) (by decide +kernel)) (goodIn_sub (fun _ h => List.mem_cons_of_mem _ (List.mem_append_right _ h)) (by decide +kernel))
set_option maxRecDepth 20000 in
theorem gX3_state_X3_requireMonth : GoodIn wsX3_state (va_wsS RX3 58 yX3_requireMonth wsX3_requireMonth) := goodIn_app (goodIn_of _ (by decide +kernel)) ggX3_state_X3_requireMonth
set_option maxRecDepth 20000 in
theorem ggX3_state_X3_cell : GoodIn wsX3_state wsX3_cell := goodIn_r _ [15] (by decide +kernel) (by decide +kernel)
set_option maxRecDepth 20000 in
theorem gX3_state_X3_cell : GoodIn wsX3_state (va_wsS RX3 129 yX3_cell wsX3_cell) := goodIn_app (goodIn_of _ (by decide +kernel)) ggX3_state_X3_cell
theorem dX3_state_0 : decode cX3_state 0 = .ok (.aload_n 0, 1) := by decide +kernel
theorem dX3_state_1 : decode cX3_state 1 = .ok (.iload_n 1, 1) := by decide +kernel
theorem dX3_state_2 : decode cX3_state 2 = .ok (.invokevirtual 68, 3) := by decide +kernel
theorem dX3_state_5 : decode cX3_state 5 = .ok (.iload_n 2, 1) := by decide +kernel
theorem dX3_state_6 : decode cX3_state 6 = .ok (.invokestatic 58, 3) := by decide +kernel
theorem dX3_state_9 : decode cX3_state 9 = .ok (.aload_n 0, 1) := by decide +kernel
theorem dX3_state_10 : decode cX3_state 10 = .ok (.getfield 30, 3) := by decide +kernel
theorem dX3_state_13 : decode cX3_state 13 = .ok (.getfield 136, 3) := by decide +kernel
theorem dX3_state_16 : decode cX3_state 16 = .ok (.iload_n 1, 1) := by decide +kernel
theorem dX3_state_17 : decode cX3_state 17 = .ok (.iload_n 2, 1) := by decide +kernel
theorem dX3_state_18 : decode cX3_state 18 = .ok (.invokestatic 129, 3) := by decide +kernel
theorem dX3_state_21 : decode cX3_state 21 = .ok (.caload, 1) := by decide +kernel
theorem dX3_state_22 : decode cX3_state 22 = .ok (.ireturn, 1) := by decide +kernel
set_option maxRecDepth 20000 in
theorem ggX3_drift_X3_requireLine : GoodIn wsX3_drift wsX3_requireLine := goodIn_ca (goodIn_r _ [8, 9, 10, 11, 73, 74, 75, 76, 77, 78, 79, 83, 84, 85, 86, 87, 88, 89] (by decide +kernel) (by decide +kernel)) (goodIn_sub (fun _ h => List.mem_cons_of_mem _ (List.mem_append_left _ (List.mem_append_right _ h))) (by decide +kernel))
set_option maxRecDepth 20000 in
theorem gX3_drift_X3_requireLine : GoodIn wsX3_drift (wsV RX3 68 RX3 yX3_requireLine wsX3_requireLine) := goodIn_app (goodIn_of _ (by decide +kernel)) ggX3_drift_X3_requireLine
set_option maxRecDepth 20000 in
theorem ggX3_drift_X3_requireMonth : GoodIn wsX3_drift wsX3_requireMonth := goodIn_ca (goodIn_r _ [14, 9, 10] (by decide +kernel) (by decide +kernel)) (goodIn_sub (fun _ h => List.mem_cons_of_mem _ (List.mem_append_left _ (List.mem_append_right _ h))) (by decide +kernel))
set_option maxRecDepth 20000 in
theorem gX3_drift_X3_requireMonth : GoodIn wsX3_drift (va_wsS RX3 58 yX3_requireMonth wsX3_requireMonth) := goodIn_app (goodIn_of _ (by decide +kernel)) ggX3_drift_X3_requireMonth
set_option maxRecDepth 20000 in
theorem ggX3_drift_X3_cell : GoodIn wsX3_drift wsX3_cell := goodIn_r _ [17] (by decide +kernel) (by decide +kernel)
set_option maxRecDepth 20000 in
theorem gX3_drift_X3_cell : GoodIn wsX3_drift (va_wsS RX3 129 yX3_cell wsX3_cell) := goodIn_app (goodIn_of _ (by decide +kernel)) ggX3_drift_X3_cell
set_option maxRecDepth 20000 in
theorem ggX3_drift_X3_numberIn : GoodIn wsX3_drift wsX3_numberIn := goodIn_ca (goodIn_r _ [21, 11, 22, 23, 24, 25, 7, 26, 27, 28, 29, 30, 31, 32, 33, 34, 35, 36, 37, 38, 39, 40, 41, 42, 43, 44, 45, 46, 47, 48, 49, 50, 51, 52, 16, 17, 53, 54, 55, 56, 57, 58, 59, 60, 61, 62, 63, 64, 65, 66, 73, 74, 75, 76, 77, 78, 79, 90, 91, 92, 93, 94, 83, 84, 85, 86, 87, 88, 89] (by decide +kernel) (by decide +kernel)) (goodIn_sub (fun _ h => List.mem_cons_of_mem _ (List.mem_append_left _ (List.mem_append_left _ (List.mem_append_left _ (List.mem_append_right _ h))))) (by decide +kernel))
set_option maxRecDepth 20000 in
theorem gX3_drift_X3_numberIn : GoodIn wsX3_drift (wsV RX3 92 RX3 yX3_numberIn wsX3_numberIn) := goodIn_app (goodIn_of _ (by decide +kernel)) ggX3_drift_X3_numberIn
set_option maxRecDepth 20000 in
theorem ggX3_drift_X3_required : GoodIn wsX3_drift wsX3_required := goodIn_ca (goodIn_r _ [69, 70, 71, 72] (by decide +kernel) (by decide +kernel)) (goodIn_sub (fun _ h => List.mem_cons_of_mem _ (List.mem_append_right _ h)) (by decide +kernel))
set_option maxRecDepth 20000 in
theorem gX3_drift_X3_required : GoodIn wsX3_drift (va_wsS RX3 95 yX3_required wsX3_required) := goodIn_app (goodIn_of _ (by decide +kernel)) ggX3_drift_X3_required
theorem dX3_drift_0 : decode cX3_drift 0 = .ok (.aload_n 0, 1) := by decide +kernel
theorem dX3_drift_1 : decode cX3_drift 1 = .ok (.iload_n 1, 1) := by decide +kernel
theorem dX3_drift_2 : decode cX3_drift 2 = .ok (.invokevirtual 68, 3) := by decide +kernel
theorem dX3_drift_5 : decode cX3_drift 5 = .ok (.iload_n 2, 1) := by decide +kernel
theorem dX3_drift_6 : decode cX3_drift 6 = .ok (.invokestatic 58, 3) := by decide +kernel
theorem dX3_drift_9 : decode cX3_drift 9 = .ok (.aload_n 0, 1) := by decide +kernel
theorem dX3_drift_10 : decode cX3_drift 10 = .ok (.getfield 30, 3) := by decide +kernel
theorem dX3_drift_13 : decode cX3_drift 13 = .ok (.getfield 136, 3) := by decide +kernel
theorem dX3_drift_16 : decode cX3_drift 16 = .ok (.iload_n 1, 1) := by decide +kernel
theorem dX3_drift_17 : decode cX3_drift 17 = .ok (.iload_n 2, 1) := by decide +kernel
theorem dX3_drift_18 : decode cX3_drift 18 = .ok (.invokestatic 129, 3) := by decide +kernel
theorem dX3_drift_21 : decode cX3_drift 21 = .ok (.caload, 1) := by decide +kernel
theorem dX3_drift_22 : decode cX3_drift 22 = .ok (.bipush 45, 2) := by decide +kernel
theorem dX3_drift_24 : decode cX3_drift 24 = .ok (.if_icmp .ne 11, 3) := by decide +kernel
theorem dX3_drift_27 : decode cX3_drift 27 = .ok (.new 118, 3) := by decide +kernel
theorem dX3_drift_30 : decode cX3_drift 30 = .ok (.dup, 1) := by decide +kernel
theorem dX3_drift_31 : decode cX3_drift 31 = .ok (.invokespecial 120, 3) := by decide +kernel
theorem dX3_drift_34 : decode cX3_drift 34 = .ok (.athrow, 1) := by decide +kernel
theorem dX3_drift_35 : decode cX3_drift 35 = .ok (.aload_n 0, 1) := by decide +kernel
theorem dX3_drift_36 : decode cX3_drift 36 = .ok (.iconst 0, 1) := by decide +kernel
theorem dX3_drift_37 : decode cX3_drift 37 = .ok (.iload_n 1, 1) := by decide +kernel
theorem dX3_drift_38 : decode cX3_drift 38 = .ok (.iload_n 2, 1) := by decide +kernel
theorem dX3_drift_39 : decode cX3_drift 39 = .ok (.bipush 6, 2) := by decide +kernel
theorem dX3_drift_41 : decode cX3_drift 41 = .ok (.invokevirtual 92, 3) := by decide +kernel
theorem dX3_drift_44 : decode cX3_drift 44 = .ok (.invokestatic 95, 3) := by decide +kernel
theorem dX3_drift_47 : decode cX3_drift 47 = .ok (.istore_n 3, 1) := by decide +kernel
theorem dX3_drift_48 : decode cX3_drift 48 = .ok (.iload_n 3, 1) := by decide +kernel
theorem dX3_drift_49 : decode cX3_drift 49 = .ok (.aload_n 0, 1) := by decide +kernel
theorem dX3_drift_50 : decode cX3_drift 50 = .ok (.getfield 30, 3) := by decide +kernel
theorem dX3_drift_53 : decode cX3_drift 53 = .ok (.getfield 140, 3) := by decide +kernel
theorem dX3_drift_56 : decode cX3_drift 56 = .ok (.iload_n 1, 1) := by decide +kernel
theorem dX3_drift_57 : decode cX3_drift 57 = .ok (.iload_n 2, 1) := by decide +kernel
theorem dX3_drift_58 : decode cX3_drift 58 = .ok (.invokestatic 129, 3) := by decide +kernel
theorem dX3_drift_61 : decode cX3_drift 61 = .ok (.iaload, 1) := by decide +kernel
theorem dX3_drift_62 : decode cX3_drift 62 = .ok (.isub, 1) := by decide +kernel
theorem dX3_drift_63 : decode cX3_drift 63 = .ok (.ireturn, 1) := by decide +kernel
set_option maxRecDepth 20000 in
theorem ggX3_open_X0_countIn : GoodIn wsX3_open wsX0_countIn := goodIn_ca (goodIn_r _ [5, 6, 14, 15, 16] (by decide +kernel) (by decide +kernel)) (goodIn_sub (fun _ h => List.mem_cons_of_mem _ (List.mem_append_right _ h)) (by decide +kernel))
set_option maxRecDepth 20000 in
theorem gX3_open_X0_countIn_n143 : GoodIn wsX3_open (wsX0_countIn) := ggX3_open_X0_countIn
theorem dX3_open_0 : decode cX3_open 0 = .ok (.aload_n 0, 1) := by decide +kernel
theorem dX3_open_1 : decode cX3_open 1 = .ok (.getfield 30, 3) := by decide +kernel
theorem dX3_open_4 : decode cX3_open 4 = .ok (.bipush 111, 2) := by decide +kernel
theorem dX3_open_6 : decode cX3_open 6 = .ok (.invokevirtual 143, 3) := by decide +kernel
theorem dX3_open_9 : decode cX3_open 9 = .ok (.ireturn, 1) := by decide +kernel
set_option maxRecDepth 20000 in
theorem ggX3_approvedShare_X0_countIn : GoodIn wsX3_approvedShare wsX0_countIn := goodIn_ca (goodIn_r _ [7, 8, 16, 17, 18] (by decide +kernel) (by decide +kernel)) (goodIn_sub (fun _ h => List.mem_cons_of_mem _ (List.mem_append_right _ h)) (by decide +kernel))
set_option maxRecDepth 20000 in
theorem gX3_approvedShare_X0_countIn_n143 : GoodIn wsX3_approvedShare (wsX0_countIn) := ggX3_approvedShare_X0_countIn
theorem dX3_approvedShare_0 : decode cX3_approvedShare 0 = .ok (.aload_n 0, 1) := by decide +kernel
theorem dX3_approvedShare_1 : decode cX3_approvedShare 1 = .ok (.getfield 30, 3) := by decide +kernel
theorem dX3_approvedShare_4 : decode cX3_approvedShare 4 = .ok (.bipush 97, 2) := by decide +kernel
theorem dX3_approvedShare_6 : decode cX3_approvedShare 6 = .ok (.invokevirtual 143, 3) := by decide +kernel
theorem dX3_approvedShare_9 : decode cX3_approvedShare 9 = .ok (.istore_n 1, 1) := by decide +kernel
theorem dX3_approvedShare_10 : decode cX3_approvedShare 10 = .ok (.iload_n 1, 1) := by decide +kernel
theorem dX3_approvedShare_11 : decode cX3_approvedShare 11 = .ok (.aload_n 0, 1) := by decide +kernel
theorem dX3_approvedShare_12 : decode cX3_approvedShare 12 = .ok (.getfield 30, 3) := by decide +kernel
theorem dX3_approvedShare_15 : decode cX3_approvedShare 15 = .ok (.bipush 111, 2) := by decide +kernel
theorem dX3_approvedShare_17 : decode cX3_approvedShare 17 = .ok (.invokevirtual 143, 3) := by decide +kernel
theorem dX3_approvedShare_20 : decode cX3_approvedShare 20 = .ok (.iadd, 1) := by decide +kernel
theorem dX3_approvedShare_21 : decode cX3_approvedShare 21 = .ok (.istore_n 2, 1) := by decide +kernel
theorem dX3_approvedShare_22 : decode cX3_approvedShare 22 = .ok (.iload_n 2, 1) := by decide +kernel
theorem dX3_approvedShare_23 : decode cX3_approvedShare 23 = .ok (.ifCond .ne 11, 3) := by decide +kernel
theorem dX3_approvedShare_26 : decode cX3_approvedShare 26 = .ok (.new 147, 3) := by decide +kernel
theorem dX3_approvedShare_29 : decode cX3_approvedShare 29 = .ok (.dup, 1) := by decide +kernel
theorem dX3_approvedShare_30 : decode cX3_approvedShare 30 = .ok (.invokespecial 149, 3) := by decide +kernel
theorem dX3_approvedShare_33 : decode cX3_approvedShare 33 = .ok (.athrow, 1) := by decide +kernel
theorem dX3_approvedShare_34 : decode cX3_approvedShare 34 = .ok (.iload_n 1, 1) := by decide +kernel
theorem dX3_approvedShare_35 : decode cX3_approvedShare 35 = .ok (.i2f, 1) := by decide +kernel
theorem dX3_approvedShare_36 : decode cX3_approvedShare 36 = .ok (.iload_n 2, 1) := by decide +kernel
theorem dX3_approvedShare_37 : decode cX3_approvedShare 37 = .ok (.i2f, 1) := by decide +kernel
theorem dX3_approvedShare_38 : decode cX3_approvedShare 38 = .ok (.fdiv, 1) := by decide +kernel
theorem dX3_approvedShare_39 : decode cX3_approvedShare 39 = .ok (.freturn, 1) := by decide +kernel
set_option maxRecDepth 20000 in
theorem ggX3_meanTolerance_X0_countIn : GoodIn wsX3_meanTolerance wsX0_countIn := goodIn_ca (goodIn_r _ [7, 8, 20, 21, 22] (by decide +kernel) (by decide +kernel)) (goodIn_sub (fun _ h => List.mem_cons_of_mem _ (List.mem_append_right _ h)) (by decide +kernel))
set_option maxRecDepth 20000 in
theorem gX3_meanTolerance_X0_countIn_n143 : GoodIn wsX3_meanTolerance (wsX0_countIn) := ggX3_meanTolerance_X0_countIn
set_option maxRecDepth 20000 in
theorem ggX3_meanTolerance_X0_sumOfTolerances : GoodIn wsX3_meanTolerance wsX0_sumOfTolerances := goodIn_ca (goodIn_r _ [11, 12, 20, 21, 22] (by decide +kernel) (by decide +kernel)) (goodIn_sub (fun _ h => List.mem_cons_of_mem _ (List.mem_append_right _ h)) (by decide +kernel))
set_option maxRecDepth 20000 in
theorem gX3_meanTolerance_X0_sumOfTolerances_n150 : GoodIn wsX3_meanTolerance (wsX0_sumOfTolerances) := ggX3_meanTolerance_X0_sumOfTolerances
theorem dX3_meanTolerance_0 : decode cX3_meanTolerance 0 = .ok (.aload_n 0, 1) := by decide +kernel
theorem dX3_meanTolerance_1 : decode cX3_meanTolerance 1 = .ok (.getfield 30, 3) := by decide +kernel
theorem dX3_meanTolerance_4 : decode cX3_meanTolerance 4 = .ok (.bipush 97, 2) := by decide +kernel
theorem dX3_meanTolerance_6 : decode cX3_meanTolerance 6 = .ok (.invokevirtual 143, 3) := by decide +kernel
theorem dX3_meanTolerance_9 : decode cX3_meanTolerance 9 = .ok (.aload_n 0, 1) := by decide +kernel
theorem dX3_meanTolerance_10 : decode cX3_meanTolerance 10 = .ok (.getfield 30, 3) := by decide +kernel
theorem dX3_meanTolerance_13 : decode cX3_meanTolerance 13 = .ok (.bipush 111, 2) := by decide +kernel
theorem dX3_meanTolerance_15 : decode cX3_meanTolerance 15 = .ok (.invokevirtual 143, 3) := by decide +kernel
theorem dX3_meanTolerance_18 : decode cX3_meanTolerance 18 = .ok (.iadd, 1) := by decide +kernel
theorem dX3_meanTolerance_19 : decode cX3_meanTolerance 19 = .ok (.istore_n 1, 1) := by decide +kernel
theorem dX3_meanTolerance_20 : decode cX3_meanTolerance 20 = .ok (.iload_n 1, 1) := by decide +kernel
theorem dX3_meanTolerance_21 : decode cX3_meanTolerance 21 = .ok (.ifCond .ne 11, 3) := by decide +kernel
theorem dX3_meanTolerance_24 : decode cX3_meanTolerance 24 = .ok (.new 147, 3) := by decide +kernel
theorem dX3_meanTolerance_27 : decode cX3_meanTolerance 27 = .ok (.dup, 1) := by decide +kernel
theorem dX3_meanTolerance_28 : decode cX3_meanTolerance 28 = .ok (.invokespecial 149, 3) := by decide +kernel
theorem dX3_meanTolerance_31 : decode cX3_meanTolerance 31 = .ok (.athrow, 1) := by decide +kernel
theorem dX3_meanTolerance_32 : decode cX3_meanTolerance 32 = .ok (.aload_n 0, 1) := by decide +kernel
theorem dX3_meanTolerance_33 : decode cX3_meanTolerance 33 = .ok (.getfield 30, 3) := by decide +kernel
theorem dX3_meanTolerance_36 : decode cX3_meanTolerance 36 = .ok (.invokevirtual 150, 3) := by decide +kernel
theorem dX3_meanTolerance_39 : decode cX3_meanTolerance 39 = .ok (.i2d, 1) := by decide +kernel
theorem dX3_meanTolerance_40 : decode cX3_meanTolerance 40 = .ok (.iload_n 1, 1) := by decide +kernel
theorem dX3_meanTolerance_41 : decode cX3_meanTolerance 41 = .ok (.i2d, 1) := by decide +kernel
theorem dX3_meanTolerance_42 : decode cX3_meanTolerance 42 = .ok (.ddiv, 1) := by decide +kernel
theorem dX3_meanTolerance_43 : decode cX3_meanTolerance 43 = .ok (.dreturn, 1) := by decide +kernel
theorem dX3_requireDriver_0 : decode cX3_requireDriver 0 = .ok (.iload_n 1, 1) := by decide +kernel
theorem dX3_requireDriver_1 : decode cX3_requireDriver 1 = .ok (.ifCond .lt 11, 3) := by decide +kernel
theorem dX3_requireDriver_4 : decode cX3_requireDriver 4 = .ok (.iload_n 1, 1) := by decide +kernel
theorem dX3_requireDriver_5 : decode cX3_requireDriver 5 = .ok (.aload_n 0, 1) := by decide +kernel
theorem dX3_requireDriver_6 : decode cX3_requireDriver 6 = .ok (.getfield 41, 3) := by decide +kernel
theorem dX3_requireDriver_9 : decode cX3_requireDriver 9 = .ok (.if_icmp .lt 11, 3) := by decide +kernel
theorem dX3_requireDriver_12 : decode cX3_requireDriver 12 = .ok (.new 153, 3) := by decide +kernel
theorem dX3_requireDriver_15 : decode cX3_requireDriver 15 = .ok (.dup, 1) := by decide +kernel
theorem dX3_requireDriver_16 : decode cX3_requireDriver 16 = .ok (.invokespecial 155, 3) := by decide +kernel
theorem dX3_requireDriver_19 : decode cX3_requireDriver 19 = .ok (.athrow, 1) := by decide +kernel
theorem dX3_requireDriver_20 : decode cX3_requireDriver 20 = .ok (.return_, 1) := by decide +kernel
theorem dX3_requireScenario_0 : decode cX3_requireScenario 0 = .ok (.iload_n 1, 1) := by decide +kernel
theorem dX3_requireScenario_1 : decode cX3_requireScenario 1 = .ok (.ifCond .lt 14, 3) := by decide +kernel
theorem dX3_requireScenario_4 : decode cX3_requireScenario 4 = .ok (.iload_n 1, 1) := by decide +kernel
theorem dX3_requireScenario_5 : decode cX3_requireScenario 5 = .ok (.aload_n 0, 1) := by decide +kernel
theorem dX3_requireScenario_6 : decode cX3_requireScenario 6 = .ok (.getfield 16, 3) := by decide +kernel
theorem dX3_requireScenario_9 : decode cX3_requireScenario 9 = .ok (.getfield 78, 3) := by decide +kernel
theorem dX3_requireScenario_12 : decode cX3_requireScenario 12 = .ok (.if_icmp .lt 11, 3) := by decide +kernel
theorem dX3_requireScenario_15 : decode cX3_requireScenario 15 = .ok (.new 153, 3) := by decide +kernel
theorem dX3_requireScenario_18 : decode cX3_requireScenario 18 = .ok (.dup, 1) := by decide +kernel
theorem dX3_requireScenario_19 : decode cX3_requireScenario 19 = .ok (.invokespecial 155, 3) := by decide +kernel
theorem dX3_requireScenario_22 : decode cX3_requireScenario 22 = .ok (.athrow, 1) := by decide +kernel
theorem dX3_requireScenario_23 : decode cX3_requireScenario 23 = .ok (.return_, 1) := by decide +kernel
theorem dX3_requireLine_0 : decode cX3_requireLine 0 = .ok (.iload_n 1, 1) := by decide +kernel
theorem dX3_requireLine_1 : decode cX3_requireLine 1 = .ok (.ifCond .lt 14, 3) := by decide +kernel
theorem dX3_requireLine_4 : decode cX3_requireLine 4 = .ok (.iload_n 1, 1) := by decide +kernel
theorem dX3_requireLine_5 : decode cX3_requireLine 5 = .ok (.aload_n 0, 1) := by decide +kernel
theorem dX3_requireLine_6 : decode cX3_requireLine 6 = .ok (.getfield 23, 3) := by decide +kernel
theorem dX3_requireLine_9 : decode cX3_requireLine 9 = .ok (.getfield 71, 3) := by decide +kernel
theorem dX3_requireLine_12 : decode cX3_requireLine 12 = .ok (.if_icmp .lt 11, 3) := by decide +kernel
theorem dX3_requireLine_15 : decode cX3_requireLine 15 = .ok (.new 153, 3) := by decide +kernel
theorem dX3_requireLine_18 : decode cX3_requireLine 18 = .ok (.dup, 1) := by decide +kernel
theorem dX3_requireLine_19 : decode cX3_requireLine 19 = .ok (.invokespecial 155, 3) := by decide +kernel
theorem dX3_requireLine_22 : decode cX3_requireLine 22 = .ok (.athrow, 1) := by decide +kernel
theorem dX3_requireLine_23 : decode cX3_requireLine 23 = .ok (.return_, 1) := by decide +kernel
theorem dX3_requireMonth_0 : decode cX3_requireMonth 0 = .ok (.iload_n 0, 1) := by decide +kernel
theorem dX3_requireMonth_1 : decode cX3_requireMonth 1 = .ok (.ifCond .lt 9, 3) := by decide +kernel
theorem dX3_requireMonth_4 : decode cX3_requireMonth 4 = .ok (.iload_n 0, 1) := by decide +kernel
theorem dX3_requireMonth_5 : decode cX3_requireMonth 5 = .ok (.bipush 12, 2) := by decide +kernel
theorem dX3_requireMonth_7 : decode cX3_requireMonth 7 = .ok (.if_icmp .lt 11, 3) := by decide +kernel
theorem dX3_requireMonth_10 : decode cX3_requireMonth 10 = .ok (.new 153, 3) := by decide +kernel
theorem dX3_requireMonth_13 : decode cX3_requireMonth 13 = .ok (.dup, 1) := by decide +kernel
theorem dX3_requireMonth_14 : decode cX3_requireMonth 14 = .ok (.invokespecial 155, 3) := by decide +kernel
theorem dX3_requireMonth_17 : decode cX3_requireMonth 17 = .ok (.athrow, 1) := by decide +kernel
theorem dX3_requireMonth_18 : decode cX3_requireMonth 18 = .ok (.return_, 1) := by decide +kernel
theorem dX3_requireDriverValue_0 : decode cX3_requireDriverValue 0 = .ok (.iload_n 0, 1) := by decide +kernel
theorem dX3_requireDriverValue_1 : decode cX3_requireDriverValue 1 = .ok (.ifCond .lt 10, 3) := by decide +kernel
theorem dX3_requireDriverValue_4 : decode cX3_requireDriverValue 4 = .ok (.iload_n 0, 1) := by decide +kernel
theorem dX3_requireDriverValue_5 : decode cX3_requireDriverValue 5 = .ok (.sipush 9999, 3) := by decide +kernel
theorem dX3_requireDriverValue_8 : decode cX3_requireDriverValue 8 = .ok (.if_icmp .le 11, 3) := by decide +kernel
theorem dX3_requireDriverValue_11 : decode cX3_requireDriverValue 11 = .ok (.new 65, 3) := by decide +kernel
theorem dX3_requireDriverValue_14 : decode cX3_requireDriverValue 14 = .ok (.dup, 1) := by decide +kernel
theorem dX3_requireDriverValue_15 : decode cX3_requireDriverValue 15 = .ok (.invokespecial 67, 3) := by decide +kernel
theorem dX3_requireDriverValue_18 : decode cX3_requireDriverValue 18 = .ok (.athrow, 1) := by decide +kernel
theorem dX3_requireDriverValue_19 : decode cX3_requireDriverValue 19 = .ok (.return_, 1) := by decide +kernel
theorem dX3_required_0 : decode cX3_required 0 = .ok (.iload_n 0, 1) := by decide +kernel
theorem dX3_required_1 : decode cX3_required 1 = .ok (.ldc 117, 2) := by decide +kernel
theorem dX3_required_3 : decode cX3_required 3 = .ok (.if_icmp .ne 11, 3) := by decide +kernel
theorem dX3_required_6 : decode cX3_required 6 = .ok (.new 82, 3) := by decide +kernel
theorem dX3_required_9 : decode cX3_required 9 = .ok (.dup, 1) := by decide +kernel
theorem dX3_required_10 : decode cX3_required 10 = .ok (.invokespecial 84, 3) := by decide +kernel
theorem dX3_required_13 : decode cX3_required 13 = .ok (.athrow, 1) := by decide +kernel
theorem dX3_required_14 : decode cX3_required 14 = .ok (.iload_n 0, 1) := by decide +kernel
theorem dX3_required_15 : decode cX3_required 15 = .ok (.ireturn, 1) := by decide +kernel
theorem dX3_cell_0 : decode cX3_cell 0 = .ok (.iload_n 0, 1) := by decide +kernel
theorem dX3_cell_1 : decode cX3_cell 1 = .ok (.bipush 12, 2) := by decide +kernel
theorem dX3_cell_3 : decode cX3_cell 3 = .ok (.imul, 1) := by decide +kernel
theorem dX3_cell_4 : decode cX3_cell 4 = .ok (.iload_n 1, 1) := by decide +kernel
theorem dX3_cell_5 : decode cX3_cell 5 = .ok (.iadd, 1) := by decide +kernel
theorem dX3_cell_6 : decode cX3_cell 6 = .ok (.ireturn, 1) := by decide +kernel
set_option maxRecDepth 20000 in
theorem ggX3_valueIn_X2_addedTo : GoodIn wsX3_valueIn wsX2_addedTo := goodIn_ca (goodIn_r _ [6, 7, 8, 9, 10, 4, 11, 19, 20, 21, 22, 23] (by decide +kernel) (by decide +kernel)) (goodIn_sub (fun _ h => List.mem_cons_of_mem _ (List.mem_append_right _ h)) (by decide +kernel))
set_option maxRecDepth 20000 in
theorem gX3_valueIn_X2_addedTo_n156 : GoodIn wsX3_valueIn (wsX2_addedTo) := ggX3_valueIn_X2_addedTo
theorem dX3_valueIn_0 : decode cX3_valueIn 0 = .ok (.aload_n 0, 1) := by decide +kernel
theorem dX3_valueIn_1 : decode cX3_valueIn 1 = .ok (.getfield 9, 3) := by decide +kernel
theorem dX3_valueIn_4 : decode cX3_valueIn 4 = .ok (.iload_n 2, 1) := by decide +kernel
theorem dX3_valueIn_5 : decode cX3_valueIn 5 = .ok (.iaload, 1) := by decide +kernel
theorem dX3_valueIn_6 : decode cX3_valueIn 6 = .ok (.aload_n 0, 1) := by decide +kernel
theorem dX3_valueIn_7 : decode cX3_valueIn 7 = .ok (.getfield 16, 3) := by decide +kernel
theorem dX3_valueIn_10 : decode cX3_valueIn 10 = .ok (.iload_n 1, 1) := by decide +kernel
theorem dX3_valueIn_11 : decode cX3_valueIn 11 = .ok (.iload_n 2, 1) := by decide +kernel
theorem dX3_valueIn_12 : decode cX3_valueIn 12 = .ok (.iload_n 3, 1) := by decide +kernel
theorem dX3_valueIn_13 : decode cX3_valueIn 13 = .ok (.invokevirtual 156, 3) := by decide +kernel
theorem dX3_valueIn_16 : decode cX3_valueIn 16 = .ok (.iadd, 1) := by decide +kernel
theorem dX3_valueIn_17 : decode cX3_valueIn 17 = .ok (.ireturn, 1) := by decide +kernel
set_option maxRecDepth 20000 in
theorem ggX3_fillInputs_X3_valueIn : GoodIn wsX3_fillInputs wsX3_valueIn := goodIn_ca (goodIn_r _ [8, 3, 9, 10, 11, 12, 13, 14, 15, 16, 17, 18, 19, 20, 21, 22, 23, 24, 25, 26, 27, 28, 29, 30] (by decide +kernel) (by decide +kernel)) (goodIn_sub (fun _ h => List.mem_cons_of_mem _ (List.mem_append_right _ h)) (by decide +kernel))
set_option maxRecDepth 20000 in
theorem gX3_fillInputs_X3_valueIn : GoodIn wsX3_fillInputs (wsV RX3 61 RX3 yX3_valueIn wsX3_valueIn) := goodIn_app (goodIn_of _ (by decide +kernel)) ggX3_fillInputs_X3_valueIn
theorem dX3_fillInputs_0 : decode cX3_fillInputs 0 = .ok (.iconst 0, 1) := by decide +kernel
theorem dX3_fillInputs_1 : decode cX3_fillInputs 1 = .ok (.istore 4, 2) := by decide +kernel
theorem dX3_fillInputs_3 : decode cX3_fillInputs 3 = .ok (.iload 4, 2) := by decide +kernel
theorem dX3_fillInputs_5 : decode cX3_fillInputs 5 = .ok (.aload_n 0, 1) := by decide +kernel
theorem dX3_fillInputs_6 : decode cX3_fillInputs 6 = .ok (.getfield 41, 3) := by decide +kernel
theorem dX3_fillInputs_9 : decode cX3_fillInputs 9 = .ok (.if_icmp .ge 40, 3) := by decide +kernel
theorem dX3_fillInputs_12 : decode cX3_fillInputs 12 = .ok (.aload_n 0, 1) := by decide +kernel
theorem dX3_fillInputs_13 : decode cX3_fillInputs 13 = .ok (.getfield 34, 3) := by decide +kernel
theorem dX3_fillInputs_16 : decode cX3_fillInputs 16 = .ok (.iload 4, 2) := by decide +kernel
theorem dX3_fillInputs_18 : decode cX3_fillInputs 18 = .ok (.iload 4, 2) := by decide +kernel
theorem dX3_fillInputs_20 : decode cX3_fillInputs 20 = .ok (.iload_n 3, 1) := by decide +kernel
theorem dX3_fillInputs_21 : decode cX3_fillInputs 21 = .ok (.if_icmp .ge 14, 3) := by decide +kernel
theorem dX3_fillInputs_24 : decode cX3_fillInputs 24 = .ok (.aload_n 0, 1) := by decide +kernel
theorem dX3_fillInputs_25 : decode cX3_fillInputs 25 = .ok (.iload_n 1, 1) := by decide +kernel
theorem dX3_fillInputs_26 : decode cX3_fillInputs 26 = .ok (.iload 4, 2) := by decide +kernel
theorem dX3_fillInputs_28 : decode cX3_fillInputs 28 = .ok (.iload_n 2, 1) := by decide +kernel
theorem dX3_fillInputs_29 : decode cX3_fillInputs 29 = .ok (.invokevirtual 61, 3) := by decide +kernel
theorem dX3_fillInputs_32 : decode cX3_fillInputs 32 = .ok (.goto 10, 3) := by decide +kernel
theorem dX3_fillInputs_35 : decode cX3_fillInputs 35 = .ok (.aload_n 0, 1) := by decide +kernel
theorem dX3_fillInputs_36 : decode cX3_fillInputs 36 = .ok (.getfield 9, 3) := by decide +kernel
theorem dX3_fillInputs_39 : decode cX3_fillInputs 39 = .ok (.iload 4, 2) := by decide +kernel
theorem dX3_fillInputs_41 : decode cX3_fillInputs 41 = .ok (.iaload, 1) := by decide +kernel
theorem dX3_fillInputs_42 : decode cX3_fillInputs 42 = .ok (.iastore, 1) := by decide +kernel
theorem dX3_fillInputs_43 : decode cX3_fillInputs 43 = .ok (.iinc 4 1, 3) := by decide +kernel
theorem dX3_fillInputs_46 : decode cX3_fillInputs 46 = .ok (.goto (-43), 3) := by decide +kernel
theorem dX3_fillInputs_49 : decode cX3_fillInputs 49 = .ok (.return_, 1) := by decide +kernel
set_option maxRecDepth 20000 in
theorem ggX3_numberIn_X3_fillInputs : GoodIn wsX3_numberIn wsX3_fillInputs := goodIn_ca (goodIn_r _ [7, 8, 2, 9, 10, 11, 12, 6, 13, 14, 15, 16, 17, 18, 19, 20, 21, 22, 23, 50, 51, 52, 53, 54, 55, 56, 57, 58, 59, 60, 61] (by decide +kernel) (by decide +kernel)) (goodIn_sub (fun _ h => List.mem_cons_of_mem _ (List.mem_append_right _ h)) (by decide +kernel))
set_option maxRecDepth 20000 in
theorem gX3_numberIn_X3_fillInputs : GoodIn wsX3_numberIn (wsV RX3 98 RX3 yX3_fillInputs wsX3_fillInputs) := goodIn_app (goodIn_of _ (by decide +kernel)) ggX3_numberIn_X3_fillInputs
set_option maxRecDepth 20000 in
theorem ggX3_numberIn_X1_markNeeded : GoodIn wsX3_numberIn wsX1_markNeeded := goodIn_ca (goodIn_r _ [27, 28, 29, 30, 31, 32, 33, 34, 6, 35, 62, 63, 64, 65, 66, 67, 68] (by decide +kernel) (by decide +kernel)) (goodIn_sub (fun _ h => List.mem_cons_of_mem _ (List.mem_append_right _ h)) (by decide +kernel))
set_option maxRecDepth 20000 in
theorem gX3_numberIn_X1_markNeeded_n109 : GoodIn wsX3_numberIn (wsX1_markNeeded) := ggX3_numberIn_X1_markNeeded
set_option maxRecDepth 20000 in
theorem ggX3_numberIn_X1_findNeeded : GoodIn wsX3_numberIn wsX1_findNeeded := goodIn_ca (goodIn_r _ [38, 28, 39, 40, 41, 42, 25, 43, 30, 31, 29, 32, 33, 34, 6, 35, 44, 45, 46, 47, 48, 49, 62, 63, 64, 65, 66, 67, 68] (by decide +kernel) (by decide +kernel)) (goodIn_sub (fun _ h => List.mem_cons_of_mem _ (List.mem_append_right _ h)) (by decide +kernel))
set_option maxRecDepth 20000 in
theorem gX3_numberIn_X1_findNeeded_n113 : GoodIn wsX3_numberIn (wsX1_findNeeded) := ggX3_numberIn_X1_findNeeded
theorem dX3_numberIn_0 : decode cX3_numberIn 0 = .ok (.aload_n 0, 1) := by decide +kernel
theorem dX3_numberIn_1 : decode cX3_numberIn 1 = .ok (.iload_n 1, 1) := by decide +kernel
theorem dX3_numberIn_2 : decode cX3_numberIn 2 = .ok (.iload_n 3, 1) := by decide +kernel
theorem dX3_numberIn_3 : decode cX3_numberIn 3 = .ok (.iload 4, 2) := by decide +kernel
theorem dX3_numberIn_5 : decode cX3_numberIn 5 = .ok (.invokevirtual 98, 3) := by decide +kernel
theorem dX3_numberIn_8 : decode cX3_numberIn 8 = .ok (.aload_n 0, 1) := by decide +kernel
theorem dX3_numberIn_9 : decode cX3_numberIn 9 = .ok (.getfield 23, 3) := by decide +kernel
theorem dX3_numberIn_12 : decode cX3_numberIn 12 = .ok (.iload_n 2, 1) := by decide +kernel
theorem dX3_numberIn_13 : decode cX3_numberIn 13 = .ok (.iload_n 3, 1) := by decide +kernel
theorem dX3_numberIn_14 : decode cX3_numberIn 14 = .ok (.invokevirtual 109, 3) := by decide +kernel
theorem dX3_numberIn_17 : decode cX3_numberIn 17 = .ok (.aload_n 0, 1) := by decide +kernel
theorem dX3_numberIn_18 : decode cX3_numberIn 18 = .ok (.getfield 23, 3) := by decide +kernel
theorem dX3_numberIn_21 : decode cX3_numberIn 21 = .ok (.iload_n 2, 1) := by decide +kernel
theorem dX3_numberIn_22 : decode cX3_numberIn 22 = .ok (.iload_n 3, 1) := by decide +kernel
theorem dX3_numberIn_23 : decode cX3_numberIn 23 = .ok (.aload_n 0, 1) := by decide +kernel
theorem dX3_numberIn_24 : decode cX3_numberIn 24 = .ok (.getfield 34, 3) := by decide +kernel
theorem dX3_numberIn_27 : decode cX3_numberIn 27 = .ok (.invokevirtual 113, 3) := by decide +kernel
theorem dX3_numberIn_30 : decode cX3_numberIn 30 = .ok (.ireturn, 1) := by decide +kernel
set_option maxRecDepth 20000 in
theorem ggX3_reopenDrifted_X3_fillInputs : GoodIn wsX3_reopenDrifted wsX3_fillInputs := goodIn_ca (goodIn_r _ [8, 9, 2, 10, 11, 12, 13, 7, 14, 15, 16, 17, 18, 19, 20, 21, 22, 23, 24, 65, 66, 67, 68, 69, 70, 71, 79, 80, 81, 82, 83] (by decide +kernel) (by decide +kernel)) (goodIn_sub (fun _ h => List.mem_cons_of_mem _ (List.mem_append_right _ h)) (by decide +kernel))
set_option maxRecDepth 20000 in
theorem gX3_reopenDrifted_X3_fillInputs : GoodIn wsX3_reopenDrifted (wsV RX3 98 RX3 yX3_fillInputs wsX3_fillInputs) := goodIn_app (goodIn_of _ (by decide +kernel)) ggX3_reopenDrifted_X3_fillInputs
set_option maxRecDepth 20000 in
theorem ggX3_reopenDrifted_X1_findAll : GoodIn wsX3_reopenDrifted wsX1_findAll := goodIn_ca (goodIn_r _ [28, 29, 30, 31, 32, 33, 26, 34, 35, 36, 37, 38, 39, 40, 7, 41, 42, 43, 44, 45, 46, 47, 72, 73, 74, 75, 76, 77, 78] (by decide +kernel) (by decide +kernel)) (goodIn_sub (fun _ h => List.mem_cons_of_mem _ (List.mem_append_right _ h)) (by decide +kernel))
set_option maxRecDepth 20000 in
theorem gX3_reopenDrifted_X1_findAll_n102 : GoodIn wsX3_reopenDrifted (wsX1_findAll) := ggX3_reopenDrifted_X1_findAll
set_option maxRecDepth 20000 in
theorem ggX3_reopenDrifted_X3_cell : GoodIn wsX3_reopenDrifted wsX3_cell := goodIn_r _ [41] (by decide +kernel) (by decide +kernel)
set_option maxRecDepth 20000 in
theorem gX3_reopenDrifted_X3_cell : GoodIn wsX3_reopenDrifted (va_wsS RX3 129 yX3_cell wsX3_cell) := goodIn_app (goodIn_of _ (by decide +kernel)) ggX3_reopenDrifted_X3_cell
set_option maxRecDepth 20000 in
theorem ggX3_reopenDrifted_X0_reopenIfDrifted : GoodIn wsX3_reopenDrifted wsX0_reopenIfDrifted := goodIn_ca (goodIn_r _ [52, 53, 54, 55, 56, 50, 57, 58, 59, 60, 61, 62, 63, 64, 84, 85, 86] (by decide +kernel) (by decide +kernel)) (goodIn_sub (fun _ h => List.mem_cons_of_mem _ (List.mem_append_right _ h)) (by decide +kernel))
set_option maxRecDepth 20000 in
theorem gX3_reopenDrifted_X0_reopenIfDrifted_n159 : GoodIn wsX3_reopenDrifted (wsX0_reopenIfDrifted) := ggX3_reopenDrifted_X0_reopenIfDrifted
theorem dX3_reopenDrifted_0 : decode cX3_reopenDrifted 0 = .ok (.iconst 0, 1) := by decide +kernel
theorem dX3_reopenDrifted_1 : decode cX3_reopenDrifted 1 = .ok (.istore_n 1, 1) := by decide +kernel
theorem dX3_reopenDrifted_2 : decode cX3_reopenDrifted 2 = .ok (.iconst 0, 1) := by decide +kernel
theorem dX3_reopenDrifted_3 : decode cX3_reopenDrifted 3 = .ok (.istore_n 2, 1) := by decide +kernel
theorem dX3_reopenDrifted_4 : decode cX3_reopenDrifted 4 = .ok (.iload_n 2, 1) := by decide +kernel
theorem dX3_reopenDrifted_5 : decode cX3_reopenDrifted 5 = .ok (.bipush 12, 2) := by decide +kernel
theorem dX3_reopenDrifted_7 : decode cX3_reopenDrifted 7 = .ok (.if_icmp .ge 75, 3) := by decide +kernel
theorem dX3_reopenDrifted_10 : decode cX3_reopenDrifted 10 = .ok (.aload_n 0, 1) := by decide +kernel
theorem dX3_reopenDrifted_11 : decode cX3_reopenDrifted 11 = .ok (.iconst 0, 1) := by decide +kernel
theorem dX3_reopenDrifted_12 : decode cX3_reopenDrifted 12 = .ok (.iload_n 2, 1) := by decide +kernel
theorem dX3_reopenDrifted_13 : decode cX3_reopenDrifted 13 = .ok (.bipush 6, 2) := by decide +kernel
theorem dX3_reopenDrifted_15 : decode cX3_reopenDrifted 15 = .ok (.invokevirtual 98, 3) := by decide +kernel
theorem dX3_reopenDrifted_18 : decode cX3_reopenDrifted 18 = .ok (.aload_n 0, 1) := by decide +kernel
theorem dX3_reopenDrifted_19 : decode cX3_reopenDrifted 19 = .ok (.getfield 23, 3) := by decide +kernel
theorem dX3_reopenDrifted_22 : decode cX3_reopenDrifted 22 = .ok (.iload_n 2, 1) := by decide +kernel
theorem dX3_reopenDrifted_23 : decode cX3_reopenDrifted 23 = .ok (.aload_n 0, 1) := by decide +kernel
theorem dX3_reopenDrifted_24 : decode cX3_reopenDrifted 24 = .ok (.getfield 34, 3) := by decide +kernel
theorem dX3_reopenDrifted_27 : decode cX3_reopenDrifted 27 = .ok (.invokevirtual 102, 3) := by decide +kernel
theorem dX3_reopenDrifted_30 : decode cX3_reopenDrifted 30 = .ok (.iconst 0, 1) := by decide +kernel
theorem dX3_reopenDrifted_31 : decode cX3_reopenDrifted 31 = .ok (.istore_n 3, 1) := by decide +kernel
theorem dX3_reopenDrifted_32 : decode cX3_reopenDrifted 32 = .ok (.iload_n 3, 1) := by decide +kernel
theorem dX3_reopenDrifted_33 : decode cX3_reopenDrifted 33 = .ok (.aload_n 0, 1) := by decide +kernel
theorem dX3_reopenDrifted_34 : decode cX3_reopenDrifted 34 = .ok (.getfield 23, 3) := by decide +kernel
theorem dX3_reopenDrifted_37 : decode cX3_reopenDrifted 37 = .ok (.getfield 71, 3) := by decide +kernel
theorem dX3_reopenDrifted_40 : decode cX3_reopenDrifted 40 = .ok (.if_icmp .ge 36, 3) := by decide +kernel
theorem dX3_reopenDrifted_43 : decode cX3_reopenDrifted 43 = .ok (.aload_n 0, 1) := by decide +kernel
theorem dX3_reopenDrifted_44 : decode cX3_reopenDrifted 44 = .ok (.getfield 30, 3) := by decide +kernel
theorem dX3_reopenDrifted_47 : decode cX3_reopenDrifted 47 = .ok (.iload_n 3, 1) := by decide +kernel
theorem dX3_reopenDrifted_48 : decode cX3_reopenDrifted 48 = .ok (.iload_n 2, 1) := by decide +kernel
theorem dX3_reopenDrifted_49 : decode cX3_reopenDrifted 49 = .ok (.invokestatic 129, 3) := by decide +kernel
theorem dX3_reopenDrifted_52 : decode cX3_reopenDrifted 52 = .ok (.aload_n 0, 1) := by decide +kernel
theorem dX3_reopenDrifted_53 : decode cX3_reopenDrifted 53 = .ok (.getfield 23, 3) := by decide +kernel
theorem dX3_reopenDrifted_56 : decode cX3_reopenDrifted 56 = .ok (.getfield 106, 3) := by decide +kernel
theorem dX3_reopenDrifted_59 : decode cX3_reopenDrifted 59 = .ok (.iload_n 3, 1) := by decide +kernel
theorem dX3_reopenDrifted_60 : decode cX3_reopenDrifted 60 = .ok (.iaload, 1) := by decide +kernel
theorem dX3_reopenDrifted_61 : decode cX3_reopenDrifted 61 = .ok (.invokevirtual 159, 3) := by decide +kernel
theorem dX3_reopenDrifted_64 : decode cX3_reopenDrifted 64 = .ok (.ifCond .eq 6, 3) := by decide +kernel
theorem dX3_reopenDrifted_67 : decode cX3_reopenDrifted 67 = .ok (.iinc 1 1, 3) := by decide +kernel
theorem dX3_reopenDrifted_70 : decode cX3_reopenDrifted 70 = .ok (.iinc 3 1, 3) := by decide +kernel
theorem dX3_reopenDrifted_73 : decode cX3_reopenDrifted 73 = .ok (.goto (-41), 3) := by decide +kernel
theorem dX3_reopenDrifted_76 : decode cX3_reopenDrifted 76 = .ok (.iinc 2 1, 3) := by decide +kernel
theorem dX3_reopenDrifted_79 : decode cX3_reopenDrifted 79 = .ok (.goto (-75), 3) := by decide +kernel
theorem dX3_reopenDrifted_82 : decode cX3_reopenDrifted 82 = .ok (.iload_n 1, 1) := by decide +kernel
theorem dX3_reopenDrifted_83 : decode cX3_reopenDrifted 83 = .ok (.ireturn, 1) := by decide +kernel
theorem dX4_init_0 : decode cX4_init 0 = .ok (.aload_n 0, 1) := by decide +kernel
theorem dX4_init_1 : decode cX4_init 1 = .ok (.invokespecial 1, 3) := by decide +kernel
theorem dX4_init_4 : decode cX4_init 4 = .ok (.aload_n 0, 1) := by decide +kernel
theorem dX4_init_5 : decode cX4_init 5 = .ok (.bipush 6, 2) := by decide +kernel
theorem dX4_init_7 : decode cX4_init 7 = .ok (.newarray .int, 2) := by decide +kernel
theorem dX4_init_9 : decode cX4_init 9 = .ok (.putfield 7, 3) := by decide +kernel
theorem dX4_init_12 : decode cX4_init 12 = .ok (.aload_n 0, 1) := by decide +kernel
theorem dX4_init_13 : decode cX4_init 13 = .ok (.bipush 10, 2) := by decide +kernel
theorem dX4_init_15 : decode cX4_init 15 = .ok (.newarray .int, 2) := by decide +kernel
theorem dX4_init_17 : decode cX4_init 17 = .ok (.putfield 13, 3) := by decide +kernel
theorem dX4_init_20 : decode cX4_init 20 = .ok (.aload_n 0, 1) := by decide +kernel
theorem dX4_init_21 : decode cX4_init 21 = .ok (.bipush 10, 2) := by decide +kernel
theorem dX4_init_23 : decode cX4_init 23 = .ok (.newarray .int, 2) := by decide +kernel
theorem dX4_init_25 : decode cX4_init 25 = .ok (.putfield 16, 3) := by decide +kernel
theorem dX4_init_28 : decode cX4_init 28 = .ok (.aload_n 0, 1) := by decide +kernel
theorem dX4_init_29 : decode cX4_init 29 = .ok (.bipush 10, 2) := by decide +kernel
theorem dX4_init_31 : decode cX4_init 31 = .ok (.newarray .int, 2) := by decide +kernel
theorem dX4_init_33 : decode cX4_init 33 = .ok (.putfield 19, 3) := by decide +kernel
theorem dX4_init_36 : decode cX4_init 36 = .ok (.aload_n 0, 1) := by decide +kernel
theorem dX4_init_37 : decode cX4_init 37 = .ok (.iconst 4, 1) := by decide +kernel
theorem dX4_init_38 : decode cX4_init 38 = .ok (.newarray .int, 2) := by decide +kernel
theorem dX4_init_40 : decode cX4_init 40 = .ok (.putfield 22, 3) := by decide +kernel
theorem dX4_init_43 : decode cX4_init 43 = .ok (.aload_n 0, 1) := by decide +kernel
theorem dX4_init_44 : decode cX4_init 44 = .ok (.bipush 12, 2) := by decide +kernel
theorem dX4_init_46 : decode cX4_init 46 = .ok (.newarray .int, 2) := by decide +kernel
theorem dX4_init_48 : decode cX4_init 48 = .ok (.putfield 25, 3) := by decide +kernel
theorem dX4_init_51 : decode cX4_init 51 = .ok (.aload_n 0, 1) := by decide +kernel
theorem dX4_init_52 : decode cX4_init 52 = .ok (.bipush 12, 2) := by decide +kernel
theorem dX4_init_54 : decode cX4_init 54 = .ok (.newarray .int, 2) := by decide +kernel
theorem dX4_init_56 : decode cX4_init 56 = .ok (.putfield 28, 3) := by decide +kernel
theorem dX4_init_59 : decode cX4_init 59 = .ok (.aload_n 0, 1) := by decide +kernel
theorem dX4_init_60 : decode cX4_init 60 = .ok (.bipush 12, 2) := by decide +kernel
theorem dX4_init_62 : decode cX4_init 62 = .ok (.newarray .int, 2) := by decide +kernel
theorem dX4_init_64 : decode cX4_init 64 = .ok (.putfield 31, 3) := by decide +kernel
theorem dX4_init_67 : decode cX4_init 67 = .ok (.aload_n 0, 1) := by decide +kernel
theorem dX4_init_68 : decode cX4_init 68 = .ok (.bipush 12, 2) := by decide +kernel
theorem dX4_init_70 : decode cX4_init 70 = .ok (.newarray .int, 2) := by decide +kernel
theorem dX4_init_72 : decode cX4_init 72 = .ok (.putfield 34, 3) := by decide +kernel
theorem dX4_init_75 : decode cX4_init 75 = .ok (.aload_n 0, 1) := by decide +kernel
theorem dX4_init_76 : decode cX4_init 76 = .ok (.bipush 120, 2) := by decide +kernel
theorem dX4_init_78 : decode cX4_init 78 = .ok (.newarray .int, 2) := by decide +kernel
theorem dX4_init_80 : decode cX4_init 80 = .ok (.putfield 37, 3) := by decide +kernel
theorem dX4_init_83 : decode cX4_init 83 = .ok (.aload_n 0, 1) := by decide +kernel
theorem dX4_init_84 : decode cX4_init 84 = .ok (.bipush 120, 2) := by decide +kernel
theorem dX4_init_86 : decode cX4_init 86 = .ok (.newarray .int, 2) := by decide +kernel
theorem dX4_init_88 : decode cX4_init 88 = .ok (.putfield 40, 3) := by decide +kernel
theorem dX4_init_91 : decode cX4_init 91 = .ok (.aload_n 0, 1) := by decide +kernel
theorem dX4_init_92 : decode cX4_init 92 = .ok (.bipush 120, 2) := by decide +kernel
theorem dX4_init_94 : decode cX4_init 94 = .ok (.newarray .int, 2) := by decide +kernel
theorem dX4_init_96 : decode cX4_init 96 = .ok (.putfield 43, 3) := by decide +kernel
theorem dX4_init_99 : decode cX4_init 99 = .ok (.aload_n 0, 1) := by decide +kernel
theorem dX4_init_100 : decode cX4_init 100 = .ok (.bipush 120, 2) := by decide +kernel
theorem dX4_init_102 : decode cX4_init 102 = .ok (.newarray .boolean, 2) := by decide +kernel
theorem dX4_init_104 : decode cX4_init 104 = .ok (.putfield 46, 3) := by decide +kernel
theorem dX4_init_107 : decode cX4_init 107 = .ok (.aload_n 0, 1) := by decide +kernel
theorem dX4_init_108 : decode cX4_init 108 = .ok (.bipush 10, 2) := by decide +kernel
theorem dX4_init_110 : decode cX4_init 110 = .ok (.newarray .boolean, 2) := by decide +kernel
theorem dX4_init_112 : decode cX4_init 112 = .ok (.putfield 50, 3) := by decide +kernel
theorem dX4_init_115 : decode cX4_init 115 = .ok (.aload_n 0, 1) := by decide +kernel
theorem dX4_init_116 : decode cX4_init 116 = .ok (.bipush 120, 2) := by decide +kernel
theorem dX4_init_118 : decode cX4_init 118 = .ok (.newarray .char, 2) := by decide +kernel
theorem dX4_init_120 : decode cX4_init 120 = .ok (.putfield 53, 3) := by decide +kernel
theorem dX4_init_123 : decode cX4_init 123 = .ok (.aload_n 0, 1) := by decide +kernel
theorem dX4_init_124 : decode cX4_init 124 = .ok (.bipush 10, 2) := by decide +kernel
theorem dX4_init_126 : decode cX4_init 126 = .ok (.newarray .long, 2) := by decide +kernel
theorem dX4_init_128 : decode cX4_init 128 = .ok (.putfield 57, 3) := by decide +kernel
