theorem dX4_number_1 : decode cX4_number 1 = .ok (.aload_n 0, 1) := by decide +kernel
theorem dX4_number_2 : decode cX4_number 2 = .ok (.iload_n 1, 1) := by decide +kernel
theorem dX4_number_3 : decode cX4_number 3 = .ok (.invokevirtual 118, 3) := by decide +kernel
theorem dX4_number_6 : decode cX4_number 6 = .ok (.ifCond .eq 18, 3) := by decide +kernel
theorem dX4_number_9 : decode cX4_number 9 = .ok (.aload_n 0, 1) := by decide +kernel
theorem dX4_number_10 : decode cX4_number 10 = .ok (.iload_n 2, 1) := by decide +kernel
theorem dX4_number_11 : decode cX4_number 11 = .ok (.invokevirtual 128, 3) := by decide +kernel
theorem dX4_number_14 : decode cX4_number 14 = .ok (.ifCond .eq 10, 3) := by decide +kernel
theorem dX4_number_17 : decode cX4_number 17 = .ok (.iload_n 3, 1) := by decide +kernel
theorem dX4_number_18 : decode cX4_number 18 = .ok (.invokestatic 121, 3) := by decide +kernel
theorem dX4_number_21 : decode cX4_number 21 = .ok (.ifCond .ne 7, 3) := by decide +kernel
theorem dX4_number_24 : decode cX4_number 24 = .ok (.iconst 1, 1) := by decide +kernel
theorem dX4_number_25 : decode cX4_number 25 = .ok (.goto 20, 3) := by decide +kernel
theorem dX4_number_28 : decode cX4_number 28 = .ok (.aload_n 0, 1) := by decide +kernel
theorem dX4_number_29 : decode cX4_number 29 = .ok (.iload_n 1, 1) := by decide +kernel
theorem dX4_number_30 : decode cX4_number 30 = .ok (.iload_n 2, 1) := by decide +kernel
theorem dX4_number_31 : decode cX4_number 31 = .ok (.iload_n 3, 1) := by decide +kernel
theorem dX4_number_32 : decode cX4_number 32 = .ok (.bipush 6, 2) := by decide +kernel
theorem dX4_number_34 : decode cX4_number 34 = .ok (.invokevirtual 106, 3) := by decide +kernel
theorem dX4_number_37 : decode cX4_number 37 = .ok (.ifCond .ne 7, 3) := by decide +kernel
theorem dX4_number_40 : decode cX4_number 40 = .ok (.iconst 2, 1) := by decide +kernel
theorem dX4_number_41 : decode cX4_number 41 = .ok (.goto 4, 3) := by decide +kernel
theorem dX4_number_44 : decode cX4_number 44 = .ok (.iconst 0, 1) := by decide +kernel
theorem dX4_number_45 : decode cX4_number 45 = .ok (.putfield 61, 3) := by decide +kernel
theorem dX4_number_48 : decode cX4_number 48 = .ok (.aload_n 0, 1) := by decide +kernel
theorem dX4_number_49 : decode cX4_number 49 = .ok (.getfield 61, 3) := by decide +kernel
theorem dX4_number_52 : decode cX4_number 52 = .ok (.ifCond .le 7, 3) := by decide +kernel
theorem dX4_number_55 : decode cX4_number 55 = .ok (.iconst 0, 1) := by decide +kernel
theorem dX4_number_56 : decode cX4_number 56 = .ok (.goto 10, 3) := by decide +kernel
theorem dX4_number_59 : decode cX4_number 59 = .ok (.aload_n 0, 1) := by decide +kernel
theorem dX4_number_60 : decode cX4_number 60 = .ok (.getfield 57, 3) := by decide +kernel
theorem dX4_number_63 : decode cX4_number 63 = .ok (.iload_n 2, 1) := by decide +kernel
theorem dX4_number_64 : decode cX4_number 64 = .ok (.laload, 1) := by decide +kernel
theorem dX4_number_65 : decode cX4_number 65 = .ok (.l2i, 1) := by decide +kernel
theorem dX4_number_66 : decode cX4_number 66 = .ok (.ireturn, 1) := by decide +kernel
set_option maxRecDepth 20000 in
theorem ggX4_numberByHand_X4_number : GoodIn wsX4_numberByHand wsX4_number := goodIn_ca (goodIn_r _ [5, 6, 7, 8, 9, 10, 4, 11, 12, 13, 14, 15, 16, 17, 18, 19, 20, 21, 22, 23, 24, 25, 26, 27, 28, 29, 30, 31, 32, 33, 34, 35, 36, 37, 38, 39, 40, 41, 42, 43, 44, 45, 46, 47, 48, 49, 50, 51, 52, 53, 54, 55, 56, 57, 58, 59, 60, 61, 62, 63, 64, 65, 66, 67, 68, 69, 70, 71, 72, 73, 74, 75, 76, 77, 78, 79, 80] (by decide +kernel) (by decide +kernel)) (goodIn_sub (fun _ h => List.mem_cons_of_mem _ (List.mem_append_right _ h)) (by decide +kernel))
set_option maxRecDepth 20000 in
theorem gX4_numberByHand_X4_number : GoodIn wsX4_numberByHand (wsV RX4 131 RX4 yX4_number wsX4_number) := goodIn_app (goodIn_of _ (by decide +kernel)) ggX4_numberByHand_X4_number
theorem dX4_numberByHand_0 : decode cX4_numberByHand 0 = .ok (.aload_n 0, 1) := by decide +kernel
theorem dX4_numberByHand_1 : decode cX4_numberByHand 1 = .ok (.iload_n 1, 1) := by decide +kernel
theorem dX4_numberByHand_2 : decode cX4_numberByHand 2 = .ok (.iload_n 2, 1) := by decide +kernel
theorem dX4_numberByHand_3 : decode cX4_numberByHand 3 = .ok (.iload_n 3, 1) := by decide +kernel
theorem dX4_numberByHand_4 : decode cX4_numberByHand 4 = .ok (.invokevirtual 131, 3) := by decide +kernel
theorem dX4_numberByHand_7 : decode cX4_numberByHand 7 = .ok (.ireturn, 1) := by decide +kernel
set_option maxRecDepth 20000 in
theorem ggX4_year_X4_isScenario : GoodIn wsX4_year wsX4_isScenario := goodIn_r _ [7, 8, 9, 10, 6, 11, 52, 53, 54, 55, 56, 57, 58, 59, 60, 61, 62, 63, 64, 65, 66, 67, 68, 69, 70, 71, 72, 73] (by decide +kernel) (by decide +kernel)
set_option maxRecDepth 20000 in
theorem gX4_year_X4_isScenario : GoodIn wsX4_year (wsV RX4 118 RX4 yX4_isScenario wsX4_isScenario) := goodIn_app (goodIn_of _ (by decide +kernel)) ggX4_year_X4_isScenario
set_option maxRecDepth 20000 in
theorem ggX4_year_X4_isLine : GoodIn wsX4_year wsX4_isLine := goodIn_r _ [15, 16, 9, 10, 6, 11, 52, 53, 54, 55, 56, 57, 58, 59, 60, 61, 62, 63, 64, 65, 66, 67, 68, 69, 70, 71, 72, 73] (by decide +kernel) (by decide +kernel)
set_option maxRecDepth 20000 in
theorem gX4_year_X4_isLine : GoodIn wsX4_year (wsV RX4 128 RX4 yX4_isLine wsX4_isLine) := goodIn_app (goodIn_of _ (by decide +kernel)) ggX4_year_X4_isLine
set_option maxRecDepth 20000 in
theorem ggX4_year_X4_finds : GoodIn wsX4_year wsX4_finds := goodIn_ca (goodIn_r _ [20, 21, 22, 23, 24, 25, 2, 26, 27, 28, 29, 30, 6, 31, 32, 33, 34, 35, 36, 37, 38, 39, 40, 41, 42, 43, 44, 45, 46, 47, 48, 49, 50, 51, 52, 53, 54, 55, 56, 57, 58, 59, 60, 61, 62, 63, 64, 65, 66, 67, 68, 69, 70, 71, 72, 73] (by decide +kernel) (by decide +kernel)) (goodIn_sub (fun _ h => List.mem_cons_of_mem _ (List.mem_append_right _ h)) (by decide +kernel))
set_option maxRecDepth 20000 in
theorem gX4_year_X4_finds : GoodIn wsX4_year (wsV RX4 106 RX4 yX4_finds wsX4_finds) := goodIn_app (goodIn_of _ (by decide +kernel)) ggX4_year_X4_finds
theorem dX4_year_0 : decode cX4_year 0 = .ok (.aload_n 0, 1) := by decide +kernel
theorem dX4_year_1 : decode cX4_year 1 = .ok (.aload_n 0, 1) := by decide +kernel
theorem dX4_year_2 : decode cX4_year 2 = .ok (.iload_n 1, 1) := by decide +kernel
theorem dX4_year_3 : decode cX4_year 3 = .ok (.invokevirtual 118, 3) := by decide +kernel
theorem dX4_year_6 : decode cX4_year 6 = .ok (.ifCond .eq 11, 3) := by decide +kernel
theorem dX4_year_9 : decode cX4_year 9 = .ok (.aload_n 0, 1) := by decide +kernel
theorem dX4_year_10 : decode cX4_year 10 = .ok (.iload_n 2, 1) := by decide +kernel
theorem dX4_year_11 : decode cX4_year 11 = .ok (.invokevirtual 128, 3) := by decide +kernel
theorem dX4_year_14 : decode cX4_year 14 = .ok (.ifCond .ne 7, 3) := by decide +kernel
theorem dX4_year_17 : decode cX4_year 17 = .ok (.iconst 1, 1) := by decide +kernel
theorem dX4_year_18 : decode cX4_year 18 = .ok (.goto 4, 3) := by decide +kernel
theorem dX4_year_21 : decode cX4_year 21 = .ok (.iconst 0, 1) := by decide +kernel
theorem dX4_year_22 : decode cX4_year 22 = .ok (.putfield 61, 3) := by decide +kernel
theorem dX4_year_25 : decode cX4_year 25 = .ok (.lconst 0, 1) := by decide +kernel
theorem dX4_year_26 : decode cX4_year 26 = .ok (.lstore_n 3, 1) := by decide +kernel
theorem dX4_year_27 : decode cX4_year 27 = .ok (.iconst 0, 1) := by decide +kernel
theorem dX4_year_28 : decode cX4_year 28 = .ok (.istore 5, 2) := by decide +kernel
theorem dX4_year_30 : decode cX4_year 30 = .ok (.iload 5, 2) := by decide +kernel
theorem dX4_year_32 : decode cX4_year 32 = .ok (.bipush 12, 2) := by decide +kernel
theorem dX4_year_34 : decode cX4_year 34 = .ok (.if_icmp .ge 43, 3) := by decide +kernel
theorem dX4_year_37 : decode cX4_year 37 = .ok (.aload_n 0, 1) := by decide +kernel
theorem dX4_year_38 : decode cX4_year 38 = .ok (.getfield 61, 3) := by decide +kernel
theorem dX4_year_41 : decode cX4_year 41 = .ok (.ifCond .ne 36, 3) := by decide +kernel
theorem dX4_year_44 : decode cX4_year 44 = .ok (.aload_n 0, 1) := by decide +kernel
theorem dX4_year_45 : decode cX4_year 45 = .ok (.iload_n 1, 1) := by decide +kernel
theorem dX4_year_46 : decode cX4_year 46 = .ok (.iload_n 2, 1) := by decide +kernel
theorem dX4_year_47 : decode cX4_year 47 = .ok (.iload 5, 2) := by decide +kernel
theorem dX4_year_49 : decode cX4_year 49 = .ok (.bipush 6, 2) := by decide +kernel
theorem dX4_year_51 : decode cX4_year 51 = .ok (.invokevirtual 106, 3) := by decide +kernel
theorem dX4_year_54 : decode cX4_year 54 = .ok (.ifCond .ne 8, 3) := by decide +kernel
theorem dX4_year_57 : decode cX4_year 57 = .ok (.aload_n 0, 1) := by decide +kernel
theorem dX4_year_58 : decode cX4_year 58 = .ok (.iconst 2, 1) := by decide +kernel
theorem dX4_year_59 : decode cX4_year 59 = .ok (.putfield 61, 3) := by decide +kernel
theorem dX4_year_62 : decode cX4_year 62 = .ok (.lload_n 3, 1) := by decide +kernel
theorem dX4_year_63 : decode cX4_year 63 = .ok (.aload_n 0, 1) := by decide +kernel
theorem dX4_year_64 : decode cX4_year 64 = .ok (.getfield 57, 3) := by decide +kernel
theorem dX4_year_67 : decode cX4_year 67 = .ok (.iload_n 2, 1) := by decide +kernel
theorem dX4_year_68 : decode cX4_year 68 = .ok (.laload, 1) := by decide +kernel
theorem dX4_year_69 : decode cX4_year 69 = .ok (.ladd, 1) := by decide +kernel
theorem dX4_year_70 : decode cX4_year 70 = .ok (.lstore_n 3, 1) := by decide +kernel
theorem dX4_year_71 : decode cX4_year 71 = .ok (.iinc 5 1, 3) := by decide +kernel
theorem dX4_year_74 : decode cX4_year 74 = .ok (.goto (-44), 3) := by decide +kernel
theorem dX4_year_77 : decode cX4_year 77 = .ok (.aload_n 0, 1) := by decide +kernel
theorem dX4_year_78 : decode cX4_year 78 = .ok (.getfield 61, 3) := by decide +kernel
theorem dX4_year_81 : decode cX4_year 81 = .ok (.ifCond .le 7, 3) := by decide +kernel
theorem dX4_year_84 : decode cX4_year 84 = .ok (.lconst 0, 1) := by decide +kernel
theorem dX4_year_85 : decode cX4_year 85 = .ok (.goto 4, 3) := by decide +kernel
theorem dX4_year_88 : decode cX4_year 88 = .ok (.lload_n 3, 1) := by decide +kernel
theorem dX4_year_89 : decode cX4_year 89 = .ok (.lreturn, 1) := by decide +kernel
set_option maxRecDepth 20000 in
theorem ggX4_effect_X4_isScenario : GoodIn wsX4_effect wsX4_isScenario := goodIn_r _ [7, 8, 9, 10, 6, 11, 60, 61, 62, 63, 64, 65, 66, 67, 68, 69, 70, 71, 72, 73, 74, 75, 76, 77, 78, 79, 80, 81] (by decide +kernel) (by decide +kernel)
set_option maxRecDepth 20000 in
theorem gX4_effect_X4_isScenario : GoodIn wsX4_effect (wsV RX4 118 RX4 yX4_isScenario wsX4_isScenario) := goodIn_app (goodIn_of _ (by decide +kernel)) ggX4_effect_X4_isScenario
set_option maxRecDepth 20000 in
theorem ggX4_effect_X4_isDriver : GoodIn wsX4_effect wsX4_isDriver := goodIn_r _ [15, 16, 9, 10, 6, 11, 60, 61, 62, 63, 64, 65, 66, 67, 68, 69, 70, 71, 72, 73, 74, 75, 76, 77, 78, 79, 80, 81] (by decide +kernel) (by decide +kernel)
set_option maxRecDepth 20000 in
theorem gX4_effect_X4_isDriver : GoodIn wsX4_effect (wsV RX4 110 RX4 yX4_isDriver wsX4_isDriver) := goodIn_app (goodIn_of _ (by decide +kernel)) ggX4_effect_X4_isDriver
set_option maxRecDepth 20000 in
theorem ggX4_effect_X4_isLine : GoodIn wsX4_effect wsX4_isLine := goodIn_r _ [20, 21, 9, 10, 6, 11, 60, 61, 62, 63, 64, 65, 66, 67, 68, 69, 70, 71, 72, 73, 74, 75, 76, 77, 78, 79, 80, 81] (by decide +kernel) (by decide +kernel)
set_option maxRecDepth 20000 in
theorem gX4_effect_X4_isLine : GoodIn wsX4_effect (wsV RX4 128 RX4 yX4_isLine wsX4_isLine) := goodIn_app (goodIn_of _ (by decide +kernel)) ggX4_effect_X4_isLine
set_option maxRecDepth 20000 in
theorem ggX4_effect_X4_isMonth : GoodIn wsX4_effect wsX4_isMonth := goodIn_r _ [24, 9, 10, 6, 11] (by decide +kernel) (by decide +kernel)
set_option maxRecDepth 20000 in
theorem gX4_effect_X4_isMonth : GoodIn wsX4_effect (va_wsS RX4 121 yX4_isMonth wsX4_isMonth) := goodIn_app (goodIn_of _ (by decide +kernel)) ggX4_effect_X4_isMonth
set_option maxRecDepth 20000 in
theorem ggX4_effect_X4_finds : GoodIn wsX4_effect wsX4_finds := goodIn_ca (goodIn_r _ [28, 29, 30, 31, 32, 33, 2, 34, 35, 36, 37, 38, 6, 39, 40, 41, 42, 43, 44, 45, 46, 47, 48, 49, 50, 51, 52, 53, 54, 55, 56, 57, 58, 59, 60, 61, 62, 63, 64, 65, 66, 67, 68, 69, 70, 71, 72, 73, 74, 75, 76, 77, 78, 79, 80, 81] (by decide +kernel) (by decide +kernel)) (goodIn_sub (fun _ h => List.mem_cons_of_mem _ (List.mem_append_right _ h)) (by decide +kernel))
set_option maxRecDepth 20000 in
theorem gX4_effect_X4_finds : GoodIn wsX4_effect (wsV RX4 106 RX4 yX4_finds wsX4_finds) := goodIn_app (goodIn_of _ (by decide +kernel)) ggX4_effect_X4_finds
theorem dX4_effect_0 : decode cX4_effect 0 = .ok (.aload_n 0, 1) := by decide +kernel
theorem dX4_effect_1 : decode cX4_effect 1 = .ok (.aload_n 0, 1) := by decide +kernel
theorem dX4_effect_2 : decode cX4_effect 2 = .ok (.iload_n 1, 1) := by decide +kernel
theorem dX4_effect_3 : decode cX4_effect 3 = .ok (.invokevirtual 118, 3) := by decide +kernel
theorem dX4_effect_6 : decode cX4_effect 6 = .ok (.ifCond .eq 27, 3) := by decide +kernel
theorem dX4_effect_9 : decode cX4_effect 9 = .ok (.aload_n 0, 1) := by decide +kernel
theorem dX4_effect_10 : decode cX4_effect 10 = .ok (.iload_n 2, 1) := by decide +kernel
theorem dX4_effect_11 : decode cX4_effect 11 = .ok (.invokevirtual 110, 3) := by decide +kernel
theorem dX4_effect_14 : decode cX4_effect 14 = .ok (.ifCond .eq 19, 3) := by decide +kernel
theorem dX4_effect_17 : decode cX4_effect 17 = .ok (.aload_n 0, 1) := by decide +kernel
theorem dX4_effect_18 : decode cX4_effect 18 = .ok (.iload_n 3, 1) := by decide +kernel
theorem dX4_effect_19 : decode cX4_effect 19 = .ok (.invokevirtual 128, 3) := by decide +kernel
theorem dX4_effect_22 : decode cX4_effect 22 = .ok (.ifCond .eq 11, 3) := by decide +kernel
theorem dX4_effect_25 : decode cX4_effect 25 = .ok (.iload 4, 2) := by decide +kernel
theorem dX4_effect_27 : decode cX4_effect 27 = .ok (.invokestatic 121, 3) := by decide +kernel
theorem dX4_effect_30 : decode cX4_effect 30 = .ok (.ifCond .ne 7, 3) := by decide +kernel
theorem dX4_effect_33 : decode cX4_effect 33 = .ok (.iconst 1, 1) := by decide +kernel
theorem dX4_effect_34 : decode cX4_effect 34 = .ok (.goto 4, 3) := by decide +kernel
theorem dX4_effect_37 : decode cX4_effect 37 = .ok (.iconst 0, 1) := by decide +kernel
theorem dX4_effect_38 : decode cX4_effect 38 = .ok (.putfield 61, 3) := by decide +kernel
theorem dX4_effect_41 : decode cX4_effect 41 = .ok (.aload_n 0, 1) := by decide +kernel
theorem dX4_effect_42 : decode cX4_effect 42 = .ok (.getfield 61, 3) := by decide +kernel
theorem dX4_effect_45 : decode cX4_effect 45 = .ok (.ifCond .le 5, 3) := by decide +kernel
theorem dX4_effect_48 : decode cX4_effect 48 = .ok (.iconst 0, 1) := by decide +kernel
theorem dX4_effect_49 : decode cX4_effect 49 = .ok (.ireturn, 1) := by decide +kernel
theorem dX4_effect_50 : decode cX4_effect 50 = .ok (.aload_n 0, 1) := by decide +kernel
theorem dX4_effect_51 : decode cX4_effect 51 = .ok (.iload_n 1, 1) := by decide +kernel
theorem dX4_effect_52 : decode cX4_effect 52 = .ok (.iload_n 3, 1) := by decide +kernel
theorem dX4_effect_53 : decode cX4_effect 53 = .ok (.iload 4, 2) := by decide +kernel
theorem dX4_effect_55 : decode cX4_effect 55 = .ok (.iload_n 2, 1) := by decide +kernel
theorem dX4_effect_56 : decode cX4_effect 56 = .ok (.iconst 1, 1) := by decide +kernel
theorem dX4_effect_57 : decode cX4_effect 57 = .ok (.iadd, 1) := by decide +kernel
theorem dX4_effect_58 : decode cX4_effect 58 = .ok (.invokevirtual 106, 3) := by decide +kernel
theorem dX4_effect_61 : decode cX4_effect 61 = .ok (.istore 5, 2) := by decide +kernel
theorem dX4_effect_63 : decode cX4_effect 63 = .ok (.aload_n 0, 1) := by decide +kernel
theorem dX4_effect_64 : decode cX4_effect 64 = .ok (.getfield 57, 3) := by decide +kernel
theorem dX4_effect_67 : decode cX4_effect 67 = .ok (.iload_n 3, 1) := by decide +kernel
theorem dX4_effect_68 : decode cX4_effect 68 = .ok (.laload, 1) := by decide +kernel
theorem dX4_effect_69 : decode cX4_effect 69 = .ok (.lstore 6, 2) := by decide +kernel
theorem dX4_effect_71 : decode cX4_effect 71 = .ok (.aload_n 0, 1) := by decide +kernel
theorem dX4_effect_72 : decode cX4_effect 72 = .ok (.iload_n 1, 1) := by decide +kernel
theorem dX4_effect_73 : decode cX4_effect 73 = .ok (.iload_n 3, 1) := by decide +kernel
theorem dX4_effect_74 : decode cX4_effect 74 = .ok (.iload 4, 2) := by decide +kernel
theorem dX4_effect_76 : decode cX4_effect 76 = .ok (.iload_n 2, 1) := by decide +kernel
theorem dX4_effect_77 : decode cX4_effect 77 = .ok (.invokevirtual 106, 3) := by decide +kernel
theorem dX4_effect_80 : decode cX4_effect 80 = .ok (.istore 8, 2) := by decide +kernel
theorem dX4_effect_82 : decode cX4_effect 82 = .ok (.aload_n 0, 1) := by decide +kernel
theorem dX4_effect_83 : decode cX4_effect 83 = .ok (.iload 5, 2) := by decide +kernel
theorem dX4_effect_85 : decode cX4_effect 85 = .ok (.ifCond .eq 12, 3) := by decide +kernel
theorem dX4_effect_88 : decode cX4_effect 88 = .ok (.iload 8, 2) := by decide +kernel
theorem dX4_effect_90 : decode cX4_effect 90 = .ok (.ifCond .eq 7, 3) := by decide +kernel
theorem dX4_effect_93 : decode cX4_effect 93 = .ok (.iconst 0, 1) := by decide +kernel
theorem dX4_effect_94 : decode cX4_effect 94 = .ok (.goto 4, 3) := by decide +kernel
theorem dX4_effect_97 : decode cX4_effect 97 = .ok (.iconst 2, 1) := by decide +kernel
theorem dX4_effect_98 : decode cX4_effect 98 = .ok (.putfield 61, 3) := by decide +kernel
theorem dX4_effect_101 : decode cX4_effect 101 = .ok (.aload_n 0, 1) := by decide +kernel
theorem dX4_effect_102 : decode cX4_effect 102 = .ok (.getfield 61, 3) := by decide +kernel
theorem dX4_effect_105 : decode cX4_effect 105 = .ok (.ifCond .le 7, 3) := by decide +kernel
theorem dX4_effect_108 : decode cX4_effect 108 = .ok (.iconst 0, 1) := by decide +kernel
theorem dX4_effect_109 : decode cX4_effect 109 = .ok (.goto 13, 3) := by decide +kernel
theorem dX4_effect_112 : decode cX4_effect 112 = .ok (.lload 6, 2) := by decide +kernel
theorem dX4_effect_114 : decode cX4_effect 114 = .ok (.aload_n 0, 1) := by decide +kernel
theorem dX4_effect_115 : decode cX4_effect 115 = .ok (.getfield 57, 3) := by decide +kernel
theorem dX4_effect_118 : decode cX4_effect 118 = .ok (.iload_n 3, 1) := by decide +kernel
theorem dX4_effect_119 : decode cX4_effect 119 = .ok (.laload, 1) := by decide +kernel
theorem dX4_effect_120 : decode cX4_effect 120 = .ok (.lsub, 1) := by decide +kernel
theorem dX4_effect_121 : decode cX4_effect 121 = .ok (.l2i, 1) := by decide +kernel
theorem dX4_effect_122 : decode cX4_effect 122 = .ok (.ireturn, 1) := by decide +kernel
set_option maxRecDepth 20000 in
theorem ggX4_seek_X4_isDriver : GoodIn wsX4_seek wsX4_isDriver := goodIn_r _ [8, 9, 10, 11, 7, 12, 55, 56, 57, 58, 59, 60, 61, 62, 63, 64, 65, 66, 67, 68, 69, 70, 71, 72, 73, 74, 75, 76] (by decide +kernel) (by decide +kernel)
set_option maxRecDepth 20000 in
theorem gX4_seek_X4_isDriver : GoodIn wsX4_seek (wsV RX4 110 RX4 yX4_isDriver wsX4_isDriver) := goodIn_app (goodIn_of _ (by decide +kernel)) ggX4_seek_X4_isDriver
set_option maxRecDepth 20000 in
theorem ggX4_seek_X4_isLine : GoodIn wsX4_seek wsX4_isLine := goodIn_r _ [16, 17, 10, 11, 7, 12, 55, 56, 57, 58, 59, 60, 61, 62, 63, 64, 65, 66, 67, 68, 69, 70, 71, 72, 73, 74, 75, 76] (by decide +kernel) (by decide +kernel)
set_option maxRecDepth 20000 in
theorem gX4_seek_X4_isLine : GoodIn wsX4_seek (wsV RX4 128 RX4 yX4_isLine wsX4_isLine) := goodIn_app (goodIn_of _ (by decide +kernel)) ggX4_seek_X4_isLine
set_option maxRecDepth 20000 in
theorem ggX4_seek_X4_isMonth : GoodIn wsX4_seek wsX4_isMonth := goodIn_r _ [20, 10, 11, 7, 12] (by decide +kernel) (by decide +kernel)
set_option maxRecDepth 20000 in
theorem gX4_seek_X4_isMonth : GoodIn wsX4_seek (va_wsS RX4 121 yX4_isMonth wsX4_isMonth) := goodIn_app (goodIn_of _ (by decide +kernel)) ggX4_seek_X4_isMonth
set_option maxRecDepth 20000 in
theorem ggX4_seek_X4_finds : GoodIn wsX4_seek wsX4_finds := goodIn_ca (goodIn_r _ [24, 25, 26, 27, 28, 29, 3, 30, 31, 32, 33, 34, 7, 35, 36, 37, 38, 39, 40, 41, 42, 43, 44, 2, 45, 46, 47, 48, 49, 50, 51, 52, 53, 54, 55, 56, 57, 58, 59, 60, 61, 62, 63, 64, 65, 66, 67, 68, 69, 70, 71, 72, 73, 74, 75, 76] (by decide +kernel) (by decide +kernel)) (goodIn_sub (fun _ h => List.mem_cons_of_mem _ (List.mem_append_right _ h)) (by decide +kernel))
set_option maxRecDepth 20000 in
theorem gX4_seek_X4_finds : GoodIn wsX4_seek (wsV RX4 106 RX4 yX4_finds wsX4_finds) := goodIn_app (goodIn_of _ (by decide +kernel)) ggX4_seek_X4_finds
theorem dX4_seek_0 : decode cX4_seek 0 = .ok (.aload_n 0, 1) := by decide +kernel
theorem dX4_seek_1 : decode cX4_seek 1 = .ok (.aload_n 0, 1) := by decide +kernel
theorem dX4_seek_2 : decode cX4_seek 2 = .ok (.iload_n 1, 1) := by decide +kernel
theorem dX4_seek_3 : decode cX4_seek 3 = .ok (.invokevirtual 110, 3) := by decide +kernel
theorem dX4_seek_6 : decode cX4_seek 6 = .ok (.ifCond .eq 18, 3) := by decide +kernel
theorem dX4_seek_9 : decode cX4_seek 9 = .ok (.aload_n 0, 1) := by decide +kernel
theorem dX4_seek_10 : decode cX4_seek 10 = .ok (.iload_n 2, 1) := by decide +kernel
theorem dX4_seek_11 : decode cX4_seek 11 = .ok (.invokevirtual 128, 3) := by decide +kernel
theorem dX4_seek_14 : decode cX4_seek 14 = .ok (.ifCond .eq 10, 3) := by decide +kernel
theorem dX4_seek_17 : decode cX4_seek 17 = .ok (.iload_n 3, 1) := by decide +kernel
theorem dX4_seek_18 : decode cX4_seek 18 = .ok (.invokestatic 121, 3) := by decide +kernel
theorem dX4_seek_21 : decode cX4_seek 21 = .ok (.ifCond .ne 7, 3) := by decide +kernel
theorem dX4_seek_24 : decode cX4_seek 24 = .ok (.iconst 1, 1) := by decide +kernel
theorem dX4_seek_25 : decode cX4_seek 25 = .ok (.goto 4, 3) := by decide +kernel
theorem dX4_seek_28 : decode cX4_seek 28 = .ok (.iconst 0, 1) := by decide +kernel
theorem dX4_seek_29 : decode cX4_seek 29 = .ok (.putfield 61, 3) := by decide +kernel
theorem dX4_seek_32 : decode cX4_seek 32 = .ok (.aload_n 0, 1) := by decide +kernel
theorem dX4_seek_33 : decode cX4_seek 33 = .ok (.getfield 61, 3) := by decide +kernel
theorem dX4_seek_36 : decode cX4_seek 36 = .ok (.ifCond .le 5, 3) := by decide +kernel
theorem dX4_seek_39 : decode cX4_seek 39 = .ok (.iconst 0, 1) := by decide +kernel
theorem dX4_seek_40 : decode cX4_seek 40 = .ok (.ireturn, 1) := by decide +kernel
theorem dX4_seek_41 : decode cX4_seek 41 = .ok (.aload_n 0, 1) := by decide +kernel
theorem dX4_seek_42 : decode cX4_seek 42 = .ok (.getfield 7, 3) := by decide +kernel
theorem dX4_seek_45 : decode cX4_seek 45 = .ok (.iload_n 1, 1) := by decide +kernel
theorem dX4_seek_46 : decode cX4_seek 46 = .ok (.iaload, 1) := by decide +kernel
theorem dX4_seek_47 : decode cX4_seek 47 = .ok (.istore 5, 2) := by decide +kernel
theorem dX4_seek_49 : decode cX4_seek 49 = .ok (.iconst (-1), 1) := by decide +kernel
theorem dX4_seek_50 : decode cX4_seek 50 = .ok (.istore 6, 2) := by decide +kernel
theorem dX4_seek_52 : decode cX4_seek 52 = .ok (.sipush 999, 3) := by decide +kernel
theorem dX4_seek_55 : decode cX4_seek 55 = .ok (.istore 7, 2) := by decide +kernel
theorem dX4_seek_57 : decode cX4_seek 57 = .ok (.iload 7, 2) := by decide +kernel
theorem dX4_seek_59 : decode cX4_seek 59 = .ok (.ifCond .lt 46, 3) := by decide +kernel
theorem dX4_seek_62 : decode cX4_seek 62 = .ok (.aload_n 0, 1) := by decide +kernel
theorem dX4_seek_63 : decode cX4_seek 63 = .ok (.getfield 7, 3) := by decide +kernel
theorem dX4_seek_66 : decode cX4_seek 66 = .ok (.iload_n 1, 1) := by decide +kernel
theorem dX4_seek_67 : decode cX4_seek 67 = .ok (.iload 7, 2) := by decide +kernel
theorem dX4_seek_69 : decode cX4_seek 69 = .ok (.iastore, 1) := by decide +kernel
theorem dX4_seek_70 : decode cX4_seek 70 = .ok (.aload_n 0, 1) := by decide +kernel
theorem dX4_seek_71 : decode cX4_seek 71 = .ok (.iconst 0, 1) := by decide +kernel
theorem dX4_seek_72 : decode cX4_seek 72 = .ok (.iload_n 2, 1) := by decide +kernel
theorem dX4_seek_73 : decode cX4_seek 73 = .ok (.iload_n 3, 1) := by decide +kernel
theorem dX4_seek_74 : decode cX4_seek 74 = .ok (.bipush 6, 2) := by decide +kernel
theorem dX4_seek_76 : decode cX4_seek 76 = .ok (.invokevirtual 106, 3) := by decide +kernel
theorem dX4_seek_79 : decode cX4_seek 79 = .ok (.ifCond .eq 20, 3) := by decide +kernel
theorem dX4_seek_82 : decode cX4_seek 82 = .ok (.aload_n 0, 1) := by decide +kernel
theorem dX4_seek_83 : decode cX4_seek 83 = .ok (.getfield 57, 3) := by decide +kernel
theorem dX4_seek_86 : decode cX4_seek 86 = .ok (.iload_n 2, 1) := by decide +kernel
theorem dX4_seek_87 : decode cX4_seek 87 = .ok (.laload, 1) := by decide +kernel
theorem dX4_seek_88 : decode cX4_seek 88 = .ok (.iload 4, 2) := by decide +kernel
theorem dX4_seek_90 : decode cX4_seek 90 = .ok (.i2l, 1) := by decide +kernel
theorem dX4_seek_91 : decode cX4_seek 91 = .ok (.lcmp, 1) := by decide +kernel
theorem dX4_seek_92 : decode cX4_seek 92 = .ok (.ifCond .lt 7, 3) := by decide +kernel
theorem dX4_seek_95 : decode cX4_seek 95 = .ok (.iload 7, 2) := by decide +kernel
theorem dX4_seek_97 : decode cX4_seek 97 = .ok (.istore 6, 2) := by decide +kernel
theorem dX4_seek_99 : decode cX4_seek 99 = .ok (.iinc 7 (-1), 3) := by decide +kernel
theorem dX4_seek_102 : decode cX4_seek 102 = .ok (.goto (-45), 3) := by decide +kernel
theorem dX4_seek_105 : decode cX4_seek 105 = .ok (.aload_n 0, 1) := by decide +kernel
theorem dX4_seek_106 : decode cX4_seek 106 = .ok (.getfield 7, 3) := by decide +kernel
theorem dX4_seek_109 : decode cX4_seek 109 = .ok (.iload_n 1, 1) := by decide +kernel
theorem dX4_seek_110 : decode cX4_seek 110 = .ok (.iload 5, 2) := by decide +kernel
theorem dX4_seek_112 : decode cX4_seek 112 = .ok (.iastore, 1) := by decide +kernel
theorem dX4_seek_113 : decode cX4_seek 113 = .ok (.aload_n 0, 1) := by decide +kernel
theorem dX4_seek_114 : decode cX4_seek 114 = .ok (.iload 6, 2) := by decide +kernel
theorem dX4_seek_116 : decode cX4_seek 116 = .ok (.ifCond .ge 7, 3) := by decide +kernel
theorem dX4_seek_119 : decode cX4_seek 119 = .ok (.iconst 2, 1) := by decide +kernel
theorem dX4_seek_120 : decode cX4_seek 120 = .ok (.goto 4, 3) := by decide +kernel
theorem dX4_seek_123 : decode cX4_seek 123 = .ok (.iconst 0, 1) := by decide +kernel
theorem dX4_seek_124 : decode cX4_seek 124 = .ok (.putfield 61, 3) := by decide +kernel
theorem dX4_seek_127 : decode cX4_seek 127 = .ok (.aload_n 0, 1) := by decide +kernel
theorem dX4_seek_128 : decode cX4_seek 128 = .ok (.getfield 61, 3) := by decide +kernel
theorem dX4_seek_131 : decode cX4_seek 131 = .ok (.ifCond .le 7, 3) := by decide +kernel
theorem dX4_seek_134 : decode cX4_seek 134 = .ok (.iconst 0, 1) := by decide +kernel
theorem dX4_seek_135 : decode cX4_seek 135 = .ok (.goto 5, 3) := by decide +kernel
theorem dX4_seek_138 : decode cX4_seek 138 = .ok (.iload 6, 2) := by decide +kernel
theorem dX4_seek_140 : decode cX4_seek 140 = .ok (.ireturn, 1) := by decide +kernel
set_option maxRecDepth 20000 in
theorem ggX4_actual_X4_isLine : GoodIn wsX4_actual wsX4_isLine := goodIn_r _ [11, 12, 13, 14, 10, 15, 60, 61, 62, 63, 64, 65, 66, 67, 68, 69, 70, 71, 72, 73, 74, 75, 76, 77, 78, 79, 80, 81] (by decide +kernel) (by decide +kernel)
set_option maxRecDepth 20000 in
theorem gX4_actual_X4_isLine : GoodIn wsX4_actual (wsV RX4 128 RX4 yX4_isLine wsX4_isLine) := goodIn_app (goodIn_of _ (by decide +kernel)) ggX4_actual_X4_isLine
set_option maxRecDepth 20000 in
theorem ggX4_actual_X4_isMonth : GoodIn wsX4_actual wsX4_isMonth := goodIn_r _ [18, 13, 14, 10, 15] (by decide +kernel) (by decide +kernel)
set_option maxRecDepth 20000 in
theorem gX4_actual_X4_isMonth : GoodIn wsX4_actual (va_wsS RX4 121 yX4_isMonth wsX4_isMonth) := goodIn_app (goodIn_of _ (by decide +kernel)) ggX4_actual_X4_isMonth
set_option maxRecDepth 20000 in
theorem ggX4_actual_X4_in : GoodIn wsX4_actual wsX4_in := goodIn_r _ [15] (by decide +kernel) (by decide +kernel)
set_option maxRecDepth 20000 in
theorem gX4_actual_X4_in : GoodIn wsX4_actual (va_wsS RX4 80 yX4_in wsX4_in) := goodIn_app (goodIn_of _ (by decide +kernel)) ggX4_actual_X4_in
set_option maxRecDepth 20000 in
theorem ggX4_actual_X4_at : GoodIn wsX4_actual wsX4_at := goodIn_r _ [21] (by decide +kernel) (by decide +kernel)
set_option maxRecDepth 20000 in
theorem gX4_actual_X4_at : GoodIn wsX4_actual (va_wsS RX4 94 yX4_at wsX4_at) := goodIn_app (goodIn_of _ (by decide +kernel)) ggX4_actual_X4_at
set_option maxRecDepth 20000 in
theorem ggX4_actual_X4_looks : GoodIn wsX4_actual wsX4_looks := goodIn_ca (goodIn_r _ [25, 12, 26, 27, 28, 29, 19, 20, 10, 21, 30, 31, 32, 33, 5, 34, 35, 36, 37, 6, 38, 39, 40, 41, 42, 43, 44, 45, 46, 47, 48, 49, 50, 51, 52, 53, 54, 55, 56, 57, 58, 59, 60, 61, 62, 63, 64, 65, 66, 67, 68, 69, 70, 71, 72, 73, 74, 75, 76, 77, 78, 79, 80, 81] (by decide +kernel) (by decide +kernel)) (goodIn_sub (fun _ h => List.mem_cons_of_mem _ (List.mem_append_right _ h)) (by decide +kernel))
set_option maxRecDepth 20000 in
theorem gX4_actual_X4_looks : GoodIn wsX4_actual (wsV RX4 114 RX4 yX4_looks wsX4_looks) := goodIn_app (goodIn_of _ (by decide +kernel)) ggX4_actual_X4_looks
theorem dX4_actual_0 : decode cX4_actual 0 = .ok (.aload_n 0, 1) := by decide +kernel
theorem dX4_actual_1 : decode cX4_actual 1 = .ok (.aload_n 0, 1) := by decide +kernel
theorem dX4_actual_2 : decode cX4_actual 2 = .ok (.iload_n 1, 1) := by decide +kernel
theorem dX4_actual_3 : decode cX4_actual 3 = .ok (.invokevirtual 128, 3) := by decide +kernel
theorem dX4_actual_6 : decode cX4_actual 6 = .ok (.ifCond .eq 10, 3) := by decide +kernel
theorem dX4_actual_9 : decode cX4_actual 9 = .ok (.iload_n 2, 1) := by decide +kernel
theorem dX4_actual_10 : decode cX4_actual 10 = .ok (.invokestatic 121, 3) := by decide +kernel
theorem dX4_actual_13 : decode cX4_actual 13 = .ok (.ifCond .ne 7, 3) := by decide +kernel
theorem dX4_actual_16 : decode cX4_actual 16 = .ok (.iconst 1, 1) := by decide +kernel
theorem dX4_actual_17 : decode cX4_actual 17 = .ok (.goto 27, 3) := by decide +kernel
theorem dX4_actual_20 : decode cX4_actual 20 = .ok (.iload_n 2, 1) := by decide +kernel
theorem dX4_actual_21 : decode cX4_actual 21 = .ok (.aload_n 0, 1) := by decide +kernel
theorem dX4_actual_22 : decode cX4_actual 22 = .ok (.getfield 77, 3) := by decide +kernel
theorem dX4_actual_25 : decode cX4_actual 25 = .ok (.if_icmp .gt 14, 3) := by decide +kernel
theorem dX4_actual_28 : decode cX4_actual 28 = .ok (.iload_n 3, 1) := by decide +kernel
theorem dX4_actual_29 : decode cX4_actual 29 = .ok (.ldc 135, 2) := by decide +kernel
theorem dX4_actual_31 : decode cX4_actual 31 = .ok (.ldc 136, 2) := by decide +kernel
theorem dX4_actual_33 : decode cX4_actual 33 = .ok (.invokestatic 80, 3) := by decide +kernel
theorem dX4_actual_36 : decode cX4_actual 36 = .ok (.ifCond .ne 7, 3) := by decide +kernel
theorem dX4_actual_39 : decode cX4_actual 39 = .ok (.iconst 2, 1) := by decide +kernel
theorem dX4_actual_40 : decode cX4_actual 40 = .ok (.goto 4, 3) := by decide +kernel
theorem dX4_actual_43 : decode cX4_actual 43 = .ok (.iconst 0, 1) := by decide +kernel
theorem dX4_actual_44 : decode cX4_actual 44 = .ok (.putfield 61, 3) := by decide +kernel
theorem dX4_actual_47 : decode cX4_actual 47 = .ok (.aload_n 0, 1) := by decide +kernel
theorem dX4_actual_48 : decode cX4_actual 48 = .ok (.getfield 61, 3) := by decide +kernel
theorem dX4_actual_51 : decode cX4_actual 51 = .ok (.ifCond .le 5, 3) := by decide +kernel
theorem dX4_actual_54 : decode cX4_actual 54 = .ok (.iconst 0, 1) := by decide +kernel
theorem dX4_actual_55 : decode cX4_actual 55 = .ok (.ireturn, 1) := by decide +kernel
theorem dX4_actual_56 : decode cX4_actual 56 = .ok (.aload_n 0, 1) := by decide +kernel
theorem dX4_actual_57 : decode cX4_actual 57 = .ok (.getfield 46, 3) := by decide +kernel
theorem dX4_actual_60 : decode cX4_actual 60 = .ok (.iload_n 1, 1) := by decide +kernel
theorem dX4_actual_61 : decode cX4_actual 61 = .ok (.iload_n 2, 1) := by decide +kernel
theorem dX4_actual_62 : decode cX4_actual 62 = .ok (.invokestatic 94, 3) := by decide +kernel
theorem dX4_actual_65 : decode cX4_actual 65 = .ok (.iconst 1, 1) := by decide +kernel
theorem dX4_actual_66 : decode cX4_actual 66 = .ok (.bastore, 1) := by decide +kernel
theorem dX4_actual_67 : decode cX4_actual 67 = .ok (.aload_n 0, 1) := by decide +kernel
theorem dX4_actual_68 : decode cX4_actual 68 = .ok (.getfield 37, 3) := by decide +kernel
theorem dX4_actual_71 : decode cX4_actual 71 = .ok (.iload_n 1, 1) := by decide +kernel
theorem dX4_actual_72 : decode cX4_actual 72 = .ok (.iload_n 2, 1) := by decide +kernel
theorem dX4_actual_73 : decode cX4_actual 73 = .ok (.invokestatic 94, 3) := by decide +kernel
theorem dX4_actual_76 : decode cX4_actual 76 = .ok (.iload_n 3, 1) := by decide +kernel
theorem dX4_actual_77 : decode cX4_actual 77 = .ok (.iastore, 1) := by decide +kernel
theorem dX4_actual_78 : decode cX4_actual 78 = .ok (.aload_n 0, 1) := by decide +kernel
theorem dX4_actual_79 : decode cX4_actual 79 = .ok (.invokevirtual 114, 3) := by decide +kernel
theorem dX4_actual_82 : decode cX4_actual 82 = .ok (.ireturn, 1) := by decide +kernel
set_option maxRecDepth 20000 in
theorem ggX4_takeActual_X4_isLine : GoodIn wsX4_takeActual wsX4_isLine := goodIn_r _ [7, 8, 9, 10, 6, 11, 57, 58, 59, 60, 61, 62, 63, 64, 65, 66, 67, 68, 69, 70, 71, 72, 73, 74, 75, 76, 77, 78] (by decide +kernel) (by decide +kernel)
set_option maxRecDepth 20000 in
theorem gX4_takeActual_X4_isLine : GoodIn wsX4_takeActual (wsV RX4 128 RX4 yX4_isLine wsX4_isLine) := goodIn_app (goodIn_of _ (by decide +kernel)) ggX4_takeActual_X4_isLine
set_option maxRecDepth 20000 in
theorem ggX4_takeActual_X4_isMonth : GoodIn wsX4_takeActual wsX4_isMonth := goodIn_r _ [14, 9, 10, 6, 11] (by decide +kernel) (by decide +kernel)
set_option maxRecDepth 20000 in
theorem gX4_takeActual_X4_isMonth : GoodIn wsX4_takeActual (va_wsS RX4 121 yX4_isMonth wsX4_isMonth) := goodIn_app (goodIn_of _ (by decide +kernel)) ggX4_takeActual_X4_isMonth
set_option maxRecDepth 20000 in
theorem ggX4_takeActual_X4_at : GoodIn wsX4_takeActual wsX4_at := goodIn_r _ [17] (by decide +kernel) (by decide +kernel)
set_option maxRecDepth 20000 in
theorem gX4_takeActual_X4_at : GoodIn wsX4_takeActual (va_wsS RX4 94 yX4_at wsX4_at) := goodIn_app (goodIn_of _ (by decide +kernel)) ggX4_takeActual_X4_at
set_option maxRecDepth 20000 in
theorem ggX4_takeActual_X4_looks : GoodIn wsX4_takeActual wsX4_looks := goodIn_ca (goodIn_r _ [21, 8, 22, 23, 24, 25, 15, 16, 6, 17, 26, 27, 28, 29, 1, 30, 31, 32, 33, 34, 35, 36, 37, 38, 39, 40, 41, 42, 43, 44, 45, 46, 47, 48, 49, 50, 51, 52, 53, 54, 55, 56, 57, 58, 59, 60, 61, 62, 63, 64, 65, 66, 67, 68, 69, 70, 71, 72, 73, 74, 75, 76, 77, 78] (by decide +kernel) (by decide +kernel)) (goodIn_sub (fun _ h => List.mem_cons_of_mem _ (List.mem_append_right _ h)) (by decide +kernel))
set_option maxRecDepth 20000 in
theorem gX4_takeActual_X4_looks : GoodIn wsX4_takeActual (wsV RX4 114 RX4 yX4_looks wsX4_looks) := goodIn_app (goodIn_of _ (by decide +kernel)) ggX4_takeActual_X4_looks
theorem dX4_takeActual_0 : decode cX4_takeActual 0 = .ok (.aload_n 0, 1) := by decide +kernel
theorem dX4_takeActual_1 : decode cX4_takeActual 1 = .ok (.aload_n 0, 1) := by decide +kernel
theorem dX4_takeActual_2 : decode cX4_takeActual 2 = .ok (.iload_n 1, 1) := by decide +kernel
theorem dX4_takeActual_3 : decode cX4_takeActual 3 = .ok (.invokevirtual 128, 3) := by decide +kernel
theorem dX4_takeActual_6 : decode cX4_takeActual 6 = .ok (.ifCond .eq 10, 3) := by decide +kernel
theorem dX4_takeActual_9 : decode cX4_takeActual 9 = .ok (.iload_n 2, 1) := by decide +kernel
theorem dX4_takeActual_10 : decode cX4_takeActual 10 = .ok (.invokestatic 121, 3) := by decide +kernel
theorem dX4_takeActual_13 : decode cX4_takeActual 13 = .ok (.ifCond .ne 7, 3) := by decide +kernel
theorem dX4_takeActual_16 : decode cX4_takeActual 16 = .ok (.iconst 1, 1) := by decide +kernel
theorem dX4_takeActual_17 : decode cX4_takeActual 17 = .ok (.goto 21, 3) := by decide +kernel
theorem dX4_takeActual_20 : decode cX4_takeActual 20 = .ok (.aload_n 0, 1) := by decide +kernel
theorem dX4_takeActual_21 : decode cX4_takeActual 21 = .ok (.getfield 46, 3) := by decide +kernel
theorem dX4_takeActual_24 : decode cX4_takeActual 24 = .ok (.iload_n 1, 1) := by decide +kernel
theorem dX4_takeActual_25 : decode cX4_takeActual 25 = .ok (.iload_n 2, 1) := by decide +kernel
theorem dX4_takeActual_26 : decode cX4_takeActual 26 = .ok (.invokestatic 94, 3) := by decide +kernel
theorem dX4_takeActual_29 : decode cX4_takeActual 29 = .ok (.baload, 1) := by decide +kernel
theorem dX4_takeActual_30 : decode cX4_takeActual 30 = .ok (.ifCond .ne 7, 3) := by decide +kernel
theorem dX4_takeActual_33 : decode cX4_takeActual 33 = .ok (.iconst 2, 1) := by decide +kernel
theorem dX4_takeActual_34 : decode cX4_takeActual 34 = .ok (.goto 4, 3) := by decide +kernel
theorem dX4_takeActual_37 : decode cX4_takeActual 37 = .ok (.iconst 0, 1) := by decide +kernel
theorem dX4_takeActual_38 : decode cX4_takeActual 38 = .ok (.putfield 61, 3) := by decide +kernel
theorem dX4_takeActual_41 : decode cX4_takeActual 41 = .ok (.aload_n 0, 1) := by decide +kernel
theorem dX4_takeActual_42 : decode cX4_takeActual 42 = .ok (.getfield 61, 3) := by decide +kernel
theorem dX4_takeActual_45 : decode cX4_takeActual 45 = .ok (.ifCond .le 5, 3) := by decide +kernel
theorem dX4_takeActual_48 : decode cX4_takeActual 48 = .ok (.iconst 0, 1) := by decide +kernel
theorem dX4_takeActual_49 : decode cX4_takeActual 49 = .ok (.ireturn, 1) := by decide +kernel
theorem dX4_takeActual_50 : decode cX4_takeActual 50 = .ok (.aload_n 0, 1) := by decide +kernel
theorem dX4_takeActual_51 : decode cX4_takeActual 51 = .ok (.getfield 46, 3) := by decide +kernel
theorem dX4_takeActual_54 : decode cX4_takeActual 54 = .ok (.iload_n 1, 1) := by decide +kernel
theorem dX4_takeActual_55 : decode cX4_takeActual 55 = .ok (.iload_n 2, 1) := by decide +kernel
theorem dX4_takeActual_56 : decode cX4_takeActual 56 = .ok (.invokestatic 94, 3) := by decide +kernel
theorem dX4_takeActual_59 : decode cX4_takeActual 59 = .ok (.iconst 0, 1) := by decide +kernel
theorem dX4_takeActual_60 : decode cX4_takeActual 60 = .ok (.bastore, 1) := by decide +kernel
theorem dX4_takeActual_61 : decode cX4_takeActual 61 = .ok (.aload_n 0, 1) := by decide +kernel
theorem dX4_takeActual_62 : decode cX4_takeActual 62 = .ok (.invokevirtual 114, 3) := by decide +kernel
theorem dX4_takeActual_65 : decode cX4_takeActual 65 = .ok (.ireturn, 1) := by decide +kernel
set_option maxRecDepth 20000 in
theorem ggX4_pass_X4_checked : GoodIn wsX4_pass wsX4_checked := goodIn_r _ [6, 7, 8, 9, 10, 11, 12, 13, 14, 15, 16, 17, 18, 19, 20, 21, 22, 23, 24, 25, 26, 27, 28, 29] (by decide +kernel) (by decide +kernel)
set_option maxRecDepth 20000 in
theorem gX4_pass_X4_checked : GoodIn wsX4_pass (wsV RX4 124 RX4 yX4_checked wsX4_checked) := goodIn_app (goodIn_of _ (by decide +kernel)) ggX4_pass_X4_checked
theorem dX4_pass_0 : decode cX4_pass 0 = .ok (.aload_n 0, 1) := by decide +kernel
theorem dX4_pass_1 : decode cX4_pass 1 = .ok (.aload_n 0, 1) := by decide +kernel
theorem dX4_pass_2 : decode cX4_pass 2 = .ok (.getfield 77, 3) := by decide +kernel
theorem dX4_pass_5 : decode cX4_pass 5 = .ok (.bipush 11, 2) := by decide +kernel
theorem dX4_pass_7 : decode cX4_pass 7 = .ok (.if_icmp .ge 7, 3) := by decide +kernel
theorem dX4_pass_10 : decode cX4_pass 10 = .ok (.iconst 1, 1) := by decide +kernel
theorem dX4_pass_11 : decode cX4_pass 11 = .ok (.goto 4, 3) := by decide +kernel
theorem dX4_pass_14 : decode cX4_pass 14 = .ok (.iconst 0, 1) := by decide +kernel
theorem dX4_pass_15 : decode cX4_pass 15 = .ok (.invokevirtual 124, 3) := by decide +kernel
theorem dX4_pass_18 : decode cX4_pass 18 = .ok (.ifCond .le 5, 3) := by decide +kernel
theorem dX4_pass_21 : decode cX4_pass 21 = .ok (.iconst 0, 1) := by decide +kernel
theorem dX4_pass_22 : decode cX4_pass 22 = .ok (.ireturn, 1) := by decide +kernel
theorem dX4_pass_23 : decode cX4_pass 23 = .ok (.aload_n 0, 1) := by decide +kernel
theorem dX4_pass_24 : decode cX4_pass 24 = .ok (.dup, 1) := by decide +kernel
theorem dX4_pass_25 : decode cX4_pass 25 = .ok (.getfield 77, 3) := by decide +kernel
theorem dX4_pass_28 : decode cX4_pass 28 = .ok (.iconst 1, 1) := by decide +kernel
theorem dX4_pass_29 : decode cX4_pass 29 = .ok (.iadd, 1) := by decide +kernel
theorem dX4_pass_30 : decode cX4_pass 30 = .ok (.putfield 77, 3) := by decide +kernel
theorem dX4_pass_33 : decode cX4_pass 33 = .ok (.aload_n 0, 1) := by decide +kernel
theorem dX4_pass_34 : decode cX4_pass 34 = .ok (.getfield 77, 3) := by decide +kernel
theorem dX4_pass_37 : decode cX4_pass 37 = .ok (.ireturn, 1) := by decide +kernel
theorem dX4_month_0 : decode cX4_month 0 = .ok (.aload_n 0, 1) := by decide +kernel
theorem dX4_month_1 : decode cX4_month 1 = .ok (.iconst 0, 1) := by decide +kernel
theorem dX4_month_2 : decode cX4_month 2 = .ok (.putfield 61, 3) := by decide +kernel
theorem dX4_month_5 : decode cX4_month 5 = .ok (.aload_n 0, 1) := by decide +kernel
theorem dX4_month_6 : decode cX4_month 6 = .ok (.getfield 77, 3) := by decide +kernel
theorem dX4_month_9 : decode cX4_month 9 = .ok (.ireturn, 1) := by decide +kernel
set_option maxRecDepth 20000 in
theorem ggX4_approve_X4_isLine : GoodIn wsX4_approve wsX4_isLine := goodIn_r _ [10, 11, 12, 13, 9, 14, 53, 54, 55, 56, 57, 58, 59, 60, 61, 62, 63, 64, 65, 66, 67, 68, 69, 70, 71, 72, 73, 74] (by decide +kernel) (by decide +kernel)
set_option maxRecDepth 20000 in
theorem gX4_approve_X4_isLine : GoodIn wsX4_approve (wsV RX4 128 RX4 yX4_isLine wsX4_isLine) := goodIn_app (goodIn_of _ (by decide +kernel)) ggX4_approve_X4_isLine
set_option maxRecDepth 20000 in
theorem ggX4_approve_X4_isMonth : GoodIn wsX4_approve wsX4_isMonth := goodIn_r _ [17, 12, 13, 9, 14] (by decide +kernel) (by decide +kernel)
set_option maxRecDepth 20000 in
theorem gX4_approve_X4_isMonth : GoodIn wsX4_approve (va_wsS RX4 121 yX4_isMonth wsX4_isMonth) := goodIn_app (goodIn_of _ (by decide +kernel)) ggX4_approve_X4_isMonth
set_option maxRecDepth 20000 in
theorem ggX4_approve_X4_in : GoodIn wsX4_approve wsX4_in := goodIn_r _ [14] (by decide +kernel) (by decide +kernel)
set_option maxRecDepth 20000 in
theorem gX4_approve_X4_in : GoodIn wsX4_approve (va_wsS RX4 80 yX4_in wsX4_in) := goodIn_app (goodIn_of _ (by decide +kernel)) ggX4_approve_X4_in
set_option maxRecDepth 20000 in
theorem ggX4_approve_X4_finds : GoodIn wsX4_approve wsX4_finds := goodIn_ca (goodIn_r _ [21, 22, 23, 24, 25, 26, 4, 27, 28, 29, 30, 31, 9, 32, 33, 34, 35, 36, 37, 38, 39, 40, 41, 42, 43, 44, 45, 46, 47, 48, 49, 50, 51, 52, 53, 54, 55, 56, 57, 58, 59, 60, 61, 62, 63, 64, 65, 66, 67, 68, 69, 70, 71, 72, 73, 74] (by decide +kernel) (by decide +kernel)) (goodIn_sub (fun _ h => List.mem_cons_of_mem _ (List.mem_append_right _ h)) (by decide +kernel))
set_option maxRecDepth 20000 in
theorem gX4_approve_X4_finds : GoodIn wsX4_approve (wsV RX4 106 RX4 yX4_finds wsX4_finds) := goodIn_app (goodIn_of _ (by decide +kernel)) ggX4_approve_X4_finds
set_option maxRecDepth 20000 in
theorem ggX4_approve_X4_at : GoodIn wsX4_approve wsX4_at := goodIn_r _ [32] (by decide +kernel) (by decide +kernel)
set_option maxRecDepth 20000 in
theorem gX4_approve_X4_at : GoodIn wsX4_approve (va_wsS RX4 94 yX4_at wsX4_at) := goodIn_app (goodIn_of _ (by decide +kernel)) ggX4_approve_X4_at
theorem dX4_approve_0 : decode cX4_approve 0 = .ok (.aload_n 0, 1) := by decide +kernel
theorem dX4_approve_1 : decode cX4_approve 1 = .ok (.aload_n 0, 1) := by decide +kernel
theorem dX4_approve_2 : decode cX4_approve 2 = .ok (.iload_n 1, 1) := by decide +kernel
theorem dX4_approve_3 : decode cX4_approve 3 = .ok (.invokevirtual 128, 3) := by decide +kernel
theorem dX4_approve_6 : decode cX4_approve 6 = .ok (.ifCond .eq 10, 3) := by decide +kernel
theorem dX4_approve_9 : decode cX4_approve 9 = .ok (.iload_n 2, 1) := by decide +kernel
theorem dX4_approve_10 : decode cX4_approve 10 = .ok (.invokestatic 121, 3) := by decide +kernel
theorem dX4_approve_13 : decode cX4_approve 13 = .ok (.ifCond .ne 7, 3) := by decide +kernel
theorem dX4_approve_16 : decode cX4_approve 16 = .ok (.iconst 1, 1) := by decide +kernel
theorem dX4_approve_17 : decode cX4_approve 17 = .ok (.goto 35, 3) := by decide +kernel
theorem dX4_approve_20 : decode cX4_approve 20 = .ok (.iload_n 3, 1) := by decide +kernel
theorem dX4_approve_21 : decode cX4_approve 21 = .ok (.iconst 0, 1) := by decide +kernel
theorem dX4_approve_22 : decode cX4_approve 22 = .ok (.sipush 9999, 3) := by decide +kernel
theorem dX4_approve_25 : decode cX4_approve 25 = .ok (.invokestatic 80, 3) := by decide +kernel
theorem dX4_approve_28 : decode cX4_approve 28 = .ok (.ifCond .ne 7, 3) := by decide +kernel
theorem dX4_approve_31 : decode cX4_approve 31 = .ok (.iconst 2, 1) := by decide +kernel
theorem dX4_approve_32 : decode cX4_approve 32 = .ok (.goto 20, 3) := by decide +kernel
theorem dX4_approve_35 : decode cX4_approve 35 = .ok (.aload_n 0, 1) := by decide +kernel
theorem dX4_approve_36 : decode cX4_approve 36 = .ok (.iconst 0, 1) := by decide +kernel
theorem dX4_approve_37 : decode cX4_approve 37 = .ok (.iload_n 1, 1) := by decide +kernel
theorem dX4_approve_38 : decode cX4_approve 38 = .ok (.iload_n 2, 1) := by decide +kernel
theorem dX4_approve_39 : decode cX4_approve 39 = .ok (.bipush 6, 2) := by decide +kernel
theorem dX4_approve_41 : decode cX4_approve 41 = .ok (.invokevirtual 106, 3) := by decide +kernel
theorem dX4_approve_44 : decode cX4_approve 44 = .ok (.ifCond .ne 7, 3) := by decide +kernel
theorem dX4_approve_47 : decode cX4_approve 47 = .ok (.iconst 3, 1) := by decide +kernel
theorem dX4_approve_48 : decode cX4_approve 48 = .ok (.goto 4, 3) := by decide +kernel
theorem dX4_approve_51 : decode cX4_approve 51 = .ok (.iconst 0, 1) := by decide +kernel
theorem dX4_approve_52 : decode cX4_approve 52 = .ok (.putfield 61, 3) := by decide +kernel
theorem dX4_approve_55 : decode cX4_approve 55 = .ok (.aload_n 0, 1) := by decide +kernel
theorem dX4_approve_56 : decode cX4_approve 56 = .ok (.getfield 61, 3) := by decide +kernel
theorem dX4_approve_59 : decode cX4_approve 59 = .ok (.ifCond .le 5, 3) := by decide +kernel
theorem dX4_approve_62 : decode cX4_approve 62 = .ok (.iconst 0, 1) := by decide +kernel
theorem dX4_approve_63 : decode cX4_approve 63 = .ok (.ireturn, 1) := by decide +kernel
theorem dX4_approve_64 : decode cX4_approve 64 = .ok (.aload_n 0, 1) := by decide +kernel
theorem dX4_approve_65 : decode cX4_approve 65 = .ok (.getfield 53, 3) := by decide +kernel
theorem dX4_approve_68 : decode cX4_approve 68 = .ok (.iload_n 1, 1) := by decide +kernel
theorem dX4_approve_69 : decode cX4_approve 69 = .ok (.iload_n 2, 1) := by decide +kernel
theorem dX4_approve_70 : decode cX4_approve 70 = .ok (.invokestatic 94, 3) := by decide +kernel
theorem dX4_approve_73 : decode cX4_approve 73 = .ok (.bipush 97, 2) := by decide +kernel
theorem dX4_approve_75 : decode cX4_approve 75 = .ok (.castore, 1) := by decide +kernel
theorem dX4_approve_76 : decode cX4_approve 76 = .ok (.aload_n 0, 1) := by decide +kernel
theorem dX4_approve_77 : decode cX4_approve 77 = .ok (.getfield 40, 3) := by decide +kernel
theorem dX4_approve_80 : decode cX4_approve 80 = .ok (.iload_n 1, 1) := by decide +kernel
theorem dX4_approve_81 : decode cX4_approve 81 = .ok (.iload_n 2, 1) := by decide +kernel
theorem dX4_approve_82 : decode cX4_approve 82 = .ok (.invokestatic 94, 3) := by decide +kernel
theorem dX4_approve_85 : decode cX4_approve 85 = .ok (.aload_n 0, 1) := by decide +kernel
theorem dX4_approve_86 : decode cX4_approve 86 = .ok (.getfield 57, 3) := by decide +kernel
theorem dX4_approve_89 : decode cX4_approve 89 = .ok (.iload_n 1, 1) := by decide +kernel
theorem dX4_approve_90 : decode cX4_approve 90 = .ok (.laload, 1) := by decide +kernel
theorem dX4_approve_91 : decode cX4_approve 91 = .ok (.l2i, 1) := by decide +kernel
theorem dX4_approve_92 : decode cX4_approve 92 = .ok (.iastore, 1) := by decide +kernel
theorem dX4_approve_93 : decode cX4_approve 93 = .ok (.aload_n 0, 1) := by decide +kernel
theorem dX4_approve_94 : decode cX4_approve 94 = .ok (.getfield 43, 3) := by decide +kernel
theorem dX4_approve_97 : decode cX4_approve 97 = .ok (.iload_n 1, 1) := by decide +kernel
theorem dX4_approve_98 : decode cX4_approve 98 = .ok (.iload_n 2, 1) := by decide +kernel
theorem dX4_approve_99 : decode cX4_approve 99 = .ok (.invokestatic 94, 3) := by decide +kernel
theorem dX4_approve_102 : decode cX4_approve 102 = .ok (.iload_n 3, 1) := by decide +kernel
theorem dX4_approve_103 : decode cX4_approve 103 = .ok (.iastore, 1) := by decide +kernel
theorem dX4_approve_104 : decode cX4_approve 104 = .ok (.aload_n 0, 1) := by decide +kernel
theorem dX4_approve_105 : decode cX4_approve 105 = .ok (.getfield 57, 3) := by decide +kernel
theorem dX4_approve_108 : decode cX4_approve 108 = .ok (.iload_n 1, 1) := by decide +kernel
theorem dX4_approve_109 : decode cX4_approve 109 = .ok (.laload, 1) := by decide +kernel
theorem dX4_approve_110 : decode cX4_approve 110 = .ok (.l2i, 1) := by decide +kernel
theorem dX4_approve_111 : decode cX4_approve 111 = .ok (.ireturn, 1) := by decide +kernel
set_option maxRecDepth 20000 in
theorem ggX4_state_X4_isLine : GoodIn wsX4_state wsX4_isLine := goodIn_r _ [6, 7, 8, 9, 5, 10, 22, 23, 24, 25, 26, 27, 28, 29, 30, 31, 32, 33, 34, 35, 36, 37, 38, 39, 40, 41, 42, 43] (by decide +kernel) (by decide +kernel)
set_option maxRecDepth 20000 in
theorem gX4_state_X4_isLine : GoodIn wsX4_state (wsV RX4 128 RX4 yX4_isLine wsX4_isLine) := goodIn_app (goodIn_of _ (by decide +kernel)) ggX4_state_X4_isLine
set_option maxRecDepth 20000 in
theorem ggX4_state_X4_isMonth : GoodIn wsX4_state wsX4_isMonth := goodIn_r _ [13, 8, 9, 5, 10] (by decide +kernel) (by decide +kernel)
set_option maxRecDepth 20000 in
theorem gX4_state_X4_isMonth : GoodIn wsX4_state (va_wsS RX4 121 yX4_isMonth wsX4_isMonth) := goodIn_app (goodIn_of _ (by decide +kernel)) ggX4_state_X4_isMonth
set_option maxRecDepth 20000 in
theorem ggX4_state_X4_checked : GoodIn wsX4_state wsX4_checked := goodIn_r _ [17, 18, 22, 23, 24, 25, 26, 27, 28, 29, 30, 31, 32, 33, 34, 35, 36, 37, 38, 39, 40, 41, 42, 43] (by decide +kernel) (by decide +kernel)
set_option maxRecDepth 20000 in
theorem gX4_state_X4_checked : GoodIn wsX4_state (wsV RX4 124 RX4 yX4_checked wsX4_checked) := goodIn_app (goodIn_of _ (by decide +kernel)) ggX4_state_X4_checked
set_option maxRecDepth 20000 in
theorem ggX4_state_X4_at : GoodIn wsX4_state wsX4_at := goodIn_r _ [21] (by decide +kernel) (by decide +kernel)
set_option maxRecDepth 20000 in
theorem gX4_state_X4_at : GoodIn wsX4_state (va_wsS RX4 94 yX4_at wsX4_at) := goodIn_app (goodIn_of _ (by decide +kernel)) ggX4_state_X4_at
theorem dX4_state_0 : decode cX4_state 0 = .ok (.aload_n 0, 1) := by decide +kernel
theorem dX4_state_1 : decode cX4_state 1 = .ok (.aload_n 0, 1) := by decide +kernel
theorem dX4_state_2 : decode cX4_state 2 = .ok (.iload_n 1, 1) := by decide +kernel
theorem dX4_state_3 : decode cX4_state 3 = .ok (.invokevirtual 128, 3) := by decide +kernel
theorem dX4_state_6 : decode cX4_state 6 = .ok (.ifCond .eq 14, 3) := by decide +kernel
theorem dX4_state_9 : decode cX4_state 9 = .ok (.iload_n 2, 1) := by decide +kernel
theorem dX4_state_10 : decode cX4_state 10 = .ok (.invokestatic 121, 3) := by decide +kernel
theorem dX4_state_13 : decode cX4_state 13 = .ok (.ifCond .eq 7, 3) := by decide +kernel
theorem dX4_state_16 : decode cX4_state 16 = .ok (.iconst 1, 1) := by decide +kernel
theorem dX4_state_17 : decode cX4_state 17 = .ok (.goto 4, 3) := by decide +kernel
theorem dX4_state_20 : decode cX4_state 20 = .ok (.iconst 0, 1) := by decide +kernel
theorem dX4_state_21 : decode cX4_state 21 = .ok (.invokevirtual 124, 3) := by decide +kernel
theorem dX4_state_24 : decode cX4_state 24 = .ok (.ifCond .le 8, 3) := by decide +kernel
theorem dX4_state_27 : decode cX4_state 27 = .ok (.bipush 32, 2) := by decide +kernel
theorem dX4_state_29 : decode cX4_state 29 = .ok (.goto 13, 3) := by decide +kernel
theorem dX4_state_32 : decode cX4_state 32 = .ok (.aload_n 0, 1) := by decide +kernel
theorem dX4_state_33 : decode cX4_state 33 = .ok (.getfield 53, 3) := by decide +kernel
theorem dX4_state_36 : decode cX4_state 36 = .ok (.iload_n 1, 1) := by decide +kernel
theorem dX4_state_37 : decode cX4_state 37 = .ok (.iload_n 2, 1) := by decide +kernel
theorem dX4_state_38 : decode cX4_state 38 = .ok (.invokestatic 94, 3) := by decide +kernel
theorem dX4_state_41 : decode cX4_state 41 = .ok (.caload, 1) := by decide +kernel
theorem dX4_state_42 : decode cX4_state 42 = .ok (.ireturn, 1) := by decide +kernel
set_option maxRecDepth 20000 in
theorem ggX4_drift_X4_isLine : GoodIn wsX4_drift wsX4_isLine := goodIn_r _ [9, 10, 11, 12, 8, 13, 52, 53, 54, 55, 56, 57, 58, 59, 60, 61, 62, 63, 64, 65, 66, 67, 68, 69, 70, 71, 72, 73] (by decide +kernel) (by decide +kernel)
set_option maxRecDepth 20000 in
theorem gX4_drift_X4_isLine : GoodIn wsX4_drift (wsV RX4 128 RX4 yX4_isLine wsX4_isLine) := goodIn_app (goodIn_of _ (by decide +kernel)) ggX4_drift_X4_isLine
set_option maxRecDepth 20000 in
theorem ggX4_drift_X4_isMonth : GoodIn wsX4_drift wsX4_isMonth := goodIn_r _ [16, 11, 12, 8, 13] (by decide +kernel) (by decide +kernel)
set_option maxRecDepth 20000 in
theorem gX4_drift_X4_isMonth : GoodIn wsX4_drift (va_wsS RX4 121 yX4_isMonth wsX4_isMonth) := goodIn_app (goodIn_of _ (by decide +kernel)) ggX4_drift_X4_isMonth
set_option maxRecDepth 20000 in
theorem ggX4_drift_X4_at : GoodIn wsX4_drift wsX4_at := goodIn_r _ [19] (by decide +kernel) (by decide +kernel)
set_option maxRecDepth 20000 in
theorem gX4_drift_X4_at : GoodIn wsX4_drift (va_wsS RX4 94 yX4_at wsX4_at) := goodIn_app (goodIn_of _ (by decide +kernel)) ggX4_drift_X4_at
set_option maxRecDepth 20000 in
theorem ggX4_drift_X4_finds : GoodIn wsX4_drift wsX4_finds := goodIn_ca (goodIn_r _ [23, 24, 25, 26, 27, 28, 3, 29, 30, 31, 17, 18, 8, 19, 32, 33, 34, 35, 36, 37, 38, 39, 40, 41, 42, 43, 44, 45, 46, 47, 48, 49, 50, 51, 52, 53, 54, 55, 56, 57, 58, 59, 60, 61, 62, 63, 64, 65, 66, 67, 68, 69, 70, 71, 72, 73] (by decide +kernel) (by decide +kernel)) (goodIn_sub (fun _ h => List.mem_cons_of_mem _ (List.mem_append_right _ h)) (by decide +kernel))
set_option maxRecDepth 20000 in
theorem gX4_drift_X4_finds : GoodIn wsX4_drift (wsV RX4 106 RX4 yX4_finds wsX4_finds) := goodIn_app (goodIn_of _ (by decide +kernel)) ggX4_drift_X4_finds
theorem dX4_drift_0 : decode cX4_drift 0 = .ok (.aload_n 0, 1) := by decide +kernel
theorem dX4_drift_1 : decode cX4_drift 1 = .ok (.aload_n 0, 1) := by decide +kernel
theorem dX4_drift_2 : decode cX4_drift 2 = .ok (.iload_n 1, 1) := by decide +kernel
theorem dX4_drift_3 : decode cX4_drift 3 = .ok (.invokevirtual 128, 3) := by decide +kernel
theorem dX4_drift_6 : decode cX4_drift 6 = .ok (.ifCond .eq 10, 3) := by decide +kernel
theorem dX4_drift_9 : decode cX4_drift 9 = .ok (.iload_n 2, 1) := by decide +kernel
theorem dX4_drift_10 : decode cX4_drift 10 = .ok (.invokestatic 121, 3) := by decide +kernel
theorem dX4_drift_13 : decode cX4_drift 13 = .ok (.ifCond .ne 7, 3) := by decide +kernel
theorem dX4_drift_16 : decode cX4_drift 16 = .ok (.iconst 1, 1) := by decide +kernel
theorem dX4_drift_17 : decode cX4_drift 17 = .ok (.goto 39, 3) := by decide +kernel
theorem dX4_drift_20 : decode cX4_drift 20 = .ok (.aload_n 0, 1) := by decide +kernel
theorem dX4_drift_21 : decode cX4_drift 21 = .ok (.getfield 53, 3) := by decide +kernel
theorem dX4_drift_24 : decode cX4_drift 24 = .ok (.iload_n 1, 1) := by decide +kernel
theorem dX4_drift_25 : decode cX4_drift 25 = .ok (.iload_n 2, 1) := by decide +kernel
theorem dX4_drift_26 : decode cX4_drift 26 = .ok (.invokestatic 94, 3) := by decide +kernel
theorem dX4_drift_29 : decode cX4_drift 29 = .ok (.caload, 1) := by decide +kernel
theorem dX4_drift_30 : decode cX4_drift 30 = .ok (.bipush 45, 2) := by decide +kernel
theorem dX4_drift_32 : decode cX4_drift 32 = .ok (.if_icmp .ne 7, 3) := by decide +kernel
theorem dX4_drift_35 : decode cX4_drift 35 = .ok (.iconst 2, 1) := by decide +kernel
theorem dX4_drift_36 : decode cX4_drift 36 = .ok (.goto 20, 3) := by decide +kernel
theorem dX4_drift_39 : decode cX4_drift 39 = .ok (.aload_n 0, 1) := by decide +kernel
theorem dX4_drift_40 : decode cX4_drift 40 = .ok (.iconst 0, 1) := by decide +kernel
theorem dX4_drift_41 : decode cX4_drift 41 = .ok (.iload_n 1, 1) := by decide +kernel
theorem dX4_drift_42 : decode cX4_drift 42 = .ok (.iload_n 2, 1) := by decide +kernel
theorem dX4_drift_43 : decode cX4_drift 43 = .ok (.bipush 6, 2) := by decide +kernel
theorem dX4_drift_45 : decode cX4_drift 45 = .ok (.invokevirtual 106, 3) := by decide +kernel
theorem dX4_drift_48 : decode cX4_drift 48 = .ok (.ifCond .ne 7, 3) := by decide +kernel
theorem dX4_drift_51 : decode cX4_drift 51 = .ok (.iconst 3, 1) := by decide +kernel
theorem dX4_drift_52 : decode cX4_drift 52 = .ok (.goto 4, 3) := by decide +kernel
theorem dX4_drift_55 : decode cX4_drift 55 = .ok (.iconst 0, 1) := by decide +kernel
theorem dX4_drift_56 : decode cX4_drift 56 = .ok (.putfield 61, 3) := by decide +kernel
theorem dX4_drift_59 : decode cX4_drift 59 = .ok (.aload_n 0, 1) := by decide +kernel
theorem dX4_drift_60 : decode cX4_drift 60 = .ok (.getfield 61, 3) := by decide +kernel
theorem dX4_drift_63 : decode cX4_drift 63 = .ok (.ifCond .le 7, 3) := by decide +kernel
theorem dX4_drift_66 : decode cX4_drift 66 = .ok (.iconst 0, 1) := by decide +kernel
theorem dX4_drift_67 : decode cX4_drift 67 = .ok (.goto 21, 3) := by decide +kernel
theorem dX4_drift_70 : decode cX4_drift 70 = .ok (.aload_n 0, 1) := by decide +kernel
theorem dX4_drift_71 : decode cX4_drift 71 = .ok (.getfield 57, 3) := by decide +kernel
theorem dX4_drift_74 : decode cX4_drift 74 = .ok (.iload_n 1, 1) := by decide +kernel
theorem dX4_drift_75 : decode cX4_drift 75 = .ok (.laload, 1) := by decide +kernel
theorem dX4_drift_76 : decode cX4_drift 76 = .ok (.l2i, 1) := by decide +kernel
theorem dX4_drift_77 : decode cX4_drift 77 = .ok (.aload_n 0, 1) := by decide +kernel
theorem dX4_drift_78 : decode cX4_drift 78 = .ok (.getfield 40, 3) := by decide +kernel
theorem dX4_drift_81 : decode cX4_drift 81 = .ok (.iload_n 1, 1) := by decide +kernel
theorem dX4_drift_82 : decode cX4_drift 82 = .ok (.iload_n 2, 1) := by decide +kernel
theorem dX4_drift_83 : decode cX4_drift 83 = .ok (.invokestatic 94, 3) := by decide +kernel
theorem dX4_drift_86 : decode cX4_drift 86 = .ok (.iaload, 1) := by decide +kernel
theorem dX4_drift_87 : decode cX4_drift 87 = .ok (.isub, 1) := by decide +kernel
theorem dX4_drift_88 : decode cX4_drift 88 = .ok (.ireturn, 1) := by decide +kernel
theorem dX4_many_0 : decode cX4_many 0 = .ok (.iconst 0, 1) := by decide +kernel
theorem dX4_many_1 : decode cX4_many 1 = .ok (.istore_n 2, 1) := by decide +kernel
theorem dX4_many_2 : decode cX4_many 2 = .ok (.iconst 0, 1) := by decide +kernel
theorem dX4_many_3 : decode cX4_many 3 = .ok (.istore_n 3, 1) := by decide +kernel
theorem dX4_many_4 : decode cX4_many 4 = .ok (.iload_n 3, 1) := by decide +kernel
theorem dX4_many_5 : decode cX4_many 5 = .ok (.bipush 120, 2) := by decide +kernel
theorem dX4_many_7 : decode cX4_many 7 = .ok (.if_icmp .ge 27, 3) := by decide +kernel
theorem dX4_many_10 : decode cX4_many 10 = .ok (.iload_n 2, 1) := by decide +kernel
theorem dX4_many_11 : decode cX4_many 11 = .ok (.aload_n 0, 1) := by decide +kernel
theorem dX4_many_12 : decode cX4_many 12 = .ok (.getfield 53, 3) := by decide +kernel
theorem dX4_many_15 : decode cX4_many 15 = .ok (.iload_n 3, 1) := by decide +kernel
theorem dX4_many_16 : decode cX4_many 16 = .ok (.caload, 1) := by decide +kernel
theorem dX4_many_17 : decode cX4_many 17 = .ok (.iload_n 1, 1) := by decide +kernel
theorem dX4_many_18 : decode cX4_many 18 = .ok (.if_icmp .ne 7, 3) := by decide +kernel
theorem dX4_many_21 : decode cX4_many 21 = .ok (.iconst 1, 1) := by decide +kernel
theorem dX4_many_22 : decode cX4_many 22 = .ok (.goto 4, 3) := by decide +kernel
theorem dX4_many_25 : decode cX4_many 25 = .ok (.iconst 0, 1) := by decide +kernel
theorem dX4_many_26 : decode cX4_many 26 = .ok (.iadd, 1) := by decide +kernel
theorem dX4_many_27 : decode cX4_many 27 = .ok (.istore_n 2, 1) := by decide +kernel
theorem dX4_many_28 : decode cX4_many 28 = .ok (.iinc 3 1, 3) := by decide +kernel
theorem dX4_many_31 : decode cX4_many 31 = .ok (.goto (-27), 3) := by decide +kernel
theorem dX4_many_34 : decode cX4_many 34 = .ok (.iload_n 2, 1) := by decide +kernel
theorem dX4_many_35 : decode cX4_many 35 = .ok (.ireturn, 1) := by decide +kernel
set_option maxRecDepth 20000 in
theorem ggX4_open_X4_many : GoodIn wsX4_open wsX4_many := goodIn_ca (goodIn_r _ [6, 7, 8, 9, 10, 11, 12, 13, 14, 15, 16, 17, 18, 19, 20, 21, 22, 23, 24, 25, 26, 27, 28, 29] (by decide +kernel) (by decide +kernel)) (goodIn_sub (fun _ h => List.mem_cons_of_mem _ (List.mem_append_right _ h)) (by decide +kernel))
set_option maxRecDepth 20000 in
theorem gX4_open_X4_many : GoodIn wsX4_open (wsV RX4 137 RX4 yX4_many wsX4_many) := goodIn_app (goodIn_of _ (by decide +kernel)) ggX4_open_X4_many
theorem dX4_open_0 : decode cX4_open 0 = .ok (.aload_n 0, 1) := by decide +kernel
theorem dX4_open_1 : decode cX4_open 1 = .ok (.iconst 0, 1) := by decide +kernel
theorem dX4_open_2 : decode cX4_open 2 = .ok (.putfield 61, 3) := by decide +kernel
theorem dX4_open_5 : decode cX4_open 5 = .ok (.aload_n 0, 1) := by decide +kernel
theorem dX4_open_6 : decode cX4_open 6 = .ok (.bipush 111, 2) := by decide +kernel
theorem dX4_open_8 : decode cX4_open 8 = .ok (.invokevirtual 137, 3) := by decide +kernel
theorem dX4_open_11 : decode cX4_open 11 = .ok (.ireturn, 1) := by decide +kernel
set_option maxRecDepth 20000 in
theorem ggX4_approvedShare_X4_many : GoodIn wsX4_approvedShare wsX4_many := goodIn_ca (goodIn_r _ [5, 6, 12, 13, 14, 15, 16, 17, 18, 19, 20, 21, 22, 23, 24, 25, 26, 27, 28, 29, 30, 31, 32, 33] (by decide +kernel) (by decide +kernel)) (goodIn_sub (fun _ h => List.mem_cons_of_mem _ (List.mem_append_right _ h)) (by decide +kernel))
set_option maxRecDepth 20000 in
theorem gX4_approvedShare_X4_many : GoodIn wsX4_approvedShare (wsV RX4 137 RX4 yX4_many wsX4_many) := goodIn_app (goodIn_of _ (by decide +kernel)) ggX4_approvedShare_X4_many
set_option maxRecDepth 20000 in
theorem ggX4_approvedShare_X4_checked : GoodIn wsX4_approvedShare wsX4_checked := goodIn_r _ [10, 11, 12, 13, 14, 15, 16, 17, 18, 19, 20, 21, 22, 23, 24, 25, 26, 27, 28, 29, 30, 31, 32, 33] (by decide +kernel) (by decide +kernel)
set_option maxRecDepth 20000 in
theorem gX4_approvedShare_X4_checked : GoodIn wsX4_approvedShare (wsV RX4 124 RX4 yX4_checked wsX4_checked) := goodIn_app (goodIn_of _ (by decide +kernel)) ggX4_approvedShare_X4_checked
theorem dX4_approvedShare_0 : decode cX4_approvedShare 0 = .ok (.aload_n 0, 1) := by decide +kernel
theorem dX4_approvedShare_1 : decode cX4_approvedShare 1 = .ok (.bipush 97, 2) := by decide +kernel
theorem dX4_approvedShare_3 : decode cX4_approvedShare 3 = .ok (.invokevirtual 137, 3) := by decide +kernel
theorem dX4_approvedShare_6 : decode cX4_approvedShare 6 = .ok (.aload_n 0, 1) := by decide +kernel
theorem dX4_approvedShare_7 : decode cX4_approvedShare 7 = .ok (.bipush 111, 2) := by decide +kernel
theorem dX4_approvedShare_9 : decode cX4_approvedShare 9 = .ok (.invokevirtual 137, 3) := by decide +kernel
theorem dX4_approvedShare_12 : decode cX4_approvedShare 12 = .ok (.iadd, 1) := by decide +kernel
theorem dX4_approvedShare_13 : decode cX4_approvedShare 13 = .ok (.istore_n 1, 1) := by decide +kernel
theorem dX4_approvedShare_14 : decode cX4_approvedShare 14 = .ok (.aload_n 0, 1) := by decide +kernel
theorem dX4_approvedShare_15 : decode cX4_approvedShare 15 = .ok (.iload_n 1, 1) := by decide +kernel
theorem dX4_approvedShare_16 : decode cX4_approvedShare 16 = .ok (.ifCond .le 7, 3) := by decide +kernel
theorem dX4_approvedShare_19 : decode cX4_approvedShare 19 = .ok (.iconst 1, 1) := by decide +kernel
theorem dX4_approvedShare_20 : decode cX4_approvedShare 20 = .ok (.goto 4, 3) := by decide +kernel
theorem dX4_approvedShare_23 : decode cX4_approvedShare 23 = .ok (.iconst 0, 1) := by decide +kernel
theorem dX4_approvedShare_24 : decode cX4_approvedShare 24 = .ok (.invokevirtual 124, 3) := by decide +kernel
theorem dX4_approvedShare_27 : decode cX4_approvedShare 27 = .ok (.ifCond .le 7, 3) := by decide +kernel
theorem dX4_approvedShare_30 : decode cX4_approvedShare 30 = .ok (.fconst 0, 1) := by decide +kernel
theorem dX4_approvedShare_31 : decode cX4_approvedShare 31 = .ok (.goto 13, 3) := by decide +kernel
theorem dX4_approvedShare_34 : decode cX4_approvedShare 34 = .ok (.aload_n 0, 1) := by decide +kernel
theorem dX4_approvedShare_35 : decode cX4_approvedShare 35 = .ok (.bipush 97, 2) := by decide +kernel
theorem dX4_approvedShare_37 : decode cX4_approvedShare 37 = .ok (.invokevirtual 137, 3) := by decide +kernel
theorem dX4_approvedShare_40 : decode cX4_approvedShare 40 = .ok (.i2f, 1) := by decide +kernel
theorem dX4_approvedShare_41 : decode cX4_approvedShare 41 = .ok (.iload_n 1, 1) := by decide +kernel
theorem dX4_approvedShare_42 : decode cX4_approvedShare 42 = .ok (.i2f, 1) := by decide +kernel
theorem dX4_approvedShare_43 : decode cX4_approvedShare 43 = .ok (.fdiv, 1) := by decide +kernel
theorem dX4_approvedShare_44 : decode cX4_approvedShare 44 = .ok (.freturn, 1) := by decide +kernel
set_option maxRecDepth 20000 in
theorem ggX4_meanTolerance_X4_many : GoodIn wsX4_meanTolerance wsX4_many := goodIn_ca (goodIn_r _ [7, 1, 13, 14, 15, 16, 17, 18, 19, 20, 21, 22, 23, 24, 25, 26, 27, 28, 29, 30, 31, 32, 33, 34] (by decide +kernel) (by decide +kernel)) (goodIn_sub (fun _ h => List.mem_cons_of_mem _ (List.mem_append_right _ h)) (by decide +kernel))
set_option maxRecDepth 20000 in
theorem gX4_meanTolerance_X4_many : GoodIn wsX4_meanTolerance (wsV RX4 137 RX4 yX4_many wsX4_many) := goodIn_app (goodIn_of _ (by decide +kernel)) ggX4_meanTolerance_X4_many
set_option maxRecDepth 20000 in
theorem ggX4_meanTolerance_X4_checked : GoodIn wsX4_meanTolerance wsX4_checked := goodIn_r _ [11, 12, 13, 14, 15, 16, 17, 18, 19, 20, 21, 22, 23, 24, 25, 26, 27, 28, 29, 30, 31, 32, 33, 34] (by decide +kernel) (by decide +kernel)
set_option maxRecDepth 20000 in
theorem gX4_meanTolerance_X4_checked : GoodIn wsX4_meanTolerance (wsV RX4 124 RX4 yX4_checked wsX4_checked) := goodIn_app (goodIn_of _ (by decide +kernel)) ggX4_meanTolerance_X4_checked
theorem dX4_meanTolerance_0 : decode cX4_meanTolerance 0 = .ok (.iconst 0, 1) := by decide +kernel
theorem dX4_meanTolerance_1 : decode cX4_meanTolerance 1 = .ok (.istore_n 1, 1) := by decide +kernel
theorem dX4_meanTolerance_2 : decode cX4_meanTolerance 2 = .ok (.iconst 0, 1) := by decide +kernel
theorem dX4_meanTolerance_3 : decode cX4_meanTolerance 3 = .ok (.istore_n 2, 1) := by decide +kernel
theorem dX4_meanTolerance_4 : decode cX4_meanTolerance 4 = .ok (.iload_n 2, 1) := by decide +kernel
theorem dX4_meanTolerance_5 : decode cX4_meanTolerance 5 = .ok (.bipush 120, 2) := by decide +kernel
theorem dX4_meanTolerance_7 : decode cX4_meanTolerance 7 = .ok (.if_icmp .ge 33, 3) := by decide +kernel
theorem dX4_meanTolerance_10 : decode cX4_meanTolerance 10 = .ok (.iload_n 1, 1) := by decide +kernel
theorem dX4_meanTolerance_11 : decode cX4_meanTolerance 11 = .ok (.aload_n 0, 1) := by decide +kernel
theorem dX4_meanTolerance_12 : decode cX4_meanTolerance 12 = .ok (.getfield 53, 3) := by decide +kernel
theorem dX4_meanTolerance_15 : decode cX4_meanTolerance 15 = .ok (.iload_n 2, 1) := by decide +kernel
theorem dX4_meanTolerance_16 : decode cX4_meanTolerance 16 = .ok (.caload, 1) := by decide +kernel
theorem dX4_meanTolerance_17 : decode cX4_meanTolerance 17 = .ok (.bipush 45, 2) := by decide +kernel
theorem dX4_meanTolerance_19 : decode cX4_meanTolerance 19 = .ok (.if_icmp .ne 7, 3) := by decide +kernel
theorem dX4_meanTolerance_22 : decode cX4_meanTolerance 22 = .ok (.iconst 0, 1) := by decide +kernel
theorem dX4_meanTolerance_23 : decode cX4_meanTolerance 23 = .ok (.goto 9, 3) := by decide +kernel
theorem dX4_meanTolerance_26 : decode cX4_meanTolerance 26 = .ok (.aload_n 0, 1) := by decide +kernel
theorem dX4_meanTolerance_27 : decode cX4_meanTolerance 27 = .ok (.getfield 43, 3) := by decide +kernel
theorem dX4_meanTolerance_30 : decode cX4_meanTolerance 30 = .ok (.iload_n 2, 1) := by decide +kernel
theorem dX4_meanTolerance_31 : decode cX4_meanTolerance 31 = .ok (.iaload, 1) := by decide +kernel
theorem dX4_meanTolerance_32 : decode cX4_meanTolerance 32 = .ok (.iadd, 1) := by decide +kernel
theorem dX4_meanTolerance_33 : decode cX4_meanTolerance 33 = .ok (.istore_n 1, 1) := by decide +kernel
theorem dX4_meanTolerance_34 : decode cX4_meanTolerance 34 = .ok (.iinc 2 1, 3) := by decide +kernel
theorem dX4_meanTolerance_37 : decode cX4_meanTolerance 37 = .ok (.goto (-33), 3) := by decide +kernel
theorem dX4_meanTolerance_40 : decode cX4_meanTolerance 40 = .ok (.aload_n 0, 1) := by decide +kernel
theorem dX4_meanTolerance_41 : decode cX4_meanTolerance 41 = .ok (.bipush 97, 2) := by decide +kernel
theorem dX4_meanTolerance_43 : decode cX4_meanTolerance 43 = .ok (.invokevirtual 137, 3) := by decide +kernel
theorem dX4_meanTolerance_46 : decode cX4_meanTolerance 46 = .ok (.aload_n 0, 1) := by decide +kernel
theorem dX4_meanTolerance_47 : decode cX4_meanTolerance 47 = .ok (.bipush 111, 2) := by decide +kernel
theorem dX4_meanTolerance_49 : decode cX4_meanTolerance 49 = .ok (.invokevirtual 137, 3) := by decide +kernel
theorem dX4_meanTolerance_52 : decode cX4_meanTolerance 52 = .ok (.iadd, 1) := by decide +kernel
theorem dX4_meanTolerance_53 : decode cX4_meanTolerance 53 = .ok (.istore_n 2, 1) := by decide +kernel
theorem dX4_meanTolerance_54 : decode cX4_meanTolerance 54 = .ok (.aload_n 0, 1) := by decide +kernel
theorem dX4_meanTolerance_55 : decode cX4_meanTolerance 55 = .ok (.iload_n 2, 1) := by decide +kernel
theorem dX4_meanTolerance_56 : decode cX4_meanTolerance 56 = .ok (.ifCond .le 7, 3) := by decide +kernel
theorem dX4_meanTolerance_59 : decode cX4_meanTolerance 59 = .ok (.iconst 1, 1) := by decide +kernel
theorem dX4_meanTolerance_60 : decode cX4_meanTolerance 60 = .ok (.goto 4, 3) := by decide +kernel
theorem dX4_meanTolerance_63 : decode cX4_meanTolerance 63 = .ok (.iconst 0, 1) := by decide +kernel
theorem dX4_meanTolerance_64 : decode cX4_meanTolerance 64 = .ok (.invokevirtual 124, 3) := by decide +kernel
theorem dX4_meanTolerance_67 : decode cX4_meanTolerance 67 = .ok (.ifCond .le 7, 3) := by decide +kernel
theorem dX4_meanTolerance_70 : decode cX4_meanTolerance 70 = .ok (.dconst 0, 1) := by decide +kernel
theorem dX4_meanTolerance_71 : decode cX4_meanTolerance 71 = .ok (.goto 8, 3) := by decide +kernel
theorem dX4_meanTolerance_74 : decode cX4_meanTolerance 74 = .ok (.iload_n 1, 1) := by decide +kernel
theorem dX4_meanTolerance_75 : decode cX4_meanTolerance 75 = .ok (.i2d, 1) := by decide +kernel
theorem dX4_meanTolerance_76 : decode cX4_meanTolerance 76 = .ok (.iload_n 2, 1) := by decide +kernel
theorem dX4_meanTolerance_77 : decode cX4_meanTolerance 77 = .ok (.i2d, 1) := by decide +kernel
theorem dX4_meanTolerance_78 : decode cX4_meanTolerance 78 = .ok (.ddiv, 1) := by decide +kernel
theorem dX4_meanTolerance_79 : decode cX4_meanTolerance 79 = .ok (.dreturn, 1) := by decide +kernel
theorem dJx00060_init_a7421_0 : decode cJx00060_init_a7421 0 = .ok (.aload_n 0, 1) := by decide +kernel
theorem dJx00060_init_a7421_1 : decode cJx00060_init_a7421 1 = .ok (.aload_n 1, 1) := by decide +kernel
theorem dJx00060_init_a7421_2 : decode cJx00060_init_a7421 2 = .ok (.invokespecial 7, 3) := by decide +kernel
theorem dJx00060_init_a7421_5 : decode cJx00060_init_a7421 5 = .ok (.return_, 1) := by decide +kernel
theorem dJ9_abs_0f7a4_0 : decode cJ9_abs_0f7a4 0 = .ok (.iload_n 0, 1) := by decide +kernel
theorem dJ9_abs_0f7a4_1 : decode cJ9_abs_0f7a4 1 = .ok (.ifCond .ge 8, 3) := by decide +kernel
theorem dJ9_abs_0f7a4_4 : decode cJ9_abs_0f7a4 4 = .ok (.iload_n 0, 1) := by decide +kernel
theorem dJ9_abs_0f7a4_5 : decode cJ9_abs_0f7a4 5 = .ok (.ineg, 1) := by decide +kernel
theorem dJ9_abs_0f7a4_6 : decode cJ9_abs_0f7a4 6 = .ok (.goto 4, 3) := by decide +kernel
theorem dJ9_abs_0f7a4_9 : decode cJ9_abs_0f7a4 9 = .ok (.iload_n 0, 1) := by decide +kernel
theorem dJ9_abs_0f7a4_10 : decode cJ9_abs_0f7a4 10 = .ok (.ireturn, 1) := by decide +kernel
set_option maxRecDepth 20000 in
theorem ggL_addDriver_X3_addDriver : GoodIn wsL_addDriver wsX3_addDriver := goodIn_ca (goodIn_ca (goodIn_ca (goodIn_r _ [7, 8, 9, 10, 11, 12, 13, 6, 14, 15, 16, 17, 18, 19, 20, 21, 22, 23] (by decide +kernel) (by decide +kernel)) (goodIn_sub (fun _ h => List.mem_cons_of_mem _ (List.mem_append_left _ (List.mem_append_right _ h))) (by decide +kernel))) (goodIn_sub (fun _ h => List.mem_cons_of_mem _ (List.mem_append_left _ (List.mem_append_left _ (List.mem_append_right _ h)))) (by decide +kernel))) (goodIn_sub (fun _ h => List.mem_cons_of_mem _ (List.mem_append_right _ h)) (by decide +kernel))
set_option maxRecDepth 20000 in
theorem gL_addDriver_X3_addDriver : GoodIn wsL_addDriver (wsV RL 7 RX3 yX3_addDriver wsX3_addDriver) := goodIn_app (goodIn_of _ (by decide +kernel)) ggL_addDriver_X3_addDriver
theorem dL_addDriver_0 : decode cL_addDriver 0 = .ok (.aload_n 2, 1) := by decide +kernel
theorem dL_addDriver_1 : decode cL_addDriver 1 = .ok (.iconst 0, 1) := by decide +kernel
theorem dL_addDriver_2 : decode cL_addDriver 2 = .ok (.aload_n 0, 1) := by decide +kernel
theorem dL_addDriver_3 : decode cL_addDriver 3 = .ok (.iload_n 1, 1) := by decide +kernel
theorem dL_addDriver_4 : decode cL_addDriver 4 = .ok (.invokevirtual 7, 3) := by decide +kernel
theorem dL_addDriver_7 : decode cL_addDriver 7 = .ok (.i2l, 1) := by decide +kernel
theorem dL_addDriver_8 : decode cL_addDriver 8 = .ok (.lastore, 1) := by decide +kernel
theorem dL_addDriver_9 : decode cL_addDriver 9 = .ok (.goto 9, 3) := by decide +kernel
theorem dL_addDriver_12 : decode cL_addDriver 12 = .ok (.astore_n 3, 1) := by decide +kernel
theorem dL_addDriver_13 : decode cL_addDriver 13 = .ok (.iconst 1, 1) := by decide +kernel
theorem dL_addDriver_14 : decode cL_addDriver 14 = .ok (.ireturn, 1) := by decide +kernel
theorem dL_addDriver_15 : decode cL_addDriver 15 = .ok (.astore_n 3, 1) := by decide +kernel
theorem dL_addDriver_16 : decode cL_addDriver 16 = .ok (.iconst 2, 1) := by decide +kernel
theorem dL_addDriver_17 : decode cL_addDriver 17 = .ok (.ireturn, 1) := by decide +kernel
theorem dL_addDriver_18 : decode cL_addDriver 18 = .ok (.iconst 0, 1) := by decide +kernel
theorem dL_addDriver_19 : decode cL_addDriver 19 = .ok (.ireturn, 1) := by decide +kernel
set_option maxRecDepth 20000 in
theorem ggL_setDriver_X3_setDriver : GoodIn wsL_setDriver wsX3_setDriver := goodIn_ca (goodIn_ca (goodIn_ca (goodIn_r _ [7, 8, 9, 10, 11, 6, 12, 13, 14, 15, 16, 17, 18, 19, 20, 21, 22, 23, 24, 25, 26, 27, 28, 29, 30, 31, 32, 33, 34, 35, 36, 37, 38, 39, 40, 41, 42, 43, 44, 45, 46, 47, 48, 49, 50, 51, 52, 53, 54, 55, 56, 57, 58, 59, 60, 61, 62, 63, 64, 65, 66, 67, 68, 69, 70, 71, 72, 73, 74, 75, 76, 77, 78, 79, 80, 81, 82, 83, 84, 85, 86, 87, 88, 89, 90, 91, 92, 93, 94, 95, 96, 97, 98, 99, 100, 101, 102, 103, 104, 105, 106, 107] (by decide +kernel) (by decide +kernel)) (goodIn_sub (fun _ h => List.mem_cons_of_mem _ (List.mem_append_left _ (List.mem_append_left _ (List.mem_append_right _ h)))) (by decide +kernel))) (goodIn_sub (fun _ h => List.mem_cons_of_mem _ (List.mem_append_left _ (List.mem_append_right _ h))) (by decide +kernel))) (goodIn_sub (fun _ h => List.mem_cons_of_mem _ (List.mem_append_right _ h)) (by decide +kernel))
set_option maxRecDepth 20000 in
theorem gL_setDriver_X3_setDriver : GoodIn wsL_setDriver (wsV RL 17 RX3 yX3_setDriver wsX3_setDriver) := goodIn_app (goodIn_of _ (by decide +kernel)) ggL_setDriver_X3_setDriver
theorem dL_setDriver_0 : decode cL_setDriver 0 = .ok (.aload_n 3, 1) := by decide +kernel
theorem dL_setDriver_1 : decode cL_setDriver 1 = .ok (.iconst 0, 1) := by decide +kernel
theorem dL_setDriver_2 : decode cL_setDriver 2 = .ok (.aload_n 0, 1) := by decide +kernel
theorem dL_setDriver_3 : decode cL_setDriver 3 = .ok (.iload_n 1, 1) := by decide +kernel
theorem dL_setDriver_4 : decode cL_setDriver 4 = .ok (.iload_n 2, 1) := by decide +kernel
theorem dL_setDriver_5 : decode cL_setDriver 5 = .ok (.invokevirtual 17, 3) := by decide +kernel
theorem dL_setDriver_8 : decode cL_setDriver 8 = .ok (.i2l, 1) := by decide +kernel
theorem dL_setDriver_9 : decode cL_setDriver 9 = .ok (.lastore, 1) := by decide +kernel
theorem dL_setDriver_10 : decode cL_setDriver 10 = .ok (.goto 11, 3) := by decide +kernel
theorem dL_setDriver_13 : decode cL_setDriver 13 = .ok (.astore 4, 2) := by decide +kernel
theorem dL_setDriver_15 : decode cL_setDriver 15 = .ok (.iconst 1, 1) := by decide +kernel
theorem dL_setDriver_16 : decode cL_setDriver 16 = .ok (.ireturn, 1) := by decide +kernel
theorem dL_setDriver_17 : decode cL_setDriver 17 = .ok (.astore 4, 2) := by decide +kernel
theorem dL_setDriver_19 : decode cL_setDriver 19 = .ok (.iconst 2, 1) := by decide +kernel
theorem dL_setDriver_20 : decode cL_setDriver 20 = .ok (.ireturn, 1) := by decide +kernel
theorem dL_setDriver_21 : decode cL_setDriver 21 = .ok (.iconst 0, 1) := by decide +kernel
theorem dL_setDriver_22 : decode cL_setDriver 22 = .ok (.ireturn, 1) := by decide +kernel
set_option maxRecDepth 20000 in
theorem ggL_driver_X3_driver : GoodIn wsL_driver wsX3_driver := goodIn_ca (goodIn_ca (goodIn_r _ [6, 7, 8, 9, 5, 10, 11, 12, 13, 14, 15, 16, 17, 18, 19, 20, 21, 22, 23, 24, 25, 26, 27, 28, 29, 30, 31, 32, 33, 34, 35, 36, 37, 38, 39, 40, 41, 42, 43, 44, 45, 46, 47] (by decide +kernel) (by decide +kernel)) (goodIn_sub (fun _ h => List.mem_cons_of_mem _ (List.mem_append_right _ h)) (by decide +kernel))) (goodIn_sub (fun _ h => List.mem_cons_of_mem _ (List.mem_append_left _ (List.mem_append_right _ h))) (by decide +kernel))
set_option maxRecDepth 20000 in
theorem gL_driver_X3_driver : GoodIn wsL_driver (wsV RL 23 RX3 yX3_driver wsX3_driver) := goodIn_app (goodIn_of _ (by decide +kernel)) ggL_driver_X3_driver
theorem dL_driver_0 : decode cL_driver 0 = .ok (.aload 4, 2) := by decide +kernel
theorem dL_driver_2 : decode cL_driver 2 = .ok (.iconst 0, 1) := by decide +kernel
theorem dL_driver_3 : decode cL_driver 3 = .ok (.aload_n 0, 1) := by decide +kernel
theorem dL_driver_4 : decode cL_driver 4 = .ok (.iload_n 1, 1) := by decide +kernel
theorem dL_driver_5 : decode cL_driver 5 = .ok (.iload_n 2, 1) := by decide +kernel
theorem dL_driver_6 : decode cL_driver 6 = .ok (.iload_n 3, 1) := by decide +kernel
theorem dL_driver_7 : decode cL_driver 7 = .ok (.invokevirtual 23, 3) := by decide +kernel
theorem dL_driver_10 : decode cL_driver 10 = .ok (.i2l, 1) := by decide +kernel
theorem dL_driver_11 : decode cL_driver 11 = .ok (.lastore, 1) := by decide +kernel
theorem dL_driver_12 : decode cL_driver 12 = .ok (.goto 7, 3) := by decide +kernel
theorem dL_driver_15 : decode cL_driver 15 = .ok (.astore 5, 2) := by decide +kernel
theorem dL_driver_17 : decode cL_driver 17 = .ok (.iconst 1, 1) := by decide +kernel
theorem dL_driver_18 : decode cL_driver 18 = .ok (.ireturn, 1) := by decide +kernel
theorem dL_driver_19 : decode cL_driver 19 = .ok (.iconst 0, 1) := by decide +kernel
theorem dL_driver_20 : decode cL_driver 20 = .ok (.ireturn, 1) := by decide +kernel
set_option maxRecDepth 20000 in
theorem ggL_addLine_X3_addLine : GoodIn wsL_addLine wsX3_addLine := goodIn_ca (goodIn_ca (goodIn_ca (goodIn_ca (goodIn_r _ [8, 9, 10, 11, 12, 13, 14, 15, 16, 7, 17, 18, 19, 20, 21, 22, 23, 24, 25, 26, 27, 28, 29, 30, 31, 32, 33, 34, 35, 36, 37, 38, 39, 40, 41, 42, 43, 44, 45, 46] (by decide +kernel) (by decide +kernel)) (goodIn_sub (fun _ h => List.mem_cons_of_mem _ (List.mem_append_left _ (List.mem_append_left _ (List.mem_append_right _ h)))) (by decide +kernel))) (goodIn_sub (fun _ h => List.mem_cons_of_mem _ (List.mem_append_left _ (List.mem_append_right _ h))) (by decide +kernel))) (goodIn_sub (fun _ h => List.mem_cons_of_mem _ (List.mem_append_right _ h)) (by decide +kernel))) (goodIn_sub (fun _ h => List.mem_cons_of_mem _ (List.mem_append_left _ (List.mem_append_left _ (List.mem_append_left _ (List.mem_append_right _ h))))) (by decide +kernel))
set_option maxRecDepth 20000 in
theorem gL_addLine_X3_addLine : GoodIn wsL_addLine (wsV RL 27 RX3 yX3_addLine wsX3_addLine) := goodIn_app (goodIn_of _ (by decide +kernel)) ggL_addLine_X3_addLine
theorem dL_addLine_0 : decode cL_addLine 0 = .ok (.aload 4, 2) := by decide +kernel
