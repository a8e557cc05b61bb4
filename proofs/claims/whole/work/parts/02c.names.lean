theorem dX0_init_0 : decode cX0_init 0 = .ok (.aload_n 0, 1) := by decide +kernel
theorem dX0_init_1 : decode cX0_init 1 = .ok (.invokespecial 3, 3) := by decide +kernel
theorem dX0_init_4 : decode cX0_init 4 = .ok (.aload_n 0, 1) := by decide +kernel
theorem dX0_init_5 : decode cX0_init 5 = .ok (.bipush 120, 2) := by decide +kernel
theorem dX0_init_7 : decode cX0_init 7 = .ok (.newarray .char, 2) := by decide +kernel
theorem dX0_init_9 : decode cX0_init 9 = .ok (.putfield 9, 3) := by decide +kernel
theorem dX0_init_12 : decode cX0_init 12 = .ok (.aload_n 0, 1) := by decide +kernel
theorem dX0_init_13 : decode cX0_init 13 = .ok (.bipush 120, 2) := by decide +kernel
theorem dX0_init_15 : decode cX0_init 15 = .ok (.newarray .int, 2) := by decide +kernel
theorem dX0_init_17 : decode cX0_init 17 = .ok (.putfield 15, 3) := by decide +kernel
theorem dX0_init_20 : decode cX0_init 20 = .ok (.aload_n 0, 1) := by decide +kernel
theorem dX0_init_21 : decode cX0_init 21 = .ok (.bipush 120, 2) := by decide +kernel
theorem dX0_init_23 : decode cX0_init 23 = .ok (.newarray .int, 2) := by decide +kernel
theorem dX0_init_25 : decode cX0_init 25 = .ok (.putfield 19, 3) := by decide +kernel
theorem dX0_init_28 : decode cX0_init 28 = .ok (.iconst 0, 1) := by decide +kernel
theorem dX0_init_29 : decode cX0_init 29 = .ok (.istore_n 1, 1) := by decide +kernel
theorem dX0_init_30 : decode cX0_init 30 = .ok (.iload_n 1, 1) := by decide +kernel
theorem dX0_init_31 : decode cX0_init 31 = .ok (.bipush 120, 2) := by decide +kernel
theorem dX0_init_33 : decode cX0_init 33 = .ok (.if_icmp .ge 17, 3) := by decide +kernel
theorem dX0_init_36 : decode cX0_init 36 = .ok (.aload_n 0, 1) := by decide +kernel
theorem dX0_init_37 : decode cX0_init 37 = .ok (.getfield 9, 3) := by decide +kernel
theorem dX0_init_40 : decode cX0_init 40 = .ok (.iload_n 1, 1) := by decide +kernel
theorem dX0_init_41 : decode cX0_init 41 = .ok (.bipush 45, 2) := by decide +kernel
theorem dX0_init_43 : decode cX0_init 43 = .ok (.castore, 1) := by decide +kernel
theorem dX0_init_44 : decode cX0_init 44 = .ok (.iinc 1 1, 3) := by decide +kernel
theorem dX0_init_47 : decode cX0_init 47 = .ok (.goto (-17), 3) := by decide +kernel
theorem dX0_init_50 : decode cX0_init 50 = .ok (.return_, 1) := by decide +kernel
theorem dX0_keep_0 : decode cX0_keep 0 = .ok (.aload_n 0, 1) := by decide +kernel
theorem dX0_keep_1 : decode cX0_keep 1 = .ok (.getfield 9, 3) := by decide +kernel
theorem dX0_keep_4 : decode cX0_keep 4 = .ok (.iload_n 1, 1) := by decide +kernel
theorem dX0_keep_5 : decode cX0_keep 5 = .ok (.bipush 97, 2) := by decide +kernel
theorem dX0_keep_7 : decode cX0_keep 7 = .ok (.castore, 1) := by decide +kernel
theorem dX0_keep_8 : decode cX0_keep 8 = .ok (.aload_n 0, 1) := by decide +kernel
theorem dX0_keep_9 : decode cX0_keep 9 = .ok (.getfield 15, 3) := by decide +kernel
theorem dX0_keep_12 : decode cX0_keep 12 = .ok (.iload_n 1, 1) := by decide +kernel
theorem dX0_keep_13 : decode cX0_keep 13 = .ok (.iload_n 2, 1) := by decide +kernel
theorem dX0_keep_14 : decode cX0_keep 14 = .ok (.iastore, 1) := by decide +kernel
theorem dX0_keep_15 : decode cX0_keep 15 = .ok (.aload_n 0, 1) := by decide +kernel
theorem dX0_keep_16 : decode cX0_keep 16 = .ok (.getfield 19, 3) := by decide +kernel
theorem dX0_keep_19 : decode cX0_keep 19 = .ok (.iload_n 1, 1) := by decide +kernel
theorem dX0_keep_20 : decode cX0_keep 20 = .ok (.iload_n 3, 1) := by decide +kernel
theorem dX0_keep_21 : decode cX0_keep 21 = .ok (.iastore, 1) := by decide +kernel
theorem dX0_keep_22 : decode cX0_keep 22 = .ok (.return_, 1) := by decide +kernel
set_option maxRecDepth 20000 in
theorem ggX0_reopenIfDrifted_X0_isDrifted : GoodIn wsX0_reopenIfDrifted wsX0_isDrifted := goodIn_ca (goodIn_r _ [6, 7, 8, 9, 10, 11, 12, 13, 14, 15, 16] (by decide +kernel) (by decide +kernel)) (goodIn_sub (fun _ h => List.mem_cons_of_mem _ (List.mem_append_right _ h)) (by decide +kernel))
set_option maxRecDepth 20000 in
theorem gX0_reopenIfDrifted_X0_isDrifted : GoodIn wsX0_reopenIfDrifted (wsV RX0 22 RX0 yX0_isDrifted wsX0_isDrifted) := goodIn_app (goodIn_of _ (by decide +kernel)) ggX0_reopenIfDrifted_X0_isDrifted
theorem dX0_reopenIfDrifted_0 : decode cX0_reopenIfDrifted 0 = .ok (.aload_n 0, 1) := by decide +kernel
theorem dX0_reopenIfDrifted_1 : decode cX0_reopenIfDrifted 1 = .ok (.getfield 9, 3) := by decide +kernel
theorem dX0_reopenIfDrifted_4 : decode cX0_reopenIfDrifted 4 = .ok (.iload_n 1, 1) := by decide +kernel
theorem dX0_reopenIfDrifted_5 : decode cX0_reopenIfDrifted 5 = .ok (.caload, 1) := by decide +kernel
theorem dX0_reopenIfDrifted_6 : decode cX0_reopenIfDrifted 6 = .ok (.bipush 97, 2) := by decide +kernel
theorem dX0_reopenIfDrifted_8 : decode cX0_reopenIfDrifted 8 = .ok (.if_icmp .ne 12, 3) := by decide +kernel
theorem dX0_reopenIfDrifted_11 : decode cX0_reopenIfDrifted 11 = .ok (.aload_n 0, 1) := by decide +kernel
theorem dX0_reopenIfDrifted_12 : decode cX0_reopenIfDrifted 12 = .ok (.iload_n 1, 1) := by decide +kernel
theorem dX0_reopenIfDrifted_13 : decode cX0_reopenIfDrifted 13 = .ok (.iload_n 2, 1) := by decide +kernel
theorem dX0_reopenIfDrifted_14 : decode cX0_reopenIfDrifted 14 = .ok (.invokevirtual 22, 3) := by decide +kernel
theorem dX0_reopenIfDrifted_17 : decode cX0_reopenIfDrifted 17 = .ok (.ifCond .ne 5, 3) := by decide +kernel
theorem dX0_reopenIfDrifted_20 : decode cX0_reopenIfDrifted 20 = .ok (.iconst 0, 1) := by decide +kernel
theorem dX0_reopenIfDrifted_21 : decode cX0_reopenIfDrifted 21 = .ok (.ireturn, 1) := by decide +kernel
theorem dX0_reopenIfDrifted_22 : decode cX0_reopenIfDrifted 22 = .ok (.aload_n 0, 1) := by decide +kernel
theorem dX0_reopenIfDrifted_23 : decode cX0_reopenIfDrifted 23 = .ok (.getfield 9, 3) := by decide +kernel
theorem dX0_reopenIfDrifted_26 : decode cX0_reopenIfDrifted 26 = .ok (.iload_n 1, 1) := by decide +kernel
theorem dX0_reopenIfDrifted_27 : decode cX0_reopenIfDrifted 27 = .ok (.bipush 111, 2) := by decide +kernel
theorem dX0_reopenIfDrifted_29 : decode cX0_reopenIfDrifted 29 = .ok (.castore, 1) := by decide +kernel
theorem dX0_reopenIfDrifted_30 : decode cX0_reopenIfDrifted 30 = .ok (.iconst 1, 1) := by decide +kernel
theorem dX0_reopenIfDrifted_31 : decode cX0_reopenIfDrifted 31 = .ok (.ireturn, 1) := by decide +kernel
theorem dX0_isDrifted_0 : decode cX0_isDrifted 0 = .ok (.iload_n 2, 1) := by decide +kernel
theorem dX0_isDrifted_1 : decode cX0_isDrifted 1 = .ok (.ldc 26, 2) := by decide +kernel
theorem dX0_isDrifted_3 : decode cX0_isDrifted 3 = .ok (.if_icmp .eq 23, 3) := by decide +kernel
theorem dX0_isDrifted_6 : decode cX0_isDrifted 6 = .ok (.iload_n 2, 1) := by decide +kernel
theorem dX0_isDrifted_7 : decode cX0_isDrifted 7 = .ok (.aload_n 0, 1) := by decide +kernel
theorem dX0_isDrifted_8 : decode cX0_isDrifted 8 = .ok (.getfield 15, 3) := by decide +kernel
theorem dX0_isDrifted_11 : decode cX0_isDrifted 11 = .ok (.iload_n 1, 1) := by decide +kernel
theorem dX0_isDrifted_12 : decode cX0_isDrifted 12 = .ok (.iaload, 1) := by decide +kernel
theorem dX0_isDrifted_13 : decode cX0_isDrifted 13 = .ok (.isub, 1) := by decide +kernel
theorem dX0_isDrifted_14 : decode cX0_isDrifted 14 = .ok (.invokestatic 27, 3) := by decide +kernel
theorem dX0_isDrifted_17 : decode cX0_isDrifted 17 = .ok (.aload_n 0, 1) := by decide +kernel
theorem dX0_isDrifted_18 : decode cX0_isDrifted 18 = .ok (.getfield 19, 3) := by decide +kernel
theorem dX0_isDrifted_21 : decode cX0_isDrifted 21 = .ok (.iload_n 1, 1) := by decide +kernel
theorem dX0_isDrifted_22 : decode cX0_isDrifted 22 = .ok (.iaload, 1) := by decide +kernel
theorem dX0_isDrifted_23 : decode cX0_isDrifted 23 = .ok (.if_icmp .le 7, 3) := by decide +kernel
theorem dX0_isDrifted_26 : decode cX0_isDrifted 26 = .ok (.iconst 1, 1) := by decide +kernel
theorem dX0_isDrifted_27 : decode cX0_isDrifted 27 = .ok (.goto 4, 3) := by decide +kernel
theorem dX0_isDrifted_30 : decode cX0_isDrifted 30 = .ok (.iconst 0, 1) := by decide +kernel
theorem dX0_isDrifted_31 : decode cX0_isDrifted 31 = .ok (.ireturn, 1) := by decide +kernel
theorem dX0_countIn_0 : decode cX0_countIn 0 = .ok (.iconst 0, 1) := by decide +kernel
theorem dX0_countIn_1 : decode cX0_countIn 1 = .ok (.istore_n 2, 1) := by decide +kernel
theorem dX0_countIn_2 : decode cX0_countIn 2 = .ok (.iconst 0, 1) := by decide +kernel
theorem dX0_countIn_3 : decode cX0_countIn 3 = .ok (.istore_n 3, 1) := by decide +kernel
theorem dX0_countIn_4 : decode cX0_countIn 4 = .ok (.iload_n 3, 1) := by decide +kernel
theorem dX0_countIn_5 : decode cX0_countIn 5 = .ok (.bipush 120, 2) := by decide +kernel
theorem dX0_countIn_7 : decode cX0_countIn 7 = .ok (.if_icmp .ge 22, 3) := by decide +kernel
theorem dX0_countIn_10 : decode cX0_countIn 10 = .ok (.aload_n 0, 1) := by decide +kernel
theorem dX0_countIn_11 : decode cX0_countIn 11 = .ok (.getfield 9, 3) := by decide +kernel
theorem dX0_countIn_14 : decode cX0_countIn 14 = .ok (.iload_n 3, 1) := by decide +kernel
theorem dX0_countIn_15 : decode cX0_countIn 15 = .ok (.caload, 1) := by decide +kernel
theorem dX0_countIn_16 : decode cX0_countIn 16 = .ok (.iload_n 1, 1) := by decide +kernel
theorem dX0_countIn_17 : decode cX0_countIn 17 = .ok (.if_icmp .ne 6, 3) := by decide +kernel
theorem dX0_countIn_20 : decode cX0_countIn 20 = .ok (.iinc 2 1, 3) := by decide +kernel
theorem dX0_countIn_23 : decode cX0_countIn 23 = .ok (.iinc 3 1, 3) := by decide +kernel
theorem dX0_countIn_26 : decode cX0_countIn 26 = .ok (.goto (-22), 3) := by decide +kernel
theorem dX0_countIn_29 : decode cX0_countIn 29 = .ok (.iload_n 2, 1) := by decide +kernel
theorem dX0_countIn_30 : decode cX0_countIn 30 = .ok (.ireturn, 1) := by decide +kernel
theorem dX0_sumOfTolerances_0 : decode cX0_sumOfTolerances 0 = .ok (.iconst 0, 1) := by decide +kernel
theorem dX0_sumOfTolerances_1 : decode cX0_sumOfTolerances 1 = .ok (.istore_n 1, 1) := by decide +kernel
theorem dX0_sumOfTolerances_2 : decode cX0_sumOfTolerances 2 = .ok (.iconst 0, 1) := by decide +kernel
theorem dX0_sumOfTolerances_3 : decode cX0_sumOfTolerances 3 = .ok (.istore_n 2, 1) := by decide +kernel
theorem dX0_sumOfTolerances_4 : decode cX0_sumOfTolerances 4 = .ok (.iload_n 2, 1) := by decide +kernel
theorem dX0_sumOfTolerances_5 : decode cX0_sumOfTolerances 5 = .ok (.bipush 120, 2) := by decide +kernel
theorem dX0_sumOfTolerances_7 : decode cX0_sumOfTolerances 7 = .ok (.if_icmp .ge 18, 3) := by decide +kernel
theorem dX0_sumOfTolerances_10 : decode cX0_sumOfTolerances 10 = .ok (.iload_n 1, 1) := by decide +kernel
theorem dX0_sumOfTolerances_11 : decode cX0_sumOfTolerances 11 = .ok (.aload_n 0, 1) := by decide +kernel
theorem dX0_sumOfTolerances_12 : decode cX0_sumOfTolerances 12 = .ok (.getfield 19, 3) := by decide +kernel
theorem dX0_sumOfTolerances_15 : decode cX0_sumOfTolerances 15 = .ok (.iload_n 2, 1) := by decide +kernel
theorem dX0_sumOfTolerances_16 : decode cX0_sumOfTolerances 16 = .ok (.iaload, 1) := by decide +kernel
theorem dX0_sumOfTolerances_17 : decode cX0_sumOfTolerances 17 = .ok (.iadd, 1) := by decide +kernel
theorem dX0_sumOfTolerances_18 : decode cX0_sumOfTolerances 18 = .ok (.istore_n 1, 1) := by decide +kernel
theorem dX0_sumOfTolerances_19 : decode cX0_sumOfTolerances 19 = .ok (.iinc 2 1, 3) := by decide +kernel
theorem dX0_sumOfTolerances_22 : decode cX0_sumOfTolerances 22 = .ok (.goto (-18), 3) := by decide +kernel
theorem dX0_sumOfTolerances_25 : decode cX0_sumOfTolerances 25 = .ok (.iload_n 1, 1) := by decide +kernel
theorem dX0_sumOfTolerances_26 : decode cX0_sumOfTolerances 26 = .ok (.ireturn, 1) := by decide +kernel
theorem dX1_init_0 : decode cX1_init 0 = .ok (.aload_n 0, 1) := by decide +kernel
theorem dX1_init_1 : decode cX1_init 1 = .ok (.invokespecial 3, 3) := by decide +kernel
theorem dX1_init_4 : decode cX1_init 4 = .ok (.aload_n 0, 1) := by decide +kernel
theorem dX1_init_5 : decode cX1_init 5 = .ok (.bipush 10, 2) := by decide +kernel
theorem dX1_init_7 : decode cX1_init 7 = .ok (.newarray .char, 2) := by decide +kernel
theorem dX1_init_9 : decode cX1_init 9 = .ok (.putfield 9, 3) := by decide +kernel
theorem dX1_init_12 : decode cX1_init 12 = .ok (.aload_n 0, 1) := by decide +kernel
theorem dX1_init_13 : decode cX1_init 13 = .ok (.bipush 10, 2) := by decide +kernel
theorem dX1_init_15 : decode cX1_init 15 = .ok (.newarray .int, 2) := by decide +kernel
theorem dX1_init_17 : decode cX1_init 17 = .ok (.putfield 15, 3) := by decide +kernel
theorem dX1_init_20 : decode cX1_init 20 = .ok (.aload_n 0, 1) := by decide +kernel
theorem dX1_init_21 : decode cX1_init 21 = .ok (.bipush 10, 2) := by decide +kernel
theorem dX1_init_23 : decode cX1_init 23 = .ok (.newarray .int, 2) := by decide +kernel
theorem dX1_init_25 : decode cX1_init 25 = .ok (.putfield 19, 3) := by decide +kernel
theorem dX1_init_28 : decode cX1_init 28 = .ok (.aload_n 0, 1) := by decide +kernel
theorem dX1_init_29 : decode cX1_init 29 = .ok (.bipush 120, 2) := by decide +kernel
theorem dX1_init_31 : decode cX1_init 31 = .ok (.newarray .int, 2) := by decide +kernel
theorem dX1_init_33 : decode cX1_init 33 = .ok (.putfield 22, 3) := by decide +kernel
theorem dX1_init_36 : decode cX1_init 36 = .ok (.aload_n 0, 1) := by decide +kernel
theorem dX1_init_37 : decode cX1_init 37 = .ok (.bipush 10, 2) := by decide +kernel
theorem dX1_init_39 : decode cX1_init 39 = .ok (.newarray .boolean, 2) := by decide +kernel
theorem dX1_init_41 : decode cX1_init 41 = .ok (.putfield 25, 3) := by decide +kernel
theorem dX1_init_44 : decode cX1_init 44 = .ok (.aload_n 0, 1) := by decide +kernel
theorem dX1_init_45 : decode cX1_init 45 = .ok (.bipush 10, 2) := by decide +kernel
theorem dX1_init_47 : decode cX1_init 47 = .ok (.newarray .int, 2) := by decide +kernel
theorem dX1_init_49 : decode cX1_init 49 = .ok (.putfield 29, 3) := by decide +kernel
theorem dX1_init_52 : decode cX1_init 52 = .ok (.iconst 0, 1) := by decide +kernel
theorem dX1_init_53 : decode cX1_init 53 = .ok (.istore_n 1, 1) := by decide +kernel
theorem dX1_init_54 : decode cX1_init 54 = .ok (.iload_n 1, 1) := by decide +kernel
theorem dX1_init_55 : decode cX1_init 55 = .ok (.bipush 120, 2) := by decide +kernel
theorem dX1_init_57 : decode cX1_init 57 = .ok (.if_icmp .ge 17, 3) := by decide +kernel
theorem dX1_init_60 : decode cX1_init 60 = .ok (.aload_n 0, 1) := by decide +kernel
theorem dX1_init_61 : decode cX1_init 61 = .ok (.getfield 22, 3) := by decide +kernel
theorem dX1_init_64 : decode cX1_init 64 = .ok (.iload_n 1, 1) := by decide +kernel
theorem dX1_init_65 : decode cX1_init 65 = .ok (.ldc 32, 2) := by decide +kernel
theorem dX1_init_67 : decode cX1_init 67 = .ok (.iastore, 1) := by decide +kernel
theorem dX1_init_68 : decode cX1_init 68 = .ok (.iinc 1 1, 3) := by decide +kernel
theorem dX1_init_71 : decode cX1_init 71 = .ok (.goto (-17), 3) := by decide +kernel
theorem dX1_init_74 : decode cX1_init 74 = .ok (.return_, 1) := by decide +kernel
theorem dX1_add_0 : decode cX1_add 0 = .ok (.aload_n 0, 1) := by decide +kernel
theorem dX1_add_1 : decode cX1_add 1 = .ok (.getfield 9, 3) := by decide +kernel
theorem dX1_add_4 : decode cX1_add 4 = .ok (.aload_n 0, 1) := by decide +kernel
theorem dX1_add_5 : decode cX1_add 5 = .ok (.getfield 33, 3) := by decide +kernel
theorem dX1_add_8 : decode cX1_add 8 = .ok (.iload_n 1, 1) := by decide +kernel
theorem dX1_add_9 : decode cX1_add 9 = .ok (.castore, 1) := by decide +kernel
theorem dX1_add_10 : decode cX1_add 10 = .ok (.aload_n 0, 1) := by decide +kernel
theorem dX1_add_11 : decode cX1_add 11 = .ok (.getfield 15, 3) := by decide +kernel
theorem dX1_add_14 : decode cX1_add 14 = .ok (.aload_n 0, 1) := by decide +kernel
theorem dX1_add_15 : decode cX1_add 15 = .ok (.getfield 33, 3) := by decide +kernel
theorem dX1_add_18 : decode cX1_add 18 = .ok (.iload_n 2, 1) := by decide +kernel
theorem dX1_add_19 : decode cX1_add 19 = .ok (.iastore, 1) := by decide +kernel
theorem dX1_add_20 : decode cX1_add 20 = .ok (.aload_n 0, 1) := by decide +kernel
theorem dX1_add_21 : decode cX1_add 21 = .ok (.getfield 19, 3) := by decide +kernel
theorem dX1_add_24 : decode cX1_add 24 = .ok (.aload_n 0, 1) := by decide +kernel
theorem dX1_add_25 : decode cX1_add 25 = .ok (.getfield 33, 3) := by decide +kernel
theorem dX1_add_28 : decode cX1_add 28 = .ok (.iload_n 3, 1) := by decide +kernel
theorem dX1_add_29 : decode cX1_add 29 = .ok (.iastore, 1) := by decide +kernel
theorem dX1_add_30 : decode cX1_add 30 = .ok (.aload_n 0, 1) := by decide +kernel
theorem dX1_add_31 : decode cX1_add 31 = .ok (.dup, 1) := by decide +kernel
theorem dX1_add_32 : decode cX1_add 32 = .ok (.getfield 33, 3) := by decide +kernel
theorem dX1_add_35 : decode cX1_add 35 = .ok (.iconst 1, 1) := by decide +kernel
theorem dX1_add_36 : decode cX1_add 36 = .ok (.iadd, 1) := by decide +kernel
theorem dX1_add_37 : decode cX1_add 37 = .ok (.putfield 33, 3) := by decide +kernel
theorem dX1_add_40 : decode cX1_add 40 = .ok (.aload_n 0, 1) := by decide +kernel
theorem dX1_add_41 : decode cX1_add 41 = .ok (.getfield 33, 3) := by decide +kernel
theorem dX1_add_44 : decode cX1_add 44 = .ok (.iconst 1, 1) := by decide +kernel
theorem dX1_add_45 : decode cX1_add 45 = .ok (.isub, 1) := by decide +kernel
theorem dX1_add_46 : decode cX1_add 46 = .ok (.ireturn, 1) := by decide +kernel
set_option maxRecDepth 20000 in
theorem ggX1_markNeeded_X3_cell : GoodIn wsX1_markNeeded wsX3_cell := goodIn_r _ [9] (by decide +kernel) (by decide +kernel)
set_option maxRecDepth 20000 in
theorem gX1_markNeeded_X3_cell_n37 : GoodIn wsX1_markNeeded (wsX3_cell) := ggX1_markNeeded_X3_cell
theorem dX1_markNeeded_0 : decode cX1_markNeeded 0 = .ok (.iconst 0, 1) := by decide +kernel
theorem dX1_markNeeded_1 : decode cX1_markNeeded 1 = .ok (.istore_n 3, 1) := by decide +kernel
theorem dX1_markNeeded_2 : decode cX1_markNeeded 2 = .ok (.iload_n 3, 1) := by decide +kernel
theorem dX1_markNeeded_3 : decode cX1_markNeeded 3 = .ok (.iload_n 1, 1) := by decide +kernel
theorem dX1_markNeeded_4 : decode cX1_markNeeded 4 = .ok (.if_icmp .ge 16, 3) := by decide +kernel
theorem dX1_markNeeded_7 : decode cX1_markNeeded 7 = .ok (.aload_n 0, 1) := by decide +kernel
theorem dX1_markNeeded_8 : decode cX1_markNeeded 8 = .ok (.getfield 25, 3) := by decide +kernel
theorem dX1_markNeeded_11 : decode cX1_markNeeded 11 = .ok (.iload_n 3, 1) := by decide +kernel
theorem dX1_markNeeded_12 : decode cX1_markNeeded 12 = .ok (.iconst 0, 1) := by decide +kernel
theorem dX1_markNeeded_13 : decode cX1_markNeeded 13 = .ok (.bastore, 1) := by decide +kernel
theorem dX1_markNeeded_14 : decode cX1_markNeeded 14 = .ok (.iinc 3 1, 3) := by decide +kernel
theorem dX1_markNeeded_17 : decode cX1_markNeeded 17 = .ok (.goto (-15), 3) := by decide +kernel
theorem dX1_markNeeded_20 : decode cX1_markNeeded 20 = .ok (.aload_n 0, 1) := by decide +kernel
theorem dX1_markNeeded_21 : decode cX1_markNeeded 21 = .ok (.getfield 25, 3) := by decide +kernel
theorem dX1_markNeeded_24 : decode cX1_markNeeded 24 = .ok (.iload_n 1, 1) := by decide +kernel
theorem dX1_markNeeded_25 : decode cX1_markNeeded 25 = .ok (.iconst 1, 1) := by decide +kernel
theorem dX1_markNeeded_26 : decode cX1_markNeeded 26 = .ok (.bastore, 1) := by decide +kernel
theorem dX1_markNeeded_27 : decode cX1_markNeeded 27 = .ok (.iload_n 1, 1) := by decide +kernel
theorem dX1_markNeeded_28 : decode cX1_markNeeded 28 = .ok (.istore_n 3, 1) := by decide +kernel
theorem dX1_markNeeded_29 : decode cX1_markNeeded 29 = .ok (.iload_n 3, 1) := by decide +kernel
theorem dX1_markNeeded_30 : decode cX1_markNeeded 30 = .ok (.ifCond .le 68, 3) := by decide +kernel
theorem dX1_markNeeded_33 : decode cX1_markNeeded 33 = .ok (.aload_n 0, 1) := by decide +kernel
theorem dX1_markNeeded_34 : decode cX1_markNeeded 34 = .ok (.getfield 25, 3) := by decide +kernel
theorem dX1_markNeeded_37 : decode cX1_markNeeded 37 = .ok (.iload_n 3, 1) := by decide +kernel
theorem dX1_markNeeded_38 : decode cX1_markNeeded 38 = .ok (.baload, 1) := by decide +kernel
theorem dX1_markNeeded_39 : decode cX1_markNeeded 39 = .ok (.ifCond .eq 53, 3) := by decide +kernel
theorem dX1_markNeeded_42 : decode cX1_markNeeded 42 = .ok (.aload_n 0, 1) := by decide +kernel
theorem dX1_markNeeded_43 : decode cX1_markNeeded 43 = .ok (.getfield 9, 3) := by decide +kernel
theorem dX1_markNeeded_46 : decode cX1_markNeeded 46 = .ok (.iload_n 3, 1) := by decide +kernel
theorem dX1_markNeeded_47 : decode cX1_markNeeded 47 = .ok (.caload, 1) := by decide +kernel
theorem dX1_markNeeded_48 : decode cX1_markNeeded 48 = .ok (.bipush 100, 2) := by decide +kernel
theorem dX1_markNeeded_50 : decode cX1_markNeeded 50 = .ok (.if_icmp .eq 42, 3) := by decide +kernel
theorem dX1_markNeeded_53 : decode cX1_markNeeded 53 = .ok (.aload_n 0, 1) := by decide +kernel
theorem dX1_markNeeded_54 : decode cX1_markNeeded 54 = .ok (.getfield 22, 3) := by decide +kernel
theorem dX1_markNeeded_57 : decode cX1_markNeeded 57 = .ok (.iload_n 3, 1) := by decide +kernel
theorem dX1_markNeeded_58 : decode cX1_markNeeded 58 = .ok (.iload_n 2, 1) := by decide +kernel
theorem dX1_markNeeded_59 : decode cX1_markNeeded 59 = .ok (.invokestatic 37, 3) := by decide +kernel
theorem dX1_markNeeded_62 : decode cX1_markNeeded 62 = .ok (.iaload, 1) := by decide +kernel
theorem dX1_markNeeded_63 : decode cX1_markNeeded 63 = .ok (.ldc 32, 2) := by decide +kernel
theorem dX1_markNeeded_65 : decode cX1_markNeeded 65 = .ok (.if_icmp .ne 27, 3) := by decide +kernel
theorem dX1_markNeeded_68 : decode cX1_markNeeded 68 = .ok (.aload_n 0, 1) := by decide +kernel
theorem dX1_markNeeded_69 : decode cX1_markNeeded 69 = .ok (.getfield 25, 3) := by decide +kernel
theorem dX1_markNeeded_72 : decode cX1_markNeeded 72 = .ok (.aload_n 0, 1) := by decide +kernel
theorem dX1_markNeeded_73 : decode cX1_markNeeded 73 = .ok (.getfield 15, 3) := by decide +kernel
theorem dX1_markNeeded_76 : decode cX1_markNeeded 76 = .ok (.iload_n 3, 1) := by decide +kernel
theorem dX1_markNeeded_77 : decode cX1_markNeeded 77 = .ok (.iaload, 1) := by decide +kernel
theorem dX1_markNeeded_78 : decode cX1_markNeeded 78 = .ok (.iconst 1, 1) := by decide +kernel
theorem dX1_markNeeded_79 : decode cX1_markNeeded 79 = .ok (.bastore, 1) := by decide +kernel
theorem dX1_markNeeded_80 : decode cX1_markNeeded 80 = .ok (.aload_n 0, 1) := by decide +kernel
theorem dX1_markNeeded_81 : decode cX1_markNeeded 81 = .ok (.getfield 25, 3) := by decide +kernel
theorem dX1_markNeeded_84 : decode cX1_markNeeded 84 = .ok (.aload_n 0, 1) := by decide +kernel
theorem dX1_markNeeded_85 : decode cX1_markNeeded 85 = .ok (.getfield 19, 3) := by decide +kernel
theorem dX1_markNeeded_88 : decode cX1_markNeeded 88 = .ok (.iload_n 3, 1) := by decide +kernel
theorem dX1_markNeeded_89 : decode cX1_markNeeded 89 = .ok (.iaload, 1) := by decide +kernel
theorem dX1_markNeeded_90 : decode cX1_markNeeded 90 = .ok (.iconst 1, 1) := by decide +kernel
theorem dX1_markNeeded_91 : decode cX1_markNeeded 91 = .ok (.bastore, 1) := by decide +kernel
theorem dX1_markNeeded_92 : decode cX1_markNeeded 92 = .ok (.iinc 3 (-1), 3) := by decide +kernel
theorem dX1_markNeeded_95 : decode cX1_markNeeded 95 = .ok (.goto (-66), 3) := by decide +kernel
theorem dX1_markNeeded_98 : decode cX1_markNeeded 98 = .ok (.return_, 1) := by decide +kernel
set_option maxRecDepth 20000 in
theorem ggX1_findNeeded_X1_found : GoodIn wsX1_findNeeded wsX1_found := goodIn_ca (goodIn_r _ [7, 8, 9, 10, 11, 2, 12, 13, 14, 15, 16, 17, 6, 18, 19, 20, 21, 22, 23, 24, 25, 26, 27, 28] (by decide +kernel) (by decide +kernel)) (goodIn_sub (fun _ h => List.mem_cons_of_mem _ (List.mem_append_right _ h)) (by decide +kernel))
set_option maxRecDepth 20000 in
theorem gX1_findNeeded_X1_found : GoodIn wsX1_findNeeded (wsV RX1 41 RX1 yX1_found wsX1_found) := goodIn_app (goodIn_of _ (by decide +kernel)) ggX1_findNeeded_X1_found
theorem dX1_findNeeded_0 : decode cX1_findNeeded 0 = .ok (.iconst 0, 1) := by decide +kernel
theorem dX1_findNeeded_1 : decode cX1_findNeeded 1 = .ok (.istore 4, 2) := by decide +kernel
theorem dX1_findNeeded_3 : decode cX1_findNeeded 3 = .ok (.iload 4, 2) := by decide +kernel
theorem dX1_findNeeded_5 : decode cX1_findNeeded 5 = .ok (.iload_n 1, 1) := by decide +kernel
theorem dX1_findNeeded_6 : decode cX1_findNeeded 6 = .ok (.if_icmp .gt 34, 3) := by decide +kernel
theorem dX1_findNeeded_9 : decode cX1_findNeeded 9 = .ok (.aload_n 0, 1) := by decide +kernel
theorem dX1_findNeeded_10 : decode cX1_findNeeded 10 = .ok (.getfield 25, 3) := by decide +kernel
theorem dX1_findNeeded_13 : decode cX1_findNeeded 13 = .ok (.iload 4, 2) := by decide +kernel
theorem dX1_findNeeded_15 : decode cX1_findNeeded 15 = .ok (.baload, 1) := by decide +kernel
theorem dX1_findNeeded_16 : decode cX1_findNeeded 16 = .ok (.ifCond .eq 18, 3) := by decide +kernel
theorem dX1_findNeeded_19 : decode cX1_findNeeded 19 = .ok (.aload_n 0, 1) := by decide +kernel
theorem dX1_findNeeded_20 : decode cX1_findNeeded 20 = .ok (.getfield 29, 3) := by decide +kernel
theorem dX1_findNeeded_23 : decode cX1_findNeeded 23 = .ok (.iload 4, 2) := by decide +kernel
theorem dX1_findNeeded_25 : decode cX1_findNeeded 25 = .ok (.aload_n 0, 1) := by decide +kernel
theorem dX1_findNeeded_26 : decode cX1_findNeeded 26 = .ok (.iload 4, 2) := by decide +kernel
theorem dX1_findNeeded_28 : decode cX1_findNeeded 28 = .ok (.iload_n 2, 1) := by decide +kernel
theorem dX1_findNeeded_29 : decode cX1_findNeeded 29 = .ok (.aload_n 3, 1) := by decide +kernel
theorem dX1_findNeeded_30 : decode cX1_findNeeded 30 = .ok (.invokevirtual 41, 3) := by decide +kernel
theorem dX1_findNeeded_33 : decode cX1_findNeeded 33 = .ok (.iastore, 1) := by decide +kernel
theorem dX1_findNeeded_34 : decode cX1_findNeeded 34 = .ok (.iinc 4 1, 3) := by decide +kernel
theorem dX1_findNeeded_37 : decode cX1_findNeeded 37 = .ok (.goto (-34), 3) := by decide +kernel
theorem dX1_findNeeded_40 : decode cX1_findNeeded 40 = .ok (.aload_n 0, 1) := by decide +kernel
theorem dX1_findNeeded_41 : decode cX1_findNeeded 41 = .ok (.getfield 29, 3) := by decide +kernel
theorem dX1_findNeeded_44 : decode cX1_findNeeded 44 = .ok (.iload_n 1, 1) := by decide +kernel
theorem dX1_findNeeded_45 : decode cX1_findNeeded 45 = .ok (.iaload, 1) := by decide +kernel
theorem dX1_findNeeded_46 : decode cX1_findNeeded 46 = .ok (.ireturn, 1) := by decide +kernel
set_option maxRecDepth 20000 in
theorem ggX1_findAll_X1_found : GoodIn wsX1_findAll wsX1_found := goodIn_ca (goodIn_r _ [7, 8, 9, 10, 11, 2, 12, 13, 14, 15, 16, 17, 6, 18, 19, 20, 21, 22, 23, 24, 25, 26, 27, 28] (by decide +kernel) (by decide +kernel)) (goodIn_sub (fun _ h => List.mem_cons_of_mem _ (List.mem_append_right _ h)) (by decide +kernel))
set_option maxRecDepth 20000 in
theorem gX1_findAll_X1_found : GoodIn wsX1_findAll (wsV RX1 41 RX1 yX1_found wsX1_found) := goodIn_app (goodIn_of _ (by decide +kernel)) ggX1_findAll_X1_found
theorem dX1_findAll_0 : decode cX1_findAll 0 = .ok (.iconst 0, 1) := by decide +kernel
theorem dX1_findAll_1 : decode cX1_findAll 1 = .ok (.istore_n 3, 1) := by decide +kernel
theorem dX1_findAll_2 : decode cX1_findAll 2 = .ok (.iload_n 3, 1) := by decide +kernel
theorem dX1_findAll_3 : decode cX1_findAll 3 = .ok (.aload_n 0, 1) := by decide +kernel
theorem dX1_findAll_4 : decode cX1_findAll 4 = .ok (.getfield 33, 3) := by decide +kernel
theorem dX1_findAll_7 : decode cX1_findAll 7 = .ok (.if_icmp .ge 22, 3) := by decide +kernel
theorem dX1_findAll_10 : decode cX1_findAll 10 = .ok (.aload_n 0, 1) := by decide +kernel
theorem dX1_findAll_11 : decode cX1_findAll 11 = .ok (.getfield 29, 3) := by decide +kernel
theorem dX1_findAll_14 : decode cX1_findAll 14 = .ok (.iload_n 3, 1) := by decide +kernel
theorem dX1_findAll_15 : decode cX1_findAll 15 = .ok (.aload_n 0, 1) := by decide +kernel
theorem dX1_findAll_16 : decode cX1_findAll 16 = .ok (.iload_n 3, 1) := by decide +kernel
theorem dX1_findAll_17 : decode cX1_findAll 17 = .ok (.iload_n 1, 1) := by decide +kernel
theorem dX1_findAll_18 : decode cX1_findAll 18 = .ok (.aload_n 2, 1) := by decide +kernel
theorem dX1_findAll_19 : decode cX1_findAll 19 = .ok (.invokevirtual 41, 3) := by decide +kernel
theorem dX1_findAll_22 : decode cX1_findAll 22 = .ok (.iastore, 1) := by decide +kernel
theorem dX1_findAll_23 : decode cX1_findAll 23 = .ok (.iinc 3 1, 3) := by decide +kernel
theorem dX1_findAll_26 : decode cX1_findAll 26 = .ok (.goto (-24), 3) := by decide +kernel
theorem dX1_findAll_29 : decode cX1_findAll 29 = .ok (.return_, 1) := by decide +kernel
set_option maxRecDepth 20000 in
theorem ggX1_found_X3_cell : GoodIn wsX1_found wsX3_cell := goodIn_r _ [9] (by decide +kernel) (by decide +kernel)
set_option maxRecDepth 20000 in
theorem gX1_found_X3_cell_n37 : GoodIn wsX1_found (wsX3_cell) := ggX1_found_X3_cell
set_option maxRecDepth 20000 in
theorem ggX1_found_X1_combined : GoodIn wsX1_found wsX1_combined := goodIn_r _ [13, 2, 14, 15, 16] (by decide +kernel) (by decide +kernel)
set_option maxRecDepth 20000 in
theorem gX1_found_X1_combined : GoodIn wsX1_found (va_wsS RX1 45 yX1_combined wsX1_combined) := goodIn_app (goodIn_of _ (by decide +kernel)) ggX1_found_X1_combined
theorem dX1_found_0 : decode cX1_found 0 = .ok (.aload_n 0, 1) := by decide +kernel
theorem dX1_found_1 : decode cX1_found 1 = .ok (.getfield 22, 3) := by decide +kernel
theorem dX1_found_4 : decode cX1_found 4 = .ok (.iload_n 1, 1) := by decide +kernel
theorem dX1_found_5 : decode cX1_found 5 = .ok (.iload_n 2, 1) := by decide +kernel
theorem dX1_found_6 : decode cX1_found 6 = .ok (.invokestatic 37, 3) := by decide +kernel
theorem dX1_found_9 : decode cX1_found 9 = .ok (.iaload, 1) := by decide +kernel
theorem dX1_found_10 : decode cX1_found 10 = .ok (.istore 4, 2) := by decide +kernel
theorem dX1_found_12 : decode cX1_found 12 = .ok (.iload 4, 2) := by decide +kernel
theorem dX1_found_14 : decode cX1_found 14 = .ok (.ldc 32, 2) := by decide +kernel
theorem dX1_found_16 : decode cX1_found 16 = .ok (.if_icmp .eq 6, 3) := by decide +kernel
theorem dX1_found_19 : decode cX1_found 19 = .ok (.iload 4, 2) := by decide +kernel
theorem dX1_found_21 : decode cX1_found 21 = .ok (.ireturn, 1) := by decide +kernel
theorem dX1_found_22 : decode cX1_found 22 = .ok (.aload_n 0, 1) := by decide +kernel
theorem dX1_found_23 : decode cX1_found 23 = .ok (.getfield 9, 3) := by decide +kernel
theorem dX1_found_26 : decode cX1_found 26 = .ok (.iload_n 1, 1) := by decide +kernel
theorem dX1_found_27 : decode cX1_found 27 = .ok (.caload, 1) := by decide +kernel
theorem dX1_found_28 : decode cX1_found 28 = .ok (.bipush 100, 2) := by decide +kernel
theorem dX1_found_30 : decode cX1_found 30 = .ok (.if_icmp .ne 12, 3) := by decide +kernel
theorem dX1_found_33 : decode cX1_found 33 = .ok (.aload_n 3, 1) := by decide +kernel
theorem dX1_found_34 : decode cX1_found 34 = .ok (.aload_n 0, 1) := by decide +kernel
theorem dX1_found_35 : decode cX1_found 35 = .ok (.getfield 15, 3) := by decide +kernel
theorem dX1_found_38 : decode cX1_found 38 = .ok (.iload_n 1, 1) := by decide +kernel
theorem dX1_found_39 : decode cX1_found 39 = .ok (.iaload, 1) := by decide +kernel
theorem dX1_found_40 : decode cX1_found 40 = .ok (.iaload, 1) := by decide +kernel
theorem dX1_found_41 : decode cX1_found 41 = .ok (.ireturn, 1) := by decide +kernel
theorem dX1_found_42 : decode cX1_found 42 = .ok (.aload_n 0, 1) := by decide +kernel
theorem dX1_found_43 : decode cX1_found 43 = .ok (.getfield 9, 3) := by decide +kernel
theorem dX1_found_46 : decode cX1_found 46 = .ok (.iload_n 1, 1) := by decide +kernel
theorem dX1_found_47 : decode cX1_found 47 = .ok (.caload, 1) := by decide +kernel
theorem dX1_found_48 : decode cX1_found 48 = .ok (.aload_n 0, 1) := by decide +kernel
theorem dX1_found_49 : decode cX1_found 49 = .ok (.getfield 29, 3) := by decide +kernel
theorem dX1_found_52 : decode cX1_found 52 = .ok (.aload_n 0, 1) := by decide +kernel
theorem dX1_found_53 : decode cX1_found 53 = .ok (.getfield 15, 3) := by decide +kernel
theorem dX1_found_56 : decode cX1_found 56 = .ok (.iload_n 1, 1) := by decide +kernel
theorem dX1_found_57 : decode cX1_found 57 = .ok (.iaload, 1) := by decide +kernel
theorem dX1_found_58 : decode cX1_found 58 = .ok (.iaload, 1) := by decide +kernel
theorem dX1_found_59 : decode cX1_found 59 = .ok (.aload_n 0, 1) := by decide +kernel
theorem dX1_found_60 : decode cX1_found 60 = .ok (.getfield 29, 3) := by decide +kernel
theorem dX1_found_63 : decode cX1_found 63 = .ok (.aload_n 0, 1) := by decide +kernel
theorem dX1_found_64 : decode cX1_found 64 = .ok (.getfield 19, 3) := by decide +kernel
theorem dX1_found_67 : decode cX1_found 67 = .ok (.iload_n 1, 1) := by decide +kernel
theorem dX1_found_68 : decode cX1_found 68 = .ok (.iaload, 1) := by decide +kernel
theorem dX1_found_69 : decode cX1_found 69 = .ok (.iaload, 1) := by decide +kernel
theorem dX1_found_70 : decode cX1_found 70 = .ok (.invokestatic 45, 3) := by decide +kernel
theorem dX1_found_73 : decode cX1_found 73 = .ok (.ireturn, 1) := by decide +kernel
theorem dX1_combined_0 : decode cX1_combined 0 = .ok (.iload_n 1, 1) := by decide +kernel
theorem dX1_combined_1 : decode cX1_combined 1 = .ok (.ldc 32, 2) := by decide +kernel
theorem dX1_combined_3 : decode cX1_combined 3 = .ok (.if_icmp .eq 9, 3) := by decide +kernel
theorem dX1_combined_6 : decode cX1_combined 6 = .ok (.iload_n 2, 1) := by decide +kernel
theorem dX1_combined_7 : decode cX1_combined 7 = .ok (.ldc 32, 2) := by decide +kernel
theorem dX1_combined_9 : decode cX1_combined 9 = .ok (.if_icmp .ne 6, 3) := by decide +kernel
theorem dX1_combined_12 : decode cX1_combined 12 = .ok (.ldc 32, 2) := by decide +kernel
theorem dX1_combined_14 : decode cX1_combined 14 = .ok (.ireturn, 1) := by decide +kernel
theorem dX1_combined_15 : decode cX1_combined 15 = .ok (.iload_n 0, 1) := by decide +kernel
theorem dX1_combined_16 : decode cX1_combined 16 = .ok (.bipush 115, 2) := by decide +kernel
theorem dX1_combined_18 : decode cX1_combined 18 = .ok (.if_icmp .ne 12, 3) := by decide +kernel
theorem dX1_combined_21 : decode cX1_combined 21 = .ok (.iload_n 1, 1) := by decide +kernel
theorem dX1_combined_22 : decode cX1_combined 22 = .ok (.i2l, 1) := by decide +kernel
theorem dX1_combined_23 : decode cX1_combined 23 = .ok (.iload_n 2, 1) := by decide +kernel
theorem dX1_combined_24 : decode cX1_combined 24 = .ok (.i2l, 1) := by decide +kernel
theorem dX1_combined_25 : decode cX1_combined 25 = .ok (.ladd, 1) := by decide +kernel
theorem dX1_combined_26 : decode cX1_combined 26 = .ok (.lstore_n 3, 1) := by decide +kernel
theorem dX1_combined_27 : decode cX1_combined 27 = .ok (.goto 28, 3) := by decide +kernel
theorem dX1_combined_30 : decode cX1_combined 30 = .ok (.iload_n 0, 1) := by decide +kernel
theorem dX1_combined_31 : decode cX1_combined 31 = .ok (.bipush 109, 2) := by decide +kernel
theorem dX1_combined_33 : decode cX1_combined 33 = .ok (.if_icmp .ne 12, 3) := by decide +kernel
theorem dX1_combined_36 : decode cX1_combined 36 = .ok (.iload_n 1, 1) := by decide +kernel
theorem dX1_combined_37 : decode cX1_combined 37 = .ok (.i2l, 1) := by decide +kernel
theorem dX1_combined_38 : decode cX1_combined 38 = .ok (.iload_n 2, 1) := by decide +kernel
theorem dX1_combined_39 : decode cX1_combined 39 = .ok (.i2l, 1) := by decide +kernel
theorem dX1_combined_40 : decode cX1_combined 40 = .ok (.lsub, 1) := by decide +kernel
theorem dX1_combined_41 : decode cX1_combined 41 = .ok (.lstore_n 3, 1) := by decide +kernel
theorem dX1_combined_42 : decode cX1_combined 42 = .ok (.goto 13, 3) := by decide +kernel
theorem dX1_combined_45 : decode cX1_combined 45 = .ok (.iload_n 1, 1) := by decide +kernel
theorem dX1_combined_46 : decode cX1_combined 46 = .ok (.i2l, 1) := by decide +kernel
theorem dX1_combined_47 : decode cX1_combined 47 = .ok (.iload_n 2, 1) := by decide +kernel
theorem dX1_combined_48 : decode cX1_combined 48 = .ok (.i2l, 1) := by decide +kernel
theorem dX1_combined_49 : decode cX1_combined 49 = .ok (.lmul, 1) := by decide +kernel
theorem dX1_combined_50 : decode cX1_combined 50 = .ok (.ldc2_w 49, 3) := by decide +kernel
theorem dX1_combined_53 : decode cX1_combined 53 = .ok (.ldiv, 1) := by decide +kernel
theorem dX1_combined_54 : decode cX1_combined 54 = .ok (.lstore_n 3, 1) := by decide +kernel
theorem dX1_combined_55 : decode cX1_combined 55 = .ok (.lload_n 3, 1) := by decide +kernel
theorem dX1_combined_56 : decode cX1_combined 56 = .ok (.ldc2_w 51, 3) := by decide +kernel
theorem dX1_combined_59 : decode cX1_combined 59 = .ok (.lcmp, 1) := by decide +kernel
theorem dX1_combined_60 : decode cX1_combined 60 = .ok (.ifCond .lt 11, 3) := by decide +kernel
theorem dX1_combined_63 : decode cX1_combined 63 = .ok (.lload_n 3, 1) := by decide +kernel
theorem dX1_combined_64 : decode cX1_combined 64 = .ok (.ldc2_w 53, 3) := by decide +kernel
theorem dX1_combined_67 : decode cX1_combined 67 = .ok (.lcmp, 1) := by decide +kernel
theorem dX1_combined_68 : decode cX1_combined 68 = .ok (.ifCond .le 8, 3) := by decide +kernel
theorem dX1_combined_71 : decode cX1_combined 71 = .ok (.ldc 32, 2) := by decide +kernel
theorem dX1_combined_73 : decode cX1_combined 73 = .ok (.goto 5, 3) := by decide +kernel
theorem dX1_combined_76 : decode cX1_combined 76 = .ok (.lload_n 3, 1) := by decide +kernel
theorem dX1_combined_77 : decode cX1_combined 77 = .ok (.l2i, 1) := by decide +kernel
theorem dX1_combined_78 : decode cX1_combined 78 = .ok (.ireturn, 1) := by decide +kernel
theorem dX2_init_0 : decode cX2_init 0 = .ok (.aload_n 0, 1) := by decide +kernel
theorem dX2_init_1 : decode cX2_init 1 = .ok (.invokespecial 3, 3) := by decide +kernel
theorem dX2_init_4 : decode cX2_init 4 = .ok (.aload_n 0, 1) := by decide +kernel
theorem dX2_init_5 : decode cX2_init 5 = .ok (.iconst 4, 1) := by decide +kernel
theorem dX2_init_6 : decode cX2_init 6 = .ok (.newarray .int, 2) := by decide +kernel
theorem dX2_init_8 : decode cX2_init 8 = .ok (.putfield 9, 3) := by decide +kernel
theorem dX2_init_11 : decode cX2_init 11 = .ok (.aload_n 0, 1) := by decide +kernel
theorem dX2_init_12 : decode cX2_init 12 = .ok (.iconst 4, 1) := by decide +kernel
theorem dX2_init_13 : decode cX2_init 13 = .ok (.newarray .int, 2) := by decide +kernel
theorem dX2_init_15 : decode cX2_init 15 = .ok (.putfield 15, 3) := by decide +kernel
theorem dX2_init_18 : decode cX2_init 18 = .ok (.aload_n 0, 1) := by decide +kernel
theorem dX2_init_19 : decode cX2_init 19 = .ok (.sipush 288, 3) := by decide +kernel
theorem dX2_init_22 : decode cX2_init 22 = .ok (.newarray .int, 2) := by decide +kernel
theorem dX2_init_24 : decode cX2_init 24 = .ok (.putfield 18, 3) := by decide +kernel
theorem dX2_init_27 : decode cX2_init 27 = .ok (.aload_n 0, 1) := by decide +kernel
theorem dX2_init_28 : decode cX2_init 28 = .ok (.iconst 1, 1) := by decide +kernel
theorem dX2_init_29 : decode cX2_init 29 = .ok (.putfield 21, 3) := by decide +kernel
theorem dX2_init_32 : decode cX2_init 32 = .ok (.return_, 1) := by decide +kernel
theorem dX2_add_0 : decode cX2_add 0 = .ok (.aload_n 0, 1) := by decide +kernel
theorem dX2_add_1 : decode cX2_add 1 = .ok (.getfield 9, 3) := by decide +kernel
theorem dX2_add_4 : decode cX2_add 4 = .ok (.aload_n 0, 1) := by decide +kernel
theorem dX2_add_5 : decode cX2_add 5 = .ok (.getfield 21, 3) := by decide +kernel
theorem dX2_add_8 : decode cX2_add 8 = .ok (.iload_n 1, 1) := by decide +kernel
theorem dX2_add_9 : decode cX2_add 9 = .ok (.iastore, 1) := by decide +kernel
theorem dX2_add_10 : decode cX2_add 10 = .ok (.aload_n 0, 1) := by decide +kernel
theorem dX2_add_11 : decode cX2_add 11 = .ok (.dup, 1) := by decide +kernel
theorem dX2_add_12 : decode cX2_add 12 = .ok (.getfield 21, 3) := by decide +kernel
theorem dX2_add_15 : decode cX2_add 15 = .ok (.iconst 1, 1) := by decide +kernel
theorem dX2_add_16 : decode cX2_add 16 = .ok (.iadd, 1) := by decide +kernel
theorem dX2_add_17 : decode cX2_add 17 = .ok (.putfield 21, 3) := by decide +kernel
theorem dX2_add_20 : decode cX2_add 20 = .ok (.aload_n 0, 1) := by decide +kernel
theorem dX2_add_21 : decode cX2_add 21 = .ok (.getfield 21, 3) := by decide +kernel
theorem dX2_add_24 : decode cX2_add 24 = .ok (.iconst 1, 1) := by decide +kernel
theorem dX2_add_25 : decode cX2_add 25 = .ok (.isub, 1) := by decide +kernel
theorem dX2_add_26 : decode cX2_add 26 = .ok (.ireturn, 1) := by decide +kernel
set_option maxRecDepth 20000 in
theorem ggX2_addDifference_X2_place : GoodIn wsX2_addDifference wsX2_place := goodIn_r _ [7] (by decide +kernel) (by decide +kernel)
set_option maxRecDepth 20000 in
theorem gX2_addDifference_X2_place : GoodIn wsX2_addDifference (va_wsS RX2 25 yX2_place wsX2_place) := goodIn_app (goodIn_of _ (by decide +kernel)) ggX2_addDifference_X2_place
theorem dX2_addDifference_0 : decode cX2_addDifference 0 = .ok (.iload_n 3, 1) := by decide +kernel
theorem dX2_addDifference_1 : decode cX2_addDifference 1 = .ok (.istore 5, 2) := by decide +kernel
theorem dX2_addDifference_3 : decode cX2_addDifference 3 = .ok (.iload 5, 2) := by decide +kernel
theorem dX2_addDifference_5 : decode cX2_addDifference 5 = .ok (.bipush 12, 2) := by decide +kernel
theorem dX2_addDifference_7 : decode cX2_addDifference 7 = .ok (.if_icmp .ge 26, 3) := by decide +kernel
theorem dX2_addDifference_10 : decode cX2_addDifference 10 = .ok (.aload_n 0, 1) := by decide +kernel
theorem dX2_addDifference_11 : decode cX2_addDifference 11 = .ok (.getfield 18, 3) := by decide +kernel
theorem dX2_addDifference_14 : decode cX2_addDifference 14 = .ok (.iload_n 1, 1) := by decide +kernel
theorem dX2_addDifference_15 : decode cX2_addDifference 15 = .ok (.iload_n 2, 1) := by decide +kernel
theorem dX2_addDifference_16 : decode cX2_addDifference 16 = .ok (.iload 5, 2) := by decide +kernel
theorem dX2_addDifference_18 : decode cX2_addDifference 18 = .ok (.invokestatic 25, 3) := by decide +kernel
theorem dX2_addDifference_21 : decode cX2_addDifference 21 = .ok (.dup2, 1) := by decide +kernel
theorem dX2_addDifference_22 : decode cX2_addDifference 22 = .ok (.iaload, 1) := by decide +kernel
theorem dX2_addDifference_23 : decode cX2_addDifference 23 = .ok (.iload 4, 2) := by decide +kernel
theorem dX2_addDifference_25 : decode cX2_addDifference 25 = .ok (.iadd, 1) := by decide +kernel
theorem dX2_addDifference_26 : decode cX2_addDifference 26 = .ok (.iastore, 1) := by decide +kernel
theorem dX2_addDifference_27 : decode cX2_addDifference 27 = .ok (.iinc 5 1, 3) := by decide +kernel
theorem dX2_addDifference_30 : decode cX2_addDifference 30 = .ok (.goto (-27), 3) := by decide +kernel
theorem dX2_addDifference_33 : decode cX2_addDifference 33 = .ok (.aload_n 0, 1) := by decide +kernel
theorem dX2_addDifference_34 : decode cX2_addDifference 34 = .ok (.dup, 1) := by decide +kernel
theorem dX2_addDifference_35 : decode cX2_addDifference 35 = .ok (.getfield 29, 3) := by decide +kernel
theorem dX2_addDifference_38 : decode cX2_addDifference 38 = .ok (.iconst 1, 1) := by decide +kernel
theorem dX2_addDifference_39 : decode cX2_addDifference 39 = .ok (.iadd, 1) := by decide +kernel
theorem dX2_addDifference_40 : decode cX2_addDifference 40 = .ok (.putfield 29, 3) := by decide +kernel
theorem dX2_addDifference_43 : decode cX2_addDifference 43 = .ok (.aload_n 0, 1) := by decide +kernel
theorem dX2_addDifference_44 : decode cX2_addDifference 44 = .ok (.getfield 15, 3) := by decide +kernel
theorem dX2_addDifference_47 : decode cX2_addDifference 47 = .ok (.iload_n 1, 1) := by decide +kernel
theorem dX2_addDifference_48 : decode cX2_addDifference 48 = .ok (.dup2, 1) := by decide +kernel
theorem dX2_addDifference_49 : decode cX2_addDifference 49 = .ok (.iaload, 1) := by decide +kernel
theorem dX2_addDifference_50 : decode cX2_addDifference 50 = .ok (.iconst 1, 1) := by decide +kernel
theorem dX2_addDifference_51 : decode cX2_addDifference 51 = .ok (.iadd, 1) := by decide +kernel
theorem dX2_addDifference_52 : decode cX2_addDifference 52 = .ok (.iastore, 1) := by decide +kernel
theorem dX2_addDifference_53 : decode cX2_addDifference 53 = .ok (.aload_n 0, 1) := by decide +kernel
theorem dX2_addDifference_54 : decode cX2_addDifference 54 = .ok (.getfield 15, 3) := by decide +kernel
theorem dX2_addDifference_57 : decode cX2_addDifference 57 = .ok (.iload_n 1, 1) := by decide +kernel
theorem dX2_addDifference_58 : decode cX2_addDifference 58 = .ok (.iaload, 1) := by decide +kernel
theorem dX2_addDifference_59 : decode cX2_addDifference 59 = .ok (.ireturn, 1) := by decide +kernel
set_option maxRecDepth 20000 in
theorem ggX2_addedTo_X2_place : GoodIn wsX2_addedTo wsX2_place := goodIn_r _ [6] (by decide +kernel) (by decide +kernel)
set_option maxRecDepth 20000 in
theorem gX2_addedTo_X2_place : GoodIn wsX2_addedTo (va_wsS RX2 25 yX2_place wsX2_place) := goodIn_app (goodIn_of _ (by decide +kernel)) ggX2_addedTo_X2_place
theorem dX2_addedTo_0 : decode cX2_addedTo 0 = .ok (.iconst 0, 1) := by decide +kernel
theorem dX2_addedTo_1 : decode cX2_addedTo 1 = .ok (.istore 4, 2) := by decide +kernel
theorem dX2_addedTo_3 : decode cX2_addedTo 3 = .ok (.iload_n 1, 1) := by decide +kernel
theorem dX2_addedTo_4 : decode cX2_addedTo 4 = .ok (.istore 5, 2) := by decide +kernel
theorem dX2_addedTo_6 : decode cX2_addedTo 6 = .ok (.iload_n 1, 1) := by decide +kernel
theorem dX2_addedTo_7 : decode cX2_addedTo 7 = .ok (.istore 6, 2) := by decide +kernel
theorem dX2_addedTo_9 : decode cX2_addedTo 9 = .ok (.iload 6, 2) := by decide +kernel
theorem dX2_addedTo_11 : decode cX2_addedTo 11 = .ok (.ifCond .le 42, 3) := by decide +kernel
theorem dX2_addedTo_14 : decode cX2_addedTo 14 = .ok (.iload 6, 2) := by decide +kernel
theorem dX2_addedTo_16 : decode cX2_addedTo 16 = .ok (.iload 5, 2) := by decide +kernel
theorem dX2_addedTo_18 : decode cX2_addedTo 18 = .ok (.if_icmp .ne 29, 3) := by decide +kernel
theorem dX2_addedTo_21 : decode cX2_addedTo 21 = .ok (.iload 4, 2) := by decide +kernel
theorem dX2_addedTo_23 : decode cX2_addedTo 23 = .ok (.aload_n 0, 1) := by decide +kernel
theorem dX2_addedTo_24 : decode cX2_addedTo 24 = .ok (.getfield 18, 3) := by decide +kernel
theorem dX2_addedTo_27 : decode cX2_addedTo 27 = .ok (.iload 6, 2) := by decide +kernel
theorem dX2_addedTo_29 : decode cX2_addedTo 29 = .ok (.iload_n 2, 1) := by decide +kernel
theorem dX2_addedTo_30 : decode cX2_addedTo 30 = .ok (.iload_n 3, 1) := by decide +kernel
theorem dX2_addedTo_31 : decode cX2_addedTo 31 = .ok (.invokestatic 25, 3) := by decide +kernel
theorem dX2_addedTo_34 : decode cX2_addedTo 34 = .ok (.iaload, 1) := by decide +kernel
theorem dX2_addedTo_35 : decode cX2_addedTo 35 = .ok (.iadd, 1) := by decide +kernel
theorem dX2_addedTo_36 : decode cX2_addedTo 36 = .ok (.istore 4, 2) := by decide +kernel
theorem dX2_addedTo_38 : decode cX2_addedTo 38 = .ok (.aload_n 0, 1) := by decide +kernel
theorem dX2_addedTo_39 : decode cX2_addedTo 39 = .ok (.getfield 9, 3) := by decide +kernel
theorem dX2_addedTo_42 : decode cX2_addedTo 42 = .ok (.iload 6, 2) := by decide +kernel
theorem dX2_addedTo_44 : decode cX2_addedTo 44 = .ok (.iaload, 1) := by decide +kernel
theorem dX2_addedTo_45 : decode cX2_addedTo 45 = .ok (.istore 5, 2) := by decide +kernel
theorem dX2_addedTo_47 : decode cX2_addedTo 47 = .ok (.iinc 6 (-1), 3) := by decide +kernel
theorem dX2_addedTo_50 : decode cX2_addedTo 50 = .ok (.goto (-41), 3) := by decide +kernel
theorem dX2_addedTo_53 : decode cX2_addedTo 53 = .ok (.iload 4, 2) := by decide +kernel
theorem dX2_addedTo_55 : decode cX2_addedTo 55 = .ok (.ireturn, 1) := by decide +kernel
theorem dX2_place_0 : decode cX2_place 0 = .ok (.iload_n 0, 1) := by decide +kernel
theorem dX2_place_1 : decode cX2_place 1 = .ok (.bipush 6, 2) := by decide +kernel
theorem dX2_place_3 : decode cX2_place 3 = .ok (.imul, 1) := by decide +kernel
theorem dX2_place_4 : decode cX2_place 4 = .ok (.iload_n 1, 1) := by decide +kernel
theorem dX2_place_5 : decode cX2_place 5 = .ok (.iadd, 1) := by decide +kernel
theorem dX2_place_6 : decode cX2_place 6 = .ok (.bipush 12, 2) := by decide +kernel
theorem dX2_place_8 : decode cX2_place 8 = .ok (.imul, 1) := by decide +kernel
theorem dX2_place_9 : decode cX2_place 9 = .ok (.iload_n 2, 1) := by decide +kernel
theorem dX2_place_10 : decode cX2_place 10 = .ok (.iadd, 1) := by decide +kernel
theorem dX2_place_11 : decode cX2_place 11 = .ok (.ireturn, 1) := by decide +kernel
set_option maxRecDepth 20000 in
theorem ggX3_init_X2_init : GoodIn wsX3_init wsX2_init := goodIn_r _ [20, 21, 2, 3, 4, 22, 23, 24, 25, 51, 52, 53, 54, 55] (by decide +kernel) (by decide +kernel)
set_option maxRecDepth 20000 in
theorem gX3_init_X2_init_n15 : GoodIn wsX3_init (wsX2_init) := ggX3_init_X2_init
set_option maxRecDepth 20000 in
theorem ggX3_init_X1_init : GoodIn wsX3_init wsX1_init := goodIn_ca (goodIn_r _ [27, 28, 2, 3, 29, 30, 4, 31, 32, 33, 34, 35, 36, 37, 56, 57, 58, 59, 60, 61, 62] (by decide +kernel) (by decide +kernel)) (goodIn_sub (fun _ h => List.mem_cons_of_mem _ (List.mem_append_right _ h)) (by decide +kernel))
set_option maxRecDepth 20000 in
theorem gX3_init_X1_init_n22 : GoodIn wsX3_init (wsX1_init) := ggX3_init_X1_init
set_option maxRecDepth 20000 in
theorem ggX3_init_X0_init : GoodIn wsX3_init wsX0_init := goodIn_ca (goodIn_r _ [39, 40, 2, 3, 29, 41, 4, 42, 43, 63, 64, 65] (by decide +kernel) (by decide +kernel)) (goodIn_sub (fun _ h => List.mem_cons_of_mem _ (List.mem_append_right _ h)) (by decide +kernel))
set_option maxRecDepth 20000 in
theorem gX3_init_X0_init_n29 : GoodIn wsX3_init (wsX0_init) := ggX3_init_X0_init
theorem dX3_init_0 : decode cX3_init 0 = .ok (.aload_n 0, 1) := by decide +kernel
theorem dX3_init_1 : decode cX3_init 1 = .ok (.invokespecial 3, 3) := by decide +kernel
theorem dX3_init_4 : decode cX3_init 4 = .ok (.aload_n 0, 1) := by decide +kernel
theorem dX3_init_5 : decode cX3_init 5 = .ok (.bipush 6, 2) := by decide +kernel
theorem dX3_init_7 : decode cX3_init 7 = .ok (.newarray .int, 2) := by decide +kernel
theorem dX3_init_9 : decode cX3_init 9 = .ok (.putfield 9, 3) := by decide +kernel
theorem dX3_init_12 : decode cX3_init 12 = .ok (.aload_n 0, 1) := by decide +kernel
theorem dX3_init_13 : decode cX3_init 13 = .ok (.new 13, 3) := by decide +kernel
theorem dX3_init_16 : decode cX3_init 16 = .ok (.dup, 1) := by decide +kernel
theorem dX3_init_17 : decode cX3_init 17 = .ok (.invokespecial 15, 3) := by decide +kernel
theorem dX3_init_20 : decode cX3_init 20 = .ok (.putfield 16, 3) := by decide +kernel
theorem dX3_init_23 : decode cX3_init 23 = .ok (.aload_n 0, 1) := by decide +kernel
theorem dX3_init_24 : decode cX3_init 24 = .ok (.new 20, 3) := by decide +kernel
theorem dX3_init_27 : decode cX3_init 27 = .ok (.dup, 1) := by decide +kernel
theorem dX3_init_28 : decode cX3_init 28 = .ok (.invokespecial 22, 3) := by decide +kernel
theorem dX3_init_31 : decode cX3_init 31 = .ok (.putfield 23, 3) := by decide +kernel
theorem dX3_init_34 : decode cX3_init 34 = .ok (.aload_n 0, 1) := by decide +kernel
theorem dX3_init_35 : decode cX3_init 35 = .ok (.new 27, 3) := by decide +kernel
theorem dX3_init_38 : decode cX3_init 38 = .ok (.dup, 1) := by decide +kernel
theorem dX3_init_39 : decode cX3_init 39 = .ok (.invokespecial 29, 3) := by decide +kernel
theorem dX3_init_42 : decode cX3_init 42 = .ok (.putfield 30, 3) := by decide +kernel
theorem dX3_init_45 : decode cX3_init 45 = .ok (.aload_n 0, 1) := by decide +kernel
theorem dX3_init_46 : decode cX3_init 46 = .ok (.bipush 6, 2) := by decide +kernel
theorem dX3_init_48 : decode cX3_init 48 = .ok (.newarray .int, 2) := by decide +kernel
theorem dX3_init_50 : decode cX3_init 50 = .ok (.putfield 34, 3) := by decide +kernel
theorem dX3_init_53 : decode cX3_init 53 = .ok (.return_, 1) := by decide +kernel
set_option maxRecDepth 20000 in
theorem ggX3_addDriver_X3_requireDriverValue : GoodIn wsX3_addDriver wsX3_requireDriverValue := goodIn_ca (goodIn_r _ [8, 9, 10] (by decide +kernel) (by decide +kernel)) (goodIn_sub (fun _ h => List.mem_cons_of_mem _ (List.mem_append_right _ h)) (by decide +kernel))
set_option maxRecDepth 20000 in
theorem gX3_addDriver_X3_requireDriverValue : GoodIn wsX3_addDriver (va_wsS RX3 37 yX3_requireDriverValue wsX3_requireDriverValue) := goodIn_app (goodIn_of _ (by decide +kernel)) ggX3_addDriver_X3_requireDriverValue
theorem dX3_addDriver_0 : decode cX3_addDriver 0 = .ok (.iload_n 1, 1) := by decide +kernel
theorem dX3_addDriver_1 : decode cX3_addDriver 1 = .ok (.invokestatic 37, 3) := by decide +kernel
theorem dX3_addDriver_4 : decode cX3_addDriver 4 = .ok (.aload_n 0, 1) := by decide +kernel
theorem dX3_addDriver_5 : decode cX3_addDriver 5 = .ok (.getfield 41, 3) := by decide +kernel
theorem dX3_addDriver_8 : decode cX3_addDriver 8 = .ok (.bipush 6, 2) := by decide +kernel
theorem dX3_addDriver_10 : decode cX3_addDriver 10 = .ok (.if_icmp .lt 11, 3) := by decide +kernel
theorem dX3_addDriver_13 : decode cX3_addDriver 13 = .ok (.new 45, 3) := by decide +kernel
theorem dX3_addDriver_16 : decode cX3_addDriver 16 = .ok (.dup, 1) := by decide +kernel
theorem dX3_addDriver_17 : decode cX3_addDriver 17 = .ok (.invokespecial 47, 3) := by decide +kernel
theorem dX3_addDriver_20 : decode cX3_addDriver 20 = .ok (.athrow, 1) := by decide +kernel
theorem dX3_addDriver_21 : decode cX3_addDriver 21 = .ok (.aload_n 0, 1) := by decide +kernel
theorem dX3_addDriver_22 : decode cX3_addDriver 22 = .ok (.getfield 9, 3) := by decide +kernel
theorem dX3_addDriver_25 : decode cX3_addDriver 25 = .ok (.aload_n 0, 1) := by decide +kernel
theorem dX3_addDriver_26 : decode cX3_addDriver 26 = .ok (.getfield 41, 3) := by decide +kernel
theorem dX3_addDriver_29 : decode cX3_addDriver 29 = .ok (.iload_n 1, 1) := by decide +kernel
theorem dX3_addDriver_30 : decode cX3_addDriver 30 = .ok (.iastore, 1) := by decide +kernel
theorem dX3_addDriver_31 : decode cX3_addDriver 31 = .ok (.aload_n 0, 1) := by decide +kernel
theorem dX3_addDriver_32 : decode cX3_addDriver 32 = .ok (.dup, 1) := by decide +kernel
theorem dX3_addDriver_33 : decode cX3_addDriver 33 = .ok (.getfield 41, 3) := by decide +kernel
theorem dX3_addDriver_36 : decode cX3_addDriver 36 = .ok (.iconst 1, 1) := by decide +kernel
theorem dX3_addDriver_37 : decode cX3_addDriver 37 = .ok (.iadd, 1) := by decide +kernel
theorem dX3_addDriver_38 : decode cX3_addDriver 38 = .ok (.putfield 41, 3) := by decide +kernel
theorem dX3_addDriver_41 : decode cX3_addDriver 41 = .ok (.aload_n 0, 1) := by decide +kernel
theorem dX3_addDriver_42 : decode cX3_addDriver 42 = .ok (.getfield 41, 3) := by decide +kernel
theorem dX3_addDriver_45 : decode cX3_addDriver 45 = .ok (.iconst 1, 1) := by decide +kernel
theorem dX3_addDriver_46 : decode cX3_addDriver 46 = .ok (.isub, 1) := by decide +kernel
theorem dX3_addDriver_47 : decode cX3_addDriver 47 = .ok (.ireturn, 1) := by decide +kernel
set_option maxRecDepth 20000 in
theorem ggX3_setDriver_X3_requireDriver : GoodIn wsX3_setDriver wsX3_requireDriver := goodIn_ca (goodIn_r _ [6, 7, 8, 9, 80, 81, 82, 83, 84, 85, 86] (by decide +kernel) (by decide +kernel)) (goodIn_sub (fun _ h => List.mem_cons_of_mem _ (List.mem_append_left _ (List.mem_append_right _ h))) (by decide +kernel))
set_option maxRecDepth 20000 in
theorem gX3_setDriver_X3_requireDriver : GoodIn wsX3_setDriver (wsV RX3 48 RX3 yX3_requireDriver wsX3_requireDriver) := goodIn_app (goodIn_of _ (by decide +kernel)) ggX3_setDriver_X3_requireDriver
set_option maxRecDepth 20000 in
theorem ggX3_setDriver_X3_requireDriverValue : GoodIn wsX3_setDriver wsX3_requireDriverValue := goodIn_ca (goodIn_r _ [12, 13, 14] (by decide +kernel) (by decide +kernel)) (goodIn_sub (fun _ h => List.mem_cons_of_mem _ (List.mem_append_right _ h)) (by decide +kernel))
set_option maxRecDepth 20000 in
theorem gX3_setDriver_X3_requireDriverValue : GoodIn wsX3_setDriver (va_wsS RX3 37 yX3_requireDriverValue wsX3_requireDriverValue) := goodIn_app (goodIn_of _ (by decide +kernel)) ggX3_setDriver_X3_requireDriverValue
set_option maxRecDepth 20000 in
theorem ggX3_setDriver_X3_reopenDrifted : GoodIn wsX3_setDriver wsX3_reopenDrifted := goodIn_ca (goodIn_r _ [18, 19, 20, 21, 22, 23, 24, 5, 25, 9, 1, 26, 27, 28, 29, 30, 31, 32, 33, 34, 35, 36, 37, 38, 39, 40, 41, 42, 43, 44, 45, 46, 47, 48, 49, 50, 51, 52, 53, 54, 55, 56, 57, 58, 59, 60, 61, 62, 63, 64, 65, 66, 67, 68, 69, 70, 71, 72, 73, 74, 75, 76, 77, 78, 79, 80, 81, 82, 83, 84, 85, 86, 87, 88, 89, 90, 91, 92, 93, 94, 95, 96, 97, 98, 99, 100, 101] (by decide +kernel) (by decide +kernel)) (goodIn_sub (fun _ h => List.mem_cons_of_mem _ (List.mem_append_left _ (List.mem_append_left _ (List.mem_append_right _ h)))) (by decide +kernel))
set_option maxRecDepth 20000 in
theorem gX3_setDriver_X3_reopenDrifted : GoodIn wsX3_setDriver (wsV RX3 51 RX3 yX3_reopenDrifted wsX3_reopenDrifted) := goodIn_app (goodIn_of _ (by decide +kernel)) ggX3_setDriver_X3_reopenDrifted
theorem dX3_setDriver_0 : decode cX3_setDriver 0 = .ok (.aload_n 0, 1) := by decide +kernel
theorem dX3_setDriver_1 : decode cX3_setDriver 1 = .ok (.iload_n 1, 1) := by decide +kernel
theorem dX3_setDriver_2 : decode cX3_setDriver 2 = .ok (.invokevirtual 48, 3) := by decide +kernel
theorem dX3_setDriver_5 : decode cX3_setDriver 5 = .ok (.iload_n 2, 1) := by decide +kernel
theorem dX3_setDriver_6 : decode cX3_setDriver 6 = .ok (.invokestatic 37, 3) := by decide +kernel
theorem dX3_setDriver_9 : decode cX3_setDriver 9 = .ok (.aload_n 0, 1) := by decide +kernel
theorem dX3_setDriver_10 : decode cX3_setDriver 10 = .ok (.getfield 9, 3) := by decide +kernel
theorem dX3_setDriver_13 : decode cX3_setDriver 13 = .ok (.iload_n 1, 1) := by decide +kernel
theorem dX3_setDriver_14 : decode cX3_setDriver 14 = .ok (.iload_n 2, 1) := by decide +kernel
theorem dX3_setDriver_15 : decode cX3_setDriver 15 = .ok (.iastore, 1) := by decide +kernel
theorem dX3_setDriver_16 : decode cX3_setDriver 16 = .ok (.aload_n 0, 1) := by decide +kernel
theorem dX3_setDriver_17 : decode cX3_setDriver 17 = .ok (.invokevirtual 51, 3) := by decide +kernel
theorem dX3_setDriver_20 : decode cX3_setDriver 20 = .ok (.ireturn, 1) := by decide +kernel
set_option maxRecDepth 20000 in
theorem ggX3_driver_X3_requireScenario : GoodIn wsX3_driver wsX3_requireScenario := goodIn_ca (goodIn_r _ [5, 6, 7, 8, 31, 32, 33, 34, 35, 36, 37, 38, 39, 40, 41, 42] (by decide +kernel) (by decide +kernel)) (goodIn_sub (fun _ h => List.mem_cons_of_mem _ (List.mem_append_left _ (List.mem_append_right _ h))) (by decide +kernel))
set_option maxRecDepth 20000 in
theorem gX3_driver_X3_requireScenario : GoodIn wsX3_driver (wsV RX3 55 RX3 yX3_requireScenario wsX3_requireScenario) := goodIn_app (goodIn_of _ (by decide +kernel)) ggX3_driver_X3_requireScenario
set_option maxRecDepth 20000 in
theorem ggX3_driver_X3_requireDriver : GoodIn wsX3_driver wsX3_requireDriver := goodIn_ca (goodIn_r _ [12, 6, 7, 13, 31, 32, 33, 34, 35, 36, 37] (by decide +kernel) (by decide +kernel)) (goodIn_sub (fun _ h => List.mem_cons_of_mem _ (List.mem_append_left _ (List.mem_append_right _ h))) (by decide +kernel))
set_option maxRecDepth 20000 in
theorem gX3_driver_X3_requireDriver : GoodIn wsX3_driver (wsV RX3 48 RX3 yX3_requireDriver wsX3_requireDriver) := goodIn_app (goodIn_of _ (by decide +kernel)) ggX3_driver_X3_requireDriver
set_option maxRecDepth 20000 in
theorem ggX3_driver_X3_requireMonth : GoodIn wsX3_driver wsX3_requireMonth := goodIn_ca (goodIn_r _ [16, 6, 7] (by decide +kernel) (by decide +kernel)) (goodIn_sub (fun _ h => List.mem_cons_of_mem _ (List.mem_append_left _ (List.mem_append_right _ h))) (by decide +kernel))
set_option maxRecDepth 20000 in
theorem gX3_driver_X3_requireMonth : GoodIn wsX3_driver (va_wsS RX3 58 yX3_requireMonth wsX3_requireMonth) := goodIn_app (goodIn_of _ (by decide +kernel)) ggX3_driver_X3_requireMonth
set_option maxRecDepth 20000 in
theorem ggX3_driver_X3_valueIn : GoodIn wsX3_driver wsX3_valueIn := goodIn_ca (goodIn_r _ [20, 21, 8, 22, 23, 24, 25, 26, 27, 28, 29, 30, 31, 32, 33, 34, 35, 36, 37, 38, 39, 40, 41, 42] (by decide +kernel) (by decide +kernel)) (goodIn_sub (fun _ h => List.mem_cons_of_mem _ (List.mem_append_right _ h)) (by decide +kernel))
set_option maxRecDepth 20000 in
theorem gX3_driver_X3_valueIn : GoodIn wsX3_driver (wsV RX3 61 RX3 yX3_valueIn wsX3_valueIn) := goodIn_app (goodIn_of _ (by decide +kernel)) ggX3_driver_X3_valueIn
theorem dX3_driver_0 : decode cX3_driver 0 = .ok (.aload_n 0, 1) := by decide +kernel
theorem dX3_driver_1 : decode cX3_driver 1 = .ok (.iload_n 1, 1) := by decide +kernel
theorem dX3_driver_2 : decode cX3_driver 2 = .ok (.invokevirtual 55, 3) := by decide +kernel
theorem dX3_driver_5 : decode cX3_driver 5 = .ok (.aload_n 0, 1) := by decide +kernel
theorem dX3_driver_6 : decode cX3_driver 6 = .ok (.iload_n 2, 1) := by decide +kernel
theorem dX3_driver_7 : decode cX3_driver 7 = .ok (.invokevirtual 48, 3) := by decide +kernel
theorem dX3_driver_10 : decode cX3_driver 10 = .ok (.iload_n 3, 1) := by decide +kernel
theorem dX3_driver_11 : decode cX3_driver 11 = .ok (.invokestatic 58, 3) := by decide +kernel
theorem dX3_driver_14 : decode cX3_driver 14 = .ok (.aload_n 0, 1) := by decide +kernel
theorem dX3_driver_15 : decode cX3_driver 15 = .ok (.iload_n 1, 1) := by decide +kernel
theorem dX3_driver_16 : decode cX3_driver 16 = .ok (.iload_n 2, 1) := by decide +kernel
theorem dX3_driver_17 : decode cX3_driver 17 = .ok (.iload_n 3, 1) := by decide +kernel
theorem dX3_driver_18 : decode cX3_driver 18 = .ok (.invokevirtual 61, 3) := by decide +kernel
theorem dX3_driver_21 : decode cX3_driver 21 = .ok (.ireturn, 1) := by decide +kernel
set_option maxRecDepth 20000 in
theorem ggX3_addLine_X3_requireDriver : GoodIn wsX3_addLine wsX3_requireDriver := goodIn_ca (goodIn_r _ [10, 11, 12, 13, 26, 27, 28, 29, 30, 31, 32] (by decide +kernel) (by decide +kernel)) (goodIn_sub (fun _ h => List.mem_cons_of_mem _ (List.mem_append_left _ (List.mem_append_right _ h))) (by decide +kernel))
set_option maxRecDepth 20000 in
theorem gX3_addLine_X3_requireDriver : GoodIn wsX3_addLine (wsV RX3 48 RX3 yX3_requireDriver wsX3_requireDriver) := goodIn_app (goodIn_of _ (by decide +kernel)) ggX3_addLine_X3_requireDriver
set_option maxRecDepth 20000 in
theorem ggX3_addLine_X3_requireLine : GoodIn wsX3_addLine wsX3_requireLine := goodIn_ca (goodIn_r _ [17, 11, 12, 5, 26, 27, 28, 29, 30, 31, 32, 33, 34, 35, 36, 37, 38, 39] (by decide +kernel) (by decide +kernel)) (goodIn_sub (fun _ h => List.mem_cons_of_mem _ (List.mem_append_left _ (List.mem_append_right _ h))) (by decide +kernel))
set_option maxRecDepth 20000 in
theorem gX3_addLine_X3_requireLine : GoodIn wsX3_addLine (wsV RX3 68 RX3 yX3_requireLine wsX3_requireLine) := goodIn_app (goodIn_of _ (by decide +kernel)) ggX3_addLine_X3_requireLine
set_option maxRecDepth 20000 in
theorem ggX3_addLine_X1_add : GoodIn wsX3_addLine wsX1_add := goodIn_ca (goodIn_r _ [21, 22, 23, 24, 25, 33, 34, 35, 36, 37, 38, 39] (by decide +kernel) (by decide +kernel)) (goodIn_sub (fun _ h => List.mem_cons_of_mem _ (List.mem_append_right _ h)) (by decide +kernel))
set_option maxRecDepth 20000 in
theorem gX3_addLine_X1_add_n74 : GoodIn wsX3_addLine (wsX1_add) := ggX3_addLine_X1_add
theorem dX3_addLine_0 : decode cX3_addLine 0 = .ok (.iload_n 1, 1) := by decide +kernel
theorem dX3_addLine_1 : decode cX3_addLine 1 = .ok (.bipush 100, 2) := by decide +kernel
theorem dX3_addLine_3 : decode cX3_addLine 3 = .ok (.if_icmp .eq 29, 3) := by decide +kernel
theorem dX3_addLine_6 : decode cX3_addLine 6 = .ok (.iload_n 1, 1) := by decide +kernel
theorem dX3_addLine_7 : decode cX3_addLine 7 = .ok (.bipush 115, 2) := by decide +kernel
theorem dX3_addLine_9 : decode cX3_addLine 9 = .ok (.if_icmp .eq 23, 3) := by decide +kernel
theorem dX3_addLine_12 : decode cX3_addLine 12 = .ok (.iload_n 1, 1) := by decide +kernel
theorem dX3_addLine_13 : decode cX3_addLine 13 = .ok (.bipush 109, 2) := by decide +kernel
theorem dX3_addLine_15 : decode cX3_addLine 15 = .ok (.if_icmp .eq 17, 3) := by decide +kernel
theorem dX3_addLine_18 : decode cX3_addLine 18 = .ok (.iload_n 1, 1) := by decide +kernel
theorem dX3_addLine_19 : decode cX3_addLine 19 = .ok (.bipush 112, 2) := by decide +kernel
theorem dX3_addLine_21 : decode cX3_addLine 21 = .ok (.if_icmp .eq 11, 3) := by decide +kernel
theorem dX3_addLine_24 : decode cX3_addLine 24 = .ok (.new 65, 3) := by decide +kernel
theorem dX3_addLine_27 : decode cX3_addLine 27 = .ok (.dup, 1) := by decide +kernel
theorem dX3_addLine_28 : decode cX3_addLine 28 = .ok (.invokespecial 67, 3) := by decide +kernel
theorem dX3_addLine_31 : decode cX3_addLine 31 = .ok (.athrow, 1) := by decide +kernel
theorem dX3_addLine_32 : decode cX3_addLine 32 = .ok (.iload_n 1, 1) := by decide +kernel
theorem dX3_addLine_33 : decode cX3_addLine 33 = .ok (.bipush 100, 2) := by decide +kernel
theorem dX3_addLine_35 : decode cX3_addLine 35 = .ok (.if_icmp .ne 11, 3) := by decide +kernel
theorem dX3_addLine_38 : decode cX3_addLine 38 = .ok (.aload_n 0, 1) := by decide +kernel
theorem dX3_addLine_39 : decode cX3_addLine 39 = .ok (.iload_n 2, 1) := by decide +kernel
theorem dX3_addLine_40 : decode cX3_addLine 40 = .ok (.invokevirtual 48, 3) := by decide +kernel
theorem dX3_addLine_43 : decode cX3_addLine 43 = .ok (.goto 13, 3) := by decide +kernel
theorem dX3_addLine_46 : decode cX3_addLine 46 = .ok (.aload_n 0, 1) := by decide +kernel
theorem dX3_addLine_47 : decode cX3_addLine 47 = .ok (.iload_n 2, 1) := by decide +kernel
theorem dX3_addLine_48 : decode cX3_addLine 48 = .ok (.invokevirtual 68, 3) := by decide +kernel
theorem dX3_addLine_51 : decode cX3_addLine 51 = .ok (.aload_n 0, 1) := by decide +kernel
theorem dX3_addLine_52 : decode cX3_addLine 52 = .ok (.iload_n 3, 1) := by decide +kernel
theorem dX3_addLine_53 : decode cX3_addLine 53 = .ok (.invokevirtual 68, 3) := by decide +kernel
theorem dX3_addLine_56 : decode cX3_addLine 56 = .ok (.aload_n 0, 1) := by decide +kernel
theorem dX3_addLine_57 : decode cX3_addLine 57 = .ok (.getfield 23, 3) := by decide +kernel
theorem dX3_addLine_60 : decode cX3_addLine 60 = .ok (.getfield 71, 3) := by decide +kernel
theorem dX3_addLine_63 : decode cX3_addLine 63 = .ok (.bipush 10, 2) := by decide +kernel
theorem dX3_addLine_65 : decode cX3_addLine 65 = .ok (.if_icmp .lt 11, 3) := by decide +kernel
theorem dX3_addLine_68 : decode cX3_addLine 68 = .ok (.new 45, 3) := by decide +kernel
theorem dX3_addLine_71 : decode cX3_addLine 71 = .ok (.dup, 1) := by decide +kernel
theorem dX3_addLine_72 : decode cX3_addLine 72 = .ok (.invokespecial 47, 3) := by decide +kernel
theorem dX3_addLine_75 : decode cX3_addLine 75 = .ok (.athrow, 1) := by decide +kernel
theorem dX3_addLine_76 : decode cX3_addLine 76 = .ok (.aload_n 0, 1) := by decide +kernel
theorem dX3_addLine_77 : decode cX3_addLine 77 = .ok (.getfield 23, 3) := by decide +kernel
theorem dX3_addLine_80 : decode cX3_addLine 80 = .ok (.iload_n 1, 1) := by decide +kernel
theorem dX3_addLine_81 : decode cX3_addLine 81 = .ok (.iload_n 2, 1) := by decide +kernel
theorem dX3_addLine_82 : decode cX3_addLine 82 = .ok (.iload_n 3, 1) := by decide +kernel
theorem dX3_addLine_83 : decode cX3_addLine 83 = .ok (.invokevirtual 74, 3) := by decide +kernel
theorem dX3_addLine_86 : decode cX3_addLine 86 = .ok (.ireturn, 1) := by decide +kernel
set_option maxRecDepth 20000 in
theorem ggX3_addScenario_X3_requireScenario : GoodIn wsX3_addScenario wsX3_requireScenario := goodIn_ca (goodIn_r _ [8, 9, 10, 3, 17, 18, 19, 20, 21, 22, 23, 24, 25, 26, 27, 28] (by decide +kernel) (by decide +kernel)) (goodIn_sub (fun _ h => List.mem_cons_of_mem _ (List.mem_append_left _ (List.mem_append_right _ h))) (by decide +kernel))
set_option maxRecDepth 20000 in
theorem gX3_addScenario_X3_requireScenario : GoodIn wsX3_addScenario (wsV RX3 55 RX3 yX3_requireScenario wsX3_requireScenario) := goodIn_app (goodIn_of _ (by decide +kernel)) ggX3_addScenario_X3_requireScenario
set_option maxRecDepth 20000 in
theorem ggX3_addScenario_X2_add : GoodIn wsX3_addScenario wsX2_add := goodIn_ca (goodIn_r _ [14, 15, 16, 24, 25, 26, 27, 28] (by decide +kernel) (by decide +kernel)) (goodIn_sub (fun _ h => List.mem_cons_of_mem _ (List.mem_append_right _ h)) (by decide +kernel))
set_option maxRecDepth 20000 in
theorem gX3_addScenario_X2_add_n79 : GoodIn wsX3_addScenario (wsX2_add) := ggX3_addScenario_X2_add
theorem dX3_addScenario_0 : decode cX3_addScenario 0 = .ok (.aload_n 0, 1) := by decide +kernel
theorem dX3_addScenario_1 : decode cX3_addScenario 1 = .ok (.iload_n 1, 1) := by decide +kernel
theorem dX3_addScenario_2 : decode cX3_addScenario 2 = .ok (.invokevirtual 55, 3) := by decide +kernel
theorem dX3_addScenario_5 : decode cX3_addScenario 5 = .ok (.aload_n 0, 1) := by decide +kernel
theorem dX3_addScenario_6 : decode cX3_addScenario 6 = .ok (.getfield 16, 3) := by decide +kernel
theorem dX3_addScenario_9 : decode cX3_addScenario 9 = .ok (.getfield 78, 3) := by decide +kernel
theorem dX3_addScenario_12 : decode cX3_addScenario 12 = .ok (.iconst 4, 1) := by decide +kernel
theorem dX3_addScenario_13 : decode cX3_addScenario 13 = .ok (.if_icmp .lt 11, 3) := by decide +kernel
theorem dX3_addScenario_16 : decode cX3_addScenario 16 = .ok (.new 45, 3) := by decide +kernel
theorem dX3_addScenario_19 : decode cX3_addScenario 19 = .ok (.dup, 1) := by decide +kernel
theorem dX3_addScenario_20 : decode cX3_addScenario 20 = .ok (.invokespecial 47, 3) := by decide +kernel
theorem dX3_addScenario_23 : decode cX3_addScenario 23 = .ok (.athrow, 1) := by decide +kernel
theorem dX3_addScenario_24 : decode cX3_addScenario 24 = .ok (.aload_n 0, 1) := by decide +kernel
theorem dX3_addScenario_25 : decode cX3_addScenario 25 = .ok (.getfield 16, 3) := by decide +kernel
theorem dX3_addScenario_28 : decode cX3_addScenario 28 = .ok (.iload_n 1, 1) := by decide +kernel
theorem dX3_addScenario_29 : decode cX3_addScenario 29 = .ok (.invokevirtual 79, 3) := by decide +kernel
theorem dX3_addScenario_32 : decode cX3_addScenario 32 = .ok (.ireturn, 1) := by decide +kernel
set_option maxRecDepth 20000 in
theorem ggX3_differ_X3_requireScenario : GoodIn wsX3_differ wsX3_requireScenario := goodIn_ca (goodIn_r _ [12, 13, 14, 7, 33, 34, 35, 36, 37, 38, 39, 40, 41, 42, 43, 44] (by decide +kernel) (by decide +kernel)) (goodIn_sub (fun _ h => List.mem_cons_of_mem _ (List.mem_append_left _ (List.mem_append_right _ h))) (by decide +kernel))
set_option maxRecDepth 20000 in
theorem gX3_differ_X3_requireScenario : GoodIn wsX3_differ (wsV RX3 55 RX3 yX3_requireScenario wsX3_requireScenario) := goodIn_app (goodIn_of _ (by decide +kernel)) ggX3_differ_X3_requireScenario
set_option maxRecDepth 20000 in
theorem ggX3_differ_X3_requireDriver : GoodIn wsX3_differ wsX3_requireDriver := goodIn_ca (goodIn_r _ [18, 13, 14, 19, 33, 34, 35, 36, 37, 38, 39] (by decide +kernel) (by decide +kernel)) (goodIn_sub (fun _ h => List.mem_cons_of_mem _ (List.mem_append_left _ (List.mem_append_right _ h))) (by decide +kernel))
set_option maxRecDepth 20000 in
theorem gX3_differ_X3_requireDriver : GoodIn wsX3_differ (wsV RX3 48 RX3 yX3_requireDriver wsX3_requireDriver) := goodIn_app (goodIn_of _ (by decide +kernel)) ggX3_differ_X3_requireDriver
set_option maxRecDepth 20000 in
theorem ggX3_differ_X3_requireMonth : GoodIn wsX3_differ wsX3_requireMonth := goodIn_ca (goodIn_r _ [22, 13, 14] (by decide +kernel) (by decide +kernel)) (goodIn_sub (fun _ h => List.mem_cons_of_mem _ (List.mem_append_left _ (List.mem_append_right _ h))) (by decide +kernel))
set_option maxRecDepth 20000 in
theorem gX3_differ_X3_requireMonth : GoodIn wsX3_differ (va_wsS RX3 58 yX3_requireMonth wsX3_requireMonth) := goodIn_app (goodIn_of _ (by decide +kernel)) ggX3_differ_X3_requireMonth
set_option maxRecDepth 20000 in
theorem ggX3_differ_X2_addDifference : GoodIn wsX3_differ wsX2_addDifference := goodIn_ca (goodIn_r _ [26, 27, 28, 29, 30, 31, 24, 32, 40, 41, 42, 43, 44] (by decide +kernel) (by decide +kernel)) (goodIn_sub (fun _ h => List.mem_cons_of_mem _ (List.mem_append_right _ h)) (by decide +kernel))
set_option maxRecDepth 20000 in
theorem gX3_differ_X2_addDifference_n88 : GoodIn wsX3_differ (wsX2_addDifference) := ggX3_differ_X2_addDifference
theorem dX3_differ_0 : decode cX3_differ 0 = .ok (.aload_n 0, 1) := by decide +kernel
theorem dX3_differ_1 : decode cX3_differ 1 = .ok (.iload_n 1, 1) := by decide +kernel
theorem dX3_differ_2 : decode cX3_differ 2 = .ok (.invokevirtual 55, 3) := by decide +kernel
theorem dX3_differ_5 : decode cX3_differ 5 = .ok (.aload_n 0, 1) := by decide +kernel
theorem dX3_differ_6 : decode cX3_differ 6 = .ok (.iload_n 2, 1) := by decide +kernel
theorem dX3_differ_7 : decode cX3_differ 7 = .ok (.invokevirtual 48, 3) := by decide +kernel
theorem dX3_differ_10 : decode cX3_differ 10 = .ok (.iload_n 3, 1) := by decide +kernel
theorem dX3_differ_11 : decode cX3_differ 11 = .ok (.invokestatic 58, 3) := by decide +kernel
theorem dX3_differ_14 : decode cX3_differ 14 = .ok (.iload 4, 2) := by decide +kernel
theorem dX3_differ_16 : decode cX3_differ 16 = .ok (.sipush (-999), 3) := by decide +kernel
theorem dX3_differ_19 : decode cX3_differ 19 = .ok (.if_icmp .lt 11, 3) := by decide +kernel
theorem dX3_differ_22 : decode cX3_differ 22 = .ok (.iload 4, 2) := by decide +kernel
theorem dX3_differ_24 : decode cX3_differ 24 = .ok (.sipush 999, 3) := by decide +kernel
theorem dX3_differ_27 : decode cX3_differ 27 = .ok (.if_icmp .le 11, 3) := by decide +kernel
theorem dX3_differ_30 : decode cX3_differ 30 = .ok (.new 65, 3) := by decide +kernel
theorem dX3_differ_33 : decode cX3_differ 33 = .ok (.dup, 1) := by decide +kernel
theorem dX3_differ_34 : decode cX3_differ 34 = .ok (.invokespecial 67, 3) := by decide +kernel
theorem dX3_differ_37 : decode cX3_differ 37 = .ok (.athrow, 1) := by decide +kernel
theorem dX3_differ_38 : decode cX3_differ 38 = .ok (.iload_n 1, 1) := by decide +kernel
theorem dX3_differ_39 : decode cX3_differ 39 = .ok (.ifCond .ne 11, 3) := by decide +kernel
theorem dX3_differ_42 : decode cX3_differ 42 = .ok (.new 82, 3) := by decide +kernel
theorem dX3_differ_45 : decode cX3_differ 45 = .ok (.dup, 1) := by decide +kernel
theorem dX3_differ_46 : decode cX3_differ 46 = .ok (.invokespecial 84, 3) := by decide +kernel
theorem dX3_differ_49 : decode cX3_differ 49 = .ok (.athrow, 1) := by decide +kernel
theorem dX3_differ_50 : decode cX3_differ 50 = .ok (.aload_n 0, 1) := by decide +kernel
theorem dX3_differ_51 : decode cX3_differ 51 = .ok (.getfield 16, 3) := by decide +kernel
theorem dX3_differ_54 : decode cX3_differ 54 = .ok (.getfield 85, 3) := by decide +kernel
theorem dX3_differ_57 : decode cX3_differ 57 = .ok (.bipush 12, 2) := by decide +kernel
theorem dX3_differ_59 : decode cX3_differ 59 = .ok (.if_icmp .lt 11, 3) := by decide +kernel
theorem dX3_differ_62 : decode cX3_differ 62 = .ok (.new 45, 3) := by decide +kernel
theorem dX3_differ_65 : decode cX3_differ 65 = .ok (.dup, 1) := by decide +kernel
theorem dX3_differ_66 : decode cX3_differ 66 = .ok (.invokespecial 47, 3) := by decide +kernel
theorem dX3_differ_69 : decode cX3_differ 69 = .ok (.athrow, 1) := by decide +kernel
theorem dX3_differ_70 : decode cX3_differ 70 = .ok (.aload_n 0, 1) := by decide +kernel
theorem dX3_differ_71 : decode cX3_differ 71 = .ok (.getfield 16, 3) := by decide +kernel
theorem dX3_differ_74 : decode cX3_differ 74 = .ok (.iload_n 1, 1) := by decide +kernel
theorem dX3_differ_75 : decode cX3_differ 75 = .ok (.iload_n 2, 1) := by decide +kernel
theorem dX3_differ_76 : decode cX3_differ 76 = .ok (.iload_n 3, 1) := by decide +kernel
theorem dX3_differ_77 : decode cX3_differ 77 = .ok (.iload 4, 2) := by decide +kernel
theorem dX3_differ_79 : decode cX3_differ 79 = .ok (.invokevirtual 88, 3) := by decide +kernel
theorem dX3_differ_82 : decode cX3_differ 82 = .ok (.ireturn, 1) := by decide +kernel
set_option maxRecDepth 20000 in
theorem ggX3_number_X3_requireScenario : GoodIn wsX3_number wsX3_requireScenario := goodIn_ca (goodIn_r _ [5, 6, 7, 8, 73, 74, 75, 76, 77, 78, 79, 80, 81, 82, 83, 84] (by decide +kernel) (by decide +kernel)) (goodIn_sub (fun _ h => List.mem_cons_of_mem _ (List.mem_append_left _ (List.mem_append_left _ (List.mem_append_right _ h)))) (by decide +kernel))
set_option maxRecDepth 20000 in
theorem gX3_number_X3_requireScenario : GoodIn wsX3_number (wsV RX3 55 RX3 yX3_requireScenario wsX3_requireScenario) := goodIn_app (goodIn_of _ (by decide +kernel)) ggX3_number_X3_requireScenario
set_option maxRecDepth 20000 in
theorem ggX3_number_X3_requireLine : GoodIn wsX3_number wsX3_requireLine := goodIn_ca (goodIn_r _ [12, 6, 7, 13, 73, 74, 75, 76, 77, 78, 79, 85, 86, 87, 88, 89, 90, 91] (by decide +kernel) (by decide +kernel)) (goodIn_sub (fun _ h => List.mem_cons_of_mem _ (List.mem_append_left _ (List.mem_append_left _ (List.mem_append_right _ h)))) (by decide +kernel))
set_option maxRecDepth 20000 in
theorem gX3_number_X3_requireLine : GoodIn wsX3_number (wsV RX3 68 RX3 yX3_requireLine wsX3_requireLine) := goodIn_app (goodIn_of _ (by decide +kernel)) ggX3_number_X3_requireLine
set_option maxRecDepth 20000 in
theorem ggX3_number_X3_requireMonth : GoodIn wsX3_number wsX3_requireMonth := goodIn_ca (goodIn_r _ [16, 6, 7] (by decide +kernel) (by decide +kernel)) (goodIn_sub (fun _ h => List.mem_cons_of_mem _ (List.mem_append_left _ (List.mem_append_left _ (List.mem_append_right _ h)))) (by decide +kernel))
set_option maxRecDepth 20000 in
theorem gX3_number_X3_requireMonth : GoodIn wsX3_number (va_wsS RX3 58 yX3_requireMonth wsX3_requireMonth) := goodIn_app (goodIn_of _ (by decide +kernel)) ggX3_number_X3_requireMonth
set_option maxRecDepth 20000 in
theorem ggX3_number_X3_numberIn : GoodIn wsX3_number wsX3_numberIn := goodIn_ca (goodIn_r _ [20, 13, 21, 22, 23, 24, 4, 25, 26, 27, 28, 29, 30, 31, 8, 32, 33, 34, 35, 36, 37, 38, 39, 40, 41, 42, 43, 44, 45, 46, 47, 48, 49, 50, 51, 52, 53, 54, 55, 56, 57, 58, 59, 60, 61, 62, 63, 64, 65, 66, 73, 74, 75, 76, 77, 78, 79, 80, 81, 82, 83, 84, 85, 86, 87, 88, 89, 90, 91] (by decide +kernel) (by decide +kernel)) (goodIn_sub (fun _ h => List.mem_cons_of_mem _ (List.mem_append_left _ (List.mem_append_right _ h))) (by decide +kernel))
set_option maxRecDepth 20000 in
theorem gX3_number_X3_numberIn : GoodIn wsX3_number (wsV RX3 92 RX3 yX3_numberIn wsX3_numberIn) := goodIn_app (goodIn_of _ (by decide +kernel)) ggX3_number_X3_numberIn
set_option maxRecDepth 20000 in
theorem ggX3_number_X3_required : GoodIn wsX3_number wsX3_required := goodIn_ca (goodIn_r _ [69, 70, 71, 72] (by decide +kernel) (by decide +kernel)) (goodIn_sub (fun _ h => List.mem_cons_of_mem _ (List.mem_append_right _ h)) (by decide +kernel))
set_option maxRecDepth 20000 in
theorem gX3_number_X3_required : GoodIn wsX3_number (va_wsS RX3 95 yX3_required wsX3_required) := goodIn_app (goodIn_of _ (by decide +kernel)) ggX3_number_X3_required
theorem dX3_number_0 : decode cX3_number 0 = .ok (.aload_n 0, 1) := by decide +kernel
theorem dX3_number_1 : decode cX3_number 1 = .ok (.iload_n 1, 1) := by decide +kernel
theorem dX3_number_2 : decode cX3_number 2 = .ok (.invokevirtual 55, 3) := by decide +kernel
theorem dX3_number_5 : decode cX3_number 5 = .ok (.aload_n 0, 1) := by decide +kernel
theorem dX3_number_6 : decode cX3_number 6 = .ok (.iload_n 2, 1) := by decide +kernel
theorem dX3_number_7 : decode cX3_number 7 = .ok (.invokevirtual 68, 3) := by decide +kernel
theorem dX3_number_10 : decode cX3_number 10 = .ok (.iload_n 3, 1) := by decide +kernel
theorem dX3_number_11 : decode cX3_number 11 = .ok (.invokestatic 58, 3) := by decide +kernel
theorem dX3_number_14 : decode cX3_number 14 = .ok (.aload_n 0, 1) := by decide +kernel
theorem dX3_number_15 : decode cX3_number 15 = .ok (.iload_n 1, 1) := by decide +kernel
