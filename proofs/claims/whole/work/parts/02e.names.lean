theorem dX4_init_131 : decode cX4_init 131 = .ok (.aload_n 0, 1) := by decide +kernel
theorem dX4_init_132 : decode cX4_init 132 = .ok (.iconst 0, 1) := by decide +kernel
theorem dX4_init_133 : decode cX4_init 133 = .ok (.putfield 61, 3) := by decide +kernel
theorem dX4_init_136 : decode cX4_init 136 = .ok (.aload_n 0, 1) := by decide +kernel
theorem dX4_init_137 : decode cX4_init 137 = .ok (.iconst 0, 1) := by decide +kernel
theorem dX4_init_138 : decode cX4_init 138 = .ok (.putfield 65, 3) := by decide +kernel
theorem dX4_init_141 : decode cX4_init 141 = .ok (.aload_n 0, 1) := by decide +kernel
theorem dX4_init_142 : decode cX4_init 142 = .ok (.iconst 0, 1) := by decide +kernel
theorem dX4_init_143 : decode cX4_init 143 = .ok (.putfield 68, 3) := by decide +kernel
theorem dX4_init_146 : decode cX4_init 146 = .ok (.aload_n 0, 1) := by decide +kernel
theorem dX4_init_147 : decode cX4_init 147 = .ok (.iconst 1, 1) := by decide +kernel
theorem dX4_init_148 : decode cX4_init 148 = .ok (.putfield 71, 3) := by decide +kernel
theorem dX4_init_151 : decode cX4_init 151 = .ok (.aload_n 0, 1) := by decide +kernel
theorem dX4_init_152 : decode cX4_init 152 = .ok (.iconst 0, 1) := by decide +kernel
theorem dX4_init_153 : decode cX4_init 153 = .ok (.putfield 74, 3) := by decide +kernel
theorem dX4_init_156 : decode cX4_init 156 = .ok (.aload_n 0, 1) := by decide +kernel
theorem dX4_init_157 : decode cX4_init 157 = .ok (.iconst 0, 1) := by decide +kernel
theorem dX4_init_158 : decode cX4_init 158 = .ok (.putfield 77, 3) := by decide +kernel
theorem dX4_init_161 : decode cX4_init 161 = .ok (.aload_n 0, 1) := by decide +kernel
theorem dX4_init_162 : decode cX4_init 162 = .ok (.getfield 22, 3) := by decide +kernel
theorem dX4_init_165 : decode cX4_init 165 = .ok (.iconst 0, 1) := by decide +kernel
theorem dX4_init_166 : decode cX4_init 166 = .ok (.iconst (-1), 1) := by decide +kernel
theorem dX4_init_167 : decode cX4_init 167 = .ok (.iastore, 1) := by decide +kernel
theorem dX4_init_168 : decode cX4_init 168 = .ok (.iconst 0, 1) := by decide +kernel
theorem dX4_init_169 : decode cX4_init 169 = .ok (.istore_n 1, 1) := by decide +kernel
theorem dX4_init_170 : decode cX4_init 170 = .ok (.iload_n 1, 1) := by decide +kernel
theorem dX4_init_171 : decode cX4_init 171 = .ok (.bipush 120, 2) := by decide +kernel
theorem dX4_init_173 : decode cX4_init 173 = .ok (.if_icmp .ge 17, 3) := by decide +kernel
theorem dX4_init_176 : decode cX4_init 176 = .ok (.aload_n 0, 1) := by decide +kernel
theorem dX4_init_177 : decode cX4_init 177 = .ok (.getfield 53, 3) := by decide +kernel
theorem dX4_init_180 : decode cX4_init 180 = .ok (.iload_n 1, 1) := by decide +kernel
theorem dX4_init_181 : decode cX4_init 181 = .ok (.bipush 45, 2) := by decide +kernel
theorem dX4_init_183 : decode cX4_init 183 = .ok (.castore, 1) := by decide +kernel
theorem dX4_init_184 : decode cX4_init 184 = .ok (.iinc 1 1, 3) := by decide +kernel
theorem dX4_init_187 : decode cX4_init 187 = .ok (.goto (-17), 3) := by decide +kernel
theorem dX4_init_190 : decode cX4_init 190 = .ok (.return_, 1) := by decide +kernel
theorem dX4_thrown_0 : decode cX4_thrown 0 = .ok (.aload_n 0, 1) := by decide +kernel
theorem dX4_thrown_1 : decode cX4_thrown 1 = .ok (.getfield 61, 3) := by decide +kernel
theorem dX4_thrown_4 : decode cX4_thrown 4 = .ok (.ireturn, 1) := by decide +kernel
theorem dX4_in_0 : decode cX4_in 0 = .ok (.iload_n 0, 1) := by decide +kernel
theorem dX4_in_1 : decode cX4_in 1 = .ok (.iload_n 1, 1) := by decide +kernel
theorem dX4_in_2 : decode cX4_in 2 = .ok (.if_icmp .lt 12, 3) := by decide +kernel
theorem dX4_in_5 : decode cX4_in 5 = .ok (.iload_n 0, 1) := by decide +kernel
theorem dX4_in_6 : decode cX4_in 6 = .ok (.iload_n 2, 1) := by decide +kernel
theorem dX4_in_7 : decode cX4_in 7 = .ok (.if_icmp .gt 7, 3) := by decide +kernel
theorem dX4_in_10 : decode cX4_in 10 = .ok (.iconst 1, 1) := by decide +kernel
theorem dX4_in_11 : decode cX4_in 11 = .ok (.goto 4, 3) := by decide +kernel
theorem dX4_in_14 : decode cX4_in 14 = .ok (.iconst 0, 1) := by decide +kernel
theorem dX4_in_15 : decode cX4_in 15 = .ok (.ireturn, 1) := by decide +kernel
theorem dX4_checked_0 : decode cX4_checked 0 = .ok (.aload_n 0, 1) := by decide +kernel
theorem dX4_checked_1 : decode cX4_checked 1 = .ok (.iload_n 1, 1) := by decide +kernel
theorem dX4_checked_2 : decode cX4_checked 2 = .ok (.ifCond .eq 7, 3) := by decide +kernel
theorem dX4_checked_5 : decode cX4_checked 5 = .ok (.iconst 0, 1) := by decide +kernel
theorem dX4_checked_6 : decode cX4_checked 6 = .ok (.goto 4, 3) := by decide +kernel
theorem dX4_checked_9 : decode cX4_checked 9 = .ok (.iconst 1, 1) := by decide +kernel
theorem dX4_checked_10 : decode cX4_checked 10 = .ok (.putfield 61, 3) := by decide +kernel
theorem dX4_checked_13 : decode cX4_checked 13 = .ok (.aload_n 0, 1) := by decide +kernel
theorem dX4_checked_14 : decode cX4_checked 14 = .ok (.getfield 61, 3) := by decide +kernel
theorem dX4_checked_17 : decode cX4_checked 17 = .ok (.ireturn, 1) := by decide +kernel
set_option maxRecDepth 20000 in
theorem ggX4_isDriver_X4_in : GoodIn wsX4_isDriver wsX4_in := goodIn_r _ [5] (by decide +kernel) (by decide +kernel)
set_option maxRecDepth 20000 in
theorem gX4_isDriver_X4_in : GoodIn wsX4_isDriver (va_wsS RX4 80 yX4_in wsX4_in) := goodIn_app (goodIn_of _ (by decide +kernel)) ggX4_isDriver_X4_in
theorem dX4_isDriver_0 : decode cX4_isDriver 0 = .ok (.iload_n 1, 1) := by decide +kernel
theorem dX4_isDriver_1 : decode cX4_isDriver 1 = .ok (.iconst 0, 1) := by decide +kernel
theorem dX4_isDriver_2 : decode cX4_isDriver 2 = .ok (.aload_n 0, 1) := by decide +kernel
theorem dX4_isDriver_3 : decode cX4_isDriver 3 = .ok (.getfield 65, 3) := by decide +kernel
theorem dX4_isDriver_6 : decode cX4_isDriver 6 = .ok (.iconst 1, 1) := by decide +kernel
theorem dX4_isDriver_7 : decode cX4_isDriver 7 = .ok (.isub, 1) := by decide +kernel
theorem dX4_isDriver_8 : decode cX4_isDriver 8 = .ok (.invokestatic 80, 3) := by decide +kernel
theorem dX4_isDriver_11 : decode cX4_isDriver 11 = .ok (.ireturn, 1) := by decide +kernel
set_option maxRecDepth 20000 in
theorem ggX4_isLine_X4_in : GoodIn wsX4_isLine wsX4_in := goodIn_r _ [5] (by decide +kernel) (by decide +kernel)
set_option maxRecDepth 20000 in
theorem gX4_isLine_X4_in : GoodIn wsX4_isLine (va_wsS RX4 80 yX4_in wsX4_in) := goodIn_app (goodIn_of _ (by decide +kernel)) ggX4_isLine_X4_in
theorem dX4_isLine_0 : decode cX4_isLine 0 = .ok (.iload_n 1, 1) := by decide +kernel
theorem dX4_isLine_1 : decode cX4_isLine 1 = .ok (.iconst 0, 1) := by decide +kernel
theorem dX4_isLine_2 : decode cX4_isLine 2 = .ok (.aload_n 0, 1) := by decide +kernel
theorem dX4_isLine_3 : decode cX4_isLine 3 = .ok (.getfield 68, 3) := by decide +kernel
theorem dX4_isLine_6 : decode cX4_isLine 6 = .ok (.iconst 1, 1) := by decide +kernel
theorem dX4_isLine_7 : decode cX4_isLine 7 = .ok (.isub, 1) := by decide +kernel
theorem dX4_isLine_8 : decode cX4_isLine 8 = .ok (.invokestatic 80, 3) := by decide +kernel
theorem dX4_isLine_11 : decode cX4_isLine 11 = .ok (.ireturn, 1) := by decide +kernel
set_option maxRecDepth 20000 in
theorem ggX4_isScenario_X4_in : GoodIn wsX4_isScenario wsX4_in := goodIn_r _ [5] (by decide +kernel) (by decide +kernel)
set_option maxRecDepth 20000 in
theorem gX4_isScenario_X4_in : GoodIn wsX4_isScenario (va_wsS RX4 80 yX4_in wsX4_in) := goodIn_app (goodIn_of _ (by decide +kernel)) ggX4_isScenario_X4_in
theorem dX4_isScenario_0 : decode cX4_isScenario 0 = .ok (.iload_n 1, 1) := by decide +kernel
theorem dX4_isScenario_1 : decode cX4_isScenario 1 = .ok (.iconst 0, 1) := by decide +kernel
theorem dX4_isScenario_2 : decode cX4_isScenario 2 = .ok (.aload_n 0, 1) := by decide +kernel
theorem dX4_isScenario_3 : decode cX4_isScenario 3 = .ok (.getfield 71, 3) := by decide +kernel
theorem dX4_isScenario_6 : decode cX4_isScenario 6 = .ok (.iconst 1, 1) := by decide +kernel
theorem dX4_isScenario_7 : decode cX4_isScenario 7 = .ok (.isub, 1) := by decide +kernel
theorem dX4_isScenario_8 : decode cX4_isScenario 8 = .ok (.invokestatic 80, 3) := by decide +kernel
theorem dX4_isScenario_11 : decode cX4_isScenario 11 = .ok (.ireturn, 1) := by decide +kernel
set_option maxRecDepth 20000 in
theorem ggX4_isMonth_X4_in : GoodIn wsX4_isMonth wsX4_in := goodIn_r _ [4] (by decide +kernel) (by decide +kernel)
set_option maxRecDepth 20000 in
theorem gX4_isMonth_X4_in : GoodIn wsX4_isMonth (va_wsS RX4 80 yX4_in wsX4_in) := goodIn_app (goodIn_of _ (by decide +kernel)) ggX4_isMonth_X4_in
theorem dX4_isMonth_0 : decode cX4_isMonth 0 = .ok (.iload_n 0, 1) := by decide +kernel
theorem dX4_isMonth_1 : decode cX4_isMonth 1 = .ok (.iconst 0, 1) := by decide +kernel
theorem dX4_isMonth_2 : decode cX4_isMonth 2 = .ok (.bipush 11, 2) := by decide +kernel
theorem dX4_isMonth_4 : decode cX4_isMonth 4 = .ok (.invokestatic 80, 3) := by decide +kernel
theorem dX4_isMonth_7 : decode cX4_isMonth 7 = .ok (.ireturn, 1) := by decide +kernel
theorem dX4_at_0 : decode cX4_at 0 = .ok (.bipush 12, 2) := by decide +kernel
theorem dX4_at_2 : decode cX4_at 2 = .ok (.iload_n 0, 1) := by decide +kernel
theorem dX4_at_3 : decode cX4_at 3 = .ok (.imul, 1) := by decide +kernel
theorem dX4_at_4 : decode cX4_at 4 = .ok (.iload_n 1, 1) := by decide +kernel
theorem dX4_at_5 : decode cX4_at 5 = .ok (.iadd, 1) := by decide +kernel
theorem dX4_at_6 : decode cX4_at 6 = .ok (.ireturn, 1) := by decide +kernel
theorem dX4_isUnder_0 : decode cX4_isUnder 0 = .ok (.iload_n 1, 1) := by decide +kernel
theorem dX4_isUnder_1 : decode cX4_isUnder 1 = .ok (.istore_n 3, 1) := by decide +kernel
theorem dX4_isUnder_2 : decode cX4_isUnder 2 = .ok (.iload_n 3, 1) := by decide +kernel
theorem dX4_isUnder_3 : decode cX4_isUnder 3 = .ok (.ifCond .lt 18, 3) := by decide +kernel
theorem dX4_isUnder_6 : decode cX4_isUnder 6 = .ok (.iload_n 3, 1) := by decide +kernel
theorem dX4_isUnder_7 : decode cX4_isUnder 7 = .ok (.iload_n 2, 1) := by decide +kernel
theorem dX4_isUnder_8 : decode cX4_isUnder 8 = .ok (.if_icmp .eq 13, 3) := by decide +kernel
theorem dX4_isUnder_11 : decode cX4_isUnder 11 = .ok (.aload_n 0, 1) := by decide +kernel
theorem dX4_isUnder_12 : decode cX4_isUnder 12 = .ok (.getfield 22, 3) := by decide +kernel
theorem dX4_isUnder_15 : decode cX4_isUnder 15 = .ok (.iload_n 3, 1) := by decide +kernel
theorem dX4_isUnder_16 : decode cX4_isUnder 16 = .ok (.iaload, 1) := by decide +kernel
theorem dX4_isUnder_17 : decode cX4_isUnder 17 = .ok (.istore_n 3, 1) := by decide +kernel
theorem dX4_isUnder_18 : decode cX4_isUnder 18 = .ok (.goto (-16), 3) := by decide +kernel
theorem dX4_isUnder_21 : decode cX4_isUnder 21 = .ok (.iload_n 3, 1) := by decide +kernel
theorem dX4_isUnder_22 : decode cX4_isUnder 22 = .ok (.iload_n 2, 1) := by decide +kernel
theorem dX4_isUnder_23 : decode cX4_isUnder 23 = .ok (.if_icmp .ne 7, 3) := by decide +kernel
theorem dX4_isUnder_26 : decode cX4_isUnder 26 = .ok (.iconst 1, 1) := by decide +kernel
theorem dX4_isUnder_27 : decode cX4_isUnder 27 = .ok (.goto 4, 3) := by decide +kernel
theorem dX4_isUnder_30 : decode cX4_isUnder 30 = .ok (.iconst 0, 1) := by decide +kernel
theorem dX4_isUnder_31 : decode cX4_isUnder 31 = .ok (.ireturn, 1) := by decide +kernel
set_option maxRecDepth 20000 in
theorem ggX4_valueIn_X4_isUnder : GoodIn wsX4_valueIn wsX4_isUnder := goodIn_ca (goodIn_r _ [11, 12, 13, 14, 15, 16, 17, 18, 19, 20, 21, 22, 23, 24, 25, 26, 27, 28, 29, 30, 31, 32, 33, 34] (by decide +kernel) (by decide +kernel)) (goodIn_sub (fun _ h => List.mem_cons_of_mem _ (List.mem_append_right _ h)) (by decide +kernel))
set_option maxRecDepth 20000 in
theorem gX4_valueIn_X4_isUnder : GoodIn wsX4_valueIn (wsV RX4 84 RX4 yX4_isUnder wsX4_isUnder) := goodIn_app (goodIn_of _ (by decide +kernel)) ggX4_valueIn_X4_isUnder
theorem dX4_valueIn_0 : decode cX4_valueIn 0 = .ok (.aload_n 0, 1) := by decide +kernel
theorem dX4_valueIn_1 : decode cX4_valueIn 1 = .ok (.getfield 7, 3) := by decide +kernel
theorem dX4_valueIn_4 : decode cX4_valueIn 4 = .ok (.iload_n 2, 1) := by decide +kernel
theorem dX4_valueIn_5 : decode cX4_valueIn 5 = .ok (.iaload, 1) := by decide +kernel
theorem dX4_valueIn_6 : decode cX4_valueIn 6 = .ok (.istore 5, 2) := by decide +kernel
theorem dX4_valueIn_8 : decode cX4_valueIn 8 = .ok (.iconst 0, 1) := by decide +kernel
theorem dX4_valueIn_9 : decode cX4_valueIn 9 = .ok (.istore 6, 2) := by decide +kernel
theorem dX4_valueIn_11 : decode cX4_valueIn 11 = .ok (.iload 6, 2) := by decide +kernel
theorem dX4_valueIn_13 : decode cX4_valueIn 13 = .ok (.aload_n 0, 1) := by decide +kernel
theorem dX4_valueIn_14 : decode cX4_valueIn 14 = .ok (.getfield 74, 3) := by decide +kernel
theorem dX4_valueIn_17 : decode cX4_valueIn 17 = .ok (.if_icmp .ge 64, 3) := by decide +kernel
theorem dX4_valueIn_20 : decode cX4_valueIn 20 = .ok (.aload_n 0, 1) := by decide +kernel
theorem dX4_valueIn_21 : decode cX4_valueIn 21 = .ok (.getfield 28, 3) := by decide +kernel
theorem dX4_valueIn_24 : decode cX4_valueIn 24 = .ok (.iload 6, 2) := by decide +kernel
theorem dX4_valueIn_26 : decode cX4_valueIn 26 = .ok (.iaload, 1) := by decide +kernel
theorem dX4_valueIn_27 : decode cX4_valueIn 27 = .ok (.iload_n 2, 1) := by decide +kernel
theorem dX4_valueIn_28 : decode cX4_valueIn 28 = .ok (.if_icmp .ne 47, 3) := by decide +kernel
theorem dX4_valueIn_31 : decode cX4_valueIn 31 = .ok (.iload_n 2, 1) := by decide +kernel
theorem dX4_valueIn_32 : decode cX4_valueIn 32 = .ok (.iload 4, 2) := by decide +kernel
theorem dX4_valueIn_34 : decode cX4_valueIn 34 = .ok (.if_icmp .ge 41, 3) := by decide +kernel
theorem dX4_valueIn_37 : decode cX4_valueIn 37 = .ok (.aload_n 0, 1) := by decide +kernel
theorem dX4_valueIn_38 : decode cX4_valueIn 38 = .ok (.getfield 31, 3) := by decide +kernel
theorem dX4_valueIn_41 : decode cX4_valueIn 41 = .ok (.iload 6, 2) := by decide +kernel
theorem dX4_valueIn_43 : decode cX4_valueIn 43 = .ok (.iaload, 1) := by decide +kernel
theorem dX4_valueIn_44 : decode cX4_valueIn 44 = .ok (.iload_n 3, 1) := by decide +kernel
theorem dX4_valueIn_45 : decode cX4_valueIn 45 = .ok (.if_icmp .gt 30, 3) := by decide +kernel
theorem dX4_valueIn_48 : decode cX4_valueIn 48 = .ok (.aload_n 0, 1) := by decide +kernel
theorem dX4_valueIn_49 : decode cX4_valueIn 49 = .ok (.iload_n 1, 1) := by decide +kernel
theorem dX4_valueIn_50 : decode cX4_valueIn 50 = .ok (.aload_n 0, 1) := by decide +kernel
theorem dX4_valueIn_51 : decode cX4_valueIn 51 = .ok (.getfield 25, 3) := by decide +kernel
theorem dX4_valueIn_54 : decode cX4_valueIn 54 = .ok (.iload 6, 2) := by decide +kernel
theorem dX4_valueIn_56 : decode cX4_valueIn 56 = .ok (.iaload, 1) := by decide +kernel
theorem dX4_valueIn_57 : decode cX4_valueIn 57 = .ok (.invokevirtual 84, 3) := by decide +kernel
theorem dX4_valueIn_60 : decode cX4_valueIn 60 = .ok (.ifCond .eq 15, 3) := by decide +kernel
theorem dX4_valueIn_63 : decode cX4_valueIn 63 = .ok (.iload 5, 2) := by decide +kernel
theorem dX4_valueIn_65 : decode cX4_valueIn 65 = .ok (.aload_n 0, 1) := by decide +kernel
theorem dX4_valueIn_66 : decode cX4_valueIn 66 = .ok (.getfield 34, 3) := by decide +kernel
theorem dX4_valueIn_69 : decode cX4_valueIn 69 = .ok (.iload 6, 2) := by decide +kernel
theorem dX4_valueIn_71 : decode cX4_valueIn 71 = .ok (.iaload, 1) := by decide +kernel
theorem dX4_valueIn_72 : decode cX4_valueIn 72 = .ok (.iadd, 1) := by decide +kernel
theorem dX4_valueIn_73 : decode cX4_valueIn 73 = .ok (.istore 5, 2) := by decide +kernel
theorem dX4_valueIn_75 : decode cX4_valueIn 75 = .ok (.iinc 6 1, 3) := by decide +kernel
theorem dX4_valueIn_78 : decode cX4_valueIn 78 = .ok (.goto (-67), 3) := by decide +kernel
theorem dX4_valueIn_81 : decode cX4_valueIn 81 = .ok (.iload 5, 2) := by decide +kernel
theorem dX4_valueIn_83 : decode cX4_valueIn 83 = .ok (.ireturn, 1) := by decide +kernel
set_option maxRecDepth 20000 in
theorem ggX4_byKind_X4_valueIn : GoodIn wsX4_byKind wsX4_valueIn := goodIn_ca (goodIn_r _ [10, 11, 12, 13, 14, 15, 16, 17, 18, 19, 9, 20, 21, 22, 23, 24, 25, 26, 27, 28, 29, 30, 31, 32, 33, 34, 35, 36, 37, 38, 39, 40, 41, 42, 43] (by decide +kernel) (by decide +kernel)) (goodIn_sub (fun _ h => List.mem_cons_of_mem _ (List.mem_append_right _ h)) (by decide +kernel))
set_option maxRecDepth 20000 in
theorem gX4_byKind_X4_valueIn : GoodIn wsX4_byKind (wsV RX4 88 RX4 yX4_valueIn wsX4_valueIn) := goodIn_app (goodIn_of _ (by decide +kernel)) ggX4_byKind_X4_valueIn
theorem dX4_byKind_0 : decode cX4_byKind 0 = .ok (.aload_n 0, 1) := by decide +kernel
theorem dX4_byKind_1 : decode cX4_byKind 1 = .ok (.getfield 13, 3) := by decide +kernel
theorem dX4_byKind_4 : decode cX4_byKind 4 = .ok (.iload_n 1, 1) := by decide +kernel
theorem dX4_byKind_5 : decode cX4_byKind 5 = .ok (.iaload, 1) := by decide +kernel
theorem dX4_byKind_6 : decode cX4_byKind 6 = .ok (.bipush 100, 2) := by decide +kernel
theorem dX4_byKind_8 : decode cX4_byKind 8 = .ok (.if_icmp .ne 19, 3) := by decide +kernel
theorem dX4_byKind_11 : decode cX4_byKind 11 = .ok (.aload_n 0, 1) := by decide +kernel
theorem dX4_byKind_12 : decode cX4_byKind 12 = .ok (.iload_n 2, 1) := by decide +kernel
theorem dX4_byKind_13 : decode cX4_byKind 13 = .ok (.aload_n 0, 1) := by decide +kernel
theorem dX4_byKind_14 : decode cX4_byKind 14 = .ok (.getfield 16, 3) := by decide +kernel
theorem dX4_byKind_17 : decode cX4_byKind 17 = .ok (.iload_n 1, 1) := by decide +kernel
theorem dX4_byKind_18 : decode cX4_byKind 18 = .ok (.iaload, 1) := by decide +kernel
theorem dX4_byKind_19 : decode cX4_byKind 19 = .ok (.iload_n 3, 1) := by decide +kernel
theorem dX4_byKind_20 : decode cX4_byKind 20 = .ok (.iload 4, 2) := by decide +kernel
theorem dX4_byKind_22 : decode cX4_byKind 22 = .ok (.invokevirtual 88, 3) := by decide +kernel
theorem dX4_byKind_25 : decode cX4_byKind 25 = .ok (.i2l, 1) := by decide +kernel
theorem dX4_byKind_26 : decode cX4_byKind 26 = .ok (.lreturn, 1) := by decide +kernel
theorem dX4_byKind_27 : decode cX4_byKind 27 = .ok (.aload_n 0, 1) := by decide +kernel
theorem dX4_byKind_28 : decode cX4_byKind 28 = .ok (.getfield 57, 3) := by decide +kernel
theorem dX4_byKind_31 : decode cX4_byKind 31 = .ok (.aload_n 0, 1) := by decide +kernel
theorem dX4_byKind_32 : decode cX4_byKind 32 = .ok (.getfield 16, 3) := by decide +kernel
theorem dX4_byKind_35 : decode cX4_byKind 35 = .ok (.iload_n 1, 1) := by decide +kernel
theorem dX4_byKind_36 : decode cX4_byKind 36 = .ok (.iaload, 1) := by decide +kernel
theorem dX4_byKind_37 : decode cX4_byKind 37 = .ok (.laload, 1) := by decide +kernel
theorem dX4_byKind_38 : decode cX4_byKind 38 = .ok (.lstore 5, 2) := by decide +kernel
theorem dX4_byKind_40 : decode cX4_byKind 40 = .ok (.aload_n 0, 1) := by decide +kernel
theorem dX4_byKind_41 : decode cX4_byKind 41 = .ok (.getfield 57, 3) := by decide +kernel
theorem dX4_byKind_44 : decode cX4_byKind 44 = .ok (.aload_n 0, 1) := by decide +kernel
theorem dX4_byKind_45 : decode cX4_byKind 45 = .ok (.getfield 19, 3) := by decide +kernel
theorem dX4_byKind_48 : decode cX4_byKind 48 = .ok (.iload_n 1, 1) := by decide +kernel
theorem dX4_byKind_49 : decode cX4_byKind 49 = .ok (.iaload, 1) := by decide +kernel
theorem dX4_byKind_50 : decode cX4_byKind 50 = .ok (.laload, 1) := by decide +kernel
theorem dX4_byKind_51 : decode cX4_byKind 51 = .ok (.lstore 7, 2) := by decide +kernel
theorem dX4_byKind_53 : decode cX4_byKind 53 = .ok (.aload_n 0, 1) := by decide +kernel
theorem dX4_byKind_54 : decode cX4_byKind 54 = .ok (.getfield 13, 3) := by decide +kernel
theorem dX4_byKind_57 : decode cX4_byKind 57 = .ok (.iload_n 1, 1) := by decide +kernel
theorem dX4_byKind_58 : decode cX4_byKind 58 = .ok (.iaload, 1) := by decide +kernel
theorem dX4_byKind_59 : decode cX4_byKind 59 = .ok (.bipush 115, 2) := by decide +kernel
theorem dX4_byKind_61 : decode cX4_byKind 61 = .ok (.if_icmp .ne 9, 3) := by decide +kernel
theorem dX4_byKind_64 : decode cX4_byKind 64 = .ok (.lload 5, 2) := by decide +kernel
theorem dX4_byKind_66 : decode cX4_byKind 66 = .ok (.lload 7, 2) := by decide +kernel
theorem dX4_byKind_68 : decode cX4_byKind 68 = .ok (.ladd, 1) := by decide +kernel
theorem dX4_byKind_69 : decode cX4_byKind 69 = .ok (.lreturn, 1) := by decide +kernel
theorem dX4_byKind_70 : decode cX4_byKind 70 = .ok (.aload_n 0, 1) := by decide +kernel
theorem dX4_byKind_71 : decode cX4_byKind 71 = .ok (.getfield 13, 3) := by decide +kernel
theorem dX4_byKind_74 : decode cX4_byKind 74 = .ok (.iload_n 1, 1) := by decide +kernel
theorem dX4_byKind_75 : decode cX4_byKind 75 = .ok (.iaload, 1) := by decide +kernel
theorem dX4_byKind_76 : decode cX4_byKind 76 = .ok (.bipush 109, 2) := by decide +kernel
theorem dX4_byKind_78 : decode cX4_byKind 78 = .ok (.if_icmp .ne 11, 3) := by decide +kernel
theorem dX4_byKind_81 : decode cX4_byKind 81 = .ok (.lload 5, 2) := by decide +kernel
theorem dX4_byKind_83 : decode cX4_byKind 83 = .ok (.lload 7, 2) := by decide +kernel
theorem dX4_byKind_85 : decode cX4_byKind 85 = .ok (.lsub, 1) := by decide +kernel
theorem dX4_byKind_86 : decode cX4_byKind 86 = .ok (.goto 12, 3) := by decide +kernel
theorem dX4_byKind_89 : decode cX4_byKind 89 = .ok (.lload 5, 2) := by decide +kernel
theorem dX4_byKind_91 : decode cX4_byKind 91 = .ok (.lload 7, 2) := by decide +kernel
theorem dX4_byKind_93 : decode cX4_byKind 93 = .ok (.lmul, 1) := by decide +kernel
theorem dX4_byKind_94 : decode cX4_byKind 94 = .ok (.ldc2_w 92, 3) := by decide +kernel
theorem dX4_byKind_97 : decode cX4_byKind 97 = .ok (.ldiv, 1) := by decide +kernel
theorem dX4_byKind_98 : decode cX4_byKind 98 = .ok (.lreturn, 1) := by decide +kernel
set_option maxRecDepth 20000 in
theorem ggX4_finds_X4_at : GoodIn wsX4_finds wsX4_at := goodIn_r _ [13] (by decide +kernel) (by decide +kernel)
set_option maxRecDepth 20000 in
theorem gX4_finds_X4_at : GoodIn wsX4_finds (va_wsS RX4 94 yX4_at wsX4_at) := goodIn_app (goodIn_of _ (by decide +kernel)) ggX4_finds_X4_at
set_option maxRecDepth 20000 in
theorem ggX4_finds_X4_byKind : GoodIn wsX4_finds wsX4_byKind := goodIn_ca (goodIn_r _ [17, 2, 4, 6, 5, 18, 19, 20, 21, 12, 22, 23, 24, 25, 26, 27, 28, 29, 30, 31, 32, 33, 34, 35, 36, 37, 38, 39, 40, 41, 42, 43, 44, 45, 46, 47, 48, 49, 50, 51, 52, 53, 54, 55] (by decide +kernel) (by decide +kernel)) (goodIn_sub (fun _ h => List.mem_cons_of_mem _ (List.mem_append_right _ h)) (by decide +kernel))
set_option maxRecDepth 20000 in
theorem gX4_finds_X4_byKind : GoodIn wsX4_finds (wsV RX4 98 RX4 yX4_byKind wsX4_byKind) := goodIn_app (goodIn_of _ (by decide +kernel)) ggX4_finds_X4_byKind
theorem dX4_finds_0 : decode cX4_finds 0 = .ok (.iconst 0, 1) := by decide +kernel
theorem dX4_finds_1 : decode cX4_finds 1 = .ok (.istore 5, 2) := by decide +kernel
theorem dX4_finds_3 : decode cX4_finds 3 = .ok (.iload 5, 2) := by decide +kernel
theorem dX4_finds_5 : decode cX4_finds 5 = .ok (.iload_n 2, 1) := by decide +kernel
theorem dX4_finds_6 : decode cX4_finds 6 = .ok (.if_icmp .gt 167, 3) := by decide +kernel
theorem dX4_finds_9 : decode cX4_finds 9 = .ok (.aload_n 0, 1) := by decide +kernel
theorem dX4_finds_10 : decode cX4_finds 10 = .ok (.getfield 46, 3) := by decide +kernel
theorem dX4_finds_13 : decode cX4_finds 13 = .ok (.iload 5, 2) := by decide +kernel
theorem dX4_finds_15 : decode cX4_finds 15 = .ok (.iload_n 3, 1) := by decide +kernel
theorem dX4_finds_16 : decode cX4_finds 16 = .ok (.invokestatic 94, 3) := by decide +kernel
theorem dX4_finds_19 : decode cX4_finds 19 = .ok (.baload, 1) := by decide +kernel
theorem dX4_finds_20 : decode cX4_finds 20 = .ok (.istore 6, 2) := by decide +kernel
theorem dX4_finds_22 : decode cX4_finds 22 = .ok (.iload 6, 2) := by decide +kernel
theorem dX4_finds_24 : decode cX4_finds 24 = .ok (.ifCond .ne 45, 3) := by decide +kernel
theorem dX4_finds_27 : decode cX4_finds 27 = .ok (.aload_n 0, 1) := by decide +kernel
theorem dX4_finds_28 : decode cX4_finds 28 = .ok (.getfield 13, 3) := by decide +kernel
theorem dX4_finds_31 : decode cX4_finds 31 = .ok (.iload 5, 2) := by decide +kernel
theorem dX4_finds_33 : decode cX4_finds 33 = .ok (.iaload, 1) := by decide +kernel
theorem dX4_finds_34 : decode cX4_finds 34 = .ok (.bipush 100, 2) := by decide +kernel
theorem dX4_finds_36 : decode cX4_finds 36 = .ok (.if_icmp .eq 33, 3) := by decide +kernel
theorem dX4_finds_39 : decode cX4_finds 39 = .ok (.aload_n 0, 1) := by decide +kernel
theorem dX4_finds_40 : decode cX4_finds 40 = .ok (.getfield 50, 3) := by decide +kernel
theorem dX4_finds_43 : decode cX4_finds 43 = .ok (.aload_n 0, 1) := by decide +kernel
theorem dX4_finds_44 : decode cX4_finds 44 = .ok (.getfield 16, 3) := by decide +kernel
theorem dX4_finds_47 : decode cX4_finds 47 = .ok (.iload 5, 2) := by decide +kernel
theorem dX4_finds_49 : decode cX4_finds 49 = .ok (.iaload, 1) := by decide +kernel
theorem dX4_finds_50 : decode cX4_finds 50 = .ok (.baload, 1) := by decide +kernel
theorem dX4_finds_51 : decode cX4_finds 51 = .ok (.ifCond .eq 22, 3) := by decide +kernel
theorem dX4_finds_54 : decode cX4_finds 54 = .ok (.aload_n 0, 1) := by decide +kernel
theorem dX4_finds_55 : decode cX4_finds 55 = .ok (.getfield 50, 3) := by decide +kernel
theorem dX4_finds_58 : decode cX4_finds 58 = .ok (.aload_n 0, 1) := by decide +kernel
theorem dX4_finds_59 : decode cX4_finds 59 = .ok (.getfield 19, 3) := by decide +kernel
theorem dX4_finds_62 : decode cX4_finds 62 = .ok (.iload 5, 2) := by decide +kernel
theorem dX4_finds_64 : decode cX4_finds 64 = .ok (.iaload, 1) := by decide +kernel
theorem dX4_finds_65 : decode cX4_finds 65 = .ok (.baload, 1) := by decide +kernel
theorem dX4_finds_66 : decode cX4_finds 66 = .ok (.ifCond .eq 7, 3) := by decide +kernel
theorem dX4_finds_69 : decode cX4_finds 69 = .ok (.iconst 1, 1) := by decide +kernel
theorem dX4_finds_70 : decode cX4_finds 70 = .ok (.goto 4, 3) := by decide +kernel
theorem dX4_finds_73 : decode cX4_finds 73 = .ok (.iconst 0, 1) := by decide +kernel
theorem dX4_finds_74 : decode cX4_finds 74 = .ok (.istore 7, 2) := by decide +kernel
theorem dX4_finds_76 : decode cX4_finds 76 = .ok (.aload_n 0, 1) := by decide +kernel
theorem dX4_finds_77 : decode cX4_finds 77 = .ok (.getfield 57, 3) := by decide +kernel
theorem dX4_finds_80 : decode cX4_finds 80 = .ok (.iload 5, 2) := by decide +kernel
theorem dX4_finds_82 : decode cX4_finds 82 = .ok (.iload 6, 2) := by decide +kernel
theorem dX4_finds_84 : decode cX4_finds 84 = .ok (.ifCond .eq 18, 3) := by decide +kernel
theorem dX4_finds_87 : decode cX4_finds 87 = .ok (.aload_n 0, 1) := by decide +kernel
theorem dX4_finds_88 : decode cX4_finds 88 = .ok (.getfield 37, 3) := by decide +kernel
theorem dX4_finds_91 : decode cX4_finds 91 = .ok (.iload 5, 2) := by decide +kernel
theorem dX4_finds_93 : decode cX4_finds 93 = .ok (.iload_n 3, 1) := by decide +kernel
theorem dX4_finds_94 : decode cX4_finds 94 = .ok (.invokestatic 94, 3) := by decide +kernel
theorem dX4_finds_97 : decode cX4_finds 97 = .ok (.iaload, 1) := by decide +kernel
theorem dX4_finds_98 : decode cX4_finds 98 = .ok (.i2l, 1) := by decide +kernel
theorem dX4_finds_99 : decode cX4_finds 99 = .ok (.goto 22, 3) := by decide +kernel
theorem dX4_finds_102 : decode cX4_finds 102 = .ok (.iload 7, 2) := by decide +kernel
theorem dX4_finds_104 : decode cX4_finds 104 = .ok (.ifCond .eq 16, 3) := by decide +kernel
theorem dX4_finds_107 : decode cX4_finds 107 = .ok (.aload_n 0, 1) := by decide +kernel
theorem dX4_finds_108 : decode cX4_finds 108 = .ok (.iload 5, 2) := by decide +kernel
theorem dX4_finds_110 : decode cX4_finds 110 = .ok (.iload_n 1, 1) := by decide +kernel
theorem dX4_finds_111 : decode cX4_finds 111 = .ok (.iload_n 3, 1) := by decide +kernel
theorem dX4_finds_112 : decode cX4_finds 112 = .ok (.iload 4, 2) := by decide +kernel
theorem dX4_finds_114 : decode cX4_finds 114 = .ok (.invokevirtual 98, 3) := by decide +kernel
theorem dX4_finds_117 : decode cX4_finds 117 = .ok (.goto 4, 3) := by decide +kernel
theorem dX4_finds_120 : decode cX4_finds 120 = .ok (.lconst 0, 1) := by decide +kernel
theorem dX4_finds_121 : decode cX4_finds 121 = .ok (.lastore, 1) := by decide +kernel
theorem dX4_finds_122 : decode cX4_finds 122 = .ok (.aload_n 0, 1) := by decide +kernel
theorem dX4_finds_123 : decode cX4_finds 123 = .ok (.getfield 50, 3) := by decide +kernel
theorem dX4_finds_126 : decode cX4_finds 126 = .ok (.iload 5, 2) := by decide +kernel
theorem dX4_finds_128 : decode cX4_finds 128 = .ok (.iload 7, 2) := by decide +kernel
theorem dX4_finds_130 : decode cX4_finds 130 = .ok (.ifCond .eq 35, 3) := by decide +kernel
theorem dX4_finds_133 : decode cX4_finds 133 = .ok (.aload_n 0, 1) := by decide +kernel
theorem dX4_finds_134 : decode cX4_finds 134 = .ok (.getfield 57, 3) := by decide +kernel
theorem dX4_finds_137 : decode cX4_finds 137 = .ok (.iload 5, 2) := by decide +kernel
theorem dX4_finds_139 : decode cX4_finds 139 = .ok (.laload, 1) := by decide +kernel
theorem dX4_finds_140 : decode cX4_finds 140 = .ok (.ldc2_w 102, 3) := by decide +kernel
theorem dX4_finds_143 : decode cX4_finds 143 = .ok (.lcmp, 1) := by decide +kernel
theorem dX4_finds_144 : decode cX4_finds 144 = .ok (.ifCond .lt 21, 3) := by decide +kernel
theorem dX4_finds_147 : decode cX4_finds 147 = .ok (.aload_n 0, 1) := by decide +kernel
theorem dX4_finds_148 : decode cX4_finds 148 = .ok (.getfield 57, 3) := by decide +kernel
theorem dX4_finds_151 : decode cX4_finds 151 = .ok (.iload 5, 2) := by decide +kernel
theorem dX4_finds_153 : decode cX4_finds 153 = .ok (.laload, 1) := by decide +kernel
theorem dX4_finds_154 : decode cX4_finds 154 = .ok (.ldc2_w 104, 3) := by decide +kernel
theorem dX4_finds_157 : decode cX4_finds 157 = .ok (.lcmp, 1) := by decide +kernel
theorem dX4_finds_158 : decode cX4_finds 158 = .ok (.ifCond .gt 7, 3) := by decide +kernel
theorem dX4_finds_161 : decode cX4_finds 161 = .ok (.iconst 1, 1) := by decide +kernel
theorem dX4_finds_162 : decode cX4_finds 162 = .ok (.goto 4, 3) := by decide +kernel
theorem dX4_finds_165 : decode cX4_finds 165 = .ok (.iconst 0, 1) := by decide +kernel
theorem dX4_finds_166 : decode cX4_finds 166 = .ok (.bastore, 1) := by decide +kernel
theorem dX4_finds_167 : decode cX4_finds 167 = .ok (.iinc 5 1, 3) := by decide +kernel
theorem dX4_finds_170 : decode cX4_finds 170 = .ok (.goto (-167), 3) := by decide +kernel
theorem dX4_finds_173 : decode cX4_finds 173 = .ok (.aload_n 0, 1) := by decide +kernel
theorem dX4_finds_174 : decode cX4_finds 174 = .ok (.getfield 50, 3) := by decide +kernel
theorem dX4_finds_177 : decode cX4_finds 177 = .ok (.iload_n 2, 1) := by decide +kernel
theorem dX4_finds_178 : decode cX4_finds 178 = .ok (.baload, 1) := by decide +kernel
theorem dX4_finds_179 : decode cX4_finds 179 = .ok (.ireturn, 1) := by decide +kernel
set_option maxRecDepth 20000 in
theorem ggX4_looks_X4_at : GoodIn wsX4_looks wsX4_at := goodIn_r _ [9] (by decide +kernel) (by decide +kernel)
set_option maxRecDepth 20000 in
theorem gX4_looks_X4_at : GoodIn wsX4_looks (va_wsS RX4 94 yX4_at wsX4_at) := goodIn_app (goodIn_of _ (by decide +kernel)) ggX4_looks_X4_at
set_option maxRecDepth 20000 in
theorem ggX4_looks_X4_finds : GoodIn wsX4_looks wsX4_finds := goodIn_ca (goodIn_r _ [13, 14, 15, 16, 17, 18, 3, 19, 20, 21, 6, 7, 8, 9, 22, 23, 24, 25, 26, 27, 28, 29, 30, 31, 32, 33, 34, 35, 36, 37, 38, 39, 40, 41, 42, 43, 44, 45, 46, 47, 48, 49, 50, 51, 52, 53, 54, 55, 56, 57, 58, 59, 60, 61, 62, 63] (by decide +kernel) (by decide +kernel)) (goodIn_sub (fun _ h => List.mem_cons_of_mem _ (List.mem_append_right _ h)) (by decide +kernel))
set_option maxRecDepth 20000 in
theorem gX4_looks_X4_finds : GoodIn wsX4_looks (wsV RX4 106 RX4 yX4_finds wsX4_finds) := goodIn_app (goodIn_of _ (by decide +kernel)) ggX4_looks_X4_finds
theorem dX4_looks_0 : decode cX4_looks 0 = .ok (.iconst 0, 1) := by decide +kernel
theorem dX4_looks_1 : decode cX4_looks 1 = .ok (.istore_n 1, 1) := by decide +kernel
theorem dX4_looks_2 : decode cX4_looks 2 = .ok (.iconst 0, 1) := by decide +kernel
theorem dX4_looks_3 : decode cX4_looks 3 = .ok (.istore_n 2, 1) := by decide +kernel
theorem dX4_looks_4 : decode cX4_looks 4 = .ok (.iload_n 2, 1) := by decide +kernel
theorem dX4_looks_5 : decode cX4_looks 5 = .ok (.aload_n 0, 1) := by decide +kernel
theorem dX4_looks_6 : decode cX4_looks 6 = .ok (.getfield 68, 3) := by decide +kernel
theorem dX4_looks_9 : decode cX4_looks 9 = .ok (.if_icmp .ge 130, 3) := by decide +kernel
theorem dX4_looks_12 : decode cX4_looks 12 = .ok (.iconst 0, 1) := by decide +kernel
theorem dX4_looks_13 : decode cX4_looks 13 = .ok (.istore_n 3, 1) := by decide +kernel
theorem dX4_looks_14 : decode cX4_looks 14 = .ok (.iload_n 3, 1) := by decide +kernel
theorem dX4_looks_15 : decode cX4_looks 15 = .ok (.bipush 12, 2) := by decide +kernel
theorem dX4_looks_17 : decode cX4_looks 17 = .ok (.if_icmp .ge 116, 3) := by decide +kernel
theorem dX4_looks_20 : decode cX4_looks 20 = .ok (.aload_n 0, 1) := by decide +kernel
theorem dX4_looks_21 : decode cX4_looks 21 = .ok (.getfield 53, 3) := by decide +kernel
theorem dX4_looks_24 : decode cX4_looks 24 = .ok (.iload_n 2, 1) := by decide +kernel
theorem dX4_looks_25 : decode cX4_looks 25 = .ok (.iload_n 3, 1) := by decide +kernel
theorem dX4_looks_26 : decode cX4_looks 26 = .ok (.invokestatic 94, 3) := by decide +kernel
theorem dX4_looks_29 : decode cX4_looks 29 = .ok (.caload, 1) := by decide +kernel
theorem dX4_looks_30 : decode cX4_looks 30 = .ok (.bipush 97, 2) := by decide +kernel
theorem dX4_looks_32 : decode cX4_looks 32 = .ok (.if_icmp .eq 6, 3) := by decide +kernel
theorem dX4_looks_35 : decode cX4_looks 35 = .ok (.goto 92, 3) := by decide +kernel
theorem dX4_looks_38 : decode cX4_looks 38 = .ok (.aload_n 0, 1) := by decide +kernel
theorem dX4_looks_39 : decode cX4_looks 39 = .ok (.iconst 0, 1) := by decide +kernel
theorem dX4_looks_40 : decode cX4_looks 40 = .ok (.iload_n 2, 1) := by decide +kernel
theorem dX4_looks_41 : decode cX4_looks 41 = .ok (.iload_n 3, 1) := by decide +kernel
theorem dX4_looks_42 : decode cX4_looks 42 = .ok (.bipush 6, 2) := by decide +kernel
theorem dX4_looks_44 : decode cX4_looks 44 = .ok (.invokevirtual 106, 3) := by decide +kernel
theorem dX4_looks_47 : decode cX4_looks 47 = .ok (.istore 4, 2) := by decide +kernel
theorem dX4_looks_49 : decode cX4_looks 49 = .ok (.aload_n 0, 1) := by decide +kernel
theorem dX4_looks_50 : decode cX4_looks 50 = .ok (.getfield 57, 3) := by decide +kernel
theorem dX4_looks_53 : decode cX4_looks 53 = .ok (.iload_n 2, 1) := by decide +kernel
theorem dX4_looks_54 : decode cX4_looks 54 = .ok (.laload, 1) := by decide +kernel
theorem dX4_looks_55 : decode cX4_looks 55 = .ok (.aload_n 0, 1) := by decide +kernel
theorem dX4_looks_56 : decode cX4_looks 56 = .ok (.getfield 40, 3) := by decide +kernel
theorem dX4_looks_59 : decode cX4_looks 59 = .ok (.iload_n 2, 1) := by decide +kernel
theorem dX4_looks_60 : decode cX4_looks 60 = .ok (.iload_n 3, 1) := by decide +kernel
theorem dX4_looks_61 : decode cX4_looks 61 = .ok (.invokestatic 94, 3) := by decide +kernel
theorem dX4_looks_64 : decode cX4_looks 64 = .ok (.iaload, 1) := by decide +kernel
theorem dX4_looks_65 : decode cX4_looks 65 = .ok (.i2l, 1) := by decide +kernel
theorem dX4_looks_66 : decode cX4_looks 66 = .ok (.lsub, 1) := by decide +kernel
theorem dX4_looks_67 : decode cX4_looks 67 = .ok (.lstore 5, 2) := by decide +kernel
theorem dX4_looks_69 : decode cX4_looks 69 = .ok (.iload 4, 2) := by decide +kernel
theorem dX4_looks_71 : decode cX4_looks 71 = .ok (.ifCond .eq 41, 3) := by decide +kernel
theorem dX4_looks_74 : decode cX4_looks 74 = .ok (.lload 5, 2) := by decide +kernel
theorem dX4_looks_76 : decode cX4_looks 76 = .ok (.aload_n 0, 1) := by decide +kernel
theorem dX4_looks_77 : decode cX4_looks 77 = .ok (.getfield 43, 3) := by decide +kernel
theorem dX4_looks_80 : decode cX4_looks 80 = .ok (.iload_n 2, 1) := by decide +kernel
theorem dX4_looks_81 : decode cX4_looks 81 = .ok (.iload_n 3, 1) := by decide +kernel
theorem dX4_looks_82 : decode cX4_looks 82 = .ok (.invokestatic 94, 3) := by decide +kernel
theorem dX4_looks_85 : decode cX4_looks 85 = .ok (.iaload, 1) := by decide +kernel
theorem dX4_looks_86 : decode cX4_looks 86 = .ok (.i2l, 1) := by decide +kernel
theorem dX4_looks_87 : decode cX4_looks 87 = .ok (.lcmp, 1) := by decide +kernel
theorem dX4_looks_88 : decode cX4_looks 88 = .ok (.ifCond .gt 24, 3) := by decide +kernel
theorem dX4_looks_91 : decode cX4_looks 91 = .ok (.lload 5, 2) := by decide +kernel
theorem dX4_looks_93 : decode cX4_looks 93 = .ok (.lneg, 1) := by decide +kernel
theorem dX4_looks_94 : decode cX4_looks 94 = .ok (.aload_n 0, 1) := by decide +kernel
theorem dX4_looks_95 : decode cX4_looks 95 = .ok (.getfield 43, 3) := by decide +kernel
theorem dX4_looks_98 : decode cX4_looks 98 = .ok (.iload_n 2, 1) := by decide +kernel
theorem dX4_looks_99 : decode cX4_looks 99 = .ok (.iload_n 3, 1) := by decide +kernel
theorem dX4_looks_100 : decode cX4_looks 100 = .ok (.invokestatic 94, 3) := by decide +kernel
theorem dX4_looks_103 : decode cX4_looks 103 = .ok (.iaload, 1) := by decide +kernel
theorem dX4_looks_104 : decode cX4_looks 104 = .ok (.i2l, 1) := by decide +kernel
theorem dX4_looks_105 : decode cX4_looks 105 = .ok (.lcmp, 1) := by decide +kernel
theorem dX4_looks_106 : decode cX4_looks 106 = .ok (.ifCond .gt 6, 3) := by decide +kernel
theorem dX4_looks_109 : decode cX4_looks 109 = .ok (.goto 18, 3) := by decide +kernel
theorem dX4_looks_112 : decode cX4_looks 112 = .ok (.aload_n 0, 1) := by decide +kernel
theorem dX4_looks_113 : decode cX4_looks 113 = .ok (.getfield 53, 3) := by decide +kernel
theorem dX4_looks_116 : decode cX4_looks 116 = .ok (.iload_n 2, 1) := by decide +kernel
theorem dX4_looks_117 : decode cX4_looks 117 = .ok (.iload_n 3, 1) := by decide +kernel
theorem dX4_looks_118 : decode cX4_looks 118 = .ok (.invokestatic 94, 3) := by decide +kernel
theorem dX4_looks_121 : decode cX4_looks 121 = .ok (.bipush 111, 2) := by decide +kernel
theorem dX4_looks_123 : decode cX4_looks 123 = .ok (.castore, 1) := by decide +kernel
theorem dX4_looks_124 : decode cX4_looks 124 = .ok (.iinc 1 1, 3) := by decide +kernel
theorem dX4_looks_127 : decode cX4_looks 127 = .ok (.iinc 3 1, 3) := by decide +kernel
theorem dX4_looks_130 : decode cX4_looks 130 = .ok (.goto (-116), 3) := by decide +kernel
theorem dX4_looks_133 : decode cX4_looks 133 = .ok (.iinc 2 1, 3) := by decide +kernel
theorem dX4_looks_136 : decode cX4_looks 136 = .ok (.goto (-132), 3) := by decide +kernel
theorem dX4_looks_139 : decode cX4_looks 139 = .ok (.iload_n 1, 1) := by decide +kernel
theorem dX4_looks_140 : decode cX4_looks 140 = .ok (.ireturn, 1) := by decide +kernel
set_option maxRecDepth 20000 in
theorem ggX4_addDriver_X4_in : GoodIn wsX4_addDriver wsX4_in := goodIn_r _ [7] (by decide +kernel) (by decide +kernel)
set_option maxRecDepth 20000 in
theorem gX4_addDriver_X4_in : GoodIn wsX4_addDriver (va_wsS RX4 80 yX4_in wsX4_in) := goodIn_app (goodIn_of _ (by decide +kernel)) ggX4_addDriver_X4_in
theorem dX4_addDriver_0 : decode cX4_addDriver 0 = .ok (.aload_n 0, 1) := by decide +kernel
theorem dX4_addDriver_1 : decode cX4_addDriver 1 = .ok (.iload_n 1, 1) := by decide +kernel
theorem dX4_addDriver_2 : decode cX4_addDriver 2 = .ok (.iconst 0, 1) := by decide +kernel
theorem dX4_addDriver_3 : decode cX4_addDriver 3 = .ok (.sipush 9999, 3) := by decide +kernel
theorem dX4_addDriver_6 : decode cX4_addDriver 6 = .ok (.invokestatic 80, 3) := by decide +kernel
theorem dX4_addDriver_9 : decode cX4_addDriver 9 = .ok (.ifCond .ne 7, 3) := by decide +kernel
theorem dX4_addDriver_12 : decode cX4_addDriver 12 = .ok (.iconst 1, 1) := by decide +kernel
theorem dX4_addDriver_13 : decode cX4_addDriver 13 = .ok (.goto 17, 3) := by decide +kernel
theorem dX4_addDriver_16 : decode cX4_addDriver 16 = .ok (.aload_n 0, 1) := by decide +kernel
theorem dX4_addDriver_17 : decode cX4_addDriver 17 = .ok (.getfield 65, 3) := by decide +kernel
theorem dX4_addDriver_20 : decode cX4_addDriver 20 = .ok (.bipush 6, 2) := by decide +kernel
theorem dX4_addDriver_22 : decode cX4_addDriver 22 = .ok (.if_icmp .ne 7, 3) := by decide +kernel
theorem dX4_addDriver_25 : decode cX4_addDriver 25 = .ok (.iconst 2, 1) := by decide +kernel
theorem dX4_addDriver_26 : decode cX4_addDriver 26 = .ok (.goto 4, 3) := by decide +kernel
theorem dX4_addDriver_29 : decode cX4_addDriver 29 = .ok (.iconst 0, 1) := by decide +kernel
theorem dX4_addDriver_30 : decode cX4_addDriver 30 = .ok (.putfield 61, 3) := by decide +kernel
theorem dX4_addDriver_33 : decode cX4_addDriver 33 = .ok (.aload_n 0, 1) := by decide +kernel
theorem dX4_addDriver_34 : decode cX4_addDriver 34 = .ok (.getfield 61, 3) := by decide +kernel
theorem dX4_addDriver_37 : decode cX4_addDriver 37 = .ok (.ifCond .le 5, 3) := by decide +kernel
theorem dX4_addDriver_40 : decode cX4_addDriver 40 = .ok (.iconst 0, 1) := by decide +kernel
theorem dX4_addDriver_41 : decode cX4_addDriver 41 = .ok (.ireturn, 1) := by decide +kernel
theorem dX4_addDriver_42 : decode cX4_addDriver 42 = .ok (.aload_n 0, 1) := by decide +kernel
theorem dX4_addDriver_43 : decode cX4_addDriver 43 = .ok (.getfield 7, 3) := by decide +kernel
theorem dX4_addDriver_46 : decode cX4_addDriver 46 = .ok (.aload_n 0, 1) := by decide +kernel
theorem dX4_addDriver_47 : decode cX4_addDriver 47 = .ok (.getfield 65, 3) := by decide +kernel
theorem dX4_addDriver_50 : decode cX4_addDriver 50 = .ok (.iload_n 1, 1) := by decide +kernel
theorem dX4_addDriver_51 : decode cX4_addDriver 51 = .ok (.iastore, 1) := by decide +kernel
theorem dX4_addDriver_52 : decode cX4_addDriver 52 = .ok (.aload_n 0, 1) := by decide +kernel
theorem dX4_addDriver_53 : decode cX4_addDriver 53 = .ok (.dup, 1) := by decide +kernel
theorem dX4_addDriver_54 : decode cX4_addDriver 54 = .ok (.getfield 65, 3) := by decide +kernel
theorem dX4_addDriver_57 : decode cX4_addDriver 57 = .ok (.iconst 1, 1) := by decide +kernel
theorem dX4_addDriver_58 : decode cX4_addDriver 58 = .ok (.iadd, 1) := by decide +kernel
theorem dX4_addDriver_59 : decode cX4_addDriver 59 = .ok (.putfield 65, 3) := by decide +kernel
theorem dX4_addDriver_62 : decode cX4_addDriver 62 = .ok (.aload_n 0, 1) := by decide +kernel
theorem dX4_addDriver_63 : decode cX4_addDriver 63 = .ok (.getfield 65, 3) := by decide +kernel
theorem dX4_addDriver_66 : decode cX4_addDriver 66 = .ok (.iconst 1, 1) := by decide +kernel
theorem dX4_addDriver_67 : decode cX4_addDriver 67 = .ok (.isub, 1) := by decide +kernel
theorem dX4_addDriver_68 : decode cX4_addDriver 68 = .ok (.ireturn, 1) := by decide +kernel
set_option maxRecDepth 20000 in
theorem ggX4_setDriver_X4_isDriver : GoodIn wsX4_setDriver wsX4_isDriver := goodIn_r _ [7, 8, 9, 10, 6, 11, 55, 56, 57, 58, 59, 60, 61, 62, 63, 64, 65, 66, 67, 68, 69, 70, 71, 72, 73, 74, 75, 76] (by decide +kernel) (by decide +kernel)
set_option maxRecDepth 20000 in
theorem gX4_setDriver_X4_isDriver : GoodIn wsX4_setDriver (wsV RX4 110 RX4 yX4_isDriver wsX4_isDriver) := goodIn_app (goodIn_of _ (by decide +kernel)) ggX4_setDriver_X4_isDriver
set_option maxRecDepth 20000 in
theorem ggX4_setDriver_X4_in : GoodIn wsX4_setDriver wsX4_in := goodIn_r _ [11] (by decide +kernel) (by decide +kernel)
set_option maxRecDepth 20000 in
theorem gX4_setDriver_X4_in : GoodIn wsX4_setDriver (va_wsS RX4 80 yX4_in wsX4_in) := goodIn_app (goodIn_of _ (by decide +kernel)) ggX4_setDriver_X4_in
set_option maxRecDepth 20000 in
theorem ggX4_setDriver_X4_looks : GoodIn wsX4_setDriver wsX4_looks := goodIn_ca (goodIn_r _ [15, 16, 17, 18, 19, 20, 21, 22, 6, 23, 24, 25, 26, 27, 28, 29, 30, 31, 32, 33, 34, 35, 36, 37, 38, 39, 40, 41, 42, 43, 44, 2, 45, 46, 47, 48, 49, 50, 51, 52, 53, 54, 55, 56, 57, 58, 59, 60, 61, 62, 63, 64, 65, 66, 67, 68, 69, 70, 71, 72, 73, 74, 75, 76] (by decide +kernel) (by decide +kernel)) (goodIn_sub (fun _ h => List.mem_cons_of_mem _ (List.mem_append_right _ h)) (by decide +kernel))
set_option maxRecDepth 20000 in
theorem gX4_setDriver_X4_looks : GoodIn wsX4_setDriver (wsV RX4 114 RX4 yX4_looks wsX4_looks) := goodIn_app (goodIn_of _ (by decide +kernel)) ggX4_setDriver_X4_looks
theorem dX4_setDriver_0 : decode cX4_setDriver 0 = .ok (.aload_n 0, 1) := by decide +kernel
theorem dX4_setDriver_1 : decode cX4_setDriver 1 = .ok (.aload_n 0, 1) := by decide +kernel
theorem dX4_setDriver_2 : decode cX4_setDriver 2 = .ok (.iload_n 1, 1) := by decide +kernel
theorem dX4_setDriver_3 : decode cX4_setDriver 3 = .ok (.invokevirtual 110, 3) := by decide +kernel
theorem dX4_setDriver_6 : decode cX4_setDriver 6 = .ok (.ifCond .ne 7, 3) := by decide +kernel
theorem dX4_setDriver_9 : decode cX4_setDriver 9 = .ok (.iconst 1, 1) := by decide +kernel
theorem dX4_setDriver_10 : decode cX4_setDriver 10 = .ok (.goto 19, 3) := by decide +kernel
theorem dX4_setDriver_13 : decode cX4_setDriver 13 = .ok (.iload_n 2, 1) := by decide +kernel
theorem dX4_setDriver_14 : decode cX4_setDriver 14 = .ok (.iconst 0, 1) := by decide +kernel
theorem dX4_setDriver_15 : decode cX4_setDriver 15 = .ok (.sipush 9999, 3) := by decide +kernel
theorem dX4_setDriver_18 : decode cX4_setDriver 18 = .ok (.invokestatic 80, 3) := by decide +kernel
theorem dX4_setDriver_21 : decode cX4_setDriver 21 = .ok (.ifCond .ne 7, 3) := by decide +kernel
theorem dX4_setDriver_24 : decode cX4_setDriver 24 = .ok (.iconst 2, 1) := by decide +kernel
theorem dX4_setDriver_25 : decode cX4_setDriver 25 = .ok (.goto 4, 3) := by decide +kernel
theorem dX4_setDriver_28 : decode cX4_setDriver 28 = .ok (.iconst 0, 1) := by decide +kernel
theorem dX4_setDriver_29 : decode cX4_setDriver 29 = .ok (.putfield 61, 3) := by decide +kernel
theorem dX4_setDriver_32 : decode cX4_setDriver 32 = .ok (.aload_n 0, 1) := by decide +kernel
theorem dX4_setDriver_33 : decode cX4_setDriver 33 = .ok (.getfield 61, 3) := by decide +kernel
theorem dX4_setDriver_36 : decode cX4_setDriver 36 = .ok (.ifCond .le 5, 3) := by decide +kernel
theorem dX4_setDriver_39 : decode cX4_setDriver 39 = .ok (.iconst 0, 1) := by decide +kernel
theorem dX4_setDriver_40 : decode cX4_setDriver 40 = .ok (.ireturn, 1) := by decide +kernel
theorem dX4_setDriver_41 : decode cX4_setDriver 41 = .ok (.aload_n 0, 1) := by decide +kernel
theorem dX4_setDriver_42 : decode cX4_setDriver 42 = .ok (.getfield 7, 3) := by decide +kernel
theorem dX4_setDriver_45 : decode cX4_setDriver 45 = .ok (.iload_n 1, 1) := by decide +kernel
theorem dX4_setDriver_46 : decode cX4_setDriver 46 = .ok (.iload_n 2, 1) := by decide +kernel
theorem dX4_setDriver_47 : decode cX4_setDriver 47 = .ok (.iastore, 1) := by decide +kernel
theorem dX4_setDriver_48 : decode cX4_setDriver 48 = .ok (.aload_n 0, 1) := by decide +kernel
theorem dX4_setDriver_49 : decode cX4_setDriver 49 = .ok (.invokevirtual 114, 3) := by decide +kernel
theorem dX4_setDriver_52 : decode cX4_setDriver 52 = .ok (.ireturn, 1) := by decide +kernel
set_option maxRecDepth 20000 in
theorem ggX4_driver_X4_isScenario : GoodIn wsX4_driver wsX4_isScenario := goodIn_r _ [5, 6, 7, 8, 4, 9, 38, 39, 40, 41, 42, 43, 44, 45, 46, 47, 48, 49, 50, 51, 52, 53, 54, 55, 56, 57, 58, 59] (by decide +kernel) (by decide +kernel)
set_option maxRecDepth 20000 in
theorem gX4_driver_X4_isScenario : GoodIn wsX4_driver (wsV RX4 118 RX4 yX4_isScenario wsX4_isScenario) := goodIn_app (goodIn_of _ (by decide +kernel)) ggX4_driver_X4_isScenario
set_option maxRecDepth 20000 in
theorem ggX4_driver_X4_isDriver : GoodIn wsX4_driver wsX4_isDriver := goodIn_r _ [13, 14, 7, 8, 4, 9, 38, 39, 40, 41, 42, 43, 44, 45, 46, 47, 48, 49, 50, 51, 52, 53, 54, 55, 56, 57, 58, 59] (by decide +kernel) (by decide +kernel)
set_option maxRecDepth 20000 in
theorem gX4_driver_X4_isDriver : GoodIn wsX4_driver (wsV RX4 110 RX4 yX4_isDriver wsX4_isDriver) := goodIn_app (goodIn_of _ (by decide +kernel)) ggX4_driver_X4_isDriver
set_option maxRecDepth 20000 in
theorem ggX4_driver_X4_isMonth : GoodIn wsX4_driver wsX4_isMonth := goodIn_r _ [17, 7, 8, 4, 9] (by decide +kernel) (by decide +kernel)
set_option maxRecDepth 20000 in
theorem gX4_driver_X4_isMonth : GoodIn wsX4_driver (va_wsS RX4 121 yX4_isMonth wsX4_isMonth) := goodIn_app (goodIn_of _ (by decide +kernel)) ggX4_driver_X4_isMonth
set_option maxRecDepth 20000 in
theorem ggX4_driver_X4_checked : GoodIn wsX4_driver wsX4_checked := goodIn_r _ [21, 22, 38, 39, 40, 41, 42, 43, 44, 45, 46, 47, 48, 49, 50, 51, 52, 53, 54, 55, 56, 57, 58, 59] (by decide +kernel) (by decide +kernel)
set_option maxRecDepth 20000 in
theorem gX4_driver_X4_checked : GoodIn wsX4_driver (wsV RX4 124 RX4 yX4_checked wsX4_checked) := goodIn_app (goodIn_of _ (by decide +kernel)) ggX4_driver_X4_checked
set_option maxRecDepth 20000 in
theorem ggX4_driver_X4_valueIn : GoodIn wsX4_driver wsX4_valueIn := goodIn_ca (goodIn_r _ [26, 27, 28, 29, 30, 31, 32, 33, 34, 35, 4, 36, 37, 38, 39, 40, 41, 42, 43, 44, 45, 46, 47, 48, 49, 50, 51, 52, 53, 54, 55, 56, 57, 58, 59] (by decide +kernel) (by decide +kernel)) (goodIn_sub (fun _ h => List.mem_cons_of_mem _ (List.mem_append_right _ h)) (by decide +kernel))
set_option maxRecDepth 20000 in
theorem gX4_driver_X4_valueIn : GoodIn wsX4_driver (wsV RX4 88 RX4 yX4_valueIn wsX4_valueIn) := goodIn_app (goodIn_of _ (by decide +kernel)) ggX4_driver_X4_valueIn
theorem dX4_driver_0 : decode cX4_driver 0 = .ok (.aload_n 0, 1) := by decide +kernel
theorem dX4_driver_1 : decode cX4_driver 1 = .ok (.aload_n 0, 1) := by decide +kernel
theorem dX4_driver_2 : decode cX4_driver 2 = .ok (.iload_n 1, 1) := by decide +kernel
theorem dX4_driver_3 : decode cX4_driver 3 = .ok (.invokevirtual 118, 3) := by decide +kernel
theorem dX4_driver_6 : decode cX4_driver 6 = .ok (.ifCond .eq 22, 3) := by decide +kernel
theorem dX4_driver_9 : decode cX4_driver 9 = .ok (.aload_n 0, 1) := by decide +kernel
theorem dX4_driver_10 : decode cX4_driver 10 = .ok (.iload_n 2, 1) := by decide +kernel
theorem dX4_driver_11 : decode cX4_driver 11 = .ok (.invokevirtual 110, 3) := by decide +kernel
theorem dX4_driver_14 : decode cX4_driver 14 = .ok (.ifCond .eq 14, 3) := by decide +kernel
theorem dX4_driver_17 : decode cX4_driver 17 = .ok (.iload_n 3, 1) := by decide +kernel
theorem dX4_driver_18 : decode cX4_driver 18 = .ok (.invokestatic 121, 3) := by decide +kernel
theorem dX4_driver_21 : decode cX4_driver 21 = .ok (.ifCond .eq 7, 3) := by decide +kernel
theorem dX4_driver_24 : decode cX4_driver 24 = .ok (.iconst 1, 1) := by decide +kernel
theorem dX4_driver_25 : decode cX4_driver 25 = .ok (.goto 4, 3) := by decide +kernel
theorem dX4_driver_28 : decode cX4_driver 28 = .ok (.iconst 0, 1) := by decide +kernel
theorem dX4_driver_29 : decode cX4_driver 29 = .ok (.invokevirtual 124, 3) := by decide +kernel
theorem dX4_driver_32 : decode cX4_driver 32 = .ok (.ifCond .le 7, 3) := by decide +kernel
theorem dX4_driver_35 : decode cX4_driver 35 = .ok (.iconst 0, 1) := by decide +kernel
theorem dX4_driver_36 : decode cX4_driver 36 = .ok (.goto 12, 3) := by decide +kernel
theorem dX4_driver_39 : decode cX4_driver 39 = .ok (.aload_n 0, 1) := by decide +kernel
theorem dX4_driver_40 : decode cX4_driver 40 = .ok (.iload_n 1, 1) := by decide +kernel
theorem dX4_driver_41 : decode cX4_driver 41 = .ok (.iload_n 2, 1) := by decide +kernel
theorem dX4_driver_42 : decode cX4_driver 42 = .ok (.iload_n 3, 1) := by decide +kernel
theorem dX4_driver_43 : decode cX4_driver 43 = .ok (.bipush 6, 2) := by decide +kernel
theorem dX4_driver_45 : decode cX4_driver 45 = .ok (.invokevirtual 88, 3) := by decide +kernel
theorem dX4_driver_48 : decode cX4_driver 48 = .ok (.ireturn, 1) := by decide +kernel
set_option maxRecDepth 20000 in
theorem ggX4_addLine_X4_isDriver : GoodIn wsX4_addLine wsX4_isDriver := goodIn_r _ [10, 11, 12, 13, 9, 14, 19, 20, 21, 22, 23, 24, 25, 26, 27, 28, 29, 30, 31, 32, 33, 34, 35, 36, 37, 38, 39, 40] (by decide +kernel) (by decide +kernel)
set_option maxRecDepth 20000 in
theorem gX4_addLine_X4_isDriver : GoodIn wsX4_addLine (wsV RX4 110 RX4 yX4_isDriver wsX4_isDriver) := goodIn_app (goodIn_of _ (by decide +kernel)) ggX4_addLine_X4_isDriver
set_option maxRecDepth 20000 in
theorem ggX4_addLine_X4_isLine : GoodIn wsX4_addLine wsX4_isLine := goodIn_r _ [18, 1, 12, 13, 9, 14, 19, 20, 21, 22, 23, 24, 25, 26, 27, 28, 29, 30, 31, 32, 33, 34, 35, 36, 37, 38, 39, 40] (by decide +kernel) (by decide +kernel)
set_option maxRecDepth 20000 in
theorem gX4_addLine_X4_isLine : GoodIn wsX4_addLine (wsV RX4 128 RX4 yX4_isLine wsX4_isLine) := goodIn_app (goodIn_of _ (by decide +kernel)) ggX4_addLine_X4_isLine
theorem dX4_addLine_0 : decode cX4_addLine 0 = .ok (.iload_n 1, 1) := by decide +kernel
theorem dX4_addLine_1 : decode cX4_addLine 1 = .ok (.bipush 100, 2) := by decide +kernel
theorem dX4_addLine_3 : decode cX4_addLine 3 = .ok (.if_icmp .ne 11, 3) := by decide +kernel
theorem dX4_addLine_6 : decode cX4_addLine 6 = .ok (.aload_n 0, 1) := by decide +kernel
theorem dX4_addLine_7 : decode cX4_addLine 7 = .ok (.iload_n 2, 1) := by decide +kernel
theorem dX4_addLine_8 : decode cX4_addLine 8 = .ok (.invokevirtual 110, 3) := by decide +kernel
theorem dX4_addLine_11 : decode cX4_addLine 11 = .ok (.goto 24, 3) := by decide +kernel
theorem dX4_addLine_14 : decode cX4_addLine 14 = .ok (.aload_n 0, 1) := by decide +kernel
theorem dX4_addLine_15 : decode cX4_addLine 15 = .ok (.iload_n 2, 1) := by decide +kernel
theorem dX4_addLine_16 : decode cX4_addLine 16 = .ok (.invokevirtual 128, 3) := by decide +kernel
theorem dX4_addLine_19 : decode cX4_addLine 19 = .ok (.ifCond .eq 15, 3) := by decide +kernel
theorem dX4_addLine_22 : decode cX4_addLine 22 = .ok (.aload_n 0, 1) := by decide +kernel
theorem dX4_addLine_23 : decode cX4_addLine 23 = .ok (.iload_n 3, 1) := by decide +kernel
theorem dX4_addLine_24 : decode cX4_addLine 24 = .ok (.invokevirtual 128, 3) := by decide +kernel
theorem dX4_addLine_27 : decode cX4_addLine 27 = .ok (.ifCond .eq 7, 3) := by decide +kernel
theorem dX4_addLine_30 : decode cX4_addLine 30 = .ok (.iconst 1, 1) := by decide +kernel
theorem dX4_addLine_31 : decode cX4_addLine 31 = .ok (.goto 4, 3) := by decide +kernel
theorem dX4_addLine_34 : decode cX4_addLine 34 = .ok (.iconst 0, 1) := by decide +kernel
theorem dX4_addLine_35 : decode cX4_addLine 35 = .ok (.istore 4, 2) := by decide +kernel
theorem dX4_addLine_37 : decode cX4_addLine 37 = .ok (.aload_n 0, 1) := by decide +kernel
theorem dX4_addLine_38 : decode cX4_addLine 38 = .ok (.iload_n 1, 1) := by decide +kernel
theorem dX4_addLine_39 : decode cX4_addLine 39 = .ok (.bipush 100, 2) := by decide +kernel
theorem dX4_addLine_41 : decode cX4_addLine 41 = .ok (.if_icmp .eq 25, 3) := by decide +kernel
theorem dX4_addLine_44 : decode cX4_addLine 44 = .ok (.iload_n 1, 1) := by decide +kernel
theorem dX4_addLine_45 : decode cX4_addLine 45 = .ok (.bipush 115, 2) := by decide +kernel
theorem dX4_addLine_47 : decode cX4_addLine 47 = .ok (.if_icmp .eq 19, 3) := by decide +kernel
theorem dX4_addLine_50 : decode cX4_addLine 50 = .ok (.iload_n 1, 1) := by decide +kernel
theorem dX4_addLine_51 : decode cX4_addLine 51 = .ok (.bipush 109, 2) := by decide +kernel
theorem dX4_addLine_53 : decode cX4_addLine 53 = .ok (.if_icmp .eq 13, 3) := by decide +kernel
theorem dX4_addLine_56 : decode cX4_addLine 56 = .ok (.iload_n 1, 1) := by decide +kernel
theorem dX4_addLine_57 : decode cX4_addLine 57 = .ok (.bipush 112, 2) := by decide +kernel
theorem dX4_addLine_59 : decode cX4_addLine 59 = .ok (.if_icmp .eq 7, 3) := by decide +kernel
theorem dX4_addLine_62 : decode cX4_addLine 62 = .ok (.iconst 1, 1) := by decide +kernel
theorem dX4_addLine_63 : decode cX4_addLine 63 = .ok (.goto 26, 3) := by decide +kernel
theorem dX4_addLine_66 : decode cX4_addLine 66 = .ok (.iload 4, 2) := by decide +kernel
theorem dX4_addLine_68 : decode cX4_addLine 68 = .ok (.ifCond .ne 7, 3) := by decide +kernel
theorem dX4_addLine_71 : decode cX4_addLine 71 = .ok (.iconst 2, 1) := by decide +kernel
theorem dX4_addLine_72 : decode cX4_addLine 72 = .ok (.goto 17, 3) := by decide +kernel
theorem dX4_addLine_75 : decode cX4_addLine 75 = .ok (.aload_n 0, 1) := by decide +kernel
theorem dX4_addLine_76 : decode cX4_addLine 76 = .ok (.getfield 68, 3) := by decide +kernel
theorem dX4_addLine_79 : decode cX4_addLine 79 = .ok (.bipush 10, 2) := by decide +kernel
theorem dX4_addLine_81 : decode cX4_addLine 81 = .ok (.if_icmp .ne 7, 3) := by decide +kernel
theorem dX4_addLine_84 : decode cX4_addLine 84 = .ok (.iconst 3, 1) := by decide +kernel
theorem dX4_addLine_85 : decode cX4_addLine 85 = .ok (.goto 4, 3) := by decide +kernel
theorem dX4_addLine_88 : decode cX4_addLine 88 = .ok (.iconst 0, 1) := by decide +kernel
theorem dX4_addLine_89 : decode cX4_addLine 89 = .ok (.putfield 61, 3) := by decide +kernel
theorem dX4_addLine_92 : decode cX4_addLine 92 = .ok (.aload_n 0, 1) := by decide +kernel
theorem dX4_addLine_93 : decode cX4_addLine 93 = .ok (.getfield 61, 3) := by decide +kernel
theorem dX4_addLine_96 : decode cX4_addLine 96 = .ok (.ifCond .le 5, 3) := by decide +kernel
theorem dX4_addLine_99 : decode cX4_addLine 99 = .ok (.iconst 0, 1) := by decide +kernel
theorem dX4_addLine_100 : decode cX4_addLine 100 = .ok (.ireturn, 1) := by decide +kernel
theorem dX4_addLine_101 : decode cX4_addLine 101 = .ok (.aload_n 0, 1) := by decide +kernel
theorem dX4_addLine_102 : decode cX4_addLine 102 = .ok (.getfield 13, 3) := by decide +kernel
theorem dX4_addLine_105 : decode cX4_addLine 105 = .ok (.aload_n 0, 1) := by decide +kernel
theorem dX4_addLine_106 : decode cX4_addLine 106 = .ok (.getfield 68, 3) := by decide +kernel
theorem dX4_addLine_109 : decode cX4_addLine 109 = .ok (.iload_n 1, 1) := by decide +kernel
theorem dX4_addLine_110 : decode cX4_addLine 110 = .ok (.iastore, 1) := by decide +kernel
theorem dX4_addLine_111 : decode cX4_addLine 111 = .ok (.aload_n 0, 1) := by decide +kernel
theorem dX4_addLine_112 : decode cX4_addLine 112 = .ok (.getfield 16, 3) := by decide +kernel
theorem dX4_addLine_115 : decode cX4_addLine 115 = .ok (.aload_n 0, 1) := by decide +kernel
theorem dX4_addLine_116 : decode cX4_addLine 116 = .ok (.getfield 68, 3) := by decide +kernel
theorem dX4_addLine_119 : decode cX4_addLine 119 = .ok (.iload_n 2, 1) := by decide +kernel
theorem dX4_addLine_120 : decode cX4_addLine 120 = .ok (.iastore, 1) := by decide +kernel
theorem dX4_addLine_121 : decode cX4_addLine 121 = .ok (.aload_n 0, 1) := by decide +kernel
theorem dX4_addLine_122 : decode cX4_addLine 122 = .ok (.getfield 19, 3) := by decide +kernel
theorem dX4_addLine_125 : decode cX4_addLine 125 = .ok (.aload_n 0, 1) := by decide +kernel
theorem dX4_addLine_126 : decode cX4_addLine 126 = .ok (.getfield 68, 3) := by decide +kernel
theorem dX4_addLine_129 : decode cX4_addLine 129 = .ok (.iload_n 1, 1) := by decide +kernel
theorem dX4_addLine_130 : decode cX4_addLine 130 = .ok (.bipush 100, 2) := by decide +kernel
theorem dX4_addLine_132 : decode cX4_addLine 132 = .ok (.if_icmp .ne 7, 3) := by decide +kernel
theorem dX4_addLine_135 : decode cX4_addLine 135 = .ok (.iconst 0, 1) := by decide +kernel
theorem dX4_addLine_136 : decode cX4_addLine 136 = .ok (.goto 4, 3) := by decide +kernel
theorem dX4_addLine_139 : decode cX4_addLine 139 = .ok (.iload_n 3, 1) := by decide +kernel
theorem dX4_addLine_140 : decode cX4_addLine 140 = .ok (.iastore, 1) := by decide +kernel
theorem dX4_addLine_141 : decode cX4_addLine 141 = .ok (.aload_n 0, 1) := by decide +kernel
theorem dX4_addLine_142 : decode cX4_addLine 142 = .ok (.dup, 1) := by decide +kernel
theorem dX4_addLine_143 : decode cX4_addLine 143 = .ok (.getfield 68, 3) := by decide +kernel
theorem dX4_addLine_146 : decode cX4_addLine 146 = .ok (.iconst 1, 1) := by decide +kernel
theorem dX4_addLine_147 : decode cX4_addLine 147 = .ok (.iadd, 1) := by decide +kernel
theorem dX4_addLine_148 : decode cX4_addLine 148 = .ok (.putfield 68, 3) := by decide +kernel
theorem dX4_addLine_151 : decode cX4_addLine 151 = .ok (.aload_n 0, 1) := by decide +kernel
theorem dX4_addLine_152 : decode cX4_addLine 152 = .ok (.getfield 68, 3) := by decide +kernel
theorem dX4_addLine_155 : decode cX4_addLine 155 = .ok (.iconst 1, 1) := by decide +kernel
theorem dX4_addLine_156 : decode cX4_addLine 156 = .ok (.isub, 1) := by decide +kernel
theorem dX4_addLine_157 : decode cX4_addLine 157 = .ok (.ireturn, 1) := by decide +kernel
set_option maxRecDepth 20000 in
theorem ggX4_addScenario_X4_isScenario : GoodIn wsX4_addScenario wsX4_isScenario := goodIn_r _ [8, 1, 9, 10, 7, 11, 12, 13, 14, 15, 16, 17, 18, 19, 20, 21, 22, 23, 24, 25, 26, 27, 28, 29, 30, 31, 32, 33] (by decide +kernel) (by decide +kernel)
set_option maxRecDepth 20000 in
theorem gX4_addScenario_X4_isScenario : GoodIn wsX4_addScenario (wsV RX4 118 RX4 yX4_isScenario wsX4_isScenario) := goodIn_app (goodIn_of _ (by decide +kernel)) ggX4_addScenario_X4_isScenario
theorem dX4_addScenario_0 : decode cX4_addScenario 0 = .ok (.aload_n 0, 1) := by decide +kernel
theorem dX4_addScenario_1 : decode cX4_addScenario 1 = .ok (.aload_n 0, 1) := by decide +kernel
theorem dX4_addScenario_2 : decode cX4_addScenario 2 = .ok (.iload_n 1, 1) := by decide +kernel
theorem dX4_addScenario_3 : decode cX4_addScenario 3 = .ok (.invokevirtual 118, 3) := by decide +kernel
theorem dX4_addScenario_6 : decode cX4_addScenario 6 = .ok (.ifCond .ne 7, 3) := by decide +kernel
theorem dX4_addScenario_9 : decode cX4_addScenario 9 = .ok (.iconst 1, 1) := by decide +kernel
theorem dX4_addScenario_10 : decode cX4_addScenario 10 = .ok (.goto 16, 3) := by decide +kernel
theorem dX4_addScenario_13 : decode cX4_addScenario 13 = .ok (.aload_n 0, 1) := by decide +kernel
theorem dX4_addScenario_14 : decode cX4_addScenario 14 = .ok (.getfield 71, 3) := by decide +kernel
theorem dX4_addScenario_17 : decode cX4_addScenario 17 = .ok (.iconst 4, 1) := by decide +kernel
theorem dX4_addScenario_18 : decode cX4_addScenario 18 = .ok (.if_icmp .ne 7, 3) := by decide +kernel
theorem dX4_addScenario_21 : decode cX4_addScenario 21 = .ok (.iconst 2, 1) := by decide +kernel
theorem dX4_addScenario_22 : decode cX4_addScenario 22 = .ok (.goto 4, 3) := by decide +kernel
theorem dX4_addScenario_25 : decode cX4_addScenario 25 = .ok (.iconst 0, 1) := by decide +kernel
theorem dX4_addScenario_26 : decode cX4_addScenario 26 = .ok (.putfield 61, 3) := by decide +kernel
theorem dX4_addScenario_29 : decode cX4_addScenario 29 = .ok (.aload_n 0, 1) := by decide +kernel
theorem dX4_addScenario_30 : decode cX4_addScenario 30 = .ok (.getfield 61, 3) := by decide +kernel
theorem dX4_addScenario_33 : decode cX4_addScenario 33 = .ok (.ifCond .le 5, 3) := by decide +kernel
theorem dX4_addScenario_36 : decode cX4_addScenario 36 = .ok (.iconst 0, 1) := by decide +kernel
theorem dX4_addScenario_37 : decode cX4_addScenario 37 = .ok (.ireturn, 1) := by decide +kernel
theorem dX4_addScenario_38 : decode cX4_addScenario 38 = .ok (.aload_n 0, 1) := by decide +kernel
theorem dX4_addScenario_39 : decode cX4_addScenario 39 = .ok (.getfield 22, 3) := by decide +kernel
theorem dX4_addScenario_42 : decode cX4_addScenario 42 = .ok (.aload_n 0, 1) := by decide +kernel
theorem dX4_addScenario_43 : decode cX4_addScenario 43 = .ok (.getfield 71, 3) := by decide +kernel
theorem dX4_addScenario_46 : decode cX4_addScenario 46 = .ok (.iload_n 1, 1) := by decide +kernel
theorem dX4_addScenario_47 : decode cX4_addScenario 47 = .ok (.iastore, 1) := by decide +kernel
theorem dX4_addScenario_48 : decode cX4_addScenario 48 = .ok (.aload_n 0, 1) := by decide +kernel
theorem dX4_addScenario_49 : decode cX4_addScenario 49 = .ok (.dup, 1) := by decide +kernel
theorem dX4_addScenario_50 : decode cX4_addScenario 50 = .ok (.getfield 71, 3) := by decide +kernel
theorem dX4_addScenario_53 : decode cX4_addScenario 53 = .ok (.iconst 1, 1) := by decide +kernel
theorem dX4_addScenario_54 : decode cX4_addScenario 54 = .ok (.iadd, 1) := by decide +kernel
theorem dX4_addScenario_55 : decode cX4_addScenario 55 = .ok (.putfield 71, 3) := by decide +kernel
theorem dX4_addScenario_58 : decode cX4_addScenario 58 = .ok (.aload_n 0, 1) := by decide +kernel
theorem dX4_addScenario_59 : decode cX4_addScenario 59 = .ok (.getfield 71, 3) := by decide +kernel
theorem dX4_addScenario_62 : decode cX4_addScenario 62 = .ok (.iconst 1, 1) := by decide +kernel
theorem dX4_addScenario_63 : decode cX4_addScenario 63 = .ok (.isub, 1) := by decide +kernel
theorem dX4_addScenario_64 : decode cX4_addScenario 64 = .ok (.ireturn, 1) := by decide +kernel
set_option maxRecDepth 20000 in
theorem ggX4_differ_X4_isScenario : GoodIn wsX4_differ wsX4_isScenario := goodIn_r _ [11, 12, 13, 14, 10, 15, 24, 25, 26, 27, 28, 29, 30, 31, 32, 33, 34, 35, 36, 37, 38, 39, 40, 41, 42, 43, 44, 45] (by decide +kernel) (by decide +kernel)
set_option maxRecDepth 20000 in
theorem gX4_differ_X4_isScenario : GoodIn wsX4_differ (wsV RX4 118 RX4 yX4_isScenario wsX4_isScenario) := goodIn_app (goodIn_of _ (by decide +kernel)) ggX4_differ_X4_isScenario
set_option maxRecDepth 20000 in
theorem ggX4_differ_X4_isDriver : GoodIn wsX4_differ wsX4_isDriver := goodIn_r _ [19, 20, 13, 14, 10, 15, 24, 25, 26, 27, 28, 29, 30, 31, 32, 33, 34, 35, 36, 37, 38, 39, 40, 41, 42, 43, 44, 45] (by decide +kernel) (by decide +kernel)
set_option maxRecDepth 20000 in
theorem gX4_differ_X4_isDriver : GoodIn wsX4_differ (wsV RX4 110 RX4 yX4_isDriver wsX4_isDriver) := goodIn_app (goodIn_of _ (by decide +kernel)) ggX4_differ_X4_isDriver
set_option maxRecDepth 20000 in
theorem ggX4_differ_X4_isMonth : GoodIn wsX4_differ wsX4_isMonth := goodIn_r _ [23, 13, 14, 10, 15] (by decide +kernel) (by decide +kernel)
set_option maxRecDepth 20000 in
theorem gX4_differ_X4_isMonth : GoodIn wsX4_differ (va_wsS RX4 121 yX4_isMonth wsX4_isMonth) := goodIn_app (goodIn_of _ (by decide +kernel)) ggX4_differ_X4_isMonth
set_option maxRecDepth 20000 in
theorem ggX4_differ_X4_in : GoodIn wsX4_differ wsX4_in := goodIn_r _ [15] (by decide +kernel) (by decide +kernel)
set_option maxRecDepth 20000 in
theorem gX4_differ_X4_in : GoodIn wsX4_differ (va_wsS RX4 80 yX4_in wsX4_in) := goodIn_app (goodIn_of _ (by decide +kernel)) ggX4_differ_X4_in
theorem dX4_differ_0 : decode cX4_differ 0 = .ok (.aload_n 0, 1) := by decide +kernel
theorem dX4_differ_1 : decode cX4_differ 1 = .ok (.aload_n 0, 1) := by decide +kernel
theorem dX4_differ_2 : decode cX4_differ 2 = .ok (.iload_n 1, 1) := by decide +kernel
theorem dX4_differ_3 : decode cX4_differ 3 = .ok (.invokevirtual 118, 3) := by decide +kernel
theorem dX4_differ_6 : decode cX4_differ 6 = .ok (.ifCond .eq 18, 3) := by decide +kernel
theorem dX4_differ_9 : decode cX4_differ 9 = .ok (.aload_n 0, 1) := by decide +kernel
theorem dX4_differ_10 : decode cX4_differ 10 = .ok (.iload_n 2, 1) := by decide +kernel
theorem dX4_differ_11 : decode cX4_differ 11 = .ok (.invokevirtual 110, 3) := by decide +kernel
theorem dX4_differ_14 : decode cX4_differ 14 = .ok (.ifCond .eq 10, 3) := by decide +kernel
theorem dX4_differ_17 : decode cX4_differ 17 = .ok (.iload_n 3, 1) := by decide +kernel
theorem dX4_differ_18 : decode cX4_differ 18 = .ok (.invokestatic 121, 3) := by decide +kernel
theorem dX4_differ_21 : decode cX4_differ 21 = .ok (.ifCond .ne 7, 3) := by decide +kernel
theorem dX4_differ_24 : decode cX4_differ 24 = .ok (.iconst 1, 1) := by decide +kernel
theorem dX4_differ_25 : decode cX4_differ 25 = .ok (.goto 43, 3) := by decide +kernel
theorem dX4_differ_28 : decode cX4_differ 28 = .ok (.iload 4, 2) := by decide +kernel
theorem dX4_differ_30 : decode cX4_differ 30 = .ok (.sipush (-999), 3) := by decide +kernel
theorem dX4_differ_33 : decode cX4_differ 33 = .ok (.sipush 999, 3) := by decide +kernel
theorem dX4_differ_36 : decode cX4_differ 36 = .ok (.invokestatic 80, 3) := by decide +kernel
theorem dX4_differ_39 : decode cX4_differ 39 = .ok (.ifCond .ne 7, 3) := by decide +kernel
theorem dX4_differ_42 : decode cX4_differ 42 = .ok (.iconst 2, 1) := by decide +kernel
theorem dX4_differ_43 : decode cX4_differ 43 = .ok (.goto 25, 3) := by decide +kernel
theorem dX4_differ_46 : decode cX4_differ 46 = .ok (.iload_n 1, 1) := by decide +kernel
theorem dX4_differ_47 : decode cX4_differ 47 = .ok (.ifCond .ne 7, 3) := by decide +kernel
theorem dX4_differ_50 : decode cX4_differ 50 = .ok (.iconst 3, 1) := by decide +kernel
theorem dX4_differ_51 : decode cX4_differ 51 = .ok (.goto 17, 3) := by decide +kernel
theorem dX4_differ_54 : decode cX4_differ 54 = .ok (.aload_n 0, 1) := by decide +kernel
theorem dX4_differ_55 : decode cX4_differ 55 = .ok (.getfield 74, 3) := by decide +kernel
theorem dX4_differ_58 : decode cX4_differ 58 = .ok (.bipush 12, 2) := by decide +kernel
theorem dX4_differ_60 : decode cX4_differ 60 = .ok (.if_icmp .ne 7, 3) := by decide +kernel
theorem dX4_differ_63 : decode cX4_differ 63 = .ok (.iconst 4, 1) := by decide +kernel
theorem dX4_differ_64 : decode cX4_differ 64 = .ok (.goto 4, 3) := by decide +kernel
theorem dX4_differ_67 : decode cX4_differ 67 = .ok (.iconst 0, 1) := by decide +kernel
theorem dX4_differ_68 : decode cX4_differ 68 = .ok (.putfield 61, 3) := by decide +kernel
theorem dX4_differ_71 : decode cX4_differ 71 = .ok (.aload_n 0, 1) := by decide +kernel
theorem dX4_differ_72 : decode cX4_differ 72 = .ok (.getfield 61, 3) := by decide +kernel
theorem dX4_differ_75 : decode cX4_differ 75 = .ok (.ifCond .le 5, 3) := by decide +kernel
theorem dX4_differ_78 : decode cX4_differ 78 = .ok (.iconst 0, 1) := by decide +kernel
theorem dX4_differ_79 : decode cX4_differ 79 = .ok (.ireturn, 1) := by decide +kernel
theorem dX4_differ_80 : decode cX4_differ 80 = .ok (.aload_n 0, 1) := by decide +kernel
theorem dX4_differ_81 : decode cX4_differ 81 = .ok (.getfield 25, 3) := by decide +kernel
theorem dX4_differ_84 : decode cX4_differ 84 = .ok (.aload_n 0, 1) := by decide +kernel
theorem dX4_differ_85 : decode cX4_differ 85 = .ok (.getfield 74, 3) := by decide +kernel
theorem dX4_differ_88 : decode cX4_differ 88 = .ok (.iload_n 1, 1) := by decide +kernel
theorem dX4_differ_89 : decode cX4_differ 89 = .ok (.iastore, 1) := by decide +kernel
theorem dX4_differ_90 : decode cX4_differ 90 = .ok (.aload_n 0, 1) := by decide +kernel
theorem dX4_differ_91 : decode cX4_differ 91 = .ok (.getfield 28, 3) := by decide +kernel
theorem dX4_differ_94 : decode cX4_differ 94 = .ok (.aload_n 0, 1) := by decide +kernel
theorem dX4_differ_95 : decode cX4_differ 95 = .ok (.getfield 74, 3) := by decide +kernel
theorem dX4_differ_98 : decode cX4_differ 98 = .ok (.iload_n 2, 1) := by decide +kernel
theorem dX4_differ_99 : decode cX4_differ 99 = .ok (.iastore, 1) := by decide +kernel
theorem dX4_differ_100 : decode cX4_differ 100 = .ok (.aload_n 0, 1) := by decide +kernel
theorem dX4_differ_101 : decode cX4_differ 101 = .ok (.getfield 31, 3) := by decide +kernel
theorem dX4_differ_104 : decode cX4_differ 104 = .ok (.aload_n 0, 1) := by decide +kernel
theorem dX4_differ_105 : decode cX4_differ 105 = .ok (.getfield 74, 3) := by decide +kernel
theorem dX4_differ_108 : decode cX4_differ 108 = .ok (.iload_n 3, 1) := by decide +kernel
theorem dX4_differ_109 : decode cX4_differ 109 = .ok (.iastore, 1) := by decide +kernel
theorem dX4_differ_110 : decode cX4_differ 110 = .ok (.aload_n 0, 1) := by decide +kernel
theorem dX4_differ_111 : decode cX4_differ 111 = .ok (.getfield 34, 3) := by decide +kernel
theorem dX4_differ_114 : decode cX4_differ 114 = .ok (.aload_n 0, 1) := by decide +kernel
theorem dX4_differ_115 : decode cX4_differ 115 = .ok (.getfield 74, 3) := by decide +kernel
theorem dX4_differ_118 : decode cX4_differ 118 = .ok (.iload 4, 2) := by decide +kernel
theorem dX4_differ_120 : decode cX4_differ 120 = .ok (.iastore, 1) := by decide +kernel
theorem dX4_differ_121 : decode cX4_differ 121 = .ok (.aload_n 0, 1) := by decide +kernel
theorem dX4_differ_122 : decode cX4_differ 122 = .ok (.dup, 1) := by decide +kernel
theorem dX4_differ_123 : decode cX4_differ 123 = .ok (.getfield 74, 3) := by decide +kernel
theorem dX4_differ_126 : decode cX4_differ 126 = .ok (.iconst 1, 1) := by decide +kernel
theorem dX4_differ_127 : decode cX4_differ 127 = .ok (.iadd, 1) := by decide +kernel
theorem dX4_differ_128 : decode cX4_differ 128 = .ok (.putfield 74, 3) := by decide +kernel
theorem dX4_differ_131 : decode cX4_differ 131 = .ok (.iconst 0, 1) := by decide +kernel
theorem dX4_differ_132 : decode cX4_differ 132 = .ok (.istore 5, 2) := by decide +kernel
theorem dX4_differ_134 : decode cX4_differ 134 = .ok (.iconst 0, 1) := by decide +kernel
theorem dX4_differ_135 : decode cX4_differ 135 = .ok (.istore 6, 2) := by decide +kernel
theorem dX4_differ_137 : decode cX4_differ 137 = .ok (.iload 6, 2) := by decide +kernel
theorem dX4_differ_139 : decode cX4_differ 139 = .ok (.aload_n 0, 1) := by decide +kernel
theorem dX4_differ_140 : decode cX4_differ 140 = .ok (.getfield 74, 3) := by decide +kernel
theorem dX4_differ_143 : decode cX4_differ 143 = .ok (.if_icmp .ge 30, 3) := by decide +kernel
theorem dX4_differ_146 : decode cX4_differ 146 = .ok (.iload 5, 2) := by decide +kernel
theorem dX4_differ_148 : decode cX4_differ 148 = .ok (.aload_n 0, 1) := by decide +kernel
theorem dX4_differ_149 : decode cX4_differ 149 = .ok (.getfield 25, 3) := by decide +kernel
theorem dX4_differ_152 : decode cX4_differ 152 = .ok (.iload 6, 2) := by decide +kernel
theorem dX4_differ_154 : decode cX4_differ 154 = .ok (.iaload, 1) := by decide +kernel
theorem dX4_differ_155 : decode cX4_differ 155 = .ok (.iload_n 1, 1) := by decide +kernel
theorem dX4_differ_156 : decode cX4_differ 156 = .ok (.if_icmp .ne 7, 3) := by decide +kernel
theorem dX4_differ_159 : decode cX4_differ 159 = .ok (.iconst 1, 1) := by decide +kernel
theorem dX4_differ_160 : decode cX4_differ 160 = .ok (.goto 4, 3) := by decide +kernel
theorem dX4_differ_163 : decode cX4_differ 163 = .ok (.iconst 0, 1) := by decide +kernel
theorem dX4_differ_164 : decode cX4_differ 164 = .ok (.iadd, 1) := by decide +kernel
theorem dX4_differ_165 : decode cX4_differ 165 = .ok (.istore 5, 2) := by decide +kernel
theorem dX4_differ_167 : decode cX4_differ 167 = .ok (.iinc 6 1, 3) := by decide +kernel
theorem dX4_differ_170 : decode cX4_differ 170 = .ok (.goto (-33), 3) := by decide +kernel
theorem dX4_differ_173 : decode cX4_differ 173 = .ok (.iload 5, 2) := by decide +kernel
theorem dX4_differ_175 : decode cX4_differ 175 = .ok (.ireturn, 1) := by decide +kernel
set_option maxRecDepth 20000 in
theorem ggX4_number_X4_isScenario : GoodIn wsX4_number wsX4_isScenario := goodIn_r _ [7, 8, 9, 10, 6, 11, 55, 56, 57, 58, 59, 60, 61, 62, 63, 64, 65, 66, 67, 68, 69, 70, 71, 72, 73, 74, 75, 76] (by decide +kernel) (by decide +kernel)
set_option maxRecDepth 20000 in
theorem gX4_number_X4_isScenario : GoodIn wsX4_number (wsV RX4 118 RX4 yX4_isScenario wsX4_isScenario) := goodIn_app (goodIn_of _ (by decide +kernel)) ggX4_number_X4_isScenario
set_option maxRecDepth 20000 in
theorem ggX4_number_X4_isLine : GoodIn wsX4_number wsX4_isLine := goodIn_r _ [15, 16, 9, 10, 6, 11, 55, 56, 57, 58, 59, 60, 61, 62, 63, 64, 65, 66, 67, 68, 69, 70, 71, 72, 73, 74, 75, 76] (by decide +kernel) (by decide +kernel)
set_option maxRecDepth 20000 in
theorem gX4_number_X4_isLine : GoodIn wsX4_number (wsV RX4 128 RX4 yX4_isLine wsX4_isLine) := goodIn_app (goodIn_of _ (by decide +kernel)) ggX4_number_X4_isLine
set_option maxRecDepth 20000 in
theorem ggX4_number_X4_isMonth : GoodIn wsX4_number wsX4_isMonth := goodIn_r _ [19, 9, 10, 6, 11] (by decide +kernel) (by decide +kernel)
set_option maxRecDepth 20000 in
theorem gX4_number_X4_isMonth : GoodIn wsX4_number (va_wsS RX4 121 yX4_isMonth wsX4_isMonth) := goodIn_app (goodIn_of _ (by decide +kernel)) ggX4_number_X4_isMonth
set_option maxRecDepth 20000 in
theorem ggX4_number_X4_finds : GoodIn wsX4_number wsX4_finds := goodIn_ca (goodIn_r _ [23, 24, 25, 26, 27, 28, 2, 29, 30, 31, 32, 33, 6, 34, 35, 36, 37, 38, 39, 40, 41, 42, 43, 44, 45, 46, 47, 48, 49, 50, 51, 52, 53, 54, 55, 56, 57, 58, 59, 60, 61, 62, 63, 64, 65, 66, 67, 68, 69, 70, 71, 72, 73, 74, 75, 76] (by decide +kernel) (by decide +kernel)) (goodIn_sub (fun _ h => List.mem_cons_of_mem _ (List.mem_append_right _ h)) (by decide +kernel))
set_option maxRecDepth 20000 in
theorem gX4_number_X4_finds : GoodIn wsX4_number (wsV RX4 106 RX4 yX4_finds wsX4_finds) := goodIn_app (goodIn_of _ (by decide +kernel)) ggX4_number_X4_finds
theorem dX4_number_0 : decode cX4_number 0 = .ok (.aload_n 0, 1) := by decide +kernel
