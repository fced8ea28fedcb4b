theorem dX10_shifts_1 : decode cX10_shifts 1 = .ok (.iload_n 1, 1) := by decide +kernel
theorem dX10_shifts_2 : decode cX10_shifts 2 = .ok (.invokevirtual 201, 3) := by decide +kernel
theorem dX10_shifts_5 : decode cX10_shifts 5 = .ok (.ifCond .ne 5, 3) := by decide +kernel
theorem dX10_shifts_8 : decode cX10_shifts 8 = .ok (.iconst (-1), 1) := by decide +kernel
theorem dX10_shifts_9 : decode cX10_shifts 9 = .ok (.ireturn, 1) := by decide +kernel
theorem dX10_shifts_10 : decode cX10_shifts 10 = .ok (.aload_n 0, 1) := by decide +kernel
theorem dX10_shifts_11 : decode cX10_shifts 11 = .ok (.iload_n 1, 1) := by decide +kernel
set_option maxRecDepth 20000 in
theorem ggX10_asks_X10_isStreet : GoodIn wsX10_asks wsX10_isStreet := goodIn_r _ [9, 1, 89, 90, 91, 92, 93, 94, 95, 96, 97, 98, 99, 100, 101, 102, 103, 104, 105, 106, 107, 108, 109, 110] (by decide +kernel) (by decide +kernel)
set_option maxRecDepth 20000 in
theorem gX10_asks_X10_isStreet : GoodIn wsX10_asks (wsV RX10 105 RX10 yX10_isStreet wsX10_isStreet) := goodIn_app (goodIn_of _ (by decide +kernel)) ggX10_asks_X10_isStreet
set_option maxRecDepth 20000 in
theorem ggX10_asks_X10_isSpan : GoodIn wsX10_asks wsX10_isSpan := goodIn_r _ [12, 13, 14, 8, 15, 16] (by decide +kernel) (by decide +kernel)
set_option maxRecDepth 20000 in
theorem gX10_asks_X10_isSpan : GoodIn wsX10_asks (va_wsS RX10 210 yX10_isSpan wsX10_isSpan) := goodIn_app (goodIn_of _ (by decide +kernel)) ggX10_asks_X10_isSpan
theorem dX10_asks_0 : decode cX10_asks 0 = .ok (.aload_n 0, 1) := by decide +kernel
theorem dX10_asks_1 : decode cX10_asks 1 = .ok (.iload_n 1, 1) := by decide +kernel
theorem dX10_asks_2 : decode cX10_asks 2 = .ok (.invokevirtual 105, 3) := by decide +kernel
theorem dX10_asks_5 : decode cX10_asks 5 = .ok (.ifCond .eq 14, 3) := by decide +kernel
theorem dX10_asks_8 : decode cX10_asks 8 = .ok (.lload_n 2, 1) := by decide +kernel
theorem dX10_asks_9 : decode cX10_asks 9 = .ok (.lload 4, 2) := by decide +kernel
theorem dX10_asks_11 : decode cX10_asks 11 = .ok (.bipush 60, 2) := by decide +kernel
theorem dX10_asks_13 : decode cX10_asks 13 = .ok (.invokestatic 210, 3) := by decide +kernel
theorem dX10_asks_16 : decode cX10_asks 16 = .ok (.ifCond .ne 5, 3) := by decide +kernel
theorem dX10_asks_19 : decode cX10_asks 19 = .ok (.iconst (-1), 1) := by decide +kernel
theorem dX10_asks_20 : decode cX10_asks 20 = .ok (.ireturn, 1) := by decide +kernel
theorem dX10_asks_21 : decode cX10_asks 21 = .ok (.aload_n 0, 1) := by decide +kernel
theorem dX10_asks_22 : decode cX10_asks 22 = .ok (.getfield 26, 3) := by decide +kernel
theorem dX10_asks_25 : decode cX10_asks 25 = .ok (.getfield 135, 3) := by decide +kernel
theorem dX10_asks_28 : decode cX10_asks 28 = .ok (.bipush 6, 2) := by decide +kernel
theorem dX10_asks_30 : decode cX10_asks 30 = .ok (.if_icmp .le 6, 3) := by decide +kernel
theorem dX10_asks_33 : decode cX10_asks 33 = .ok (.bipush (-3), 2) := by decide +kernel
theorem dX10_asks_35 : decode cX10_asks 35 = .ok (.ireturn, 1) := by decide +kernel
theorem dX10_asks_36 : decode cX10_asks 36 = .ok (.aload_n 0, 1) := by decide +kernel
theorem dX10_asks_37 : decode cX10_asks 37 = .ok (.getfield 72, 3) := by decide +kernel
theorem dX10_asks_40 : decode cX10_asks 40 = .ok (.aload_n 0, 1) := by decide +kernel
theorem dX10_asks_41 : decode cX10_asks 41 = .ok (.getfield 44, 3) := by decide +kernel
theorem dX10_asks_44 : decode cX10_asks 44 = .ok (.aload_n 0, 1) := by decide +kernel
theorem dX10_asks_45 : decode cX10_asks 45 = .ok (.getfield 26, 3) := by decide +kernel
theorem dX10_asks_48 : decode cX10_asks 48 = .ok (.getfield 135, 3) := by decide +kernel
theorem dX10_asks_51 : decode cX10_asks 51 = .ok (.iload_n 1, 1) := by decide +kernel
theorem dX10_asks_52 : decode cX10_asks 52 = .ok (.lload_n 2, 1) := by decide +kernel
theorem dX10_asks_53 : decode cX10_asks 53 = .ok (.lload 4, 2) := by decide +kernel
theorem dX10_asks_55 : decode cX10_asks 55 = .ok (.lload_n 2, 1) := by decide +kernel
theorem dX10_asks_56 : decode cX10_asks 56 = .ok (.lsub, 1) := by decide +kernel
theorem dX10_asks_57 : decode cX10_asks 57 = .ok (.l2i, 1) := by decide +kernel
theorem dX10_asks_58 : decode cX10_asks 58 = .ok (.iconst 1, 1) := by decide +kernel
theorem dX10_asks_59 : decode cX10_asks 59 = .ok (.iadd, 1) := by decide +kernel
set_option maxRecDepth 20000 in
theorem ggX10_answer_X10_isLetter : GoodIn wsX10_answer wsX10_isLetter := goodIn_r _ [7, 2, 27, 28, 29, 30, 31, 32, 33, 34, 35, 36, 37, 38, 39, 40, 41, 42, 43, 44, 45, 46, 47, 48] (by decide +kernel) (by decide +kernel)
set_option maxRecDepth 20000 in
theorem gX10_answer_X10_isLetter : GoodIn wsX10_answer (wsV RX10 201 RX10 yX10_isLetter wsX10_isLetter) := goodIn_app (goodIn_of _ (by decide +kernel)) ggX10_answer_X10_isLetter
set_option maxRecDepth 20000 in
theorem ggX10_answer_X10_isStreet : GoodIn wsX10_answer wsX10_isStreet := goodIn_r _ [11, 2, 27, 28, 29, 30, 31, 32, 33, 34, 35, 36, 37, 38, 39, 40, 41, 42, 43, 44, 45, 46, 47, 48] (by decide +kernel) (by decide +kernel)
set_option maxRecDepth 20000 in
theorem gX10_answer_X10_isStreet : GoodIn wsX10_answer (wsV RX10 105 RX10 yX10_isStreet wsX10_isStreet) := goodIn_app (goodIn_of _ (by decide +kernel)) ggX10_answer_X10_isStreet
theorem dX10_answer_0 : decode cX10_answer 0 = .ok (.aload_n 0, 1) := by decide +kernel
theorem dX10_answer_1 : decode cX10_answer 1 = .ok (.iload_n 1, 1) := by decide +kernel
theorem dX10_answer_2 : decode cX10_answer 2 = .ok (.invokevirtual 201, 3) := by decide +kernel
theorem dX10_answer_5 : decode cX10_answer 5 = .ok (.ifCond .eq 11, 3) := by decide +kernel
theorem dX10_answer_8 : decode cX10_answer 8 = .ok (.aload_n 0, 1) := by decide +kernel
theorem dX10_answer_9 : decode cX10_answer 9 = .ok (.iload_n 2, 1) := by decide +kernel
theorem dX10_answer_10 : decode cX10_answer 10 = .ok (.invokevirtual 105, 3) := by decide +kernel
theorem dX10_answer_13 : decode cX10_answer 13 = .ok (.ifCond .ne 5, 3) := by decide +kernel
theorem dX10_answer_16 : decode cX10_answer 16 = .ok (.iconst (-1), 1) := by decide +kernel
theorem dX10_answer_17 : decode cX10_answer 17 = .ok (.ireturn, 1) := by decide +kernel
theorem dX10_answer_18 : decode cX10_answer 18 = .ok (.aload_n 0, 1) := by decide +kernel
theorem dX10_answer_19 : decode cX10_answer 19 = .ok (.getfield 44, 3) := by decide +kernel
theorem dX10_answer_22 : decode cX10_answer 22 = .ok (.iload_n 2, 1) := by decide +kernel
theorem dX10_answer_23 : decode cX10_answer 23 = .ok (.aload_n 0, 1) := by decide +kernel
theorem dX10_answer_24 : decode cX10_answer 24 = .ok (.getfield 26, 3) := by decide +kernel
theorem dX10_answer_27 : decode cX10_answer 27 = .ok (.getfield 197, 3) := by decide +kernel
theorem dX10_answer_30 : decode cX10_answer 30 = .ok (.iload_n 1, 1) := by decide +kernel
theorem dX10_answer_31 : decode cX10_answer 31 = .ok (.laload, 1) := by decide +kernel
set_option maxRecDepth 20000 in
theorem ggX10_cycles_X10_isOrder : GoodIn wsX10_cycles wsX10_isOrder := goodIn_r _ [8, 1, 28, 29, 30, 31, 32, 33, 34, 35, 36, 37, 38, 39, 40, 41, 42, 43, 44, 45, 46, 47, 48, 49] (by decide +kernel) (by decide +kernel)
set_option maxRecDepth 20000 in
theorem gX10_cycles_X10_isOrder : GoodIn wsX10_cycles (wsV RX10 128 RX10 yX10_isOrder wsX10_isOrder) := goodIn_app (goodIn_of _ (by decide +kernel)) ggX10_cycles_X10_isOrder
set_option maxRecDepth 20000 in
theorem ggX10_cycles_J7_fill_53178 : GoodIn wsX10_cycles wsJ7_fill_53178 := goodIn_r _ [12] (by decide +kernel) (by decide +kernel)
set_option maxRecDepth 20000 in
theorem gX10_cycles_J7_fill_53178 : GoodIn wsX10_cycles (va_wsS RX10 238 yJ7_fill_53178 wsJ7_fill_53178) := goodIn_app (goodIn_of _ (by decide +kernel)) ggX10_cycles_J7_fill_53178
set_option maxRecDepth 20000 in
theorem ggX10_cycles_X5_clear : GoodIn wsX10_cycles wsX5_clear := goodIn_r _ [21, 22, 50, 51] (by decide +kernel) (by decide +kernel)
set_option maxRecDepth 20000 in
theorem gX10_cycles_X5_clear : GoodIn wsX10_cycles (wsV RX10 248 RX5 yX5_clear wsX5_clear) := goodIn_app (goodIn_of _ (by decide +kernel)) ggX10_cycles_X5_clear
set_option maxRecDepth 20000 in
theorem ggX10_cycles_X5_add : GoodIn wsX10_cycles wsX5_add := goodIn_r _ [26, 22, 27, 50, 51] (by decide +kernel) (by decide +kernel)
set_option maxRecDepth 20000 in
theorem gX10_cycles_X5_add : GoodIn wsX10_cycles (wsV RX10 251 RX5 yX5_add wsX5_add) := goodIn_app (goodIn_of _ (by decide +kernel)) ggX10_cycles_X5_add
theorem dX10_cycles_0 : decode cX10_cycles 0 = .ok (.aload_n 0, 1) := by decide +kernel
theorem dX10_cycles_1 : decode cX10_cycles 1 = .ok (.iload_n 1, 1) := by decide +kernel
theorem dX10_cycles_2 : decode cX10_cycles 2 = .ok (.invokevirtual 128, 3) := by decide +kernel
theorem dX10_cycles_5 : decode cX10_cycles 5 = .ok (.ifCond .ne 5, 3) := by decide +kernel
theorem dX10_cycles_8 : decode cX10_cycles 8 = .ok (.iconst (-1), 1) := by decide +kernel
theorem dX10_cycles_9 : decode cX10_cycles 9 = .ok (.ireturn, 1) := by decide +kernel
theorem dX10_cycles_10 : decode cX10_cycles 10 = .ok (.aload_n 0, 1) := by decide +kernel
theorem dX10_cycles_11 : decode cX10_cycles 11 = .ok (.getfield 26, 3) := by decide +kernel
theorem dX10_cycles_14 : decode cX10_cycles 14 = .ok (.getfield 131, 3) := by decide +kernel
theorem dX10_cycles_17 : decode cX10_cycles 17 = .ok (.iload_n 1, 1) := by decide +kernel
theorem dX10_cycles_18 : decode cX10_cycles 18 = .ok (.aaload, 1) := by decide +kernel
theorem dX10_cycles_19 : decode cX10_cycles 19 = .ok (.astore_n 2, 1) := by decide +kernel
theorem dX10_cycles_20 : decode cX10_cycles 20 = .ok (.aload_n 0, 1) := by decide +kernel
theorem dX10_cycles_21 : decode cX10_cycles 21 = .ok (.getfield 83, 3) := by decide +kernel
theorem dX10_cycles_24 : decode cX10_cycles 24 = .ok (.iconst 0, 1) := by decide +kernel
theorem dX10_cycles_25 : decode cX10_cycles 25 = .ok (.invokestatic 238, 3) := by decide +kernel
theorem dX10_cycles_28 : decode cX10_cycles 28 = .ok (.iconst 0, 1) := by decide +kernel
theorem dX10_cycles_29 : decode cX10_cycles 29 = .ok (.istore_n 3, 1) := by decide +kernel
theorem dX10_cycles_30 : decode cX10_cycles 30 = .ok (.iconst 0, 1) := by decide +kernel
theorem dX10_cycles_31 : decode cX10_cycles 31 = .ok (.istore 4, 2) := by decide +kernel
theorem dX10_cycles_33 : decode cX10_cycles 33 = .ok (.iload 4, 2) := by decide +kernel
theorem dX10_cycles_35 : decode cX10_cycles 35 = .ok (.aload_n 0, 1) := by decide +kernel
theorem dX10_cycles_36 : decode cX10_cycles 36 = .ok (.getfield 26, 3) := by decide +kernel
theorem dX10_cycles_39 : decode cX10_cycles 39 = .ok (.getfield 135, 3) := by decide +kernel
theorem dX10_cycles_42 : decode cX10_cycles 42 = .ok (.if_icmp .ge 48, 3) := by decide +kernel
theorem dX10_cycles_45 : decode cX10_cycles 45 = .ok (.aload_n 2, 1) := by decide +kernel
theorem dX10_cycles_46 : decode cX10_cycles 46 = .ok (.iload 4, 2) := by decide +kernel
theorem dX10_cycles_48 : decode cX10_cycles 48 = .ok (.iaload, 1) := by decide +kernel
theorem dX10_cycles_49 : decode cX10_cycles 49 = .ok (.iload 4, 2) := by decide +kernel
theorem dX10_cycles_51 : decode cX10_cycles 51 = .ok (.if_icmp .eq 6, 3) := by decide +kernel
theorem dX10_cycles_54 : decode cX10_cycles 54 = .ok (.iinc 3 1, 3) := by decide +kernel
theorem dX10_cycles_57 : decode cX10_cycles 57 = .ok (.aload_n 0, 1) := by decide +kernel
theorem dX10_cycles_58 : decode cX10_cycles 58 = .ok (.aload_n 2, 1) := by decide +kernel
theorem dX10_cycles_59 : decode cX10_cycles 59 = .ok (.iload 4, 2) := by decide +kernel
theorem dX10_cycles_90 : decode cX10_cycles 90 = .ok (.aload_n 0, 1) := by decide +kernel
theorem dX10_cycles_91 : decode cX10_cycles 91 = .ok (.getfield 19, 3) := by decide +kernel
theorem dX10_cycles_94 : decode cX10_cycles 94 = .ok (.invokevirtual 248, 3) := by decide +kernel
theorem dX10_cycles_97 : decode cX10_cycles 97 = .ok (.iconst 0, 1) := by decide +kernel
theorem dX10_cycles_98 : decode cX10_cycles 98 = .ok (.istore 4, 2) := by decide +kernel
theorem dX10_cycles_100 : decode cX10_cycles 100 = .ok (.iload 4, 2) := by decide +kernel
theorem dX10_cycles_102 : decode cX10_cycles 102 = .ok (.aload_n 0, 1) := by decide +kernel
theorem dX10_cycles_103 : decode cX10_cycles 103 = .ok (.getfield 26, 3) := by decide +kernel
theorem dX10_cycles_106 : decode cX10_cycles 106 = .ok (.getfield 135, 3) := by decide +kernel
theorem dX10_cycles_109 : decode cX10_cycles 109 = .ok (.if_icmp .ge 24, 3) := by decide +kernel
theorem dX10_cycles_112 : decode cX10_cycles 112 = .ok (.aload_n 0, 1) := by decide +kernel
theorem dX10_cycles_113 : decode cX10_cycles 113 = .ok (.getfield 19, 3) := by decide +kernel
theorem dX10_cycles_116 : decode cX10_cycles 116 = .ok (.aload_n 0, 1) := by decide +kernel
theorem dX10_cycles_117 : decode cX10_cycles 117 = .ok (.getfield 83, 3) := by decide +kernel
theorem dX10_cycles_120 : decode cX10_cycles 120 = .ok (.iload 4, 2) := by decide +kernel
theorem dX10_cycles_122 : decode cX10_cycles 122 = .ok (.iaload, 1) := by decide +kernel
theorem dX10_cycles_123 : decode cX10_cycles 123 = .ok (.i2l, 1) := by decide +kernel
theorem dX10_cycles_124 : decode cX10_cycles 124 = .ok (.invokevirtual 251, 3) := by decide +kernel
theorem dX10_cycles_127 : decode cX10_cycles 127 = .ok (.iinc 4 1, 3) := by decide +kernel
theorem dX10_cycles_130 : decode cX10_cycles 130 = .ok (.goto (-30), 3) := by decide +kernel
theorem dX10_cycles_133 : decode cX10_cycles 133 = .ok (.iload_n 3, 1) := by decide +kernel
theorem dX10_cycles_134 : decode cX10_cycles 134 = .ok (.ireturn, 1) := by decide +kernel
set_option maxRecDepth 20000 in
theorem ggX10_roots_X10_isOrder : GoodIn wsX10_roots wsX10_isOrder := goodIn_r _ [7, 1, 61, 62, 63, 64, 65, 66, 67, 68, 69, 70, 71, 72, 73, 74, 75, 76, 77, 78, 79, 80, 81, 82] (by decide +kernel) (by decide +kernel)
set_option maxRecDepth 20000 in
theorem gX10_roots_X10_isOrder : GoodIn wsX10_roots (wsV RX10 128 RX10 yX10_isOrder wsX10_isOrder) := goodIn_app (goodIn_of _ (by decide +kernel)) ggX10_roots_X10_isOrder
theorem dX10_roots_0 : decode cX10_roots 0 = .ok (.aload_n 0, 1) := by decide +kernel
theorem dX10_roots_1 : decode cX10_roots 1 = .ok (.iload_n 1, 1) := by decide +kernel
theorem dX10_roots_2 : decode cX10_roots 2 = .ok (.invokevirtual 128, 3) := by decide +kernel
theorem dX10_roots_5 : decode cX10_roots 5 = .ok (.ifCond .eq 14, 3) := by decide +kernel
theorem dX10_roots_8 : decode cX10_roots 8 = .ok (.iload_n 2, 1) := by decide +kernel
theorem dX10_roots_9 : decode cX10_roots 9 = .ok (.iconst 1, 1) := by decide +kernel
theorem dX10_roots_10 : decode cX10_roots 10 = .ok (.if_icmp .lt 9, 3) := by decide +kernel
theorem dX10_roots_13 : decode cX10_roots 13 = .ok (.iload_n 2, 1) := by decide +kernel
theorem dX10_roots_14 : decode cX10_roots 14 = .ok (.bipush 12, 2) := by decide +kernel
theorem dX10_roots_16 : decode cX10_roots 16 = .ok (.if_icmp .le 5, 3) := by decide +kernel
theorem dX10_roots_19 : decode cX10_roots 19 = .ok (.iconst (-1), 1) := by decide +kernel
theorem dX10_roots_20 : decode cX10_roots 20 = .ok (.ireturn, 1) := by decide +kernel
theorem dX10_roots_21 : decode cX10_roots 21 = .ok (.aload_n 0, 1) := by decide +kernel
theorem dX10_roots_22 : decode cX10_roots 22 = .ok (.getfield 26, 3) := by decide +kernel
theorem dX10_roots_25 : decode cX10_roots 25 = .ok (.getfield 135, 3) := by decide +kernel
theorem dX10_roots_28 : decode cX10_roots 28 = .ok (.bipush 6, 2) := by decide +kernel
theorem dX10_roots_30 : decode cX10_roots 30 = .ok (.if_icmp .le 6, 3) := by decide +kernel
theorem dX10_roots_33 : decode cX10_roots 33 = .ok (.bipush (-3), 2) := by decide +kernel
theorem dX10_roots_35 : decode cX10_roots 35 = .ok (.ireturn, 1) := by decide +kernel
theorem dX10_roots_36 : decode cX10_roots 36 = .ok (.aload_n 0, 1) := by decide +kernel
theorem dX10_roots_37 : decode cX10_roots 37 = .ok (.getfield 65, 3) := by decide +kernel
theorem dX10_roots_40 : decode cX10_roots 40 = .ok (.aload_n 0, 1) := by decide +kernel
theorem dX10_roots_41 : decode cX10_roots 41 = .ok (.getfield 26, 3) := by decide +kernel
theorem dX10_roots_44 : decode cX10_roots 44 = .ok (.iload_n 1, 1) := by decide +kernel
theorem dX10_roots_45 : decode cX10_roots 45 = .ok (.iload_n 2, 1) := by decide +kernel
set_option maxRecDepth 20000 in
theorem ggX10_mends_X10_isDay : GoodIn wsX10_mends wsX10_isDay := goodIn_r _ [8, 9] (by decide +kernel) (by decide +kernel)
set_option maxRecDepth 20000 in
theorem gX10_mends_X10_isDay : GoodIn wsX10_mends (va_wsS RX10 159 yX10_isDay wsX10_isDay) := goodIn_app (goodIn_of _ (by decide +kernel)) ggX10_mends_X10_isDay
set_option maxRecDepth 20000 in
theorem ggX10_mends_X5_clear : GoodIn wsX10_mends wsX5_clear := goodIn_r _ [33, 34, 80, 81] (by decide +kernel) (by decide +kernel)
set_option maxRecDepth 20000 in
theorem gX10_mends_X5_clear : GoodIn wsX10_mends (wsV RX10 248 RX5 yX5_clear wsX5_clear) := goodIn_app (goodIn_of _ (by decide +kernel)) ggX10_mends_X5_clear
theorem dX10_mends_0 : decode cX10_mends 0 = .ok (.lload_n 1, 1) := by decide +kernel
theorem dX10_mends_1 : decode cX10_mends 1 = .ok (.invokestatic 159, 3) := by decide +kernel
theorem dX10_mends_4 : decode cX10_mends 4 = .ok (.ifCond .ne 5, 3) := by decide +kernel
theorem dX10_mends_7 : decode cX10_mends 7 = .ok (.iconst (-1), 1) := by decide +kernel
theorem dX10_mends_8 : decode cX10_mends 8 = .ok (.ireturn, 1) := by decide +kernel
theorem dX10_mends_9 : decode cX10_mends 9 = .ok (.iconst 0, 1) := by decide +kernel
theorem dX10_mends_10 : decode cX10_mends 10 = .ok (.istore_n 3, 1) := by decide +kernel
theorem dX10_mends_11 : decode cX10_mends 11 = .ok (.iload_n 3, 1) := by decide +kernel
theorem dX10_mends_12 : decode cX10_mends 12 = .ok (.aload_n 0, 1) := by decide +kernel
theorem dX10_mends_13 : decode cX10_mends 13 = .ok (.getfield 26, 3) := by decide +kernel
theorem dX10_mends_16 : decode cX10_mends 16 = .ok (.getfield 135, 3) := by decide +kernel
theorem dX10_mends_19 : decode cX10_mends 19 = .ok (.if_icmp .ge 24, 3) := by decide +kernel
theorem dX10_mends_22 : decode cX10_mends 22 = .ok (.aload_n 0, 1) := by decide +kernel
theorem dX10_mends_23 : decode cX10_mends 23 = .ok (.getfield 83, 3) := by decide +kernel
theorem dX10_mends_26 : decode cX10_mends 26 = .ok (.iload_n 3, 1) := by decide +kernel
theorem dX10_mends_27 : decode cX10_mends 27 = .ok (.aload_n 0, 1) := by decide +kernel
theorem dX10_mends_28 : decode cX10_mends 28 = .ok (.getfield 44, 3) := by decide +kernel
theorem dX10_mends_31 : decode cX10_mends 31 = .ok (.iload_n 3, 1) := by decide +kernel
theorem dX10_mends_32 : decode cX10_mends 32 = .ok (.lload_n 1, 1) := by decide +kernel
theorem dX10_mends_43 : decode cX10_mends 43 = .ok (.aload_n 0, 1) := by decide +kernel
theorem dX10_mends_44 : decode cX10_mends 44 = .ok (.getfield 26, 3) := by decide +kernel
theorem dX10_mends_47 : decode cX10_mends 47 = .ok (.getfield 135, 3) := by decide +kernel
theorem dX10_mends_50 : decode cX10_mends 50 = .ok (.istore_n 3, 1) := by decide +kernel
theorem dX10_mends_51 : decode cX10_mends 51 = .ok (.iconst (-1), 1) := by decide +kernel
theorem dX10_mends_52 : decode cX10_mends 52 = .ok (.istore 4, 2) := by decide +kernel
theorem dX10_mends_54 : decode cX10_mends 54 = .ok (.aload_n 0, 1) := by decide +kernel
theorem dX10_mends_55 : decode cX10_mends 55 = .ok (.getfield 26, 3) := by decide +kernel
theorem dX10_mends_58 : decode cX10_mends 58 = .ok (.getfield 135, 3) := by decide +kernel
theorem dX10_mends_61 : decode cX10_mends 61 = .ok (.iconst 1, 1) := by decide +kernel
theorem dX10_mends_62 : decode cX10_mends 62 = .ok (.isub, 1) := by decide +kernel
theorem dX10_mends_63 : decode cX10_mends 63 = .ok (.istore 5, 2) := by decide +kernel
theorem dX10_mends_65 : decode cX10_mends 65 = .ok (.iload 5, 2) := by decide +kernel
theorem dX10_mends_67 : decode cX10_mends 67 = .ok (.ifCond .lt 41, 3) := by decide +kernel
theorem dX10_mends_70 : decode cX10_mends 70 = .ok (.aload_n 0, 1) := by decide +kernel
theorem dX10_mends_71 : decode cX10_mends 71 = .ok (.aload_n 0, 1) := by decide +kernel
theorem dX10_mends_72 : decode cX10_mends 72 = .ok (.getfield 83, 3) := by decide +kernel
theorem dX10_mends_75 : decode cX10_mends 75 = .ok (.iload 5, 2) := by decide +kernel
theorem dX10_mends_108 : decode cX10_mends 108 = .ok (.aload_n 0, 1) := by decide +kernel
theorem dX10_mends_109 : decode cX10_mends 109 = .ok (.getfield 19, 3) := by decide +kernel
theorem dX10_mends_112 : decode cX10_mends 112 = .ok (.invokevirtual 248, 3) := by decide +kernel
theorem dX10_mends_115 : decode cX10_mends 115 = .ok (.iload 4, 2) := by decide +kernel
theorem dX10_mends_117 : decode cX10_mends 117 = .ok (.ifCond .lt 24, 3) := by decide +kernel
theorem dX10_mends_120 : decode cX10_mends 120 = .ok (.aload_n 0, 1) := by decide +kernel
theorem dX10_mends_121 : decode cX10_mends 121 = .ok (.getfield 19, 3) := by decide +kernel
theorem dX10_mends_124 : decode cX10_mends 124 = .ok (.iload 4, 2) := by decide +kernel
theorem dX10_mends_126 : decode cX10_mends 126 = .ok (.i2l, 1) := by decide +kernel
theorem dX10_mends_127 : decode cX10_mends 127 = .ok (.aload_n 0, 1) := by decide +kernel
theorem dX10_mends_128 : decode cX10_mends 128 = .ok (.getfield 44, 3) := by decide +kernel
theorem dX10_mends_131 : decode cX10_mends 131 = .ok (.iload 4, 2) := by decide +kernel
theorem dX10_mends_133 : decode cX10_mends 133 = .ok (.lload_n 1, 1) := by decide +kernel
theorem dX10_mends_141 : decode cX10_mends 141 = .ok (.iload_n 3, 1) := by decide +kernel
theorem dX10_mends_142 : decode cX10_mends 142 = .ok (.ireturn, 1) := by decide +kernel
set_option maxRecDepth 20000 in
theorem ggX10_carries_X10_isLetter : GoodIn wsX10_carries wsX10_isLetter := goodIn_r _ [7, 1, 74, 75, 76, 77, 78, 79, 80, 81, 82, 83, 84, 85, 86, 87, 88, 89, 90, 91, 92, 93, 94, 95] (by decide +kernel) (by decide +kernel)
set_option maxRecDepth 20000 in
theorem gX10_carries_X10_isLetter : GoodIn wsX10_carries (wsV RX10 201 RX10 yX10_isLetter wsX10_isLetter) := goodIn_app (goodIn_of _ (by decide +kernel)) ggX10_carries_X10_isLetter
set_option maxRecDepth 20000 in
theorem ggX10_carries_X10_isLate : GoodIn wsX10_carries wsX10_isLate := goodIn_r _ [10] (by decide +kernel) (by decide +kernel)
set_option maxRecDepth 20000 in
theorem gX10_carries_X10_isLate : GoodIn wsX10_carries (va_wsS RX10 260 yX10_isLate wsX10_isLate) := goodIn_app (goodIn_of _ (by decide +kernel)) ggX10_carries_X10_isLate
theorem dX10_carries_0 : decode cX10_carries 0 = .ok (.aload_n 0, 1) := by decide +kernel
theorem dX10_carries_1 : decode cX10_carries 1 = .ok (.iload_n 1, 1) := by decide +kernel
theorem dX10_carries_2 : decode cX10_carries 2 = .ok (.invokevirtual 201, 3) := by decide +kernel
theorem dX10_carries_5 : decode cX10_carries 5 = .ok (.ifCond .eq 10, 3) := by decide +kernel
theorem dX10_carries_8 : decode cX10_carries 8 = .ok (.iload_n 2, 1) := by decide +kernel
theorem dX10_carries_9 : decode cX10_carries 9 = .ok (.invokestatic 260, 3) := by decide +kernel
theorem dX10_carries_12 : decode cX10_carries 12 = .ok (.ifCond .ne 5, 3) := by decide +kernel
theorem dX10_carries_15 : decode cX10_carries 15 = .ok (.iconst (-1), 1) := by decide +kernel
theorem dX10_carries_16 : decode cX10_carries 16 = .ok (.ireturn, 1) := by decide +kernel
theorem dX10_carries_17 : decode cX10_carries 17 = .ok (.aload_n 0, 1) := by decide +kernel
theorem dX10_carries_18 : decode cX10_carries 18 = .ok (.iload_n 1, 1) := by decide +kernel
set_option maxRecDepth 20000 in
theorem ggX10_best_X10_isLetter : GoodIn wsX10_best wsX10_isLetter := goodIn_r _ [6, 1, 35, 36, 37, 38, 39, 40, 41, 42, 43, 44, 45, 46, 47, 48, 49, 50, 51, 52, 53, 54, 55, 56] (by decide +kernel) (by decide +kernel)
set_option maxRecDepth 20000 in
theorem gX10_best_X10_isLetter : GoodIn wsX10_best (wsV RX10 201 RX10 yX10_isLetter wsX10_isLetter) := goodIn_app (goodIn_of _ (by decide +kernel)) ggX10_best_X10_isLetter
theorem dX10_best_0 : decode cX10_best 0 = .ok (.aload_n 0, 1) := by decide +kernel
theorem dX10_best_1 : decode cX10_best 1 = .ok (.iload_n 1, 1) := by decide +kernel
theorem dX10_best_2 : decode cX10_best 2 = .ok (.invokevirtual 201, 3) := by decide +kernel
theorem dX10_best_5 : decode cX10_best 5 = .ok (.ifCond .ne 5, 3) := by decide +kernel
theorem dX10_best_8 : decode cX10_best 8 = .ok (.iconst (-1), 1) := by decide +kernel
theorem dX10_best_9 : decode cX10_best 9 = .ok (.ireturn, 1) := by decide +kernel
theorem dX10_best_10 : decode cX10_best 10 = .ok (.aload_n 0, 1) := by decide +kernel
theorem dX10_best_11 : decode cX10_best 11 = .ok (.iload_n 1, 1) := by decide +kernel
set_option maxRecDepth 20000 in
theorem ggX10_days_X10_isLetter : GoodIn wsX10_days wsX10_isLetter := goodIn_r _ [8, 2, 55, 56, 57, 58, 59, 60, 61, 62, 63, 64, 65, 66, 67, 68, 69, 70, 71, 72, 73, 74, 75, 76] (by decide +kernel) (by decide +kernel)
set_option maxRecDepth 20000 in
theorem gX10_days_X10_isLetter : GoodIn wsX10_days (wsV RX10 201 RX10 yX10_isLetter wsX10_isLetter) := goodIn_app (goodIn_of _ (by decide +kernel)) ggX10_days_X10_isLetter
set_option maxRecDepth 20000 in
theorem ggX10_days_X10_isLate : GoodIn wsX10_days wsX10_isLate := goodIn_r _ [11] (by decide +kernel) (by decide +kernel)
set_option maxRecDepth 20000 in
theorem gX10_days_X10_isLate : GoodIn wsX10_days (va_wsS RX10 260 yX10_isLate wsX10_isLate) := goodIn_app (goodIn_of _ (by decide +kernel)) ggX10_days_X10_isLate
theorem dX10_days_0 : decode cX10_days 0 = .ok (.aload_n 0, 1) := by decide +kernel
theorem dX10_days_1 : decode cX10_days 1 = .ok (.iload_n 1, 1) := by decide +kernel
theorem dX10_days_2 : decode cX10_days 2 = .ok (.invokevirtual 201, 3) := by decide +kernel
theorem dX10_days_5 : decode cX10_days 5 = .ok (.ifCond .eq 22, 3) := by decide +kernel
theorem dX10_days_8 : decode cX10_days 8 = .ok (.iload_n 2, 1) := by decide +kernel
theorem dX10_days_9 : decode cX10_days 9 = .ok (.invokestatic 260, 3) := by decide +kernel
theorem dX10_days_12 : decode cX10_days 12 = .ok (.ifCond .eq 15, 3) := by decide +kernel
theorem dX10_days_15 : decode cX10_days 15 = .ok (.iload_n 3, 1) := by decide +kernel
theorem dX10_days_16 : decode cX10_days 16 = .ok (.iconst 1, 1) := by decide +kernel
theorem dX10_days_17 : decode cX10_days 17 = .ok (.if_icmp .lt 10, 3) := by decide +kernel
theorem dX10_days_20 : decode cX10_days 20 = .ok (.iload_n 3, 1) := by decide +kernel
theorem dX10_days_21 : decode cX10_days 21 = .ok (.sipush 1000, 3) := by decide +kernel
theorem dX10_days_24 : decode cX10_days 24 = .ok (.if_icmp .le 5, 3) := by decide +kernel
theorem dX10_days_27 : decode cX10_days 27 = .ok (.iconst (-1), 1) := by decide +kernel
theorem dX10_days_28 : decode cX10_days 28 = .ok (.ireturn, 1) := by decide +kernel
theorem dX10_days_29 : decode cX10_days 29 = .ok (.aload_n 0, 1) := by decide +kernel
theorem dX10_days_30 : decode cX10_days 30 = .ok (.iload_n 1, 1) := by decide +kernel
theorem dX10_postman_0 : decode cX10_postman 0 = .ok (.iload_n 1, 1) := by decide +kernel
theorem dX10_postman_1 : decode cX10_postman 1 = .ok (.iconst 1, 1) := by decide +kernel
theorem dX10_postman_2 : decode cX10_postman 2 = .ok (.if_icmp .lt 20, 3) := by decide +kernel
theorem dX10_postman_5 : decode cX10_postman 5 = .ok (.iload_n 1, 1) := by decide +kernel
theorem dX10_postman_6 : decode cX10_postman 6 = .ok (.bipush 30, 2) := by decide +kernel
theorem dX10_postman_8 : decode cX10_postman 8 = .ok (.if_icmp .gt 14, 3) := by decide +kernel
theorem dX10_postman_11 : decode cX10_postman 11 = .ok (.aload_n 0, 1) := by decide +kernel
theorem dX10_postman_12 : decode cX10_postman 12 = .ok (.getfield 26, 3) := by decide +kernel
theorem dX10_postman_15 : decode cX10_postman 15 = .ok (.getfield 191, 3) := by decide +kernel
theorem dX10_postman_18 : decode cX10_postman 18 = .ok (.iconst 1, 1) := by decide +kernel
theorem dX10_postman_19 : decode cX10_postman 19 = .ok (.if_icmp .ge 5, 3) := by decide +kernel
theorem dX10_postman_22 : decode cX10_postman 22 = .ok (.iconst (-1), 1) := by decide +kernel
theorem dX10_postman_23 : decode cX10_postman 23 = .ok (.ireturn, 1) := by decide +kernel
theorem dX10_postman_24 : decode cX10_postman 24 = .ok (.aload_n 0, 1) := by decide +kernel
theorem dX10_postman_25 : decode cX10_postman 25 = .ok (.iload_n 1, 1) := by decide +kernel
set_option maxRecDepth 20000 in
theorem ggX10_travels_X10_isLetter : GoodIn wsX10_travels wsX10_isLetter := goodIn_r _ [5, 6, 118, 119, 120, 121, 122, 123, 124, 125, 126, 127, 128, 129, 130, 131, 132, 133, 134, 135, 136, 137, 138, 139] (by decide +kernel) (by decide +kernel)
set_option maxRecDepth 20000 in
theorem gX10_travels_X10_isLetter : GoodIn wsX10_travels (wsV RX10 201 RX10 yX10_isLetter wsX10_isLetter) := goodIn_app (goodIn_of _ (by decide +kernel)) ggX10_travels_X10_isLetter
set_option maxRecDepth 20000 in
theorem ggX10_travels_X10_isLate : GoodIn wsX10_travels wsX10_isLate := goodIn_r _ [9] (by decide +kernel) (by decide +kernel)
set_option maxRecDepth 20000 in
theorem gX10_travels_X10_isLate : GoodIn wsX10_travels (va_wsS RX10 260 yX10_isLate wsX10_isLate) := goodIn_app (goodIn_of _ (by decide +kernel)) ggX10_travels_X10_isLate
theorem dX10_travels_0 : decode cX10_travels 0 = .ok (.aload_n 0, 1) := by decide +kernel
theorem dX10_travels_1 : decode cX10_travels 1 = .ok (.iload_n 1, 1) := by decide +kernel
theorem dX10_travels_2 : decode cX10_travels 2 = .ok (.invokevirtual 201, 3) := by decide +kernel
theorem dX10_travels_5 : decode cX10_travels 5 = .ok (.ifCond .eq 10, 3) := by decide +kernel
theorem dX10_travels_8 : decode cX10_travels 8 = .ok (.iload_n 2, 1) := by decide +kernel
theorem dX10_travels_9 : decode cX10_travels 9 = .ok (.invokestatic 260, 3) := by decide +kernel
theorem dX10_travels_12 : decode cX10_travels 12 = .ok (.ifCond .ne 5, 3) := by decide +kernel
theorem dX10_travels_15 : decode cX10_travels 15 = .ok (.iconst (-1), 1) := by decide +kernel
theorem dX10_travels_16 : decode cX10_travels 16 = .ok (.ireturn, 1) := by decide +kernel
theorem dX10_travels_17 : decode cX10_travels 17 = .ok (.aload_n 0, 1) := by decide +kernel
theorem dX10_travels_18 : decode cX10_travels 18 = .ok (.iload_n 1, 1) := by decide +kernel
theorem dX10_travels_19 : decode cX10_travels 19 = .ok (.iload_n 2, 1) := by decide +kernel
theorem dX10_travels_20 : decode cX10_travels 20 = .ok (.iconst 0, 1) := by decide +kernel
set_option maxRecDepth 20000 in
theorem ggX10_round_X10_isPlace : GoodIn wsX10_round wsX10_isPlace := goodIn_r _ [8] (by decide +kernel) (by decide +kernel)
set_option maxRecDepth 20000 in
theorem gX10_round_X10_isPlace : GoodIn wsX10_round (va_wsS RX10 147 yX10_isPlace wsX10_isPlace) := goodIn_app (goodIn_of _ (by decide +kernel)) ggX10_round_X10_isPlace
set_option maxRecDepth 20000 in
theorem ggX10_round_X10_isChoice : GoodIn wsX10_round wsX10_isChoice := goodIn_r _ [11, 12, 13, 14, 15, 16, 17, 18] (by decide +kernel) (by decide +kernel)
set_option maxRecDepth 20000 in
theorem gX10_round_X10_isChoice : GoodIn wsX10_round (va_wsS RX10 281 yX10_isChoice wsX10_isChoice) := goodIn_app (goodIn_of _ (by decide +kernel)) ggX10_round_X10_isChoice
theorem dX10_round_0 : decode cX10_round 0 = .ok (.iload_n 1, 1) := by decide +kernel
theorem dX10_round_1 : decode cX10_round 1 = .ok (.invokestatic 147, 3) := by decide +kernel
theorem dX10_round_4 : decode cX10_round 4 = .ok (.ifCond .eq 31, 3) := by decide +kernel
theorem dX10_round_7 : decode cX10_round 7 = .ok (.iload_n 2, 1) := by decide +kernel
theorem dX10_round_8 : decode cX10_round 8 = .ok (.aload_n 0, 1) := by decide +kernel
theorem dX10_round_9 : decode cX10_round 9 = .ok (.getfield 26, 3) := by decide +kernel
theorem dX10_round_12 : decode cX10_round 12 = .ok (.getfield 191, 3) := by decide +kernel
theorem dX10_round_15 : decode cX10_round 15 = .ok (.bipush 6, 2) := by decide +kernel
theorem dX10_round_17 : decode cX10_round 17 = .ok (.invokestatic 281, 3) := by decide +kernel
theorem dX10_round_20 : decode cX10_round 20 = .ok (.ifCond .eq 15, 3) := by decide +kernel
theorem dX10_round_23 : decode cX10_round 23 = .ok (.iload_n 3, 1) := by decide +kernel
theorem dX10_round_24 : decode cX10_round 24 = .ok (.iconst 1, 1) := by decide +kernel
theorem dX10_round_25 : decode cX10_round 25 = .ok (.if_icmp .lt 10, 3) := by decide +kernel
theorem dX10_round_28 : decode cX10_round 28 = .ok (.iload_n 3, 1) := by decide +kernel
theorem dX10_round_29 : decode cX10_round 29 = .ok (.sipush 999, 3) := by decide +kernel
theorem dX10_round_32 : decode cX10_round 32 = .ok (.if_icmp .le 5, 3) := by decide +kernel
theorem dX10_round_35 : decode cX10_round 35 = .ok (.iconst (-1), 1) := by decide +kernel
theorem dX10_round_36 : decode cX10_round 36 = .ok (.ireturn, 1) := by decide +kernel
theorem dX10_round_37 : decode cX10_round 37 = .ok (.aload_n 0, 1) := by decide +kernel
theorem dX10_round_38 : decode cX10_round 38 = .ok (.getfield 79, 3) := by decide +kernel
theorem dX10_round_41 : decode cX10_round 41 = .ok (.bipush 100, 2) := by decide +kernel
theorem dX10_round_43 : decode cX10_round 43 = .ok (.iload_n 3, 1) := by decide +kernel
set_option maxRecDepth 20000 in
theorem ggX10_rule_X6_read : GoodIn wsX10_rule wsX6_read := goodIn_r _ [7, 8, 9, 10, 11, 12, 13, 14, 15, 16, 17, 18, 19, 20, 21, 22, 23, 6, 24, 25, 26, 27, 28, 29, 30, 31, 32, 33, 34, 35, 36, 37, 38, 39, 40, 41, 42, 43, 44, 45, 46, 47, 48, 49, 50, 51, 52, 53, 54, 55, 56, 57, 58, 59, 60, 61, 62, 63, 64, 65, 66, 67, 68, 69, 70, 71, 72, 73, 74, 75, 76, 77, 78, 79, 80, 81, 82, 83, 84, 85, 86, 87, 88, 89, 90, 91, 92, 93, 94, 95, 96, 97, 98, 99, 100, 101, 102, 103, 104, 105, 106, 107, 108, 109, 110, 111, 112, 113, 114, 115, 116, 117, 118, 119, 120, 121, 122, 123, 124, 125, 126, 127, 128, 129, 130, 131, 132, 133, 134, 135, 136, 137, 138, 139, 140, 141, 142, 143, 144, 145, 146, 147, 148, 149, 167, 168, 169, 170, 171, 172, 173, 174, 175] (by decide +kernel) (by decide +kernel)
set_option maxRecDepth 20000 in
theorem gX10_rule_X6_read : GoodIn wsX10_rule (wsV RX10 294 RX6 yX6_read wsX6_read) := goodIn_app (goodIn_of _ (by decide +kernel)) ggX10_rule_X6_read
set_option maxRecDepth 20000 in
theorem ggX10_rule_X7_cut : GoodIn wsX10_rule wsX7_cut := goodIn_r _ [153, 33, 167, 168] (by decide +kernel) (by decide +kernel)
set_option maxRecDepth 20000 in
theorem gX10_rule_X7_cut : GoodIn wsX10_rule (wsV RX10 94 RX7 yX7_cut wsX7_cut) := goodIn_app (goodIn_of _ (by decide +kernel)) ggX10_rule_X7_cut
theorem dX10_rule_0 : decode cX10_rule 0 = .ok (.aload_n 0, 1) := by decide +kernel
theorem dX10_rule_1 : decode cX10_rule 1 = .ok (.getfield 58, 3) := by decide +kernel
theorem dX10_rule_4 : decode cX10_rule 4 = .ok (.aload_n 0, 1) := by decide +kernel
theorem dX10_rule_5 : decode cX10_rule 5 = .ok (.getfield 10, 3) := by decide +kernel
theorem dX10_rule_8 : decode cX10_rule 8 = .ok (.invokevirtual 294, 3) := by decide +kernel
theorem dX10_rule_11 : decode cX10_rule 11 = .ok (.istore_n 1, 1) := by decide +kernel
theorem dX10_rule_12 : decode cX10_rule 12 = .ok (.aload_n 0, 1) := by decide +kernel
theorem dX10_rule_13 : decode cX10_rule 13 = .ok (.getfield 10, 3) := by decide +kernel
theorem dX10_rule_16 : decode cX10_rule 16 = .ok (.iconst 0, 1) := by decide +kernel
theorem dX10_rule_17 : decode cX10_rule 17 = .ok (.invokevirtual 94, 3) := by decide +kernel
theorem dX10_rule_20 : decode cX10_rule 20 = .ok (.pop, 1) := by decide +kernel
theorem dX10_rule_21 : decode cX10_rule 21 = .ok (.iload_n 1, 1) := by decide +kernel
theorem dX10_rule_22 : decode cX10_rule 22 = .ok (.ireturn, 1) := by decide +kernel
set_option maxRecDepth 20000 in
theorem ggX10_sends_X10_isLetter : GoodIn wsX10_sends wsX10_isLetter := goodIn_r _ [5, 6, 115, 116, 117, 118, 119, 120, 121, 122, 123, 124, 125, 126, 127, 128, 129, 130, 131, 132, 133, 134, 135, 136] (by decide +kernel) (by decide +kernel)
set_option maxRecDepth 20000 in
theorem gX10_sends_X10_isLetter : GoodIn wsX10_sends (wsV RX10 201 RX10 yX10_isLetter wsX10_isLetter) := goodIn_app (goodIn_of _ (by decide +kernel)) ggX10_sends_X10_isLetter
theorem dX10_sends_0 : decode cX10_sends 0 = .ok (.aload_n 0, 1) := by decide +kernel
theorem dX10_sends_1 : decode cX10_sends 1 = .ok (.iload_n 1, 1) := by decide +kernel
theorem dX10_sends_2 : decode cX10_sends 2 = .ok (.invokevirtual 201, 3) := by decide +kernel
theorem dX10_sends_5 : decode cX10_sends 5 = .ok (.ifCond .ne 5, 3) := by decide +kernel
theorem dX10_sends_8 : decode cX10_sends 8 = .ok (.iconst (-1), 1) := by decide +kernel
theorem dX10_sends_9 : decode cX10_sends 9 = .ok (.ireturn, 1) := by decide +kernel
theorem dX10_sends_10 : decode cX10_sends 10 = .ok (.aload_n 0, 1) := by decide +kernel
theorem dX10_sends_11 : decode cX10_sends 11 = .ok (.iload_n 1, 1) := by decide +kernel
theorem dX10_sends_12 : decode cX10_sends 12 = .ok (.iconst 0, 1) := by decide +kernel
theorem dX10_sends_13 : decode cX10_sends 13 = .ok (.iconst 1, 1) := by decide +kernel
set_option maxRecDepth 20000 in
theorem ggX10_walk_X10_isPlace : GoodIn wsX10_walk wsX10_isPlace := goodIn_r _ [8] (by decide +kernel) (by decide +kernel)
set_option maxRecDepth 20000 in
theorem gX10_walk_X10_isPlace : GoodIn wsX10_walk (va_wsS RX10 147 yX10_isPlace wsX10_isPlace) := goodIn_app (goodIn_of _ (by decide +kernel)) ggX10_walk_X10_isPlace
set_option maxRecDepth 20000 in
theorem ggX10_walk_X10_isChoice : GoodIn wsX10_walk wsX10_isChoice := goodIn_r _ [11, 12, 13, 14, 15, 16, 17, 18] (by decide +kernel) (by decide +kernel)
set_option maxRecDepth 20000 in
theorem gX10_walk_X10_isChoice : GoodIn wsX10_walk (va_wsS RX10 281 yX10_isChoice wsX10_isChoice) := goodIn_app (goodIn_of _ (by decide +kernel)) ggX10_walk_X10_isChoice
theorem dX10_walk_0 : decode cX10_walk 0 = .ok (.iload_n 1, 1) := by decide +kernel
theorem dX10_walk_1 : decode cX10_walk 1 = .ok (.invokestatic 147, 3) := by decide +kernel
theorem dX10_walk_4 : decode cX10_walk 4 = .ok (.ifCond .eq 19, 3) := by decide +kernel
theorem dX10_walk_7 : decode cX10_walk 7 = .ok (.iload_n 2, 1) := by decide +kernel
theorem dX10_walk_8 : decode cX10_walk 8 = .ok (.aload_n 0, 1) := by decide +kernel
theorem dX10_walk_9 : decode cX10_walk 9 = .ok (.getfield 26, 3) := by decide +kernel
theorem dX10_walk_12 : decode cX10_walk 12 = .ok (.getfield 135, 3) := by decide +kernel
theorem dX10_walk_15 : decode cX10_walk 15 = .ok (.bipush 7, 2) := by decide +kernel
theorem dX10_walk_17 : decode cX10_walk 17 = .ok (.invokestatic 281, 3) := by decide +kernel
theorem dX10_walk_20 : decode cX10_walk 20 = .ok (.ifCond .ne 5, 3) := by decide +kernel
theorem dX10_walk_23 : decode cX10_walk 23 = .ok (.iconst (-1), 1) := by decide +kernel
theorem dX10_walk_24 : decode cX10_walk 24 = .ok (.ireturn, 1) := by decide +kernel
theorem dX10_walk_25 : decode cX10_walk 25 = .ok (.aload_n 0, 1) := by decide +kernel
theorem dX10_walk_26 : decode cX10_walk 26 = .ok (.getfield 79, 3) := by decide +kernel
theorem dX10_walk_29 : decode cX10_walk 29 = .ok (.iconst 1, 1) := by decide +kernel
theorem dX10_walk_30 : decode cX10_walk 30 = .ok (.ldc_w 301, 3) := by decide +kernel
set_option maxRecDepth 20000 in
theorem ggX10_meet_X10_isChoice : GoodIn wsX10_meet wsX10_isChoice := goodIn_r _ [6, 7, 8, 9, 10, 11, 12, 13] (by decide +kernel) (by decide +kernel)
set_option maxRecDepth 20000 in
theorem gX10_meet_X10_isChoice : GoodIn wsX10_meet (va_wsS RX10 281 yX10_isChoice wsX10_isChoice) := goodIn_app (goodIn_of _ (by decide +kernel)) ggX10_meet_X10_isChoice
theorem dX10_meet_0 : decode cX10_meet 0 = .ok (.iload_n 1, 1) := by decide +kernel
theorem dX10_meet_1 : decode cX10_meet 1 = .ok (.aload_n 0, 1) := by decide +kernel
theorem dX10_meet_2 : decode cX10_meet 2 = .ok (.getfield 26, 3) := by decide +kernel
theorem dX10_meet_5 : decode cX10_meet 5 = .ok (.getfield 191, 3) := by decide +kernel
theorem dX10_meet_8 : decode cX10_meet 8 = .ok (.bipush 12, 2) := by decide +kernel
theorem dX10_meet_10 : decode cX10_meet 10 = .ok (.invokestatic 281, 3) := by decide +kernel
theorem dX10_meet_13 : decode cX10_meet 13 = .ok (.ifCond .ne 5, 3) := by decide +kernel
theorem dX10_meet_16 : decode cX10_meet 16 = .ok (.iconst (-1), 1) := by decide +kernel
theorem dX10_meet_17 : decode cX10_meet 17 = .ok (.ireturn, 1) := by decide +kernel
theorem dX10_meet_18 : decode cX10_meet 18 = .ok (.bipush (-2), 2) := by decide +kernel
theorem dX10_meet_20 : decode cX10_meet 20 = .ok (.istore_n 2, 1) := by decide +kernel
theorem dX10_meet_21 : decode cX10_meet 21 = .ok (.iconst 0, 1) := by decide +kernel
theorem dX10_meet_22 : decode cX10_meet 22 = .ok (.istore_n 3, 1) := by decide +kernel
theorem dX10_meet_23 : decode cX10_meet 23 = .ok (.iconst 0, 1) := by decide +kernel
theorem dX10_meet_24 : decode cX10_meet 24 = .ok (.istore 4, 2) := by decide +kernel
theorem dX10_meet_26 : decode cX10_meet 26 = .ok (.iload 4, 2) := by decide +kernel
theorem dX10_meet_28 : decode cX10_meet 28 = .ok (.bipush 10, 2) := by decide +kernel
theorem dX10_meet_30 : decode cX10_meet 30 = .ok (.if_icmp .ge 39, 3) := by decide +kernel
theorem dX10_meet_33 : decode cX10_meet 33 = .ok (.aload_n 0, 1) := by decide +kernel
theorem dX10_meet_34 : decode cX10_meet 34 = .ok (.iload 4, 2) := by decide +kernel
theorem dX10_meet_36 : decode cX10_meet 36 = .ok (.iload_n 1, 1) := by decide +kernel
theorem dX10_meet_69 : decode cX10_meet 69 = .ok (.iload_n 2, 1) := by decide +kernel
theorem dX10_meet_70 : decode cX10_meet 70 = .ok (.ifCond .lt 19, 3) := by decide +kernel
theorem dX10_meet_73 : decode cX10_meet 73 = .ok (.aload_n 0, 1) := by decide +kernel
theorem dX10_meet_74 : decode cX10_meet 74 = .ok (.getfield 19, 3) := by decide +kernel
theorem dX10_meet_77 : decode cX10_meet 77 = .ok (.iload_n 3, 1) := by decide +kernel
theorem dX10_meet_78 : decode cX10_meet 78 = .ok (.i2l, 1) := by decide +kernel
theorem dX10_meet_79 : decode cX10_meet 79 = .ok (.aload_n 0, 1) := by decide +kernel
theorem dX10_meet_80 : decode cX10_meet 80 = .ok (.iload_n 2, 1) := by decide +kernel
theorem dX10_meet_81 : decode cX10_meet 81 = .ok (.iload_n 1, 1) := by decide +kernel
theorem dX10_meet_89 : decode cX10_meet 89 = .ok (.iload_n 2, 1) := by decide +kernel
theorem dX10_meet_90 : decode cX10_meet 90 = .ok (.ireturn, 1) := by decide +kernel
set_option maxRecDepth 20000 in
theorem ggX10_wish_X10_isStreet : GoodIn wsX10_wish wsX10_isStreet := goodIn_r _ [6, 7, 17, 18, 19, 20, 21, 22, 23, 24, 25, 26, 27, 28, 29, 30, 31, 32, 33, 34, 35, 36, 37, 38] (by decide +kernel) (by decide +kernel)
set_option maxRecDepth 20000 in
theorem gX10_wish_X10_isStreet : GoodIn wsX10_wish (wsV RX10 105 RX10 yX10_isStreet wsX10_isStreet) := goodIn_app (goodIn_of _ (by decide +kernel)) ggX10_wish_X10_isStreet
theorem dX10_wish_0 : decode cX10_wish 0 = .ok (.aload_n 0, 1) := by decide +kernel
theorem dX10_wish_1 : decode cX10_wish 1 = .ok (.iload_n 2, 1) := by decide +kernel
theorem dX10_wish_2 : decode cX10_wish 2 = .ok (.invokevirtual 105, 3) := by decide +kernel
theorem dX10_wish_5 : decode cX10_wish 5 = .ok (.ifCond .ne 5, 3) := by decide +kernel
theorem dX10_wish_8 : decode cX10_wish 8 = .ok (.iconst (-1), 1) := by decide +kernel
theorem dX10_wish_9 : decode cX10_wish 9 = .ok (.ireturn, 1) := by decide +kernel
theorem dX10_wish_10 : decode cX10_wish 10 = .ok (.iload_n 1, 1) := by decide +kernel
theorem dX10_wish_11 : decode cX10_wish 11 = .ok (.tableswitch 83 0 3 #[29, 52, 52, 73], 29) := by decide +kernel
theorem dX10_wish_40 : decode cX10_wish 40 = .ok (.aload_n 0, 1) := by decide +kernel
theorem dX10_wish_41 : decode cX10_wish 41 = .ok (.iload_n 3, 1) := by decide +kernel
theorem dX10_wish_42 : decode cX10_wish 42 = .ok (.invokevirtual 105, 3) := by decide +kernel
theorem dX10_wish_45 : decode cX10_wish 45 = .ok (.ifCond .eq 12, 3) := by decide +kernel
theorem dX10_wish_48 : decode cX10_wish 48 = .ok (.iload_n 3, 1) := by decide +kernel
theorem dX10_wish_49 : decode cX10_wish 49 = .ok (.iload_n 2, 1) := by decide +kernel
theorem dX10_wish_50 : decode cX10_wish 50 = .ok (.if_icmp .eq 7, 3) := by decide +kernel
theorem dX10_wish_53 : decode cX10_wish 53 = .ok (.iconst 1, 1) := by decide +kernel
theorem dX10_wish_54 : decode cX10_wish 54 = .ok (.goto 4, 3) := by decide +kernel
theorem dX10_wish_57 : decode cX10_wish 57 = .ok (.iconst 0, 1) := by decide +kernel
theorem dX10_wish_58 : decode cX10_wish 58 = .ok (.istore 4, 2) := by decide +kernel
theorem dX10_wish_60 : decode cX10_wish 60 = .ok (.goto 37, 3) := by decide +kernel
theorem dX10_wish_63 : decode cX10_wish 63 = .ok (.iload_n 3, 1) := by decide +kernel
theorem dX10_wish_64 : decode cX10_wish 64 = .ok (.iconst 1, 1) := by decide +kernel
theorem dX10_wish_65 : decode cX10_wish 65 = .ok (.if_icmp .lt 13, 3) := by decide +kernel
theorem dX10_wish_68 : decode cX10_wish 68 = .ok (.iload_n 3, 1) := by decide +kernel
theorem dX10_wish_69 : decode cX10_wish 69 = .ok (.bipush 12, 2) := by decide +kernel
theorem dX10_wish_71 : decode cX10_wish 71 = .ok (.if_icmp .gt 7, 3) := by decide +kernel
theorem dX10_wish_74 : decode cX10_wish 74 = .ok (.iconst 1, 1) := by decide +kernel
theorem dX10_wish_75 : decode cX10_wish 75 = .ok (.goto 4, 3) := by decide +kernel
theorem dX10_wish_78 : decode cX10_wish 78 = .ok (.iconst 0, 1) := by decide +kernel
theorem dX10_wish_79 : decode cX10_wish 79 = .ok (.istore 4, 2) := by decide +kernel
theorem dX10_wish_81 : decode cX10_wish 81 = .ok (.goto 16, 3) := by decide +kernel
theorem dX10_wish_84 : decode cX10_wish 84 = .ok (.aload_n 0, 1) := by decide +kernel
theorem dX10_wish_85 : decode cX10_wish 85 = .ok (.iload_n 3, 1) := by decide +kernel
theorem dX10_wish_86 : decode cX10_wish 86 = .ok (.invokevirtual 105, 3) := by decide +kernel
theorem dX10_wish_89 : decode cX10_wish 89 = .ok (.istore 4, 2) := by decide +kernel
theorem dX10_wish_91 : decode cX10_wish 91 = .ok (.goto 6, 3) := by decide +kernel
theorem dX10_wish_94 : decode cX10_wish 94 = .ok (.iconst 0, 1) := by decide +kernel
theorem dX10_wish_95 : decode cX10_wish 95 = .ok (.istore 4, 2) := by decide +kernel
theorem dX10_wish_97 : decode cX10_wish 97 = .ok (.iload 4, 2) := by decide +kernel
theorem dX10_wish_99 : decode cX10_wish 99 = .ok (.ifCond .eq 16, 3) := by decide +kernel
theorem dX10_wish_102 : decode cX10_wish 102 = .ok (.aload_n 0, 1) := by decide +kernel
theorem dX10_wish_103 : decode cX10_wish 103 = .ok (.getfield 65, 3) := by decide +kernel
theorem dX10_wish_106 : decode cX10_wish 106 = .ok (.iload_n 1, 1) := by decide +kernel
theorem dX10_wish_107 : decode cX10_wish 107 = .ok (.iload_n 2, 1) := by decide +kernel
theorem dX10_wish_108 : decode cX10_wish 108 = .ok (.iload_n 3, 1) := by decide +kernel
theorem dX10_wish_115 : decode cX10_wish 115 = .ok (.iconst (-1), 1) := by decide +kernel
theorem dX10_wish_116 : decode cX10_wish 116 = .ok (.ireturn, 1) := by decide +kernel
theorem dX10_kept_0 : decode cX10_kept 0 = .ok (.iconst 0, 1) := by decide +kernel
theorem dX10_kept_1 : decode cX10_kept 1 = .ok (.istore_n 1, 1) := by decide +kernel
theorem dX10_kept_2 : decode cX10_kept 2 = .ok (.iconst 0, 1) := by decide +kernel
theorem dX10_kept_3 : decode cX10_kept 3 = .ok (.istore_n 2, 1) := by decide +kernel
theorem dX10_kept_4 : decode cX10_kept 4 = .ok (.iload_n 2, 1) := by decide +kernel
theorem dX10_kept_5 : decode cX10_kept 5 = .ok (.aload_n 0, 1) := by decide +kernel
theorem dX10_kept_6 : decode cX10_kept 6 = .ok (.getfield 65, 3) := by decide +kernel
theorem dX10_kept_9 : decode cX10_kept 9 = .ok (.getfield 312, 3) := by decide +kernel
theorem dX10_kept_12 : decode cX10_kept 12 = .ok (.if_icmp .ge 34, 3) := by decide +kernel
theorem dX10_kept_15 : decode cX10_kept 15 = .ok (.aload_n 0, 1) := by decide +kernel
theorem dX10_kept_16 : decode cX10_kept 16 = .ok (.getfield 65, 3) := by decide +kernel
theorem dX10_kept_19 : decode cX10_kept 19 = .ok (.iload_n 2, 1) := by decide +kernel
theorem dX10_kept_20 : decode cX10_kept 20 = .ok (.aload_n 0, 1) := by decide +kernel
theorem dX10_kept_21 : decode cX10_kept 21 = .ok (.getfield 26, 3) := by decide +kernel
theorem dX10_kept_24 : decode cX10_kept 24 = .ok (.aload_n 0, 1) := by decide +kernel
theorem dX10_kept_25 : decode cX10_kept 25 = .ok (.getfield 44, 3) := by decide +kernel
theorem dX10_kept_46 : decode cX10_kept 46 = .ok (.iload_n 1, 1) := by decide +kernel
theorem dX10_kept_47 : decode cX10_kept 47 = .ok (.ireturn, 1) := by decide +kernel
set_option maxRecDepth 20000 in
theorem ggX10_choose_X10_chooseOrder : GoodIn wsX10_choose wsX10_chooseOrder := goodIn_r _ [5, 6, 7, 8, 9, 10, 11, 12, 13, 14, 15, 16, 17, 18, 19, 20, 21, 22, 23, 24, 25, 26, 27, 28, 29, 30, 31, 32, 33, 34, 35, 36, 37, 38, 39, 40, 41, 42, 43, 44, 45, 46, 47, 48, 49, 50, 51, 52, 53, 54, 55, 56, 57, 58, 59, 60, 77, 78, 79, 80, 81, 82, 83, 84, 85, 86, 87, 88, 89, 90, 91, 92, 93, 94, 95, 96, 97, 98, 99, 100, 101, 102, 103, 104, 105, 106] (by decide +kernel) (by decide +kernel)
set_option maxRecDepth 20000 in
theorem gX10_choose_X10_chooseOrder : GoodIn wsX10_choose (wsV RX10 319 RX10 yX10_chooseOrder wsX10_chooseOrder) := goodIn_app (goodIn_of _ (by decide +kernel)) ggX10_choose_X10_chooseOrder
set_option maxRecDepth 20000 in
theorem ggX10_choose_X10_tellFound : GoodIn wsX10_choose wsX10_tellFound := goodIn_r _ [64, 65, 6, 66, 67, 68, 69, 70, 71, 72, 73, 74, 75, 76, 77, 78, 79, 80, 81, 82, 83, 84, 85, 86, 87, 88, 89, 90, 91, 92, 93, 94, 95, 96, 97, 107, 108] (by decide +kernel) (by decide +kernel)
set_option maxRecDepth 20000 in
theorem gX10_choose_X10_tellFound : GoodIn wsX10_choose (wsV RX10 257 RX10 yX10_tellFound wsX10_tellFound) := goodIn_app (goodIn_of _ (by decide +kernel)) ggX10_choose_X10_tellFound
theorem dX10_choose_0 : decode cX10_choose 0 = .ok (.aload_n 0, 1) := by decide +kernel
theorem dX10_choose_1 : decode cX10_choose 1 = .ok (.iload_n 1, 1) := by decide +kernel
theorem dX10_choose_2 : decode cX10_choose 2 = .ok (.invokevirtual 319, 3) := by decide +kernel
theorem dX10_choose_5 : decode cX10_choose 5 = .ok (.istore_n 2, 1) := by decide +kernel
theorem dX10_choose_6 : decode cX10_choose 6 = .ok (.iload_n 2, 1) := by decide +kernel
theorem dX10_choose_7 : decode cX10_choose 7 = .ok (.ifCond .lt 7, 3) := by decide +kernel
theorem dX10_choose_10 : decode cX10_choose 10 = .ok (.aload_n 0, 1) := by decide +kernel
theorem dX10_choose_11 : decode cX10_choose 11 = .ok (.invokevirtual 257, 3) := by decide +kernel
theorem dX10_choose_14 : decode cX10_choose 14 = .ok (.iload_n 2, 1) := by decide +kernel
theorem dX10_choose_15 : decode cX10_choose 15 = .ok (.ireturn, 1) := by decide +kernel
set_option maxRecDepth 20000 in
theorem ggX10_proof_X2_fewestTogether : GoodIn wsX10_proof wsX2_fewestTogether := goodIn_r _ [8, 9, 10, 11, 12, 7, 13, 14, 15, 16, 17, 18, 19, 20, 21, 22, 23, 24, 25, 26, 27, 28, 29, 30, 31, 32, 33, 34, 35, 36, 37, 38, 39, 40, 41, 42, 43, 44, 45, 46, 47, 48, 49, 50, 51, 52, 53, 54, 55, 56, 57, 58, 97, 98, 99, 100, 101, 102, 103, 104] (by decide +kernel) (by decide +kernel)
set_option maxRecDepth 20000 in
theorem gX10_proof_X2_fewestTogether : GoodIn wsX10_proof (wsV RX10 322 RX2 yX2_fewestTogether wsX2_fewestTogether) := goodIn_app (goodIn_of _ (by decide +kernel)) ggX10_proof_X2_fewestTogether
set_option maxRecDepth 20000 in
theorem ggX10_proof_X5_tell : GoodIn wsX10_proof wsX5_tell := goodIn_r _ [63, 64, 65, 66, 62, 67, 68, 69, 70, 71, 72, 73, 105, 106] (by decide +kernel) (by decide +kernel)
set_option maxRecDepth 20000 in
theorem gX10_proof_X5_tell : GoodIn wsX10_proof (wsV RX10 166 RX5 yX5_tell wsX5_tell) := goodIn_app (goodIn_of _ (by decide +kernel)) ggX10_proof_X5_tell
set_option maxRecDepth 20000 in
theorem ggX10_proof_J6_bitCount_0f7a4 : GoodIn wsX10_proof wsJ6_bitCount_0f7a4 := goodIn_r _ [51, 52, 53, 54] (by decide +kernel) (by decide +kernel)
set_option maxRecDepth 20000 in
theorem gX10_proof_J6_bitCount_0f7a4 : GoodIn wsX10_proof (va_wsS RX10 170 yJ6_bitCount_0f7a4 wsJ6_bitCount_0f7a4) := goodIn_app (goodIn_of _ (by decide +kernel)) ggX10_proof_J6_bitCount_0f7a4
theorem dX10_proof_0 : decode cX10_proof 0 = .ok (.aload_n 0, 1) := by decide +kernel
theorem dX10_proof_1 : decode cX10_proof 1 = .ok (.getfield 26, 3) := by decide +kernel
theorem dX10_proof_4 : decode cX10_proof 4 = .ok (.getfield 135, 3) := by decide +kernel
theorem dX10_proof_7 : decode cX10_proof 7 = .ok (.bipush 6, 2) := by decide +kernel
theorem dX10_proof_9 : decode cX10_proof 9 = .ok (.if_icmp .le 6, 3) := by decide +kernel
theorem dX10_proof_12 : decode cX10_proof 12 = .ok (.bipush (-3), 2) := by decide +kernel
theorem dX10_proof_14 : decode cX10_proof 14 = .ok (.ireturn, 1) := by decide +kernel
theorem dX10_proof_15 : decode cX10_proof 15 = .ok (.aload_n 0, 1) := by decide +kernel
theorem dX10_proof_16 : decode cX10_proof 16 = .ok (.getfield 65, 3) := by decide +kernel
theorem dX10_proof_19 : decode cX10_proof 19 = .ok (.aload_n 0, 1) := by decide +kernel
theorem dX10_proof_20 : decode cX10_proof 20 = .ok (.getfield 26, 3) := by decide +kernel
theorem dX10_proof_23 : decode cX10_proof 23 = .ok (.getfield 135, 3) := by decide +kernel
theorem dX10_proof_26 : decode cX10_proof 26 = .ok (.invokevirtual 322, 3) := by decide +kernel
theorem dX10_proof_29 : decode cX10_proof 29 = .ok (.istore_n 1, 1) := by decide +kernel
theorem dX10_proof_30 : decode cX10_proof 30 = .ok (.iload_n 1, 1) := by decide +kernel
theorem dX10_proof_31 : decode cX10_proof 31 = .ok (.ifCond .eq 12, 3) := by decide +kernel
theorem dX10_proof_34 : decode cX10_proof 34 = .ok (.aload_n 0, 1) := by decide +kernel
theorem dX10_proof_35 : decode cX10_proof 35 = .ok (.getfield 19, 3) := by decide +kernel
theorem dX10_proof_38 : decode cX10_proof 38 = .ok (.iload_n 1, 1) := by decide +kernel
theorem dX10_proof_39 : decode cX10_proof 39 = .ok (.i2l, 1) := by decide +kernel
theorem dX10_proof_40 : decode cX10_proof 40 = .ok (.invokevirtual 166, 3) := by decide +kernel
theorem dX10_proof_43 : decode cX10_proof 43 = .ok (.iload_n 1, 1) := by decide +kernel
theorem dX10_proof_44 : decode cX10_proof 44 = .ok (.invokestatic 170, 3) := by decide +kernel
theorem dX10_proof_47 : decode cX10_proof 47 = .ok (.ireturn, 1) := by decide +kernel
set_option maxRecDepth 20000 in
theorem ggX10_decree_X10_chooseOrder : GoodIn wsX10_decree wsX10_chooseOrder := goodIn_r _ [11, 2, 1, 12, 13, 14, 15, 16, 17, 18, 19, 20, 21, 22, 23, 24, 25, 26, 27, 28, 29, 30, 31, 32, 33, 34, 35, 36, 37, 38, 39, 40, 41, 42, 43, 44, 45, 46, 47, 48, 49, 50, 51, 52, 53, 4, 5, 6, 54, 55, 56, 57, 58, 59, 60, 61, 116, 117, 118, 119, 120, 121, 122, 123, 124, 125, 126, 127, 128, 138, 139, 140, 141, 142, 143, 144, 145, 129, 130, 131, 132, 133, 134, 135, 136, 137] (by decide +kernel) (by decide +kernel)
set_option maxRecDepth 20000 in
theorem gX10_decree_X10_chooseOrder : GoodIn wsX10_decree (wsV RX10 319 RX10 yX10_chooseOrder wsX10_chooseOrder) := goodIn_app (goodIn_of _ (by decide +kernel)) ggX10_decree_X10_chooseOrder
set_option maxRecDepth 20000 in
theorem ggX10_decree_X1_stayAll : GoodIn wsX10_decree wsX1_stayAll := goodIn_r _ [66, 67, 129, 130, 131, 132, 133, 134, 135, 136, 137] (by decide +kernel) (by decide +kernel)
set_option maxRecDepth 20000 in
theorem gX10_decree_X1_stayAll : GoodIn wsX10_decree (wsV RX10 325 RX1 yX1_stayAll wsX1_stayAll) := goodIn_app (goodIn_of _ (by decide +kernel)) ggX10_decree_X1_stayAll
set_option maxRecDepth 20000 in
theorem ggX10_decree_X10_reckonAnew : GoodIn wsX10_decree wsX10_reckonAnew := goodIn_r _ [71, 72, 1, 73, 74, 75, 76, 77, 78, 79, 80, 81, 82, 23, 24, 25, 83, 84, 85, 86, 87, 88, 89, 90, 91, 92, 93, 94, 95, 96, 97, 98, 99, 100, 101, 102, 103, 104, 105, 106, 107, 108, 109, 110, 111, 112, 113, 114, 115, 116, 117, 118, 119, 120, 121, 122, 123, 124, 125, 126, 127, 128, 129, 130, 131, 132, 133, 134, 135, 136, 137, 146, 147, 148, 149, 150, 151, 152] (by decide +kernel) (by decide +kernel)
set_option maxRecDepth 20000 in
theorem gX10_decree_X10_reckonAnew : GoodIn wsX10_decree (wsV RX10 102 RX10 yX10_reckonAnew wsX10_reckonAnew) := goodIn_app (goodIn_of _ (by decide +kernel)) ggX10_decree_X10_reckonAnew
theorem dX10_decree_0 : decode cX10_decree 0 = .ok (.aload_n 0, 1) := by decide +kernel
theorem dX10_decree_1 : decode cX10_decree 1 = .ok (.iload_n 1, 1) := by decide +kernel
theorem dX10_decree_2 : decode cX10_decree 2 = .ok (.invokevirtual 319, 3) := by decide +kernel
theorem dX10_decree_5 : decode cX10_decree 5 = .ok (.istore_n 2, 1) := by decide +kernel
theorem dX10_decree_6 : decode cX10_decree 6 = .ok (.iload_n 2, 1) := by decide +kernel
theorem dX10_decree_7 : decode cX10_decree 7 = .ok (.ifCond .le 59, 3) := by decide +kernel
theorem dX10_decree_10 : decode cX10_decree 10 = .ok (.aload_n 0, 1) := by decide +kernel
theorem dX10_decree_11 : decode cX10_decree 11 = .ok (.getfield 26, 3) := by decide +kernel
theorem dX10_decree_14 : decode cX10_decree 14 = .ok (.iconst 1, 1) := by decide +kernel
theorem dX10_decree_15 : decode cX10_decree 15 = .ok (.putfield 218, 3) := by decide +kernel
theorem dX10_decree_18 : decode cX10_decree 18 = .ok (.aload_n 0, 1) := by decide +kernel
theorem dX10_decree_19 : decode cX10_decree 19 = .ok (.getfield 26, 3) := by decide +kernel
theorem dX10_decree_22 : decode cX10_decree 22 = .ok (.iconst 0, 1) := by decide +kernel
theorem dX10_decree_23 : decode cX10_decree 23 = .ok (.invokevirtual 325, 3) := by decide +kernel
theorem dX10_decree_26 : decode cX10_decree 26 = .ok (.aload_n 0, 1) := by decide +kernel
theorem dX10_decree_27 : decode cX10_decree 27 = .ok (.getfield 65, 3) := by decide +kernel
theorem dX10_decree_30 : decode cX10_decree 30 = .ok (.getfield 328, 3) := by decide +kernel
theorem dX10_decree_33 : decode cX10_decree 33 = .ok (.iconst 0, 1) := by decide +kernel
theorem dX10_decree_34 : decode cX10_decree 34 = .ok (.aload_n 0, 1) := by decide +kernel
theorem dX10_decree_35 : decode cX10_decree 35 = .ok (.getfield 26, 3) := by decide +kernel
theorem dX10_decree_38 : decode cX10_decree 38 = .ok (.getfield 131, 3) := by decide +kernel
theorem dX10_decree_41 : decode cX10_decree 41 = .ok (.iconst 0, 1) := by decide +kernel
theorem dX10_decree_42 : decode cX10_decree 42 = .ok (.aaload, 1) := by decide +kernel
theorem dX10_decree_43 : decode cX10_decree 43 = .ok (.iconst 0, 1) := by decide +kernel
theorem dX10_decree_44 : decode cX10_decree 44 = .ok (.aload_n 0, 1) := by decide +kernel
theorem dX10_decree_45 : decode cX10_decree 45 = .ok (.getfield 65, 3) := by decide +kernel
theorem dX10_decree_48 : decode cX10_decree 48 = .ok (.getfield 331, 3) := by decide +kernel
theorem dX10_decree_51 : decode cX10_decree 51 = .ok (.invokestatic 334, 3) := by decide +kernel
theorem dX10_decree_54 : decode cX10_decree 54 = .ok (.aload_n 0, 1) := by decide +kernel
theorem dX10_decree_55 : decode cX10_decree 55 = .ok (.getfield 26, 3) := by decide +kernel
theorem dX10_decree_58 : decode cX10_decree 58 = .ok (.lconst 0, 1) := by decide +kernel
theorem dX10_decree_59 : decode cX10_decree 59 = .ok (.putfield 120, 3) := by decide +kernel
theorem dX10_decree_62 : decode cX10_decree 62 = .ok (.aload_n 0, 1) := by decide +kernel
theorem dX10_decree_63 : decode cX10_decree 63 = .ok (.invokevirtual 102, 3) := by decide +kernel
theorem dX10_decree_66 : decode cX10_decree 66 = .ok (.iload_n 2, 1) := by decide +kernel
theorem dX10_decree_67 : decode cX10_decree 67 = .ok (.ireturn, 1) := by decide +kernel
set_option maxRecDepth 20000 in
theorem ggX10_swap_X10_isOrder : GoodIn wsX10_swap wsX10_isOrder := goodIn_r _ [7, 1, 33, 34, 35, 36, 37, 38, 39, 40, 41, 42, 43, 44, 45, 46, 47, 48, 49, 50, 51, 52, 53, 54] (by decide +kernel) (by decide +kernel)
set_option maxRecDepth 20000 in
theorem gX10_swap_X10_isOrder : GoodIn wsX10_swap (wsV RX10 128 RX10 yX10_isOrder wsX10_isOrder) := goodIn_app (goodIn_of _ (by decide +kernel)) ggX10_swap_X10_isOrder
set_option maxRecDepth 20000 in
theorem ggX10_swap_X0_reckon : GoodIn wsX10_swap wsX0_reckon := goodIn_r _ [12, 13, 14, 15, 16, 17, 18, 11, 19, 20, 21, 22, 23, 24, 25, 26, 27, 28, 29, 30, 31, 32, 46, 47, 48, 49, 50, 51, 52, 53, 54, 55, 56, 57, 58] (by decide +kernel) (by decide +kernel)
set_option maxRecDepth 20000 in
theorem gX10_swap_X0_reckon : GoodIn wsX10_swap (wsV RX10 340 RX0 yX0_reckon wsX0_reckon) := goodIn_app (goodIn_of _ (by decide +kernel)) ggX10_swap_X0_reckon
theorem dX10_swap_0 : decode cX10_swap 0 = .ok (.aload_n 0, 1) := by decide +kernel
theorem dX10_swap_1 : decode cX10_swap 1 = .ok (.iload_n 1, 1) := by decide +kernel
theorem dX10_swap_2 : decode cX10_swap 2 = .ok (.invokevirtual 128, 3) := by decide +kernel
theorem dX10_swap_5 : decode cX10_swap 5 = .ok (.ifCond .eq 11, 3) := by decide +kernel
theorem dX10_swap_8 : decode cX10_swap 8 = .ok (.aload_n 0, 1) := by decide +kernel
theorem dX10_swap_9 : decode cX10_swap 9 = .ok (.iload_n 2, 1) := by decide +kernel
theorem dX10_swap_10 : decode cX10_swap 10 = .ok (.invokevirtual 128, 3) := by decide +kernel
theorem dX10_swap_13 : decode cX10_swap 13 = .ok (.ifCond .ne 5, 3) := by decide +kernel
theorem dX10_swap_16 : decode cX10_swap 16 = .ok (.iconst 0, 1) := by decide +kernel
theorem dX10_swap_17 : decode cX10_swap 17 = .ok (.ireturn, 1) := by decide +kernel
theorem dX10_swap_18 : decode cX10_swap 18 = .ok (.iconst 0, 1) := by decide +kernel
theorem dX10_swap_19 : decode cX10_swap 19 = .ok (.istore_n 3, 1) := by decide +kernel
theorem dX10_swap_20 : decode cX10_swap 20 = .ok (.iload_n 3, 1) := by decide +kernel
theorem dX10_swap_21 : decode cX10_swap 21 = .ok (.bipush 12, 2) := by decide +kernel
theorem dX10_swap_23 : decode cX10_swap 23 = .ok (.if_icmp .ge 57, 3) := by decide +kernel
theorem dX10_swap_26 : decode cX10_swap 26 = .ok (.aload_n 0, 1) := by decide +kernel
theorem dX10_swap_27 : decode cX10_swap 27 = .ok (.getfield 26, 3) := by decide +kernel
theorem dX10_swap_30 : decode cX10_swap 30 = .ok (.getfield 131, 3) := by decide +kernel
theorem dX10_swap_33 : decode cX10_swap 33 = .ok (.iload_n 1, 1) := by decide +kernel
theorem dX10_swap_34 : decode cX10_swap 34 = .ok (.aaload, 1) := by decide +kernel
theorem dX10_swap_35 : decode cX10_swap 35 = .ok (.iload_n 3, 1) := by decide +kernel
theorem dX10_swap_36 : decode cX10_swap 36 = .ok (.iaload, 1) := by decide +kernel
theorem dX10_swap_37 : decode cX10_swap 37 = .ok (.istore 4, 2) := by decide +kernel
theorem dX10_swap_39 : decode cX10_swap 39 = .ok (.aload_n 0, 1) := by decide +kernel
theorem dX10_swap_40 : decode cX10_swap 40 = .ok (.getfield 26, 3) := by decide +kernel
theorem dX10_swap_43 : decode cX10_swap 43 = .ok (.getfield 131, 3) := by decide +kernel
theorem dX10_swap_46 : decode cX10_swap 46 = .ok (.iload_n 1, 1) := by decide +kernel
theorem dX10_swap_47 : decode cX10_swap 47 = .ok (.aaload, 1) := by decide +kernel
theorem dX10_swap_48 : decode cX10_swap 48 = .ok (.iload_n 3, 1) := by decide +kernel
theorem dX10_swap_49 : decode cX10_swap 49 = .ok (.aload_n 0, 1) := by decide +kernel
theorem dX10_swap_50 : decode cX10_swap 50 = .ok (.getfield 26, 3) := by decide +kernel
theorem dX10_swap_53 : decode cX10_swap 53 = .ok (.getfield 131, 3) := by decide +kernel
theorem dX10_swap_56 : decode cX10_swap 56 = .ok (.iload_n 2, 1) := by decide +kernel
theorem dX10_swap_57 : decode cX10_swap 57 = .ok (.aaload, 1) := by decide +kernel
theorem dX10_swap_58 : decode cX10_swap 58 = .ok (.iload_n 3, 1) := by decide +kernel
theorem dX10_swap_59 : decode cX10_swap 59 = .ok (.iaload, 1) := by decide +kernel
theorem dX10_swap_60 : decode cX10_swap 60 = .ok (.iastore, 1) := by decide +kernel
theorem dX10_swap_61 : decode cX10_swap 61 = .ok (.aload_n 0, 1) := by decide +kernel
theorem dX10_swap_62 : decode cX10_swap 62 = .ok (.getfield 26, 3) := by decide +kernel
theorem dX10_swap_65 : decode cX10_swap 65 = .ok (.getfield 131, 3) := by decide +kernel
theorem dX10_swap_68 : decode cX10_swap 68 = .ok (.iload_n 2, 1) := by decide +kernel
theorem dX10_swap_69 : decode cX10_swap 69 = .ok (.aaload, 1) := by decide +kernel
theorem dX10_swap_70 : decode cX10_swap 70 = .ok (.iload_n 3, 1) := by decide +kernel
theorem dX10_swap_71 : decode cX10_swap 71 = .ok (.iload 4, 2) := by decide +kernel
theorem dX10_swap_73 : decode cX10_swap 73 = .ok (.iastore, 1) := by decide +kernel
theorem dX10_swap_74 : decode cX10_swap 74 = .ok (.iinc 3 1, 3) := by decide +kernel
theorem dX10_swap_77 : decode cX10_swap 77 = .ok (.goto (-57), 3) := by decide +kernel
theorem dX10_swap_80 : decode cX10_swap 80 = .ok (.aload_n 0, 1) := by decide +kernel
theorem dX10_swap_81 : decode cX10_swap 81 = .ok (.getfield 44, 3) := by decide +kernel
theorem dX10_swap_84 : decode cX10_swap 84 = .ok (.aload_n 0, 1) := by decide +kernel
theorem dX10_swap_85 : decode cX10_swap 85 = .ok (.getfield 26, 3) := by decide +kernel
theorem dX10_swap_88 : decode cX10_swap 88 = .ok (.invokevirtual 340, 3) := by decide +kernel
theorem dX10_swap_91 : decode cX10_swap 91 = .ok (.iconst 1, 1) := by decide +kernel
theorem dX10_swap_92 : decode cX10_swap 92 = .ok (.ireturn, 1) := by decide +kernel
set_option maxRecDepth 20000 in
theorem ggX10_soonest_X0_firstOwnDay : GoodIn wsX10_soonest wsX0_firstOwnDay := goodIn_r _ [7, 8, 9, 6, 10, 11, 12, 13, 14, 15, 16, 17, 51, 52, 53, 54, 55, 56, 57, 58, 59] (by decide +kernel) (by decide +kernel)
set_option maxRecDepth 20000 in
theorem gX10_soonest_X0_firstOwnDay : GoodIn wsX10_soonest (va_wsS RX10 343 yX0_firstOwnDay wsX0_firstOwnDay) := goodIn_app (goodIn_of _ (by decide +kernel)) ggX10_soonest_X0_firstOwnDay
set_option maxRecDepth 20000 in
theorem ggX10_soonest_X5_tell_ : GoodIn wsX10_soonest wsX5_tell_ := goodIn_r _ [22, 23, 24, 25, 21, 26, 27, 28, 29, 30, 31, 32, 33, 34, 35, 36, 64, 65] (by decide +kernel) (by decide +kernel)
set_option maxRecDepth 20000 in
theorem gX10_soonest_X5_tell_ : GoodIn wsX10_soonest (wsV RX10 204 RX5 yX5_tell_ wsX5_tell_) := goodIn_app (goodIn_of _ (by decide +kernel)) ggX10_soonest_X5_tell_
set_option maxRecDepth 20000 in
theorem ggX10_soonest_X5_add : GoodIn wsX10_soonest wsX5_add := goodIn_r _ [35, 31, 36, 64, 65] (by decide +kernel) (by decide +kernel)
set_option maxRecDepth 20000 in
theorem gX10_soonest_X5_add : GoodIn wsX10_soonest (wsV RX10 251 RX5 yX5_add wsX5_add) := goodIn_app (goodIn_of _ (by decide +kernel)) ggX10_soonest_X5_add
theorem dX10_soonest_0 : decode cX10_soonest 0 = .ok (.aload_n 0, 1) := by decide +kernel
theorem dX10_soonest_1 : decode cX10_soonest 1 = .ok (.getfield 26, 3) := by decide +kernel
theorem dX10_soonest_4 : decode cX10_soonest 4 = .ok (.getfield 218, 3) := by decide +kernel
theorem dX10_soonest_7 : decode cX10_soonest 7 = .ok (.iconst 2, 1) := by decide +kernel
theorem dX10_soonest_8 : decode cX10_soonest 8 = .ok (.if_icmp .ge 5, 3) := by decide +kernel
theorem dX10_soonest_11 : decode cX10_soonest 11 = .ok (.iconst (-1), 1) := by decide +kernel
theorem dX10_soonest_12 : decode cX10_soonest 12 = .ok (.ireturn, 1) := by decide +kernel
theorem dX10_soonest_13 : decode cX10_soonest 13 = .ok (.sipush 421, 3) := by decide +kernel
theorem dX10_soonest_16 : decode cX10_soonest 16 = .ok (.istore_n 1, 1) := by decide +kernel
theorem dX10_soonest_17 : decode cX10_soonest 17 = .ok (.iconst 0, 1) := by decide +kernel
theorem dX10_soonest_18 : decode cX10_soonest 18 = .ok (.istore_n 2, 1) := by decide +kernel
theorem dX10_soonest_19 : decode cX10_soonest 19 = .ok (.iconst 0, 1) := by decide +kernel
theorem dX10_soonest_20 : decode cX10_soonest 20 = .ok (.istore_n 3, 1) := by decide +kernel
theorem dX10_soonest_21 : decode cX10_soonest 21 = .ok (.iconst 0, 1) := by decide +kernel
theorem dX10_soonest_22 : decode cX10_soonest 22 = .ok (.istore 4, 2) := by decide +kernel
theorem dX10_soonest_24 : decode cX10_soonest 24 = .ok (.iload 4, 2) := by decide +kernel
theorem dX10_soonest_26 : decode cX10_soonest 26 = .ok (.aload_n 0, 1) := by decide +kernel
theorem dX10_soonest_27 : decode cX10_soonest 27 = .ok (.getfield 26, 3) := by decide +kernel
theorem dX10_soonest_30 : decode cX10_soonest 30 = .ok (.getfield 218, 3) := by decide +kernel
theorem dX10_soonest_33 : decode cX10_soonest 33 = .ok (.if_icmp .ge 61, 3) := by decide +kernel
theorem dX10_soonest_36 : decode cX10_soonest 36 = .ok (.iload 4, 2) := by decide +kernel
theorem dX10_soonest_38 : decode cX10_soonest 38 = .ok (.iconst 1, 1) := by decide +kernel
theorem dX10_soonest_39 : decode cX10_soonest 39 = .ok (.iadd, 1) := by decide +kernel
theorem dX10_soonest_40 : decode cX10_soonest 40 = .ok (.istore 5, 2) := by decide +kernel
theorem dX10_soonest_42 : decode cX10_soonest 42 = .ok (.iload 5, 2) := by decide +kernel
theorem dX10_soonest_44 : decode cX10_soonest 44 = .ok (.aload_n 0, 1) := by decide +kernel
theorem dX10_soonest_45 : decode cX10_soonest 45 = .ok (.getfield 26, 3) := by decide +kernel
theorem dX10_soonest_48 : decode cX10_soonest 48 = .ok (.getfield 218, 3) := by decide +kernel
theorem dX10_soonest_51 : decode cX10_soonest 51 = .ok (.if_icmp .ge 37, 3) := by decide +kernel
theorem dX10_soonest_54 : decode cX10_soonest 54 = .ok (.aload_n 0, 1) := by decide +kernel
theorem dX10_soonest_55 : decode cX10_soonest 55 = .ok (.getfield 26, 3) := by decide +kernel
theorem dX10_soonest_58 : decode cX10_soonest 58 = .ok (.iload 4, 2) := by decide +kernel
theorem dX10_soonest_60 : decode cX10_soonest 60 = .ok (.iload 5, 2) := by decide +kernel
theorem dX10_soonest_62 : decode cX10_soonest 62 = .ok (.invokestatic 343, 3) := by decide +kernel
theorem dX10_soonest_65 : decode cX10_soonest 65 = .ok (.istore 6, 2) := by decide +kernel
theorem dX10_soonest_67 : decode cX10_soonest 67 = .ok (.iload 6, 2) := by decide +kernel
theorem dX10_soonest_69 : decode cX10_soonest 69 = .ok (.iload_n 1, 1) := by decide +kernel
theorem dX10_soonest_70 : decode cX10_soonest 70 = .ok (.if_icmp .ge 12, 3) := by decide +kernel
theorem dX10_soonest_73 : decode cX10_soonest 73 = .ok (.iload 6, 2) := by decide +kernel
theorem dX10_soonest_75 : decode cX10_soonest 75 = .ok (.istore_n 1, 1) := by decide +kernel
theorem dX10_soonest_76 : decode cX10_soonest 76 = .ok (.iload 4, 2) := by decide +kernel
theorem dX10_soonest_78 : decode cX10_soonest 78 = .ok (.istore_n 2, 1) := by decide +kernel
theorem dX10_soonest_79 : decode cX10_soonest 79 = .ok (.iload 5, 2) := by decide +kernel
theorem dX10_soonest_81 : decode cX10_soonest 81 = .ok (.istore_n 3, 1) := by decide +kernel
theorem dX10_soonest_82 : decode cX10_soonest 82 = .ok (.iinc 5 1, 3) := by decide +kernel
theorem dX10_soonest_85 : decode cX10_soonest 85 = .ok (.goto (-43), 3) := by decide +kernel
theorem dX10_soonest_88 : decode cX10_soonest 88 = .ok (.iinc 4 1, 3) := by decide +kernel
theorem dX10_soonest_91 : decode cX10_soonest 91 = .ok (.goto (-67), 3) := by decide +kernel
theorem dX10_soonest_94 : decode cX10_soonest 94 = .ok (.aload_n 0, 1) := by decide +kernel
theorem dX10_soonest_95 : decode cX10_soonest 95 = .ok (.getfield 19, 3) := by decide +kernel
theorem dX10_soonest_98 : decode cX10_soonest 98 = .ok (.iload_n 2, 1) := by decide +kernel
theorem dX10_soonest_99 : decode cX10_soonest 99 = .ok (.i2l, 1) := by decide +kernel
theorem dX10_soonest_100 : decode cX10_soonest 100 = .ok (.iload_n 3, 1) := by decide +kernel
theorem dX10_soonest_101 : decode cX10_soonest 101 = .ok (.i2l, 1) := by decide +kernel
theorem dX10_soonest_102 : decode cX10_soonest 102 = .ok (.invokevirtual 204, 3) := by decide +kernel
theorem dX10_soonest_105 : decode cX10_soonest 105 = .ok (.aload_n 0, 1) := by decide +kernel
theorem dX10_soonest_106 : decode cX10_soonest 106 = .ok (.getfield 19, 3) := by decide +kernel
theorem dX10_soonest_109 : decode cX10_soonest 109 = .ok (.aload_n 0, 1) := by decide +kernel
theorem dX10_soonest_110 : decode cX10_soonest 110 = .ok (.getfield 44, 3) := by decide +kernel
theorem dX10_soonest_113 : decode cX10_soonest 113 = .ok (.getfield 178, 3) := by decide +kernel
theorem dX10_soonest_116 : decode cX10_soonest 116 = .ok (.i2l, 1) := by decide +kernel
theorem dX10_soonest_117 : decode cX10_soonest 117 = .ok (.invokevirtual 251, 3) := by decide +kernel
theorem dX10_soonest_120 : decode cX10_soonest 120 = .ok (.iload_n 1, 1) := by decide +kernel
theorem dX10_soonest_121 : decode cX10_soonest 121 = .ok (.ireturn, 1) := by decide +kernel
set_option maxRecDepth 20000 in
theorem ggX10_keep_X1_copyFrom : GoodIn wsX10_keep wsX1_copyFrom := goodIn_r _ [7, 8, 9, 10, 11, 12, 13, 14, 15, 16, 17, 18, 19, 33, 34, 35, 36, 37, 38, 39, 40, 41] (by decide +kernel) (by decide +kernel)
set_option maxRecDepth 20000 in
theorem gX10_keep_X1_copyFrom : GoodIn wsX10_keep (wsV RX10 346 RX1 yX1_copyFrom wsX1_copyFrom) := goodIn_app (goodIn_of _ (by decide +kernel)) ggX10_keep_X1_copyFrom
theorem dX10_keep_0 : decode cX10_keep 0 = .ok (.iload_n 1, 1) := by decide +kernel
theorem dX10_keep_1 : decode cX10_keep 1 = .ok (.ifCond .lt 12, 3) := by decide +kernel
theorem dX10_keep_4 : decode cX10_keep 4 = .ok (.iload_n 1, 1) := by decide +kernel
theorem dX10_keep_5 : decode cX10_keep 5 = .ok (.aload_n 0, 1) := by decide +kernel
theorem dX10_keep_6 : decode cX10_keep 6 = .ok (.getfield 30, 3) := by decide +kernel
theorem dX10_keep_9 : decode cX10_keep 9 = .ok (.arraylength, 1) := by decide +kernel
theorem dX10_keep_10 : decode cX10_keep 10 = .ok (.if_icmp .lt 5, 3) := by decide +kernel
theorem dX10_keep_13 : decode cX10_keep 13 = .ok (.iconst 0, 1) := by decide +kernel
theorem dX10_keep_14 : decode cX10_keep 14 = .ok (.ireturn, 1) := by decide +kernel
theorem dX10_keep_15 : decode cX10_keep 15 = .ok (.aload_n 0, 1) := by decide +kernel
theorem dX10_keep_16 : decode cX10_keep 16 = .ok (.getfield 30, 3) := by decide +kernel
theorem dX10_keep_19 : decode cX10_keep 19 = .ok (.iload_n 1, 1) := by decide +kernel
theorem dX10_keep_20 : decode cX10_keep 20 = .ok (.aaload, 1) := by decide +kernel
theorem dX10_keep_21 : decode cX10_keep 21 = .ok (.aload_n 0, 1) := by decide +kernel
theorem dX10_keep_22 : decode cX10_keep 22 = .ok (.getfield 26, 3) := by decide +kernel
theorem dX10_keep_25 : decode cX10_keep 25 = .ok (.invokevirtual 346, 3) := by decide +kernel
theorem dX10_keep_28 : decode cX10_keep 28 = .ok (.aload_n 0, 1) := by decide +kernel
theorem dX10_keep_29 : decode cX10_keep 29 = .ok (.getfield 30, 3) := by decide +kernel
theorem dX10_keep_32 : decode cX10_keep 32 = .ok (.iload_n 1, 1) := by decide +kernel
theorem dX10_keep_33 : decode cX10_keep 33 = .ok (.aaload, 1) := by decide +kernel
theorem dX10_keep_34 : decode cX10_keep 34 = .ok (.iconst 1, 1) := by decide +kernel
theorem dX10_keep_35 : decode cX10_keep 35 = .ok (.putfield 349, 3) := by decide +kernel
theorem dX10_keep_38 : decode cX10_keep 38 = .ok (.iconst 1, 1) := by decide +kernel
theorem dX10_keep_39 : decode cX10_keep 39 = .ok (.ireturn, 1) := by decide +kernel
set_option maxRecDepth 20000 in
theorem ggX10_again_X1_copyFrom : GoodIn wsX10_again wsX1_copyFrom := goodIn_r _ [7, 8, 9, 10, 11, 12, 13, 14, 15, 16, 17, 18, 19, 85, 86, 87, 88, 89, 90, 91, 92, 93] (by decide +kernel) (by decide +kernel)
set_option maxRecDepth 20000 in
theorem gX10_again_X1_copyFrom : GoodIn wsX10_again (wsV RX10 346 RX1 yX1_copyFrom wsX1_copyFrom) := goodIn_app (goodIn_of _ (by decide +kernel)) ggX10_again_X1_copyFrom
set_option maxRecDepth 20000 in
theorem ggX10_again_X10_reckonAnew : GoodIn wsX10_again wsX10_reckonAnew := goodIn_r _ [24, 25, 2, 26, 27, 28, 29, 30, 31, 32, 33, 34, 35, 36, 37, 38, 39, 40, 41, 42, 43, 44, 45, 46, 47, 48, 49, 50, 51, 52, 53, 54, 55, 56, 57, 58, 59, 60, 61, 62, 63, 64, 65, 66, 67, 68, 69, 70, 71, 72, 73, 74, 75, 76, 77, 78, 79, 80, 81, 82, 83, 84, 85, 86, 87, 88, 89, 90, 91, 92, 93, 94, 95, 96, 97, 98, 99, 100] (by decide +kernel) (by decide +kernel)
set_option maxRecDepth 20000 in
theorem gX10_again_X10_reckonAnew : GoodIn wsX10_again (wsV RX10 102 RX10 yX10_reckonAnew wsX10_reckonAnew) := goodIn_app (goodIn_of _ (by decide +kernel)) ggX10_again_X10_reckonAnew
theorem dX10_again_0 : decode cX10_again 0 = .ok (.iload_n 1, 1) := by decide +kernel
theorem dX10_again_1 : decode cX10_again 1 = .ok (.ifCond .lt 12, 3) := by decide +kernel
theorem dX10_again_4 : decode cX10_again 4 = .ok (.iload_n 1, 1) := by decide +kernel
theorem dX10_again_5 : decode cX10_again 5 = .ok (.aload_n 0, 1) := by decide +kernel
theorem dX10_again_6 : decode cX10_again 6 = .ok (.getfield 30, 3) := by decide +kernel
theorem dX10_again_9 : decode cX10_again 9 = .ok (.arraylength, 1) := by decide +kernel
theorem dX10_again_10 : decode cX10_again 10 = .ok (.if_icmp .lt 5, 3) := by decide +kernel
theorem dX10_again_13 : decode cX10_again 13 = .ok (.iconst 0, 1) := by decide +kernel
theorem dX10_again_14 : decode cX10_again 14 = .ok (.ireturn, 1) := by decide +kernel
theorem dX10_again_15 : decode cX10_again 15 = .ok (.aload_n 0, 1) := by decide +kernel
theorem dX10_again_16 : decode cX10_again 16 = .ok (.getfield 30, 3) := by decide +kernel
theorem dX10_again_19 : decode cX10_again 19 = .ok (.iload_n 1, 1) := by decide +kernel
theorem dX10_again_20 : decode cX10_again 20 = .ok (.aaload, 1) := by decide +kernel
theorem dX10_again_21 : decode cX10_again 21 = .ok (.astore_n 2, 1) := by decide +kernel
theorem dX10_again_22 : decode cX10_again 22 = .ok (.aload_n 2, 1) := by decide +kernel
theorem dX10_again_23 : decode cX10_again 23 = .ok (.getfield 349, 3) := by decide +kernel
theorem dX10_again_26 : decode cX10_again 26 = .ok (.ifCond .eq 17, 3) := by decide +kernel
theorem dX10_again_29 : decode cX10_again 29 = .ok (.aload_n 2, 1) := by decide +kernel
theorem dX10_again_30 : decode cX10_again 30 = .ok (.getfield 135, 3) := by decide +kernel
theorem dX10_again_33 : decode cX10_again 33 = .ok (.aload_n 0, 1) := by decide +kernel
theorem dX10_again_34 : decode cX10_again 34 = .ok (.getfield 26, 3) := by decide +kernel
theorem dX10_again_37 : decode cX10_again 37 = .ok (.getfield 135, 3) := by decide +kernel
theorem dX10_again_40 : decode cX10_again 40 = .ok (.if_icmp .eq 5, 3) := by decide +kernel
theorem dX10_again_43 : decode cX10_again 43 = .ok (.iconst 0, 1) := by decide +kernel
theorem dX10_again_44 : decode cX10_again 44 = .ok (.ireturn, 1) := by decide +kernel
theorem dX10_again_45 : decode cX10_again 45 = .ok (.aload_n 0, 1) := by decide +kernel
theorem dX10_again_46 : decode cX10_again 46 = .ok (.getfield 26, 3) := by decide +kernel
theorem dX10_again_49 : decode cX10_again 49 = .ok (.aload_n 2, 1) := by decide +kernel
theorem dX10_again_50 : decode cX10_again 50 = .ok (.invokevirtual 346, 3) := by decide +kernel
theorem dX10_again_53 : decode cX10_again 53 = .ok (.aload_n 0, 1) := by decide +kernel
theorem dX10_again_54 : decode cX10_again 54 = .ok (.invokevirtual 102, 3) := by decide +kernel
theorem dX10_again_57 : decode cX10_again 57 = .ok (.iconst 1, 1) := by decide +kernel
theorem dX10_again_58 : decode cX10_again 58 = .ok (.ireturn, 1) := by decide +kernel
theorem dX10_count_0 : decode cX10_count 0 = .ok (.iload_n 1, 1) := by decide +kernel
theorem dX10_count_1 : decode cX10_count 1 = .ok (.tableswitch 87 0 5 #[39, 47, 55, 63, 71, 79], 39) := by decide +kernel
theorem dX10_count_40 : decode cX10_count 40 = .ok (.aload_n 0, 1) := by decide +kernel
theorem dX10_count_41 : decode cX10_count 41 = .ok (.getfield 26, 3) := by decide +kernel
theorem dX10_count_44 : decode cX10_count 44 = .ok (.getfield 135, 3) := by decide +kernel
theorem dX10_count_47 : decode cX10_count 47 = .ok (.ireturn, 1) := by decide +kernel
theorem dX10_count_48 : decode cX10_count 48 = .ok (.aload_n 0, 1) := by decide +kernel
theorem dX10_count_49 : decode cX10_count 49 = .ok (.getfield 26, 3) := by decide +kernel
theorem dX10_count_52 : decode cX10_count 52 = .ok (.getfield 218, 3) := by decide +kernel
theorem dX10_count_55 : decode cX10_count 55 = .ok (.ireturn, 1) := by decide +kernel
theorem dX10_count_56 : decode cX10_count 56 = .ok (.aload_n 0, 1) := by decide +kernel
theorem dX10_count_57 : decode cX10_count 57 = .ok (.getfield 26, 3) := by decide +kernel
theorem dX10_count_60 : decode cX10_count 60 = .ok (.getfield 191, 3) := by decide +kernel
theorem dX10_count_63 : decode cX10_count 63 = .ok (.ireturn, 1) := by decide +kernel
theorem dX10_count_64 : decode cX10_count 64 = .ok (.aload_n 0, 1) := by decide +kernel
theorem dX10_count_65 : decode cX10_count 65 = .ok (.getfield 65, 3) := by decide +kernel
theorem dX10_count_68 : decode cX10_count 68 = .ok (.getfield 312, 3) := by decide +kernel
theorem dX10_count_71 : decode cX10_count 71 = .ok (.ireturn, 1) := by decide +kernel
theorem dX10_count_72 : decode cX10_count 72 = .ok (.aload_n 0, 1) := by decide +kernel
theorem dX10_count_73 : decode cX10_count 73 = .ok (.getfield 19, 3) := by decide +kernel
theorem dX10_count_76 : decode cX10_count 76 = .ok (.getfield 353, 3) := by decide +kernel
theorem dX10_count_79 : decode cX10_count 79 = .ok (.ireturn, 1) := by decide +kernel
theorem dX10_count_80 : decode cX10_count 80 = .ok (.aload_n 0, 1) := by decide +kernel
theorem dX10_count_81 : decode cX10_count 81 = .ok (.getfield 10, 3) := by decide +kernel
theorem dX10_count_84 : decode cX10_count 84 = .ok (.getfield 354, 3) := by decide +kernel
theorem dX10_count_87 : decode cX10_count 87 = .ok (.ireturn, 1) := by decide +kernel
theorem dX10_count_88 : decode cX10_count 88 = .ok (.iconst (-1), 1) := by decide +kernel
theorem dX10_count_89 : decode cX10_count 89 = .ok (.ireturn, 1) := by decide +kernel
theorem dX10_today_0 : decode cX10_today 0 = .ok (.aload_n 0, 1) := by decide +kernel
theorem dX10_today_1 : decode cX10_today 1 = .ok (.getfield 26, 3) := by decide +kernel
theorem dX10_today_4 : decode cX10_today 4 = .ok (.getfield 120, 3) := by decide +kernel
theorem dX10_today_7 : decode cX10_today 7 = .ok (.lreturn, 1) := by decide +kernel
theorem dX10_isStreet_0 : decode cX10_isStreet 0 = .ok (.iload_n 1, 1) := by decide +kernel
theorem dX10_isStreet_1 : decode cX10_isStreet 1 = .ok (.ifCond .lt 18, 3) := by decide +kernel
theorem dX10_isStreet_4 : decode cX10_isStreet 4 = .ok (.iload_n 1, 1) := by decide +kernel
theorem dX10_isStreet_5 : decode cX10_isStreet 5 = .ok (.aload_n 0, 1) := by decide +kernel
theorem dX10_isStreet_6 : decode cX10_isStreet 6 = .ok (.getfield 26, 3) := by decide +kernel
theorem dX10_isStreet_9 : decode cX10_isStreet 9 = .ok (.getfield 135, 3) := by decide +kernel
theorem dX10_isStreet_12 : decode cX10_isStreet 12 = .ok (.if_icmp .ge 7, 3) := by decide +kernel
theorem dX10_isStreet_15 : decode cX10_isStreet 15 = .ok (.iconst 1, 1) := by decide +kernel
theorem dX10_isStreet_16 : decode cX10_isStreet 16 = .ok (.goto 4, 3) := by decide +kernel
theorem dX10_isStreet_19 : decode cX10_isStreet 19 = .ok (.iconst 0, 1) := by decide +kernel
theorem dX10_isStreet_20 : decode cX10_isStreet 20 = .ok (.ireturn, 1) := by decide +kernel
theorem dX10_isOrder_0 : decode cX10_isOrder 0 = .ok (.iload_n 1, 1) := by decide +kernel
theorem dX10_isOrder_1 : decode cX10_isOrder 1 = .ok (.ifCond .lt 18, 3) := by decide +kernel
theorem dX10_isOrder_4 : decode cX10_isOrder 4 = .ok (.iload_n 1, 1) := by decide +kernel
theorem dX10_isOrder_5 : decode cX10_isOrder 5 = .ok (.aload_n 0, 1) := by decide +kernel
theorem dX10_isOrder_6 : decode cX10_isOrder 6 = .ok (.getfield 26, 3) := by decide +kernel
theorem dX10_isOrder_9 : decode cX10_isOrder 9 = .ok (.getfield 218, 3) := by decide +kernel
theorem dX10_isOrder_12 : decode cX10_isOrder 12 = .ok (.if_icmp .ge 7, 3) := by decide +kernel
theorem dX10_isOrder_15 : decode cX10_isOrder 15 = .ok (.iconst 1, 1) := by decide +kernel
theorem dX10_isOrder_16 : decode cX10_isOrder 16 = .ok (.goto 4, 3) := by decide +kernel
theorem dX10_isOrder_19 : decode cX10_isOrder 19 = .ok (.iconst 0, 1) := by decide +kernel
theorem dX10_isOrder_20 : decode cX10_isOrder 20 = .ok (.ireturn, 1) := by decide +kernel
theorem dX10_isLetter_0 : decode cX10_isLetter 0 = .ok (.iload_n 1, 1) := by decide +kernel
theorem dX10_isLetter_1 : decode cX10_isLetter 1 = .ok (.ifCond .lt 18, 3) := by decide +kernel
theorem dX10_isLetter_4 : decode cX10_isLetter 4 = .ok (.iload_n 1, 1) := by decide +kernel
theorem dX10_isLetter_5 : decode cX10_isLetter 5 = .ok (.aload_n 0, 1) := by decide +kernel
theorem dX10_isLetter_6 : decode cX10_isLetter 6 = .ok (.getfield 26, 3) := by decide +kernel
theorem dX10_isLetter_9 : decode cX10_isLetter 9 = .ok (.getfield 191, 3) := by decide +kernel
theorem dX10_isLetter_12 : decode cX10_isLetter 12 = .ok (.if_icmp .ge 7, 3) := by decide +kernel
theorem dX10_isLetter_15 : decode cX10_isLetter 15 = .ok (.iconst 1, 1) := by decide +kernel
theorem dX10_isLetter_16 : decode cX10_isLetter 16 = .ok (.goto 4, 3) := by decide +kernel
theorem dX10_isLetter_19 : decode cX10_isLetter 19 = .ok (.iconst 0, 1) := by decide +kernel
theorem dX10_isLetter_20 : decode cX10_isLetter 20 = .ok (.ireturn, 1) := by decide +kernel
theorem dX10_isPlace_0 : decode cX10_isPlace 0 = .ok (.iload_n 0, 1) := by decide +kernel
theorem dX10_isPlace_1 : decode cX10_isPlace 1 = .ok (.ifCond .lt 13, 3) := by decide +kernel
theorem dX10_isPlace_4 : decode cX10_isPlace 4 = .ok (.iload_n 0, 1) := by decide +kernel
theorem dX10_isPlace_5 : decode cX10_isPlace 5 = .ok (.bipush 10, 2) := by decide +kernel
theorem dX10_isPlace_7 : decode cX10_isPlace 7 = .ok (.if_icmp .ge 7, 3) := by decide +kernel
theorem dX10_isPlace_10 : decode cX10_isPlace 10 = .ok (.iconst 1, 1) := by decide +kernel
theorem dX10_isPlace_11 : decode cX10_isPlace 11 = .ok (.goto 4, 3) := by decide +kernel
theorem dX10_isPlace_14 : decode cX10_isPlace 14 = .ok (.iconst 0, 1) := by decide +kernel
theorem dX10_isPlace_15 : decode cX10_isPlace 15 = .ok (.ireturn, 1) := by decide +kernel
theorem dX10_isDay_0 : decode cX10_isDay 0 = .ok (.lload_n 0, 1) := by decide +kernel
theorem dX10_isDay_1 : decode cX10_isDay 1 = .ok (.lconst 0, 1) := by decide +kernel
theorem dX10_isDay_2 : decode cX10_isDay 2 = .ok (.lcmp, 1) := by decide +kernel
theorem dX10_isDay_3 : decode cX10_isDay 3 = .ok (.ifCond .lt 15, 3) := by decide +kernel
theorem dX10_isDay_6 : decode cX10_isDay 6 = .ok (.lload_n 0, 1) := by decide +kernel
theorem dX10_isDay_7 : decode cX10_isDay 7 = .ok (.ldc2_w 153, 3) := by decide +kernel
theorem dX10_isDay_10 : decode cX10_isDay 10 = .ok (.lcmp, 1) := by decide +kernel
theorem dX10_isDay_11 : decode cX10_isDay 11 = .ok (.ifCond .gt 7, 3) := by decide +kernel
theorem dX10_isDay_14 : decode cX10_isDay 14 = .ok (.iconst 1, 1) := by decide +kernel
theorem dX10_isDay_15 : decode cX10_isDay 15 = .ok (.goto 4, 3) := by decide +kernel
theorem dX10_isDay_18 : decode cX10_isDay 18 = .ok (.iconst 0, 1) := by decide +kernel
theorem dX10_isDay_19 : decode cX10_isDay 19 = .ok (.ireturn, 1) := by decide +kernel
theorem dX10_isLate_0 : decode cX10_isLate 0 = .ok (.iload_n 0, 1) := by decide +kernel
theorem dX10_isLate_1 : decode cX10_isLate 1 = .ok (.ifCond .lt 13, 3) := by decide +kernel
theorem dX10_isLate_4 : decode cX10_isLate 4 = .ok (.iload_n 0, 1) := by decide +kernel
theorem dX10_isLate_5 : decode cX10_isLate 5 = .ok (.bipush 99, 2) := by decide +kernel
theorem dX10_isLate_7 : decode cX10_isLate 7 = .ok (.if_icmp .gt 7, 3) := by decide +kernel
theorem dX10_isLate_10 : decode cX10_isLate 10 = .ok (.iconst 1, 1) := by decide +kernel
theorem dX10_isLate_11 : decode cX10_isLate 11 = .ok (.goto 4, 3) := by decide +kernel
theorem dX10_isLate_14 : decode cX10_isLate 14 = .ok (.iconst 0, 1) := by decide +kernel
theorem dX10_isLate_15 : decode cX10_isLate 15 = .ok (.ireturn, 1) := by decide +kernel
set_option maxRecDepth 20000 in
theorem ggX10_isSpan_X10_isDay : GoodIn wsX10_isSpan wsX10_isDay := goodIn_r _ [4, 5] (by decide +kernel) (by decide +kernel)
set_option maxRecDepth 20000 in
theorem gX10_isSpan_X10_isDay : GoodIn wsX10_isSpan (va_wsS RX10 159 yX10_isDay wsX10_isDay) := goodIn_app (goodIn_of _ (by decide +kernel)) ggX10_isSpan_X10_isDay
theorem dX10_isSpan_0 : decode cX10_isSpan 0 = .ok (.lload_n 0, 1) := by decide +kernel
theorem dX10_isSpan_1 : decode cX10_isSpan 1 = .ok (.invokestatic 159, 3) := by decide +kernel
theorem dX10_isSpan_4 : decode cX10_isSpan 4 = .ok (.ifCond .eq 30, 3) := by decide +kernel
theorem dX10_isSpan_7 : decode cX10_isSpan 7 = .ok (.lload_n 2, 1) := by decide +kernel
theorem dX10_isSpan_8 : decode cX10_isSpan 8 = .ok (.invokestatic 159, 3) := by decide +kernel
theorem dX10_isSpan_11 : decode cX10_isSpan 11 = .ok (.ifCond .eq 23, 3) := by decide +kernel
theorem dX10_isSpan_14 : decode cX10_isSpan 14 = .ok (.lload_n 2, 1) := by decide +kernel
theorem dX10_isSpan_15 : decode cX10_isSpan 15 = .ok (.lload_n 0, 1) := by decide +kernel
theorem dX10_isSpan_16 : decode cX10_isSpan 16 = .ok (.lcmp, 1) := by decide +kernel
theorem dX10_isSpan_17 : decode cX10_isSpan 17 = .ok (.ifCond .lt 17, 3) := by decide +kernel
theorem dX10_isSpan_20 : decode cX10_isSpan 20 = .ok (.lload_n 2, 1) := by decide +kernel
theorem dX10_isSpan_21 : decode cX10_isSpan 21 = .ok (.lload_n 0, 1) := by decide +kernel
theorem dX10_isSpan_22 : decode cX10_isSpan 22 = .ok (.lsub, 1) := by decide +kernel
theorem dX10_isSpan_23 : decode cX10_isSpan 23 = .ok (.iload 4, 2) := by decide +kernel
theorem dX10_isSpan_25 : decode cX10_isSpan 25 = .ok (.i2l, 1) := by decide +kernel
theorem dX10_isSpan_26 : decode cX10_isSpan 26 = .ok (.lcmp, 1) := by decide +kernel
theorem dX10_isSpan_27 : decode cX10_isSpan 27 = .ok (.ifCond .ge 7, 3) := by decide +kernel
theorem dX10_isSpan_30 : decode cX10_isSpan 30 = .ok (.iconst 1, 1) := by decide +kernel
theorem dX10_isSpan_31 : decode cX10_isSpan 31 = .ok (.goto 4, 3) := by decide +kernel
theorem dX10_isSpan_34 : decode cX10_isSpan 34 = .ok (.iconst 0, 1) := by decide +kernel
theorem dX10_isSpan_35 : decode cX10_isSpan 35 = .ok (.ireturn, 1) := by decide +kernel
set_option maxRecDepth 20000 in
theorem ggX10_isChoice_J6_bitCount_0f7a4 : GoodIn wsX10_isChoice wsJ6_bitCount_0f7a4 := goodIn_r _ [4, 5, 6, 7] (by decide +kernel) (by decide +kernel)
set_option maxRecDepth 20000 in
theorem gX10_isChoice_J6_bitCount_0f7a4 : GoodIn wsX10_isChoice (va_wsS RX10 170 yJ6_bitCount_0f7a4 wsJ6_bitCount_0f7a4) := goodIn_app (goodIn_of _ (by decide +kernel)) ggX10_isChoice_J6_bitCount_0f7a4
theorem dX10_isChoice_0 : decode cX10_isChoice 0 = .ok (.iload_n 0, 1) := by decide +kernel
theorem dX10_isChoice_1 : decode cX10_isChoice 1 = .ok (.ifCond .le 21, 3) := by decide +kernel
theorem dX10_isChoice_4 : decode cX10_isChoice 4 = .ok (.iload_n 0, 1) := by decide +kernel
theorem dX10_isChoice_5 : decode cX10_isChoice 5 = .ok (.iload_n 1, 1) := by decide +kernel
theorem dX10_isChoice_6 : decode cX10_isChoice 6 = .ok (.iushr, 1) := by decide +kernel
theorem dX10_isChoice_7 : decode cX10_isChoice 7 = .ok (.ifCond .ne 15, 3) := by decide +kernel
theorem dX10_isChoice_10 : decode cX10_isChoice 10 = .ok (.iload_n 0, 1) := by decide +kernel
theorem dX10_isChoice_11 : decode cX10_isChoice 11 = .ok (.invokestatic 170, 3) := by decide +kernel
theorem dX10_isChoice_14 : decode cX10_isChoice 14 = .ok (.iload_n 2, 1) := by decide +kernel
theorem dX10_isChoice_15 : decode cX10_isChoice 15 = .ok (.if_icmp .gt 7, 3) := by decide +kernel
theorem dX10_isChoice_18 : decode cX10_isChoice 18 = .ok (.iconst 1, 1) := by decide +kernel
theorem dX10_isChoice_19 : decode cX10_isChoice 19 = .ok (.goto 4, 3) := by decide +kernel
theorem dX10_isChoice_22 : decode cX10_isChoice 22 = .ok (.iconst 0, 1) := by decide +kernel
theorem dX10_isChoice_23 : decode cX10_isChoice 23 = .ok (.ireturn, 1) := by decide +kernel
set_option maxRecDepth 20000 in
theorem ggX10_reckonAnew_X4_measure : GoodIn wsX10_reckonAnew wsX4_measure := goodIn_r _ [8, 9, 10, 11, 12, 13, 14, 15, 16, 17, 18, 7, 19, 20, 21, 22, 23, 62, 63, 64, 65, 66, 67, 68, 69, 70, 71, 72, 73] (by decide +kernel) (by decide +kernel)
set_option maxRecDepth 20000 in
theorem gX10_reckonAnew_X4_measure : GoodIn wsX10_reckonAnew (wsV RX10 143 RX4 yX4_measure wsX4_measure) := goodIn_app (goodIn_of _ (by decide +kernel)) ggX10_reckonAnew_X4_measure
set_option maxRecDepth 20000 in
theorem ggX10_reckonAnew_X0_reckon : GoodIn wsX10_reckonAnew wsX0_reckon := goodIn_r _ [28, 29, 30, 31, 32, 33, 34, 27, 35, 36, 37, 38, 39, 40, 41, 42, 43, 44, 45, 46, 47, 48, 62, 63, 64, 65, 66, 67, 68, 69, 70, 74, 75, 76, 77] (by decide +kernel) (by decide +kernel)
set_option maxRecDepth 20000 in
theorem gX10_reckonAnew_X0_reckon : GoodIn wsX10_reckonAnew (wsV RX10 340 RX0 yX0_reckon wsX0_reckon) := goodIn_app (goodIn_of _ (by decide +kernel)) ggX10_reckonAnew_X0_reckon
theorem dX10_reckonAnew_0 : decode cX10_reckonAnew 0 = .ok (.aload_n 0, 1) := by decide +kernel
theorem dX10_reckonAnew_1 : decode cX10_reckonAnew 1 = .ok (.getfield 37, 3) := by decide +kernel
theorem dX10_reckonAnew_4 : decode cX10_reckonAnew 4 = .ok (.aload_n 0, 1) := by decide +kernel
theorem dX10_reckonAnew_5 : decode cX10_reckonAnew 5 = .ok (.getfield 26, 3) := by decide +kernel
theorem dX10_reckonAnew_8 : decode cX10_reckonAnew 8 = .ok (.invokevirtual 143, 3) := by decide +kernel
theorem dX10_reckonAnew_11 : decode cX10_reckonAnew 11 = .ok (.aload_n 0, 1) := by decide +kernel
theorem dX10_reckonAnew_12 : decode cX10_reckonAnew 12 = .ok (.getfield 44, 3) := by decide +kernel
theorem dX10_reckonAnew_15 : decode cX10_reckonAnew 15 = .ok (.aload_n 0, 1) := by decide +kernel
theorem dX10_reckonAnew_16 : decode cX10_reckonAnew 16 = .ok (.getfield 26, 3) := by decide +kernel
theorem dX10_reckonAnew_19 : decode cX10_reckonAnew 19 = .ok (.invokevirtual 340, 3) := by decide +kernel
theorem dX10_reckonAnew_22 : decode cX10_reckonAnew 22 = .ok (.return_, 1) := by decide +kernel
theorem dX10_orderBehind_0 : decode cX10_orderBehind 0 = .ok (.aload_n 0, 1) := by decide +kernel
theorem dX10_orderBehind_1 : decode cX10_orderBehind 1 = .ok (.getfield 26, 3) := by decide +kernel
theorem dX10_orderBehind_4 : decode cX10_orderBehind 4 = .ok (.getfield 218, 3) := by decide +kernel
theorem dX10_orderBehind_7 : decode cX10_orderBehind 7 = .ok (.ifCond .le 17, 3) := by decide +kernel
theorem dX10_orderBehind_10 : decode cX10_orderBehind 10 = .ok (.lload_n 1, 1) := by decide +kernel
theorem dX10_orderBehind_11 : decode cX10_orderBehind 11 = .ok (.aload_n 0, 1) := by decide +kernel
theorem dX10_orderBehind_12 : decode cX10_orderBehind 12 = .ok (.getfield 26, 3) := by decide +kernel
theorem dX10_orderBehind_15 : decode cX10_orderBehind 15 = .ok (.getfield 218, 3) := by decide +kernel
theorem dX10_orderBehind_18 : decode cX10_orderBehind 18 = .ok (.i2l, 1) := by decide +kernel
theorem dX10_orderBehind_19 : decode cX10_orderBehind 19 = .ok (.lrem, 1) := by decide +kernel
theorem dX10_orderBehind_20 : decode cX10_orderBehind 20 = .ok (.l2i, 1) := by decide +kernel
theorem dX10_orderBehind_21 : decode cX10_orderBehind 21 = .ok (.goto 4, 3) := by decide +kernel
theorem dX10_orderBehind_24 : decode cX10_orderBehind 24 = .ok (.iconst 0, 1) := by decide +kernel
theorem dX10_orderBehind_25 : decode cX10_orderBehind 25 = .ok (.ireturn, 1) := by decide +kernel
set_option maxRecDepth 20000 in
theorem ggX10_chooseOrder_X2_ordersKeeping : GoodIn wsX10_chooseOrder wsX2_ordersKeeping := goodIn_r _ [7, 8, 9, 10, 6, 11, 12, 13, 14, 15, 16, 17, 18, 19, 20, 21, 22, 23, 24, 25, 26, 27, 28, 29, 30, 31, 32, 33, 34, 35, 36, 37, 38, 39, 40, 41, 42, 43, 44, 45, 46, 47, 48, 49, 50, 51, 52, 53, 54, 55, 69, 70, 71, 72, 73, 74, 75, 76] (by decide +kernel) (by decide +kernel)
set_option maxRecDepth 20000 in
theorem gX10_chooseOrder_X2_ordersKeeping : GoodIn wsX10_chooseOrder (wsV RX10 370 RX2 yX2_ordersKeeping wsX2_ordersKeeping) := goodIn_app (goodIn_of _ (by decide +kernel)) ggX10_chooseOrder_X2_ordersKeeping
theorem dX10_chooseOrder_0 : decode cX10_chooseOrder 0 = .ok (.iload_n 1, 1) := by decide +kernel
theorem dX10_chooseOrder_1 : decode cX10_chooseOrder 1 = .ok (.ifCond .lt 15, 3) := by decide +kernel
theorem dX10_chooseOrder_4 : decode cX10_chooseOrder 4 = .ok (.iload_n 1, 1) := by decide +kernel
theorem dX10_chooseOrder_5 : decode cX10_chooseOrder 5 = .ok (.aload_n 0, 1) := by decide +kernel
theorem dX10_chooseOrder_6 : decode cX10_chooseOrder 6 = .ok (.getfield 65, 3) := by decide +kernel
theorem dX10_chooseOrder_9 : decode cX10_chooseOrder 9 = .ok (.getfield 312, 3) := by decide +kernel
theorem dX10_chooseOrder_12 : decode cX10_chooseOrder 12 = .ok (.iushr, 1) := by decide +kernel
theorem dX10_chooseOrder_13 : decode cX10_chooseOrder 13 = .ok (.ifCond .eq 5, 3) := by decide +kernel
theorem dX10_chooseOrder_16 : decode cX10_chooseOrder 16 = .ok (.iconst (-1), 1) := by decide +kernel
theorem dX10_chooseOrder_17 : decode cX10_chooseOrder 17 = .ok (.ireturn, 1) := by decide +kernel
theorem dX10_chooseOrder_18 : decode cX10_chooseOrder 18 = .ok (.aload_n 0, 1) := by decide +kernel
theorem dX10_chooseOrder_19 : decode cX10_chooseOrder 19 = .ok (.getfield 26, 3) := by decide +kernel
theorem dX10_chooseOrder_22 : decode cX10_chooseOrder 22 = .ok (.getfield 135, 3) := by decide +kernel
theorem dX10_chooseOrder_25 : decode cX10_chooseOrder 25 = .ok (.bipush 6, 2) := by decide +kernel
theorem dX10_chooseOrder_27 : decode cX10_chooseOrder 27 = .ok (.if_icmp .le 6, 3) := by decide +kernel
theorem dX10_chooseOrder_30 : decode cX10_chooseOrder 30 = .ok (.bipush (-3), 2) := by decide +kernel
theorem dX10_chooseOrder_32 : decode cX10_chooseOrder 32 = .ok (.ireturn, 1) := by decide +kernel
theorem dX10_chooseOrder_33 : decode cX10_chooseOrder 33 = .ok (.aload_n 0, 1) := by decide +kernel
theorem dX10_chooseOrder_34 : decode cX10_chooseOrder 34 = .ok (.getfield 65, 3) := by decide +kernel
theorem dX10_chooseOrder_37 : decode cX10_chooseOrder 37 = .ok (.aload_n 0, 1) := by decide +kernel
theorem dX10_chooseOrder_38 : decode cX10_chooseOrder 38 = .ok (.getfield 26, 3) := by decide +kernel
theorem dX10_chooseOrder_41 : decode cX10_chooseOrder 41 = .ok (.getfield 135, 3) := by decide +kernel
theorem dX10_chooseOrder_44 : decode cX10_chooseOrder 44 = .ok (.iload_n 1, 1) := by decide +kernel
theorem dX10_chooseOrder_45 : decode cX10_chooseOrder 45 = .ok (.invokevirtual 370, 3) := by decide +kernel
theorem dX10_chooseOrder_48 : decode cX10_chooseOrder 48 = .ok (.ireturn, 1) := by decide +kernel
set_option maxRecDepth 20000 in
theorem ggX10_tellFound_X5_clear : GoodIn wsX10_tellFound wsX5_clear := goodIn_r _ [7, 8, 35, 36] (by decide +kernel) (by decide +kernel)
set_option maxRecDepth 20000 in
theorem gX10_tellFound_X5_clear : GoodIn wsX10_tellFound (wsV RX10 248 RX5 yX5_clear wsX5_clear) := goodIn_app (goodIn_of _ (by decide +kernel)) ggX10_tellFound_X5_clear
set_option maxRecDepth 20000 in
theorem ggX10_tellFound_X5_add : GoodIn wsX10_tellFound wsX5_add := goodIn_r _ [12, 8, 13, 35, 36] (by decide +kernel) (by decide +kernel)
set_option maxRecDepth 20000 in
theorem gX10_tellFound_X5_add : GoodIn wsX10_tellFound (wsV RX10 251 RX5 yX5_add wsX5_add) := goodIn_app (goodIn_of _ (by decide +kernel)) ggX10_tellFound_X5_add
theorem dX10_tellFound_0 : decode cX10_tellFound 0 = .ok (.aload_n 0, 1) := by decide +kernel
theorem dX10_tellFound_1 : decode cX10_tellFound 1 = .ok (.getfield 19, 3) := by decide +kernel
theorem dX10_tellFound_4 : decode cX10_tellFound 4 = .ok (.invokevirtual 248, 3) := by decide +kernel
theorem dX10_tellFound_7 : decode cX10_tellFound 7 = .ok (.iconst 0, 1) := by decide +kernel
theorem dX10_tellFound_8 : decode cX10_tellFound 8 = .ok (.istore_n 1, 1) := by decide +kernel
theorem dX10_tellFound_9 : decode cX10_tellFound 9 = .ok (.iload_n 1, 1) := by decide +kernel
theorem dX10_tellFound_10 : decode cX10_tellFound 10 = .ok (.aload_n 0, 1) := by decide +kernel
theorem dX10_tellFound_11 : decode cX10_tellFound 11 = .ok (.getfield 65, 3) := by decide +kernel
theorem dX10_tellFound_14 : decode cX10_tellFound 14 = .ok (.getfield 331, 3) := by decide +kernel
theorem dX10_tellFound_17 : decode cX10_tellFound 17 = .ok (.if_icmp .ge 26, 3) := by decide +kernel
theorem dX10_tellFound_20 : decode cX10_tellFound 20 = .ok (.aload_n 0, 1) := by decide +kernel
theorem dX10_tellFound_21 : decode cX10_tellFound 21 = .ok (.getfield 19, 3) := by decide +kernel
theorem dX10_tellFound_24 : decode cX10_tellFound 24 = .ok (.aload_n 0, 1) := by decide +kernel
theorem dX10_tellFound_25 : decode cX10_tellFound 25 = .ok (.getfield 65, 3) := by decide +kernel
theorem dX10_tellFound_28 : decode cX10_tellFound 28 = .ok (.getfield 328, 3) := by decide +kernel
theorem dX10_tellFound_31 : decode cX10_tellFound 31 = .ok (.iload_n 1, 1) := by decide +kernel
theorem dX10_tellFound_32 : decode cX10_tellFound 32 = .ok (.iaload, 1) := by decide +kernel
theorem dX10_tellFound_33 : decode cX10_tellFound 33 = .ok (.i2l, 1) := by decide +kernel
theorem dX10_tellFound_34 : decode cX10_tellFound 34 = .ok (.invokevirtual 251, 3) := by decide +kernel
theorem dX10_tellFound_37 : decode cX10_tellFound 37 = .ok (.iinc 1 1, 3) := by decide +kernel
theorem dX10_tellFound_40 : decode cX10_tellFound 40 = .ok (.goto (-31), 3) := by decide +kernel
theorem dX10_tellFound_43 : decode cX10_tellFound 43 = .ok (.return_, 1) := by decide +kernel
theorem dX11_init_0 : decode cX11_init 0 = .ok (.aload_n 0, 1) := by decide +kernel
theorem dX11_init_1 : decode cX11_init 1 = .ok (.invokespecial 3, 3) := by decide +kernel
theorem dX11_init_4 : decode cX11_init 4 = .ok (.aload_n 0, 1) := by decide +kernel
theorem dX11_init_5 : decode cX11_init 5 = .ok (.bipush 12, 2) := by decide +kernel
theorem dX11_init_7 : decode cX11_init 7 = .ok (.newarray .int, 2) := by decide +kernel
theorem dX11_init_9 : decode cX11_init 9 = .ok (.putfield 9, 3) := by decide +kernel
theorem dX11_init_12 : decode cX11_init 12 = .ok (.aload_n 0, 1) := by decide +kernel
theorem dX11_init_13 : decode cX11_init 13 = .ok (.bipush 12, 2) := by decide +kernel
theorem dX11_init_15 : decode cX11_init 15 = .ok (.newarray .int, 2) := by decide +kernel
theorem dX11_init_17 : decode cX11_init 17 = .ok (.putfield 13, 3) := by decide +kernel
theorem dX11_init_20 : decode cX11_init 20 = .ok (.aload_n 0, 1) := by decide +kernel
theorem dX11_init_21 : decode cX11_init 21 = .ok (.bipush 12, 2) := by decide +kernel
theorem dX11_init_23 : decode cX11_init 23 = .ok (.newarray .int, 2) := by decide +kernel
theorem dX11_init_25 : decode cX11_init 25 = .ok (.putfield 16, 3) := by decide +kernel
theorem dX11_init_28 : decode cX11_init 28 = .ok (.aload_n 0, 1) := by decide +kernel
theorem dX11_init_29 : decode cX11_init 29 = .ok (.bipush 84, 2) := by decide +kernel
theorem dX11_init_31 : decode cX11_init 31 = .ok (.newarray .int, 2) := by decide +kernel
theorem dX11_init_33 : decode cX11_init 33 = .ok (.putfield 19, 3) := by decide +kernel
theorem dX11_init_36 : decode cX11_init 36 = .ok (.aload_n 0, 1) := by decide +kernel
theorem dX11_init_37 : decode cX11_init 37 = .ok (.bipush 12, 2) := by decide +kernel
theorem dX11_init_39 : decode cX11_init 39 = .ok (.newarray .int, 2) := by decide +kernel
theorem dX11_init_41 : decode cX11_init 41 = .ok (.putfield 22, 3) := by decide +kernel
theorem dX11_init_44 : decode cX11_init 44 = .ok (.aload_n 0, 1) := by decide +kernel
theorem dX11_init_45 : decode cX11_init 45 = .ok (.bipush 12, 2) := by decide +kernel
theorem dX11_init_47 : decode cX11_init 47 = .ok (.newarray .long, 2) := by decide +kernel
theorem dX11_init_49 : decode cX11_init 49 = .ok (.putfield 25, 3) := by decide +kernel
theorem dX11_init_52 : decode cX11_init 52 = .ok (.aload_n 0, 1) := by decide +kernel
theorem dX11_init_53 : decode cX11_init 53 = .ok (.bipush 6, 2) := by decide +kernel
theorem dX11_init_55 : decode cX11_init 55 = .ok (.newarray .int, 2) := by decide +kernel
theorem dX11_init_57 : decode cX11_init 57 = .ok (.putfield 29, 3) := by decide +kernel
theorem dX11_init_60 : decode cX11_init 60 = .ok (.aload_n 0, 1) := by decide +kernel
theorem dX11_init_61 : decode cX11_init 61 = .ok (.bipush 6, 2) := by decide +kernel
theorem dX11_init_63 : decode cX11_init 63 = .ok (.newarray .int, 2) := by decide +kernel
theorem dX11_init_65 : decode cX11_init 65 = .ok (.putfield 32, 3) := by decide +kernel
theorem dX11_init_68 : decode cX11_init 68 = .ok (.aload_n 0, 1) := by decide +kernel
theorem dX11_init_69 : decode cX11_init 69 = .ok (.bipush 6, 2) := by decide +kernel
theorem dX11_init_71 : decode cX11_init 71 = .ok (.newarray .int, 2) := by decide +kernel
theorem dX11_init_73 : decode cX11_init 73 = .ok (.putfield 35, 3) := by decide +kernel
theorem dX11_init_76 : decode cX11_init 76 = .ok (.aload_n 0, 1) := by decide +kernel
theorem dX11_init_77 : decode cX11_init 77 = .ok (.bipush 80, 2) := by decide +kernel
theorem dX11_init_79 : decode cX11_init 79 = .ok (.newarray .byte, 2) := by decide +kernel
theorem dX11_init_81 : decode cX11_init 81 = .ok (.putfield 38, 3) := by decide +kernel
theorem dX11_init_84 : decode cX11_init 84 = .ok (.aload_n 0, 1) := by decide +kernel
theorem dX11_init_85 : decode cX11_init 85 = .ok (.bipush 16, 2) := by decide +kernel
theorem dX11_init_87 : decode cX11_init 87 = .ok (.newarray .long, 2) := by decide +kernel
theorem dX11_init_89 : decode cX11_init 89 = .ok (.putfield 42, 3) := by decide +kernel
theorem dX11_init_92 : decode cX11_init 92 = .ok (.aload_n 0, 1) := by decide +kernel
theorem dX11_init_93 : decode cX11_init 93 = .ok (.bipush 100, 2) := by decide +kernel
theorem dX11_init_95 : decode cX11_init 95 = .ok (.newarray .int, 2) := by decide +kernel
theorem dX11_init_97 : decode cX11_init 97 = .ok (.putfield 45, 3) := by decide +kernel
theorem dX11_init_100 : decode cX11_init 100 = .ok (.aload_n 0, 1) := by decide +kernel
theorem dX11_init_101 : decode cX11_init 101 = .ok (.sipush 5052, 3) := by decide +kernel
theorem dX11_init_104 : decode cX11_init 104 = .ok (.newarray .int, 2) := by decide +kernel
theorem dX11_init_106 : decode cX11_init 106 = .ok (.putfield 48, 3) := by decide +kernel
theorem dX11_init_109 : decode cX11_init 109 = .ok (.aload_n 0, 1) := by decide +kernel
theorem dX11_init_110 : decode cX11_init 110 = .ok (.bipush 12, 2) := by decide +kernel
theorem dX11_init_112 : decode cX11_init 112 = .ok (.newarray .int, 2) := by decide +kernel
theorem dX11_init_114 : decode cX11_init 114 = .ok (.putfield 51, 3) := by decide +kernel
theorem dX11_init_117 : decode cX11_init 117 = .ok (.aload_n 0, 1) := by decide +kernel
theorem dX11_init_118 : decode cX11_init 118 = .ok (.bipush 12, 2) := by decide +kernel
theorem dX11_init_120 : decode cX11_init 120 = .ok (.newarray .int, 2) := by decide +kernel
theorem dX11_init_122 : decode cX11_init 122 = .ok (.putfield 54, 3) := by decide +kernel
theorem dX11_init_125 : decode cX11_init 125 = .ok (.aload_n 0, 1) := by decide +kernel
theorem dX11_init_126 : decode cX11_init 126 = .ok (.sipush 4320, 3) := by decide +kernel
theorem dX11_init_129 : decode cX11_init 129 = .ok (.newarray .int, 2) := by decide +kernel
theorem dX11_init_131 : decode cX11_init 131 = .ok (.putfield 57, 3) := by decide +kernel
theorem dX11_init_134 : decode cX11_init 134 = .ok (.aload_n 0, 1) := by decide +kernel
theorem dX11_init_135 : decode cX11_init 135 = .ok (.bipush 6, 2) := by decide +kernel
theorem dX11_init_137 : decode cX11_init 137 = .ok (.newarray .int, 2) := by decide +kernel
theorem dX11_init_139 : decode cX11_init 139 = .ok (.putfield 60, 3) := by decide +kernel
theorem dX11_init_142 : decode cX11_init 142 = .ok (.aload_n 0, 1) := by decide +kernel
theorem dX11_init_143 : decode cX11_init 143 = .ok (.bipush 12, 2) := by decide +kernel
theorem dX11_init_145 : decode cX11_init 145 = .ok (.newarray .int, 2) := by decide +kernel
theorem dX11_init_147 : decode cX11_init 147 = .ok (.putfield 63, 3) := by decide +kernel
theorem dX11_init_150 : decode cX11_init 150 = .ok (.aload_n 0, 1) := by decide +kernel
theorem dX11_init_151 : decode cX11_init 151 = .ok (.bipush 12, 2) := by decide +kernel
theorem dX11_init_153 : decode cX11_init 153 = .ok (.newarray .int, 2) := by decide +kernel
theorem dX11_init_155 : decode cX11_init 155 = .ok (.putfield 66, 3) := by decide +kernel
theorem dX11_init_158 : decode cX11_init 158 = .ok (.aload_n 0, 1) := by decide +kernel
theorem dX11_init_159 : decode cX11_init 159 = .ok (.bipush 12, 2) := by decide +kernel
theorem dX11_init_161 : decode cX11_init 161 = .ok (.newarray .int, 2) := by decide +kernel
theorem dX11_init_163 : decode cX11_init 163 = .ok (.putfield 69, 3) := by decide +kernel
theorem dX11_init_166 : decode cX11_init 166 = .ok (.aload_n 0, 1) := by decide +kernel
theorem dX11_init_167 : decode cX11_init 167 = .ok (.bipush 12, 2) := by decide +kernel
theorem dX11_init_169 : decode cX11_init 169 = .ok (.newarray .int, 2) := by decide +kernel
theorem dX11_init_171 : decode cX11_init 171 = .ok (.putfield 72, 3) := by decide +kernel
theorem dX11_init_174 : decode cX11_init 174 = .ok (.aload_n 0, 1) := by decide +kernel
theorem dX11_init_175 : decode cX11_init 175 = .ok (.bipush 40, 2) := by decide +kernel
theorem dX11_init_177 : decode cX11_init 177 = .ok (.newarray .byte, 2) := by decide +kernel
theorem dX11_init_179 : decode cX11_init 179 = .ok (.putfield 75, 3) := by decide +kernel
theorem dX11_init_182 : decode cX11_init 182 = .ok (.aload_n 0, 1) := by decide +kernel
theorem dX11_init_183 : decode cX11_init 183 = .ok (.iconst (-1), 1) := by decide +kernel
theorem dX11_init_184 : decode cX11_init 184 = .ok (.putfield 78, 3) := by decide +kernel
theorem dX11_init_187 : decode cX11_init 187 = .ok (.aload_n 0, 1) := by decide +kernel
theorem dX11_init_188 : decode cX11_init 188 = .ok (.sipush 720, 3) := by decide +kernel
theorem dX11_init_191 : decode cX11_init 191 = .ok (.newarray .int, 2) := by decide +kernel
theorem dX11_init_193 : decode cX11_init 193 = .ok (.putfield 82, 3) := by decide +kernel
theorem dX11_init_196 : decode cX11_init 196 = .ok (.aload_n 0, 1) := by decide +kernel
theorem dX11_init_197 : decode cX11_init 197 = .ok (.sipush 220, 3) := by decide +kernel
theorem dX11_init_200 : decode cX11_init 200 = .ok (.newarray .int, 2) := by decide +kernel
theorem dX11_init_202 : decode cX11_init 202 = .ok (.putfield 85, 3) := by decide +kernel
theorem dX11_init_205 : decode cX11_init 205 = .ok (.aload_n 0, 1) := by decide +kernel
theorem dX11_init_206 : decode cX11_init 206 = .ok (.bipush 26, 2) := by decide +kernel
theorem dX11_init_208 : decode cX11_init 208 = .ok (.newarray .long, 2) := by decide +kernel
theorem dX11_init_210 : decode cX11_init 210 = .ok (.putfield 88, 3) := by decide +kernel
theorem dX11_init_213 : decode cX11_init 213 = .ok (.aload_n 0, 1) := by decide +kernel
theorem dX11_init_214 : decode cX11_init 214 = .ok (.iconst 2, 1) := by decide +kernel
theorem dX11_init_215 : decode cX11_init 215 = .ok (.newarray .boolean, 2) := by decide +kernel
theorem dX11_init_217 : decode cX11_init 217 = .ok (.putfield 91, 3) := by decide +kernel
theorem dX11_init_220 : decode cX11_init 220 = .ok (.aload_n 0, 1) := by decide +kernel
theorem dX11_init_221 : decode cX11_init 221 = .ok (.iconst 2, 1) := by decide +kernel
theorem dX11_init_222 : decode cX11_init 222 = .ok (.newarray .int, 2) := by decide +kernel
theorem dX11_init_224 : decode cX11_init 224 = .ok (.putfield 95, 3) := by decide +kernel
theorem dX11_init_227 : decode cX11_init 227 = .ok (.iconst 0, 1) := by decide +kernel
theorem dX11_init_228 : decode cX11_init 228 = .ok (.istore_n 1, 1) := by decide +kernel
theorem dX11_init_229 : decode cX11_init 229 = .ok (.iload_n 1, 1) := by decide +kernel
theorem dX11_init_230 : decode cX11_init 230 = .ok (.bipush 84, 2) := by decide +kernel
theorem dX11_init_232 : decode cX11_init 232 = .ok (.if_icmp .ge 19, 3) := by decide +kernel
theorem dX11_init_235 : decode cX11_init 235 = .ok (.aload_n 0, 1) := by decide +kernel
theorem dX11_init_236 : decode cX11_init 236 = .ok (.getfield 19, 3) := by decide +kernel
theorem dX11_init_239 : decode cX11_init 239 = .ok (.iload_n 1, 1) := by decide +kernel
theorem dX11_init_240 : decode cX11_init 240 = .ok (.iload_n 1, 1) := by decide +kernel
theorem dX11_init_241 : decode cX11_init 241 = .ok (.bipush 12, 2) := by decide +kernel
theorem dX11_init_243 : decode cX11_init 243 = .ok (.irem, 1) := by decide +kernel
theorem dX11_init_244 : decode cX11_init 244 = .ok (.iastore, 1) := by decide +kernel
theorem dX11_init_245 : decode cX11_init 245 = .ok (.iinc 1 1, 3) := by decide +kernel
theorem dX11_init_248 : decode cX11_init 248 = .ok (.goto (-19), 3) := by decide +kernel
theorem dX11_init_251 : decode cX11_init 251 = .ok (.return_, 1) := by decide +kernel
theorem dX11_thrown_0 : decode cX11_thrown 0 = .ok (.aload_n 0, 1) := by decide +kernel
theorem dX11_thrown_1 : decode cX11_thrown 1 = .ok (.getfield 98, 3) := by decide +kernel
theorem dX11_thrown_4 : decode cX11_thrown 4 = .ok (.ireturn, 1) := by decide +kernel
theorem dX11_in_0 : decode cX11_in 0 = .ok (.lload_n 0, 1) := by decide +kernel
theorem dX11_in_1 : decode cX11_in 1 = .ok (.lload_n 2, 1) := by decide +kernel
theorem dX11_in_2 : decode cX11_in 2 = .ok (.lcmp, 1) := by decide +kernel
theorem dX11_in_3 : decode cX11_in 3 = .ok (.ifCond .lt 14, 3) := by decide +kernel
theorem dX11_in_6 : decode cX11_in 6 = .ok (.lload_n 0, 1) := by decide +kernel
theorem dX11_in_7 : decode cX11_in 7 = .ok (.lload 4, 2) := by decide +kernel
theorem dX11_in_9 : decode cX11_in 9 = .ok (.lcmp, 1) := by decide +kernel
theorem dX11_in_10 : decode cX11_in 10 = .ok (.ifCond .gt 7, 3) := by decide +kernel
theorem dX11_in_13 : decode cX11_in 13 = .ok (.iconst 1, 1) := by decide +kernel
theorem dX11_in_14 : decode cX11_in 14 = .ok (.goto 4, 3) := by decide +kernel
theorem dX11_in_17 : decode cX11_in 17 = .ok (.iconst 0, 1) := by decide +kernel
theorem dX11_in_18 : decode cX11_in 18 = .ok (.ireturn, 1) := by decide +kernel
theorem dX11_has_0 : decode cX11_has 0 = .ok (.iload_n 0, 1) := by decide +kernel
theorem dX11_has_1 : decode cX11_has 1 = .ok (.iload_n 1, 1) := by decide +kernel
theorem dX11_has_2 : decode cX11_has 2 = .ok (.ishr, 1) := by decide +kernel
theorem dX11_has_3 : decode cX11_has 3 = .ok (.iconst 1, 1) := by decide +kernel
theorem dX11_has_4 : decode cX11_has 4 = .ok (.iand, 1) := by decide +kernel
theorem dX11_has_5 : decode cX11_has 5 = .ok (.iconst 1, 1) := by decide +kernel
theorem dX11_has_6 : decode cX11_has 6 = .ok (.if_icmp .ne 7, 3) := by decide +kernel
theorem dX11_has_9 : decode cX11_has 9 = .ok (.iconst 1, 1) := by decide +kernel
theorem dX11_has_10 : decode cX11_has 10 = .ok (.goto 4, 3) := by decide +kernel
theorem dX11_has_13 : decode cX11_has 13 = .ok (.iconst 0, 1) := by decide +kernel
theorem dX11_has_14 : decode cX11_has 14 = .ok (.ireturn, 1) := by decide +kernel
theorem dX11_lost_0 : decode cX11_lost 0 = .ok (.aload_n 0, 1) := by decide +kernel
theorem dX11_lost_1 : decode cX11_lost 1 = .ok (.iconst 1, 1) := by decide +kernel
theorem dX11_lost_2 : decode cX11_lost 2 = .ok (.putfield 98, 3) := by decide +kernel
theorem dX11_lost_5 : decode cX11_lost 5 = .ok (.iconst 0, 1) := by decide +kernel
theorem dX11_lost_6 : decode cX11_lost 6 = .ok (.ireturn, 1) := by decide +kernel
theorem dX11_tell_0 : decode cX11_tell 0 = .ok (.aload_n 0, 1) := by decide +kernel
theorem dX11_tell_1 : decode cX11_tell 1 = .ok (.getfield 42, 3) := by decide +kernel
theorem dX11_tell_4 : decode cX11_tell 4 = .ok (.aload_n 0, 1) := by decide +kernel
theorem dX11_tell_5 : decode cX11_tell 5 = .ok (.getfield 101, 3) := by decide +kernel
theorem dX11_tell_8 : decode cX11_tell 8 = .ok (.lload_n 1, 1) := by decide +kernel
theorem dX11_tell_9 : decode cX11_tell 9 = .ok (.lastore, 1) := by decide +kernel
theorem dX11_tell_10 : decode cX11_tell 10 = .ok (.aload_n 0, 1) := by decide +kernel
theorem dX11_tell_11 : decode cX11_tell 11 = .ok (.dup, 1) := by decide +kernel
theorem dX11_tell_12 : decode cX11_tell 12 = .ok (.getfield 101, 3) := by decide +kernel
theorem dX11_tell_15 : decode cX11_tell 15 = .ok (.iconst 1, 1) := by decide +kernel
theorem dX11_tell_16 : decode cX11_tell 16 = .ok (.iadd, 1) := by decide +kernel
theorem dX11_tell_17 : decode cX11_tell 17 = .ok (.putfield 101, 3) := by decide +kernel
theorem dX11_tell_20 : decode cX11_tell 20 = .ok (.return_, 1) := by decide +kernel
set_option maxRecDepth 20000 in
theorem ggX11_isStreet_X11_in : GoodIn wsX11_isStreet wsX11_in := goodIn_r _ [5] (by decide +kernel) (by decide +kernel)
set_option maxRecDepth 20000 in
theorem gX11_isStreet_X11_in : GoodIn wsX11_isStreet (va_wsS RX11 107 yX11_in wsX11_in) := goodIn_app (goodIn_of _ (by decide +kernel)) ggX11_isStreet_X11_in
theorem dX11_isStreet_0 : decode cX11_isStreet 0 = .ok (.iload_n 1, 1) := by decide +kernel
theorem dX11_isStreet_1 : decode cX11_isStreet 1 = .ok (.i2l, 1) := by decide +kernel
theorem dX11_isStreet_2 : decode cX11_isStreet 2 = .ok (.lconst 0, 1) := by decide +kernel
theorem dX11_isStreet_3 : decode cX11_isStreet 3 = .ok (.aload_n 0, 1) := by decide +kernel
theorem dX11_isStreet_4 : decode cX11_isStreet 4 = .ok (.getfield 104, 3) := by decide +kernel
theorem dX11_isStreet_7 : decode cX11_isStreet 7 = .ok (.iconst 1, 1) := by decide +kernel
theorem dX11_isStreet_8 : decode cX11_isStreet 8 = .ok (.isub, 1) := by decide +kernel
theorem dX11_isStreet_9 : decode cX11_isStreet 9 = .ok (.i2l, 1) := by decide +kernel
theorem dX11_isStreet_10 : decode cX11_isStreet 10 = .ok (.invokestatic 107, 3) := by decide +kernel
theorem dX11_isStreet_13 : decode cX11_isStreet 13 = .ok (.ireturn, 1) := by decide +kernel
set_option maxRecDepth 20000 in
theorem ggX11_isOrder_X11_in : GoodIn wsX11_isOrder wsX11_in := goodIn_r _ [5] (by decide +kernel) (by decide +kernel)
set_option maxRecDepth 20000 in
theorem gX11_isOrder_X11_in : GoodIn wsX11_isOrder (va_wsS RX11 107 yX11_in wsX11_in) := goodIn_app (goodIn_of _ (by decide +kernel)) ggX11_isOrder_X11_in
theorem dX11_isOrder_0 : decode cX11_isOrder 0 = .ok (.iload_n 1, 1) := by decide +kernel
theorem dX11_isOrder_1 : decode cX11_isOrder 1 = .ok (.i2l, 1) := by decide +kernel
theorem dX11_isOrder_2 : decode cX11_isOrder 2 = .ok (.lconst 0, 1) := by decide +kernel
theorem dX11_isOrder_3 : decode cX11_isOrder 3 = .ok (.aload_n 0, 1) := by decide +kernel
theorem dX11_isOrder_4 : decode cX11_isOrder 4 = .ok (.getfield 111, 3) := by decide +kernel
theorem dX11_isOrder_7 : decode cX11_isOrder 7 = .ok (.iconst 1, 1) := by decide +kernel
theorem dX11_isOrder_8 : decode cX11_isOrder 8 = .ok (.isub, 1) := by decide +kernel
theorem dX11_isOrder_9 : decode cX11_isOrder 9 = .ok (.i2l, 1) := by decide +kernel
theorem dX11_isOrder_10 : decode cX11_isOrder 10 = .ok (.invokestatic 107, 3) := by decide +kernel
theorem dX11_isOrder_13 : decode cX11_isOrder 13 = .ok (.ireturn, 1) := by decide +kernel
set_option maxRecDepth 20000 in
theorem ggX11_isLetter_X11_in : GoodIn wsX11_isLetter wsX11_in := goodIn_r _ [5] (by decide +kernel) (by decide +kernel)
set_option maxRecDepth 20000 in
theorem gX11_isLetter_X11_in : GoodIn wsX11_isLetter (va_wsS RX11 107 yX11_in wsX11_in) := goodIn_app (goodIn_of _ (by decide +kernel)) ggX11_isLetter_X11_in
theorem dX11_isLetter_0 : decode cX11_isLetter 0 = .ok (.iload_n 1, 1) := by decide +kernel
theorem dX11_isLetter_1 : decode cX11_isLetter 1 = .ok (.i2l, 1) := by decide +kernel
theorem dX11_isLetter_2 : decode cX11_isLetter 2 = .ok (.lconst 0, 1) := by decide +kernel
theorem dX11_isLetter_3 : decode cX11_isLetter 3 = .ok (.aload_n 0, 1) := by decide +kernel
theorem dX11_isLetter_4 : decode cX11_isLetter 4 = .ok (.getfield 114, 3) := by decide +kernel
theorem dX11_isLetter_7 : decode cX11_isLetter 7 = .ok (.iconst 1, 1) := by decide +kernel
theorem dX11_isLetter_8 : decode cX11_isLetter 8 = .ok (.isub, 1) := by decide +kernel
theorem dX11_isLetter_9 : decode cX11_isLetter 9 = .ok (.i2l, 1) := by decide +kernel
theorem dX11_isLetter_10 : decode cX11_isLetter 10 = .ok (.invokestatic 107, 3) := by decide +kernel
theorem dX11_isLetter_13 : decode cX11_isLetter 13 = .ok (.ireturn, 1) := by decide +kernel
set_option maxRecDepth 20000 in
theorem ggX11_isPlace_X11_in : GoodIn wsX11_isPlace wsX11_in := goodIn_r _ [5] (by decide +kernel) (by decide +kernel)
set_option maxRecDepth 20000 in
theorem gX11_isPlace_X11_in : GoodIn wsX11_isPlace (va_wsS RX11 107 yX11_in wsX11_in) := goodIn_app (goodIn_of _ (by decide +kernel)) ggX11_isPlace_X11_in
theorem dX11_isPlace_0 : decode cX11_isPlace 0 = .ok (.iload_n 0, 1) := by decide +kernel
theorem dX11_isPlace_1 : decode cX11_isPlace 1 = .ok (.i2l, 1) := by decide +kernel
theorem dX11_isPlace_2 : decode cX11_isPlace 2 = .ok (.lconst 0, 1) := by decide +kernel
theorem dX11_isPlace_3 : decode cX11_isPlace 3 = .ok (.ldc2_w 117, 3) := by decide +kernel
theorem dX11_isPlace_6 : decode cX11_isPlace 6 = .ok (.invokestatic 107, 3) := by decide +kernel
theorem dX11_isPlace_9 : decode cX11_isPlace 9 = .ok (.ireturn, 1) := by decide +kernel
set_option maxRecDepth 20000 in
theorem ggX11_isDay_X11_in : GoodIn wsX11_isDay wsX11_in := goodIn_r _ [5] (by decide +kernel) (by decide +kernel)
set_option maxRecDepth 20000 in
theorem gX11_isDay_X11_in : GoodIn wsX11_isDay (va_wsS RX11 107 yX11_in wsX11_in) := goodIn_app (goodIn_of _ (by decide +kernel)) ggX11_isDay_X11_in
theorem dX11_isDay_0 : decode cX11_isDay 0 = .ok (.lload_n 0, 1) := by decide +kernel
theorem dX11_isDay_1 : decode cX11_isDay 1 = .ok (.lconst 0, 1) := by decide +kernel
theorem dX11_isDay_2 : decode cX11_isDay 2 = .ok (.ldc2_w 119, 3) := by decide +kernel
theorem dX11_isDay_5 : decode cX11_isDay 5 = .ok (.invokestatic 107, 3) := by decide +kernel
theorem dX11_isDay_8 : decode cX11_isDay 8 = .ok (.ireturn, 1) := by decide +kernel
theorem dX11_sign_0 : decode cX11_sign 0 = .ok (.aload_n 0, 1) := by decide +kernel
theorem dX11_sign_1 : decode cX11_sign 1 = .ok (.iconst 0, 1) := by decide +kernel
theorem dX11_sign_2 : decode cX11_sign 2 = .ok (.putfield 98, 3) := by decide +kernel
theorem dX11_sign_5 : decode cX11_sign 5 = .ok (.aload_n 0, 1) := by decide +kernel
theorem dX11_sign_6 : decode cX11_sign 6 = .ok (.getfield 121, 3) := by decide +kernel
theorem dX11_sign_9 : decode cX11_sign 9 = .ok (.iconst 4, 1) := by decide +kernel
theorem dX11_sign_10 : decode cX11_sign 10 = .ok (.iadd, 1) := by decide +kernel
theorem dX11_sign_11 : decode cX11_sign 11 = .ok (.bipush 80, 2) := by decide +kernel
theorem dX11_sign_13 : decode cX11_sign 13 = .ok (.if_icmp .le 5, 3) := by decide +kernel
theorem dX11_sign_16 : decode cX11_sign 16 = .ok (.iconst (-1), 1) := by decide +kernel
theorem dX11_sign_17 : decode cX11_sign 17 = .ok (.ireturn, 1) := by decide +kernel
theorem dX11_sign_18 : decode cX11_sign 18 = .ok (.iconst 3, 1) := by decide +kernel
theorem dX11_sign_19 : decode cX11_sign 19 = .ok (.istore_n 2, 1) := by decide +kernel
theorem dX11_sign_20 : decode cX11_sign 20 = .ok (.iload_n 2, 1) := by decide +kernel
theorem dX11_sign_21 : decode cX11_sign 21 = .ok (.ifCond .lt 32, 3) := by decide +kernel
theorem dX11_sign_24 : decode cX11_sign 24 = .ok (.aload_n 0, 1) := by decide +kernel
theorem dX11_sign_25 : decode cX11_sign 25 = .ok (.getfield 38, 3) := by decide +kernel
theorem dX11_sign_28 : decode cX11_sign 28 = .ok (.aload_n 0, 1) := by decide +kernel
theorem dX11_sign_29 : decode cX11_sign 29 = .ok (.dup, 1) := by decide +kernel
theorem dX11_sign_30 : decode cX11_sign 30 = .ok (.getfield 121, 3) := by decide +kernel
theorem dX11_sign_33 : decode cX11_sign 33 = .ok (.dup_x1, 1) := by decide +kernel
theorem dX11_sign_34 : decode cX11_sign 34 = .ok (.iconst 1, 1) := by decide +kernel
theorem dX11_sign_35 : decode cX11_sign 35 = .ok (.iadd, 1) := by decide +kernel
theorem dX11_sign_36 : decode cX11_sign 36 = .ok (.putfield 121, 3) := by decide +kernel
theorem dX11_sign_39 : decode cX11_sign 39 = .ok (.iload_n 1, 1) := by decide +kernel
theorem dX11_sign_40 : decode cX11_sign 40 = .ok (.bipush 8, 2) := by decide +kernel
theorem dX11_sign_42 : decode cX11_sign 42 = .ok (.iload_n 2, 1) := by decide +kernel
theorem dX11_sign_43 : decode cX11_sign 43 = .ok (.imul, 1) := by decide +kernel
theorem dX11_sign_44 : decode cX11_sign 44 = .ok (.ishr, 1) := by decide +kernel
theorem dX11_sign_45 : decode cX11_sign 45 = .ok (.i2b, 1) := by decide +kernel
theorem dX11_sign_46 : decode cX11_sign 46 = .ok (.bastore, 1) := by decide +kernel
theorem dX11_sign_47 : decode cX11_sign 47 = .ok (.iinc 2 (-1), 3) := by decide +kernel
theorem dX11_sign_50 : decode cX11_sign 50 = .ok (.goto (-30), 3) := by decide +kernel
theorem dX11_sign_53 : decode cX11_sign 53 = .ok (.aload_n 0, 1) := by decide +kernel
theorem dX11_sign_54 : decode cX11_sign 54 = .ok (.getfield 121, 3) := by decide +kernel
theorem dX11_sign_57 : decode cX11_sign 57 = .ok (.ireturn, 1) := by decide +kernel
set_option maxRecDepth 20000 in
theorem ggX11_end_X11_in : GoodIn wsX11_end wsX11_in := goodIn_r _ [6] (by decide +kernel) (by decide +kernel)
set_option maxRecDepth 20000 in
theorem gX11_end_X11_in : GoodIn wsX11_end (va_wsS RX11 107 yX11_in wsX11_in) := goodIn_app (goodIn_of _ (by decide +kernel)) ggX11_end_X11_in
theorem dX11_end_0 : decode cX11_end 0 = .ok (.aload_n 0, 1) := by decide +kernel
theorem dX11_end_1 : decode cX11_end 1 = .ok (.iconst 0, 1) := by decide +kernel
theorem dX11_end_2 : decode cX11_end 2 = .ok (.putfield 98, 3) := by decide +kernel
theorem dX11_end_5 : decode cX11_end 5 = .ok (.iload_n 1, 1) := by decide +kernel
theorem dX11_end_6 : decode cX11_end 6 = .ok (.i2l, 1) := by decide +kernel
theorem dX11_end_7 : decode cX11_end 7 = .ok (.lconst 0, 1) := by decide +kernel
theorem dX11_end_8 : decode cX11_end 8 = .ok (.aload_n 0, 1) := by decide +kernel
theorem dX11_end_9 : decode cX11_end 9 = .ok (.getfield 121, 3) := by decide +kernel
theorem dX11_end_12 : decode cX11_end 12 = .ok (.i2l, 1) := by decide +kernel
theorem dX11_end_13 : decode cX11_end 13 = .ok (.invokestatic 107, 3) := by decide +kernel
theorem dX11_end_16 : decode cX11_end 16 = .ok (.ifCond .ne 5, 3) := by decide +kernel
theorem dX11_end_19 : decode cX11_end 19 = .ok (.iconst 0, 1) := by decide +kernel
theorem dX11_end_20 : decode cX11_end 20 = .ok (.ireturn, 1) := by decide +kernel
theorem dX11_end_21 : decode cX11_end 21 = .ok (.aload_n 0, 1) := by decide +kernel
theorem dX11_end_22 : decode cX11_end 22 = .ok (.iload_n 1, 1) := by decide +kernel
theorem dX11_end_23 : decode cX11_end 23 = .ok (.putfield 121, 3) := by decide +kernel
theorem dX11_end_26 : decode cX11_end 26 = .ok (.iconst 1, 1) := by decide +kernel
theorem dX11_end_27 : decode cX11_end 27 = .ok (.ireturn, 1) := by decide +kernel
theorem dX11_begin_0 : decode cX11_begin 0 = .ok (.aload_n 0, 1) := by decide +kernel
theorem dX11_begin_1 : decode cX11_begin 1 = .ok (.aload_n 1, 1) := by decide +kernel
theorem dX11_begin_2 : decode cX11_begin 2 = .ok (.putfield 124, 3) := by decide +kernel
theorem dX11_begin_5 : decode cX11_begin 5 = .ok (.aload_n 0, 1) := by decide +kernel
theorem dX11_begin_6 : decode cX11_begin 6 = .ok (.iload_n 2, 1) := by decide +kernel
theorem dX11_begin_7 : decode cX11_begin 7 = .ok (.putfield 127, 3) := by decide +kernel
theorem dX11_begin_10 : decode cX11_begin 10 = .ok (.aload_n 0, 1) := by decide +kernel
theorem dX11_begin_11 : decode cX11_begin 11 = .ok (.iload_n 3, 1) := by decide +kernel
theorem dX11_begin_12 : decode cX11_begin 12 = .ok (.putfield 130, 3) := by decide +kernel
theorem dX11_begin_15 : decode cX11_begin 15 = .ok (.aload_n 0, 1) := by decide +kernel
theorem dX11_begin_16 : decode cX11_begin 16 = .ok (.iconst 0, 1) := by decide +kernel
theorem dX11_begin_17 : decode cX11_begin 17 = .ok (.putfield 133, 3) := by decide +kernel
theorem dX11_begin_20 : decode cX11_begin 20 = .ok (.aload_n 0, 1) := by decide +kernel
theorem dX11_begin_21 : decode cX11_begin 21 = .ok (.iconst (-1), 1) := by decide +kernel
theorem dX11_begin_22 : decode cX11_begin 22 = .ok (.putfield 136, 3) := by decide +kernel
theorem dX11_begin_25 : decode cX11_begin 25 = .ok (.return_, 1) := by decide +kernel
theorem dX11_here_0 : decode cX11_here 0 = .ok (.aload_n 0, 1) := by decide +kernel
theorem dX11_here_1 : decode cX11_here 1 = .ok (.getfield 133, 3) := by decide +kernel
theorem dX11_here_4 : decode cX11_here 4 = .ok (.aload_n 0, 1) := by decide +kernel
theorem dX11_here_5 : decode cX11_here 5 = .ok (.getfield 127, 3) := by decide +kernel
theorem dX11_here_8 : decode cX11_here 8 = .ok (.if_icmp .ge 26, 3) := by decide +kernel
theorem dX11_here_11 : decode cX11_here 11 = .ok (.aload_n 0, 1) := by decide +kernel
theorem dX11_here_12 : decode cX11_here 12 = .ok (.getfield 133, 3) := by decide +kernel
theorem dX11_here_15 : decode cX11_here 15 = .ok (.aload_n 0, 1) := by decide +kernel
theorem dX11_here_16 : decode cX11_here 16 = .ok (.getfield 130, 3) := by decide +kernel
theorem dX11_here_19 : decode cX11_here 19 = .ok (.if_icmp .ge 15, 3) := by decide +kernel
theorem dX11_here_22 : decode cX11_here 22 = .ok (.aload_n 0, 1) := by decide +kernel
theorem dX11_here_23 : decode cX11_here 23 = .ok (.getfield 124, 3) := by decide +kernel
theorem dX11_here_26 : decode cX11_here 26 = .ok (.aload_n 0, 1) := by decide +kernel
theorem dX11_here_27 : decode cX11_here 27 = .ok (.getfield 133, 3) := by decide +kernel
theorem dX11_here_30 : decode cX11_here 30 = .ok (.baload, 1) := by decide +kernel
theorem dX11_here_31 : decode cX11_here 31 = .ok (.goto 4, 3) := by decide +kernel
theorem dX11_here_34 : decode cX11_here 34 = .ok (.iconst (-1), 1) := by decide +kernel
theorem dX11_here_35 : decode cX11_here 35 = .ok (.ireturn, 1) := by decide +kernel
theorem dX11_fine_0 : decode cX11_fine 0 = .ok (.aload_n 0, 1) := by decide +kernel
theorem dX11_fine_1 : decode cX11_fine 1 = .ok (.getfield 136, 3) := by decide +kernel
theorem dX11_fine_4 : decode cX11_fine 4 = .ok (.iconst (-1), 1) := by decide +kernel
theorem dX11_fine_5 : decode cX11_fine 5 = .ok (.if_icmp .ne 7, 3) := by decide +kernel
theorem dX11_fine_8 : decode cX11_fine 8 = .ok (.iconst 1, 1) := by decide +kernel
theorem dX11_fine_9 : decode cX11_fine 9 = .ok (.goto 4, 3) := by decide +kernel
theorem dX11_fine_12 : decode cX11_fine 12 = .ok (.iconst 0, 1) := by decide +kernel
theorem dX11_fine_13 : decode cX11_fine 13 = .ok (.ireturn, 1) := by decide +kernel
set_option maxRecDepth 20000 in
theorem ggX11_fault_X11_fine : GoodIn wsX11_fault wsX11_fine := goodIn_r _ [6, 1, 7, 8, 9, 10, 11, 12, 13, 14, 15, 16, 17, 18, 19, 20, 21, 22, 23, 24, 25, 26, 27, 28, 29, 30, 31, 32, 33, 34, 35, 36, 37, 38, 39, 40, 41, 42, 43, 44, 45, 46, 47, 48, 49, 50, 51, 52, 53, 54, 55, 56, 57, 58, 59, 60, 61] (by decide +kernel) (by decide +kernel)
set_option maxRecDepth 20000 in
theorem gX11_fault_X11_fine : GoodIn wsX11_fault (wsV RX11 139 RX11 yX11_fine wsX11_fine) := goodIn_app (goodIn_of _ (by decide +kernel)) ggX11_fault_X11_fine
theorem dX11_fault_0 : decode cX11_fault 0 = .ok (.aload_n 0, 1) := by decide +kernel
theorem dX11_fault_1 : decode cX11_fault 1 = .ok (.invokevirtual 139, 3) := by decide +kernel
theorem dX11_fault_4 : decode cX11_fault 4 = .ok (.ifCond .eq 8, 3) := by decide +kernel
theorem dX11_fault_7 : decode cX11_fault 7 = .ok (.aload_n 0, 1) := by decide +kernel
theorem dX11_fault_8 : decode cX11_fault 8 = .ok (.iload_n 1, 1) := by decide +kernel
theorem dX11_fault_9 : decode cX11_fault 9 = .ok (.putfield 136, 3) := by decide +kernel
theorem dX11_fault_12 : decode cX11_fault 12 = .ok (.return_, 1) := by decide +kernel
set_option maxRecDepth 20000 in
theorem ggX11_passes_X11_fine : GoodIn wsX11_passes wsX11_fine := goodIn_r _ [6, 7, 15, 16, 17, 18, 19, 20, 21, 22, 23, 24, 25, 26, 27, 28, 29, 30, 31, 32, 33, 34, 35, 36, 37, 38, 39, 40, 41, 42, 43, 44, 45, 46, 47, 48, 49, 50, 51, 52, 53, 54, 55, 56, 57, 58, 59, 60, 61, 62, 63, 64, 65, 66, 67, 68, 69] (by decide +kernel) (by decide +kernel)
set_option maxRecDepth 20000 in
theorem gX11_passes_X11_fine : GoodIn wsX11_passes (wsV RX11 139 RX11 yX11_fine wsX11_fine) := goodIn_app (goodIn_of _ (by decide +kernel)) ggX11_passes_X11_fine
set_option maxRecDepth 20000 in
theorem ggX11_passes_X11_here : GoodIn wsX11_passes wsX11_here := goodIn_r _ [11, 1, 12, 13, 14, 15, 16, 17, 18, 19, 20, 21, 22, 23, 24, 25, 26, 27, 28, 29, 30, 31, 32, 33, 34, 35, 36, 37, 38, 39, 40, 41, 42, 43, 44, 45, 46, 47, 48, 49, 50, 51, 52, 53, 54, 55, 56, 57, 58, 59, 60, 61, 62, 63, 64, 65, 66, 67, 68, 69] (by decide +kernel) (by decide +kernel)
set_option maxRecDepth 20000 in
theorem gX11_passes_X11_here : GoodIn wsX11_passes (wsV RX11 143 RX11 yX11_here wsX11_here) := goodIn_app (goodIn_of _ (by decide +kernel)) ggX11_passes_X11_here
theorem dX11_passes_0 : decode cX11_passes 0 = .ok (.aload_n 0, 1) := by decide +kernel
theorem dX11_passes_1 : decode cX11_passes 1 = .ok (.invokevirtual 139, 3) := by decide +kernel
theorem dX11_passes_4 : decode cX11_passes 4 = .ok (.ifCond .eq 11, 3) := by decide +kernel
theorem dX11_passes_7 : decode cX11_passes 7 = .ok (.aload_n 0, 1) := by decide +kernel
theorem dX11_passes_8 : decode cX11_passes 8 = .ok (.invokevirtual 143, 3) := by decide +kernel
theorem dX11_passes_11 : decode cX11_passes 11 = .ok (.iload_n 1, 1) := by decide +kernel
theorem dX11_passes_12 : decode cX11_passes 12 = .ok (.if_icmp .eq 5, 3) := by decide +kernel
theorem dX11_passes_15 : decode cX11_passes 15 = .ok (.iconst 0, 1) := by decide +kernel
theorem dX11_passes_16 : decode cX11_passes 16 = .ok (.ireturn, 1) := by decide +kernel
theorem dX11_passes_17 : decode cX11_passes 17 = .ok (.aload_n 0, 1) := by decide +kernel
theorem dX11_passes_18 : decode cX11_passes 18 = .ok (.dup, 1) := by decide +kernel
theorem dX11_passes_19 : decode cX11_passes 19 = .ok (.getfield 133, 3) := by decide +kernel
theorem dX11_passes_22 : decode cX11_passes 22 = .ok (.iconst 1, 1) := by decide +kernel
theorem dX11_passes_23 : decode cX11_passes 23 = .ok (.iadd, 1) := by decide +kernel
theorem dX11_passes_24 : decode cX11_passes 24 = .ok (.putfield 133, 3) := by decide +kernel
theorem dX11_passes_27 : decode cX11_passes 27 = .ok (.iconst 1, 1) := by decide +kernel
theorem dX11_passes_28 : decode cX11_passes 28 = .ok (.ireturn, 1) := by decide +kernel
set_option maxRecDepth 20000 in
theorem ggX11_town_X11_begin : GoodIn wsX11_town wsX11_begin := goodIn_r _ [14, 15, 6, 16, 7, 9, 63, 64, 65, 66, 67, 68, 69, 70, 71, 72, 73, 74, 75, 76, 77, 78, 79, 80, 81, 82, 83, 84, 85, 86, 87, 88, 89, 90, 91, 92, 93, 94, 95, 96, 97, 98, 99, 100, 101, 102, 103, 104, 105, 106, 107, 108, 109, 110, 111, 112, 113, 114, 115, 116, 117] (by decide +kernel) (by decide +kernel)
set_option maxRecDepth 20000 in
theorem gX11_town_X11_begin : GoodIn wsX11_town (wsV RX11 159 RX11 yX11_begin wsX11_begin) := goodIn_app (goodIn_of _ (by decide +kernel)) ggX11_town_X11_begin
set_option maxRecDepth 20000 in
theorem ggX11_town_X11_fine : GoodIn wsX11_town wsX11_fine := goodIn_r _ [20, 9, 63, 64, 65, 66, 67, 68, 69, 70, 71, 72, 73, 74, 75, 76, 77, 78, 79, 80, 81, 82, 83, 84, 85, 86, 87, 88, 89, 90, 91, 92, 93, 94, 95, 96, 97, 98, 99, 100, 101, 102, 103, 104, 105, 106, 107, 108, 109, 110, 111, 112, 113, 114, 115, 116, 117] (by decide +kernel) (by decide +kernel)
set_option maxRecDepth 20000 in
theorem gX11_town_X11_fine : GoodIn wsX11_town (wsV RX11 139 RX11 yX11_fine wsX11_fine) := goodIn_app (goodIn_of _ (by decide +kernel)) ggX11_town_X11_fine
set_option maxRecDepth 20000 in
theorem ggX11_town_X11_here : GoodIn wsX11_town wsX11_here := goodIn_r _ [24, 7, 6, 16, 15, 63, 64, 65, 66, 67, 68, 69, 70, 71, 72, 73, 74, 75, 76, 77, 78, 79, 80, 81, 82, 83, 84, 85, 86, 87, 88, 89, 90, 91, 92, 93, 94, 95, 96, 97, 98, 99, 100, 101, 102, 103, 104, 105, 106, 107, 108, 109, 110, 111, 112, 113, 114, 115, 116, 117] (by decide +kernel) (by decide +kernel)
set_option maxRecDepth 20000 in
theorem gX11_town_X11_here : GoodIn wsX11_town (wsV RX11 143 RX11 yX11_here wsX11_here) := goodIn_app (goodIn_of _ (by decide +kernel)) ggX11_town_X11_here
set_option maxRecDepth 20000 in
theorem ggX11_town_X11_fault : GoodIn wsX11_town wsX11_fault := goodIn_r _ [28, 9, 17, 18, 19, 13, 20, 63, 64, 65, 66, 67, 68, 69, 70, 71, 72, 73, 74, 75, 76, 77, 78, 79, 80, 81, 82, 83, 84, 85, 86, 87, 88, 89, 90, 91, 92, 93, 94, 95, 96, 97, 98, 99, 100, 101, 102, 103, 104, 105, 106, 107, 108, 109, 110, 111, 112, 113, 114, 115, 116, 117] (by decide +kernel) (by decide +kernel)
set_option maxRecDepth 20000 in
theorem gX11_town_X11_fault : GoodIn wsX11_town (wsV RX11 151 RX11 yX11_fault wsX11_fault) := goodIn_app (goodIn_of _ (by decide +kernel)) ggX11_town_X11_fault
set_option maxRecDepth 20000 in
theorem ggX11_town_X11_passes : GoodIn wsX11_town wsX11_passes := goodIn_r _ [45, 7, 17, 18, 19, 13, 20, 9, 21, 22, 23, 24, 6, 16, 15, 63, 64, 65, 66, 67, 68, 69, 70, 71, 72, 73, 74, 75, 76, 77, 78, 79, 80, 81, 82, 83, 84, 85, 86, 87, 88, 89, 90, 91, 92, 93, 94, 95, 96, 97, 98, 99, 100, 101, 102, 103, 104, 105, 106, 107, 108, 109, 110, 111, 112, 113, 114, 115, 116, 117] (by decide +kernel) (by decide +kernel)
set_option maxRecDepth 20000 in
theorem gX11_town_X11_passes : GoodIn wsX11_town (wsV RX11 147 RX11 yX11_passes wsX11_passes) := goodIn_app (goodIn_of _ (by decide +kernel)) ggX11_town_X11_passes
theorem dX11_town_0 : decode cX11_town 0 = .ok (.aload_n 0, 1) := by decide +kernel
theorem dX11_town_1 : decode cX11_town 1 = .ok (.iconst 0, 1) := by decide +kernel
theorem dX11_town_2 : decode cX11_town 2 = .ok (.putfield 98, 3) := by decide +kernel
theorem dX11_town_5 : decode cX11_town 5 = .ok (.aload_n 0, 1) := by decide +kernel
theorem dX11_town_6 : decode cX11_town 6 = .ok (.aload_n 0, 1) := by decide +kernel
theorem dX11_town_7 : decode cX11_town 7 = .ok (.getfield 38, 3) := by decide +kernel
theorem dX11_town_10 : decode cX11_town 10 = .ok (.aload_n 0, 1) := by decide +kernel
theorem dX11_town_11 : decode cX11_town 11 = .ok (.getfield 121, 3) := by decide +kernel
theorem dX11_town_14 : decode cX11_town 14 = .ok (.bipush 76, 2) := by decide +kernel
theorem dX11_town_16 : decode cX11_town 16 = .ok (.invokevirtual 159, 3) := by decide +kernel
theorem dX11_town_19 : decode cX11_town 19 = .ok (.aload_n 0, 1) := by decide +kernel
theorem dX11_town_20 : decode cX11_town 20 = .ok (.iconst 0, 1) := by decide +kernel
theorem dX11_town_21 : decode cX11_town 21 = .ok (.putfield 121, 3) := by decide +kernel
theorem dX11_town_24 : decode cX11_town 24 = .ok (.aload_n 0, 1) := by decide +kernel
theorem dX11_town_25 : decode cX11_town 25 = .ok (.getfield 104, 3) := by decide +kernel
theorem dX11_town_28 : decode cX11_town 28 = .ok (.istore_n 1, 1) := by decide +kernel
theorem dX11_town_29 : decode cX11_town 29 = .ok (.aload_n 0, 1) := by decide +kernel
theorem dX11_town_30 : decode cX11_town 30 = .ok (.getfield 111, 3) := by decide +kernel
theorem dX11_town_33 : decode cX11_town 33 = .ok (.istore_n 2, 1) := by decide +kernel
theorem dX11_town_34 : decode cX11_town 34 = .ok (.iconst 0, 1) := by decide +kernel
theorem dX11_town_35 : decode cX11_town 35 = .ok (.istore_n 3, 1) := by decide +kernel
theorem dX11_town_36 : decode cX11_town 36 = .ok (.aload_n 0, 1) := by decide +kernel
theorem dX11_town_37 : decode cX11_town 37 = .ok (.getfield 127, 3) := by decide +kernel
theorem dX11_town_40 : decode cX11_town 40 = .ok (.ifCond .le 7, 3) := by decide +kernel
theorem dX11_town_43 : decode cX11_town 43 = .ok (.iconst 1, 1) := by decide +kernel
theorem dX11_town_44 : decode cX11_town 44 = .ok (.goto 4, 3) := by decide +kernel
theorem dX11_town_47 : decode cX11_town 47 = .ok (.iconst 0, 1) := by decide +kernel
theorem dX11_town_48 : decode cX11_town 48 = .ok (.istore 4, 2) := by decide +kernel
theorem dX11_town_50 : decode cX11_town 50 = .ok (.iload 4, 2) := by decide +kernel
theorem dX11_town_52 : decode cX11_town 52 = .ok (.ifCond .eq 84, 3) := by decide +kernel
theorem dX11_town_55 : decode cX11_town 55 = .ok (.aload_n 0, 1) := by decide +kernel
theorem dX11_town_56 : decode cX11_town 56 = .ok (.invokevirtual 139, 3) := by decide +kernel
theorem dX11_town_59 : decode cX11_town 59 = .ok (.ifCond .eq 77, 3) := by decide +kernel
theorem dX11_town_62 : decode cX11_town 62 = .ok (.aload_n 0, 1) := by decide +kernel
theorem dX11_town_63 : decode cX11_town 63 = .ok (.invokevirtual 143, 3) := by decide +kernel
theorem dX11_town_66 : decode cX11_town 66 = .ok (.bipush 111, 2) := by decide +kernel
theorem dX11_town_68 : decode cX11_town 68 = .ok (.if_icmp .ne 30, 3) := by decide +kernel
theorem dX11_town_71 : decode cX11_town 71 = .ok (.aload_n 0, 1) := by decide +kernel
theorem dX11_town_72 : decode cX11_town 72 = .ok (.getfield 111, 3) := by decide +kernel
theorem dX11_town_75 : decode cX11_town 75 = .ok (.bipush 7, 2) := by decide +kernel
theorem dX11_town_77 : decode cX11_town 77 = .ok (.if_icmp .ne 14, 3) := by decide +kernel
theorem dX11_town_80 : decode cX11_town 80 = .ok (.aload_n 0, 1) := by decide +kernel
theorem dX11_town_81 : decode cX11_town 81 = .ok (.aload_n 0, 1) := by decide +kernel
theorem dX11_town_82 : decode cX11_town 82 = .ok (.getfield 133, 3) := by decide +kernel
theorem dX11_town_85 : decode cX11_town 85 = .ok (.invokevirtual 151, 3) := by decide +kernel
theorem dX11_town_88 : decode cX11_town 88 = .ok (.goto 34, 3) := by decide +kernel
theorem dX11_town_91 : decode cX11_town 91 = .ok (.aload_n 0, 1) := by decide +kernel
theorem dX11_town_98 : decode cX11_town 98 = .ok (.aload_n 0, 1) := by decide +kernel
theorem dX11_town_99 : decode cX11_town 99 = .ok (.getfield 104, 3) := by decide +kernel
theorem dX11_town_102 : decode cX11_town 102 = .ok (.bipush 12, 2) := by decide +kernel
theorem dX11_town_104 : decode cX11_town 104 = .ok (.if_icmp .ne 14, 3) := by decide +kernel
theorem dX11_town_107 : decode cX11_town 107 = .ok (.aload_n 0, 1) := by decide +kernel
theorem dX11_town_108 : decode cX11_town 108 = .ok (.aload_n 0, 1) := by decide +kernel
theorem dX11_town_109 : decode cX11_town 109 = .ok (.getfield 133, 3) := by decide +kernel
theorem dX11_town_112 : decode cX11_town 112 = .ok (.invokevirtual 151, 3) := by decide +kernel
theorem dX11_town_115 : decode cX11_town 115 = .ok (.goto 7, 3) := by decide +kernel
theorem dX11_town_118 : decode cX11_town 118 = .ok (.aload_n 0, 1) := by decide +kernel
theorem dX11_town_122 : decode cX11_town 122 = .ok (.iinc 3 1, 3) := by decide +kernel
theorem dX11_town_125 : decode cX11_town 125 = .ok (.aload_n 0, 1) := by decide +kernel
theorem dX11_town_126 : decode cX11_town 126 = .ok (.bipush 59, 2) := by decide +kernel
theorem dX11_town_128 : decode cX11_town 128 = .ok (.invokevirtual 147, 3) := by decide +kernel
theorem dX11_town_131 : decode cX11_town 131 = .ok (.istore 4, 2) := by decide +kernel
theorem dX11_town_133 : decode cX11_town 133 = .ok (.goto (-83), 3) := by decide +kernel
theorem dX11_town_136 : decode cX11_town 136 = .ok (.aload_n 0, 1) := by decide +kernel
theorem dX11_town_137 : decode cX11_town 137 = .ok (.getfield 133, 3) := by decide +kernel
theorem dX11_town_140 : decode cX11_town 140 = .ok (.aload_n 0, 1) := by decide +kernel
theorem dX11_town_141 : decode cX11_town 141 = .ok (.getfield 127, 3) := by decide +kernel
theorem dX11_town_144 : decode cX11_town 144 = .ok (.if_icmp .ge 11, 3) := by decide +kernel
theorem dX11_town_147 : decode cX11_town 147 = .ok (.aload_n 0, 1) := by decide +kernel
theorem dX11_town_148 : decode cX11_town 148 = .ok (.aload_n 0, 1) := by decide +kernel
theorem dX11_town_149 : decode cX11_town 149 = .ok (.getfield 133, 3) := by decide +kernel
theorem dX11_town_152 : decode cX11_town 152 = .ok (.invokevirtual 151, 3) := by decide +kernel
theorem dX11_town_155 : decode cX11_town 155 = .ok (.aload_n 0, 1) := by decide +kernel
theorem dX11_town_156 : decode cX11_town 156 = .ok (.invokevirtual 139, 3) := by decide +kernel
theorem dX11_town_159 : decode cX11_town 159 = .ok (.ifCond .eq 23, 3) := by decide +kernel
theorem dX11_town_162 : decode cX11_town 162 = .ok (.aload_n 0, 1) := by decide +kernel
theorem dX11_town_163 : decode cX11_town 163 = .ok (.getfield 104, 3) := by decide +kernel
theorem dX11_town_166 : decode cX11_town 166 = .ok (.iload_n 1, 1) := by decide +kernel
theorem dX11_town_167 : decode cX11_town 167 = .ok (.if_icmp .le 13, 3) := by decide +kernel
theorem dX11_town_170 : decode cX11_town 170 = .ok (.aload_n 0, 1) := by decide +kernel
theorem dX11_town_171 : decode cX11_town 171 = .ok (.dup, 1) := by decide +kernel
theorem dX11_town_172 : decode cX11_town 172 = .ok (.getfield 169, 3) := by decide +kernel
theorem dX11_town_175 : decode cX11_town 175 = .ok (.iconst 1, 1) := by decide +kernel
theorem dX11_town_176 : decode cX11_town 176 = .ok (.iadd, 1) := by decide +kernel
theorem dX11_town_177 : decode cX11_town 177 = .ok (.putfield 169, 3) := by decide +kernel
theorem dX11_town_180 : decode cX11_town 180 = .ok (.iload_n 3, 1) := by decide +kernel
theorem dX11_town_181 : decode cX11_town 181 = .ok (.ireturn, 1) := by decide +kernel
theorem dX11_town_182 : decode cX11_town 182 = .ok (.aload_n 0, 1) := by decide +kernel
theorem dX11_town_183 : decode cX11_town 183 = .ok (.iload_n 1, 1) := by decide +kernel
theorem dX11_town_184 : decode cX11_town 184 = .ok (.putfield 104, 3) := by decide +kernel
theorem dX11_town_187 : decode cX11_town 187 = .ok (.aload_n 0, 1) := by decide +kernel
theorem dX11_town_188 : decode cX11_town 188 = .ok (.iload_n 2, 1) := by decide +kernel
theorem dX11_town_189 : decode cX11_town 189 = .ok (.putfield 111, 3) := by decide +kernel
theorem dX11_town_192 : decode cX11_town 192 = .ok (.iconst (-1), 1) := by decide +kernel
theorem dX11_town_193 : decode cX11_town 193 = .ok (.aload_n 0, 1) := by decide +kernel
theorem dX11_town_194 : decode cX11_town 194 = .ok (.getfield 136, 3) := by decide +kernel
theorem dX11_town_197 : decode cX11_town 197 = .ok (.isub, 1) := by decide +kernel
theorem dX11_town_198 : decode cX11_town 198 = .ok (.ireturn, 1) := by decide +kernel
set_option maxRecDepth 20000 in
theorem ggX11_street_X11_isStreet : GoodIn wsX11_street wsX11_isStreet := goodIn_r _ [11, 12, 13, 14, 10, 15, 36, 37, 38, 39, 40, 41, 42, 43, 44, 45, 46, 47, 48, 49, 50, 51, 52, 53, 54, 55, 56, 57, 58, 59, 60, 61, 62, 63, 64, 65, 66, 67, 68, 69, 70, 71, 72, 73, 74, 75, 76, 77, 78, 79, 80, 81, 82, 83, 84, 85, 86, 87, 88, 89, 90] (by decide +kernel) (by decide +kernel)
set_option maxRecDepth 20000 in
theorem gX11_street_X11_isStreet : GoodIn wsX11_street (wsV RX11 188 RX11 yX11_isStreet wsX11_isStreet) := goodIn_app (goodIn_of _ (by decide +kernel)) ggX11_street_X11_isStreet
set_option maxRecDepth 20000 in
theorem ggX11_street_X11_in : GoodIn wsX11_street wsX11_in := goodIn_r _ [15] (by decide +kernel) (by decide +kernel)
set_option maxRecDepth 20000 in
theorem gX11_street_X11_in : GoodIn wsX11_street (va_wsS RX11 107 yX11_in wsX11_in) := goodIn_app (goodIn_of _ (by decide +kernel)) ggX11_street_X11_in
set_option maxRecDepth 20000 in
theorem ggX11_street_X11_lost : GoodIn wsX11_street wsX11_lost := goodIn_r _ [19, 1, 36, 37, 38, 39, 40, 41, 42, 43, 44, 45, 46, 47, 48, 49, 50, 51, 52, 53, 54, 55, 56, 57, 58, 59, 60, 61, 62, 63, 64, 65, 66, 67, 68, 69, 70, 71, 72, 73, 74, 75, 76, 77, 78, 79, 80, 81, 82, 83, 84, 85, 86, 87, 88, 89, 90] (by decide +kernel) (by decide +kernel)
set_option maxRecDepth 20000 in
theorem gX11_street_X11_lost : GoodIn wsX11_street (wsV RX11 194 RX11 yX11_lost wsX11_lost) := goodIn_app (goodIn_of _ (by decide +kernel)) ggX11_street_X11_lost
theorem dX11_street_0 : decode cX11_street 0 = .ok (.aload_n 0, 1) := by decide +kernel
theorem dX11_street_1 : decode cX11_street 1 = .ok (.iconst 0, 1) := by decide +kernel
theorem dX11_street_2 : decode cX11_street 2 = .ok (.putfield 98, 3) := by decide +kernel
theorem dX11_street_5 : decode cX11_street 5 = .ok (.aload_n 0, 1) := by decide +kernel
theorem dX11_street_6 : decode cX11_street 6 = .ok (.iload_n 1, 1) := by decide +kernel
theorem dX11_street_7 : decode cX11_street 7 = .ok (.invokevirtual 188, 3) := by decide +kernel
theorem dX11_street_10 : decode cX11_street 10 = .ok (.ifCond .eq 15, 3) := by decide +kernel
theorem dX11_street_13 : decode cX11_street 13 = .ok (.iload_n 2, 1) := by decide +kernel
theorem dX11_street_14 : decode cX11_street 14 = .ok (.i2l, 1) := by decide +kernel
theorem dX11_street_15 : decode cX11_street 15 = .ok (.lconst 0, 1) := by decide +kernel
theorem dX11_street_16 : decode cX11_street 16 = .ok (.ldc2_w 192, 3) := by decide +kernel
theorem dX11_street_19 : decode cX11_street 19 = .ok (.invokestatic 107, 3) := by decide +kernel
theorem dX11_street_22 : decode cX11_street 22 = .ok (.ifCond .ne 8, 3) := by decide +kernel
theorem dX11_street_25 : decode cX11_street 25 = .ok (.aload_n 0, 1) := by decide +kernel
theorem dX11_street_26 : decode cX11_street 26 = .ok (.invokevirtual 194, 3) := by decide +kernel
theorem dX11_street_29 : decode cX11_street 29 = .ok (.ireturn, 1) := by decide +kernel
theorem dX11_street_30 : decode cX11_street 30 = .ok (.iload_n 2, 1) := by decide +kernel
theorem dX11_street_31 : decode cX11_street 31 = .ok (.ifCond .ne 12, 3) := by decide +kernel
theorem dX11_street_34 : decode cX11_street 34 = .ok (.aload_n 0, 1) := by decide +kernel
theorem dX11_street_35 : decode cX11_street 35 = .ok (.getfield 9, 3) := by decide +kernel
theorem dX11_street_38 : decode cX11_street 38 = .ok (.iload_n 1, 1) := by decide +kernel
theorem dX11_street_39 : decode cX11_street 39 = .ok (.iaload, 1) := by decide +kernel
theorem dX11_street_40 : decode cX11_street 40 = .ok (.goto 40, 3) := by decide +kernel
theorem dX11_street_43 : decode cX11_street 43 = .ok (.iload_n 2, 1) := by decide +kernel
theorem dX11_street_44 : decode cX11_street 44 = .ok (.iconst 1, 1) := by decide +kernel
theorem dX11_street_45 : decode cX11_street 45 = .ok (.if_icmp .ne 12, 3) := by decide +kernel
theorem dX11_street_48 : decode cX11_street 48 = .ok (.aload_n 0, 1) := by decide +kernel
theorem dX11_street_49 : decode cX11_street 49 = .ok (.getfield 13, 3) := by decide +kernel
theorem dX11_street_52 : decode cX11_street 52 = .ok (.iload_n 1, 1) := by decide +kernel
theorem dX11_street_53 : decode cX11_street 53 = .ok (.iaload, 1) := by decide +kernel
theorem dX11_street_54 : decode cX11_street 54 = .ok (.goto 26, 3) := by decide +kernel
theorem dX11_street_57 : decode cX11_street 57 = .ok (.iload_n 2, 1) := by decide +kernel
theorem dX11_street_58 : decode cX11_street 58 = .ok (.iconst 2, 1) := by decide +kernel
theorem dX11_street_59 : decode cX11_street 59 = .ok (.if_icmp .ne 12, 3) := by decide +kernel
theorem dX11_street_62 : decode cX11_street 62 = .ok (.aload_n 0, 1) := by decide +kernel
theorem dX11_street_63 : decode cX11_street 63 = .ok (.getfield 16, 3) := by decide +kernel
theorem dX11_street_66 : decode cX11_street 66 = .ok (.iload_n 1, 1) := by decide +kernel
theorem dX11_street_67 : decode cX11_street 67 = .ok (.iaload, 1) := by decide +kernel
theorem dX11_street_68 : decode cX11_street 68 = .ok (.goto 12, 3) := by decide +kernel
theorem dX11_street_71 : decode cX11_street 71 = .ok (.aload_n 0, 1) := by decide +kernel
theorem dX11_street_72 : decode cX11_street 72 = .ok (.iload_n 1, 1) := by decide +kernel
theorem dX11_street_73 : decode cX11_street 73 = .ok (.aload_n 0, 1) := by decide +kernel
theorem dX11_street_74 : decode cX11_street 74 = .ok (.getfield 197, 3) := by decide +kernel
theorem dX11_street_80 : decode cX11_street 80 = .ok (.ireturn, 1) := by decide +kernel
set_option maxRecDepth 20000 in
theorem ggX11_next_X11_isOrder : GoodIn wsX11_next wsX11_isOrder := goodIn_r _ [7, 8, 9, 10, 6, 11, 17, 18, 19, 20, 21, 22, 23, 24, 25, 26, 27, 28, 29, 30, 31, 32, 33, 34, 35, 36, 37, 38, 39, 40, 41, 42, 43, 44, 45, 46, 47, 48, 49, 50, 51, 52, 53, 54, 55, 56, 57, 58, 59, 60, 61, 62, 63, 64, 65, 66, 67, 68, 69, 70, 71] (by decide +kernel) (by decide +kernel)
set_option maxRecDepth 20000 in
theorem gX11_next_X11_isOrder : GoodIn wsX11_next (wsV RX11 205 RX11 yX11_isOrder wsX11_isOrder) := goodIn_app (goodIn_of _ (by decide +kernel)) ggX11_next_X11_isOrder
set_option maxRecDepth 20000 in
theorem ggX11_next_X11_isStreet : GoodIn wsX11_next wsX11_isStreet := goodIn_r _ [15, 16, 9, 10, 6, 11, 17, 18, 19, 20, 21, 22, 23, 24, 25, 26, 27, 28, 29, 30, 31, 32, 33, 34, 35, 36, 37, 38, 39, 40, 41, 42, 43, 44, 45, 46, 47, 48, 49, 50, 51, 52, 53, 54, 55, 56, 57, 58, 59, 60, 61, 62, 63, 64, 65, 66, 67, 68, 69, 70, 71] (by decide +kernel) (by decide +kernel)
set_option maxRecDepth 20000 in
theorem gX11_next_X11_isStreet : GoodIn wsX11_next (wsV RX11 188 RX11 yX11_isStreet wsX11_isStreet) := goodIn_app (goodIn_of _ (by decide +kernel)) ggX11_next_X11_isStreet
theorem dX11_next_0 : decode cX11_next 0 = .ok (.aload_n 0, 1) := by decide +kernel
theorem dX11_next_1 : decode cX11_next 1 = .ok (.iconst 0, 1) := by decide +kernel
theorem dX11_next_2 : decode cX11_next 2 = .ok (.putfield 98, 3) := by decide +kernel
theorem dX11_next_5 : decode cX11_next 5 = .ok (.aload_n 0, 1) := by decide +kernel
theorem dX11_next_6 : decode cX11_next 6 = .ok (.iload_n 1, 1) := by decide +kernel
theorem dX11_next_7 : decode cX11_next 7 = .ok (.invokevirtual 205, 3) := by decide +kernel
theorem dX11_next_10 : decode cX11_next 10 = .ok (.ifCond .eq 25, 3) := by decide +kernel
theorem dX11_next_13 : decode cX11_next 13 = .ok (.aload_n 0, 1) := by decide +kernel
theorem dX11_next_14 : decode cX11_next 14 = .ok (.iload_n 2, 1) := by decide +kernel
theorem dX11_next_15 : decode cX11_next 15 = .ok (.invokevirtual 188, 3) := by decide +kernel
theorem dX11_next_18 : decode cX11_next 18 = .ok (.ifCond .eq 17, 3) := by decide +kernel
theorem dX11_next_21 : decode cX11_next 21 = .ok (.aload_n 0, 1) := by decide +kernel
theorem dX11_next_22 : decode cX11_next 22 = .ok (.getfield 19, 3) := by decide +kernel
theorem dX11_next_25 : decode cX11_next 25 = .ok (.bipush 12, 2) := by decide +kernel
theorem dX11_next_27 : decode cX11_next 27 = .ok (.iload_n 1, 1) := by decide +kernel
theorem dX11_next_28 : decode cX11_next 28 = .ok (.imul, 1) := by decide +kernel
theorem dX11_next_29 : decode cX11_next 29 = .ok (.iload_n 2, 1) := by decide +kernel
theorem dX11_next_30 : decode cX11_next 30 = .ok (.iadd, 1) := by decide +kernel
theorem dX11_next_31 : decode cX11_next 31 = .ok (.iaload, 1) := by decide +kernel
theorem dX11_next_32 : decode cX11_next 32 = .ok (.goto 4, 3) := by decide +kernel
theorem dX11_next_35 : decode cX11_next 35 = .ok (.iconst (-1), 1) := by decide +kernel
theorem dX11_next_36 : decode cX11_next 36 = .ok (.ireturn, 1) := by decide +kernel
set_option maxRecDepth 20000 in
theorem ggX11_sheet_X11_in : GoodIn wsX11_sheet wsX11_in := goodIn_r _ [15] (by decide +kernel) (by decide +kernel)
set_option maxRecDepth 20000 in
theorem gX11_sheet_X11_in : GoodIn wsX11_sheet (va_wsS RX11 107 yX11_in wsX11_in) := goodIn_app (goodIn_of _ (by decide +kernel)) ggX11_sheet_X11_in
theorem dX11_sheet_0 : decode cX11_sheet 0 = .ok (.aload_n 0, 1) := by decide +kernel
theorem dX11_sheet_1 : decode cX11_sheet 1 = .ok (.iconst 0, 1) := by decide +kernel
theorem dX11_sheet_2 : decode cX11_sheet 2 = .ok (.putfield 98, 3) := by decide +kernel
