set_option maxRecDepth 20000 in
theorem ggX10_street_X10_isStreet : GoodIn wsX10_street wsX10_isStreet := goodIn_r _ [10, 4, 37, 38, 39, 40, 41, 42, 43, 44, 45, 46, 47, 48, 49, 50, 51, 52, 53, 54, 55, 56, 57, 58] (by decide +kernel) (by decide +kernel)
set_option maxRecDepth 20000 in
theorem gX10_street_X10_isStreet : GoodIn wsX10_street (wsV RX10 105 RX10 yX10_isStreet wsX10_isStreet) := goodIn_app (goodIn_of _ (by decide +kernel)) ggX10_street_X10_isStreet
theorem dX10_street_0 : decode cX10_street 0 = .ok (.aload_n 0, 1) := by decide +kernel
theorem dX10_street_1 : decode cX10_street 1 = .ok (.iload_n 1, 1) := by decide +kernel
theorem dX10_street_2 : decode cX10_street 2 = .ok (.invokevirtual 105, 3) := by decide +kernel
theorem dX10_street_5 : decode cX10_street 5 = .ok (.ifCond .ne 11, 3) := by decide +kernel
theorem dX10_street_8 : decode cX10_street 8 = .ok (.new 108, 3) := by decide +kernel
theorem dX10_street_11 : decode cX10_street 11 = .ok (.dup, 1) := by decide +kernel
theorem dX10_street_12 : decode cX10_street 12 = .ok (.invokespecial 110, 3) := by decide +kernel
theorem dX10_street_15 : decode cX10_street 15 = .ok (.athrow, 1) := by decide +kernel
theorem dX10_street_16 : decode cX10_street 16 = .ok (.iload_n 2, 1) := by decide +kernel
theorem dX10_street_17 : decode cX10_street 17 = .ok (.tableswitch 75 0 3 #[31, 40, 49, 59], 31) := by decide +kernel
theorem dX10_street_48 : decode cX10_street 48 = .ok (.aload_n 0, 1) := by decide +kernel
theorem dX10_street_49 : decode cX10_street 49 = .ok (.getfield 37, 3) := by decide +kernel
theorem dX10_street_52 : decode cX10_street 52 = .ok (.iload_n 1, 1) := by decide +kernel
theorem dX10_street_53 : decode cX10_street 53 = .ok (.invokevirtual 111, 3) := by decide +kernel
theorem dX10_street_56 : decode cX10_street 56 = .ok (.ireturn, 1) := by decide +kernel
theorem dX10_street_57 : decode cX10_street 57 = .ok (.aload_n 0, 1) := by decide +kernel
theorem dX10_street_58 : decode cX10_street 58 = .ok (.getfield 37, 3) := by decide +kernel
theorem dX10_street_61 : decode cX10_street 61 = .ok (.iload_n 1, 1) := by decide +kernel
theorem dX10_street_62 : decode cX10_street 62 = .ok (.invokevirtual 114, 3) := by decide +kernel
theorem dX10_street_65 : decode cX10_street 65 = .ok (.ireturn, 1) := by decide +kernel
theorem dX10_street_66 : decode cX10_street 66 = .ok (.aload_n 0, 1) := by decide +kernel
theorem dX10_street_67 : decode cX10_street 67 = .ok (.getfield 26, 3) := by decide +kernel
theorem dX10_street_70 : decode cX10_street 70 = .ok (.getfield 117, 3) := by decide +kernel
theorem dX10_street_73 : decode cX10_street 73 = .ok (.iload_n 1, 1) := by decide +kernel
theorem dX10_street_74 : decode cX10_street 74 = .ok (.iaload, 1) := by decide +kernel
theorem dX10_street_75 : decode cX10_street 75 = .ok (.ireturn, 1) := by decide +kernel
theorem dX10_street_76 : decode cX10_street 76 = .ok (.aload_n 0, 1) := by decide +kernel
theorem dX10_street_77 : decode cX10_street 77 = .ok (.getfield 44, 3) := by decide +kernel
theorem dX10_street_80 : decode cX10_street 80 = .ok (.iload_n 1, 1) := by decide +kernel
theorem dX10_street_81 : decode cX10_street 81 = .ok (.aload_n 0, 1) := by decide +kernel
theorem dX10_street_82 : decode cX10_street 82 = .ok (.getfield 26, 3) := by decide +kernel
theorem dX10_street_85 : decode cX10_street 85 = .ok (.getfield 120, 3) := by decide +kernel
theorem dX10_street_88 : decode cX10_street 88 = .ok (.invokevirtual 124, 3) := by decide +kernel
theorem dX10_street_91 : decode cX10_street 91 = .ok (.ireturn, 1) := by decide +kernel
theorem dX10_street_92 : decode cX10_street 92 = .ok (.new 108, 3) := by decide +kernel
theorem dX10_street_95 : decode cX10_street 95 = .ok (.dup, 1) := by decide +kernel
theorem dX10_street_96 : decode cX10_street 96 = .ok (.invokespecial 110, 3) := by decide +kernel
theorem dX10_street_99 : decode cX10_street 99 = .ok (.athrow, 1) := by decide +kernel
set_option maxRecDepth 20000 in
theorem ggX10_late_X10_isLetter : GoodIn wsX10_late wsX10_isLetter := goodIn_r _ [8, 3, 49, 50, 51, 52, 53, 54, 55, 56, 57, 58, 59, 60, 61, 62, 63, 64, 65, 66, 67, 68, 69, 70] (by decide +kernel) (by decide +kernel)
set_option maxRecDepth 20000 in
theorem gX10_late_X10_isLetter : GoodIn wsX10_late (wsV RX10 201 RX10 yX10_isLetter wsX10_isLetter) := goodIn_app (goodIn_of _ (by decide +kernel)) ggX10_late_X10_isLetter
set_option maxRecDepth 20000 in
theorem ggX10_late_X10_isStreet : GoodIn wsX10_late wsX10_isStreet := goodIn_r _ [12, 3, 49, 50, 51, 52, 53, 54, 55, 56, 57, 58, 59, 60, 61, 62, 63, 64, 65, 66, 67, 68, 69, 70] (by decide +kernel) (by decide +kernel)
set_option maxRecDepth 20000 in
theorem gX10_late_X10_isStreet : GoodIn wsX10_late (wsV RX10 105 RX10 yX10_isStreet wsX10_isStreet) := goodIn_app (goodIn_of _ (by decide +kernel)) ggX10_late_X10_isStreet
theorem dX10_late_0 : decode cX10_late 0 = .ok (.aload_n 0, 1) := by decide +kernel
theorem dX10_late_1 : decode cX10_late 1 = .ok (.iload_n 1, 1) := by decide +kernel
theorem dX10_late_2 : decode cX10_late 2 = .ok (.invokevirtual 201, 3) := by decide +kernel
theorem dX10_late_5 : decode cX10_late 5 = .ok (.ifCond .eq 15, 3) := by decide +kernel
theorem dX10_late_8 : decode cX10_late 8 = .ok (.iload_n 2, 1) := by decide +kernel
theorem dX10_late_9 : decode cX10_late 9 = .ok (.ifCond .lt 11, 3) := by decide +kernel
theorem dX10_late_12 : decode cX10_late 12 = .ok (.aload_n 0, 1) := by decide +kernel
theorem dX10_late_13 : decode cX10_late 13 = .ok (.iload_n 3, 1) := by decide +kernel
theorem dX10_late_14 : decode cX10_late 14 = .ok (.invokevirtual 105, 3) := by decide +kernel
theorem dX10_late_17 : decode cX10_late 17 = .ok (.ifCond .ne 11, 3) := by decide +kernel
theorem dX10_late_20 : decode cX10_late 20 = .ok (.new 108, 3) := by decide +kernel
theorem dX10_late_23 : decode cX10_late 23 = .ok (.dup, 1) := by decide +kernel
theorem dX10_late_24 : decode cX10_late 24 = .ok (.invokespecial 110, 3) := by decide +kernel
theorem dX10_late_27 : decode cX10_late 27 = .ok (.athrow, 1) := by decide +kernel
theorem dX10_late_28 : decode cX10_late 28 = .ok (.aload_n 0, 1) := by decide +kernel
theorem dX10_late_29 : decode cX10_late 29 = .ok (.iload_n 1, 1) := by decide +kernel
theorem dX10_late_30 : decode cX10_late 30 = .ok (.iload_n 2, 1) := by decide +kernel
theorem dX10_late_31 : decode cX10_late 31 = .ok (.iload_n 3, 1) := by decide +kernel
theorem dX10_late_32 : decode cX10_late 32 = .ok (.aload_n 0, 1) := by decide +kernel
theorem dX10_late_33 : decode cX10_late 33 = .ok (.getfield 26, 3) := by decide +kernel
theorem dX10_late_36 : decode cX10_late 36 = .ok (.getfield 120, 3) := by decide +kernel
theorem dX10_late_39 : decode cX10_late 39 = .ok (.invokevirtual 297, 3) := by decide +kernel
theorem dX10_late_42 : decode cX10_late 42 = .ok (.ireturn, 1) := by decide +kernel
theorem dX10_row_0 : decode cX10_row 0 = .ok (.iload_n 1, 1) := by decide +kernel
theorem dX10_row_1 : decode cX10_row 1 = .ok (.ifCond .lt 14, 3) := by decide +kernel
theorem dX10_row_4 : decode cX10_row 4 = .ok (.iload_n 1, 1) := by decide +kernel
theorem dX10_row_5 : decode cX10_row 5 = .ok (.aload_n 0, 1) := by decide +kernel
theorem dX10_row_6 : decode cX10_row 6 = .ok (.getfield 19, 3) := by decide +kernel
theorem dX10_row_9 : decode cX10_row 9 = .ok (.getfield 353, 3) := by decide +kernel
theorem dX10_row_12 : decode cX10_row 12 = .ok (.if_icmp .lt 11, 3) := by decide +kernel
theorem dX10_row_15 : decode cX10_row 15 = .ok (.new 108, 3) := by decide +kernel
theorem dX10_row_18 : decode cX10_row 18 = .ok (.dup, 1) := by decide +kernel
theorem dX10_row_19 : decode cX10_row 19 = .ok (.invokespecial 110, 3) := by decide +kernel
theorem dX10_row_22 : decode cX10_row 22 = .ok (.athrow, 1) := by decide +kernel
theorem dX10_row_23 : decode cX10_row 23 = .ok (.aload_n 0, 1) := by decide +kernel
theorem dX10_row_24 : decode cX10_row 24 = .ok (.getfield 19, 3) := by decide +kernel
theorem dX10_row_27 : decode cX10_row 27 = .ok (.getfield 355, 3) := by decide +kernel
theorem dX10_row_30 : decode cX10_row 30 = .ok (.iload_n 1, 1) := by decide +kernel
theorem dX10_row_31 : decode cX10_row 31 = .ok (.laload, 1) := by decide +kernel
theorem dX10_row_32 : decode cX10_row 32 = .ok (.lreturn, 1) := by decide +kernel
