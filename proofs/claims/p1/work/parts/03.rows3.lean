theorem dX11_days_32 : decode cX11_days 32 = .ok (.iconst (-1), 1) := by decide +kernel
theorem dX11_days_33 : decode cX11_days 33 = .ok (.ireturn, 1) := by decide +kernel
theorem dX11_days_34 : decode cX11_days 34 = .ok (.aload_n 0, 1) := by decide +kernel
theorem dX11_days_35 : decode cX11_days 35 = .ok (.iconst 0, 1) := by decide +kernel
theorem dX11_days_36 : decode cX11_days 36 = .ok (.invokevirtual 233, 3) := by decide +kernel
theorem dX11_days_39 : decode cX11_days 39 = .ok (.aload_n 0, 1) := by decide +kernel
theorem dX11_days_40 : decode cX11_days 40 = .ok (.iload_n 1, 1) := by decide +kernel
set_option maxRecDepth 20000 in
theorem ggX11_postman_X11_in : GoodIn wsX11_postman wsX11_in := goodIn_r _ [9] (by decide +kernel) (by decide +kernel)
set_option maxRecDepth 20000 in
theorem gX11_postman_X11_in : GoodIn wsX11_postman (va_wsS RX11 107 yX11_in wsX11_in) := goodIn_app (goodIn_of _ (by decide +kernel)) ggX11_postman_X11_in
set_option maxRecDepth 20000 in
theorem ggX11_postman_X11_layOut : GoodIn wsX11_postman wsX11_layOut := goodIn_r _ [13, 14, 15, 16, 17, 18, 49, 50, 51, 52, 53, 54, 55, 56, 57, 58, 59, 60, 61, 62, 63, 64, 65, 66, 67, 68, 69, 70, 71, 72, 73, 74, 75, 76, 77, 78, 79, 80, 81, 82, 83, 84, 85, 86, 87, 88, 89, 90, 91, 92, 93, 94, 95, 96, 97, 98, 99, 100, 101, 102, 103] (by decide +kernel) (by decide +kernel)
set_option maxRecDepth 20000 in
theorem gX11_postman_X11_layOut : GoodIn wsX11_postman (wsV RX11 233 RX11 yX11_layOut wsX11_layOut) := goodIn_app (goodIn_of _ (by decide +kernel)) ggX11_postman_X11_layOut
set_option maxRecDepth 20000 in
theorem ggX11_postman_X11_tell : GoodIn wsX11_postman wsX11_tell := goodIn_r _ [47, 48, 5, 49, 50, 51, 52, 53, 54, 55, 56, 57, 58, 59, 60, 61, 62, 63, 64, 65, 66, 67, 68, 69, 70, 71, 72, 73, 74, 75, 76, 77, 78, 79, 80, 81, 82, 83, 84, 85, 86, 87, 88, 89, 90, 91, 92, 93, 94, 95, 96, 97, 98, 99, 100, 101, 102, 103] (by decide +kernel) (by decide +kernel)
set_option maxRecDepth 20000 in
theorem gX11_postman_X11_tell : GoodIn wsX11_postman (wsV RX11 243 RX11 yX11_tell wsX11_tell) := goodIn_app (goodIn_of _ (by decide +kernel)) ggX11_postman_X11_tell
theorem dX11_postman_0 : decode cX11_postman 0 = .ok (.aload_n 0, 1) := by decide +kernel
theorem dX11_postman_1 : decode cX11_postman 1 = .ok (.iconst 0, 1) := by decide +kernel
theorem dX11_postman_2 : decode cX11_postman 2 = .ok (.putfield 98, 3) := by decide +kernel
theorem dX11_postman_5 : decode cX11_postman 5 = .ok (.aload_n 0, 1) := by decide +kernel
theorem dX11_postman_6 : decode cX11_postman 6 = .ok (.getfield 114, 3) := by decide +kernel
theorem dX11_postman_9 : decode cX11_postman 9 = .ok (.ifCond .eq 15, 3) := by decide +kernel
theorem dX11_postman_12 : decode cX11_postman 12 = .ok (.iload_n 1, 1) := by decide +kernel
theorem dX11_postman_13 : decode cX11_postman 13 = .ok (.i2l, 1) := by decide +kernel
theorem dX11_postman_14 : decode cX11_postman 14 = .ok (.lconst 1, 1) := by decide +kernel
theorem dX11_postman_15 : decode cX11_postman 15 = .ok (.ldc2_w 342, 3) := by decide +kernel
theorem dX11_postman_18 : decode cX11_postman 18 = .ok (.invokestatic 107, 3) := by decide +kernel
theorem dX11_postman_21 : decode cX11_postman 21 = .ok (.ifCond .ne 5, 3) := by decide +kernel
theorem dX11_postman_24 : decode cX11_postman 24 = .ok (.iconst (-1), 1) := by decide +kernel
theorem dX11_postman_25 : decode cX11_postman 25 = .ok (.ireturn, 1) := by decide +kernel
theorem dX11_postman_26 : decode cX11_postman 26 = .ok (.aload_n 0, 1) := by decide +kernel
theorem dX11_postman_27 : decode cX11_postman 27 = .ok (.iconst 0, 1) := by decide +kernel
theorem dX11_postman_28 : decode cX11_postman 28 = .ok (.invokevirtual 233, 3) := by decide +kernel
theorem dX11_postman_31 : decode cX11_postman 31 = .ok (.iconst 0, 1) := by decide +kernel
theorem dX11_postman_32 : decode cX11_postman 32 = .ok (.istore_n 2, 1) := by decide +kernel
theorem dX11_postman_33 : decode cX11_postman 33 = .ok (.iconst (-1), 1) := by decide +kernel
theorem dX11_postman_34 : decode cX11_postman 34 = .ok (.istore_n 3, 1) := by decide +kernel
theorem dX11_postman_35 : decode cX11_postman 35 = .ok (.iconst 0, 1) := by decide +kernel
theorem dX11_postman_36 : decode cX11_postman 36 = .ok (.istore 4, 2) := by decide +kernel
theorem dX11_postman_38 : decode cX11_postman 38 = .ok (.iconst 0, 1) := by decide +kernel
theorem dX11_postman_39 : decode cX11_postman 39 = .ok (.istore 5, 2) := by decide +kernel
theorem dX11_postman_41 : decode cX11_postman 41 = .ok (.iload 5, 2) := by decide +kernel
theorem dX11_postman_43 : decode cX11_postman 43 = .ok (.bipush 99, 2) := by decide +kernel
theorem dX11_postman_45 : decode cX11_postman 45 = .ok (.if_icmp .gt 109, 3) := by decide +kernel
theorem dX11_postman_48 : decode cX11_postman 48 = .ok (.iconst 0, 1) := by decide +kernel
theorem dX11_postman_49 : decode cX11_postman 49 = .ok (.istore 6, 2) := by decide +kernel
theorem dX11_postman_51 : decode cX11_postman 51 = .ok (.iconst 0, 1) := by decide +kernel
theorem dX11_postman_52 : decode cX11_postman 52 = .ok (.istore 7, 2) := by decide +kernel
theorem dX11_postman_54 : decode cX11_postman 54 = .ok (.iload 7, 2) := by decide +kernel
theorem dX11_postman_56 : decode cX11_postman 56 = .ok (.aload_n 0, 1) := by decide +kernel
theorem dX11_postman_57 : decode cX11_postman 57 = .ok (.getfield 114, 3) := by decide +kernel
theorem dX11_postman_60 : decode cX11_postman 60 = .ok (.if_icmp .ge 59, 3) := by decide +kernel
theorem dX11_postman_63 : decode cX11_postman 63 = .ok (.iconst 0, 1) := by decide +kernel
theorem dX11_postman_64 : decode cX11_postman 64 = .ok (.istore 8, 2) := by decide +kernel
theorem dX11_postman_66 : decode cX11_postman 66 = .ok (.iload 8, 2) := by decide +kernel
theorem dX11_postman_68 : decode cX11_postman 68 = .ok (.iload_n 1, 1) := by decide +kernel
theorem dX11_postman_69 : decode cX11_postman 69 = .ok (.if_icmp .ge 44, 3) := by decide +kernel
theorem dX11_postman_72 : decode cX11_postman 72 = .ok (.iload 6, 2) := by decide +kernel
theorem dX11_postman_74 : decode cX11_postman 74 = .ok (.aload_n 0, 1) := by decide +kernel
theorem dX11_postman_75 : decode cX11_postman 75 = .ok (.iload 7, 2) := by decide +kernel
theorem dX11_postman_77 : decode cX11_postman 77 = .ok (.aload_n 0, 1) := by decide +kernel
theorem dX11_postman_78 : decode cX11_postman 78 = .ok (.getfield 197, 3) := by decide +kernel
theorem dX11_postman_81 : decode cX11_postman 81 = .ok (.iload 8, 2) := by decide +kernel
theorem dX11_postman_83 : decode cX11_postman 83 = .ok (.i2l, 1) := by decide +kernel
theorem dX11_postman_84 : decode cX11_postman 84 = .ok (.ladd, 1) := by decide +kernel
theorem dX11_postman_85 : decode cX11_postman 85 = .ok (.iload 5, 2) := by decide +kernel
theorem dX11_postman_113 : decode cX11_postman 113 = .ok (.iinc 7 1, 3) := by decide +kernel
theorem dX11_postman_116 : decode cX11_postman 116 = .ok (.goto (-62), 3) := by decide +kernel
theorem dX11_postman_119 : decode cX11_postman 119 = .ok (.iload 5, 2) := by decide +kernel
theorem dX11_postman_121 : decode cX11_postman 121 = .ok (.ifCond .ne 8, 3) := by decide +kernel
theorem dX11_postman_124 : decode cX11_postman 124 = .ok (.iload 6, 2) := by decide +kernel
theorem dX11_postman_126 : decode cX11_postman 126 = .ok (.goto 5, 3) := by decide +kernel
theorem dX11_postman_129 : decode cX11_postman 129 = .ok (.iload 4, 2) := by decide +kernel
theorem dX11_postman_131 : decode cX11_postman 131 = .ok (.istore 4, 2) := by decide +kernel
theorem dX11_postman_133 : decode cX11_postman 133 = .ok (.iload 6, 2) := by decide +kernel
theorem dX11_postman_135 : decode cX11_postman 135 = .ok (.iload_n 3, 1) := by decide +kernel
theorem dX11_postman_136 : decode cX11_postman 136 = .ok (.if_icmp .gt 6, 3) := by decide +kernel
theorem dX11_postman_139 : decode cX11_postman 139 = .ok (.goto 9, 3) := by decide +kernel
theorem dX11_postman_142 : decode cX11_postman 142 = .ok (.iload 6, 2) := by decide +kernel
theorem dX11_postman_144 : decode cX11_postman 144 = .ok (.istore_n 3, 1) := by decide +kernel
theorem dX11_postman_145 : decode cX11_postman 145 = .ok (.iload 5, 2) := by decide +kernel
theorem dX11_postman_147 : decode cX11_postman 147 = .ok (.istore_n 2, 1) := by decide +kernel
theorem dX11_postman_148 : decode cX11_postman 148 = .ok (.iinc 5 1, 3) := by decide +kernel
theorem dX11_postman_151 : decode cX11_postman 151 = .ok (.goto (-110), 3) := by decide +kernel
theorem dX11_postman_154 : decode cX11_postman 154 = .ok (.aload_n 0, 1) := by decide +kernel
theorem dX11_postman_155 : decode cX11_postman 155 = .ok (.iconst 0, 1) := by decide +kernel
theorem dX11_postman_156 : decode cX11_postman 156 = .ok (.putfield 101, 3) := by decide +kernel
theorem dX11_postman_159 : decode cX11_postman 159 = .ok (.aload_n 0, 1) := by decide +kernel
theorem dX11_postman_160 : decode cX11_postman 160 = .ok (.iload_n 3, 1) := by decide +kernel
theorem dX11_postman_161 : decode cX11_postman 161 = .ok (.i2l, 1) := by decide +kernel
theorem dX11_postman_162 : decode cX11_postman 162 = .ok (.invokevirtual 243, 3) := by decide +kernel
theorem dX11_postman_165 : decode cX11_postman 165 = .ok (.aload_n 0, 1) := by decide +kernel
theorem dX11_postman_166 : decode cX11_postman 166 = .ok (.iload 4, 2) := by decide +kernel
theorem dX11_postman_168 : decode cX11_postman 168 = .ok (.i2l, 1) := by decide +kernel
theorem dX11_postman_169 : decode cX11_postman 169 = .ok (.invokevirtual 243, 3) := by decide +kernel
theorem dX11_postman_172 : decode cX11_postman 172 = .ok (.iload_n 2, 1) := by decide +kernel
theorem dX11_postman_173 : decode cX11_postman 173 = .ok (.ireturn, 1) := by decide +kernel
set_option maxRecDepth 20000 in
theorem ggX11_travels_X11_isLetter : GoodIn wsX11_travels wsX11_isLetter := goodIn_r _ [6, 7, 8, 9, 5, 10, 156, 157, 158, 159, 160, 161, 162, 163, 164, 165, 166, 167, 168, 169, 170, 171, 172, 173, 174, 175, 176, 177, 178, 179, 180, 181, 182, 183, 184, 185, 186, 187, 188, 189, 190, 191, 192, 193, 194, 195, 196, 197, 198, 199, 200, 201, 202, 203, 204, 205, 206, 207, 208, 209, 210] (by decide +kernel) (by decide +kernel)
set_option maxRecDepth 20000 in
theorem gX11_travels_X11_isLetter : GoodIn wsX11_travels (wsV RX11 263 RX11 yX11_isLetter wsX11_isLetter) := goodIn_app (goodIn_of _ (by decide +kernel)) ggX11_travels_X11_isLetter
set_option maxRecDepth 20000 in
theorem ggX11_travels_X11_isLate : GoodIn wsX11_travels wsX11_isLate := goodIn_r _ [13, 14, 8, 9, 5, 10] (by decide +kernel) (by decide +kernel)
set_option maxRecDepth 20000 in
theorem gX11_travels_X11_isLate : GoodIn wsX11_travels (va_wsS RX11 326 yX11_isLate wsX11_isLate) := goodIn_app (goodIn_of _ (by decide +kernel)) ggX11_travels_X11_isLate
theorem dX11_travels_0 : decode cX11_travels 0 = .ok (.aload_n 0, 1) := by decide +kernel
theorem dX11_travels_1 : decode cX11_travels 1 = .ok (.iconst 0, 1) := by decide +kernel
theorem dX11_travels_2 : decode cX11_travels 2 = .ok (.putfield 98, 3) := by decide +kernel
theorem dX11_travels_5 : decode cX11_travels 5 = .ok (.aload_n 0, 1) := by decide +kernel
theorem dX11_travels_6 : decode cX11_travels 6 = .ok (.iload_n 1, 1) := by decide +kernel
theorem dX11_travels_7 : decode cX11_travels 7 = .ok (.invokevirtual 263, 3) := by decide +kernel
theorem dX11_travels_10 : decode cX11_travels 10 = .ok (.ifCond .eq 19, 3) := by decide +kernel
theorem dX11_travels_13 : decode cX11_travels 13 = .ok (.iload_n 2, 1) := by decide +kernel
theorem dX11_travels_14 : decode cX11_travels 14 = .ok (.invokestatic 326, 3) := by decide +kernel
theorem dX11_travels_17 : decode cX11_travels 17 = .ok (.ifCond .eq 12, 3) := by decide +kernel
theorem dX11_travels_20 : decode cX11_travels 20 = .ok (.aload_n 0, 1) := by decide +kernel
theorem dX11_travels_21 : decode cX11_travels 21 = .ok (.iload_n 1, 1) := by decide +kernel
theorem dX11_travels_22 : decode cX11_travels 22 = .ok (.iload_n 2, 1) := by decide +kernel
theorem dX11_travels_29 : decode cX11_travels 29 = .ok (.iconst (-1), 1) := by decide +kernel
theorem dX11_travels_30 : decode cX11_travels 30 = .ok (.ireturn, 1) := by decide +kernel
set_option maxRecDepth 20000 in
theorem ggX11_round_X11_isPlace : GoodIn wsX11_round wsX11_isPlace := goodIn_r _ [8, 9, 10, 11, 7, 12] (by decide +kernel) (by decide +kernel)
set_option maxRecDepth 20000 in
theorem gX11_round_X11_isPlace : GoodIn wsX11_round (va_wsS RX11 217 yX11_isPlace wsX11_isPlace) := goodIn_app (goodIn_of _ (by decide +kernel)) ggX11_round_X11_isPlace
set_option maxRecDepth 20000 in
theorem ggX11_round_X11_in : GoodIn wsX11_round wsX11_in := goodIn_r _ [12] (by decide +kernel) (by decide +kernel)
set_option maxRecDepth 20000 in
theorem gX11_round_X11_in : GoodIn wsX11_round (va_wsS RX11 107 yX11_in wsX11_in) := goodIn_app (goodIn_of _ (by decide +kernel)) ggX11_round_X11_in
set_option maxRecDepth 20000 in
theorem ggX11_round_J6_bitCount_0f7a4 : GoodIn wsX11_round wsJ6_bitCount_0f7a4 := goodIn_r _ [16, 17, 18, 19] (by decide +kernel) (by decide +kernel)
set_option maxRecDepth 20000 in
theorem gX11_round_J6_bitCount_0f7a4 : GoodIn wsX11_round (va_wsS RX11 247 yJ6_bitCount_0f7a4 wsJ6_bitCount_0f7a4) := goodIn_app (goodIn_of _ (by decide +kernel)) ggX11_round_J6_bitCount_0f7a4
set_option maxRecDepth 20000 in
theorem ggX11_round_X11_layOut : GoodIn wsX11_round wsX11_layOut := goodIn_r _ [23, 24, 25, 26, 27, 28, 84, 85, 86, 87, 88, 89, 90, 91, 92, 93, 94, 95, 96, 97, 98, 99, 100, 101, 102, 103, 104, 105, 106, 107, 108, 109, 110, 111, 112, 113, 114, 115, 116, 117, 118, 119, 120, 121, 122, 123, 124, 125, 126, 127, 128, 129, 130, 131, 132, 133, 134, 135, 136, 137, 138] (by decide +kernel) (by decide +kernel)
set_option maxRecDepth 20000 in
theorem gX11_round_X11_layOut : GoodIn wsX11_round (wsV RX11 233 RX11 yX11_layOut wsX11_layOut) := goodIn_app (goodIn_of _ (by decide +kernel)) ggX11_round_X11_layOut
set_option maxRecDepth 20000 in
theorem ggX11_round_X11_findFar : GoodIn wsX11_round wsX11_findFar := goodIn_r _ [32, 33, 24, 34, 35, 36, 37, 38, 39, 40, 84, 85, 86, 87, 88, 89, 90, 91, 92, 93, 94, 95, 96, 97, 98, 99, 100, 101, 102, 103, 104, 105, 106, 107, 108, 109, 110, 111, 112, 113, 114, 115, 116, 117, 118, 119, 120, 121, 122, 123, 124, 125, 126, 127, 128, 129, 130, 131, 132, 133, 134, 135, 136, 137, 138] (by decide +kernel) (by decide +kernel)
set_option maxRecDepth 20000 in
theorem gX11_round_X11_findFar : GoodIn wsX11_round (wsV RX11 220 RX11 yX11_findFar wsX11_findFar) := goodIn_app (goodIn_of _ (by decide +kernel)) ggX11_round_X11_findFar
theorem dX11_round_0 : decode cX11_round 0 = .ok (.aload_n 0, 1) := by decide +kernel
theorem dX11_round_1 : decode cX11_round 1 = .ok (.iconst 0, 1) := by decide +kernel
theorem dX11_round_2 : decode cX11_round 2 = .ok (.putfield 98, 3) := by decide +kernel
theorem dX11_round_5 : decode cX11_round 5 = .ok (.iload_n 1, 1) := by decide +kernel
theorem dX11_round_6 : decode cX11_round 6 = .ok (.invokestatic 217, 3) := by decide +kernel
theorem dX11_round_9 : decode cX11_round 9 = .ok (.ifCond .eq 42, 3) := by decide +kernel
theorem dX11_round_12 : decode cX11_round 12 = .ok (.iload_n 2, 1) := by decide +kernel
theorem dX11_round_13 : decode cX11_round 13 = .ok (.i2l, 1) := by decide +kernel
theorem dX11_round_14 : decode cX11_round 14 = .ok (.lconst 1, 1) := by decide +kernel
theorem dX11_round_15 : decode cX11_round 15 = .ok (.iconst 1, 1) := by decide +kernel
theorem dX11_round_16 : decode cX11_round 16 = .ok (.aload_n 0, 1) := by decide +kernel
theorem dX11_round_17 : decode cX11_round 17 = .ok (.getfield 114, 3) := by decide +kernel
theorem dX11_round_20 : decode cX11_round 20 = .ok (.ishl, 1) := by decide +kernel
theorem dX11_round_21 : decode cX11_round 21 = .ok (.iconst 1, 1) := by decide +kernel
theorem dX11_round_22 : decode cX11_round 22 = .ok (.isub, 1) := by decide +kernel
theorem dX11_round_23 : decode cX11_round 23 = .ok (.i2l, 1) := by decide +kernel
theorem dX11_round_24 : decode cX11_round 24 = .ok (.invokestatic 107, 3) := by decide +kernel
theorem dX11_round_27 : decode cX11_round 27 = .ok (.ifCond .eq 24, 3) := by decide +kernel
theorem dX11_round_30 : decode cX11_round 30 = .ok (.iload_n 2, 1) := by decide +kernel
theorem dX11_round_31 : decode cX11_round 31 = .ok (.invokestatic 247, 3) := by decide +kernel
theorem dX11_round_34 : decode cX11_round 34 = .ok (.bipush 6, 2) := by decide +kernel
theorem dX11_round_36 : decode cX11_round 36 = .ok (.if_icmp .gt 15, 3) := by decide +kernel
theorem dX11_round_39 : decode cX11_round 39 = .ok (.iload_n 3, 1) := by decide +kernel
theorem dX11_round_40 : decode cX11_round 40 = .ok (.i2l, 1) := by decide +kernel
theorem dX11_round_41 : decode cX11_round 41 = .ok (.lconst 1, 1) := by decide +kernel
theorem dX11_round_42 : decode cX11_round 42 = .ok (.ldc2_w 364, 3) := by decide +kernel
theorem dX11_round_45 : decode cX11_round 45 = .ok (.invokestatic 107, 3) := by decide +kernel
theorem dX11_round_48 : decode cX11_round 48 = .ok (.ifCond .ne 5, 3) := by decide +kernel
theorem dX11_round_51 : decode cX11_round 51 = .ok (.iconst (-1), 1) := by decide +kernel
theorem dX11_round_52 : decode cX11_round 52 = .ok (.ireturn, 1) := by decide +kernel
theorem dX11_round_53 : decode cX11_round 53 = .ok (.aload_n 0, 1) := by decide +kernel
theorem dX11_round_54 : decode cX11_round 54 = .ok (.iconst 0, 1) := by decide +kernel
theorem dX11_round_55 : decode cX11_round 55 = .ok (.invokevirtual 233, 3) := by decide +kernel
theorem dX11_round_58 : decode cX11_round 58 = .ok (.aload_n 0, 1) := by decide +kernel
theorem dX11_round_59 : decode cX11_round 59 = .ok (.invokevirtual 220, 3) := by decide +kernel
theorem dX11_round_62 : decode cX11_round 62 = .ok (.aload_n 0, 1) := by decide +kernel
theorem dX11_round_63 : decode cX11_round 63 = .ok (.iload_n 2, 1) := by decide +kernel
theorem dX11_round_64 : decode cX11_round 64 = .ok (.aload_n 0, 1) := by decide +kernel
theorem dX11_round_65 : decode cX11_round 65 = .ok (.getfield 114, 3) := by decide +kernel
set_option maxRecDepth 20000 in
theorem ggX11_walk_X11_isPlace : GoodIn wsX11_walk wsX11_isPlace := goodIn_r _ [7, 8, 9, 10, 6, 11] (by decide +kernel) (by decide +kernel)
set_option maxRecDepth 20000 in
theorem gX11_walk_X11_isPlace : GoodIn wsX11_walk (va_wsS RX11 217 yX11_isPlace wsX11_isPlace) := goodIn_app (goodIn_of _ (by decide +kernel)) ggX11_walk_X11_isPlace
set_option maxRecDepth 20000 in
theorem ggX11_walk_X11_in : GoodIn wsX11_walk wsX11_in := goodIn_r _ [11] (by decide +kernel) (by decide +kernel)
set_option maxRecDepth 20000 in
theorem gX11_walk_X11_in : GoodIn wsX11_walk (va_wsS RX11 107 yX11_in wsX11_in) := goodIn_app (goodIn_of _ (by decide +kernel)) ggX11_walk_X11_in
set_option maxRecDepth 20000 in
theorem ggX11_walk_J6_bitCount_0f7a4 : GoodIn wsX11_walk wsJ6_bitCount_0f7a4 := goodIn_r _ [15, 16, 17, 18] (by decide +kernel) (by decide +kernel)
set_option maxRecDepth 20000 in
theorem gX11_walk_J6_bitCount_0f7a4 : GoodIn wsX11_walk (va_wsS RX11 247 yJ6_bitCount_0f7a4 wsJ6_bitCount_0f7a4) := goodIn_app (goodIn_of _ (by decide +kernel)) ggX11_walk_J6_bitCount_0f7a4
set_option maxRecDepth 20000 in
theorem ggX11_walk_X11_findFar : GoodIn wsX11_walk wsX11_findFar := goodIn_r _ [22, 23, 2, 24, 25, 26, 27, 28, 29, 30, 56, 57, 58, 59, 60, 61, 62, 63, 64, 65, 66, 67, 68, 69, 70, 71, 72, 73, 74, 75, 76, 77, 78, 79, 80, 81, 82, 83, 84, 85, 86, 87, 88, 89, 90, 91, 92, 93, 94, 95, 96, 97, 98, 99, 100, 101, 102, 103, 104, 105, 106, 107, 108, 109, 110] (by decide +kernel) (by decide +kernel)
set_option maxRecDepth 20000 in
theorem gX11_walk_X11_findFar : GoodIn wsX11_walk (wsV RX11 220 RX11 yX11_findFar wsX11_findFar) := goodIn_app (goodIn_of _ (by decide +kernel)) ggX11_walk_X11_findFar
theorem dX11_walk_0 : decode cX11_walk 0 = .ok (.aload_n 0, 1) := by decide +kernel
theorem dX11_walk_1 : decode cX11_walk 1 = .ok (.iconst 0, 1) := by decide +kernel
theorem dX11_walk_2 : decode cX11_walk 2 = .ok (.putfield 98, 3) := by decide +kernel
theorem dX11_walk_5 : decode cX11_walk 5 = .ok (.iload_n 1, 1) := by decide +kernel
theorem dX11_walk_6 : decode cX11_walk 6 = .ok (.invokestatic 217, 3) := by decide +kernel
theorem dX11_walk_9 : decode cX11_walk 9 = .ok (.ifCond .eq 30, 3) := by decide +kernel
theorem dX11_walk_12 : decode cX11_walk 12 = .ok (.iload_n 2, 1) := by decide +kernel
theorem dX11_walk_13 : decode cX11_walk 13 = .ok (.i2l, 1) := by decide +kernel
theorem dX11_walk_14 : decode cX11_walk 14 = .ok (.lconst 1, 1) := by decide +kernel
theorem dX11_walk_15 : decode cX11_walk 15 = .ok (.iconst 1, 1) := by decide +kernel
theorem dX11_walk_16 : decode cX11_walk 16 = .ok (.aload_n 0, 1) := by decide +kernel
theorem dX11_walk_17 : decode cX11_walk 17 = .ok (.getfield 104, 3) := by decide +kernel
theorem dX11_walk_20 : decode cX11_walk 20 = .ok (.ishl, 1) := by decide +kernel
theorem dX11_walk_21 : decode cX11_walk 21 = .ok (.iconst 1, 1) := by decide +kernel
theorem dX11_walk_22 : decode cX11_walk 22 = .ok (.isub, 1) := by decide +kernel
theorem dX11_walk_23 : decode cX11_walk 23 = .ok (.i2l, 1) := by decide +kernel
theorem dX11_walk_24 : decode cX11_walk 24 = .ok (.invokestatic 107, 3) := by decide +kernel
theorem dX11_walk_27 : decode cX11_walk 27 = .ok (.ifCond .eq 12, 3) := by decide +kernel
theorem dX11_walk_30 : decode cX11_walk 30 = .ok (.iload_n 2, 1) := by decide +kernel
theorem dX11_walk_31 : decode cX11_walk 31 = .ok (.invokestatic 247, 3) := by decide +kernel
theorem dX11_walk_34 : decode cX11_walk 34 = .ok (.bipush 7, 2) := by decide +kernel
theorem dX11_walk_36 : decode cX11_walk 36 = .ok (.if_icmp .le 5, 3) := by decide +kernel
theorem dX11_walk_39 : decode cX11_walk 39 = .ok (.iconst (-1), 1) := by decide +kernel
theorem dX11_walk_40 : decode cX11_walk 40 = .ok (.ireturn, 1) := by decide +kernel
theorem dX11_walk_41 : decode cX11_walk 41 = .ok (.aload_n 0, 1) := by decide +kernel
theorem dX11_walk_42 : decode cX11_walk 42 = .ok (.invokevirtual 220, 3) := by decide +kernel
theorem dX11_walk_45 : decode cX11_walk 45 = .ok (.aload_n 0, 1) := by decide +kernel
theorem dX11_walk_46 : decode cX11_walk 46 = .ok (.iload_n 2, 1) := by decide +kernel
theorem dX11_walk_47 : decode cX11_walk 47 = .ok (.aload_n 0, 1) := by decide +kernel
theorem dX11_walk_48 : decode cX11_walk 48 = .ok (.getfield 104, 3) := by decide +kernel
set_option maxRecDepth 20000 in
theorem ggX11_meet_X11_in : GoodIn wsX11_meet wsX11_in := goodIn_r _ [13] (by decide +kernel) (by decide +kernel)
set_option maxRecDepth 20000 in
theorem gX11_meet_X11_in : GoodIn wsX11_meet (va_wsS RX11 107 yX11_in wsX11_in) := goodIn_app (goodIn_of _ (by decide +kernel)) ggX11_meet_X11_in
set_option maxRecDepth 20000 in
theorem ggX11_meet_X11_layOut : GoodIn wsX11_meet wsX11_layOut := goodIn_r _ [17, 18, 19, 20, 21, 22, 54, 55, 56, 57, 58, 59, 60, 61, 62, 63, 64, 65, 66, 67, 68, 69, 70, 71, 72, 73, 74, 75, 76, 77, 78, 79, 80, 81, 82, 83, 84, 85, 86, 87, 88, 89, 90, 91, 92, 93, 94, 95, 96, 97, 98, 99, 100, 101, 102, 103, 104, 105, 106, 107, 108] (by decide +kernel) (by decide +kernel)
set_option maxRecDepth 20000 in
theorem gX11_meet_X11_layOut : GoodIn wsX11_meet (wsV RX11 233 RX11 yX11_layOut wsX11_layOut) := goodIn_app (goodIn_of _ (by decide +kernel)) ggX11_meet_X11_layOut
set_option maxRecDepth 20000 in
theorem ggX11_meet_X11_findFar : GoodIn wsX11_meet wsX11_findFar := goodIn_r _ [26, 3, 18, 4, 27, 28, 29, 30, 7, 31, 54, 55, 56, 57, 58, 59, 60, 61, 62, 63, 64, 65, 66, 67, 68, 69, 70, 71, 72, 73, 74, 75, 76, 77, 78, 79, 80, 81, 82, 83, 84, 85, 86, 87, 88, 89, 90, 91, 92, 93, 94, 95, 96, 97, 98, 99, 100, 101, 102, 103, 104, 105, 106, 107, 108] (by decide +kernel) (by decide +kernel)
set_option maxRecDepth 20000 in
theorem gX11_meet_X11_findFar : GoodIn wsX11_meet (wsV RX11 220 RX11 yX11_findFar wsX11_findFar) := goodIn_app (goodIn_of _ (by decide +kernel)) ggX11_meet_X11_findFar
set_option maxRecDepth 20000 in
theorem ggX11_meet_X11_has : GoodIn wsX11_meet wsX11_has := goodIn_r _ [34] (by decide +kernel) (by decide +kernel)
set_option maxRecDepth 20000 in
theorem gX11_meet_X11_has : GoodIn wsX11_meet (va_wsS RX11 184 yX11_has wsX11_has) := goodIn_app (goodIn_of _ (by decide +kernel)) ggX11_meet_X11_has
set_option maxRecDepth 20000 in
theorem ggX11_meet_X11_tell : GoodIn wsX11_meet wsX11_tell := goodIn_r _ [52, 53, 9, 54, 55, 56, 57, 58, 59, 60, 61, 62, 63, 64, 65, 66, 67, 68, 69, 70, 71, 72, 73, 74, 75, 76, 77, 78, 79, 80, 81, 82, 83, 84, 85, 86, 87, 88, 89, 90, 91, 92, 93, 94, 95, 96, 97, 98, 99, 100, 101, 102, 103, 104, 105, 106, 107, 108] (by decide +kernel) (by decide +kernel)
set_option maxRecDepth 20000 in
theorem gX11_meet_X11_tell : GoodIn wsX11_meet (wsV RX11 243 RX11 yX11_tell wsX11_tell) := goodIn_app (goodIn_of _ (by decide +kernel)) ggX11_meet_X11_tell
theorem dX11_meet_0 : decode cX11_meet 0 = .ok (.aload_n 0, 1) := by decide +kernel
theorem dX11_meet_1 : decode cX11_meet 1 = .ok (.iconst 0, 1) := by decide +kernel
theorem dX11_meet_2 : decode cX11_meet 2 = .ok (.putfield 98, 3) := by decide +kernel
theorem dX11_meet_5 : decode cX11_meet 5 = .ok (.iload_n 1, 1) := by decide +kernel
theorem dX11_meet_6 : decode cX11_meet 6 = .ok (.i2l, 1) := by decide +kernel
theorem dX11_meet_7 : decode cX11_meet 7 = .ok (.lconst 1, 1) := by decide +kernel
theorem dX11_meet_8 : decode cX11_meet 8 = .ok (.iconst 1, 1) := by decide +kernel
theorem dX11_meet_9 : decode cX11_meet 9 = .ok (.aload_n 0, 1) := by decide +kernel
theorem dX11_meet_10 : decode cX11_meet 10 = .ok (.getfield 114, 3) := by decide +kernel
theorem dX11_meet_13 : decode cX11_meet 13 = .ok (.ishl, 1) := by decide +kernel
theorem dX11_meet_14 : decode cX11_meet 14 = .ok (.iconst 1, 1) := by decide +kernel
theorem dX11_meet_15 : decode cX11_meet 15 = .ok (.isub, 1) := by decide +kernel
theorem dX11_meet_16 : decode cX11_meet 16 = .ok (.i2l, 1) := by decide +kernel
theorem dX11_meet_17 : decode cX11_meet 17 = .ok (.invokestatic 107, 3) := by decide +kernel
theorem dX11_meet_20 : decode cX11_meet 20 = .ok (.ifCond .ne 5, 3) := by decide +kernel
theorem dX11_meet_23 : decode cX11_meet 23 = .ok (.iconst (-1), 1) := by decide +kernel
theorem dX11_meet_24 : decode cX11_meet 24 = .ok (.ireturn, 1) := by decide +kernel
theorem dX11_meet_25 : decode cX11_meet 25 = .ok (.aload_n 0, 1) := by decide +kernel
theorem dX11_meet_26 : decode cX11_meet 26 = .ok (.iconst 0, 1) := by decide +kernel
theorem dX11_meet_27 : decode cX11_meet 27 = .ok (.invokevirtual 233, 3) := by decide +kernel
theorem dX11_meet_30 : decode cX11_meet 30 = .ok (.aload_n 0, 1) := by decide +kernel
theorem dX11_meet_31 : decode cX11_meet 31 = .ok (.invokevirtual 220, 3) := by decide +kernel
theorem dX11_meet_34 : decode cX11_meet 34 = .ok (.bipush (-2), 2) := by decide +kernel
theorem dX11_meet_36 : decode cX11_meet 36 = .ok (.istore_n 2, 1) := by decide +kernel
theorem dX11_meet_37 : decode cX11_meet 37 = .ok (.iconst 0, 1) := by decide +kernel
theorem dX11_meet_38 : decode cX11_meet 38 = .ok (.istore_n 3, 1) := by decide +kernel
theorem dX11_meet_39 : decode cX11_meet 39 = .ok (.iconst 0, 1) := by decide +kernel
theorem dX11_meet_40 : decode cX11_meet 40 = .ok (.istore 4, 2) := by decide +kernel
theorem dX11_meet_42 : decode cX11_meet 42 = .ok (.iconst 0, 1) := by decide +kernel
theorem dX11_meet_43 : decode cX11_meet 43 = .ok (.istore 5, 2) := by decide +kernel
theorem dX11_meet_45 : decode cX11_meet 45 = .ok (.iload 5, 2) := by decide +kernel
theorem dX11_meet_47 : decode cX11_meet 47 = .ok (.bipush 10, 2) := by decide +kernel
theorem dX11_meet_49 : decode cX11_meet 49 = .ok (.if_icmp .ge 136, 3) := by decide +kernel
theorem dX11_meet_52 : decode cX11_meet 52 = .ok (.iconst 0, 1) := by decide +kernel
theorem dX11_meet_53 : decode cX11_meet 53 = .ok (.istore 6, 2) := by decide +kernel
theorem dX11_meet_55 : decode cX11_meet 55 = .ok (.iconst 0, 1) := by decide +kernel
theorem dX11_meet_56 : decode cX11_meet 56 = .ok (.istore 7, 2) := by decide +kernel
theorem dX11_meet_58 : decode cX11_meet 58 = .ok (.iconst 1, 1) := by decide +kernel
theorem dX11_meet_59 : decode cX11_meet 59 = .ok (.istore 8, 2) := by decide +kernel
theorem dX11_meet_61 : decode cX11_meet 61 = .ok (.iconst 0, 1) := by decide +kernel
theorem dX11_meet_62 : decode cX11_meet 62 = .ok (.istore 9, 2) := by decide +kernel
theorem dX11_meet_64 : decode cX11_meet 64 = .ok (.iload 9, 2) := by decide +kernel
theorem dX11_meet_66 : decode cX11_meet 66 = .ok (.aload_n 0, 1) := by decide +kernel
theorem dX11_meet_67 : decode cX11_meet 67 = .ok (.getfield 114, 3) := by decide +kernel
theorem dX11_meet_70 : decode cX11_meet 70 = .ok (.if_icmp .ge 81, 3) := by decide +kernel
theorem dX11_meet_73 : decode cX11_meet 73 = .ok (.iload_n 1, 1) := by decide +kernel
theorem dX11_meet_74 : decode cX11_meet 74 = .ok (.iload 9, 2) := by decide +kernel
theorem dX11_meet_76 : decode cX11_meet 76 = .ok (.invokestatic 184, 3) := by decide +kernel
theorem dX11_meet_79 : decode cX11_meet 79 = .ok (.ifCond .ne 6, 3) := by decide +kernel
theorem dX11_meet_82 : decode cX11_meet 82 = .ok (.goto 63, 3) := by decide +kernel
theorem dX11_meet_85 : decode cX11_meet 85 = .ok (.aload_n 0, 1) := by decide +kernel
theorem dX11_meet_86 : decode cX11_meet 86 = .ok (.getfield 45, 3) := by decide +kernel
theorem dX11_meet_89 : decode cX11_meet 89 = .ok (.bipush 10, 2) := by decide +kernel
theorem dX11_meet_91 : decode cX11_meet 91 = .ok (.iload 5, 2) := by decide +kernel
theorem dX11_meet_93 : decode cX11_meet 93 = .ok (.imul, 1) := by decide +kernel
theorem dX11_meet_94 : decode cX11_meet 94 = .ok (.aload_n 0, 1) := by decide +kernel
theorem dX11_meet_95 : decode cX11_meet 95 = .ok (.getfield 9, 3) := by decide +kernel
theorem dX11_meet_98 : decode cX11_meet 98 = .ok (.aload_n 0, 1) := by decide +kernel
theorem dX11_meet_99 : decode cX11_meet 99 = .ok (.iload 9, 2) := by decide +kernel
theorem dX11_meet_145 : decode cX11_meet 145 = .ok (.iinc 9 1, 3) := by decide +kernel
theorem dX11_meet_148 : decode cX11_meet 148 = .ok (.goto (-84), 3) := by decide +kernel
theorem dX11_meet_151 : decode cX11_meet 151 = .ok (.iload 8, 2) := by decide +kernel
theorem dX11_meet_153 : decode cX11_meet 153 = .ok (.ifCond .eq 26, 3) := by decide +kernel
theorem dX11_meet_156 : decode cX11_meet 156 = .ok (.iload_n 2, 1) := by decide +kernel
theorem dX11_meet_157 : decode cX11_meet 157 = .ok (.ifCond .lt 12, 3) := by decide +kernel
theorem dX11_meet_160 : decode cX11_meet 160 = .ok (.iload 6, 2) := by decide +kernel
theorem dX11_meet_162 : decode cX11_meet 162 = .ok (.iload_n 3, 1) := by decide +kernel
theorem dX11_meet_163 : decode cX11_meet 163 = .ok (.if_icmp .lt 6, 3) := by decide +kernel
theorem dX11_meet_166 : decode cX11_meet 166 = .ok (.goto 13, 3) := by decide +kernel
theorem dX11_meet_169 : decode cX11_meet 169 = .ok (.iload 5, 2) := by decide +kernel
theorem dX11_meet_171 : decode cX11_meet 171 = .ok (.istore_n 2, 1) := by decide +kernel
theorem dX11_meet_172 : decode cX11_meet 172 = .ok (.iload 6, 2) := by decide +kernel
theorem dX11_meet_174 : decode cX11_meet 174 = .ok (.istore_n 3, 1) := by decide +kernel
theorem dX11_meet_175 : decode cX11_meet 175 = .ok (.iload 7, 2) := by decide +kernel
theorem dX11_meet_177 : decode cX11_meet 177 = .ok (.istore 4, 2) := by decide +kernel
theorem dX11_meet_179 : decode cX11_meet 179 = .ok (.iinc 5 1, 3) := by decide +kernel
theorem dX11_meet_182 : decode cX11_meet 182 = .ok (.goto (-137), 3) := by decide +kernel
theorem dX11_meet_185 : decode cX11_meet 185 = .ok (.iload_n 2, 1) := by decide +kernel
theorem dX11_meet_186 : decode cX11_meet 186 = .ok (.ifCond .ge 6, 3) := by decide +kernel
theorem dX11_meet_189 : decode cX11_meet 189 = .ok (.bipush (-2), 2) := by decide +kernel
theorem dX11_meet_191 : decode cX11_meet 191 = .ok (.ireturn, 1) := by decide +kernel
theorem dX11_meet_192 : decode cX11_meet 192 = .ok (.aload_n 0, 1) := by decide +kernel
theorem dX11_meet_193 : decode cX11_meet 193 = .ok (.iconst 0, 1) := by decide +kernel
theorem dX11_meet_194 : decode cX11_meet 194 = .ok (.putfield 101, 3) := by decide +kernel
theorem dX11_meet_197 : decode cX11_meet 197 = .ok (.aload_n 0, 1) := by decide +kernel
theorem dX11_meet_198 : decode cX11_meet 198 = .ok (.iload_n 3, 1) := by decide +kernel
theorem dX11_meet_199 : decode cX11_meet 199 = .ok (.i2l, 1) := by decide +kernel
theorem dX11_meet_200 : decode cX11_meet 200 = .ok (.invokevirtual 243, 3) := by decide +kernel
theorem dX11_meet_203 : decode cX11_meet 203 = .ok (.aload_n 0, 1) := by decide +kernel
theorem dX11_meet_204 : decode cX11_meet 204 = .ok (.iload 4, 2) := by decide +kernel
theorem dX11_meet_206 : decode cX11_meet 206 = .ok (.i2l, 1) := by decide +kernel
theorem dX11_meet_207 : decode cX11_meet 207 = .ok (.invokevirtual 243, 3) := by decide +kernel
theorem dX11_meet_210 : decode cX11_meet 210 = .ok (.iload_n 2, 1) := by decide +kernel
theorem dX11_meet_211 : decode cX11_meet 211 = .ok (.ireturn, 1) := by decide +kernel
set_option maxRecDepth 20000 in
theorem ggX11_rule_X11_begin : GoodIn wsX11_rule wsX11_begin := goodIn_r _ [13, 14, 15, 16, 5, 6, 81, 82, 83, 84, 85, 86, 87, 88, 89, 90, 91, 92, 93, 94, 95, 96, 97, 98, 99, 100, 101, 102, 103, 104, 105, 106, 107, 108, 109, 110, 111, 112, 113, 114, 115, 116, 117, 118, 119, 120, 121, 122, 123, 124, 125, 126, 127, 128, 129, 130, 131, 132, 133, 134, 135] (by decide +kernel) (by decide +kernel)
set_option maxRecDepth 20000 in
theorem gX11_rule_X11_begin : GoodIn wsX11_rule (wsV RX11 159 RX11 yX11_begin wsX11_begin) := goodIn_app (goodIn_of _ (by decide +kernel)) ggX11_rule_X11_begin
theorem dX11_rule_0 : decode cX11_rule 0 = .ok (.aload_n 0, 1) := by decide +kernel
theorem dX11_rule_1 : decode cX11_rule 1 = .ok (.iconst 0, 1) := by decide +kernel
theorem dX11_rule_2 : decode cX11_rule 2 = .ok (.putfield 98, 3) := by decide +kernel
theorem dX11_rule_5 : decode cX11_rule 5 = .ok (.aload_n 0, 1) := by decide +kernel
theorem dX11_rule_6 : decode cX11_rule 6 = .ok (.getfield 121, 3) := by decide +kernel
theorem dX11_rule_9 : decode cX11_rule 9 = .ok (.istore_n 1, 1) := by decide +kernel
theorem dX11_rule_10 : decode cX11_rule 10 = .ok (.aload_n 0, 1) := by decide +kernel
theorem dX11_rule_11 : decode cX11_rule 11 = .ok (.aload_n 0, 1) := by decide +kernel
theorem dX11_rule_12 : decode cX11_rule 12 = .ok (.getfield 38, 3) := by decide +kernel
theorem dX11_rule_15 : decode cX11_rule 15 = .ok (.iload_n 1, 1) := by decide +kernel
theorem dX11_rule_16 : decode cX11_rule 16 = .ok (.bipush 40, 2) := by decide +kernel
theorem dX11_rule_18 : decode cX11_rule 18 = .ok (.invokevirtual 159, 3) := by decide +kernel
theorem dX11_rule_21 : decode cX11_rule 21 = .ok (.aload_n 0, 1) := by decide +kernel
theorem dX11_rule_22 : decode cX11_rule 22 = .ok (.iconst 0, 1) := by decide +kernel
theorem dX11_rule_23 : decode cX11_rule 23 = .ok (.putfield 121, 3) := by decide +kernel
theorem dX11_rule_26 : decode cX11_rule 26 = .ok (.aload_n 0, 1) := by decide +kernel
theorem dX11_rule_27 : decode cX11_rule 27 = .ok (.iconst (-1), 1) := by decide +kernel
theorem dX11_rule_28 : decode cX11_rule 28 = .ok (.putfield 78, 3) := by decide +kernel
theorem dX11_rule_31 : decode cX11_rule 31 = .ok (.iload_n 1, 1) := by decide +kernel
theorem dX11_rule_32 : decode cX11_rule 32 = .ok (.ifCond .le 39, 3) := by decide +kernel
theorem dX11_rule_35 : decode cX11_rule 35 = .ok (.aload_n 0, 1) := by decide +kernel
theorem dX11_rule_36 : decode cX11_rule 36 = .ok (.iconst 0, 1) := by decide +kernel
theorem dX11_rule_71 : decode cX11_rule 71 = .ok (.iconst 0, 1) := by decide +kernel
theorem dX11_rule_72 : decode cX11_rule 72 = .ok (.istore_n 2, 1) := by decide +kernel
theorem dX11_rule_73 : decode cX11_rule 73 = .ok (.iload_n 2, 1) := by decide +kernel
theorem dX11_rule_74 : decode cX11_rule 74 = .ok (.iload_n 1, 1) := by decide +kernel
theorem dX11_rule_75 : decode cX11_rule 75 = .ok (.if_icmp .ge 21, 3) := by decide +kernel
theorem dX11_rule_78 : decode cX11_rule 78 = .ok (.aload_n 0, 1) := by decide +kernel
theorem dX11_rule_79 : decode cX11_rule 79 = .ok (.getfield 75, 3) := by decide +kernel
theorem dX11_rule_82 : decode cX11_rule 82 = .ok (.iload_n 2, 1) := by decide +kernel
theorem dX11_rule_83 : decode cX11_rule 83 = .ok (.aload_n 0, 1) := by decide +kernel
theorem dX11_rule_84 : decode cX11_rule 84 = .ok (.getfield 38, 3) := by decide +kernel
theorem dX11_rule_87 : decode cX11_rule 87 = .ok (.iload_n 2, 1) := by decide +kernel
theorem dX11_rule_88 : decode cX11_rule 88 = .ok (.baload, 1) := by decide +kernel
theorem dX11_rule_89 : decode cX11_rule 89 = .ok (.bastore, 1) := by decide +kernel
theorem dX11_rule_90 : decode cX11_rule 90 = .ok (.iinc 2 1, 3) := by decide +kernel
theorem dX11_rule_93 : decode cX11_rule 93 = .ok (.goto (-20), 3) := by decide +kernel
theorem dX11_rule_96 : decode cX11_rule 96 = .ok (.aload_n 0, 1) := by decide +kernel
theorem dX11_rule_97 : decode cX11_rule 97 = .ok (.iload_n 1, 1) := by decide +kernel
theorem dX11_rule_98 : decode cX11_rule 98 = .ok (.putfield 403, 3) := by decide +kernel
theorem dX11_rule_101 : decode cX11_rule 101 = .ok (.iconst 0, 1) := by decide +kernel
theorem dX11_rule_102 : decode cX11_rule 102 = .ok (.ireturn, 1) := by decide +kernel
set_option maxRecDepth 20000 in
theorem ggX11_late_X11_isLetter : GoodIn wsX11_late wsX11_isLetter := goodIn_r _ [7, 8, 9, 10, 6, 11, 104, 105, 106, 107, 108, 109, 110, 111, 112, 113, 114, 115, 116, 117, 118, 119, 120, 121, 122, 123, 124, 125, 126, 127, 128, 129, 130, 131, 132, 133, 134, 135, 136, 137, 138, 139, 140, 141, 142, 143, 144, 145, 146, 147, 148, 149, 150, 151, 152, 153, 154, 155, 156, 157, 158] (by decide +kernel) (by decide +kernel)
set_option maxRecDepth 20000 in
theorem gX11_late_X11_isLetter : GoodIn wsX11_late (wsV RX11 263 RX11 yX11_isLetter wsX11_isLetter) := goodIn_app (goodIn_of _ (by decide +kernel)) ggX11_late_X11_isLetter
set_option maxRecDepth 20000 in
theorem ggX11_late_X11_isStreet : GoodIn wsX11_late wsX11_isStreet := goodIn_r _ [15, 16, 9, 10, 6, 11, 104, 105, 106, 107, 108, 109, 110, 111, 112, 113, 114, 115, 116, 117, 118, 119, 120, 121, 122, 123, 124, 125, 126, 127, 128, 129, 130, 131, 132, 133, 134, 135, 136, 137, 138, 139, 140, 141, 142, 143, 144, 145, 146, 147, 148, 149, 150, 151, 152, 153, 154, 155, 156, 157, 158] (by decide +kernel) (by decide +kernel)
set_option maxRecDepth 20000 in
theorem gX11_late_X11_isStreet : GoodIn wsX11_late (wsV RX11 188 RX11 yX11_isStreet wsX11_isStreet) := goodIn_app (goodIn_of _ (by decide +kernel)) ggX11_late_X11_isStreet
set_option maxRecDepth 20000 in
theorem ggX11_late_X11_lost : GoodIn wsX11_late wsX11_lost := goodIn_r _ [103, 1, 104, 105, 106, 107, 108, 109, 110, 111, 112, 113, 114, 115, 116, 117, 118, 119, 120, 121, 122, 123, 124, 125, 126, 127, 128, 129, 130, 131, 132, 133, 134, 135, 136, 137, 138, 139, 140, 141, 142, 143, 144, 145, 146, 147, 148, 149, 150, 151, 152, 153, 154, 155, 156, 157, 158] (by decide +kernel) (by decide +kernel)
set_option maxRecDepth 20000 in
theorem gX11_late_X11_lost : GoodIn wsX11_late (wsV RX11 194 RX11 yX11_lost wsX11_lost) := goodIn_app (goodIn_of _ (by decide +kernel)) ggX11_late_X11_lost
theorem dX11_late_0 : decode cX11_late 0 = .ok (.aload_n 0, 1) := by decide +kernel
theorem dX11_late_1 : decode cX11_late 1 = .ok (.iconst 0, 1) := by decide +kernel
theorem dX11_late_2 : decode cX11_late 2 = .ok (.putfield 98, 3) := by decide +kernel
theorem dX11_late_5 : decode cX11_late 5 = .ok (.aload_n 0, 1) := by decide +kernel
theorem dX11_late_6 : decode cX11_late 6 = .ok (.iload_n 1, 1) := by decide +kernel
theorem dX11_late_7 : decode cX11_late 7 = .ok (.invokevirtual 263, 3) := by decide +kernel
theorem dX11_late_10 : decode cX11_late 10 = .ok (.ifCond .eq 29, 3) := by decide +kernel
theorem dX11_late_13 : decode cX11_late 13 = .ok (.iload_n 2, 1) := by decide +kernel
theorem dX11_late_14 : decode cX11_late 14 = .ok (.ifCond .lt 25, 3) := by decide +kernel
theorem dX11_late_17 : decode cX11_late 17 = .ok (.aload_n 0, 1) := by decide +kernel
theorem dX11_late_18 : decode cX11_late 18 = .ok (.iload_n 3, 1) := by decide +kernel
theorem dX11_late_19 : decode cX11_late 19 = .ok (.invokevirtual 188, 3) := by decide +kernel
theorem dX11_late_22 : decode cX11_late 22 = .ok (.ifCond .eq 17, 3) := by decide +kernel
theorem dX11_late_25 : decode cX11_late 25 = .ok (.aload_n 0, 1) := by decide +kernel
theorem dX11_late_26 : decode cX11_late 26 = .ok (.iload_n 1, 1) := by decide +kernel
theorem dX11_late_27 : decode cX11_late 27 = .ok (.iload_n 2, 1) := by decide +kernel
theorem dX11_late_28 : decode cX11_late 28 = .ok (.iload_n 3, 1) := by decide +kernel
theorem dX11_late_29 : decode cX11_late 29 = .ok (.aload_n 0, 1) := by decide +kernel
theorem dX11_late_30 : decode cX11_late 30 = .ok (.getfield 197, 3) := by decide +kernel
theorem dX11_late_39 : decode cX11_late 39 = .ok (.aload_n 0, 1) := by decide +kernel
theorem dX11_late_40 : decode cX11_late 40 = .ok (.invokevirtual 194, 3) := by decide +kernel
theorem dX11_late_43 : decode cX11_late 43 = .ok (.ireturn, 1) := by decide +kernel
set_option maxRecDepth 20000 in
theorem ggX11_sends_X11_isLetter : GoodIn wsX11_sends wsX11_isLetter := goodIn_r _ [6, 7, 8, 9, 5, 10, 152, 153, 154, 155, 156, 157, 158, 159, 160, 161, 162, 163, 164, 165, 166, 167, 168, 169, 170, 171, 172, 173, 174, 175, 176, 177, 178, 179, 180, 181, 182, 183, 184, 185, 186, 187, 188, 189, 190, 191, 192, 193, 194, 195, 196, 197, 198, 199, 200, 201, 202, 203, 204, 205, 206] (by decide +kernel) (by decide +kernel)
set_option maxRecDepth 20000 in
theorem gX11_sends_X11_isLetter : GoodIn wsX11_sends (wsV RX11 263 RX11 yX11_isLetter wsX11_isLetter) := goodIn_app (goodIn_of _ (by decide +kernel)) ggX11_sends_X11_isLetter
theorem dX11_sends_0 : decode cX11_sends 0 = .ok (.aload_n 0, 1) := by decide +kernel
theorem dX11_sends_1 : decode cX11_sends 1 = .ok (.iconst 0, 1) := by decide +kernel
theorem dX11_sends_2 : decode cX11_sends 2 = .ok (.putfield 98, 3) := by decide +kernel
theorem dX11_sends_5 : decode cX11_sends 5 = .ok (.aload_n 0, 1) := by decide +kernel
theorem dX11_sends_6 : decode cX11_sends 6 = .ok (.iload_n 1, 1) := by decide +kernel
theorem dX11_sends_7 : decode cX11_sends 7 = .ok (.invokevirtual 263, 3) := by decide +kernel
theorem dX11_sends_10 : decode cX11_sends 10 = .ok (.ifCond .eq 12, 3) := by decide +kernel
theorem dX11_sends_13 : decode cX11_sends 13 = .ok (.aload_n 0, 1) := by decide +kernel
theorem dX11_sends_14 : decode cX11_sends 14 = .ok (.iload_n 1, 1) := by decide +kernel
theorem dX11_sends_15 : decode cX11_sends 15 = .ok (.iconst (-1), 1) := by decide +kernel
theorem dX11_sends_22 : decode cX11_sends 22 = .ok (.iconst (-1), 1) := by decide +kernel
theorem dX11_sends_23 : decode cX11_sends 23 = .ok (.ireturn, 1) := by decide +kernel
set_option maxRecDepth 20000 in
theorem ggX11_wish_X11_in : GoodIn wsX11_wish wsX11_in := goodIn_r _ [11] (by decide +kernel) (by decide +kernel)
set_option maxRecDepth 20000 in
theorem gX11_wish_X11_in : GoodIn wsX11_wish (va_wsS RX11 107 yX11_in wsX11_in) := goodIn_app (goodIn_of _ (by decide +kernel)) ggX11_wish_X11_in
set_option maxRecDepth 20000 in
theorem ggX11_wish_X11_isStreet : GoodIn wsX11_wish wsX11_isStreet := goodIn_r _ [15, 16, 8, 9, 10, 11, 17, 18, 19, 20, 21, 22, 23, 24, 25, 26, 27, 28, 29, 30, 31, 32, 33, 34, 35, 36, 37, 38, 39, 40, 41, 42, 43, 44, 45, 46, 47, 48, 49, 50, 51, 52, 53, 54, 55, 56, 57, 58, 59, 60, 61, 62, 63, 64, 65, 66, 67, 68, 69, 70, 71] (by decide +kernel) (by decide +kernel)
set_option maxRecDepth 20000 in
theorem gX11_wish_X11_isStreet : GoodIn wsX11_wish (wsV RX11 188 RX11 yX11_isStreet wsX11_isStreet) := goodIn_app (goodIn_of _ (by decide +kernel)) ggX11_wish_X11_isStreet
theorem dX11_wish_0 : decode cX11_wish 0 = .ok (.aload_n 0, 1) := by decide +kernel
theorem dX11_wish_1 : decode cX11_wish 1 = .ok (.iconst 0, 1) := by decide +kernel
theorem dX11_wish_2 : decode cX11_wish 2 = .ok (.putfield 98, 3) := by decide +kernel
theorem dX11_wish_5 : decode cX11_wish 5 = .ok (.iload_n 1, 1) := by decide +kernel
theorem dX11_wish_6 : decode cX11_wish 6 = .ok (.i2l, 1) := by decide +kernel
theorem dX11_wish_7 : decode cX11_wish 7 = .ok (.lconst 0, 1) := by decide +kernel
theorem dX11_wish_8 : decode cX11_wish 8 = .ok (.ldc2_w 192, 3) := by decide +kernel
theorem dX11_wish_11 : decode cX11_wish 11 = .ok (.invokestatic 107, 3) := by decide +kernel
theorem dX11_wish_14 : decode cX11_wish 14 = .ok (.ifCond .eq 20, 3) := by decide +kernel
theorem dX11_wish_17 : decode cX11_wish 17 = .ok (.aload_n 0, 1) := by decide +kernel
theorem dX11_wish_18 : decode cX11_wish 18 = .ok (.iload_n 2, 1) := by decide +kernel
theorem dX11_wish_19 : decode cX11_wish 19 = .ok (.invokevirtual 188, 3) := by decide +kernel
theorem dX11_wish_22 : decode cX11_wish 22 = .ok (.ifCond .eq 12, 3) := by decide +kernel
theorem dX11_wish_25 : decode cX11_wish 25 = .ok (.aload_n 0, 1) := by decide +kernel
theorem dX11_wish_26 : decode cX11_wish 26 = .ok (.getfield 406, 3) := by decide +kernel
theorem dX11_wish_29 : decode cX11_wish 29 = .ok (.bipush 6, 2) := by decide +kernel
theorem dX11_wish_31 : decode cX11_wish 31 = .ok (.if_icmp .ne 5, 3) := by decide +kernel
theorem dX11_wish_34 : decode cX11_wish 34 = .ok (.iconst (-1), 1) := by decide +kernel
theorem dX11_wish_35 : decode cX11_wish 35 = .ok (.ireturn, 1) := by decide +kernel
theorem dX11_wish_36 : decode cX11_wish 36 = .ok (.iload_n 1, 1) := by decide +kernel
theorem dX11_wish_37 : decode cX11_wish 37 = .ok (.ifCond .eq 8, 3) := by decide +kernel
theorem dX11_wish_40 : decode cX11_wish 40 = .ok (.iload_n 1, 1) := by decide +kernel
theorem dX11_wish_41 : decode cX11_wish 41 = .ok (.iconst 3, 1) := by decide +kernel
theorem dX11_wish_42 : decode cX11_wish 42 = .ok (.if_icmp .ne 11, 3) := by decide +kernel
theorem dX11_wish_45 : decode cX11_wish 45 = .ok (.aload_n 0, 1) := by decide +kernel
theorem dX11_wish_46 : decode cX11_wish 46 = .ok (.iload_n 3, 1) := by decide +kernel
theorem dX11_wish_47 : decode cX11_wish 47 = .ok (.invokevirtual 188, 3) := by decide +kernel
theorem dX11_wish_50 : decode cX11_wish 50 = .ok (.goto 12, 3) := by decide +kernel
theorem dX11_wish_53 : decode cX11_wish 53 = .ok (.iload_n 3, 1) := by decide +kernel
theorem dX11_wish_54 : decode cX11_wish 54 = .ok (.i2l, 1) := by decide +kernel
theorem dX11_wish_55 : decode cX11_wish 55 = .ok (.lconst 1, 1) := by decide +kernel
theorem dX11_wish_56 : decode cX11_wish 56 = .ok (.ldc2_w 309, 3) := by decide +kernel
theorem dX11_wish_59 : decode cX11_wish 59 = .ok (.invokestatic 107, 3) := by decide +kernel
theorem dX11_wish_62 : decode cX11_wish 62 = .ok (.istore 4, 2) := by decide +kernel
theorem dX11_wish_64 : decode cX11_wish 64 = .ok (.iload 4, 2) := by decide +kernel
theorem dX11_wish_66 : decode cX11_wish 66 = .ok (.ifCond .eq 12, 3) := by decide +kernel
theorem dX11_wish_69 : decode cX11_wish 69 = .ok (.iload_n 1, 1) := by decide +kernel
theorem dX11_wish_70 : decode cX11_wish 70 = .ok (.ifCond .ne 10, 3) := by decide +kernel
theorem dX11_wish_73 : decode cX11_wish 73 = .ok (.iload_n 3, 1) := by decide +kernel
theorem dX11_wish_74 : decode cX11_wish 74 = .ok (.iload_n 2, 1) := by decide +kernel
theorem dX11_wish_75 : decode cX11_wish 75 = .ok (.if_icmp .ne 5, 3) := by decide +kernel
theorem dX11_wish_78 : decode cX11_wish 78 = .ok (.iconst (-1), 1) := by decide +kernel
theorem dX11_wish_79 : decode cX11_wish 79 = .ok (.ireturn, 1) := by decide +kernel
theorem dX11_wish_80 : decode cX11_wish 80 = .ok (.aload_n 0, 1) := by decide +kernel
theorem dX11_wish_81 : decode cX11_wish 81 = .ok (.getfield 29, 3) := by decide +kernel
theorem dX11_wish_84 : decode cX11_wish 84 = .ok (.aload_n 0, 1) := by decide +kernel
theorem dX11_wish_85 : decode cX11_wish 85 = .ok (.getfield 406, 3) := by decide +kernel
theorem dX11_wish_88 : decode cX11_wish 88 = .ok (.iload_n 1, 1) := by decide +kernel
theorem dX11_wish_89 : decode cX11_wish 89 = .ok (.iastore, 1) := by decide +kernel
theorem dX11_wish_90 : decode cX11_wish 90 = .ok (.aload_n 0, 1) := by decide +kernel
theorem dX11_wish_91 : decode cX11_wish 91 = .ok (.getfield 32, 3) := by decide +kernel
theorem dX11_wish_94 : decode cX11_wish 94 = .ok (.aload_n 0, 1) := by decide +kernel
theorem dX11_wish_95 : decode cX11_wish 95 = .ok (.getfield 406, 3) := by decide +kernel
theorem dX11_wish_98 : decode cX11_wish 98 = .ok (.iload_n 2, 1) := by decide +kernel
theorem dX11_wish_99 : decode cX11_wish 99 = .ok (.iastore, 1) := by decide +kernel
theorem dX11_wish_100 : decode cX11_wish 100 = .ok (.aload_n 0, 1) := by decide +kernel
theorem dX11_wish_101 : decode cX11_wish 101 = .ok (.getfield 35, 3) := by decide +kernel
theorem dX11_wish_104 : decode cX11_wish 104 = .ok (.aload_n 0, 1) := by decide +kernel
theorem dX11_wish_105 : decode cX11_wish 105 = .ok (.getfield 406, 3) := by decide +kernel
theorem dX11_wish_108 : decode cX11_wish 108 = .ok (.iload_n 3, 1) := by decide +kernel
theorem dX11_wish_109 : decode cX11_wish 109 = .ok (.iastore, 1) := by decide +kernel
theorem dX11_wish_110 : decode cX11_wish 110 = .ok (.aload_n 0, 1) := by decide +kernel
theorem dX11_wish_111 : decode cX11_wish 111 = .ok (.dup, 1) := by decide +kernel
theorem dX11_wish_112 : decode cX11_wish 112 = .ok (.getfield 406, 3) := by decide +kernel
theorem dX11_wish_115 : decode cX11_wish 115 = .ok (.iconst 1, 1) := by decide +kernel
theorem dX11_wish_116 : decode cX11_wish 116 = .ok (.iadd, 1) := by decide +kernel
theorem dX11_wish_117 : decode cX11_wish 117 = .ok (.putfield 406, 3) := by decide +kernel
theorem dX11_wish_120 : decode cX11_wish 120 = .ok (.aload_n 0, 1) := by decide +kernel
theorem dX11_wish_121 : decode cX11_wish 121 = .ok (.getfield 406, 3) := by decide +kernel
theorem dX11_wish_124 : decode cX11_wish 124 = .ok (.iconst 1, 1) := by decide +kernel
theorem dX11_wish_125 : decode cX11_wish 125 = .ok (.isub, 1) := by decide +kernel
theorem dX11_wish_126 : decode cX11_wish 126 = .ok (.ireturn, 1) := by decide +kernel
set_option maxRecDepth 20000 in
theorem ggX11_kept_X11_layOut : GoodIn wsX11_kept wsX11_layOut := goodIn_r _ [7, 8, 9, 10, 11, 12, 24, 25, 26, 27, 28, 29, 30, 31, 32, 33, 34, 35, 36, 37, 38, 39, 40, 41, 42, 43, 44, 45, 46, 47, 48, 49, 50, 51, 52, 53, 54, 55, 56, 57, 58, 59, 60, 61, 62, 63, 64, 65, 66, 67, 68, 69, 70, 71, 72, 73, 74, 75, 76, 77, 78] (by decide +kernel) (by decide +kernel)
set_option maxRecDepth 20000 in
theorem gX11_kept_X11_layOut : GoodIn wsX11_kept (wsV RX11 233 RX11 yX11_layOut wsX11_layOut) := goodIn_app (goodIn_of _ (by decide +kernel)) ggX11_kept_X11_layOut
theorem dX11_kept_0 : decode cX11_kept 0 = .ok (.aload_n 0, 1) := by decide +kernel
theorem dX11_kept_1 : decode cX11_kept 1 = .ok (.iconst 0, 1) := by decide +kernel
theorem dX11_kept_2 : decode cX11_kept 2 = .ok (.putfield 98, 3) := by decide +kernel
theorem dX11_kept_5 : decode cX11_kept 5 = .ok (.aload_n 0, 1) := by decide +kernel
theorem dX11_kept_6 : decode cX11_kept 6 = .ok (.iconst 0, 1) := by decide +kernel
theorem dX11_kept_7 : decode cX11_kept 7 = .ok (.invokevirtual 233, 3) := by decide +kernel
theorem dX11_kept_10 : decode cX11_kept 10 = .ok (.iconst 0, 1) := by decide +kernel
theorem dX11_kept_11 : decode cX11_kept 11 = .ok (.istore_n 1, 1) := by decide +kernel
theorem dX11_kept_12 : decode cX11_kept 12 = .ok (.iconst 0, 1) := by decide +kernel
theorem dX11_kept_13 : decode cX11_kept 13 = .ok (.istore_n 2, 1) := by decide +kernel
theorem dX11_kept_14 : decode cX11_kept 14 = .ok (.iload_n 2, 1) := by decide +kernel
theorem dX11_kept_15 : decode cX11_kept 15 = .ok (.aload_n 0, 1) := by decide +kernel
theorem dX11_kept_16 : decode cX11_kept 16 = .ok (.getfield 406, 3) := by decide +kernel
theorem dX11_kept_19 : decode cX11_kept 19 = .ok (.if_icmp .ge 27, 3) := by decide +kernel
theorem dX11_kept_22 : decode cX11_kept 22 = .ok (.iload_n 1, 1) := by decide +kernel
theorem dX11_kept_23 : decode cX11_kept 23 = .ok (.aload_n 0, 1) := by decide +kernel
theorem dX11_kept_24 : decode cX11_kept 24 = .ok (.iload_n 2, 1) := by decide +kernel
theorem dX11_kept_46 : decode cX11_kept 46 = .ok (.iload_n 1, 1) := by decide +kernel
theorem dX11_kept_47 : decode cX11_kept 47 = .ok (.ireturn, 1) := by decide +kernel
set_option maxRecDepth 20000 in
theorem ggX11_findKeeps_X11_findWays : GoodIn wsX11_findKeeps wsX11_findWays := goodIn_r _ [8, 9, 10, 1, 11, 12, 13, 7, 14, 4, 5, 6, 26, 27, 28, 29, 30, 31, 32, 33, 34, 35, 36, 37, 38, 39, 40, 41, 42, 43, 44, 45, 46, 47, 48, 49, 50, 51, 52, 53, 54, 55, 56, 57, 58, 59, 60, 61, 62, 63, 64, 65, 66, 67, 68, 69, 70, 71, 72, 73, 74, 75, 76, 77, 78, 79, 80] (by decide +kernel) (by decide +kernel)
set_option maxRecDepth 20000 in
theorem gX11_findKeeps_X11_findWays : GoodIn wsX11_findKeeps (wsV RX11 305 RX11 yX11_findWays wsX11_findWays) := goodIn_app (goodIn_of _ (by decide +kernel)) ggX11_findKeeps_X11_findWays
theorem dX11_findKeeps_0 : decode cX11_findKeeps 0 = .ok (.aload_n 0, 1) := by decide +kernel
theorem dX11_findKeeps_1 : decode cX11_findKeeps 1 = .ok (.iconst 0, 1) := by decide +kernel
theorem dX11_findKeeps_2 : decode cX11_findKeeps 2 = .ok (.putfield 302, 3) := by decide +kernel
theorem dX11_findKeeps_5 : decode cX11_findKeeps 5 = .ok (.aload_n 0, 1) := by decide +kernel
theorem dX11_findKeeps_6 : decode cX11_findKeeps 6 = .ok (.iconst 0, 1) := by decide +kernel
theorem dX11_findKeeps_7 : decode cX11_findKeeps 7 = .ok (.iconst 0, 1) := by decide +kernel
theorem dX11_findKeeps_8 : decode cX11_findKeeps 8 = .ok (.invokevirtual 305, 3) := by decide +kernel
theorem dX11_findKeeps_11 : decode cX11_findKeeps 11 = .ok (.iconst 0, 1) := by decide +kernel
theorem dX11_findKeeps_12 : decode cX11_findKeeps 12 = .ok (.istore_n 1, 1) := by decide +kernel
theorem dX11_findKeeps_13 : decode cX11_findKeeps 13 = .ok (.iload_n 1, 1) := by decide +kernel
theorem dX11_findKeeps_14 : decode cX11_findKeeps 14 = .ok (.aload_n 0, 1) := by decide +kernel
theorem dX11_findKeeps_15 : decode cX11_findKeeps 15 = .ok (.getfield 302, 3) := by decide +kernel
theorem dX11_findKeeps_18 : decode cX11_findKeeps 18 = .ok (.if_icmp .ge 57, 3) := by decide +kernel
theorem dX11_findKeeps_21 : decode cX11_findKeeps 21 = .ok (.aload_n 0, 1) := by decide +kernel
theorem dX11_findKeeps_22 : decode cX11_findKeeps 22 = .ok (.getfield 82, 3) := by decide +kernel
theorem dX11_findKeeps_25 : decode cX11_findKeeps 25 = .ok (.iload_n 1, 1) := by decide +kernel
theorem dX11_findKeeps_26 : decode cX11_findKeeps 26 = .ok (.iconst 0, 1) := by decide +kernel
theorem dX11_findKeeps_27 : decode cX11_findKeeps 27 = .ok (.iastore, 1) := by decide +kernel
theorem dX11_findKeeps_28 : decode cX11_findKeeps 28 = .ok (.iconst 0, 1) := by decide +kernel
theorem dX11_findKeeps_29 : decode cX11_findKeeps 29 = .ok (.istore_n 2, 1) := by decide +kernel
theorem dX11_findKeeps_30 : decode cX11_findKeeps 30 = .ok (.iload_n 2, 1) := by decide +kernel
theorem dX11_findKeeps_31 : decode cX11_findKeeps 31 = .ok (.aload_n 0, 1) := by decide +kernel
theorem dX11_findKeeps_32 : decode cX11_findKeeps 32 = .ok (.getfield 406, 3) := by decide +kernel
theorem dX11_findKeeps_35 : decode cX11_findKeeps 35 = .ok (.if_icmp .ge 34, 3) := by decide +kernel
theorem dX11_findKeeps_38 : decode cX11_findKeeps 38 = .ok (.aload_n 0, 1) := by decide +kernel
theorem dX11_findKeeps_39 : decode cX11_findKeeps 39 = .ok (.getfield 82, 3) := by decide +kernel
theorem dX11_findKeeps_42 : decode cX11_findKeeps 42 = .ok (.iload_n 1, 1) := by decide +kernel
theorem dX11_findKeeps_43 : decode cX11_findKeeps 43 = .ok (.dup2, 1) := by decide +kernel
theorem dX11_findKeeps_44 : decode cX11_findKeeps 44 = .ok (.iaload, 1) := by decide +kernel
theorem dX11_findKeeps_45 : decode cX11_findKeeps 45 = .ok (.aload_n 0, 1) := by decide +kernel
theorem dX11_findKeeps_46 : decode cX11_findKeeps 46 = .ok (.iload_n 2, 1) := by decide +kernel
theorem dX11_findKeeps_47 : decode cX11_findKeeps 47 = .ok (.iload_n 1, 1) := by decide +kernel
theorem dX11_findKeeps_69 : decode cX11_findKeeps 69 = .ok (.iinc 1 1, 3) := by decide +kernel
theorem dX11_findKeeps_72 : decode cX11_findKeeps 72 = .ok (.goto (-59), 3) := by decide +kernel
theorem dX11_findKeeps_75 : decode cX11_findKeeps 75 = .ok (.return_, 1) := by decide +kernel
set_option maxRecDepth 20000 in
theorem ggX11_choosing_X11_findKeeps : GoodIn wsX11_choosing wsX11_findKeeps := goodIn_r _ [8, 2, 3, 9, 10, 11, 12, 7, 13, 14, 15, 16, 17, 18, 19, 20, 21, 22, 23, 24, 25, 26, 27, 28, 29, 30, 31, 32, 33, 34, 35, 36, 37, 38, 39, 40, 41, 42, 43, 44, 45, 46, 47, 48, 49, 50, 51, 52, 53, 54, 55, 56, 57, 58, 59, 60, 61, 62, 63, 64, 65, 66, 67, 68, 69, 70, 71, 72, 73, 74, 75, 76, 77, 78, 79, 80, 81, 82, 83, 84, 85] (by decide +kernel) (by decide +kernel)
set_option maxRecDepth 20000 in
theorem gX11_choosing_X11_findKeeps : GoodIn wsX11_choosing (wsV RX11 415 RX11 yX11_findKeeps wsX11_findKeeps) := goodIn_app (goodIn_of _ (by decide +kernel)) ggX11_choosing_X11_findKeeps
theorem dX11_choosing_0 : decode cX11_choosing 0 = .ok (.aload_n 0, 1) := by decide +kernel
theorem dX11_choosing_1 : decode cX11_choosing 1 = .ok (.invokevirtual 415, 3) := by decide +kernel
theorem dX11_choosing_4 : decode cX11_choosing 4 = .ok (.aload_n 0, 1) := by decide +kernel
theorem dX11_choosing_5 : decode cX11_choosing 5 = .ok (.iconst (-1), 1) := by decide +kernel
theorem dX11_choosing_6 : decode cX11_choosing 6 = .ok (.putfield 418, 3) := by decide +kernel
theorem dX11_choosing_9 : decode cX11_choosing 9 = .ok (.iconst 0, 1) := by decide +kernel
theorem dX11_choosing_10 : decode cX11_choosing 10 = .ok (.istore_n 2, 1) := by decide +kernel
theorem dX11_choosing_11 : decode cX11_choosing 11 = .ok (.aload_n 0, 1) := by decide +kernel
theorem dX11_choosing_12 : decode cX11_choosing 12 = .ok (.getfield 302, 3) := by decide +kernel
theorem dX11_choosing_15 : decode cX11_choosing 15 = .ok (.iconst 1, 1) := by decide +kernel
theorem dX11_choosing_16 : decode cX11_choosing 16 = .ok (.isub, 1) := by decide +kernel
theorem dX11_choosing_17 : decode cX11_choosing 17 = .ok (.istore_n 3, 1) := by decide +kernel
theorem dX11_choosing_18 : decode cX11_choosing 18 = .ok (.iload_n 3, 1) := by decide +kernel
theorem dX11_choosing_19 : decode cX11_choosing 19 = .ok (.ifCond .lt 32, 3) := by decide +kernel
theorem dX11_choosing_22 : decode cX11_choosing 22 = .ok (.aload_n 0, 1) := by decide +kernel
theorem dX11_choosing_23 : decode cX11_choosing 23 = .ok (.getfield 82, 3) := by decide +kernel
theorem dX11_choosing_26 : decode cX11_choosing 26 = .ok (.iload_n 3, 1) := by decide +kernel
theorem dX11_choosing_27 : decode cX11_choosing 27 = .ok (.iaload, 1) := by decide +kernel
theorem dX11_choosing_28 : decode cX11_choosing 28 = .ok (.iload_n 1, 1) := by decide +kernel
theorem dX11_choosing_29 : decode cX11_choosing 29 = .ok (.iand, 1) := by decide +kernel
theorem dX11_choosing_30 : decode cX11_choosing 30 = .ok (.iload_n 1, 1) := by decide +kernel
theorem dX11_choosing_31 : decode cX11_choosing 31 = .ok (.if_icmp .eq 6, 3) := by decide +kernel
theorem dX11_choosing_34 : decode cX11_choosing 34 = .ok (.goto 11, 3) := by decide +kernel
theorem dX11_choosing_37 : decode cX11_choosing 37 = .ok (.aload_n 0, 1) := by decide +kernel
theorem dX11_choosing_38 : decode cX11_choosing 38 = .ok (.iload_n 3, 1) := by decide +kernel
theorem dX11_choosing_39 : decode cX11_choosing 39 = .ok (.putfield 418, 3) := by decide +kernel
theorem dX11_choosing_42 : decode cX11_choosing 42 = .ok (.iinc 2 1, 3) := by decide +kernel
theorem dX11_choosing_45 : decode cX11_choosing 45 = .ok (.iinc 3 (-1), 3) := by decide +kernel
theorem dX11_choosing_48 : decode cX11_choosing 48 = .ok (.goto (-30), 3) := by decide +kernel
theorem dX11_choosing_51 : decode cX11_choosing 51 = .ok (.iload_n 2, 1) := by decide +kernel
theorem dX11_choosing_52 : decode cX11_choosing 52 = .ok (.ireturn, 1) := by decide +kernel
set_option maxRecDepth 20000 in
theorem ggX11_choose_X11_in : GoodIn wsX11_choose wsX11_in := goodIn_r _ [9] (by decide +kernel) (by decide +kernel)
set_option maxRecDepth 20000 in
theorem gX11_choose_X11_in : GoodIn wsX11_choose (va_wsS RX11 107 yX11_in wsX11_in) := goodIn_app (goodIn_of _ (by decide +kernel)) ggX11_choose_X11_in
set_option maxRecDepth 20000 in
theorem ggX11_choose_X11_choosing : GoodIn wsX11_choose wsX11_choosing := goodIn_r _ [13, 5, 14, 15, 16, 17, 18, 8, 19, 2, 20, 21, 22, 23, 3, 24, 25, 26, 27, 28, 29, 30, 31, 32, 33, 34, 35, 36, 37, 38, 39, 49, 50, 51, 52, 53, 54, 55, 56, 57, 58, 59, 60, 61, 62, 63, 64, 65, 66, 67, 68, 69, 70, 71, 72, 73, 74, 75, 76, 77, 78, 79, 80, 81, 82, 83, 84, 85, 86, 87, 88, 89, 90, 91, 92, 93, 94, 95, 96, 97, 98, 99, 100, 101, 102, 103] (by decide +kernel) (by decide +kernel)
set_option maxRecDepth 20000 in
theorem gX11_choose_X11_choosing : GoodIn wsX11_choose (wsV RX11 421 RX11 yX11_choosing wsX11_choosing) := goodIn_app (goodIn_of _ (by decide +kernel)) ggX11_choose_X11_choosing
set_option maxRecDepth 20000 in
theorem ggX11_choose_X11_tellWay : GoodIn wsX11_choose wsX11_tellWay := goodIn_r _ [43, 3, 24, 44, 45, 46, 8, 47, 48, 4, 49, 50, 51, 52, 53, 54, 55, 56, 57, 58, 59, 60, 61, 62, 63, 64, 65, 66, 67, 68, 69, 70, 71, 72, 73, 74, 75, 76, 77, 78, 79, 80, 81, 82, 83, 84, 85, 86, 87, 88, 89, 90, 91, 92, 93, 94, 95, 96, 97, 98, 99, 100, 101, 102, 103] (by decide +kernel) (by decide +kernel)
set_option maxRecDepth 20000 in
theorem gX11_choose_X11_tellWay : GoodIn wsX11_choose (wsV RX11 314 RX11 yX11_tellWay wsX11_tellWay) := goodIn_app (goodIn_of _ (by decide +kernel)) ggX11_choose_X11_tellWay
theorem dX11_choose_0 : decode cX11_choose 0 = .ok (.aload_n 0, 1) := by decide +kernel
theorem dX11_choose_1 : decode cX11_choose 1 = .ok (.iconst 0, 1) := by decide +kernel
theorem dX11_choose_2 : decode cX11_choose 2 = .ok (.putfield 98, 3) := by decide +kernel
theorem dX11_choose_5 : decode cX11_choose 5 = .ok (.iload_n 1, 1) := by decide +kernel
theorem dX11_choose_6 : decode cX11_choose 6 = .ok (.i2l, 1) := by decide +kernel
theorem dX11_choose_7 : decode cX11_choose 7 = .ok (.lconst 0, 1) := by decide +kernel
theorem dX11_choose_8 : decode cX11_choose 8 = .ok (.iconst 1, 1) := by decide +kernel
theorem dX11_choose_9 : decode cX11_choose 9 = .ok (.aload_n 0, 1) := by decide +kernel
theorem dX11_choose_10 : decode cX11_choose 10 = .ok (.getfield 406, 3) := by decide +kernel
theorem dX11_choose_13 : decode cX11_choose 13 = .ok (.ishl, 1) := by decide +kernel
theorem dX11_choose_14 : decode cX11_choose 14 = .ok (.iconst 1, 1) := by decide +kernel
theorem dX11_choose_15 : decode cX11_choose 15 = .ok (.isub, 1) := by decide +kernel
theorem dX11_choose_16 : decode cX11_choose 16 = .ok (.i2l, 1) := by decide +kernel
theorem dX11_choose_17 : decode cX11_choose 17 = .ok (.invokestatic 107, 3) := by decide +kernel
theorem dX11_choose_20 : decode cX11_choose 20 = .ok (.ifCond .ne 5, 3) := by decide +kernel
theorem dX11_choose_23 : decode cX11_choose 23 = .ok (.iconst (-1), 1) := by decide +kernel
theorem dX11_choose_24 : decode cX11_choose 24 = .ok (.ireturn, 1) := by decide +kernel
theorem dX11_choose_25 : decode cX11_choose 25 = .ok (.aload_n 0, 1) := by decide +kernel
theorem dX11_choose_26 : decode cX11_choose 26 = .ok (.getfield 104, 3) := by decide +kernel
theorem dX11_choose_29 : decode cX11_choose 29 = .ok (.bipush 6, 2) := by decide +kernel
theorem dX11_choose_31 : decode cX11_choose 31 = .ok (.if_icmp .le 6, 3) := by decide +kernel
theorem dX11_choose_34 : decode cX11_choose 34 = .ok (.bipush (-3), 2) := by decide +kernel
theorem dX11_choose_36 : decode cX11_choose 36 = .ok (.ireturn, 1) := by decide +kernel
theorem dX11_choose_37 : decode cX11_choose 37 = .ok (.aload_n 0, 1) := by decide +kernel
theorem dX11_choose_38 : decode cX11_choose 38 = .ok (.iload_n 1, 1) := by decide +kernel
theorem dX11_choose_39 : decode cX11_choose 39 = .ok (.invokevirtual 421, 3) := by decide +kernel
theorem dX11_choose_42 : decode cX11_choose 42 = .ok (.istore_n 2, 1) := by decide +kernel
theorem dX11_choose_43 : decode cX11_choose 43 = .ok (.aload_n 0, 1) := by decide +kernel
theorem dX11_choose_44 : decode cX11_choose 44 = .ok (.iconst 0, 1) := by decide +kernel
theorem dX11_choose_45 : decode cX11_choose 45 = .ok (.putfield 101, 3) := by decide +kernel
theorem dX11_choose_48 : decode cX11_choose 48 = .ok (.iload_n 2, 1) := by decide +kernel
theorem dX11_choose_49 : decode cX11_choose 49 = .ok (.ifCond .le 11, 3) := by decide +kernel
theorem dX11_choose_52 : decode cX11_choose 52 = .ok (.aload_n 0, 1) := by decide +kernel
theorem dX11_choose_53 : decode cX11_choose 53 = .ok (.aload_n 0, 1) := by decide +kernel
theorem dX11_choose_54 : decode cX11_choose 54 = .ok (.getfield 418, 3) := by decide +kernel
theorem dX11_choose_57 : decode cX11_choose 57 = .ok (.invokevirtual 314, 3) := by decide +kernel
theorem dX11_choose_60 : decode cX11_choose 60 = .ok (.iload_n 2, 1) := by decide +kernel
theorem dX11_choose_61 : decode cX11_choose 61 = .ok (.ireturn, 1) := by decide +kernel
set_option maxRecDepth 20000 in
theorem ggX11_proof_X11_findKeeps : GoodIn wsX11_proof wsX11_findKeeps := goodIn_r _ [11, 4, 5, 3, 12, 13, 14, 10, 15, 2, 16, 17, 18, 19, 20, 21, 22, 23, 24, 25, 26, 27, 28, 29, 30, 31, 44, 45, 46, 47, 48, 49, 50, 51, 52, 53, 54, 55, 56, 57, 58, 59, 60, 61, 62, 63, 64, 65, 66, 67, 68, 69, 70, 71, 72, 73, 74, 75, 76, 77, 78, 79, 80, 81, 82, 83, 84, 85, 86, 87, 88, 89, 90, 91, 92, 93, 94, 95, 96, 97, 98] (by decide +kernel) (by decide +kernel)
set_option maxRecDepth 20000 in
theorem gX11_proof_X11_findKeeps : GoodIn wsX11_proof (wsV RX11 415 RX11 yX11_findKeeps wsX11_findKeeps) := goodIn_app (goodIn_of _ (by decide +kernel)) ggX11_proof_X11_findKeeps
set_option maxRecDepth 20000 in
theorem ggX11_proof_J6_bitCount_0f7a4 : GoodIn wsX11_proof wsJ6_bitCount_0f7a4 := goodIn_r _ [35, 36, 37, 38] (by decide +kernel) (by decide +kernel)
set_option maxRecDepth 20000 in
theorem gX11_proof_J6_bitCount_0f7a4 : GoodIn wsX11_proof (va_wsS RX11 247 yJ6_bitCount_0f7a4 wsJ6_bitCount_0f7a4) := goodIn_app (goodIn_of _ (by decide +kernel)) ggX11_proof_J6_bitCount_0f7a4
set_option maxRecDepth 20000 in
theorem ggX11_proof_X11_tell : GoodIn wsX11_proof wsX11_tell := goodIn_r _ [42, 43, 6, 44, 45, 46, 47, 48, 49, 50, 51, 52, 53, 54, 55, 56, 57, 58, 59, 60, 61, 62, 63, 64, 65, 66, 67, 68, 69, 70, 71, 72, 73, 74, 75, 76, 77, 78, 79, 80, 81, 82, 83, 84, 85, 86, 87, 88, 89, 90, 91, 92, 93, 94, 95, 96, 97, 98] (by decide +kernel) (by decide +kernel)
set_option maxRecDepth 20000 in
theorem gX11_proof_X11_tell : GoodIn wsX11_proof (wsV RX11 243 RX11 yX11_tell wsX11_tell) := goodIn_app (goodIn_of _ (by decide +kernel)) ggX11_proof_X11_tell
theorem dX11_proof_0 : decode cX11_proof 0 = .ok (.aload_n 0, 1) := by decide +kernel
theorem dX11_proof_1 : decode cX11_proof 1 = .ok (.iconst 0, 1) := by decide +kernel
theorem dX11_proof_2 : decode cX11_proof 2 = .ok (.putfield 98, 3) := by decide +kernel
theorem dX11_proof_5 : decode cX11_proof 5 = .ok (.aload_n 0, 1) := by decide +kernel
theorem dX11_proof_6 : decode cX11_proof 6 = .ok (.getfield 104, 3) := by decide +kernel
theorem dX11_proof_9 : decode cX11_proof 9 = .ok (.bipush 6, 2) := by decide +kernel
theorem dX11_proof_11 : decode cX11_proof 11 = .ok (.if_icmp .le 6, 3) := by decide +kernel
theorem dX11_proof_14 : decode cX11_proof 14 = .ok (.bipush (-3), 2) := by decide +kernel
theorem dX11_proof_16 : decode cX11_proof 16 = .ok (.ireturn, 1) := by decide +kernel
theorem dX11_proof_17 : decode cX11_proof 17 = .ok (.aload_n 0, 1) := by decide +kernel
theorem dX11_proof_18 : decode cX11_proof 18 = .ok (.invokevirtual 415, 3) := by decide +kernel
theorem dX11_proof_21 : decode cX11_proof 21 = .ok (.iconst 1, 1) := by decide +kernel
theorem dX11_proof_22 : decode cX11_proof 22 = .ok (.aload_n 0, 1) := by decide +kernel
theorem dX11_proof_23 : decode cX11_proof 23 = .ok (.getfield 406, 3) := by decide +kernel
theorem dX11_proof_26 : decode cX11_proof 26 = .ok (.ishl, 1) := by decide +kernel
theorem dX11_proof_27 : decode cX11_proof 27 = .ok (.iconst 1, 1) := by decide +kernel
theorem dX11_proof_28 : decode cX11_proof 28 = .ok (.isub, 1) := by decide +kernel
theorem dX11_proof_29 : decode cX11_proof 29 = .ok (.istore_n 1, 1) := by decide +kernel
theorem dX11_proof_30 : decode cX11_proof 30 = .ok (.iconst (-1), 1) := by decide +kernel
theorem dX11_proof_31 : decode cX11_proof 31 = .ok (.istore_n 2, 1) := by decide +kernel
theorem dX11_proof_32 : decode cX11_proof 32 = .ok (.iconst 0, 1) := by decide +kernel
theorem dX11_proof_33 : decode cX11_proof 33 = .ok (.istore_n 3, 1) := by decide +kernel
theorem dX11_proof_34 : decode cX11_proof 34 = .ok (.iload_n 3, 1) := by decide +kernel
theorem dX11_proof_35 : decode cX11_proof 35 = .ok (.iload_n 1, 1) := by decide +kernel
theorem dX11_proof_36 : decode cX11_proof 36 = .ok (.if_icmp .gt 81, 3) := by decide +kernel
theorem dX11_proof_39 : decode cX11_proof 39 = .ok (.iload_n 2, 1) := by decide +kernel
theorem dX11_proof_40 : decode cX11_proof 40 = .ok (.iconst (-1), 1) := by decide +kernel
theorem dX11_proof_41 : decode cX11_proof 41 = .ok (.if_icmp .eq 17, 3) := by decide +kernel
theorem dX11_proof_44 : decode cX11_proof 44 = .ok (.iload_n 3, 1) := by decide +kernel
theorem dX11_proof_45 : decode cX11_proof 45 = .ok (.invokestatic 247, 3) := by decide +kernel
theorem dX11_proof_48 : decode cX11_proof 48 = .ok (.iload_n 2, 1) := by decide +kernel
theorem dX11_proof_49 : decode cX11_proof 49 = .ok (.invokestatic 247, 3) := by decide +kernel
theorem dX11_proof_52 : decode cX11_proof 52 = .ok (.if_icmp .lt 6, 3) := by decide +kernel
theorem dX11_proof_55 : decode cX11_proof 55 = .ok (.goto 56, 3) := by decide +kernel
theorem dX11_proof_58 : decode cX11_proof 58 = .ok (.iconst 0, 1) := by decide +kernel
theorem dX11_proof_59 : decode cX11_proof 59 = .ok (.istore 4, 2) := by decide +kernel
theorem dX11_proof_61 : decode cX11_proof 61 = .ok (.iconst 0, 1) := by decide +kernel
theorem dX11_proof_62 : decode cX11_proof 62 = .ok (.istore 5, 2) := by decide +kernel
theorem dX11_proof_64 : decode cX11_proof 64 = .ok (.iload 5, 2) := by decide +kernel
theorem dX11_proof_66 : decode cX11_proof 66 = .ok (.aload_n 0, 1) := by decide +kernel
theorem dX11_proof_67 : decode cX11_proof 67 = .ok (.getfield 302, 3) := by decide +kernel
theorem dX11_proof_70 : decode cX11_proof 70 = .ok (.if_icmp .ge 34, 3) := by decide +kernel
theorem dX11_proof_73 : decode cX11_proof 73 = .ok (.iload 4, 2) := by decide +kernel
theorem dX11_proof_75 : decode cX11_proof 75 = .ok (.ifCond .ne 29, 3) := by decide +kernel
theorem dX11_proof_78 : decode cX11_proof 78 = .ok (.aload_n 0, 1) := by decide +kernel
theorem dX11_proof_79 : decode cX11_proof 79 = .ok (.getfield 82, 3) := by decide +kernel
theorem dX11_proof_82 : decode cX11_proof 82 = .ok (.iload 5, 2) := by decide +kernel
theorem dX11_proof_84 : decode cX11_proof 84 = .ok (.iaload, 1) := by decide +kernel
theorem dX11_proof_85 : decode cX11_proof 85 = .ok (.iload_n 3, 1) := by decide +kernel
theorem dX11_proof_86 : decode cX11_proof 86 = .ok (.iand, 1) := by decide +kernel
theorem dX11_proof_87 : decode cX11_proof 87 = .ok (.iload_n 3, 1) := by decide +kernel
theorem dX11_proof_88 : decode cX11_proof 88 = .ok (.if_icmp .ne 7, 3) := by decide +kernel
theorem dX11_proof_91 : decode cX11_proof 91 = .ok (.iconst 1, 1) := by decide +kernel
theorem dX11_proof_92 : decode cX11_proof 92 = .ok (.goto 4, 3) := by decide +kernel
theorem dX11_proof_95 : decode cX11_proof 95 = .ok (.iconst 0, 1) := by decide +kernel
theorem dX11_proof_96 : decode cX11_proof 96 = .ok (.istore 4, 2) := by decide +kernel
theorem dX11_proof_98 : decode cX11_proof 98 = .ok (.iinc 5 1, 3) := by decide +kernel
theorem dX11_proof_101 : decode cX11_proof 101 = .ok (.goto (-37), 3) := by decide +kernel
theorem dX11_proof_104 : decode cX11_proof 104 = .ok (.iload 4, 2) := by decide +kernel
theorem dX11_proof_106 : decode cX11_proof 106 = .ok (.ifCond .ne 5, 3) := by decide +kernel
theorem dX11_proof_109 : decode cX11_proof 109 = .ok (.iload_n 3, 1) := by decide +kernel
theorem dX11_proof_110 : decode cX11_proof 110 = .ok (.istore_n 2, 1) := by decide +kernel
theorem dX11_proof_111 : decode cX11_proof 111 = .ok (.iinc 3 1, 3) := by decide +kernel
theorem dX11_proof_114 : decode cX11_proof 114 = .ok (.goto (-80), 3) := by decide +kernel
theorem dX11_proof_117 : decode cX11_proof 117 = .ok (.iload_n 2, 1) := by decide +kernel
theorem dX11_proof_118 : decode cX11_proof 118 = .ok (.iconst (-1), 1) := by decide +kernel
theorem dX11_proof_119 : decode cX11_proof 119 = .ok (.if_icmp .ne 5, 3) := by decide +kernel
theorem dX11_proof_122 : decode cX11_proof 122 = .ok (.iconst 0, 1) := by decide +kernel
theorem dX11_proof_123 : decode cX11_proof 123 = .ok (.ireturn, 1) := by decide +kernel
theorem dX11_proof_124 : decode cX11_proof 124 = .ok (.aload_n 0, 1) := by decide +kernel
theorem dX11_proof_125 : decode cX11_proof 125 = .ok (.iconst 0, 1) := by decide +kernel
theorem dX11_proof_126 : decode cX11_proof 126 = .ok (.putfield 101, 3) := by decide +kernel
theorem dX11_proof_129 : decode cX11_proof 129 = .ok (.aload_n 0, 1) := by decide +kernel
theorem dX11_proof_130 : decode cX11_proof 130 = .ok (.iload_n 2, 1) := by decide +kernel
theorem dX11_proof_131 : decode cX11_proof 131 = .ok (.i2l, 1) := by decide +kernel
theorem dX11_proof_132 : decode cX11_proof 132 = .ok (.invokevirtual 243, 3) := by decide +kernel
theorem dX11_proof_135 : decode cX11_proof 135 = .ok (.iload_n 2, 1) := by decide +kernel
theorem dX11_proof_136 : decode cX11_proof 136 = .ok (.invokestatic 247, 3) := by decide +kernel
theorem dX11_proof_139 : decode cX11_proof 139 = .ok (.ireturn, 1) := by decide +kernel
set_option maxRecDepth 20000 in
theorem ggX11_decree_X11_in : GoodIn wsX11_decree wsX11_in := goodIn_r _ [12] (by decide +kernel) (by decide +kernel)
set_option maxRecDepth 20000 in
theorem gX11_decree_X11_in : GoodIn wsX11_decree (va_wsS RX11 107 yX11_in wsX11_in) := goodIn_app (goodIn_of _ (by decide +kernel)) ggX11_decree_X11_in
set_option maxRecDepth 20000 in
theorem ggX11_decree_X11_choosing : GoodIn wsX11_decree wsX11_choosing := goodIn_r _ [16, 6, 17, 18, 19, 20, 21, 11, 22, 2, 23, 24, 25, 26, 3, 5, 27, 28, 29, 30, 31, 32, 33, 34, 35, 36, 37, 38, 39, 40, 41, 42, 43, 44, 45, 46, 47, 48, 49, 50, 51, 52, 53, 54, 55, 56, 57, 58, 59, 60, 61, 62, 63, 64, 65, 66, 67, 68, 69, 70, 71, 72, 73, 74, 75, 76, 77, 78, 79, 80, 81, 82, 83, 84, 85, 86, 87, 88, 89, 90, 91, 92, 93, 94, 95, 96] (by decide +kernel) (by decide +kernel)
set_option maxRecDepth 20000 in
theorem gX11_decree_X11_choosing : GoodIn wsX11_decree (wsV RX11 421 RX11 yX11_choosing wsX11_choosing) := goodIn_app (goodIn_of _ (by decide +kernel)) ggX11_decree_X11_choosing
theorem dX11_decree_0 : decode cX11_decree 0 = .ok (.aload_n 0, 1) := by decide +kernel
theorem dX11_decree_1 : decode cX11_decree 1 = .ok (.iconst 0, 1) := by decide +kernel
theorem dX11_decree_2 : decode cX11_decree 2 = .ok (.putfield 98, 3) := by decide +kernel
theorem dX11_decree_5 : decode cX11_decree 5 = .ok (.iload_n 1, 1) := by decide +kernel
theorem dX11_decree_6 : decode cX11_decree 6 = .ok (.i2l, 1) := by decide +kernel
theorem dX11_decree_7 : decode cX11_decree 7 = .ok (.lconst 0, 1) := by decide +kernel
theorem dX11_decree_8 : decode cX11_decree 8 = .ok (.iconst 1, 1) := by decide +kernel
theorem dX11_decree_9 : decode cX11_decree 9 = .ok (.aload_n 0, 1) := by decide +kernel
theorem dX11_decree_10 : decode cX11_decree 10 = .ok (.getfield 406, 3) := by decide +kernel
theorem dX11_decree_13 : decode cX11_decree 13 = .ok (.ishl, 1) := by decide +kernel
theorem dX11_decree_14 : decode cX11_decree 14 = .ok (.iconst 1, 1) := by decide +kernel
theorem dX11_decree_15 : decode cX11_decree 15 = .ok (.isub, 1) := by decide +kernel
theorem dX11_decree_16 : decode cX11_decree 16 = .ok (.i2l, 1) := by decide +kernel
theorem dX11_decree_17 : decode cX11_decree 17 = .ok (.invokestatic 107, 3) := by decide +kernel
theorem dX11_decree_20 : decode cX11_decree 20 = .ok (.ifCond .ne 5, 3) := by decide +kernel
theorem dX11_decree_23 : decode cX11_decree 23 = .ok (.iconst (-1), 1) := by decide +kernel
theorem dX11_decree_24 : decode cX11_decree 24 = .ok (.ireturn, 1) := by decide +kernel
theorem dX11_decree_25 : decode cX11_decree 25 = .ok (.aload_n 0, 1) := by decide +kernel
theorem dX11_decree_26 : decode cX11_decree 26 = .ok (.getfield 104, 3) := by decide +kernel
theorem dX11_decree_29 : decode cX11_decree 29 = .ok (.bipush 6, 2) := by decide +kernel
theorem dX11_decree_31 : decode cX11_decree 31 = .ok (.if_icmp .le 6, 3) := by decide +kernel
theorem dX11_decree_34 : decode cX11_decree 34 = .ok (.bipush (-3), 2) := by decide +kernel
theorem dX11_decree_36 : decode cX11_decree 36 = .ok (.ireturn, 1) := by decide +kernel
theorem dX11_decree_37 : decode cX11_decree 37 = .ok (.aload_n 0, 1) := by decide +kernel
theorem dX11_decree_38 : decode cX11_decree 38 = .ok (.iload_n 1, 1) := by decide +kernel
theorem dX11_decree_39 : decode cX11_decree 39 = .ok (.invokevirtual 421, 3) := by decide +kernel
theorem dX11_decree_42 : decode cX11_decree 42 = .ok (.istore_n 2, 1) := by decide +kernel
theorem dX11_decree_43 : decode cX11_decree 43 = .ok (.iload_n 2, 1) := by decide +kernel
theorem dX11_decree_44 : decode cX11_decree 44 = .ok (.ifCond .ne 5, 3) := by decide +kernel
theorem dX11_decree_47 : decode cX11_decree 47 = .ok (.iconst 0, 1) := by decide +kernel
theorem dX11_decree_48 : decode cX11_decree 48 = .ok (.ireturn, 1) := by decide +kernel
theorem dX11_decree_49 : decode cX11_decree 49 = .ok (.iconst 0, 1) := by decide +kernel
theorem dX11_decree_50 : decode cX11_decree 50 = .ok (.istore_n 3, 1) := by decide +kernel
theorem dX11_decree_51 : decode cX11_decree 51 = .ok (.iload_n 3, 1) := by decide +kernel
theorem dX11_decree_52 : decode cX11_decree 52 = .ok (.bipush 12, 2) := by decide +kernel
theorem dX11_decree_54 : decode cX11_decree 54 = .ok (.if_icmp .ge 41, 3) := by decide +kernel
theorem dX11_decree_57 : decode cX11_decree 57 = .ok (.aload_n 0, 1) := by decide +kernel
theorem dX11_decree_58 : decode cX11_decree 58 = .ok (.getfield 19, 3) := by decide +kernel
theorem dX11_decree_61 : decode cX11_decree 61 = .ok (.iload_n 3, 1) := by decide +kernel
theorem dX11_decree_62 : decode cX11_decree 62 = .ok (.iload_n 3, 1) := by decide +kernel
theorem dX11_decree_63 : decode cX11_decree 63 = .ok (.aload_n 0, 1) := by decide +kernel
theorem dX11_decree_64 : decode cX11_decree 64 = .ok (.getfield 104, 3) := by decide +kernel
theorem dX11_decree_67 : decode cX11_decree 67 = .ok (.if_icmp .ge 20, 3) := by decide +kernel
theorem dX11_decree_70 : decode cX11_decree 70 = .ok (.aload_n 0, 1) := by decide +kernel
theorem dX11_decree_71 : decode cX11_decree 71 = .ok (.getfield 57, 3) := by decide +kernel
theorem dX11_decree_74 : decode cX11_decree 74 = .ok (.bipush 6, 2) := by decide +kernel
theorem dX11_decree_76 : decode cX11_decree 76 = .ok (.aload_n 0, 1) := by decide +kernel
theorem dX11_decree_77 : decode cX11_decree 77 = .ok (.getfield 418, 3) := by decide +kernel
theorem dX11_decree_80 : decode cX11_decree 80 = .ok (.imul, 1) := by decide +kernel
theorem dX11_decree_81 : decode cX11_decree 81 = .ok (.iload_n 3, 1) := by decide +kernel
theorem dX11_decree_82 : decode cX11_decree 82 = .ok (.iadd, 1) := by decide +kernel
theorem dX11_decree_83 : decode cX11_decree 83 = .ok (.iaload, 1) := by decide +kernel
theorem dX11_decree_84 : decode cX11_decree 84 = .ok (.goto 4, 3) := by decide +kernel
theorem dX11_decree_87 : decode cX11_decree 87 = .ok (.iload_n 3, 1) := by decide +kernel
theorem dX11_decree_88 : decode cX11_decree 88 = .ok (.iastore, 1) := by decide +kernel
theorem dX11_decree_89 : decode cX11_decree 89 = .ok (.iinc 3 1, 3) := by decide +kernel
theorem dX11_decree_92 : decode cX11_decree 92 = .ok (.goto (-41), 3) := by decide +kernel
theorem dX11_decree_95 : decode cX11_decree 95 = .ok (.aload_n 0, 1) := by decide +kernel
theorem dX11_decree_96 : decode cX11_decree 96 = .ok (.iconst 1, 1) := by decide +kernel
theorem dX11_decree_97 : decode cX11_decree 97 = .ok (.putfield 111, 3) := by decide +kernel
theorem dX11_decree_100 : decode cX11_decree 100 = .ok (.aload_n 0, 1) := by decide +kernel
theorem dX11_decree_101 : decode cX11_decree 101 = .ok (.lconst 0, 1) := by decide +kernel
theorem dX11_decree_102 : decode cX11_decree 102 = .ok (.putfield 197, 3) := by decide +kernel
theorem dX11_decree_105 : decode cX11_decree 105 = .ok (.iload_n 2, 1) := by decide +kernel
theorem dX11_decree_106 : decode cX11_decree 106 = .ok (.ireturn, 1) := by decide +kernel
set_option maxRecDepth 20000 in
theorem ggX11_swap_X11_isOrder : GoodIn wsX11_swap wsX11_isOrder := goodIn_r _ [6, 7, 8, 9, 5, 10, 16, 17, 18, 19, 20, 21, 22, 23, 24, 25, 26, 27, 28, 29, 30, 31, 32, 33, 34, 35, 36, 37, 38, 39, 40, 41, 42, 43, 44, 45, 46, 47, 48, 49, 50, 51, 52, 53, 54, 55, 56, 57, 58, 59, 60, 61, 62, 63, 64, 65, 66, 67, 68, 69, 70] (by decide +kernel) (by decide +kernel)
set_option maxRecDepth 20000 in
theorem gX11_swap_X11_isOrder : GoodIn wsX11_swap (wsV RX11 205 RX11 yX11_isOrder wsX11_isOrder) := goodIn_app (goodIn_of _ (by decide +kernel)) ggX11_swap_X11_isOrder
theorem dX11_swap_0 : decode cX11_swap 0 = .ok (.aload_n 0, 1) := by decide +kernel
theorem dX11_swap_1 : decode cX11_swap 1 = .ok (.iconst 0, 1) := by decide +kernel
theorem dX11_swap_2 : decode cX11_swap 2 = .ok (.putfield 98, 3) := by decide +kernel
theorem dX11_swap_5 : decode cX11_swap 5 = .ok (.aload_n 0, 1) := by decide +kernel
theorem dX11_swap_6 : decode cX11_swap 6 = .ok (.iload_n 1, 1) := by decide +kernel
theorem dX11_swap_7 : decode cX11_swap 7 = .ok (.invokevirtual 205, 3) := by decide +kernel
theorem dX11_swap_10 : decode cX11_swap 10 = .ok (.ifCond .eq 11, 3) := by decide +kernel
theorem dX11_swap_13 : decode cX11_swap 13 = .ok (.aload_n 0, 1) := by decide +kernel
theorem dX11_swap_14 : decode cX11_swap 14 = .ok (.iload_n 2, 1) := by decide +kernel
theorem dX11_swap_15 : decode cX11_swap 15 = .ok (.invokevirtual 205, 3) := by decide +kernel
theorem dX11_swap_18 : decode cX11_swap 18 = .ok (.ifCond .ne 5, 3) := by decide +kernel
theorem dX11_swap_21 : decode cX11_swap 21 = .ok (.iconst 0, 1) := by decide +kernel
theorem dX11_swap_22 : decode cX11_swap 22 = .ok (.ireturn, 1) := by decide +kernel
theorem dX11_swap_23 : decode cX11_swap 23 = .ok (.aload_n 0, 1) := by decide +kernel
theorem dX11_swap_24 : decode cX11_swap 24 = .ok (.iload_n 1, 1) := by decide +kernel
theorem dX11_swap_25 : decode cX11_swap 25 = .ok (.iload_n 2, 1) := by decide +kernel
set_option maxRecDepth 20000 in
theorem ggX11_soonest_X11_findPeriod : GoodIn wsX11_soonest wsX11_findPeriod := goodIn_r _ [8, 9, 10, 11, 12, 7, 13, 14, 15, 2, 16, 17, 18, 19, 20, 21, 22, 23, 24, 34, 35, 36, 37, 38, 39, 40, 41, 42, 43, 44, 45, 46, 47, 48, 49, 50, 51, 52, 53, 54, 55, 56, 57, 58, 59, 60, 61, 62, 63, 64, 65, 66, 67, 68, 69, 70, 71, 72, 73, 74, 75, 76, 77, 78, 79, 80, 81, 82, 83, 84, 85, 86, 87, 88] (by decide +kernel) (by decide +kernel)
set_option maxRecDepth 20000 in
theorem gX11_soonest_X11_findPeriod : GoodIn wsX11_soonest (wsV RX11 256 RX11 yX11_findPeriod wsX11_findPeriod) := goodIn_app (goodIn_of _ (by decide +kernel)) ggX11_soonest_X11_findPeriod
set_option maxRecDepth 20000 in
theorem ggX11_soonest_X11_tell : GoodIn wsX11_soonest wsX11_tell := goodIn_r _ [32, 33, 3, 34, 35, 36, 37, 38, 39, 40, 41, 42, 43, 44, 45, 46, 47, 48, 49, 50, 51, 52, 53, 54, 55, 56, 57, 58, 59, 60, 61, 62, 63, 64, 65, 66, 67, 68, 69, 70, 71, 72, 73, 74, 75, 76, 77, 78, 79, 80, 81, 82, 83, 84, 85, 86, 87, 88] (by decide +kernel) (by decide +kernel)
set_option maxRecDepth 20000 in
theorem gX11_soonest_X11_tell : GoodIn wsX11_soonest (wsV RX11 243 RX11 yX11_tell wsX11_tell) := goodIn_app (goodIn_of _ (by decide +kernel)) ggX11_soonest_X11_tell
theorem dX11_soonest_0 : decode cX11_soonest 0 = .ok (.aload_n 0, 1) := by decide +kernel
theorem dX11_soonest_1 : decode cX11_soonest 1 = .ok (.iconst 0, 1) := by decide +kernel
theorem dX11_soonest_2 : decode cX11_soonest 2 = .ok (.putfield 98, 3) := by decide +kernel
theorem dX11_soonest_5 : decode cX11_soonest 5 = .ok (.aload_n 0, 1) := by decide +kernel
theorem dX11_soonest_6 : decode cX11_soonest 6 = .ok (.getfield 111, 3) := by decide +kernel
theorem dX11_soonest_9 : decode cX11_soonest 9 = .ok (.iconst 2, 1) := by decide +kernel
theorem dX11_soonest_10 : decode cX11_soonest 10 = .ok (.if_icmp .ge 5, 3) := by decide +kernel
theorem dX11_soonest_13 : decode cX11_soonest 13 = .ok (.iconst (-1), 1) := by decide +kernel
theorem dX11_soonest_14 : decode cX11_soonest 14 = .ok (.ireturn, 1) := by decide +kernel
theorem dX11_soonest_15 : decode cX11_soonest 15 = .ok (.aload_n 0, 1) := by decide +kernel
theorem dX11_soonest_16 : decode cX11_soonest 16 = .ok (.invokevirtual 256, 3) := by decide +kernel
theorem dX11_soonest_19 : decode cX11_soonest 19 = .ok (.istore_n 1, 1) := by decide +kernel
theorem dX11_soonest_20 : decode cX11_soonest 20 = .ok (.iconst (-1), 1) := by decide +kernel
theorem dX11_soonest_21 : decode cX11_soonest 21 = .ok (.istore_n 2, 1) := by decide +kernel
theorem dX11_soonest_22 : decode cX11_soonest 22 = .ok (.iconst 0, 1) := by decide +kernel
theorem dX11_soonest_23 : decode cX11_soonest 23 = .ok (.istore_n 3, 1) := by decide +kernel
theorem dX11_soonest_24 : decode cX11_soonest 24 = .ok (.iconst 0, 1) := by decide +kernel
theorem dX11_soonest_25 : decode cX11_soonest 25 = .ok (.istore 4, 2) := by decide +kernel
theorem dX11_soonest_27 : decode cX11_soonest 27 = .ok (.iconst 0, 1) := by decide +kernel
theorem dX11_soonest_28 : decode cX11_soonest 28 = .ok (.istore 5, 2) := by decide +kernel
theorem dX11_soonest_30 : decode cX11_soonest 30 = .ok (.iload 5, 2) := by decide +kernel
theorem dX11_soonest_32 : decode cX11_soonest 32 = .ok (.aload_n 0, 1) := by decide +kernel
theorem dX11_soonest_33 : decode cX11_soonest 33 = .ok (.getfield 111, 3) := by decide +kernel
theorem dX11_soonest_36 : decode cX11_soonest 36 = .ok (.if_icmp .ge 76, 3) := by decide +kernel
theorem dX11_soonest_39 : decode cX11_soonest 39 = .ok (.iload 5, 2) := by decide +kernel
theorem dX11_soonest_41 : decode cX11_soonest 41 = .ok (.iconst 1, 1) := by decide +kernel
theorem dX11_soonest_42 : decode cX11_soonest 42 = .ok (.iadd, 1) := by decide +kernel
theorem dX11_soonest_43 : decode cX11_soonest 43 = .ok (.istore 6, 2) := by decide +kernel
theorem dX11_soonest_45 : decode cX11_soonest 45 = .ok (.iload 6, 2) := by decide +kernel
theorem dX11_soonest_47 : decode cX11_soonest 47 = .ok (.aload_n 0, 1) := by decide +kernel
theorem dX11_soonest_48 : decode cX11_soonest 48 = .ok (.getfield 111, 3) := by decide +kernel
theorem dX11_soonest_51 : decode cX11_soonest 51 = .ok (.if_icmp .ge 55, 3) := by decide +kernel
theorem dX11_soonest_54 : decode cX11_soonest 54 = .ok (.aload_n 0, 1) := by decide +kernel
theorem dX11_soonest_55 : decode cX11_soonest 55 = .ok (.iload 5, 2) := by decide +kernel
theorem dX11_soonest_57 : decode cX11_soonest 57 = .ok (.iload 6, 2) := by decide +kernel
theorem dX11_soonest_106 : decode cX11_soonest 106 = .ok (.iinc 5 1, 3) := by decide +kernel
theorem dX11_soonest_109 : decode cX11_soonest 109 = .ok (.goto (-79), 3) := by decide +kernel
theorem dX11_soonest_112 : decode cX11_soonest 112 = .ok (.aload_n 0, 1) := by decide +kernel
theorem dX11_soonest_113 : decode cX11_soonest 113 = .ok (.iconst 0, 1) := by decide +kernel
theorem dX11_soonest_114 : decode cX11_soonest 114 = .ok (.putfield 101, 3) := by decide +kernel
theorem dX11_soonest_117 : decode cX11_soonest 117 = .ok (.aload_n 0, 1) := by decide +kernel
theorem dX11_soonest_118 : decode cX11_soonest 118 = .ok (.iload_n 3, 1) := by decide +kernel
theorem dX11_soonest_119 : decode cX11_soonest 119 = .ok (.i2l, 1) := by decide +kernel
theorem dX11_soonest_120 : decode cX11_soonest 120 = .ok (.invokevirtual 243, 3) := by decide +kernel
theorem dX11_soonest_123 : decode cX11_soonest 123 = .ok (.aload_n 0, 1) := by decide +kernel
theorem dX11_soonest_124 : decode cX11_soonest 124 = .ok (.iload 4, 2) := by decide +kernel
theorem dX11_soonest_126 : decode cX11_soonest 126 = .ok (.i2l, 1) := by decide +kernel
theorem dX11_soonest_127 : decode cX11_soonest 127 = .ok (.invokevirtual 243, 3) := by decide +kernel
theorem dX11_soonest_130 : decode cX11_soonest 130 = .ok (.aload_n 0, 1) := by decide +kernel
theorem dX11_soonest_131 : decode cX11_soonest 131 = .ok (.iload_n 1, 1) := by decide +kernel
theorem dX11_soonest_132 : decode cX11_soonest 132 = .ok (.i2l, 1) := by decide +kernel
theorem dX11_soonest_133 : decode cX11_soonest 133 = .ok (.invokevirtual 243, 3) := by decide +kernel
theorem dX11_soonest_136 : decode cX11_soonest 136 = .ok (.iload_n 2, 1) := by decide +kernel
theorem dX11_soonest_137 : decode cX11_soonest 137 = .ok (.ireturn, 1) := by decide +kernel
set_option maxRecDepth 20000 in
theorem ggX11_keep_X11_in : GoodIn wsX11_keep wsX11_in := goodIn_r _ [17] (by decide +kernel) (by decide +kernel)
set_option maxRecDepth 20000 in
theorem gX11_keep_X11_in : GoodIn wsX11_keep (va_wsS RX11 107 yX11_in wsX11_in) := goodIn_app (goodIn_of _ (by decide +kernel)) ggX11_keep_X11_in
theorem dX11_keep_0 : decode cX11_keep 0 = .ok (.aload_n 0, 1) := by decide +kernel
theorem dX11_keep_1 : decode cX11_keep 1 = .ok (.iconst 0, 1) := by decide +kernel
theorem dX11_keep_2 : decode cX11_keep 2 = .ok (.putfield 98, 3) := by decide +kernel
theorem dX11_keep_5 : decode cX11_keep 5 = .ok (.iload_n 1, 1) := by decide +kernel
theorem dX11_keep_6 : decode cX11_keep 6 = .ok (.i2l, 1) := by decide +kernel
theorem dX11_keep_7 : decode cX11_keep 7 = .ok (.lconst 0, 1) := by decide +kernel
theorem dX11_keep_8 : decode cX11_keep 8 = .ok (.lconst 1, 1) := by decide +kernel
theorem dX11_keep_9 : decode cX11_keep 9 = .ok (.invokestatic 107, 3) := by decide +kernel
theorem dX11_keep_12 : decode cX11_keep 12 = .ok (.ifCond .ne 5, 3) := by decide +kernel
theorem dX11_keep_15 : decode cX11_keep 15 = .ok (.iconst 0, 1) := by decide +kernel
theorem dX11_keep_16 : decode cX11_keep 16 = .ok (.ireturn, 1) := by decide +kernel
theorem dX11_keep_17 : decode cX11_keep 17 = .ok (.aload_n 0, 1) := by decide +kernel
theorem dX11_keep_18 : decode cX11_keep 18 = .ok (.getfield 91, 3) := by decide +kernel
theorem dX11_keep_21 : decode cX11_keep 21 = .ok (.iload_n 1, 1) := by decide +kernel
theorem dX11_keep_22 : decode cX11_keep 22 = .ok (.iconst 1, 1) := by decide +kernel
theorem dX11_keep_23 : decode cX11_keep 23 = .ok (.bastore, 1) := by decide +kernel
theorem dX11_keep_24 : decode cX11_keep 24 = .ok (.aload_n 0, 1) := by decide +kernel
theorem dX11_keep_25 : decode cX11_keep 25 = .ok (.getfield 95, 3) := by decide +kernel
theorem dX11_keep_28 : decode cX11_keep 28 = .ok (.iload_n 1, 1) := by decide +kernel
theorem dX11_keep_29 : decode cX11_keep 29 = .ok (.aload_n 0, 1) := by decide +kernel
theorem dX11_keep_30 : decode cX11_keep 30 = .ok (.getfield 169, 3) := by decide +kernel
theorem dX11_keep_33 : decode cX11_keep 33 = .ok (.iastore, 1) := by decide +kernel
theorem dX11_keep_34 : decode cX11_keep 34 = .ok (.bipush 110, 2) := by decide +kernel
theorem dX11_keep_36 : decode cX11_keep 36 = .ok (.iload_n 1, 1) := by decide +kernel
theorem dX11_keep_37 : decode cX11_keep 37 = .ok (.imul, 1) := by decide +kernel
theorem dX11_keep_38 : decode cX11_keep 38 = .ok (.istore_n 2, 1) := by decide +kernel
theorem dX11_keep_39 : decode cX11_keep 39 = .ok (.aload_n 0, 1) := by decide +kernel
theorem dX11_keep_40 : decode cX11_keep 40 = .ok (.getfield 85, 3) := by decide +kernel
theorem dX11_keep_43 : decode cX11_keep 43 = .ok (.iload_n 2, 1) := by decide +kernel
theorem dX11_keep_44 : decode cX11_keep 44 = .ok (.aload_n 0, 1) := by decide +kernel
theorem dX11_keep_45 : decode cX11_keep 45 = .ok (.getfield 111, 3) := by decide +kernel
theorem dX11_keep_48 : decode cX11_keep 48 = .ok (.iastore, 1) := by decide +kernel
theorem dX11_keep_49 : decode cX11_keep 49 = .ok (.aload_n 0, 1) := by decide +kernel
theorem dX11_keep_50 : decode cX11_keep 50 = .ok (.getfield 85, 3) := by decide +kernel
theorem dX11_keep_53 : decode cX11_keep 53 = .ok (.iload_n 2, 1) := by decide +kernel
theorem dX11_keep_54 : decode cX11_keep 54 = .ok (.iconst 1, 1) := by decide +kernel
theorem dX11_keep_55 : decode cX11_keep 55 = .ok (.iadd, 1) := by decide +kernel
theorem dX11_keep_56 : decode cX11_keep 56 = .ok (.aload_n 0, 1) := by decide +kernel
theorem dX11_keep_57 : decode cX11_keep 57 = .ok (.getfield 114, 3) := by decide +kernel
theorem dX11_keep_60 : decode cX11_keep 60 = .ok (.iastore, 1) := by decide +kernel
theorem dX11_keep_61 : decode cX11_keep 61 = .ok (.iconst 0, 1) := by decide +kernel
theorem dX11_keep_62 : decode cX11_keep 62 = .ok (.istore_n 3, 1) := by decide +kernel
theorem dX11_keep_63 : decode cX11_keep 63 = .ok (.iload_n 3, 1) := by decide +kernel
theorem dX11_keep_64 : decode cX11_keep 64 = .ok (.bipush 84, 2) := by decide +kernel
theorem dX11_keep_66 : decode cX11_keep 66 = .ok (.if_icmp .ge 25, 3) := by decide +kernel
theorem dX11_keep_69 : decode cX11_keep 69 = .ok (.aload_n 0, 1) := by decide +kernel
theorem dX11_keep_70 : decode cX11_keep 70 = .ok (.getfield 85, 3) := by decide +kernel
theorem dX11_keep_73 : decode cX11_keep 73 = .ok (.iload_n 2, 1) := by decide +kernel
theorem dX11_keep_74 : decode cX11_keep 74 = .ok (.iconst 2, 1) := by decide +kernel
theorem dX11_keep_75 : decode cX11_keep 75 = .ok (.iadd, 1) := by decide +kernel
theorem dX11_keep_76 : decode cX11_keep 76 = .ok (.iload_n 3, 1) := by decide +kernel
theorem dX11_keep_77 : decode cX11_keep 77 = .ok (.iadd, 1) := by decide +kernel
theorem dX11_keep_78 : decode cX11_keep 78 = .ok (.aload_n 0, 1) := by decide +kernel
theorem dX11_keep_79 : decode cX11_keep 79 = .ok (.getfield 19, 3) := by decide +kernel
theorem dX11_keep_82 : decode cX11_keep 82 = .ok (.iload_n 3, 1) := by decide +kernel
theorem dX11_keep_83 : decode cX11_keep 83 = .ok (.iaload, 1) := by decide +kernel
theorem dX11_keep_84 : decode cX11_keep 84 = .ok (.iastore, 1) := by decide +kernel
theorem dX11_keep_85 : decode cX11_keep 85 = .ok (.iinc 3 1, 3) := by decide +kernel
theorem dX11_keep_88 : decode cX11_keep 88 = .ok (.goto (-25), 3) := by decide +kernel
theorem dX11_keep_91 : decode cX11_keep 91 = .ok (.iinc 2 86, 3) := by decide +kernel
theorem dX11_keep_94 : decode cX11_keep 94 = .ok (.iconst 0, 1) := by decide +kernel
theorem dX11_keep_95 : decode cX11_keep 95 = .ok (.istore_n 3, 1) := by decide +kernel
theorem dX11_keep_96 : decode cX11_keep 96 = .ok (.iload_n 3, 1) := by decide +kernel
theorem dX11_keep_97 : decode cX11_keep 97 = .ok (.bipush 12, 2) := by decide +kernel
theorem dX11_keep_99 : decode cX11_keep 99 = .ok (.if_icmp .ge 23, 3) := by decide +kernel
theorem dX11_keep_102 : decode cX11_keep 102 = .ok (.aload_n 0, 1) := by decide +kernel
theorem dX11_keep_103 : decode cX11_keep 103 = .ok (.getfield 85, 3) := by decide +kernel
theorem dX11_keep_106 : decode cX11_keep 106 = .ok (.iload_n 2, 1) := by decide +kernel
theorem dX11_keep_107 : decode cX11_keep 107 = .ok (.iload_n 3, 1) := by decide +kernel
theorem dX11_keep_108 : decode cX11_keep 108 = .ok (.iadd, 1) := by decide +kernel
theorem dX11_keep_109 : decode cX11_keep 109 = .ok (.aload_n 0, 1) := by decide +kernel
theorem dX11_keep_110 : decode cX11_keep 110 = .ok (.getfield 16, 3) := by decide +kernel
theorem dX11_keep_113 : decode cX11_keep 113 = .ok (.iload_n 3, 1) := by decide +kernel
theorem dX11_keep_114 : decode cX11_keep 114 = .ok (.iaload, 1) := by decide +kernel
theorem dX11_keep_115 : decode cX11_keep 115 = .ok (.iastore, 1) := by decide +kernel
theorem dX11_keep_116 : decode cX11_keep 116 = .ok (.iinc 3 1, 3) := by decide +kernel
theorem dX11_keep_119 : decode cX11_keep 119 = .ok (.goto (-23), 3) := by decide +kernel
theorem dX11_keep_122 : decode cX11_keep 122 = .ok (.iinc 2 12, 3) := by decide +kernel
theorem dX11_keep_125 : decode cX11_keep 125 = .ok (.aload_n 0, 1) := by decide +kernel
theorem dX11_keep_126 : decode cX11_keep 126 = .ok (.getfield 88, 3) := by decide +kernel
theorem dX11_keep_129 : decode cX11_keep 129 = .ok (.bipush 13, 2) := by decide +kernel
theorem dX11_keep_131 : decode cX11_keep 131 = .ok (.iload_n 1, 1) := by decide +kernel
theorem dX11_keep_132 : decode cX11_keep 132 = .ok (.imul, 1) := by decide +kernel
theorem dX11_keep_133 : decode cX11_keep 133 = .ok (.aload_n 0, 1) := by decide +kernel
theorem dX11_keep_134 : decode cX11_keep 134 = .ok (.getfield 197, 3) := by decide +kernel
theorem dX11_keep_137 : decode cX11_keep 137 = .ok (.lastore, 1) := by decide +kernel
theorem dX11_keep_138 : decode cX11_keep 138 = .ok (.iconst 0, 1) := by decide +kernel
theorem dX11_keep_139 : decode cX11_keep 139 = .ok (.istore_n 3, 1) := by decide +kernel
theorem dX11_keep_140 : decode cX11_keep 140 = .ok (.iload_n 3, 1) := by decide +kernel
theorem dX11_keep_141 : decode cX11_keep 141 = .ok (.bipush 12, 2) := by decide +kernel
theorem dX11_keep_143 : decode cX11_keep 143 = .ok (.if_icmp .ge 42, 3) := by decide +kernel
theorem dX11_keep_146 : decode cX11_keep 146 = .ok (.aload_n 0, 1) := by decide +kernel
theorem dX11_keep_147 : decode cX11_keep 147 = .ok (.getfield 85, 3) := by decide +kernel
theorem dX11_keep_150 : decode cX11_keep 150 = .ok (.iload_n 2, 1) := by decide +kernel
theorem dX11_keep_151 : decode cX11_keep 151 = .ok (.iload_n 3, 1) := by decide +kernel
theorem dX11_keep_152 : decode cX11_keep 152 = .ok (.iadd, 1) := by decide +kernel
theorem dX11_keep_153 : decode cX11_keep 153 = .ok (.aload_n 0, 1) := by decide +kernel
theorem dX11_keep_154 : decode cX11_keep 154 = .ok (.getfield 22, 3) := by decide +kernel
theorem dX11_keep_157 : decode cX11_keep 157 = .ok (.iload_n 3, 1) := by decide +kernel
theorem dX11_keep_158 : decode cX11_keep 158 = .ok (.iaload, 1) := by decide +kernel
theorem dX11_keep_159 : decode cX11_keep 159 = .ok (.iastore, 1) := by decide +kernel
theorem dX11_keep_160 : decode cX11_keep 160 = .ok (.aload_n 0, 1) := by decide +kernel
theorem dX11_keep_161 : decode cX11_keep 161 = .ok (.getfield 88, 3) := by decide +kernel
theorem dX11_keep_164 : decode cX11_keep 164 = .ok (.bipush 13, 2) := by decide +kernel
theorem dX11_keep_166 : decode cX11_keep 166 = .ok (.iload_n 1, 1) := by decide +kernel
theorem dX11_keep_167 : decode cX11_keep 167 = .ok (.imul, 1) := by decide +kernel
theorem dX11_keep_168 : decode cX11_keep 168 = .ok (.iconst 1, 1) := by decide +kernel
theorem dX11_keep_169 : decode cX11_keep 169 = .ok (.iadd, 1) := by decide +kernel
theorem dX11_keep_170 : decode cX11_keep 170 = .ok (.iload_n 3, 1) := by decide +kernel
theorem dX11_keep_171 : decode cX11_keep 171 = .ok (.iadd, 1) := by decide +kernel
theorem dX11_keep_172 : decode cX11_keep 172 = .ok (.aload_n 0, 1) := by decide +kernel
theorem dX11_keep_173 : decode cX11_keep 173 = .ok (.getfield 25, 3) := by decide +kernel
theorem dX11_keep_176 : decode cX11_keep 176 = .ok (.iload_n 3, 1) := by decide +kernel
theorem dX11_keep_177 : decode cX11_keep 177 = .ok (.laload, 1) := by decide +kernel
theorem dX11_keep_178 : decode cX11_keep 178 = .ok (.lastore, 1) := by decide +kernel
theorem dX11_keep_179 : decode cX11_keep 179 = .ok (.iinc 3 1, 3) := by decide +kernel
theorem dX11_keep_182 : decode cX11_keep 182 = .ok (.goto (-42), 3) := by decide +kernel
theorem dX11_keep_185 : decode cX11_keep 185 = .ok (.iconst 1, 1) := by decide +kernel
theorem dX11_keep_186 : decode cX11_keep 186 = .ok (.ireturn, 1) := by decide +kernel
set_option maxRecDepth 20000 in
theorem ggX11_again_X11_in : GoodIn wsX11_again wsX11_in := goodIn_r _ [17] (by decide +kernel) (by decide +kernel)
set_option maxRecDepth 20000 in
theorem gX11_again_X11_in : GoodIn wsX11_again (va_wsS RX11 107 yX11_in wsX11_in) := goodIn_app (goodIn_of _ (by decide +kernel)) ggX11_again_X11_in
theorem dX11_again_0 : decode cX11_again 0 = .ok (.aload_n 0, 1) := by decide +kernel
theorem dX11_again_1 : decode cX11_again 1 = .ok (.iconst 0, 1) := by decide +kernel
theorem dX11_again_2 : decode cX11_again 2 = .ok (.putfield 98, 3) := by decide +kernel
theorem dX11_again_5 : decode cX11_again 5 = .ok (.iload_n 1, 1) := by decide +kernel
theorem dX11_again_6 : decode cX11_again 6 = .ok (.i2l, 1) := by decide +kernel
theorem dX11_again_7 : decode cX11_again 7 = .ok (.lconst 0, 1) := by decide +kernel
theorem dX11_again_8 : decode cX11_again 8 = .ok (.lconst 1, 1) := by decide +kernel
theorem dX11_again_9 : decode cX11_again 9 = .ok (.invokestatic 107, 3) := by decide +kernel
theorem dX11_again_12 : decode cX11_again 12 = .ok (.ifCond .eq 25, 3) := by decide +kernel
theorem dX11_again_15 : decode cX11_again 15 = .ok (.aload_n 0, 1) := by decide +kernel
theorem dX11_again_16 : decode cX11_again 16 = .ok (.getfield 91, 3) := by decide +kernel
theorem dX11_again_19 : decode cX11_again 19 = .ok (.iload_n 1, 1) := by decide +kernel
theorem dX11_again_20 : decode cX11_again 20 = .ok (.baload, 1) := by decide +kernel
theorem dX11_again_21 : decode cX11_again 21 = .ok (.ifCond .eq 16, 3) := by decide +kernel
theorem dX11_again_24 : decode cX11_again 24 = .ok (.aload_n 0, 1) := by decide +kernel
theorem dX11_again_25 : decode cX11_again 25 = .ok (.getfield 95, 3) := by decide +kernel
theorem dX11_again_28 : decode cX11_again 28 = .ok (.iload_n 1, 1) := by decide +kernel
theorem dX11_again_29 : decode cX11_again 29 = .ok (.iaload, 1) := by decide +kernel
theorem dX11_again_30 : decode cX11_again 30 = .ok (.aload_n 0, 1) := by decide +kernel
theorem dX11_again_31 : decode cX11_again 31 = .ok (.getfield 169, 3) := by decide +kernel
theorem dX11_again_34 : decode cX11_again 34 = .ok (.if_icmp .eq 5, 3) := by decide +kernel
theorem dX11_again_37 : decode cX11_again 37 = .ok (.iconst 0, 1) := by decide +kernel
theorem dX11_again_38 : decode cX11_again 38 = .ok (.ireturn, 1) := by decide +kernel
theorem dX11_again_39 : decode cX11_again 39 = .ok (.bipush 110, 2) := by decide +kernel
theorem dX11_again_41 : decode cX11_again 41 = .ok (.iload_n 1, 1) := by decide +kernel
theorem dX11_again_42 : decode cX11_again 42 = .ok (.imul, 1) := by decide +kernel
theorem dX11_again_43 : decode cX11_again 43 = .ok (.istore_n 2, 1) := by decide +kernel
theorem dX11_again_44 : decode cX11_again 44 = .ok (.aload_n 0, 1) := by decide +kernel
theorem dX11_again_45 : decode cX11_again 45 = .ok (.aload_n 0, 1) := by decide +kernel
theorem dX11_again_46 : decode cX11_again 46 = .ok (.getfield 85, 3) := by decide +kernel
theorem dX11_again_49 : decode cX11_again 49 = .ok (.iload_n 2, 1) := by decide +kernel
theorem dX11_again_50 : decode cX11_again 50 = .ok (.iaload, 1) := by decide +kernel
theorem dX11_again_51 : decode cX11_again 51 = .ok (.putfield 111, 3) := by decide +kernel
theorem dX11_again_54 : decode cX11_again 54 = .ok (.aload_n 0, 1) := by decide +kernel
theorem dX11_again_55 : decode cX11_again 55 = .ok (.aload_n 0, 1) := by decide +kernel
theorem dX11_again_56 : decode cX11_again 56 = .ok (.getfield 85, 3) := by decide +kernel
theorem dX11_again_59 : decode cX11_again 59 = .ok (.iload_n 2, 1) := by decide +kernel
theorem dX11_again_60 : decode cX11_again 60 = .ok (.iconst 1, 1) := by decide +kernel
theorem dX11_again_61 : decode cX11_again 61 = .ok (.iadd, 1) := by decide +kernel
theorem dX11_again_62 : decode cX11_again 62 = .ok (.iaload, 1) := by decide +kernel
theorem dX11_again_63 : decode cX11_again 63 = .ok (.putfield 114, 3) := by decide +kernel
theorem dX11_again_66 : decode cX11_again 66 = .ok (.iconst 0, 1) := by decide +kernel
theorem dX11_again_67 : decode cX11_again 67 = .ok (.istore_n 3, 1) := by decide +kernel
theorem dX11_again_68 : decode cX11_again 68 = .ok (.iload_n 3, 1) := by decide +kernel
theorem dX11_again_69 : decode cX11_again 69 = .ok (.bipush 84, 2) := by decide +kernel
theorem dX11_again_71 : decode cX11_again 71 = .ok (.if_icmp .ge 25, 3) := by decide +kernel
theorem dX11_again_74 : decode cX11_again 74 = .ok (.aload_n 0, 1) := by decide +kernel
theorem dX11_again_75 : decode cX11_again 75 = .ok (.getfield 19, 3) := by decide +kernel
theorem dX11_again_78 : decode cX11_again 78 = .ok (.iload_n 3, 1) := by decide +kernel
theorem dX11_again_79 : decode cX11_again 79 = .ok (.aload_n 0, 1) := by decide +kernel
theorem dX11_again_80 : decode cX11_again 80 = .ok (.getfield 85, 3) := by decide +kernel
theorem dX11_again_83 : decode cX11_again 83 = .ok (.iload_n 2, 1) := by decide +kernel
theorem dX11_again_84 : decode cX11_again 84 = .ok (.iconst 2, 1) := by decide +kernel
theorem dX11_again_85 : decode cX11_again 85 = .ok (.iadd, 1) := by decide +kernel
theorem dX11_again_86 : decode cX11_again 86 = .ok (.iload_n 3, 1) := by decide +kernel
theorem dX11_again_87 : decode cX11_again 87 = .ok (.iadd, 1) := by decide +kernel
theorem dX11_again_88 : decode cX11_again 88 = .ok (.iaload, 1) := by decide +kernel
theorem dX11_again_89 : decode cX11_again 89 = .ok (.iastore, 1) := by decide +kernel
theorem dX11_again_90 : decode cX11_again 90 = .ok (.iinc 3 1, 3) := by decide +kernel
theorem dX11_again_93 : decode cX11_again 93 = .ok (.goto (-25), 3) := by decide +kernel
theorem dX11_again_96 : decode cX11_again 96 = .ok (.iinc 2 86, 3) := by decide +kernel
theorem dX11_again_99 : decode cX11_again 99 = .ok (.iconst 0, 1) := by decide +kernel
theorem dX11_again_100 : decode cX11_again 100 = .ok (.istore_n 3, 1) := by decide +kernel
theorem dX11_again_101 : decode cX11_again 101 = .ok (.iload_n 3, 1) := by decide +kernel
theorem dX11_again_102 : decode cX11_again 102 = .ok (.bipush 12, 2) := by decide +kernel
theorem dX11_again_104 : decode cX11_again 104 = .ok (.if_icmp .ge 23, 3) := by decide +kernel
theorem dX11_again_107 : decode cX11_again 107 = .ok (.aload_n 0, 1) := by decide +kernel
theorem dX11_again_108 : decode cX11_again 108 = .ok (.getfield 16, 3) := by decide +kernel
theorem dX11_again_111 : decode cX11_again 111 = .ok (.iload_n 3, 1) := by decide +kernel
theorem dX11_again_112 : decode cX11_again 112 = .ok (.aload_n 0, 1) := by decide +kernel
theorem dX11_again_113 : decode cX11_again 113 = .ok (.getfield 85, 3) := by decide +kernel
theorem dX11_again_116 : decode cX11_again 116 = .ok (.iload_n 2, 1) := by decide +kernel
theorem dX11_again_117 : decode cX11_again 117 = .ok (.iload_n 3, 1) := by decide +kernel
theorem dX11_again_118 : decode cX11_again 118 = .ok (.iadd, 1) := by decide +kernel
theorem dX11_again_119 : decode cX11_again 119 = .ok (.iaload, 1) := by decide +kernel
theorem dX11_again_120 : decode cX11_again 120 = .ok (.iastore, 1) := by decide +kernel
theorem dX11_again_121 : decode cX11_again 121 = .ok (.iinc 3 1, 3) := by decide +kernel
theorem dX11_again_124 : decode cX11_again 124 = .ok (.goto (-23), 3) := by decide +kernel
theorem dX11_again_127 : decode cX11_again 127 = .ok (.iinc 2 12, 3) := by decide +kernel
theorem dX11_again_130 : decode cX11_again 130 = .ok (.aload_n 0, 1) := by decide +kernel
theorem dX11_again_131 : decode cX11_again 131 = .ok (.aload_n 0, 1) := by decide +kernel
theorem dX11_again_132 : decode cX11_again 132 = .ok (.getfield 88, 3) := by decide +kernel
theorem dX11_again_135 : decode cX11_again 135 = .ok (.bipush 13, 2) := by decide +kernel
theorem dX11_again_137 : decode cX11_again 137 = .ok (.iload_n 1, 1) := by decide +kernel
theorem dX11_again_138 : decode cX11_again 138 = .ok (.imul, 1) := by decide +kernel
theorem dX11_again_139 : decode cX11_again 139 = .ok (.laload, 1) := by decide +kernel
theorem dX11_again_140 : decode cX11_again 140 = .ok (.putfield 197, 3) := by decide +kernel
theorem dX11_again_143 : decode cX11_again 143 = .ok (.iconst 0, 1) := by decide +kernel
theorem dX11_again_144 : decode cX11_again 144 = .ok (.istore_n 3, 1) := by decide +kernel
theorem dX11_again_145 : decode cX11_again 145 = .ok (.iload_n 3, 1) := by decide +kernel
theorem dX11_again_146 : decode cX11_again 146 = .ok (.bipush 12, 2) := by decide +kernel
theorem dX11_again_148 : decode cX11_again 148 = .ok (.if_icmp .ge 42, 3) := by decide +kernel
theorem dX11_again_151 : decode cX11_again 151 = .ok (.aload_n 0, 1) := by decide +kernel
theorem dX11_again_152 : decode cX11_again 152 = .ok (.getfield 22, 3) := by decide +kernel
theorem dX11_again_155 : decode cX11_again 155 = .ok (.iload_n 3, 1) := by decide +kernel
theorem dX11_again_156 : decode cX11_again 156 = .ok (.aload_n 0, 1) := by decide +kernel
theorem dX11_again_157 : decode cX11_again 157 = .ok (.getfield 85, 3) := by decide +kernel
theorem dX11_again_160 : decode cX11_again 160 = .ok (.iload_n 2, 1) := by decide +kernel
theorem dX11_again_161 : decode cX11_again 161 = .ok (.iload_n 3, 1) := by decide +kernel
theorem dX11_again_162 : decode cX11_again 162 = .ok (.iadd, 1) := by decide +kernel
theorem dX11_again_163 : decode cX11_again 163 = .ok (.iaload, 1) := by decide +kernel
theorem dX11_again_164 : decode cX11_again 164 = .ok (.iastore, 1) := by decide +kernel
theorem dX11_again_165 : decode cX11_again 165 = .ok (.aload_n 0, 1) := by decide +kernel
theorem dX11_again_166 : decode cX11_again 166 = .ok (.getfield 25, 3) := by decide +kernel
theorem dX11_again_169 : decode cX11_again 169 = .ok (.iload_n 3, 1) := by decide +kernel
theorem dX11_again_170 : decode cX11_again 170 = .ok (.aload_n 0, 1) := by decide +kernel
theorem dX11_again_171 : decode cX11_again 171 = .ok (.getfield 88, 3) := by decide +kernel
theorem dX11_again_174 : decode cX11_again 174 = .ok (.bipush 13, 2) := by decide +kernel
theorem dX11_again_176 : decode cX11_again 176 = .ok (.iload_n 1, 1) := by decide +kernel
theorem dX11_again_177 : decode cX11_again 177 = .ok (.imul, 1) := by decide +kernel
theorem dX11_again_178 : decode cX11_again 178 = .ok (.iconst 1, 1) := by decide +kernel
theorem dX11_again_179 : decode cX11_again 179 = .ok (.iadd, 1) := by decide +kernel
theorem dX11_again_180 : decode cX11_again 180 = .ok (.iload_n 3, 1) := by decide +kernel
theorem dX11_again_181 : decode cX11_again 181 = .ok (.iadd, 1) := by decide +kernel
theorem dX11_again_182 : decode cX11_again 182 = .ok (.laload, 1) := by decide +kernel
theorem dX11_again_183 : decode cX11_again 183 = .ok (.lastore, 1) := by decide +kernel
theorem dX11_again_184 : decode cX11_again 184 = .ok (.iinc 3 1, 3) := by decide +kernel
theorem dX11_again_187 : decode cX11_again 187 = .ok (.goto (-42), 3) := by decide +kernel
theorem dX11_again_190 : decode cX11_again 190 = .ok (.iconst 1, 1) := by decide +kernel
theorem dX11_again_191 : decode cX11_again 191 = .ok (.ireturn, 1) := by decide +kernel
theorem dX11_count_0 : decode cX11_count 0 = .ok (.aload_n 0, 1) := by decide +kernel
theorem dX11_count_1 : decode cX11_count 1 = .ok (.iconst 0, 1) := by decide +kernel
theorem dX11_count_2 : decode cX11_count 2 = .ok (.putfield 98, 3) := by decide +kernel
theorem dX11_count_5 : decode cX11_count 5 = .ok (.iload_n 1, 1) := by decide +kernel
theorem dX11_count_6 : decode cX11_count 6 = .ok (.tableswitch 68 0 5 #[38, 43, 48, 53, 58, 63], 38) := by decide +kernel
theorem dX11_count_44 : decode cX11_count 44 = .ok (.aload_n 0, 1) := by decide +kernel
theorem dX11_count_45 : decode cX11_count 45 = .ok (.getfield 104, 3) := by decide +kernel
theorem dX11_count_48 : decode cX11_count 48 = .ok (.ireturn, 1) := by decide +kernel
theorem dX11_count_49 : decode cX11_count 49 = .ok (.aload_n 0, 1) := by decide +kernel
theorem dX11_count_50 : decode cX11_count 50 = .ok (.getfield 111, 3) := by decide +kernel
theorem dX11_count_53 : decode cX11_count 53 = .ok (.ireturn, 1) := by decide +kernel
theorem dX11_count_54 : decode cX11_count 54 = .ok (.aload_n 0, 1) := by decide +kernel
theorem dX11_count_55 : decode cX11_count 55 = .ok (.getfield 114, 3) := by decide +kernel
theorem dX11_count_58 : decode cX11_count 58 = .ok (.ireturn, 1) := by decide +kernel
theorem dX11_count_59 : decode cX11_count 59 = .ok (.aload_n 0, 1) := by decide +kernel
theorem dX11_count_60 : decode cX11_count 60 = .ok (.getfield 406, 3) := by decide +kernel
theorem dX11_count_63 : decode cX11_count 63 = .ok (.ireturn, 1) := by decide +kernel
theorem dX11_count_64 : decode cX11_count 64 = .ok (.aload_n 0, 1) := by decide +kernel
theorem dX11_count_65 : decode cX11_count 65 = .ok (.getfield 101, 3) := by decide +kernel
theorem dX11_count_68 : decode cX11_count 68 = .ok (.ireturn, 1) := by decide +kernel
theorem dX11_count_69 : decode cX11_count 69 = .ok (.aload_n 0, 1) := by decide +kernel
theorem dX11_count_70 : decode cX11_count 70 = .ok (.getfield 121, 3) := by decide +kernel
theorem dX11_count_73 : decode cX11_count 73 = .ok (.ireturn, 1) := by decide +kernel
theorem dX11_count_74 : decode cX11_count 74 = .ok (.iconst (-1), 1) := by decide +kernel
theorem dX11_count_75 : decode cX11_count 75 = .ok (.ireturn, 1) := by decide +kernel
theorem dX11_today_0 : decode cX11_today 0 = .ok (.aload_n 0, 1) := by decide +kernel
theorem dX11_today_1 : decode cX11_today 1 = .ok (.iconst 0, 1) := by decide +kernel
theorem dX11_today_2 : decode cX11_today 2 = .ok (.putfield 98, 3) := by decide +kernel
theorem dX11_today_5 : decode cX11_today 5 = .ok (.aload_n 0, 1) := by decide +kernel
theorem dX11_today_6 : decode cX11_today 6 = .ok (.getfield 197, 3) := by decide +kernel
theorem dX11_today_9 : decode cX11_today 9 = .ok (.lreturn, 1) := by decide +kernel
set_option maxRecDepth 20000 in
theorem ggX11_row_X11_in : GoodIn wsX11_row wsX11_in := goodIn_r _ [7] (by decide +kernel) (by decide +kernel)
set_option maxRecDepth 20000 in
theorem gX11_row_X11_in : GoodIn wsX11_row (va_wsS RX11 107 yX11_in wsX11_in) := goodIn_app (goodIn_of _ (by decide +kernel)) ggX11_row_X11_in
set_option maxRecDepth 20000 in
theorem ggX11_row_X11_lost : GoodIn wsX11_row wsX11_lost := goodIn_r _ [11, 1, 12, 13, 14, 15, 16, 17, 18, 19, 20, 21, 22, 23, 24, 25, 26, 27, 28, 29, 30, 31, 32, 33, 34, 35, 36, 37, 38, 39, 40, 41, 42, 43, 44, 45, 46, 47, 48, 49, 50, 51, 52, 53, 54, 55, 56, 57, 58, 59, 60, 61, 62, 63, 64, 65, 66] (by decide +kernel) (by decide +kernel)
set_option maxRecDepth 20000 in
theorem gX11_row_X11_lost : GoodIn wsX11_row (wsV RX11 194 RX11 yX11_lost wsX11_lost) := goodIn_app (goodIn_of _ (by decide +kernel)) ggX11_row_X11_lost
theorem dX11_row_0 : decode cX11_row 0 = .ok (.aload_n 0, 1) := by decide +kernel
theorem dX11_row_1 : decode cX11_row 1 = .ok (.iconst 0, 1) := by decide +kernel
theorem dX11_row_2 : decode cX11_row 2 = .ok (.putfield 98, 3) := by decide +kernel
theorem dX11_row_5 : decode cX11_row 5 = .ok (.iload_n 1, 1) := by decide +kernel
theorem dX11_row_6 : decode cX11_row 6 = .ok (.i2l, 1) := by decide +kernel
theorem dX11_row_7 : decode cX11_row 7 = .ok (.lconst 0, 1) := by decide +kernel
theorem dX11_row_8 : decode cX11_row 8 = .ok (.aload_n 0, 1) := by decide +kernel
theorem dX11_row_9 : decode cX11_row 9 = .ok (.getfield 101, 3) := by decide +kernel
theorem dX11_row_12 : decode cX11_row 12 = .ok (.iconst 1, 1) := by decide +kernel
theorem dX11_row_13 : decode cX11_row 13 = .ok (.isub, 1) := by decide +kernel
theorem dX11_row_14 : decode cX11_row 14 = .ok (.i2l, 1) := by decide +kernel
theorem dX11_row_15 : decode cX11_row 15 = .ok (.invokestatic 107, 3) := by decide +kernel
theorem dX11_row_18 : decode cX11_row 18 = .ok (.ifCond .eq 12, 3) := by decide +kernel
theorem dX11_row_21 : decode cX11_row 21 = .ok (.aload_n 0, 1) := by decide +kernel
theorem dX11_row_22 : decode cX11_row 22 = .ok (.getfield 42, 3) := by decide +kernel
theorem dX11_row_25 : decode cX11_row 25 = .ok (.iload_n 1, 1) := by decide +kernel
theorem dX11_row_26 : decode cX11_row 26 = .ok (.laload, 1) := by decide +kernel
theorem dX11_row_27 : decode cX11_row 27 = .ok (.goto 8, 3) := by decide +kernel
theorem dX11_row_30 : decode cX11_row 30 = .ok (.aload_n 0, 1) := by decide +kernel
theorem dX11_row_31 : decode cX11_row 31 = .ok (.invokevirtual 194, 3) := by decide +kernel
theorem dX11_row_34 : decode cX11_row 34 = .ok (.i2l, 1) := by decide +kernel
theorem dX11_row_35 : decode cX11_row 35 = .ok (.lreturn, 1) := by decide +kernel
theorem dJ6_bitCount_0f7a4_0 : decode cJ6_bitCount_0f7a4 0 = .ok (.iload_n 0, 1) := by decide +kernel
theorem dJ6_bitCount_0f7a4_1 : decode cJ6_bitCount_0f7a4 1 = .ok (.iload_n 0, 1) := by decide +kernel
theorem dJ6_bitCount_0f7a4_2 : decode cJ6_bitCount_0f7a4 2 = .ok (.iconst 1, 1) := by decide +kernel
theorem dJ6_bitCount_0f7a4_3 : decode cJ6_bitCount_0f7a4 3 = .ok (.iushr, 1) := by decide +kernel
theorem dJ6_bitCount_0f7a4_4 : decode cJ6_bitCount_0f7a4 4 = .ok (.ldc_w 265, 3) := by decide +kernel
theorem dJ6_bitCount_0f7a4_7 : decode cJ6_bitCount_0f7a4 7 = .ok (.iand, 1) := by decide +kernel
theorem dJ6_bitCount_0f7a4_8 : decode cJ6_bitCount_0f7a4 8 = .ok (.isub, 1) := by decide +kernel
theorem dJ6_bitCount_0f7a4_9 : decode cJ6_bitCount_0f7a4 9 = .ok (.istore_n 0, 1) := by decide +kernel
theorem dJ6_bitCount_0f7a4_10 : decode cJ6_bitCount_0f7a4 10 = .ok (.iload_n 0, 1) := by decide +kernel
theorem dJ6_bitCount_0f7a4_11 : decode cJ6_bitCount_0f7a4 11 = .ok (.ldc_w 266, 3) := by decide +kernel
theorem dJ6_bitCount_0f7a4_14 : decode cJ6_bitCount_0f7a4 14 = .ok (.iand, 1) := by decide +kernel
theorem dJ6_bitCount_0f7a4_15 : decode cJ6_bitCount_0f7a4 15 = .ok (.iload_n 0, 1) := by decide +kernel
theorem dJ6_bitCount_0f7a4_16 : decode cJ6_bitCount_0f7a4 16 = .ok (.iconst 2, 1) := by decide +kernel
theorem dJ6_bitCount_0f7a4_17 : decode cJ6_bitCount_0f7a4 17 = .ok (.iushr, 1) := by decide +kernel
theorem dJ6_bitCount_0f7a4_18 : decode cJ6_bitCount_0f7a4 18 = .ok (.ldc_w 266, 3) := by decide +kernel
theorem dJ6_bitCount_0f7a4_21 : decode cJ6_bitCount_0f7a4 21 = .ok (.iand, 1) := by decide +kernel
theorem dJ6_bitCount_0f7a4_22 : decode cJ6_bitCount_0f7a4 22 = .ok (.iadd, 1) := by decide +kernel
theorem dJ6_bitCount_0f7a4_23 : decode cJ6_bitCount_0f7a4 23 = .ok (.istore_n 0, 1) := by decide +kernel
theorem dJ6_bitCount_0f7a4_24 : decode cJ6_bitCount_0f7a4 24 = .ok (.iload_n 0, 1) := by decide +kernel
theorem dJ6_bitCount_0f7a4_25 : decode cJ6_bitCount_0f7a4 25 = .ok (.iload_n 0, 1) := by decide +kernel
theorem dJ6_bitCount_0f7a4_26 : decode cJ6_bitCount_0f7a4 26 = .ok (.iconst 4, 1) := by decide +kernel
theorem dJ6_bitCount_0f7a4_27 : decode cJ6_bitCount_0f7a4 27 = .ok (.iushr, 1) := by decide +kernel
theorem dJ6_bitCount_0f7a4_28 : decode cJ6_bitCount_0f7a4 28 = .ok (.iadd, 1) := by decide +kernel
theorem dJ6_bitCount_0f7a4_29 : decode cJ6_bitCount_0f7a4 29 = .ok (.ldc_w 267, 3) := by decide +kernel
theorem dJ6_bitCount_0f7a4_32 : decode cJ6_bitCount_0f7a4 32 = .ok (.iand, 1) := by decide +kernel
theorem dJ6_bitCount_0f7a4_33 : decode cJ6_bitCount_0f7a4 33 = .ok (.istore_n 0, 1) := by decide +kernel
theorem dJ6_bitCount_0f7a4_34 : decode cJ6_bitCount_0f7a4 34 = .ok (.iload_n 0, 1) := by decide +kernel
theorem dJ6_bitCount_0f7a4_35 : decode cJ6_bitCount_0f7a4 35 = .ok (.iload_n 0, 1) := by decide +kernel
theorem dJ6_bitCount_0f7a4_36 : decode cJ6_bitCount_0f7a4 36 = .ok (.bipush 8, 2) := by decide +kernel
theorem dJ6_bitCount_0f7a4_38 : decode cJ6_bitCount_0f7a4 38 = .ok (.iushr, 1) := by decide +kernel
theorem dJ6_bitCount_0f7a4_39 : decode cJ6_bitCount_0f7a4 39 = .ok (.iadd, 1) := by decide +kernel
theorem dJ6_bitCount_0f7a4_40 : decode cJ6_bitCount_0f7a4 40 = .ok (.istore_n 0, 1) := by decide +kernel
theorem dJ6_bitCount_0f7a4_41 : decode cJ6_bitCount_0f7a4 41 = .ok (.iload_n 0, 1) := by decide +kernel
theorem dJ6_bitCount_0f7a4_42 : decode cJ6_bitCount_0f7a4 42 = .ok (.iload_n 0, 1) := by decide +kernel
theorem dJ6_bitCount_0f7a4_43 : decode cJ6_bitCount_0f7a4 43 = .ok (.bipush 16, 2) := by decide +kernel
theorem dJ6_bitCount_0f7a4_45 : decode cJ6_bitCount_0f7a4 45 = .ok (.iushr, 1) := by decide +kernel
theorem dJ6_bitCount_0f7a4_46 : decode cJ6_bitCount_0f7a4 46 = .ok (.iadd, 1) := by decide +kernel
theorem dJ6_bitCount_0f7a4_47 : decode cJ6_bitCount_0f7a4 47 = .ok (.istore_n 0, 1) := by decide +kernel
theorem dJ6_bitCount_0f7a4_48 : decode cJ6_bitCount_0f7a4 48 = .ok (.iload_n 0, 1) := by decide +kernel
theorem dJ6_bitCount_0f7a4_49 : decode cJ6_bitCount_0f7a4 49 = .ok (.bipush 63, 2) := by decide +kernel
theorem dJ6_bitCount_0f7a4_51 : decode cJ6_bitCount_0f7a4 51 = .ok (.iand, 1) := by decide +kernel
theorem dJ6_bitCount_0f7a4_52 : decode cJ6_bitCount_0f7a4 52 = .ok (.ireturn, 1) := by decide +kernel
theorem dJ7_fill_53178_0 : decode cJ7_fill_53178 0 = .ok (.iconst 0, 1) := by decide +kernel
theorem dJ7_fill_53178_1 : decode cJ7_fill_53178 1 = .ok (.istore_n 2, 1) := by decide +kernel
theorem dJ7_fill_53178_2 : decode cJ7_fill_53178 2 = .ok (.aload_n 0, 1) := by decide +kernel
theorem dJ7_fill_53178_3 : decode cJ7_fill_53178 3 = .ok (.arraylength, 1) := by decide +kernel
theorem dJ7_fill_53178_4 : decode cJ7_fill_53178 4 = .ok (.istore_n 3, 1) := by decide +kernel
theorem dJ7_fill_53178_5 : decode cJ7_fill_53178 5 = .ok (.iload_n 2, 1) := by decide +kernel
theorem dJ7_fill_53178_6 : decode cJ7_fill_53178 6 = .ok (.iload_n 3, 1) := by decide +kernel
theorem dJ7_fill_53178_7 : decode cJ7_fill_53178 7 = .ok (.if_icmp .ge 13, 3) := by decide +kernel
theorem dJ7_fill_53178_10 : decode cJ7_fill_53178 10 = .ok (.aload_n 0, 1) := by decide +kernel
theorem dJ7_fill_53178_11 : decode cJ7_fill_53178 11 = .ok (.iload_n 2, 1) := by decide +kernel
theorem dJ7_fill_53178_12 : decode cJ7_fill_53178 12 = .ok (.iload_n 1, 1) := by decide +kernel
theorem dJ7_fill_53178_13 : decode cJ7_fill_53178 13 = .ok (.iastore, 1) := by decide +kernel
theorem dJ7_fill_53178_14 : decode cJ7_fill_53178 14 = .ok (.iinc 2 1, 3) := by decide +kernel
theorem dJ7_fill_53178_17 : decode cJ7_fill_53178 17 = .ok (.goto (-12), 3) := by decide +kernel
theorem dJ7_fill_53178_20 : decode cJ7_fill_53178 20 = .ok (.return_, 1) := by decide +kernel
