theorem dX0_init_0 : decode cX0_init 0 = .ok (.aload_n 0, 1) := by decide +kernel
theorem dX0_init_1 : decode cX0_init 1 = .ok (.invokespecial 3, 3) := by decide +kernel
theorem dX0_init_4 : decode cX0_init 4 = .ok (.aload_n 0, 1) := by decide +kernel
theorem dX0_init_5 : decode cX0_init 5 = .ok (.sipush 420, 3) := by decide +kernel
theorem dX0_init_8 : decode cX0_init 8 = .ok (.newarray .long, 2) := by decide +kernel
theorem dX0_init_10 : decode cX0_init 10 = .ok (.putfield 11, 3) := by decide +kernel
theorem dX0_init_13 : decode cX0_init 13 = .ok (.aload_n 0, 1) := by decide +kernel
theorem dX0_init_14 : decode cX0_init 14 = .ok (.sipush 420, 3) := by decide +kernel
theorem dX0_init_17 : decode cX0_init 17 = .ok (.newarray .long, 2) := by decide +kernel
theorem dX0_init_19 : decode cX0_init 19 = .ok (.putfield 15, 3) := by decide +kernel
theorem dX0_init_22 : decode cX0_init 22 = .ok (.aload_n 0, 1) := by decide +kernel
theorem dX0_init_23 : decode cX0_init 23 = .ok (.iconst 1, 1) := by decide +kernel
theorem dX0_init_24 : decode cX0_init 24 = .ok (.putfield 18, 3) := by decide +kernel
theorem dX0_init_27 : decode cX0_init 27 = .ok (.aload_n 0, 1) := by decide +kernel
theorem dX0_init_28 : decode cX0_init 28 = .ok (.iconst 1, 1) := by decide +kernel
theorem dX0_init_29 : decode cX0_init 29 = .ok (.putfield 22, 3) := by decide +kernel
theorem dX0_init_32 : decode cX0_init 32 = .ok (.return_, 1) := by decide +kernel
set_option maxRecDepth 20000 in
theorem ggX0_reckon_X0_ownNames : GoodIn wsX0_reckon wsX0_ownNames := goodIn_r _ [8] (by decide +kernel) (by decide +kernel)
set_option maxRecDepth 20000 in
theorem gX0_reckon_X0_ownNames : GoodIn wsX0_reckon (va_wsS RX0 49 yX0_ownNames wsX0_ownNames) := goodIn_app (goodIn_of _ (by decide +kernel)) ggX0_reckon_X0_ownNames
set_option maxRecDepth 20000 in
theorem ggX0_reckon_X0_firstOwnDay : GoodIn wsX0_reckon wsX0_firstOwnDay := goodIn_r _ [11, 5, 6, 7, 8, 12, 13, 14, 15, 16, 17, 18, 22, 23, 24, 25, 26, 27, 28, 29, 30] (by decide +kernel) (by decide +kernel)
set_option maxRecDepth 20000 in
theorem gX0_reckon_X0_firstOwnDay : GoodIn wsX0_reckon (va_wsS RX0 53 yX0_firstOwnDay wsX0_firstOwnDay) := goodIn_app (goodIn_of _ (by decide +kernel)) ggX0_reckon_X0_firstOwnDay
theorem dX0_reckon_0 : decode cX0_reckon 0 = .ok (.aload_n 1, 1) := by decide +kernel
theorem dX0_reckon_1 : decode cX0_reckon 1 = .ok (.getfield 46, 3) := by decide +kernel
theorem dX0_reckon_4 : decode cX0_reckon 4 = .ok (.invokestatic 49, 3) := by decide +kernel
theorem dX0_reckon_7 : decode cX0_reckon 7 = .ok (.lstore_n 2, 1) := by decide +kernel
theorem dX0_reckon_8 : decode cX0_reckon 8 = .ok (.aload_n 0, 1) := by decide +kernel
theorem dX0_reckon_9 : decode cX0_reckon 9 = .ok (.getfield 11, 3) := by decide +kernel
theorem dX0_reckon_12 : decode cX0_reckon 12 = .ok (.iconst 0, 1) := by decide +kernel
theorem dX0_reckon_13 : decode cX0_reckon 13 = .ok (.lload_n 2, 1) := by decide +kernel
theorem dX0_reckon_14 : decode cX0_reckon 14 = .ok (.lastore, 1) := by decide +kernel
theorem dX0_reckon_15 : decode cX0_reckon 15 = .ok (.aload_n 0, 1) := by decide +kernel
theorem dX0_reckon_16 : decode cX0_reckon 16 = .ok (.getfield 15, 3) := by decide +kernel
theorem dX0_reckon_19 : decode cX0_reckon 19 = .ok (.iconst 0, 1) := by decide +kernel
theorem dX0_reckon_20 : decode cX0_reckon 20 = .ok (.lload_n 2, 1) := by decide +kernel
theorem dX0_reckon_21 : decode cX0_reckon 21 = .ok (.lastore, 1) := by decide +kernel
theorem dX0_reckon_22 : decode cX0_reckon 22 = .ok (.aload_n 0, 1) := by decide +kernel
theorem dX0_reckon_23 : decode cX0_reckon 23 = .ok (.iconst 1, 1) := by decide +kernel
theorem dX0_reckon_24 : decode cX0_reckon 24 = .ok (.putfield 18, 3) := by decide +kernel
theorem dX0_reckon_27 : decode cX0_reckon 27 = .ok (.aload_n 0, 1) := by decide +kernel
theorem dX0_reckon_28 : decode cX0_reckon 28 = .ok (.aload_n 1, 1) := by decide +kernel
theorem dX0_reckon_29 : decode cX0_reckon 29 = .ok (.iconst 0, 1) := by decide +kernel
theorem dX0_reckon_30 : decode cX0_reckon 30 = .ok (.iconst 0, 1) := by decide +kernel
theorem dX0_reckon_31 : decode cX0_reckon 31 = .ok (.invokestatic 53, 3) := by decide +kernel
theorem dX0_reckon_34 : decode cX0_reckon 34 = .ok (.putfield 22, 3) := by decide +kernel
theorem dX0_reckon_37 : decode cX0_reckon 37 = .ok (.aload_n 1, 1) := by decide +kernel
theorem dX0_reckon_38 : decode cX0_reckon 38 = .ok (.getfield 46, 3) := by decide +kernel
theorem dX0_reckon_41 : decode cX0_reckon 41 = .ok (.iconst 1, 1) := by decide +kernel
theorem dX0_reckon_42 : decode cX0_reckon 42 = .ok (.if_icmp .lt 11, 3) := by decide +kernel
theorem dX0_reckon_45 : decode cX0_reckon 45 = .ok (.aload_n 1, 1) := by decide +kernel
theorem dX0_reckon_46 : decode cX0_reckon 46 = .ok (.getfield 37, 3) := by decide +kernel
theorem dX0_reckon_49 : decode cX0_reckon 49 = .ok (.iconst 1, 1) := by decide +kernel
theorem dX0_reckon_50 : decode cX0_reckon 50 = .ok (.if_icmp .ge 4, 3) := by decide +kernel
theorem dX0_reckon_53 : decode cX0_reckon 53 = .ok (.return_, 1) := by decide +kernel
theorem dX0_reckon_54 : decode cX0_reckon 54 = .ok (.lload_n 2, 1) := by decide +kernel
theorem dX0_reckon_55 : decode cX0_reckon 55 = .ok (.lstore 4, 2) := by decide +kernel
theorem dX0_reckon_57 : decode cX0_reckon 57 = .ok (.iconst 1, 1) := by decide +kernel
theorem dX0_reckon_58 : decode cX0_reckon 58 = .ok (.istore 6, 2) := by decide +kernel
theorem dX0_reckon_60 : decode cX0_reckon 60 = .ok (.iload 6, 2) := by decide +kernel
theorem dX0_reckon_62 : decode cX0_reckon 62 = .ok (.sipush 420, 3) := by decide +kernel
theorem dX0_reckon_65 : decode cX0_reckon 65 = .ok (.if_icmp .gt 91, 3) := by decide +kernel
theorem dX0_reckon_68 : decode cX0_reckon 68 = .ok (.lload 4, 2) := by decide +kernel
theorem dX0_reckon_70 : decode cX0_reckon 70 = .ok (.aload_n 1, 1) := by decide +kernel
theorem dX0_reckon_71 : decode cX0_reckon 71 = .ok (.getfield 56, 3) := by decide +kernel
theorem dX0_reckon_74 : decode cX0_reckon 74 = .ok (.iload 6, 2) := by decide +kernel
theorem dX0_reckon_76 : decode cX0_reckon 76 = .ok (.iconst 1, 1) := by decide +kernel
theorem dX0_reckon_77 : decode cX0_reckon 77 = .ok (.isub, 1) := by decide +kernel
theorem dX0_reckon_78 : decode cX0_reckon 78 = .ok (.aload_n 1, 1) := by decide +kernel
theorem dX0_reckon_79 : decode cX0_reckon 79 = .ok (.getfield 37, 3) := by decide +kernel
theorem dX0_reckon_82 : decode cX0_reckon 82 = .ok (.irem, 1) := by decide +kernel
theorem dX0_reckon_83 : decode cX0_reckon 83 = .ok (.aaload, 1) := by decide +kernel
theorem dX0_reckon_84 : decode cX0_reckon 84 = .ok (.aload_n 1, 1) := by decide +kernel
theorem dX0_reckon_85 : decode cX0_reckon 85 = .ok (.getfield 46, 3) := by decide +kernel
theorem dX0_reckon_156 : decode cX0_reckon 156 = .ok (.return_, 1) := by decide +kernel
set_option maxRecDepth 20000 in
theorem ggX0_firstOwnDay_X0_ownNames : GoodIn wsX0_firstOwnDay wsX0_ownNames := goodIn_r _ [4] (by decide +kernel) (by decide +kernel)
set_option maxRecDepth 20000 in
theorem gX0_firstOwnDay_X0_ownNames : GoodIn wsX0_firstOwnDay (va_wsS RX0 49 yX0_ownNames wsX0_ownNames) := goodIn_app (goodIn_of _ (by decide +kernel)) ggX0_firstOwnDay_X0_ownNames
theorem dX0_firstOwnDay_0 : decode cX0_firstOwnDay 0 = .ok (.aload_n 0, 1) := by decide +kernel
theorem dX0_firstOwnDay_1 : decode cX0_firstOwnDay 1 = .ok (.getfield 46, 3) := by decide +kernel
theorem dX0_firstOwnDay_4 : decode cX0_firstOwnDay 4 = .ok (.iconst 1, 1) := by decide +kernel
theorem dX0_firstOwnDay_5 : decode cX0_firstOwnDay 5 = .ok (.if_icmp .lt 11, 3) := by decide +kernel
theorem dX0_firstOwnDay_8 : decode cX0_firstOwnDay 8 = .ok (.aload_n 0, 1) := by decide +kernel
theorem dX0_firstOwnDay_9 : decode cX0_firstOwnDay 9 = .ok (.getfield 37, 3) := by decide +kernel
theorem dX0_firstOwnDay_12 : decode cX0_firstOwnDay 12 = .ok (.iconst 1, 1) := by decide +kernel
theorem dX0_firstOwnDay_13 : decode cX0_firstOwnDay 13 = .ok (.if_icmp .ge 5, 3) := by decide +kernel
theorem dX0_firstOwnDay_16 : decode cX0_firstOwnDay 16 = .ok (.iconst 1, 1) := by decide +kernel
theorem dX0_firstOwnDay_17 : decode cX0_firstOwnDay 17 = .ok (.ireturn, 1) := by decide +kernel
theorem dX0_firstOwnDay_18 : decode cX0_firstOwnDay 18 = .ok (.aload_n 0, 1) := by decide +kernel
theorem dX0_firstOwnDay_19 : decode cX0_firstOwnDay 19 = .ok (.getfield 46, 3) := by decide +kernel
theorem dX0_firstOwnDay_22 : decode cX0_firstOwnDay 22 = .ok (.invokestatic 49, 3) := by decide +kernel
theorem dX0_firstOwnDay_25 : decode cX0_firstOwnDay 25 = .ok (.lstore_n 3, 1) := by decide +kernel
theorem dX0_firstOwnDay_26 : decode cX0_firstOwnDay 26 = .ok (.lload_n 3, 1) := by decide +kernel
theorem dX0_firstOwnDay_27 : decode cX0_firstOwnDay 27 = .ok (.lstore 5, 2) := by decide +kernel
theorem dX0_firstOwnDay_29 : decode cX0_firstOwnDay 29 = .ok (.iconst 1, 1) := by decide +kernel
theorem dX0_firstOwnDay_30 : decode cX0_firstOwnDay 30 = .ok (.istore 7, 2) := by decide +kernel
theorem dX0_firstOwnDay_32 : decode cX0_firstOwnDay 32 = .ok (.iload 7, 2) := by decide +kernel
theorem dX0_firstOwnDay_34 : decode cX0_firstOwnDay 34 = .ok (.sipush 420, 3) := by decide +kernel
theorem dX0_firstOwnDay_37 : decode cX0_firstOwnDay 37 = .ok (.if_icmp .gt 72, 3) := by decide +kernel
theorem dX0_firstOwnDay_40 : decode cX0_firstOwnDay 40 = .ok (.iload 7, 2) := by decide +kernel
theorem dX0_firstOwnDay_42 : decode cX0_firstOwnDay 42 = .ok (.iconst 1, 1) := by decide +kernel
theorem dX0_firstOwnDay_43 : decode cX0_firstOwnDay 43 = .ok (.isub, 1) := by decide +kernel
theorem dX0_firstOwnDay_44 : decode cX0_firstOwnDay 44 = .ok (.aload_n 0, 1) := by decide +kernel
theorem dX0_firstOwnDay_45 : decode cX0_firstOwnDay 45 = .ok (.getfield 37, 3) := by decide +kernel
theorem dX0_firstOwnDay_48 : decode cX0_firstOwnDay 48 = .ok (.irem, 1) := by decide +kernel
theorem dX0_firstOwnDay_49 : decode cX0_firstOwnDay 49 = .ok (.istore 8, 2) := by decide +kernel
theorem dX0_firstOwnDay_51 : decode cX0_firstOwnDay 51 = .ok (.iload 8, 2) := by decide +kernel
theorem dX0_firstOwnDay_53 : decode cX0_firstOwnDay 53 = .ok (.iload_n 1, 1) := by decide +kernel
theorem dX0_firstOwnDay_54 : decode cX0_firstOwnDay 54 = .ok (.if_icmp .ne 7, 3) := by decide +kernel
theorem dX0_firstOwnDay_57 : decode cX0_firstOwnDay 57 = .ok (.iload_n 2, 1) := by decide +kernel
theorem dX0_firstOwnDay_58 : decode cX0_firstOwnDay 58 = .ok (.goto 15, 3) := by decide +kernel
theorem dX0_firstOwnDay_61 : decode cX0_firstOwnDay 61 = .ok (.iload 8, 2) := by decide +kernel
theorem dX0_firstOwnDay_63 : decode cX0_firstOwnDay 63 = .ok (.iload_n 2, 1) := by decide +kernel
theorem dX0_firstOwnDay_64 : decode cX0_firstOwnDay 64 = .ok (.if_icmp .ne 7, 3) := by decide +kernel
theorem dX0_firstOwnDay_67 : decode cX0_firstOwnDay 67 = .ok (.iload_n 1, 1) := by decide +kernel
theorem dX0_firstOwnDay_68 : decode cX0_firstOwnDay 68 = .ok (.goto 5, 3) := by decide +kernel
theorem dX0_firstOwnDay_71 : decode cX0_firstOwnDay 71 = .ok (.iload 8, 2) := by decide +kernel
theorem dX0_firstOwnDay_73 : decode cX0_firstOwnDay 73 = .ok (.istore 9, 2) := by decide +kernel
theorem dX0_firstOwnDay_75 : decode cX0_firstOwnDay 75 = .ok (.lload 5, 2) := by decide +kernel
theorem dX0_firstOwnDay_77 : decode cX0_firstOwnDay 77 = .ok (.aload_n 0, 1) := by decide +kernel
theorem dX0_firstOwnDay_78 : decode cX0_firstOwnDay 78 = .ok (.getfield 56, 3) := by decide +kernel
theorem dX0_firstOwnDay_81 : decode cX0_firstOwnDay 81 = .ok (.iload 9, 2) := by decide +kernel
theorem dX0_firstOwnDay_83 : decode cX0_firstOwnDay 83 = .ok (.aaload, 1) := by decide +kernel
theorem dX0_firstOwnDay_84 : decode cX0_firstOwnDay 84 = .ok (.aload_n 0, 1) := by decide +kernel
theorem dX0_firstOwnDay_85 : decode cX0_firstOwnDay 85 = .ok (.getfield 46, 3) := by decide +kernel
theorem dX0_firstOwnDay_109 : decode cX0_firstOwnDay 109 = .ok (.sipush 420, 3) := by decide +kernel
theorem dX0_firstOwnDay_112 : decode cX0_firstOwnDay 112 = .ok (.ireturn, 1) := by decide +kernel
theorem dX0_ownNames_0 : decode cX0_ownNames 0 = .ok (.lconst 0, 1) := by decide +kernel
theorem dX0_ownNames_1 : decode cX0_ownNames 1 = .ok (.lstore_n 1, 1) := by decide +kernel
theorem dX0_ownNames_2 : decode cX0_ownNames 2 = .ok (.iconst 0, 1) := by decide +kernel
theorem dX0_ownNames_3 : decode cX0_ownNames 3 = .ok (.istore_n 3, 1) := by decide +kernel
theorem dX0_ownNames_4 : decode cX0_ownNames 4 = .ok (.iload_n 3, 1) := by decide +kernel
theorem dX0_ownNames_5 : decode cX0_ownNames 5 = .ok (.iload_n 0, 1) := by decide +kernel
theorem dX0_ownNames_6 : decode cX0_ownNames 6 = .ok (.if_icmp .ge 18, 3) := by decide +kernel
theorem dX0_ownNames_9 : decode cX0_ownNames 9 = .ok (.lload_n 1, 1) := by decide +kernel
theorem dX0_ownNames_10 : decode cX0_ownNames 10 = .ok (.iload_n 3, 1) := by decide +kernel
theorem dX0_ownNames_11 : decode cX0_ownNames 11 = .ok (.i2l, 1) := by decide +kernel
theorem dX0_ownNames_12 : decode cX0_ownNames 12 = .ok (.iconst 4, 1) := by decide +kernel
theorem dX0_ownNames_13 : decode cX0_ownNames 13 = .ok (.iload_n 3, 1) := by decide +kernel
theorem dX0_ownNames_14 : decode cX0_ownNames 14 = .ok (.imul, 1) := by decide +kernel
theorem dX0_ownNames_15 : decode cX0_ownNames 15 = .ok (.lshl, 1) := by decide +kernel
theorem dX0_ownNames_16 : decode cX0_ownNames 16 = .ok (.lor, 1) := by decide +kernel
theorem dX0_ownNames_17 : decode cX0_ownNames 17 = .ok (.lstore_n 1, 1) := by decide +kernel
theorem dX0_ownNames_18 : decode cX0_ownNames 18 = .ok (.iinc 3 1, 3) := by decide +kernel
theorem dX0_ownNames_21 : decode cX0_ownNames 21 = .ok (.goto (-17), 3) := by decide +kernel
theorem dX0_ownNames_24 : decode cX0_ownNames 24 = .ok (.lload_n 1, 1) := by decide +kernel
theorem dX0_ownNames_25 : decode cX0_ownNames 25 = .ok (.lreturn, 1) := by decide +kernel
theorem dX1_init_0 : decode cX1_init 0 = .ok (.aload_n 0, 1) := by decide +kernel
theorem dX1_init_1 : decode cX1_init 1 = .ok (.invokespecial 3, 3) := by decide +kernel
theorem dX1_init_4 : decode cX1_init 4 = .ok (.aload_n 0, 1) := by decide +kernel
theorem dX1_init_5 : decode cX1_init 5 = .ok (.bipush 7, 2) := by decide +kernel
theorem dX1_init_7 : decode cX1_init 7 = .ok (.bipush 12, 2) := by decide +kernel
theorem dX1_init_9 : decode cX1_init 9 = .ok (.multianewarray 9 2, 4) := by decide +kernel
theorem dX1_init_13 : decode cX1_init 13 = .ok (.putfield 11, 3) := by decide +kernel
theorem dX1_init_16 : decode cX1_init 16 = .ok (.aload_n 0, 1) := by decide +kernel
theorem dX1_init_17 : decode cX1_init 17 = .ok (.bipush 12, 2) := by decide +kernel
theorem dX1_init_19 : decode cX1_init 19 = .ok (.newarray .int, 2) := by decide +kernel
theorem dX1_init_21 : decode cX1_init 21 = .ok (.putfield 16, 3) := by decide +kernel
theorem dX1_init_24 : decode cX1_init 24 = .ok (.aload_n 0, 1) := by decide +kernel
theorem dX1_init_25 : decode cX1_init 25 = .ok (.bipush 12, 2) := by decide +kernel
theorem dX1_init_27 : decode cX1_init 27 = .ok (.newarray .int, 2) := by decide +kernel
theorem dX1_init_29 : decode cX1_init 29 = .ok (.putfield 20, 3) := by decide +kernel
theorem dX1_init_32 : decode cX1_init 32 = .ok (.aload_n 0, 1) := by decide +kernel
theorem dX1_init_33 : decode cX1_init 33 = .ok (.bipush 12, 2) := by decide +kernel
theorem dX1_init_35 : decode cX1_init 35 = .ok (.newarray .long, 2) := by decide +kernel
theorem dX1_init_37 : decode cX1_init 37 = .ok (.putfield 23, 3) := by decide +kernel
theorem dX1_init_40 : decode cX1_init 40 = .ok (.return_, 1) := by decide +kernel
theorem dX1_copyFrom_0 : decode cX1_copyFrom 0 = .ok (.iconst 0, 1) := by decide +kernel
theorem dX1_copyFrom_1 : decode cX1_copyFrom 1 = .ok (.istore_n 2, 1) := by decide +kernel
theorem dX1_copyFrom_2 : decode cX1_copyFrom 2 = .ok (.iload_n 2, 1) := by decide +kernel
theorem dX1_copyFrom_3 : decode cX1_copyFrom 3 = .ok (.bipush 7, 2) := by decide +kernel
theorem dX1_copyFrom_5 : decode cX1_copyFrom 5 = .ok (.if_icmp .ge 28, 3) := by decide +kernel
theorem dX1_copyFrom_8 : decode cX1_copyFrom 8 = .ok (.aload_n 1, 1) := by decide +kernel
theorem dX1_copyFrom_9 : decode cX1_copyFrom 9 = .ok (.getfield 11, 3) := by decide +kernel
theorem dX1_copyFrom_12 : decode cX1_copyFrom 12 = .ok (.iload_n 2, 1) := by decide +kernel
theorem dX1_copyFrom_13 : decode cX1_copyFrom 13 = .ok (.aaload, 1) := by decide +kernel
theorem dX1_copyFrom_14 : decode cX1_copyFrom 14 = .ok (.iconst 0, 1) := by decide +kernel
theorem dX1_copyFrom_15 : decode cX1_copyFrom 15 = .ok (.aload_n 0, 1) := by decide +kernel
theorem dX1_copyFrom_16 : decode cX1_copyFrom 16 = .ok (.getfield 11, 3) := by decide +kernel
theorem dX1_copyFrom_19 : decode cX1_copyFrom 19 = .ok (.iload_n 2, 1) := by decide +kernel
theorem dX1_copyFrom_20 : decode cX1_copyFrom 20 = .ok (.aaload, 1) := by decide +kernel
theorem dX1_copyFrom_21 : decode cX1_copyFrom 21 = .ok (.iconst 0, 1) := by decide +kernel
theorem dX1_copyFrom_22 : decode cX1_copyFrom 22 = .ok (.bipush 12, 2) := by decide +kernel
theorem dX1_copyFrom_24 : decode cX1_copyFrom 24 = .ok (.invokestatic 27, 3) := by decide +kernel
theorem dX1_copyFrom_27 : decode cX1_copyFrom 27 = .ok (.iinc 2 1, 3) := by decide +kernel
theorem dX1_copyFrom_30 : decode cX1_copyFrom 30 = .ok (.goto (-28), 3) := by decide +kernel
theorem dX1_copyFrom_33 : decode cX1_copyFrom 33 = .ok (.aload_n 1, 1) := by decide +kernel
theorem dX1_copyFrom_34 : decode cX1_copyFrom 34 = .ok (.getfield 16, 3) := by decide +kernel
theorem dX1_copyFrom_37 : decode cX1_copyFrom 37 = .ok (.iconst 0, 1) := by decide +kernel
theorem dX1_copyFrom_38 : decode cX1_copyFrom 38 = .ok (.aload_n 0, 1) := by decide +kernel
theorem dX1_copyFrom_39 : decode cX1_copyFrom 39 = .ok (.getfield 16, 3) := by decide +kernel
theorem dX1_copyFrom_42 : decode cX1_copyFrom 42 = .ok (.iconst 0, 1) := by decide +kernel
theorem dX1_copyFrom_43 : decode cX1_copyFrom 43 = .ok (.bipush 12, 2) := by decide +kernel
theorem dX1_copyFrom_45 : decode cX1_copyFrom 45 = .ok (.invokestatic 27, 3) := by decide +kernel
theorem dX1_copyFrom_48 : decode cX1_copyFrom 48 = .ok (.aload_n 1, 1) := by decide +kernel
theorem dX1_copyFrom_49 : decode cX1_copyFrom 49 = .ok (.getfield 20, 3) := by decide +kernel
theorem dX1_copyFrom_52 : decode cX1_copyFrom 52 = .ok (.iconst 0, 1) := by decide +kernel
theorem dX1_copyFrom_53 : decode cX1_copyFrom 53 = .ok (.aload_n 0, 1) := by decide +kernel
theorem dX1_copyFrom_54 : decode cX1_copyFrom 54 = .ok (.getfield 20, 3) := by decide +kernel
theorem dX1_copyFrom_57 : decode cX1_copyFrom 57 = .ok (.iconst 0, 1) := by decide +kernel
theorem dX1_copyFrom_58 : decode cX1_copyFrom 58 = .ok (.bipush 12, 2) := by decide +kernel
theorem dX1_copyFrom_60 : decode cX1_copyFrom 60 = .ok (.invokestatic 27, 3) := by decide +kernel
theorem dX1_copyFrom_63 : decode cX1_copyFrom 63 = .ok (.aload_n 1, 1) := by decide +kernel
theorem dX1_copyFrom_64 : decode cX1_copyFrom 64 = .ok (.getfield 23, 3) := by decide +kernel
theorem dX1_copyFrom_67 : decode cX1_copyFrom 67 = .ok (.iconst 0, 1) := by decide +kernel
theorem dX1_copyFrom_68 : decode cX1_copyFrom 68 = .ok (.aload_n 0, 1) := by decide +kernel
theorem dX1_copyFrom_69 : decode cX1_copyFrom 69 = .ok (.getfield 23, 3) := by decide +kernel
theorem dX1_copyFrom_72 : decode cX1_copyFrom 72 = .ok (.iconst 0, 1) := by decide +kernel
theorem dX1_copyFrom_73 : decode cX1_copyFrom 73 = .ok (.bipush 12, 2) := by decide +kernel
theorem dX1_copyFrom_75 : decode cX1_copyFrom 75 = .ok (.invokestatic 27, 3) := by decide +kernel
theorem dX1_copyFrom_78 : decode cX1_copyFrom 78 = .ok (.aload_n 0, 1) := by decide +kernel
theorem dX1_copyFrom_79 : decode cX1_copyFrom 79 = .ok (.aload_n 1, 1) := by decide +kernel
theorem dX1_copyFrom_80 : decode cX1_copyFrom 80 = .ok (.getfield 33, 3) := by decide +kernel
theorem dX1_copyFrom_83 : decode cX1_copyFrom 83 = .ok (.putfield 33, 3) := by decide +kernel
theorem dX1_copyFrom_86 : decode cX1_copyFrom 86 = .ok (.aload_n 0, 1) := by decide +kernel
theorem dX1_copyFrom_87 : decode cX1_copyFrom 87 = .ok (.aload_n 1, 1) := by decide +kernel
theorem dX1_copyFrom_88 : decode cX1_copyFrom 88 = .ok (.getfield 37, 3) := by decide +kernel
theorem dX1_copyFrom_91 : decode cX1_copyFrom 91 = .ok (.putfield 37, 3) := by decide +kernel
theorem dX1_copyFrom_94 : decode cX1_copyFrom 94 = .ok (.aload_n 0, 1) := by decide +kernel
theorem dX1_copyFrom_95 : decode cX1_copyFrom 95 = .ok (.aload_n 1, 1) := by decide +kernel
theorem dX1_copyFrom_96 : decode cX1_copyFrom 96 = .ok (.getfield 40, 3) := by decide +kernel
theorem dX1_copyFrom_99 : decode cX1_copyFrom 99 = .ok (.putfield 40, 3) := by decide +kernel
theorem dX1_copyFrom_102 : decode cX1_copyFrom 102 = .ok (.aload_n 0, 1) := by decide +kernel
theorem dX1_copyFrom_103 : decode cX1_copyFrom 103 = .ok (.aload_n 1, 1) := by decide +kernel
theorem dX1_copyFrom_104 : decode cX1_copyFrom 104 = .ok (.getfield 43, 3) := by decide +kernel
theorem dX1_copyFrom_107 : decode cX1_copyFrom 107 = .ok (.putfield 43, 3) := by decide +kernel
theorem dX1_copyFrom_110 : decode cX1_copyFrom 110 = .ok (.return_, 1) := by decide +kernel
theorem dX1_stayAll_0 : decode cX1_stayAll 0 = .ok (.iconst 0, 1) := by decide +kernel
theorem dX1_stayAll_1 : decode cX1_stayAll 1 = .ok (.istore_n 2, 1) := by decide +kernel
theorem dX1_stayAll_2 : decode cX1_stayAll 2 = .ok (.iload_n 2, 1) := by decide +kernel
theorem dX1_stayAll_3 : decode cX1_stayAll 3 = .ok (.bipush 12, 2) := by decide +kernel
theorem dX1_stayAll_5 : decode cX1_stayAll 5 = .ok (.if_icmp .ge 18, 3) := by decide +kernel
theorem dX1_stayAll_8 : decode cX1_stayAll 8 = .ok (.aload_n 0, 1) := by decide +kernel
theorem dX1_stayAll_9 : decode cX1_stayAll 9 = .ok (.getfield 11, 3) := by decide +kernel
theorem dX1_stayAll_12 : decode cX1_stayAll 12 = .ok (.iload_n 1, 1) := by decide +kernel
theorem dX1_stayAll_13 : decode cX1_stayAll 13 = .ok (.aaload, 1) := by decide +kernel
theorem dX1_stayAll_14 : decode cX1_stayAll 14 = .ok (.iload_n 2, 1) := by decide +kernel
theorem dX1_stayAll_15 : decode cX1_stayAll 15 = .ok (.iload_n 2, 1) := by decide +kernel
theorem dX1_stayAll_16 : decode cX1_stayAll 16 = .ok (.iastore, 1) := by decide +kernel
theorem dX1_stayAll_17 : decode cX1_stayAll 17 = .ok (.iinc 2 1, 3) := by decide +kernel
theorem dX1_stayAll_20 : decode cX1_stayAll 20 = .ok (.goto (-18), 3) := by decide +kernel
theorem dX1_stayAll_23 : decode cX1_stayAll 23 = .ok (.return_, 1) := by decide +kernel
theorem dX2_init_0 : decode cX2_init 0 = .ok (.aload_n 0, 1) := by decide +kernel
theorem dX2_init_1 : decode cX2_init 1 = .ok (.invokespecial 3, 3) := by decide +kernel
theorem dX2_init_4 : decode cX2_init 4 = .ok (.aload_n 0, 1) := by decide +kernel
theorem dX2_init_5 : decode cX2_init 5 = .ok (.bipush 6, 2) := by decide +kernel
theorem dX2_init_7 : decode cX2_init 7 = .ok (.newarray .int, 2) := by decide +kernel
theorem dX2_init_9 : decode cX2_init 9 = .ok (.putfield 9, 3) := by decide +kernel
theorem dX2_init_12 : decode cX2_init 12 = .ok (.aload_n 0, 1) := by decide +kernel
theorem dX2_init_13 : decode cX2_init 13 = .ok (.bipush 6, 2) := by decide +kernel
theorem dX2_init_15 : decode cX2_init 15 = .ok (.newarray .int, 2) := by decide +kernel
theorem dX2_init_17 : decode cX2_init 17 = .ok (.putfield 15, 3) := by decide +kernel
theorem dX2_init_20 : decode cX2_init 20 = .ok (.aload_n 0, 1) := by decide +kernel
theorem dX2_init_21 : decode cX2_init 21 = .ok (.bipush 6, 2) := by decide +kernel
theorem dX2_init_23 : decode cX2_init 23 = .ok (.newarray .int, 2) := by decide +kernel
theorem dX2_init_25 : decode cX2_init 25 = .ok (.putfield 18, 3) := by decide +kernel
theorem dX2_init_28 : decode cX2_init 28 = .ok (.aload_n 0, 1) := by decide +kernel
theorem dX2_init_29 : decode cX2_init 29 = .ok (.bipush 6, 2) := by decide +kernel
theorem dX2_init_31 : decode cX2_init 31 = .ok (.newarray .int, 2) := by decide +kernel
theorem dX2_init_33 : decode cX2_init 33 = .ok (.putfield 21, 3) := by decide +kernel
theorem dX2_init_36 : decode cX2_init 36 = .ok (.aload_n 0, 1) := by decide +kernel
theorem dX2_init_37 : decode cX2_init 37 = .ok (.bipush 6, 2) := by decide +kernel
theorem dX2_init_39 : decode cX2_init 39 = .ok (.newarray .int, 2) := by decide +kernel
theorem dX2_init_41 : decode cX2_init 41 = .ok (.putfield 24, 3) := by decide +kernel
theorem dX2_init_44 : decode cX2_init 44 = .ok (.return_, 1) := by decide +kernel
set_option maxRecDepth 20000 in
theorem ggX2_ordersKeeping_X2_startWays : GoodIn wsX2_ordersKeeping wsX2_startWays := goodIn_r _ [5, 6, 7, 8, 9, 10, 11, 12, 50, 51, 52, 53, 54, 55, 56, 57] (by decide +kernel) (by decide +kernel)
set_option maxRecDepth 20000 in
theorem gX2_ordersKeeping_X2_startWays : GoodIn wsX2_ordersKeeping (wsV RX2 50 RX2 yX2_startWays wsX2_startWays) := goodIn_app (goodIn_of _ (by decide +kernel)) ggX2_ordersKeeping_X2_startWays
set_option maxRecDepth 20000 in
theorem ggX2_ordersKeeping_X2_keptByWay : GoodIn wsX2_ordersKeeping wsX2_keptByWay := goodIn_r _ [16, 17, 18, 19, 20, 4, 21, 22, 23, 24, 6, 25, 26, 27, 28, 11, 29, 30, 31, 32, 50, 51, 52, 53, 54, 55, 56, 57] (by decide +kernel) (by decide +kernel)
set_option maxRecDepth 20000 in
theorem gX2_ordersKeeping_X2_keptByWay : GoodIn wsX2_ordersKeeping (wsV RX2 54 RX2 yX2_keptByWay wsX2_keptByWay) := goodIn_app (goodIn_of _ (by decide +kernel)) ggX2_ordersKeeping_X2_keptByWay
set_option maxRecDepth 20000 in
theorem ggX2_ordersKeeping_X2_noteFound : GoodIn wsX2_ordersKeeping wsX2_noteFound := goodIn_r _ [36, 6, 37, 11, 38, 39, 40, 41, 12, 50, 51, 52, 53, 54, 55, 56, 57] (by decide +kernel) (by decide +kernel)
set_option maxRecDepth 20000 in
theorem gX2_ordersKeeping_X2_noteFound : GoodIn wsX2_ordersKeeping (wsV RX2 58 RX2 yX2_noteFound wsX2_noteFound) := goodIn_app (goodIn_of _ (by decide +kernel)) ggX2_ordersKeeping_X2_noteFound
set_option maxRecDepth 20000 in
theorem ggX2_ordersKeeping_X2_advance : GoodIn wsX2_ordersKeeping wsX2_advance := goodIn_r _ [45, 11, 6, 46, 47, 48, 4, 49, 50, 51, 52, 53, 54, 55, 56, 57] (by decide +kernel) (by decide +kernel)
set_option maxRecDepth 20000 in
theorem gX2_ordersKeeping_X2_advance : GoodIn wsX2_ordersKeeping (wsV RX2 61 RX2 yX2_advance wsX2_advance) := goodIn_app (goodIn_of _ (by decide +kernel)) ggX2_ordersKeeping_X2_advance
theorem dX2_ordersKeeping_0 : decode cX2_ordersKeeping 0 = .ok (.iconst 0, 1) := by decide +kernel
theorem dX2_ordersKeeping_1 : decode cX2_ordersKeeping 1 = .ok (.istore_n 3, 1) := by decide +kernel
theorem dX2_ordersKeeping_2 : decode cX2_ordersKeeping 2 = .ok (.aload_n 0, 1) := by decide +kernel
theorem dX2_ordersKeeping_3 : decode cX2_ordersKeeping 3 = .ok (.iload_n 1, 1) := by decide +kernel
theorem dX2_ordersKeeping_4 : decode cX2_ordersKeeping 4 = .ok (.invokevirtual 50, 3) := by decide +kernel
theorem dX2_ordersKeeping_7 : decode cX2_ordersKeeping 7 = .ok (.iconst 0, 1) := by decide +kernel
theorem dX2_ordersKeeping_8 : decode cX2_ordersKeeping 8 = .ok (.istore 4, 2) := by decide +kernel
theorem dX2_ordersKeeping_10 : decode cX2_ordersKeeping 10 = .ok (.iload 4, 2) := by decide +kernel
theorem dX2_ordersKeeping_12 : decode cX2_ordersKeeping 12 = .ok (.sipush 720, 3) := by decide +kernel
theorem dX2_ordersKeeping_15 : decode cX2_ordersKeeping 15 = .ok (.if_icmp .ge 37, 3) := by decide +kernel
theorem dX2_ordersKeeping_18 : decode cX2_ordersKeeping 18 = .ok (.aload_n 0, 1) := by decide +kernel
theorem dX2_ordersKeeping_19 : decode cX2_ordersKeeping 19 = .ok (.invokevirtual 54, 3) := by decide +kernel
theorem dX2_ordersKeeping_22 : decode cX2_ordersKeeping 22 = .ok (.iload_n 2, 1) := by decide +kernel
theorem dX2_ordersKeeping_23 : decode cX2_ordersKeeping 23 = .ok (.iand, 1) := by decide +kernel
theorem dX2_ordersKeeping_24 : decode cX2_ordersKeeping 24 = .ok (.iload_n 2, 1) := by decide +kernel
theorem dX2_ordersKeeping_25 : decode cX2_ordersKeeping 25 = .ok (.if_icmp .ne 11, 3) := by decide +kernel
theorem dX2_ordersKeeping_28 : decode cX2_ordersKeeping 28 = .ok (.iinc 3 1, 3) := by decide +kernel
theorem dX2_ordersKeeping_31 : decode cX2_ordersKeeping 31 = .ok (.aload_n 0, 1) := by decide +kernel
theorem dX2_ordersKeeping_32 : decode cX2_ordersKeeping 32 = .ok (.iload_n 3, 1) := by decide +kernel
theorem dX2_ordersKeeping_33 : decode cX2_ordersKeeping 33 = .ok (.invokevirtual 58, 3) := by decide +kernel
theorem dX2_ordersKeeping_36 : decode cX2_ordersKeeping 36 = .ok (.aload_n 0, 1) := by decide +kernel
theorem dX2_ordersKeeping_37 : decode cX2_ordersKeeping 37 = .ok (.invokevirtual 61, 3) := by decide +kernel
theorem dX2_ordersKeeping_40 : decode cX2_ordersKeeping 40 = .ok (.ifCond .ne 6, 3) := by decide +kernel
theorem dX2_ordersKeeping_43 : decode cX2_ordersKeeping 43 = .ok (.goto 9, 3) := by decide +kernel
theorem dX2_ordersKeeping_46 : decode cX2_ordersKeeping 46 = .ok (.iinc 4 1, 3) := by decide +kernel
theorem dX2_ordersKeeping_49 : decode cX2_ordersKeeping 49 = .ok (.goto (-39), 3) := by decide +kernel
theorem dX2_ordersKeeping_52 : decode cX2_ordersKeeping 52 = .ok (.iload_n 3, 1) := by decide +kernel
theorem dX2_ordersKeeping_53 : decode cX2_ordersKeeping 53 = .ok (.ireturn, 1) := by decide +kernel
set_option maxRecDepth 20000 in
theorem ggX2_fewestTogether_X2_startWays : GoodIn wsX2_fewestTogether wsX2_startWays := goodIn_r _ [6, 7, 8, 9, 10, 11, 12, 13, 52, 53, 54, 55, 56, 57, 58, 59] (by decide +kernel) (by decide +kernel)
set_option maxRecDepth 20000 in
theorem gX2_fewestTogether_X2_startWays : GoodIn wsX2_fewestTogether (wsV RX2 50 RX2 yX2_startWays wsX2_startWays) := goodIn_app (goodIn_of _ (by decide +kernel)) ggX2_fewestTogether_X2_startWays
set_option maxRecDepth 20000 in
theorem ggX2_fewestTogether_X2_keptByWay : GoodIn wsX2_fewestTogether wsX2_keptByWay := goodIn_r _ [17, 1, 18, 19, 20, 5, 21, 22, 23, 24, 7, 25, 26, 27, 28, 12, 29, 30, 31, 32, 52, 53, 54, 55, 56, 57, 58, 59] (by decide +kernel) (by decide +kernel)
set_option maxRecDepth 20000 in
theorem gX2_fewestTogether_X2_keptByWay : GoodIn wsX2_fewestTogether (wsV RX2 54 RX2 yX2_keptByWay wsX2_keptByWay) := goodIn_app (goodIn_of _ (by decide +kernel)) ggX2_fewestTogether_X2_keptByWay
set_option maxRecDepth 20000 in
theorem ggX2_fewestTogether_X2_advance : GoodIn wsX2_fewestTogether wsX2_advance := goodIn_r _ [36, 12, 7, 37, 38, 39, 5, 40, 52, 53, 54, 55, 56, 57, 58, 59] (by decide +kernel) (by decide +kernel)
set_option maxRecDepth 20000 in
theorem gX2_fewestTogether_X2_advance : GoodIn wsX2_fewestTogether (wsV RX2 61 RX2 yX2_advance wsX2_advance) := goodIn_app (goodIn_of _ (by decide +kernel)) ggX2_fewestTogether_X2_advance
set_option maxRecDepth 20000 in
theorem ggX2_fewestTogether_J6_bitCount_0f7a4 : GoodIn wsX2_fewestTogether wsJ6_bitCount_0f7a4 := goodIn_r _ [44, 45, 46, 47] (by decide +kernel) (by decide +kernel)
set_option maxRecDepth 20000 in
theorem gX2_fewestTogether_J6_bitCount_0f7a4 : GoodIn wsX2_fewestTogether (va_wsS RX2 71 yJ6_bitCount_0f7a4 wsJ6_bitCount_0f7a4) := goodIn_app (goodIn_of _ (by decide +kernel)) ggX2_fewestTogether_J6_bitCount_0f7a4
theorem dX2_fewestTogether_0 : decode cX2_fewestTogether 0 = .ok (.lconst 0, 1) := by decide +kernel
theorem dX2_fewestTogether_1 : decode cX2_fewestTogether 1 = .ok (.lstore_n 2, 1) := by decide +kernel
theorem dX2_fewestTogether_2 : decode cX2_fewestTogether 2 = .ok (.aload_n 0, 1) := by decide +kernel
theorem dX2_fewestTogether_3 : decode cX2_fewestTogether 3 = .ok (.iload_n 1, 1) := by decide +kernel
theorem dX2_fewestTogether_4 : decode cX2_fewestTogether 4 = .ok (.invokevirtual 50, 3) := by decide +kernel
theorem dX2_fewestTogether_7 : decode cX2_fewestTogether 7 = .ok (.iconst 0, 1) := by decide +kernel
theorem dX2_fewestTogether_8 : decode cX2_fewestTogether 8 = .ok (.istore 4, 2) := by decide +kernel
theorem dX2_fewestTogether_10 : decode cX2_fewestTogether 10 = .ok (.iload 4, 2) := by decide +kernel
theorem dX2_fewestTogether_12 : decode cX2_fewestTogether 12 = .ok (.sipush 720, 3) := by decide +kernel
theorem dX2_fewestTogether_15 : decode cX2_fewestTogether 15 = .ok (.if_icmp .ge 28, 3) := by decide +kernel
theorem dX2_fewestTogether_18 : decode cX2_fewestTogether 18 = .ok (.lload_n 2, 1) := by decide +kernel
theorem dX2_fewestTogether_19 : decode cX2_fewestTogether 19 = .ok (.lconst 1, 1) := by decide +kernel
theorem dX2_fewestTogether_20 : decode cX2_fewestTogether 20 = .ok (.aload_n 0, 1) := by decide +kernel
theorem dX2_fewestTogether_21 : decode cX2_fewestTogether 21 = .ok (.invokevirtual 54, 3) := by decide +kernel
theorem dX2_fewestTogether_24 : decode cX2_fewestTogether 24 = .ok (.lshl, 1) := by decide +kernel
theorem dX2_fewestTogether_25 : decode cX2_fewestTogether 25 = .ok (.lor, 1) := by decide +kernel
theorem dX2_fewestTogether_26 : decode cX2_fewestTogether 26 = .ok (.lstore_n 2, 1) := by decide +kernel
theorem dX2_fewestTogether_27 : decode cX2_fewestTogether 27 = .ok (.aload_n 0, 1) := by decide +kernel
theorem dX2_fewestTogether_28 : decode cX2_fewestTogether 28 = .ok (.invokevirtual 61, 3) := by decide +kernel
theorem dX2_fewestTogether_31 : decode cX2_fewestTogether 31 = .ok (.ifCond .ne 6, 3) := by decide +kernel
theorem dX2_fewestTogether_34 : decode cX2_fewestTogether 34 = .ok (.goto 9, 3) := by decide +kernel
theorem dX2_fewestTogether_37 : decode cX2_fewestTogether 37 = .ok (.iinc 4 1, 3) := by decide +kernel
theorem dX2_fewestTogether_40 : decode cX2_fewestTogether 40 = .ok (.goto (-30), 3) := by decide +kernel
theorem dX2_fewestTogether_43 : decode cX2_fewestTogether 43 = .ok (.iconst 0, 1) := by decide +kernel
theorem dX2_fewestTogether_44 : decode cX2_fewestTogether 44 = .ok (.istore 4, 2) := by decide +kernel
theorem dX2_fewestTogether_46 : decode cX2_fewestTogether 46 = .ok (.iconst 1, 1) := by decide +kernel
theorem dX2_fewestTogether_47 : decode cX2_fewestTogether 47 = .ok (.istore 5, 2) := by decide +kernel
theorem dX2_fewestTogether_49 : decode cX2_fewestTogether 49 = .ok (.iload 5, 2) := by decide +kernel
theorem dX2_fewestTogether_51 : decode cX2_fewestTogether 51 = .ok (.iconst 1, 1) := by decide +kernel
theorem dX2_fewestTogether_52 : decode cX2_fewestTogether 52 = .ok (.aload_n 0, 1) := by decide +kernel
theorem dX2_fewestTogether_53 : decode cX2_fewestTogether 53 = .ok (.getfield 27, 3) := by decide +kernel
theorem dX2_fewestTogether_56 : decode cX2_fewestTogether 56 = .ok (.ishl, 1) := by decide +kernel
theorem dX2_fewestTogether_57 : decode cX2_fewestTogether 57 = .ok (.if_icmp .ge 53, 3) := by decide +kernel
theorem dX2_fewestTogether_60 : decode cX2_fewestTogether 60 = .ok (.iload 4, 2) := by decide +kernel
theorem dX2_fewestTogether_62 : decode cX2_fewestTogether 62 = .ok (.ifCond .eq 16, 3) := by decide +kernel
theorem dX2_fewestTogether_65 : decode cX2_fewestTogether 65 = .ok (.iload 5, 2) := by decide +kernel
theorem dX2_fewestTogether_67 : decode cX2_fewestTogether 67 = .ok (.invokestatic 71, 3) := by decide +kernel
theorem dX2_fewestTogether_70 : decode cX2_fewestTogether 70 = .ok (.iload 4, 2) := by decide +kernel
theorem dX2_fewestTogether_72 : decode cX2_fewestTogether 72 = .ok (.invokestatic 71, 3) := by decide +kernel
theorem dX2_fewestTogether_75 : decode cX2_fewestTogether 75 = .ok (.if_icmp .ge 7, 3) := by decide +kernel
theorem dX2_fewestTogether_78 : decode cX2_fewestTogether 78 = .ok (.iconst 1, 1) := by decide +kernel
theorem dX2_fewestTogether_79 : decode cX2_fewestTogether 79 = .ok (.goto 4, 3) := by decide +kernel
theorem dX2_fewestTogether_82 : decode cX2_fewestTogether 82 = .ok (.iconst 0, 1) := by decide +kernel
theorem dX2_fewestTogether_83 : decode cX2_fewestTogether 83 = .ok (.istore 6, 2) := by decide +kernel
theorem dX2_fewestTogether_85 : decode cX2_fewestTogether 85 = .ok (.iload 6, 2) := by decide +kernel
theorem dX2_fewestTogether_87 : decode cX2_fewestTogether 87 = .ok (.ifCond .eq 17, 3) := by decide +kernel
theorem dX2_fewestTogether_90 : decode cX2_fewestTogether 90 = .ok (.aload_n 0, 1) := by decide +kernel
theorem dX2_fewestTogether_91 : decode cX2_fewestTogether 91 = .ok (.lload_n 2, 1) := by decide +kernel
theorem dX2_fewestTogether_92 : decode cX2_fewestTogether 92 = .ok (.iload 5, 2) := by decide +kernel
theorem dX2_fewestTogether_104 : decode cX2_fewestTogether 104 = .ok (.iinc 5 1, 3) := by decide +kernel
theorem dX2_fewestTogether_107 : decode cX2_fewestTogether 107 = .ok (.goto (-58), 3) := by decide +kernel
theorem dX2_fewestTogether_110 : decode cX2_fewestTogether 110 = .ok (.iload 4, 2) := by decide +kernel
theorem dX2_fewestTogether_112 : decode cX2_fewestTogether 112 = .ok (.ireturn, 1) := by decide +kernel
theorem dX2_keptByWay_0 : decode cX2_keptByWay 0 = .ok (.iconst 0, 1) := by decide +kernel
theorem dX2_keptByWay_1 : decode cX2_keptByWay 1 = .ok (.istore_n 1, 1) := by decide +kernel
theorem dX2_keptByWay_2 : decode cX2_keptByWay 2 = .ok (.iconst 0, 1) := by decide +kernel
theorem dX2_keptByWay_3 : decode cX2_keptByWay 3 = .ok (.istore_n 2, 1) := by decide +kernel
theorem dX2_keptByWay_4 : decode cX2_keptByWay 4 = .ok (.iload_n 2, 1) := by decide +kernel
theorem dX2_keptByWay_5 : decode cX2_keptByWay 5 = .ok (.aload_n 0, 1) := by decide +kernel
theorem dX2_keptByWay_6 : decode cX2_keptByWay 6 = .ok (.getfield 27, 3) := by decide +kernel
theorem dX2_keptByWay_9 : decode cX2_keptByWay 9 = .ok (.if_icmp .ge 23, 3) := by decide +kernel
theorem dX2_keptByWay_12 : decode cX2_keptByWay 12 = .ok (.aload_n 0, 1) := by decide +kernel
theorem dX2_keptByWay_13 : decode cX2_keptByWay 13 = .ok (.iload_n 2, 1) := by decide +kernel
theorem dX2_keptByWay_32 : decode cX2_keptByWay 32 = .ok (.iload_n 1, 1) := by decide +kernel
theorem dX2_keptByWay_33 : decode cX2_keptByWay 33 = .ok (.ireturn, 1) := by decide +kernel
theorem dX2_startWays_0 : decode cX2_startWays 0 = .ok (.aload_n 0, 1) := by decide +kernel
theorem dX2_startWays_1 : decode cX2_startWays 1 = .ok (.iload_n 1, 1) := by decide +kernel
theorem dX2_startWays_2 : decode cX2_startWays 2 = .ok (.aload_n 0, 1) := by decide +kernel
theorem dX2_startWays_3 : decode cX2_startWays 3 = .ok (.getfield 21, 3) := by decide +kernel
theorem dX2_startWays_6 : decode cX2_startWays 6 = .ok (.arraylength, 1) := by decide +kernel
theorem dX2_startWays_7 : decode cX2_startWays 7 = .ok (.invokestatic 94, 3) := by decide +kernel
theorem dX2_startWays_10 : decode cX2_startWays 10 = .ok (.putfield 91, 3) := by decide +kernel
theorem dX2_startWays_13 : decode cX2_startWays 13 = .ok (.aload_n 0, 1) := by decide +kernel
theorem dX2_startWays_14 : decode cX2_startWays 14 = .ok (.iconst 0, 1) := by decide +kernel
theorem dX2_startWays_15 : decode cX2_startWays 15 = .ok (.putfield 100, 3) := by decide +kernel
theorem dX2_startWays_18 : decode cX2_startWays 18 = .ok (.iconst 0, 1) := by decide +kernel
theorem dX2_startWays_19 : decode cX2_startWays 19 = .ok (.istore_n 2, 1) := by decide +kernel
theorem dX2_startWays_20 : decode cX2_startWays 20 = .ok (.iload_n 2, 1) := by decide +kernel
theorem dX2_startWays_21 : decode cX2_startWays 21 = .ok (.aload_n 0, 1) := by decide +kernel
theorem dX2_startWays_22 : decode cX2_startWays 22 = .ok (.getfield 91, 3) := by decide +kernel
theorem dX2_startWays_25 : decode cX2_startWays 25 = .ok (.if_icmp .ge 16, 3) := by decide +kernel
theorem dX2_startWays_28 : decode cX2_startWays 28 = .ok (.aload_n 0, 1) := by decide +kernel
theorem dX2_startWays_29 : decode cX2_startWays 29 = .ok (.getfield 21, 3) := by decide +kernel
theorem dX2_startWays_32 : decode cX2_startWays 32 = .ok (.iload_n 2, 1) := by decide +kernel
theorem dX2_startWays_33 : decode cX2_startWays 33 = .ok (.iload_n 2, 1) := by decide +kernel
theorem dX2_startWays_34 : decode cX2_startWays 34 = .ok (.iastore, 1) := by decide +kernel
theorem dX2_startWays_35 : decode cX2_startWays 35 = .ok (.iinc 2 1, 3) := by decide +kernel
theorem dX2_startWays_38 : decode cX2_startWays 38 = .ok (.goto (-18), 3) := by decide +kernel
theorem dX2_startWays_41 : decode cX2_startWays 41 = .ok (.return_, 1) := by decide +kernel
theorem dX2_noteFound_0 : decode cX2_noteFound 0 = .ok (.iload_n 1, 1) := by decide +kernel
theorem dX2_noteFound_1 : decode cX2_noteFound 1 = .ok (.iconst 1, 1) := by decide +kernel
theorem dX2_noteFound_2 : decode cX2_noteFound 2 = .ok (.if_icmp .ne 28, 3) := by decide +kernel
theorem dX2_noteFound_5 : decode cX2_noteFound 5 = .ok (.aload_n 0, 1) := by decide +kernel
theorem dX2_noteFound_6 : decode cX2_noteFound 6 = .ok (.getfield 21, 3) := by decide +kernel
theorem dX2_noteFound_9 : decode cX2_noteFound 9 = .ok (.iconst 0, 1) := by decide +kernel
theorem dX2_noteFound_10 : decode cX2_noteFound 10 = .ok (.aload_n 0, 1) := by decide +kernel
theorem dX2_noteFound_11 : decode cX2_noteFound 11 = .ok (.getfield 24, 3) := by decide +kernel
theorem dX2_noteFound_14 : decode cX2_noteFound 14 = .ok (.iconst 0, 1) := by decide +kernel
theorem dX2_noteFound_15 : decode cX2_noteFound 15 = .ok (.aload_n 0, 1) := by decide +kernel
theorem dX2_noteFound_16 : decode cX2_noteFound 16 = .ok (.getfield 91, 3) := by decide +kernel
theorem dX2_noteFound_19 : decode cX2_noteFound 19 = .ok (.invokestatic 103, 3) := by decide +kernel
theorem dX2_noteFound_22 : decode cX2_noteFound 22 = .ok (.aload_n 0, 1) := by decide +kernel
theorem dX2_noteFound_23 : decode cX2_noteFound 23 = .ok (.aload_n 0, 1) := by decide +kernel
theorem dX2_noteFound_24 : decode cX2_noteFound 24 = .ok (.getfield 91, 3) := by decide +kernel
theorem dX2_noteFound_27 : decode cX2_noteFound 27 = .ok (.putfield 100, 3) := by decide +kernel
theorem dX2_noteFound_30 : decode cX2_noteFound 30 = .ok (.return_, 1) := by decide +kernel
theorem dX2_advance_0 : decode cX2_advance 0 = .ok (.aload_n 0, 1) := by decide +kernel
theorem dX2_advance_1 : decode cX2_advance 1 = .ok (.getfield 91, 3) := by decide +kernel
theorem dX2_advance_4 : decode cX2_advance 4 = .ok (.iconst 2, 1) := by decide +kernel
theorem dX2_advance_5 : decode cX2_advance 5 = .ok (.isub, 1) := by decide +kernel
theorem dX2_advance_6 : decode cX2_advance 6 = .ok (.istore_n 1, 1) := by decide +kernel
theorem dX2_advance_7 : decode cX2_advance 7 = .ok (.iload_n 1, 1) := by decide +kernel
theorem dX2_advance_8 : decode cX2_advance 8 = .ok (.ifCond .lt 26, 3) := by decide +kernel
theorem dX2_advance_11 : decode cX2_advance 11 = .ok (.aload_n 0, 1) := by decide +kernel
theorem dX2_advance_12 : decode cX2_advance 12 = .ok (.getfield 21, 3) := by decide +kernel
theorem dX2_advance_15 : decode cX2_advance 15 = .ok (.iload_n 1, 1) := by decide +kernel
theorem dX2_advance_16 : decode cX2_advance 16 = .ok (.iaload, 1) := by decide +kernel
theorem dX2_advance_17 : decode cX2_advance 17 = .ok (.aload_n 0, 1) := by decide +kernel
theorem dX2_advance_18 : decode cX2_advance 18 = .ok (.getfield 21, 3) := by decide +kernel
theorem dX2_advance_21 : decode cX2_advance 21 = .ok (.iload_n 1, 1) := by decide +kernel
theorem dX2_advance_22 : decode cX2_advance 22 = .ok (.iconst 1, 1) := by decide +kernel
theorem dX2_advance_23 : decode cX2_advance 23 = .ok (.iadd, 1) := by decide +kernel
theorem dX2_advance_24 : decode cX2_advance 24 = .ok (.iaload, 1) := by decide +kernel
theorem dX2_advance_25 : decode cX2_advance 25 = .ok (.if_icmp .le 9, 3) := by decide +kernel
theorem dX2_advance_28 : decode cX2_advance 28 = .ok (.iinc 1 (-1), 3) := by decide +kernel
theorem dX2_advance_31 : decode cX2_advance 31 = .ok (.goto (-24), 3) := by decide +kernel
theorem dX2_advance_34 : decode cX2_advance 34 = .ok (.iload_n 1, 1) := by decide +kernel
theorem dX2_advance_35 : decode cX2_advance 35 = .ok (.ifCond .ge 5, 3) := by decide +kernel
theorem dX2_advance_38 : decode cX2_advance 38 = .ok (.iconst 0, 1) := by decide +kernel
theorem dX2_advance_39 : decode cX2_advance 39 = .ok (.ireturn, 1) := by decide +kernel
theorem dX2_advance_40 : decode cX2_advance 40 = .ok (.aload_n 0, 1) := by decide +kernel
theorem dX2_advance_41 : decode cX2_advance 41 = .ok (.getfield 91, 3) := by decide +kernel
theorem dX2_advance_44 : decode cX2_advance 44 = .ok (.iconst 1, 1) := by decide +kernel
theorem dX2_advance_45 : decode cX2_advance 45 = .ok (.isub, 1) := by decide +kernel
theorem dX2_advance_46 : decode cX2_advance 46 = .ok (.istore_n 2, 1) := by decide +kernel
theorem dX2_advance_47 : decode cX2_advance 47 = .ok (.iload_n 2, 1) := by decide +kernel
theorem dX2_advance_48 : decode cX2_advance 48 = .ok (.iload_n 1, 1) := by decide +kernel
theorem dX2_advance_49 : decode cX2_advance 49 = .ok (.if_icmp .le 24, 3) := by decide +kernel
theorem dX2_advance_52 : decode cX2_advance 52 = .ok (.aload_n 0, 1) := by decide +kernel
theorem dX2_advance_53 : decode cX2_advance 53 = .ok (.getfield 21, 3) := by decide +kernel
theorem dX2_advance_56 : decode cX2_advance 56 = .ok (.iload_n 2, 1) := by decide +kernel
theorem dX2_advance_57 : decode cX2_advance 57 = .ok (.iaload, 1) := by decide +kernel
theorem dX2_advance_58 : decode cX2_advance 58 = .ok (.aload_n 0, 1) := by decide +kernel
theorem dX2_advance_59 : decode cX2_advance 59 = .ok (.getfield 21, 3) := by decide +kernel
theorem dX2_advance_62 : decode cX2_advance 62 = .ok (.iload_n 1, 1) := by decide +kernel
theorem dX2_advance_63 : decode cX2_advance 63 = .ok (.iaload, 1) := by decide +kernel
theorem dX2_advance_64 : decode cX2_advance 64 = .ok (.if_icmp .ge 9, 3) := by decide +kernel
theorem dX2_advance_67 : decode cX2_advance 67 = .ok (.iinc 2 (-1), 3) := by decide +kernel
theorem dX2_advance_70 : decode cX2_advance 70 = .ok (.goto (-23), 3) := by decide +kernel
theorem dX2_advance_73 : decode cX2_advance 73 = .ok (.aload_n 0, 1) := by decide +kernel
theorem dX2_advance_74 : decode cX2_advance 74 = .ok (.iload_n 1, 1) := by decide +kernel
theorem dX2_advance_75 : decode cX2_advance 75 = .ok (.iload_n 2, 1) := by decide +kernel
theorem dX3_init_0 : decode cX3_init 0 = .ok (.aload_n 0, 1) := by decide +kernel
theorem dX3_init_1 : decode cX3_init 1 = .ok (.invokespecial 3, 3) := by decide +kernel
theorem dX3_init_4 : decode cX3_init 4 = .ok (.aload_n 0, 1) := by decide +kernel
theorem dX3_init_5 : decode cX3_init 5 = .ok (.bipush 6, 2) := by decide +kernel
theorem dX3_init_7 : decode cX3_init 7 = .ok (.bipush 6, 2) := by decide +kernel
theorem dX3_init_9 : decode cX3_init 9 = .ok (.multianewarray 9 2, 4) := by decide +kernel
theorem dX3_init_13 : decode cX3_init 13 = .ok (.putfield 11, 3) := by decide +kernel
theorem dX3_init_16 : decode cX3_init 16 = .ok (.return_, 1) := by decide +kernel
set_option maxRecDepth 20000 in
theorem ggX4_init_X4_stayAway : GoodIn wsX4_init wsX4_stayAway := goodIn_r _ [13, 8, 14, 15, 16] (by decide +kernel) (by decide +kernel)
set_option maxRecDepth 20000 in
theorem gX4_init_X4_stayAway : GoodIn wsX4_init (wsV RX4 23 RX4 yX4_stayAway wsX4_stayAway) := goodIn_app (goodIn_of _ (by decide +kernel)) ggX4_init_X4_stayAway
theorem dX4_init_0 : decode cX4_init 0 = .ok (.aload_n 0, 1) := by decide +kernel
theorem dX4_init_1 : decode cX4_init 1 = .ok (.invokespecial 3, 3) := by decide +kernel
theorem dX4_init_4 : decode cX4_init 4 = .ok (.aload_n 0, 1) := by decide +kernel
theorem dX4_init_5 : decode cX4_init 5 = .ok (.bipush 12, 2) := by decide +kernel
theorem dX4_init_7 : decode cX4_init 7 = .ok (.newarray .int, 2) := by decide +kernel
theorem dX4_init_9 : decode cX4_init 9 = .ok (.putfield 9, 3) := by decide +kernel
theorem dX4_init_12 : decode cX4_init 12 = .ok (.aload_n 0, 1) := by decide +kernel
theorem dX4_init_13 : decode cX4_init 13 = .ok (.bipush 12, 2) := by decide +kernel
theorem dX4_init_15 : decode cX4_init 15 = .ok (.newarray .int, 2) := by decide +kernel
theorem dX4_init_17 : decode cX4_init 17 = .ok (.putfield 15, 3) := by decide +kernel
theorem dX4_init_20 : decode cX4_init 20 = .ok (.aload_n 0, 1) := by decide +kernel
theorem dX4_init_21 : decode cX4_init 21 = .ok (.bipush 10, 2) := by decide +kernel
theorem dX4_init_23 : decode cX4_init 23 = .ok (.bipush 10, 2) := by decide +kernel
theorem dX4_init_25 : decode cX4_init 25 = .ok (.multianewarray 18 2, 4) := by decide +kernel
theorem dX4_init_29 : decode cX4_init 29 = .ok (.putfield 20, 3) := by decide +kernel
theorem dX4_init_32 : decode cX4_init 32 = .ok (.aload_n 0, 1) := by decide +kernel
theorem dX4_init_33 : decode cX4_init 33 = .ok (.invokevirtual 23, 3) := by decide +kernel
theorem dX4_init_36 : decode cX4_init 36 = .ok (.return_, 1) := by decide +kernel
theorem dX4_between_0 : decode cX4_between 0 = .ok (.aload_n 0, 1) := by decide +kernel
theorem dX4_between_1 : decode cX4_between 1 = .ok (.getfield 20, 3) := by decide +kernel
theorem dX4_between_4 : decode cX4_between 4 = .ok (.iload_n 1, 1) := by decide +kernel
theorem dX4_between_5 : decode cX4_between 5 = .ok (.aaload, 1) := by decide +kernel
theorem dX4_between_6 : decode cX4_between 6 = .ok (.iload_n 2, 1) := by decide +kernel
theorem dX4_between_7 : decode cX4_between 7 = .ok (.iaload, 1) := by decide +kernel
theorem dX4_between_8 : decode cX4_between 8 = .ok (.ireturn, 1) := by decide +kernel
set_option maxRecDepth 20000 in
theorem ggX4_measure_X4_stayAway : GoodIn wsX4_measure wsX4_stayAway := goodIn_r _ [12, 3, 26, 27, 28] (by decide +kernel) (by decide +kernel)
set_option maxRecDepth 20000 in
theorem gX4_measure_X4_stayAway : GoodIn wsX4_measure (wsV RX4 23 RX4 yX4_stayAway wsX4_stayAway) := goodIn_app (goodIn_of _ (by decide +kernel)) ggX4_measure_X4_stayAway
set_option maxRecDepth 20000 in
theorem ggX4_measure_X4_shortenBy : GoodIn wsX4_measure wsX4_shortenBy := goodIn_r _ [16, 3, 4, 5, 6, 7, 26, 27, 28] (by decide +kernel) (by decide +kernel)
set_option maxRecDepth 20000 in
theorem gX4_measure_X4_shortenBy : GoodIn wsX4_measure (wsV RX4 41 RX4 yX4_shortenBy wsX4_shortenBy) := goodIn_app (goodIn_of _ (by decide +kernel)) ggX4_measure_X4_shortenBy
theorem dX4_measure_0 : decode cX4_measure 0 = .ok (.aload_n 0, 1) := by decide +kernel
theorem dX4_measure_1 : decode cX4_measure 1 = .ok (.invokevirtual 23, 3) := by decide +kernel
theorem dX4_measure_4 : decode cX4_measure 4 = .ok (.iconst 0, 1) := by decide +kernel
theorem dX4_measure_5 : decode cX4_measure 5 = .ok (.istore_n 2, 1) := by decide +kernel
theorem dX4_measure_6 : decode cX4_measure 6 = .ok (.iload_n 2, 1) := by decide +kernel
theorem dX4_measure_7 : decode cX4_measure 7 = .ok (.aload_n 1, 1) := by decide +kernel
theorem dX4_measure_8 : decode cX4_measure 8 = .ok (.getfield 26, 3) := by decide +kernel
theorem dX4_measure_11 : decode cX4_measure 11 = .ok (.if_icmp .ge 66, 3) := by decide +kernel
theorem dX4_measure_14 : decode cX4_measure 14 = .ok (.aload_n 0, 1) := by decide +kernel
theorem dX4_measure_15 : decode cX4_measure 15 = .ok (.getfield 9, 3) := by decide +kernel
theorem dX4_measure_18 : decode cX4_measure 18 = .ok (.iload_n 2, 1) := by decide +kernel
theorem dX4_measure_19 : decode cX4_measure 19 = .ok (.iaload, 1) := by decide +kernel
theorem dX4_measure_20 : decode cX4_measure 20 = .ok (.istore_n 3, 1) := by decide +kernel
theorem dX4_measure_21 : decode cX4_measure 21 = .ok (.aload_n 0, 1) := by decide +kernel
theorem dX4_measure_22 : decode cX4_measure 22 = .ok (.getfield 15, 3) := by decide +kernel
theorem dX4_measure_25 : decode cX4_measure 25 = .ok (.iload_n 2, 1) := by decide +kernel
theorem dX4_measure_26 : decode cX4_measure 26 = .ok (.iaload, 1) := by decide +kernel
theorem dX4_measure_27 : decode cX4_measure 27 = .ok (.istore 4, 2) := by decide +kernel
theorem dX4_measure_29 : decode cX4_measure 29 = .ok (.aload_n 0, 1) := by decide +kernel
theorem dX4_measure_30 : decode cX4_measure 30 = .ok (.getfield 20, 3) := by decide +kernel
theorem dX4_measure_33 : decode cX4_measure 33 = .ok (.iload_n 3, 1) := by decide +kernel
theorem dX4_measure_34 : decode cX4_measure 34 = .ok (.aaload, 1) := by decide +kernel
theorem dX4_measure_35 : decode cX4_measure 35 = .ok (.iload 4, 2) := by decide +kernel
theorem dX4_measure_37 : decode cX4_measure 37 = .ok (.iaload, 1) := by decide +kernel
theorem dX4_measure_38 : decode cX4_measure 38 = .ok (.aload_n 1, 1) := by decide +kernel
theorem dX4_measure_39 : decode cX4_measure 39 = .ok (.getfield 32, 3) := by decide +kernel
theorem dX4_measure_42 : decode cX4_measure 42 = .ok (.iload_n 2, 1) := by decide +kernel
theorem dX4_measure_43 : decode cX4_measure 43 = .ok (.iaload, 1) := by decide +kernel
theorem dX4_measure_44 : decode cX4_measure 44 = .ok (.invokestatic 35, 3) := by decide +kernel
theorem dX4_measure_47 : decode cX4_measure 47 = .ok (.istore 5, 2) := by decide +kernel
theorem dX4_measure_49 : decode cX4_measure 49 = .ok (.aload_n 0, 1) := by decide +kernel
theorem dX4_measure_50 : decode cX4_measure 50 = .ok (.getfield 20, 3) := by decide +kernel
theorem dX4_measure_53 : decode cX4_measure 53 = .ok (.iload_n 3, 1) := by decide +kernel
theorem dX4_measure_54 : decode cX4_measure 54 = .ok (.aaload, 1) := by decide +kernel
theorem dX4_measure_55 : decode cX4_measure 55 = .ok (.iload 4, 2) := by decide +kernel
theorem dX4_measure_57 : decode cX4_measure 57 = .ok (.iload 5, 2) := by decide +kernel
theorem dX4_measure_59 : decode cX4_measure 59 = .ok (.iastore, 1) := by decide +kernel
theorem dX4_measure_60 : decode cX4_measure 60 = .ok (.aload_n 0, 1) := by decide +kernel
theorem dX4_measure_61 : decode cX4_measure 61 = .ok (.getfield 20, 3) := by decide +kernel
theorem dX4_measure_64 : decode cX4_measure 64 = .ok (.iload 4, 2) := by decide +kernel
theorem dX4_measure_66 : decode cX4_measure 66 = .ok (.aaload, 1) := by decide +kernel
theorem dX4_measure_67 : decode cX4_measure 67 = .ok (.iload_n 3, 1) := by decide +kernel
theorem dX4_measure_68 : decode cX4_measure 68 = .ok (.iload 5, 2) := by decide +kernel
theorem dX4_measure_70 : decode cX4_measure 70 = .ok (.iastore, 1) := by decide +kernel
theorem dX4_measure_71 : decode cX4_measure 71 = .ok (.iinc 2 1, 3) := by decide +kernel
theorem dX4_measure_74 : decode cX4_measure 74 = .ok (.goto (-68), 3) := by decide +kernel
theorem dX4_measure_77 : decode cX4_measure 77 = .ok (.iconst 0, 1) := by decide +kernel
theorem dX4_measure_78 : decode cX4_measure 78 = .ok (.istore_n 2, 1) := by decide +kernel
theorem dX4_measure_79 : decode cX4_measure 79 = .ok (.iload_n 2, 1) := by decide +kernel
theorem dX4_measure_80 : decode cX4_measure 80 = .ok (.bipush 10, 2) := by decide +kernel
theorem dX4_measure_82 : decode cX4_measure 82 = .ok (.if_icmp .ge 14, 3) := by decide +kernel
theorem dX4_measure_85 : decode cX4_measure 85 = .ok (.aload_n 0, 1) := by decide +kernel
theorem dX4_measure_86 : decode cX4_measure 86 = .ok (.iload_n 2, 1) := by decide +kernel
theorem dX4_measure_87 : decode cX4_measure 87 = .ok (.invokevirtual 41, 3) := by decide +kernel
theorem dX4_measure_90 : decode cX4_measure 90 = .ok (.iinc 2 1, 3) := by decide +kernel
theorem dX4_measure_93 : decode cX4_measure 93 = .ok (.goto (-14), 3) := by decide +kernel
theorem dX4_measure_96 : decode cX4_measure 96 = .ok (.return_, 1) := by decide +kernel
theorem dX4_stayAway_0 : decode cX4_stayAway 0 = .ok (.iconst 0, 1) := by decide +kernel
theorem dX4_stayAway_1 : decode cX4_stayAway 1 = .ok (.istore_n 1, 1) := by decide +kernel
theorem dX4_stayAway_2 : decode cX4_stayAway 2 = .ok (.iload_n 1, 1) := by decide +kernel
theorem dX4_stayAway_3 : decode cX4_stayAway 3 = .ok (.bipush 10, 2) := by decide +kernel
theorem dX4_stayAway_5 : decode cX4_stayAway 5 = .ok (.if_icmp .ge 43, 3) := by decide +kernel
theorem dX4_stayAway_8 : decode cX4_stayAway 8 = .ok (.iconst 0, 1) := by decide +kernel
theorem dX4_stayAway_9 : decode cX4_stayAway 9 = .ok (.istore_n 2, 1) := by decide +kernel
theorem dX4_stayAway_10 : decode cX4_stayAway 10 = .ok (.iload_n 2, 1) := by decide +kernel
theorem dX4_stayAway_11 : decode cX4_stayAway 11 = .ok (.bipush 10, 2) := by decide +kernel
theorem dX4_stayAway_13 : decode cX4_stayAway 13 = .ok (.if_icmp .ge 29, 3) := by decide +kernel
theorem dX4_stayAway_16 : decode cX4_stayAway 16 = .ok (.aload_n 0, 1) := by decide +kernel
theorem dX4_stayAway_17 : decode cX4_stayAway 17 = .ok (.getfield 20, 3) := by decide +kernel
theorem dX4_stayAway_20 : decode cX4_stayAway 20 = .ok (.iload_n 1, 1) := by decide +kernel
theorem dX4_stayAway_21 : decode cX4_stayAway 21 = .ok (.aaload, 1) := by decide +kernel
theorem dX4_stayAway_22 : decode cX4_stayAway 22 = .ok (.iload_n 2, 1) := by decide +kernel
theorem dX4_stayAway_23 : decode cX4_stayAway 23 = .ok (.iload_n 1, 1) := by decide +kernel
theorem dX4_stayAway_24 : decode cX4_stayAway 24 = .ok (.iload_n 2, 1) := by decide +kernel
theorem dX4_stayAway_25 : decode cX4_stayAway 25 = .ok (.if_icmp .ne 7, 3) := by decide +kernel
theorem dX4_stayAway_28 : decode cX4_stayAway 28 = .ok (.iconst 0, 1) := by decide +kernel
theorem dX4_stayAway_29 : decode cX4_stayAway 29 = .ok (.goto 6, 3) := by decide +kernel
theorem dX4_stayAway_32 : decode cX4_stayAway 32 = .ok (.sipush 999, 3) := by decide +kernel
theorem dX4_stayAway_35 : decode cX4_stayAway 35 = .ok (.iastore, 1) := by decide +kernel
theorem dX4_stayAway_36 : decode cX4_stayAway 36 = .ok (.iinc 2 1, 3) := by decide +kernel
theorem dX4_stayAway_39 : decode cX4_stayAway 39 = .ok (.goto (-29), 3) := by decide +kernel
theorem dX4_stayAway_42 : decode cX4_stayAway 42 = .ok (.iinc 1 1, 3) := by decide +kernel
theorem dX4_stayAway_45 : decode cX4_stayAway 45 = .ok (.goto (-43), 3) := by decide +kernel
theorem dX4_stayAway_48 : decode cX4_stayAway 48 = .ok (.return_, 1) := by decide +kernel
theorem dX4_shortenBy_0 : decode cX4_shortenBy 0 = .ok (.iconst 0, 1) := by decide +kernel
theorem dX4_shortenBy_1 : decode cX4_shortenBy 1 = .ok (.istore_n 2, 1) := by decide +kernel
theorem dX4_shortenBy_2 : decode cX4_shortenBy 2 = .ok (.iload_n 2, 1) := by decide +kernel
theorem dX4_shortenBy_3 : decode cX4_shortenBy 3 = .ok (.bipush 10, 2) := by decide +kernel
theorem dX4_shortenBy_5 : decode cX4_shortenBy 5 = .ok (.if_icmp .ge 59, 3) := by decide +kernel
theorem dX4_shortenBy_8 : decode cX4_shortenBy 8 = .ok (.iconst 0, 1) := by decide +kernel
theorem dX4_shortenBy_9 : decode cX4_shortenBy 9 = .ok (.istore_n 3, 1) := by decide +kernel
theorem dX4_shortenBy_10 : decode cX4_shortenBy 10 = .ok (.iload_n 3, 1) := by decide +kernel
theorem dX4_shortenBy_11 : decode cX4_shortenBy 11 = .ok (.bipush 10, 2) := by decide +kernel
theorem dX4_shortenBy_13 : decode cX4_shortenBy 13 = .ok (.if_icmp .ge 45, 3) := by decide +kernel
theorem dX4_shortenBy_16 : decode cX4_shortenBy 16 = .ok (.aload_n 0, 1) := by decide +kernel
theorem dX4_shortenBy_17 : decode cX4_shortenBy 17 = .ok (.getfield 20, 3) := by decide +kernel
theorem dX4_shortenBy_20 : decode cX4_shortenBy 20 = .ok (.iload_n 2, 1) := by decide +kernel
theorem dX4_shortenBy_21 : decode cX4_shortenBy 21 = .ok (.aaload, 1) := by decide +kernel
theorem dX4_shortenBy_22 : decode cX4_shortenBy 22 = .ok (.iload_n 3, 1) := by decide +kernel
theorem dX4_shortenBy_23 : decode cX4_shortenBy 23 = .ok (.aload_n 0, 1) := by decide +kernel
theorem dX4_shortenBy_24 : decode cX4_shortenBy 24 = .ok (.getfield 20, 3) := by decide +kernel
theorem dX4_shortenBy_27 : decode cX4_shortenBy 27 = .ok (.iload_n 2, 1) := by decide +kernel
theorem dX4_shortenBy_28 : decode cX4_shortenBy 28 = .ok (.aaload, 1) := by decide +kernel
theorem dX4_shortenBy_29 : decode cX4_shortenBy 29 = .ok (.iload_n 3, 1) := by decide +kernel
theorem dX4_shortenBy_30 : decode cX4_shortenBy 30 = .ok (.iaload, 1) := by decide +kernel
theorem dX4_shortenBy_31 : decode cX4_shortenBy 31 = .ok (.aload_n 0, 1) := by decide +kernel
theorem dX4_shortenBy_32 : decode cX4_shortenBy 32 = .ok (.getfield 20, 3) := by decide +kernel
theorem dX4_shortenBy_35 : decode cX4_shortenBy 35 = .ok (.iload_n 2, 1) := by decide +kernel
theorem dX4_shortenBy_36 : decode cX4_shortenBy 36 = .ok (.aaload, 1) := by decide +kernel
theorem dX4_shortenBy_37 : decode cX4_shortenBy 37 = .ok (.iload_n 1, 1) := by decide +kernel
theorem dX4_shortenBy_38 : decode cX4_shortenBy 38 = .ok (.iaload, 1) := by decide +kernel
theorem dX4_shortenBy_39 : decode cX4_shortenBy 39 = .ok (.aload_n 0, 1) := by decide +kernel
theorem dX4_shortenBy_40 : decode cX4_shortenBy 40 = .ok (.getfield 20, 3) := by decide +kernel
theorem dX4_shortenBy_43 : decode cX4_shortenBy 43 = .ok (.iload_n 1, 1) := by decide +kernel
theorem dX4_shortenBy_44 : decode cX4_shortenBy 44 = .ok (.aaload, 1) := by decide +kernel
theorem dX4_shortenBy_45 : decode cX4_shortenBy 45 = .ok (.iload_n 3, 1) := by decide +kernel
theorem dX4_shortenBy_46 : decode cX4_shortenBy 46 = .ok (.iaload, 1) := by decide +kernel
theorem dX4_shortenBy_47 : decode cX4_shortenBy 47 = .ok (.iadd, 1) := by decide +kernel
theorem dX4_shortenBy_48 : decode cX4_shortenBy 48 = .ok (.invokestatic 35, 3) := by decide +kernel
theorem dX4_shortenBy_51 : decode cX4_shortenBy 51 = .ok (.iastore, 1) := by decide +kernel
theorem dX4_shortenBy_52 : decode cX4_shortenBy 52 = .ok (.iinc 3 1, 3) := by decide +kernel
theorem dX4_shortenBy_55 : decode cX4_shortenBy 55 = .ok (.goto (-45), 3) := by decide +kernel
theorem dX4_shortenBy_58 : decode cX4_shortenBy 58 = .ok (.iinc 2 1, 3) := by decide +kernel
theorem dX4_shortenBy_61 : decode cX4_shortenBy 61 = .ok (.goto (-59), 3) := by decide +kernel
theorem dX4_shortenBy_64 : decode cX4_shortenBy 64 = .ok (.return_, 1) := by decide +kernel
theorem dX5_init_0 : decode cX5_init 0 = .ok (.aload_n 0, 1) := by decide +kernel
theorem dX5_init_1 : decode cX5_init 1 = .ok (.invokespecial 3, 3) := by decide +kernel
theorem dX5_init_4 : decode cX5_init 4 = .ok (.aload_n 0, 1) := by decide +kernel
theorem dX5_init_5 : decode cX5_init 5 = .ok (.bipush 12, 2) := by decide +kernel
theorem dX5_init_7 : decode cX5_init 7 = .ok (.newarray .long, 2) := by decide +kernel
theorem dX5_init_9 : decode cX5_init 9 = .ok (.putfield 9, 3) := by decide +kernel
theorem dX5_init_12 : decode cX5_init 12 = .ok (.return_, 1) := by decide +kernel
theorem dX5_clear_0 : decode cX5_clear 0 = .ok (.aload_n 0, 1) := by decide +kernel
theorem dX5_clear_1 : decode cX5_clear 1 = .ok (.iconst 0, 1) := by decide +kernel
theorem dX5_clear_2 : decode cX5_clear 2 = .ok (.putfield 15, 3) := by decide +kernel
theorem dX5_clear_5 : decode cX5_clear 5 = .ok (.return_, 1) := by decide +kernel
theorem dX5_add_0 : decode cX5_add 0 = .ok (.aload_n 0, 1) := by decide +kernel
theorem dX5_add_1 : decode cX5_add 1 = .ok (.getfield 15, 3) := by decide +kernel
theorem dX5_add_4 : decode cX5_add 4 = .ok (.aload_n 0, 1) := by decide +kernel
theorem dX5_add_5 : decode cX5_add 5 = .ok (.getfield 9, 3) := by decide +kernel
theorem dX5_add_8 : decode cX5_add 8 = .ok (.arraylength, 1) := by decide +kernel
theorem dX5_add_9 : decode cX5_add 9 = .ok (.if_icmp .ge 23, 3) := by decide +kernel
theorem dX5_add_12 : decode cX5_add 12 = .ok (.aload_n 0, 1) := by decide +kernel
theorem dX5_add_13 : decode cX5_add 13 = .ok (.getfield 9, 3) := by decide +kernel
theorem dX5_add_16 : decode cX5_add 16 = .ok (.aload_n 0, 1) := by decide +kernel
theorem dX5_add_17 : decode cX5_add 17 = .ok (.getfield 15, 3) := by decide +kernel
theorem dX5_add_20 : decode cX5_add 20 = .ok (.lload_n 1, 1) := by decide +kernel
theorem dX5_add_21 : decode cX5_add 21 = .ok (.lastore, 1) := by decide +kernel
theorem dX5_add_22 : decode cX5_add 22 = .ok (.aload_n 0, 1) := by decide +kernel
theorem dX5_add_23 : decode cX5_add 23 = .ok (.dup, 1) := by decide +kernel
theorem dX5_add_24 : decode cX5_add 24 = .ok (.getfield 15, 3) := by decide +kernel
theorem dX5_add_27 : decode cX5_add 27 = .ok (.iconst 1, 1) := by decide +kernel
theorem dX5_add_28 : decode cX5_add 28 = .ok (.iadd, 1) := by decide +kernel
theorem dX5_add_29 : decode cX5_add 29 = .ok (.putfield 15, 3) := by decide +kernel
theorem dX5_add_32 : decode cX5_add 32 = .ok (.return_, 1) := by decide +kernel
set_option maxRecDepth 20000 in
theorem ggX5_tell_X5_clear : GoodIn wsX5_tell wsX5_clear := goodIn_r _ [5, 6, 12, 13] (by decide +kernel) (by decide +kernel)
set_option maxRecDepth 20000 in
theorem gX5_tell_X5_clear : GoodIn wsX5_tell (wsV RX5 19 RX5 yX5_clear wsX5_clear) := goodIn_app (goodIn_of _ (by decide +kernel)) ggX5_tell_X5_clear
set_option maxRecDepth 20000 in
theorem ggX5_tell_X5_add : GoodIn wsX5_tell wsX5_add := goodIn_r _ [10, 6, 11, 12, 13] (by decide +kernel) (by decide +kernel)
set_option maxRecDepth 20000 in
theorem gX5_tell_X5_add : GoodIn wsX5_tell (wsV RX5 22 RX5 yX5_add wsX5_add) := goodIn_app (goodIn_of _ (by decide +kernel)) ggX5_tell_X5_add
theorem dX5_tell_0 : decode cX5_tell 0 = .ok (.aload_n 0, 1) := by decide +kernel
theorem dX5_tell_1 : decode cX5_tell 1 = .ok (.invokevirtual 19, 3) := by decide +kernel
theorem dX5_tell_4 : decode cX5_tell 4 = .ok (.aload_n 0, 1) := by decide +kernel
theorem dX5_tell_5 : decode cX5_tell 5 = .ok (.lload_n 1, 1) := by decide +kernel
theorem dX5_tell_6 : decode cX5_tell 6 = .ok (.invokevirtual 22, 3) := by decide +kernel
theorem dX5_tell_9 : decode cX5_tell 9 = .ok (.return_, 1) := by decide +kernel
set_option maxRecDepth 20000 in
theorem ggX5_tell__X5_tell : GoodIn wsX5_tell_ wsX5_tell := goodIn_r _ [5, 6, 7, 8, 4, 9, 10, 11, 12, 13, 14, 15, 16, 17] (by decide +kernel) (by decide +kernel)
set_option maxRecDepth 20000 in
theorem gX5_tell__X5_tell : GoodIn wsX5_tell_ (wsV RX5 26 RX5 yX5_tell wsX5_tell) := goodIn_app (goodIn_of _ (by decide +kernel)) ggX5_tell__X5_tell
set_option maxRecDepth 20000 in
theorem ggX5_tell__X5_add : GoodIn wsX5_tell_ wsX5_add := goodIn_r _ [14, 10, 15, 16, 17] (by decide +kernel) (by decide +kernel)
set_option maxRecDepth 20000 in
theorem gX5_tell__X5_add : GoodIn wsX5_tell_ (wsV RX5 22 RX5 yX5_add wsX5_add) := goodIn_app (goodIn_of _ (by decide +kernel)) ggX5_tell__X5_add
theorem dX5_tell__0 : decode cX5_tell_ 0 = .ok (.aload_n 0, 1) := by decide +kernel
theorem dX5_tell__1 : decode cX5_tell_ 1 = .ok (.lload_n 1, 1) := by decide +kernel
theorem dX5_tell__2 : decode cX5_tell_ 2 = .ok (.invokevirtual 26, 3) := by decide +kernel
theorem dX5_tell__5 : decode cX5_tell_ 5 = .ok (.aload_n 0, 1) := by decide +kernel
theorem dX5_tell__6 : decode cX5_tell_ 6 = .ok (.lload_n 3, 1) := by decide +kernel
theorem dX5_tell__7 : decode cX5_tell_ 7 = .ok (.invokevirtual 22, 3) := by decide +kernel
theorem dX5_tell__10 : decode cX5_tell_ 10 = .ok (.return_, 1) := by decide +kernel
theorem dX6_init_0 : decode cX6_init 0 = .ok (.aload_n 0, 1) := by decide +kernel
theorem dX6_init_1 : decode cX6_init 1 = .ok (.invokespecial 1, 3) := by decide +kernel
theorem dX6_init_4 : decode cX6_init 4 = .ok (.aload_n 0, 1) := by decide +kernel
theorem dX6_init_5 : decode cX6_init 5 = .ok (.bipush 6, 2) := by decide +kernel
theorem dX6_init_7 : decode cX6_init 7 = .ok (.newarray .int, 2) := by decide +kernel
theorem dX6_init_9 : decode cX6_init 9 = .ok (.putfield 7, 3) := by decide +kernel
theorem dX6_init_12 : decode cX6_init 12 = .ok (.aload_n 0, 1) := by decide +kernel
theorem dX6_init_13 : decode cX6_init 13 = .ok (.bipush 40, 2) := by decide +kernel
theorem dX6_init_15 : decode cX6_init 15 = .ok (.newarray .int, 2) := by decide +kernel
theorem dX6_init_17 : decode cX6_init 17 = .ok (.putfield 13, 3) := by decide +kernel
theorem dX6_init_20 : decode cX6_init 20 = .ok (.aload_n 0, 1) := by decide +kernel
theorem dX6_init_21 : decode cX6_init 21 = .ok (.bipush 40, 2) := by decide +kernel
theorem dX6_init_23 : decode cX6_init 23 = .ok (.newarray .int, 2) := by decide +kernel
theorem dX6_init_25 : decode cX6_init 25 = .ok (.putfield 16, 3) := by decide +kernel
theorem dX6_init_28 : decode cX6_init 28 = .ok (.aload_n 0, 1) := by decide +kernel
theorem dX6_init_29 : decode cX6_init 29 = .ok (.bipush 40, 2) := by decide +kernel
theorem dX6_init_31 : decode cX6_init 31 = .ok (.newarray .int, 2) := by decide +kernel
theorem dX6_init_33 : decode cX6_init 33 = .ok (.putfield 19, 3) := by decide +kernel
theorem dX6_init_36 : decode cX6_init 36 = .ok (.return_, 1) := by decide +kernel
theorem dX6_read_0 : decode cX6_read 0 = .ok (.aload_n 0, 1) := by decide +kernel
theorem dX6_read_1 : decode cX6_read 1 = .ok (.aload_n 1, 1) := by decide +kernel
theorem dX6_read_2 : decode cX6_read 2 = .ok (.getfield 22, 3) := by decide +kernel
theorem dX6_read_5 : decode cX6_read 5 = .ok (.bipush 40, 2) := by decide +kernel
theorem dX6_read_7 : decode cX6_read 7 = .ok (.invokestatic 28, 3) := by decide +kernel
theorem dX6_read_10 : decode cX6_read 10 = .ok (.putfield 34, 3) := by decide +kernel
theorem dX6_read_13 : decode cX6_read 13 = .ok (.aload_n 0, 1) := by decide +kernel
theorem dX6_read_14 : decode cX6_read 14 = .ok (.iconst 0, 1) := by decide +kernel
theorem dX6_read_15 : decode cX6_read 15 = .ok (.putfield 37, 3) := by decide +kernel
theorem dX6_read_18 : decode cX6_read 18 = .ok (.aload_n 1, 1) := by decide +kernel
theorem dX6_read_19 : decode cX6_read 19 = .ok (.getfield 22, 3) := by decide +kernel
theorem dX6_read_22 : decode cX6_read 22 = .ok (.ifCond .le 29, 3) := by decide +kernel
theorem dX6_read_25 : decode cX6_read 25 = .ok (.aload_n 0, 1) := by decide +kernel
theorem dX6_read_26 : decode cX6_read 26 = .ok (.aload_n 1, 1) := by decide +kernel
theorem dX6_read_27 : decode cX6_read 27 = .ok (.iconst 0, 1) := by decide +kernel
theorem dX6_read_28 : decode cX6_read 28 = .ok (.iconst 0, 1) := by decide +kernel
theorem dX6_read_51 : decode cX6_read 51 = .ok (.aload_n 0, 1) := by decide +kernel
theorem dX6_read_52 : decode cX6_read 52 = .ok (.getfield 13, 3) := by decide +kernel
theorem dX6_read_55 : decode cX6_read 55 = .ok (.iconst 0, 1) := by decide +kernel
theorem dX6_read_56 : decode cX6_read 56 = .ok (.aload_n 0, 1) := by decide +kernel
theorem dX6_read_57 : decode cX6_read 57 = .ok (.getfield 16, 3) := by decide +kernel
theorem dX6_read_60 : decode cX6_read 60 = .ok (.iconst 0, 1) := by decide +kernel
theorem dX6_read_61 : decode cX6_read 61 = .ok (.aload_n 0, 1) := by decide +kernel
theorem dX6_read_62 : decode cX6_read 62 = .ok (.getfield 37, 3) := by decide +kernel
theorem dX6_read_65 : decode cX6_read 65 = .ok (.invokestatic 44, 3) := by decide +kernel
theorem dX6_read_68 : decode cX6_read 68 = .ok (.aload_n 0, 1) := by decide +kernel
theorem dX6_read_69 : decode cX6_read 69 = .ok (.aload_n 0, 1) := by decide +kernel
theorem dX6_read_70 : decode cX6_read 70 = .ok (.getfield 37, 3) := by decide +kernel
theorem dX6_read_73 : decode cX6_read 73 = .ok (.putfield 50, 3) := by decide +kernel
theorem dX6_read_76 : decode cX6_read 76 = .ok (.iconst 0, 1) := by decide +kernel
theorem dX6_read_77 : decode cX6_read 77 = .ok (.ireturn, 1) := by decide +kernel
theorem dX7_init_0 : decode cX7_init 0 = .ok (.aload_n 0, 1) := by decide +kernel
theorem dX7_init_1 : decode cX7_init 1 = .ok (.invokespecial 3, 3) := by decide +kernel
theorem dX7_init_4 : decode cX7_init 4 = .ok (.aload_n 0, 1) := by decide +kernel
theorem dX7_init_5 : decode cX7_init 5 = .ok (.bipush 80, 2) := by decide +kernel
theorem dX7_init_7 : decode cX7_init 7 = .ok (.newarray .char, 2) := by decide +kernel
theorem dX7_init_9 : decode cX7_init 9 = .ok (.putfield 11, 3) := by decide +kernel
theorem dX7_init_12 : decode cX7_init 12 = .ok (.return_, 1) := by decide +kernel
theorem dX7_add_0 : decode cX7_add 0 = .ok (.aload_n 0, 1) := by decide +kernel
theorem dX7_add_1 : decode cX7_add 1 = .ok (.getfield 15, 3) := by decide +kernel
theorem dX7_add_4 : decode cX7_add 4 = .ok (.bipush 76, 2) := by decide +kernel
theorem dX7_add_6 : decode cX7_add 6 = .ok (.if_icmp .le 5, 3) := by decide +kernel
theorem dX7_add_9 : decode cX7_add 9 = .ok (.iconst (-1), 1) := by decide +kernel
theorem dX7_add_10 : decode cX7_add 10 = .ok (.ireturn, 1) := by decide +kernel
theorem dX7_add_11 : decode cX7_add 11 = .ok (.bipush 24, 2) := by decide +kernel
theorem dX7_add_13 : decode cX7_add 13 = .ok (.istore_n 2, 1) := by decide +kernel
theorem dX7_add_14 : decode cX7_add 14 = .ok (.iload_n 2, 1) := by decide +kernel
theorem dX7_add_15 : decode cX7_add 15 = .ok (.ifCond .lt 36, 3) := by decide +kernel
theorem dX7_add_18 : decode cX7_add 18 = .ok (.aload_n 0, 1) := by decide +kernel
theorem dX7_add_19 : decode cX7_add 19 = .ok (.getfield 11, 3) := by decide +kernel
theorem dX7_add_22 : decode cX7_add 22 = .ok (.aload_n 0, 1) := by decide +kernel
theorem dX7_add_23 : decode cX7_add 23 = .ok (.getfield 15, 3) := by decide +kernel
theorem dX7_add_26 : decode cX7_add 26 = .ok (.iload_n 1, 1) := by decide +kernel
theorem dX7_add_27 : decode cX7_add 27 = .ok (.iload_n 2, 1) := by decide +kernel
theorem dX7_add_28 : decode cX7_add 28 = .ok (.iushr, 1) := by decide +kernel
theorem dX7_add_29 : decode cX7_add 29 = .ok (.sipush 255, 3) := by decide +kernel
theorem dX7_add_32 : decode cX7_add 32 = .ok (.iand, 1) := by decide +kernel
theorem dX7_add_33 : decode cX7_add 33 = .ok (.i2c, 1) := by decide +kernel
theorem dX7_add_34 : decode cX7_add 34 = .ok (.castore, 1) := by decide +kernel
theorem dX7_add_35 : decode cX7_add 35 = .ok (.aload_n 0, 1) := by decide +kernel
theorem dX7_add_36 : decode cX7_add 36 = .ok (.dup, 1) := by decide +kernel
theorem dX7_add_37 : decode cX7_add 37 = .ok (.getfield 15, 3) := by decide +kernel
theorem dX7_add_40 : decode cX7_add 40 = .ok (.iconst 1, 1) := by decide +kernel
theorem dX7_add_41 : decode cX7_add 41 = .ok (.iadd, 1) := by decide +kernel
theorem dX7_add_42 : decode cX7_add 42 = .ok (.putfield 15, 3) := by decide +kernel
theorem dX7_add_45 : decode cX7_add 45 = .ok (.iinc 2 (-8), 3) := by decide +kernel
theorem dX7_add_48 : decode cX7_add 48 = .ok (.goto (-34), 3) := by decide +kernel
theorem dX7_add_51 : decode cX7_add 51 = .ok (.aload_n 0, 1) := by decide +kernel
theorem dX7_add_52 : decode cX7_add 52 = .ok (.getfield 15, 3) := by decide +kernel
theorem dX7_add_55 : decode cX7_add 55 = .ok (.ireturn, 1) := by decide +kernel
theorem dX7_cut_0 : decode cX7_cut 0 = .ok (.iload_n 1, 1) := by decide +kernel
theorem dX7_cut_1 : decode cX7_cut 1 = .ok (.ifCond .lt 11, 3) := by decide +kernel
theorem dX7_cut_4 : decode cX7_cut 4 = .ok (.iload_n 1, 1) := by decide +kernel
theorem dX7_cut_5 : decode cX7_cut 5 = .ok (.aload_n 0, 1) := by decide +kernel
theorem dX7_cut_6 : decode cX7_cut 6 = .ok (.getfield 15, 3) := by decide +kernel
theorem dX7_cut_9 : decode cX7_cut 9 = .ok (.if_icmp .le 5, 3) := by decide +kernel
theorem dX7_cut_12 : decode cX7_cut 12 = .ok (.iconst 0, 1) := by decide +kernel
theorem dX7_cut_13 : decode cX7_cut 13 = .ok (.ireturn, 1) := by decide +kernel
theorem dX7_cut_14 : decode cX7_cut 14 = .ok (.aload_n 0, 1) := by decide +kernel
theorem dX7_cut_15 : decode cX7_cut 15 = .ok (.iload_n 1, 1) := by decide +kernel
theorem dX7_cut_16 : decode cX7_cut 16 = .ok (.putfield 15, 3) := by decide +kernel
theorem dX7_cut_19 : decode cX7_cut 19 = .ok (.iconst 1, 1) := by decide +kernel
theorem dX7_cut_20 : decode cX7_cut 20 = .ok (.ireturn, 1) := by decide +kernel
theorem dX8_init_0 : decode cX8_init 0 = .ok (.aload_n 0, 1) := by decide +kernel
theorem dX8_init_1 : decode cX8_init 1 = .ok (.invokespecial 3, 3) := by decide +kernel
theorem dX8_init_4 : decode cX8_init 4 = .ok (.aload_n 0, 1) := by decide +kernel
theorem dX8_init_5 : decode cX8_init 5 = .ok (.bipush 12, 2) := by decide +kernel
theorem dX8_init_7 : decode cX8_init 7 = .ok (.bipush 100, 2) := by decide +kernel
theorem dX8_init_9 : decode cX8_init 9 = .ok (.multianewarray 9 2, 4) := by decide +kernel
theorem dX8_init_13 : decode cX8_init 13 = .ok (.putfield 11, 3) := by decide +kernel
theorem dX8_init_16 : decode cX8_init 16 = .ok (.aload_n 0, 1) := by decide +kernel
theorem dX8_init_17 : decode cX8_init 17 = .ok (.bipush 7, 2) := by decide +kernel
theorem dX8_init_19 : decode cX8_init 19 = .ok (.newarray .int, 2) := by decide +kernel
theorem dX8_init_21 : decode cX8_init 21 = .ok (.putfield 16, 3) := by decide +kernel
theorem dX8_init_24 : decode cX8_init 24 = .ok (.aload_n 0, 1) := by decide +kernel
theorem dX8_init_25 : decode cX8_init 25 = .ok (.bipush 7, 2) := by decide +kernel
theorem dX8_init_27 : decode cX8_init 27 = .ok (.newarray .int, 2) := by decide +kernel
theorem dX8_init_29 : decode cX8_init 29 = .ok (.putfield 20, 3) := by decide +kernel
theorem dX8_init_32 : decode cX8_init 32 = .ok (.return_, 1) := by decide +kernel
theorem dX9_init_0 : decode cX9_init 0 = .ok (.aload_n 0, 1) := by decide +kernel
theorem dX9_init_1 : decode cX9_init 1 = .ok (.invokespecial 3, 3) := by decide +kernel
theorem dX9_init_4 : decode cX9_init 4 = .ok (.return_, 1) := by decide +kernel
theorem dX9_read_0 : decode cX9_read 0 = .ok (.aload_n 0, 1) := by decide +kernel
theorem dX9_read_1 : decode cX9_read 1 = .ok (.aload_n 1, 1) := by decide +kernel
theorem dX9_read_2 : decode cX9_read 2 = .ok (.getfield 9, 3) := by decide +kernel
theorem dX9_read_5 : decode cX9_read 5 = .ok (.bipush 76, 2) := by decide +kernel
theorem dX9_read_7 : decode cX9_read 7 = .ok (.invokestatic 17, 3) := by decide +kernel
theorem dX9_read_10 : decode cX9_read 10 = .ok (.putfield 23, 3) := by decide +kernel
theorem dX9_read_13 : decode cX9_read 13 = .ok (.aload_n 0, 1) := by decide +kernel
theorem dX9_read_14 : decode cX9_read 14 = .ok (.aload_n 2, 1) := by decide +kernel
theorem dX9_read_15 : decode cX9_read 15 = .ok (.getfield 26, 3) := by decide +kernel
theorem dX9_read_18 : decode cX9_read 18 = .ok (.putfield 31, 3) := by decide +kernel
theorem dX9_read_21 : decode cX9_read 21 = .ok (.aload_n 0, 1) := by decide +kernel
theorem dX9_read_22 : decode cX9_read 22 = .ok (.aload_n 2, 1) := by decide +kernel
theorem dX9_read_23 : decode cX9_read 23 = .ok (.getfield 32, 3) := by decide +kernel
theorem dX9_read_26 : decode cX9_read 26 = .ok (.putfield 35, 3) := by decide +kernel
theorem dX9_read_29 : decode cX9_read 29 = .ok (.iconst 0, 1) := by decide +kernel
theorem dX9_read_30 : decode cX9_read 30 = .ok (.istore 4, 2) := by decide +kernel
theorem dX9_read_32 : decode cX9_read 32 = .ok (.iconst 0, 1) := by decide +kernel
theorem dX9_read_33 : decode cX9_read 33 = .ok (.istore 5, 2) := by decide +kernel
theorem dX9_read_35 : decode cX9_read 35 = .ok (.aload_n 1, 1) := by decide +kernel
theorem dX9_read_36 : decode cX9_read 36 = .ok (.getfield 9, 3) := by decide +kernel
theorem dX9_read_39 : decode cX9_read 39 = .ok (.ifCond .le 7, 3) := by decide +kernel
theorem dX9_read_42 : decode cX9_read 42 = .ok (.iconst 1, 1) := by decide +kernel
theorem dX9_read_43 : decode cX9_read 43 = .ok (.goto 4, 3) := by decide +kernel
theorem dX9_read_46 : decode cX9_read 46 = .ok (.iconst 0, 1) := by decide +kernel
theorem dX9_read_47 : decode cX9_read 47 = .ok (.istore 6, 2) := by decide +kernel
theorem dX9_read_49 : decode cX9_read 49 = .ok (.iload 6, 2) := by decide +kernel
theorem dX9_read_51 : decode cX9_read 51 = .ok (.ifCond .eq 65, 3) := by decide +kernel
theorem dX9_read_54 : decode cX9_read 54 = .ok (.iload 5, 2) := by decide +kernel
theorem dX9_read_56 : decode cX9_read 56 = .ok (.bipush 76, 2) := by decide +kernel
theorem dX9_read_58 : decode cX9_read 58 = .ok (.if_icmp .gt 58, 3) := by decide +kernel
theorem dX9_read_61 : decode cX9_read 61 = .ok (.aload_n 0, 1) := by decide +kernel
theorem dX9_read_62 : decode cX9_read 62 = .ok (.aload_n 1, 1) := by decide +kernel
theorem dX9_read_63 : decode cX9_read 63 = .ok (.aload_n 2, 1) := by decide +kernel
theorem dX9_read_64 : decode cX9_read 64 = .ok (.aload_n 3, 1) := by decide +kernel
theorem dX9_read_65 : decode cX9_read 65 = .ok (.iload 4, 2) := by decide +kernel
theorem dX9_read_116 : decode cX9_read 116 = .ok (.iload 4, 2) := by decide +kernel
theorem dX9_read_118 : decode cX9_read 118 = .ok (.aload_n 1, 1) := by decide +kernel
theorem dX9_read_119 : decode cX9_read 119 = .ok (.getfield 9, 3) := by decide +kernel
theorem dX9_read_122 : decode cX9_read 122 = .ok (.if_icmp .ge 8, 3) := by decide +kernel
theorem dX9_read_125 : decode cX9_read 125 = .ok (.iconst (-1), 1) := by decide +kernel
theorem dX9_read_126 : decode cX9_read 126 = .ok (.iload 4, 2) := by decide +kernel
theorem dX9_read_128 : decode cX9_read 128 = .ok (.isub, 1) := by decide +kernel
theorem dX9_read_129 : decode cX9_read 129 = .ok (.ireturn, 1) := by decide +kernel
theorem dX9_read_130 : decode cX9_read 130 = .ok (.aload_n 2, 1) := by decide +kernel
theorem dX9_read_131 : decode cX9_read 131 = .ok (.aload_n 0, 1) := by decide +kernel
theorem dX9_read_132 : decode cX9_read 132 = .ok (.getfield 31, 3) := by decide +kernel
theorem dX9_read_135 : decode cX9_read 135 = .ok (.putfield 26, 3) := by decide +kernel
theorem dX9_read_138 : decode cX9_read 138 = .ok (.aload_n 2, 1) := by decide +kernel
theorem dX9_read_139 : decode cX9_read 139 = .ok (.aload_n 0, 1) := by decide +kernel
theorem dX9_read_140 : decode cX9_read 140 = .ok (.getfield 35, 3) := by decide +kernel
theorem dX9_read_143 : decode cX9_read 143 = .ok (.putfield 32, 3) := by decide +kernel
theorem dX9_read_146 : decode cX9_read 146 = .ok (.iload 5, 2) := by decide +kernel
theorem dX9_read_148 : decode cX9_read 148 = .ok (.ireturn, 1) := by decide +kernel
set_option maxRecDepth 20000 in
theorem ggX10_init_X7_init : GoodIn wsX10_init wsX7_init := goodIn_r _ [49, 50, 2, 3, 51, 52, 115, 116] (by decide +kernel) (by decide +kernel)
set_option maxRecDepth 20000 in
theorem gX10_init_X7_init_n9 : GoodIn wsX10_init (wsX7_init) := ggX10_init_X7_init
set_option maxRecDepth 20000 in
theorem ggX10_init_X5_init : GoodIn wsX10_init wsX5_init := goodIn_r _ [54, 55, 2, 3, 56, 57, 130, 131] (by decide +kernel) (by decide +kernel)
set_option maxRecDepth 20000 in
theorem gX10_init_X5_init_n18 : GoodIn wsX10_init (wsX5_init) := ggX10_init_X5_init
set_option maxRecDepth 20000 in
theorem ggX10_init_X1_init : GoodIn wsX10_init wsX1_init := goodIn_r _ [59, 60, 2, 3, 61, 45, 62, 63, 64, 56, 65, 132, 133, 134, 135, 136, 137, 138, 139, 140] (by decide +kernel) (by decide +kernel)
set_option maxRecDepth 20000 in
theorem gX10_init_X1_init_n25 : GoodIn wsX10_init (wsX1_init) := ggX10_init_X1_init
set_option maxRecDepth 20000 in
theorem ggX10_init_X4_init : GoodIn wsX10_init wsX4_init := goodIn_r _ [68, 69, 2, 3, 45, 70, 71, 72, 73, 74, 75, 76, 19, 77, 141, 142, 143] (by decide +kernel) (by decide +kernel)
set_option maxRecDepth 20000 in
theorem gX10_init_X4_init : GoodIn wsX10_init (wsX4_init) := ggX10_init_X4_init
set_option maxRecDepth 20000 in
theorem ggX10_init_X0_init : GoodIn wsX10_init wsX0_init := goodIn_r _ [79, 80, 2, 3, 56, 81, 82, 83, 84, 144, 145, 146, 147] (by decide +kernel) (by decide +kernel)
set_option maxRecDepth 20000 in
theorem gX10_init_X0_init_n43 : GoodIn wsX10_init (wsX0_init) := ggX10_init_X0_init
set_option maxRecDepth 20000 in
theorem ggX10_init_X9_init : GoodIn wsX10_init wsX9_init := goodIn_r _ [86, 87, 2, 3] (by decide +kernel) (by decide +kernel)
set_option maxRecDepth 20000 in
theorem gX10_init_X9_init_n50 : GoodIn wsX10_init (wsX9_init) := ggX10_init_X9_init
set_option maxRecDepth 20000 in
theorem ggX10_init_X6_init : GoodIn wsX10_init wsX6_init := goodIn_r _ [89, 90, 2, 3, 45, 91, 92, 93, 94, 151, 152, 153, 154, 155, 156, 157] (by decide +kernel) (by decide +kernel)
set_option maxRecDepth 20000 in
theorem gX10_init_X6_init_n57 : GoodIn wsX10_init (wsX6_init) := ggX10_init_X6_init
set_option maxRecDepth 20000 in
theorem ggX10_init_X2_init : GoodIn wsX10_init wsX2_init := goodIn_r _ [96, 97, 2, 3, 45, 98, 99, 100, 101, 102, 158, 159, 160, 161, 162, 163, 164, 165] (by decide +kernel) (by decide +kernel)
set_option maxRecDepth 20000 in
theorem gX10_init_X2_init_n64 : GoodIn wsX10_init (wsX2_init) := ggX10_init_X2_init
set_option maxRecDepth 20000 in
theorem ggX10_init_X3_init : GoodIn wsX10_init wsX3_init := goodIn_r _ [104, 105, 2, 3, 106, 56, 107, 166, 167, 168, 169, 170] (by decide +kernel) (by decide +kernel)
set_option maxRecDepth 20000 in
theorem gX10_init_X3_init_n71 : GoodIn wsX10_init (wsX3_init) := ggX10_init_X3_init
set_option maxRecDepth 20000 in
theorem ggX10_init_X8_init : GoodIn wsX10_init wsX8_init := goodIn_r _ [109, 110, 2, 3, 111, 45, 112, 113, 114, 171, 172, 173, 174, 175, 176, 177] (by decide +kernel) (by decide +kernel)
set_option maxRecDepth 20000 in
theorem gX10_init_X8_init_n78 : GoodIn wsX10_init (wsX8_init) := ggX10_init_X8_init
theorem dX10_init_0 : decode cX10_init 0 = .ok (.aload_n 0, 1) := by decide +kernel
theorem dX10_init_1 : decode cX10_init 1 = .ok (.invokespecial 1, 3) := by decide +kernel
theorem dX10_init_4 : decode cX10_init 4 = .ok (.aload_n 0, 1) := by decide +kernel
theorem dX10_init_5 : decode cX10_init 5 = .ok (.new 7, 3) := by decide +kernel
theorem dX10_init_8 : decode cX10_init 8 = .ok (.dup, 1) := by decide +kernel
theorem dX10_init_9 : decode cX10_init 9 = .ok (.invokespecial 9, 3) := by decide +kernel
theorem dX10_init_12 : decode cX10_init 12 = .ok (.putfield 10, 3) := by decide +kernel
theorem dX10_init_15 : decode cX10_init 15 = .ok (.aload_n 0, 1) := by decide +kernel
theorem dX10_init_16 : decode cX10_init 16 = .ok (.new 16, 3) := by decide +kernel
theorem dX10_init_19 : decode cX10_init 19 = .ok (.dup, 1) := by decide +kernel
theorem dX10_init_20 : decode cX10_init 20 = .ok (.invokespecial 18, 3) := by decide +kernel
theorem dX10_init_23 : decode cX10_init 23 = .ok (.putfield 19, 3) := by decide +kernel
theorem dX10_init_26 : decode cX10_init 26 = .ok (.aload_n 0, 1) := by decide +kernel
theorem dX10_init_27 : decode cX10_init 27 = .ok (.new 23, 3) := by decide +kernel
theorem dX10_init_30 : decode cX10_init 30 = .ok (.dup, 1) := by decide +kernel
theorem dX10_init_31 : decode cX10_init 31 = .ok (.invokespecial 25, 3) := by decide +kernel
theorem dX10_init_34 : decode cX10_init 34 = .ok (.putfield 26, 3) := by decide +kernel
theorem dX10_init_37 : decode cX10_init 37 = .ok (.aload_n 0, 1) := by decide +kernel
theorem dX10_init_38 : decode cX10_init 38 = .ok (.iconst 2, 1) := by decide +kernel
theorem dX10_init_39 : decode cX10_init 39 = .ok (.anewarray 23, 3) := by decide +kernel
theorem dX10_init_42 : decode cX10_init 42 = .ok (.putfield 30, 3) := by decide +kernel
theorem dX10_init_45 : decode cX10_init 45 = .ok (.aload_n 0, 1) := by decide +kernel
theorem dX10_init_46 : decode cX10_init 46 = .ok (.new 34, 3) := by decide +kernel
theorem dX10_init_49 : decode cX10_init 49 = .ok (.dup, 1) := by decide +kernel
theorem dX10_init_50 : decode cX10_init 50 = .ok (.invokespecial 36, 3) := by decide +kernel
theorem dX10_init_53 : decode cX10_init 53 = .ok (.putfield 37, 3) := by decide +kernel
theorem dX10_init_56 : decode cX10_init 56 = .ok (.aload_n 0, 1) := by decide +kernel
theorem dX10_init_57 : decode cX10_init 57 = .ok (.new 41, 3) := by decide +kernel
theorem dX10_init_60 : decode cX10_init 60 = .ok (.dup, 1) := by decide +kernel
theorem dX10_init_61 : decode cX10_init 61 = .ok (.invokespecial 43, 3) := by decide +kernel
theorem dX10_init_64 : decode cX10_init 64 = .ok (.putfield 44, 3) := by decide +kernel
theorem dX10_init_67 : decode cX10_init 67 = .ok (.aload_n 0, 1) := by decide +kernel
theorem dX10_init_68 : decode cX10_init 68 = .ok (.new 48, 3) := by decide +kernel
theorem dX10_init_71 : decode cX10_init 71 = .ok (.dup, 1) := by decide +kernel
theorem dX10_init_72 : decode cX10_init 72 = .ok (.invokespecial 50, 3) := by decide +kernel
theorem dX10_init_75 : decode cX10_init 75 = .ok (.putfield 51, 3) := by decide +kernel
theorem dX10_init_78 : decode cX10_init 78 = .ok (.aload_n 0, 1) := by decide +kernel
theorem dX10_init_79 : decode cX10_init 79 = .ok (.new 55, 3) := by decide +kernel
theorem dX10_init_82 : decode cX10_init 82 = .ok (.dup, 1) := by decide +kernel
theorem dX10_init_83 : decode cX10_init 83 = .ok (.invokespecial 57, 3) := by decide +kernel
theorem dX10_init_86 : decode cX10_init 86 = .ok (.putfield 58, 3) := by decide +kernel
theorem dX10_init_89 : decode cX10_init 89 = .ok (.aload_n 0, 1) := by decide +kernel
theorem dX10_init_90 : decode cX10_init 90 = .ok (.new 62, 3) := by decide +kernel
theorem dX10_init_93 : decode cX10_init 93 = .ok (.dup, 1) := by decide +kernel
theorem dX10_init_94 : decode cX10_init 94 = .ok (.invokespecial 64, 3) := by decide +kernel
theorem dX10_init_97 : decode cX10_init 97 = .ok (.putfield 65, 3) := by decide +kernel
theorem dX10_init_100 : decode cX10_init 100 = .ok (.aload_n 0, 1) := by decide +kernel
theorem dX10_init_101 : decode cX10_init 101 = .ok (.new 69, 3) := by decide +kernel
theorem dX10_init_104 : decode cX10_init 104 = .ok (.dup, 1) := by decide +kernel
theorem dX10_init_105 : decode cX10_init 105 = .ok (.invokespecial 71, 3) := by decide +kernel
theorem dX10_init_108 : decode cX10_init 108 = .ok (.putfield 72, 3) := by decide +kernel
theorem dX10_init_111 : decode cX10_init 111 = .ok (.aload_n 0, 1) := by decide +kernel
theorem dX10_init_112 : decode cX10_init 112 = .ok (.new 76, 3) := by decide +kernel
theorem dX10_init_115 : decode cX10_init 115 = .ok (.dup, 1) := by decide +kernel
theorem dX10_init_116 : decode cX10_init 116 = .ok (.invokespecial 78, 3) := by decide +kernel
theorem dX10_init_119 : decode cX10_init 119 = .ok (.putfield 79, 3) := by decide +kernel
theorem dX10_init_122 : decode cX10_init 122 = .ok (.aload_n 0, 1) := by decide +kernel
theorem dX10_init_123 : decode cX10_init 123 = .ok (.bipush 12, 2) := by decide +kernel
theorem dX10_init_125 : decode cX10_init 125 = .ok (.newarray .int, 2) := by decide +kernel
theorem dX10_init_127 : decode cX10_init 127 = .ok (.putfield 83, 3) := by decide +kernel
theorem dX10_init_130 : decode cX10_init 130 = .ok (.aload_n 0, 1) := by decide +kernel
theorem dX10_init_131 : decode cX10_init 131 = .ok (.sipush 129, 3) := by decide +kernel
theorem dX10_init_134 : decode cX10_init 134 = .ok (.newarray .int, 2) := by decide +kernel
theorem dX10_init_136 : decode cX10_init 136 = .ok (.putfield 87, 3) := by decide +kernel
theorem dX10_init_139 : decode cX10_init 139 = .ok (.aload_n 0, 1) := by decide +kernel
theorem dX10_init_140 : decode cX10_init 140 = .ok (.getfield 30, 3) := by decide +kernel
theorem dX10_init_143 : decode cX10_init 143 = .ok (.iconst 0, 1) := by decide +kernel
theorem dX10_init_144 : decode cX10_init 144 = .ok (.new 23, 3) := by decide +kernel
theorem dX10_init_147 : decode cX10_init 147 = .ok (.dup, 1) := by decide +kernel
theorem dX10_init_148 : decode cX10_init 148 = .ok (.invokespecial 25, 3) := by decide +kernel
theorem dX10_init_151 : decode cX10_init 151 = .ok (.aastore, 1) := by decide +kernel
theorem dX10_init_152 : decode cX10_init 152 = .ok (.aload_n 0, 1) := by decide +kernel
theorem dX10_init_153 : decode cX10_init 153 = .ok (.getfield 30, 3) := by decide +kernel
theorem dX10_init_156 : decode cX10_init 156 = .ok (.iconst 1, 1) := by decide +kernel
theorem dX10_init_157 : decode cX10_init 157 = .ok (.new 23, 3) := by decide +kernel
theorem dX10_init_160 : decode cX10_init 160 = .ok (.dup, 1) := by decide +kernel
theorem dX10_init_161 : decode cX10_init 161 = .ok (.invokespecial 25, 3) := by decide +kernel
theorem dX10_init_164 : decode cX10_init 164 = .ok (.aastore, 1) := by decide +kernel
theorem dX10_init_165 : decode cX10_init 165 = .ok (.return_, 1) := by decide +kernel
set_option maxRecDepth 20000 in
theorem ggX10_sign_X7_add : GoodIn wsX10_sign wsX7_add := goodIn_r _ [6, 7, 8, 22, 23] (by decide +kernel) (by decide +kernel)
set_option maxRecDepth 20000 in
theorem gX10_sign_X7_add : GoodIn wsX10_sign (wsV RX10 90 RX7 yX7_add wsX7_add) := goodIn_app (goodIn_of _ (by decide +kernel)) ggX10_sign_X7_add
theorem dX10_sign_0 : decode cX10_sign 0 = .ok (.aload_n 0, 1) := by decide +kernel
theorem dX10_sign_1 : decode cX10_sign 1 = .ok (.getfield 10, 3) := by decide +kernel
theorem dX10_sign_4 : decode cX10_sign 4 = .ok (.iload_n 1, 1) := by decide +kernel
theorem dX10_sign_5 : decode cX10_sign 5 = .ok (.invokevirtual 90, 3) := by decide +kernel
theorem dX10_sign_8 : decode cX10_sign 8 = .ok (.ireturn, 1) := by decide +kernel
set_option maxRecDepth 20000 in
theorem ggX10_end_X7_cut : GoodIn wsX10_end wsX7_cut := goodIn_r _ [6, 7, 21, 22] (by decide +kernel) (by decide +kernel)
set_option maxRecDepth 20000 in
theorem gX10_end_X7_cut : GoodIn wsX10_end (wsV RX10 94 RX7 yX7_cut wsX7_cut) := goodIn_app (goodIn_of _ (by decide +kernel)) ggX10_end_X7_cut
theorem dX10_end_0 : decode cX10_end 0 = .ok (.aload_n 0, 1) := by decide +kernel
theorem dX10_end_1 : decode cX10_end 1 = .ok (.getfield 10, 3) := by decide +kernel
theorem dX10_end_4 : decode cX10_end 4 = .ok (.iload_n 1, 1) := by decide +kernel
theorem dX10_end_5 : decode cX10_end 5 = .ok (.invokevirtual 94, 3) := by decide +kernel
theorem dX10_end_8 : decode cX10_end 8 = .ok (.ireturn, 1) := by decide +kernel
set_option maxRecDepth 20000 in
theorem ggX10_town_X9_read : GoodIn wsX10_town wsX9_read := goodIn_r _ [9, 10, 11, 12, 13, 14, 15, 16, 17, 18, 19, 8, 20, 21, 22, 23, 24, 25, 26, 27, 28, 29, 30, 31, 32, 33, 34, 35, 36, 37, 38, 39, 40, 41, 42, 43, 44, 45, 46, 112, 113, 114, 115, 116, 117, 118, 119, 120, 121, 122, 123, 124, 125, 126, 127, 128] (by decide +kernel) (by decide +kernel)
set_option maxRecDepth 20000 in
theorem gX10_town_X9_read : GoodIn wsX10_town (wsV RX10 98 RX9 yX9_read wsX9_read) := goodIn_app (goodIn_of _ (by decide +kernel)) ggX10_town_X9_read
set_option maxRecDepth 20000 in
theorem ggX10_town_X7_cut : GoodIn wsX10_town wsX7_cut := goodIn_r _ [50, 30, 112, 113] (by decide +kernel) (by decide +kernel)
set_option maxRecDepth 20000 in
theorem gX10_town_X7_cut : GoodIn wsX10_town (wsV RX10 94 RX7 yX7_cut wsX7_cut) := goodIn_app (goodIn_of _ (by decide +kernel)) ggX10_town_X7_cut
set_option maxRecDepth 20000 in
theorem ggX10_town_X10_reckonAnew : GoodIn wsX10_town wsX10_reckonAnew := goodIn_r _ [55, 4, 3, 56, 57, 58, 59, 60, 61, 62, 63, 64, 65, 11, 12, 13, 66, 67, 68, 69, 70, 71, 72, 73, 74, 75, 76, 77, 78, 79, 80, 81, 82, 83, 84, 85, 86, 87, 88, 89, 90, 91, 92, 93, 94, 95, 96, 97, 98, 99, 100, 101, 102, 103, 104, 105, 106, 107, 108, 109, 110, 111, 117, 118, 119, 120, 121, 122, 123, 124, 125, 126, 127, 128, 129, 130, 131, 132] (by decide +kernel) (by decide +kernel)
set_option maxRecDepth 20000 in
theorem gX10_town_X10_reckonAnew : GoodIn wsX10_town (wsV RX10 102 RX10 yX10_reckonAnew wsX10_reckonAnew) := goodIn_app (goodIn_of _ (by decide +kernel)) ggX10_town_X10_reckonAnew
theorem dX10_town_0 : decode cX10_town 0 = .ok (.aload_n 0, 1) := by decide +kernel
theorem dX10_town_1 : decode cX10_town 1 = .ok (.getfield 51, 3) := by decide +kernel
theorem dX10_town_4 : decode cX10_town 4 = .ok (.aload_n 0, 1) := by decide +kernel
theorem dX10_town_5 : decode cX10_town 5 = .ok (.getfield 10, 3) := by decide +kernel
theorem dX10_town_8 : decode cX10_town 8 = .ok (.aload_n 0, 1) := by decide +kernel
theorem dX10_town_9 : decode cX10_town 9 = .ok (.getfield 26, 3) := by decide +kernel
theorem dX10_town_12 : decode cX10_town 12 = .ok (.aload_n 0, 1) := by decide +kernel
theorem dX10_town_13 : decode cX10_town 13 = .ok (.getfield 37, 3) := by decide +kernel
theorem dX10_town_16 : decode cX10_town 16 = .ok (.invokevirtual 98, 3) := by decide +kernel
theorem dX10_town_19 : decode cX10_town 19 = .ok (.istore_n 1, 1) := by decide +kernel
theorem dX10_town_20 : decode cX10_town 20 = .ok (.aload_n 0, 1) := by decide +kernel
theorem dX10_town_21 : decode cX10_town 21 = .ok (.getfield 10, 3) := by decide +kernel
theorem dX10_town_24 : decode cX10_town 24 = .ok (.iconst 0, 1) := by decide +kernel
theorem dX10_town_25 : decode cX10_town 25 = .ok (.invokevirtual 94, 3) := by decide +kernel
theorem dX10_town_28 : decode cX10_town 28 = .ok (.pop, 1) := by decide +kernel
theorem dX10_town_29 : decode cX10_town 29 = .ok (.iload_n 1, 1) := by decide +kernel
theorem dX10_town_30 : decode cX10_town 30 = .ok (.ifCond .le 7, 3) := by decide +kernel
theorem dX10_town_33 : decode cX10_town 33 = .ok (.aload_n 0, 1) := by decide +kernel
theorem dX10_town_34 : decode cX10_town 34 = .ok (.invokevirtual 102, 3) := by decide +kernel
theorem dX10_town_37 : decode cX10_town 37 = .ok (.iload_n 1, 1) := by decide +kernel
theorem dX10_town_38 : decode cX10_town 38 = .ok (.ireturn, 1) := by decide +kernel
set_option maxRecDepth 20000 in
theorem ggX10_next_X10_isOrder : GoodIn wsX10_next wsX10_isOrder := goodIn_r _ [6, 1, 11, 12, 13, 14, 15, 16, 17, 18, 19, 20, 21, 22, 23, 24, 25, 26, 27, 28, 29, 30, 31, 32] (by decide +kernel) (by decide +kernel)
set_option maxRecDepth 20000 in
theorem gX10_next_X10_isOrder : GoodIn wsX10_next (wsV RX10 128 RX10 yX10_isOrder wsX10_isOrder) := goodIn_app (goodIn_of _ (by decide +kernel)) ggX10_next_X10_isOrder
set_option maxRecDepth 20000 in
theorem ggX10_next_X10_isStreet : GoodIn wsX10_next wsX10_isStreet := goodIn_r _ [10, 1, 11, 12, 13, 14, 15, 16, 17, 18, 19, 20, 21, 22, 23, 24, 25, 26, 27, 28, 29, 30, 31, 32] (by decide +kernel) (by decide +kernel)
set_option maxRecDepth 20000 in
theorem gX10_next_X10_isStreet : GoodIn wsX10_next (wsV RX10 105 RX10 yX10_isStreet wsX10_isStreet) := goodIn_app (goodIn_of _ (by decide +kernel)) ggX10_next_X10_isStreet
theorem dX10_next_0 : decode cX10_next 0 = .ok (.aload_n 0, 1) := by decide +kernel
theorem dX10_next_1 : decode cX10_next 1 = .ok (.iload_n 1, 1) := by decide +kernel
theorem dX10_next_2 : decode cX10_next 2 = .ok (.invokevirtual 128, 3) := by decide +kernel
theorem dX10_next_5 : decode cX10_next 5 = .ok (.ifCond .eq 11, 3) := by decide +kernel
theorem dX10_next_8 : decode cX10_next 8 = .ok (.aload_n 0, 1) := by decide +kernel
theorem dX10_next_9 : decode cX10_next 9 = .ok (.iload_n 2, 1) := by decide +kernel
theorem dX10_next_10 : decode cX10_next 10 = .ok (.invokevirtual 105, 3) := by decide +kernel
theorem dX10_next_13 : decode cX10_next 13 = .ok (.ifCond .ne 5, 3) := by decide +kernel
theorem dX10_next_16 : decode cX10_next 16 = .ok (.iconst (-1), 1) := by decide +kernel
theorem dX10_next_17 : decode cX10_next 17 = .ok (.ireturn, 1) := by decide +kernel
theorem dX10_next_18 : decode cX10_next 18 = .ok (.aload_n 0, 1) := by decide +kernel
theorem dX10_next_19 : decode cX10_next 19 = .ok (.getfield 26, 3) := by decide +kernel
theorem dX10_next_22 : decode cX10_next 22 = .ok (.getfield 131, 3) := by decide +kernel
theorem dX10_next_25 : decode cX10_next 25 = .ok (.iload_n 1, 1) := by decide +kernel
theorem dX10_next_26 : decode cX10_next 26 = .ok (.aaload, 1) := by decide +kernel
theorem dX10_next_27 : decode cX10_next 27 = .ok (.iload_n 2, 1) := by decide +kernel
theorem dX10_next_28 : decode cX10_next 28 = .ok (.iaload, 1) := by decide +kernel
theorem dX10_next_29 : decode cX10_next 29 = .ok (.ireturn, 1) := by decide +kernel
set_option maxRecDepth 20000 in
theorem ggX10_sheet_X4_measure : GoodIn wsX10_sheet wsX4_measure := goodIn_r _ [18, 19, 20, 21, 22, 8, 9, 10, 23, 24, 25, 17, 26, 27, 28, 29, 30, 44, 45, 46, 47, 48, 49, 50, 51, 52, 53, 54, 55] (by decide +kernel) (by decide +kernel)
set_option maxRecDepth 20000 in
theorem gX10_sheet_X4_measure : GoodIn wsX10_sheet (wsV RX10 143 RX4 yX4_measure wsX4_measure) := goodIn_app (goodIn_of _ (by decide +kernel)) ggX10_sheet_X4_measure
theorem dX10_sheet_0 : decode cX10_sheet 0 = .ok (.iload_n 1, 1) := by decide +kernel
theorem dX10_sheet_1 : decode cX10_sheet 1 = .ok (.ifCond .lt 14, 3) := by decide +kernel
theorem dX10_sheet_4 : decode cX10_sheet 4 = .ok (.iload_n 1, 1) := by decide +kernel
theorem dX10_sheet_5 : decode cX10_sheet 5 = .ok (.iconst 3, 1) := by decide +kernel
theorem dX10_sheet_6 : decode cX10_sheet 6 = .ok (.if_icmp .gt 9, 3) := by decide +kernel
theorem dX10_sheet_9 : decode cX10_sheet 9 = .ok (.iload_n 2, 1) := by decide +kernel
theorem dX10_sheet_10 : decode cX10_sheet 10 = .ok (.bipush 12, 2) := by decide +kernel
theorem dX10_sheet_12 : decode cX10_sheet 12 = .ok (.if_icmp .le 5, 3) := by decide +kernel
theorem dX10_sheet_15 : decode cX10_sheet 15 = .ok (.iconst (-1), 1) := by decide +kernel
theorem dX10_sheet_16 : decode cX10_sheet 16 = .ok (.ireturn, 1) := by decide +kernel
theorem dX10_sheet_17 : decode cX10_sheet 17 = .ok (.iload_n 1, 1) := by decide +kernel
theorem dX10_sheet_18 : decode cX10_sheet 18 = .ok (.iconst 3, 1) := by decide +kernel
theorem dX10_sheet_19 : decode cX10_sheet 19 = .ok (.if_icmp .ge 10, 3) := by decide +kernel
theorem dX10_sheet_22 : decode cX10_sheet 22 = .ok (.iload_n 2, 1) := by decide +kernel
theorem dX10_sheet_23 : decode cX10_sheet 23 = .ok (.ifCond .ge 6, 3) := by decide +kernel
theorem dX10_sheet_26 : decode cX10_sheet 26 = .ok (.bipush (-2), 2) := by decide +kernel
theorem dX10_sheet_28 : decode cX10_sheet 28 = .ok (.ireturn, 1) := by decide +kernel
theorem dX10_sheet_29 : decode cX10_sheet 29 = .ok (.iload_n 1, 1) := by decide +kernel
theorem dX10_sheet_30 : decode cX10_sheet 30 = .ok (.iconst 3, 1) := by decide +kernel
theorem dX10_sheet_31 : decode cX10_sheet 31 = .ok (.if_icmp .ge 7, 3) := by decide +kernel
theorem dX10_sheet_34 : decode cX10_sheet 34 = .ok (.iload_n 2, 1) := by decide +kernel
theorem dX10_sheet_35 : decode cX10_sheet 35 = .ok (.goto 4, 3) := by decide +kernel
theorem dX10_sheet_38 : decode cX10_sheet 38 = .ok (.iconst 0, 1) := by decide +kernel
theorem dX10_sheet_39 : decode cX10_sheet 39 = .ok (.istore 5, 2) := by decide +kernel
theorem dX10_sheet_41 : decode cX10_sheet 41 = .ok (.iconst 0, 1) := by decide +kernel
theorem dX10_sheet_42 : decode cX10_sheet 42 = .ok (.istore 6, 2) := by decide +kernel
theorem dX10_sheet_44 : decode cX10_sheet 44 = .ok (.iconst 0, 1) := by decide +kernel
theorem dX10_sheet_45 : decode cX10_sheet 45 = .ok (.istore 7, 2) := by decide +kernel
theorem dX10_sheet_47 : decode cX10_sheet 47 = .ok (.iload 7, 2) := by decide +kernel
theorem dX10_sheet_49 : decode cX10_sheet 49 = .ok (.aload_n 0, 1) := by decide +kernel
theorem dX10_sheet_50 : decode cX10_sheet 50 = .ok (.getfield 26, 3) := by decide +kernel
theorem dX10_sheet_53 : decode cX10_sheet 53 = .ok (.getfield 135, 3) := by decide +kernel
theorem dX10_sheet_56 : decode cX10_sheet 56 = .ok (.if_icmp .ge 52, 3) := by decide +kernel
theorem dX10_sheet_59 : decode cX10_sheet 59 = .ok (.iload 7, 2) := by decide +kernel
theorem dX10_sheet_61 : decode cX10_sheet 61 = .ok (.iload 5, 2) := by decide +kernel
theorem dX10_sheet_63 : decode cX10_sheet 63 = .ok (.if_icmp .ge 17, 3) := by decide +kernel
theorem dX10_sheet_66 : decode cX10_sheet 66 = .ok (.iload_n 1, 1) := by decide +kernel
theorem dX10_sheet_67 : decode cX10_sheet 67 = .ok (.iload_n 3, 1) := by decide +kernel
theorem dX10_sheet_68 : decode cX10_sheet 68 = .ok (.iload 7, 2) := by decide +kernel
theorem dX10_sheet_70 : decode cX10_sheet 70 = .ok (.iload 4, 2) := by decide +kernel
theorem dX10_sheet_72 : decode cX10_sheet 72 = .ok (.imul, 1) := by decide +kernel
theorem dX10_sheet_73 : decode cX10_sheet 73 = .ok (.iadd, 1) := by decide +kernel
theorem dX10_sheet_80 : decode cX10_sheet 80 = .ok (.iconst 1, 1) := by decide +kernel
theorem dX10_sheet_81 : decode cX10_sheet 81 = .ok (.istore 8, 2) := by decide +kernel
theorem dX10_sheet_83 : decode cX10_sheet 83 = .ok (.aload_n 0, 1) := by decide +kernel
theorem dX10_sheet_84 : decode cX10_sheet 84 = .ok (.getfield 26, 3) := by decide +kernel
theorem dX10_sheet_87 : decode cX10_sheet 87 = .ok (.getfield 117, 3) := by decide +kernel
theorem dX10_sheet_90 : decode cX10_sheet 90 = .ok (.iload 7, 2) := by decide +kernel
theorem dX10_sheet_92 : decode cX10_sheet 92 = .ok (.iload 8, 2) := by decide +kernel
theorem dX10_sheet_94 : decode cX10_sheet 94 = .ok (.iastore, 1) := by decide +kernel
theorem dX10_sheet_95 : decode cX10_sheet 95 = .ok (.iload 6, 2) := by decide +kernel
theorem dX10_sheet_97 : decode cX10_sheet 97 = .ok (.iload 8, 2) := by decide +kernel
theorem dX10_sheet_99 : decode cX10_sheet 99 = .ok (.iadd, 1) := by decide +kernel
theorem dX10_sheet_100 : decode cX10_sheet 100 = .ok (.istore 6, 2) := by decide +kernel
theorem dX10_sheet_102 : decode cX10_sheet 102 = .ok (.iinc 7 1, 3) := by decide +kernel
theorem dX10_sheet_105 : decode cX10_sheet 105 = .ok (.goto (-58), 3) := by decide +kernel
theorem dX10_sheet_108 : decode cX10_sheet 108 = .ok (.aload_n 0, 1) := by decide +kernel
theorem dX10_sheet_109 : decode cX10_sheet 109 = .ok (.getfield 37, 3) := by decide +kernel
theorem dX10_sheet_112 : decode cX10_sheet 112 = .ok (.aload_n 0, 1) := by decide +kernel
theorem dX10_sheet_113 : decode cX10_sheet 113 = .ok (.getfield 26, 3) := by decide +kernel
theorem dX10_sheet_116 : decode cX10_sheet 116 = .ok (.invokevirtual 143, 3) := by decide +kernel
theorem dX10_sheet_119 : decode cX10_sheet 119 = .ok (.iload_n 1, 1) := by decide +kernel
theorem dX10_sheet_120 : decode cX10_sheet 120 = .ok (.iconst 3, 1) := by decide +kernel
theorem dX10_sheet_121 : decode cX10_sheet 121 = .ok (.if_icmp .ne 8, 3) := by decide +kernel
theorem dX10_sheet_124 : decode cX10_sheet 124 = .ok (.bipush (-3), 2) := by decide +kernel
theorem dX10_sheet_126 : decode cX10_sheet 126 = .ok (.goto 5, 3) := by decide +kernel
theorem dX10_sheet_129 : decode cX10_sheet 129 = .ok (.iload 6, 2) := by decide +kernel
theorem dX10_sheet_131 : decode cX10_sheet 131 = .ok (.ireturn, 1) := by decide +kernel
set_option maxRecDepth 20000 in
theorem ggX10_far_X10_isPlace : GoodIn wsX10_far wsX10_isPlace := goodIn_r _ [5] (by decide +kernel) (by decide +kernel)
set_option maxRecDepth 20000 in
theorem gX10_far_X10_isPlace : GoodIn wsX10_far (va_wsS RX10 147 yX10_isPlace wsX10_isPlace) := goodIn_app (goodIn_of _ (by decide +kernel)) ggX10_far_X10_isPlace
set_option maxRecDepth 20000 in
theorem ggX10_far_X4_between : GoodIn wsX10_far wsX4_between := goodIn_r _ [10, 11, 25, 26, 27] (by decide +kernel) (by decide +kernel)
set_option maxRecDepth 20000 in
theorem gX10_far_X4_between : GoodIn wsX10_far (wsV RX10 150 RX4 yX4_between wsX4_between) := goodIn_app (goodIn_of _ (by decide +kernel)) ggX10_far_X4_between
theorem dX10_far_0 : decode cX10_far 0 = .ok (.iload_n 1, 1) := by decide +kernel
theorem dX10_far_1 : decode cX10_far 1 = .ok (.invokestatic 147, 3) := by decide +kernel
theorem dX10_far_4 : decode cX10_far 4 = .ok (.ifCond .eq 10, 3) := by decide +kernel
theorem dX10_far_7 : decode cX10_far 7 = .ok (.iload_n 2, 1) := by decide +kernel
theorem dX10_far_8 : decode cX10_far 8 = .ok (.invokestatic 147, 3) := by decide +kernel
theorem dX10_far_11 : decode cX10_far 11 = .ok (.ifCond .ne 5, 3) := by decide +kernel
theorem dX10_far_14 : decode cX10_far 14 = .ok (.iconst (-1), 1) := by decide +kernel
theorem dX10_far_15 : decode cX10_far 15 = .ok (.ireturn, 1) := by decide +kernel
theorem dX10_far_16 : decode cX10_far 16 = .ok (.aload_n 0, 1) := by decide +kernel
theorem dX10_far_17 : decode cX10_far 17 = .ok (.getfield 37, 3) := by decide +kernel
theorem dX10_far_20 : decode cX10_far 20 = .ok (.iload_n 1, 1) := by decide +kernel
theorem dX10_far_21 : decode cX10_far 21 = .ok (.iload_n 2, 1) := by decide +kernel
theorem dX10_far_22 : decode cX10_far 22 = .ok (.invokevirtual 150, 3) := by decide +kernel
theorem dX10_far_25 : decode cX10_far 25 = .ok (.ireturn, 1) := by decide +kernel
set_option maxRecDepth 20000 in
theorem ggX10_pass_X10_orderBehind : GoodIn wsX10_pass wsX10_orderBehind := goodIn_r _ [7, 2, 8, 9, 10, 11, 12, 13, 14, 15, 16, 17, 18, 19, 20, 21, 22, 23, 24, 25, 26, 27, 28, 29] (by decide +kernel) (by decide +kernel)
set_option maxRecDepth 20000 in
theorem gX10_pass_X10_orderBehind : GoodIn wsX10_pass (wsV RX10 155 RX10 yX10_orderBehind wsX10_orderBehind) := goodIn_app (goodIn_of _ (by decide +kernel)) ggX10_pass_X10_orderBehind
theorem dX10_pass_0 : decode cX10_pass 0 = .ok (.lload_n 1, 1) := by decide +kernel
theorem dX10_pass_1 : decode cX10_pass 1 = .ok (.lconst 0, 1) := by decide +kernel
theorem dX10_pass_2 : decode cX10_pass 2 = .ok (.lcmp, 1) := by decide +kernel
theorem dX10_pass_3 : decode cX10_pass 3 = .ok (.ifCond .lt 19, 3) := by decide +kernel
theorem dX10_pass_6 : decode cX10_pass 6 = .ok (.lload_n 1, 1) := by decide +kernel
theorem dX10_pass_7 : decode cX10_pass 7 = .ok (.ldc2_w 153, 3) := by decide +kernel
theorem dX10_pass_10 : decode cX10_pass 10 = .ok (.aload_n 0, 1) := by decide +kernel
theorem dX10_pass_11 : decode cX10_pass 11 = .ok (.getfield 26, 3) := by decide +kernel
theorem dX10_pass_14 : decode cX10_pass 14 = .ok (.getfield 120, 3) := by decide +kernel
theorem dX10_pass_17 : decode cX10_pass 17 = .ok (.lsub, 1) := by decide +kernel
theorem dX10_pass_18 : decode cX10_pass 18 = .ok (.lcmp, 1) := by decide +kernel
theorem dX10_pass_19 : decode cX10_pass 19 = .ok (.ifCond .le 5, 3) := by decide +kernel
theorem dX10_pass_22 : decode cX10_pass 22 = .ok (.iconst (-1), 1) := by decide +kernel
theorem dX10_pass_23 : decode cX10_pass 23 = .ok (.ireturn, 1) := by decide +kernel
theorem dX10_pass_24 : decode cX10_pass 24 = .ok (.aload_n 0, 1) := by decide +kernel
theorem dX10_pass_25 : decode cX10_pass 25 = .ok (.getfield 26, 3) := by decide +kernel
theorem dX10_pass_28 : decode cX10_pass 28 = .ok (.dup, 1) := by decide +kernel
theorem dX10_pass_29 : decode cX10_pass 29 = .ok (.getfield 120, 3) := by decide +kernel
theorem dX10_pass_32 : decode cX10_pass 32 = .ok (.lload_n 1, 1) := by decide +kernel
theorem dX10_pass_33 : decode cX10_pass 33 = .ok (.ladd, 1) := by decide +kernel
theorem dX10_pass_34 : decode cX10_pass 34 = .ok (.putfield 120, 3) := by decide +kernel
theorem dX10_pass_37 : decode cX10_pass 37 = .ok (.aload_n 0, 1) := by decide +kernel
theorem dX10_pass_38 : decode cX10_pass 38 = .ok (.aload_n 0, 1) := by decide +kernel
theorem dX10_pass_39 : decode cX10_pass 39 = .ok (.getfield 26, 3) := by decide +kernel
theorem dX10_pass_42 : decode cX10_pass 42 = .ok (.getfield 120, 3) := by decide +kernel
theorem dX10_pass_45 : decode cX10_pass 45 = .ok (.invokevirtual 155, 3) := by decide +kernel
theorem dX10_pass_48 : decode cX10_pass 48 = .ok (.ireturn, 1) := by decide +kernel
set_option maxRecDepth 20000 in
theorem ggX10_name_X10_isStreet : GoodIn wsX10_name wsX10_isStreet := goodIn_r _ [6, 7, 27, 28, 29, 30, 31, 32, 33, 34, 35, 36, 37, 38, 39, 40, 41, 42, 43, 44, 45, 46, 47, 48] (by decide +kernel) (by decide +kernel)
set_option maxRecDepth 20000 in
theorem gX10_name_X10_isStreet : GoodIn wsX10_name (wsV RX10 105 RX10 yX10_isStreet wsX10_isStreet) := goodIn_app (goodIn_of _ (by decide +kernel)) ggX10_name_X10_isStreet
set_option maxRecDepth 20000 in
theorem ggX10_name_X10_isDay : GoodIn wsX10_name wsX10_isDay := goodIn_r _ [10, 11] (by decide +kernel) (by decide +kernel)
set_option maxRecDepth 20000 in
theorem gX10_name_X10_isDay : GoodIn wsX10_name (va_wsS RX10 159 yX10_isDay wsX10_isDay) := goodIn_app (goodIn_of _ (by decide +kernel)) ggX10_name_X10_isDay
theorem dX10_name_0 : decode cX10_name 0 = .ok (.aload_n 0, 1) := by decide +kernel
theorem dX10_name_1 : decode cX10_name 1 = .ok (.iload_n 1, 1) := by decide +kernel
theorem dX10_name_2 : decode cX10_name 2 = .ok (.invokevirtual 105, 3) := by decide +kernel
theorem dX10_name_5 : decode cX10_name 5 = .ok (.ifCond .eq 10, 3) := by decide +kernel
theorem dX10_name_8 : decode cX10_name 8 = .ok (.lload_n 2, 1) := by decide +kernel
theorem dX10_name_9 : decode cX10_name 9 = .ok (.invokestatic 159, 3) := by decide +kernel
theorem dX10_name_12 : decode cX10_name 12 = .ok (.ifCond .ne 5, 3) := by decide +kernel
theorem dX10_name_15 : decode cX10_name 15 = .ok (.iconst (-1), 1) := by decide +kernel
theorem dX10_name_16 : decode cX10_name 16 = .ok (.ireturn, 1) := by decide +kernel
theorem dX10_name_17 : decode cX10_name 17 = .ok (.aload_n 0, 1) := by decide +kernel
theorem dX10_name_18 : decode cX10_name 18 = .ok (.getfield 44, 3) := by decide +kernel
theorem dX10_name_21 : decode cX10_name 21 = .ok (.iload_n 1, 1) := by decide +kernel
theorem dX10_name_22 : decode cX10_name 22 = .ok (.lload_n 2, 1) := by decide +kernel
set_option maxRecDepth 20000 in
theorem ggX10_where_X10_isStreet : GoodIn wsX10_where wsX10_isStreet := goodIn_r _ [6, 7, 27, 28, 29, 30, 31, 32, 33, 34, 35, 36, 37, 38, 39, 40, 41, 42, 43, 44, 45, 46, 47, 48] (by decide +kernel) (by decide +kernel)
set_option maxRecDepth 20000 in
theorem gX10_where_X10_isStreet : GoodIn wsX10_where (wsV RX10 105 RX10 yX10_isStreet wsX10_isStreet) := goodIn_app (goodIn_of _ (by decide +kernel)) ggX10_where_X10_isStreet
set_option maxRecDepth 20000 in
theorem ggX10_where_X10_isDay : GoodIn wsX10_where wsX10_isDay := goodIn_r _ [10, 11] (by decide +kernel) (by decide +kernel)
set_option maxRecDepth 20000 in
theorem gX10_where_X10_isDay : GoodIn wsX10_where (va_wsS RX10 159 yX10_isDay wsX10_isDay) := goodIn_app (goodIn_of _ (by decide +kernel)) ggX10_where_X10_isDay
theorem dX10_where_0 : decode cX10_where 0 = .ok (.aload_n 0, 1) := by decide +kernel
theorem dX10_where_1 : decode cX10_where 1 = .ok (.iload_n 1, 1) := by decide +kernel
theorem dX10_where_2 : decode cX10_where 2 = .ok (.invokevirtual 105, 3) := by decide +kernel
theorem dX10_where_5 : decode cX10_where 5 = .ok (.ifCond .eq 10, 3) := by decide +kernel
theorem dX10_where_8 : decode cX10_where 8 = .ok (.lload_n 2, 1) := by decide +kernel
theorem dX10_where_9 : decode cX10_where 9 = .ok (.invokestatic 159, 3) := by decide +kernel
theorem dX10_where_12 : decode cX10_where 12 = .ok (.ifCond .ne 5, 3) := by decide +kernel
theorem dX10_where_15 : decode cX10_where 15 = .ok (.iconst (-1), 1) := by decide +kernel
theorem dX10_where_16 : decode cX10_where 16 = .ok (.ireturn, 1) := by decide +kernel
theorem dX10_where_17 : decode cX10_where 17 = .ok (.aload_n 0, 1) := by decide +kernel
theorem dX10_where_18 : decode cX10_where 18 = .ok (.getfield 44, 3) := by decide +kernel
theorem dX10_where_21 : decode cX10_where 21 = .ok (.iload_n 1, 1) := by decide +kernel
theorem dX10_where_22 : decode cX10_where 22 = .ok (.lload_n 2, 1) := by decide +kernel
set_option maxRecDepth 20000 in
theorem ggX10_same_X10_isDay : GoodIn wsX10_same wsX10_isDay := goodIn_r _ [7, 8] (by decide +kernel) (by decide +kernel)
set_option maxRecDepth 20000 in
theorem gX10_same_X10_isDay : GoodIn wsX10_same (va_wsS RX10 159 yX10_isDay wsX10_isDay) := goodIn_app (goodIn_of _ (by decide +kernel)) ggX10_same_X10_isDay
set_option maxRecDepth 20000 in
theorem ggX10_same_X5_tell : GoodIn wsX10_same wsX5_tell := goodIn_r _ [28, 29, 30, 31, 27, 32, 33, 34, 35, 36, 37, 38, 72, 73] (by decide +kernel) (by decide +kernel)
set_option maxRecDepth 20000 in
theorem gX10_same_X5_tell : GoodIn wsX10_same (wsV RX10 166 RX5 yX5_tell wsX5_tell) := goodIn_app (goodIn_of _ (by decide +kernel)) ggX10_same_X5_tell
set_option maxRecDepth 20000 in
theorem ggX10_same_J6_bitCount_0f7a4 : GoodIn wsX10_same wsJ6_bitCount_0f7a4 := goodIn_r _ [42, 43, 44, 45] (by decide +kernel) (by decide +kernel)
set_option maxRecDepth 20000 in
theorem gX10_same_J6_bitCount_0f7a4 : GoodIn wsX10_same (va_wsS RX10 170 yJ6_bitCount_0f7a4 wsJ6_bitCount_0f7a4) := goodIn_app (goodIn_of _ (by decide +kernel)) ggX10_same_J6_bitCount_0f7a4
theorem dX10_same_0 : decode cX10_same 0 = .ok (.lload_n 1, 1) := by decide +kernel
theorem dX10_same_1 : decode cX10_same 1 = .ok (.invokestatic 159, 3) := by decide +kernel
theorem dX10_same_4 : decode cX10_same 4 = .ok (.ifCond .eq 10, 3) := by decide +kernel
theorem dX10_same_7 : decode cX10_same 7 = .ok (.lload_n 3, 1) := by decide +kernel
theorem dX10_same_8 : decode cX10_same 8 = .ok (.invokestatic 159, 3) := by decide +kernel
theorem dX10_same_11 : decode cX10_same 11 = .ok (.ifCond .ne 5, 3) := by decide +kernel
theorem dX10_same_14 : decode cX10_same 14 = .ok (.iconst (-1), 1) := by decide +kernel
theorem dX10_same_15 : decode cX10_same 15 = .ok (.ireturn, 1) := by decide +kernel
theorem dX10_same_16 : decode cX10_same 16 = .ok (.iconst 0, 1) := by decide +kernel
theorem dX10_same_17 : decode cX10_same 17 = .ok (.istore 5, 2) := by decide +kernel
theorem dX10_same_19 : decode cX10_same 19 = .ok (.iconst 0, 1) := by decide +kernel
theorem dX10_same_20 : decode cX10_same 20 = .ok (.istore 6, 2) := by decide +kernel
theorem dX10_same_22 : decode cX10_same 22 = .ok (.iload 6, 2) := by decide +kernel
theorem dX10_same_24 : decode cX10_same 24 = .ok (.aload_n 0, 1) := by decide +kernel
theorem dX10_same_25 : decode cX10_same 25 = .ok (.getfield 26, 3) := by decide +kernel
theorem dX10_same_28 : decode cX10_same 28 = .ok (.getfield 135, 3) := by decide +kernel
theorem dX10_same_31 : decode cX10_same 31 = .ok (.if_icmp .ge 41, 3) := by decide +kernel
theorem dX10_same_34 : decode cX10_same 34 = .ok (.aload_n 0, 1) := by decide +kernel
theorem dX10_same_35 : decode cX10_same 35 = .ok (.getfield 44, 3) := by decide +kernel
theorem dX10_same_38 : decode cX10_same 38 = .ok (.iload 6, 2) := by decide +kernel
theorem dX10_same_40 : decode cX10_same 40 = .ok (.lload_n 1, 1) := by decide +kernel
theorem dX10_same_72 : decode cX10_same 72 = .ok (.aload_n 0, 1) := by decide +kernel
theorem dX10_same_73 : decode cX10_same 73 = .ok (.getfield 19, 3) := by decide +kernel
theorem dX10_same_76 : decode cX10_same 76 = .ok (.iload 5, 2) := by decide +kernel
theorem dX10_same_78 : decode cX10_same 78 = .ok (.i2l, 1) := by decide +kernel
theorem dX10_same_79 : decode cX10_same 79 = .ok (.invokevirtual 166, 3) := by decide +kernel
theorem dX10_same_82 : decode cX10_same 82 = .ok (.iload 5, 2) := by decide +kernel
theorem dX10_same_84 : decode cX10_same 84 = .ok (.invokestatic 170, 3) := by decide +kernel
theorem dX10_same_87 : decode cX10_same 87 = .ok (.ireturn, 1) := by decide +kernel
set_option maxRecDepth 20000 in
theorem ggX10_period_X5_tell : GoodIn wsX10_period wsX5_tell := goodIn_r _ [7, 8, 9, 10, 6, 11, 12, 13, 14, 15, 16, 17, 35, 36] (by decide +kernel) (by decide +kernel)
set_option maxRecDepth 20000 in
theorem gX10_period_X5_tell : GoodIn wsX10_period (wsV RX10 166 RX5 yX5_tell wsX5_tell) := goodIn_app (goodIn_of _ (by decide +kernel)) ggX10_period_X5_tell
theorem dX10_period_0 : decode cX10_period 0 = .ok (.aload_n 0, 1) := by decide +kernel
theorem dX10_period_1 : decode cX10_period 1 = .ok (.getfield 19, 3) := by decide +kernel
theorem dX10_period_4 : decode cX10_period 4 = .ok (.aload_n 0, 1) := by decide +kernel
theorem dX10_period_5 : decode cX10_period 5 = .ok (.getfield 44, 3) := by decide +kernel
theorem dX10_period_8 : decode cX10_period 8 = .ok (.getfield 175, 3) := by decide +kernel
theorem dX10_period_11 : decode cX10_period 11 = .ok (.i2l, 1) := by decide +kernel
theorem dX10_period_12 : decode cX10_period 12 = .ok (.invokevirtual 166, 3) := by decide +kernel
theorem dX10_period_15 : decode cX10_period 15 = .ok (.aload_n 0, 1) := by decide +kernel
theorem dX10_period_16 : decode cX10_period 16 = .ok (.getfield 44, 3) := by decide +kernel
theorem dX10_period_19 : decode cX10_period 19 = .ok (.getfield 178, 3) := by decide +kernel
theorem dX10_period_22 : decode cX10_period 22 = .ok (.ireturn, 1) := by decide +kernel
set_option maxRecDepth 20000 in
theorem ggX10_meets_X10_isStreet : GoodIn wsX10_meets wsX10_isStreet := goodIn_r _ [8, 9, 29, 30, 31, 32, 33, 34, 35, 36, 37, 38, 39, 40, 41, 46, 47, 48, 49, 50, 51, 52, 53, 54] (by decide +kernel) (by decide +kernel)
set_option maxRecDepth 20000 in
theorem gX10_meets_X10_isStreet : GoodIn wsX10_meets (wsV RX10 105 RX10 yX10_isStreet wsX10_isStreet) := goodIn_app (goodIn_of _ (by decide +kernel)) ggX10_meets_X10_isStreet
set_option maxRecDepth 20000 in
theorem ggX10_meets_X10_isDay : GoodIn wsX10_meets wsX10_isDay := goodIn_r _ [12, 13] (by decide +kernel) (by decide +kernel)
set_option maxRecDepth 20000 in
theorem gX10_meets_X10_isDay : GoodIn wsX10_meets (va_wsS RX10 159 yX10_isDay wsX10_isDay) := goodIn_app (goodIn_of _ (by decide +kernel)) ggX10_meets_X10_isDay
theorem dX10_meets_0 : decode cX10_meets 0 = .ok (.aload_n 0, 1) := by decide +kernel
theorem dX10_meets_1 : decode cX10_meets 1 = .ok (.iload_n 1, 1) := by decide +kernel
theorem dX10_meets_2 : decode cX10_meets 2 = .ok (.invokevirtual 105, 3) := by decide +kernel
theorem dX10_meets_5 : decode cX10_meets 5 = .ok (.ifCond .eq 18, 3) := by decide +kernel
theorem dX10_meets_8 : decode cX10_meets 8 = .ok (.aload_n 0, 1) := by decide +kernel
theorem dX10_meets_9 : decode cX10_meets 9 = .ok (.iload_n 2, 1) := by decide +kernel
theorem dX10_meets_10 : decode cX10_meets 10 = .ok (.invokevirtual 105, 3) := by decide +kernel
theorem dX10_meets_13 : decode cX10_meets 13 = .ok (.ifCond .eq 10, 3) := by decide +kernel
theorem dX10_meets_16 : decode cX10_meets 16 = .ok (.lload_n 3, 1) := by decide +kernel
theorem dX10_meets_17 : decode cX10_meets 17 = .ok (.invokestatic 159, 3) := by decide +kernel
theorem dX10_meets_20 : decode cX10_meets 20 = .ok (.ifCond .ne 7, 3) := by decide +kernel
theorem dX10_meets_23 : decode cX10_meets 23 = .ok (.ldc2_w 181, 3) := by decide +kernel
theorem dX10_meets_26 : decode cX10_meets 26 = .ok (.lreturn, 1) := by decide +kernel
theorem dX10_meets_27 : decode cX10_meets 27 = .ok (.iconst 1, 1) := by decide +kernel
theorem dX10_meets_28 : decode cX10_meets 28 = .ok (.istore 5, 2) := by decide +kernel
theorem dX10_meets_30 : decode cX10_meets 30 = .ok (.iload 5, 2) := by decide +kernel
theorem dX10_meets_32 : decode cX10_meets 32 = .ok (.aload_n 0, 1) := by decide +kernel
theorem dX10_meets_33 : decode cX10_meets 33 = .ok (.getfield 44, 3) := by decide +kernel
theorem dX10_meets_36 : decode cX10_meets 36 = .ok (.getfield 175, 3) := by decide +kernel
theorem dX10_meets_39 : decode cX10_meets 39 = .ok (.if_icmp .gt 32, 3) := by decide +kernel
theorem dX10_meets_42 : decode cX10_meets 42 = .ok (.aload_n 0, 1) := by decide +kernel
theorem dX10_meets_43 : decode cX10_meets 43 = .ok (.getfield 44, 3) := by decide +kernel
theorem dX10_meets_46 : decode cX10_meets 46 = .ok (.iload_n 1, 1) := by decide +kernel
theorem dX10_meets_47 : decode cX10_meets 47 = .ok (.lload_n 3, 1) := by decide +kernel
theorem dX10_meets_48 : decode cX10_meets 48 = .ok (.iload 5, 2) := by decide +kernel
theorem dX10_meets_50 : decode cX10_meets 50 = .ok (.i2l, 1) := by decide +kernel
theorem dX10_meets_51 : decode cX10_meets 51 = .ok (.ladd, 1) := by decide +kernel
theorem dX10_meets_71 : decode cX10_meets 71 = .ok (.ldc2_w 183, 3) := by decide +kernel
theorem dX10_meets_74 : decode cX10_meets 74 = .ok (.lreturn, 1) := by decide +kernel
set_option maxRecDepth 20000 in
theorem ggX10_trade_X10_isStreet : GoodIn wsX10_trade wsX10_isStreet := goodIn_r _ [8, 9, 29, 30, 31, 32, 33, 34, 35, 36, 37, 38, 39, 40, 41, 46, 47, 48, 49, 50, 51, 52, 53, 54] (by decide +kernel) (by decide +kernel)
set_option maxRecDepth 20000 in
theorem gX10_trade_X10_isStreet : GoodIn wsX10_trade (wsV RX10 105 RX10 yX10_isStreet wsX10_isStreet) := goodIn_app (goodIn_of _ (by decide +kernel)) ggX10_trade_X10_isStreet
set_option maxRecDepth 20000 in
theorem ggX10_trade_X10_isDay : GoodIn wsX10_trade wsX10_isDay := goodIn_r _ [12, 13] (by decide +kernel) (by decide +kernel)
set_option maxRecDepth 20000 in
theorem gX10_trade_X10_isDay : GoodIn wsX10_trade (va_wsS RX10 159 yX10_isDay wsX10_isDay) := goodIn_app (goodIn_of _ (by decide +kernel)) ggX10_trade_X10_isDay
theorem dX10_trade_0 : decode cX10_trade 0 = .ok (.aload_n 0, 1) := by decide +kernel
theorem dX10_trade_1 : decode cX10_trade 1 = .ok (.iload_n 1, 1) := by decide +kernel
theorem dX10_trade_2 : decode cX10_trade 2 = .ok (.invokevirtual 105, 3) := by decide +kernel
theorem dX10_trade_5 : decode cX10_trade 5 = .ok (.ifCond .eq 23, 3) := by decide +kernel
theorem dX10_trade_8 : decode cX10_trade 8 = .ok (.aload_n 0, 1) := by decide +kernel
theorem dX10_trade_9 : decode cX10_trade 9 = .ok (.iload_n 2, 1) := by decide +kernel
theorem dX10_trade_10 : decode cX10_trade 10 = .ok (.invokevirtual 105, 3) := by decide +kernel
theorem dX10_trade_13 : decode cX10_trade 13 = .ok (.ifCond .eq 15, 3) := by decide +kernel
theorem dX10_trade_16 : decode cX10_trade 16 = .ok (.iload_n 1, 1) := by decide +kernel
theorem dX10_trade_17 : decode cX10_trade 17 = .ok (.iload_n 2, 1) := by decide +kernel
theorem dX10_trade_18 : decode cX10_trade 18 = .ok (.if_icmp .eq 10, 3) := by decide +kernel
theorem dX10_trade_21 : decode cX10_trade 21 = .ok (.lload_n 3, 1) := by decide +kernel
theorem dX10_trade_22 : decode cX10_trade 22 = .ok (.invokestatic 159, 3) := by decide +kernel
theorem dX10_trade_25 : decode cX10_trade 25 = .ok (.ifCond .ne 7, 3) := by decide +kernel
theorem dX10_trade_28 : decode cX10_trade 28 = .ok (.ldc2_w 181, 3) := by decide +kernel
theorem dX10_trade_31 : decode cX10_trade 31 = .ok (.lreturn, 1) := by decide +kernel
theorem dX10_trade_32 : decode cX10_trade 32 = .ok (.iconst 1, 1) := by decide +kernel
theorem dX10_trade_33 : decode cX10_trade 33 = .ok (.istore 5, 2) := by decide +kernel
theorem dX10_trade_35 : decode cX10_trade 35 = .ok (.iload 5, 2) := by decide +kernel
theorem dX10_trade_37 : decode cX10_trade 37 = .ok (.aload_n 0, 1) := by decide +kernel
theorem dX10_trade_38 : decode cX10_trade 38 = .ok (.getfield 44, 3) := by decide +kernel
theorem dX10_trade_41 : decode cX10_trade 41 = .ok (.getfield 175, 3) := by decide +kernel
theorem dX10_trade_44 : decode cX10_trade 44 = .ok (.if_icmp .gt 49, 3) := by decide +kernel
theorem dX10_trade_47 : decode cX10_trade 47 = .ok (.aload_n 0, 1) := by decide +kernel
theorem dX10_trade_48 : decode cX10_trade 48 = .ok (.getfield 44, 3) := by decide +kernel
theorem dX10_trade_51 : decode cX10_trade 51 = .ok (.iload_n 1, 1) := by decide +kernel
theorem dX10_trade_52 : decode cX10_trade 52 = .ok (.lload_n 3, 1) := by decide +kernel
theorem dX10_trade_53 : decode cX10_trade 53 = .ok (.iload 5, 2) := by decide +kernel
theorem dX10_trade_55 : decode cX10_trade 55 = .ok (.i2l, 1) := by decide +kernel
theorem dX10_trade_56 : decode cX10_trade 56 = .ok (.ladd, 1) := by decide +kernel
theorem dX10_trade_93 : decode cX10_trade 93 = .ok (.ldc2_w 183, 3) := by decide +kernel
theorem dX10_trade_96 : decode cX10_trade 96 = .ok (.lreturn, 1) := by decide +kernel
set_option maxRecDepth 20000 in
theorem ggX10_bears_X10_isStreet : GoodIn wsX10_bears wsX10_isStreet := goodIn_r _ [6, 7, 27, 28, 29, 30, 31, 32, 33, 34, 35, 36, 37, 38, 39, 40, 41, 42, 43, 44, 45, 46, 47, 48] (by decide +kernel) (by decide +kernel)
set_option maxRecDepth 20000 in
theorem gX10_bears_X10_isStreet : GoodIn wsX10_bears (wsV RX10 105 RX10 yX10_isStreet wsX10_isStreet) := goodIn_app (goodIn_of _ (by decide +kernel)) ggX10_bears_X10_isStreet
theorem dX10_bears_0 : decode cX10_bears 0 = .ok (.aload_n 0, 1) := by decide +kernel
theorem dX10_bears_1 : decode cX10_bears 1 = .ok (.iload_n 1, 1) := by decide +kernel
theorem dX10_bears_2 : decode cX10_bears 2 = .ok (.invokevirtual 105, 3) := by decide +kernel
theorem dX10_bears_5 : decode cX10_bears 5 = .ok (.ifCond .ne 5, 3) := by decide +kernel
theorem dX10_bears_8 : decode cX10_bears 8 = .ok (.iconst (-1), 1) := by decide +kernel
theorem dX10_bears_9 : decode cX10_bears 9 = .ok (.ireturn, 1) := by decide +kernel
theorem dX10_bears_10 : decode cX10_bears 10 = .ok (.aload_n 0, 1) := by decide +kernel
theorem dX10_bears_11 : decode cX10_bears 11 = .ok (.getfield 44, 3) := by decide +kernel
theorem dX10_bears_14 : decode cX10_bears 14 = .ok (.iload_n 1, 1) := by decide +kernel
set_option maxRecDepth 20000 in
theorem ggX10_often_X10_isStreet : GoodIn wsX10_often wsX10_isStreet := goodIn_r _ [8, 9, 25, 26, 27, 28, 29, 30, 31, 32, 33, 34, 35, 36, 37, 42, 43, 44, 45, 46, 47, 48, 49, 50] (by decide +kernel) (by decide +kernel)
set_option maxRecDepth 20000 in
theorem gX10_often_X10_isStreet : GoodIn wsX10_often (wsV RX10 105 RX10 yX10_isStreet wsX10_isStreet) := goodIn_app (goodIn_of _ (by decide +kernel)) ggX10_often_X10_isStreet
theorem dX10_often_0 : decode cX10_often 0 = .ok (.aload_n 0, 1) := by decide +kernel
theorem dX10_often_1 : decode cX10_often 1 = .ok (.iload_n 1, 1) := by decide +kernel
theorem dX10_often_2 : decode cX10_often 2 = .ok (.invokevirtual 105, 3) := by decide +kernel
theorem dX10_often_5 : decode cX10_often 5 = .ok (.ifCond .eq 36, 3) := by decide +kernel
theorem dX10_often_8 : decode cX10_often 8 = .ok (.aload_n 0, 1) := by decide +kernel
theorem dX10_often_9 : decode cX10_often 9 = .ok (.iload_n 2, 1) := by decide +kernel
theorem dX10_often_10 : decode cX10_often 10 = .ok (.invokevirtual 105, 3) := by decide +kernel
theorem dX10_often_13 : decode cX10_often 13 = .ok (.ifCond .eq 28, 3) := by decide +kernel
theorem dX10_often_16 : decode cX10_often 16 = .ok (.lload_n 3, 1) := by decide +kernel
theorem dX10_often_17 : decode cX10_often 17 = .ok (.lconst 1, 1) := by decide +kernel
theorem dX10_often_18 : decode cX10_often 18 = .ok (.lcmp, 1) := by decide +kernel
theorem dX10_often_19 : decode cX10_often 19 = .ok (.ifCond .lt 22, 3) := by decide +kernel
theorem dX10_often_22 : decode cX10_often 22 = .ok (.lload_n 3, 1) := by decide +kernel
theorem dX10_often_23 : decode cX10_often 23 = .ok (.ldc2_w 153, 3) := by decide +kernel
theorem dX10_often_26 : decode cX10_often 26 = .ok (.lcmp, 1) := by decide +kernel
theorem dX10_often_27 : decode cX10_often 27 = .ok (.ifCond .gt 14, 3) := by decide +kernel
theorem dX10_often_30 : decode cX10_often 30 = .ok (.aload_n 0, 1) := by decide +kernel
theorem dX10_often_31 : decode cX10_often 31 = .ok (.getfield 44, 3) := by decide +kernel
theorem dX10_often_34 : decode cX10_often 34 = .ok (.getfield 175, 3) := by decide +kernel
theorem dX10_often_37 : decode cX10_often 37 = .ok (.iconst 1, 1) := by decide +kernel
theorem dX10_often_38 : decode cX10_often 38 = .ok (.if_icmp .ge 7, 3) := by decide +kernel
theorem dX10_often_41 : decode cX10_often 41 = .ok (.ldc2_w 181, 3) := by decide +kernel
theorem dX10_often_44 : decode cX10_often 44 = .ok (.lreturn, 1) := by decide +kernel
theorem dX10_often_45 : decode cX10_often 45 = .ok (.lload_n 3, 1) := by decide +kernel
theorem dX10_often_46 : decode cX10_often 46 = .ok (.aload_n 0, 1) := by decide +kernel
theorem dX10_often_47 : decode cX10_often 47 = .ok (.getfield 44, 3) := by decide +kernel
theorem dX10_often_50 : decode cX10_often 50 = .ok (.getfield 175, 3) := by decide +kernel
theorem dX10_often_53 : decode cX10_often 53 = .ok (.i2l, 1) := by decide +kernel
theorem dX10_often_54 : decode cX10_often 54 = .ok (.ldiv, 1) := by decide +kernel
theorem dX10_often_55 : decode cX10_often 55 = .ok (.lstore 5, 2) := by decide +kernel
theorem dX10_often_57 : decode cX10_often 57 = .ok (.lload_n 3, 1) := by decide +kernel
theorem dX10_often_58 : decode cX10_often 58 = .ok (.aload_n 0, 1) := by decide +kernel
theorem dX10_often_59 : decode cX10_often 59 = .ok (.getfield 44, 3) := by decide +kernel
theorem dX10_often_62 : decode cX10_often 62 = .ok (.getfield 175, 3) := by decide +kernel
theorem dX10_often_65 : decode cX10_often 65 = .ok (.i2l, 1) := by decide +kernel
theorem dX10_often_66 : decode cX10_often 66 = .ok (.lrem, 1) := by decide +kernel
theorem dX10_often_67 : decode cX10_often 67 = .ok (.lstore 7, 2) := by decide +kernel
theorem dX10_often_69 : decode cX10_often 69 = .ok (.lconst 0, 1) := by decide +kernel
theorem dX10_often_70 : decode cX10_often 70 = .ok (.lstore 9, 2) := by decide +kernel
theorem dX10_often_72 : decode cX10_often 72 = .ok (.iconst 0, 1) := by decide +kernel
theorem dX10_often_73 : decode cX10_often 73 = .ok (.istore 11, 2) := by decide +kernel
theorem dX10_often_75 : decode cX10_often 75 = .ok (.iload 11, 2) := by decide +kernel
theorem dX10_often_77 : decode cX10_often 77 = .ok (.aload_n 0, 1) := by decide +kernel
theorem dX10_often_78 : decode cX10_often 78 = .ok (.getfield 44, 3) := by decide +kernel
theorem dX10_often_81 : decode cX10_often 81 = .ok (.getfield 175, 3) := by decide +kernel
theorem dX10_often_84 : decode cX10_often 84 = .ok (.if_icmp .ge 47, 3) := by decide +kernel
theorem dX10_often_87 : decode cX10_often 87 = .ok (.aload_n 0, 1) := by decide +kernel
theorem dX10_often_88 : decode cX10_often 88 = .ok (.getfield 44, 3) := by decide +kernel
theorem dX10_often_91 : decode cX10_often 91 = .ok (.iload_n 1, 1) := by decide +kernel
theorem dX10_often_92 : decode cX10_often 92 = .ok (.iload 11, 2) := by decide +kernel
theorem dX10_often_94 : decode cX10_often 94 = .ok (.i2l, 1) := by decide +kernel
theorem dX10_often_131 : decode cX10_often 131 = .ok (.lload 9, 2) := by decide +kernel
theorem dX10_often_133 : decode cX10_often 133 = .ok (.lreturn, 1) := by decide +kernel
set_option maxRecDepth 20000 in
theorem ggX10_quiet_X5_tell : GoodIn wsX10_quiet wsX5_tell := goodIn_r _ [28, 29, 30, 31, 27, 32, 33, 34, 35, 36, 37, 38, 65, 66] (by decide +kernel) (by decide +kernel)
set_option maxRecDepth 20000 in
theorem gX10_quiet_X5_tell : GoodIn wsX10_quiet (wsV RX10 166 RX5 yX5_tell wsX5_tell) := goodIn_app (goodIn_of _ (by decide +kernel)) ggX10_quiet_X5_tell
theorem dX10_quiet_0 : decode cX10_quiet 0 = .ok (.bipush (-2), 2) := by decide +kernel
theorem dX10_quiet_2 : decode cX10_quiet 2 = .ok (.istore_n 1, 1) := by decide +kernel
theorem dX10_quiet_3 : decode cX10_quiet 3 = .ok (.iconst (-1), 1) := by decide +kernel
theorem dX10_quiet_4 : decode cX10_quiet 4 = .ok (.istore_n 2, 1) := by decide +kernel
theorem dX10_quiet_5 : decode cX10_quiet 5 = .ok (.iconst 1, 1) := by decide +kernel
theorem dX10_quiet_6 : decode cX10_quiet 6 = .ok (.istore_n 3, 1) := by decide +kernel
theorem dX10_quiet_7 : decode cX10_quiet 7 = .ok (.iload_n 3, 1) := by decide +kernel
theorem dX10_quiet_8 : decode cX10_quiet 8 = .ok (.aload_n 0, 1) := by decide +kernel
theorem dX10_quiet_9 : decode cX10_quiet 9 = .ok (.getfield 44, 3) := by decide +kernel
theorem dX10_quiet_12 : decode cX10_quiet 12 = .ok (.getfield 175, 3) := by decide +kernel
theorem dX10_quiet_15 : decode cX10_quiet 15 = .ok (.if_icmp .ge 27, 3) := by decide +kernel
theorem dX10_quiet_18 : decode cX10_quiet 18 = .ok (.aload_n 0, 1) := by decide +kernel
theorem dX10_quiet_19 : decode cX10_quiet 19 = .ok (.iload_n 3, 1) := by decide +kernel
theorem dX10_quiet_42 : decode cX10_quiet 42 = .ok (.iload_n 1, 1) := by decide +kernel
theorem dX10_quiet_43 : decode cX10_quiet 43 = .ok (.ifCond .le 12, 3) := by decide +kernel
theorem dX10_quiet_46 : decode cX10_quiet 46 = .ok (.aload_n 0, 1) := by decide +kernel
theorem dX10_quiet_47 : decode cX10_quiet 47 = .ok (.getfield 19, 3) := by decide +kernel
theorem dX10_quiet_50 : decode cX10_quiet 50 = .ok (.iload_n 2, 1) := by decide +kernel
theorem dX10_quiet_51 : decode cX10_quiet 51 = .ok (.i2l, 1) := by decide +kernel
theorem dX10_quiet_52 : decode cX10_quiet 52 = .ok (.invokevirtual 166, 3) := by decide +kernel
theorem dX10_quiet_55 : decode cX10_quiet 55 = .ok (.iload_n 1, 1) := by decide +kernel
theorem dX10_quiet_56 : decode cX10_quiet 56 = .ok (.ireturn, 1) := by decide +kernel
set_option maxRecDepth 20000 in
theorem ggX10_letter_X10_isStreet : GoodIn wsX10_letter wsX10_isStreet := goodIn_r _ [6, 1, 11, 12, 13, 14, 15, 16, 17, 18, 19, 20, 21, 22, 23, 24, 25, 26, 27, 28, 29, 30, 31, 32] (by decide +kernel) (by decide +kernel)
set_option maxRecDepth 20000 in
theorem gX10_letter_X10_isStreet : GoodIn wsX10_letter (wsV RX10 105 RX10 yX10_isStreet wsX10_isStreet) := goodIn_app (goodIn_of _ (by decide +kernel)) ggX10_letter_X10_isStreet
set_option maxRecDepth 20000 in
theorem ggX10_letter_X10_isDay : GoodIn wsX10_letter wsX10_isDay := goodIn_r _ [9, 10] (by decide +kernel) (by decide +kernel)
set_option maxRecDepth 20000 in
theorem gX10_letter_X10_isDay : GoodIn wsX10_letter (va_wsS RX10 159 yX10_isDay wsX10_isDay) := goodIn_app (goodIn_of _ (by decide +kernel)) ggX10_letter_X10_isDay
theorem dX10_letter_0 : decode cX10_letter 0 = .ok (.aload_n 0, 1) := by decide +kernel
theorem dX10_letter_1 : decode cX10_letter 1 = .ok (.iload_n 1, 1) := by decide +kernel
theorem dX10_letter_2 : decode cX10_letter 2 = .ok (.invokevirtual 105, 3) := by decide +kernel
theorem dX10_letter_5 : decode cX10_letter 5 = .ok (.ifCond .eq 22, 3) := by decide +kernel
theorem dX10_letter_8 : decode cX10_letter 8 = .ok (.lload_n 2, 1) := by decide +kernel
theorem dX10_letter_9 : decode cX10_letter 9 = .ok (.invokestatic 159, 3) := by decide +kernel
theorem dX10_letter_12 : decode cX10_letter 12 = .ok (.ifCond .eq 15, 3) := by decide +kernel
theorem dX10_letter_15 : decode cX10_letter 15 = .ok (.aload_n 0, 1) := by decide +kernel
theorem dX10_letter_16 : decode cX10_letter 16 = .ok (.getfield 26, 3) := by decide +kernel
theorem dX10_letter_19 : decode cX10_letter 19 = .ok (.getfield 191, 3) := by decide +kernel
theorem dX10_letter_22 : decode cX10_letter 22 = .ok (.bipush 12, 2) := by decide +kernel
theorem dX10_letter_24 : decode cX10_letter 24 = .ok (.if_icmp .lt 5, 3) := by decide +kernel
theorem dX10_letter_27 : decode cX10_letter 27 = .ok (.iconst (-1), 1) := by decide +kernel
theorem dX10_letter_28 : decode cX10_letter 28 = .ok (.ireturn, 1) := by decide +kernel
theorem dX10_letter_29 : decode cX10_letter 29 = .ok (.aload_n 0, 1) := by decide +kernel
theorem dX10_letter_30 : decode cX10_letter 30 = .ok (.getfield 26, 3) := by decide +kernel
theorem dX10_letter_33 : decode cX10_letter 33 = .ok (.getfield 191, 3) := by decide +kernel
theorem dX10_letter_36 : decode cX10_letter 36 = .ok (.istore 4, 2) := by decide +kernel
theorem dX10_letter_38 : decode cX10_letter 38 = .ok (.aload_n 0, 1) := by decide +kernel
theorem dX10_letter_39 : decode cX10_letter 39 = .ok (.getfield 26, 3) := by decide +kernel
theorem dX10_letter_42 : decode cX10_letter 42 = .ok (.getfield 194, 3) := by decide +kernel
theorem dX10_letter_45 : decode cX10_letter 45 = .ok (.iload 4, 2) := by decide +kernel
theorem dX10_letter_47 : decode cX10_letter 47 = .ok (.iload_n 1, 1) := by decide +kernel
theorem dX10_letter_48 : decode cX10_letter 48 = .ok (.iastore, 1) := by decide +kernel
theorem dX10_letter_49 : decode cX10_letter 49 = .ok (.aload_n 0, 1) := by decide +kernel
theorem dX10_letter_50 : decode cX10_letter 50 = .ok (.getfield 26, 3) := by decide +kernel
theorem dX10_letter_53 : decode cX10_letter 53 = .ok (.getfield 197, 3) := by decide +kernel
theorem dX10_letter_56 : decode cX10_letter 56 = .ok (.iload 4, 2) := by decide +kernel
theorem dX10_letter_58 : decode cX10_letter 58 = .ok (.lload_n 2, 1) := by decide +kernel
theorem dX10_letter_59 : decode cX10_letter 59 = .ok (.lastore, 1) := by decide +kernel
theorem dX10_letter_60 : decode cX10_letter 60 = .ok (.aload_n 0, 1) := by decide +kernel
theorem dX10_letter_61 : decode cX10_letter 61 = .ok (.getfield 26, 3) := by decide +kernel
theorem dX10_letter_64 : decode cX10_letter 64 = .ok (.dup, 1) := by decide +kernel
theorem dX10_letter_65 : decode cX10_letter 65 = .ok (.getfield 191, 3) := by decide +kernel
theorem dX10_letter_68 : decode cX10_letter 68 = .ok (.iconst 1, 1) := by decide +kernel
theorem dX10_letter_69 : decode cX10_letter 69 = .ok (.iadd, 1) := by decide +kernel
theorem dX10_letter_70 : decode cX10_letter 70 = .ok (.putfield 191, 3) := by decide +kernel
theorem dX10_letter_73 : decode cX10_letter 73 = .ok (.iload 4, 2) := by decide +kernel
theorem dX10_letter_75 : decode cX10_letter 75 = .ok (.ireturn, 1) := by decide +kernel
set_option maxRecDepth 20000 in
theorem ggX10_home_X10_isLetter : GoodIn wsX10_home wsX10_isLetter := goodIn_r _ [8, 2, 47, 48, 49, 50, 51, 52, 53, 54, 55, 56, 57, 58, 59, 60, 61, 62, 63, 64, 65, 66, 67, 68] (by decide +kernel) (by decide +kernel)
set_option maxRecDepth 20000 in
theorem gX10_home_X10_isLetter : GoodIn wsX10_home (wsV RX10 201 RX10 yX10_isLetter wsX10_isLetter) := goodIn_app (goodIn_of _ (by decide +kernel)) ggX10_home_X10_isLetter
theorem dX10_home_0 : decode cX10_home 0 = .ok (.aload_n 0, 1) := by decide +kernel
theorem dX10_home_1 : decode cX10_home 1 = .ok (.iload_n 1, 1) := by decide +kernel
theorem dX10_home_2 : decode cX10_home 2 = .ok (.invokevirtual 201, 3) := by decide +kernel
theorem dX10_home_5 : decode cX10_home 5 = .ok (.ifCond .ne 5, 3) := by decide +kernel
theorem dX10_home_8 : decode cX10_home 8 = .ok (.iconst (-1), 1) := by decide +kernel
theorem dX10_home_9 : decode cX10_home 9 = .ok (.ireturn, 1) := by decide +kernel
theorem dX10_home_10 : decode cX10_home 10 = .ok (.aload_n 0, 1) := by decide +kernel
theorem dX10_home_11 : decode cX10_home 11 = .ok (.getfield 44, 3) := by decide +kernel
theorem dX10_home_14 : decode cX10_home 14 = .ok (.aload_n 0, 1) := by decide +kernel
theorem dX10_home_15 : decode cX10_home 15 = .ok (.getfield 26, 3) := by decide +kernel
theorem dX10_home_18 : decode cX10_home 18 = .ok (.getfield 194, 3) := by decide +kernel
theorem dX10_home_21 : decode cX10_home 21 = .ok (.iload_n 1, 1) := by decide +kernel
theorem dX10_home_22 : decode cX10_home 22 = .ok (.iaload, 1) := by decide +kernel
theorem dX10_home_23 : decode cX10_home 23 = .ok (.aload_n 0, 1) := by decide +kernel
theorem dX10_home_24 : decode cX10_home 24 = .ok (.getfield 26, 3) := by decide +kernel
theorem dX10_home_27 : decode cX10_home 27 = .ok (.getfield 120, 3) := by decide +kernel
set_option maxRecDepth 20000 in
theorem ggX10_means_X10_isStreet : GoodIn wsX10_means wsX10_isStreet := goodIn_r _ [5, 6, 67, 68, 69, 70, 71, 72, 73, 74, 75, 76, 77, 78, 79, 80, 81, 82, 83, 84, 85, 86, 87, 88] (by decide +kernel) (by decide +kernel)
set_option maxRecDepth 20000 in
theorem gX10_means_X10_isStreet : GoodIn wsX10_means (wsV RX10 105 RX10 yX10_isStreet wsX10_isStreet) := goodIn_app (goodIn_of _ (by decide +kernel)) ggX10_means_X10_isStreet
set_option maxRecDepth 20000 in
theorem ggX10_means_X10_isSpan : GoodIn wsX10_means wsX10_isSpan := goodIn_r _ [9, 10, 11, 4, 12, 13] (by decide +kernel) (by decide +kernel)
set_option maxRecDepth 20000 in
theorem gX10_means_X10_isSpan : GoodIn wsX10_means (va_wsS RX10 210 yX10_isSpan wsX10_isSpan) := goodIn_app (goodIn_of _ (by decide +kernel)) ggX10_means_X10_isSpan
theorem dX10_means_0 : decode cX10_means 0 = .ok (.aload_n 0, 1) := by decide +kernel
theorem dX10_means_1 : decode cX10_means 1 = .ok (.iload_n 1, 1) := by decide +kernel
theorem dX10_means_2 : decode cX10_means 2 = .ok (.invokevirtual 105, 3) := by decide +kernel
theorem dX10_means_5 : decode cX10_means 5 = .ok (.ifCond .eq 15, 3) := by decide +kernel
theorem dX10_means_8 : decode cX10_means 8 = .ok (.lload_n 2, 1) := by decide +kernel
theorem dX10_means_9 : decode cX10_means 9 = .ok (.lload 4, 2) := by decide +kernel
theorem dX10_means_11 : decode cX10_means 11 = .ok (.sipush 1000, 3) := by decide +kernel
theorem dX10_means_14 : decode cX10_means 14 = .ok (.invokestatic 210, 3) := by decide +kernel
theorem dX10_means_17 : decode cX10_means 17 = .ok (.ifCond .ne 5, 3) := by decide +kernel
theorem dX10_means_20 : decode cX10_means 20 = .ok (.iconst (-1), 1) := by decide +kernel
theorem dX10_means_21 : decode cX10_means 21 = .ok (.ireturn, 1) := by decide +kernel
theorem dX10_means_22 : decode cX10_means 22 = .ok (.aload_n 0, 1) := by decide +kernel
theorem dX10_means_23 : decode cX10_means 23 = .ok (.iload_n 1, 1) := by decide +kernel
theorem dX10_means_24 : decode cX10_means 24 = .ok (.lload_n 2, 1) := by decide +kernel
theorem dX10_means_25 : decode cX10_means 25 = .ok (.lload 4, 2) := by decide +kernel
theorem dX10_means_27 : decode cX10_means 27 = .ok (.lload_n 2, 1) := by decide +kernel
theorem dX10_means_28 : decode cX10_means 28 = .ok (.lsub, 1) := by decide +kernel
theorem dX10_means_29 : decode cX10_means 29 = .ok (.l2i, 1) := by decide +kernel
theorem dX10_means_30 : decode cX10_means 30 = .ok (.iconst 1, 1) := by decide +kernel
theorem dX10_means_31 : decode cX10_means 31 = .ok (.iadd, 1) := by decide +kernel
theorem dX10_means_32 : decode cX10_means 32 = .ok (.iconst 1, 1) := by decide +kernel
set_option maxRecDepth 20000 in
theorem ggX10_smudge_X10_isStreet : GoodIn wsX10_smudge wsX10_isStreet := goodIn_r _ [7, 2, 64, 65, 66, 67, 68, 69, 70, 71, 72, 73, 74, 75, 76, 81, 82, 83, 84, 85, 86, 87, 88, 89] (by decide +kernel) (by decide +kernel)
set_option maxRecDepth 20000 in
theorem gX10_smudge_X10_isStreet : GoodIn wsX10_smudge (wsV RX10 105 RX10 yX10_isStreet wsX10_isStreet) := goodIn_app (goodIn_of _ (by decide +kernel)) ggX10_smudge_X10_isStreet
set_option maxRecDepth 20000 in
theorem ggX10_smudge_X10_isOrder : GoodIn wsX10_smudge wsX10_isOrder := goodIn_r _ [11, 2, 64, 65, 66, 67, 68, 69, 70, 71, 72, 73, 74, 75, 76, 81, 82, 83, 84, 85, 86, 87, 88, 89] (by decide +kernel) (by decide +kernel)
set_option maxRecDepth 20000 in
theorem gX10_smudge_X10_isOrder : GoodIn wsX10_smudge (wsV RX10 128 RX10 yX10_isOrder wsX10_isOrder) := goodIn_app (goodIn_of _ (by decide +kernel)) ggX10_smudge_X10_isOrder
theorem dX10_smudge_0 : decode cX10_smudge 0 = .ok (.aload_n 0, 1) := by decide +kernel
theorem dX10_smudge_1 : decode cX10_smudge 1 = .ok (.iload_n 1, 1) := by decide +kernel
theorem dX10_smudge_2 : decode cX10_smudge 2 = .ok (.invokevirtual 105, 3) := by decide +kernel
theorem dX10_smudge_5 : decode cX10_smudge 5 = .ok (.ifCond .eq 11, 3) := by decide +kernel
theorem dX10_smudge_8 : decode cX10_smudge 8 = .ok (.aload_n 0, 1) := by decide +kernel
theorem dX10_smudge_9 : decode cX10_smudge 9 = .ok (.iload_n 2, 1) := by decide +kernel
theorem dX10_smudge_10 : decode cX10_smudge 10 = .ok (.invokevirtual 128, 3) := by decide +kernel
theorem dX10_smudge_13 : decode cX10_smudge 13 = .ok (.ifCond .ne 5, 3) := by decide +kernel
theorem dX10_smudge_16 : decode cX10_smudge 16 = .ok (.iconst (-1), 1) := by decide +kernel
theorem dX10_smudge_17 : decode cX10_smudge 17 = .ok (.ireturn, 1) := by decide +kernel
theorem dX10_smudge_18 : decode cX10_smudge 18 = .ok (.aload_n 0, 1) := by decide +kernel
theorem dX10_smudge_19 : decode cX10_smudge 19 = .ok (.iload_n 1, 1) := by decide +kernel
theorem dX10_smudge_20 : decode cX10_smudge 20 = .ok (.iload_n 2, 1) := by decide +kernel
theorem dX10_smudge_21 : decode cX10_smudge 21 = .ok (.i2l, 1) := by decide +kernel
theorem dX10_smudge_22 : decode cX10_smudge 22 = .ok (.aload_n 0, 1) := by decide +kernel
theorem dX10_smudge_23 : decode cX10_smudge 23 = .ok (.getfield 44, 3) := by decide +kernel
theorem dX10_smudge_26 : decode cX10_smudge 26 = .ok (.getfield 175, 3) := by decide +kernel
theorem dX10_smudge_29 : decode cX10_smudge 29 = .ok (.aload_n 0, 1) := by decide +kernel
theorem dX10_smudge_30 : decode cX10_smudge 30 = .ok (.getfield 26, 3) := by decide +kernel
theorem dX10_smudge_33 : decode cX10_smudge 33 = .ok (.getfield 218, 3) := by decide +kernel
theorem dX10_smudge_36 : decode cX10_smudge 36 = .ok (.idiv, 1) := by decide +kernel
theorem dX10_smudge_37 : decode cX10_smudge 37 = .ok (.aload_n 0, 1) := by decide +kernel
theorem dX10_smudge_38 : decode cX10_smudge 38 = .ok (.getfield 26, 3) := by decide +kernel
theorem dX10_smudge_41 : decode cX10_smudge 41 = .ok (.getfield 218, 3) := by decide +kernel
set_option maxRecDepth 20000 in
theorem ggX10_misread_X10_isLetter : GoodIn wsX10_misread wsX10_isLetter := goodIn_r _ [5, 6, 25, 26, 27, 28, 29, 30, 31, 32, 33, 34, 35, 36, 37, 38, 39, 40, 41, 42, 43, 44, 45, 46] (by decide +kernel) (by decide +kernel)
set_option maxRecDepth 20000 in
theorem gX10_misread_X10_isLetter : GoodIn wsX10_misread (wsV RX10 201 RX10 yX10_isLetter wsX10_isLetter) := goodIn_app (goodIn_of _ (by decide +kernel)) ggX10_misread_X10_isLetter
theorem dX10_misread_0 : decode cX10_misread 0 = .ok (.aload_n 0, 1) := by decide +kernel
theorem dX10_misread_1 : decode cX10_misread 1 = .ok (.iload_n 1, 1) := by decide +kernel
theorem dX10_misread_2 : decode cX10_misread 2 = .ok (.invokevirtual 201, 3) := by decide +kernel
theorem dX10_misread_5 : decode cX10_misread 5 = .ok (.ifCond .eq 13, 3) := by decide +kernel
theorem dX10_misread_8 : decode cX10_misread 8 = .ok (.iload_n 2, 1) := by decide +kernel
theorem dX10_misread_9 : decode cX10_misread 9 = .ok (.ifCond .lt 9, 3) := by decide +kernel
theorem dX10_misread_12 : decode cX10_misread 12 = .ok (.iload_n 2, 1) := by decide +kernel
theorem dX10_misread_13 : decode cX10_misread 13 = .ok (.bipush 7, 2) := by decide +kernel
theorem dX10_misread_15 : decode cX10_misread 15 = .ok (.if_icmp .lt 5, 3) := by decide +kernel
theorem dX10_misread_18 : decode cX10_misread 18 = .ok (.iconst (-1), 1) := by decide +kernel
theorem dX10_misread_19 : decode cX10_misread 19 = .ok (.ireturn, 1) := by decide +kernel
theorem dX10_misread_20 : decode cX10_misread 20 = .ok (.aload_n 0, 1) := by decide +kernel
theorem dX10_misread_21 : decode cX10_misread 21 = .ok (.iload_n 1, 1) := by decide +kernel
theorem dX10_misread_22 : decode cX10_misread 22 = .ok (.iload_n 2, 1) := by decide +kernel
set_option maxRecDepth 20000 in
theorem ggX10_shifts_X10_isLetter : GoodIn wsX10_shifts wsX10_isLetter := goodIn_r _ [7, 1, 61, 62, 63, 64, 65, 66, 67, 68, 69, 70, 71, 72, 73, 74, 75, 76, 77, 78, 79, 80, 81, 82] (by decide +kernel) (by decide +kernel)
set_option maxRecDepth 20000 in
theorem gX10_shifts_X10_isLetter : GoodIn wsX10_shifts (wsV RX10 201 RX10 yX10_isLetter wsX10_isLetter) := goodIn_app (goodIn_of _ (by decide +kernel)) ggX10_shifts_X10_isLetter
theorem dX10_shifts_0 : decode cX10_shifts 0 = .ok (.aload_n 0, 1) := by decide +kernel
