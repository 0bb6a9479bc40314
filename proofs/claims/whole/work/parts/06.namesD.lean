theorem dX4_isEnough_0 : decode cX4_isEnough 0 = .ok (.iload_n 1, 1) := by decide +kernel
theorem dX4_isEnough_1 : decode cX4_isEnough 1 = .ok (.iload_n 2, 1) := by decide +kernel
theorem dX4_isEnough_2 : decode cX4_isEnough 2 = .ok (.invokestatic 115, 3) := by decide +kernel
theorem dX4_isEnough_5 : decode cX4_isEnough 5 = .ok (.ifCond .ne 13, 3) := by decide +kernel
theorem dX4_isEnough_8 : decode cX4_isEnough 8 = .ok (.new 64, 3) := by decide +kernel
theorem dX4_isEnough_11 : decode cX4_isEnough 11 = .ok (.dup, 1) := by decide +kernel
theorem dX4_isEnough_12 : decode cX4_isEnough 12 = .ok (.ldc 118, 2) := by decide +kernel
theorem dX4_isEnough_14 : decode cX4_isEnough 14 = .ok (.invokespecial 68, 3) := by decide +kernel
theorem dX4_isEnough_17 : decode cX4_isEnough 17 = .ok (.athrow, 1) := by decide +kernel
theorem dX4_isEnough_18 : decode cX4_isEnough 18 = .ok (.aload_n 0, 1) := by decide +kernel
theorem dX4_isEnough_19 : decode cX4_isEnough 19 = .ok (.getfield 27, 3) := by decide +kernel
theorem dX4_isEnough_22 : decode cX4_isEnough 22 = .ok (.aload_n 0, 1) := by decide +kernel
theorem dX4_isEnough_23 : decode cX4_isEnough 23 = .ok (.getfield 20, 3) := by decide +kernel
theorem dX4_isEnough_26 : decode cX4_isEnough 26 = .ok (.iload_n 1, 1) := by decide +kernel
theorem dX4_isEnough_27 : decode cX4_isEnough 27 = .ok (.iload_n 2, 1) := by decide +kernel
theorem dX4_isEnough_28 : decode cX4_isEnough 28 = .ok (.invokevirtual 120, 3) := by decide +kernel
theorem dX4_isEnough_31 : decode cX4_isEnough 31 = .ok (.ireturn, 1) := by decide +kernel
set_option maxRecDepth 20000 in
theorem ggX4_least_X4_isDenominator : GoodIn wsX4_least wsX4_isDenominator := goodIn_r _ [8] (by decide +kernel) (by decide +kernel)
set_option maxRecDepth 20000 in
theorem gX4_least_X4_isDenominator : GoodIn wsX4_least (va_wsS RX4 124 yX4_isDenominator wsX4_isDenominator) := goodIn_app (goodIn_of _ (by decide +kernel)) ggX4_least_X4_isDenominator
set_option maxRecDepth 20000 in
theorem ggX4_least_X2_reaches : GoodIn wsX4_least wsX2_reaches := goodIn_r _ [13, 14, 15, 16, 17, 18, 19, 20, 21, 22, 23, 24, 25, 26, 27, 28, 29, 30, 31, 32, 33, 34, 35, 36, 37, 38, 39, 40, 41, 42, 43, 44, 45, 46, 47, 48, 59, 60, 61, 62, 63, 64, 65, 66, 67] (by decide +kernel) (by decide +kernel)
set_option maxRecDepth 20000 in
theorem gX4_least_X2_reaches : GoodIn wsX4_least (wsV RX4 120 RX2 yX2_reaches wsX2_reaches) := goodIn_app (goodIn_of _ (by decide +kernel)) ggX4_least_X2_reaches
theorem dX4_least_0 : decode cX4_least 0 = .ok (.iload_n 1, 1) := by decide +kernel
theorem dX4_least_1 : decode cX4_least 1 = .ok (.invokestatic 124, 3) := by decide +kernel
theorem dX4_least_4 : decode cX4_least 4 = .ok (.ifCond .ne 13, 3) := by decide +kernel
theorem dX4_least_7 : decode cX4_least 7 = .ok (.new 64, 3) := by decide +kernel
theorem dX4_least_10 : decode cX4_least 10 = .ok (.dup, 1) := by decide +kernel
theorem dX4_least_11 : decode cX4_least 11 = .ok (.ldc 127, 2) := by decide +kernel
theorem dX4_least_13 : decode cX4_least 13 = .ok (.invokespecial 68, 3) := by decide +kernel
theorem dX4_least_16 : decode cX4_least 16 = .ok (.athrow, 1) := by decide +kernel
theorem dX4_least_17 : decode cX4_least 17 = .ok (.iconst 0, 1) := by decide +kernel
theorem dX4_least_18 : decode cX4_least 18 = .ok (.istore_n 2, 1) := by decide +kernel
theorem dX4_least_19 : decode cX4_least 19 = .ok (.iconst 3, 1) := by decide +kernel
theorem dX4_least_20 : decode cX4_least 20 = .ok (.iload_n 1, 1) := by decide +kernel
theorem dX4_least_21 : decode cX4_least 21 = .ok (.imul, 1) := by decide +kernel
theorem dX4_least_22 : decode cX4_least 22 = .ok (.istore_n 3, 1) := by decide +kernel
theorem dX4_least_23 : decode cX4_least 23 = .ok (.iconst 0, 1) := by decide +kernel
theorem dX4_least_24 : decode cX4_least 24 = .ok (.istore 4, 2) := by decide +kernel
theorem dX4_least_26 : decode cX4_least 26 = .ok (.iload 4, 2) := by decide +kernel
theorem dX4_least_28 : decode cX4_least 28 = .ok (.bipush 32, 2) := by decide +kernel
theorem dX4_least_30 : decode cX4_least 30 = .ok (.if_icmp .ge 49, 3) := by decide +kernel
theorem dX4_least_33 : decode cX4_least 33 = .ok (.iload_n 3, 1) := by decide +kernel
theorem dX4_least_34 : decode cX4_least 34 = .ok (.iload_n 2, 1) := by decide +kernel
theorem dX4_least_35 : decode cX4_least 35 = .ok (.isub, 1) := by decide +kernel
theorem dX4_least_36 : decode cX4_least 36 = .ok (.iconst 1, 1) := by decide +kernel
theorem dX4_least_37 : decode cX4_least 37 = .ok (.if_icmp .le 42, 3) := by decide +kernel
theorem dX4_least_40 : decode cX4_least 40 = .ok (.iload_n 2, 1) := by decide +kernel
theorem dX4_least_41 : decode cX4_least 41 = .ok (.iload_n 3, 1) := by decide +kernel
theorem dX4_least_42 : decode cX4_least 42 = .ok (.iadd, 1) := by decide +kernel
theorem dX4_least_43 : decode cX4_least 43 = .ok (.iconst 2, 1) := by decide +kernel
theorem dX4_least_44 : decode cX4_least 44 = .ok (.idiv, 1) := by decide +kernel
theorem dX4_least_45 : decode cX4_least 45 = .ok (.istore 5, 2) := by decide +kernel
theorem dX4_least_47 : decode cX4_least 47 = .ok (.aload_n 0, 1) := by decide +kernel
theorem dX4_least_48 : decode cX4_least 48 = .ok (.getfield 27, 3) := by decide +kernel
theorem dX4_least_51 : decode cX4_least 51 = .ok (.aload_n 0, 1) := by decide +kernel
theorem dX4_least_52 : decode cX4_least 52 = .ok (.getfield 20, 3) := by decide +kernel
theorem dX4_least_55 : decode cX4_least 55 = .ok (.iload 5, 2) := by decide +kernel
theorem dX4_least_57 : decode cX4_least 57 = .ok (.iload_n 1, 1) := by decide +kernel
theorem dX4_least_58 : decode cX4_least 58 = .ok (.invokevirtual 120, 3) := by decide +kernel
theorem dX4_least_61 : decode cX4_least 61 = .ok (.ifCond .eq 9, 3) := by decide +kernel
theorem dX4_least_64 : decode cX4_least 64 = .ok (.iload 5, 2) := by decide +kernel
theorem dX4_least_66 : decode cX4_least 66 = .ok (.istore_n 3, 1) := by decide +kernel
theorem dX4_least_67 : decode cX4_least 67 = .ok (.goto 6, 3) := by decide +kernel
theorem dX4_least_70 : decode cX4_least 70 = .ok (.iload 5, 2) := by decide +kernel
theorem dX4_least_72 : decode cX4_least 72 = .ok (.istore_n 2, 1) := by decide +kernel
theorem dX4_least_73 : decode cX4_least 73 = .ok (.iinc 4 1, 3) := by decide +kernel
theorem dX4_least_76 : decode cX4_least 76 = .ok (.goto (-50), 3) := by decide +kernel
theorem dX4_least_79 : decode cX4_least 79 = .ok (.iload_n 3, 1) := by decide +kernel
theorem dX4_least_80 : decode cX4_least 80 = .ok (.ireturn, 1) := by decide +kernel
set_option maxRecDepth 20000 in
theorem ggX4_ask_X4_isCost : GoodIn wsX4_ask wsX4_isCost := goodIn_r _ [14, 15, 16, 13, 17] (by decide +kernel) (by decide +kernel)
set_option maxRecDepth 20000 in
theorem gX4_ask_X4_isCost : GoodIn wsX4_ask (va_wsS RX4 115 yX4_isCost wsX4_isCost) := goodIn_app (goodIn_of _ (by decide +kernel)) ggX4_ask_X4_isCost
set_option maxRecDepth 20000 in
theorem ggX4_ask_X3_hasCoin : GoodIn wsX4_ask wsX3_hasCoin := goodIn_r _ [22, 23, 139, 140, 141, 142, 143] (by decide +kernel) (by decide +kernel)
set_option maxRecDepth 20000 in
theorem gX4_ask_X3_hasCoin : GoodIn wsX4_ask (wsV RX4 88 RX3 yX3_hasCoin wsX3_hasCoin) := goodIn_app (goodIn_of _ (by decide +kernel)) ggX4_ask_X3_hasCoin
set_option maxRecDepth 20000 in
theorem ggX4_ask_X2_reaches : GoodIn wsX4_ask wsX2_reaches := goodIn_r _ [28, 29, 30, 31, 32, 33, 34, 35, 36, 37, 38, 39, 40, 41, 42, 43, 44, 45, 46, 47, 48, 49, 50, 51, 52, 53, 54, 55, 56, 57, 58, 59, 60, 61, 62, 63, 144, 145, 139, 140, 141, 142, 143, 146, 147] (by decide +kernel) (by decide +kernel)
set_option maxRecDepth 20000 in
theorem gX4_ask_X2_reaches : GoodIn wsX4_ask (wsV RX4 120 RX2 yX2_reaches wsX2_reaches) := goodIn_app (goodIn_of _ (by decide +kernel)) ggX4_ask_X2_reaches
set_option maxRecDepth 20000 in
theorem ggX4_ask_X0_isLessThan : GoodIn wsX4_ask wsX0_isLessThan := goodIn_r _ [68, 69, 70, 71, 58, 36, 59, 38, 53, 54, 55, 56, 43, 148, 149, 146, 147] (by decide +kernel) (by decide +kernel)
set_option maxRecDepth 20000 in
theorem gX4_ask_X0_isLessThan : GoodIn wsX4_ask (wsV RX4 132 RX0 yX0_isLessThan wsX0_isLessThan) := goodIn_app (goodIn_of _ (by decide +kernel)) ggX4_ask_X0_isLessThan
set_option maxRecDepth 20000 in
theorem ggX4_ask_X0_increase : GoodIn wsX4_ask wsX0_increase := goodIn_r _ [75, 76, 77, 78, 67, 79, 70, 69, 80, 81, 82, 83, 84, 85, 86, 87, 88, 36, 89, 38, 53, 54, 55, 56, 43, 90, 91, 92, 93, 49, 50, 51, 52, 94, 45, 46, 47, 48, 39, 40, 41, 42, 95, 61, 62, 63, 148, 149, 146, 147] (by decide +kernel) (by decide +kernel)
set_option maxRecDepth 20000 in
theorem gX4_ask_X0_increase : GoodIn wsX4_ask (wsV RX4 112 RX0 yX0_increase wsX0_increase) := goodIn_app (goodIn_of _ (by decide +kernel)) ggX4_ask_X0_increase
set_option maxRecDepth 20000 in
theorem ggX4_ask_X0_decrease : GoodIn wsX4_ask wsX0_decrease := goodIn_r _ [99, 76, 77, 78, 67, 79, 70, 69, 80, 81, 82, 83, 84, 85, 86, 87, 88, 36, 89, 38, 53, 54, 55, 56, 43, 90, 91, 92, 93, 49, 50, 51, 52, 94, 45, 46, 47, 48, 39, 40, 41, 42, 95, 61, 62, 63, 148, 149, 146, 147] (by decide +kernel) (by decide +kernel)
set_option maxRecDepth 20000 in
theorem gX4_ask_X0_decrease : GoodIn wsX4_ask (wsV RX4 135 RX0 yX0_decrease wsX0_decrease) := goodIn_app (goodIn_of _ (by decide +kernel)) ggX4_ask_X0_decrease
set_option maxRecDepth 20000 in
theorem ggX4_ask_X4_count : GoodIn wsX4_ask wsX4_count := goodIn_r _ [103, 104, 105, 129, 130, 131, 132, 133, 134, 135, 136, 137, 138] (by decide +kernel) (by decide +kernel)
set_option maxRecDepth 20000 in
theorem gX4_ask_X4_count : GoodIn wsX4_ask (wsV RX4 138 RX4 yX4_count wsX4_count) := goodIn_app (goodIn_of _ (by decide +kernel)) ggX4_ask_X4_count
set_option maxRecDepth 20000 in
theorem ggX4_ask_X3_nearestTo : GoodIn wsX4_ask wsX3_nearestTo := goodIn_r _ [109, 110, 111, 139, 140, 141, 142, 143] (by decide +kernel) (by decide +kernel)
set_option maxRecDepth 20000 in
theorem gX4_ask_X3_nearestTo : GoodIn wsX4_ask (wsV RX4 142 RX3 yX3_nearestTo wsX3_nearestTo) := goodIn_app (goodIn_of _ (by decide +kernel)) ggX4_ask_X3_nearestTo
set_option maxRecDepth 20000 in
theorem ggX4_ask_X3_outcomeOf : GoodIn wsX4_ask wsX3_outcomeOf := goodIn_r _ [115, 110, 111, 116, 117, 118, 21, 119, 23, 120, 121, 122, 123, 124, 125, 126, 127, 128, 139, 140, 141, 142, 143] (by decide +kernel) (by decide +kernel)
set_option maxRecDepth 20000 in
theorem gX4_ask_X3_outcomeOf : GoodIn wsX4_ask (wsV RX4 94 RX3 yX3_outcomeOf wsX3_outcomeOf) := goodIn_app (goodIn_of _ (by decide +kernel)) ggX4_ask_X3_outcomeOf
theorem dX4_ask_0 : decode cX4_ask 0 = .ok (.iload_n 3, 1) := by decide +kernel
theorem dX4_ask_1 : decode cX4_ask 1 = .ok (.iload 4, 2) := by decide +kernel
theorem dX4_ask_3 : decode cX4_ask 3 = .ok (.invokestatic 115, 3) := by decide +kernel
theorem dX4_ask_6 : decode cX4_ask 6 = .ok (.ifCond .eq 15, 3) := by decide +kernel
theorem dX4_ask_9 : decode cX4_ask 9 = .ok (.aload_n 0, 1) := by decide +kernel
theorem dX4_ask_10 : decode cX4_ask 10 = .ok (.getfield 20, 3) := by decide +kernel
theorem dX4_ask_13 : decode cX4_ask 13 = .ok (.lload 5, 2) := by decide +kernel
theorem dX4_ask_15 : decode cX4_ask 15 = .ok (.invokevirtual 88, 3) := by decide +kernel
theorem dX4_ask_18 : decode cX4_ask 18 = .ok (.ifCond .ne 13, 3) := by decide +kernel
theorem dX4_ask_21 : decode cX4_ask 21 = .ok (.new 64, 3) := by decide +kernel
theorem dX4_ask_24 : decode cX4_ask 24 = .ok (.dup, 1) := by decide +kernel
theorem dX4_ask_25 : decode cX4_ask 25 = .ok (.ldc 129, 2) := by decide +kernel
theorem dX4_ask_27 : decode cX4_ask 27 = .ok (.invokespecial 68, 3) := by decide +kernel
theorem dX4_ask_30 : decode cX4_ask 30 = .ok (.athrow, 1) := by decide +kernel
theorem dX4_ask_31 : decode cX4_ask 31 = .ok (.aload_n 0, 1) := by decide +kernel
theorem dX4_ask_32 : decode cX4_ask 32 = .ok (.getfield 27, 3) := by decide +kernel
theorem dX4_ask_35 : decode cX4_ask 35 = .ok (.aload_n 0, 1) := by decide +kernel
theorem dX4_ask_36 : decode cX4_ask 36 = .ok (.getfield 20, 3) := by decide +kernel
theorem dX4_ask_39 : decode cX4_ask 39 = .ok (.iload_n 3, 1) := by decide +kernel
theorem dX4_ask_40 : decode cX4_ask 40 = .ok (.iload 4, 2) := by decide +kernel
theorem dX4_ask_42 : decode cX4_ask 42 = .ok (.invokevirtual 120, 3) := by decide +kernel
theorem dX4_ask_45 : decode cX4_ask 45 = .ok (.ifCond .ne 16, 3) := by decide +kernel
theorem dX4_ask_48 : decode cX4_ask 48 = .ok (.aload_n 0, 1) := by decide +kernel
theorem dX4_ask_49 : decode cX4_ask 49 = .ok (.dup, 1) := by decide +kernel
theorem dX4_ask_50 : decode cX4_ask 50 = .ok (.getfield 47, 3) := by decide +kernel
theorem dX4_ask_53 : decode cX4_ask 53 = .ok (.iconst 1, 1) := by decide +kernel
theorem dX4_ask_54 : decode cX4_ask 54 = .ok (.iadd, 1) := by decide +kernel
theorem dX4_ask_55 : decode cX4_ask 55 = .ok (.putfield 47, 3) := by decide +kernel
theorem dX4_ask_58 : decode cX4_ask 58 = .ok (.ldc 131, 2) := by decide +kernel
theorem dX4_ask_60 : decode cX4_ask 60 = .ok (.ireturn, 1) := by decide +kernel
theorem dX4_ask_61 : decode cX4_ask 61 = .ok (.aload_n 0, 1) := by decide +kernel
theorem dX4_ask_62 : decode cX4_ask 62 = .ok (.getfield 41, 3) := by decide +kernel
theorem dX4_ask_65 : decode cX4_ask 65 = .ok (.iload_n 3, 1) := by decide +kernel
theorem dX4_ask_66 : decode cX4_ask 66 = .ok (.iload 4, 2) := by decide +kernel
theorem dX4_ask_68 : decode cX4_ask 68 = .ok (.invokevirtual 132, 3) := by decide +kernel
theorem dX4_ask_71 : decode cX4_ask 71 = .ok (.ifCond .eq 16, 3) := by decide +kernel
theorem dX4_ask_74 : decode cX4_ask 74 = .ok (.aload_n 0, 1) := by decide +kernel
theorem dX4_ask_75 : decode cX4_ask 75 = .ok (.dup, 1) := by decide +kernel
theorem dX4_ask_76 : decode cX4_ask 76 = .ok (.getfield 50, 3) := by decide +kernel
theorem dX4_ask_79 : decode cX4_ask 79 = .ok (.iconst 1, 1) := by decide +kernel
theorem dX4_ask_80 : decode cX4_ask 80 = .ok (.iadd, 1) := by decide +kernel
theorem dX4_ask_81 : decode cX4_ask 81 = .ok (.putfield 50, 3) := by decide +kernel
theorem dX4_ask_84 : decode cX4_ask 84 = .ok (.ldc 131, 2) := by decide +kernel
theorem dX4_ask_86 : decode cX4_ask 86 = .ok (.ireturn, 1) := by decide +kernel
theorem dX4_ask_87 : decode cX4_ask 87 = .ok (.aload_n 0, 1) := by decide +kernel
theorem dX4_ask_88 : decode cX4_ask 88 = .ok (.getfield 38, 3) := by decide +kernel
theorem dX4_ask_91 : decode cX4_ask 91 = .ok (.iload_n 3, 1) := by decide +kernel
theorem dX4_ask_92 : decode cX4_ask 92 = .ok (.iload 4, 2) := by decide +kernel
theorem dX4_ask_94 : decode cX4_ask 94 = .ok (.invokevirtual 112, 3) := by decide +kernel
theorem dX4_ask_97 : decode cX4_ask 97 = .ok (.aload_n 0, 1) := by decide +kernel
theorem dX4_ask_98 : decode cX4_ask 98 = .ok (.getfield 41, 3) := by decide +kernel
theorem dX4_ask_101 : decode cX4_ask 101 = .ok (.iload_n 3, 1) := by decide +kernel
theorem dX4_ask_102 : decode cX4_ask 102 = .ok (.iload 4, 2) := by decide +kernel
theorem dX4_ask_104 : decode cX4_ask 104 = .ok (.invokevirtual 135, 3) := by decide +kernel
theorem dX4_ask_107 : decode cX4_ask 107 = .ok (.aload_n 0, 1) := by decide +kernel
theorem dX4_ask_108 : decode cX4_ask 108 = .ok (.dup, 1) := by decide +kernel
theorem dX4_ask_109 : decode cX4_ask 109 = .ok (.getfield 44, 3) := by decide +kernel
theorem dX4_ask_112 : decode cX4_ask 112 = .ok (.iconst 1, 1) := by decide +kernel
theorem dX4_ask_113 : decode cX4_ask 113 = .ok (.iadd, 1) := by decide +kernel
theorem dX4_ask_114 : decode cX4_ask 114 = .ok (.putfield 44, 3) := by decide +kernel
theorem dX4_ask_117 : decode cX4_ask 117 = .ok (.aload_n 0, 1) := by decide +kernel
theorem dX4_ask_118 : decode cX4_ask 118 = .ok (.getfield 20, 3) := by decide +kernel
theorem dX4_ask_121 : decode cX4_ask 121 = .ok (.aload_n 0, 1) := by decide +kernel
theorem dX4_ask_122 : decode cX4_ask 122 = .ok (.getfield 20, 3) := by decide +kernel
theorem dX4_ask_125 : decode cX4_ask 125 = .ok (.aload_n 0, 1) := by decide +kernel
theorem dX4_ask_126 : decode cX4_ask 126 = .ok (.iload_n 1, 1) := by decide +kernel
theorem dX4_ask_127 : decode cX4_ask 127 = .ok (.iload_n 2, 1) := by decide +kernel
theorem dX4_ask_128 : decode cX4_ask 128 = .ok (.invokevirtual 138, 3) := by decide +kernel
theorem dX4_ask_131 : decode cX4_ask 131 = .ok (.invokevirtual 142, 3) := by decide +kernel
theorem dX4_ask_134 : decode cX4_ask 134 = .ok (.lload 5, 2) := by decide +kernel
theorem dX4_ask_136 : decode cX4_ask 136 = .ok (.invokevirtual 94, 3) := by decide +kernel
theorem dX4_ask_139 : decode cX4_ask 139 = .ok (.ireturn, 1) := by decide +kernel
set_option maxRecDepth 20000 in
theorem ggX4_limb_X1_limbAt : GoodIn wsX4_limb wsX1_limbAt := goodIn_r _ [13, 14, 15, 28, 29] (by decide +kernel) (by decide +kernel)
set_option maxRecDepth 20000 in
theorem gX4_limb_X1_limbAt : GoodIn wsX4_limb (wsV RX4 160 RX1 yX1_limbAt wsX1_limbAt) := goodIn_app (goodIn_of _ (by decide +kernel)) ggX4_limb_X1_limbAt
theorem dX4_limb_0 : decode cX4_limb 0 = .ok (.iload_n 1, 1) := by decide +kernel
theorem dX4_limb_1 : decode cX4_limb 1 = .ok (.ifCond .lt 17, 3) := by decide +kernel
theorem dX4_limb_4 : decode cX4_limb 4 = .ok (.iload_n 1, 1) := by decide +kernel
theorem dX4_limb_5 : decode cX4_limb 5 = .ok (.iconst 2, 1) := by decide +kernel
theorem dX4_limb_6 : decode cX4_limb 6 = .ok (.if_icmp .gt 12, 3) := by decide +kernel
theorem dX4_limb_9 : decode cX4_limb 9 = .ok (.iload_n 2, 1) := by decide +kernel
theorem dX4_limb_10 : decode cX4_limb 10 = .ok (.ifCond .lt 8, 3) := by decide +kernel
theorem dX4_limb_13 : decode cX4_limb 13 = .ok (.iload_n 2, 1) := by decide +kernel
theorem dX4_limb_14 : decode cX4_limb 14 = .ok (.iconst 1, 1) := by decide +kernel
theorem dX4_limb_15 : decode cX4_limb 15 = .ok (.if_icmp .le 13, 3) := by decide +kernel
theorem dX4_limb_18 : decode cX4_limb 18 = .ok (.new 53, 3) := by decide +kernel
theorem dX4_limb_21 : decode cX4_limb 21 = .ok (.dup, 1) := by decide +kernel
theorem dX4_limb_22 : decode cX4_limb 22 = .ok (.ldc 146, 2) := by decide +kernel
theorem dX4_limb_24 : decode cX4_limb 24 = .ok (.invokespecial 57, 3) := by decide +kernel
theorem dX4_limb_27 : decode cX4_limb 27 = .ok (.athrow, 1) := by decide +kernel
theorem dX4_limb_28 : decode cX4_limb 28 = .ok (.iload_n 1, 1) := by decide +kernel
theorem dX4_limb_29 : decode cX4_limb 29 = .ok (.ifCond .ne 10, 3) := by decide +kernel
theorem dX4_limb_32 : decode cX4_limb 32 = .ok (.aload_n 0, 1) := by decide +kernel
theorem dX4_limb_33 : decode cX4_limb 33 = .ok (.getfield 34, 3) := by decide +kernel
theorem dX4_limb_36 : decode cX4_limb 36 = .ok (.goto 19, 3) := by decide +kernel
theorem dX4_limb_39 : decode cX4_limb 39 = .ok (.iload_n 1, 1) := by decide +kernel
theorem dX4_limb_40 : decode cX4_limb 40 = .ok (.iconst 1, 1) := by decide +kernel
theorem dX4_limb_41 : decode cX4_limb 41 = .ok (.if_icmp .ne 10, 3) := by decide +kernel
theorem dX4_limb_44 : decode cX4_limb 44 = .ok (.aload_n 0, 1) := by decide +kernel
theorem dX4_limb_45 : decode cX4_limb 45 = .ok (.getfield 38, 3) := by decide +kernel
theorem dX4_limb_48 : decode cX4_limb 48 = .ok (.goto 7, 3) := by decide +kernel
theorem dX4_limb_51 : decode cX4_limb 51 = .ok (.aload_n 0, 1) := by decide +kernel
theorem dX4_limb_52 : decode cX4_limb 52 = .ok (.getfield 41, 3) := by decide +kernel
theorem dX4_limb_55 : decode cX4_limb 55 = .ok (.astore 4, 2) := by decide +kernel
theorem dX4_limb_57 : decode cX4_limb 57 = .ok (.iload_n 2, 1) := by decide +kernel
theorem dX4_limb_58 : decode cX4_limb 58 = .ok (.ifCond .ne 11, 3) := by decide +kernel
theorem dX4_limb_61 : decode cX4_limb 61 = .ok (.aload 4, 2) := by decide +kernel
theorem dX4_limb_63 : decode cX4_limb 63 = .ok (.getfield 148, 3) := by decide +kernel
theorem dX4_limb_66 : decode cX4_limb 66 = .ok (.goto 8, 3) := by decide +kernel
theorem dX4_limb_69 : decode cX4_limb 69 = .ok (.aload 4, 2) := by decide +kernel
theorem dX4_limb_71 : decode cX4_limb 71 = .ok (.getfield 152, 3) := by decide +kernel
theorem dX4_limb_74 : decode cX4_limb 74 = .ok (.astore 5, 2) := by decide +kernel
theorem dX4_limb_76 : decode cX4_limb 76 = .ok (.iload_n 3, 1) := by decide +kernel
theorem dX4_limb_77 : decode cX4_limb 77 = .ok (.iconst (-1), 1) := by decide +kernel
theorem dX4_limb_78 : decode cX4_limb 78 = .ok (.if_icmp .ne 9, 3) := by decide +kernel
theorem dX4_limb_81 : decode cX4_limb 81 = .ok (.aload 5, 2) := by decide +kernel
theorem dX4_limb_83 : decode cX4_limb 83 = .ok (.getfield 155, 3) := by decide +kernel
theorem dX4_limb_86 : decode cX4_limb 86 = .ok (.ireturn, 1) := by decide +kernel
theorem dX4_limb_87 : decode cX4_limb 87 = .ok (.iload_n 3, 1) := by decide +kernel
theorem dX4_limb_88 : decode cX4_limb 88 = .ok (.ifCond .lt 21, 3) := by decide +kernel
theorem dX4_limb_91 : decode cX4_limb 91 = .ok (.iload_n 3, 1) := by decide +kernel
theorem dX4_limb_92 : decode cX4_limb 92 = .ok (.aload 5, 2) := by decide +kernel
theorem dX4_limb_94 : decode cX4_limb 94 = .ok (.getfield 155, 3) := by decide +kernel
theorem dX4_limb_97 : decode cX4_limb 97 = .ok (.if_icmp .ge 12, 3) := by decide +kernel
theorem dX4_limb_100 : decode cX4_limb 100 = .ok (.aload 5, 2) := by decide +kernel
theorem dX4_limb_102 : decode cX4_limb 102 = .ok (.iload_n 3, 1) := by decide +kernel
theorem dX4_limb_103 : decode cX4_limb 103 = .ok (.invokevirtual 160, 3) := by decide +kernel
theorem dX4_limb_106 : decode cX4_limb 106 = .ok (.goto 4, 3) := by decide +kernel
theorem dX4_limb_109 : decode cX4_limb 109 = .ok (.iconst (-1), 1) := by decide +kernel
theorem dX4_limb_110 : decode cX4_limb 110 = .ok (.ireturn, 1) := by decide +kernel
theorem dX4_told_0 : decode cX4_told 0 = .ok (.iload_n 1, 1) := by decide +kernel
theorem dX4_told_1 : decode cX4_told 1 = .ok (.tableswitch 99 0 7 #[47, 52, 57, 62, 67, 75, 83, 91], 47) := by decide +kernel
theorem dX4_told_48 : decode cX4_told 48 = .ok (.aload_n 0, 1) := by decide +kernel
theorem dX4_told_49 : decode cX4_told 49 = .ok (.getfield 44, 3) := by decide +kernel
theorem dX4_told_52 : decode cX4_told 52 = .ok (.ireturn, 1) := by decide +kernel
theorem dX4_told_53 : decode cX4_told 53 = .ok (.aload_n 0, 1) := by decide +kernel
theorem dX4_told_54 : decode cX4_told 54 = .ok (.getfield 47, 3) := by decide +kernel
theorem dX4_told_57 : decode cX4_told 57 = .ok (.ireturn, 1) := by decide +kernel
theorem dX4_told_58 : decode cX4_told 58 = .ok (.aload_n 0, 1) := by decide +kernel
theorem dX4_told_59 : decode cX4_told 59 = .ok (.getfield 50, 3) := by decide +kernel
theorem dX4_told_62 : decode cX4_told 62 = .ok (.ireturn, 1) := by decide +kernel
theorem dX4_told_63 : decode cX4_told 63 = .ok (.aload_n 0, 1) := by decide +kernel
theorem dX4_told_64 : decode cX4_told 64 = .ok (.getfield 13, 3) := by decide +kernel
theorem dX4_told_67 : decode cX4_told 67 = .ok (.ireturn, 1) := by decide +kernel
theorem dX4_told_68 : decode cX4_told 68 = .ok (.aload_n 0, 1) := by decide +kernel
theorem dX4_told_69 : decode cX4_told 69 = .ok (.getfield 20, 3) := by decide +kernel
theorem dX4_told_72 : decode cX4_told 72 = .ok (.getfield 163, 3) := by decide +kernel
theorem dX4_told_75 : decode cX4_told 75 = .ok (.ireturn, 1) := by decide +kernel
theorem dX4_told_76 : decode cX4_told 76 = .ok (.aload_n 0, 1) := by decide +kernel
theorem dX4_told_77 : decode cX4_told 77 = .ok (.getfield 20, 3) := by decide +kernel
theorem dX4_told_80 : decode cX4_told 80 = .ok (.getfield 166, 3) := by decide +kernel
theorem dX4_told_83 : decode cX4_told 83 = .ok (.ireturn, 1) := by decide +kernel
theorem dX4_told_84 : decode cX4_told 84 = .ok (.aload_n 0, 1) := by decide +kernel
theorem dX4_told_85 : decode cX4_told 85 = .ok (.getfield 20, 3) := by decide +kernel
theorem dX4_told_88 : decode cX4_told 88 = .ok (.getfield 169, 3) := by decide +kernel
theorem dX4_told_91 : decode cX4_told 91 = .ok (.ireturn, 1) := by decide +kernel
theorem dX4_told_92 : decode cX4_told 92 = .ok (.aload_n 0, 1) := by decide +kernel
theorem dX4_told_93 : decode cX4_told 93 = .ok (.getfield 20, 3) := by decide +kernel
theorem dX4_told_96 : decode cX4_told 96 = .ok (.getfield 172, 3) := by decide +kernel
theorem dX4_told_99 : decode cX4_told 99 = .ok (.ireturn, 1) := by decide +kernel
theorem dX4_told_100 : decode cX4_told 100 = .ok (.new 53, 3) := by decide +kernel
theorem dX4_told_103 : decode cX4_told 103 = .ok (.dup, 1) := by decide +kernel
theorem dX4_told_104 : decode cX4_told 104 = .ok (.ldc 175, 2) := by decide +kernel
theorem dX4_told_106 : decode cX4_told 106 = .ok (.invokespecial 57, 3) := by decide +kernel
theorem dX4_told_109 : decode cX4_told 109 = .ok (.athrow, 1) := by decide +kernel
theorem dX4_isDenominator_0 : decode cX4_isDenominator 0 = .ok (.iload_n 0, 1) := by decide +kernel
theorem dX4_isDenominator_1 : decode cX4_isDenominator 1 = .ok (.iconst 1, 1) := by decide +kernel
theorem dX4_isDenominator_2 : decode cX4_isDenominator 2 = .ok (.if_icmp .lt 14, 3) := by decide +kernel
theorem dX4_isDenominator_5 : decode cX4_isDenominator 5 = .ok (.iload_n 0, 1) := by decide +kernel
theorem dX4_isDenominator_6 : decode cX4_isDenominator 6 = .ok (.sipush 1000, 3) := by decide +kernel
theorem dX4_isDenominator_9 : decode cX4_isDenominator 9 = .ok (.if_icmp .gt 7, 3) := by decide +kernel
theorem dX4_isDenominator_12 : decode cX4_isDenominator 12 = .ok (.iconst 1, 1) := by decide +kernel
theorem dX4_isDenominator_13 : decode cX4_isDenominator 13 = .ok (.goto 4, 3) := by decide +kernel
theorem dX4_isDenominator_16 : decode cX4_isDenominator 16 = .ok (.iconst 0, 1) := by decide +kernel
theorem dX4_isDenominator_17 : decode cX4_isDenominator 17 = .ok (.ireturn, 1) := by decide +kernel
set_option maxRecDepth 20000 in
theorem ggX4_isGrant_X4_isDenominator : GoodIn wsX4_isGrant wsX4_isDenominator := goodIn_r _ [4] (by decide +kernel) (by decide +kernel)
set_option maxRecDepth 20000 in
theorem gX4_isGrant_X4_isDenominator : GoodIn wsX4_isGrant (va_wsS RX4 124 yX4_isDenominator wsX4_isDenominator) := goodIn_app (goodIn_of _ (by decide +kernel)) ggX4_isGrant_X4_isDenominator
theorem dX4_isGrant_0 : decode cX4_isGrant 0 = .ok (.iload_n 0, 1) := by decide +kernel
theorem dX4_isGrant_1 : decode cX4_isGrant 1 = .ok (.ifCond .lt 14, 3) := by decide +kernel
theorem dX4_isGrant_4 : decode cX4_isGrant 4 = .ok (.iload_n 1, 1) := by decide +kernel
theorem dX4_isGrant_5 : decode cX4_isGrant 5 = .ok (.invokestatic 124, 3) := by decide +kernel
theorem dX4_isGrant_8 : decode cX4_isGrant 8 = .ok (.ifCond .eq 7, 3) := by decide +kernel
theorem dX4_isGrant_11 : decode cX4_isGrant 11 = .ok (.iconst 1, 1) := by decide +kernel
theorem dX4_isGrant_12 : decode cX4_isGrant 12 = .ok (.goto 4, 3) := by decide +kernel
theorem dX4_isGrant_15 : decode cX4_isGrant 15 = .ok (.iconst 0, 1) := by decide +kernel
theorem dX4_isGrant_16 : decode cX4_isGrant 16 = .ok (.ireturn, 1) := by decide +kernel
set_option maxRecDepth 20000 in
theorem ggX4_isCost_X4_isDenominator : GoodIn wsX4_isCost wsX4_isDenominator := goodIn_r _ [4] (by decide +kernel) (by decide +kernel)
set_option maxRecDepth 20000 in
theorem gX4_isCost_X4_isDenominator : GoodIn wsX4_isCost (va_wsS RX4 124 yX4_isDenominator wsX4_isDenominator) := goodIn_app (goodIn_of _ (by decide +kernel)) ggX4_isCost_X4_isDenominator
theorem dX4_isCost_0 : decode cX4_isCost 0 = .ok (.iload_n 0, 1) := by decide +kernel
theorem dX4_isCost_1 : decode cX4_isCost 1 = .ok (.ifCond .lt 21, 3) := by decide +kernel
theorem dX4_isCost_4 : decode cX4_isCost 4 = .ok (.iload_n 0, 1) := by decide +kernel
theorem dX4_isCost_5 : decode cX4_isCost 5 = .ok (.sipush 3000, 3) := by decide +kernel
theorem dX4_isCost_8 : decode cX4_isCost 8 = .ok (.if_icmp .gt 14, 3) := by decide +kernel
theorem dX4_isCost_11 : decode cX4_isCost 11 = .ok (.iload_n 1, 1) := by decide +kernel
theorem dX4_isCost_12 : decode cX4_isCost 12 = .ok (.invokestatic 124, 3) := by decide +kernel
theorem dX4_isCost_15 : decode cX4_isCost 15 = .ok (.ifCond .eq 7, 3) := by decide +kernel
theorem dX4_isCost_18 : decode cX4_isCost 18 = .ok (.iconst 1, 1) := by decide +kernel
theorem dX4_isCost_19 : decode cX4_isCost 19 = .ok (.goto 4, 3) := by decide +kernel
theorem dX4_isCost_22 : decode cX4_isCost 22 = .ok (.iconst 0, 1) := by decide +kernel
theorem dX4_isCost_23 : decode cX4_isCost 23 = .ok (.ireturn, 1) := by decide +kernel
