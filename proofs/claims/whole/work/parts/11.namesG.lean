theorem dX5_allOf_0 : decode cX5_allOf 0 = .ok (.aload_n 0, 1) := by decide +kernel
theorem dX5_allOf_1 : decode cX5_allOf 1 = .ok (.getfield 13, 3) := by decide +kernel
theorem dX5_allOf_4 : decode cX5_allOf 4 = .ok (.aload_n 0, 1) := by decide +kernel
theorem dX5_allOf_5 : decode cX5_allOf 5 = .ok (.getfield 17, 3) := by decide +kernel
theorem dX5_allOf_8 : decode cX5_allOf 8 = .ok (.iadd, 1) := by decide +kernel
theorem dX5_allOf_9 : decode cX5_allOf 9 = .ok (.i2l, 1) := by decide +kernel
theorem dX5_allOf_10 : decode cX5_allOf 10 = .ok (.aload_n 0, 1) := by decide +kernel
theorem dX5_allOf_11 : decode cX5_allOf 11 = .ok (.getfield 17, 3) := by decide +kernel
theorem dX5_allOf_14 : decode cX5_allOf 14 = .ok (.i2l, 1) := by decide +kernel
theorem dX5_allOf_15 : decode cX5_allOf 15 = .ok (.aload_n 0, 1) := by decide +kernel
theorem dX5_allOf_16 : decode cX5_allOf 16 = .ok (.getfield 20, 3) := by decide +kernel
theorem dX5_allOf_19 : decode cX5_allOf 19 = .ok (.aload_n 0, 1) := by decide +kernel
theorem dX5_allOf_20 : decode cX5_allOf 20 = .ok (.getfield 104, 3) := by decide +kernel
theorem dX5_allOf_23 : decode cX5_allOf 23 = .ok (.isub, 1) := by decide +kernel
theorem dX5_allOf_24 : decode cX5_allOf 24 = .ok (.invokestatic 107, 3) := by decide +kernel
theorem dX5_allOf_27 : decode cX5_allOf 27 = .ok (.lmul, 1) := by decide +kernel
theorem dX5_allOf_28 : decode cX5_allOf 28 = .ok (.lreturn, 1) := by decide +kernel
set_option maxRecDepth 20000 in
theorem ggX5_table_X5_allOf : GoodIn wsX5_table wsX5_allOf := goodIn_r _ [10, 2, 3, 5, 4, 11, 12, 9, 13, 14, 15, 16, 17, 18, 19, 20, 21, 22, 23, 24, 25, 26, 27, 28, 29] (by decide +kernel) (by decide +kernel)
set_option maxRecDepth 20000 in
theorem gX5_table_X5_allOf : GoodIn wsX5_table (wsV RX5 111 RX5 yX5_allOf wsX5_allOf) := goodIn_app (goodIn_of _ (by decide +kernel)) ggX5_table_X5_allOf
theorem dX5_table_0 : decode cX5_table 0 = .ok (.iload_n 1, 1) := by decide +kernel
theorem dX5_table_1 : decode cX5_table 1 = .ok (.iconst 1, 1) := by decide +kernel
theorem dX5_table_2 : decode cX5_table 2 = .ok (.if_icmp .lt 48, 3) := by decide +kernel
theorem dX5_table_5 : decode cX5_table 5 = .ok (.iload_n 1, 1) := by decide +kernel
theorem dX5_table_6 : decode cX5_table 6 = .ok (.iload_n 2, 1) := by decide +kernel
theorem dX5_table_7 : decode cX5_table 7 = .ok (.if_icmp .ge 43, 3) := by decide +kernel
theorem dX5_table_10 : decode cX5_table 10 = .ok (.iload_n 2, 1) := by decide +kernel
theorem dX5_table_11 : decode cX5_table 11 = .ok (.bipush 10, 2) := by decide +kernel
theorem dX5_table_13 : decode cX5_table 13 = .ok (.if_icmp .gt 37, 3) := by decide +kernel
theorem dX5_table_16 : decode cX5_table 16 = .ok (.iload_n 3, 1) := by decide +kernel
theorem dX5_table_17 : decode cX5_table 17 = .ok (.sipush (-1000), 3) := by decide +kernel
theorem dX5_table_20 : decode cX5_table 20 = .ok (.if_icmp .lt 30, 3) := by decide +kernel
theorem dX5_table_23 : decode cX5_table 23 = .ok (.iload 4, 2) := by decide +kernel
theorem dX5_table_25 : decode cX5_table 25 = .ok (.sipush 1000, 3) := by decide +kernel
theorem dX5_table_28 : decode cX5_table 28 = .ok (.if_icmp .gt 22, 3) := by decide +kernel
theorem dX5_table_31 : decode cX5_table 31 = .ok (.iload_n 3, 1) := by decide +kernel
theorem dX5_table_32 : decode cX5_table 32 = .ok (.iload 4, 2) := by decide +kernel
theorem dX5_table_34 : decode cX5_table 34 = .ok (.if_icmp .gt 16, 3) := by decide +kernel
theorem dX5_table_37 : decode cX5_table 37 = .ok (.iload 4, 2) := by decide +kernel
theorem dX5_table_39 : decode cX5_table 39 = .ok (.iload_n 3, 1) := by decide +kernel
theorem dX5_table_40 : decode cX5_table 40 = .ok (.isub, 1) := by decide +kernel
theorem dX5_table_41 : decode cX5_table 41 = .ok (.bipush 14, 2) := by decide +kernel
theorem dX5_table_43 : decode cX5_table 43 = .ok (.if_icmp .gt 7, 3) := by decide +kernel
theorem dX5_table_46 : decode cX5_table 46 = .ok (.iconst 1, 1) := by decide +kernel
theorem dX5_table_47 : decode cX5_table 47 = .ok (.goto 4, 3) := by decide +kernel
theorem dX5_table_50 : decode cX5_table 50 = .ok (.iconst 0, 1) := by decide +kernel
theorem dX5_table_51 : decode cX5_table 51 = .ok (.istore 5, 2) := by decide +kernel
theorem dX5_table_53 : decode cX5_table 53 = .ok (.aload_n 0, 1) := by decide +kernel
theorem dX5_table_54 : decode cX5_table 54 = .ok (.iload 5, 2) := by decide +kernel
theorem dX5_table_56 : decode cX5_table 56 = .ok (.ifCond .eq 7, 3) := by decide +kernel
theorem dX5_table_59 : decode cX5_table 59 = .ok (.iconst 0, 1) := by decide +kernel
theorem dX5_table_60 : decode cX5_table 60 = .ok (.goto 4, 3) := by decide +kernel
theorem dX5_table_63 : decode cX5_table 63 = .ok (.iconst 1, 1) := by decide +kernel
theorem dX5_table_64 : decode cX5_table 64 = .ok (.putfield 46, 3) := by decide +kernel
theorem dX5_table_67 : decode cX5_table 67 = .ok (.iload 5, 2) := by decide +kernel
theorem dX5_table_69 : decode cX5_table 69 = .ok (.ifCond .ne 5, 3) := by decide +kernel
theorem dX5_table_72 : decode cX5_table 72 = .ok (.lconst 0, 1) := by decide +kernel
theorem dX5_table_73 : decode cX5_table 73 = .ok (.lreturn, 1) := by decide +kernel
theorem dX5_table_74 : decode cX5_table 74 = .ok (.aload_n 0, 1) := by decide +kernel
theorem dX5_table_75 : decode cX5_table 75 = .ok (.iload_n 1, 1) := by decide +kernel
theorem dX5_table_76 : decode cX5_table 76 = .ok (.putfield 13, 3) := by decide +kernel
theorem dX5_table_79 : decode cX5_table 79 = .ok (.aload_n 0, 1) := by decide +kernel
theorem dX5_table_80 : decode cX5_table 80 = .ok (.iload_n 2, 1) := by decide +kernel
theorem dX5_table_81 : decode cX5_table 81 = .ok (.putfield 17, 3) := by decide +kernel
theorem dX5_table_84 : decode cX5_table 84 = .ok (.aload_n 0, 1) := by decide +kernel
theorem dX5_table_85 : decode cX5_table 85 = .ok (.iload_n 3, 1) := by decide +kernel
theorem dX5_table_86 : decode cX5_table 86 = .ok (.putfield 104, 3) := by decide +kernel
theorem dX5_table_89 : decode cX5_table 89 = .ok (.aload_n 0, 1) := by decide +kernel
theorem dX5_table_90 : decode cX5_table 90 = .ok (.iload 4, 2) := by decide +kernel
theorem dX5_table_92 : decode cX5_table 92 = .ok (.putfield 20, 3) := by decide +kernel
theorem dX5_table_95 : decode cX5_table 95 = .ok (.aload_n 0, 1) := by decide +kernel
theorem dX5_table_96 : decode cX5_table 96 = .ok (.invokevirtual 111, 3) := by decide +kernel
theorem dX5_table_99 : decode cX5_table 99 = .ok (.lreturn, 1) := by decide +kernel
set_option maxRecDepth 20000 in
theorem ggX5_all_X5_allOf : GoodIn wsX5_all wsX5_allOf := goodIn_r _ [6, 7, 8, 9, 10, 11, 12, 5, 13, 14, 15, 16, 17, 18, 19, 20, 21, 22, 23, 24, 25, 26, 27, 28, 29] (by decide +kernel) (by decide +kernel)
set_option maxRecDepth 20000 in
theorem gX5_all_X5_allOf : GoodIn wsX5_all (wsV RX5 111 RX5 yX5_allOf wsX5_allOf) := goodIn_app (goodIn_of _ (by decide +kernel)) ggX5_all_X5_allOf
theorem dX5_all_0 : decode cX5_all 0 = .ok (.aload_n 0, 1) := by decide +kernel
theorem dX5_all_1 : decode cX5_all 1 = .ok (.iconst 0, 1) := by decide +kernel
theorem dX5_all_2 : decode cX5_all 2 = .ok (.putfield 46, 3) := by decide +kernel
theorem dX5_all_5 : decode cX5_all 5 = .ok (.aload_n 0, 1) := by decide +kernel
theorem dX5_all_6 : decode cX5_all 6 = .ok (.invokevirtual 111, 3) := by decide +kernel
theorem dX5_all_9 : decode cX5_all 9 = .ok (.lreturn, 1) := by decide +kernel
theorem dX5_isOut_0 : decode cX5_isOut 0 = .ok (.iload_n 1, 1) := by decide +kernel
theorem dX5_isOut_1 : decode cX5_isOut 1 = .ok (.aload_n 0, 1) := by decide +kernel
theorem dX5_isOut_2 : decode cX5_isOut 2 = .ok (.getfield 104, 3) := by decide +kernel
theorem dX5_isOut_5 : decode cX5_isOut 5 = .ok (.if_icmp .lt 11, 3) := by decide +kernel
theorem dX5_isOut_8 : decode cX5_isOut 8 = .ok (.iload_n 1, 1) := by decide +kernel
theorem dX5_isOut_9 : decode cX5_isOut 9 = .ok (.aload_n 0, 1) := by decide +kernel
theorem dX5_isOut_10 : decode cX5_isOut 10 = .ok (.getfield 20, 3) := by decide +kernel
theorem dX5_isOut_13 : decode cX5_isOut 13 = .ok (.if_icmp .le 7, 3) := by decide +kernel
theorem dX5_isOut_16 : decode cX5_isOut 16 = .ok (.iconst 1, 1) := by decide +kernel
theorem dX5_isOut_17 : decode cX5_isOut 17 = .ok (.goto 4, 3) := by decide +kernel
theorem dX5_isOut_20 : decode cX5_isOut 20 = .ok (.iconst 0, 1) := by decide +kernel
theorem dX5_isOut_21 : decode cX5_isOut 21 = .ok (.ireturn, 1) := by decide +kernel
set_option maxRecDepth 20000 in
theorem ggX5_weightOf_X5_isOut : GoodIn wsX5_weightOf wsX5_isOut := goodIn_r _ [9, 1, 2, 17, 18, 19, 20, 21, 22, 23, 24, 25, 26, 27, 28, 29, 30, 31, 32] (by decide +kernel) (by decide +kernel)
set_option maxRecDepth 20000 in
theorem gX5_weightOf_X5_isOut : GoodIn wsX5_weightOf (wsV RX5 115 RX5 yX5_isOut wsX5_isOut) := goodIn_app (goodIn_of _ (by decide +kernel)) ggX5_weightOf_X5_isOut
set_option maxRecDepth 20000 in
theorem ggX5_weightOf_X5_allOf : GoodIn wsX5_weightOf wsX5_allOf := goodIn_r _ [13, 4, 3, 2, 1, 14, 15, 8, 16, 17, 18, 19, 20, 21, 22, 23, 24, 25, 26, 27, 28, 29, 30, 31, 32] (by decide +kernel) (by decide +kernel)
set_option maxRecDepth 20000 in
theorem gX5_weightOf_X5_allOf : GoodIn wsX5_weightOf (wsV RX5 111 RX5 yX5_allOf wsX5_allOf) := goodIn_app (goodIn_of _ (by decide +kernel)) ggX5_weightOf_X5_allOf
set_option maxRecDepth 20000 in
theorem ggX5_weightOf_X5_power : GoodIn wsX5_weightOf wsX5_power := goodIn_r _ [16] (by decide +kernel) (by decide +kernel)
set_option maxRecDepth 20000 in
theorem gX5_weightOf_X5_power : GoodIn wsX5_weightOf (va_wsS RX5 107 yX5_power wsX5_power) := goodIn_app (goodIn_of _ (by decide +kernel)) ggX5_weightOf_X5_power
theorem dX5_weightOf_0 : decode cX5_weightOf 0 = .ok (.aload_n 0, 1) := by decide +kernel
theorem dX5_weightOf_1 : decode cX5_weightOf 1 = .ok (.iload_n 1, 1) := by decide +kernel
theorem dX5_weightOf_2 : decode cX5_weightOf 2 = .ok (.invokevirtual 115, 3) := by decide +kernel
theorem dX5_weightOf_5 : decode cX5_weightOf 5 = .ok (.ifCond .ne 11, 3) := by decide +kernel
theorem dX5_weightOf_8 : decode cX5_weightOf 8 = .ok (.aload_n 0, 1) := by decide +kernel
theorem dX5_weightOf_9 : decode cX5_weightOf 9 = .ok (.iload_n 2, 1) := by decide +kernel
theorem dX5_weightOf_10 : decode cX5_weightOf 10 = .ok (.invokevirtual 115, 3) := by decide +kernel
theorem dX5_weightOf_13 : decode cX5_weightOf 13 = .ok (.ifCond .eq 5, 3) := by decide +kernel
theorem dX5_weightOf_16 : decode cX5_weightOf 16 = .ok (.lconst 0, 1) := by decide +kernel
theorem dX5_weightOf_17 : decode cX5_weightOf 17 = .ok (.lreturn, 1) := by decide +kernel
theorem dX5_weightOf_18 : decode cX5_weightOf 18 = .ok (.aload_n 0, 1) := by decide +kernel
theorem dX5_weightOf_19 : decode cX5_weightOf 19 = .ok (.getfield 104, 3) := by decide +kernel
theorem dX5_weightOf_22 : decode cX5_weightOf 22 = .ok (.aload_n 0, 1) := by decide +kernel
theorem dX5_weightOf_23 : decode cX5_weightOf 23 = .ok (.getfield 20, 3) := by decide +kernel
theorem dX5_weightOf_26 : decode cX5_weightOf 26 = .ok (.if_icmp .ne 8, 3) := by decide +kernel
theorem dX5_weightOf_29 : decode cX5_weightOf 29 = .ok (.aload_n 0, 1) := by decide +kernel
theorem dX5_weightOf_30 : decode cX5_weightOf 30 = .ok (.invokevirtual 111, 3) := by decide +kernel
theorem dX5_weightOf_33 : decode cX5_weightOf 33 = .ok (.lreturn, 1) := by decide +kernel
theorem dX5_weightOf_34 : decode cX5_weightOf 34 = .ok (.aload_n 0, 1) := by decide +kernel
theorem dX5_weightOf_35 : decode cX5_weightOf 35 = .ok (.getfield 20, 3) := by decide +kernel
theorem dX5_weightOf_38 : decode cX5_weightOf 38 = .ok (.aload_n 0, 1) := by decide +kernel
theorem dX5_weightOf_39 : decode cX5_weightOf 39 = .ok (.getfield 104, 3) := by decide +kernel
theorem dX5_weightOf_42 : decode cX5_weightOf 42 = .ok (.isub, 1) := by decide +kernel
theorem dX5_weightOf_43 : decode cX5_weightOf 43 = .ok (.istore_n 3, 1) := by decide +kernel
theorem dX5_weightOf_44 : decode cX5_weightOf 44 = .ok (.iload_n 1, 1) := by decide +kernel
theorem dX5_weightOf_45 : decode cX5_weightOf 45 = .ok (.iload_n 2, 1) := by decide +kernel
theorem dX5_weightOf_46 : decode cX5_weightOf 46 = .ok (.if_icmp .ge 9, 3) := by decide +kernel
theorem dX5_weightOf_49 : decode cX5_weightOf 49 = .ok (.iload_n 2, 1) := by decide +kernel
theorem dX5_weightOf_50 : decode cX5_weightOf 50 = .ok (.iload_n 1, 1) := by decide +kernel
theorem dX5_weightOf_51 : decode cX5_weightOf 51 = .ok (.isub, 1) := by decide +kernel
theorem dX5_weightOf_52 : decode cX5_weightOf 52 = .ok (.goto 6, 3) := by decide +kernel
theorem dX5_weightOf_55 : decode cX5_weightOf 55 = .ok (.iload_n 1, 1) := by decide +kernel
theorem dX5_weightOf_56 : decode cX5_weightOf 56 = .ok (.iload_n 2, 1) := by decide +kernel
theorem dX5_weightOf_57 : decode cX5_weightOf 57 = .ok (.isub, 1) := by decide +kernel
theorem dX5_weightOf_58 : decode cX5_weightOf 58 = .ok (.istore 4, 2) := by decide +kernel
theorem dX5_weightOf_60 : decode cX5_weightOf 60 = .ok (.iload_n 2, 1) := by decide +kernel
theorem dX5_weightOf_61 : decode cX5_weightOf 61 = .ok (.aload_n 0, 1) := by decide +kernel
theorem dX5_weightOf_62 : decode cX5_weightOf 62 = .ok (.getfield 104, 3) := by decide +kernel
theorem dX5_weightOf_65 : decode cX5_weightOf 65 = .ok (.if_icmp .eq 11, 3) := by decide +kernel
theorem dX5_weightOf_68 : decode cX5_weightOf 68 = .ok (.iload_n 2, 1) := by decide +kernel
theorem dX5_weightOf_69 : decode cX5_weightOf 69 = .ok (.aload_n 0, 1) := by decide +kernel
theorem dX5_weightOf_70 : decode cX5_weightOf 70 = .ok (.getfield 20, 3) := by decide +kernel
theorem dX5_weightOf_73 : decode cX5_weightOf 73 = .ok (.if_icmp .ne 7, 3) := by decide +kernel
theorem dX5_weightOf_76 : decode cX5_weightOf 76 = .ok (.iconst 1, 1) := by decide +kernel
theorem dX5_weightOf_77 : decode cX5_weightOf 77 = .ok (.goto 4, 3) := by decide +kernel
theorem dX5_weightOf_80 : decode cX5_weightOf 80 = .ok (.iconst 0, 1) := by decide +kernel
theorem dX5_weightOf_81 : decode cX5_weightOf 81 = .ok (.istore 5, 2) := by decide +kernel
theorem dX5_weightOf_83 : decode cX5_weightOf 83 = .ok (.iload 5, 2) := by decide +kernel
theorem dX5_weightOf_85 : decode cX5_weightOf 85 = .ok (.ifCond .eq 31, 3) := by decide +kernel
theorem dX5_weightOf_88 : decode cX5_weightOf 88 = .ok (.aload_n 0, 1) := by decide +kernel
theorem dX5_weightOf_89 : decode cX5_weightOf 89 = .ok (.getfield 17, 3) := by decide +kernel
theorem dX5_weightOf_92 : decode cX5_weightOf 92 = .ok (.i2l, 1) := by decide +kernel
theorem dX5_weightOf_93 : decode cX5_weightOf 93 = .ok (.iload_n 3, 1) := by decide +kernel
theorem dX5_weightOf_94 : decode cX5_weightOf 94 = .ok (.iconst 1, 1) := by decide +kernel
theorem dX5_weightOf_95 : decode cX5_weightOf 95 = .ok (.iadd, 1) := by decide +kernel
theorem dX5_weightOf_96 : decode cX5_weightOf 96 = .ok (.iload 4, 2) := by decide +kernel
theorem dX5_weightOf_98 : decode cX5_weightOf 98 = .ok (.isub, 1) := by decide +kernel
theorem dX5_weightOf_99 : decode cX5_weightOf 99 = .ok (.invokestatic 107, 3) := by decide +kernel
theorem dX5_weightOf_102 : decode cX5_weightOf 102 = .ok (.aload_n 0, 1) := by decide +kernel
theorem dX5_weightOf_103 : decode cX5_weightOf 103 = .ok (.getfield 13, 3) := by decide +kernel
theorem dX5_weightOf_106 : decode cX5_weightOf 106 = .ok (.i2l, 1) := by decide +kernel
theorem dX5_weightOf_107 : decode cX5_weightOf 107 = .ok (.iload 4, 2) := by decide +kernel
theorem dX5_weightOf_109 : decode cX5_weightOf 109 = .ok (.invokestatic 107, 3) := by decide +kernel
theorem dX5_weightOf_112 : decode cX5_weightOf 112 = .ok (.lmul, 1) := by decide +kernel
theorem dX5_weightOf_113 : decode cX5_weightOf 113 = .ok (.goto 37, 3) := by decide +kernel
theorem dX5_weightOf_116 : decode cX5_weightOf 116 = .ok (.aload_n 0, 1) := by decide +kernel
theorem dX5_weightOf_117 : decode cX5_weightOf 117 = .ok (.getfield 17, 3) := by decide +kernel
theorem dX5_weightOf_120 : decode cX5_weightOf 120 = .ok (.aload_n 0, 1) := by decide +kernel
theorem dX5_weightOf_121 : decode cX5_weightOf 121 = .ok (.getfield 13, 3) := by decide +kernel
theorem dX5_weightOf_124 : decode cX5_weightOf 124 = .ok (.isub, 1) := by decide +kernel
theorem dX5_weightOf_125 : decode cX5_weightOf 125 = .ok (.i2l, 1) := by decide +kernel
theorem dX5_weightOf_126 : decode cX5_weightOf 126 = .ok (.aload_n 0, 1) := by decide +kernel
theorem dX5_weightOf_127 : decode cX5_weightOf 127 = .ok (.getfield 17, 3) := by decide +kernel
theorem dX5_weightOf_130 : decode cX5_weightOf 130 = .ok (.i2l, 1) := by decide +kernel
theorem dX5_weightOf_131 : decode cX5_weightOf 131 = .ok (.iload_n 3, 1) := by decide +kernel
theorem dX5_weightOf_132 : decode cX5_weightOf 132 = .ok (.iload 4, 2) := by decide +kernel
theorem dX5_weightOf_134 : decode cX5_weightOf 134 = .ok (.isub, 1) := by decide +kernel
theorem dX5_weightOf_135 : decode cX5_weightOf 135 = .ok (.invokestatic 107, 3) := by decide +kernel
theorem dX5_weightOf_138 : decode cX5_weightOf 138 = .ok (.lmul, 1) := by decide +kernel
theorem dX5_weightOf_139 : decode cX5_weightOf 139 = .ok (.aload_n 0, 1) := by decide +kernel
theorem dX5_weightOf_140 : decode cX5_weightOf 140 = .ok (.getfield 13, 3) := by decide +kernel
theorem dX5_weightOf_143 : decode cX5_weightOf 143 = .ok (.i2l, 1) := by decide +kernel
theorem dX5_weightOf_144 : decode cX5_weightOf 144 = .ok (.iload 4, 2) := by decide +kernel
theorem dX5_weightOf_146 : decode cX5_weightOf 146 = .ok (.invokestatic 107, 3) := by decide +kernel
theorem dX5_weightOf_149 : decode cX5_weightOf 149 = .ok (.lmul, 1) := by decide +kernel
theorem dX5_weightOf_150 : decode cX5_weightOf 150 = .ok (.lreturn, 1) := by decide +kernel
set_option maxRecDepth 20000 in
theorem ggX5_weight_X5_weightOf : GoodIn wsX5_weight wsX5_weightOf := goodIn_r _ [6, 7, 8, 9, 10, 11, 12, 13, 5, 14, 15, 16, 17, 18, 19, 20, 21, 22, 23, 24, 25, 26, 27, 28, 29, 30, 31, 32, 33, 34, 35, 36, 37] (by decide +kernel) (by decide +kernel)
set_option maxRecDepth 20000 in
theorem gX5_weight_X5_weightOf : GoodIn wsX5_weight (wsV RX5 119 RX5 yX5_weightOf wsX5_weightOf) := goodIn_app (goodIn_of _ (by decide +kernel)) ggX5_weight_X5_weightOf
theorem dX5_weight_0 : decode cX5_weight 0 = .ok (.aload_n 0, 1) := by decide +kernel
theorem dX5_weight_1 : decode cX5_weight 1 = .ok (.iconst 0, 1) := by decide +kernel
theorem dX5_weight_2 : decode cX5_weight 2 = .ok (.putfield 46, 3) := by decide +kernel
theorem dX5_weight_5 : decode cX5_weight 5 = .ok (.aload_n 0, 1) := by decide +kernel
theorem dX5_weight_6 : decode cX5_weight 6 = .ok (.iload_n 1, 1) := by decide +kernel
theorem dX5_weight_7 : decode cX5_weight 7 = .ok (.iload_n 2, 1) := by decide +kernel
theorem dX5_weight_8 : decode cX5_weight 8 = .ok (.invokevirtual 119, 3) := by decide +kernel
theorem dX5_weight_11 : decode cX5_weight 11 = .ok (.lreturn, 1) := by decide +kernel
set_option maxRecDepth 20000 in
theorem ggX5_upTo_X5_weightOf : GoodIn wsX5_upTo wsX5_weightOf := goodIn_r _ [8, 2, 3, 9, 10, 11, 12, 13, 7, 14, 15, 16, 17, 18, 19, 20, 21, 22, 23, 24, 25, 26, 27, 28, 29, 30, 31, 32, 33, 34, 35, 36, 37] (by decide +kernel) (by decide +kernel)
set_option maxRecDepth 20000 in
theorem gX5_upTo_X5_weightOf : GoodIn wsX5_upTo (wsV RX5 119 RX5 yX5_weightOf wsX5_weightOf) := goodIn_app (goodIn_of _ (by decide +kernel)) ggX5_upTo_X5_weightOf
theorem dX5_upTo_0 : decode cX5_upTo 0 = .ok (.aload_n 0, 1) := by decide +kernel
theorem dX5_upTo_1 : decode cX5_upTo 1 = .ok (.iconst 0, 1) := by decide +kernel
theorem dX5_upTo_2 : decode cX5_upTo 2 = .ok (.putfield 46, 3) := by decide +kernel
theorem dX5_upTo_5 : decode cX5_upTo 5 = .ok (.lconst 0, 1) := by decide +kernel
theorem dX5_upTo_6 : decode cX5_upTo 6 = .ok (.lstore_n 3, 1) := by decide +kernel
theorem dX5_upTo_7 : decode cX5_upTo 7 = .ok (.aload_n 0, 1) := by decide +kernel
theorem dX5_upTo_8 : decode cX5_upTo 8 = .ok (.getfield 104, 3) := by decide +kernel
theorem dX5_upTo_11 : decode cX5_upTo 11 = .ok (.istore 5, 2) := by decide +kernel
theorem dX5_upTo_13 : decode cX5_upTo 13 = .ok (.iload 5, 2) := by decide +kernel
theorem dX5_upTo_15 : decode cX5_upTo 15 = .ok (.aload_n 0, 1) := by decide +kernel
theorem dX5_upTo_16 : decode cX5_upTo 16 = .ok (.getfield 20, 3) := by decide +kernel
theorem dX5_upTo_19 : decode cX5_upTo 19 = .ok (.if_icmp .gt 25, 3) := by decide +kernel
theorem dX5_upTo_22 : decode cX5_upTo 22 = .ok (.iload 5, 2) := by decide +kernel
theorem dX5_upTo_24 : decode cX5_upTo 24 = .ok (.iload_n 2, 1) := by decide +kernel
theorem dX5_upTo_25 : decode cX5_upTo 25 = .ok (.if_icmp .gt 19, 3) := by decide +kernel
theorem dX5_upTo_28 : decode cX5_upTo 28 = .ok (.lload_n 3, 1) := by decide +kernel
theorem dX5_upTo_29 : decode cX5_upTo 29 = .ok (.aload_n 0, 1) := by decide +kernel
theorem dX5_upTo_30 : decode cX5_upTo 30 = .ok (.iload_n 1, 1) := by decide +kernel
theorem dX5_upTo_31 : decode cX5_upTo 31 = .ok (.iload 5, 2) := by decide +kernel
theorem dX5_upTo_33 : decode cX5_upTo 33 = .ok (.invokevirtual 119, 3) := by decide +kernel
theorem dX5_upTo_36 : decode cX5_upTo 36 = .ok (.ladd, 1) := by decide +kernel
theorem dX5_upTo_37 : decode cX5_upTo 37 = .ok (.lstore_n 3, 1) := by decide +kernel
theorem dX5_upTo_38 : decode cX5_upTo 38 = .ok (.iinc 5 1, 3) := by decide +kernel
theorem dX5_upTo_41 : decode cX5_upTo 41 = .ok (.goto (-28), 3) := by decide +kernel
theorem dX5_upTo_44 : decode cX5_upTo 44 = .ok (.lload_n 3, 1) := by decide +kernel
theorem dX5_upTo_45 : decode cX5_upTo 45 = .ok (.lreturn, 1) := by decide +kernel
set_option maxRecDepth 20000 in
theorem ggX5_drawn_X5_weightOf : GoodIn wsX5_drawn wsX5_weightOf := goodIn_r _ [6, 1, 7, 8, 9, 10, 11, 12, 5, 13, 14, 15, 16, 17, 18, 19, 20, 21, 22, 23, 24, 25, 26, 27, 28, 29, 30, 31, 32, 33, 34, 35, 36] (by decide +kernel) (by decide +kernel)
set_option maxRecDepth 20000 in
theorem gX5_drawn_X5_weightOf : GoodIn wsX5_drawn (wsV RX5 119 RX5 yX5_weightOf wsX5_weightOf) := goodIn_app (goodIn_of _ (by decide +kernel)) ggX5_drawn_X5_weightOf
theorem dX5_drawn_0 : decode cX5_drawn 0 = .ok (.aload_n 0, 1) := by decide +kernel
theorem dX5_drawn_1 : decode cX5_drawn 1 = .ok (.getfield 104, 3) := by decide +kernel
theorem dX5_drawn_4 : decode cX5_drawn 4 = .ok (.istore 4, 2) := by decide +kernel
theorem dX5_drawn_6 : decode cX5_drawn 6 = .ok (.aload_n 0, 1) := by decide +kernel
theorem dX5_drawn_7 : decode cX5_drawn 7 = .ok (.iload_n 1, 1) := by decide +kernel
theorem dX5_drawn_8 : decode cX5_drawn 8 = .ok (.iload 4, 2) := by decide +kernel
theorem dX5_drawn_10 : decode cX5_drawn 10 = .ok (.invokevirtual 119, 3) := by decide +kernel
theorem dX5_drawn_13 : decode cX5_drawn 13 = .ok (.lstore 5, 2) := by decide +kernel
theorem dX5_drawn_15 : decode cX5_drawn 15 = .ok (.lload 5, 2) := by decide +kernel
theorem dX5_drawn_17 : decode cX5_drawn 17 = .ok (.lload_n 2, 1) := by decide +kernel
theorem dX5_drawn_18 : decode cX5_drawn 18 = .ok (.lcmp, 1) := by decide +kernel
theorem dX5_drawn_19 : decode cX5_drawn 19 = .ok (.ifCond .gt 21, 3) := by decide +kernel
theorem dX5_drawn_22 : decode cX5_drawn 22 = .ok (.iinc 4 1, 3) := by decide +kernel
theorem dX5_drawn_25 : decode cX5_drawn 25 = .ok (.lload 5, 2) := by decide +kernel
theorem dX5_drawn_27 : decode cX5_drawn 27 = .ok (.aload_n 0, 1) := by decide +kernel
theorem dX5_drawn_28 : decode cX5_drawn 28 = .ok (.iload_n 1, 1) := by decide +kernel
theorem dX5_drawn_29 : decode cX5_drawn 29 = .ok (.iload 4, 2) := by decide +kernel
theorem dX5_drawn_31 : decode cX5_drawn 31 = .ok (.invokevirtual 119, 3) := by decide +kernel
theorem dX5_drawn_34 : decode cX5_drawn 34 = .ok (.ladd, 1) := by decide +kernel
theorem dX5_drawn_35 : decode cX5_drawn 35 = .ok (.lstore 5, 2) := by decide +kernel
theorem dX5_drawn_37 : decode cX5_drawn 37 = .ok (.goto (-22), 3) := by decide +kernel
theorem dX5_drawn_40 : decode cX5_drawn 40 = .ok (.iload 4, 2) := by decide +kernel
theorem dX5_drawn_42 : decode cX5_drawn 42 = .ok (.ireturn, 1) := by decide +kernel
set_option maxRecDepth 20000 in
theorem ggX5_noCoin_X5_allOf : GoodIn wsX5_noCoin wsX5_allOf := goodIn_r _ [5, 6, 7, 8, 9, 10, 11, 4, 12, 13, 14, 15, 16, 17, 18, 19, 20, 21, 22, 23, 24, 25, 26, 27, 28] (by decide +kernel) (by decide +kernel)
set_option maxRecDepth 20000 in
theorem gX5_noCoin_X5_allOf : GoodIn wsX5_noCoin (wsV RX5 111 RX5 yX5_allOf wsX5_allOf) := goodIn_app (goodIn_of _ (by decide +kernel)) ggX5_noCoin_X5_allOf
theorem dX5_noCoin_0 : decode cX5_noCoin 0 = .ok (.lload_n 1, 1) := by decide +kernel
theorem dX5_noCoin_1 : decode cX5_noCoin 1 = .ok (.lconst 0, 1) := by decide +kernel
theorem dX5_noCoin_2 : decode cX5_noCoin 2 = .ok (.lcmp, 1) := by decide +kernel
theorem dX5_noCoin_3 : decode cX5_noCoin 3 = .ok (.ifCond .lt 12, 3) := by decide +kernel
theorem dX5_noCoin_6 : decode cX5_noCoin 6 = .ok (.lload_n 1, 1) := by decide +kernel
theorem dX5_noCoin_7 : decode cX5_noCoin 7 = .ok (.aload_n 0, 1) := by decide +kernel
theorem dX5_noCoin_8 : decode cX5_noCoin 8 = .ok (.invokevirtual 111, 3) := by decide +kernel
theorem dX5_noCoin_11 : decode cX5_noCoin 11 = .ok (.lcmp, 1) := by decide +kernel
theorem dX5_noCoin_12 : decode cX5_noCoin 12 = .ok (.ifCond .lt 7, 3) := by decide +kernel
theorem dX5_noCoin_15 : decode cX5_noCoin 15 = .ok (.iconst 1, 1) := by decide +kernel
theorem dX5_noCoin_16 : decode cX5_noCoin 16 = .ok (.goto 4, 3) := by decide +kernel
theorem dX5_noCoin_19 : decode cX5_noCoin 19 = .ok (.iconst 0, 1) := by decide +kernel
theorem dX5_noCoin_20 : decode cX5_noCoin 20 = .ok (.ireturn, 1) := by decide +kernel
set_option maxRecDepth 20000 in
theorem ggX5_draw_X5_isOut : GoodIn wsX5_draw wsX5_isOut := goodIn_r _ [6, 7, 8, 30, 31, 32, 33, 34, 35, 36, 37, 38, 39, 40, 41, 42, 43, 44, 45] (by decide +kernel) (by decide +kernel)
set_option maxRecDepth 20000 in
theorem gX5_draw_X5_isOut : GoodIn wsX5_draw (wsV RX5 115 RX5 yX5_isOut wsX5_isOut) := goodIn_app (goodIn_of _ (by decide +kernel)) ggX5_draw_X5_isOut
set_option maxRecDepth 20000 in
theorem ggX5_draw_X5_noCoin : GoodIn wsX5_draw wsX5_noCoin := goodIn_r _ [12, 13, 14, 15, 5, 16, 17, 18, 8, 7, 19, 20, 21, 30, 31, 32, 33, 34, 35, 36, 37, 38, 39, 40, 41, 42, 43, 44, 45] (by decide +kernel) (by decide +kernel)
set_option maxRecDepth 20000 in
theorem gX5_draw_X5_noCoin : GoodIn wsX5_draw (wsV RX5 122 RX5 yX5_noCoin wsX5_noCoin) := goodIn_app (goodIn_of _ (by decide +kernel)) ggX5_draw_X5_noCoin
set_option maxRecDepth 20000 in
theorem ggX5_draw_X5_drawn : GoodIn wsX5_draw wsX5_drawn := goodIn_r _ [25, 7, 26, 27, 28, 5, 29, 8, 18, 17, 2, 3, 4, 6, 13, 14, 15, 16, 19, 20, 21, 30, 31, 32, 33, 34, 35, 36, 37, 38, 39, 40, 41, 42, 43, 44, 45] (by decide +kernel) (by decide +kernel)
set_option maxRecDepth 20000 in
theorem gX5_draw_X5_drawn : GoodIn wsX5_draw (wsV RX5 126 RX5 yX5_drawn wsX5_drawn) := goodIn_app (goodIn_of _ (by decide +kernel)) ggX5_draw_X5_drawn
theorem dX5_draw_0 : decode cX5_draw 0 = .ok (.aload_n 0, 1) := by decide +kernel
theorem dX5_draw_1 : decode cX5_draw 1 = .ok (.aload_n 0, 1) := by decide +kernel
theorem dX5_draw_2 : decode cX5_draw 2 = .ok (.iload_n 1, 1) := by decide +kernel
theorem dX5_draw_3 : decode cX5_draw 3 = .ok (.invokevirtual 115, 3) := by decide +kernel
theorem dX5_draw_6 : decode cX5_draw 6 = .ok (.ifCond .ne 11, 3) := by decide +kernel
theorem dX5_draw_9 : decode cX5_draw 9 = .ok (.aload_n 0, 1) := by decide +kernel
theorem dX5_draw_10 : decode cX5_draw 10 = .ok (.lload_n 2, 1) := by decide +kernel
theorem dX5_draw_11 : decode cX5_draw 11 = .ok (.invokevirtual 122, 3) := by decide +kernel
theorem dX5_draw_14 : decode cX5_draw 14 = .ok (.ifCond .eq 7, 3) := by decide +kernel
theorem dX5_draw_17 : decode cX5_draw 17 = .ok (.iconst 1, 1) := by decide +kernel
theorem dX5_draw_18 : decode cX5_draw 18 = .ok (.goto 4, 3) := by decide +kernel
theorem dX5_draw_21 : decode cX5_draw 21 = .ok (.iconst 0, 1) := by decide +kernel
theorem dX5_draw_22 : decode cX5_draw 22 = .ok (.putfield 46, 3) := by decide +kernel
theorem dX5_draw_25 : decode cX5_draw 25 = .ok (.aload_n 0, 1) := by decide +kernel
theorem dX5_draw_26 : decode cX5_draw 26 = .ok (.getfield 46, 3) := by decide +kernel
theorem dX5_draw_29 : decode cX5_draw 29 = .ok (.ifCond .le 7, 3) := by decide +kernel
theorem dX5_draw_32 : decode cX5_draw 32 = .ok (.iconst 0, 1) := by decide +kernel
theorem dX5_draw_33 : decode cX5_draw 33 = .ok (.goto 9, 3) := by decide +kernel
theorem dX5_draw_36 : decode cX5_draw 36 = .ok (.aload_n 0, 1) := by decide +kernel
theorem dX5_draw_37 : decode cX5_draw 37 = .ok (.iload_n 1, 1) := by decide +kernel
theorem dX5_draw_38 : decode cX5_draw 38 = .ok (.lload_n 2, 1) := by decide +kernel
theorem dX5_draw_39 : decode cX5_draw 39 = .ok (.invokevirtual 126, 3) := by decide +kernel
theorem dX5_draw_42 : decode cX5_draw 42 = .ok (.ireturn, 1) := by decide +kernel
set_option maxRecDepth 20000 in
theorem ggX5_isNear_X5_isOut : GoodIn wsX5_isNear wsX5_isOut := goodIn_r _ [10, 2, 3, 22, 23, 24, 25, 26, 27, 28, 29, 30, 31, 32, 33, 34, 35, 36, 37] (by decide +kernel) (by decide +kernel)
set_option maxRecDepth 20000 in
theorem gX5_isNear_X5_isOut : GoodIn wsX5_isNear (wsV RX5 115 RX5 yX5_isOut wsX5_isOut) := goodIn_app (goodIn_of _ (by decide +kernel)) ggX5_isNear_X5_isOut
set_option maxRecDepth 20000 in
theorem ggX5_isNear_X5_weightOf : GoodIn wsX5_isNear wsX5_weightOf := goodIn_r _ [14, 2, 3, 5, 4, 6, 7, 8, 9, 10, 15, 16, 17, 18, 19, 20, 21, 22, 23, 24, 25, 26, 27, 28, 29, 30, 31, 32, 33, 34, 35, 36, 37] (by decide +kernel) (by decide +kernel)
set_option maxRecDepth 20000 in
theorem gX5_isNear_X5_weightOf : GoodIn wsX5_isNear (wsV RX5 119 RX5 yX5_weightOf wsX5_weightOf) := goodIn_app (goodIn_of _ (by decide +kernel)) ggX5_isNear_X5_weightOf
theorem dX5_isNear_0 : decode cX5_isNear 0 = .ok (.aload_n 0, 1) := by decide +kernel
theorem dX5_isNear_1 : decode cX5_isNear 1 = .ok (.aload_n 0, 1) := by decide +kernel
theorem dX5_isNear_2 : decode cX5_isNear 2 = .ok (.iload_n 1, 1) := by decide +kernel
theorem dX5_isNear_3 : decode cX5_isNear 3 = .ok (.invokevirtual 115, 3) := by decide +kernel
theorem dX5_isNear_6 : decode cX5_isNear 6 = .ok (.ifCond .ne 11, 3) := by decide +kernel
theorem dX5_isNear_9 : decode cX5_isNear 9 = .ok (.aload_n 0, 1) := by decide +kernel
theorem dX5_isNear_10 : decode cX5_isNear 10 = .ok (.iload_n 2, 1) := by decide +kernel
theorem dX5_isNear_11 : decode cX5_isNear 11 = .ok (.invokevirtual 115, 3) := by decide +kernel
theorem dX5_isNear_14 : decode cX5_isNear 14 = .ok (.ifCond .eq 7, 3) := by decide +kernel
theorem dX5_isNear_17 : decode cX5_isNear 17 = .ok (.iconst 1, 1) := by decide +kernel
theorem dX5_isNear_18 : decode cX5_isNear 18 = .ok (.goto 4, 3) := by decide +kernel
theorem dX5_isNear_21 : decode cX5_isNear 21 = .ok (.iconst 0, 1) := by decide +kernel
theorem dX5_isNear_22 : decode cX5_isNear 22 = .ok (.putfield 46, 3) := by decide +kernel
theorem dX5_isNear_25 : decode cX5_isNear 25 = .ok (.aload_n 0, 1) := by decide +kernel
theorem dX5_isNear_26 : decode cX5_isNear 26 = .ok (.getfield 46, 3) := by decide +kernel
theorem dX5_isNear_29 : decode cX5_isNear 29 = .ok (.ifCond .ne 7, 3) := by decide +kernel
theorem dX5_isNear_32 : decode cX5_isNear 32 = .ok (.iconst 1, 1) := by decide +kernel
theorem dX5_isNear_33 : decode cX5_isNear 33 = .ok (.goto 4, 3) := by decide +kernel
theorem dX5_isNear_36 : decode cX5_isNear 36 = .ok (.iconst 0, 1) := by decide +kernel
theorem dX5_isNear_37 : decode cX5_isNear 37 = .ok (.istore_n 3, 1) := by decide +kernel
theorem dX5_isNear_38 : decode cX5_isNear 38 = .ok (.aload_n 0, 1) := by decide +kernel
theorem dX5_isNear_39 : decode cX5_isNear 39 = .ok (.getfield 104, 3) := by decide +kernel
theorem dX5_isNear_42 : decode cX5_isNear 42 = .ok (.istore 4, 2) := by decide +kernel
theorem dX5_isNear_44 : decode cX5_isNear 44 = .ok (.iload 4, 2) := by decide +kernel
theorem dX5_isNear_46 : decode cX5_isNear 46 = .ok (.aload_n 0, 1) := by decide +kernel
theorem dX5_isNear_47 : decode cX5_isNear 47 = .ok (.getfield 20, 3) := by decide +kernel
theorem dX5_isNear_50 : decode cX5_isNear 50 = .ok (.if_icmp .gt 49, 3) := by decide +kernel
theorem dX5_isNear_53 : decode cX5_isNear 53 = .ok (.iload_n 3, 1) := by decide +kernel
theorem dX5_isNear_54 : decode cX5_isNear 54 = .ok (.ifCond .eq 45, 3) := by decide +kernel
theorem dX5_isNear_57 : decode cX5_isNear 57 = .ok (.aload_n 0, 1) := by decide +kernel
theorem dX5_isNear_58 : decode cX5_isNear 58 = .ok (.iload_n 1, 1) := by decide +kernel
theorem dX5_isNear_59 : decode cX5_isNear 59 = .ok (.iload 4, 2) := by decide +kernel
theorem dX5_isNear_61 : decode cX5_isNear 61 = .ok (.invokevirtual 119, 3) := by decide +kernel
theorem dX5_isNear_64 : decode cX5_isNear 64 = .ok (.aload_n 0, 1) := by decide +kernel
theorem dX5_isNear_65 : decode cX5_isNear 65 = .ok (.getfield 13, 3) := by decide +kernel
theorem dX5_isNear_68 : decode cX5_isNear 68 = .ok (.i2l, 1) := by decide +kernel
theorem dX5_isNear_69 : decode cX5_isNear 69 = .ok (.lmul, 1) := by decide +kernel
theorem dX5_isNear_70 : decode cX5_isNear 70 = .ok (.aload_n 0, 1) := by decide +kernel
theorem dX5_isNear_71 : decode cX5_isNear 71 = .ok (.iload_n 2, 1) := by decide +kernel
theorem dX5_isNear_72 : decode cX5_isNear 72 = .ok (.iload 4, 2) := by decide +kernel
theorem dX5_isNear_74 : decode cX5_isNear 74 = .ok (.invokevirtual 119, 3) := by decide +kernel
theorem dX5_isNear_77 : decode cX5_isNear 77 = .ok (.aload_n 0, 1) := by decide +kernel
theorem dX5_isNear_78 : decode cX5_isNear 78 = .ok (.getfield 17, 3) := by decide +kernel
theorem dX5_isNear_81 : decode cX5_isNear 81 = .ok (.i2l, 1) := by decide +kernel
theorem dX5_isNear_82 : decode cX5_isNear 82 = .ok (.lmul, 1) := by decide +kernel
theorem dX5_isNear_83 : decode cX5_isNear 83 = .ok (.lcmp, 1) := by decide +kernel
theorem dX5_isNear_84 : decode cX5_isNear 84 = .ok (.ifCond .gt 7, 3) := by decide +kernel
theorem dX5_isNear_87 : decode cX5_isNear 87 = .ok (.iconst 1, 1) := by decide +kernel
theorem dX5_isNear_88 : decode cX5_isNear 88 = .ok (.goto 4, 3) := by decide +kernel
theorem dX5_isNear_91 : decode cX5_isNear 91 = .ok (.iconst 0, 1) := by decide +kernel
theorem dX5_isNear_92 : decode cX5_isNear 92 = .ok (.istore_n 3, 1) := by decide +kernel
theorem dX5_isNear_93 : decode cX5_isNear 93 = .ok (.iinc 4 1, 3) := by decide +kernel
theorem dX5_isNear_96 : decode cX5_isNear 96 = .ok (.goto (-52), 3) := by decide +kernel
theorem dX5_isNear_99 : decode cX5_isNear 99 = .ok (.iload_n 3, 1) := by decide +kernel
theorem dX5_isNear_100 : decode cX5_isNear 100 = .ok (.ireturn, 1) := by decide +kernel
theorem dX5_reaches_0 : decode cX5_reaches 0 = .ok (.lconst 0, 1) := by decide +kernel
theorem dX5_reaches_1 : decode cX5_reaches 1 = .ok (.lstore_n 1, 1) := by decide +kernel
theorem dX5_reaches_2 : decode cX5_reaches 2 = .ok (.lconst 0, 1) := by decide +kernel
theorem dX5_reaches_3 : decode cX5_reaches 3 = .ok (.lstore_n 3, 1) := by decide +kernel
theorem dX5_reaches_4 : decode cX5_reaches 4 = .ok (.iconst 0, 1) := by decide +kernel
theorem dX5_reaches_5 : decode cX5_reaches 5 = .ok (.istore 5, 2) := by decide +kernel
theorem dX5_reaches_7 : decode cX5_reaches 7 = .ok (.iload 5, 2) := by decide +kernel
theorem dX5_reaches_9 : decode cX5_reaches 9 = .ok (.bipush 10, 2) := by decide +kernel
theorem dX5_reaches_11 : decode cX5_reaches 11 = .ok (.if_icmp .ge 51, 3) := by decide +kernel
theorem dX5_reaches_14 : decode cX5_reaches 14 = .ok (.aload_n 0, 1) := by decide +kernel
theorem dX5_reaches_15 : decode cX5_reaches 15 = .ok (.getfield 13, 3) := by decide +kernel
theorem dX5_reaches_18 : decode cX5_reaches 18 = .ok (.i2l, 1) := by decide +kernel
theorem dX5_reaches_19 : decode cX5_reaches 19 = .ok (.aload_n 0, 1) := by decide +kernel
theorem dX5_reaches_20 : decode cX5_reaches 20 = .ok (.getfield 39, 3) := by decide +kernel
theorem dX5_reaches_23 : decode cX5_reaches 23 = .ok (.iload 5, 2) := by decide +kernel
theorem dX5_reaches_25 : decode cX5_reaches 25 = .ok (.iaload, 1) := by decide +kernel
theorem dX5_reaches_26 : decode cX5_reaches 26 = .ok (.i2l, 1) := by decide +kernel
theorem dX5_reaches_27 : decode cX5_reaches 27 = .ok (.lmul, 1) := by decide +kernel
theorem dX5_reaches_28 : decode cX5_reaches 28 = .ok (.lload_n 1, 1) := by decide +kernel
theorem dX5_reaches_29 : decode cX5_reaches 29 = .ok (.ladd, 1) := by decide +kernel
theorem dX5_reaches_30 : decode cX5_reaches 30 = .ok (.lstore 6, 2) := by decide +kernel
theorem dX5_reaches_32 : decode cX5_reaches 32 = .ok (.lload 6, 2) := by decide +kernel
theorem dX5_reaches_34 : decode cX5_reaches 34 = .ok (.bipush 16, 2) := by decide +kernel
theorem dX5_reaches_36 : decode cX5_reaches 36 = .ok (.lshr, 1) := by decide +kernel
theorem dX5_reaches_37 : decode cX5_reaches 37 = .ok (.lstore_n 1, 1) := by decide +kernel
theorem dX5_reaches_38 : decode cX5_reaches 38 = .ok (.iload 5, 2) := by decide +kernel
theorem dX5_reaches_40 : decode cX5_reaches 40 = .ok (.bipush 8, 2) := by decide +kernel
theorem dX5_reaches_42 : decode cX5_reaches 42 = .ok (.if_icmp .ne 12, 3) := by decide +kernel
theorem dX5_reaches_45 : decode cX5_reaches 45 = .ok (.lload 6, 2) := by decide +kernel
theorem dX5_reaches_47 : decode cX5_reaches 47 = .ok (.ldc2_w 130, 3) := by decide +kernel
theorem dX5_reaches_50 : decode cX5_reaches 50 = .ok (.land, 1) := by decide +kernel
theorem dX5_reaches_51 : decode cX5_reaches 51 = .ok (.goto 4, 3) := by decide +kernel
theorem dX5_reaches_54 : decode cX5_reaches 54 = .ok (.lload_n 3, 1) := by decide +kernel
theorem dX5_reaches_55 : decode cX5_reaches 55 = .ok (.lstore_n 3, 1) := by decide +kernel
theorem dX5_reaches_56 : decode cX5_reaches 56 = .ok (.iinc 5 1, 3) := by decide +kernel
theorem dX5_reaches_59 : decode cX5_reaches 59 = .ok (.goto (-52), 3) := by decide +kernel
theorem dX5_reaches_62 : decode cX5_reaches 62 = .ok (.lload_n 3, 1) := by decide +kernel
theorem dX5_reaches_63 : decode cX5_reaches 63 = .ok (.aload_n 0, 1) := by decide +kernel
theorem dX5_reaches_64 : decode cX5_reaches 64 = .ok (.getfield 17, 3) := by decide +kernel
theorem dX5_reaches_67 : decode cX5_reaches 67 = .ok (.i2l, 1) := by decide +kernel
theorem dX5_reaches_68 : decode cX5_reaches 68 = .ok (.lcmp, 1) := by decide +kernel
theorem dX5_reaches_69 : decode cX5_reaches 69 = .ok (.ifCond .lt 7, 3) := by decide +kernel
theorem dX5_reaches_72 : decode cX5_reaches 72 = .ok (.iconst 1, 1) := by decide +kernel
theorem dX5_reaches_73 : decode cX5_reaches 73 = .ok (.goto 4, 3) := by decide +kernel
theorem dX5_reaches_76 : decode cX5_reaches 76 = .ok (.iconst 0, 1) := by decide +kernel
theorem dX5_reaches_77 : decode cX5_reaches 77 = .ok (.ireturn, 1) := by decide +kernel
set_option maxRecDepth 20000 in
theorem ggX5_enough_X5_reaches : GoodIn wsX5_enough wsX5_reaches := goodIn_r _ [10, 11, 2, 4, 12, 13, 14, 15, 16, 17, 18, 19, 20, 21, 22, 23, 24, 25, 26, 27, 28] (by decide +kernel) (by decide +kernel)
set_option maxRecDepth 20000 in
theorem gX5_enough_X5_reaches : GoodIn wsX5_enough (wsV RX5 135 RX5 yX5_reaches wsX5_reaches) := goodIn_app (goodIn_of _ (by decide +kernel)) ggX5_enough_X5_reaches
theorem dX5_enough_0 : decode cX5_enough 0 = .ok (.iload_n 1, 1) := by decide +kernel
theorem dX5_enough_1 : decode cX5_enough 1 = .ok (.iconst 3, 1) := by decide +kernel
theorem dX5_enough_2 : decode cX5_enough 2 = .ok (.iload_n 2, 1) := by decide +kernel
theorem dX5_enough_3 : decode cX5_enough 3 = .ok (.imul, 1) := by decide +kernel
theorem dX5_enough_4 : decode cX5_enough 4 = .ok (.if_icmp .lt 5, 3) := by decide +kernel
theorem dX5_enough_7 : decode cX5_enough 7 = .ok (.iconst 1, 1) := by decide +kernel
theorem dX5_enough_8 : decode cX5_enough 8 = .ok (.ireturn, 1) := by decide +kernel
theorem dX5_enough_9 : decode cX5_enough 9 = .ok (.iconst 0, 1) := by decide +kernel
theorem dX5_enough_10 : decode cX5_enough 10 = .ok (.istore_n 3, 1) := by decide +kernel
theorem dX5_enough_11 : decode cX5_enough 11 = .ok (.iload_n 3, 1) := by decide +kernel
theorem dX5_enough_12 : decode cX5_enough 12 = .ok (.bipush 10, 2) := by decide +kernel
theorem dX5_enough_14 : decode cX5_enough 14 = .ok (.if_icmp .ge 33, 3) := by decide +kernel
theorem dX5_enough_17 : decode cX5_enough 17 = .ok (.aload_n 0, 1) := by decide +kernel
theorem dX5_enough_18 : decode cX5_enough 18 = .ok (.getfield 36, 3) := by decide +kernel
theorem dX5_enough_21 : decode cX5_enough 21 = .ok (.iload_n 3, 1) := by decide +kernel
theorem dX5_enough_22 : decode cX5_enough 22 = .ok (.iload_n 3, 1) := by decide +kernel
theorem dX5_enough_23 : decode cX5_enough 23 = .ok (.bipush 8, 2) := by decide +kernel
theorem dX5_enough_25 : decode cX5_enough 25 = .ok (.if_icmp .ne 7, 3) := by decide +kernel
theorem dX5_enough_28 : decode cX5_enough 28 = .ok (.iconst 1, 1) := by decide +kernel
theorem dX5_enough_29 : decode cX5_enough 29 = .ok (.goto 4, 3) := by decide +kernel
theorem dX5_enough_32 : decode cX5_enough 32 = .ok (.iconst 0, 1) := by decide +kernel
theorem dX5_enough_33 : decode cX5_enough 33 = .ok (.iastore, 1) := by decide +kernel
theorem dX5_enough_34 : decode cX5_enough 34 = .ok (.aload_n 0, 1) := by decide +kernel
theorem dX5_enough_35 : decode cX5_enough 35 = .ok (.getfield 39, 3) := by decide +kernel
theorem dX5_enough_38 : decode cX5_enough 38 = .ok (.iload_n 3, 1) := by decide +kernel
theorem dX5_enough_39 : decode cX5_enough 39 = .ok (.iconst 0, 1) := by decide +kernel
theorem dX5_enough_40 : decode cX5_enough 40 = .ok (.iastore, 1) := by decide +kernel
theorem dX5_enough_41 : decode cX5_enough 41 = .ok (.iinc 3 1, 3) := by decide +kernel
theorem dX5_enough_44 : decode cX5_enough 44 = .ok (.goto (-33), 3) := by decide +kernel
theorem dX5_enough_47 : decode cX5_enough 47 = .ok (.iconst 1, 1) := by decide +kernel
theorem dX5_enough_48 : decode cX5_enough 48 = .ok (.istore_n 3, 1) := by decide +kernel
theorem dX5_enough_49 : decode cX5_enough 49 = .ok (.iconst 1, 1) := by decide +kernel
theorem dX5_enough_50 : decode cX5_enough 50 = .ok (.istore 4, 2) := by decide +kernel
theorem dX5_enough_52 : decode cX5_enough 52 = .ok (.iload_n 3, 1) := by decide +kernel
theorem dX5_enough_53 : decode cX5_enough 53 = .ok (.ifCond .eq 207, 3) := by decide +kernel
theorem dX5_enough_56 : decode cX5_enough 56 = .ok (.iconst 0, 1) := by decide +kernel
theorem dX5_enough_57 : decode cX5_enough 57 = .ok (.istore 5, 2) := by decide +kernel
theorem dX5_enough_59 : decode cX5_enough 59 = .ok (.iconst 0, 1) := by decide +kernel
theorem dX5_enough_60 : decode cX5_enough 60 = .ok (.istore 6, 2) := by decide +kernel
theorem dX5_enough_62 : decode cX5_enough 62 = .ok (.iload 6, 2) := by decide +kernel
theorem dX5_enough_64 : decode cX5_enough 64 = .ok (.bipush 10, 2) := by decide +kernel
theorem dX5_enough_66 : decode cX5_enough 66 = .ok (.if_icmp .ge 48, 3) := by decide +kernel
theorem dX5_enough_69 : decode cX5_enough 69 = .ok (.aload_n 0, 1) := by decide +kernel
theorem dX5_enough_70 : decode cX5_enough 70 = .ok (.getfield 39, 3) := by decide +kernel
theorem dX5_enough_73 : decode cX5_enough 73 = .ok (.iload 6, 2) := by decide +kernel
theorem dX5_enough_75 : decode cX5_enough 75 = .ok (.iaload, 1) := by decide +kernel
theorem dX5_enough_76 : decode cX5_enough 76 = .ok (.aload_n 0, 1) := by decide +kernel
theorem dX5_enough_77 : decode cX5_enough 77 = .ok (.getfield 36, 3) := by decide +kernel
theorem dX5_enough_80 : decode cX5_enough 80 = .ok (.iload 6, 2) := by decide +kernel
theorem dX5_enough_82 : decode cX5_enough 82 = .ok (.iaload, 1) := by decide +kernel
theorem dX5_enough_83 : decode cX5_enough 83 = .ok (.iadd, 1) := by decide +kernel
theorem dX5_enough_84 : decode cX5_enough 84 = .ok (.iload 5, 2) := by decide +kernel
theorem dX5_enough_86 : decode cX5_enough 86 = .ok (.iadd, 1) := by decide +kernel
theorem dX5_enough_87 : decode cX5_enough 87 = .ok (.istore 7, 2) := by decide +kernel
theorem dX5_enough_89 : decode cX5_enough 89 = .ok (.aload_n 0, 1) := by decide +kernel
theorem dX5_enough_90 : decode cX5_enough 90 = .ok (.getfield 39, 3) := by decide +kernel
theorem dX5_enough_93 : decode cX5_enough 93 = .ok (.iload 6, 2) := by decide +kernel
theorem dX5_enough_95 : decode cX5_enough 95 = .ok (.iload 7, 2) := by decide +kernel
theorem dX5_enough_97 : decode cX5_enough 97 = .ok (.ldc 132, 2) := by decide +kernel
theorem dX5_enough_99 : decode cX5_enough 99 = .ok (.iand, 1) := by decide +kernel
theorem dX5_enough_100 : decode cX5_enough 100 = .ok (.iastore, 1) := by decide +kernel
theorem dX5_enough_101 : decode cX5_enough 101 = .ok (.iload 7, 2) := by decide +kernel
theorem dX5_enough_103 : decode cX5_enough 103 = .ok (.bipush 16, 2) := by decide +kernel
theorem dX5_enough_105 : decode cX5_enough 105 = .ok (.ishr, 1) := by decide +kernel
theorem dX5_enough_106 : decode cX5_enough 106 = .ok (.istore 5, 2) := by decide +kernel
theorem dX5_enough_108 : decode cX5_enough 108 = .ok (.iinc 6 1, 3) := by decide +kernel
theorem dX5_enough_111 : decode cX5_enough 111 = .ok (.goto (-49), 3) := by decide +kernel
theorem dX5_enough_114 : decode cX5_enough 114 = .ok (.lconst 0, 1) := by decide +kernel
theorem dX5_enough_115 : decode cX5_enough 115 = .ok (.lstore 6, 2) := by decide +kernel
theorem dX5_enough_117 : decode cX5_enough 117 = .ok (.iconst 0, 1) := by decide +kernel
theorem dX5_enough_118 : decode cX5_enough 118 = .ok (.istore 8, 2) := by decide +kernel
theorem dX5_enough_120 : decode cX5_enough 120 = .ok (.iload 8, 2) := by decide +kernel
theorem dX5_enough_122 : decode cX5_enough 122 = .ok (.bipush 10, 2) := by decide +kernel
theorem dX5_enough_124 : decode cX5_enough 124 = .ok (.if_icmp .ge 46, 3) := by decide +kernel
theorem dX5_enough_127 : decode cX5_enough 127 = .ok (.aload_n 0, 1) := by decide +kernel
theorem dX5_enough_128 : decode cX5_enough 128 = .ok (.getfield 36, 3) := by decide +kernel
theorem dX5_enough_131 : decode cX5_enough 131 = .ok (.iload 8, 2) := by decide +kernel
theorem dX5_enough_133 : decode cX5_enough 133 = .ok (.iaload, 1) := by decide +kernel
theorem dX5_enough_134 : decode cX5_enough 134 = .ok (.i2l, 1) := by decide +kernel
theorem dX5_enough_135 : decode cX5_enough 135 = .ok (.iload_n 1, 1) := by decide +kernel
theorem dX5_enough_136 : decode cX5_enough 136 = .ok (.i2l, 1) := by decide +kernel
theorem dX5_enough_137 : decode cX5_enough 137 = .ok (.lmul, 1) := by decide +kernel
theorem dX5_enough_138 : decode cX5_enough 138 = .ok (.lload 6, 2) := by decide +kernel
theorem dX5_enough_140 : decode cX5_enough 140 = .ok (.ladd, 1) := by decide +kernel
theorem dX5_enough_141 : decode cX5_enough 141 = .ok (.lstore 9, 2) := by decide +kernel
theorem dX5_enough_143 : decode cX5_enough 143 = .ok (.aload_n 0, 1) := by decide +kernel
theorem dX5_enough_144 : decode cX5_enough 144 = .ok (.getfield 36, 3) := by decide +kernel
theorem dX5_enough_147 : decode cX5_enough 147 = .ok (.iload 8, 2) := by decide +kernel
theorem dX5_enough_149 : decode cX5_enough 149 = .ok (.lload 9, 2) := by decide +kernel
theorem dX5_enough_151 : decode cX5_enough 151 = .ok (.ldc2_w 130, 3) := by decide +kernel
theorem dX5_enough_154 : decode cX5_enough 154 = .ok (.land, 1) := by decide +kernel
theorem dX5_enough_155 : decode cX5_enough 155 = .ok (.l2i, 1) := by decide +kernel
theorem dX5_enough_156 : decode cX5_enough 156 = .ok (.iastore, 1) := by decide +kernel
theorem dX5_enough_157 : decode cX5_enough 157 = .ok (.lload 9, 2) := by decide +kernel
theorem dX5_enough_159 : decode cX5_enough 159 = .ok (.bipush 16, 2) := by decide +kernel
theorem dX5_enough_161 : decode cX5_enough 161 = .ok (.lshr, 1) := by decide +kernel
theorem dX5_enough_162 : decode cX5_enough 162 = .ok (.lstore 6, 2) := by decide +kernel
theorem dX5_enough_164 : decode cX5_enough 164 = .ok (.iinc 8 1, 3) := by decide +kernel
theorem dX5_enough_167 : decode cX5_enough 167 = .ok (.goto (-47), 3) := by decide +kernel
theorem dX5_enough_170 : decode cX5_enough 170 = .ok (.lload 6, 2) := by decide +kernel
theorem dX5_enough_172 : decode cX5_enough 172 = .ok (.lstore 8, 2) := by decide +kernel
theorem dX5_enough_174 : decode cX5_enough 174 = .ok (.iconst 0, 1) := by decide +kernel
theorem dX5_enough_175 : decode cX5_enough 175 = .ok (.istore_n 3, 1) := by decide +kernel
theorem dX5_enough_176 : decode cX5_enough 176 = .ok (.bipush 9, 2) := by decide +kernel
theorem dX5_enough_178 : decode cX5_enough 178 = .ok (.istore 10, 2) := by decide +kernel
theorem dX5_enough_180 : decode cX5_enough 180 = .ok (.iload 10, 2) := by decide +kernel
theorem dX5_enough_182 : decode cX5_enough 182 = .ok (.ifCond .lt 72, 3) := by decide +kernel
theorem dX5_enough_185 : decode cX5_enough 185 = .ok (.lload 8, 2) := by decide +kernel
theorem dX5_enough_187 : decode cX5_enough 187 = .ok (.ldc2_w 133, 3) := by decide +kernel
theorem dX5_enough_190 : decode cX5_enough 190 = .ok (.lmul, 1) := by decide +kernel
theorem dX5_enough_191 : decode cX5_enough 191 = .ok (.aload_n 0, 1) := by decide +kernel
theorem dX5_enough_192 : decode cX5_enough 192 = .ok (.getfield 36, 3) := by decide +kernel
theorem dX5_enough_195 : decode cX5_enough 195 = .ok (.iload 10, 2) := by decide +kernel
theorem dX5_enough_197 : decode cX5_enough 197 = .ok (.iaload, 1) := by decide +kernel
theorem dX5_enough_198 : decode cX5_enough 198 = .ok (.i2l, 1) := by decide +kernel
theorem dX5_enough_199 : decode cX5_enough 199 = .ok (.ladd, 1) := by decide +kernel
theorem dX5_enough_200 : decode cX5_enough 200 = .ok (.lstore 11, 2) := by decide +kernel
theorem dX5_enough_202 : decode cX5_enough 202 = .ok (.aload_n 0, 1) := by decide +kernel
theorem dX5_enough_203 : decode cX5_enough 203 = .ok (.getfield 36, 3) := by decide +kernel
theorem dX5_enough_206 : decode cX5_enough 206 = .ok (.iload 10, 2) := by decide +kernel
theorem dX5_enough_208 : decode cX5_enough 208 = .ok (.lload 11, 2) := by decide +kernel
theorem dX5_enough_210 : decode cX5_enough 210 = .ok (.iload_n 2, 1) := by decide +kernel
theorem dX5_enough_211 : decode cX5_enough 211 = .ok (.i2l, 1) := by decide +kernel
theorem dX5_enough_212 : decode cX5_enough 212 = .ok (.iload 4, 2) := by decide +kernel
theorem dX5_enough_214 : decode cX5_enough 214 = .ok (.i2l, 1) := by decide +kernel
theorem dX5_enough_215 : decode cX5_enough 215 = .ok (.lmul, 1) := by decide +kernel
theorem dX5_enough_216 : decode cX5_enough 216 = .ok (.ldiv, 1) := by decide +kernel
theorem dX5_enough_217 : decode cX5_enough 217 = .ok (.l2i, 1) := by decide +kernel
theorem dX5_enough_218 : decode cX5_enough 218 = .ok (.iastore, 1) := by decide +kernel
theorem dX5_enough_219 : decode cX5_enough 219 = .ok (.lload 11, 2) := by decide +kernel
theorem dX5_enough_221 : decode cX5_enough 221 = .ok (.iload_n 2, 1) := by decide +kernel
theorem dX5_enough_222 : decode cX5_enough 222 = .ok (.i2l, 1) := by decide +kernel
theorem dX5_enough_223 : decode cX5_enough 223 = .ok (.iload 4, 2) := by decide +kernel
theorem dX5_enough_225 : decode cX5_enough 225 = .ok (.i2l, 1) := by decide +kernel
theorem dX5_enough_226 : decode cX5_enough 226 = .ok (.lmul, 1) := by decide +kernel
theorem dX5_enough_227 : decode cX5_enough 227 = .ok (.lrem, 1) := by decide +kernel
theorem dX5_enough_228 : decode cX5_enough 228 = .ok (.lstore 8, 2) := by decide +kernel
theorem dX5_enough_230 : decode cX5_enough 230 = .ok (.iload_n 3, 1) := by decide +kernel
theorem dX5_enough_231 : decode cX5_enough 231 = .ok (.aload_n 0, 1) := by decide +kernel
theorem dX5_enough_232 : decode cX5_enough 232 = .ok (.getfield 36, 3) := by decide +kernel
theorem dX5_enough_235 : decode cX5_enough 235 = .ok (.iload 10, 2) := by decide +kernel
theorem dX5_enough_237 : decode cX5_enough 237 = .ok (.iaload, 1) := by decide +kernel
theorem dX5_enough_238 : decode cX5_enough 238 = .ok (.ifCond .eq 7, 3) := by decide +kernel
theorem dX5_enough_241 : decode cX5_enough 241 = .ok (.iconst 1, 1) := by decide +kernel
theorem dX5_enough_242 : decode cX5_enough 242 = .ok (.goto 4, 3) := by decide +kernel
theorem dX5_enough_245 : decode cX5_enough 245 = .ok (.iconst 0, 1) := by decide +kernel
theorem dX5_enough_246 : decode cX5_enough 246 = .ok (.ior, 1) := by decide +kernel
theorem dX5_enough_247 : decode cX5_enough 247 = .ok (.istore_n 3, 1) := by decide +kernel
theorem dX5_enough_248 : decode cX5_enough 248 = .ok (.iinc 10 (-1), 3) := by decide +kernel
theorem dX5_enough_251 : decode cX5_enough 251 = .ok (.goto (-71), 3) := by decide +kernel
theorem dX5_enough_254 : decode cX5_enough 254 = .ok (.iinc 4 1, 3) := by decide +kernel
theorem dX5_enough_257 : decode cX5_enough 257 = .ok (.goto (-205), 3) := by decide +kernel
theorem dX5_enough_260 : decode cX5_enough 260 = .ok (.aload_n 0, 1) := by decide +kernel
theorem dX5_enough_261 : decode cX5_enough 261 = .ok (.invokevirtual 135, 3) := by decide +kernel
theorem dX5_enough_264 : decode cX5_enough 264 = .ok (.ireturn, 1) := by decide +kernel
theorem dX5_noCost_0 : decode cX5_noCost 0 = .ok (.iload_n 0, 1) := by decide +kernel
theorem dX5_noCost_1 : decode cX5_noCost 1 = .ok (.ifCond .lt 22, 3) := by decide +kernel
theorem dX5_noCost_4 : decode cX5_noCost 4 = .ok (.iload_n 0, 1) := by decide +kernel
theorem dX5_noCost_5 : decode cX5_noCost 5 = .ok (.sipush 3000, 3) := by decide +kernel
theorem dX5_noCost_8 : decode cX5_noCost 8 = .ok (.if_icmp .gt 15, 3) := by decide +kernel
theorem dX5_noCost_11 : decode cX5_noCost 11 = .ok (.iload_n 1, 1) := by decide +kernel
theorem dX5_noCost_12 : decode cX5_noCost 12 = .ok (.iconst 1, 1) := by decide +kernel
theorem dX5_noCost_13 : decode cX5_noCost 13 = .ok (.if_icmp .lt 10, 3) := by decide +kernel
theorem dX5_noCost_16 : decode cX5_noCost 16 = .ok (.iload_n 1, 1) := by decide +kernel
theorem dX5_noCost_17 : decode cX5_noCost 17 = .ok (.sipush 1000, 3) := by decide +kernel
theorem dX5_noCost_20 : decode cX5_noCost 20 = .ok (.if_icmp .le 7, 3) := by decide +kernel
theorem dX5_noCost_23 : decode cX5_noCost 23 = .ok (.iconst 1, 1) := by decide +kernel
theorem dX5_noCost_24 : decode cX5_noCost 24 = .ok (.goto 4, 3) := by decide +kernel
theorem dX5_noCost_27 : decode cX5_noCost 27 = .ok (.iconst 0, 1) := by decide +kernel
theorem dX5_noCost_28 : decode cX5_noCost 28 = .ok (.ireturn, 1) := by decide +kernel
set_option maxRecDepth 20000 in
theorem ggX5_isEnough_X5_noCost : GoodIn wsX5_isEnough wsX5_noCost := goodIn_r _ [5] (by decide +kernel) (by decide +kernel)
set_option maxRecDepth 20000 in
theorem gX5_isEnough_X5_noCost : GoodIn wsX5_isEnough (va_wsS RX5 139 yX5_noCost wsX5_noCost) := goodIn_app (goodIn_of _ (by decide +kernel)) ggX5_isEnough_X5_noCost
set_option maxRecDepth 20000 in
theorem ggX5_isEnough_X5_enough : GoodIn wsX5_isEnough wsX5_enough := goodIn_r _ [9, 10, 11, 12, 13, 14, 15, 16, 17, 4, 18, 19, 20, 21, 22, 23, 24, 25, 26, 27, 28, 29, 30, 31, 32, 33, 34, 35, 36] (by decide +kernel) (by decide +kernel)
set_option maxRecDepth 20000 in
theorem gX5_isEnough_X5_enough : GoodIn wsX5_isEnough (wsV RX5 143 RX5 yX5_enough wsX5_enough) := goodIn_app (goodIn_of _ (by decide +kernel)) ggX5_isEnough_X5_enough
