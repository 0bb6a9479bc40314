set_option maxRecDepth 20000 in
theorem ggX0_init_X1_init : GoodIn wsX0_init wsX1_init := goodIn_r _ [10, 11, 2, 3, 12, 13, 14, 23, 24] (by decide +kernel) (by decide +kernel)
set_option maxRecDepth 20000 in
theorem gX0_init_X1_init_n9 : GoodIn wsX0_init (wsX1_init) := ggX0_init_X1_init
set_option maxRecDepth 20000 in
theorem ggX0_init_X1_become : GoodIn wsX0_init wsX1_become := goodIn_r _ [18, 14, 19, 20, 21, 6, 22, 13, 23, 24] (by decide +kernel) (by decide +kernel)
set_option maxRecDepth 20000 in
theorem gX0_init_X1_become : GoodIn wsX0_init (wsV RX0 19 RX1 yX1_become wsX1_become) := goodIn_app (goodIn_of _ (by decide +kernel)) ggX0_init_X1_become
theorem dX0_init_0 : decode cX0_init 0 = .ok (.aload_n 0, 1) := by decide +kernel
theorem dX0_init_1 : decode cX0_init 1 = .ok (.invokespecial 1, 3) := by decide +kernel
theorem dX0_init_4 : decode cX0_init 4 = .ok (.aload_n 0, 1) := by decide +kernel
theorem dX0_init_5 : decode cX0_init 5 = .ok (.new 7, 3) := by decide +kernel
theorem dX0_init_8 : decode cX0_init 8 = .ok (.dup, 1) := by decide +kernel
theorem dX0_init_9 : decode cX0_init 9 = .ok (.invokespecial 9, 3) := by decide +kernel
theorem dX0_init_12 : decode cX0_init 12 = .ok (.putfield 10, 3) := by decide +kernel
theorem dX0_init_15 : decode cX0_init 15 = .ok (.aload_n 0, 1) := by decide +kernel
theorem dX0_init_16 : decode cX0_init 16 = .ok (.new 7, 3) := by decide +kernel
theorem dX0_init_19 : decode cX0_init 19 = .ok (.dup, 1) := by decide +kernel
theorem dX0_init_20 : decode cX0_init 20 = .ok (.invokespecial 9, 3) := by decide +kernel
theorem dX0_init_23 : decode cX0_init 23 = .ok (.putfield 16, 3) := by decide +kernel
theorem dX0_init_26 : decode cX0_init 26 = .ok (.aload_n 0, 1) := by decide +kernel
theorem dX0_init_27 : decode cX0_init 27 = .ok (.getfield 16, 3) := by decide +kernel
theorem dX0_init_30 : decode cX0_init 30 = .ok (.iconst 1, 1) := by decide +kernel
theorem dX0_init_31 : decode cX0_init 31 = .ok (.invokevirtual 19, 3) := by decide +kernel
theorem dX0_init_34 : decode cX0_init 34 = .ok (.return_, 1) := by decide +kernel
set_option maxRecDepth 20000 in
theorem ggX0_become_X0_commonDivisor : GoodIn wsX0_become wsX0_commonDivisor := goodIn_r _ [6] (by decide +kernel) (by decide +kernel)
set_option maxRecDepth 20000 in
theorem gX0_become_X0_commonDivisor : GoodIn wsX0_become (va_wsS RX0 23 yX0_commonDivisor wsX0_commonDivisor) := goodIn_app (goodIn_of _ (by decide +kernel)) ggX0_become_X0_commonDivisor
set_option maxRecDepth 20000 in
theorem ggX0_become_X1_become : GoodIn wsX0_become wsX1_become := goodIn_r _ [11, 12, 13, 14, 15, 10, 16, 17, 32, 33] (by decide +kernel) (by decide +kernel)
set_option maxRecDepth 20000 in
theorem gX0_become_X1_become : GoodIn wsX0_become (wsV RX0 19 RX1 yX1_become wsX1_become) := goodIn_app (goodIn_of _ (by decide +kernel)) ggX0_become_X1_become
set_option maxRecDepth 20000 in
theorem ggX0_become_X1_divideBy : GoodIn wsX0_become wsX1_divideBy := goodIn_r _ [21, 12, 17, 22, 23, 24, 10, 25, 26, 27, 28, 29, 32, 33] (by decide +kernel) (by decide +kernel)
set_option maxRecDepth 20000 in
theorem gX0_become_X1_divideBy : GoodIn wsX0_become (wsV RX0 27 RX1 yX1_divideBy wsX1_divideBy) := goodIn_app (goodIn_of _ (by decide +kernel)) ggX0_become_X1_divideBy
theorem dX0_become_0 : decode cX0_become 0 = .ok (.iload_n 1, 1) := by decide +kernel
theorem dX0_become_1 : decode cX0_become 1 = .ok (.iload_n 2, 1) := by decide +kernel
theorem dX0_become_2 : decode cX0_become 2 = .ok (.invokestatic 23, 3) := by decide +kernel
theorem dX0_become_5 : decode cX0_become 5 = .ok (.istore_n 3, 1) := by decide +kernel
theorem dX0_become_6 : decode cX0_become 6 = .ok (.aload_n 0, 1) := by decide +kernel
theorem dX0_become_7 : decode cX0_become 7 = .ok (.getfield 10, 3) := by decide +kernel
theorem dX0_become_10 : decode cX0_become 10 = .ok (.iload_n 1, 1) := by decide +kernel
theorem dX0_become_11 : decode cX0_become 11 = .ok (.invokevirtual 19, 3) := by decide +kernel
theorem dX0_become_14 : decode cX0_become 14 = .ok (.aload_n 0, 1) := by decide +kernel
theorem dX0_become_15 : decode cX0_become 15 = .ok (.getfield 10, 3) := by decide +kernel
theorem dX0_become_18 : decode cX0_become 18 = .ok (.iload_n 3, 1) := by decide +kernel
theorem dX0_become_19 : decode cX0_become 19 = .ok (.invokevirtual 27, 3) := by decide +kernel
theorem dX0_become_22 : decode cX0_become 22 = .ok (.aload_n 0, 1) := by decide +kernel
theorem dX0_become_23 : decode cX0_become 23 = .ok (.getfield 16, 3) := by decide +kernel
theorem dX0_become_26 : decode cX0_become 26 = .ok (.iload_n 2, 1) := by decide +kernel
theorem dX0_become_27 : decode cX0_become 27 = .ok (.invokevirtual 19, 3) := by decide +kernel
theorem dX0_become_30 : decode cX0_become 30 = .ok (.aload_n 0, 1) := by decide +kernel
theorem dX0_become_31 : decode cX0_become 31 = .ok (.getfield 16, 3) := by decide +kernel
theorem dX0_become_34 : decode cX0_become 34 = .ok (.iload_n 3, 1) := by decide +kernel
theorem dX0_become_35 : decode cX0_become 35 = .ok (.invokevirtual 27, 3) := by decide +kernel
theorem dX0_become_38 : decode cX0_become 38 = .ok (.return_, 1) := by decide +kernel
set_option maxRecDepth 20000 in
theorem ggX0_increase_X0_change : GoodIn wsX0_increase wsX0_change := goodIn_r _ [5, 6, 7, 8, 9, 4, 10, 11, 12, 13, 14, 15, 16, 17, 18, 19, 20, 21, 22, 23, 24, 25, 26, 27, 28, 29, 30, 31, 32, 33, 34, 35, 36, 37, 38, 39, 40, 41, 42, 43, 44, 45, 46, 47, 48, 49] (by decide +kernel) (by decide +kernel)
set_option maxRecDepth 20000 in
theorem gX0_increase_X0_change : GoodIn wsX0_increase (wsV RX0 30 RX0 yX0_change wsX0_change) := goodIn_app (goodIn_of _ (by decide +kernel)) ggX0_increase_X0_change
theorem dX0_increase_0 : decode cX0_increase 0 = .ok (.aload_n 0, 1) := by decide +kernel
theorem dX0_increase_1 : decode cX0_increase 1 = .ok (.iload_n 1, 1) := by decide +kernel
theorem dX0_increase_2 : decode cX0_increase 2 = .ok (.iload_n 2, 1) := by decide +kernel
theorem dX0_increase_3 : decode cX0_increase 3 = .ok (.iconst 1, 1) := by decide +kernel
theorem dX0_increase_4 : decode cX0_increase 4 = .ok (.invokevirtual 30, 3) := by decide +kernel
theorem dX0_increase_7 : decode cX0_increase 7 = .ok (.return_, 1) := by decide +kernel
set_option maxRecDepth 20000 in
theorem ggX0_decrease_X0_change : GoodIn wsX0_decrease wsX0_change := goodIn_r _ [5, 6, 7, 8, 9, 4, 10, 11, 12, 13, 14, 15, 16, 17, 18, 19, 20, 21, 22, 23, 24, 25, 26, 27, 28, 29, 30, 31, 32, 33, 34, 35, 36, 37, 38, 39, 40, 41, 42, 43, 44, 45, 46, 47, 48, 49] (by decide +kernel) (by decide +kernel)
set_option maxRecDepth 20000 in
theorem gX0_decrease_X0_change : GoodIn wsX0_decrease (wsV RX0 30 RX0 yX0_change wsX0_change) := goodIn_app (goodIn_of _ (by decide +kernel)) ggX0_decrease_X0_change
theorem dX0_decrease_0 : decode cX0_decrease 0 = .ok (.aload_n 0, 1) := by decide +kernel
theorem dX0_decrease_1 : decode cX0_decrease 1 = .ok (.iload_n 1, 1) := by decide +kernel
theorem dX0_decrease_2 : decode cX0_decrease 2 = .ok (.iload_n 2, 1) := by decide +kernel
theorem dX0_decrease_3 : decode cX0_decrease 3 = .ok (.iconst (-1), 1) := by decide +kernel
theorem dX0_decrease_4 : decode cX0_decrease 4 = .ok (.invokevirtual 30, 3) := by decide +kernel
theorem dX0_decrease_7 : decode cX0_decrease 7 = .ok (.return_, 1) := by decide +kernel
set_option maxRecDepth 20000 in
theorem ggX0_isLessThan_X1_isLess : GoodIn wsX0_isLessThan wsX1_isLess := goodIn_r _ [6, 7, 8, 9, 10, 5, 11, 12, 15, 16] (by decide +kernel) (by decide +kernel)
set_option maxRecDepth 20000 in
theorem gX0_isLessThan_X1_isLess : GoodIn wsX0_isLessThan (va_wsS RX0 34 yX1_isLess wsX1_isLess) := goodIn_app (goodIn_of _ (by decide +kernel)) ggX0_isLessThan_X1_isLess
theorem dX0_isLessThan_0 : decode cX0_isLessThan 0 = .ok (.aload_n 0, 1) := by decide +kernel
theorem dX0_isLessThan_1 : decode cX0_isLessThan 1 = .ok (.getfield 10, 3) := by decide +kernel
theorem dX0_isLessThan_4 : decode cX0_isLessThan 4 = .ok (.iload_n 2, 1) := by decide +kernel
theorem dX0_isLessThan_5 : decode cX0_isLessThan 5 = .ok (.aload_n 0, 1) := by decide +kernel
theorem dX0_isLessThan_6 : decode cX0_isLessThan 6 = .ok (.getfield 16, 3) := by decide +kernel
theorem dX0_isLessThan_9 : decode cX0_isLessThan 9 = .ok (.iload_n 1, 1) := by decide +kernel
theorem dX0_isLessThan_10 : decode cX0_isLessThan 10 = .ok (.invokestatic 34, 3) := by decide +kernel
theorem dX0_isLessThan_13 : decode cX0_isLessThan 13 = .ok (.ireturn, 1) := by decide +kernel
set_option maxRecDepth 20000 in
theorem ggX0_change_X0_commonDivisor : GoodIn wsX0_change wsX0_commonDivisor := goodIn_r _ [6] (by decide +kernel) (by decide +kernel)
set_option maxRecDepth 20000 in
theorem gX0_change_X0_commonDivisor : GoodIn wsX0_change (va_wsS RX0 23 yX0_commonDivisor wsX0_commonDivisor) := goodIn_app (goodIn_of _ (by decide +kernel)) ggX0_change_X0_commonDivisor
set_option maxRecDepth 20000 in
theorem ggX0_change_X0_quotient : GoodIn wsX0_change wsX0_quotient := goodIn_r _ [9] (by decide +kernel) (by decide +kernel)
set_option maxRecDepth 20000 in
theorem gX0_change_X0_quotient : GoodIn wsX0_change (va_wsS RX0 38 yX0_quotient wsX0_quotient) := goodIn_app (goodIn_of _ (by decide +kernel)) ggX0_change_X0_quotient
set_option maxRecDepth 20000 in
theorem ggX0_change_X1_restBy : GoodIn wsX0_change wsX1_restBy := goodIn_r _ [14, 15, 16, 17, 18, 13, 19, 20, 44, 45] (by decide +kernel) (by decide +kernel)
set_option maxRecDepth 20000 in
theorem gX0_change_X1_restBy : GoodIn wsX0_change (wsV RX0 41 RX1 yX1_restBy wsX1_restBy) := goodIn_app (goodIn_of _ (by decide +kernel)) ggX0_change_X1_restBy
set_option maxRecDepth 20000 in
theorem ggX0_change_X1_divideBy : GoodIn wsX0_change wsX1_divideBy := goodIn_r _ [24, 15, 20, 25, 26, 27, 13, 28, 16, 17, 18, 19, 44, 45] (by decide +kernel) (by decide +kernel)
set_option maxRecDepth 20000 in
theorem gX0_change_X1_divideBy : GoodIn wsX0_change (wsV RX0 27 RX1 yX1_divideBy wsX1_divideBy) := goodIn_app (goodIn_of _ (by decide +kernel)) ggX0_change_X1_divideBy
set_option maxRecDepth 20000 in
theorem ggX0_change_X1_times : GoodIn wsX0_change wsX1_times := goodIn_r _ [32, 15, 20, 33, 34, 35, 36, 13, 37, 25, 26, 27, 28, 16, 17, 18, 19, 44, 45] (by decide +kernel) (by decide +kernel)
set_option maxRecDepth 20000 in
theorem gX0_change_X1_times : GoodIn wsX0_change (wsV RX0 45 RX1 yX1_times wsX1_times) := goodIn_app (goodIn_of _ (by decide +kernel)) ggX0_change_X1_times
set_option maxRecDepth 20000 in
theorem ggX0_change_X1_plusTimes : GoodIn wsX0_change wsX1_plusTimes := goodIn_r _ [41, 15, 20, 33, 16, 17, 18, 13, 19, 34, 35, 36, 37, 25, 26, 27, 28, 44, 45] (by decide +kernel) (by decide +kernel)
set_option maxRecDepth 20000 in
theorem gX0_change_X1_plusTimes : GoodIn wsX0_change (wsV RX0 48 RX1 yX1_plusTimes wsX1_plusTimes) := goodIn_app (goodIn_of _ (by decide +kernel)) ggX0_change_X1_plusTimes
theorem dX0_change_0 : decode cX0_change 0 = .ok (.iload_n 1, 1) := by decide +kernel
theorem dX0_change_1 : decode cX0_change 1 = .ok (.iload_n 2, 1) := by decide +kernel
theorem dX0_change_2 : decode cX0_change 2 = .ok (.invokestatic 23, 3) := by decide +kernel
theorem dX0_change_5 : decode cX0_change 5 = .ok (.istore 4, 2) := by decide +kernel
theorem dX0_change_7 : decode cX0_change 7 = .ok (.iload_n 1, 1) := by decide +kernel
theorem dX0_change_8 : decode cX0_change 8 = .ok (.iload 4, 2) := by decide +kernel
theorem dX0_change_10 : decode cX0_change 10 = .ok (.invokestatic 38, 3) := by decide +kernel
theorem dX0_change_13 : decode cX0_change 13 = .ok (.istore 5, 2) := by decide +kernel
theorem dX0_change_15 : decode cX0_change 15 = .ok (.iload_n 2, 1) := by decide +kernel
theorem dX0_change_16 : decode cX0_change 16 = .ok (.iload 4, 2) := by decide +kernel
theorem dX0_change_18 : decode cX0_change 18 = .ok (.invokestatic 38, 3) := by decide +kernel
theorem dX0_change_21 : decode cX0_change 21 = .ok (.istore 6, 2) := by decide +kernel
theorem dX0_change_23 : decode cX0_change 23 = .ok (.aload_n 0, 1) := by decide +kernel
theorem dX0_change_24 : decode cX0_change 24 = .ok (.getfield 16, 3) := by decide +kernel
theorem dX0_change_27 : decode cX0_change 27 = .ok (.iload 6, 2) := by decide +kernel
theorem dX0_change_29 : decode cX0_change 29 = .ok (.invokevirtual 41, 3) := by decide +kernel
theorem dX0_change_32 : decode cX0_change 32 = .ok (.iload 6, 2) := by decide +kernel
theorem dX0_change_34 : decode cX0_change 34 = .ok (.invokestatic 23, 3) := by decide +kernel
theorem dX0_change_37 : decode cX0_change 37 = .ok (.istore 7, 2) := by decide +kernel
theorem dX0_change_39 : decode cX0_change 39 = .ok (.aload_n 0, 1) := by decide +kernel
theorem dX0_change_40 : decode cX0_change 40 = .ok (.getfield 16, 3) := by decide +kernel
theorem dX0_change_43 : decode cX0_change 43 = .ok (.iload 7, 2) := by decide +kernel
theorem dX0_change_45 : decode cX0_change 45 = .ok (.invokevirtual 27, 3) := by decide +kernel
theorem dX0_change_48 : decode cX0_change 48 = .ok (.aload_n 0, 1) := by decide +kernel
theorem dX0_change_49 : decode cX0_change 49 = .ok (.getfield 10, 3) := by decide +kernel
theorem dX0_change_52 : decode cX0_change 52 = .ok (.iload 6, 2) := by decide +kernel
theorem dX0_change_54 : decode cX0_change 54 = .ok (.iload 7, 2) := by decide +kernel
theorem dX0_change_56 : decode cX0_change 56 = .ok (.invokestatic 38, 3) := by decide +kernel
theorem dX0_change_59 : decode cX0_change 59 = .ok (.invokevirtual 45, 3) := by decide +kernel
theorem dX0_change_62 : decode cX0_change 62 = .ok (.aload_n 0, 1) := by decide +kernel
theorem dX0_change_63 : decode cX0_change 63 = .ok (.getfield 10, 3) := by decide +kernel
theorem dX0_change_66 : decode cX0_change 66 = .ok (.aload_n 0, 1) := by decide +kernel
theorem dX0_change_67 : decode cX0_change 67 = .ok (.getfield 16, 3) := by decide +kernel
theorem dX0_change_70 : decode cX0_change 70 = .ok (.iload_n 3, 1) := by decide +kernel
theorem dX0_change_71 : decode cX0_change 71 = .ok (.iload 5, 2) := by decide +kernel
theorem dX0_change_73 : decode cX0_change 73 = .ok (.imul, 1) := by decide +kernel
theorem dX0_change_74 : decode cX0_change 74 = .ok (.invokevirtual 48, 3) := by decide +kernel
theorem dX0_change_77 : decode cX0_change 77 = .ok (.aload_n 0, 1) := by decide +kernel
theorem dX0_change_78 : decode cX0_change 78 = .ok (.getfield 10, 3) := by decide +kernel
theorem dX0_change_81 : decode cX0_change 81 = .ok (.iload 7, 2) := by decide +kernel
theorem dX0_change_83 : decode cX0_change 83 = .ok (.invokevirtual 41, 3) := by decide +kernel
theorem dX0_change_86 : decode cX0_change 86 = .ok (.iload 7, 2) := by decide +kernel
theorem dX0_change_88 : decode cX0_change 88 = .ok (.invokestatic 23, 3) := by decide +kernel
theorem dX0_change_91 : decode cX0_change 91 = .ok (.istore 8, 2) := by decide +kernel
theorem dX0_change_93 : decode cX0_change 93 = .ok (.aload_n 0, 1) := by decide +kernel
theorem dX0_change_94 : decode cX0_change 94 = .ok (.getfield 10, 3) := by decide +kernel
theorem dX0_change_97 : decode cX0_change 97 = .ok (.iload 8, 2) := by decide +kernel
theorem dX0_change_99 : decode cX0_change 99 = .ok (.invokevirtual 27, 3) := by decide +kernel
theorem dX0_change_102 : decode cX0_change 102 = .ok (.aload_n 0, 1) := by decide +kernel
theorem dX0_change_103 : decode cX0_change 103 = .ok (.getfield 16, 3) := by decide +kernel
theorem dX0_change_106 : decode cX0_change 106 = .ok (.iload 6, 2) := by decide +kernel
theorem dX0_change_108 : decode cX0_change 108 = .ok (.iload 8, 2) := by decide +kernel
theorem dX0_change_110 : decode cX0_change 110 = .ok (.invokestatic 38, 3) := by decide +kernel
theorem dX0_change_113 : decode cX0_change 113 = .ok (.invokevirtual 45, 3) := by decide +kernel
theorem dX0_change_116 : decode cX0_change 116 = .ok (.return_, 1) := by decide +kernel
theorem dX0_quotient_0 : decode cX0_quotient 0 = .ok (.iload_n 1, 1) := by decide +kernel
theorem dX0_quotient_1 : decode cX0_quotient 1 = .ok (.iconst 1, 1) := by decide +kernel
theorem dX0_quotient_2 : decode cX0_quotient 2 = .ok (.if_icmp .ge 7, 3) := by decide +kernel
theorem dX0_quotient_5 : decode cX0_quotient 5 = .ok (.iload_n 0, 1) := by decide +kernel
theorem dX0_quotient_6 : decode cX0_quotient 6 = .ok (.goto 6, 3) := by decide +kernel
theorem dX0_quotient_9 : decode cX0_quotient 9 = .ok (.iload_n 0, 1) := by decide +kernel
theorem dX0_quotient_10 : decode cX0_quotient 10 = .ok (.iload_n 1, 1) := by decide +kernel
theorem dX0_quotient_11 : decode cX0_quotient 11 = .ok (.idiv, 1) := by decide +kernel
theorem dX0_quotient_12 : decode cX0_quotient 12 = .ok (.ireturn, 1) := by decide +kernel
theorem dX0_commonDivisor_0 : decode cX0_commonDivisor 0 = .ok (.iload_n 0, 1) := by decide +kernel
theorem dX0_commonDivisor_1 : decode cX0_commonDivisor 1 = .ok (.istore_n 2, 1) := by decide +kernel
theorem dX0_commonDivisor_2 : decode cX0_commonDivisor 2 = .ok (.iload_n 1, 1) := by decide +kernel
theorem dX0_commonDivisor_3 : decode cX0_commonDivisor 3 = .ok (.istore_n 3, 1) := by decide +kernel
theorem dX0_commonDivisor_4 : decode cX0_commonDivisor 4 = .ok (.iconst 0, 1) := by decide +kernel
theorem dX0_commonDivisor_5 : decode cX0_commonDivisor 5 = .ok (.istore 4, 2) := by decide +kernel
theorem dX0_commonDivisor_7 : decode cX0_commonDivisor 7 = .ok (.iload 4, 2) := by decide +kernel
theorem dX0_commonDivisor_9 : decode cX0_commonDivisor 9 = .ok (.bipush 64, 2) := by decide +kernel
theorem dX0_commonDivisor_11 : decode cX0_commonDivisor 11 = .ok (.if_icmp .ge 23, 3) := by decide +kernel
theorem dX0_commonDivisor_14 : decode cX0_commonDivisor 14 = .ok (.iload_n 3, 1) := by decide +kernel
theorem dX0_commonDivisor_15 : decode cX0_commonDivisor 15 = .ok (.ifCond .le 19, 3) := by decide +kernel
theorem dX0_commonDivisor_18 : decode cX0_commonDivisor 18 = .ok (.iload_n 2, 1) := by decide +kernel
theorem dX0_commonDivisor_19 : decode cX0_commonDivisor 19 = .ok (.iload_n 3, 1) := by decide +kernel
theorem dX0_commonDivisor_20 : decode cX0_commonDivisor 20 = .ok (.irem, 1) := by decide +kernel
theorem dX0_commonDivisor_21 : decode cX0_commonDivisor 21 = .ok (.istore 5, 2) := by decide +kernel
theorem dX0_commonDivisor_23 : decode cX0_commonDivisor 23 = .ok (.iload_n 3, 1) := by decide +kernel
theorem dX0_commonDivisor_24 : decode cX0_commonDivisor 24 = .ok (.istore_n 2, 1) := by decide +kernel
theorem dX0_commonDivisor_25 : decode cX0_commonDivisor 25 = .ok (.iload 5, 2) := by decide +kernel
theorem dX0_commonDivisor_27 : decode cX0_commonDivisor 27 = .ok (.istore_n 3, 1) := by decide +kernel
theorem dX0_commonDivisor_28 : decode cX0_commonDivisor 28 = .ok (.iinc 4 1, 3) := by decide +kernel
theorem dX0_commonDivisor_31 : decode cX0_commonDivisor 31 = .ok (.goto (-24), 3) := by decide +kernel
theorem dX0_commonDivisor_34 : decode cX0_commonDivisor 34 = .ok (.iload_n 2, 1) := by decide +kernel
theorem dX0_commonDivisor_35 : decode cX0_commonDivisor 35 = .ok (.ireturn, 1) := by decide +kernel
theorem dX1_init_0 : decode cX1_init 0 = .ok (.aload_n 0, 1) := by decide +kernel
theorem dX1_init_1 : decode cX1_init 1 = .ok (.invokespecial 1, 3) := by decide +kernel
theorem dX1_init_4 : decode cX1_init 4 = .ok (.aload_n 0, 1) := by decide +kernel
theorem dX1_init_5 : decode cX1_init 5 = .ok (.bipush 64, 2) := by decide +kernel
theorem dX1_init_7 : decode cX1_init 7 = .ok (.newarray .int, 2) := by decide +kernel
theorem dX1_init_9 : decode cX1_init 9 = .ok (.putfield 9, 3) := by decide +kernel
theorem dX1_init_12 : decode cX1_init 12 = .ok (.aload_n 0, 1) := by decide +kernel
theorem dX1_init_13 : decode cX1_init 13 = .ok (.iconst 0, 1) := by decide +kernel
theorem dX1_init_14 : decode cX1_init 14 = .ok (.putfield 13, 3) := by decide +kernel
theorem dX1_init_17 : decode cX1_init 17 = .ok (.return_, 1) := by decide +kernel
set_option maxRecDepth 20000 in
theorem ggX1_become_X1_append : GoodIn wsX1_become wsX1_append := goodIn_r _ [6, 1, 7, 8, 9] (by decide +kernel) (by decide +kernel)
set_option maxRecDepth 20000 in
theorem gX1_become_X1_append : GoodIn wsX1_become (wsV RX1 17 RX1 yX1_append wsX1_append) := goodIn_app (goodIn_of _ (by decide +kernel)) ggX1_become_X1_append
theorem dX1_become_0 : decode cX1_become 0 = .ok (.aload_n 0, 1) := by decide +kernel
theorem dX1_become_1 : decode cX1_become 1 = .ok (.iconst 0, 1) := by decide +kernel
theorem dX1_become_2 : decode cX1_become 2 = .ok (.putfield 13, 3) := by decide +kernel
theorem dX1_become_5 : decode cX1_become 5 = .ok (.aload_n 0, 1) := by decide +kernel
theorem dX1_become_6 : decode cX1_become 6 = .ok (.iload_n 1, 1) := by decide +kernel
theorem dX1_become_7 : decode cX1_become 7 = .ok (.i2l, 1) := by decide +kernel
theorem dX1_become_8 : decode cX1_become 8 = .ok (.invokevirtual 17, 3) := by decide +kernel
theorem dX1_become_11 : decode cX1_become 11 = .ok (.return_, 1) := by decide +kernel
theorem dX1_limbAt_0 : decode cX1_limbAt 0 = .ok (.iload_n 1, 1) := by decide +kernel
theorem dX1_limbAt_1 : decode cX1_limbAt 1 = .ok (.ifCond .lt 29, 3) := by decide +kernel
theorem dX1_limbAt_4 : decode cX1_limbAt 4 = .ok (.iload_n 1, 1) := by decide +kernel
theorem dX1_limbAt_5 : decode cX1_limbAt 5 = .ok (.aload_n 0, 1) := by decide +kernel
theorem dX1_limbAt_6 : decode cX1_limbAt 6 = .ok (.getfield 13, 3) := by decide +kernel
theorem dX1_limbAt_9 : decode cX1_limbAt 9 = .ok (.if_icmp .ge 21, 3) := by decide +kernel
theorem dX1_limbAt_12 : decode cX1_limbAt 12 = .ok (.iload_n 1, 1) := by decide +kernel
theorem dX1_limbAt_13 : decode cX1_limbAt 13 = .ok (.aload_n 0, 1) := by decide +kernel
theorem dX1_limbAt_14 : decode cX1_limbAt 14 = .ok (.getfield 9, 3) := by decide +kernel
theorem dX1_limbAt_17 : decode cX1_limbAt 17 = .ok (.arraylength, 1) := by decide +kernel
theorem dX1_limbAt_18 : decode cX1_limbAt 18 = .ok (.if_icmp .ge 12, 3) := by decide +kernel
theorem dX1_limbAt_21 : decode cX1_limbAt 21 = .ok (.aload_n 0, 1) := by decide +kernel
theorem dX1_limbAt_22 : decode cX1_limbAt 22 = .ok (.getfield 9, 3) := by decide +kernel
theorem dX1_limbAt_25 : decode cX1_limbAt 25 = .ok (.iload_n 1, 1) := by decide +kernel
theorem dX1_limbAt_26 : decode cX1_limbAt 26 = .ok (.iaload, 1) := by decide +kernel
theorem dX1_limbAt_27 : decode cX1_limbAt 27 = .ok (.goto 4, 3) := by decide +kernel
theorem dX1_limbAt_30 : decode cX1_limbAt 30 = .ok (.iconst 0, 1) := by decide +kernel
theorem dX1_limbAt_31 : decode cX1_limbAt 31 = .ok (.ireturn, 1) := by decide +kernel
set_option maxRecDepth 20000 in
theorem ggX1_times_X1_append : GoodIn wsX1_times wsX1_append := goodIn_r _ [8, 1, 2, 17, 18] (by decide +kernel) (by decide +kernel)
set_option maxRecDepth 20000 in
theorem gX1_times_X1_append : GoodIn wsX1_times (wsV RX1 17 RX1 yX1_append wsX1_append) := goodIn_app (goodIn_of _ (by decide +kernel)) ggX1_times_X1_append
set_option maxRecDepth 20000 in
theorem ggX1_times_X1_trim : GoodIn wsX1_times wsX1_trim := goodIn_r _ [12, 1, 13, 14, 15, 7, 16, 2, 17, 18] (by decide +kernel) (by decide +kernel)
set_option maxRecDepth 20000 in
theorem gX1_times_X1_trim : GoodIn wsX1_times (wsV RX1 23 RX1 yX1_trim wsX1_trim) := goodIn_app (goodIn_of _ (by decide +kernel)) ggX1_times_X1_trim
theorem dX1_times_0 : decode cX1_times 0 = .ok (.lconst 0, 1) := by decide +kernel
theorem dX1_times_1 : decode cX1_times 1 = .ok (.lstore_n 2, 1) := by decide +kernel
theorem dX1_times_2 : decode cX1_times 2 = .ok (.iconst 0, 1) := by decide +kernel
theorem dX1_times_3 : decode cX1_times 3 = .ok (.istore 4, 2) := by decide +kernel
theorem dX1_times_5 : decode cX1_times 5 = .ok (.iload 4, 2) := by decide +kernel
theorem dX1_times_7 : decode cX1_times 7 = .ok (.aload_n 0, 1) := by decide +kernel
theorem dX1_times_8 : decode cX1_times 8 = .ok (.getfield 13, 3) := by decide +kernel
theorem dX1_times_11 : decode cX1_times 11 = .ok (.if_icmp .ge 51, 3) := by decide +kernel
theorem dX1_times_14 : decode cX1_times 14 = .ok (.iload 4, 2) := by decide +kernel
theorem dX1_times_16 : decode cX1_times 16 = .ok (.aload_n 0, 1) := by decide +kernel
theorem dX1_times_17 : decode cX1_times 17 = .ok (.getfield 9, 3) := by decide +kernel
theorem dX1_times_20 : decode cX1_times 20 = .ok (.arraylength, 1) := by decide +kernel
theorem dX1_times_21 : decode cX1_times 21 = .ok (.if_icmp .ge 41, 3) := by decide +kernel
theorem dX1_times_24 : decode cX1_times 24 = .ok (.lload_n 2, 1) := by decide +kernel
theorem dX1_times_25 : decode cX1_times 25 = .ok (.aload_n 0, 1) := by decide +kernel
theorem dX1_times_26 : decode cX1_times 26 = .ok (.getfield 9, 3) := by decide +kernel
theorem dX1_times_29 : decode cX1_times 29 = .ok (.iload 4, 2) := by decide +kernel
theorem dX1_times_31 : decode cX1_times 31 = .ok (.iaload, 1) := by decide +kernel
theorem dX1_times_32 : decode cX1_times 32 = .ok (.i2l, 1) := by decide +kernel
theorem dX1_times_33 : decode cX1_times 33 = .ok (.iload_n 1, 1) := by decide +kernel
theorem dX1_times_34 : decode cX1_times 34 = .ok (.i2l, 1) := by decide +kernel
theorem dX1_times_35 : decode cX1_times 35 = .ok (.lmul, 1) := by decide +kernel
theorem dX1_times_36 : decode cX1_times 36 = .ok (.ladd, 1) := by decide +kernel
theorem dX1_times_37 : decode cX1_times 37 = .ok (.lstore_n 2, 1) := by decide +kernel
theorem dX1_times_38 : decode cX1_times 38 = .ok (.aload_n 0, 1) := by decide +kernel
theorem dX1_times_39 : decode cX1_times 39 = .ok (.getfield 9, 3) := by decide +kernel
theorem dX1_times_42 : decode cX1_times 42 = .ok (.iload 4, 2) := by decide +kernel
theorem dX1_times_44 : decode cX1_times 44 = .ok (.lload_n 2, 1) := by decide +kernel
theorem dX1_times_45 : decode cX1_times 45 = .ok (.ldc2_w 21, 3) := by decide +kernel
theorem dX1_times_48 : decode cX1_times 48 = .ok (.land, 1) := by decide +kernel
theorem dX1_times_49 : decode cX1_times 49 = .ok (.l2i, 1) := by decide +kernel
theorem dX1_times_50 : decode cX1_times 50 = .ok (.iastore, 1) := by decide +kernel
theorem dX1_times_51 : decode cX1_times 51 = .ok (.lload_n 2, 1) := by decide +kernel
theorem dX1_times_52 : decode cX1_times 52 = .ok (.bipush 31, 2) := by decide +kernel
theorem dX1_times_54 : decode cX1_times 54 = .ok (.lshr, 1) := by decide +kernel
theorem dX1_times_55 : decode cX1_times 55 = .ok (.lstore_n 2, 1) := by decide +kernel
theorem dX1_times_56 : decode cX1_times 56 = .ok (.iinc 4 1, 3) := by decide +kernel
theorem dX1_times_59 : decode cX1_times 59 = .ok (.goto (-54), 3) := by decide +kernel
theorem dX1_times_62 : decode cX1_times 62 = .ok (.aload_n 0, 1) := by decide +kernel
theorem dX1_times_63 : decode cX1_times 63 = .ok (.lload_n 2, 1) := by decide +kernel
theorem dX1_times_64 : decode cX1_times 64 = .ok (.invokevirtual 17, 3) := by decide +kernel
theorem dX1_times_67 : decode cX1_times 67 = .ok (.aload_n 0, 1) := by decide +kernel
theorem dX1_times_68 : decode cX1_times 68 = .ok (.invokevirtual 23, 3) := by decide +kernel
theorem dX1_times_71 : decode cX1_times 71 = .ok (.return_, 1) := by decide +kernel
set_option maxRecDepth 20000 in
theorem ggX1_plusTimes_X1_limbAt : GoodIn wsX1_plusTimes wsX1_limbAt := goodIn_r _ [8, 1, 2, 17, 18] (by decide +kernel) (by decide +kernel)
set_option maxRecDepth 20000 in
theorem gX1_plusTimes_X1_limbAt : GoodIn wsX1_plusTimes (wsV RX1 26 RX1 yX1_limbAt wsX1_limbAt) := goodIn_app (goodIn_of _ (by decide +kernel)) ggX1_plusTimes_X1_limbAt
set_option maxRecDepth 20000 in
theorem ggX1_plusTimes_X1_append : GoodIn wsX1_plusTimes wsX1_append := goodIn_r _ [12, 1, 2, 17, 18] (by decide +kernel) (by decide +kernel)
set_option maxRecDepth 20000 in
theorem gX1_plusTimes_X1_append : GoodIn wsX1_plusTimes (wsV RX1 17 RX1 yX1_append wsX1_append) := goodIn_app (goodIn_of _ (by decide +kernel)) ggX1_plusTimes_X1_append
set_option maxRecDepth 20000 in
theorem ggX1_plusTimes_X1_trim : GoodIn wsX1_plusTimes wsX1_trim := goodIn_r _ [16, 1, 4, 5, 6, 7, 8, 2, 17, 18] (by decide +kernel) (by decide +kernel)
set_option maxRecDepth 20000 in
theorem gX1_plusTimes_X1_trim : GoodIn wsX1_plusTimes (wsV RX1 23 RX1 yX1_trim wsX1_trim) := goodIn_app (goodIn_of _ (by decide +kernel)) ggX1_plusTimes_X1_trim
theorem dX1_plusTimes_0 : decode cX1_plusTimes 0 = .ok (.aload_n 0, 1) := by decide +kernel
theorem dX1_plusTimes_1 : decode cX1_plusTimes 1 = .ok (.getfield 13, 3) := by decide +kernel
theorem dX1_plusTimes_4 : decode cX1_plusTimes 4 = .ok (.aload_n 1, 1) := by decide +kernel
theorem dX1_plusTimes_5 : decode cX1_plusTimes 5 = .ok (.getfield 13, 3) := by decide +kernel
theorem dX1_plusTimes_8 : decode cX1_plusTimes 8 = .ok (.if_icmp .le 10, 3) := by decide +kernel
theorem dX1_plusTimes_11 : decode cX1_plusTimes 11 = .ok (.aload_n 0, 1) := by decide +kernel
theorem dX1_plusTimes_12 : decode cX1_plusTimes 12 = .ok (.getfield 13, 3) := by decide +kernel
theorem dX1_plusTimes_15 : decode cX1_plusTimes 15 = .ok (.goto 7, 3) := by decide +kernel
theorem dX1_plusTimes_18 : decode cX1_plusTimes 18 = .ok (.aload_n 1, 1) := by decide +kernel
theorem dX1_plusTimes_19 : decode cX1_plusTimes 19 = .ok (.getfield 13, 3) := by decide +kernel
theorem dX1_plusTimes_22 : decode cX1_plusTimes 22 = .ok (.istore_n 3, 1) := by decide +kernel
theorem dX1_plusTimes_23 : decode cX1_plusTimes 23 = .ok (.lconst 0, 1) := by decide +kernel
theorem dX1_plusTimes_24 : decode cX1_plusTimes 24 = .ok (.lstore 4, 2) := by decide +kernel
theorem dX1_plusTimes_26 : decode cX1_plusTimes 26 = .ok (.iconst 0, 1) := by decide +kernel
theorem dX1_plusTimes_27 : decode cX1_plusTimes 27 = .ok (.istore 6, 2) := by decide +kernel
theorem dX1_plusTimes_29 : decode cX1_plusTimes 29 = .ok (.iload 6, 2) := by decide +kernel
theorem dX1_plusTimes_31 : decode cX1_plusTimes 31 = .ok (.iload_n 3, 1) := by decide +kernel
theorem dX1_plusTimes_32 : decode cX1_plusTimes 32 = .ok (.if_icmp .ge 63, 3) := by decide +kernel
theorem dX1_plusTimes_35 : decode cX1_plusTimes 35 = .ok (.iload 6, 2) := by decide +kernel
theorem dX1_plusTimes_37 : decode cX1_plusTimes 37 = .ok (.aload_n 0, 1) := by decide +kernel
theorem dX1_plusTimes_38 : decode cX1_plusTimes 38 = .ok (.getfield 9, 3) := by decide +kernel
theorem dX1_plusTimes_41 : decode cX1_plusTimes 41 = .ok (.arraylength, 1) := by decide +kernel
theorem dX1_plusTimes_42 : decode cX1_plusTimes 42 = .ok (.if_icmp .ge 53, 3) := by decide +kernel
theorem dX1_plusTimes_45 : decode cX1_plusTimes 45 = .ok (.lload 4, 2) := by decide +kernel
theorem dX1_plusTimes_47 : decode cX1_plusTimes 47 = .ok (.aload_n 0, 1) := by decide +kernel
theorem dX1_plusTimes_48 : decode cX1_plusTimes 48 = .ok (.iload 6, 2) := by decide +kernel
theorem dX1_plusTimes_50 : decode cX1_plusTimes 50 = .ok (.invokevirtual 26, 3) := by decide +kernel
theorem dX1_plusTimes_53 : decode cX1_plusTimes 53 = .ok (.i2l, 1) := by decide +kernel
theorem dX1_plusTimes_54 : decode cX1_plusTimes 54 = .ok (.aload_n 1, 1) := by decide +kernel
theorem dX1_plusTimes_55 : decode cX1_plusTimes 55 = .ok (.iload 6, 2) := by decide +kernel
theorem dX1_plusTimes_57 : decode cX1_plusTimes 57 = .ok (.invokevirtual 26, 3) := by decide +kernel
theorem dX1_plusTimes_60 : decode cX1_plusTimes 60 = .ok (.i2l, 1) := by decide +kernel
theorem dX1_plusTimes_61 : decode cX1_plusTimes 61 = .ok (.iload_n 2, 1) := by decide +kernel
theorem dX1_plusTimes_62 : decode cX1_plusTimes 62 = .ok (.i2l, 1) := by decide +kernel
theorem dX1_plusTimes_63 : decode cX1_plusTimes 63 = .ok (.lmul, 1) := by decide +kernel
theorem dX1_plusTimes_64 : decode cX1_plusTimes 64 = .ok (.ladd, 1) := by decide +kernel
theorem dX1_plusTimes_65 : decode cX1_plusTimes 65 = .ok (.ladd, 1) := by decide +kernel
theorem dX1_plusTimes_66 : decode cX1_plusTimes 66 = .ok (.lstore 4, 2) := by decide +kernel
theorem dX1_plusTimes_68 : decode cX1_plusTimes 68 = .ok (.aload_n 0, 1) := by decide +kernel
theorem dX1_plusTimes_69 : decode cX1_plusTimes 69 = .ok (.getfield 9, 3) := by decide +kernel
theorem dX1_plusTimes_72 : decode cX1_plusTimes 72 = .ok (.iload 6, 2) := by decide +kernel
theorem dX1_plusTimes_74 : decode cX1_plusTimes 74 = .ok (.lload 4, 2) := by decide +kernel
theorem dX1_plusTimes_76 : decode cX1_plusTimes 76 = .ok (.ldc2_w 21, 3) := by decide +kernel
theorem dX1_plusTimes_79 : decode cX1_plusTimes 79 = .ok (.land, 1) := by decide +kernel
theorem dX1_plusTimes_80 : decode cX1_plusTimes 80 = .ok (.l2i, 1) := by decide +kernel
theorem dX1_plusTimes_81 : decode cX1_plusTimes 81 = .ok (.iastore, 1) := by decide +kernel
theorem dX1_plusTimes_82 : decode cX1_plusTimes 82 = .ok (.lload 4, 2) := by decide +kernel
theorem dX1_plusTimes_84 : decode cX1_plusTimes 84 = .ok (.bipush 31, 2) := by decide +kernel
theorem dX1_plusTimes_86 : decode cX1_plusTimes 86 = .ok (.lshr, 1) := by decide +kernel
theorem dX1_plusTimes_87 : decode cX1_plusTimes 87 = .ok (.lstore 4, 2) := by decide +kernel
theorem dX1_plusTimes_89 : decode cX1_plusTimes 89 = .ok (.iinc 6 1, 3) := by decide +kernel
theorem dX1_plusTimes_92 : decode cX1_plusTimes 92 = .ok (.goto (-63), 3) := by decide +kernel
theorem dX1_plusTimes_95 : decode cX1_plusTimes 95 = .ok (.aload_n 0, 1) := by decide +kernel
theorem dX1_plusTimes_96 : decode cX1_plusTimes 96 = .ok (.iload_n 3, 1) := by decide +kernel
theorem dX1_plusTimes_97 : decode cX1_plusTimes 97 = .ok (.putfield 13, 3) := by decide +kernel
theorem dX1_plusTimes_100 : decode cX1_plusTimes 100 = .ok (.aload_n 0, 1) := by decide +kernel
theorem dX1_plusTimes_101 : decode cX1_plusTimes 101 = .ok (.lload 4, 2) := by decide +kernel
theorem dX1_plusTimes_103 : decode cX1_plusTimes 103 = .ok (.invokevirtual 17, 3) := by decide +kernel
theorem dX1_plusTimes_106 : decode cX1_plusTimes 106 = .ok (.aload_n 0, 1) := by decide +kernel
theorem dX1_plusTimes_107 : decode cX1_plusTimes 107 = .ok (.invokevirtual 23, 3) := by decide +kernel
theorem dX1_plusTimes_110 : decode cX1_plusTimes 110 = .ok (.return_, 1) := by decide +kernel
set_option maxRecDepth 20000 in
theorem ggX1_divideBy_X1_trim : GoodIn wsX1_divideBy wsX1_trim := goodIn_r _ [7, 1, 8, 9, 10, 6, 11, 2, 12, 13] (by decide +kernel) (by decide +kernel)
set_option maxRecDepth 20000 in
theorem gX1_divideBy_X1_trim : GoodIn wsX1_divideBy (wsV RX1 23 RX1 yX1_trim wsX1_trim) := goodIn_app (goodIn_of _ (by decide +kernel)) ggX1_divideBy_X1_trim
theorem dX1_divideBy_0 : decode cX1_divideBy 0 = .ok (.iload_n 1, 1) := by decide +kernel
theorem dX1_divideBy_1 : decode cX1_divideBy 1 = .ok (.iconst 1, 1) := by decide +kernel
theorem dX1_divideBy_2 : decode cX1_divideBy 2 = .ok (.if_icmp .ge 4, 3) := by decide +kernel
theorem dX1_divideBy_5 : decode cX1_divideBy 5 = .ok (.return_, 1) := by decide +kernel
theorem dX1_divideBy_6 : decode cX1_divideBy 6 = .ok (.lconst 0, 1) := by decide +kernel
theorem dX1_divideBy_7 : decode cX1_divideBy 7 = .ok (.lstore_n 2, 1) := by decide +kernel
theorem dX1_divideBy_8 : decode cX1_divideBy 8 = .ok (.aload_n 0, 1) := by decide +kernel
theorem dX1_divideBy_9 : decode cX1_divideBy 9 = .ok (.getfield 13, 3) := by decide +kernel
theorem dX1_divideBy_12 : decode cX1_divideBy 12 = .ok (.iconst 1, 1) := by decide +kernel
theorem dX1_divideBy_13 : decode cX1_divideBy 13 = .ok (.isub, 1) := by decide +kernel
theorem dX1_divideBy_14 : decode cX1_divideBy 14 = .ok (.istore 4, 2) := by decide +kernel
theorem dX1_divideBy_16 : decode cX1_divideBy 16 = .ok (.iload 4, 2) := by decide +kernel
theorem dX1_divideBy_18 : decode cX1_divideBy 18 = .ok (.ifCond .lt 50, 3) := by decide +kernel
theorem dX1_divideBy_21 : decode cX1_divideBy 21 = .ok (.iload 4, 2) := by decide +kernel
theorem dX1_divideBy_23 : decode cX1_divideBy 23 = .ok (.aload_n 0, 1) := by decide +kernel
theorem dX1_divideBy_24 : decode cX1_divideBy 24 = .ok (.getfield 9, 3) := by decide +kernel
theorem dX1_divideBy_27 : decode cX1_divideBy 27 = .ok (.arraylength, 1) := by decide +kernel
theorem dX1_divideBy_28 : decode cX1_divideBy 28 = .ok (.if_icmp .ge 40, 3) := by decide +kernel
theorem dX1_divideBy_31 : decode cX1_divideBy 31 = .ok (.lload_n 2, 1) := by decide +kernel
theorem dX1_divideBy_32 : decode cX1_divideBy 32 = .ok (.bipush 31, 2) := by decide +kernel
theorem dX1_divideBy_34 : decode cX1_divideBy 34 = .ok (.lshl, 1) := by decide +kernel
theorem dX1_divideBy_35 : decode cX1_divideBy 35 = .ok (.aload_n 0, 1) := by decide +kernel
theorem dX1_divideBy_36 : decode cX1_divideBy 36 = .ok (.getfield 9, 3) := by decide +kernel
theorem dX1_divideBy_39 : decode cX1_divideBy 39 = .ok (.iload 4, 2) := by decide +kernel
theorem dX1_divideBy_41 : decode cX1_divideBy 41 = .ok (.iaload, 1) := by decide +kernel
theorem dX1_divideBy_42 : decode cX1_divideBy 42 = .ok (.i2l, 1) := by decide +kernel
theorem dX1_divideBy_43 : decode cX1_divideBy 43 = .ok (.ladd, 1) := by decide +kernel
theorem dX1_divideBy_44 : decode cX1_divideBy 44 = .ok (.lstore_n 2, 1) := by decide +kernel
theorem dX1_divideBy_45 : decode cX1_divideBy 45 = .ok (.aload_n 0, 1) := by decide +kernel
theorem dX1_divideBy_46 : decode cX1_divideBy 46 = .ok (.getfield 9, 3) := by decide +kernel
theorem dX1_divideBy_49 : decode cX1_divideBy 49 = .ok (.iload 4, 2) := by decide +kernel
theorem dX1_divideBy_51 : decode cX1_divideBy 51 = .ok (.lload_n 2, 1) := by decide +kernel
theorem dX1_divideBy_52 : decode cX1_divideBy 52 = .ok (.iload_n 1, 1) := by decide +kernel
theorem dX1_divideBy_53 : decode cX1_divideBy 53 = .ok (.i2l, 1) := by decide +kernel
theorem dX1_divideBy_54 : decode cX1_divideBy 54 = .ok (.ldiv, 1) := by decide +kernel
theorem dX1_divideBy_55 : decode cX1_divideBy 55 = .ok (.l2i, 1) := by decide +kernel
theorem dX1_divideBy_56 : decode cX1_divideBy 56 = .ok (.iastore, 1) := by decide +kernel
theorem dX1_divideBy_57 : decode cX1_divideBy 57 = .ok (.lload_n 2, 1) := by decide +kernel
theorem dX1_divideBy_58 : decode cX1_divideBy 58 = .ok (.iload_n 1, 1) := by decide +kernel
theorem dX1_divideBy_59 : decode cX1_divideBy 59 = .ok (.i2l, 1) := by decide +kernel
theorem dX1_divideBy_60 : decode cX1_divideBy 60 = .ok (.lrem, 1) := by decide +kernel
theorem dX1_divideBy_61 : decode cX1_divideBy 61 = .ok (.lstore_n 2, 1) := by decide +kernel
theorem dX1_divideBy_62 : decode cX1_divideBy 62 = .ok (.iinc 4 (-1), 3) := by decide +kernel
theorem dX1_divideBy_65 : decode cX1_divideBy 65 = .ok (.goto (-49), 3) := by decide +kernel
theorem dX1_divideBy_68 : decode cX1_divideBy 68 = .ok (.aload_n 0, 1) := by decide +kernel
theorem dX1_divideBy_69 : decode cX1_divideBy 69 = .ok (.invokevirtual 23, 3) := by decide +kernel
theorem dX1_divideBy_72 : decode cX1_divideBy 72 = .ok (.return_, 1) := by decide +kernel
set_option maxRecDepth 20000 in
theorem ggX1_restBy_X1_limbAt : GoodIn wsX1_restBy wsX1_limbAt := goodIn_r _ [6, 1, 7, 8, 9] (by decide +kernel) (by decide +kernel)
set_option maxRecDepth 20000 in
theorem gX1_restBy_X1_limbAt : GoodIn wsX1_restBy (wsV RX1 26 RX1 yX1_limbAt wsX1_limbAt) := goodIn_app (goodIn_of _ (by decide +kernel)) ggX1_restBy_X1_limbAt
theorem dX1_restBy_0 : decode cX1_restBy 0 = .ok (.iload_n 1, 1) := by decide +kernel
theorem dX1_restBy_1 : decode cX1_restBy 1 = .ok (.iconst 1, 1) := by decide +kernel
theorem dX1_restBy_2 : decode cX1_restBy 2 = .ok (.if_icmp .ge 5, 3) := by decide +kernel
theorem dX1_restBy_5 : decode cX1_restBy 5 = .ok (.iconst 0, 1) := by decide +kernel
theorem dX1_restBy_6 : decode cX1_restBy 6 = .ok (.ireturn, 1) := by decide +kernel
theorem dX1_restBy_7 : decode cX1_restBy 7 = .ok (.lconst 0, 1) := by decide +kernel
theorem dX1_restBy_8 : decode cX1_restBy 8 = .ok (.lstore_n 2, 1) := by decide +kernel
theorem dX1_restBy_9 : decode cX1_restBy 9 = .ok (.aload_n 0, 1) := by decide +kernel
theorem dX1_restBy_10 : decode cX1_restBy 10 = .ok (.getfield 13, 3) := by decide +kernel
theorem dX1_restBy_13 : decode cX1_restBy 13 = .ok (.iconst 1, 1) := by decide +kernel
theorem dX1_restBy_14 : decode cX1_restBy 14 = .ok (.isub, 1) := by decide +kernel
theorem dX1_restBy_15 : decode cX1_restBy 15 = .ok (.istore 4, 2) := by decide +kernel
theorem dX1_restBy_17 : decode cX1_restBy 17 = .ok (.iload 4, 2) := by decide +kernel
theorem dX1_restBy_19 : decode cX1_restBy 19 = .ok (.ifCond .lt 25, 3) := by decide +kernel
theorem dX1_restBy_22 : decode cX1_restBy 22 = .ok (.lload_n 2, 1) := by decide +kernel
theorem dX1_restBy_23 : decode cX1_restBy 23 = .ok (.bipush 31, 2) := by decide +kernel
theorem dX1_restBy_25 : decode cX1_restBy 25 = .ok (.lshl, 1) := by decide +kernel
theorem dX1_restBy_26 : decode cX1_restBy 26 = .ok (.aload_n 0, 1) := by decide +kernel
theorem dX1_restBy_27 : decode cX1_restBy 27 = .ok (.iload 4, 2) := by decide +kernel
theorem dX1_restBy_29 : decode cX1_restBy 29 = .ok (.invokevirtual 26, 3) := by decide +kernel
theorem dX1_restBy_32 : decode cX1_restBy 32 = .ok (.i2l, 1) := by decide +kernel
theorem dX1_restBy_33 : decode cX1_restBy 33 = .ok (.ladd, 1) := by decide +kernel
theorem dX1_restBy_34 : decode cX1_restBy 34 = .ok (.iload_n 1, 1) := by decide +kernel
theorem dX1_restBy_35 : decode cX1_restBy 35 = .ok (.i2l, 1) := by decide +kernel
theorem dX1_restBy_36 : decode cX1_restBy 36 = .ok (.lrem, 1) := by decide +kernel
theorem dX1_restBy_37 : decode cX1_restBy 37 = .ok (.lstore_n 2, 1) := by decide +kernel
theorem dX1_restBy_38 : decode cX1_restBy 38 = .ok (.iinc 4 (-1), 3) := by decide +kernel
theorem dX1_restBy_41 : decode cX1_restBy 41 = .ok (.goto (-24), 3) := by decide +kernel
theorem dX1_restBy_44 : decode cX1_restBy 44 = .ok (.lload_n 2, 1) := by decide +kernel
theorem dX1_restBy_45 : decode cX1_restBy 45 = .ok (.l2i, 1) := by decide +kernel
theorem dX1_restBy_46 : decode cX1_restBy 46 = .ok (.ireturn, 1) := by decide +kernel
set_option maxRecDepth 20000 in
theorem ggX1_isLess_X1_limbAt : GoodIn wsX1_isLess wsX1_limbAt := goodIn_r _ [6, 1, 7, 8, 9] (by decide +kernel) (by decide +kernel)
set_option maxRecDepth 20000 in
theorem gX1_isLess_X1_limbAt : GoodIn wsX1_isLess (wsV RX1 26 RX1 yX1_limbAt wsX1_limbAt) := goodIn_app (goodIn_of _ (by decide +kernel)) ggX1_isLess_X1_limbAt
theorem dX1_isLess_0 : decode cX1_isLess 0 = .ok (.aload_n 0, 1) := by decide +kernel
theorem dX1_isLess_1 : decode cX1_isLess 1 = .ok (.getfield 13, 3) := by decide +kernel
theorem dX1_isLess_4 : decode cX1_isLess 4 = .ok (.aload_n 2, 1) := by decide +kernel
theorem dX1_isLess_5 : decode cX1_isLess 5 = .ok (.getfield 13, 3) := by decide +kernel
theorem dX1_isLess_8 : decode cX1_isLess 8 = .ok (.if_icmp .le 10, 3) := by decide +kernel
theorem dX1_isLess_11 : decode cX1_isLess 11 = .ok (.aload_n 0, 1) := by decide +kernel
theorem dX1_isLess_12 : decode cX1_isLess 12 = .ok (.getfield 13, 3) := by decide +kernel
theorem dX1_isLess_15 : decode cX1_isLess 15 = .ok (.goto 7, 3) := by decide +kernel
theorem dX1_isLess_18 : decode cX1_isLess 18 = .ok (.aload_n 2, 1) := by decide +kernel
theorem dX1_isLess_19 : decode cX1_isLess 19 = .ok (.getfield 13, 3) := by decide +kernel
theorem dX1_isLess_22 : decode cX1_isLess 22 = .ok (.istore 4, 2) := by decide +kernel
theorem dX1_isLess_24 : decode cX1_isLess 24 = .ok (.lconst 0, 1) := by decide +kernel
theorem dX1_isLess_25 : decode cX1_isLess 25 = .ok (.lstore 5, 2) := by decide +kernel
theorem dX1_isLess_27 : decode cX1_isLess 27 = .ok (.iconst 0, 1) := by decide +kernel
theorem dX1_isLess_28 : decode cX1_isLess 28 = .ok (.istore 7, 2) := by decide +kernel
theorem dX1_isLess_30 : decode cX1_isLess 30 = .ok (.iload 7, 2) := by decide +kernel
theorem dX1_isLess_32 : decode cX1_isLess 32 = .ok (.iload 4, 2) := by decide +kernel
theorem dX1_isLess_34 : decode cX1_isLess 34 = .ok (.if_icmp .ge 42, 3) := by decide +kernel
theorem dX1_isLess_37 : decode cX1_isLess 37 = .ok (.lload 5, 2) := by decide +kernel
theorem dX1_isLess_39 : decode cX1_isLess 39 = .ok (.aload_n 0, 1) := by decide +kernel
theorem dX1_isLess_40 : decode cX1_isLess 40 = .ok (.iload 7, 2) := by decide +kernel
theorem dX1_isLess_42 : decode cX1_isLess 42 = .ok (.invokevirtual 26, 3) := by decide +kernel
theorem dX1_isLess_45 : decode cX1_isLess 45 = .ok (.i2l, 1) := by decide +kernel
theorem dX1_isLess_46 : decode cX1_isLess 46 = .ok (.iload_n 1, 1) := by decide +kernel
theorem dX1_isLess_47 : decode cX1_isLess 47 = .ok (.i2l, 1) := by decide +kernel
theorem dX1_isLess_48 : decode cX1_isLess 48 = .ok (.lmul, 1) := by decide +kernel
theorem dX1_isLess_49 : decode cX1_isLess 49 = .ok (.aload_n 2, 1) := by decide +kernel
theorem dX1_isLess_50 : decode cX1_isLess 50 = .ok (.iload 7, 2) := by decide +kernel
theorem dX1_isLess_52 : decode cX1_isLess 52 = .ok (.invokevirtual 26, 3) := by decide +kernel
theorem dX1_isLess_55 : decode cX1_isLess 55 = .ok (.i2l, 1) := by decide +kernel
theorem dX1_isLess_56 : decode cX1_isLess 56 = .ok (.iload_n 3, 1) := by decide +kernel
theorem dX1_isLess_57 : decode cX1_isLess 57 = .ok (.i2l, 1) := by decide +kernel
theorem dX1_isLess_58 : decode cX1_isLess 58 = .ok (.lmul, 1) := by decide +kernel
theorem dX1_isLess_59 : decode cX1_isLess 59 = .ok (.lsub, 1) := by decide +kernel
theorem dX1_isLess_60 : decode cX1_isLess 60 = .ok (.ladd, 1) := by decide +kernel
theorem dX1_isLess_61 : decode cX1_isLess 61 = .ok (.lstore 5, 2) := by decide +kernel
theorem dX1_isLess_63 : decode cX1_isLess 63 = .ok (.lload 5, 2) := by decide +kernel
theorem dX1_isLess_65 : decode cX1_isLess 65 = .ok (.bipush 31, 2) := by decide +kernel
theorem dX1_isLess_67 : decode cX1_isLess 67 = .ok (.lshr, 1) := by decide +kernel
theorem dX1_isLess_68 : decode cX1_isLess 68 = .ok (.lstore 5, 2) := by decide +kernel
theorem dX1_isLess_70 : decode cX1_isLess 70 = .ok (.iinc 7 1, 3) := by decide +kernel
theorem dX1_isLess_73 : decode cX1_isLess 73 = .ok (.goto (-43), 3) := by decide +kernel
theorem dX1_isLess_76 : decode cX1_isLess 76 = .ok (.lload 5, 2) := by decide +kernel
theorem dX1_isLess_78 : decode cX1_isLess 78 = .ok (.lconst 0, 1) := by decide +kernel
theorem dX1_isLess_79 : decode cX1_isLess 79 = .ok (.lcmp, 1) := by decide +kernel
theorem dX1_isLess_80 : decode cX1_isLess 80 = .ok (.ifCond .ge 7, 3) := by decide +kernel
theorem dX1_isLess_83 : decode cX1_isLess 83 = .ok (.iconst 1, 1) := by decide +kernel
theorem dX1_isLess_84 : decode cX1_isLess 84 = .ok (.goto 4, 3) := by decide +kernel
theorem dX1_isLess_87 : decode cX1_isLess 87 = .ok (.iconst 0, 1) := by decide +kernel
theorem dX1_isLess_88 : decode cX1_isLess 88 = .ok (.ireturn, 1) := by decide +kernel
theorem dX1_append_0 : decode cX1_append 0 = .ok (.lload_n 1, 1) := by decide +kernel
theorem dX1_append_1 : decode cX1_append 1 = .ok (.lconst 0, 1) := by decide +kernel
theorem dX1_append_2 : decode cX1_append 2 = .ok (.lcmp, 1) := by decide +kernel
theorem dX1_append_3 : decode cX1_append 3 = .ok (.ifCond .le 43, 3) := by decide +kernel
theorem dX1_append_6 : decode cX1_append 6 = .ok (.aload_n 0, 1) := by decide +kernel
theorem dX1_append_7 : decode cX1_append 7 = .ok (.getfield 13, 3) := by decide +kernel
theorem dX1_append_10 : decode cX1_append 10 = .ok (.ifCond .lt 36, 3) := by decide +kernel
theorem dX1_append_13 : decode cX1_append 13 = .ok (.aload_n 0, 1) := by decide +kernel
theorem dX1_append_14 : decode cX1_append 14 = .ok (.getfield 13, 3) := by decide +kernel
theorem dX1_append_17 : decode cX1_append 17 = .ok (.aload_n 0, 1) := by decide +kernel
theorem dX1_append_18 : decode cX1_append 18 = .ok (.getfield 9, 3) := by decide +kernel
theorem dX1_append_21 : decode cX1_append 21 = .ok (.arraylength, 1) := by decide +kernel
theorem dX1_append_22 : decode cX1_append 22 = .ok (.if_icmp .ge 24, 3) := by decide +kernel
theorem dX1_append_25 : decode cX1_append 25 = .ok (.aload_n 0, 1) := by decide +kernel
theorem dX1_append_26 : decode cX1_append 26 = .ok (.getfield 9, 3) := by decide +kernel
theorem dX1_append_29 : decode cX1_append 29 = .ok (.aload_n 0, 1) := by decide +kernel
theorem dX1_append_30 : decode cX1_append 30 = .ok (.getfield 13, 3) := by decide +kernel
theorem dX1_append_33 : decode cX1_append 33 = .ok (.lload_n 1, 1) := by decide +kernel
theorem dX1_append_34 : decode cX1_append 34 = .ok (.l2i, 1) := by decide +kernel
theorem dX1_append_35 : decode cX1_append 35 = .ok (.iastore, 1) := by decide +kernel
theorem dX1_append_36 : decode cX1_append 36 = .ok (.aload_n 0, 1) := by decide +kernel
theorem dX1_append_37 : decode cX1_append 37 = .ok (.dup, 1) := by decide +kernel
theorem dX1_append_38 : decode cX1_append 38 = .ok (.getfield 13, 3) := by decide +kernel
theorem dX1_append_41 : decode cX1_append 41 = .ok (.iconst 1, 1) := by decide +kernel
theorem dX1_append_42 : decode cX1_append 42 = .ok (.iadd, 1) := by decide +kernel
theorem dX1_append_43 : decode cX1_append 43 = .ok (.putfield 13, 3) := by decide +kernel
theorem dX1_append_46 : decode cX1_append 46 = .ok (.return_, 1) := by decide +kernel
set_option maxRecDepth 20000 in
theorem ggX1_trim_X1_limbAt : GoodIn wsX1_trim wsX1_limbAt := goodIn_r _ [6, 1, 7, 8, 9] (by decide +kernel) (by decide +kernel)
set_option maxRecDepth 20000 in
theorem gX1_trim_X1_limbAt : GoodIn wsX1_trim (wsV RX1 26 RX1 yX1_limbAt wsX1_limbAt) := goodIn_app (goodIn_of _ (by decide +kernel)) ggX1_trim_X1_limbAt
theorem dX1_trim_0 : decode cX1_trim 0 = .ok (.aload_n 0, 1) := by decide +kernel
theorem dX1_trim_1 : decode cX1_trim 1 = .ok (.getfield 13, 3) := by decide +kernel
theorem dX1_trim_4 : decode cX1_trim 4 = .ok (.ifCond .le 29, 3) := by decide +kernel
theorem dX1_trim_7 : decode cX1_trim 7 = .ok (.aload_n 0, 1) := by decide +kernel
theorem dX1_trim_8 : decode cX1_trim 8 = .ok (.aload_n 0, 1) := by decide +kernel
theorem dX1_trim_9 : decode cX1_trim 9 = .ok (.getfield 13, 3) := by decide +kernel
theorem dX1_trim_12 : decode cX1_trim 12 = .ok (.iconst 1, 1) := by decide +kernel
theorem dX1_trim_13 : decode cX1_trim 13 = .ok (.isub, 1) := by decide +kernel
theorem dX1_trim_14 : decode cX1_trim 14 = .ok (.invokevirtual 26, 3) := by decide +kernel
theorem dX1_trim_17 : decode cX1_trim 17 = .ok (.ifCond .ne 16, 3) := by decide +kernel
theorem dX1_trim_20 : decode cX1_trim 20 = .ok (.aload_n 0, 1) := by decide +kernel
theorem dX1_trim_21 : decode cX1_trim 21 = .ok (.dup, 1) := by decide +kernel
theorem dX1_trim_22 : decode cX1_trim 22 = .ok (.getfield 13, 3) := by decide +kernel
theorem dX1_trim_25 : decode cX1_trim 25 = .ok (.iconst 1, 1) := by decide +kernel
theorem dX1_trim_26 : decode cX1_trim 26 = .ok (.isub, 1) := by decide +kernel
theorem dX1_trim_27 : decode cX1_trim 27 = .ok (.putfield 13, 3) := by decide +kernel
theorem dX1_trim_30 : decode cX1_trim 30 = .ok (.goto (-30), 3) := by decide +kernel
theorem dX1_trim_33 : decode cX1_trim 33 = .ok (.return_, 1) := by decide +kernel
set_option maxRecDepth 20000 in
theorem ggX2_init_X1_init : GoodIn wsX2_init wsX1_init := goodIn_r _ [10, 11, 2, 3, 12, 13, 14, 15, 16] (by decide +kernel) (by decide +kernel)
set_option maxRecDepth 20000 in
theorem gX2_init_X1_init_n9 : GoodIn wsX2_init (wsX1_init) := ggX2_init_X1_init
theorem dX2_init_0 : decode cX2_init 0 = .ok (.aload_n 0, 1) := by decide +kernel
theorem dX2_init_1 : decode cX2_init 1 = .ok (.invokespecial 1, 3) := by decide +kernel
theorem dX2_init_4 : decode cX2_init 4 = .ok (.aload_n 0, 1) := by decide +kernel
theorem dX2_init_5 : decode cX2_init 5 = .ok (.new 7, 3) := by decide +kernel
theorem dX2_init_8 : decode cX2_init 8 = .ok (.dup, 1) := by decide +kernel
theorem dX2_init_9 : decode cX2_init 9 = .ok (.invokespecial 9, 3) := by decide +kernel
theorem dX2_init_12 : decode cX2_init 12 = .ok (.putfield 10, 3) := by decide +kernel
theorem dX2_init_15 : decode cX2_init 15 = .ok (.aload_n 0, 1) := by decide +kernel
theorem dX2_init_16 : decode cX2_init 16 = .ok (.new 7, 3) := by decide +kernel
theorem dX2_init_19 : decode cX2_init 19 = .ok (.dup, 1) := by decide +kernel
theorem dX2_init_20 : decode cX2_init 20 = .ok (.invokespecial 9, 3) := by decide +kernel
theorem dX2_init_23 : decode cX2_init 23 = .ok (.putfield 16, 3) := by decide +kernel
theorem dX2_init_26 : decode cX2_init 26 = .ok (.return_, 1) := by decide +kernel
set_option maxRecDepth 20000 in
theorem ggX2_reaches_X1_become : GoodIn wsX2_reaches wsX1_become := goodIn_r _ [9, 10, 11, 12, 13, 8, 14, 15, 43, 44] (by decide +kernel) (by decide +kernel)
set_option maxRecDepth 20000 in
theorem gX2_reaches_X1_become : GoodIn wsX2_reaches (wsV RX2 28 RX1 yX1_become wsX1_become) := goodIn_app (goodIn_of _ (by decide +kernel)) ggX2_reaches_X1_become
set_option maxRecDepth 20000 in
theorem ggX2_reaches_X1_times : GoodIn wsX2_reaches wsX1_times := goodIn_r _ [19, 10, 15, 20, 11, 12, 13, 8, 14, 21, 22, 23, 24, 25, 26, 27, 28, 43, 44] (by decide +kernel) (by decide +kernel)
set_option maxRecDepth 20000 in
theorem gX2_reaches_X1_times : GoodIn wsX2_reaches (wsV RX2 32 RX1 yX1_times wsX1_times) := goodIn_app (goodIn_of _ (by decide +kernel)) ggX2_reaches_X1_times
set_option maxRecDepth 20000 in
theorem ggX2_reaches_X1_isLess : GoodIn wsX2_reaches wsX1_isLess := goodIn_r _ [31, 10, 25, 26, 27, 8, 28, 15, 43, 44] (by decide +kernel) (by decide +kernel)
set_option maxRecDepth 20000 in
theorem gX2_reaches_X1_isLess : GoodIn wsX2_reaches (va_wsS RX2 35 yX1_isLess wsX1_isLess) := goodIn_app (goodIn_of _ (by decide +kernel)) ggX2_reaches_X1_isLess
set_option maxRecDepth 20000 in
theorem ggX2_reaches_X1_plusTimes : GoodIn wsX2_reaches wsX1_plusTimes := goodIn_r _ [35, 10, 15, 20, 25, 26, 27, 8, 28, 11, 12, 13, 14, 21, 22, 23, 24, 43, 44] (by decide +kernel) (by decide +kernel)
set_option maxRecDepth 20000 in
theorem gX2_reaches_X1_plusTimes : GoodIn wsX2_reaches (wsV RX2 39 RX1 yX1_plusTimes wsX1_plusTimes) := goodIn_app (goodIn_of _ (by decide +kernel)) ggX2_reaches_X1_plusTimes
theorem dX2_reaches_0 : decode cX2_reaches 0 = .ok (.aload_n 0, 1) := by decide +kernel
theorem dX2_reaches_1 : decode cX2_reaches 1 = .ok (.getfield 10, 3) := by decide +kernel
theorem dX2_reaches_4 : decode cX2_reaches 4 = .ok (.aload_n 1, 1) := by decide +kernel
theorem dX2_reaches_5 : decode cX2_reaches 5 = .ok (.getfield 19, 3) := by decide +kernel
theorem dX2_reaches_8 : decode cX2_reaches 8 = .ok (.aload_n 1, 1) := by decide +kernel
theorem dX2_reaches_9 : decode cX2_reaches 9 = .ok (.getfield 25, 3) := by decide +kernel
theorem dX2_reaches_12 : decode cX2_reaches 12 = .ok (.isub, 1) := by decide +kernel
theorem dX2_reaches_13 : decode cX2_reaches 13 = .ok (.invokevirtual 28, 3) := by decide +kernel
theorem dX2_reaches_16 : decode cX2_reaches 16 = .ok (.aload_n 0, 1) := by decide +kernel
theorem dX2_reaches_17 : decode cX2_reaches 17 = .ok (.getfield 16, 3) := by decide +kernel
theorem dX2_reaches_20 : decode cX2_reaches 20 = .ok (.aload_n 1, 1) := by decide +kernel
theorem dX2_reaches_21 : decode cX2_reaches 21 = .ok (.getfield 25, 3) := by decide +kernel
theorem dX2_reaches_24 : decode cX2_reaches 24 = .ok (.invokevirtual 28, 3) := by decide +kernel
theorem dX2_reaches_27 : decode cX2_reaches 27 = .ok (.iconst 1, 1) := by decide +kernel
theorem dX2_reaches_28 : decode cX2_reaches 28 = .ok (.istore 4, 2) := by decide +kernel
theorem dX2_reaches_30 : decode cX2_reaches 30 = .ok (.iload 4, 2) := by decide +kernel
theorem dX2_reaches_32 : decode cX2_reaches 32 = .ok (.bipush 60, 2) := by decide +kernel
theorem dX2_reaches_34 : decode cX2_reaches 34 = .ok (.if_icmp .gt 100, 3) := by decide +kernel
theorem dX2_reaches_37 : decode cX2_reaches 37 = .ok (.aload_n 0, 1) := by decide +kernel
theorem dX2_reaches_38 : decode cX2_reaches 38 = .ok (.getfield 10, 3) := by decide +kernel
theorem dX2_reaches_41 : decode cX2_reaches 41 = .ok (.iload_n 3, 1) := by decide +kernel
theorem dX2_reaches_42 : decode cX2_reaches 42 = .ok (.iload 4, 2) := by decide +kernel
theorem dX2_reaches_44 : decode cX2_reaches 44 = .ok (.imul, 1) := by decide +kernel
theorem dX2_reaches_45 : decode cX2_reaches 45 = .ok (.invokevirtual 32, 3) := by decide +kernel
theorem dX2_reaches_48 : decode cX2_reaches 48 = .ok (.aload_n 0, 1) := by decide +kernel
theorem dX2_reaches_49 : decode cX2_reaches 49 = .ok (.getfield 16, 3) := by decide +kernel
theorem dX2_reaches_52 : decode cX2_reaches 52 = .ok (.iload_n 2, 1) := by decide +kernel
theorem dX2_reaches_53 : decode cX2_reaches 53 = .ok (.invokevirtual 32, 3) := by decide +kernel
theorem dX2_reaches_56 : decode cX2_reaches 56 = .ok (.aload_n 0, 1) := by decide +kernel
theorem dX2_reaches_57 : decode cX2_reaches 57 = .ok (.getfield 16, 3) := by decide +kernel
theorem dX2_reaches_60 : decode cX2_reaches 60 = .ok (.iconst 1, 1) := by decide +kernel
theorem dX2_reaches_61 : decode cX2_reaches 61 = .ok (.aload_n 0, 1) := by decide +kernel
theorem dX2_reaches_62 : decode cX2_reaches 62 = .ok (.getfield 10, 3) := by decide +kernel
theorem dX2_reaches_65 : decode cX2_reaches 65 = .ok (.iconst 1, 1) := by decide +kernel
theorem dX2_reaches_66 : decode cX2_reaches 66 = .ok (.invokestatic 35, 3) := by decide +kernel
theorem dX2_reaches_69 : decode cX2_reaches 69 = .ok (.ifCond .ne 5, 3) := by decide +kernel
theorem dX2_reaches_72 : decode cX2_reaches 72 = .ok (.iconst 1, 1) := by decide +kernel
theorem dX2_reaches_73 : decode cX2_reaches 73 = .ok (.ireturn, 1) := by decide +kernel
theorem dX2_reaches_74 : decode cX2_reaches 74 = .ok (.aload_n 0, 1) := by decide +kernel
theorem dX2_reaches_75 : decode cX2_reaches 75 = .ok (.getfield 10, 3) := by decide +kernel
theorem dX2_reaches_78 : decode cX2_reaches 78 = .ok (.aload_n 0, 1) := by decide +kernel
theorem dX2_reaches_79 : decode cX2_reaches 79 = .ok (.getfield 16, 3) := by decide +kernel
theorem dX2_reaches_82 : decode cX2_reaches 82 = .ok (.iconst (-1), 1) := by decide +kernel
theorem dX2_reaches_83 : decode cX2_reaches 83 = .ok (.invokevirtual 39, 3) := by decide +kernel
theorem dX2_reaches_86 : decode cX2_reaches 86 = .ok (.iconst 2, 1) := by decide +kernel
theorem dX2_reaches_87 : decode cX2_reaches 87 = .ok (.iload_n 2, 1) := by decide +kernel
theorem dX2_reaches_88 : decode cX2_reaches 88 = .ok (.imul, 1) := by decide +kernel
theorem dX2_reaches_89 : decode cX2_reaches 89 = .ok (.iload 4, 2) := by decide +kernel
theorem dX2_reaches_91 : decode cX2_reaches 91 = .ok (.iconst 1, 1) := by decide +kernel
theorem dX2_reaches_92 : decode cX2_reaches 92 = .ok (.iadd, 1) := by decide +kernel
theorem dX2_reaches_93 : decode cX2_reaches 93 = .ok (.iload_n 3, 1) := by decide +kernel
theorem dX2_reaches_94 : decode cX2_reaches 94 = .ok (.imul, 1) := by decide +kernel
theorem dX2_reaches_95 : decode cX2_reaches 95 = .ok (.if_icmp .gt 7, 3) := by decide +kernel
theorem dX2_reaches_98 : decode cX2_reaches 98 = .ok (.iconst 1, 1) := by decide +kernel
theorem dX2_reaches_99 : decode cX2_reaches 99 = .ok (.goto 4, 3) := by decide +kernel
theorem dX2_reaches_102 : decode cX2_reaches 102 = .ok (.iconst 0, 1) := by decide +kernel
theorem dX2_reaches_103 : decode cX2_reaches 103 = .ok (.istore 5, 2) := by decide +kernel
theorem dX2_reaches_105 : decode cX2_reaches 105 = .ok (.iload 5, 2) := by decide +kernel
theorem dX2_reaches_107 : decode cX2_reaches 107 = .ok (.ifCond .eq 21, 3) := by decide +kernel
theorem dX2_reaches_110 : decode cX2_reaches 110 = .ok (.aload_n 0, 1) := by decide +kernel
theorem dX2_reaches_111 : decode cX2_reaches 111 = .ok (.getfield 10, 3) := by decide +kernel
theorem dX2_reaches_114 : decode cX2_reaches 114 = .ok (.iconst 1, 1) := by decide +kernel
theorem dX2_reaches_115 : decode cX2_reaches 115 = .ok (.aload_n 0, 1) := by decide +kernel
theorem dX2_reaches_116 : decode cX2_reaches 116 = .ok (.getfield 16, 3) := by decide +kernel
theorem dX2_reaches_119 : decode cX2_reaches 119 = .ok (.iconst 1, 1) := by decide +kernel
theorem dX2_reaches_120 : decode cX2_reaches 120 = .ok (.invokestatic 35, 3) := by decide +kernel
theorem dX2_reaches_123 : decode cX2_reaches 123 = .ok (.ifCond .ne 5, 3) := by decide +kernel
theorem dX2_reaches_126 : decode cX2_reaches 126 = .ok (.iconst 0, 1) := by decide +kernel
theorem dX2_reaches_127 : decode cX2_reaches 127 = .ok (.ireturn, 1) := by decide +kernel
theorem dX2_reaches_128 : decode cX2_reaches 128 = .ok (.iinc 4 1, 3) := by decide +kernel
theorem dX2_reaches_131 : decode cX2_reaches 131 = .ok (.goto (-101), 3) := by decide +kernel
theorem dX2_reaches_134 : decode cX2_reaches 134 = .ok (.iconst 0, 1) := by decide +kernel
theorem dX2_reaches_135 : decode cX2_reaches 135 = .ok (.ireturn, 1) := by decide +kernel
