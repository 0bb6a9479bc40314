theorem dX5_isEnough_0 : decode cX5_isEnough 0 = .ok (.aload_n 0, 1) := by decide +kernel
theorem dX5_isEnough_1 : decode cX5_isEnough 1 = .ok (.iload_n 1, 1) := by decide +kernel
theorem dX5_isEnough_2 : decode cX5_isEnough 2 = .ok (.iload_n 2, 1) := by decide +kernel
theorem dX5_isEnough_3 : decode cX5_isEnough 3 = .ok (.invokestatic 139, 3) := by decide +kernel
theorem dX5_isEnough_6 : decode cX5_isEnough 6 = .ok (.ifCond .eq 7, 3) := by decide +kernel
theorem dX5_isEnough_9 : decode cX5_isEnough 9 = .ok (.iconst 1, 1) := by decide +kernel
theorem dX5_isEnough_10 : decode cX5_isEnough 10 = .ok (.goto 4, 3) := by decide +kernel
theorem dX5_isEnough_13 : decode cX5_isEnough 13 = .ok (.iconst 0, 1) := by decide +kernel
theorem dX5_isEnough_14 : decode cX5_isEnough 14 = .ok (.putfield 46, 3) := by decide +kernel
theorem dX5_isEnough_17 : decode cX5_isEnough 17 = .ok (.aload_n 0, 1) := by decide +kernel
theorem dX5_isEnough_18 : decode cX5_isEnough 18 = .ok (.getfield 46, 3) := by decide +kernel
theorem dX5_isEnough_21 : decode cX5_isEnough 21 = .ok (.ifCond .ne 16, 3) := by decide +kernel
theorem dX5_isEnough_24 : decode cX5_isEnough 24 = .ok (.aload_n 0, 1) := by decide +kernel
theorem dX5_isEnough_25 : decode cX5_isEnough 25 = .ok (.iload_n 1, 1) := by decide +kernel
theorem dX5_isEnough_26 : decode cX5_isEnough 26 = .ok (.iload_n 2, 1) := by decide +kernel
theorem dX5_isEnough_27 : decode cX5_isEnough 27 = .ok (.invokevirtual 143, 3) := by decide +kernel
theorem dX5_isEnough_30 : decode cX5_isEnough 30 = .ok (.ifCond .eq 7, 3) := by decide +kernel
theorem dX5_isEnough_33 : decode cX5_isEnough 33 = .ok (.iconst 1, 1) := by decide +kernel
theorem dX5_isEnough_34 : decode cX5_isEnough 34 = .ok (.goto 4, 3) := by decide +kernel
theorem dX5_isEnough_37 : decode cX5_isEnough 37 = .ok (.iconst 0, 1) := by decide +kernel
theorem dX5_isEnough_38 : decode cX5_isEnough 38 = .ok (.ireturn, 1) := by decide +kernel
set_option maxRecDepth 20000 in
theorem ggX5_least_X5_enough : GoodIn wsX5_least wsX5_enough := goodIn_r _ [6, 7, 8, 9, 10, 11, 12, 13, 14, 5, 15, 16, 17, 18, 19, 20, 21, 22, 23, 24, 25, 26, 27, 28, 29, 30, 31, 32, 33] (by decide +kernel) (by decide +kernel)
set_option maxRecDepth 20000 in
theorem gX5_least_X5_enough : GoodIn wsX5_least (wsV RX5 143 RX5 yX5_enough wsX5_enough) := goodIn_app (goodIn_of _ (by decide +kernel)) ggX5_least_X5_enough
theorem dX5_least_0 : decode cX5_least 0 = .ok (.aload_n 0, 1) := by decide +kernel
theorem dX5_least_1 : decode cX5_least 1 = .ok (.iload_n 1, 1) := by decide +kernel
theorem dX5_least_2 : decode cX5_least 2 = .ok (.iconst 1, 1) := by decide +kernel
theorem dX5_least_3 : decode cX5_least 3 = .ok (.if_icmp .lt 10, 3) := by decide +kernel
theorem dX5_least_6 : decode cX5_least 6 = .ok (.iload_n 1, 1) := by decide +kernel
theorem dX5_least_7 : decode cX5_least 7 = .ok (.sipush 1000, 3) := by decide +kernel
theorem dX5_least_10 : decode cX5_least 10 = .ok (.if_icmp .le 7, 3) := by decide +kernel
theorem dX5_least_13 : decode cX5_least 13 = .ok (.iconst 1, 1) := by decide +kernel
theorem dX5_least_14 : decode cX5_least 14 = .ok (.goto 4, 3) := by decide +kernel
theorem dX5_least_17 : decode cX5_least 17 = .ok (.iconst 0, 1) := by decide +kernel
theorem dX5_least_18 : decode cX5_least 18 = .ok (.putfield 46, 3) := by decide +kernel
theorem dX5_least_21 : decode cX5_least 21 = .ok (.aload_n 0, 1) := by decide +kernel
theorem dX5_least_22 : decode cX5_least 22 = .ok (.getfield 46, 3) := by decide +kernel
theorem dX5_least_25 : decode cX5_least 25 = .ok (.ifCond .le 5, 3) := by decide +kernel
theorem dX5_least_28 : decode cX5_least 28 = .ok (.iconst 0, 1) := by decide +kernel
theorem dX5_least_29 : decode cX5_least 29 = .ok (.ireturn, 1) := by decide +kernel
theorem dX5_least_30 : decode cX5_least 30 = .ok (.iconst 0, 1) := by decide +kernel
theorem dX5_least_31 : decode cX5_least 31 = .ok (.istore_n 2, 1) := by decide +kernel
theorem dX5_least_32 : decode cX5_least 32 = .ok (.iconst 3, 1) := by decide +kernel
theorem dX5_least_33 : decode cX5_least 33 = .ok (.iload_n 1, 1) := by decide +kernel
theorem dX5_least_34 : decode cX5_least 34 = .ok (.imul, 1) := by decide +kernel
theorem dX5_least_35 : decode cX5_least 35 = .ok (.istore_n 3, 1) := by decide +kernel
theorem dX5_least_36 : decode cX5_least 36 = .ok (.iload_n 3, 1) := by decide +kernel
theorem dX5_least_37 : decode cX5_least 37 = .ok (.iload_n 2, 1) := by decide +kernel
theorem dX5_least_38 : decode cX5_least 38 = .ok (.isub, 1) := by decide +kernel
theorem dX5_least_39 : decode cX5_least 39 = .ok (.iconst 1, 1) := by decide +kernel
theorem dX5_least_40 : decode cX5_least 40 = .ok (.if_icmp .le 46, 3) := by decide +kernel
theorem dX5_least_43 : decode cX5_least 43 = .ok (.iload_n 2, 1) := by decide +kernel
theorem dX5_least_44 : decode cX5_least 44 = .ok (.iload_n 3, 1) := by decide +kernel
theorem dX5_least_45 : decode cX5_least 45 = .ok (.iadd, 1) := by decide +kernel
theorem dX5_least_46 : decode cX5_least 46 = .ok (.iconst 2, 1) := by decide +kernel
theorem dX5_least_47 : decode cX5_least 47 = .ok (.idiv, 1) := by decide +kernel
theorem dX5_least_48 : decode cX5_least 48 = .ok (.istore 4, 2) := by decide +kernel
theorem dX5_least_50 : decode cX5_least 50 = .ok (.aload_n 0, 1) := by decide +kernel
theorem dX5_least_51 : decode cX5_least 51 = .ok (.iload 4, 2) := by decide +kernel
theorem dX5_least_53 : decode cX5_least 53 = .ok (.iload_n 1, 1) := by decide +kernel
theorem dX5_least_54 : decode cX5_least 54 = .ok (.invokevirtual 143, 3) := by decide +kernel
theorem dX5_least_57 : decode cX5_least 57 = .ok (.istore 5, 2) := by decide +kernel
theorem dX5_least_59 : decode cX5_least 59 = .ok (.iload 5, 2) := by decide +kernel
theorem dX5_least_61 : decode cX5_least 61 = .ok (.ifCond .eq 7, 3) := by decide +kernel
theorem dX5_least_64 : decode cX5_least 64 = .ok (.iload_n 2, 1) := by decide +kernel
theorem dX5_least_65 : decode cX5_least 65 = .ok (.goto 5, 3) := by decide +kernel
theorem dX5_least_68 : decode cX5_least 68 = .ok (.iload 4, 2) := by decide +kernel
theorem dX5_least_70 : decode cX5_least 70 = .ok (.istore_n 2, 1) := by decide +kernel
theorem dX5_least_71 : decode cX5_least 71 = .ok (.iload 5, 2) := by decide +kernel
theorem dX5_least_73 : decode cX5_least 73 = .ok (.ifCond .eq 8, 3) := by decide +kernel
theorem dX5_least_76 : decode cX5_least 76 = .ok (.iload 4, 2) := by decide +kernel
theorem dX5_least_78 : decode cX5_least 78 = .ok (.goto 4, 3) := by decide +kernel
theorem dX5_least_81 : decode cX5_least 81 = .ok (.iload_n 3, 1) := by decide +kernel
theorem dX5_least_82 : decode cX5_least 82 = .ok (.istore_n 3, 1) := by decide +kernel
theorem dX5_least_83 : decode cX5_least 83 = .ok (.goto (-47), 3) := by decide +kernel
theorem dX5_least_86 : decode cX5_least 86 = .ok (.iload_n 3, 1) := by decide +kernel
theorem dX5_least_87 : decode cX5_least 87 = .ok (.ireturn, 1) := by decide +kernel
theorem dX5_noPart_0 : decode cX5_noPart 0 = .ok (.iload_n 0, 1) := by decide +kernel
theorem dX5_noPart_1 : decode cX5_noPart 1 = .ok (.ifCond .lt 15, 3) := by decide +kernel
theorem dX5_noPart_4 : decode cX5_noPart 4 = .ok (.iload_n 1, 1) := by decide +kernel
theorem dX5_noPart_5 : decode cX5_noPart 5 = .ok (.iconst 1, 1) := by decide +kernel
theorem dX5_noPart_6 : decode cX5_noPart 6 = .ok (.if_icmp .lt 10, 3) := by decide +kernel
theorem dX5_noPart_9 : decode cX5_noPart 9 = .ok (.iload_n 1, 1) := by decide +kernel
theorem dX5_noPart_10 : decode cX5_noPart 10 = .ok (.sipush 1000, 3) := by decide +kernel
theorem dX5_noPart_13 : decode cX5_noPart 13 = .ok (.if_icmp .le 7, 3) := by decide +kernel
theorem dX5_noPart_16 : decode cX5_noPart 16 = .ok (.iconst 1, 1) := by decide +kernel
theorem dX5_noPart_17 : decode cX5_noPart 17 = .ok (.goto 4, 3) := by decide +kernel
theorem dX5_noPart_20 : decode cX5_noPart 20 = .ok (.iconst 0, 1) := by decide +kernel
theorem dX5_noPart_21 : decode cX5_noPart 21 = .ok (.ireturn, 1) := by decide +kernel
set_option maxRecDepth 20000 in
theorem ggX5_budget_X5_noPart : GoodIn wsX5_budget wsX5_noPart := goodIn_r _ [8] (by decide +kernel) (by decide +kernel)
set_option maxRecDepth 20000 in
theorem gX5_budget_X5_noPart : GoodIn wsX5_budget (va_wsS RX5 146 yX5_noPart wsX5_noPart) := goodIn_app (goodIn_of _ (by decide +kernel)) ggX5_budget_X5_noPart
set_option maxRecDepth 20000 in
theorem ggX5_budget_X5_set : GoodIn wsX5_budget wsX5_set := goodIn_r _ [12, 13, 14, 15, 7, 16, 17, 18, 19, 20, 21, 22, 23, 24, 25, 26, 27, 28, 29, 30, 31, 32, 33, 34, 35, 36, 37, 38, 39, 40, 41, 42, 43, 44, 45, 46, 47, 48, 49, 50, 51, 52, 53, 54, 55, 56, 57, 58, 59, 60, 61, 62, 63, 64, 65, 66, 67, 68, 69, 70, 71, 72, 73, 74, 75, 76, 77, 78, 79, 80, 81, 82] (by decide +kernel) (by decide +kernel)
set_option maxRecDepth 20000 in
theorem gX5_budget_X5_set : GoodIn wsX5_budget (wsV RX5 149 RX5 yX5_set wsX5_set) := goodIn_app (goodIn_of _ (by decide +kernel)) ggX5_budget_X5_set
theorem dX5_budget_0 : decode cX5_budget 0 = .ok (.aload_n 0, 1) := by decide +kernel
theorem dX5_budget_1 : decode cX5_budget 1 = .ok (.iload_n 1, 1) := by decide +kernel
theorem dX5_budget_2 : decode cX5_budget 2 = .ok (.iload_n 2, 1) := by decide +kernel
theorem dX5_budget_3 : decode cX5_budget 3 = .ok (.invokestatic 146, 3) := by decide +kernel
theorem dX5_budget_6 : decode cX5_budget 6 = .ok (.ifCond .eq 7, 3) := by decide +kernel
theorem dX5_budget_9 : decode cX5_budget 9 = .ok (.iconst 1, 1) := by decide +kernel
theorem dX5_budget_10 : decode cX5_budget 10 = .ok (.goto 4, 3) := by decide +kernel
theorem dX5_budget_13 : decode cX5_budget 13 = .ok (.iconst 0, 1) := by decide +kernel
theorem dX5_budget_14 : decode cX5_budget 14 = .ok (.putfield 46, 3) := by decide +kernel
theorem dX5_budget_17 : decode cX5_budget 17 = .ok (.aload_n 0, 1) := by decide +kernel
theorem dX5_budget_18 : decode cX5_budget 18 = .ok (.getfield 46, 3) := by decide +kernel
theorem dX5_budget_21 : decode cX5_budget 21 = .ok (.ifCond .ne 32, 3) := by decide +kernel
theorem dX5_budget_24 : decode cX5_budget 24 = .ok (.aload_n 0, 1) := by decide +kernel
theorem dX5_budget_25 : decode cX5_budget 25 = .ok (.iconst 0, 1) := by decide +kernel
theorem dX5_budget_26 : decode cX5_budget 26 = .ok (.iload_n 1, 1) := by decide +kernel
theorem dX5_budget_27 : decode cX5_budget 27 = .ok (.iload_n 2, 1) := by decide +kernel
theorem dX5_budget_28 : decode cX5_budget 28 = .ok (.invokevirtual 149, 3) := by decide +kernel
theorem dX5_budget_31 : decode cX5_budget 31 = .ok (.aload_n 0, 1) := by decide +kernel
theorem dX5_budget_32 : decode cX5_budget 32 = .ok (.iconst 1, 1) := by decide +kernel
theorem dX5_budget_33 : decode cX5_budget 33 = .ok (.iconst 0, 1) := by decide +kernel
theorem dX5_budget_34 : decode cX5_budget 34 = .ok (.iconst 1, 1) := by decide +kernel
theorem dX5_budget_35 : decode cX5_budget 35 = .ok (.invokevirtual 149, 3) := by decide +kernel
theorem dX5_budget_38 : decode cX5_budget 38 = .ok (.aload_n 0, 1) := by decide +kernel
theorem dX5_budget_39 : decode cX5_budget 39 = .ok (.iconst 0, 1) := by decide +kernel
theorem dX5_budget_40 : decode cX5_budget 40 = .ok (.putfield 152, 3) := by decide +kernel
theorem dX5_budget_43 : decode cX5_budget 43 = .ok (.aload_n 0, 1) := by decide +kernel
theorem dX5_budget_44 : decode cX5_budget 44 = .ok (.iconst 0, 1) := by decide +kernel
theorem dX5_budget_45 : decode cX5_budget 45 = .ok (.putfield 155, 3) := by decide +kernel
theorem dX5_budget_48 : decode cX5_budget 48 = .ok (.aload_n 0, 1) := by decide +kernel
theorem dX5_budget_49 : decode cX5_budget 49 = .ok (.iconst 0, 1) := by decide +kernel
theorem dX5_budget_50 : decode cX5_budget 50 = .ok (.putfield 158, 3) := by decide +kernel
theorem dX5_budget_53 : decode cX5_budget 53 = .ok (.return_, 1) := by decide +kernel
set_option maxRecDepth 20000 in
theorem ggX5_raise_X5_noPart : GoodIn wsX5_raise wsX5_noPart := goodIn_r _ [5] (by decide +kernel) (by decide +kernel)
set_option maxRecDepth 20000 in
theorem gX5_raise_X5_noPart : GoodIn wsX5_raise (va_wsS RX5 146 yX5_noPart wsX5_noPart) := goodIn_app (goodIn_of _ (by decide +kernel)) ggX5_raise_X5_noPart
set_option maxRecDepth 20000 in
theorem ggX5_raise_X5_set : GoodIn wsX5_raise wsX5_set := goodIn_r _ [9, 10, 11, 12, 4, 13, 14, 15, 16, 17, 18, 19, 20, 21, 22, 23, 24, 25, 26, 27, 28, 29, 30, 31, 32, 33, 34, 35, 36, 37, 38, 39, 40, 41, 42, 43, 44, 45, 46, 47, 48, 49, 50, 51, 52, 53, 54, 55, 56, 57, 58, 59, 60, 61, 62, 63, 76, 77, 78, 79, 80, 81, 82, 83, 84, 85, 86, 87, 88, 89, 90, 91] (by decide +kernel) (by decide +kernel)
set_option maxRecDepth 20000 in
theorem gX5_raise_X5_set : GoodIn wsX5_raise (wsV RX5 149 RX5 yX5_set wsX5_set) := goodIn_app (goodIn_of _ (by decide +kernel)) ggX5_raise_X5_set
set_option maxRecDepth 20000 in
theorem ggX5_raise_X5_add0 : GoodIn wsX5_raise wsX5_add0 := goodIn_r _ [67, 68, 69, 70, 4, 71, 72, 73, 74, 75, 20, 50, 14, 15, 51, 52, 53, 54, 16, 17, 18, 19, 55, 56, 57, 58, 42, 43, 44, 45, 30, 31, 32, 33, 21, 22, 23, 24, 10, 11, 12, 13, 25, 26, 27, 28, 29, 34, 35, 36, 37, 38, 39, 40, 41, 46, 47, 48, 49, 59, 60, 61, 62, 63, 76, 77, 78, 79, 80, 81, 82, 83, 84, 85, 86, 87, 88, 89, 90, 91] (by decide +kernel) (by decide +kernel)
set_option maxRecDepth 20000 in
theorem gX5_raise_X5_add0 : GoodIn wsX5_raise (wsV RX5 161 RX5 yX5_add0 wsX5_add0) := goodIn_app (goodIn_of _ (by decide +kernel)) ggX5_raise_X5_add0
set_option maxRecDepth 20000 in
theorem ggX5_raise_X5_copy : GoodIn wsX5_raise wsX5_copy := goodIn_r _ [33, 20, 14, 76, 77, 78, 79, 80, 81, 82, 83, 84, 85, 86, 87, 88, 89, 90, 91] (by decide +kernel) (by decide +kernel)
set_option maxRecDepth 20000 in
theorem gX5_raise_X5_copy : GoodIn wsX5_raise (wsV RX5 62 RX5 yX5_copy wsX5_copy) := goodIn_app (goodIn_of _ (by decide +kernel)) ggX5_raise_X5_copy
theorem dX5_raise_0 : decode cX5_raise 0 = .ok (.aload_n 0, 1) := by decide +kernel
theorem dX5_raise_1 : decode cX5_raise 1 = .ok (.iload_n 1, 1) := by decide +kernel
theorem dX5_raise_2 : decode cX5_raise 2 = .ok (.iload_n 2, 1) := by decide +kernel
theorem dX5_raise_3 : decode cX5_raise 3 = .ok (.invokestatic 146, 3) := by decide +kernel
theorem dX5_raise_6 : decode cX5_raise 6 = .ok (.ifCond .eq 7, 3) := by decide +kernel
theorem dX5_raise_9 : decode cX5_raise 9 = .ok (.iconst 1, 1) := by decide +kernel
theorem dX5_raise_10 : decode cX5_raise 10 = .ok (.goto 4, 3) := by decide +kernel
theorem dX5_raise_13 : decode cX5_raise 13 = .ok (.iconst 0, 1) := by decide +kernel
theorem dX5_raise_14 : decode cX5_raise 14 = .ok (.putfield 46, 3) := by decide +kernel
theorem dX5_raise_17 : decode cX5_raise 17 = .ok (.aload_n 0, 1) := by decide +kernel
theorem dX5_raise_18 : decode cX5_raise 18 = .ok (.getfield 46, 3) := by decide +kernel
theorem dX5_raise_21 : decode cX5_raise 21 = .ok (.ifCond .ne 31, 3) := by decide +kernel
theorem dX5_raise_24 : decode cX5_raise 24 = .ok (.aload_n 0, 1) := by decide +kernel
theorem dX5_raise_25 : decode cX5_raise 25 = .ok (.iconst 2, 1) := by decide +kernel
theorem dX5_raise_26 : decode cX5_raise 26 = .ok (.iload_n 1, 1) := by decide +kernel
theorem dX5_raise_27 : decode cX5_raise 27 = .ok (.iload_n 2, 1) := by decide +kernel
theorem dX5_raise_28 : decode cX5_raise 28 = .ok (.invokevirtual 149, 3) := by decide +kernel
theorem dX5_raise_31 : decode cX5_raise 31 = .ok (.aload_n 0, 1) := by decide +kernel
theorem dX5_raise_32 : decode cX5_raise 32 = .ok (.iconst 3, 1) := by decide +kernel
theorem dX5_raise_33 : decode cX5_raise 33 = .ok (.iconst 0, 1) := by decide +kernel
theorem dX5_raise_34 : decode cX5_raise 34 = .ok (.iconst 2, 1) := by decide +kernel
theorem dX5_raise_35 : decode cX5_raise 35 = .ok (.invokevirtual 161, 3) := by decide +kernel
theorem dX5_raise_38 : decode cX5_raise 38 = .ok (.aload_n 0, 1) := by decide +kernel
theorem dX5_raise_39 : decode cX5_raise 39 = .ok (.iconst 0, 1) := by decide +kernel
theorem dX5_raise_40 : decode cX5_raise 40 = .ok (.bipush 6, 2) := by decide +kernel
theorem dX5_raise_42 : decode cX5_raise 42 = .ok (.invokevirtual 62, 3) := by decide +kernel
theorem dX5_raise_45 : decode cX5_raise 45 = .ok (.aload_n 0, 1) := by decide +kernel
theorem dX5_raise_46 : decode cX5_raise 46 = .ok (.iconst 1, 1) := by decide +kernel
theorem dX5_raise_47 : decode cX5_raise 47 = .ok (.bipush 7, 2) := by decide +kernel
theorem dX5_raise_49 : decode cX5_raise 49 = .ok (.invokevirtual 62, 3) := by decide +kernel
theorem dX5_raise_52 : decode cX5_raise 52 = .ok (.return_, 1) := by decide +kernel
set_option maxRecDepth 20000 in
theorem ggX5_ask_X5_noCost : GoodIn wsX5_ask wsX5_noCost := goodIn_r _ [11] (by decide +kernel) (by decide +kernel)
set_option maxRecDepth 20000 in
theorem gX5_ask_X5_noCost : GoodIn wsX5_ask (va_wsS RX5 139 yX5_noCost wsX5_noCost) := goodIn_app (goodIn_of _ (by decide +kernel)) ggX5_ask_X5_noCost
set_option maxRecDepth 20000 in
theorem ggX5_ask_X5_noCoin : GoodIn wsX5_ask wsX5_noCoin := goodIn_r _ [15, 16, 17, 18, 10, 19, 20, 21, 7, 6, 22, 23, 24, 130, 131, 132, 133, 134, 135, 136, 137, 138, 139, 140, 141, 142, 143, 144, 145] (by decide +kernel) (by decide +kernel)
set_option maxRecDepth 20000 in
theorem gX5_ask_X5_noCoin : GoodIn wsX5_ask (wsV RX5 122 RX5 yX5_noCoin wsX5_noCoin) := goodIn_app (goodIn_of _ (by decide +kernel)) ggX5_ask_X5_noCoin
set_option maxRecDepth 20000 in
theorem ggX5_ask_X5_enough : GoodIn wsX5_ask wsX5_enough := goodIn_r _ [28, 29, 30, 31, 32, 33, 34, 35, 36, 10, 37, 20, 21, 130, 131, 132, 133, 134, 135, 136, 137, 138, 139, 140, 141, 142, 143, 144, 145] (by decide +kernel) (by decide +kernel)
set_option maxRecDepth 20000 in
theorem gX5_ask_X5_enough : GoodIn wsX5_ask (wsV RX5 143 RX5 yX5_enough wsX5_enough) := goodIn_app (goodIn_of _ (by decide +kernel)) ggX5_ask_X5_enough
set_option maxRecDepth 20000 in
theorem ggX5_ask_X5_set : GoodIn wsX5_ask wsX5_set := goodIn_r _ [41, 42, 43, 44, 10, 45, 46, 47, 48, 49, 50, 51, 52, 53, 54, 55, 56, 57, 58, 59, 60, 61, 62, 63, 64, 65, 66, 67, 68, 69, 70, 71, 72, 73, 74, 75, 76, 77, 78, 79, 80, 81, 82, 83, 84, 85, 86, 87, 88, 89, 90, 91, 92, 93, 94, 95, 130, 131, 132, 133, 134, 135, 136, 137, 138, 139, 140, 141, 142, 143, 144, 145] (by decide +kernel) (by decide +kernel)
set_option maxRecDepth 20000 in
theorem gX5_ask_X5_set : GoodIn wsX5_ask (wsV RX5 149 RX5 yX5_set wsX5_set) := goodIn_app (goodIn_of _ (by decide +kernel)) ggX5_ask_X5_set
set_option maxRecDepth 20000 in
theorem ggX5_ask_X5_add0 : GoodIn wsX5_ask wsX5_add0 := goodIn_r _ [99, 100, 101, 102, 10, 103, 104, 105, 106, 107, 52, 82, 46, 47, 83, 84, 85, 86, 48, 49, 50, 51, 87, 88, 89, 90, 74, 75, 76, 77, 62, 63, 64, 65, 53, 54, 55, 56, 42, 43, 44, 45, 57, 58, 59, 60, 61, 66, 67, 68, 69, 70, 71, 72, 73, 78, 79, 80, 81, 91, 92, 93, 94, 95, 130, 131, 132, 133, 134, 135, 136, 137, 138, 139, 140, 141, 142, 143, 144, 145] (by decide +kernel) (by decide +kernel)
set_option maxRecDepth 20000 in
theorem gX5_ask_X5_add0 : GoodIn wsX5_ask (wsV RX5 161 RX5 yX5_add0 wsX5_add0) := goodIn_app (goodIn_of _ (by decide +kernel)) ggX5_ask_X5_add0
set_option maxRecDepth 20000 in
theorem ggX5_ask_X5_isMore : GoodIn wsX5_ask wsX5_isMore := goodIn_r _ [111, 100, 101, 102, 10, 103, 104, 105, 106, 107, 52, 82, 46, 47, 83, 84, 85, 86, 48, 49, 50, 51, 70, 71, 72, 73, 74, 75, 76, 77, 130, 131, 132, 133, 134, 135, 136, 137, 138, 139, 140, 141, 142, 143, 144, 145] (by decide +kernel) (by decide +kernel)
set_option maxRecDepth 20000 in
theorem gX5_ask_X5_isMore : GoodIn wsX5_ask (wsV RX5 165 RX5 yX5_isMore wsX5_isMore) := goodIn_app (goodIn_of _ (by decide +kernel)) ggX5_ask_X5_isMore
set_option maxRecDepth 20000 in
theorem ggX5_ask_X5_copy : GoodIn wsX5_ask wsX5_copy := goodIn_r _ [65, 52, 46, 130, 131, 132, 133, 134, 135, 136, 137, 138, 139, 140, 141, 142, 143, 144, 145] (by decide +kernel) (by decide +kernel)
set_option maxRecDepth 20000 in
theorem gX5_ask_X5_copy : GoodIn wsX5_ask (wsV RX5 62 RX5 yX5_copy wsX5_copy) := goodIn_app (goodIn_of _ (by decide +kernel)) ggX5_ask_X5_copy
set_option maxRecDepth 20000 in
theorem ggX5_ask_X5_countRows : GoodIn wsX5_ask wsX5_countRows := goodIn_r _ [115, 116, 117, 130, 131, 132, 133, 134, 135, 136, 137, 138, 139, 140, 141, 142, 143, 144, 145] (by decide +kernel) (by decide +kernel)
set_option maxRecDepth 20000 in
theorem gX5_ask_X5_countRows : GoodIn wsX5_ask (wsV RX5 101 RX5 yX5_countRows wsX5_countRows) := goodIn_app (goodIn_of _ (by decide +kernel)) ggX5_ask_X5_countRows
set_option maxRecDepth 20000 in
theorem ggX5_ask_X5_drawn : GoodIn wsX5_ask wsX5_drawn := goodIn_r _ [121, 6, 122, 123, 124, 10, 125, 7, 21, 20, 126, 127, 128, 129, 16, 17, 18, 19, 22, 23, 24, 130, 131, 132, 133, 134, 135, 136, 137, 138, 139, 140, 141, 142, 143, 144, 145] (by decide +kernel) (by decide +kernel)
set_option maxRecDepth 20000 in
theorem gX5_ask_X5_drawn : GoodIn wsX5_ask (wsV RX5 126 RX5 yX5_drawn wsX5_drawn) := goodIn_app (goodIn_of _ (by decide +kernel)) ggX5_ask_X5_drawn
theorem dX5_ask_0 : decode cX5_ask 0 = .ok (.aload_n 0, 1) := by decide +kernel
theorem dX5_ask_1 : decode cX5_ask 1 = .ok (.iload_n 3, 1) := by decide +kernel
theorem dX5_ask_2 : decode cX5_ask 2 = .ok (.iload 4, 2) := by decide +kernel
theorem dX5_ask_4 : decode cX5_ask 4 = .ok (.invokestatic 139, 3) := by decide +kernel
theorem dX5_ask_7 : decode cX5_ask 7 = .ok (.ifCond .ne 12, 3) := by decide +kernel
theorem dX5_ask_10 : decode cX5_ask 10 = .ok (.aload_n 0, 1) := by decide +kernel
theorem dX5_ask_11 : decode cX5_ask 11 = .ok (.lload 5, 2) := by decide +kernel
theorem dX5_ask_13 : decode cX5_ask 13 = .ok (.invokevirtual 122, 3) := by decide +kernel
theorem dX5_ask_16 : decode cX5_ask 16 = .ok (.ifCond .eq 7, 3) := by decide +kernel
theorem dX5_ask_19 : decode cX5_ask 19 = .ok (.iconst 1, 1) := by decide +kernel
theorem dX5_ask_20 : decode cX5_ask 20 = .ok (.goto 4, 3) := by decide +kernel
theorem dX5_ask_23 : decode cX5_ask 23 = .ok (.iconst 0, 1) := by decide +kernel
theorem dX5_ask_24 : decode cX5_ask 24 = .ok (.putfield 46, 3) := by decide +kernel
theorem dX5_ask_27 : decode cX5_ask 27 = .ok (.aload_n 0, 1) := by decide +kernel
theorem dX5_ask_28 : decode cX5_ask 28 = .ok (.getfield 46, 3) := by decide +kernel
theorem dX5_ask_31 : decode cX5_ask 31 = .ok (.ifCond .le 5, 3) := by decide +kernel
theorem dX5_ask_34 : decode cX5_ask 34 = .ok (.iconst 0, 1) := by decide +kernel
theorem dX5_ask_35 : decode cX5_ask 35 = .ok (.ireturn, 1) := by decide +kernel
theorem dX5_ask_36 : decode cX5_ask 36 = .ok (.aload_n 0, 1) := by decide +kernel
theorem dX5_ask_37 : decode cX5_ask 37 = .ok (.iload_n 3, 1) := by decide +kernel
theorem dX5_ask_38 : decode cX5_ask 38 = .ok (.iload 4, 2) := by decide +kernel
theorem dX5_ask_40 : decode cX5_ask 40 = .ok (.invokevirtual 143, 3) := by decide +kernel
theorem dX5_ask_43 : decode cX5_ask 43 = .ok (.ifCond .ne 16, 3) := by decide +kernel
theorem dX5_ask_46 : decode cX5_ask 46 = .ok (.aload_n 0, 1) := by decide +kernel
theorem dX5_ask_47 : decode cX5_ask 47 = .ok (.dup, 1) := by decide +kernel
theorem dX5_ask_48 : decode cX5_ask 48 = .ok (.getfield 155, 3) := by decide +kernel
theorem dX5_ask_51 : decode cX5_ask 51 = .ok (.iconst 1, 1) := by decide +kernel
theorem dX5_ask_52 : decode cX5_ask 52 = .ok (.iadd, 1) := by decide +kernel
theorem dX5_ask_53 : decode cX5_ask 53 = .ok (.putfield 155, 3) := by decide +kernel
theorem dX5_ask_56 : decode cX5_ask 56 = .ok (.ldc 164, 2) := by decide +kernel
theorem dX5_ask_58 : decode cX5_ask 58 = .ok (.ireturn, 1) := by decide +kernel
theorem dX5_ask_59 : decode cX5_ask 59 = .ok (.aload_n 0, 1) := by decide +kernel
theorem dX5_ask_60 : decode cX5_ask 60 = .ok (.iconst 2, 1) := by decide +kernel
theorem dX5_ask_61 : decode cX5_ask 61 = .ok (.iload_n 3, 1) := by decide +kernel
theorem dX5_ask_62 : decode cX5_ask 62 = .ok (.iload 4, 2) := by decide +kernel
theorem dX5_ask_64 : decode cX5_ask 64 = .ok (.invokevirtual 149, 3) := by decide +kernel
theorem dX5_ask_67 : decode cX5_ask 67 = .ok (.aload_n 0, 1) := by decide +kernel
theorem dX5_ask_68 : decode cX5_ask 68 = .ok (.iconst 3, 1) := by decide +kernel
theorem dX5_ask_69 : decode cX5_ask 69 = .ok (.iconst 1, 1) := by decide +kernel
theorem dX5_ask_70 : decode cX5_ask 70 = .ok (.iconst 2, 1) := by decide +kernel
theorem dX5_ask_71 : decode cX5_ask 71 = .ok (.invokevirtual 161, 3) := by decide +kernel
theorem dX5_ask_74 : decode cX5_ask 74 = .ok (.aload_n 0, 1) := by decide +kernel
theorem dX5_ask_75 : decode cX5_ask 75 = .ok (.iconst 3, 1) := by decide +kernel
theorem dX5_ask_76 : decode cX5_ask 76 = .ok (.iconst 0, 1) := by decide +kernel
theorem dX5_ask_77 : decode cX5_ask 77 = .ok (.invokevirtual 165, 3) := by decide +kernel
theorem dX5_ask_80 : decode cX5_ask 80 = .ok (.ifCond .eq 16, 3) := by decide +kernel
theorem dX5_ask_83 : decode cX5_ask 83 = .ok (.aload_n 0, 1) := by decide +kernel
theorem dX5_ask_84 : decode cX5_ask 84 = .ok (.dup, 1) := by decide +kernel
theorem dX5_ask_85 : decode cX5_ask 85 = .ok (.getfield 158, 3) := by decide +kernel
theorem dX5_ask_88 : decode cX5_ask 88 = .ok (.iconst 1, 1) := by decide +kernel
theorem dX5_ask_89 : decode cX5_ask 89 = .ok (.iadd, 1) := by decide +kernel
theorem dX5_ask_90 : decode cX5_ask 90 = .ok (.putfield 158, 3) := by decide +kernel
theorem dX5_ask_93 : decode cX5_ask 93 = .ok (.ldc 164, 2) := by decide +kernel
theorem dX5_ask_95 : decode cX5_ask 95 = .ok (.ireturn, 1) := by decide +kernel
theorem dX5_ask_96 : decode cX5_ask 96 = .ok (.aload_n 0, 1) := by decide +kernel
theorem dX5_ask_97 : decode cX5_ask 97 = .ok (.iconst 2, 1) := by decide +kernel
theorem dX5_ask_98 : decode cX5_ask 98 = .ok (.bipush 6, 2) := by decide +kernel
theorem dX5_ask_100 : decode cX5_ask 100 = .ok (.invokevirtual 62, 3) := by decide +kernel
theorem dX5_ask_103 : decode cX5_ask 103 = .ok (.aload_n 0, 1) := by decide +kernel
theorem dX5_ask_104 : decode cX5_ask 104 = .ok (.iconst 3, 1) := by decide +kernel
theorem dX5_ask_105 : decode cX5_ask 105 = .ok (.bipush 7, 2) := by decide +kernel
theorem dX5_ask_107 : decode cX5_ask 107 = .ok (.invokevirtual 62, 3) := by decide +kernel
theorem dX5_ask_110 : decode cX5_ask 110 = .ok (.aload_n 0, 1) := by decide +kernel
theorem dX5_ask_111 : decode cX5_ask 111 = .ok (.dup, 1) := by decide +kernel
theorem dX5_ask_112 : decode cX5_ask 112 = .ok (.getfield 152, 3) := by decide +kernel
theorem dX5_ask_115 : decode cX5_ask 115 = .ok (.iconst 1, 1) := by decide +kernel
theorem dX5_ask_116 : decode cX5_ask 116 = .ok (.iadd, 1) := by decide +kernel
theorem dX5_ask_117 : decode cX5_ask 117 = .ok (.putfield 152, 3) := by decide +kernel
theorem dX5_ask_120 : decode cX5_ask 120 = .ok (.aload_n 0, 1) := by decide +kernel
theorem dX5_ask_121 : decode cX5_ask 121 = .ok (.iload_n 1, 1) := by decide +kernel
theorem dX5_ask_122 : decode cX5_ask 122 = .ok (.iload_n 2, 1) := by decide +kernel
theorem dX5_ask_123 : decode cX5_ask 123 = .ok (.invokevirtual 101, 3) := by decide +kernel
theorem dX5_ask_126 : decode cX5_ask 126 = .ok (.istore 7, 2) := by decide +kernel
theorem dX5_ask_128 : decode cX5_ask 128 = .ok (.aload_n 0, 1) := by decide +kernel
theorem dX5_ask_129 : decode cX5_ask 129 = .ok (.iload 7, 2) := by decide +kernel
theorem dX5_ask_131 : decode cX5_ask 131 = .ok (.aload_n 0, 1) := by decide +kernel
theorem dX5_ask_132 : decode cX5_ask 132 = .ok (.getfield 104, 3) := by decide +kernel
theorem dX5_ask_135 : decode cX5_ask 135 = .ok (.if_icmp .ge 10, 3) := by decide +kernel
theorem dX5_ask_138 : decode cX5_ask 138 = .ok (.aload_n 0, 1) := by decide +kernel
theorem dX5_ask_139 : decode cX5_ask 139 = .ok (.getfield 104, 3) := by decide +kernel
theorem dX5_ask_142 : decode cX5_ask 142 = .ok (.goto 21, 3) := by decide +kernel
theorem dX5_ask_145 : decode cX5_ask 145 = .ok (.iload 7, 2) := by decide +kernel
theorem dX5_ask_147 : decode cX5_ask 147 = .ok (.aload_n 0, 1) := by decide +kernel
theorem dX5_ask_148 : decode cX5_ask 148 = .ok (.getfield 20, 3) := by decide +kernel
theorem dX5_ask_151 : decode cX5_ask 151 = .ok (.if_icmp .le 10, 3) := by decide +kernel
theorem dX5_ask_154 : decode cX5_ask 154 = .ok (.aload_n 0, 1) := by decide +kernel
theorem dX5_ask_155 : decode cX5_ask 155 = .ok (.getfield 20, 3) := by decide +kernel
theorem dX5_ask_158 : decode cX5_ask 158 = .ok (.goto 5, 3) := by decide +kernel
theorem dX5_ask_161 : decode cX5_ask 161 = .ok (.iload 7, 2) := by decide +kernel
theorem dX5_ask_163 : decode cX5_ask 163 = .ok (.lload 5, 2) := by decide +kernel
theorem dX5_ask_165 : decode cX5_ask 165 = .ok (.invokevirtual 126, 3) := by decide +kernel
theorem dX5_ask_168 : decode cX5_ask 168 = .ok (.ireturn, 1) := by decide +kernel
set_option maxRecDepth 20000 in
theorem ggX5_limb_X5_subtract : GoodIn wsX5_limb wsX5_subtract := goodIn_r _ [8, 9, 10, 11, 7, 12, 13, 14, 15, 16, 2, 17, 3, 18, 19, 20, 21, 22, 23, 24, 25, 26, 27, 28, 29, 30, 31, 32, 33, 34, 35, 36, 37, 38, 39, 40, 41, 42, 43, 44, 45, 46, 47, 48, 49, 50, 51, 52, 53, 54, 55, 56, 57, 58, 59, 60, 61, 62, 63, 64, 65, 66, 67, 68, 69, 70, 71, 72, 73, 74, 75, 76, 77, 78, 79, 80, 81, 82, 83, 84] (by decide +kernel) (by decide +kernel)
set_option maxRecDepth 20000 in
theorem gX5_limb_X5_subtract : GoodIn wsX5_limb (wsV RX5 168 RX5 yX5_subtract wsX5_subtract) := goodIn_app (goodIn_of _ (by decide +kernel)) ggX5_limb_X5_subtract
theorem dX5_limb_0 : decode cX5_limb 0 = .ok (.aload_n 0, 1) := by decide +kernel
theorem dX5_limb_1 : decode cX5_limb 1 = .ok (.iload_n 1, 1) := by decide +kernel
theorem dX5_limb_2 : decode cX5_limb 2 = .ok (.ifCond .lt 17, 3) := by decide +kernel
theorem dX5_limb_5 : decode cX5_limb 5 = .ok (.iload_n 1, 1) := by decide +kernel
theorem dX5_limb_6 : decode cX5_limb 6 = .ok (.iconst 2, 1) := by decide +kernel
theorem dX5_limb_7 : decode cX5_limb 7 = .ok (.if_icmp .gt 12, 3) := by decide +kernel
theorem dX5_limb_10 : decode cX5_limb 10 = .ok (.iload_n 2, 1) := by decide +kernel
theorem dX5_limb_11 : decode cX5_limb 11 = .ok (.ifCond .lt 8, 3) := by decide +kernel
theorem dX5_limb_14 : decode cX5_limb 14 = .ok (.iload_n 2, 1) := by decide +kernel
theorem dX5_limb_15 : decode cX5_limb 15 = .ok (.iconst 1, 1) := by decide +kernel
theorem dX5_limb_16 : decode cX5_limb 16 = .ok (.if_icmp .le 7, 3) := by decide +kernel
theorem dX5_limb_19 : decode cX5_limb 19 = .ok (.iconst 1, 1) := by decide +kernel
theorem dX5_limb_20 : decode cX5_limb 20 = .ok (.goto 4, 3) := by decide +kernel
theorem dX5_limb_23 : decode cX5_limb 23 = .ok (.iconst 0, 1) := by decide +kernel
theorem dX5_limb_24 : decode cX5_limb 24 = .ok (.putfield 46, 3) := by decide +kernel
theorem dX5_limb_27 : decode cX5_limb 27 = .ok (.aload_n 0, 1) := by decide +kernel
theorem dX5_limb_28 : decode cX5_limb 28 = .ok (.getfield 46, 3) := by decide +kernel
theorem dX5_limb_31 : decode cX5_limb 31 = .ok (.ifCond .le 5, 3) := by decide +kernel
theorem dX5_limb_34 : decode cX5_limb 34 = .ok (.iconst 0, 1) := by decide +kernel
theorem dX5_limb_35 : decode cX5_limb 35 = .ok (.ireturn, 1) := by decide +kernel
theorem dX5_limb_36 : decode cX5_limb 36 = .ok (.iload_n 1, 1) := by decide +kernel
theorem dX5_limb_37 : decode cX5_limb 37 = .ok (.iconst 2, 1) := by decide +kernel
theorem dX5_limb_38 : decode cX5_limb 38 = .ok (.if_icmp .ne 10, 3) := by decide +kernel
theorem dX5_limb_41 : decode cX5_limb 41 = .ok (.aload_n 0, 1) := by decide +kernel
theorem dX5_limb_42 : decode cX5_limb 42 = .ok (.iconst 3, 1) := by decide +kernel
theorem dX5_limb_43 : decode cX5_limb 43 = .ok (.iconst 0, 1) := by decide +kernel
theorem dX5_limb_44 : decode cX5_limb 44 = .ok (.iconst 1, 1) := by decide +kernel
theorem dX5_limb_45 : decode cX5_limb 45 = .ok (.invokevirtual 168, 3) := by decide +kernel
theorem dX5_limb_48 : decode cX5_limb 48 = .ok (.iconst 2, 1) := by decide +kernel
theorem dX5_limb_49 : decode cX5_limb 49 = .ok (.iload_n 1, 1) := by decide +kernel
theorem dX5_limb_50 : decode cX5_limb 50 = .ok (.iconst 2, 1) := by decide +kernel
theorem dX5_limb_51 : decode cX5_limb 51 = .ok (.if_icmp .ne 7, 3) := by decide +kernel
theorem dX5_limb_54 : decode cX5_limb 54 = .ok (.iconst 3, 1) := by decide +kernel
theorem dX5_limb_55 : decode cX5_limb 55 = .ok (.goto 4, 3) := by decide +kernel
theorem dX5_limb_58 : decode cX5_limb 58 = .ok (.iload_n 1, 1) := by decide +kernel
theorem dX5_limb_59 : decode cX5_limb 59 = .ok (.imul, 1) := by decide +kernel
theorem dX5_limb_60 : decode cX5_limb 60 = .ok (.iload_n 2, 1) := by decide +kernel
theorem dX5_limb_61 : decode cX5_limb 61 = .ok (.iadd, 1) := by decide +kernel
theorem dX5_limb_62 : decode cX5_limb 62 = .ok (.istore 4, 2) := by decide +kernel
theorem dX5_limb_64 : decode cX5_limb 64 = .ok (.iload_n 3, 1) := by decide +kernel
theorem dX5_limb_65 : decode cX5_limb 65 = .ok (.iconst (-1), 1) := by decide +kernel
theorem dX5_limb_66 : decode cX5_limb 66 = .ok (.if_icmp .ne 13, 3) := by decide +kernel
theorem dX5_limb_69 : decode cX5_limb 69 = .ok (.aload_n 0, 1) := by decide +kernel
theorem dX5_limb_70 : decode cX5_limb 70 = .ok (.getfield 27, 3) := by decide +kernel
theorem dX5_limb_73 : decode cX5_limb 73 = .ok (.iload 4, 2) := by decide +kernel
theorem dX5_limb_75 : decode cX5_limb 75 = .ok (.iaload, 1) := by decide +kernel
theorem dX5_limb_76 : decode cX5_limb 76 = .ok (.goto 36, 3) := by decide +kernel
theorem dX5_limb_79 : decode cX5_limb 79 = .ok (.iload_n 3, 1) := by decide +kernel
theorem dX5_limb_80 : decode cX5_limb 80 = .ok (.ifCond .lt 14, 3) := by decide +kernel
theorem dX5_limb_83 : decode cX5_limb 83 = .ok (.iload_n 3, 1) := by decide +kernel
theorem dX5_limb_84 : decode cX5_limb 84 = .ok (.aload_n 0, 1) := by decide +kernel
theorem dX5_limb_85 : decode cX5_limb 85 = .ok (.getfield 27, 3) := by decide +kernel
theorem dX5_limb_88 : decode cX5_limb 88 = .ok (.iload 4, 2) := by decide +kernel
theorem dX5_limb_90 : decode cX5_limb 90 = .ok (.iaload, 1) := by decide +kernel
theorem dX5_limb_91 : decode cX5_limb 91 = .ok (.if_icmp .lt 7, 3) := by decide +kernel
theorem dX5_limb_94 : decode cX5_limb 94 = .ok (.iconst (-1), 1) := by decide +kernel
theorem dX5_limb_95 : decode cX5_limb 95 = .ok (.goto 17, 3) := by decide +kernel
theorem dX5_limb_98 : decode cX5_limb 98 = .ok (.aload_n 0, 1) := by decide +kernel
theorem dX5_limb_99 : decode cX5_limb 99 = .ok (.getfield 23, 3) := by decide +kernel
theorem dX5_limb_102 : decode cX5_limb 102 = .ok (.sipush 256, 3) := by decide +kernel
theorem dX5_limb_105 : decode cX5_limb 105 = .ok (.iload 4, 2) := by decide +kernel
theorem dX5_limb_107 : decode cX5_limb 107 = .ok (.imul, 1) := by decide +kernel
theorem dX5_limb_108 : decode cX5_limb 108 = .ok (.iload_n 3, 1) := by decide +kernel
theorem dX5_limb_109 : decode cX5_limb 109 = .ok (.iadd, 1) := by decide +kernel
theorem dX5_limb_110 : decode cX5_limb 110 = .ok (.laload, 1) := by decide +kernel
theorem dX5_limb_111 : decode cX5_limb 111 = .ok (.l2i, 1) := by decide +kernel
theorem dX5_limb_112 : decode cX5_limb 112 = .ok (.ireturn, 1) := by decide +kernel
theorem dX5_told_0 : decode cX5_told 0 = .ok (.aload_n 0, 1) := by decide +kernel
theorem dX5_told_1 : decode cX5_told 1 = .ok (.iload_n 1, 1) := by decide +kernel
theorem dX5_told_2 : decode cX5_told 2 = .ok (.ifCond .lt 9, 3) := by decide +kernel
theorem dX5_told_5 : decode cX5_told 5 = .ok (.iload_n 1, 1) := by decide +kernel
theorem dX5_told_6 : decode cX5_told 6 = .ok (.bipush 7, 2) := by decide +kernel
theorem dX5_told_8 : decode cX5_told 8 = .ok (.if_icmp .le 7, 3) := by decide +kernel
theorem dX5_told_11 : decode cX5_told 11 = .ok (.iconst 1, 1) := by decide +kernel
theorem dX5_told_12 : decode cX5_told 12 = .ok (.goto 4, 3) := by decide +kernel
theorem dX5_told_15 : decode cX5_told 15 = .ok (.iconst 0, 1) := by decide +kernel
theorem dX5_told_16 : decode cX5_told 16 = .ok (.putfield 46, 3) := by decide +kernel
theorem dX5_told_19 : decode cX5_told 19 = .ok (.aload_n 0, 1) := by decide +kernel
theorem dX5_told_20 : decode cX5_told 20 = .ok (.getfield 46, 3) := by decide +kernel
theorem dX5_told_23 : decode cX5_told 23 = .ok (.ifCond .le 5, 3) := by decide +kernel
theorem dX5_told_26 : decode cX5_told 26 = .ok (.iconst 0, 1) := by decide +kernel
theorem dX5_told_27 : decode cX5_told 27 = .ok (.ireturn, 1) := by decide +kernel
theorem dX5_told_28 : decode cX5_told 28 = .ok (.iload_n 1, 1) := by decide +kernel
theorem dX5_told_29 : decode cX5_told 29 = .ok (.tableswitch 78 0 6 #[43, 48, 53, 58, 63, 68, 73], 43) := by decide +kernel
theorem dX5_told_72 : decode cX5_told 72 = .ok (.aload_n 0, 1) := by decide +kernel
theorem dX5_told_73 : decode cX5_told 73 = .ok (.getfield 152, 3) := by decide +kernel
theorem dX5_told_76 : decode cX5_told 76 = .ok (.ireturn, 1) := by decide +kernel
theorem dX5_told_77 : decode cX5_told 77 = .ok (.aload_n 0, 1) := by decide +kernel
theorem dX5_told_78 : decode cX5_told 78 = .ok (.getfield 155, 3) := by decide +kernel
theorem dX5_told_81 : decode cX5_told 81 = .ok (.ireturn, 1) := by decide +kernel
theorem dX5_told_82 : decode cX5_told 82 = .ok (.aload_n 0, 1) := by decide +kernel
theorem dX5_told_83 : decode cX5_told 83 = .ok (.getfield 158, 3) := by decide +kernel
theorem dX5_told_86 : decode cX5_told 86 = .ok (.ireturn, 1) := by decide +kernel
theorem dX5_told_87 : decode cX5_told 87 = .ok (.aload_n 0, 1) := by decide +kernel
theorem dX5_told_88 : decode cX5_told 88 = .ok (.getfield 98, 3) := by decide +kernel
theorem dX5_told_91 : decode cX5_told 91 = .ok (.ireturn, 1) := by decide +kernel
theorem dX5_told_92 : decode cX5_told 92 = .ok (.aload_n 0, 1) := by decide +kernel
theorem dX5_told_93 : decode cX5_told 93 = .ok (.getfield 104, 3) := by decide +kernel
theorem dX5_told_96 : decode cX5_told 96 = .ok (.ireturn, 1) := by decide +kernel
theorem dX5_told_97 : decode cX5_told 97 = .ok (.aload_n 0, 1) := by decide +kernel
theorem dX5_told_98 : decode cX5_told 98 = .ok (.getfield 20, 3) := by decide +kernel
theorem dX5_told_101 : decode cX5_told 101 = .ok (.ireturn, 1) := by decide +kernel
theorem dX5_told_102 : decode cX5_told 102 = .ok (.aload_n 0, 1) := by decide +kernel
theorem dX5_told_103 : decode cX5_told 103 = .ok (.getfield 13, 3) := by decide +kernel
theorem dX5_told_106 : decode cX5_told 106 = .ok (.ireturn, 1) := by decide +kernel
theorem dX5_told_107 : decode cX5_told 107 = .ok (.aload_n 0, 1) := by decide +kernel
theorem dX5_told_108 : decode cX5_told 108 = .ok (.getfield 17, 3) := by decide +kernel
theorem dX5_told_111 : decode cX5_told 111 = .ok (.ireturn, 1) := by decide +kernel
