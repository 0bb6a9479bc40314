set_option maxRecDepth 20000 in
theorem ggX3_init_X3_become : GoodIn wsX3_init wsX3_become := goodIn_r _ [8, 9, 10, 11, 12, 13, 14, 15, 7, 16, 17, 18, 19, 20, 21] (by decide +kernel) (by decide +kernel)
set_option maxRecDepth 20000 in
theorem gX3_init_X3_become : GoodIn wsX3_init (wsV RX3 7 RX3 yX3_become wsX3_become) := goodIn_app (goodIn_of _ (by decide +kernel)) ggX3_init_X3_become
theorem dX3_init_0 : decode cX3_init 0 = .ok (.aload_n 0, 1) := by decide +kernel
theorem dX3_init_1 : decode cX3_init 1 = .ok (.invokespecial 1, 3) := by decide +kernel
theorem dX3_init_4 : decode cX3_init 4 = .ok (.aload_n 0, 1) := by decide +kernel
theorem dX3_init_5 : decode cX3_init 5 = .ok (.iconst 1, 1) := by decide +kernel
theorem dX3_init_6 : decode cX3_init 6 = .ok (.iconst 2, 1) := by decide +kernel
theorem dX3_init_7 : decode cX3_init 7 = .ok (.iconst 0, 1) := by decide +kernel
theorem dX3_init_8 : decode cX3_init 8 = .ok (.bipush 10, 2) := by decide +kernel
theorem dX3_init_10 : decode cX3_init 10 = .ok (.invokevirtual 7, 3) := by decide +kernel
theorem dX3_init_13 : decode cX3_init 13 = .ok (.return_, 1) := by decide +kernel
theorem dX3_isAllowed_0 : decode cX3_isAllowed 0 = .ok (.iload_n 0, 1) := by decide +kernel
theorem dX3_isAllowed_1 : decode cX3_isAllowed 1 = .ok (.iconst 1, 1) := by decide +kernel
theorem dX3_isAllowed_2 : decode cX3_isAllowed 2 = .ok (.if_icmp .lt 45, 3) := by decide +kernel
theorem dX3_isAllowed_5 : decode cX3_isAllowed 5 = .ok (.iload_n 0, 1) := by decide +kernel
theorem dX3_isAllowed_6 : decode cX3_isAllowed 6 = .ok (.iload_n 1, 1) := by decide +kernel
theorem dX3_isAllowed_7 : decode cX3_isAllowed 7 = .ok (.if_icmp .ge 40, 3) := by decide +kernel
theorem dX3_isAllowed_10 : decode cX3_isAllowed 10 = .ok (.iload_n 1, 1) := by decide +kernel
theorem dX3_isAllowed_11 : decode cX3_isAllowed 11 = .ok (.bipush 10, 2) := by decide +kernel
theorem dX3_isAllowed_13 : decode cX3_isAllowed 13 = .ok (.if_icmp .gt 34, 3) := by decide +kernel
theorem dX3_isAllowed_16 : decode cX3_isAllowed 16 = .ok (.iload_n 2, 1) := by decide +kernel
theorem dX3_isAllowed_17 : decode cX3_isAllowed 17 = .ok (.sipush (-1000), 3) := by decide +kernel
theorem dX3_isAllowed_20 : decode cX3_isAllowed 20 = .ok (.if_icmp .lt 27, 3) := by decide +kernel
theorem dX3_isAllowed_23 : decode cX3_isAllowed 23 = .ok (.iload_n 3, 1) := by decide +kernel
theorem dX3_isAllowed_24 : decode cX3_isAllowed 24 = .ok (.sipush 1000, 3) := by decide +kernel
theorem dX3_isAllowed_27 : decode cX3_isAllowed 27 = .ok (.if_icmp .gt 20, 3) := by decide +kernel
theorem dX3_isAllowed_30 : decode cX3_isAllowed 30 = .ok (.iload_n 2, 1) := by decide +kernel
theorem dX3_isAllowed_31 : decode cX3_isAllowed 31 = .ok (.iload_n 3, 1) := by decide +kernel
theorem dX3_isAllowed_32 : decode cX3_isAllowed 32 = .ok (.if_icmp .gt 15, 3) := by decide +kernel
theorem dX3_isAllowed_35 : decode cX3_isAllowed 35 = .ok (.iload_n 3, 1) := by decide +kernel
theorem dX3_isAllowed_36 : decode cX3_isAllowed 36 = .ok (.iload_n 2, 1) := by decide +kernel
theorem dX3_isAllowed_37 : decode cX3_isAllowed 37 = .ok (.isub, 1) := by decide +kernel
theorem dX3_isAllowed_38 : decode cX3_isAllowed 38 = .ok (.bipush 14, 2) := by decide +kernel
theorem dX3_isAllowed_40 : decode cX3_isAllowed 40 = .ok (.if_icmp .gt 7, 3) := by decide +kernel
theorem dX3_isAllowed_43 : decode cX3_isAllowed 43 = .ok (.iconst 1, 1) := by decide +kernel
theorem dX3_isAllowed_44 : decode cX3_isAllowed 44 = .ok (.goto 4, 3) := by decide +kernel
theorem dX3_isAllowed_47 : decode cX3_isAllowed 47 = .ok (.iconst 0, 1) := by decide +kernel
theorem dX3_isAllowed_48 : decode cX3_isAllowed 48 = .ok (.ireturn, 1) := by decide +kernel
set_option maxRecDepth 20000 in
theorem ggX3_become_X3_power : GoodIn wsX3_become wsX3_power := goodIn_r _ [9] (by decide +kernel) (by decide +kernel)
set_option maxRecDepth 20000 in
theorem gX3_become_X3_power : GoodIn wsX3_become (va_wsS RX3 26 yX3_power wsX3_power) := goodIn_app (goodIn_of _ (by decide +kernel)) ggX3_become_X3_power
theorem dX3_become_0 : decode cX3_become 0 = .ok (.aload_n 0, 1) := by decide +kernel
theorem dX3_become_1 : decode cX3_become 1 = .ok (.iload_n 1, 1) := by decide +kernel
theorem dX3_become_2 : decode cX3_become 2 = .ok (.putfield 13, 3) := by decide +kernel
theorem dX3_become_5 : decode cX3_become 5 = .ok (.aload_n 0, 1) := by decide +kernel
theorem dX3_become_6 : decode cX3_become 6 = .ok (.iload_n 2, 1) := by decide +kernel
theorem dX3_become_7 : decode cX3_become 7 = .ok (.putfield 17, 3) := by decide +kernel
theorem dX3_become_10 : decode cX3_become 10 = .ok (.aload_n 0, 1) := by decide +kernel
theorem dX3_become_11 : decode cX3_become 11 = .ok (.iload_n 3, 1) := by decide +kernel
theorem dX3_become_12 : decode cX3_become 12 = .ok (.putfield 20, 3) := by decide +kernel
theorem dX3_become_15 : decode cX3_become 15 = .ok (.aload_n 0, 1) := by decide +kernel
theorem dX3_become_16 : decode cX3_become 16 = .ok (.iload 4, 2) := by decide +kernel
theorem dX3_become_18 : decode cX3_become 18 = .ok (.putfield 23, 3) := by decide +kernel
theorem dX3_become_21 : decode cX3_become 21 = .ok (.aload_n 0, 1) := by decide +kernel
theorem dX3_become_22 : decode cX3_become 22 = .ok (.iload_n 1, 1) := by decide +kernel
theorem dX3_become_23 : decode cX3_become 23 = .ok (.iload_n 2, 1) := by decide +kernel
theorem dX3_become_24 : decode cX3_become 24 = .ok (.iadd, 1) := by decide +kernel
theorem dX3_become_25 : decode cX3_become 25 = .ok (.i2l, 1) := by decide +kernel
theorem dX3_become_26 : decode cX3_become 26 = .ok (.iload_n 2, 1) := by decide +kernel
theorem dX3_become_27 : decode cX3_become 27 = .ok (.iload 4, 2) := by decide +kernel
theorem dX3_become_29 : decode cX3_become 29 = .ok (.iload_n 3, 1) := by decide +kernel
theorem dX3_become_30 : decode cX3_become 30 = .ok (.isub, 1) := by decide +kernel
theorem dX3_become_31 : decode cX3_become 31 = .ok (.invokestatic 26, 3) := by decide +kernel
theorem dX3_become_34 : decode cX3_become 34 = .ok (.lmul, 1) := by decide +kernel
theorem dX3_become_35 : decode cX3_become 35 = .ok (.putfield 30, 3) := by decide +kernel
theorem dX3_become_38 : decode cX3_become 38 = .ok (.return_, 1) := by decide +kernel
theorem dX3_holds_0 : decode cX3_holds 0 = .ok (.iload_n 1, 1) := by decide +kernel
theorem dX3_holds_1 : decode cX3_holds 1 = .ok (.aload_n 0, 1) := by decide +kernel
theorem dX3_holds_2 : decode cX3_holds 2 = .ok (.getfield 20, 3) := by decide +kernel
theorem dX3_holds_5 : decode cX3_holds 5 = .ok (.if_icmp .lt 15, 3) := by decide +kernel
theorem dX3_holds_8 : decode cX3_holds 8 = .ok (.iload_n 1, 1) := by decide +kernel
theorem dX3_holds_9 : decode cX3_holds 9 = .ok (.aload_n 0, 1) := by decide +kernel
theorem dX3_holds_10 : decode cX3_holds 10 = .ok (.getfield 23, 3) := by decide +kernel
theorem dX3_holds_13 : decode cX3_holds 13 = .ok (.if_icmp .gt 7, 3) := by decide +kernel
theorem dX3_holds_16 : decode cX3_holds 16 = .ok (.iconst 1, 1) := by decide +kernel
theorem dX3_holds_17 : decode cX3_holds 17 = .ok (.goto 4, 3) := by decide +kernel
theorem dX3_holds_20 : decode cX3_holds 20 = .ok (.iconst 0, 1) := by decide +kernel
theorem dX3_holds_21 : decode cX3_holds 21 = .ok (.ireturn, 1) := by decide +kernel
theorem dX3_hasCoin_0 : decode cX3_hasCoin 0 = .ok (.lload_n 1, 1) := by decide +kernel
theorem dX3_hasCoin_1 : decode cX3_hasCoin 1 = .ok (.lconst 0, 1) := by decide +kernel
theorem dX3_hasCoin_2 : decode cX3_hasCoin 2 = .ok (.lcmp, 1) := by decide +kernel
theorem dX3_hasCoin_3 : decode cX3_hasCoin 3 = .ok (.ifCond .lt 16, 3) := by decide +kernel
theorem dX3_hasCoin_6 : decode cX3_hasCoin 6 = .ok (.lload_n 1, 1) := by decide +kernel
theorem dX3_hasCoin_7 : decode cX3_hasCoin 7 = .ok (.aload_n 0, 1) := by decide +kernel
theorem dX3_hasCoin_8 : decode cX3_hasCoin 8 = .ok (.getfield 30, 3) := by decide +kernel
theorem dX3_hasCoin_11 : decode cX3_hasCoin 11 = .ok (.lcmp, 1) := by decide +kernel
theorem dX3_hasCoin_12 : decode cX3_hasCoin 12 = .ok (.ifCond .ge 7, 3) := by decide +kernel
theorem dX3_hasCoin_15 : decode cX3_hasCoin 15 = .ok (.iconst 1, 1) := by decide +kernel
theorem dX3_hasCoin_16 : decode cX3_hasCoin 16 = .ok (.goto 4, 3) := by decide +kernel
theorem dX3_hasCoin_19 : decode cX3_hasCoin 19 = .ok (.iconst 0, 1) := by decide +kernel
theorem dX3_hasCoin_20 : decode cX3_hasCoin 20 = .ok (.ireturn, 1) := by decide +kernel
theorem dX3_nearestTo_0 : decode cX3_nearestTo 0 = .ok (.iload_n 1, 1) := by decide +kernel
theorem dX3_nearestTo_1 : decode cX3_nearestTo 1 = .ok (.aload_n 0, 1) := by decide +kernel
theorem dX3_nearestTo_2 : decode cX3_nearestTo 2 = .ok (.getfield 20, 3) := by decide +kernel
theorem dX3_nearestTo_5 : decode cX3_nearestTo 5 = .ok (.if_icmp .ge 10, 3) := by decide +kernel
theorem dX3_nearestTo_8 : decode cX3_nearestTo 8 = .ok (.aload_n 0, 1) := by decide +kernel
theorem dX3_nearestTo_9 : decode cX3_nearestTo 9 = .ok (.getfield 20, 3) := by decide +kernel
theorem dX3_nearestTo_12 : decode cX3_nearestTo 12 = .ok (.goto 19, 3) := by decide +kernel
theorem dX3_nearestTo_15 : decode cX3_nearestTo 15 = .ok (.iload_n 1, 1) := by decide +kernel
theorem dX3_nearestTo_16 : decode cX3_nearestTo 16 = .ok (.aload_n 0, 1) := by decide +kernel
theorem dX3_nearestTo_17 : decode cX3_nearestTo 17 = .ok (.getfield 23, 3) := by decide +kernel
theorem dX3_nearestTo_20 : decode cX3_nearestTo 20 = .ok (.if_icmp .le 10, 3) := by decide +kernel
theorem dX3_nearestTo_23 : decode cX3_nearestTo 23 = .ok (.aload_n 0, 1) := by decide +kernel
theorem dX3_nearestTo_24 : decode cX3_nearestTo 24 = .ok (.getfield 23, 3) := by decide +kernel
theorem dX3_nearestTo_27 : decode cX3_nearestTo 27 = .ok (.goto 4, 3) := by decide +kernel
theorem dX3_nearestTo_30 : decode cX3_nearestTo 30 = .ok (.iload_n 1, 1) := by decide +kernel
theorem dX3_nearestTo_31 : decode cX3_nearestTo 31 = .ok (.ireturn, 1) := by decide +kernel
set_option maxRecDepth 20000 in
theorem ggX3_weightOf_X3_holds : GoodIn wsX3_weightOf wsX3_holds := goodIn_r _ [10, 1, 2, 14, 15, 16, 17, 18] (by decide +kernel) (by decide +kernel)
set_option maxRecDepth 20000 in
theorem gX3_weightOf_X3_holds : GoodIn wsX3_weightOf (wsV RX3 34 RX3 yX3_holds wsX3_holds) := goodIn_app (goodIn_of _ (by decide +kernel)) ggX3_weightOf_X3_holds
set_option maxRecDepth 20000 in
theorem ggX3_weightOf_X3_power : GoodIn wsX3_weightOf wsX3_power := goodIn_r _ [13] (by decide +kernel) (by decide +kernel)
set_option maxRecDepth 20000 in
theorem gX3_weightOf_X3_power : GoodIn wsX3_weightOf (va_wsS RX3 26 yX3_power wsX3_power) := goodIn_app (goodIn_of _ (by decide +kernel)) ggX3_weightOf_X3_power
theorem dX3_weightOf_0 : decode cX3_weightOf 0 = .ok (.aload_n 0, 1) := by decide +kernel
theorem dX3_weightOf_1 : decode cX3_weightOf 1 = .ok (.iload_n 1, 1) := by decide +kernel
theorem dX3_weightOf_2 : decode cX3_weightOf 2 = .ok (.invokevirtual 34, 3) := by decide +kernel
theorem dX3_weightOf_5 : decode cX3_weightOf 5 = .ok (.ifCond .eq 11, 3) := by decide +kernel
theorem dX3_weightOf_8 : decode cX3_weightOf 8 = .ok (.aload_n 0, 1) := by decide +kernel
theorem dX3_weightOf_9 : decode cX3_weightOf 9 = .ok (.iload_n 2, 1) := by decide +kernel
theorem dX3_weightOf_10 : decode cX3_weightOf 10 = .ok (.invokevirtual 34, 3) := by decide +kernel
theorem dX3_weightOf_13 : decode cX3_weightOf 13 = .ok (.ifCond .ne 5, 3) := by decide +kernel
theorem dX3_weightOf_16 : decode cX3_weightOf 16 = .ok (.lconst 0, 1) := by decide +kernel
theorem dX3_weightOf_17 : decode cX3_weightOf 17 = .ok (.lreturn, 1) := by decide +kernel
theorem dX3_weightOf_18 : decode cX3_weightOf 18 = .ok (.aload_n 0, 1) := by decide +kernel
theorem dX3_weightOf_19 : decode cX3_weightOf 19 = .ok (.getfield 20, 3) := by decide +kernel
theorem dX3_weightOf_22 : decode cX3_weightOf 22 = .ok (.aload_n 0, 1) := by decide +kernel
theorem dX3_weightOf_23 : decode cX3_weightOf 23 = .ok (.getfield 23, 3) := by decide +kernel
theorem dX3_weightOf_26 : decode cX3_weightOf 26 = .ok (.if_icmp .ne 8, 3) := by decide +kernel
theorem dX3_weightOf_29 : decode cX3_weightOf 29 = .ok (.aload_n 0, 1) := by decide +kernel
theorem dX3_weightOf_30 : decode cX3_weightOf 30 = .ok (.getfield 30, 3) := by decide +kernel
theorem dX3_weightOf_33 : decode cX3_weightOf 33 = .ok (.lreturn, 1) := by decide +kernel
theorem dX3_weightOf_34 : decode cX3_weightOf 34 = .ok (.aload_n 0, 1) := by decide +kernel
theorem dX3_weightOf_35 : decode cX3_weightOf 35 = .ok (.getfield 23, 3) := by decide +kernel
theorem dX3_weightOf_38 : decode cX3_weightOf 38 = .ok (.aload_n 0, 1) := by decide +kernel
theorem dX3_weightOf_39 : decode cX3_weightOf 39 = .ok (.getfield 20, 3) := by decide +kernel
theorem dX3_weightOf_42 : decode cX3_weightOf 42 = .ok (.isub, 1) := by decide +kernel
theorem dX3_weightOf_43 : decode cX3_weightOf 43 = .ok (.istore_n 3, 1) := by decide +kernel
theorem dX3_weightOf_44 : decode cX3_weightOf 44 = .ok (.iload_n 1, 1) := by decide +kernel
theorem dX3_weightOf_45 : decode cX3_weightOf 45 = .ok (.iload_n 2, 1) := by decide +kernel
theorem dX3_weightOf_46 : decode cX3_weightOf 46 = .ok (.if_icmp .ge 9, 3) := by decide +kernel
theorem dX3_weightOf_49 : decode cX3_weightOf 49 = .ok (.iload_n 2, 1) := by decide +kernel
theorem dX3_weightOf_50 : decode cX3_weightOf 50 = .ok (.iload_n 1, 1) := by decide +kernel
theorem dX3_weightOf_51 : decode cX3_weightOf 51 = .ok (.isub, 1) := by decide +kernel
theorem dX3_weightOf_52 : decode cX3_weightOf 52 = .ok (.goto 6, 3) := by decide +kernel
theorem dX3_weightOf_55 : decode cX3_weightOf 55 = .ok (.iload_n 1, 1) := by decide +kernel
theorem dX3_weightOf_56 : decode cX3_weightOf 56 = .ok (.iload_n 2, 1) := by decide +kernel
theorem dX3_weightOf_57 : decode cX3_weightOf 57 = .ok (.isub, 1) := by decide +kernel
theorem dX3_weightOf_58 : decode cX3_weightOf 58 = .ok (.istore 4, 2) := by decide +kernel
theorem dX3_weightOf_60 : decode cX3_weightOf 60 = .ok (.iload_n 2, 1) := by decide +kernel
theorem dX3_weightOf_61 : decode cX3_weightOf 61 = .ok (.aload_n 0, 1) := by decide +kernel
theorem dX3_weightOf_62 : decode cX3_weightOf 62 = .ok (.getfield 20, 3) := by decide +kernel
theorem dX3_weightOf_65 : decode cX3_weightOf 65 = .ok (.if_icmp .eq 11, 3) := by decide +kernel
theorem dX3_weightOf_68 : decode cX3_weightOf 68 = .ok (.iload_n 2, 1) := by decide +kernel
theorem dX3_weightOf_69 : decode cX3_weightOf 69 = .ok (.aload_n 0, 1) := by decide +kernel
theorem dX3_weightOf_70 : decode cX3_weightOf 70 = .ok (.getfield 23, 3) := by decide +kernel
theorem dX3_weightOf_73 : decode cX3_weightOf 73 = .ok (.if_icmp .ne 27, 3) := by decide +kernel
theorem dX3_weightOf_76 : decode cX3_weightOf 76 = .ok (.aload_n 0, 1) := by decide +kernel
theorem dX3_weightOf_77 : decode cX3_weightOf 77 = .ok (.getfield 17, 3) := by decide +kernel
theorem dX3_weightOf_80 : decode cX3_weightOf 80 = .ok (.iload_n 3, 1) := by decide +kernel
theorem dX3_weightOf_81 : decode cX3_weightOf 81 = .ok (.iconst 1, 1) := by decide +kernel
theorem dX3_weightOf_82 : decode cX3_weightOf 82 = .ok (.iadd, 1) := by decide +kernel
theorem dX3_weightOf_83 : decode cX3_weightOf 83 = .ok (.iload 4, 2) := by decide +kernel
theorem dX3_weightOf_85 : decode cX3_weightOf 85 = .ok (.isub, 1) := by decide +kernel
theorem dX3_weightOf_86 : decode cX3_weightOf 86 = .ok (.invokestatic 26, 3) := by decide +kernel
theorem dX3_weightOf_89 : decode cX3_weightOf 89 = .ok (.aload_n 0, 1) := by decide +kernel
theorem dX3_weightOf_90 : decode cX3_weightOf 90 = .ok (.getfield 13, 3) := by decide +kernel
theorem dX3_weightOf_93 : decode cX3_weightOf 93 = .ok (.iload 4, 2) := by decide +kernel
theorem dX3_weightOf_95 : decode cX3_weightOf 95 = .ok (.invokestatic 26, 3) := by decide +kernel
theorem dX3_weightOf_98 : decode cX3_weightOf 98 = .ok (.lmul, 1) := by decide +kernel
theorem dX3_weightOf_99 : decode cX3_weightOf 99 = .ok (.lreturn, 1) := by decide +kernel
theorem dX3_weightOf_100 : decode cX3_weightOf 100 = .ok (.aload_n 0, 1) := by decide +kernel
theorem dX3_weightOf_101 : decode cX3_weightOf 101 = .ok (.getfield 17, 3) := by decide +kernel
theorem dX3_weightOf_104 : decode cX3_weightOf 104 = .ok (.aload_n 0, 1) := by decide +kernel
theorem dX3_weightOf_105 : decode cX3_weightOf 105 = .ok (.getfield 13, 3) := by decide +kernel
theorem dX3_weightOf_108 : decode cX3_weightOf 108 = .ok (.isub, 1) := by decide +kernel
theorem dX3_weightOf_109 : decode cX3_weightOf 109 = .ok (.i2l, 1) := by decide +kernel
theorem dX3_weightOf_110 : decode cX3_weightOf 110 = .ok (.aload_n 0, 1) := by decide +kernel
theorem dX3_weightOf_111 : decode cX3_weightOf 111 = .ok (.getfield 17, 3) := by decide +kernel
theorem dX3_weightOf_114 : decode cX3_weightOf 114 = .ok (.iload_n 3, 1) := by decide +kernel
theorem dX3_weightOf_115 : decode cX3_weightOf 115 = .ok (.iload 4, 2) := by decide +kernel
theorem dX3_weightOf_117 : decode cX3_weightOf 117 = .ok (.isub, 1) := by decide +kernel
theorem dX3_weightOf_118 : decode cX3_weightOf 118 = .ok (.invokestatic 26, 3) := by decide +kernel
theorem dX3_weightOf_121 : decode cX3_weightOf 121 = .ok (.lmul, 1) := by decide +kernel
theorem dX3_weightOf_122 : decode cX3_weightOf 122 = .ok (.aload_n 0, 1) := by decide +kernel
theorem dX3_weightOf_123 : decode cX3_weightOf 123 = .ok (.getfield 13, 3) := by decide +kernel
theorem dX3_weightOf_126 : decode cX3_weightOf 126 = .ok (.iload 4, 2) := by decide +kernel
theorem dX3_weightOf_128 : decode cX3_weightOf 128 = .ok (.invokestatic 26, 3) := by decide +kernel
theorem dX3_weightOf_131 : decode cX3_weightOf 131 = .ok (.lmul, 1) := by decide +kernel
theorem dX3_weightOf_132 : decode cX3_weightOf 132 = .ok (.lreturn, 1) := by decide +kernel
set_option maxRecDepth 20000 in
theorem ggX3_sumTo_X3_weightOf : GoodIn wsX3_sumTo wsX3_weightOf := goodIn_r _ [7, 1, 2, 8, 9, 10, 11, 12, 13, 6, 14, 15, 16, 17, 18, 19, 20, 21, 22] (by decide +kernel) (by decide +kernel)
set_option maxRecDepth 20000 in
theorem gX3_sumTo_X3_weightOf : GoodIn wsX3_sumTo (wsV RX3 38 RX3 yX3_weightOf wsX3_weightOf) := goodIn_app (goodIn_of _ (by decide +kernel)) ggX3_sumTo_X3_weightOf
theorem dX3_sumTo_0 : decode cX3_sumTo 0 = .ok (.lconst 0, 1) := by decide +kernel
theorem dX3_sumTo_1 : decode cX3_sumTo 1 = .ok (.lstore_n 3, 1) := by decide +kernel
theorem dX3_sumTo_2 : decode cX3_sumTo 2 = .ok (.aload_n 0, 1) := by decide +kernel
theorem dX3_sumTo_3 : decode cX3_sumTo 3 = .ok (.getfield 20, 3) := by decide +kernel
theorem dX3_sumTo_6 : decode cX3_sumTo 6 = .ok (.istore 5, 2) := by decide +kernel
theorem dX3_sumTo_8 : decode cX3_sumTo 8 = .ok (.iload 5, 2) := by decide +kernel
theorem dX3_sumTo_10 : decode cX3_sumTo 10 = .ok (.aload_n 0, 1) := by decide +kernel
theorem dX3_sumTo_11 : decode cX3_sumTo 11 = .ok (.getfield 23, 3) := by decide +kernel
theorem dX3_sumTo_14 : decode cX3_sumTo 14 = .ok (.if_icmp .gt 25, 3) := by decide +kernel
theorem dX3_sumTo_17 : decode cX3_sumTo 17 = .ok (.iload 5, 2) := by decide +kernel
theorem dX3_sumTo_19 : decode cX3_sumTo 19 = .ok (.iload_n 2, 1) := by decide +kernel
theorem dX3_sumTo_20 : decode cX3_sumTo 20 = .ok (.if_icmp .gt 19, 3) := by decide +kernel
theorem dX3_sumTo_23 : decode cX3_sumTo 23 = .ok (.lload_n 3, 1) := by decide +kernel
theorem dX3_sumTo_24 : decode cX3_sumTo 24 = .ok (.aload_n 0, 1) := by decide +kernel
theorem dX3_sumTo_25 : decode cX3_sumTo 25 = .ok (.iload_n 1, 1) := by decide +kernel
theorem dX3_sumTo_26 : decode cX3_sumTo 26 = .ok (.iload 5, 2) := by decide +kernel
theorem dX3_sumTo_28 : decode cX3_sumTo 28 = .ok (.invokevirtual 38, 3) := by decide +kernel
theorem dX3_sumTo_31 : decode cX3_sumTo 31 = .ok (.ladd, 1) := by decide +kernel
theorem dX3_sumTo_32 : decode cX3_sumTo 32 = .ok (.lstore_n 3, 1) := by decide +kernel
theorem dX3_sumTo_33 : decode cX3_sumTo 33 = .ok (.iinc 5 1, 3) := by decide +kernel
theorem dX3_sumTo_36 : decode cX3_sumTo 36 = .ok (.goto (-28), 3) := by decide +kernel
theorem dX3_sumTo_39 : decode cX3_sumTo 39 = .ok (.lload_n 3, 1) := by decide +kernel
theorem dX3_sumTo_40 : decode cX3_sumTo 40 = .ok (.lreturn, 1) := by decide +kernel
set_option maxRecDepth 20000 in
theorem ggX3_outcomeOf_X3_weightOf : GoodIn wsX3_outcomeOf wsX3_weightOf := goodIn_r _ [7, 1, 2, 8, 9, 10, 11, 12, 13, 6, 14, 15, 16, 17, 18, 19, 20, 21, 22] (by decide +kernel) (by decide +kernel)
set_option maxRecDepth 20000 in
theorem gX3_outcomeOf_X3_weightOf : GoodIn wsX3_outcomeOf (wsV RX3 38 RX3 yX3_weightOf wsX3_weightOf) := goodIn_app (goodIn_of _ (by decide +kernel)) ggX3_outcomeOf_X3_weightOf
theorem dX3_outcomeOf_0 : decode cX3_outcomeOf 0 = .ok (.lconst 0, 1) := by decide +kernel
theorem dX3_outcomeOf_1 : decode cX3_outcomeOf 1 = .ok (.lstore 4, 2) := by decide +kernel
theorem dX3_outcomeOf_3 : decode cX3_outcomeOf 3 = .ok (.aload_n 0, 1) := by decide +kernel
theorem dX3_outcomeOf_4 : decode cX3_outcomeOf 4 = .ok (.getfield 20, 3) := by decide +kernel
theorem dX3_outcomeOf_7 : decode cX3_outcomeOf 7 = .ok (.istore 6, 2) := by decide +kernel
theorem dX3_outcomeOf_9 : decode cX3_outcomeOf 9 = .ok (.iload 6, 2) := by decide +kernel
theorem dX3_outcomeOf_11 : decode cX3_outcomeOf 11 = .ok (.aload_n 0, 1) := by decide +kernel
theorem dX3_outcomeOf_12 : decode cX3_outcomeOf 12 = .ok (.getfield 23, 3) := by decide +kernel
theorem dX3_outcomeOf_15 : decode cX3_outcomeOf 15 = .ok (.if_icmp .ge 31, 3) := by decide +kernel
theorem dX3_outcomeOf_18 : decode cX3_outcomeOf 18 = .ok (.lload 4, 2) := by decide +kernel
theorem dX3_outcomeOf_20 : decode cX3_outcomeOf 20 = .ok (.aload_n 0, 1) := by decide +kernel
theorem dX3_outcomeOf_21 : decode cX3_outcomeOf 21 = .ok (.iload_n 1, 1) := by decide +kernel
theorem dX3_outcomeOf_22 : decode cX3_outcomeOf 22 = .ok (.iload 6, 2) := by decide +kernel
theorem dX3_outcomeOf_24 : decode cX3_outcomeOf 24 = .ok (.invokevirtual 38, 3) := by decide +kernel
theorem dX3_outcomeOf_27 : decode cX3_outcomeOf 27 = .ok (.ladd, 1) := by decide +kernel
theorem dX3_outcomeOf_28 : decode cX3_outcomeOf 28 = .ok (.lstore 4, 2) := by decide +kernel
theorem dX3_outcomeOf_30 : decode cX3_outcomeOf 30 = .ok (.lload 4, 2) := by decide +kernel
theorem dX3_outcomeOf_32 : decode cX3_outcomeOf 32 = .ok (.lload_n 2, 1) := by decide +kernel
theorem dX3_outcomeOf_33 : decode cX3_outcomeOf 33 = .ok (.lcmp, 1) := by decide +kernel
theorem dX3_outcomeOf_34 : decode cX3_outcomeOf 34 = .ok (.ifCond .le 6, 3) := by decide +kernel
theorem dX3_outcomeOf_37 : decode cX3_outcomeOf 37 = .ok (.iload 6, 2) := by decide +kernel
theorem dX3_outcomeOf_39 : decode cX3_outcomeOf 39 = .ok (.ireturn, 1) := by decide +kernel
theorem dX3_outcomeOf_40 : decode cX3_outcomeOf 40 = .ok (.iinc 6 1, 3) := by decide +kernel
theorem dX3_outcomeOf_43 : decode cX3_outcomeOf 43 = .ok (.goto (-34), 3) := by decide +kernel
theorem dX3_outcomeOf_46 : decode cX3_outcomeOf 46 = .ok (.aload_n 0, 1) := by decide +kernel
theorem dX3_outcomeOf_47 : decode cX3_outcomeOf 47 = .ok (.getfield 23, 3) := by decide +kernel
theorem dX3_outcomeOf_50 : decode cX3_outcomeOf 50 = .ok (.ireturn, 1) := by decide +kernel
set_option maxRecDepth 20000 in
theorem ggX3_isWithinRatio_X3_weightOf : GoodIn wsX3_isWithinRatio wsX3_weightOf := goodIn_r _ [9, 1, 2, 10, 4, 3, 11, 12, 13, 8, 14, 15, 16, 17, 18, 19, 20, 21, 22] (by decide +kernel) (by decide +kernel)
set_option maxRecDepth 20000 in
theorem gX3_isWithinRatio_X3_weightOf : GoodIn wsX3_isWithinRatio (wsV RX3 38 RX3 yX3_weightOf wsX3_weightOf) := goodIn_app (goodIn_of _ (by decide +kernel)) ggX3_isWithinRatio_X3_weightOf
theorem dX3_isWithinRatio_0 : decode cX3_isWithinRatio 0 = .ok (.aload_n 0, 1) := by decide +kernel
theorem dX3_isWithinRatio_1 : decode cX3_isWithinRatio 1 = .ok (.getfield 20, 3) := by decide +kernel
theorem dX3_isWithinRatio_4 : decode cX3_isWithinRatio 4 = .ok (.istore_n 3, 1) := by decide +kernel
theorem dX3_isWithinRatio_5 : decode cX3_isWithinRatio 5 = .ok (.iload_n 3, 1) := by decide +kernel
theorem dX3_isWithinRatio_6 : decode cX3_isWithinRatio 6 = .ok (.aload_n 0, 1) := by decide +kernel
theorem dX3_isWithinRatio_7 : decode cX3_isWithinRatio 7 = .ok (.getfield 23, 3) := by decide +kernel
theorem dX3_isWithinRatio_10 : decode cX3_isWithinRatio 10 = .ok (.if_icmp .gt 39, 3) := by decide +kernel
theorem dX3_isWithinRatio_13 : decode cX3_isWithinRatio 13 = .ok (.aload_n 0, 1) := by decide +kernel
theorem dX3_isWithinRatio_14 : decode cX3_isWithinRatio 14 = .ok (.getfield 13, 3) := by decide +kernel
theorem dX3_isWithinRatio_17 : decode cX3_isWithinRatio 17 = .ok (.i2l, 1) := by decide +kernel
theorem dX3_isWithinRatio_18 : decode cX3_isWithinRatio 18 = .ok (.aload_n 0, 1) := by decide +kernel
theorem dX3_isWithinRatio_19 : decode cX3_isWithinRatio 19 = .ok (.iload_n 1, 1) := by decide +kernel
theorem dX3_isWithinRatio_20 : decode cX3_isWithinRatio 20 = .ok (.iload_n 3, 1) := by decide +kernel
theorem dX3_isWithinRatio_21 : decode cX3_isWithinRatio 21 = .ok (.invokevirtual 38, 3) := by decide +kernel
theorem dX3_isWithinRatio_24 : decode cX3_isWithinRatio 24 = .ok (.lmul, 1) := by decide +kernel
theorem dX3_isWithinRatio_25 : decode cX3_isWithinRatio 25 = .ok (.aload_n 0, 1) := by decide +kernel
theorem dX3_isWithinRatio_26 : decode cX3_isWithinRatio 26 = .ok (.getfield 17, 3) := by decide +kernel
theorem dX3_isWithinRatio_29 : decode cX3_isWithinRatio 29 = .ok (.i2l, 1) := by decide +kernel
theorem dX3_isWithinRatio_30 : decode cX3_isWithinRatio 30 = .ok (.aload_n 0, 1) := by decide +kernel
theorem dX3_isWithinRatio_31 : decode cX3_isWithinRatio 31 = .ok (.iload_n 2, 1) := by decide +kernel
theorem dX3_isWithinRatio_32 : decode cX3_isWithinRatio 32 = .ok (.iload_n 3, 1) := by decide +kernel
theorem dX3_isWithinRatio_33 : decode cX3_isWithinRatio 33 = .ok (.invokevirtual 38, 3) := by decide +kernel
theorem dX3_isWithinRatio_36 : decode cX3_isWithinRatio 36 = .ok (.lmul, 1) := by decide +kernel
theorem dX3_isWithinRatio_37 : decode cX3_isWithinRatio 37 = .ok (.lcmp, 1) := by decide +kernel
theorem dX3_isWithinRatio_38 : decode cX3_isWithinRatio 38 = .ok (.ifCond .le 5, 3) := by decide +kernel
theorem dX3_isWithinRatio_41 : decode cX3_isWithinRatio 41 = .ok (.iconst 0, 1) := by decide +kernel
theorem dX3_isWithinRatio_42 : decode cX3_isWithinRatio 42 = .ok (.ireturn, 1) := by decide +kernel
theorem dX3_isWithinRatio_43 : decode cX3_isWithinRatio 43 = .ok (.iinc 3 1, 3) := by decide +kernel
theorem dX3_isWithinRatio_46 : decode cX3_isWithinRatio 46 = .ok (.goto (-41), 3) := by decide +kernel
theorem dX3_isWithinRatio_49 : decode cX3_isWithinRatio 49 = .ok (.iconst 1, 1) := by decide +kernel
theorem dX3_isWithinRatio_50 : decode cX3_isWithinRatio 50 = .ok (.ireturn, 1) := by decide +kernel
theorem dX3_power_0 : decode cX3_power 0 = .ok (.lconst 1, 1) := by decide +kernel
theorem dX3_power_1 : decode cX3_power 1 = .ok (.lstore_n 2, 1) := by decide +kernel
theorem dX3_power_2 : decode cX3_power 2 = .ok (.iconst 0, 1) := by decide +kernel
theorem dX3_power_3 : decode cX3_power 3 = .ok (.istore 4, 2) := by decide +kernel
theorem dX3_power_5 : decode cX3_power 5 = .ok (.iload 4, 2) := by decide +kernel
theorem dX3_power_7 : decode cX3_power 7 = .ok (.iload_n 1, 1) := by decide +kernel
theorem dX3_power_8 : decode cX3_power 8 = .ok (.if_icmp .ge 14, 3) := by decide +kernel
theorem dX3_power_11 : decode cX3_power 11 = .ok (.lload_n 2, 1) := by decide +kernel
theorem dX3_power_12 : decode cX3_power 12 = .ok (.iload_n 0, 1) := by decide +kernel
theorem dX3_power_13 : decode cX3_power 13 = .ok (.i2l, 1) := by decide +kernel
theorem dX3_power_14 : decode cX3_power 14 = .ok (.lmul, 1) := by decide +kernel
theorem dX3_power_15 : decode cX3_power 15 = .ok (.lstore_n 2, 1) := by decide +kernel
theorem dX3_power_16 : decode cX3_power 16 = .ok (.iinc 4 1, 3) := by decide +kernel
theorem dX3_power_19 : decode cX3_power 19 = .ok (.goto (-14), 3) := by decide +kernel
theorem dX3_power_22 : decode cX3_power 22 = .ok (.lload_n 2, 1) := by decide +kernel
theorem dX3_power_23 : decode cX3_power 23 = .ok (.lreturn, 1) := by decide +kernel
set_option maxRecDepth 20000 in
theorem ggX4_init_X3_init : GoodIn wsX4_init wsX3_init := goodIn_r _ [26, 27, 2, 3, 28, 29, 30, 9, 31, 32, 33, 34, 35, 36, 37, 38, 39, 78, 79, 80, 81, 82] (by decide +kernel) (by decide +kernel)
set_option maxRecDepth 20000 in
theorem gX4_init_X3_init : GoodIn wsX4_init (wsX3_init) := ggX4_init_X3_init
set_option maxRecDepth 20000 in
theorem ggX4_init_X2_init : GoodIn wsX4_init wsX2_init := goodIn_r _ [41, 42, 2, 3, 43, 44, 45, 46, 47, 48, 49, 50, 4, 51, 52, 87, 88, 83, 84] (by decide +kernel) (by decide +kernel)
set_option maxRecDepth 20000 in
theorem gX4_init_X2_init_n26 : GoodIn wsX4_init (wsX2_init) := ggX4_init_X2_init
set_option maxRecDepth 20000 in
theorem ggX4_init_X0_init : GoodIn wsX4_init wsX0_init := goodIn_r _ [55, 56, 2, 3, 57, 44, 45, 58, 59, 48, 49, 50, 4, 51, 52, 60, 61, 62, 63, 64, 65, 66, 67, 87, 88, 85, 86] (by decide +kernel) (by decide +kernel)
set_option maxRecDepth 20000 in
theorem gX4_init_X0_init : GoodIn wsX4_init (wsX0_init) := ggX4_init_X0_init
theorem dX4_init_0 : decode cX4_init 0 = .ok (.aload_n 0, 1) := by decide +kernel
theorem dX4_init_1 : decode cX4_init 1 = .ok (.invokespecial 1, 3) := by decide +kernel
theorem dX4_init_4 : decode cX4_init 4 = .ok (.aload_n 0, 1) := by decide +kernel
theorem dX4_init_5 : decode cX4_init 5 = .ok (.bipush 60, 2) := by decide +kernel
theorem dX4_init_7 : decode cX4_init 7 = .ok (.newarray .int, 2) := by decide +kernel
theorem dX4_init_9 : decode cX4_init 9 = .ok (.putfield 9, 3) := by decide +kernel
theorem dX4_init_12 : decode cX4_init 12 = .ok (.aload_n 0, 1) := by decide +kernel
theorem dX4_init_13 : decode cX4_init 13 = .ok (.iconst 0, 1) := by decide +kernel
theorem dX4_init_14 : decode cX4_init 14 = .ok (.putfield 13, 3) := by decide +kernel
theorem dX4_init_17 : decode cX4_init 17 = .ok (.aload_n 0, 1) := by decide +kernel
theorem dX4_init_18 : decode cX4_init 18 = .ok (.new 17, 3) := by decide +kernel
theorem dX4_init_21 : decode cX4_init 21 = .ok (.dup, 1) := by decide +kernel
theorem dX4_init_22 : decode cX4_init 22 = .ok (.invokespecial 19, 3) := by decide +kernel
theorem dX4_init_25 : decode cX4_init 25 = .ok (.putfield 20, 3) := by decide +kernel
theorem dX4_init_28 : decode cX4_init 28 = .ok (.aload_n 0, 1) := by decide +kernel
theorem dX4_init_29 : decode cX4_init 29 = .ok (.new 24, 3) := by decide +kernel
theorem dX4_init_32 : decode cX4_init 32 = .ok (.dup, 1) := by decide +kernel
theorem dX4_init_33 : decode cX4_init 33 = .ok (.invokespecial 26, 3) := by decide +kernel
theorem dX4_init_36 : decode cX4_init 36 = .ok (.putfield 27, 3) := by decide +kernel
theorem dX4_init_39 : decode cX4_init 39 = .ok (.aload_n 0, 1) := by decide +kernel
theorem dX4_init_40 : decode cX4_init 40 = .ok (.new 31, 3) := by decide +kernel
theorem dX4_init_43 : decode cX4_init 43 = .ok (.dup, 1) := by decide +kernel
theorem dX4_init_44 : decode cX4_init 44 = .ok (.invokespecial 33, 3) := by decide +kernel
theorem dX4_init_47 : decode cX4_init 47 = .ok (.putfield 34, 3) := by decide +kernel
theorem dX4_init_50 : decode cX4_init 50 = .ok (.aload_n 0, 1) := by decide +kernel
theorem dX4_init_51 : decode cX4_init 51 = .ok (.new 31, 3) := by decide +kernel
theorem dX4_init_54 : decode cX4_init 54 = .ok (.dup, 1) := by decide +kernel
theorem dX4_init_55 : decode cX4_init 55 = .ok (.invokespecial 33, 3) := by decide +kernel
theorem dX4_init_58 : decode cX4_init 58 = .ok (.putfield 38, 3) := by decide +kernel
theorem dX4_init_61 : decode cX4_init 61 = .ok (.aload_n 0, 1) := by decide +kernel
theorem dX4_init_62 : decode cX4_init 62 = .ok (.new 31, 3) := by decide +kernel
theorem dX4_init_65 : decode cX4_init 65 = .ok (.dup, 1) := by decide +kernel
theorem dX4_init_66 : decode cX4_init 66 = .ok (.invokespecial 33, 3) := by decide +kernel
theorem dX4_init_69 : decode cX4_init 69 = .ok (.putfield 41, 3) := by decide +kernel
theorem dX4_init_72 : decode cX4_init 72 = .ok (.aload_n 0, 1) := by decide +kernel
theorem dX4_init_73 : decode cX4_init 73 = .ok (.iconst 0, 1) := by decide +kernel
theorem dX4_init_74 : decode cX4_init 74 = .ok (.putfield 44, 3) := by decide +kernel
theorem dX4_init_77 : decode cX4_init 77 = .ok (.aload_n 0, 1) := by decide +kernel
theorem dX4_init_78 : decode cX4_init 78 = .ok (.iconst 0, 1) := by decide +kernel
theorem dX4_init_79 : decode cX4_init 79 = .ok (.putfield 47, 3) := by decide +kernel
theorem dX4_init_82 : decode cX4_init 82 = .ok (.aload_n 0, 1) := by decide +kernel
theorem dX4_init_83 : decode cX4_init 83 = .ok (.iconst 0, 1) := by decide +kernel
theorem dX4_init_84 : decode cX4_init 84 = .ok (.putfield 50, 3) := by decide +kernel
theorem dX4_init_87 : decode cX4_init 87 = .ok (.return_, 1) := by decide +kernel
theorem dX4_add_0 : decode cX4_add 0 = .ok (.aload_n 0, 1) := by decide +kernel
theorem dX4_add_1 : decode cX4_add 1 = .ok (.getfield 13, 3) := by decide +kernel
theorem dX4_add_4 : decode cX4_add 4 = .ok (.ifCond .lt 15, 3) := by decide +kernel
theorem dX4_add_7 : decode cX4_add 7 = .ok (.aload_n 0, 1) := by decide +kernel
theorem dX4_add_8 : decode cX4_add 8 = .ok (.getfield 13, 3) := by decide +kernel
theorem dX4_add_11 : decode cX4_add 11 = .ok (.aload_n 0, 1) := by decide +kernel
theorem dX4_add_12 : decode cX4_add 12 = .ok (.getfield 9, 3) := by decide +kernel
theorem dX4_add_15 : decode cX4_add 15 = .ok (.arraylength, 1) := by decide +kernel
theorem dX4_add_16 : decode cX4_add 16 = .ok (.if_icmp .lt 5, 3) := by decide +kernel
theorem dX4_add_19 : decode cX4_add 19 = .ok (.iconst (-1), 1) := by decide +kernel
theorem dX4_add_20 : decode cX4_add 20 = .ok (.ireturn, 1) := by decide +kernel
theorem dX4_add_21 : decode cX4_add 21 = .ok (.aload_n 0, 1) := by decide +kernel
theorem dX4_add_22 : decode cX4_add 22 = .ok (.getfield 9, 3) := by decide +kernel
theorem dX4_add_25 : decode cX4_add 25 = .ok (.aload_n 0, 1) := by decide +kernel
theorem dX4_add_26 : decode cX4_add 26 = .ok (.getfield 13, 3) := by decide +kernel
theorem dX4_add_29 : decode cX4_add 29 = .ok (.iload_n 1, 1) := by decide +kernel
theorem dX4_add_30 : decode cX4_add 30 = .ok (.iastore, 1) := by decide +kernel
theorem dX4_add_31 : decode cX4_add 31 = .ok (.aload_n 0, 1) := by decide +kernel
theorem dX4_add_32 : decode cX4_add 32 = .ok (.dup, 1) := by decide +kernel
theorem dX4_add_33 : decode cX4_add 33 = .ok (.getfield 13, 3) := by decide +kernel
theorem dX4_add_36 : decode cX4_add 36 = .ok (.iconst 1, 1) := by decide +kernel
theorem dX4_add_37 : decode cX4_add 37 = .ok (.iadd, 1) := by decide +kernel
theorem dX4_add_38 : decode cX4_add 38 = .ok (.putfield 13, 3) := by decide +kernel
theorem dX4_add_41 : decode cX4_add 41 = .ok (.aload_n 0, 1) := by decide +kernel
theorem dX4_add_42 : decode cX4_add 42 = .ok (.getfield 13, 3) := by decide +kernel
theorem dX4_add_45 : decode cX4_add 45 = .ok (.iconst 1, 1) := by decide +kernel
theorem dX4_add_46 : decode cX4_add 46 = .ok (.isub, 1) := by decide +kernel
theorem dX4_add_47 : decode cX4_add 47 = .ok (.ireturn, 1) := by decide +kernel
theorem dX4_remove_0 : decode cX4_remove 0 = .ok (.iload_n 1, 1) := by decide +kernel
theorem dX4_remove_1 : decode cX4_remove 1 = .ok (.ifCond .lt 20, 3) := by decide +kernel
theorem dX4_remove_4 : decode cX4_remove 4 = .ok (.iload_n 1, 1) := by decide +kernel
theorem dX4_remove_5 : decode cX4_remove 5 = .ok (.aload_n 0, 1) := by decide +kernel
theorem dX4_remove_6 : decode cX4_remove 6 = .ok (.getfield 13, 3) := by decide +kernel
theorem dX4_remove_9 : decode cX4_remove 9 = .ok (.if_icmp .ge 12, 3) := by decide +kernel
theorem dX4_remove_12 : decode cX4_remove 12 = .ok (.iload_n 1, 1) := by decide +kernel
theorem dX4_remove_13 : decode cX4_remove 13 = .ok (.aload_n 0, 1) := by decide +kernel
theorem dX4_remove_14 : decode cX4_remove 14 = .ok (.getfield 9, 3) := by decide +kernel
theorem dX4_remove_17 : decode cX4_remove 17 = .ok (.arraylength, 1) := by decide +kernel
theorem dX4_remove_18 : decode cX4_remove 18 = .ok (.if_icmp .lt 13, 3) := by decide +kernel
theorem dX4_remove_21 : decode cX4_remove 21 = .ok (.new 53, 3) := by decide +kernel
theorem dX4_remove_24 : decode cX4_remove 24 = .ok (.dup, 1) := by decide +kernel
theorem dX4_remove_25 : decode cX4_remove 25 = .ok (.ldc 55, 2) := by decide +kernel
theorem dX4_remove_27 : decode cX4_remove 27 = .ok (.invokespecial 57, 3) := by decide +kernel
theorem dX4_remove_30 : decode cX4_remove 30 = .ok (.athrow, 1) := by decide +kernel
theorem dX4_remove_31 : decode cX4_remove 31 = .ok (.aload_n 0, 1) := by decide +kernel
theorem dX4_remove_32 : decode cX4_remove 32 = .ok (.getfield 9, 3) := by decide +kernel
theorem dX4_remove_35 : decode cX4_remove 35 = .ok (.iload_n 1, 1) := by decide +kernel
theorem dX4_remove_36 : decode cX4_remove 36 = .ok (.iaload, 1) := by decide +kernel
theorem dX4_remove_37 : decode cX4_remove 37 = .ok (.istore_n 2, 1) := by decide +kernel
theorem dX4_remove_38 : decode cX4_remove 38 = .ok (.iload_n 1, 1) := by decide +kernel
theorem dX4_remove_39 : decode cX4_remove 39 = .ok (.iconst 1, 1) := by decide +kernel
theorem dX4_remove_40 : decode cX4_remove 40 = .ok (.iadd, 1) := by decide +kernel
theorem dX4_remove_41 : decode cX4_remove 41 = .ok (.istore_n 3, 1) := by decide +kernel
theorem dX4_remove_42 : decode cX4_remove 42 = .ok (.iload_n 3, 1) := by decide +kernel
theorem dX4_remove_43 : decode cX4_remove 43 = .ok (.aload_n 0, 1) := by decide +kernel
theorem dX4_remove_44 : decode cX4_remove 44 = .ok (.getfield 13, 3) := by decide +kernel
theorem dX4_remove_47 : decode cX4_remove 47 = .ok (.if_icmp .ge 32, 3) := by decide +kernel
theorem dX4_remove_50 : decode cX4_remove 50 = .ok (.iload_n 3, 1) := by decide +kernel
theorem dX4_remove_51 : decode cX4_remove 51 = .ok (.aload_n 0, 1) := by decide +kernel
theorem dX4_remove_52 : decode cX4_remove 52 = .ok (.getfield 9, 3) := by decide +kernel
theorem dX4_remove_55 : decode cX4_remove 55 = .ok (.arraylength, 1) := by decide +kernel
theorem dX4_remove_56 : decode cX4_remove 56 = .ok (.if_icmp .ge 23, 3) := by decide +kernel
theorem dX4_remove_59 : decode cX4_remove 59 = .ok (.aload_n 0, 1) := by decide +kernel
theorem dX4_remove_60 : decode cX4_remove 60 = .ok (.getfield 9, 3) := by decide +kernel
theorem dX4_remove_63 : decode cX4_remove 63 = .ok (.iload_n 3, 1) := by decide +kernel
theorem dX4_remove_64 : decode cX4_remove 64 = .ok (.iconst 1, 1) := by decide +kernel
theorem dX4_remove_65 : decode cX4_remove 65 = .ok (.isub, 1) := by decide +kernel
theorem dX4_remove_66 : decode cX4_remove 66 = .ok (.aload_n 0, 1) := by decide +kernel
theorem dX4_remove_67 : decode cX4_remove 67 = .ok (.getfield 9, 3) := by decide +kernel
theorem dX4_remove_70 : decode cX4_remove 70 = .ok (.iload_n 3, 1) := by decide +kernel
theorem dX4_remove_71 : decode cX4_remove 71 = .ok (.iaload, 1) := by decide +kernel
theorem dX4_remove_72 : decode cX4_remove 72 = .ok (.iastore, 1) := by decide +kernel
theorem dX4_remove_73 : decode cX4_remove 73 = .ok (.iinc 3 1, 3) := by decide +kernel
theorem dX4_remove_76 : decode cX4_remove 76 = .ok (.goto (-34), 3) := by decide +kernel
theorem dX4_remove_79 : decode cX4_remove 79 = .ok (.aload_n 0, 1) := by decide +kernel
theorem dX4_remove_80 : decode cX4_remove 80 = .ok (.dup, 1) := by decide +kernel
theorem dX4_remove_81 : decode cX4_remove 81 = .ok (.getfield 13, 3) := by decide +kernel
theorem dX4_remove_84 : decode cX4_remove 84 = .ok (.iconst 1, 1) := by decide +kernel
theorem dX4_remove_85 : decode cX4_remove 85 = .ok (.isub, 1) := by decide +kernel
theorem dX4_remove_86 : decode cX4_remove 86 = .ok (.putfield 13, 3) := by decide +kernel
theorem dX4_remove_89 : decode cX4_remove 89 = .ok (.iload_n 2, 1) := by decide +kernel
theorem dX4_remove_90 : decode cX4_remove 90 = .ok (.ireturn, 1) := by decide +kernel
theorem dX4_count_0 : decode cX4_count 0 = .ok (.iconst 0, 1) := by decide +kernel
theorem dX4_count_1 : decode cX4_count 1 = .ok (.istore_n 3, 1) := by decide +kernel
theorem dX4_count_2 : decode cX4_count 2 = .ok (.iconst 0, 1) := by decide +kernel
theorem dX4_count_3 : decode cX4_count 3 = .ok (.istore 4, 2) := by decide +kernel
theorem dX4_count_5 : decode cX4_count 5 = .ok (.iload 4, 2) := by decide +kernel
theorem dX4_count_7 : decode cX4_count 7 = .ok (.aload_n 0, 1) := by decide +kernel
theorem dX4_count_8 : decode cX4_count 8 = .ok (.getfield 13, 3) := by decide +kernel
theorem dX4_count_11 : decode cX4_count 11 = .ok (.if_icmp .ge 44, 3) := by decide +kernel
theorem dX4_count_14 : decode cX4_count 14 = .ok (.iload 4, 2) := by decide +kernel
theorem dX4_count_16 : decode cX4_count 16 = .ok (.aload_n 0, 1) := by decide +kernel
theorem dX4_count_17 : decode cX4_count 17 = .ok (.getfield 9, 3) := by decide +kernel
theorem dX4_count_20 : decode cX4_count 20 = .ok (.arraylength, 1) := by decide +kernel
theorem dX4_count_21 : decode cX4_count 21 = .ok (.if_icmp .ge 34, 3) := by decide +kernel
theorem dX4_count_24 : decode cX4_count 24 = .ok (.aload_n 0, 1) := by decide +kernel
theorem dX4_count_25 : decode cX4_count 25 = .ok (.getfield 9, 3) := by decide +kernel
theorem dX4_count_28 : decode cX4_count 28 = .ok (.iload 4, 2) := by decide +kernel
theorem dX4_count_30 : decode cX4_count 30 = .ok (.iaload, 1) := by decide +kernel
theorem dX4_count_31 : decode cX4_count 31 = .ok (.iload_n 1, 1) := by decide +kernel
theorem dX4_count_32 : decode cX4_count 32 = .ok (.if_icmp .lt 17, 3) := by decide +kernel
theorem dX4_count_35 : decode cX4_count 35 = .ok (.aload_n 0, 1) := by decide +kernel
theorem dX4_count_36 : decode cX4_count 36 = .ok (.getfield 9, 3) := by decide +kernel
theorem dX4_count_39 : decode cX4_count 39 = .ok (.iload 4, 2) := by decide +kernel
theorem dX4_count_41 : decode cX4_count 41 = .ok (.iaload, 1) := by decide +kernel
theorem dX4_count_42 : decode cX4_count 42 = .ok (.iload_n 2, 1) := by decide +kernel
theorem dX4_count_43 : decode cX4_count 43 = .ok (.if_icmp .gt 6, 3) := by decide +kernel
theorem dX4_count_46 : decode cX4_count 46 = .ok (.iinc 3 1, 3) := by decide +kernel
theorem dX4_count_49 : decode cX4_count 49 = .ok (.iinc 4 1, 3) := by decide +kernel
theorem dX4_count_52 : decode cX4_count 52 = .ok (.goto (-47), 3) := by decide +kernel
theorem dX4_count_55 : decode cX4_count 55 = .ok (.iload_n 3, 1) := by decide +kernel
theorem dX4_count_56 : decode cX4_count 56 = .ok (.ireturn, 1) := by decide +kernel
set_option maxRecDepth 20000 in
theorem ggX4_table_X3_isAllowed : GoodIn wsX4_table wsX3_isAllowed := goodIn_r _ [8] (by decide +kernel) (by decide +kernel)
set_option maxRecDepth 20000 in
theorem gX4_table_X3_isAllowed : GoodIn wsX4_table (va_wsS RX4 60 yX3_isAllowed wsX3_isAllowed) := goodIn_app (goodIn_of _ (by decide +kernel)) ggX4_table_X3_isAllowed
set_option maxRecDepth 20000 in
theorem ggX4_table_X3_become : GoodIn wsX4_table wsX3_become := goodIn_r _ [12, 13, 14, 15, 16, 17, 18, 19, 7, 20, 31, 32, 33, 34, 35] (by decide +kernel) (by decide +kernel)
set_option maxRecDepth 20000 in
theorem gX4_table_X3_become : GoodIn wsX4_table (wsV RX4 69 RX3 yX3_become wsX3_become) := goodIn_app (goodIn_of _ (by decide +kernel)) ggX4_table_X3_become
theorem dX4_table_0 : decode cX4_table 0 = .ok (.iload_n 1, 1) := by decide +kernel
theorem dX4_table_1 : decode cX4_table 1 = .ok (.iload_n 2, 1) := by decide +kernel
theorem dX4_table_2 : decode cX4_table 2 = .ok (.iload_n 3, 1) := by decide +kernel
theorem dX4_table_3 : decode cX4_table 3 = .ok (.iload 4, 2) := by decide +kernel
theorem dX4_table_5 : decode cX4_table 5 = .ok (.invokestatic 60, 3) := by decide +kernel
theorem dX4_table_8 : decode cX4_table 8 = .ok (.ifCond .ne 13, 3) := by decide +kernel
theorem dX4_table_11 : decode cX4_table 11 = .ok (.new 64, 3) := by decide +kernel
theorem dX4_table_14 : decode cX4_table 14 = .ok (.dup, 1) := by decide +kernel
theorem dX4_table_15 : decode cX4_table 15 = .ok (.ldc 66, 2) := by decide +kernel
theorem dX4_table_17 : decode cX4_table 17 = .ok (.invokespecial 68, 3) := by decide +kernel
theorem dX4_table_20 : decode cX4_table 20 = .ok (.athrow, 1) := by decide +kernel
theorem dX4_table_21 : decode cX4_table 21 = .ok (.aload_n 0, 1) := by decide +kernel
theorem dX4_table_22 : decode cX4_table 22 = .ok (.getfield 20, 3) := by decide +kernel
theorem dX4_table_25 : decode cX4_table 25 = .ok (.iload_n 1, 1) := by decide +kernel
theorem dX4_table_26 : decode cX4_table 26 = .ok (.iload_n 2, 1) := by decide +kernel
theorem dX4_table_27 : decode cX4_table 27 = .ok (.iload_n 3, 1) := by decide +kernel
theorem dX4_table_28 : decode cX4_table 28 = .ok (.iload 4, 2) := by decide +kernel
theorem dX4_table_30 : decode cX4_table 30 = .ok (.invokevirtual 69, 3) := by decide +kernel
theorem dX4_table_33 : decode cX4_table 33 = .ok (.aload_n 0, 1) := by decide +kernel
theorem dX4_table_34 : decode cX4_table 34 = .ok (.getfield 20, 3) := by decide +kernel
theorem dX4_table_37 : decode cX4_table 37 = .ok (.getfield 73, 3) := by decide +kernel
theorem dX4_table_40 : decode cX4_table 40 = .ok (.lreturn, 1) := by decide +kernel
theorem dX4_all_0 : decode cX4_all 0 = .ok (.aload_n 0, 1) := by decide +kernel
theorem dX4_all_1 : decode cX4_all 1 = .ok (.getfield 20, 3) := by decide +kernel
theorem dX4_all_4 : decode cX4_all 4 = .ok (.getfield 73, 3) := by decide +kernel
theorem dX4_all_7 : decode cX4_all 7 = .ok (.lreturn, 1) := by decide +kernel
set_option maxRecDepth 20000 in
theorem ggX4_weight_X3_weightOf : GoodIn wsX4_weight wsX3_weightOf := goodIn_r _ [6, 7, 8, 9, 10, 11, 12, 13, 14, 5, 15, 16, 17, 18, 29, 30, 31, 32, 33] (by decide +kernel) (by decide +kernel)
set_option maxRecDepth 20000 in
theorem gX4_weight_X3_weightOf : GoodIn wsX4_weight (wsV RX4 77 RX3 yX3_weightOf wsX3_weightOf) := goodIn_app (goodIn_of _ (by decide +kernel)) ggX4_weight_X3_weightOf
theorem dX4_weight_0 : decode cX4_weight 0 = .ok (.aload_n 0, 1) := by decide +kernel
theorem dX4_weight_1 : decode cX4_weight 1 = .ok (.getfield 20, 3) := by decide +kernel
theorem dX4_weight_4 : decode cX4_weight 4 = .ok (.iload_n 1, 1) := by decide +kernel
theorem dX4_weight_5 : decode cX4_weight 5 = .ok (.iload_n 2, 1) := by decide +kernel
theorem dX4_weight_6 : decode cX4_weight 6 = .ok (.invokevirtual 77, 3) := by decide +kernel
theorem dX4_weight_9 : decode cX4_weight 9 = .ok (.lreturn, 1) := by decide +kernel
set_option maxRecDepth 20000 in
theorem ggX4_upTo_X3_sumTo : GoodIn wsX4_upTo wsX3_sumTo := goodIn_r _ [6, 7, 8, 9, 10, 11, 5, 12, 13, 14, 15, 16, 17, 18, 19, 20, 21, 22, 33, 34, 35, 36, 37] (by decide +kernel) (by decide +kernel)
set_option maxRecDepth 20000 in
theorem gX4_upTo_X3_sumTo : GoodIn wsX4_upTo (wsV RX4 81 RX3 yX3_sumTo wsX3_sumTo) := goodIn_app (goodIn_of _ (by decide +kernel)) ggX4_upTo_X3_sumTo
theorem dX4_upTo_0 : decode cX4_upTo 0 = .ok (.aload_n 0, 1) := by decide +kernel
theorem dX4_upTo_1 : decode cX4_upTo 1 = .ok (.getfield 20, 3) := by decide +kernel
theorem dX4_upTo_4 : decode cX4_upTo 4 = .ok (.iload_n 1, 1) := by decide +kernel
theorem dX4_upTo_5 : decode cX4_upTo 5 = .ok (.iload_n 2, 1) := by decide +kernel
theorem dX4_upTo_6 : decode cX4_upTo 6 = .ok (.invokevirtual 81, 3) := by decide +kernel
theorem dX4_upTo_9 : decode cX4_upTo 9 = .ok (.lreturn, 1) := by decide +kernel
set_option maxRecDepth 20000 in
theorem ggX4_draw_X3_holds : GoodIn wsX4_draw wsX3_holds := goodIn_r _ [8, 9, 10, 40, 41, 42, 43, 44] (by decide +kernel) (by decide +kernel)
set_option maxRecDepth 20000 in
theorem gX4_draw_X3_holds : GoodIn wsX4_draw (wsV RX4 84 RX3 yX3_holds wsX3_holds) := goodIn_app (goodIn_of _ (by decide +kernel)) ggX4_draw_X3_holds
set_option maxRecDepth 20000 in
theorem ggX4_draw_X3_hasCoin : GoodIn wsX4_draw wsX3_hasCoin := goodIn_r _ [14, 15, 40, 41, 42, 43, 44] (by decide +kernel) (by decide +kernel)
set_option maxRecDepth 20000 in
theorem gX4_draw_X3_hasCoin : GoodIn wsX4_draw (wsV RX4 88 RX3 yX3_hasCoin wsX3_hasCoin) := goodIn_app (goodIn_of _ (by decide +kernel)) ggX4_draw_X3_hasCoin
set_option maxRecDepth 20000 in
theorem ggX4_draw_X3_outcomeOf : GoodIn wsX4_draw wsX3_outcomeOf := goodIn_r _ [19, 9, 10, 20, 21, 22, 7, 23, 15, 24, 25, 26, 5, 6, 8, 27, 28, 29, 40, 41, 42, 43, 44] (by decide +kernel) (by decide +kernel)
set_option maxRecDepth 20000 in
theorem gX4_draw_X3_outcomeOf : GoodIn wsX4_draw (wsV RX4 94 RX3 yX3_outcomeOf wsX3_outcomeOf) := goodIn_app (goodIn_of _ (by decide +kernel)) ggX4_draw_X3_outcomeOf
theorem dX4_draw_0 : decode cX4_draw 0 = .ok (.aload_n 0, 1) := by decide +kernel
theorem dX4_draw_1 : decode cX4_draw 1 = .ok (.getfield 20, 3) := by decide +kernel
theorem dX4_draw_4 : decode cX4_draw 4 = .ok (.iload_n 1, 1) := by decide +kernel
theorem dX4_draw_5 : decode cX4_draw 5 = .ok (.invokevirtual 84, 3) := by decide +kernel
theorem dX4_draw_8 : decode cX4_draw 8 = .ok (.ifCond .eq 14, 3) := by decide +kernel
theorem dX4_draw_11 : decode cX4_draw 11 = .ok (.aload_n 0, 1) := by decide +kernel
theorem dX4_draw_12 : decode cX4_draw 12 = .ok (.getfield 20, 3) := by decide +kernel
theorem dX4_draw_15 : decode cX4_draw 15 = .ok (.lload_n 2, 1) := by decide +kernel
theorem dX4_draw_16 : decode cX4_draw 16 = .ok (.invokevirtual 88, 3) := by decide +kernel
theorem dX4_draw_19 : decode cX4_draw 19 = .ok (.ifCond .ne 13, 3) := by decide +kernel
theorem dX4_draw_22 : decode cX4_draw 22 = .ok (.new 64, 3) := by decide +kernel
theorem dX4_draw_25 : decode cX4_draw 25 = .ok (.dup, 1) := by decide +kernel
theorem dX4_draw_26 : decode cX4_draw 26 = .ok (.ldc 92, 2) := by decide +kernel
theorem dX4_draw_28 : decode cX4_draw 28 = .ok (.invokespecial 68, 3) := by decide +kernel
theorem dX4_draw_31 : decode cX4_draw 31 = .ok (.athrow, 1) := by decide +kernel
theorem dX4_draw_32 : decode cX4_draw 32 = .ok (.aload_n 0, 1) := by decide +kernel
theorem dX4_draw_33 : decode cX4_draw 33 = .ok (.getfield 20, 3) := by decide +kernel
theorem dX4_draw_36 : decode cX4_draw 36 = .ok (.iload_n 1, 1) := by decide +kernel
theorem dX4_draw_37 : decode cX4_draw 37 = .ok (.lload_n 2, 1) := by decide +kernel
theorem dX4_draw_38 : decode cX4_draw 38 = .ok (.invokevirtual 94, 3) := by decide +kernel
theorem dX4_draw_41 : decode cX4_draw 41 = .ok (.ireturn, 1) := by decide +kernel
set_option maxRecDepth 20000 in
theorem ggX4_isNear_X3_holds : GoodIn wsX4_isNear wsX3_holds := goodIn_r _ [8, 9, 10, 36, 37, 38, 39, 40] (by decide +kernel) (by decide +kernel)
set_option maxRecDepth 20000 in
theorem gX4_isNear_X3_holds : GoodIn wsX4_isNear (wsV RX4 84 RX3 yX3_holds wsX3_holds) := goodIn_app (goodIn_of _ (by decide +kernel)) ggX4_isNear_X3_holds
set_option maxRecDepth 20000 in
theorem ggX4_isNear_X3_isWithinRatio : GoodIn wsX4_isNear wsX3_isWithinRatio := goodIn_r _ [14, 9, 10, 15, 16, 17, 18, 19, 7, 20, 21, 22, 5, 6, 8, 23, 24, 25, 36, 37, 38, 39, 40] (by decide +kernel) (by decide +kernel)
set_option maxRecDepth 20000 in
theorem gX4_isNear_X3_isWithinRatio : GoodIn wsX4_isNear (wsV RX4 100 RX3 yX3_isWithinRatio wsX3_isWithinRatio) := goodIn_app (goodIn_of _ (by decide +kernel)) ggX4_isNear_X3_isWithinRatio
theorem dX4_isNear_0 : decode cX4_isNear 0 = .ok (.aload_n 0, 1) := by decide +kernel
theorem dX4_isNear_1 : decode cX4_isNear 1 = .ok (.getfield 20, 3) := by decide +kernel
theorem dX4_isNear_4 : decode cX4_isNear 4 = .ok (.iload_n 1, 1) := by decide +kernel
theorem dX4_isNear_5 : decode cX4_isNear 5 = .ok (.invokevirtual 84, 3) := by decide +kernel
theorem dX4_isNear_8 : decode cX4_isNear 8 = .ok (.ifCond .eq 14, 3) := by decide +kernel
theorem dX4_isNear_11 : decode cX4_isNear 11 = .ok (.aload_n 0, 1) := by decide +kernel
theorem dX4_isNear_12 : decode cX4_isNear 12 = .ok (.getfield 20, 3) := by decide +kernel
theorem dX4_isNear_15 : decode cX4_isNear 15 = .ok (.iload_n 2, 1) := by decide +kernel
theorem dX4_isNear_16 : decode cX4_isNear 16 = .ok (.invokevirtual 84, 3) := by decide +kernel
theorem dX4_isNear_19 : decode cX4_isNear 19 = .ok (.ifCond .ne 13, 3) := by decide +kernel
theorem dX4_isNear_22 : decode cX4_isNear 22 = .ok (.new 64, 3) := by decide +kernel
theorem dX4_isNear_25 : decode cX4_isNear 25 = .ok (.dup, 1) := by decide +kernel
theorem dX4_isNear_26 : decode cX4_isNear 26 = .ok (.ldc 98, 2) := by decide +kernel
theorem dX4_isNear_28 : decode cX4_isNear 28 = .ok (.invokespecial 68, 3) := by decide +kernel
theorem dX4_isNear_31 : decode cX4_isNear 31 = .ok (.athrow, 1) := by decide +kernel
theorem dX4_isNear_32 : decode cX4_isNear 32 = .ok (.aload_n 0, 1) := by decide +kernel
theorem dX4_isNear_33 : decode cX4_isNear 33 = .ok (.getfield 20, 3) := by decide +kernel
theorem dX4_isNear_36 : decode cX4_isNear 36 = .ok (.iload_n 1, 1) := by decide +kernel
theorem dX4_isNear_37 : decode cX4_isNear 37 = .ok (.iload_n 2, 1) := by decide +kernel
theorem dX4_isNear_38 : decode cX4_isNear 38 = .ok (.invokevirtual 100, 3) := by decide +kernel
theorem dX4_isNear_41 : decode cX4_isNear 41 = .ok (.ireturn, 1) := by decide +kernel
set_option maxRecDepth 20000 in
theorem ggX4_budget_X4_isGrant : GoodIn wsX4_budget wsX4_isGrant := goodIn_r _ [12, 13, 14, 11, 15] (by decide +kernel) (by decide +kernel)
set_option maxRecDepth 20000 in
theorem gX4_budget_X4_isGrant : GoodIn wsX4_budget (va_wsS RX4 104 yX4_isGrant wsX4_isGrant) := goodIn_app (goodIn_of _ (by decide +kernel)) ggX4_budget_X4_isGrant
set_option maxRecDepth 20000 in
theorem ggX4_budget_X0_become : GoodIn wsX4_budget wsX0_become := goodIn_r _ [20, 21, 22, 23, 24, 19, 25, 26, 27, 28, 29, 30, 31, 32, 33, 34, 35, 36, 37, 38, 39, 40, 41, 42, 43, 44, 45, 46, 47, 48, 59, 60, 61, 62] (by decide +kernel) (by decide +kernel)
set_option maxRecDepth 20000 in
theorem gX4_budget_X0_become : GoodIn wsX4_budget (wsV RX4 109 RX0 yX0_become wsX0_become) := goodIn_app (goodIn_of _ (by decide +kernel)) ggX4_budget_X0_become
theorem dX4_budget_0 : decode cX4_budget 0 = .ok (.iload_n 1, 1) := by decide +kernel
theorem dX4_budget_1 : decode cX4_budget 1 = .ok (.iload_n 2, 1) := by decide +kernel
theorem dX4_budget_2 : decode cX4_budget 2 = .ok (.invokestatic 104, 3) := by decide +kernel
theorem dX4_budget_5 : decode cX4_budget 5 = .ok (.ifCond .ne 13, 3) := by decide +kernel
theorem dX4_budget_8 : decode cX4_budget 8 = .ok (.new 64, 3) := by decide +kernel
theorem dX4_budget_11 : decode cX4_budget 11 = .ok (.dup, 1) := by decide +kernel
theorem dX4_budget_12 : decode cX4_budget 12 = .ok (.ldc 107, 2) := by decide +kernel
theorem dX4_budget_14 : decode cX4_budget 14 = .ok (.invokespecial 68, 3) := by decide +kernel
theorem dX4_budget_17 : decode cX4_budget 17 = .ok (.athrow, 1) := by decide +kernel
theorem dX4_budget_18 : decode cX4_budget 18 = .ok (.aload_n 0, 1) := by decide +kernel
theorem dX4_budget_19 : decode cX4_budget 19 = .ok (.getfield 34, 3) := by decide +kernel
theorem dX4_budget_22 : decode cX4_budget 22 = .ok (.iload_n 1, 1) := by decide +kernel
theorem dX4_budget_23 : decode cX4_budget 23 = .ok (.iload_n 2, 1) := by decide +kernel
theorem dX4_budget_24 : decode cX4_budget 24 = .ok (.invokevirtual 109, 3) := by decide +kernel
theorem dX4_budget_27 : decode cX4_budget 27 = .ok (.aload_n 0, 1) := by decide +kernel
theorem dX4_budget_28 : decode cX4_budget 28 = .ok (.getfield 38, 3) := by decide +kernel
theorem dX4_budget_31 : decode cX4_budget 31 = .ok (.iconst 0, 1) := by decide +kernel
theorem dX4_budget_32 : decode cX4_budget 32 = .ok (.iconst 1, 1) := by decide +kernel
theorem dX4_budget_33 : decode cX4_budget 33 = .ok (.invokevirtual 109, 3) := by decide +kernel
theorem dX4_budget_36 : decode cX4_budget 36 = .ok (.aload_n 0, 1) := by decide +kernel
theorem dX4_budget_37 : decode cX4_budget 37 = .ok (.getfield 41, 3) := by decide +kernel
theorem dX4_budget_40 : decode cX4_budget 40 = .ok (.iload_n 1, 1) := by decide +kernel
theorem dX4_budget_41 : decode cX4_budget 41 = .ok (.iload_n 2, 1) := by decide +kernel
theorem dX4_budget_42 : decode cX4_budget 42 = .ok (.invokevirtual 109, 3) := by decide +kernel
theorem dX4_budget_45 : decode cX4_budget 45 = .ok (.aload_n 0, 1) := by decide +kernel
theorem dX4_budget_46 : decode cX4_budget 46 = .ok (.iconst 0, 1) := by decide +kernel
theorem dX4_budget_47 : decode cX4_budget 47 = .ok (.putfield 44, 3) := by decide +kernel
theorem dX4_budget_50 : decode cX4_budget 50 = .ok (.aload_n 0, 1) := by decide +kernel
theorem dX4_budget_51 : decode cX4_budget 51 = .ok (.iconst 0, 1) := by decide +kernel
theorem dX4_budget_52 : decode cX4_budget 52 = .ok (.putfield 47, 3) := by decide +kernel
theorem dX4_budget_55 : decode cX4_budget 55 = .ok (.aload_n 0, 1) := by decide +kernel
theorem dX4_budget_56 : decode cX4_budget 56 = .ok (.iconst 0, 1) := by decide +kernel
theorem dX4_budget_57 : decode cX4_budget 57 = .ok (.putfield 50, 3) := by decide +kernel
theorem dX4_budget_60 : decode cX4_budget 60 = .ok (.return_, 1) := by decide +kernel
set_option maxRecDepth 20000 in
theorem ggX4_raise_X4_isGrant : GoodIn wsX4_raise wsX4_isGrant := goodIn_r _ [8, 9, 10, 7, 11] (by decide +kernel) (by decide +kernel)
set_option maxRecDepth 20000 in
theorem gX4_raise_X4_isGrant : GoodIn wsX4_raise (va_wsS RX4 104 yX4_isGrant wsX4_isGrant) := goodIn_app (goodIn_of _ (by decide +kernel)) ggX4_raise_X4_isGrant
set_option maxRecDepth 20000 in
theorem ggX4_raise_X0_increase : GoodIn wsX4_raise wsX0_increase := goodIn_r _ [16, 17, 18, 19, 15, 20, 21, 22, 23, 24, 25, 26, 27, 28, 29, 30, 31, 32, 33, 34, 35, 36, 37, 38, 39, 40, 41, 42, 43, 44, 45, 46, 47, 48, 49, 50, 51, 52, 53, 54, 55, 56, 57, 58, 59, 60, 71, 72, 73, 74] (by decide +kernel) (by decide +kernel)
set_option maxRecDepth 20000 in
theorem gX4_raise_X0_increase : GoodIn wsX4_raise (wsV RX4 112 RX0 yX0_increase wsX0_increase) := goodIn_app (goodIn_of _ (by decide +kernel)) ggX4_raise_X0_increase
theorem dX4_raise_0 : decode cX4_raise 0 = .ok (.iload_n 1, 1) := by decide +kernel
theorem dX4_raise_1 : decode cX4_raise 1 = .ok (.iload_n 2, 1) := by decide +kernel
theorem dX4_raise_2 : decode cX4_raise 2 = .ok (.invokestatic 104, 3) := by decide +kernel
theorem dX4_raise_5 : decode cX4_raise 5 = .ok (.ifCond .ne 13, 3) := by decide +kernel
theorem dX4_raise_8 : decode cX4_raise 8 = .ok (.new 64, 3) := by decide +kernel
theorem dX4_raise_11 : decode cX4_raise 11 = .ok (.dup, 1) := by decide +kernel
theorem dX4_raise_12 : decode cX4_raise 12 = .ok (.ldc 107, 2) := by decide +kernel
theorem dX4_raise_14 : decode cX4_raise 14 = .ok (.invokespecial 68, 3) := by decide +kernel
theorem dX4_raise_17 : decode cX4_raise 17 = .ok (.athrow, 1) := by decide +kernel
theorem dX4_raise_18 : decode cX4_raise 18 = .ok (.aload_n 0, 1) := by decide +kernel
theorem dX4_raise_19 : decode cX4_raise 19 = .ok (.getfield 34, 3) := by decide +kernel
theorem dX4_raise_22 : decode cX4_raise 22 = .ok (.iload_n 1, 1) := by decide +kernel
theorem dX4_raise_23 : decode cX4_raise 23 = .ok (.iload_n 2, 1) := by decide +kernel
theorem dX4_raise_24 : decode cX4_raise 24 = .ok (.invokevirtual 112, 3) := by decide +kernel
theorem dX4_raise_27 : decode cX4_raise 27 = .ok (.aload_n 0, 1) := by decide +kernel
theorem dX4_raise_28 : decode cX4_raise 28 = .ok (.getfield 41, 3) := by decide +kernel
theorem dX4_raise_31 : decode cX4_raise 31 = .ok (.iload_n 1, 1) := by decide +kernel
theorem dX4_raise_32 : decode cX4_raise 32 = .ok (.iload_n 2, 1) := by decide +kernel
theorem dX4_raise_33 : decode cX4_raise 33 = .ok (.invokevirtual 112, 3) := by decide +kernel
theorem dX4_raise_36 : decode cX4_raise 36 = .ok (.return_, 1) := by decide +kernel
set_option maxRecDepth 20000 in
theorem ggX4_isEnough_X4_isCost : GoodIn wsX4_isEnough wsX4_isCost := goodIn_r _ [8, 9, 10, 7, 11] (by decide +kernel) (by decide +kernel)
set_option maxRecDepth 20000 in
theorem gX4_isEnough_X4_isCost : GoodIn wsX4_isEnough (va_wsS RX4 115 yX4_isCost wsX4_isCost) := goodIn_app (goodIn_of _ (by decide +kernel)) ggX4_isEnough_X4_isCost
set_option maxRecDepth 20000 in
theorem ggX4_isEnough_X2_reaches : GoodIn wsX4_isEnough wsX2_reaches := goodIn_r _ [16, 17, 18, 19, 20, 21, 22, 23, 24, 25, 26, 27, 28, 29, 30, 31, 32, 33, 34, 35, 36, 37, 38, 39, 40, 41, 42, 43, 44, 45, 46, 47, 48, 49, 50, 51, 62, 63, 64, 65, 66, 67, 68, 69, 70] (by decide +kernel) (by decide +kernel)
set_option maxRecDepth 20000 in
theorem gX4_isEnough_X2_reaches : GoodIn wsX4_isEnough (wsV RX4 120 RX2 yX2_reaches wsX2_reaches) := goodIn_app (goodIn_of _ (by decide +kernel)) ggX4_isEnough_X2_reaches
