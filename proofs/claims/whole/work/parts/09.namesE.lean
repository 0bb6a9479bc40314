set_option maxRecDepth 20000 in
theorem ggX5_init_X5_put : GoodIn wsX5_init wsX5_put := goodIn_r _ [20, 10, 21, 22, 23, 24, 19, 25, 11, 26, 27, 28, 29, 30, 31, 32, 33, 34, 35, 36, 37, 38, 39, 40, 41] (by decide +kernel) (by decide +kernel)
set_option maxRecDepth 20000 in
theorem gX5_init_X5_put : GoodIn wsX5_init (wsV RX5 42 RX5 yX5_put wsX5_put) := goodIn_app (goodIn_of _ (by decide +kernel)) ggX5_init_X5_put
theorem dX5_init_0 : decode cX5_init 0 = .ok (.aload_n 0, 1) := by decide +kernel
theorem dX5_init_1 : decode cX5_init 1 = .ok (.invokespecial 1, 3) := by decide +kernel
theorem dX5_init_4 : decode cX5_init 4 = .ok (.aload_n 0, 1) := by decide +kernel
theorem dX5_init_5 : decode cX5_init 5 = .ok (.bipush 60, 2) := by decide +kernel
theorem dX5_init_7 : decode cX5_init 7 = .ok (.newarray .int, 2) := by decide +kernel
theorem dX5_init_9 : decode cX5_init 9 = .ok (.putfield 7, 3) := by decide +kernel
theorem dX5_init_12 : decode cX5_init 12 = .ok (.aload_n 0, 1) := by decide +kernel
theorem dX5_init_13 : decode cX5_init 13 = .ok (.iconst 1, 1) := by decide +kernel
theorem dX5_init_14 : decode cX5_init 14 = .ok (.putfield 13, 3) := by decide +kernel
theorem dX5_init_17 : decode cX5_init 17 = .ok (.aload_n 0, 1) := by decide +kernel
theorem dX5_init_18 : decode cX5_init 18 = .ok (.iconst 2, 1) := by decide +kernel
theorem dX5_init_19 : decode cX5_init 19 = .ok (.putfield 17, 3) := by decide +kernel
theorem dX5_init_22 : decode cX5_init 22 = .ok (.aload_n 0, 1) := by decide +kernel
theorem dX5_init_23 : decode cX5_init 23 = .ok (.bipush 10, 2) := by decide +kernel
theorem dX5_init_25 : decode cX5_init 25 = .ok (.putfield 20, 3) := by decide +kernel
theorem dX5_init_28 : decode cX5_init 28 = .ok (.aload_n 0, 1) := by decide +kernel
theorem dX5_init_29 : decode cX5_init 29 = .ok (.sipush 4608, 3) := by decide +kernel
theorem dX5_init_32 : decode cX5_init 32 = .ok (.newarray .long, 2) := by decide +kernel
theorem dX5_init_34 : decode cX5_init 34 = .ok (.putfield 23, 3) := by decide +kernel
theorem dX5_init_37 : decode cX5_init 37 = .ok (.aload_n 0, 1) := by decide +kernel
theorem dX5_init_38 : decode cX5_init 38 = .ok (.bipush 18, 2) := by decide +kernel
theorem dX5_init_40 : decode cX5_init 40 = .ok (.newarray .int, 2) := by decide +kernel
theorem dX5_init_42 : decode cX5_init 42 = .ok (.putfield 27, 3) := by decide +kernel
theorem dX5_init_45 : decode cX5_init 45 = .ok (.aload_n 0, 1) := by decide +kernel
theorem dX5_init_46 : decode cX5_init 46 = .ok (.sipush 520, 3) := by decide +kernel
theorem dX5_init_49 : decode cX5_init 49 = .ok (.newarray .long, 2) := by decide +kernel
theorem dX5_init_51 : decode cX5_init 51 = .ok (.putfield 30, 3) := by decide +kernel
theorem dX5_init_54 : decode cX5_init 54 = .ok (.aload_n 0, 1) := by decide +kernel
theorem dX5_init_55 : decode cX5_init 55 = .ok (.sipush 520, 3) := by decide +kernel
theorem dX5_init_58 : decode cX5_init 58 = .ok (.newarray .long, 2) := by decide +kernel
theorem dX5_init_60 : decode cX5_init 60 = .ok (.putfield 33, 3) := by decide +kernel
theorem dX5_init_63 : decode cX5_init 63 = .ok (.aload_n 0, 1) := by decide +kernel
theorem dX5_init_64 : decode cX5_init 64 = .ok (.bipush 10, 2) := by decide +kernel
theorem dX5_init_66 : decode cX5_init 66 = .ok (.newarray .int, 2) := by decide +kernel
theorem dX5_init_68 : decode cX5_init 68 = .ok (.putfield 36, 3) := by decide +kernel
theorem dX5_init_71 : decode cX5_init 71 = .ok (.aload_n 0, 1) := by decide +kernel
theorem dX5_init_72 : decode cX5_init 72 = .ok (.bipush 10, 2) := by decide +kernel
theorem dX5_init_74 : decode cX5_init 74 = .ok (.newarray .int, 2) := by decide +kernel
theorem dX5_init_76 : decode cX5_init 76 = .ok (.putfield 39, 3) := by decide +kernel
theorem dX5_init_79 : decode cX5_init 79 = .ok (.iconst 0, 1) := by decide +kernel
theorem dX5_init_80 : decode cX5_init 80 = .ok (.istore_n 1, 1) := by decide +kernel
theorem dX5_init_81 : decode cX5_init 81 = .ok (.iload_n 1, 1) := by decide +kernel
theorem dX5_init_82 : decode cX5_init 82 = .ok (.iconst 5, 1) := by decide +kernel
theorem dX5_init_83 : decode cX5_init 83 = .ok (.if_icmp .ge 19, 3) := by decide +kernel
theorem dX5_init_86 : decode cX5_init 86 = .ok (.aload_n 0, 1) := by decide +kernel
theorem dX5_init_87 : decode cX5_init 87 = .ok (.iconst 2, 1) := by decide +kernel
theorem dX5_init_88 : decode cX5_init 88 = .ok (.iload_n 1, 1) := by decide +kernel
theorem dX5_init_89 : decode cX5_init 89 = .ok (.imul, 1) := by decide +kernel
theorem dX5_init_90 : decode cX5_init 90 = .ok (.iconst 1, 1) := by decide +kernel
theorem dX5_init_91 : decode cX5_init 91 = .ok (.iadd, 1) := by decide +kernel
theorem dX5_init_92 : decode cX5_init 92 = .ok (.lconst 1, 1) := by decide +kernel
theorem dX5_init_93 : decode cX5_init 93 = .ok (.invokevirtual 42, 3) := by decide +kernel
theorem dX5_init_96 : decode cX5_init 96 = .ok (.iinc 1 1, 3) := by decide +kernel
theorem dX5_init_99 : decode cX5_init 99 = .ok (.goto (-18), 3) := by decide +kernel
theorem dX5_init_102 : decode cX5_init 102 = .ok (.return_, 1) := by decide +kernel
theorem dX5_thrown_0 : decode cX5_thrown 0 = .ok (.aload_n 0, 1) := by decide +kernel
theorem dX5_thrown_1 : decode cX5_thrown 1 = .ok (.getfield 46, 3) := by decide +kernel
theorem dX5_thrown_4 : decode cX5_thrown 4 = .ok (.ireturn, 1) := by decide +kernel
theorem dX5_trim_0 : decode cX5_trim 0 = .ok (.iload_n 2, 1) := by decide +kernel
theorem dX5_trim_1 : decode cX5_trim 1 = .ok (.istore_n 3, 1) := by decide +kernel
theorem dX5_trim_2 : decode cX5_trim 2 = .ok (.iload_n 3, 1) := by decide +kernel
theorem dX5_trim_3 : decode cX5_trim 3 = .ok (.ifCond .le 28, 3) := by decide +kernel
theorem dX5_trim_6 : decode cX5_trim 6 = .ok (.aload_n 0, 1) := by decide +kernel
theorem dX5_trim_7 : decode cX5_trim 7 = .ok (.getfield 23, 3) := by decide +kernel
theorem dX5_trim_10 : decode cX5_trim 10 = .ok (.sipush 256, 3) := by decide +kernel
theorem dX5_trim_13 : decode cX5_trim 13 = .ok (.iload_n 1, 1) := by decide +kernel
theorem dX5_trim_14 : decode cX5_trim 14 = .ok (.imul, 1) := by decide +kernel
theorem dX5_trim_15 : decode cX5_trim 15 = .ok (.iload_n 3, 1) := by decide +kernel
theorem dX5_trim_16 : decode cX5_trim 16 = .ok (.iadd, 1) := by decide +kernel
theorem dX5_trim_17 : decode cX5_trim 17 = .ok (.iconst 1, 1) := by decide +kernel
theorem dX5_trim_18 : decode cX5_trim 18 = .ok (.isub, 1) := by decide +kernel
theorem dX5_trim_19 : decode cX5_trim 19 = .ok (.laload, 1) := by decide +kernel
theorem dX5_trim_20 : decode cX5_trim 20 = .ok (.lconst 0, 1) := by decide +kernel
theorem dX5_trim_21 : decode cX5_trim 21 = .ok (.lcmp, 1) := by decide +kernel
theorem dX5_trim_22 : decode cX5_trim 22 = .ok (.ifCond .ne 9, 3) := by decide +kernel
theorem dX5_trim_25 : decode cX5_trim 25 = .ok (.iinc 3 (-1), 3) := by decide +kernel
theorem dX5_trim_28 : decode cX5_trim 28 = .ok (.goto (-26), 3) := by decide +kernel
theorem dX5_trim_31 : decode cX5_trim 31 = .ok (.aload_n 0, 1) := by decide +kernel
theorem dX5_trim_32 : decode cX5_trim 32 = .ok (.getfield 27, 3) := by decide +kernel
theorem dX5_trim_35 : decode cX5_trim 35 = .ok (.iload_n 1, 1) := by decide +kernel
theorem dX5_trim_36 : decode cX5_trim 36 = .ok (.iload_n 3, 1) := by decide +kernel
theorem dX5_trim_37 : decode cX5_trim 37 = .ok (.iastore, 1) := by decide +kernel
theorem dX5_trim_38 : decode cX5_trim 38 = .ok (.return_, 1) := by decide +kernel
set_option maxRecDepth 20000 in
theorem ggX5_put_X5_trim : GoodIn wsX5_put wsX5_trim := goodIn_r _ [7, 1, 8, 9, 10, 11, 12, 13, 14, 15, 16, 17, 18, 19, 20, 21, 22, 23, 24] (by decide +kernel) (by decide +kernel)
set_option maxRecDepth 20000 in
theorem gX5_put_X5_trim : GoodIn wsX5_put (wsV RX5 51 RX5 yX5_trim wsX5_trim) := goodIn_app (goodIn_of _ (by decide +kernel)) ggX5_put_X5_trim
theorem dX5_put_0 : decode cX5_put 0 = .ok (.aload_n 0, 1) := by decide +kernel
theorem dX5_put_1 : decode cX5_put 1 = .ok (.getfield 23, 3) := by decide +kernel
theorem dX5_put_4 : decode cX5_put 4 = .ok (.sipush 256, 3) := by decide +kernel
theorem dX5_put_7 : decode cX5_put 7 = .ok (.iload_n 1, 1) := by decide +kernel
theorem dX5_put_8 : decode cX5_put 8 = .ok (.imul, 1) := by decide +kernel
theorem dX5_put_9 : decode cX5_put 9 = .ok (.lload_n 2, 1) := by decide +kernel
theorem dX5_put_10 : decode cX5_put 10 = .ok (.ldc2_w 49, 3) := by decide +kernel
theorem dX5_put_13 : decode cX5_put 13 = .ok (.land, 1) := by decide +kernel
theorem dX5_put_14 : decode cX5_put 14 = .ok (.lastore, 1) := by decide +kernel
theorem dX5_put_15 : decode cX5_put 15 = .ok (.aload_n 0, 1) := by decide +kernel
theorem dX5_put_16 : decode cX5_put 16 = .ok (.getfield 23, 3) := by decide +kernel
theorem dX5_put_19 : decode cX5_put 19 = .ok (.sipush 256, 3) := by decide +kernel
theorem dX5_put_22 : decode cX5_put 22 = .ok (.iload_n 1, 1) := by decide +kernel
theorem dX5_put_23 : decode cX5_put 23 = .ok (.imul, 1) := by decide +kernel
theorem dX5_put_24 : decode cX5_put 24 = .ok (.iconst 1, 1) := by decide +kernel
theorem dX5_put_25 : decode cX5_put 25 = .ok (.iadd, 1) := by decide +kernel
theorem dX5_put_26 : decode cX5_put 26 = .ok (.lload_n 2, 1) := by decide +kernel
theorem dX5_put_27 : decode cX5_put 27 = .ok (.bipush 31, 2) := by decide +kernel
theorem dX5_put_29 : decode cX5_put 29 = .ok (.lshr, 1) := by decide +kernel
theorem dX5_put_30 : decode cX5_put 30 = .ok (.ldc2_w 49, 3) := by decide +kernel
theorem dX5_put_33 : decode cX5_put 33 = .ok (.land, 1) := by decide +kernel
theorem dX5_put_34 : decode cX5_put 34 = .ok (.lastore, 1) := by decide +kernel
theorem dX5_put_35 : decode cX5_put 35 = .ok (.aload_n 0, 1) := by decide +kernel
theorem dX5_put_36 : decode cX5_put 36 = .ok (.iload_n 1, 1) := by decide +kernel
theorem dX5_put_37 : decode cX5_put 37 = .ok (.iconst 2, 1) := by decide +kernel
theorem dX5_put_38 : decode cX5_put 38 = .ok (.invokevirtual 51, 3) := by decide +kernel
theorem dX5_put_41 : decode cX5_put 41 = .ok (.return_, 1) := by decide +kernel
theorem dX5_copy_0 : decode cX5_copy 0 = .ok (.iconst 0, 1) := by decide +kernel
theorem dX5_copy_1 : decode cX5_copy 1 = .ok (.istore_n 3, 1) := by decide +kernel
theorem dX5_copy_2 : decode cX5_copy 2 = .ok (.iload_n 3, 1) := by decide +kernel
theorem dX5_copy_3 : decode cX5_copy 3 = .ok (.aload_n 0, 1) := by decide +kernel
theorem dX5_copy_4 : decode cX5_copy 4 = .ok (.getfield 27, 3) := by decide +kernel
theorem dX5_copy_7 : decode cX5_copy 7 = .ok (.iload_n 2, 1) := by decide +kernel
theorem dX5_copy_8 : decode cX5_copy 8 = .ok (.iaload, 1) := by decide +kernel
theorem dX5_copy_9 : decode cX5_copy 9 = .ok (.if_icmp .ge 33, 3) := by decide +kernel
theorem dX5_copy_12 : decode cX5_copy 12 = .ok (.aload_n 0, 1) := by decide +kernel
theorem dX5_copy_13 : decode cX5_copy 13 = .ok (.getfield 23, 3) := by decide +kernel
theorem dX5_copy_16 : decode cX5_copy 16 = .ok (.sipush 256, 3) := by decide +kernel
theorem dX5_copy_19 : decode cX5_copy 19 = .ok (.iload_n 1, 1) := by decide +kernel
theorem dX5_copy_20 : decode cX5_copy 20 = .ok (.imul, 1) := by decide +kernel
theorem dX5_copy_21 : decode cX5_copy 21 = .ok (.iload_n 3, 1) := by decide +kernel
theorem dX5_copy_22 : decode cX5_copy 22 = .ok (.iadd, 1) := by decide +kernel
theorem dX5_copy_23 : decode cX5_copy 23 = .ok (.aload_n 0, 1) := by decide +kernel
theorem dX5_copy_24 : decode cX5_copy 24 = .ok (.getfield 23, 3) := by decide +kernel
theorem dX5_copy_27 : decode cX5_copy 27 = .ok (.sipush 256, 3) := by decide +kernel
theorem dX5_copy_30 : decode cX5_copy 30 = .ok (.iload_n 2, 1) := by decide +kernel
theorem dX5_copy_31 : decode cX5_copy 31 = .ok (.imul, 1) := by decide +kernel
theorem dX5_copy_32 : decode cX5_copy 32 = .ok (.iload_n 3, 1) := by decide +kernel
theorem dX5_copy_33 : decode cX5_copy 33 = .ok (.iadd, 1) := by decide +kernel
theorem dX5_copy_34 : decode cX5_copy 34 = .ok (.laload, 1) := by decide +kernel
theorem dX5_copy_35 : decode cX5_copy 35 = .ok (.lastore, 1) := by decide +kernel
theorem dX5_copy_36 : decode cX5_copy 36 = .ok (.iinc 3 1, 3) := by decide +kernel
theorem dX5_copy_39 : decode cX5_copy 39 = .ok (.goto (-37), 3) := by decide +kernel
theorem dX5_copy_42 : decode cX5_copy 42 = .ok (.aload_n 0, 1) := by decide +kernel
theorem dX5_copy_43 : decode cX5_copy 43 = .ok (.getfield 27, 3) := by decide +kernel
theorem dX5_copy_46 : decode cX5_copy 46 = .ok (.iload_n 1, 1) := by decide +kernel
theorem dX5_copy_47 : decode cX5_copy 47 = .ok (.aload_n 0, 1) := by decide +kernel
theorem dX5_copy_48 : decode cX5_copy 48 = .ok (.getfield 27, 3) := by decide +kernel
theorem dX5_copy_51 : decode cX5_copy 51 = .ok (.iload_n 2, 1) := by decide +kernel
theorem dX5_copy_52 : decode cX5_copy 52 = .ok (.iaload, 1) := by decide +kernel
theorem dX5_copy_53 : decode cX5_copy 53 = .ok (.iastore, 1) := by decide +kernel
theorem dX5_copy_54 : decode cX5_copy 54 = .ok (.return_, 1) := by decide +kernel
set_option maxRecDepth 20000 in
theorem ggX5_take_X5_trim : GoodIn wsX5_take wsX5_trim := goodIn_r _ [7, 1, 8, 9, 10, 11, 12, 13, 14, 15, 16, 17, 18, 19, 20, 21, 22, 23, 24] (by decide +kernel) (by decide +kernel)
set_option maxRecDepth 20000 in
theorem gX5_take_X5_trim : GoodIn wsX5_take (wsV RX5 51 RX5 yX5_trim wsX5_trim) := goodIn_app (goodIn_of _ (by decide +kernel)) ggX5_take_X5_trim
theorem dX5_take_0 : decode cX5_take 0 = .ok (.iconst 0, 1) := by decide +kernel
theorem dX5_take_1 : decode cX5_take 1 = .ok (.istore_n 3, 1) := by decide +kernel
theorem dX5_take_2 : decode cX5_take 2 = .ok (.iload_n 3, 1) := by decide +kernel
theorem dX5_take_3 : decode cX5_take 3 = .ok (.iload_n 2, 1) := by decide +kernel
theorem dX5_take_4 : decode cX5_take 4 = .ok (.if_icmp .ge 27, 3) := by decide +kernel
theorem dX5_take_7 : decode cX5_take 7 = .ok (.aload_n 0, 1) := by decide +kernel
theorem dX5_take_8 : decode cX5_take 8 = .ok (.getfield 23, 3) := by decide +kernel
theorem dX5_take_11 : decode cX5_take 11 = .ok (.sipush 256, 3) := by decide +kernel
theorem dX5_take_14 : decode cX5_take 14 = .ok (.iload_n 1, 1) := by decide +kernel
theorem dX5_take_15 : decode cX5_take 15 = .ok (.imul, 1) := by decide +kernel
theorem dX5_take_16 : decode cX5_take 16 = .ok (.iload_n 3, 1) := by decide +kernel
theorem dX5_take_17 : decode cX5_take 17 = .ok (.iadd, 1) := by decide +kernel
theorem dX5_take_18 : decode cX5_take 18 = .ok (.aload_n 0, 1) := by decide +kernel
theorem dX5_take_19 : decode cX5_take 19 = .ok (.getfield 30, 3) := by decide +kernel
theorem dX5_take_22 : decode cX5_take 22 = .ok (.iload_n 3, 1) := by decide +kernel
theorem dX5_take_23 : decode cX5_take 23 = .ok (.laload, 1) := by decide +kernel
theorem dX5_take_24 : decode cX5_take 24 = .ok (.lastore, 1) := by decide +kernel
theorem dX5_take_25 : decode cX5_take 25 = .ok (.iinc 3 1, 3) := by decide +kernel
theorem dX5_take_28 : decode cX5_take 28 = .ok (.goto (-26), 3) := by decide +kernel
theorem dX5_take_31 : decode cX5_take 31 = .ok (.aload_n 0, 1) := by decide +kernel
theorem dX5_take_32 : decode cX5_take 32 = .ok (.iload_n 1, 1) := by decide +kernel
theorem dX5_take_33 : decode cX5_take 33 = .ok (.iload_n 2, 1) := by decide +kernel
theorem dX5_take_34 : decode cX5_take 34 = .ok (.invokevirtual 51, 3) := by decide +kernel
theorem dX5_take_37 : decode cX5_take 37 = .ok (.return_, 1) := by decide +kernel
theorem dX5_figureOf_0 : decode cX5_figureOf 0 = .ok (.iload_n 2, 1) := by decide +kernel
theorem dX5_figureOf_1 : decode cX5_figureOf 1 = .ok (.aload_n 0, 1) := by decide +kernel
theorem dX5_figureOf_2 : decode cX5_figureOf 2 = .ok (.getfield 27, 3) := by decide +kernel
theorem dX5_figureOf_5 : decode cX5_figureOf 5 = .ok (.iload_n 1, 1) := by decide +kernel
theorem dX5_figureOf_6 : decode cX5_figureOf 6 = .ok (.iaload, 1) := by decide +kernel
theorem dX5_figureOf_7 : decode cX5_figureOf 7 = .ok (.if_icmp .ge 18, 3) := by decide +kernel
theorem dX5_figureOf_10 : decode cX5_figureOf 10 = .ok (.aload_n 0, 1) := by decide +kernel
theorem dX5_figureOf_11 : decode cX5_figureOf 11 = .ok (.getfield 23, 3) := by decide +kernel
theorem dX5_figureOf_14 : decode cX5_figureOf 14 = .ok (.sipush 256, 3) := by decide +kernel
theorem dX5_figureOf_17 : decode cX5_figureOf 17 = .ok (.iload_n 1, 1) := by decide +kernel
theorem dX5_figureOf_18 : decode cX5_figureOf 18 = .ok (.imul, 1) := by decide +kernel
theorem dX5_figureOf_19 : decode cX5_figureOf 19 = .ok (.iload_n 2, 1) := by decide +kernel
theorem dX5_figureOf_20 : decode cX5_figureOf 20 = .ok (.iadd, 1) := by decide +kernel
theorem dX5_figureOf_21 : decode cX5_figureOf 21 = .ok (.laload, 1) := by decide +kernel
theorem dX5_figureOf_22 : decode cX5_figureOf 22 = .ok (.goto 4, 3) := by decide +kernel
theorem dX5_figureOf_25 : decode cX5_figureOf 25 = .ok (.lconst 0, 1) := by decide +kernel
theorem dX5_figureOf_26 : decode cX5_figureOf 26 = .ok (.lreturn, 1) := by decide +kernel
set_option maxRecDepth 20000 in
theorem ggX5_compare_X5_figureOf : GoodIn wsX5_compare wsX5_figureOf := goodIn_r _ [6, 1, 7, 8, 9, 10, 11, 12, 13, 14, 15, 16, 17, 18, 19, 20, 21, 22, 23] (by decide +kernel) (by decide +kernel)
set_option maxRecDepth 20000 in
theorem gX5_compare_X5_figureOf : GoodIn wsX5_compare (wsV RX5 55 RX5 yX5_figureOf wsX5_figureOf) := goodIn_app (goodIn_of _ (by decide +kernel)) ggX5_compare_X5_figureOf
theorem dX5_compare_0 : decode cX5_compare 0 = .ok (.aload_n 0, 1) := by decide +kernel
theorem dX5_compare_1 : decode cX5_compare 1 = .ok (.getfield 27, 3) := by decide +kernel
theorem dX5_compare_4 : decode cX5_compare 4 = .ok (.iload_n 1, 1) := by decide +kernel
theorem dX5_compare_5 : decode cX5_compare 5 = .ok (.iaload, 1) := by decide +kernel
theorem dX5_compare_6 : decode cX5_compare 6 = .ok (.aload_n 0, 1) := by decide +kernel
theorem dX5_compare_7 : decode cX5_compare 7 = .ok (.getfield 27, 3) := by decide +kernel
theorem dX5_compare_10 : decode cX5_compare 10 = .ok (.iload_n 2, 1) := by decide +kernel
theorem dX5_compare_11 : decode cX5_compare 11 = .ok (.iaload, 1) := by decide +kernel
theorem dX5_compare_12 : decode cX5_compare 12 = .ok (.if_icmp .le 12, 3) := by decide +kernel
theorem dX5_compare_15 : decode cX5_compare 15 = .ok (.aload_n 0, 1) := by decide +kernel
theorem dX5_compare_16 : decode cX5_compare 16 = .ok (.getfield 27, 3) := by decide +kernel
theorem dX5_compare_19 : decode cX5_compare 19 = .ok (.iload_n 1, 1) := by decide +kernel
theorem dX5_compare_20 : decode cX5_compare 20 = .ok (.iaload, 1) := by decide +kernel
theorem dX5_compare_21 : decode cX5_compare 21 = .ok (.goto 9, 3) := by decide +kernel
theorem dX5_compare_24 : decode cX5_compare 24 = .ok (.aload_n 0, 1) := by decide +kernel
theorem dX5_compare_25 : decode cX5_compare 25 = .ok (.getfield 27, 3) := by decide +kernel
theorem dX5_compare_28 : decode cX5_compare 28 = .ok (.iload_n 2, 1) := by decide +kernel
theorem dX5_compare_29 : decode cX5_compare 29 = .ok (.iaload, 1) := by decide +kernel
theorem dX5_compare_30 : decode cX5_compare 30 = .ok (.istore_n 3, 1) := by decide +kernel
theorem dX5_compare_31 : decode cX5_compare 31 = .ok (.iload_n 3, 1) := by decide +kernel
theorem dX5_compare_32 : decode cX5_compare 32 = .ok (.iconst 1, 1) := by decide +kernel
theorem dX5_compare_33 : decode cX5_compare 33 = .ok (.isub, 1) := by decide +kernel
theorem dX5_compare_34 : decode cX5_compare 34 = .ok (.istore 4, 2) := by decide +kernel
theorem dX5_compare_36 : decode cX5_compare 36 = .ok (.iload 4, 2) := by decide +kernel
theorem dX5_compare_38 : decode cX5_compare 38 = .ok (.ifCond .lt 46, 3) := by decide +kernel
theorem dX5_compare_41 : decode cX5_compare 41 = .ok (.aload_n 0, 1) := by decide +kernel
theorem dX5_compare_42 : decode cX5_compare 42 = .ok (.iload_n 1, 1) := by decide +kernel
theorem dX5_compare_43 : decode cX5_compare 43 = .ok (.iload 4, 2) := by decide +kernel
theorem dX5_compare_45 : decode cX5_compare 45 = .ok (.invokevirtual 55, 3) := by decide +kernel
theorem dX5_compare_48 : decode cX5_compare 48 = .ok (.aload_n 0, 1) := by decide +kernel
theorem dX5_compare_49 : decode cX5_compare 49 = .ok (.iload_n 2, 1) := by decide +kernel
theorem dX5_compare_50 : decode cX5_compare 50 = .ok (.iload 4, 2) := by decide +kernel
theorem dX5_compare_52 : decode cX5_compare 52 = .ok (.invokevirtual 55, 3) := by decide +kernel
theorem dX5_compare_55 : decode cX5_compare 55 = .ok (.lsub, 1) := by decide +kernel
theorem dX5_compare_56 : decode cX5_compare 56 = .ok (.lstore 5, 2) := by decide +kernel
theorem dX5_compare_58 : decode cX5_compare 58 = .ok (.lload 5, 2) := by decide +kernel
theorem dX5_compare_60 : decode cX5_compare 60 = .ok (.lconst 0, 1) := by decide +kernel
theorem dX5_compare_61 : decode cX5_compare 61 = .ok (.lcmp, 1) := by decide +kernel
theorem dX5_compare_62 : decode cX5_compare 62 = .ok (.ifCond .eq 16, 3) := by decide +kernel
theorem dX5_compare_65 : decode cX5_compare 65 = .ok (.lload 5, 2) := by decide +kernel
theorem dX5_compare_67 : decode cX5_compare 67 = .ok (.lconst 0, 1) := by decide +kernel
theorem dX5_compare_68 : decode cX5_compare 68 = .ok (.lcmp, 1) := by decide +kernel
theorem dX5_compare_69 : decode cX5_compare 69 = .ok (.ifCond .ge 7, 3) := by decide +kernel
theorem dX5_compare_72 : decode cX5_compare 72 = .ok (.iconst (-1), 1) := by decide +kernel
theorem dX5_compare_73 : decode cX5_compare 73 = .ok (.goto 4, 3) := by decide +kernel
theorem dX5_compare_76 : decode cX5_compare 76 = .ok (.iconst 1, 1) := by decide +kernel
theorem dX5_compare_77 : decode cX5_compare 77 = .ok (.ireturn, 1) := by decide +kernel
theorem dX5_compare_78 : decode cX5_compare 78 = .ok (.iinc 4 (-1), 3) := by decide +kernel
theorem dX5_compare_81 : decode cX5_compare 81 = .ok (.goto (-45), 3) := by decide +kernel
theorem dX5_compare_84 : decode cX5_compare 84 = .ok (.iconst 0, 1) := by decide +kernel
theorem dX5_compare_85 : decode cX5_compare 85 = .ok (.ireturn, 1) := by decide +kernel
set_option maxRecDepth 20000 in
theorem ggX5_plus_X5_figureOf : GoodIn wsX5_plus wsX5_figureOf := goodIn_r _ [8, 1, 9, 18, 19, 20, 21, 22, 23, 24, 25, 26, 27, 28, 29, 30, 31, 32, 33] (by decide +kernel) (by decide +kernel)
set_option maxRecDepth 20000 in
theorem gX5_plus_X5_figureOf : GoodIn wsX5_plus (wsV RX5 55 RX5 yX5_figureOf wsX5_figureOf) := goodIn_app (goodIn_of _ (by decide +kernel)) ggX5_plus_X5_figureOf
set_option maxRecDepth 20000 in
theorem ggX5_plus_X5_take : GoodIn wsX5_plus wsX5_take := goodIn_r _ [13, 9, 2, 14, 15, 16, 7, 17, 1, 18, 19, 20, 21, 22, 23, 24, 25, 26, 27, 28, 29, 30, 31, 32, 33] (by decide +kernel) (by decide +kernel)
set_option maxRecDepth 20000 in
theorem gX5_plus_X5_take : GoodIn wsX5_plus (wsV RX5 59 RX5 yX5_take wsX5_take) := goodIn_app (goodIn_of _ (by decide +kernel)) ggX5_plus_X5_take
theorem dX5_plus_0 : decode cX5_plus 0 = .ok (.aload_n 0, 1) := by decide +kernel
theorem dX5_plus_1 : decode cX5_plus 1 = .ok (.getfield 27, 3) := by decide +kernel
theorem dX5_plus_4 : decode cX5_plus 4 = .ok (.iload_n 2, 1) := by decide +kernel
theorem dX5_plus_5 : decode cX5_plus 5 = .ok (.iaload, 1) := by decide +kernel
theorem dX5_plus_6 : decode cX5_plus 6 = .ok (.aload_n 0, 1) := by decide +kernel
theorem dX5_plus_7 : decode cX5_plus 7 = .ok (.getfield 27, 3) := by decide +kernel
theorem dX5_plus_10 : decode cX5_plus 10 = .ok (.iload_n 3, 1) := by decide +kernel
theorem dX5_plus_11 : decode cX5_plus 11 = .ok (.iaload, 1) := by decide +kernel
theorem dX5_plus_12 : decode cX5_plus 12 = .ok (.if_icmp .le 12, 3) := by decide +kernel
theorem dX5_plus_15 : decode cX5_plus 15 = .ok (.aload_n 0, 1) := by decide +kernel
theorem dX5_plus_16 : decode cX5_plus 16 = .ok (.getfield 27, 3) := by decide +kernel
theorem dX5_plus_19 : decode cX5_plus 19 = .ok (.iload_n 2, 1) := by decide +kernel
theorem dX5_plus_20 : decode cX5_plus 20 = .ok (.iaload, 1) := by decide +kernel
theorem dX5_plus_21 : decode cX5_plus 21 = .ok (.goto 9, 3) := by decide +kernel
theorem dX5_plus_24 : decode cX5_plus 24 = .ok (.aload_n 0, 1) := by decide +kernel
theorem dX5_plus_25 : decode cX5_plus 25 = .ok (.getfield 27, 3) := by decide +kernel
theorem dX5_plus_28 : decode cX5_plus 28 = .ok (.iload_n 3, 1) := by decide +kernel
theorem dX5_plus_29 : decode cX5_plus 29 = .ok (.iaload, 1) := by decide +kernel
theorem dX5_plus_30 : decode cX5_plus 30 = .ok (.iconst 1, 1) := by decide +kernel
theorem dX5_plus_31 : decode cX5_plus 31 = .ok (.iadd, 1) := by decide +kernel
theorem dX5_plus_32 : decode cX5_plus 32 = .ok (.istore 4, 2) := by decide +kernel
theorem dX5_plus_34 : decode cX5_plus 34 = .ok (.lconst 0, 1) := by decide +kernel
theorem dX5_plus_35 : decode cX5_plus 35 = .ok (.lstore 5, 2) := by decide +kernel
theorem dX5_plus_37 : decode cX5_plus 37 = .ok (.iconst 0, 1) := by decide +kernel
theorem dX5_plus_38 : decode cX5_plus 38 = .ok (.istore 7, 2) := by decide +kernel
theorem dX5_plus_40 : decode cX5_plus 40 = .ok (.iload 7, 2) := by decide +kernel
theorem dX5_plus_42 : decode cX5_plus 42 = .ok (.iload 4, 2) := by decide +kernel
theorem dX5_plus_44 : decode cX5_plus 44 = .ok (.if_icmp .ge 49, 3) := by decide +kernel
theorem dX5_plus_47 : decode cX5_plus 47 = .ok (.aload_n 0, 1) := by decide +kernel
theorem dX5_plus_48 : decode cX5_plus 48 = .ok (.iload_n 2, 1) := by decide +kernel
theorem dX5_plus_49 : decode cX5_plus 49 = .ok (.iload 7, 2) := by decide +kernel
theorem dX5_plus_51 : decode cX5_plus 51 = .ok (.invokevirtual 55, 3) := by decide +kernel
theorem dX5_plus_54 : decode cX5_plus 54 = .ok (.aload_n 0, 1) := by decide +kernel
theorem dX5_plus_55 : decode cX5_plus 55 = .ok (.iload_n 3, 1) := by decide +kernel
theorem dX5_plus_56 : decode cX5_plus 56 = .ok (.iload 7, 2) := by decide +kernel
theorem dX5_plus_58 : decode cX5_plus 58 = .ok (.invokevirtual 55, 3) := by decide +kernel
theorem dX5_plus_61 : decode cX5_plus 61 = .ok (.ladd, 1) := by decide +kernel
theorem dX5_plus_62 : decode cX5_plus 62 = .ok (.lload 5, 2) := by decide +kernel
theorem dX5_plus_64 : decode cX5_plus 64 = .ok (.ladd, 1) := by decide +kernel
theorem dX5_plus_65 : decode cX5_plus 65 = .ok (.lstore 8, 2) := by decide +kernel
theorem dX5_plus_67 : decode cX5_plus 67 = .ok (.aload_n 0, 1) := by decide +kernel
theorem dX5_plus_68 : decode cX5_plus 68 = .ok (.getfield 30, 3) := by decide +kernel
theorem dX5_plus_71 : decode cX5_plus 71 = .ok (.iload 7, 2) := by decide +kernel
theorem dX5_plus_73 : decode cX5_plus 73 = .ok (.lload 8, 2) := by decide +kernel
theorem dX5_plus_75 : decode cX5_plus 75 = .ok (.ldc2_w 49, 3) := by decide +kernel
theorem dX5_plus_78 : decode cX5_plus 78 = .ok (.land, 1) := by decide +kernel
theorem dX5_plus_79 : decode cX5_plus 79 = .ok (.lastore, 1) := by decide +kernel
theorem dX5_plus_80 : decode cX5_plus 80 = .ok (.lload 8, 2) := by decide +kernel
theorem dX5_plus_82 : decode cX5_plus 82 = .ok (.bipush 31, 2) := by decide +kernel
theorem dX5_plus_84 : decode cX5_plus 84 = .ok (.lshr, 1) := by decide +kernel
theorem dX5_plus_85 : decode cX5_plus 85 = .ok (.lstore 5, 2) := by decide +kernel
theorem dX5_plus_87 : decode cX5_plus 87 = .ok (.iinc 7 1, 3) := by decide +kernel
theorem dX5_plus_90 : decode cX5_plus 90 = .ok (.goto (-50), 3) := by decide +kernel
theorem dX5_plus_93 : decode cX5_plus 93 = .ok (.aload_n 0, 1) := by decide +kernel
theorem dX5_plus_94 : decode cX5_plus 94 = .ok (.iload_n 1, 1) := by decide +kernel
theorem dX5_plus_95 : decode cX5_plus 95 = .ok (.iload 4, 2) := by decide +kernel
theorem dX5_plus_97 : decode cX5_plus 97 = .ok (.invokevirtual 59, 3) := by decide +kernel
theorem dX5_plus_100 : decode cX5_plus 100 = .ok (.return_, 1) := by decide +kernel
set_option maxRecDepth 20000 in
theorem ggX5_minus_X5_figureOf : GoodIn wsX5_minus wsX5_figureOf := goodIn_r _ [8, 1, 9, 18, 19, 20, 21, 22, 23, 24, 25, 26, 27, 28, 29, 30, 31, 32, 33] (by decide +kernel) (by decide +kernel)
set_option maxRecDepth 20000 in
theorem gX5_minus_X5_figureOf : GoodIn wsX5_minus (wsV RX5 55 RX5 yX5_figureOf wsX5_figureOf) := goodIn_app (goodIn_of _ (by decide +kernel)) ggX5_minus_X5_figureOf
set_option maxRecDepth 20000 in
theorem ggX5_minus_X5_take : GoodIn wsX5_minus wsX5_take := goodIn_r _ [13, 9, 2, 14, 15, 16, 7, 17, 1, 18, 19, 20, 21, 22, 23, 24, 25, 26, 27, 28, 29, 30, 31, 32, 33] (by decide +kernel) (by decide +kernel)
set_option maxRecDepth 20000 in
theorem gX5_minus_X5_take : GoodIn wsX5_minus (wsV RX5 59 RX5 yX5_take wsX5_take) := goodIn_app (goodIn_of _ (by decide +kernel)) ggX5_minus_X5_take
theorem dX5_minus_0 : decode cX5_minus 0 = .ok (.aload_n 0, 1) := by decide +kernel
theorem dX5_minus_1 : decode cX5_minus 1 = .ok (.getfield 27, 3) := by decide +kernel
theorem dX5_minus_4 : decode cX5_minus 4 = .ok (.iload_n 2, 1) := by decide +kernel
theorem dX5_minus_5 : decode cX5_minus 5 = .ok (.iaload, 1) := by decide +kernel
theorem dX5_minus_6 : decode cX5_minus 6 = .ok (.istore 4, 2) := by decide +kernel
theorem dX5_minus_8 : decode cX5_minus 8 = .ok (.lconst 0, 1) := by decide +kernel
theorem dX5_minus_9 : decode cX5_minus 9 = .ok (.lstore 5, 2) := by decide +kernel
theorem dX5_minus_11 : decode cX5_minus 11 = .ok (.iconst 0, 1) := by decide +kernel
theorem dX5_minus_12 : decode cX5_minus 12 = .ok (.istore 7, 2) := by decide +kernel
theorem dX5_minus_14 : decode cX5_minus 14 = .ok (.iload 7, 2) := by decide +kernel
theorem dX5_minus_16 : decode cX5_minus 16 = .ok (.iload 4, 2) := by decide +kernel
theorem dX5_minus_18 : decode cX5_minus 18 = .ok (.if_icmp .ge 56, 3) := by decide +kernel
theorem dX5_minus_21 : decode cX5_minus 21 = .ok (.aload_n 0, 1) := by decide +kernel
theorem dX5_minus_22 : decode cX5_minus 22 = .ok (.iload_n 2, 1) := by decide +kernel
theorem dX5_minus_23 : decode cX5_minus 23 = .ok (.iload 7, 2) := by decide +kernel
theorem dX5_minus_25 : decode cX5_minus 25 = .ok (.invokevirtual 55, 3) := by decide +kernel
theorem dX5_minus_28 : decode cX5_minus 28 = .ok (.aload_n 0, 1) := by decide +kernel
theorem dX5_minus_29 : decode cX5_minus 29 = .ok (.iload_n 3, 1) := by decide +kernel
theorem dX5_minus_30 : decode cX5_minus 30 = .ok (.iload 7, 2) := by decide +kernel
theorem dX5_minus_32 : decode cX5_minus 32 = .ok (.invokevirtual 55, 3) := by decide +kernel
theorem dX5_minus_35 : decode cX5_minus 35 = .ok (.lsub, 1) := by decide +kernel
theorem dX5_minus_36 : decode cX5_minus 36 = .ok (.lload 5, 2) := by decide +kernel
theorem dX5_minus_38 : decode cX5_minus 38 = .ok (.lsub, 1) := by decide +kernel
theorem dX5_minus_39 : decode cX5_minus 39 = .ok (.lstore 8, 2) := by decide +kernel
theorem dX5_minus_41 : decode cX5_minus 41 = .ok (.aload_n 0, 1) := by decide +kernel
theorem dX5_minus_42 : decode cX5_minus 42 = .ok (.getfield 30, 3) := by decide +kernel
theorem dX5_minus_45 : decode cX5_minus 45 = .ok (.iload 7, 2) := by decide +kernel
theorem dX5_minus_47 : decode cX5_minus 47 = .ok (.lload 8, 2) := by decide +kernel
theorem dX5_minus_49 : decode cX5_minus 49 = .ok (.ldc2_w 49, 3) := by decide +kernel
theorem dX5_minus_52 : decode cX5_minus 52 = .ok (.land, 1) := by decide +kernel
theorem dX5_minus_53 : decode cX5_minus 53 = .ok (.lastore, 1) := by decide +kernel
theorem dX5_minus_54 : decode cX5_minus 54 = .ok (.lload 8, 2) := by decide +kernel
theorem dX5_minus_56 : decode cX5_minus 56 = .ok (.lconst 0, 1) := by decide +kernel
theorem dX5_minus_57 : decode cX5_minus 57 = .ok (.lcmp, 1) := by decide +kernel
theorem dX5_minus_58 : decode cX5_minus 58 = .ok (.ifCond .ge 7, 3) := by decide +kernel
theorem dX5_minus_61 : decode cX5_minus 61 = .ok (.lconst 1, 1) := by decide +kernel
theorem dX5_minus_62 : decode cX5_minus 62 = .ok (.goto 4, 3) := by decide +kernel
theorem dX5_minus_65 : decode cX5_minus 65 = .ok (.lconst 0, 1) := by decide +kernel
theorem dX5_minus_66 : decode cX5_minus 66 = .ok (.lstore 5, 2) := by decide +kernel
theorem dX5_minus_68 : decode cX5_minus 68 = .ok (.iinc 7 1, 3) := by decide +kernel
theorem dX5_minus_71 : decode cX5_minus 71 = .ok (.goto (-57), 3) := by decide +kernel
theorem dX5_minus_74 : decode cX5_minus 74 = .ok (.aload_n 0, 1) := by decide +kernel
theorem dX5_minus_75 : decode cX5_minus 75 = .ok (.iload_n 1, 1) := by decide +kernel
theorem dX5_minus_76 : decode cX5_minus 76 = .ok (.iload 4, 2) := by decide +kernel
theorem dX5_minus_78 : decode cX5_minus 78 = .ok (.invokevirtual 59, 3) := by decide +kernel
theorem dX5_minus_81 : decode cX5_minus 81 = .ok (.return_, 1) := by decide +kernel
set_option maxRecDepth 20000 in
theorem ggX5_times_X5_take : GoodIn wsX5_times wsX5_take := goodIn_r _ [9, 3, 2, 10, 11, 12, 8, 13, 1, 14, 15, 16, 17, 18, 19, 20, 21, 22, 23, 24, 25, 26, 27, 28, 29] (by decide +kernel) (by decide +kernel)
set_option maxRecDepth 20000 in
theorem gX5_times_X5_take : GoodIn wsX5_times (wsV RX5 59 RX5 yX5_take wsX5_take) := goodIn_app (goodIn_of _ (by decide +kernel)) ggX5_times_X5_take
theorem dX5_times_0 : decode cX5_times 0 = .ok (.aload_n 0, 1) := by decide +kernel
theorem dX5_times_1 : decode cX5_times 1 = .ok (.getfield 27, 3) := by decide +kernel
theorem dX5_times_4 : decode cX5_times 4 = .ok (.iload_n 2, 1) := by decide +kernel
theorem dX5_times_5 : decode cX5_times 5 = .ok (.iaload, 1) := by decide +kernel
theorem dX5_times_6 : decode cX5_times 6 = .ok (.aload_n 0, 1) := by decide +kernel
theorem dX5_times_7 : decode cX5_times 7 = .ok (.getfield 27, 3) := by decide +kernel
theorem dX5_times_10 : decode cX5_times 10 = .ok (.iload_n 3, 1) := by decide +kernel
theorem dX5_times_11 : decode cX5_times 11 = .ok (.iaload, 1) := by decide +kernel
theorem dX5_times_12 : decode cX5_times 12 = .ok (.iadd, 1) := by decide +kernel
theorem dX5_times_13 : decode cX5_times 13 = .ok (.istore 4, 2) := by decide +kernel
theorem dX5_times_15 : decode cX5_times 15 = .ok (.iconst 0, 1) := by decide +kernel
theorem dX5_times_16 : decode cX5_times 16 = .ok (.istore 5, 2) := by decide +kernel
theorem dX5_times_18 : decode cX5_times 18 = .ok (.iload 5, 2) := by decide +kernel
theorem dX5_times_20 : decode cX5_times 20 = .ok (.iload 4, 2) := by decide +kernel
theorem dX5_times_22 : decode cX5_times 22 = .ok (.if_icmp .ge 17, 3) := by decide +kernel
theorem dX5_times_25 : decode cX5_times 25 = .ok (.aload_n 0, 1) := by decide +kernel
theorem dX5_times_26 : decode cX5_times 26 = .ok (.getfield 30, 3) := by decide +kernel
theorem dX5_times_29 : decode cX5_times 29 = .ok (.iload 5, 2) := by decide +kernel
theorem dX5_times_31 : decode cX5_times 31 = .ok (.lconst 0, 1) := by decide +kernel
theorem dX5_times_32 : decode cX5_times 32 = .ok (.lastore, 1) := by decide +kernel
theorem dX5_times_33 : decode cX5_times 33 = .ok (.iinc 5 1, 3) := by decide +kernel
theorem dX5_times_36 : decode cX5_times 36 = .ok (.goto (-18), 3) := by decide +kernel
theorem dX5_times_39 : decode cX5_times 39 = .ok (.iconst 0, 1) := by decide +kernel
theorem dX5_times_40 : decode cX5_times 40 = .ok (.istore 5, 2) := by decide +kernel
theorem dX5_times_42 : decode cX5_times 42 = .ok (.iload 5, 2) := by decide +kernel
theorem dX5_times_44 : decode cX5_times 44 = .ok (.aload_n 0, 1) := by decide +kernel
theorem dX5_times_45 : decode cX5_times 45 = .ok (.getfield 27, 3) := by decide +kernel
theorem dX5_times_48 : decode cX5_times 48 = .ok (.iload_n 2, 1) := by decide +kernel
theorem dX5_times_49 : decode cX5_times 49 = .ok (.iaload, 1) := by decide +kernel
theorem dX5_times_50 : decode cX5_times 50 = .ok (.if_icmp .ge 114, 3) := by decide +kernel
theorem dX5_times_53 : decode cX5_times 53 = .ok (.lconst 0, 1) := by decide +kernel
theorem dX5_times_54 : decode cX5_times 54 = .ok (.lstore 6, 2) := by decide +kernel
theorem dX5_times_56 : decode cX5_times 56 = .ok (.iconst 0, 1) := by decide +kernel
theorem dX5_times_57 : decode cX5_times 57 = .ok (.istore 8, 2) := by decide +kernel
theorem dX5_times_59 : decode cX5_times 59 = .ok (.iload 8, 2) := by decide +kernel
theorem dX5_times_61 : decode cX5_times 61 = .ok (.aload_n 0, 1) := by decide +kernel
theorem dX5_times_62 : decode cX5_times 62 = .ok (.getfield 27, 3) := by decide +kernel
theorem dX5_times_65 : decode cX5_times 65 = .ok (.iload_n 3, 1) := by decide +kernel
theorem dX5_times_66 : decode cX5_times 66 = .ok (.iaload, 1) := by decide +kernel
theorem dX5_times_67 : decode cX5_times 67 = .ok (.if_icmp .ge 75, 3) := by decide +kernel
theorem dX5_times_70 : decode cX5_times 70 = .ok (.aload_n 0, 1) := by decide +kernel
theorem dX5_times_71 : decode cX5_times 71 = .ok (.getfield 23, 3) := by decide +kernel
theorem dX5_times_74 : decode cX5_times 74 = .ok (.sipush 256, 3) := by decide +kernel
theorem dX5_times_77 : decode cX5_times 77 = .ok (.iload_n 2, 1) := by decide +kernel
theorem dX5_times_78 : decode cX5_times 78 = .ok (.imul, 1) := by decide +kernel
theorem dX5_times_79 : decode cX5_times 79 = .ok (.iload 5, 2) := by decide +kernel
theorem dX5_times_81 : decode cX5_times 81 = .ok (.iadd, 1) := by decide +kernel
theorem dX5_times_82 : decode cX5_times 82 = .ok (.laload, 1) := by decide +kernel
theorem dX5_times_83 : decode cX5_times 83 = .ok (.aload_n 0, 1) := by decide +kernel
theorem dX5_times_84 : decode cX5_times 84 = .ok (.getfield 23, 3) := by decide +kernel
theorem dX5_times_87 : decode cX5_times 87 = .ok (.sipush 256, 3) := by decide +kernel
theorem dX5_times_90 : decode cX5_times 90 = .ok (.iload_n 3, 1) := by decide +kernel
theorem dX5_times_91 : decode cX5_times 91 = .ok (.imul, 1) := by decide +kernel
theorem dX5_times_92 : decode cX5_times 92 = .ok (.iload 8, 2) := by decide +kernel
theorem dX5_times_94 : decode cX5_times 94 = .ok (.iadd, 1) := by decide +kernel
theorem dX5_times_95 : decode cX5_times 95 = .ok (.laload, 1) := by decide +kernel
theorem dX5_times_96 : decode cX5_times 96 = .ok (.lmul, 1) := by decide +kernel
theorem dX5_times_97 : decode cX5_times 97 = .ok (.aload_n 0, 1) := by decide +kernel
theorem dX5_times_98 : decode cX5_times 98 = .ok (.getfield 30, 3) := by decide +kernel
theorem dX5_times_101 : decode cX5_times 101 = .ok (.iload 5, 2) := by decide +kernel
theorem dX5_times_103 : decode cX5_times 103 = .ok (.iload 8, 2) := by decide +kernel
theorem dX5_times_105 : decode cX5_times 105 = .ok (.iadd, 1) := by decide +kernel
theorem dX5_times_106 : decode cX5_times 106 = .ok (.laload, 1) := by decide +kernel
theorem dX5_times_107 : decode cX5_times 107 = .ok (.ladd, 1) := by decide +kernel
theorem dX5_times_108 : decode cX5_times 108 = .ok (.lload 6, 2) := by decide +kernel
theorem dX5_times_110 : decode cX5_times 110 = .ok (.ladd, 1) := by decide +kernel
theorem dX5_times_111 : decode cX5_times 111 = .ok (.lstore 9, 2) := by decide +kernel
theorem dX5_times_113 : decode cX5_times 113 = .ok (.aload_n 0, 1) := by decide +kernel
theorem dX5_times_114 : decode cX5_times 114 = .ok (.getfield 30, 3) := by decide +kernel
theorem dX5_times_117 : decode cX5_times 117 = .ok (.iload 5, 2) := by decide +kernel
theorem dX5_times_119 : decode cX5_times 119 = .ok (.iload 8, 2) := by decide +kernel
theorem dX5_times_121 : decode cX5_times 121 = .ok (.iadd, 1) := by decide +kernel
theorem dX5_times_122 : decode cX5_times 122 = .ok (.lload 9, 2) := by decide +kernel
theorem dX5_times_124 : decode cX5_times 124 = .ok (.ldc2_w 49, 3) := by decide +kernel
theorem dX5_times_127 : decode cX5_times 127 = .ok (.land, 1) := by decide +kernel
theorem dX5_times_128 : decode cX5_times 128 = .ok (.lastore, 1) := by decide +kernel
theorem dX5_times_129 : decode cX5_times 129 = .ok (.lload 9, 2) := by decide +kernel
theorem dX5_times_131 : decode cX5_times 131 = .ok (.bipush 31, 2) := by decide +kernel
theorem dX5_times_133 : decode cX5_times 133 = .ok (.lshr, 1) := by decide +kernel
theorem dX5_times_134 : decode cX5_times 134 = .ok (.lstore 6, 2) := by decide +kernel
theorem dX5_times_136 : decode cX5_times 136 = .ok (.iinc 8 1, 3) := by decide +kernel
theorem dX5_times_139 : decode cX5_times 139 = .ok (.goto (-80), 3) := by decide +kernel
theorem dX5_times_142 : decode cX5_times 142 = .ok (.aload_n 0, 1) := by decide +kernel
theorem dX5_times_143 : decode cX5_times 143 = .ok (.getfield 30, 3) := by decide +kernel
theorem dX5_times_146 : decode cX5_times 146 = .ok (.iload 5, 2) := by decide +kernel
theorem dX5_times_148 : decode cX5_times 148 = .ok (.aload_n 0, 1) := by decide +kernel
theorem dX5_times_149 : decode cX5_times 149 = .ok (.getfield 27, 3) := by decide +kernel
theorem dX5_times_152 : decode cX5_times 152 = .ok (.iload_n 3, 1) := by decide +kernel
theorem dX5_times_153 : decode cX5_times 153 = .ok (.iaload, 1) := by decide +kernel
theorem dX5_times_154 : decode cX5_times 154 = .ok (.iadd, 1) := by decide +kernel
theorem dX5_times_155 : decode cX5_times 155 = .ok (.lload 6, 2) := by decide +kernel
theorem dX5_times_157 : decode cX5_times 157 = .ok (.lastore, 1) := by decide +kernel
theorem dX5_times_158 : decode cX5_times 158 = .ok (.iinc 5 1, 3) := by decide +kernel
theorem dX5_times_161 : decode cX5_times 161 = .ok (.goto (-119), 3) := by decide +kernel
theorem dX5_times_164 : decode cX5_times 164 = .ok (.aload_n 0, 1) := by decide +kernel
theorem dX5_times_165 : decode cX5_times 165 = .ok (.iload_n 1, 1) := by decide +kernel
theorem dX5_times_166 : decode cX5_times 166 = .ok (.iload 4, 2) := by decide +kernel
theorem dX5_times_168 : decode cX5_times 168 = .ok (.invokevirtual 59, 3) := by decide +kernel
theorem dX5_times_171 : decode cX5_times 171 = .ok (.return_, 1) := by decide +kernel
set_option maxRecDepth 20000 in
theorem ggX5_divide_X5_figureOf : GoodIn wsX5_divide wsX5_figureOf := goodIn_r _ [10, 1, 4, 19, 20, 21, 22, 23, 24, 25, 26, 27, 28, 29, 30, 31, 32, 33, 34] (by decide +kernel) (by decide +kernel)
set_option maxRecDepth 20000 in
theorem gX5_divide_X5_figureOf : GoodIn wsX5_divide (wsV RX5 55 RX5 yX5_figureOf wsX5_figureOf) := goodIn_app (goodIn_of _ (by decide +kernel)) ggX5_divide_X5_figureOf
set_option maxRecDepth 20000 in
theorem ggX5_divide_X5_trim : GoodIn wsX5_divide wsX5_trim := goodIn_r _ [14, 4, 1, 19, 20, 21, 22, 23, 24, 25, 26, 27, 28, 29, 30, 31, 32, 33, 34] (by decide +kernel) (by decide +kernel)
set_option maxRecDepth 20000 in
theorem gX5_divide_X5_trim : GoodIn wsX5_divide (wsV RX5 51 RX5 yX5_trim wsX5_trim) := goodIn_app (goodIn_of _ (by decide +kernel)) ggX5_divide_X5_trim
set_option maxRecDepth 20000 in
theorem ggX5_divide_X5_take : GoodIn wsX5_divide wsX5_take := goodIn_r _ [18, 4, 2, 11, 12, 13, 9, 14, 1, 19, 20, 21, 22, 23, 24, 25, 26, 27, 28, 29, 30, 31, 32, 33, 34] (by decide +kernel) (by decide +kernel)
set_option maxRecDepth 20000 in
theorem gX5_divide_X5_take : GoodIn wsX5_divide (wsV RX5 59 RX5 yX5_take wsX5_take) := goodIn_app (goodIn_of _ (by decide +kernel)) ggX5_divide_X5_take
theorem dX5_divide_0 : decode cX5_divide 0 = .ok (.bipush 31, 2) := by decide +kernel
theorem dX5_divide_2 : decode cX5_divide 2 = .ok (.aload_n 0, 1) := by decide +kernel
theorem dX5_divide_3 : decode cX5_divide 3 = .ok (.getfield 27, 3) := by decide +kernel
theorem dX5_divide_6 : decode cX5_divide 6 = .ok (.iload_n 3, 1) := by decide +kernel
theorem dX5_divide_7 : decode cX5_divide 7 = .ok (.iaload, 1) := by decide +kernel
theorem dX5_divide_8 : decode cX5_divide 8 = .ok (.imul, 1) := by decide +kernel
theorem dX5_divide_9 : decode cX5_divide 9 = .ok (.istore 5, 2) := by decide +kernel
theorem dX5_divide_11 : decode cX5_divide 11 = .ok (.aload_n 0, 1) := by decide +kernel
theorem dX5_divide_12 : decode cX5_divide 12 = .ok (.getfield 27, 3) := by decide +kernel
theorem dX5_divide_15 : decode cX5_divide 15 = .ok (.iload 4, 2) := by decide +kernel
theorem dX5_divide_17 : decode cX5_divide 17 = .ok (.iaload, 1) := by decide +kernel
theorem dX5_divide_18 : decode cX5_divide 18 = .ok (.iconst 1, 1) := by decide +kernel
theorem dX5_divide_19 : decode cX5_divide 19 = .ok (.iadd, 1) := by decide +kernel
theorem dX5_divide_20 : decode cX5_divide 20 = .ok (.istore 6, 2) := by decide +kernel
theorem dX5_divide_22 : decode cX5_divide 22 = .ok (.iconst 0, 1) := by decide +kernel
theorem dX5_divide_23 : decode cX5_divide 23 = .ok (.istore 7, 2) := by decide +kernel
theorem dX5_divide_25 : decode cX5_divide 25 = .ok (.iload 7, 2) := by decide +kernel
theorem dX5_divide_27 : decode cX5_divide 27 = .ok (.iload 6, 2) := by decide +kernel
theorem dX5_divide_29 : decode cX5_divide 29 = .ok (.if_icmp .ge 32, 3) := by decide +kernel
theorem dX5_divide_32 : decode cX5_divide 32 = .ok (.aload_n 0, 1) := by decide +kernel
theorem dX5_divide_33 : decode cX5_divide 33 = .ok (.getfield 30, 3) := by decide +kernel
theorem dX5_divide_36 : decode cX5_divide 36 = .ok (.iload 7, 2) := by decide +kernel
theorem dX5_divide_38 : decode cX5_divide 38 = .ok (.lconst 0, 1) := by decide +kernel
theorem dX5_divide_39 : decode cX5_divide 39 = .ok (.lastore, 1) := by decide +kernel
theorem dX5_divide_40 : decode cX5_divide 40 = .ok (.aload_n 0, 1) := by decide +kernel
theorem dX5_divide_41 : decode cX5_divide 41 = .ok (.getfield 33, 3) := by decide +kernel
theorem dX5_divide_44 : decode cX5_divide 44 = .ok (.iload 7, 2) := by decide +kernel
theorem dX5_divide_46 : decode cX5_divide 46 = .ok (.aload_n 0, 1) := by decide +kernel
theorem dX5_divide_47 : decode cX5_divide 47 = .ok (.iload 4, 2) := by decide +kernel
theorem dX5_divide_49 : decode cX5_divide 49 = .ok (.iload 7, 2) := by decide +kernel
theorem dX5_divide_51 : decode cX5_divide 51 = .ok (.invokevirtual 55, 3) := by decide +kernel
theorem dX5_divide_54 : decode cX5_divide 54 = .ok (.lastore, 1) := by decide +kernel
theorem dX5_divide_55 : decode cX5_divide 55 = .ok (.iinc 7 1, 3) := by decide +kernel
theorem dX5_divide_58 : decode cX5_divide 58 = .ok (.goto (-33), 3) := by decide +kernel
theorem dX5_divide_61 : decode cX5_divide 61 = .ok (.aload_n 0, 1) := by decide +kernel
theorem dX5_divide_62 : decode cX5_divide 62 = .ok (.getfield 27, 3) := by decide +kernel
theorem dX5_divide_65 : decode cX5_divide 65 = .ok (.iload_n 3, 1) := by decide +kernel
theorem dX5_divide_66 : decode cX5_divide 66 = .ok (.iaload, 1) := by decide +kernel
theorem dX5_divide_67 : decode cX5_divide 67 = .ok (.istore 7, 2) := by decide +kernel
theorem dX5_divide_69 : decode cX5_divide 69 = .ok (.iconst 0, 1) := by decide +kernel
theorem dX5_divide_70 : decode cX5_divide 70 = .ok (.istore 8, 2) := by decide +kernel
theorem dX5_divide_72 : decode cX5_divide 72 = .ok (.iload 8, 2) := by decide +kernel
theorem dX5_divide_74 : decode cX5_divide 74 = .ok (.iload 7, 2) := by decide +kernel
theorem dX5_divide_76 : decode cX5_divide 76 = .ok (.if_icmp .ge 23, 3) := by decide +kernel
theorem dX5_divide_79 : decode cX5_divide 79 = .ok (.aload_n 0, 1) := by decide +kernel
theorem dX5_divide_80 : decode cX5_divide 80 = .ok (.getfield 23, 3) := by decide +kernel
theorem dX5_divide_83 : decode cX5_divide 83 = .ok (.sipush 256, 3) := by decide +kernel
theorem dX5_divide_86 : decode cX5_divide 86 = .ok (.iload_n 1, 1) := by decide +kernel
theorem dX5_divide_87 : decode cX5_divide 87 = .ok (.imul, 1) := by decide +kernel
theorem dX5_divide_88 : decode cX5_divide 88 = .ok (.iload 8, 2) := by decide +kernel
theorem dX5_divide_90 : decode cX5_divide 90 = .ok (.iadd, 1) := by decide +kernel
theorem dX5_divide_91 : decode cX5_divide 91 = .ok (.lconst 0, 1) := by decide +kernel
theorem dX5_divide_92 : decode cX5_divide 92 = .ok (.lastore, 1) := by decide +kernel
theorem dX5_divide_93 : decode cX5_divide 93 = .ok (.iinc 8 1, 3) := by decide +kernel
theorem dX5_divide_96 : decode cX5_divide 96 = .ok (.goto (-24), 3) := by decide +kernel
theorem dX5_divide_99 : decode cX5_divide 99 = .ok (.iload 5, 2) := by decide +kernel
theorem dX5_divide_101 : decode cX5_divide 101 = .ok (.iconst 1, 1) := by decide +kernel
theorem dX5_divide_102 : decode cX5_divide 102 = .ok (.isub, 1) := by decide +kernel
theorem dX5_divide_103 : decode cX5_divide 103 = .ok (.istore 8, 2) := by decide +kernel
theorem dX5_divide_105 : decode cX5_divide 105 = .ok (.iload 8, 2) := by decide +kernel
theorem dX5_divide_107 : decode cX5_divide 107 = .ok (.ifCond .lt 230, 3) := by decide +kernel
theorem dX5_divide_110 : decode cX5_divide 110 = .ok (.aload_n 0, 1) := by decide +kernel
theorem dX5_divide_111 : decode cX5_divide 111 = .ok (.getfield 23, 3) := by decide +kernel
theorem dX5_divide_114 : decode cX5_divide 114 = .ok (.sipush 256, 3) := by decide +kernel
theorem dX5_divide_117 : decode cX5_divide 117 = .ok (.iload_n 3, 1) := by decide +kernel
theorem dX5_divide_118 : decode cX5_divide 118 = .ok (.imul, 1) := by decide +kernel
theorem dX5_divide_119 : decode cX5_divide 119 = .ok (.iload 8, 2) := by decide +kernel
theorem dX5_divide_121 : decode cX5_divide 121 = .ok (.bipush 31, 2) := by decide +kernel
theorem dX5_divide_123 : decode cX5_divide 123 = .ok (.idiv, 1) := by decide +kernel
theorem dX5_divide_124 : decode cX5_divide 124 = .ok (.iadd, 1) := by decide +kernel
theorem dX5_divide_125 : decode cX5_divide 125 = .ok (.laload, 1) := by decide +kernel
theorem dX5_divide_126 : decode cX5_divide 126 = .ok (.iload 8, 2) := by decide +kernel
theorem dX5_divide_128 : decode cX5_divide 128 = .ok (.bipush 31, 2) := by decide +kernel
theorem dX5_divide_130 : decode cX5_divide 130 = .ok (.irem, 1) := by decide +kernel
theorem dX5_divide_131 : decode cX5_divide 131 = .ok (.lshr, 1) := by decide +kernel
theorem dX5_divide_132 : decode cX5_divide 132 = .ok (.lconst 1, 1) := by decide +kernel
theorem dX5_divide_133 : decode cX5_divide 133 = .ok (.land, 1) := by decide +kernel
theorem dX5_divide_134 : decode cX5_divide 134 = .ok (.lstore 9, 2) := by decide +kernel
theorem dX5_divide_136 : decode cX5_divide 136 = .ok (.iconst 0, 1) := by decide +kernel
theorem dX5_divide_137 : decode cX5_divide 137 = .ok (.istore 11, 2) := by decide +kernel
theorem dX5_divide_139 : decode cX5_divide 139 = .ok (.iload 11, 2) := by decide +kernel
theorem dX5_divide_141 : decode cX5_divide 141 = .ok (.iload 6, 2) := by decide +kernel
theorem dX5_divide_143 : decode cX5_divide 143 = .ok (.if_icmp .ge 43, 3) := by decide +kernel
theorem dX5_divide_146 : decode cX5_divide 146 = .ok (.aload_n 0, 1) := by decide +kernel
theorem dX5_divide_147 : decode cX5_divide 147 = .ok (.getfield 30, 3) := by decide +kernel
theorem dX5_divide_150 : decode cX5_divide 150 = .ok (.iload 11, 2) := by decide +kernel
theorem dX5_divide_152 : decode cX5_divide 152 = .ok (.laload, 1) := by decide +kernel
theorem dX5_divide_153 : decode cX5_divide 153 = .ok (.iconst 1, 1) := by decide +kernel
theorem dX5_divide_154 : decode cX5_divide 154 = .ok (.lshl, 1) := by decide +kernel
theorem dX5_divide_155 : decode cX5_divide 155 = .ok (.lload 9, 2) := by decide +kernel
theorem dX5_divide_157 : decode cX5_divide 157 = .ok (.lor, 1) := by decide +kernel
theorem dX5_divide_158 : decode cX5_divide 158 = .ok (.lstore 12, 2) := by decide +kernel
theorem dX5_divide_160 : decode cX5_divide 160 = .ok (.aload_n 0, 1) := by decide +kernel
theorem dX5_divide_161 : decode cX5_divide 161 = .ok (.getfield 30, 3) := by decide +kernel
theorem dX5_divide_164 : decode cX5_divide 164 = .ok (.iload 11, 2) := by decide +kernel
theorem dX5_divide_166 : decode cX5_divide 166 = .ok (.lload 12, 2) := by decide +kernel
theorem dX5_divide_168 : decode cX5_divide 168 = .ok (.ldc2_w 49, 3) := by decide +kernel
theorem dX5_divide_171 : decode cX5_divide 171 = .ok (.land, 1) := by decide +kernel
theorem dX5_divide_172 : decode cX5_divide 172 = .ok (.lastore, 1) := by decide +kernel
theorem dX5_divide_173 : decode cX5_divide 173 = .ok (.lload 12, 2) := by decide +kernel
theorem dX5_divide_175 : decode cX5_divide 175 = .ok (.bipush 31, 2) := by decide +kernel
theorem dX5_divide_177 : decode cX5_divide 177 = .ok (.lshr, 1) := by decide +kernel
theorem dX5_divide_178 : decode cX5_divide 178 = .ok (.lstore 9, 2) := by decide +kernel
theorem dX5_divide_180 : decode cX5_divide 180 = .ok (.iinc 11 1, 3) := by decide +kernel
theorem dX5_divide_183 : decode cX5_divide 183 = .ok (.goto (-44), 3) := by decide +kernel
theorem dX5_divide_186 : decode cX5_divide 186 = .ok (.iload 6, 2) := by decide +kernel
theorem dX5_divide_188 : decode cX5_divide 188 = .ok (.iconst 1, 1) := by decide +kernel
theorem dX5_divide_189 : decode cX5_divide 189 = .ok (.isub, 1) := by decide +kernel
theorem dX5_divide_190 : decode cX5_divide 190 = .ok (.istore 11, 2) := by decide +kernel
theorem dX5_divide_192 : decode cX5_divide 192 = .ok (.iload 11, 2) := by decide +kernel
theorem dX5_divide_194 : decode cX5_divide 194 = .ok (.ifCond .le 27, 3) := by decide +kernel
theorem dX5_divide_197 : decode cX5_divide 197 = .ok (.aload_n 0, 1) := by decide +kernel
theorem dX5_divide_198 : decode cX5_divide 198 = .ok (.getfield 30, 3) := by decide +kernel
theorem dX5_divide_201 : decode cX5_divide 201 = .ok (.iload 11, 2) := by decide +kernel
theorem dX5_divide_203 : decode cX5_divide 203 = .ok (.laload, 1) := by decide +kernel
theorem dX5_divide_204 : decode cX5_divide 204 = .ok (.aload_n 0, 1) := by decide +kernel
theorem dX5_divide_205 : decode cX5_divide 205 = .ok (.getfield 33, 3) := by decide +kernel
theorem dX5_divide_208 : decode cX5_divide 208 = .ok (.iload 11, 2) := by decide +kernel
theorem dX5_divide_210 : decode cX5_divide 210 = .ok (.laload, 1) := by decide +kernel
theorem dX5_divide_211 : decode cX5_divide 211 = .ok (.lcmp, 1) := by decide +kernel
theorem dX5_divide_212 : decode cX5_divide 212 = .ok (.ifCond .ne 9, 3) := by decide +kernel
theorem dX5_divide_215 : decode cX5_divide 215 = .ok (.iinc 11 (-1), 3) := by decide +kernel
theorem dX5_divide_218 : decode cX5_divide 218 = .ok (.goto (-26), 3) := by decide +kernel
theorem dX5_divide_221 : decode cX5_divide 221 = .ok (.aload_n 0, 1) := by decide +kernel
theorem dX5_divide_222 : decode cX5_divide 222 = .ok (.getfield 30, 3) := by decide +kernel
theorem dX5_divide_225 : decode cX5_divide 225 = .ok (.iload 11, 2) := by decide +kernel
theorem dX5_divide_227 : decode cX5_divide 227 = .ok (.laload, 1) := by decide +kernel
theorem dX5_divide_228 : decode cX5_divide 228 = .ok (.aload_n 0, 1) := by decide +kernel
theorem dX5_divide_229 : decode cX5_divide 229 = .ok (.getfield 33, 3) := by decide +kernel
theorem dX5_divide_232 : decode cX5_divide 232 = .ok (.iload 11, 2) := by decide +kernel
theorem dX5_divide_234 : decode cX5_divide 234 = .ok (.laload, 1) := by decide +kernel
theorem dX5_divide_235 : decode cX5_divide 235 = .ok (.lcmp, 1) := by decide +kernel
theorem dX5_divide_236 : decode cX5_divide 236 = .ok (.ifCond .lt 95, 3) := by decide +kernel
theorem dX5_divide_239 : decode cX5_divide 239 = .ok (.lconst 0, 1) := by decide +kernel
theorem dX5_divide_240 : decode cX5_divide 240 = .ok (.lstore 12, 2) := by decide +kernel
theorem dX5_divide_242 : decode cX5_divide 242 = .ok (.iconst 0, 1) := by decide +kernel
theorem dX5_divide_243 : decode cX5_divide 243 = .ok (.istore 14, 2) := by decide +kernel
theorem dX5_divide_245 : decode cX5_divide 245 = .ok (.iload 14, 2) := by decide +kernel
theorem dX5_divide_247 : decode cX5_divide 247 = .ok (.iload 6, 2) := by decide +kernel
theorem dX5_divide_249 : decode cX5_divide 249 = .ok (.if_icmp .ge 56, 3) := by decide +kernel
theorem dX5_divide_252 : decode cX5_divide 252 = .ok (.aload_n 0, 1) := by decide +kernel
theorem dX5_divide_253 : decode cX5_divide 253 = .ok (.getfield 30, 3) := by decide +kernel
theorem dX5_divide_256 : decode cX5_divide 256 = .ok (.iload 14, 2) := by decide +kernel
theorem dX5_divide_258 : decode cX5_divide 258 = .ok (.laload, 1) := by decide +kernel
theorem dX5_divide_259 : decode cX5_divide 259 = .ok (.aload_n 0, 1) := by decide +kernel
theorem dX5_divide_260 : decode cX5_divide 260 = .ok (.getfield 33, 3) := by decide +kernel
theorem dX5_divide_263 : decode cX5_divide 263 = .ok (.iload 14, 2) := by decide +kernel
theorem dX5_divide_265 : decode cX5_divide 265 = .ok (.laload, 1) := by decide +kernel
theorem dX5_divide_266 : decode cX5_divide 266 = .ok (.lsub, 1) := by decide +kernel
theorem dX5_divide_267 : decode cX5_divide 267 = .ok (.lload 12, 2) := by decide +kernel
theorem dX5_divide_269 : decode cX5_divide 269 = .ok (.lsub, 1) := by decide +kernel
theorem dX5_divide_270 : decode cX5_divide 270 = .ok (.lstore 15, 2) := by decide +kernel
theorem dX5_divide_272 : decode cX5_divide 272 = .ok (.aload_n 0, 1) := by decide +kernel
theorem dX5_divide_273 : decode cX5_divide 273 = .ok (.getfield 30, 3) := by decide +kernel
theorem dX5_divide_276 : decode cX5_divide 276 = .ok (.iload 14, 2) := by decide +kernel
theorem dX5_divide_278 : decode cX5_divide 278 = .ok (.lload 15, 2) := by decide +kernel
theorem dX5_divide_280 : decode cX5_divide 280 = .ok (.ldc2_w 49, 3) := by decide +kernel
theorem dX5_divide_283 : decode cX5_divide 283 = .ok (.land, 1) := by decide +kernel
theorem dX5_divide_284 : decode cX5_divide 284 = .ok (.lastore, 1) := by decide +kernel
theorem dX5_divide_285 : decode cX5_divide 285 = .ok (.lload 15, 2) := by decide +kernel
theorem dX5_divide_287 : decode cX5_divide 287 = .ok (.lconst 0, 1) := by decide +kernel
theorem dX5_divide_288 : decode cX5_divide 288 = .ok (.lcmp, 1) := by decide +kernel
theorem dX5_divide_289 : decode cX5_divide 289 = .ok (.ifCond .ge 7, 3) := by decide +kernel
theorem dX5_divide_292 : decode cX5_divide 292 = .ok (.lconst 1, 1) := by decide +kernel
theorem dX5_divide_293 : decode cX5_divide 293 = .ok (.goto 4, 3) := by decide +kernel
theorem dX5_divide_296 : decode cX5_divide 296 = .ok (.lconst 0, 1) := by decide +kernel
theorem dX5_divide_297 : decode cX5_divide 297 = .ok (.lstore 12, 2) := by decide +kernel
theorem dX5_divide_299 : decode cX5_divide 299 = .ok (.iinc 14 1, 3) := by decide +kernel
theorem dX5_divide_302 : decode cX5_divide 302 = .ok (.goto (-57), 3) := by decide +kernel
theorem dX5_divide_305 : decode cX5_divide 305 = .ok (.aload_n 0, 1) := by decide +kernel
theorem dX5_divide_306 : decode cX5_divide 306 = .ok (.getfield 23, 3) := by decide +kernel
theorem dX5_divide_309 : decode cX5_divide 309 = .ok (.sipush 256, 3) := by decide +kernel
theorem dX5_divide_312 : decode cX5_divide 312 = .ok (.iload_n 1, 1) := by decide +kernel
theorem dX5_divide_313 : decode cX5_divide 313 = .ok (.imul, 1) := by decide +kernel
theorem dX5_divide_314 : decode cX5_divide 314 = .ok (.iload 8, 2) := by decide +kernel
theorem dX5_divide_316 : decode cX5_divide 316 = .ok (.bipush 31, 2) := by decide +kernel
theorem dX5_divide_318 : decode cX5_divide 318 = .ok (.idiv, 1) := by decide +kernel
theorem dX5_divide_319 : decode cX5_divide 319 = .ok (.iadd, 1) := by decide +kernel
theorem dX5_divide_320 : decode cX5_divide 320 = .ok (.dup2, 1) := by decide +kernel
theorem dX5_divide_321 : decode cX5_divide 321 = .ok (.laload, 1) := by decide +kernel
theorem dX5_divide_322 : decode cX5_divide 322 = .ok (.lconst 1, 1) := by decide +kernel
theorem dX5_divide_323 : decode cX5_divide 323 = .ok (.iload 8, 2) := by decide +kernel
theorem dX5_divide_325 : decode cX5_divide 325 = .ok (.bipush 31, 2) := by decide +kernel
theorem dX5_divide_327 : decode cX5_divide 327 = .ok (.irem, 1) := by decide +kernel
theorem dX5_divide_328 : decode cX5_divide 328 = .ok (.lshl, 1) := by decide +kernel
theorem dX5_divide_329 : decode cX5_divide 329 = .ok (.lor, 1) := by decide +kernel
theorem dX5_divide_330 : decode cX5_divide 330 = .ok (.lastore, 1) := by decide +kernel
theorem dX5_divide_331 : decode cX5_divide 331 = .ok (.iinc 8 (-1), 3) := by decide +kernel
theorem dX5_divide_334 : decode cX5_divide 334 = .ok (.goto (-229), 3) := by decide +kernel
theorem dX5_divide_337 : decode cX5_divide 337 = .ok (.aload_n 0, 1) := by decide +kernel
theorem dX5_divide_338 : decode cX5_divide 338 = .ok (.iload_n 1, 1) := by decide +kernel
theorem dX5_divide_339 : decode cX5_divide 339 = .ok (.iload 7, 2) := by decide +kernel
theorem dX5_divide_341 : decode cX5_divide 341 = .ok (.invokevirtual 51, 3) := by decide +kernel
theorem dX5_divide_344 : decode cX5_divide 344 = .ok (.aload_n 0, 1) := by decide +kernel
theorem dX5_divide_345 : decode cX5_divide 345 = .ok (.iload_n 2, 1) := by decide +kernel
theorem dX5_divide_346 : decode cX5_divide 346 = .ok (.iload 6, 2) := by decide +kernel
theorem dX5_divide_348 : decode cX5_divide 348 = .ok (.invokevirtual 59, 3) := by decide +kernel
theorem dX5_divide_351 : decode cX5_divide 351 = .ok (.return_, 1) := by decide +kernel
