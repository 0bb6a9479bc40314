set_option maxRecDepth 20000 in
theorem ggX5_divisor_X5_copy : GoodIn wsX5_divisor wsX5_copy := goodIn_r _ [8, 1, 2, 39, 40, 41, 42, 43, 44, 45, 46, 47, 48, 49, 50, 51, 52, 53, 54] (by decide +kernel) (by decide +kernel)
set_option maxRecDepth 20000 in
theorem gX5_divisor_X5_copy : GoodIn wsX5_divisor (wsV RX5 62 RX5 yX5_copy wsX5_copy) := goodIn_app (goodIn_of _ (by decide +kernel)) ggX5_divisor_X5_copy
set_option maxRecDepth 20000 in
theorem ggX5_divisor_X5_halve : GoodIn wsX5_divisor wsX5_halve := goodIn_r _ [12, 1, 2, 13, 14, 15, 7, 16, 39, 40, 41, 42, 43, 44, 45, 46, 47, 48, 49, 50, 51, 52, 53, 54] (by decide +kernel) (by decide +kernel)
set_option maxRecDepth 20000 in
theorem gX5_divisor_X5_halve : GoodIn wsX5_divisor (wsV RX5 67 RX5 yX5_halve wsX5_halve) := goodIn_app (goodIn_of _ (by decide +kernel)) ggX5_divisor_X5_halve
set_option maxRecDepth 20000 in
theorem ggX5_divisor_X5_compare : GoodIn wsX5_divisor wsX5_compare := goodIn_r _ [20, 1, 21, 22, 23, 7, 24, 2, 39, 40, 41, 42, 43, 44, 45, 46, 47, 48, 49, 50, 51, 52, 53, 54] (by decide +kernel) (by decide +kernel)
set_option maxRecDepth 20000 in
theorem gX5_divisor_X5_compare : GoodIn wsX5_divisor (wsV RX5 71 RX5 yX5_compare wsX5_compare) := goodIn_app (goodIn_of _ (by decide +kernel)) ggX5_divisor_X5_compare
set_option maxRecDepth 20000 in
theorem ggX5_divisor_X5_minus : GoodIn wsX5_divisor wsX5_minus := goodIn_r _ [28, 1, 29, 30, 21, 22, 23, 7, 24, 2, 31, 32, 33, 34, 13, 14, 15, 16, 39, 40, 41, 42, 43, 44, 45, 46, 47, 48, 49, 50, 51, 52, 53, 54] (by decide +kernel) (by decide +kernel)
set_option maxRecDepth 20000 in
theorem gX5_divisor_X5_minus : GoodIn wsX5_divisor (wsV RX5 75 RX5 yX5_minus wsX5_minus) := goodIn_app (goodIn_of _ (by decide +kernel)) ggX5_divisor_X5_minus
set_option maxRecDepth 20000 in
theorem ggX5_divisor_X5_plus : GoodIn wsX5_divisor wsX5_plus := goodIn_r _ [38, 1, 29, 30, 21, 22, 23, 7, 24, 2, 31, 32, 33, 34, 13, 14, 15, 16, 39, 40, 41, 42, 43, 44, 45, 46, 47, 48, 49, 50, 51, 52, 53, 54] (by decide +kernel) (by decide +kernel)
set_option maxRecDepth 20000 in
theorem gX5_divisor_X5_plus : GoodIn wsX5_divisor (wsV RX5 79 RX5 yX5_plus wsX5_plus) := goodIn_app (goodIn_of _ (by decide +kernel)) ggX5_divisor_X5_plus
theorem dX5_divisor_0 : decode cX5_divisor 0 = .ok (.aload_n 0, 1) := by decide +kernel
theorem dX5_divisor_1 : decode cX5_divisor 1 = .ok (.bipush 10, 2) := by decide +kernel
theorem dX5_divisor_3 : decode cX5_divisor 3 = .ok (.iload_n 1, 1) := by decide +kernel
theorem dX5_divisor_4 : decode cX5_divisor 4 = .ok (.invokevirtual 62, 3) := by decide +kernel
theorem dX5_divisor_7 : decode cX5_divisor 7 = .ok (.aload_n 0, 1) := by decide +kernel
theorem dX5_divisor_8 : decode cX5_divisor 8 = .ok (.bipush 11, 2) := by decide +kernel
theorem dX5_divisor_10 : decode cX5_divisor 10 = .ok (.iload_n 2, 1) := by decide +kernel
theorem dX5_divisor_11 : decode cX5_divisor 11 = .ok (.invokevirtual 62, 3) := by decide +kernel
theorem dX5_divisor_14 : decode cX5_divisor 14 = .ok (.iconst 0, 1) := by decide +kernel
theorem dX5_divisor_15 : decode cX5_divisor 15 = .ok (.istore_n 3, 1) := by decide +kernel
theorem dX5_divisor_16 : decode cX5_divisor 16 = .ok (.aload_n 0, 1) := by decide +kernel
theorem dX5_divisor_17 : decode cX5_divisor 17 = .ok (.getfield 27, 3) := by decide +kernel
theorem dX5_divisor_20 : decode cX5_divisor 20 = .ok (.bipush 10, 2) := by decide +kernel
theorem dX5_divisor_22 : decode cX5_divisor 22 = .ok (.iaload, 1) := by decide +kernel
theorem dX5_divisor_23 : decode cX5_divisor 23 = .ok (.ifCond .eq 13, 3) := by decide +kernel
theorem dX5_divisor_26 : decode cX5_divisor 26 = .ok (.aload_n 0, 1) := by decide +kernel
theorem dX5_divisor_27 : decode cX5_divisor 27 = .ok (.getfield 27, 3) := by decide +kernel
theorem dX5_divisor_30 : decode cX5_divisor 30 = .ok (.bipush 11, 2) := by decide +kernel
theorem dX5_divisor_32 : decode cX5_divisor 32 = .ok (.iaload, 1) := by decide +kernel
theorem dX5_divisor_33 : decode cX5_divisor 33 = .ok (.ifCond .ne 24, 3) := by decide +kernel
theorem dX5_divisor_36 : decode cX5_divisor 36 = .ok (.aload_n 0, 1) := by decide +kernel
theorem dX5_divisor_37 : decode cX5_divisor 37 = .ok (.bipush 10, 2) := by decide +kernel
theorem dX5_divisor_39 : decode cX5_divisor 39 = .ok (.aload_n 0, 1) := by decide +kernel
theorem dX5_divisor_40 : decode cX5_divisor 40 = .ok (.getfield 27, 3) := by decide +kernel
theorem dX5_divisor_43 : decode cX5_divisor 43 = .ok (.iload_n 1, 1) := by decide +kernel
theorem dX5_divisor_44 : decode cX5_divisor 44 = .ok (.iaload, 1) := by decide +kernel
theorem dX5_divisor_45 : decode cX5_divisor 45 = .ok (.ifCond .ne 7, 3) := by decide +kernel
theorem dX5_divisor_48 : decode cX5_divisor 48 = .ok (.iload_n 2, 1) := by decide +kernel
theorem dX5_divisor_49 : decode cX5_divisor 49 = .ok (.goto 4, 3) := by decide +kernel
theorem dX5_divisor_52 : decode cX5_divisor 52 = .ok (.iload_n 1, 1) := by decide +kernel
theorem dX5_divisor_53 : decode cX5_divisor 53 = .ok (.invokevirtual 62, 3) := by decide +kernel
theorem dX5_divisor_56 : decode cX5_divisor 56 = .ok (.return_, 1) := by decide +kernel
theorem dX5_divisor_57 : decode cX5_divisor 57 = .ok (.aload_n 0, 1) := by decide +kernel
theorem dX5_divisor_58 : decode cX5_divisor 58 = .ok (.getfield 23, 3) := by decide +kernel
theorem dX5_divisor_61 : decode cX5_divisor 61 = .ok (.sipush 2560, 3) := by decide +kernel
theorem dX5_divisor_64 : decode cX5_divisor 64 = .ok (.laload, 1) := by decide +kernel
theorem dX5_divisor_65 : decode cX5_divisor 65 = .ok (.ldc2_w 65, 3) := by decide +kernel
theorem dX5_divisor_68 : decode cX5_divisor 68 = .ok (.lrem, 1) := by decide +kernel
theorem dX5_divisor_69 : decode cX5_divisor 69 = .ok (.lconst 0, 1) := by decide +kernel
theorem dX5_divisor_70 : decode cX5_divisor 70 = .ok (.lcmp, 1) := by decide +kernel
theorem dX5_divisor_71 : decode cX5_divisor 71 = .ok (.ifCond .ne 38, 3) := by decide +kernel
theorem dX5_divisor_74 : decode cX5_divisor 74 = .ok (.aload_n 0, 1) := by decide +kernel
theorem dX5_divisor_75 : decode cX5_divisor 75 = .ok (.getfield 23, 3) := by decide +kernel
theorem dX5_divisor_78 : decode cX5_divisor 78 = .ok (.sipush 2816, 3) := by decide +kernel
theorem dX5_divisor_81 : decode cX5_divisor 81 = .ok (.laload, 1) := by decide +kernel
theorem dX5_divisor_82 : decode cX5_divisor 82 = .ok (.ldc2_w 65, 3) := by decide +kernel
theorem dX5_divisor_85 : decode cX5_divisor 85 = .ok (.lrem, 1) := by decide +kernel
theorem dX5_divisor_86 : decode cX5_divisor 86 = .ok (.lconst 0, 1) := by decide +kernel
theorem dX5_divisor_87 : decode cX5_divisor 87 = .ok (.lcmp, 1) := by decide +kernel
theorem dX5_divisor_88 : decode cX5_divisor 88 = .ok (.ifCond .ne 21, 3) := by decide +kernel
theorem dX5_divisor_91 : decode cX5_divisor 91 = .ok (.aload_n 0, 1) := by decide +kernel
theorem dX5_divisor_92 : decode cX5_divisor 92 = .ok (.bipush 10, 2) := by decide +kernel
theorem dX5_divisor_94 : decode cX5_divisor 94 = .ok (.invokevirtual 67, 3) := by decide +kernel
theorem dX5_divisor_97 : decode cX5_divisor 97 = .ok (.aload_n 0, 1) := by decide +kernel
theorem dX5_divisor_98 : decode cX5_divisor 98 = .ok (.bipush 11, 2) := by decide +kernel
theorem dX5_divisor_100 : decode cX5_divisor 100 = .ok (.invokevirtual 67, 3) := by decide +kernel
theorem dX5_divisor_103 : decode cX5_divisor 103 = .ok (.iinc 3 1, 3) := by decide +kernel
theorem dX5_divisor_106 : decode cX5_divisor 106 = .ok (.goto (-49), 3) := by decide +kernel
theorem dX5_divisor_109 : decode cX5_divisor 109 = .ok (.aload_n 0, 1) := by decide +kernel
theorem dX5_divisor_110 : decode cX5_divisor 110 = .ok (.getfield 27, 3) := by decide +kernel
theorem dX5_divisor_113 : decode cX5_divisor 113 = .ok (.bipush 11, 2) := by decide +kernel
theorem dX5_divisor_115 : decode cX5_divisor 115 = .ok (.iaload, 1) := by decide +kernel
theorem dX5_divisor_116 : decode cX5_divisor 116 = .ok (.ifCond .le 103, 3) := by decide +kernel
theorem dX5_divisor_119 : decode cX5_divisor 119 = .ok (.aload_n 0, 1) := by decide +kernel
theorem dX5_divisor_120 : decode cX5_divisor 120 = .ok (.getfield 23, 3) := by decide +kernel
theorem dX5_divisor_123 : decode cX5_divisor 123 = .ok (.sipush 2560, 3) := by decide +kernel
theorem dX5_divisor_126 : decode cX5_divisor 126 = .ok (.laload, 1) := by decide +kernel
theorem dX5_divisor_127 : decode cX5_divisor 127 = .ok (.ldc2_w 65, 3) := by decide +kernel
theorem dX5_divisor_130 : decode cX5_divisor 130 = .ok (.lrem, 1) := by decide +kernel
theorem dX5_divisor_131 : decode cX5_divisor 131 = .ok (.lconst 0, 1) := by decide +kernel
theorem dX5_divisor_132 : decode cX5_divisor 132 = .ok (.lcmp, 1) := by decide +kernel
theorem dX5_divisor_133 : decode cX5_divisor 133 = .ok (.ifCond .ne 12, 3) := by decide +kernel
theorem dX5_divisor_136 : decode cX5_divisor 136 = .ok (.aload_n 0, 1) := by decide +kernel
theorem dX5_divisor_137 : decode cX5_divisor 137 = .ok (.bipush 10, 2) := by decide +kernel
theorem dX5_divisor_139 : decode cX5_divisor 139 = .ok (.invokevirtual 67, 3) := by decide +kernel
theorem dX5_divisor_142 : decode cX5_divisor 142 = .ok (.goto (-23), 3) := by decide +kernel
theorem dX5_divisor_145 : decode cX5_divisor 145 = .ok (.aload_n 0, 1) := by decide +kernel
theorem dX5_divisor_146 : decode cX5_divisor 146 = .ok (.getfield 23, 3) := by decide +kernel
theorem dX5_divisor_149 : decode cX5_divisor 149 = .ok (.sipush 2816, 3) := by decide +kernel
theorem dX5_divisor_152 : decode cX5_divisor 152 = .ok (.laload, 1) := by decide +kernel
theorem dX5_divisor_153 : decode cX5_divisor 153 = .ok (.ldc2_w 65, 3) := by decide +kernel
theorem dX5_divisor_156 : decode cX5_divisor 156 = .ok (.lrem, 1) := by decide +kernel
theorem dX5_divisor_157 : decode cX5_divisor 157 = .ok (.lconst 0, 1) := by decide +kernel
theorem dX5_divisor_158 : decode cX5_divisor 158 = .ok (.lcmp, 1) := by decide +kernel
theorem dX5_divisor_159 : decode cX5_divisor 159 = .ok (.ifCond .ne 12, 3) := by decide +kernel
theorem dX5_divisor_162 : decode cX5_divisor 162 = .ok (.aload_n 0, 1) := by decide +kernel
theorem dX5_divisor_163 : decode cX5_divisor 163 = .ok (.bipush 11, 2) := by decide +kernel
theorem dX5_divisor_165 : decode cX5_divisor 165 = .ok (.invokevirtual 67, 3) := by decide +kernel
theorem dX5_divisor_168 : decode cX5_divisor 168 = .ok (.goto (-23), 3) := by decide +kernel
theorem dX5_divisor_171 : decode cX5_divisor 171 = .ok (.aload_n 0, 1) := by decide +kernel
theorem dX5_divisor_172 : decode cX5_divisor 172 = .ok (.bipush 10, 2) := by decide +kernel
theorem dX5_divisor_174 : decode cX5_divisor 174 = .ok (.bipush 11, 2) := by decide +kernel
theorem dX5_divisor_176 : decode cX5_divisor 176 = .ok (.invokevirtual 71, 3) := by decide +kernel
theorem dX5_divisor_179 : decode cX5_divisor 179 = .ok (.ifCond .le 27, 3) := by decide +kernel
theorem dX5_divisor_182 : decode cX5_divisor 182 = .ok (.aload_n 0, 1) := by decide +kernel
theorem dX5_divisor_183 : decode cX5_divisor 183 = .ok (.bipush 13, 2) := by decide +kernel
theorem dX5_divisor_185 : decode cX5_divisor 185 = .ok (.bipush 10, 2) := by decide +kernel
theorem dX5_divisor_187 : decode cX5_divisor 187 = .ok (.invokevirtual 62, 3) := by decide +kernel
theorem dX5_divisor_190 : decode cX5_divisor 190 = .ok (.aload_n 0, 1) := by decide +kernel
theorem dX5_divisor_191 : decode cX5_divisor 191 = .ok (.bipush 10, 2) := by decide +kernel
theorem dX5_divisor_193 : decode cX5_divisor 193 = .ok (.bipush 11, 2) := by decide +kernel
theorem dX5_divisor_195 : decode cX5_divisor 195 = .ok (.invokevirtual 62, 3) := by decide +kernel
theorem dX5_divisor_198 : decode cX5_divisor 198 = .ok (.aload_n 0, 1) := by decide +kernel
theorem dX5_divisor_199 : decode cX5_divisor 199 = .ok (.bipush 11, 2) := by decide +kernel
theorem dX5_divisor_201 : decode cX5_divisor 201 = .ok (.bipush 13, 2) := by decide +kernel
theorem dX5_divisor_203 : decode cX5_divisor 203 = .ok (.invokevirtual 62, 3) := by decide +kernel
theorem dX5_divisor_206 : decode cX5_divisor 206 = .ok (.aload_n 0, 1) := by decide +kernel
theorem dX5_divisor_207 : decode cX5_divisor 207 = .ok (.bipush 11, 2) := by decide +kernel
theorem dX5_divisor_209 : decode cX5_divisor 209 = .ok (.bipush 11, 2) := by decide +kernel
theorem dX5_divisor_211 : decode cX5_divisor 211 = .ok (.bipush 10, 2) := by decide +kernel
theorem dX5_divisor_213 : decode cX5_divisor 213 = .ok (.invokevirtual 75, 3) := by decide +kernel
theorem dX5_divisor_216 : decode cX5_divisor 216 = .ok (.goto (-107), 3) := by decide +kernel
theorem dX5_divisor_219 : decode cX5_divisor 219 = .ok (.iconst 0, 1) := by decide +kernel
theorem dX5_divisor_220 : decode cX5_divisor 220 = .ok (.istore 4, 2) := by decide +kernel
theorem dX5_divisor_222 : decode cX5_divisor 222 = .ok (.iload 4, 2) := by decide +kernel
theorem dX5_divisor_224 : decode cX5_divisor 224 = .ok (.iload_n 3, 1) := by decide +kernel
theorem dX5_divisor_225 : decode cX5_divisor 225 = .ok (.if_icmp .ge 19, 3) := by decide +kernel
theorem dX5_divisor_228 : decode cX5_divisor 228 = .ok (.aload_n 0, 1) := by decide +kernel
theorem dX5_divisor_229 : decode cX5_divisor 229 = .ok (.bipush 10, 2) := by decide +kernel
theorem dX5_divisor_231 : decode cX5_divisor 231 = .ok (.bipush 10, 2) := by decide +kernel
theorem dX5_divisor_233 : decode cX5_divisor 233 = .ok (.bipush 10, 2) := by decide +kernel
theorem dX5_divisor_235 : decode cX5_divisor 235 = .ok (.invokevirtual 79, 3) := by decide +kernel
theorem dX5_divisor_238 : decode cX5_divisor 238 = .ok (.iinc 4 1, 3) := by decide +kernel
theorem dX5_divisor_241 : decode cX5_divisor 241 = .ok (.goto (-19), 3) := by decide +kernel
theorem dX5_divisor_244 : decode cX5_divisor 244 = .ok (.return_, 1) := by decide +kernel
set_option maxRecDepth 20000 in
theorem ggX5_halve_X5_trim : GoodIn wsX5_halve wsX5_trim := goodIn_r _ [7, 2, 1, 8, 9, 10, 11, 12, 13, 14, 15, 16, 17, 18, 19, 20, 21, 22, 23] (by decide +kernel) (by decide +kernel)
set_option maxRecDepth 20000 in
theorem gX5_halve_X5_trim : GoodIn wsX5_halve (wsV RX5 51 RX5 yX5_trim wsX5_trim) := goodIn_app (goodIn_of _ (by decide +kernel)) ggX5_halve_X5_trim
theorem dX5_halve_0 : decode cX5_halve 0 = .ok (.lconst 0, 1) := by decide +kernel
theorem dX5_halve_1 : decode cX5_halve 1 = .ok (.lstore_n 2, 1) := by decide +kernel
theorem dX5_halve_2 : decode cX5_halve 2 = .ok (.aload_n 0, 1) := by decide +kernel
theorem dX5_halve_3 : decode cX5_halve 3 = .ok (.getfield 27, 3) := by decide +kernel
theorem dX5_halve_6 : decode cX5_halve 6 = .ok (.iload_n 1, 1) := by decide +kernel
theorem dX5_halve_7 : decode cX5_halve 7 = .ok (.iaload, 1) := by decide +kernel
theorem dX5_halve_8 : decode cX5_halve 8 = .ok (.iconst 1, 1) := by decide +kernel
theorem dX5_halve_9 : decode cX5_halve 9 = .ok (.isub, 1) := by decide +kernel
theorem dX5_halve_10 : decode cX5_halve 10 = .ok (.istore 4, 2) := by decide +kernel
theorem dX5_halve_12 : decode cX5_halve 12 = .ok (.iload 4, 2) := by decide +kernel
theorem dX5_halve_14 : decode cX5_halve 14 = .ok (.ifCond .lt 51, 3) := by decide +kernel
theorem dX5_halve_17 : decode cX5_halve 17 = .ok (.aload_n 0, 1) := by decide +kernel
theorem dX5_halve_18 : decode cX5_halve 18 = .ok (.getfield 23, 3) := by decide +kernel
theorem dX5_halve_21 : decode cX5_halve 21 = .ok (.sipush 256, 3) := by decide +kernel
theorem dX5_halve_24 : decode cX5_halve 24 = .ok (.iload_n 1, 1) := by decide +kernel
theorem dX5_halve_25 : decode cX5_halve 25 = .ok (.imul, 1) := by decide +kernel
theorem dX5_halve_26 : decode cX5_halve 26 = .ok (.iload 4, 2) := by decide +kernel
theorem dX5_halve_28 : decode cX5_halve 28 = .ok (.iadd, 1) := by decide +kernel
theorem dX5_halve_29 : decode cX5_halve 29 = .ok (.laload, 1) := by decide +kernel
theorem dX5_halve_30 : decode cX5_halve 30 = .ok (.lstore 5, 2) := by decide +kernel
theorem dX5_halve_32 : decode cX5_halve 32 = .ok (.aload_n 0, 1) := by decide +kernel
theorem dX5_halve_33 : decode cX5_halve 33 = .ok (.getfield 23, 3) := by decide +kernel
theorem dX5_halve_36 : decode cX5_halve 36 = .ok (.sipush 256, 3) := by decide +kernel
theorem dX5_halve_39 : decode cX5_halve 39 = .ok (.iload_n 1, 1) := by decide +kernel
theorem dX5_halve_40 : decode cX5_halve 40 = .ok (.imul, 1) := by decide +kernel
theorem dX5_halve_41 : decode cX5_halve 41 = .ok (.iload 4, 2) := by decide +kernel
theorem dX5_halve_43 : decode cX5_halve 43 = .ok (.iadd, 1) := by decide +kernel
theorem dX5_halve_44 : decode cX5_halve 44 = .ok (.lload 5, 2) := by decide +kernel
theorem dX5_halve_46 : decode cX5_halve 46 = .ok (.iconst 1, 1) := by decide +kernel
theorem dX5_halve_47 : decode cX5_halve 47 = .ok (.lshr, 1) := by decide +kernel
theorem dX5_halve_48 : decode cX5_halve 48 = .ok (.lload_n 2, 1) := by decide +kernel
theorem dX5_halve_49 : decode cX5_halve 49 = .ok (.bipush 30, 2) := by decide +kernel
theorem dX5_halve_51 : decode cX5_halve 51 = .ok (.lshl, 1) := by decide +kernel
theorem dX5_halve_52 : decode cX5_halve 52 = .ok (.lor, 1) := by decide +kernel
theorem dX5_halve_53 : decode cX5_halve 53 = .ok (.lastore, 1) := by decide +kernel
theorem dX5_halve_54 : decode cX5_halve 54 = .ok (.lload 5, 2) := by decide +kernel
theorem dX5_halve_56 : decode cX5_halve 56 = .ok (.lconst 1, 1) := by decide +kernel
theorem dX5_halve_57 : decode cX5_halve 57 = .ok (.land, 1) := by decide +kernel
theorem dX5_halve_58 : decode cX5_halve 58 = .ok (.lstore_n 2, 1) := by decide +kernel
theorem dX5_halve_59 : decode cX5_halve 59 = .ok (.iinc 4 (-1), 3) := by decide +kernel
theorem dX5_halve_62 : decode cX5_halve 62 = .ok (.goto (-50), 3) := by decide +kernel
theorem dX5_halve_65 : decode cX5_halve 65 = .ok (.aload_n 0, 1) := by decide +kernel
theorem dX5_halve_66 : decode cX5_halve 66 = .ok (.iload_n 1, 1) := by decide +kernel
theorem dX5_halve_67 : decode cX5_halve 67 = .ok (.aload_n 0, 1) := by decide +kernel
theorem dX5_halve_68 : decode cX5_halve 68 = .ok (.getfield 27, 3) := by decide +kernel
theorem dX5_halve_71 : decode cX5_halve 71 = .ok (.iload_n 1, 1) := by decide +kernel
theorem dX5_halve_72 : decode cX5_halve 72 = .ok (.iaload, 1) := by decide +kernel
theorem dX5_halve_73 : decode cX5_halve 73 = .ok (.invokevirtual 51, 3) := by decide +kernel
theorem dX5_halve_76 : decode cX5_halve 76 = .ok (.return_, 1) := by decide +kernel
set_option maxRecDepth 20000 in
theorem ggX5_lowest_X5_put : GoodIn wsX5_lowest wsX5_put := goodIn_r _ [6, 7, 8, 9, 10, 11, 5, 12, 1, 52, 53, 54, 55, 56, 57, 58, 59, 60, 61, 62, 63, 64, 65, 66, 67] (by decide +kernel) (by decide +kernel)
set_option maxRecDepth 20000 in
theorem gX5_lowest_X5_put : GoodIn wsX5_lowest (wsV RX5 42 RX5 yX5_put wsX5_put) := goodIn_app (goodIn_of _ (by decide +kernel)) ggX5_lowest_X5_put
set_option maxRecDepth 20000 in
theorem ggX5_lowest_X5_divisor : GoodIn wsX5_lowest wsX5_divisor := goodIn_r _ [16, 1, 7, 17, 18, 19, 20, 5, 21, 22, 23, 24, 25, 9, 10, 11, 12, 26, 27, 28, 29, 30, 31, 32, 33, 34, 35, 36, 37, 38, 8, 39, 40, 41, 42, 43, 44, 45, 46, 52, 53, 54, 55, 56, 57, 58, 59, 60, 61, 62, 63, 64, 65, 66, 67] (by decide +kernel) (by decide +kernel)
set_option maxRecDepth 20000 in
theorem gX5_lowest_X5_divisor : GoodIn wsX5_lowest (wsV RX5 82 RX5 yX5_divisor wsX5_divisor) := goodIn_app (goodIn_of _ (by decide +kernel)) ggX5_lowest_X5_divisor
set_option maxRecDepth 20000 in
theorem ggX5_lowest_X5_copy : GoodIn wsX5_lowest wsX5_copy := goodIn_r _ [21, 1, 7, 52, 53, 54, 55, 56, 57, 58, 59, 60, 61, 62, 63, 64, 65, 66, 67] (by decide +kernel) (by decide +kernel)
set_option maxRecDepth 20000 in
theorem gX5_lowest_X5_copy : GoodIn wsX5_lowest (wsV RX5 62 RX5 yX5_copy wsX5_copy) := goodIn_app (goodIn_of _ (by decide +kernel)) ggX5_lowest_X5_copy
set_option maxRecDepth 20000 in
theorem ggX5_lowest_X5_divide : GoodIn wsX5_lowest wsX5_divide := goodIn_r _ [50, 1, 38, 51, 7, 8, 30, 31, 32, 5, 33, 9, 10, 11, 12, 39, 40, 41, 42, 52, 53, 54, 55, 56, 57, 58, 59, 60, 61, 62, 63, 64, 65, 66, 67] (by decide +kernel) (by decide +kernel)
set_option maxRecDepth 20000 in
theorem gX5_lowest_X5_divide : GoodIn wsX5_lowest (wsV RX5 85 RX5 yX5_divide wsX5_divide) := goodIn_app (goodIn_of _ (by decide +kernel)) ggX5_lowest_X5_divide
theorem dX5_lowest_0 : decode cX5_lowest 0 = .ok (.aload_n 0, 1) := by decide +kernel
theorem dX5_lowest_1 : decode cX5_lowest 1 = .ok (.getfield 27, 3) := by decide +kernel
theorem dX5_lowest_4 : decode cX5_lowest 4 = .ok (.iload_n 2, 1) := by decide +kernel
theorem dX5_lowest_5 : decode cX5_lowest 5 = .ok (.iaload, 1) := by decide +kernel
theorem dX5_lowest_6 : decode cX5_lowest 6 = .ok (.ifCond .ne 23, 3) := by decide +kernel
theorem dX5_lowest_9 : decode cX5_lowest 9 = .ok (.aload_n 0, 1) := by decide +kernel
theorem dX5_lowest_10 : decode cX5_lowest 10 = .ok (.getfield 27, 3) := by decide +kernel
theorem dX5_lowest_13 : decode cX5_lowest 13 = .ok (.iconst 2, 1) := by decide +kernel
theorem dX5_lowest_14 : decode cX5_lowest 14 = .ok (.iload_n 1, 1) := by decide +kernel
theorem dX5_lowest_15 : decode cX5_lowest 15 = .ok (.imul, 1) := by decide +kernel
theorem dX5_lowest_16 : decode cX5_lowest 16 = .ok (.iconst 0, 1) := by decide +kernel
theorem dX5_lowest_17 : decode cX5_lowest 17 = .ok (.iastore, 1) := by decide +kernel
theorem dX5_lowest_18 : decode cX5_lowest 18 = .ok (.aload_n 0, 1) := by decide +kernel
theorem dX5_lowest_19 : decode cX5_lowest 19 = .ok (.iconst 2, 1) := by decide +kernel
theorem dX5_lowest_20 : decode cX5_lowest 20 = .ok (.iload_n 1, 1) := by decide +kernel
theorem dX5_lowest_21 : decode cX5_lowest 21 = .ok (.imul, 1) := by decide +kernel
theorem dX5_lowest_22 : decode cX5_lowest 22 = .ok (.iconst 1, 1) := by decide +kernel
theorem dX5_lowest_23 : decode cX5_lowest 23 = .ok (.iadd, 1) := by decide +kernel
theorem dX5_lowest_24 : decode cX5_lowest 24 = .ok (.lconst 1, 1) := by decide +kernel
theorem dX5_lowest_25 : decode cX5_lowest 25 = .ok (.invokevirtual 42, 3) := by decide +kernel
theorem dX5_lowest_28 : decode cX5_lowest 28 = .ok (.return_, 1) := by decide +kernel
theorem dX5_lowest_29 : decode cX5_lowest 29 = .ok (.aload_n 0, 1) := by decide +kernel
theorem dX5_lowest_30 : decode cX5_lowest 30 = .ok (.iload_n 2, 1) := by decide +kernel
theorem dX5_lowest_31 : decode cX5_lowest 31 = .ok (.iload_n 3, 1) := by decide +kernel
theorem dX5_lowest_32 : decode cX5_lowest 32 = .ok (.invokevirtual 82, 3) := by decide +kernel
theorem dX5_lowest_35 : decode cX5_lowest 35 = .ok (.aload_n 0, 1) := by decide +kernel
theorem dX5_lowest_36 : decode cX5_lowest 36 = .ok (.bipush 16, 2) := by decide +kernel
theorem dX5_lowest_38 : decode cX5_lowest 38 = .ok (.iload_n 2, 1) := by decide +kernel
theorem dX5_lowest_39 : decode cX5_lowest 39 = .ok (.invokevirtual 62, 3) := by decide +kernel
theorem dX5_lowest_42 : decode cX5_lowest 42 = .ok (.aload_n 0, 1) := by decide +kernel
theorem dX5_lowest_43 : decode cX5_lowest 43 = .ok (.bipush 17, 2) := by decide +kernel
theorem dX5_lowest_45 : decode cX5_lowest 45 = .ok (.iload_n 3, 1) := by decide +kernel
theorem dX5_lowest_46 : decode cX5_lowest 46 = .ok (.invokevirtual 62, 3) := by decide +kernel
theorem dX5_lowest_49 : decode cX5_lowest 49 = .ok (.aload_n 0, 1) := by decide +kernel
theorem dX5_lowest_50 : decode cX5_lowest 50 = .ok (.bipush 12, 2) := by decide +kernel
theorem dX5_lowest_52 : decode cX5_lowest 52 = .ok (.bipush 13, 2) := by decide +kernel
theorem dX5_lowest_54 : decode cX5_lowest 54 = .ok (.bipush 16, 2) := by decide +kernel
theorem dX5_lowest_56 : decode cX5_lowest 56 = .ok (.bipush 10, 2) := by decide +kernel
theorem dX5_lowest_58 : decode cX5_lowest 58 = .ok (.invokevirtual 85, 3) := by decide +kernel
theorem dX5_lowest_61 : decode cX5_lowest 61 = .ok (.aload_n 0, 1) := by decide +kernel
theorem dX5_lowest_62 : decode cX5_lowest 62 = .ok (.iconst 2, 1) := by decide +kernel
theorem dX5_lowest_63 : decode cX5_lowest 63 = .ok (.iload_n 1, 1) := by decide +kernel
theorem dX5_lowest_64 : decode cX5_lowest 64 = .ok (.imul, 1) := by decide +kernel
theorem dX5_lowest_65 : decode cX5_lowest 65 = .ok (.bipush 12, 2) := by decide +kernel
theorem dX5_lowest_67 : decode cX5_lowest 67 = .ok (.invokevirtual 62, 3) := by decide +kernel
theorem dX5_lowest_70 : decode cX5_lowest 70 = .ok (.aload_n 0, 1) := by decide +kernel
theorem dX5_lowest_71 : decode cX5_lowest 71 = .ok (.bipush 12, 2) := by decide +kernel
theorem dX5_lowest_73 : decode cX5_lowest 73 = .ok (.bipush 13, 2) := by decide +kernel
theorem dX5_lowest_75 : decode cX5_lowest 75 = .ok (.bipush 17, 2) := by decide +kernel
theorem dX5_lowest_77 : decode cX5_lowest 77 = .ok (.bipush 10, 2) := by decide +kernel
theorem dX5_lowest_79 : decode cX5_lowest 79 = .ok (.invokevirtual 85, 3) := by decide +kernel
theorem dX5_lowest_82 : decode cX5_lowest 82 = .ok (.aload_n 0, 1) := by decide +kernel
theorem dX5_lowest_83 : decode cX5_lowest 83 = .ok (.iconst 2, 1) := by decide +kernel
theorem dX5_lowest_84 : decode cX5_lowest 84 = .ok (.iload_n 1, 1) := by decide +kernel
theorem dX5_lowest_85 : decode cX5_lowest 85 = .ok (.imul, 1) := by decide +kernel
theorem dX5_lowest_86 : decode cX5_lowest 86 = .ok (.iconst 1, 1) := by decide +kernel
theorem dX5_lowest_87 : decode cX5_lowest 87 = .ok (.iadd, 1) := by decide +kernel
theorem dX5_lowest_88 : decode cX5_lowest 88 = .ok (.bipush 12, 2) := by decide +kernel
theorem dX5_lowest_90 : decode cX5_lowest 90 = .ok (.invokevirtual 62, 3) := by decide +kernel
theorem dX5_lowest_93 : decode cX5_lowest 93 = .ok (.return_, 1) := by decide +kernel
set_option maxRecDepth 20000 in
theorem ggX5_set_X5_put : GoodIn wsX5_set wsX5_put := goodIn_r _ [5, 6, 7, 8, 9, 10, 4, 11, 12, 56, 57, 58, 59, 60, 61, 62, 63, 64, 65, 66, 67, 68, 69, 70, 71] (by decide +kernel) (by decide +kernel)
set_option maxRecDepth 20000 in
theorem gX5_set_X5_put : GoodIn wsX5_set (wsV RX5 42 RX5 yX5_put wsX5_put) := goodIn_app (goodIn_of _ (by decide +kernel)) ggX5_set_X5_put
set_option maxRecDepth 20000 in
theorem ggX5_set_X5_lowest : GoodIn wsX5_set wsX5_lowest := goodIn_r _ [16, 12, 1, 2, 3, 4, 5, 6, 7, 8, 9, 10, 11, 17, 18, 19, 20, 21, 22, 23, 24, 25, 26, 27, 28, 29, 30, 31, 32, 33, 34, 35, 36, 37, 38, 39, 40, 41, 42, 43, 44, 45, 46, 47, 48, 49, 50, 51, 52, 53, 54, 55, 56, 57, 58, 59, 60, 61, 62, 63, 64, 65, 66, 67, 68, 69, 70, 71] (by decide +kernel) (by decide +kernel)
set_option maxRecDepth 20000 in
theorem gX5_set_X5_lowest : GoodIn wsX5_set (wsV RX5 89 RX5 yX5_lowest wsX5_lowest) := goodIn_app (goodIn_of _ (by decide +kernel)) ggX5_set_X5_lowest
theorem dX5_set_0 : decode cX5_set 0 = .ok (.aload_n 0, 1) := by decide +kernel
theorem dX5_set_1 : decode cX5_set 1 = .ok (.bipush 14, 2) := by decide +kernel
theorem dX5_set_3 : decode cX5_set 3 = .ok (.iload_n 2, 1) := by decide +kernel
theorem dX5_set_4 : decode cX5_set 4 = .ok (.i2l, 1) := by decide +kernel
theorem dX5_set_5 : decode cX5_set 5 = .ok (.invokevirtual 42, 3) := by decide +kernel
theorem dX5_set_8 : decode cX5_set 8 = .ok (.aload_n 0, 1) := by decide +kernel
theorem dX5_set_9 : decode cX5_set 9 = .ok (.bipush 15, 2) := by decide +kernel
theorem dX5_set_11 : decode cX5_set 11 = .ok (.iload_n 3, 1) := by decide +kernel
theorem dX5_set_12 : decode cX5_set 12 = .ok (.i2l, 1) := by decide +kernel
theorem dX5_set_13 : decode cX5_set 13 = .ok (.invokevirtual 42, 3) := by decide +kernel
theorem dX5_set_16 : decode cX5_set 16 = .ok (.aload_n 0, 1) := by decide +kernel
theorem dX5_set_17 : decode cX5_set 17 = .ok (.iload_n 1, 1) := by decide +kernel
theorem dX5_set_18 : decode cX5_set 18 = .ok (.bipush 14, 2) := by decide +kernel
theorem dX5_set_20 : decode cX5_set 20 = .ok (.bipush 15, 2) := by decide +kernel
theorem dX5_set_22 : decode cX5_set 22 = .ok (.invokevirtual 89, 3) := by decide +kernel
theorem dX5_set_25 : decode cX5_set 25 = .ok (.return_, 1) := by decide +kernel
set_option maxRecDepth 20000 in
theorem ggX5_cross_X5_times : GoodIn wsX5_cross wsX5_times := goodIn_r _ [5, 6, 7, 8, 9, 10, 11, 12, 4, 13, 14, 15, 16, 17, 18, 19, 20, 21, 22, 23, 24, 25, 26, 27, 28, 29, 30, 31, 32, 33] (by decide +kernel) (by decide +kernel)
set_option maxRecDepth 20000 in
theorem gX5_cross_X5_times : GoodIn wsX5_cross (wsV RX5 92 RX5 yX5_times wsX5_times) := goodIn_app (goodIn_of _ (by decide +kernel)) ggX5_cross_X5_times
theorem dX5_cross_0 : decode cX5_cross 0 = .ok (.aload_n 0, 1) := by decide +kernel
theorem dX5_cross_1 : decode cX5_cross 1 = .ok (.bipush 14, 2) := by decide +kernel
theorem dX5_cross_3 : decode cX5_cross 3 = .ok (.iconst 2, 1) := by decide +kernel
theorem dX5_cross_4 : decode cX5_cross 4 = .ok (.iload_n 1, 1) := by decide +kernel
theorem dX5_cross_5 : decode cX5_cross 5 = .ok (.imul, 1) := by decide +kernel
theorem dX5_cross_6 : decode cX5_cross 6 = .ok (.iconst 2, 1) := by decide +kernel
theorem dX5_cross_7 : decode cX5_cross 7 = .ok (.iload_n 2, 1) := by decide +kernel
theorem dX5_cross_8 : decode cX5_cross 8 = .ok (.imul, 1) := by decide +kernel
theorem dX5_cross_9 : decode cX5_cross 9 = .ok (.iconst 1, 1) := by decide +kernel
theorem dX5_cross_10 : decode cX5_cross 10 = .ok (.iadd, 1) := by decide +kernel
theorem dX5_cross_11 : decode cX5_cross 11 = .ok (.invokevirtual 92, 3) := by decide +kernel
theorem dX5_cross_14 : decode cX5_cross 14 = .ok (.aload_n 0, 1) := by decide +kernel
theorem dX5_cross_15 : decode cX5_cross 15 = .ok (.bipush 16, 2) := by decide +kernel
theorem dX5_cross_17 : decode cX5_cross 17 = .ok (.iconst 2, 1) := by decide +kernel
theorem dX5_cross_18 : decode cX5_cross 18 = .ok (.iload_n 2, 1) := by decide +kernel
theorem dX5_cross_19 : decode cX5_cross 19 = .ok (.imul, 1) := by decide +kernel
theorem dX5_cross_20 : decode cX5_cross 20 = .ok (.iconst 2, 1) := by decide +kernel
theorem dX5_cross_21 : decode cX5_cross 21 = .ok (.iload_n 1, 1) := by decide +kernel
theorem dX5_cross_22 : decode cX5_cross 22 = .ok (.imul, 1) := by decide +kernel
theorem dX5_cross_23 : decode cX5_cross 23 = .ok (.iconst 1, 1) := by decide +kernel
theorem dX5_cross_24 : decode cX5_cross 24 = .ok (.iadd, 1) := by decide +kernel
theorem dX5_cross_25 : decode cX5_cross 25 = .ok (.invokevirtual 92, 3) := by decide +kernel
theorem dX5_cross_28 : decode cX5_cross 28 = .ok (.aload_n 0, 1) := by decide +kernel
theorem dX5_cross_29 : decode cX5_cross 29 = .ok (.bipush 15, 2) := by decide +kernel
theorem dX5_cross_31 : decode cX5_cross 31 = .ok (.iconst 2, 1) := by decide +kernel
theorem dX5_cross_32 : decode cX5_cross 32 = .ok (.iload_n 1, 1) := by decide +kernel
theorem dX5_cross_33 : decode cX5_cross 33 = .ok (.imul, 1) := by decide +kernel
theorem dX5_cross_34 : decode cX5_cross 34 = .ok (.iconst 1, 1) := by decide +kernel
theorem dX5_cross_35 : decode cX5_cross 35 = .ok (.iadd, 1) := by decide +kernel
theorem dX5_cross_36 : decode cX5_cross 36 = .ok (.iconst 2, 1) := by decide +kernel
theorem dX5_cross_37 : decode cX5_cross 37 = .ok (.iload_n 2, 1) := by decide +kernel
theorem dX5_cross_38 : decode cX5_cross 38 = .ok (.imul, 1) := by decide +kernel
theorem dX5_cross_39 : decode cX5_cross 39 = .ok (.iconst 1, 1) := by decide +kernel
theorem dX5_cross_40 : decode cX5_cross 40 = .ok (.iadd, 1) := by decide +kernel
theorem dX5_cross_41 : decode cX5_cross 41 = .ok (.invokevirtual 92, 3) := by decide +kernel
theorem dX5_cross_44 : decode cX5_cross 44 = .ok (.return_, 1) := by decide +kernel
set_option maxRecDepth 20000 in
theorem ggX5_add0_X5_cross : GoodIn wsX5_add0 wsX5_cross := goodIn_r _ [5, 6, 7, 8, 4, 9, 10, 11, 12, 13, 14, 15, 16, 17, 18, 19, 20, 21, 64, 65, 66, 67, 68, 69, 70, 71, 72, 73, 74, 75, 76, 77, 78, 79] (by decide +kernel) (by decide +kernel)
set_option maxRecDepth 20000 in
theorem gX5_add0_X5_cross : GoodIn wsX5_add0 (wsV RX5 95 RX5 yX5_cross wsX5_cross) := goodIn_app (goodIn_of _ (by decide +kernel)) ggX5_add0_X5_cross
set_option maxRecDepth 20000 in
theorem ggX5_add0_X5_plus : GoodIn wsX5_add0 wsX5_plus := goodIn_r _ [25, 10, 11, 13, 26, 27, 28, 4, 29, 12, 14, 15, 16, 17, 18, 19, 20, 21, 64, 65, 66, 67, 68, 69, 70, 71, 72, 73, 74, 75, 76, 77, 78, 79] (by decide +kernel) (by decide +kernel)
set_option maxRecDepth 20000 in
theorem gX5_add0_X5_plus : GoodIn wsX5_add0 (wsV RX5 79 RX5 yX5_plus wsX5_plus) := goodIn_app (goodIn_of _ (by decide +kernel)) ggX5_add0_X5_plus
set_option maxRecDepth 20000 in
theorem ggX5_add0_X5_copy : GoodIn wsX5_add0 wsX5_copy := goodIn_r _ [33, 10, 12, 64, 65, 66, 67, 68, 69, 70, 71, 72, 73, 74, 75, 76, 77, 78, 79] (by decide +kernel) (by decide +kernel)
set_option maxRecDepth 20000 in
theorem gX5_add0_X5_copy : GoodIn wsX5_add0 (wsV RX5 62 RX5 yX5_copy wsX5_copy) := goodIn_app (goodIn_of _ (by decide +kernel)) ggX5_add0_X5_copy
set_option maxRecDepth 20000 in
theorem ggX5_add0_X5_lowest : GoodIn wsX5_add0 wsX5_lowest := goodIn_r _ [37, 10, 38, 39, 40, 4, 41, 12, 13, 18, 19, 20, 21, 42, 43, 44, 45, 46, 30, 31, 32, 33, 47, 48, 49, 50, 51, 52, 53, 54, 26, 27, 28, 29, 55, 56, 57, 58, 11, 14, 15, 16, 17, 22, 23, 24, 25, 59, 60, 61, 62, 63, 64, 65, 66, 67, 68, 69, 70, 71, 72, 73, 74, 75, 76, 77, 78, 79] (by decide +kernel) (by decide +kernel)
set_option maxRecDepth 20000 in
theorem gX5_add0_X5_lowest : GoodIn wsX5_add0 (wsV RX5 89 RX5 yX5_lowest wsX5_lowest) := goodIn_app (goodIn_of _ (by decide +kernel)) ggX5_add0_X5_lowest
theorem dX5_add0_0 : decode cX5_add0 0 = .ok (.aload_n 0, 1) := by decide +kernel
theorem dX5_add0_1 : decode cX5_add0 1 = .ok (.iload_n 2, 1) := by decide +kernel
theorem dX5_add0_2 : decode cX5_add0 2 = .ok (.iload_n 3, 1) := by decide +kernel
theorem dX5_add0_3 : decode cX5_add0 3 = .ok (.invokevirtual 95, 3) := by decide +kernel
theorem dX5_add0_6 : decode cX5_add0 6 = .ok (.aload_n 0, 1) := by decide +kernel
theorem dX5_add0_7 : decode cX5_add0 7 = .ok (.bipush 17, 2) := by decide +kernel
theorem dX5_add0_9 : decode cX5_add0 9 = .ok (.bipush 14, 2) := by decide +kernel
theorem dX5_add0_11 : decode cX5_add0 11 = .ok (.bipush 16, 2) := by decide +kernel
theorem dX5_add0_13 : decode cX5_add0 13 = .ok (.invokevirtual 79, 3) := by decide +kernel
theorem dX5_add0_16 : decode cX5_add0 16 = .ok (.aload_n 0, 1) := by decide +kernel
theorem dX5_add0_17 : decode cX5_add0 17 = .ok (.bipush 14, 2) := by decide +kernel
theorem dX5_add0_19 : decode cX5_add0 19 = .ok (.bipush 17, 2) := by decide +kernel
theorem dX5_add0_21 : decode cX5_add0 21 = .ok (.invokevirtual 62, 3) := by decide +kernel
theorem dX5_add0_24 : decode cX5_add0 24 = .ok (.aload_n 0, 1) := by decide +kernel
theorem dX5_add0_25 : decode cX5_add0 25 = .ok (.iload_n 1, 1) := by decide +kernel
theorem dX5_add0_26 : decode cX5_add0 26 = .ok (.bipush 14, 2) := by decide +kernel
theorem dX5_add0_28 : decode cX5_add0 28 = .ok (.bipush 15, 2) := by decide +kernel
theorem dX5_add0_30 : decode cX5_add0 30 = .ok (.invokevirtual 89, 3) := by decide +kernel
theorem dX5_add0_33 : decode cX5_add0 33 = .ok (.return_, 1) := by decide +kernel
set_option maxRecDepth 20000 in
theorem ggX5_subtract_X5_cross : GoodIn wsX5_subtract wsX5_cross := goodIn_r _ [5, 6, 7, 8, 4, 9, 10, 11, 12, 13, 14, 15, 16, 17, 18, 19, 20, 21, 64, 65, 66, 67, 68, 69, 70, 71, 72, 73, 74, 75, 76, 77, 78, 79] (by decide +kernel) (by decide +kernel)
set_option maxRecDepth 20000 in
theorem gX5_subtract_X5_cross : GoodIn wsX5_subtract (wsV RX5 95 RX5 yX5_cross wsX5_cross) := goodIn_app (goodIn_of _ (by decide +kernel)) ggX5_subtract_X5_cross
set_option maxRecDepth 20000 in
theorem ggX5_subtract_X5_minus : GoodIn wsX5_subtract wsX5_minus := goodIn_r _ [25, 10, 11, 13, 26, 27, 28, 4, 29, 12, 14, 15, 16, 17, 18, 19, 20, 21, 64, 65, 66, 67, 68, 69, 70, 71, 72, 73, 74, 75, 76, 77, 78, 79] (by decide +kernel) (by decide +kernel)
set_option maxRecDepth 20000 in
theorem gX5_subtract_X5_minus : GoodIn wsX5_subtract (wsV RX5 75 RX5 yX5_minus wsX5_minus) := goodIn_app (goodIn_of _ (by decide +kernel)) ggX5_subtract_X5_minus
set_option maxRecDepth 20000 in
theorem ggX5_subtract_X5_copy : GoodIn wsX5_subtract wsX5_copy := goodIn_r _ [33, 10, 12, 64, 65, 66, 67, 68, 69, 70, 71, 72, 73, 74, 75, 76, 77, 78, 79] (by decide +kernel) (by decide +kernel)
set_option maxRecDepth 20000 in
theorem gX5_subtract_X5_copy : GoodIn wsX5_subtract (wsV RX5 62 RX5 yX5_copy wsX5_copy) := goodIn_app (goodIn_of _ (by decide +kernel)) ggX5_subtract_X5_copy
set_option maxRecDepth 20000 in
theorem ggX5_subtract_X5_lowest : GoodIn wsX5_subtract wsX5_lowest := goodIn_r _ [37, 10, 38, 39, 40, 4, 41, 12, 13, 18, 19, 20, 21, 42, 43, 44, 45, 46, 30, 31, 32, 33, 47, 48, 49, 50, 51, 52, 53, 54, 26, 27, 28, 29, 22, 23, 24, 25, 11, 14, 15, 16, 17, 55, 56, 57, 58, 59, 60, 61, 62, 63, 64, 65, 66, 67, 68, 69, 70, 71, 72, 73, 74, 75, 76, 77, 78, 79] (by decide +kernel) (by decide +kernel)
set_option maxRecDepth 20000 in
theorem gX5_subtract_X5_lowest : GoodIn wsX5_subtract (wsV RX5 89 RX5 yX5_lowest wsX5_lowest) := goodIn_app (goodIn_of _ (by decide +kernel)) ggX5_subtract_X5_lowest
theorem dX5_subtract_0 : decode cX5_subtract 0 = .ok (.aload_n 0, 1) := by decide +kernel
theorem dX5_subtract_1 : decode cX5_subtract 1 = .ok (.iload_n 2, 1) := by decide +kernel
theorem dX5_subtract_2 : decode cX5_subtract 2 = .ok (.iload_n 3, 1) := by decide +kernel
theorem dX5_subtract_3 : decode cX5_subtract 3 = .ok (.invokevirtual 95, 3) := by decide +kernel
theorem dX5_subtract_6 : decode cX5_subtract 6 = .ok (.aload_n 0, 1) := by decide +kernel
theorem dX5_subtract_7 : decode cX5_subtract 7 = .ok (.bipush 17, 2) := by decide +kernel
theorem dX5_subtract_9 : decode cX5_subtract 9 = .ok (.bipush 14, 2) := by decide +kernel
theorem dX5_subtract_11 : decode cX5_subtract 11 = .ok (.bipush 16, 2) := by decide +kernel
theorem dX5_subtract_13 : decode cX5_subtract 13 = .ok (.invokevirtual 75, 3) := by decide +kernel
theorem dX5_subtract_16 : decode cX5_subtract 16 = .ok (.aload_n 0, 1) := by decide +kernel
theorem dX5_subtract_17 : decode cX5_subtract 17 = .ok (.bipush 14, 2) := by decide +kernel
theorem dX5_subtract_19 : decode cX5_subtract 19 = .ok (.bipush 17, 2) := by decide +kernel
theorem dX5_subtract_21 : decode cX5_subtract 21 = .ok (.invokevirtual 62, 3) := by decide +kernel
theorem dX5_subtract_24 : decode cX5_subtract 24 = .ok (.aload_n 0, 1) := by decide +kernel
theorem dX5_subtract_25 : decode cX5_subtract 25 = .ok (.iload_n 1, 1) := by decide +kernel
theorem dX5_subtract_26 : decode cX5_subtract 26 = .ok (.bipush 14, 2) := by decide +kernel
theorem dX5_subtract_28 : decode cX5_subtract 28 = .ok (.bipush 15, 2) := by decide +kernel
theorem dX5_subtract_30 : decode cX5_subtract 30 = .ok (.invokevirtual 89, 3) := by decide +kernel
theorem dX5_subtract_33 : decode cX5_subtract 33 = .ok (.return_, 1) := by decide +kernel
set_option maxRecDepth 20000 in
theorem ggX5_isMore_X5_cross : GoodIn wsX5_isMore wsX5_cross := goodIn_r _ [5, 6, 7, 8, 4, 9, 10, 11, 12, 13, 14, 15, 16, 17, 18, 19, 20, 21, 30, 31, 32, 33, 34, 35, 36, 37, 38, 39, 40, 41, 42, 43, 44, 45] (by decide +kernel) (by decide +kernel)
set_option maxRecDepth 20000 in
theorem gX5_isMore_X5_cross : GoodIn wsX5_isMore (wsV RX5 95 RX5 yX5_cross wsX5_cross) := goodIn_app (goodIn_of _ (by decide +kernel)) ggX5_isMore_X5_cross
set_option maxRecDepth 20000 in
theorem ggX5_isMore_X5_compare : GoodIn wsX5_isMore wsX5_compare := goodIn_r _ [25, 10, 26, 27, 28, 4, 29, 12, 30, 31, 32, 33, 34, 35, 36, 37, 38, 39, 40, 41, 42, 43, 44, 45] (by decide +kernel) (by decide +kernel)
set_option maxRecDepth 20000 in
theorem gX5_isMore_X5_compare : GoodIn wsX5_isMore (wsV RX5 71 RX5 yX5_compare wsX5_compare) := goodIn_app (goodIn_of _ (by decide +kernel)) ggX5_isMore_X5_compare
theorem dX5_isMore_0 : decode cX5_isMore 0 = .ok (.aload_n 0, 1) := by decide +kernel
theorem dX5_isMore_1 : decode cX5_isMore 1 = .ok (.iload_n 1, 1) := by decide +kernel
theorem dX5_isMore_2 : decode cX5_isMore 2 = .ok (.iload_n 2, 1) := by decide +kernel
theorem dX5_isMore_3 : decode cX5_isMore 3 = .ok (.invokevirtual 95, 3) := by decide +kernel
theorem dX5_isMore_6 : decode cX5_isMore 6 = .ok (.aload_n 0, 1) := by decide +kernel
theorem dX5_isMore_7 : decode cX5_isMore 7 = .ok (.bipush 14, 2) := by decide +kernel
theorem dX5_isMore_9 : decode cX5_isMore 9 = .ok (.bipush 16, 2) := by decide +kernel
theorem dX5_isMore_11 : decode cX5_isMore 11 = .ok (.invokevirtual 71, 3) := by decide +kernel
theorem dX5_isMore_14 : decode cX5_isMore 14 = .ok (.ifCond .le 7, 3) := by decide +kernel
theorem dX5_isMore_17 : decode cX5_isMore 17 = .ok (.iconst 1, 1) := by decide +kernel
theorem dX5_isMore_18 : decode cX5_isMore 18 = .ok (.goto 4, 3) := by decide +kernel
theorem dX5_isMore_21 : decode cX5_isMore 21 = .ok (.iconst 0, 1) := by decide +kernel
theorem dX5_isMore_22 : decode cX5_isMore 22 = .ok (.ireturn, 1) := by decide +kernel
theorem dX5_add_0 : decode cX5_add 0 = .ok (.aload_n 0, 1) := by decide +kernel
theorem dX5_add_1 : decode cX5_add 1 = .ok (.iconst 0, 1) := by decide +kernel
theorem dX5_add_2 : decode cX5_add 2 = .ok (.putfield 46, 3) := by decide +kernel
theorem dX5_add_5 : decode cX5_add 5 = .ok (.aload_n 0, 1) := by decide +kernel
theorem dX5_add_6 : decode cX5_add 6 = .ok (.getfield 98, 3) := by decide +kernel
theorem dX5_add_9 : decode cX5_add 9 = .ok (.bipush 60, 2) := by decide +kernel
theorem dX5_add_11 : decode cX5_add 11 = .ok (.if_icmp .ne 5, 3) := by decide +kernel
theorem dX5_add_14 : decode cX5_add 14 = .ok (.iconst (-1), 1) := by decide +kernel
theorem dX5_add_15 : decode cX5_add 15 = .ok (.ireturn, 1) := by decide +kernel
theorem dX5_add_16 : decode cX5_add 16 = .ok (.aload_n 0, 1) := by decide +kernel
theorem dX5_add_17 : decode cX5_add 17 = .ok (.getfield 7, 3) := by decide +kernel
theorem dX5_add_20 : decode cX5_add 20 = .ok (.aload_n 0, 1) := by decide +kernel
theorem dX5_add_21 : decode cX5_add 21 = .ok (.getfield 98, 3) := by decide +kernel
theorem dX5_add_24 : decode cX5_add 24 = .ok (.iload_n 1, 1) := by decide +kernel
theorem dX5_add_25 : decode cX5_add 25 = .ok (.iastore, 1) := by decide +kernel
theorem dX5_add_26 : decode cX5_add 26 = .ok (.aload_n 0, 1) := by decide +kernel
theorem dX5_add_27 : decode cX5_add 27 = .ok (.dup, 1) := by decide +kernel
theorem dX5_add_28 : decode cX5_add 28 = .ok (.getfield 98, 3) := by decide +kernel
theorem dX5_add_31 : decode cX5_add 31 = .ok (.iconst 1, 1) := by decide +kernel
theorem dX5_add_32 : decode cX5_add 32 = .ok (.iadd, 1) := by decide +kernel
theorem dX5_add_33 : decode cX5_add 33 = .ok (.putfield 98, 3) := by decide +kernel
theorem dX5_add_36 : decode cX5_add 36 = .ok (.aload_n 0, 1) := by decide +kernel
theorem dX5_add_37 : decode cX5_add 37 = .ok (.getfield 98, 3) := by decide +kernel
theorem dX5_add_40 : decode cX5_add 40 = .ok (.iconst 1, 1) := by decide +kernel
theorem dX5_add_41 : decode cX5_add 41 = .ok (.isub, 1) := by decide +kernel
theorem dX5_add_42 : decode cX5_add 42 = .ok (.ireturn, 1) := by decide +kernel
theorem dX5_remove_0 : decode cX5_remove 0 = .ok (.aload_n 0, 1) := by decide +kernel
theorem dX5_remove_1 : decode cX5_remove 1 = .ok (.iload_n 1, 1) := by decide +kernel
theorem dX5_remove_2 : decode cX5_remove 2 = .ok (.ifCond .lt 11, 3) := by decide +kernel
theorem dX5_remove_5 : decode cX5_remove 5 = .ok (.iload_n 1, 1) := by decide +kernel
theorem dX5_remove_6 : decode cX5_remove 6 = .ok (.aload_n 0, 1) := by decide +kernel
theorem dX5_remove_7 : decode cX5_remove 7 = .ok (.getfield 98, 3) := by decide +kernel
theorem dX5_remove_10 : decode cX5_remove 10 = .ok (.if_icmp .lt 7, 3) := by decide +kernel
theorem dX5_remove_13 : decode cX5_remove 13 = .ok (.iconst 1, 1) := by decide +kernel
theorem dX5_remove_14 : decode cX5_remove 14 = .ok (.goto 4, 3) := by decide +kernel
theorem dX5_remove_17 : decode cX5_remove 17 = .ok (.iconst 0, 1) := by decide +kernel
theorem dX5_remove_18 : decode cX5_remove 18 = .ok (.putfield 46, 3) := by decide +kernel
theorem dX5_remove_21 : decode cX5_remove 21 = .ok (.aload_n 0, 1) := by decide +kernel
theorem dX5_remove_22 : decode cX5_remove 22 = .ok (.getfield 46, 3) := by decide +kernel
theorem dX5_remove_25 : decode cX5_remove 25 = .ok (.ifCond .le 5, 3) := by decide +kernel
theorem dX5_remove_28 : decode cX5_remove 28 = .ok (.iconst 0, 1) := by decide +kernel
theorem dX5_remove_29 : decode cX5_remove 29 = .ok (.ireturn, 1) := by decide +kernel
theorem dX5_remove_30 : decode cX5_remove 30 = .ok (.aload_n 0, 1) := by decide +kernel
theorem dX5_remove_31 : decode cX5_remove 31 = .ok (.getfield 7, 3) := by decide +kernel
theorem dX5_remove_34 : decode cX5_remove 34 = .ok (.iload_n 1, 1) := by decide +kernel
theorem dX5_remove_35 : decode cX5_remove 35 = .ok (.iaload, 1) := by decide +kernel
theorem dX5_remove_36 : decode cX5_remove 36 = .ok (.istore_n 2, 1) := by decide +kernel
theorem dX5_remove_37 : decode cX5_remove 37 = .ok (.aload_n 0, 1) := by decide +kernel
theorem dX5_remove_38 : decode cX5_remove 38 = .ok (.dup, 1) := by decide +kernel
theorem dX5_remove_39 : decode cX5_remove 39 = .ok (.getfield 98, 3) := by decide +kernel
theorem dX5_remove_42 : decode cX5_remove 42 = .ok (.iconst 1, 1) := by decide +kernel
theorem dX5_remove_43 : decode cX5_remove 43 = .ok (.isub, 1) := by decide +kernel
theorem dX5_remove_44 : decode cX5_remove 44 = .ok (.putfield 98, 3) := by decide +kernel
theorem dX5_remove_47 : decode cX5_remove 47 = .ok (.iload_n 1, 1) := by decide +kernel
theorem dX5_remove_48 : decode cX5_remove 48 = .ok (.istore_n 3, 1) := by decide +kernel
theorem dX5_remove_49 : decode cX5_remove 49 = .ok (.iload_n 3, 1) := by decide +kernel
theorem dX5_remove_50 : decode cX5_remove 50 = .ok (.aload_n 0, 1) := by decide +kernel
theorem dX5_remove_51 : decode cX5_remove 51 = .ok (.getfield 98, 3) := by decide +kernel
theorem dX5_remove_54 : decode cX5_remove 54 = .ok (.if_icmp .ge 23, 3) := by decide +kernel
theorem dX5_remove_57 : decode cX5_remove 57 = .ok (.aload_n 0, 1) := by decide +kernel
theorem dX5_remove_58 : decode cX5_remove 58 = .ok (.getfield 7, 3) := by decide +kernel
theorem dX5_remove_61 : decode cX5_remove 61 = .ok (.iload_n 3, 1) := by decide +kernel
theorem dX5_remove_62 : decode cX5_remove 62 = .ok (.aload_n 0, 1) := by decide +kernel
theorem dX5_remove_63 : decode cX5_remove 63 = .ok (.getfield 7, 3) := by decide +kernel
theorem dX5_remove_66 : decode cX5_remove 66 = .ok (.iload_n 3, 1) := by decide +kernel
theorem dX5_remove_67 : decode cX5_remove 67 = .ok (.iconst 1, 1) := by decide +kernel
theorem dX5_remove_68 : decode cX5_remove 68 = .ok (.iadd, 1) := by decide +kernel
theorem dX5_remove_69 : decode cX5_remove 69 = .ok (.iaload, 1) := by decide +kernel
theorem dX5_remove_70 : decode cX5_remove 70 = .ok (.iastore, 1) := by decide +kernel
theorem dX5_remove_71 : decode cX5_remove 71 = .ok (.iinc 3 1, 3) := by decide +kernel
theorem dX5_remove_74 : decode cX5_remove 74 = .ok (.goto (-25), 3) := by decide +kernel
theorem dX5_remove_77 : decode cX5_remove 77 = .ok (.iload_n 2, 1) := by decide +kernel
theorem dX5_remove_78 : decode cX5_remove 78 = .ok (.ireturn, 1) := by decide +kernel
theorem dX5_countRows_0 : decode cX5_countRows 0 = .ok (.iconst 0, 1) := by decide +kernel
theorem dX5_countRows_1 : decode cX5_countRows 1 = .ok (.istore_n 3, 1) := by decide +kernel
theorem dX5_countRows_2 : decode cX5_countRows 2 = .ok (.iconst 0, 1) := by decide +kernel
theorem dX5_countRows_3 : decode cX5_countRows 3 = .ok (.istore 4, 2) := by decide +kernel
theorem dX5_countRows_5 : decode cX5_countRows 5 = .ok (.iload 4, 2) := by decide +kernel
theorem dX5_countRows_7 : decode cX5_countRows 7 = .ok (.aload_n 0, 1) := by decide +kernel
theorem dX5_countRows_8 : decode cX5_countRows 8 = .ok (.getfield 98, 3) := by decide +kernel
theorem dX5_countRows_11 : decode cX5_countRows 11 = .ok (.if_icmp .ge 39, 3) := by decide +kernel
theorem dX5_countRows_14 : decode cX5_countRows 14 = .ok (.iload_n 3, 1) := by decide +kernel
theorem dX5_countRows_15 : decode cX5_countRows 15 = .ok (.aload_n 0, 1) := by decide +kernel
theorem dX5_countRows_16 : decode cX5_countRows 16 = .ok (.getfield 7, 3) := by decide +kernel
theorem dX5_countRows_19 : decode cX5_countRows 19 = .ok (.iload 4, 2) := by decide +kernel
theorem dX5_countRows_21 : decode cX5_countRows 21 = .ok (.iaload, 1) := by decide +kernel
theorem dX5_countRows_22 : decode cX5_countRows 22 = .ok (.iload_n 1, 1) := by decide +kernel
theorem dX5_countRows_23 : decode cX5_countRows 23 = .ok (.if_icmp .lt 18, 3) := by decide +kernel
theorem dX5_countRows_26 : decode cX5_countRows 26 = .ok (.aload_n 0, 1) := by decide +kernel
theorem dX5_countRows_27 : decode cX5_countRows 27 = .ok (.getfield 7, 3) := by decide +kernel
theorem dX5_countRows_30 : decode cX5_countRows 30 = .ok (.iload 4, 2) := by decide +kernel
theorem dX5_countRows_32 : decode cX5_countRows 32 = .ok (.iaload, 1) := by decide +kernel
theorem dX5_countRows_33 : decode cX5_countRows 33 = .ok (.iload_n 2, 1) := by decide +kernel
theorem dX5_countRows_34 : decode cX5_countRows 34 = .ok (.if_icmp .gt 7, 3) := by decide +kernel
theorem dX5_countRows_37 : decode cX5_countRows 37 = .ok (.iconst 1, 1) := by decide +kernel
theorem dX5_countRows_38 : decode cX5_countRows 38 = .ok (.goto 4, 3) := by decide +kernel
theorem dX5_countRows_41 : decode cX5_countRows 41 = .ok (.iconst 0, 1) := by decide +kernel
theorem dX5_countRows_42 : decode cX5_countRows 42 = .ok (.iadd, 1) := by decide +kernel
theorem dX5_countRows_43 : decode cX5_countRows 43 = .ok (.istore_n 3, 1) := by decide +kernel
theorem dX5_countRows_44 : decode cX5_countRows 44 = .ok (.iinc 4 1, 3) := by decide +kernel
theorem dX5_countRows_47 : decode cX5_countRows 47 = .ok (.goto (-42), 3) := by decide +kernel
theorem dX5_countRows_50 : decode cX5_countRows 50 = .ok (.iload_n 3, 1) := by decide +kernel
theorem dX5_countRows_51 : decode cX5_countRows 51 = .ok (.ireturn, 1) := by decide +kernel
set_option maxRecDepth 20000 in
theorem ggX5_count_X5_countRows : GoodIn wsX5_count wsX5_countRows := goodIn_r _ [6, 7, 8, 9, 10, 11, 12, 13, 14, 15, 16, 17, 18, 19, 20, 21, 22, 23, 24] (by decide +kernel) (by decide +kernel)
set_option maxRecDepth 20000 in
theorem gX5_count_X5_countRows : GoodIn wsX5_count (wsV RX5 101 RX5 yX5_countRows wsX5_countRows) := goodIn_app (goodIn_of _ (by decide +kernel)) ggX5_count_X5_countRows
theorem dX5_count_0 : decode cX5_count 0 = .ok (.aload_n 0, 1) := by decide +kernel
theorem dX5_count_1 : decode cX5_count 1 = .ok (.iconst 0, 1) := by decide +kernel
theorem dX5_count_2 : decode cX5_count 2 = .ok (.putfield 46, 3) := by decide +kernel
theorem dX5_count_5 : decode cX5_count 5 = .ok (.aload_n 0, 1) := by decide +kernel
theorem dX5_count_6 : decode cX5_count 6 = .ok (.iload_n 1, 1) := by decide +kernel
theorem dX5_count_7 : decode cX5_count 7 = .ok (.iload_n 2, 1) := by decide +kernel
theorem dX5_count_8 : decode cX5_count 8 = .ok (.invokevirtual 101, 3) := by decide +kernel
theorem dX5_count_11 : decode cX5_count 11 = .ok (.ireturn, 1) := by decide +kernel
theorem dX5_power_0 : decode cX5_power 0 = .ok (.lconst 1, 1) := by decide +kernel
theorem dX5_power_1 : decode cX5_power 1 = .ok (.lstore_n 3, 1) := by decide +kernel
theorem dX5_power_2 : decode cX5_power 2 = .ok (.iconst 0, 1) := by decide +kernel
theorem dX5_power_3 : decode cX5_power 3 = .ok (.istore 5, 2) := by decide +kernel
theorem dX5_power_5 : decode cX5_power 5 = .ok (.iload 5, 2) := by decide +kernel
theorem dX5_power_7 : decode cX5_power 7 = .ok (.iload_n 2, 1) := by decide +kernel
theorem dX5_power_8 : decode cX5_power 8 = .ok (.if_icmp .ge 13, 3) := by decide +kernel
theorem dX5_power_11 : decode cX5_power 11 = .ok (.lload_n 3, 1) := by decide +kernel
theorem dX5_power_12 : decode cX5_power 12 = .ok (.lload_n 0, 1) := by decide +kernel
theorem dX5_power_13 : decode cX5_power 13 = .ok (.lmul, 1) := by decide +kernel
theorem dX5_power_14 : decode cX5_power 14 = .ok (.lstore_n 3, 1) := by decide +kernel
theorem dX5_power_15 : decode cX5_power 15 = .ok (.iinc 5 1, 3) := by decide +kernel
theorem dX5_power_18 : decode cX5_power 18 = .ok (.goto (-13), 3) := by decide +kernel
theorem dX5_power_21 : decode cX5_power 21 = .ok (.lload_n 3, 1) := by decide +kernel
theorem dX5_power_22 : decode cX5_power 22 = .ok (.lreturn, 1) := by decide +kernel
set_option maxRecDepth 20000 in
theorem ggX5_allOf_X5_power : GoodIn wsX5_allOf wsX5_power := goodIn_r _ [8] (by decide +kernel) (by decide +kernel)
set_option maxRecDepth 20000 in
theorem gX5_allOf_X5_power : GoodIn wsX5_allOf (va_wsS RX5 107 yX5_power wsX5_power) := goodIn_app (goodIn_of _ (by decide +kernel)) ggX5_allOf_X5_power
