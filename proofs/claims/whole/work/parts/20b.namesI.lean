set_option maxRecDepth 20000 in
theorem ggL_law_X5_ask_c : GoodIn wsL_law [Cond.code yX5_ask cX5_ask 8 (some .int)] := goodIn_r _ [467] (by decide +kernel) (by decide +kernel)
set_option maxRecDepth 20000 in
theorem ggL_law_X5_ask_r1 : GoodIn wsL_law wsX5_ask_r1 := goodIn_r _ [109, 294, 468, 295, 293, 161, 85, 417, 418, 5, 419, 234, 235, 236, 237, 162, 163, 164, 165, 83, 84, 166, 167, 168] (by decide +kernel) (by decide +kernel)
set_option maxRecDepth 20000 in
theorem ggL_law_X5_ask_r2 : GoodIn wsL_law wsX5_ask_r2 := goodIn_r _ [420, 421, 422, 423, 90, 91, 424, 425, 426, 427, 428, 429, 430, 299, 300, 301, 302, 92, 93, 94, 95, 86, 96, 97] (by decide +kernel) (by decide +kernel)
set_option maxRecDepth 20000 in
theorem ggL_law_X5_ask_r3 : GoodIn wsL_law wsX5_ask_r3 := goodIn_r _ [98, 99, 100, 87, 303, 304, 305, 306, 307, 308, 309, 310, 311, 312, 313, 314, 315, 316, 317, 318, 319, 320, 321, 322] (by decide +kernel) (by decide +kernel)
set_option maxRecDepth 20000 in
theorem ggL_law_X5_ask_r4 : GoodIn wsL_law wsX5_ask_r4 := goodIn_r _ [323, 324, 325, 326, 327, 328, 329, 330, 331, 88, 332, 333, 334, 335, 336, 337, 338, 339, 340, 341, 342, 343, 89, 379] (by decide +kernel) (by decide +kernel)
set_option maxRecDepth 20000 in
theorem ggL_law_X5_ask_r5 : GoodIn wsL_law wsX5_ask_r5 := goodIn_r _ [380, 381, 382, 383, 384, 385, 386, 387, 388, 389, 390, 469, 470, 471, 472, 138, 139, 140, 141, 110, 82, 238, 239, 240] (by decide +kernel) (by decide +kernel)
set_option maxRecDepth 20000 in
theorem ggL_law_X5_ask_r6 : GoodIn wsL_law wsX5_ask_r6 := goodIn_r _ [241, 193, 194, 195, 196, 197, 198, 199, 200] (by decide +kernel) (by decide +kernel)
set_option maxRecDepth 20000 in
theorem ggL_law_X5_ask_x : GoodIn wsL_law wsX50 := goodIn_r _ [517, 518, 519, 520, 521, 522, 523, 524, 525, 526, 527, 528, 529, 530, 531, 532] (by decide +kernel) (by decide +kernel)
theorem ggL_law_X5_ask : GoodIn wsL_law wsX5_ask := goodIn_app (a := [_]) ggL_law_X5_ask_c (goodIn_app (goodIn_app ggL_law_X5_ask_r1 (goodIn_app ggL_law_X5_ask_r2 (goodIn_app ggL_law_X5_ask_r3 (goodIn_app ggL_law_X5_ask_r4 (goodIn_app ggL_law_X5_ask_r5 (ggL_law_X5_ask_r6)))))) ggL_law_X5_ask_x)
set_option maxRecDepth 20000 in
theorem gL_law_X5_ask : GoodIn wsL_law (wsV RL 120 RX5 yX5_ask wsX5_ask) := goodIn_app (goodIn_of _ (by decide +kernel)) ggL_law_X5_ask
set_option maxRecDepth 20000 in
theorem ggL_law_L_limb : GoodIn wsL_law wsL_limb := goodIn_ca (goodIn_r _ [475, 115, 476, 477, 478, 2, 479, 120, 121, 28, 29, 30, 480, 481, 482, 483, 286, 287, 55, 288, 62, 61, 507, 508, 509, 510, 511, 512, 513, 514, 515, 516, 540, 541, 542, 543] (by decide +kernel) (by decide +kernel)) (goodIn_sub (fun _ h => List.mem_append_left _ (List.mem_append_right _ h)) (by decide +kernel))
set_option maxRecDepth 20000 in
theorem gL_law_L_limb : GoodIn wsL_law (va_wsS RL 121 yL_limb wsL_limb) := goodIn_app (goodIn_of _ (by decide +kernel)) ggL_law_L_limb
set_option maxRecDepth 20000 in
theorem ggL_law_X5_limb : GoodIn wsL_law wsX5_limb := goodIn_r _ [487, 109, 87, 86, 488, 489, 490, 5, 491, 383, 384, 385, 386, 387, 388, 389, 390, 88, 96, 332, 333, 334, 335, 97, 98, 99, 100, 328, 329, 330, 331, 324, 325, 326, 327, 312, 313, 314, 315, 303, 304, 305, 306, 92, 93, 94, 95, 307, 308, 309, 310, 311, 316, 317, 318, 319, 320, 321, 322, 323, 336, 337, 338, 339, 340, 341, 342, 343, 89, 517, 518, 519, 520, 521, 522, 523, 524, 525, 526, 527, 528, 529, 530, 531, 532] (by decide +kernel) (by decide +kernel)
set_option maxRecDepth 20000 in
theorem gL_law_X5_limb : GoodIn wsL_law (wsV RL 124 RX5 yX5_limb wsX5_limb) := goodIn_app (goodIn_of _ (by decide +kernel)) ggL_law_X5_limb
set_option maxRecDepth 20000 in
theorem ggL_law_L_told : GoodIn wsL_law wsL_told := goodIn_ca (goodIn_r _ [494, 115, 495, 496, 497, 2, 498, 120, 121, 31, 32, 33, 16, 20, 499, 500, 501, 502, 507, 508, 509, 510, 511, 512, 513, 514, 515, 516, 533, 534, 535, 536, 537] (by decide +kernel) (by decide +kernel)) (goodIn_sub (fun _ h => List.mem_append_left _ (List.mem_append_right _ h)) (by decide +kernel))
set_option maxRecDepth 20000 in
theorem gL_law_L_told : GoodIn wsL_law (va_wsS RL 125 yL_told wsL_told) := goodIn_app (goodIn_of _ (by decide +kernel)) ggL_law_L_told
set_option maxRecDepth 20000 in
theorem ggL_law_X5_told : GoodIn wsL_law wsX5_told := goodIn_r _ [506, 109, 293, 294, 295, 110, 161, 85, 83, 84, 517, 518, 519, 520, 521, 522, 523, 524, 525, 526, 527, 528, 529, 530, 531, 532] (by decide +kernel) (by decide +kernel)
set_option maxRecDepth 20000 in
theorem gL_law_X5_told : GoodIn wsL_law (wsV RL 127 RX5 yX5_told wsX5_told) := goodIn_app (goodIn_of _ (by decide +kernel)) ggL_law_X5_told

