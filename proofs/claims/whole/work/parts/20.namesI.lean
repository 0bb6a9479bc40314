set_option maxRecDepth 20000 in
theorem ggL_law_X4_init : GoodIn wsL_law wsX4_init := goodIn_r _ [10, 11, 12, 13, 14, 15, 16, 17, 18, 19, 20, 21, 22, 23, 24, 25, 26, 27, 28, 29, 30, 31, 32, 33, 34, 35, 36, 37, 38, 39, 40, 41, 42, 43, 44, 45, 46, 47, 48, 49, 50, 51, 52, 53, 54, 55, 56, 57, 58, 59, 60, 61, 62, 63, 64, 65, 66, 67, 68, 69, 70, 71, 72, 73, 74, 75, 76, 77, 507, 508, 509, 510, 511, 512, 513, 514, 515, 516, 533, 534, 535, 536, 537, 538, 539, 540, 541, 542, 543] (by decide +kernel) (by decide +kernel)
set_option maxRecDepth 20000 in
theorem gL_law_X4_init : GoodIn wsL_law (wsX4_init) := ggL_law_X4_init
set_option maxRecDepth 20000 in
theorem ggL_law_X5_init : GoodIn wsL_law wsX5_init := goodIn_r _ [80, 81, 12, 13, 14, 82, 83, 84, 85, 6, 86, 87, 88, 89, 90, 91, 92, 93, 94, 5, 95, 96, 97, 98, 99, 100, 517, 518, 519, 520, 521, 522, 523, 524, 525, 526, 527, 528, 529, 530, 531, 532] (by decide +kernel) (by decide +kernel)
set_option maxRecDepth 20000 in
theorem gL_law_X5_init : GoodIn wsL_law (wsX5_init) := ggL_law_X5_init
set_option maxRecDepth 20000 in
theorem ggL_law_X4_add : GoodIn wsL_law wsX4_add := goodIn_r _ [104, 16, 15, 507, 508, 509, 510, 511, 512, 513, 514, 515, 516] (by decide +kernel) (by decide +kernel)
set_option maxRecDepth 20000 in
theorem gL_law_X4_add : GoodIn wsL_law (wsV RL 57 RX4 yX4_add wsX4_add) := goodIn_app (goodIn_of _ (by decide +kernel)) ggL_law_X4_add
set_option maxRecDepth 20000 in
theorem ggL_law_X5_add : GoodIn wsL_law wsX5_add := goodIn_r _ [108, 109, 110, 82, 517, 518, 519, 520, 521, 522, 523, 524, 525, 526, 527, 528, 529, 530, 531, 532] (by decide +kernel) (by decide +kernel)
set_option maxRecDepth 20000 in
theorem gL_law_X5_add : GoodIn wsL_law (wsV RL 60 RX5 yX5_add wsX5_add) := goodIn_app (goodIn_of _ (by decide +kernel)) ggL_law_X5_add
set_option maxRecDepth 20000 in
theorem ggL_law_L_remove : GoodIn wsL_law wsL_remove := goodIn_ca (goodIn_r _ [114, 115, 116, 117, 118, 2, 119, 120, 121, 16, 15, 507, 508, 509, 510, 511, 512, 513, 514, 515, 516] (by decide +kernel) (by decide +kernel)) (goodIn_sub (fun _ h => List.mem_append_left _ (List.mem_append_right _ h)) (by decide +kernel))
set_option maxRecDepth 20000 in
theorem gL_law_L_remove : GoodIn wsL_law (va_wsS RL 61 yL_remove wsL_remove) := goodIn_app (goodIn_of _ (by decide +kernel)) ggL_law_L_remove
set_option maxRecDepth 20000 in
theorem ggL_law_X5_remove : GoodIn wsL_law wsX5_remove := goodIn_r _ [125, 110, 109, 82, 517, 518, 519, 520, 521, 522, 523, 524, 525, 526, 527, 528, 529, 530, 531, 532] (by decide +kernel) (by decide +kernel)
set_option maxRecDepth 20000 in
theorem gL_law_X5_remove : GoodIn wsL_law (wsV RL 66 RX5 yX5_remove wsX5_remove) := goodIn_app (goodIn_of _ (by decide +kernel)) ggL_law_X5_remove
set_option maxRecDepth 20000 in
theorem ggL_law_X5_thrown : GoodIn wsL_law wsX5_thrown := goodIn_r _ [129, 109, 517, 518, 519, 520, 521, 522, 523, 524, 525, 526, 527, 528, 529, 530, 531, 532] (by decide +kernel) (by decide +kernel)
set_option maxRecDepth 20000 in
theorem gL_law_X5_thrown : GoodIn wsL_law (wsV RL 67 RX5 yX5_thrown wsX5_thrown) := goodIn_app (goodIn_of _ (by decide +kernel)) ggL_law_X5_thrown
set_option maxRecDepth 20000 in
theorem ggL_law_X4_count : GoodIn wsL_law wsX4_count := goodIn_r _ [133, 16, 15, 507, 508, 509, 510, 511, 512, 513, 514, 515, 516] (by decide +kernel) (by decide +kernel)
set_option maxRecDepth 20000 in
theorem gL_law_X4_count : GoodIn wsL_law (wsV RL 71 RX4 yX4_count wsX4_count) := goodIn_app (goodIn_of _ (by decide +kernel)) ggL_law_X4_count
set_option maxRecDepth 20000 in
theorem ggL_law_X5_count : GoodIn wsL_law wsX5_count := goodIn_r _ [137, 109, 138, 139, 140, 5, 141, 110, 82, 517, 518, 519, 520, 521, 522, 523, 524, 525, 526, 527, 528, 529, 530, 531, 532] (by decide +kernel) (by decide +kernel)
set_option maxRecDepth 20000 in
theorem gL_law_X5_count : GoodIn wsL_law (wsV RL 75 RX5 yX5_count wsX5_count) := goodIn_app (goodIn_of _ (by decide +kernel)) ggL_law_X5_count
set_option maxRecDepth 20000 in
theorem ggL_law_L_table : GoodIn wsL_law wsL_table := goodIn_ca (goodIn_r _ [144, 145, 146, 147, 148, 2, 149, 150, 151, 20, 152, 153, 154, 19, 155, 156, 39, 40, 41, 42, 43, 44, 45, 46, 47, 48, 49, 507, 508, 509, 510, 511, 512, 513, 514, 515, 516, 533, 534, 535, 536, 537] (by decide +kernel) (by decide +kernel)) (goodIn_sub (fun _ h => List.mem_append_right _ h) (by decide +kernel))
set_option maxRecDepth 20000 in
theorem gL_law_L_table : GoodIn wsL_law (va_wsS RL 76 yL_table wsL_table) := goodIn_app (goodIn_of _ (by decide +kernel)) ggL_law_L_table
set_option maxRecDepth 20000 in
theorem ggL_law_X5_table : GoodIn wsL_law wsX5_table := goodIn_r _ [160, 109, 83, 84, 161, 85, 162, 163, 164, 5, 165, 166, 167, 168, 517, 518, 519, 520, 521, 522, 523, 524, 525, 526, 527, 528, 529, 530, 531, 532] (by decide +kernel) (by decide +kernel)
set_option maxRecDepth 20000 in
theorem gL_law_X5_table : GoodIn wsL_law (wsV RL 79 RX5 yX5_table wsX5_table) := goodIn_app (goodIn_of _ (by decide +kernel)) ggL_law_X5_table
set_option maxRecDepth 20000 in
theorem ggL_law_X4_all : GoodIn wsL_law wsX4_all := goodIn_r _ [172, 20, 152, 507, 508, 509, 510, 511, 512, 513, 514, 515, 516, 533, 534, 535, 536, 537] (by decide +kernel) (by decide +kernel)
set_option maxRecDepth 20000 in
theorem gL_law_X4_all : GoodIn wsL_law (wsV RL 80 RX4 yX4_all wsX4_all) := goodIn_app (goodIn_of _ (by decide +kernel)) ggL_law_X4_all
set_option maxRecDepth 20000 in
theorem ggL_law_X5_all : GoodIn wsL_law wsX5_all := goodIn_r _ [176, 109, 162, 163, 164, 5, 165, 83, 84, 85, 161, 166, 167, 168, 517, 518, 519, 520, 521, 522, 523, 524, 525, 526, 527, 528, 529, 530, 531, 532] (by decide +kernel) (by decide +kernel)
set_option maxRecDepth 20000 in
theorem gL_law_X5_all : GoodIn wsL_law (wsV RL 84 RX5 yX5_all wsX5_all) := goodIn_app (goodIn_of _ (by decide +kernel)) ggL_law_X5_all
set_option maxRecDepth 20000 in
theorem ggL_law_X4_weight : GoodIn wsL_law wsX4_weight := goodIn_r _ [180, 20, 181, 182, 183, 19, 184, 44, 45, 46, 43, 42, 185, 186, 187, 188, 47, 48, 49, 507, 508, 509, 510, 511, 512, 513, 514, 515, 516, 533, 534, 535, 536, 537] (by decide +kernel) (by decide +kernel)
set_option maxRecDepth 20000 in
theorem gL_law_X4_weight : GoodIn wsL_law (wsV RL 85 RX4 yX4_weight wsX4_weight) := goodIn_app (goodIn_of _ (by decide +kernel)) ggL_law_X4_weight
set_option maxRecDepth 20000 in
theorem ggL_law_X5_weight : GoodIn wsL_law wsX5_weight := goodIn_r _ [192, 109, 193, 194, 195, 5, 196, 161, 85, 84, 83, 197, 198, 199, 200, 162, 163, 164, 165, 166, 167, 168, 517, 518, 519, 520, 521, 522, 523, 524, 525, 526, 527, 528, 529, 530, 531, 532] (by decide +kernel) (by decide +kernel)
set_option maxRecDepth 20000 in
theorem gL_law_X5_weight : GoodIn wsL_law (wsV RL 89 RX5 yX5_weight wsX5_weight) := goodIn_app (goodIn_of _ (by decide +kernel)) ggL_law_X5_weight
set_option maxRecDepth 20000 in
theorem ggL_law_X4_upTo : GoodIn wsL_law wsX4_upTo := goodIn_r _ [204, 20, 205, 206, 207, 19, 208, 44, 45, 209, 182, 183, 184, 46, 43, 42, 185, 186, 187, 188, 47, 48, 49, 507, 508, 509, 510, 511, 512, 513, 514, 515, 516, 533, 534, 535, 536, 537] (by decide +kernel) (by decide +kernel)
set_option maxRecDepth 20000 in
theorem gL_law_X4_upTo : GoodIn wsL_law (wsV RL 90 RX4 yX4_upTo wsX4_upTo) := goodIn_app (goodIn_of _ (by decide +kernel)) ggL_law_X4_upTo
set_option maxRecDepth 20000 in
theorem ggL_law_X5_upTo : GoodIn wsL_law wsX5_upTo := goodIn_r _ [213, 109, 161, 85, 193, 194, 195, 5, 196, 84, 83, 197, 198, 199, 200, 162, 163, 164, 165, 166, 167, 168, 517, 518, 519, 520, 521, 522, 523, 524, 525, 526, 527, 528, 529, 530, 531, 532] (by decide +kernel) (by decide +kernel)
set_option maxRecDepth 20000 in
theorem gL_law_X5_upTo : GoodIn wsL_law (wsV RL 93 RX5 yX5_upTo wsX5_upTo) := goodIn_app (goodIn_of _ (by decide +kernel)) ggL_law_X5_upTo
set_option maxRecDepth 20000 in
theorem ggL_law_L_draw : GoodIn wsL_law wsL_draw := goodIn_ca (goodIn_r _ [216, 145, 217, 218, 219, 2, 220, 150, 151, 20, 221, 186, 187, 19, 188, 44, 45, 222, 223, 224, 225, 46, 226, 227, 228, 229, 209, 182, 183, 184, 43, 42, 185, 47, 48, 49, 507, 508, 509, 510, 511, 512, 513, 514, 515, 516, 533, 534, 535, 536, 537] (by decide +kernel) (by decide +kernel)) (goodIn_sub (fun _ h => List.mem_append_right _ h) (by decide +kernel))
set_option maxRecDepth 20000 in
theorem gL_law_L_draw : GoodIn wsL_law (va_wsS RL 96 yL_draw wsL_draw) := goodIn_app (goodIn_of _ (by decide +kernel)) ggL_law_L_draw
set_option maxRecDepth 20000 in
theorem ggL_law_X5_draw : GoodIn wsL_law wsX5_draw := goodIn_r _ [233, 109, 197, 198, 199, 5, 200, 161, 85, 234, 235, 236, 237, 162, 163, 164, 165, 83, 84, 166, 167, 168, 238, 239, 240, 241, 193, 194, 195, 196, 517, 518, 519, 520, 521, 522, 523, 524, 525, 526, 527, 528, 529, 530, 531, 532] (by decide +kernel) (by decide +kernel)
set_option maxRecDepth 20000 in
theorem gL_law_X5_draw : GoodIn wsL_law (wsV RL 99 RX5 yX5_draw wsX5_draw) := goodIn_app (goodIn_of _ (by decide +kernel)) ggL_law_X5_draw
set_option maxRecDepth 20000 in
theorem ggL_law_L_isNear : GoodIn wsL_law wsL_isNear := goodIn_ca (goodIn_r _ [244, 145, 245, 246, 247, 2, 248, 150, 151, 20, 221, 186, 187, 19, 188, 44, 45, 249, 250, 251, 252, 42, 43, 209, 182, 183, 184, 46, 185, 47, 48, 49, 507, 508, 509, 510, 511, 512, 513, 514, 515, 516, 533, 534, 535, 536, 537] (by decide +kernel) (by decide +kernel)) (goodIn_sub (fun _ h => List.mem_append_right _ h) (by decide +kernel))
set_option maxRecDepth 20000 in
theorem gL_law_L_isNear : GoodIn wsL_law (va_wsS RL 100 yL_isNear wsL_isNear) := goodIn_app (goodIn_of _ (by decide +kernel)) ggL_law_L_isNear
set_option maxRecDepth 20000 in
theorem ggL_law_X5_isNear : GoodIn wsL_law wsX5_isNear := goodIn_r _ [256, 109, 161, 85, 83, 84, 197, 198, 199, 5, 200, 193, 194, 195, 196, 162, 163, 164, 165, 166, 167, 168, 517, 518, 519, 520, 521, 522, 523, 524, 525, 526, 527, 528, 529, 530, 531, 532] (by decide +kernel) (by decide +kernel)
set_option maxRecDepth 20000 in
theorem gL_law_X5_isNear : GoodIn wsL_law (wsV RL 103 RX5 yX5_isNear wsX5_isNear) := goodIn_app (goodIn_of _ (by decide +kernel)) ggL_law_X5_isNear
set_option maxRecDepth 20000 in
theorem ggL_law_L_budget : GoodIn wsL_law wsL_budget := goodIn_ca (goodIn_r _ [259, 145, 260, 261, 262, 2, 263, 150, 151, 28, 29, 30, 31, 32, 33, 264, 265, 266, 267, 268, 269, 270, 271, 272, 27, 273, 68, 69, 274, 275, 276, 70, 71, 72, 55, 73, 62, 74, 75, 76, 77, 61, 277, 278, 279, 280, 281, 282, 283, 284, 285, 286, 287, 288, 507, 508, 509, 510, 511, 512, 513, 514, 515, 516, 540, 541, 542, 543] (by decide +kernel) (by decide +kernel)) (goodIn_sub (fun _ h => List.mem_append_right _ h) (by decide +kernel))
set_option maxRecDepth 20000 in
theorem gL_law_L_budget : GoodIn wsL_law (va_wsS RL 104 yL_budget wsL_budget) := goodIn_app (goodIn_of _ (by decide +kernel)) ggL_law_L_budget
set_option maxRecDepth 20000 in
theorem ggL_law_X5_budget : GoodIn wsL_law wsX5_budget := goodIn_r _ [292, 109, 293, 294, 295, 296, 297, 5, 298, 299, 300, 301, 302, 92, 93, 94, 95, 86, 96, 97, 98, 99, 100, 87, 303, 304, 305, 306, 307, 308, 309, 310, 311, 312, 313, 314, 315, 316, 317, 318, 319, 320, 321, 322, 323, 324, 325, 326, 327, 328, 329, 330, 331, 88, 332, 333, 334, 335, 336, 337, 338, 339, 340, 341, 342, 343, 89, 517, 518, 519, 520, 521, 522, 523, 524, 525, 526, 527, 528, 529, 530, 531, 532] (by decide +kernel) (by decide +kernel)
set_option maxRecDepth 20000 in
theorem gL_law_X5_budget : GoodIn wsL_law (wsV RL 107 RX5 yX5_budget wsX5_budget) := goodIn_app (goodIn_of _ (by decide +kernel)) ggL_law_X5_budget
set_option maxRecDepth 20000 in
theorem ggL_law_L_raise : GoodIn wsL_law wsL_raise := goodIn_ca (goodIn_r _ [346, 145, 347, 348, 349, 2, 350, 150, 151, 28, 30, 264, 265, 266, 267, 268, 269, 351, 352, 353, 27, 354, 355, 356, 357, 358, 69, 68, 274, 275, 276, 359, 360, 361, 362, 363, 364, 55, 365, 62, 285, 286, 287, 288, 61, 277, 278, 279, 280, 281, 282, 283, 284, 366, 367, 368, 369, 370, 74, 75, 76, 77, 371, 372, 373, 374, 507, 508, 509, 510, 511, 512, 513, 514, 515, 516, 540, 541, 542, 543] (by decide +kernel) (by decide +kernel)) (goodIn_sub (fun _ h => List.mem_append_right _ h) (by decide +kernel))
set_option maxRecDepth 20000 in
theorem gL_law_L_raise : GoodIn wsL_law (va_wsS RL 108 yL_raise wsL_raise) := goodIn_app (goodIn_of _ (by decide +kernel)) ggL_law_L_raise
set_option maxRecDepth 20000 in
theorem ggL_law_X5_raise : GoodIn wsL_law wsX5_raise := goodIn_r _ [378, 109, 296, 297, 5, 298, 299, 300, 301, 302, 92, 93, 94, 95, 86, 96, 97, 98, 99, 100, 87, 303, 304, 305, 306, 307, 308, 309, 310, 311, 312, 313, 314, 315, 316, 317, 318, 319, 320, 321, 322, 323, 324, 325, 326, 327, 328, 329, 330, 331, 88, 332, 333, 334, 335, 336, 337, 338, 339, 340, 341, 342, 343, 89, 379, 380, 381, 382, 383, 384, 385, 386, 387, 388, 389, 390, 517, 518, 519, 520, 521, 522, 523, 524, 525, 526, 527, 528, 529, 530, 531, 532] (by decide +kernel) (by decide +kernel)
set_option maxRecDepth 20000 in
theorem gL_law_X5_raise : GoodIn wsL_law (wsV RL 110 RX5 yX5_raise wsX5_raise) := goodIn_app (goodIn_of _ (by decide +kernel)) ggL_law_X5_raise
set_option maxRecDepth 20000 in
theorem ggL_law_L_isEnough : GoodIn wsL_law wsL_isEnough := goodIn_ca (goodIn_r _ [393, 145, 394, 395, 396, 2, 397, 150, 151, 24, 20, 398, 399, 400, 267, 268, 269, 401, 402, 403, 23, 404, 56, 405, 406, 57, 407, 71, 72, 55, 73, 62, 74, 75, 76, 77, 61, 408, 367, 368, 369, 370, 281, 282, 283, 284, 285, 286, 287, 288, 409, 410, 411, 412, 372, 373, 374, 507, 508, 509, 510, 511, 512, 513, 514, 515, 516, 538, 539, 533, 534, 535, 536, 537, 542, 543] (by decide +kernel) (by decide +kernel)) (goodIn_sub (fun _ h => List.mem_append_right _ h) (by decide +kernel))
set_option maxRecDepth 20000 in
theorem gL_law_L_isEnough : GoodIn wsL_law (va_wsS RL 111 yL_isEnough wsL_isEnough) := goodIn_app (goodIn_of _ (by decide +kernel)) ggL_law_L_isEnough
set_option maxRecDepth 20000 in
theorem ggL_law_X5_isEnough : GoodIn wsL_law wsX5_isEnough := goodIn_r _ [416, 109, 417, 418, 5, 419, 420, 421, 422, 423, 90, 91, 424, 425, 426, 427, 428, 429, 430, 83, 84, 517, 518, 519, 520, 521, 522, 523, 524, 525, 526, 527, 528, 529, 530, 531, 532] (by decide +kernel) (by decide +kernel)
set_option maxRecDepth 20000 in
theorem gL_law_X5_isEnough : GoodIn wsL_law (wsV RL 113 RX5 yX5_isEnough wsX5_isEnough) := goodIn_app (goodIn_of _ (by decide +kernel)) ggL_law_X5_isEnough
set_option maxRecDepth 20000 in
theorem ggL_law_L_least : GoodIn wsL_law wsL_least := goodIn_ca (goodIn_r _ [433, 145, 434, 435, 436, 2, 437, 150, 151, 24, 20, 267, 268, 269, 401, 402, 403, 23, 404, 56, 405, 406, 57, 407, 71, 72, 55, 73, 62, 74, 75, 76, 77, 61, 408, 367, 368, 369, 370, 281, 282, 283, 284, 285, 286, 287, 288, 409, 410, 411, 412, 372, 373, 374, 507, 508, 509, 510, 511, 512, 513, 514, 515, 516, 538, 539, 533, 534, 535, 536, 537, 542, 543] (by decide +kernel) (by decide +kernel)) (goodIn_sub (fun _ h => List.mem_append_right _ h) (by decide +kernel))
set_option maxRecDepth 20000 in
theorem gL_law_L_least : GoodIn wsL_law (va_wsS RL 114 yL_least wsL_least) := goodIn_app (goodIn_of _ (by decide +kernel)) ggL_law_L_least
set_option maxRecDepth 20000 in
theorem ggL_law_X5_least : GoodIn wsL_law wsX5_least := goodIn_r _ [441, 109, 420, 421, 422, 5, 423, 90, 91, 424, 425, 426, 427, 428, 429, 430, 83, 84, 517, 518, 519, 520, 521, 522, 523, 524, 525, 526, 527, 528, 529, 530, 531, 532] (by decide +kernel) (by decide +kernel)
set_option maxRecDepth 20000 in
theorem gL_law_X5_least : GoodIn wsL_law (wsV RL 116 RX5 yX5_least wsX5_least) := goodIn_app (goodIn_of _ (by decide +kernel)) ggL_law_X5_least
set_option maxRecDepth 20000 in
theorem ggL_law_L_ask : GoodIn wsL_law wsL_ask := goodIn_ca (goodIn_r _ [444, 145, 445, 446, 447, 2, 448, 150, 151, 20, 24, 32, 449, 30, 33, 29, 31, 398, 399, 400, 267, 268, 269, 222, 223, 224, 19, 225, 46, 401, 402, 403, 23, 404, 56, 405, 406, 57, 407, 71, 72, 55, 73, 62, 74, 75, 76, 77, 61, 408, 367, 368, 369, 370, 281, 282, 283, 284, 285, 286, 287, 288, 409, 410, 411, 412, 372, 373, 374, 450, 451, 452, 27, 453, 68, 69, 454, 351, 352, 353, 354, 355, 356, 357, 358, 274, 275, 276, 359, 360, 361, 362, 363, 364, 365, 277, 278, 279, 280, 366, 371, 455, 456, 457, 458, 459, 131, 132, 133, 16, 15, 460, 461, 462, 463, 44, 45, 226, 227, 228, 229, 209, 182, 183, 184, 43, 42, 185, 186, 187, 188, 47, 48, 49, 507, 508, 509, 510, 511, 512, 513, 514, 515, 516, 533, 534, 535, 536, 537, 538, 539, 542, 543, 540, 541] (by decide +kernel) (by decide +kernel)) (goodIn_sub (fun _ h => List.mem_append_right _ h) (by decide +kernel))
set_option maxRecDepth 20000 in
theorem gL_law_L_ask : GoodIn wsL_law (va_wsS RL 117 yL_ask wsL_ask) := goodIn_app (goodIn_of _ (by decide +kernel)) ggL_law_L_ask
