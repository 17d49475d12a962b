set_option maxRecDepth 20000 in
theorem ggL_law_X5_init : GoodIn wsL_law wsX5_init := goodIn_r _ [9, 10, 11, 12, 13, 14, 15, 16, 17, 18, 19, 20, 21, 22, 23, 24, 25, 26, 27, 28, 29, 30, 31, 32, 33, 34, 35, 36, 37, 38, 39, 40, 41, 42, 43, 44, 45, 46, 47, 48, 49, 50, 51, 52, 53, 54, 55, 485, 486, 487, 488, 489, 490, 491, 492, 493, 518, 519, 520, 521, 522, 523, 524, 525, 526, 527, 528] (by decide +kernel) (by decide +kernel)
set_option maxRecDepth 20000 in
theorem gL_law_X5_init : GoodIn wsL_law (wsX5_init) := ggL_law_X5_init
set_option maxRecDepth 20000 in
theorem ggL_law_X6_init : GoodIn wsL_law wsX6_init := goodIn_r _ [58, 59, 11, 12, 40, 60, 61, 62, 63, 64, 65, 66, 67, 68, 69, 70, 71, 72, 73, 74, 75, 76, 77, 78, 79, 494, 495, 496, 497, 498, 499, 500, 501, 502, 503, 504, 505, 506, 507, 508, 509, 510, 511, 512, 513, 514, 515, 516, 517] (by decide +kernel) (by decide +kernel)
set_option maxRecDepth 20000 in
theorem gL_law_X6_init : GoodIn wsL_law (wsX6_init) := ggL_law_X6_init
set_option maxRecDepth 20000 in
theorem ggL_law_L_setGame : GoodIn wsL_law wsL_setGame := goodIn_ca (goodIn_ca (goodIn_r _ [83, 84, 85, 86, 87, 88, 2, 89, 14, 90, 91, 92, 93, 94, 95, 96, 97, 98, 99, 100, 101, 102, 485, 486, 487, 488, 489, 490, 491, 492, 493, 518, 519, 520, 521, 522, 523] (by decide +kernel) (by decide +kernel)) (goodIn_sub (fun _ h => List.mem_append_left _ (List.mem_append_left _ (List.mem_append_right _ h))) (by decide +kernel))) (goodIn_sub (fun _ h => List.mem_append_left _ (List.mem_append_right _ h)) (by decide +kernel))
set_option maxRecDepth 20000 in
theorem gL_law_L_setGame : GoodIn wsL_law (va_wsS RL 89 yL_setGame wsL_setGame) := goodIn_app (goodIn_of _ (by decide +kernel)) ggL_law_L_setGame
set_option maxRecDepth 20000 in
theorem ggL_law_X6_setGame : GoodIn wsL_law wsX6_setGame := goodIn_r _ [106, 107, 60, 61, 62, 108, 109, 5, 110, 111, 112, 113, 494, 495, 496, 497, 498, 499, 500, 501, 502, 503, 504, 505, 506, 507, 508, 509, 510, 511, 512, 513, 514, 515, 516, 517] (by decide +kernel) (by decide +kernel)
set_option maxRecDepth 20000 in
theorem gL_law_X6_setGame : GoodIn wsL_law (wsV RL 94 RX6 yX6_setGame wsX6_setGame) := goodIn_app (goodIn_of _ (by decide +kernel)) ggL_law_X6_setGame
set_option maxRecDepth 20000 in
theorem ggL_law_X6_thrown : GoodIn wsL_law wsX6_thrown := goodIn_r _ [117, 107, 494, 495, 496, 497, 498, 499, 500, 501, 502, 503, 504, 505, 506, 507, 508, 509, 510, 511, 512, 513, 514, 515, 516, 517] (by decide +kernel) (by decide +kernel)
set_option maxRecDepth 20000 in
theorem gL_law_X6_thrown : GoodIn wsL_law (wsV RL 95 RX6 yX6_thrown wsX6_thrown) := goodIn_app (goodIn_of _ (by decide +kernel)) ggL_law_X6_thrown
set_option maxRecDepth 20000 in
theorem ggL_law_L_setParts : GoodIn wsL_law wsL_setParts := goodIn_ca (goodIn_ca (goodIn_r _ [120, 84, 85, 121, 122, 123, 2, 124, 14, 125, 126, 93, 94, 95, 96, 97, 98, 99, 100, 101, 102, 485, 486, 487, 488, 489, 490, 491, 492, 493, 518, 519, 520, 521, 522, 523] (by decide +kernel) (by decide +kernel)) (goodIn_sub (fun _ h => List.mem_append_left _ (List.mem_append_left _ (List.mem_append_right _ h))) (by decide +kernel))) (goodIn_sub (fun _ h => List.mem_append_left _ (List.mem_append_right _ h)) (by decide +kernel))
set_option maxRecDepth 20000 in
theorem gL_law_L_setParts : GoodIn wsL_law (va_wsS RL 99 yL_setParts wsL_setParts) := goodIn_app (goodIn_of _ (by decide +kernel)) ggL_law_L_setParts
set_option maxRecDepth 20000 in
theorem ggL_law_X6_setParts : GoodIn wsL_law wsX6_setParts := goodIn_r _ [130, 107, 63, 64, 108, 109, 5, 110, 111, 112, 113, 494, 495, 496, 497, 498, 499, 500, 501, 502, 503, 504, 505, 506, 507, 508, 509, 510, 511, 512, 513, 514, 515, 516, 517] (by decide +kernel) (by decide +kernel)
set_option maxRecDepth 20000 in
theorem gL_law_X6_setParts : GoodIn wsL_law (wsV RL 101 RX6 yX6_setParts wsX6_setParts) := goodIn_app (goodIn_of _ (by decide +kernel)) ggL_law_X6_setParts
set_option maxRecDepth 20000 in
theorem ggL_law_L_setSeats : GoodIn wsL_law wsL_setSeats := goodIn_ca (goodIn_ca (goodIn_ca (goodIn_r _ [133, 84, 85, 134, 135, 136, 137, 2, 138, 139, 140, 16, 141, 142, 93, 94, 95, 96, 97, 98, 99, 100, 101, 102, 485, 486, 487, 488, 489, 490, 491, 492, 493, 524, 525, 526] (by decide +kernel) (by decide +kernel)) (goodIn_sub (fun _ h => List.mem_append_right _ h) (by decide +kernel))) (goodIn_sub (fun _ h => List.mem_append_left _ (List.mem_append_left _ (List.mem_append_right _ h))) (by decide +kernel))) (goodIn_sub (fun _ h => List.mem_append_left _ (List.mem_append_right _ h)) (by decide +kernel))
set_option maxRecDepth 20000 in
theorem gL_law_L_setSeats : GoodIn wsL_law (va_wsS RL 102 yL_setSeats wsL_setSeats) := goodIn_app (goodIn_of _ (by decide +kernel)) ggL_law_L_setSeats
set_option maxRecDepth 20000 in
theorem ggL_law_X6_setSeats : GoodIn wsL_law wsX6_setSeats := goodIn_r _ [146, 67, 107, 66, 111, 112, 5, 113, 494, 495, 496, 497, 498, 499, 500, 501, 502, 503, 504, 505, 506, 507, 508, 509, 510, 511, 512, 513, 514, 515, 516, 517] (by decide +kernel) (by decide +kernel)
set_option maxRecDepth 20000 in
theorem gL_law_X6_setSeats : GoodIn wsL_law (wsV RL 105 RX6 yX6_setSeats wsX6_setSeats) := goodIn_app (goodIn_of _ (by decide +kernel)) ggL_law_X6_setSeats
set_option maxRecDepth 20000 in
theorem ggL_law_L_teach : GoodIn wsL_law wsL_teach := goodIn_ca (goodIn_r _ [149, 84, 150, 151, 152, 2, 153, 18, 154, 93, 94, 95, 96, 97, 485, 486, 487, 488, 489, 490, 491, 492, 493, 527, 528] (by decide +kernel) (by decide +kernel)) (goodIn_sub (fun _ h => List.mem_append_left _ (List.mem_append_left _ (List.mem_append_right _ h))) (by decide +kernel))
set_option maxRecDepth 20000 in
theorem gL_law_L_teach : GoodIn wsL_law (va_wsS RL 106 yL_teach wsL_teach) := goodIn_app (goodIn_of _ (by decide +kernel)) ggL_law_L_teach
set_option maxRecDepth 20000 in
theorem ggL_law_X6_teach : GoodIn wsL_law wsX6_teach := goodIn_r _ [158, 107, 68, 111, 112, 5, 113, 108, 109, 110, 494, 495, 496, 497, 498, 499, 500, 501, 502, 503, 504, 505, 506, 507, 508, 509, 510, 511, 512, 513, 514, 515, 516, 517] (by decide +kernel) (by decide +kernel)
set_option maxRecDepth 20000 in
theorem gL_law_X6_teach : GoodIn wsL_law (wsV RL 109 RX6 yX6_teach wsX6_teach) := goodIn_app (goodIn_of _ (by decide +kernel)) ggL_law_X6_teach
set_option maxRecDepth 20000 in
theorem ggL_law_L_buy : GoodIn wsL_law wsL_buy := goodIn_ca (goodIn_ca (goodIn_r _ [161, 84, 134, 162, 163, 164, 2, 165, 139, 140, 24, 20, 19, 166, 167, 14, 93, 94, 95, 96, 97, 168, 169, 170, 171, 11, 12, 172, 173, 174, 175, 176, 177, 178, 179, 180, 181, 182, 485, 486, 487, 488, 489, 490, 491, 492, 493, 529, 530, 531, 532, 518, 519, 520, 521, 522, 523] (by decide +kernel) (by decide +kernel)) (goodIn_sub (fun _ h => List.mem_append_right _ h) (by decide +kernel))) (goodIn_sub (fun _ h => List.mem_append_left _ (List.mem_append_left _ (List.mem_append_right _ h))) (by decide +kernel))
set_option maxRecDepth 20000 in
theorem gL_law_L_buy : GoodIn wsL_law (va_wsS RL 110 yL_buy wsL_buy) := goodIn_app (goodIn_of _ (by decide +kernel)) ggL_law_L_buy
set_option maxRecDepth 20000 in
theorem ggL_law_X6_buy : GoodIn wsL_law wsX6_buy := goodIn_r _ [186, 187, 107, 70, 72, 63, 108, 109, 5, 110, 111, 112, 113, 494, 495, 496, 497, 498, 499, 500, 501, 502, 503, 504, 505, 506, 507, 508, 509, 510, 511, 512, 513, 514, 515, 516, 517] (by decide +kernel) (by decide +kernel)
set_option maxRecDepth 20000 in
theorem gL_law_X6_buy : GoodIn wsL_law (wsV RL 113 RX6 yX6_buy wsX6_buy) := goodIn_app (goodIn_of _ (by decide +kernel)) ggL_law_X6_buy
set_option maxRecDepth 20000 in
theorem ggL_law_L_count : GoodIn wsL_law wsL_count := goodIn_ca (goodIn_ca (goodIn_ca (goodIn_r _ [190, 84, 85, 134, 191, 192, 193, 2, 194, 139, 140, 195, 196, 197, 198, 199, 200, 96, 97, 20, 93, 94, 95, 98, 99, 100, 101, 102, 529, 530, 531, 532, 485, 486, 487, 488, 489, 490, 491, 492, 493] (by decide +kernel) (by decide +kernel)) (goodIn_sub (fun _ h => List.mem_append_right _ h) (by decide +kernel))) (goodIn_sub (fun _ h => List.mem_append_left _ (List.mem_append_left _ (List.mem_append_right _ h))) (by decide +kernel))) (goodIn_sub (fun _ h => List.mem_append_left _ (List.mem_append_right _ h)) (by decide +kernel))
set_option maxRecDepth 20000 in
theorem gL_law_L_count : GoodIn wsL_law (va_wsS RL 114 yL_count wsL_count) := goodIn_app (goodIn_of _ (by decide +kernel)) ggL_law_L_count
set_option maxRecDepth 20000 in
theorem ggL_law_X6_count : GoodIn wsL_law wsX6_count := goodIn_r _ [204, 107, 72, 71, 205, 206, 207, 5, 208, 187, 111, 112, 113, 209, 210, 211, 212, 494, 495, 496, 497, 498, 499, 500, 501, 502, 503, 504, 505, 506, 507, 508, 509, 510, 511, 512, 513, 514, 515, 516, 517] (by decide +kernel) (by decide +kernel)
set_option maxRecDepth 20000 in
theorem gL_law_X6_count : GoodIn wsL_law (wsV RL 117 RX6 yX6_count wsX6_count) := goodIn_app (goodIn_of _ (by decide +kernel)) ggL_law_X6_count
set_option maxRecDepth 20000 in
theorem ggL_law_L_fill : GoodIn wsL_law wsL_fill := goodIn_ca (goodIn_ca (goodIn_ca (goodIn_r _ [215, 84, 85, 134, 216, 217, 218, 2, 219, 101, 102, 139, 140, 220, 196, 197, 198, 199, 200, 96, 97, 20, 221, 222, 223, 167, 224, 174, 175, 182, 225, 226, 227, 228, 229, 230, 231, 529, 530, 531, 532, 485, 486, 487, 488, 489, 490, 491, 492, 493, 518, 519, 520, 521, 522, 523] (by decide +kernel) (by decide +kernel)) (goodIn_sub (fun _ h => List.mem_append_left _ (List.mem_append_right _ h)) (by decide +kernel))) (goodIn_sub (fun _ h => List.mem_append_right _ h) (by decide +kernel))) (goodIn_sub (fun _ h => List.mem_append_left _ (List.mem_append_left _ (List.mem_append_right _ h))) (by decide +kernel))
set_option maxRecDepth 20000 in
theorem gL_law_L_fill : GoodIn wsL_law (va_wsS RL 118 yL_fill wsL_fill) := goodIn_app (goodIn_of _ (by decide +kernel)) ggL_law_L_fill
set_option maxRecDepth 20000 in
theorem ggL_law_X6_fill : GoodIn wsL_law wsX6_fill := goodIn_r _ [235, 107, 70, 71, 63, 72, 205, 206, 207, 5, 208, 187, 111, 112, 113, 209, 210, 211, 212, 494, 495, 496, 497, 498, 499, 500, 501, 502, 503, 504, 505, 506, 507, 508, 509, 510, 511, 512, 513, 514, 515, 516, 517] (by decide +kernel) (by decide +kernel)
set_option maxRecDepth 20000 in
theorem gL_law_X6_fill : GoodIn wsL_law (wsV RL 120 RX6 yX6_fill wsX6_fill) := goodIn_app (goodIn_of _ (by decide +kernel)) ggL_law_X6_fill
set_option maxRecDepth 20000 in
theorem ggL_law_L_seat : GoodIn wsL_law wsL_seat := goodIn_ca (goodIn_ca (goodIn_ca (goodIn_r _ [238, 84, 85, 134, 239, 240, 241, 2, 242, 101, 102, 139, 140, 14, 25, 26, 92, 243, 22, 21, 244, 245, 141, 196, 93, 94, 95, 96, 97, 98, 99, 100, 246, 247, 248, 28, 249, 36, 37, 250, 251, 252, 253, 16, 142, 254, 255, 256, 257, 20, 220, 258, 259, 260, 167, 261, 182, 174, 262, 263, 264, 265, 266, 18, 154, 267, 268, 269, 270, 11, 12, 271, 272, 273, 274, 485, 486, 487, 488, 489, 490, 491, 492, 493, 518, 519, 520, 521, 522, 523, 527, 528, 533, 534, 535, 536, 524, 525, 526, 529, 530, 531, 532] (by decide +kernel) (by decide +kernel)) (goodIn_sub (fun _ h => List.mem_append_left _ (List.mem_append_right _ h)) (by decide +kernel))) (goodIn_sub (fun _ h => List.mem_append_right _ h) (by decide +kernel))) (goodIn_sub (fun _ h => List.mem_append_left _ (List.mem_append_left _ (List.mem_append_right _ h))) (by decide +kernel))
set_option maxRecDepth 20000 in
theorem gL_law_L_seat : GoodIn wsL_law (va_wsS RL 121 yL_seat wsL_seat) := goodIn_app (goodIn_of _ (by decide +kernel)) ggL_law_L_seat
set_option maxRecDepth 20000 in
theorem ggL_law_X6_seat : GoodIn wsL_law wsX6_seat := goodIn_r _ [278, 60, 61, 107, 279, 69, 280, 62, 67, 71, 73, 74, 75, 76, 108, 109, 5, 110, 111, 112, 113, 281, 282, 283, 284, 66, 285, 286, 287, 288, 187, 70, 289, 290, 291, 292, 72, 64, 293, 294, 295, 296, 68, 209, 210, 211, 212, 494, 495, 496, 497, 498, 499, 500, 501, 502, 503, 504, 505, 506, 507, 508, 509, 510, 511, 512, 513, 514, 515, 516, 517] (by decide +kernel) (by decide +kernel)
set_option maxRecDepth 20000 in
theorem gL_law_X6_seat : GoodIn wsL_law (wsV RL 123 RX6 yX6_seat wsX6_seat) := goodIn_app (goodIn_of _ (by decide +kernel)) ggL_law_X6_seat
set_option maxRecDepth 20000 in
theorem ggL_law_L_grow : GoodIn wsL_law wsL_grow := goodIn_ca (goodIn_ca (goodIn_ca (goodIn_r _ [299, 84, 85, 134, 300, 301, 302, 2, 303, 139, 140, 304, 305, 220, 91, 306, 142, 141, 307, 308, 309, 310, 311, 96, 97, 22, 98, 99, 100, 101, 102, 250, 251, 252, 253, 16, 533, 534, 535, 536, 529, 530, 531, 532, 518, 519, 520, 521, 522, 523, 524, 525, 526, 485, 486, 487, 488, 489, 490, 491, 492, 493] (by decide +kernel) (by decide +kernel)) (goodIn_sub (fun _ h => List.mem_append_right _ h) (by decide +kernel))) (goodIn_sub (fun _ h => List.mem_append_left _ (List.mem_append_left _ (List.mem_append_right _ h))) (by decide +kernel))) (goodIn_sub (fun _ h => List.mem_append_left _ (List.mem_append_right _ h)) (by decide +kernel))
set_option maxRecDepth 20000 in
theorem gL_law_L_grow : GoodIn wsL_law (va_wsS RL 124 yL_grow wsL_grow) := goodIn_app (goodIn_of _ (by decide +kernel)) ggL_law_L_grow
set_option maxRecDepth 20000 in
theorem ggL_law_X6_grow : GoodIn wsL_law wsX6_grow := goodIn_r _ [315, 73, 66, 74, 61, 70, 75, 67, 316, 317, 318, 5, 319, 279, 77, 107, 111, 112, 113, 209, 210, 211, 212, 281, 282, 283, 284, 494, 495, 496, 497, 498, 499, 500, 501, 502, 503, 504, 505, 506, 507, 508, 509, 510, 511, 512, 513, 514, 515, 516, 517] (by decide +kernel) (by decide +kernel)
set_option maxRecDepth 20000 in
theorem gL_law_X6_grow : GoodIn wsL_law (wsV RL 126 RX6 yX6_grow wsX6_grow) := goodIn_app (goodIn_of _ (by decide +kernel)) ggL_law_X6_grow
set_option maxRecDepth 20000 in
theorem ggL_law_L_go : GoodIn wsL_law wsL_go := goodIn_ca (goodIn_r _ [322, 84, 323, 324, 325, 2, 326, 306, 141, 305, 196, 220, 327, 22, 26, 328, 308, 309, 310, 311, 96, 97, 533, 534, 535, 536, 524, 525, 526, 529, 530, 531, 532, 518, 519, 520, 521, 522, 523, 485, 486, 487, 488, 489, 490, 491, 492, 493] (by decide +kernel) (by decide +kernel)) (goodIn_sub (fun _ h => List.mem_append_left _ (List.mem_append_left _ (List.mem_append_right _ h))) (by decide +kernel))
set_option maxRecDepth 20000 in
theorem gL_law_L_go : GoodIn wsL_law (va_wsS RL 127 yL_go wsL_go) := goodIn_app (goodIn_of _ (by decide +kernel)) ggL_law_L_go
set_option maxRecDepth 20000 in
theorem ggL_law_X6_go : GoodIn wsL_law wsX6_go := goodIn_r _ [332, 77, 67, 74, 71, 75, 65, 70, 280, 76, 316, 317, 318, 5, 319, 279, 107, 111, 112, 113, 494, 495, 496, 497, 498, 499, 500, 501, 502, 503, 504, 505, 506, 507, 508, 509, 510, 511, 512, 513, 514, 515, 516, 517] (by decide +kernel) (by decide +kernel)
set_option maxRecDepth 20000 in
theorem gL_law_X6_go : GoodIn wsL_law (wsV RL 129 RX6 yX6_go wsX6_go) := goodIn_app (goodIn_of _ (by decide +kernel)) ggL_law_X6_go
set_option maxRecDepth 20000 in
theorem ggL_law_L_advance : GoodIn wsL_law wsL_advance := goodIn_ca (goodIn_ca (goodIn_r _ [335, 85, 134, 336, 337, 338, 2, 339, 139, 140, 26, 340, 98, 99, 100, 101, 102, 485, 486, 487, 488, 489, 490, 491, 492, 493] (by decide +kernel) (by decide +kernel)) (goodIn_sub (fun _ h => List.mem_append_right _ h) (by decide +kernel))) (goodIn_sub (fun _ h => List.mem_append_left _ (List.mem_append_right _ h)) (by decide +kernel))
set_option maxRecDepth 20000 in
theorem gL_law_L_advance : GoodIn wsL_law (va_wsS RL 130 yL_advance wsL_advance) := goodIn_app (goodIn_of _ (by decide +kernel)) ggL_law_L_advance
set_option maxRecDepth 20000 in
theorem ggL_law_X6_advance : GoodIn wsL_law wsX6_advance := goodIn_r _ [344, 280, 345, 107, 111, 112, 5, 113, 494, 495, 496, 497, 498, 499, 500, 501, 502, 503, 504, 505, 506, 507, 508, 509, 510, 511, 512, 513, 514, 515, 516, 517] (by decide +kernel) (by decide +kernel)
set_option maxRecDepth 20000 in
theorem gL_law_X6_advance : GoodIn wsL_law (wsV RL 132 RX6 yX6_advance wsX6_advance) := goodIn_app (goodIn_of _ (by decide +kernel)) ggL_law_X6_advance
set_option maxRecDepth 20000 in
theorem ggL_law_L_lend : GoodIn wsL_law wsL_lend := goodIn_ca (goodIn_ca (goodIn_r _ [348, 84, 134, 349, 350, 351, 2, 352, 139, 140, 196, 23, 197, 198, 199, 200, 96, 97, 20, 93, 94, 95, 353, 354, 355, 167, 356, 182, 357, 358, 529, 530, 531, 532, 485, 486, 487, 488, 489, 490, 491, 492, 493] (by decide +kernel) (by decide +kernel)) (goodIn_sub (fun _ h => List.mem_append_right _ h) (by decide +kernel))) (goodIn_sub (fun _ h => List.mem_append_left _ (List.mem_append_left _ (List.mem_append_right _ h))) (by decide +kernel))
set_option maxRecDepth 20000 in
theorem gL_law_L_lend : GoodIn wsL_law (va_wsS RL 133 yL_lend wsL_lend) := goodIn_app (goodIn_of _ (by decide +kernel)) ggL_law_L_lend
set_option maxRecDepth 20000 in
theorem ggL_law_X6_lend : GoodIn wsL_law wsX6_lend := goodIn_r _ [362, 71, 78, 107, 72, 79, 205, 206, 207, 5, 208, 187, 111, 112, 113, 494, 495, 496, 497, 498, 499, 500, 501, 502, 503, 504, 505, 506, 507, 508, 509, 510, 511, 512, 513, 514, 515, 516, 517] (by decide +kernel) (by decide +kernel)
set_option maxRecDepth 20000 in
theorem gL_law_X6_lend : GoodIn wsL_law (wsV RL 135 RX6 yX6_lend wsX6_lend) := goodIn_app (goodIn_of _ (by decide +kernel)) ggL_law_X6_lend
set_option maxRecDepth 20000 in
theorem ggL_law_L_giveBack : GoodIn wsL_law wsL_giveBack := goodIn_ca (goodIn_ca (goodIn_ca (goodIn_r _ [365, 84, 85, 134, 366, 367, 368, 2, 369, 139, 140, 23, 195, 196, 93, 94, 95, 96, 97, 98, 99, 100, 101, 102, 353, 354, 355, 167, 356, 182, 357, 358, 370, 485, 486, 487, 488, 489, 490, 491, 492, 493, 529, 530, 531, 532] (by decide +kernel) (by decide +kernel)) (goodIn_sub (fun _ h => List.mem_append_right _ h) (by decide +kernel))) (goodIn_sub (fun _ h => List.mem_append_left _ (List.mem_append_left _ (List.mem_append_right _ h))) (by decide +kernel))) (goodIn_sub (fun _ h => List.mem_append_left _ (List.mem_append_right _ h)) (by decide +kernel))
set_option maxRecDepth 20000 in
theorem gL_law_L_giveBack : GoodIn wsL_law (va_wsS RL 136 yL_giveBack wsL_giveBack) := goodIn_app (goodIn_of _ (by decide +kernel)) ggL_law_L_giveBack
set_option maxRecDepth 20000 in
theorem ggL_law_X6_giveBack : GoodIn wsL_law wsX6_giveBack := goodIn_r _ [374, 107, 78, 72, 71, 79, 111, 112, 5, 113, 209, 210, 211, 212, 494, 495, 496, 497, 498, 499, 500, 501, 502, 503, 504, 505, 506, 507, 508, 509, 510, 511, 512, 513, 514, 515, 516, 517] (by decide +kernel) (by decide +kernel)
set_option maxRecDepth 20000 in
theorem gL_law_X6_giveBack : GoodIn wsL_law (wsV RL 138 RX6 yX6_giveBack wsX6_giveBack) := goodIn_app (goodIn_of _ (by decide +kernel)) ggL_law_X6_giveBack
set_option maxRecDepth 20000 in
theorem ggL_law_X5_minute : GoodIn wsL_law wsX5_minute := goodIn_r _ [378, 26, 485, 486, 487, 488, 489, 490, 491, 492, 493] (by decide +kernel) (by decide +kernel)
set_option maxRecDepth 20000 in
theorem gL_law_X5_minute : GoodIn wsL_law (wsV RL 139 RX5 yX5_minute wsX5_minute) := goodIn_app (goodIn_of _ (by decide +kernel)) ggL_law_X5_minute
set_option maxRecDepth 20000 in
theorem ggL_law_X6_minute : GoodIn wsL_law wsX6_minute := goodIn_r _ [382, 107, 280, 494, 495, 496, 497, 498, 499, 500, 501, 502, 503, 504, 505, 506, 507, 508, 509, 510, 511, 512, 513, 514, 515, 516, 517] (by decide +kernel) (by decide +kernel)
set_option maxRecDepth 20000 in
theorem gL_law_X6_minute : GoodIn wsL_law (wsV RL 142 RX6 yX6_minute wsX6_minute) := goodIn_app (goodIn_of _ (by decide +kernel)) ggL_law_X6_minute
set_option maxRecDepth 20000 in
theorem ggL_law_X5_copies : GoodIn wsL_law wsX5_copies := goodIn_r _ [386, 24, 485, 486, 487, 488, 489, 490, 491, 492, 493] (by decide +kernel) (by decide +kernel)
set_option maxRecDepth 20000 in
theorem gL_law_X5_copies : GoodIn wsL_law (wsV RL 143 RX5 yX5_copies wsX5_copies) := goodIn_app (goodIn_of _ (by decide +kernel)) ggL_law_X5_copies
set_option maxRecDepth 20000 in
theorem ggL_law_X6_copies : GoodIn wsL_law wsX6_copies := goodIn_r _ [390, 107, 187, 494, 495, 496, 497, 498, 499, 500, 501, 502, 503, 504, 505, 506, 507, 508, 509, 510, 511, 512, 513, 514, 515, 516, 517] (by decide +kernel) (by decide +kernel)
set_option maxRecDepth 20000 in
theorem gL_law_X6_copies : GoodIn wsL_law (wsV RL 146 RX6 yX6_copies wsX6_copies) := goodIn_app (goodIn_of _ (by decide +kernel)) ggL_law_X6_copies
set_option maxRecDepth 20000 in
theorem ggL_law_L_parts : GoodIn wsL_law wsL_parts := goodIn_ca (goodIn_r _ [393, 84, 394, 395, 396, 2, 397, 195, 197, 198, 199, 200, 96, 97, 20, 93, 94, 95, 529, 530, 531, 532, 485, 486, 487, 488, 489, 490, 491, 492, 493] (by decide +kernel) (by decide +kernel)) (goodIn_sub (fun _ h => List.mem_append_left _ (List.mem_append_left _ (List.mem_append_right _ h))) (by decide +kernel))
set_option maxRecDepth 20000 in
theorem gL_law_L_parts : GoodIn wsL_law (va_wsS RL 147 yL_parts wsL_parts) := goodIn_app (goodIn_of _ (by decide +kernel)) ggL_law_L_parts
set_option maxRecDepth 20000 in
theorem ggL_law_X6_parts : GoodIn wsL_law wsX6_parts := goodIn_r _ [401, 107, 72, 205, 206, 207, 5, 208, 187, 111, 112, 113, 494, 495, 496, 497, 498, 499, 500, 501, 502, 503, 504, 505, 506, 507, 508, 509, 510, 511, 512, 513, 514, 515, 516, 517] (by decide +kernel) (by decide +kernel)
set_option maxRecDepth 20000 in
theorem gL_law_X6_parts : GoodIn wsL_law (wsV RL 149 RX6 yX6_parts wsX6_parts) := goodIn_app (goodIn_of _ (by decide +kernel)) ggL_law_X6_parts
set_option maxRecDepth 20000 in
theorem ggL_law_L_canBePlayed : GoodIn wsL_law wsL_canBePlayed := goodIn_ca (goodIn_r _ [404, 84, 405, 406, 407, 2, 408, 197, 198, 199, 200, 96, 97, 20, 258, 259, 260, 167, 261, 182, 174, 262, 485, 486, 487, 488, 489, 490, 491, 492, 493, 529, 530, 531, 532, 518, 519, 520, 521, 522, 523] (by decide +kernel) (by decide +kernel)) (goodIn_sub (fun _ h => List.mem_append_left _ (List.mem_append_left _ (List.mem_append_right _ h))) (by decide +kernel))
set_option maxRecDepth 20000 in
theorem gL_law_L_canBePlayed : GoodIn wsL_law (va_wsS RL 150 yL_canBePlayed wsL_canBePlayed) := goodIn_app (goodIn_of _ (by decide +kernel)) ggL_law_L_canBePlayed
set_option maxRecDepth 20000 in
theorem ggL_law_X6_canBePlayed : GoodIn wsL_law wsX6_canBePlayed := goodIn_r _ [412, 107, 205, 206, 207, 5, 208, 187, 111, 112, 113, 289, 290, 291, 292, 72, 64, 70, 494, 495, 496, 497, 498, 499, 500, 501, 502, 503, 504, 505, 506, 507, 508, 509, 510, 511, 512, 513, 514, 515, 516, 517] (by decide +kernel) (by decide +kernel)
set_option maxRecDepth 20000 in
theorem gL_law_X6_canBePlayed : GoodIn wsL_law (wsV RL 152 RX6 yX6_canBePlayed wsX6_canBePlayed) := goodIn_app (goodIn_of _ (by decide +kernel)) ggL_law_X6_canBePlayed
set_option maxRecDepth 20000 in
theorem ggL_law_L_whereIs : GoodIn wsL_law wsL_whereIs := goodIn_ca (goodIn_r _ [415, 84, 416, 417, 418, 2, 419, 196, 197, 198, 199, 200, 96, 97, 20, 529, 530, 531, 532, 485, 486, 487, 488, 489, 490, 491, 492, 493] (by decide +kernel) (by decide +kernel)) (goodIn_sub (fun _ h => List.mem_append_left _ (List.mem_append_left _ (List.mem_append_right _ h))) (by decide +kernel))
set_option maxRecDepth 20000 in
theorem gL_law_L_whereIs : GoodIn wsL_law (va_wsS RL 153 yL_whereIs wsL_whereIs) := goodIn_app (goodIn_of _ (by decide +kernel)) ggL_law_L_whereIs
set_option maxRecDepth 20000 in
theorem ggL_law_X6_whereIs : GoodIn wsL_law wsX6_whereIs := goodIn_r _ [423, 107, 71, 205, 206, 207, 5, 208, 187, 111, 112, 113, 494, 495, 496, 497, 498, 499, 500, 501, 502, 503, 504, 505, 506, 507, 508, 509, 510, 511, 512, 513, 514, 515, 516, 517] (by decide +kernel) (by decide +kernel)
set_option maxRecDepth 20000 in
theorem gL_law_X6_whereIs : GoodIn wsL_law (wsV RL 155 RX6 yX6_whereIs wsX6_whereIs) := goodIn_app (goodIn_of _ (by decide +kernel)) ggL_law_X6_whereIs
set_option maxRecDepth 20000 in
theorem ggL_law_L_at : GoodIn wsL_law wsL_at := goodIn_ca (goodIn_r _ [426, 84, 427, 428, 429, 2, 430, 16, 141, 93, 94, 95, 96, 97, 485, 486, 487, 488, 489, 490, 491, 492, 493, 524, 525, 526] (by decide +kernel) (by decide +kernel)) (goodIn_sub (fun _ h => List.mem_append_left _ (List.mem_append_left _ (List.mem_append_right _ h))) (by decide +kernel))
set_option maxRecDepth 20000 in
theorem gL_law_L_at : GoodIn wsL_law (va_wsS RL 156 yL_at wsL_at) := goodIn_app (goodIn_of _ (by decide +kernel)) ggL_law_L_at
set_option maxRecDepth 20000 in
theorem ggL_law_X6_at : GoodIn wsL_law wsX6_at := goodIn_r _ [434, 107, 67, 111, 112, 5, 113, 494, 495, 496, 497, 498, 499, 500, 501, 502, 503, 504, 505, 506, 507, 508, 509, 510, 511, 512, 513, 514, 515, 516, 517] (by decide +kernel) (by decide +kernel)
set_option maxRecDepth 20000 in
theorem gL_law_X6_at : GoodIn wsL_law (wsV RL 158 RX6 yX6_at wsX6_at) := goodIn_app (goodIn_of _ (by decide +kernel)) ggL_law_X6_at
set_option maxRecDepth 20000 in
theorem ggL_law_L_copyOf : GoodIn wsL_law wsL_copyOf := goodIn_ca (goodIn_r _ [437, 84, 438, 439, 440, 2, 441, 305, 442, 308, 309, 310, 311, 96, 97, 22, 533, 534, 535, 536, 529, 530, 531, 532, 485, 486, 487, 488, 489, 490, 491, 492, 493] (by decide +kernel) (by decide +kernel)) (goodIn_sub (fun _ h => List.mem_append_left _ (List.mem_append_left _ (List.mem_append_right _ h))) (by decide +kernel))
set_option maxRecDepth 20000 in
theorem gL_law_L_copyOf : GoodIn wsL_law (va_wsS RL 159 yL_copyOf wsL_copyOf) := goodIn_app (goodIn_of _ (by decide +kernel)) ggL_law_L_copyOf
set_option maxRecDepth 20000 in
theorem ggL_law_X6_copyOf : GoodIn wsL_law wsX6_copyOf := goodIn_r _ [446, 75, 316, 317, 318, 5, 319, 279, 77, 107, 111, 112, 113, 494, 495, 496, 497, 498, 499, 500, 501, 502, 503, 504, 505, 506, 507, 508, 509, 510, 511, 512, 513, 514, 515, 516, 517] (by decide +kernel) (by decide +kernel)
set_option maxRecDepth 20000 in
theorem gL_law_X6_copyOf : GoodIn wsL_law (wsV RL 161 RX6 yX6_copyOf wsX6_copyOf) := goodIn_app (goodIn_of _ (by decide +kernel)) ggL_law_X6_copyOf
set_option maxRecDepth 20000 in
theorem ggL_law_L_teaching : GoodIn wsL_law wsL_teaching := goodIn_ca (goodIn_r _ [449, 84, 450, 451, 452, 2, 453, 18, 243, 26, 454, 226, 227, 228, 93, 94, 95, 96, 97, 485, 486, 487, 488, 489, 490, 491, 492, 493, 527, 528] (by decide +kernel) (by decide +kernel)) (goodIn_sub (fun _ h => List.mem_append_left _ (List.mem_append_left _ (List.mem_append_right _ h))) (by decide +kernel))
set_option maxRecDepth 20000 in
theorem gL_law_L_teaching : GoodIn wsL_law (va_wsS RL 162 yL_teaching wsL_teaching) := goodIn_app (goodIn_of _ (by decide +kernel)) ggL_law_L_teaching
set_option maxRecDepth 20000 in
theorem ggL_law_X6_teaching : GoodIn wsL_law wsX6_teaching := goodIn_r _ [458, 107, 69, 280, 111, 112, 5, 113, 494, 495, 496, 497, 498, 499, 500, 501, 502, 503, 504, 505, 506, 507, 508, 509, 510, 511, 512, 513, 514, 515, 516, 517] (by decide +kernel) (by decide +kernel)
set_option maxRecDepth 20000 in
theorem gL_law_X6_teaching : GoodIn wsL_law (wsV RL 164 RX6 yX6_teaching wsX6_teaching) := goodIn_app (goodIn_of _ (by decide +kernel)) ggL_law_X6_teaching
set_option maxRecDepth 20000 in
theorem ggL_law_L_plays : GoodIn wsL_law wsL_plays := goodIn_ca (goodIn_r _ [461, 84, 462, 463, 464, 2, 465, 14, 327, 93, 94, 95, 96, 97, 485, 486, 487, 488, 489, 490, 491, 492, 493, 518, 519, 520, 521, 522, 523] (by decide +kernel) (by decide +kernel)) (goodIn_sub (fun _ h => List.mem_append_left _ (List.mem_append_left _ (List.mem_append_right _ h))) (by decide +kernel))
set_option maxRecDepth 20000 in
theorem gL_law_L_plays : GoodIn wsL_law (va_wsS RL 165 yL_plays wsL_plays) := goodIn_app (goodIn_of _ (by decide +kernel)) ggL_law_L_plays
set_option maxRecDepth 20000 in
theorem ggL_law_X6_plays : GoodIn wsL_law wsX6_plays := goodIn_r _ [469, 107, 65, 108, 109, 5, 110, 111, 112, 113, 494, 495, 496, 497, 498, 499, 500, 501, 502, 503, 504, 505, 506, 507, 508, 509, 510, 511, 512, 513, 514, 515, 516, 517] (by decide +kernel) (by decide +kernel)
set_option maxRecDepth 20000 in
theorem gL_law_X6_plays : GoodIn wsL_law (wsV RL 167 RX6 yX6_plays wsX6_plays) := goodIn_app (goodIn_of _ (by decide +kernel)) ggL_law_X6_plays
set_option maxRecDepth 20000 in
theorem ggL_law_L_propose : GoodIn wsL_law wsL_propose := goodIn_ca (goodIn_r _ [472, 85, 473, 474, 475, 2, 476, 14, 327, 98, 99, 100, 101, 102, 477, 478, 479, 480, 25, 246, 247, 248, 28, 249, 36, 37, 250, 251, 252, 253, 16, 141, 142, 254, 255, 256, 257, 20, 220, 196, 258, 259, 260, 167, 261, 182, 174, 262, 485, 486, 487, 488, 489, 490, 491, 492, 493, 518, 519, 520, 521, 522, 523, 524, 525, 526, 529, 530, 531, 532] (by decide +kernel) (by decide +kernel)) (goodIn_sub (fun _ h => List.mem_append_left _ (List.mem_append_right _ h)) (by decide +kernel))
set_option maxRecDepth 20000 in
theorem gL_law_L_propose : GoodIn wsL_law (va_wsS RL 168 yL_propose wsL_propose) := goodIn_app (goodIn_of _ (by decide +kernel)) ggL_law_L_propose
set_option maxRecDepth 20000 in
theorem ggL_law_X6_propose : GoodIn wsL_law wsX6_propose := goodIn_r _ [484, 107, 279, 60, 61, 65, 111, 112, 5, 113, 281, 282, 283, 284, 67, 66, 285, 286, 287, 288, 187, 70, 71, 289, 290, 291, 292, 72, 64, 494, 495, 496, 497, 498, 499, 500, 501, 502, 503, 504, 505, 506, 507, 508, 509, 510, 511, 512, 513, 514, 515, 516, 517] (by decide +kernel) (by decide +kernel)
set_option maxRecDepth 20000 in
theorem gL_law_X6_propose : GoodIn wsL_law (wsV RL 170 RX6 yX6_propose wsX6_propose) := goodIn_app (goodIn_of _ (by decide +kernel)) ggL_law_X6_propose
