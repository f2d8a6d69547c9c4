set_option maxRecDepth 20000 in
theorem ggL_turn_X5_move : GoodIn wsL_turn wsX5_move := goodIn_r _ [59, 11, 60, 61, 62, 9, 63, 64, 65, 66, 67, 42, 43, 68, 69, 70, 18, 71, 41, 26, 27, 28, 29, 30, 31, 32, 33, 34, 35, 479, 480, 481, 482, 483, 484, 485, 486, 487, 488, 489, 490, 491, 492, 493, 494, 495, 496, 497, 498, 499, 500, 501, 502, 503, 504, 505] (by decide +kernel) (by decide +kernel)
set_option maxRecDepth 20000 in
theorem gL_turn_X5_move : GoodIn wsL_turn (wsV RL 60 RX5 yX5_move wsX5_move) := goodIn_app (goodIn_of _ (by decide +kernel)) ggL_turn_X5_move
set_option maxRecDepth 20000 in
theorem ggL_turn_X5_dyke : GoodIn wsL_turn wsX5_dyke := goodIn_r _ [75, 11, 64, 65, 9, 66, 67, 42, 43, 76, 77, 78, 18, 79, 40, 80, 26, 27, 28, 29, 30, 31, 32, 33, 34, 35, 479, 480, 481, 482, 483, 484, 485, 486, 487, 488, 489, 490, 491, 492, 493, 494, 495, 496, 497, 498, 499, 500, 501, 502, 503, 504, 505] (by decide +kernel) (by decide +kernel)
set_option maxRecDepth 20000 in
theorem gL_turn_X5_dyke : GoodIn wsL_turn (wsV RL 63 RX5 yX5_dyke wsX5_dyke) := goodIn_app (goodIn_of _ (by decide +kernel)) ggL_turn_X5_dyke
set_option maxRecDepth 20000 in
theorem ggL_turn_X5_tuck : GoodIn wsL_turn wsX5_tuck := goodIn_r _ [84, 11, 60, 61, 62, 9, 63, 67, 42, 43, 85, 86, 87, 18, 88, 25, 26, 27, 28, 29, 30, 31, 32, 33, 34, 35, 479, 480, 481, 482, 483, 484, 485, 486, 487, 488, 489, 490, 491, 492, 493, 494, 495, 496, 497, 498, 499, 500, 501, 502, 503, 504, 505] (by decide +kernel) (by decide +kernel)
set_option maxRecDepth 20000 in
theorem gL_turn_X5_tuck : GoodIn wsL_turn (wsV RL 66 RX5 yX5_tuck wsX5_tuck) := goodIn_app (goodIn_of _ (by decide +kernel)) ggL_turn_X5_tuck
set_option maxRecDepth 20000 in
theorem ggL_turn_X5_count : GoodIn wsL_turn wsX5_count := goodIn_r _ [92, 11, 93, 94, 95, 96, 9, 97, 67, 42, 43, 98, 99, 100, 18, 101, 21, 20, 102, 103, 104, 105, 22, 106, 107, 108, 109, 110, 111, 112, 113, 114, 115, 116, 117, 118, 119, 120, 121, 122, 123, 124, 125, 126, 127, 128, 129, 130, 131, 132, 133, 134, 135, 136, 137, 138, 139, 140, 141, 142, 479, 480, 481, 482, 483, 484, 485, 486, 487, 488, 489, 490, 491, 492, 493, 494, 495, 496, 497, 498, 499, 500, 501, 502, 503, 504, 505, 506, 507] (by decide +kernel) (by decide +kernel)
set_option maxRecDepth 20000 in
theorem gL_turn_X5_count : GoodIn wsL_turn (wsV RL 117 RX5 yX5_count wsX5_count) := goodIn_app (goodIn_of _ (by decide +kernel)) ggL_turn_X5_count
set_option maxRecDepth 20000 in
theorem ggL_turn_X5_undo : GoodIn wsL_turn wsX5_undo := goodIn_r _ [146, 11, 147, 148, 149, 18, 150, 31, 32, 33, 30, 21, 41, 40, 80, 25, 42, 9, 43, 34, 35, 479, 480, 481, 482, 483, 484, 485, 486, 487, 488, 489, 490, 491, 492, 493, 494, 495, 496, 497, 498, 499, 500, 501, 502, 503, 504, 505] (by decide +kernel) (by decide +kernel)
set_option maxRecDepth 20000 in
theorem gL_turn_X5_undo : GoodIn wsL_turn (wsV RL 69 RX5 yX5_undo wsX5_undo) := goodIn_app (goodIn_of _ (by decide +kernel)) ggL_turn_X5_undo
set_option maxRecDepth 20000 in
theorem ggL_turn_X5_keep : GoodIn wsL_turn wsX5_keep := goodIn_r _ [154, 11, 139, 140, 141, 9, 142, 134, 155, 156, 157, 18, 158, 22, 80, 21, 31, 40, 106, 41, 159, 25, 20, 23, 24, 30, 32, 33, 160, 161, 162, 163, 54, 164, 165, 166, 167, 168, 169, 170, 171, 479, 480, 481, 482, 483, 484, 485, 486, 487, 488, 489, 490, 491, 492, 493, 494, 495, 496, 497, 498, 499, 500, 501, 502, 503, 504, 505] (by decide +kernel) (by decide +kernel)
set_option maxRecDepth 20000 in
theorem gL_turn_X5_keep : GoodIn wsL_turn (wsV RL 72 RX5 yX5_keep wsX5_keep) := goodIn_app (goodIn_of _ (by decide +kernel)) ggL_turn_X5_keep
set_option maxRecDepth 20000 in
theorem ggL_turn_X5_on : GoodIn wsL_turn wsX5_on := goodIn_r _ [175, 11, 139, 140, 141, 9, 142, 134, 176, 177, 178, 179, 180, 181, 67, 42, 43, 182, 34, 35, 155, 156, 157, 18, 158, 22, 80, 21, 31, 40, 106, 41, 159, 25, 20, 23, 24, 30, 32, 33, 160, 161, 162, 163, 54, 164, 165, 166, 167, 168, 169, 170, 171, 491, 492, 493, 494, 495, 496, 497, 498, 499, 500, 501, 502, 503, 504, 505, 479, 480, 481, 482, 483, 484, 485, 486, 487, 488, 489, 490] (by decide +kernel) (by decide +kernel)
set_option maxRecDepth 20000 in
theorem gL_turn_X5_on : GoodIn wsL_turn (wsV RL 75 RX5 yX5_on wsX5_on) := goodIn_app (goodIn_of _ (by decide +kernel)) ggL_turn_X5_on
set_option maxRecDepth 20000 in
theorem ggL_turn_X5_row : GoodIn wsL_turn wsX5_row := goodIn_r _ [289, 93, 190, 191, 192, 9, 193, 194, 126, 127, 114, 128, 116, 129, 176, 177, 178, 179, 180, 181, 67, 42, 43, 182, 34, 35, 195, 196, 197, 198, 199, 200, 201, 202, 125, 203, 204, 205, 206, 479, 480, 481, 482, 483, 484, 485, 486, 487, 488, 489, 490, 506, 507] (by decide +kernel) (by decide +kernel)
set_option maxRecDepth 20000 in
theorem gL_turn_X5_row : GoodIn wsL_turn (wsV RL 9 RX5 yX5_row wsX5_row) := goodIn_app (goodIn_of _ (by decide +kernel)) ggL_turn_X5_row
set_option maxRecDepth 20000 in
theorem ggL_turn_X5_lay : GoodIn wsL_turn wsX5_lay := goodIn_r _ [293, 93, 294, 211, 212, 213, 9, 214, 215, 216, 217, 218, 194, 126, 127, 114, 128, 116, 129, 219, 118, 119, 120, 121, 122, 123, 124, 125, 176, 177, 178, 179, 180, 181, 67, 42, 43, 182, 34, 35, 220, 221, 222, 223, 224, 225, 226, 227, 228, 199, 200, 201, 202, 229, 230, 231, 232, 479, 480, 481, 482, 483, 484, 485, 486, 487, 488, 489, 490, 506, 507] (by decide +kernel) (by decide +kernel)
set_option maxRecDepth 20000 in
theorem gL_turn_X5_lay : GoodIn wsL_turn (wsV RL 15 RX5 yX5_lay wsX5_lay) := goodIn_app (goodIn_of _ (by decide +kernel)) ggL_turn_X5_lay
set_option maxRecDepth 20000 in
theorem ggL_turn_X5_mark : GoodIn wsL_turn wsX5_mark := goodIn_r _ [298, 11, 60, 61, 62, 9, 63, 67, 42, 43, 299, 108, 109, 110, 176, 177, 178, 179, 180, 181, 182, 34, 35, 300, 301, 302, 18, 303, 20, 106, 304, 305, 306, 307, 23, 52, 53, 54, 55, 159, 24, 308, 309, 310, 311, 163, 164, 312, 313, 314, 315, 316, 317, 318, 319, 479, 480, 481, 482, 483, 484, 485, 486, 487, 488, 489, 490, 491, 492, 493, 494, 495, 496, 497, 498, 499, 500, 501, 502, 503, 504, 505] (by decide +kernel) (by decide +kernel)
set_option maxRecDepth 20000 in
theorem gL_turn_X5_mark : GoodIn wsL_turn (wsV RL 48 RX5 yX5_mark wsX5_mark) := goodIn_app (goodIn_of _ (by decide +kernel)) ggL_turn_X5_mark
set_option maxRecDepth 20000 in
theorem ggL_turn_X5_know : GoodIn wsL_turn wsX5_know := goodIn_r _ [323, 11, 294, 324, 325, 326, 9, 327, 328, 329, 330, 18, 331, 22, 332, 333, 334, 335, 336, 337, 338, 339, 340, 341, 342, 343, 344, 345, 346, 106, 347, 301, 302, 303, 20, 42, 43, 304, 305, 306, 307, 23, 52, 53, 54, 55, 159, 24, 308, 309, 109, 310, 311, 163, 164, 312, 348, 349, 350, 351, 352, 353, 354, 479, 480, 481, 482, 483, 484, 485, 486, 487, 488, 489, 490, 491, 492, 493, 494, 495, 496, 497, 498, 499, 500, 501, 502, 503, 504, 505] (by decide +kernel) (by decide +kernel)
set_option maxRecDepth 20000 in
theorem gL_turn_X5_know : GoodIn wsL_turn (wsV RL 78 RX5 yX5_know wsX5_know) := goodIn_app (goodIn_of _ (by decide +kernel)) ggL_turn_X5_know
set_option maxRecDepth 20000 in
theorem ggL_turn_X5_look : GoodIn wsL_turn wsX5_look := goodIn_r _ [358, 11, 294, 324, 325, 326, 9, 327, 328, 329, 330, 18, 331, 22, 332, 333, 334, 335, 336, 337, 338, 339, 340, 341, 342, 343, 344, 345, 346, 106, 347, 301, 302, 303, 20, 42, 43, 304, 305, 306, 307, 23, 52, 53, 54, 55, 159, 24, 308, 309, 109, 310, 311, 163, 164, 312, 359, 360, 361, 362, 363, 364, 365, 366, 204, 205, 206, 67, 367, 368, 369, 370, 371, 182, 34, 35, 479, 480, 481, 482, 483, 484, 485, 486, 487, 488, 489, 490, 491, 492, 493, 494, 495, 496, 497, 498, 499, 500, 501, 502, 503, 504, 505] (by decide +kernel) (by decide +kernel)
set_option maxRecDepth 20000 in
theorem gL_turn_X5_look : GoodIn wsL_turn (wsV RL 84 RX5 yX5_look wsX5_look) := goodIn_app (goodIn_of _ (by decide +kernel)) ggL_turn_X5_look
set_option maxRecDepth 20000 in
theorem ggL_turn_X5_looks : GoodIn wsL_turn wsX5_looks := goodIn_r _ [375, 11, 294, 332, 333, 334, 9, 335, 328, 329, 330, 18, 331, 22, 336, 337, 338, 339, 340, 341, 342, 343, 344, 345, 346, 106, 347, 301, 302, 303, 20, 42, 43, 304, 305, 306, 307, 23, 52, 53, 54, 55, 159, 24, 308, 309, 109, 310, 311, 163, 164, 312, 348, 349, 350, 351, 352, 353, 354, 479, 480, 481, 482, 483, 484, 485, 486, 487, 488, 489, 490, 491, 492, 493, 494, 495, 496, 497, 498, 499, 500, 501, 502, 503, 504, 505] (by decide +kernel) (by decide +kernel)
set_option maxRecDepth 20000 in
theorem gL_turn_X5_looks : GoodIn wsL_turn (wsV RL 87 RX5 yX5_looks wsX5_looks) := goodIn_app (goodIn_of _ (by decide +kernel)) ggL_turn_X5_looks
set_option maxRecDepth 20000 in
theorem ggL_turn_X5_line : GoodIn wsL_turn wsX5_line := goodIn_r _ [379, 11, 294, 332, 333, 334, 9, 335, 300, 301, 302, 18, 303, 20, 106, 42, 43, 304, 305, 306, 307, 23, 52, 53, 54, 55, 159, 24, 308, 309, 109, 310, 311, 163, 164, 312, 479, 480, 481, 482, 483, 484, 485, 486, 487, 488, 489, 490, 491, 492, 493, 494, 495, 496, 497, 498, 499, 500, 501, 502, 503, 504, 505] (by decide +kernel) (by decide +kernel)
set_option maxRecDepth 20000 in
theorem gL_turn_X5_line : GoodIn wsL_turn (wsV RL 90 RX5 yX5_line wsX5_line) := goodIn_app (goodIn_of _ (by decide +kernel)) ggL_turn_X5_line
set_option maxRecDepth 20000 in
theorem ggL_turn_X5_kinds : GoodIn wsL_turn wsX5_kinds := goodIn_r _ [383, 384, 385, 386, 9, 387, 93, 60, 61, 62, 63, 11, 215, 216, 217, 218, 194, 126, 127, 114, 128, 116, 129, 219, 118, 119, 120, 121, 122, 123, 124, 125, 176, 177, 178, 179, 180, 181, 67, 42, 43, 182, 34, 35, 243, 224, 225, 226, 227, 228, 221, 222, 223, 199, 200, 201, 202, 12, 13, 14, 388, 389, 390, 391, 392, 393, 394, 395, 396, 397, 398, 18, 399, 159, 25, 21, 48, 49, 50, 51, 52, 53, 54, 55, 36, 37, 38, 39, 40, 41, 308, 309, 109, 310, 311, 163, 164, 312, 479, 480, 481, 482, 483, 484, 485, 486, 487, 488, 489, 490, 491, 492, 493, 494, 495, 496, 497, 498, 499, 500, 501, 502, 503, 504, 505, 506, 507] (by decide +kernel) (by decide +kernel)
set_option maxRecDepth 20000 in
theorem gL_turn_X5_kinds : GoodIn wsL_turn (wsV RL 93 RX5 yX5_kinds wsX5_kinds) := goodIn_app (goodIn_of _ (by decide +kernel)) ggL_turn_X5_kinds
set_option maxRecDepth 20000 in
theorem ggL_turn_X5_test : GoodIn wsL_turn wsX5_test := goodIn_r _ [403, 294, 384, 385, 386, 9, 387, 93, 60, 61, 62, 63, 11, 215, 216, 217, 218, 194, 126, 127, 114, 128, 116, 129, 219, 118, 119, 120, 121, 122, 123, 124, 125, 176, 177, 178, 179, 180, 181, 67, 42, 43, 182, 34, 35, 243, 224, 225, 226, 227, 228, 221, 222, 223, 199, 200, 201, 202, 12, 13, 14, 388, 389, 390, 391, 392, 393, 394, 395, 396, 397, 398, 18, 399, 159, 25, 21, 48, 49, 50, 51, 52, 53, 54, 55, 36, 37, 38, 39, 40, 41, 308, 309, 109, 310, 311, 163, 164, 312, 404, 405, 406, 407, 364, 365, 366, 204, 205, 206, 359, 341, 342, 368, 369, 370, 371, 479, 480, 481, 482, 483, 484, 485, 486, 487, 488, 489, 490, 491, 492, 493, 494, 495, 496, 497, 498, 499, 500, 501, 502, 503, 504, 505, 506, 507] (by decide +kernel) (by decide +kernel)
set_option maxRecDepth 20000 in
theorem gL_turn_X5_test : GoodIn wsL_turn (wsV RL 96 RX5 yX5_test wsX5_test) := goodIn_app (goodIn_of _ (by decide +kernel)) ggL_turn_X5_test
set_option maxRecDepth 20000 in
theorem ggL_turn_X5_whose : GoodIn wsL_turn wsX5_whose := goodIn_r _ [411, 93, 11, 294, 194, 126, 127, 114, 128, 116, 129, 219, 118, 119, 120, 121, 122, 123, 124, 125, 176, 177, 178, 9, 179, 180, 181, 67, 42, 43, 182, 34, 35, 243, 412, 413, 414, 415, 300, 301, 302, 18, 303, 20, 106, 304, 305, 306, 307, 23, 52, 53, 54, 55, 159, 24, 308, 309, 109, 310, 311, 163, 164, 312, 224, 225, 226, 227, 228, 221, 222, 223, 199, 200, 201, 202, 479, 480, 481, 482, 483, 484, 485, 486, 487, 488, 489, 490, 491, 492, 493, 494, 495, 496, 497, 498, 499, 500, 501, 502, 503, 504, 505, 506, 507] (by decide +kernel) (by decide +kernel)
set_option maxRecDepth 20000 in
theorem gL_turn_X5_whose : GoodIn wsL_turn (wsV RL 99 RX5 yX5_whose wsX5_whose) := goodIn_app (goodIn_of _ (by decide +kernel)) ggL_turn_X5_whose
set_option maxRecDepth 20000 in
theorem ggL_turn_X5_duel : GoodIn wsL_turn wsX5_duel := goodIn_r _ [419, 11, 420, 12, 13, 9, 14, 421, 422, 423, 424, 425, 426, 427, 428, 204, 205, 206, 160, 161, 162, 163, 54, 164, 165, 166, 167, 168, 169, 170, 171, 42, 43, 34, 35, 429, 430, 431, 432, 53, 55, 433, 434, 435, 436, 479, 480, 481, 482, 483, 484, 485, 486, 487, 488, 489, 490, 491, 492, 493, 494, 495, 496, 497, 498, 499, 500, 501, 502, 503, 504, 505, 512, 513, 514] (by decide +kernel) (by decide +kernel)
set_option maxRecDepth 20000 in
theorem gL_turn_X5_duel : GoodIn wsL_turn (wsV RL 108 RX5 yX5_duel wsX5_duel) := goodIn_app (goodIn_of _ (by decide +kernel)) ggL_turn_X5_duel
set_option maxRecDepth 20000 in
theorem ggL_turn_X5_odds : GoodIn wsL_turn wsX5_odds := goodIn_r _ [440, 11, 67, 42, 9, 43, 44, 45, 46, 18, 47, 22, 48, 49, 50, 51, 52, 53, 54, 55, 36, 37, 38, 39, 40, 41, 441, 442, 443, 444, 445, 446, 447, 448, 449, 479, 480, 481, 482, 483, 484, 485, 486, 487, 488, 489, 490, 491, 492, 493, 494, 495, 496, 497, 498, 499, 500, 501, 502, 503, 504, 505] (by decide +kernel) (by decide +kernel)
set_option maxRecDepth 20000 in
theorem gL_turn_X5_odds : GoodIn wsL_turn (wsV RL 111 RX5 yX5_odds wsX5_odds) := goodIn_app (goodIn_of _ (by decide +kernel)) ggL_turn_X5_odds
set_option maxRecDepth 20000 in
theorem ggL_turn_X5_mid : GoodIn wsL_turn wsX5_mid := goodIn_r _ [453, 11, 67, 42, 9, 43, 454, 455, 456, 18, 457, 22, 48, 49, 50, 51, 52, 53, 54, 55, 36, 37, 38, 39, 40, 41, 441, 442, 443, 444, 445, 446, 447, 448, 449, 479, 480, 481, 482, 483, 484, 485, 486, 487, 488, 489, 490, 491, 492, 493, 494, 495, 496, 497, 498, 499, 500, 501, 502, 503, 504, 505] (by decide +kernel) (by decide +kernel)
set_option maxRecDepth 20000 in
theorem gL_turn_X5_mid : GoodIn wsL_turn (wsV RL 131 RX5 yX5_mid wsX5_mid) := goodIn_app (goodIn_of _ (by decide +kernel)) ggL_turn_X5_mid
set_option maxRecDepth 20000 in
theorem ggL_turn_X5_lots : GoodIn wsL_turn wsX5_lots := goodIn_r _ [461, 462, 11, 463, 464, 465, 466, 467, 9, 468, 469, 470, 471, 472, 473, 15, 16, 17, 18, 19, 20, 21, 22, 23, 24, 25, 26, 27, 28, 29, 30, 31, 32, 33, 34, 35, 36, 37, 38, 39, 40, 41, 42, 43, 68, 69, 70, 71, 479, 480, 481, 482, 483, 484, 485, 486, 487, 488, 489, 490, 491, 492, 493, 494, 495, 496, 497, 498, 499, 500, 501, 502, 503, 504, 505] (by decide +kernel) (by decide +kernel)
set_option maxRecDepth 20000 in
theorem gL_turn_X5_lots : GoodIn wsL_turn (wsV RL 114 RX5 yX5_lots wsX5_lots) := goodIn_app (goodIn_of _ (by decide +kernel)) ggL_turn_X5_lots
set_option maxRecDepth 20000 in
theorem ggL_turn_X5_least : GoodIn wsL_turn wsX5_least := goodIn_r _ [477, 11, 365, 53, 54, 55, 60, 61, 62, 9, 63, 12, 13, 14, 478, 37, 38, 18, 39, 40, 41, 42, 43, 479, 480, 481, 482, 483, 484, 485, 486, 487, 488, 489, 490, 491, 492, 493, 494, 495, 496, 497, 498, 499, 500, 501, 502, 503, 504, 505] (by decide +kernel) (by decide +kernel)
set_option maxRecDepth 20000 in
theorem gL_turn_X5_least : GoodIn wsL_turn (wsV RL 105 RX5 yX5_least wsX5_least) := goodIn_app (goodIn_of _ (by decide +kernel)) ggL_turn_X5_least
theorem dL_turn_0 : decode cL_turn 0 = .ok (.iload_n 1, 1) := by decide +kernel
theorem dL_turn_1 : decode cL_turn 1 = .ok (.iconst 4, 1) := by decide +kernel
theorem dL_turn_2 : decode cL_turn 2 = .ok (.ishr, 1) := by decide +kernel
theorem dL_turn_3 : decode cL_turn 3 = .ok (.istore_n 2, 1) := by decide +kernel
theorem dL_turn_4 : decode cL_turn 4 = .ok (.iload_n 1, 1) := by decide +kernel
theorem dL_turn_5 : decode cL_turn 5 = .ok (.bipush 15, 2) := by decide +kernel
theorem dL_turn_7 : decode cL_turn 7 = .ok (.iand, 1) := by decide +kernel
theorem dL_turn_8 : decode cL_turn 8 = .ok (.tableswitch 429 0 14 #[76, 76, 87, 105, 116, 126, 142, 170, 209, 230, 249, 295, 323, 365, 403], 76) := by decide +kernel
theorem dL_turn_84 : decode cL_turn 84 = .ok (.aload_n 0, 1) := by decide +kernel
theorem dL_turn_85 : decode cL_turn 85 = .ok (.iload_n 2, 1) := by decide +kernel
theorem dL_turn_86 : decode cL_turn 86 = .ok (.bipush 21, 2) := by decide +kernel
theorem dL_turn_88 : decode cL_turn 88 = .ok (.invokestatic 123, 3) := by decide +kernel
theorem dL_turn_91 : decode cL_turn 91 = .ok (.invokevirtual 57, 3) := by decide +kernel
theorem dL_turn_94 : decode cL_turn 94 = .ok (.ireturn, 1) := by decide +kernel
theorem dL_turn_95 : decode cL_turn 95 = .ok (.aload_n 0, 1) := by decide +kernel
theorem dL_turn_96 : decode cL_turn 96 = .ok (.iload_n 2, 1) := by decide +kernel
theorem dL_turn_97 : decode cL_turn 97 = .ok (.iconst 5, 1) := by decide +kernel
theorem dL_turn_98 : decode cL_turn 98 = .ok (.invokestatic 123, 3) := by decide +kernel
theorem dL_turn_101 : decode cL_turn 101 = .ok (.iload_n 2, 1) := by decide +kernel
theorem dL_turn_102 : decode cL_turn 102 = .ok (.iconst 3, 1) := by decide +kernel
theorem dL_turn_103 : decode cL_turn 103 = .ok (.ishr, 1) := by decide +kernel
theorem dL_turn_104 : decode cL_turn 104 = .ok (.bipush 6, 2) := by decide +kernel
theorem dL_turn_106 : decode cL_turn 106 = .ok (.invokestatic 123, 3) := by decide +kernel
theorem dL_turn_109 : decode cL_turn 109 = .ok (.invokevirtual 60, 3) := by decide +kernel
theorem dL_turn_112 : decode cL_turn 112 = .ok (.ireturn, 1) := by decide +kernel
theorem dL_turn_113 : decode cL_turn 113 = .ok (.aload_n 0, 1) := by decide +kernel
theorem dL_turn_114 : decode cL_turn 114 = .ok (.iload_n 2, 1) := by decide +kernel
theorem dL_turn_115 : decode cL_turn 115 = .ok (.bipush 6, 2) := by decide +kernel
theorem dL_turn_117 : decode cL_turn 117 = .ok (.invokestatic 123, 3) := by decide +kernel
theorem dL_turn_120 : decode cL_turn 120 = .ok (.invokevirtual 63, 3) := by decide +kernel
theorem dL_turn_123 : decode cL_turn 123 = .ok (.ireturn, 1) := by decide +kernel
theorem dL_turn_124 : decode cL_turn 124 = .ok (.aload_n 0, 1) := by decide +kernel
theorem dL_turn_125 : decode cL_turn 125 = .ok (.iload_n 2, 1) := by decide +kernel
theorem dL_turn_126 : decode cL_turn 126 = .ok (.iconst 5, 1) := by decide +kernel
theorem dL_turn_127 : decode cL_turn 127 = .ok (.invokestatic 123, 3) := by decide +kernel
theorem dL_turn_130 : decode cL_turn 130 = .ok (.invokevirtual 66, 3) := by decide +kernel
theorem dL_turn_133 : decode cL_turn 133 = .ok (.ireturn, 1) := by decide +kernel
theorem dL_turn_134 : decode cL_turn 134 = .ok (.aload_n 0, 1) := by decide +kernel
theorem dL_turn_135 : decode cL_turn 135 = .ok (.aload_n 0, 1) := by decide +kernel
theorem dL_turn_136 : decode cL_turn 136 = .ok (.iconst 2, 1) := by decide +kernel
theorem dL_turn_137 : decode cL_turn 137 = .ok (.invokevirtual 117, 3) := by decide +kernel
theorem dL_turn_140 : decode cL_turn 140 = .ok (.iload_n 2, 1) := by decide +kernel
theorem dL_turn_141 : decode cL_turn 141 = .ok (.iconst 4, 1) := by decide +kernel
theorem dL_turn_142 : decode cL_turn 142 = .ok (.invokestatic 123, 3) := by decide +kernel
theorem dL_turn_145 : decode cL_turn 145 = .ok (.isub, 1) := by decide +kernel
theorem dL_turn_146 : decode cL_turn 146 = .ok (.invokevirtual 69, 3) := by decide +kernel
theorem dL_turn_149 : decode cL_turn 149 = .ok (.ireturn, 1) := by decide +kernel
theorem dL_turn_150 : decode cL_turn 150 = .ok (.iload_n 2, 1) := by decide +kernel
theorem dL_turn_151 : decode cL_turn 151 = .ok (.iconst 1, 1) := by decide +kernel
theorem dL_turn_152 : decode cL_turn 152 = .ok (.iand, 1) := by decide +kernel
theorem dL_turn_153 : decode cL_turn 153 = .ok (.ifCond .ne 15, 3) := by decide +kernel
theorem dL_turn_156 : decode cL_turn 156 = .ok (.aload_n 0, 1) := by decide +kernel
theorem dL_turn_157 : decode cL_turn 157 = .ok (.iload_n 2, 1) := by decide +kernel
theorem dL_turn_158 : decode cL_turn 158 = .ok (.iconst 1, 1) := by decide +kernel
theorem dL_turn_159 : decode cL_turn 159 = .ok (.ishr, 1) := by decide +kernel
theorem dL_turn_160 : decode cL_turn 160 = .ok (.iconst 1, 1) := by decide +kernel
theorem dL_turn_161 : decode cL_turn 161 = .ok (.iand, 1) := by decide +kernel
theorem dL_turn_162 : decode cL_turn 162 = .ok (.invokevirtual 72, 3) := by decide +kernel
theorem dL_turn_165 : decode cL_turn 165 = .ok (.goto 12, 3) := by decide +kernel
theorem dL_turn_168 : decode cL_turn 168 = .ok (.aload_n 0, 1) := by decide +kernel
theorem dL_turn_169 : decode cL_turn 169 = .ok (.iload_n 2, 1) := by decide +kernel
theorem dL_turn_170 : decode cL_turn 170 = .ok (.iconst 1, 1) := by decide +kernel
theorem dL_turn_171 : decode cL_turn 171 = .ok (.ishr, 1) := by decide +kernel
theorem dL_turn_172 : decode cL_turn 172 = .ok (.iconst 1, 1) := by decide +kernel
theorem dL_turn_173 : decode cL_turn 173 = .ok (.iand, 1) := by decide +kernel
theorem dL_turn_174 : decode cL_turn 174 = .ok (.invokevirtual 75, 3) := by decide +kernel
theorem dL_turn_177 : decode cL_turn 177 = .ok (.ireturn, 1) := by decide +kernel
theorem dL_turn_178 : decode cL_turn 178 = .ok (.iload_n 2, 1) := by decide +kernel
theorem dL_turn_179 : decode cL_turn 179 = .ok (.bipush 7, 2) := by decide +kernel
theorem dL_turn_181 : decode cL_turn 181 = .ok (.iand, 1) := by decide +kernel
theorem dL_turn_182 : decode cL_turn 182 = .ok (.ifCond .ne 18, 3) := by decide +kernel
theorem dL_turn_185 : decode cL_turn 185 = .ok (.aload_n 0, 1) := by decide +kernel
theorem dL_turn_186 : decode cL_turn 186 = .ok (.invokestatic 128, 3) := by decide +kernel
theorem dL_turn_189 : decode cL_turn 189 = .ok (.ifCond .eq 7, 3) := by decide +kernel
theorem dL_turn_192 : decode cL_turn 192 = .ok (.iconst 1, 1) := by decide +kernel
theorem dL_turn_193 : decode cL_turn 193 = .ok (.goto 23, 3) := by decide +kernel
theorem dL_turn_196 : decode cL_turn 196 = .ok (.iconst 0, 1) := by decide +kernel
theorem dL_turn_197 : decode cL_turn 197 = .ok (.goto 19, 3) := by decide +kernel
theorem dL_turn_200 : decode cL_turn 200 = .ok (.aload_n 0, 1) := by decide +kernel
theorem dL_turn_201 : decode cL_turn 201 = .ok (.iload_n 2, 1) := by decide +kernel
theorem dL_turn_202 : decode cL_turn 202 = .ok (.iconst 3, 1) := by decide +kernel
theorem dL_turn_203 : decode cL_turn 203 = .ok (.ishr, 1) := by decide +kernel
theorem dL_turn_204 : decode cL_turn 204 = .ok (.iconst 1, 1) := by decide +kernel
theorem dL_turn_205 : decode cL_turn 205 = .ok (.iand, 1) := by decide +kernel
theorem dL_turn_206 : decode cL_turn 206 = .ok (.iload_n 2, 1) := by decide +kernel
theorem dL_turn_207 : decode cL_turn 207 = .ok (.iconst 4, 1) := by decide +kernel
theorem dL_turn_208 : decode cL_turn 208 = .ok (.ishr, 1) := by decide +kernel
theorem dL_turn_209 : decode cL_turn 209 = .ok (.iconst 5, 1) := by decide +kernel
theorem dL_turn_210 : decode cL_turn 210 = .ok (.invokestatic 123, 3) := by decide +kernel
theorem dL_turn_213 : decode cL_turn 213 = .ok (.invokevirtual 9, 3) := by decide +kernel
theorem dL_turn_216 : decode cL_turn 216 = .ok (.ireturn, 1) := by decide +kernel
theorem dL_turn_217 : decode cL_turn 217 = .ok (.aload_n 0, 1) := by decide +kernel
theorem dL_turn_218 : decode cL_turn 218 = .ok (.iload_n 2, 1) := by decide +kernel
theorem dL_turn_219 : decode cL_turn 219 = .ok (.iconst 1, 1) := by decide +kernel
theorem dL_turn_220 : decode cL_turn 220 = .ok (.iand, 1) := by decide +kernel
theorem dL_turn_221 : decode cL_turn 221 = .ok (.iload_n 2, 1) := by decide +kernel
theorem dL_turn_222 : decode cL_turn 222 = .ok (.iconst 1, 1) := by decide +kernel
theorem dL_turn_223 : decode cL_turn 223 = .ok (.ishr, 1) := by decide +kernel
theorem dL_turn_224 : decode cL_turn 224 = .ok (.iconst 3, 1) := by decide +kernel
theorem dL_turn_225 : decode cL_turn 225 = .ok (.iand, 1) := by decide +kernel
theorem dL_turn_226 : decode cL_turn 226 = .ok (.iload_n 2, 1) := by decide +kernel
theorem dL_turn_227 : decode cL_turn 227 = .ok (.iconst 3, 1) := by decide +kernel
theorem dL_turn_228 : decode cL_turn 228 = .ok (.ishr, 1) := by decide +kernel
theorem dL_turn_229 : decode cL_turn 229 = .ok (.bipush 11, 2) := by decide +kernel
theorem dL_turn_231 : decode cL_turn 231 = .ok (.invokestatic 123, 3) := by decide +kernel
theorem dL_turn_234 : decode cL_turn 234 = .ok (.invokevirtual 15, 3) := by decide +kernel
theorem dL_turn_237 : decode cL_turn 237 = .ok (.ireturn, 1) := by decide +kernel
theorem dL_turn_238 : decode cL_turn 238 = .ok (.aload_n 0, 1) := by decide +kernel
theorem dL_turn_239 : decode cL_turn 239 = .ok (.iload_n 2, 1) := by decide +kernel
theorem dL_turn_240 : decode cL_turn 240 = .ok (.iconst 5, 1) := by decide +kernel
theorem dL_turn_241 : decode cL_turn 241 = .ok (.invokestatic 123, 3) := by decide +kernel
theorem dL_turn_244 : decode cL_turn 244 = .ok (.iconst 1, 1) := by decide +kernel
theorem dL_turn_245 : decode cL_turn 245 = .ok (.iload_n 2, 1) := by decide +kernel
theorem dL_turn_246 : decode cL_turn 246 = .ok (.iconst 3, 1) := by decide +kernel
theorem dL_turn_247 : decode cL_turn 247 = .ok (.ishr, 1) := by decide +kernel
theorem dL_turn_248 : decode cL_turn 248 = .ok (.iconst 5, 1) := by decide +kernel
theorem dL_turn_249 : decode cL_turn 249 = .ok (.invokestatic 123, 3) := by decide +kernel
theorem dL_turn_252 : decode cL_turn 252 = .ok (.iadd, 1) := by decide +kernel
theorem dL_turn_253 : decode cL_turn 253 = .ok (.invokevirtual 48, 3) := by decide +kernel
theorem dL_turn_256 : decode cL_turn 256 = .ok (.ireturn, 1) := by decide +kernel
theorem dL_turn_257 : decode cL_turn 257 = .ok (.iload_n 2, 1) := by decide +kernel
theorem dL_turn_258 : decode cL_turn 258 = .ok (.iconst 1, 1) := by decide +kernel
theorem dL_turn_259 : decode cL_turn 259 = .ok (.iand, 1) := by decide +kernel
theorem dL_turn_260 : decode cL_turn 260 = .ok (.ifCond .ne 24, 3) := by decide +kernel
theorem dL_turn_263 : decode cL_turn 263 = .ok (.aload_n 0, 1) := by decide +kernel
theorem dL_turn_264 : decode cL_turn 264 = .ok (.iload_n 2, 1) := by decide +kernel
theorem dL_turn_265 : decode cL_turn 265 = .ok (.iconst 1, 1) := by decide +kernel
theorem dL_turn_266 : decode cL_turn 266 = .ok (.ishr, 1) := by decide +kernel
theorem dL_turn_267 : decode cL_turn 267 = .ok (.bipush 32, 2) := by decide +kernel
theorem dL_turn_269 : decode cL_turn 269 = .ok (.invokestatic 123, 3) := by decide +kernel
theorem dL_turn_272 : decode cL_turn 272 = .ok (.iload_n 2, 1) := by decide +kernel
theorem dL_turn_273 : decode cL_turn 273 = .ok (.bipush 6, 2) := by decide +kernel
theorem dL_turn_275 : decode cL_turn 275 = .ok (.ishr, 1) := by decide +kernel
theorem dL_turn_276 : decode cL_turn 276 = .ok (.iconst 3, 1) := by decide +kernel
theorem dL_turn_277 : decode cL_turn 277 = .ok (.iand, 1) := by decide +kernel
theorem dL_turn_278 : decode cL_turn 278 = .ok (.invokevirtual 78, 3) := by decide +kernel
theorem dL_turn_281 : decode cL_turn 281 = .ok (.goto 21, 3) := by decide +kernel
theorem dL_turn_284 : decode cL_turn 284 = .ok (.aload_n 0, 1) := by decide +kernel
theorem dL_turn_285 : decode cL_turn 285 = .ok (.iload_n 2, 1) := by decide +kernel
theorem dL_turn_286 : decode cL_turn 286 = .ok (.iconst 1, 1) := by decide +kernel
theorem dL_turn_287 : decode cL_turn 287 = .ok (.ishr, 1) := by decide +kernel
theorem dL_turn_288 : decode cL_turn 288 = .ok (.bipush 32, 2) := by decide +kernel
theorem dL_turn_290 : decode cL_turn 290 = .ok (.invokestatic 123, 3) := by decide +kernel
theorem dL_turn_293 : decode cL_turn 293 = .ok (.iload_n 2, 1) := by decide +kernel
theorem dL_turn_294 : decode cL_turn 294 = .ok (.bipush 6, 2) := by decide +kernel
theorem dL_turn_296 : decode cL_turn 296 = .ok (.ishr, 1) := by decide +kernel
theorem dL_turn_297 : decode cL_turn 297 = .ok (.iconst 3, 1) := by decide +kernel
theorem dL_turn_298 : decode cL_turn 298 = .ok (.iand, 1) := by decide +kernel
theorem dL_turn_299 : decode cL_turn 299 = .ok (.invokevirtual 84, 3) := by decide +kernel
theorem dL_turn_302 : decode cL_turn 302 = .ok (.ireturn, 1) := by decide +kernel
theorem dL_turn_303 : decode cL_turn 303 = .ok (.iload_n 2, 1) := by decide +kernel
theorem dL_turn_304 : decode cL_turn 304 = .ok (.iconst 1, 1) := by decide +kernel
theorem dL_turn_305 : decode cL_turn 305 = .ok (.iand, 1) := by decide +kernel
theorem dL_turn_306 : decode cL_turn 306 = .ok (.ifCond .ne 15, 3) := by decide +kernel
theorem dL_turn_309 : decode cL_turn 309 = .ok (.aload_n 0, 1) := by decide +kernel
theorem dL_turn_310 : decode cL_turn 310 = .ok (.iload_n 2, 1) := by decide +kernel
theorem dL_turn_311 : decode cL_turn 311 = .ok (.iconst 1, 1) := by decide +kernel
theorem dL_turn_312 : decode cL_turn 312 = .ok (.ishr, 1) := by decide +kernel
theorem dL_turn_313 : decode cL_turn 313 = .ok (.iconst 3, 1) := by decide +kernel
theorem dL_turn_314 : decode cL_turn 314 = .ok (.iand, 1) := by decide +kernel
theorem dL_turn_315 : decode cL_turn 315 = .ok (.invokevirtual 87, 3) := by decide +kernel
theorem dL_turn_318 : decode cL_turn 318 = .ok (.goto 12, 3) := by decide +kernel
theorem dL_turn_321 : decode cL_turn 321 = .ok (.aload_n 0, 1) := by decide +kernel
theorem dL_turn_322 : decode cL_turn 322 = .ok (.iload_n 2, 1) := by decide +kernel
theorem dL_turn_323 : decode cL_turn 323 = .ok (.iconst 1, 1) := by decide +kernel
theorem dL_turn_324 : decode cL_turn 324 = .ok (.ishr, 1) := by decide +kernel
theorem dL_turn_325 : decode cL_turn 325 = .ok (.iconst 3, 1) := by decide +kernel
theorem dL_turn_326 : decode cL_turn 326 = .ok (.iand, 1) := by decide +kernel
theorem dL_turn_327 : decode cL_turn 327 = .ok (.invokevirtual 90, 3) := by decide +kernel
theorem dL_turn_330 : decode cL_turn 330 = .ok (.ireturn, 1) := by decide +kernel
theorem dL_turn_331 : decode cL_turn 331 = .ok (.iload_n 2, 1) := by decide +kernel
theorem dL_turn_332 : decode cL_turn 332 = .ok (.iconst 1, 1) := by decide +kernel
theorem dL_turn_333 : decode cL_turn 333 = .ok (.iand, 1) := by decide +kernel
theorem dL_turn_334 : decode cL_turn 334 = .ok (.ifCond .ne 22, 3) := by decide +kernel
theorem dL_turn_337 : decode cL_turn 337 = .ok (.aload_n 0, 1) := by decide +kernel
theorem dL_turn_338 : decode cL_turn 338 = .ok (.iload_n 2, 1) := by decide +kernel
theorem dL_turn_339 : decode cL_turn 339 = .ok (.iconst 1, 1) := by decide +kernel
theorem dL_turn_340 : decode cL_turn 340 = .ok (.ishr, 1) := by decide +kernel
theorem dL_turn_341 : decode cL_turn 341 = .ok (.iconst 5, 1) := by decide +kernel
theorem dL_turn_342 : decode cL_turn 342 = .ok (.invokestatic 123, 3) := by decide +kernel
theorem dL_turn_345 : decode cL_turn 345 = .ok (.iload_n 2, 1) := by decide +kernel
theorem dL_turn_346 : decode cL_turn 346 = .ok (.iconst 4, 1) := by decide +kernel
theorem dL_turn_347 : decode cL_turn 347 = .ok (.ishr, 1) := by decide +kernel
theorem dL_turn_348 : decode cL_turn 348 = .ok (.iconst 1, 1) := by decide +kernel
theorem dL_turn_349 : decode cL_turn 349 = .ok (.iand, 1) := by decide +kernel
theorem dL_turn_350 : decode cL_turn 350 = .ok (.invokevirtual 93, 3) := by decide +kernel
theorem dL_turn_353 : decode cL_turn 353 = .ok (.goto 19, 3) := by decide +kernel
theorem dL_turn_356 : decode cL_turn 356 = .ok (.aload_n 0, 1) := by decide +kernel
theorem dL_turn_357 : decode cL_turn 357 = .ok (.iload_n 2, 1) := by decide +kernel
theorem dL_turn_358 : decode cL_turn 358 = .ok (.iconst 1, 1) := by decide +kernel
theorem dL_turn_359 : decode cL_turn 359 = .ok (.ishr, 1) := by decide +kernel
theorem dL_turn_360 : decode cL_turn 360 = .ok (.iconst 5, 1) := by decide +kernel
theorem dL_turn_361 : decode cL_turn 361 = .ok (.invokestatic 123, 3) := by decide +kernel
theorem dL_turn_364 : decode cL_turn 364 = .ok (.iload_n 2, 1) := by decide +kernel
theorem dL_turn_365 : decode cL_turn 365 = .ok (.iconst 4, 1) := by decide +kernel
theorem dL_turn_366 : decode cL_turn 366 = .ok (.ishr, 1) := by decide +kernel
theorem dL_turn_367 : decode cL_turn 367 = .ok (.iconst 1, 1) := by decide +kernel
theorem dL_turn_368 : decode cL_turn 368 = .ok (.iand, 1) := by decide +kernel
theorem dL_turn_369 : decode cL_turn 369 = .ok (.invokevirtual 96, 3) := by decide +kernel
theorem dL_turn_372 : decode cL_turn 372 = .ok (.ireturn, 1) := by decide +kernel
theorem dL_turn_373 : decode cL_turn 373 = .ok (.iload_n 2, 1) := by decide +kernel
theorem dL_turn_374 : decode cL_turn 374 = .ok (.iconst 1, 1) := by decide +kernel
theorem dL_turn_375 : decode cL_turn 375 = .ok (.iand, 1) := by decide +kernel
theorem dL_turn_376 : decode cL_turn 376 = .ok (.ifCond .ne 15, 3) := by decide +kernel
theorem dL_turn_379 : decode cL_turn 379 = .ok (.aload_n 0, 1) := by decide +kernel
theorem dL_turn_380 : decode cL_turn 380 = .ok (.iload_n 2, 1) := by decide +kernel
theorem dL_turn_381 : decode cL_turn 381 = .ok (.iconst 1, 1) := by decide +kernel
theorem dL_turn_382 : decode cL_turn 382 = .ok (.ishr, 1) := by decide +kernel
theorem dL_turn_383 : decode cL_turn 383 = .ok (.iconst 1, 1) := by decide +kernel
theorem dL_turn_384 : decode cL_turn 384 = .ok (.iand, 1) := by decide +kernel
theorem dL_turn_385 : decode cL_turn 385 = .ok (.invokevirtual 99, 3) := by decide +kernel
theorem dL_turn_388 : decode cL_turn 388 = .ok (.goto 22, 3) := by decide +kernel
theorem dL_turn_391 : decode cL_turn 391 = .ok (.aload_n 0, 1) := by decide +kernel
theorem dL_turn_392 : decode cL_turn 392 = .ok (.iload_n 2, 1) := by decide +kernel
theorem dL_turn_393 : decode cL_turn 393 = .ok (.iconst 1, 1) := by decide +kernel
theorem dL_turn_394 : decode cL_turn 394 = .ok (.ishr, 1) := by decide +kernel
theorem dL_turn_395 : decode cL_turn 395 = .ok (.iconst 3, 1) := by decide +kernel
theorem dL_turn_396 : decode cL_turn 396 = .ok (.invokestatic 123, 3) := by decide +kernel
theorem dL_turn_399 : decode cL_turn 399 = .ok (.iload_n 2, 1) := by decide +kernel
theorem dL_turn_400 : decode cL_turn 400 = .ok (.iconst 3, 1) := by decide +kernel
theorem dL_turn_401 : decode cL_turn 401 = .ok (.ishr, 1) := by decide +kernel
theorem dL_turn_402 : decode cL_turn 402 = .ok (.bipush 21, 2) := by decide +kernel
theorem dL_turn_404 : decode cL_turn 404 = .ok (.invokestatic 123, 3) := by decide +kernel
theorem dL_turn_407 : decode cL_turn 407 = .ok (.invokevirtual 108, 3) := by decide +kernel
theorem dL_turn_410 : decode cL_turn 410 = .ok (.ireturn, 1) := by decide +kernel
theorem dL_turn_411 : decode cL_turn 411 = .ok (.iload_n 2, 1) := by decide +kernel
theorem dL_turn_412 : decode cL_turn 412 = .ok (.iconst 1, 1) := by decide +kernel
theorem dL_turn_413 : decode cL_turn 413 = .ok (.iand, 1) := by decide +kernel
theorem dL_turn_414 : decode cL_turn 414 = .ok (.ifCond .ne 18, 3) := by decide +kernel
theorem dL_turn_417 : decode cL_turn 417 = .ok (.aload_n 0, 1) := by decide +kernel
theorem dL_turn_418 : decode cL_turn 418 = .ok (.iload_n 2, 1) := by decide +kernel
theorem dL_turn_419 : decode cL_turn 419 = .ok (.iconst 1, 1) := by decide +kernel
theorem dL_turn_420 : decode cL_turn 420 = .ok (.ishr, 1) := by decide +kernel
theorem dL_turn_421 : decode cL_turn 421 = .ok (.bipush 7, 2) := by decide +kernel
