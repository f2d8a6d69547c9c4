set_option maxRecDepth 20000 in
theorem ggL_law_L_turn_1 : GoodIn wsL_law wsL_turn_r1 := goodIn_r _ [604, 605, 70, 606, 607, 336, 337, 338, 2, 339, 24, 321, 322, 323, 340, 341, 342, 23, 343, 56, 160, 158, 57, 58] (by decide +kernel) (by decide +kernel)
set_option maxRecDepth 20000 in
theorem ggL_law_L_turn_2 : GoodIn wsL_law wsL_turn_r2 := goodIn_r _ [55, 344, 345, 346, 347, 59, 161, 60, 61, 93, 94, 332, 333, 334, 335, 51, 53, 90, 91, 348, 349, 350, 351, 328] (by decide +kernel) (by decide +kernel)
set_option maxRecDepth 20000 in
theorem ggL_law_L_turn_3 : GoodIn wsL_law wsL_turn_r3 := goodIn_r _ [329, 330, 331, 278, 279, 199, 280, 352, 353, 354, 355, 266, 267, 268, 269, 356, 357, 358, 89, 359, 360, 361, 362, 363] (by decide +kernel) (by decide +kernel)
set_option maxRecDepth 20000 in
theorem ggL_law_L_turn_4 : GoodIn wsL_law wsL_turn_r4 := goodIn_r _ [364, 365, 366, 367, 368, 369, 370, 159, 371, 372, 373, 374, 375, 376, 377, 378, 570, 571, 572, 573, 15, 16, 574, 493] (by decide +kernel) (by decide +kernel)
set_option maxRecDepth 20000 in
theorem ggL_law_L_turn_5 : GoodIn wsL_law wsL_turn_r5 := goodIn_r _ [494, 575, 576, 577, 578, 579, 580, 581, 582, 52, 583, 299, 185, 300, 584, 585, 586, 12, 587, 37, 588, 117, 118, 119] (by decide +kernel) (by decide +kernel)
set_option maxRecDepth 20000 in
theorem ggL_law_L_turn_6 : GoodIn wsL_law wsL_turn_r6 := goodIn_r _ [120, 121, 122, 123, 103, 81, 82, 83, 38, 589, 590, 591, 592, 25, 593, 594, 595, 596, 208, 209, 210, 211, 379, 380] (by decide +kernel) (by decide +kernel)
set_option maxRecDepth 20000 in
theorem ggL_law_L_turn_7 : GoodIn wsL_law wsL_turn_r7 := goodIn_r _ [381, 382, 383, 384, 385, 386, 387, 388, 389, 390, 191, 192, 193, 194, 54, 195, 196, 197, 198, 200, 201, 202, 203, 204] (by decide +kernel) (by decide +kernel)
set_option maxRecDepth 20000 in
theorem ggL_law_L_turn_8 : GoodIn wsL_law wsL_turn_r8 := goodIn_at 16 (w := Cond.code yL_delta cL_delta 1 (some .boolean)) rfl (goodIn_r _ [205, 206, 207, 391, 392, 393, 394, 84, 85, 86, 87, 88, 31, 92, 68, 69] (by decide +kernel) (by decide +kernel)) (List.mem_of_getElem? (i := 71) rfl) rfl (goodIn_r _ [72, 73, 74, 75, 76, 77, 78] (by decide +kernel) (by decide +kernel))
set_option maxRecDepth 20000 in
theorem ggL_law_L_turn_9 : GoodIn wsL_law wsL_turn_r9 := goodIn_r _ [79, 80, 95, 96, 97, 98, 99, 100, 101, 102, 39, 40, 41, 42, 104, 105, 106, 107, 108, 109, 110, 111, 112, 113] (by decide +kernel) (by decide +kernel)
set_option maxRecDepth 20000 in
theorem ggL_law_L_turn_10 : GoodIn wsL_law wsL_turn_r10 := goodIn_r _ [114, 115, 116, 124, 125, 126, 127, 128, 129, 130, 131, 132, 133, 134, 135, 136, 137, 138, 139, 140, 20, 141, 142, 143] (by decide +kernel) (by decide +kernel)
set_option maxRecDepth 20000 in
theorem ggL_law_L_turn_11 : GoodIn wsL_law wsL_turn_r11 := goodIn_r _ [144, 145, 146, 147, 148, 149, 19, 150, 151, 152, 153, 47, 154, 155, 156, 157, 162, 163, 164, 165, 166, 167, 168, 169] (by decide +kernel) (by decide +kernel)
set_option maxRecDepth 20000 in
theorem ggL_law_L_turn_12 : GoodIn wsL_law wsL_turn_r12 := goodIn_r _ [170, 171, 172, 173, 174, 175, 176, 177, 178, 179, 180, 181, 182, 183, 184, 186, 187, 188, 189, 190, 212, 220, 221, 222] (by decide +kernel) (by decide +kernel)
set_option maxRecDepth 20000 in
theorem ggL_law_L_turn_13 : GoodIn wsL_law wsL_turn_r13 := goodIn_r _ [223, 224, 225, 226, 227, 228, 294, 295, 296, 297, 298, 301, 282, 283, 284, 285, 286, 287, 288, 289, 290, 291, 292, 293] (by decide +kernel) (by decide +kernel)
set_option maxRecDepth 20000 in
theorem ggL_law_L_turn_14 : GoodIn wsL_law wsL_turn_r14 := goodIn_r _ [302, 303, 304, 305, 306, 307, 308, 395, 396, 397, 398, 399, 400, 401, 402, 403, 404, 405, 406, 313, 314, 315, 316, 407] (by decide +kernel) (by decide +kernel)
set_option maxRecDepth 20000 in
theorem ggL_law_L_turn_15 : GoodIn wsL_law wsL_turn_r15 := goodIn_r _ [408, 409, 410, 411, 412, 413, 414, 415, 416, 417, 281, 418, 419, 420, 421, 422, 423, 424, 429, 430, 431, 432, 433, 434] (by decide +kernel) (by decide +kernel)
set_option maxRecDepth 20000 in
theorem ggL_law_L_turn_16 : GoodIn wsL_law wsL_turn_r16 := goodIn_r _ [435, 436, 437, 30, 438, 439, 440, 441, 442, 443, 444, 445, 446, 447, 448, 449, 450, 451, 452, 453, 454, 455, 456, 457] (by decide +kernel) (by decide +kernel)
set_option maxRecDepth 20000 in
theorem ggL_law_L_turn_17 : GoodIn wsL_law wsL_turn_r17 := goodIn_r _ [458, 459, 460, 461, 462, 463, 464, 465, 466, 467, 468, 324, 325, 326, 327, 469, 470, 471, 472, 473, 474, 475, 476, 477] (by decide +kernel) (by decide +kernel)
set_option maxRecDepth 20000 in
theorem ggL_law_L_turn_18 : GoodIn wsL_law wsL_turn_r18 := goodIn_r _ [478, 479, 480, 481, 482, 483, 484, 532, 533, 534, 535, 29, 495, 496, 497, 28, 498, 66, 65, 499, 536, 537, 513, 518] (by decide +kernel) (by decide +kernel)
set_option maxRecDepth 20000 in
theorem ggL_law_L_turn_19 : GoodIn wsL_law wsL_turn_r19 := goodIn_r _ [538, 539, 540, 541, 542, 543, 544, 545, 546, 547, 548, 549, 550, 32, 551, 552, 553, 608, 609, 610, 611, 612, 613, 614] (by decide +kernel) (by decide +kernel)
set_option maxRecDepth 20000 in
theorem ggL_law_L_turn_20 : GoodIn wsL_law wsL_turn_r20 := goodIn_r _ [615, 554, 555, 556, 557, 558, 559, 560, 561, 562, 563, 564, 565, 566, 567, 568, 569, 527, 528, 529, 530, 531] (by decide +kernel) (by decide +kernel)
set_option maxRecDepth 20000 in
theorem ggL_law_L_turn_21 : GoodIn wsL_law wsX50 := goodIn_r _ [656, 657, 658, 659, 660, 661, 662, 663, 664, 665, 666, 667] (by decide +kernel) (by decide +kernel)
set_option maxRecDepth 20000 in
theorem ggL_law_L_turn_22 : GoodIn wsL_law wsX00 := goodIn_r _ [674, 675, 676, 677, 678, 679, 680, 681, 682, 683, 684, 685, 686, 687, 688] (by decide +kernel) (by decide +kernel)
set_option maxRecDepth 20000 in
theorem ggL_law_L_turn_23 : GoodIn wsL_law wsX40 := goodIn_r _ [668, 669] (by decide +kernel) (by decide +kernel)
set_option maxRecDepth 20000 in
theorem ggL_law_L_turn_24 : GoodIn wsL_law wsX30 := goodIn_r _ [670, 671, 672, 673] (by decide +kernel) (by decide +kernel)
set_option maxRecDepth 20000 in
theorem ggL_law_L_turn_25 : GoodIn wsL_law wsX10 := goodIn_r _ [689, 690, 691] (by decide +kernel) (by decide +kernel)
set_option maxRecDepth 20000 in
theorem ggL_law_L_turn : GoodIn wsL_law wsL_turn := goodIn_c1 (List.mem_of_getElem? (i := 603) rfl) rfl (goodIn_app (goodIn_app (goodIn_app (goodIn_app (goodIn_app (goodIn_app ggL_law_L_turn_1 (goodIn_app ggL_law_L_turn_2 (goodIn_app ggL_law_L_turn_3 (goodIn_app ggL_law_L_turn_4 (goodIn_app ggL_law_L_turn_5 (goodIn_app ggL_law_L_turn_6 (goodIn_app ggL_law_L_turn_7 (goodIn_app ggL_law_L_turn_8 (goodIn_app ggL_law_L_turn_9 (goodIn_app ggL_law_L_turn_10 (goodIn_app ggL_law_L_turn_11 (goodIn_app ggL_law_L_turn_12 (goodIn_app ggL_law_L_turn_13 (goodIn_app ggL_law_L_turn_14 (goodIn_app ggL_law_L_turn_15 (goodIn_app ggL_law_L_turn_16 (goodIn_app ggL_law_L_turn_17 (goodIn_app ggL_law_L_turn_18 (goodIn_app ggL_law_L_turn_19 ggL_law_L_turn_20))))))))))))))))))) ggL_law_L_turn_21) ggL_law_L_turn_22) ggL_law_L_turn_23) ggL_law_L_turn_24) ggL_law_L_turn_25)
set_option maxRecDepth 20000 in
theorem gL_law_L_turn : GoodIn wsL_law (va_wsS RL 160 yL_turn wsL_turn) := goodIn_app (goodIn_of _ (by decide +kernel)) ggL_law_L_turn
