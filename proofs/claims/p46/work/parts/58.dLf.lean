set_option maxRecDepth 20000 in
theorem ggL_law_L_refused_1 : GoodIn wsL_law wsL_refused_r1 := goodIn_r _ [220, 221, 222, 2, 223, 15, 76, 77, 78, 79, 80, 81, 82, 12, 83, 37, 38, 84, 85, 86, 87, 88, 31, 89] (by decide +kernel) (by decide +kernel)
set_option maxRecDepth 20000 in
theorem ggL_law_L_refused_2 : GoodIn wsL_law wsL_refused_r2 := goodIn_r _ [90, 91, 92, 93, 94, 95, 96, 97, 98, 99, 100, 101, 102, 103, 39, 40, 41, 42, 224, 225, 226, 227, 228, 108] (by decide +kernel) (by decide +kernel)
set_option maxRecDepth 20000 in
theorem ggL_law_L_refused_3 : GoodIn wsL_law wsL_refused_r3 := goodIn_r _ [109, 110, 111, 112, 113, 114, 115, 116, 117, 118, 119, 120, 121, 122, 123, 124, 125, 126, 127, 128, 129, 130, 131, 132] (by decide +kernel) (by decide +kernel)
set_option maxRecDepth 20000 in
theorem ggL_law_L_refused_4 : GoodIn wsL_law wsL_refused_r4 := goodIn_r _ [133, 134, 135, 136, 229, 230, 231, 232, 233, 234, 235, 236, 237, 238, 239, 240, 241, 242, 243, 244, 245, 246, 247, 248] (by decide +kernel) (by decide +kernel)
set_option maxRecDepth 20000 in
theorem ggL_law_L_refused_5 : GoodIn wsL_law wsL_refused_r5 := goodIn_r _ [249, 250, 251, 252, 253, 202, 203, 204, 205, 206, 207, 254, 255, 256, 257, 146, 72, 73, 74, 75, 16, 104, 105, 106] (by decide +kernel) (by decide +kernel)
set_option maxRecDepth 20000 in
theorem ggL_law_L_refused_6 : GoodIn wsL_law wsL_refused_r6 := goodIn_r _ [107, 258, 259, 260, 261, 141, 142, 143, 144, 20, 145, 147, 148, 149, 19, 150, 151, 152, 153, 47, 154, 155, 156, 23] (by decide +kernel) (by decide +kernel)
set_option maxRecDepth 20000 in
theorem ggL_law_L_refused_7 : GoodIn wsL_law wsL_refused_r7 := goodIn_r _ [157, 158, 159, 160, 161, 51, 162, 163, 164, 165, 166, 167, 168, 169, 170, 171, 172, 173, 174, 175, 176, 177, 178, 179] (by decide +kernel) (by decide +kernel)
set_option maxRecDepth 20000 in
theorem ggL_law_L_refused_8 : GoodIn wsL_law wsL_refused_r8 := goodIn_r _ [180, 181, 182, 183, 184, 185, 186, 187, 188, 189, 190, 52, 53, 54, 55, 137, 138, 139, 140, 24, 25, 191, 192, 193] (by decide +kernel) (by decide +kernel)
set_option maxRecDepth 20000 in
theorem ggL_law_L_refused_9 : GoodIn wsL_law wsL_refused_r9 := goodIn_r _ [194, 56, 57, 58, 59, 60, 61, 195, 196, 197, 198, 199, 200, 201, 208, 209, 210, 211, 212, 262, 263, 264, 265, 266] (by decide +kernel) (by decide +kernel)
set_option maxRecDepth 20000 in
theorem ggL_law_L_refused_10 : GoodIn wsL_law wsL_refused_r10 := goodIn_r _ [267, 268, 269, 270, 271, 272, 273, 274, 275, 276, 277, 278, 279, 280, 281, 282, 283, 284, 285, 286, 287, 288, 289, 290] (by decide +kernel) (by decide +kernel)
set_option maxRecDepth 20000 in
theorem ggL_law_L_refused_11 : GoodIn wsL_law wsL_refused_r11 := goodIn_r _ [291, 292, 293, 294, 295, 296, 297, 298, 299, 300, 301, 302, 303, 304, 305, 306, 307, 308, 309, 310, 311, 312, 313, 314] (by decide +kernel) (by decide +kernel)
set_option maxRecDepth 20000 in
theorem ggL_law_L_refused_12 : GoodIn wsL_law wsL_refused_r12 := goodIn_r _ [315, 316, 317, 318, 319, 320, 321, 322, 323, 324, 325, 326, 327, 328, 329, 330, 331, 332, 333, 334, 335, 336, 337, 338] (by decide +kernel) (by decide +kernel)
set_option maxRecDepth 20000 in
theorem ggL_law_L_refused_13 : GoodIn wsL_law wsL_refused_r13 := goodIn_r _ [339, 340, 341, 342, 343, 344, 345, 346, 347, 348, 349, 350, 351, 352, 353, 354, 355, 356, 357, 358, 359, 360, 361, 362] (by decide +kernel) (by decide +kernel)
set_option maxRecDepth 20000 in
theorem ggL_law_L_refused_14 : GoodIn wsL_law wsL_refused_r14 := goodIn_r _ [363, 364, 365, 366, 367, 368, 369, 370, 371, 372, 373, 374, 375, 376, 377, 378, 379, 380, 381, 382, 383, 384, 385, 386] (by decide +kernel) (by decide +kernel)
set_option maxRecDepth 20000 in
theorem ggL_law_L_refused_15 : GoodIn wsL_law wsL_refused_r15 := goodIn_r _ [387, 388, 389, 390, 391, 392, 393, 394, 395, 396, 397, 398, 399, 400, 401, 402, 403, 404, 405, 406, 407, 408, 409, 410] (by decide +kernel) (by decide +kernel)
set_option maxRecDepth 20000 in
theorem ggL_law_L_refused_16 : GoodIn wsL_law wsL_refused_r16 := goodIn_r _ [411, 412, 413, 414, 415, 416, 417, 418, 419, 420, 421, 422, 423, 424, 425, 426, 427, 428, 429, 430, 431, 432, 433, 434] (by decide +kernel) (by decide +kernel)
set_option maxRecDepth 20000 in
theorem ggL_law_L_refused_17 : GoodIn wsL_law wsL_refused_r17 := goodIn_r _ [435, 436, 437, 30, 438, 439, 440, 441, 442, 443, 444, 445, 446, 447, 448, 449, 450, 451, 452, 453, 454, 455, 456, 457] (by decide +kernel) (by decide +kernel)
set_option maxRecDepth 20000 in
theorem ggL_law_L_refused_18 : GoodIn wsL_law wsL_refused_r18 := goodIn_r _ [458, 459, 460, 461, 462, 463, 464, 465, 466, 467, 468, 469, 470, 471, 472, 473, 474, 475, 476, 477, 478, 479, 480, 481] (by decide +kernel) (by decide +kernel)
set_option maxRecDepth 20000 in
theorem ggL_law_L_refused_19 : GoodIn wsL_law wsL_refused_r19 := goodIn_r _ [482, 483, 484, 485, 486, 487, 488, 29, 489, 490, 491, 492, 493, 494, 495, 496, 497, 28, 498, 66, 65, 499, 500, 501] (by decide +kernel) (by decide +kernel)
set_option maxRecDepth 20000 in
theorem ggL_law_L_refused_20 : GoodIn wsL_law wsL_refused_r20 := goodIn_r _ [502, 503, 504, 505, 506, 507, 508, 67, 509, 510, 511, 512, 513, 514, 515, 516, 517, 518, 519, 520, 521, 522, 523, 524] (by decide +kernel) (by decide +kernel)
set_option maxRecDepth 20000 in
theorem ggL_law_L_refused_21 : GoodIn wsL_law wsL_refused_r21 := goodIn_r _ [525, 526, 527, 528, 529, 530, 531, 532, 533, 534, 535, 536, 537, 538, 539, 540, 541, 542, 543, 544, 545, 546, 547, 548] (by decide +kernel) (by decide +kernel)
set_option maxRecDepth 20000 in
theorem ggL_law_L_refused_22 : GoodIn wsL_law wsL_refused_r22 := goodIn_r _ [549, 550, 32, 551, 552, 553, 554, 555, 556, 557, 558, 559, 560, 561, 562, 563, 564, 565, 566, 567, 568, 569, 570, 571] (by decide +kernel) (by decide +kernel)
set_option maxRecDepth 20000 in
theorem ggL_law_L_refused_23 : GoodIn wsL_law wsL_refused_r23 := goodIn_r _ [572, 573, 574, 575, 576, 577, 578, 579, 580, 581, 582, 583, 584, 585, 586, 587, 588, 589, 590, 591, 592, 593, 594, 595] (by decide +kernel) (by decide +kernel)
set_option maxRecDepth 20000 in
theorem ggL_law_L_refused_24 : GoodIn wsL_law wsL_refused_r24 := goodIn_r _ [596, 597, 598, 599, 600] (by decide +kernel) (by decide +kernel)
set_option maxRecDepth 20000 in
theorem ggL_law_L_refused_25 : GoodIn wsL_law wsX50 := goodIn_r _ [656, 657, 658, 659, 660, 661, 662, 663, 664, 665, 666, 667] (by decide +kernel) (by decide +kernel)
set_option maxRecDepth 20000 in
theorem ggL_law_L_refused_26 : GoodIn wsL_law wsX40 := goodIn_r _ [668, 669] (by decide +kernel) (by decide +kernel)
set_option maxRecDepth 20000 in
theorem ggL_law_L_refused_27 : GoodIn wsL_law wsX30 := goodIn_r _ [670, 671, 672, 673] (by decide +kernel) (by decide +kernel)
set_option maxRecDepth 20000 in
theorem ggL_law_L_refused_28 : GoodIn wsL_law wsX00 := goodIn_r _ [674, 675, 676, 677, 678, 679, 680, 681, 682, 683, 684, 685, 686, 687, 688] (by decide +kernel) (by decide +kernel)
set_option maxRecDepth 20000 in
theorem ggL_law_L_refused_29 : GoodIn wsL_law wsX10 := goodIn_r _ [689, 690, 691] (by decide +kernel) (by decide +kernel)
set_option maxRecDepth 20000 in
theorem ggL_law_L_refused : GoodIn wsL_law wsL_refused := goodIn_c1 (List.mem_of_getElem? (i := 219) rfl) rfl (goodIn_app (goodIn_app (goodIn_app (goodIn_app (goodIn_app (goodIn_app ggL_law_L_refused_1 (goodIn_app ggL_law_L_refused_2 (goodIn_app ggL_law_L_refused_3 (goodIn_app ggL_law_L_refused_4 (goodIn_app ggL_law_L_refused_5 (goodIn_app ggL_law_L_refused_6 (goodIn_app ggL_law_L_refused_7 (goodIn_app ggL_law_L_refused_8 (goodIn_app ggL_law_L_refused_9 (goodIn_app ggL_law_L_refused_10 (goodIn_app ggL_law_L_refused_11 (goodIn_app ggL_law_L_refused_12 (goodIn_app ggL_law_L_refused_13 (goodIn_app ggL_law_L_refused_14 (goodIn_app ggL_law_L_refused_15 (goodIn_app ggL_law_L_refused_16 (goodIn_app ggL_law_L_refused_17 (goodIn_app ggL_law_L_refused_18 (goodIn_app ggL_law_L_refused_19 (goodIn_app ggL_law_L_refused_20 (goodIn_app ggL_law_L_refused_21 (goodIn_app ggL_law_L_refused_22 (goodIn_app ggL_law_L_refused_23 ggL_law_L_refused_24))))))))))))))))))))))) ggL_law_L_refused_25) ggL_law_L_refused_26) ggL_law_L_refused_27) ggL_law_L_refused_28) ggL_law_L_refused_29)
set_option maxRecDepth 20000 in
theorem gL_law_L_refused : GoodIn wsL_law (va_wsS RL 156 yL_refused wsL_refused) := goodIn_app (goodIn_of _ (by decide +kernel)) ggL_law_L_refused
