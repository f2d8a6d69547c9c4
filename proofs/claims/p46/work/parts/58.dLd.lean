theorem dL_turn_423 : decode cL_turn 423 = .ok (.invokestatic 123, 3) := by decide +kernel
theorem dL_turn_426 : decode cL_turn 426 = .ok (.invokevirtual 111, 3) := by decide +kernel
theorem dL_turn_429 : decode cL_turn 429 = .ok (.goto 7, 3) := by decide +kernel
theorem dL_turn_432 : decode cL_turn 432 = .ok (.aload_n 0, 1) := by decide +kernel
theorem dL_turn_433 : decode cL_turn 433 = .ok (.invokevirtual 131, 3) := by decide +kernel
theorem dL_turn_436 : decode cL_turn 436 = .ok (.ireturn, 1) := by decide +kernel
theorem dL_turn_437 : decode cL_turn 437 = .ok (.iload_n 2, 1) := by decide +kernel
theorem dL_turn_438 : decode cL_turn 438 = .ok (.iconst 1, 1) := by decide +kernel
theorem dL_turn_439 : decode cL_turn 439 = .ok (.iand, 1) := by decide +kernel
theorem dL_turn_440 : decode cL_turn 440 = .ok (.ifCond .ne 24, 3) := by decide +kernel
theorem dL_turn_443 : decode cL_turn 443 = .ok (.aload_n 0, 1) := by decide +kernel
theorem dL_turn_444 : decode cL_turn 444 = .ok (.iconst 1, 1) := by decide +kernel
theorem dL_turn_445 : decode cL_turn 445 = .ok (.iload_n 2, 1) := by decide +kernel
theorem dL_turn_446 : decode cL_turn 446 = .ok (.iconst 1, 1) := by decide +kernel
theorem dL_turn_447 : decode cL_turn 447 = .ok (.ishr, 1) := by decide +kernel
theorem dL_turn_448 : decode cL_turn 448 = .ok (.iconst 3, 1) := by decide +kernel
theorem dL_turn_449 : decode cL_turn 449 = .ok (.invokestatic 123, 3) := by decide +kernel
theorem dL_turn_452 : decode cL_turn 452 = .ok (.iadd, 1) := by decide +kernel
theorem dL_turn_453 : decode cL_turn 453 = .ok (.iconst 1, 1) := by decide +kernel
theorem dL_turn_454 : decode cL_turn 454 = .ok (.iload_n 2, 1) := by decide +kernel
theorem dL_turn_455 : decode cL_turn 455 = .ok (.iconst 3, 1) := by decide +kernel
theorem dL_turn_456 : decode cL_turn 456 = .ok (.ishr, 1) := by decide +kernel
theorem dL_turn_457 : decode cL_turn 457 = .ok (.iadd, 1) := by decide +kernel
theorem dL_turn_458 : decode cL_turn 458 = .ok (.invokevirtual 114, 3) := by decide +kernel
theorem dL_turn_461 : decode cL_turn 461 = .ok (.goto 31, 3) := by decide +kernel
theorem dL_turn_464 : decode cL_turn 464 = .ok (.aload_n 0, 1) := by decide +kernel
theorem dL_turn_465 : decode cL_turn 465 = .ok (.iload_n 2, 1) := by decide +kernel
theorem dL_turn_466 : decode cL_turn 466 = .ok (.iconst 1, 1) := by decide +kernel
theorem dL_turn_467 : decode cL_turn 467 = .ok (.ishr, 1) := by decide +kernel
theorem dL_turn_468 : decode cL_turn 468 = .ok (.iconst 5, 1) := by decide +kernel
theorem dL_turn_469 : decode cL_turn 469 = .ok (.invokestatic 123, 3) := by decide +kernel
theorem dL_turn_472 : decode cL_turn 472 = .ok (.iload_n 2, 1) := by decide +kernel
theorem dL_turn_473 : decode cL_turn 473 = .ok (.iconst 4, 1) := by decide +kernel
theorem dL_turn_474 : decode cL_turn 474 = .ok (.ishr, 1) := by decide +kernel
theorem dL_turn_475 : decode cL_turn 475 = .ok (.bipush 21, 2) := by decide +kernel
theorem dL_turn_477 : decode cL_turn 477 = .ok (.invokestatic 123, 3) := by decide +kernel
theorem dL_turn_480 : decode cL_turn 480 = .ok (.iload_n 2, 1) := by decide +kernel
theorem dL_turn_481 : decode cL_turn 481 = .ok (.bipush 9, 2) := by decide +kernel
theorem dL_turn_483 : decode cL_turn 483 = .ok (.ishr, 1) := by decide +kernel
theorem dL_turn_484 : decode cL_turn 484 = .ok (.bipush 6, 2) := by decide +kernel
theorem dL_turn_486 : decode cL_turn 486 = .ok (.invokestatic 123, 3) := by decide +kernel
theorem dL_turn_489 : decode cL_turn 489 = .ok (.invokevirtual 105, 3) := by decide +kernel
theorem dL_turn_492 : decode cL_turn 492 = .ok (.ireturn, 1) := by decide +kernel
set_option maxRecDepth 20000 in
theorem ggL_same_X5_digest : GoodIn wsL_same wsX5_digest := goodIn_r _ [5, 6, 7, 8, 9, 10, 11, 12, 13, 4, 14, 15, 16, 17, 18, 19, 20, 21, 22, 23, 24, 25, 26, 27, 28, 29, 30, 31, 32, 33, 34, 35, 36, 37, 38, 39, 40, 41, 42, 43, 44, 45, 46, 47, 48, 49, 50, 51, 52, 53, 54, 55, 56, 57, 58, 59, 60, 61, 62, 63, 64, 65, 66, 67, 68, 69, 70, 71, 72, 73, 74, 75, 76, 77, 78, 79, 80, 81, 82, 83, 84, 85, 86, 87, 88, 89, 90, 91, 92, 93, 94, 95, 96, 97, 98, 99, 100, 101, 102, 103, 104, 105, 106, 107, 108, 109, 110, 111, 112, 113, 114, 115, 116, 117, 118, 119, 120, 121, 122, 123, 144, 145, 146, 147, 148, 149, 150, 151, 152, 153, 154, 155, 156, 157, 158, 159, 160, 161, 162, 163, 164, 165, 166, 167, 168, 169, 170, 171, 172] (by decide +kernel) (by decide +kernel)
set_option maxRecDepth 20000 in
theorem gL_same_X5_digest : GoodIn wsL_same (wsV RL 135 RX5 yX5_digest wsX5_digest) := goodIn_app (goodIn_of _ (by decide +kernel)) ggL_same_X5_digest
set_option maxRecDepth 20000 in
theorem ggL_same_X5_asked : GoodIn wsL_same wsX5_asked := goodIn_r _ [127, 128, 144, 145, 146, 147, 148, 149, 150, 151, 152, 153, 154, 155] (by decide +kernel) (by decide +kernel)
set_option maxRecDepth 20000 in
theorem gL_same_X5_asked : GoodIn wsL_same (wsV RL 139 RX5 yX5_asked wsX5_asked) := goodIn_app (goodIn_of _ (by decide +kernel)) ggL_same_X5_asked
set_option maxRecDepth 20000 in
theorem ggL_same_X5_upper : GoodIn wsL_same wsX5_upper := goodIn_r _ [132, 133, 144, 145, 146, 147, 148, 149, 150, 151, 152, 153, 154, 155] (by decide +kernel) (by decide +kernel)
set_option maxRecDepth 20000 in
theorem gL_same_X5_upper : GoodIn wsL_same (wsV RL 142 RX5 yX5_upper wsX5_upper) := goodIn_app (goodIn_of _ (by decide +kernel)) ggL_same_X5_upper
set_option maxRecDepth 20000 in
theorem ggL_same_X5_lower : GoodIn wsL_same wsX5_lower := goodIn_r _ [137, 138, 144, 145, 146, 147, 148, 149, 150, 151, 152, 153, 154, 155] (by decide +kernel) (by decide +kernel)
set_option maxRecDepth 20000 in
theorem gL_same_X5_lower : GoodIn wsL_same (wsV RL 145 RX5 yX5_lower wsX5_lower) := goodIn_app (goodIn_of _ (by decide +kernel)) ggL_same_X5_lower
set_option maxRecDepth 20000 in
theorem ggL_same_X5_finding : GoodIn wsL_same wsX5_finding := goodIn_r _ [142, 143, 144, 145, 146, 147, 148, 149, 150, 151, 152, 153, 154, 155] (by decide +kernel) (by decide +kernel)
set_option maxRecDepth 20000 in
theorem gL_same_X5_finding : GoodIn wsL_same (wsV RL 148 RX5 yX5_finding wsX5_finding) := goodIn_app (goodIn_of _ (by decide +kernel)) ggL_same_X5_finding
theorem dL_same_0 : decode cL_same 0 = .ok (.aload_n 0, 1) := by decide +kernel
theorem dL_same_1 : decode cL_same 1 = .ok (.invokevirtual 135, 3) := by decide +kernel
theorem dL_same_4 : decode cL_same 4 = .ok (.aload_n 1, 1) := by decide +kernel
theorem dL_same_5 : decode cL_same 5 = .ok (.invokevirtual 135, 3) := by decide +kernel
theorem dL_same_8 : decode cL_same 8 = .ok (.lcmp, 1) := by decide +kernel
theorem dL_same_9 : decode cL_same 9 = .ok (.ifCond .ne 53, 3) := by decide +kernel
theorem dL_same_12 : decode cL_same 12 = .ok (.aload_n 0, 1) := by decide +kernel
theorem dL_same_13 : decode cL_same 13 = .ok (.invokevirtual 139, 3) := by decide +kernel
theorem dL_same_16 : decode cL_same 16 = .ok (.aload_n 1, 1) := by decide +kernel
theorem dL_same_17 : decode cL_same 17 = .ok (.invokevirtual 139, 3) := by decide +kernel
theorem dL_same_20 : decode cL_same 20 = .ok (.if_icmp .ne 42, 3) := by decide +kernel
theorem dL_same_23 : decode cL_same 23 = .ok (.aload_n 0, 1) := by decide +kernel
theorem dL_same_24 : decode cL_same 24 = .ok (.invokevirtual 142, 3) := by decide +kernel
theorem dL_same_27 : decode cL_same 27 = .ok (.aload_n 1, 1) := by decide +kernel
theorem dL_same_28 : decode cL_same 28 = .ok (.invokevirtual 142, 3) := by decide +kernel
theorem dL_same_31 : decode cL_same 31 = .ok (.lcmp, 1) := by decide +kernel
theorem dL_same_32 : decode cL_same 32 = .ok (.ifCond .ne 30, 3) := by decide +kernel
theorem dL_same_35 : decode cL_same 35 = .ok (.aload_n 0, 1) := by decide +kernel
theorem dL_same_36 : decode cL_same 36 = .ok (.invokevirtual 145, 3) := by decide +kernel
theorem dL_same_39 : decode cL_same 39 = .ok (.aload_n 1, 1) := by decide +kernel
theorem dL_same_40 : decode cL_same 40 = .ok (.invokevirtual 145, 3) := by decide +kernel
theorem dL_same_43 : decode cL_same 43 = .ok (.lcmp, 1) := by decide +kernel
theorem dL_same_44 : decode cL_same 44 = .ok (.ifCond .ne 18, 3) := by decide +kernel
theorem dL_same_47 : decode cL_same 47 = .ok (.aload_n 0, 1) := by decide +kernel
theorem dL_same_48 : decode cL_same 48 = .ok (.invokevirtual 148, 3) := by decide +kernel
theorem dL_same_51 : decode cL_same 51 = .ok (.aload_n 1, 1) := by decide +kernel
theorem dL_same_52 : decode cL_same 52 = .ok (.invokevirtual 148, 3) := by decide +kernel
theorem dL_same_55 : decode cL_same 55 = .ok (.if_icmp .ne 7, 3) := by decide +kernel
theorem dL_same_58 : decode cL_same 58 = .ok (.iconst 1, 1) := by decide +kernel
theorem dL_same_59 : decode cL_same 59 = .ok (.goto 4, 3) := by decide +kernel
theorem dL_same_62 : decode cL_same 62 = .ok (.iconst 0, 1) := by decide +kernel
theorem dL_same_63 : decode cL_same 63 = .ok (.ireturn, 1) := by decide +kernel
set_option maxRecDepth 20000 in
theorem ggL_law_X5_init : GoodIn wsL_law wsX5_init := goodIn_r _ [6, 7, 8, 9, 10, 11, 12, 13, 14, 15, 16, 17, 18, 19, 20, 21, 22, 23, 24, 25, 26, 27, 28, 29, 30, 31, 32, 33, 34, 35, 36, 37, 38, 39, 40, 41, 42, 43, 44, 45, 46, 47, 48, 49, 50, 51, 52, 53, 54, 55, 56, 57, 58, 59, 60, 61, 62, 63, 64, 65, 66, 67, 668, 669, 656, 657, 658, 659, 660, 661, 662, 663, 664, 665, 666, 667, 670, 671, 672, 673, 674, 675, 676, 677, 678, 679, 680, 681, 682, 683, 684, 685, 686, 687, 688, 689, 690, 691] (by decide +kernel) (by decide +kernel)
set_option maxRecDepth 20000 in
theorem gL_law_X5_init : GoodIn wsL_law (wsX5_init) := ggL_law_X5_init
set_option maxRecDepth 20000 in
theorem ggL_law_L_cell : GoodIn wsL_law wsL_cell := goodIn_r _ [215, 216] (by decide +kernel) (by decide +kernel)
set_option maxRecDepth 20000 in
theorem gL_law_L_cell : GoodIn wsL_law (va_wsS RL 152 yL_cell wsL_cell) := goodIn_app (goodIn_of _ (by decide +kernel)) ggL_law_L_cell
set_option maxRecDepth 20000 in
theorem ggL_law_L_same : GoodIn wsL_law wsL_same := goodIn_r _ [618, 619, 620, 621, 2, 622, 623, 24, 25, 15, 16, 624, 571, 572, 573, 574, 493, 494, 89, 90, 91, 575, 576, 577, 23, 578, 160, 56, 579, 580, 581, 582, 158, 52, 583, 299, 185, 300, 584, 585, 586, 12, 587, 37, 588, 117, 118, 119, 120, 121, 122, 123, 103, 81, 82, 83, 38, 589, 590, 591, 592, 593, 594, 595, 596, 208, 209, 210, 211, 625, 626, 627, 628, 629, 630, 631, 632, 270, 271, 272, 273, 274, 275, 276, 277, 278, 279, 199, 280, 281, 282, 283, 284, 285, 286, 287, 288, 57, 54, 58, 289, 290, 291, 292, 198, 200, 293, 301, 633, 634, 635, 146, 128, 129, 130, 131, 132, 125, 126, 127, 99, 100, 101, 102, 636, 637, 638, 639, 228, 640, 641, 642, 643, 550, 644, 645, 646, 647, 32, 648, 649, 650, 651, 88, 656, 657, 658, 659, 660, 661, 662, 663, 664, 665, 666, 667, 674, 675, 676, 677, 678, 679, 680, 681, 682, 683, 684, 685, 686, 687, 688, 668, 669] (by decide +kernel) (by decide +kernel)
set_option maxRecDepth 20000 in
theorem gL_law_L_same : GoodIn wsL_law (va_wsS RL 164 yL_same wsL_same) := goodIn_app (goodIn_of _ (by decide +kernel)) ggL_law_L_same
set_option maxRecDepth 20000 in
theorem ggL_law_X5_count : GoodIn wsL_law wsX5_count := goodIn_r _ [573, 24, 15, 16, 574, 493, 2, 494, 89, 90, 91, 575, 576, 577, 23, 578, 160, 56, 579, 580, 581, 582, 158, 52, 583, 299, 185, 300, 584, 585, 586, 12, 587, 37, 588, 117, 118, 119, 120, 121, 122, 123, 103, 81, 82, 83, 38, 589, 590, 591, 592, 25, 593, 594, 595, 596, 208, 209, 210, 211, 656, 657, 658, 659, 660, 661, 662, 663, 664, 665, 666, 667, 674, 675, 676, 677, 678, 679, 680, 681, 682, 683, 684, 685, 686, 687, 688, 668, 669] (by decide +kernel) (by decide +kernel)
set_option maxRecDepth 20000 in
theorem gL_law_X5_count : GoodIn wsL_law (wsV RL 117 RX5 yX5_count wsX5_count) := goodIn_app (goodIn_of _ (by decide +kernel)) ggL_law_X5_count
set_option maxRecDepth 20000 in
theorem ggL_law_X5_digest : GoodIn wsL_law wsX5_digest := goodIn_r _ [622, 623, 24, 25, 15, 16, 624, 571, 572, 2, 573, 574, 493, 494, 89, 90, 91, 575, 576, 577, 23, 578, 160, 56, 579, 580, 581, 582, 158, 52, 583, 299, 185, 300, 584, 585, 586, 12, 587, 37, 588, 117, 118, 119, 120, 121, 122, 123, 103, 81, 82, 83, 38, 589, 590, 591, 592, 593, 594, 595, 596, 208, 209, 210, 211, 625, 626, 627, 628, 629, 630, 631, 632, 270, 271, 272, 273, 274, 275, 276, 277, 278, 279, 199, 280, 281, 282, 283, 284, 285, 286, 287, 288, 57, 54, 58, 289, 290, 291, 292, 198, 200, 293, 301, 633, 634, 635, 146, 128, 129, 130, 131, 132, 125, 126, 127, 99, 100, 101, 102, 656, 657, 658, 659, 660, 661, 662, 663, 664, 665, 666, 667, 674, 675, 676, 677, 678, 679, 680, 681, 682, 683, 684, 685, 686, 687, 688, 668, 669] (by decide +kernel) (by decide +kernel)
set_option maxRecDepth 20000 in
theorem gL_law_X5_digest : GoodIn wsL_law (wsV RL 135 RX5 yX5_digest wsX5_digest) := goodIn_app (goodIn_of _ (by decide +kernel)) ggL_law_X5_digest
set_option maxRecDepth 20000 in
theorem ggL_law_L_low : GoodIn wsL_law wsL_low := goodIn_r _ [606, 607] (by decide +kernel) (by decide +kernel)
set_option maxRecDepth 20000 in
theorem gL_law_L_low : GoodIn wsL_law (va_wsS RL 123 yL_low wsL_low) := goodIn_app (goodIn_of _ (by decide +kernel)) ggL_law_L_low
set_option maxRecDepth 20000 in
theorem ggL_law_X5_flood : GoodIn wsL_law wsX5_flood := goodIn_r _ [339, 24, 321, 322, 2, 323, 340, 341, 342, 23, 343, 56, 160, 158, 57, 58, 55, 344, 345, 346, 347, 59, 161, 60, 61, 93, 94, 332, 333, 334, 335, 51, 53, 90, 91, 348, 349, 350, 351, 328, 329, 330, 331, 278, 279, 199, 280, 656, 657, 658, 659, 660, 661, 662, 663, 664, 665, 666, 667, 674, 675, 676, 677, 678, 679, 680, 681, 682, 683, 684, 685, 686, 687, 688] (by decide +kernel) (by decide +kernel)
set_option maxRecDepth 20000 in
theorem gL_law_X5_flood : GoodIn wsL_law (wsV RL 57 RX5 yX5_flood wsX5_flood) := goodIn_app (goodIn_of _ (by decide +kernel)) ggL_law_X5_flood
set_option maxRecDepth 20000 in
theorem ggL_law_X5_tuck : GoodIn wsL_law wsX5_tuck := goodIn_r _ [374, 24, 266, 267, 268, 2, 269, 89, 90, 91, 375, 376, 377, 23, 378, 55, 344, 345, 346, 347, 59, 161, 60, 61, 93, 94, 656, 657, 658, 659, 660, 661, 662, 663, 664, 665, 666, 667, 674, 675, 676, 677, 678, 679, 680, 681, 682, 683, 684, 685, 686, 687, 688] (by decide +kernel) (by decide +kernel)
set_option maxRecDepth 20000 in
theorem gL_law_X5_tuck : GoodIn wsL_law (wsV RL 66 RX5 yX5_tuck wsX5_tuck) := goodIn_app (goodIn_of _ (by decide +kernel)) ggL_law_X5_tuck
set_option maxRecDepth 20000 in
theorem ggL_law_X5_dyke : GoodIn wsL_law wsX5_dyke := goodIn_r _ [366, 24, 356, 357, 2, 358, 89, 90, 91, 367, 368, 369, 23, 370, 51, 159, 344, 345, 346, 347, 59, 161, 60, 61, 93, 94, 656, 657, 658, 659, 660, 661, 662, 663, 664, 665, 666, 667, 674, 675, 676, 677, 678, 679, 680, 681, 682, 683, 684, 685, 686, 687, 688] (by decide +kernel) (by decide +kernel)
set_option maxRecDepth 20000 in
theorem gL_law_X5_dyke : GoodIn wsL_law (wsV RL 63 RX5 yX5_dyke wsX5_dyke) := goodIn_app (goodIn_of _ (by decide +kernel)) ggL_law_X5_dyke
set_option maxRecDepth 20000 in
theorem ggL_law_X5_undo : GoodIn wsL_law wsX5_undo := goodIn_r _ [382, 24, 383, 384, 385, 23, 386, 161, 60, 61, 59, 160, 53, 51, 159, 55, 90, 2, 91, 93, 94, 656, 657, 658, 659, 660, 661, 662, 663, 664, 665, 666, 667, 674, 675, 676, 677, 678, 679, 680, 681, 682, 683, 684, 685, 686, 687, 688] (by decide +kernel) (by decide +kernel)
set_option maxRecDepth 20000 in
theorem gL_law_X5_undo : GoodIn wsL_law (wsV RL 69 RX5 yX5_undo wsX5_undo) := goodIn_app (goodIn_of _ (by decide +kernel)) ggL_law_X5_undo
set_option maxRecDepth 20000 in
theorem ggL_law_X5_keep : GoodIn wsL_law wsX5_keep := goodIn_r _ [390, 24, 208, 209, 210, 2, 211, 25, 191, 192, 193, 23, 194, 158, 159, 160, 161, 51, 52, 53, 54, 55, 56, 57, 58, 59, 60, 61, 195, 196, 197, 198, 199, 200, 201, 202, 203, 204, 205, 206, 207, 656, 657, 658, 659, 660, 661, 662, 663, 664, 665, 666, 667, 674, 675, 676, 677, 678, 679, 680, 681, 682, 683, 684, 685, 686, 687, 688] (by decide +kernel) (by decide +kernel)
set_option maxRecDepth 20000 in
theorem gL_law_X5_keep : GoodIn wsL_law (wsV RL 72 RX5 yX5_keep wsX5_keep) := goodIn_app (goodIn_of _ (by decide +kernel)) ggL_law_X5_keep
set_option maxRecDepth 20000 in
theorem ggL_law_X5_lots : GoodIn wsL_law wsX5_lots := goodIn_r _ [557, 558, 24, 559, 560, 561, 562, 563, 2, 564, 565, 566, 567, 568, 569, 340, 341, 342, 23, 343, 56, 160, 158, 57, 58, 55, 344, 345, 346, 347, 59, 161, 60, 61, 93, 94, 332, 333, 334, 335, 51, 53, 90, 91, 359, 360, 361, 362, 656, 657, 658, 659, 660, 661, 662, 663, 664, 665, 666, 667, 674, 675, 676, 677, 678, 679, 680, 681, 682, 683, 684, 685, 686, 687, 688] (by decide +kernel) (by decide +kernel)
set_option maxRecDepth 20000 in
theorem gL_law_X5_lots : GoodIn wsL_law (wsV RL 114 RX5 yX5_lots wsX5_lots) := goodIn_app (goodIn_of _ (by decide +kernel)) ggL_law_X5_lots
set_option maxRecDepth 20000 in
theorem ggL_law_X5_on : GoodIn wsL_law wsX5_on := goodIn_r _ [394, 24, 208, 209, 210, 2, 211, 25, 84, 85, 86, 87, 88, 31, 89, 90, 91, 92, 93, 94, 191, 192, 193, 23, 194, 158, 159, 160, 161, 51, 52, 53, 54, 55, 56, 57, 58, 59, 60, 61, 195, 196, 197, 198, 199, 200, 201, 202, 203, 204, 205, 206, 207, 674, 675, 676, 677, 678, 679, 680, 681, 682, 683, 684, 685, 686, 687, 688, 656, 657, 658, 659, 660, 661, 662, 663, 664, 665, 666, 667] (by decide +kernel) (by decide +kernel)
set_option maxRecDepth 20000 in
theorem gL_law_X5_on : GoodIn wsL_law (wsV RL 75 RX5 yX5_on wsX5_on) := goodIn_app (goodIn_of _ (by decide +kernel)) ggL_law_X5_on
set_option maxRecDepth 20000 in
theorem ggL_law_X5_dry : GoodIn wsL_law wsX5_dry := goodIn_r _ [655, 24, 197, 198, 199, 200, 531, 333, 334, 23, 335, 51, 53, 90, 2, 91, 656, 657, 658, 659, 660, 661, 662, 663, 664, 665, 666, 667, 674, 675, 676, 677, 678, 679, 680, 681, 682, 683, 684, 685, 686, 687, 688] (by decide +kernel) (by decide +kernel)
set_option maxRecDepth 20000 in
theorem gL_law_X5_dry : GoodIn wsL_law (wsV RL 169 RX5 yX5_dry wsX5_dry) := goodIn_app (goodIn_of _ (by decide +kernel)) ggL_law_X5_dry
theorem dL_law_0 : decode cL_law 0 = .ok (.new 10, 3) := by decide +kernel
theorem dL_law_3 : decode cL_law 3 = .ok (.dup, 1) := by decide +kernel
theorem dL_law_4 : decode cL_law 4 = .ok (.invokespecial 151, 3) := by decide +kernel
theorem dL_law_7 : decode cL_law 7 = .ok (.astore_n 1, 1) := by decide +kernel
theorem dL_law_8 : decode cL_law 8 = .ok (.new 10, 3) := by decide +kernel
theorem dL_law_11 : decode cL_law 11 = .ok (.dup, 1) := by decide +kernel
theorem dL_law_12 : decode cL_law 12 = .ok (.invokespecial 151, 3) := by decide +kernel
theorem dL_law_15 : decode cL_law 15 = .ok (.astore_n 2, 1) := by decide +kernel
theorem dL_law_16 : decode cL_law 16 = .ok (.aload_n 1, 1) := by decide +kernel
theorem dL_law_17 : decode cL_law 17 = .ok (.invokestatic 128, 3) := by decide +kernel
theorem dL_law_20 : decode cL_law 20 = .ok (.ifCond .eq 14, 3) := by decide +kernel
theorem dL_law_23 : decode cL_law 23 = .ok (.aload_n 2, 1) := by decide +kernel
theorem dL_law_24 : decode cL_law 24 = .ok (.invokestatic 128, 3) := by decide +kernel
theorem dL_law_27 : decode cL_law 27 = .ok (.ifCond .eq 7, 3) := by decide +kernel
theorem dL_law_30 : decode cL_law 30 = .ok (.iconst 1, 1) := by decide +kernel
theorem dL_law_31 : decode cL_law 31 = .ok (.goto 4, 3) := by decide +kernel
theorem dL_law_34 : decode cL_law 34 = .ok (.iconst 0, 1) := by decide +kernel
theorem dL_law_35 : decode cL_law 35 = .ok (.istore_n 3, 1) := by decide +kernel
theorem dL_law_36 : decode cL_law 36 = .ok (.iconst 0, 1) := by decide +kernel
theorem dL_law_37 : decode cL_law 37 = .ok (.istore 4, 2) := by decide +kernel
theorem dL_law_39 : decode cL_law 39 = .ok (.iload 4, 2) := by decide +kernel
theorem dL_law_41 : decode cL_law 41 = .ok (.bipush 20, 2) := by decide +kernel
theorem dL_law_43 : decode cL_law 43 = .ok (.if_icmp .ge 245, 3) := by decide +kernel
theorem dL_law_46 : decode cL_law 46 = .ok (.iload_n 3, 1) := by decide +kernel
theorem dL_law_47 : decode cL_law 47 = .ok (.ifCond .eq 241, 3) := by decide +kernel
theorem dL_law_50 : decode cL_law 50 = .ok (.aload_n 0, 1) := by decide +kernel
theorem dL_law_51 : decode cL_law 51 = .ok (.iload 4, 2) := by decide +kernel
theorem dL_law_53 : decode cL_law 53 = .ok (.invokestatic 152, 3) := by decide +kernel
theorem dL_law_56 : decode cL_law 56 = .ok (.istore 5, 2) := by decide +kernel
theorem dL_law_58 : decode cL_law 58 = .ok (.aload_n 2, 1) := by decide +kernel
theorem dL_law_59 : decode cL_law 59 = .ok (.iload 5, 2) := by decide +kernel
theorem dL_law_61 : decode cL_law 61 = .ok (.bipush 6, 2) := by decide +kernel
theorem dL_law_63 : decode cL_law 63 = .ok (.ishr, 1) := by decide +kernel
theorem dL_law_64 : decode cL_law 64 = .ok (.invokestatic 156, 3) := by decide +kernel
theorem dL_law_67 : decode cL_law 67 = .ok (.ifCond .eq 30, 3) := by decide +kernel
theorem dL_law_70 : decode cL_law 70 = .ok (.aload_n 1, 1) := by decide +kernel
theorem dL_law_71 : decode cL_law 71 = .ok (.iload 5, 2) := by decide +kernel
theorem dL_law_73 : decode cL_law 73 = .ok (.invokestatic 160, 3) := by decide +kernel
theorem dL_law_76 : decode cL_law 76 = .ok (.aload_n 2, 1) := by decide +kernel
theorem dL_law_77 : decode cL_law 77 = .ok (.iload 5, 2) := by decide +kernel
theorem dL_law_79 : decode cL_law 79 = .ok (.invokestatic 160, 3) := by decide +kernel
theorem dL_law_82 : decode cL_law 82 = .ok (.if_icmp .ne 15, 3) := by decide +kernel
theorem dL_law_85 : decode cL_law 85 = .ok (.aload_n 1, 1) := by decide +kernel
theorem dL_law_86 : decode cL_law 86 = .ok (.aload_n 2, 1) := by decide +kernel
theorem dL_law_87 : decode cL_law 87 = .ok (.invokestatic 164, 3) := by decide +kernel
theorem dL_law_90 : decode cL_law 90 = .ok (.ifCond .eq 7, 3) := by decide +kernel
theorem dL_law_93 : decode cL_law 93 = .ok (.iconst 1, 1) := by decide +kernel
theorem dL_law_94 : decode cL_law 94 = .ok (.goto 4, 3) := by decide +kernel
theorem dL_law_97 : decode cL_law 97 = .ok (.iconst 0, 1) := by decide +kernel
theorem dL_law_98 : decode cL_law 98 = .ok (.istore_n 3, 1) := by decide +kernel
theorem dL_law_99 : decode cL_law 99 = .ok (.aload_n 2, 1) := by decide +kernel
theorem dL_law_100 : decode cL_law 100 = .ok (.iconst 2, 1) := by decide +kernel
theorem dL_law_101 : decode cL_law 101 = .ok (.invokevirtual 117, 3) := by decide +kernel
theorem dL_law_104 : decode cL_law 104 = .ok (.istore 6, 2) := by decide +kernel
theorem dL_law_106 : decode cL_law 106 = .ok (.iload 6, 2) := by decide +kernel
theorem dL_law_108 : decode cL_law 108 = .ok (.bipush 36, 2) := by decide +kernel
theorem dL_law_110 : decode cL_law 110 = .ok (.if_icmp .ge 172, 3) := by decide +kernel
theorem dL_law_113 : decode cL_law 113 = .ok (.iload_n 3, 1) := by decide +kernel
theorem dL_law_114 : decode cL_law 114 = .ok (.ifCond .eq 168, 3) := by decide +kernel
theorem dL_law_117 : decode cL_law 117 = .ok (.aload_n 2, 1) := by decide +kernel
theorem dL_law_118 : decode cL_law 118 = .ok (.invokevirtual 135, 3) := by decide +kernel
theorem dL_law_121 : decode cL_law 121 = .ok (.lstore 7, 2) := by decide +kernel
theorem dL_law_123 : decode cL_law 123 = .ok (.aload_n 2, 1) := by decide +kernel
theorem dL_law_124 : decode cL_law 124 = .ok (.iload 5, 2) := by decide +kernel
theorem dL_law_126 : decode cL_law 126 = .ok (.iconst 5, 1) := by decide +kernel
theorem dL_law_127 : decode cL_law 127 = .ok (.ishr, 1) := by decide +kernel
theorem dL_law_128 : decode cL_law 128 = .ok (.bipush 21, 2) := by decide +kernel
theorem dL_law_130 : decode cL_law 130 = .ok (.invokestatic 123, 3) := by decide +kernel
theorem dL_law_133 : decode cL_law 133 = .ok (.invokevirtual 57, 3) := by decide +kernel
theorem dL_law_136 : decode cL_law 136 = .ok (.pop, 1) := by decide +kernel
theorem dL_law_137 : decode cL_law 137 = .ok (.aload_n 2, 1) := by decide +kernel
theorem dL_law_138 : decode cL_law 138 = .ok (.iload 5, 2) := by decide +kernel
theorem dL_law_140 : decode cL_law 140 = .ok (.bipush 8, 2) := by decide +kernel
theorem dL_law_142 : decode cL_law 142 = .ok (.ishr, 1) := by decide +kernel
theorem dL_law_143 : decode cL_law 143 = .ok (.iconst 5, 1) := by decide +kernel
theorem dL_law_144 : decode cL_law 144 = .ok (.invokestatic 123, 3) := by decide +kernel
theorem dL_law_147 : decode cL_law 147 = .ok (.invokevirtual 66, 3) := by decide +kernel
theorem dL_law_150 : decode cL_law 150 = .ok (.pop, 1) := by decide +kernel
theorem dL_law_151 : decode cL_law 151 = .ok (.aload_n 2, 1) := by decide +kernel
theorem dL_law_152 : decode cL_law 152 = .ok (.iload 5, 2) := by decide +kernel
theorem dL_law_154 : decode cL_law 154 = .ok (.bipush 10, 2) := by decide +kernel
theorem dL_law_156 : decode cL_law 156 = .ok (.ishr, 1) := by decide +kernel
theorem dL_law_157 : decode cL_law 157 = .ok (.bipush 6, 2) := by decide +kernel
theorem dL_law_159 : decode cL_law 159 = .ok (.invokestatic 123, 3) := by decide +kernel
theorem dL_law_162 : decode cL_law 162 = .ok (.invokevirtual 63, 3) := by decide +kernel
theorem dL_law_165 : decode cL_law 165 = .ok (.pop, 1) := by decide +kernel
theorem dL_law_166 : decode cL_law 166 = .ok (.aload_n 2, 1) := by decide +kernel
theorem dL_law_167 : decode cL_law 167 = .ok (.iload 6, 2) := by decide +kernel
theorem dL_law_169 : decode cL_law 169 = .ok (.invokevirtual 69, 3) := by decide +kernel
theorem dL_law_172 : decode cL_law 172 = .ok (.aload_n 2, 1) := by decide +kernel
theorem dL_law_173 : decode cL_law 173 = .ok (.iconst 2, 1) := by decide +kernel
theorem dL_law_174 : decode cL_law 174 = .ok (.invokevirtual 117, 3) := by decide +kernel
theorem dL_law_177 : decode cL_law 177 = .ok (.iload 6, 2) := by decide +kernel
theorem dL_law_179 : decode cL_law 179 = .ok (.isub, 1) := by decide +kernel
theorem dL_law_180 : decode cL_law 180 = .ok (.if_icmp .eq 13, 3) := by decide +kernel
theorem dL_law_183 : decode cL_law 183 = .ok (.aload_n 2, 1) := by decide +kernel
theorem dL_law_184 : decode cL_law 184 = .ok (.iconst 2, 1) := by decide +kernel
theorem dL_law_185 : decode cL_law 185 = .ok (.invokevirtual 117, 3) := by decide +kernel
theorem dL_law_188 : decode cL_law 188 = .ok (.iload 6, 2) := by decide +kernel
theorem dL_law_190 : decode cL_law 190 = .ok (.if_icmp .ne 7, 3) := by decide +kernel
theorem dL_law_193 : decode cL_law 193 = .ok (.iconst 1, 1) := by decide +kernel
theorem dL_law_194 : decode cL_law 194 = .ok (.goto 4, 3) := by decide +kernel
theorem dL_law_197 : decode cL_law 197 = .ok (.iconst 0, 1) := by decide +kernel
theorem dL_law_198 : decode cL_law 198 = .ok (.istore_n 3, 1) := by decide +kernel
theorem dL_law_199 : decode cL_law 199 = .ok (.iload_n 3, 1) := by decide +kernel
theorem dL_law_200 : decode cL_law 200 = .ok (.ifCond .eq 80, 3) := by decide +kernel
theorem dL_law_203 : decode cL_law 203 = .ok (.aload_n 2, 1) := by decide +kernel
theorem dL_law_204 : decode cL_law 204 = .ok (.invokevirtual 135, 3) := by decide +kernel
theorem dL_law_207 : decode cL_law 207 = .ok (.lload 7, 2) := by decide +kernel
theorem dL_law_209 : decode cL_law 209 = .ok (.lcmp, 1) := by decide +kernel
theorem dL_law_210 : decode cL_law 210 = .ok (.ifCond .ne 70, 3) := by decide +kernel
theorem dL_law_213 : decode cL_law 213 = .ok (.aload_n 1, 1) := by decide +kernel
theorem dL_law_214 : decode cL_law 214 = .ok (.aload_n 2, 1) := by decide +kernel
theorem dL_law_215 : decode cL_law 215 = .ok (.invokestatic 164, 3) := by decide +kernel
theorem dL_law_218 : decode cL_law 218 = .ok (.ifCond .eq 62, 3) := by decide +kernel
theorem dL_law_221 : decode cL_law 221 = .ok (.aload_n 2, 1) := by decide +kernel
theorem dL_law_222 : decode cL_law 222 = .ok (.iconst 2, 1) := by decide +kernel
theorem dL_law_223 : decode cL_law 223 = .ok (.invokevirtual 72, 3) := by decide +kernel
theorem dL_law_226 : decode cL_law 226 = .ok (.iload 6, 2) := by decide +kernel
theorem dL_law_228 : decode cL_law 228 = .ok (.if_icmp .ne 52, 3) := by decide +kernel
theorem dL_law_231 : decode cL_law 231 = .ok (.aload_n 2, 1) := by decide +kernel
theorem dL_law_232 : decode cL_law 232 = .ok (.iconst 2, 1) := by decide +kernel
theorem dL_law_233 : decode cL_law 233 = .ok (.iconst 1, 1) := by decide +kernel
theorem dL_law_234 : decode cL_law 234 = .ok (.iload 5, 2) := by decide +kernel
theorem dL_law_236 : decode cL_law 236 = .ok (.iconst 3, 1) := by decide +kernel
theorem dL_law_237 : decode cL_law 237 = .ok (.ishr, 1) := by decide +kernel
theorem dL_law_238 : decode cL_law 238 = .ok (.ldc 168, 2) := by decide +kernel
theorem dL_law_240 : decode cL_law 240 = .ok (.iand, 1) := by decide +kernel
theorem dL_law_241 : decode cL_law 241 = .ok (.iadd, 1) := by decide +kernel
theorem dL_law_242 : decode cL_law 242 = .ok (.invokevirtual 114, 3) := by decide +kernel
theorem dL_law_245 : decode cL_law 245 = .ok (.ifCond .lt 35, 3) := by decide +kernel
theorem dL_law_248 : decode cL_law 248 = .ok (.aload_n 2, 1) := by decide +kernel
theorem dL_law_249 : decode cL_law 249 = .ok (.iconst 2, 1) := by decide +kernel
theorem dL_law_250 : decode cL_law 250 = .ok (.invokevirtual 75, 3) := by decide +kernel
theorem dL_law_253 : decode cL_law 253 = .ok (.iload 6, 2) := by decide +kernel
theorem dL_law_255 : decode cL_law 255 = .ok (.if_icmp .ne 25, 3) := by decide +kernel
theorem dL_law_258 : decode cL_law 258 = .ok (.aload_n 1, 1) := by decide +kernel
theorem dL_law_259 : decode cL_law 259 = .ok (.iconst 2, 1) := by decide +kernel
theorem dL_law_260 : decode cL_law 260 = .ok (.invokevirtual 72, 3) := by decide +kernel
theorem dL_law_263 : decode cL_law 263 = .ok (.iload 6, 2) := by decide +kernel
theorem dL_law_265 : decode cL_law 265 = .ok (.if_icmp .ne 15, 3) := by decide +kernel
theorem dL_law_268 : decode cL_law 268 = .ok (.aload_n 1, 1) := by decide +kernel
theorem dL_law_269 : decode cL_law 269 = .ok (.aload_n 2, 1) := by decide +kernel
theorem dL_law_270 : decode cL_law 270 = .ok (.invokestatic 164, 3) := by decide +kernel
theorem dL_law_273 : decode cL_law 273 = .ok (.ifCond .eq 7, 3) := by decide +kernel
theorem dL_law_276 : decode cL_law 276 = .ok (.iconst 1, 1) := by decide +kernel
theorem dL_law_277 : decode cL_law 277 = .ok (.goto 4, 3) := by decide +kernel
theorem dL_law_280 : decode cL_law 280 = .ok (.iconst 0, 1) := by decide +kernel
theorem dL_law_281 : decode cL_law 281 = .ok (.istore_n 3, 1) := by decide +kernel
theorem dL_law_282 : decode cL_law 282 = .ok (.iinc 4 1, 3) := by decide +kernel
theorem dL_law_285 : decode cL_law 285 = .ok (.goto (-246), 3) := by decide +kernel
theorem dL_law_288 : decode cL_law 288 = .ok (.iload_n 3, 1) := by decide +kernel
theorem dL_law_289 : decode cL_law 289 = .ok (.ifCond .eq 18, 3) := by decide +kernel
theorem dL_law_292 : decode cL_law 292 = .ok (.aload_n 1, 1) := by decide +kernel
theorem dL_law_293 : decode cL_law 293 = .ok (.invokevirtual 169, 3) := by decide +kernel
theorem dL_law_296 : decode cL_law 296 = .ok (.aload_n 2, 1) := by decide +kernel
theorem dL_law_297 : decode cL_law 297 = .ok (.invokevirtual 169, 3) := by decide +kernel
theorem dL_law_300 : decode cL_law 300 = .ok (.if_icmp .ne 7, 3) := by decide +kernel
theorem dL_law_303 : decode cL_law 303 = .ok (.iconst 1, 1) := by decide +kernel
theorem dL_law_304 : decode cL_law 304 = .ok (.goto 4, 3) := by decide +kernel
theorem dL_law_307 : decode cL_law 307 = .ok (.iconst 0, 1) := by decide +kernel
theorem dL_law_308 : decode cL_law 308 = .ok (.ireturn, 1) := by decide +kernel
