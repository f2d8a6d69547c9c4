theorem dL_cell_0 : decode cL_cell 0 = .ok (.iload_n 1, 1) := by decide +kernel
theorem dL_cell_1 : decode cL_cell 1 = .ok (.aload_n 0, 1) := by decide +kernel
theorem dL_cell_2 : decode cL_cell 2 = .ok (.arraylength, 1) := by decide +kernel
theorem dL_cell_3 : decode cL_cell 3 = .ok (.if_icmp .ge 9, 3) := by decide +kernel
theorem dL_cell_6 : decode cL_cell 6 = .ok (.aload_n 0, 1) := by decide +kernel
theorem dL_cell_7 : decode cL_cell 7 = .ok (.iload_n 1, 1) := by decide +kernel
theorem dL_cell_8 : decode cL_cell 8 = .ok (.iaload, 1) := by decide +kernel
theorem dL_cell_9 : decode cL_cell 9 = .ok (.goto 9, 3) := by decide +kernel
theorem dL_cell_12 : decode cL_cell 12 = .ok (.ldc 7, 2) := by decide +kernel
theorem dL_cell_14 : decode cL_cell 14 = .ok (.iload_n 1, 1) := by decide +kernel
theorem dL_cell_15 : decode cL_cell 15 = .ok (.iconst 1, 1) := by decide +kernel
theorem dL_cell_16 : decode cL_cell 16 = .ok (.iadd, 1) := by decide +kernel
theorem dL_cell_17 : decode cL_cell 17 = .ok (.imul, 1) := by decide +kernel
theorem dL_cell_18 : decode cL_cell 18 = .ok (.ireturn, 1) := by decide +kernel
theorem dL_low_0 : decode cL_low 0 = .ok (.iload_n 0, 1) := by decide +kernel
theorem dL_low_1 : decode cL_low 1 = .ok (.ldc 8, 2) := by decide +kernel
theorem dL_low_3 : decode cL_low 3 = .ok (.iand, 1) := by decide +kernel
theorem dL_low_4 : decode cL_low 4 = .ok (.iload_n 1, 1) := by decide +kernel
theorem dL_low_5 : decode cL_low 5 = .ok (.irem, 1) := by decide +kernel
theorem dL_low_6 : decode cL_low 6 = .ok (.ireturn, 1) := by decide +kernel
set_option maxRecDepth 20000 in
theorem ggL_refused_X5_row : GoodIn wsL_refused wsX5_row := goodIn_r _ [5, 6, 7, 8, 9, 4, 10, 11, 12, 13, 14, 15, 16, 17, 18, 19, 20, 21, 22, 23, 24, 25, 26, 27, 28, 29, 30, 31, 32, 33, 34, 35, 36, 37, 38, 39, 40, 41, 42, 558, 559, 560, 561, 562, 563, 564, 565, 566, 567, 568, 569, 570, 571] (by decide +kernel) (by decide +kernel)
set_option maxRecDepth 20000 in
theorem gL_refused_X5_row : GoodIn wsL_refused (wsV RL 9 RX5 yX5_row wsX5_row) := goodIn_app (goodIn_of _ (by decide +kernel)) ggL_refused_X5_row
set_option maxRecDepth 20000 in
theorem ggL_refused_X5_lay : GoodIn wsL_refused wsX5_lay := goodIn_r _ [46, 6, 47, 48, 49, 50, 4, 51, 52, 53, 54, 55, 11, 12, 13, 14, 15, 16, 17, 56, 57, 58, 59, 60, 61, 62, 63, 38, 18, 19, 20, 21, 22, 23, 24, 25, 26, 27, 28, 29, 64, 65, 66, 67, 68, 69, 70, 71, 72, 34, 35, 36, 37, 73, 74, 75, 76, 558, 559, 560, 561, 562, 563, 564, 565, 566, 567, 568, 569, 570, 571] (by decide +kernel) (by decide +kernel)
set_option maxRecDepth 20000 in
theorem gL_refused_X5_lay : GoodIn wsL_refused (wsV RL 15 RX5 yX5_lay wsX5_lay) := goodIn_app (goodIn_of _ (by decide +kernel)) ggL_refused_X5_lay
set_option maxRecDepth 20000 in
theorem ggL_refused_X5_at : GoodIn wsL_refused wsX5_at := goodIn_r _ [80, 6, 47, 48, 49, 50, 4, 51, 52, 53, 54, 55, 11, 12, 13, 14, 15, 16, 17, 56, 57, 58, 59, 60, 61, 62, 63, 38, 18, 19, 20, 21, 22, 23, 24, 25, 26, 27, 28, 29, 64, 65, 66, 67, 68, 69, 70, 71, 72, 34, 35, 36, 37, 558, 559, 560, 561, 562, 563, 564, 565, 566, 567, 568, 569, 570, 571] (by decide +kernel) (by decide +kernel)
set_option maxRecDepth 20000 in
theorem gL_refused_X5_at : GoodIn wsL_refused (wsV RL 19 RX5 yX5_at wsX5_at) := goodIn_app (goodIn_of _ (by decide +kernel)) ggL_refused_X5_at
set_option maxRecDepth 20000 in
theorem ggL_refused_X5_tear : GoodIn wsL_refused wsX5_tear := goodIn_r _ [84, 6, 52, 53, 54, 4, 55, 11, 12, 13, 14, 15, 16, 17, 56, 57, 58, 59, 60, 61, 62, 63, 38, 18, 19, 20, 21, 22, 23, 24, 25, 26, 27, 28, 29, 85, 86, 87, 88, 558, 559, 560, 561, 562, 563, 564, 565, 566, 567, 568, 569, 570, 571] (by decide +kernel) (by decide +kernel)
set_option maxRecDepth 20000 in
theorem gL_refused_X5_tear : GoodIn wsL_refused (wsV RL 22 RX5 yX5_tear wsX5_tear) := goodIn_app (goodIn_of _ (by decide +kernel)) ggL_refused_X5_tear
set_option maxRecDepth 20000 in
theorem ggL_refused_X5_copy : GoodIn wsL_refused wsX5_copy := goodIn_r _ [92, 6, 11, 12, 13, 14, 15, 16, 17, 18, 19, 20, 4, 21, 22, 23, 24, 25, 26, 27, 28, 29, 56, 57, 58, 59, 60, 61, 62, 63, 38, 93, 94, 95, 96, 97, 98, 99, 100, 101, 34, 35, 36, 37, 102, 103, 104, 105, 106, 107, 558, 559, 560, 561, 562, 563, 564, 565, 566, 567, 568, 569, 570, 571] (by decide +kernel) (by decide +kernel)
set_option maxRecDepth 20000 in
theorem gL_refused_X5_copy : GoodIn wsL_refused (wsV RL 26 RX5 yX5_copy wsX5_copy) := goodIn_app (goodIn_of _ (by decide +kernel)) ggL_refused_X5_copy
set_option maxRecDepth 20000 in
theorem ggL_refused_X5_mean : GoodIn wsL_refused wsX5_mean := goodIn_r _ [111, 6, 47, 52, 53, 54, 4, 55, 11, 12, 13, 14, 15, 16, 17, 56, 57, 58, 59, 60, 61, 62, 63, 38, 18, 19, 20, 21, 22, 23, 24, 25, 26, 27, 28, 29, 112, 68, 69, 70, 71, 72, 65, 66, 67, 34, 35, 36, 37, 558, 559, 560, 561, 562, 563, 564, 565, 566, 567, 568, 569, 570, 571] (by decide +kernel) (by decide +kernel)
set_option maxRecDepth 20000 in
theorem gL_refused_X5_mean : GoodIn wsL_refused (wsV RL 30 RX5 yX5_mean wsX5_mean) := goodIn_app (goodIn_of _ (by decide +kernel)) ggL_refused_X5_mean
set_option maxRecDepth 20000 in
theorem ggL_refused_X5_text : GoodIn wsL_refused wsX5_text := goodIn_r _ [116, 117, 7, 8, 9, 4, 10, 11, 12, 13, 14, 15, 16, 17, 18, 19, 20, 21, 22, 23, 24, 25, 26, 27, 28, 29, 30, 31, 32, 33, 34, 35, 36, 37, 38, 39, 40, 41, 42, 558, 559, 560, 561, 562, 563, 564, 565, 566, 567, 568, 569, 570, 571] (by decide +kernel) (by decide +kernel)
set_option maxRecDepth 20000 in
theorem gL_refused_X5_text : GoodIn wsL_refused (wsV RL 33 RX5 yX5_text wsX5_text) := goodIn_app (goodIn_of _ (by decide +kernel)) ggL_refused_X5_text
set_option maxRecDepth 20000 in
theorem ggL_refused_X5_put : GoodIn wsL_refused wsX5_put := goodIn_r _ [121, 117, 48, 49, 50, 4, 51, 52, 53, 54, 55, 11, 12, 13, 14, 15, 16, 17, 56, 57, 58, 59, 60, 61, 62, 63, 38, 18, 19, 20, 21, 22, 23, 24, 25, 26, 27, 28, 29, 64, 65, 66, 67, 68, 69, 70, 71, 72, 34, 35, 36, 37, 73, 74, 75, 76, 558, 559, 560, 561, 562, 563, 564, 565, 566, 567, 568, 569, 570, 571] (by decide +kernel) (by decide +kernel)
set_option maxRecDepth 20000 in
theorem gL_refused_X5_put : GoodIn wsL_refused (wsV RL 36 RX5 yX5_put wsX5_put) := goodIn_app (goodIn_of _ (by decide +kernel)) ggL_refused_X5_put
set_option maxRecDepth 20000 in
theorem ggL_refused_X5_fault : GoodIn wsL_refused wsX5_fault := goodIn_r _ [125, 117, 52, 53, 54, 4, 55, 11, 12, 13, 14, 15, 16, 17, 56, 57, 58, 59, 60, 61, 62, 63, 38, 18, 19, 20, 21, 22, 23, 24, 25, 26, 27, 28, 29, 126, 127, 128, 129, 130, 131, 35, 36, 37, 112, 132, 133, 134, 135, 136, 137, 138, 139, 140, 141, 142, 143, 144, 145, 146, 147, 148, 149, 150, 151, 40, 41, 42, 152, 153, 154, 155, 156, 157, 158, 159, 160, 161, 162, 163, 164, 165, 166, 167, 168, 169, 170, 171, 172, 173, 174, 175, 176, 177, 178, 179, 180, 181, 182, 183, 558, 559, 560, 561, 562, 563, 564, 565, 566, 567, 568, 569, 570, 571, 572, 573, 574, 575, 576, 577, 578, 579, 580, 581, 582, 583, 584, 585, 586, 587, 588, 589, 590] (by decide +kernel) (by decide +kernel)
set_option maxRecDepth 20000 in
theorem gL_refused_X5_fault : GoodIn wsL_refused (wsV RL 39 RX5 yX5_fault wsX5_fault) := goodIn_app (goodIn_of _ (by decide +kernel)) ggL_refused_X5_fault
set_option maxRecDepth 20000 in
theorem ggL_refused_X5_delta : GoodIn wsL_refused wsX5_delta := goodIn_r _ [187, 117, 188, 130, 189, 52, 53, 54, 4, 55, 11, 12, 13, 14, 15, 16, 17, 56, 57, 58, 59, 60, 61, 62, 63, 38, 18, 19, 20, 21, 22, 23, 24, 25, 26, 27, 28, 29, 126, 127, 128, 129, 131, 35, 36, 37, 112, 132, 133, 134, 135, 136, 137, 138, 139, 140, 141, 142, 143, 144, 145, 146, 147, 148, 149, 150, 151, 40, 41, 42, 152, 153, 154, 155, 156, 157, 158, 159, 160, 161, 162, 163, 164, 165, 166, 167, 168, 169, 170, 171, 172, 173, 174, 175, 176, 177, 178, 179, 180, 181, 182, 183, 190, 191, 192, 193, 194, 195, 196, 197, 198, 199, 200, 201, 202, 203, 204, 205, 206, 102, 103, 104, 105, 106, 107, 207, 208, 209, 210, 211, 558, 559, 560, 561, 562, 563, 564, 565, 566, 567, 568, 569, 572, 573, 574, 575, 576, 577, 578, 579, 580, 581, 582, 583, 584, 585, 586, 587, 588, 589, 590, 570, 571] (by decide +kernel) (by decide +kernel)
set_option maxRecDepth 20000 in
theorem gL_refused_X5_delta : GoodIn wsL_refused (wsV RL 42 RX5 yX5_delta wsX5_delta) := goodIn_app (goodIn_of _ (by decide +kernel)) ggL_refused_X5_delta
set_option maxRecDepth 20000 in
theorem ggL_refused_X5_woman : GoodIn wsL_refused wsX5_woman := goodIn_r _ [215, 47, 216, 217, 218, 4, 219, 188, 220, 221, 222, 223, 24, 25, 26, 224, 225, 226, 144, 227, 148, 228, 229, 204, 230, 231, 232, 233, 234, 194, 180, 235, 236, 237, 238, 195, 182, 196, 239, 240, 174, 241, 242, 203, 205, 243, 558, 559, 560, 561, 562, 563, 564, 565, 566, 567, 568, 569, 576, 577, 578, 579, 580, 581, 582, 583, 584, 585, 586, 587, 588, 589, 590] (by decide +kernel) (by decide +kernel)
set_option maxRecDepth 20000 in
theorem gL_refused_X5_woman : GoodIn wsL_refused (wsV RL 45 RX5 yX5_woman wsX5_woman) := goodIn_app (goodIn_of _ (by decide +kernel)) ggL_refused_X5_woman
set_option maxRecDepth 20000 in
theorem ggL_refused_X5_mark : GoodIn wsL_refused wsX5_mark := goodIn_r _ [247, 188, 216, 217, 218, 4, 219, 24, 25, 26, 248, 249, 174, 250, 18, 19, 20, 21, 22, 23, 27, 28, 29, 251, 232, 233, 144, 234, 194, 180, 235, 236, 237, 238, 195, 228, 229, 204, 230, 182, 196, 239, 240, 241, 242, 203, 205, 243, 252, 253, 254, 255, 256, 257, 258, 558, 559, 560, 561, 562, 563, 564, 565, 566, 567, 568, 569, 576, 577, 578, 579, 580, 581, 582, 583, 584, 585, 586, 587, 588, 589, 590] (by decide +kernel) (by decide +kernel)
set_option maxRecDepth 20000 in
theorem gL_refused_X5_mark : GoodIn wsL_refused (wsV RL 48 RX5 yX5_mark wsX5_mark) := goodIn_app (goodIn_of _ (by decide +kernel)) ggL_refused_X5_mark
set_option maxRecDepth 20000 in
theorem ggL_refused_X5_hem : GoodIn wsL_refused wsX5_hem := goodIn_r _ [262, 188, 216, 217, 218, 4, 219, 263, 264, 265, 266, 251, 232, 233, 144, 234, 194, 180, 25, 26, 235, 236, 237, 238, 195, 228, 229, 204, 230, 182, 196, 239, 240, 174, 241, 242, 203, 205, 243, 558, 559, 560, 561, 562, 563, 564, 565, 566, 567, 568, 569, 576, 577, 578, 579, 580, 581, 582, 583, 584, 585, 586, 587, 588, 589, 590] (by decide +kernel) (by decide +kernel)
set_option maxRecDepth 20000 in
theorem gL_refused_X5_hem : GoodIn wsL_refused (wsV RL 51 RX5 yX5_hem wsX5_hem) := goodIn_app (goodIn_of _ (by decide +kernel)) ggL_refused_X5_hem
set_option maxRecDepth 20000 in
theorem ggL_refused_X5_would : GoodIn wsL_refused wsX5_would := goodIn_r _ [270, 188, 216, 217, 218, 4, 219, 271, 272, 273, 24, 25, 26, 274, 275, 276, 144, 277, 182, 183, 148, 278, 279, 280, 281, 228, 229, 204, 230, 282, 283, 284, 285, 150, 181, 239, 240, 174, 241, 242, 203, 205, 243, 558, 559, 560, 561, 562, 563, 564, 565, 566, 567, 568, 569, 576, 577, 578, 579, 580, 581, 582, 583, 584, 585, 586, 587, 588, 589, 590] (by decide +kernel) (by decide +kernel)
set_option maxRecDepth 20000 in
theorem gL_refused_X5_would : GoodIn wsL_refused (wsV RL 54 RX5 yX5_would wsX5_would) := goodIn_app (goodIn_of _ (by decide +kernel)) ggL_refused_X5_would
set_option maxRecDepth 20000 in
theorem ggL_refused_X5_flood : GoodIn wsL_refused wsX5_flood := goodIn_r _ [289, 188, 271, 272, 4, 273, 290, 291, 292, 144, 293, 194, 148, 146, 195, 196, 183, 294, 295, 296, 297, 197, 149, 198, 199, 28, 29, 282, 283, 284, 285, 150, 181, 25, 26, 298, 299, 300, 301, 278, 279, 280, 281, 228, 229, 204, 230, 558, 559, 560, 561, 562, 563, 564, 565, 566, 567, 568, 569, 576, 577, 578, 579, 580, 581, 582, 583, 584, 585, 586, 587, 588, 589, 590] (by decide +kernel) (by decide +kernel)
set_option maxRecDepth 20000 in
theorem gL_refused_X5_flood : GoodIn wsL_refused (wsV RL 57 RX5 yX5_flood wsX5_flood) := goodIn_app (goodIn_of _ (by decide +kernel)) ggL_refused_X5_flood
set_option maxRecDepth 20000 in
theorem ggL_refused_X5_move : GoodIn wsL_refused wsX5_move := goodIn_r _ [305, 188, 216, 217, 218, 4, 219, 306, 307, 308, 24, 25, 26, 309, 310, 311, 144, 312, 181, 294, 295, 296, 297, 197, 149, 198, 199, 28, 29, 558, 559, 560, 561, 562, 563, 564, 565, 566, 567, 568, 569, 576, 577, 578, 579, 580, 581, 582, 583, 584, 585, 586, 587, 588, 589, 590] (by decide +kernel) (by decide +kernel)
set_option maxRecDepth 20000 in
theorem gL_refused_X5_move : GoodIn wsL_refused (wsV RL 60 RX5 yX5_move wsX5_move) := goodIn_app (goodIn_of _ (by decide +kernel)) ggL_refused_X5_move
set_option maxRecDepth 20000 in
theorem ggL_refused_X5_dyke : GoodIn wsL_refused wsX5_dyke := goodIn_r _ [316, 188, 306, 307, 4, 308, 24, 25, 26, 317, 318, 319, 144, 320, 150, 147, 294, 295, 296, 297, 197, 149, 198, 199, 28, 29, 558, 559, 560, 561, 562, 563, 564, 565, 566, 567, 568, 569, 576, 577, 578, 579, 580, 581, 582, 583, 584, 585, 586, 587, 588, 589, 590] (by decide +kernel) (by decide +kernel)
set_option maxRecDepth 20000 in
theorem gL_refused_X5_dyke : GoodIn wsL_refused (wsV RL 63 RX5 yX5_dyke wsX5_dyke) := goodIn_app (goodIn_of _ (by decide +kernel)) ggL_refused_X5_dyke
set_option maxRecDepth 20000 in
theorem ggL_refused_X5_tuck : GoodIn wsL_refused wsX5_tuck := goodIn_r _ [324, 188, 216, 217, 218, 4, 219, 24, 25, 26, 325, 326, 327, 144, 328, 183, 294, 295, 296, 297, 197, 149, 198, 199, 28, 29, 558, 559, 560, 561, 562, 563, 564, 565, 566, 567, 568, 569, 576, 577, 578, 579, 580, 581, 582, 583, 584, 585, 586, 587, 588, 589, 590] (by decide +kernel) (by decide +kernel)
set_option maxRecDepth 20000 in
theorem gL_refused_X5_tuck : GoodIn wsL_refused (wsV RL 66 RX5 yX5_tuck wsX5_tuck) := goodIn_app (goodIn_of _ (by decide +kernel)) ggL_refused_X5_tuck
set_option maxRecDepth 20000 in
theorem ggL_refused_X5_undo : GoodIn wsL_refused wsX5_undo := goodIn_r _ [332, 188, 333, 334, 335, 144, 336, 149, 198, 199, 197, 148, 181, 150, 147, 183, 25, 4, 26, 28, 29, 558, 559, 560, 561, 562, 563, 564, 565, 566, 567, 568, 569, 576, 577, 578, 579, 580, 581, 582, 583, 584, 585, 586, 587, 588, 589, 590] (by decide +kernel) (by decide +kernel)
set_option maxRecDepth 20000 in
theorem gL_refused_X5_undo : GoodIn wsL_refused (wsV RL 69 RX5 yX5_undo wsX5_undo) := goodIn_app (goodIn_of _ (by decide +kernel)) ggL_refused_X5_undo
set_option maxRecDepth 20000 in
theorem ggL_refused_X5_keep : GoodIn wsL_refused wsX5_keep := goodIn_r _ [340, 188, 207, 208, 209, 4, 210, 189, 190, 191, 192, 144, 193, 146, 147, 148, 149, 150, 180, 181, 182, 183, 194, 195, 196, 197, 198, 199, 200, 201, 202, 203, 204, 205, 206, 102, 103, 104, 105, 106, 107, 558, 559, 560, 561, 562, 563, 564, 565, 566, 567, 568, 569, 576, 577, 578, 579, 580, 581, 582, 583, 584, 585, 586, 587, 588, 589, 590] (by decide +kernel) (by decide +kernel)
set_option maxRecDepth 20000 in
theorem gL_refused_X5_keep : GoodIn wsL_refused (wsV RL 72 RX5 yX5_keep wsX5_keep) := goodIn_app (goodIn_of _ (by decide +kernel)) ggL_refused_X5_keep
set_option maxRecDepth 20000 in
theorem ggL_refused_X5_on : GoodIn wsL_refused wsX5_on := goodIn_r _ [344, 188, 207, 208, 209, 4, 210, 189, 18, 19, 20, 21, 22, 23, 24, 25, 26, 27, 28, 29, 190, 191, 192, 144, 193, 146, 147, 148, 149, 150, 180, 181, 182, 183, 194, 195, 196, 197, 198, 199, 200, 201, 202, 203, 204, 205, 206, 102, 103, 104, 105, 106, 107, 576, 577, 578, 579, 580, 581, 582, 583, 584, 585, 586, 587, 588, 589, 590, 558, 559, 560, 561, 562, 563, 564, 565, 566, 567, 568, 569] (by decide +kernel) (by decide +kernel)
set_option maxRecDepth 20000 in
theorem gL_refused_X5_on : GoodIn wsL_refused (wsV RL 75 RX5 yX5_on wsX5_on) := goodIn_app (goodIn_of _ (by decide +kernel)) ggL_refused_X5_on
set_option maxRecDepth 20000 in
theorem ggL_refused_X5_know : GoodIn wsL_refused wsX5_know := goodIn_r _ [348, 188, 47, 349, 350, 351, 4, 352, 353, 354, 355, 144, 356, 146, 263, 264, 265, 266, 357, 358, 359, 360, 361, 362, 363, 364, 365, 366, 367, 180, 231, 232, 233, 234, 194, 25, 26, 235, 236, 237, 238, 195, 228, 229, 204, 230, 182, 196, 239, 240, 174, 241, 242, 203, 205, 243, 368, 369, 370, 371, 372, 373, 374, 558, 559, 560, 561, 562, 563, 564, 565, 566, 567, 568, 569, 576, 577, 578, 579, 580, 581, 582, 583, 584, 585, 586, 587, 588, 589, 590] (by decide +kernel) (by decide +kernel)
set_option maxRecDepth 20000 in
theorem gL_refused_X5_know : GoodIn wsL_refused (wsV RL 78 RX5 yX5_know wsX5_know) := goodIn_app (goodIn_of _ (by decide +kernel)) ggL_refused_X5_know
set_option maxRecDepth 20000 in
theorem ggL_refused_X5_high : GoodIn wsL_refused wsX5_high := goodIn_r _ [378, 188, 263, 264, 265, 4, 266, 353, 354, 355, 144, 356, 146, 357, 358, 359, 360, 361, 362, 363, 364, 365, 366, 367, 180, 231, 232, 233, 234, 194, 25, 26, 235, 236, 237, 238, 195, 228, 229, 204, 230, 182, 196, 239, 240, 174, 241, 242, 203, 205, 243, 368, 369, 370, 371, 372, 373, 374, 24, 558, 559, 560, 561, 562, 563, 564, 565, 566, 567, 568, 569, 576, 577, 578, 579, 580, 581, 582, 583, 584, 585, 586, 587, 588, 589, 590] (by decide +kernel) (by decide +kernel)
set_option maxRecDepth 20000 in
theorem gL_refused_X5_high : GoodIn wsL_refused (wsV RL 81 RX5 yX5_high wsX5_high) := goodIn_app (goodIn_of _ (by decide +kernel)) ggL_refused_X5_high
set_option maxRecDepth 20000 in
theorem ggL_refused_X5_look : GoodIn wsL_refused wsX5_look := goodIn_r _ [382, 188, 47, 349, 350, 351, 4, 352, 353, 354, 355, 144, 356, 146, 263, 264, 265, 266, 357, 358, 359, 360, 361, 362, 363, 364, 365, 366, 367, 180, 231, 232, 233, 234, 194, 25, 26, 235, 236, 237, 238, 195, 228, 229, 204, 230, 182, 196, 239, 240, 174, 241, 242, 203, 205, 243, 383, 384, 385, 386, 387, 388, 389, 390, 40, 41, 42, 24, 391, 392, 393, 394, 395, 27, 28, 29, 558, 559, 560, 561, 562, 563, 564, 565, 566, 567, 568, 569, 576, 577, 578, 579, 580, 581, 582, 583, 584, 585, 586, 587, 588, 589, 590] (by decide +kernel) (by decide +kernel)
set_option maxRecDepth 20000 in
theorem gL_refused_X5_look : GoodIn wsL_refused (wsV RL 84 RX5 yX5_look wsX5_look) := goodIn_app (goodIn_of _ (by decide +kernel)) ggL_refused_X5_look
set_option maxRecDepth 20000 in
theorem ggL_refused_X5_looks : GoodIn wsL_refused wsX5_looks := goodIn_r _ [399, 188, 47, 263, 264, 265, 4, 266, 353, 354, 355, 144, 356, 146, 357, 358, 359, 360, 361, 362, 363, 364, 365, 366, 367, 180, 231, 232, 233, 234, 194, 25, 26, 235, 236, 237, 238, 195, 228, 229, 204, 230, 182, 196, 239, 240, 174, 241, 242, 203, 205, 243, 368, 369, 370, 371, 372, 373, 374, 558, 559, 560, 561, 562, 563, 564, 565, 566, 567, 568, 569, 576, 577, 578, 579, 580, 581, 582, 583, 584, 585, 586, 587, 588, 589, 590] (by decide +kernel) (by decide +kernel)
set_option maxRecDepth 20000 in
theorem gL_refused_X5_looks : GoodIn wsL_refused (wsV RL 87 RX5 yX5_looks wsX5_looks) := goodIn_app (goodIn_of _ (by decide +kernel)) ggL_refused_X5_looks
set_option maxRecDepth 20000 in
theorem ggL_refused_X5_line : GoodIn wsL_refused wsX5_line := goodIn_r _ [403, 188, 47, 263, 264, 265, 4, 266, 251, 232, 233, 144, 234, 194, 180, 25, 26, 235, 236, 237, 238, 195, 228, 229, 204, 230, 182, 196, 239, 240, 174, 241, 242, 203, 205, 243, 558, 559, 560, 561, 562, 563, 564, 565, 566, 567, 568, 569, 576, 577, 578, 579, 580, 581, 582, 583, 584, 585, 586, 587, 588, 589, 590] (by decide +kernel) (by decide +kernel)
set_option maxRecDepth 20000 in
theorem gL_refused_X5_line : GoodIn wsL_refused (wsV RL 90 RX5 yX5_line wsX5_line) := goodIn_app (goodIn_of _ (by decide +kernel)) ggL_refused_X5_line
set_option maxRecDepth 20000 in
theorem ggL_refused_X5_kinds : GoodIn wsL_refused wsX5_kinds := goodIn_r _ [407, 408, 409, 410, 4, 411, 6, 216, 217, 218, 219, 188, 52, 53, 54, 55, 11, 12, 13, 14, 15, 16, 17, 56, 57, 58, 59, 60, 61, 62, 63, 38, 18, 19, 20, 21, 22, 23, 24, 25, 26, 27, 28, 29, 112, 68, 69, 70, 71, 72, 65, 66, 67, 34, 35, 36, 37, 271, 272, 273, 412, 413, 414, 415, 416, 417, 418, 419, 274, 275, 276, 144, 277, 182, 183, 148, 278, 279, 280, 281, 228, 229, 204, 230, 282, 283, 284, 285, 150, 181, 239, 240, 174, 241, 242, 203, 205, 243, 558, 559, 560, 561, 562, 563, 564, 565, 566, 567, 568, 569, 576, 577, 578, 579, 580, 581, 582, 583, 584, 585, 586, 587, 588, 589, 590, 570, 571] (by decide +kernel) (by decide +kernel)
set_option maxRecDepth 20000 in
theorem gL_refused_X5_kinds : GoodIn wsL_refused (wsV RL 93 RX5 yX5_kinds wsX5_kinds) := goodIn_app (goodIn_of _ (by decide +kernel)) ggL_refused_X5_kinds
set_option maxRecDepth 20000 in
theorem ggL_refused_X5_test : GoodIn wsL_refused wsX5_test := goodIn_r _ [423, 47, 408, 409, 410, 4, 411, 6, 216, 217, 218, 219, 188, 52, 53, 54, 55, 11, 12, 13, 14, 15, 16, 17, 56, 57, 58, 59, 60, 61, 62, 63, 38, 18, 19, 20, 21, 22, 23, 24, 25, 26, 27, 28, 29, 112, 68, 69, 70, 71, 72, 65, 66, 67, 34, 35, 36, 37, 271, 272, 273, 412, 413, 414, 415, 416, 417, 418, 419, 274, 275, 276, 144, 277, 182, 183, 148, 278, 279, 280, 281, 228, 229, 204, 230, 282, 283, 284, 285, 150, 181, 239, 240, 174, 241, 242, 203, 205, 243, 424, 425, 426, 427, 388, 389, 390, 40, 41, 42, 383, 362, 363, 392, 393, 394, 395, 558, 559, 560, 561, 562, 563, 564, 565, 566, 567, 568, 569, 576, 577, 578, 579, 580, 581, 582, 583, 584, 585, 586, 587, 588, 589, 590, 570, 571] (by decide +kernel) (by decide +kernel)
set_option maxRecDepth 20000 in
theorem gL_refused_X5_test : GoodIn wsL_refused (wsV RL 96 RX5 yX5_test wsX5_test) := goodIn_app (goodIn_of _ (by decide +kernel)) ggL_refused_X5_test
set_option maxRecDepth 20000 in
theorem ggL_refused_X5_whose : GoodIn wsL_refused wsX5_whose := goodIn_r _ [431, 6, 188, 47, 11, 12, 13, 14, 15, 16, 17, 56, 57, 58, 59, 60, 61, 62, 63, 38, 18, 19, 20, 4, 21, 22, 23, 24, 25, 26, 27, 28, 29, 112, 432, 433, 434, 435, 251, 232, 233, 144, 234, 194, 180, 235, 236, 237, 238, 195, 228, 229, 204, 230, 182, 196, 239, 240, 174, 241, 242, 203, 205, 243, 68, 69, 70, 71, 72, 65, 66, 67, 34, 35, 36, 37, 558, 559, 560, 561, 562, 563, 564, 565, 566, 567, 568, 569, 576, 577, 578, 579, 580, 581, 582, 583, 584, 585, 586, 587, 588, 589, 590, 570, 571] (by decide +kernel) (by decide +kernel)
set_option maxRecDepth 20000 in
theorem gL_refused_X5_whose : GoodIn wsL_refused (wsV RL 99 RX5 yX5_whose wsX5_whose) := goodIn_app (goodIn_of _ (by decide +kernel)) ggL_refused_X5_whose
set_option maxRecDepth 20000 in
theorem ggL_refused_X5_raise : GoodIn wsL_refused wsX5_raise := goodIn_r _ [439, 6, 188, 440, 271, 272, 4, 273, 11, 12, 13, 14, 15, 16, 17, 441, 442, 443, 144, 444, 150, 445, 446, 24, 25, 26, 447, 448, 449, 450, 451, 452, 453, 454, 40, 41, 42, 200, 201, 202, 203, 204, 205, 206, 102, 103, 104, 105, 106, 107, 28, 29, 455, 456, 457, 458, 459, 460, 461, 462, 463, 464, 465, 466, 467, 468, 469, 470, 471, 472, 473, 474, 229, 230, 475, 476, 477, 478, 30, 31, 32, 33, 34, 35, 36, 37, 38, 39, 479, 480, 481, 482, 73, 74, 75, 76, 72, 65, 66, 67, 60, 61, 62, 63, 558, 559, 560, 561, 562, 563, 564, 565, 566, 567, 568, 569, 576, 577, 578, 579, 580, 581, 582, 583, 584, 585, 586, 587, 588, 589, 590, 570, 571, 591, 592, 593] (by decide +kernel) (by decide +kernel)
set_option maxRecDepth 20000 in
theorem gL_refused_X5_raise : GoodIn wsL_refused (wsV RL 102 RX5 yX5_raise wsX5_raise) := goodIn_app (goodIn_of _ (by decide +kernel)) ggL_refused_X5_raise
set_option maxRecDepth 20000 in
theorem ggL_refused_X5_least : GoodIn wsL_refused wsX5_least := goodIn_r _ [486, 188, 389, 229, 204, 230, 216, 217, 218, 4, 219, 271, 272, 273, 487, 283, 284, 144, 285, 150, 181, 25, 26, 558, 559, 560, 561, 562, 563, 564, 565, 566, 567, 568, 569, 576, 577, 578, 579, 580, 581, 582, 583, 584, 585, 586, 587, 588, 589, 590] (by decide +kernel) (by decide +kernel)
set_option maxRecDepth 20000 in
theorem gL_refused_X5_least : GoodIn wsL_refused (wsV RL 105 RX5 yX5_least wsX5_least) := goodIn_app (goodIn_of _ (by decide +kernel)) ggL_refused_X5_least
set_option maxRecDepth 20000 in
theorem ggL_refused_X5_duel : GoodIn wsL_refused wsX5_duel := goodIn_r _ [491, 188, 440, 271, 272, 4, 273, 447, 448, 449, 450, 451, 452, 453, 454, 40, 41, 42, 200, 201, 202, 203, 204, 205, 206, 102, 103, 104, 105, 106, 107, 25, 26, 28, 29, 492, 493, 469, 474, 229, 230, 494, 495, 496, 497, 558, 559, 560, 561, 562, 563, 564, 565, 566, 567, 568, 569, 576, 577, 578, 579, 580, 581, 582, 583, 584, 585, 586, 587, 588, 589, 590, 591, 592, 593] (by decide +kernel) (by decide +kernel)
set_option maxRecDepth 20000 in
theorem gL_refused_X5_duel : GoodIn wsL_refused (wsV RL 108 RX5 yX5_duel wsX5_duel) := goodIn_app (goodIn_of _ (by decide +kernel)) ggL_refused_X5_duel
set_option maxRecDepth 20000 in
theorem ggL_refused_X5_odds : GoodIn wsL_refused wsX5_odds := goodIn_r _ [501, 188, 24, 25, 4, 26, 298, 299, 300, 144, 301, 146, 278, 279, 280, 281, 228, 229, 204, 230, 282, 283, 284, 285, 150, 181, 502, 503, 504, 505, 506, 507, 508, 509, 510, 558, 559, 560, 561, 562, 563, 564, 565, 566, 567, 568, 569, 576, 577, 578, 579, 580, 581, 582, 583, 584, 585, 586, 587, 588, 589, 590] (by decide +kernel) (by decide +kernel)
set_option maxRecDepth 20000 in
theorem gL_refused_X5_odds : GoodIn wsL_refused (wsV RL 111 RX5 yX5_odds wsX5_odds) := goodIn_app (goodIn_of _ (by decide +kernel)) ggL_refused_X5_odds
set_option maxRecDepth 20000 in
theorem ggL_refused_X5_lots : GoodIn wsL_refused wsX5_lots := goodIn_r _ [514, 515, 188, 516, 517, 518, 519, 520, 4, 521, 522, 523, 524, 525, 526, 290, 291, 292, 144, 293, 194, 148, 146, 195, 196, 183, 294, 295, 296, 297, 197, 149, 198, 199, 28, 29, 282, 283, 284, 285, 150, 181, 25, 26, 309, 310, 311, 312, 558, 559, 560, 561, 562, 563, 564, 565, 566, 567, 568, 569, 576, 577, 578, 579, 580, 581, 582, 583, 584, 585, 586, 587, 588, 589, 590] (by decide +kernel) (by decide +kernel)
set_option maxRecDepth 20000 in
theorem gL_refused_X5_lots : GoodIn wsL_refused (wsV RL 114 RX5 yX5_lots wsX5_lots) := goodIn_app (goodIn_of _ (by decide +kernel)) ggL_refused_X5_lots
set_option maxRecDepth 20000 in
theorem ggL_refused_X5_count : GoodIn wsL_refused wsX5_count := goodIn_r _ [530, 188, 6, 117, 531, 445, 4, 446, 24, 25, 26, 532, 533, 534, 144, 535, 148, 194, 536, 537, 538, 539, 146, 180, 540, 249, 174, 250, 541, 542, 543, 14, 544, 16, 545, 57, 58, 59, 60, 61, 62, 63, 38, 12, 13, 15, 17, 546, 547, 548, 549, 189, 550, 551, 552, 553, 207, 208, 209, 210, 558, 559, 560, 561, 562, 563, 564, 565, 566, 567, 568, 569, 576, 577, 578, 579, 580, 581, 582, 583, 584, 585, 586, 587, 588, 589, 590, 570, 571] (by decide +kernel) (by decide +kernel)
set_option maxRecDepth 20000 in
theorem gL_refused_X5_count : GoodIn wsL_refused (wsV RL 117 RX5 yX5_count wsX5_count) := goodIn_app (goodIn_of _ (by decide +kernel)) ggL_refused_X5_count
set_option maxRecDepth 20000 in
theorem ggL_refused_X5_findings : GoodIn wsL_refused wsX5_findings := goodIn_r _ [557, 23, 24, 25, 4, 26, 558, 559, 560, 561, 562, 563, 564, 565, 566, 567, 568, 569] (by decide +kernel) (by decide +kernel)
set_option maxRecDepth 20000 in
theorem gL_refused_X5_findings : GoodIn wsL_refused (wsV RL 120 RX5 yX5_findings wsX5_findings) := goodIn_app (goodIn_of _ (by decide +kernel)) ggL_refused_X5_findings
theorem dL_refused_0 : decode cL_refused 0 = .ok (.iload_n 1, 1) := by decide +kernel
theorem dL_refused_1 : decode cL_refused 1 = .ok (.ifCond .ge 11, 3) := by decide +kernel
theorem dL_refused_4 : decode cL_refused 4 = .ok (.iload_n 1, 1) := by decide +kernel
theorem dL_refused_5 : decode cL_refused 5 = .ok (.sipush 999, 3) := by decide +kernel
theorem dL_refused_8 : decode cL_refused 8 = .ok (.isub, 1) := by decide +kernel
theorem dL_refused_9 : decode cL_refused 9 = .ok (.goto 8, 3) := by decide +kernel
theorem dL_refused_12 : decode cL_refused 12 = .ok (.iload_n 1, 1) := by decide +kernel
theorem dL_refused_13 : decode cL_refused 13 = .ok (.sipush 1000, 3) := by decide +kernel
theorem dL_refused_16 : decode cL_refused 16 = .ok (.iadd, 1) := by decide +kernel
theorem dL_refused_17 : decode cL_refused 17 = .ok (.istore_n 2, 1) := by decide +kernel
theorem dL_refused_18 : decode cL_refused 18 = .ok (.aload_n 0, 1) := by decide +kernel
theorem dL_refused_19 : decode cL_refused 19 = .ok (.iload_n 2, 1) := by decide +kernel
theorem dL_refused_20 : decode cL_refused 20 = .ok (.iconst 0, 1) := by decide +kernel
theorem dL_refused_21 : decode cL_refused 21 = .ok (.invokevirtual 9, 3) := by decide +kernel
theorem dL_refused_24 : decode cL_refused 24 = .ok (.iconst (-1), 1) := by decide +kernel
theorem dL_refused_25 : decode cL_refused 25 = .ok (.if_icmp .ne 347, 3) := by decide +kernel
theorem dL_refused_28 : decode cL_refused 28 = .ok (.aload_n 0, 1) := by decide +kernel
theorem dL_refused_29 : decode cL_refused 29 = .ok (.iload_n 2, 1) := by decide +kernel
theorem dL_refused_30 : decode cL_refused 30 = .ok (.iconst 0, 1) := by decide +kernel
theorem dL_refused_31 : decode cL_refused 31 = .ok (.iconst 0, 1) := by decide +kernel
theorem dL_refused_32 : decode cL_refused 32 = .ok (.invokevirtual 15, 3) := by decide +kernel
theorem dL_refused_35 : decode cL_refused 35 = .ok (.iconst (-1), 1) := by decide +kernel
theorem dL_refused_36 : decode cL_refused 36 = .ok (.if_icmp .ne 336, 3) := by decide +kernel
theorem dL_refused_39 : decode cL_refused 39 = .ok (.aload_n 0, 1) := by decide +kernel
theorem dL_refused_40 : decode cL_refused 40 = .ok (.iload_n 2, 1) := by decide +kernel
theorem dL_refused_41 : decode cL_refused 41 = .ok (.iconst 0, 1) := by decide +kernel
theorem dL_refused_42 : decode cL_refused 42 = .ok (.invokevirtual 19, 3) := by decide +kernel
theorem dL_refused_45 : decode cL_refused 45 = .ok (.iconst (-1), 1) := by decide +kernel
theorem dL_refused_46 : decode cL_refused 46 = .ok (.if_icmp .ne 326, 3) := by decide +kernel
theorem dL_refused_49 : decode cL_refused 49 = .ok (.aload_n 0, 1) := by decide +kernel
theorem dL_refused_50 : decode cL_refused 50 = .ok (.iload_n 2, 1) := by decide +kernel
theorem dL_refused_51 : decode cL_refused 51 = .ok (.invokevirtual 22, 3) := by decide +kernel
theorem dL_refused_54 : decode cL_refused 54 = .ok (.iconst (-1), 1) := by decide +kernel
theorem dL_refused_55 : decode cL_refused 55 = .ok (.if_icmp .ne 317, 3) := by decide +kernel
theorem dL_refused_58 : decode cL_refused 58 = .ok (.aload_n 0, 1) := by decide +kernel
theorem dL_refused_59 : decode cL_refused 59 = .ok (.iconst 0, 1) := by decide +kernel
theorem dL_refused_60 : decode cL_refused 60 = .ok (.iconst 0, 1) := by decide +kernel
theorem dL_refused_61 : decode cL_refused 61 = .ok (.iload_n 2, 1) := by decide +kernel
theorem dL_refused_62 : decode cL_refused 62 = .ok (.iconst 0, 1) := by decide +kernel
theorem dL_refused_63 : decode cL_refused 63 = .ok (.iconst 0, 1) := by decide +kernel
theorem dL_refused_64 : decode cL_refused 64 = .ok (.invokevirtual 26, 3) := by decide +kernel
theorem dL_refused_67 : decode cL_refused 67 = .ok (.iconst (-1), 1) := by decide +kernel
theorem dL_refused_68 : decode cL_refused 68 = .ok (.if_icmp .ne 304, 3) := by decide +kernel
theorem dL_refused_71 : decode cL_refused 71 = .ok (.aload_n 0, 1) := by decide +kernel
theorem dL_refused_72 : decode cL_refused 72 = .ok (.iload_n 2, 1) := by decide +kernel
theorem dL_refused_73 : decode cL_refused 73 = .ok (.invokevirtual 30, 3) := by decide +kernel
theorem dL_refused_76 : decode cL_refused 76 = .ok (.iconst (-1), 1) := by decide +kernel
theorem dL_refused_77 : decode cL_refused 77 = .ok (.if_icmp .ne 295, 3) := by decide +kernel
theorem dL_refused_80 : decode cL_refused 80 = .ok (.aload_n 0, 1) := by decide +kernel
theorem dL_refused_81 : decode cL_refused 81 = .ok (.iload_n 2, 1) := by decide +kernel
theorem dL_refused_82 : decode cL_refused 82 = .ok (.iconst 0, 1) := by decide +kernel
theorem dL_refused_83 : decode cL_refused 83 = .ok (.invokevirtual 33, 3) := by decide +kernel
theorem dL_refused_86 : decode cL_refused 86 = .ok (.iconst (-1), 1) := by decide +kernel
theorem dL_refused_87 : decode cL_refused 87 = .ok (.if_icmp .ne 285, 3) := by decide +kernel
theorem dL_refused_90 : decode cL_refused 90 = .ok (.aload_n 0, 1) := by decide +kernel
theorem dL_refused_91 : decode cL_refused 91 = .ok (.iload_n 2, 1) := by decide +kernel
theorem dL_refused_92 : decode cL_refused 92 = .ok (.iconst 0, 1) := by decide +kernel
theorem dL_refused_93 : decode cL_refused 93 = .ok (.iconst 0, 1) := by decide +kernel
theorem dL_refused_94 : decode cL_refused 94 = .ok (.invokevirtual 36, 3) := by decide +kernel
theorem dL_refused_97 : decode cL_refused 97 = .ok (.iconst (-1), 1) := by decide +kernel
theorem dL_refused_98 : decode cL_refused 98 = .ok (.if_icmp .ne 274, 3) := by decide +kernel
theorem dL_refused_101 : decode cL_refused 101 = .ok (.aload_n 0, 1) := by decide +kernel
theorem dL_refused_102 : decode cL_refused 102 = .ok (.iload_n 2, 1) := by decide +kernel
theorem dL_refused_103 : decode cL_refused 103 = .ok (.invokevirtual 39, 3) := by decide +kernel
theorem dL_refused_106 : decode cL_refused 106 = .ok (.iconst (-1), 1) := by decide +kernel
theorem dL_refused_107 : decode cL_refused 107 = .ok (.if_icmp .ne 265, 3) := by decide +kernel
theorem dL_refused_110 : decode cL_refused 110 = .ok (.aload_n 0, 1) := by decide +kernel
theorem dL_refused_111 : decode cL_refused 111 = .ok (.iload_n 2, 1) := by decide +kernel
theorem dL_refused_112 : decode cL_refused 112 = .ok (.invokevirtual 42, 3) := by decide +kernel
theorem dL_refused_115 : decode cL_refused 115 = .ok (.iconst (-1), 1) := by decide +kernel
theorem dL_refused_116 : decode cL_refused 116 = .ok (.if_icmp .ne 256, 3) := by decide +kernel
theorem dL_refused_119 : decode cL_refused 119 = .ok (.aload_n 0, 1) := by decide +kernel
theorem dL_refused_120 : decode cL_refused 120 = .ok (.iload_n 2, 1) := by decide +kernel
theorem dL_refused_121 : decode cL_refused 121 = .ok (.iconst 0, 1) := by decide +kernel
theorem dL_refused_122 : decode cL_refused 122 = .ok (.invokevirtual 45, 3) := by decide +kernel
theorem dL_refused_125 : decode cL_refused 125 = .ok (.iconst (-1), 1) := by decide +kernel
theorem dL_refused_126 : decode cL_refused 126 = .ok (.if_icmp .ne 246, 3) := by decide +kernel
theorem dL_refused_129 : decode cL_refused 129 = .ok (.aload_n 0, 1) := by decide +kernel
theorem dL_refused_130 : decode cL_refused 130 = .ok (.iload_n 2, 1) := by decide +kernel
theorem dL_refused_131 : decode cL_refused 131 = .ok (.iconst 1, 1) := by decide +kernel
theorem dL_refused_132 : decode cL_refused 132 = .ok (.invokevirtual 48, 3) := by decide +kernel
theorem dL_refused_135 : decode cL_refused 135 = .ok (.iconst (-1), 1) := by decide +kernel
theorem dL_refused_136 : decode cL_refused 136 = .ok (.if_icmp .ne 236, 3) := by decide +kernel
theorem dL_refused_139 : decode cL_refused 139 = .ok (.aload_n 0, 1) := by decide +kernel
theorem dL_refused_140 : decode cL_refused 140 = .ok (.iload_n 2, 1) := by decide +kernel
theorem dL_refused_141 : decode cL_refused 141 = .ok (.iconst 0, 1) := by decide +kernel
theorem dL_refused_142 : decode cL_refused 142 = .ok (.invokevirtual 51, 3) := by decide +kernel
theorem dL_refused_145 : decode cL_refused 145 = .ok (.iconst (-1), 1) := by decide +kernel
theorem dL_refused_146 : decode cL_refused 146 = .ok (.if_icmp .ne 226, 3) := by decide +kernel
theorem dL_refused_149 : decode cL_refused 149 = .ok (.aload_n 0, 1) := by decide +kernel
theorem dL_refused_150 : decode cL_refused 150 = .ok (.iconst 0, 1) := by decide +kernel
theorem dL_refused_151 : decode cL_refused 151 = .ok (.iload_n 2, 1) := by decide +kernel
theorem dL_refused_152 : decode cL_refused 152 = .ok (.invokevirtual 54, 3) := by decide +kernel
theorem dL_refused_155 : decode cL_refused 155 = .ok (.iconst (-1), 1) := by decide +kernel
theorem dL_refused_156 : decode cL_refused 156 = .ok (.if_icmp .ne 216, 3) := by decide +kernel
theorem dL_refused_159 : decode cL_refused 159 = .ok (.aload_n 0, 1) := by decide +kernel
theorem dL_refused_160 : decode cL_refused 160 = .ok (.iload_n 2, 1) := by decide +kernel
theorem dL_refused_161 : decode cL_refused 161 = .ok (.invokevirtual 57, 3) := by decide +kernel
theorem dL_refused_164 : decode cL_refused 164 = .ok (.iconst (-1), 1) := by decide +kernel
theorem dL_refused_165 : decode cL_refused 165 = .ok (.if_icmp .ne 207, 3) := by decide +kernel
theorem dL_refused_168 : decode cL_refused 168 = .ok (.aload_n 0, 1) := by decide +kernel
theorem dL_refused_169 : decode cL_refused 169 = .ok (.iconst 0, 1) := by decide +kernel
theorem dL_refused_170 : decode cL_refused 170 = .ok (.iload_n 2, 1) := by decide +kernel
theorem dL_refused_171 : decode cL_refused 171 = .ok (.invokevirtual 60, 3) := by decide +kernel
theorem dL_refused_174 : decode cL_refused 174 = .ok (.iconst (-1), 1) := by decide +kernel
theorem dL_refused_175 : decode cL_refused 175 = .ok (.if_icmp .ne 197, 3) := by decide +kernel
theorem dL_refused_178 : decode cL_refused 178 = .ok (.aload_n 0, 1) := by decide +kernel
theorem dL_refused_179 : decode cL_refused 179 = .ok (.iload_n 2, 1) := by decide +kernel
theorem dL_refused_180 : decode cL_refused 180 = .ok (.invokevirtual 63, 3) := by decide +kernel
theorem dL_refused_183 : decode cL_refused 183 = .ok (.iconst (-1), 1) := by decide +kernel
theorem dL_refused_184 : decode cL_refused 184 = .ok (.if_icmp .ne 188, 3) := by decide +kernel
theorem dL_refused_187 : decode cL_refused 187 = .ok (.aload_n 0, 1) := by decide +kernel
theorem dL_refused_188 : decode cL_refused 188 = .ok (.iload_n 2, 1) := by decide +kernel
theorem dL_refused_189 : decode cL_refused 189 = .ok (.invokevirtual 66, 3) := by decide +kernel
theorem dL_refused_192 : decode cL_refused 192 = .ok (.iconst (-1), 1) := by decide +kernel
theorem dL_refused_193 : decode cL_refused 193 = .ok (.if_icmp .ne 179, 3) := by decide +kernel
theorem dL_refused_196 : decode cL_refused 196 = .ok (.aload_n 0, 1) := by decide +kernel
theorem dL_refused_197 : decode cL_refused 197 = .ok (.iload_n 2, 1) := by decide +kernel
theorem dL_refused_198 : decode cL_refused 198 = .ok (.invokevirtual 69, 3) := by decide +kernel
theorem dL_refused_201 : decode cL_refused 201 = .ok (.iconst (-1), 1) := by decide +kernel
theorem dL_refused_202 : decode cL_refused 202 = .ok (.if_icmp .ne 170, 3) := by decide +kernel
theorem dL_refused_205 : decode cL_refused 205 = .ok (.aload_n 0, 1) := by decide +kernel
theorem dL_refused_206 : decode cL_refused 206 = .ok (.iload_n 2, 1) := by decide +kernel
theorem dL_refused_207 : decode cL_refused 207 = .ok (.invokevirtual 72, 3) := by decide +kernel
theorem dL_refused_210 : decode cL_refused 210 = .ok (.iconst (-1), 1) := by decide +kernel
theorem dL_refused_211 : decode cL_refused 211 = .ok (.if_icmp .ne 161, 3) := by decide +kernel
theorem dL_refused_214 : decode cL_refused 214 = .ok (.aload_n 0, 1) := by decide +kernel
theorem dL_refused_215 : decode cL_refused 215 = .ok (.iload_n 2, 1) := by decide +kernel
theorem dL_refused_216 : decode cL_refused 216 = .ok (.invokevirtual 75, 3) := by decide +kernel
theorem dL_refused_219 : decode cL_refused 219 = .ok (.iconst (-1), 1) := by decide +kernel
theorem dL_refused_220 : decode cL_refused 220 = .ok (.if_icmp .ne 152, 3) := by decide +kernel
theorem dL_refused_223 : decode cL_refused 223 = .ok (.aload_n 0, 1) := by decide +kernel
theorem dL_refused_224 : decode cL_refused 224 = .ok (.iload_n 2, 1) := by decide +kernel
theorem dL_refused_225 : decode cL_refused 225 = .ok (.iconst 0, 1) := by decide +kernel
theorem dL_refused_226 : decode cL_refused 226 = .ok (.invokevirtual 78, 3) := by decide +kernel
theorem dL_refused_229 : decode cL_refused 229 = .ok (.iconst (-1), 1) := by decide +kernel
theorem dL_refused_230 : decode cL_refused 230 = .ok (.if_icmp .ne 142, 3) := by decide +kernel
theorem dL_refused_233 : decode cL_refused 233 = .ok (.aload_n 0, 1) := by decide +kernel
theorem dL_refused_234 : decode cL_refused 234 = .ok (.iload_n 2, 1) := by decide +kernel
theorem dL_refused_235 : decode cL_refused 235 = .ok (.invokevirtual 81, 3) := by decide +kernel
theorem dL_refused_238 : decode cL_refused 238 = .ok (.iconst (-1), 1) := by decide +kernel
theorem dL_refused_239 : decode cL_refused 239 = .ok (.if_icmp .ne 133, 3) := by decide +kernel
theorem dL_refused_242 : decode cL_refused 242 = .ok (.aload_n 0, 1) := by decide +kernel
theorem dL_refused_243 : decode cL_refused 243 = .ok (.iload_n 2, 1) := by decide +kernel
theorem dL_refused_244 : decode cL_refused 244 = .ok (.iconst 0, 1) := by decide +kernel
theorem dL_refused_245 : decode cL_refused 245 = .ok (.invokevirtual 84, 3) := by decide +kernel
theorem dL_refused_248 : decode cL_refused 248 = .ok (.iconst (-1), 1) := by decide +kernel
theorem dL_refused_249 : decode cL_refused 249 = .ok (.if_icmp .ne 123, 3) := by decide +kernel
theorem dL_refused_252 : decode cL_refused 252 = .ok (.aload_n 0, 1) := by decide +kernel
theorem dL_refused_253 : decode cL_refused 253 = .ok (.iload_n 2, 1) := by decide +kernel
theorem dL_refused_254 : decode cL_refused 254 = .ok (.invokevirtual 87, 3) := by decide +kernel
theorem dL_refused_257 : decode cL_refused 257 = .ok (.iconst (-1), 1) := by decide +kernel
theorem dL_refused_258 : decode cL_refused 258 = .ok (.if_icmp .ne 114, 3) := by decide +kernel
theorem dL_refused_261 : decode cL_refused 261 = .ok (.aload_n 0, 1) := by decide +kernel
theorem dL_refused_262 : decode cL_refused 262 = .ok (.iload_n 2, 1) := by decide +kernel
theorem dL_refused_263 : decode cL_refused 263 = .ok (.invokevirtual 90, 3) := by decide +kernel
theorem dL_refused_266 : decode cL_refused 266 = .ok (.iconst (-1), 1) := by decide +kernel
theorem dL_refused_267 : decode cL_refused 267 = .ok (.if_icmp .ne 105, 3) := by decide +kernel
theorem dL_refused_270 : decode cL_refused 270 = .ok (.aload_n 0, 1) := by decide +kernel
theorem dL_refused_271 : decode cL_refused 271 = .ok (.iload_n 2, 1) := by decide +kernel
theorem dL_refused_272 : decode cL_refused 272 = .ok (.iconst 0, 1) := by decide +kernel
theorem dL_refused_273 : decode cL_refused 273 = .ok (.invokevirtual 93, 3) := by decide +kernel
theorem dL_refused_276 : decode cL_refused 276 = .ok (.iconst (-1), 1) := by decide +kernel
theorem dL_refused_277 : decode cL_refused 277 = .ok (.if_icmp .ne 95, 3) := by decide +kernel
theorem dL_refused_280 : decode cL_refused 280 = .ok (.aload_n 0, 1) := by decide +kernel
theorem dL_refused_281 : decode cL_refused 281 = .ok (.iconst 0, 1) := by decide +kernel
theorem dL_refused_282 : decode cL_refused 282 = .ok (.iload_n 2, 1) := by decide +kernel
theorem dL_refused_283 : decode cL_refused 283 = .ok (.invokevirtual 96, 3) := by decide +kernel
theorem dL_refused_286 : decode cL_refused 286 = .ok (.iconst (-1), 1) := by decide +kernel
theorem dL_refused_287 : decode cL_refused 287 = .ok (.if_icmp .ne 85, 3) := by decide +kernel
theorem dL_refused_290 : decode cL_refused 290 = .ok (.aload_n 0, 1) := by decide +kernel
theorem dL_refused_291 : decode cL_refused 291 = .ok (.iload_n 2, 1) := by decide +kernel
theorem dL_refused_292 : decode cL_refused 292 = .ok (.invokevirtual 99, 3) := by decide +kernel
theorem dL_refused_295 : decode cL_refused 295 = .ok (.iconst (-1), 1) := by decide +kernel
theorem dL_refused_296 : decode cL_refused 296 = .ok (.if_icmp .ne 76, 3) := by decide +kernel
theorem dL_refused_299 : decode cL_refused 299 = .ok (.aload_n 0, 1) := by decide +kernel
theorem dL_refused_300 : decode cL_refused 300 = .ok (.iload_n 2, 1) := by decide +kernel
theorem dL_refused_301 : decode cL_refused 301 = .ok (.iconst 0, 1) := by decide +kernel
theorem dL_refused_302 : decode cL_refused 302 = .ok (.iconst 0, 1) := by decide +kernel
theorem dL_refused_303 : decode cL_refused 303 = .ok (.invokevirtual 102, 3) := by decide +kernel
theorem dL_refused_306 : decode cL_refused 306 = .ok (.iconst (-1), 1) := by decide +kernel
theorem dL_refused_307 : decode cL_refused 307 = .ok (.if_icmp .ne 65, 3) := by decide +kernel
theorem dL_refused_310 : decode cL_refused 310 = .ok (.aload_n 0, 1) := by decide +kernel
theorem dL_refused_311 : decode cL_refused 311 = .ok (.iconst 0, 1) := by decide +kernel
theorem dL_refused_312 : decode cL_refused 312 = .ok (.iconst 0, 1) := by decide +kernel
theorem dL_refused_313 : decode cL_refused 313 = .ok (.iload_n 2, 1) := by decide +kernel
theorem dL_refused_314 : decode cL_refused 314 = .ok (.invokevirtual 105, 3) := by decide +kernel
theorem dL_refused_317 : decode cL_refused 317 = .ok (.iconst (-1), 1) := by decide +kernel
