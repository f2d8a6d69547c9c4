theorem goodIn_c1 {big rest : List Cond} {c : Cond} (hc : c ∈ big) (hg : goodWord c = true) (h : GoodIn big rest) : GoodIn big (c :: rest) := fun w hw => (List.mem_cons.mp hw).elim (fun e => by subst e; exact ⟨hc, good_of_word hg⟩) (h w)
theorem goodIn_at {big ws : List Cond} (i : Nat) {w : Cond} (hw : ws[i]? = some w) (h1 : GoodIn big (ws.take i)) (hm : w ∈ big) (hg : goodWord w = true) (h3 : GoodIn big (ws.drop (i + 1))) : GoodIn big ws := fun x hx => by
  rw [← List.take_append_drop i ws] at hx
  rcases List.mem_append.mp hx with h | h
  · exact h1 x h
  · obtain ⟨hi, e⟩ := List.getElem?_eq_some_iff.mp hw
    rw [List.drop_eq_getElem_cons hi] at h
    rcases List.mem_cons.mp h with h | h
    · rw [h, e]; exact ⟨hm, good_of_word hg⟩
    · exact h3 x h
set_option maxRecDepth 20000 in
theorem ggL_turn_L_delta_1 : GoodIn wsL_turn wsL_delta_r1 := goodIn_r _ [186, 187, 188, 9, 189, 94, 190, 191, 192, 193, 194, 126, 127, 114, 128, 116, 129, 176, 177, 178, 179, 180, 181, 67] (by decide +kernel) (by decide +kernel)
set_option maxRecDepth 20000 in
theorem ggL_turn_L_delta_2 : GoodIn wsL_turn wsL_delta_r2 := goodIn_r _ [42, 43, 182, 34, 35, 195, 196, 197, 198, 199, 200, 201, 202, 125, 203, 204, 205, 206, 207, 208, 209, 210, 211, 212] (by decide +kernel) (by decide +kernel)
set_option maxRecDepth 20000 in
theorem ggL_turn_L_delta_3 : GoodIn wsL_turn wsL_delta_r3 := goodIn_r _ [213, 214, 215, 216, 217, 218, 219, 118, 119, 120, 121, 122, 123, 124, 220, 221, 222, 223, 224, 225, 226, 227, 228, 229] (by decide +kernel) (by decide +kernel)
set_option maxRecDepth 20000 in
theorem ggL_turn_L_delta_4 : GoodIn wsL_turn wsL_delta_r4 := goodIn_r _ [230, 231, 232, 233, 234, 235, 236, 11, 237, 134, 238, 239, 240, 241, 242, 243, 244, 245, 246, 247, 248, 249, 250, 251] (by decide +kernel) (by decide +kernel)
set_option maxRecDepth 20000 in
theorem ggL_turn_L_delta_5 : GoodIn wsL_turn wsL_delta_r5 := goodIn_r _ [252, 253, 254, 255, 18, 256, 22, 80, 21, 31, 40, 257, 258, 259, 260, 261, 262, 263, 264, 265, 266, 267, 268, 269] (by decide +kernel) (by decide +kernel)
set_option maxRecDepth 20000 in
theorem ggL_turn_L_delta_6 : GoodIn wsL_turn wsL_delta_r6 := goodIn_r _ [270, 271, 272, 273, 274, 275, 276, 277, 278, 279, 109, 280, 281, 282, 283, 284, 106, 41, 159, 25, 155, 156, 157, 158] (by decide +kernel) (by decide +kernel)
set_option maxRecDepth 20000 in
theorem ggL_turn_L_delta_7 : GoodIn wsL_turn wsL_delta_r7 := goodIn_r _ [20, 23, 24, 30, 32, 33, 160, 161, 162, 163, 54, 164, 165, 166, 167, 168, 169, 170, 171, 139, 140, 141, 142, 285] (by decide +kernel) (by decide +kernel)
set_option maxRecDepth 20000 in
theorem ggL_turn_L_delta_8 : GoodIn wsL_turn wsX50 := goodIn_r _ [479, 480, 481, 482, 483, 484, 485, 486, 487, 488, 489, 490] (by decide +kernel) (by decide +kernel)
set_option maxRecDepth 20000 in
theorem ggL_turn_L_delta_9 : GoodIn wsL_turn wsX40 := goodIn_r _ [506, 507] (by decide +kernel) (by decide +kernel)
set_option maxRecDepth 20000 in
theorem ggL_turn_L_delta_10 : GoodIn wsL_turn wsX30 := goodIn_r _ [508, 509, 510, 511] (by decide +kernel) (by decide +kernel)
set_option maxRecDepth 20000 in
theorem ggL_turn_L_delta_11 : GoodIn wsL_turn wsX00 := goodIn_r _ [491, 492, 493, 494, 495, 496, 497, 498, 499, 500, 501, 502, 503, 504, 505] (by decide +kernel) (by decide +kernel)
set_option maxRecDepth 20000 in
theorem ggL_turn_L_delta : GoodIn wsL_turn wsL_delta := goodIn_c1 (List.mem_of_getElem? (i := 185) rfl) rfl (goodIn_app (goodIn_app (goodIn_app (goodIn_app (goodIn_app ggL_turn_L_delta_1 (goodIn_app ggL_turn_L_delta_2 (goodIn_app ggL_turn_L_delta_3 (goodIn_app ggL_turn_L_delta_4 (goodIn_app ggL_turn_L_delta_5 (goodIn_app ggL_turn_L_delta_6 ggL_turn_L_delta_7)))))) ggL_turn_L_delta_8) ggL_turn_L_delta_9) ggL_turn_L_delta_10) ggL_turn_L_delta_11)
set_option maxRecDepth 20000 in
theorem gL_turn_L_delta : GoodIn wsL_turn (va_wsS RL 128 yL_delta wsL_delta) := goodIn_app (goodIn_of _ (by decide +kernel)) ggL_turn_L_delta
set_option maxRecDepth 20000 in
theorem ggL_law_L_delta_1 : GoodIn wsL_law wsL_delta_r1 := goodIn_r _ [72, 73, 74, 2, 75, 16, 76, 77, 78, 79, 80, 81, 82, 12, 83, 37, 38, 84, 85, 86, 87, 88, 31, 89] (by decide +kernel) (by decide +kernel)
set_option maxRecDepth 20000 in
theorem ggL_law_L_delta_2 : GoodIn wsL_law wsL_delta_r2 := goodIn_r _ [90, 91, 92, 93, 94, 95, 96, 97, 98, 99, 100, 101, 102, 103, 39, 40, 41, 42, 104, 105, 106, 107, 108, 109] (by decide +kernel) (by decide +kernel)
set_option maxRecDepth 20000 in
theorem ggL_law_L_delta_3 : GoodIn wsL_law wsL_delta_r3 := goodIn_r _ [110, 111, 112, 113, 114, 115, 116, 117, 118, 119, 120, 121, 122, 123, 124, 125, 126, 127, 128, 129, 130, 131, 132, 133] (by decide +kernel) (by decide +kernel)
set_option maxRecDepth 20000 in
theorem ggL_law_L_delta_4 : GoodIn wsL_law wsL_delta_r4 := goodIn_r _ [134, 135, 136, 137, 138, 139, 140, 24, 20, 25, 141, 142, 143, 144, 145, 146, 147, 148, 149, 19, 150, 151, 152, 153] (by decide +kernel) (by decide +kernel)
set_option maxRecDepth 20000 in
theorem ggL_law_L_delta_5 : GoodIn wsL_law wsL_delta_r5 := goodIn_r _ [47, 154, 155, 156, 23, 157, 158, 159, 160, 161, 51, 162, 163, 164, 165, 166, 167, 168, 169, 170, 171, 172, 173, 174] (by decide +kernel) (by decide +kernel)
set_option maxRecDepth 20000 in
theorem ggL_law_L_delta_6 : GoodIn wsL_law wsL_delta_r6 := goodIn_r _ [175, 176, 177, 178, 179, 180, 181, 182, 183, 184, 185, 186, 187, 188, 189, 190, 52, 53, 54, 55, 191, 192, 193, 194] (by decide +kernel) (by decide +kernel)
set_option maxRecDepth 20000 in
theorem ggL_law_L_delta_7 : GoodIn wsL_law wsL_delta_r7 := goodIn_r _ [56, 57, 58, 59, 60, 61, 195, 196, 197, 198, 199, 200, 201, 202, 203, 204, 205, 206, 207, 208, 209, 210, 211, 212] (by decide +kernel) (by decide +kernel)
set_option maxRecDepth 20000 in
theorem ggL_law_L_delta_8 : GoodIn wsL_law wsX50 := goodIn_r _ [656, 657, 658, 659, 660, 661, 662, 663, 664, 665, 666, 667] (by decide +kernel) (by decide +kernel)
set_option maxRecDepth 20000 in
theorem ggL_law_L_delta_9 : GoodIn wsL_law wsX40 := goodIn_r _ [668, 669] (by decide +kernel) (by decide +kernel)
set_option maxRecDepth 20000 in
theorem ggL_law_L_delta_10 : GoodIn wsL_law wsX30 := goodIn_r _ [670, 671, 672, 673] (by decide +kernel) (by decide +kernel)
set_option maxRecDepth 20000 in
theorem ggL_law_L_delta_11 : GoodIn wsL_law wsX00 := goodIn_r _ [674, 675, 676, 677, 678, 679, 680, 681, 682, 683, 684, 685, 686, 687, 688] (by decide +kernel) (by decide +kernel)
set_option maxRecDepth 20000 in
theorem ggL_law_L_delta : GoodIn wsL_law wsL_delta := goodIn_c1 (List.mem_of_getElem? (i := 71) rfl) rfl (goodIn_app (goodIn_app (goodIn_app (goodIn_app (goodIn_app ggL_law_L_delta_1 (goodIn_app ggL_law_L_delta_2 (goodIn_app ggL_law_L_delta_3 (goodIn_app ggL_law_L_delta_4 (goodIn_app ggL_law_L_delta_5 (goodIn_app ggL_law_L_delta_6 ggL_law_L_delta_7)))))) ggL_law_L_delta_8) ggL_law_L_delta_9) ggL_law_L_delta_10) ggL_law_L_delta_11)
set_option maxRecDepth 20000 in
theorem gL_law_L_delta : GoodIn wsL_law (va_wsS RL 128 yL_delta wsL_delta) := goodIn_app (goodIn_of _ (by decide +kernel)) ggL_law_L_delta
