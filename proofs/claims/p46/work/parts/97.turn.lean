def T6 (z : Int32) (M : Sg) (Q : Int32 → Sg → Prop) : Prop :=
  if (z &&& 15) = 0 then
    p_X6_flood 0 (lowV ((z >>> (4 &&& 31))) 21) M Q
  else
  if (z &&& 15) = 1 then
    p_X6_flood 0 (lowV ((z >>> (4 &&& 31))) 21) M Q
  else
  if (z &&& 15) = 2 then
    p_X6_move 0 (lowV (z >>> (4 &&& 31)) 5) (lowV ((z >>> (4 &&& 31)) >>> (3 &&& 31)) 6) M Q
  else
  if (z &&& 15) = 3 then
    p_X6_dyke 0 (lowV (z >>> (4 &&& 31)) 6) M Q
  else
  if (z &&& 15) = 4 then
    p_X6_tuck 0 (lowV (z >>> (4 &&& 31)) 5) M Q
  else
  if (z &&& 15) = 5 then
    p_X6_undo 0 ((gI M 0 36) - (lowV (z >>> (4 &&& 31)) 4)) M Q
  else
  if (z &&& 15) = 6 then
    if ((z >>> (4 &&& 31)) &&& 1) = 0 then
      p_X6_keep 0 (((z >>> (4 &&& 31)) >>> (1 &&& 31)) &&& 1) M Q
    else
    p_X6_on 0 (((z >>> (4 &&& 31)) >>> (1 &&& 31)) &&& 1) M Q
  else
  if (z &&& 15) = 7 then
    if ((z >>> (4 &&& 31)) &&& 7) = 0 then
      p_X6_delta 0 0 (eM M) (fun _ M' => gI M' 0 20 = 5 ∧ Q 1 M')
    else
    p_X6_row 0 (((z >>> (4 &&& 31)) >>> (3 &&& 31)) &&& 1) (lowV ((z >>> (4 &&& 31)) >>> (4 &&& 31)) 5) M Q
  else
  if (z &&& 15) = 8 then
    p_X6_lay 0 ((z >>> (4 &&& 31)) &&& 1) (((z >>> (4 &&& 31)) >>> (1 &&& 31)) &&& 3) (lowV ((z >>> (4 &&& 31)) >>> (3 &&& 31)) 11) M Q
  else
  if (z &&& 15) = 9 then
    p_X6_mark 0 (lowV (z >>> (4 &&& 31)) 5) ((1 : Int32) + (lowV ((z >>> (4 &&& 31)) >>> (3 &&& 31)) 5)) M Q
  else
  if (z &&& 15) = 10 then
    if ((z >>> (4 &&& 31)) &&& 1) = 0 then
      p_X6_know 0 (lowV ((z >>> (4 &&& 31)) >>> (1 &&& 31)) 32) (((z >>> (4 &&& 31)) >>> (6 &&& 31)) &&& 3) M Q
    else
    p_X6_look 0 (lowV ((z >>> (4 &&& 31)) >>> (1 &&& 31)) 32) (((z >>> (4 &&& 31)) >>> (6 &&& 31)) &&& 3) M Q
  else
  if (z &&& 15) = 11 then
    if ((z >>> (4 &&& 31)) &&& 1) = 0 then
      p_X6_looks 0 (((z >>> (4 &&& 31)) >>> (1 &&& 31)) &&& 3) M Q
    else
    p_X6_line 0 (((z >>> (4 &&& 31)) >>> (1 &&& 31)) &&& 3) M Q
  else
  if (z &&& 15) = 12 then
    if ((z >>> (4 &&& 31)) &&& 1) = 0 then
      p_X6_kinds 0 (lowV ((z >>> (4 &&& 31)) >>> (1 &&& 31)) 5) (((z >>> (4 &&& 31)) >>> (4 &&& 31)) &&& 1) M Q
    else
    p_X6_test 0 (lowV ((z >>> (4 &&& 31)) >>> (1 &&& 31)) 5) (((z >>> (4 &&& 31)) >>> (4 &&& 31)) &&& 1) M Q
  else
  if (z &&& 15) = 13 then
    if ((z >>> (4 &&& 31)) &&& 1) = 0 then
      p_X6_whose 0 (((z >>> (4 &&& 31)) >>> (1 &&& 31)) &&& 1) M Q
    else
    p_X6_duel 0 (lowV ((z >>> (4 &&& 31)) >>> (1 &&& 31)) 3) (lowV ((z >>> (4 &&& 31)) >>> (3 &&& 31)) 21) M Q
  else
  if (z &&& 15) = 14 then
    if ((z >>> (4 &&& 31)) &&& 1) = 0 then
      p_X6_odds 0 (lowV ((z >>> (4 &&& 31)) >>> (1 &&& 31)) 7) M Q
    else
    p_X6_mid 0 M Q
  else
  if ((z >>> (4 &&& 31)) &&& 1) = 0 then
    p_X6_lots 0 ((1 : Int32) + (lowV ((z >>> (4 &&& 31)) >>> (1 &&& 31)) 3)) ((1 : Int32) + ((z >>> (4 &&& 31)) >>> (3 &&& 31))) M Q
  else
  p_X6_least 0 (lowV ((z >>> (4 &&& 31)) >>> (1 &&& 31)) 5) (lowV ((z >>> (4 &&& 31)) >>> (4 &&& 31)) 21) (lowV ((z >>> (4 &&& 31)) >>> (9 &&& 31)) 6) M Q
section TRN
variable {X M : Sg}
theorem tnX (hI : Inv X M) (z : Int32) : p_L_turn (some 0) z X (fun u X' => T6 z M (fun u' M' => u = u' ∧ Inv X' M')) := by
  unfold p_L_turn
  by_cases c0 : (z &&& 15) = 0
  · refine br_t c0 ?_
    have e : ∀ Q : Int32 → Sg → Prop, T6 z M Q = (p_X6_flood 0 (lowV ((z >>> (4 &&& 31))) 21) M Q) := fun Q => by
      unfold T6
      rw [if_pos c0]
    simp only [e]
    unfold p_L_turn_b84 p_L_low
    exact ⟨by decide, ⟨0, rfl, rfl, st_flood hI _⟩⟩
  · refine br_f c0 ?_
    by_cases c1 : (z &&& 15) = 1
    · refine br_t c1 ?_
      have e : ∀ Q : Int32 → Sg → Prop, T6 z M Q = (p_X6_flood 0 (lowV ((z >>> (4 &&& 31))) 21) M Q) := fun Q => by
        unfold T6
        rw [if_neg c0, if_pos c1]
      simp only [e]
      unfold p_L_turn_b84 p_L_low
      exact ⟨by decide, ⟨0, rfl, rfl, st_flood hI _⟩⟩
    · refine br_f c1 ?_
      by_cases c2 : (z &&& 15) = 2
      · refine br_t c2 ?_
        have e : ∀ Q : Int32 → Sg → Prop, T6 z M Q = (p_X6_move 0 (lowV (z >>> (4 &&& 31)) 5) (lowV ((z >>> (4 &&& 31)) >>> (3 &&& 31)) 6) M Q) := fun Q => by
          unfold T6
          rw [if_neg c0, if_neg c1, if_pos c2]
        simp only [e]
        unfold p_L_low
        exact ⟨by decide, ⟨by decide, ⟨0, rfl, rfl, st_move hI _ _⟩⟩⟩
      · refine br_f c2 ?_
        by_cases c3 : (z &&& 15) = 3
        · refine br_t c3 ?_
          have e : ∀ Q : Int32 → Sg → Prop, T6 z M Q = (p_X6_dyke 0 (lowV (z >>> (4 &&& 31)) 6) M Q) := fun Q => by
            unfold T6
            rw [if_neg c0, if_neg c1, if_neg c2, if_pos c3]
          simp only [e]
          unfold p_L_low
          exact ⟨by decide, ⟨0, rfl, rfl, st_dyke hI _⟩⟩
        · refine br_f c3 ?_
          by_cases c4 : (z &&& 15) = 4
          · refine br_t c4 ?_
            have e : ∀ Q : Int32 → Sg → Prop, T6 z M Q = (p_X6_tuck 0 (lowV (z >>> (4 &&& 31)) 5) M Q) := fun Q => by
              unfold T6
              rw [if_neg c0, if_neg c1, if_neg c2, if_neg c3, if_pos c4]
            simp only [e]
            unfold p_L_low
            exact ⟨by decide, ⟨0, rfl, rfl, st_tuck hI _⟩⟩
          · refine br_f c4 ?_
            by_cases c5 : (z &&& 15) = 5
            · refine br_t c5 ?_
              have e : ∀ Q : Int32 → Sg → Prop, T6 z M Q = (p_X6_undo 0 ((gI M 0 36) - (lowV (z >>> (4 &&& 31)) 4)) M Q) := fun Q => by
                unfold T6
                rw [if_neg c0, if_neg c1, if_neg c2, if_neg c3, if_neg c4, if_pos c5]
              simp only [e]
              unfold p_L_low
              exact ⟨0, rfl, rfl, x_count2 hI ⟨by decide, ⟨0, rfl, rfl, st_undo hI _⟩⟩⟩
            · refine br_f c5 ?_
              by_cases c6 : (z &&& 15) = 6
              · refine br_t c6 ?_
                by_cases c7 : ((z >>> (4 &&& 31)) &&& 1) = 0
                · refine br_t c7 ?_
                  have e : ∀ Q : Int32 → Sg → Prop, T6 z M Q = (p_X6_keep 0 (((z >>> (4 &&& 31)) >>> (1 &&& 31)) &&& 1) M Q) := fun Q => by
                    unfold T6
                    rw [if_neg c0, if_neg c1, if_neg c2, if_neg c3, if_neg c4, if_neg c5, if_pos c6, if_pos c7]
                  simp only [e]
                  exact ⟨0, rfl, rfl, st_keep hI _⟩
                · refine br_f c7 ?_
                  have e : ∀ Q : Int32 → Sg → Prop, T6 z M Q = (p_X6_on 0 (((z >>> (4 &&& 31)) >>> (1 &&& 31)) &&& 1) M Q) := fun Q => by
                    unfold T6
                    rw [if_neg c0, if_neg c1, if_neg c2, if_neg c3, if_neg c4, if_neg c5, if_pos c6, if_neg c7]
                  simp only [e]
                  exact ⟨0, rfl, rfl, st_on hI _⟩
              · refine br_f c6 ?_
                by_cases c8 : (z &&& 15) = 7
                · refine br_t c8 ?_
                  by_cases c9 : ((z >>> (4 &&& 31)) &&& 7) = 0
                  · refine br_t c9 ?_
                    have e : ∀ Q : Int32 → Sg → Prop, T6 z M Q = (p_X6_delta 0 0 (eM M) (fun _ M' => gI M' 0 20 = 5 ∧ Q 1 M')) := fun Q => by
                      unfold T6
                      rw [if_neg c0, if_neg c1, if_neg c2, if_neg c3, if_neg c4, if_neg c5, if_neg c6, if_pos c8, if_pos c9]
                    simp only [e]
                    exact xl_delta hI (fun X' hX => br_f (by decide) (hX _ (fun M' w hI' => ⟨w, trivial, hI'⟩)))
                  · refine br_f c9 ?_
                    have e : ∀ Q : Int32 → Sg → Prop, T6 z M Q = (p_X6_row 0 (((z >>> (4 &&& 31)) >>> (3 &&& 31)) &&& 1) (lowV ((z >>> (4 &&& 31)) >>> (4 &&& 31)) 5) M Q) := fun Q => by
                      unfold T6
                      rw [if_neg c0, if_neg c1, if_neg c2, if_neg c3, if_neg c4, if_neg c5, if_neg c6, if_pos c8, if_neg c9]
                    simp only [e]
                    unfold p_L_low
                    exact ⟨by decide, ⟨0, rfl, rfl, st_row hI _ _⟩⟩
                · refine br_f c8 ?_
                  by_cases c10 : (z &&& 15) = 8
                  · refine br_t c10 ?_
                    have e : ∀ Q : Int32 → Sg → Prop, T6 z M Q = (p_X6_lay 0 ((z >>> (4 &&& 31)) &&& 1) (((z >>> (4 &&& 31)) >>> (1 &&& 31)) &&& 3) (lowV ((z >>> (4 &&& 31)) >>> (3 &&& 31)) 11) M Q) := fun Q => by
                      unfold T6
                      rw [if_neg c0, if_neg c1, if_neg c2, if_neg c3, if_neg c4, if_neg c5, if_neg c6, if_neg c8, if_pos c10]
                    simp only [e]
                    unfold p_L_low
                    exact ⟨by decide, ⟨0, rfl, rfl, st_lay hI _ _ _⟩⟩
                  · refine br_f c10 ?_
                    by_cases c11 : (z &&& 15) = 9
                    · refine br_t c11 ?_
                      have e : ∀ Q : Int32 → Sg → Prop, T6 z M Q = (p_X6_mark 0 (lowV (z >>> (4 &&& 31)) 5) ((1 : Int32) + (lowV ((z >>> (4 &&& 31)) >>> (3 &&& 31)) 5)) M Q) := fun Q => by
                        unfold T6
                        rw [if_neg c0, if_neg c1, if_neg c2, if_neg c3, if_neg c4, if_neg c5, if_neg c6, if_neg c8, if_neg c10, if_pos c11]
                      simp only [e]
                      unfold p_L_low
                      exact ⟨by decide, ⟨by decide, ⟨0, rfl, rfl, st_mark hI _ _⟩⟩⟩
                    · refine br_f c11 ?_
                      by_cases c12 : (z &&& 15) = 10
                      · refine br_t c12 ?_
                        by_cases c13 : ((z >>> (4 &&& 31)) &&& 1) = 0
                        · refine br_t c13 ?_
                          have e : ∀ Q : Int32 → Sg → Prop, T6 z M Q = (p_X6_know 0 (lowV ((z >>> (4 &&& 31)) >>> (1 &&& 31)) 32) (((z >>> (4 &&& 31)) >>> (6 &&& 31)) &&& 3) M Q) := fun Q => by
                            unfold T6
                            rw [if_neg c0, if_neg c1, if_neg c2, if_neg c3, if_neg c4, if_neg c5, if_neg c6, if_neg c8, if_neg c10, if_neg c11, if_pos c12, if_pos c13]
                          simp only [e]
                          unfold p_L_low
                          exact ⟨by decide, ⟨0, rfl, rfl, st_know hI _ _⟩⟩
                        · refine br_f c13 ?_
                          have e : ∀ Q : Int32 → Sg → Prop, T6 z M Q = (p_X6_look 0 (lowV ((z >>> (4 &&& 31)) >>> (1 &&& 31)) 32) (((z >>> (4 &&& 31)) >>> (6 &&& 31)) &&& 3) M Q) := fun Q => by
                            unfold T6
                            rw [if_neg c0, if_neg c1, if_neg c2, if_neg c3, if_neg c4, if_neg c5, if_neg c6, if_neg c8, if_neg c10, if_neg c11, if_pos c12, if_neg c13]
                          simp only [e]
                          unfold p_L_low
                          exact ⟨by decide, ⟨0, rfl, rfl, st_look hI _ _⟩⟩
                      · refine br_f c12 ?_
                        by_cases c14 : (z &&& 15) = 11
                        · refine br_t c14 ?_
                          by_cases c15 : ((z >>> (4 &&& 31)) &&& 1) = 0
                          · refine br_t c15 ?_
                            have e : ∀ Q : Int32 → Sg → Prop, T6 z M Q = (p_X6_looks 0 (((z >>> (4 &&& 31)) >>> (1 &&& 31)) &&& 3) M Q) := fun Q => by
                              unfold T6
                              rw [if_neg c0, if_neg c1, if_neg c2, if_neg c3, if_neg c4, if_neg c5, if_neg c6, if_neg c8, if_neg c10, if_neg c11, if_neg c12, if_pos c14, if_pos c15]
                            simp only [e]
                            exact ⟨0, rfl, rfl, st_looks hI _⟩
                          · refine br_f c15 ?_
                            have e : ∀ Q : Int32 → Sg → Prop, T6 z M Q = (p_X6_line 0 (((z >>> (4 &&& 31)) >>> (1 &&& 31)) &&& 3) M Q) := fun Q => by
                              unfold T6
                              rw [if_neg c0, if_neg c1, if_neg c2, if_neg c3, if_neg c4, if_neg c5, if_neg c6, if_neg c8, if_neg c10, if_neg c11, if_neg c12, if_pos c14, if_neg c15]
                            simp only [e]
                            exact ⟨0, rfl, rfl, st_line hI _⟩
                        · refine br_f c14 ?_
                          by_cases c16 : (z &&& 15) = 12
                          · refine br_t c16 ?_
                            by_cases c17 : ((z >>> (4 &&& 31)) &&& 1) = 0
                            · refine br_t c17 ?_
                              have e : ∀ Q : Int32 → Sg → Prop, T6 z M Q = (p_X6_kinds 0 (lowV ((z >>> (4 &&& 31)) >>> (1 &&& 31)) 5) (((z >>> (4 &&& 31)) >>> (4 &&& 31)) &&& 1) M Q) := fun Q => by
                                unfold T6
                                rw [if_neg c0, if_neg c1, if_neg c2, if_neg c3, if_neg c4, if_neg c5, if_neg c6, if_neg c8, if_neg c10, if_neg c11, if_neg c12, if_neg c14, if_pos c16, if_pos c17]
                              simp only [e]
                              unfold p_L_low
                              exact ⟨by decide, ⟨0, rfl, rfl, st_kinds hI _ _⟩⟩
                            · refine br_f c17 ?_
                              have e : ∀ Q : Int32 → Sg → Prop, T6 z M Q = (p_X6_test 0 (lowV ((z >>> (4 &&& 31)) >>> (1 &&& 31)) 5) (((z >>> (4 &&& 31)) >>> (4 &&& 31)) &&& 1) M Q) := fun Q => by
                                unfold T6
                                rw [if_neg c0, if_neg c1, if_neg c2, if_neg c3, if_neg c4, if_neg c5, if_neg c6, if_neg c8, if_neg c10, if_neg c11, if_neg c12, if_neg c14, if_pos c16, if_neg c17]
                              simp only [e]
                              unfold p_L_low
                              exact ⟨by decide, ⟨0, rfl, rfl, st_test hI _ _⟩⟩
                          · refine br_f c16 ?_
                            by_cases c18 : (z &&& 15) = 13
                            · refine br_t c18 ?_
                              by_cases c19 : ((z >>> (4 &&& 31)) &&& 1) = 0
                              · refine br_t c19 ?_
                                have e : ∀ Q : Int32 → Sg → Prop, T6 z M Q = (p_X6_whose 0 (((z >>> (4 &&& 31)) >>> (1 &&& 31)) &&& 1) M Q) := fun Q => by
                                  unfold T6
                                  rw [if_neg c0, if_neg c1, if_neg c2, if_neg c3, if_neg c4, if_neg c5, if_neg c6, if_neg c8, if_neg c10, if_neg c11, if_neg c12, if_neg c14, if_neg c16, if_pos c18, if_pos c19]
                                simp only [e]
                                exact ⟨0, rfl, rfl, st_whose hI _⟩
                              · refine br_f c19 ?_
                                have e : ∀ Q : Int32 → Sg → Prop, T6 z M Q = (p_X6_duel 0 (lowV ((z >>> (4 &&& 31)) >>> (1 &&& 31)) 3) (lowV ((z >>> (4 &&& 31)) >>> (3 &&& 31)) 21) M Q) := fun Q => by
                                  unfold T6
                                  rw [if_neg c0, if_neg c1, if_neg c2, if_neg c3, if_neg c4, if_neg c5, if_neg c6, if_neg c8, if_neg c10, if_neg c11, if_neg c12, if_neg c14, if_neg c16, if_pos c18, if_neg c19]
                                simp only [e]
                                unfold p_L_low
                                exact ⟨by decide, ⟨by decide, ⟨0, rfl, rfl, st_duel hI _ _⟩⟩⟩
                            · refine br_f c18 ?_
                              by_cases c20 : (z &&& 15) = 14
                              · refine br_t c20 ?_
                                by_cases c21 : ((z >>> (4 &&& 31)) &&& 1) = 0
                                · refine br_t c21 ?_
                                  have e : ∀ Q : Int32 → Sg → Prop, T6 z M Q = (p_X6_odds 0 (lowV ((z >>> (4 &&& 31)) >>> (1 &&& 31)) 7) M Q) := fun Q => by
                                    unfold T6
                                    rw [if_neg c0, if_neg c1, if_neg c2, if_neg c3, if_neg c4, if_neg c5, if_neg c6, if_neg c8, if_neg c10, if_neg c11, if_neg c12, if_neg c14, if_neg c16, if_neg c18, if_pos c20, if_pos c21]
                                  simp only [e]
                                  unfold p_L_low
                                  exact ⟨by decide, ⟨0, rfl, rfl, st_odds hI _⟩⟩
                                · refine br_f c21 ?_
                                  have e : ∀ Q : Int32 → Sg → Prop, T6 z M Q = (p_X6_mid 0 M Q) := fun Q => by
                                    unfold T6
                                    rw [if_neg c0, if_neg c1, if_neg c2, if_neg c3, if_neg c4, if_neg c5, if_neg c6, if_neg c8, if_neg c10, if_neg c11, if_neg c12, if_neg c14, if_neg c16, if_neg c18, if_pos c20, if_neg c21]
                                  simp only [e]
                                  exact ⟨0, rfl, rfl, st_mid hI⟩
                              · refine br_f c20 ?_
                                by_cases c22 : ((z >>> (4 &&& 31)) &&& 1) = 0
                                · refine br_t c22 ?_
                                  have e : ∀ Q : Int32 → Sg → Prop, T6 z M Q = (p_X6_lots 0 ((1 : Int32) + (lowV ((z >>> (4 &&& 31)) >>> (1 &&& 31)) 3)) ((1 : Int32) + ((z >>> (4 &&& 31)) >>> (3 &&& 31))) M Q) := fun Q => by
                                    unfold T6
                                    rw [if_neg c0, if_neg c1, if_neg c2, if_neg c3, if_neg c4, if_neg c5, if_neg c6, if_neg c8, if_neg c10, if_neg c11, if_neg c12, if_neg c14, if_neg c16, if_neg c18, if_neg c20, if_pos c22]
                                  simp only [e]
                                  unfold p_L_low
                                  exact ⟨by decide, ⟨0, rfl, rfl, st_lots hI _ _⟩⟩
                                · refine br_f c22 ?_
                                  have e : ∀ Q : Int32 → Sg → Prop, T6 z M Q = (p_X6_least 0 (lowV ((z >>> (4 &&& 31)) >>> (1 &&& 31)) 5) (lowV ((z >>> (4 &&& 31)) >>> (4 &&& 31)) 21) (lowV ((z >>> (4 &&& 31)) >>> (9 &&& 31)) 6) M Q) := fun Q => by
                                    unfold T6
                                    rw [if_neg c0, if_neg c1, if_neg c2, if_neg c3, if_neg c4, if_neg c5, if_neg c6, if_neg c8, if_neg c10, if_neg c11, if_neg c12, if_neg c14, if_neg c16, if_neg c18, if_neg c20, if_neg c22]
                                  simp only [e]
                                  unfold p_L_low
                                  exact ⟨by decide, ⟨by decide, ⟨by decide, ⟨0, rfl, rfl, st_least hI _ _ _⟩⟩⟩⟩
theorem d_T6 {G : Prop} {Q1 Q2 : Int32 → Sg → Prop} {z : Int32} (hw0 : gI M 0 20 ≠ 0) (h1 : T6 z M Q1) (h2 : T6 z M Q2) (hQ : ∀ v M', gI M' 0 20 ≠ 0 → Q1 v M' → Q2 v M' → G) : G := by
  unfold T6 at h1 h2
  by_cases c0 : (z &&& 15) = 0
  · rw [if_pos c0] at h1 h2
    exact d_p_X6_flood rfl h1 h2 (fun v M' hw a b => hQ v M' (by rw [hw]; exact hw0) a b)
  · rw [if_neg c0] at h1 h2
    by_cases c1 : (z &&& 15) = 1
    · rw [if_pos c1] at h1 h2
      exact d_p_X6_flood rfl h1 h2 (fun v M' hw a b => hQ v M' (by rw [hw]; exact hw0) a b)
    · rw [if_neg c1] at h1 h2
      by_cases c2 : (z &&& 15) = 2
      · rw [if_pos c2] at h1 h2
        exact d_p_X6_move rfl h1 h2 (fun v M' hw a b => hQ v M' (by rw [hw]; exact hw0) a b)
      · rw [if_neg c2] at h1 h2
        by_cases c3 : (z &&& 15) = 3
        · rw [if_pos c3] at h1 h2
          exact d_p_X6_dyke rfl h1 h2 (fun v M' hw a b => hQ v M' (by rw [hw]; exact hw0) a b)
        · rw [if_neg c3] at h1 h2
          by_cases c4 : (z &&& 15) = 4
          · rw [if_pos c4] at h1 h2
            exact d_p_X6_tuck rfl h1 h2 (fun v M' hw a b => hQ v M' (by rw [hw]; exact hw0) a b)
          · rw [if_neg c4] at h1 h2
            by_cases c5 : (z &&& 15) = 5
            · rw [if_pos c5] at h1 h2
              exact d_p_X6_undo rfl h1 h2 (fun v M' hw a b => hQ v M' (by rw [hw]; exact hw0) a b)
            · rw [if_neg c5] at h1 h2
              by_cases c6 : (z &&& 15) = 6
              · rw [if_pos c6] at h1 h2
                by_cases c7 : ((z >>> (4 &&& 31)) &&& 1) = 0
                · rw [if_pos c7] at h1 h2
                  exact d_p_X6_keep rfl h1 h2 (fun v M' hw a b => hQ v M' (by rw [hw]; exact hw0) a b)
                · rw [if_neg c7] at h1 h2
                  exact d_p_X6_on rfl h1 h2 (fun v M' hw a b => hQ v M' (by rw [hw]; exact hw0) a b)
              · rw [if_neg c6] at h1 h2
                by_cases c8 : (z &&& 15) = 7
                · rw [if_pos c8] at h1 h2
                  by_cases c9 : ((z >>> (4 &&& 31)) &&& 7) = 0
                  · rw [if_pos c9] at h1 h2
                    exact d_p_X6_delta h1 h2 (fun _ M' a b => hQ 1 M' (by rw [a.1]; decide) a.2 b.2)
                  · rw [if_neg c9] at h1 h2
                    exact d_p_X6_row rfl h1 h2 (fun v M' hw a b => hQ v M' (by rw [hw]; exact hw0) a b)
                · rw [if_neg c8] at h1 h2
                  by_cases c10 : (z &&& 15) = 8
                  · rw [if_pos c10] at h1 h2
                    exact d_p_X6_lay rfl h1 h2 (fun v M' hw a b => hQ v M' (by rw [hw]; exact hw0) a b)
                  · rw [if_neg c10] at h1 h2
                    by_cases c11 : (z &&& 15) = 9
                    · rw [if_pos c11] at h1 h2
                      exact d_p_X6_mark rfl h1 h2 (fun v M' hw a b => hQ v M' (by rw [hw]; exact hw0) a b)
                    · rw [if_neg c11] at h1 h2
                      by_cases c12 : (z &&& 15) = 10
                      · rw [if_pos c12] at h1 h2
                        by_cases c13 : ((z >>> (4 &&& 31)) &&& 1) = 0
                        · rw [if_pos c13] at h1 h2
                          exact d_p_X6_know rfl h1 h2 (fun v M' hw a b => hQ v M' (by rw [hw]; exact hw0) a b)
                        · rw [if_neg c13] at h1 h2
                          exact d_p_X6_look rfl h1 h2 (fun v M' hw a b => hQ v M' (by rw [hw]; exact hw0) a b)
                      · rw [if_neg c12] at h1 h2
                        by_cases c14 : (z &&& 15) = 11
                        · rw [if_pos c14] at h1 h2
                          by_cases c15 : ((z >>> (4 &&& 31)) &&& 1) = 0
                          · rw [if_pos c15] at h1 h2
                            exact d_p_X6_looks rfl h1 h2 (fun v M' hw a b => hQ v M' (by rw [hw]; exact hw0) a b)
                          · rw [if_neg c15] at h1 h2
                            exact d_p_X6_line rfl h1 h2 (fun v M' hw a b => hQ v M' (by rw [hw]; exact hw0) a b)
                        · rw [if_neg c14] at h1 h2
                          by_cases c16 : (z &&& 15) = 12
                          · rw [if_pos c16] at h1 h2
                            by_cases c17 : ((z >>> (4 &&& 31)) &&& 1) = 0
                            · rw [if_pos c17] at h1 h2
                              exact d_p_X6_kinds rfl h1 h2 (fun v M' hw a b => hQ v M' (by rw [hw]; exact hw0) a b)
                            · rw [if_neg c17] at h1 h2
                              exact d_p_X6_test rfl h1 h2 (fun v M' hw a b => hQ v M' (by rw [hw]; exact hw0) a b)
                          · rw [if_neg c16] at h1 h2
                            by_cases c18 : (z &&& 15) = 13
                            · rw [if_pos c18] at h1 h2
                              by_cases c19 : ((z >>> (4 &&& 31)) &&& 1) = 0
                              · rw [if_pos c19] at h1 h2
                                exact d_p_X6_whose rfl h1 h2 (fun v M' hw a b => hQ v M' (by rw [hw]; exact hw0) a b)
                              · rw [if_neg c19] at h1 h2
                                exact d_p_X6_duel rfl h1 h2 (fun v M' hw a b => hQ v M' (by rw [hw]; exact hw0) a b)
                            · rw [if_neg c18] at h1 h2
                              by_cases c20 : (z &&& 15) = 14
                              · rw [if_pos c20] at h1 h2
                                by_cases c21 : ((z >>> (4 &&& 31)) &&& 1) = 0
                                · rw [if_pos c21] at h1 h2
                                  exact d_p_X6_odds rfl h1 h2 (fun v M' hw a b => hQ v M' (by rw [hw]; exact hw0) a b)
                                · rw [if_neg c21] at h1 h2
                                  exact d_p_X6_mid rfl h1 h2 (fun v M' hw a b => hQ v M' (by rw [hw]; exact hw0) a b)
                              · rw [if_neg c20] at h1 h2
                                by_cases c22 : ((z >>> (4 &&& 31)) &&& 1) = 0
                                · rw [if_pos c22] at h1 h2
                                  exact d_p_X6_lots rfl h1 h2 (fun v M' hw a b => hQ v M' (by rw [hw]; exact hw0) a b)
                                · rw [if_neg c22] at h1 h2
                                  exact d_p_X6_least rfl h1 h2 (fun v M' hw a b => hQ v M' (by rw [hw]; exact hw0) a b)
end TRN
