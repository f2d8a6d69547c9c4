/-! p46: the class alone: numbers that are none, deeds that are undone, what is kept -/
def Far (t : Int32) : Prop := t.toInt < -900 ∨ 900 ≤ t.toInt
theorem far_of {z : Int32} : ((0 : Int32) ≤ z >>> (6 &&& 31) → Far (z >>> (6 &&& 31) + 1000)) ∧ (¬ (0 : Int32) ≤ z >>> (6 &&& 31) → Far (z >>> (6 &&& 31) - 999)) := by
  have e : (z >>> (6 &&& 31)).toInt = z.toInt / 64 := by
    rw [pk_shr z _ 6 (by decide), Int.shiftRight_eq_div_pow]
    rfl
  have h1 := Int32.le_toInt z
  have h2 := Int32.toInt_lt z
  generalize z >>> (6 &&& 31) = y at e ⊢
  have z0 : (0 : Int32).toInt = 0 := rfl
  constructor
  · intro h
    rw [Int32.le_iff_toInt_le, z0] at h
    refine Or.inr ?_
    have a : y.toInt + (1000 : Int32).toInt = y.toInt + 1000 := rfl
    rw [Int32.toInt_add, a, Int.bmod_eq_of_le (by omega) (by omega)]
    omega
  · intro h
    rw [Int32.le_iff_toInt_le, z0] at h
    refine Or.inl ?_
    have a : y.toInt - (999 : Int32).toInt = y.toInt - 999 := rfl
    rw [Int32.toInt_sub, a, Int.bmod_eq_of_le (by omega) (by omega)]
    omega
theorem far_nok {t : Int32} (h : Far t) {w : Nat} (hw : w ≤ 900) : ¬ ok t w := fun ⟨k, hk, e⟩ => by
  subst e
  unfold Far at h
  rw [nI_toInt (by omega)] at h
  omega
theorem far_ne {t : Int32} (h : Far t) {v : Int32} (h1 : -900 ≤ v.toInt) (h2 : v.toInt < 900) : ¬ t = v := fun e => by
  subst e
  unfold Far at h
  omega
theorem far_lo {t : Int32} (h : Far t) {v : Int32} (h1 : -900 ≤ v.toInt) (h2 : v.toInt < 900) (h3 : ¬ t < v) : v < t := by
  unfold Far at h
  rw [Int32.lt_iff_toInt_lt] at h3 ⊢
  omega
section RFS
variable {X M : Sg} {t : Int32} {Q : Int32 → Sg → Prop}
theorem b_woman (hI : Inv X M) (ht : Far t) (q : Q 0 X) : p_X5_isWoman 0 t X Q := by
  obtain ⟨F, q0, N, hC⟩ := hI.2.2.2.2.2
  obtain ⟨hv, hm, hb, h3, h36⟩ := IC_now hC
  have b0 := hb.1
  exact x_isWoman hv b0 (fun z => absurd z (far_nok ht (by omega))) (fun _ => q)
theorem b_woman2 (hI : Inv X M) {x : Int32} (q : Q 0 X) (q1 : Q 1 X) : p_X5_isWoman 0 x X Q := by
  obtain ⟨F, q0, N, hC⟩ := hI.2.2.2.2.2
  obtain ⟨hv, hm, hb, h3, h36⟩ := IC_now hC
  exact x_isWoman hv hb.1 (fun _ => q1) (fun _ => q)
theorem b_past (hI : Inv X M) (ht : Far t) (q : Q 0 X) : p_X5_isPast 0 t X Q := by
  obtain ⟨F, q0, N, hC⟩ := hI.2.2.2.2.2
  obtain ⟨hv, hm, hb, h3, h36⟩ := IC_now hC
  have b2 := hb.2.2.1
  exact x_isPast hv b2 (fun z => absurd z (far_nok ht (by omega))) (fun _ => q)
theorem b_height (ht : Far t) (q : Q 0 X) : p_X5_isHeight t X Q := x_isHeight (fun z => absurd z (far_nok ht (by omega))) (fun _ => q)
theorem b_place (ht : Far t) (q : Q 0 X) : p_X5_isPlace t X Q := x_isPlace (fun z => absurd z (far_nok ht (by omega))) (fun _ => q)
theorem b_set (hI : Inv X M) (ht : Far t) (q : Q 0 X) : p_X5_isSet 0 t X Q := by
  obtain ⟨F, q0, N, hC⟩ := hI.2.2.2.2.2
  obtain ⟨hv, hm, hb, h3, h36⟩ := IC_now hC
  have b0 := hb.1
  have h64 : 2 ^ (rp F q0 N).1 0 ≤ 2 ^ 6 := Nat.pow_le_pow_right (by decide) b0
  exact x_isSet hv b0 (fun z => absurd z (far_nok ht (by omega))) (fun _ => q)
theorem rf_row (ht : Far t) {n : Int32} (q : Q (-1) X) : p_X5_row 0 t n X Q := by
  unfold p_X5_row p_X5_makeItem
  exact ⟨1, rfl, rfl, s_isNumber R1 (fun z => absurd z (far_nok ht (by omega))) (fun _ => br_t rfl q)⟩
theorem rf_lay (ht : Far t) {i v : Int32} (q : Q (-1) X) : p_X5_lay 0 t i v X Q := by
  unfold p_X5_lay
  exact y_bad R1 rfl (far_nok ht (by omega)) (br_f (by decide) q)
theorem rf_at (ht : Far t) {i : Int32} (q : Q (-1) X) : p_X5_at 0 t i X Q := by
  unfold p_X5_at
  exact y_bad R1 rfl (far_nok ht (by omega)) (br_f (by decide) q)
theorem rf_tear (ht : Far t) (q : Q (-1) X) : p_X5_tear 0 t X Q := by
  unfold p_X5_tear
  exact x_bad R1 rfl (far_nok ht (by omega)) (br_f (by decide) q)
theorem rf_copy (ht : Far t) {i j n : Int32} (q : Q (-1) X) : p_X5_copy 0 0 i t j n X Q := by
  unfold p_X5_copy
  exact ⟨1, rfl, rfl, s_isNumber R1 (fun _ => br_f (by decide) ⟨1, rfl, rfl, s_isNumber R1 (fun z => absurd z (far_nok ht (by omega))) (fun _ => br_t rfl q)⟩) (fun _ => br_t rfl q)⟩
theorem rf_mean (ht : Far t) (q : Q (-1) X) : p_X5_mean 0 t X Q := by
  unfold p_X5_mean
  exact x_bad R1 rfl (far_nok ht (by omega)) (br_f (by decide) q)
theorem rf_text (ht : Far t) {n : Int32} (q : Q (-1) X) : p_X5_text 0 t n X Q := by
  unfold p_X5_text p_X5_makeItem
  exact ⟨10, rfl, rfl, s_isNumber R2 (fun z => absurd z (far_nok ht (by omega))) (fun _ => br_t rfl q)⟩
theorem rf_put (ht : Far t) {i v : Int32} (q : Q (-1) X) : p_X5_put 0 t i v X Q := by
  unfold p_X5_put
  exact y_bad R2 rfl (far_nok ht (by omega)) (br_f (by decide) q)
theorem rf_fault (ht : Far t) (q : Q (-1) X) : p_X5_fault 0 t X Q := by
  unfold p_X5_fault
  exact x_bad R2 rfl (far_nok ht (by omega)) (br_f (by decide) q)
theorem rf_delta (ht : Far t) (q : Q (-1) X) : p_X5_delta 0 t X Q := by
  unfold p_X5_delta
  exact x_bad R2 rfl (far_nok ht (by omega)) (br_f (by decide) q)
theorem rf_woman (hI : Inv X M) (ht : Far t) {w : Int32} (q : Q (-1) X) : p_X5_woman 0 t w X Q := by
  unfold p_X5_woman
  exact b_woman hI ht (br_t rfl q)
theorem rf_mark (hI : Inv X M) (ht : Far t) {w : Int32} (q : Q (-1) X) : p_X5_mark 0 t w X Q := by
  unfold p_X5_mark
  exact b_woman hI ht (br_t rfl q)
theorem rf_hem (hI : Inv X M) (ht : Far t) {y : Int32} (q : Q (-1) X) : p_X5_hem 0 t y X Q := by
  unfold p_X5_hem
  exact b_woman hI ht (br_t rfl q)
theorem rf_would (hI : Inv X M) (ht : Far t) {i : Int32} (q : Q (-1) X) : p_X5_would 0 i t X Q := by
  unfold p_X5_would
  exact b_woman2 hI (br_t rfl q) (br_f (by decide) (b_height ht (br_t rfl q)))
theorem rf_flood (ht : Far t) (q : Q (-1) X) : p_X5_flood 0 t X Q := by
  unfold p_X5_flood
  exact b_height ht (br_t rfl q)
theorem rf_move (hI : Inv X M) (ht : Far t) {i : Int32} (q : Q (-1) X) : p_X5_move 0 i t X Q := by
  unfold p_X5_move
  exact b_woman2 hI (br_t rfl q) (br_f (by decide) (b_place ht (br_t rfl q)))
theorem rf_dyke (ht : Far t) (q : Q (-1) X) : p_X5_dyke 0 t X Q := by
  unfold p_X5_dyke
  exact b_place ht (br_t rfl q)
theorem rf_tuck (hI : Inv X M) (ht : Far t) (q : Q (-1) X) : p_X5_tuck 0 t X Q := by
  unfold p_X5_tuck
  exact b_woman hI ht (br_t rfl q)
theorem rf_undo (hI : Inv X M) (ht : Far t) (q : Q (-1) X) : p_X5_undo 0 t X Q := by
  obtain ⟨F, q0, N, hC⟩ := hI.2.2.2.2.2
  obtain ⟨hv, hm, hb, h3, h36⟩ := IC_now hC
  have hN := hC.2.2.1
  unfold p_X5_undo
  by_cases c : t < 0
  · exact br_t c q
  · refine br_f c ⟨25, rfl, rfl, br_f (fun z => ?_) q⟩
    rw [h3] at z
    obtain ⟨k, hk, rfl⟩ := nI_of c
    rw [Int32.le_iff_toInt_le, nI_toInt hk, nI_toInt (by omega)] at z
    unfold Far at ht
    rw [nI_toInt hk] at ht
    omega
theorem rf_keep (ht : Far t) (q : Q (-1) X) : p_X5_keep 0 t X Q := by
  unfold p_X5_keep
  exact e_keptNo (far_nok ht (by omega)) (br_t rfl q)
theorem rf_on (ht : Far t) (q : Q (-1) X) : p_X5_on 0 t X Q := by
  unfold p_X5_on
  exact e_keptNo (far_nok ht (by omega)) (br_t rfl q)
theorem rf_know (hI : Inv X M) (ht : Far t) {y : Int32} (q : Q (-1) X) : p_X5_know 0 t y X Q := by
  unfold p_X5_know
  exact b_set hI ht (br_t rfl q)
theorem rf_high (hI : Inv X M) (ht : Far t) (q : Q (-1) X) : p_X5_high 0 t X Q := by
  unfold p_X5_high
  exact b_past hI ht (br_t rfl q)
theorem rf_look (hI : Inv X M) (ht : Far t) {y : Int32} (q : Q (-1) X) : p_X5_look 0 t y X Q := by
  unfold p_X5_look
  exact b_set hI ht (br_t rfl q)
theorem rf_looks (hI : Inv X M) (ht : Far t) (q : Q (-1) X) : p_X5_looks 0 t X Q := by
  unfold p_X5_looks
  exact b_past hI ht (br_t rfl q)
theorem rf_line (hI : Inv X M) (ht : Far t) (q : Q (-1) X) : p_X5_line 0 t X Q := by
  unfold p_X5_line
  exact b_past hI ht (br_t rfl q)
theorem rf_kinds (hI : Inv X M) (ht : Far t) {r : Int32} (q : Q (-1) X) : p_X5_kinds 0 t r X Q := by
  unfold p_X5_kinds p_X5_refusalOfPairs
  exact b_woman hI ht (br_t rfl (br_f (by decide) q))
theorem rf_test (hI : Inv X M) (ht : Far t) {i : Int32} (q : Q (-1) X) : p_X5_test 0 i t X Q := by
  unfold p_X5_test p_X5_refusalOfPairs
  exact b_woman2 hI (br_t rfl (br_f (by decide) q)) (br_f (by decide) (x_bad R1 rfl (far_nok ht (by omega)) (br_f (by decide) (br_f (by decide) q))))
theorem rf_whose (ht : Far t) (q : Q (-1) X) : p_X5_whose 0 t X Q := by
  unfold p_X5_whose
  exact ⟨1, rfl, rfl, s_isNumber R1 (fun z => absurd z (far_nok ht (by omega))) (fun _ => br_t rfl q)⟩
theorem rf_raise (ht : Far t) {f r : Int32} (q : Q (-1) X) : p_X5_raise 0 t f r X Q := by
  unfold p_X5_raise
  exact ⟨fun _ => q, fun c => br_t (far_lo ht (v := 6) (by decide) (by decide) (fun z => c (by rw [Int32.lt_iff_toInt_lt] at z ⊢; unfold Far at ht; have e6 : (6 : Int32).toInt = 6 := rfl; have e0 : (0 : Int32).toInt = 0 := rfl; omega))) q⟩
theorem rf_least (hI : Inv X M) (ht : Far t) {i : Int32} (q : Q (-1) X) : p_X5_least 0 i 0 t X Q := by
  unfold p_X5_least
  exact b_woman2 hI (br_t rfl q) (br_f (by decide) (x_isHeight (fun _ => br_f (by decide) (b_height ht (br_t rfl q))) (fun _ => br_t rfl q)))
theorem rf_duel (ht : Far t) {f : Int32} (q : Q (-1) X) : p_X5_duel 0 t f X Q := by
  unfold p_X5_duel
  exact ⟨fun _ => q, fun c => br_t (far_lo ht (v := 6) (by decide) (by decide) (fun z => c (by rw [Int32.lt_iff_toInt_lt] at z ⊢; unfold Far at ht; have e6 : (6 : Int32).toInt = 6 := rfl; have e0 : (0 : Int32).toInt = 0 := rfl; omega))) q⟩
theorem rf_odds (ht : Far t) (q : Q (-1) X) : p_X5_odds 0 t X Q := by
  unfold p_X5_odds
  exact ⟨fun _ => q, fun c => br_f (fun z => c (by rw [Int32.le_iff_toInt_le] at z; rw [Int32.lt_iff_toInt_lt]; unfold Far at ht; have e6 : (6 : Int32).toInt = 6 := rfl; have e0 : (0 : Int32).toInt = 0 := rfl; omega)) q⟩
theorem rf_lots (ht : Far t) {y : Int32} (q : Q (-1) X) : p_X5_lots 0 t y X Q := by
  unfold p_X5_lots
  exact ⟨fun _ => q, fun c => br_t (far_lo ht (v := 20) (by decide) (by decide) (fun z => c (by rw [Int32.lt_iff_toInt_lt] at z ⊢; unfold Far at ht; have e6 : (20 : Int32).toInt = 20 := rfl; have e0 : (1 : Int32).toInt = 1 := rfl; omega))) q⟩
theorem rf_count (hI : Inv X M) (ht : Far t) (q : Q (-1) X) : p_X5_count 0 t X Q := by
  obtain ⟨F, q0, N, hC⟩ := hI.2.2.2.2.2
  have n := fun (v : Int32) (h1 : -900 ≤ v.toInt) (h2 : v.toInt < 900) => far_ne ht h1 h2
  refine x_count hC ?_
  unfold cntV
  rw [if_neg (n 0 (by decide) (by decide)), if_neg (n 1 (by decide) (by decide)), if_neg (n 2 (by decide) (by decide)), if_neg (n 3 (by decide) (by decide)), if_neg (n 4 (by decide) (by decide)), if_neg (n 5 (by decide) (by decide)), if_neg (n 6 (by decide) (by decide)), if_neg (n 7 (by decide) (by decide)), if_neg (n 8 (by decide) (by decide)), if_neg (n 9 (by decide) (by decide)), if_neg (n 10 (by decide) (by decide))]
  exact q
theorem rf_findings (ht : Far t) (q : Q (-1) X) : p_X5_findings 0 t X Q := by
  unfold p_X5_findings
  exact ⟨fun _ => q, fun c => br_t (far_lo ht (v := 5) (by decide) (by decide) (fun z => c (by rw [Int32.lt_iff_toInt_lt] at z ⊢; unfold Far at ht; have e6 : (5 : Int32).toInt = 5 := rfl; have e0 : (1 : Int32).toInt = 1 := rfl; omega))) q⟩
end RFS
theorem rf_all {X M : Sg} {z : Int32} {Q : Int32 → Sg → Prop} (hI : Inv X M) (q : Q 1 X) : p_L_refused (some 0) (z >>> (6 &&& 31)) X Q := by
  have go : ∀ t, Far t → p_L_refused_b17 Q (some 0) t X := fun t ht => by
    unfold p_L_refused_b17
    exact ⟨0, rfl, rfl, rf_row ht (br_t rfl ⟨0, rfl, rfl, rf_lay ht (br_t rfl ⟨0, rfl, rfl, rf_at ht (br_t rfl ⟨0, rfl, rfl, rf_tear ht (br_t rfl ⟨0, rfl, rfl, rf_copy ht (br_t rfl ⟨0, rfl, rfl, rf_mean ht (br_t rfl ⟨0, rfl, rfl, rf_text ht (br_t rfl ⟨0, rfl, rfl, rf_put ht (br_t rfl ⟨0, rfl, rfl, rf_fault ht (br_t rfl ⟨0, rfl, rfl, rf_delta ht (br_t rfl ⟨0, rfl, rfl, rf_woman hI ht (br_t rfl ⟨0, rfl, rfl, rf_mark hI ht (br_t rfl ⟨0, rfl, rfl, rf_hem hI ht (br_t rfl ⟨0, rfl, rfl, rf_would hI ht (br_t rfl ⟨0, rfl, rfl, rf_flood ht (br_t rfl ⟨0, rfl, rfl, rf_move hI ht (br_t rfl ⟨0, rfl, rfl, rf_dyke ht (br_t rfl ⟨0, rfl, rfl, rf_tuck hI ht (br_t rfl ⟨0, rfl, rfl, rf_undo hI ht (br_t rfl ⟨0, rfl, rfl, rf_keep ht (br_t rfl ⟨0, rfl, rfl, rf_on ht (br_t rfl ⟨0, rfl, rfl, rf_know hI ht (br_t rfl ⟨0, rfl, rfl, rf_high hI ht (br_t rfl ⟨0, rfl, rfl, rf_look hI ht (br_t rfl ⟨0, rfl, rfl, rf_looks hI ht (br_t rfl ⟨0, rfl, rfl, rf_line hI ht (br_t rfl ⟨0, rfl, rfl, rf_kinds hI ht (br_t rfl ⟨0, rfl, rfl, rf_test hI ht (br_t rfl ⟨0, rfl, rfl, rf_whose ht (br_t rfl ⟨0, rfl, rfl, rf_raise ht (br_t rfl ⟨0, rfl, rfl, rf_least hI ht (br_t rfl ⟨0, rfl, rfl, rf_duel ht (br_t rfl ⟨0, rfl, rfl, rf_odds ht (br_t rfl ⟨0, rfl, rfl, rf_lots ht (br_t rfl ⟨0, rfl, rfl, rf_count hI ht (br_t rfl ⟨0, rfl, rfl, rf_findings ht (br_t rfl q)⟩)⟩)⟩)⟩)⟩)⟩)⟩)⟩)⟩)⟩)⟩)⟩)⟩)⟩)⟩)⟩)⟩)⟩)⟩)⟩)⟩)⟩)⟩)⟩)⟩)⟩)⟩)⟩)⟩)⟩)⟩)⟩)⟩)⟩)⟩)⟩
  unfold p_L_refused
  exact ⟨fun c => go _ (far_of.1 c), fun c => go _ (far_of.2 c)⟩
