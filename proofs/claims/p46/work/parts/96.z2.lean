/-! deeds that are undone, what is kept and gone on from -/
theorem RD_cong {s : Sg} {d : Nat} {F : Ds} {q q' : Nat → Dd} {N : Nat} (h : ∀ k, k < N → q' k = q k) (r : RD s d F q' N) : RD s d F q N :=
  ⟨by rw [← rp_cong h]; exact r.1, r.2.1, fun k hk => by
    have e := r.2.2 k hk
    rw [h k hk, rp_cong (q' := q) (fun j hj => h j (by omega))] at e
    exact e⟩
/-- grown by some deeds -/
def GN (Y0 Y : Sg) (F : Ds) (q : Nat → Dd) (N : Nat) : Prop := ∃ q' N', N ≤ N' ∧ N' ≤ 40 ∧ (∀ k, k < N → q' k = q k) ∧ allOk F q' N' ∧ RD Y 25 F q' N' ∧ outD 25 Y0 Y
theorem GN_up {Y0 Y Y' : Sg} {F : Ds} {q q' : Nat → Dd} {N N' : Nat} {x : Dd} (h1 : N ≤ N') (h2 : N' < 40) (h3 : ∀ k, k < N → q' k = q k) (h4 : allOk F (qup q' N' x) (N' + 1)) (h5 : RD Y' 25 F (qup q' N' x) (N' + 1)) (h6 : outD 25 Y0 Y) (h7 : outD 25 Y Y') : GN Y0 Y' F q N :=
  ⟨qup q' N' x, N' + 1, by omega, by omega, fun k hk => by rw [qup_n q' x (by omega)]; exact h3 k hk, h4, h5, outD_tr h6 h7⟩
section DDD
variable {Y0 Y : Sg} {F : Ds} {q : Nat → Dd} {N : Nat} {Q : Int32 → Sg → Prop}
theorem x_flood (hB : BV F.1 F.2) (g : GN Y0 Y F q N) (f : Int32) (h : ∀ u Y', GN Y0 Y' F q N → Q u Y') : p_X5_flood 0 f Y Q := by
  have g0 := g
  obtain ⟨q', N', g1, g2, g3, g4, g5, g6⟩ := g
  have hb := BV_rp hB g4
  have b0 := hb.1
  have b2 := hb.2.2.1
  have hv := g5.1
  have h3 := g5.2.1
  have x0 := hv.1 0 (by decide)
  have x2 := hv.1 2 (by decide)
  have lt0 : (rp F q' N').1 0 < 2 ^ 31 := by omega
  have lt2 : (rp F q' N').1 2 < 2 ^ 31 := by omega
  unfold p_X5_flood
  refine x_isHeight (fun hf => br_f (by decide) ⟨25, rfl, rfl, ?_⟩) (fun hf => br_t rfl (h _ _ g0))
  obtain ⟨k, hk, rfl⟩ := hf
  refine br_eq (b := 0) x0 rfl lt0 (by decide) (fun z => h _ _ g0) (fun z => ⟨25, rfl, rfl, ?_⟩)
  refine br_lt (b := 8) x2 rfl lt2 (by decide) (fun y => ⟨25, rfl, rfl, ?_⟩) (fun y => h _ _ g0)
  refine br_lt (b := 40) h3 rfl (by omega) (by decide) (fun w => ⟨25, rfl, rfl, ?_⟩) (fun w => h _ _ g0)
  have hx : okD (0, k, 0) (rp F q' N').1 (rp F q' N').2 := Or.inl ⟨rfl, by show k ≤ 20; omega, y⟩
  have hok := allOk_qup g4 hx
  have hb' := BV_rp hB hok
  exact e_doFlood isD25 g5 hb w y (fun X' hR ho => ⟨25, rfl, rfl, e_howManyWet isD25 hR.1 hb' (by omega) (h _ _ (GN_up g1 w g3 hok hR g6 ho))⟩)
theorem x_tuck (hB : BV F.1 F.2) (g : GN Y0 Y F q N) (i : Int32) (h : ∀ u Y', GN Y0 Y' F q N → Q u Y') : p_X5_tuck 0 i Y Q := by
  have g0 := g
  obtain ⟨q', N', g1, g2, g3, g4, g5, g6⟩ := g
  have hb := BV_rp hB g4
  have b0 := hb.1
  have hv := g5.1
  have h3 := g5.2.1
  unfold p_X5_tuck
  refine x_isWoman hv b0 (fun hi => br_f (by decide) ⟨25, rfl, rfl, ?_⟩) (fun hi => br_t rfl (h _ _ g0))
  obtain ⟨k, hk, rfl⟩ := hi
  have cc := hb.2.2.2.2.1 k hk
  have e2 : gR Y 30 k = nI ((rp F q' N').2 4 k) := hv.2 4 (by decide) k hk
  refine d_item isD25 4 (by decide) rfl (show k < 6 by omega) ?_
  refine br_lt (b := 3) e2 rfl (by omega) (by decide) (fun z => ⟨25, rfl, rfl, br_lt (b := 40) h3 rfl (by omega) (by decide) (fun w => ⟨25, rfl, rfl, ?_⟩) (fun w => h _ _ g0)⟩) (fun z => h _ _ g0)
  have hx : okD (3, k, 0) (rp F q' N').1 (rp F q' N').2 := Or.inr (Or.inr (Or.inr ⟨rfl, hk, by show (rp F q' N').2 4 k ≤ 2; omega⟩))
  have hok := allOk_qup g4 hx
  exact e_doTuck isD25 g5 hb w hk (fun X' hR ho => ⟨25, rfl, rfl, d_item isD25 4 (by decide) rfl (show k < 6 by omega) (h _ _ (GN_up g1 w g3 hok hR g6 ho))⟩)
theorem x_dyke (hB : BV F.1 F.2) (g : GN Y0 Y F q N) (p : Int32) (h : ∀ u Y', GN Y0 Y' F q N → Q u Y') : p_X5_dyke 0 p Y Q := by
  have g0 := g
  obtain ⟨q', N', g1, g2, g3, g4, g5, g6⟩ := g
  have hb := BV_rp hB g4
  have b0 := hb.1
  have b1 := hb.2.1
  have hv := g5.1
  have h3 := g5.2.1
  have x0 := hv.1 0 (by decide)
  have x1 := hv.1 1 (by decide)
  unfold p_X5_dyke
  refine x_isPlace (fun hp => br_f (by decide) ⟨25, rfl, rfl, ?_⟩) (fun hp => br_t rfl (h _ _ g0))
  obtain ⟨k, hk, rfl⟩ := hp
  have b4 := hb.2.2.2.1 k hk
  have e2 : gR Y 26 k = nI ((rp F q' N').2 0 k) := hv.2 0 (by decide) k hk
  refine br_eq (b := 0) x0 rfl (by omega) (by decide) (fun z => h _ _ g0) (fun z => ⟨25, rfl, rfl, d_item isD25 0 (by decide) rfl (show k < 6 by omega) ?_⟩)
  refine br_lt (b := 9) e2 rfl (by omega) (by decide) (fun y => ⟨25, rfl, rfl, br_lt (a := 0) rfl x1 (by decide) (by omega) (fun v => ⟨25, rfl, rfl, br_lt (b := 40) h3 rfl (by omega) (by decide) (fun w => ⟨25, rfl, rfl, ?_⟩) (fun w => h _ _ g0)⟩) (fun v => h _ _ g0)⟩) (fun y => h _ _ g0)
  have hx : okD (2, k, 0) (rp F q' N').1 (rp F q' N').2 := Or.inr (Or.inr (Or.inl ⟨rfl, hk, by show (rp F q' N').2 0 k ≤ 8; omega, v⟩))
  have hok := allOk_qup g4 hx
  exact e_doDyke isD25 g5 hb w hk v (fun X' hR ho => ⟨25, rfl, rfl, d_item isD25 0 (by decide) rfl (show k < 6 by omega) (h _ _ (GN_up g1 w g3 hok hR g6 ho))⟩)
/-- undone down to N: as it was -/
theorem x_undoN (hB : BV F.1 F.2) (g : GN Y0 Y F q N) {x : Int32} (ex : x = nI N) (h : ∀ u Y', RD Y' 25 F q N → outD 25 Y0 Y' → Q u Y') : p_X5_undo 0 x Y Q := by
  subst ex
  obtain ⟨q', N', g1, g2, g3, g4, g5, g6⟩ := g
  have h3 := g5.2.1
  unfold p_X5_undo
  refine br_f (nI_pos (by omega)) ⟨25, rfl, rfl, br_le rfl h3 (by omega) (by omega) (fun z => ⟨25, rfl, rfl, N' - N + 1, ?_⟩) (fun z => absurd z (by omega))⟩
  rw [h3, pk_sub g1]
  exact x_undo hB g4 g2 (show N + (N' - N) = N' by omega) (fun X' hR ho => h _ X' (RD_cong g3 hR) (outD_tr g6 ho)) (N' - N) 0 Y (by omega) (by rw [show N + (N' - N) = N' by omega]; exact g5) (outD_rf 25 Y)
end DDD
section BCK
variable {X X' M : Sg} {F : Ds} {q : Nat → Dd} {N : Nat} {Q : Int32 → Sg → Prop}
/-- the same plain state, where the delta is the same and nothing else has changed -/
theorem Inv_back (hI : Inv X M) (hC : IC X M F q N) (hR : RD X' 25 F q N) (ho : outD 25 X X') : Inv X' M ∧ IC X' M F q N := by
  have h2 : IC X' M F q N := ⟨hC.1, hC.2.1, hC.2.2.1, hC.2.2.2.1, hR, hC.2.2.2.2.2.1, fun k hk => KP_f (hC.2.2.2.2.2.2 k hk) (fun c hc => ho.1 c (by omega)) (fun c j hc => ho.2.1 c j (by omega)) rfl rfl⟩
  exact ⟨Inv_deed hI (fun k hk => ho.1 k (by omega)) (fun j => ho.2.1 0 j (by decide)) ho.2.2.1 (fun _ _ => rfl) (fun _ _ => rfl) (fun _ _ => rfl) ⟨F, q, N, h2⟩, h2⟩
theorem GN_0 (hC : IC X M F q N) : GN X X F q N := ⟨q, N, Nat.le_refl _, hC.2.2.1, fun _ _ => rfl, hC.2.2.2.1, hC.2.2.2.2.1, outD_rf 25 X⟩
theorem isD73 : isD 73 := Or.inr (Or.inr (Or.inr (Or.inr rfl)))
theorem x_keepE (hC : IC X M F q N) (hw : F.1 0 ≠ 0) (h : ∀ X', RD X' 73 F q N → outD 73 X X' → Q (nI N) X') : p_X5_keep 0 2 X Q := by
  obtain ⟨hv, hm, hb, h3, h36⟩ := IC_now hC
  have b0 := hb.1
  have hN40 := hC.2.2.1
  have x0 := hv.1 0 (by decide)
  unfold p_X5_keep
  refine e_keptAt (k := 2) rfl (by decide) (br_f (by intro q; cases q) ⟨25, rfl, rfl, br_eq (b := 0) x0 rfl (by omega) (by decide) (fun z => absurd ((rp_w F q N).symm.trans z) hw) (fun z => ⟨73, rfl, rfl, e_takeFrom isD73 isD25 (by decide) rfl (fun X' tk => ⟨25, rfl, rfl, ?_⟩)⟩)⟩)
  have f3 : gI X' 25 3 = nI N := (tk.2.2.2.1 25 3 (by decide)).trans h3
  rw [f3]
  exact h X' (RD_took hb hN40 hC.2.2.2.2.1 tk) tk.2.2
def keepM (M : Sg) (N : Nat) : Sg := wr (setR M 25 (upd (gR M 25) 2 (nI N))) 26 (120 * 2) (gR M 24) 120
theorem Inv_kept (hI : Inv X M) (hC : IC X M F q N) (hw : F.1 0 ≠ 0) (hR : RD X' 73 F q N) (ho : outD 73 X X') : Inv X' (keepM M N) ∧ IC X' (keepM M N) F q N := by
  have hN40 := hC.2.2.1
  have hW : ∀ j, 120 * 2 ≤ j → j < 120 * 2 + 120 → gR (keepM M N) 26 j = gR M 24 (j - 120 * 2) := fun j h1 h2 => by
    unfold keepM
    rw [gR_wr_s, if_pos ⟨h1, h2⟩]
  have h25 : gR (keepM M N) 25 = upd (gR M 25) 2 (nI N) := by
    unfold keepM
    rw [gR_wr _ _ _ _ _ _ (by decide), gR_same]
  have hO : ∀ j, j < 240 → gR (keepM M N) 26 j = gR M 26 j := fun j hj => by
    unfold keepM
    rw [gR_wr_s, if_neg (by omega), gR_ne _ _ (by decide)]
  have hK : ∀ c, c < 25 → gR (keepM M N) c = gR M c := fun c hc => by
    unfold keepM
    rw [gR_wr _ _ _ _ _ _ (by omega), gR_ne _ _ (by omega)]
  have h2 : IC X' (keepM M N) F q N := by
    refine ⟨hC.1, hC.2.1, hN40, hC.2.2.2.1, RD_s hC.2.2.2.2.1 (fun c c1 c2 => ho.1 c (by omega)) (fun j => ho.2.1 25 j (by omega)), MD_k (MD_k hC.2.2.2.2.2.1 (by omega)) (by omega), fun c hc => ?_⟩
    by_cases e : c = 2
    · subst e
      refine Or.inr ⟨by omega, q, N, hN40, hC.2.2.2.1, hR, ?_, fun j hj => ?_⟩
      · rw [h25, upd_s]
      · have := hC.2.2.2.2.2.1.2.2.1 j hj
        rw [Nat.zero_add, Nat.zero_add, Nat.zero_add] at this
        rw [hW _ (by omega) (by omega), hW _ (by omega) (by omega), hW _ (by omega) (by omega), Nat.add_sub_cancel_left, Nat.add_sub_cancel_left, Nat.add_sub_cancel_left]
        exact this
    · refine KP_g (hC.2.2.2.2.2.2 c hc) (fun b c1 c2 => ho.1 b (by omega)) (fun j => ho.2.1 _ j (by omega)) ?_ (fun i hi => ?_)
      · rw [h25, upd_n _ _ e]
      · exact hO _ (by omega)
  exact ⟨Inv_deed hI (fun c hc => ho.1 c (by omega)) (fun j => ho.2.1 0 j (by omega)) ho.2.2.1 (fun c hc => hK c (by omega)) (fun j hj => rfl) (fun _ _ => rfl) ⟨F, q, N, h2⟩, h2⟩
/-- two deeds by lots: something is done -/
theorem x_lots2 (hB : BV F.1 F.2) (hw : F.1 0 ≠ 0) (hok : allOk F q N) (hN : N ≤ 38) (hr : RD X 25 F q N) {sd : Nat} (h1 : 1 ≤ sd) (h2 : sd < 2147483647) (h : ∀ u X', ¬ u < 0 → outD 25 X X' → Q u X') : p_X5_lots 0 2 (nI sd) X Q := by
  have hw' : 0 < F.1 0 := by omega
  have hb := BV_rp hB hok
  have b0 := hb.1
  have x0 := hr.1.1 0 (by decide)
  have h3 := hr.2.1
  have w : 0 < (rp F q N).1 0 := by rw [rp_w]; exact hw'
  have c3 : ¬ nI sd < 1 := by
    rw [Int32.lt_iff_toInt_lt, nI_toInt (by omega)]
    have e0 : (1 : Int32).toInt = 1 := rfl
    omega
  have c4 : nI sd < 2147483647 := by
    rw [Int32.lt_iff_toInt_lt, nI_toInt (by omega)]
    have e0 : (2147483647 : Int32).toInt = 2147483647 := rfl
    omega
  have hQ := fun j => lotQ_ok (seed := sd) hw' hok j
  have hB' := fun j => BV_rp hB (hQ j)
  have hL := fun j => lotQ_lt (F := F) (q := q) (N := N) h2 j
  unfold p_X5_lots
  refine br_f (by decide) (br_f (by decide) (br_f c3 (br_t c4 ⟨25, rfl, rfl, br_lt (a := 0) rfl x0 (by decide) (by omega) (fun _ => ⟨25, rfl, rfl, ?_⟩) (fun z => absurd z (by omega))⟩)))
  rw [h3, show (2 : Int32) = nI 2 from rfl, nI_add, nI_l (by omega)]
  refine br_le (b := 40) rfl rfl (by omega) (by decide) (fun v => ⟨2 + 1, ?_⟩) (fun v => absurd v (by omega))
  have keyX : ∀ r j s, j + r = 2 → RD s 25 F (lotQ F q N sd j).2 (N + j) → outD 25 X s → p_X5_lots_L61 Q (r + 1) 0 (nI 2) (lN (lotQ F q N sd j).1) (nI j) s := by
    intro r
    induction r with
    | zero =>
      intro j s hj hr ho
      have e : j = 2 := by omega
      subst e
      unfold p_X5_lots_L61
      refine br_t (nI_le (Nat.le_refl _) (by omega)) ⟨25, rfl, rfl, ?_⟩
      have b2 := (hB' 2).2.2.1
      rw [hr.1.1 2 (by decide)]
      exact h _ s (nI_pos (by omega)) ho
    | succ r ih =>
      intro j s hj hr ho
      unfold p_X5_lots_L61
      rw [(lm_n (hL j)).1, nI_1]
      refine br_f (nI_ge (by omega) (by omega)) (x_byLot hr (hB' j) hw' (by omega) (hL (j + 1)) (fun s' hr' ho' => ?_))
      exact ih (j + 1) s' (by omega) hr' (outD_tr ho ho')
  exact keyX 2 0 X (by omega) hr (outD_rf 25 X)
/-- gone on from what is kept -/
theorem x_on2 (hB : BV F.1 F.2) (hw : F.1 0 ≠ 0) (hok : allOk F q N) (hN : N ≤ 40) (hr : RD X 73 F q N) (h : ∀ X', RD X' 25 F q N → outD 25 X X' → Q (nI N) X') : p_X5_on 0 2 X Q := by
  have hb := BV_rp hB hok
  have b0 := hB.1
  unfold p_X5_on
  refine e_keptAt (k := 2) rfl (by decide) (br_f (by intro q; cases q) ⟨73, rfl, rfl, ?_⟩)
  have nz : ¬ gI X 73 0 = 0 := by
    rw [hr.1.1 0 (by decide), rp_w]
    intro z
    have := nI_inj (b := 0) (by omega) (by decide) z
    omega
  refine br_f nz ⟨25, rfl, rfl, e_takeFrom isD25 isD73 (by decide) rfl (fun X' tk => ⟨25, rfl, rfl, ?_⟩)⟩
  have hR := RD_took hb hN hr tk
  rw [hR.2.1]
  exact h X' hR tk.2.2
end BCK
