/-! delta, undo, keep, on -/
theorem KP_g {X X' M M' : Sg} {F : Ds} {k : Nat} (h : KP X M F k) (a1 : ∀ c, 49 + 12 * k < c → c ≤ 49 + 12 * k + 11 → gR X' c = gR X c) (a2 : ∀ j, gI X' (49 + 12 * k) j = gI X (49 + 12 * k) j) (h5 : gR M' 25 k = gR M 25 k) (h6 : ∀ i, i < 120 → gR M' 26 (120 * k + i) = gR M 26 (120 * k + i)) : KP X' M' F k := by
  rcases h with ⟨h1, h2⟩ | ⟨h0, q, N, h1, h2, h3, h4, h7⟩
  · exact Or.inl ⟨by rw [h5]; exact h1, by rw [a2]; exact h2⟩
  · refine Or.inr ⟨h0, q, N, h1, h2, RD_s h3 a1 a2, by rw [h5]; exact h4, fun j hj => ?_⟩
    rw [h6 (3 * j) (by omega), h6 (3 * j + 1) (by omega), h6 (3 * j + 2) (by omega)]
    exact h7 j hj
theorem LG_le {s : Sg} {c b N K : Nat} {q : Nat → Dd} (h : LG s c b q N) (hk : K ≤ N) : LG s c b q K := fun k hk2 => h k (by omega)
theorem mDf_36 (M : Sg) (v : Int32) : mDf M (setI M 0 36 v) := ⟨fun _ _ => rfl, fun j _ _ h3 => gI_ne _ _ (by omega), fun _ _ => rfl⟩
theorem mDf_24 (M : Sg) (f : Nat → Int32) : mDf M (setR M 24 f) := ⟨fun k hk => gR_ne _ _ (by omega), fun _ _ _ _ => rfl, fun _ _ => rfl⟩
theorem wm_P {T : Nat → Int32} {n P : Nat} : ∀ f i p a, p ≤ n → (wm T n f i p a).1 = some P → P ≤ n + 3
  | 0, i, p, a, hp, h => by
    unfold wm at h
    by_cases c : p < n
    · rw [if_pos c] at h
      have : p = P := Option.some.inj h
      omega
    · rw [if_neg c] at h
      cases h
  | f + 1, i, p, a, hp, h => by
    unfold wm at h
    by_cases c : p < n ∨ i = 0
    · rw [if_pos c] at h
      revert h
      cases letp T n p with
      | none => intro h; have : p = P := Option.some.inj h; omega
      | some k =>
        cases fg T n 0 5 (p + 1) with
        | none => intro h; have : p + 1 = P := Option.some.inj h; omega
        | some pl =>
          cases fg T n 1 9 (p + 2) with
          | none => intro h; have : p + 2 = P := Option.some.inj h; omega
          | some ta =>
            cases e4 : fg T n 0 3 (p + 3) with
            | none => intro h; have : p + 3 = P := Option.some.inj h; omega
            | some tu =>
              intro h
              have := (fg_some e4).1
              exact wm_P f (i + 1) _ _ (skp_le (show p + 4 ≤ n by omega)).2 h
    · rw [if_neg c] at h
      cases h
theorem rd_P {T : Nat → Int32} {n P : Nat} (h : (rd T n).1 = some P) : P ≤ n + 3 := by
  have hk := (skp_le (T := T) (Nat.zero_le n)).2
  unfold rd at h
  by_cases c : skp T n 0 < n ∧ T (skp T n 0) = 100
  · simp only [if_pos c] at h
    have hl := lf_le (T := T) (n := n) (show skp T n 0 + 1 ≤ n by omega) 7
    by_cases c2 : (lf T n (skp T n 0 + 1) 7).2.1 = true
    · simp only [if_pos c2] at h
      exact wm_P 6 0 _ _ (skp_le hl).2 h
    · simp only [if_neg c2] at h
      have := Option.some.inj h
      omega
  · simp only [if_neg c] at h
    have := Option.some.inj h
    omega
section UKO
variable {X M : Sg}
theorem x_undo {F : Ds} {q : Nat → Dd} {N k m : Nat} {Q : Int32 → Sg → Prop} (hb : BV F.1 F.2) (hok : allOk F q N) (hN : N ≤ 40) (hm : k + m = N) (h : ∀ X', RD X' 25 F q k → outD 25 X X' → Q (nI m) X') : ∀ r i s, i + r = m → RD s 25 F q (k + r) → outD 25 X s → p_X5_undo_L29 Q (r + 1) 0 (nI m) (nI i) s := by
  intro r
  induction r with
  | zero =>
    intro i s hi hR ho
    unfold p_X5_undo_L29
    exact br_t (nI_le (by omega) (by omega)) (h s hR ho)
  | succ r ih =>
    intro i s hi hR ho
    unfold p_X5_undo_L29
    rw [nI_1]
    refine br_f (nI_ge (by omega) (by omega)) ⟨25, rfl, rfl, e_undoLast (N := k + r) isD25 hR (BV_rp hb (fun j hj => hok j (by omega))) (by omega) (hok (k + r) (by omega)) (fun s' hR' ho' => ih (i + 1) s' (by omega) hR' (outD_tr ho ho'))⟩
theorem st_undo (hI : Inv X M) (x : Int32) : p_X5_undo 0 x X (fun u X' => p_X6_undo 0 x M (fun u' M' => Z X' M' u u')) := by
  obtain ⟨F, q, N, hC⟩ := hI.2.2.2.2.2
  obtain ⟨hv, hm, hb, h3, h36⟩ := IC_now hC
  have hN40 := hC.2.2.1
  have hw : gI M 0 36 = nI (N + 1) - 1 := by rw [h36]; exact (pk_sub (a := N + 1) (b := 1) (by omega)).symm
  have no : ¬ ok x (N + 1) → p_X6_undo 0 x M (fun u' M' => Z X M' (-1) u') := fun z => by
    unfold p_X6_undo
    exact m_in_t (w := N + 1) (by omega) hw (fun y => absurd y z) (fun _ => br_t rfl ⟨rfl, hI⟩)
  unfold p_X5_undo
  by_cases c : x < 0
  · exact br_t c (no (fun o => ok_lt0 (by omega) o c))
  obtain ⟨k, hk, rfl⟩ := nI_of c
  refine br_f c ⟨25, rfl, rfl, br_le rfl h3 hk (by omega) (fun z => ⟨25, rfl, rfl, N - k + 1, ?_⟩) (fun z => no (fun ⟨j, hj, e⟩ => by have := nI_inj hk (by omega) e; omega))⟩
  rw [h3, pk_sub z]
  refine x_undo hC.1 hC.2.2.2.1 hN40 (show k + (N - k) = N by omega) (fun X' hR ho => ?_) (N - k) 0 X (by omega) (by rw [show k + (N - k) = N by omega]; exact hC.2.2.2.2.1) (outD_rf 25 X)
  unfold p_X6_undo
  refine m_in_t (w := N + 1) (by omega) hw (fun _ => br_f (by decide) ?_) (fun y => absurd ⟨k, by omega, rfl⟩ y)
  obtain ⟨w1, w2, w3, w4⟩ := hC.2.2.2.2.2.1
  have hok : allOk F q k := fun j hj => hC.2.2.2.1 j (by omega)
  refine m_goThrough (q := q) (N := k) hC.1 hC.2.1 (by omega) hok (gI_same _ _ _ _) (LG_le w3 z) ?_ (fun M' hM bM => ⟨?_, Inv_new hI hC (by omega) hok hR hM ho (mDf_tr (mDf_36 M _) (mDf_h bM))⟩)
  · unfold FM
    rw [gI_ne _ _ (by omega), gI_ne _ _ (by omega)]
    exact w4
  · rw [h36, pk_sub z]
theorem st_keep (hI : Inv X M) (x : Int32) : p_X5_keep 0 x X (fun u X' => p_X6_keep 0 x M (fun u' M' => Z X' M' u u')) := by
  obtain ⟨F, q, N, hC⟩ := hI.2.2.2.2.2
  obtain ⟨hv, hm, hb, h3, h36⟩ := IC_now hC
  have b0 := hb.1
  have hN40 := hC.2.2.1
  have x0 := hv.1 0 (by decide)
  have m0 := hm.1
  unfold p_X5_keep p_X6_keep
  by_cases hk : ok x 3
  · have hk' := hk
    obtain ⟨k, hk, rfl⟩ := hk
    refine e_keptAt rfl hk (br_f (by intro q; cases q) ⟨25, rfl, rfl, br_eq (b := 0) x0 rfl (by omega) (by decide) (fun z => ?_) (fun z => ⟨49 + 12 * k, rfl, D_k (isDk hk), e_takeFrom (isDk hk) isD25 (by omega) rfl (fun X' tk => ⟨25, rfl, rfl, ?_⟩)⟩)⟩)
    · exact m_in_t (w := 3) (by decide) rfl (fun _ => br_f (by decide) (br_t (by rw [m0, z]; rfl) ⟨rfl, hI⟩)) (fun y => absurd hk' y)
    · refine m_in_t (w := 3) (by decide) rfl (fun _ => br_f (by decide) (br_f (by rw [m0]; intro q; exact z (nI_inj (b := 0) (by omega) (by decide) q)) ⟨25, rfl, rfl, vp_in_nI hk (by decide), ?_⟩)) (fun y => absurd hk' y)
      rw [m_cl (show k < 100000 by omega), h36]
      refine lp_wr (fun f i s => p_X6_keep_L33 _ f 0 (nI k) (nI i) s) _ 26 (120 * k) 120 (gR M 24) (fun f => ?_) (fun f i hi h => ?_)
      · unfold p_X6_keep_L33
        have ho := tk.2.2
        have f3 : gI X' 25 3 = nI N := (ho.2.1 25 3 (by omega)).trans h3
        refine br_t (by decide) ⟨f3.trans h36.symm, ?_⟩
        have hW : ∀ j, 120 * k ≤ j → j < 120 * k + 120 → gR (wr (setR M 25 (upd (gR M 25) k (nI N))) 26 (120 * k) (gR M 24) 120) 26 j = gR M 24 (j - 120 * k) := fun j h1 h2 => by
          rw [gR_wr_s, if_pos ⟨h1, h2⟩]
        have h25 : gR (wr (setR M 25 (upd (gR M 25) k (nI N))) 26 (120 * k) (gR M 24) 120) 25 = upd (gR M 25) k (nI N) := by
          rw [gR_wr _ _ _ _ _ _ (by decide), gR_same]
        refine Inv_deed hI (fun c hc => ho.1 c (by omega)) (fun j => ho.2.1 0 j (by omega)) ho.2.2.1 (fun c hc => ?_) (fun j hj => rfl) (fun _ _ => rfl) ⟨F, q, N, hC.1, hC.2.1, hN40, hC.2.2.2.1, RD_s hC.2.2.2.2.1 (fun c c1 c2 => ho.1 c (by omega)) (fun j => ho.2.1 25 j (by omega)), MD_k (MD_k hC.2.2.2.2.2.1 (by omega)) (by omega), fun c hc => ?_⟩
        · rw [gR_wr _ _ _ _ _ _ (by omega), gR_ne _ _ (by omega)]
        · by_cases e : c = k
          · subst e
            refine Or.inr ⟨?_, q, N, hN40, hC.2.2.2.1, RD_took hb hN40 hC.2.2.2.2.1 tk, ?_, fun j hj => ?_⟩
            · rw [rp_w] at z; omega
            · rw [h25, upd_s]
            · have := hC.2.2.2.2.2.1.2.2.1 j hj
              rw [Nat.zero_add, Nat.zero_add, Nat.zero_add] at this
              rw [hW _ (by omega) (by omega), hW _ (by omega) (by omega), hW _ (by omega) (by omega), Nat.add_sub_cancel_left, Nat.add_sub_cancel_left, Nat.add_sub_cancel_left]
              exact this
          · refine KP_g (hC.2.2.2.2.2.2 c hc) (fun b c1 c2 => ho.1 b (by omega)) (fun j => ho.2.1 _ j (by omega)) ?_ (fun i hi => ?_)
            · rw [h25, upd_n _ _ e]
            · rw [gR_wr_s, if_neg (by omega), gR_ne _ _ (by decide)]
      · unfold p_X6_keep_L33
        rw [ixm (y := 120) 120 k i rfl, m_cl (show 120 * k + i < 100000 by omega), m_cl (show i < 100000 by omega), nI_1]
        refine br_f (nI_ge (b := 120) hi (by decide)) ⟨24, rfl, rfl, m_in (N := 120) rfl rfl hi (by decide), 26, rfl, rfl, m_in (N := 360) rfl rfl (by omega) (by decide), ?_⟩
        rw [gR_wr _ _ _ _ _ 24 (by decide), gR_ne (a := 24) _ _ (by decide), wr_step]
        exact h
  · exact e_keptNo hk (br_t rfl (m_in_t (w := 3) (by decide) rfl (fun z => absurd z hk) (fun _ => br_t rfl ⟨rfl, hI⟩)))
theorem st_on (hI : Inv X M) (x : Int32) : p_X5_on 0 x X (fun u X' => p_X6_on 0 x M (fun u' M' => Z X' M' u u')) := by
  obtain ⟨F, q, N, hC⟩ := hI.2.2.2.2.2
  have hC' := hC
  unfold p_X5_on p_X6_on
  by_cases hk : ok x 3
  · have hk' := hk
    obtain ⟨k, hk, rfl⟩ := hk
    have ik : vp_in (nI k) 3 := vp_in_nI hk (by decide)
    have ck : (nI k).toNatClampNeg = k := m_cl (by omega)
    refine e_keptAt rfl hk (br_f (by intro q; cases q) ⟨49 + 12 * k, rfl, D_k (isDk hk), ?_⟩)
    rcases hC.2.2.2.2.2.2 k hk with ⟨h1, h2⟩ | ⟨h0, q', N', g1, g2, g3, g4, g7⟩
    · refine br_t h2 (e_found (f := 1) rfl (by decide) (m_in_t (w := 3) (by decide) rfl (fun _ => br_f (by decide) ⟨25, rfl, rfl, ik, ?_⟩) (fun y => absurd hk' y)))
      rw [ck, h1]
      exact br_f (by decide) (m_refuse (f := 1) rfl (by decide) ⟨rfl, Inv_found hI (by decide)⟩)
    · have hb' := BV_rp hC.1 g2
      have nz : ¬ gI X (49 + 12 * k) 0 = 0 := by
        rw [g3.1.1 0 (by decide), rp_w]
        have := hC.1.1
        intro q
        have := nI_inj (b := 0) (by omega) (by decide) q
        omega
      refine br_f nz ⟨25, rfl, rfl, e_takeFrom isD25 (isDk hk) (by omega) rfl (fun X' tk => ⟨25, rfl, rfl, ?_⟩)⟩
      have hR := RD_took hb' g1 g3 tk
      refine m_in_t (w := 3) (by decide) rfl (fun _ => br_f (by decide) ⟨25, rfl, rfl, ik, ?_⟩) (fun y => absurd hk' y)
      rw [ck, g4]
      refine br_t (nI_pos' (by omega)) ⟨25, rfl, rfl, ik, ?_⟩
      rw [g4]
      refine lp_wr (fun f i s => p_X6_on_L38 _ f 0 (nI k) (nI i) s) _ 24 0 120 (fun i => gR M 26 (120 * k + i)) (fun f => ?_) (fun f i hi h => ?_)
      · unfold p_X6_on_L38
        obtain ⟨w1, w2, w3, w4⟩ := hC.2.2.2.2.2.1
        refine br_t (by decide) (m_goThrough (q := q') (N := N') hC.1 hC.2.1 g1 g2 (show gI (setI M 0 36 (nI N')) 0 36 = nI N' from gI_same _ _ _ _) (fun j hj => ?_) ?_ (fun M' hM bM => ⟨?_, Inv_new hI hC' g1 g2 hR hM tk.2.2 (mDf_tr (mDf_36 M (nI N')) (mDf_tr (mDf_24 _ _) (mDf_h bM)))⟩))
        · rw [Nat.zero_add, Nat.zero_add, Nat.zero_add, gR_wr_s, gR_wr_s, gR_wr_s, if_pos (by omega), if_pos (by omega), if_pos (by omega)]
          exact g7 j hj
        · unfold FM
          show gI (setI M 0 36 (nI N')) 0 20 = _ ∧ gI (setI M 0 36 (nI N')) 0 26 = _ ∧ _
          rw [gI_ne _ _ (by omega), gI_ne _ _ (by omega), gR_wr _ _ _ _ _ _ (by decide), gR_wr _ _ _ _ _ _ (by decide), gR_wr _ _ _ _ _ _ (by decide), gR_wr _ _ _ _ _ _ (by decide), gR_wr _ _ _ _ _ _ (by decide)]
          exact w4
        · rw [hR.2.1]
          exact (hM.2.1).symm
      · unfold p_X6_on_L38
        rw [ixm (y := 120) 120 k i rfl, m_cl (show 120 * k + i < 100000 by omega), m_cl (show i < 100000 by omega), nI_1]
        refine br_f (nI_ge (b := 120) hi (by decide)) ⟨26, rfl, rfl, m_in (N := 360) rfl rfl (by omega) (by decide), 24, rfl, rfl, m_in (N := 120) rfl rfl hi (by decide), ?_⟩
        have w := wr_step (setI M 0 36 (nI N')) 24 0 (fun i => gR M 26 (120 * k + i)) i
        rw [Nat.zero_add] at w
        rw [gR_wr _ _ _ _ _ 26 (by decide), gR_I, w]
        exact h
  · exact e_keptNo hk (br_t rfl (m_in_t (w := 3) (by decide) rfl (fun z => absurd z hk) (fun _ => br_t rfl ⟨rfl, hI⟩)))
/-- the model's draft becomes what was told -/
theorem m_deltaL {M1 : Sg} {F : Ds} {Q : Int32 → Sg → Prop} (hb : BV F.1 F.2) (h2 : F.1 2 = 0) (hD : DM M1 (F.1 0) (F.1 1) F.2) (h20 : gI M1 0 20 = nI (F.1 0))
    (h : ∀ M', MD M' F (fun _ => (0, 0, 0)) 0 → (∀ k, k < 12 → gR M' k = gR M1 k) → (∀ j, j < 11 → gI M' 0 j = gI M1 0 j) → (∀ k j, gJ M' k j = gJ M1 k j) → (∀ k, k < 3 → gR M' 25 k = -1) → Q (nI (F.1 0)) M') :
    ∀ r i s, i + r = 6 → (∀ k, k < 12 → gR s k = gR M1 k) → (∀ j, gI s 0 j = gI M1 0 j) → (∀ k j, gJ s k j = gJ M1 k j) → (∀ j, j < i → gR s 12 j = gR M1 8 j ∧ gR s 13 j = gR M1 10 j ∧ gR s 14 j = gR M1 9 j ∧ gR s 15 j = gR M1 11 j ∧ gR s 16 j = gR M1 7 j) → p_X6_delta_L51 Q (r + 1) 0 (nI i) s := by
  have b0 := hb.1
  intro r
  induction r with
  | zero =>
    intro i s hi g1 g2 g3 g4
    have hi6 : i = 6 := by omega
    subst hi6
    obtain ⟨d1, d2, d3, d4⟩ := hD
    unfold p_X6_delta_L51
    refine br_t (by decide) ?_
    rw [g2 11, d2]
    have hF : FM (setI (setI s 0 26 (nI (F.1 1))) 0 36 0) F := by
      refine ⟨?_, ?_, fun j hj => ?_, fun j hj => ?_⟩
      · rw [gI_ne _ _ (by omega), gI_ne _ _ (by omega), g2 20]; exact h20
      · rw [gI_ne _ _ (by omega), gI_same]
      · rw [gR_I, gR_I]
        exact (g4 j hj).2.2.2.2.trans (d3 j hj)
      · obtain ⟨k1, k2, k3, k4, k5⟩ := g4 j (by omega)
        exact ⟨k1.trans (d4 1 j (by decide) (by decide) hj), k3.trans (d4 2 j (by decide) (by decide) hj), k2.trans (d4 3 j (by decide) (by decide) hj), k4.trans (d4 4 j (by decide) (by decide) hj)⟩
    refine m_goThrough (q := fun _ => (0, 0, 0)) (N := 0) hb h2 (by decide) (fun k hk => absurd hk (Nat.not_lt_zero k)) (gI_same _ _ _ _) (fun k hk => absurd hk (Nat.not_lt_zero k)) hF (fun M' hM bM => ?_)
    refine lp_wr (fun f i s => p_X6_delta_L142 _ f 0 (nI i) s) M' 25 0 3 (fun _ => -1) (fun f => ?_) (fun f i hi h => ?_)
    · unfold p_X6_delta_L142
      refine br_t (by decide) ?_
      show Q (gI M' 0 20) _
      rw [hM.2.2.2.1]
      refine h _ (MD_k hM (by omega)) (fun k hk => ?_) (fun j hj => ?_) (fun k j => ?_) (fun k hk => ?_)
      · rw [gR_wr _ _ _ _ _ _ (by omega), bM.1 k (by omega)]
        exact g1 k hk
      · show gI M' 0 j = _
        rw [bM.2.1 j (by omega) (by omega), gI_ne _ _ (by omega), gI_ne _ _ (by omega)]
        exact g2 j
      · exact (bM.2.2 k j).trans (g3 k j)
      · rw [gR_wr_s, if_pos (by omega)]
    · unfold p_X6_delta_L142
      rw [m_cl (show i < 100000 by omega), nI_1]
      refine br_f (nI_ge (b := 3) hi (by decide)) ⟨25, rfl, rfl, m_in (N := 3) rfl rfl hi (by decide), ?_⟩
      have w := wr_step M' 25 0 (fun _ => -1) i
      rw [Nat.zero_add] at w
      rw [w]
      exact h
  | succ r ih =>
    intro i s hi g1 g2 g3 g4
    have ii : vp_in (nI i) 6 := vp_in_nI (by omega) (by decide)
    unfold p_X6_delta_L51
    rw [m_cl (show i < 100000 by omega), nI_1]
    refine br_f (nI_ge (b := 6) (by omega) (by decide)) ⟨8, rfl, rfl, ii, 12, rfl, rfl, ii, 10, rfl, rfl, ii, 13, rfl, rfl, ii, 9, rfl, rfl, ii, 14, rfl, rfl, ii, 11, rfl, rfl, ii, 15, rfl, rfl, ii, 7, rfl, rfl, ii, 16, rfl, rfl, ii, ?_⟩
    simp only [gR_if, Nat.reduceEqDiff, ↓reduceIte]
    refine ih (i + 1) _ (by omega) (fun k hk => ?_) g2 g3 (fun j hj => ?_)
    · rw [gR_ne _ _ (by omega), gR_ne _ _ (by omega), gR_ne _ _ (by omega), gR_ne _ _ (by omega), gR_ne _ _ (by omega)]
      exact g1 k hk
    · simp only [gR_if, Nat.reduceEqDiff, ↓reduceIte]
      rw [upd_if, upd_if, upd_if, upd_if, upd_if, g1 8 (by decide), g1 10 (by decide), g1 9 (by decide), g1 11 (by decide), g1 7 (by decide)]
      by_cases e : j = i
      · subst e
        rw [if_pos rfl, if_pos rfl, if_pos rfl, if_pos rfl, if_pos rfl]
        exact ⟨rfl, rfl, rfl, rfl, rfl⟩
      · rw [if_neg e, if_neg e, if_neg e, if_neg e, if_neg e]
        exact g4 j (by omega)
theorem st_delta (hI : Inv X M) (t : Int32) : p_X5_delta 0 t X (fun u X' => p_X6_delta 0 t M (fun u' M' => Z X' M' u u')) := by
  unfold p_X5_delta p_X6_delta
  by_cases hr : ok t 4
  · obtain ⟨k, hk, rfl⟩ := hr
    have hr : ok (nI k) 4 := ⟨k, hk, rfl⟩
    obtain ⟨s1, s2, s3⟩ := hI.2.2.2.1 k hk
    have hin : vp_in (nI k) (lM 5) := m_in (N := 4) rfl rfl hk (by decide)
    have hcl : (nI k).toNatClampNeg = k := m_cl (by omega)
    rcases neg_of s1 (by decide) with ⟨e1, e2, e3⟩ | ⟨n, hn, e1, e2, e3, e4⟩
    · refine x_no R2 rfl rfl hk e1 (br_f (by decide) (m_isText (fun _ => br_f (by decide) ⟨5, rfl, rfl, hin, ?_⟩) (fun z => absurd hr z)))
      rw [hcl, s2]
      exact br_f e2 (m_refuse (f := 1) rfl (by decide) ⟨rfl, Inv_found hI (by decide)⟩)
    · refine x_yes R2 rfl rfl hk hn e1 (br_t rfl (e_faultOf hI hk hn e1 rfl (fun P eP X1 rX1 => ?_) (fun eN X1 rX1 dX => br_t rfl ?_)))
      · have hP := rd_P eP
        refine br_f (n9 (show P < 1000 by omega)) ?_
        refine m_isText (fun _ => br_f (by decide) ⟨5, rfl, rfl, hin, ?_⟩) (fun z => absurd hr z)
        rw [hcl, s2]
        refine br_t e2 (m_readOf hI hk hn e1 rfl (fun P' eP' hP' M' rM' f' => br_f (by rw [f']; exact n9 hP') ⟨rfl, Inv_rd hI rX1 rM'⟩) (fun eN _ _ _ _ => absurd (eP.symm.trans eN) (fun q => by cases q)))
      · obtain ⟨rb1, rb2, rb3⟩ := rd_B eN
        generalize hF : (rd (gR X (13 + k)) n).2 = F at *
        refine ⟨17, rfl, rfl, 25, rfl, rfl, e_takeFrom isD25 isD37 (by decide) rfl (fun X2 tk => ⟨4, e_keptClear (s0 := X2) (fun X3 nk => ?_) 3 0 X2 (by omega) ⟨fun _ _ => rfl, fun _ _ _ => rfl, fun _ _ => rfl, fun c hc => absurd hc (Nat.not_lt_zero c)⟩⟩)⟩
        refine m_isText (fun _ => br_f (by decide) ⟨5, rfl, rfl, hin, ?_⟩) (fun z => absurd hr z)
        rw [hcl, s2]
        refine br_t e2 (m_readOf hI hk hn e1 rfl (fun P' eP' _ M' rM' f' => absurd (eN.symm.trans eP') (fun q => by cases q)) (fun _ M1 rM1 f' dM => br_t f' ⟨7, ?_⟩))
        rw [hF] at dM
        rw [dM.1]
        obtain ⟨t1, t2, t3⟩ := tk
        obtain ⟨n1, n2, n3, n4⟩ := nk
        obtain ⟨x0, x1, x2, x3, x4, x5⟩ := dX
        have b0 := rb1.1
        have R3 : RD X3 25 F (fun _ => (0, 0, 0)) 0 := by
          have gi : ∀ j, j < 4 → gI X3 25 j = gI X1 37 j := fun j hj => (n2 25 j (by decide)).trans (t1 j hj)
          have gr : ∀ c, c < 11 → ∀ i, i < dlen c → gR X3 (25 + 1 + c) i = gR X1 (37 + 1 + c) i := fun c hc i hi => (congrFun (n1 (25 + 1 + c) (by omega)) i).trans (t2 c hc i hi)
          refine ⟨⟨fun j hj => ?_, fun c hc i hi => ?_⟩, (gi 3 (by decide)).trans x3, fun k hk => absurd hk (Nat.not_lt_zero k)⟩
          · rw [gi j (by omega)]
            show _ = nI (F.1 j)
            rcases (show j = 0 ∨ j = 1 ∨ j = 2 by omega) with rfl | rfl | rfl
            · exact x0
            · exact x1
            · rw [rb2]; exact x2
          · have hi : rng F.1 c i := hi
            rw [gr c (by omega) i (rng_dlen rb1.1 rb1.2.2.1 hc hi)]
            show _ = nI (F.2 c i)
            rcases (show c = 0 ∨ c = 1 ∨ c = 2 ∨ c = 3 ∨ c = 4 ∨ c = 5 ∨ c = 6 ∨ c = 7 by omega) with rfl | rfl | rfl | rfl | rfl | rfl | rfl | rfl
            · exact x4 i hi
            · exact x5 1 i (by decide) (by decide) hi
            · exact x5 2 i (by decide) (by decide) hi
            · exact x5 3 i (by decide) (by decide) hi
            · exact x5 4 i (by decide) (by decide) hi
            · have hi : i < F.1 2 := hi
              omega
            · have hi : i % 6 < F.1 0 ∧ i / 6 < F.1 2 := hi
              omega
            · have hi : i % 6 < F.1 0 ∧ i / 6 < F.1 2 := hi
              omega
        refine m_deltaL (M1 := setI M1 0 20 (nI (F.1 0))) rb1 rb2 ⟨?_, ?_, dM.2.2.1, dM.2.2.2⟩ (gI_same _ _ _ _) (fun M' hM q1 q2 q3 q4 => ⟨R3.1.1 0 (by decide), ?_⟩) 6 0 _ (by omega) (fun _ _ => rfl) (fun _ => rfl) (fun _ _ => rfl) (fun j hj => absurd hj (Nat.not_lt_zero j))
        · rw [gI_ne _ _ (by omega)]; exact dM.1
        · rw [gI_ne _ _ (by omega)]; exact dM.2.1
        · refine Inv_deed hI (fun c hc => (n1 c (by omega)).trans ((t3.1 c (by omega)).trans (rX1.1 c (by omega)))) (fun j => (n2 0 j (by decide)).trans ((t3.2.1 0 j (by decide)).trans (rX1.2.1 0 j (by decide) (by decide)))) (fun c j => (n3 c j).trans ((t3.2.2.1 c j).trans (rX1.2.2 c j))) (fun c hc => (q1 c (by omega)).trans (rM1.1 c (by omega))) (fun j hj => (q2 j hj).trans ((gI_ne _ _ (by omega)).trans (rM1.2.1 j (by omega) (by omega) (by omega) (by omega) (by omega)))) (fun c j => (q3 c j).trans (rM1.2.2 c j)) ⟨F, _, 0, rb1, rb2, by decide, fun k hk => absurd hk (Nat.not_lt_zero k), R3, hM, fun c hc => Or.inl ⟨q4 c hc, n4 c hc⟩⟩
  · exact x_bad R2 rfl hr (br_f (by decide) (m_isText (fun z => absurd z hr) (fun _ => br_t rfl ⟨rfl, hI⟩)))
end UKO
