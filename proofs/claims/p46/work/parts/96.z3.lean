/-! the delta of the law's own text -/
def txT (j : Nat) : Nat := ([100, 51, 52, 53, 48, 48, 48, 50, 32, 98, 48, 53, 49, 32, 108, 49, 57, 50, 32, 103, 51, 51, 48, 118, 51, 56, 48, 32, 97, 49, 53, 51] : List Nat).getD j 32
def T0 (j : Nat) : Int32 := nI (txT j)
section CGR
variable {T T' : Nat → Int32} {n : Nat}
theorem fg_cg (h : ∀ j, j < n → T j = T' j) (lo hi p : Nat) : fg T n lo hi p = fg T' n lo hi p := by
  unfold fg
  by_cases c : p < n
  · rw [h p c]
  · rw [if_neg (fun z => c z.1), if_neg (fun z => c z.1)]
theorem sk_cg (h : ∀ j, j < n → T j = T' j) : ∀ f p, sk T n f p = sk T' n f p
  | 0, p => rfl
  | f + 1, p => by
    unfold sk
    by_cases c : p < n
    · rw [h p c, sk_cg h f (p + 1)]
    · rw [if_neg (fun z => c z.1), if_neg (fun z => c z.1)]
theorem skp_cg (h : ∀ j, j < n → T j = T' j) (p : Nat) : skp T n p = skp T' n p := sk_cg h 60 p
theorem lf_cg (h : ∀ j, j < n → T j = T' j) (p : Nat) : ∀ i, lf T n p i = lf T' n p i
  | 0 => rfl
  | i + 1 => by rw [lf_succ, lf_succ, lf_cg h p i, fg_cg h]
theorem letp_cg (h : ∀ j, j < n → T j = T' j) (p : Nat) : letp T n p = letp T' n p := by
  unfold letp
  by_cases c : p < n
  · rw [if_pos c, if_pos c, h p c]
  · rw [if_neg c, if_neg c]
theorem wm_cg (h : ∀ j, j < n → T j = T' j) : ∀ f i p a, wm T n f i p a = wm T' n f i p a
  | 0, i, p, a => rfl
  | f + 1, i, p, a => by
    unfold wm
    by_cases c : p < n ∨ i = 0
    · rw [if_pos c, if_pos c, letp_cg h p]
      cases letp T' n p with
      | none => rfl
      | some k =>
        simp only []
        rw [fg_cg h 0 5 (p + 1)]
        cases fg T' n 0 5 (p + 1) with
        | none => rfl
        | some pl =>
          simp only []
          rw [fg_cg h 1 9 (p + 2)]
          cases fg T' n 1 9 (p + 2) with
          | none => rfl
          | some ta =>
            simp only []
            rw [fg_cg h 0 3 (p + 3)]
            cases fg T' n 0 3 (p + 3) with
            | none => rfl
            | some tu =>
              simp only []
              rw [skp_cg h (p + 4), wm_cg h f]
    · rw [if_neg c, if_neg c]
theorem rd_cg (h : ∀ j, j < n → T j = T' j) : rd T n = rd T' n := by
  simp only [rd, skp_cg h, lf_cg h, wm_cg h]
  by_cases c : skp T' n 0 < n
  · rw [h _ c]
  · rw [if_neg (fun z => c z.1), if_neg (fun z => c z.1)]
end CGR
theorem rd_T0 : (rd T0 32).1 = none ∧ (rd T0 32).2.1 0 = 5 := by decide +kernel
section DL5
variable {X M : Sg} {Q : Int32 → Sg → Prop}
set_option maxHeartbeats 1000000 in
theorem x_delta5 (hI : Inv X M) (hz : gR X 11 0 = nI 32) (hT : ∀ j, j < 32 → gR X 13 j = T0 j) (h : ∀ X', (∀ R : Int32 → Sg → Prop, (∀ M', gI M' 0 20 = 5 → Inv X' M' → R 5 M') → p_X6_delta 0 0 M R) → Q 5 X') : p_X5_delta 0 0 X Q := by
  have eN : (rd (gR X (13 + 0)) 32).1 = none := by rw [show 13 + 0 = 13 from rfl, rd_cg hT]; exact rd_T0.1
  have e5 : (rd (gR X (13 + 0)) 32).2.1 0 = 5 := by rw [show 13 + 0 = 13 from rfl, rd_cg hT]; exact rd_T0.2
  have hk : 0 < 4 := by decide
  have hn : 32 ≤ 60 := by decide
  have e1 : gR X (10 + 1) 0 = nI 32 := hz
  obtain ⟨s1, s2, s3⟩ := hI.2.2.2.1 0 hk
  have hin : vp_in (nI 0) (lM 5) := m_in (N := 4) rfl rfl hk (by decide)
  have hcl : (nI 0).toNatClampNeg = 0 := m_cl (by omega)
  have hr : ok (nI 0) 4 := ⟨0, hk, rfl⟩
  have e2 : ¬ gR X (10 + 1) 0 < 0 := by rw [e1]; exact nI_pos (by decide)
  rw [show (0 : Int32) = nI 0 from rfl]
  unfold p_X5_delta
  refine x_yes R2 rfl rfl hk hn e1 (br_t rfl (e_faultOf hI hk hn e1 rfl (fun P eP X1 rX1 => absurd (eN.symm.trans eP) (fun q => by cases q)) (fun eN X1 rX1 dX => br_t rfl ?_)))
  obtain ⟨rb1, rb2, rb3⟩ := rd_B eN
  generalize hF : (rd (gR X (13 + 0)) 32).2 = F at *
  refine ⟨17, rfl, rfl, 25, rfl, rfl, e_takeFrom isD25 isD37 (by decide) rfl (fun X2 tk => ⟨4, e_keptClear (s0 := X2) (fun X3 nk => ?_) 3 0 X2 (by omega) ⟨fun _ _ => rfl, fun _ _ _ => rfl, fun _ _ => rfl, fun c hc => absurd hc (Nat.not_lt_zero c)⟩⟩)⟩
  obtain ⟨t1, t2, t3⟩ := tk
  obtain ⟨n1, n2, n3, n4⟩ := nk
  obtain ⟨x0, x1, x2, x3, x4, x5⟩ := dX
  have b0 := rb1.1
  have R3 : RD X3 25 F (fun _ => (0, 0, 0)) 0 := by
    have gi : ∀ j, j < 4 → gI X3 25 j = gI X1 37 j := fun j hj => (n2 25 j (by decide)).trans (t1 j hj)
    have gr : ∀ c, c < 11 → ∀ i, i < dlen c → gR X3 (25 + 1 + c) i = gR X1 (37 + 1 + c) i := fun c hc i hi => (congrFun (n1 (25 + 1 + c) (by omega)) i).trans (t2 c hc i hi)
    refine ⟨⟨fun j hj => ?_, fun c hc i hi => ?_⟩, (gi 3 (by decide)).trans x3, fun k hk => absurd hk (Nat.not_lt_zero k)⟩
    · rw [gi j (by omega)]
      show _ = nI (F.1 j)
      rcases (show j = 0 ∨ j = 1 ∨ j = 2 by omega) with rfl | rfl | rfl
      · exact x0
      · exact x1
      · rw [rb2]; exact x2
    · have hi : rng F.1 c i := hi
      rw [gr c (by omega) i (rng_dlen rb1.1 rb1.2.2.1 hc hi)]
      show _ = nI (F.2 c i)
      rcases (show c = 0 ∨ c = 1 ∨ c = 2 ∨ c = 3 ∨ c = 4 ∨ c = 5 ∨ c = 6 ∨ c = 7 by omega) with rfl | rfl | rfl | rfl | rfl | rfl | rfl | rfl
      · exact x4 i hi
      · exact x5 1 i (by decide) (by decide) hi
      · exact x5 2 i (by decide) (by decide) hi
      · exact x5 3 i (by decide) (by decide) hi
      · exact x5 4 i (by decide) (by decide) hi
      · have hi : i < F.1 2 := hi
        omega
      · have hi : i % 6 < F.1 0 ∧ i / 6 < F.1 2 := hi
        omega
      · have hi : i % 6 < F.1 0 ∧ i / 6 < F.1 2 := hi
        omega
  have u5 : gI X3 25 0 = 5 := by
    have := R3.1.1 0 (by decide)
    rw [show (rp F (fun _ => (0, 0, 0)) 0).1 0 = 5 from e5] at this
    exact this
  rw [u5]
  refine h X3 (fun R hR => ?_)
  rw [show (0 : Int32) = nI 0 from rfl]
  unfold p_X6_delta
  refine m_isText (fun _ => br_f (by decide) ⟨5, rfl, rfl, hin, ?_⟩) (fun z => absurd hr z)
  rw [hcl, s2]
  refine br_t ?_ (m_readOf hI hk hn e1 rfl (fun P' eP' _ M' rM' f' => absurd (eN.symm.trans eP') (fun q => by cases q)) (fun _ M1 rM1 f' dM => br_t f' ⟨7, ?_⟩))
  · rw [e1]; exact nI_pos' (by decide)
  rw [hF] at dM
  rw [dM.1]
  refine m_deltaL (M1 := setI M1 0 20 (nI (F.1 0))) rb1 rb2 ⟨?_, ?_, dM.2.2.1, dM.2.2.2⟩ (gI_same _ _ _ _) (fun M' hM q1 q2 q3 q4 => ?_) 6 0 _ (by omega) (fun _ _ => rfl) (fun _ => rfl) (fun _ _ => rfl) (fun j hj => absurd hj (Nat.not_lt_zero j))
  · rw [gI_ne _ _ (by omega)]; exact dM.1
  · rw [gI_ne _ _ (by omega)]; exact dM.2.1
  · rw [e5]
    refine hR M' ?_ ?_
    · have := hM.1.1
      rw [show (rp F (fun _ => (0, 0, 0)) 0).1 0 = 5 from e5] at this
      exact this
    · exact Inv_deed hI (fun c hc => (n1 c (by omega)).trans ((t3.1 c (by omega)).trans (rX1.1 c (by omega)))) (fun j => (n2 0 j (by decide)).trans ((t3.2.1 0 j (by decide)).trans (rX1.2.1 0 j (by decide) (by decide)))) (fun c j => (n3 c j).trans ((t3.2.2.1 c j).trans (rX1.2.2 c j))) (fun c hc => (q1 c (by omega)).trans (rM1.1 c (by omega))) (fun j hj => (q2 j hj).trans ((gI_ne _ _ (by omega)).trans (rM1.2.1 j (by omega) (by omega) (by omega) (by omega) (by omega)))) (fun c j => (q3 c j).trans (rM1.2.2 c j)) ⟨F, _, 0, rb1, rb2, by decide, fun k hk => absurd hk (Nat.not_lt_zero k), R3, hM, fun c hc => Or.inl ⟨q4 c hc, n4 c hc⟩⟩
/-- the plain state with the law's text -/
def eM (M : Sg) : Sg := setR (setR M 5 (upd (gR M 5) 0 (nI 32))) 4 (fun i => if i < 60 then T0 i else gR M 4 i)
theorem T0_rg : ∀ j, j < 60 → -128 ≤ (T0 j).toInt ∧ (T0 j).toInt ≤ 127 := by decide +kernel
theorem T0_hi : ∀ j, j < 60 → ¬ j < 32 → T0 j = 32 := by decide +kernel
theorem tJ (j : Nat) (hj : j < 60) : (if j < 32 then T0 j else 32) = T0 j := by
  by_cases c : j < 32
  · rw [if_pos c]
  · rw [if_neg c]
    exact (T0_hi j hj c).symm
theorem Inv_eM {X' : Sg} (hI : Inv X M) (g1 : gI X' = gI X) (g2 : gJ X' = gJ X) (g4 : ∀ c, c ≠ 11 → c ≠ 13 → gR X' c = gR X c) (g5 : gR X' 11 = upd (gR X 11) 0 (nI 32)) (g6 : ∀ j, j < 60 → gR X' 13 j = T0 j) : Inv X' (eM M) := by
  refine Inv_texts hI ⟨by rw [g1], g4 24 (by decide) (by decide)⟩ ⟨by rw [g1], by rw [g2], by rw [g2]⟩ (fun c h1 h2 => g4 c (by omega) (by omega)) ⟨fun c hc => g4 c (by omega) (by omega), fun c j _ => by rw [g1]⟩ ⟨rfl, ?_⟩ ⟨rfl, rfl, rfl⟩ ?_ ?_ ⟨fun c h1 h2 => ?_, rfl, rfl, rfl, rfl, rfl⟩ (fun k hk => ?_) (fun k i hk hi => ?_)
  · unfold eM; rw [gR_ne _ _ (by decide), gR_ne _ _ (by decide)]
  · unfold eM; rw [gR_ne _ _ (by decide), gR_ne _ _ (by decide)]
  · unfold eM; rw [gR_ne _ _ (by decide), gR_ne _ _ (by decide)]
  · unfold eM; rw [gR_ne _ _ (by omega), gR_ne _ _ (by omega)]
  · obtain ⟨o1, o2, o3⟩ := hI.2.2.2.1 k hk
    have o1 : szOk 60 (gR X 11 k) := o1
    have o2 : gR M 5 k = gR X 11 k := o2
    show szOk 60 (gR X' 11 k) ∧ gR (eM M) 5 k = gR X' 11 k ∧ ∀ i, i < 60 → gR (eM M) 4 (60 * k + i) = gR X' (10 + 3 + k) i
    unfold eM
    rw [gR_ne (a := 5) _ _ (by decide), gR_same, gR_same, g5, upd_if, upd_if]
    by_cases e : k = 0
    · subst e
      rw [if_pos rfl, if_pos rfl]
      refine ⟨Or.inr ⟨32, by decide, rfl⟩, rfl, fun i hi => ?_⟩
      rw [if_pos (by omega), show 60 * 0 + i = i by omega]
      exact (g6 i hi).symm
    · rw [if_neg e, if_neg e]
      refine ⟨o1, o2, fun i hi => ?_⟩
      rw [if_neg (by omega), g4 (10 + 3 + k) (by omega) (by omega)]
      exact o3 i hi
  · by_cases e : k = 0
    · subst e
      rw [show 13 + 0 = 13 from rfl, g6 i hi]
      exact T0_rg i hi
    · rw [g4 (13 + k) (by omega) (by omega)]
      exact hI.2.2.2.2.1 k i hk hi
theorem x_text0 (h : ∀ X', gI X' = gI X → gJ X' = gJ X → (∀ c, c ≠ 11 → c ≠ 13 → gR X' c = gR X c) → gR X' 11 = upd (gR X 11) 0 (nI 32) → (∀ j, j < 60 → gR X' 13 j = 32) → Q 32 X') : p_X5_text 0 0 32 X Q := by
  unfold p_X5_text p_X5_makeItem
  refine ⟨10, rfl, rfl, s_isNumber R2 (fun _ => br_f (by decide) (br_t (by decide) (br_t (by decide) ⟨10, rfl, rfl, s_make R2 (k := 0) (n := 32) rfl (by decide) (by decide) rfl (fun X' g1 g2 g3 g4 g5 g6 => ?_)⟩))) (fun z => absurd ⟨0, by decide, rfl⟩ z)⟩
  exact h X' g1 g2 (fun c h1 h2 => g4 c h1 h2) g5 g6
theorem by8 : ∀ c, c < 128 → (nI c).toInt8.toInt32 = nI c := by decide +kernel
/-- what is put at j, where blanks were -/
def pX (X : Sg) (j c : Nat) : Sg := setR X 13 (upd (gR X 13) j (nI c))
theorem x_put0 (hz : gR X 11 0 = nI 32) {j c : Nat} {x v : Int32} (ex : x = nI j) (ev : v = nI c) (hj : j < 32) (hc : c < 128) (ho : gR X 13 j = 32) (h : Q 1032 (pX X j c)) : p_X5_put 0 0 x v X Q := by
  subst ex ev
  have e1 : gR X (10 + 1) 0 = nI 32 := hz
  unfold p_X5_put
  refine y_yes R2 rfl rfl (show 0 < 4 by decide) (show 32 ≤ 60 by decide) e1 ⟨j, hj, rfl⟩ (br_t rfl ⟨10, rfl, rfl, s_cell R2 rfl (show 0 < 4 by decide) (show 32 ≤ 60 by decide) e1 rfl hj ⟨10, rfl, rfl, s_setCell R2 rfl (show 0 < 4 by decide) (show 32 ≤ 60 by decide) e1 rfl hj ?_⟩⟩)
  rw [by8 c hc]
  have e : gR X (10 + 3 + 0) j + 1000 = 1032 := by
    rw [show 10 + 3 + 0 = 13 from rfl, ho]
    decide
  rw [e]
  exact h
/-- j signs are put -/
def pJ (X : Sg) (j : Nat) (X' : Sg) : Prop := gI X' = gI X ∧ gJ X' = gJ X ∧ (∀ c, c ≠ 11 → c ≠ 13 → gR X' c = gR X c) ∧ gR X' 11 = upd (gR X 11) 0 (nI 32) ∧ ∀ i, i < 60 → gR X' 13 i = if i < j then T0 i else 32
theorem pJ_step {X X' : Sg} {j : Nat} (hj : j < 32) (h : pJ X j X') : pJ X (j + 1) (pX X' j (txT j)) := by
  obtain ⟨h1, h2, h3, h4, h5⟩ := h
  refine ⟨h1, h2, fun c c1 c2 => ?_, ?_, fun i hi => ?_⟩
  · unfold pX; rw [gR_ne _ _ c2]; exact h3 c c1 c2
  · unfold pX; rw [gR_ne _ _ (by decide)]; exact h4
  · unfold pX
    rw [gR_same, upd_if]
    by_cases e : i = j
    · subst e
      rw [if_pos rfl, if_pos (by omega)]
      rfl
    · rw [if_neg e, h5 i hi]
      by_cases e2 : i < j
      · rw [if_pos e2, if_pos (by omega)]
      · rw [if_neg e2, if_neg (by omega)]
theorem txT_lt : ∀ j, j < 32 → txT j < 128 := by decide +kernel
theorem pj_put {X X' : Sg} {j : Nat} (hj : j < 32) (h : pJ X j X') {x v : Int32} (ex : x = nI j) (ev : v = nI (txT j)) (hQ : ∀ X2, pJ X (j + 1) X2 → Q 1032 X2) : p_X5_put 0 0 x v X' Q := by
  refine x_put0 ?_ ex ev hj (txT_lt j hj) ?_ (hQ _ (pJ_step hj h))
  · rw [h.2.2.2.1, upd_s]
  · rw [h.2.2.2.2 j (by omega), if_neg (by omega)]
set_option maxHeartbeats 4000000 in
set_option maxRecDepth 100000 in
theorem xl_delta (hI : Inv X M) (h : ∀ X', (∀ R : Int32 → Sg → Prop, (∀ M', gI M' 0 20 = 5 → Inv X' M' → R 5 M') → p_X6_delta 0 0 (eM M) R) → Q 1 X') : p_L_delta (some 0) X Q := by
  unfold p_L_delta
  exact ⟨0, rfl, rfl, x_text0 (fun X1 g1 g2 g3 g4 g5 => br_t rfl (have q0 : pJ X 0 X1 := ⟨g1, g2, g3, g4, fun i hi => by rw [if_neg (Nat.not_lt_zero i)]; exact g5 i hi⟩; ⟨0, rfl, rfl, pj_put (by decide) q0 rfl rfl (fun _ q1 => br_t rfl ⟨0, rfl, rfl, pj_put (by decide) q1 rfl rfl (fun _ q2 => br_t rfl ⟨0, rfl, rfl, pj_put (by decide) q2 rfl rfl (fun _ q3 => br_t rfl ⟨0, rfl, rfl, pj_put (by decide) q3 rfl rfl (fun _ q4 => br_t rfl ⟨0, rfl, rfl, pj_put (by decide) q4 rfl rfl (fun _ q5 => br_t rfl ⟨0, rfl, rfl, pj_put (by decide) q5 rfl rfl (fun _ q6 => br_t rfl ⟨0, rfl, rfl, pj_put (by decide) q6 rfl rfl (fun _ q7 => br_t rfl ⟨0, rfl, rfl, pj_put (by decide) q7 rfl rfl (fun _ q8 => br_t rfl ⟨0, rfl, rfl, pj_put (by decide) q8 rfl rfl (fun _ q9 => br_t rfl ⟨0, rfl, rfl, pj_put (by decide) q9 rfl rfl (fun _ q10 => br_t rfl ⟨0, rfl, rfl, pj_put (by decide) q10 rfl rfl (fun _ q11 => br_t rfl ⟨0, rfl, rfl, pj_put (by decide) q11 rfl rfl (fun _ q12 => br_t rfl ⟨0, rfl, rfl, pj_put (by decide) q12 rfl rfl (fun _ q13 => br_t rfl ⟨0, rfl, rfl, pj_put (by decide) q13 rfl rfl (fun _ q14 => br_t rfl ⟨0, rfl, rfl, pj_put (by decide) q14 rfl rfl (fun _ q15 => br_t rfl ⟨0, rfl, rfl, pj_put (by decide) q15 rfl rfl (fun _ q16 => br_t rfl ⟨0, rfl, rfl, pj_put (by decide) q16 rfl rfl (fun _ q17 => br_t rfl ⟨0, rfl, rfl, pj_put (by decide) q17 rfl rfl (fun _ q18 => br_t rfl ⟨0, rfl, rfl, pj_put (by decide) q18 rfl rfl (fun _ q19 => br_t rfl ⟨0, rfl, rfl, pj_put (by decide) q19 rfl rfl (fun _ q20 => br_t rfl ⟨0, rfl, rfl, pj_put (by decide) q20 rfl rfl (fun _ q21 => br_t rfl ⟨0, rfl, rfl, pj_put (by decide) q21 rfl rfl (fun _ q22 => br_t rfl ⟨0, rfl, rfl, pj_put (by decide) q22 rfl rfl (fun _ q23 => br_t rfl ⟨0, rfl, rfl, pj_put (by decide) q23 rfl rfl (fun _ q24 => br_t rfl ⟨0, rfl, rfl, pj_put (by decide) q24 rfl rfl (fun _ q25 => br_t rfl ⟨0, rfl, rfl, pj_put (by decide) q25 rfl rfl (fun _ q26 => br_t rfl ⟨0, rfl, rfl, pj_put (by decide) q26 rfl rfl (fun _ q27 => br_t rfl ⟨0, rfl, rfl, pj_put (by decide) q27 rfl rfl (fun _ q28 => br_t rfl ⟨0, rfl, rfl, pj_put (by decide) q28 rfl rfl (fun _ q29 => br_t rfl ⟨0, rfl, rfl, pj_put (by decide) q29 rfl rfl (fun _ q30 => br_t rfl ⟨0, rfl, rfl, pj_put (by decide) q30 rfl rfl (fun _ q31 => br_t rfl ⟨0, rfl, rfl, pj_put (by decide) q31 rfl rfl (fun _ q32 => br_t rfl ⟨0, rfl, rfl, x_delta5 (Inv_eM hI q32.1 q32.2.1 q32.2.2.1 q32.2.2.2.1 (fun j hj => (q32.2.2.2.2 j hj).trans (tJ j hj))) (by rw [q32.2.2.2.1, upd_s]) (fun j hj => by rw [q32.2.2.2.2 j (by omega), if_pos hj]) (fun X' hX => br_t rfl (h X' hX))⟩)⟩)⟩)⟩)⟩)⟩)⟩)⟩)⟩)⟩)⟩)⟩)⟩)⟩)⟩)⟩)⟩)⟩)⟩)⟩)⟩)⟩)⟩)⟩)⟩)⟩)⟩)⟩)⟩)⟩)⟩)⟩)⟩))⟩
theorem x_count2 (hI : Inv X M) (h : Q (gI M 0 36) X) : p_X5_count 0 2 X Q := by
  obtain ⟨F, q, N, hC⟩ := hI.2.2.2.2.2
  refine x_count hC ?_
  have e : cntV X M (rp F q N).1 (rp F q N).2 N 2 = gI M 0 36 := by
    rw [(IC_now hC).2.2.2.2]
    unfold cntV
    rw [if_neg (by decide), if_neg (by decide), if_pos rfl]
  rw [e]
  exact h
end DL5
