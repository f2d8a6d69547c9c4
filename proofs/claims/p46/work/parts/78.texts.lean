/-! copy, mean, texts, what is told -/
theorem sub31 {a b : Nat} (ha : a < 2 ^ 31) (hb : b < 2 ^ 31) : (nI a - nI b).toInt = (a : Int) - b := by
  rw [Int32.toInt_sub, nI_toInt (by omega), nI_toInt (by omega)]
  exact Int.bmod_eq_of_le (by omega) (by omega)
/-- the model's test of a stretch of c cells -/
theorem m_in_st {x hi : Int32} {n c : Nat} {s : Sg} {Q : Int32 → Sg → Prop} (hn : n < 2 ^ 31) (hc : c < 2 ^ 31) (he : hi = nI n - nI c) (ht : (∃ j, j + c ≤ n ∧ x = nI j) → Q 1 s) (hf : ¬ (∃ j, j + c ≤ n ∧ x = nI j) → Q 0 s) : p_X6_in x 0 hi s Q := by
  subst he
  refine ⟨fun q => hf (fun ⟨j, h1, h2⟩ => nI_pos (by omega) (h2 ▸ q)), fun q => ?_⟩
  obtain ⟨j, hj, rfl⟩ := nI_of q
  have e : (nI n - nI c < nI j) ↔ n < j + c := by
    rw [Int32.lt_iff_toInt_lt, sub31 hn hc, nI_toInt hj]
    omega
  refine ⟨fun q2 => hf (fun ⟨j', h1, h2⟩ => ?_), fun q2 => ht ⟨j, ?_, rfl⟩⟩
  · have := nI_inj hj (by omega) h2
    have := e.mp q2
    omega
  · apply Classical.byContradiction
    intro z
    exact q2 (e.mpr (by omega))
theorem ixc (k j i : Nat) : 40 * nI k + nI j + nI i = nI (40 * k + j + i) := by rw [ixm (y := 40) 40 k j rfl, nI_add]
section TXT
variable {X M : Sg}
theorem st_copy (hI : Inv X M) (r i to j n : Int32) : p_X5_copy 0 r i to j n X (fun u X' => p_X6_copy 0 r i to j n M (fun u' M' => Z X' M' u u')) := by
  unfold p_X5_copy p_X6_copy
  refine ⟨1, rfl, rfl, s_isNumber R1 (fun hr => br_f (by decide) ⟨1, rfl, rfl, s_isNumber R1 (fun ht => br_f (by decide) ?_) (fun ht => br_t rfl ?_)⟩) (fun hr => br_t rfl (m_isRow (fun z => absurd z hr) (fun _ => br_t rfl ⟨rfl, hI⟩)))⟩
  rotate_left
  · exact m_isRow (fun _ => br_f (by decide) (m_isRow (fun z => absurd z ht) (fun _ => br_t rfl ⟨rfl, hI⟩))) (fun z => absurd hr z)
  have hr' := hr
  have ht' := ht
  obtain ⟨k, hk, rfl⟩ := hr
  obtain ⟨t, ht, rfl⟩ := ht
  by_cases hn : 0 ≤ n
  rotate_left
  · exact br_f hn (e_found (f := 5) rfl (by decide) (m_isRow (fun _ => br_f (by decide) (m_isRow (fun _ => br_f (by decide) (br_f hn (m_refuse (f := 5) rfl (by decide) ⟨rfl, Inv_found hI (by decide)⟩))) (fun z => absurd ht' z))) (fun z => absurd hr' z)))
  obtain ⟨c, hc, rfl⟩ := nI_of (x := n) (fun q => by rw [Int32.lt_iff_toInt_lt] at q; rw [Int32.le_iff_toInt_le] at hn; omega)
  obtain ⟨a1, a2, a3⟩ := hI.2.2.1 k hk
  obtain ⟨b1, b2, b3⟩ := hI.2.2.1 t ht
  have ik : vp_in (nI k) (lM 3) := m_in (N := 6) rfl rfl hk (by decide)
  have it : vp_in (nI t) (lM 3) := m_in (N := 6) rfl rfl ht (by decide)
  have ck : (nI k).toNatClampNeg = k := m_cl (by omega)
  have ct : (nI t).toNatClampNeg = t := m_cl (by omega)
  have miss : Z (foundX X 1) (foundM M 1) (-3) (-3) := ⟨rfl, Inv_found hI (by decide)⟩
  have off : Z (foundX X 2) (foundM M 2) (-3) (-3) := ⟨rfl, Inv_found hI (by decide)⟩
  refine br_t hn ⟨1, rfl, rfl, ?_⟩
  rcases neg_of a1 (by decide) with ⟨e1, e2, e3⟩ | ⟨n1, h1, e1, e2, e3, e4⟩
  · refine s_isThere R1 rfl hk (fun z => absurd e1 z) (fun _ => br_t rfl (e_found (f := 1) rfl (by decide) (m_isRow (fun _ => br_f (by decide) (m_isRow (fun _ => br_f (by decide) (br_t hn ⟨3, rfl, rfl, ik, ?_⟩)) (fun z => absurd ht' z))) (fun z => absurd hr' z))))
    rw [ck, a2]
    exact br_t e3 (m_refuse (f := 1) rfl (by decide) miss)
  refine s_isThere R1 rfl hk (fun _ => br_f (by decide) ⟨1, rfl, rfl, ?_⟩) (fun z => absurd z e4)
  rcases neg_of b1 (by decide) with ⟨f1, f2, f3⟩ | ⟨n2, h2, f1, f2, f3, f4⟩
  · refine s_isThere R1 rfl ht (fun z => absurd f1 z) (fun _ => br_t rfl (e_found (f := 1) rfl (by decide) (m_isRow (fun _ => br_f (by decide) (m_isRow (fun _ => br_f (by decide) (br_t hn ⟨3, rfl, rfl, ik, ?_⟩)) (fun z => absurd ht' z))) (fun z => absurd hr' z))))
    rw [ck, ct, a2]
    exact br_f e3 ⟨3, rfl, rfl, it, br_f (by rw [b2]; exact f2) (m_refuse (f := 1) rfl (by decide) miss)⟩
  refine s_isThere R1 rfl ht (fun _ => br_f (by decide) ⟨1, rfl, rfl, ?_⟩) (fun z => absurd z f4)
  refine s_hasStretch R1 rfl hk h1 e1 hc rfl (fun hs => br_f (by decide) ⟨1, rfl, rfl, ?_⟩) (fun hs => br_t rfl (e_found (f := 2) rfl (by decide) (m_isRow (fun _ => br_f (by decide) (m_isRow (fun _ => br_f (by decide) (br_t hn ⟨3, rfl, rfl, ik, ?_⟩)) (fun z => absurd ht' z))) (fun z => absurd hr' z))))
  rotate_left
  · rw [ck, ct, a2]
    exact br_f e3 ⟨3, rfl, rfl, it, br_t (by rw [b2]; exact f2) ⟨3, rfl, rfl, ik, m_in_st (n := n1) (by omega) hc (by rw [a2, e1]) (fun z => absurd z hs) (fun _ => br_t rfl (m_refuse (f := 2) rfl (by decide) off))⟩⟩
  refine s_hasStretch R1 rfl ht h2 f1 hc rfl (fun hs2 => br_f (by decide) ⟨1, rfl, rfl, ?_⟩) (fun hs2 => br_t rfl (e_found (f := 2) rfl (by decide) (m_isRow (fun _ => br_f (by decide) (m_isRow (fun _ => br_f (by decide) (br_t hn ⟨3, rfl, rfl, ik, ?_⟩)) (fun z => absurd ht' z))) (fun z => absurd hr' z))))
  rotate_left
  · rw [ck, ct, a2]
    refine br_f e3 ⟨3, rfl, rfl, it, br_t (by rw [b2]; exact f2) ⟨3, rfl, rfl, ik, m_in_st (n := n1) (by omega) hc (by rw [a2, e1]) (fun _ => br_f (by decide) ⟨3, rfl, rfl, it, ?_⟩) (fun z => absurd hs z)⟩⟩
    rw [b2]
    exact m_in_st (n := n2) (by omega) hc (by rw [f1]) (fun z => absurd z hs2) (fun _ => br_t rfl (m_refuse (f := 2) rfl (by decide) off))
  obtain ⟨j1, g1, rfl⟩ := hs
  obtain ⟨j2, g2, rfl⟩ := hs2
  refine s_copyCells R1 rfl hk h1 e1 rfl ht h2 f1 rfl rfl g1 rfl g2 (m_isRow (fun _ => br_f (by decide) (m_isRow (fun _ => br_f (by decide) (br_t hn ⟨3, rfl, rfl, ik, ?_⟩)) (fun z => absurd ht' z))) (fun z => absurd hr' z))
  rw [ck, ct, a2]
  refine br_f e3 ⟨3, rfl, rfl, it, br_t (by rw [b2]; exact f2) ⟨3, rfl, rfl, ik, m_in_st (n := n1) (by omega) hc (by rw [a2, e1]) (fun _ => br_f (by decide) ⟨3, rfl, rfl, it, ?_⟩) (fun z => absurd ⟨j1, g1, rfl⟩ z)⟩⟩
  rw [b2]
  refine m_in_st (n := n2) (by omega) hc (by rw [f1]) (fun _ => br_f (by decide) ?_) (fun z => absurd ⟨j2, g2, rfl⟩ z)
  refine lp_wr (fun f i s => p_X6_copy_L95 _ f 0 (nI k) (nI j1) (nI t) (nI j2) (nI c) (nI i) s) M 6 0 c (fun i => gR M 2 (40 * k + j1 + i)) (fun f => ?_) (fun f i hi h => ?_)
  · unfold p_X6_copy_L95
    refine br_t (nI_le (Nat.le_refl _) hc) ?_
    refine lp_wr (fun f i s => p_X6_copy_L132 _ f 0 (nI t) (nI j2) (nI c) (nI i) s) _ 2 (40 * t + j2) c (fun i => gR M 2 (40 * k + j1 + i)) (fun f => ?_) (fun f i hi h => ?_)
    · unfold p_X6_copy_L132
      refine br_t (nI_le (Nat.le_refl _) hc) ⟨rfl, ?_⟩
      refine Inv_rows hI ⟨rfl, gR_ne _ _ (by omega)⟩ ⟨rfl, rfl, rfl⟩ (fun c h1 h2 => gR_ne _ _ (by omega)) ⟨fun c hc => gR_ne _ _ (by omega), fun _ _ _ => rfl⟩ ⟨rfl, ?_⟩ ⟨rfl, rfl, rfl⟩ ?_ ?_ ⟨fun c h1 h2 => ?_, rfl, rfl, rfl, rfl, rfl⟩ (fun a ha => ?_)
      · rw [gR_wr _ _ _ _ _ _ (by decide), gR_wr _ _ _ _ _ _ (by decide)]
      · rw [gR_wr _ _ _ _ _ _ (by decide), gR_wr _ _ _ _ _ _ (by decide)]
      · rw [gR_wr _ _ _ _ _ _ (by decide), gR_wr _ _ _ _ _ _ (by decide)]
      · rw [gR_wr _ _ _ _ _ _ (by omega), gR_wr _ _ _ _ _ _ (by omega)]
      · obtain ⟨s1, s2, s3⟩ := hI.2.2.1 a ha
        rw [gR_ne _ _ (by omega), gR_wr _ _ _ _ _ _ (by decide), gR_wr _ _ _ _ _ _ (by decide)]
        refine ⟨s1, s2, fun i hi => ?_⟩
        rw [gR_wr_s, gR_wr _ _ _ _ _ _ (by decide)]
        by_cases e : a = t
        · subst e
          rw [gR_same]
          by_cases z : j2 ≤ i ∧ i < j2 + c
          · rw [if_pos (by omega), pk_cpy_in z.1 z.2]
            have := a3 (j1 + (i - j2)) (by omega)
            rw [← this]
            congr 1
            omega
          · rw [if_neg (by omega), pk_cpy_out (by omega)]
            exact s3 i hi
        · rw [gR_ne _ _ (by omega), if_neg (by omega)]
          exact s3 i hi
    · unfold p_X6_copy_L132
      rw [ixc t j2 i, m_cl (show 40 * t + j2 + i < 100000 by omega), m_cl (show i < 100000 by omega), nI_1]
      refine br_f (nI_ge hi hc) ⟨6, rfl, rfl, m_in (N := 40) rfl rfl (by omega) (by decide), 2, rfl, rfl, m_in (N := 240) rfl rfl (by omega) (by decide), ?_⟩
      have e : gR (wr (wr M 6 0 (fun i => gR M 2 (40 * k + j1 + i)) c) 2 (40 * t + j2) (fun i => gR M 2 (40 * k + j1 + i)) i) 6 i = gR M 2 (40 * k + j1 + i) := by
        rw [gR_wr _ _ _ _ _ _ (by decide), gR_wr_s, if_pos (by omega), Nat.sub_zero]
      rw [e, wr_step _ _ _ (fun i => gR M 2 (40 * k + j1 + i))]
      exact h
  · unfold p_X6_copy_L95
    rw [ixc k j1 i, m_cl (show 40 * k + j1 + i < 100000 by omega), m_cl (show i < 100000 by omega), nI_1]
    refine br_f (nI_ge hi hc) ⟨2, rfl, rfl, m_in (N := 240) rfl rfl (by omega) (by decide), 6, rfl, rfl, m_in (N := 40) rfl rfl (by omega) (by decide), ?_⟩
    have w := wr_step M 6 0 (fun i => gR M 2 (40 * k + j1 + i)) i
    rw [Nat.zero_add] at w
    rw [gR_wr _ _ _ _ _ 2 (by decide), w]
    exact h
theorem st_mean (hI : Inv X M) (r : Int32) : p_X5_mean 0 r X (fun u X' => p_X6_mean 0 r M (fun u' M' => Z X' M' u u')) := by
  unfold p_X5_mean p_X6_mean
  by_cases hr : ok r 6
  · obtain ⟨k, hk, rfl⟩ := hr
    have hr : ok (nI k) 6 := ⟨k, hk, rfl⟩
    obtain ⟨s1, s2, s3⟩ := hI.2.2.1 k hk
    have hin : vp_in (nI k) (lM 3) := m_in (N := 6) rfl rfl hk (by decide)
    have hcl : (nI k).toNatClampNeg = k := m_cl (by omega)
    rcases neg_of s1 (by decide) with ⟨e1, e2, e3⟩ | ⟨n, hn, e1, e2, e3, e4⟩
    · refine x_no R1 rfl rfl hk e1 (br_f (by decide) (m_isRow (fun _ => br_f (by decide) ⟨3, rfl, rfl, hin, ?_⟩) (fun z => absurd hr z)))
      rw [hcl, s2]
      exact br_f e2 (m_refuse (f := 1) rfl (by decide) ⟨rfl, Inv_found hI (by decide)⟩)
    · refine x_yes R1 rfl rfl hk hn e1 (br_t rfl ⟨1, rfl, rfl, s_sizeOf R1 rfl hk ?_⟩)
      rw [e1]
      by_cases h0 : n = 0
      · subst h0
        refine br_f (by decide) (e_found (f := 4) rfl (by decide) (m_isRow (fun _ => br_f (by decide) ⟨3, rfl, rfl, hin, ?_⟩) (fun z => absurd hr z)))
        rw [hcl, s2]
        exact br_t e2 ⟨3, rfl, rfl, hin, br_t (s2.trans e1) (m_refuse (f := 4) rfl (by decide) ⟨rfl, Inv_found hI (by decide)⟩)⟩
      · have hz : ¬ (nI n).toInt64 = 0 := fun q => by
          have q2 := congrArg Int64.toInt q
          rw [Int32.toInt_toInt64, nI_toInt (by omega)] at q2
          have : (0 : Int64).toInt = 0 := rfl
          omega
        have hz2 : ¬ nI n = 0 := fun q => h0 (nI_inj (b := 0) (by omega) (by decide) q)
        refine br_t ((nI_ltI (a := 0) (by decide) (by omega)).mpr (by omega)) ⟨n + 1, ?_⟩
        refine lp_up (fun f i x => p_X5_mean_L41 _ f 0 (nI k) (nI n) x (nI i) X) (fun _ _ => True) n (fun i x => x + (gR X (1 + 3 + k) i).toInt64) (fun x => x = itr (fun i x => x + (gR X (1 + 3 + k) i).toInt64) 0 n 0) (fun f x _ hx => ?_) (fun f i x hi _ hx => ?_) (fun _ _ _ _ => trivial) n 0 0 (by omega) trivial rfl
        · unfold p_X5_mean_L41
          refine br_t (nI_le (Nat.le_refl _) (by omega)) ⟨hz, m_isRow (fun _ => br_f (by decide) ⟨3, rfl, rfl, hin, ?_⟩) (fun z => absurd hr z)⟩
          rw [hcl, s2]
          refine br_t e2 ⟨3, rfl, rfl, hin, br_f (by rw [s2, e1]; exact hz2) ⟨n + 1, ?_⟩⟩
          refine lp_up (fun f i x => p_X6_mean_L44 _ f 0 (nI k) x (nI i) M) (fun _ _ => True) n (fun i x => x + (gR X (1 + 3 + k) i).toInt64) (fun x => x = itr (fun i x => x + (gR X (1 + 3 + k) i).toInt64) 0 n 0) (fun f y _ hy => ?_) (fun f i x hi _ hx => ?_) (fun _ _ _ _ => trivial) n 0 0 (by omega) trivial rfl
          · unfold p_X6_mean_L44
            refine ⟨3, rfl, rfl, hin, ?_⟩
            rw [hcl, s2, e1]
            refine br_t (nI_le (Nat.le_refl _) (by omega)) ⟨3, rfl, rfl, hin, ?_⟩
            rw [s2, e1]
            exact ⟨hz, rfl, Inv_told hI (by rw [hx, hy])⟩
          · unfold p_X6_mean_L44
            refine ⟨3, rfl, rfl, hin, ?_⟩
            rw [hcl, s2, e1, ixm (y := 40) 40 k i rfl, m_cl (show 40 * k + i < 100000 by omega), nI_1]
            refine br_f (nI_ge hi (by omega)) ⟨2, rfl, rfl, m_in (N := 240) rfl rfl (by omega) (by decide), ?_⟩
            rw [s3 i (by omega)]
            exact hx
        · unfold p_X5_mean_L41
          refine br_f (nI_ge hi (by omega)) ⟨1, rfl, rfl, s_cell R1 rfl hk hn e1 rfl hi ?_⟩
          rw [nI_1]
          exact hx
  · exact x_bad R1 rfl hr (br_f (by decide) (m_isRow (fun z => absurd z hr) (fun _ => br_t rfl ⟨rfl, hI⟩)))
theorem st_text (hI : Inv X M) (t n : Int32) : p_X5_text 0 t n X (fun u X' => p_X6_text 0 t n M (fun u' M' => Z X' M' u u')) := by
  unfold p_X5_text p_X5_makeItem p_X6_text
  refine ⟨10, rfl, rfl, s_isNumber R2 (fun hr => br_f (by decide) ?_) (fun hr => br_t rfl (m_isText (fun z => absurd z hr) (fun _ => br_t rfl ⟨rfl, hI⟩)))⟩
  by_cases h40 : n ≤ 60
  · by_cases h0 : 0 ≤ n
    · refine br_t h40 (br_t h0 ⟨10, rfl, rfl, ?_⟩)
      obtain ⟨k, hk, rfl⟩ := hr
      obtain ⟨j, hj, rfl⟩ := nI_of2 (M := 60) (n := 60) rfl (fun q => by rw [Int32.lt_iff_toInt_lt] at q; rw [Int32.le_iff_toInt_le] at h0; omega) h40
      refine s_make R2 rfl hk hj rfl (fun X' g1 g2 g3 g4 g5 g6 => ?_)
      refine m_isText (fun _ => br_f (by decide) (br_t h40 (br_t h0 ⟨5, rfl, rfl, m_in (N := 4) rfl rfl hk (by decide), ?_⟩))) (fun z => absurd ⟨k, hk, rfl⟩ z)
      rw [m_cl (show k < 100000 by omega)]
      refine lp_wr (fun f i s => p_X6_text_L34 _ f 0 (nI k) (nI j) (nI i) s) _ 4 (60 * k) 60 (fun _ => 32) (fun f => ?_) (fun f i hi h => ?_)
      · unfold p_X6_text_L34
        refine br_t (by decide) ⟨rfl, ?_⟩
        refine Inv_texts hI ⟨by rw [g1], g4 24 (by decide) (by omega)⟩ ⟨by rw [g1], by rw [g2], by rw [g2]⟩ (fun c h1 h2 => g4 c (by omega) (by omega)) ⟨fun c hc => g4 c (by omega) (by omega), fun c j _ => by rw [g1]⟩ ⟨rfl, ?_⟩ ⟨rfl, rfl, rfl⟩ ?_ ?_ ⟨fun c h1 h2 => ?_, rfl, rfl, rfl, rfl, rfl⟩ (IS_make (v := 32) hI.2.2.2.1 hk hj g5 (fun c hc he => g4 _ (by omega) (by omega)) g6 ?_ (fun i => ?_)) (fun a i ha hi => ?_)
        · rw [gR_wr _ _ _ _ _ _ (by decide), gR_ne _ _ (by decide)]
        · rw [gR_wr _ _ _ _ _ _ (by decide), gR_ne _ _ (by decide)]
        · rw [gR_wr _ _ _ _ _ _ (by decide), gR_ne _ _ (by decide)]
        · rw [gR_wr _ _ _ _ _ _ (by omega), gR_ne _ _ (by omega)]
        · rw [gR_wr _ _ _ _ _ _ (by decide), gR_same]
        · rw [gR_wr_s, gR_ne _ _ (by decide)]
        · by_cases e : a = k
          · subst e
            have e2 : gR X' (13 + a) i = 32 := g6 i hi
            rw [e2]
            decide
          · rw [g4 (13 + a) (by omega) (by omega)]
            exact hI.2.2.2.2.1 a i ha hi
      · unfold p_X6_text_L34
        rw [ixm (y := 60) 60 k i rfl, m_cl (show 60 * k + i < 100000 by omega), nI_1]
        refine br_f (nI_ge (b := 60) hi (by decide)) ⟨4, rfl, rfl, m_in (N := 240) rfl rfl (by omega) (by decide), ?_⟩
        rw [show vp_nar .byte 32 = 32 from rfl, wr_step _ _ _ (fun _ => 32)]
        exact h
    · refine br_t h40 (br_f h0 (e_found (f := 5) rfl (by decide) ?_))
      exact m_isText (fun _ => br_f (by decide) (br_t h40 (br_f h0 (m_refuse (f := 5) rfl (by decide) ⟨rfl, Inv_found hI (by decide)⟩)))) (fun z => absurd hr z)
  · exact br_f h40 (m_isText (fun _ => br_f (by decide) (br_f h40 ⟨rfl, hI⟩)) (fun z => absurd hr z))
theorem st_put (hI : Inv X M) (r i v : Int32) : p_X5_put 0 r i v X (fun u X' => p_X6_put 0 r i v M (fun u' M' => Z X' M' u u')) := by
  unfold p_X5_put p_X6_put
  by_cases hr : ok r 4
  · obtain ⟨k, hk, rfl⟩ := hr
    have hr : ok (nI k) 4 := ⟨k, hk, rfl⟩
    obtain ⟨s1, s2, s3⟩ := hI.2.2.2.1 k hk
    have hin : vp_in (nI k) (lM 5) := m_in (N := 4) rfl rfl hk (by decide)
    have hcl : (nI k).toNatClampNeg = k := m_cl (by omega)
    rcases neg_of s1 (by decide) with ⟨e1, e2, e3⟩ | ⟨n, hn, e1, e2, e3, e4⟩
    · refine y_no R2 rfl rfl hk e1 (br_f (by decide) (m_isText (fun _ => br_f (by decide) ⟨5, rfl, rfl, hin, ?_⟩) (fun z => absurd hr z)))
      rw [hcl, s2]
      exact br_f e2 (m_refuse (f := 1) rfl (by decide) ⟨rfl, Inv_found hI (by decide)⟩)
    · by_cases hy : ok i n
      · obtain ⟨j, hj, rfl⟩ := hy
        refine y_yes R2 rfl rfl hk hn e1 ⟨j, hj, rfl⟩ (br_t rfl ⟨10, rfl, rfl, s_cell R2 rfl hk hn e1 rfl hj ⟨10, rfl, rfl, s_setCell R2 rfl hk hn e1 rfl hj ?_⟩⟩)
        refine m_isText (fun _ => br_f (by decide) ⟨5, rfl, rfl, hin, ?_⟩) (fun z => absurd hr z)
        rw [hcl, s2]
        have hix : vp_in (60 * nI k + nI j) (lM 4) := by
          rw [ixm (y := 60) 60 k j rfl]
          exact m_in (N := 240) rfl rfl (by omega) (by decide)
        refine br_t e2 ⟨5, rfl, rfl, hin, m_in_t (w := n) (by omega) (by rw [s2, e1]) (fun _ => br_f (by decide) ⟨4, rfl, rfl, hix, 4, rfl, rfl, hix, ?_⟩) (fun z => absurd ⟨j, hj, rfl⟩ z)⟩
        have hb : vp_nar .byte v.toInt8.toInt32 = v.toInt8.toInt32 := by rw [vp_nar_byte]; simp
        rw [ixm (y := 60) 60 k j rfl, m_cl (show 60 * k + j < 100000 by omega), hb]
        refine ⟨by rw [s3 j (by omega)], Inv_texts hI ⟨rfl, gR_ne _ _ (by omega)⟩ ⟨rfl, rfl, rfl⟩ (fun c h1 h2 => gR_ne _ _ (by omega)) ⟨fun c hc => gR_ne _ _ (by omega), fun _ _ _ => rfl⟩ ⟨rfl, gR_ne _ _ (by decide)⟩ ⟨rfl, rfl, rfl⟩ (gR_ne _ _ (by decide)) (gR_ne _ _ (by decide)) ⟨fun c h1 h2 => gR_ne _ _ (by omega), rfl, rfl, rfl, rfl, rfl⟩ (IS_cell (k := k) (j := j) (v := v.toInt8.toInt32) (by decide) hI.2.2.2.1 hk (by omega) (gR_ne _ _ (by omega)) (fun c hc => ?_) (gR_ne _ _ (by decide)) (gR_same _ _ _)) (fun a i ha hi => ?_)⟩
        · by_cases e : c = k
          · subst e; rw [gR_same, if_pos rfl]
          · rw [gR_ne _ _ (by omega), if_neg e]
        · have old := hI.2.2.2.2.1 a i ha hi
          by_cases e : a = k
          · subst e
            rw [show 10 + 3 + a = 13 + a by omega, gR_same, upd_if]
            by_cases e2 : i = j
            · rw [if_pos e2]
              have h1 := Int8.le_toInt v.toInt8
              have h2 := Int8.toInt_lt v.toInt8
              rw [Int8.toInt_toInt32]
              omega
            · rw [if_neg e2]; exact old
          · rw [gR_ne _ _ (by omega)]; exact old
      · refine y_off R2 rfl rfl hk hn e1 hy (br_f (by decide) (m_isText (fun _ => br_f (by decide) ⟨5, rfl, rfl, hin, ?_⟩) (fun z => absurd hr z)))
        rw [hcl, s2]
        refine br_t e2 ⟨5, rfl, rfl, hin, m_in_t (w := n) (by omega) (by rw [s2, e1]) (fun z => absurd z hy) (fun _ => br_t rfl (m_refuse (f := 2) rfl (by decide) ⟨rfl, Inv_found hI (by decide)⟩))⟩
  · exact y_bad R2 rfl hr (br_f (by decide) (m_isText (fun z => absurd z hr) (fun _ => br_t rfl ⟨rfl, hI⟩)))
theorem st_asked (hI : Inv X M) : p_X5_asked 0 X (fun u X' => p_X6_asked 0 M (fun u' M' => Z X' M' u u')) := ⟨hI.2.1.1, hI⟩
theorem st_upper (hI : Inv X M) : p_X5_upper 0 X (fun u X' => p_X6_upper 0 M (fun u' M' => u = u' ∧ Inv X' M')) := ⟨hI.2.1.2.1, hI⟩
theorem st_lower (hI : Inv X M) : p_X5_lower 0 X (fun u X' => p_X6_lower 0 M (fun u' M' => u = u' ∧ Inv X' M')) := ⟨hI.2.1.2.2, hI⟩
theorem st_finding (hI : Inv X M) : p_X5_finding 0 X (fun u X' => p_X6_finding 0 M (fun u' M' => Z X' M' u u')) := ⟨hI.1.1, hI⟩
theorem st_findings (hI : Inv X M) (f : Int32) : p_X5_findings 0 f X (fun u X' => p_X6_findings 0 f M (fun u' M' => Z X' M' u u')) := by
  unfold p_X5_findings p_X6_findings p_X6_in
  by_cases h1 : f < 1
  · exact br_t h1 (br_t h1 (br_t rfl ⟨rfl, hI⟩))
  · by_cases h5 : 5 < f
    · exact br_f h1 (br_t h5 (br_f h1 (br_t h5 (br_t rfl ⟨rfl, hI⟩))))
    · have h0 : ¬ f < 0 := fun q => h1 (by rw [Int32.lt_iff_toInt_lt] at q ⊢; have : (0 : Int32).toInt = 0 := rfl; have : (1 : Int32).toInt = 1 := rfl; omega)
      obtain ⟨k, hk, rfl⟩ := nI_of2 (M := 5) (n := 5) rfl h0 (by rw [Int32.lt_iff_toInt_lt] at h5; rw [Int32.le_iff_toInt_le]; omega)
      refine br_f h1 (br_f h5 (e_item (k := 24) rfl rfl rfl (show k < 6 by omega) (br_f h1 (br_f h5 (br_f (by decide) ⟨1, rfl, rfl, m_in (N := 6) rfl rfl (by omega) (by decide), ?_⟩)))))
      rw [m_cl (show k < 100000 by omega)]
      exact ⟨hI.1.2 k (by omega), hI⟩
end TXT
