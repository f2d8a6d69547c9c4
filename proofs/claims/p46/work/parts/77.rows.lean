/-- an array written from b on, i cells -/
def wr (s : Sg) (c b : Nat) (g : Nat → Int32) (i : Nat) : Sg := setR s c (fun j => if b ≤ j ∧ j < b + i then g (j - b) else gR s c j)
theorem wr_0 (s : Sg) (c b : Nat) (g : Nat → Int32) : wr s c b g 0 = s := by
  unfold wr
  have e : (fun j => if b ≤ j ∧ j < b + 0 then g (j - b) else gR s c j) = gR s c := funext fun j => if_neg (by omega)
  rw [e, setR_self]
theorem setR_setR (s : Sg) (k : Nat) (f g : Nat → Int32) : setR (setR s k f) k g = setR s k g := by
  unfold setR
  refine congrArg (fun x => (s.1, s.2.1, x, s.2.2.2)) (funext fun a => ?_)
  by_cases ha : a = k
  · simp [ha]
  · simp [ha]
theorem wr_step (s : Sg) (c b : Nat) (g : Nat → Int32) (i : Nat) : setR (wr s c b g i) c (upd (gR (wr s c b g i) c) (b + i) (g i)) = wr s c b g (i + 1) := by
  unfold wr
  rw [gR_same, setR_setR]
  congr 1
  funext j
  rw [upd_if]
  by_cases h1 : j = b + i
  · subst h1
    rw [if_pos rfl, if_pos (by omega), Nat.add_sub_cancel_left]
  · rw [if_neg h1]
    by_cases h2 : b ≤ j ∧ j < b + i
    · rw [if_pos h2, if_pos (by omega)]
    · rw [if_neg h2, if_neg (by omega)]
theorem gR_wr (s : Sg) (c b : Nat) (g : Nat → Int32) (i a : Nat) (h : a ≠ c) : gR (wr s c b g i) a = gR s a := gR_ne _ _ h
theorem gR_wr_s (s : Sg) (c b : Nat) (g : Nat → Int32) (i j : Nat) : gR (wr s c b g i) c j = if b ≤ j ∧ j < b + i then g (j - b) else gR s c j := by unfold wr; rw [gR_same]
theorem lp_wr (P : Nat → Nat → Sg → Prop) (s : Sg) (c b w : Nat) (g : Nat → Int32) (hexit : ∀ n, P (n + 1) w (wr s c b g w)) (hstep : ∀ n i, i < w → P n (i + 1) (wr s c b g (i + 1)) → P (n + 1) i (wr s c b g i)) : ∃ n, P n 0 s := by
  refine ⟨w + 1, ?_⟩
  have : ∀ r i, i + r = w → P (r + 1) i (wr s c b g i) := by
    intro r
    induction r with
    | zero => intro i hi; rw [show i = w by omega]; exact hexit 0
    | succ r ih => intro i hi; exact hstep (r + 1) i (by omega) (ih (i + 1) (by omega))
  have := this w 0 (by omega)
  rw [wr_0] at this
  exact this
theorem ixm (w k j : Nat) {y : Int32} (hy : y = nI w) : y * nI k + nI j = nI (w * k + j) := by rw [hy, pk_mul, nI_add]
/-! rows -/
theorem Inv_rows {X M X' M' : Sg} (hI : Inv X M) (aF : sF X X') (aT : sT X X') (aS : ∀ k, 11 ≤ k → k ≤ 16 → gR X' k = gR X k) (aD : sD X X') (bF : tF M M') (bT : tT M M') (b4 : gR M' 4 = gR M 4) (b5 : gR M' 5 = gR M 5) (bD : tD M M') (hR : IS X' M' 1 6 40 3 2) : Inv X' M' := by
  obtain ⟨h1, h2, h3, h4, h5, h6⟩ := hI
  refine ⟨IF_s h1 aF bF, IT_s h2 aT bT, hR, fun k hk => ?_, fun k i hk hi => ?_, ID_s h6 aD bD⟩
  · rw [aS (10 + 1) (by decide) (by decide), b4, b5, aS (10 + 3 + k) (by omega) (by omega)]
    exact h4 k hk
  · rw [aS (13 + k) (by omega) (by omega)]
    exact h5 k i hk hi
theorem Inv_texts {X M X' M' : Sg} (hI : Inv X M) (aF : sF X X') (aT : sT X X') (aS : ∀ k, 2 ≤ k → k ≤ 10 → gR X' k = gR X k) (aD : sD X X') (bF : tF M M') (bT : tT M M') (b2 : gR M' 2 = gR M 2) (b3 : gR M' 3 = gR M 3) (bD : tD M M') (hR : IS X' M' 10 4 60 5 4) (hB : IB X') : Inv X' M' := by
  obtain ⟨h1, h2, h3, h4, h5, h6⟩ := hI
  refine ⟨IF_s h1 aF bF, IT_s h2 aT bT, fun k hk => ?_, hR, hB, ID_s h6 aD bD⟩
  rw [aS (1 + 1) (by decide) (by decide), b2, b3, aS (1 + 3 + k) (by omega) (by omega)]
  exact h3 k hk
/-- a cell of an item, on both sides -/
theorem IS_cell {X M X' M' : Sg} {h m w sz ce k j : Nat} {v : Int32} (hw : sz ≠ ce) (hS : IS X M h m w sz ce) (hk : k < m) (hj : j < w) (a1 : gR X' (h + 1) = gR X (h + 1)) (a2 : ∀ c, c < m → gR X' (h + 3 + c) = if c = k then upd (gR X (h + 3 + k)) j v else gR X (h + 3 + c)) (b1 : gR M' sz = gR M sz) (b2 : gR M' ce = upd (gR M ce) (w * k + j) v) : IS X' M' h m w sz ce := fun c hc => by
  obtain ⟨s1, s2, s3⟩ := hS c hc
  rw [a1, b1, a2 c hc, b2]
  refine ⟨s1, s2, fun i hi => ?_⟩
  rw [upd_if]
  by_cases e : c = k
  · subst e
    rw [if_pos rfl, upd_if]
    by_cases e2 : i = j
    · subst e2
      rw [if_pos rfl, if_pos rfl]
    · rw [if_neg e2, if_neg (by omega)]
      exact s3 i hi
  · have : w * c + i ≠ w * k + j := fun q => by
      rcases Nat.lt_or_gt_of_ne e with z | z
      · have := Nat.mul_le_mul_left w z
        rw [Nat.mul_succ] at this
        omega
      · have := Nat.mul_le_mul_left w z
        rw [Nat.mul_succ] at this
        omega
    rw [if_neg e, if_neg this]
    exact s3 i hi
theorem IS_size {X M X' M' : Sg} {h m w sz ce k : Nat} {z : Int32} (hS : IS X M h m w sz ce) (hk : k < m) (hz : szOk w z) (a1 : gR X' (h + 1) = upd (gR X (h + 1)) k z) (a2 : ∀ c, c < m → gR X' (h + 3 + c) = gR X (h + 3 + c)) (b1 : gR M' sz = upd (gR M sz) k z) (b2 : gR M' ce = gR M ce) : IS X' M' h m w sz ce := fun c hc => by
  obtain ⟨s1, s2, s3⟩ := hS c hc
  rw [a1, b1, a2 c hc, b2, upd_if, upd_if]
  by_cases e : c = k
  · rw [if_pos e, if_pos e]
    exact ⟨hz, rfl, s3⟩
  · rw [if_neg e, if_neg e]
    exact ⟨s1, s2, s3⟩
/-- an item made anew -/
theorem IS_make {X M X' M' : Sg} {h m w sz ce k n : Nat} {v : Int32} (hS : IS X M h m w sz ce) (hk : k < m) (hn : n ≤ w) (a1 : gR X' (h + 1) = upd (gR X (h + 1)) k (nI n)) (a2 : ∀ c, c < m → c ≠ k → gR X' (h + 3 + c) = gR X (h + 3 + c)) (a3 : ∀ j, j < w → gR X' (h + 3 + k) j = v) (b1 : gR M' sz = upd (gR M sz) k (nI n)) (b2 : ∀ j, gR M' ce j = if w * k ≤ j ∧ j < w * k + w then v else gR M ce j) : IS X' M' h m w sz ce := fun c hc => by
  obtain ⟨s1, s2, s3⟩ := hS c hc
  rw [a1, b1, upd_if, upd_if]
  by_cases e : c = k
  · subst e
    rw [if_pos rfl, if_pos rfl]
    refine ⟨Or.inr ⟨n, hn, rfl⟩, rfl, fun i hi => ?_⟩
    rw [b2, if_pos (by omega), a3 i hi]
  · rw [if_neg e, if_neg e]
    refine ⟨s1, s2, fun i hi => ?_⟩
    have : ¬ (w * k ≤ w * c + i ∧ w * c + i < w * k + w) := fun q => by
      rcases Nat.lt_or_gt_of_ne e with z | z
      · have := Nat.mul_le_mul_left w z
        rw [Nat.mul_succ] at this
        omega
      · have := Nat.mul_le_mul_left w z
        rw [Nat.mul_succ] at this
        omega
    rw [b2, if_neg this, a2 c hc e]
    exact s3 i hi
theorem m_clearRow {s : Sg} {x y : Int32} {k n : Nat} {Q : Sg → Prop} (hx : x = nI k) (hk : k < 6) (hy : y = nI n) (hQ : Q (wr (setR s 3 (upd (gR s 3) k (nI n))) 2 (40 * k) (fun _ => 0) 40)) : p_X6_clearRow 0 x y s Q := by
  subst hx hy
  unfold p_X6_clearRow
  refine ⟨3, rfl, rfl, m_in (N := 6) rfl rfl hk (by decide), ?_⟩
  rw [m_cl (show k < 100000 by omega)]
  refine lp_wr (fun f i s => p_X6_clearRow_L9 Q f 0 (nI k) (nI i) s) _ 2 (40 * k) 40 (fun _ => 0) (fun f => ?_) (fun f i hi h => ?_)
  · unfold p_X6_clearRow_L9
    exact br_t (by decide) hQ
  · unfold p_X6_clearRow_L9
    rw [ixm (y := 40) 40 k i rfl, m_cl (show 40 * k + i < 100000 by omega), nI_1]
    refine br_f (nI_ge (b := 40) hi (by decide)) ⟨2, rfl, rfl, m_in (N := 240) rfl rfl (by omega) (by decide), ?_⟩
    rw [wr_step]
    exact h
/-- sizes, tested -/
theorem neg_of {w : Nat} {z : Int32} (h : szOk w z) (hw : w < 2 ^ 31) : (z = -1 ∧ ¬ (0 : Int32) ≤ z ∧ z < 0) ∨ ∃ n, n ≤ w ∧ z = nI n ∧ (0 : Int32) ≤ z ∧ ¬ z < 0 ∧ ¬ z = -1 := by
  rcases h with rfl | ⟨n, hn, rfl⟩
  · exact Or.inl ⟨rfl, by decide, by decide⟩
  · have h1 : ¬ nI n < 0 := nI_pos (by omega)
    exact Or.inr ⟨n, hn, rfl, nI_pos' (by omega), h1, fun e => h1 (by rw [e]; decide)⟩
section ROWS
variable {X M : Sg}
theorem st_row (hI : Inv X M) (r n : Int32) : p_X5_row 0 r n X (fun u X' => p_X6_row 0 r n M (fun u' M' => Z X' M' u u')) := by
  unfold p_X5_row p_X5_makeItem p_X6_row
  refine ⟨1, rfl, rfl, s_isNumber R1 (fun hr => br_f (by decide) ?_) (fun hr => br_t rfl (m_isRow (fun z => absurd z hr) (fun _ => br_t rfl ⟨rfl, hI⟩)))⟩
  by_cases h40 : n ≤ 40
  · by_cases h0 : 0 ≤ n
    · refine br_t h40 (br_t h0 ⟨1, rfl, rfl, ?_⟩)
      obtain ⟨k, hk, rfl⟩ := hr
      obtain ⟨j, hj, rfl⟩ := nI_of2 (M := 40) (n := 40) rfl (fun q => by rw [Int32.lt_iff_toInt_lt] at q; rw [Int32.le_iff_toInt_le] at h0; omega) h40
      refine s_make R1 rfl hk hj rfl (fun X' g1 g2 g3 g4 g5 g6 => ?_)
      refine m_isRow (fun _ => br_f (by decide) (br_t h40 (br_t h0 (m_clearRow rfl hk rfl ⟨rfl, ?_⟩)))) (fun z => absurd ⟨k, hk, rfl⟩ z)
      refine Inv_rows hI ⟨by rw [g1], g4 24 (by decide) (by omega)⟩ ⟨by rw [g1], by rw [g2], by rw [g2]⟩ (fun c h1 h2 => g4 c (by omega) (by omega)) ⟨fun c hc => g4 c (by omega) (by omega), fun c j _ => by rw [g1]⟩ ⟨rfl, ?_⟩ ⟨rfl, rfl, rfl⟩ ?_ ?_ ⟨fun c h1 h2 => ?_, rfl, rfl, rfl, rfl, rfl⟩ (IS_make (v := 0) hI.2.2.1 hk hj g5 (fun c hc he => g4 _ (by omega) (by omega)) g6 ?_ (fun i => ?_))
      · rw [gR_wr _ _ _ _ _ _ (by decide), gR_ne _ _ (by decide)]
      · rw [gR_wr _ _ _ _ _ _ (by decide), gR_ne _ _ (by decide)]
      · rw [gR_wr _ _ _ _ _ _ (by decide), gR_ne _ _ (by decide)]
      · rw [gR_wr _ _ _ _ _ _ (by omega), gR_ne _ _ (by omega)]
      · rw [gR_wr _ _ _ _ _ _ (by decide), gR_same]
      · rw [gR_wr_s, gR_ne _ _ (by decide)]
    · refine br_t h40 (br_f h0 (e_found (f := 5) rfl (by decide) ?_))
      exact m_isRow (fun _ => br_f (by decide) (br_t h40 (br_f h0 (m_refuse (f := 5) rfl (by decide) ⟨rfl, Inv_found hI (by decide)⟩)))) (fun z => absurd hr z)
  · exact br_f h40 (m_isRow (fun _ => br_f (by decide) (br_f h40 ⟨rfl, hI⟩)) (fun z => absurd hr z))
theorem st_at (hI : Inv X M) (r i : Int32) : p_X5_at 0 r i X (fun u X' => p_X6_at 0 r i M (fun u' M' => Z X' M' u u')) := by
  unfold p_X5_at p_X6_at
  by_cases hr : ok r 6
  · obtain ⟨k, hk, rfl⟩ := hr
    have hr : ok (nI k) 6 := ⟨k, hk, rfl⟩
    obtain ⟨s1, s2, s3⟩ := hI.2.2.1 k hk
    have hin : vp_in (nI k) (lM 3) := m_in (N := 6) rfl rfl hk (by decide)
    have hcl : (nI k).toNatClampNeg = k := m_cl (by omega)
    rcases neg_of s1 (by decide) with ⟨e1, e2, e3⟩ | ⟨n, hn, e1, e2, e3, e4⟩
    · refine y_no R1 rfl rfl hk e1 (br_f (by decide) (m_isRow (fun _ => br_f (by decide) ⟨3, rfl, rfl, hin, ?_⟩) (fun z => absurd hr z)))
      rw [hcl, s2]
      exact br_f e2 (m_refuse (f := 1) rfl (by decide) ⟨rfl, Inv_found hI (by decide)⟩)
    · by_cases hy : ok i n
      · obtain ⟨j, hj, rfl⟩ := hy
        refine y_yes R1 rfl rfl hk hn e1 ⟨j, hj, rfl⟩ (br_t rfl ⟨1, rfl, rfl, s_cell R1 rfl hk hn e1 rfl hj ?_⟩)
        refine m_isRow (fun _ => br_f (by decide) ⟨3, rfl, rfl, hin, ?_⟩) (fun z => absurd hr z)
        rw [hcl, s2]
        refine br_t e2 ⟨3, rfl, rfl, hin, m_in_t (w := n) (by omega) (by rw [s2, e1]) (fun _ => br_f (by decide) ⟨2, rfl, rfl, ?_, ?_⟩) (fun z => absurd ⟨j, hj, rfl⟩ z)⟩
        · rw [ixm (y := 40) 40 k j rfl]
          exact m_in (N := 240) rfl rfl (by omega) (by decide)
        · rw [ixm (y := 40) 40 k j rfl, m_cl (show 40 * k + j < 100000 by omega)]
          exact ⟨rfl, Inv_told hI (s3 j (by omega)).symm⟩
      · refine y_off R1 rfl rfl hk hn e1 hy (br_f (by decide) (m_isRow (fun _ => br_f (by decide) ⟨3, rfl, rfl, hin, ?_⟩) (fun z => absurd hr z)))
        rw [hcl, s2]
        refine br_t e2 ⟨3, rfl, rfl, hin, m_in_t (w := n) (by omega) (by rw [s2, e1]) (fun z => absurd z hy) (fun _ => br_t rfl (m_refuse (f := 2) rfl (by decide) ⟨rfl, Inv_found hI (by decide)⟩))⟩
  · exact y_bad R1 rfl hr (br_f (by decide) (m_isRow (fun z => absurd z hr) (fun _ => br_t rfl ⟨rfl, hI⟩)))
theorem st_lay (hI : Inv X M) (r i v : Int32) : p_X5_lay 0 r i v X (fun u X' => p_X6_lay 0 r i v M (fun u' M' => Z X' M' u u')) := by
  unfold p_X5_lay p_X6_lay
  by_cases hr : ok r 6
  · obtain ⟨k, hk, rfl⟩ := hr
    have hr : ok (nI k) 6 := ⟨k, hk, rfl⟩
    obtain ⟨s1, s2, s3⟩ := hI.2.2.1 k hk
    have hin : vp_in (nI k) (lM 3) := m_in (N := 6) rfl rfl hk (by decide)
    have hcl : (nI k).toNatClampNeg = k := m_cl (by omega)
    rcases neg_of s1 (by decide) with ⟨e1, e2, e3⟩ | ⟨n, hn, e1, e2, e3, e4⟩
    · refine y_no R1 rfl rfl hk e1 (br_f (by decide) (m_isRow (fun _ => br_f (by decide) ⟨3, rfl, rfl, hin, ?_⟩) (fun z => absurd hr z)))
      rw [hcl, s2]
      exact br_f e2 (m_refuse (f := 1) rfl (by decide) ⟨rfl, Inv_found hI (by decide)⟩)
    · by_cases hy : ok i n
      · obtain ⟨j, hj, rfl⟩ := hy
        refine y_yes R1 rfl rfl hk hn e1 ⟨j, hj, rfl⟩ (br_t rfl ⟨1, rfl, rfl, s_cell R1 rfl hk hn e1 rfl hj ⟨1, rfl, rfl, s_setCell R1 rfl hk hn e1 rfl hj ?_⟩⟩)
        refine m_isRow (fun _ => br_f (by decide) ⟨3, rfl, rfl, hin, ?_⟩) (fun z => absurd hr z)
        rw [hcl, s2]
        have hix : vp_in (40 * nI k + nI j) (lM 2) := by
          rw [ixm (y := 40) 40 k j rfl]
          exact m_in (N := 240) rfl rfl (by omega) (by decide)
        refine br_t e2 ⟨3, rfl, rfl, hin, m_in_t (w := n) (by omega) (by rw [s2, e1]) (fun _ => br_f (by decide) ⟨2, rfl, rfl, hix, 2, rfl, rfl, hix, ?_⟩) (fun z => absurd ⟨j, hj, rfl⟩ z)⟩
        rw [ixm (y := 40) 40 k j rfl, m_cl (show 40 * k + j < 100000 by omega)]
        refine ⟨rfl, Inv_told (X := setR X (1 + 3 + k) (upd (gR X (1 + 3 + k)) j v)) (Inv_rows hI ⟨rfl, gR_ne _ _ (by omega)⟩ ⟨rfl, rfl, rfl⟩ (fun c h1 h2 => gR_ne _ _ (by omega)) ⟨fun c hc => gR_ne _ _ (by omega), fun _ _ _ => rfl⟩ ⟨rfl, gR_ne _ _ (by decide)⟩ ⟨rfl, rfl, rfl⟩ (gR_ne _ _ (by decide)) (gR_ne _ _ (by decide)) ⟨fun c h1 h2 => gR_ne _ _ (by omega), rfl, rfl, rfl, rfl, rfl⟩ (IS_cell (k := k) (j := j) (v := v) (by decide) hI.2.2.1 hk (by omega) (gR_ne _ _ (by omega)) (fun c hc => ?_) (gR_ne _ _ (by decide)) (gR_same _ _ _))) (s3 j (by omega)).symm⟩
        by_cases e : c = k
        · subst e; rw [gR_same, if_pos rfl]
        · rw [gR_ne _ _ (by omega), if_neg e]
      · refine y_off R1 rfl rfl hk hn e1 hy (br_f (by decide) (m_isRow (fun _ => br_f (by decide) ⟨3, rfl, rfl, hin, ?_⟩) (fun z => absurd hr z)))
        rw [hcl, s2]
        refine br_t e2 ⟨3, rfl, rfl, hin, m_in_t (w := n) (by omega) (by rw [s2, e1]) (fun z => absurd z hy) (fun _ => br_t rfl (m_refuse (f := 2) rfl (by decide) ⟨rfl, Inv_found hI (by decide)⟩))⟩
  · exact y_bad R1 rfl hr (br_f (by decide) (m_isRow (fun z => absurd z hr) (fun _ => br_t rfl ⟨rfl, hI⟩)))
theorem st_tear (hI : Inv X M) (r : Int32) : p_X5_tear 0 r X (fun u X' => p_X6_tear 0 r M (fun u' M' => Z X' M' u u')) := by
  unfold p_X5_tear p_X6_tear
  by_cases hr : ok r 6
  · obtain ⟨k, hk, rfl⟩ := hr
    have hr : ok (nI k) 6 := ⟨k, hk, rfl⟩
    obtain ⟨s1, s2, s3⟩ := hI.2.2.1 k hk
    have hin : vp_in (nI k) (lM 3) := m_in (N := 6) rfl rfl hk (by decide)
    have hcl : (nI k).toNatClampNeg = k := m_cl (by omega)
    rcases neg_of s1 (by decide) with ⟨e1, e2, e3⟩ | ⟨n, hn, e1, e2, e3, e4⟩
    · refine x_no R1 rfl rfl hk e1 (br_f (by decide) (m_isRow (fun _ => br_f (by decide) ⟨3, rfl, rfl, hin, ?_⟩) (fun z => absurd hr z)))
      rw [hcl, s2]
      exact br_f e2 (m_refuse (f := 1) rfl (by decide) ⟨rfl, Inv_found hI (by decide)⟩)
    · refine x_yes R1 rfl rfl hk hn e1 (br_t rfl ⟨1, rfl, rfl, s_remove R1 rfl hk ?_⟩)
      refine m_isRow (fun _ => br_f (by decide) ⟨3, rfl, rfl, hin, ?_⟩) (fun z => absurd hr z)
      rw [hcl, s2]
      refine br_t e2 ⟨3, rfl, rfl, hin, rfl, ?_⟩
      exact Inv_rows hI ⟨rfl, gR_ne _ _ (by omega)⟩ ⟨rfl, rfl, rfl⟩ (fun c h1 h2 => gR_ne _ _ (by omega)) ⟨fun c hc => gR_ne _ _ (by omega), fun _ _ _ => rfl⟩ ⟨rfl, gR_ne _ _ (by decide)⟩ ⟨rfl, rfl, rfl⟩ (gR_ne _ _ (by decide)) (gR_ne _ _ (by decide)) ⟨fun c h1 h2 => gR_ne _ _ (by omega), rfl, rfl, rfl, rfl, rfl⟩ (IS_size (z := -1) hI.2.2.1 hk (Or.inl rfl) (gR_same _ _ _) (fun c hc => gR_ne _ _ (by omega)) (gR_same _ _ _) (gR_ne _ _ (by decide)))
  · exact x_bad R1 rfl hr (br_f (by decide) (m_isRow (fun z => absurd z hr) (fun _ => br_t rfl ⟨rfl, hI⟩)))
end ROWS
