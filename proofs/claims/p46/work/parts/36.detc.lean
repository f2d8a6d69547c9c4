theorem D_p_X6_look_L39 {G : Prop} {Q1 Q2 : Int32 → Sg → Prop}  {w : Int32} (hQ : ∀ (v0 : Int32) (v1 : Sg), gI v1 0 20 = w → Q1 v0 v1 → Q2 v0 v1 → G) : ∀ (n m : Nat) (x0 : Nat) (x1 : Int32) (x2 : Int32) (x3 : Int32) (x4 : Int32) (x5 : Int32) (x6 : Int32) (s : Sg), gI s 0 20 = w → p_X6_look_L39 Q1 n x0 x1 x2 x3 x4 x5 x6 s → p_X6_look_L39 Q2 m x0 x1 x2 x3 x4 x5 x6 s → G := by
  intro n
  induction n with
  | zero =>
    intro m x0 x1 x2 x3 x4 x5 x6 s hw h1
    exact h1.elim
  | succ n ih =>
    intro m x0 x1 x2 x3 x4 x5 x6 s hw h1 h2
    cases m with
    | zero => exact h2.elim
    | succ m =>
      unfold p_X6_look_L39 at h1 h2
      by_cases cc : (gI s x0 20) ≤ x6
      · replace h1 := h1.1 cc
        replace h2 := h2.1 cc
        by_cases cc : x4 = ((-9))
        · replace h1 := h1.1 cc
          replace h2 := h2.1 cc
          exact hQ _ _ (by first | exact hw | simpa [gI, setI, setR, setJ, setT] using hw) h1 h2
        · replace h1 := h1.2 cc
          replace h2 := h2.2 cc
          exact hQ _ _ (by first | exact hw | simpa [gI, setI, setR, setJ, setT] using hw) h1 h2
      · replace h1 := h1.2 cc
        replace h2 := h2.2 cc
        by_cases cc : ((x1 >>> (x6 &&& 31)) &&& 1) = 1
        · replace h1 := h1.1 cc
          replace h2 := h2.1 cc
          exact d_p_X6_look_b70 (w := w) (by first | exact hw | simpa [gI, setI, setR, setJ, setT] using hw) h1 h2 hQ (fun _ _ _ _ _ _ _ _ hw h1 h2 => ih _ _ _ _ _ _ _ _ _ hw h1 h2)
        · replace h1 := h1.2 cc
          replace h2 := h2.2 cc
          refine d_p_X6_partBy (w := w) (by first | exact hw | simpa [gI, setI, setR, setJ, setT] using hw) h1 h2 (fun r5 s4 hw h1 h2 => ?_)
          exact d_p_X6_look_b70 (w := w) (by first | exact hw | simpa [gI, setI, setR, setJ, setT] using hw) h1 h2 hQ (fun _ _ _ _ _ _ _ _ hw h1 h2 => ih _ _ _ _ _ _ _ _ _ hw h1 h2)
theorem d_p_X6_look_L39 {G : Prop} {Q1 Q2 : Int32 → Sg → Prop}  {n m : Nat} {x0 : Nat} {x1 : Int32} {x2 : Int32} {x3 : Int32} {x4 : Int32} {x5 : Int32} {x6 : Int32} {s : Sg} {w : Int32} (hw : gI s 0 20 = w) (h1 : p_X6_look_L39 Q1 n x0 x1 x2 x3 x4 x5 x6 s) (h2 : p_X6_look_L39 Q2 m x0 x1 x2 x3 x4 x5 x6 s) (hQ : ∀ (v0 : Int32) (v1 : Sg), gI v1 0 20 = w → Q1 v0 v1 → Q2 v0 v1 → G) : G := D_p_X6_look_L39 hQ n m x0 x1 x2 x3 x4 x5 x6 s hw h1 h2
theorem d_p_X6_look {G : Prop} {Q1 Q2 : Int32 → Sg → Prop} {x0 : Nat} {x1 : Int32} {x2 : Int32} {s : Sg} {w : Int32} (hw : gI s 0 20 = w) (h1 : p_X6_look x0 x1 x2 s Q1) (h2 : p_X6_look x0 x1 x2 s Q2) (hQ : ∀ (v0 : Int32) (v1 : Sg), gI v1 0 20 = w → Q1 v0 v1 → Q2 v0 v1 → G) : G := by
  unfold p_X6_look at h1 h2
  refine d_p_X6_all (w := w) (by first | exact hw | simpa [gI, setI, setR, setJ, setT] using hw) h1 h2 (fun r2 s1 hw h1 h2 => ?_)
  refine d_p_X6_in (w := w) (by first | exact hw | simpa [gI, setI, setR, setJ, setT] using hw) h1 h2 (fun r4 s3 hw h1 h2 => ?_)
  by_cases cc : r4 = 0
  · replace h1 := h1.1 cc
    replace h2 := h2.1 cc
    exact hQ _ _ (by first | exact hw | simpa [gI, setI, setR, setJ, setT] using hw) h1 h2
  · replace h1 := h1.2 cc
    replace h2 := h2.2 cc
    refine d_p_X6_isYear (w := w) (by first | exact hw | simpa [gI, setI, setR, setJ, setT] using hw) h1 h2 (fun r7 s6 hw h1 h2 => ?_)
    by_cases cc : r7 = 0
    · replace h1 := h1.1 cc
      replace h2 := h2.1 cc
      exact hQ _ _ (by first | exact hw | simpa [gI, setI, setR, setJ, setT] using hw) h1 h2
    · replace h1 := h1.2 cc
      replace h2 := h2.2 cc
      refine d_p_X6_known (w := w) (by first | exact hw | simpa [gI, setI, setR, setJ, setT] using hw) h1 h2 (fun r10 s9 hw h1 h2 => ?_)
      obtain ⟨n11, h1⟩ := h1
      obtain ⟨n11x, h2⟩ := h2
      exact d_p_X6_look_L39 (w := w) (by first | exact hw | simpa [gI, setI, setR, setJ, setT] using hw) h1 h2 hQ
theorem d_p_X6_looks_b65 {G : Prop} {Q1 Q2 : Int32 → Sg → Prop} {K311 K312 : Nat → Int32 → Int32 → Int32 → Int32 → Sg → Prop} {x0 : Nat} {x1 : Int32} {x2 : Int32} {x4 : Int32} {t0 : Int32} {s : Sg} {w : Int32} (hw : gI s 0 20 = w) (h1 : p_X6_looks_b65 Q1 K311 x0 x1 x2 x4 t0 s) (h2 : p_X6_looks_b65 Q2 K312 x0 x1 x2 x4 t0 s) (hQ : ∀ (v0 : Int32) (v1 : Sg), gI v1 0 20 = w → Q1 v0 v1 → Q2 v0 v1 → G) (hK31 : ∀ (v0 : Nat) (v1 : Int32) (v2 : Int32) (v3 : Int32) (v4 : Int32) (v5 : Sg), gI v5 0 20 = w → K311 v0 v1 v2 v3 v4 v5 → K312 v0 v1 v2 v3 v4 v5 → G) : G := by
  unfold p_X6_looks_b65 at h1 h2
  exact hK31 _ _ _ _ _ _ (by first | exact hw | simpa [gI, setI, setR, setJ, setT] using hw) h1 h2
theorem d_p_X6_looks_b64 {G : Prop} {Q1 Q2 : Int32 → Sg → Prop} {K311 K312 : Nat → Int32 → Int32 → Int32 → Int32 → Sg → Prop} {x0 : Nat} {x1 : Int32} {x2 : Int32} {x3 : Int32} {x4 : Int32} {s : Sg} {w : Int32} (hw : gI s 0 20 = w) (h1 : p_X6_looks_b64 Q1 K311 x0 x1 x2 x3 x4 s) (h2 : p_X6_looks_b64 Q2 K312 x0 x1 x2 x3 x4 s) (hQ : ∀ (v0 : Int32) (v1 : Sg), gI v1 0 20 = w → Q1 v0 v1 → Q2 v0 v1 → G) (hK31 : ∀ (v0 : Nat) (v1 : Int32) (v2 : Int32) (v3 : Int32) (v4 : Int32) (v5 : Sg), gI v5 0 20 = w → K311 v0 v1 v2 v3 v4 v5 → K312 v0 v1 v2 v3 v4 v5 → G) : G := by
  unfold p_X6_looks_b64 at h1 h2
  exact d_p_X6_looks_b65 (w := w) (by first | exact hw | simpa [gI, setI, setR, setJ, setT] using hw) h1 h2 hQ hK31
theorem D_p_X6_looks_L31 {G : Prop} {Q1 Q2 : Int32 → Sg → Prop}  {w : Int32} (hQ : ∀ (v0 : Int32) (v1 : Sg), gI v1 0 20 = w → Q1 v0 v1 → Q2 v0 v1 → G) : ∀ (n m : Nat) (x0 : Nat) (x1 : Int32) (x2 : Int32) (x3 : Int32) (x4 : Int32) (s : Sg), gI s 0 20 = w → p_X6_looks_L31 Q1 n x0 x1 x2 x3 x4 s → p_X6_looks_L31 Q2 m x0 x1 x2 x3 x4 s → G := by
  intro n
  induction n with
  | zero =>
    intro m x0 x1 x2 x3 x4 s hw h1
    exact h1.elim
  | succ n ih =>
    intro m x0 x1 x2 x3 x4 s hw h1 h2
    cases m with
    | zero => exact h2.elim
    | succ m =>
      unfold p_X6_looks_L31 at h1 h2
      by_cases cc : x4 < 0
      · replace h1 := h1.1 cc
        replace h2 := h2.1 cc
        refine d_p_X6_manyOf (w := w) (by first | exact hw | simpa [gI, setI, setR, setJ, setT] using hw) h1 h2 (fun r3 s2 hw h1 h2 => ?_)
        exact hQ _ _ (by first | exact hw | simpa [gI, setI, setR, setJ, setT] using hw) h1 h2
      · replace h1 := h1.2 cc
        replace h2 := h2.2 cc
        refine d_p_X6_manyOf (w := w) (by first | exact hw | simpa [gI, setI, setR, setJ, setT] using hw) h1 h2 (fun r5 s4 hw h1 h2 => ?_)
        refine d_p_X6_manyOf (w := w) (by first | exact hw | simpa [gI, setI, setR, setJ, setT] using hw) h1 h2 (fun r7 s6 hw h1 h2 => ?_)
        by_cases cc : r7 < r5
        · replace h1 := h1.1 cc
          replace h2 := h2.1 cc
          exact d_p_X6_looks_b64 (w := w) (by first | exact hw | simpa [gI, setI, setR, setJ, setT] using hw) h1 h2 hQ (fun _ _ _ _ _ _ hw h1 h2 => ih _ _ _ _ _ _ _ hw h1 h2)
        · replace h1 := h1.2 cc
          replace h2 := h2.2 cc
          refine d_p_X6_known (w := w) (by first | exact hw | simpa [gI, setI, setR, setJ, setT] using hw) h1 h2 (fun r10 s9 hw h1 h2 => ?_)
          by_cases cc : r10 = x2
          · replace h1 := h1.1 cc
            replace h2 := h2.1 cc
            exact d_p_X6_looks_b65 (w := w) (by first | exact hw | simpa [gI, setI, setR, setJ, setT] using hw) h1 h2 hQ (fun _ _ _ _ _ _ hw h1 h2 => ih _ _ _ _ _ _ _ hw h1 h2)
          · replace h1 := h1.2 cc
            replace h2 := h2.2 cc
            exact d_p_X6_looks_b64 (w := w) (by first | exact hw | simpa [gI, setI, setR, setJ, setT] using hw) h1 h2 hQ (fun _ _ _ _ _ _ hw h1 h2 => ih _ _ _ _ _ _ _ hw h1 h2)
theorem d_p_X6_looks_L31 {G : Prop} {Q1 Q2 : Int32 → Sg → Prop}  {n m : Nat} {x0 : Nat} {x1 : Int32} {x2 : Int32} {x3 : Int32} {x4 : Int32} {s : Sg} {w : Int32} (hw : gI s 0 20 = w) (h1 : p_X6_looks_L31 Q1 n x0 x1 x2 x3 x4 s) (h2 : p_X6_looks_L31 Q2 m x0 x1 x2 x3 x4 s) (hQ : ∀ (v0 : Int32) (v1 : Sg), gI v1 0 20 = w → Q1 v0 v1 → Q2 v0 v1 → G) : G := D_p_X6_looks_L31 hQ n m x0 x1 x2 x3 x4 s hw h1 h2
theorem d_p_X6_looks {G : Prop} {Q1 Q2 : Int32 → Sg → Prop} {x0 : Nat} {x1 : Int32} {s : Sg} {w : Int32} (hw : gI s 0 20 = w) (h1 : p_X6_looks x0 x1 s Q1) (h2 : p_X6_looks x0 x1 s Q2) (hQ : ∀ (v0 : Int32) (v1 : Sg), gI v1 0 20 = w → Q1 v0 v1 → Q2 v0 v1 → G) : G := by
  unfold p_X6_looks at h1 h2
  refine d_p_X6_isYear (w := w) (by first | exact hw | simpa [gI, setI, setR, setJ, setT] using hw) h1 h2 (fun r2 s1 hw h1 h2 => ?_)
  by_cases cc : r2 = 0
  · replace h1 := h1.1 cc
    replace h2 := h2.1 cc
    exact hQ _ _ (by first | exact hw | simpa [gI, setI, setR, setJ, setT] using hw) h1 h2
  · replace h1 := h1.2 cc
    replace h2 := h2.2 cc
    refine d_p_X6_all (w := w) (by first | exact hw | simpa [gI, setI, setR, setJ, setT] using hw) h1 h2 (fun r5 s4 hw h1 h2 => ?_)
    refine d_p_X6_known (w := w) (by first | exact hw | simpa [gI, setI, setR, setJ, setT] using hw) h1 h2 (fun r7 s6 hw h1 h2 => ?_)
    refine d_p_X6_all (w := w) (by first | exact hw | simpa [gI, setI, setR, setJ, setT] using hw) h1 h2 (fun r9 s8 hw h1 h2 => ?_)
    refine d_p_X6_all (w := w) (by first | exact hw | simpa [gI, setI, setR, setJ, setT] using hw) h1 h2 (fun r11 s10 hw h1 h2 => ?_)
    obtain ⟨n12, h1⟩ := h1
    obtain ⟨n12x, h2⟩ := h2
    exact d_p_X6_looks_L31 (w := w) (by first | exact hw | simpa [gI, setI, setR, setJ, setT] using hw) h1 h2 hQ
theorem d_p_X6_line_b69 {G : Prop} {Q1 Q2 : Int32 → Sg → Prop} {K291 K292 : Nat → Int32 → Int32 → Int32 → Int32 → Int32 → Sg → Prop} {x0 : Nat} {x1 : Int32} {x3 : Int32} {x4 : Int32} {x5 : Int32} {t0 : Int32} {t1 : Int32} {s : Sg} {w : Int32} (hw : gI s 0 20 = w) (h1 : p_X6_line_b69 Q1 K291 x0 x1 x3 x4 x5 t0 t1 s) (h2 : p_X6_line_b69 Q2 K292 x0 x1 x3 x4 x5 t0 t1 s) (hQ : ∀ (v0 : Int32) (v1 : Sg), gI v1 0 20 = w → Q1 v0 v1 → Q2 v0 v1 → G) (hK29 : ∀ (v0 : Nat) (v1 : Int32) (v2 : Int32) (v3 : Int32) (v4 : Int32) (v5 : Int32) (v6 : Sg), gI v6 0 20 = w → K291 v0 v1 v2 v3 v4 v5 v6 → K292 v0 v1 v2 v3 v4 v5 v6 → G) : G := by
  unfold p_X6_line_b69 at h1 h2
  exact hK29 _ _ _ _ _ _ _ (by first | exact hw | simpa [gI, setI, setR, setJ, setT] using hw) h1 h2
theorem d_p_X6_line_b109 {G : Prop} {Q1 Q2 : Int32 → Sg → Prop} {K171 K172 : Nat → Int32 → Int32 → Int32 → Int32 → Sg → Prop} {x0 : Nat} {x1 : Int32} {x2 : Int32} {x4 : Int32} {t0 : Int32} {s : Sg} {w : Int32} (hw : gI s 0 20 = w) (h1 : p_X6_line_b109 Q1 K171 x0 x1 x2 x4 t0 s) (h2 : p_X6_line_b109 Q2 K172 x0 x1 x2 x4 t0 s) (hQ : ∀ (v0 : Int32) (v1 : Sg), gI v1 0 20 = w → Q1 v0 v1 → Q2 v0 v1 → G) (hK17 : ∀ (v0 : Nat) (v1 : Int32) (v2 : Int32) (v3 : Int32) (v4 : Int32) (v5 : Sg), gI v5 0 20 = w → K171 v0 v1 v2 v3 v4 v5 → K172 v0 v1 v2 v3 v4 v5 → G) : G := by
  unfold p_X6_line_b109 at h1 h2
  exact hK17 _ _ _ _ _ _ (by first | exact hw | simpa [gI, setI, setR, setJ, setT] using hw) h1 h2
theorem D_p_X6_line_L29 {G : Prop} {Q1 Q2 : Int32 → Sg → Prop} {K171 K172 : Nat → Int32 → Int32 → Int32 → Int32 → Sg → Prop}  {w : Int32} (hQ : ∀ (v0 : Int32) (v1 : Sg), gI v1 0 20 = w → Q1 v0 v1 → Q2 v0 v1 → G) (hK17 : ∀ (v0 : Nat) (v1 : Int32) (v2 : Int32) (v3 : Int32) (v4 : Int32) (v5 : Sg), gI v5 0 20 = w → K171 v0 v1 v2 v3 v4 v5 → K172 v0 v1 v2 v3 v4 v5 → G) : ∀ (n m : Nat) (x0 : Nat) (x1 : Int32) (x2 : Int32) (x3 : Int32) (x4 : Int32) (x5 : Int32) (s : Sg), gI s 0 20 = w → p_X6_line_L29 Q1 K171 n x0 x1 x2 x3 x4 x5 s → p_X6_line_L29 Q2 K172 m x0 x1 x2 x3 x4 x5 s → G := by
  intro n
  induction n with
  | zero =>
    intro m x0 x1 x2 x3 x4 x5 s hw h1
    exact h1.elim
  | succ n ih =>
    intro m x0 x1 x2 x3 x4 x5 s hw h1 h2
    cases m with
    | zero => exact h2.elim
    | succ m =>
      unfold p_X6_line_L29 at h1 h2
      by_cases cc : x4 ≤ x5
      · replace h1 := h1.1 cc
        replace h2 := h2.1 cc
        obtain ⟨k2, e0, _, _, h1⟩ := h1
        obtain ⟨k2x, f0, _, _, h2⟩ := h2
        have ee := Option.some.inj (e0.symm.trans f0)
        subst ee
        obtain ⟨k6, e0, _, _, h1⟩ := h1
        obtain ⟨k6x, f0, _, _, h2⟩ := h2
        have ee := Option.some.inj (e0.symm.trans f0)
        subst ee
        by_cases cc : (gR s k6 ((6 * x1) + x3).toNatClampNeg) ≤ (gR s k2 ((6 * x1) + x4).toNatClampNeg)
        · replace h1 := h1.1 cc
          replace h2 := h2.1 cc
          exact d_p_X6_line_b109 (w := w) (by first | exact hw | simpa [gI, setI, setR, setJ, setT] using hw) h1 h2 hQ hK17
        · replace h1 := h1.2 cc
          replace h2 := h2.2 cc
          exact d_p_X6_line_b109 (w := w) (by first | exact hw | simpa [gI, setI, setR, setJ, setT] using hw) h1 h2 hQ hK17
      · replace h1 := h1.2 cc
        replace h2 := h2.2 cc
        obtain ⟨k11, e0, _, _, h1⟩ := h1
        obtain ⟨k11x, f0, _, _, h2⟩ := h2
        have ee := Option.some.inj (e0.symm.trans f0)
        subst ee
        obtain ⟨k15, e0, _, _, h1⟩ := h1
        obtain ⟨k15x, f0, _, _, h2⟩ := h2
        have ee := Option.some.inj (e0.symm.trans f0)
        subst ee
        by_cases cc : (gR s k11 ((6 * x1) + x5).toNatClampNeg) ≤ (gR s k15 ((6 * x1) + x4).toNatClampNeg)
        · replace h1 := h1.1 cc
          replace h2 := h2.1 cc
          exact d_p_X6_line_b69 (w := w) (by first | exact hw | simpa [gI, setI, setR, setJ, setT] using hw) h1 h2 hQ (fun _ _ _ _ _ _ _ hw h1 h2 => ih _ _ _ _ _ _ _ _ hw h1 h2)
        · replace h1 := h1.2 cc
          replace h2 := h2.2 cc
          exact d_p_X6_line_b69 (w := w) (by first | exact hw | simpa [gI, setI, setR, setJ, setT] using hw) h1 h2 hQ (fun _ _ _ _ _ _ _ hw h1 h2 => ih _ _ _ _ _ _ _ _ hw h1 h2)
theorem d_p_X6_line_L29 {G : Prop} {Q1 Q2 : Int32 → Sg → Prop} {K171 K172 : Nat → Int32 → Int32 → Int32 → Int32 → Sg → Prop}  {n m : Nat} {x0 : Nat} {x1 : Int32} {x2 : Int32} {x3 : Int32} {x4 : Int32} {x5 : Int32} {s : Sg} {w : Int32} (hw : gI s 0 20 = w) (h1 : p_X6_line_L29 Q1 K171 n x0 x1 x2 x3 x4 x5 s) (h2 : p_X6_line_L29 Q2 K172 m x0 x1 x2 x3 x4 x5 s) (hQ : ∀ (v0 : Int32) (v1 : Sg), gI v1 0 20 = w → Q1 v0 v1 → Q2 v0 v1 → G) (hK17 : ∀ (v0 : Nat) (v1 : Int32) (v2 : Int32) (v3 : Int32) (v4 : Int32) (v5 : Sg), gI v5 0 20 = w → K171 v0 v1 v2 v3 v4 v5 → K172 v0 v1 v2 v3 v4 v5 → G) : G := D_p_X6_line_L29 hQ hK17 n m x0 x1 x2 x3 x4 x5 s hw h1 h2
theorem D_p_X6_line_L17 {G : Prop} {Q1 Q2 : Int32 → Sg → Prop}  {w : Int32} (hQ : ∀ (v0 : Int32) (v1 : Sg), gI v1 0 20 = w → Q1 v0 v1 → Q2 v0 v1 → G) : ∀ (n m : Nat) (x0 : Nat) (x1 : Int32) (x2 : Int32) (x3 : Int32) (x4 : Int32) (s : Sg), gI s 0 20 = w → p_X6_line_L17 Q1 n x0 x1 x2 x3 x4 s → p_X6_line_L17 Q2 m x0 x1 x2 x3 x4 s → G := by
  intro n
  induction n with
  | zero =>
    intro m x0 x1 x2 x3 x4 s hw h1
    exact h1.elim
  | succ n ih =>
    intro m x0 x1 x2 x3 x4 s hw h1 h2
    cases m with
    | zero => exact h2.elim
    | succ m =>
      unfold p_X6_line_L17 at h1 h2
      by_cases cc : (gI s x0 20) ≤ x4
      · replace h1 := h1.1 cc
        replace h2 := h2.1 cc
        exact hQ _ _ (by first | exact hw | simpa [gI, setI, setR, setJ, setT] using hw) h1 h2
      · replace h1 := h1.2 cc
        replace h2 := h2.2 cc
        obtain ⟨n2, h1⟩ := h1
        obtain ⟨n2x, h2⟩ := h2
        exact d_p_X6_line_L29 (w := w) (by first | exact hw | simpa [gI, setI, setR, setJ, setT] using hw) h1 h2 hQ (fun _ _ _ _ _ _ hw h1 h2 => ih _ _ _ _ _ _ _ hw h1 h2)
theorem d_p_X6_line_L17 {G : Prop} {Q1 Q2 : Int32 → Sg → Prop}  {n m : Nat} {x0 : Nat} {x1 : Int32} {x2 : Int32} {x3 : Int32} {x4 : Int32} {s : Sg} {w : Int32} (hw : gI s 0 20 = w) (h1 : p_X6_line_L17 Q1 n x0 x1 x2 x3 x4 s) (h2 : p_X6_line_L17 Q2 m x0 x1 x2 x3 x4 s) (hQ : ∀ (v0 : Int32) (v1 : Sg), gI v1 0 20 = w → Q1 v0 v1 → Q2 v0 v1 → G) : G := D_p_X6_line_L17 hQ n m x0 x1 x2 x3 x4 s hw h1 h2
theorem d_p_X6_line {G : Prop} {Q1 Q2 : Int32 → Sg → Prop} {x0 : Nat} {x1 : Int32} {s : Sg} {w : Int32} (hw : gI s 0 20 = w) (h1 : p_X6_line x0 x1 s Q1) (h2 : p_X6_line x0 x1 s Q2) (hQ : ∀ (v0 : Int32) (v1 : Sg), gI v1 0 20 = w → Q1 v0 v1 → Q2 v0 v1 → G) : G := by
  unfold p_X6_line at h1 h2
  refine d_p_X6_isYear (w := w) (by first | exact hw | simpa [gI, setI, setR, setJ, setT] using hw) h1 h2 (fun r2 s1 hw h1 h2 => ?_)
  by_cases cc : r2 = 0
  · replace h1 := h1.1 cc
    replace h2 := h2.1 cc
    exact hQ _ _ (by first | exact hw | simpa [gI, setI, setR, setJ, setT] using hw) h1 h2
  · replace h1 := h1.2 cc
    replace h2 := h2.2 cc
    obtain ⟨n4, h1⟩ := h1
    obtain ⟨n4x, h2⟩ := h2
    exact d_p_X6_line_L17 (w := w) (by first | exact hw | simpa [gI, setI, setR, setJ, setT] using hw) h1 h2 hQ
theorem d_p_X6_judge_b108 {G : Prop} {Q1 Q2 : Int32 → Sg → Prop} {K551 K552 : Nat → Int32 → Int32 → Int32 → Sg → Prop} {x0 : Nat} {x2 : Int32} {x4 : Int32} {t0 : Int32} {s : Sg} {w : Int32} (hw : gI s 0 20 = w) (h1 : p_X6_judge_b108 Q1 K551 x0 x2 x4 t0 s) (h2 : p_X6_judge_b108 Q2 K552 x0 x2 x4 t0 s) (hQ : ∀ (v0 : Int32) (v1 : Sg), gI v1 0 20 = w → Q1 v0 v1 → Q2 v0 v1 → G) (hK55 : ∀ (v0 : Nat) (v1 : Int32) (v2 : Int32) (v3 : Int32) (v4 : Sg), gI v4 0 20 = w → K551 v0 v1 v2 v3 v4 → K552 v0 v1 v2 v3 v4 → G) : G := by
  unfold p_X6_judge_b108 at h1 h2
  exact hK55 _ _ _ _ _ (by first | exact hw | simpa [gI, setI, setR, setJ, setT] using hw) h1 h2
theorem d_p_X6_judge_b107 {G : Prop} {Q1 Q2 : Int32 → Sg → Prop} {K551 K552 : Nat → Int32 → Int32 → Int32 → Sg → Prop} {x0 : Nat} {x2 : Int32} {x4 : Int32} {s : Sg} {w : Int32} (hw : gI s 0 20 = w) (h1 : p_X6_judge_b107 Q1 K551 x0 x2 x4 s) (h2 : p_X6_judge_b107 Q2 K552 x0 x2 x4 s) (hQ : ∀ (v0 : Int32) (v1 : Sg), gI v1 0 20 = w → Q1 v0 v1 → Q2 v0 v1 → G) (hK55 : ∀ (v0 : Nat) (v1 : Int32) (v2 : Int32) (v3 : Int32) (v4 : Sg), gI v4 0 20 = w → K551 v0 v1 v2 v3 v4 → K552 v0 v1 v2 v3 v4 → G) : G := by
  unfold p_X6_judge_b107 at h1 h2
  exact d_p_X6_judge_b108 (w := w) (by first | exact hw | simpa [gI, setI, setR, setJ, setT] using hw) h1 h2 hQ hK55
theorem d_p_X6_judge_b97 {G : Prop} {Q1 Q2 : Int32 → Sg → Prop} {K551 K552 : Nat → Int32 → Int32 → Int32 → Sg → Prop} {x0 : Nat} {x2 : Int32} {x4 : Int32} {t0 : Int32} {t1 : Int32} {t2 : Int32} {s : Sg} {w : Int32} (hw : gI s 0 20 = w) (h1 : p_X6_judge_b97 Q1 K551 x0 x2 x4 t0 t1 t2 s) (h2 : p_X6_judge_b97 Q2 K552 x0 x2 x4 t0 t1 t2 s) (hQ : ∀ (v0 : Int32) (v1 : Sg), gI v1 0 20 = w → Q1 v0 v1 → Q2 v0 v1 → G) (hK55 : ∀ (v0 : Nat) (v1 : Int32) (v2 : Int32) (v3 : Int32) (v4 : Sg), gI v4 0 20 = w → K551 v0 v1 v2 v3 v4 → K552 v0 v1 v2 v3 v4 → G) : G := by
  unfold p_X6_judge_b97 at h1 h2
  refine d_p_X6_in (w := w) (by first | exact hw | simpa [gI, setI, setR, setJ, setT] using hw) h1 h2 (fun r2 s1 hw h1 h2 => ?_)
  by_cases cc : r2 = 0
  · replace h1 := h1.1 cc
    replace h2 := h2.1 cc
    exact d_p_X6_judge_b107 (w := w) (by first | exact hw | simpa [gI, setI, setR, setJ, setT] using hw) h1 h2 hQ hK55
  · replace h1 := h1.2 cc
    replace h2 := h2.2 cc
    exact d_p_X6_judge_b108 (w := w) (by first | exact hw | simpa [gI, setI, setR, setJ, setT] using hw) h1 h2 hQ hK55
theorem D_p_X6_judge_L55 {G : Prop} {Q1 Q2 : Int32 → Sg → Prop}  {w : Int32} (hQ : ∀ (v0 : Int32) (v1 : Sg), gI v1 0 20 = w → Q1 v0 v1 → Q2 v0 v1 → G) : ∀ (n m : Nat) (x0 : Nat) (x2 : Int32) (x3 : Int32) (x4 : Int32) (s : Sg), gI s 0 20 = w → p_X6_judge_L55 Q1 n x0 x2 x3 x4 s → p_X6_judge_L55 Q2 m x0 x2 x3 x4 s → G := by
  intro n
  induction n with
  | zero =>
    intro m x0 x2 x3 x4 s hw h1
    exact h1.elim
  | succ n ih =>
    intro m x0 x2 x3 x4 s hw h1 h2
    cases m with
    | zero => exact h2.elim
    | succ m =>
      unfold p_X6_judge_L55 at h1 h2
      obtain ⟨k1, e0, _, _, h1⟩ := h1
      obtain ⟨k1x, f0, _, _, h2⟩ := h2
      have ee := Option.some.inj (e0.symm.trans f0)
      subst ee
      by_cases cc : (gR s k1 x2.toNatClampNeg) ≤ x4
      · replace h1 := h1.1 cc
        replace h2 := h2.1 cc
        by_cases cc : x3 = 0
        · replace h1 := h1.1 cc
          replace h2 := h2.1 cc
          refine d_p_X6_refuse (w := w) (by first | exact hw | simpa [gI, setI, setR, setJ, setT] using hw) h1 h2 (fun r8 s7 hw h1 h2 => ?_)
          exact hQ _ _ (by first | exact hw | simpa [gI, setI, setR, setJ, setT] using hw) h1 h2
        · replace h1 := h1.2 cc
          replace h2 := h2.2 cc
          exact hQ _ _ (by first | exact hw | simpa [gI, setI, setR, setJ, setT] using hw) h1 h2
      · replace h1 := h1.2 cc
        replace h2 := h2.2 cc
        by_cases cc : x3 = 0
        · replace h1 := h1.1 cc
          replace h2 := h2.1 cc
          exact d_p_X6_judge_b107 (w := w) (by first | exact hw | simpa [gI, setI, setR, setJ, setT] using hw) h1 h2 hQ (fun _ _ _ _ _ hw h1 h2 => ih _ _ _ _ _ _ hw h1 h2)
        · replace h1 := h1.2 cc
          replace h2 := h2.2 cc
          obtain ⟨k10, e0, _, _, h1⟩ := h1
          obtain ⟨k10x, f0, _, _, h2⟩ := h2
          have ee := Option.some.inj (e0.symm.trans f0)
          subst ee
          by_cases cc : (x4 - x4 / 2 * 2) = 0
          · replace h1 := h1.1 cc
            replace h2 := h2.1 cc
            exact d_p_X6_judge_b97 (w := w) (by first | exact hw | simpa [gI, setI, setR, setJ, setT] using hw) h1 h2 hQ (fun _ _ _ _ _ hw h1 h2 => ih _ _ _ _ _ _ hw h1 h2)
          · replace h1 := h1.2 cc
            replace h2 := h2.2 cc
            exact d_p_X6_judge_b97 (w := w) (by first | exact hw | simpa [gI, setI, setR, setJ, setT] using hw) h1 h2 hQ (fun _ _ _ _ _ hw h1 h2 => ih _ _ _ _ _ _ hw h1 h2)
theorem d_p_X6_judge_L55 {G : Prop} {Q1 Q2 : Int32 → Sg → Prop}  {n m : Nat} {x0 : Nat} {x2 : Int32} {x3 : Int32} {x4 : Int32} {s : Sg} {w : Int32} (hw : gI s 0 20 = w) (h1 : p_X6_judge_L55 Q1 n x0 x2 x3 x4 s) (h2 : p_X6_judge_L55 Q2 m x0 x2 x3 x4 s) (hQ : ∀ (v0 : Int32) (v1 : Sg), gI v1 0 20 = w → Q1 v0 v1 → Q2 v0 v1 → G) : G := D_p_X6_judge_L55 hQ n m x0 x2 x3 x4 s hw h1 h2
theorem d_p_X6_judge {G : Prop} {Q1 Q2 : Int32 → Sg → Prop} {x0 : Nat} {x1 : Int32} {x2 : Int32} {s : Sg} {w : Int32} (hw : gI s 0 20 = w) (h1 : p_X6_judge x0 x1 x2 s Q1) (h2 : p_X6_judge x0 x1 x2 s Q2) (hQ : ∀ (v0 : Int32) (v1 : Sg), gI v1 0 20 = w → Q1 v0 v1 → Q2 v0 v1 → G) : G := by
  unfold p_X6_judge at h1 h2
  refine d_p_X6_isWoman (w := w) (by first | exact hw | simpa [gI, setI, setR, setJ, setT] using hw) h1 h2 (fun r2 s1 hw h1 h2 => ?_)
  by_cases cc : r2 = 0
  · replace h1 := h1.1 cc
    replace h2 := h2.1 cc
    exact hQ _ _ (by first | exact hw | simpa [gI, setI, setR, setJ, setT] using hw) h1 h2
  · replace h1 := h1.2 cc
    replace h2 := h2.2 cc
    refine d_p_X6_isRow (w := w) (by first | exact hw | simpa [gI, setI, setR, setJ, setT] using hw) h1 h2 (fun r5 s4 hw h1 h2 => ?_)
    by_cases cc : r5 = 0
    · replace h1 := h1.1 cc
      replace h2 := h2.1 cc
      exact hQ _ _ (by first | exact hw | simpa [gI, setI, setR, setJ, setT] using hw) h1 h2
    · replace h1 := h1.2 cc
      replace h2 := h2.2 cc
      obtain ⟨k7, e0, _, _, h1⟩ := h1
      obtain ⟨k7x, f0, _, _, h2⟩ := h2
      have ee := Option.some.inj (e0.symm.trans f0)
      subst ee
      by_cases cc : 0 ≤ (gR s4 k7 x2.toNatClampNeg)
      · replace h1 := h1.1 cc
        replace h2 := h2.1 cc
        obtain ⟨k12, e0, _, _, h1⟩ := h1
        obtain ⟨k12x, f0, _, _, h2⟩ := h2
        have ee := Option.some.inj (e0.symm.trans f0)
        subst ee
        by_cases cc : ((gR s4 k12 x2.toNatClampNeg) - (gR s4 k12 x2.toNatClampNeg) / 2 * 2) = 1
        · replace h1 := h1.1 cc
          replace h2 := h2.1 cc
          refine d_p_X6_refuse (w := w) (by first | exact hw | simpa [gI, setI, setR, setJ, setT] using hw) h1 h2 (fun r19 s18 hw h1 h2 => ?_)
          exact hQ _ _ (by first | exact hw | simpa [gI, setI, setR, setJ, setT] using hw) h1 h2
        · replace h1 := h1.2 cc
          replace h2 := h2.2 cc
          obtain ⟨n17, h1⟩ := h1
          obtain ⟨n17x, h2⟩ := h2
          exact d_p_X6_judge_L55 (w := w) (by first | exact hw | simpa [gI, setI, setR, setJ, setT] using hw) h1 h2 hQ
      · replace h1 := h1.2 cc
        replace h2 := h2.2 cc
        refine d_p_X6_refuse (w := w) (by first | exact hw | simpa [gI, setI, setR, setJ, setT] using hw) h1 h2 (fun r21 s20 hw h1 h2 => ?_)
        exact hQ _ _ (by first | exact hw | simpa [gI, setI, setR, setJ, setT] using hw) h1 h2
theorem d_p_X6_kindsBy_b75 {G : Prop} {Q1 Q2 : Int32 → Sg → Prop} {K181 K182 : Nat → Int32 → Int32 → Int32 → Int32 → Int32 → Int32 → Sg → Prop} {x0 : Nat} {x1 : Int32} {x2 : Int32} {x3 : Int32} {x4 : Int32} {x6 : Int32} {t0 : Int32} {s : Sg} {w : Int32} (hw : gI s 0 20 = w) (h1 : p_X6_kindsBy_b75 Q1 K181 x0 x1 x2 x3 x4 x6 t0 s) (h2 : p_X6_kindsBy_b75 Q2 K182 x0 x1 x2 x3 x4 x6 t0 s) (hQ : ∀ (v0 : Int32) (v1 : Sg), gI v1 0 20 = w → Q1 v0 v1 → Q2 v0 v1 → G) (hK18 : ∀ (v0 : Nat) (v1 : Int32) (v2 : Int32) (v3 : Int32) (v4 : Int32) (v5 : Int32) (v6 : Int32) (v7 : Sg), gI v7 0 20 = w → K181 v0 v1 v2 v3 v4 v5 v6 v7 → K182 v0 v1 v2 v3 v4 v5 v6 v7 → G) : G := by
  unfold p_X6_kindsBy_b75 at h1 h2
  exact hK18 _ _ _ _ _ _ _ _ (by first | exact hw | simpa [gI, setI, setR, setJ, setT] using hw) h1 h2
theorem d_p_X6_kindsBy_b74 {G : Prop} {Q1 Q2 : Int32 → Sg → Prop} {K181 K182 : Nat → Int32 → Int32 → Int32 → Int32 → Int32 → Int32 → Sg → Prop} {x0 : Nat} {x1 : Int32} {x2 : Int32} {x3 : Int32} {x4 : Int32} {x6 : Int32} {s : Sg} {w : Int32} (hw : gI s 0 20 = w) (h1 : p_X6_kindsBy_b74 Q1 K181 x0 x1 x2 x3 x4 x6 s) (h2 : p_X6_kindsBy_b74 Q2 K182 x0 x1 x2 x3 x4 x6 s) (hQ : ∀ (v0 : Int32) (v1 : Sg), gI v1 0 20 = w → Q1 v0 v1 → Q2 v0 v1 → G) (hK18 : ∀ (v0 : Nat) (v1 : Int32) (v2 : Int32) (v3 : Int32) (v4 : Int32) (v5 : Int32) (v6 : Int32) (v7 : Sg), gI v7 0 20 = w → K181 v0 v1 v2 v3 v4 v5 v6 v7 → K182 v0 v1 v2 v3 v4 v5 v6 v7 → G) : G := by
  unfold p_X6_kindsBy_b74 at h1 h2
  exact d_p_X6_kindsBy_b75 (w := w) (by first | exact hw | simpa [gI, setI, setR, setJ, setT] using hw) h1 h2 hQ hK18
theorem d_p_X6_kindsBy_b97 {G : Prop} {Q1 Q2 : Int32 → Sg → Prop} {K51 K52 : Nat → Int32 → Int32 → Int32 → Int32 → Sg → Prop} {x0 : Nat} {x1 : Int32} {x2 : Int32} {x4 : Int32} {t0 : Int32} {t1 : Int32} {s : Sg} {w : Int32} (hw : gI s 0 20 = w) (h1 : p_X6_kindsBy_b97 Q1 K51 x0 x1 x2 x4 t0 t1 s) (h2 : p_X6_kindsBy_b97 Q2 K52 x0 x1 x2 x4 t0 t1 s) (hQ : ∀ (v0 : Int32) (v1 : Sg), gI v1 0 20 = w → Q1 v0 v1 → Q2 v0 v1 → G) (hK5 : ∀ (v0 : Nat) (v1 : Int32) (v2 : Int32) (v3 : Int32) (v4 : Int32) (v5 : Sg), gI v5 0 20 = w → K51 v0 v1 v2 v3 v4 v5 → K52 v0 v1 v2 v3 v4 v5 → G) : G := by
  unfold p_X6_kindsBy_b97 at h1 h2
  exact hK5 _ _ _ _ _ _ (by first | exact hw | simpa [gI, setI, setR, setJ, setT] using hw) h1 h2
theorem D_p_X6_kindsBy_L18 {G : Prop} {Q1 Q2 : Int32 → Sg → Prop} {K51 K52 : Nat → Int32 → Int32 → Int32 → Int32 → Sg → Prop}  {w : Int32} (hQ : ∀ (v0 : Int32) (v1 : Sg), gI v1 0 20 = w → Q1 v0 v1 → Q2 v0 v1 → G) (hK5 : ∀ (v0 : Nat) (v1 : Int32) (v2 : Int32) (v3 : Int32) (v4 : Int32) (v5 : Sg), gI v5 0 20 = w → K51 v0 v1 v2 v3 v4 v5 → K52 v0 v1 v2 v3 v4 v5 → G) : ∀ (n m : Nat) (x0 : Nat) (x1 : Int32) (x2 : Int32) (x3 : Int32) (x4 : Int32) (x5 : Int32) (x6 : Int32) (s : Sg), gI s 0 20 = w → p_X6_kindsBy_L18 Q1 K51 n x0 x1 x2 x3 x4 x5 x6 s → p_X6_kindsBy_L18 Q2 K52 m x0 x1 x2 x3 x4 x5 x6 s → G := by
  intro n
  induction n with
  | zero =>
    intro m x0 x1 x2 x3 x4 x5 x6 s hw h1
    exact h1.elim
  | succ n ih =>
    intro m x0 x1 x2 x3 x4 x5 x6 s hw h1 h2
    cases m with
    | zero => exact h2.elim
    | succ m =>
      unfold p_X6_kindsBy_L18 at h1 h2
      obtain ⟨k1, e0, _, _, h1⟩ := h1
      obtain ⟨k1x, f0, _, _, h2⟩ := h2
      have ee := Option.some.inj (e0.symm.trans f0)
      subst ee
      by_cases cc : (gR s k1 x2.toNatClampNeg) ≤ x6
      · replace h1 := h1.1 cc
        replace h2 := h2.1 cc
        by_cases cc : x5 = 0
        · replace h1 := h1.1 cc
          replace h2 := h2.1 cc
          exact d_p_X6_kindsBy_b97 (w := w) (by first | exact hw | simpa [gI, setI, setR, setJ, setT] using hw) h1 h2 hQ hK5
        · replace h1 := h1.2 cc
          replace h2 := h2.2 cc
          exact d_p_X6_kindsBy_b97 (w := w) (by first | exact hw | simpa [gI, setI, setR, setJ, setT] using hw) h1 h2 hQ hK5
      · replace h1 := h1.2 cc
        replace h2 := h2.2 cc
        by_cases cc : x5 = 0
        · replace h1 := h1.1 cc
          replace h2 := h2.1 cc
          exact d_p_X6_kindsBy_b74 (w := w) (by first | exact hw | simpa [gI, setI, setR, setJ, setT] using hw) h1 h2 hQ (fun _ _ _ _ _ _ _ _ hw h1 h2 => ih _ _ _ _ _ _ _ _ _ hw h1 h2)
        · replace h1 := h1.2 cc
          replace h2 := h2.2 cc
          obtain ⟨k8, e0, _, _, h1⟩ := h1
          obtain ⟨k8x, f0, _, _, h2⟩ := h2
          have ee := Option.some.inj (e0.symm.trans f0)
          subst ee
          refine d_p_X6_hemNow (w := w) (by first | exact hw | simpa [gI, setI, setR, setJ, setT] using hw) h1 h2 (fun r13 s12 hw h1 h2 => ?_)
          obtain ⟨k14, e0, _, _, h1⟩ := h1
          obtain ⟨k14x, f0, _, _, h2⟩ := h2
          have ee := Option.some.inj (e0.symm.trans f0)
          subst ee
          by_cases cc : r13 = (gR s12 k14 (((40 * x2) + x6) + 1).toNatClampNeg)
          · replace h1 := h1.1 cc
            replace h2 := h2.1 cc
            exact d_p_X6_kindsBy_b75 (w := w) (by first | exact hw | simpa [gI, setI, setR, setJ, setT] using hw) h1 h2 hQ (fun _ _ _ _ _ _ _ _ hw h1 h2 => ih _ _ _ _ _ _ _ _ _ hw h1 h2)
          · replace h1 := h1.2 cc
            replace h2 := h2.2 cc
            exact d_p_X6_kindsBy_b74 (w := w) (by first | exact hw | simpa [gI, setI, setR, setJ, setT] using hw) h1 h2 hQ (fun _ _ _ _ _ _ _ _ hw h1 h2 => ih _ _ _ _ _ _ _ _ _ hw h1 h2)
theorem d_p_X6_kindsBy_L18 {G : Prop} {Q1 Q2 : Int32 → Sg → Prop} {K51 K52 : Nat → Int32 → Int32 → Int32 → Int32 → Sg → Prop}  {n m : Nat} {x0 : Nat} {x1 : Int32} {x2 : Int32} {x3 : Int32} {x4 : Int32} {x5 : Int32} {x6 : Int32} {s : Sg} {w : Int32} (hw : gI s 0 20 = w) (h1 : p_X6_kindsBy_L18 Q1 K51 n x0 x1 x2 x3 x4 x5 x6 s) (h2 : p_X6_kindsBy_L18 Q2 K52 m x0 x1 x2 x3 x4 x5 x6 s) (hQ : ∀ (v0 : Int32) (v1 : Sg), gI v1 0 20 = w → Q1 v0 v1 → Q2 v0 v1 → G) (hK5 : ∀ (v0 : Nat) (v1 : Int32) (v2 : Int32) (v3 : Int32) (v4 : Int32) (v5 : Sg), gI v5 0 20 = w → K51 v0 v1 v2 v3 v4 v5 → K52 v0 v1 v2 v3 v4 v5 → G) : G := D_p_X6_kindsBy_L18 hQ hK5 n m x0 x1 x2 x3 x4 x5 x6 s hw h1 h2
theorem D_p_X6_kindsBy_L5 {G : Prop} {Q1 Q2 : Int32 → Sg → Prop}  {w : Int32} (hQ : ∀ (v0 : Int32) (v1 : Sg), gI v1 0 20 = w → Q1 v0 v1 → Q2 v0 v1 → G) : ∀ (n m : Nat) (x0 : Nat) (x1 : Int32) (x2 : Int32) (x3 : Int32) (x4 : Int32) (s : Sg), gI s 0 20 = w → p_X6_kindsBy_L5 Q1 n x0 x1 x2 x3 x4 s → p_X6_kindsBy_L5 Q2 m x0 x1 x2 x3 x4 s → G := by
  intro n
  induction n with
  | zero =>
    intro m x0 x1 x2 x3 x4 s hw h1
    exact h1.elim
  | succ n ih =>
    intro m x0 x1 x2 x3 x4 s hw h1 h2
    cases m with
    | zero => exact h2.elim
    | succ m =>
      unfold p_X6_kindsBy_L5 at h1 h2
      by_cases cc : 6 ≤ x4
      · replace h1 := h1.1 cc
        replace h2 := h2.1 cc
        exact hQ _ _ (by first | exact hw | simpa [gI, setI, setR, setJ, setT] using hw) h1 h2
      · replace h1 := h1.2 cc
        replace h2 := h2.2 cc
        obtain ⟨n2, h1⟩ := h1
        obtain ⟨n2x, h2⟩ := h2
        exact d_p_X6_kindsBy_L18 (w := w) (by first | exact hw | simpa [gI, setI, setR, setJ, setT] using hw) h1 h2 hQ (fun _ _ _ _ _ _ hw h1 h2 => ih _ _ _ _ _ _ _ hw h1 h2)
theorem d_p_X6_kindsBy_L5 {G : Prop} {Q1 Q2 : Int32 → Sg → Prop}  {n m : Nat} {x0 : Nat} {x1 : Int32} {x2 : Int32} {x3 : Int32} {x4 : Int32} {s : Sg} {w : Int32} (hw : gI s 0 20 = w) (h1 : p_X6_kindsBy_L5 Q1 n x0 x1 x2 x3 x4 s) (h2 : p_X6_kindsBy_L5 Q2 m x0 x1 x2 x3 x4 s) (hQ : ∀ (v0 : Int32) (v1 : Sg), gI v1 0 20 = w → Q1 v0 v1 → Q2 v0 v1 → G) : G := D_p_X6_kindsBy_L5 hQ n m x0 x1 x2 x3 x4 s hw h1 h2
theorem d_p_X6_kindsBy {G : Prop} {Q1 Q2 : Int32 → Sg → Prop} {x0 : Nat} {x1 : Int32} {x2 : Int32} {s : Sg} {w : Int32} (hw : gI s 0 20 = w) (h1 : p_X6_kindsBy x0 x1 x2 s Q1) (h2 : p_X6_kindsBy x0 x1 x2 s Q2) (hQ : ∀ (v0 : Int32) (v1 : Sg), gI v1 0 20 = w → Q1 v0 v1 → Q2 v0 v1 → G) : G := by
  unfold p_X6_kindsBy at h1 h2
  obtain ⟨n1, h1⟩ := h1
  obtain ⟨n1x, h2⟩ := h2
  exact d_p_X6_kindsBy_L5 (w := w) (by first | exact hw | simpa [gI, setI, setR, setJ, setT] using hw) h1 h2 hQ
theorem d_p_X6_kinds {G : Prop} {Q1 Q2 : Int32 → Sg → Prop} {x0 : Nat} {x1 : Int32} {x2 : Int32} {s : Sg} {w : Int32} (hw : gI s 0 20 = w) (h1 : p_X6_kinds x0 x1 x2 s Q1) (h2 : p_X6_kinds x0 x1 x2 s Q2) (hQ : ∀ (v0 : Int32) (v1 : Sg), gI v1 0 20 = w → Q1 v0 v1 → Q2 v0 v1 → G) : G := by
  unfold p_X6_kinds at h1 h2
  refine d_p_X6_judge (w := w) (by first | exact hw | simpa [gI, setI, setR, setJ, setT] using hw) h1 h2 (fun r2 s1 hw h1 h2 => ?_)
  by_cases cc : 0 ≤ r2
  · replace h1 := h1.1 cc
    replace h2 := h2.1 cc
    refine d_p_X6_kindsBy (w := w) (by first | exact hw | simpa [gI, setI, setR, setJ, setT] using hw) h1 h2 (fun r5 s4 hw h1 h2 => ?_)
    exact hQ _ _ (by first | exact hw | simpa [gI, setI, setR, setJ, setT] using hw) h1 h2
  · replace h1 := h1.2 cc
    replace h2 := h2.2 cc
    exact hQ _ _ (by first | exact hw | simpa [gI, setI, setR, setJ, setT] using hw) h1 h2
theorem d_p_X6_test_b104 {G : Prop} {Q1 Q2 : Int32 → Sg → Prop} {K651 K652 : Nat → Int32 → Int32 → Int32 → Int32 → Int32 → Int32 → Int32 → Int32 → Int32 → Sg → Prop} {x0 : Nat} {x1 : Int32} {x4 : Int32} {x5 : Int32} {x6 : Int32} {x7 : Int32} {x8 : Int32} {x9 : Int32} {x11 : Int32} {t0 : Int32} {t1 : Int32} {s : Sg} {w : Int32} (hw : gI s 0 20 = w) (h1 : p_X6_test_b104 Q1 K651 x0 x1 x4 x5 x6 x7 x8 x9 x11 t0 t1 s) (h2 : p_X6_test_b104 Q2 K652 x0 x1 x4 x5 x6 x7 x8 x9 x11 t0 t1 s) (hQ : ∀ (v0 : Int32) (v1 : Sg), gI v1 0 20 = w → Q1 v0 v1 → Q2 v0 v1 → G) (hK65 : ∀ (v0 : Nat) (v1 : Int32) (v2 : Int32) (v3 : Int32) (v4 : Int32) (v5 : Int32) (v6 : Int32) (v7 : Int32) (v8 : Int32) (v9 : Int32) (v10 : Sg), gI v10 0 20 = w → K651 v0 v1 v2 v3 v4 v5 v6 v7 v8 v9 v10 → K652 v0 v1 v2 v3 v4 v5 v6 v7 v8 v9 v10 → G) : G := by
  unfold p_X6_test_b104 at h1 h2
  exact hK65 _ _ _ _ _ _ _ _ _ _ _ (by first | exact hw | simpa [gI, setI, setR, setJ, setT] using hw) h1 h2
theorem d_p_X6_test_b103 {G : Prop} {Q1 Q2 : Int32 → Sg → Prop} {K651 K652 : Nat → Int32 → Int32 → Int32 → Int32 → Int32 → Int32 → Int32 → Int32 → Int32 → Sg → Prop} {x0 : Nat} {x1 : Int32} {x4 : Int32} {x5 : Int32} {x6 : Int32} {x7 : Int32} {x8 : Int32} {x9 : Int32} {x11 : Int32} {t0 : Int32} {s : Sg} {w : Int32} (hw : gI s 0 20 = w) (h1 : p_X6_test_b103 Q1 K651 x0 x1 x4 x5 x6 x7 x8 x9 x11 t0 s) (h2 : p_X6_test_b103 Q2 K652 x0 x1 x4 x5 x6 x7 x8 x9 x11 t0 s) (hQ : ∀ (v0 : Int32) (v1 : Sg), gI v1 0 20 = w → Q1 v0 v1 → Q2 v0 v1 → G) (hK65 : ∀ (v0 : Nat) (v1 : Int32) (v2 : Int32) (v3 : Int32) (v4 : Int32) (v5 : Int32) (v6 : Int32) (v7 : Int32) (v8 : Int32) (v9 : Int32) (v10 : Sg), gI v10 0 20 = w → K651 v0 v1 v2 v3 v4 v5 v6 v7 v8 v9 v10 → K652 v0 v1 v2 v3 v4 v5 v6 v7 v8 v9 v10 → G) : G := by
  unfold p_X6_test_b103 at h1 h2
  exact d_p_X6_test_b104 (w := w) (by first | exact hw | simpa [gI, setI, setR, setJ, setT] using hw) h1 h2 hQ hK65
theorem d_p_X6_test_b127 {G : Prop} {Q1 Q2 : Int32 → Sg → Prop} {K521 K522 : Nat → Int32 → Int32 → Int32 → Int32 → Int32 → Int32 → Int32 → Sg → Prop} {x0 : Nat} {x1 : Int32} {x4 : Int32} {x5 : Int32} {x6 : Int32} {x7 : Int32} {x9 : Int32} {t0 : Int32} {s : Sg} {w : Int32} (hw : gI s 0 20 = w) (h1 : p_X6_test_b127 Q1 K521 x0 x1 x4 x5 x6 x7 x9 t0 s) (h2 : p_X6_test_b127 Q2 K522 x0 x1 x4 x5 x6 x7 x9 t0 s) (hQ : ∀ (v0 : Int32) (v1 : Sg), gI v1 0 20 = w → Q1 v0 v1 → Q2 v0 v1 → G) (hK52 : ∀ (v0 : Nat) (v1 : Int32) (v2 : Int32) (v3 : Int32) (v4 : Int32) (v5 : Int32) (v6 : Int32) (v7 : Int32) (v8 : Sg), gI v8 0 20 = w → K521 v0 v1 v2 v3 v4 v5 v6 v7 v8 → K522 v0 v1 v2 v3 v4 v5 v6 v7 v8 → G) : G := by
  unfold p_X6_test_b127 at h1 h2
  exact hK52 _ _ _ _ _ _ _ _ _ (by first | exact hw | simpa [gI, setI, setR, setJ, setT] using hw) h1 h2
theorem D_p_X6_test_L65 {G : Prop} {Q1 Q2 : Int32 → Sg → Prop} {K521 K522 : Nat → Int32 → Int32 → Int32 → Int32 → Int32 → Int32 → Int32 → Sg → Prop}  {w : Int32} (hQ : ∀ (v0 : Int32) (v1 : Sg), gI v1 0 20 = w → Q1 v0 v1 → Q2 v0 v1 → G) (hK52 : ∀ (v0 : Nat) (v1 : Int32) (v2 : Int32) (v3 : Int32) (v4 : Int32) (v5 : Int32) (v6 : Int32) (v7 : Int32) (v8 : Sg), gI v8 0 20 = w → K521 v0 v1 v2 v3 v4 v5 v6 v7 v8 → K522 v0 v1 v2 v3 v4 v5 v6 v7 v8 → G) : ∀ (n m : Nat) (x0 : Nat) (x1 : Int32) (x4 : Int32) (x5 : Int32) (x6 : Int32) (x7 : Int32) (x8 : Int32) (x9 : Int32) (x10 : Int32) (x11 : Int32) (s : Sg), gI s 0 20 = w → p_X6_test_L65 Q1 K521 n x0 x1 x4 x5 x6 x7 x8 x9 x10 x11 s → p_X6_test_L65 Q2 K522 m x0 x1 x4 x5 x6 x7 x8 x9 x10 x11 s → G := by
  intro n
  induction n with
  | zero =>
    intro m x0 x1 x4 x5 x6 x7 x8 x9 x10 x11 s hw h1
    exact h1.elim
  | succ n ih =>
    intro m x0 x1 x4 x5 x6 x7 x8 x9 x10 x11 s hw h1 h2
    cases m with
    | zero => exact h2.elim
    | succ m =>
      unfold p_X6_test_L65 at h1 h2
      by_cases cc : 6 ≤ x11
      · replace h1 := h1.1 cc
        replace h2 := h2.1 cc
        by_cases cc : x10 ≤ x8
        · replace h1 := h1.1 cc
          replace h2 := h2.1 cc
          exact d_p_X6_test_b127 (w := w) (by first | exact hw | simpa [gI, setI, setR, setJ, setT] using hw) h1 h2 hQ hK52
        · replace h1 := h1.2 cc
          replace h2 := h2.2 cc
          exact d_p_X6_test_b127 (w := w) (by first | exact hw | simpa [gI, setI, setR, setJ, setT] using hw) h1 h2 hQ hK52
      · replace h1 := h1.2 cc
        replace h2 := h2.2 cc
        by_cases cc : ((x4 >>> (x11 &&& 31)) &&& 1) = 1
        · replace h1 := h1.1 cc
          replace h2 := h2.1 cc
          refine d_p_X6_hemNow (w := w) (by first | exact hw | simpa [gI, setI, setR, setJ, setT] using hw) h1 h2 (fun r5 s4 hw h1 h2 => ?_)
          by_cases cc : r5 = x9
          · replace h1 := h1.1 cc
            replace h2 := h2.1 cc
            exact d_p_X6_test_b104 (w := w) (by first | exact hw | simpa [gI, setI, setR, setJ, setT] using hw) h1 h2 hQ (fun _ _ _ _ _ _ _ _ _ _ _ hw h1 h2 => ih _ _ _ _ _ _ _ _ _ _ _ _ hw h1 h2)
          · replace h1 := h1.2 cc
            replace h2 := h2.2 cc
            exact d_p_X6_test_b103 (w := w) (by first | exact hw | simpa [gI, setI, setR, setJ, setT] using hw) h1 h2 hQ (fun _ _ _ _ _ _ _ _ _ _ _ hw h1 h2 => ih _ _ _ _ _ _ _ _ _ _ _ _ hw h1 h2)
        · replace h1 := h1.2 cc
          replace h2 := h2.2 cc
          exact d_p_X6_test_b103 (w := w) (by first | exact hw | simpa [gI, setI, setR, setJ, setT] using hw) h1 h2 hQ (fun _ _ _ _ _ _ _ _ _ _ _ hw h1 h2 => ih _ _ _ _ _ _ _ _ _ _ _ _ hw h1 h2)
theorem d_p_X6_test_L65 {G : Prop} {Q1 Q2 : Int32 → Sg → Prop} {K521 K522 : Nat → Int32 → Int32 → Int32 → Int32 → Int32 → Int32 → Int32 → Sg → Prop}  {n m : Nat} {x0 : Nat} {x1 : Int32} {x4 : Int32} {x5 : Int32} {x6 : Int32} {x7 : Int32} {x8 : Int32} {x9 : Int32} {x10 : Int32} {x11 : Int32} {s : Sg} {w : Int32} (hw : gI s 0 20 = w) (h1 : p_X6_test_L65 Q1 K521 n x0 x1 x4 x5 x6 x7 x8 x9 x10 x11 s) (h2 : p_X6_test_L65 Q2 K522 m x0 x1 x4 x5 x6 x7 x8 x9 x10 x11 s) (hQ : ∀ (v0 : Int32) (v1 : Sg), gI v1 0 20 = w → Q1 v0 v1 → Q2 v0 v1 → G) (hK52 : ∀ (v0 : Nat) (v1 : Int32) (v2 : Int32) (v3 : Int32) (v4 : Int32) (v5 : Int32) (v6 : Int32) (v7 : Int32) (v8 : Sg), gI v8 0 20 = w → K521 v0 v1 v2 v3 v4 v5 v6 v7 v8 → K522 v0 v1 v2 v3 v4 v5 v6 v7 v8 → G) : G := D_p_X6_test_L65 hQ hK52 n m x0 x1 x4 x5 x6 x7 x8 x9 x10 x11 s hw h1 h2
theorem d_p_X6_test_b157 {G : Prop} {Q1 Q2 : Int32 → Sg → Prop} {K391 K392 : Nat → Int32 → Int32 → Int32 → Int32 → Int32 → Sg → Prop} {x0 : Nat} {x1 : Int32} {x4 : Int32} {x5 : Int32} {x6 : Int32} {x7 : Int32} {s : Sg} {w : Int32} (hw : gI s 0 20 = w) (h1 : p_X6_test_b157 Q1 K391 x0 x1 x4 x5 x6 x7 s) (h2 : p_X6_test_b157 Q2 K392 x0 x1 x4 x5 x6 x7 s) (hQ : ∀ (v0 : Int32) (v1 : Sg), gI v1 0 20 = w → Q1 v0 v1 → Q2 v0 v1 → G) (hK39 : ∀ (v0 : Nat) (v1 : Int32) (v2 : Int32) (v3 : Int32) (v4 : Int32) (v5 : Int32) (v6 : Sg), gI v6 0 20 = w → K391 v0 v1 v2 v3 v4 v5 v6 → K392 v0 v1 v2 v3 v4 v5 v6 → G) : G := by
  unfold p_X6_test_b157 at h1 h2
  exact hK39 _ _ _ _ _ _ _ (by first | exact hw | simpa [gI, setI, setR, setJ, setT] using hw) h1 h2
theorem d_p_X6_test_b149 {G : Prop} {Q1 Q2 : Int32 → Sg → Prop} {K391 K392 : Nat → Int32 → Int32 → Int32 → Int32 → Int32 → Sg → Prop} {x0 : Nat} {x1 : Int32} {x4 : Int32} {x7 : Int32} {x8 : Int32} {s : Sg} {w : Int32} (hw : gI s 0 20 = w) (h1 : p_X6_test_b149 Q1 K391 x0 x1 x4 x7 x8 s) (h2 : p_X6_test_b149 Q2 K392 x0 x1 x4 x7 x8 s) (hQ : ∀ (v0 : Int32) (v1 : Sg), gI v1 0 20 = w → Q1 v0 v1 → Q2 v0 v1 → G) (hK39 : ∀ (v0 : Nat) (v1 : Int32) (v2 : Int32) (v3 : Int32) (v4 : Int32) (v5 : Int32) (v6 : Sg), gI v6 0 20 = w → K391 v0 v1 v2 v3 v4 v5 v6 → K392 v0 v1 v2 v3 v4 v5 v6 → G) : G := by
  unfold p_X6_test_b149 at h1 h2
  exact d_p_X6_test_b157 (w := w) (by first | exact hw | simpa [gI, setI, setR, setJ, setT] using hw) h1 h2 hQ hK39
theorem D_p_X6_test_L52 {G : Prop} {Q1 Q2 : Int32 → Sg → Prop} {K391 K392 : Nat → Int32 → Int32 → Int32 → Int32 → Int32 → Sg → Prop}  {w : Int32} (hQ : ∀ (v0 : Int32) (v1 : Sg), gI v1 0 20 = w → Q1 v0 v1 → Q2 v0 v1 → G) (hK39 : ∀ (v0 : Nat) (v1 : Int32) (v2 : Int32) (v3 : Int32) (v4 : Int32) (v5 : Int32) (v6 : Sg), gI v6 0 20 = w → K391 v0 v1 v2 v3 v4 v5 v6 → K392 v0 v1 v2 v3 v4 v5 v6 → G) : ∀ (n m : Nat) (x0 : Nat) (x1 : Int32) (x4 : Int32) (x5 : Int32) (x6 : Int32) (x7 : Int32) (x8 : Int32) (x9 : Int32) (s : Sg), gI s 0 20 = w → p_X6_test_L52 Q1 K391 n x0 x1 x4 x5 x6 x7 x8 x9 s → p_X6_test_L52 Q2 K392 m x0 x1 x4 x5 x6 x7 x8 x9 s → G := by
  intro n
  induction n with
  | zero =>
    intro m x0 x1 x4 x5 x6 x7 x8 x9 s hw h1
    exact h1.elim
  | succ n ih =>
    intro m x0 x1 x4 x5 x6 x7 x8 x9 s hw h1 h2
    cases m with
    | zero => exact h2.elim
    | succ m =>
      unfold p_X6_test_L52 at h1 h2
      by_cases cc : 10 < x9
      · replace h1 := h1.1 cc
        replace h2 := h2.1 cc
        by_cases cc : x5 = ((-9))
        · replace h1 := h1.1 cc
          replace h2 := h2.1 cc
          exact d_p_X6_test_b149 (w := w) (by first | exact hw | simpa [gI, setI, setR, setJ, setT] using hw) h1 h2 hQ hK39
        · replace h1 := h1.2 cc
          replace h2 := h2.2 cc
          by_cases cc : x6 ≤ x8
          · replace h1 := h1.1 cc
            replace h2 := h2.1 cc
            exact d_p_X6_test_b157 (w := w) (by first | exact hw | simpa [gI, setI, setR, setJ, setT] using hw) h1 h2 hQ hK39
          · replace h1 := h1.2 cc
            replace h2 := h2.2 cc
            exact d_p_X6_test_b149 (w := w) (by first | exact hw | simpa [gI, setI, setR, setJ, setT] using hw) h1 h2 hQ hK39
      · replace h1 := h1.2 cc
        replace h2 := h2.2 cc
        obtain ⟨n4, h1⟩ := h1
        obtain ⟨n4x, h2⟩ := h2
        exact d_p_X6_test_L65 (w := w) (by first | exact hw | simpa [gI, setI, setR, setJ, setT] using hw) h1 h2 hQ (fun _ _ _ _ _ _ _ _ _ hw h1 h2 => ih _ _ _ _ _ _ _ _ _ _ hw h1 h2)
theorem d_p_X6_test_L52 {G : Prop} {Q1 Q2 : Int32 → Sg → Prop} {K391 K392 : Nat → Int32 → Int32 → Int32 → Int32 → Int32 → Sg → Prop}  {n m : Nat} {x0 : Nat} {x1 : Int32} {x4 : Int32} {x5 : Int32} {x6 : Int32} {x7 : Int32} {x8 : Int32} {x9 : Int32} {s : Sg} {w : Int32} (hw : gI s 0 20 = w) (h1 : p_X6_test_L52 Q1 K391 n x0 x1 x4 x5 x6 x7 x8 x9 s) (h2 : p_X6_test_L52 Q2 K392 m x0 x1 x4 x5 x6 x7 x8 x9 s) (hQ : ∀ (v0 : Int32) (v1 : Sg), gI v1 0 20 = w → Q1 v0 v1 → Q2 v0 v1 → G) (hK39 : ∀ (v0 : Nat) (v1 : Int32) (v2 : Int32) (v3 : Int32) (v4 : Int32) (v5 : Int32) (v6 : Sg), gI v6 0 20 = w → K391 v0 v1 v2 v3 v4 v5 v6 → K392 v0 v1 v2 v3 v4 v5 v6 → G) : G := D_p_X6_test_L52 hQ hK39 n m x0 x1 x4 x5 x6 x7 x8 x9 s hw h1 h2
theorem D_p_X6_test_L39 {G : Prop} {Q1 Q2 : Int32 → Sg → Prop}  {w : Int32} (hQ : ∀ (v0 : Int32) (v1 : Sg), gI v1 0 20 = w → Q1 v0 v1 → Q2 v0 v1 → G) : ∀ (n m : Nat) (x0 : Nat) (x1 : Int32) (x4 : Int32) (x5 : Int32) (x6 : Int32) (x7 : Int32) (s : Sg), gI s 0 20 = w → p_X6_test_L39 Q1 n x0 x1 x4 x5 x6 x7 s → p_X6_test_L39 Q2 m x0 x1 x4 x5 x6 x7 s → G := by
  intro n
  induction n with
  | zero =>
    intro m x0 x1 x4 x5 x6 x7 s hw h1
    exact h1.elim
  | succ n ih =>
    intro m x0 x1 x4 x5 x6 x7 s hw h1 h2
    cases m with
    | zero => exact h2.elim
    | succ m =>
      unfold p_X6_test_L39 at h1 h2
      by_cases cc : 20 < x7
      · replace h1 := h1.1 cc
        replace h2 := h2.1 cc
        exact hQ _ _ (by first | exact hw | simpa [gI, setI, setR, setJ, setT] using hw) h1 h2
      · replace h1 := h1.2 cc
        replace h2 := h2.2 cc
        obtain ⟨n2, h1⟩ := h1
        obtain ⟨n2x, h2⟩ := h2
        exact d_p_X6_test_L52 (w := w) (by first | exact hw | simpa [gI, setI, setR, setJ, setT] using hw) h1 h2 hQ (fun _ _ _ _ _ _ _ hw h1 h2 => ih _ _ _ _ _ _ _ _ hw h1 h2)
theorem d_p_X6_test_L39 {G : Prop} {Q1 Q2 : Int32 → Sg → Prop}  {n m : Nat} {x0 : Nat} {x1 : Int32} {x4 : Int32} {x5 : Int32} {x6 : Int32} {x7 : Int32} {s : Sg} {w : Int32} (hw : gI s 0 20 = w) (h1 : p_X6_test_L39 Q1 n x0 x1 x4 x5 x6 x7 s) (h2 : p_X6_test_L39 Q2 m x0 x1 x4 x5 x6 x7 s) (hQ : ∀ (v0 : Int32) (v1 : Sg), gI v1 0 20 = w → Q1 v0 v1 → Q2 v0 v1 → G) : G := D_p_X6_test_L39 hQ n m x0 x1 x4 x5 x6 x7 s hw h1 h2
theorem d_p_X6_test {G : Prop} {Q1 Q2 : Int32 → Sg → Prop} {x0 : Nat} {x1 : Int32} {x2 : Int32} {s : Sg} {w : Int32} (hw : gI s 0 20 = w) (h1 : p_X6_test x0 x1 x2 s Q1) (h2 : p_X6_test x0 x1 x2 s Q2) (hQ : ∀ (v0 : Int32) (v1 : Sg), gI v1 0 20 = w → Q1 v0 v1 → Q2 v0 v1 → G) : G := by
  unfold p_X6_test at h1 h2
  refine d_p_X6_judge (w := w) (by first | exact hw | simpa [gI, setI, setR, setJ, setT] using hw) h1 h2 (fun r2 s1 hw h1 h2 => ?_)
  by_cases cc : 0 ≤ r2
  · replace h1 := h1.1 cc
    replace h2 := h2.1 cc
    refine d_p_X6_kindsBy (w := w) (by first | exact hw | simpa [gI, setI, setR, setJ, setT] using hw) h1 h2 (fun r5 s4 hw h1 h2 => ?_)
    by_cases cc : r5 = 0
    · replace h1 := h1.1 cc
      replace h2 := h2.1 cc
      exact hQ _ _ (by first | exact hw | simpa [gI, setI, setR, setJ, setT] using hw) h1 h2
    · replace h1 := h1.2 cc
      replace h2 := h2.2 cc
      obtain ⟨n7, h1⟩ := h1
      obtain ⟨n7x, h2⟩ := h2
      exact d_p_X6_test_L39 (w := w) (by first | exact hw | simpa [gI, setI, setR, setJ, setT] using hw) h1 h2 hQ
  · replace h1 := h1.2 cc
    replace h2 := h2.2 cc
    exact hQ _ _ (by first | exact hw | simpa [gI, setI, setR, setJ, setT] using hw) h1 h2
theorem d_p_X6_whose_b119 {G : Prop} {Q1 Q2 : Int32 → Sg → Prop} {K711 K712 : Nat → Int32 → Int32 → Int32 → Int32 → Int32 → Sg → Prop} {x0 : Nat} {x1 : Int32} {x2 : Int32} {x3 : Int32} {x5 : Int32} {t0 : Int32} {s : Sg} {w : Int32} (hw : gI s 0 20 = w) (h1 : p_X6_whose_b119 Q1 K711 x0 x1 x2 x3 x5 t0 s) (h2 : p_X6_whose_b119 Q2 K712 x0 x1 x2 x3 x5 t0 s) (hQ : ∀ (v0 : Int32) (v1 : Sg), gI v1 0 20 = w → Q1 v0 v1 → Q2 v0 v1 → G) (hK71 : ∀ (v0 : Nat) (v1 : Int32) (v2 : Int32) (v3 : Int32) (v4 : Int32) (v5 : Int32) (v6 : Sg), gI v6 0 20 = w → K711 v0 v1 v2 v3 v4 v5 v6 → K712 v0 v1 v2 v3 v4 v5 v6 → G) : G := by
  unfold p_X6_whose_b119 at h1 h2
  exact hK71 _ _ _ _ _ _ _ (by first | exact hw | simpa [gI, setI, setR, setJ, setT] using hw) h1 h2
theorem d_p_X6_whose_b118 {G : Prop} {Q1 Q2 : Int32 → Sg → Prop} {K711 K712 : Nat → Int32 → Int32 → Int32 → Int32 → Int32 → Sg → Prop} {x0 : Nat} {x1 : Int32} {x2 : Int32} {x3 : Int32} {x5 : Int32} {s : Sg} {w : Int32} (hw : gI s 0 20 = w) (h1 : p_X6_whose_b118 Q1 K711 x0 x1 x2 x3 x5 s) (h2 : p_X6_whose_b118 Q2 K712 x0 x1 x2 x3 x5 s) (hQ : ∀ (v0 : Int32) (v1 : Sg), gI v1 0 20 = w → Q1 v0 v1 → Q2 v0 v1 → G) (hK71 : ∀ (v0 : Nat) (v1 : Int32) (v2 : Int32) (v3 : Int32) (v4 : Int32) (v5 : Int32) (v6 : Sg), gI v6 0 20 = w → K711 v0 v1 v2 v3 v4 v5 v6 → K712 v0 v1 v2 v3 v4 v5 v6 → G) : G := by
  unfold p_X6_whose_b118 at h1 h2
  exact d_p_X6_whose_b119 (w := w) (by first | exact hw | simpa [gI, setI, setR, setJ, setT] using hw) h1 h2 hQ hK71
theorem d_p_X6_whose_b140 {G : Prop} {Q1 Q2 : Int32 → Sg → Prop} {K571 K572 : Nat → Int32 → Int32 → Int32 → Sg → Prop} {x0 : Nat} {x1 : Int32} {x3 : Int32} {t0 : Int32} {t1 : Int32} {s : Sg} {w : Int32} (hw : gI s 0 20 = w) (h1 : p_X6_whose_b140 Q1 K571 x0 x1 x3 t0 t1 s) (h2 : p_X6_whose_b140 Q2 K572 x0 x1 x3 t0 t1 s) (hQ : ∀ (v0 : Int32) (v1 : Sg), gI v1 0 20 = w → Q1 v0 v1 → Q2 v0 v1 → G) (hK57 : ∀ (v0 : Nat) (v1 : Int32) (v2 : Int32) (v3 : Int32) (v4 : Sg), gI v4 0 20 = w → K571 v0 v1 v2 v3 v4 → K572 v0 v1 v2 v3 v4 → G) : G := by
  unfold p_X6_whose_b140 at h1 h2
  exact hK57 _ _ _ _ _ (by first | exact hw | simpa [gI, setI, setR, setJ, setT] using hw) h1 h2
theorem D_p_X6_whose_L71 {G : Prop} {Q1 Q2 : Int32 → Sg → Prop} {K571 K572 : Nat → Int32 → Int32 → Int32 → Sg → Prop}  {w : Int32} (hQ : ∀ (v0 : Int32) (v1 : Sg), gI v1 0 20 = w → Q1 v0 v1 → Q2 v0 v1 → G) (hK57 : ∀ (v0 : Nat) (v1 : Int32) (v2 : Int32) (v3 : Int32) (v4 : Sg), gI v4 0 20 = w → K571 v0 v1 v2 v3 v4 → K572 v0 v1 v2 v3 v4 → G) : ∀ (n m : Nat) (x0 : Nat) (x1 : Int32) (x2 : Int32) (x3 : Int32) (x4 : Int32) (x5 : Int32) (s : Sg), gI s 0 20 = w → p_X6_whose_L71 Q1 K571 n x0 x1 x2 x3 x4 x5 s → p_X6_whose_L71 Q2 K572 m x0 x1 x2 x3 x4 x5 s → G := by
  intro n
  induction n with
  | zero =>
    intro m x0 x1 x2 x3 x4 x5 s hw h1
    exact h1.elim
  | succ n ih =>
    intro m x0 x1 x2 x3 x4 x5 s hw h1 h2
    cases m with
    | zero => exact h2.elim
    | succ m =>
      unfold p_X6_whose_L71 at h1 h2
      obtain ⟨k1, e0, _, _, h1⟩ := h1
      obtain ⟨k1x, f0, _, _, h2⟩ := h2
      have ee := Option.some.inj (e0.symm.trans f0)
      subst ee
      by_cases cc : (gR s k1 x1.toNatClampNeg) ≤ x5
      · replace h1 := h1.1 cc
        replace h2 := h2.1 cc
        by_cases cc : x4 = 0
        · replace h1 := h1.1 cc
          replace h2 := h2.1 cc
          exact d_p_X6_whose_b140 (w := w) (by first | exact hw | simpa [gI, setI, setR, setJ, setT] using hw) h1 h2 hQ hK57
        · replace h1 := h1.2 cc
          replace h2 := h2.2 cc
          exact d_p_X6_whose_b140 (w := w) (by first | exact hw | simpa [gI, setI, setR, setJ, setT] using hw) h1 h2 hQ hK57
      · replace h1 := h1.2 cc
        replace h2 := h2.2 cc
        by_cases cc : x4 = 0
        · replace h1 := h1.1 cc
          replace h2 := h2.1 cc
          exact d_p_X6_whose_b118 (w := w) (by first | exact hw | simpa [gI, setI, setR, setJ, setT] using hw) h1 h2 hQ (fun _ _ _ _ _ _ _ hw h1 h2 => ih _ _ _ _ _ _ _ _ hw h1 h2)
        · replace h1 := h1.2 cc
          replace h2 := h2.2 cc
          obtain ⟨k8, e0, _, _, h1⟩ := h1
          obtain ⟨k8x, f0, _, _, h2⟩ := h2
          have ee := Option.some.inj (e0.symm.trans f0)
          subst ee
          obtain ⟨k12, e0, _, _, h1⟩ := h1
          obtain ⟨k12x, f0, _, _, h2⟩ := h2
          have ee := Option.some.inj (e0.symm.trans f0)
          subst ee
          by_cases cc : (gR s k8 ((6 * x5) + x3).toNatClampNeg) = (gR s k12 ((40 * x1) + x5).toNatClampNeg)
          · replace h1 := h1.1 cc
            replace h2 := h2.1 cc
            exact d_p_X6_whose_b119 (w := w) (by first | exact hw | simpa [gI, setI, setR, setJ, setT] using hw) h1 h2 hQ (fun _ _ _ _ _ _ _ hw h1 h2 => ih _ _ _ _ _ _ _ _ hw h1 h2)
          · replace h1 := h1.2 cc
            replace h2 := h2.2 cc
            exact d_p_X6_whose_b118 (w := w) (by first | exact hw | simpa [gI, setI, setR, setJ, setT] using hw) h1 h2 hQ (fun _ _ _ _ _ _ _ hw h1 h2 => ih _ _ _ _ _ _ _ _ hw h1 h2)
theorem d_p_X6_whose_L71 {G : Prop} {Q1 Q2 : Int32 → Sg → Prop} {K571 K572 : Nat → Int32 → Int32 → Int32 → Sg → Prop}  {n m : Nat} {x0 : Nat} {x1 : Int32} {x2 : Int32} {x3 : Int32} {x4 : Int32} {x5 : Int32} {s : Sg} {w : Int32} (hw : gI s 0 20 = w) (h1 : p_X6_whose_L71 Q1 K571 n x0 x1 x2 x3 x4 x5 s) (h2 : p_X6_whose_L71 Q2 K572 m x0 x1 x2 x3 x4 x5 s) (hQ : ∀ (v0 : Int32) (v1 : Sg), gI v1 0 20 = w → Q1 v0 v1 → Q2 v0 v1 → G) (hK57 : ∀ (v0 : Nat) (v1 : Int32) (v2 : Int32) (v3 : Int32) (v4 : Sg), gI v4 0 20 = w → K571 v0 v1 v2 v3 v4 → K572 v0 v1 v2 v3 v4 → G) : G := D_p_X6_whose_L71 hQ hK57 n m x0 x1 x2 x3 x4 x5 s hw h1 h2
theorem d_p_X6_whose_b167 {G : Prop} {Q1 Q2 : Int32 → Sg → Prop} {x0 : Nat} {x2 : Int32} {t1 : Int32} {s : Sg} {w : Int32} (hw : gI s 0 20 = w) (h1 : p_X6_whose_b167 Q1 x0 x2 t1 s) (h2 : p_X6_whose_b167 Q2 x0 x2 t1 s) (hQ : ∀ (v0 : Int32) (v1 : Sg), gI v1 0 20 = w → Q1 v0 v1 → Q2 v0 v1 → G) : G := by
  unfold p_X6_whose_b167 at h1 h2
  exact hQ _ _ (by first | exact hw | simpa [gI, setI, setR, setJ, setT] using hw) h1 h2
theorem D_p_X6_whose_L57 {G : Prop} {Q1 Q2 : Int32 → Sg → Prop}  {w : Int32} (hQ : ∀ (v0 : Int32) (v1 : Sg), gI v1 0 20 = w → Q1 v0 v1 → Q2 v0 v1 → G) : ∀ (n m : Nat) (x0 : Nat) (x1 : Int32) (x2 : Int32) (x3 : Int32) (s : Sg), gI s 0 20 = w → p_X6_whose_L57 Q1 n x0 x1 x2 x3 s → p_X6_whose_L57 Q2 m x0 x1 x2 x3 s → G := by
  intro n
  induction n with
  | zero =>
    intro m x0 x1 x2 x3 s hw h1
    exact h1.elim
  | succ n ih =>
    intro m x0 x1 x2 x3 s hw h1 h2
    cases m with
    | zero => exact h2.elim
    | succ m =>
      unfold p_X6_whose_L57 at h1 h2
      by_cases cc : (gI s x0 20) ≤ x3
      · replace h1 := h1.1 cc
        replace h2 := h2.1 cc
        obtain ⟨k2, e0, _, _, h1⟩ := h1
        obtain ⟨k2x, f0, _, _, h2⟩ := h2
        have ee := Option.some.inj (e0.symm.trans f0)
        subst ee
        by_cases cc : (gR s k2 x1.toNatClampNeg) = (gI s x0 31)
        · replace h1 := h1.1 cc
          replace h2 := h2.1 cc
          exact d_p_X6_whose_b167 (w := w) (by first | exact hw | simpa [gI, setI, setR, setJ, setT] using hw) h1 h2 hQ
        · replace h1 := h1.2 cc
          replace h2 := h2.2 cc
          exact d_p_X6_whose_b167 (w := w) (by first | exact hw | simpa [gI, setI, setR, setJ, setT] using hw) h1 h2 hQ
      · replace h1 := h1.2 cc
        replace h2 := h2.2 cc
        obtain ⟨n7, h1⟩ := h1
        obtain ⟨n7x, h2⟩ := h2
        exact d_p_X6_whose_L71 (w := w) (by first | exact hw | simpa [gI, setI, setR, setJ, setT] using hw) h1 h2 hQ (fun _ _ _ _ _ hw h1 h2 => ih _ _ _ _ _ _ hw h1 h2)
theorem d_p_X6_whose_L57 {G : Prop} {Q1 Q2 : Int32 → Sg → Prop}  {n m : Nat} {x0 : Nat} {x1 : Int32} {x2 : Int32} {x3 : Int32} {s : Sg} {w : Int32} (hw : gI s 0 20 = w) (h1 : p_X6_whose_L57 Q1 n x0 x1 x2 x3 s) (h2 : p_X6_whose_L57 Q2 m x0 x1 x2 x3 s) (hQ : ∀ (v0 : Int32) (v1 : Sg), gI v1 0 20 = w → Q1 v0 v1 → Q2 v0 v1 → G) : G := D_p_X6_whose_L57 hQ n m x0 x1 x2 x3 s hw h1 h2
theorem d_p_X6_whose {G : Prop} {Q1 Q2 : Int32 → Sg → Prop} {x0 : Nat} {x1 : Int32} {s : Sg} {w : Int32} (hw : gI s 0 20 = w) (h1 : p_X6_whose x0 x1 s Q1) (h2 : p_X6_whose x0 x1 s Q2) (hQ : ∀ (v0 : Int32) (v1 : Sg), gI v1 0 20 = w → Q1 v0 v1 → Q2 v0 v1 → G) : G := by
  unfold p_X6_whose at h1 h2
  refine d_p_X6_isRow (w := w) (by first | exact hw | simpa [gI, setI, setR, setJ, setT] using hw) h1 h2 (fun r2 s1 hw h1 h2 => ?_)
  by_cases cc : r2 = 0
  · replace h1 := h1.1 cc
    replace h2 := h2.1 cc
    exact hQ _ _ (by first | exact hw | simpa [gI, setI, setR, setJ, setT] using hw) h1 h2
  · replace h1 := h1.2 cc
    replace h2 := h2.2 cc
    by_cases cc : (gI s1 x0 20) = 0
    · replace h1 := h1.1 cc
      replace h2 := h2.1 cc
      exact hQ _ _ (by first | exact hw | simpa [gI, setI, setR, setJ, setT] using hw) h1 h2
    · replace h1 := h1.2 cc
      replace h2 := h2.2 cc
      obtain ⟨k5, e0, _, _, h1⟩ := h1
      obtain ⟨k5x, f0, _, _, h2⟩ := h2
      have ee := Option.some.inj (e0.symm.trans f0)
      subst ee
      by_cases cc : 0 ≤ (gR s1 k5 x1.toNatClampNeg)
      · replace h1 := h1.1 cc
        replace h2 := h2.1 cc
        obtain ⟨k10, e0, _, _, h1⟩ := h1
        obtain ⟨k10x, f0, _, _, h2⟩ := h2
        have ee := Option.some.inj (e0.symm.trans f0)
        subst ee
        by_cases cc : (gR s1 k10 x1.toNatClampNeg) ≤ (gI s1 x0 31)
        · replace h1 := h1.1 cc
          replace h2 := h2.1 cc
          obtain ⟨n15, h1⟩ := h1
          obtain ⟨n15x, h2⟩ := h2
          exact d_p_X6_whose_L57 (w := w) (by first | exact hw | simpa [gI, setI, setR, setJ, setT] using hw) h1 h2 hQ
        · replace h1 := h1.2 cc
          replace h2 := h2.2 cc
          refine d_p_X6_refuse (w := w) (by first | exact hw | simpa [gI, setI, setR, setJ, setT] using hw) h1 h2 (fun r17 s16 hw h1 h2 => ?_)
          exact hQ _ _ (by first | exact hw | simpa [gI, setI, setR, setJ, setT] using hw) h1 h2
      · replace h1 := h1.2 cc
        replace h2 := h2.2 cc
        refine d_p_X6_refuse (w := w) (by first | exact hw | simpa [gI, setI, setR, setJ, setT] using hw) h1 h2 (fun r19 s18 hw h1 h2 => ?_)
        exact hQ _ _ (by first | exact hw | simpa [gI, setI, setR, setJ, setT] using hw) h1 h2
theorem d_p_X6_wetAll_b63 {G : Prop} {Q1 Q2 : Int32 → Sg → Prop} {K51 K52 : Nat → Int32 → Int32 → Int32 → Int32 → Sg → Prop} {x0 : Nat} {x1 : Int32} {x2 : Int32} {x4 : Int32} {t0 : Int32} {t1 : Int32} {s : Sg} {w : Int32} (hw : gI s 0 20 = w) (h1 : p_X6_wetAll_b63 Q1 K51 x0 x1 x2 x4 t0 t1 s) (h2 : p_X6_wetAll_b63 Q2 K52 x0 x1 x2 x4 t0 t1 s) (hQ : ∀ (v0 : Int32) (v1 : Sg), gI v1 0 20 = w → Q1 v0 v1 → Q2 v0 v1 → G) (hK5 : ∀ (v0 : Nat) (v1 : Int32) (v2 : Int32) (v3 : Int32) (v4 : Int32) (v5 : Sg), gI v5 0 20 = w → K51 v0 v1 v2 v3 v4 v5 → K52 v0 v1 v2 v3 v4 v5 → G) : G := by
  unfold p_X6_wetAll_b63 at h1 h2
  exact hK5 _ _ _ _ _ _ (by first | exact hw | simpa [gI, setI, setR, setJ, setT] using hw) h1 h2
theorem D_p_X6_wetAll_L5 {G : Prop} {Q1 Q2 : Int32 → Sg → Prop}  {w : Int32} (hQ : ∀ (v0 : Int32) (v1 : Sg), gI v1 0 20 = w → Q1 v0 v1 → Q2 v0 v1 → G) : ∀ (n m : Nat) (x0 : Nat) (x1 : Int32) (x2 : Int32) (x3 : Int32) (x4 : Int32) (s : Sg), gI s 0 20 = w → p_X6_wetAll_L5 Q1 n x0 x1 x2 x3 x4 s → p_X6_wetAll_L5 Q2 m x0 x1 x2 x3 x4 s → G := by
  intro n
  induction n with
  | zero =>
    intro m x0 x1 x2 x3 x4 s hw h1
    exact h1.elim
  | succ n ih =>
    intro m x0 x1 x2 x3 x4 s hw h1 h2
    cases m with
    | zero => exact h2.elim
    | succ m =>
      unfold p_X6_wetAll_L5 at h1 h2
      by_cases cc : (gI s x0 20) ≤ x4
      · replace h1 := h1.1 cc
        replace h2 := h2.1 cc
        exact hQ _ _ (by first | exact hw | simpa [gI, setI, setR, setJ, setT] using hw) h1 h2
      · replace h1 := h1.2 cc
        replace h2 := h2.2 cc
        obtain ⟨k2, e0, _, _, h1⟩ := h1
        obtain ⟨k2x, f0, _, _, h2⟩ := h2
        have ee := Option.some.inj (e0.symm.trans f0)
        subst ee
        by_cases cc : ((x2 >>> ((gR s k2 x4.toNatClampNeg) &&& 31)) &&& 1) = 1
        · replace h1 := h1.1 cc
          replace h2 := h2.1 cc
          obtain ⟨k7, e0, _, _, h1⟩ := h1
          obtain ⟨k7x, f0, _, _, h2⟩ := h2
          have ee := Option.some.inj (e0.symm.trans f0)
          subst ee
          obtain ⟨k11, e0, _, _, h1⟩ := h1
          obtain ⟨k11x, f0, _, _, h2⟩ := h2
          have ee := Option.some.inj (e0.symm.trans f0)
          subst ee
          obtain ⟨k15, e0, _, _, h1⟩ := h1
          obtain ⟨k15x, f0, _, _, h2⟩ := h2
          have ee := Option.some.inj (e0.symm.trans f0)
          subst ee
          obtain ⟨k19, e0, _, _, h1⟩ := h1
          obtain ⟨k19x, f0, _, _, h2⟩ := h2
          have ee := Option.some.inj (e0.symm.trans f0)
          subst ee
          refine d_p_X6_wet (w := w) (by first | exact hw | simpa [gI, setI, setR, setJ, setT] using hw) h1 h2 (fun r24 s23 hw h1 h2 => ?_)
          exact d_p_X6_wetAll_b63 (w := w) (by first | exact hw | simpa [gI, setI, setR, setJ, setT] using hw) h1 h2 hQ (fun _ _ _ _ _ _ hw h1 h2 => ih _ _ _ _ _ _ _ hw h1 h2)
        · replace h1 := h1.2 cc
          replace h2 := h2.2 cc
          exact d_p_X6_wetAll_b63 (w := w) (by first | exact hw | simpa [gI, setI, setR, setJ, setT] using hw) h1 h2 hQ (fun _ _ _ _ _ _ hw h1 h2 => ih _ _ _ _ _ _ _ hw h1 h2)
theorem d_p_X6_wetAll_L5 {G : Prop} {Q1 Q2 : Int32 → Sg → Prop}  {n m : Nat} {x0 : Nat} {x1 : Int32} {x2 : Int32} {x3 : Int32} {x4 : Int32} {s : Sg} {w : Int32} (hw : gI s 0 20 = w) (h1 : p_X6_wetAll_L5 Q1 n x0 x1 x2 x3 x4 s) (h2 : p_X6_wetAll_L5 Q2 m x0 x1 x2 x3 x4 s) (hQ : ∀ (v0 : Int32) (v1 : Sg), gI v1 0 20 = w → Q1 v0 v1 → Q2 v0 v1 → G) : G := D_p_X6_wetAll_L5 hQ n m x0 x1 x2 x3 x4 s hw h1 h2
theorem d_p_X6_wetAll {G : Prop} {Q1 Q2 : Int32 → Sg → Prop} {x0 : Nat} {x1 : Int32} {x2 : Int32} {s : Sg} {w : Int32} (hw : gI s 0 20 = w) (h1 : p_X6_wetAll x0 x1 x2 s Q1) (h2 : p_X6_wetAll x0 x1 x2 s Q2) (hQ : ∀ (v0 : Int32) (v1 : Sg), gI v1 0 20 = w → Q1 v0 v1 → Q2 v0 v1 → G) : G := by
  unfold p_X6_wetAll at h1 h2
  obtain ⟨n1, h1⟩ := h1
  obtain ⟨n1x, h2⟩ := h2
  exact d_p_X6_wetAll_L5 (w := w) (by first | exact hw | simpa [gI, setI, setR, setJ, setT] using hw) h1 h2 hQ
theorem D_p_X6_noMore_L2 {G : Prop} {Q1 Q2 : Sg → Prop}  {w : Int32} (hQ : ∀ (v0 : Sg), gI v0 0 20 = w → Q1 v0 → Q2 v0 → G) : ∀ (n m : Nat) (x0 : Nat) (x1 : Int32) (s : Sg), gI s 0 20 = w → p_X6_noMore_L2 Q1 n x0 x1 s → p_X6_noMore_L2 Q2 m x0 x1 s → G := by
  intro n
  induction n with
  | zero =>
    intro m x0 x1 s hw h1
    exact h1.elim
  | succ n ih =>
    intro m x0 x1 s hw h1 h2
    cases m with
    | zero => exact h2.elim
    | succ m =>
      unfold p_X6_noMore_L2 at h1 h2
      by_cases cc : 6 ≤ x1
      · replace h1 := h1.1 cc
        replace h2 := h2.1 cc
        exact hQ _ (by first | exact hw | simpa [gI, setI, setR, setJ, setT] using hw) h1 h2
      · replace h1 := h1.2 cc
        replace h2 := h2.2 cc
        obtain ⟨k2, e0, _, _, h1⟩ := h1
        obtain ⟨k2x, f0, _, _, h2⟩ := h2
        have ee := Option.some.inj (e0.symm.trans f0)
        subst ee
        exact ih _ _ _ _ (by first | exact hw | simpa [gI, setI, setR, setJ, setT] using hw) h1 h2
theorem d_p_X6_noMore_L2 {G : Prop} {Q1 Q2 : Sg → Prop}  {n m : Nat} {x0 : Nat} {x1 : Int32} {s : Sg} {w : Int32} (hw : gI s 0 20 = w) (h1 : p_X6_noMore_L2 Q1 n x0 x1 s) (h2 : p_X6_noMore_L2 Q2 m x0 x1 s) (hQ : ∀ (v0 : Sg), gI v0 0 20 = w → Q1 v0 → Q2 v0 → G) : G := D_p_X6_noMore_L2 hQ n m x0 x1 s hw h1 h2
theorem d_p_X6_noMore {G : Prop} {Q1 Q2 : Sg → Prop} {x0 : Nat} {s : Sg} {w : Int32} (hw : gI s 0 20 = w) (h1 : p_X6_noMore x0 s Q1) (h2 : p_X6_noMore x0 s Q2) (hQ : ∀ (v0 : Sg), gI v0 0 20 = w → Q1 v0 → Q2 v0 → G) : G := by
  unfold p_X6_noMore at h1 h2
  obtain ⟨n1, h1⟩ := h1
  obtain ⟨n1x, h2⟩ := h2
  exact d_p_X6_noMore_L2 (w := w) (by first | exact hw | simpa [gI, setI, setR, setJ, setT] using hw) h1 h2 hQ
theorem d_p_X6_take_b74 {G : Prop} {Q1 Q2 : Int32 → Sg → Prop} {K111 K112 : Nat → Int32 → Int32 → Int32 → Int32 → Int32 → Sg → Prop} {x0 : Nat} {x2 : Int32} {x3 : Int32} {x4 : Int32} {x6 : Int32} {t0 : Int32} {s : Sg} {w : Int32} (hw : gI s 0 20 = w) (h1 : p_X6_take_b74 Q1 K111 x0 x2 x3 x4 x6 t0 s) (h2 : p_X6_take_b74 Q2 K112 x0 x2 x3 x4 x6 t0 s) (hQ : ∀ (v0 : Int32) (v1 : Sg), gI v1 0 20 = w → Q1 v0 v1 → Q2 v0 v1 → G) (hK11 : ∀ (v0 : Nat) (v1 : Int32) (v2 : Int32) (v3 : Int32) (v4 : Int32) (v5 : Int32) (v6 : Sg), gI v6 0 20 = w → K111 v0 v1 v2 v3 v4 v5 v6 → K112 v0 v1 v2 v3 v4 v5 v6 → G) : G := by
  unfold p_X6_take_b74 at h1 h2
  exact hK11 _ _ _ _ _ _ _ (by first | exact hw | simpa [gI, setI, setR, setJ, setT] using hw) h1 h2
theorem d_p_X6_take_b73 {G : Prop} {Q1 Q2 : Int32 → Sg → Prop} {K111 K112 : Nat → Int32 → Int32 → Int32 → Int32 → Int32 → Sg → Prop} {x0 : Nat} {x2 : Int32} {x3 : Int32} {x4 : Int32} {x6 : Int32} {s : Sg} {w : Int32} (hw : gI s 0 20 = w) (h1 : p_X6_take_b73 Q1 K111 x0 x2 x3 x4 x6 s) (h2 : p_X6_take_b73 Q2 K112 x0 x2 x3 x4 x6 s) (hQ : ∀ (v0 : Int32) (v1 : Sg), gI v1 0 20 = w → Q1 v0 v1 → Q2 v0 v1 → G) (hK11 : ∀ (v0 : Nat) (v1 : Int32) (v2 : Int32) (v3 : Int32) (v4 : Int32) (v5 : Int32) (v6 : Sg), gI v6 0 20 = w → K111 v0 v1 v2 v3 v4 v5 v6 → K112 v0 v1 v2 v3 v4 v5 v6 → G) : G := by
  unfold p_X6_take_b73 at h1 h2
  exact d_p_X6_take_b74 (w := w) (by first | exact hw | simpa [gI, setI, setR, setJ, setT] using hw) h1 h2 hQ hK11
theorem D_p_X6_take_L11 {G : Prop} {Q1 Q2 : Int32 → Sg → Prop}  {w : Int32} (hQ : ∀ (v0 : Int32) (v1 : Sg), gI v1 0 20 = w → Q1 v0 v1 → Q2 v0 v1 → G) : ∀ (n m : Nat) (x0 : Nat) (x2 : Int32) (x3 : Int32) (x4 : Int32) (x5 : Int32) (x6 : Int32) (s : Sg), gI s 0 20 = w → p_X6_take_L11 Q1 n x0 x2 x3 x4 x5 x6 s → p_X6_take_L11 Q2 m x0 x2 x3 x4 x5 x6 s → G := by
  intro n
  induction n with
  | zero =>
    intro m x0 x2 x3 x4 x5 x6 s hw h1
    exact h1.elim
  | succ n ih =>
    intro m x0 x2 x3 x4 x5 x6 s hw h1 h2
    cases m with
    | zero => exact h2.elim
    | succ m =>
      unfold p_X6_take_L11 at h1 h2
      by_cases cc : x6 < 0
      · replace h1 := h1.1 cc
        replace h2 := h2.1 cc
        by_cases cc : x5 = 0
        · replace h1 := h1.1 cc
          replace h2 := h2.1 cc
          exact hQ _ _ (by first | exact hw | simpa [gI, setI, setR, setJ, setT] using hw) h1 h2
        · replace h1 := h1.2 cc
          replace h2 := h2.2 cc
          by_cases cc : x4 = x2
          · replace h1 := h1.1 cc
            replace h2 := h2.1 cc
            exact hQ _ _ (by first | exact hw | simpa [gI, setI, setR, setJ, setT] using hw) h1 h2
          · replace h1 := h1.2 cc
            replace h2 := h2.2 cc
            exact hQ _ _ (by first | exact hw | simpa [gI, setI, setR, setJ, setT] using hw) h1 h2
      · replace h1 := h1.2 cc
        replace h2 := h2.2 cc
        obtain ⟨k4, e0, _, _, h1⟩ := h1
        obtain ⟨k4x, f0, _, _, h2⟩ := h2
        have ee := Option.some.inj (e0.symm.trans f0)
        subst ee
        obtain ⟨k8, e0, _, _, h1⟩ := h1
        obtain ⟨k8x, f0, _, _, h2⟩ := h2
        have ee := Option.some.inj (e0.symm.trans f0)
        subst ee
        by_cases cc : x5 = 0
        · replace h1 := h1.1 cc
          replace h2 := h2.1 cc
          exact d_p_X6_take_b73 (w := w) (by first | exact hw | simpa [gI, setI, setR, setJ, setT] using hw) h1 h2 hQ (fun _ _ _ _ _ _ _ hw h1 h2 => ih _ _ _ _ _ _ _ _ hw h1 h2)
        · replace h1 := h1.2 cc
          replace h2 := h2.2 cc
          obtain ⟨k13, e0, _, _, h1⟩ := h1
          obtain ⟨k13x, f0, _, _, h2⟩ := h2
          have ee := Option.some.inj (e0.symm.trans f0)
          subst ee
          obtain ⟨k17, e0, _, _, h1⟩ := h1
          obtain ⟨k17x, f0, _, _, h2⟩ := h2
          have ee := Option.some.inj (e0.symm.trans f0)
          subst ee
          by_cases cc : 9 < ((gR (setR s k4 (upd (gR s k4) x6.toNatClampNeg (x3 - x3 / 7 * 7))) k13 x6.toNatClampNeg) + (gR (setR s k4 (upd (gR s k4) x6.toNatClampNeg (x3 - x3 / 7 * 7))) k17 x6.toNatClampNeg))
          · replace h1 := h1.1 cc
            replace h2 := h2.1 cc
            exact d_p_X6_take_b73 (w := w) (by first | exact hw | simpa [gI, setI, setR, setJ, setT] using hw) h1 h2 hQ (fun _ _ _ _ _ _ _ hw h1 h2 => ih _ _ _ _ _ _ _ _ hw h1 h2)
          · replace h1 := h1.2 cc
            replace h2 := h2.2 cc
            exact d_p_X6_take_b74 (w := w) (by first | exact hw | simpa [gI, setI, setR, setJ, setT] using hw) h1 h2 hQ (fun _ _ _ _ _ _ _ hw h1 h2 => ih _ _ _ _ _ _ _ _ hw h1 h2)
theorem d_p_X6_take_L11 {G : Prop} {Q1 Q2 : Int32 → Sg → Prop}  {n m : Nat} {x0 : Nat} {x2 : Int32} {x3 : Int32} {x4 : Int32} {x5 : Int32} {x6 : Int32} {s : Sg} {w : Int32} (hw : gI s 0 20 = w) (h1 : p_X6_take_L11 Q1 n x0 x2 x3 x4 x5 x6 s) (h2 : p_X6_take_L11 Q2 m x0 x2 x3 x4 x5 x6 s) (hQ : ∀ (v0 : Int32) (v1 : Sg), gI v1 0 20 = w → Q1 v0 v1 → Q2 v0 v1 → G) : G := D_p_X6_take_L11 hQ n m x0 x2 x3 x4 x5 x6 s hw h1 h2
theorem d_p_X6_take {G : Prop} {Q1 Q2 : Int32 → Sg → Prop} {x0 : Nat} {x1 : Int32} {x2 : Int32} {s : Sg} {w : Int32} (hw : gI s 0 20 = w) (h1 : p_X6_take x0 x1 x2 s Q1) (h2 : p_X6_take x0 x1 x2 s Q2) (hQ : ∀ (v0 : Int32) (v1 : Sg), gI v1 0 20 = w → Q1 v0 v1 → Q2 v0 v1 → G) : G := by
  unfold p_X6_take at h1 h2
  obtain ⟨n1, h1⟩ := h1
  obtain ⟨n1x, h2⟩ := h2
  exact d_p_X6_take_L11 (w := w) (by first | exact hw | simpa [gI, setI, setR, setJ, setT] using hw) h1 h2 hQ
theorem d_p_X6_raise_b134 {G : Prop} {Q1 Q2 : Int32 → Sg → Prop} {K861 K862 : Nat → Int32 → Int32 → Int32 → Int32 → Int32 → Int32 → Sg → Prop} {x0 : Nat} {x1 : Int32} {x2 : Int32} {x3 : Int32} {x5 : Int32} {x6 : Int32} {x7 : Int32} {s : Sg} {w : Int32} (hw : gI s 0 20 = w) (h1 : p_X6_raise_b134 Q1 K861 x0 x1 x2 x3 x5 x6 x7 s) (h2 : p_X6_raise_b134 Q2 K862 x0 x1 x2 x3 x5 x6 x7 s) (hQ : ∀ (v0 : Int32) (v1 : Sg), gI v1 0 20 = w → Q1 v0 v1 → Q2 v0 v1 → G) (hK86 : ∀ (v0 : Nat) (v1 : Int32) (v2 : Int32) (v3 : Int32) (v4 : Int32) (v5 : Int32) (v6 : Int32) (v7 : Sg), gI v7 0 20 = w → K861 v0 v1 v2 v3 v4 v5 v6 v7 → K862 v0 v1 v2 v3 v4 v5 v6 v7 → G) : G := by
  unfold p_X6_raise_b134 at h1 h2
  exact hK86 _ _ _ _ _ _ _ _ (by first | exact hw | simpa [gI, setI, setR, setJ, setT] using hw) h1 h2
theorem d_p_X6_raise_b126 {G : Prop} {Q1 Q2 : Int32 → Sg → Prop} {K861 K862 : Nat → Int32 → Int32 → Int32 → Int32 → Int32 → Int32 → Sg → Prop} {x0 : Nat} {x1 : Int32} {x2 : Int32} {x3 : Int32} {x7 : Int32} {x8 : Int32} {s : Sg} {w : Int32} (hw : gI s 0 20 = w) (h1 : p_X6_raise_b126 Q1 K861 x0 x1 x2 x3 x7 x8 s) (h2 : p_X6_raise_b126 Q2 K862 x0 x1 x2 x3 x7 x8 s) (hQ : ∀ (v0 : Int32) (v1 : Sg), gI v1 0 20 = w → Q1 v0 v1 → Q2 v0 v1 → G) (hK86 : ∀ (v0 : Nat) (v1 : Int32) (v2 : Int32) (v3 : Int32) (v4 : Int32) (v5 : Int32) (v6 : Int32) (v7 : Sg), gI v7 0 20 = w → K861 v0 v1 v2 v3 v4 v5 v6 v7 → K862 v0 v1 v2 v3 v4 v5 v6 v7 → G) : G := by
  unfold p_X6_raise_b126 at h1 h2
  exact d_p_X6_raise_b134 (w := w) (by first | exact hw | simpa [gI, setI, setR, setJ, setT] using hw) h1 h2 hQ hK86
theorem D_p_X6_raise_L158 {G : Prop} {Q1 Q2 : Int32 → Sg → Prop}  {w : Int32} (hQ : ∀ (v0 : Int32) (v1 : Sg), gI v1 0 20 = w → Q1 v0 v1 → Q2 v0 v1 → G) : ∀ (n m : Nat) (x0 : Nat) (x3 : Int32) (x6 : Int32) (x7 : Int32) (s : Sg), gI s 0 20 = w → p_X6_raise_L158 Q1 n x0 x3 x6 x7 s → p_X6_raise_L158 Q2 m x0 x3 x6 x7 s → G := by
  intro n
  induction n with
  | zero =>
    intro m x0 x3 x6 x7 s hw h1
    exact h1.elim
  | succ n ih =>
    intro m x0 x3 x6 x7 s hw h1 h2
    cases m with
    | zero => exact h2.elim
    | succ m =>
      unfold p_X6_raise_L158 at h1 h2
      by_cases cc : 6 ≤ x7
      · replace h1 := h1.1 cc
        replace h2 := h2.1 cc
        exact hQ _ _ (by first | exact hw | simpa [gI, setI, setR, setJ, setT] using hw) h1 h2
      · replace h1 := h1.2 cc
        replace h2 := h2.2 cc
        obtain ⟨k2, e0, _, _, h1⟩ := h1
        obtain ⟨k2x, f0, _, _, h2⟩ := h2
        have ee := Option.some.inj (e0.symm.trans f0)
        subst ee
        obtain ⟨k6, e0, _, _, h1⟩ := h1
        obtain ⟨k6x, f0, _, _, h2⟩ := h2
        have ee := Option.some.inj (e0.symm.trans f0)
        subst ee
        exact ih _ _ _ _ _ _ (by first | exact hw | simpa [gI, setI, setR, setJ, setT] using hw) h1 h2
theorem d_p_X6_raise_L158 {G : Prop} {Q1 Q2 : Int32 → Sg → Prop}  {n m : Nat} {x0 : Nat} {x3 : Int32} {x6 : Int32} {x7 : Int32} {s : Sg} {w : Int32} (hw : gI s 0 20 = w) (h1 : p_X6_raise_L158 Q1 n x0 x3 x6 x7 s) (h2 : p_X6_raise_L158 Q2 m x0 x3 x6 x7 s) (hQ : ∀ (v0 : Int32) (v1 : Sg), gI v1 0 20 = w → Q1 v0 v1 → Q2 v0 v1 → G) : G := D_p_X6_raise_L158 hQ n m x0 x3 x6 x7 s hw h1 h2
theorem D_p_X6_raise_L86 {G : Prop} {Q1 Q2 : Int32 → Sg → Prop}  {w : Int32} (hQ : ∀ (v0 : Int32) (v1 : Sg), gI v1 0 20 = w → Q1 v0 v1 → Q2 v0 v1 → G) : ∀ (n m : Nat) (x0 : Nat) (x1 : Int32) (x2 : Int32) (x3 : Int32) (x5 : Int32) (x6 : Int32) (x7 : Int32) (s : Sg), gI s 0 20 = w → p_X6_raise_L86 Q1 n x0 x1 x2 x3 x5 x6 x7 s → p_X6_raise_L86 Q2 m x0 x1 x2 x3 x5 x6 x7 s → G := by
  intro n
  induction n with
  | zero =>
    intro m x0 x1 x2 x3 x5 x6 x7 s hw h1
    exact h1.elim
  | succ n ih =>
    intro m x0 x1 x2 x3 x5 x6 x7 s hw h1 h2
    cases m with
    | zero => exact h2.elim
    | succ m =>
      unfold p_X6_raise_L86 at h1 h2
      by_cases cc : 117649 ≤ x7
      · replace h1 := h1.1 cc
        replace h2 := h2.1 cc
        refine d_p_X6_take (w := w) (by first | exact hw | simpa [gI, setI, setR, setJ, setT] using hw) h1 h2 (fun r3 s2 hw h1 h2 => ?_)
        refine d_p_X6_clearRow (w := w) (by first | exact hw | simpa [gI, setI, setR, setJ, setT] using hw) h1 h2 (fun s4 hw h1 h2 => ?_)
        obtain ⟨n5, h1⟩ := h1
        obtain ⟨n5x, h2⟩ := h2
        exact d_p_X6_raise_L158 (w := w) (by first | exact hw | simpa [gI, setI, setR, setJ, setT] using hw) h1 h2 hQ
      · replace h1 := h1.2 cc
        replace h2 := h2.2 cc
        refine d_p_X6_take (w := w) (by first | exact hw | simpa [gI, setI, setR, setJ, setT] using hw) h1 h2 (fun r7 s6 hw h1 h2 => ?_)
        by_cases cc : r7 = 0
        · replace h1 := h1.1 cc
          replace h2 := h2.1 cc
          exact d_p_X6_raise_b134 (w := w) (by first | exact hw | simpa [gI, setI, setR, setJ, setT] using hw) h1 h2 hQ (fun _ _ _ _ _ _ _ _ hw h1 h2 => ih _ _ _ _ _ _ _ _ _ hw h1 h2)
        · replace h1 := h1.2 cc
          replace h2 := h2.2 cc
          refine d_p_X6_wetAll (w := w) (by first | exact hw | simpa [gI, setI, setR, setJ, setT] using hw) h1 h2 (fun r10 s9 hw h1 h2 => ?_)
          by_cases cc : x5 = ((-9))
          · replace h1 := h1.1 cc
            replace h2 := h2.1 cc
            exact d_p_X6_raise_b126 (w := w) (by first | exact hw | simpa [gI, setI, setR, setJ, setT] using hw) h1 h2 hQ (fun _ _ _ _ _ _ _ _ hw h1 h2 => ih _ _ _ _ _ _ _ _ _ hw h1 h2)
          · replace h1 := h1.2 cc
            replace h2 := h2.2 cc
            by_cases cc : x6 ≤ r10
            · replace h1 := h1.1 cc
              replace h2 := h2.1 cc
              exact d_p_X6_raise_b134 (w := w) (by first | exact hw | simpa [gI, setI, setR, setJ, setT] using hw) h1 h2 hQ (fun _ _ _ _ _ _ _ _ hw h1 h2 => ih _ _ _ _ _ _ _ _ _ hw h1 h2)
            · replace h1 := h1.2 cc
              replace h2 := h2.2 cc
              exact d_p_X6_raise_b126 (w := w) (by first | exact hw | simpa [gI, setI, setR, setJ, setT] using hw) h1 h2 hQ (fun _ _ _ _ _ _ _ _ hw h1 h2 => ih _ _ _ _ _ _ _ _ _ hw h1 h2)
theorem d_p_X6_raise_L86 {G : Prop} {Q1 Q2 : Int32 → Sg → Prop}  {n m : Nat} {x0 : Nat} {x1 : Int32} {x2 : Int32} {x3 : Int32} {x5 : Int32} {x6 : Int32} {x7 : Int32} {s : Sg} {w : Int32} (hw : gI s 0 20 = w) (h1 : p_X6_raise_L86 Q1 n x0 x1 x2 x3 x5 x6 x7 s) (h2 : p_X6_raise_L86 Q2 m x0 x1 x2 x3 x5 x6 x7 s) (hQ : ∀ (v0 : Int32) (v1 : Sg), gI v1 0 20 = w → Q1 v0 v1 → Q2 v0 v1 → G) : G := D_p_X6_raise_L86 hQ n m x0 x1 x2 x3 x5 x6 x7 s hw h1 h2
theorem D_p_X6_raise_L32 {G : Prop} {Q1 Q2 : Int32 → Sg → Prop}  {w : Int32} (hQ : ∀ (v0 : Int32) (v1 : Sg), gI v1 0 20 = w → Q1 v0 v1 → Q2 v0 v1 → G) : ∀ (n m : Nat) (x0 : Nat) (x1 : Int32) (x2 : Int32) (x3 : Int32) (x4 : Int32) (x5 : Int32) (s : Sg), gI s 0 20 = w → p_X6_raise_L32 Q1 n x0 x1 x2 x3 x4 x5 s → p_X6_raise_L32 Q2 m x0 x1 x2 x3 x4 x5 s → G := by
  intro n
  induction n with
  | zero =>
    intro m x0 x1 x2 x3 x4 x5 s hw h1
    exact h1.elim
  | succ n ih =>
    intro m x0 x1 x2 x3 x4 x5 s hw h1 h2
    cases m with
    | zero => exact h2.elim
    | succ m =>
      unfold p_X6_raise_L32 at h1 h2
      by_cases cc : 6 ≤ x5
      · replace h1 := h1.1 cc
        replace h2 := h2.1 cc
        by_cases cc : (gI s x0 20) = 0
        · replace h1 := h1.1 cc
          replace h2 := h2.1 cc
          exact hQ _ _ (by first | exact hw | simpa [gI, setI, setR, setJ, setT] using hw) h1 h2
        · replace h1 := h1.2 cc
          replace h2 := h2.2 cc
          by_cases cc : x1 ≤ x4
          · replace h1 := h1.1 cc
            replace h2 := h2.1 cc
            obtain ⟨n4, h1⟩ := h1
            obtain ⟨n4x, h2⟩ := h2
            exact d_p_X6_raise_L86 (w := w) (by first | exact hw | simpa [gI, setI, setR, setJ, setT] using hw) h1 h2 hQ
          · replace h1 := h1.2 cc
            replace h2 := h2.2 cc
            exact hQ _ _ (by first | exact hw | simpa [gI, setI, setR, setJ, setT] using hw) h1 h2
      · replace h1 := h1.2 cc
        replace h2 := h2.2 cc
        obtain ⟨k5, e0, _, _, h1⟩ := h1
        obtain ⟨k5x, f0, _, _, h2⟩ := h2
        have ee := Option.some.inj (e0.symm.trans f0)
        subst ee
        exact ih _ _ _ _ _ _ _ _ (by first | exact hw | simpa [gI, setI, setR, setJ, setT] using hw) h1 h2
theorem d_p_X6_raise_L32 {G : Prop} {Q1 Q2 : Int32 → Sg → Prop}  {n m : Nat} {x0 : Nat} {x1 : Int32} {x2 : Int32} {x3 : Int32} {x4 : Int32} {x5 : Int32} {s : Sg} {w : Int32} (hw : gI s 0 20 = w) (h1 : p_X6_raise_L32 Q1 n x0 x1 x2 x3 x4 x5 s) (h2 : p_X6_raise_L32 Q2 m x0 x1 x2 x3 x4 x5 s) (hQ : ∀ (v0 : Int32) (v1 : Sg), gI v1 0 20 = w → Q1 v0 v1 → Q2 v0 v1 → G) : G := D_p_X6_raise_L32 hQ n m x0 x1 x2 x3 x4 x5 s hw h1 h2
theorem d_p_X6_raise {G : Prop} {Q1 Q2 : Int32 → Sg → Prop} {x0 : Nat} {x1 : Int32} {x2 : Int32} {x3 : Int32} {s : Sg} {w : Int32} (hw : gI s 0 20 = w) (h1 : p_X6_raise x0 x1 x2 x3 s Q1) (h2 : p_X6_raise x0 x1 x2 x3 s Q2) (hQ : ∀ (v0 : Int32) (v1 : Sg), gI v1 0 20 = w → Q1 v0 v1 → Q2 v0 v1 → G) : G := by
  unfold p_X6_raise at h1 h2
  refine d_p_X6_in (w := w) (by first | exact hw | simpa [gI, setI, setR, setJ, setT] using hw) h1 h2 (fun r2 s1 hw h1 h2 => ?_)
  by_cases cc : r2 = 0
  · replace h1 := h1.1 cc
    replace h2 := h2.1 cc
    exact hQ _ _ (by first | exact hw | simpa [gI, setI, setR, setJ, setT] using hw) h1 h2
  · replace h1 := h1.2 cc
    replace h2 := h2.2 cc
    refine d_p_X6_isHeight (w := w) (by first | exact hw | simpa [gI, setI, setR, setJ, setT] using hw) h1 h2 (fun r5 s4 hw h1 h2 => ?_)
    by_cases cc : r5 = 0
    · replace h1 := h1.1 cc
      replace h2 := h2.1 cc
      exact hQ _ _ (by first | exact hw | simpa [gI, setI, setR, setJ, setT] using hw) h1 h2
    · replace h1 := h1.2 cc
      replace h2 := h2.2 cc
      refine d_p_X6_isRow (w := w) (by first | exact hw | simpa [gI, setI, setR, setJ, setT] using hw) h1 h2 (fun r8 s7 hw h1 h2 => ?_)
      by_cases cc : r8 = 0
      · replace h1 := h1.1 cc
        replace h2 := h2.1 cc
        exact hQ _ _ (by first | exact hw | simpa [gI, setI, setR, setJ, setT] using hw) h1 h2
      · replace h1 := h1.2 cc
        replace h2 := h2.2 cc
        obtain ⟨n10, h1⟩ := h1
        obtain ⟨n10x, h2⟩ := h2
        exact d_p_X6_raise_L32 (w := w) (by first | exact hw | simpa [gI, setI, setR, setJ, setT] using hw) h1 h2 hQ
