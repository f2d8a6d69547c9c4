theorem D_p_X6_dry_L15 {G : Prop} {Q1 Q2 : Int32 → Sg → Prop}  {w : Int32} (hQ : ∀ (v0 : Int32) (v1 : Sg), gI v1 0 20 = w → Q1 v0 v1 → Q2 v0 v1 → G) : ∀ (n m : Nat) (x0 : Nat) (x1 : Int32) (x2 : Int32) (s : Sg), gI s 0 20 = w → p_X6_dry_L15 Q1 n x0 x1 x2 s → p_X6_dry_L15 Q2 m x0 x1 x2 s → G := by
  intro n
  induction n with
  | zero =>
    intro m x0 x1 x2 s hw h1
    exact h1.elim
  | succ n ih =>
    intro m x0 x1 x2 s hw h1 h2
    cases m with
    | zero => exact h2.elim
    | succ m =>
      unfold p_X6_dry_L15 at h1 h2
      by_cases cc : (gI s x0 20) ≤ x2
      · replace h1 := h1.1 cc
        replace h2 := h2.1 cc
        exact hQ _ _ (by first | exact hw | simpa [gI, setI, setR, setJ, setT] using hw) h1 h2
      · replace h1 := h1.2 cc
        replace h2 := h2.2 cc
        obtain ⟨k2, e0, _, _, h1⟩ := h1
        obtain ⟨k2x, f0, _, _, h2⟩ := h2
        have ee := Option.some.inj (e0.symm.trans f0)
        subst ee
        obtain ⟨k6, e0, _, _, h1⟩ := h1
        obtain ⟨k6x, f0, _, _, h2⟩ := h2
        have ee := Option.some.inj (e0.symm.trans f0)
        subst ee
        refine d_p_X6_less (w := w) (by first | exact hw | simpa [gI, setI, setR, setJ, setT] using hw) h1 h2 (fun r11 s10 hw h1 h2 => ?_)
        exact ih _ _ _ _ _ (by first | exact hw | simpa [gI, setI, setR, setJ, setT] using hw) h1 h2
theorem d_p_X6_dry_L15 {G : Prop} {Q1 Q2 : Int32 → Sg → Prop}  {n m : Nat} {x0 : Nat} {x1 : Int32} {x2 : Int32} {s : Sg} {w : Int32} (hw : gI s 0 20 = w) (h1 : p_X6_dry_L15 Q1 n x0 x1 x2 s) (h2 : p_X6_dry_L15 Q2 m x0 x1 x2 s) (hQ : ∀ (v0 : Int32) (v1 : Sg), gI v1 0 20 = w → Q1 v0 v1 → Q2 v0 v1 → G) : G := D_p_X6_dry_L15 hQ n m x0 x1 x2 s hw h1 h2
theorem d_p_X6_dry {G : Prop} {Q1 Q2 : Int32 → Sg → Prop} {x0 : Nat} {s : Sg} {w : Int32} (hw : gI s 0 20 = w) (h1 : p_X6_dry x0 s Q1) (h2 : p_X6_dry x0 s Q2) (hQ : ∀ (v0 : Int32) (v1 : Sg), gI v1 0 20 = w → Q1 v0 v1 → Q2 v0 v1 → G) : G := by
  unfold p_X6_dry at h1 h2
  by_cases cc : (gI s x0 20) = 0
  · replace h1 := h1.1 cc
    replace h2 := h2.1 cc
    exact hQ _ _ (by first | exact hw | simpa [gI, setI, setR, setJ, setT] using hw) h1 h2
  · replace h1 := h1.2 cc
    replace h2 := h2.2 cc
    obtain ⟨n2, h1⟩ := h1
    obtain ⟨n2x, h2⟩ := h2
    exact d_p_X6_dry_L15 (w := w) (by first | exact hw | simpa [gI, setI, setR, setJ, setT] using hw) h1 h2 hQ
theorem d_p_X6_least {G : Prop} {Q1 Q2 : Int32 → Sg → Prop} {x0 : Nat} {x1 : Int32} {x2 : Int32} {x3 : Int32} {s : Sg} {w : Int32} (hw : gI s 0 20 = w) (h1 : p_X6_least x0 x1 x2 x3 s Q1) (h2 : p_X6_least x0 x1 x2 x3 s Q2) (hQ : ∀ (v0 : Int32) (v1 : Sg), gI v1 0 20 = w → Q1 v0 v1 → Q2 v0 v1 → G) : G := by
  unfold p_X6_least at h1 h2
  refine d_p_X6_isWoman (w := w) (by first | exact hw | simpa [gI, setI, setR, setJ, setT] using hw) h1 h2 (fun r2 s1 hw h1 h2 => ?_)
  by_cases cc : r2 = 0
  · replace h1 := h1.1 cc
    replace h2 := h2.1 cc
    exact hQ _ _ (by first | exact hw | simpa [gI, setI, setR, setJ, setT] using hw) h1 h2
  · replace h1 := h1.2 cc
    replace h2 := h2.2 cc
    refine d_p_X6_isHeight (w := w) (by first | exact hw | simpa [gI, setI, setR, setJ, setT] using hw) h1 h2 (fun r5 s4 hw h1 h2 => ?_)
    by_cases cc : r5 = 0
    · replace h1 := h1.1 cc
      replace h2 := h2.1 cc
      exact hQ _ _ (by first | exact hw | simpa [gI, setI, setR, setJ, setT] using hw) h1 h2
    · replace h1 := h1.2 cc
      replace h2 := h2.2 cc
      refine d_p_X6_isHeight (w := w) (by first | exact hw | simpa [gI, setI, setR, setJ, setT] using hw) h1 h2 (fun r8 s7 hw h1 h2 => ?_)
      by_cases cc : r8 = 0
      · replace h1 := h1.1 cc
        replace h2 := h2.1 cc
        exact hQ _ _ (by first | exact hw | simpa [gI, setI, setR, setJ, setT] using hw) h1 h2
      · replace h1 := h1.2 cc
        replace h2 := h2.2 cc
        obtain ⟨k10, e0, _, _, h1⟩ := h1
        obtain ⟨k10x, f0, _, _, h2⟩ := h2
        have ee := Option.some.inj (e0.symm.trans f0)
        subst ee
        obtain ⟨k14, e0, _, _, h1⟩ := h1
        obtain ⟨k14x, f0, _, _, h2⟩ := h2
        have ee := Option.some.inj (e0.symm.trans f0)
        subst ee
        refine d_p_X6_wet (w := w) (by first | exact hw | simpa [gI, setI, setR, setJ, setT] using hw) h1 h2 (fun r19 s18 hw h1 h2 => ?_)
        obtain ⟨k20, e0, _, _, h1⟩ := h1
        obtain ⟨k20x, f0, _, _, h2⟩ := h2
        have ee := Option.some.inj (e0.symm.trans f0)
        subst ee
        obtain ⟨k24, e0, _, _, h1⟩ := h1
        obtain ⟨k24x, f0, _, _, h2⟩ := h2
        have ee := Option.some.inj (e0.symm.trans f0)
        subst ee
        by_cases cc : ((gR s18 k24 (gR s18 k20 x1.toNatClampNeg).toNatClampNeg) + r19) ≤ 9
        · replace h1 := h1.1 cc
          replace h2 := h2.1 cc
          exact hQ _ _ (by first | exact hw | simpa [gI, setI, setR, setJ, setT] using hw) h1 h2
        · replace h1 := h1.2 cc
          replace h2 := h2.2 cc
          exact hQ _ _ (by first | exact hw | simpa [gI, setI, setR, setJ, setT] using hw) h1 h2
theorem d_p_X6_worthOf_b103 {G : Prop} {Q1 Q2 : Int32 → Sg → Prop} {K131 K132 : Nat → Int32 → Int32 → Int32 → Int32 → Int32 → Int32 → Sg → Prop} {x0 : Nat} {x1 : Int32} {x2 : Int32} {x3 : Int32} {x4 : Int32} {x5 : Int32} {x6 : Int32} {s : Sg} {w : Int32} (hw : gI s 0 20 = w) (h1 : p_X6_worthOf_b103 Q1 K131 x0 x1 x2 x3 x4 x5 x6 s) (h2 : p_X6_worthOf_b103 Q2 K132 x0 x1 x2 x3 x4 x5 x6 s) (hQ : ∀ (v0 : Int32) (v1 : Sg), gI v1 0 20 = w → Q1 v0 v1 → Q2 v0 v1 → G) (hK13 : ∀ (v0 : Nat) (v1 : Int32) (v2 : Int32) (v3 : Int32) (v4 : Int32) (v5 : Int32) (v6 : Int32) (v7 : Sg), gI v7 0 20 = w → K131 v0 v1 v2 v3 v4 v5 v6 v7 → K132 v0 v1 v2 v3 v4 v5 v6 v7 → G) : G := by
  unfold p_X6_worthOf_b103 at h1 h2
  exact hK13 _ _ _ _ _ _ _ _ (by first | exact hw | simpa [gI, setI, setR, setJ, setT] using hw) h1 h2
theorem d_p_X6_worthOf_b87 {G : Prop} {Q1 Q2 : Int32 → Sg → Prop} {K131 K132 : Nat → Int32 → Int32 → Int32 → Int32 → Int32 → Int32 → Sg → Prop} {x0 : Nat} {x1 : Int32} {x2 : Int32} {x3 : Int32} {x4 : Int32} {x6 : Int32} {x8 : Int32} {t0 : Int32} {s : Sg} {w : Int32} (hw : gI s 0 20 = w) (h1 : p_X6_worthOf_b87 Q1 K131 x0 x1 x2 x3 x4 x6 x8 t0 s) (h2 : p_X6_worthOf_b87 Q2 K132 x0 x1 x2 x3 x4 x6 x8 t0 s) (hQ : ∀ (v0 : Int32) (v1 : Sg), gI v1 0 20 = w → Q1 v0 v1 → Q2 v0 v1 → G) (hK13 : ∀ (v0 : Nat) (v1 : Int32) (v2 : Int32) (v3 : Int32) (v4 : Int32) (v5 : Int32) (v6 : Int32) (v7 : Sg), gI v7 0 20 = w → K131 v0 v1 v2 v3 v4 v5 v6 v7 → K132 v0 v1 v2 v3 v4 v5 v6 v7 → G) : G := by
  unfold p_X6_worthOf_b87 at h1 h2
  obtain ⟨k1, e0, _, _, h1⟩ := h1
  obtain ⟨k1x, f0, _, _, h2⟩ := h2
  have ee := Option.some.inj (e0.symm.trans f0)
  subst ee
  obtain ⟨k5, e0, _, _, h1⟩ := h1
  obtain ⟨k5x, f0, _, _, h2⟩ := h2
  have ee := Option.some.inj (e0.symm.trans f0)
  subst ee
  exact d_p_X6_worthOf_b103 (w := w) (by first | exact hw | simpa [gI, setI, setR, setJ, setT] using hw) h1 h2 hQ hK13
theorem d_p_X6_worthOf_b86 {G : Prop} {Q1 Q2 : Int32 → Sg → Prop} {K131 K132 : Nat → Int32 → Int32 → Int32 → Int32 → Int32 → Int32 → Sg → Prop} {x0 : Nat} {x1 : Int32} {x2 : Int32} {x3 : Int32} {x4 : Int32} {x6 : Int32} {x8 : Int32} {s : Sg} {w : Int32} (hw : gI s 0 20 = w) (h1 : p_X6_worthOf_b86 Q1 K131 x0 x1 x2 x3 x4 x6 x8 s) (h2 : p_X6_worthOf_b86 Q2 K132 x0 x1 x2 x3 x4 x6 x8 s) (hQ : ∀ (v0 : Int32) (v1 : Sg), gI v1 0 20 = w → Q1 v0 v1 → Q2 v0 v1 → G) (hK13 : ∀ (v0 : Nat) (v1 : Int32) (v2 : Int32) (v3 : Int32) (v4 : Int32) (v5 : Int32) (v6 : Int32) (v7 : Sg), gI v7 0 20 = w → K131 v0 v1 v2 v3 v4 v5 v6 v7 → K132 v0 v1 v2 v3 v4 v5 v6 v7 → G) : G := by
  unfold p_X6_worthOf_b86 at h1 h2
  exact d_p_X6_worthOf_b87 (w := w) (by first | exact hw | simpa [gI, setI, setR, setJ, setT] using hw) h1 h2 hQ hK13
theorem d_p_X6_worthOf_b49 {G : Prop} {Q1 Q2 : Int32 → Sg → Prop} {K131 K132 : Nat → Int32 → Int32 → Int32 → Int32 → Int32 → Int32 → Sg → Prop} {x0 : Nat} {x1 : Int32} {x2 : Int32} {x3 : Int32} {x4 : Int32} {x5 : Int32} {x6 : Int32} {x7 : Int32} {t0 : Int32} {s : Sg} {w : Int32} (hw : gI s 0 20 = w) (h1 : p_X6_worthOf_b49 Q1 K131 x0 x1 x2 x3 x4 x5 x6 x7 t0 s) (h2 : p_X6_worthOf_b49 Q2 K132 x0 x1 x2 x3 x4 x5 x6 x7 t0 s) (hQ : ∀ (v0 : Int32) (v1 : Sg), gI v1 0 20 = w → Q1 v0 v1 → Q2 v0 v1 → G) (hK13 : ∀ (v0 : Nat) (v1 : Int32) (v2 : Int32) (v3 : Int32) (v4 : Int32) (v5 : Int32) (v6 : Int32) (v7 : Sg), gI v7 0 20 = w → K131 v0 v1 v2 v3 v4 v5 v6 v7 → K132 v0 v1 v2 v3 v4 v5 v6 v7 → G) : G := by
  unfold p_X6_worthOf_b49 at h1 h2
  by_cases cc : 3 ≤ x7
  · replace h1 := h1.1 cc
    replace h2 := h2.1 cc
    exact d_p_X6_worthOf_b103 (w := w) (by first | exact hw | simpa [gI, setI, setR, setJ, setT] using hw) h1 h2 hQ hK13
  · replace h1 := h1.2 cc
    replace h2 := h2.2 cc
    by_cases cc : x5 = 0
    · replace h1 := h1.1 cc
      replace h2 := h2.1 cc
      exact d_p_X6_worthOf_b86 (w := w) (by first | exact hw | simpa [gI, setI, setR, setJ, setT] using hw) h1 h2 hQ hK13
    · replace h1 := h1.2 cc
      replace h2 := h2.2 cc
      obtain ⟨k3, e0, _, _, h1⟩ := h1
      obtain ⟨k3x, f0, _, _, h2⟩ := h2
      have ee := Option.some.inj (e0.symm.trans f0)
      subst ee
      obtain ⟨k7, e0, _, _, h1⟩ := h1
      obtain ⟨k7x, f0, _, _, h2⟩ := h2
      have ee := Option.some.inj (e0.symm.trans f0)
      subst ee
      by_cases cc : 9 ≤ ((gR s k3 t0.toNatClampNeg) + (gR s k7 t0.toNatClampNeg))
      · replace h1 := h1.1 cc
        replace h2 := h2.1 cc
        exact d_p_X6_worthOf_b86 (w := w) (by first | exact hw | simpa [gI, setI, setR, setJ, setT] using hw) h1 h2 hQ hK13
      · replace h1 := h1.2 cc
        replace h2 := h2.2 cc
        exact d_p_X6_worthOf_b87 (w := w) (by first | exact hw | simpa [gI, setI, setR, setJ, setT] using hw) h1 h2 hQ hK13
theorem D_p_X6_worthOf_L13 {G : Prop} {Q1 Q2 : Int32 → Sg → Prop}  {w : Int32} (hQ : ∀ (v0 : Int32) (v1 : Sg), gI v1 0 20 = w → Q1 v0 v1 → Q2 v0 v1 → G) : ∀ (n m : Nat) (x0 : Nat) (x1 : Int32) (x2 : Int32) (x3 : Int32) (x4 : Int32) (x5 : Int32) (x6 : Int32) (s : Sg), gI s 0 20 = w → p_X6_worthOf_L13 Q1 n x0 x1 x2 x3 x4 x5 x6 s → p_X6_worthOf_L13 Q2 m x0 x1 x2 x3 x4 x5 x6 s → G := by
  intro n
  induction n with
  | zero =>
    intro m x0 x1 x2 x3 x4 x5 x6 s hw h1
    exact h1.elim
  | succ n ih =>
    intro m x0 x1 x2 x3 x4 x5 x6 s hw h1 h2
    cases m with
    | zero => exact h2.elim
    | succ m =>
      unfold p_X6_worthOf_L13 at h1 h2
      by_cases cc : x2 ≤ x6
      · replace h1 := h1.1 cc
        replace h2 := h2.1 cc
        refine d_p_X6_less (w := w) (by first | exact hw | simpa [gI, setI, setR, setJ, setT] using hw) h1 h2 (fun r3 s2 hw h1 h2 => ?_)
        by_cases cc : x5 = 0
        · replace h1 := h1.1 cc
          replace h2 := h2.1 cc
          exact hQ _ _ (by first | exact hw | simpa [gI, setI, setR, setJ, setT] using hw) h1 h2
        · replace h1 := h1.2 cc
          replace h2 := h2.2 cc
          refine d_p_X6_wetAll (w := w) (by first | exact hw | simpa [gI, setI, setR, setJ, setT] using hw) h1 h2 (fun r6 s5 hw h1 h2 => ?_)
          refine d_p_X6_wetAll (w := w) (by first | exact hw | simpa [gI, setI, setR, setJ, setT] using hw) h1 h2 (fun r8 s7 hw h1 h2 => ?_)
          exact hQ _ _ (by first | exact hw | simpa [gI, setI, setR, setJ, setT] using hw) h1 h2
      · replace h1 := h1.2 cc
        replace h2 := h2.2 cc
        by_cases cc : (x6 - x6 / 2 * 2) = 0
        · replace h1 := h1.1 cc
          replace h2 := h2.1 cc
          exact d_p_X6_worthOf_b49 (w := w) (by first | exact hw | simpa [gI, setI, setR, setJ, setT] using hw) h1 h2 hQ (fun _ _ _ _ _ _ _ _ hw h1 h2 => ih _ _ _ _ _ _ _ _ _ hw h1 h2)
        · replace h1 := h1.2 cc
          replace h2 := h2.2 cc
          exact d_p_X6_worthOf_b49 (w := w) (by first | exact hw | simpa [gI, setI, setR, setJ, setT] using hw) h1 h2 hQ (fun _ _ _ _ _ _ _ _ hw h1 h2 => ih _ _ _ _ _ _ _ _ _ hw h1 h2)
theorem d_p_X6_worthOf_L13 {G : Prop} {Q1 Q2 : Int32 → Sg → Prop}  {n m : Nat} {x0 : Nat} {x1 : Int32} {x2 : Int32} {x3 : Int32} {x4 : Int32} {x5 : Int32} {x6 : Int32} {s : Sg} {w : Int32} (hw : gI s 0 20 = w) (h1 : p_X6_worthOf_L13 Q1 n x0 x1 x2 x3 x4 x5 x6 s) (h2 : p_X6_worthOf_L13 Q2 m x0 x1 x2 x3 x4 x5 x6 s) (hQ : ∀ (v0 : Int32) (v1 : Sg), gI v1 0 20 = w → Q1 v0 v1 → Q2 v0 v1 → G) : G := D_p_X6_worthOf_L13 hQ n m x0 x1 x2 x3 x4 x5 x6 s hw h1 h2
theorem d_p_X6_worthOf {G : Prop} {Q1 Q2 : Int32 → Sg → Prop} {x0 : Nat} {x1 : Int32} {x2 : Int32} {x3 : Int32} {s : Sg} {w : Int32} (hw : gI s 0 20 = w) (h1 : p_X6_worthOf x0 x1 x2 x3 s Q1) (h2 : p_X6_worthOf x0 x1 x2 x3 s Q2) (hQ : ∀ (v0 : Int32) (v1 : Sg), gI v1 0 20 = w → Q1 v0 v1 → Q2 v0 v1 → G) : G := by
  unfold p_X6_worthOf at h1 h2
  refine d_p_X6_noMore (w := w) (by first | exact hw | simpa [gI, setI, setR, setJ, setT] using hw) h1 h2 (fun s1 hw h1 h2 => ?_)
  obtain ⟨n2, h1⟩ := h1
  obtain ⟨n2x, h2⟩ := h2
  exact d_p_X6_worthOf_L13 (w := w) (by first | exact hw | simpa [gI, setI, setR, setJ, setT] using hw) h1 h2 hQ
theorem d_p_X6_duel_b166 {G : Prop} {Q1 Q2 : Int32 → Sg → Prop} {K881 K882 : Nat → Int32 → Int32 → Int32 → Int32 → Sg → Prop} {x0 : Nat} {x3 : Int32} {x4 : Int32} {x6 : Int32} {t0 : Int32} {s : Sg} {w : Int32} (hw : gI s 0 20 = w) (h1 : p_X6_duel_b166 Q1 K881 x0 x3 x4 x6 t0 s) (h2 : p_X6_duel_b166 Q2 K882 x0 x3 x4 x6 t0 s) (hQ : ∀ (v0 : Int32) (v1 : Sg), gI v1 0 20 = w → Q1 v0 v1 → Q2 v0 v1 → G) (hK88 : ∀ (v0 : Nat) (v1 : Int32) (v2 : Int32) (v3 : Int32) (v4 : Int32) (v5 : Sg), gI v5 0 20 = w → K881 v0 v1 v2 v3 v4 v5 → K882 v0 v1 v2 v3 v4 v5 → G) : G := by
  unfold p_X6_duel_b166 at h1 h2
  exact hK88 _ _ _ _ _ _ (by first | exact hw | simpa [gI, setI, setR, setJ, setT] using hw) h1 h2
theorem d_p_X6_duel_b164 {G : Prop} {Q1 Q2 : Int32 → Sg → Prop} {K881 K882 : Nat → Int32 → Int32 → Int32 → Int32 → Sg → Prop} {x0 : Nat} {x3 : Int32} {x4 : Int32} {x5 : Int32} {x6 : Int32} {s : Sg} {w : Int32} (hw : gI s 0 20 = w) (h1 : p_X6_duel_b164 Q1 K881 x0 x3 x4 x5 x6 s) (h2 : p_X6_duel_b164 Q2 K882 x0 x3 x4 x5 x6 s) (hQ : ∀ (v0 : Int32) (v1 : Sg), gI v1 0 20 = w → Q1 v0 v1 → Q2 v0 v1 → G) (hK88 : ∀ (v0 : Nat) (v1 : Int32) (v2 : Int32) (v3 : Int32) (v4 : Int32) (v5 : Sg), gI v5 0 20 = w → K881 v0 v1 v2 v3 v4 v5 → K882 v0 v1 v2 v3 v4 v5 → G) : G := by
  unfold p_X6_duel_b164 at h1 h2
  exact d_p_X6_duel_b166 (w := w) (by first | exact hw | simpa [gI, setI, setR, setJ, setT] using hw) h1 h2 hQ hK88
theorem d_p_X6_duel_b144 {G : Prop} {Q1 Q2 : Int32 → Sg → Prop} {K881 K882 : Nat → Int32 → Int32 → Int32 → Int32 → Sg → Prop} {x0 : Nat} {x3 : Int32} {x4 : Int32} {x5 : Int32} {x6 : Int32} {x7 : Int32} {t0 : Int32} {s : Sg} {w : Int32} (hw : gI s 0 20 = w) (h1 : p_X6_duel_b144 Q1 K881 x0 x3 x4 x5 x6 x7 t0 s) (h2 : p_X6_duel_b144 Q2 K882 x0 x3 x4 x5 x6 x7 t0 s) (hQ : ∀ (v0 : Int32) (v1 : Sg), gI v1 0 20 = w → Q1 v0 v1 → Q2 v0 v1 → G) (hK88 : ∀ (v0 : Nat) (v1 : Int32) (v2 : Int32) (v3 : Int32) (v4 : Int32) (v5 : Sg), gI v5 0 20 = w → K881 v0 v1 v2 v3 v4 v5 → K882 v0 v1 v2 v3 v4 v5 → G) : G := by
  unfold p_X6_duel_b144 at h1 h2
  by_cases cc : x7 = ((-1000000))
  · replace h1 := h1.1 cc
    replace h2 := h2.1 cc
    exact d_p_X6_duel_b164 (w := w) (by first | exact hw | simpa [gI, setI, setR, setJ, setT] using hw) h1 h2 hQ hK88
  · replace h1 := h1.2 cc
    replace h2 := h2.2 cc
    by_cases cc : t0 = 0
    · replace h1 := h1.1 cc
      replace h2 := h2.1 cc
      exact d_p_X6_duel_b164 (w := w) (by first | exact hw | simpa [gI, setI, setR, setJ, setT] using hw) h1 h2 hQ hK88
    · replace h1 := h1.2 cc
      replace h2 := h2.2 cc
      exact d_p_X6_duel_b166 (w := w) (by first | exact hw | simpa [gI, setI, setR, setJ, setT] using hw) h1 h2 hQ hK88
theorem d_p_X6_duel_b139 {G : Prop} {Q1 Q2 : Int32 → Sg → Prop} {K881 K882 : Nat → Int32 → Int32 → Int32 → Int32 → Sg → Prop} {x0 : Nat} {x3 : Int32} {x4 : Int32} {x5 : Int32} {x6 : Int32} {x7 : Int32} {s : Sg} {w : Int32} (hw : gI s 0 20 = w) (h1 : p_X6_duel_b139 Q1 K881 x0 x3 x4 x5 x6 x7 s) (h2 : p_X6_duel_b139 Q2 K882 x0 x3 x4 x5 x6 x7 s) (hQ : ∀ (v0 : Int32) (v1 : Sg), gI v1 0 20 = w → Q1 v0 v1 → Q2 v0 v1 → G) (hK88 : ∀ (v0 : Nat) (v1 : Int32) (v2 : Int32) (v3 : Int32) (v4 : Int32) (v5 : Sg), gI v5 0 20 = w → K881 v0 v1 v2 v3 v4 v5 → K882 v0 v1 v2 v3 v4 v5 → G) : G := by
  unfold p_X6_duel_b139 at h1 h2
  exact d_p_X6_duel_b144 (w := w) (by first | exact hw | simpa [gI, setI, setR, setJ, setT] using hw) h1 h2 hQ hK88
theorem d_p_X6_duel_b143 {G : Prop} {Q1 Q2 : Int32 → Sg → Prop} {K881 K882 : Nat → Int32 → Int32 → Int32 → Int32 → Sg → Prop} {x0 : Nat} {x3 : Int32} {x4 : Int32} {x5 : Int32} {x6 : Int32} {x7 : Int32} {s : Sg} {w : Int32} (hw : gI s 0 20 = w) (h1 : p_X6_duel_b143 Q1 K881 x0 x3 x4 x5 x6 x7 s) (h2 : p_X6_duel_b143 Q2 K882 x0 x3 x4 x5 x6 x7 s) (hQ : ∀ (v0 : Int32) (v1 : Sg), gI v1 0 20 = w → Q1 v0 v1 → Q2 v0 v1 → G) (hK88 : ∀ (v0 : Nat) (v1 : Int32) (v2 : Int32) (v3 : Int32) (v4 : Int32) (v5 : Sg), gI v5 0 20 = w → K881 v0 v1 v2 v3 v4 v5 → K882 v0 v1 v2 v3 v4 v5 → G) : G := by
  unfold p_X6_duel_b143 at h1 h2
  exact d_p_X6_duel_b144 (w := w) (by first | exact hw | simpa [gI, setI, setR, setJ, setT] using hw) h1 h2 hQ hK88
theorem D_p_X6_duel_L88 {G : Prop} {Q1 Q2 : Int32 → Sg → Prop} {K701 K702 : Nat → Int32 → Int32 → Sg → Prop}  {w : Int32} (hQ : ∀ (v0 : Int32) (v1 : Sg), gI v1 0 20 = w → Q1 v0 v1 → Q2 v0 v1 → G) (hK70 : ∀ (v0 : Nat) (v1 : Int32) (v2 : Int32) (v3 : Sg), gI v3 0 20 = w → K701 v0 v1 v2 v3 → K702 v0 v1 v2 v3 → G) : ∀ (n m : Nat) (x0 : Nat) (x3 : Int32) (x4 : Int32) (x5 : Int32) (x6 : Int32) (s : Sg), gI s 0 20 = w → p_X6_duel_L88 Q1 K701 n x0 x3 x4 x5 x6 s → p_X6_duel_L88 Q2 K702 m x0 x3 x4 x5 x6 s → G := by
  intro n
  induction n with
  | zero =>
    intro m x0 x3 x4 x5 x6 s hw h1
    exact h1.elim
  | succ n ih =>
    intro m x0 x3 x4 x5 x6 s hw h1 h2
    cases m with
    | zero => exact h2.elim
    | succ m =>
      unfold p_X6_duel_L88 at h1 h2
      by_cases cc : 4 ≤ x6
      · replace h1 := h1.1 cc
        replace h2 := h2.1 cc
        obtain ⟨k2, e0, _, _, h1⟩ := h1
        obtain ⟨k2x, f0, _, _, h2⟩ := h2
        have ee := Option.some.inj (e0.symm.trans f0)
        subst ee
        exact hK70 _ _ _ _ (by first | exact hw | simpa [gI, setI, setR, setJ, setT] using hw) h1 h2
      · replace h1 := h1.2 cc
        replace h2 := h2.2 cc
        obtain ⟨k6, e0, _, _, h1⟩ := h1
        obtain ⟨k6x, f0, _, _, h2⟩ := h2
        have ee := Option.some.inj (e0.symm.trans f0)
        subst ee
        by_cases cc : x5 = ((-1000000))
        · replace h1 := h1.1 cc
          replace h2 := h2.1 cc
          exact d_p_X6_duel_b139 (w := w) (by first | exact hw | simpa [gI, setI, setR, setJ, setT] using hw) h1 h2 hQ (fun _ _ _ _ _ _ hw h1 h2 => ih _ _ _ _ _ _ _ hw h1 h2)
        · replace h1 := h1.2 cc
          replace h2 := h2.2 cc
          by_cases cc : (x3 - x3 / 2 * 2) = 0
          · replace h1 := h1.1 cc
            replace h2 := h2.1 cc
            by_cases cc : (gR s k6 ((4 * x4) + x6).toNatClampNeg) ≤ x5
            · replace h1 := h1.1 cc
              replace h2 := h2.1 cc
              exact d_p_X6_duel_b143 (w := w) (by first | exact hw | simpa [gI, setI, setR, setJ, setT] using hw) h1 h2 hQ (fun _ _ _ _ _ _ hw h1 h2 => ih _ _ _ _ _ _ _ hw h1 h2)
            · replace h1 := h1.2 cc
              replace h2 := h2.2 cc
              exact d_p_X6_duel_b139 (w := w) (by first | exact hw | simpa [gI, setI, setR, setJ, setT] using hw) h1 h2 hQ (fun _ _ _ _ _ _ hw h1 h2 => ih _ _ _ _ _ _ _ hw h1 h2)
          · replace h1 := h1.2 cc
            replace h2 := h2.2 cc
            by_cases cc : x5 ≤ (gR s k6 ((4 * x4) + x6).toNatClampNeg)
            · replace h1 := h1.1 cc
              replace h2 := h2.1 cc
              exact d_p_X6_duel_b143 (w := w) (by first | exact hw | simpa [gI, setI, setR, setJ, setT] using hw) h1 h2 hQ (fun _ _ _ _ _ _ hw h1 h2 => ih _ _ _ _ _ _ _ hw h1 h2)
            · replace h1 := h1.2 cc
              replace h2 := h2.2 cc
              exact d_p_X6_duel_b139 (w := w) (by first | exact hw | simpa [gI, setI, setR, setJ, setT] using hw) h1 h2 hQ (fun _ _ _ _ _ _ hw h1 h2 => ih _ _ _ _ _ _ _ hw h1 h2)
theorem d_p_X6_duel_L88 {G : Prop} {Q1 Q2 : Int32 → Sg → Prop} {K701 K702 : Nat → Int32 → Int32 → Sg → Prop}  {n m : Nat} {x0 : Nat} {x3 : Int32} {x4 : Int32} {x5 : Int32} {x6 : Int32} {s : Sg} {w : Int32} (hw : gI s 0 20 = w) (h1 : p_X6_duel_L88 Q1 K701 n x0 x3 x4 x5 x6 s) (h2 : p_X6_duel_L88 Q2 K702 m x0 x3 x4 x5 x6 s) (hQ : ∀ (v0 : Int32) (v1 : Sg), gI v1 0 20 = w → Q1 v0 v1 → Q2 v0 v1 → G) (hK70 : ∀ (v0 : Nat) (v1 : Int32) (v2 : Int32) (v3 : Sg), gI v3 0 20 = w → K701 v0 v1 v2 v3 → K702 v0 v1 v2 v3 → G) : G := D_p_X6_duel_L88 hQ hK70 n m x0 x3 x4 x5 x6 s hw h1 h2
theorem D_p_X6_duel_L70 {G : Prop} {Q1 Q2 : Int32 → Sg → Prop} {K631 K632 : Nat → Int32 → Sg → Prop}  {w : Int32} (hQ : ∀ (v0 : Int32) (v1 : Sg), gI v1 0 20 = w → Q1 v0 v1 → Q2 v0 v1 → G) (hK63 : ∀ (v0 : Nat) (v1 : Int32) (v2 : Sg), gI v2 0 20 = w → K631 v0 v1 v2 → K632 v0 v1 v2 → G) : ∀ (n m : Nat) (x0 : Nat) (x3 : Int32) (x4 : Int32) (s : Sg), gI s 0 20 = w → p_X6_duel_L70 Q1 K631 n x0 x3 x4 s → p_X6_duel_L70 Q2 K632 m x0 x3 x4 s → G := by
  intro n
  induction n with
  | zero =>
    intro m x0 x3 x4 s hw h1
    exact h1.elim
  | succ n ih =>
    intro m x0 x3 x4 s hw h1 h2
    cases m with
    | zero => exact h2.elim
    | succ m =>
      unfold p_X6_duel_L70 at h1 h2
      by_cases cc : (1 <<< ((2 * x3) &&& 31)) ≤ x4
      · replace h1 := h1.1 cc
        replace h2 := h2.1 cc
        exact hK63 _ _ _ (by first | exact hw | simpa [gI, setI, setR, setJ, setT] using hw) h1 h2
      · replace h1 := h1.2 cc
        replace h2 := h2.2 cc
        obtain ⟨n2, h1⟩ := h1
        obtain ⟨n2x, h2⟩ := h2
        exact d_p_X6_duel_L88 (w := w) (by first | exact hw | simpa [gI, setI, setR, setJ, setT] using hw) h1 h2 hQ (fun _ _ _ _ hw h1 h2 => ih _ _ _ _ _ hw h1 h2)
theorem d_p_X6_duel_L70 {G : Prop} {Q1 Q2 : Int32 → Sg → Prop} {K631 K632 : Nat → Int32 → Sg → Prop}  {n m : Nat} {x0 : Nat} {x3 : Int32} {x4 : Int32} {s : Sg} {w : Int32} (hw : gI s 0 20 = w) (h1 : p_X6_duel_L70 Q1 K631 n x0 x3 x4 s) (h2 : p_X6_duel_L70 Q2 K632 m x0 x3 x4 s) (hQ : ∀ (v0 : Int32) (v1 : Sg), gI v1 0 20 = w → Q1 v0 v1 → Q2 v0 v1 → G) (hK63 : ∀ (v0 : Nat) (v1 : Int32) (v2 : Sg), gI v2 0 20 = w → K631 v0 v1 v2 → K632 v0 v1 v2 → G) : G := D_p_X6_duel_L70 hQ hK63 n m x0 x3 x4 s hw h1 h2
theorem D_p_X6_duel_L63 {G : Prop} {Q1 Q2 : Int32 → Sg → Prop}  {w : Int32} (hQ : ∀ (v0 : Int32) (v1 : Sg), gI v1 0 20 = w → Q1 v0 v1 → Q2 v0 v1 → G) : ∀ (n m : Nat) (x0 : Nat) (x3 : Int32) (s : Sg), gI s 0 20 = w → p_X6_duel_L63 Q1 n x0 x3 s → p_X6_duel_L63 Q2 m x0 x3 s → G := by
  intro n
  induction n with
  | zero =>
    intro m x0 x3 s hw h1
    exact h1.elim
  | succ n ih =>
    intro m x0 x3 s hw h1 h2
    cases m with
    | zero => exact h2.elim
    | succ m =>
      unfold p_X6_duel_L63 at h1 h2
      by_cases cc : x3 < 0
      · replace h1 := h1.1 cc
        replace h2 := h2.1 cc
        obtain ⟨k2, e0, _, _, h1⟩ := h1
        obtain ⟨k2x, f0, _, _, h2⟩ := h2
        have ee := Option.some.inj (e0.symm.trans f0)
        subst ee
        exact hQ _ _ (by first | exact hw | simpa [gI, setI, setR, setJ, setT] using hw) h1 h2
      · replace h1 := h1.2 cc
        replace h2 := h2.2 cc
        obtain ⟨n6, h1⟩ := h1
        obtain ⟨n6x, h2⟩ := h2
        exact d_p_X6_duel_L70 (w := w) (by first | exact hw | simpa [gI, setI, setR, setJ, setT] using hw) h1 h2 hQ (fun _ _ _ hw h1 h2 => ih _ _ _ _ hw h1 h2)
theorem d_p_X6_duel_L63 {G : Prop} {Q1 Q2 : Int32 → Sg → Prop}  {n m : Nat} {x0 : Nat} {x3 : Int32} {s : Sg} {w : Int32} (hw : gI s 0 20 = w) (h1 : p_X6_duel_L63 Q1 n x0 x3 s) (h2 : p_X6_duel_L63 Q2 m x0 x3 s) (hQ : ∀ (v0 : Int32) (v1 : Sg), gI v1 0 20 = w → Q1 v0 v1 → Q2 v0 v1 → G) : G := D_p_X6_duel_L63 hQ n m x0 x3 s hw h1 h2
theorem D_p_X6_duel_L31 {G : Prop} {Q1 Q2 : Int32 → Sg → Prop}  {w : Int32} (hQ : ∀ (v0 : Int32) (v1 : Sg), gI v1 0 20 = w → Q1 v0 v1 → Q2 v0 v1 → G) : ∀ (n m : Nat) (x0 : Nat) (x1 : Int32) (x2 : Int32) (x3 : Int32) (s : Sg), gI s 0 20 = w → p_X6_duel_L31 Q1 n x0 x1 x2 x3 s → p_X6_duel_L31 Q2 m x0 x1 x2 x3 s → G := by
  intro n
  induction n with
  | zero =>
    intro m x0 x1 x2 x3 s hw h1
    exact h1.elim
  | succ n ih =>
    intro m x0 x1 x2 x3 s hw h1 h2
    cases m with
    | zero => exact h2.elim
    | succ m =>
      unfold p_X6_duel_L31 at h1 h2
      by_cases cc : (1 <<< ((2 * x1) &&& 31)) ≤ x3
      · replace h1 := h1.1 cc
        replace h2 := h2.1 cc
        obtain ⟨n2, h1⟩ := h1
        obtain ⟨n2x, h2⟩ := h2
        exact d_p_X6_duel_L63 (w := w) (by first | exact hw | simpa [gI, setI, setR, setJ, setT] using hw) h1 h2 hQ
      · replace h1 := h1.2 cc
        replace h2 := h2.2 cc
        refine d_p_X6_worthOf (w := w) (by first | exact hw | simpa [gI, setI, setR, setJ, setT] using hw) h1 h2 (fun r4 s3 hw h1 h2 => ?_)
        obtain ⟨k5, e0, _, _, h1⟩ := h1
        obtain ⟨k5x, f0, _, _, h2⟩ := h2
        have ee := Option.some.inj (e0.symm.trans f0)
        subst ee
        exact ih _ _ _ _ _ _ (by first | exact hw | simpa [gI, setI, setR, setJ, setT] using hw) h1 h2
theorem d_p_X6_duel_L31 {G : Prop} {Q1 Q2 : Int32 → Sg → Prop}  {n m : Nat} {x0 : Nat} {x1 : Int32} {x2 : Int32} {x3 : Int32} {s : Sg} {w : Int32} (hw : gI s 0 20 = w) (h1 : p_X6_duel_L31 Q1 n x0 x1 x2 x3 s) (h2 : p_X6_duel_L31 Q2 m x0 x1 x2 x3 s) (hQ : ∀ (v0 : Int32) (v1 : Sg), gI v1 0 20 = w → Q1 v0 v1 → Q2 v0 v1 → G) : G := D_p_X6_duel_L31 hQ n m x0 x1 x2 x3 s hw h1 h2
theorem d_p_X6_duel {G : Prop} {Q1 Q2 : Int32 → Sg → Prop} {x0 : Nat} {x1 : Int32} {x2 : Int32} {s : Sg} {w : Int32} (hw : gI s 0 20 = w) (h1 : p_X6_duel x0 x1 x2 s Q1) (h2 : p_X6_duel x0 x1 x2 s Q2) (hQ : ∀ (v0 : Int32) (v1 : Sg), gI v1 0 20 = w → Q1 v0 v1 → Q2 v0 v1 → G) : G := by
  unfold p_X6_duel at h1 h2
  refine d_p_X6_in (w := w) (by first | exact hw | simpa [gI, setI, setR, setJ, setT] using hw) h1 h2 (fun r2 s1 hw h1 h2 => ?_)
  by_cases cc : r2 = 0
  · replace h1 := h1.1 cc
    replace h2 := h2.1 cc
    exact hQ _ _ (by first | exact hw | simpa [gI, setI, setR, setJ, setT] using hw) h1 h2
  · replace h1 := h1.2 cc
    replace h2 := h2.2 cc
    refine d_p_X6_isHeight (w := w) (by first | exact hw | simpa [gI, setI, setR, setJ, setT] using hw) h1 h2 (fun r5 s4 hw h1 h2 => ?_)
    by_cases cc : r5 = 0
    · replace h1 := h1.1 cc
      replace h2 := h2.1 cc
      exact hQ _ _ (by first | exact hw | simpa [gI, setI, setR, setJ, setT] using hw) h1 h2
    · replace h1 := h1.2 cc
      replace h2 := h2.2 cc
      by_cases cc : (gI s4 x0 20) = 0
      · replace h1 := h1.1 cc
        replace h2 := h2.1 cc
        exact hQ _ _ (by first | exact hw | simpa [gI, setI, setR, setJ, setT] using hw) h1 h2
      · replace h1 := h1.2 cc
        replace h2 := h2.2 cc
        obtain ⟨n8, h1⟩ := h1
        obtain ⟨n8x, h2⟩ := h2
        exact d_p_X6_duel_L31 (w := w) (by first | exact hw | simpa [gI, setI, setR, setJ, setT] using hw) h1 h2 hQ
theorem d_p_X6_odds_b61 {G : Prop} {Q1 Q2 : Int32 → Sg → Prop} {K331 K332 : Nat → Int32 → Int32 → Int32 → Sg → Prop} {x0 : Nat} {x1 : Int32} {x3 : Int32} {t0 : Int32} {t1 : Int32} {s : Sg} {w : Int32} (hw : gI s 0 20 = w) (h1 : p_X6_odds_b61 Q1 K331 x0 x1 x3 t0 t1 s) (h2 : p_X6_odds_b61 Q2 K332 x0 x1 x3 t0 t1 s) (hQ : ∀ (v0 : Int32) (v1 : Sg), gI v1 0 20 = w → Q1 v0 v1 → Q2 v0 v1 → G) (hK33 : ∀ (v0 : Nat) (v1 : Int32) (v2 : Int32) (v3 : Int32) (v4 : Sg), gI v4 0 20 = w → K331 v0 v1 v2 v3 v4 → K332 v0 v1 v2 v3 v4 → G) : G := by
  unfold p_X6_odds_b61 at h1 h2
  exact hK33 _ _ _ _ _ (by first | exact hw | simpa [gI, setI, setR, setJ, setT] using hw) h1 h2
theorem D_p_X6_odds_L33 {G : Prop} {Q1 Q2 : Int32 → Sg → Prop}  {w : Int32} (hQ : ∀ (v0 : Int32) (v1 : Sg), gI v1 0 20 = w → Q1 v0 v1 → Q2 v0 v1 → G) : ∀ (n m : Nat) (x0 : Nat) (x1 : Int32) (x2 : Int32) (x3 : Int32) (s : Sg), gI s 0 20 = w → p_X6_odds_L33 Q1 n x0 x1 x2 x3 s → p_X6_odds_L33 Q2 m x0 x1 x2 x3 s → G := by
  intro n
  induction n with
  | zero =>
    intro m x0 x1 x2 x3 s hw h1
    exact h1.elim
  | succ n ih =>
    intro m x0 x1 x2 x3 s hw h1 h2
    cases m with
    | zero => exact h2.elim
    | succ m =>
      unfold p_X6_odds_L33 at h1 h2
      by_cases cc : (gI s x0 31) ≤ x3
      · replace h1 := h1.1 cc
        replace h2 := h2.1 cc
        refine d_p_X6_tellPart (w := w) (by first | exact hw | simpa [gI, setI, setR, setJ, setT] using hw) h1 h2 (fun s2 hw h1 h2 => ?_)
        exact hQ _ _ (by first | exact hw | simpa [gI, setI, setR, setJ, setT] using hw) h1 h2
      · replace h1 := h1.2 cc
        replace h2 := h2.2 cc
        obtain ⟨k3, e0, _, _, h1⟩ := h1
        obtain ⟨k3x, f0, _, _, h2⟩ := h2
        have ee := Option.some.inj (e0.symm.trans f0)
        subst ee
        refine d_p_X6_manyWet (w := w) (by first | exact hw | simpa [gI, setI, setR, setJ, setT] using hw) h1 h2 (fun r8 s7 hw h1 h2 => ?_)
        by_cases cc : r8 < x1
        · replace h1 := h1.1 cc
          replace h2 := h2.1 cc
          exact d_p_X6_odds_b61 (w := w) (by first | exact hw | simpa [gI, setI, setR, setJ, setT] using hw) h1 h2 hQ (fun _ _ _ _ _ hw h1 h2 => ih _ _ _ _ _ _ hw h1 h2)
        · replace h1 := h1.2 cc
          replace h2 := h2.2 cc
          exact d_p_X6_odds_b61 (w := w) (by first | exact hw | simpa [gI, setI, setR, setJ, setT] using hw) h1 h2 hQ (fun _ _ _ _ _ hw h1 h2 => ih _ _ _ _ _ _ hw h1 h2)
theorem d_p_X6_odds_L33 {G : Prop} {Q1 Q2 : Int32 → Sg → Prop}  {n m : Nat} {x0 : Nat} {x1 : Int32} {x2 : Int32} {x3 : Int32} {s : Sg} {w : Int32} (hw : gI s 0 20 = w) (h1 : p_X6_odds_L33 Q1 n x0 x1 x2 x3 s) (h2 : p_X6_odds_L33 Q2 m x0 x1 x2 x3 s) (hQ : ∀ (v0 : Int32) (v1 : Sg), gI v1 0 20 = w → Q1 v0 v1 → Q2 v0 v1 → G) : G := D_p_X6_odds_L33 hQ n m x0 x1 x2 x3 s hw h1 h2
theorem d_p_X6_odds {G : Prop} {Q1 Q2 : Int32 → Sg → Prop} {x0 : Nat} {x1 : Int32} {s : Sg} {w : Int32} (hw : gI s 0 20 = w) (h1 : p_X6_odds x0 x1 s Q1) (h2 : p_X6_odds x0 x1 s Q2) (hQ : ∀ (v0 : Int32) (v1 : Sg), gI v1 0 20 = w → Q1 v0 v1 → Q2 v0 v1 → G) : G := by
  unfold p_X6_odds at h1 h2
  refine d_p_X6_in (w := w) (by first | exact hw | simpa [gI, setI, setR, setJ, setT] using hw) h1 h2 (fun r2 s1 hw h1 h2 => ?_)
  by_cases cc : r2 = 0
  · replace h1 := h1.1 cc
    replace h2 := h2.1 cc
    exact hQ _ _ (by first | exact hw | simpa [gI, setI, setR, setJ, setT] using hw) h1 h2
  · replace h1 := h1.2 cc
    replace h2 := h2.2 cc
    by_cases cc : (gI s1 x0 20) = 0
    · replace h1 := h1.1 cc
      replace h2 := h2.1 cc
      exact hQ _ _ (by first | exact hw | simpa [gI, setI, setR, setJ, setT] using hw) h1 h2
    · replace h1 := h1.2 cc
      replace h2 := h2.2 cc
      by_cases cc : (gI s1 x0 31) = 0
      · replace h1 := h1.1 cc
        replace h2 := h2.1 cc
        exact hQ _ _ (by first | exact hw | simpa [gI, setI, setR, setJ, setT] using hw) h1 h2
      · replace h1 := h1.2 cc
        replace h2 := h2.2 cc
        obtain ⟨n6, h1⟩ := h1
        obtain ⟨n6x, h2⟩ := h2
        exact d_p_X6_odds_L33 (w := w) (by first | exact hw | simpa [gI, setI, setR, setJ, setT] using hw) h1 h2 hQ
theorem D_p_X6_mid_L25 {G : Prop} {Q1 Q2 : Int32 → Sg → Prop}  {w : Int32} (hQ : ∀ (v0 : Int32) (v1 : Sg), gI v1 0 20 = w → Q1 v0 v1 → Q2 v0 v1 → G) : ∀ (n m : Nat) (x0 : Nat) (x1 : Int32) (x2 : Int32) (s : Sg), gI s 0 20 = w → p_X6_mid_L25 Q1 n x0 x1 x2 s → p_X6_mid_L25 Q2 m x0 x1 x2 s → G := by
  intro n
  induction n with
  | zero =>
    intro m x0 x1 x2 s hw h1
    exact h1.elim
  | succ n ih =>
    intro m x0 x1 x2 s hw h1 h2
    cases m with
    | zero => exact h2.elim
    | succ m =>
      unfold p_X6_mid_L25 at h1 h2
      by_cases cc : (gI s x0 31) ≤ x2
      · replace h1 := h1.1 cc
        replace h2 := h2.1 cc
        refine d_p_X6_tellPart (w := w) (by first | exact hw | simpa [gI, setI, setR, setJ, setT] using hw) h1 h2 (fun s2 hw h1 h2 => ?_)
        exact hQ _ _ (by first | exact hw | simpa [gI, setI, setR, setJ, setT] using hw) h1 h2
      · replace h1 := h1.2 cc
        replace h2 := h2.2 cc
        obtain ⟨k3, e0, _, _, h1⟩ := h1
        obtain ⟨k3x, f0, _, _, h2⟩ := h2
        have ee := Option.some.inj (e0.symm.trans f0)
        subst ee
        refine d_p_X6_wetAll (w := w) (by first | exact hw | simpa [gI, setI, setR, setJ, setT] using hw) h1 h2 (fun r8 s7 hw h1 h2 => ?_)
        exact ih _ _ _ _ _ (by first | exact hw | simpa [gI, setI, setR, setJ, setT] using hw) h1 h2
theorem d_p_X6_mid_L25 {G : Prop} {Q1 Q2 : Int32 → Sg → Prop}  {n m : Nat} {x0 : Nat} {x1 : Int32} {x2 : Int32} {s : Sg} {w : Int32} (hw : gI s 0 20 = w) (h1 : p_X6_mid_L25 Q1 n x0 x1 x2 s) (h2 : p_X6_mid_L25 Q2 m x0 x1 x2 s) (hQ : ∀ (v0 : Int32) (v1 : Sg), gI v1 0 20 = w → Q1 v0 v1 → Q2 v0 v1 → G) : G := D_p_X6_mid_L25 hQ n m x0 x1 x2 s hw h1 h2
theorem d_p_X6_mid {G : Prop} {Q1 Q2 : Int32 → Sg → Prop} {x0 : Nat} {s : Sg} {w : Int32} (hw : gI s 0 20 = w) (h1 : p_X6_mid x0 s Q1) (h2 : p_X6_mid x0 s Q2) (hQ : ∀ (v0 : Int32) (v1 : Sg), gI v1 0 20 = w → Q1 v0 v1 → Q2 v0 v1 → G) : G := by
  unfold p_X6_mid at h1 h2
  by_cases cc : (gI s x0 20) = 0
  · replace h1 := h1.1 cc
    replace h2 := h2.1 cc
    exact hQ _ _ (by first | exact hw | simpa [gI, setI, setR, setJ, setT] using hw) h1 h2
  · replace h1 := h1.2 cc
    replace h2 := h2.2 cc
    by_cases cc : (gI s x0 31) = 0
    · replace h1 := h1.1 cc
      replace h2 := h2.1 cc
      exact hQ _ _ (by first | exact hw | simpa [gI, setI, setR, setJ, setT] using hw) h1 h2
    · replace h1 := h1.2 cc
      replace h2 := h2.2 cc
      refine d_p_X6_noMore (w := w) (by first | exact hw | simpa [gI, setI, setR, setJ, setT] using hw) h1 h2 (fun s3 hw h1 h2 => ?_)
      obtain ⟨n4, h1⟩ := h1
      obtain ⟨n4x, h2⟩ := h2
      exact d_p_X6_mid_L25 (w := w) (by first | exact hw | simpa [gI, setI, setR, setJ, setT] using hw) h1 h2 hQ
theorem d_p_X6_lots_b134 {G : Prop} {Q1 Q2 : Int32 → Sg → Prop} {K531 K532 : Nat → Int32 → Int64 → Int32 → Sg → Prop} {x0 : Nat} {x1 : Int32} {x3 : Int64} {x5 : Int32} {s : Sg} {w : Int32} (hw : gI s 0 20 = w) (h1 : p_X6_lots_b134 Q1 K531 x0 x1 x3 x5 s) (h2 : p_X6_lots_b134 Q2 K532 x0 x1 x3 x5 s) (hQ : ∀ (v0 : Int32) (v1 : Sg), gI v1 0 20 = w → Q1 v0 v1 → Q2 v0 v1 → G) (hK53 : ∀ (v0 : Nat) (v1 : Int32) (v2 : Int64) (v3 : Int32) (v4 : Sg), gI v4 0 20 = w → K531 v0 v1 v2 v3 v4 → K532 v0 v1 v2 v3 v4 → G) : G := by
  unfold p_X6_lots_b134 at h1 h2
  exact hK53 _ _ _ _ _ (by first | exact hw | simpa [gI, setI, setR, setJ, setT] using hw) h1 h2
theorem d_p_X6_lots_b107 {G : Prop} {Q1 Q2 : Int32 → Sg → Prop} {K531 K532 : Nat → Int32 → Int64 → Int32 → Sg → Prop} {x0 : Nat} {x1 : Int32} {x3 : Int64} {x5 : Int32} {s : Sg} {w : Int32} (hw : gI s 0 20 = w) (h1 : p_X6_lots_b107 Q1 K531 x0 x1 x3 x5 s) (h2 : p_X6_lots_b107 Q2 K532 x0 x1 x3 x5 s) (hQ : ∀ (v0 : Int32) (v1 : Sg), gI v1 0 20 = w → Q1 v0 v1 → Q2 v0 v1 → G) (hK53 : ∀ (v0 : Nat) (v1 : Int32) (v2 : Int64) (v3 : Int32) (v4 : Sg), gI v4 0 20 = w → K531 v0 v1 v2 v3 v4 → K532 v0 v1 v2 v3 v4 → G) : G := by
  unfold p_X6_lots_b107 at h1 h2
  obtain ⟨_, h1⟩ := h1
  obtain ⟨_, h2⟩ := h2
  refine d_p_X6_does (w := w) (by first | exact hw | simpa [gI, setI, setR, setJ, setT] using hw) h1 h2 (fun s2 hw h1 h2 => ?_)
  exact d_p_X6_lots_b134 (w := w) (by first | exact hw | simpa [gI, setI, setR, setJ, setT] using hw) h1 h2 hQ hK53
theorem D_p_X6_lots_L53 {G : Prop} {Q1 Q2 : Int32 → Sg → Prop}  {w : Int32} (hQ : ∀ (v0 : Int32) (v1 : Sg), gI v1 0 20 = w → Q1 v0 v1 → Q2 v0 v1 → G) : ∀ (n m : Nat) (x0 : Nat) (x1 : Int32) (x3 : Int64) (x5 : Int32) (s : Sg), gI s 0 20 = w → p_X6_lots_L53 Q1 n x0 x1 x3 x5 s → p_X6_lots_L53 Q2 m x0 x1 x3 x5 s → G := by
  intro n
  induction n with
  | zero =>
    intro m x0 x1 x3 x5 s hw h1
    exact h1.elim
  | succ n ih =>
    intro m x0 x1 x3 x5 s hw h1 h2
    cases m with
    | zero => exact h2.elim
    | succ m =>
      unfold p_X6_lots_L53 at h1 h2
      by_cases cc : x1 ≤ x5
      · replace h1 := h1.1 cc
        replace h2 := h2.1 cc
        exact hQ _ _ (by first | exact hw | simpa [gI, setI, setR, setJ, setT] using hw) h1 h2
      · replace h1 := h1.2 cc
        replace h2 := h2.2 cc
        by_cases cc : (lg_cmp (((48271 * x3) - (48271 * x3) / 2147483647 * 2147483647) - ((48271 * x3) - (48271 * x3) / 2147483647 * 2147483647) / 4 * 4) 0) = 0
        · replace h1 := h1.1 cc
          replace h2 := h2.1 cc
          by_cases cc : 8 ≤ (gI s x0 31)
          · replace h1 := h1.1 cc
            replace h2 := h2.1 cc
            exact d_p_X6_lots_b107 (w := w) (by first | exact hw | simpa [gI, setI, setR, setJ, setT] using hw) h1 h2 hQ (fun _ _ _ _ _ hw h1 h2 => ih _ _ _ _ _ _ hw h1 h2)
          · replace h1 := h1.2 cc
            replace h2 := h2.2 cc
            refine d_p_X6_does (w := w) (by first | exact hw | simpa [gI, setI, setR, setJ, setT] using hw) h1 h2 (fun s4 hw h1 h2 => ?_)
            exact d_p_X6_lots_b134 (w := w) (by first | exact hw | simpa [gI, setI, setR, setJ, setT] using hw) h1 h2 hQ (fun _ _ _ _ _ hw h1 h2 => ih _ _ _ _ _ _ hw h1 h2)
        · replace h1 := h1.2 cc
          replace h2 := h2.2 cc
          exact d_p_X6_lots_b107 (w := w) (by first | exact hw | simpa [gI, setI, setR, setJ, setT] using hw) h1 h2 hQ (fun _ _ _ _ _ hw h1 h2 => ih _ _ _ _ _ _ hw h1 h2)
theorem d_p_X6_lots_L53 {G : Prop} {Q1 Q2 : Int32 → Sg → Prop}  {n m : Nat} {x0 : Nat} {x1 : Int32} {x3 : Int64} {x5 : Int32} {s : Sg} {w : Int32} (hw : gI s 0 20 = w) (h1 : p_X6_lots_L53 Q1 n x0 x1 x3 x5 s) (h2 : p_X6_lots_L53 Q2 m x0 x1 x3 x5 s) (hQ : ∀ (v0 : Int32) (v1 : Sg), gI v1 0 20 = w → Q1 v0 v1 → Q2 v0 v1 → G) : G := D_p_X6_lots_L53 hQ n m x0 x1 x3 x5 s hw h1 h2
theorem d_p_X6_lots {G : Prop} {Q1 Q2 : Int32 → Sg → Prop} {x0 : Nat} {x1 : Int32} {x2 : Int32} {s : Sg} {w : Int32} (hw : gI s 0 20 = w) (h1 : p_X6_lots x0 x1 x2 s Q1) (h2 : p_X6_lots x0 x1 x2 s Q2) (hQ : ∀ (v0 : Int32) (v1 : Sg), gI v1 0 20 = w → Q1 v0 v1 → Q2 v0 v1 → G) : G := by
  unfold p_X6_lots at h1 h2
  refine d_p_X6_in (w := w) (by first | exact hw | simpa [gI, setI, setR, setJ, setT] using hw) h1 h2 (fun r2 s1 hw h1 h2 => ?_)
  by_cases cc : r2 = 0
  · replace h1 := h1.1 cc
    replace h2 := h2.1 cc
    exact hQ _ _ (by first | exact hw | simpa [gI, setI, setR, setJ, setT] using hw) h1 h2
  · replace h1 := h1.2 cc
    replace h2 := h2.2 cc
    refine d_p_X6_in (w := w) (by first | exact hw | simpa [gI, setI, setR, setJ, setT] using hw) h1 h2 (fun r5 s4 hw h1 h2 => ?_)
    by_cases cc : r5 = 0
    · replace h1 := h1.1 cc
      replace h2 := h2.1 cc
      exact hQ _ _ (by first | exact hw | simpa [gI, setI, setR, setJ, setT] using hw) h1 h2
    · replace h1 := h1.2 cc
      replace h2 := h2.2 cc
      by_cases cc : (gI s4 x0 20) = 0
      · replace h1 := h1.1 cc
        replace h2 := h2.1 cc
        exact hQ _ _ (by first | exact hw | simpa [gI, setI, setR, setJ, setT] using hw) h1 h2
      · replace h1 := h1.2 cc
        replace h2 := h2.2 cc
        by_cases cc : ((gI s4 x0 36) + x1) ≤ 40
        · replace h1 := h1.1 cc
          replace h2 := h2.1 cc
          obtain ⟨n9, h1⟩ := h1
          obtain ⟨n9x, h2⟩ := h2
          exact d_p_X6_lots_L53 (w := w) (by first | exact hw | simpa [gI, setI, setR, setJ, setT] using hw) h1 h2 hQ
        · replace h1 := h1.2 cc
          replace h2 := h2.2 cc
          exact hQ _ _ (by first | exact hw | simpa [gI, setI, setR, setJ, setT] using hw) h1 h2
theorem d_p_X6_asked {G : Prop} {Q1 Q2 : Int32 → Sg → Prop} {x0 : Nat} {s : Sg} {w : Int32} (hw : gI s 0 20 = w) (h1 : p_X6_asked x0 s Q1) (h2 : p_X6_asked x0 s Q2) (hQ : ∀ (v0 : Int32) (v1 : Sg), gI v1 0 20 = w → Q1 v0 v1 → Q2 v0 v1 → G) : G := by
  unfold p_X6_asked at h1 h2
  exact hQ _ _ (by first | exact hw | simpa [gI, setI, setR, setJ, setT] using hw) h1 h2
theorem d_p_X6_upper {G : Prop} {Q1 Q2 : Int64 → Sg → Prop} {x0 : Nat} {s : Sg} {w : Int32} (hw : gI s 0 20 = w) (h1 : p_X6_upper x0 s Q1) (h2 : p_X6_upper x0 s Q2) (hQ : ∀ (v0 : Int64) (v1 : Sg), gI v1 0 20 = w → Q1 v0 v1 → Q2 v0 v1 → G) : G := by
  unfold p_X6_upper at h1 h2
  exact hQ _ _ (by first | exact hw | simpa [gI, setI, setR, setJ, setT] using hw) h1 h2
theorem d_p_X6_lower {G : Prop} {Q1 Q2 : Int64 → Sg → Prop} {x0 : Nat} {s : Sg} {w : Int32} (hw : gI s 0 20 = w) (h1 : p_X6_lower x0 s Q1) (h2 : p_X6_lower x0 s Q2) (hQ : ∀ (v0 : Int64) (v1 : Sg), gI v1 0 20 = w → Q1 v0 v1 → Q2 v0 v1 → G) : G := by
  unfold p_X6_lower at h1 h2
  exact hQ _ _ (by first | exact hw | simpa [gI, setI, setR, setJ, setT] using hw) h1 h2
theorem D_p_X6_count_L82 {G : Prop} {Q1 Q2 : Int32 → Sg → Prop}  {w : Int32} (hQ : ∀ (v0 : Int32) (v1 : Sg), gI v1 0 20 = w → Q1 v0 v1 → Q2 v0 v1 → G) : ∀ (n m : Nat) (x0 : Nat) (x2 : Int32) (x3 : Int32) (s : Sg), gI s 0 20 = w → p_X6_count_L82 Q1 n x0 x2 x3 s → p_X6_count_L82 Q2 m x0 x2 x3 s → G := by
  intro n
  induction n with
  | zero =>
    intro m x0 x2 x3 s hw h1
    exact h1.elim
  | succ n ih =>
    intro m x0 x2 x3 s hw h1 h2
    cases m with
    | zero => exact h2.elim
    | succ m =>
      unfold p_X6_count_L82 at h1 h2
      by_cases cc : 6 ≤ x3
      · replace h1 := h1.1 cc
        replace h2 := h2.1 cc
        exact hQ _ _ (by first | exact hw | simpa [gI, setI, setR, setJ, setT] using hw) h1 h2
      · replace h1 := h1.2 cc
        replace h2 := h2.2 cc
        obtain ⟨k2, e0, _, _, h1⟩ := h1
        obtain ⟨k2x, f0, _, _, h2⟩ := h2
        have ee := Option.some.inj (e0.symm.trans f0)
        subst ee
        exact ih _ _ _ _ _ (by first | exact hw | simpa [gI, setI, setR, setJ, setT] using hw) h1 h2
theorem d_p_X6_count_L82 {G : Prop} {Q1 Q2 : Int32 → Sg → Prop}  {n m : Nat} {x0 : Nat} {x2 : Int32} {x3 : Int32} {s : Sg} {w : Int32} (hw : gI s 0 20 = w) (h1 : p_X6_count_L82 Q1 n x0 x2 x3 s) (h2 : p_X6_count_L82 Q2 m x0 x2 x3 s) (hQ : ∀ (v0 : Int32) (v1 : Sg), gI v1 0 20 = w → Q1 v0 v1 → Q2 v0 v1 → G) : G := D_p_X6_count_L82 hQ n m x0 x2 x3 s hw h1 h2
theorem D_p_X6_count_L107 {G : Prop} {Q1 Q2 : Int32 → Sg → Prop}  {w : Int32} (hQ : ∀ (v0 : Int32) (v1 : Sg), gI v1 0 20 = w → Q1 v0 v1 → Q2 v0 v1 → G) : ∀ (n m : Nat) (x0 : Nat) (x2 : Int32) (x3 : Int32) (s : Sg), gI s 0 20 = w → p_X6_count_L107 Q1 n x0 x2 x3 s → p_X6_count_L107 Q2 m x0 x2 x3 s → G := by
  intro n
  induction n with
  | zero =>
    intro m x0 x2 x3 s hw h1
    exact h1.elim
  | succ n ih =>
    intro m x0 x2 x3 s hw h1 h2
    cases m with
    | zero => exact h2.elim
    | succ m =>
      unfold p_X6_count_L107 at h1 h2
      by_cases cc : (gI s x0 20) ≤ x3
      · replace h1 := h1.1 cc
        replace h2 := h2.1 cc
        exact hQ _ _ (by first | exact hw | simpa [gI, setI, setR, setJ, setT] using hw) h1 h2
      · replace h1 := h1.2 cc
        replace h2 := h2.2 cc
        obtain ⟨k2, e0, _, _, h1⟩ := h1
        obtain ⟨k2x, f0, _, _, h2⟩ := h2
        have ee := Option.some.inj (e0.symm.trans f0)
        subst ee
        exact ih _ _ _ _ _ (by first | exact hw | simpa [gI, setI, setR, setJ, setT] using hw) h1 h2
theorem d_p_X6_count_L107 {G : Prop} {Q1 Q2 : Int32 → Sg → Prop}  {n m : Nat} {x0 : Nat} {x2 : Int32} {x3 : Int32} {s : Sg} {w : Int32} (hw : gI s 0 20 = w) (h1 : p_X6_count_L107 Q1 n x0 x2 x3 s) (h2 : p_X6_count_L107 Q2 m x0 x2 x3 s) (hQ : ∀ (v0 : Int32) (v1 : Sg), gI v1 0 20 = w → Q1 v0 v1 → Q2 v0 v1 → G) : G := D_p_X6_count_L107 hQ n m x0 x2 x3 s hw h1 h2
theorem d_p_X6_count_b184 {G : Prop} {Q1 Q2 : Int32 → Sg → Prop} {K1571 K1572 : Nat → Int32 → Int32 → Sg → Prop} {x0 : Nat} {x3 : Int32} {t0 : Int32} {t1 : Int32} {s : Sg} {w : Int32} (hw : gI s 0 20 = w) (h1 : p_X6_count_b184 Q1 K1571 x0 x3 t0 t1 s) (h2 : p_X6_count_b184 Q2 K1572 x0 x3 t0 t1 s) (hQ : ∀ (v0 : Int32) (v1 : Sg), gI v1 0 20 = w → Q1 v0 v1 → Q2 v0 v1 → G) (hK157 : ∀ (v0 : Nat) (v1 : Int32) (v2 : Int32) (v3 : Sg), gI v3 0 20 = w → K1571 v0 v1 v2 v3 → K1572 v0 v1 v2 v3 → G) : G := by
  unfold p_X6_count_b184 at h1 h2
  exact hK157 _ _ _ _ (by first | exact hw | simpa [gI, setI, setR, setJ, setT] using hw) h1 h2
theorem D_p_X6_count_L157 {G : Prop} {Q1 Q2 : Int32 → Sg → Prop}  {w : Int32} (hQ : ∀ (v0 : Int32) (v1 : Sg), gI v1 0 20 = w → Q1 v0 v1 → Q2 v0 v1 → G) : ∀ (n m : Nat) (x0 : Nat) (x2 : Int32) (x3 : Int32) (s : Sg), gI s 0 20 = w → p_X6_count_L157 Q1 n x0 x2 x3 s → p_X6_count_L157 Q2 m x0 x2 x3 s → G := by
  intro n
  induction n with
  | zero =>
    intro m x0 x2 x3 s hw h1
    exact h1.elim
  | succ n ih =>
    intro m x0 x2 x3 s hw h1 h2
    cases m with
    | zero => exact h2.elim
    | succ m =>
      unfold p_X6_count_L157 at h1 h2
      by_cases cc : (gI s x0 20) ≤ x3
      · replace h1 := h1.1 cc
        replace h2 := h2.1 cc
        exact hQ _ _ (by first | exact hw | simpa [gI, setI, setR, setJ, setT] using hw) h1 h2
      · replace h1 := h1.2 cc
        replace h2 := h2.2 cc
        obtain ⟨k2, e0, _, _, h1⟩ := h1
        obtain ⟨k2x, f0, _, _, h2⟩ := h2
        have ee := Option.some.inj (e0.symm.trans f0)
        subst ee
        refine d_p_X6_isOf (w := w) (by first | exact hw | simpa [gI, setI, setR, setJ, setT] using hw) h1 h2 (fun r7 s6 hw h1 h2 => ?_)
        by_cases cc : r7 = 0
        · replace h1 := h1.1 cc
          replace h2 := h2.1 cc
          exact d_p_X6_count_b184 (w := w) (by first | exact hw | simpa [gI, setI, setR, setJ, setT] using hw) h1 h2 hQ (fun _ _ _ _ hw h1 h2 => ih _ _ _ _ _ hw h1 h2)
        · replace h1 := h1.2 cc
          replace h2 := h2.2 cc
          exact d_p_X6_count_b184 (w := w) (by first | exact hw | simpa [gI, setI, setR, setJ, setT] using hw) h1 h2 hQ (fun _ _ _ _ hw h1 h2 => ih _ _ _ _ _ hw h1 h2)
theorem d_p_X6_count_L157 {G : Prop} {Q1 Q2 : Int32 → Sg → Prop}  {n m : Nat} {x0 : Nat} {x2 : Int32} {x3 : Int32} {s : Sg} {w : Int32} (hw : gI s 0 20 = w) (h1 : p_X6_count_L157 Q1 n x0 x2 x3 s) (h2 : p_X6_count_L157 Q2 m x0 x2 x3 s) (hQ : ∀ (v0 : Int32) (v1 : Sg), gI v1 0 20 = w → Q1 v0 v1 → Q2 v0 v1 → G) : G := D_p_X6_count_L157 hQ n m x0 x2 x3 s hw h1 h2
theorem d_p_X6_count_b217 {G : Prop} {Q1 Q2 : Int32 → Sg → Prop} {K1961 K1962 : Nat → Int32 → Int32 → Sg → Prop} {x0 : Nat} {x3 : Int32} {t0 : Int32} {t1 : Int32} {s : Sg} {w : Int32} (hw : gI s 0 20 = w) (h1 : p_X6_count_b217 Q1 K1961 x0 x3 t0 t1 s) (h2 : p_X6_count_b217 Q2 K1962 x0 x3 t0 t1 s) (hQ : ∀ (v0 : Int32) (v1 : Sg), gI v1 0 20 = w → Q1 v0 v1 → Q2 v0 v1 → G) (hK196 : ∀ (v0 : Nat) (v1 : Int32) (v2 : Int32) (v3 : Sg), gI v3 0 20 = w → K1961 v0 v1 v2 v3 → K1962 v0 v1 v2 v3 → G) : G := by
  unfold p_X6_count_b217 at h1 h2
  exact hK196 _ _ _ _ (by first | exact hw | simpa [gI, setI, setR, setJ, setT] using hw) h1 h2
theorem D_p_X6_count_L196 {G : Prop} {Q1 Q2 : Int32 → Sg → Prop}  {w : Int32} (hQ : ∀ (v0 : Int32) (v1 : Sg), gI v1 0 20 = w → Q1 v0 v1 → Q2 v0 v1 → G) : ∀ (n m : Nat) (x0 : Nat) (x2 : Int32) (x3 : Int32) (s : Sg), gI s 0 20 = w → p_X6_count_L196 Q1 n x0 x2 x3 s → p_X6_count_L196 Q2 m x0 x2 x3 s → G := by
  intro n
  induction n with
  | zero =>
    intro m x0 x2 x3 s hw h1
    exact h1.elim
  | succ n ih =>
    intro m x0 x2 x3 s hw h1 h2
    cases m with
    | zero => exact h2.elim
    | succ m =>
      unfold p_X6_count_L196 at h1 h2
      by_cases cc : 6 ≤ x3
      · replace h1 := h1.1 cc
        replace h2 := h2.1 cc
        exact hQ _ _ (by first | exact hw | simpa [gI, setI, setR, setJ, setT] using hw) h1 h2
      · replace h1 := h1.2 cc
        replace h2 := h2.2 cc
        obtain ⟨k2, e0, _, _, h1⟩ := h1
        obtain ⟨k2x, f0, _, _, h2⟩ := h2
        have ee := Option.some.inj (e0.symm.trans f0)
        subst ee
        by_cases cc : 0 ≤ (gR s k2 x3.toNatClampNeg)
        · replace h1 := h1.1 cc
          replace h2 := h2.1 cc
          exact d_p_X6_count_b217 (w := w) (by first | exact hw | simpa [gI, setI, setR, setJ, setT] using hw) h1 h2 hQ (fun _ _ _ _ hw h1 h2 => ih _ _ _ _ _ hw h1 h2)
        · replace h1 := h1.2 cc
          replace h2 := h2.2 cc
          exact d_p_X6_count_b217 (w := w) (by first | exact hw | simpa [gI, setI, setR, setJ, setT] using hw) h1 h2 hQ (fun _ _ _ _ hw h1 h2 => ih _ _ _ _ _ hw h1 h2)
theorem d_p_X6_count_L196 {G : Prop} {Q1 Q2 : Int32 → Sg → Prop}  {n m : Nat} {x0 : Nat} {x2 : Int32} {x3 : Int32} {s : Sg} {w : Int32} (hw : gI s 0 20 = w) (h1 : p_X6_count_L196 Q1 n x0 x2 x3 s) (h2 : p_X6_count_L196 Q2 m x0 x2 x3 s) (hQ : ∀ (v0 : Int32) (v1 : Sg), gI v1 0 20 = w → Q1 v0 v1 → Q2 v0 v1 → G) : G := D_p_X6_count_L196 hQ n m x0 x2 x3 s hw h1 h2
theorem d_p_X6_count_b249 {G : Prop} {Q1 Q2 : Int32 → Sg → Prop} {K2291 K2292 : Nat → Int32 → Int32 → Sg → Prop} {x0 : Nat} {x3 : Int32} {t0 : Int32} {t1 : Int32} {s : Sg} {w : Int32} (hw : gI s 0 20 = w) (h1 : p_X6_count_b249 Q1 K2291 x0 x3 t0 t1 s) (h2 : p_X6_count_b249 Q2 K2292 x0 x3 t0 t1 s) (hQ : ∀ (v0 : Int32) (v1 : Sg), gI v1 0 20 = w → Q1 v0 v1 → Q2 v0 v1 → G) (hK229 : ∀ (v0 : Nat) (v1 : Int32) (v2 : Int32) (v3 : Sg), gI v3 0 20 = w → K2291 v0 v1 v2 v3 → K2292 v0 v1 v2 v3 → G) : G := by
  unfold p_X6_count_b249 at h1 h2
  exact hK229 _ _ _ _ (by first | exact hw | simpa [gI, setI, setR, setJ, setT] using hw) h1 h2
theorem D_p_X6_count_L229 {G : Prop} {Q1 Q2 : Int32 → Sg → Prop}  {w : Int32} (hQ : ∀ (v0 : Int32) (v1 : Sg), gI v1 0 20 = w → Q1 v0 v1 → Q2 v0 v1 → G) : ∀ (n m : Nat) (x0 : Nat) (x2 : Int32) (x3 : Int32) (s : Sg), gI s 0 20 = w → p_X6_count_L229 Q1 n x0 x2 x3 s → p_X6_count_L229 Q2 m x0 x2 x3 s → G := by
  intro n
  induction n with
  | zero =>
    intro m x0 x2 x3 s hw h1
    exact h1.elim
  | succ n ih =>
    intro m x0 x2 x3 s hw h1 h2
    cases m with
    | zero => exact h2.elim
    | succ m =>
      unfold p_X6_count_L229 at h1 h2
      by_cases cc : 4 ≤ x3
      · replace h1 := h1.1 cc
        replace h2 := h2.1 cc
        exact hQ _ _ (by first | exact hw | simpa [gI, setI, setR, setJ, setT] using hw) h1 h2
      · replace h1 := h1.2 cc
        replace h2 := h2.2 cc
        obtain ⟨k2, e0, _, _, h1⟩ := h1
        obtain ⟨k2x, f0, _, _, h2⟩ := h2
        have ee := Option.some.inj (e0.symm.trans f0)
        subst ee
        by_cases cc : 0 ≤ (gR s k2 x3.toNatClampNeg)
        · replace h1 := h1.1 cc
          replace h2 := h2.1 cc
          exact d_p_X6_count_b249 (w := w) (by first | exact hw | simpa [gI, setI, setR, setJ, setT] using hw) h1 h2 hQ (fun _ _ _ _ hw h1 h2 => ih _ _ _ _ _ hw h1 h2)
        · replace h1 := h1.2 cc
          replace h2 := h2.2 cc
          exact d_p_X6_count_b249 (w := w) (by first | exact hw | simpa [gI, setI, setR, setJ, setT] using hw) h1 h2 hQ (fun _ _ _ _ hw h1 h2 => ih _ _ _ _ _ hw h1 h2)
theorem d_p_X6_count_L229 {G : Prop} {Q1 Q2 : Int32 → Sg → Prop}  {n m : Nat} {x0 : Nat} {x2 : Int32} {x3 : Int32} {s : Sg} {w : Int32} (hw : gI s 0 20 = w) (h1 : p_X6_count_L229 Q1 n x0 x2 x3 s) (h2 : p_X6_count_L229 Q2 m x0 x2 x3 s) (hQ : ∀ (v0 : Int32) (v1 : Sg), gI v1 0 20 = w → Q1 v0 v1 → Q2 v0 v1 → G) : G := D_p_X6_count_L229 hQ n m x0 x2 x3 s hw h1 h2
theorem d_p_X6_count_b281 {G : Prop} {Q1 Q2 : Int32 → Sg → Prop} {K2611 K2612 : Nat → Int32 → Int32 → Sg → Prop} {x0 : Nat} {x3 : Int32} {t0 : Int32} {t1 : Int32} {s : Sg} {w : Int32} (hw : gI s 0 20 = w) (h1 : p_X6_count_b281 Q1 K2611 x0 x3 t0 t1 s) (h2 : p_X6_count_b281 Q2 K2612 x0 x3 t0 t1 s) (hQ : ∀ (v0 : Int32) (v1 : Sg), gI v1 0 20 = w → Q1 v0 v1 → Q2 v0 v1 → G) (hK261 : ∀ (v0 : Nat) (v1 : Int32) (v2 : Int32) (v3 : Sg), gI v3 0 20 = w → K2611 v0 v1 v2 v3 → K2612 v0 v1 v2 v3 → G) : G := by
  unfold p_X6_count_b281 at h1 h2
  exact hK261 _ _ _ _ (by first | exact hw | simpa [gI, setI, setR, setJ, setT] using hw) h1 h2
theorem D_p_X6_count_L261 {G : Prop} {Q1 Q2 : Int32 → Sg → Prop}  {w : Int32} (hQ : ∀ (v0 : Int32) (v1 : Sg), gI v1 0 20 = w → Q1 v0 v1 → Q2 v0 v1 → G) : ∀ (n m : Nat) (x0 : Nat) (x2 : Int32) (x3 : Int32) (s : Sg), gI s 0 20 = w → p_X6_count_L261 Q1 n x0 x2 x3 s → p_X6_count_L261 Q2 m x0 x2 x3 s → G := by
  intro n
  induction n with
  | zero =>
    intro m x0 x2 x3 s hw h1
    exact h1.elim
  | succ n ih =>
    intro m x0 x2 x3 s hw h1 h2
    cases m with
    | zero => exact h2.elim
    | succ m =>
      unfold p_X6_count_L261 at h1 h2
      by_cases cc : 3 ≤ x3
      · replace h1 := h1.1 cc
        replace h2 := h2.1 cc
        exact hQ _ _ (by first | exact hw | simpa [gI, setI, setR, setJ, setT] using hw) h1 h2
      · replace h1 := h1.2 cc
        replace h2 := h2.2 cc
        obtain ⟨k2, e0, _, _, h1⟩ := h1
        obtain ⟨k2x, f0, _, _, h2⟩ := h2
        have ee := Option.some.inj (e0.symm.trans f0)
        subst ee
        by_cases cc : 0 ≤ (gR s k2 x3.toNatClampNeg)
        · replace h1 := h1.1 cc
          replace h2 := h2.1 cc
          exact d_p_X6_count_b281 (w := w) (by first | exact hw | simpa [gI, setI, setR, setJ, setT] using hw) h1 h2 hQ (fun _ _ _ _ hw h1 h2 => ih _ _ _ _ _ hw h1 h2)
        · replace h1 := h1.2 cc
          replace h2 := h2.2 cc
          exact d_p_X6_count_b281 (w := w) (by first | exact hw | simpa [gI, setI, setR, setJ, setT] using hw) h1 h2 hQ (fun _ _ _ _ hw h1 h2 => ih _ _ _ _ _ hw h1 h2)
theorem d_p_X6_count_L261 {G : Prop} {Q1 Q2 : Int32 → Sg → Prop}  {n m : Nat} {x0 : Nat} {x2 : Int32} {x3 : Int32} {s : Sg} {w : Int32} (hw : gI s 0 20 = w) (h1 : p_X6_count_L261 Q1 n x0 x2 x3 s) (h2 : p_X6_count_L261 Q2 m x0 x2 x3 s) (hQ : ∀ (v0 : Int32) (v1 : Sg), gI v1 0 20 = w → Q1 v0 v1 → Q2 v0 v1 → G) : G := D_p_X6_count_L261 hQ n m x0 x2 x3 s hw h1 h2
theorem d_p_X6_count {G : Prop} {Q1 Q2 : Int32 → Sg → Prop} {x0 : Nat} {x1 : Int32} {s : Sg} {w : Int32} (hw : gI s 0 20 = w) (h1 : p_X6_count x0 x1 s Q1) (h2 : p_X6_count x0 x1 s Q2) (hQ : ∀ (v0 : Int32) (v1 : Sg), gI v1 0 20 = w → Q1 v0 v1 → Q2 v0 v1 → G) : G := by
  unfold p_X6_count at h1 h2
  by_cases cc : x1 = 0
  · replace h1 := h1.1 cc
    replace h2 := h2.1 cc
    exact hQ _ _ (by first | exact hw | simpa [gI, setI, setR, setJ, setT] using hw) h1 h2
  · replace h1 := h1.2 cc
    replace h2 := h2.2 cc
    by_cases cc : x1 = 1
    · replace h1 := h1.1 cc
      replace h2 := h2.1 cc
      exact hQ _ _ (by first | exact hw | simpa [gI, setI, setR, setJ, setT] using hw) h1 h2
    · replace h1 := h1.2 cc
      replace h2 := h2.2 cc
      by_cases cc : x1 = 2
      · replace h1 := h1.1 cc
        replace h2 := h2.1 cc
        exact hQ _ _ (by first | exact hw | simpa [gI, setI, setR, setJ, setT] using hw) h1 h2
      · replace h1 := h1.2 cc
        replace h2 := h2.2 cc
        by_cases cc : x1 = 3
        · replace h1 := h1.1 cc
          replace h2 := h2.1 cc
          exact hQ _ _ (by first | exact hw | simpa [gI, setI, setR, setJ, setT] using hw) h1 h2
        · replace h1 := h1.2 cc
          replace h2 := h2.2 cc
          by_cases cc : x1 = 4
          · replace h1 := h1.1 cc
            replace h2 := h2.1 cc
            obtain ⟨n7, h1⟩ := h1
            obtain ⟨n7x, h2⟩ := h2
            exact d_p_X6_count_L82 (w := w) (by first | exact hw | simpa [gI, setI, setR, setJ, setT] using hw) h1 h2 hQ
          · replace h1 := h1.2 cc
            replace h2 := h2.2 cc
            by_cases cc : x1 = 5
            · replace h1 := h1.1 cc
              replace h2 := h2.1 cc
              obtain ⟨n9, h1⟩ := h1
              obtain ⟨n9x, h2⟩ := h2
              exact d_p_X6_count_L107 (w := w) (by first | exact hw | simpa [gI, setI, setR, setJ, setT] using hw) h1 h2 hQ
            · replace h1 := h1.2 cc
              replace h2 := h2.2 cc
              by_cases cc : x1 = 6
              · replace h1 := h1.1 cc
                replace h2 := h2.1 cc
                by_cases cc : (gI s x0 31) = 0
                · replace h1 := h1.1 cc
                  replace h2 := h2.1 cc
                  exact hQ _ _ (by first | exact hw | simpa [gI, setI, setR, setJ, setT] using hw) h1 h2
                · replace h1 := h1.2 cc
                  replace h2 := h2.2 cc
                  obtain ⟨k12, e0, _, _, h1⟩ := h1
                  obtain ⟨k12x, f0, _, _, h2⟩ := h2
                  have ee := Option.some.inj (e0.symm.trans f0)
                  subst ee
                  exact hQ _ _ (by first | exact hw | simpa [gI, setI, setR, setJ, setT] using hw) h1 h2
              · replace h1 := h1.2 cc
                replace h2 := h2.2 cc
                by_cases cc : x1 = 7
                · replace h1 := h1.1 cc
                  replace h2 := h2.1 cc
                  obtain ⟨n17, h1⟩ := h1
                  obtain ⟨n17x, h2⟩ := h2
                  exact d_p_X6_count_L157 (w := w) (by first | exact hw | simpa [gI, setI, setR, setJ, setT] using hw) h1 h2 hQ
                · replace h1 := h1.2 cc
                  replace h2 := h2.2 cc
                  by_cases cc : x1 = 8
                  · replace h1 := h1.1 cc
                    replace h2 := h2.1 cc
                    obtain ⟨n19, h1⟩ := h1
                    obtain ⟨n19x, h2⟩ := h2
                    exact d_p_X6_count_L196 (w := w) (by first | exact hw | simpa [gI, setI, setR, setJ, setT] using hw) h1 h2 hQ
                  · replace h1 := h1.2 cc
                    replace h2 := h2.2 cc
                    by_cases cc : x1 = 9
                    · replace h1 := h1.1 cc
                      replace h2 := h2.1 cc
                      obtain ⟨n21, h1⟩ := h1
                      obtain ⟨n21x, h2⟩ := h2
                      exact d_p_X6_count_L229 (w := w) (by first | exact hw | simpa [gI, setI, setR, setJ, setT] using hw) h1 h2 hQ
                    · replace h1 := h1.2 cc
                      replace h2 := h2.2 cc
                      by_cases cc : x1 = 10
                      · replace h1 := h1.1 cc
                        replace h2 := h2.1 cc
                        obtain ⟨n23, h1⟩ := h1
                        obtain ⟨n23x, h2⟩ := h2
                        exact d_p_X6_count_L261 (w := w) (by first | exact hw | simpa [gI, setI, setR, setJ, setT] using hw) h1 h2 hQ
                      · replace h1 := h1.2 cc
                        replace h2 := h2.2 cc
                        exact hQ _ _ (by first | exact hw | simpa [gI, setI, setR, setJ, setT] using hw) h1 h2
theorem d_p_X6_finding {G : Prop} {Q1 Q2 : Int32 → Sg → Prop} {x0 : Nat} {s : Sg} {w : Int32} (hw : gI s 0 20 = w) (h1 : p_X6_finding x0 s Q1) (h2 : p_X6_finding x0 s Q2) (hQ : ∀ (v0 : Int32) (v1 : Sg), gI v1 0 20 = w → Q1 v0 v1 → Q2 v0 v1 → G) : G := by
  unfold p_X6_finding at h1 h2
  exact hQ _ _ (by first | exact hw | simpa [gI, setI, setR, setJ, setT] using hw) h1 h2
theorem d_p_X6_findings {G : Prop} {Q1 Q2 : Int32 → Sg → Prop} {x0 : Nat} {x1 : Int32} {s : Sg} {w : Int32} (hw : gI s 0 20 = w) (h1 : p_X6_findings x0 x1 s Q1) (h2 : p_X6_findings x0 x1 s Q2) (hQ : ∀ (v0 : Int32) (v1 : Sg), gI v1 0 20 = w → Q1 v0 v1 → Q2 v0 v1 → G) : G := by
  unfold p_X6_findings at h1 h2
  refine d_p_X6_in (w := w) (by first | exact hw | simpa [gI, setI, setR, setJ, setT] using hw) h1 h2 (fun r2 s1 hw h1 h2 => ?_)
  by_cases cc : r2 = 0
  · replace h1 := h1.1 cc
    replace h2 := h2.1 cc
    exact hQ _ _ (by first | exact hw | simpa [gI, setI, setR, setJ, setT] using hw) h1 h2
  · replace h1 := h1.2 cc
    replace h2 := h2.2 cc
    obtain ⟨k4, e0, _, _, h1⟩ := h1
    obtain ⟨k4x, f0, _, _, h2⟩ := h2
    have ee := Option.some.inj (e0.symm.trans f0)
    subst ee
    exact hQ _ _ (by first | exact hw | simpa [gI, setI, setR, setJ, setT] using hw) h1 h2
theorem D_p_X6_digest_L102 {G : Prop} {Q1 Q2 : Int64 → Sg → Prop} {K611 K612 : Nat → Int64 → Int32 → Sg → Prop}  {w : Int32} (hQ : ∀ (v0 : Int64) (v1 : Sg), gI v1 0 20 = w → Q1 v0 v1 → Q2 v0 v1 → G) (hK61 : ∀ (v0 : Nat) (v1 : Int64) (v2 : Int32) (v3 : Sg), gI v3 0 20 = w → K611 v0 v1 v2 v3 → K612 v0 v1 v2 v3 → G) : ∀ (n m : Nat) (x0 : Nat) (x1 : Int64) (x3 : Int32) (x4 : Int32) (s : Sg), gI s 0 20 = w → p_X6_digest_L102 Q1 K611 n x0 x1 x3 x4 s → p_X6_digest_L102 Q2 K612 m x0 x1 x3 x4 s → G := by
  intro n
  induction n with
  | zero =>
    intro m x0 x1 x3 x4 s hw h1
    exact h1.elim
  | succ n ih =>
    intro m x0 x1 x3 x4 s hw h1 h2
    cases m with
    | zero => exact h2.elim
    | succ m =>
      unfold p_X6_digest_L102 at h1 h2
      by_cases cc : (gI s x0 31) ≤ x4
      · replace h1 := h1.1 cc
        replace h2 := h2.1 cc
        exact hK61 _ _ _ _ (by first | exact hw | simpa [gI, setI, setR, setJ, setT] using hw) h1 h2
      · replace h1 := h1.2 cc
        replace h2 := h2.2 cc
        obtain ⟨k2, e0, _, _, h1⟩ := h1
        obtain ⟨k2x, f0, _, _, h2⟩ := h2
        have ee := Option.some.inj (e0.symm.trans f0)
        subst ee
        exact ih _ _ _ _ _ _ (by first | exact hw | simpa [gI, setI, setR, setJ, setT] using hw) h1 h2
theorem d_p_X6_digest_L102 {G : Prop} {Q1 Q2 : Int64 → Sg → Prop} {K611 K612 : Nat → Int64 → Int32 → Sg → Prop}  {n m : Nat} {x0 : Nat} {x1 : Int64} {x3 : Int32} {x4 : Int32} {s : Sg} {w : Int32} (hw : gI s 0 20 = w) (h1 : p_X6_digest_L102 Q1 K611 n x0 x1 x3 x4 s) (h2 : p_X6_digest_L102 Q2 K612 m x0 x1 x3 x4 s) (hQ : ∀ (v0 : Int64) (v1 : Sg), gI v1 0 20 = w → Q1 v0 v1 → Q2 v0 v1 → G) (hK61 : ∀ (v0 : Nat) (v1 : Int64) (v2 : Int32) (v3 : Sg), gI v3 0 20 = w → K611 v0 v1 v2 v3 → K612 v0 v1 v2 v3 → G) : G := D_p_X6_digest_L102 hQ hK61 n m x0 x1 x3 x4 s hw h1 h2
theorem D_p_X6_digest_L72 {G : Prop} {Q1 Q2 : Int64 → Sg → Prop} {K611 K612 : Nat → Int64 → Int32 → Sg → Prop}  {w : Int32} (hQ : ∀ (v0 : Int64) (v1 : Sg), gI v1 0 20 = w → Q1 v0 v1 → Q2 v0 v1 → G) (hK61 : ∀ (v0 : Nat) (v1 : Int64) (v2 : Int32) (v3 : Sg), gI v3 0 20 = w → K611 v0 v1 v2 v3 → K612 v0 v1 v2 v3 → G) : ∀ (n m : Nat) (x0 : Nat) (x1 : Int64) (x3 : Int32) (x4 : Int32) (s : Sg), gI s 0 20 = w → p_X6_digest_L72 Q1 K611 n x0 x1 x3 x4 s → p_X6_digest_L72 Q2 K612 m x0 x1 x3 x4 s → G := by
  intro n
  induction n with
  | zero =>
    intro m x0 x1 x3 x4 s hw h1
    exact h1.elim
  | succ n ih =>
    intro m x0 x1 x3 x4 s hw h1 h2
    cases m with
    | zero => exact h2.elim
    | succ m =>
      unfold p_X6_digest_L72 at h1 h2
      by_cases cc : 5 < x4
      · replace h1 := h1.1 cc
        replace h2 := h2.1 cc
        obtain ⟨n2, h1⟩ := h1
        obtain ⟨n2x, h2⟩ := h2
        exact d_p_X6_digest_L102 (w := w) (by first | exact hw | simpa [gI, setI, setR, setJ, setT] using hw) h1 h2 hQ hK61
      · replace h1 := h1.2 cc
        replace h2 := h2.2 cc
        refine d_p_X6_ofWoman (w := w) (by first | exact hw | simpa [gI, setI, setR, setJ, setT] using hw) h1 h2 (fun r4 s3 hw h1 h2 => ?_)
        exact ih _ _ _ _ _ _ (by first | exact hw | simpa [gI, setI, setR, setJ, setT] using hw) h1 h2
theorem d_p_X6_digest_L72 {G : Prop} {Q1 Q2 : Int64 → Sg → Prop} {K611 K612 : Nat → Int64 → Int32 → Sg → Prop}  {n m : Nat} {x0 : Nat} {x1 : Int64} {x3 : Int32} {x4 : Int32} {s : Sg} {w : Int32} (hw : gI s 0 20 = w) (h1 : p_X6_digest_L72 Q1 K611 n x0 x1 x3 x4 s) (h2 : p_X6_digest_L72 Q2 K612 m x0 x1 x3 x4 s) (hQ : ∀ (v0 : Int64) (v1 : Sg), gI v1 0 20 = w → Q1 v0 v1 → Q2 v0 v1 → G) (hK61 : ∀ (v0 : Nat) (v1 : Int64) (v2 : Int32) (v3 : Sg), gI v3 0 20 = w → K611 v0 v1 v2 v3 → K612 v0 v1 v2 v3 → G) : G := D_p_X6_digest_L72 hQ hK61 n m x0 x1 x3 x4 s hw h1 h2
theorem D_p_X6_digest_L195 {G : Prop} {Q1 Q2 : Int64 → Sg → Prop} {K1721 K1722 : Nat → Int64 → Int32 → Sg → Prop}  {w : Int32} (hQ : ∀ (v0 : Int64) (v1 : Sg), gI v1 0 20 = w → Q1 v0 v1 → Q2 v0 v1 → G) (hK172 : ∀ (v0 : Nat) (v1 : Int64) (v2 : Int32) (v3 : Sg), gI v3 0 20 = w → K1721 v0 v1 v2 v3 → K1722 v0 v1 v2 v3 → G) : ∀ (n m : Nat) (x0 : Nat) (x1 : Int64) (x3 : Int32) (x4 : Int32) (s : Sg), gI s 0 20 = w → p_X6_digest_L195 Q1 K1721 n x0 x1 x3 x4 s → p_X6_digest_L195 Q2 K1722 m x0 x1 x3 x4 s → G := by
  intro n
  induction n with
  | zero =>
    intro m x0 x1 x3 x4 s hw h1
    exact h1.elim
  | succ n ih =>
    intro m x0 x1 x3 x4 s hw h1 h2
    cases m with
    | zero => exact h2.elim
    | succ m =>
      unfold p_X6_digest_L195 at h1 h2
      obtain ⟨k1, e0, _, _, h1⟩ := h1
      obtain ⟨k1x, f0, _, _, h2⟩ := h2
      have ee := Option.some.inj (e0.symm.trans f0)
      subst ee
      by_cases cc : (gR s k1 x3.toNatClampNeg) ≤ x4
      · replace h1 := h1.1 cc
        replace h2 := h2.1 cc
        exact hK172 _ _ _ _ (by first | exact hw | simpa [gI, setI, setR, setJ, setT] using hw) h1 h2
      · replace h1 := h1.2 cc
        replace h2 := h2.2 cc
        obtain ⟨k6, e0, _, _, h1⟩ := h1
        obtain ⟨k6x, f0, _, _, h2⟩ := h2
        have ee := Option.some.inj (e0.symm.trans f0)
        subst ee
        exact ih _ _ _ _ _ _ (by first | exact hw | simpa [gI, setI, setR, setJ, setT] using hw) h1 h2
theorem d_p_X6_digest_L195 {G : Prop} {Q1 Q2 : Int64 → Sg → Prop} {K1721 K1722 : Nat → Int64 → Int32 → Sg → Prop}  {n m : Nat} {x0 : Nat} {x1 : Int64} {x3 : Int32} {x4 : Int32} {s : Sg} {w : Int32} (hw : gI s 0 20 = w) (h1 : p_X6_digest_L195 Q1 K1721 n x0 x1 x3 x4 s) (h2 : p_X6_digest_L195 Q2 K1722 m x0 x1 x3 x4 s) (hQ : ∀ (v0 : Int64) (v1 : Sg), gI v1 0 20 = w → Q1 v0 v1 → Q2 v0 v1 → G) (hK172 : ∀ (v0 : Nat) (v1 : Int64) (v2 : Int32) (v3 : Sg), gI v3 0 20 = w → K1721 v0 v1 v2 v3 → K1722 v0 v1 v2 v3 → G) : G := D_p_X6_digest_L195 hQ hK172 n m x0 x1 x3 x4 s hw h1 h2
theorem D_p_X6_digest_L262 {G : Prop} {Q1 Q2 : Int64 → Sg → Prop} {K2401 K2402 : Nat → Int64 → Int32 → Sg → Prop}  {w : Int32} (hQ : ∀ (v0 : Int64) (v1 : Sg), gI v1 0 20 = w → Q1 v0 v1 → Q2 v0 v1 → G) (hK240 : ∀ (v0 : Nat) (v1 : Int64) (v2 : Int32) (v3 : Sg), gI v3 0 20 = w → K2401 v0 v1 v2 v3 → K2402 v0 v1 v2 v3 → G) : ∀ (n m : Nat) (x0 : Nat) (x1 : Int64) (x3 : Int32) (x4 : Int32) (s : Sg), gI s 0 20 = w → p_X6_digest_L262 Q1 K2401 n x0 x1 x3 x4 s → p_X6_digest_L262 Q2 K2402 m x0 x1 x3 x4 s → G := by
  intro n
  induction n with
  | zero =>
    intro m x0 x1 x3 x4 s hw h1
    exact h1.elim
  | succ n ih =>
    intro m x0 x1 x3 x4 s hw h1 h2
    cases m with
    | zero => exact h2.elim
    | succ m =>
      unfold p_X6_digest_L262 at h1 h2
      obtain ⟨k1, e0, _, _, h1⟩ := h1
      obtain ⟨k1x, f0, _, _, h2⟩ := h2
      have ee := Option.some.inj (e0.symm.trans f0)
      subst ee
      by_cases cc : (gR s k1 x3.toNatClampNeg) ≤ x4
      · replace h1 := h1.1 cc
        replace h2 := h2.1 cc
        exact hK240 _ _ _ _ (by first | exact hw | simpa [gI, setI, setR, setJ, setT] using hw) h1 h2
      · replace h1 := h1.2 cc
        replace h2 := h2.2 cc
        obtain ⟨k6, e0, _, _, h1⟩ := h1
        obtain ⟨k6x, f0, _, _, h2⟩ := h2
        have ee := Option.some.inj (e0.symm.trans f0)
        subst ee
        exact ih _ _ _ _ _ _ (by first | exact hw | simpa [gI, setI, setR, setJ, setT] using hw) h1 h2
theorem d_p_X6_digest_L262 {G : Prop} {Q1 Q2 : Int64 → Sg → Prop} {K2401 K2402 : Nat → Int64 → Int32 → Sg → Prop}  {n m : Nat} {x0 : Nat} {x1 : Int64} {x3 : Int32} {x4 : Int32} {s : Sg} {w : Int32} (hw : gI s 0 20 = w) (h1 : p_X6_digest_L262 Q1 K2401 n x0 x1 x3 x4 s) (h2 : p_X6_digest_L262 Q2 K2402 m x0 x1 x3 x4 s) (hQ : ∀ (v0 : Int64) (v1 : Sg), gI v1 0 20 = w → Q1 v0 v1 → Q2 v0 v1 → G) (hK240 : ∀ (v0 : Nat) (v1 : Int64) (v2 : Int32) (v3 : Sg), gI v3 0 20 = w → K2401 v0 v1 v2 v3 → K2402 v0 v1 v2 v3 → G) : G := D_p_X6_digest_L262 hQ hK240 n m x0 x1 x3 x4 s hw h1 h2
theorem D_p_X6_digest_L240 {G : Prop} {Q1 Q2 : Int64 → Sg → Prop}  {w : Int32} (hQ : ∀ (v0 : Int64) (v1 : Sg), gI v1 0 20 = w → Q1 v0 v1 → Q2 v0 v1 → G) : ∀ (n m : Nat) (x0 : Nat) (x1 : Int64) (x3 : Int32) (s : Sg), gI s 0 20 = w → p_X6_digest_L240 Q1 n x0 x1 x3 s → p_X6_digest_L240 Q2 m x0 x1 x3 s → G := by
  intro n
  induction n with
  | zero =>
    intro m x0 x1 x3 s hw h1
    exact h1.elim
  | succ n ih =>
    intro m x0 x1 x3 s hw h1 h2
    cases m with
    | zero => exact h2.elim
    | succ m =>
      unfold p_X6_digest_L240 at h1 h2
      by_cases cc : 4 ≤ x3
      · replace h1 := h1.1 cc
        replace h2 := h2.1 cc
        exact hQ _ _ (by first | exact hw | simpa [gI, setI, setR, setJ, setT] using hw) h1 h2
      · replace h1 := h1.2 cc
        replace h2 := h2.2 cc
        obtain ⟨k2, e0, _, _, h1⟩ := h1
        obtain ⟨k2x, f0, _, _, h2⟩ := h2
        have ee := Option.some.inj (e0.symm.trans f0)
        subst ee
        obtain ⟨n6, h1⟩ := h1
        obtain ⟨n6x, h2⟩ := h2
        exact d_p_X6_digest_L262 (w := w) (by first | exact hw | simpa [gI, setI, setR, setJ, setT] using hw) h1 h2 hQ (fun _ _ _ _ hw h1 h2 => ih _ _ _ _ _ hw h1 h2)
theorem d_p_X6_digest_L240 {G : Prop} {Q1 Q2 : Int64 → Sg → Prop}  {n m : Nat} {x0 : Nat} {x1 : Int64} {x3 : Int32} {s : Sg} {w : Int32} (hw : gI s 0 20 = w) (h1 : p_X6_digest_L240 Q1 n x0 x1 x3 s) (h2 : p_X6_digest_L240 Q2 m x0 x1 x3 s) (hQ : ∀ (v0 : Int64) (v1 : Sg), gI v1 0 20 = w → Q1 v0 v1 → Q2 v0 v1 → G) : G := D_p_X6_digest_L240 hQ n m x0 x1 x3 s hw h1 h2
theorem D_p_X6_digest_L172 {G : Prop} {Q1 Q2 : Int64 → Sg → Prop}  {w : Int32} (hQ : ∀ (v0 : Int64) (v1 : Sg), gI v1 0 20 = w → Q1 v0 v1 → Q2 v0 v1 → G) : ∀ (n m : Nat) (x0 : Nat) (x1 : Int64) (x3 : Int32) (s : Sg), gI s 0 20 = w → p_X6_digest_L172 Q1 n x0 x1 x3 s → p_X6_digest_L172 Q2 m x0 x1 x3 s → G := by
  intro n
  induction n with
  | zero =>
    intro m x0 x1 x3 s hw h1
    exact h1.elim
  | succ n ih =>
    intro m x0 x1 x3 s hw h1 h2
    cases m with
    | zero => exact h2.elim
    | succ m =>
      unfold p_X6_digest_L172 at h1 h2
      by_cases cc : 6 ≤ x3
      · replace h1 := h1.1 cc
        replace h2 := h2.1 cc
        obtain ⟨n2, h1⟩ := h1
        obtain ⟨n2x, h2⟩ := h2
        exact d_p_X6_digest_L240 (w := w) (by first | exact hw | simpa [gI, setI, setR, setJ, setT] using hw) h1 h2 hQ
      · replace h1 := h1.2 cc
        replace h2 := h2.2 cc
        obtain ⟨k3, e0, _, _, h1⟩ := h1
        obtain ⟨k3x, f0, _, _, h2⟩ := h2
        have ee := Option.some.inj (e0.symm.trans f0)
        subst ee
        obtain ⟨n7, h1⟩ := h1
        obtain ⟨n7x, h2⟩ := h2
        exact d_p_X6_digest_L195 (w := w) (by first | exact hw | simpa [gI, setI, setR, setJ, setT] using hw) h1 h2 hQ (fun _ _ _ _ hw h1 h2 => ih _ _ _ _ _ hw h1 h2)
theorem d_p_X6_digest_L172 {G : Prop} {Q1 Q2 : Int64 → Sg → Prop}  {n m : Nat} {x0 : Nat} {x1 : Int64} {x3 : Int32} {s : Sg} {w : Int32} (hw : gI s 0 20 = w) (h1 : p_X6_digest_L172 Q1 n x0 x1 x3 s) (h2 : p_X6_digest_L172 Q2 m x0 x1 x3 s) (hQ : ∀ (v0 : Int64) (v1 : Sg), gI v1 0 20 = w → Q1 v0 v1 → Q2 v0 v1 → G) : G := D_p_X6_digest_L172 hQ n m x0 x1 x3 s hw h1 h2
theorem D_p_X6_digest_L145 {G : Prop} {Q1 Q2 : Int64 → Sg → Prop}  {w : Int32} (hQ : ∀ (v0 : Int64) (v1 : Sg), gI v1 0 20 = w → Q1 v0 v1 → Q2 v0 v1 → G) : ∀ (n m : Nat) (x0 : Nat) (x1 : Int64) (x3 : Int32) (s : Sg), gI s 0 20 = w → p_X6_digest_L145 Q1 n x0 x1 x3 s → p_X6_digest_L145 Q2 m x0 x1 x3 s → G := by
  intro n
  induction n with
  | zero =>
    intro m x0 x1 x3 s hw h1
    exact h1.elim
  | succ n ih =>
    intro m x0 x1 x3 s hw h1 h2
    cases m with
    | zero => exact h2.elim
    | succ m =>
      unfold p_X6_digest_L145 at h1 h2
      by_cases cc : 3 ≤ x3
      · replace h1 := h1.1 cc
        replace h2 := h2.1 cc
        obtain ⟨n2, h1⟩ := h1
        obtain ⟨n2x, h2⟩ := h2
        exact d_p_X6_digest_L172 (w := w) (by first | exact hw | simpa [gI, setI, setR, setJ, setT] using hw) h1 h2 hQ
      · replace h1 := h1.2 cc
        replace h2 := h2.2 cc
        obtain ⟨k3, e0, _, _, h1⟩ := h1
        obtain ⟨k3x, f0, _, _, h2⟩ := h2
        have ee := Option.some.inj (e0.symm.trans f0)
        subst ee
        exact ih _ _ _ _ _ (by first | exact hw | simpa [gI, setI, setR, setJ, setT] using hw) h1 h2
theorem d_p_X6_digest_L145 {G : Prop} {Q1 Q2 : Int64 → Sg → Prop}  {n m : Nat} {x0 : Nat} {x1 : Int64} {x3 : Int32} {s : Sg} {w : Int32} (hw : gI s 0 20 = w) (h1 : p_X6_digest_L145 Q1 n x0 x1 x3 s) (h2 : p_X6_digest_L145 Q2 m x0 x1 x3 s) (hQ : ∀ (v0 : Int64) (v1 : Sg), gI v1 0 20 = w → Q1 v0 v1 → Q2 v0 v1 → G) : G := D_p_X6_digest_L145 hQ n m x0 x1 x3 s hw h1 h2
theorem D_p_X6_digest_L61 {G : Prop} {Q1 Q2 : Int64 → Sg → Prop}  {w : Int32} (hQ : ∀ (v0 : Int64) (v1 : Sg), gI v1 0 20 = w → Q1 v0 v1 → Q2 v0 v1 → G) : ∀ (n m : Nat) (x0 : Nat) (x1 : Int64) (x3 : Int32) (s : Sg), gI s 0 20 = w → p_X6_digest_L61 Q1 n x0 x1 x3 s → p_X6_digest_L61 Q2 m x0 x1 x3 s → G := by
  intro n
  induction n with
  | zero =>
    intro m x0 x1 x3 s hw h1
    exact h1.elim
  | succ n ih =>
    intro m x0 x1 x3 s hw h1 h2
    cases m with
    | zero => exact h2.elim
    | succ m =>
      unfold p_X6_digest_L61 at h1 h2
      by_cases cc : (gI s x0 20) ≤ x3
      · replace h1 := h1.1 cc
        replace h2 := h2.1 cc
        obtain ⟨n2, h1⟩ := h1
        obtain ⟨n2x, h2⟩ := h2
        exact d_p_X6_digest_L145 (w := w) (by first | exact hw | simpa [gI, setI, setR, setJ, setT] using hw) h1 h2 hQ
      · replace h1 := h1.2 cc
        replace h2 := h2.2 cc
        obtain ⟨n3, h1⟩ := h1
        obtain ⟨n3x, h2⟩ := h2
        exact d_p_X6_digest_L72 (w := w) (by first | exact hw | simpa [gI, setI, setR, setJ, setT] using hw) h1 h2 hQ (fun _ _ _ _ hw h1 h2 => ih _ _ _ _ _ hw h1 h2)
theorem d_p_X6_digest_L61 {G : Prop} {Q1 Q2 : Int64 → Sg → Prop}  {n m : Nat} {x0 : Nat} {x1 : Int64} {x3 : Int32} {s : Sg} {w : Int32} (hw : gI s 0 20 = w) (h1 : p_X6_digest_L61 Q1 n x0 x1 x3 s) (h2 : p_X6_digest_L61 Q2 m x0 x1 x3 s) (hQ : ∀ (v0 : Int64) (v1 : Sg), gI v1 0 20 = w → Q1 v0 v1 → Q2 v0 v1 → G) : G := D_p_X6_digest_L61 hQ n m x0 x1 x3 s hw h1 h2
theorem D_p_X6_digest_L33 {G : Prop} {Q1 Q2 : Int64 → Sg → Prop}  {w : Int32} (hQ : ∀ (v0 : Int64) (v1 : Sg), gI v1 0 20 = w → Q1 v0 v1 → Q2 v0 v1 → G) : ∀ (n m : Nat) (x0 : Nat) (x1 : Int64) (x3 : Int32) (s : Sg), gI s 0 20 = w → p_X6_digest_L33 Q1 n x0 x1 x3 s → p_X6_digest_L33 Q2 m x0 x1 x3 s → G := by
  intro n
  induction n with
  | zero =>
    intro m x0 x1 x3 s hw h1
    exact h1.elim
  | succ n ih =>
    intro m x0 x1 x3 s hw h1 h2
    cases m with
    | zero => exact h2.elim
    | succ m =>
      unfold p_X6_digest_L33 at h1 h2
      by_cases cc : 6 ≤ x3
      · replace h1 := h1.1 cc
        replace h2 := h2.1 cc
        obtain ⟨n2, h1⟩ := h1
        obtain ⟨n2x, h2⟩ := h2
        exact d_p_X6_digest_L61 (w := w) (by first | exact hw | simpa [gI, setI, setR, setJ, setT] using hw) h1 h2 hQ
      · replace h1 := h1.2 cc
        replace h2 := h2.2 cc
        obtain ⟨k3, e0, _, _, h1⟩ := h1
        obtain ⟨k3x, f0, _, _, h2⟩ := h2
        have ee := Option.some.inj (e0.symm.trans f0)
        subst ee
        exact ih _ _ _ _ _ (by first | exact hw | simpa [gI, setI, setR, setJ, setT] using hw) h1 h2
theorem d_p_X6_digest_L33 {G : Prop} {Q1 Q2 : Int64 → Sg → Prop}  {n m : Nat} {x0 : Nat} {x1 : Int64} {x3 : Int32} {s : Sg} {w : Int32} (hw : gI s 0 20 = w) (h1 : p_X6_digest_L33 Q1 n x0 x1 x3 s) (h2 : p_X6_digest_L33 Q2 m x0 x1 x3 s) (hQ : ∀ (v0 : Int64) (v1 : Sg), gI v1 0 20 = w → Q1 v0 v1 → Q2 v0 v1 → G) : G := D_p_X6_digest_L33 hQ n m x0 x1 x3 s hw h1 h2
theorem D_p_X6_digest_L6 {G : Prop} {Q1 Q2 : Int64 → Sg → Prop}  {w : Int32} (hQ : ∀ (v0 : Int64) (v1 : Sg), gI v1 0 20 = w → Q1 v0 v1 → Q2 v0 v1 → G) : ∀ (n m : Nat) (x0 : Nat) (x1 : Int64) (x3 : Int32) (s : Sg), gI s 0 20 = w → p_X6_digest_L6 Q1 n x0 x1 x3 s → p_X6_digest_L6 Q2 m x0 x1 x3 s → G := by
  intro n
  induction n with
  | zero =>
    intro m x0 x1 x3 s hw h1
    exact h1.elim
  | succ n ih =>
    intro m x0 x1 x3 s hw h1 h2
    cases m with
    | zero => exact h2.elim
    | succ m =>
      unfold p_X6_digest_L6 at h1 h2
      by_cases cc : 10 < x3
      · replace h1 := h1.1 cc
        replace h2 := h2.1 cc
        obtain ⟨n2, h1⟩ := h1
        obtain ⟨n2x, h2⟩ := h2
        exact d_p_X6_digest_L33 (w := w) (by first | exact hw | simpa [gI, setI, setR, setJ, setT] using hw) h1 h2 hQ
      · replace h1 := h1.2 cc
        replace h2 := h2.2 cc
        refine d_p_X6_count (w := w) (by first | exact hw | simpa [gI, setI, setR, setJ, setT] using hw) h1 h2 (fun r4 s3 hw h1 h2 => ?_)
        exact ih _ _ _ _ _ (by first | exact hw | simpa [gI, setI, setR, setJ, setT] using hw) h1 h2
theorem d_p_X6_digest_L6 {G : Prop} {Q1 Q2 : Int64 → Sg → Prop}  {n m : Nat} {x0 : Nat} {x1 : Int64} {x3 : Int32} {s : Sg} {w : Int32} (hw : gI s 0 20 = w) (h1 : p_X6_digest_L6 Q1 n x0 x1 x3 s) (h2 : p_X6_digest_L6 Q2 m x0 x1 x3 s) (hQ : ∀ (v0 : Int64) (v1 : Sg), gI v1 0 20 = w → Q1 v0 v1 → Q2 v0 v1 → G) : G := D_p_X6_digest_L6 hQ n m x0 x1 x3 s hw h1 h2
theorem d_p_X6_digest {G : Prop} {Q1 Q2 : Int64 → Sg → Prop} {x0 : Nat} {s : Sg} {w : Int32} (hw : gI s 0 20 = w) (h1 : p_X6_digest x0 s Q1) (h2 : p_X6_digest x0 s Q2) (hQ : ∀ (v0 : Int64) (v1 : Sg), gI v1 0 20 = w → Q1 v0 v1 → Q2 v0 v1 → G) : G := by
  unfold p_X6_digest at h1 h2
  obtain ⟨n1, h1⟩ := h1
  obtain ⟨n1x, h2⟩ := h2
  exact d_p_X6_digest_L6 (w := w) (by first | exact hw | simpa [gI, setI, setR, setJ, setT] using hw) h1 h2 hQ
