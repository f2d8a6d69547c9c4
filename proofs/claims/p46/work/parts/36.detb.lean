theorem D_p_X6_delta_L51 {G : Prop} {Q1 Q2 : Int32 → Sg → Prop}  {w : Int32} (hQ : ∀ (v0 : Int32) (v1 : Sg), gI v1 0 20 = w → Q1 v0 v1 → Q2 v0 v1 → G) : ∀ (n m : Nat) (x0 : Nat) (x2 : Int32) (s : Sg), gI s 0 20 = w → p_X6_delta_L51 Q1 n x0 x2 s → p_X6_delta_L51 Q2 m x0 x2 s → G := by
  intro n
  induction n with
  | zero =>
    intro m x0 x2 s hw h1
    exact h1.elim
  | succ n ih =>
    intro m x0 x2 s hw h1 h2
    cases m with
    | zero => exact h2.elim
    | succ m =>
      unfold p_X6_delta_L51 at h1 h2
      by_cases cc : 6 ≤ x2
      · replace h1 := h1.1 cc
        replace h2 := h2.1 cc
        refine d_p_X6_goThrough (w := w) (by first | exact hw | simpa [gI, setI, setR, setJ, setT] using hw) h1 h2 (fun s2 hw h1 h2 => ?_)
        obtain ⟨n3, h1⟩ := h1
        obtain ⟨n3x, h2⟩ := h2
        exact d_p_X6_delta_L142 (w := w) (by first | exact hw | simpa [gI, setI, setR, setJ, setT] using hw) h1 h2 hQ
      · replace h1 := h1.2 cc
        replace h2 := h2.2 cc
        obtain ⟨k4, e0, _, _, h1⟩ := h1
        obtain ⟨k4x, f0, _, _, h2⟩ := h2
        have ee := Option.some.inj (e0.symm.trans f0)
        subst ee
        obtain ⟨k8, e0, _, _, h1⟩ := h1
        obtain ⟨k8x, f0, _, _, h2⟩ := h2
        have ee := Option.some.inj (e0.symm.trans f0)
        subst ee
        obtain ⟨k12, e0, _, _, h1⟩ := h1
        obtain ⟨k12x, f0, _, _, h2⟩ := h2
        have ee := Option.some.inj (e0.symm.trans f0)
        subst ee
        obtain ⟨k16, e0, _, _, h1⟩ := h1
        obtain ⟨k16x, f0, _, _, h2⟩ := h2
        have ee := Option.some.inj (e0.symm.trans f0)
        subst ee
        obtain ⟨k20, e0, _, _, h1⟩ := h1
        obtain ⟨k20x, f0, _, _, h2⟩ := h2
        have ee := Option.some.inj (e0.symm.trans f0)
        subst ee
        obtain ⟨k24, e0, _, _, h1⟩ := h1
        obtain ⟨k24x, f0, _, _, h2⟩ := h2
        have ee := Option.some.inj (e0.symm.trans f0)
        subst ee
        obtain ⟨k28, e0, _, _, h1⟩ := h1
        obtain ⟨k28x, f0, _, _, h2⟩ := h2
        have ee := Option.some.inj (e0.symm.trans f0)
        subst ee
        obtain ⟨k32, e0, _, _, h1⟩ := h1
        obtain ⟨k32x, f0, _, _, h2⟩ := h2
        have ee := Option.some.inj (e0.symm.trans f0)
        subst ee
        obtain ⟨k36, e0, _, _, h1⟩ := h1
        obtain ⟨k36x, f0, _, _, h2⟩ := h2
        have ee := Option.some.inj (e0.symm.trans f0)
        subst ee
        obtain ⟨k40, e0, _, _, h1⟩ := h1
        obtain ⟨k40x, f0, _, _, h2⟩ := h2
        have ee := Option.some.inj (e0.symm.trans f0)
        subst ee
        exact ih _ _ _ _ (by first | exact hw | simpa [gI, setI, setR, setJ, setT] using hw) h1 h2
theorem d_p_X6_delta_L51 {G : Prop} {Q1 Q2 : Int32 → Sg → Prop}  {n m : Nat} {x0 : Nat} {x2 : Int32} {s : Sg} {w : Int32} (hw : gI s 0 20 = w) (h1 : p_X6_delta_L51 Q1 n x0 x2 s) (h2 : p_X6_delta_L51 Q2 m x0 x2 s) (hQ : ∀ (v0 : Int32) (v1 : Sg), gI v1 0 20 = w → Q1 v0 v1 → Q2 v0 v1 → G) : G := D_p_X6_delta_L51 hQ n m x0 x2 s hw h1 h2
theorem d_p_X6_delta {G : Prop} {Q1 Q2 : Int32 → Sg → Prop} {x0 : Nat} {x1 : Int32} {s : Sg} (h1 : p_X6_delta x0 x1 s Q1) (h2 : p_X6_delta x0 x1 s Q2) (hQ : ∀ (v0 : Int32) (v1 : Sg), Q1 v0 v1 → Q2 v0 v1 → G) : G := by
  unfold p_X6_delta at h1 h2
  refine d_p_X6_isText rfl h1 h2 (fun r2 s1 hw h1 h2 => ?_)
  by_cases cc : r2 = 0
  · replace h1 := h1.1 cc
    replace h2 := h2.1 cc
    exact hQ _ _ h1 h2
  · replace h1 := h1.2 cc
    replace h2 := h2.2 cc
    obtain ⟨k4, e0, _, _, h1⟩ := h1
    obtain ⟨k4x, f0, _, _, h2⟩ := h2
    have ee := Option.some.inj (e0.symm.trans f0)
    subst ee
    by_cases cc : 0 ≤ (gR s1 k4 x1.toNatClampNeg)
    · replace h1 := h1.1 cc
      replace h2 := h2.1 cc
      refine d_p_X6_read rfl h1 h2 (fun s9 hw h1 h2 => ?_)
      by_cases cc : (gI s9 x0 19) = ((-9))
      · replace h1 := h1.1 cc
        replace h2 := h2.1 cc
        obtain ⟨n11, h1⟩ := h1
        obtain ⟨n11x, h2⟩ := h2
        exact d_p_X6_delta_L51 rfl h1 h2 (fun _ _ _ h1 h2 => hQ _ _ h1 h2)
      · replace h1 := h1.2 cc
        replace h2 := h2.2 cc
        exact hQ _ _ h1 h2
    · replace h1 := h1.2 cc
      replace h2 := h2.2 cc
      refine d_p_X6_refuse rfl h1 h2 (fun r13 s12 hw h1 h2 => ?_)
      exact hQ _ _ h1 h2
theorem d_p_X6_isWoman {G : Prop} {Q1 Q2 : Int32 → Sg → Prop} {x0 : Nat} {x1 : Int32} {s : Sg} {w : Int32} (hw : gI s 0 20 = w) (h1 : p_X6_isWoman x0 x1 s Q1) (h2 : p_X6_isWoman x0 x1 s Q2) (hQ : ∀ (v0 : Int32) (v1 : Sg), gI v1 0 20 = w → Q1 v0 v1 → Q2 v0 v1 → G) : G := by
  unfold p_X6_isWoman at h1 h2
  refine d_p_X6_in (w := w) (by first | exact hw | simpa [gI, setI, setR, setJ, setT] using hw) h1 h2 (fun r2 s1 hw h1 h2 => ?_)
  obtain ⟨_, h1⟩ := h1
  obtain ⟨_, h2⟩ := h2
  exact hQ _ _ (by first | exact hw | simpa [gI, setI, setR, setJ, setT] using hw) h1 h2
theorem d_p_X6_isHeight {G : Prop} {Q1 Q2 : Int32 → Sg → Prop} {x0 : Int32} {s : Sg} {w : Int32} (hw : gI s 0 20 = w) (h1 : p_X6_isHeight x0 s Q1) (h2 : p_X6_isHeight x0 s Q2) (hQ : ∀ (v0 : Int32) (v1 : Sg), gI v1 0 20 = w → Q1 v0 v1 → Q2 v0 v1 → G) : G := by
  unfold p_X6_isHeight at h1 h2
  refine d_p_X6_in (w := w) (by first | exact hw | simpa [gI, setI, setR, setJ, setT] using hw) h1 h2 (fun r2 s1 hw h1 h2 => ?_)
  obtain ⟨_, h1⟩ := h1
  obtain ⟨_, h2⟩ := h2
  exact hQ _ _ (by first | exact hw | simpa [gI, setI, setR, setJ, setT] using hw) h1 h2
theorem d_p_X6_isPlace {G : Prop} {Q1 Q2 : Int32 → Sg → Prop} {x0 : Int32} {s : Sg} {w : Int32} (hw : gI s 0 20 = w) (h1 : p_X6_isPlace x0 s Q1) (h2 : p_X6_isPlace x0 s Q2) (hQ : ∀ (v0 : Int32) (v1 : Sg), gI v1 0 20 = w → Q1 v0 v1 → Q2 v0 v1 → G) : G := by
  unfold p_X6_isPlace at h1 h2
  refine d_p_X6_in (w := w) (by first | exact hw | simpa [gI, setI, setR, setJ, setT] using hw) h1 h2 (fun r2 s1 hw h1 h2 => ?_)
  obtain ⟨_, h1⟩ := h1
  obtain ⟨_, h2⟩ := h2
  exact hQ _ _ (by first | exact hw | simpa [gI, setI, setR, setJ, setT] using hw) h1 h2
theorem d_p_X6_hemThen {G : Prop} {Q1 Q2 : Int32 → Sg → Prop} {x0 : Nat} {x1 : Int32} {x2 : Int32} {x3 : Int32} {x4 : Int32} {s : Sg} {w : Int32} (hw : gI s 0 20 = w) (h1 : p_X6_hemThen x0 x1 x2 x3 x4 s Q1) (h2 : p_X6_hemThen x0 x1 x2 x3 x4 s Q2) (hQ : ∀ (v0 : Int32) (v1 : Sg), gI v1 0 20 = w → Q1 v0 v1 → Q2 v0 v1 → G) : G := by
  unfold p_X6_hemThen at h1 h2
  obtain ⟨k1, e0, _, _, h1⟩ := h1
  obtain ⟨k1x, f0, _, _, h2⟩ := h2
  have ee := Option.some.inj (e0.symm.trans f0)
  subst ee
  obtain ⟨k5, e0, _, _, h1⟩ := h1
  obtain ⟨k5x, f0, _, _, h2⟩ := h2
  have ee := Option.some.inj (e0.symm.trans f0)
  subst ee
  obtain ⟨k9, e0, _, _, h1⟩ := h1
  obtain ⟨k9x, f0, _, _, h2⟩ := h2
  have ee := Option.some.inj (e0.symm.trans f0)
  subst ee
  refine d_p_X6_wet (w := w) (by first | exact hw | simpa [gI, setI, setR, setJ, setT] using hw) h1 h2 (fun r14 s13 hw h1 h2 => ?_)
  refine d_p_X6_hemBy (w := w) (by first | exact hw | simpa [gI, setI, setR, setJ, setT] using hw) h1 h2 (fun r16 s15 hw h1 h2 => ?_)
  exact hQ _ _ (by first | exact hw | simpa [gI, setI, setR, setJ, setT] using hw) h1 h2
theorem d_p_X6_does {G : Prop} {Q1 Q2 : Sg → Prop} {x0 : Nat} {x1 : Int32} {x2 : Int32} {x3 : Int32} {s : Sg} {w : Int32} (hw : gI s 0 20 = w) (h1 : p_X6_does x0 x1 x2 x3 s Q1) (h2 : p_X6_does x0 x1 x2 x3 s Q2) (hQ : ∀ (v0 : Sg), gI v0 0 20 = w → Q1 v0 → Q2 v0 → G) : G := by
  unfold p_X6_does at h1 h2
  obtain ⟨k1, e0, _, _, h1⟩ := h1
  obtain ⟨k1x, f0, _, _, h2⟩ := h2
  have ee := Option.some.inj (e0.symm.trans f0)
  subst ee
  obtain ⟨k5, e0, _, _, h1⟩ := h1
  obtain ⟨k5x, f0, _, _, h2⟩ := h2
  have ee := Option.some.inj (e0.symm.trans f0)
  subst ee
  obtain ⟨k9, e0, _, _, h1⟩ := h1
  obtain ⟨k9x, f0, _, _, h2⟩ := h2
  have ee := Option.some.inj (e0.symm.trans f0)
  subst ee
  refine d_p_X6_happen (w := w) (by first | exact hw | simpa [gI, setI, setR, setJ, setT] using hw) h1 h2 (fun s13 hw h1 h2 => ?_)
  exact hQ _ (by first | exact hw | simpa [gI, setI, setR, setJ, setT] using hw) h1 h2
theorem d_p_X6_manyWet_b36 {G : Prop} {Q1 Q2 : Int32 → Sg → Prop} {K41 K42 : Nat → Int32 → Int32 → Int32 → Sg → Prop} {x0 : Nat} {x1 : Int32} {x3 : Int32} {t0 : Int32} {t1 : Int32} {s : Sg} {w : Int32} (hw : gI s 0 20 = w) (h1 : p_X6_manyWet_b36 Q1 K41 x0 x1 x3 t0 t1 s) (h2 : p_X6_manyWet_b36 Q2 K42 x0 x1 x3 t0 t1 s) (hQ : ∀ (v0 : Int32) (v1 : Sg), gI v1 0 20 = w → Q1 v0 v1 → Q2 v0 v1 → G) (hK4 : ∀ (v0 : Nat) (v1 : Int32) (v2 : Int32) (v3 : Int32) (v4 : Sg), gI v4 0 20 = w → K41 v0 v1 v2 v3 v4 → K42 v0 v1 v2 v3 v4 → G) : G := by
  unfold p_X6_manyWet_b36 at h1 h2
  exact hK4 _ _ _ _ _ (by first | exact hw | simpa [gI, setI, setR, setJ, setT] using hw) h1 h2
theorem D_p_X6_manyWet_L4 {G : Prop} {Q1 Q2 : Int32 → Sg → Prop}  {w : Int32} (hQ : ∀ (v0 : Int32) (v1 : Sg), gI v1 0 20 = w → Q1 v0 v1 → Q2 v0 v1 → G) : ∀ (n m : Nat) (x0 : Nat) (x1 : Int32) (x2 : Int32) (x3 : Int32) (s : Sg), gI s 0 20 = w → p_X6_manyWet_L4 Q1 n x0 x1 x2 x3 s → p_X6_manyWet_L4 Q2 m x0 x1 x2 x3 s → G := by
  intro n
  induction n with
  | zero =>
    intro m x0 x1 x2 x3 s hw h1
    exact h1.elim
  | succ n ih =>
    intro m x0 x1 x2 x3 s hw h1 h2
    cases m with
    | zero => exact h2.elim
    | succ m =>
      unfold p_X6_manyWet_L4 at h1 h2
      by_cases cc : (gI s x0 20) ≤ x3
      · replace h1 := h1.1 cc
        replace h2 := h2.1 cc
        exact hQ _ _ (by first | exact hw | simpa [gI, setI, setR, setJ, setT] using hw) h1 h2
      · replace h1 := h1.2 cc
        replace h2 := h2.2 cc
        obtain ⟨k2, e0, _, _, h1⟩ := h1
        obtain ⟨k2x, f0, _, _, h2⟩ := h2
        have ee := Option.some.inj (e0.symm.trans f0)
        subst ee
        obtain ⟨k6, e0, _, _, h1⟩ := h1
        obtain ⟨k6x, f0, _, _, h2⟩ := h2
        have ee := Option.some.inj (e0.symm.trans f0)
        subst ee
        refine d_p_X6_wet (w := w) (by first | exact hw | simpa [gI, setI, setR, setJ, setT] using hw) h1 h2 (fun r11 s10 hw h1 h2 => ?_)
        by_cases cc : r11 ≤ 0
        · replace h1 := h1.1 cc
          replace h2 := h2.1 cc
          exact d_p_X6_manyWet_b36 (w := w) (by first | exact hw | simpa [gI, setI, setR, setJ, setT] using hw) h1 h2 hQ (fun _ _ _ _ _ hw h1 h2 => ih _ _ _ _ _ _ hw h1 h2)
        · replace h1 := h1.2 cc
          replace h2 := h2.2 cc
          exact d_p_X6_manyWet_b36 (w := w) (by first | exact hw | simpa [gI, setI, setR, setJ, setT] using hw) h1 h2 hQ (fun _ _ _ _ _ hw h1 h2 => ih _ _ _ _ _ _ hw h1 h2)
theorem d_p_X6_manyWet_L4 {G : Prop} {Q1 Q2 : Int32 → Sg → Prop}  {n m : Nat} {x0 : Nat} {x1 : Int32} {x2 : Int32} {x3 : Int32} {s : Sg} {w : Int32} (hw : gI s 0 20 = w) (h1 : p_X6_manyWet_L4 Q1 n x0 x1 x2 x3 s) (h2 : p_X6_manyWet_L4 Q2 m x0 x1 x2 x3 s) (hQ : ∀ (v0 : Int32) (v1 : Sg), gI v1 0 20 = w → Q1 v0 v1 → Q2 v0 v1 → G) : G := D_p_X6_manyWet_L4 hQ n m x0 x1 x2 x3 s hw h1 h2
theorem d_p_X6_manyWet {G : Prop} {Q1 Q2 : Int32 → Sg → Prop} {x0 : Nat} {x1 : Int32} {s : Sg} {w : Int32} (hw : gI s 0 20 = w) (h1 : p_X6_manyWet x0 x1 s Q1) (h2 : p_X6_manyWet x0 x1 s Q2) (hQ : ∀ (v0 : Int32) (v1 : Sg), gI v1 0 20 = w → Q1 v0 v1 → Q2 v0 v1 → G) : G := by
  unfold p_X6_manyWet at h1 h2
  obtain ⟨n1, h1⟩ := h1
  obtain ⟨n1x, h2⟩ := h2
  exact d_p_X6_manyWet_L4 (w := w) (by first | exact hw | simpa [gI, setI, setR, setJ, setT] using hw) h1 h2 hQ
theorem d_p_X6_ofWoman_b115 {G : Prop} {Q1 Q2 : Int32 → Sg → Prop} {K741 K742 : Nat → Int32 → Int32 → Int32 → Sg → Prop} {x0 : Nat} {x1 : Int32} {x4 : Int32} {t0 : Int32} {s : Sg} {w : Int32} (hw : gI s 0 20 = w) (h1 : p_X6_ofWoman_b115 Q1 K741 x0 x1 x4 t0 s) (h2 : p_X6_ofWoman_b115 Q2 K742 x0 x1 x4 t0 s) (hQ : ∀ (v0 : Int32) (v1 : Sg), gI v1 0 20 = w → Q1 v0 v1 → Q2 v0 v1 → G) (hK74 : ∀ (v0 : Nat) (v1 : Int32) (v2 : Int32) (v3 : Int32) (v4 : Sg), gI v4 0 20 = w → K741 v0 v1 v2 v3 v4 → K742 v0 v1 v2 v3 v4 → G) : G := by
  unfold p_X6_ofWoman_b115 at h1 h2
  exact hK74 _ _ _ _ _ (by first | exact hw | simpa [gI, setI, setR, setJ, setT] using hw) h1 h2
theorem D_p_X6_ofWoman_L74 {G : Prop} {Q1 Q2 : Int32 → Sg → Prop}  {w : Int32} (hQ : ∀ (v0 : Int32) (v1 : Sg), gI v1 0 20 = w → Q1 v0 v1 → Q2 v0 v1 → G) : ∀ (n m : Nat) (x0 : Nat) (x1 : Int32) (x3 : Int32) (x4 : Int32) (s : Sg), gI s 0 20 = w → p_X6_ofWoman_L74 Q1 n x0 x1 x3 x4 s → p_X6_ofWoman_L74 Q2 m x0 x1 x3 x4 s → G := by
  intro n
  induction n with
  | zero =>
    intro m x0 x1 x3 x4 s hw h1
    exact h1.elim
  | succ n ih =>
    intro m x0 x1 x3 x4 s hw h1 h2
    cases m with
    | zero => exact h2.elim
    | succ m =>
      unfold p_X6_ofWoman_L74 at h1 h2
      by_cases cc : (gI s x0 31) ≤ x4
      · replace h1 := h1.1 cc
        replace h2 := h2.1 cc
        exact hQ _ _ (by first | exact hw | simpa [gI, setI, setR, setJ, setT] using hw) h1 h2
      · replace h1 := h1.2 cc
        replace h2 := h2.2 cc
        obtain ⟨k2, e0, _, _, h1⟩ := h1
        obtain ⟨k2x, f0, _, _, h2⟩ := h2
        have ee := Option.some.inj (e0.symm.trans f0)
        subst ee
        by_cases cc : (gR s k2 ((6 * x4) + x1).toNatClampNeg) ≤ x3
        · replace h1 := h1.1 cc
          replace h2 := h2.1 cc
          exact d_p_X6_ofWoman_b115 (w := w) (by first | exact hw | simpa [gI, setI, setR, setJ, setT] using hw) h1 h2 hQ (fun _ _ _ _ _ hw h1 h2 => ih _ _ _ _ _ _ hw h1 h2)
        · replace h1 := h1.2 cc
          replace h2 := h2.2 cc
          obtain ⟨k7, e0, _, _, h1⟩ := h1
          obtain ⟨k7x, f0, _, _, h2⟩ := h2
          have ee := Option.some.inj (e0.symm.trans f0)
          subst ee
          exact d_p_X6_ofWoman_b115 (w := w) (by first | exact hw | simpa [gI, setI, setR, setJ, setT] using hw) h1 h2 hQ (fun _ _ _ _ _ hw h1 h2 => ih _ _ _ _ _ _ hw h1 h2)
theorem d_p_X6_ofWoman_L74 {G : Prop} {Q1 Q2 : Int32 → Sg → Prop}  {n m : Nat} {x0 : Nat} {x1 : Int32} {x3 : Int32} {x4 : Int32} {s : Sg} {w : Int32} (hw : gI s 0 20 = w) (h1 : p_X6_ofWoman_L74 Q1 n x0 x1 x3 x4 s) (h2 : p_X6_ofWoman_L74 Q2 m x0 x1 x3 x4 s) (hQ : ∀ (v0 : Int32) (v1 : Sg), gI v1 0 20 = w → Q1 v0 v1 → Q2 v0 v1 → G) : G := D_p_X6_ofWoman_L74 hQ n m x0 x1 x3 x4 s hw h1 h2
theorem d_p_X6_ofWoman {G : Prop} {Q1 Q2 : Int32 → Sg → Prop} {x0 : Nat} {x1 : Int32} {x2 : Int32} {s : Sg} {w : Int32} (hw : gI s 0 20 = w) (h1 : p_X6_ofWoman x0 x1 x2 s Q1) (h2 : p_X6_ofWoman x0 x1 x2 s Q2) (hQ : ∀ (v0 : Int32) (v1 : Sg), gI v1 0 20 = w → Q1 v0 v1 → Q2 v0 v1 → G) : G := by
  unfold p_X6_ofWoman at h1 h2
  by_cases cc : x2 = 0
  · replace h1 := h1.1 cc
    replace h2 := h2.1 cc
    obtain ⟨k3, e0, _, _, h1⟩ := h1
    obtain ⟨k3x, f0, _, _, h2⟩ := h2
    have ee := Option.some.inj (e0.symm.trans f0)
    subst ee
    exact hQ _ _ (by first | exact hw | simpa [gI, setI, setR, setJ, setT] using hw) h1 h2
  · replace h1 := h1.2 cc
    replace h2 := h2.2 cc
    by_cases cc : x2 = 1
    · replace h1 := h1.1 cc
      replace h2 := h2.1 cc
      obtain ⟨k8, e0, _, _, h1⟩ := h1
      obtain ⟨k8x, f0, _, _, h2⟩ := h2
      have ee := Option.some.inj (e0.symm.trans f0)
      subst ee
      exact hQ _ _ (by first | exact hw | simpa [gI, setI, setR, setJ, setT] using hw) h1 h2
    · replace h1 := h1.2 cc
      replace h2 := h2.2 cc
      by_cases cc : x2 = 2
      · replace h1 := h1.1 cc
        replace h2 := h2.1 cc
        obtain ⟨k13, e0, _, _, h1⟩ := h1
        obtain ⟨k13x, f0, _, _, h2⟩ := h2
        have ee := Option.some.inj (e0.symm.trans f0)
        subst ee
        exact hQ _ _ (by first | exact hw | simpa [gI, setI, setR, setJ, setT] using hw) h1 h2
      · replace h1 := h1.2 cc
        replace h2 := h2.2 cc
        by_cases cc : x2 = 3
        · replace h1 := h1.1 cc
          replace h2 := h2.1 cc
          obtain ⟨k18, e0, _, _, h1⟩ := h1
          obtain ⟨k18x, f0, _, _, h2⟩ := h2
          have ee := Option.some.inj (e0.symm.trans f0)
          subst ee
          exact hQ _ _ (by first | exact hw | simpa [gI, setI, setR, setJ, setT] using hw) h1 h2
        · replace h1 := h1.2 cc
          replace h2 := h2.2 cc
          by_cases cc : x2 = 4
          · replace h1 := h1.1 cc
            replace h2 := h2.1 cc
            exact hQ _ _ (by first | exact hw | simpa [gI, setI, setR, setJ, setT] using hw) h1 h2
          · replace h1 := h1.2 cc
            replace h2 := h2.2 cc
            obtain ⟨n23, h1⟩ := h1
            obtain ⟨n23x, h2⟩ := h2
            exact d_p_X6_ofWoman_L74 (w := w) (by first | exact hw | simpa [gI, setI, setR, setJ, setT] using hw) h1 h2 hQ
theorem d_p_X6_woman {G : Prop} {Q1 Q2 : Int32 → Sg → Prop} {x0 : Nat} {x1 : Int32} {x2 : Int32} {s : Sg} {w : Int32} (hw : gI s 0 20 = w) (h1 : p_X6_woman x0 x1 x2 s Q1) (h2 : p_X6_woman x0 x1 x2 s Q2) (hQ : ∀ (v0 : Int32) (v1 : Sg), gI v1 0 20 = w → Q1 v0 v1 → Q2 v0 v1 → G) : G := by
  unfold p_X6_woman at h1 h2
  refine d_p_X6_isWoman (w := w) (by first | exact hw | simpa [gI, setI, setR, setJ, setT] using hw) h1 h2 (fun r2 s1 hw h1 h2 => ?_)
  by_cases cc : r2 = 0
  · replace h1 := h1.1 cc
    replace h2 := h2.1 cc
    exact hQ _ _ (by first | exact hw | simpa [gI, setI, setR, setJ, setT] using hw) h1 h2
  · replace h1 := h1.2 cc
    replace h2 := h2.2 cc
    refine d_p_X6_in (w := w) (by first | exact hw | simpa [gI, setI, setR, setJ, setT] using hw) h1 h2 (fun r5 s4 hw h1 h2 => ?_)
    by_cases cc : r5 = 0
    · replace h1 := h1.1 cc
      replace h2 := h2.1 cc
      exact hQ _ _ (by first | exact hw | simpa [gI, setI, setR, setJ, setT] using hw) h1 h2
    · replace h1 := h1.2 cc
      replace h2 := h2.2 cc
      refine d_p_X6_ofWoman (w := w) (by first | exact hw | simpa [gI, setI, setR, setJ, setT] using hw) h1 h2 (fun r8 s7 hw h1 h2 => ?_)
      refine d_p_X6_tellsAsked (w := w) (by first | exact hw | simpa [gI, setI, setR, setJ, setT] using hw) h1 h2 (fun r10 s9 hw h1 h2 => ?_)
      exact hQ _ _ (by first | exact hw | simpa [gI, setI, setR, setJ, setT] using hw) h1 h2
theorem d_p_X6_isOf_b25 {G : Prop} {Q1 Q2 : Int32 → Sg → Prop} {s : Sg} {w : Int32} (hw : gI s 0 20 = w) (h1 : p_X6_isOf_b25 Q1 s) (h2 : p_X6_isOf_b25 Q2 s) (hQ : ∀ (v0 : Int32) (v1 : Sg), gI v1 0 20 = w → Q1 v0 v1 → Q2 v0 v1 → G) : G := by
  unfold p_X6_isOf_b25 at h1 h2
  exact hQ _ _ (by first | exact hw | simpa [gI, setI, setR, setJ, setT] using hw) h1 h2
theorem d_p_X6_isOf_b15 {G : Prop} {Q1 Q2 : Int32 → Sg → Prop} {x0 : Int32} {x1 : Int32} {s : Sg} {w : Int32} (hw : gI s 0 20 = w) (h1 : p_X6_isOf_b15 Q1 x0 x1 s) (h2 : p_X6_isOf_b15 Q2 x0 x1 s) (hQ : ∀ (v0 : Int32) (v1 : Sg), gI v1 0 20 = w → Q1 v0 v1 → Q2 v0 v1 → G) : G := by
  unfold p_X6_isOf_b15 at h1 h2
  by_cases cc : x1 = 2
  · replace h1 := h1.1 cc
    replace h2 := h2.1 cc
    by_cases cc : x0 = 5
    · replace h1 := h1.1 cc
      replace h2 := h2.1 cc
      exact d_p_X6_isOf_b25 (w := w) (by first | exact hw | simpa [gI, setI, setR, setJ, setT] using hw) h1 h2 hQ
    · replace h1 := h1.2 cc
      replace h2 := h2.2 cc
      exact hQ _ _ (by first | exact hw | simpa [gI, setI, setR, setJ, setT] using hw) h1 h2
  · replace h1 := h1.2 cc
    replace h2 := h2.2 cc
    exact hQ _ _ (by first | exact hw | simpa [gI, setI, setR, setJ, setT] using hw) h1 h2
theorem d_p_X6_isOf {G : Prop} {Q1 Q2 : Int32 → Sg → Prop} {x0 : Int32} {x1 : Int32} {s : Sg} {w : Int32} (hw : gI s 0 20 = w) (h1 : p_X6_isOf x0 x1 s Q1) (h2 : p_X6_isOf x0 x1 s Q2) (hQ : ∀ (v0 : Int32) (v1 : Sg), gI v1 0 20 = w → Q1 v0 v1 → Q2 v0 v1 → G) : G := by
  unfold p_X6_isOf at h1 h2
  by_cases cc : x0 = x1
  · replace h1 := h1.1 cc
    replace h2 := h2.1 cc
    exact d_p_X6_isOf_b25 (w := w) (by first | exact hw | simpa [gI, setI, setR, setJ, setT] using hw) h1 h2 hQ
  · replace h1 := h1.2 cc
    replace h2 := h2.2 cc
    by_cases cc : x1 = 1
    · replace h1 := h1.1 cc
      replace h2 := h2.1 cc
      by_cases cc : x0 = 4
      · replace h1 := h1.1 cc
        replace h2 := h2.1 cc
        exact d_p_X6_isOf_b25 (w := w) (by first | exact hw | simpa [gI, setI, setR, setJ, setT] using hw) h1 h2 hQ
      · replace h1 := h1.2 cc
        replace h2 := h2.2 cc
        exact d_p_X6_isOf_b15 (w := w) (by first | exact hw | simpa [gI, setI, setR, setJ, setT] using hw) h1 h2 hQ
    · replace h1 := h1.2 cc
      replace h2 := h2.2 cc
      exact d_p_X6_isOf_b15 (w := w) (by first | exact hw | simpa [gI, setI, setR, setJ, setT] using hw) h1 h2 hQ
theorem d_p_X6_mark_b145 {G : Prop} {Q1 Q2 : Int32 → Sg → Prop} {K551 K552 : Nat → Int32 → Int32 → Int32 → Int32 → Sg → Prop} {x0 : Nat} {x1 : Int32} {x2 : Int32} {x4 : Int32} {t0 : Int32} {t1 : Int32} {s : Sg} {w : Int32} (hw : gI s 0 20 = w) (h1 : p_X6_mark_b145 Q1 K551 x0 x1 x2 x4 t0 t1 s) (h2 : p_X6_mark_b145 Q2 K552 x0 x1 x2 x4 t0 t1 s) (hQ : ∀ (v0 : Int32) (v1 : Sg), gI v1 0 20 = w → Q1 v0 v1 → Q2 v0 v1 → G) (hK55 : ∀ (v0 : Nat) (v1 : Int32) (v2 : Int32) (v3 : Int32) (v4 : Int32) (v5 : Sg), gI v5 0 20 = w → K551 v0 v1 v2 v3 v4 v5 → K552 v0 v1 v2 v3 v4 v5 → G) : G := by
  unfold p_X6_mark_b145 at h1 h2
  exact hK55 _ _ _ _ _ _ (by first | exact hw | simpa [gI, setI, setR, setJ, setT] using hw) h1 h2
theorem D_p_X6_mark_L55 {G : Prop} {Q1 Q2 : Int32 → Sg → Prop}  {w : Int32} (hQ : ∀ (v0 : Int32) (v1 : Sg), gI v1 0 20 = w → Q1 v0 v1 → Q2 v0 v1 → G) : ∀ (n m : Nat) (x0 : Nat) (x1 : Int32) (x2 : Int32) (x3 : Int32) (x4 : Int32) (s : Sg), gI s 0 20 = w → p_X6_mark_L55 Q1 n x0 x1 x2 x3 x4 s → p_X6_mark_L55 Q2 m x0 x1 x2 x3 x4 s → G := by
  intro n
  induction n with
  | zero =>
    intro m x0 x1 x2 x3 x4 s hw h1
    exact h1.elim
  | succ n ih =>
    intro m x0 x1 x2 x3 x4 s hw h1 h2
    cases m with
    | zero => exact h2.elim
    | succ m =>
      unfold p_X6_mark_L55 at h1 h2
      by_cases cc : (gI s x0 31) ≤ x4
      · replace h1 := h1.1 cc
        replace h2 := h2.1 cc
        exact hQ _ _ (by first | exact hw | simpa [gI, setI, setR, setJ, setT] using hw) h1 h2
      · replace h1 := h1.2 cc
        replace h2 := h2.2 cc
        obtain ⟨k2, e0, _, _, h1⟩ := h1
        obtain ⟨k2x, f0, _, _, h2⟩ := h2
        have ee := Option.some.inj (e0.symm.trans f0)
        subst ee
        obtain ⟨k6, e0, _, _, h1⟩ := h1
        obtain ⟨k6x, f0, _, _, h2⟩ := h2
        have ee := Option.some.inj (e0.symm.trans f0)
        subst ee
        refine d_p_X6_hemThen (w := w) (by first | exact hw | simpa [gI, setI, setR, setJ, setT] using hw) h1 h2 (fun r11 s10 hw h1 h2 => ?_)
        by_cases cc : x2 = 1
        · replace h1 := h1.1 cc
          replace h2 := h2.1 cc
          by_cases cc : ((gR s k2 ((6 * x4) + x1).toNatClampNeg) - r11) < 2
          · replace h1 := h1.1 cc
            replace h2 := h2.1 cc
            exact d_p_X6_mark_b145 (w := w) (by first | exact hw | simpa [gI, setI, setR, setJ, setT] using hw) h1 h2 hQ (fun _ _ _ _ _ _ hw h1 h2 => ih _ _ _ _ _ _ _ hw h1 h2)
          · replace h1 := h1.2 cc
            replace h2 := h2.2 cc
            exact d_p_X6_mark_b145 (w := w) (by first | exact hw | simpa [gI, setI, setR, setJ, setT] using hw) h1 h2 hQ (fun _ _ _ _ _ _ hw h1 h2 => ih _ _ _ _ _ _ _ hw h1 h2)
        · replace h1 := h1.2 cc
          replace h2 := h2.2 cc
          by_cases cc : x2 = 2
          · replace h1 := h1.1 cc
            replace h2 := h2.1 cc
            exact d_p_X6_mark_b145 (w := w) (by first | exact hw | simpa [gI, setI, setR, setJ, setT] using hw) h1 h2 hQ (fun _ _ _ _ _ _ hw h1 h2 => ih _ _ _ _ _ _ _ hw h1 h2)
          · replace h1 := h1.2 cc
            replace h2 := h2.2 cc
            by_cases cc : x2 = 3
            · replace h1 := h1.1 cc
              replace h2 := h2.1 cc
              by_cases cc : 0 ≤ ((gR s k2 ((6 * x4) + x1).toNatClampNeg) - r11)
              · replace h1 := h1.1 cc
                replace h2 := h2.1 cc
                exact d_p_X6_mark_b145 (w := w) (by first | exact hw | simpa [gI, setI, setR, setJ, setT] using hw) h1 h2 hQ (fun _ _ _ _ _ _ hw h1 h2 => ih _ _ _ _ _ _ _ hw h1 h2)
              · replace h1 := h1.2 cc
                replace h2 := h2.2 cc
                exact d_p_X6_mark_b145 (w := w) (by first | exact hw | simpa [gI, setI, setR, setJ, setT] using hw) h1 h2 hQ (fun _ _ _ _ _ _ hw h1 h2 => ih _ _ _ _ _ _ _ hw h1 h2)
            · replace h1 := h1.2 cc
              replace h2 := h2.2 cc
              exact d_p_X6_mark_b145 (w := w) (by first | exact hw | simpa [gI, setI, setR, setJ, setT] using hw) h1 h2 hQ (fun _ _ _ _ _ _ hw h1 h2 => ih _ _ _ _ _ _ _ hw h1 h2)
theorem d_p_X6_mark_L55 {G : Prop} {Q1 Q2 : Int32 → Sg → Prop}  {n m : Nat} {x0 : Nat} {x1 : Int32} {x2 : Int32} {x3 : Int32} {x4 : Int32} {s : Sg} {w : Int32} (hw : gI s 0 20 = w) (h1 : p_X6_mark_L55 Q1 n x0 x1 x2 x3 x4 s) (h2 : p_X6_mark_L55 Q2 m x0 x1 x2 x3 x4 s) (hQ : ∀ (v0 : Int32) (v1 : Sg), gI v1 0 20 = w → Q1 v0 v1 → Q2 v0 v1 → G) : G := D_p_X6_mark_L55 hQ n m x0 x1 x2 x3 x4 s hw h1 h2
theorem d_p_X6_mark {G : Prop} {Q1 Q2 : Int32 → Sg → Prop} {x0 : Nat} {x1 : Int32} {x2 : Int32} {s : Sg} {w : Int32} (hw : gI s 0 20 = w) (h1 : p_X6_mark x0 x1 x2 s Q1) (h2 : p_X6_mark x0 x1 x2 s Q2) (hQ : ∀ (v0 : Int32) (v1 : Sg), gI v1 0 20 = w → Q1 v0 v1 → Q2 v0 v1 → G) : G := by
  unfold p_X6_mark at h1 h2
  refine d_p_X6_isWoman (w := w) (by first | exact hw | simpa [gI, setI, setR, setJ, setT] using hw) h1 h2 (fun r2 s1 hw h1 h2 => ?_)
  by_cases cc : r2 = 0
  · replace h1 := h1.1 cc
    replace h2 := h2.1 cc
    exact hQ _ _ (by first | exact hw | simpa [gI, setI, setR, setJ, setT] using hw) h1 h2
  · replace h1 := h1.2 cc
    replace h2 := h2.2 cc
    refine d_p_X6_in (w := w) (by first | exact hw | simpa [gI, setI, setR, setJ, setT] using hw) h1 h2 (fun r5 s4 hw h1 h2 => ?_)
    by_cases cc : r5 = 0
    · replace h1 := h1.1 cc
      replace h2 := h2.1 cc
      exact hQ _ _ (by first | exact hw | simpa [gI, setI, setR, setJ, setT] using hw) h1 h2
    · replace h1 := h1.2 cc
      replace h2 := h2.2 cc
      obtain ⟨k7, e0, _, _, h1⟩ := h1
      obtain ⟨k7x, f0, _, _, h2⟩ := h2
      have ee := Option.some.inj (e0.symm.trans f0)
      subst ee
      refine d_p_X6_isOf (w := w) (by first | exact hw | simpa [gI, setI, setR, setJ, setT] using hw) h1 h2 (fun r12 s11 hw h1 h2 => ?_)
      by_cases cc : r12 = 0
      · replace h1 := h1.1 cc
        replace h2 := h2.1 cc
        refine d_p_X6_refuse (w := w) (by first | exact hw | simpa [gI, setI, setR, setJ, setT] using hw) h1 h2 (fun r17 s16 hw h1 h2 => ?_)
        exact hQ _ _ (by first | exact hw | simpa [gI, setI, setR, setJ, setT] using hw) h1 h2
      · replace h1 := h1.2 cc
        replace h2 := h2.2 cc
        by_cases cc : x2 = 5
        · replace h1 := h1.1 cc
          replace h2 := h2.1 cc
          exact hQ _ _ (by first | exact hw | simpa [gI, setI, setR, setJ, setT] using hw) h1 h2
        · replace h1 := h1.2 cc
          replace h2 := h2.2 cc
          obtain ⟨n15, h1⟩ := h1
          obtain ⟨n15x, h2⟩ := h2
          exact d_p_X6_mark_L55 (w := w) (by first | exact hw | simpa [gI, setI, setR, setJ, setT] using hw) h1 h2 hQ
theorem d_p_X6_isYear {G : Prop} {Q1 Q2 : Int32 → Sg → Prop} {x0 : Nat} {x1 : Int32} {s : Sg} {w : Int32} (hw : gI s 0 20 = w) (h1 : p_X6_isYear x0 x1 s Q1) (h2 : p_X6_isYear x0 x1 s Q2) (hQ : ∀ (v0 : Int32) (v1 : Sg), gI v1 0 20 = w → Q1 v0 v1 → Q2 v0 v1 → G) : G := by
  unfold p_X6_isYear at h1 h2
  refine d_p_X6_in (w := w) (by first | exact hw | simpa [gI, setI, setR, setJ, setT] using hw) h1 h2 (fun r2 s1 hw h1 h2 => ?_)
  obtain ⟨_, h1⟩ := h1
  obtain ⟨_, h2⟩ := h2
  exact hQ _ _ (by first | exact hw | simpa [gI, setI, setR, setJ, setT] using hw) h1 h2
theorem d_p_X6_hem {G : Prop} {Q1 Q2 : Int32 → Sg → Prop} {x0 : Nat} {x1 : Int32} {x2 : Int32} {s : Sg} {w : Int32} (hw : gI s 0 20 = w) (h1 : p_X6_hem x0 x1 x2 s Q1) (h2 : p_X6_hem x0 x1 x2 s Q2) (hQ : ∀ (v0 : Int32) (v1 : Sg), gI v1 0 20 = w → Q1 v0 v1 → Q2 v0 v1 → G) : G := by
  unfold p_X6_hem at h1 h2
  refine d_p_X6_isWoman (w := w) (by first | exact hw | simpa [gI, setI, setR, setJ, setT] using hw) h1 h2 (fun r2 s1 hw h1 h2 => ?_)
  by_cases cc : r2 = 0
  · replace h1 := h1.1 cc
    replace h2 := h2.1 cc
    exact hQ _ _ (by first | exact hw | simpa [gI, setI, setR, setJ, setT] using hw) h1 h2
  · replace h1 := h1.2 cc
    replace h2 := h2.2 cc
    refine d_p_X6_isYear (w := w) (by first | exact hw | simpa [gI, setI, setR, setJ, setT] using hw) h1 h2 (fun r5 s4 hw h1 h2 => ?_)
    by_cases cc : r5 = 0
    · replace h1 := h1.1 cc
      replace h2 := h2.1 cc
      exact hQ _ _ (by first | exact hw | simpa [gI, setI, setR, setJ, setT] using hw) h1 h2
    · replace h1 := h1.2 cc
      replace h2 := h2.2 cc
      obtain ⟨k7, e0, _, _, h1⟩ := h1
      obtain ⟨k7x, f0, _, _, h2⟩ := h2
      have ee := Option.some.inj (e0.symm.trans f0)
      subst ee
      exact hQ _ _ (by first | exact hw | simpa [gI, setI, setR, setJ, setT] using hw) h1 h2
theorem d_p_X6_would {G : Prop} {Q1 Q2 : Int32 → Sg → Prop} {x0 : Nat} {x1 : Int32} {x2 : Int32} {s : Sg} {w : Int32} (hw : gI s 0 20 = w) (h1 : p_X6_would x0 x1 x2 s Q1) (h2 : p_X6_would x0 x1 x2 s Q2) (hQ : ∀ (v0 : Int32) (v1 : Sg), gI v1 0 20 = w → Q1 v0 v1 → Q2 v0 v1 → G) : G := by
  unfold p_X6_would at h1 h2
  refine d_p_X6_isWoman (w := w) (by first | exact hw | simpa [gI, setI, setR, setJ, setT] using hw) h1 h2 (fun r2 s1 hw h1 h2 => ?_)
  by_cases cc : r2 = 0
  · replace h1 := h1.1 cc
    replace h2 := h2.1 cc
    exact hQ _ _ (by first | exact hw | simpa [gI, setI, setR, setJ, setT] using hw) h1 h2
  · replace h1 := h1.2 cc
    replace h2 := h2.2 cc
    refine d_p_X6_isHeight (w := w) (by first | exact hw | simpa [gI, setI, setR, setJ, setT] using hw) h1 h2 (fun r5 s4 hw h1 h2 => ?_)
    by_cases cc : r5 = 0
    · replace h1 := h1.1 cc
      replace h2 := h2.1 cc
      exact hQ _ _ (by first | exact hw | simpa [gI, setI, setR, setJ, setT] using hw) h1 h2
    · replace h1 := h1.2 cc
      replace h2 := h2.2 cc
      obtain ⟨k7, e0, _, _, h1⟩ := h1
      obtain ⟨k7x, f0, _, _, h2⟩ := h2
      have ee := Option.some.inj (e0.symm.trans f0)
      subst ee
      refine d_p_X6_hemNow (w := w) (by first | exact hw | simpa [gI, setI, setR, setJ, setT] using hw) h1 h2 (fun r12 s11 hw h1 h2 => ?_)
      exact hQ _ _ (by first | exact hw | simpa [gI, setI, setR, setJ, setT] using hw) h1 h2
theorem d_p_X6_flood {G : Prop} {Q1 Q2 : Int32 → Sg → Prop} {x0 : Nat} {x1 : Int32} {s : Sg} {w : Int32} (hw : gI s 0 20 = w) (h1 : p_X6_flood x0 x1 s Q1) (h2 : p_X6_flood x0 x1 s Q2) (hQ : ∀ (v0 : Int32) (v1 : Sg), gI v1 0 20 = w → Q1 v0 v1 → Q2 v0 v1 → G) : G := by
  unfold p_X6_flood at h1 h2
  refine d_p_X6_isHeight (w := w) (by first | exact hw | simpa [gI, setI, setR, setJ, setT] using hw) h1 h2 (fun r2 s1 hw h1 h2 => ?_)
  by_cases cc : r2 = 0
  · replace h1 := h1.1 cc
    replace h2 := h2.1 cc
    exact hQ _ _ (by first | exact hw | simpa [gI, setI, setR, setJ, setT] using hw) h1 h2
  · replace h1 := h1.2 cc
    replace h2 := h2.2 cc
    by_cases cc : (gI s1 x0 20) = 0
    · replace h1 := h1.1 cc
      replace h2 := h2.1 cc
      exact hQ _ _ (by first | exact hw | simpa [gI, setI, setR, setJ, setT] using hw) h1 h2
    · replace h1 := h1.2 cc
      replace h2 := h2.2 cc
      by_cases cc : (gI s1 x0 31) = 8
      · replace h1 := h1.1 cc
        replace h2 := h2.1 cc
        exact hQ _ _ (by first | exact hw | simpa [gI, setI, setR, setJ, setT] using hw) h1 h2
      · replace h1 := h1.2 cc
        replace h2 := h2.2 cc
        by_cases cc : (gI s1 x0 36) = 40
        · replace h1 := h1.1 cc
          replace h2 := h2.1 cc
          exact hQ _ _ (by first | exact hw | simpa [gI, setI, setR, setJ, setT] using hw) h1 h2
        · replace h1 := h1.2 cc
          replace h2 := h2.2 cc
          refine d_p_X6_does (w := w) (by first | exact hw | simpa [gI, setI, setR, setJ, setT] using hw) h1 h2 (fun s7 hw h1 h2 => ?_)
          refine d_p_X6_manyWet (w := w) (by first | exact hw | simpa [gI, setI, setR, setJ, setT] using hw) h1 h2 (fun r9 s8 hw h1 h2 => ?_)
          exact hQ _ _ (by first | exact hw | simpa [gI, setI, setR, setJ, setT] using hw) h1 h2
theorem d_p_X6_move {G : Prop} {Q1 Q2 : Int32 → Sg → Prop} {x0 : Nat} {x1 : Int32} {x2 : Int32} {s : Sg} {w : Int32} (hw : gI s 0 20 = w) (h1 : p_X6_move x0 x1 x2 s Q1) (h2 : p_X6_move x0 x1 x2 s Q2) (hQ : ∀ (v0 : Int32) (v1 : Sg), gI v1 0 20 = w → Q1 v0 v1 → Q2 v0 v1 → G) : G := by
  unfold p_X6_move at h1 h2
  refine d_p_X6_isWoman (w := w) (by first | exact hw | simpa [gI, setI, setR, setJ, setT] using hw) h1 h2 (fun r2 s1 hw h1 h2 => ?_)
  by_cases cc : r2 = 0
  · replace h1 := h1.1 cc
    replace h2 := h2.1 cc
    exact hQ _ _ (by first | exact hw | simpa [gI, setI, setR, setJ, setT] using hw) h1 h2
  · replace h1 := h1.2 cc
    replace h2 := h2.2 cc
    refine d_p_X6_isPlace (w := w) (by first | exact hw | simpa [gI, setI, setR, setJ, setT] using hw) h1 h2 (fun r5 s4 hw h1 h2 => ?_)
    by_cases cc : r5 = 0
    · replace h1 := h1.1 cc
      replace h2 := h2.1 cc
      exact hQ _ _ (by first | exact hw | simpa [gI, setI, setR, setJ, setT] using hw) h1 h2
    · replace h1 := h1.2 cc
      replace h2 := h2.2 cc
      obtain ⟨k7, e0, _, _, h1⟩ := h1
      obtain ⟨k7x, f0, _, _, h2⟩ := h2
      have ee := Option.some.inj (e0.symm.trans f0)
      subst ee
      by_cases cc : (gR s4 k7 x1.toNatClampNeg) = x2
      · replace h1 := h1.1 cc
        replace h2 := h2.1 cc
        exact hQ _ _ (by first | exact hw | simpa [gI, setI, setR, setJ, setT] using hw) h1 h2
      · replace h1 := h1.2 cc
        replace h2 := h2.2 cc
        by_cases cc : (gI s4 x0 36) = 40
        · replace h1 := h1.1 cc
          replace h2 := h2.1 cc
          exact hQ _ _ (by first | exact hw | simpa [gI, setI, setR, setJ, setT] using hw) h1 h2
        · replace h1 := h1.2 cc
          replace h2 := h2.2 cc
          refine d_p_X6_does (w := w) (by first | exact hw | simpa [gI, setI, setR, setJ, setT] using hw) h1 h2 (fun s13 hw h1 h2 => ?_)
          exact hQ _ _ (by first | exact hw | simpa [gI, setI, setR, setJ, setT] using hw) h1 h2
theorem d_p_X6_dyke {G : Prop} {Q1 Q2 : Int32 → Sg → Prop} {x0 : Nat} {x1 : Int32} {s : Sg} {w : Int32} (hw : gI s 0 20 = w) (h1 : p_X6_dyke x0 x1 s Q1) (h2 : p_X6_dyke x0 x1 s Q2) (hQ : ∀ (v0 : Int32) (v1 : Sg), gI v1 0 20 = w → Q1 v0 v1 → Q2 v0 v1 → G) : G := by
  unfold p_X6_dyke at h1 h2
  refine d_p_X6_isPlace (w := w) (by first | exact hw | simpa [gI, setI, setR, setJ, setT] using hw) h1 h2 (fun r2 s1 hw h1 h2 => ?_)
  by_cases cc : r2 = 0
  · replace h1 := h1.1 cc
    replace h2 := h2.1 cc
    exact hQ _ _ (by first | exact hw | simpa [gI, setI, setR, setJ, setT] using hw) h1 h2
  · replace h1 := h1.2 cc
    replace h2 := h2.2 cc
    by_cases cc : (gI s1 x0 20) = 0
    · replace h1 := h1.1 cc
      replace h2 := h2.1 cc
      exact hQ _ _ (by first | exact hw | simpa [gI, setI, setR, setJ, setT] using hw) h1 h2
    · replace h1 := h1.2 cc
      replace h2 := h2.2 cc
      obtain ⟨k5, e0, _, _, h1⟩ := h1
      obtain ⟨k5x, f0, _, _, h2⟩ := h2
      have ee := Option.some.inj (e0.symm.trans f0)
      subst ee
      by_cases cc : (gR s1 k5 x1.toNatClampNeg) = 9
      · replace h1 := h1.1 cc
        replace h2 := h2.1 cc
        exact hQ _ _ (by first | exact hw | simpa [gI, setI, setR, setJ, setT] using hw) h1 h2
      · replace h1 := h1.2 cc
        replace h2 := h2.2 cc
        by_cases cc : (gI s1 x0 30) = 0
        · replace h1 := h1.1 cc
          replace h2 := h2.1 cc
          exact hQ _ _ (by first | exact hw | simpa [gI, setI, setR, setJ, setT] using hw) h1 h2
        · replace h1 := h1.2 cc
          replace h2 := h2.2 cc
          by_cases cc : (gI s1 x0 36) = 40
          · replace h1 := h1.1 cc
            replace h2 := h2.1 cc
            exact hQ _ _ (by first | exact hw | simpa [gI, setI, setR, setJ, setT] using hw) h1 h2
          · replace h1 := h1.2 cc
            replace h2 := h2.2 cc
            refine d_p_X6_does (w := w) (by first | exact hw | simpa [gI, setI, setR, setJ, setT] using hw) h1 h2 (fun s12 hw h1 h2 => ?_)
            obtain ⟨k13, e0, _, _, h1⟩ := h1
            obtain ⟨k13x, f0, _, _, h2⟩ := h2
            have ee := Option.some.inj (e0.symm.trans f0)
            subst ee
            exact hQ _ _ (by first | exact hw | simpa [gI, setI, setR, setJ, setT] using hw) h1 h2
theorem d_p_X6_tuck {G : Prop} {Q1 Q2 : Int32 → Sg → Prop} {x0 : Nat} {x1 : Int32} {s : Sg} {w : Int32} (hw : gI s 0 20 = w) (h1 : p_X6_tuck x0 x1 s Q1) (h2 : p_X6_tuck x0 x1 s Q2) (hQ : ∀ (v0 : Int32) (v1 : Sg), gI v1 0 20 = w → Q1 v0 v1 → Q2 v0 v1 → G) : G := by
  unfold p_X6_tuck at h1 h2
  refine d_p_X6_isWoman (w := w) (by first | exact hw | simpa [gI, setI, setR, setJ, setT] using hw) h1 h2 (fun r2 s1 hw h1 h2 => ?_)
  by_cases cc : r2 = 0
  · replace h1 := h1.1 cc
    replace h2 := h2.1 cc
    exact hQ _ _ (by first | exact hw | simpa [gI, setI, setR, setJ, setT] using hw) h1 h2
  · replace h1 := h1.2 cc
    replace h2 := h2.2 cc
    obtain ⟨k4, e0, _, _, h1⟩ := h1
    obtain ⟨k4x, f0, _, _, h2⟩ := h2
    have ee := Option.some.inj (e0.symm.trans f0)
    subst ee
    by_cases cc : (gR s1 k4 x1.toNatClampNeg) = 3
    · replace h1 := h1.1 cc
      replace h2 := h2.1 cc
      exact hQ _ _ (by first | exact hw | simpa [gI, setI, setR, setJ, setT] using hw) h1 h2
    · replace h1 := h1.2 cc
      replace h2 := h2.2 cc
      by_cases cc : (gI s1 x0 36) = 40
      · replace h1 := h1.1 cc
        replace h2 := h2.1 cc
        exact hQ _ _ (by first | exact hw | simpa [gI, setI, setR, setJ, setT] using hw) h1 h2
      · replace h1 := h1.2 cc
        replace h2 := h2.2 cc
        refine d_p_X6_does (w := w) (by first | exact hw | simpa [gI, setI, setR, setJ, setT] using hw) h1 h2 (fun s10 hw h1 h2 => ?_)
        obtain ⟨k11, e0, _, _, h1⟩ := h1
        obtain ⟨k11x, f0, _, _, h2⟩ := h2
        have ee := Option.some.inj (e0.symm.trans f0)
        subst ee
        exact hQ _ _ (by first | exact hw | simpa [gI, setI, setR, setJ, setT] using hw) h1 h2
theorem d_p_X6_undo {G : Prop} {Q1 Q2 : Int32 → Sg → Prop} {x0 : Nat} {x1 : Int32} {s : Sg} {w : Int32} (hw : gI s 0 20 = w) (h1 : p_X6_undo x0 x1 s Q1) (h2 : p_X6_undo x0 x1 s Q2) (hQ : ∀ (v0 : Int32) (v1 : Sg), gI v1 0 20 = w → Q1 v0 v1 → Q2 v0 v1 → G) : G := by
  unfold p_X6_undo at h1 h2
  refine d_p_X6_in (w := w) (by first | exact hw | simpa [gI, setI, setR, setJ, setT] using hw) h1 h2 (fun r2 s1 hw h1 h2 => ?_)
  by_cases cc : r2 = 0
  · replace h1 := h1.1 cc
    replace h2 := h2.1 cc
    exact hQ _ _ (by first | exact hw | simpa [gI, setI, setR, setJ, setT] using hw) h1 h2
  · replace h1 := h1.2 cc
    replace h2 := h2.2 cc
    refine d_p_X6_goThrough (w := w) (by first | exact hw | simpa [gI, setI, setR, setJ, setT] using hw) h1 h2 (fun s4 hw h1 h2 => ?_)
    exact hQ _ _ (by first | exact hw | simpa [gI, setI, setR, setJ, setT] using hw) h1 h2
theorem D_p_X6_keep_L33 {G : Prop} {Q1 Q2 : Int32 → Sg → Prop}  {w : Int32} (hQ : ∀ (v0 : Int32) (v1 : Sg), gI v1 0 20 = w → Q1 v0 v1 → Q2 v0 v1 → G) : ∀ (n m : Nat) (x0 : Nat) (x1 : Int32) (x2 : Int32) (s : Sg), gI s 0 20 = w → p_X6_keep_L33 Q1 n x0 x1 x2 s → p_X6_keep_L33 Q2 m x0 x1 x2 s → G := by
  intro n
  induction n with
  | zero =>
    intro m x0 x1 x2 s hw h1
    exact h1.elim
  | succ n ih =>
    intro m x0 x1 x2 s hw h1 h2
    cases m with
    | zero => exact h2.elim
    | succ m =>
      unfold p_X6_keep_L33 at h1 h2
      by_cases cc : 120 ≤ x2
      · replace h1 := h1.1 cc
        replace h2 := h2.1 cc
        exact hQ _ _ (by first | exact hw | simpa [gI, setI, setR, setJ, setT] using hw) h1 h2
      · replace h1 := h1.2 cc
        replace h2 := h2.2 cc
        obtain ⟨k2, e0, _, _, h1⟩ := h1
        obtain ⟨k2x, f0, _, _, h2⟩ := h2
        have ee := Option.some.inj (e0.symm.trans f0)
        subst ee
        obtain ⟨k6, e0, _, _, h1⟩ := h1
        obtain ⟨k6x, f0, _, _, h2⟩ := h2
        have ee := Option.some.inj (e0.symm.trans f0)
        subst ee
        exact ih _ _ _ _ _ (by first | exact hw | simpa [gI, setI, setR, setJ, setT] using hw) h1 h2
theorem d_p_X6_keep_L33 {G : Prop} {Q1 Q2 : Int32 → Sg → Prop}  {n m : Nat} {x0 : Nat} {x1 : Int32} {x2 : Int32} {s : Sg} {w : Int32} (hw : gI s 0 20 = w) (h1 : p_X6_keep_L33 Q1 n x0 x1 x2 s) (h2 : p_X6_keep_L33 Q2 m x0 x1 x2 s) (hQ : ∀ (v0 : Int32) (v1 : Sg), gI v1 0 20 = w → Q1 v0 v1 → Q2 v0 v1 → G) : G := D_p_X6_keep_L33 hQ n m x0 x1 x2 s hw h1 h2
theorem d_p_X6_keep {G : Prop} {Q1 Q2 : Int32 → Sg → Prop} {x0 : Nat} {x1 : Int32} {s : Sg} {w : Int32} (hw : gI s 0 20 = w) (h1 : p_X6_keep x0 x1 s Q1) (h2 : p_X6_keep x0 x1 s Q2) (hQ : ∀ (v0 : Int32) (v1 : Sg), gI v1 0 20 = w → Q1 v0 v1 → Q2 v0 v1 → G) : G := by
  unfold p_X6_keep at h1 h2
  refine d_p_X6_in (w := w) (by first | exact hw | simpa [gI, setI, setR, setJ, setT] using hw) h1 h2 (fun r2 s1 hw h1 h2 => ?_)
  by_cases cc : r2 = 0
  · replace h1 := h1.1 cc
    replace h2 := h2.1 cc
    exact hQ _ _ (by first | exact hw | simpa [gI, setI, setR, setJ, setT] using hw) h1 h2
  · replace h1 := h1.2 cc
    replace h2 := h2.2 cc
    by_cases cc : (gI s1 x0 20) = 0
    · replace h1 := h1.1 cc
      replace h2 := h2.1 cc
      exact hQ _ _ (by first | exact hw | simpa [gI, setI, setR, setJ, setT] using hw) h1 h2
    · replace h1 := h1.2 cc
      replace h2 := h2.2 cc
      obtain ⟨k5, e0, _, _, h1⟩ := h1
      obtain ⟨k5x, f0, _, _, h2⟩ := h2
      have ee := Option.some.inj (e0.symm.trans f0)
      subst ee
      obtain ⟨n9, h1⟩ := h1
      obtain ⟨n9x, h2⟩ := h2
      exact d_p_X6_keep_L33 (w := w) (by first | exact hw | simpa [gI, setI, setR, setJ, setT] using hw) h1 h2 hQ
theorem D_p_X6_on_L38 {G : Prop} {Q1 Q2 : Int32 → Sg → Prop}  {w : Int32} (hQ : ∀ (v0 : Int32) (v1 : Sg), gI v1 0 20 = w → Q1 v0 v1 → Q2 v0 v1 → G) : ∀ (n m : Nat) (x0 : Nat) (x1 : Int32) (x2 : Int32) (s : Sg), gI s 0 20 = w → p_X6_on_L38 Q1 n x0 x1 x2 s → p_X6_on_L38 Q2 m x0 x1 x2 s → G := by
  intro n
  induction n with
  | zero =>
    intro m x0 x1 x2 s hw h1
    exact h1.elim
  | succ n ih =>
    intro m x0 x1 x2 s hw h1 h2
    cases m with
    | zero => exact h2.elim
    | succ m =>
      unfold p_X6_on_L38 at h1 h2
      by_cases cc : 120 ≤ x2
      · replace h1 := h1.1 cc
        replace h2 := h2.1 cc
        refine d_p_X6_goThrough (w := w) (by first | exact hw | simpa [gI, setI, setR, setJ, setT] using hw) h1 h2 (fun s2 hw h1 h2 => ?_)
        exact hQ _ _ (by first | exact hw | simpa [gI, setI, setR, setJ, setT] using hw) h1 h2
      · replace h1 := h1.2 cc
        replace h2 := h2.2 cc
        obtain ⟨k3, e0, _, _, h1⟩ := h1
        obtain ⟨k3x, f0, _, _, h2⟩ := h2
        have ee := Option.some.inj (e0.symm.trans f0)
        subst ee
        obtain ⟨k7, e0, _, _, h1⟩ := h1
        obtain ⟨k7x, f0, _, _, h2⟩ := h2
        have ee := Option.some.inj (e0.symm.trans f0)
        subst ee
        exact ih _ _ _ _ _ (by first | exact hw | simpa [gI, setI, setR, setJ, setT] using hw) h1 h2
theorem d_p_X6_on_L38 {G : Prop} {Q1 Q2 : Int32 → Sg → Prop}  {n m : Nat} {x0 : Nat} {x1 : Int32} {x2 : Int32} {s : Sg} {w : Int32} (hw : gI s 0 20 = w) (h1 : p_X6_on_L38 Q1 n x0 x1 x2 s) (h2 : p_X6_on_L38 Q2 m x0 x1 x2 s) (hQ : ∀ (v0 : Int32) (v1 : Sg), gI v1 0 20 = w → Q1 v0 v1 → Q2 v0 v1 → G) : G := D_p_X6_on_L38 hQ n m x0 x1 x2 s hw h1 h2
theorem d_p_X6_on {G : Prop} {Q1 Q2 : Int32 → Sg → Prop} {x0 : Nat} {x1 : Int32} {s : Sg} {w : Int32} (hw : gI s 0 20 = w) (h1 : p_X6_on x0 x1 s Q1) (h2 : p_X6_on x0 x1 s Q2) (hQ : ∀ (v0 : Int32) (v1 : Sg), gI v1 0 20 = w → Q1 v0 v1 → Q2 v0 v1 → G) : G := by
  unfold p_X6_on at h1 h2
  refine d_p_X6_in (w := w) (by first | exact hw | simpa [gI, setI, setR, setJ, setT] using hw) h1 h2 (fun r2 s1 hw h1 h2 => ?_)
  by_cases cc : r2 = 0
  · replace h1 := h1.1 cc
    replace h2 := h2.1 cc
    exact hQ _ _ (by first | exact hw | simpa [gI, setI, setR, setJ, setT] using hw) h1 h2
  · replace h1 := h1.2 cc
    replace h2 := h2.2 cc
    obtain ⟨k4, e0, _, _, h1⟩ := h1
    obtain ⟨k4x, f0, _, _, h2⟩ := h2
    have ee := Option.some.inj (e0.symm.trans f0)
    subst ee
    by_cases cc : 0 ≤ (gR s1 k4 x1.toNatClampNeg)
    · replace h1 := h1.1 cc
      replace h2 := h2.1 cc
      obtain ⟨k9, e0, _, _, h1⟩ := h1
      obtain ⟨k9x, f0, _, _, h2⟩ := h2
      have ee := Option.some.inj (e0.symm.trans f0)
      subst ee
      obtain ⟨n13, h1⟩ := h1
      obtain ⟨n13x, h2⟩ := h2
      exact d_p_X6_on_L38 (w := w) (by first | exact hw | simpa [gI, setI, setR, setJ, setT] using hw) h1 h2 hQ
    · replace h1 := h1.2 cc
      replace h2 := h2.2 cc
      refine d_p_X6_refuse (w := w) (by first | exact hw | simpa [gI, setI, setR, setJ, setT] using hw) h1 h2 (fun r15 s14 hw h1 h2 => ?_)
      exact hQ _ _ (by first | exact hw | simpa [gI, setI, setR, setJ, setT] using hw) h1 h2
theorem d_p_X6_all {G : Prop} {Q1 Q2 : Int32 → Sg → Prop} {x0 : Nat} {s : Sg} {w : Int32} (hw : gI s 0 20 = w) (h1 : p_X6_all x0 s Q1) (h2 : p_X6_all x0 s Q2) (hQ : ∀ (v0 : Int32) (v1 : Sg), gI v1 0 20 = w → Q1 v0 v1 → Q2 v0 v1 → G) : G := by
  unfold p_X6_all at h1 h2
  exact hQ _ _ (by first | exact hw | simpa [gI, setI, setR, setJ, setT] using hw) h1 h2
theorem D_p_X6_manyOf_L4 {G : Prop} {Q1 Q2 : Int32 → Sg → Prop}  {w : Int32} (hQ : ∀ (v0 : Int32) (v1 : Sg), gI v1 0 20 = w → Q1 v0 v1 → Q2 v0 v1 → G) : ∀ (n m : Nat) (x0 : Int32) (x1 : Int32) (x2 : Int32) (s : Sg), gI s 0 20 = w → p_X6_manyOf_L4 Q1 n x0 x1 x2 s → p_X6_manyOf_L4 Q2 m x0 x1 x2 s → G := by
  intro n
  induction n with
  | zero =>
    intro m x0 x1 x2 s hw h1
    exact h1.elim
  | succ n ih =>
    intro m x0 x1 x2 s hw h1 h2
    cases m with
    | zero => exact h2.elim
    | succ m =>
      unfold p_X6_manyOf_L4 at h1 h2
      by_cases cc : 20 < x2
      · replace h1 := h1.1 cc
        replace h2 := h2.1 cc
        exact hQ _ _ (by first | exact hw | simpa [gI, setI, setR, setJ, setT] using hw) h1 h2
      · replace h1 := h1.2 cc
        replace h2 := h2.2 cc
        exact ih _ _ _ _ _ (by first | exact hw | simpa [gI, setI, setR, setJ, setT] using hw) h1 h2
theorem d_p_X6_manyOf_L4 {G : Prop} {Q1 Q2 : Int32 → Sg → Prop}  {n m : Nat} {x0 : Int32} {x1 : Int32} {x2 : Int32} {s : Sg} {w : Int32} (hw : gI s 0 20 = w) (h1 : p_X6_manyOf_L4 Q1 n x0 x1 x2 s) (h2 : p_X6_manyOf_L4 Q2 m x0 x1 x2 s) (hQ : ∀ (v0 : Int32) (v1 : Sg), gI v1 0 20 = w → Q1 v0 v1 → Q2 v0 v1 → G) : G := D_p_X6_manyOf_L4 hQ n m x0 x1 x2 s hw h1 h2
theorem d_p_X6_manyOf {G : Prop} {Q1 Q2 : Int32 → Sg → Prop} {x0 : Int32} {s : Sg} {w : Int32} (hw : gI s 0 20 = w) (h1 : p_X6_manyOf x0 s Q1) (h2 : p_X6_manyOf x0 s Q2) (hQ : ∀ (v0 : Int32) (v1 : Sg), gI v1 0 20 = w → Q1 v0 v1 → Q2 v0 v1 → G) : G := by
  unfold p_X6_manyOf at h1 h2
  obtain ⟨n1, h1⟩ := h1
  obtain ⟨n1x, h2⟩ := h2
  exact d_p_X6_manyOf_L4 (w := w) (by first | exact hw | simpa [gI, setI, setR, setJ, setT] using hw) h1 h2 hQ
theorem d_p_X6_known_b77 {G : Prop} {Q1 Q2 : Int32 → Sg → Prop} {K181 K182 : Nat → Int32 → Int32 → Int32 → Int32 → Int32 → Int32 → Sg → Prop} {x0 : Nat} {x1 : Int32} {x2 : Int32} {x3 : Int32} {x4 : Int32} {x6 : Int32} {t0 : Int32} {s : Sg} {w : Int32} (hw : gI s 0 20 = w) (h1 : p_X6_known_b77 Q1 K181 x0 x1 x2 x3 x4 x6 t0 s) (h2 : p_X6_known_b77 Q2 K182 x0 x1 x2 x3 x4 x6 t0 s) (hQ : ∀ (v0 : Int32) (v1 : Sg), gI v1 0 20 = w → Q1 v0 v1 → Q2 v0 v1 → G) (hK18 : ∀ (v0 : Nat) (v1 : Int32) (v2 : Int32) (v3 : Int32) (v4 : Int32) (v5 : Int32) (v6 : Int32) (v7 : Sg), gI v7 0 20 = w → K181 v0 v1 v2 v3 v4 v5 v6 v7 → K182 v0 v1 v2 v3 v4 v5 v6 v7 → G) : G := by
  unfold p_X6_known_b77 at h1 h2
  exact hK18 _ _ _ _ _ _ _ _ (by first | exact hw | simpa [gI, setI, setR, setJ, setT] using hw) h1 h2
theorem d_p_X6_known_b72 {G : Prop} {Q1 Q2 : Int32 → Sg → Prop} {K181 K182 : Nat → Int32 → Int32 → Int32 → Int32 → Int32 → Int32 → Sg → Prop} {x0 : Nat} {x1 : Int32} {x2 : Int32} {x3 : Int32} {x4 : Int32} {x6 : Int32} {s : Sg} {w : Int32} (hw : gI s 0 20 = w) (h1 : p_X6_known_b72 Q1 K181 x0 x1 x2 x3 x4 x6 s) (h2 : p_X6_known_b72 Q2 K182 x0 x1 x2 x3 x4 x6 s) (hQ : ∀ (v0 : Int32) (v1 : Sg), gI v1 0 20 = w → Q1 v0 v1 → Q2 v0 v1 → G) (hK18 : ∀ (v0 : Nat) (v1 : Int32) (v2 : Int32) (v3 : Int32) (v4 : Int32) (v5 : Int32) (v6 : Int32) (v7 : Sg), gI v7 0 20 = w → K181 v0 v1 v2 v3 v4 v5 v6 v7 → K182 v0 v1 v2 v3 v4 v5 v6 v7 → G) : G := by
  unfold p_X6_known_b72 at h1 h2
  exact d_p_X6_known_b77 (w := w) (by first | exact hw | simpa [gI, setI, setR, setJ, setT] using hw) h1 h2 hQ hK18
theorem d_p_X6_known_b76 {G : Prop} {Q1 Q2 : Int32 → Sg → Prop} {K181 K182 : Nat → Int32 → Int32 → Int32 → Int32 → Int32 → Int32 → Sg → Prop} {x0 : Nat} {x1 : Int32} {x2 : Int32} {x3 : Int32} {x4 : Int32} {x6 : Int32} {s : Sg} {w : Int32} (hw : gI s 0 20 = w) (h1 : p_X6_known_b76 Q1 K181 x0 x1 x2 x3 x4 x6 s) (h2 : p_X6_known_b76 Q2 K182 x0 x1 x2 x3 x4 x6 s) (hQ : ∀ (v0 : Int32) (v1 : Sg), gI v1 0 20 = w → Q1 v0 v1 → Q2 v0 v1 → G) (hK18 : ∀ (v0 : Nat) (v1 : Int32) (v2 : Int32) (v3 : Int32) (v4 : Int32) (v5 : Int32) (v6 : Int32) (v7 : Sg), gI v7 0 20 = w → K181 v0 v1 v2 v3 v4 v5 v6 v7 → K182 v0 v1 v2 v3 v4 v5 v6 v7 → G) : G := by
  unfold p_X6_known_b76 at h1 h2
  exact d_p_X6_known_b77 (w := w) (by first | exact hw | simpa [gI, setI, setR, setJ, setT] using hw) h1 h2 hQ hK18
theorem d_p_X6_known_b99 {G : Prop} {Q1 Q2 : Int32 → Sg → Prop} {K51 K52 : Nat → Int32 → Int32 → Int32 → Int32 → Sg → Prop} {x0 : Nat} {x1 : Int32} {x2 : Int32} {x4 : Int32} {t0 : Int32} {t1 : Int32} {s : Sg} {w : Int32} (hw : gI s 0 20 = w) (h1 : p_X6_known_b99 Q1 K51 x0 x1 x2 x4 t0 t1 s) (h2 : p_X6_known_b99 Q2 K52 x0 x1 x2 x4 t0 t1 s) (hQ : ∀ (v0 : Int32) (v1 : Sg), gI v1 0 20 = w → Q1 v0 v1 → Q2 v0 v1 → G) (hK5 : ∀ (v0 : Nat) (v1 : Int32) (v2 : Int32) (v3 : Int32) (v4 : Int32) (v5 : Sg), gI v5 0 20 = w → K51 v0 v1 v2 v3 v4 v5 → K52 v0 v1 v2 v3 v4 v5 → G) : G := by
  unfold p_X6_known_b99 at h1 h2
  exact hK5 _ _ _ _ _ _ (by first | exact hw | simpa [gI, setI, setR, setJ, setT] using hw) h1 h2
theorem D_p_X6_known_L18 {G : Prop} {Q1 Q2 : Int32 → Sg → Prop} {K51 K52 : Nat → Int32 → Int32 → Int32 → Int32 → Sg → Prop}  {w : Int32} (hQ : ∀ (v0 : Int32) (v1 : Sg), gI v1 0 20 = w → Q1 v0 v1 → Q2 v0 v1 → G) (hK5 : ∀ (v0 : Nat) (v1 : Int32) (v2 : Int32) (v3 : Int32) (v4 : Int32) (v5 : Sg), gI v5 0 20 = w → K51 v0 v1 v2 v3 v4 v5 → K52 v0 v1 v2 v3 v4 v5 → G) : ∀ (n m : Nat) (x0 : Nat) (x1 : Int32) (x2 : Int32) (x3 : Int32) (x4 : Int32) (x5 : Int32) (x6 : Int32) (s : Sg), gI s 0 20 = w → p_X6_known_L18 Q1 K51 n x0 x1 x2 x3 x4 x5 x6 s → p_X6_known_L18 Q2 K52 m x0 x1 x2 x3 x4 x5 x6 s → G := by
  intro n
  induction n with
  | zero =>
    intro m x0 x1 x2 x3 x4 x5 x6 s hw h1
    exact h1.elim
  | succ n ih =>
    intro m x0 x1 x2 x3 x4 x5 x6 s hw h1 h2
    cases m with
    | zero => exact h2.elim
    | succ m =>
      unfold p_X6_known_L18 at h1 h2
      by_cases cc : (gI s x0 20) ≤ x6
      · replace h1 := h1.1 cc
        replace h2 := h2.1 cc
        by_cases cc : x5 = 0
        · replace h1 := h1.1 cc
          replace h2 := h2.1 cc
          exact d_p_X6_known_b99 (w := w) (by first | exact hw | simpa [gI, setI, setR, setJ, setT] using hw) h1 h2 hQ hK5
        · replace h1 := h1.2 cc
          replace h2 := h2.2 cc
          exact d_p_X6_known_b99 (w := w) (by first | exact hw | simpa [gI, setI, setR, setJ, setT] using hw) h1 h2 hQ hK5
      · replace h1 := h1.2 cc
        replace h2 := h2.2 cc
        by_cases cc : x5 = 0
        · replace h1 := h1.1 cc
          replace h2 := h2.1 cc
          exact d_p_X6_known_b76 (w := w) (by first | exact hw | simpa [gI, setI, setR, setJ, setT] using hw) h1 h2 hQ (fun _ _ _ _ _ _ _ _ hw h1 h2 => ih _ _ _ _ _ _ _ _ _ hw h1 h2)
        · replace h1 := h1.2 cc
          replace h2 := h2.2 cc
          by_cases cc : ((x1 >>> (x6 &&& 31)) &&& 1) = 0
          · replace h1 := h1.1 cc
            replace h2 := h2.1 cc
            exact d_p_X6_known_b72 (w := w) (by first | exact hw | simpa [gI, setI, setR, setJ, setT] using hw) h1 h2 hQ (fun _ _ _ _ _ _ _ _ hw h1 h2 => ih _ _ _ _ _ _ _ _ _ hw h1 h2)
          · replace h1 := h1.2 cc
            replace h2 := h2.2 cc
            obtain ⟨k5, e0, _, _, h1⟩ := h1
            obtain ⟨k5x, f0, _, _, h2⟩ := h2
            have ee := Option.some.inj (e0.symm.trans f0)
            subst ee
            refine d_p_X6_hemThen (w := w) (by first | exact hw | simpa [gI, setI, setR, setJ, setT] using hw) h1 h2 (fun r10 s9 hw h1 h2 => ?_)
            obtain ⟨k11, e0, _, _, h1⟩ := h1
            obtain ⟨k11x, f0, _, _, h2⟩ := h2
            have ee := Option.some.inj (e0.symm.trans f0)
            subst ee
            by_cases cc : r10 = (gR s9 k11 ((6 * x2) + x6).toNatClampNeg)
            · replace h1 := h1.1 cc
              replace h2 := h2.1 cc
              exact d_p_X6_known_b72 (w := w) (by first | exact hw | simpa [gI, setI, setR, setJ, setT] using hw) h1 h2 hQ (fun _ _ _ _ _ _ _ _ hw h1 h2 => ih _ _ _ _ _ _ _ _ _ hw h1 h2)
            · replace h1 := h1.2 cc
              replace h2 := h2.2 cc
              exact d_p_X6_known_b76 (w := w) (by first | exact hw | simpa [gI, setI, setR, setJ, setT] using hw) h1 h2 hQ (fun _ _ _ _ _ _ _ _ hw h1 h2 => ih _ _ _ _ _ _ _ _ _ hw h1 h2)
theorem d_p_X6_known_L18 {G : Prop} {Q1 Q2 : Int32 → Sg → Prop} {K51 K52 : Nat → Int32 → Int32 → Int32 → Int32 → Sg → Prop}  {n m : Nat} {x0 : Nat} {x1 : Int32} {x2 : Int32} {x3 : Int32} {x4 : Int32} {x5 : Int32} {x6 : Int32} {s : Sg} {w : Int32} (hw : gI s 0 20 = w) (h1 : p_X6_known_L18 Q1 K51 n x0 x1 x2 x3 x4 x5 x6 s) (h2 : p_X6_known_L18 Q2 K52 m x0 x1 x2 x3 x4 x5 x6 s) (hQ : ∀ (v0 : Int32) (v1 : Sg), gI v1 0 20 = w → Q1 v0 v1 → Q2 v0 v1 → G) (hK5 : ∀ (v0 : Nat) (v1 : Int32) (v2 : Int32) (v3 : Int32) (v4 : Int32) (v5 : Sg), gI v5 0 20 = w → K51 v0 v1 v2 v3 v4 v5 → K52 v0 v1 v2 v3 v4 v5 → G) : G := D_p_X6_known_L18 hQ hK5 n m x0 x1 x2 x3 x4 x5 x6 s hw h1 h2
theorem D_p_X6_known_L5 {G : Prop} {Q1 Q2 : Int32 → Sg → Prop}  {w : Int32} (hQ : ∀ (v0 : Int32) (v1 : Sg), gI v1 0 20 = w → Q1 v0 v1 → Q2 v0 v1 → G) : ∀ (n m : Nat) (x0 : Nat) (x1 : Int32) (x2 : Int32) (x3 : Int32) (x4 : Int32) (s : Sg), gI s 0 20 = w → p_X6_known_L5 Q1 n x0 x1 x2 x3 x4 s → p_X6_known_L5 Q2 m x0 x1 x2 x3 x4 s → G := by
  intro n
  induction n with
  | zero =>
    intro m x0 x1 x2 x3 x4 s hw h1
    exact h1.elim
  | succ n ih =>
    intro m x0 x1 x2 x3 x4 s hw h1 h2
    cases m with
    | zero => exact h2.elim
    | succ m =>
      unfold p_X6_known_L5 at h1 h2
      by_cases cc : 20 < x4
      · replace h1 := h1.1 cc
        replace h2 := h2.1 cc
        exact hQ _ _ (by first | exact hw | simpa [gI, setI, setR, setJ, setT] using hw) h1 h2
      · replace h1 := h1.2 cc
        replace h2 := h2.2 cc
        obtain ⟨n2, h1⟩ := h1
        obtain ⟨n2x, h2⟩ := h2
        exact d_p_X6_known_L18 (w := w) (by first | exact hw | simpa [gI, setI, setR, setJ, setT] using hw) h1 h2 hQ (fun _ _ _ _ _ _ hw h1 h2 => ih _ _ _ _ _ _ _ hw h1 h2)
theorem d_p_X6_known_L5 {G : Prop} {Q1 Q2 : Int32 → Sg → Prop}  {n m : Nat} {x0 : Nat} {x1 : Int32} {x2 : Int32} {x3 : Int32} {x4 : Int32} {s : Sg} {w : Int32} (hw : gI s 0 20 = w) (h1 : p_X6_known_L5 Q1 n x0 x1 x2 x3 x4 s) (h2 : p_X6_known_L5 Q2 m x0 x1 x2 x3 x4 s) (hQ : ∀ (v0 : Int32) (v1 : Sg), gI v1 0 20 = w → Q1 v0 v1 → Q2 v0 v1 → G) : G := D_p_X6_known_L5 hQ n m x0 x1 x2 x3 x4 s hw h1 h2
theorem d_p_X6_known {G : Prop} {Q1 Q2 : Int32 → Sg → Prop} {x0 : Nat} {x1 : Int32} {x2 : Int32} {s : Sg} {w : Int32} (hw : gI s 0 20 = w) (h1 : p_X6_known x0 x1 x2 s Q1) (h2 : p_X6_known x0 x1 x2 s Q2) (hQ : ∀ (v0 : Int32) (v1 : Sg), gI v1 0 20 = w → Q1 v0 v1 → Q2 v0 v1 → G) : G := by
  unfold p_X6_known at h1 h2
  obtain ⟨n1, h1⟩ := h1
  obtain ⟨n1x, h2⟩ := h2
  exact d_p_X6_known_L5 (w := w) (by first | exact hw | simpa [gI, setI, setR, setJ, setT] using hw) h1 h2 hQ
theorem d_p_X6_know {G : Prop} {Q1 Q2 : Int32 → Sg → Prop} {x0 : Nat} {x1 : Int32} {x2 : Int32} {s : Sg} {w : Int32} (hw : gI s 0 20 = w) (h1 : p_X6_know x0 x1 x2 s Q1) (h2 : p_X6_know x0 x1 x2 s Q2) (hQ : ∀ (v0 : Int32) (v1 : Sg), gI v1 0 20 = w → Q1 v0 v1 → Q2 v0 v1 → G) : G := by
  unfold p_X6_know at h1 h2
  refine d_p_X6_all (w := w) (by first | exact hw | simpa [gI, setI, setR, setJ, setT] using hw) h1 h2 (fun r2 s1 hw h1 h2 => ?_)
  refine d_p_X6_in (w := w) (by first | exact hw | simpa [gI, setI, setR, setJ, setT] using hw) h1 h2 (fun r4 s3 hw h1 h2 => ?_)
  by_cases cc : r4 = 0
  · replace h1 := h1.1 cc
    replace h2 := h2.1 cc
    exact hQ _ _ (by first | exact hw | simpa [gI, setI, setR, setJ, setT] using hw) h1 h2
  · replace h1 := h1.2 cc
    replace h2 := h2.2 cc
    refine d_p_X6_isYear (w := w) (by first | exact hw | simpa [gI, setI, setR, setJ, setT] using hw) h1 h2 (fun r7 s6 hw h1 h2 => ?_)
    by_cases cc : r7 = 0
    · replace h1 := h1.1 cc
      replace h2 := h2.1 cc
      exact hQ _ _ (by first | exact hw | simpa [gI, setI, setR, setJ, setT] using hw) h1 h2
    · replace h1 := h1.2 cc
      replace h2 := h2.2 cc
      refine d_p_X6_known (w := w) (by first | exact hw | simpa [gI, setI, setR, setJ, setT] using hw) h1 h2 (fun r10 s9 hw h1 h2 => ?_)
      refine d_p_X6_manyOf (w := w) (by first | exact hw | simpa [gI, setI, setR, setJ, setT] using hw) h1 h2 (fun r12 s11 hw h1 h2 => ?_)
      refine d_p_X6_tellsAsked (w := w) (by first | exact hw | simpa [gI, setI, setR, setJ, setT] using hw) h1 h2 (fun r14 s13 hw h1 h2 => ?_)
      exact hQ _ _ (by first | exact hw | simpa [gI, setI, setR, setJ, setT] using hw) h1 h2
theorem D_p_X6_high_L22 {G : Prop} {Q1 Q2 : Int32 → Sg → Prop}  {w : Int32} (hQ : ∀ (v0 : Int32) (v1 : Sg), gI v1 0 20 = w → Q1 v0 v1 → Q2 v0 v1 → G) : ∀ (n m : Nat) (x2 : Int32) (x3 : Int32) (s : Sg), gI s 0 20 = w → p_X6_high_L22 Q1 n x2 x3 s → p_X6_high_L22 Q2 m x2 x3 s → G := by
  intro n
  induction n with
  | zero =>
    intro m x2 x3 s hw h1
    exact h1.elim
  | succ n ih =>
    intro m x2 x3 s hw h1 h2
    cases m with
    | zero => exact h2.elim
    | succ m =>
      unfold p_X6_high_L22 at h1 h2
      by_cases cc : ((x2 >>> (x3 &&& 31)) &&& 1) = 0
      · replace h1 := h1.1 cc
        replace h2 := h2.1 cc
        exact ih _ _ _ _ (by first | exact hw | simpa [gI, setI, setR, setJ, setT] using hw) h1 h2
      · replace h1 := h1.2 cc
        replace h2 := h2.2 cc
        refine d_p_X6_manyOf (w := w) (by first | exact hw | simpa [gI, setI, setR, setJ, setT] using hw) h1 h2 (fun r3 s2 hw h1 h2 => ?_)
        by_cases cc : r3 = 1
        · replace h1 := h1.1 cc
          replace h2 := h2.1 cc
          exact hQ _ _ (by first | exact hw | simpa [gI, setI, setR, setJ, setT] using hw) h1 h2
        · replace h1 := h1.2 cc
          replace h2 := h2.2 cc
          exact hQ _ _ (by first | exact hw | simpa [gI, setI, setR, setJ, setT] using hw) h1 h2
theorem d_p_X6_high_L22 {G : Prop} {Q1 Q2 : Int32 → Sg → Prop}  {n m : Nat} {x2 : Int32} {x3 : Int32} {s : Sg} {w : Int32} (hw : gI s 0 20 = w) (h1 : p_X6_high_L22 Q1 n x2 x3 s) (h2 : p_X6_high_L22 Q2 m x2 x3 s) (hQ : ∀ (v0 : Int32) (v1 : Sg), gI v1 0 20 = w → Q1 v0 v1 → Q2 v0 v1 → G) : G := D_p_X6_high_L22 hQ n m x2 x3 s hw h1 h2
theorem d_p_X6_high {G : Prop} {Q1 Q2 : Int32 → Sg → Prop} {x0 : Nat} {x1 : Int32} {s : Sg} {w : Int32} (hw : gI s 0 20 = w) (h1 : p_X6_high x0 x1 s Q1) (h2 : p_X6_high x0 x1 s Q2) (hQ : ∀ (v0 : Int32) (v1 : Sg), gI v1 0 20 = w → Q1 v0 v1 → Q2 v0 v1 → G) : G := by
  unfold p_X6_high at h1 h2
  refine d_p_X6_isYear (w := w) (by first | exact hw | simpa [gI, setI, setR, setJ, setT] using hw) h1 h2 (fun r2 s1 hw h1 h2 => ?_)
  by_cases cc : r2 = 0
  · replace h1 := h1.1 cc
    replace h2 := h2.1 cc
    exact hQ _ _ (by first | exact hw | simpa [gI, setI, setR, setJ, setT] using hw) h1 h2
  · replace h1 := h1.2 cc
    replace h2 := h2.2 cc
    refine d_p_X6_all (w := w) (by first | exact hw | simpa [gI, setI, setR, setJ, setT] using hw) h1 h2 (fun r5 s4 hw h1 h2 => ?_)
    refine d_p_X6_known (w := w) (by first | exact hw | simpa [gI, setI, setR, setJ, setT] using hw) h1 h2 (fun r7 s6 hw h1 h2 => ?_)
    obtain ⟨n8, h1⟩ := h1
    obtain ⟨n8x, h2⟩ := h2
    exact d_p_X6_high_L22 (w := w) (by first | exact hw | simpa [gI, setI, setR, setJ, setT] using hw) h1 h2 hQ
theorem d_p_X6_partBy_b62 {G : Prop} {Q1 Q2 : Int32 → Sg → Prop} {K191 K192 : Nat → Int32 → Int32 → Int32 → Int32 → Int32 → Int32 → Int32 → Sg → Prop} {x0 : Nat} {x1 : Int32} {x2 : Int32} {x3 : Int32} {x4 : Int32} {x5 : Int32} {x7 : Int32} {t0 : Int32} {t1 : Int32} {s : Sg} {w : Int32} (hw : gI s 0 20 = w) (h1 : p_X6_partBy_b62 Q1 K191 x0 x1 x2 x3 x4 x5 x7 t0 t1 s) (h2 : p_X6_partBy_b62 Q2 K192 x0 x1 x2 x3 x4 x5 x7 t0 t1 s) (hQ : ∀ (v0 : Int32) (v1 : Sg), gI v1 0 20 = w → Q1 v0 v1 → Q2 v0 v1 → G) (hK19 : ∀ (v0 : Nat) (v1 : Int32) (v2 : Int32) (v3 : Int32) (v4 : Int32) (v5 : Int32) (v6 : Int32) (v7 : Int32) (v8 : Sg), gI v8 0 20 = w → K191 v0 v1 v2 v3 v4 v5 v6 v7 v8 → K192 v0 v1 v2 v3 v4 v5 v6 v7 v8 → G) : G := by
  unfold p_X6_partBy_b62 at h1 h2
  exact hK19 _ _ _ _ _ _ _ _ _ (by first | exact hw | simpa [gI, setI, setR, setJ, setT] using hw) h1 h2
theorem d_p_X6_partBy_b61 {G : Prop} {Q1 Q2 : Int32 → Sg → Prop} {K191 K192 : Nat → Int32 → Int32 → Int32 → Int32 → Int32 → Int32 → Int32 → Sg → Prop} {x0 : Nat} {x1 : Int32} {x2 : Int32} {x3 : Int32} {x4 : Int32} {x5 : Int32} {x7 : Int32} {t0 : Int32} {s : Sg} {w : Int32} (hw : gI s 0 20 = w) (h1 : p_X6_partBy_b61 Q1 K191 x0 x1 x2 x3 x4 x5 x7 t0 s) (h2 : p_X6_partBy_b61 Q2 K192 x0 x1 x2 x3 x4 x5 x7 t0 s) (hQ : ∀ (v0 : Int32) (v1 : Sg), gI v1 0 20 = w → Q1 v0 v1 → Q2 v0 v1 → G) (hK19 : ∀ (v0 : Nat) (v1 : Int32) (v2 : Int32) (v3 : Int32) (v4 : Int32) (v5 : Int32) (v6 : Int32) (v7 : Int32) (v8 : Sg), gI v8 0 20 = w → K191 v0 v1 v2 v3 v4 v5 v6 v7 v8 → K192 v0 v1 v2 v3 v4 v5 v6 v7 v8 → G) : G := by
  unfold p_X6_partBy_b61 at h1 h2
  exact d_p_X6_partBy_b62 (w := w) (by first | exact hw | simpa [gI, setI, setR, setJ, setT] using hw) h1 h2 hQ hK19
theorem d_p_X6_partBy_b85 {G : Prop} {Q1 Q2 : Int32 → Sg → Prop} {K61 K62 : Nat → Int32 → Int32 → Int32 → Int32 → Int32 → Sg → Prop} {x0 : Nat} {x1 : Int32} {x2 : Int32} {x3 : Int32} {x5 : Int32} {t0 : Int32} {s : Sg} {w : Int32} (hw : gI s 0 20 = w) (h1 : p_X6_partBy_b85 Q1 K61 x0 x1 x2 x3 x5 t0 s) (h2 : p_X6_partBy_b85 Q2 K62 x0 x1 x2 x3 x5 t0 s) (hQ : ∀ (v0 : Int32) (v1 : Sg), gI v1 0 20 = w → Q1 v0 v1 → Q2 v0 v1 → G) (hK6 : ∀ (v0 : Nat) (v1 : Int32) (v2 : Int32) (v3 : Int32) (v4 : Int32) (v5 : Int32) (v6 : Sg), gI v6 0 20 = w → K61 v0 v1 v2 v3 v4 v5 v6 → K62 v0 v1 v2 v3 v4 v5 v6 → G) : G := by
  unfold p_X6_partBy_b85 at h1 h2
  exact hK6 _ _ _ _ _ _ _ (by first | exact hw | simpa [gI, setI, setR, setJ, setT] using hw) h1 h2
theorem D_p_X6_partBy_L19 {G : Prop} {Q1 Q2 : Int32 → Sg → Prop} {K61 K62 : Nat → Int32 → Int32 → Int32 → Int32 → Int32 → Sg → Prop}  {w : Int32} (hQ : ∀ (v0 : Int32) (v1 : Sg), gI v1 0 20 = w → Q1 v0 v1 → Q2 v0 v1 → G) (hK6 : ∀ (v0 : Nat) (v1 : Int32) (v2 : Int32) (v3 : Int32) (v4 : Int32) (v5 : Int32) (v6 : Sg), gI v6 0 20 = w → K61 v0 v1 v2 v3 v4 v5 v6 → K62 v0 v1 v2 v3 v4 v5 v6 → G) : ∀ (n m : Nat) (x0 : Nat) (x1 : Int32) (x2 : Int32) (x3 : Int32) (x4 : Int32) (x5 : Int32) (x6 : Int32) (x7 : Int32) (s : Sg), gI s 0 20 = w → p_X6_partBy_L19 Q1 K61 n x0 x1 x2 x3 x4 x5 x6 x7 s → p_X6_partBy_L19 Q2 K62 m x0 x1 x2 x3 x4 x5 x6 x7 s → G := by
  intro n
  induction n with
  | zero =>
    intro m x0 x1 x2 x3 x4 x5 x6 x7 s hw h1
    exact h1.elim
  | succ n ih =>
    intro m x0 x1 x2 x3 x4 x5 x6 x7 s hw h1 h2
    cases m with
    | zero => exact h2.elim
    | succ m =>
      unfold p_X6_partBy_L19 at h1 h2
      by_cases cc : 20 < x7
      · replace h1 := h1.1 cc
        replace h2 := h2.1 cc
        by_cases cc : x6 ≤ x4
        · replace h1 := h1.1 cc
          replace h2 := h2.1 cc
          exact d_p_X6_partBy_b85 (w := w) (by first | exact hw | simpa [gI, setI, setR, setJ, setT] using hw) h1 h2 hQ hK6
        · replace h1 := h1.2 cc
          replace h2 := h2.2 cc
          exact d_p_X6_partBy_b85 (w := w) (by first | exact hw | simpa [gI, setI, setR, setJ, setT] using hw) h1 h2 hQ hK6
      · replace h1 := h1.2 cc
        replace h2 := h2.2 cc
        by_cases cc : ((x3 >>> (x7 &&& 31)) &&& 1) = 1
        · replace h1 := h1.1 cc
          replace h2 := h2.1 cc
          obtain ⟨k4, e0, _, _, h1⟩ := h1
          obtain ⟨k4x, f0, _, _, h2⟩ := h2
          have ee := Option.some.inj (e0.symm.trans f0)
          subst ee
          refine d_p_X6_hemThen (w := w) (by first | exact hw | simpa [gI, setI, setR, setJ, setT] using hw) h1 h2 (fun r9 s8 hw h1 h2 => ?_)
          by_cases cc : r9 = x5
          · replace h1 := h1.1 cc
            replace h2 := h2.1 cc
            exact d_p_X6_partBy_b62 (w := w) (by first | exact hw | simpa [gI, setI, setR, setJ, setT] using hw) h1 h2 hQ (fun _ _ _ _ _ _ _ _ _ hw h1 h2 => ih _ _ _ _ _ _ _ _ _ _ hw h1 h2)
          · replace h1 := h1.2 cc
            replace h2 := h2.2 cc
            exact d_p_X6_partBy_b61 (w := w) (by first | exact hw | simpa [gI, setI, setR, setJ, setT] using hw) h1 h2 hQ (fun _ _ _ _ _ _ _ _ _ hw h1 h2 => ih _ _ _ _ _ _ _ _ _ _ hw h1 h2)
        · replace h1 := h1.2 cc
          replace h2 := h2.2 cc
          exact d_p_X6_partBy_b61 (w := w) (by first | exact hw | simpa [gI, setI, setR, setJ, setT] using hw) h1 h2 hQ (fun _ _ _ _ _ _ _ _ _ hw h1 h2 => ih _ _ _ _ _ _ _ _ _ _ hw h1 h2)
theorem d_p_X6_partBy_L19 {G : Prop} {Q1 Q2 : Int32 → Sg → Prop} {K61 K62 : Nat → Int32 → Int32 → Int32 → Int32 → Int32 → Sg → Prop}  {n m : Nat} {x0 : Nat} {x1 : Int32} {x2 : Int32} {x3 : Int32} {x4 : Int32} {x5 : Int32} {x6 : Int32} {x7 : Int32} {s : Sg} {w : Int32} (hw : gI s 0 20 = w) (h1 : p_X6_partBy_L19 Q1 K61 n x0 x1 x2 x3 x4 x5 x6 x7 s) (h2 : p_X6_partBy_L19 Q2 K62 m x0 x1 x2 x3 x4 x5 x6 x7 s) (hQ : ∀ (v0 : Int32) (v1 : Sg), gI v1 0 20 = w → Q1 v0 v1 → Q2 v0 v1 → G) (hK6 : ∀ (v0 : Nat) (v1 : Int32) (v2 : Int32) (v3 : Int32) (v4 : Int32) (v5 : Int32) (v6 : Sg), gI v6 0 20 = w → K61 v0 v1 v2 v3 v4 v5 v6 → K62 v0 v1 v2 v3 v4 v5 v6 → G) : G := D_p_X6_partBy_L19 hQ hK6 n m x0 x1 x2 x3 x4 x5 x6 x7 s hw h1 h2
theorem D_p_X6_partBy_L6 {G : Prop} {Q1 Q2 : Int32 → Sg → Prop}  {w : Int32} (hQ : ∀ (v0 : Int32) (v1 : Sg), gI v1 0 20 = w → Q1 v0 v1 → Q2 v0 v1 → G) : ∀ (n m : Nat) (x0 : Nat) (x1 : Int32) (x2 : Int32) (x3 : Int32) (x4 : Int32) (x5 : Int32) (s : Sg), gI s 0 20 = w → p_X6_partBy_L6 Q1 n x0 x1 x2 x3 x4 x5 s → p_X6_partBy_L6 Q2 m x0 x1 x2 x3 x4 x5 s → G := by
  intro n
  induction n with
  | zero =>
    intro m x0 x1 x2 x3 x4 x5 s hw h1
    exact h1.elim
  | succ n ih =>
    intro m x0 x1 x2 x3 x4 x5 s hw h1 h2
    cases m with
    | zero => exact h2.elim
    | succ m =>
      unfold p_X6_partBy_L6 at h1 h2
      by_cases cc : 10 < x5
      · replace h1 := h1.1 cc
        replace h2 := h2.1 cc
        exact hQ _ _ (by first | exact hw | simpa [gI, setI, setR, setJ, setT] using hw) h1 h2
      · replace h1 := h1.2 cc
        replace h2 := h2.2 cc
        obtain ⟨n2, h1⟩ := h1
        obtain ⟨n2x, h2⟩ := h2
        exact d_p_X6_partBy_L19 (w := w) (by first | exact hw | simpa [gI, setI, setR, setJ, setT] using hw) h1 h2 hQ (fun _ _ _ _ _ _ _ hw h1 h2 => ih _ _ _ _ _ _ _ _ hw h1 h2)
theorem d_p_X6_partBy_L6 {G : Prop} {Q1 Q2 : Int32 → Sg → Prop}  {n m : Nat} {x0 : Nat} {x1 : Int32} {x2 : Int32} {x3 : Int32} {x4 : Int32} {x5 : Int32} {s : Sg} {w : Int32} (hw : gI s 0 20 = w) (h1 : p_X6_partBy_L6 Q1 n x0 x1 x2 x3 x4 x5 s) (h2 : p_X6_partBy_L6 Q2 m x0 x1 x2 x3 x4 x5 s) (hQ : ∀ (v0 : Int32) (v1 : Sg), gI v1 0 20 = w → Q1 v0 v1 → Q2 v0 v1 → G) : G := D_p_X6_partBy_L6 hQ n m x0 x1 x2 x3 x4 x5 s hw h1 h2
theorem d_p_X6_partBy {G : Prop} {Q1 Q2 : Int32 → Sg → Prop} {x0 : Nat} {x1 : Int32} {x2 : Int32} {x3 : Int32} {s : Sg} {w : Int32} (hw : gI s 0 20 = w) (h1 : p_X6_partBy x0 x1 x2 x3 s Q1) (h2 : p_X6_partBy x0 x1 x2 x3 s Q2) (hQ : ∀ (v0 : Int32) (v1 : Sg), gI v1 0 20 = w → Q1 v0 v1 → Q2 v0 v1 → G) : G := by
  unfold p_X6_partBy at h1 h2
  obtain ⟨n1, h1⟩ := h1
  obtain ⟨n1x, h2⟩ := h2
  exact d_p_X6_partBy_L6 (w := w) (by first | exact hw | simpa [gI, setI, setR, setJ, setT] using hw) h1 h2 hQ
theorem d_p_X6_look_b103 {G : Prop} {Q1 Q2 : Int32 → Sg → Prop} {K391 K392 : Nat → Int32 → Int32 → Int32 → Int32 → Int32 → Int32 → Sg → Prop} {x0 : Nat} {x1 : Int32} {x2 : Int32} {x3 : Int32} {x4 : Int32} {x5 : Int32} {x6 : Int32} {s : Sg} {w : Int32} (hw : gI s 0 20 = w) (h1 : p_X6_look_b103 Q1 K391 x0 x1 x2 x3 x4 x5 x6 s) (h2 : p_X6_look_b103 Q2 K392 x0 x1 x2 x3 x4 x5 x6 s) (hQ : ∀ (v0 : Int32) (v1 : Sg), gI v1 0 20 = w → Q1 v0 v1 → Q2 v0 v1 → G) (hK39 : ∀ (v0 : Nat) (v1 : Int32) (v2 : Int32) (v3 : Int32) (v4 : Int32) (v5 : Int32) (v6 : Int32) (v7 : Sg), gI v7 0 20 = w → K391 v0 v1 v2 v3 v4 v5 v6 v7 → K392 v0 v1 v2 v3 v4 v5 v6 v7 → G) : G := by
  unfold p_X6_look_b103 at h1 h2
  exact hK39 _ _ _ _ _ _ _ _ (by first | exact hw | simpa [gI, setI, setR, setJ, setT] using hw) h1 h2
theorem d_p_X6_look_b95 {G : Prop} {Q1 Q2 : Int32 → Sg → Prop} {K391 K392 : Nat → Int32 → Int32 → Int32 → Int32 → Int32 → Int32 → Sg → Prop} {x0 : Nat} {x1 : Int32} {x2 : Int32} {x3 : Int32} {x6 : Int32} {x7 : Int32} {s : Sg} {w : Int32} (hw : gI s 0 20 = w) (h1 : p_X6_look_b95 Q1 K391 x0 x1 x2 x3 x6 x7 s) (h2 : p_X6_look_b95 Q2 K392 x0 x1 x2 x3 x6 x7 s) (hQ : ∀ (v0 : Int32) (v1 : Sg), gI v1 0 20 = w → Q1 v0 v1 → Q2 v0 v1 → G) (hK39 : ∀ (v0 : Nat) (v1 : Int32) (v2 : Int32) (v3 : Int32) (v4 : Int32) (v5 : Int32) (v6 : Int32) (v7 : Sg), gI v7 0 20 = w → K391 v0 v1 v2 v3 v4 v5 v6 v7 → K392 v0 v1 v2 v3 v4 v5 v6 v7 → G) : G := by
  unfold p_X6_look_b95 at h1 h2
  exact d_p_X6_look_b103 (w := w) (by first | exact hw | simpa [gI, setI, setR, setJ, setT] using hw) h1 h2 hQ hK39
theorem d_p_X6_look_b70 {G : Prop} {Q1 Q2 : Int32 → Sg → Prop} {K391 K392 : Nat → Int32 → Int32 → Int32 → Int32 → Int32 → Int32 → Sg → Prop} {x0 : Nat} {x1 : Int32} {x2 : Int32} {x3 : Int32} {x4 : Int32} {x5 : Int32} {x6 : Int32} {t0 : Int32} {s : Sg} {w : Int32} (hw : gI s 0 20 = w) (h1 : p_X6_look_b70 Q1 K391 x0 x1 x2 x3 x4 x5 x6 t0 s) (h2 : p_X6_look_b70 Q2 K392 x0 x1 x2 x3 x4 x5 x6 t0 s) (hQ : ∀ (v0 : Int32) (v1 : Sg), gI v1 0 20 = w → Q1 v0 v1 → Q2 v0 v1 → G) (hK39 : ∀ (v0 : Nat) (v1 : Int32) (v2 : Int32) (v3 : Int32) (v4 : Int32) (v5 : Int32) (v6 : Int32) (v7 : Sg), gI v7 0 20 = w → K391 v0 v1 v2 v3 v4 v5 v6 v7 → K392 v0 v1 v2 v3 v4 v5 v6 v7 → G) : G := by
  unfold p_X6_look_b70 at h1 h2
  by_cases cc : ((x1 >>> (x6 &&& 31)) &&& 1) = 0
  · replace h1 := h1.1 cc
    replace h2 := h2.1 cc
    by_cases cc : x4 = ((-9))
    · replace h1 := h1.1 cc
      replace h2 := h2.1 cc
      exact d_p_X6_look_b95 (w := w) (by first | exact hw | simpa [gI, setI, setR, setJ, setT] using hw) h1 h2 hQ hK39
    · replace h1 := h1.2 cc
      replace h2 := h2.2 cc
      by_cases cc : x5 ≤ t0
      · replace h1 := h1.1 cc
        replace h2 := h2.1 cc
        exact d_p_X6_look_b103 (w := w) (by first | exact hw | simpa [gI, setI, setR, setJ, setT] using hw) h1 h2 hQ hK39
      · replace h1 := h1.2 cc
        replace h2 := h2.2 cc
        exact d_p_X6_look_b95 (w := w) (by first | exact hw | simpa [gI, setI, setR, setJ, setT] using hw) h1 h2 hQ hK39
  · replace h1 := h1.2 cc
    replace h2 := h2.2 cc
    exact d_p_X6_look_b103 (w := w) (by first | exact hw | simpa [gI, setI, setR, setJ, setT] using hw) h1 h2 hQ hK39
