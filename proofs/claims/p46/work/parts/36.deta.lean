theorem D_p_J7_fill_53178_L5 {G : Prop} {Q1 Q2 : Sg → Prop} {B : Cf} {w : Int32} (hQ : ∀ (v0 : Sg), gI v0 0 20 = w → Q1 v0 → Q2 v0 → G) : ∀ (n m : Nat) (x0 : Option Nat) (x1 : Int32) (x2 : Int32) (x3 : Int32) (s : Sg), gI s 0 20 = w → p_J7_fill_53178_L5 B Q1 n x0 x1 x2 x3 s → p_J7_fill_53178_L5 B Q2 m x0 x1 x2 x3 s → G := by
  intro n
  induction n with
  | zero =>
    intro m x0 x1 x2 x3 s hw h1
    exact h1.elim
  | succ n ih =>
    intro m x0 x1 x2 x3 s hw h1 h2
    cases m with
    | zero => exact h2.elim
    | succ m =>
      unfold p_J7_fill_53178_L5 at h1 h2
      by_cases cc : x3 ≤ x2
      · replace h1 := h1.1 cc
        replace h2 := h2.1 cc
        exact hQ _ (by first | exact hw | simpa [gI, setI, setR, setJ, setT] using hw) h1 h2
      · replace h1 := h1.2 cc
        replace h2 := h2.2 cc
        obtain ⟨k2, e0, _, _, h1⟩ := h1
        obtain ⟨k2x, f0, _, _, h2⟩ := h2
        have ee := Option.some.inj (e0.symm.trans f0)
        subst ee
        exact ih _ _ _ _ _ _ (by first | exact hw | simpa [gI, setI, setR, setJ, setT] using hw) h1 h2
theorem d_p_J7_fill_53178_L5 {G : Prop} {Q1 Q2 : Sg → Prop} {B : Cf} {n m : Nat} {x0 : Option Nat} {x1 : Int32} {x2 : Int32} {x3 : Int32} {s : Sg} {w : Int32} (hw : gI s 0 20 = w) (h1 : p_J7_fill_53178_L5 B Q1 n x0 x1 x2 x3 s) (h2 : p_J7_fill_53178_L5 B Q2 m x0 x1 x2 x3 s) (hQ : ∀ (v0 : Sg), gI v0 0 20 = w → Q1 v0 → Q2 v0 → G) : G := D_p_J7_fill_53178_L5 hQ n m x0 x1 x2 x3 s hw h1 h2
theorem d_p_J7_fill_53178 {G : Prop} {Q1 Q2 : Sg → Prop} {B : Cf} {x0 : Option Nat} {x1 : Int32} {s : Sg} {w : Int32} (hw : gI s 0 20 = w) (h1 : p_J7_fill_53178 B x0 x1 s Q1) (h2 : p_J7_fill_53178 B x0 x1 s Q2) (hQ : ∀ (v0 : Sg), gI v0 0 20 = w → Q1 v0 → Q2 v0 → G) : G := by
  unfold p_J7_fill_53178 at h1 h2
  obtain ⟨k1, e0, _, h1⟩ := h1
  obtain ⟨k1x, f0, _, h2⟩ := h2
  have ee := Option.some.inj (e0.symm.trans f0)
  subst ee
  obtain ⟨n4, h1⟩ := h1
  obtain ⟨n4x, h2⟩ := h2
  exact d_p_J7_fill_53178_L5 (w := w) (by first | exact hw | simpa [gI, setI, setR, setJ, setT] using hw) h1 h2 hQ
theorem d_p_J6_bitCount_0f7a4 {G : Prop} {Q1 Q2 : Int32 → Sg → Prop} {B : Cf} {x0 : Int32} {s : Sg} {w : Int32} (hw : gI s 0 20 = w) (h1 : p_J6_bitCount_0f7a4 B x0 s Q1) (h2 : p_J6_bitCount_0f7a4 B x0 s Q2) (hQ : ∀ (v0 : Int32) (v1 : Sg), gI v1 0 20 = w → Q1 v0 v1 → Q2 v0 v1 → G) : G := by
  unfold p_J6_bitCount_0f7a4 at h1 h2
  exact hQ _ _ (by first | exact hw | simpa [gI, setI, setR, setJ, setT] using hw) h1 h2
theorem d_p_X6_in {G : Prop} {Q1 Q2 : Int32 → Sg → Prop} {x0 : Int32} {x1 : Int32} {x2 : Int32} {s : Sg} {w : Int32} (hw : gI s 0 20 = w) (h1 : p_X6_in x0 x1 x2 s Q1) (h2 : p_X6_in x0 x1 x2 s Q2) (hQ : ∀ (v0 : Int32) (v1 : Sg), gI v1 0 20 = w → Q1 v0 v1 → Q2 v0 v1 → G) : G := by
  unfold p_X6_in at h1 h2
  by_cases cc : x0 < x1
  · replace h1 := h1.1 cc
    replace h2 := h2.1 cc
    exact hQ _ _ (by first | exact hw | simpa [gI, setI, setR, setJ, setT] using hw) h1 h2
  · replace h1 := h1.2 cc
    replace h2 := h2.2 cc
    by_cases cc : x2 < x0
    · replace h1 := h1.1 cc
      replace h2 := h2.1 cc
      exact hQ _ _ (by first | exact hw | simpa [gI, setI, setR, setJ, setT] using hw) h1 h2
    · replace h1 := h1.2 cc
      replace h2 := h2.2 cc
      exact hQ _ _ (by first | exact hw | simpa [gI, setI, setR, setJ, setT] using hw) h1 h2
theorem d_p_X6_refuse {G : Prop} {Q1 Q2 : Int32 → Sg → Prop} {x0 : Nat} {x1 : Int32} {s : Sg} {w : Int32} (hw : gI s 0 20 = w) (h1 : p_X6_refuse x0 x1 s Q1) (h2 : p_X6_refuse x0 x1 s Q2) (hQ : ∀ (v0 : Int32) (v1 : Sg), gI v1 0 20 = w → Q1 v0 v1 → Q2 v0 v1 → G) : G := by
  unfold p_X6_refuse at h1 h2
  obtain ⟨k1, e0, _, _, h1⟩ := h1
  obtain ⟨k1x, f0, _, _, h2⟩ := h2
  have ee := Option.some.inj (e0.symm.trans f0)
  subst ee
  obtain ⟨k5, e0, _, _, h1⟩ := h1
  obtain ⟨k5x, f0, _, _, h2⟩ := h2
  have ee := Option.some.inj (e0.symm.trans f0)
  subst ee
  exact hQ _ _ (by first | exact hw | simpa [gI, setI, setR, setJ, setT] using hw) h1 h2
theorem d_p_X6_tellsAsked {G : Prop} {Q1 Q2 : Int32 → Sg → Prop} {x0 : Nat} {x1 : Int32} {s : Sg} {w : Int32} (hw : gI s 0 20 = w) (h1 : p_X6_tellsAsked x0 x1 s Q1) (h2 : p_X6_tellsAsked x0 x1 s Q2) (hQ : ∀ (v0 : Int32) (v1 : Sg), gI v1 0 20 = w → Q1 v0 v1 → Q2 v0 v1 → G) : G := by
  unfold p_X6_tellsAsked at h1 h2
  exact hQ _ _ (by first | exact hw | simpa [gI, setI, setR, setJ, setT] using hw) h1 h2
theorem D_p_X6_tellPart_L6 {G : Prop} {Q1 Q2 : Sg → Prop}  {w : Int32} (hQ : ∀ (v0 : Sg), gI v0 0 20 = w → Q1 v0 → Q2 v0 → G) : ∀ (n m : Nat) (x0 : Nat) (x1 : Int64) (x3 : Int64) (x5 : Int64) (x7 : Int64) (s : Sg), gI s 0 20 = w → p_X6_tellPart_L6 Q1 n x0 x1 x3 x5 x7 s → p_X6_tellPart_L6 Q2 m x0 x1 x3 x5 x7 s → G := by
  intro n
  induction n with
  | zero =>
    intro m x0 x1 x3 x5 x7 s hw h1
    exact h1.elim
  | succ n ih =>
    intro m x0 x1 x3 x5 x7 s hw h1 h2
    cases m with
    | zero => exact h2.elim
    | succ m =>
      unfold p_X6_tellPart_L6 at h1 h2
      by_cases cc : (lg_cmp x7 0) = 0
      · replace h1 := h1.1 cc
        replace h2 := h2.1 cc
        obtain ⟨_, _, h1⟩ := h1
        obtain ⟨_, _, h2⟩ := h2
        exact hQ _ (by first | exact hw | simpa [gI, setI, setR, setJ, setT] using hw) h1 h2
      · replace h1 := h1.2 cc
        replace h2 := h2.2 cc
        obtain ⟨_, h1⟩ := h1
        obtain ⟨_, h2⟩ := h2
        exact ih _ _ _ _ _ _ _ (by first | exact hw | simpa [gI, setI, setR, setJ, setT] using hw) h1 h2
theorem d_p_X6_tellPart_L6 {G : Prop} {Q1 Q2 : Sg → Prop}  {n m : Nat} {x0 : Nat} {x1 : Int64} {x3 : Int64} {x5 : Int64} {x7 : Int64} {s : Sg} {w : Int32} (hw : gI s 0 20 = w) (h1 : p_X6_tellPart_L6 Q1 n x0 x1 x3 x5 x7 s) (h2 : p_X6_tellPart_L6 Q2 m x0 x1 x3 x5 x7 s) (hQ : ∀ (v0 : Sg), gI v0 0 20 = w → Q1 v0 → Q2 v0 → G) : G := D_p_X6_tellPart_L6 hQ n m x0 x1 x3 x5 x7 s hw h1 h2
theorem d_p_X6_tellPart {G : Prop} {Q1 Q2 : Sg → Prop} {x0 : Nat} {x1 : Int64} {x3 : Int64} {s : Sg} {w : Int32} (hw : gI s 0 20 = w) (h1 : p_X6_tellPart x0 x1 x3 s Q1) (h2 : p_X6_tellPart x0 x1 x3 s Q2) (hQ : ∀ (v0 : Sg), gI v0 0 20 = w → Q1 v0 → Q2 v0 → G) : G := by
  unfold p_X6_tellPart at h1 h2
  obtain ⟨n1, h1⟩ := h1
  obtain ⟨n1x, h2⟩ := h2
  exact d_p_X6_tellPart_L6 (w := w) (by first | exact hw | simpa [gI, setI, setR, setJ, setT] using hw) h1 h2 hQ
theorem d_p_X6_isRow {G : Prop} {Q1 Q2 : Int32 → Sg → Prop} {x0 : Int32} {s : Sg} {w : Int32} (hw : gI s 0 20 = w) (h1 : p_X6_isRow x0 s Q1) (h2 : p_X6_isRow x0 s Q2) (hQ : ∀ (v0 : Int32) (v1 : Sg), gI v1 0 20 = w → Q1 v0 v1 → Q2 v0 v1 → G) : G := by
  unfold p_X6_isRow at h1 h2
  refine d_p_X6_in (w := w) (by first | exact hw | simpa [gI, setI, setR, setJ, setT] using hw) h1 h2 (fun r2 s1 hw h1 h2 => ?_)
  obtain ⟨_, h1⟩ := h1
  obtain ⟨_, h2⟩ := h2
  exact hQ _ _ (by first | exact hw | simpa [gI, setI, setR, setJ, setT] using hw) h1 h2
theorem D_p_X6_clearRow_L9 {G : Prop} {Q1 Q2 : Sg → Prop}  {w : Int32} (hQ : ∀ (v0 : Sg), gI v0 0 20 = w → Q1 v0 → Q2 v0 → G) : ∀ (n m : Nat) (x0 : Nat) (x1 : Int32) (x3 : Int32) (s : Sg), gI s 0 20 = w → p_X6_clearRow_L9 Q1 n x0 x1 x3 s → p_X6_clearRow_L9 Q2 m x0 x1 x3 s → G := by
  intro n
  induction n with
  | zero =>
    intro m x0 x1 x3 s hw h1
    exact h1.elim
  | succ n ih =>
    intro m x0 x1 x3 s hw h1 h2
    cases m with
    | zero => exact h2.elim
    | succ m =>
      unfold p_X6_clearRow_L9 at h1 h2
      by_cases cc : 40 ≤ x3
      · replace h1 := h1.1 cc
        replace h2 := h2.1 cc
        exact hQ _ (by first | exact hw | simpa [gI, setI, setR, setJ, setT] using hw) h1 h2
      · replace h1 := h1.2 cc
        replace h2 := h2.2 cc
        obtain ⟨k2, e0, _, _, h1⟩ := h1
        obtain ⟨k2x, f0, _, _, h2⟩ := h2
        have ee := Option.some.inj (e0.symm.trans f0)
        subst ee
        exact ih _ _ _ _ _ (by first | exact hw | simpa [gI, setI, setR, setJ, setT] using hw) h1 h2
theorem d_p_X6_clearRow_L9 {G : Prop} {Q1 Q2 : Sg → Prop}  {n m : Nat} {x0 : Nat} {x1 : Int32} {x3 : Int32} {s : Sg} {w : Int32} (hw : gI s 0 20 = w) (h1 : p_X6_clearRow_L9 Q1 n x0 x1 x3 s) (h2 : p_X6_clearRow_L9 Q2 m x0 x1 x3 s) (hQ : ∀ (v0 : Sg), gI v0 0 20 = w → Q1 v0 → Q2 v0 → G) : G := D_p_X6_clearRow_L9 hQ n m x0 x1 x3 s hw h1 h2
theorem d_p_X6_clearRow {G : Prop} {Q1 Q2 : Sg → Prop} {x0 : Nat} {x1 : Int32} {x2 : Int32} {s : Sg} {w : Int32} (hw : gI s 0 20 = w) (h1 : p_X6_clearRow x0 x1 x2 s Q1) (h2 : p_X6_clearRow x0 x1 x2 s Q2) (hQ : ∀ (v0 : Sg), gI v0 0 20 = w → Q1 v0 → Q2 v0 → G) : G := by
  unfold p_X6_clearRow at h1 h2
  obtain ⟨k1, e0, _, _, h1⟩ := h1
  obtain ⟨k1x, f0, _, _, h2⟩ := h2
  have ee := Option.some.inj (e0.symm.trans f0)
  subst ee
  obtain ⟨n5, h1⟩ := h1
  obtain ⟨n5x, h2⟩ := h2
  exact d_p_X6_clearRow_L9 (w := w) (by first | exact hw | simpa [gI, setI, setR, setJ, setT] using hw) h1 h2 hQ
theorem d_p_X6_row {G : Prop} {Q1 Q2 : Int32 → Sg → Prop} {x0 : Nat} {x1 : Int32} {x2 : Int32} {s : Sg} {w : Int32} (hw : gI s 0 20 = w) (h1 : p_X6_row x0 x1 x2 s Q1) (h2 : p_X6_row x0 x1 x2 s Q2) (hQ : ∀ (v0 : Int32) (v1 : Sg), gI v1 0 20 = w → Q1 v0 v1 → Q2 v0 v1 → G) : G := by
  unfold p_X6_row at h1 h2
  refine d_p_X6_isRow (w := w) (by first | exact hw | simpa [gI, setI, setR, setJ, setT] using hw) h1 h2 (fun r2 s1 hw h1 h2 => ?_)
  by_cases cc : r2 = 0
  · replace h1 := h1.1 cc
    replace h2 := h2.1 cc
    exact hQ _ _ (by first | exact hw | simpa [gI, setI, setR, setJ, setT] using hw) h1 h2
  · replace h1 := h1.2 cc
    replace h2 := h2.2 cc
    by_cases cc : x2 ≤ 40
    · replace h1 := h1.1 cc
      replace h2 := h2.1 cc
      by_cases cc : 0 ≤ x2
      · replace h1 := h1.1 cc
        replace h2 := h2.1 cc
        refine d_p_X6_clearRow (w := w) (by first | exact hw | simpa [gI, setI, setR, setJ, setT] using hw) h1 h2 (fun s6 hw h1 h2 => ?_)
        exact hQ _ _ (by first | exact hw | simpa [gI, setI, setR, setJ, setT] using hw) h1 h2
      · replace h1 := h1.2 cc
        replace h2 := h2.2 cc
        refine d_p_X6_refuse (w := w) (by first | exact hw | simpa [gI, setI, setR, setJ, setT] using hw) h1 h2 (fun r8 s7 hw h1 h2 => ?_)
        exact hQ _ _ (by first | exact hw | simpa [gI, setI, setR, setJ, setT] using hw) h1 h2
    · replace h1 := h1.2 cc
      replace h2 := h2.2 cc
      exact hQ _ _ (by first | exact hw | simpa [gI, setI, setR, setJ, setT] using hw) h1 h2
theorem d_p_X6_lay {G : Prop} {Q1 Q2 : Int32 → Sg → Prop} {x0 : Nat} {x1 : Int32} {x2 : Int32} {x3 : Int32} {s : Sg} {w : Int32} (hw : gI s 0 20 = w) (h1 : p_X6_lay x0 x1 x2 x3 s Q1) (h2 : p_X6_lay x0 x1 x2 x3 s Q2) (hQ : ∀ (v0 : Int32) (v1 : Sg), gI v1 0 20 = w → Q1 v0 v1 → Q2 v0 v1 → G) : G := by
  unfold p_X6_lay at h1 h2
  refine d_p_X6_isRow (w := w) (by first | exact hw | simpa [gI, setI, setR, setJ, setT] using hw) h1 h2 (fun r2 s1 hw h1 h2 => ?_)
  by_cases cc : r2 = 0
  · replace h1 := h1.1 cc
    replace h2 := h2.1 cc
    exact hQ _ _ (by first | exact hw | simpa [gI, setI, setR, setJ, setT] using hw) h1 h2
  · replace h1 := h1.2 cc
    replace h2 := h2.2 cc
    obtain ⟨k4, e0, _, _, h1⟩ := h1
    obtain ⟨k4x, f0, _, _, h2⟩ := h2
    have ee := Option.some.inj (e0.symm.trans f0)
    subst ee
    by_cases cc : 0 ≤ (gR s1 k4 x1.toNatClampNeg)
    · replace h1 := h1.1 cc
      replace h2 := h2.1 cc
      obtain ⟨k9, e0, _, _, h1⟩ := h1
      obtain ⟨k9x, f0, _, _, h2⟩ := h2
      have ee := Option.some.inj (e0.symm.trans f0)
      subst ee
      refine d_p_X6_in (w := w) (by first | exact hw | simpa [gI, setI, setR, setJ, setT] using hw) h1 h2 (fun r14 s13 hw h1 h2 => ?_)
      by_cases cc : r14 = 0
      · replace h1 := h1.1 cc
        replace h2 := h2.1 cc
        refine d_p_X6_refuse (w := w) (by first | exact hw | simpa [gI, setI, setR, setJ, setT] using hw) h1 h2 (fun r27 s26 hw h1 h2 => ?_)
        exact hQ _ _ (by first | exact hw | simpa [gI, setI, setR, setJ, setT] using hw) h1 h2
      · replace h1 := h1.2 cc
        replace h2 := h2.2 cc
        obtain ⟨k16, e0, _, _, h1⟩ := h1
        obtain ⟨k16x, f0, _, _, h2⟩ := h2
        have ee := Option.some.inj (e0.symm.trans f0)
        subst ee
        obtain ⟨k20, e0, _, _, h1⟩ := h1
        obtain ⟨k20x, f0, _, _, h2⟩ := h2
        have ee := Option.some.inj (e0.symm.trans f0)
        subst ee
        refine d_p_X6_tellsAsked (w := w) (by first | exact hw | simpa [gI, setI, setR, setJ, setT] using hw) h1 h2 (fun r25 s24 hw h1 h2 => ?_)
        exact hQ _ _ (by first | exact hw | simpa [gI, setI, setR, setJ, setT] using hw) h1 h2
    · replace h1 := h1.2 cc
      replace h2 := h2.2 cc
      refine d_p_X6_refuse (w := w) (by first | exact hw | simpa [gI, setI, setR, setJ, setT] using hw) h1 h2 (fun r29 s28 hw h1 h2 => ?_)
      exact hQ _ _ (by first | exact hw | simpa [gI, setI, setR, setJ, setT] using hw) h1 h2
theorem d_p_X6_at {G : Prop} {Q1 Q2 : Int32 → Sg → Prop} {x0 : Nat} {x1 : Int32} {x2 : Int32} {s : Sg} {w : Int32} (hw : gI s 0 20 = w) (h1 : p_X6_at x0 x1 x2 s Q1) (h2 : p_X6_at x0 x1 x2 s Q2) (hQ : ∀ (v0 : Int32) (v1 : Sg), gI v1 0 20 = w → Q1 v0 v1 → Q2 v0 v1 → G) : G := by
  unfold p_X6_at at h1 h2
  refine d_p_X6_isRow (w := w) (by first | exact hw | simpa [gI, setI, setR, setJ, setT] using hw) h1 h2 (fun r2 s1 hw h1 h2 => ?_)
  by_cases cc : r2 = 0
  · replace h1 := h1.1 cc
    replace h2 := h2.1 cc
    exact hQ _ _ (by first | exact hw | simpa [gI, setI, setR, setJ, setT] using hw) h1 h2
  · replace h1 := h1.2 cc
    replace h2 := h2.2 cc
    obtain ⟨k4, e0, _, _, h1⟩ := h1
    obtain ⟨k4x, f0, _, _, h2⟩ := h2
    have ee := Option.some.inj (e0.symm.trans f0)
    subst ee
    by_cases cc : 0 ≤ (gR s1 k4 x1.toNatClampNeg)
    · replace h1 := h1.1 cc
      replace h2 := h2.1 cc
      obtain ⟨k9, e0, _, _, h1⟩ := h1
      obtain ⟨k9x, f0, _, _, h2⟩ := h2
      have ee := Option.some.inj (e0.symm.trans f0)
      subst ee
      refine d_p_X6_in (w := w) (by first | exact hw | simpa [gI, setI, setR, setJ, setT] using hw) h1 h2 (fun r14 s13 hw h1 h2 => ?_)
      by_cases cc : r14 = 0
      · replace h1 := h1.1 cc
        replace h2 := h2.1 cc
        refine d_p_X6_refuse (w := w) (by first | exact hw | simpa [gI, setI, setR, setJ, setT] using hw) h1 h2 (fun r23 s22 hw h1 h2 => ?_)
        exact hQ _ _ (by first | exact hw | simpa [gI, setI, setR, setJ, setT] using hw) h1 h2
      · replace h1 := h1.2 cc
        replace h2 := h2.2 cc
        obtain ⟨k16, e0, _, _, h1⟩ := h1
        obtain ⟨k16x, f0, _, _, h2⟩ := h2
        have ee := Option.some.inj (e0.symm.trans f0)
        subst ee
        refine d_p_X6_tellsAsked (w := w) (by first | exact hw | simpa [gI, setI, setR, setJ, setT] using hw) h1 h2 (fun r21 s20 hw h1 h2 => ?_)
        exact hQ _ _ (by first | exact hw | simpa [gI, setI, setR, setJ, setT] using hw) h1 h2
    · replace h1 := h1.2 cc
      replace h2 := h2.2 cc
      refine d_p_X6_refuse (w := w) (by first | exact hw | simpa [gI, setI, setR, setJ, setT] using hw) h1 h2 (fun r25 s24 hw h1 h2 => ?_)
      exact hQ _ _ (by first | exact hw | simpa [gI, setI, setR, setJ, setT] using hw) h1 h2
theorem d_p_X6_tear {G : Prop} {Q1 Q2 : Int32 → Sg → Prop} {x0 : Nat} {x1 : Int32} {s : Sg} {w : Int32} (hw : gI s 0 20 = w) (h1 : p_X6_tear x0 x1 s Q1) (h2 : p_X6_tear x0 x1 s Q2) (hQ : ∀ (v0 : Int32) (v1 : Sg), gI v1 0 20 = w → Q1 v0 v1 → Q2 v0 v1 → G) : G := by
  unfold p_X6_tear at h1 h2
  refine d_p_X6_isRow (w := w) (by first | exact hw | simpa [gI, setI, setR, setJ, setT] using hw) h1 h2 (fun r2 s1 hw h1 h2 => ?_)
  by_cases cc : r2 = 0
  · replace h1 := h1.1 cc
    replace h2 := h2.1 cc
    exact hQ _ _ (by first | exact hw | simpa [gI, setI, setR, setJ, setT] using hw) h1 h2
  · replace h1 := h1.2 cc
    replace h2 := h2.2 cc
    obtain ⟨k4, e0, _, _, h1⟩ := h1
    obtain ⟨k4x, f0, _, _, h2⟩ := h2
    have ee := Option.some.inj (e0.symm.trans f0)
    subst ee
    by_cases cc : 0 ≤ (gR s1 k4 x1.toNatClampNeg)
    · replace h1 := h1.1 cc
      replace h2 := h2.1 cc
      obtain ⟨k9, e0, _, _, h1⟩ := h1
      obtain ⟨k9x, f0, _, _, h2⟩ := h2
      have ee := Option.some.inj (e0.symm.trans f0)
      subst ee
      exact hQ _ _ (by first | exact hw | simpa [gI, setI, setR, setJ, setT] using hw) h1 h2
    · replace h1 := h1.2 cc
      replace h2 := h2.2 cc
      refine d_p_X6_refuse (w := w) (by first | exact hw | simpa [gI, setI, setR, setJ, setT] using hw) h1 h2 (fun r14 s13 hw h1 h2 => ?_)
      exact hQ _ _ (by first | exact hw | simpa [gI, setI, setR, setJ, setT] using hw) h1 h2
theorem d_p_X6_copy_b45 {G : Prop} {Q1 Q2 : Int32 → Sg → Prop} {x0 : Nat} {s : Sg} {w : Int32} (hw : gI s 0 20 = w) (h1 : p_X6_copy_b45 Q1 x0 s) (h2 : p_X6_copy_b45 Q2 x0 s) (hQ : ∀ (v0 : Int32) (v1 : Sg), gI v1 0 20 = w → Q1 v0 v1 → Q2 v0 v1 → G) : G := by
  unfold p_X6_copy_b45 at h1 h2
  refine d_p_X6_refuse (w := w) (by first | exact hw | simpa [gI, setI, setR, setJ, setT] using hw) h1 h2 (fun r2 s1 hw h1 h2 => ?_)
  exact hQ _ _ (by first | exact hw | simpa [gI, setI, setR, setJ, setT] using hw) h1 h2
theorem d_p_X6_copy_b86 {G : Prop} {Q1 Q2 : Int32 → Sg → Prop} {x0 : Nat} {s : Sg} {w : Int32} (hw : gI s 0 20 = w) (h1 : p_X6_copy_b86 Q1 x0 s) (h2 : p_X6_copy_b86 Q2 x0 s) (hQ : ∀ (v0 : Int32) (v1 : Sg), gI v1 0 20 = w → Q1 v0 v1 → Q2 v0 v1 → G) : G := by
  unfold p_X6_copy_b86 at h1 h2
  refine d_p_X6_refuse (w := w) (by first | exact hw | simpa [gI, setI, setR, setJ, setT] using hw) h1 h2 (fun r2 s1 hw h1 h2 => ?_)
  exact hQ _ _ (by first | exact hw | simpa [gI, setI, setR, setJ, setT] using hw) h1 h2
theorem D_p_X6_copy_L132 {G : Prop} {Q1 Q2 : Int32 → Sg → Prop}  {w : Int32} (hQ : ∀ (v0 : Int32) (v1 : Sg), gI v1 0 20 = w → Q1 v0 v1 → Q2 v0 v1 → G) : ∀ (n m : Nat) (x0 : Nat) (x3 : Int32) (x4 : Int32) (x5 : Int32) (x6 : Int32) (s : Sg), gI s 0 20 = w → p_X6_copy_L132 Q1 n x0 x3 x4 x5 x6 s → p_X6_copy_L132 Q2 m x0 x3 x4 x5 x6 s → G := by
  intro n
  induction n with
  | zero =>
    intro m x0 x3 x4 x5 x6 s hw h1
    exact h1.elim
  | succ n ih =>
    intro m x0 x3 x4 x5 x6 s hw h1 h2
    cases m with
    | zero => exact h2.elim
    | succ m =>
      unfold p_X6_copy_L132 at h1 h2
      by_cases cc : x5 ≤ x6
      · replace h1 := h1.1 cc
        replace h2 := h2.1 cc
        exact hQ _ _ (by first | exact hw | simpa [gI, setI, setR, setJ, setT] using hw) h1 h2
      · replace h1 := h1.2 cc
        replace h2 := h2.2 cc
        obtain ⟨k2, e0, _, _, h1⟩ := h1
        obtain ⟨k2x, f0, _, _, h2⟩ := h2
        have ee := Option.some.inj (e0.symm.trans f0)
        subst ee
        obtain ⟨k6, e0, _, _, h1⟩ := h1
        obtain ⟨k6x, f0, _, _, h2⟩ := h2
        have ee := Option.some.inj (e0.symm.trans f0)
        subst ee
        exact ih _ _ _ _ _ _ _ (by first | exact hw | simpa [gI, setI, setR, setJ, setT] using hw) h1 h2
theorem d_p_X6_copy_L132 {G : Prop} {Q1 Q2 : Int32 → Sg → Prop}  {n m : Nat} {x0 : Nat} {x3 : Int32} {x4 : Int32} {x5 : Int32} {x6 : Int32} {s : Sg} {w : Int32} (hw : gI s 0 20 = w) (h1 : p_X6_copy_L132 Q1 n x0 x3 x4 x5 x6 s) (h2 : p_X6_copy_L132 Q2 m x0 x3 x4 x5 x6 s) (hQ : ∀ (v0 : Int32) (v1 : Sg), gI v1 0 20 = w → Q1 v0 v1 → Q2 v0 v1 → G) : G := D_p_X6_copy_L132 hQ n m x0 x3 x4 x5 x6 s hw h1 h2
theorem D_p_X6_copy_L95 {G : Prop} {Q1 Q2 : Int32 → Sg → Prop}  {w : Int32} (hQ : ∀ (v0 : Int32) (v1 : Sg), gI v1 0 20 = w → Q1 v0 v1 → Q2 v0 v1 → G) : ∀ (n m : Nat) (x0 : Nat) (x1 : Int32) (x2 : Int32) (x3 : Int32) (x4 : Int32) (x5 : Int32) (x6 : Int32) (s : Sg), gI s 0 20 = w → p_X6_copy_L95 Q1 n x0 x1 x2 x3 x4 x5 x6 s → p_X6_copy_L95 Q2 m x0 x1 x2 x3 x4 x5 x6 s → G := by
  intro n
  induction n with
  | zero =>
    intro m x0 x1 x2 x3 x4 x5 x6 s hw h1
    exact h1.elim
  | succ n ih =>
    intro m x0 x1 x2 x3 x4 x5 x6 s hw h1 h2
    cases m with
    | zero => exact h2.elim
    | succ m =>
      unfold p_X6_copy_L95 at h1 h2
      by_cases cc : x5 ≤ x6
      · replace h1 := h1.1 cc
        replace h2 := h2.1 cc
        obtain ⟨n2, h1⟩ := h1
        obtain ⟨n2x, h2⟩ := h2
        exact d_p_X6_copy_L132 (w := w) (by first | exact hw | simpa [gI, setI, setR, setJ, setT] using hw) h1 h2 hQ
      · replace h1 := h1.2 cc
        replace h2 := h2.2 cc
        obtain ⟨k3, e0, _, _, h1⟩ := h1
        obtain ⟨k3x, f0, _, _, h2⟩ := h2
        have ee := Option.some.inj (e0.symm.trans f0)
        subst ee
        obtain ⟨k7, e0, _, _, h1⟩ := h1
        obtain ⟨k7x, f0, _, _, h2⟩ := h2
        have ee := Option.some.inj (e0.symm.trans f0)
        subst ee
        exact ih _ _ _ _ _ _ _ _ _ (by first | exact hw | simpa [gI, setI, setR, setJ, setT] using hw) h1 h2
theorem d_p_X6_copy_L95 {G : Prop} {Q1 Q2 : Int32 → Sg → Prop}  {n m : Nat} {x0 : Nat} {x1 : Int32} {x2 : Int32} {x3 : Int32} {x4 : Int32} {x5 : Int32} {x6 : Int32} {s : Sg} {w : Int32} (hw : gI s 0 20 = w) (h1 : p_X6_copy_L95 Q1 n x0 x1 x2 x3 x4 x5 x6 s) (h2 : p_X6_copy_L95 Q2 m x0 x1 x2 x3 x4 x5 x6 s) (hQ : ∀ (v0 : Int32) (v1 : Sg), gI v1 0 20 = w → Q1 v0 v1 → Q2 v0 v1 → G) : G := D_p_X6_copy_L95 hQ n m x0 x1 x2 x3 x4 x5 x6 s hw h1 h2
theorem d_p_X6_copy {G : Prop} {Q1 Q2 : Int32 → Sg → Prop} {x0 : Nat} {x1 : Int32} {x2 : Int32} {x3 : Int32} {x4 : Int32} {x5 : Int32} {s : Sg} {w : Int32} (hw : gI s 0 20 = w) (h1 : p_X6_copy x0 x1 x2 x3 x4 x5 s Q1) (h2 : p_X6_copy x0 x1 x2 x3 x4 x5 s Q2) (hQ : ∀ (v0 : Int32) (v1 : Sg), gI v1 0 20 = w → Q1 v0 v1 → Q2 v0 v1 → G) : G := by
  unfold p_X6_copy at h1 h2
  refine d_p_X6_isRow (w := w) (by first | exact hw | simpa [gI, setI, setR, setJ, setT] using hw) h1 h2 (fun r2 s1 hw h1 h2 => ?_)
  by_cases cc : r2 = 0
  · replace h1 := h1.1 cc
    replace h2 := h2.1 cc
    exact hQ _ _ (by first | exact hw | simpa [gI, setI, setR, setJ, setT] using hw) h1 h2
  · replace h1 := h1.2 cc
    replace h2 := h2.2 cc
    refine d_p_X6_isRow (w := w) (by first | exact hw | simpa [gI, setI, setR, setJ, setT] using hw) h1 h2 (fun r5 s4 hw h1 h2 => ?_)
    by_cases cc : r5 = 0
    · replace h1 := h1.1 cc
      replace h2 := h2.1 cc
      exact hQ _ _ (by first | exact hw | simpa [gI, setI, setR, setJ, setT] using hw) h1 h2
    · replace h1 := h1.2 cc
      replace h2 := h2.2 cc
      by_cases cc : 0 ≤ x5
      · replace h1 := h1.1 cc
        replace h2 := h2.1 cc
        obtain ⟨k8, e0, _, _, h1⟩ := h1
        obtain ⟨k8x, f0, _, _, h2⟩ := h2
        have ee := Option.some.inj (e0.symm.trans f0)
        subst ee
        by_cases cc : (gR s4 k8 x1.toNatClampNeg) < 0
        · replace h1 := h1.1 cc
          replace h2 := h2.1 cc
          exact d_p_X6_copy_b45 (w := w) (by first | exact hw | simpa [gI, setI, setR, setJ, setT] using hw) h1 h2 hQ
        · replace h1 := h1.2 cc
          replace h2 := h2.2 cc
          obtain ⟨k13, e0, _, _, h1⟩ := h1
          obtain ⟨k13x, f0, _, _, h2⟩ := h2
          have ee := Option.some.inj (e0.symm.trans f0)
          subst ee
          by_cases cc : 0 ≤ (gR s4 k13 x3.toNatClampNeg)
          · replace h1 := h1.1 cc
            replace h2 := h2.1 cc
            obtain ⟨k18, e0, _, _, h1⟩ := h1
            obtain ⟨k18x, f0, _, _, h2⟩ := h2
            have ee := Option.some.inj (e0.symm.trans f0)
            subst ee
            refine d_p_X6_in (w := w) (by first | exact hw | simpa [gI, setI, setR, setJ, setT] using hw) h1 h2 (fun r23 s22 hw h1 h2 => ?_)
            by_cases cc : r23 = 0
            · replace h1 := h1.1 cc
              replace h2 := h2.1 cc
              exact d_p_X6_copy_b86 (w := w) (by first | exact hw | simpa [gI, setI, setR, setJ, setT] using hw) h1 h2 hQ
            · replace h1 := h1.2 cc
              replace h2 := h2.2 cc
              obtain ⟨k25, e0, _, _, h1⟩ := h1
              obtain ⟨k25x, f0, _, _, h2⟩ := h2
              have ee := Option.some.inj (e0.symm.trans f0)
              subst ee
              refine d_p_X6_in (w := w) (by first | exact hw | simpa [gI, setI, setR, setJ, setT] using hw) h1 h2 (fun r30 s29 hw h1 h2 => ?_)
              by_cases cc : r30 = 0
              · replace h1 := h1.1 cc
                replace h2 := h2.1 cc
                exact d_p_X6_copy_b86 (w := w) (by first | exact hw | simpa [gI, setI, setR, setJ, setT] using hw) h1 h2 hQ
              · replace h1 := h1.2 cc
                replace h2 := h2.2 cc
                obtain ⟨n32, h1⟩ := h1
                obtain ⟨n32x, h2⟩ := h2
                exact d_p_X6_copy_L95 (w := w) (by first | exact hw | simpa [gI, setI, setR, setJ, setT] using hw) h1 h2 hQ
          · replace h1 := h1.2 cc
            replace h2 := h2.2 cc
            exact d_p_X6_copy_b45 (w := w) (by first | exact hw | simpa [gI, setI, setR, setJ, setT] using hw) h1 h2 hQ
      · replace h1 := h1.2 cc
        replace h2 := h2.2 cc
        refine d_p_X6_refuse (w := w) (by first | exact hw | simpa [gI, setI, setR, setJ, setT] using hw) h1 h2 (fun r34 s33 hw h1 h2 => ?_)
        exact hQ _ _ (by first | exact hw | simpa [gI, setI, setR, setJ, setT] using hw) h1 h2
theorem D_p_X6_mean_L44 {G : Prop} {Q1 Q2 : Int32 → Sg → Prop}  {w : Int32} (hQ : ∀ (v0 : Int32) (v1 : Sg), gI v1 0 20 = w → Q1 v0 v1 → Q2 v0 v1 → G) : ∀ (n m : Nat) (x0 : Nat) (x1 : Int32) (x2 : Int64) (x4 : Int32) (s : Sg), gI s 0 20 = w → p_X6_mean_L44 Q1 n x0 x1 x2 x4 s → p_X6_mean_L44 Q2 m x0 x1 x2 x4 s → G := by
  intro n
  induction n with
  | zero =>
    intro m x0 x1 x2 x4 s hw h1
    exact h1.elim
  | succ n ih =>
    intro m x0 x1 x2 x4 s hw h1 h2
    cases m with
    | zero => exact h2.elim
    | succ m =>
      unfold p_X6_mean_L44 at h1 h2
      obtain ⟨k1, e0, _, _, h1⟩ := h1
      obtain ⟨k1x, f0, _, _, h2⟩ := h2
      have ee := Option.some.inj (e0.symm.trans f0)
      subst ee
      by_cases cc : (gR s k1 x1.toNatClampNeg) ≤ x4
      · replace h1 := h1.1 cc
        replace h2 := h2.1 cc
        obtain ⟨k6, e0, _, _, _, h1⟩ := h1
        obtain ⟨k6x, f0, _, _, _, h2⟩ := h2
        have ee := Option.some.inj (e0.symm.trans f0)
        subst ee
        refine d_p_X6_tellsAsked (w := w) (by first | exact hw | simpa [gI, setI, setR, setJ, setT] using hw) h1 h2 (fun r12 s11 hw h1 h2 => ?_)
        exact hQ _ _ (by first | exact hw | simpa [gI, setI, setR, setJ, setT] using hw) h1 h2
      · replace h1 := h1.2 cc
        replace h2 := h2.2 cc
        obtain ⟨k13, e0, _, _, h1⟩ := h1
        obtain ⟨k13x, f0, _, _, h2⟩ := h2
        have ee := Option.some.inj (e0.symm.trans f0)
        subst ee
        exact ih _ _ _ _ _ _ (by first | exact hw | simpa [gI, setI, setR, setJ, setT] using hw) h1 h2
theorem d_p_X6_mean_L44 {G : Prop} {Q1 Q2 : Int32 → Sg → Prop}  {n m : Nat} {x0 : Nat} {x1 : Int32} {x2 : Int64} {x4 : Int32} {s : Sg} {w : Int32} (hw : gI s 0 20 = w) (h1 : p_X6_mean_L44 Q1 n x0 x1 x2 x4 s) (h2 : p_X6_mean_L44 Q2 m x0 x1 x2 x4 s) (hQ : ∀ (v0 : Int32) (v1 : Sg), gI v1 0 20 = w → Q1 v0 v1 → Q2 v0 v1 → G) : G := D_p_X6_mean_L44 hQ n m x0 x1 x2 x4 s hw h1 h2
theorem d_p_X6_mean {G : Prop} {Q1 Q2 : Int32 → Sg → Prop} {x0 : Nat} {x1 : Int32} {s : Sg} {w : Int32} (hw : gI s 0 20 = w) (h1 : p_X6_mean x0 x1 s Q1) (h2 : p_X6_mean x0 x1 s Q2) (hQ : ∀ (v0 : Int32) (v1 : Sg), gI v1 0 20 = w → Q1 v0 v1 → Q2 v0 v1 → G) : G := by
  unfold p_X6_mean at h1 h2
  refine d_p_X6_isRow (w := w) (by first | exact hw | simpa [gI, setI, setR, setJ, setT] using hw) h1 h2 (fun r2 s1 hw h1 h2 => ?_)
  by_cases cc : r2 = 0
  · replace h1 := h1.1 cc
    replace h2 := h2.1 cc
    exact hQ _ _ (by first | exact hw | simpa [gI, setI, setR, setJ, setT] using hw) h1 h2
  · replace h1 := h1.2 cc
    replace h2 := h2.2 cc
    obtain ⟨k4, e0, _, _, h1⟩ := h1
    obtain ⟨k4x, f0, _, _, h2⟩ := h2
    have ee := Option.some.inj (e0.symm.trans f0)
    subst ee
    by_cases cc : 0 ≤ (gR s1 k4 x1.toNatClampNeg)
    · replace h1 := h1.1 cc
      replace h2 := h2.1 cc
      obtain ⟨k9, e0, _, _, h1⟩ := h1
      obtain ⟨k9x, f0, _, _, h2⟩ := h2
      have ee := Option.some.inj (e0.symm.trans f0)
      subst ee
      by_cases cc : (gR s1 k9 x1.toNatClampNeg) = 0
      · replace h1 := h1.1 cc
        replace h2 := h2.1 cc
        refine d_p_X6_refuse (w := w) (by first | exact hw | simpa [gI, setI, setR, setJ, setT] using hw) h1 h2 (fun r16 s15 hw h1 h2 => ?_)
        exact hQ _ _ (by first | exact hw | simpa [gI, setI, setR, setJ, setT] using hw) h1 h2
      · replace h1 := h1.2 cc
        replace h2 := h2.2 cc
        obtain ⟨n14, h1⟩ := h1
        obtain ⟨n14x, h2⟩ := h2
        exact d_p_X6_mean_L44 (w := w) (by first | exact hw | simpa [gI, setI, setR, setJ, setT] using hw) h1 h2 hQ
    · replace h1 := h1.2 cc
      replace h2 := h2.2 cc
      refine d_p_X6_refuse (w := w) (by first | exact hw | simpa [gI, setI, setR, setJ, setT] using hw) h1 h2 (fun r18 s17 hw h1 h2 => ?_)
      exact hQ _ _ (by first | exact hw | simpa [gI, setI, setR, setJ, setT] using hw) h1 h2
theorem d_p_X6_isText {G : Prop} {Q1 Q2 : Int32 → Sg → Prop} {x0 : Int32} {s : Sg} {w : Int32} (hw : gI s 0 20 = w) (h1 : p_X6_isText x0 s Q1) (h2 : p_X6_isText x0 s Q2) (hQ : ∀ (v0 : Int32) (v1 : Sg), gI v1 0 20 = w → Q1 v0 v1 → Q2 v0 v1 → G) : G := by
  unfold p_X6_isText at h1 h2
  refine d_p_X6_in (w := w) (by first | exact hw | simpa [gI, setI, setR, setJ, setT] using hw) h1 h2 (fun r2 s1 hw h1 h2 => ?_)
  obtain ⟨_, h1⟩ := h1
  obtain ⟨_, h2⟩ := h2
  exact hQ _ _ (by first | exact hw | simpa [gI, setI, setR, setJ, setT] using hw) h1 h2
theorem D_p_X6_text_L34 {G : Prop} {Q1 Q2 : Int32 → Sg → Prop}  {w : Int32} (hQ : ∀ (v0 : Int32) (v1 : Sg), gI v1 0 20 = w → Q1 v0 v1 → Q2 v0 v1 → G) : ∀ (n m : Nat) (x0 : Nat) (x1 : Int32) (x2 : Int32) (x3 : Int32) (s : Sg), gI s 0 20 = w → p_X6_text_L34 Q1 n x0 x1 x2 x3 s → p_X6_text_L34 Q2 m x0 x1 x2 x3 s → G := by
  intro n
  induction n with
  | zero =>
    intro m x0 x1 x2 x3 s hw h1
    exact h1.elim
  | succ n ih =>
    intro m x0 x1 x2 x3 s hw h1 h2
    cases m with
    | zero => exact h2.elim
    | succ m =>
      unfold p_X6_text_L34 at h1 h2
      by_cases cc : 60 ≤ x3
      · replace h1 := h1.1 cc
        replace h2 := h2.1 cc
        exact hQ _ _ (by first | exact hw | simpa [gI, setI, setR, setJ, setT] using hw) h1 h2
      · replace h1 := h1.2 cc
        replace h2 := h2.2 cc
        obtain ⟨k2, e0, _, _, h1⟩ := h1
        obtain ⟨k2x, f0, _, _, h2⟩ := h2
        have ee := Option.some.inj (e0.symm.trans f0)
        subst ee
        exact ih _ _ _ _ _ _ (by first | exact hw | simpa [gI, setI, setR, setJ, setT] using hw) h1 h2
theorem d_p_X6_text_L34 {G : Prop} {Q1 Q2 : Int32 → Sg → Prop}  {n m : Nat} {x0 : Nat} {x1 : Int32} {x2 : Int32} {x3 : Int32} {s : Sg} {w : Int32} (hw : gI s 0 20 = w) (h1 : p_X6_text_L34 Q1 n x0 x1 x2 x3 s) (h2 : p_X6_text_L34 Q2 m x0 x1 x2 x3 s) (hQ : ∀ (v0 : Int32) (v1 : Sg), gI v1 0 20 = w → Q1 v0 v1 → Q2 v0 v1 → G) : G := D_p_X6_text_L34 hQ n m x0 x1 x2 x3 s hw h1 h2
theorem d_p_X6_text {G : Prop} {Q1 Q2 : Int32 → Sg → Prop} {x0 : Nat} {x1 : Int32} {x2 : Int32} {s : Sg} {w : Int32} (hw : gI s 0 20 = w) (h1 : p_X6_text x0 x1 x2 s Q1) (h2 : p_X6_text x0 x1 x2 s Q2) (hQ : ∀ (v0 : Int32) (v1 : Sg), gI v1 0 20 = w → Q1 v0 v1 → Q2 v0 v1 → G) : G := by
  unfold p_X6_text at h1 h2
  refine d_p_X6_isText (w := w) (by first | exact hw | simpa [gI, setI, setR, setJ, setT] using hw) h1 h2 (fun r2 s1 hw h1 h2 => ?_)
  by_cases cc : r2 = 0
  · replace h1 := h1.1 cc
    replace h2 := h2.1 cc
    exact hQ _ _ (by first | exact hw | simpa [gI, setI, setR, setJ, setT] using hw) h1 h2
  · replace h1 := h1.2 cc
    replace h2 := h2.2 cc
    by_cases cc : x2 ≤ 60
    · replace h1 := h1.1 cc
      replace h2 := h2.1 cc
      by_cases cc : 0 ≤ x2
      · replace h1 := h1.1 cc
        replace h2 := h2.1 cc
        obtain ⟨k6, e0, _, _, h1⟩ := h1
        obtain ⟨k6x, f0, _, _, h2⟩ := h2
        have ee := Option.some.inj (e0.symm.trans f0)
        subst ee
        obtain ⟨n10, h1⟩ := h1
        obtain ⟨n10x, h2⟩ := h2
        exact d_p_X6_text_L34 (w := w) (by first | exact hw | simpa [gI, setI, setR, setJ, setT] using hw) h1 h2 hQ
      · replace h1 := h1.2 cc
        replace h2 := h2.2 cc
        refine d_p_X6_refuse (w := w) (by first | exact hw | simpa [gI, setI, setR, setJ, setT] using hw) h1 h2 (fun r12 s11 hw h1 h2 => ?_)
        exact hQ _ _ (by first | exact hw | simpa [gI, setI, setR, setJ, setT] using hw) h1 h2
    · replace h1 := h1.2 cc
      replace h2 := h2.2 cc
      exact hQ _ _ (by first | exact hw | simpa [gI, setI, setR, setJ, setT] using hw) h1 h2
theorem d_p_X6_put {G : Prop} {Q1 Q2 : Int32 → Sg → Prop} {x0 : Nat} {x1 : Int32} {x2 : Int32} {x3 : Int32} {s : Sg} {w : Int32} (hw : gI s 0 20 = w) (h1 : p_X6_put x0 x1 x2 x3 s Q1) (h2 : p_X6_put x0 x1 x2 x3 s Q2) (hQ : ∀ (v0 : Int32) (v1 : Sg), gI v1 0 20 = w → Q1 v0 v1 → Q2 v0 v1 → G) : G := by
  unfold p_X6_put at h1 h2
  refine d_p_X6_isText (w := w) (by first | exact hw | simpa [gI, setI, setR, setJ, setT] using hw) h1 h2 (fun r2 s1 hw h1 h2 => ?_)
  by_cases cc : r2 = 0
  · replace h1 := h1.1 cc
    replace h2 := h2.1 cc
    exact hQ _ _ (by first | exact hw | simpa [gI, setI, setR, setJ, setT] using hw) h1 h2
  · replace h1 := h1.2 cc
    replace h2 := h2.2 cc
    obtain ⟨k4, e0, _, _, h1⟩ := h1
    obtain ⟨k4x, f0, _, _, h2⟩ := h2
    have ee := Option.some.inj (e0.symm.trans f0)
    subst ee
    by_cases cc : 0 ≤ (gR s1 k4 x1.toNatClampNeg)
    · replace h1 := h1.1 cc
      replace h2 := h2.1 cc
      obtain ⟨k9, e0, _, _, h1⟩ := h1
      obtain ⟨k9x, f0, _, _, h2⟩ := h2
      have ee := Option.some.inj (e0.symm.trans f0)
      subst ee
      refine d_p_X6_in (w := w) (by first | exact hw | simpa [gI, setI, setR, setJ, setT] using hw) h1 h2 (fun r14 s13 hw h1 h2 => ?_)
      by_cases cc : r14 = 0
      · replace h1 := h1.1 cc
        replace h2 := h2.1 cc
        refine d_p_X6_refuse (w := w) (by first | exact hw | simpa [gI, setI, setR, setJ, setT] using hw) h1 h2 (fun r25 s24 hw h1 h2 => ?_)
        exact hQ _ _ (by first | exact hw | simpa [gI, setI, setR, setJ, setT] using hw) h1 h2
      · replace h1 := h1.2 cc
        replace h2 := h2.2 cc
        obtain ⟨k16, e0, _, _, h1⟩ := h1
        obtain ⟨k16x, f0, _, _, h2⟩ := h2
        have ee := Option.some.inj (e0.symm.trans f0)
        subst ee
        obtain ⟨k20, e0, _, _, h1⟩ := h1
        obtain ⟨k20x, f0, _, _, h2⟩ := h2
        have ee := Option.some.inj (e0.symm.trans f0)
        subst ee
        exact hQ _ _ (by first | exact hw | simpa [gI, setI, setR, setJ, setT] using hw) h1 h2
    · replace h1 := h1.2 cc
      replace h2 := h2.2 cc
      refine d_p_X6_refuse (w := w) (by first | exact hw | simpa [gI, setI, setR, setJ, setT] using hw) h1 h2 (fun r27 s26 hw h1 h2 => ?_)
      exact hQ _ _ (by first | exact hw | simpa [gI, setI, setR, setJ, setT] using hw) h1 h2
theorem d_p_X6_here {G : Prop} {Q1 Q2 : Int32 → Sg → Prop} {x0 : Nat} {s : Sg} {w : Int32} (hw : gI s 0 20 = w) (h1 : p_X6_here x0 s Q1) (h2 : p_X6_here x0 s Q2) (hQ : ∀ (v0 : Int32) (v1 : Sg), gI v1 0 20 = w → Q1 v0 v1 → Q2 v0 v1 → G) : G := by
  unfold p_X6_here at h1 h2
  obtain ⟨k1, e0, _, _, h1⟩ := h1
  obtain ⟨k1x, f0, _, _, h2⟩ := h2
  have ee := Option.some.inj (e0.symm.trans f0)
  subst ee
  by_cases cc : (gR s k1 (gI s x0 17).toNatClampNeg) ≤ (gI s x0 18)
  · replace h1 := h1.1 cc
    replace h2 := h2.1 cc
    exact hQ _ _ (by first | exact hw | simpa [gI, setI, setR, setJ, setT] using hw) h1 h2
  · replace h1 := h1.2 cc
    replace h2 := h2.2 cc
    obtain ⟨k6, e0, _, _, h1⟩ := h1
    obtain ⟨k6x, f0, _, _, h2⟩ := h2
    have ee := Option.some.inj (e0.symm.trans f0)
    subst ee
    exact hQ _ _ (by first | exact hw | simpa [gI, setI, setR, setJ, setT] using hw) h1 h2
theorem D_p_X6_skip_L0 {G : Prop} {Q1 Q2 : Sg → Prop}  {w : Int32} (hQ : ∀ (v0 : Sg), gI v0 0 20 = w → Q1 v0 → Q2 v0 → G) : ∀ (n m : Nat) (x0 : Nat) (s : Sg), gI s 0 20 = w → p_X6_skip_L0 Q1 n x0 s → p_X6_skip_L0 Q2 m x0 s → G := by
  intro n
  induction n with
  | zero =>
    intro m x0 s hw h1
    exact h1.elim
  | succ n ih =>
    intro m x0 s hw h1 h2
    cases m with
    | zero => exact h2.elim
    | succ m =>
      unfold p_X6_skip_L0 at h1 h2
      refine d_p_X6_here (w := w) (by first | exact hw | simpa [gI, setI, setR, setJ, setT] using hw) h1 h2 (fun r2 s1 hw h1 h2 => ?_)
      by_cases cc : r2 = 32
      · replace h1 := h1.1 cc
        replace h2 := h2.1 cc
        exact ih _ _ _ (by first | exact hw | simpa [gI, setI, setR, setJ, setT] using hw) h1 h2
      · replace h1 := h1.2 cc
        replace h2 := h2.2 cc
        exact hQ _ (by first | exact hw | simpa [gI, setI, setR, setJ, setT] using hw) h1 h2
theorem d_p_X6_skip_L0 {G : Prop} {Q1 Q2 : Sg → Prop}  {n m : Nat} {x0 : Nat} {s : Sg} {w : Int32} (hw : gI s 0 20 = w) (h1 : p_X6_skip_L0 Q1 n x0 s) (h2 : p_X6_skip_L0 Q2 m x0 s) (hQ : ∀ (v0 : Sg), gI v0 0 20 = w → Q1 v0 → Q2 v0 → G) : G := D_p_X6_skip_L0 hQ n m x0 s hw h1 h2
theorem d_p_X6_skip {G : Prop} {Q1 Q2 : Sg → Prop} {x0 : Nat} {s : Sg} {w : Int32} (hw : gI s 0 20 = w) (h1 : p_X6_skip x0 s Q1) (h2 : p_X6_skip x0 s Q2) (hQ : ∀ (v0 : Sg), gI v0 0 20 = w → Q1 v0 → Q2 v0 → G) : G := by
  unfold p_X6_skip at h1 h2
  obtain ⟨n, h1⟩ := h1
  obtain ⟨nx, h2⟩ := h2
  exact d_p_X6_skip_L0 (w := w) (by first | exact hw | simpa [gI, setI, setR, setJ, setT] using hw) h1 h2 hQ
theorem d_p_X6_figure {G : Prop} {Q1 Q2 : Int32 → Sg → Prop} {x0 : Nat} {x1 : Int32} {x2 : Int32} {s : Sg} {w : Int32} (hw : gI s 0 20 = w) (h1 : p_X6_figure x0 x1 x2 s Q1) (h2 : p_X6_figure x0 x1 x2 s Q2) (hQ : ∀ (v0 : Int32) (v1 : Sg), gI v1 0 20 = w → Q1 v0 v1 → Q2 v0 v1 → G) : G := by
  unfold p_X6_figure at h1 h2
  refine d_p_X6_here (w := w) (by first | exact hw | simpa [gI, setI, setR, setJ, setT] using hw) h1 h2 (fun r2 s1 hw h1 h2 => ?_)
  by_cases cc : (gI s1 x0 19) = ((-9))
  · replace h1 := h1.1 cc
    replace h2 := h2.1 cc
    refine d_p_X6_in (w := w) (by first | exact hw | simpa [gI, setI, setR, setJ, setT] using hw) h1 h2 (fun r5 s4 hw h1 h2 => ?_)
    by_cases cc : r5 = 0
    · replace h1 := h1.1 cc
      replace h2 := h2.1 cc
      exact hQ _ _ (by first | exact hw | simpa [gI, setI, setR, setJ, setT] using hw) h1 h2
    · replace h1 := h1.2 cc
      replace h2 := h2.2 cc
      exact hQ _ _ (by first | exact hw | simpa [gI, setI, setR, setJ, setT] using hw) h1 h2
  · replace h1 := h1.2 cc
    replace h2 := h2.2 cc
    exact hQ _ _ (by first | exact hw | simpa [gI, setI, setR, setJ, setT] using hw) h1 h2
theorem d_p_X6_kindBy {G : Prop} {Q1 Q2 : Int32 → Sg → Prop} {x0 : Int32} {s : Sg} {w : Int32} (hw : gI s 0 20 = w) (h1 : p_X6_kindBy x0 s Q1) (h2 : p_X6_kindBy x0 s Q2) (hQ : ∀ (v0 : Int32) (v1 : Sg), gI v1 0 20 = w → Q1 v0 v1 → Q2 v0 v1 → G) : G := by
  unfold p_X6_kindBy at h1 h2
  by_cases cc : x0 = 97
  · replace h1 := h1.1 cc
    replace h2 := h2.1 cc
    exact hQ _ _ (by first | exact hw | simpa [gI, setI, setR, setJ, setT] using hw) h1 h2
  · replace h1 := h1.2 cc
    replace h2 := h2.2 cc
    by_cases cc : x0 = 98
    · replace h1 := h1.1 cc
      replace h2 := h2.1 cc
      exact hQ _ _ (by first | exact hw | simpa [gI, setI, setR, setJ, setT] using hw) h1 h2
    · replace h1 := h1.2 cc
      replace h2 := h2.2 cc
      by_cases cc : x0 = 103
      · replace h1 := h1.1 cc
        replace h2 := h2.1 cc
        exact hQ _ _ (by first | exact hw | simpa [gI, setI, setR, setJ, setT] using hw) h1 h2
      · replace h1 := h1.2 cc
        replace h2 := h2.2 cc
        by_cases cc : x0 = 108
        · replace h1 := h1.1 cc
          replace h2 := h2.1 cc
          exact hQ _ _ (by first | exact hw | simpa [gI, setI, setR, setJ, setT] using hw) h1 h2
        · replace h1 := h1.2 cc
          replace h2 := h2.2 cc
          by_cases cc : x0 = 118
          · replace h1 := h1.1 cc
            replace h2 := h2.1 cc
            exact hQ _ _ (by first | exact hw | simpa [gI, setI, setR, setJ, setT] using hw) h1 h2
          · replace h1 := h1.2 cc
            replace h2 := h2.2 cc
            by_cases cc : x0 = 119
            · replace h1 := h1.1 cc
              replace h2 := h2.1 cc
              exact hQ _ _ (by first | exact hw | simpa [gI, setI, setR, setJ, setT] using hw) h1 h2
            · replace h1 := h1.2 cc
              replace h2 := h2.2 cc
              exact hQ _ _ (by first | exact hw | simpa [gI, setI, setR, setJ, setT] using hw) h1 h2
theorem d_p_X6_readWoman_b23 {G : Prop} {Q1 Q2 : Sg → Prop} {x0 : Nat} {s : Sg} {w : Int32} (hw : gI s 0 20 = w) (h1 : p_X6_readWoman_b23 Q1 x0 s) (h2 : p_X6_readWoman_b23 Q2 x0 s) (hQ : ∀ (v0 : Sg), gI v0 0 20 = w → Q1 v0 → Q2 v0 → G) : G := by
  unfold p_X6_readWoman_b23 at h1 h2
  exact hQ _ (by first | exact hw | simpa [gI, setI, setR, setJ, setT] using hw) h1 h2
theorem d_p_X6_readWoman {G : Prop} {Q1 Q2 : Sg → Prop} {x0 : Nat} {s : Sg} {w : Int32} (hw : gI s 0 20 = w) (h1 : p_X6_readWoman x0 s Q1) (h2 : p_X6_readWoman x0 s Q2) (hQ : ∀ (v0 : Sg), gI v0 0 20 = w → Q1 v0 → Q2 v0 → G) : G := by
  unfold p_X6_readWoman at h1 h2
  refine d_p_X6_here (w := w) (by first | exact hw | simpa [gI, setI, setR, setJ, setT] using hw) h1 h2 (fun r2 s1 hw h1 h2 => ?_)
  refine d_p_X6_kindBy (w := w) (by first | exact hw | simpa [gI, setI, setR, setJ, setT] using hw) h1 h2 (fun r4 s3 hw h1 h2 => ?_)
  by_cases cc : r4 = ((-9))
  · replace h1 := h1.1 cc
    replace h2 := h2.1 cc
    exact d_p_X6_readWoman_b23 (w := w) (by first | exact hw | simpa [gI, setI, setR, setJ, setT] using hw) h1 h2 hQ
  · replace h1 := h1.2 cc
    replace h2 := h2.2 cc
    by_cases cc : (gI s3 x0 12) = 6
    · replace h1 := h1.1 cc
      replace h2 := h2.1 cc
      exact d_p_X6_readWoman_b23 (w := w) (by first | exact hw | simpa [gI, setI, setR, setJ, setT] using hw) h1 h2 hQ
    · replace h1 := h1.2 cc
      replace h2 := h2.2 cc
      obtain ⟨k7, e0, _, _, h1⟩ := h1
      obtain ⟨k7x, f0, _, _, h2⟩ := h2
      have ee := Option.some.inj (e0.symm.trans f0)
      subst ee
      refine d_p_X6_figure (w := w) (by first | exact hw | simpa [gI, setI, setR, setJ, setT] using hw) h1 h2 (fun r12 s11 hw h1 h2 => ?_)
      obtain ⟨k13, e0, _, _, h1⟩ := h1
      obtain ⟨k13x, f0, _, _, h2⟩ := h2
      have ee := Option.some.inj (e0.symm.trans f0)
      subst ee
      refine d_p_X6_figure (w := w) (by first | exact hw | simpa [gI, setI, setR, setJ, setT] using hw) h1 h2 (fun r18 s17 hw h1 h2 => ?_)
      obtain ⟨k19, e0, _, _, h1⟩ := h1
      obtain ⟨k19x, f0, _, _, h2⟩ := h2
      have ee := Option.some.inj (e0.symm.trans f0)
      subst ee
      refine d_p_X6_figure (w := w) (by first | exact hw | simpa [gI, setI, setR, setJ, setT] using hw) h1 h2 (fun r24 s23 hw h1 h2 => ?_)
      obtain ⟨k25, e0, _, _, h1⟩ := h1
      obtain ⟨k25x, f0, _, _, h2⟩ := h2
      have ee := Option.some.inj (e0.symm.trans f0)
      subst ee
      exact hQ _ (by first | exact hw | simpa [gI, setI, setR, setJ, setT] using hw) h1 h2
theorem d_p_X6_read_b164 {G : Prop} {Q1 Q2 : Sg → Prop} {K1081 K1082 : Nat → Int32 → Int32 → Sg → Prop} {x0 : Nat} {x1 : Int32} {t0 : Int32} {s : Sg} {w : Int32} (hw : gI s 0 20 = w) (h1 : p_X6_read_b164 Q1 K1081 x0 x1 t0 s) (h2 : p_X6_read_b164 Q2 K1082 x0 x1 t0 s) (hQ : ∀ (v0 : Sg), gI v0 0 20 = w → Q1 v0 → Q2 v0 → G) (hK108 : ∀ (v0 : Nat) (v1 : Int32) (v2 : Int32) (v3 : Sg), gI v3 0 20 = w → K1081 v0 v1 v2 v3 → K1082 v0 v1 v2 v3 → G) : G := by
  unfold p_X6_read_b164 at h1 h2
  exact hK108 _ _ _ _ (by first | exact hw | simpa [gI, setI, setR, setJ, setT] using hw) h1 h2
theorem d_p_X6_read_b141 {G : Prop} {Q1 Q2 : Sg → Prop} {K1081 K1082 : Nat → Int32 → Int32 → Sg → Prop} {x0 : Nat} {x1 : Int32} {t0 : Int32} {s : Sg} {w : Int32} (hw : gI s 0 20 = w) (h1 : p_X6_read_b141 Q1 K1081 x0 x1 t0 s) (h2 : p_X6_read_b141 Q2 K1082 x0 x1 t0 s) (hQ : ∀ (v0 : Sg), gI v0 0 20 = w → Q1 v0 → Q2 v0 → G) (hK108 : ∀ (v0 : Nat) (v1 : Int32) (v2 : Int32) (v3 : Sg), gI v3 0 20 = w → K1081 v0 v1 v2 v3 → K1082 v0 v1 v2 v3 → G) : G := by
  unfold p_X6_read_b141 at h1 h2
  by_cases cc : t0 = 0
  · replace h1 := h1.1 cc
    replace h2 := h2.1 cc
    exact hK108 _ _ _ _ (by first | exact hw | simpa [gI, setI, setR, setJ, setT] using hw) h1 h2
  · replace h1 := h1.2 cc
    replace h2 := h2.2 cc
    refine d_p_X6_readWoman (w := w) (by first | exact hw | simpa [gI, setI, setR, setJ, setT] using hw) h1 h2 (fun s2 hw h1 h2 => ?_)
    by_cases cc : (gI s2 x0 19) = ((-9))
    · replace h1 := h1.1 cc
      replace h2 := h2.1 cc
      exact d_p_X6_read_b164 (w := w) (by first | exact hw | simpa [gI, setI, setR, setJ, setT] using hw) h1 h2 hQ hK108
    · replace h1 := h1.2 cc
      replace h2 := h2.2 cc
      exact d_p_X6_read_b164 (w := w) (by first | exact hw | simpa [gI, setI, setR, setJ, setT] using hw) h1 h2 hQ hK108
theorem d_p_X6_read_b136 {G : Prop} {Q1 Q2 : Sg → Prop} {K1081 K1082 : Nat → Int32 → Int32 → Sg → Prop} {x0 : Nat} {x1 : Int32} {s : Sg} {w : Int32} (hw : gI s 0 20 = w) (h1 : p_X6_read_b136 Q1 K1081 x0 x1 s) (h2 : p_X6_read_b136 Q2 K1082 x0 x1 s) (hQ : ∀ (v0 : Sg), gI v0 0 20 = w → Q1 v0 → Q2 v0 → G) (hK108 : ∀ (v0 : Nat) (v1 : Int32) (v2 : Int32) (v3 : Sg), gI v3 0 20 = w → K1081 v0 v1 v2 v3 → K1082 v0 v1 v2 v3 → G) : G := by
  unfold p_X6_read_b136 at h1 h2
  exact d_p_X6_read_b141 (w := w) (by first | exact hw | simpa [gI, setI, setR, setJ, setT] using hw) h1 h2 hQ hK108
theorem D_p_X6_read_L108 {G : Prop} {Q1 Q2 : Sg → Prop}  {w : Int32} (hQ : ∀ (v0 : Sg), gI v0 0 20 = w → Q1 v0 → Q2 v0 → G) : ∀ (n m : Nat) (x0 : Nat) (x1 : Int32) (x2 : Int32) (s : Sg), gI s 0 20 = w → p_X6_read_L108 Q1 n x0 x1 x2 s → p_X6_read_L108 Q2 m x0 x1 x2 s → G := by
  intro n
  induction n with
  | zero =>
    intro m x0 x1 x2 s hw h1
    exact h1.elim
  | succ n ih =>
    intro m x0 x1 x2 s hw h1 h2
    cases m with
    | zero => exact h2.elim
    | succ m =>
      unfold p_X6_read_L108 at h1 h2
      by_cases cc : x2 = 0
      · replace h1 := h1.1 cc
        replace h2 := h2.1 cc
        exact hQ _ (by first | exact hw | simpa [gI, setI, setR, setJ, setT] using hw) h1 h2
      · replace h1 := h1.2 cc
        replace h2 := h2.2 cc
        refine d_p_X6_skip (w := w) (by first | exact hw | simpa [gI, setI, setR, setJ, setT] using hw) h1 h2 (fun s2 hw h1 h2 => ?_)
        obtain ⟨k3, e0, _, _, h1⟩ := h1
        obtain ⟨k3x, f0, _, _, h2⟩ := h2
        have ee := Option.some.inj (e0.symm.trans f0)
        subst ee
        by_cases cc : (gI s2 x0 18) < (gR s2 k3 x1.toNatClampNeg)
        · replace h1 := h1.1 cc
          replace h2 := h2.1 cc
          exact d_p_X6_read_b136 (w := w) (by first | exact hw | simpa [gI, setI, setR, setJ, setT] using hw) h1 h2 hQ (fun _ _ _ _ hw h1 h2 => ih _ _ _ _ _ hw h1 h2)
        · replace h1 := h1.2 cc
          replace h2 := h2.2 cc
          by_cases cc : (gI s2 x0 12) = 0
          · replace h1 := h1.1 cc
            replace h2 := h2.1 cc
            exact d_p_X6_read_b136 (w := w) (by first | exact hw | simpa [gI, setI, setR, setJ, setT] using hw) h1 h2 hQ (fun _ _ _ _ hw h1 h2 => ih _ _ _ _ _ hw h1 h2)
          · replace h1 := h1.2 cc
            replace h2 := h2.2 cc
            exact d_p_X6_read_b141 (w := w) (by first | exact hw | simpa [gI, setI, setR, setJ, setT] using hw) h1 h2 hQ (fun _ _ _ _ hw h1 h2 => ih _ _ _ _ _ hw h1 h2)
theorem d_p_X6_read_L108 {G : Prop} {Q1 Q2 : Sg → Prop}  {n m : Nat} {x0 : Nat} {x1 : Int32} {x2 : Int32} {s : Sg} {w : Int32} (hw : gI s 0 20 = w) (h1 : p_X6_read_L108 Q1 n x0 x1 x2 s) (h2 : p_X6_read_L108 Q2 m x0 x1 x2 s) (hQ : ∀ (v0 : Sg), gI v0 0 20 = w → Q1 v0 → Q2 v0 → G) : G := D_p_X6_read_L108 hQ n m x0 x1 x2 s hw h1 h2
theorem d_p_X6_read_b107 {G : Prop} {Q1 Q2 : Sg → Prop} {x0 : Nat} {x1 : Int32} {t0 : Int32} {s : Sg} {w : Int32} (hw : gI s 0 20 = w) (h1 : p_X6_read_b107 Q1 x0 x1 t0 s) (h2 : p_X6_read_b107 Q2 x0 x1 t0 s) (hQ : ∀ (v0 : Sg), gI v0 0 20 = w → Q1 v0 → Q2 v0 → G) : G := by
  unfold p_X6_read_b107 at h1 h2
  obtain ⟨n1, h1⟩ := h1
  obtain ⟨n1x, h2⟩ := h2
  exact d_p_X6_read_L108 (w := w) (by first | exact hw | simpa [gI, setI, setR, setJ, setT] using hw) h1 h2 hQ
theorem D_p_X6_read_L57 {G : Prop} {Q1 Q2 : Sg → Prop}  {w : Int32} (hQ : ∀ (v0 : Sg), gI v0 0 20 = w → Q1 v0 → Q2 v0 → G) : ∀ (n m : Nat) (x0 : Nat) (x1 : Int32) (x2 : Int32) (s : Sg), gI s 0 20 = w → p_X6_read_L57 Q1 n x0 x1 x2 s → p_X6_read_L57 Q2 m x0 x1 x2 s → G := by
  intro n
  induction n with
  | zero =>
    intro m x0 x1 x2 s hw h1
    exact h1.elim
  | succ n ih =>
    intro m x0 x1 x2 s hw h1 h2
    cases m with
    | zero => exact h2.elim
    | succ m =>
      unfold p_X6_read_L57 at h1 h2
      by_cases cc : 6 ≤ x2
      · replace h1 := h1.1 cc
        replace h2 := h2.1 cc
        refine d_p_X6_figure (w := w) (by first | exact hw | simpa [gI, setI, setR, setJ, setT] using hw) h1 h2 (fun r3 s2 hw h1 h2 => ?_)
        by_cases cc : (gI (setI s2 x0 11 r3) x0 19) = ((-9))
        · replace h1 := h1.1 cc
          replace h2 := h2.1 cc
          exact d_p_X6_read_b107 (w := w) (by first | exact hw | simpa [gI, setI, setR, setJ, setT] using hw) h1 h2 hQ
        · replace h1 := h1.2 cc
          replace h2 := h2.2 cc
          exact d_p_X6_read_b107 (w := w) (by first | exact hw | simpa [gI, setI, setR, setJ, setT] using hw) h1 h2 hQ
      · replace h1 := h1.2 cc
        replace h2 := h2.2 cc
        refine d_p_X6_figure (w := w) (by first | exact hw | simpa [gI, setI, setR, setJ, setT] using hw) h1 h2 (fun r6 s5 hw h1 h2 => ?_)
        obtain ⟨k7, e0, _, _, h1⟩ := h1
        obtain ⟨k7x, f0, _, _, h2⟩ := h2
        have ee := Option.some.inj (e0.symm.trans f0)
        subst ee
        exact ih _ _ _ _ _ (by first | exact hw | simpa [gI, setI, setR, setJ, setT] using hw) h1 h2
theorem d_p_X6_read_L57 {G : Prop} {Q1 Q2 : Sg → Prop}  {n m : Nat} {x0 : Nat} {x1 : Int32} {x2 : Int32} {s : Sg} {w : Int32} (hw : gI s 0 20 = w) (h1 : p_X6_read_L57 Q1 n x0 x1 x2 s) (h2 : p_X6_read_L57 Q2 m x0 x1 x2 s) (hQ : ∀ (v0 : Sg), gI v0 0 20 = w → Q1 v0 → Q2 v0 → G) : G := D_p_X6_read_L57 hQ n m x0 x1 x2 s hw h1 h2
theorem d_p_X6_read_b55 {G : Prop} {Q1 Q2 : Sg → Prop} {x0 : Nat} {x1 : Int32} {s : Sg} {w : Int32} (hw : gI s 0 20 = w) (h1 : p_X6_read_b55 Q1 x0 x1 s) (h2 : p_X6_read_b55 Q2 x0 x1 s) (hQ : ∀ (v0 : Sg), gI v0 0 20 = w → Q1 v0 → Q2 v0 → G) : G := by
  unfold p_X6_read_b55 at h1 h2
  obtain ⟨n1, h1⟩ := h1
  obtain ⟨n1x, h2⟩ := h2
  exact d_p_X6_read_L57 (w := w) (by first | exact hw | simpa [gI, setI, setR, setJ, setT] using hw) h1 h2 hQ
theorem d_p_X6_read {G : Prop} {Q1 Q2 : Sg → Prop} {x0 : Nat} {x1 : Int32} {s : Sg} {w : Int32} (hw : gI s 0 20 = w) (h1 : p_X6_read x0 x1 s Q1) (h2 : p_X6_read x0 x1 s Q2) (hQ : ∀ (v0 : Sg), gI v0 0 20 = w → Q1 v0 → Q2 v0 → G) : G := by
  unfold p_X6_read at h1 h2
  refine d_p_X6_skip (w := w) (by first | exact hw | simpa [gI, setI, setR, setJ, setT] using hw) h1 h2 (fun s1 hw h1 h2 => ?_)
  refine d_p_X6_here (w := w) (by first | exact hw | simpa [gI, setI, setR, setJ, setT] using hw) h1 h2 (fun r3 s2 hw h1 h2 => ?_)
  by_cases cc : r3 = 100
  · replace h1 := h1.1 cc
    replace h2 := h2.1 cc
    exact d_p_X6_read_b55 (w := w) (by first | exact hw | simpa [gI, setI, setR, setJ, setT] using hw) h1 h2 hQ
  · replace h1 := h1.2 cc
    replace h2 := h2.2 cc
    exact d_p_X6_read_b55 (w := w) (by first | exact hw | simpa [gI, setI, setR, setJ, setT] using hw) h1 h2 hQ
theorem d_p_X6_fault {G : Prop} {Q1 Q2 : Int32 → Sg → Prop} {x0 : Nat} {x1 : Int32} {s : Sg} {w : Int32} (hw : gI s 0 20 = w) (h1 : p_X6_fault x0 x1 s Q1) (h2 : p_X6_fault x0 x1 s Q2) (hQ : ∀ (v0 : Int32) (v1 : Sg), gI v1 0 20 = w → Q1 v0 v1 → Q2 v0 v1 → G) : G := by
  unfold p_X6_fault at h1 h2
  refine d_p_X6_isText (w := w) (by first | exact hw | simpa [gI, setI, setR, setJ, setT] using hw) h1 h2 (fun r2 s1 hw h1 h2 => ?_)
  by_cases cc : r2 = 0
  · replace h1 := h1.1 cc
    replace h2 := h2.1 cc
    exact hQ _ _ (by first | exact hw | simpa [gI, setI, setR, setJ, setT] using hw) h1 h2
  · replace h1 := h1.2 cc
    replace h2 := h2.2 cc
    obtain ⟨k4, e0, _, _, h1⟩ := h1
    obtain ⟨k4x, f0, _, _, h2⟩ := h2
    have ee := Option.some.inj (e0.symm.trans f0)
    subst ee
    by_cases cc : 0 ≤ (gR s1 k4 x1.toNatClampNeg)
    · replace h1 := h1.1 cc
      replace h2 := h2.1 cc
      refine d_p_X6_read (w := w) (by first | exact hw | simpa [gI, setI, setR, setJ, setT] using hw) h1 h2 (fun s9 hw h1 h2 => ?_)
      exact hQ _ _ (by first | exact hw | simpa [gI, setI, setR, setJ, setT] using hw) h1 h2
    · replace h1 := h1.2 cc
      replace h2 := h2.2 cc
      refine d_p_X6_refuse (w := w) (by first | exact hw | simpa [gI, setI, setR, setJ, setT] using hw) h1 h2 (fun r11 s10 hw h1 h2 => ?_)
      exact hQ _ _ (by first | exact hw | simpa [gI, setI, setR, setJ, setT] using hw) h1 h2
theorem d_p_X6_less {G : Prop} {Q1 Q2 : Int32 → Sg → Prop} {x0 : Int32} {x1 : Int32} {s : Sg} {w : Int32} (hw : gI s 0 20 = w) (h1 : p_X6_less x0 x1 s Q1) (h2 : p_X6_less x0 x1 s Q2) (hQ : ∀ (v0 : Int32) (v1 : Sg), gI v1 0 20 = w → Q1 v0 v1 → Q2 v0 v1 → G) : G := by
  unfold p_X6_less at h1 h2
  by_cases cc : x1 ≤ x0
  · replace h1 := h1.1 cc
    replace h2 := h2.1 cc
    exact hQ _ _ (by first | exact hw | simpa [gI, setI, setR, setJ, setT] using hw) h1 h2
  · replace h1 := h1.2 cc
    replace h2 := h2.2 cc
    exact hQ _ _ (by first | exact hw | simpa [gI, setI, setR, setJ, setT] using hw) h1 h2
theorem d_p_X6_hemBy_b35 {G : Prop} {Q1 Q2 : Int32 → Sg → Prop} {x0 : Int32} {x1 : Int32} {x4 : Int32} {x5 : Int32} {x6 : Int32} {t0 : Int32} {s : Sg} {w : Int32} (hw : gI s 0 20 = w) (h1 : p_X6_hemBy_b35 Q1 x0 x1 x4 x5 x6 t0 s) (h2 : p_X6_hemBy_b35 Q2 x0 x1 x4 x5 x6 t0 s) (hQ : ∀ (v0 : Int32) (v1 : Sg), gI v1 0 20 = w → Q1 v0 v1 → Q2 v0 v1 → G) : G := by
  unfold p_X6_hemBy_b35 at h1 h2
  by_cases cc : x0 = 1
  · replace h1 := h1.1 cc
    replace h2 := h2.1 cc
    exact hQ _ _ (by first | exact hw | simpa [gI, setI, setR, setJ, setT] using hw) h1 h2
  · replace h1 := h1.2 cc
    replace h2 := h2.2 cc
    by_cases cc : x0 = 2
    · replace h1 := h1.1 cc
      replace h2 := h2.1 cc
      exact hQ _ _ (by first | exact hw | simpa [gI, setI, setR, setJ, setT] using hw) h1 h2
    · replace h1 := h1.2 cc
      replace h2 := h2.2 cc
      by_cases cc : x0 = 3
      · replace h1 := h1.1 cc
        replace h2 := h2.1 cc
        refine d_p_X6_less (w := w) (by first | exact hw | simpa [gI, setI, setR, setJ, setT] using hw) h1 h2 (fun r6 s5 hw h1 h2 => ?_)
        exact hQ _ _ (by first | exact hw | simpa [gI, setI, setR, setJ, setT] using hw) h1 h2
      · replace h1 := h1.2 cc
        replace h2 := h2.2 cc
        by_cases cc : x0 = 4
        · replace h1 := h1.1 cc
          replace h2 := h2.1 cc
          exact hQ _ _ (by first | exact hw | simpa [gI, setI, setR, setJ, setT] using hw) h1 h2
        · replace h1 := h1.2 cc
          replace h2 := h2.2 cc
          by_cases cc : x0 = 5
          · replace h1 := h1.1 cc
            replace h2 := h2.1 cc
            by_cases cc : (x4 - x4 / 2 * 2) = 0
            · replace h1 := h1.1 cc
              replace h2 := h2.1 cc
              exact hQ _ _ (by first | exact hw | simpa [gI, setI, setR, setJ, setT] using hw) h1 h2
            · replace h1 := h1.2 cc
              replace h2 := h2.2 cc
              exact hQ _ _ (by first | exact hw | simpa [gI, setI, setR, setJ, setT] using hw) h1 h2
          · replace h1 := h1.2 cc
            replace h2 := h2.2 cc
            exact hQ _ _ (by first | exact hw | simpa [gI, setI, setR, setJ, setT] using hw) h1 h2
theorem d_p_X6_hemBy_b19 {G : Prop} {Q1 Q2 : Int32 → Sg → Prop} {x0 : Int32} {x1 : Int32} {x2 : Int32} {x4 : Int32} {x5 : Int32} {t0 : Int32} {s : Sg} {w : Int32} (hw : gI s 0 20 = w) (h1 : p_X6_hemBy_b19 Q1 x0 x1 x2 x4 x5 t0 s) (h2 : p_X6_hemBy_b19 Q2 x0 x1 x2 x4 x5 t0 s) (hQ : ∀ (v0 : Int32) (v1 : Sg), gI v1 0 20 = w → Q1 v0 v1 → Q2 v0 v1 → G) : G := by
  unfold p_X6_hemBy_b19 at h1 h2
  by_cases cc : x2 ≤ x5
  · replace h1 := h1.1 cc
    replace h2 := h2.1 cc
    exact d_p_X6_hemBy_b35 (w := w) (by first | exact hw | simpa [gI, setI, setR, setJ, setT] using hw) h1 h2 hQ
  · replace h1 := h1.2 cc
    replace h2 := h2.2 cc
    exact d_p_X6_hemBy_b35 (w := w) (by first | exact hw | simpa [gI, setI, setR, setJ, setT] using hw) h1 h2 hQ
theorem d_p_X6_hemBy {G : Prop} {Q1 Q2 : Int32 → Sg → Prop} {x0 : Int32} {x1 : Int32} {x2 : Int32} {x3 : Int32} {x4 : Int32} {s : Sg} {w : Int32} (hw : gI s 0 20 = w) (h1 : p_X6_hemBy x0 x1 x2 x3 x4 s Q1) (h2 : p_X6_hemBy x0 x1 x2 x3 x4 s Q2) (hQ : ∀ (v0 : Int32) (v1 : Sg), gI v1 0 20 = w → Q1 v0 v1 → Q2 v0 v1 → G) : G := by
  unfold p_X6_hemBy at h1 h2
  refine d_p_X6_less (w := w) (by first | exact hw | simpa [gI, setI, setR, setJ, setT] using hw) h1 h2 (fun r2 s1 hw h1 h2 => ?_)
  by_cases cc : 2 ≤ r2
  · replace h1 := h1.1 cc
    replace h2 := h2.1 cc
    exact d_p_X6_hemBy_b19 (w := w) (by first | exact hw | simpa [gI, setI, setR, setJ, setT] using hw) h1 h2 hQ
  · replace h1 := h1.2 cc
    replace h2 := h2.2 cc
    exact d_p_X6_hemBy_b19 (w := w) (by first | exact hw | simpa [gI, setI, setR, setJ, setT] using hw) h1 h2 hQ
theorem d_p_X6_wet {G : Prop} {Q1 Q2 : Int32 → Sg → Prop} {x0 : Int32} {x1 : Int32} {s : Sg} {w : Int32} (hw : gI s 0 20 = w) (h1 : p_X6_wet x0 x1 s Q1) (h2 : p_X6_wet x0 x1 s Q2) (hQ : ∀ (v0 : Int32) (v1 : Sg), gI v1 0 20 = w → Q1 v0 v1 → Q2 v0 v1 → G) : G := by
  unfold p_X6_wet at h1 h2
  by_cases cc : x0 ≤ x1
  · replace h1 := h1.1 cc
    replace h2 := h2.1 cc
    exact hQ _ _ (by first | exact hw | simpa [gI, setI, setR, setJ, setT] using hw) h1 h2
  · replace h1 := h1.2 cc
    replace h2 := h2.2 cc
    exact hQ _ _ (by first | exact hw | simpa [gI, setI, setR, setJ, setT] using hw) h1 h2
theorem d_p_X6_hemNow {G : Prop} {Q1 Q2 : Int32 → Sg → Prop} {x0 : Nat} {x1 : Int32} {x2 : Int32} {x3 : Int32} {s : Sg} {w : Int32} (hw : gI s 0 20 = w) (h1 : p_X6_hemNow x0 x1 x2 x3 s Q1) (h2 : p_X6_hemNow x0 x1 x2 x3 s Q2) (hQ : ∀ (v0 : Int32) (v1 : Sg), gI v1 0 20 = w → Q1 v0 v1 → Q2 v0 v1 → G) : G := by
  unfold p_X6_hemNow at h1 h2
  obtain ⟨k1, e0, _, _, h1⟩ := h1
  obtain ⟨k1x, f0, _, _, h2⟩ := h2
  have ee := Option.some.inj (e0.symm.trans f0)
  subst ee
  obtain ⟨k5, e0, _, _, h1⟩ := h1
  obtain ⟨k5x, f0, _, _, h2⟩ := h2
  have ee := Option.some.inj (e0.symm.trans f0)
  subst ee
  obtain ⟨k9, e0, _, _, h1⟩ := h1
  obtain ⟨k9x, f0, _, _, h2⟩ := h2
  have ee := Option.some.inj (e0.symm.trans f0)
  subst ee
  obtain ⟨k13, e0, _, _, h1⟩ := h1
  obtain ⟨k13x, f0, _, _, h2⟩ := h2
  have ee := Option.some.inj (e0.symm.trans f0)
  subst ee
  refine d_p_X6_wet (w := w) (by first | exact hw | simpa [gI, setI, setR, setJ, setT] using hw) h1 h2 (fun r18 s17 hw h1 h2 => ?_)
  refine d_p_X6_hemBy (w := w) (by first | exact hw | simpa [gI, setI, setR, setJ, setT] using hw) h1 h2 (fun r20 s19 hw h1 h2 => ?_)
  exact hQ _ _ (by first | exact hw | simpa [gI, setI, setR, setJ, setT] using hw) h1 h2
theorem D_p_X6_happen_L31 {G : Prop} {Q1 Q2 : Sg → Prop}  {w : Int32} (hQ : ∀ (v0 : Sg), gI v0 0 20 = w → Q1 v0 → Q2 v0 → G) : ∀ (n m : Nat) (x0 : Nat) (x2 : Int32) (x4 : Int32) (s : Sg), gI s 0 20 = w → p_X6_happen_L31 Q1 n x0 x2 x4 s → p_X6_happen_L31 Q2 m x0 x2 x4 s → G := by
  intro n
  induction n with
  | zero =>
    intro m x0 x2 x4 s hw h1
    exact h1.elim
  | succ n ih =>
    intro m x0 x2 x4 s hw h1 h2
    cases m with
    | zero => exact h2.elim
    | succ m =>
      unfold p_X6_happen_L31 at h1 h2
      by_cases cc : (gI s x0 20) ≤ x4
      · replace h1 := h1.1 cc
        replace h2 := h2.1 cc
        obtain ⟨k2, e0, _, _, h1⟩ := h1
        obtain ⟨k2x, f0, _, _, h2⟩ := h2
        have ee := Option.some.inj (e0.symm.trans f0)
        subst ee
        exact hQ _ (by first | exact hw | simpa [gI, setI, setR, setJ, setT] using hw) h1 h2
      · replace h1 := h1.2 cc
        replace h2 := h2.2 cc
        obtain ⟨k6, e0, _, _, h1⟩ := h1
        obtain ⟨k6x, f0, _, _, h2⟩ := h2
        have ee := Option.some.inj (e0.symm.trans f0)
        subst ee
        refine d_p_X6_hemNow (w := w) (by first | exact hw | simpa [gI, setI, setR, setJ, setT] using hw) h1 h2 (fun r11 s10 hw h1 h2 => ?_)
        obtain ⟨k12, e0, _, _, h1⟩ := h1
        obtain ⟨k12x, f0, _, _, h2⟩ := h2
        have ee := Option.some.inj (e0.symm.trans f0)
        subst ee
        obtain ⟨k16, e0, _, _, h1⟩ := h1
        obtain ⟨k16x, f0, _, _, h2⟩ := h2
        have ee := Option.some.inj (e0.symm.trans f0)
        subst ee
        obtain ⟨k20, e0, _, _, h1⟩ := h1
        obtain ⟨k20x, f0, _, _, h2⟩ := h2
        have ee := Option.some.inj (e0.symm.trans f0)
        subst ee
        obtain ⟨k24, e0, _, _, h1⟩ := h1
        obtain ⟨k24x, f0, _, _, h2⟩ := h2
        have ee := Option.some.inj (e0.symm.trans f0)
        subst ee
        obtain ⟨k28, e0, _, _, h1⟩ := h1
        obtain ⟨k28x, f0, _, _, h2⟩ := h2
        have ee := Option.some.inj (e0.symm.trans f0)
        subst ee
        obtain ⟨k32, e0, _, _, h1⟩ := h1
        obtain ⟨k32x, f0, _, _, h2⟩ := h2
        have ee := Option.some.inj (e0.symm.trans f0)
        subst ee
        exact ih _ _ _ _ _ (by first | exact hw | simpa [gI, setI, setR, setJ, setT] using hw) h1 h2
theorem d_p_X6_happen_L31 {G : Prop} {Q1 Q2 : Sg → Prop}  {n m : Nat} {x0 : Nat} {x2 : Int32} {x4 : Int32} {s : Sg} {w : Int32} (hw : gI s 0 20 = w) (h1 : p_X6_happen_L31 Q1 n x0 x2 x4 s) (h2 : p_X6_happen_L31 Q2 m x0 x2 x4 s) (hQ : ∀ (v0 : Sg), gI v0 0 20 = w → Q1 v0 → Q2 v0 → G) : G := D_p_X6_happen_L31 hQ n m x0 x2 x4 s hw h1 h2
theorem d_p_X6_happen {G : Prop} {Q1 Q2 : Sg → Prop} {x0 : Nat} {x1 : Int32} {x2 : Int32} {x3 : Int32} {s : Sg} {w : Int32} (hw : gI s 0 20 = w) (h1 : p_X6_happen x0 x1 x2 x3 s Q1) (h2 : p_X6_happen x0 x1 x2 x3 s Q2) (hQ : ∀ (v0 : Sg), gI v0 0 20 = w → Q1 v0 → Q2 v0 → G) : G := by
  unfold p_X6_happen at h1 h2
  by_cases cc : x1 = 0
  · replace h1 := h1.1 cc
    replace h2 := h2.1 cc
    obtain ⟨n3, h1⟩ := h1
    obtain ⟨n3x, h2⟩ := h2
    exact d_p_X6_happen_L31 (w := w) (by first | exact hw | simpa [gI, setI, setR, setJ, setT] using hw) h1 h2 hQ
  · replace h1 := h1.2 cc
    replace h2 := h2.2 cc
    by_cases cc : x1 = 1
    · replace h1 := h1.1 cc
      replace h2 := h2.1 cc
      obtain ⟨k5, e0, _, _, h1⟩ := h1
      obtain ⟨k5x, f0, _, _, h2⟩ := h2
      have ee := Option.some.inj (e0.symm.trans f0)
      subst ee
      exact hQ _ (by first | exact hw | simpa [gI, setI, setR, setJ, setT] using hw) h1 h2
    · replace h1 := h1.2 cc
      replace h2 := h2.2 cc
      by_cases cc : x1 = 2
      · replace h1 := h1.1 cc
        replace h2 := h2.1 cc
        obtain ⟨k10, e0, _, _, h1⟩ := h1
        obtain ⟨k10x, f0, _, _, h2⟩ := h2
        have ee := Option.some.inj (e0.symm.trans f0)
        subst ee
        obtain ⟨k14, e0, _, _, h1⟩ := h1
        obtain ⟨k14x, f0, _, _, h2⟩ := h2
        have ee := Option.some.inj (e0.symm.trans f0)
        subst ee
        exact hQ _ (by first | exact hw | simpa [gI, setI, setR, setJ, setT] using hw) h1 h2
      · replace h1 := h1.2 cc
        replace h2 := h2.2 cc
        obtain ⟨k18, e0, _, _, h1⟩ := h1
        obtain ⟨k18x, f0, _, _, h2⟩ := h2
        have ee := Option.some.inj (e0.symm.trans f0)
        subst ee
        obtain ⟨k22, e0, _, _, h1⟩ := h1
        obtain ⟨k22x, f0, _, _, h2⟩ := h2
        have ee := Option.some.inj (e0.symm.trans f0)
        subst ee
        exact hQ _ (by first | exact hw | simpa [gI, setI, setR, setJ, setT] using hw) h1 h2
theorem D_p_X6_goThrough_L65 {G : Prop} {Q1 Q2 : Sg → Prop}  {w : Int32} (hQ : ∀ (v0 : Sg), gI v0 0 20 = w → Q1 v0 → Q2 v0 → G) : ∀ (n m : Nat) (x0 : Nat) (x1 : Int32) (s : Sg), gI s 0 20 = w → p_X6_goThrough_L65 Q1 n x0 x1 s → p_X6_goThrough_L65 Q2 m x0 x1 s → G := by
  intro n
  induction n with
  | zero =>
    intro m x0 x1 s hw h1
    exact h1.elim
  | succ n ih =>
    intro m x0 x1 s hw h1 h2
    cases m with
    | zero => exact h2.elim
    | succ m =>
      unfold p_X6_goThrough_L65 at h1 h2
      by_cases cc : (gI s x0 36) ≤ x1
      · replace h1 := h1.1 cc
        replace h2 := h2.1 cc
        exact hQ _ (by first | exact hw | simpa [gI, setI, setR, setJ, setT] using hw) h1 h2
      · replace h1 := h1.2 cc
        replace h2 := h2.2 cc
        obtain ⟨k2, e0, _, _, h1⟩ := h1
        obtain ⟨k2x, f0, _, _, h2⟩ := h2
        have ee := Option.some.inj (e0.symm.trans f0)
        subst ee
        obtain ⟨k6, e0, _, _, h1⟩ := h1
        obtain ⟨k6x, f0, _, _, h2⟩ := h2
        have ee := Option.some.inj (e0.symm.trans f0)
        subst ee
        obtain ⟨k10, e0, _, _, h1⟩ := h1
        obtain ⟨k10x, f0, _, _, h2⟩ := h2
        have ee := Option.some.inj (e0.symm.trans f0)
        subst ee
        refine d_p_X6_happen (w := w) (by first | exact hw | simpa [gI, setI, setR, setJ, setT] using hw) h1 h2 (fun s14 hw h1 h2 => ?_)
        exact ih _ _ _ _ (by first | exact hw | simpa [gI, setI, setR, setJ, setT] using hw) h1 h2
theorem d_p_X6_goThrough_L65 {G : Prop} {Q1 Q2 : Sg → Prop}  {n m : Nat} {x0 : Nat} {x1 : Int32} {s : Sg} {w : Int32} (hw : gI s 0 20 = w) (h1 : p_X6_goThrough_L65 Q1 n x0 x1 s) (h2 : p_X6_goThrough_L65 Q2 m x0 x1 s) (hQ : ∀ (v0 : Sg), gI v0 0 20 = w → Q1 v0 → Q2 v0 → G) : G := D_p_X6_goThrough_L65 hQ n m x0 x1 s hw h1 h2
theorem D_p_X6_goThrough_L2 {G : Prop} {Q1 Q2 : Sg → Prop}  {w : Int32} (hQ : ∀ (v0 : Sg), gI v0 0 20 = w → Q1 v0 → Q2 v0 → G) : ∀ (n m : Nat) (x0 : Nat) (x1 : Int32) (s : Sg), gI s 0 20 = w → p_X6_goThrough_L2 Q1 n x0 x1 s → p_X6_goThrough_L2 Q2 m x0 x1 s → G := by
  intro n
  induction n with
  | zero =>
    intro m x0 x1 s hw h1
    exact h1.elim
  | succ n ih =>
    intro m x0 x1 s hw h1 h2
    cases m with
    | zero => exact h2.elim
    | succ m =>
      unfold p_X6_goThrough_L2 at h1 h2
      by_cases cc : 6 ≤ x1
      · replace h1 := h1.1 cc
        replace h2 := h2.1 cc
        obtain ⟨n2, h1⟩ := h1
        obtain ⟨n2x, h2⟩ := h2
        exact d_p_X6_goThrough_L65 (w := w) (by first | exact hw | simpa [gI, setI, setR, setJ, setT] using hw) h1 h2 hQ
      · replace h1 := h1.2 cc
        replace h2 := h2.2 cc
        obtain ⟨k3, e0, _, _, h1⟩ := h1
        obtain ⟨k3x, f0, _, _, h2⟩ := h2
        have ee := Option.some.inj (e0.symm.trans f0)
        subst ee
        obtain ⟨k7, e0, _, _, h1⟩ := h1
        obtain ⟨k7x, f0, _, _, h2⟩ := h2
        have ee := Option.some.inj (e0.symm.trans f0)
        subst ee
        obtain ⟨k11, e0, _, _, h1⟩ := h1
        obtain ⟨k11x, f0, _, _, h2⟩ := h2
        have ee := Option.some.inj (e0.symm.trans f0)
        subst ee
        obtain ⟨k15, e0, _, _, h1⟩ := h1
        obtain ⟨k15x, f0, _, _, h2⟩ := h2
        have ee := Option.some.inj (e0.symm.trans f0)
        subst ee
        obtain ⟨k19, e0, _, _, h1⟩ := h1
        obtain ⟨k19x, f0, _, _, h2⟩ := h2
        have ee := Option.some.inj (e0.symm.trans f0)
        subst ee
        obtain ⟨k23, e0, _, _, h1⟩ := h1
        obtain ⟨k23x, f0, _, _, h2⟩ := h2
        have ee := Option.some.inj (e0.symm.trans f0)
        subst ee
        exact ih _ _ _ _ (by first | exact hw | simpa [gI, setI, setR, setJ, setT] using hw) h1 h2
theorem d_p_X6_goThrough_L2 {G : Prop} {Q1 Q2 : Sg → Prop}  {n m : Nat} {x0 : Nat} {x1 : Int32} {s : Sg} {w : Int32} (hw : gI s 0 20 = w) (h1 : p_X6_goThrough_L2 Q1 n x0 x1 s) (h2 : p_X6_goThrough_L2 Q2 m x0 x1 s) (hQ : ∀ (v0 : Sg), gI v0 0 20 = w → Q1 v0 → Q2 v0 → G) : G := D_p_X6_goThrough_L2 hQ n m x0 x1 s hw h1 h2
theorem d_p_X6_goThrough {G : Prop} {Q1 Q2 : Sg → Prop} {x0 : Nat} {s : Sg} {w : Int32} (hw : gI s 0 20 = w) (h1 : p_X6_goThrough x0 s Q1) (h2 : p_X6_goThrough x0 s Q2) (hQ : ∀ (v0 : Sg), gI v0 0 20 = w → Q1 v0 → Q2 v0 → G) : G := by
  unfold p_X6_goThrough at h1 h2
  obtain ⟨n1, h1⟩ := h1
  obtain ⟨n1x, h2⟩ := h2
  exact d_p_X6_goThrough_L2 (w := w) (by first | exact hw | simpa [gI, setI, setR, setJ, setT] using hw) h1 h2 hQ
theorem D_p_X6_delta_L142 {G : Prop} {Q1 Q2 : Int32 → Sg → Prop}  {w : Int32} (hQ : ∀ (v0 : Int32) (v1 : Sg), gI v1 0 20 = w → Q1 v0 v1 → Q2 v0 v1 → G) : ∀ (n m : Nat) (x0 : Nat) (x2 : Int32) (s : Sg), gI s 0 20 = w → p_X6_delta_L142 Q1 n x0 x2 s → p_X6_delta_L142 Q2 m x0 x2 s → G := by
  intro n
  induction n with
  | zero =>
    intro m x0 x2 s hw h1
    exact h1.elim
  | succ n ih =>
    intro m x0 x2 s hw h1 h2
    cases m with
    | zero => exact h2.elim
    | succ m =>
      unfold p_X6_delta_L142 at h1 h2
      by_cases cc : 3 ≤ x2
      · replace h1 := h1.1 cc
        replace h2 := h2.1 cc
        exact hQ _ _ (by first | exact hw | simpa [gI, setI, setR, setJ, setT] using hw) h1 h2
      · replace h1 := h1.2 cc
        replace h2 := h2.2 cc
        obtain ⟨k2, e0, _, _, h1⟩ := h1
        obtain ⟨k2x, f0, _, _, h2⟩ := h2
        have ee := Option.some.inj (e0.symm.trans f0)
        subst ee
        exact ih _ _ _ _ (by first | exact hw | simpa [gI, setI, setR, setJ, setT] using hw) h1 h2
theorem d_p_X6_delta_L142 {G : Prop} {Q1 Q2 : Int32 → Sg → Prop}  {n m : Nat} {x0 : Nat} {x2 : Int32} {s : Sg} {w : Int32} (hw : gI s 0 20 = w) (h1 : p_X6_delta_L142 Q1 n x0 x2 s) (h2 : p_X6_delta_L142 Q2 m x0 x2 s) (hQ : ∀ (v0 : Int32) (v1 : Sg), gI v1 0 20 = w → Q1 v0 v1 → Q2 v0 v1 → G) : G := D_p_X6_delta_L142 hQ n m x0 x2 s hw h1 h2
