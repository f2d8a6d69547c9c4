/-! the model's reader -/
def rM (M M' : Sg) : Prop := (∀ k, (k < 7 ∨ 11 < k) → gR M' k = gR M k) ∧ (∀ j, j ≠ 11 → j ≠ 12 → j ≠ 17 → j ≠ 18 → j ≠ 19 → gI M' 0 j = gI M 0 j) ∧ ∀ k j, gJ M' k j = gJ M k j
theorem rM_rf (X : Sg) : rM X X := ⟨fun _ _ => rfl, fun _ _ _ _ _ _ => rfl, fun _ _ => rfl⟩
theorem rM_R {X X' : Sg} (h : rM X X') {k : Nat} (f : Nat → Int32) (hk : 7 ≤ k ∧ k ≤ 11) : rM X (setR X' k f) := ⟨fun c hc => (gR_ne _ _ (by omega)).trans (h.1 c hc), h.2.1, h.2.2⟩
theorem rM_I {X X' : Sg} (h : rM X X') (j : Nat) (v : Int32) (hj : j = 11 ∨ j = 12 ∨ j = 17 ∨ j = 18 ∨ j = 19) : rM X (setI X' 0 j v) := ⟨h.1, fun c h1 h2 h3 h4 h5 => (gI_ne _ _ (by omega)).trans (h.2.1 c h1 h2 h3 h4 h5), h.2.2⟩
def MR (t : Nat) (T : Nat → Int32) (n : Nat) (s : Sg) (p : Nat) : Prop := gI s 0 17 = nI t ∧ gI s 0 18 = nI p ∧ gR s 5 t = nI n ∧ ∀ i, i < 60 → gR s 4 (60 * t + i) = T i
def DM (s : Sg) (i e : Nat) (a : Nat → Nat → Nat) : Prop := gI s 0 12 = nI i ∧ gI s 0 11 = nI e ∧ (∀ j, j < 6 → gR s 7 j = nI (a 0 j)) ∧ ∀ c j, 1 ≤ c → c ≤ 4 → j < i → gR s (7 + c) j = nI (a c j)
theorem n9 {v : Nat} (hv : v < 1000) : ¬ nI v = -9 := fun q => nI_pos (show v < 2 ^ 31 by omega) (by rw [q]; decide)
section RDM
variable {t : Nat} {T : Nat → Int32} {n : Nat}
theorem MR_R {s : Sg} {p k : Nat} (h : MR t T n s p) (f : Nat → Int32) (hk : 7 ≤ k) : MR t T n (setR s k f) p := ⟨h.1, h.2.1, by rw [gR_ne _ _ (by omega)]; exact h.2.2.1, fun i hi => by rw [gR_ne _ _ (by omega)]; exact h.2.2.2 i hi⟩
theorem MR_I {s : Sg} {p j : Nat} (h : MR t T n s p) (v : Int32) (h1 : j ≠ 17) (h2 : j ≠ 18) : MR t T n (setI s 0 j v) p := ⟨by rw [gI_ne _ _ (by omega)]; exact h.1, by rw [gI_ne _ _ (by omega)]; exact h.2.1, h.2.2.1, h.2.2.2⟩
theorem MR_p {s : Sg} {p q : Nat} (h : MR t T n s p) : MR t T n (setI s 0 18 (nI q)) q := ⟨by rw [gI_ne _ _ (by omega)]; exact h.1, gI_same _ _ _ _, h.2.2.1, h.2.2.2⟩
theorem m_here (ht : t < 4) (hn : n ≤ 60) {s : Sg} {p : Nat} {Q : Int32 → Sg → Prop} (h : MR t T n s p) (hp : p < 1000) (h1 : p < n → Q (T p) s) (h2 : ¬ p < n → Q (-9) s) : p_X6_here 0 s Q := by
  obtain ⟨a1, a2, a3, a4⟩ := h
  unfold p_X6_here
  refine ⟨5, rfl, rfl, m_in (N := 4) a1 rfl ht (by decide), ?_⟩
  rw [a1, a2, m_cl (show t < 100000 by omega), a3, ixm (y := 60) 60 t p rfl, m_cl (show 60 * t + p < 100000 by omega)]
  by_cases c : p < n
  · refine br_f (nI_ge c (by omega)) ⟨4, rfl, rfl, m_in (N := 240) rfl rfl (by omega) (by decide), ?_⟩
    rw [a4 p (by omega)]
    exact h1 c
  · exact br_t (nI_le (by omega) (by omega)) (h2 c)
theorem m_figN (ht : t < 4) (hT : byt T) (hn : n ≤ 60) {s : Sg} {p lo hi : Nat} {x y : Int32} {Q : Int32 → Sg → Prop} (h : MR t T n s p) (hp : p < 1000) (hf : gI s 0 19 = -9) (hx : x = nI lo) (hy : y = nI hi) (hl : lo ≤ 9) (hh : hi ≤ 9) (hg : fg T n lo hi p = none) (hQ : Q 0 (setI s 0 19 (nI p))) : p_X6_figure 0 x y s Q := by
  subst hx hy
  have hg := fg_none hg
  unfold p_X6_figure
  have e1 : (48 : Int32) + nI lo = nI (48 + lo) := by rw [show (48 : Int32) = nI 48 from rfl, nI_add]
  have e2 : (48 : Int32) + nI hi = nI (48 + hi) := by rw [show (48 : Int32) = nI 48 from rfl, nI_add]
  rw [e1, e2]
  refine m_here ht hn h hp (fun c => br_t hf ?_) (fun c => br_t hf ?_)
  · unfold p_X6_in
    by_cases c1 : T p < nI (48 + lo)
    · refine br_t c1 (br_t rfl ?_)
      rw [h.2.1]; exact hQ
    · refine br_f c1 (br_t ?_ (br_t rfl ?_))
      · rw [Int32.lt_iff_toInt_lt, nI_toInt (by omega)] at c1
        rw [Int32.lt_iff_toInt_lt, nI_toInt (by omega)]
        apply Decidable.byContradiction
        intro c2
        exact hg ⟨c, by omega, by omega⟩
      · rw [h.2.1]; exact hQ
  · unfold p_X6_in
    refine br_t ?_ (br_t rfl ?_)
    · rw [Int32.lt_iff_toInt_lt, nI_toInt (by omega)]
      have : (-9 : Int32).toInt = -9 := rfl
      omega
    · rw [h.2.1]; exact hQ
theorem m_figS (ht : t < 4) (hT : byt T) (hn : n ≤ 60) {s : Sg} {p lo hi v : Nat} {x y : Int32} {Q : Int32 → Sg → Prop} (h : MR t T n s p) (hf : gI s 0 19 = -9) (hx : x = nI lo) (hy : y = nI hi) (hl : lo ≤ 9) (hh : hi ≤ 9) (hg : fg T n lo hi p = some v) (hQ : Q (nI v) (setI s 0 18 (nI (p + 1)))) : p_X6_figure 0 x y s Q := by
  subst hx hy
  obtain ⟨g1, g2, g3, g4⟩ := fg_some hg
  have e1 : (48 : Int32) + nI lo = nI (48 + lo) := by rw [show (48 : Int32) = nI 48 from rfl, nI_add]
  have e2 : (48 : Int32) + nI hi = nI (48 + hi) := by rw [show (48 : Int32) = nI 48 from rfl, nI_add]
  have e3 : T p = nI (48 + v) := by
    apply Int32.toInt_inj.mp
    rw [nI_toInt (by omega), g4]
    omega
  unfold p_X6_figure
  rw [e1, e2]
  refine m_here ht hn h (by omega) (fun c => br_t hf ?_) (fun c => absurd g1 c)
  unfold p_X6_in
  rw [e3]
  refine br_f (fun q => by have := (nI_ltI (by omega) (by omega)).mp q; omega) (br_f (fun q => by have := (nI_ltI (by omega) (by omega)).mp q; omega) (br_f (by decide) ?_))
  have e4 : nI (48 + v) - 48 = nI v := by
    rw [show (48 : Int32) = nI 48 from rfl, pk_sub (by omega)]
    congr 1
    omega
  rw [e4, h.2.1, nI_1]
  exact hQ
theorem m_figO (ht : t < 4) (hn : n ≤ 60) {s : Sg} {p : Nat} {x y : Int32} {Q : Int32 → Sg → Prop} (h : MR t T n s p) (hp : p < 1000) (hf : ¬ gI s 0 19 = -9) (hQ : Q 0 s) : p_X6_figure 0 x y s Q := by
  unfold p_X6_figure
  exact m_here ht hn h hp (fun _ => br_f hf hQ) (fun _ => br_f hf hQ)
theorem m_skip (ht : t < 4) (hn : n ≤ 60) {s s0 : Sg} {p : Nat} {Q : Sg → Prop} (h : MR t T n s p) (hp : p ≤ n) (hr : rM s0 s) (hQ : ∀ s', MR t T n s' (skp T n p) → rM s0 s' → (∀ j, j ≠ 18 → gI s' 0 j = gI s 0 j) → (∀ k, gR s' k = gR s k) → Q s') : p_X6_skip 0 s Q := by
  unfold p_X6_skip
  refine ⟨61, ?_⟩
  have : ∀ f p s', n - p ≤ f → MR t T n s' p → p ≤ n → rM s0 s' → (∀ j, j ≠ 18 → gI s' 0 j = gI s 0 j) → (∀ k, gR s' k = gR s k) → (∀ s', MR t T n s' (sk T n f p) → rM s0 s' → (∀ j, j ≠ 18 → gI s' 0 j = gI s 0 j) → (∀ k, gR s' k = gR s k) → Q s') → p_X6_skip_L0 Q (f + 1) 0 s' := by
    intro f
    induction f with
    | zero =>
      intro p s' hi h1 h2 h3 h4 h5 h6
      unfold p_X6_skip_L0
      exact m_here ht hn h1 (by omega) (fun c => by omega) (fun c => br_f (by decide) (h6 s' h1 h3 h4 h5))
    | succ f ih =>
      intro p s' hi h1 h2 h3 h4 h5 h6
      unfold p_X6_skip_L0
      unfold sk at h6
      refine m_here ht hn h1 (by omega) (fun c => ?_) (fun c => ?_)
      · by_cases c2 : T p = 32
        · rw [if_pos ⟨c, c2⟩] at h6
          refine br_t c2 ?_
          rw [h1.2.1, nI_1]
          exact ih (p + 1) _ (by omega) (MR_p h1) (by omega) (rM_I h3 _ _ (by omega)) (fun j hj => (gI_ne _ _ (by omega)).trans (h4 j hj)) h5 h6
        · rw [if_neg (fun z => c2 z.2)] at h6
          exact br_f c2 (h6 s' h1 h3 h4 h5)
      · rw [if_neg (fun z => c z.1)] at h6
        exact br_f (by decide) (h6 s' h1 h3 h4 h5)
  exact this 60 p s (by omega) h hp hr (fun _ _ => rfl) (fun _ => rfl) hQ
theorem m_kindBy {c : Int32} {s : Sg} {Q : Int32 → Sg → Prop} (hN : lett c = none → Q (-9) s) (hS : ∀ k, lett c = some k → Q (nI k) s) : p_X6_kindBy c s Q := e_byLetter hN hS
/-- the land, its fault before it -/
theorem m_landO (ht : t < 4) (hn : n ≤ 60) {s0 : Sg} {P : Nat} {Q : Sg → Prop} (hP : P < 1000) (hQ : ∀ s', rM s0 s' → gI s' 0 19 = nI P → Q s') : ∀ r i p s, i + r = 6 → MR t T n s p → p < 1000 → gI s 0 19 = nI P → rM s0 s → p_X6_read_L57 Q (r + 1) 0 (nI t) (nI i) s := by
  intro r
  induction r with
  | zero =>
    intro i p s hi h hp hf hr
    unfold p_X6_read_L57
    rw [show i = 6 by omega]
    refine br_t (by decide) (m_figO ht hn h hp (by rw [hf]; exact n9 hP) (br_f ?_ ?_))
    · rw [gI_ne _ _ (by omega), hf]; exact n9 hP
    · unfold p_X6_read_b107
      refine ⟨1, ?_⟩
      unfold p_X6_read_L108
      exact br_t rfl (hQ _ (rM_I hr _ _ (by omega)) (by rw [gI_ne _ _ (by omega)]; exact hf))
  | succ r ih =>
    intro i p s hi h hp hf hr
    unfold p_X6_read_L57
    refine br_f (nI_ge (b := 6) (by omega) (by decide)) (m_figO ht hn h hp (by rw [hf]; exact n9 hP) ⟨7, rfl, rfl, m_in (N := 6) rfl rfl (by omega) (by decide), ?_⟩)
    rw [m_cl (show i < 100000 by omega), nI_1]
    exact ih (i + 1) p _ (by omega) (MR_R h _ (by omega)) hp hf (rM_R hr _ (by omega))
theorem m_land (ht : t < 4) (hT : byt T) (hn : n ≤ 60) {s0 : Sg} {p0 : Nat} {Q : Sg → Prop} (hp0 : p0 ≤ n)
    (hok : (lf T n p0 7).2.1 = true → ∀ s', MR t T n s' (lf T n p0 7).1 → rM s0 s' → gI s' 0 12 = 0 → gI s' 0 19 = -9 → (∀ j, j < 6 → gR s' 7 j = nI ((lf T n p0 7).2.2 j)) → gI s' 0 11 = nI ((lf T n p0 7).2.2 6) → p_X6_read_b107 Q 0 (nI t) 1 s')
    (hbad : (lf T n p0 7).2.1 = false → ∀ s', rM s0 s' → gI s' 0 19 = nI (lf T n p0 7).1 → Q s') : ∀ r i s, i + r = 6 → MR t T n s (lf T n p0 i).1 → (lf T n p0 i).2.1 = true → gI s 0 19 = -9 → gI s 0 12 = 0 → rM s0 s → (∀ j, j < i → gR s 7 j = nI ((lf T n p0 i).2.2 j)) → p_X6_read_L57 Q (r + 1) 0 (nI t) (nI i) s := by
  intro r
  induction r with
  | zero =>
    intro i s hi h g2 hf h12 hr g5
    have hi6 : i = 6 := by omega
    subst hi6
    have e7 := lf_succ T n p0 6
    rw [if_pos g2] at e7
    have hl := lf_le (T := T) hp0 6
    unfold p_X6_read_L57
    refine br_t (by decide) ?_
    cases e : fg T n 0 9 (lf T n p0 6).1 with
    | none =>
      rw [e] at e7
      have e7 : lf T n p0 7 = ((lf T n p0 6).1, false, (lf T n p0 6).2.2) := e7
      refine m_figN (lo := 0) (hi := 9) ht hT hn h (by omega) hf rfl rfl (by omega) (by omega) e (br_f ?_ ?_)
      · rw [gI_ne _ _ (by omega), gI_same]; exact n9 (by omega)
      · unfold p_X6_read_b107
        refine ⟨1, ?_⟩
        unfold p_X6_read_L108
        exact br_t rfl (hbad (by rw [e7]) _ (rM_I (rM_I hr _ _ (by omega)) _ _ (by omega)) (by rw [gI_ne _ _ (by omega), gI_same, e7]))
    | some v =>
      rw [e] at e7
      have e7 : lf T n p0 7 = ((lf T n p0 6).1 + 1, true, fu (lf T n p0 6).2.2 6 v) := e7
      refine m_figS (lo := 0) (hi := 9) ht hT hn h hf rfl rfl (by omega) (by omega) e (br_t ?_ ?_)
      · rw [gI_ne _ _ (by omega), gI_ne _ _ (by omega)]; exact hf
      · refine hok (by rw [e7]) _ ?_ (rM_I (rM_I hr _ _ (by omega)) _ _ (by omega)) ?_ ?_ (fun j hj => ?_) ?_
        · rw [e7]; exact MR_I (MR_p h) _ (by omega) (by omega)
        · rw [gI_ne _ _ (by omega), gI_ne _ _ (by omega)]; exact h12
        · rw [gI_ne _ _ (by omega), gI_ne _ _ (by omega)]; exact hf
        · rw [e7]
          show gR s 7 j = nI (fu (lf T n p0 6).2.2 6 v j)
          rw [g5 j hj]
          unfold fu
          rw [if_neg (by omega)]
        · rw [e7, gI_same]
          show nI v = nI (fu (lf T n p0 6).2.2 6 v 6)
          unfold fu
          rw [if_pos rfl]
  | succ r ih =>
    intro i s hi h g2 hf h12 hr g5
    have e7 := lf_succ T n p0 i
    rw [if_pos g2] at e7
    have hl := lf_le (T := T) hp0 i
    unfold p_X6_read_L57
    refine br_f (nI_ge (b := 6) (by omega) (by decide)) ?_
    cases e : fg T n 0 9 (lf T n p0 i).1 with
    | none =>
      rw [e] at e7
      have e8 : (lf T n p0 (i + 1)).2.1 = false := by rw [e7]
      have e9 := lf_stay e8 (6 - i)
      rw [show i + 1 + (6 - i) = 7 by omega] at e9
      refine m_figN (lo := 0) (hi := 9) ht hT hn h (by omega) hf rfl rfl (by omega) (by omega) e ⟨7, rfl, rfl, m_in (N := 6) rfl rfl (by omega) (by decide), ?_⟩
      rw [m_cl (show i < 100000 by omega), nI_1]
      refine m_landO ht hn (P := (lf T n p0 i).1) (by omega) (fun s' r' f' => hbad e9.2 s' r' (by rw [f', e9.1, e7])) r (i + 1) (lf T n p0 i).1 _ (by omega) (MR_R (MR_I h _ (by omega) (by omega)) _ (by omega)) (by omega) ?_ (rM_R (rM_I hr _ _ (by omega)) _ (by omega))
      rw [gI_R, gI_same]
    | some v =>
      rw [e] at e7
      have e7 : lf T n p0 (i + 1) = ((lf T n p0 i).1 + 1, true, fu (lf T n p0 i).2.2 i v) := e7
      refine m_figS (lo := 0) (hi := 9) ht hT hn h hf rfl rfl (by omega) (by omega) e ⟨7, rfl, rfl, m_in (N := 6) rfl rfl (by omega) (by decide), ?_⟩
      rw [m_cl (show i < 100000 by omega), nI_1]
      refine ih (i + 1) _ (by omega) ?_ ?_ ?_ ?_ (rM_R (rM_I hr _ _ (by omega)) _ (by omega)) (fun j hj => ?_)
      · rw [e7]; exact MR_R (MR_p h) _ (by omega)
      · rw [e7]
      · rw [gI_R, gI_ne _ _ (by omega)]; exact hf
      · rw [gI_R, gI_ne _ _ (by omega)]; exact h12
      · rw [e7]
        show gR (setR _ 7 _) 7 j = nI (fu (lf T n p0 i).2.2 i v j)
        rw [gR_same, upd_if]
        unfold fu
        by_cases e : j = i
        · rw [if_pos e, if_pos e]
        · rw [if_neg e, if_neg e]
          exact g5 j (by omega)
/-- one woman -/
theorem m_woman (ht : t < 4) (hT : byt T) (hn : n ≤ 60) {s s0 : Sg} {i e p : Nat} {a : Nat → Nat → Nat} {Q : Sg → Prop} (h : MR t T n s p) (hp : p ≤ n) (hi : i < 6) (hf : gI s 0 19 = -9) (hd : DM s i e a) (hr : rM s0 s)
    (hF : ∀ P, (match letp T n p with
      | none => some p
      | some k => match fg T n 0 5 (p + 1) with
        | none => some (p + 1)
        | some pl => match fg T n 1 9 (p + 2) with
          | none => some (p + 2)
          | some ta => match fg T n 0 3 (p + 3) with
            | none => some (p + 3)
            | some tu => none) = some P → P < 1000 → ∀ s', rM s0 s' → gI s' 0 19 = nI P → Q s')
    (hO : ∀ k pl ta tu, letp T n p = some k → fg T n 0 5 (p + 1) = some pl → fg T n 1 9 (p + 2) = some ta → fg T n 0 3 (p + 3) = some tu → ∀ s', MR t T n s' (p + 4) → rM s0 s' → gI s' 0 19 = -9 → DM s' (i + 1) e (fuu (fuu (fuu (fuu a 1 i k) 2 i pl) 3 i ta) 4 i tu) → Q s') : p_X6_readWoman 0 s Q := by
  unfold p_X6_readWoman p_X6_readWoman_b23
  have bad : letp T n p = none → Q (setI s 0 19 (gI s 0 18)) := fun e1 => by
    rw [e1] at hF
    rw [h.2.1]
    exact hF p rfl (by omega) _ (rM_I hr _ _ (by omega)) (gI_same _ _ _ _)
  refine m_here ht hn h (by omega) (fun c => m_kindBy (fun e1 => br_t rfl (bad (by unfold letp; rw [if_pos c]; exact e1))) (fun k e1 => ?_)) (fun c => m_kindBy (fun e1 => br_t rfl (bad (by unfold letp; rw [if_neg c]))) (fun k e1 => by exact absurd e1 (by decide +revert)))
  have lp : letp T n p = some k := by unfold letp; rw [if_pos c]; exact e1
  have hk5 := lett_5 e1
  rw [lp] at hF
  refine br_f (n9 (by omega)) (br_f ?_ ⟨8, rfl, rfl, ?_, ?_⟩)
  · rw [hd.1]; intro q; have := nI_inj (b := 6) (by omega) (by decide) q; omega
  · rw [gI_ne _ _ (by omega), hd.1]; exact m_in (N := 6) rfl rfl hi (by decide)
  rw [h.2.1, nI_1]
  have i0 : gI (setI s 0 18 (nI (p + 1))) 0 12 = nI i := by rw [gI_ne _ _ (by omega)]; exact hd.1
  rw [i0, m_cl (show i < 100000 by omega)]
  have h1 : MR t T n (setR (setI s 0 18 (nI (p + 1))) 8 (upd (gR (setI s 0 18 (nI (p + 1))) 8) i (nI k))) (p + 1) := MR_R (MR_p h) _ (by omega)
  have r1 : rM s0 (setR (setI s 0 18 (nI (p + 1))) 8 (upd (gR (setI s 0 18 (nI (p + 1))) 8) i (nI k))) := rM_R (rM_I hr _ _ (by omega)) _ (by omega)
  have f1 : gI (setR (setI s 0 18 (nI (p + 1))) 8 (upd (gR (setI s 0 18 (nI (p + 1))) 8) i (nI k))) 0 19 = -9 := by rw [gI_R, gI_ne _ _ (by omega)]; exact hf
  have i1 : gI (setR (setI s 0 18 (nI (p + 1))) 8 (upd (gR (setI s 0 18 (nI (p + 1))) 8) i (nI k))) 0 12 = nI i := i0
  have d1 : (gI (setR (setI s 0 18 (nI (p + 1))) 8 (upd (gR (setI s 0 18 (nI (p + 1))) 8) i (nI k))) 0 11 = nI e) ∧ ∀ c, gR (setR (setI s 0 18 (nI (p + 1))) 8 (upd (gR (setI s 0 18 (nI (p + 1))) 8) i (nI k))) (7 + c) = if c = 1 then upd (gR s 8) i (nI k) else gR s (7 + c) := by
    refine ⟨by rw [gI_R, gI_ne _ _ (by omega)]; exact hd.2.1, fun c => ?_⟩
    by_cases c1 : c = 1
    · subst c1; rw [if_pos rfl, gR_same]; rfl
    · rw [if_neg c1, gR_ne _ _ (by omega)]; rfl
  generalize setR (setI s 0 18 (nI (p + 1))) 8 (upd (gR (setI s 0 18 (nI (p + 1))) 8) i (nI k)) = S1 at h1 r1 f1 i1 d1 ⊢
  have fin : ∀ (S : Sg) (q : Nat), ∀ P, P < 1000 → gI S 0 19 = nI P → rM s0 S → (∀ s', rM s0 s' → gI s' 0 19 = nI P → Q s') → ∀ f x, Q (setI (setR S 11 f) 0 12 x) := fun S q P hP g1 g2 g3 f x => g3 _ (rM_I (rM_R g2 _ (by omega)) _ _ (by omega)) (by rw [gI_ne _ _ (by omega)]; exact g1)
  have vin : vp_in (nI i) 6 := vp_in_nI hi (by decide)
  have tni : (nI i).toNatClampNeg = i := m_cl (by omega)
  cases e2 : fg T n 0 5 (p + 1) with
  | none =>
    simp only [e2] at hF
    refine m_figN (lo := 0) (hi := 5) ht hT hn h1 (by omega) f1 rfl rfl (by omega) (by omega) e2 ⟨9, rfl, rfl, by rw [i1]; exact vin, ?_⟩
    rw [i1, tni]
    have g1 := MR_R (k := 9) (MR_I (j := 19) h1 (nI (p + 1)) (by omega) (by omega)) (upd (gR (setI S1 0 19 (nI (p + 1))) 9) i 0) (by omega)
    have gf : gI (setR (setI S1 0 19 (nI (p + 1))) 9 (upd (gR (setI S1 0 19 (nI (p + 1))) 9) i 0)) 0 19 = nI (p + 1) := by rw [gI_R]; exact gI_same _ _ _ _
    have gr := rM_R (k := 9) (rM_I r1 19 (nI (p + 1)) (by omega)) (upd (gR (setI S1 0 19 (nI (p + 1))) 9) i 0) (by omega)
    have gi : gI (setR (setI S1 0 19 (nI (p + 1))) 9 (upd (gR (setI S1 0 19 (nI (p + 1))) 9) i 0)) 0 12 = nI i := by rw [gI_R, gI_ne _ _ (by omega)]; exact i1
    generalize setR (setI S1 0 19 (nI (p + 1))) 9 (upd (gR (setI S1 0 19 (nI (p + 1))) 9) i 0) = S2 at g1 gf gr gi ⊢
    refine m_figO ht hn g1 (by omega) (by rw [gf]; exact n9 (by omega)) ⟨10, rfl, rfl, by rw [gi]; exact vin, ?_⟩
    rw [gi, tni]
    refine m_figO ht hn (MR_R g1 _ (by omega)) (by omega) (by rw [gI_R, gf]; exact n9 (by omega)) ⟨11, rfl, rfl, by rw [gI_R, gi]; exact vin, ?_⟩
    exact fin _ 0 (p + 1) (by omega) (by rw [gI_R]; exact gf) (rM_R gr _ (by omega)) (hF (p + 1) rfl (by omega)) _ _
  | some pl =>
    simp only [e2] at hF
    refine m_figS (lo := 0) (hi := 5) ht hT hn h1 f1 rfl rfl (by omega) (by omega) e2 ⟨9, rfl, rfl, by rw [i1]; exact vin, ?_⟩
    rw [i1, tni]
    have h2 := MR_R (k := 9) (MR_p (q := p + 1 + 1) h1) (upd (gR (setI S1 0 18 (nI (p + 1 + 1))) 9) i (nI pl)) (by omega)
    have f2 : gI (setR (setI S1 0 18 (nI (p + 1 + 1))) 9 (upd (gR (setI S1 0 18 (nI (p + 1 + 1))) 9) i (nI pl))) 0 19 = -9 := by rw [gI_R, gI_ne _ _ (by omega)]; exact f1
    have r2 := rM_R (k := 9) (rM_I r1 18 (nI (p + 1 + 1)) (by omega)) (upd (gR (setI S1 0 18 (nI (p + 1 + 1))) 9) i (nI pl)) (by omega)
    have i2 : gI (setR (setI S1 0 18 (nI (p + 1 + 1))) 9 (upd (gR (setI S1 0 18 (nI (p + 1 + 1))) 9) i (nI pl))) 0 12 = nI i := by rw [gI_R, gI_ne _ _ (by omega)]; exact i1
    have d2 : (gI (setR (setI S1 0 18 (nI (p + 1 + 1))) 9 (upd (gR (setI S1 0 18 (nI (p + 1 + 1))) 9) i (nI pl))) 0 11 = nI e) ∧ ∀ c, gR (setR (setI S1 0 18 (nI (p + 1 + 1))) 9 (upd (gR (setI S1 0 18 (nI (p + 1 + 1))) 9) i (nI pl))) (7 + c) = if c = 1 then upd (gR s 8) i (nI k) else if c = 2 then upd (gR s 9) i (nI pl) else gR s (7 + c) := by
      refine ⟨by rw [gI_R, gI_ne _ _ (by omega)]; exact d1.1, fun c => ?_⟩
      by_cases c2 : c = 2
      · subst c2
        have := d1.2 2
        rw [if_neg (by decide)] at this
        rw [gR_same, gR_I, this]
        rfl
      · rw [gR_ne _ _ (by omega), gR_I, d1.2 c, if_neg c2]
    generalize setR (setI S1 0 18 (nI (p + 1 + 1))) 9 (upd (gR (setI S1 0 18 (nI (p + 1 + 1))) 9) i (nI pl)) = S2 at h2 f2 r2 i2 d2 ⊢
    have p2 := (fg_some e2).1
    cases e3 : fg T n 1 9 (p + 2) with
    | none =>
      simp only [e3] at hF
      refine m_figN (lo := 1) (hi := 9) ht hT hn h2 (by omega) f2 rfl rfl (by omega) (by omega) e3 ⟨10, rfl, rfl, by rw [i2]; exact vin, ?_⟩
      rw [i2, tni]
      have g1 := MR_R (k := 10) (MR_I (j := 19) h2 (nI (p + 1 + 1)) (by omega) (by omega)) (upd (gR (setI S2 0 19 (nI (p + 1 + 1))) 10) i 0) (by omega)
      have gf : gI (setR (setI S2 0 19 (nI (p + 1 + 1))) 10 (upd (gR (setI S2 0 19 (nI (p + 1 + 1))) 10) i 0)) 0 19 = nI (p + 1 + 1) := by rw [gI_R]; exact gI_same _ _ _ _
      refine m_figO ht hn g1 (by omega) (by rw [gf]; exact n9 (by omega)) ⟨11, rfl, rfl, by rw [gI_R, gI_ne _ _ (by omega), i2]; exact vin, ?_⟩
      exact fin _ 0 (p + 1 + 1) (by omega) gf (rM_R (rM_I r2 _ _ (by omega)) _ (by omega)) (hF (p + 2) rfl (by omega)) _ _
    | some ta =>
      simp only [e3] at hF
      refine m_figS (lo := 1) (hi := 9) ht hT hn h2 f2 rfl rfl (by omega) (by omega) e3 ⟨10, rfl, rfl, by rw [i2]; exact vin, ?_⟩
      rw [i2, tni]
      have h3 := MR_R (k := 10) (MR_p (q := p + 1 + 1 + 1) h2) (upd (gR (setI S2 0 18 (nI (p + 1 + 1 + 1))) 10) i (nI ta)) (by omega)
      have f3 : gI (setR (setI S2 0 18 (nI (p + 1 + 1 + 1))) 10 (upd (gR (setI S2 0 18 (nI (p + 1 + 1 + 1))) 10) i (nI ta))) 0 19 = -9 := by rw [gI_R, gI_ne _ _ (by omega)]; exact f2
      have r3 := rM_R (k := 10) (rM_I r2 18 (nI (p + 1 + 1 + 1)) (by omega)) (upd (gR (setI S2 0 18 (nI (p + 1 + 1 + 1))) 10) i (nI ta)) (by omega)
      have i3 : gI (setR (setI S2 0 18 (nI (p + 1 + 1 + 1))) 10 (upd (gR (setI S2 0 18 (nI (p + 1 + 1 + 1))) 10) i (nI ta))) 0 12 = nI i := by rw [gI_R, gI_ne _ _ (by omega)]; exact i2
      have d3 : (gI (setR (setI S2 0 18 (nI (p + 1 + 1 + 1))) 10 (upd (gR (setI S2 0 18 (nI (p + 1 + 1 + 1))) 10) i (nI ta))) 0 11 = nI e) ∧ ∀ c, gR (setR (setI S2 0 18 (nI (p + 1 + 1 + 1))) 10 (upd (gR (setI S2 0 18 (nI (p + 1 + 1 + 1))) 10) i (nI ta))) (7 + c) = if c = 3 then upd (gR s 10) i (nI ta) else if c = 1 then upd (gR s 8) i (nI k) else if c = 2 then upd (gR s 9) i (nI pl) else gR s (7 + c) := by
        refine ⟨by rw [gI_R, gI_ne _ _ (by omega)]; exact d2.1, fun c => ?_⟩
        by_cases c2 : c = 3
        · subst c2
          have := d2.2 3
          rw [if_neg (by decide), if_neg (by decide)] at this
          rw [gR_same, gR_I, this]
          rfl
        · rw [gR_ne _ _ (by omega), gR_I, d2.2 c, if_neg c2]
      generalize setR (setI S2 0 18 (nI (p + 1 + 1 + 1))) 10 (upd (gR (setI S2 0 18 (nI (p + 1 + 1 + 1))) 10) i (nI ta)) = S3 at h3 f3 r3 i3 d3 ⊢
      have p3 := (fg_some e3).1
      cases e4 : fg T n 0 3 (p + 3) with
      | none =>
        simp only [e4] at hF
        refine m_figN (lo := 0) (hi := 3) ht hT hn h3 (by omega) f3 rfl rfl (by omega) (by omega) e4 ⟨11, rfl, rfl, by rw [i3]; exact vin, ?_⟩
        exact fin _ 0 (p + 1 + 1 + 1) (by omega) (gI_same _ _ _ _) (rM_I r3 _ _ (by omega)) (hF (p + 3) rfl (by omega)) _ _
      | some tu =>
        refine m_figS (lo := 0) (hi := 3) ht hT hn h3 f3 rfl rfl (by omega) (by omega) e4 ⟨11, rfl, rfl, by rw [i3]; exact vin, ?_⟩
        rw [i3, tni]
        refine hO k pl ta tu lp e2 e3 e4 _ (MR_I (MR_R (MR_p h3) _ (by omega)) _ (by omega) (by omega)) (rM_I (rM_R (rM_I r3 _ _ (by omega)) _ (by omega)) _ _ (by omega)) (by rw [gI_ne _ _ (by omega), gI_R, gI_ne _ _ (by omega)]; exact f3) ⟨?_, ?_, fun j hj => ?_, fun c j c1 c2 hj => ?_⟩
        · rw [gI_same, gI_R, gI_ne _ _ (by omega), i3, nI_1]
        · rw [gI_ne _ _ (by omega), gI_R, gI_ne _ _ (by omega)]; exact d3.1
        · have := d3.2 0
          rw [if_neg (by decide), if_neg (by decide), if_neg (by decide)] at this
          have e7 : gR S3 7 = gR s 7 := this
          rw [gR_I, gR_ne _ _ (by decide), gR_I, e7, hd.2.2.1 j hj]
          simp [fuu]
        · have old := fun hji : j < i => hd.2.2.2 c j c1 c2 hji
          rw [gR_I]
          rcases (show c = 1 ∨ c = 2 ∨ c = 3 ∨ c = 4 by omega) with rfl | rfl | rfl | rfl
          · rw [gR_ne _ _ (by decide), gR_I, d3.2 1, if_neg (by decide), if_pos rfl, upd_if]
            by_cases z : j = i
            · simp [fuu, z]
            · rw [if_neg z]; simpa [fuu, z] using old (by omega)
          · rw [gR_ne _ _ (by decide), gR_I, d3.2 2, if_neg (by decide), if_neg (by decide), if_pos rfl, upd_if]
            by_cases z : j = i
            · simp [fuu, z]
            · rw [if_neg z]; simpa [fuu, z] using old (by omega)
          · rw [gR_ne _ _ (by decide), gR_I, d3.2 3, if_pos rfl, upd_if]
            by_cases z : j = i
            · simp [fuu, z]
            · rw [if_neg z]; simpa [fuu, z] using old (by omega)
          · have := d3.2 4
            rw [if_neg (by decide), if_neg (by decide), if_neg (by decide)] at this
            have e11 : gR S3 11 = gR s 11 := this
            rw [gR_same, upd_if, gR_I, e11]
            by_cases z : j = i
            · simp [fuu, z]
            · rw [if_neg z]; simpa [fuu, z] using old (by omega)

theorem wm_bad {i f p P : Nat} {a : Nat → Nat → Nat} (c : p < n ∨ i = 0) (h : (match letp T n p with
      | none => some p
      | some k => match fg T n 0 5 (p + 1) with
        | none => some (p + 1)
        | some pl => match fg T n 1 9 (p + 2) with
          | none => some (p + 2)
          | some ta => match fg T n 0 3 (p + 3) with
            | none => some (p + 3)
            | some tu => none) = some P) : (wm T n (f + 1) i p a).1 = some P := by
  unfold wm
  rw [if_pos c]
  revert h
  cases letp T n p with
  | none => exact fun h => h
  | some k =>
    cases fg T n 0 5 (p + 1) with
    | none => exact fun h => h
    | some pl =>
      cases fg T n 1 9 (p + 2) with
      | none => exact fun h => h
      | some ta =>
        cases fg T n 0 3 (p + 3) with
        | none => exact fun h => h
        | some tu => exact fun h => by cases h
theorem m_women (ht : t < 4) (hT : byt T) (hn : n ≤ 60) {s0 : Sg} {e : Nat} {Q : Sg → Prop} : ∀ f i p0 a s, i + f = 6 → MR t T n s p0 → p0 ≤ n → gI s 0 19 = -9 → DM s i e a → rM s0 s →
    (∀ P, (wm T n f i (skp T n p0) a).1 = some P → P < 1000 → ∀ s', rM s0 s' → gI s' 0 19 = nI P → Q s') → ((wm T n f i (skp T n p0) a).1 = none → ∀ s', rM s0 s' → gI s' 0 19 = -9 → DM s' (wm T n f i (skp T n p0) a).2.1 e (wm T n f i (skp T n p0) a).2.2 → Q s') → p_X6_read_L108 Q (f + 2) 0 (nI t) 1 s := by
  intro f
  induction f with
  | zero =>
    intro i p0 a s hi h hp hf hd hr hF hN
    have hi6 : i = 6 := by omega
    subst hi6
    have hk := (skp_le (T := T) hp).2
    unfold p_X6_read_L108
    refine br_f (by decide) (m_skip ht hn h hp hr (fun s1 h1 r1 i1 k1 => ⟨5, rfl, rfl, m_in (N := 4) rfl rfl ht (by decide), ?_⟩))
    generalize skp T n p0 = p at *
    have d1 : gI s1 0 12 = nI 6 := by rw [i1 12 (by decide)]; exact hd.1
    have f1 : gI s1 0 19 = -9 := by rw [i1 19 (by decide)]; exact hf
    rw [h1.2.1, m_cl (show t < 100000 by omega), h1.2.2.1]
    unfold wm at hF hN
    by_cases c : p < n
    · rw [if_pos c] at hF
      refine br_t ((nI_ltI (by omega) (by omega)).mpr c) ?_
      unfold p_X6_read_b136 p_X6_read_b141 p_X6_read_b164
      refine br_f (by decide) ?_
      unfold p_X6_readWoman p_X6_readWoman_b23
      have g1 : ¬ gI (setI s1 0 19 (gI s1 0 18)) 0 19 = -9 := by rw [h1.2.1, gI_same]; exact n9 (by omega)
      have g2 : p_X6_read_L108 Q (0 + 1) 0 (nI t) 0 (setI s1 0 19 (gI s1 0 18)) := by
        unfold p_X6_read_L108
        rw [h1.2.1]
        exact br_t rfl (hF p rfl (by omega) _ (rM_I r1 _ _ (by omega)) (gI_same _ _ _ _))
      exact m_here ht hn h1 (by omega) (fun _ => m_kindBy (fun e1 => br_t rfl (br_f g1 g2)) (fun k e1 => br_f (n9 (by have := lett_5 e1; omega)) (br_t (by rw [d1]; rfl) (br_f g1 g2)))) (fun z => absurd c z)
    · rw [if_neg c] at hN
      refine br_f (fun q => c ((nI_ltI (by omega) (by omega)).mp q)) (br_f (by rw [d1]; decide) ?_)
      unfold p_X6_read_b141 p_X6_read_L108
      refine br_t rfl (br_t rfl ?_)
      refine hN rfl s1 r1 f1 ⟨d1, by rw [i1 11 (by decide)]; exact hd.2.1, fun j hj => by rw [k1]; exact hd.2.2.1 j hj, fun c j x1 x2 hj => by rw [k1]; exact hd.2.2.2 c j x1 x2 hj⟩
  | succ f ih =>
    intro i p0 a s hi h hp hf hd hr hF hN
    have hk := (skp_le (T := T) hp).2
    unfold p_X6_read_L108
    refine br_f (by decide) (m_skip ht hn h hp hr (fun s1 h1 r1 i1 k1 => ⟨5, rfl, rfl, m_in (N := 4) rfl rfl ht (by decide), ?_⟩))
    generalize skp T n p0 = p at *
    have d1 : DM s1 i e a := ⟨by rw [i1 12 (by decide)]; exact hd.1, by rw [i1 11 (by decide)]; exact hd.2.1, fun j hj => by rw [k1]; exact hd.2.2.1 j hj, fun c j x1 x2 hj => by rw [k1]; exact hd.2.2.2 c j x1 x2 hj⟩
    have f1 : gI s1 0 19 = -9 := by rw [i1 19 (by decide)]; exact hf
    have key : p < n ∨ i = 0 → p_X6_read_b136 Q (fun y0 y1 y2 u => p_X6_read_L108 Q (f + 2) y0 y1 y2 u) 0 (nI t) s1 := by
      intro c
      unfold p_X6_read_b136 p_X6_read_b141 p_X6_read_b164
      refine br_f (by decide) (m_woman ht hT hn h1 hk (by omega) f1 d1 r1 (fun P e1 hP s' r' f' => br_f (by rw [f']; exact n9 hP) ?_) (fun k pl ta tu e1 e2 e3 e4 s' h' r' f' d' => br_t f' ?_))
      · unfold p_X6_read_L108
        exact br_t rfl (hF P (wm_bad c e1) hP s' r' f')
      · have ew : wm T n (f + 1) i p a = wm T n f (i + 1) (skp T n (p + 4)) (fuu (fuu (fuu (fuu a 1 i k) 2 i pl) 3 i ta) 4 i tu) := by
          rw [show wm T n (f + 1) i p a = (if p < n ∨ i = 0 then
      (match letp T n p with
      | none => (some p, i, a)
      | some k => match fg T n 0 5 (p + 1) with
        | none => (some (p + 1), i, a)
        | some pl => match fg T n 1 9 (p + 2) with
          | none => (some (p + 2), i, a)
          | some ta => match fg T n 0 3 (p + 3) with
            | none => (some (p + 3), i, a)
            | some tu => wm T n f (i + 1) (skp T n (p + 4)) (fuu (fuu (fuu (fuu a 1 i k) 2 i pl) 3 i ta) 4 i tu))
    else (none, i, a)) from rfl, if_pos c]
          simp only [e1, e2, e3, e4]
        rw [ew] at hF hN
        have := (fg_some e4).1
        exact ih (i + 1) (p + 4) _ s' (by omega) h' (by omega) f' d' r' hF hN
    rw [h1.2.1, m_cl (show t < 100000 by omega), h1.2.2.1]
    by_cases c : p < n
    · exact br_t ((nI_ltI (by omega) (by omega)).mpr c) (key (Or.inl c))
    · refine br_f (fun q => c ((nI_ltI (by omega) (by omega)).mp q)) ?_
      by_cases c0 : i = 0
      · exact br_t (by rw [d1.1, c0]; rfl) (key (Or.inr c0))
      · refine br_f (by rw [d1.1]; intro q; have := nI_inj (b := 0) (by omega) (by decide) q; omega) ?_
        unfold p_X6_read_b141 p_X6_read_L108
        unfold wm at hN
        rw [if_neg (by omega)] at hN
        exact br_t rfl (br_t rfl (hN rfl s1 r1 f1 d1))
theorem m_read (ht : t < 4) (hT : byt T) (hn : n ≤ 60) {s : Sg} {x : Int32} {Q : Sg → Prop} (hx : x = nI t) (h5 : gR s 5 t = nI n) (h4 : ∀ i, i < 60 → gR s 4 (60 * t + i) = T i)
    (hF : ∀ P, (rd T n).1 = some P → P < 1000 → ∀ s', rM s s' → gI s' 0 19 = nI P → Q s') (hN : (rd T n).1 = none → ∀ s', rM s s' → gI s' 0 19 = -9 → DM s' ((rd T n).2.1 0) ((rd T n).2.1 1) (rd T n).2.2 → Q s') : p_X6_read 0 x s Q := by
  subst hx
  unfold p_X6_read
  generalize hs1 : setI (setI (setI (setI s 0 17 (nI t)) 0 18 0) 0 19 (-9)) 0 12 0 = s1
  have h1 : MR t T n s1 0 := by
    rw [← hs1]
    exact ⟨by simp [gI_if], by simp [gI_if]; rfl, h5, h4⟩
  have r1 : rM s s1 := by
    rw [← hs1]
    exact rM_I (rM_I (rM_I (rM_I (rM_rf s) _ _ (by omega)) _ _ (by omega)) _ _ (by omega)) _ _ (by omega)
  have f1 : gI s1 0 19 = -9 := by rw [← hs1]; simp [gI_if]
  have z1 : gI s1 0 12 = 0 := by rw [← hs1]; simp [gI_if]
  have hk := (skp_le (T := T) (Nat.zero_le n)).2
  refine m_skip ht hn h1 (Nat.zero_le n) r1 (fun s2 h2 r2 i2 k2 => ?_)
  have f2 : gI s2 0 19 = -9 := by rw [i2 19 (by decide)]; exact f1
  have z2 : gI s2 0 12 = 0 := by rw [i2 12 (by decide)]; exact z1
  unfold rd at hF hN
  generalize skp T n 0 = p at *
  have no : (¬ (p < n ∧ T p = 100)) → p_X6_read_b55 Q 0 (nI t) (setI s2 0 19 (gI s2 0 18)) := by
    intro c
    simp only [if_neg c] at hF
    unfold p_X6_read_b55
    rw [h2.2.1]
    exact ⟨7, m_landO ht hn (s0 := s) (P := p) (by omega) (fun s' r' f' => hF p rfl (by omega) s' r' f') 6 0 p _ (by omega) (MR_I h2 _ (by omega) (by omega)) (by omega) (gI_same _ _ _ _) (rM_I r2 _ _ (by omega))⟩
  refine m_here ht hn h2 (by omega) (fun c => ?_) (fun c => br_f (by decide) (no (fun z => c z.1)))
  by_cases c2 : T p = 100
  · refine br_t c2 ?_
    simp only [if_pos (And.intro c c2)] at hF hN
    unfold p_X6_read_b55
    rw [h2.2.1, nI_1]
    refine ⟨7, m_land ht hT hn (s0 := s) (p0 := p + 1) (by omega) (fun ok s' h' r' z' f' g' e' => ?_) (fun bad s' r' f' => ?_) 6 0 _ (by omega) (MR_p h2) rfl (by rw [gI_ne _ _ (by omega)]; exact f2) (by rw [gI_ne _ _ (by omega)]; exact z2) (rM_I r2 _ _ (by omega)) (fun j hj => absurd hj (Nat.not_lt_zero j))⟩
    · simp only [if_pos ok] at hF hN
      unfold p_X6_read_b107
      exact ⟨8, m_women ht hT hn (s0 := s) 6 0 _ (fun c j => if c = 0 then (lf T n (p + 1) 7).2.2 j else 0) s' (by omega) h' (lf_le (by omega) 7) f' ⟨z', e', g', fun c j _ _ hj => absurd hj (Nat.not_lt_zero j)⟩ r' hF hN⟩
    · have bad' : ¬ (lf T n (p + 1) 7).2.1 = true := by rw [bad]; decide
      simp only [if_neg bad'] at hF
      have := lf_le (T := T) (n := n) (show p + 1 ≤ n by omega) 7
      exact hF _ rfl (by omega) s' r' f'
  · exact br_f c2 (no (fun z => c2 z.2))
end RDM
