/-! the class's reader -/
def rX (X X' : Sg) : Prop := (∀ k, (k < 37 ∨ 48 < k) → gR X' k = gR X k) ∧ (∀ k j, k ≠ 17 → k ≠ 37 → gI X' k j = gI X k j) ∧ ∀ k j, gJ X' k j = gJ X k j
theorem rX_rf (X : Sg) : rX X X := ⟨fun _ _ => rfl, fun _ _ _ _ => rfl, fun _ _ => rfl⟩
theorem rX_R {X X' : Sg} (h : rX X X') {k : Nat} (f : Nat → Int32) (hk : 37 ≤ k ∧ k ≤ 48) : rX X (setR X' k f) := ⟨fun c hc => (gR_ne _ _ (by omega)).trans (h.1 c hc), h.2.1, h.2.2⟩
theorem rX_I {X X' : Sg} (h : rX X X') {k : Nat} (j : Nat) (v : Int32) (hk : k = 17 ∨ k = 37) : rX X (setI X' k j v) := ⟨h.1, fun c i h1 h2 => (gI_ne _ _ (by omega)).trans (h.2.1 c i h1 h2), h.2.2⟩
theorem isD37 : isD 37 := Or.inr (Or.inl rfl)
theorem hlp {P : Prop} (h : P) : P := h
def RS (A : Nat) (T : Nat → Int32) (n : Nat) (s : Sg) (p : Nat) : Prop := gT s = some A ∧ gI s 17 2 = nI n ∧ gI s 17 3 = nI p ∧ gR s A = T
section RDX
variable {A : Nat} {T : Nat → Int32} {n : Nat}
theorem RS_R (hA : 13 ≤ A ∧ A ≤ 16) {s : Sg} {p k : Nat} (h : RS A T n s p) (f : Nat → Int32) (hk : 37 ≤ k) : RS A T n (setR s k f) p := ⟨h.1, h.2.1, h.2.2.1, by rw [gR_ne _ _ (by omega)]; exact h.2.2.2⟩
theorem RS_I {s : Sg} {p j : Nat} (h : RS A T n s p) (v : Int32) : RS A T n (setI s 37 j v) p := ⟨h.1, by rw [gI_ne _ _ (by omega)]; exact h.2.1, by rw [gI_ne _ _ (by omega)]; exact h.2.2.1, h.2.2.2⟩
theorem RS_p {s : Sg} {p : Nat} (h : RS A T n s p) : RS A T n (setI s 17 3 (nI (p + 1))) (p + 1) := ⟨h.1, by rw [gI_ne _ _ (by omega)]; exact h.2.1, gI_same _ _ _ _, h.2.2.2⟩
theorem e_sign (hA : 13 ≤ A ∧ A ≤ 16) (hn : n ≤ 60) {s : Sg} {p : Nat} {Q : Int32 → Sg → Prop} (h : RS A T n s p) (hp : p < 2 ^ 31) (ht : p < n → Q (T p) s) (hf : ¬ p < n → Q 32 s) : p_X3_sign 17 s Q := by
  obtain ⟨h1, h2, h3, h4⟩ := h
  have hk : kX A = 7 ∧ lX A = 60 := by
    rcases (show A = 13 ∨ A = 14 ∨ A = 15 ∨ A = 16 by omega) with rfl | rfl | rfl | rfl <;> exact ⟨rfl, rfl⟩
  unfold p_X3_sign
  rw [h1, h2, h3]
  by_cases c : p < n
  · refine br_f (nI_ge c (by omega)) (e_item rfl hk.1 rfl (by rw [hk.2]; omega) ?_)
    rw [h4]
    exact ht c
  · exact br_t (nI_le (by omega) hp) (hf c)
theorem e_figN (hA : 13 ≤ A ∧ A ≤ 16) (hT : byt T) (hn : n ≤ 60) {s : Sg} {p lo hi : Nat} {x y : Int32} {Q : Int32 → Sg → Prop} (h : RS A T n s p) (hp : p ≤ n + 4) (hx : x = nI lo) (hy : y = nI hi) (hl : lo ≤ 9) (hh : hi ≤ 9) (hg : fg T n lo hi p = none) (hQ : Q (-9) s) : p_X3_readFigure 17 x y s Q := by
  subst hx hy
  have hg := fg_none hg
  unfold p_X3_readFigure
  refine e_sign hA hn h (by omega) (fun c => ?_) (fun c => ?_)
  · have hb := hT p (by omega)
    have e : (T p - 48).toInt = (T p).toInt - 48 := by
      rw [Int32.toInt_sub, show (48 : Int32).toInt = 48 from rfl]
      exact Int.bmod_eq_of_le (by omega) (by omega)
    by_cases c1 : T p - 48 < nI lo
    · exact br_t c1 hQ
    · refine br_f c1 (br_f ?_ hQ)
      rw [Int32.lt_iff_toInt_lt, e, nI_toInt (by omega)] at c1
      rw [Int32.le_iff_toInt_le, e, nI_toInt (by omega)]
      intro c2
      exact hg ⟨c, by omega, by omega⟩
  · refine br_t ?_ hQ
    rw [Int32.lt_iff_toInt_lt, nI_toInt (by omega)]
    have : ((32 : Int32) - 48).toInt = -16 := rfl
    omega
theorem e_figS (hA : 13 ≤ A ∧ A ≤ 16) (hT : byt T) (hn : n ≤ 60) {s : Sg} {p lo hi v : Nat} {x y : Int32} {Q : Int32 → Sg → Prop} (h : RS A T n s p) (hx : x = nI lo) (hy : y = nI hi) (hl : lo ≤ 9) (hh : hi ≤ 9) (hg : fg T n lo hi p = some v) (hQ : Q (nI v) (setI s 17 3 (nI (p + 1)))) : p_X3_readFigure 17 x y s Q := by
  subst hx hy
  obtain ⟨g1, g2, g3, g4⟩ := fg_some hg
  unfold p_X3_readFigure
  refine e_sign hA hn h (by omega) (fun c => ?_) (fun c => absurd g1 c)
  have e : T p - 48 = nI v := by
    apply Int32.toInt_inj.mp
    rw [Int32.toInt_sub, show (48 : Int32).toInt = 48 from rfl, nI_toInt (by omega), g4, show (48 + (v : Int) - 48) = v by omega]
    exact Int.bmod_eq_of_le (by omega) (by omega)
  rw [e, h.2.2.1, nI_1]
  exact br_f (fun q => by have := (nI_ltI (by omega) (by omega)).mp q; omega) (br_t (nI_le g3 (by omega)) hQ)
theorem e_skip (hA : 13 ≤ A ∧ A ≤ 16) (hT : byt T) (hn : n ≤ 60) {s s0 : Sg} {p : Nat} {Q : Sg → Prop} (h : RS A T n s p) (hp : p ≤ n) (hr : rX s0 s) (hQ : ∀ s', RS A T n s' (skp T n p) → rX s0 s' → (∀ j, gI s' 37 j = gI s 37 j) → (∀ k, gR s' k = gR s k) → Q s') : p_X3_skipBlanks 17 s Q := by
  unfold p_X3_skipBlanks
  refine ⟨61, ?_⟩
  have : ∀ f i p s', i + f = 60 → RS A T n s' p → p ≤ n → rX s0 s' → (∀ j, gI s' 37 j = gI s 37 j) → (∀ k, gR s' k = gR s k) → (∀ s', RS A T n s' (sk T n f p) → rX s0 s' → (∀ j, gI s' 37 j = gI s 37 j) → (∀ k, gR s' k = gR s k) → Q s') → p_X3_skipBlanks_L2 Q (f + 1) 17 (nI i) s' := by
    intro f
    induction f with
    | zero =>
      intro i p s' hi h1 h2 h3 h4 h5 h6
      unfold p_X3_skipBlanks_L2
      rw [show i = 60 by omega]
      exact br_t (by decide) (h6 s' h1 h3 h4 h5)
    | succ f ih =>
      intro i p s' hi h1 h2 h3 h4 h5 h6
      have g2 := h1.2.1
      have g3 := h1.2.2.1
      unfold p_X3_skipBlanks_L2
      rw [g2, g3, nI_1]
      refine br_f (nI_ge (b := 60) (by omega) (by decide)) ?_
      by_cases c : p < n
      · refine br_f (nI_ge c (by omega)) (e_sign hA hn h1 (by omega) (fun _ => ?_) (fun z => absurd c z))
        unfold sk at h6
        by_cases c2 : T p = 32
        · rw [if_pos ⟨c, c2⟩] at h6
          refine br_t c2 ?_
          rw [g3, nI_1]
          exact ih (i + 1) (p + 1) _ (by omega) (RS_p h1) (by omega) (rX_I h3 _ _ (Or.inl rfl)) (fun j => (gI_ne _ _ (by omega)).trans (h4 j)) h5 h6
        · rw [if_neg (fun z => c2 z.2)] at h6
          exact br_f c2 (h6 s' h1 h3 h4 h5)
      · unfold sk at h6
        rw [if_neg (fun z => c z.1)] at h6
        exact br_t (nI_le (by omega) (by omega)) (h6 s' h1 h3 h4 h5)
  exact this 60 0 p s (by omega) h hp hr (fun _ => rfl) (fun _ => rfl) hQ
theorem e_byLetter {c : Int32} {s : Sg} {Q : Int32 → Sg → Prop} (hN : lett c = none → Q (-9) s) (hS : ∀ k, lett c = some k → Q (nI k) s) : p_X2_byLetter c s Q := by
  unfold p_X2_byLetter
  unfold lett at hN hS
  by_cases c1 : c = 97
  · rw [if_pos c1] at hS; exact br_t c1 (hS 5 rfl)
  · rw [if_neg c1] at hN hS; refine br_f c1 ?_
    by_cases c1 : c = 98
    · rw [if_pos c1] at hS; exact br_t c1 (hS 1 rfl)
    · rw [if_neg c1] at hN hS; refine br_f c1 ?_
      by_cases c1 : c = 103
      · rw [if_pos c1] at hS; exact br_t c1 (hS 4 rfl)
      · rw [if_neg c1] at hN hS; refine br_f c1 ?_
        by_cases c1 : c = 108
        · rw [if_pos c1] at hS; exact br_t c1 (hS 2 rfl)
        · rw [if_neg c1] at hN hS; refine br_f c1 ?_
          by_cases c1 : c = 118
          · rw [if_pos c1] at hS; exact br_t c1 (hS 3 rfl)
          · rw [if_neg c1] at hN hS; refine br_f c1 ?_
            by_cases c1 : c = 119
            · rw [if_pos c1] at hS; exact br_t c1 (hS 0 rfl)
            · rw [if_neg c1] at hN; exact br_f c1 (hN rfl)
/-- the land -/
def zeroD (s : Sg) : Prop := gI s 37 0 = 0 ∧ gI s 37 2 = 0 ∧ gI s 37 3 = 0
theorem e_land (hA : 13 ≤ A ∧ A ≤ 16) (hT : byt T) (hn : n ≤ 60) {s s0 : Sg} {p : Nat} {Q : Int32 → Sg → Prop} (h : RS A T n s p) (hp : p < n) (h1 : T p = 100) (hz : zeroD s) (hr : rX s0 s)
    (hok : (lf T n (p + 1) 7).2.1 = true → ∀ s', RS A T n s' (lf T n (p + 1) 7).1 → zeroD s' → rX s0 s' → (∀ j, j < 6 → gR s' 38 j = nI ((lf T n (p + 1) 7).2.2 j)) → gI s' 37 1 = nI ((lf T n (p + 1) 7).2.2 6) → Q 1 s')
    (hbad : (lf T n (p + 1) 7).2.1 = false → ∀ s', RS A T n s' (lf T n (p + 1) 7).1 → rX s0 s' → Q 0 s') : p_X3_readLand 17 s Q := by
  unfold p_X3_readLand
  refine e_sign hA hn h (by omega) (fun _ => ?_) (fun z => absurd hp z)
  refine br_t h1 ⟨7, ?_⟩
  rw [h.2.2.1, nI_1]
  have key : ∀ r i s', i + r = 6 → RS A T n s' (lf T n (p + 1) i).1 → (lf T n (p + 1) i).2.1 = true → zeroD s' → rX s0 s' → (∀ j, j < i → gR s' 38 j = nI ((lf T n (p + 1) i).2.2 j)) → p_X3_readLand_L23 Q (r + 1) 17 (nI i) s' := by
    intro r
    induction r with
    | zero =>
      intro i s' hi g1 g2 g3 g4 g5
      have hi6 : i = 6 := by omega
      subst hi6
      have e7 := lf_succ T n (p + 1) 6
      rw [if_pos g2] at e7
      have hl := lf_le (T := T) (n := n) (show p + 1 ≤ n by omega) 6
      unfold p_X3_readLand_L23
      refine br_t (by decide) ?_
      cases e : fg T n 0 9 (lf T n (p + 1) 6).1 with
      | none =>
        rw [e] at e7
        have e7 : lf T n (p + 1) 7 = ((lf T n (p + 1) 6).1, false, (lf T n (p + 1) 6).2.2) := e7
        exact e_figN (lo := 0) (hi := 9) hA hT hn g1 (by omega) rfl rfl (by omega) (by omega) e (br_t rfl (hbad (by rw [e7]) s' (by rw [e7]; exact g1) g4))
      | some v =>
        rw [e] at e7
        have e7 : lf T n (p + 1) 7 = ((lf T n (p + 1) 6).1 + 1, true, fu (lf T n (p + 1) 6).2.2 6 v) := e7
        have hv := (fg_some e).2.2.1
        refine e_figS (lo := 0) (hi := 9) hA hT hn g1 rfl rfl (by omega) (by omega) e (br_f (fun q => nI_pos (show v < 2 ^ 31 by omega) (by rw [q]; decide)) ⟨37, rfl, rfl, hok (by rw [e7]) _ ?_ ?_ ?_ (fun j hj => ?_) ?_⟩)
        · rw [e7]; exact RS_I (RS_p g1) _
        · exact ⟨by rw [gI_ne _ _ (by omega), gI_ne _ _ (by omega)]; exact g3.1, by rw [gI_ne _ _ (by omega), gI_ne _ _ (by omega)]; exact g3.2.1, by rw [gI_ne _ _ (by omega), gI_ne _ _ (by omega)]; exact g3.2.2⟩
        · exact rX_I (rX_I g4 _ _ (Or.inl rfl)) _ _ (Or.inr rfl)
        · rw [e7]
          show gR s' 38 j = nI (fu (lf T n (p + 1) 6).2.2 6 v j)
          rw [g5 j hj]
          unfold fu
          rw [if_neg (by omega)]
        · rw [e7, gI_same]
          show nI v = nI (fu (lf T n (p + 1) 6).2.2 6 v 6)
          unfold fu
          rw [if_pos rfl]
    | succ r ih =>
      intro i s' hi g1 g2 g3 g4 g5
      have e7 := lf_succ T n (p + 1) i
      rw [if_pos g2] at e7
      have hl := lf_le (T := T) (n := n) (show p + 1 ≤ n by omega) i
      unfold p_X3_readLand_L23
      refine br_f (nI_ge (b := 6) (by omega) (by decide)) ?_
      cases e : fg T n 0 9 (lf T n (p + 1) i).1 with
      | none =>
        rw [e] at e7
        have e8 : (lf T n (p + 1) (i + 1)).2.1 = false := by rw [e7]
        have e9 := lf_stay e8 (6 - i)
        rw [show i + 1 + (6 - i) = 7 by omega] at e9
        refine e_figN (lo := 0) (hi := 9) hA hT hn g1 (by omega) rfl rfl (by omega) (by omega) e (br_t rfl (hbad e9.2 s' (by rw [e9.1, e7]; exact g1) g4))
      | some v =>
        rw [e] at e7
        have e7 : lf T n (p + 1) (i + 1) = ((lf T n (p + 1) i).1 + 1, true, fu (lf T n (p + 1) i).2.2 i v) := e7
        have hv := (fg_some e).2.2.1
        refine e_figS (lo := 0) (hi := 9) hA hT hn g1 rfl rfl (by omega) (by omega) e (br_f (fun q => nI_pos (show v < 2 ^ 31 by omega) (by rw [q]; decide)) ⟨37, rfl, rfl, ?_⟩)
        refine d_setItem isD37 0 (by decide) rfl (show i < 6 by omega) ?_
        rw [nI_1]
        refine ih (i + 1) _ (by omega) ?_ ?_ ?_ ?_ (fun j hj => ?_)
        · rw [e7]; exact RS_R hA (RS_p g1) _ (by omega)
        · rw [e7]
        · exact ⟨by rw [gI_R, gI_ne _ _ (by omega)]; exact g3.1, by rw [gI_R, gI_ne _ _ (by omega)]; exact g3.2.1, by rw [gI_R, gI_ne _ _ (by omega)]; exact g3.2.2⟩
        · exact rX_R (rX_I g4 _ _ (Or.inl rfl)) _ (by omega)
        · rw [e7]
          show gR (setR _ 38 _) 38 j = nI (fu (lf T n (p + 1) i).2.2 i v j)
          rw [gR_same, upd_if]
          unfold fu
          by_cases e : j = i
          · rw [if_pos e, if_pos e]
          · rw [if_neg e, if_neg e]
            exact g5 j (by omega)
  exact key 6 0 _ (by omega) (RS_p h) rfl ⟨(gI_ne _ _ (by omega)).trans hz.1, (gI_ne _ _ (by omega)).trans hz.2.1, (gI_ne _ _ (by omega)).trans hz.2.2⟩ (rX_I hr _ _ (Or.inl rfl)) (fun j hj => absurd hj (Nat.not_lt_zero j))
/-- the draft so far -/
def DS (s : Sg) (i e : Nat) (a : Nat → Nat → Nat) : Prop := gI s 37 0 = nI i ∧ gI s 37 1 = nI e ∧ gI s 37 2 = 0 ∧ gI s 37 3 = 0 ∧ (∀ j, j < 6 → gR s 38 j = nI (a 0 j)) ∧ ∀ c j, 1 ≤ c → c ≤ 4 → j < i → gR s (38 + c) j = nI (a c j)
theorem e_women (hA : 13 ≤ A ∧ A ≤ 16) (hT : byt T) (hn : n ≤ 60) {s0 : Sg} {e : Nat} {Q : Int32 → Sg → Prop} : ∀ f i p a s, i + f = 6 → RS A T n s p → p ≤ n → DS s i e a → rX s0 s →
    (∀ P, (wm T n f i p a).1 = some P → ∀ s', rX s0 s' → Q (nI P) s') → ((wm T n f i p a).1 = none → ∀ s', rX s0 s' → DS s' (wm T n f i p a).2.1 e (wm T n f i p a).2.2 → Q (-9) s') → p_X3_read_L44 Q (f + 1) 17 (nI i) s := by
  intro f
  induction f with
  | zero =>
    intro i p a s hi h hp hd hr hS hN
    unfold p_X3_read_L44 p_X3_read_b83 p_X3_read_b109
    have hi6 : i = 6 := by omega
    subst hi6
    rw [h.2.1, h.2.2.1]
    unfold wm at hS hN
    refine br_t (by decide) ?_
    by_cases c : p < n
    · rw [if_pos c] at hS
      exact br_t ((nI_ltI (by omega) (by omega)).mpr c) (hS p rfl s hr)
    · rw [if_neg c] at hN
      refine br_f (fun q => c ((nI_ltI (by omega) (by omega)).mp q)) ⟨37, rfl, rfl, ?_⟩
      rw [hd.1]
      exact br_f (by decide) (hN rfl s hr hd)
  | succ f ih =>
    intro i p a s hi h hp hd hr hS hN
    unfold p_X3_read_L44
    rw [h.2.1, h.2.2.1]
    refine br_f (nI_ge (b := 6) (by omega) (by decide)) ?_
    unfold wm at hS hN
    by_cases c : p < n
    · rw [if_pos (Or.inl c)] at hS hN
      have lp : letp T n p = lett (T p) := by unfold letp; rw [if_pos c]
      rw [lp] at hS hN
      refine br_f (nI_ge c (by omega)) ?_
      unfold p_X3_readWoman
      refine e_sign hA hn h (by omega) (fun _ => ?_) (fun z => absurd c z)
      refine e_byLetter (fun e1 => ?_) (fun k e1 => ?_)
      · rw [e1] at hS
        refine br_t rfl (br_t rfl ?_)
        rw [h.2.2.1]
        exact hS p rfl s hr
      · rw [e1] at hS hN
        have nn : ∀ v : Nat, v ≤ 9 → ¬ nI v = -9 := fun v hv q => nI_pos (show v < 2 ^ 31 by omega) (by rw [q]; decide)
        have hk5 := lett_5 e1
        refine br_f (nn k (by omega)) ?_
        rw [h.2.2.1, nI_1]
        have h1 := RS_p h
        have r1 := rX_I hr 3 (nI (p + 1)) (k := 17) (Or.inl rfl)
        cases e2 : fg T n 0 5 (p + 1) with
        | none =>
          simp only [e2] at hS hN
          unfold p_X3_readWoman_b51 p_X3_readWoman_b69
          refine e_figN (lo := 0) (hi := 5) hA hT hn h1 (by omega) rfl rfl (by omega) (by omega) e2 (br_t rfl (br_t rfl (br_t rfl (br_t rfl ?_))))
          rw [h1.2.2.1]
          exact hS _ rfl _ r1
        | some pl =>
          simp only [e2] at hS hN
          have hpl := (fg_some e2).2.2.1
          have h2 := RS_p h1
          have r2 := rX_I r1 3 (nI (p + 1 + 1)) (k := 17) (Or.inl rfl)
          refine e_figS (lo := 0) (hi := 5) hA hT hn h1 rfl rfl (by omega) (by omega) e2 (br_f (nn pl (by omega)) ?_)
          cases e3 : fg T n 1 9 (p + 2) with
          | none =>
            simp only [e3] at hS hN
            unfold p_X3_readWoman_b51 p_X3_readWoman_b69
            refine e_figN (lo := 1) (hi := 9) hA hT hn h2 (by omega) rfl rfl (by omega) (by omega) e3 (br_t rfl (br_t rfl (br_t rfl ?_)))
            rw [h2.2.2.1]
            exact hS _ rfl _ r2
          | some ta =>
            simp only [e3] at hS hN
            have hta := (fg_some e3).2.2.1
            have h3 := RS_p h2
            have r3 := rX_I r2 3 (nI (p + 1 + 1 + 1)) (k := 17) (Or.inl rfl)
            unfold p_X3_readWoman_b51 p_X3_readWoman_b69
            refine e_figS (lo := 1) (hi := 9) hA hT hn h2 rfl rfl (by omega) (by omega) e3 (br_f (nn ta (by omega)) ?_)
            cases e4 : fg T n 0 3 (p + 3) with
            | none =>
              simp only [e4] at hS hN
              refine e_figN (lo := 0) (hi := 3) hA hT hn h3 (by omega) rfl rfl (by omega) (by omega) e4 (br_t rfl (br_t rfl ?_))
              rw [h3.2.2.1]
              exact hS _ rfl _ r3
            | some tu =>
              simp only [e4] at hS hN
              have htu := (fg_some e4).2.2.1
              have htp := (fg_some e4).1
              have h4 := RS_p h3
              have r4 := rX_I r3 3 (nI (p + 1 + 1 + 1 + 1)) (k := 17) (Or.inl rfl)
              refine e_figS (lo := 0) (hi := 3) hA hT hn h3 rfl rfl (by omega) (by omega) e4 (br_f (nn tu (by omega)) ⟨37, rfl, rfl, ?_⟩)
              generalize hs4 : setI (setI (setI (setI s 17 3 (nI (p + 1))) 17 3 (nI (p + 1 + 1))) 17 3 (nI (p + 1 + 1 + 1))) 17 3 (nI (p + 1 + 1 + 1 + 1)) = s4 at h4 r4 ⊢
              have d4 : DS s4 i e a := by
                rw [← hs4]
                refine ⟨?_, ?_, ?_, ?_, hd.2.2.2.2.1, hd.2.2.2.2.2⟩
                · simp only [gI_ne _ _ (show ¬ (37 = 17 ∧ 0 = 3) by omega)]; exact hd.1
                · simp only [gI_ne _ _ (show ¬ (37 = 17 ∧ 1 = 3) by omega)]; exact hd.2.1
                · simp only [gI_ne _ _ (show ¬ (37 = 17 ∧ 2 = 3) by omega)]; exact hd.2.2.1
                · simp only [gI_ne _ _ (show ¬ (37 = 17 ∧ 3 = 3) by omega)]; exact hd.2.2.2.1
              unfold p_X0_addWoman
              refine d_setItem isD37 1 (by decide) d4.1 (show i < 6 by omega) ?_
              refine d_setItem isD37 2 (by decide) d4.1 (show i < 6 by omega) ?_
              refine d_setItem isD37 3 (by decide) d4.1 (show i < 6 by omega) ?_
              refine d_setItem isD37 4 (by decide) d4.1 (show i < 6 by omega) ?_
              generalize hs5 : setI (setR (setR (setR (setR s4 (37 + 1 + 1) (upd (gR s4 (37 + 1 + 1)) i (nI k))) (37 + 1 + 2) _) (37 + 1 + 3) _) (37 + 1 + 4) _) 37 0 _ = s5
              have g0 : gI s5 37 0 = nI (i + 1) := by
                rw [← hs5, gI_same]
                show gI s4 37 0 + 1 = _
                rw [d4.1, nI_1]
              have hj : ∀ j, j ≠ 0 → gI s5 37 j = gI s4 37 j := fun j hj => by
                rw [← hs5, gI_ne _ _ (by omega)]
                rfl
              have hr5 : ∀ c, gR s5 (38 + c) = if c = 1 then upd (gR s4 39) i (nI k) else if c = 2 then upd (gR s4 40) i (nI pl) else if c = 3 then upd (gR s4 41) i (nI ta) else if c = 4 then upd (gR s4 42) i (nI tu) else gR s4 (38 + c) := fun c => by
                rw [← hs5, gR_I]
                by_cases c1 : c = 1
                · subst c1; rfl
                · by_cases c2 : c = 2
                  · subst c2; rfl
                  · by_cases c3 : c = 3
                    · subst c3; rfl
                    · by_cases c4 : c = 4
                      · subst c4; rfl
                      · rw [gR_ne _ _ (by omega), gR_ne _ _ (by omega), gR_ne _ _ (by omega), gR_ne _ _ (by omega), if_neg c1, if_neg c2, if_neg c3, if_neg c4]
              have r5 : rX s0 s5 := by
                rw [← hs5]
                exact rX_I (rX_R (rX_R (rX_R (rX_R r4 _ (by omega)) _ (by omega)) _ (by omega)) _ (by omega)) _ _ (Or.inr rfl)
              have h5 : RS A T n s5 (p + 1 + 1 + 1 + 1) := by
                rw [← hs5]
                exact RS_I (RS_R hA (RS_R hA (RS_R hA (RS_R hA h4 _ (by omega)) _ (by omega)) _ (by omega)) _ (by omega)) _
              refine br_f (by decide) (e_skip hA hT hn h5 (by omega) r5 (fun s6 h6 r6 i6 k6 => ?_))
              rw [nI_1]
              refine ih (i + 1) _ _ s6 (by omega) h6 (skp_le (by omega)).2 ⟨?_, ?_, ?_, ?_, fun j hj => ?_, fun c j c1 c2 hj => ?_⟩ r6 hS hN
              · rw [i6, g0]
              · rw [i6, hj 1 (by decide)]; exact d4.2.1
              · rw [i6, hj 2 (by decide)]; exact d4.2.2.1
              · rw [i6, hj 3 (by decide)]; exact d4.2.2.2.1
              · rw [k6]
                have := hr5 0
                rw [if_neg (by decide), if_neg (by decide), if_neg (by decide), if_neg (by decide)] at this
                have : gR s5 38 = gR s4 38 := this
                rw [this, d4.2.2.2.2.1 j hj]
                simp [fuu]
              · rw [k6, hr5 c]
                have old := fun hji : j < i => d4.2.2.2.2.2 c j c1 c2 hji
                rcases (show c = 1 ∨ c = 2 ∨ c = 3 ∨ c = 4 by omega) with rfl | rfl | rfl | rfl
                · rw [if_pos rfl, upd_if]
                  by_cases z : j = i
                  · simp [fuu, z]
                  · rw [if_neg z]; simpa [fuu, z] using old (by omega)
                · rw [if_neg (by decide), if_pos rfl, upd_if]
                  by_cases z : j = i
                  · simp [fuu, z]
                  · rw [if_neg z]; simpa [fuu, z] using old (by omega)
                · rw [if_neg (by decide), if_neg (by decide), if_pos rfl, upd_if]
                  by_cases z : j = i
                  · simp [fuu, z]
                  · rw [if_neg z]; simpa [fuu, z] using old (by omega)
                · rw [if_neg (by decide), if_neg (by decide), if_neg (by decide), if_pos rfl, upd_if]
                  by_cases z : j = i
                  · simp [fuu, z]
                  · rw [if_neg z]; simpa [fuu, z] using old (by omega)
    · refine br_t (nI_le (by omega) (by omega)) ?_
      unfold p_X3_read_b83 p_X3_read_b109
      rw [h.2.1, h.2.2.1]
      refine br_f (fun q => c ((nI_ltI (by omega) (by omega)).mp q)) ⟨37, rfl, rfl, ?_⟩
      rw [hd.1]
      by_cases c0 : i = 0
      · subst c0
        have lp : letp T n p = none := by unfold letp; rw [if_neg c]
        rw [if_pos (Or.inr rfl), lp] at hS
        exact br_t (by decide) (hS p rfl s hr)
      · rw [if_neg (by omega)] at hN
        exact br_f (nI_nle (by omega) (by omega)) (hN rfl s hr hd)
theorem e_read (hA : 13 ≤ A ∧ A ≤ 16) (hT : byt T) (hn : n ≤ 60) {s : Sg} {o : Option Nat} {x : Int32} {Q : Int32 → Sg → Prop} (ho : o = some A) (hx : x = nI n) (hsT : gR s A = T)
    (hS : ∀ P, (rd T n).1 = some P → ∀ s', rX s s' → Q (nI P) s') (hN : (rd T n).1 = none → ∀ s', rX s s' → DS s' ((rd T n).2.1 0) ((rd T n).2.1 1) (rd T n).2.2 → Q (-9) s') : p_X3_read 17 o x s Q := by
  subst ho hx
  unfold p_X3_read p_X0_clear
  refine ⟨37, rfl, rfl, e_fill (k := 38) rfl rfl (by decide) ?_⟩
  generalize hs1 : setR (setI (setI (setI (setI (setI (setI (setT s (some A)) 17 2 (nI n)) 17 3 0) 37 0 0) 37 1 0) 37 2 0) 37 3 0) 38 _ = s1
  have h1 : RS A T n s1 0 := by
    have h0 : RS A T n (setI (setI (setT s (some A)) 17 2 (nI n)) 17 3 0) 0 := ⟨rfl, by rw [gI_ne _ _ (by omega), gI_same], by rw [gI_same]; rfl, hsT⟩
    rw [← hs1]
    exact RS_R hA (RS_I (RS_I (RS_I (RS_I h0 _) _) _) _) _ (by omega)
  have r1 : rX s s1 := by
    rw [← hs1]
    exact rX_R (rX_I (rX_I (rX_I (rX_I (rX_I (rX_I ⟨fun _ _ => rfl, fun _ _ _ _ => rfl, fun _ _ => rfl⟩ _ _ (Or.inl rfl)) _ _ (Or.inl rfl)) _ _ (Or.inr rfl)) _ _ (Or.inr rfl)) _ _ (Or.inr rfl)) _ _ (Or.inr rfl)) _ (by omega)
  have z1 : zeroD s1 := by
    rw [← hs1]
    exact ⟨by simp [gI_R, gI_if], by simp [gI_R, gI_if], by simp [gI_R, gI_if]⟩
  have hp0 := skp_le (T := T) (n := n) (p := 0) (Nat.zero_le n)
  refine e_skip hA hT hn h1 (Nat.zero_le n) r1 (fun s2 h2 r2 i2 k2 => ?_)
  have z2 : zeroD s2 := ⟨by rw [i2]; exact z1.1, by rw [i2]; exact z1.2.1, by rw [i2]; exact z1.2.2⟩
  unfold rd at hS hN
  by_cases c : skp T n 0 < n ∧ T (skp T n 0) = 100
  · simp only [if_pos c] at hS hN
    refine e_land hA hT hn h2 c.1 c.2 z2 r2 (fun ok s3 h3 z3 r3 g3 e3 => ?_) (fun bad s3 h3 r3 => ?_)
    · simp only [if_pos ok] at hS hN
      refine br_f (by decide) (e_skip hA hT hn h3 (lf_le (by omega) 7) r3 (fun s4 h4 r4 i4 k4 => ⟨7, ?_⟩))
      refine e_women hA hT hn (s0 := s) 6 0 _ (fun c j => if c = 0 then (lf T n (skp T n 0 + 1) 7).2.2 j else 0) s4 (by omega) h4 (skp_le (lf_le (by omega) 7)).2 ⟨?_, ?_, ?_, ?_, fun j hj => ?_, fun c j _ _ hj => absurd hj (Nat.not_lt_zero j)⟩ r4 hS hN
      · rw [i4]; exact z3.1
      · rw [i4]; exact e3
      · rw [i4]; exact z3.2.1
      · rw [i4]; exact z3.2.2
      · rw [k4]; exact g3 j hj
    · have bad' : ¬ (lf T n (skp T n 0 + 1) 7).2.1 = true := by rw [bad]; decide
      simp only [if_neg bad'] at hS
      refine br_t rfl ?_
      rw [h3.2.2.1]
      exact hS _ rfl s3 r3
  · simp only [if_neg c] at hS
    unfold p_X3_readLand
    refine e_sign hA hn h2 (by omega) (fun c1 => br_f (fun q => c ⟨c1, q⟩) (br_t rfl ?_)) (fun c1 => br_f (by decide) (br_t rfl ?_))
    · rw [h2.2.2.1]; exact hS _ rfl s2 r2
    · rw [h2.2.2.1]; exact hS _ rfl s2 r2
end RDX
