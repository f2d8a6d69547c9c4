/-! what class and model have in common -/
def IF (X M : Sg) : Prop := gI X 0 8 = gI M 0 3 ∧ ∀ f, f < 6 → gR X 24 f = gR M 1 f
def IT (X M : Sg) : Prop := gI X 0 9 = gI M 0 0 ∧ gJ X 0 10 = gJ M 0 1 ∧ gJ X 0 11 = gJ M 0 2
def IS (X M : Sg) (h m w sz ce : Nat) : Prop := ∀ k, k < m → szOk w (gR X (h + 1) k) ∧ gR M sz k = gR X (h + 1) k ∧ ∀ i, i < w → gR M ce (w * k + i) = gR X (h + 3 + k) i
def IB (X : Sg) : Prop := ∀ k i, k < 4 → i < 60 → -128 ≤ (gR X (13 + k) i).toInt ∧ (gR X (13 + k) i).toInt ≤ 127
/-- the model's log from place b of array c on -/
def LG (s : Sg) (c b : Nat) (q : Nat → Dd) (N : Nat) : Prop := ∀ k, k < N → gR s c (b + 3 * k) = nI (q k).1 ∧ gR s c (b + (3 * k + 1)) = nI (q k).2.1 ∧ gR s c (b + (3 * k + 2)) = nI (q k).2.2
/-- as it was told -/
def FM (s : Sg) (F : Ds) : Prop := gI s 0 20 = nI (F.1 0) ∧ gI s 0 26 = nI (F.1 1) ∧ (∀ i, i < 6 → gR s 16 i = nI (F.2 0 i)) ∧ ∀ i, i < F.1 0 → gR s 12 i = nI (F.2 1 i) ∧ gR s 14 i = nI (F.2 2 i) ∧ gR s 13 i = nI (F.2 3 i) ∧ gR s 15 i = nI (F.2 4 i)
def MD (s : Sg) (F : Ds) (q : Nat → Dd) (N : Nat) : Prop := VM s (rp F q N).1 (rp F q N).2 ∧ gI s 0 36 = nI N ∧ LG s 24 0 q N ∧ FM s F
def KP (X M : Sg) (F : Ds) (k : Nat) : Prop := (gR M 25 k = -1 ∧ gI X (49 + 12 * k) 0 = 0) ∨ (0 < F.1 0 ∧ ∃ q N, N ≤ 40 ∧ allOk F q N ∧ RD X (49 + 12 * k) F q N ∧ gR M 25 k = nI N ∧ LG M 26 (120 * k) q N)
def IC (X M : Sg) (F : Ds) (q : Nat → Dd) (N : Nat) : Prop := BV F.1 F.2 ∧ F.1 2 = 0 ∧ N ≤ 40 ∧ allOk F q N ∧ RD X 25 F q N ∧ MD M F q N ∧ ∀ k, k < 3 → KP X M F k
def ID (X M : Sg) : Prop := ∃ F q N, IC X M F q N
def Inv (X M : Sg) : Prop := IF X M ∧ IT X M ∧ IS X M 1 6 40 3 2 ∧ IS X M 10 4 60 5 4 ∧ IB X ∧ ID X M
/-! what stays -/
def sF (X X' : Sg) : Prop := gI X' 0 8 = gI X 0 8 ∧ gR X' 24 = gR X 24
def sT (X X' : Sg) : Prop := gI X' 0 9 = gI X 0 9 ∧ gJ X' 0 10 = gJ X 0 10 ∧ gJ X' 0 11 = gJ X 0 11
def sS (X X' : Sg) : Prop := ∀ k, 2 ≤ k → k ≤ 16 → gR X' k = gR X k
def sD (X X' : Sg) : Prop := (∀ k, (25 ≤ k ∧ k ≤ 36) ∨ 49 ≤ k → gR X' k = gR X k) ∧ ∀ k j, (k = 25 ∨ 49 ≤ k) → gI X' k j = gI X k j
def tF (M M' : Sg) : Prop := gI M' 0 3 = gI M 0 3 ∧ gR M' 1 = gR M 1
def tT (M M' : Sg) : Prop := gI M' 0 0 = gI M 0 0 ∧ gJ M' 0 1 = gJ M 0 1 ∧ gJ M' 0 2 = gJ M 0 2
def tS (M M' : Sg) : Prop := ∀ k, 2 ≤ k → k ≤ 5 → gR M' k = gR M k
def tD (M M' : Sg) : Prop := (∀ k, 12 ≤ k → k ≤ 26 → gR M' k = gR M k) ∧ gI M' 0 20 = gI M 0 20 ∧ gI M' 0 26 = gI M 0 26 ∧ gI M' 0 30 = gI M 0 30 ∧ gI M' 0 31 = gI M 0 31 ∧ gI M' 0 36 = gI M 0 36
section FRM
variable {X X' M M' : Sg}
theorem IF_s (h : IF X M) (a : sF X X') (b : tF M M') : IF X' M' := ⟨by rw [a.1, b.1]; exact h.1, by rw [a.2, b.2]; exact h.2⟩
theorem IT_s (h : IT X M) (a : sT X X') (b : tT M M') : IT X' M' := ⟨by rw [a.1, b.1]; exact h.1, by rw [a.2.1, b.2.1]; exact h.2.1, by rw [a.2.2, b.2.2]; exact h.2.2⟩
theorem IS1_s (h : IS X M 1 6 40 3 2) (a : sS X X') (b : tS M M') : IS X' M' 1 6 40 3 2 := fun k hk => by
  rw [a (1 + 1) (by decide) (by decide), b 3 (by decide) (by decide), b 2 (by decide) (by decide), a (1 + 3 + k) (by omega) (by omega)]
  exact h k hk
theorem IS2_s (h : IS X M 10 4 60 5 4) (a : sS X X') (b : tS M M') : IS X' M' 10 4 60 5 4 := fun k hk => by
  rw [a (10 + 1) (by decide) (by decide), b 5 (by decide) (by decide), b 4 (by decide) (by decide), a (10 + 3 + k) (by omega) (by omega)]
  exact h k hk
theorem IB_s (h : IB X) (a : sS X X') : IB X' := fun k i hk hi => by
  rw [a (13 + k) (by omega) (by omega)]
  exact h k i hk hi
theorem VD_s {d : Nat} {n : Nat → Nat} {a : Nat → Nat → Nat} (h : VD X d n a) (h1 : ∀ k, d < k → k ≤ d + 11 → gR X' k = gR X k) (h2 : ∀ j, gI X' d j = gI X d j) : VD X' d n a :=
  ⟨fun j hj => by rw [h2]; exact h.1 j hj, fun c hc i hi => by rw [h1 _ (by omega) (by omega)]; exact h.2 c hc i hi⟩
theorem RD_s {d : Nat} {F : Ds} {q : Nat → Dd} {N : Nat} (h : RD X d F q N) (h1 : ∀ k, d < k → k ≤ d + 11 → gR X' k = gR X k) (h2 : ∀ j, gI X' d j = gI X d j) : RD X' d F q N :=
  ⟨VD_s h.1 h1 h2, LD_keep h.2 (fun c h8 hc => h1 _ (by omega) (by omega)) (h2 3)⟩
theorem KP_s {F : Ds} {k : Nat} (h : KP X M F k) (a : sD X X') (h5 : gR M' 25 = gR M 25) (h6 : gR M' 26 = gR M 26) : KP X' M' F k := by
  rcases h with ⟨h1, h2⟩ | ⟨h0, q, N, h1, h2, h3, h4, h7⟩
  · exact Or.inl ⟨by rw [h5]; exact h1, by rw [a.2 _ _ (Or.inr (by omega))]; exact h2⟩
  · refine Or.inr ⟨h0, q, N, h1, h2, RD_s h3 (fun c hc hc2 => a.1 c (Or.inr (by omega))) (fun j => a.2 _ _ (Or.inr (by omega))), by rw [h5]; exact h4, ?_⟩
    unfold LG
    rw [h6]
    exact h7
theorem MD_s {F : Ds} {q : Nat → Dd} {N : Nat} (h : MD M F q N) (b : tD M M') : MD M' F q N := by
  obtain ⟨⟨v0, v1, v2, v4, v5⟩, h2, h3, h4⟩ := h
  obtain ⟨b1, b2, b3, b4, b5, b6⟩ := b
  refine ⟨⟨by rw [b2]; exact v0, by rw [b4]; exact v1, by rw [b5]; exact v2, fun c hc i hi => ?_, fun i y hi hy => ?_⟩, by rw [b6]; exact h2, ?_, ?_⟩
  · have : 12 ≤ mno c ∧ mno c ≤ 26 := by
      rcases (show c = 0 ∨ c = 1 ∨ c = 2 ∨ c = 3 ∨ c = 4 ∨ c = 5 ∨ c = 6 ∨ c = 7 by omega) with rfl | rfl | rfl | rfl | rfl | rfl | rfl | rfl <;> decide
    rw [b1 _ this.1 this.2]
    exact v4 c hc i hi
  · rw [b1 21 (by decide) (by decide)]
    exact v5 i y hi hy
  · unfold LG
    rw [b1 24 (by decide) (by decide)]
    exact h3
  · unfold FM
    rw [b2, b3, b1 16 (by decide) (by decide), b1 12 (by decide) (by decide), b1 14 (by decide) (by decide), b1 13 (by decide) (by decide), b1 15 (by decide) (by decide)]
    exact h4
theorem IC_s {F : Ds} {q : Nat → Dd} {N : Nat} (h : IC X M F q N) (a : sD X X') (b : tD M M') : IC X' M' F q N := by
  obtain ⟨h1, h2, h3, h4, h5, h6, h7⟩ := h
  exact ⟨h1, h2, h3, h4, RD_s h5 (fun c hc hc2 => a.1 c (Or.inl (by omega))) (fun j => a.2 _ _ (Or.inl rfl)), MD_s h6 b, fun k hk => KP_s (h7 k hk) a (b.1 25 (by decide) (by decide)) (b.1 26 (by decide) (by decide))⟩
theorem ID_s (h : ID X M) (a : sD X X') (b : tD M M') : ID X' M' := by
  obtain ⟨F, q, N, h⟩ := h
  exact ⟨F, q, N, IC_s h a b⟩
end FRM
/-- how the promises are told: the same answer, and the same behind it -/
def Z (X : Sg) (M : Sg) (r r' : Int32) : Prop := r = r' ∧ Inv X M
theorem Inv_told {X M : Sg} {v w : Int32} (hI : Inv X M) (e : v = w) : Inv (setI X 0 9 v) (setI M 0 0 w) := by
  subst e
  obtain ⟨h1, h2, h3, h4, h5, h6⟩ := hI
  refine ⟨IF_s h1 ⟨rfl, rfl⟩ ⟨rfl, rfl⟩, ⟨?_, h2.2.1, h2.2.2⟩, IS1_s h3 (fun _ _ _ => rfl) (fun _ _ _ => rfl), IS2_s h4 (fun _ _ _ => rfl) (fun _ _ _ => rfl), IB_s h5 (fun _ _ _ => rfl), ID_s h6 ⟨fun _ _ => rfl, fun k j hk => gI_ne _ _ (by omega)⟩ ⟨fun _ _ _ => rfl, rfl, rfl, rfl, rfl, rfl⟩⟩
  rw [gI_same, gI_same]
def foundX (X : Sg) (f : Nat) : Sg := setR (setI X 0 8 (nI f)) 24 (upd (gR X 24) f (gR X 24 f + 1))
def foundM (M : Sg) (f : Nat) : Sg := setR (setI M 0 3 (nI f)) 1 (upd (gR M 1) f (gR M 1 f + 1))
theorem e_found {X : Sg} {x : Int32} {f : Nat} {Q : Int32 → Sg → Prop} (hx : x = nI f) (hf : f < 6) (h : Q (-3) (foundX X f)) : p_X5_found 0 x X Q := by
  subst hx
  unfold p_X5_found
  refine e_item (k := 24) rfl rfl rfl hf ?_
  exact e_setItem (k := 24) rfl rfl rfl hf h
theorem m_refuse {M : Sg} {x : Int32} {f : Nat} {Q : Int32 → Sg → Prop} (hx : x = nI f) (hf : f < 6) (h : Q (-3) (foundM M f)) : p_X6_refuse 0 x M Q := by
  subst hx
  unfold p_X6_refuse
  refine ⟨1, rfl, rfl, m_in (N := 6) rfl rfl hf (by decide), 1, rfl, rfl, m_in (N := 6) rfl rfl hf (by decide), ?_⟩
  rw [m_cl (show f < 100000 by omega)]
  exact h
theorem Inv_found {X M : Sg} {f : Nat} (hI : Inv X M) (hf : f < 6) : Inv (foundX X f) (foundM M f) := by
  obtain ⟨h1, h2, h3, h4, h5, h6⟩ := hI
  unfold foundX foundM
  refine ⟨⟨?_, fun g hg => ?_⟩, IT_s h2 ⟨rfl, rfl, rfl⟩ ⟨rfl, rfl, rfl⟩, IS1_s h3 (fun k _ _ => gR_ne _ _ (by omega)) (fun k _ _ => gR_ne _ _ (by omega)), IS2_s h4 (fun k _ _ => gR_ne _ _ (by omega)) (fun k _ _ => gR_ne _ _ (by omega)), IB_s h5 (fun k _ _ => gR_ne _ _ (by omega)), ID_s h6 ⟨fun k _ => gR_ne _ _ (by omega), fun k j hk => gI_ne _ _ (by omega)⟩ ⟨fun k _ _ => gR_ne _ _ (by omega), rfl, rfl, rfl, rfl, rfl⟩⟩
  · rw [gI_R, gI_R, gI_same, gI_same]
  · rw [gR_same, gR_same, upd_if, upd_if, h1.2 f hf, h1.2 g hg]
/-! the class's refusals -/
section REF
variable {X : Sg} {h m w : Nat} {o : Option Nat} {x y : Int32} {k n : Nat} {Q : Int32 → Sg → Prop}
theorem x_bad (i : isS h m w) (ho : o = some h) (hx : ¬ ok x m) (q : Q (-1) X) : p_X5_refusalOfItem 0 o x X Q := by
  unfold p_X5_refusalOfItem
  exact ⟨h, ho, S_h i, s_isNumber i (fun z => absurd z hx) (fun _ => br_t rfl q)⟩
theorem x_no (i : isS h m w) (ho : o = some h) (hx : x = nI k) (hk : k < m) (hz : gR X (h + 1) k = -1) (q : Q (-3) (foundX X 1)) : p_X5_refusalOfItem 0 o x X Q := by
  unfold p_X5_refusalOfItem
  exact ⟨h, ho, S_h i, s_isNumber i (fun _ => br_f (by decide) ⟨h, ho, S_h i, s_isThere i hx hk (fun z => absurd hz z) (fun _ => br_t rfl (e_found (f := 1) rfl (by decide) q))⟩) (fun z => absurd ⟨k, hk, hx⟩ z)⟩
theorem x_yes (i : isS h m w) (ho : o = some h) (hx : x = nI k) (hk : k < m) (hn : n ≤ w) (hz : gR X (h + 1) k = nI n) (q : Q 0 X) : p_X5_refusalOfItem 0 o x X Q := by
  have hw := S_m i
  unfold p_X5_refusalOfItem
  exact ⟨h, ho, S_h i, s_isNumber i (fun _ => br_f (by decide) ⟨h, ho, S_h i, s_isThere i hx hk (fun _ => br_f (by decide) q) (fun z => absurd (z.symm.trans hz) (fun e => by
    have : ¬ nI n < 0 := nI_pos (by omega)
    rw [← e] at this
    exact this (by decide)))⟩) (fun z => absurd ⟨k, hk, hx⟩ z)⟩
theorem y_bad (i : isS h m w) (ho : o = some h) (hx : ¬ ok x m) (q : Q (-1) X) : p_X5_refusalOfCell 0 o x y X Q := by
  unfold p_X5_refusalOfCell
  exact x_bad i ho hx (br_f (by decide) q)
theorem y_no (i : isS h m w) (ho : o = some h) (hx : x = nI k) (hk : k < m) (hz : gR X (h + 1) k = -1) (q : Q (-3) (foundX X 1)) : p_X5_refusalOfCell 0 o x y X Q := by
  unfold p_X5_refusalOfCell
  exact x_no i ho hx hk hz (br_f (by decide) q)
theorem y_off (i : isS h m w) (ho : o = some h) (hx : x = nI k) (hk : k < m) (hn : n ≤ w) (hz : gR X (h + 1) k = nI n) (hy : ¬ ok y n) (q : Q (-3) (foundX X 2)) : p_X5_refusalOfCell 0 o x y X Q := by
  unfold p_X5_refusalOfCell
  exact x_yes i ho hx hk hn hz (br_t rfl ⟨h, ho, S_h i, s_isCell i hx hk hn hz (fun z => absurd z hy) (fun _ => br_t rfl (e_found (f := 2) rfl (by decide) q))⟩)
theorem y_yes (i : isS h m w) (ho : o = some h) (hx : x = nI k) (hk : k < m) (hn : n ≤ w) (hz : gR X (h + 1) k = nI n) (hy : ok y n) (q : Q 0 X) : p_X5_refusalOfCell 0 o x y X Q := by
  unfold p_X5_refusalOfCell
  exact x_yes i ho hx hk hn hz (br_t rfl ⟨h, ho, S_h i, s_isCell i hx hk hn hz (fun _ => br_f (by decide) q) (fun z => absurd hy z)⟩)
end REF
theorem m_isRow {x : Int32} {s : Sg} {Q : Int32 → Sg → Prop} (ht : ok x 6 → Q 1 s) (hf : ¬ ok x 6 → Q 0 s) : p_X6_isRow x s Q := by
  unfold p_X6_isRow
  exact m_in_t (w := 6) (by decide) rfl (fun z => ⟨Or.inr rfl, ht z⟩) (fun z => ⟨Or.inl rfl, hf z⟩)
theorem m_isText {x : Int32} {s : Sg} {Q : Int32 → Sg → Prop} (ht : ok x 4 → Q 1 s) (hf : ¬ ok x 4 → Q 0 s) : p_X6_isText x s Q := by
  unfold p_X6_isText
  exact m_in_t (w := 4) (by decide) rfl (fun z => ⟨Or.inr rfl, ht z⟩) (fun z => ⟨Or.inl rfl, hf z⟩)
theorem neg_n0 : ¬ (0 : Int32) ≤ -1 := by decide
theorem R1 : isS 1 6 40 := Or.inl ⟨rfl, rfl, rfl⟩
theorem R2 : isS 10 4 60 := Or.inr ⟨rfl, rfl, rfl⟩
