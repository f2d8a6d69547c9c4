/-! delta, and the calls that do, undo, keep, go on -/
theorem KP_f {X X' M M' : Sg} {F : Ds} {k : Nat} (h : KP X M F k) (a1 : ∀ c, 49 ≤ c → gR X' c = gR X c) (a2 : ∀ c j, 49 ≤ c → gI X' c j = gI X c j) (h5 : gR M' 25 = gR M 25) (h6 : gR M' 26 = gR M 26) : KP X' M' F k := by
  rcases h with ⟨h1, h2⟩ | ⟨h0, q, N, h1, h2, h3, h4, h7⟩
  · exact Or.inl ⟨by rw [h5]; exact h1, by rw [a2 _ _ (by omega)]; exact h2⟩
  · refine Or.inr ⟨h0, q, N, h1, h2, RD_s h3 (fun c hc hc2 => a1 c (by omega)) (fun j => a2 _ _ (by omega)), by rw [h5]; exact h4, ?_⟩
    unfold LG
    rw [h6]
    exact h7
theorem Inv_deed {X M X' M' : Sg} (hI : Inv X M) (a1 : ∀ k, k < 25 → gR X' k = gR X k) (a2 : ∀ j, gI X' 0 j = gI X 0 j) (a3 : ∀ k j, gJ X' k j = gJ X k j) (b1 : ∀ k, k < 7 → gR M' k = gR M k) (b2 : ∀ j, j < 11 → gI M' 0 j = gI M 0 j) (b3 : ∀ k j, gJ M' k j = gJ M k j) (hD : ID X' M') : Inv X' M' := by
  obtain ⟨h1, h2, h3, h4, h5, h6⟩ := hI
  have sx : sS X X' := fun k _ _ => a1 k (by omega)
  have sm : tS M M' := fun k _ _ => b1 k (by omega)
  exact ⟨IF_s h1 ⟨a2 8, a1 24 (by omega)⟩ ⟨b2 3 (by decide), b1 1 (by decide)⟩, IT_s h2 ⟨a2 9, a3 0 10, a3 0 11⟩ ⟨b2 0 (by decide), b3 0 1, b3 0 2⟩, IS1_s h3 sx sm, IS2_s h4 sx sm, IB_s h5 sx, hD⟩
/-- a new deed on both sides -/
theorem Inv_new {X M X' M' : Sg} {F : Ds} {q q' : Nat → Dd} {N N' : Nat} (hI : Inv X M) (hC : IC X M F q N) (hN : N' ≤ 40) (hok : allOk F q' N') (hR : RD X' 25 F q' N') (hM : MD M' F q' N') (a : outD 25 X X') (b : mDf M M') : Inv X' M' := by
  obtain ⟨c1, c2, c3, c4, c5, c6, c7⟩ := hC
  refine Inv_deed hI (fun k hk => a.1 k (by omega)) (fun j => a.2.1 0 j (by decide)) a.2.2.1 (fun k hk => b.1 k (by omega)) (fun j hj => b.2.1 j (by omega) (by omega) (by omega)) b.2.2 ⟨F, q', N', c1, c2, hN, hok, hR, hM, fun k hk => ?_⟩
  exact KP_f (c7 k hk) (fun c hc => a.1 c (by omega)) (fun c j hc => a.2.1 c j (by omega)) (b.1 25 (by omega)) (b.1 26 (by omega))
theorem allOk_qup {F : Ds} {q : Nat → Dd} {N : Nat} {x : Dd} (h : allOk F q N) (hx : okD x (rp F q N).1 (rp F q N).2) : allOk F (qup q N x) (N + 1) := fun k hk => by
  by_cases e : k = N
  · subst e
    rw [qup_s, rp_qup q x (Nat.le_refl k)]
    exact hx
  · rw [qup_n q x e, rp_qup q x (show k ≤ N by omega)]
    exact h k (by omega)
/-- what is known of the state now -/
theorem IC_now {X M : Sg} {F : Ds} {q : Nat → Dd} {N : Nat} (h : IC X M F q N) : VD X 25 (rp F q N).1 (rp F q N).2 ∧ VM M (rp F q N).1 (rp F q N).2 ∧ BV (rp F q N).1 (rp F q N).2 ∧ gI X 25 3 = nI N ∧ gI M 0 36 = nI N := by
  obtain ⟨c1, c2, c3, c4, c5, c6, c7⟩ := h
  exact ⟨c5.1, c6.1, BV_rp c1 c4, c5.2.1, c6.2.1⟩
theorem x_isWoman {X : Sg} {n : Nat → Nat} {a : Nat → Nat → Nat} (hv : VD X 25 n a) (h6 : n 0 ≤ 6) {x : Int32} {Q : Int32 → Sg → Prop} (ht : ok x (n 0) → Q 1 X) (hf : ¬ ok x (n 0) → Q 0 X) : p_X5_isWoman 0 x X Q := by
  have hq := g_ge (A := Q 0 X) (B := Q 0 X) (C := Q 1 X) (show n 0 < 2 ^ 31 by omega) ht hf hf
  unfold p_X5_isWoman
  refine ⟨hq.1, fun q => ⟨25, rfl, rfl, ?_⟩⟩
  rw [hv.1 0 (by decide)]
  exact hq.2 q
theorem x_isPast {X : Sg} {n : Nat → Nat} {a : Nat → Nat → Nat} (hv : VD X 25 n a) (h8 : n 2 ≤ 8) {x : Int32} {Q : Int32 → Sg → Prop} (ht : ok x (n 2) → Q 1 X) (hf : ¬ ok x (n 2) → Q 0 X) : p_X5_isPast 0 x X Q := by
  have hq := g_ge (A := Q 0 X) (B := Q 0 X) (C := Q 1 X) (show n 2 < 2 ^ 31 by omega) ht hf hf
  unfold p_X5_isPast
  refine ⟨hq.1, fun q => ⟨25, rfl, rfl, ?_⟩⟩
  rw [hv.1 2 (by decide)]
  exact hq.2 q
theorem m_isWoman {M : Sg} {n : Nat → Nat} {a : Nat → Nat → Nat} (hv : VM M n a) (h6 : n 0 ≤ 6) {x : Int32} {Q : Int32 → Sg → Prop} (ht : ok x (n 0) → Q 1 M) (hf : ¬ ok x (n 0) → Q 0 M) : p_X6_isWoman 0 x M Q := by
  unfold p_X6_isWoman
  rw [hv.1]
  exact m_in_t (w := n 0) (by omega) rfl (fun z => ⟨Or.inr rfl, ht z⟩) (fun z => ⟨Or.inl rfl, hf z⟩)
theorem m_isYear {M : Sg} {n : Nat → Nat} {a : Nat → Nat → Nat} (hv : VM M n a) (h8 : n 2 ≤ 8) {x : Int32} {Q : Int32 → Sg → Prop} (ht : ok x (n 2) → Q 1 M) (hf : ¬ ok x (n 2) → Q 0 M) : p_X6_isYear 0 x M Q := by
  unfold p_X6_isYear
  rw [hv.2.2.1]
  exact m_in_t (w := n 2) (by omega) rfl (fun z => ⟨Or.inr rfl, ht z⟩) (fun z => ⟨Or.inl rfl, hf z⟩)
theorem nok_hi {x : Int32} {w : Nat} {h : Int32} (hw : w < 2 ^ 31) (hh : h = nI w - 1) (h0 : ¬ x < 0) : (h < x) ↔ ¬ ok x w := by
  subst hh
  rw [nI_sub1 w hw x h0]
  exact ⟨fun q o => ok_le hw o q, fun q => nok q h0⟩
theorem x_isHeight {X : Sg} {x : Int32} {Q : Int32 → Sg → Prop} (ht : ok x 21 → Q 1 X) (hf : ¬ ok x 21 → Q 0 X) : p_X5_isHeight x X Q := by
  unfold p_X5_isHeight
  refine ⟨fun q => hf (fun o => ok_lt0 (by decide) o q), fun q => ?_⟩
  have e := nok_hi (w := 21) (h := 20) (by decide) rfl q
  exact ⟨fun q2 => hf (e.mp q2), fun q2 => ht (Classical.byContradiction fun z => q2 (e.mpr z))⟩
theorem m_isHeight {M : Sg} {x : Int32} {Q : Int32 → Sg → Prop} (ht : ok x 21 → Q 1 M) (hf : ¬ ok x 21 → Q 0 M) : p_X6_isHeight x M Q := by
  unfold p_X6_isHeight
  exact m_in_t (w := 21) (by decide) rfl (fun z => ⟨Or.inr rfl, ht z⟩) (fun z => ⟨Or.inl rfl, hf z⟩)
theorem x_isPlace {X : Sg} {x : Int32} {Q : Int32 → Sg → Prop} (ht : ok x 6 → Q 1 X) (hf : ¬ ok x 6 → Q 0 X) : p_X5_isPlace x X Q := by
  have hq := g_ge (A := Q 0 X) (B := Q 0 X) (C := Q 1 X) (show 6 < 2 ^ 31 by decide) ht hf hf
  unfold p_X5_isPlace
  exact ⟨hq.1, hq.2⟩
theorem m_isPlace {M : Sg} {x : Int32} {Q : Int32 → Sg → Prop} (ht : ok x 6 → Q 1 M) (hf : ¬ ok x 6 → Q 0 M) : p_X6_isPlace x M Q := by
  unfold p_X6_isPlace
  exact m_in_t (w := 6) (by decide) rfl (fun z => ⟨Or.inr rfl, ht z⟩) (fun z => ⟨Or.inl rfl, hf z⟩)
theorem br_eq {a b : Nat} {x y : Int32} {A B : Prop} (hx : x = nI a) (hy : y = nI b) (ha : a < 2 ^ 31) (hb : b < 2 ^ 31) (ht : a = b → A) (hf : a ≠ b → B) : (x = y → A) ∧ (¬ x = y → B) := by
  subst hx hy
  exact ⟨fun q => ht (nI_inj ha hb q), fun q => hf (fun z => q (by rw [z]))⟩
theorem br_lt {a b : Nat} {x y : Int32} {A B : Prop} (hx : x = nI a) (hy : y = nI b) (ha : a < 2 ^ 31) (hb : b < 2 ^ 31) (ht : a < b → A) (hf : b ≤ a → B) : (x < y → A) ∧ (¬ x < y → B) := by
  subst hx hy
  exact ⟨fun q => ht ((nI_ltI ha hb).mp q), fun q => hf (Nat.le_of_not_lt fun z => q ((nI_ltI ha hb).mpr z))⟩
theorem br_le {a b : Nat} {x y : Int32} {A B : Prop} (hx : x = nI a) (hy : y = nI b) (ha : a < 2 ^ 31) (hb : b < 2 ^ 31) (ht : a ≤ b → A) (hf : b < a → B) : (x ≤ y → A) ∧ (¬ x ≤ y → B) := by
  subst hx hy
  exact ⟨fun q => ht (Nat.le_of_not_lt fun z => nI_ge z ha q), fun q => hf (Nat.lt_of_not_le fun z => q (nI_le z hb))⟩
theorem MD_k {M : Sg} {F : Ds} {q : Nat → Dd} {N k : Nat} {f : Nat → Int32} (h : MD M F q N) (hk : k < 12 ∨ 24 < k) : MD (setR M k f) F q N := by
  obtain ⟨⟨v0, v1, v2, v4, v5⟩, h2, h3, h4⟩ := h
  refine ⟨⟨v0, v1, v2, fun c hc i hi => ?_, fun i y hi hy => ?_⟩, h2, ?_, ?_⟩
  · rw [gR_ne _ _ (by have := mno_rg c hc; omega)]
    exact v4 c hc i hi
  · rw [gR_ne _ _ (by omega)]
    exact v5 i y hi hy
  · unfold LG
    rw [gR_ne _ _ (by omega)]
    exact h3
  · unfold FM
    rw [gR_ne _ _ (by omega), gR_ne _ _ (by omega), gR_ne _ _ (by omega), gR_ne _ _ (by omega), gR_ne _ _ (by omega)]
    exact h4
section DLT3
variable {X M : Sg}
theorem st_flood (hI : Inv X M) (f : Int32) : p_X5_flood 0 f X (fun u X' => p_X6_flood 0 f M (fun u' M' => Z X' M' u u')) := by
  obtain ⟨F, q, N, hC⟩ := hI.2.2.2.2.2
  obtain ⟨hv, hm, hb, h3, h36⟩ := IC_now hC
  have b0 := hb.1
  have b2 := hb.2.2.1
  have hN40 := hC.2.2.1
  have x0 := hv.1 0 (by decide)
  have x2 := hv.1 2 (by decide)
  have m0 := hm.1
  have m2 := hm.2.2.1
  have lt0 : (rp F q N).1 0 < 2 ^ 31 := by omega
  have lt2 : (rp F q N).1 2 < 2 ^ 31 := by omega
  unfold p_X5_flood p_X6_flood
  refine x_isHeight (fun hf => br_f (by decide) ⟨25, rfl, rfl, ?_⟩) (fun hf => br_t rfl (m_isHeight (fun z => absurd z hf) (fun _ => br_t rfl ⟨rfl, hI⟩)))
  have hf' := hf
  obtain ⟨k, hk, rfl⟩ := hf
  refine br_eq (b := 0) x0 rfl lt0 (by decide) (fun z => ?_) (fun z => ⟨25, rfl, rfl, ?_⟩)
  · exact m_isHeight (fun _ => br_f (by decide) (br_t (by rw [m0, z]; rfl) ⟨rfl, hI⟩)) (fun q => absurd hf' q)
  have nz : ¬ gI M 0 20 = 0 := by rw [m0]; intro q; exact z (nI_inj (b := 0) lt0 (by decide) q)
  refine br_lt (b := 8) x2 rfl lt2 (by decide) (fun y => ⟨25, rfl, rfl, ?_⟩) (fun y => ?_)
  · have ny : ¬ gI M 0 31 = 8 := by rw [m2]; intro q; have := nI_inj (b := 8) lt2 (by decide) q; omega
    refine br_lt (b := 40) h3 rfl (by omega) (by decide) (fun w => ⟨25, rfl, rfl, ?_⟩) (fun w => ?_)
    · have nw : ¬ gI M 0 36 = 40 := by rw [h36]; intro q; have := nI_inj (b := 40) (by omega) (by decide) q; omega
      have hx : okD (0, k, 0) (rp F q N).1 (rp F q N).2 := Or.inl ⟨rfl, by show k ≤ 20; omega, y⟩
      have hok := allOk_qup hC.2.2.2.1 hx
      have hb' := BV_rp hC.1 hok
      refine e_doFlood isD25 hC.2.2.2.2.1 hb w y (fun X' hR ho => ⟨25, rfl, rfl, e_howManyWet isD25 hR.1 hb' (by omega) ?_⟩)
      refine m_isHeight (fun _ => br_f (by decide) (br_f nz (br_f ny (br_f nw (m_does (x := (0, k, 0)) rfl rfl rfl w hb hC.2.2.2.2.2.1 hx (fun M' hM bM => m_manyWet hM.1 hb' (by omega) ⟨rfl, ?_⟩)))))) (fun q => absurd hf' q)
      exact Inv_new hI hC (by omega) hok hR hM ho bM
    · exact m_isHeight (fun _ => br_f (by decide) (br_f nz (br_f ny (br_t (by rw [h36, show N = 40 by omega]; rfl) ⟨rfl, hI⟩)))) (fun q => absurd hf' q)
  · exact m_isHeight (fun _ => br_f (by decide) (br_f nz (br_t (by rw [m2, show (rp F q N).1 2 = 8 by omega]; rfl) ⟨rfl, hI⟩))) (fun q => absurd hf' q)
theorem st_move (hI : Inv X M) (i p : Int32) : p_X5_move 0 i p X (fun u X' => p_X6_move 0 i p M (fun u' M' => Z X' M' u u')) := by
  obtain ⟨F, q, N, hC⟩ := hI.2.2.2.2.2
  obtain ⟨hv, hm, hb, h3, h36⟩ := IC_now hC
  have b0 := hb.1
  have hN40 := hC.2.2.1
  unfold p_X5_move
  refine x_isWoman hv b0 (fun hi => br_f (by decide) (x_isPlace (fun hp => br_f (by decide) ⟨25, rfl, rfl, ?_⟩) (fun hp => br_t rfl ?_))) (fun hi => br_t rfl (by unfold p_X6_move; exact m_isWoman hm b0 (fun z => absurd z hi) (fun _ => br_t rfl ⟨rfl, hI⟩)))
  rotate_left
  · unfold p_X6_move
    exact m_isWoman hm b0 (fun _ => br_f (by decide) (m_isPlace (fun z => absurd z hp) (fun _ => br_t rfl ⟨rfl, hI⟩))) (fun z => absurd hi z)
  have hi' := hi
  have hp' := hp
  obtain ⟨k, hk, rfl⟩ := hi
  obtain ⟨t, ht, rfl⟩ := hp
  have cc := hb.2.2.2.2.1 k hk
  have e2 : gR X 28 k = nI ((rp F q N).2 2 k) := hv.2 2 (by decide) k hk
  have m2 : gR M 17 k = nI ((rp F q N).2 2 k) := hm.2.2.2.1 2 (by decide) k hk
  have ik : vp_in (nI k) 6 := vp_in_nI (by omega) (by decide)
  refine d_item isD25 2 (by decide) rfl (show k < 6 by omega) ?_
  have go : ∀ {R : Int32 → Sg → Prop}, ((rp F q N).2 2 k = t → R (-4) M) → ((rp F q N).2 2 k ≠ t → N = 40 → R (-2) M) → ((rp F q N).2 2 k ≠ t → N < 40 → p_X6_does 0 1 (nI k) (nI t) M (fun s => R (nI ((rp F q N).2 2 k)) s)) → p_X6_move 0 (nI k) (nI t) M R := by
    intro R g1 g2 g3
    unfold p_X6_move
    refine m_isWoman hm b0 (fun _ => br_f (by decide) (m_isPlace (fun _ => br_f (by decide) ⟨17, rfl, rfl, ik, ?_⟩) (fun z => absurd hp' z))) (fun z => absurd hi' z)
    rw [m_cl (show k < 100000 by omega), m2]
    refine br_eq rfl rfl (by omega) (by omega) g1 (fun z => br_eq (b := 40) h36 rfl (by omega) (by decide) (fun w => g2 z w) (fun w => g3 z (by omega)))
  refine br_eq e2 rfl (by omega) (by omega) (fun z => ?_) (fun z => ⟨25, rfl, rfl, br_lt (b := 40) h3 rfl (by omega) (by decide) (fun w => ⟨25, rfl, rfl, ?_⟩) (fun w => ?_)⟩)
  · exact go (fun _ => ⟨rfl, hI⟩) (fun y => absurd z y) (fun y => absurd z y)
  · have hx : okD (1, k, t) (rp F q N).1 (rp F q N).2 := Or.inr (Or.inl ⟨rfl, hk, by show t ≤ 5; omega⟩)
    have hok := allOk_qup hC.2.2.2.1 hx
    refine e_doMove isD25 hC.2.2.2.2.1 hb w hk (by omega) (fun X' hR ho => ?_)
    refine go (fun y => absurd y z) (fun _ y => absurd y (by omega)) (fun _ _ => m_does (x := (1, k, t)) rfl rfl rfl w hb hC.2.2.2.2.2.1 hx (fun M' hM bM => ⟨e2, ?_⟩))
    exact Inv_new hI hC (by omega) hok hR hM ho bM
  · exact go (fun y => absurd y z) (fun _ _ => ⟨rfl, hI⟩) (fun _ y => absurd y (by omega))
theorem st_tuck (hI : Inv X M) (i : Int32) : p_X5_tuck 0 i X (fun u X' => p_X6_tuck 0 i M (fun u' M' => Z X' M' u u')) := by
  obtain ⟨F, q, N, hC⟩ := hI.2.2.2.2.2
  obtain ⟨hv, hm, hb, h3, h36⟩ := IC_now hC
  have b0 := hb.1
  have hN40 := hC.2.2.1
  unfold p_X5_tuck p_X6_tuck
  refine x_isWoman hv b0 (fun hi => br_f (by decide) ⟨25, rfl, rfl, ?_⟩) (fun hi => br_t rfl (m_isWoman hm b0 (fun z => absurd z hi) (fun _ => br_t rfl ⟨rfl, hI⟩)))
  have hi' := hi
  obtain ⟨k, hk, rfl⟩ := hi
  have cc := hb.2.2.2.2.1 k hk
  have e2 : gR X 30 k = nI ((rp F q N).2 4 k) := hv.2 4 (by decide) k hk
  have m2 : gR M 18 k = nI ((rp F q N).2 4 k) := hm.2.2.2.1 4 (by decide) k hk
  have ik : vp_in (nI k) 6 := vp_in_nI (by omega) (by decide)
  have ck : (nI k).toNatClampNeg = k := m_cl (by omega)
  refine d_item isD25 4 (by decide) rfl (show k < 6 by omega) ?_
  refine br_lt (b := 3) e2 rfl (by omega) (by decide) (fun z => ⟨25, rfl, rfl, br_lt (b := 40) h3 rfl (by omega) (by decide) (fun w => ⟨25, rfl, rfl, ?_⟩) (fun w => ?_)⟩) (fun z => ?_)
  · have hx : okD (3, k, 0) (rp F q N).1 (rp F q N).2 := Or.inr (Or.inr (Or.inr ⟨rfl, hk, by show (rp F q N).2 4 k ≤ 2; omega⟩))
    have hok := allOk_qup hC.2.2.2.1 hx
    refine e_doTuck isD25 hC.2.2.2.2.1 hb w hk (fun X' hR ho => ⟨25, rfl, rfl, d_item isD25 4 (by decide) rfl (show k < 6 by omega) ?_⟩)
    refine m_isWoman hm b0 (fun _ => br_f (by decide) ⟨18, rfl, rfl, ik, ?_⟩) (fun z => absurd hi' z)
    rw [ck, m2]
    refine br_eq (b := 3) rfl rfl (by omega) (by decide) (fun y => absurd y (by omega)) (fun _ => br_eq (b := 40) h36 rfl (by omega) (by decide) (fun y => absurd y (by omega)) (fun _ => m_does (x := (3, k, 0)) rfl rfl rfl w hb hC.2.2.2.2.2.1 hx (fun M' hM bM => ⟨18, rfl, rfl, ik, ?_, Inv_new hI hC (by omega) hok hR hM ho bM⟩)))
    have hk' : k < (rp F (qup q N (3, k, 0)) (N + 1)).1 0 := by rw [rp_w]; rw [rp_w] at hk; exact hk
    exact (hR.1.2 4 (by decide) k hk').trans (hM.1.2.2.2.1 4 (by decide) k hk').symm
  · refine m_isWoman hm b0 (fun _ => br_f (by decide) ⟨18, rfl, rfl, ik, ?_⟩) (fun z => absurd hi' z)
    rw [ck, m2]
    exact br_eq (b := 3) rfl rfl (by omega) (by decide) (fun y => absurd y (by omega)) (fun _ => br_eq (b := 40) h36 rfl (by omega) (by decide) (fun _ => ⟨rfl, hI⟩) (fun y => absurd y (by omega)))
  · refine m_isWoman hm b0 (fun _ => br_f (by decide) ⟨18, rfl, rfl, ik, ?_⟩) (fun z => absurd hi' z)
    rw [ck, m2]
    exact br_eq (b := 3) rfl rfl (by omega) (by decide) (fun _ => ⟨rfl, hI⟩) (fun y => absurd y (by omega))
theorem st_dyke (hI : Inv X M) (p : Int32) : p_X5_dyke 0 p X (fun u X' => p_X6_dyke 0 p M (fun u' M' => Z X' M' u u')) := by
  obtain ⟨F, q, N, hC⟩ := hI.2.2.2.2.2
  obtain ⟨hv, hm, hb, h3, h36⟩ := IC_now hC
  have b0 := hb.1
  have b1 := hb.2.1
  have hN40 := hC.2.2.1
  have x0 := hv.1 0 (by decide)
  have x1 := hv.1 1 (by decide)
  have m0 := hm.1
  have m1 := hm.2.1
  unfold p_X5_dyke p_X6_dyke
  refine x_isPlace (fun hp => br_f (by decide) ⟨25, rfl, rfl, ?_⟩) (fun hp => br_t rfl (m_isPlace (fun z => absurd z hp) (fun _ => br_t rfl ⟨rfl, hI⟩)))
  have hp' := hp
  obtain ⟨k, hk, rfl⟩ := hp
  have b4 := hb.2.2.2.1 k hk
  have e2 : gR X 26 k = nI ((rp F q N).2 0 k) := hv.2 0 (by decide) k hk
  have m2 : gR M 19 k = nI ((rp F q N).2 0 k) := hm.2.2.2.1 0 (by decide) k hk
  have ik : vp_in (nI k) 6 := vp_in_nI hk (by decide)
  have ck : (nI k).toNatClampNeg = k := m_cl (by omega)
  refine br_eq (b := 0) x0 rfl (by omega) (by decide) (fun z => ?_) (fun z => ⟨25, rfl, rfl, d_item isD25 0 (by decide) rfl (show k < 6 by omega) ?_⟩)
  · exact m_isPlace (fun _ => br_f (by decide) (br_t (by rw [m0, z]; rfl) ⟨rfl, hI⟩)) (fun q => absurd hp' q)
  have nz : ¬ gI M 0 20 = 0 := by rw [m0]; intro q; exact z (nI_inj (b := 0) (by omega) (by decide) q)
  refine br_lt (b := 9) e2 rfl (by omega) (by decide) (fun y => ⟨25, rfl, rfl, br_lt (a := 0) rfl x1 (by decide) (by omega) (fun v => ⟨25, rfl, rfl, br_lt (b := 40) h3 rfl (by omega) (by decide) (fun w => ⟨25, rfl, rfl, ?_⟩) (fun w => ?_)⟩) (fun v => ?_)⟩) (fun y => ?_)
  · have hx : okD (2, k, 0) (rp F q N).1 (rp F q N).2 := Or.inr (Or.inr (Or.inl ⟨rfl, hk, by show (rp F q N).2 0 k ≤ 8; omega, v⟩))
    have hok := allOk_qup hC.2.2.2.1 hx
    refine e_doDyke isD25 hC.2.2.2.2.1 hb w hk v (fun X' hR ho => ⟨25, rfl, rfl, d_item isD25 0 (by decide) rfl (show k < 6 by omega) ?_⟩)
    refine m_isPlace (fun _ => br_f (by decide) (br_f nz ⟨19, rfl, rfl, ik, ?_⟩)) (fun z => absurd hp' z)
    rw [ck, m2]
    refine br_eq (b := 9) rfl rfl (by omega) (by decide) (fun y => absurd y (by omega)) (fun _ => br_eq (b := 0) m1 rfl (by omega) (by decide) (fun y => absurd y (by omega)) (fun _ => br_eq (b := 40) h36 rfl (by omega) (by decide) (fun y => absurd y (by omega)) (fun _ => m_does (x := (2, k, 0)) rfl rfl rfl w hb hC.2.2.2.2.2.1 hx (fun M' hM bM => ⟨19, rfl, rfl, ik, ?_, Inv_new hI hC (by omega) hok hR hM ho bM⟩))))
    exact (hR.1.2 0 (by decide) k hk).trans (hM.1.2.2.2.1 0 (by decide) k hk).symm
  · refine m_isPlace (fun _ => br_f (by decide) (br_f nz ⟨19, rfl, rfl, ik, ?_⟩)) (fun z => absurd hp' z)
    rw [ck, m2]
    exact br_eq (b := 9) rfl rfl (by omega) (by decide) (fun y => absurd y (by omega)) (fun _ => br_eq (b := 0) m1 rfl (by omega) (by decide) (fun y => absurd y (by omega)) (fun _ => br_eq (b := 40) h36 rfl (by omega) (by decide) (fun _ => ⟨rfl, hI⟩) (fun y => absurd y (by omega))))
  · refine m_isPlace (fun _ => br_f (by decide) (br_f nz ⟨19, rfl, rfl, ik, ?_⟩)) (fun z => absurd hp' z)
    rw [ck, m2]
    exact br_eq (b := 9) rfl rfl (by omega) (by decide) (fun y => absurd y (by omega)) (fun _ => br_eq (b := 0) m1 rfl (by omega) (by decide) (fun _ => ⟨rfl, hI⟩) (fun y => absurd y (by omega)))
  · refine m_isPlace (fun _ => br_f (by decide) (br_f nz ⟨19, rfl, rfl, ik, ?_⟩)) (fun z => absurd hp' z)
    rw [ck, m2]
    exact br_eq (b := 9) rfl rfl (by omega) (by decide) (fun _ => ⟨rfl, hI⟩) (fun y => absurd y (by omega))
end DLT3
