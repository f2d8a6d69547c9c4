/-! duel: level by level -/
theorem nv_ne {x : Int} (h : -720 ≤ x ∧ x ≤ 720) : ¬ iV x = -1000000 := fun q => by
  have := congrArg Int32.toInt q
  rw [iV_i (sml_of h), show (-1000000 : Int32).toInt = -1000000 by decide] at this
  omega
theorem p4_le {t : Nat} (h : t ≤ 5) : 4 ^ t ≤ 1024 := by
  have := Nat.pow_le_pow_right (show 0 < 4 by decide) h
  omega
theorem sh4 {t : Nat} (h : t ≤ 6) : (1 : Int32) <<< ((2 * nI t) &&& 31) = nI (4 ^ t) := by
  rw [show (2 : Int32) * nI t = nI (2 * t) from pk_mul 2 t, sh_1 _ (by omega), Nat.pow_mul]
theorem m_L88 {Q : Int32 → Sg → Prop} {K70 : Nat → Int32 → Int32 → Sg → Prop} {s : Sg} {t u : Nat} (ht : t ≤ 5) (hu : u < 4 ^ t) {q : Nat → Option Int} (hq : ∀ j, j < 4 → gR s 28 (4 * u + j) = oV (q j)) (hqb : ∀ j y, q j = some y → -720 ≤ y ∧ y ≤ 720) (h : K70 0 (nI t) (nI (u + 1)) (setR s 28 (upd (gR s 28) u (oV (mo2 (decide (t % 2 = 0)) (mo2 (decide (t % 2 = 0)) (mo2 (decide (t % 2 = 0)) (mo2 (decide (t % 2 = 0)) none (q 0)) (q 1)) (q 2)) (q 3)))))) : ∃ n2, p_X6_duel_L88 Q K70 n2 0 (nI t) (nI u) (-1000000) 0 s := by
  have hp4 := p4_le ht
  have step : ∀ j, j < 4 → ∀ n (o : Option Int), (∀ y, o = some y → -720 ≤ y ∧ y ≤ 720) → p_X6_duel_L88 Q K70 n 0 (nI t) (nI u) (oV (mo2 (decide (t % 2 = 0)) o (q j))) (nI (j + 1)) s → p_X6_duel_L88 Q K70 (n + 1) 0 (nI t) (nI u) (oV o) (nI j) s := by
    intro j hj n o ho hN
    have hb := hqb j
    have hz := hq j hj
    unfold p_X6_duel_L88
    rw [ixm (y := 4) 4 u j rfl, m_cl (show 4 * u + j < 100000 by omega), show nI t - nI t / 2 * 2 = nI (t % 2) from pk_rem (d := 2) (by omega) (by decide) (by decide)]
    refine br_f (nI_ge (b := 4) hj (by decide)) ⟨28, rfl, rfl, m_in (N := 4096) rfl rfl (by omega) (by decide), ?_⟩
    rw [hz]
    generalize q j = c at hN hb
    have keep : ∀ t0, (c = none ∨ t0 = 0) → p_X6_duel_L88 Q K70 n 0 (nI t) (nI u) (oV o) (nI (j + 1)) s → p_X6_duel_b144 Q (fun y0 y3 y4 y5 y6 u => p_X6_duel_L88 Q K70 n y0 y3 y4 y5 y6 u) 0 (nI t) (nI u) (oV o) (nI j) (oV c) t0 s := fun t0 hc hk => by
      unfold p_X6_duel_b144 p_X6_duel_b164 p_X6_duel_b166
      rw [nI_1]
      refine ⟨fun _ => hk, fun z => ⟨fun _ => hk, fun z2 => ?_⟩⟩
      rcases hc with rfl | rfl
      · exact absurd rfl z
      · exact absurd rfl z2
    have get : ∀ y, c = some y → p_X6_duel_L88 Q K70 n 0 (nI t) (nI u) (iV y) (nI (j + 1)) s → p_X6_duel_b144 Q (fun y0 y3 y4 y5 y6 u => p_X6_duel_L88 Q K70 n y0 y3 y4 y5 y6 u) 0 (nI t) (nI u) (oV o) (nI j) (oV c) 1 s := fun y hc hk => by
      subst hc
      unfold p_X6_duel_b144 p_X6_duel_b166
      rw [nI_1]
      exact br_f (nv_ne (hb y rfl)) (br_f (by decide) hk)
    unfold p_X6_duel_b139 p_X6_duel_b143
    cases o with
    | none =>
      refine br_t rfl ?_
      cases c with
      | none => exact keep 1 (Or.inl rfl) hN
      | some y => exact get y rfl hN
    | some x =>
      have hx := ho x rfl
      refine br_f (nv_ne hx) ?_
      cases c with
      | none => exact ⟨fun _ => ⟨fun _ => keep 0 (Or.inl rfl) hN, fun _ => keep 1 (Or.inl rfl) hN⟩, fun _ => ⟨fun _ => keep 0 (Or.inl rfl) hN, fun _ => keep 1 (Or.inl rfl) hN⟩⟩
      | some y =>
        have hy := hb y rfl
        have hN : p_X6_duel_L88 Q K70 n 0 (nI t) (nI u) (iV (opI (decide (t % 2 = 0)) x y)) (nI (j + 1)) s := hN
        unfold opI at hN
        refine br_eq (b := 0) rfl rfl (by omega) (by decide) (fun z => ⟨fun w => ?_, fun w => ?_⟩) (fun z => ⟨fun w => ?_, fun w => ?_⟩)
        · have w : y ≤ x := (iV_le (sml_of hy) (sml_of hx)).mp w
          simp only [z, decide_true, ↓reduceIte, show max x y = x by omega] at hN
          exact keep 0 (Or.inr rfl) hN
        · have w : ¬ y ≤ x := fun v => w ((iV_le (sml_of hy) (sml_of hx)).mpr v)
          simp only [z, decide_true, ↓reduceIte, show max x y = y by omega] at hN
          exact get y rfl hN
        · have w : x ≤ y := (iV_le (sml_of hx) (sml_of hy)).mp w
          simp only [z, decide_false, Bool.false_eq_true, ↓reduceIte, show min x y = x by omega] at hN
          exact keep 0 (Or.inr rfl) hN
        · have w : ¬ x ≤ y := fun v => w ((iV_le (sml_of hx) (sml_of hy)).mpr v)
          simp only [z, decide_false, Bool.false_eq_true, ↓reduceIte, show min x y = y by omega] at hN
          exact get y rfl hN
  have mb : ∀ (o p : Option Int), (∀ y, o = some y → -720 ≤ y ∧ y ≤ 720) → (∀ y, p = some y → -720 ≤ y ∧ y ≤ 720) → ∀ y, mo2 (decide (t % 2 = 0)) o p = some y → -720 ≤ y ∧ y ≤ 720 := fun o p h1 h2 y hy => by
    cases o with
    | none => exact h2 y hy
    | some x =>
      cases p with
      | none => exact h1 y hy
      | some z =>
        cases hy
        exact opI_b (h1 x rfl) (h2 z rfl)
  have h0 := mb none (q 0) (fun y hy => by cases hy) (hqb 0)
  have h1 := mb _ (q 1) h0 (hqb 1)
  have h2 := mb _ (q 2) h1 (hqb 2)
  refine ⟨4 + 1, step 0 (by decide) 4 none (fun y hy => by cases hy) (step 1 (by decide) 3 _ h0 (step 2 (by decide) 2 _ h1 (step 3 (by decide) 1 _ h2 ?_)))⟩
  unfold p_X6_duel_L88
  refine br_t (by decide) ⟨28, rfl, rfl, m_in (N := 4096) rfl rfl (by omega) (by decide), ?_⟩
  rw [m_cl (show u < 100000 by omega), nI_1]
  exact h
section DUM
variable {M : Sg} {n : Nat → Nat} {a : Nat → Nat → Nat} {m f : Nat}
theorem m_duel (hv : VM M n a) (hb : BV n a) (hm : m ≤ 6) (hf : f ≤ 20) {Q : Int32 → Sg → Prop} (hQ : ∀ s, tn M s → Q (iV (vaN (a 0) (fkN a (n 0)) f m 0 0 (fun _ => 0)) + 100) s) : ∃ n8, p_X6_duel_L31 Q n8 0 (nI m) (nI f) 0 M := by
  have b0 := hb.1
  have hc : ∀ p, p < 6 → fkN a (n 0) p ≤ 6 := fun p _ => Nat.le_trans (fkN_le a (n 0) p) b0
  have lev : ∀ k s, k ≤ m → tn M s → (∀ v, v < 4 ^ k → gR s 28 v = oV (woN (a 0) (fkN a (n 0)) f m k v)) → ∀ x3 : Int32, ((k = 0 ∧ x3 < 0) ∨ ∃ k', k = k' + 1 ∧ x3 = nI k') → p_X6_duel_L63 Q (k + 1) 0 x3 s := by
    intro k
    induction k with
    | zero =>
      intro s _ hs hw x3 hx
      unfold p_X6_duel_L63
      rcases hx with ⟨_, hx⟩ | ⟨k', e, _⟩
      · refine br_t hx ⟨28, rfl, rfl, m_in (i := 0) (N := 4096) rfl rfl (by decide) (by decide), ?_⟩
        rw [show (0 : Int32).toNatClampNeg = 0 by decide, hw 0 (by decide)]
        exact hQ s hs
      · omega
    | succ k ih =>
      intro s hk hs hw x3 hx
      obtain ⟨k', e, rfl⟩ : ∃ k', k + 1 = k' + 1 ∧ x3 = nI k' := by
        rcases hx with ⟨e, _⟩ | hx
        · omega
        · exact hx
      have e : k' = k := by omega
      subst e
      have hp4 := p4_le (show k' ≤ 5 by omega)
      have row : ∀ r u s, u + r = 4 ^ k' → tn M s → (∀ v, v < u → gR s 28 v = oV (woN (a 0) (fkN a (n 0)) f m k' v)) → (∀ v, u ≤ v → v < 4 ^ (k' + 1) → gR s 28 v = oV (woN (a 0) (fkN a (n 0)) f m (k' + 1) v)) → p_X6_duel_L70 Q (fun y0 y3 u => p_X6_duel_L63 Q (k' + 1) y0 y3 u) (r + 1) 0 (nI k') (nI u) s := by
        intro r
        induction r with
        | zero =>
          intro u s hu hs h1 h2
          unfold p_X6_duel_L70
          rw [sh4 (by omega)]
          refine br_t (nI_le (by omega) (by omega)) (ih s (by omega) hs (fun v hv2 => h1 v (by omega)) _ ?_)
          cases k' with
          | zero => exact Or.inl ⟨rfl, by decide⟩
          | succ j => exact Or.inr ⟨j, rfl, pk_m1 j⟩
        | succ r ihr =>
          intro u s hu hs h1 h2
          unfold p_X6_duel_L70
          rw [sh4 (by omega)]
          have e4 : 4 ^ (k' + 1) = 4 ^ k' * 4 := by rw [Nat.pow_succ]
          refine br_f (nI_ge (by omega) (by omega)) (m_L88 (show k' ≤ 5 by omega) (by omega) (q := fun j => woN (a 0) (fkN a (n 0)) f m (k' + 1) (4 * u + j)) (fun j hj => h2 _ (by omega) (by omega)) (fun j => woN_b hc _ _ _) ?_)
          rw [wo_step _ _ _ _ _ _ (by omega)]
          refine ihr (u + 1) _ (by omega) (tn_set hs _ (by decide)) (fun v hv2 => ?_) (fun v hv2 hv3 => ?_)
          · rw [gR_same, upd_if]
            by_cases z : v = u
            · rw [if_pos z, z]
            · rw [if_neg z]; exact h1 v (by omega)
          · rw [gR_same, upd_if, if_neg (by omega)]
            exact h2 v (by omega) hv3
      unfold p_X6_duel_L63
      exact br_f (nI_pos (by omega)) ⟨4 ^ k' + 1, row (4 ^ k') 0 s (by omega) hs (fun v hv2 => absurd hv2 (Nat.not_lt_zero v)) (fun v _ hv3 => hw v hv3)⟩
  have h46 : 4 ^ m ≤ 4096 := by
    have := Nat.pow_le_pow_right (show 0 < 4 by decide) hm
    omega
  have all : ∀ r v s, v + r = 4 ^ m → tn M s → (∀ u, u < v → gR s 28 u = oV (woN (a 0) (fkN a (n 0)) f m m u)) → p_X6_duel_L31 Q (r + 1) 0 (nI m) (nI f) (nI v) s := by
    intro r
    induction r with
    | zero =>
      intro v s hv2 hs h1
      unfold p_X6_duel_L31
      rw [sh4 hm]
      refine br_t (nI_le (by omega) (by omega)) ⟨m + 1, lev m s (Nat.le_refl _) hs (fun u hu => h1 u (by omega)) _ ?_⟩
      cases m with
      | zero => exact Or.inl ⟨rfl, by decide⟩
      | succ j => exact Or.inr ⟨j, rfl, nI_pred j⟩
    | succ r ih =>
      intro v s hv2 hs h1
      unfold p_X6_duel_L31
      rw [sh4 hm]
      refine br_f (nI_ge (by omega) (by omega)) (m_worthOf hv hb hm hf (by omega) hs (fun s' hs' e28 => ⟨28, rfl, rfl, m_in (N := 4096) rfl rfl (by omega) (by decide), ?_⟩))
      rw [m_cl (show v < 100000 by omega), nI_1]
      refine ih (v + 1) _ (by omega) (tn_set hs' _ (by decide)) (fun u hu => ?_)
      rw [gR_same, upd_if]
      by_cases z : u = v
      · rw [if_pos z, z]
      · rw [if_neg z, e28]; exact h1 u (by omega)
  exact ⟨4 ^ m + 1, all (4 ^ m) 0 M (by omega) ⟨fun _ _ => rfl, rfl, rfl, rfl⟩ (fun u hu => absurd hu (Nat.not_lt_zero u))⟩
end DUM
theorem st_duel {X M : Sg} (hI : Inv X M) (w f : Int32) : p_X5_duel 0 w f X (fun u X' => p_X6_duel 0 w f M (fun u' M' => Z X' M' u u')) := by
  obtain ⟨F, q, N, hC⟩ := hI.2.2.2.2.2
  obtain ⟨hv, hm, hb, h3, h36⟩ := IC_now hC
  have b0 := hb.1
  have hg := hb.2.2.2.1
  have hc : ∀ p, p < 6 → fkN (rp F q N).2 ((rp F q N).1 0) p ≤ 6 := fun p _ => Nat.le_trans (fkN_le _ _ p) b0
  have x0 := hv.1 0 (by decide)
  have m0 := hm.1
  have bad : ¬ ok w 7 → p_X6_duel 0 w f M (fun u' M' => Z X M' (-1) u') := fun c => by
    unfold p_X6_duel
    exact m_in_t (w := 7) (by decide) rfl (fun z => absurd z c) (fun _ => br_t rfl ⟨rfl, hI⟩)
  unfold p_X5_duel
  by_cases c1 : w < 0
  · exact br_t c1 (bad (fun z => ok_lt0 (by decide) z c1))
  refine br_f c1 ?_
  by_cases c2 : ok w 7
  rotate_left
  · exact br_t ((nok_hi (h := 6) (by decide) rfl c1).mpr c2) (bad c2)
  refine br_f (fun z => (nok_hi (h := 6) (by decide) rfl c1).mp z c2) ?_
  have mm : ∀ {R : Int32 → Sg → Prop}, p_X6_isHeight f M (fun r5 s4 => ((r5 = 0 → R ((-1)) s4) ∧ (¬ r5 = 0 → (((gI s4 0 20) = 0 → R ((-4)) s4) ∧ (¬ (gI s4 0 20) = 0 → (∃ n8, p_X6_duel_L31 R n8 0 w f 0 s4)))))) → p_X6_duel 0 w f M R := fun h => by
    unfold p_X6_duel
    exact m_in_t (w := 7) (by decide) rfl (fun _ => br_f (by decide) h) (fun z => absurd c2 z)
  refine x_isHeight (fun cf => br_f (by decide) ⟨25, rfl, rfl, ?_⟩) (fun cf => br_t rfl (mm (m_isHeight (fun z => absurd z cf) (fun _ => br_t rfl ⟨rfl, hI⟩))))
  have mm2 : ∀ {R : Int32 → Sg → Prop}, ((gI M 0 20) = 0 → R ((-4)) M) ∧ (¬ (gI M 0 20) = 0 → (∃ n8, p_X6_duel_L31 R n8 0 w f 0 M)) → p_X6_duel 0 w f M R := fun h => mm (m_isHeight (fun _ => br_f (by decide) h) (fun z => absurd cf z))
  obtain ⟨m, hm7, rfl⟩ := c2
  obtain ⟨fh, hf21, rfl⟩ := cf
  refine br_eq (b := 0) x0 rfl (by omega) (by decide) (fun z => mm2 (br_t (by rw [m0, z]; rfl) ⟨rfl, hI⟩)) (fun z => ⟨19, rfl, rfl, ?_⟩)
  have n0 : ¬ gI M 0 20 = 0 := by rw [m0]; intro y; exact z (nI_inj (b := 0) (by omega) (by decide) y)
  refine e_takeD hv hb rfl (fun s hs hD => ⟨19, rfl, rfl, 19, rfl, rfl, ?_⟩)
  refine x_played (X := X) (g := (rp F q N).2 0) (c := fkN (rp F q N).2 ((rp F q N).1 0)) (f := fh) (w := m) hg hc (by omega) (by omega) m 0 0 (fun _ => 0) s 8 _ (by omega) (by omega) (Nat.le_refl _) (fun _ => Nat.le_refl _) hs hD (fun s' hs' _ => ?_)
  exact mm2 (br_f n0 (m_duel hm hb (by omega) (by omega) (fun M' hM' => ⟨rfl, Inv_tn (Inv_th hI hs') hM'⟩)))
