/-! kinds, test, whose -/
def okC (j : Nat) (v : Int32) : Prop := if j % 2 = 0 then ok v 21 else ok v 11
def pjC (X : Sg) (k n : Nat) : Prop := ∀ j, j < n → okC j (gR X (4 + k) j)
theorem ok_10 {v : Int32} {A B : Prop} (h1 : ok v 11 → A) (h2 : ¬ ok v 11 → B) : (v < 0 → B) ∧ (¬ v < 0 → ((v ≤ 10 → A) ∧ (¬ v ≤ 10 → B))) := by
  refine ⟨fun q => h2 (fun o => ok_lt0 (by decide) o q), fun q => ?_⟩
  have e := nok_hi (w := 11) (h := 10) (by decide) rfl q
  have le : v ≤ 10 ↔ ¬ (10 : Int32) < v := by rw [Int32.lt_iff_toInt_lt, Int32.le_iff_toInt_le]; omega
  exact ⟨fun q2 => h1 (Classical.byContradiction fun z => (le.mp q2) (e.mpr z)), fun q2 => h2 (e.mp (Classical.byContradiction fun z => q2 (le.mpr z)))⟩
section PRS
variable {X M : Sg}
theorem x_pl {k n : Nat} {Q : Int32 → Sg → Prop} (hk : k < 6) (hn : n ≤ 40) (hz : gR X (1 + 1) k = nI n) (h1 : pjC X k n → Q 0 X) (h2 : ¬ pjC X k n → Q (-3) (foundX X 3)) : ∀ r j, j + 2 * r = n → j % 2 = 0 → (∀ i, i < j → okC i (gR X (4 + k) i)) → p_X5_refusalOfPairs_L52 Q (r + 1) 0 (nI k) (nI n) (nI j) X := by
  intro r
  induction r with
  | zero =>
    intro j hj h0 ha
    have e : j = n := by omega
    subst e
    unfold p_X5_refusalOfPairs_L52
    rw [nI_1]
    exact br_t (nI_le (by omega) (by omega)) (h1 ha)
  | succ r ih =>
    intro j hj h0 ha
    unfold p_X5_refusalOfPairs_L52 p_X5_refusalOfPairs_b103
    rw [nI_1]
    have bad : ∀ i, i < n → ¬ okC i (gR X (4 + k) i) → p_X5_found 0 3 X (fun r2 s1 => Q r2 s1) := fun i hi z => e_found (f := 3) rfl (by decide) (h2 (fun p => z (p i hi)))
    refine br_f (nI_ge (by omega) (by omega)) ⟨1, rfl, rfl, s_cell R1 rfl hk hn hz rfl (show j + 1 < n by omega) ⟨1, rfl, rfl, s_cell R1 rfl hk hn hz rfl (show j < n by omega) ?_⟩⟩
    refine x_isHeight (fun o1 => br_f (by decide) (ok_10 (fun o2 => ?_) (fun z => bad (j + 1) (by omega) (by unfold okC; rw [if_neg (by omega)]; exact z)))) (fun z => br_t rfl (bad j (by omega) (by unfold okC; rw [if_pos h0]; exact z)))
    rw [show (2 : Int32) = nI 2 from rfl, nI_add]
    refine ih (j + 2) (by omega) (by omega) (fun i hi => ?_)
    rcases (show i < j ∨ i = j ∨ i = j + 1 by omega) with w | w | w
    · exact ha i w
    · subst w; unfold okC; rw [if_pos h0]; exact o1
    · subst w; unfold okC; rw [if_neg (by omega)]; exact o2
theorem m_jl {k n : Nat} {Q : Int32 → Sg → Prop} (hk : k < 6) (hn : n ≤ 40) (hz : gR M 3 k = nI n) (hc : ∀ j, j < 40 → gR M 2 (40 * k + j) = gR X (4 + k) j) (h1 : pjC X k n → Q 0 M) (h2 : ¬ pjC X k n → Q (-3) (foundM M 3)) : ∀ r j f, j + r = n → ((f = 1 ∧ ∀ i, i < j → okC i (gR X (4 + k) i)) ∨ (f = 0 ∧ ¬ pjC X k n)) → p_X6_judge_L55 Q (r + 1) 0 (nI k) f (nI j) M := by
  intro r
  induction r with
  | zero =>
    intro j f hj hf
    have e : j = n := by omega
    subst e
    unfold p_X6_judge_L55
    refine ⟨3, rfl, rfl, vp_in_nI hk (by decide), ?_⟩
    rw [m_cl (show k < 100000 by omega), hz]
    refine br_t (nI_le (Nat.le_refl _) (by omega)) ?_
    rcases hf with ⟨rfl, ha⟩ | ⟨rfl, ha⟩
    · exact br_f (by decide) (h1 ha)
    · exact br_t rfl (m_refuse (f := 3) rfl (by decide) (h2 ha))
  | succ r ih =>
    intro j f hj hf
    unfold p_X6_judge_L55 p_X6_judge_b97 p_X6_judge_b107 p_X6_judge_b108
    refine ⟨3, rfl, rfl, vp_in_nI hk (by decide), ?_⟩
    rw [m_cl (show k < 100000 by omega), hz, ixm (y := 40) 40 k j rfl, m_cl (show 40 * k + j < 100000 by omega), nI_1]
    refine br_f (nI_ge (by omega) (by omega)) ?_
    rcases hf with ⟨rfl, ha⟩ | ⟨rfl, ha⟩
    · refine br_f (by decide) ⟨2, rfl, rfl, m_in (N := 240) rfl rfl (by omega) (by decide), ?_⟩
      rw [hc j (by omega)]
      have step : ∀ w : Nat, w < 100 → (okC j (gR X (4 + k) j) ↔ ok (gR X (4 + k) j) w) → ∀ hi, hi = nI w - 1 → p_X6_in (gR X (4 + k) j) 0 hi M (fun r2 s1 => ((r2 = 0 → p_X6_judge_L55 Q (r + 1) 0 (nI k) 0 (nI (j + 1)) s1) ∧ (¬ r2 = 0 → p_X6_judge_L55 Q (r + 1) 0 (nI k) 1 (nI (j + 1)) s1))) := fun w hw hiff hi he =>
        m_in_t (w := w) (by omega) he (fun o => br_f (by decide) (ih (j + 1) 1 (by omega) (Or.inl ⟨rfl, fun i hi => by
          by_cases e : i = j
          · subst e; exact hiff.mpr o
          · exact ha i (by omega)⟩))) (fun o => br_t rfl (ih (j + 1) 0 (by omega) (Or.inr ⟨rfl, fun p => o (hiff.mp (p j (by omega)))⟩)))
      have er : nI j - nI j / 2 * 2 = nI (j % 2) := pk_rem (d := 2) (by omega) (by omega) (by omega)
      rw [er]
      by_cases h0 : j % 2 = 0
      · rw [h0]
        exact br_t rfl (step 21 (by decide) (by unfold okC; rw [if_pos h0]) 20 rfl)
      · rw [show j % 2 = 1 by omega]
        exact br_f (by decide) (step 11 (by decide) (by unfold okC; rw [if_neg h0]) 10 rfl)
    · exact br_t rfl (ih (j + 1) 0 (by omega) (Or.inr ⟨rfl, ha⟩))
/-- both judge a row of pairs -/
theorem xm_pairs (hI : Inv X M) (i r : Int32) {A : Int32 → Sg → Prop} {B : Int32 → Sg → Int32 → Sg → Prop} (hno : ∀ u X' M', ¬ u = 0 → ¬ 0 ≤ u → Z X' M' u u → (∀ {R : Int32 → Sg → Prop}, R u M' → p_X6_judge 0 i r M R) → A u X')
    (hyes : ∀ t k n, i = nI t → r = nI k → (∀ F q N, IC X M F q N → t < (rp F q N).1 0) → k < 6 → n ≤ 40 → n % 2 = 0 → gR X (1 + 1) k = nI n → pjC X k n → (∀ {R : Int32 → Sg → Prop}, R 0 M → p_X6_judge 0 i r M R) → A 0 X) : p_X5_refusalOfPairs 0 i r X A := by
  obtain ⟨F, q, N, hC⟩ := hI.2.2.2.2.2
  obtain ⟨hv, hm, hb, h3, h36⟩ := IC_now hC
  have b0 := hb.1
  unfold p_X5_refusalOfPairs
  refine x_isWoman hv b0 (fun hi => br_f (by decide) ?_) (fun hi => br_t rfl (hno _ X M (by decide) (by decide) ⟨rfl, hI⟩ (fun {R} h => by
    unfold p_X6_judge
    exact m_isWoman hm b0 (fun z => absurd z hi) (fun _ => br_t rfl h))))
  have hi' := hi
  by_cases hr : ok r 6
  rotate_left
  · exact x_bad R1 rfl hr (br_f (by decide) (hno _ X M (by decide) (by decide) ⟨rfl, hI⟩ (fun {R} h => by
      unfold p_X6_judge
      exact m_isWoman hm b0 (fun _ => br_f (by decide) (m_isRow (fun z => absurd z hr) (fun _ => br_t rfl h))) (fun z => absurd hi' z))))
  have hr' := hr
  obtain ⟨k, hk, rfl⟩ := hr
  obtain ⟨s1, s2, s3⟩ := hI.2.2.1 k hk
  have hin : vp_in (nI k) (lM 3) := m_in (N := 6) rfl rfl hk (by decide)
  have hcl : (nI k).toNatClampNeg = k := m_cl (by omega)
  rcases neg_of s1 (by decide) with ⟨e1, e2, e3⟩ | ⟨n, hn, e1, e2, e3, e4⟩
  · refine x_no R1 rfl rfl hk e1 (br_f (by decide) (hno _ _ _ (by decide) (by decide) ⟨rfl, Inv_found hI (f := 1) (by decide)⟩ (fun {R} h => ?_)))
    unfold p_X6_judge
    refine m_isWoman hm b0 (fun _ => br_f (by decide) (m_isRow (fun _ => br_f (by decide) ⟨3, rfl, rfl, hin, ?_⟩) (fun z => absurd hr' z))) (fun z => absurd hi' z)
    rw [hcl, s2]
    exact br_f e2 (m_refuse (f := 1) rfl (by decide) h)
  · have s4 : ∀ j, j < 40 → gR M 2 (40 * k + j) = gR X (4 + k) j := fun j hj => (s3 j hj).trans (by rw [show 1 + 3 + k = 4 + k by omega])
    have er : nI n - nI n / 2 * 2 = nI (n % 2) := pk_rem (d := 2) (by omega) (by omega) (by omega)
    have ea : nI n &&& 1 = nI (n % 2) := by rw [show (1 : Int32) = nI 1 from rfl, nI_and, Nat.and_one_is_mod]
    refine x_yes R1 rfl rfl hk hn e1 (br_t rfl ⟨1, rfl, rfl, s_sizeOf R1 rfl hk ?_⟩)
    rw [e1, ea]
    have mj : ∀ {R : Int32 → Sg → Prop}, ((nI (n % 2) = 1 → p_X6_refuse 0 5 M (fun r19 s18 => R r19 s18)) ∧ (¬ nI (n % 2) = 1 → (∃ n17, p_X6_judge_L55 R n17 0 (nI k) 1 0 M))) → p_X6_judge 0 i (nI k) M R := fun {R} h => by
      unfold p_X6_judge
      refine m_isWoman hm b0 (fun _ => br_f (by decide) (m_isRow (fun _ => br_f (by decide) ⟨3, rfl, rfl, hin, ?_⟩) (fun z => absurd hr' z))) (fun z => absurd hi' z)
      rw [hcl, s2]
      refine br_t e2 ⟨3, rfl, rfl, hin, ?_⟩
      rw [s2, e1, er]
      exact h
    by_cases h0 : n % 2 = 0
    rotate_left
    · rw [show n % 2 = 1 by omega] at mj ⊢
      exact br_f (by decide) (e_found (f := 5) rfl (by decide) (hno _ _ _ (by decide) (by decide) ⟨rfl, Inv_found hI (f := 5) (by decide)⟩ (fun {R} h => mj (br_t rfl (m_refuse (f := 5) rfl (by decide) h)))))
    rw [h0] at mj ⊢
    refine br_t rfl ⟨n / 2 + 1, x_pl hk hn e1 (fun hp => ?_) (fun hp => ?_) (n / 2) 0 (by omega) rfl (fun i h => absurd h (Nat.not_lt_zero i))⟩
    · obtain ⟨t, ht, rfl⟩ := hi
      refine hyes t k n rfl rfl (fun F' q' N' hC' => ?_) hk hn h0 e1 hp (fun {R} h => mj (br_f (by decide) ⟨n + 1, m_jl hk hn (s2.trans e1) s4 (fun _ => h) (fun z => absurd hp z) n 0 1 (by omega) (Or.inl ⟨rfl, fun i h => absurd h (Nat.not_lt_zero i)⟩)⟩))
      have w1 := (IC_now hC').1.1 0 (by decide)
      have w2 := hv.1 0 (by decide)
      have b0' := (IC_now hC').2.2.1.1
      have := nI_inj (by omega) (by omega) (w1.symm.trans w2)
      omega
    · exact hno _ _ _ (by decide) (by decide) ⟨rfl, Inv_found hI (f := 3) (by decide)⟩ (fun {R} h => mj (br_f (by decide) ⟨n + 1, m_jl hk hn (s2.trans e1) s4 (fun z => absurd z hp) (fun _ => h) n 0 1 (by omega) (Or.inl ⟨rfl, fun i h => absurd h (Nat.not_lt_zero i)⟩)⟩))
def ceN (X : Sg) (k j : Nat) : Nat := (gR X (4 + k) j).toNatClampNeg
theorem ce_of {k n j : Nat} (h : pjC X k n) (hj : j < n) : gR X (4 + k) j = nI (ceN X k j) ∧ ceN X k j ≤ 20 ∧ (j % 2 = 1 → ceN X k j ≤ 10) := by
  have := h j hj
  unfold okC at this
  unfold ceN
  by_cases h0 : j % 2 = 0
  · rw [if_pos h0] at this
    obtain ⟨v, hv, e⟩ := this
    rw [e, m_cl (show v < 100000 by omega)]
    exact ⟨rfl, by omega, fun z => by omega⟩
  · rw [if_neg h0] at this
    obtain ⟨v, hv, e⟩ := this
    rw [e, m_cl (show v < 100000 by omega)]
    exact ⟨rfl, by omega, fun _ => by omega⟩
def fpB (n : Nat → Nat) (a : Nat → Nat → Nat) (X : Sg) (t k kd p : Nat) : Bool := hN n a t (ceN X k (2 * p)) kd == ceN X k (2 * p + 1)
def fkB (n : Nat → Nat) (a : Nat → Nat → Nat) (X : Sg) (t k sz kd : Nat) : Bool := al (fpB n a X t k kd) (sz / 2)
section PR2
variable {n : Nat → Nat} {a : Nat → Nat → Nat} {t k sz : Nat} {Q : Int32 → Sg → Prop}
theorem x_pairsFit (hv : VD X 25 n a) (hb : BV n a) (ht : t < n 0) (hk : k < 6) (hn : sz ≤ 40) (h0 : sz % 2 = 0) (hz : gR X (1 + 1) k = nI sz) (hp : pjC X k sz) {kd : Nat} (hkd : kd ≤ 5) (h1 : fkB n a X t k sz kd = true → Q 1 X) (h2 : fkB n a X t k sz kd = false → Q 0 X) : p_X5_pairsFit 0 (nI t) (nI k) (nI kd) X Q := by
  unfold p_X5_pairsFit
  refine ⟨1, rfl, rfl, s_sizeOf R1 rfl hk ?_⟩
  rw [hz]
  have cc := hb.2.2.2.2.1 t ht
  have key : ∀ r p, p + r = sz / 2 → (∀ i, i < p → fpB n a X t k kd i = true) → p_X5_pairsFit_L13 Q (r + 1) 0 (nI t) (nI k) (nI kd) (nI sz) (nI (2 * p)) X := by
    intro r
    induction r with
    | zero =>
      intro p hpr ha
      unfold p_X5_pairsFit_L13
      rw [nI_1]
      exact br_t (nI_le (by omega) (by omega)) (h1 (al_iff.mpr (fun i hi => ha i (by omega))))
    | succ r ih =>
      intro p hpr ha
      obtain ⟨e1, l1, _⟩ := ce_of hp (show 2 * p < sz by omega)
      obtain ⟨e2, _, l2⟩ := ce_of hp (show 2 * p + 1 < sz by omega)
      have l2 := l2 (by omega)
      have hh : hN n a t (ceN X k (2 * p)) kd ≤ 10 := hemN_le cc.2.2.2.1
      unfold p_X5_pairsFit_L13
      rw [nI_1]
      refine br_f (nI_ge (by omega) (by omega)) ⟨1, rfl, rfl, s_cell R1 rfl hk hn hz rfl (show 2 * p < sz by omega) ⟨25, rfl, rfl, ?_⟩⟩
      rw [show 1 + 3 + k = 4 + k by omega, e1]
      refine e_hemIfNow isD25 hv hb ht (by omega) hkd ⟨1, rfl, rfl, s_cell R1 rfl hk hn hz rfl (show 2 * p + 1 < sz by omega) ?_⟩
      rw [show 1 + 3 + k = 4 + k by omega, e2, show (2 : Int32) = nI 2 from rfl, nI_add]
      refine br_eq rfl rfl (by omega) (by omega) (fun w => ih (p + 1) (by omega) (fun i hi => ?_)) (fun w => h2 ?_)
      · by_cases e : i = p
        · subst e; unfold fpB; rw [w]; simp
        · exact ha i (by omega)
      · cases c : fkB n a X t k sz kd with
        | false => rfl
        | true =>
          have := al_iff.mp c p (by omega)
          unfold fpB at this
          exact absurd (by simpa using this) w
  exact ⟨sz / 2 + 1, key (sz / 2) 0 (by omega) (fun i h => absurd h (Nat.not_lt_zero i))⟩
theorem x_kindsBy (hv : VD X 25 n a) (hb : BV n a) (ht : t < n 0) (hk : k < 6) (hn : sz ≤ 40) (h0 : sz % 2 = 0) (hz : gR X (1 + 1) k = nI sz) (hp : pjC X k sz) (h : Q (nI (bs (fkB n a X t k sz) 6)) X) : p_X5_kindsBy 0 (nI t) (nI k) X Q := by
  unfold p_X5_kindsBy
  refine ⟨7, ?_⟩
  refine lp_up (fun m kd (_ : Unit) => p_X5_kindsBy_L5 Q m 0 (nI t) (nI k) (nI (bs (fkB n a X t k sz) kd)) (nI kd) X) (fun _ _ => True) 6 (fun _ x => x) (fun _ => True) (fun m _ _ _ => ?_) (fun m kd _ hkd _ hx => ?_) (fun _ _ _ _ => trivial) 6 0 () (by decide) trivial trivial
  · unfold p_X5_kindsBy_L5
    exact br_t (by decide) h
  · unfold p_X5_kindsBy_L5 p_X5_kindsBy_b30
    rw [orr _ (show kd < 31 by omega), nI_1]
    rw [bs_s] at hx
    refine br_f (nI_ge (b := 6) hkd (by decide)) (x_pairsFit hv hb ht hk hn h0 hz hp (by omega) (fun c => br_f (by decide) ?_) (fun c => br_t rfl ?_))
    · rw [c, if_pos rfl] at hx; exact hx
    · rw [c, if_neg (by decide), Nat.add_zero] at hx; exact hx
theorem m_kindsBy (hv : VM M n a) (hb : BV n a) (ht : t < n 0) (hk : k < 6) (hn : sz ≤ 40) (h0 : sz % 2 = 0) (hz : gR M 3 k = nI sz) (hc : ∀ j, j < 40 → gR M 2 (40 * k + j) = gR X (4 + k) j) (hp : pjC X k sz) (h : Q (nI (bs (fkB n a X t k sz) 6)) M) : p_X6_kindsBy 0 (nI t) (nI k) M Q := by
  have cc := hb.2.2.2.2.1 t ht
  unfold p_X6_kindsBy
  refine ⟨7, ?_⟩
  refine lp_up (fun m kd (_ : Unit) => p_X6_kindsBy_L5 Q m 0 (nI t) (nI k) (nI (bs (fkB n a X t k sz) kd)) (nI kd) M) (fun _ _ => True) 6 (fun _ x => x) (fun _ => True) (fun m _ _ _ => ?_) (fun m kd _ hkd _ hx => ?_) (fun _ _ _ _ => trivial) 6 0 () (by decide) trivial trivial
  · unfold p_X6_kindsBy_L5
    exact br_t (by decide) h
  · unfold p_X6_kindsBy_L5
    refine br_f (nI_ge (b := 6) hkd (by decide)) ⟨sz / 2 + 1, ?_⟩
    refine lp_up (fun m' p (_ : Unit) => p_X6_kindsBy_L18 Q (fun y0 y1 y2 y3 y4 u => p_X6_kindsBy_L5 Q m y0 y1 y2 y3 y4 u) m' 0 (nI t) (nI k) (nI (bs (fkB n a X t k sz) kd)) (nI kd) (if al (fpB n a X t k kd) p then 1 else 0) (nI (2 * p)) M) (fun _ _ => True) (sz / 2) (fun _ x => x) (fun _ => True) (fun m' _ _ _ => ?_) (fun m' p _ hpp _ hy => ?_) (fun _ _ _ _ => trivial) (sz / 2) 0 () (by omega) trivial trivial
    · unfold p_X6_kindsBy_L18 p_X6_kindsBy_b97
      refine ⟨3, rfl, rfl, vp_in_nI hk (by decide), ?_⟩
      rw [m_cl (show k < 100000 by omega), hz, orr _ (show kd < 31 by omega), nI_1]
      rw [bs_s] at hx
      refine br_t (nI_le (by omega) (by omega)) ?_
      by_cases c : al (fpB n a X t k kd) (sz / 2) = true
      · rw [if_pos c]
        rw [show fkB n a X t k sz kd = true from c, if_pos rfl] at hx
        exact br_f (by decide) hx
      · rw [if_neg c]
        rw [show fkB n a X t k sz kd = false by unfold fkB; simpa using c, if_neg (by decide), Nat.add_zero] at hx
        refine br_t rfl ?_
        rw [show (0 : Int32) = nI 0 from rfl, nI_or, Nat.or_zero]
        exact hx
    · obtain ⟨e1, l1, _⟩ := ce_of hp (show 2 * p < sz by omega)
      obtain ⟨e2, _, l2⟩ := ce_of hp (show 2 * p + 1 < sz by omega)
      have l2 := l2 (by omega)
      have hh : hN n a t (ceN X k (2 * p)) kd ≤ 10 := hemN_le cc.2.2.2.1
      unfold p_X6_kindsBy_L18 p_X6_kindsBy_b74 p_X6_kindsBy_b75
      refine ⟨3, rfl, rfl, vp_in_nI hk (by decide), ?_⟩
      rw [m_cl (show k < 100000 by omega), hz, ixm (y := 40) 40 k (2 * p) rfl, nI_1, m_cl (show 40 * k + 2 * p < 100000 by omega), m_cl (show 40 * k + 2 * p + 1 < 100000 by omega), show nI (2 * p) + 2 = nI (2 * (p + 1)) from nI_add (2 * p) 2]
      have hy' : p_X6_kindsBy_L18 Q (fun y0 y1 y2 y3 y4 u => p_X6_kindsBy_L5 Q m y0 y1 y2 y3 y4 u) m' 0 (nI t) (nI k) (nI (bs (fkB n a X t k sz) kd)) (nI kd) (if al (fpB n a X t k kd) p && fpB n a X t k kd p then 1 else 0) (nI (2 * (p + 1))) M := hy
      refine br_f (nI_ge (by omega) (by omega)) ?_
      by_cases c : al (fpB n a X t k kd) p = true
      · rw [if_pos c]
        rw [c, Bool.true_and] at hy'
        refine br_f (by decide) ⟨2, rfl, rfl, m_in (N := 240) rfl rfl (by omega) (by decide), ?_⟩
        rw [hc (2 * p) (by omega), e1]
        refine m_hemNow hv hb ht (by omega) (by omega) ⟨2, rfl, rfl, m_in (N := 240) rfl rfl (by omega) (by decide), ?_⟩
        rw [show 40 * k + 2 * p + 1 = 40 * k + (2 * p + 1) by omega, hc (2 * p + 1) (by omega), e2]
        refine br_eq rfl rfl (by omega) (by omega) (fun w => ?_) (fun w => ?_)
        · rw [show fpB n a X t k kd p = true by unfold fpB; rw [w]; simp] at hy'
          exact hy'
        · rw [show fpB n a X t k kd p = false by unfold fpB; simpa using w] at hy'
          exact hy'
      · rw [if_neg c]
        rw [show al (fpB n a X t k kd) p = false by simpa using c, Bool.false_and] at hy'
        exact br_t rfl hy'
def prkN (n : Nat → Nat) (a : Nat → Nat → Nat) (t f set : Nat) : Nat := mxN (cn set.testBit (fun kd => hN n a t f kd) 6) 11
theorem x_partK (hv : VD X 25 n a) (hb : BV n a) (ht : t < n 0) {f set : Nat} (hf : f ≤ 20) (hh : set < 2 ^ 31) (h : ∀ g, Q (nI (prkN n a t f set)) (setR X 23 g)) : p_X5_greatestPartOfKinds 0 (nI t) (nI f) (nI set) X Q := by
  have cc := hb.2.2.2.2.1 t ht
  unfold p_X5_greatestPartOfKinds
  refine e_fill (k := 23) rfl rfl (by decide) ⟨7, ?_⟩
  have key : ∀ r kd g, kd + r = 6 → tly (setR X 23 g) set.testBit (fun kd => hN n a t f kd) kd → p_X5_greatestPartOfKinds_L14 Q (r + 1) 0 (nI t) (nI f) (nI set) (nI (mxN (cn set.testBit (fun kd => hN n a t f kd) kd) 11)) (nI kd) (setR X 23 g) := by
    intro r
    induction r with
    | zero =>
      intro kd g hkd htl
      rw [show kd = 6 by omega]
      unfold p_X5_greatestPartOfKinds_L14
      exact br_t (by decide) (h g)
    | succ r ih =>
      intro kd g hkd htl
      have hv' := VD_23 hv (k := 23) g (by decide)
      have hl := mxN_le (g := cn set.testBit (fun kd => hN n a t f kd) kd) (cn_le _ _ kd) 11
      have hc := cn_le set.testBit (fun kd => hN n a t f kd) kd (hN n a t f kd)
      unfold p_X5_greatestPartOfKinds_L14 p_X5_hasBit p_X5_greatestPartOfKinds_b52
      rw [bit_of hh (show kd < 31 by omega), nI_1]
      refine br_f (nI_ge (b := 6) (by omega) (by decide)) ?_
      by_cases c : set.testBit kd = true
      · rw [if_pos c]
        refine br_f (by decide) (br_f (by decide) ⟨25, rfl, rfl, e_hemIfNow isD25 hv' hb ht (by omega) (by omega) (e_more htl (by omega) (hemN_le cc.2.2.2.1) (fun X' e => ?_))⟩)
        have ht' := tly_up htl c
        rw [setR_2] at ht' e
        subst e
        rw [v_max (by omega) (by omega)]
        have hm := mx_step (p := set.testBit) (g := fun kd => hN n a t f kd) (k := kd) c (hemN_le cc.2.2.2.1)
        rw [← hm]
        exact ih (kd + 1) _ (by omega) ht'
      · have c' : set.testBit kd = false := by simpa using c
        rw [if_neg c]
        refine br_t (by decide) (br_t rfl ?_)
        rw [← mx_stay c']
        exact ih (kd + 1) g (by omega) (tly_stay htl c')
  have := key 6 0 (fun i => if i < bX.2.2.1 23 then 0 else gR X 23 i) (by decide) (fun h hh => by
    rw [gR_same, if_pos (show h < bX.2.2.1 23 by show h < 11; omega)]
    rfl)
  rw [show mxN (cn set.testBit (fun kd => hN n a t f kd) 0) 11 = 0 from rfl] at this
  exact this
theorem m_partK (hv : VM M n a) (hb : BV n a) (ht : t < n 0) {f set : Nat} (hf : f ≤ 20) (hh : set < 2 ^ 31) {x5 x6 : Int32} {K39 : Nat → Int32 → Int32 → Int32 → Int32 → Int32 → Sg → Prop} (h : (x5 = -9 → K39 0 (nI t) (nI set) (nI f) (nI (prkN n a t f set)) (nI (f + 1)) M) ∧ (¬ x5 = -9 → ((x6 ≤ nI (prkN n a t f set) → K39 0 (nI t) (nI set) x5 x6 (nI (f + 1)) M) ∧ (¬ x6 ≤ nI (prkN n a t f set) → K39 0 (nI t) (nI set) (nI f) (nI (prkN n a t f set)) (nI (f + 1)) M)))) : ∃ m, p_X6_test_L52 Q K39 m 0 (nI t) (nI set) x5 x6 (nI f) 0 0 M := by
  have cc := hb.2.2.2.2.1 t ht
  refine ⟨12, ?_⟩
  refine lp_up (fun m k (_ : Unit) => p_X6_test_L52 Q K39 m 0 (nI t) (nI set) x5 x6 (nI f) (nI (mxN (cn set.testBit (fun kd => hN n a t f kd) 6) k)) (nI k) M) (fun _ _ => True) 11 (fun _ x => x) (fun _ => True) (fun m _ _ _ => ?_) (fun m k _ hk _ hx => ?_) (fun _ _ _ _ => trivial) 11 0 () (by decide) trivial trivial
  · unfold p_X6_test_L52 p_X6_test_b149 p_X6_test_b157
    rw [nI_1]
    exact br_t (by decide) h
  · unfold p_X6_test_L52
    have hl := mxN_le (g := cn set.testBit (fun kd => hN n a t f kd) 6) (cn_le _ _ 6) k
    refine br_f (nI_nlt (b := k) (a := 10) (by omega) (by decide)) ⟨7, ?_⟩
    refine lp_up (fun m' kd (_ : Unit) => p_X6_test_L65 Q (fun y0 y1 y4 y5 y6 y7 y8 y9 u => p_X6_test_L52 Q K39 m y0 y1 y4 y5 y6 y7 y8 y9 u) m' 0 (nI t) (nI set) x5 x6 (nI f) (nI (mxN (cn set.testBit (fun kd => hN n a t f kd) 6) k)) (nI k) (nI (cn set.testBit (fun kd => hN n a t f kd) kd k)) (nI kd) M) (fun _ _ => True) 6 (fun _ x => x) (fun _ => True) (fun m' _ _ _ => ?_) (fun m' kd _ hkd _ hz => ?_) (fun _ _ _ _ => trivial) 6 0 () (by decide) trivial trivial
    · unfold p_X6_test_L65 p_X6_test_b127
      rw [nI_1]
      have hc := cn_le set.testBit (fun kd => hN n a t f kd) 6 k
      have hx' : p_X6_test_L52 Q K39 m 0 (nI t) (nI set) x5 x6 (nI f) (nI (max (mxN (cn set.testBit (fun kd => hN n a t f kd) 6) k) (cn set.testBit (fun kd => hN n a t f kd) 6 k))) (nI (k + 1)) M := hx
      refine br_t (by decide) (br_le rfl rfl (by omega) (by omega) (fun c => ?_) (fun c => ?_))
      · rw [Nat.max_eq_left c] at hx'; exact hx'
      · rw [Nat.max_eq_right (by omega)] at hx'; exact hx'
    · unfold p_X6_test_L65 p_X6_test_b103 p_X6_test_b104
      rw [bit_of hh (show kd < 31 by omega), nI_1]
      have hz' : p_X6_test_L65 Q (fun y0 y1 y4 y5 y6 y7 y8 y9 u => p_X6_test_L52 Q K39 m y0 y1 y4 y5 y6 y7 y8 y9 u) m' 0 (nI t) (nI set) x5 x6 (nI f) (nI (mxN (cn set.testBit (fun kd => hN n a t f kd) 6) k)) (nI k) (nI (cn set.testBit (fun kd => hN n a t f kd) kd k + (if set.testBit kd && (hN n a t f kd == k) then 1 else 0))) (nI (kd + 1)) M := hz
      have hh2 : hN n a t f kd ≤ 10 := hemN_le cc.2.2.2.1
      have z0 : ∀ x : Nat, nI x + 0 = nI x := fun x => by rw [show (0 : Int32) = nI 0 from rfl, nI_add]; rfl
      refine br_f (nI_ge (b := 6) hkd (by decide)) ?_
      by_cases c : set.testBit kd = true
      · rw [if_pos c]
        rw [c, Bool.true_and] at hz'
        refine br_t (by decide) (m_hemNow hv hb ht (by omega) (by omega) (br_eq rfl rfl (by omega) (by omega) (fun d => ?_) (fun d => ?_)))
        · rw [if_pos (by simpa using d)] at hz'
          rw [nI_1]
          exact hz'
        · rw [if_neg (by simpa using d)] at hz'
          rw [z0, nI_1]
          exact hz'
      · rw [if_neg c]
        rw [show set.testBit kd = false by simpa using c] at hz'
        refine br_f (by decide) ?_
        rw [z0, nI_1]
        exact hz'
end PR2
theorem st_kinds (hI : Inv X M) (i r : Int32) : p_X5_kinds 0 i r X (fun u X' => p_X6_kinds 0 i r M (fun u' M' => Z X' M' u u')) := by
  unfold p_X5_kinds
  refine xm_pairs (B := fun _ _ _ _ => True) hI i r (fun u X' M' u0 u1 hz hj => br_f u0 ?_) (fun t k n et ek ht hk hn h0 hs hp hj => br_t rfl ?_)
  · unfold p_X6_kinds
    exact hj (br_f u1 hz)
  · subst et ek
    obtain ⟨F, q, N, hC⟩ := hI.2.2.2.2.2
    obtain ⟨hv, hm, hb, h3, h36⟩ := IC_now hC
    obtain ⟨s1, s2, s3⟩ := hI.2.2.1 k hk
    refine x_kindsBy hv hb (ht F q N hC) hk hn h0 hs hp ?_
    unfold p_X6_kinds
    exact hj (br_t (by decide) (m_kindsBy (X := X) hm hb (ht F q N hC) hk hn h0 (s2.trans hs) (fun j hj => (s3 j hj).trans (by rw [show 1 + 3 + k = 4 + k by omega])) hp ⟨rfl, hI⟩))
def tsS (part : Nat → Nat) (f : Nat) (b : Nat × Nat) : Nat × Nat := if b.2 ≤ part f then b else (f, part f)
theorem st_test (hI : Inv X M) (i r : Int32) : p_X5_test 0 i r X (fun u X' => p_X6_test 0 i r M (fun u' M' => Z X' M' u u')) := by
  unfold p_X5_test
  refine xm_pairs (B := fun _ _ _ _ => True) hI i r (fun u X' M' u0 u1 hz hj => br_f u0 ?_) (fun t k n et ek ht hk hn h0 hs hp hj => br_t rfl ?_)
  · unfold p_X6_test
    exact hj (br_f u1 hz)
  · subst et ek
    obtain ⟨F, q, N, hC⟩ := hI.2.2.2.2.2
    obtain ⟨hv, hm, hb, h3, h36⟩ := IC_now hC
    obtain ⟨s1, s2, s3⟩ := hI.2.2.1 k hk
    have ht := ht F q N hC
    refine x_kindsBy hv hb ht hk hn h0 hs hp ?_
    have mk : ∀ {R : Int32 → Sg → Prop}, R (nI (bs (fkB (rp F q N).1 (rp F q N).2 X t k n) 6)) M → p_X6_kindsBy 0 (nI t) (nI k) M R := fun h => m_kindsBy (X := X) hm hb ht hk hn h0 (s2.trans hs) (fun j hj => (s3 j hj).trans (by rw [show 1 + 3 + k = 4 + k by omega])) hp h
    have hlt := bs_lt (fkB (rp F q N).1 (rp F q N).2 X t k n) 6
    generalize bs (fkB (rp F q N).1 (rp F q N).2 X t k n) 6 = S at mk hlt ⊢
    unfold p_X6_test
    refine br_eq (b := 0) rfl rfl (by omega) (by decide) (fun z => hj (br_t (by decide) (mk (br_t (by rw [z]; rfl) ⟨rfl, hI⟩)))) (fun z => ?_)
    have nz : ¬ nI S = 0 := fun q => z (nI_inj (b := 0) (by omega) (by decide) q)
    have hpk : ∀ f, prkN (rp F q N).1 (rp F q N).2 t f S ≤ 6 := fun f => mxN_le (cn_le _ _ 6) 11
    refine x_partK hv hb ht (f := 0) (by decide) (by omega) (fun g => ⟨21, ?_⟩)
    generalize hR : itr (tsS (fun f => prkN (rp F q N).1 (rp F q N).2 t f S)) 1 20 (0, prkN (rp F q N).1 (rp F q N).2 t 0 S) = R
    have hst : ∀ f b, f ≤ 20 → (b : Nat × Nat).1 ≤ 20 ∧ b.2 ≤ 6 → (tsS (fun f => prkN (rp F q N).1 (rp F q N).2 t f S) f b).1 ≤ 20 ∧ (tsS (fun f => prkN (rp F q N).1 (rp F q N).2 t f S) f b).2 ≤ 6 := fun f b hf hb => by
      unfold tsS
      have := hpk f
      split
      · exact hb
      · exact ⟨hf, this⟩
    refine lp_upb (fun f i (b : Nat × Nat) (g : Nat → Int32) => p_X5_test_L45 _ f 0 (nI t) (nI S) (nI b.1) (nI b.2) (nI i) (setR X 23 g)) (fun _ b => b.1 ≤ 20 ∧ b.2 ≤ 6) 21 (tsS (fun f => prkN (rp F q N).1 (rp F q N).2 t f S)) (fun b => b = R) (fun f b g _ hb2 => ?_) (fun f i b g hi hbb hx => ?_) (fun i b hi hbb => hst i b (by omega) hbb) 20 1 (0, prkN (rp F q N).1 (rp F q N).2 t 0 S) g (by decide) ⟨Nat.zero_le 20, hpk 0⟩ hR
    · subst hb2
      unfold p_X5_test_L45
      refine br_t (by decide) (hj (br_t (by decide) (mk (br_f nz ⟨22, ?_⟩))))
      unfold p_X6_test_L39
      refine br_f (by decide) (m_partK (f := 0) hm hb ht (by decide) (by omega) (br_t rfl ?_))
      refine lp_up (fun f i (b : Nat × Nat) => p_X6_test_L39 _ f 0 (nI t) (nI S) (nI b.1) (nI b.2) (nI i) M) (fun _ b => b.1 ≤ 20 ∧ b.2 ≤ 6) 21 (tsS (fun f => prkN (rp F q N).1 (rp F q N).2 t f S)) (fun c => c = b) (fun f c _ hc => ?_) (fun f i c hi hcc hx => ?_) (fun i b hi hbb => hst i b (by omega) hbb) 20 1 (0, prkN (rp F q N).1 (rp F q N).2 t 0 S) (by decide) ⟨Nat.zero_le 20, hpk 0⟩ hR
      · subst hc
        unfold p_X6_test_L39
        exact br_t (by decide) ⟨rfl, Inv_told (Inv_think hI _ (by decide)) rfl⟩
      · unfold p_X6_test_L39
        unfold tsS at hx
        simp only [] at hx
        have := hpk i
        refine br_f (nI_nlt (b := i) (a := 20) (by omega) (by decide)) (m_partK (f := i) hm hb ht (by omega) (by omega) (br_f (n9 (by omega)) ?_))
        refine br_le rfl rfl (by omega) (by omega) (fun w => ?_) (fun w => ?_)
        · rw [if_pos w] at hx; exact hx
        · rw [if_neg (by omega)] at hx; exact hx
    · unfold p_X5_test_L45 p_X5_test_b78
      unfold tsS at hx
      simp only [] at hx
      have := hpk i
      rw [nI_1]
      refine br_f (nI_nlt (b := i) (a := 20) (by omega) (by decide)) (x_partK (VD_23 hv g (by decide)) hb ht (by omega) (by omega) (fun g' => ?_))
      rw [setR_2]
      refine br_le rfl rfl (by omega) (by omega) (fun w => ?_) (fun w => ?_)
      · rw [if_pos w] at hx; exact hx g'
      · rw [if_neg (by omega)] at hx; exact hx g'
def wyB (a : Nat → Nat → Nat) (X : Sg) (k i y : Nat) : Bool := decide (nI (hO a i y) = gR X (4 + k) y)
def whB (a : Nat → Nat → Nat) (X : Sg) (k sz i : Nat) : Bool := al (wyB a X k i) sz
theorem st_whose (hI : Inv X M) (r : Int32) : p_X5_whose 0 r X (fun u X' => p_X6_whose 0 r M (fun u' M' => Z X' M' u u')) := by
  obtain ⟨F, q, N, hC⟩ := hI.2.2.2.2.2
  obtain ⟨hv, hm, hb, h3, h36⟩ := IC_now hC
  have b0 := hb.1
  have b2 := hb.2.2.1
  have x0 := hv.1 0 (by decide)
  have x2 := hv.1 2 (by decide)
  have m0 := hm.1
  have m2 := hm.2.2.1
  unfold p_X5_whose
  refine ⟨1, rfl, rfl, s_isNumber R1 (fun hr => br_f (by decide) ⟨25, rfl, rfl, ?_⟩) (fun hr => br_t rfl (by unfold p_X6_whose; exact m_isRow (fun z => absurd z hr) (fun _ => br_t rfl ⟨rfl, hI⟩)))⟩
  have hr' := hr
  obtain ⟨k, hk, rfl⟩ := hr
  obtain ⟨s1, s2, s3⟩ := hI.2.2.1 k hk
  have s4 : ∀ j, j < 40 → gR M 2 (40 * k + j) = gR X (4 + k) j := fun j hj => (s3 j hj).trans (by rw [show 1 + 3 + k = 4 + k by omega])
  have hin : vp_in (nI k) (lM 3) := m_in (N := 6) rfl rfl hk (by decide)
  have hcl : (nI k).toNatClampNeg = k := m_cl (by omega)
  refine br_eq (b := 0) x0 rfl (by omega) (by decide) (fun y0 => by unfold p_X6_whose; exact m_isRow (fun _ => br_f (by decide) (br_t (by rw [m0, y0]; rfl) ⟨rfl, hI⟩)) (fun z => absurd hr' z)) (fun y0 => ⟨1, rfl, rfl, ?_⟩)
  have n0 : ¬ gI M 0 20 = 0 := by rw [m0]; intro q; exact y0 (nI_inj (b := 0) (by omega) (by decide) q)
  rcases neg_of s1 (by decide) with ⟨e1, e2, e3⟩ | ⟨n, hn, e1, e2, e3, e4⟩
  · refine s_isThere R1 rfl hk (fun z => absurd e1 z) (fun _ => br_t rfl (e_found (f := 1) rfl (by decide) ?_))
    unfold p_X6_whose
    refine m_isRow (fun _ => br_f (by decide) (br_f n0 ⟨3, rfl, rfl, hin, ?_⟩)) (fun z => absurd hr' z)
    rw [hcl, s2]
    exact br_f e2 (m_refuse (f := 1) rfl (by decide) ⟨rfl, Inv_found hI (by decide)⟩)
  refine s_isThere R1 rfl hk (fun _ => br_f (by decide) ⟨1, rfl, rfl, s_sizeOf R1 rfl hk ⟨25, rfl, rfl, ?_⟩⟩) (fun z => absurd z e4)
  have mm : ∀ {R : Int32 → Sg → Prop}, ((nI n ≤ nI ((rp F q N).1 2) → (∃ n15, p_X6_whose_L57 R n15 0 (nI k) 0 0 M)) ∧ (¬ nI n ≤ nI ((rp F q N).1 2) → p_X6_refuse 0 5 M (fun r17 s16 => R r17 s16))) → p_X6_whose 0 (nI k) M R := fun {R} h => by
    unfold p_X6_whose
    refine m_isRow (fun _ => br_f (by decide) (br_f n0 ⟨3, rfl, rfl, hin, ?_⟩)) (fun z => absurd hr' z)
    rw [hcl, s2]
    refine br_t e2 ⟨3, rfl, rfl, hin, ?_⟩
    rw [s2, e1, m2]
    exact h
  rw [e1, x2]
  refine br_le rfl rfl (by omega) (by omega) (fun w => ⟨(rp F q N).1 0 + 1, ?_⟩) (fun w => e_found (f := 5) rfl (by decide) (mm (br_f (nI_ge w (by omega)) (m_refuse (f := 5) rfl (by decide) ⟨rfl, Inv_found hI (by decide)⟩))))
  refine lp_up (fun m i (_ : Unit) => p_X5_whose_L71 _ m 0 (nI k) (nI (bs (whB (rp F q N).2 X k n) i)) (nI i) X) (fun _ _ => True) ((rp F q N).1 0) (fun _ x => x) (fun _ => True) (fun m _ _ _ => ?_) (fun m i _ hi _ hx => ?_) (fun _ _ _ _ => trivial) ((rp F q N).1 0) 0 () (by omega) trivial trivial
  · unfold p_X5_whose_L71 p_X5_whose_b127
    refine ⟨25, rfl, rfl, br_t (by rw [x0]; exact nI_le (Nat.le_refl _) (by omega)) ⟨1, rfl, rfl, s_sizeOf R1 rfl hk ⟨25, rfl, rfl, ?_⟩⟩⟩
    rw [e1, x2]
    have fin : ∀ {R : Int32 → Sg → Prop}, ((nI n = nI ((rp F q N).1 2) → R (nI (bs (whB (rp F q N).2 X k n) ((rp F q N).1 0))) (setI M 0 0 (nI (bs (whB (rp F q N).2 X k n) ((rp F q N).1 0))))) ∧ (¬ nI n = nI ((rp F q N).1 2) → R (nI (bs (whB (rp F q N).2 X k n) ((rp F q N).1 0))) (setI M 0 0 0))) → ∃ n15, p_X6_whose_L57 R n15 0 (nI k) 0 0 M := fun {R} h => by
      refine ⟨(rp F q N).1 0 + 1, ?_⟩
      refine lp_up (fun m i (_ : Unit) => p_X6_whose_L57 R m 0 (nI k) (nI (bs (whB (rp F q N).2 X k n) i)) (nI i) M) (fun _ _ => True) ((rp F q N).1 0) (fun _ x => x) (fun _ => True) (fun m _ _ _ => ?_) (fun m i _ hi _ hx => ?_) (fun _ _ _ _ => trivial) ((rp F q N).1 0) 0 () (by omega) trivial trivial
      · unfold p_X6_whose_L57 p_X6_whose_b167
        rw [m0, m2]
        refine br_t (nI_le (Nat.le_refl _) (by omega)) ⟨3, rfl, rfl, hin, ?_⟩
        rw [hcl, s2, e1]
        exact h
      · unfold p_X6_whose_L57
        rw [m0]
        refine br_f (lt_w b0 hi) ⟨n + 1, ?_⟩
        refine lp_up (fun m' y (_ : Unit) => p_X6_whose_L71 R (fun y0 y1 y2 y3 u => p_X6_whose_L57 R m y0 y1 y2 y3 u) m' 0 (nI k) (nI (bs (whB (rp F q N).2 X k n) i)) (nI i) (if al (wyB (rp F q N).2 X k i) y then 1 else 0) (nI y) M) (fun _ _ => True) n (fun _ x => x) (fun _ => True) (fun m' _ _ _ => ?_) (fun m' y _ hy _ hz => ?_) (fun _ _ _ _ => trivial) n 0 () (by omega) trivial trivial
        · unfold p_X6_whose_L71 p_X6_whose_b140
          refine ⟨3, rfl, rfl, hin, ?_⟩
          rw [hcl, s2, e1, orr _ (show i < 31 by omega), nI_1]
          rw [bs_s] at hx
          refine br_t (nI_le (Nat.le_refl _) (by omega)) ?_
          by_cases c : al (wyB (rp F q N).2 X k i) n = true
          · rw [if_pos c]
            rw [show whB (rp F q N).2 X k n i = true from c, if_pos rfl] at hx
            exact br_f (by decide) hx
          · rw [if_neg c]
            rw [show whB (rp F q N).2 X k n i = false by unfold whB; simpa using c, if_neg (by decide), Nat.add_zero] at hx
            refine br_t rfl ?_
            rw [show (0 : Int32) = nI 0 from rfl, nI_or, Nat.or_zero]
            exact hx
        · unfold p_X6_whose_L71 p_X6_whose_b118 p_X6_whose_b119
          refine ⟨3, rfl, rfl, hin, ?_⟩
          rw [hcl, s2, e1, ex6, ixm (y := 40) 40 k y rfl, m_cl (show y * 6 + i < 100000 by omega), m_cl (show 40 * k + y < 100000 by omega), nI_1]
          have hz' : p_X6_whose_L71 R (fun y0 y1 y2 y3 u => p_X6_whose_L57 R m y0 y1 y2 y3 u) m' 0 (nI k) (nI (bs (whB (rp F q N).2 X k n) i)) (nI i) (if al (wyB (rp F q N).2 X k i) y && wyB (rp F q N).2 X k i y then 1 else 0) (nI (y + 1)) M := hz
          refine br_f (nI_ge hy (by omega)) ?_
          by_cases c : al (wyB (rp F q N).2 X k i) y = true
          · rw [if_pos c]
            rw [c, Bool.true_and] at hz'
            refine br_f (by decide) ⟨21, rfl, rfl, m_in (N := 48) rfl rfl (by omega) (by decide), 2, rfl, rfl, m_in (N := 240) rfl rfl (by omega) (by decide), ?_⟩
            rw [hm.2.2.2.2 i y hi (by omega), s4 y (by omega)]
            by_cases d : nI (hO (rp F q N).2 i y) = gR X (4 + k) y
            · rw [show wyB (rp F q N).2 X k i y = true by unfold wyB; simpa using d] at hz'
              exact br_t d hz'
            · rw [show wyB (rp F q N).2 X k i y = false by unfold wyB; simpa using d] at hz'
              exact br_f d hz'
          · rw [if_neg c]
            rw [show al (wyB (rp F q N).2 X k i) y = false by simpa using c, Bool.false_and] at hz'
            exact br_t rfl hz'
    by_cases d : n = (rp F q N).1 2
    · refine br_t (by rw [d]) (mm (br_t (nI_le w (by omega)) (fin (br_t (by rw [d]) ⟨rfl, Inv_told hI rfl⟩))))
    · have nd : ¬ nI n = nI ((rp F q N).1 2) := fun q => d (nI_inj (by omega) (by omega) q)
      exact br_f nd (mm (br_t (nI_le w (by omega)) (fin (br_f nd ⟨rfl, Inv_told hI rfl⟩))))
  · unfold p_X5_whose_L71 p_X5_whose_b97
    refine ⟨25, rfl, rfl, br_f (by rw [x0]; exact lt_w b0 hi) ?_⟩
    rw [orr _ (show i < 31 by omega), nI_1]
    rw [bs_s] at hx
    unfold p_X5_hemsBeginAs
    refine ⟨1, rfl, rfl, s_sizeOf R1 rfl hk ?_⟩
    rw [e1]
    have key : ∀ {R : Int32 → Sg → Prop}, (whB (rp F q N).2 X k n i = true → R 1 X) → (whB (rp F q N).2 X k n i = false → R 0 X) → ∀ r y, y + r = n → (∀ j, j < y → wyB (rp F q N).2 X k i j = true) → p_X5_hemsBeginAs_L12 R (r + 1) 0 (nI i) (nI k) (nI n) (nI y) X := by
      intro R g1 g2 r
      induction r with
      | zero =>
        intro y hy ha
        have e : y = n := by omega
        subst e
        unfold p_X5_hemsBeginAs_L12
        exact br_t (nI_le (Nat.le_refl _) (by omega)) (g1 (al_iff.mpr ha))
      | succ r ih =>
        intro y hy ha
        unfold p_X5_hemsBeginAs_L12
        rw [nI_1]
        refine br_f (nI_ge (by omega) (by omega)) ⟨25, rfl, rfl, e_hemOf isD25 hv hb hi (by omega) ⟨1, rfl, rfl, s_cell R1 rfl hk hn e1 rfl (show y < n by omega) ?_⟩⟩
        rw [show 1 + 3 + k = 4 + k by omega]
        by_cases d : nI (hO (rp F q N).2 i y) = gR X (4 + k) y
        · refine br_t d (ih (y + 1) (by omega) (fun j hj => ?_))
          by_cases e : j = y
          · subst e; unfold wyB; simpa using d
          · exact ha j (by omega)
        · refine br_f d (g2 ?_)
          cases c : whB (rp F q N).2 X k n i with
          | false => rfl
          | true =>
            have := al_iff.mp c y (by omega)
            unfold wyB at this
            exact absurd (by simpa using this) d
    refine ⟨n + 1, key (fun c => br_f (by decide) ?_) (fun c => br_t rfl ?_) n 0 (by omega) (fun j h => absurd h (Nat.not_lt_zero j))⟩
    · rw [c, if_pos rfl] at hx; exact hx
    · rw [c, if_neg (by decide), Nat.add_zero] at hx; exact hx
end PRS
