/-! the model, by the same numbers -/
theorem m_in {x : Int32} {k i N : Nat} (hx : x = nI i) (hN : lM k = N) (hi : i < N) (hN2 : N < 5000) : vp_in x (lM k) := by
  rw [hx, hN]
  exact vp_in_nI hi (by omega)
theorem m_cl {i : Nat} (hi : i < 100000) : (nI i).toNatClampNeg = i := nI_clamp (by omega)
/-- where the model keeps what the class keeps in its array c -/
def mno (c : Nat) : Nat := ([19, 12, 17, 13, 18, 20, 22, 23] : List Nat).getD c 0
/-- the state as it is now (its log aside) -/
def VM (s : Sg) (n : Nat → Nat) (a : Nat → Nat → Nat) : Prop := gI s 0 20 = nI (n 0) ∧ gI s 0 30 = nI (n 1) ∧ gI s 0 31 = nI (n 2) ∧ (∀ c, c < 8 → ∀ i, rng n c i → gR s (mno c) i = nI (a c i)) ∧ ∀ i y, i < n 0 → y < n 2 → gR s 21 (y * 6 + i) = nI (hO a i y)
theorem m_hemBy {kd w t u y : Nat} {s : Sg} {Q : Int32 → Sg → Prop} (hkd : kd ≤ 5) (hw : w < 1000) (ht : t < 1000) (hu : u < 1000) (hy : y < 1000) (h : Q (nI (hemN kd t u w y)) s) : p_X6_hemBy (nI kd) (nI t) (nI u) (nI w) (nI y) s Q := by
  have less : ∀ (p q : Nat) (R : Int32 → Sg → Prop), p < 2000 → q < 2000 → R (nI (min p q)) s → p_X6_less (nI p) (nI q) s R := fun p q R hp hq hR => by
    unfold p_X6_less
    by_cases z : q ≤ p
    · rw [Nat.min_eq_right z] at hR
      exact br_t (nI_le z (by omega)) hR
    · rw [Nat.min_eq_left (by omega)] at hR
      exact br_f (nI_ge (by omega) (by omega)) hR
  unfold p_X6_hemBy
  refine less w t _ (by omega) (by omega) ?_
  generalize hp : min w t = p at h ⊢
  have key : ∀ b : Nat, b = max 2 p → p_X6_hemBy_b19 Q (nI kd) (nI t) (nI u) (nI y) (nI p) (nI b) s := by
    intro b hb
    have key2 : ∀ l : Nat, l = p - u → p_X6_hemBy_b35 Q (nI kd) (nI t) (nI y) (nI p) (nI b) (nI l) s := by
      intro l hl
      have hdv : nI t / 2 = nI (t / 2) := pk_div (d := 2) (by omega) (by omega) (by omega)
      have hrm : nI y - nI y / 2 * 2 = nI (y % 2) := pk_rem (d := 2) (by omega) (by omega) (by omega)
      unfold hemN at h
      rw [hp] at h
      unfold p_X6_hemBy_b35
      rw [hdv, hrm]
      rcases (show kd = 0 ∨ kd = 1 ∨ kd = 2 ∨ kd = 3 ∨ kd = 4 ∨ kd = 5 by omega) with rfl | rfl | rfl | rfl | rfl | rfl
      · exact br_f (by decide) (br_f (by decide) (br_f (by decide) (br_f (by decide) (br_f (by decide) h))))
      · exact br_t (by decide) (by rw [hb]; exact h)
      · exact br_f (by decide) (br_t (by decide) (by rw [hl]; exact h))
      · exact br_f (by decide) (br_f (by decide) (br_t (by decide) (less p (t / 2) _ (by omega) (by omega) h)))
      · refine br_f (by decide) (br_f (by decide) (br_f (by decide) (br_t (by decide) ?_)))
        rw [nI_1, hb]
        exact h
      · refine br_f (by decide) (br_f (by decide) (br_f (by decide) (br_f (by decide) (br_t (by decide) ?_))))
        by_cases h2 : y % 2 = 0
        · rw [h2] at h ⊢
          exact br_t rfl h
        · rw [show y % 2 = 1 by omega] at h ⊢
          refine br_f (by decide) ?_
          rw [hl]
          exact h
    unfold p_X6_hemBy_b19
    by_cases z : u ≤ p
    · refine br_t (nI_le z (by omega)) ?_
      rw [pk_sub z]
      exact key2 (p - u) rfl
    · exact br_f (nI_ge (by omega) (by omega)) (key2 0 (by omega))
  by_cases z : 2 ≤ p
  · exact br_t (nI_le (a := 2) z (by omega)) (key p (by omega))
  · exact br_f (nI_ge (b := 2) (by omega) (by omega)) (key 2 (by omega))
section MDL
variable {s : Sg} {n : Nat → Nat} {a : Nat → Nat → Nat} {Q : Int32 → Sg → Prop}
theorem m_wet {f g : Nat} (hf : f < 1000) (hg : g < 1000) (h : Q (nI (f - g)) s) : p_X6_wet (nI f) (nI g) s Q := by
  unfold p_X6_wet
  by_cases z : f ≤ g
  · rw [show f - g = 0 by omega] at h
    exact br_t (nI_le z (by omega)) h
  · refine br_f (nI_ge (by omega) (by omega)) ?_
    rw [pk_sub (by omega)]
    exact h
/-- a number between two -/
theorem m_in01 {x lo hi : Int32} (h1 : x < lo → Q 0 s) (h2 : ¬ x < lo → hi < x → Q 0 s) (h3 : ¬ x < lo → ¬ hi < x → Q 1 s) : p_X6_in x lo hi s Q := ⟨h1, fun q => ⟨h2 q, h3 q⟩⟩
theorem m_hemNow (hv : VM s n a) (hb : BV n a) {i f kd : Nat} (hi : i < n 0) (hf : f < 900) (hk : kd ≤ 5) (h : Q (nI (hN n a i f kd)) s) : p_X6_hemNow 0 (nI kd) (nI i) (nI f) s Q := by
  obtain ⟨b0, b1, b2, b4, b5, b6, b7⟩ := hb
  obtain ⟨c1, c2, c3, c4, c5⟩ := b5 i hi
  obtain ⟨v0, v1, v2, v4, v5⟩ := hv
  have e3 : gR s 13 i = nI (a 3 i) := v4 3 (by decide) i hi
  have e4 : gR s 18 i = nI (a 4 i) := v4 4 (by decide) i hi
  have e2 : gR s 17 i = nI (a 2 i) := v4 2 (by decide) i hi
  have e0 : gR s 19 (a 2 i) = nI (a 0 (a 2 i)) := v4 0 (by decide) _ (show a 2 i < 6 by omega)
  have h9 := b4 (a 2 i) (by omega)
  unfold p_X6_hemNow
  rw [m_cl (show i < 100000 by omega)]
  refine ⟨13, rfl, rfl, m_in (N := 6) rfl rfl (by omega) (by decide), 18, rfl, rfl, m_in (N := 6) rfl rfl (by omega) (by decide), 17, rfl, rfl, m_in (N := 6) rfl rfl (by omega) (by decide), 19, rfl, rfl, m_in (N := 6) e2 rfl (by omega) (by decide), ?_⟩
  rw [e2, m_cl (show a 2 i < 100000 by omega), e0, e3, e4]
  refine m_wet (by omega) (by omega) ?_
  rw [v2]
  exact m_hemBy hk (by omega) (by omega) (by omega) (by omega) h
theorem m_hemThen (hv : VM s n a) (hb : BV n a) {i y f kd : Nat} (hi : i < n 0) (hy : y < n 2) (hf : f < 900) (hk : kd ≤ 5) (h : Q (nI (hT a i y f kd)) s) : p_X6_hemThen 0 (nI kd) (nI i) (nI y) (nI f) s Q := by
  obtain ⟨b0, b1, b2, b4, b5, b6, b7⟩ := hb
  obtain ⟨c1, c2, c3, c4, c5⟩ := b5 i hi
  obtain ⟨g1, g2⟩ := b7 i y hi hy
  obtain ⟨v0, v1, v2, v4, v5⟩ := hv
  have e3 : gR s 13 i = nI (a 3 i) := v4 3 (by decide) i hi
  have e7 : gR s 23 (y * 6 + i) = nI (a 7 (y * 6 + i)) := v4 7 (by decide) _ (rng6 b0 hi hy)
  have e6 : gR s 22 (y * 6 + i) = nI (a 6 (y * 6 + i)) := v4 6 (by decide) _ (rng6 b0 hi hy)
  have ex : 6 * nI y + nI i = nI (y * 6 + i) := by rw [show (6 : Int32) = nI 6 from rfl, pk_mul, nI_add, Nat.mul_comm]
  unfold p_X6_hemThen
  rw [ex, m_cl (show i < 100000 by omega), m_cl (show y * 6 + i < 100000 by omega)]
  refine ⟨13, rfl, rfl, m_in (N := 6) rfl rfl (by omega) (by decide), 23, rfl, rfl, m_in (N := 48) rfl rfl (by omega) (by decide), 22, rfl, rfl, m_in (N := 48) rfl rfl (by omega) (by decide), ?_⟩
  rw [e3, e7, e6]
  refine m_wet (by omega) (by omega) ?_
  exact m_hemBy hk (by omega) (by omega) (by omega) (by omega) h
theorem m_manyWet (hv : VM s n a) (hb : BV n a) {f : Nat} (hf : f < 900) (h : Q (nI (wetC n a f)) s) : p_X6_manyWet 0 (nI f) s Q := by
  obtain ⟨b0, b1, b2, b4, b5, b6, b7⟩ := hb
  obtain ⟨v0, v1, v2, v4, v5⟩ := hv
  unfold p_X6_manyWet
  refine ⟨n 0 + 1, ?_⟩
  refine lp_up (fun m i x => p_X6_manyWet_L4 Q m 0 (nI f) (nI x) (nI i) s) (fun _ _ => True) (n 0) (fun i x => x + if 0 < f - a 0 (a 2 i) then 1 else 0) (fun x => Q (nI x) s) (fun m x _ hx => ?_) (fun m i x hi _ hx => ?_) (fun _ _ _ _ => trivial) (n 0) 0 0 (by omega) trivial h
  · unfold p_X6_manyWet_L4
    rw [v0]
    exact br_t (nI_le (Nat.le_refl _) (by omega)) hx
  · obtain ⟨c1, c2, c3, c4, c5⟩ := b5 i hi
    have e2 : gR s 17 i = nI (a 2 i) := v4 2 (by decide) i hi
    have e0 : gR s 19 (a 2 i) = nI (a 0 (a 2 i)) := v4 0 (by decide) _ (show a 2 i < 6 by omega)
    have h9 := b4 (a 2 i) (by omega)
    unfold p_X6_manyWet_L4
    rw [v0, m_cl (show i < 100000 by omega)]
    refine br_f (lt_w b0 hi) ⟨17, rfl, rfl, m_in (N := 6) rfl rfl (by omega) (by decide), 19, rfl, rfl, m_in (N := 6) e2 rfl (by omega) (by decide), ?_⟩
    rw [e2, m_cl (show a 2 i < 100000 by omega), e0]
    refine m_wet (by omega) (by omega) ?_
    unfold p_X6_manyWet_b36
    by_cases hz : 0 < f - a 0 (a 2 i)
    · rw [if_pos hz] at hx
      refine br_f (nI_nle hz (by omega)) ?_
      rw [nI_1, nI_1]
      exact hx
    · rw [if_neg hz] at hx
      rw [show f - a 0 (a 2 i) = 0 by omega]
      refine br_t (by decide) ?_
      rw [nI_1, show (0 : Int32) = nI 0 from rfl, nI_add]
      exact hx
theorem m_greatH (hv : VM s n a) (hb : BV n a) {i : Nat} (hi : i < n 0) (h : Q (nI (greatH n a i)) s) : ∃ m, p_X6_ofWoman_L74 Q m 0 (nI i) 0 0 s := by
  obtain ⟨b0, b1, b2, b4, b5, b6, b7⟩ := hb
  obtain ⟨v0, v1, v2, v4, v5⟩ := hv
  refine ⟨n 2 + 1, ?_⟩
  refine lp_up (fun m y x => p_X6_ofWoman_L74 Q m 0 (nI i) (nI x) (nI y) s) (fun _ x => x ≤ 10) (n 2) (fun y x => max x (hO a i y)) (fun x => Q (nI x) s) (fun m x _ hx => ?_) (fun m y x hy hx0 hx => ?_) (fun y x hy hx => ?_) (n 2) 0 0 (by omega) (by omega) h
  · unfold p_X6_ofWoman_L74
    rw [v2]
    exact br_t (nI_le (Nat.le_refl _) (by omega)) hx
  · have ex : 6 * nI y + nI i = nI (y * 6 + i) := by rw [show (6 : Int32) = nI 6 from rfl, pk_mul, nI_add, Nat.mul_comm]
    have hle : hO a i y ≤ 10 := hemN_le (b5 i hi).2.2.2.1
    unfold p_X6_ofWoman_L74
    rw [v2, ex, m_cl (show y * 6 + i < 100000 by omega)]
    refine br_f (nI_ge hy (by omega)) ⟨21, rfl, rfl, m_in (N := 48) rfl rfl (by omega) (by decide), ?_⟩
    rw [v5 i y hi hy]
    unfold p_X6_ofWoman_b115
    by_cases z : hO a i y ≤ x
    · rw [Nat.max_eq_left z] at hx
      refine br_t (nI_le z (by omega)) ?_
      rw [nI_1]
      exact hx
    · rw [Nat.max_eq_right (by omega)] at hx
      refine br_f (nI_ge (by omega) (by omega)) ⟨21, rfl, rfl, m_in (N := 48) rfl rfl (by omega) (by decide), ?_⟩
      rw [v5 i y hi hy, nI_1]
      exact hx
  · have : hO a i y ≤ 10 := hemN_le (b5 i hi).2.2.2.1
    omega
end MDL
