/-! what one asks of women, of the land; chances -/
theorem m_less {p q : Nat} {s : Sg} {Q : Int32 → Sg → Prop} {x y : Int32} (hx : x = nI p) (hy : y = nI q) (hp : p < 100000) (hq : q < 100000) (h : Q (nI (min p q)) s) : p_X6_less x y s Q := by
  subst hx hy
  unfold p_X6_less
  by_cases z : q ≤ p
  · rw [Nat.min_eq_right z] at h
    exact br_t (nI_le z (by omega)) h
  · rw [Nat.min_eq_left (by omega)] at h
    exact br_f (nI_ge (by omega) (by omega)) h
/-- the facts of a woman -/
def owN (n : Nat → Nat) (a : Nat → Nat → Nat) (i w : Nat) : Nat := if w = 0 then a 1 i else if w = 1 then a 2 i else if w = 2 then a 3 i else if w = 3 then a 4 i else if w = 4 then n 2 else greatH n a i
theorem x_fact {X : Sg} {n : Nat → Nat} {a : Nat → Nat → Nat} {Q : Int32 → Sg → Prop} (hv : VD X 25 n a) (hb : BV n a) {i w : Nat} (hi : i < n 0) (hw : w < 1000) (h : Q (nI (owN n a i w)) X) : p_X5_womanFact 0 (nI i) (nI w) X Q := by
  have b0 := hb.1
  unfold p_X5_womanFact
  unfold owN at h
  refine br_eq (b := 0) rfl rfl (by omega) (by decide) (fun z => ⟨25, rfl, rfl, d_item isD25 1 (by decide) rfl (show i < 6 by omega) ?_⟩) (fun z => ?_)
  · rw [if_pos z] at h; rw [hv.2 1 (by decide) i hi]; exact h
  rw [if_neg z] at h
  refine br_eq (b := 1) rfl rfl (by omega) (by decide) (fun z => ⟨25, rfl, rfl, d_item isD25 2 (by decide) rfl (show i < 6 by omega) ?_⟩) (fun z => ?_)
  · rw [if_pos z] at h; rw [hv.2 2 (by decide) i hi]; exact h
  rw [if_neg z] at h
  refine br_eq (b := 2) rfl rfl (by omega) (by decide) (fun z => ⟨25, rfl, rfl, d_item isD25 3 (by decide) rfl (show i < 6 by omega) ?_⟩) (fun z => ?_)
  · rw [if_pos z] at h; rw [hv.2 3 (by decide) i hi]; exact h
  rw [if_neg z] at h
  refine br_eq (b := 3) rfl rfl (by omega) (by decide) (fun z => ⟨25, rfl, rfl, d_item isD25 4 (by decide) rfl (show i < 6 by omega) ?_⟩) (fun z => ?_)
  · rw [if_pos z] at h; rw [hv.2 4 (by decide) i hi]; exact h
  rw [if_neg z] at h
  refine br_eq (b := 4) rfl rfl (by omega) (by decide) (fun z => ⟨25, rfl, rfl, ?_⟩) (fun z => ⟨25, rfl, rfl, ?_⟩)
  · rw [if_pos z] at h; rw [hv.1 2 (by decide)]; exact h
  · rw [if_neg z] at h; exact e_greatestHemOf isD25 hv hb hi h
theorem m_fact {M : Sg} {n : Nat → Nat} {a : Nat → Nat → Nat} {Q : Int32 → Sg → Prop} (hv : VM M n a) (hb : BV n a) {i w : Nat} (hi : i < n 0) (hw : w < 1000) (h : Q (nI (owN n a i w)) M) : p_X6_ofWoman 0 (nI i) (nI w) M Q := by
  have b0 := hb.1
  have v4 := hv.2.2.2.1
  have ii : vp_in (nI i) 6 := vp_in_nI (by omega) (by decide)
  unfold p_X6_ofWoman
  unfold owN at h
  rw [m_cl (show i < 100000 by omega)]
  refine br_eq (b := 0) rfl rfl (by omega) (by decide) (fun z => ⟨12, rfl, rfl, ii, ?_⟩) (fun z => ?_)
  · rw [if_pos z] at h; have e : gR M 12 i = _ := v4 1 (by decide) i hi; rw [e]; exact h
  rw [if_neg z] at h
  refine br_eq (b := 1) rfl rfl (by omega) (by decide) (fun z => ⟨17, rfl, rfl, ii, ?_⟩) (fun z => ?_)
  · rw [if_pos z] at h; have e : gR M 17 i = _ := v4 2 (by decide) i hi; rw [e]; exact h
  rw [if_neg z] at h
  refine br_eq (b := 2) rfl rfl (by omega) (by decide) (fun z => ⟨13, rfl, rfl, ii, ?_⟩) (fun z => ?_)
  · rw [if_pos z] at h; have e : gR M 13 i = _ := v4 3 (by decide) i hi; rw [e]; exact h
  rw [if_neg z] at h
  refine br_eq (b := 3) rfl rfl (by omega) (by decide) (fun z => ⟨18, rfl, rfl, ii, ?_⟩) (fun z => ?_)
  · rw [if_pos z] at h; have e : gR M 18 i = _ := v4 4 (by decide) i hi; rw [e]; exact h
  rw [if_neg z] at h
  refine br_eq (b := 4) rfl rfl (by omega) (by decide) (fun z => ?_) (fun z => ?_)
  · rw [if_pos z] at h; rw [hv.2.2.1]; exact h
  · rw [if_neg z] at h; exact m_greatH hv hb hi h
/-- the mark of one hem that is so much more -/
def mkV (kd : Nat) (d : Int32) : Int32 := if kd = 1 then (if d < 2 then 0 else 1) else if kd = 2 then -d else if kd = 3 then (if 0 ≤ d then 0 else 1) else d
theorem x_markOf {kd : Nat} {d : Int32} {s : Sg} {Q : Int32 → Sg → Prop} (h1 : 1 ≤ kd) (h4 : kd ≤ 4) (h : Q (mkV kd d) s) : p_X2_markOf (nI kd) d s Q := by
  unfold p_X2_markOf
  unfold mkV at h
  rcases (show kd = 1 ∨ kd = 2 ∨ kd = 3 ∨ kd = 4 by omega) with rfl | rfl | rfl | rfl
  · refine br_t (by decide) ?_
    rw [if_pos rfl] at h
    by_cases c : d < 2
    · rw [if_pos c] at h; exact br_t c h
    · rw [if_neg c] at h; exact br_f c h
  · exact br_f (by decide) (br_t (by decide) h)
  · refine br_f (by decide) (br_f (by decide) (br_t (by decide) ?_))
    rw [if_neg (by decide), if_neg (by decide), if_pos rfl] at h
    by_cases c : 0 ≤ d
    · rw [if_pos c] at h; exact br_t c h
    · rw [if_neg c] at h; exact br_f c h
  · exact br_f (by decide) (br_f (by decide) (br_f (by decide) (br_t (by decide) h)))
theorem m_isOf {kd of : Nat} {s : Sg} {Q : Int32 → Sg → Prop} (hk : kd ≤ 5) (h1 : 1 ≤ of) (ho : of ≤ 5) (h : Q (if isOfN kd of then 1 else 0) s) : p_X6_isOf (nI kd) (nI of) s Q := by
  unfold p_X6_isOf p_X6_isOf_b15 p_X6_isOf_b25
  rcases (show kd = 0 ∨ kd = 1 ∨ kd = 2 ∨ kd = 3 ∨ kd = 4 ∨ kd = 5 by omega) with rfl | rfl | rfl | rfl | rfl | rfl <;>
    rcases (show of = 1 ∨ of = 2 ∨ of = 3 ∨ of = 4 ∨ of = 5 by omega) with rfl | rfl | rfl | rfl | rfl <;>
    (repeat' first | exact h | refine br_t (by decide) ?_ | refine br_f (by decide) ?_)
def markS (n : Nat → Nat) (a : Nat → Nat → Nat) (i kd : Nat) : Int32 := itr (fun y (x : Int32) => x + mkV kd (nI (hO a i y) - nI (hT a i y (a 5 y) 0))) 0 (n 2) 0
theorem x_mark {X : Sg} {n : Nat → Nat} {a : Nat → Nat → Nat} {Q : Int32 → Sg → Prop} (hv : VD X 25 n a) (hb : BV n a) {i kd : Nat} (hi : i < n 0) (h1 : 1 ≤ kd) (h4 : kd ≤ 4) (h : Q (markS n a i kd) X) : ∃ f, p_X5_mark_L64 Q f 0 (nI i) (nI kd) 0 0 X := by
  refine ⟨n 2 + 1, ?_⟩
  have b2 := hb.2.2.1
  refine lp_up (fun f y x => p_X5_mark_L64 Q f 0 (nI i) (nI kd) x (nI y) X) (fun _ _ => True) (n 2) (fun y (x : Int32) => x + mkV kd (nI (hO a i y) - nI (hT a i y (a 5 y) 0))) (fun x => Q x X) (fun f x _ hx => ?_) (fun f y x hy _ hx => ?_) (fun _ _ _ _ => trivial) (n 2) 0 0 (by omega) trivial h
  · unfold p_X5_mark_L64
    refine ⟨25, rfl, rfl, br_t ?_ hx⟩
    rw [hv.1 2 (by decide)]; exact nI_le (Nat.le_refl _) (by omega)
  · unfold p_X5_mark_L64
    refine ⟨25, rfl, rfl, br_f ?_ ⟨25, rfl, rfl, e_hemOf isD25 hv hb hi hy ⟨25, rfl, rfl, e_plainHemOf isD25 hv hb hi hy (x_markOf h1 h4 ?_)⟩⟩⟩
    · rw [hv.1 2 (by decide)]; exact nI_ge hy (by omega)
    · rw [nI_1]; exact hx
theorem m_mark {M : Sg} {n : Nat → Nat} {a : Nat → Nat → Nat} {Q : Int32 → Sg → Prop} (hv : VM M n a) (hb : BV n a) {i kd : Nat} (hi : i < n 0) (h1 : 1 ≤ kd) (h4 : kd ≤ 4) (h : Q (markS n a i kd) M) : ∃ f, p_X6_mark_L55 Q f 0 (nI i) (nI kd) 0 0 M := by
  refine ⟨n 2 + 1, ?_⟩
  have b0 := hb.1
  have b2 := hb.2.2.1
  refine lp_up (fun f y x => p_X6_mark_L55 Q f 0 (nI i) (nI kd) x (nI y) M) (fun _ _ => True) (n 2) (fun y (x : Int32) => x + mkV kd (nI (hO a i y) - nI (hT a i y (a 5 y) 0))) (fun x => Q x M) (fun f x _ hx => ?_) (fun f y x hy _ hx => ?_) (fun _ _ _ _ => trivial) (n 2) 0 0 (by omega) trivial h
  · unfold p_X6_mark_L55
    rw [hv.2.2.1]
    exact br_t (nI_le (Nat.le_refl _) (by omega)) hx
  · have e5 : gR M 20 y = nI (a 5 y) := hv.2.2.2.1 5 (by decide) y hy
    have b6 := hb.2.2.2.2.2.1 y hy
    unfold p_X6_mark_L55
    rw [hv.2.2.1, ex6, m_cl (show y * 6 + i < 100000 by omega), m_cl (show y < 100000 by omega)]
    refine br_f (nI_ge hy (by omega)) ⟨21, rfl, rfl, m_in (N := 48) rfl rfl (by omega) (by decide), 20, rfl, rfl, m_in (N := 8) rfl rfl (by omega) (by decide), ?_⟩
    rw [e5, hv.2.2.2.2 i y hi hy]
    refine m_hemThen (kd := 0) hv hb hi hy (by omega) (by omega) ?_
    unfold p_X6_mark_b145
    simp only []
    generalize nI (hO a i y) - nI (hT a i y (a 5 y) 0) = d at hx ⊢
    unfold mkV at hx
    rw [nI_1]
    rcases (show kd = 1 ∨ kd = 2 ∨ kd = 3 ∨ kd = 4 by omega) with rfl | rfl | rfl | rfl
    · refine br_t (by decide) ?_
      rw [if_pos rfl] at hx
      by_cases c : d < 2
      · rw [if_pos c] at hx; exact br_t c hx
      · rw [if_neg c] at hx; exact br_f c hx
    · exact br_f (by decide) (br_t (by decide) hx)
    · refine br_f (by decide) (br_f (by decide) (br_t (by decide) ?_))
      rw [if_neg (by decide), if_neg (by decide), if_pos rfl] at hx
      by_cases c : 0 ≤ d
      · rw [if_pos c] at hx; exact br_t c hx
      · rw [if_neg c] at hx; exact br_f c hx
    · exact br_f (by decide) (br_f (by decide) (br_f (by decide) hx))
/-- the greatest divisor, on both sides -/
theorem x_gd {up low : Nat} {s : Sg} {Q : Int32 → Sg → Prop} (hu : up < 100000) (h0 : 0 < low) (hl : low < 100000) (h : Q (nI (Nat.gcd up low)) s) : p_X5_greatestDivisor (nI up) (nI low) s Q := by
  unfold p_X5_greatestDivisor
  refine ⟨low + 1, ?_⟩
  have hg0 : 0 < Nat.gcd up low := Nat.gcd_pos_of_pos_right up h0
  have key : ∀ d, 1 ≤ d → d ≤ low → Nat.gcd up low ≤ d → p_X5_greatestDivisor_L2 Q (d + 1) (nI up) (nI low) (nI d) s := by
    intro d
    induction d with
    | zero => intro h1; omega
    | succ d ih =>
      intro h1 h2 h3
      unfold p_X5_greatestDivisor_L2 p_X5_greatestDivisor_b21
      refine br_le (b := 1) rfl rfl (by omega) (by decide) (fun z => ?_) (fun z => ?_)
      · have e : Nat.gcd up low = 1 := by omega
        rw [e] at h
        exact h
      · have nz : ¬ nI (d + 1) = 0 := nI_ne0 (by omega) (by omega)
        have next : (¬ (up % (d + 1) = 0 ∧ low % (d + 1) = 0)) → p_X5_greatestDivisor_L2 Q (d + 1) (nI up) (nI low) (nI (d + 1) + (-1)) s := fun hn => by
          rw [pk_m1]
          refine ih (by omega) (by omega) ?_
          by_cases e : Nat.gcd up low = d + 1
          · exact absurd ⟨Nat.mod_eq_zero_of_dvd (e ▸ Nat.gcd_dvd_left up low), Nat.mod_eq_zero_of_dvd (e ▸ Nat.gcd_dvd_right up low)⟩ hn
          · omega
        rw [pk_rem (by omega) (by omega) (by omega), pk_rem (by omega) (by omega) (by omega)]
        refine ⟨nz, br_eq (b := 0) rfl rfl (by have := Nat.mod_lt up (show 0 < d + 1 by omega); omega) (by decide) (fun c1 => ⟨nz, br_eq (b := 0) rfl rfl (by have := Nat.mod_lt low (show 0 < d + 1 by omega); omega) (by decide) (fun c2 => ?_) (fun c2 => next (fun q => c2 q.2))⟩) (fun c1 => next (fun q => c1 q.1))⟩
        have := Nat.le_of_dvd hg0 (Nat.dvd_gcd (Nat.dvd_of_mod_eq_zero c1) (Nat.dvd_of_mod_eq_zero c2))
        have e : Nat.gcd up low = d + 1 := by omega
        rw [e] at h
        exact h
  exact key low h0 (Nat.le_refl _) (Nat.le_of_dvd h0 (Nat.gcd_dvd_right up low))
def toldP (X : Sg) (k i j up low : Nat) : Sg := setJ (setJ X k i (lN (up / Nat.gcd up low))) k j (lN (low / Nat.gcd up low))
theorem x_tell {up low : Nat} {s : Sg} {Q : Sg → Prop} (hu : up < 100000) (h0 : 0 < low) (hl : low < 100000) (h : Q (toldP s 0 10 11 up low)) : p_X5_tellParts 0 (nI up) (nI low) s Q := by
  unfold p_X5_tellParts
  have hg0 : 0 < Nat.gcd up low := Nat.gcd_pos_of_pos_right up h0
  have hg1 : Nat.gcd up low ≤ low := Nat.le_of_dvd h0 (Nat.gcd_dvd_right up low)
  refine x_gd hu h0 hl (br_f (nI_nle hg0 (by omega)) ⟨nI_ne0 hg0 (by omega), nI_ne0 hg0 (by omega), ?_⟩)
  have d1 := Nat.div_le_self up (Nat.gcd up low)
  have d2 := Nat.div_le_self low (Nat.gcd up low)
  rw [pk_div (by omega) hg0 (by omega), pk_div (by omega) hg0 (by omega), nI_l (by omega), nI_l (by omega)]
  exact h
theorem m_tell {up low : Nat} {s : Sg} {Q : Sg → Prop} {x y : Int64} (hx : x = lN up) (hy : y = lN low) (hu : up < 100000) (h0 : 0 < low) (hl : low < 100000) (h : Q (toldP s 0 1 2 up low)) : p_X6_tellPart 0 x y s Q := by
  subst hx hy
  unfold p_X6_tellPart
  have hg0 : 0 < Nat.gcd up low := Nat.gcd_pos_of_pos_right up h0
  have key : ∀ N m n, n < N → m < 100000 → n < 100000 → Nat.gcd m n = Nat.gcd up low → p_X6_tellPart_L6 Q (N + 1) 0 (lN up) (lN low) (lN m) (lN n) s := by
    intro N
    induction N with
    | zero => intro m n h1; exact absurd h1 (Nat.not_lt_zero n)
    | succ N ih =>
      intro m n h1 h2 h3 h4
      unfold p_X6_tellPart_L6
      by_cases z : n = 0
      · subst z
        rw [Nat.gcd_zero_right] at h4
        subst h4
        have nz : ¬ lN (Nat.gcd up low) = 0 := fun q => by
          have := (lN_eq (a := Nat.gcd up low) (b := 0) (by omega) (by decide)).mp q
          omega
        refine br_t ((lg_cmp_eq _ _).mpr rfl) ⟨nz, nz, ?_⟩
        rw [pk_lDiv (by omega) hg0 (by omega), pk_lDiv (by omega) hg0 (by omega)]
        exact h
      · have nz : ¬ lN n = 0 := fun q => z ((lN_eq (a := n) (b := 0) (by omega) (by decide)).mp q)
        refine br_f (fun q => nz ((lg_cmp_eq _ _).mp q)) ⟨nz, ?_⟩
        rw [pk_lRem (by omega) (by omega) (by omega)]
        have hm := Nat.mod_lt m (show 0 < n by omega)
        exact ih n (m % n) (by omega) h3 (by omega) (by rw [Nat.gcd_comm n (m % n), ← Nat.gcd_rec n m, Nat.gcd_comm n m]; exact h4)
  exact ⟨low + 2, key (low + 1) up low (by omega) hu hl rfl⟩
theorem Inv_toldP {X M : Sg} (hI : Inv X M) (up low : Nat) : Inv (toldP X 0 10 11 up low) (toldP M 0 1 2 up low) := by
  obtain ⟨h1, h2, h3, h4, h5, h6⟩ := hI
  unfold toldP
  refine ⟨IF_s h1 ⟨rfl, rfl⟩ ⟨rfl, rfl⟩, ⟨h2.1, ?_, ?_⟩, IS1_s h3 (fun _ _ _ => rfl) (fun _ _ _ => rfl), IS2_s h4 (fun _ _ _ => rfl) (fun _ _ _ => rfl), IB_s h5 (fun _ _ _ => rfl), ID_s h6 ⟨fun _ _ => rfl, fun _ _ _ => rfl⟩ ⟨fun _ _ _ => rfl, rfl, rfl, rfl, rfl, rfl⟩⟩
  · simp [gJ_if]
  · simp [gJ_if]
/-- a row of the model that is only thought on -/
theorem Inv_more {X M : Sg} (hI : Inv X M) {k : Nat} (f : Nat → Int32) (hk : 26 < k) : Inv X (setR M k f) := by
  obtain ⟨h1, h2, h3, h4, h5, h6⟩ := hI
  exact ⟨IF_s h1 ⟨rfl, rfl⟩ ⟨rfl, gR_ne _ _ (by omega)⟩, IT_s h2 ⟨rfl, rfl, rfl⟩ ⟨rfl, rfl, rfl⟩, IS1_s h3 (fun _ _ _ => rfl) (fun _ _ _ => gR_ne _ _ (by omega)), IS2_s h4 (fun _ _ _ => rfl) (fun _ _ _ => gR_ne _ _ (by omega)), IB_s h5 (fun _ _ _ => rfl), ID_s h6 ⟨fun _ _ => rfl, fun _ _ _ => rfl⟩ ⟨fun _ _ _ => gR_ne _ _ (by omega), rfl, rfl, rfl, rfl, rfl⟩⟩
theorem VM_more {M : Sg} {n : Nat → Nat} {a : Nat → Nat → Nat} (hv : VM M n a) {k : Nat} (f : Nat → Int32) (hk : 26 < k) : VM (setR M k f) n a := by
  obtain ⟨v0, v1, v2, v4, v5⟩ := hv
  refine ⟨v0, v1, v2, fun c hc i hi => ?_, fun i y hi hy => ?_⟩
  · rw [gR_ne _ _ (by have := mno_rg c hc; omega)]; exact v4 c hc i hi
  · rw [gR_ne _ _ (by omega)]; exact v5 i y hi hy
