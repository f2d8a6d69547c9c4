/-! the calls that ask of women and land -/
def wetP (n : Nat → Nat) (a : Nat → Nat → Nat) (mo : Nat → Nat) (f pl : Nat) : Nat := itr (fun i x => x + if pl.testBit (a 2 i) then f - (a 0 (a 2 i) + mo (a 2 i)) else 0) 0 (n 0) 0
theorem m_wetAll {M : Sg} {n : Nat → Nat} {a : Nat → Nat → Nat} {mo : Nat → Nat} {Q : Int32 → Sg → Prop} (hv : VM M n a) (hb : BV n a) (hm : ∀ p, p < 6 → gR M 27 p = nI (mo p) ∧ mo p ≤ 100) {f pl : Nat} {x y : Int32} (hx : x = nI f) (hy : y = nI pl) (hf : f < 500) (hpl : pl < 2 ^ 31) (h : Q (nI (wetP n a mo f pl)) M) : p_X6_wetAll 0 x y M Q := by
  subst hx hy
  have b0 := hb.1
  have v4 := hv.2.2.2.1
  unfold p_X6_wetAll
  refine ⟨n 0 + 1, ?_⟩
  refine lp_up (fun m i x => p_X6_wetAll_L5 Q m 0 (nI f) (nI pl) (nI x) (nI i) M) (fun _ _ => True) (n 0) (fun i x => x + if pl.testBit (a 2 i) then f - (a 0 (a 2 i) + mo (a 2 i)) else 0) (fun x => Q (nI x) M) (fun m x _ hx => ?_) (fun m i x hi _ hx => ?_) (fun _ _ _ _ => trivial) (n 0) 0 0 (by omega) trivial h
  · unfold p_X6_wetAll_L5
    rw [hv.1]
    exact br_t (nI_le (Nat.le_refl _) (by omega)) hx
  · obtain ⟨c1, c2, c3, c4, c5⟩ := hb.2.2.2.2.1 i hi
    have e2 : gR M 17 i = nI (a 2 i) := v4 2 (by decide) i hi
    have e0 : gR M 19 (a 2 i) = nI (a 0 (a 2 i)) := v4 0 (by decide) _ (show a 2 i < 6 by omega)
    have h9 := hb.2.2.2.1 (a 2 i) (by omega)
    obtain ⟨m1, m2⟩ := hm (a 2 i) (by omega)
    have ii : vp_in (nI i) 6 := vp_in_nI (by omega) (by decide)
    unfold p_X6_wetAll_L5 p_X6_wetAll_b63
    rw [hv.1, m_cl (show i < 100000 by omega)]
    refine br_f (lt_w b0 hi) ⟨17, rfl, rfl, ii, ?_⟩
    rw [e2, bit_of hpl (show a 2 i < 31 by omega)]
    by_cases hz : pl.testBit (a 2 i) = true
    · rw [if_pos hz] at hx ⊢
      refine br_t rfl ⟨17, rfl, rfl, ii, 19, rfl, rfl, m_in (N := 6) e2 rfl (by omega) (by decide), 17, rfl, rfl, ii, 27, rfl, rfl, m_in (N := 6) e2 rfl (by omega) (by decide), ?_⟩
      rw [e2, m_cl (show a 2 i < 100000 by omega), e0, m1, nI_add]
      refine m_wet (by omega) (by omega) ?_
      rw [nI_add, nI_1]
      exact hx
    · rw [if_neg hz] at hx ⊢
      refine br_f (by decide) ?_
      rw [nI_1, show (0 : Int32) = nI 0 from rfl, nI_add]
      exact hx
theorem m_noMore {M : Sg} {Q : Sg → Prop} (h : Q (wr M 27 0 (fun _ => 0) 6)) : p_X6_noMore 0 M Q := by
  unfold p_X6_noMore
  refine lp_wr (fun f i s => p_X6_noMore_L2 Q f 0 (nI i) s) M 27 0 6 (fun _ => 0) (fun f => ?_) (fun f i hi h => ?_)
  · unfold p_X6_noMore_L2
    exact br_t (by decide) h
  · unfold p_X6_noMore_L2
    rw [m_cl (show i < 100000 by omega), nI_1]
    refine br_f (nI_ge (b := 6) hi (by decide)) ⟨27, rfl, rfl, m_in (N := 6) rfl rfl hi (by decide), ?_⟩
    have w := wr_step M 27 0 (fun _ => 0) i
    rw [Nat.zero_add] at w
    rw [w]
    exact h
theorem bit63 : ∀ p, p < 6 → (63 : Nat).testBit p = true := by decide
theorem wetP_0 {n : Nat → Nat} {a : Nat → Nat → Nat} (hb : BV n a) (f : Nat) : wetP n a (fun _ => 0) f 63 = wetS n a f := by
  refine itr_cong _ _ _ (fun i x _ hi => ?_)
  have := (hb.2.2.2.2.1 i (by omega)).2.1
  rw [if_pos (bit63 _ (by omega)), Nat.add_zero]
section ASK
variable {X M : Sg}
theorem st_woman (hI : Inv X M) (i w : Int32) : p_X5_woman 0 i w X (fun u X' => p_X6_woman 0 i w M (fun u' M' => Z X' M' u u')) := by
  obtain ⟨F, q, N, hC⟩ := hI.2.2.2.2.2
  obtain ⟨hv, hm, hb, h3, h36⟩ := IC_now hC
  have b0 := hb.1
  unfold p_X5_woman p_X6_woman
  refine x_isWoman hv b0 (fun hi => br_f (by decide) ?_) (fun hi => br_t rfl (m_isWoman hm b0 (fun z => absurd z hi) (fun _ => br_t rfl ⟨rfl, hI⟩)))
  have hi' := hi
  obtain ⟨k, hk, rfl⟩ := hi
  have no : ¬ ok w 6 → p_X6_woman 0 (nI k) w M (fun u' M' => Z X M' (-1) u') := fun hw => by
    unfold p_X6_woman
    exact m_isWoman hm b0 (fun _ => br_f (by decide) (m_in_t (w := 6) (by decide) rfl (fun z => absurd z hw) (fun _ => br_t rfl ⟨rfl, hI⟩))) (fun z => absurd hi' z)
  by_cases hw : ok w 6
  · have hw' := hw
    obtain ⟨j, hj, rfl⟩ := hw
    refine br_f (nI_pos (by omega)) (br_t ((nI_ltI (b := 6) (by omega) (by decide)).mpr hj) (x_fact hv hb hk (by omega) ?_))
    exact m_isWoman hm b0 (fun _ => br_f (by decide) (m_in_t (w := 6) (by decide) rfl (fun _ => br_f (by decide) (m_fact hm hb hk (by omega) ⟨rfl, Inv_told hI rfl⟩)) (fun z => absurd hw' z))) (fun z => absurd hi' z)
  · by_cases c : w < 0
    · exact br_t c (no hw)
    · exact br_f c (br_f (fun q => by
        have := nok hw c
        rw [Int32.le_iff_toInt_le] at this
        rw [Int32.lt_iff_toInt_lt] at q
        have e : (nI 6).toInt = 6 := rfl
        have e2 : (6 : Int32).toInt = 6 := rfl
        omega) (no hw))
theorem st_hem (hI : Inv X M) (i y : Int32) : p_X5_hem 0 i y X (fun u X' => p_X6_hem 0 i y M (fun u' M' => Z X' M' u u')) := by
  obtain ⟨F, q, N, hC⟩ := hI.2.2.2.2.2
  obtain ⟨hv, hm, hb, h3, h36⟩ := IC_now hC
  have b0 := hb.1
  have b2 := hb.2.2.1
  unfold p_X5_hem p_X6_hem
  refine x_isWoman hv b0 (fun hi => br_f (by decide) (x_isPast hv b2 (fun hy => br_f (by decide) ⟨25, rfl, rfl, ?_⟩) (fun hy => br_t rfl ?_))) (fun hi => br_t rfl (m_isWoman hm b0 (fun z => absurd z hi) (fun _ => br_t rfl ⟨rfl, hI⟩)))
  · have hi' := hi
    have hy' := hy
    obtain ⟨k, hk, rfl⟩ := hi
    obtain ⟨t, ht, rfl⟩ := hy
    refine e_hemOf isD25 hv hb hk ht ?_
    refine m_isWoman hm b0 (fun _ => br_f (by decide) (m_isYear hm b2 (fun _ => br_f (by decide) ⟨21, rfl, rfl, ?_, ?_⟩) (fun z => absurd hy' z))) (fun z => absurd hi' z)
    · rw [ex6]; exact m_in (N := 48) rfl rfl (by omega) (by decide)
    · rw [ex6, m_cl (show t * 6 + k < 100000 by omega), hm.2.2.2.2 k t hk ht]
      exact ⟨rfl, hI⟩
  · exact m_isWoman hm b0 (fun _ => br_f (by decide) (m_isYear hm b2 (fun z => absurd z hy) (fun _ => br_t rfl ⟨rfl, hI⟩))) (fun z => absurd hi z)
theorem st_would (hI : Inv X M) (i f : Int32) : p_X5_would 0 i f X (fun u X' => p_X6_would 0 i f M (fun u' M' => Z X' M' u u')) := by
  obtain ⟨F, q, N, hC⟩ := hI.2.2.2.2.2
  obtain ⟨hv, hm, hb, h3, h36⟩ := IC_now hC
  have b0 := hb.1
  unfold p_X5_would p_X6_would
  refine x_isWoman hv b0 (fun hi => br_f (by decide) (x_isHeight (fun hf => br_f (by decide) ⟨25, rfl, rfl, ?_⟩) (fun hf => br_t rfl ?_))) (fun hi => br_t rfl (m_isWoman hm b0 (fun z => absurd z hi) (fun _ => br_t rfl ⟨rfl, hI⟩)))
  · have hi' := hi
    have hf' := hf
    obtain ⟨k, hk, rfl⟩ := hi
    obtain ⟨t, ht, rfl⟩ := hf
    have c1 := (hb.2.2.2.2.1 k hk).1
    refine d_item isD25 1 (by decide) rfl (show k < 6 by omega) ⟨25, rfl, rfl, ?_⟩
    rw [hv.2 1 (by decide) k hk]
    refine e_hemIfNow isD25 hv hb hk (by omega) c1 ?_
    refine m_isWoman hm b0 (fun _ => br_f (by decide) (m_isHeight (fun _ => br_f (by decide) ⟨12, rfl, rfl, vp_in_nI (show k < 6 by omega) (by decide), ?_⟩) (fun z => absurd hf' z))) (fun z => absurd hi' z)
    have e1 : gR M 12 k = nI ((rp F q N).2 1 k) := hm.2.2.2.1 1 (by decide) k hk
    rw [m_cl (show k < 100000 by omega), e1]
    exact m_hemNow hm hb hk (by omega) c1 ⟨rfl, hI⟩
  · exact m_isWoman hm b0 (fun _ => br_f (by decide) (m_isHeight (fun z => absurd z hf) (fun _ => br_t rfl ⟨rfl, hI⟩))) (fun z => absurd hi z)
theorem st_mark (hI : Inv X M) (i kd : Int32) : p_X5_mark 0 i kd X (fun u X' => p_X6_mark 0 i kd M (fun u' M' => Z X' M' u u')) := by
  obtain ⟨F, q, N, hC⟩ := hI.2.2.2.2.2
  obtain ⟨hv, hm, hb, h3, h36⟩ := IC_now hC
  have b0 := hb.1
  have b2 := hb.2.2.1
  unfold p_X5_mark
  refine x_isWoman hv b0 (fun hi => br_f (by decide) ?_) (fun hi => br_t rfl (by unfold p_X6_mark; exact m_isWoman hm b0 (fun z => absurd z hi) (fun _ => br_t rfl ⟨rfl, hI⟩)))
  have hi' := hi
  obtain ⟨k, hk, rfl⟩ := hi
  have e1 : (1 : Int32).toInt = 1 := rfl
  have e5 : (5 : Int32).toInt = 5 := rfl
  have e6 : (6 : Int32).toInt = 6 := rfl
  have e0 : (0 : Int32).toInt = 0 := rfl
  by_cases c0 : kd ≤ 0
  · refine br_t c0 ?_
    unfold p_X6_mark
    refine (m_isWoman hm b0 (fun _ => br_f (by decide) (br_t ?_ (br_t rfl ⟨rfl, hI⟩))) (fun z => absurd hi' z))
    rw [Int32.le_iff_toInt_le] at c0
    rw [Int32.lt_iff_toInt_lt]
    omega
  refine br_f c0 ?_
  have n1 : ¬ kd < 1 := by
    rw [Int32.le_iff_toInt_le] at c0
    rw [Int32.lt_iff_toInt_lt]
    omega
  by_cases c6 : kd < 6
  rotate_left
  · refine br_f c6 ?_
    unfold p_X6_mark
    refine (m_isWoman hm b0 (fun _ => br_f (by decide) (br_f n1 (br_t ?_ (br_t rfl ⟨rfl, hI⟩)))) (fun z => absurd hi' z))
    rw [Int32.lt_iff_toInt_lt] at c6 ⊢
    omega
  have n5 : ¬ 5 < kd := by
    rw [Int32.lt_iff_toInt_lt] at c6 ⊢
    omega
  obtain ⟨t, ht, rfl⟩ := nI_of2 (x := kd) (M := 5) (n := 5) rfl (by
    rw [Int32.le_iff_toInt_le] at c0
    rw [Int32.lt_iff_toInt_lt]
    omega) (by
    rw [Int32.lt_iff_toInt_lt] at n5
    rw [Int32.le_iff_toInt_le]
    omega)
  have t1 : 1 ≤ t := by
    apply Nat.pos_of_ne_zero
    intro z
    subst z
    exact c0 (by decide)
  have c1 := (hb.2.2.2.2.1 k hk).1
  refine br_t c6 ⟨25, rfl, rfl, d_item isD25 1 (by decide) rfl (show k < 6 by omega) ?_⟩
  rw [hv.2 1 (by decide) k hk]
  refine e_isOf c1 ht ?_
  have em : gR M 12 k = nI ((rp F q N).2 1 k) := hm.2.2.2.1 1 (by decide) k hk
  have pre : ∀ {R : Int32 → Sg → Prop}, p_X6_isOf (nI ((rp F q N).2 1 k)) (nI t) M (fun r12 s11 => ((r12 = 0 → p_X6_refuse 0 3 s11 (fun r17 s16 => R r17 s16)) ∧ (¬ r12 = 0 → ((nI t = 5 → R ((gI s11 0 31) - (gI s11 0 31) / 2 * 2) s11) ∧ (¬ nI t = 5 → (∃ n15, p_X6_mark_L55 R n15 0 (nI k) (nI t) 0 0 s11)))))) → p_X6_mark 0 (nI k) (nI t) M R := fun h => by
    unfold p_X6_mark
    refine m_isWoman hm b0 (fun _ => br_f (by decide) (br_f n1 (br_f n5 (br_f (by decide) ⟨12, rfl, rfl, vp_in_nI (show k < 6 by omega) (by decide), ?_⟩)))) (fun z => absurd hi' z)
    rw [m_cl (show k < 100000 by omega), em]
    exact h
  by_cases hz : isOfN ((rp F q N).2 1 k) t = true
  · rw [if_pos hz]
    refine br_f (by decide) ?_
    by_cases c5 : t = 5
    · subst c5
      refine br_t (by decide) ⟨25, rfl, rfl, pre (m_isOf c1 t1 ht ?_)⟩
      rw [if_pos hz]
      refine br_f (by decide) (br_t (by decide) ⟨?_, hI⟩)
      rw [hv.1 2 (by decide), hm.2.2.1, show (1 : Int32) = nI 1 from rfl, nI_and, Nat.and_one_is_mod]
      exact (pk_rem (d := 2) (by omega) (by omega) (by omega)).symm
    · have n5' : ¬ nI t = 5 := fun q => c5 (nI_inj (b := 5) (by omega) (by decide) q)
      refine br_f n5' (x_mark hv hb hk t1 (by omega) (pre (m_isOf c1 t1 ht ?_)))
      rw [if_pos hz]
      exact br_f (by decide) (br_f n5' (m_mark hm hb hk t1 (by omega) ⟨rfl, hI⟩))
  · rw [if_neg hz]
    refine br_t (by decide) (e_found (f := 3) rfl (by decide) (pre (m_isOf c1 t1 ht ?_)))
    rw [if_neg hz]
    exact br_t (by decide) (m_refuse (f := 3) rfl (by decide) ⟨rfl, Inv_found hI (by decide)⟩)
theorem st_dry (hI : Inv X M) : p_X5_dry 0 X (fun u X' => p_X6_dry 0 M (fun u' M' => Z X' M' u u')) := by
  obtain ⟨F, q, N, hC⟩ := hI.2.2.2.2.2
  obtain ⟨hv, hm, hb, h3, h36⟩ := IC_now hC
  have b0 := hb.1
  have x0 := hv.1 0 (by decide)
  unfold p_X5_dry p_X6_dry
  refine ⟨25, rfl, rfl, br_eq (b := 0) x0 rfl (by omega) (by decide) (fun z => br_t (by rw [hm.1, z]; rfl) ⟨rfl, hI⟩) (fun z => ⟨(rp F q N).1 0 + 1, ?_⟩)⟩
  refine lp_up (fun f i x => p_X5_dry_L18 _ f 0 (nI x) (nI i) X) (fun _ x => x ≤ 9) ((rp F q N).1 0) (fun i x => min x ((rp F q N).2 0 ((rp F q N).2 2 i))) (fun x => x = itr (fun i x => min x ((rp F q N).2 0 ((rp F q N).2 2 i))) 0 ((rp F q N).1 0) 9) (fun f x h9 hx => ?_) (fun f i x hi h9 hx => ?_) (fun i x hi h9 => by show min x _ ≤ 9; omega) ((rp F q N).1 0) 0 9 (by omega) (by decide) rfl
  · unfold p_X5_dry_L18
    refine ⟨25, rfl, rfl, br_t (by rw [x0]; exact nI_le (Nat.le_refl _) (by omega)) ?_⟩
    refine br_f (by rw [hm.1]; intro q; exact z (nI_inj (b := 0) (by omega) (by decide) q)) ⟨(rp F q N).1 0 + 1, ?_⟩
    refine lp_up (fun f i x => p_X6_dry_L15 _ f 0 (nI x) (nI i) M) (fun _ x => x ≤ 9) ((rp F q N).1 0) (fun i x => min x ((rp F q N).2 0 ((rp F q N).2 2 i))) (fun x => x = itr (fun i x => min x ((rp F q N).2 0 ((rp F q N).2 2 i))) 0 ((rp F q N).1 0) 9) (fun f y h9 hy => ?_) (fun f i x hi h9 hx => ?_) (fun i x hi h9 => by show min x _ ≤ 9; omega) ((rp F q N).1 0) 0 9 (by omega) (by decide) rfl
    · unfold p_X6_dry_L15
      exact br_t (by rw [hm.1]; exact nI_le (Nat.le_refl _) (by omega)) ⟨by rw [hx, hy], hI⟩
    · obtain ⟨c1, c2, c3, c4, c5⟩ := hb.2.2.2.2.1 i hi
      have e2 : gR M 17 i = nI ((rp F q N).2 2 i) := hm.2.2.2.1 2 (by decide) i hi
      have e0 : gR M 19 ((rp F q N).2 2 i) = _ := hm.2.2.2.1 0 (by decide) _ (show (rp F q N).2 2 i < 6 by omega)
      have g9 := hb.2.2.2.1 ((rp F q N).2 2 i) (by omega)
      unfold p_X6_dry_L15
      rw [hm.1, m_cl (show i < 100000 by omega)]
      refine br_f (lt_w b0 hi) ⟨17, rfl, rfl, vp_in_nI (show i < 6 by omega) (by decide), 19, rfl, rfl, m_in (N := 6) e2 rfl (by omega) (by decide), ?_⟩
      rw [e2, m_cl (show (rp F q N).2 2 i < 100000 by omega), e0, nI_1]
      exact m_less rfl rfl (by omega) (by omega) hx
  · have g9 := hb.2.2.2.1 ((rp F q N).2 2 i) (by have := (hb.2.2.2.2.1 i hi).2.1; omega)
    unfold p_X5_dry_L18
    refine ⟨25, rfl, rfl, br_f (by rw [x0]; exact lt_w b0 hi) ⟨25, rfl, rfl, e_groundUnder isD25 hv hb hi ?_⟩⟩
    rw [v_min (by omega) (by omega), nI_1]
    exact hx
theorem st_least (hI : Inv X M) (i f v : Int32) : p_X5_least 0 i f v X (fun u X' => p_X6_least 0 i f v M (fun u' M' => Z X' M' u u')) := by
  obtain ⟨F, q, N, hC⟩ := hI.2.2.2.2.2
  obtain ⟨hv, hm, hb, h3, h36⟩ := IC_now hC
  have b0 := hb.1
  unfold p_X5_least
  refine x_isWoman hv b0 (fun hi => br_f (by decide) (x_isHeight (fun hf => br_f (by decide) (x_isHeight (fun hw => br_f (by decide) ⟨25, rfl, rfl, ?_⟩) (fun hw => br_t rfl ?_))) (fun hf => br_t rfl ?_))) (fun hi => br_t rfl (by unfold p_X6_least; exact m_isWoman hm b0 (fun z => absurd z hi) (fun _ => br_t rfl ⟨rfl, hI⟩)))
  · have hi' := hi
    have hf' := hf
    have hw' := hw
    obtain ⟨k, hk, rfl⟩ := hi
    obtain ⟨t, ht, rfl⟩ := hf
    obtain ⟨w, hw, rfl⟩ := hw
    obtain ⟨c1, c2, c3, c4, c5⟩ := hb.2.2.2.2.1 k hk
    have g9 := hb.2.2.2.1 ((rp F q N).2 2 k) (by omega)
    have e2 : gR M 17 k = nI ((rp F q N).2 2 k) := hm.2.2.2.1 2 (by decide) k hk
    have e0 : gR M 19 ((rp F q N).2 2 k) = _ := hm.2.2.2.1 0 (by decide) _ (show (rp F q N).2 2 k < 6 by omega)
    refine e_groundUnder isD25 hv hb hk ?_
    have i2 : vp_in (nI k) 6 := vp_in_nI (by omega) (by decide)
    generalize hg : (rp F q N).2 0 ((rp F q N).2 2 k) = g at *
    have ts : (nI t - nI w).toInt = (t : Int) - w := sub31 (by omega) (by omega)
    have e : (if 0 < (nI t - nI w - nI g) then (nI t - nI w - nI g) else 0) = nI (t - w - g) := by
      have e1 : (nI t - nI w - nI g).toInt = (t : Int) - w - g := by
        rw [Int32.toInt_sub, ts, nI_toInt (by omega)]
        exact Int.bmod_eq_of_le (by omega) (by omega)
      have z0 : (0 : Int32).toInt = 0 := rfl
      by_cases c : w + g < t
      · rw [if_pos (by rw [Int32.lt_iff_toInt_lt, e1]; omega)]
        apply Int32.toInt_inj.mp
        rw [e1, nI_toInt (by omega)]
        omega
      · rw [if_neg (by rw [Int32.lt_iff_toInt_lt, e1]; omega), show t - w - g = 0 by omega]
        rfl
    rw [e, nI_add]
    have mw : ∀ {R : Int32 → Sg → Prop}, R (nI (t - w - g)) M → p_X6_wet (nI t - nI w) (nI g) M R := fun {R} h => by
      unfold p_X6_wet
      by_cases c : w + g < t
      · refine br_f ?_ ?_
        · rw [Int32.le_iff_toInt_le, ts, nI_toInt (by omega)]; omega
        · rw [pk_sub (show w ≤ t by omega), pk_sub (by omega)]; exact h
      · refine br_t ?_ ?_
        · rw [Int32.le_iff_toInt_le, ts, nI_toInt (by omega)]; omega
        · rw [show t - w - g = 0 by omega] at h; exact h
    have mm : ∀ {R : Int32 → Sg → Prop}, (g + (t - w - g) ≤ 9 → R (nI (t - w - g)) M) → (9 < g + (t - w - g) → R (-9) M) → p_X6_least 0 (nI k) (nI t) (nI w) M R := by
      intro R h1 h2
      unfold p_X6_least
      refine m_isWoman hm b0 (fun _ => br_f (by decide) (m_isHeight (fun _ => br_f (by decide) (m_isHeight (fun _ => br_f (by decide) ⟨17, rfl, rfl, i2, 19, rfl, rfl, ?_, ?_⟩) (fun z => absurd hw' z))) (fun z => absurd hf' z))) (fun z => absurd hi' z)
      · rw [m_cl (show k < 100000 by omega), e2]; exact vp_in_nI (show (rp F q N).2 2 k < 6 by omega) (by decide)
      · rw [m_cl (show k < 100000 by omega), e2, m_cl (show (rp F q N).2 2 k < 100000 by omega), e0]
        refine mw ⟨17, rfl, rfl, i2, 19, rfl, rfl, ?_, ?_⟩
        · rw [e2]; exact vp_in_nI (show (rp F q N).2 2 k < 6 by omega) (by decide)
        · rw [e2, m_cl (show (rp F q N).2 2 k < 100000 by omega), e0, nI_add]
          exact br_le (b := 9) rfl rfl (by omega) (by decide) h1 h2
    exact br_le (b := 9) rfl rfl (by omega) (by decide) (fun c => mm (fun _ => ⟨rfl, hI⟩) (fun z => absurd z (by omega))) (fun c => mm (fun z => absurd z (by omega)) (fun _ => ⟨rfl, hI⟩))
  · unfold p_X6_least
    exact m_isWoman hm b0 (fun _ => br_f (by decide) (m_isHeight (fun _ => br_f (by decide) (m_isHeight (fun z => absurd z hw) (fun _ => br_t rfl ⟨rfl, hI⟩))) (fun z => absurd hf z))) (fun z => absurd hi z)
  · unfold p_X6_least
    exact m_isWoman hm b0 (fun _ => br_f (by decide) (m_isHeight (fun z => absurd z hf) (fun _ => br_t rfl ⟨rfl, hI⟩))) (fun z => absurd hi z)
theorem st_odds (hI : Inv X M) (v : Int32) : p_X5_odds 0 v X (fun u X' => p_X6_odds 0 v M (fun u' M' => Z X' M' u u')) := by
  obtain ⟨F, q, N, hC⟩ := hI.2.2.2.2.2
  obtain ⟨hv, hm, hb, h3, h36⟩ := IC_now hC
  have b0 := hb.1
  have b2 := hb.2.2.1
  have x0 := hv.1 0 (by decide)
  have x2 := hv.1 2 (by decide)
  have m0 := hm.1
  have m2 := hm.2.2.1
  have no : ¬ ok v 7 → p_X6_odds 0 v M (fun u' M' => Z X M' (-1) u') := fun hw => by
    unfold p_X6_odds
    exact m_in_t (w := 7) (by decide) rfl (fun z => absurd z hw) (fun _ => br_t rfl ⟨rfl, hI⟩)
  unfold p_X5_odds
  by_cases c : v < 0
  · exact br_t c (no (fun o => ok_lt0 (by decide) o c))
  refine br_f c ?_
  obtain ⟨t, ht, rfl⟩ := nI_of c
  refine br_le (b := 6) rfl rfl ht (by decide) (fun z => ⟨25, rfl, rfl, ?_⟩) (fun z => no (fun ⟨j, hj, e⟩ => by have := nI_inj ht (by omega) e; omega))
  have hok : ok (nI t) 7 := ⟨t, by omega, rfl⟩
  unfold p_X6_odds
  refine br_eq (b := 0) x0 rfl (by omega) (by decide) (fun y0 => m_in_t (w := 7) (by decide) rfl (fun _ => br_f (by decide) (br_t (by rw [m0, y0]; rfl) ⟨rfl, hI⟩)) (fun q => absurd hok q)) (fun y0 => ⟨25, rfl, rfl, ?_⟩)
  have n0 : ¬ gI M 0 20 = 0 := by rw [m0]; intro q; exact y0 (nI_inj (b := 0) (by omega) (by decide) q)
  refine br_eq (b := 0) x2 rfl (by omega) (by decide) (fun y2 => m_in_t (w := 7) (by decide) rfl (fun _ => br_f (by decide) (br_f n0 (br_t (by rw [m2, y2]; rfl) ⟨rfl, hI⟩))) (fun q => absurd hok q)) (fun y2 => ⟨(rp F q N).1 2 + 1, ?_⟩)
  have n2 : ¬ gI M 0 31 = 0 := by rw [m2]; intro q; exact y2 (nI_inj (b := 0) (by omega) (by decide) q)
  generalize hT : itr (fun y x => x + if t ≤ wetC (rp F q N).1 (rp F q N).2 ((rp F q N).2 5 y) then 1 else 0) 0 ((rp F q N).1 2) 0 = T
  have hTb : T ≤ 8 := by
    have := itr_inv (step := fun y x => x + if t ≤ wetC (rp F q N).1 (rp F q N).2 ((rp F q N).2 5 y) then 1 else 0) (fun i x => x ≤ i) ((rp F q N).1 2) 0 0 (Nat.le_refl 0) (fun j y _ _ hy => by
      show y + (if _ then 1 else 0) ≤ j + 1
      split <;> omega)
    rw [hT] at this
    omega
  have hwc : ∀ f, wetC (rp F q N).1 (rp F q N).2 f ≤ 6 := fun f => by
    have := itr_inv (step := fun i x => x + if 0 < f - (rp F q N).2 0 ((rp F q N).2 2 i) then 1 else 0) (fun i x => x ≤ i) ((rp F q N).1 0) 0 0 (Nat.le_refl 0) (fun j y _ _ hy => by
      show y + (if _ then 1 else 0) ≤ j + 1
      split <;> omega)
    unfold wetC
    omega
  refine lp_up (fun f y x => p_X5_odds_L39 _ f 0 (nI t) (nI x) (nI y) X) (fun _ _ => True) ((rp F q N).1 2) (fun y x => x + if t ≤ wetC (rp F q N).1 (rp F q N).2 ((rp F q N).2 5 y) then 1 else 0) (fun x => x = T) (fun f x _ hx => ?_) (fun f y x hy _ hx => ?_) (fun _ _ _ _ => trivial) ((rp F q N).1 2) 0 0 (by omega) trivial hT
  · unfold p_X5_odds_L39
    refine ⟨25, rfl, rfl, br_t (by rw [x2]; exact nI_le (Nat.le_refl _) (by omega)) ⟨25, rfl, rfl, ?_⟩⟩
    rw [x2, hx]
    refine x_tell (by omega) (by omega) (by omega) ?_
    refine m_in_t (w := 7) (by decide) rfl (fun _ => br_f (by decide) (br_f n0 (br_f n2 ⟨(rp F q N).1 2 + 1, ?_⟩))) (fun q => absurd hok q)
    refine lp_up (fun f y x => p_X6_odds_L33 _ f 0 (nI t) (nI x) (nI y) M) (fun _ _ => True) ((rp F q N).1 2) (fun y x => x + if t ≤ wetC (rp F q N).1 (rp F q N).2 ((rp F q N).2 5 y) then 1 else 0) (fun x => x = T) (fun f x _ hx => ?_) (fun f y x hy _ hx => ?_) (fun _ _ _ _ => trivial) ((rp F q N).1 2) 0 0 (by omega) trivial hT
    · unfold p_X6_odds_L33
      refine br_t (by rw [m2]; exact nI_le (Nat.le_refl _) (by omega)) ?_
      rw [m2, hx]
      exact m_tell (nI_l (by omega)) (nI_l (by omega)) (by omega) (by omega) (by omega) ⟨rfl, Inv_toldP hI _ _⟩
    · have e5 : gR M 20 y = nI ((rp F q N).2 5 y) := hm.2.2.2.1 5 (by decide) y hy
      have b6 := hb.2.2.2.2.2.1 y hy
      unfold p_X6_odds_L33 p_X6_odds_b61
      rw [m2, m_cl (show y < 100000 by omega)]
      refine br_f (nI_ge hy (by omega)) ⟨20, rfl, rfl, vp_in_nI (show y < 8 by omega) (by decide), ?_⟩
      rw [e5, nI_1]
      refine m_manyWet hm hb (by omega) ?_
      refine br_lt rfl rfl (by have := hwc ((rp F q N).2 5 y); omega) ht (fun w => ?_) (fun w => ?_)
      · rw [if_neg (by omega)] at hx
        rw [show (0 : Int32) = nI 0 from rfl, nI_add]
        exact hx
      · rw [if_pos w] at hx
        rw [nI_1]
        exact hx
  · have b6 := hb.2.2.2.2.2.1 y hy
    unfold p_X5_odds_L39 p_X5_odds_b75
    refine ⟨25, rfl, rfl, br_f (by rw [x2]; exact nI_ge hy (by omega)) ⟨25, rfl, rfl, d_item isD25 5 (by decide) rfl (show y < 8 by omega) ⟨25, rfl, rfl, ?_⟩⟩⟩
    rw [hv.2 5 (by decide) y hy, nI_1]
    refine e_howManyWet isD25 hv hb (by omega) ?_
    refine br_lt rfl rfl (by have := hwc ((rp F q N).2 5 y); omega) ht (fun w => ?_) (fun w => ?_)
    · rw [if_neg (by omega)] at hx
      exact hx
    · rw [if_pos w] at hx
      rw [nI_1]
      exact hx
theorem wetS_le {n : Nat → Nat} {a : Nat → Nat → Nat} (hb : BV n a) {f : Nat} (hf : f ≤ 20) : wetS n a f ≤ 120 := by
  have b0 := hb.1
  have := itr_inv (step := fun i x => x + (f - a 0 (a 2 i))) (fun i x => x ≤ 20 * i) (n 0) 0 0 (Nat.le_refl 0) (fun j y _ _ hy => by
    show y + (f - a 0 (a 2 j)) ≤ 20 * (j + 1)
    omega)
  unfold wetS
  omega
theorem st_mid (hI : Inv X M) : p_X5_mid 0 X (fun u X' => p_X6_mid 0 M (fun u' M' => Z X' M' u u')) := by
  obtain ⟨F, q, N, hC⟩ := hI.2.2.2.2.2
  obtain ⟨hv, hm, hb, h3, h36⟩ := IC_now hC
  have b0 := hb.1
  have b2 := hb.2.2.1
  have x0 := hv.1 0 (by decide)
  have x2 := hv.1 2 (by decide)
  have m0 := hm.1
  have m2 := hm.2.2.1
  unfold p_X5_mid p_X6_mid
  refine ⟨25, rfl, rfl, br_eq (b := 0) x0 rfl (by omega) (by decide) (fun y0 => br_t (by rw [m0, y0]; rfl) ⟨rfl, hI⟩) (fun y0 => ⟨25, rfl, rfl, ?_⟩)⟩
  have n0 : ¬ gI M 0 20 = 0 := by rw [m0]; intro q; exact y0 (nI_inj (b := 0) (by omega) (by decide) q)
  refine br_eq (b := 0) x2 rfl (by omega) (by decide) (fun y2 => br_f n0 (br_t (by rw [m2, y2]; rfl) ⟨rfl, hI⟩)) (fun y2 => ⟨(rp F q N).1 2 + 1, ?_⟩)
  have n2 : ¬ gI M 0 31 = 0 := by rw [m2]; intro q; exact y2 (nI_inj (b := 0) (by omega) (by decide) q)
  generalize hT : itr (fun y x => x + wetS (rp F q N).1 (rp F q N).2 ((rp F q N).2 5 y)) 0 ((rp F q N).1 2) 0 = T
  have hTb : T ≤ 960 := by
    have := itr_inv (step := fun y x => x + wetS (rp F q N).1 (rp F q N).2 ((rp F q N).2 5 y)) (fun i x => x ≤ 120 * i) ((rp F q N).1 2) 0 0 (Nat.le_refl 0) (fun j y _ hj hy => by
      show y + wetS _ _ _ ≤ 120 * (j + 1)
      have := wetS_le hb (hb.2.2.2.2.2.1 j (by omega))
      omega)
    rw [hT] at this
    omega
  refine lp_up (fun f y x => p_X5_mid_L27 _ f 0 (nI x) (nI y) X) (fun _ _ => True) ((rp F q N).1 2) (fun y x => x + wetS (rp F q N).1 (rp F q N).2 ((rp F q N).2 5 y)) (fun x => x = T) (fun f x _ hx => ?_) (fun f y x hy _ hx => ?_) (fun _ _ _ _ => trivial) ((rp F q N).1 2) 0 0 (by omega) trivial hT
  · unfold p_X5_mid_L27
    refine ⟨25, rfl, rfl, br_t (by rw [x2]; exact nI_le (Nat.le_refl _) (by omega)) ⟨25, rfl, rfl, ?_⟩⟩
    rw [x2, hx]
    refine x_tell (by omega) (by omega) (by omega) (br_f n0 (br_f n2 (m_noMore ⟨(rp F q N).1 2 + 1, ?_⟩)))
    have hm' : VM (wr M 27 0 (fun _ => 0) 6) (rp F q N).1 (rp F q N).2 := VM_more hm _ (by decide)
    have hmo : ∀ p, p < 6 → gR (wr M 27 0 (fun _ => 0) 6) 27 p = nI 0 ∧ (0 : Nat) ≤ 100 := fun p hp => ⟨by rw [gR_wr_s, if_pos (by omega)]; rfl, by decide⟩
    refine lp_up (fun f y x => p_X6_mid_L25 _ f 0 (nI x) (nI y) (wr M 27 0 (fun _ => 0) 6)) (fun _ _ => True) ((rp F q N).1 2) (fun y x => x + wetS (rp F q N).1 (rp F q N).2 ((rp F q N).2 5 y)) (fun x => x = T) (fun f x _ hx => ?_) (fun f y x hy _ hx => ?_) (fun _ _ _ _ => trivial) ((rp F q N).1 2) 0 0 (by omega) trivial hT
    · unfold p_X6_mid_L25
      rw [hm'.2.2.1, hx]
      exact br_t (nI_le (Nat.le_refl _) (by omega)) (m_tell (nI_l (by omega)) (nI_l (by omega)) (by omega) (by omega) (by omega) ⟨rfl, Inv_toldP (Inv_more hI _ (by decide)) _ _⟩)
    · have e5 : gR (wr M 27 0 (fun _ => 0) 6) 20 y = nI ((rp F q N).2 5 y) := hm'.2.2.2.1 5 (by decide) y hy
      have b6 := hb.2.2.2.2.2.1 y hy
      unfold p_X6_mid_L25
      rw [hm'.2.2.1, m_cl (show y < 100000 by omega)]
      refine br_f (nI_ge hy (by omega)) ⟨20, rfl, rfl, vp_in_nI (show y < 8 by omega) (by decide), ?_⟩
      rw [e5, nI_1]
      refine m_wetAll (mo := fun _ => 0) (pl := 63) hm' hb hmo rfl rfl (by omega) (by decide) ?_
      rw [wetP_0 hb, nI_add]
      exact hx
  · have b6 := hb.2.2.2.2.2.1 y hy
    unfold p_X5_mid_L27
    refine ⟨25, rfl, rfl, br_f (by rw [x2]; exact nI_ge hy (by omega)) ⟨25, rfl, rfl, d_item isD25 5 (by decide) rfl (show y < 8 by omega) ⟨25, rfl, rfl, ?_⟩⟩⟩
    rw [hv.2 5 (by decide) y hy, nI_1]
    refine e_wetTogether isD25 hv hb (by omega) ?_
    rw [nI_add]
    exact hx
end ASK
