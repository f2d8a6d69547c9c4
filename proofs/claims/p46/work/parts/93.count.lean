/-! count, digest -/
theorem x_deedsKept {X M : Sg} {F : Ds} {q : Nat → Dd} {N k : Nat} {Q : Int32 → Sg → Prop} (hC : IC X M F q N) (hk : k < 3) (h : Q (gR M 25 k) X) : p_X5_deedsKept 0 (nI k) X Q := by
  unfold p_X5_deedsKept p_X5_deedsKept_b17
  refine e_keptAt rfl hk (br_f (by intro q; cases q) ⟨49 + 12 * k, rfl, D_k (isDk hk), ?_⟩)
  rcases hC.2.2.2.2.2.2 k hk with ⟨h1, h2⟩ | ⟨h0, q', N', g1, g2, g3, g4, g7⟩
  · rw [h1] at h
    exact br_t h2 h
  · refine br_f ?_ ⟨49 + 12 * k, rfl, D_k (isDk hk), ?_⟩
    · rw [g3.1.1 0 (by decide), rp_w]
      have := hC.1.1
      intro q
      have := nI_inj (b := 0) (by omega) (by decide) q
      omega
    · rw [g3.2.1, ← g4]; exact h
def cntK (M : Sg) : Nat := itr (fun k x => x + if gR M 25 k = -1 then 0 else 1) 0 3 0
def cntS (X : Sg) (h m : Nat) : Nat := itr (fun k x => x + if gR X (h + 1) k = -1 then 0 else 1) 0 m 0
def smA (a : Nat → Nat) (w : Nat) : Nat := itr (fun i x => x + a i) 0 w 0
def cntV (X M : Sg) (n : Nat → Nat) (a : Nat → Nat → Nat) (N : Nat) (w : Int32) : Int32 := if w = 0 then nI (n 0) else if w = 1 then nI (n 2) else if w = 2 then nI N else if w = 3 then nI (n 1) else if w = 4 then nI (smA (a 0) 6) else if w = 5 then nI (smA (a 4) (n 0)) else if w = 6 then nI (lastH n a) else if w = 7 then nI (kindC n a 1) else if w = 8 then nI (cntS X 1 6) else if w = 9 then nI (cntS X 10 4) else if w = 10 then nI (cntK M) else -1
theorem x_sumOf {X : Sg} {d c : Nat} (hd : isD d) (hc : c < 11) {w : Nat} {x : Int32} {b : Nat → Nat} {Q : Int32 → Sg → Prop} (hx : x = nI w) (hw : w ≤ dlen c) (hl : dlen c < 100) (hb : ∀ i, i < w → gR X (d + 1 + c) i = nI (b i)) (h : Q (nI (smA b w)) X) : p_X5_sumOf (tX d (4 + c)) x X Q := by
  subst hx
  unfold p_X5_sumOf
  refine ⟨w + 1, ?_⟩
  refine lp_up (fun m i x => p_X5_sumOf_L4 Q m (tX d (4 + c)) (nI w) (nI x) (nI i) X) (fun _ _ => True) w (fun i x => x + b i) (fun x => Q (nI x) X) (fun m x _ hx => ?_) (fun m i x hi _ hx => ?_) (fun _ _ _ _ => trivial) w 0 0 (by omega) trivial h
  · unfold p_X5_sumOf_L4
    exact br_t (nI_le (Nat.le_refl _) (by omega)) hx
  · unfold p_X5_sumOf_L4
    rw [nI_1]
    refine br_f (nI_ge hi (by omega)) (d_item hd c hc rfl (by omega) ?_)
    rw [hb i hi, nI_add]
    exact hx
section CNT
variable {X M : Sg} {F : Ds} {q : Nat → Dd} {N : Nat}
theorem x_count (hC : IC X M F q N) {w : Int32} {Q : Int32 → Sg → Prop} (h : Q (cntV X M (rp F q N).1 (rp F q N).2 N w) X) : p_X5_count 0 w X Q := by
  obtain ⟨hv, hm, hb, h3, h36⟩ := IC_now hC
  have b0 := hb.1
  unfold p_X5_count
  unfold cntV at h
  by_cases c : w = 0
  · rw [if_pos c] at h; refine br_t c ⟨25, rfl, rfl, ?_⟩; rw [hv.1 0 (by decide)]; exact h
  rw [if_neg c] at h; refine br_f c ?_
  by_cases c : w = 1
  · rw [if_pos c] at h; refine br_t c ⟨25, rfl, rfl, ?_⟩; rw [hv.1 2 (by decide)]; exact h
  rw [if_neg c] at h; refine br_f c ?_
  by_cases c : w = 2
  · rw [if_pos c] at h; refine br_t c ⟨25, rfl, rfl, ?_⟩; rw [h3]; exact h
  rw [if_neg c] at h; refine br_f c ?_
  by_cases c : w = 3
  · rw [if_pos c] at h; refine br_t c ⟨25, rfl, rfl, ?_⟩; rw [hv.1 1 (by decide)]; exact h
  rw [if_neg c] at h; refine br_f c ?_
  by_cases c : w = 4
  · rw [if_pos c] at h
    exact br_t c ⟨25, rfl, rfl, x_sumOf (c := 0) isD25 (by decide) (w := 6) rfl (by decide) (by decide) (fun i hi => hv.2 0 (by decide) i hi) h⟩
  rw [if_neg c] at h; refine br_f c ?_
  by_cases c : w = 5
  · rw [if_pos c] at h
    exact br_t c ⟨25, rfl, rfl, 25, rfl, rfl, x_sumOf (c := 4) isD25 (by decide) (hv.1 0 (by decide)) b0 (by decide) (fun i hi => hv.2 4 (by decide) i hi) h⟩
  rw [if_neg c] at h; refine br_f c ?_
  by_cases c : w = 6
  · rw [if_pos c] at h; exact br_t c ⟨25, rfl, rfl, e_lastHeight isD25 hv hb h⟩
  rw [if_neg c] at h; refine br_f c ?_
  by_cases c : w = 7
  · rw [if_pos c] at h; exact br_t c ⟨25, rfl, rfl, e_howManyOf (of := 1) isD25 hv hb (by decide) h⟩
  rw [if_neg c] at h; refine br_f c ?_
  by_cases c : w = 8
  · rw [if_pos c] at h; exact br_t c ⟨1, rfl, rfl, s_howMany R1 h⟩
  rw [if_neg c] at h; refine br_f c ?_
  by_cases c : w = 9
  · rw [if_pos c] at h; exact br_t c ⟨10, rfl, rfl, s_howMany R2 h⟩
  rw [if_neg c] at h; refine br_f c ?_
  by_cases c : w = 10
  · rw [if_pos c] at h
    refine br_t c ?_
    unfold p_X5_howManyKept
    refine ⟨4, ?_⟩
    refine lp_up (fun m k x => p_X5_howManyKept_L4 _ m 0 (nI x) (nI k) X) (fun _ _ => True) 3 (fun k x => x + if gR M 25 k = -1 then 0 else 1) (fun x => Q (nI x) X) (fun m x _ hx => ?_) (fun m k x hk _ hx => ?_) (fun _ _ _ _ => trivial) 3 0 0 (by decide) trivial h
    · unfold p_X5_howManyKept_L4
      exact ⟨18, rfl, Or.inr (Or.inl rfl), br_t (by decide) hx⟩
    · unfold p_X5_howManyKept_L4 p_X5_howManyKept_b25
      refine ⟨18, rfl, Or.inr (Or.inl rfl), br_f (nI_ge (b := 3) hk (by decide)) (x_deedsKept hC hk ?_)⟩
      rw [nI_1, nI_1]
      by_cases d : gR M 25 k = -1
      · rw [if_pos d] at hx; exact br_t d hx
      · rw [if_neg d] at hx; exact br_f d hx
  rw [if_neg c] at h
  exact br_f c h
theorem nn_of {w : Nat} {z : Int32} {A B : Prop} (h : szOk w z) (hw : w < 2 ^ 31) (ha : z = -1 → B) (hb : ¬ z = -1 → A) : ((0 : Int32) ≤ z → A) ∧ (¬ (0 : Int32) ≤ z → B) := by
  rcases neg_of h hw with ⟨e1, e2, e3⟩ | ⟨n, hn, e1, e2, e3, e4⟩
  · exact br_f e2 (ha e1)
  · exact br_t e2 (hb e4)
theorem keptOk (hC : IC X M F q N) {k : Nat} (hk : k < 3) : szOk 40 (gR M 25 k) := by
  rcases hC.2.2.2.2.2.2 k hk with ⟨h1, h2⟩ | ⟨h0, q', N', g1, g2, g3, g4, g7⟩
  · exact Or.inl h1
  · exact Or.inr ⟨N', g1, g4⟩
theorem m_count (hI : Inv X M) (hC : IC X M F q N) {w : Int32} {Q : Int32 → Sg → Prop} (h : Q (cntV X M (rp F q N).1 (rp F q N).2 N w) M) : p_X6_count 0 w M Q := by
  obtain ⟨hv, hm, hb, h3, h36⟩ := IC_now hC
  have b0 := hb.1
  have b2 := hb.2.2.1
  have v4 := hm.2.2.2.1
  have z0 : ∀ x : Nat, nI x + 0 = nI x := fun x => by rw [show (0 : Int32) = nI 0 from rfl, nI_add]; rfl
  unfold p_X6_count
  unfold cntV at h
  by_cases c : w = 0
  · rw [if_pos c] at h; refine br_t c ?_; rw [hm.1]; exact h
  rw [if_neg c] at h; refine br_f c ?_
  by_cases c : w = 1
  · rw [if_pos c] at h; refine br_t c ?_; rw [hm.2.2.1]; exact h
  rw [if_neg c] at h; refine br_f c ?_
  by_cases c : w = 2
  · rw [if_pos c] at h; refine br_t c ?_; rw [h36]; exact h
  rw [if_neg c] at h; refine br_f c ?_
  by_cases c : w = 3
  · rw [if_pos c] at h; refine br_t c ?_; rw [hm.2.1]; exact h
  rw [if_neg c] at h; refine br_f c ?_
  by_cases c : w = 4
  · rw [if_pos c] at h
    refine br_t c ⟨7, ?_⟩
    refine lp_up (fun m i x => p_X6_count_L82 Q m 0 (nI x) (nI i) M) (fun _ _ => True) 6 (fun i x => x + (rp F q N).2 0 i) (fun x => Q (nI x) M) (fun m x _ hx => ?_) (fun m i x hi _ hx => ?_) (fun _ _ _ _ => trivial) 6 0 0 (by decide) trivial h
    · unfold p_X6_count_L82
      exact br_t (by decide) hx
    · have e : gR M 19 i = _ := v4 0 (by decide) i hi
      unfold p_X6_count_L82
      rw [m_cl (show i < 100000 by omega), nI_1]
      refine br_f (nI_ge (b := 6) hi (by decide)) ⟨19, rfl, rfl, vp_in_nI hi (by decide), ?_⟩
      rw [e, nI_add]
      exact hx
  rw [if_neg c] at h; refine br_f c ?_
  by_cases c : w = 5
  · rw [if_pos c] at h
    refine br_t c ⟨(rp F q N).1 0 + 1, ?_⟩
    refine lp_up (fun m i x => p_X6_count_L107 Q m 0 (nI x) (nI i) M) (fun _ _ => True) ((rp F q N).1 0) (fun i x => x + (rp F q N).2 4 i) (fun x => Q (nI x) M) (fun m x _ hx => ?_) (fun m i x hi _ hx => ?_) (fun _ _ _ _ => trivial) ((rp F q N).1 0) 0 0 (by omega) trivial h
    · unfold p_X6_count_L107
      rw [hm.1]
      exact br_t (nI_le (Nat.le_refl _) (by omega)) hx
    · have e : gR M 18 i = _ := v4 4 (by decide) i hi
      unfold p_X6_count_L107
      rw [hm.1, m_cl (show i < 100000 by omega), nI_1]
      refine br_f (lt_w b0 hi) ⟨18, rfl, rfl, vp_in_nI (show i < 6 by omega) (by decide), ?_⟩
      rw [e, nI_add]
      exact hx
  rw [if_neg c] at h; refine br_f c ?_
  by_cases c : w = 6
  · rw [if_pos c] at h
    refine br_t c ?_
    unfold lastH at h
    rw [hm.2.2.1]
    refine br_eq (b := 0) rfl rfl (by omega) (by decide) (fun z => ?_) (fun z => ?_)
    · rw [if_pos z] at h; exact h
    · rw [if_neg z] at h
      have e : gR M 20 ((rp F q N).1 2 - 1) = _ := v4 5 (by decide) _ (show (rp F q N).1 2 - 1 < (rp F q N).1 2 by omega)
      rw [show nI ((rp F q N).1 2) - 1 = nI ((rp F q N).1 2 - 1) from pk_sub (b := 1) (by omega), m_cl (show (rp F q N).1 2 - 1 < 100000 by omega)]
      refine ⟨20, rfl, rfl, vp_in_nI (show (rp F q N).1 2 - 1 < 8 by omega) (by decide), ?_⟩
      rw [e]
      exact h
  rw [if_neg c] at h; refine br_f c ?_
  by_cases c : w = 7
  · rw [if_pos c] at h
    refine br_t c ⟨(rp F q N).1 0 + 1, ?_⟩
    refine lp_up (fun m i x => p_X6_count_L157 Q m 0 (nI x) (nI i) M) (fun _ _ => True) ((rp F q N).1 0) (fun i x => x + if isOfN ((rp F q N).2 1 i) 1 then 1 else 0) (fun x => Q (nI x) M) (fun m x _ hx => ?_) (fun m i x hi _ hx => ?_) (fun _ _ _ _ => trivial) ((rp F q N).1 0) 0 0 (by omega) trivial h
    · unfold p_X6_count_L157
      rw [hm.1]
      exact br_t (nI_le (Nat.le_refl _) (by omega)) hx
    · have e : gR M 12 i = _ := v4 1 (by decide) i hi
      unfold p_X6_count_L157 p_X6_count_b184
      rw [hm.1, m_cl (show i < 100000 by omega), nI_1]
      refine br_f (lt_w b0 hi) ⟨12, rfl, rfl, vp_in_nI (show i < 6 by omega) (by decide), ?_⟩
      rw [e]
      refine m_isOf (of := 1) (hb.2.2.2.2.1 i hi).1 (by decide) (by decide) ?_
      by_cases d : isOfN ((rp F q N).2 1 i) 1 = true
      · rw [if_pos d] at hx ⊢
        refine br_f (by decide) ?_
        rw [nI_1]; exact hx
      · rw [if_neg d] at hx ⊢
        refine br_t (by decide) ?_
        rw [z0]; exact hx
  rw [if_neg c] at h; refine br_f c ?_
  by_cases c : w = 8
  · rw [if_pos c] at h
    refine br_t c ⟨7, ?_⟩
    refine lp_up (fun m i x => p_X6_count_L196 Q m 0 (nI x) (nI i) M) (fun _ _ => True) 6 (fun k x => x + if gR X (1 + 1) k = -1 then 0 else 1) (fun x => Q (nI x) M) (fun m x _ hx => ?_) (fun m i x hi _ hx => ?_) (fun _ _ _ _ => trivial) 6 0 0 (by decide) trivial h
    · unfold p_X6_count_L196
      exact br_t (by decide) hx
    · obtain ⟨s1, s2, s3⟩ := hI.2.2.1 i hi
      unfold p_X6_count_L196 p_X6_count_b217
      rw [m_cl (show i < 100000 by omega), nI_1]
      refine br_f (nI_ge (b := 6) hi (by decide)) ⟨3, rfl, rfl, vp_in_nI hi (by decide), ?_⟩
      rw [s2, nI_1, z0]
      refine nn_of s1 (by decide) (fun d => ?_) (fun d => ?_)
      · rw [if_pos d] at hx; exact hx
      · rw [if_neg d] at hx; exact hx
  rw [if_neg c] at h; refine br_f c ?_
  by_cases c : w = 9
  · rw [if_pos c] at h
    refine br_t c ⟨5, ?_⟩
    refine lp_up (fun m i x => p_X6_count_L229 Q m 0 (nI x) (nI i) M) (fun _ _ => True) 4 (fun k x => x + if gR X (10 + 1) k = -1 then 0 else 1) (fun x => Q (nI x) M) (fun m x _ hx => ?_) (fun m i x hi _ hx => ?_) (fun _ _ _ _ => trivial) 4 0 0 (by decide) trivial h
    · unfold p_X6_count_L229
      exact br_t (by decide) hx
    · obtain ⟨s1, s2, s3⟩ := hI.2.2.2.1 i hi
      unfold p_X6_count_L229 p_X6_count_b249
      rw [m_cl (show i < 100000 by omega), nI_1]
      refine br_f (nI_ge (b := 4) hi (by decide)) ⟨5, rfl, rfl, vp_in_nI hi (by decide), ?_⟩
      rw [s2, nI_1, z0]
      refine nn_of s1 (by decide) (fun d => ?_) (fun d => ?_)
      · rw [if_pos d] at hx; exact hx
      · rw [if_neg d] at hx; exact hx
  rw [if_neg c] at h; refine br_f c ?_
  by_cases c : w = 10
  · rw [if_pos c] at h
    refine br_t c ⟨4, ?_⟩
    refine lp_up (fun m i x => p_X6_count_L261 Q m 0 (nI x) (nI i) M) (fun _ _ => True) 3 (fun k x => x + if gR M 25 k = -1 then 0 else 1) (fun x => Q (nI x) M) (fun m x _ hx => ?_) (fun m i x hi _ hx => ?_) (fun _ _ _ _ => trivial) 3 0 0 (by decide) trivial h
    · unfold p_X6_count_L261
      exact br_t (by decide) hx
    · unfold p_X6_count_L261 p_X6_count_b281
      rw [m_cl (show i < 100000 by omega), nI_1]
      refine br_f (nI_ge (b := 3) hi (by decide)) ⟨25, rfl, rfl, vp_in_nI hi (by decide), ?_⟩
      rw [nI_1, z0]
      refine nn_of (keptOk hC hi) (by decide) (fun d => ?_) (fun d => ?_)
      · rw [if_pos d] at hx; exact hx
      · rw [if_neg d] at hx; exact hx
  rw [if_neg c] at h
  exact br_f c h
theorem st_count (hI : Inv X M) (w : Int32) : p_X5_count 0 w X (fun u X' => p_X6_count 0 w M (fun u' M' => Z X' M' u u')) := by
  obtain ⟨F, q, N, hC⟩ := hI.2.2.2.2.2
  exact x_count hC (m_count hI hC ⟨rfl, hI⟩)
end CNT
