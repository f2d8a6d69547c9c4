/-! digest -/
def mx31 (h : Int64) (v : Int32) : Int64 := 31 * h + v.toInt64
def dgW (n : Nat → Nat) (a : Nat → Nat → Nat) (i : Nat) (h : Int64) : Int64 := itr (fun y h => mx31 h (nI (hO a i y))) 0 (n 2) (itr (fun k h => mx31 h (nI (owN n a i k))) 0 6 h)
def dgI (X : Sg) (b k : Nat) (h : Int64) : Int64 := itr (fun j h => mx31 h (gR X (b + 3 + k) j)) 0 (gR X (b + 1) k).toNatClampNeg (mx31 h (gR X (b + 1) k))
def dgS (X : Sg) (b m : Nat) (h : Int64) : Int64 := itr (fun k h => dgI X b k h) 0 m h
def dgA (X M : Sg) (n : Nat → Nat) (a : Nat → Nat → Nat) (N : Nat) : Int64 := itr (fun k h => mx31 h (gR M 25 k)) 0 3 (itr (fun i h => dgW n a i h) 0 (n 0) (itr (fun p h => mx31 h (nI (a 0 p))) 0 6 (itr (fun k h => mx31 h (cntV X M n a N (nI k))) 0 11 17)))
def dgV (X M : Sg) (n : Nat → Nat) (a : Nat → Nat → Nat) (N : Nat) : Int64 := dgS X 10 4 (dgS X 1 6 (dgA X M n a N))
theorem x_shelf {X : Sg} {h m w : Nat} (i : isS h m w) (hs : SH X h m w) {o : Option Nat} (ho : o = some h) {v : Int64} {Q : Int64 → Sg → Prop} (hQ : Q (dgS X h m v) X) : p_X5_mixedShelf v o X Q := by
  subst ho
  have hm := S_m i
  unfold p_X5_mixedShelf
  refine ⟨m + 1, ?_⟩
  refine lp_up (fun f k x => p_X5_mixedShelf_L2 Q f x (some h) (nI k) X) (fun _ _ => True) m (fun k x => dgI X h k x) (fun x => Q x X) (fun f x _ hx => ?_) (fun f k x hk _ hx => ?_) (fun _ _ _ _ => trivial) m 0 v (by omega) trivial hQ
  · unfold p_X5_mixedShelf_L2
    refine ⟨h, rfl, S_h i, h + 1, S_t0 i, Or.inl (S_k1 i), br_t ?_ hx⟩
    rw [S_l1 i]; exact nI_le (Nat.le_refl _) (by omega)
  · unfold p_X5_mixedShelf_L2 p_X5_mixed
    refine ⟨h, rfl, S_h i, h + 1, S_t0 i, Or.inl (S_k1 i), br_f ?_ ⟨h, rfl, S_h i, s_sizeOf i rfl hk ?_⟩⟩
    · rw [S_l1 i]; exact nI_ge hk (by omega)
    · unfold dgI at hx
      rcases neg_of (hs k hk) (by omega) with ⟨e1, e2, e3⟩ | ⟨c, hc, e1, e2, e3, e4⟩
      · refine ⟨1, ?_⟩
        unfold p_X5_mixedShelf_L28
        rw [e1] at hx ⊢
        rw [nI_1]
        exact br_t (by decide) hx
      · rw [e1, nI_clamp (by omega)] at hx
        rw [e1]
        refine ⟨c + 1, ?_⟩
        refine lp_up (fun f2 j x => p_X5_mixedShelf_L28 Q (fun y0 y2 y3 u => p_X5_mixedShelf_L2 Q f y0 y2 y3 u) f2 x (some h) (nI k) (nI c) (nI j) X) (fun _ _ => True) c (fun j x => mx31 x (gR X (h + 3 + k) j)) (fun x => p_X5_mixedShelf_L2 Q f x (some h) (nI (k + 1)) X) (fun f2 x _ hx => ?_) (fun f2 j x hj _ hx => ?_) (fun _ _ _ _ => trivial) c 0 _ (by omega) trivial hx
        · unfold p_X5_mixedShelf_L28
          rw [nI_1]
          exact br_t (nI_le (Nat.le_refl _) (by omega)) hx
        · unfold p_X5_mixedShelf_L28 p_X5_mixed
          rw [nI_1, nI_1]
          exact br_f (nI_ge hj (by omega)) ⟨h, rfl, S_h i, s_cell i rfl hk hc e1 rfl hj hx⟩
section DGT
variable {X M : Sg} {F : Ds} {q : Nat → Dd} {N : Nat}
theorem x_mixW {n : Nat → Nat} {a : Nat → Nat → Nat} (hv : VD X 25 n a) (hb : BV n a) {i : Nat} (hi : i < n 0) {v : Int64} {Q : Int64 → Sg → Prop} (hQ : Q (dgW n a i v) X) : p_X5_mixedWoman 0 v (nI i) X Q := by
  have b2 := hb.2.2.1
  unfold p_X5_mixedWoman
  refine ⟨7, ?_⟩
  refine lp_up (fun f k x => p_X5_mixedWoman_L3 Q f 0 x (nI i) (nI k) X) (fun _ _ => True) 6 (fun k x => mx31 x (nI (owN n a i k))) (fun x => Q (itr (fun y h => mx31 h (nI (hO a i y))) 0 (n 2) x) X) (fun f x _ hx => ?_) (fun f k x hk _ hx => ?_) (fun _ _ _ _ => trivial) 6 0 v (by decide) trivial hQ
  · unfold p_X5_mixedWoman_L3
    refine br_t (by decide) ⟨n 2 + 1, ?_⟩
    refine lp_up (fun f y x => p_X5_mixedWoman_L31 Q f 0 x (nI i) (nI y) X) (fun _ _ => True) (n 2) (fun y x => mx31 x (nI (hO a i y))) (fun x => Q x X) (fun f x _ hx => ?_) (fun f y x hy _ hx => ?_) (fun _ _ _ _ => trivial) (n 2) 0 x (by omega) trivial hx
    · unfold p_X5_mixedWoman_L31
      refine ⟨25, rfl, rfl, br_t ?_ hx⟩
      rw [hv.1 2 (by decide)]; exact nI_le (Nat.le_refl _) (by omega)
    · unfold p_X5_mixedWoman_L31 p_X5_mixed
      refine ⟨25, rfl, rfl, br_f ?_ ⟨25, rfl, rfl, e_hemOf isD25 hv hb hi hy ?_⟩⟩
      · rw [hv.1 2 (by decide)]; exact nI_ge hy (by omega)
      · rw [nI_1]; exact hx
  · unfold p_X5_mixedWoman_L3 p_X5_mixed
    refine br_f (nI_ge (b := 6) hk (by decide)) (x_fact hv hb hi (by omega) ?_)
    rw [nI_1]
    exact hx
theorem x_digest (hI : Inv X M) (hC : IC X M F q N) {Q : Int64 → Sg → Prop} (hQ : Q (dgV X M (rp F q N).1 (rp F q N).2 N) X) : p_X5_digest 0 X Q := by
  obtain ⟨hv, hm, hb, h3, h36⟩ := IC_now hC
  have b0 := hb.1
  unfold p_X5_digest
  refine ⟨12, ?_⟩
  unfold dgV dgA at hQ
  refine lp_up (fun f k x => p_X5_digest_L6 Q f 0 x (nI k) X) (fun _ _ => True) 11 (fun k h => mx31 h (cntV X M (rp F q N).1 (rp F q N).2 N (nI k))) (fun x => Q (dgS X 10 4 (dgS X 1 6 (itr (fun k h => mx31 h (gR M 25 k)) 0 3 (itr (fun i h => dgW (rp F q N).1 (rp F q N).2 i h) 0 ((rp F q N).1 0) (itr (fun p h => mx31 h (nI ((rp F q N).2 0 p))) 0 6 x))))) X) (fun f x _ hx => ?_) (fun f k x hk _ hx => ?_) (fun _ _ _ _ => trivial) 11 0 17 (by decide) trivial hQ
  rotate_left
  · unfold p_X5_digest_L6 p_X5_mixed
    refine br_f (nI_ge (b := 11) hk (by decide)) (x_count hC ?_)
    rw [nI_1]
    exact hx
  unfold p_X5_digest_L6
  refine br_t (by decide) ⟨7, ?_⟩
  refine lp_up (fun f k x => p_X5_digest_L30 Q f 0 x (nI k) X) (fun _ _ => True) 6 (fun p h => mx31 h (nI ((rp F q N).2 0 p))) (fun x => Q (dgS X 10 4 (dgS X 1 6 (itr (fun k h => mx31 h (gR M 25 k)) 0 3 (itr (fun i h => dgW (rp F q N).1 (rp F q N).2 i h) 0 ((rp F q N).1 0) x)))) X) (fun f x _ hx => ?_) (fun f k x hk _ hx => ?_) (fun _ _ _ _ => trivial) 6 0 x (by decide) trivial hx
  rotate_left
  · unfold p_X5_digest_L30 p_X5_mixed
    refine br_f (nI_ge (b := 6) hk (by decide)) ⟨25, rfl, rfl, d_item isD25 0 (by decide) rfl (show k < 6 from hk) ?_⟩
    rw [hv.2 0 (by decide) k hk, nI_1]
    exact hx
  unfold p_X5_digest_L30
  refine br_t (by decide) ⟨(rp F q N).1 0 + 1, ?_⟩
  refine lp_up (fun f k x => p_X5_digest_L60 Q f 0 x (nI k) X) (fun _ _ => True) ((rp F q N).1 0) (fun i h => dgW (rp F q N).1 (rp F q N).2 i h) (fun x => Q (dgS X 10 4 (dgS X 1 6 (itr (fun k h => mx31 h (gR M 25 k)) 0 3 x))) X) (fun f x _ hx => ?_) (fun f k x hk _ hx => ?_) (fun _ _ _ _ => trivial) ((rp F q N).1 0) 0 x (by omega) trivial hx
  rotate_left
  · unfold p_X5_digest_L60
    refine ⟨25, rfl, rfl, br_f ?_ (x_mixW hv hb hk ?_)⟩
    · rw [hv.1 0 (by decide)]; exact lt_w b0 hk
    · rw [nI_1]; exact hx
  unfold p_X5_digest_L60
  refine ⟨25, rfl, rfl, br_t (by rw [hv.1 0 (by decide)]; exact nI_le (Nat.le_refl _) (by omega)) ⟨4, ?_⟩⟩
  refine lp_up (fun f k x => p_X5_digest_L86 Q f 0 x (nI k) X) (fun _ _ => True) 3 (fun k h => mx31 h (gR M 25 k)) (fun x => Q (dgS X 10 4 (dgS X 1 6 x)) X) (fun f x _ hx => ?_) (fun f k x hk _ hx => ?_) (fun _ _ _ _ => trivial) 3 0 x (by decide) trivial hx
  · unfold p_X5_digest_L86
    exact ⟨18, rfl, Or.inr (Or.inl rfl), br_t (by decide) (x_shelf R1 (fun k hk => (hI.2.2.1 k hk).1) rfl (x_shelf R2 (fun k hk => (hI.2.2.2.1 k hk).1) rfl hx))⟩
  · unfold p_X5_digest_L86 p_X5_mixed
    refine ⟨18, rfl, Or.inr (Or.inl rfl), br_f (nI_ge (b := 3) hk (by decide)) (x_deedsKept hC hk ?_)⟩
    rw [nI_1]
    exact hx
theorem m_digest (hI : Inv X M) (hC : IC X M F q N) {Q : Int64 → Sg → Prop} (hQ : Q (dgV X M (rp F q N).1 (rp F q N).2 N) M) : p_X6_digest 0 M Q := by
  obtain ⟨hv, hm, hb, h3, h36⟩ := IC_now hC
  have b0 := hb.1
  have b2 := hb.2.2.1
  unfold p_X6_digest
  refine ⟨12, ?_⟩
  unfold dgV dgA at hQ
  refine lp_up (fun f k x => p_X6_digest_L6 Q f 0 x (nI k) M) (fun _ _ => True) 11 (fun k h => mx31 h (cntV X M (rp F q N).1 (rp F q N).2 N (nI k))) (fun x => Q (dgS X 10 4 (dgS X 1 6 (itr (fun k h => mx31 h (gR M 25 k)) 0 3 (itr (fun i h => dgW (rp F q N).1 (rp F q N).2 i h) 0 ((rp F q N).1 0) (itr (fun p h => mx31 h (nI ((rp F q N).2 0 p))) 0 6 x))))) M) (fun f x _ hx => ?_) (fun f k x hk _ hx => ?_) (fun _ _ _ _ => trivial) 11 0 17 (by decide) trivial hQ
  rotate_left
  · unfold p_X6_digest_L6
    refine br_f (nI_nlt (b := k) (a := 10) (by omega) (by decide)) (m_count hI hC ?_)
    rw [nI_1]
    exact hx
  unfold p_X6_digest_L6
  refine br_t (by decide) ⟨7, ?_⟩
  refine lp_up (fun f k x => p_X6_digest_L33 Q f 0 x (nI k) M) (fun _ _ => True) 6 (fun p h => mx31 h (nI ((rp F q N).2 0 p))) (fun x => Q (dgS X 10 4 (dgS X 1 6 (itr (fun k h => mx31 h (gR M 25 k)) 0 3 (itr (fun i h => dgW (rp F q N).1 (rp F q N).2 i h) 0 ((rp F q N).1 0) x)))) M) (fun f x _ hx => ?_) (fun f k x hk _ hx => ?_) (fun _ _ _ _ => trivial) 6 0 x (by decide) trivial hx
  rotate_left
  · have e : gR M 19 k = _ := hm.2.2.2.1 0 (by decide) k hk
    unfold p_X6_digest_L33
    rw [m_cl (show k < 100000 by omega), nI_1]
    refine br_f (nI_ge (b := 6) hk (by decide)) ⟨19, rfl, rfl, vp_in_nI hk (by decide), ?_⟩
    rw [e]
    exact hx
  unfold p_X6_digest_L33
  refine br_t (by decide) ⟨(rp F q N).1 0 + 1, ?_⟩
  refine lp_up (fun f k x => p_X6_digest_L61 Q f 0 x (nI k) M) (fun _ _ => True) ((rp F q N).1 0) (fun i h => dgW (rp F q N).1 (rp F q N).2 i h) (fun x => Q (dgS X 10 4 (dgS X 1 6 (itr (fun k h => mx31 h (gR M 25 k)) 0 3 x))) M) (fun f x _ hx => ?_) (fun f i x hi _ hx => ?_) (fun _ _ _ _ => trivial) ((rp F q N).1 0) 0 x (by omega) trivial hx
  rotate_left
  · unfold p_X6_digest_L61
    rw [hm.1]
    refine br_f (lt_w b0 hi) ⟨7, ?_⟩
    unfold dgW at hx
    refine lp_up (fun f2 k x => p_X6_digest_L72 Q (fun y0 y1 y3 u => p_X6_digest_L61 Q f y0 y1 y3 u) f2 0 x (nI i) (nI k) M) (fun _ _ => True) 6 (fun k x => mx31 x (nI (owN (rp F q N).1 (rp F q N).2 i k))) (fun x => p_X6_digest_L61 Q f 0 (itr (fun y h => mx31 h (nI (hO (rp F q N).2 i y))) 0 ((rp F q N).1 2) x) (nI (i + 1)) M) (fun f2 x _ hx => ?_) (fun f2 k x hk _ hx => ?_) (fun _ _ _ _ => trivial) 6 0 x (by decide) trivial hx
    · unfold p_X6_digest_L72
      refine br_t (by decide) ⟨(rp F q N).1 2 + 1, ?_⟩
      refine lp_up (fun f3 y x => p_X6_digest_L102 Q (fun y0 y1 y3 u => p_X6_digest_L61 Q f y0 y1 y3 u) f3 0 x (nI i) (nI y) M) (fun _ _ => True) ((rp F q N).1 2) (fun y x => mx31 x (nI (hO (rp F q N).2 i y))) (fun x => p_X6_digest_L61 Q f 0 x (nI (i + 1)) M) (fun f3 x _ hx => ?_) (fun f3 y x hy _ hx => ?_) (fun _ _ _ _ => trivial) ((rp F q N).1 2) 0 x (by omega) trivial hx
      · unfold p_X6_digest_L102
        rw [hm.2.2.1, nI_1]
        exact br_t (nI_le (Nat.le_refl _) (by omega)) hx
      · unfold p_X6_digest_L102
        rw [hm.2.2.1, ex6, m_cl (show y * 6 + i < 100000 by omega), nI_1, nI_1]
        refine br_f (nI_ge hy (by omega)) ⟨21, rfl, rfl, m_in (N := 48) rfl rfl (by omega) (by decide), ?_⟩
        rw [hm.2.2.2.2 i y hi hy]
        exact hx
    · unfold p_X6_digest_L72
      refine br_f (nI_nlt (b := k) (a := 5) (by omega) (by decide)) (m_fact hm hb hi (by omega) ?_)
      rw [nI_1]
      exact hx
  unfold p_X6_digest_L61
  rw [hm.1]
  refine br_t (nI_le (Nat.le_refl _) (by omega)) ⟨4, ?_⟩
  refine lp_up (fun f k x => p_X6_digest_L145 Q f 0 x (nI k) M) (fun _ _ => True) 3 (fun k h => mx31 h (gR M 25 k)) (fun x => Q (dgS X 10 4 (dgS X 1 6 x)) M) (fun f x _ hx => ?_) (fun f k x hk _ hx => ?_) (fun _ _ _ _ => trivial) 3 0 x (by decide) trivial hx
  rotate_left
  · unfold p_X6_digest_L145
    rw [m_cl (show k < 100000 by omega), nI_1]
    exact br_f (nI_ge (b := 3) hk (by decide)) ⟨25, rfl, rfl, vp_in_nI hk (by decide), hx⟩
  unfold p_X6_digest_L145
  refine br_t (by decide) ⟨7, ?_⟩
  refine lp_up (fun f k x => p_X6_digest_L172 Q f 0 x (nI k) M) (fun _ _ => True) 6 (fun k h => dgI X 1 k h) (fun x => Q (dgS X 10 4 x) M) (fun f x _ hx => ?_) (fun f k x hk _ hx => ?_) (fun _ _ _ _ => trivial) 6 0 x (by decide) trivial hx
  rotate_left
  · obtain ⟨s1, s2, s3⟩ := hI.2.2.1 k hk
    have ik : vp_in (nI k) (lM 3) := m_in (N := 6) rfl rfl hk (by decide)
    unfold p_X6_digest_L172
    rw [m_cl (show k < 100000 by omega)]
    refine br_f (nI_ge (b := 6) hk (by decide)) ⟨3, rfl, rfl, ik, ?_⟩
    rw [s2]
    unfold dgI at hx
    rcases neg_of s1 (by decide) with ⟨e1, e2, e3⟩ | ⟨c, hc, e1, e2, e3, e4⟩
    · refine ⟨1, ?_⟩
      unfold p_X6_digest_L195
      rw [m_cl (show k < 100000 by omega)]
      refine ⟨3, rfl, rfl, ik, ?_⟩
      rw [s2]
      rw [e1] at hx ⊢
      rw [nI_1]
      exact br_t (by decide) hx
    · rw [e1, nI_clamp (by omega)] at hx
      rw [e1]
      refine ⟨c + 1, ?_⟩
      refine lp_up (fun f2 j x => p_X6_digest_L195 Q (fun y0 y1 y3 u => p_X6_digest_L172 Q f y0 y1 y3 u) f2 0 x (nI k) (nI j) M) (fun _ _ => True) c (fun j x => mx31 x (gR X (1 + 3 + k) j)) (fun x => p_X6_digest_L172 Q f 0 x (nI (k + 1)) M) (fun f2 x _ hx => ?_) (fun f2 j x hj _ hx => ?_) (fun _ _ _ _ => trivial) c 0 _ (by omega) trivial hx
      · unfold p_X6_digest_L195
        rw [m_cl (show k < 100000 by omega)]
        refine ⟨3, rfl, rfl, ik, ?_⟩
        rw [s2, e1, nI_1]
        exact br_t (nI_le (Nat.le_refl _) (by omega)) hx
      · unfold p_X6_digest_L195
        rw [m_cl (show k < 100000 by omega), ixm (y := 40) 40 k j rfl, m_cl (show 40 * k + j < 100000 by omega)]
        refine ⟨3, rfl, rfl, ik, ?_⟩
        rw [s2, e1, nI_1, nI_1]
        refine br_f (nI_ge hj (by omega)) ⟨2, rfl, rfl, m_in (N := 240) rfl rfl (by omega) (by decide), ?_⟩
        rw [s3 j (by omega)]
        exact hx
  unfold p_X6_digest_L172
  refine br_t (by decide) ⟨5, ?_⟩
  refine lp_up (fun f k x => p_X6_digest_L240 Q f 0 x (nI k) M) (fun _ _ => True) 4 (fun k h => dgI X 10 k h) (fun x => Q x M) (fun f x _ hx => ?_) (fun f k x hk _ hx => ?_) (fun _ _ _ _ => trivial) 4 0 x (by decide) trivial hx
  · unfold p_X6_digest_L240
    exact br_t (by decide) hx
  · obtain ⟨s1, s2, s3⟩ := hI.2.2.2.1 k hk
    have ik : vp_in (nI k) (lM 5) := m_in (N := 4) rfl rfl hk (by decide)
    unfold p_X6_digest_L240
    rw [m_cl (show k < 100000 by omega)]
    refine br_f (nI_ge (b := 4) hk (by decide)) ⟨5, rfl, rfl, ik, ?_⟩
    rw [s2]
    unfold dgI at hx
    rcases neg_of s1 (by decide) with ⟨e1, e2, e3⟩ | ⟨c, hc, e1, e2, e3, e4⟩
    · refine ⟨1, ?_⟩
      unfold p_X6_digest_L262
      rw [m_cl (show k < 100000 by omega)]
      refine ⟨5, rfl, rfl, ik, ?_⟩
      rw [s2]
      rw [e1] at hx ⊢
      rw [nI_1]
      exact br_t (by decide) hx
    · rw [e1, nI_clamp (by omega)] at hx
      rw [e1]
      refine ⟨c + 1, ?_⟩
      refine lp_up (fun f2 j x => p_X6_digest_L262 Q (fun y0 y1 y3 u => p_X6_digest_L240 Q f y0 y1 y3 u) f2 0 x (nI k) (nI j) M) (fun _ _ => True) c (fun j x => mx31 x (gR X (10 + 3 + k) j)) (fun x => p_X6_digest_L240 Q f 0 x (nI (k + 1)) M) (fun f2 x _ hx => ?_) (fun f2 j x hj _ hx => ?_) (fun _ _ _ _ => trivial) c 0 _ (by omega) trivial hx
      · unfold p_X6_digest_L262
        rw [m_cl (show k < 100000 by omega)]
        refine ⟨5, rfl, rfl, ik, ?_⟩
        rw [s2, e1, nI_1]
        exact br_t (nI_le (Nat.le_refl _) (by omega)) hx
      · unfold p_X6_digest_L262
        rw [m_cl (show k < 100000 by omega), ixm (y := 60) 60 k j rfl, m_cl (show 60 * k + j < 100000 by omega)]
        refine ⟨5, rfl, rfl, ik, ?_⟩
        rw [s2, e1, nI_1, nI_1]
        refine br_f (nI_ge hj (by omega)) ⟨4, rfl, rfl, m_in (N := 240) rfl rfl (by omega) (by decide), ?_⟩
        rw [s3 j (by omega)]
        exact hx
theorem st_digest (hI : Inv X M) : p_X5_digest 0 X (fun u X' => p_X6_digest 0 M (fun u' M' => u = u' ∧ Inv X' M')) := by
  obtain ⟨F, q, N, hC⟩ := hI.2.2.2.2.2
  exact x_digest hI hC (m_digest hI hC ⟨rfl, hI⟩)
end DGT
