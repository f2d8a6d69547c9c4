/-! the model's deeds: one happens; all again from the start; a new one -/
def hM (M M' : Sg) : Prop := (∀ k, (k < 17 ∨ 23 < k) → gR M' k = gR M k) ∧ (∀ j, j ≠ 30 → j ≠ 31 → gI M' 0 j = gI M 0 j) ∧ ∀ k j, gJ M' k j = gJ M k j
theorem hM_rf (M : Sg) : hM M M := ⟨fun _ _ => rfl, fun _ _ _ => rfl, fun _ _ => rfl⟩
theorem hM_tr {A B C : Sg} (h : hM A B) (g : hM B C) : hM A C := ⟨fun k hk => (g.1 k hk).trans (h.1 k hk), fun j h1 h2 => (g.2.1 j h1 h2).trans (h.2.1 j h1 h2), fun k j => (g.2.2 k j).trans (h.2.2 k j)⟩
theorem hM_R (M : Sg) {k : Nat} (f : Nat → Int32) (hk : 17 ≤ k ∧ k ≤ 23) : hM M (setR M k f) := ⟨fun c hc => gR_ne _ _ (by omega), fun _ _ _ => rfl, fun _ _ => rfl⟩
theorem hM_I (M : Sg) (j : Nat) (v : Int32) (hj : j = 30 ∨ j = 31) : hM M (setI M 0 j v) := ⟨fun _ _ => rfl, fun c h1 h2 => gI_ne _ _ (by omega), fun _ _ => rfl⟩
theorem mno_inj : ∀ c, c < 8 → ∀ b, b < 8 → mno c = mno b → c = b := by decide
theorem mno_rg : ∀ c, c < 8 → 12 ≤ mno c ∧ mno c ≤ 23 ∧ mno c ≠ 21 := by decide
theorem hO_fuu {a : Nat → Nat → Nat} {c k v : Nat} (hc : c = 0 ∨ c = 2 ∨ c = 4) (i y : Nat) : hO (fuu a c k v) i y = hO a i y := by
  rcases hc with rfl | rfl | rfl <;> (unfold hO hT; simp [fuu])
theorem VM_set {s : Sg} {n : Nat → Nat} {a : Nat → Nat → Nat} {c k v : Nat} (hc : c = 0 ∨ c = 2 ∨ c = 4) (h : VM s n a) : VM (setR s (mno c) (upd (gR s (mno c)) k (nI v))) n (fuu a c k v) := by
  obtain ⟨v0, v1, v2, v4, v5⟩ := h
  refine ⟨v0, v1, v2, fun b hb i hi => ?_, fun i y hi hy => ?_⟩
  · rw [gR_if]
    by_cases e : b = c
    · subst e
      rw [if_pos rfl, upd_if]
      unfold fuu
      by_cases e2 : i = k
      · rw [if_pos e2, if_pos ⟨rfl, e2⟩]
      · rw [if_neg e2, if_neg (fun z => e2 z.2)]
        exact v4 b hb i hi
    · rw [if_neg (fun z => e (mno_inj b hb c (by omega) z))]
      unfold fuu
      rw [if_neg (fun z => e z.1)]
      exact v4 b hb i hi
  · rw [gR_ne _ _ (by have := mno_rg c (by omega); omega), hO_fuu hc]
    exact v5 i y hi hy
/-- the model's loop of a flood -/
def hmS (n : Nat → Nat) (a : Nat → Nat → Nat) (f i : Nat) (s : Sg) : Sg := setR (setR (setR s 21 (upd (gR s 21) (n 2 * 6 + i) (nI (hN n a i f (a 1 i))))) 22 (upd (gR s 22) (n 2 * 6 + i) (nI (a 0 (a 2 i))))) 23 (upd (gR s 23) (n 2 * 6 + i) (nI (a 4 i)))
def hmI (n : Nat → Nat) (a : Nat → Nat → Nat) (f : Nat) (s0 : Sg) (i : Nat) (s : Sg) : Prop := (∀ k, k ≠ 21 → k ≠ 22 → k ≠ 23 → gR s k = gR s0 k) ∧ (∀ j, gI s 0 j = gI s0 0 j) ∧ (∀ k j, gJ s k j = gJ s0 k j) ∧ (∀ k, k / 6 ≠ n 2 → gR s 21 k = gR s0 21 k ∧ gR s 22 k = gR s0 22 k ∧ gR s 23 k = gR s0 23 k) ∧ ∀ k, k < i → gR s 21 (n 2 * 6 + k) = nI (hN n a k f (a 1 k)) ∧ gR s 22 (n 2 * 6 + k) = nI (a 0 (a 2 k)) ∧ gR s 23 (n 2 * 6 + k) = nI (a 4 k)
theorem hmI_step {n : Nat → Nat} {a : Nat → Nat → Nat} {f : Nat} {s0 s : Sg} {i : Nat} (hi : i < 6) (h : hmI n a f s0 i s) : hmI n a f s0 (i + 1) (hmS n a f i s) := by
  obtain ⟨h1, h2, h3, h4, h5⟩ := h
  have e21 : gR (hmS n a f i s) 21 = upd (gR s 21) (n 2 * 6 + i) (nI (hN n a i f (a 1 i))) := by
    unfold hmS
    rw [gR_ne _ _ (by decide), gR_ne _ _ (by decide), gR_same]
  have e22 : gR (hmS n a f i s) 22 = upd (gR s 22) (n 2 * 6 + i) (nI (a 0 (a 2 i))) := by
    unfold hmS
    rw [gR_ne _ _ (by decide), gR_same]
  have e23 : gR (hmS n a f i s) 23 = upd (gR s 23) (n 2 * 6 + i) (nI (a 4 i)) := by
    unfold hmS
    rw [gR_same]
  refine ⟨fun k k1 k2 k3 => ?_, h2, h3, fun k hk => ?_, fun k hk => ?_⟩
  · unfold hmS
    rw [gR_ne _ _ k3, gR_ne _ _ k2, gR_ne _ _ k1]
    exact h1 k k1 k2 k3
  · rw [e21, e22, e23, upd_n _ _ (by omega), upd_n _ _ (by omega), upd_n _ _ (by omega)]
    exact h4 k hk
  · rw [e21, e22, e23]
    by_cases e : k = i
    · subst e
      rw [upd_s, upd_s, upd_s]
      exact ⟨rfl, rfl, rfl⟩
    · rw [upd_n _ _ (by omega), upd_n _ _ (by omega), upd_n _ _ (by omega)]
      exact h5 k (by omega)
theorem hmI_VM {n : Nat → Nat} {a : Nat → Nat → Nat} {f : Nat} {s0 s : Sg} {i : Nat} (h6 : n 0 ≤ 6) (hv : VM s0 n a) (h : hmI n a f s0 i s) : VM s n a := by
  obtain ⟨h1, h2, h3, h4, h5⟩ := h
  obtain ⟨v0, v1, v2, v4, v5⟩ := hv
  refine ⟨(h2 20).trans v0, (h2 30).trans v1, (h2 31).trans v2, fun c hc k hk => ?_, fun k y hk hy => ?_⟩
  · have old := v4 c hc k hk
    rcases (show c = 0 ∨ c = 1 ∨ c = 2 ∨ c = 3 ∨ c = 4 ∨ c = 5 ∨ c = 6 ∨ c = 7 by omega) with rfl | rfl | rfl | rfl | rfl | rfl | rfl | rfl
    · exact (congrFun (h1 19 (by decide) (by decide) (by decide)) k).trans old
    · exact (congrFun (h1 12 (by decide) (by decide) (by decide)) k).trans old
    · exact (congrFun (h1 17 (by decide) (by decide) (by decide)) k).trans old
    · exact (congrFun (h1 13 (by decide) (by decide) (by decide)) k).trans old
    · exact (congrFun (h1 18 (by decide) (by decide) (by decide)) k).trans old
    · exact (congrFun (h1 20 (by decide) (by decide) (by decide)) k).trans old
    · have hk : k % 6 < n 0 ∧ k / 6 < n 2 := hk
      exact (h4 k (by omega)).2.1.trans old
    · have hk : k % 6 < n 0 ∧ k / 6 < n 2 := hk
      exact (h4 k (by omega)).2.2.trans old
  · rw [(h4 (y * 6 + k) (by omega)).1]
    exact v5 k y hk hy
theorem ex6 (y i : Nat) : 6 * nI y + nI i = nI (y * 6 + i) := by rw [show (6 : Int32) = nI 6 from rfl, pk_mul, nI_add, Nat.mul_comm]
theorem m_happen {s : Sg} {n : Nat → Nat} {a : Nat → Nat → Nat} {q : Dd} {Q : Sg → Prop} {x y z : Int32} (hx : x = nI q.1) (hy : y = nI q.2.1) (hz : z = nI q.2.2) (hv : VM s n a) (hb : BV n a) (hq : okD q n a) (h : ∀ s', VM s' (stN q n) (stA q n a) → hM s s' → Q s') : p_X6_happen 0 x y z s Q := by
  subst hx hy hz
  have hb' := hb
  obtain ⟨b0, b1, b2, b4, b5, b6, b7⟩ := hb
  have hv' := hv
  obtain ⟨v0, v1, v2, v4, v5⟩ := hv
  obtain ⟨w, t, u⟩ := q
  unfold p_X6_happen
  rcases hq with ⟨rfl, q1, q2⟩ | ⟨rfl, q1, q2⟩ | ⟨rfl, q1, q2, q3⟩ | ⟨rfl, q1, q2⟩
  · have q1 : t ≤ 20 := q1
    refine br_t rfl ⟨n 0 + 1, ?_⟩
    refine lp_up (fun m i x => p_X6_happen_L31 Q m 0 (nI t) (nI i) x) (fun i x => hmI n a t s i x) (n 0) (hmS n a t) (fun x => hmI n a t s (n 0) x → Q (setI (setR x 20 (upd (gR x 20) (n 2) (nI t))) 0 31 (nI (n 2 + 1)))) (fun m x hi hx => ?_) (fun m i x hi hI hx => ?_) (fun i x hi hI => hmI_step (by omega) hI) (n 0) 0 s (by omega) ⟨fun _ _ _ _ => rfl, fun _ => rfl, fun _ _ => rfl, fun _ _ => ⟨rfl, rfl, rfl⟩, fun k hk => absurd hk (Nat.not_lt_zero k)⟩ ?_
    · unfold p_X6_happen_L31
      have e20 : gI x 0 20 = nI (n 0) := (hi.2.1 20).trans v0
      have e31 : gI x 0 31 = nI (n 2) := (hi.2.1 31).trans v2
      rw [e20, e31]
      refine br_t (nI_le (Nat.le_refl _) (by omega)) ⟨20, rfl, rfl, m_in (N := 8) rfl rfl (by omega) (by decide), ?_⟩
      rw [m_cl (show n 2 < 100000 by omega), gI_R, e31, nI_1]
      exact hx hi
    · have hI' := hI
      have hvm := hmI_VM b0 hv' hI
      obtain ⟨c1, c2, c3, c4, c5⟩ := b5 i hi
      obtain ⟨u0, u1, u2, u4, u5⟩ := hvm
      have p1 : gR x 12 i = nI (a 1 i) := u4 1 (by decide) i hi
      have p2 : gR x 17 i = nI (a 2 i) := u4 2 (by decide) i hi
      have p4 : gR x 18 i = nI (a 4 i) := u4 4 (by decide) i hi
      have p0 : gR x 19 (a 2 i) = nI (a 0 (a 2 i)) := u4 0 (by decide) _ (show a 2 i < 6 by omega)
      have ix : vp_in (nI (n 2 * 6 + i)) 48 := vp_in_nI (by omega) (by decide)
      have ii : vp_in (nI i) 6 := vp_in_nI (by omega) (by decide)
      unfold p_X6_happen_L31
      rw [u0, u2, ex6, m_cl (show i < 100000 by omega), m_cl (show n 2 * 6 + i < 100000 by omega)]
      refine br_f (lt_w b0 hi) ⟨12, rfl, rfl, ii, ?_⟩
      rw [p1]
      refine m_hemNow ⟨u0, u1, u2, u4, u5⟩ hb' hi (by omega) c1 ⟨21, rfl, rfl, ix, 17, rfl, rfl, ii, 19, rfl, rfl, ?_, 22, rfl, rfl, ix, 18, rfl, rfl, ii, 23, rfl, rfl, ix, ?_⟩
      · rw [gR_ne _ _ (by decide), p2]
        exact vp_in_nI (show a 2 i < 6 by omega) (by decide)
      · rw [nI_1]
        simp only [gR_if, Nat.reduceEqDiff, ↓reduceIte]
        rw [p2, m_cl (show a 2 i < 100000 by omega), p0, p4]
        exact hx
    · intro hI
      have hvm := hmI_VM b0 hv' hI
      obtain ⟨I1, I2, I3, I4, I5⟩ := hI
      obtain ⟨u0, u1, u2, u4, u5⟩ := hvm
      generalize itr (hmS n a t) 0 (n 0) s = x at *
      have e2 : stA (0, t, u) n a = (fun c i => if c = 5 ∧ i = n 2 then t else if c = 6 ∧ i / 6 = n 2 then a 0 (a 2 (i % 6)) else if c = 7 ∧ i / 6 = n 2 then a 4 (i % 6) else a c i) := rfl
      have e1 : stN (0, t, u) n = fu n 2 (n 2 + 1) := rfl
      have hS : ∀ c k, c ≠ 20 → gR (setI (setR x 20 (upd (gR x 20) (n 2) (nI t))) 0 31 (nI (n 2 + 1))) c k = gR x c k := fun c k hc => by rw [gR_I, gR_ne _ _ hc]
      refine h _ ?_ ⟨fun k hk => ?_, fun j h1 h2 => ?_, fun k j => I3 k j⟩
      · rw [e1, e2]
        refine ⟨by rw [gI_ne _ _ (by omega)]; exact u0, by rw [gI_ne _ _ (by omega)]; exact u1, gI_same _ _ _ _, fun c hc k hk => ?_, fun k y hk hy => ?_⟩
        · have hk' : rng (fu n 2 (n 2 + 1)) c k := hk
          show _ = nI (if c = 5 ∧ k = n 2 then t else if c = 6 ∧ k / 6 = n 2 then a 0 (a 2 (k % 6)) else if c = 7 ∧ k / 6 = n 2 then a 4 (k % 6) else a c k)
          by_cases e5 : c = 5
          · subst e5
            have hk5 : k < n 2 + 1 := hk'
            show gR (setI (setR x 20 (upd (gR x 20) (n 2) (nI t))) 0 31 (nI (n 2 + 1))) 20 k = _
            rw [gR_I, gR_same, upd_if]
            by_cases e : k = n 2
            · rw [if_pos e, if_pos ⟨rfl, e⟩]
            · rw [if_neg e, if_neg (fun z => e z.2), if_neg (by omega), if_neg (by omega)]
              exact u4 5 (by decide) k (show k < n 2 by omega)
          · rw [if_neg (fun z => e5 z.1), hS _ _ (fun z => e5 (mno_inj c hc 5 (by decide) z))]
            by_cases e67 : c = 6 ∨ c = 7
            · have hk6 : k % 6 < n 0 ∧ k / 6 < n 2 + 1 := by rcases e67 with rfl | rfl <;> exact hk'
              by_cases e : k / 6 = n 2
              · have ek : n 2 * 6 + k % 6 = k := by omega
                have := I5 (k % 6) hk6.1
                rw [ek] at this
                rcases e67 with rfl | rfl
                · rw [if_pos ⟨rfl, e⟩]; exact this.2.1
                · rw [if_neg (by omega), if_pos ⟨rfl, e⟩]; exact this.2.2
              · rw [if_neg (fun z => e z.2), if_neg (fun z => e z.2)]
                rcases e67 with rfl | rfl
                · exact u4 6 (by decide) k (show k % 6 < n 0 ∧ k / 6 < n 2 by omega)
                · exact u4 7 (by decide) k (show k % 6 < n 0 ∧ k / 6 < n 2 by omega)
            · rw [if_neg (by omega), if_neg (by omega)]
              refine u4 c hc k ?_
              have : c = 0 ∨ c = 1 ∨ c = 2 ∨ c = 3 ∨ c = 4 := by omega
              rcases this with rfl | rfl | rfl | rfl | rfl <;> exact hk'
        · have hk : k < n 0 := hk
          have hy : y < n 2 + 1 := hy
          have m1 : (y * 6 + k) % 6 = k := by omega
          have m2 : (y * 6 + k) / 6 = y := by omega
          rw [hS _ _ (by decide)]
          unfold hO hT
          simp only []
          rw [m1, m2]
          by_cases e : y = n 2
          · subst e
            rw [(I5 k hk).1]
            simp [hN]
          · rw [u5 k y hk (by omega)]
            simp [hO, hT, e]
      · rw [gR_I, gR_ne _ _ (by omega)]
        exact I1 k (by omega) (by omega) (by omega)
      · rw [gI_ne _ _ (by omega)]
        exact I2 j
  · have q1 : t < n 0 := q1
    refine br_f (show ¬ nI 1 = 0 by decide) (br_t rfl ⟨17, rfl, rfl, m_in (N := 6) rfl rfl (show t < 6 by omega) (by decide), ?_⟩)
    rw [m_cl (show t < 100000 by omega)]
    exact h _ (VM_set (c := 2) (Or.inr (Or.inl rfl)) hv') (hM_R _ _ (by omega))
  · have q1 : t < 6 := q1
    have q3 : 1 ≤ n 1 := q3
    have i6 : vp_in (nI t) (lM 19) := m_in (N := 6) rfl rfl q1 (by decide)
    refine br_f (show ¬ nI 2 = 0 by decide) (br_f (show ¬ nI 2 = 1 by decide) (br_t rfl ⟨19, rfl, rfl, i6, 19, rfl, rfl, i6, ?_⟩))
    have e0 : gR s 19 t = nI (a 0 t) := v4 0 (by decide) t (show t < 6 by omega)
    show Q (setI (setR s 19 (upd (gR s 19) (nI t).toNatClampNeg (gR s 19 (nI t).toNatClampNeg + 1))) 0 30 (gI (setR s 19 (upd (gR s 19) (nI t).toNatClampNeg (gR s 19 (nI t).toNatClampNeg + 1))) 0 30 - 1))
    rw [m_cl (show t < 100000 by omega), e0, nI_1, gI_R, v1]
    have e1 : nI (n 1) - 1 = nI (n 1 - 1) := pk_sub (b := 1) q3
    rw [e1]
    have hv2 := VM_set (c := 0) (k := t) (v := a 0 t + 1) (Or.inl rfl) hv'
    obtain ⟨u0, u1, u2, u4, u5⟩ := hv2
    refine h _ ⟨?_, gI_same _ _ _ _, ?_, fun c hc i hi => ?_, fun i y hi hy => ?_⟩ (hM_tr (hM_R _ _ (by omega)) (hM_I _ _ _ (Or.inl rfl)))
    · rw [gI_ne _ _ (by omega)]; exact u0
    · rw [gI_ne _ _ (by omega)]; exact u2
    · exact u4 c hc i hi
    · exact u5 i y hi hy
  · have q1 : t < n 0 := q1
    have i6 : vp_in (nI t) (lM 18) := m_in (N := 6) rfl rfl (show t < 6 by omega) (by decide)
    refine br_f (show ¬ nI 3 = 0 by decide) (br_f (show ¬ nI 3 = 1 by decide) (br_f (show ¬ nI 3 = 2 by decide) ⟨18, rfl, rfl, i6, 18, rfl, rfl, i6, ?_⟩))
    have e0 : gR s 18 t = nI (a 4 t) := v4 4 (by decide) t q1
    show Q (setR s 18 (upd (gR s 18) (nI t).toNatClampNeg (gR s 18 (nI t).toNatClampNeg + 1)))
    rw [m_cl (show t < 100000 by omega), e0, nI_1]
    exact h _ (VM_set (c := 4) (k := t) (v := a 4 t + 1) (Or.inr (Or.inr rfl)) hv') (hM_R _ _ (by omega))
/-- what lies in the log and in what was told stays -/
theorem MD_of {M M' : Sg} {F : Ds} {q : Nat → Dd} {N : Nat} (hv : VM M' (rp F q N).1 (rp F q N).2) (h36 : gI M 0 36 = nI N) (hL : LG M 24 0 q N) (hF : FM M F) (b : hM M M') : MD M' F q N := by
  refine ⟨hv, by rw [b.2.1 36 (by decide) (by decide)]; exact h36, ?_, ?_⟩
  · unfold LG
    rw [b.1 24 (by omega)]
    exact hL
  · unfold FM
    rw [b.2.1 20 (by decide) (by decide), b.2.1 26 (by decide) (by decide), b.1 16 (by omega), b.1 12 (by omega), b.1 14 (by omega), b.1 13 (by omega), b.1 15 (by omega)]
    exact hF
theorem m_goThrough {M : Sg} {F : Ds} {q : Nat → Dd} {N : Nat} {Q : Sg → Prop} (hb : BV F.1 F.2) (h2 : F.1 2 = 0) (hN : N ≤ 40) (hok : allOk F q N) (h36 : gI M 0 36 = nI N) (hL : LG M 24 0 q N) (hF : FM M F) (h : ∀ M', MD M' F q N → hM M M' → Q M') : p_X6_goThrough 0 M Q := by
  unfold p_X6_goThrough
  refine ⟨7, ?_⟩
  have deeds : ∀ r i s, i + r = N → VM s (rp F q i).1 (rp F q i).2 → hM M s → p_X6_goThrough_L65 Q (r + 1) 0 (nI i) s := by
    intro r
    induction r with
    | zero =>
      intro i s hi hv hm
      unfold p_X6_goThrough_L65
      rw [hm.2.1 36 (by decide) (by decide), h36, show i = N by omega]
      rw [show i = N by omega] at hv
      exact br_t (nI_le (Nat.le_refl _) (by omega)) (h s (MD_of hv h36 hL hF hm) hm)
    | succ r ih =>
      intro i s hi hv hm
      obtain ⟨l1, l2, l3⟩ := hL i (by omega)
      rw [Nat.zero_add] at l1 l2 l3
      have x0 : 3 * nI i = nI (3 * i) := by rw [show (3 : Int32) = nI 3 from rfl, pk_mul]
      have x1 : nI (3 * i) + 1 = nI (3 * i + 1) := nI_1 _
      have x2 : nI (3 * i) + 2 = nI (3 * i + 2) := by rw [show (2 : Int32) = nI 2 from rfl, nI_add]
      unfold p_X6_goThrough_L65
      rw [hm.2.1 36 (by decide) (by decide), h36, x0, x1, x2, m_cl (show 3 * i < 100000 by omega), m_cl (show 3 * i + 1 < 100000 by omega), m_cl (show 3 * i + 2 < 100000 by omega), nI_1]
      refine br_f (nI_ge (by omega) (by omega)) ⟨24, rfl, rfl, m_in (N := 120) rfl rfl (by omega) (by decide), 24, rfl, rfl, m_in (N := 120) rfl rfl (by omega) (by decide), 24, rfl, rfl, m_in (N := 120) rfl rfl (by omega) (by decide), ?_⟩
      rw [hm.1 24 (by omega), l1, l2, l3]
      exact m_happen (q := q i) rfl rfl rfl hv (BV_rp hb (fun k hk => hok k (by omega))) (hok i (by omega)) (fun s' hv' hm' => ih (i + 1) s' (by omega) hv' (hM_tr hm hm'))
  obtain ⟨f1, f2, f3, f4⟩ := hF
  have cells : ∀ r i s, i + r = 6 → hM M s → (∀ j, gI s 0 j = gI M 0 j) → (∀ j, j < i → gR s 17 j = gR M 14 j ∧ gR s 18 j = gR M 15 j ∧ gR s 19 j = gR M 16 j) → p_X6_goThrough_L2 Q (r + 1) 0 (nI i) s := by
    intro r
    induction r with
    | zero =>
      intro i s hi hm hg hc
      have hi6 : i = 6 := by omega
      subst hi6
      unfold p_X6_goThrough_L2
      refine br_t (by decide) ⟨N + 1, ?_⟩
      rw [hg 26, f2]
      refine deeds N 0 _ (by omega) ?_ (hM_tr (hM_tr hm (hM_I _ _ _ (Or.inl rfl))) (hM_I _ _ _ (Or.inr rfl)))
      have b0 := hb.1
      refine ⟨?_, ?_, ?_, fun c hc2 k hk => ?_, fun k y hk hy => ?_⟩
      · rw [gI_ne _ _ (by omega), gI_ne _ _ (by omega), hg 20]; exact f1
      · rw [gI_ne _ _ (by omega), gI_same]; rfl
      · rw [gI_same]
        show _ = nI (F.1 2)
        rw [h2]; rfl
      · have hk : rng F.1 c k := hk
        show gR s (mno c) k = nI (F.2 c k)
        rcases (show c = 0 ∨ c = 1 ∨ c = 2 ∨ c = 3 ∨ c = 4 ∨ c = 5 ∨ c = 6 ∨ c = 7 by omega) with rfl | rfl | rfl | rfl | rfl | rfl | rfl | rfl
        · have hk : k < 6 := hk
          exact (hc k hk).2.2.trans (f3 k hk)
        · have hk : k < F.1 0 := hk
          exact (congrFun (hm.1 12 (by omega)) k).trans (f4 k hk).1
        · have hk : k < F.1 0 := hk
          exact (hc k (by omega)).1.trans (f4 k hk).2.1
        · have hk : k < F.1 0 := hk
          exact (congrFun (hm.1 13 (by omega)) k).trans (f4 k hk).2.2.1
        · have hk : k < F.1 0 := hk
          exact (hc k (by omega)).2.1.trans (f4 k hk).2.2.2
        · have hk : k < F.1 2 := hk
          omega
        · have hk : k % 6 < F.1 0 ∧ k / 6 < F.1 2 := hk
          omega
        · have hk : k % 6 < F.1 0 ∧ k / 6 < F.1 2 := hk
          omega
      · have hy : y < F.1 2 := hy
        omega
    | succ r ih =>
      intro i s hi hm hg hc
      have ii : vp_in (nI i) 6 := vp_in_nI (by omega) (by decide)
      unfold p_X6_goThrough_L2
      rw [m_cl (show i < 100000 by omega), nI_1]
      refine br_f (nI_ge (b := 6) (by omega) (by decide)) ⟨14, rfl, rfl, ii, 17, rfl, rfl, ii, 15, rfl, rfl, ii, 18, rfl, rfl, ii, 16, rfl, rfl, ii, 19, rfl, rfl, ii, ?_⟩
      simp only [gR_if, Nat.reduceEqDiff, ↓reduceIte]
      refine ih (i + 1) _ (by omega) (hM_tr (hM_tr (hM_tr hm (hM_R _ _ (by omega))) (hM_R _ _ (by omega))) (hM_R _ _ (by omega))) hg (fun j hj => ?_)
      simp only [gR_if, Nat.reduceEqDiff, ↓reduceIte]
      rw [upd_if, upd_if, upd_if, hm.1 14 (by omega), hm.1 15 (by omega), hm.1 16 (by omega)]
      by_cases e : j = i
      · subst e
        rw [if_pos rfl, if_pos rfl, if_pos rfl]
        exact ⟨rfl, rfl, rfl⟩
      · rw [if_neg e, if_neg e, if_neg e]
        exact hc j (by omega)
  exact cells 6 0 M (by omega) (hM_rf M) (fun _ => rfl) (fun j hj => absurd hj (Nat.not_lt_zero j))
/-- beside the deeds, all as it was -/
def mDf (M M' : Sg) : Prop := (∀ k, (k < 17 ∨ 24 < k) → gR M' k = gR M k) ∧ (∀ j, j ≠ 30 → j ≠ 31 → j ≠ 36 → gI M' 0 j = gI M 0 j) ∧ ∀ k j, gJ M' k j = gJ M k j
theorem mDf_h {M M' : Sg} (h : hM M M') : mDf M M' := ⟨fun k hk => h.1 k (by omega), fun j h1 h2 _ => h.2.1 j h1 h2, h.2.2⟩
theorem mDf_rf (M : Sg) : mDf M M := mDf_h (hM_rf M)
theorem mDf_tr {A B C : Sg} (h : mDf A B) (g : mDf B C) : mDf A C := ⟨fun k hk => (g.1 k hk).trans (h.1 k hk), fun j h1 h2 h3 => (g.2.1 j h1 h2 h3).trans (h.2.1 j h1 h2 h3), fun k j => (g.2.2 k j).trans (h.2.2 k j)⟩
theorem LG_qup {s : Sg} {c b N : Nat} {q : Nat → Dd} {x : Dd} (h : LG s c b q N) (h1 : gR s c (b + 3 * N) = nI x.1) (h2 : gR s c (b + (3 * N + 1)) = nI x.2.1) (h3 : gR s c (b + (3 * N + 2)) = nI x.2.2) : LG s c b (qup q N x) (N + 1) := fun k hk => by
  by_cases e : k = N
  · subst e
    rw [qup_s]
    exact ⟨h1, h2, h3⟩
  · rw [qup_n q x e]
    exact h k (by omega)
theorem m_does {M : Sg} {F : Ds} {q : Nat → Dd} {N : Nat} {x : Dd} {Q : Sg → Prop} {x0 x1 x2 : Int32} (e0 : x0 = nI x.1) (e1 : x1 = nI x.2.1) (e2 : x2 = nI x.2.2) (hN : N < 40) (hb : BV (rp F q N).1 (rp F q N).2) (hm : MD M F q N) (hq : okD x (rp F q N).1 (rp F q N).2) (h : ∀ M', MD M' F (qup q N x) (N + 1) → mDf M M' → Q M') : p_X6_does 0 x0 x1 x2 M Q := by
  obtain ⟨hv, h36, hL, hF⟩ := hm
  have y0 : 3 * nI N = nI (3 * N) := by rw [show (3 : Int32) = nI 3 from rfl, pk_mul]
  have y1 : nI (3 * N) + 1 = nI (3 * N + 1) := nI_1 _
  have y2 : nI (3 * N) + 2 = nI (3 * N + 2) := by rw [show (2 : Int32) = nI 2 from rfl, nI_add]
  unfold p_X6_does
  simp only [gI_R]
  rw [h36, y0, y1, y2, m_cl (show 3 * N < 100000 by omega), m_cl (show 3 * N + 1 < 100000 by omega), m_cl (show 3 * N + 2 < 100000 by omega), nI_1]
  refine ⟨24, rfl, rfl, m_in (N := 120) rfl rfl (by omega) (by decide), 24, rfl, rfl, m_in (N := 120) rfl rfl (by omega) (by decide), 24, rfl, rfl, m_in (N := 120) rfl rfl (by omega) (by decide), ?_⟩
  generalize hs : setI (setR (setR (setR M 24 (upd (gR M 24) (3 * N) x0)) 24 (upd (gR (setR M 24 (upd (gR M 24) (3 * N) x0)) 24) (3 * N + 1) x1)) 24 (upd (gR (setR (setR M 24 (upd (gR M 24) (3 * N) x0)) 24 (upd (gR (setR M 24 (upd (gR M 24) (3 * N) x0)) 24) (3 * N + 1) x1)) 24) (3 * N + 2) x2)) 0 36 (nI (N + 1)) = s
  have g24 : gR s 24 = upd (upd (upd (gR M 24) (3 * N) x0) (3 * N + 1) x1) (3 * N + 2) x2 := by
    rw [← hs, gR_I, gR_same, gR_same, gR_same]
  have gk : ∀ k, k ≠ 24 → gR s k = gR M k := fun k hk => by
    rw [← hs, gR_I, gR_ne _ _ hk, gR_ne _ _ hk, gR_ne _ _ hk]
  have gi : ∀ j, j ≠ 36 → gI s 0 j = gI M 0 j := fun j hj => by
    rw [← hs, gI_ne _ _ (by omega)]
    rfl
  have g36 : gI s 0 36 = nI (N + 1) := by rw [← hs, gI_same]
  have fr : mDf M s := ⟨fun k hk => gk k (by omega), fun j _ _ h3 => gi j h3, fun k j => by rw [← hs]; rfl⟩
  have hvs : VM s (rp F q N).1 (rp F q N).2 := by
    obtain ⟨v0, v1, v2, v4, v5⟩ := hv
    refine ⟨(gi 20 (by decide)).trans v0, (gi 30 (by decide)).trans v1, (gi 31 (by decide)).trans v2, fun c hc i hi => ?_, fun i y hi hy => ?_⟩
    · rw [gk _ (by have := mno_rg c hc; omega)]
      exact v4 c hc i hi
    · rw [gk 21 (by decide)]
      exact v5 i y hi hy
  have hLs : LG s 24 0 (qup q N x) (N + 1) := by
    refine LG_qup (fun k hk => ?_) ?_ ?_ ?_
    · have := hL k hk
      rw [Nat.zero_add, Nat.zero_add, Nat.zero_add] at this ⊢
      rw [g24, upd_n _ _ (by omega), upd_n _ _ (by omega), upd_n _ _ (by omega), upd_n _ _ (by omega), upd_n _ _ (by omega), upd_n _ _ (by omega), upd_n _ _ (by omega), upd_n _ _ (by omega), upd_n _ _ (by omega)]
      exact this
    · rw [Nat.zero_add, g24, upd_n _ _ (by omega), upd_n _ _ (by omega), upd_s]; exact e0
    · rw [Nat.zero_add, g24, upd_n _ _ (by omega), upd_s]; exact e1
    · rw [Nat.zero_add, g24, upd_s]; exact e2
  have hFs : FM s F := by
    unfold FM
    rw [gi 20 (by decide), gi 26 (by decide), gk 16 (by decide), gk 12 (by decide), gk 14 (by decide), gk 13 (by decide), gk 15 (by decide)]
    exact hF
  refine m_happen (q := x) e0 e1 e2 hvs hb hq (fun s' hv' hm' => h s' (MD_of ?_ g36 hLs hFs hm') (mDf_tr fr (mDf_h hm')))
  rw [rp_last]
  exact hv'
