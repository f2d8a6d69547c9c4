section DD2
variable {s : Sg} {d : Nat} {F : Ds} {q : Nat → Dd} {N : Nat} {Q : Sg → Prop}
/-- the flood's loop over the women -/
def flS (d : Nat) (n : Nat → Nat) (a : Nat → Nat → Nat) (i : Nat) (s : Sg) : Sg := setR (setR s (d + 1 + 6) (upd (gR s (d + 1 + 6)) (n 2 * 6 + i) (nI (a 0 (a 2 i))))) (d + 1 + 7) (upd (gR s (d + 1 + 7)) (n 2 * 6 + i) (nI (a 4 i)))
def flI (d : Nat) (n : Nat → Nat) (a : Nat → Nat → Nat) (s0 : Sg) (i : Nat) (s : Sg) : Prop := outD d s0 s ∧ (∀ c, c < 11 → c ≠ 6 → c ≠ 7 → gR s (d + 1 + c) = gR s0 (d + 1 + c)) ∧ (∀ j, gI s d j = gI s0 d j) ∧ (∀ k, k / 6 ≠ n 2 → gR s (d + 1 + 6) k = gR s0 (d + 1 + 6) k ∧ gR s (d + 1 + 7) k = gR s0 (d + 1 + 7) k) ∧ ∀ k, k < i → gR s (d + 1 + 6) (n 2 * 6 + k) = nI (a 0 (a 2 k)) ∧ gR s (d + 1 + 7) (n 2 * 6 + k) = nI (a 4 k)
theorem flI_step {n : Nat → Nat} {a : Nat → Nat → Nat} {s0 s : Sg} {i : Nat} (hi : i < 6) (h : flI d n a s0 i s) : flI d n a s0 (i + 1) (flS d n a i s) := by
  obtain ⟨h1, h2, h3, h4, h5⟩ := h
  have e6 : gR (flS d n a i s) (d + 1 + 6) = upd (gR s (d + 1 + 6)) (n 2 * 6 + i) (nI (a 0 (a 2 i))) := by
    unfold flS
    rw [gr_set, if_neg (by decide), gr_set, if_pos rfl]
  have e7 : gR (flS d n a i s) (d + 1 + 7) = upd (gR s (d + 1 + 7)) (n 2 * 6 + i) (nI (a 4 i)) := by
    unfold flS
    rw [gr_set, if_pos rfl]
  refine ⟨outD_tr h1 (outD_tr (outD_R _ 6 (by decide) _) (outD_R _ 7 (by decide) _)), fun c hc h6 h7 => ?_, fun j => h3 j, fun k hk => ?_, fun k hk => ?_⟩
  · unfold flS
    rw [gr_set, if_neg h7, gr_set, if_neg h6]
    exact h2 c hc h6 h7
  · rw [e6, e7, upd_n _ _ (by omega), upd_n _ _ (by omega)]
    exact h4 k hk
  · rw [e6, e7]
    by_cases e : k = i
    · subst e
      rw [upd_s, upd_s]
      exact ⟨rfl, rfl⟩
    · rw [upd_n _ _ (by omega), upd_n _ _ (by omega)]
      exact h5 k (by omega)
theorem e_doFlood (hd : isD d) (hr : RD s d F q N) (hb : BV (rp F q N).1 (rp F q N).2) (hN : N < 40) {f : Nat} (hy : (rp F q N).1 2 < 8) (h : ∀ s', RD s' d F (qup q N (0, f, 0)) (N + 1) → outD d s s' → Q s') : p_X0_doFlood d (nI f) s Q := by
  have hb' := hb
  obtain ⟨b0, b1, b2, b4, b5, b6, b7⟩ := hb
  unfold p_X0_doFlood
  refine e_note hd hr.2.1 hN (fun s1 hs1 => ?_)
  have hl := LD_noted (x := (0, f, 0)) hr.2 hs1
  obtain ⟨h0, h1, h2, h3, h4, h5, h6⟩ := hs1
  generalize hn : (rp F q N).1 = n at *
  generalize ha : (rp F q N).2 = a at *
  have hv := hr.1
  rw [hn, ha] at hv
  refine d_setItem hd 5 (by decide) ((h5 2 (by decide)).trans (hv.1 2 (by decide))) (show n 2 < 8 from hy) ?_
  generalize hs2 : setR s1 (d + 1 + 5) (upd (gR s1 (d + 1 + 5)) (n 2) (nI f)) = s2
  have o2 : outD d s s2 := by rw [← hs2]; exact outD_tr h0 (outD_R _ 5 (by decide) _)
  have g2 : ∀ c, c < 8 → c ≠ 5 → gR s2 (d + 1 + c) = gR s (d + 1 + c) := fun c hc hc5 => by rw [← hs2, gr_set, if_neg hc5]; exact h1 c hc
  have g25 : gR s2 (d + 1 + 5) = upd (gR s (d + 1 + 5)) (n 2) (nI f) := by rw [← hs2, gr_set, if_pos rfl, h1 5 (by decide)]
  have i2 : ∀ j, j < 3 → gI s2 d j = nI (n j) := fun j hj => by rw [← hs2]; exact (h5 j hj).trans (hv.1 j hj)
  have l2 : LD s2 d F (qup q N (0, f, 0)) (N + 1) := by rw [← hs2]; exact LD_keep hl (fun c h8 hc => by rw [gr_set, if_neg (by omega)]) rfl
  refine ⟨n 0 + 1, ?_⟩
  refine lp_up (fun m i x => p_X0_doFlood_L21 Q m d (nI i) x) (fun i x => flI d n a s2 i x) (n 0) (flS d n a) (fun x => flI d n a s2 (n 0) x → Q (setI x d 2 (gI x d 2 + 1))) (fun m x hi hx => ?_) (fun m i x hi hI hx => ?_) (fun i x hi hI => flI_step (by omega) hI) (n 0) 0 s2 (by omega) ⟨outD_rf d s2, fun _ _ _ _ => rfl, fun _ => rfl, fun _ _ => ⟨rfl, rfl⟩, fun k hk => absurd hk (Nat.not_lt_zero k)⟩ ?_
  · unfold p_X0_doFlood_L21
    rw [hi.2.2.1 0, i2 0 (by decide)]
    exact br_t (nI_le (Nat.le_refl _) (by omega)) (hx hi)
  · obtain ⟨c1, c2, c3, c4, c5⟩ := b5 i hi
    have ex : nI (n 2) * 6 + nI i = nI (n 2 * 6 + i) := by rw [show (6 : Int32) = nI 6 from rfl, pk_mul, nI_add]
    have hI' := hI
    obtain ⟨I1, I2, I3, I4, I5⟩ := hI
    have p2 : gR x (d + 1 + 2) i = nI (a 2 i) := by rw [I2 2 (by decide) (by decide) (by decide), g2 2 (by decide) (by decide)]; exact hv.2 2 (by decide) i hi
    have p0 : gR x (d + 1 + 0) (a 2 i) = nI (a 0 (a 2 i)) := by rw [I2 0 (by decide) (by decide) (by decide), g2 0 (by decide) (by decide)]; exact hv.2 0 (by decide) _ (show a 2 i < 6 by omega)
    have p4 : gR x (d + 1 + 4) i = nI (a 4 i) := by rw [I2 4 (by decide) (by decide) (by decide), g2 4 (by decide) (by decide)]; exact hv.2 4 (by decide) i hi
    unfold p_X0_doFlood_L21
    rw [I3 0, i2 0 (by decide), I3 2, i2 2 (by decide), ex]
    refine br_f (lt_w b0 hi) ?_
    unfold p_X0_groundUnder
    refine d_item hd 2 (by decide) rfl (show i < 6 by omega) ?_
    refine d_item hd 0 (by decide) p2 (show a 2 i < 6 by omega) ?_
    rw [p0]
    refine d_setItem hd 6 (by decide) rfl (show n 2 * 6 + i < 48 by omega) ?_
    refine d_item hd 4 (by decide) rfl (show i < 6 by omega) ?_
    rw [gr_set, if_neg (by decide), p4]
    refine d_setItem hd 7 (by decide) (by show gI x d 2 * 6 + nI i = _; rw [I3 2, i2 2 (by decide), ex]) (show n 2 * 6 + i < 48 by omega) ?_
    rw [gr_set, if_neg (by decide), nI_1]
    exact hx
  · intro hI
    obtain ⟨I1, I2, I3, I4, I5⟩ := hI
    generalize itr (flS d n a) 0 (n 0) s2 = x at *
    refine h _ ⟨?_, LD_keep l2 (fun c h8 hc => by rw [gR_I]; exact I2 c hc (by omega) (by omega)) (by rw [gI_ne _ _ (by omega)]; exact I3 3)⟩ (outD_tr o2 (outD_tr I1 (outD_I _ 2 _)))
    rw [rp_last, hn, ha]
    refine ⟨fun j hj => ?_, fun c hc k hk => ?_⟩
    · rw [gI_if]
      show _ = nI (fu n 2 (n 2 + 1) j)
      unfold fu
      by_cases e : j = 2
      · subst e
        rw [if_pos ⟨rfl, rfl⟩, if_pos rfl, I3 2, i2 2 (by decide), nI_1]
      · rw [if_neg (fun z => e z.2), if_neg e, I3 j]
        exact i2 j hj
    · rw [gR_I]
      show _ = nI (if c = 5 ∧ k = n 2 then f else if c = 6 ∧ k / 6 = n 2 then a 0 (a 2 (k % 6)) else if c = 7 ∧ k / 6 = n 2 then a 4 (k % 6) else a c k)
      have hk' : rng (fu n 2 (n 2 + 1)) c k := hk
      by_cases e5 : c = 5
      · subst e5
        have hk5 : k < n 2 + 1 := hk'
        rw [I2 5 (by decide) (by decide) (by decide), g25, upd_if]
        by_cases e : k = n 2
        · rw [if_pos e, if_pos ⟨rfl, e⟩]
        · rw [if_neg e, if_neg (fun z => e z.2), if_neg (by omega), if_neg (by omega)]
          exact hv.2 5 (by decide) k (show k < n 2 by omega)
      · rw [if_neg (fun z => e5 z.1)]
        by_cases e67 : c = 6 ∨ c = 7
        · have hk6 : k % 6 < n 0 ∧ k / 6 < n 2 + 1 := by rcases e67 with rfl | rfl <;> exact hk'
          by_cases e : k / 6 = n 2
          · have ek : n 2 * 6 + k % 6 = k := by omega
            have := I5 (k % 6) hk6.1
            rw [ek] at this
            rcases e67 with rfl | rfl
            · rw [if_pos ⟨rfl, e⟩]; exact this.1
            · rw [if_neg (by omega), if_pos ⟨rfl, e⟩]; exact this.2
          · have := I4 k e
            rw [if_neg (fun z => e z.2), if_neg (fun z => e z.2)]
            rcases e67 with rfl | rfl
            · rw [this.1, g2 6 (by decide) (by decide)]
              exact hv.2 6 (by decide) k (show k % 6 < n 0 ∧ k / 6 < n 2 by omega)
            · rw [this.2, g2 7 (by decide) (by decide)]
              exact hv.2 7 (by decide) k (show k % 6 < n 0 ∧ k / 6 < n 2 by omega)
        · rw [if_neg (by omega), if_neg (by omega), I2 c (by omega) (by omega) (by omega), g2 c hc e5]
          refine hv.2 c hc k ?_
          have : c = 0 ∨ c = 1 ∨ c = 2 ∨ c = 3 ∨ c = 4 := by omega
          rcases this with rfl | rfl | rfl | rfl | rfl <;> exact hk'
/-- the last deed undone -/
theorem e_undoLast (hd : isD d) (hr : RD s d F q (N + 1)) (hb : BV (rp F q N).1 (rp F q N).2) (hN : N < 40) (hq : okD (q N) (rp F q N).1 (rp F q N).2) (h : ∀ s', RD s' d F q N → outD d s s' → Q s') : p_X0_undoLast d s Q := by
  obtain ⟨b0, b1, b2, b4, b5, b6, b7⟩ := hb
  obtain ⟨l1, l2, l3⟩ := hr.2.2 N (by omega)
  have hn := hr.2.1
  have e1 : gI s d 3 - 1 = nI N := by rw [hn]; exact pk_sub (b := 1) (by omega)
  unfold p_X0_undoLast
  rw [hn]
  refine br_t ((nI_ltI (a := 0) (by omega) (by omega)).mpr (by omega)) ?_
  rw [show nI (N + 1) - 1 = nI N from pk_sub (b := 1) (by omega), gI_same]
  refine d_item hd 9 (by decide) rfl (show N < 40 from hN) ?_
  rw [gI_same]
  refine d_item hd 10 (by decide) rfl (show N < 40 from hN) ?_
  rw [gI_same]
  refine d_item hd 8 (by decide) rfl (show N < 40 from hN) ?_
  rw [gR_I, gR_I, gR_I, l1, l2, l3]
  generalize hs1 : setI s d 3 (nI N) = s1
  have hg : ∀ c, gR s1 (d + 1 + c) = gR s (d + 1 + c) := fun c => by rw [← hs1]; rfl
  have hi : ∀ j, j < 3 → gI s1 d j = gI s d j := fun j hj => by rw [← hs1, gI_ne _ _ (by omega)]
  have h3 : gI s1 d 3 = nI N := by rw [← hs1, gI_same]
  have ho : outD d s s1 := by rw [← hs1]; exact outD_I s 3 _
  have hl : LD s1 d F q N := ⟨h3, fun k hk => by rw [hg, hg, hg]; exact hr.2.2 k (by omega)⟩
  have hv := hr.1
  have er : rp F q (N + 1) = (stN (q N) (rp F q N).1, stA (q N) (rp F q N).1 (rp F q N).2) := rfl
  rw [er] at hv
  generalize hqn : q N = x at *
  obtain ⟨w, t, u⟩ := x
  generalize hnn : (rp F q N).1 = n at *
  generalize haa : (rp F q N).2 = a at *
  have mk : ∀ s', VD s' d n a → LD s' d F q N → RD s' d F q N := fun s' x1 x2 => ⟨by rw [hnn, haa]; exact x1, x2⟩
  rcases hq with ⟨rfl, q1, q2⟩ | ⟨rfl, q1, q2⟩ | ⟨rfl, q1, q2, q3⟩ | ⟨rfl, q1, q2⟩
  · refine br_t rfl ?_
    refine h _ (mk _ ⟨fun j hj => ?_, fun c hc k hk => ?_⟩ (LD_keep hl (fun _ _ _ => rfl) (gI_ne _ _ (by omega)))) (outD_tr ho (outD_I _ 2 _))
    · rw [gI_if]
      by_cases e : j = 2
      · subst e
        rw [if_pos ⟨rfl, rfl⟩, hi 2 (by decide), hv.1 2 (by decide)]
        show nI (n 2 + 1) - 1 = _
        exact pk_sub (b := 1) (by omega)
      · rw [if_neg (fun z => e z.2), hi j hj, hv.1 j hj]
        show nI (fu n 2 (n 2 + 1) j) = _
        rw [show fu n 2 (n 2 + 1) j = n j from if_neg e]
    · rw [gR_I, hg]
      have hk2 : rng (fu n 2 (n 2 + 1)) c k := by
        unfold rng at hk ⊢
        have f0 : fu n 2 (n 2 + 1) 0 = n 0 := rfl
        have f2 : fu n 2 (n 2 + 1) 2 = n 2 + 1 := rfl
        rw [f0, f2]
        split
        · rename_i z; rw [if_pos z] at hk; exact hk
        · rename_i z; rw [if_neg z] at hk
          split
          · rename_i z2; rw [if_pos z2] at hk; exact hk
          · rename_i z2; rw [if_neg z2] at hk
            split
            · rename_i z3; rw [if_pos z3] at hk; omega
            · rename_i z3; rw [if_neg z3] at hk; omega
      rw [hv.2 c hc k hk2]
      show nI (if c = 5 ∧ k = n 2 then t else if c = 6 ∧ k / 6 = n 2 then a 0 (a 2 (k % 6)) else if c = 7 ∧ k / 6 = n 2 then a 4 (k % 6) else a c k) = _
      have z5 : ¬ (c = 5 ∧ k = n 2) := fun z => by
        obtain ⟨rfl, z2⟩ := z
        have : k < n 2 := hk
        omega
      have z6 : ¬ (c = 6 ∧ k / 6 = n 2) := fun z => by
        obtain ⟨rfl, z2⟩ := z
        have : k % 6 < n 0 ∧ k / 6 < n 2 := hk
        omega
      have z7 : ¬ (c = 7 ∧ k / 6 = n 2) := fun z => by
        obtain ⟨rfl, z2⟩ := z
        have : k % 6 < n 0 ∧ k / 6 < n 2 := hk
        omega
      rw [if_neg z5, if_neg z6, if_neg z7]
  · have q1' : t < n 0 := q1
    refine br_f (show ¬ nI 1 = 0 by decide) (br_t rfl ?_)
    refine d_setItem hd 2 (by decide) rfl (show t < 6 by omega) ?_
    refine h _ (mk _ ⟨fun j hj => ?_, fun c hc k hk => ?_⟩ (LD_keep hl (fun c h8 hc => by rw [gr_set, if_neg (by omega)]) rfl)) (outD_tr ho (outD_R _ 2 (by decide) _))
    · show gI s1 d j = _
      rw [hi j hj]
      exact hv.1 j hj
    · rw [gr_set, hg]
      have e := hv.2 c hc k hk
      have e' : gR s (d + 1 + c) k = nI (if c = 2 ∧ k = t then u else a c k) := e
      by_cases ec : c = 2
      · subst ec
        rw [if_pos rfl, upd_if]
        by_cases ek : k = t
        · rw [if_pos ek, ek]; rfl
        · rw [if_neg ek, e', if_neg (fun z => ek z.2)]
      · rw [if_neg ec, hg, e', if_neg (fun z => ec z.1)]
  · have q1' : t < 6 := q1
    have q3' : 1 ≤ n 1 := q3
    refine br_f (show ¬ nI 2 = 0 by decide) (br_f (show ¬ nI 2 = 1 by decide) (br_t rfl ?_))
    refine d_setItem hd 0 (by decide) rfl (show t < 6 by omega) ?_
    refine h _ (mk _ ⟨fun j hj => ?_, fun c hc k hk => ?_⟩ (LD_keep hl (fun c h8 hc => by rw [gR_I, gr_set, if_neg (by omega)]) (by rw [gI_ne _ _ (by omega)]; rfl))) (outD_tr ho (outD_tr (outD_R _ 0 (by decide) _) (outD_I _ 1 _)))
    · rw [gI_if]
      by_cases e : j = 1
      · subst e
        rw [if_pos ⟨rfl, rfl⟩]
        show gI s1 d 1 + 1 = _
        rw [hi 1 (by decide), hv.1 1 (by decide)]
        show nI (n 1 - 1) + 1 = _
        rw [nI_1, show n 1 - 1 + 1 = n 1 by omega]
      · rw [if_neg (fun z => e z.2)]
        show gI s1 d j = _
        rw [hi j hj, hv.1 j hj]
        show nI (fu n 1 (n 1 - 1) j) = _
        rw [show fu n 1 (n 1 - 1) j = n j from if_neg e]
    · rw [gR_I, gr_set, hg]
      have hk2 : rng (fu n 1 (n 1 - 1)) c k := hk
      have e := hv.2 c hc k hk2
      have e' : gR s (d + 1 + c) k = nI (if c = 0 ∧ k = t then a 0 t + 1 else a c k) := e
      by_cases ec : c = 0
      · subst ec
        rw [if_pos rfl, upd_if]
        by_cases ek : k = t
        · rw [if_pos ek, ek]; rfl
        · rw [if_neg ek, e', if_neg (fun z => ek z.2)]
      · rw [if_neg ec, hg, e', if_neg (fun z => ec z.1)]
  · have q1' : t < n 0 := q1
    refine br_f (show ¬ nI 3 = 0 by decide) (br_f (show ¬ nI 3 = 1 by decide) (br_f (show ¬ nI 3 = 2 by decide) ?_))
    refine d_setItem hd 4 (by decide) rfl (show t < 6 by omega) ?_
    refine h _ (mk _ ⟨fun j hj => ?_, fun c hc k hk => ?_⟩ (LD_keep hl (fun c h8 hc => by rw [gr_set, if_neg (by omega)]) rfl)) (outD_tr ho (outD_R _ 4 (by decide) _))
    · show gI s1 d j = _
      rw [hi j hj]
      exact hv.1 j hj
    · rw [gr_set, hg]
      have e := hv.2 c hc k hk
      have e' : gR s (d + 1 + c) k = nI (if c = 4 ∧ k = t then a 4 t + 1 else a c k) := e
      by_cases ec : c = 4
      · subst ec
        rw [if_pos rfl, upd_if]
        by_cases ek : k = t
        · rw [if_pos ek, ek]; rfl
        · rw [if_neg ek, e', if_neg (fun z => ek z.2)]
      · rw [if_neg ec, hg, e', if_neg (fun z => ec z.1)]
/-- one Delta's cells come to another's -/
def tookD (s : Sg) (d d2 : Nat) (s' : Sg) : Prop := (∀ j, j < 4 → gI s' d j = gI s d2 j) ∧ (∀ c, c < 11 → ∀ i, i < dlen c → gR s' (d + 1 + c) i = gR s (d2 + 1 + c) i) ∧ outD d s s'
theorem e_takeFrom {d2 : Nat} (hd : isD d) (hd2 : isD d2) (hne : d ≠ d2) {o : Option Nat} (ho : o = some d2) (h : ∀ s', tookD s d d2 s' → Q s') : p_X0_takeFrom d o s Q := by
  subst ho
  have hsep : d + 11 < d2 ∨ d2 + 11 < d := by
    rcases hd with rfl | rfl | rfl | rfl | rfl <;> rcases hd2 with rfl | rfl | rfl | rfl | rfl <;> first | omega | exact absurd rfl hne
  have cp : ∀ (c : Nat), c < 11 → ∀ (s1 : Sg) (R : Sg → Prop), R (setR s1 (d + 1 + c) (va_cpy (gR s1 (d2 + 1 + c)) (gR s1 (d + 1 + c)) 0 0 (dlen c))) → p_X5_copyItems (tX d2 (4 + c)) (tX d (4 + c)) s1 R := fun c hc s1 R hR =>
    e_copyItems (D_t hd2 c hc) (D_t hd c hc) (D_ka hd2 c hc) (D_ka hd c hc) ((D_l hd2 c hc).trans (D_l hd c hc).symm) (by rw [D_l hd2 c hc]; exact hR)
  have k2 := D_k hd2
  unfold p_X0_takeFrom
  refine ⟨(fun q => by cases q), fun _ => ⟨d2, rfl, k2, d2, rfl, k2, d2, rfl, k2, d2, rfl, k2, d2, rfl, k2, ?_⟩⟩
  -- the state behind c copies
  have step : ∀ (c : Nat), c < 11 → ∀ (s1 : Sg), (outD d s s1 ∧ (∀ j, j < 4 → gI s1 d j = gI s d2 j) ∧ ∀ b, b < c → ∀ i, i < dlen b → gR s1 (d + 1 + b) i = gR s (d2 + 1 + b) i) → ∀ (s2 : Sg), s2 = setR s1 (d + 1 + c) (va_cpy (gR s1 (d2 + 1 + c)) (gR s1 (d + 1 + c)) 0 0 (dlen c)) → (outD d s s2 ∧ (∀ j, j < 4 → gI s2 d j = gI s d2 j) ∧ ∀ b, b < c + 1 → ∀ i, i < dlen b → gR s2 (d + 1 + b) i = gR s (d2 + 1 + b) i) := by
    intro c hc s1 hs s2 e
    subst e
    obtain ⟨h1, h2, h3⟩ := hs
    refine ⟨outD_tr h1 (outD_R _ c hc _), h2, fun b hb i hi => ?_⟩
    rw [gr_set]
    by_cases e : b = c
    · subst e
      rw [if_pos rfl, pk_cpy_in (by omega) (by omega), h1.1 (d2 + 1 + b) (by omega)]
      congr 1
      omega
    · rw [if_neg e]
      exact h3 b (by omega) i hi
  refine cp 0 (by decide) _ _ ?_
  have t0 := step 0 (by decide) (setI (setI (setI (setI s d 0 (gI s d2 0)) d 1 (gI (setI s d 0 (gI s d2 0)) d2 1)) d 2 (gI (setI (setI s d 0 (gI s d2 0)) d 1 (gI (setI s d 0 (gI s d2 0)) d2 1)) d2 2)) d 3 (gI (setI (setI (setI s d 0 (gI s d2 0)) d 1 (gI (setI s d 0 (gI s d2 0)) d2 1)) d 2 (gI (setI (setI s d 0 (gI s d2 0)) d 1 (gI (setI s d 0 (gI s d2 0)) d2 1)) d2 2)) d2 3)) ⟨outD_tr (outD_tr (outD_tr (outD_I _ 0 _) (outD_I _ 1 _)) (outD_I _ 2 _)) (outD_I _ 3 _), fun j hj => by
    have hn : d2 ≠ d := fun z => hne z.symm
    rcases (show j = 0 ∨ j = 1 ∨ j = 2 ∨ j = 3 by omega) with rfl | rfl | rfl | rfl <;> simp [gI_if, hn], fun b hb => absurd hb (Nat.not_lt_zero b)⟩ _ rfl
  generalize setR (setI (setI (setI (setI s d 0 (gI s d2 0)) d 1 (gI (setI s d 0 (gI s d2 0)) d2 1)) d 2 (gI (setI (setI s d 0 (gI s d2 0)) d 1 (gI (setI s d 0 (gI s d2 0)) d2 1)) d2 2)) d 3 (gI (setI (setI (setI s d 0 (gI s d2 0)) d 1 (gI (setI s d 0 (gI s d2 0)) d2 1)) d 2 (gI (setI (setI s d 0 (gI s d2 0)) d 1 (gI (setI s d 0 (gI s d2 0)) d2 1)) d2 2)) d2 3)) (d + 1 + 0) _ = u0 at t0 ⊢
  refine ⟨d2, rfl, k2, cp 1 (by decide) _ _ ?_⟩
  have t1 := step 1 (by decide) _ t0 _ rfl
  generalize setR u0 (d + 1 + 1) _ = u1 at t1 ⊢
  refine ⟨d2, rfl, k2, cp 2 (by decide) _ _ ?_⟩
  have t2 := step 2 (by decide) _ t1 _ rfl
  generalize setR u1 (d + 1 + 2) _ = u2 at t2 ⊢
  refine ⟨d2, rfl, k2, cp 3 (by decide) _ _ ?_⟩
  have t3 := step 3 (by decide) _ t2 _ rfl
  generalize setR u2 (d + 1 + 3) _ = u3 at t3 ⊢
  refine ⟨d2, rfl, k2, cp 4 (by decide) _ _ ?_⟩
  have t4 := step 4 (by decide) _ t3 _ rfl
  generalize setR u3 (d + 1 + 4) _ = u4 at t4 ⊢
  refine ⟨d2, rfl, k2, cp 5 (by decide) _ _ ?_⟩
  have t5 := step 5 (by decide) _ t4 _ rfl
  generalize setR u4 (d + 1 + 5) _ = u5 at t5 ⊢
  refine ⟨d2, rfl, k2, cp 6 (by decide) _ _ ?_⟩
  have t6 := step 6 (by decide) _ t5 _ rfl
  generalize setR u5 (d + 1 + 6) _ = u6 at t6 ⊢
  refine ⟨d2, rfl, k2, cp 7 (by decide) _ _ ?_⟩
  have t7 := step 7 (by decide) _ t6 _ rfl
  generalize setR u6 (d + 1 + 7) _ = u7 at t7 ⊢
  refine ⟨d2, rfl, k2, cp 8 (by decide) _ _ ?_⟩
  have t8 := step 8 (by decide) _ t7 _ rfl
  generalize setR u7 (d + 1 + 8) _ = u8 at t8 ⊢
  refine ⟨d2, rfl, k2, cp 9 (by decide) _ _ ?_⟩
  have t9 := step 9 (by decide) _ t8 _ rfl
  generalize setR u8 (d + 1 + 9) _ = u9 at t9 ⊢
  refine ⟨d2, rfl, k2, cp 10 (by decide) _ _ ?_⟩
  have t10 := step 10 (by decide) _ t9 _ rfl
  exact h _ ⟨t10.2.1, t10.2.2, t10.1⟩
theorem rng_dlen {n : Nat → Nat} (h0 : n 0 ≤ 6) (h2 : n 2 ≤ 8) {c i : Nat} (hc : c < 8) (h : rng n c i) : i < dlen c := by
  rcases (show c = 0 ∨ c = 1 ∨ c = 2 ∨ c = 3 ∨ c = 4 ∨ c = 5 ∨ c = 6 ∨ c = 7 by omega) with rfl | rfl | rfl | rfl | rfl | rfl | rfl | rfl
  · exact h
  · have h : i < n 0 := h
    show i < 6
    omega
  · have h : i < n 0 := h
    show i < 6
    omega
  · have h : i < n 0 := h
    show i < 6
    omega
  · have h : i < n 0 := h
    show i < 6
    omega
  · have h : i < n 2 := h
    show i < 8
    omega
  · have h : i % 6 < n 0 ∧ i / 6 < n 2 := h
    show i < 48
    omega
  · have h : i % 6 < n 0 ∧ i / 6 < n 2 := h
    show i < 48
    omega
/-- what came from another is what that was -/
theorem RD_took {d2 : Nat} {s' : Sg} (hb : BV (rp F q N).1 (rp F q N).2) (hN : N ≤ 40) (hr : RD s d2 F q N) (h : tookD s d d2 s') : RD s' d F q N := by
  obtain ⟨h1, h2, h3⟩ := h
  refine ⟨⟨fun j hj => (h1 j (by omega)).trans (hr.1.1 j hj), fun c hc i hi => (h2 c (by omega) i (rng_dlen hb.1 hb.2.2.1 hc hi)).trans (hr.1.2 c hc i hi)⟩, (h1 3 (by decide)).trans hr.2.1, fun k hk => ?_⟩
  rw [h2 8 (by decide) k (show k < 40 by omega), h2 9 (by decide) k (show k < 40 by omega), h2 10 (by decide) k (show k < 40 by omega)]
  exact hr.2.2 k hk
end DD2
