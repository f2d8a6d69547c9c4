/-! deeds: what each does, over numbers; their replay -/
def fu (f : Nat → Nat) (k v : Nat) : Nat → Nat := fun j => if j = k then v else f j
def fuu (a : Nat → Nat → Nat) (c k v : Nat) : Nat → Nat → Nat := fun b j => if b = c ∧ j = k then v else a b j
abbrev Dd : Type := Nat × Nat × Nat
abbrev Ds : Type := (Nat → Nat) × (Nat → Nat → Nat)
def stN (q : Dd) (n : Nat → Nat) : Nat → Nat := if q.1 = 0 then fu n 2 (n 2 + 1) else if q.1 = 2 then fu n 1 (n 1 - 1) else n
def stA (q : Dd) (n : Nat → Nat) (a : Nat → Nat → Nat) : Nat → Nat → Nat := if q.1 = 0 then (fun c i => if c = 5 ∧ i = n 2 then q.2.1 else if c = 6 ∧ i / 6 = n 2 then a 0 (a 2 (i % 6)) else if c = 7 ∧ i / 6 = n 2 then a 4 (i % 6) else a c i) else if q.1 = 1 then fuu a 2 q.2.1 q.2.2 else if q.1 = 2 then fuu a 0 q.2.1 (a 0 q.2.1 + 1) else fuu a 4 q.2.1 (a 4 q.2.1 + 1)
def wasD (q : Dd) (a : Nat → Nat → Nat) : Nat := if q.1 = 0 then 0 else if q.1 = 1 then a 2 q.2.1 else if q.1 = 2 then a 0 q.2.1 else a 4 q.2.1
def okD (q : Dd) (n : Nat → Nat) (a : Nat → Nat → Nat) : Prop := (q.1 = 0 ∧ q.2.1 ≤ 20 ∧ n 2 < 8) ∨ (q.1 = 1 ∧ q.2.1 < n 0 ∧ q.2.2 ≤ 5) ∨ (q.1 = 2 ∧ q.2.1 < 6 ∧ a 0 q.2.1 ≤ 8 ∧ 1 ≤ n 1) ∨ (q.1 = 3 ∧ q.2.1 < n 0 ∧ a 4 q.2.1 ≤ 2)
def rp (F : Ds) (q : Nat → Dd) : Nat → Ds
  | 0 => F
  | k + 1 => (stN (q k) (rp F q k).1, stA (q k) (rp F q k).1 (rp F q k).2)
def allOk (F : Ds) (q : Nat → Dd) (N : Nat) : Prop := ∀ k, k < N → okD (q k) (rp F q k).1 (rp F q k).2
def qup (q : Nat → Dd) (N : Nat) (x : Dd) : Nat → Dd := fun k => if k = N then x else q k
theorem qup_s (q : Nat → Dd) (N : Nat) (x : Dd) : qup q N x N = x := if_pos rfl
theorem qup_n (q : Nat → Dd) {N k : Nat} (x : Dd) (h : k ≠ N) : qup q N x k = q k := if_neg h
theorem rp_cong {F : Ds} {q q' : Nat → Dd} : ∀ {N : Nat}, (∀ k, k < N → q k = q' k) → rp F q N = rp F q' N
  | 0, _ => rfl
  | N + 1, h => by
    unfold rp
    rw [rp_cong (fun k hk => h k (by omega)), h N (by omega)]
theorem rp_qup {F : Ds} (q : Nat → Dd) {N k : Nat} (x : Dd) (h : k ≤ N) : rp F (qup q N x) k = rp F q k := rp_cong (fun j hj => qup_n q x (by omega))
theorem allOk_cong {F : Ds} {q q' : Nat → Dd} {N : Nat} (h : ∀ k, k < N → q k = q' k) (ho : allOk F q N) : allOk F q' N := fun k hk => by
  rw [← h k hk, ← rp_cong (fun j hj => h j (by omega))]
  exact ho k hk
theorem stN_0 (q : Dd) (n : Nat → Nat) : stN q n 0 = n 0 := by
  unfold stN fu
  repeat' split
  all_goals first | rfl | omega
theorem rp_w (F : Ds) (q : Nat → Dd) : ∀ N, (rp F q N).1 0 = F.1 0
  | 0 => rfl
  | N + 1 => (stN_0 _ _).trans (rp_w F q N)
theorem rp_kt (F : Ds) (q : Nat → Dd) (c : Nat) (hc : c = 1 ∨ c = 3) (i : Nat) : ∀ N, (rp F q N).2 c i = F.2 c i
  | 0 => rfl
  | N + 1 => by
    have ih := rp_kt F q c hc i N
    show stA (q N) (rp F q N).1 (rp F q N).2 c i = _
    rw [← ih]
    unfold stA fuu
    rcases hc with rfl | rfl <;> (repeat' split) <;> first | rfl | (simp only []; rw [if_neg (by omega), if_neg (by omega), if_neg (by omega)]) | (simp only []; rw [if_neg (by omega)])
theorem BV_step {q : Dd} {n : Nat → Nat} {a : Nat → Nat → Nat} (hb : BV n a) (hq : okD q n a) : BV (stN q n) (stA q n a) := by
  obtain ⟨b0, b1, b2, b4, b5, b6, b7⟩ := hb
  obtain ⟨w, x, y⟩ := q
  rcases hq with ⟨rfl, h1, h2⟩ | ⟨rfl, h1, h2⟩ | ⟨rfl, h1, h2, h3⟩ | ⟨rfl, h1, h2⟩
  · have e1 : stN (0, x, y) n = fu n 2 (n 2 + 1) := rfl
    have e2 : stA (0, x, y) n a = (fun c i => if c = 5 ∧ i = n 2 then x else if c = 6 ∧ i / 6 = n 2 then a 0 (a 2 (i % 6)) else if c = 7 ∧ i / 6 = n 2 then a 4 (i % 6) else a c i) := rfl
    rw [e1, e2]
    refine ⟨b0, b1, (show n 2 + 1 ≤ 8 by have : (0, x, y).2.1 ≤ 20 := h1; omega), b4, b5, fun z hz => ?_, fun i z hi hz => ?_⟩
    · show (if 5 = 5 ∧ z = n 2 then x else _) ≤ 20
      by_cases hzz : z = n 2
      · rw [if_pos ⟨rfl, hzz⟩]; exact h1
      · have hz2 : z < n 2 + 1 := hz
        rw [if_neg (fun h => hzz h.2), if_neg (by omega), if_neg (by omega)]
        exact b6 z (by omega)
    · have hz2 : z < n 2 + 1 := hz
      have hi2 : i < n 0 := hi
      have m1 : (z * 6 + i) % 6 = i := by omega
      have m2 : (z * 6 + i) / 6 = z := by omega
      obtain ⟨c1, c2, c3, c4, c5⟩ := b5 i hi2
      constructor
      · show (if 6 = 5 ∧ _ then x else if 6 = 6 ∧ (z * 6 + i) / 6 = n 2 then a 0 (a 2 ((z * 6 + i) % 6)) else _) ≤ 9
        rw [if_neg (by omega), m1, m2]
        by_cases hzz : z = n 2
        · rw [if_pos ⟨rfl, hzz⟩]; exact b4 _ (by omega)
        · rw [if_neg (fun h => hzz h.2), if_neg (by omega)]
          exact (b7 i z hi2 (by omega)).1
      · show (if 7 = 5 ∧ _ then x else if 7 = 6 ∧ (z * 6 + i) / 6 = n 2 then a 0 (a 2 ((z * 6 + i) % 6)) else if 7 = 7 ∧ (z * 6 + i) / 6 = n 2 then a 4 ((z * 6 + i) % 6) else _) ≤ 3
        rw [if_neg (by omega), if_neg (by omega), m1, m2]
        by_cases hzz : z = n 2
        · rw [if_pos ⟨rfl, hzz⟩]; exact c5
        · rw [if_neg (fun h => hzz h.2)]
          exact (b7 i z hi2 (by omega)).2
  · have e2 : stA (1, x, y) n a = fuu a 2 x y := rfl
    have e1 : stN (1, x, y) n = n := rfl
    rw [e1, e2]
    refine ⟨b0, b1, b2, fun p hp => by simpa [fuu] using b4 p hp, fun i hi => ?_, fun z hz => by simpa [fuu] using b6 z hz, fun i z hi hz => by simpa [fuu] using b7 i z hi hz⟩
    obtain ⟨c1, c2, c3, c4, c5⟩ := b5 i hi
    refine ⟨by simpa [fuu] using c1, ?_, by simpa [fuu] using c3, by simpa [fuu] using c4, by simpa [fuu] using c5⟩
    by_cases z : i = x
    · simpa [fuu, z] using h2
    · simpa [fuu, z] using c2
  · have e2 : stA (2, x, y) n a = fuu a 0 x (a 0 x + 1) := rfl
    have e1 : stN (2, x, y) n = fu n 1 (n 1 - 1) := rfl
    rw [e1, e2]
    refine ⟨b0, (show n 1 - 1 ≤ 9 by omega), b2, fun p hp => ?_, fun i hi => by simpa [fuu] using b5 i hi, fun z hz => by simpa [fuu] using b6 z hz, fun i z hi hz => by simpa [fuu] using b7 i z hi hz⟩
    by_cases z : p = x
    · have h2' : a 0 x ≤ 8 := h2
      simp only [fuu, z, and_self, if_true]
      omega
    · simpa [fuu, z] using b4 p hp
  · have e2 : stA (3, x, y) n a = fuu a 4 x (a 4 x + 1) := rfl
    have e1 : stN (3, x, y) n = n := rfl
    rw [e1, e2]
    refine ⟨b0, b1, b2, fun p hp => by simpa [fuu] using b4 p hp, fun i hi => ?_, fun z hz => by simpa [fuu] using b6 z hz, fun i z hi hz => by simpa [fuu] using b7 i z hi hz⟩
    obtain ⟨c1, c2, c3, c4, c5⟩ := b5 i hi
    refine ⟨by simpa [fuu] using c1, by simpa [fuu] using c2, by simpa [fuu] using c3, by simpa [fuu] using c4, ?_⟩
    by_cases z : i = x
    · have h2' : a 4 x ≤ 2 := h2
      simp only [fuu, z, and_self, if_true]
      omega
    · simpa [fuu, z] using c5
theorem BV_rp {F : Ds} {q : Nat → Dd} (hb : BV F.1 F.2) : ∀ {N : Nat}, allOk F q N → BV (rp F q N).1 (rp F q N).2
  | 0, _ => hb
  | N + 1, h => BV_step (BV_rp hb (fun k hk => h k (by omega))) (h N (by omega))
/-! the class's Delta with its log -/
def LD (s : Sg) (d : Nat) (F : Ds) (q : Nat → Dd) (N : Nat) : Prop := gI s d 3 = nI N ∧ ∀ k, k < N → gR s (d + 1 + 8) k = nI (q k).1 ∧ gR s (d + 1 + 9) k = nI (q k).2.1 ∧ gR s (d + 1 + 10) k = nI (wasD (q k) (rp F q k).2)
def RD (s : Sg) (d : Nat) (F : Ds) (q : Nat → Dd) (N : Nat) : Prop := VD s d (rp F q N).1 (rp F q N).2 ∧ LD s d F q N
/-- all but a Delta is the same -/
def outD (d : Nat) (s s' : Sg) : Prop := (∀ k, (k < d ∨ d + 11 < k) → gR s' k = gR s k) ∧ (∀ k j, k ≠ d → gI s' k j = gI s k j) ∧ (∀ k j, gJ s' k j = gJ s k j) ∧ gT s' = gT s
theorem outD_rf (d : Nat) (s : Sg) : outD d s s := ⟨fun _ _ => rfl, fun _ _ _ => rfl, fun _ _ => rfl, rfl⟩
theorem outD_tr {d : Nat} {s1 s2 s3 : Sg} (h1 : outD d s1 s2) (h2 : outD d s2 s3) : outD d s1 s3 := ⟨fun k hk => (h2.1 k hk).trans (h1.1 k hk), fun k j hk => (h2.2.1 k j hk).trans (h1.2.1 k j hk), fun k j => (h2.2.2.1 k j).trans (h1.2.2.1 k j), h2.2.2.2.trans h1.2.2.2⟩
theorem outD_R {d : Nat} (s : Sg) (c : Nat) (hc : c < 11) (f : Nat → Int32) : outD d s (setR s (d + 1 + c) f) := ⟨fun k hk => gR_ne s f (by omega), fun _ _ _ => rfl, fun _ _ => rfl, rfl⟩
theorem outD_I {d : Nat} (s : Sg) (j : Nat) (v : Int32) : outD d s (setI s d j v) := ⟨fun _ _ => rfl, fun k i hk => gI_ne s v (fun h => hk h.1), fun _ _ => rfl, rfl⟩
section DDS
variable {s : Sg} {d : Nat} {F : Ds} {q : Nat → Dd} {N : Nat} {Q : Sg → Prop}
/-- what a note leaves -/
def noted (s : Sg) (d N : Nat) (w t v : Int32) (s' : Sg) : Prop := outD d s s' ∧ (∀ c, c < 8 → gR s' (d + 1 + c) = gR s (d + 1 + c)) ∧ gR s' (d + 1 + 8) = upd (gR s (d + 1 + 8)) N w ∧ gR s' (d + 1 + 9) = upd (gR s (d + 1 + 9)) N t ∧ gR s' (d + 1 + 10) = upd (gR s (d + 1 + 10)) N v ∧ (∀ j, j < 3 → gI s' d j = gI s d j) ∧ gI s' d 3 = nI (N + 1)
theorem e_note (hd : isD d) (hn : gI s d 3 = nI N) (hN : N < 40) {w t v : Int32} (h : ∀ s', noted s d N w t v s' → Q s') : p_X0_note d w t v s Q := by
  unfold p_X0_note
  refine d_setItem hd 8 (by decide) hn (show N < 40 from hN) ?_
  refine d_setItem hd 9 (by decide) (show gI s d 3 = nI N from hn) (show N < 40 from hN) ?_
  refine d_setItem hd 10 (by decide) (show gI s d 3 = nI N from hn) (show N < 40 from hN) ?_
  refine h _ ⟨?_, ?_, ?_, ?_, ?_, ?_, ?_⟩
  · exact outD_tr (outD_tr (outD_tr (outD_R s 8 (by decide) _) (outD_R _ 9 (by decide) _)) (outD_R _ 10 (by decide) _)) (outD_I _ 3 _)
  · intro c hc
    rw [gR_I, gR_ne _ _ (by omega), gR_ne _ _ (by omega), gR_ne _ _ (by omega)]
  · rw [gR_I, gR_ne _ _ (by omega), gR_ne _ _ (by omega), gR_same]
  · rw [gR_I, gR_ne _ _ (by omega), gR_same, gR_ne _ _ (by omega)]
  · rw [gR_I, gR_same, gR_ne _ _ (by omega), gR_ne _ _ (by omega)]
  · intro j hj
    rw [gI_ne _ _ (by omega)]
    rfl
  · rw [gI_same]
    show gI s d 3 + 1 = _
    rw [hn, nI_1]
theorem gr_set {d c b : Nat} (s : Sg) (f : Nat → Int32) : gR (setR s (d + 1 + c) f) (d + 1 + b) = if b = c then f else gR s (d + 1 + b) := by
  by_cases h : b = c
  · subst h; rw [gR_same, if_pos rfl]
  · rw [gR_ne _ _ (by omega), if_neg h]
/-- the log behind a note -/
theorem LD_noted {s s' : Sg} {x : Dd} (hl : LD s d F q N) (h : noted s d N (nI x.1) (nI x.2.1) (nI (wasD x (rp F q N).2)) s') : LD s' d F (qup q N x) (N + 1) := by
  obtain ⟨h0, h1, h2, h3, h4, h5, h6⟩ := h
  refine ⟨h6, fun k hk => ?_⟩
  rw [h2, h3, h4]
  by_cases e : k = N
  · subst e
    rw [upd_s, upd_s, upd_s, qup_s, rp_qup q x (Nat.le_refl k)]
    exact ⟨rfl, rfl, rfl⟩
  · rw [upd_n _ _ e, upd_n _ _ e, upd_n _ _ e, qup_n q x e, rp_qup q x (show k ≤ N by omega)]
    exact hl.2 k (by omega)
theorem LD_keep {s s' : Sg} (hl : LD s d F q N) (h8 : ∀ c, 8 ≤ c → c < 11 → gR s' (d + 1 + c) = gR s (d + 1 + c)) (h3 : gI s' d 3 = gI s d 3) : LD s' d F q N := ⟨h3.trans hl.1, fun k hk => by rw [h8 8 (by omega) (by omega), h8 9 (by omega) (by omega), h8 10 (by omega) (by omega)]; exact hl.2 k hk⟩
theorem rp_last (x : Dd) : rp F (qup q N x) (N + 1) = (stN x (rp F q N).1, stA x (rp F q N).1 (rp F q N).2) := by
  show (stN (qup q N x N) (rp F (qup q N x) N).1, stA (qup q N x N) (rp F (qup q N x) N).1 (rp F (qup q N x) N).2) = _
  rw [qup_s, rp_qup q x (Nat.le_refl N)]
theorem e_doMove (hd : isD d) (hr : RD s d F q N) (hb : BV (rp F q N).1 (rp F q N).2) (hN : N < 40) {i p : Nat} (hi : i < (rp F q N).1 0) (hp : p ≤ 5) (h : ∀ s', RD s' d F (qup q N (1, i, p)) (N + 1) → outD d s s' → Q s') : p_X0_doMove d (nI i) (nI p) s Q := by
  have b0 := hb.1
  unfold p_X0_doMove
  refine d_item hd 2 (by decide) rfl (show i < 6 by omega) ?_
  rw [hr.1.2 2 (by decide) i hi]
  refine e_note hd hr.2.1 hN (fun s1 hs1 => ?_)
  have hl := LD_noted (x := (1, i, p)) hr.2 hs1
  obtain ⟨h0, h1, h2, h3, h4, h5, h6⟩ := hs1
  refine d_setItem hd 2 (by decide) rfl (show i < 6 by omega) ?_
  refine h _ ⟨?_, LD_keep hl (fun c h8 hc => by rw [gr_set, if_neg (by omega)]) rfl⟩ (outD_tr h0 (outD_R _ 2 (by decide) _))
  rw [rp_last]
  refine ⟨fun j hj => ?_, fun c hc k hk => ?_⟩
  · show gI s1 d j = nI ((rp F q N).1 j)
    rw [h5 j hj]
    exact hr.1.1 j hj
  · rw [gr_set]
    show _ = nI (fuu (rp F q N).2 2 i p c k)
    unfold fuu
    by_cases e : c = 2
    · subst e
      rw [if_pos rfl, upd_if, h1 2 (by decide)]
      by_cases e2 : k = i
      · rw [if_pos e2, if_pos ⟨rfl, e2⟩]
      · rw [if_neg e2, if_neg (fun z => e2 z.2)]
        exact hr.1.2 2 hc k hk
    · rw [if_neg e, if_neg (fun z => e z.1), h1 c hc]
      exact hr.1.2 c hc k hk
theorem e_doTuck (hd : isD d) (hr : RD s d F q N) (hb : BV (rp F q N).1 (rp F q N).2) (hN : N < 40) {i : Nat} (hi : i < (rp F q N).1 0) (h : ∀ s', RD s' d F (qup q N (3, i, 0)) (N + 1) → outD d s s' → Q s') : p_X0_doTuck d (nI i) s Q := by
  have b0 := hb.1
  unfold p_X0_doTuck
  refine d_item hd 4 (by decide) rfl (show i < 6 by omega) ?_
  rw [hr.1.2 4 (by decide) i hi]
  refine e_note hd hr.2.1 hN (fun s1 hs1 => ?_)
  have hl := LD_noted (x := (3, i, 0)) hr.2 hs1
  obtain ⟨h0, h1, h2, h3, h4, h5, h6⟩ := hs1
  refine d_item hd 4 (by decide) rfl (show i < 6 by omega) ?_
  refine d_setItem hd 4 (by decide) rfl (show i < 6 by omega) ?_
  refine h _ ⟨?_, LD_keep hl (fun c h8 hc => by rw [gr_set, if_neg (by omega)]) rfl⟩ (outD_tr h0 (outD_R _ 4 (by decide) _))
  rw [rp_last]
  refine ⟨fun j hj => ?_, fun c hc k hk => ?_⟩
  · show gI s1 d j = nI ((rp F q N).1 j)
    rw [h5 j hj]
    exact hr.1.1 j hj
  · rw [gr_set]
    show _ = nI (fuu (rp F q N).2 4 i ((rp F q N).2 4 i + 1) c k)
    unfold fuu
    by_cases e : c = 4
    · subst e
      rw [if_pos rfl, upd_if, h1 4 (by decide)]
      by_cases e2 : k = i
      · rw [if_pos e2, if_pos ⟨rfl, e2⟩, hr.1.2 4 (by decide) i hi, nI_1]
      · rw [if_neg e2, if_neg (fun z => e2 z.2)]
        exact hr.1.2 4 hc k hk
    · rw [if_neg e, if_neg (fun z => e z.1), h1 c hc]
      exact hr.1.2 c hc k hk
theorem e_doDyke (hd : isD d) (hr : RD s d F q N) (hb : BV (rp F q N).1 (rp F q N).2) (hN : N < 40) {p : Nat} (hp : p < 6) (he : 1 ≤ (rp F q N).1 1) (h : ∀ s', RD s' d F (qup q N (2, p, 0)) (N + 1) → outD d s s' → Q s') : p_X0_doDyke d (nI p) s Q := by
  unfold p_X0_doDyke
  refine d_item hd 0 (by decide) rfl (show p < 6 from hp) ?_
  rw [hr.1.2 0 (by decide) p hp]
  refine e_note hd hr.2.1 hN (fun s1 hs1 => ?_)
  have hl := LD_noted (x := (2, p, 0)) hr.2 hs1
  obtain ⟨h0, h1, h2, h3, h4, h5, h6⟩ := hs1
  refine d_item hd 0 (by decide) rfl (show p < 6 from hp) ?_
  refine d_setItem hd 0 (by decide) rfl (show p < 6 from hp) ?_
  refine h _ ⟨?_, LD_keep hl (fun c h8 hc => by rw [gR_I, gr_set, if_neg (by omega)]) (by rw [gI_ne _ _ (by omega)]; rfl)⟩ (outD_tr h0 (outD_tr (outD_R _ 0 (by decide) _) (outD_I _ 1 _)))
  rw [rp_last]
  refine ⟨fun j hj => ?_, fun c hc k hk => ?_⟩
  · rw [gI_if]
    show _ = nI (fu (rp F q N).1 1 ((rp F q N).1 1 - 1) j)
    unfold fu
    by_cases e : j = 1
    · subst e
      rw [if_pos ⟨rfl, rfl⟩, if_pos rfl]
      show gI s1 d 1 - 1 = _
      rw [h5 1 (by decide), hr.1.1 1 (by decide)]
      exact pk_sub (b := 1) he
    · rw [if_neg (fun z => e z.2), if_neg e]
      show gI s1 d j = _
      rw [h5 j hj]
      exact hr.1.1 j hj
  · rw [gR_I, gr_set]
    show _ = nI (fuu (rp F q N).2 0 p ((rp F q N).2 0 p + 1) c k)
    unfold fuu
    by_cases e : c = 0
    · subst e
      rw [if_pos rfl, upd_if, h1 0 (by decide)]
      by_cases e2 : k = p
      · rw [if_pos e2, if_pos ⟨rfl, e2⟩, hr.1.2 0 (by decide) p hp, nI_1]
      · rw [if_neg e2, if_neg (fun z => e2 z.2)]
        exact hr.1.2 0 hc k hk
    · rw [if_neg e, if_neg (fun z => e z.1), h1 c hc]
      exact hr.1.2 c hc k hk
end DDS
