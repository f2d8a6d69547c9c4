/-! raise: the class's side -/
def fkN (a : Nat → Nat → Nat) (k p : Nat) : Nat := ct (fun i => a 2 i == p) k
theorem fkN_s (a : Nat → Nat → Nat) (k p : Nat) : fkN a (k + 1) p = fkN a k p + if a 2 k = p then 1 else 0 := by
  show ct _ k + (if (a 2 k == p) = true then 1 else 0) = _
  by_cases h : a 2 k = p
  · rw [if_pos h, if_pos (by simp [h])]; rfl
  · rw [if_neg h, if_neg (by simp [h])]; rfl
theorem fkN_le (a : Nat → Nat → Nat) (k p : Nat) : fkN a k p ≤ k := ct_le _ k
theorem wetP_tt {n : Nat → Nat} {a : Nat → Nat → Nat} {mo : Nat → Nat} (hb : BV n a) (f : Nat) : wetP n a mo f 63 = ttN (a 0) (fkN a (n 0)) f 6 (fun j => mo (5 - j)) := by
  have key : ∀ k, k ≤ n 0 → itr (fun i x => x + if (63 : Nat).testBit (a 2 i) then f - (a 0 (a 2 i) + mo (a 2 i)) else 0) 0 k 0 = fkN a k 0 * (f - (a 0 0 + mo 0)) + (fkN a k 1 * (f - (a 0 1 + mo 1)) + (fkN a k 2 * (f - (a 0 2 + mo 2)) + (fkN a k 3 * (f - (a 0 3 + mo 3)) + (fkN a k 4 * (f - (a 0 4 + mo 4)) + (fkN a k 5 * (f - (a 0 5 + mo 5)) + 0))))) := by
    intro k
    induction k with
    | zero => intro _; show 0 = 0 * _ + (0 * _ + (0 * _ + (0 * _ + (0 * _ + (0 * _ + 0))))); omega
    | succ k ih =>
      intro hk
      have h5 := (hb.2.2.2.2.1 k (by omega)).2.1
      rw [itr_succ, ih (by omega), Nat.zero_add]
      show _ + (if (63 : Nat).testBit (a 2 k) then f - (a 0 (a 2 k) + mo (a 2 k)) else 0) = _
      rw [if_pos (bit63 _ (by omega))]
      simp only [fkN_s]
      rcases (show a 2 k = 0 ∨ a 2 k = 1 ∨ a 2 k = 2 ∨ a 2 k = 3 ∨ a 2 k = 4 ∨ a 2 k = 5 by omega) with e | e | e | e | e | e <;> rw [e] <;> simp only [Nat.reduceEqDiff, ↓reduceIte, Nat.add_zero, Nat.add_mul, Nat.one_mul] <;> omega
  exact key (n 0) (Nat.le_refl _)
theorem wetP_le {n : Nat → Nat} {a : Nat → Nat → Nat} {mo : Nat → Nat} (hb : BV n a) {f : Nat} (hf : f ≤ 20) (pl : Nat) : wetP n a mo f pl ≤ 120 := by
  have h := itr_inv (step := fun i x => x + if pl.testBit (a 2 i) then f - (a 0 (a 2 i) + mo (a 2 i)) else 0) (fun i x => x ≤ 20 * i) (n 0) 0 0 (by omega) (fun j y _ _ hy => by
    show y + _ ≤ _
    split <;> omega)
  have b0 := hb.1
  unfold wetP
  omega
def th (X s : Sg) : Prop := (∀ k, k < 20 ∨ 22 < k → gR s k = gR X k) ∧ gI s = gI X ∧ gJ s = gJ X ∧ gT s = gT X
theorem th_set {X s : Sg} (h : th X s) {k : Nat} (f : Nat → Int32) (hk : 20 ≤ k ∧ k ≤ 22) : th X (setR s k f) := ⟨fun c hc => by rw [gR_ne _ _ (by omega)]; exact h.1 c hc, h.2⟩
theorem Inv_th {X s M : Sg} (hI : Inv X M) (h : th X s) : Inv s M := by
  obtain ⟨a1, a2, a3, a4⟩ := h
  obtain ⟨h1, h2, h3, h4, h5, h6⟩ := hI
  exact ⟨IF_s h1 ⟨by rw [a2], a1 _ (by omega)⟩ ⟨rfl, rfl⟩, IT_s h2 ⟨by rw [a2], by rw [a3], by rw [a3]⟩ ⟨rfl, rfl, rfl⟩, IS1_s h3 (fun _ _ _ => a1 _ (by omega)) (fun _ _ _ => rfl), IS2_s h4 (fun _ _ _ => a1 _ (by omega)) (fun _ _ _ => rfl), IB_s h5 (fun _ _ _ => a1 _ (by omega)), ID_s h6 ⟨fun _ _ => a1 _ (by omega), fun _ _ _ => by rw [a2]⟩ ⟨fun _ _ _ => rfl, rfl, rfl, rfl, rfl, rfl⟩⟩
def DYK (s : Sg) (g c : Nat → Nat) : Prop := (∀ p, p < 6 → gR s 20 p = nI (g p)) ∧ ∀ p, p < 6 → gR s 21 p = nI (c p)
theorem DYK_s {s s' : Sg} {g c : Nat → Nat} (h : DYK s g c) (h0 : gR s' 20 = gR s 20) (h1 : gR s' 21 = gR s 21) : DYK s' g c := ⟨by rw [h0]; exact h.1, by rw [h1]; exact h.2⟩
theorem e_takeD {X : Sg} {n : Nat → Nat} {a : Nat → Nat → Nat} (hv : VD X 25 n a) (hb : BV n a) {o : Option Nat} (ho : o = some 25) {Q : Sg → Prop} (h : ∀ s, th X s → DYK s (a 0) (fkN a (n 0)) → Q s) : p_X1_take 19 o X Q := by
  subst ho
  have b0 := hb.1
  have key : ∀ r i s, i + r = n 0 → th X s → (∀ p, p < 6 → gR s 20 p = nI (a 0 p)) → (∀ p, p < 6 → gR s 21 p = nI (fkN a i p)) → p_X1_take_L21 Q (r + 1) 19 (some 25) (nI i) s := by
    intro r
    induction r with
    | zero =>
      intro i s hi ht h1 h2
      have e : i = n 0 := by omega
      subst e
      unfold p_X1_take_L21
      refine ⟨25, rfl, rfl, br_t ?_ (h s ht ⟨h1, h2⟩)⟩
      rw [ht.2.1, hv.1 0 (by decide)]
      exact nI_le (Nat.le_refl _) (by omega)
    | succ r ih =>
      intro i s hi ht h1 h2
      have hi2 : i < n 0 := by omega
      have h5 := (hb.2.2.2.2.1 i hi2).2.1
      have e2 : gR s (25 + 1 + 2) i = nI (a 2 i) := by rw [ht.1 _ (by omega)]; exact hv.2 2 (by decide) i hi2
      unfold p_X1_take_L21
      refine ⟨25, rfl, rfl, br_f ?_ ⟨25, rfl, rfl, d_item isD25 2 (by decide) rfl (show i < 6 by omega) ?_⟩⟩
      · rw [ht.2.1, hv.1 0 (by decide)]
        exact lt_w b0 hi2
      rw [e2, nI_1]
      refine e_item (k := 21) (j := a 2 i) rfl rfl rfl (show a 2 i < 6 by omega) ?_
      refine e_setItem (k := 21) (j := a 2 i) rfl rfl rfl (show a 2 i < 6 by omega) ?_
      refine ih (i + 1) _ (by omega) (th_set ht _ (by omega)) (fun p hp => ?_) (fun p hp => ?_)
      · rw [gR_ne _ _ (by decide)]; exact h1 p hp
      · rw [gR_same, upd_if, fkN_s]
        by_cases q : p = a 2 i
        · rw [if_pos q, if_pos q.symm, ← q, h2 p hp, nI_1]
        · rw [if_neg q, if_neg (fun z => q z.symm)]; exact h2 p hp
  unfold p_X1_take
  refine e_fill (k := 21) rfl rfl (by decide) ⟨25, rfl, rfl, e_copyItems (k := 26) (k2 := 20) rfl rfl rfl rfl rfl ⟨n 0 + 1, ?_⟩⟩
  refine key (n 0) 0 _ (by omega) (th_set (th_set ⟨fun _ _ => rfl, rfl, rfl, rfl⟩ _ (by decide)) _ (by decide)) (fun p hp => ?_) (fun p hp => ?_)
  · rw [gR_same, pk_cpy_in (Nat.zero_le p) (show p < 0 + lX 26 by show p < 0 + 6; omega), gR_ne _ _ (by decide), show 0 + (p - 0) = p by omega]
    exact hv.2 0 (by decide) p hp
  · rw [gR_ne _ _ (by decide), gR_same]
    exact if_pos hp
theorem ix7 (k j : Nat) : nI k * 7 + nI j = nI (k * 7 + j) := by rw [show (7 : Int32) = nI 7 from rfl, pk_mul, nI_add]
theorem e_leastOf {s : Sg} {p l : Nat} {Q : Int32 → Sg → Prop} (h : p * 7 + l < 49) (hQ : Q (gR s 22 (p * 7 + l)) s) : p_X1_leastOf 19 (nI p) (nI l) s Q := by
  unfold p_X1_leastOf
  rw [ix7]
  exact e_item (k := 22) rfl rfl rfl h hQ
theorem e_setLeast {s : Sg} {p l : Nat} {v : Int32} {Q : Sg → Prop} (h : p * 7 + l < 49) (hQ : Q (setR s 22 (upd (gR s 22) (p * 7 + l) v))) : p_X1_setLeast 19 (nI p) (nI l) v s Q := by
  unfold p_X1_setLeast
  rw [ix7]
  exact e_setItem (k := 22) rfl rfl rfl h hQ
theorem v_way {c f t l : Nat} (hc : c ≤ 6) (hf : f ≤ 20) (ht : t ≤ 20) (hl : l ≤ 1000000) : (if (nI c * (if 0 < (nI f - nI t) then (nI f - nI t) else 0)) + nI l < 1000000 then (nI c * (if 0 < (nI f - nI t) then (nI f - nI t) else 0)) + nI l else 1000000) = nI (min 1000000 (c * (f - t) + l)) := by
  have h1 := Nat.mul_le_mul hc (show f - t ≤ 20 by omega)
  rw [v_sub (by omega) (by omega), pk_mul, nI_add, show (1000000 : Int32) = nI 1000000 from rfl]
  exact v_min (by decide) (by omega)
section DYK1
variable {s : Sg} {g c : Nat → Nat} {f : Nat}
theorem e_wayOf (hd : DYK s g c) (hg : ∀ p, p < 6 → g p ≤ 9) (hc : ∀ p, p < 6 → c p ≤ 6) (hf : f ≤ 20) {p left x : Nat} {L : Nat → Nat} (hp : p < 6) (hx : x ≤ left) (hl : left ≤ 6) (hL : gR s 22 ((p + 1) * 7 + (left - x)) = nI (L (left - x))) (hm : L (left - x) ≤ 1000000) {Q : Int32 → Sg → Prop} (hQ : Q (nI (wyN g c f p L left x)) s) : p_X1_wayOf 19 (nI p) (nI left) (nI x) (nI f) s Q := by
  have g9 := hg p hp
  have c6 := hc p hp
  unfold wyN at hQ
  unfold p_X1_wayOf
  refine e_item (k := 20) rfl rfl rfl hp ?_
  rw [hd.1 p hp, nI_add]
  refine br_le (b := 9) rfl rfl (by omega) (by decide) (fun q => ?_) (fun q => ?_)
  · rw [if_pos q] at hQ
    refine e_item (k := 21) rfl rfl rfl hp ?_
    rw [nI_1, pk_sub hx, hd.2 p hp]
    refine e_leastOf (by omega) ?_
    rw [hL, v_way c6 hf (by omega) hm]
    exact hQ
  · rw [if_neg (by omega)] at hQ
    exact hQ
theorem e_leastBy (hd : DYK s g c) (hg : ∀ p, p < 6 → g p ≤ 9) (hc : ∀ p, p < 6 → c p ≤ 6) (hf : f ≤ 20) {p left : Nat} {L : Nat → Nat} (hp : p < 6) (hl : left ≤ 6) (hL : ∀ l, l ≤ left → gR s 22 ((p + 1) * 7 + l) = nI (L l)) (hm : ∀ l, L l ≤ 1000000) {Q : Int32 → Sg → Prop} (hQ : Q (nI (mnT (wyN g c f p L left) (left + 1))) s) : p_X1_leastBy 19 (nI p) (nI left) (nI f) s Q := by
  unfold p_X1_leastBy
  refine ⟨left + 1 + 1, ?_⟩
  refine lp_up (fun m i b => p_X1_leastBy_L7 Q m 19 (nI p) (nI left) (nI f) (nI b) (nI i) s) (fun _ b => b ≤ 1000000) (left + 1) (fun i b => min b (wyN g c f p L left i)) (fun b => Q (nI b) s) (fun m b _ hb => ?_) (fun m i b hi hb h => ?_) (fun i b _ hb => ?_) (left + 1) 0 1000000 (by omega) (Nat.le_refl _) hQ
  · unfold p_X1_leastBy_L7
    exact br_t (nI_lt (by omega) (by omega)) hb
  · unfold p_X1_leastBy_L7
    refine br_f (nI_nlt (by omega) (by omega)) (e_wayOf hd hg hc hf hp (show i ≤ left by omega) hl (hL _ (by omega)) (hm _) ?_)
    have hw : wyN g c f p L left i ≤ 1000000 := by
      unfold wyN
      split <;> omega
    rw [v_min (by omega) (by omega), nI_1]
    exact h
  · show min b _ ≤ _
    omega
def TBL (s : Sg) (g c : Nat → Nat) (f r n : Nat) : Prop := ∀ j l, j ≤ r → l ≤ n → gR s 22 ((6 - j) * 7 + l) = nI (LsN g c f j l)
theorem e_fewest (hd : DYK s g c) (hg : ∀ p, p < 6 → g p ≤ 9) (hc : ∀ p, p < 6 → c p ≤ 6) (hf : f ≤ 20) {r left n : Nat} (hr : r < 6) (hl : left ≤ n) (hn : n ≤ 6) (hT : TBL s g c f 6 n) {Q : Int32 → Sg → Prop} (hQ : Q (nI (fsN g c f r left)) s) : p_X1_fewestAt 19 (nI (5 - r)) (nI left) (nI f) s Q := by
  have key : ∀ k x, x + k = left + 1 → Q (nI (fwN (fun x => wyN g c f (5 - r) (LsN g c f r) left x == LsN g c f (r + 1) left) k x)) s → p_X1_fewestAt_L3 Q (k + 1) 19 (nI (5 - r)) (nI left) (nI f) (nI x) s := by
    intro k
    induction k with
    | zero =>
      intro x hx h
      unfold p_X1_fewestAt_L3
      exact br_t (nI_lt (by omega) (by omega)) h
    | succ k ih =>
      intro x hx h
      have hL : gR s 22 ((5 - r + 1) * 7 + (left - x)) = nI (LsN g c f r (left - x)) := by
        rw [show 5 - r + 1 = 6 - r by omega]
        exact hT r _ (by omega) (by omega)
      have hw : wyN g c f (5 - r) (LsN g c f r) left x ≤ 1000000 := by
        unfold wyN
        split <;> omega
      have hz := LsN_max g c f (r + 1) left
      unfold p_X1_fewestAt_L3
      refine br_f (nI_nlt (by omega) (by omega)) (e_wayOf hd hg hc hf (show 5 - r < 6 by omega) (show x ≤ left by omega) (by omega) hL (LsN_max g c f r _) ?_)
      refine e_leastOf (by omega) ?_
      rw [show (5 - r) * 7 + left = (6 - (r + 1)) * 7 + left by omega, hT (r + 1) left (by omega) hl, nI_1]
      unfold fwN at h
      refine br_eq rfl rfl (by omega) (by omega) (fun q => ?_) (fun q => ?_)
      · rw [if_pos (by simp [q])] at h
        exact h
      · rw [if_neg (by simp [q])] at h
        exact ih (x + 1) (by omega) h
  unfold p_X1_fewestAt
  exact ⟨left + 1 + 1, key (left + 1) 0 (by omega) hQ⟩
end DYK1
theorem e_leastWet {X : Sg} {g c : Nat → Nat} {f n : Nat} (hd : DYK X g c) (hg : ∀ p, p < 6 → g p ≤ 9) (hc : ∀ p, p < 6 → c p ≤ 6) (hf : f ≤ 20) (hn : n ≤ 6) {Q : Int32 → Sg → Prop} (hQ : ∀ h, TBL (setR X 22 h) g c f 6 n → Q (nI (LsN g c f 6 n)) (setR X 22 h)) : p_X1_leastWet 19 (nI n) (nI f) X Q := by
  have kA : ∀ k h, k ≤ 6 → TBL (setR X 22 h) g c f (6 - k) n → p_X1_leastWet_L33 Q (k + 1) 19 (nI n) (nI f) (nI k + (-1)) (setR X 22 h) := by
    intro k
    induction k with
    | zero =>
      intro h _ hT
      unfold p_X1_leastWet_L33
      refine br_t (by decide) ?_
      refine e_leastOf (p := 0) (by omega) ?_
      rw [show 0 * 7 + n = (6 - 6) * 7 + n by omega, hT 6 n (by omega) (Nat.le_refl _)]
      exact hQ h hT
    | succ k ih =>
      intro h hk hT
      rw [pk_m1]
      unfold p_X1_leastWet_L33
      refine br_f (nI_pos (by omega)) ⟨n + 1 + 1, ?_⟩
      have kB : ∀ r l h, l + r = n + 1 → TBL (setR X 22 h) g c f (5 - k) n → (∀ i, i < l → h (k * 7 + i) = nI (LsN g c f (6 - k) i)) → p_X1_leastWet_L40 Q (fun y0 y1 y2 y3 u => p_X1_leastWet_L33 Q (k + 1) y0 y1 y2 y3 u) (r + 1) 19 (nI n) (nI f) (nI k) (nI l) (setR X 22 h) := by
        intro r
        induction r with
        | zero =>
          intro l h hl hT hi
          unfold p_X1_leastWet_L40
          refine br_t (nI_lt (by omega) (by omega)) (ih h (by omega) (fun j i hj hl2 => ?_))
          by_cases q : j = 6 - k
          · subst q
            rw [gR_same, show 6 - (6 - k) = k by omega]
            exact hi i (by omega)
          · exact hT j i (by omega) hl2
        | succ r ihr =>
          intro l h hl hT hi
          unfold p_X1_leastWet_L40
          refine br_f (nI_nlt (by omega) (by omega)) (e_leastBy (L := LsN g c f (5 - k)) (DYK_s hd (gR_ne _ _ (by decide)) (gR_ne _ _ (by decide))) hg hc hf (by omega) (show l ≤ 6 by omega) (fun i hi2 => ?_) (fun i => LsN_max _ _ _ _ _) ?_)
          · rw [show k + 1 = 6 - (5 - k) by omega]
            exact hT _ i (by omega) (by omega)
          · refine e_setLeast (by omega) ?_
            rw [setR_setR, gR_same, nI_1]
            refine ihr (l + 1) _ (by omega) (fun j i hj hl2 => ?_) (fun i hi2 => ?_)
            · rw [gR_same, upd_n _ _ (by omega)]
              have := hT j i hj hl2
              rw [gR_same] at this
              exact this
            · rw [upd_if]
              by_cases q : i = l
              · subst q
                rw [if_pos rfl]
                have e : LsN g c f (6 - k) i = mnT (wyN g c f k (LsN g c f (5 - k)) i) (i + 1) := by
                  rw [show 6 - k = 5 - k + 1 by omega]
                  show mnT (wyN g c f (5 - (5 - k)) _ i) (i + 1) = _
                  rw [show 5 - (5 - k) = k by omega]
                rw [e]
              · rw [if_neg (by omega)]
                exact hi i (by omega)
      refine kB (n + 1) 0 h (by omega) ?_ (fun i hi => absurd hi (Nat.not_lt_zero i))
      rw [show 5 - k = 6 - (k + 1) by omega]
      exact hT
  have kC : ∀ r l h, l + r = 7 → (∀ i, i < l → h (42 + i) = nI (LsN g c f 0 i)) → p_X1_leastWet_L2 Q (r + 1) 19 (nI n) (nI f) (nI l) (setR X 22 h) := by
    intro r
    induction r with
    | zero =>
      intro l h hl hi
      unfold p_X1_leastWet_L2
      refine br_t (nI_lt (a := 6) (by omega) (by omega)) ⟨6 + 1, kA 6 h (Nat.le_refl _) (fun j i hj hl2 => ?_)⟩
      have e : j = 0 := by omega
      subst e
      rw [gR_same]
      exact hi i (by omega)
    | succ r ih =>
      intro l h hl hi
      have st : ∀ v : Int32, v = nI (LsN g c f 0 l) → p_X1_leastWet_b22 Q (fun y0 y1 y2 y3 u => p_X1_leastWet_L2 Q (r + 1) y0 y1 y2 y3 u) 19 (nI n) (nI f) (nI l) 6 (nI l) v (setR X 22 h) := fun v hv => by
        unfold p_X1_leastWet_b22
        refine e_setLeast (p := 6) (by omega) ?_
        rw [setR_setR, gR_same, nI_1]
        refine ih (l + 1) _ (by omega) (fun i hi2 => ?_)
        rw [upd_if]
        by_cases q : i = l
        · subst q
          rw [if_pos (by omega), hv]
        · rw [if_neg (by omega)]
          exact hi i (by omega)
      unfold p_X1_leastWet_L2
      refine br_f (nI_nlt (a := 6) (by omega) (by omega)) (br_eq (b := 0) rfl rfl (by omega) (by decide) (fun q => st 0 ?_) (fun q => st 1000000 ?_))
      · rw [show LsN g c f 0 l = 0 from if_pos q]; rfl
      · rw [show LsN g c f 0 l = 1000000 from if_neg q]; rfl
  unfold p_X1_leastWet
  have := kC 7 0 (gR X 22) (by omega) (fun i hi => absurd hi (Nat.not_lt_zero i))
  rw [setR_self] at this
  exact ⟨7 + 1, this⟩
/-- what the class's raise leaves -/
def rsX (X s : Sg) (k : Nat) (gd : Nat → Nat) : Prop := gI s = gI X ∧ gJ s = gJ X ∧ gT s = gT X ∧ gR s 2 = upd (gR X 2) k (nI 6) ∧ (∀ j, j < 40 → gR s (4 + k) j = if j < 6 then nI (gd (5 - j)) else 0) ∧ ∀ c, c ≠ 2 → c ≠ 4 + k → c < 20 ∨ 22 < c → gR s c = gR X c
theorem x_raise {X : Sg} {n : Nat → Nat} {a : Nat → Nat → Nat} (hv : VD X 25 n a) (hb : BV n a) {m f k : Nat} (hm : m ≤ 6) (hf : f ≤ 20) (hk : k < 6) {Q : Int32 → Sg → Prop} (hQ : ∀ s, rsX X s k (gdN (a 0) (fkN a (n 0)) f 6 m) → Q (nI (LsN (a 0) (fkN a (n 0)) f 6 m)) s) : ∃ k22, tX 0 5 = some k22 ∧ kX k22 = 1 ∧ p_X1_take k22 (tX 0 3) X (fun s25 => ∃ k26, tX 0 5 = some k26 ∧ kX k26 = 1 ∧ p_X1_leastWet k26 (nI m) (nI f) s25 (fun r30 s29 => ∃ k31, tX 0 0 = some k31 ∧ kX k31 = 3 ∧ p_X4_make k31 (nI k) 6 0 s29 (fun s34 => (∃ n35, p_X5_raise_L93 Q n35 0 (nI f) (nI k) r30 (nI m) 0 s34)))) := by
  have b0 := hb.1
  have hg := hb.2.2.2.1
  have hc : ∀ p, p < 6 → fkN a (n 0) p ≤ 6 := fun p _ => Nat.le_trans (fkN_le a (n 0) p) b0
  refine ⟨19, rfl, rfl, e_takeD hv hb rfl (fun s1 ht1 hd1 => ⟨19, rfl, rfl, e_leastWet hd1 hg hc hf hm (fun h hT => ⟨1, rfl, rfl, ?_⟩)⟩)⟩
  have ht2 : th X (setR s1 22 h) := th_set ht1 h (by decide)
  have hd2 : DYK (setR s1 22 h) (a 0) (fkN a (n 0)) := DYK_s hd1 (gR_ne _ _ (by decide)) (gR_ne _ _ (by decide))
  generalize setR s1 22 h = s2 at hT ht2 hd2 ⊢
  refine s_make R1 rfl hk (n := 6) (by decide) rfl (fun s3 g1 g2 g3 g4 g5 g6 => ⟨6 + 1, ?_⟩)
  have key : ∀ r p left, p + r = 6 → left ≤ m → (∀ j, j < 6 - p → gdN (a 0) (fkN a (n 0)) f 6 m j = gdN (a 0) (fkN a (n 0)) f (6 - p) left j) → p_X5_raise_L93 Q (r + 1) 0 (nI f) (nI k) (nI (LsN (a 0) (fkN a (n 0)) f 6 m)) (nI left) (nI p) (wr s3 (1 + 3 + k) 0 (fun p => nI (gdN (a 0) (fkN a (n 0)) f 6 m (5 - p))) p) := by
    intro r
    induction r with
    | zero =>
      intro p left hp hl _
      have e : p = 6 := by omega
      subst e
      unfold p_X5_raise_L93
      refine br_t (by decide) (hQ _ ⟨?_, ?_, ?_, ?_, fun j hj => ?_, fun c h1 h2 h3 => ?_⟩)
      · show gI s3 = _; rw [g1, ht2.2.1]
      · show gJ s3 = _; rw [g2, ht2.2.2.1]
      · show gT s3 = _; rw [g3, ht2.2.2.2]
      · rw [gR_wr _ _ _ _ _ _ (by omega)]
        rw [show gR s3 2 = _ from g5, ht2.1 _ (by omega)]
      · rw [show 4 + k = 1 + 3 + k by omega, gR_wr_s]
        by_cases q : j < 6
        · rw [if_pos (by omega), if_pos q]; rfl
        · rw [if_neg (by omega), if_neg q]; exact g6 j hj
      · rw [gR_wr _ _ _ _ _ _ (by omega), g4 c (by omega) (by omega), ht2.1 c h3]
    | succ r ih =>
      intro p left hp hl he
      unfold p_X5_raise_L93
      have ep : nI p = nI (5 - (5 - p)) := by rw [show 5 - (5 - p) = p by omega]
      have w20 : ∀ c, 20 ≤ c → c ≤ 22 → gR (wr s3 (1 + 3 + k) 0 (fun p => nI (gdN (a 0) (fkN a (n 0)) f 6 m (5 - p))) p) c = gR s2 c := fun c h1 h2 => by
        rw [gR_wr _ _ _ _ _ _ (by omega), g4 c (by omega) (by omega)]
      have hfw : p_X1_fewestAt 19 (nI (5 - (5 - p))) (nI left) (nI f) (wr s3 (1 + 3 + k) 0 (fun p => nI (gdN (a 0) (fkN a (n 0)) f 6 m (5 - p))) p) (fun r6 s5 => ∃ k7, tX 0 0 = some k7 ∧ kX k7 = 3 ∧ p_X4_setCell k7 (nI k) (nI p) r6 s5 (fun s10 => p_X5_raise_L93 Q (r + 1) 0 (nI f) (nI k) (nI (LsN (a 0) (fkN a (n 0)) f 6 m)) (nI left - r6) (nI p + 1) s10)) := by
        refine e_fewest (DYK_s hd2 (w20 20 (by decide) (by decide)) (w20 21 (by decide) (by decide))) hg hc hf (show 5 - p < 6 by omega) hl hm (fun j l h1 h2 => ?_) ⟨1, rfl, rfl, ?_⟩
        · rw [w20 22 (by decide) (by decide)]; exact hT j l h1 h2
        refine s_setCell R1 rfl hk (n := 6) (by decide) ?_ rfl (show p < 6 by omega) ?_
        · rw [gR_wr _ _ _ _ _ _ (by omega), g5, upd_s]
        have e1 : fsN (a 0) (fkN a (n 0)) f (5 - p) left = gdN (a 0) (fkN a (n 0)) f 6 m (5 - p) := by
          rw [he (5 - p) (by omega), show 6 - p = 5 - p + 1 by omega]
          show _ = if 5 - p = 5 - p then _ else _
          rw [if_pos rfl]
        have hx := fsN_le (a 0) (fkN a (n 0)) f (5 - p) left
        have e2 := wr_step s3 (1 + 3 + k) 0 (fun p => nI (gdN (a 0) (fkN a (n 0)) f 6 m (5 - p))) p
        rw [Nat.zero_add] at e2
        rw [pk_sub hx, nI_1, e1, e2, ← e1]
        refine ih (p + 1) _ (by omega) (by omega) (fun j hj => ?_)
        rw [he j (by omega), show 6 - p = 5 - p + 1 by omega, show 6 - (p + 1) = 5 - p by omega]
        show (if j = 5 - p then _ else _) = _
        rw [if_neg (by omega)]
      rw [← ep] at hfw
      exact br_f (nI_ge (b := 6) (by omega) (by decide)) ⟨19, rfl, rfl, hfw⟩
  have := key 6 0 m (by omega) (Nat.le_refl _) (fun j _ => rfl)
  rw [wr_0] at this
  exact this
