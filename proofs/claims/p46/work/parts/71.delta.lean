/-! the class's Delta, by numbers: n 0 women, n 1 earth, n 2 years, n 3 deeds; a c i: its arrays in the order of the fields -/
def isD (d : Nat) : Prop := d = 25 ∨ d = 37 ∨ d = 49 ∨ d = 61 ∨ d = 73
def dlen (c : Nat) : Nat := ([6, 6, 6, 6, 6, 8, 48, 48, 40, 40, 40] : List Nat).getD c 0
theorem D_t {d : Nat} (hd : isD d) : ∀ c, c < 11 → tX d (4 + c) = some (d + 1 + c) := by
  rcases hd with rfl | rfl | rfl | rfl | rfl <;> decide +kernel
theorem D_k {d : Nat} (hd : isD d) : kX d = 0 := by
  rcases hd with rfl | rfl | rfl | rfl | rfl <;> rfl
theorem D_ka {d : Nat} (hd : isD d) : ∀ c, c < 11 → kX (d + 1 + c) = 7 := by
  rcases hd with rfl | rfl | rfl | rfl | rfl <;> decide +kernel
theorem D_l {d : Nat} (hd : isD d) : ∀ c, c < 11 → lX (d + 1 + c) = dlen c := by
  rcases hd with rfl | rfl | rfl | rfl | rfl <;> decide +kernel
theorem d_item {d : Nat} (hd : isD d) (c : Nat) (hc : c < 11) {x : Int32} {j : Nat} {s : Sg} {Q : Int32 → Sg → Prop} (hx : x = nI j) (hj : j < dlen c) (h : Q (gR s (d + 1 + c) j) s) : p_X5_item (tX d (4 + c)) x s Q :=
  e_item (D_t hd c hc) (D_ka hd c hc) hx (by rw [D_l hd c hc]; exact hj) h
theorem d_setItem {d : Nat} (hd : isD d) (c : Nat) (hc : c < 11) {x v : Int32} {j : Nat} {s : Sg} {Q : Sg → Prop} (hx : x = nI j) (hj : j < dlen c) (h : Q (setR s (d + 1 + c) (upd (gR s (d + 1 + c)) j v))) : p_X5_setItem (tX d (4 + c)) x v s Q :=
  e_setItem (D_t hd c hc) (D_ka hd c hc) hx (by rw [D_l hd c hc]; exact hj) h
/-- the places that count -/
def rng (n : Nat → Nat) (c i : Nat) : Prop := if c = 0 then i < 6 else if c < 5 then i < n 0 else if c = 5 then i < n 2 else i % 6 < n 0 ∧ i / 6 < n 2
def VD (s : Sg) (d : Nat) (n : Nat → Nat) (a : Nat → Nat → Nat) : Prop := (∀ j, j < 3 → gI s d j = nI (n j)) ∧ ∀ c, c < 8 → ∀ i, rng n c i → gR s (d + 1 + c) i = nI (a c i)
def BV (n : Nat → Nat) (a : Nat → Nat → Nat) : Prop := n 0 ≤ 6 ∧ n 1 ≤ 9 ∧ n 2 ≤ 8 ∧ (∀ p, p < 6 → a 0 p ≤ 9) ∧ (∀ i, i < n 0 → a 1 i ≤ 5 ∧ a 2 i ≤ 5 ∧ 1 ≤ a 3 i ∧ a 3 i ≤ 9 ∧ a 4 i ≤ 3) ∧ (∀ y, y < n 2 → a 5 y ≤ 20) ∧ ∀ i y, i < n 0 → y < n 2 → a 6 (y * 6 + i) ≤ 9 ∧ a 7 (y * 6 + i) ≤ 3
theorem rng6 {n : Nat → Nat} {i y : Nat} (h6 : n 0 ≤ 6) (hi : i < n 0) (hy : y < n 2) : (y * 6 + i) % 6 < n 0 ∧ (y * 6 + i) / 6 < n 2 := by omega
/-! values -/
theorem v_min {w t : Nat} (hw : w < 2 ^ 31) (ht : t < 2 ^ 31) : (if nI t < nI w then nI t else nI w) = nI (min w t) := by
  by_cases h : t < w
  · rw [if_pos ((nI_ltI ht hw).mpr h), Nat.min_eq_right (by omega)]
  · rw [if_neg (fun q => h ((nI_ltI ht hw).mp q)), Nat.min_eq_left (by omega)]
theorem v_max {p q : Nat} (hp : p < 2 ^ 31) (hq : q < 2 ^ 31) : (if nI p < nI q then nI q else nI p) = nI (max p q) := by
  by_cases h : p < q
  · rw [if_pos ((nI_ltI hp hq).mpr h), Nat.max_eq_right (by omega)]
  · rw [if_neg (fun z => h ((nI_ltI hp hq).mp z)), Nat.max_eq_left (by omega)]
theorem v_sub {f g : Nat} (hf : f < 2 ^ 30) (hg : g < 2 ^ 30) : (if 0 < (nI f - nI g) then (nI f - nI g) else 0) = nI (f - g) := by
  by_cases h : g < f
  · have e0 : (0 : Int32) < nI (f - g) := (nI_ltI (a := 0) (b := f - g) (by omega) (by omega)).mpr (by omega)
    rw [pk_sub (by omega), if_pos e0]
  · have e : ¬ (0 : Int32) < nI f - nI g := fun q => by
      rw [Int32.lt_iff_toInt_lt, pk_sub_toInt hf hg] at q
      have : (0 : Int32).toInt = 0 := rfl
      omega
    rw [if_neg e, show f - g = 0 by omega]
    rfl
/-- a HEM by its kind, tall, tuck, wet, year -/
def hemN (kd t u w y : Nat) : Nat := if kd = 1 then max 2 (min w t) else if kd = 2 then min w t - u else if kd = 3 then min (min w t) (t / 2) else if kd = 4 then max 2 (min w t) + 1 else if kd = 5 then (if y % 2 = 0 then min w t else min w t - u) else min w t
theorem e_hemBy {kd w t u y : Nat} {s : Sg} {Q : Int32 → Sg → Prop} (hkd : kd ≤ 5) (hw : w < 1000) (ht : t < 1000) (hu : u < 1000) (hy : y < 1000) (h : Q (nI (hemN kd t u w y)) s) : p_X2_hemBy (nI kd) (nI w) (nI t) (nI u) (nI y) s Q := by
  unfold p_X2_hemBy
  have hm : (if nI t < nI w then nI t else nI w) = nI (min w t) := v_min (by omega) (by omega)
  have hmx : (if 2 < nI (min w t) then nI (min w t) else 2) = nI (max 2 (min w t)) := v_max (p := 2) (by omega) (by omega)
  have hs : (if 0 < (nI (min w t) - nI u) then (nI (min w t) - nI u) else 0) = nI (min w t - u) := v_sub (by omega) (by omega)
  have hdv : nI t / 2 = nI (t / 2) := pk_div (d := 2) (by omega) (by omega) (by omega)
  have hh : (if nI (t / 2) < nI (min w t) then nI (t / 2) else nI (min w t)) = nI (min (min w t) (t / 2)) := v_min (by omega) (by omega)
  rw [hm, hmx, hs, hdv, hh]
  have ha : nI y &&& 1 = nI (y % 2) := by rw [show (1 : Int32) = nI 1 from rfl, nI_and, Nat.and_one_is_mod]
  rcases (show kd = 0 ∨ kd = 1 ∨ kd = 2 ∨ kd = 3 ∨ kd = 4 ∨ kd = 5 by omega) with rfl | rfl | rfl | rfl | rfl | rfl
  · exact br_f (by decide) (br_f (by decide) (br_f (by decide) (br_f (by decide) (br_f (by decide) h))))
  · exact br_t (by decide) h
  · exact br_f (by decide) (br_t (by decide) h)
  · exact br_f (by decide) (br_f (by decide) (br_t (by decide) h))
  · refine br_f (by decide) (br_f (by decide) (br_f (by decide) (br_t (by decide) ?_)))
    rw [nI_1]
    exact h
  · refine br_f (by decide) (br_f (by decide) (br_f (by decide) (br_f (by decide) (br_t (by decide) ?_))))
    rw [ha]
    unfold hemN at h
    by_cases h2 : y % 2 = 0
    · rw [h2] at h ⊢
      exact br_t rfl h
    · rw [show y % 2 = 1 by omega] at h ⊢
      exact br_f (by decide) h
theorem hemN_le {kd t u w y : Nat} (ht : t ≤ 9) : hemN kd t u w y ≤ 10 := by
  unfold hemN
  repeat' split
  all_goals omega
/-- the HEM that a flood would make now; that it would have made in a year past; that it made -/
def hN (n : Nat → Nat) (a : Nat → Nat → Nat) (i f kd : Nat) : Nat := hemN kd (a 3 i) (a 4 i) (f - a 0 (a 2 i)) (n 2)
def hT (a : Nat → Nat → Nat) (i y f kd : Nat) : Nat := hemN kd (a 3 i) (a 7 (y * 6 + i)) (f - a 6 (y * 6 + i)) y
def hO (a : Nat → Nat → Nat) (i y : Nat) : Nat := hT a i y (a 5 y) (a 1 i)
section DLT
variable {s : Sg} {d : Nat} {n : Nat → Nat} {a : Nat → Nat → Nat} {Q : Int32 → Sg → Prop}
theorem e_groundUnder (hd : isD d) (hv : VD s d n a) (hb : BV n a) {i : Nat} (hi : i < n 0) (h : Q (nI (a 0 (a 2 i))) s) : p_X0_groundUnder d (nI i) s Q := by
  obtain ⟨b0, b1, b2, b4, b5, b6, b7⟩ := hb
  obtain ⟨c1, c2, c3, c4, c5⟩ := b5 i hi
  unfold p_X0_groundUnder
  refine d_item hd 2 (by decide) rfl (show i < 6 by omega) ?_
  refine d_item hd 0 (by decide) (hv.2 2 (by decide) i hi) (show a 2 i < 6 by omega) ?_
  rw [hv.2 0 (by decide) (a 2 i) (show a 2 i < 6 by omega)]
  exact h
theorem e_wetOf (hd : isD d) (hv : VD s d n a) (hb : BV n a) {i f : Nat} (hi : i < n 0) (hf : f < 1000) (h : Q (nI (f - a 0 (a 2 i))) s) : p_X0_wetOf d (nI i) (nI f) s Q := by
  unfold p_X0_wetOf
  refine e_groundUnder hd hv hb hi ?_
  have := hb.2.2.2.1 (a 2 i) (by have := (hb.2.2.2.2.1 i hi).2.1; omega)
  rw [v_sub (by omega) (by omega)]
  exact h
theorem e_hemIfNow (hd : isD d) (hv : VD s d n a) (hb : BV n a) {i f kd : Nat} (hi : i < n 0) (hf : f < 900) (hk : kd ≤ 5) (h : Q (nI (hN n a i f kd)) s) : p_X0_hemIfNow d (nI i) (nI f) (nI kd) s Q := by
  have hb' := hb
  obtain ⟨b0, b1, b2, b4, b5, b6, b7⟩ := hb
  obtain ⟨c1, c2, c3, c4, c5⟩ := b5 i hi
  unfold p_X0_hemIfNow
  refine e_wetOf hd hv hb' hi (by omega) ?_
  refine d_item hd 3 (by decide) rfl (show i < 6 by omega) ?_
  refine d_item hd 4 (by decide) rfl (show i < 6 by omega) ?_
  rw [hv.2 3 (by decide) i hi, hv.2 4 (by decide) i hi, hv.1 2 (by decide)]
  exact e_hemBy hk (by omega) (by omega) (by omega) (by omega) h
theorem e_hemIfThen (hd : isD d) (hv : VD s d n a) (hb : BV n a) {i y f kd : Nat} (hi : i < n 0) (hy : y < n 2) (hf : f < 900) (hk : kd ≤ 5) (h : Q (nI (hT a i y f kd)) s) : p_X0_hemIfThen d (nI i) (nI y) (nI f) (nI kd) s Q := by
  obtain ⟨b0, b1, b2, b4, b5, b6, b7⟩ := hb
  obtain ⟨c1, c2, c3, c4, c5⟩ := b5 i hi
  obtain ⟨g1, g2⟩ := b7 i y hi hy
  have ex : nI y * 6 + nI i = nI (y * 6 + i) := by rw [show (6 : Int32) = nI 6 from rfl, pk_mul, nI_add]
  unfold p_X0_hemIfThen
  refine d_item hd 6 (by decide) ex (show y * 6 + i < 48 by omega) ?_
  refine d_item hd 3 (by decide) rfl (show i < 6 by omega) ?_
  refine d_item hd 7 (by decide) ex (show y * 6 + i < 48 by omega) ?_
  rw [hv.2 6 (by decide) (y * 6 + i) (rng6 b0 hi hy), hv.2 3 (by decide) i hi, hv.2 7 (by decide) (y * 6 + i) (rng6 b0 hi hy), v_sub (by omega) (by omega)]
  exact e_hemBy hk (by omega) (by omega) (by omega) (by omega) h
theorem e_hemOf (hd : isD d) (hv : VD s d n a) (hb : BV n a) {i y : Nat} (hi : i < n 0) (hy : y < n 2) (h : Q (nI (hO a i y)) s) : p_X0_hemOf d (nI i) (nI y) s Q := by
  have hb' := hb
  obtain ⟨b0, b1, b2, b4, b5, b6, b7⟩ := hb
  have := b6 y hy
  unfold p_X0_hemOf
  refine d_item hd 5 (by decide) rfl (show y < 8 by omega) ?_
  refine d_item hd 1 (by decide) rfl (show i < 6 by omega) ?_
  rw [hv.2 5 (by decide) y hy, hv.2 1 (by decide) i hi]
  exact e_hemIfThen hd hv hb' hi hy (by omega) (b5 i hi).1 h
theorem e_plainHemOf (hd : isD d) (hv : VD s d n a) (hb : BV n a) {i y : Nat} (hi : i < n 0) (hy : y < n 2) (h : Q (nI (hT a i y (a 5 y) 0)) s) : p_X0_plainHemOf d (nI i) (nI y) s Q := by
  have hb' := hb
  obtain ⟨b0, b1, b2, b4, b5, b6, b7⟩ := hb
  have := b6 y hy
  unfold p_X0_plainHemOf
  refine d_item hd 5 (by decide) rfl (show y < 8 by omega) ?_
  rw [hv.2 5 (by decide) y hy]
  exact e_hemIfThen (kd := 0) hd hv hb' hi hy (by omega) (by omega) h
/-- a loop over the women -/
theorem lt_w {w i : Nat} (hw : w ≤ 6) (hi : i < w) : ¬ nI w ≤ nI i := nI_ge hi (by omega)
def wetC (n : Nat → Nat) (a : Nat → Nat → Nat) (f : Nat) : Nat := itr (fun i x => x + if 0 < f - a 0 (a 2 i) then 1 else 0) 0 (n 0) 0
theorem e_howManyWet (hd : isD d) (hv : VD s d n a) (hb : BV n a) {f : Nat} (hf : f < 900) (h : Q (nI (wetC n a f)) s) : p_X0_howManyWet d (nI f) s Q := by
  have hb' := hb
  obtain ⟨b0, b1, b2, b4, b5, b6, b7⟩ := hb
  unfold p_X0_howManyWet
  refine ⟨n 0 + 1, ?_⟩
  refine lp_up (fun m i x => p_X0_howManyWet_L4 Q m d (nI f) (nI x) (nI i) s) (fun _ _ => True) (n 0) (fun i x => x + if 0 < f - a 0 (a 2 i) then 1 else 0) (fun x => Q (nI x) s) (fun m x _ hx => ?_) (fun m i x hi _ hx => ?_) (fun _ _ _ _ => trivial) (n 0) 0 0 (by omega) trivial h
  · unfold p_X0_howManyWet_L4
    rw [hv.1 0 (by decide)]
    exact br_t (nI_le (Nat.le_refl _) (by omega)) hx
  · unfold p_X0_howManyWet_L4
    rw [hv.1 0 (by decide)]
    refine br_f (lt_w b0 hi) (e_wetOf hd hv hb' hi (by omega) ?_)
    unfold p_X0_howManyWet_b24
    have h9 := b4 (a 2 i) (by have := (b5 i hi).2.1; omega)
    by_cases hz : 0 < f - a 0 (a 2 i)
    · rw [if_pos hz] at hx
      refine br_f (nI_nle hz (by omega)) ?_
      rw [nI_1, nI_1]
      exact hx
    · rw [if_neg hz] at hx
      rw [show f - a 0 (a 2 i) = 0 by omega]
      refine br_t (by decide) ?_
      rw [nI_1]
      exact hx
def wetS (n : Nat → Nat) (a : Nat → Nat → Nat) (f : Nat) : Nat := itr (fun i x => x + (f - a 0 (a 2 i))) 0 (n 0) 0
theorem e_wetTogether (hd : isD d) (hv : VD s d n a) (hb : BV n a) {f : Nat} (hf : f < 900) (h : Q (nI (wetS n a f)) s) : p_X0_wetTogether d (nI f) s Q := by
  have hb' := hb
  obtain ⟨b0, b1, b2, b4, b5, b6, b7⟩ := hb
  unfold p_X0_wetTogether
  refine ⟨n 0 + 1, ?_⟩
  refine lp_up (fun m i x => p_X0_wetTogether_L4 Q m d (nI f) (nI x) (nI i) s) (fun _ _ => True) (n 0) (fun i x => x + (f - a 0 (a 2 i))) (fun x => Q (nI x) s) (fun m x _ hx => ?_) (fun m i x hi _ hx => ?_) (fun _ _ _ _ => trivial) (n 0) 0 0 (by omega) trivial h
  · unfold p_X0_wetTogether_L4
    rw [hv.1 0 (by decide)]
    exact br_t (nI_le (Nat.le_refl _) (by omega)) hx
  · unfold p_X0_wetTogether_L4
    rw [hv.1 0 (by decide)]
    refine br_f (lt_w b0 hi) (e_wetOf hd hv hb' hi (by omega) ?_)
    rw [nI_add, nI_1]
    exact hx
def isOfN (kd of : Nat) : Bool := of == 0 || kd == of || (of == 1 && kd == 4) || (of == 2 && kd == 5)
theorem e_isOf {kd of : Nat} (hk : kd ≤ 5) (ho : of ≤ 5) (h : Q (if isOfN kd of then 1 else 0) s) : p_X2_isOf (nI kd) (nI of) s Q := by
  unfold p_X2_isOf p_X2_isOf_b40 p_X2_isOf_b56
  rcases (show kd = 0 ∨ kd = 1 ∨ kd = 2 ∨ kd = 3 ∨ kd = 4 ∨ kd = 5 by omega) with rfl | rfl | rfl | rfl | rfl | rfl <;>
    rcases (show of = 0 ∨ of = 1 ∨ of = 2 ∨ of = 3 ∨ of = 4 ∨ of = 5 by omega) with rfl | rfl | rfl | rfl | rfl | rfl <;>
    (repeat' first | exact h | refine br_t (by decide) ?_ | refine br_f (by decide) ?_)
def kindC (n : Nat → Nat) (a : Nat → Nat → Nat) (of : Nat) : Nat := itr (fun i x => x + if isOfN (a 1 i) of then 1 else 0) 0 (n 0) 0
theorem e_howManyOf (hd : isD d) (hv : VD s d n a) (hb : BV n a) {of : Nat} (hf : of ≤ 5) (h : Q (nI (kindC n a of)) s) : p_X0_howManyOf d (nI of) s Q := by
  obtain ⟨b0, b1, b2, b4, b5, b6, b7⟩ := hb
  unfold p_X0_howManyOf
  refine ⟨n 0 + 1, ?_⟩
  refine lp_up (fun m i x => p_X0_howManyOf_L4 Q m d (nI of) (nI x) (nI i) s) (fun _ _ => True) (n 0) (fun i x => x + if isOfN (a 1 i) of then 1 else 0) (fun x => Q (nI x) s) (fun m x _ hx => ?_) (fun m i x hi _ hx => ?_) (fun _ _ _ _ => trivial) (n 0) 0 0 (by omega) trivial h
  · unfold p_X0_howManyOf_L4
    rw [hv.1 0 (by decide)]
    exact br_t (nI_le (Nat.le_refl _) (by omega)) hx
  · unfold p_X0_howManyOf_L4
    rw [hv.1 0 (by decide)]
    refine br_f (lt_w b0 hi) (d_item hd 1 (by decide) rfl (show i < 6 by omega) ?_)
    rw [hv.2 1 (by decide) i hi]
    refine e_isOf (b5 i hi).1 hf ?_
    unfold p_X0_howManyOf_b30
    by_cases hz : isOfN (a 1 i) of = true
    · rw [if_pos hz] at hx ⊢
      refine br_f (by decide) ?_
      rw [nI_1, nI_1]
      exact hx
    · rw [if_neg hz] at hx ⊢
      refine br_t (by decide) ?_
      rw [nI_1]
      exact hx
def lastH (n : Nat → Nat) (a : Nat → Nat → Nat) : Nat := if n 2 = 0 then 0 else a 5 (n 2 - 1)
theorem e_lastHeight (hd : isD d) (hv : VD s d n a) (hb : BV n a) (h : Q (nI (lastH n a)) s) : p_X0_lastHeight d s Q := by
  obtain ⟨b0, b1, b2, b4, b5, b6, b7⟩ := hb
  unfold p_X0_lastHeight
  rw [hv.1 2 (by decide)]
  unfold lastH at h
  by_cases hz : n 2 = 0
  · rw [if_pos hz] at h
    rw [hz]
    exact br_t (by decide) h
  · rw [if_neg hz] at h
    refine br_f (nI_nle (by omega) (by omega)) ?_
    refine d_item hd 5 (by decide) (show nI (n 2) - 1 = nI (n 2 - 1) from pk_sub (b := 1) (by omega)) (show n 2 - 1 < 8 by omega) ?_
    rw [hv.2 5 (by decide) (n 2 - 1) (show n 2 - 1 < n 2 by omega)]
    exact h
def greatH (n : Nat → Nat) (a : Nat → Nat → Nat) (i : Nat) : Nat := itr (fun y x => max x (hO a i y)) 0 (n 2) 0
theorem greatH_le (n : Nat → Nat) (a : Nat → Nat → Nat) (i : Nat) (ht : a 3 i ≤ 9) : greatH n a i ≤ 10 := by
  have := itr_inv (step := fun y x => max x (hO a i y)) (fun _ x => x ≤ 10) (n 2) 0 0 (by omega) (fun y x _ _ hx => by
    have : hO a i y ≤ 10 := hemN_le ht
    show max x _ ≤ 10
    omega)
  exact this
theorem e_greatestHemOf (hd : isD d) (hv : VD s d n a) (hb : BV n a) {i : Nat} (hi : i < n 0) (h : Q (nI (greatH n a i)) s) : p_X0_greatestHemOf d (nI i) s Q := by
  have hb' := hb
  obtain ⟨b0, b1, b2, b4, b5, b6, b7⟩ := hb
  unfold p_X0_greatestHemOf
  refine ⟨n 2 + 1, ?_⟩
  refine lp_up (fun m y x => p_X0_greatestHemOf_L4 Q m d (nI i) (nI x) (nI y) s) (fun _ x => x ≤ 10) (n 2) (fun y x => max x (hO a i y)) (fun x => Q (nI x) s) (fun m x _ hx => ?_) (fun m y x hy hx0 hx => ?_) (fun y x hy hx => ?_) (n 2) 0 0 (by omega) (by omega) h
  · unfold p_X0_greatestHemOf_L4
    rw [hv.1 2 (by decide)]
    exact br_t (nI_le (Nat.le_refl _) (by omega)) hx
  · unfold p_X0_greatestHemOf_L4
    rw [hv.1 2 (by decide)]
    refine br_f (nI_ge hy (by omega)) (e_hemOf hd hv hb' hi hy ?_)
    have : hO a i y ≤ 10 := hemN_le (b5 i hi).2.2.2.1
    rw [v_max (by omega) (by omega), nI_1]
    exact hx
  · have : hO a i y ≤ 10 := hemN_le (b5 i hi).2.2.2.1
    omega
end DLT
