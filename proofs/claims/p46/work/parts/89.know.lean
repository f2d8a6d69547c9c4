/-! know, high, look, looks, line -/
theorem lp_upb {α β : Type} (P : Nat → Nat → α → β → Prop) (I : Nat → α → Prop) (w : Nat) (step : Nat → α → α) (fin : α → Prop) (hexit : ∀ n x b, I w x → fin x → P (n + 1) w x b) (hstep : ∀ n i x b, i < w → I i x → (∀ b', P n (i + 1) (step i x) b') → P (n + 1) i x b) (hI : ∀ i x, i < w → I i x → I (i + 1) (step i x)) :
    ∀ r i x b, i + r = w → I i x → fin (itr step i r x) → P (r + 1) i x b := by
  intro r
  induction r with
  | zero =>
    intro i x b hi h h2
    rw [show i = w by omega] at h ⊢
    exact hexit 0 x b h h2
  | succ r ih =>
    intro i x b hi h h2
    exact hstep (r + 1) i x b (by omega) h (fun b' => ih (i + 1) (step i x) b' (by omega) (hI i x (by omega) h) h2)
/-- the greatest of some -/
def mxN (g : Nat → Nat) : Nat → Nat
  | 0 => 0
  | n + 1 => max (mxN g n) (g n)
theorem mxN_up {g g' : Nat → Nat} {v : Nat} (h1 : ∀ k, k ≠ v → g' k = g k) (h2 : g v ≤ g' v) : ∀ n, (v < n → mxN g' n = max (mxN g n) (g' v)) ∧ (n ≤ v → mxN g' n = mxN g n)
  | 0 => ⟨fun h => absurd h (Nat.not_lt_zero v), fun _ => rfl⟩
  | n + 1 => by
    have ih := mxN_up h1 h2 n
    refine ⟨fun h => ?_, fun h => ?_⟩
    · show max (mxN g' n) (g' n) = max (max (mxN g n) (g n)) (g' v)
      by_cases e : n = v
      · subst e
        rw [ih.2 (Nat.le_refl _)]
        omega
      · rw [ih.1 (by omega), h1 n e]
        omega
    · show max (mxN g' n) (g' n) = max (mxN g n) (g n)
      rw [ih.2 (by omega), h1 n (by omega)]
/-- how many of the first k give h -/
def cn (p : Nat → Bool) (g : Nat → Nat) (k h : Nat) : Nat := ct (fun f => p f && (g f == h)) k
theorem cn_s (p : Nat → Bool) (g : Nat → Nat) (k h : Nat) : cn p g (k + 1) h = cn p g k h + (if p k && (g k == h) then 1 else 0) := rfl
theorem mx_step {p : Nat → Bool} {g : Nat → Nat} {k : Nat} (hp : p k = true) (hg : g k ≤ 10) : mxN (cn p g (k + 1)) 11 = max (mxN (cn p g k) 11) (cn p g k (g k) + 1) := by
  have := (mxN_up (g := cn p g k) (g' := cn p g (k + 1)) (v := g k) (fun h hh => by
    rw [cn_s, hp, show (g k == h) = false by simpa using fun e => hh e.symm]
    rfl) (by rw [cn_s]; omega) 11).1 (by omega)
  rw [this, cn_s, hp]
  simp
theorem mx_stay {p : Nat → Bool} {g : Nat → Nat} {k : Nat} (hp : p k = false) : mxN (cn p g (k + 1)) 11 = mxN (cn p g k) 11 := by
  congr 1
  funext h
  rw [cn_s, hp]
  rfl
theorem cn_le (p : Nat → Bool) (g : Nat → Nat) (k h : Nat) : cn p g k h ≤ k := ct_le _ k
theorem mxN_le {g : Nat → Nat} {b : Nat} (h : ∀ k, g k ≤ b) : ∀ n, mxN g n ≤ b
  | 0 => Nat.zero_le b
  | n + 1 => by
    have h1 := mxN_le h n
    have h2 := h n
    show max (mxN g n) (g n) ≤ b
    omega
def prtN (a : Nat → Nat → Nat) (i y hs : Nat) : Nat := mxN (cn hs.testBit (fun f => hT a i y f (a 1 i)) 21) 11
/-- one more alike -/
def tly (X : Sg) (p : Nat → Bool) (g : Nat → Nat) (k : Nat) : Prop := ∀ h, h ≤ 10 → gR X 23 h = nI (cn p g k h)
theorem e_more {X : Sg} {p : Nat → Bool} {g : Nat → Nat} {k v : Nat} {Q : Int32 → Sg → Prop} (ht : tly X p g k) (hk : k < 1000) (hv : v ≤ 10) (h : ∀ X', X' = setR X 23 (upd (gR X 23) v (nI (cn p g k v + 1))) → Q (nI (cn p g k v + 1)) X') : p_X5_oneMoreAlike 0 (nI v) X Q := by
  unfold p_X5_oneMoreAlike
  refine e_item (k := 23) rfl rfl rfl (show v < 11 by omega) ?_
  rw [ht v hv, nI_1]
  exact e_setItem (k := 23) rfl rfl rfl (show v < 11 by omega) (h _ rfl)
theorem tly_up {X : Sg} {p : Nat → Bool} {g : Nat → Nat} {k : Nat} (ht : tly X p g k) (hp : p k = true) : tly (setR X 23 (upd (gR X 23) (g k) (nI (cn p g k (g k) + 1)))) p g (k + 1) := fun h hh => by
  rw [gR_same, upd_if, cn_s, hp]
  by_cases e : h = g k
  · subst e
    rw [if_pos rfl]
    simp
  · rw [if_neg e, ht h hh, show (g k == h) = false by simpa using fun z => e z.symm]
    rfl
theorem tly_stay {X : Sg} {p : Nat → Bool} {g : Nat → Nat} {k : Nat} (ht : tly X p g k) (hp : p k = false) : tly X p g (k + 1) := fun h hh => by
  rw [cn_s, hp, ht h hh]
  rfl
theorem VD_23 {X : Sg} {n : Nat → Nat} {a : Nat → Nat → Nat} (hv : VD X 25 n a) {k : Nat} (f : Nat → Int32) (hk : k < 25) : VD (setR X k f) 25 n a := VD_s hv (fun c _ _ => gR_ne _ _ (by omega)) (fun _ => rfl)
/-- a row of the class that is only thought on -/
theorem Inv_think {X M : Sg} (hI : Inv X M) {k : Nat} (f : Nat → Int32) (hk : 17 ≤ k ∧ k ≤ 23) : Inv (setR X k f) M := by
  obtain ⟨h1, h2, h3, h4, h5, h6⟩ := hI
  exact ⟨IF_s h1 ⟨rfl, gR_ne _ _ (by omega)⟩ ⟨rfl, rfl⟩, IT_s h2 ⟨rfl, rfl, rfl⟩ ⟨rfl, rfl, rfl⟩, IS1_s h3 (fun _ _ _ => gR_ne _ _ (by omega)) (fun _ _ _ => rfl), IS2_s h4 (fun _ _ _ => gR_ne _ _ (by omega)) (fun _ _ _ => rfl), IB_s h5 (fun _ _ _ => gR_ne _ _ (by omega)), ID_s h6 ⟨fun _ _ => gR_ne _ _ (by omega), fun _ _ _ => rfl⟩ ⟨fun _ _ _ => rfl, rfl, rfl, rfl, rfl, rfl⟩⟩
theorem setR_2 (X : Sg) (k : Nat) (f g : Nat → Int32) : setR (setR X k f) k g = setR X k g := setR_setR X k f g
section KNO
variable {X M : Sg}
theorem x_part {n : Nat → Nat} {a : Nat → Nat → Nat} {Q : Int32 → Sg → Prop} (hv : VD X 25 n a) (hb : BV n a) {i y hs : Nat} (hi : i < n 0) (hy : y < n 2) (hh : hs < 2 ^ 31) (h : ∀ g, Q (nI (prtN a i y hs)) (setR X 23 g)) : p_X5_greatestPartOfHeights 0 (nI i) (nI y) (nI hs) X Q := by
  have b0 := hb.1
  have cc := hb.2.2.2.2.1 i hi
  unfold p_X5_greatestPartOfHeights
  refine e_fill (k := 23) rfl rfl (by decide) ⟨22, ?_⟩
  have key : ∀ r f g, f + r = 21 → tly (setR X 23 g) hs.testBit (fun f => hT a i y f (a 1 i)) f → p_X5_greatestPartOfHeights_L14 Q (r + 1) 0 (nI i) (nI y) (nI hs) (nI (mxN (cn hs.testBit (fun f => hT a i y f (a 1 i)) f) 11)) (nI f) (setR X 23 g) := by
    intro r
    induction r with
    | zero =>
      intro f g hf ht
      rw [show f = 21 by omega]
      unfold p_X5_greatestPartOfHeights_L14
      exact br_t (by decide) (h g)
    | succ r ih =>
      intro f g hf ht
      have hv' := VD_23 hv (k := 23) g (by decide)
      have hl := mxN_le (g := cn hs.testBit (fun f => hT a i y f (a 1 i)) f) (cn_le _ _ f) 11
      have hc := cn_le hs.testBit (fun f => hT a i y f (a 1 i)) f (hT a i y f (a 1 i))
      unfold p_X5_greatestPartOfHeights_L14 p_X5_hasBit p_X5_greatestPartOfHeights_b63
      rw [bit_of hh (show f < 31 by omega), nI_1]
      refine br_f (nI_nlt (b := f) (a := 20) (by omega) (by decide)) ?_
      by_cases c : hs.testBit f = true
      · rw [if_pos c]
        refine br_f (by decide) (br_f (by decide) ⟨25, rfl, rfl, d_item isD25 1 (by decide) rfl (show i < 6 by omega) ⟨25, rfl, rfl, ?_⟩⟩)
        rw [hv'.2 1 (by decide) i hi]
        refine e_hemIfThen isD25 hv' hb hi hy (by omega) cc.1 (e_more ht (by omega) (hemN_le cc.2.2.2.1) (fun X' e => ?_))
        have ht' := tly_up ht c
        rw [setR_2] at ht' e
        subst e
        rw [v_max (by omega) (by omega)]
        have hm := mx_step (p := hs.testBit) (g := fun f => hT a i y f (a 1 i)) (k := f) c (hemN_le cc.2.2.2.1)
        rw [← hm]
        exact ih (f + 1) _ (by omega) ht'
      · have c' : hs.testBit f = false := by simpa using c
        rw [if_neg c]
        refine br_t (by decide) (br_t rfl ?_)
        rw [← mx_stay c']
        exact ih (f + 1) g (by omega) (tly_stay ht c')
  have z : mxN (cn hs.testBit (fun f => hT a i y f (a 1 i)) 0) 11 = 0 := rfl
  have := key 21 0 (fun i => if i < bX.2.2.1 23 then 0 else gR X 23 i) (by decide) (fun h hh => by
    rw [gR_same, if_pos (show h < bX.2.2.1 23 by show h < 11; omega)]
    rfl)
  rw [z] at this
  exact this
theorem m_part {n : Nat → Nat} {a : Nat → Nat → Nat} {Q : Int32 → Sg → Prop} (hv : VM M n a) (hb : BV n a) {i y hs : Nat} (hi : i < n 0) (hy : y < n 2) (hh : hs < 2 ^ 31) (h : Q (nI (prtN a i y hs)) M) : p_X6_partBy 0 (nI i) (nI y) (nI hs) M Q := by
  have b0 := hb.1
  have cc := hb.2.2.2.2.1 i hi
  have e1 : gR M 12 i = nI (a 1 i) := hv.2.2.2.1 1 (by decide) i hi
  unfold p_X6_partBy
  refine ⟨12, ?_⟩
  refine lp_up (fun m k (_ : Unit) => p_X6_partBy_L6 Q m 0 (nI i) (nI y) (nI hs) (nI (mxN (cn hs.testBit (fun f => hT a i y f (a 1 i)) 21) k)) (nI k) M) (fun _ _ => True) 11 (fun _ x => x) (fun _ => True) (fun m _ _ _ => ?_) (fun m k _ hk _ hx => ?_) (fun _ _ _ _ => trivial) 11 0 () (by decide) trivial trivial
  · unfold p_X6_partBy_L6
    exact br_t (by decide) h
  · unfold p_X6_partBy_L6
    have hl := mxN_le (g := cn hs.testBit (fun f => hT a i y f (a 1 i)) 21) (cn_le _ _ 21) k
    refine br_f (nI_nlt (b := k) (a := 10) (by omega) (by decide)) ⟨22, ?_⟩
    refine lp_up (fun m' f (_ : Unit) => p_X6_partBy_L19 Q (fun y0 y1 y2 y3 y4 y5 u => p_X6_partBy_L6 Q m y0 y1 y2 y3 y4 y5 u) m' 0 (nI i) (nI y) (nI hs) (nI (mxN (cn hs.testBit (fun f => hT a i y f (a 1 i)) 21) k)) (nI k) (nI (cn hs.testBit (fun f => hT a i y f (a 1 i)) f k)) (nI f) M) (fun _ _ => True) 21 (fun _ x => x) (fun _ => True) (fun m' _ _ _ => ?_) (fun m' f _ hf _ hz => ?_) (fun _ _ _ _ => trivial) 21 0 () (by decide) trivial trivial
    · unfold p_X6_partBy_L19 p_X6_partBy_b85
      rw [nI_1]
      have hc := cn_le hs.testBit (fun f => hT a i y f (a 1 i)) 21 k
      have hx' : p_X6_partBy_L6 Q m 0 (nI i) (nI y) (nI hs) (nI (max (mxN (cn hs.testBit (fun f => hT a i y f (a 1 i)) 21) k) (cn hs.testBit (fun f => hT a i y f (a 1 i)) 21 k))) (nI (k + 1)) M := hx
      refine br_t (by decide) (br_le rfl rfl (by omega) (by omega) (fun c => ?_) (fun c => ?_))
      · rw [Nat.max_eq_left c] at hx'; exact hx'
      · rw [Nat.max_eq_right (by omega)] at hx'; exact hx'
    · unfold p_X6_partBy_L19 p_X6_partBy_b61 p_X6_partBy_b62
      rw [bit_of hh (show f < 31 by omega), m_cl (show i < 100000 by omega), nI_1]
      have hz' : p_X6_partBy_L19 Q (fun y0 y1 y2 y3 y4 y5 u => p_X6_partBy_L6 Q m y0 y1 y2 y3 y4 y5 u) m' 0 (nI i) (nI y) (nI hs) (nI (mxN (cn hs.testBit (fun f => hT a i y f (a 1 i)) 21) k)) (nI k) (nI (cn hs.testBit (fun f => hT a i y f (a 1 i)) f k + (if hs.testBit f && (hT a i y f (a 1 i) == k) then 1 else 0))) (nI (f + 1)) M := hz
      have ht : hT a i y f (a 1 i) ≤ 10 := hemN_le cc.2.2.2.1
      have z0 : ∀ x : Nat, nI x + 0 = nI x := fun x => by rw [show (0 : Int32) = nI 0 from rfl, nI_add]; rfl
      refine br_f (nI_nlt (b := f) (a := 20) (by omega) (by decide)) ?_
      by_cases c : hs.testBit f = true
      · rw [if_pos c]
        rw [c, Bool.true_and] at hz'
        refine br_t (by decide) ⟨12, rfl, rfl, vp_in_nI (show i < 6 by omega) (by decide), ?_⟩
        rw [e1]
        refine m_hemThen hv hb hi hy (by omega) cc.1 (br_eq rfl rfl (by omega) (by omega) (fun d => ?_) (fun d => ?_))
        · rw [if_pos (by simpa using d)] at hz'
          rw [nI_1]
          exact hz'
        · rw [if_neg (by simpa using d)] at hz'
          rw [z0, nI_1]
          exact hz'
      · rw [if_neg c]
        rw [show hs.testBit f = false by simpa using c] at hz'
        refine br_f (by decide) ?_
        rw [z0, nI_1]
        exact hz'
theorem x_isSet {n : Nat → Nat} {a : Nat → Nat → Nat} (hv : VD X 25 n a) (h6 : n 0 ≤ 6) {x : Int32} {Q : Int32 → Sg → Prop} (ht : ok x (2 ^ n 0) → Q 1 X) (hf : ¬ ok x (2 ^ n 0) → Q 0 X) : p_X5_isSet 0 x X Q := by
  have hp : 2 ^ n 0 ≤ 64 := Nat.pow_le_pow_right (n := 2) (by decide) h6
  unfold p_X5_isSet p_X0_everyone
  refine ⟨fun q => hf (fun o => ok_lt0 (by omega) o q), fun q => ⟨25, rfl, rfl, ?_⟩⟩
  have e := nok_hi (x := x) (w := 2 ^ n 0) (by omega) rfl q
  rw [hv.1 0 (by decide), sh_1 (n 0) (by omega)]
  exact ⟨fun q2 => hf (e.mp q2), fun q2 => ht (Classical.byContradiction fun z => q2 (e.mpr z))⟩
theorem ev_eq {n0 : Nat} (h6 : n0 ≤ 6) : ((1 : Int32) <<< (nI n0 &&& 31)) - 1 = nI (2 ^ n0 - 1) := by
  rw [sh_1 n0 (by omega)]
  exact pk_sub (b := 1) (Nat.one_le_two_pow)
theorem st_know (hI : Inv X M) (set y : Int32) : p_X5_know 0 set y X (fun u X' => p_X6_know 0 set y M (fun u' M' => Z X' M' u u')) := by
  obtain ⟨F, q, N, hC⟩ := hI.2.2.2.2.2
  obtain ⟨hv, hm, hb, h3, h36⟩ := IC_now hC
  have b0 := hb.1
  have b2 := hb.2.2.1
  have hp : 2 ^ (rp F q N).1 0 ≤ 64 := Nat.pow_le_pow_right (n := 2) (by decide) b0
  unfold p_X5_know p_X6_know p_X6_all
  rw [hm.1, sh_1 _ (show (rp F q N).1 0 < 31 by omega)]
  refine x_isSet hv b0 (fun hs => br_f (by decide) (x_isPast hv b2 (fun hy => br_f (by decide) ⟨25, rfl, rfl, ?_⟩) (fun hy => br_t rfl ?_))) (fun hs => br_t rfl (m_in_t (w := 2 ^ (rp F q N).1 0) (by omega) rfl (fun z => absurd z hs) (fun _ => br_t rfl ⟨rfl, hI⟩)))
  · have hs' := hs
    have hy' := hy
    obtain ⟨k, hk, rfl⟩ := hs
    obtain ⟨t, ht, rfl⟩ := hy
    have hl := knN_lt (rp F q N).1 (rp F q N).2 k t
    refine e_knownBy isD25 hv hb (by omega) ht (e_bitCount hl ?_)
    exact m_in_t (w := 2 ^ (rp F q N).1 0) (by omega) rfl (fun _ => br_f (by decide) (m_isYear hm b2 (fun _ => br_f (by decide) (m_known hm hb (by omega) ht (m_manyOf (by omega) ⟨rfl, Inv_told hI rfl⟩))) (fun z => absurd hy' z))) (fun z => absurd hs' z)
  · exact m_in_t (w := 2 ^ (rp F q N).1 0) (by omega) rfl (fun _ => br_f (by decide) (m_isYear hm b2 (fun z => absurd z hy) (fun _ => br_t rfl ⟨rfl, hI⟩))) (fun z => absurd hs z)
theorem ct_two {p : Nat → Bool} {i j : Nat} (hij : i < j) (hi : p i = true) (hj : p j = true) : ∀ {n : Nat}, j < n → 2 ≤ ct p n
  | 0, h => absurd h (Nat.not_lt_zero j)
  | n + 1, h => by
    show 2 ≤ ct p n + (if p n then 1 else 0)
    by_cases e : j = n
    · subst e
      rw [hj]
      have one : ∀ m, i < m → 1 ≤ ct p m := by
        intro m
        induction m with
        | zero => intro h; omega
        | succ m ih =>
          intro h
          show 1 ≤ ct p m + (if p m then 1 else 0)
          by_cases e : i = m
          · subst e; rw [hi]; simp
          · have := ih (by omega)
            omega
      have := one j hij
      simp
      exact this
    · have := ct_two hij hi hj (n := n) (by omega)
      omega
theorem knN_true {n : Nat → Nat} {a : Nat → Nat → Nat} (hb : BV n a) (set : Nat) {y : Nat} (hy : y < n 2) : (knN n a set y).testBit (a 5 y) = true := by
  have b6 := hb.2.2.2.2.2.1 y hy
  unfold knN
  rw [bs_test]
  have : knB n a set y (a 5 y) = true := al_iff.mpr (fun i _ => by
    have : fitB a i y (a 5 y) = true := by unfold fitB hO; simp
    rw [this]
    simp)
  rw [this]
  simp
  omega
theorem st_high (hI : Inv X M) (y : Int32) : p_X5_high 0 y X (fun u X' => p_X6_high 0 y M (fun u' M' => Z X' M' u u')) := by
  obtain ⟨F, q, N, hC⟩ := hI.2.2.2.2.2
  obtain ⟨hv, hm, hb, h3, h36⟩ := IC_now hC
  have b0 := hb.1
  have b2 := hb.2.2.1
  have hp : 2 ^ (rp F q N).1 0 ≤ 64 := Nat.pow_le_pow_right (n := 2) (by decide) b0
  have no : ¬ ok y ((rp F q N).1 2) → p_X6_high 0 y M (fun u' M' => Z X M' (-1) u') := fun hy => by
    unfold p_X6_high
    exact m_isYear hm b2 (fun z => absurd z hy) (fun _ => br_t rfl ⟨rfl, hI⟩)
  unfold p_X5_high p_X0_everyone
  refine x_isPast hv b2 (fun hy => br_f (by decide) ⟨25, rfl, rfl, ?_⟩) (fun hy => br_t rfl (no hy))
  have hy' := hy
  obtain ⟨t, ht, rfl⟩ := hy
  have b6 := hb.2.2.2.2.2.1 t ht
  rw [hv.1 0 (by decide), ev_eq b0]
  refine ⟨25, rfl, rfl, ?_⟩
  have hl := knN_lt (rp F q N).1 (rp F q N).2 (2 ^ (rp F q N).1 0 - 1) t
  have htr := knN_true hb (2 ^ (rp F q N).1 0 - 1) ht
  refine e_knownBy isD25 hv hb (by omega) ht (e_bitCount hl ?_)
  generalize hS : knN (rp F q N).1 (rp F q N).2 (2 ^ (rp F q N).1 0 - 1) t = S at hl htr ⊢
  have hc := ct_le S.testBit 21
  -- the first height that fits
  obtain ⟨f0, hf0, hfl⟩ := pk_least (fun k => S.testBit k = true) ⟨_, htr⟩
  have hf1 : f0 ≤ (rp F q N).2 5 t := Nat.le_of_not_lt fun z => hfl _ z htr
  have loop : ∀ {R : Int32 → Sg → Prop}, (ct S.testBit 21 = 1 → R (nI f0) M) → (ct S.testBit 21 ≠ 1 → R (-9) M) → ∀ r f, f + r = f0 → p_X6_high_L22 R (r + 1) (nI S) (nI f) M := by
    intro R g1 g2 r
    induction r with
    | zero =>
      intro f hf
      have : f = f0 := by omega
      subst this
      unfold p_X6_high_L22
      rw [bit_of (by omega) (show f < 31 by omega), if_pos hf0]
      exact br_f (by decide) (m_manyOf (by omega) (br_eq (b := 1) rfl rfl (by omega) (by decide) g1 g2))
    | succ r ih =>
      intro f hf
      unfold p_X6_high_L22
      have nb : S.testBit f = false := by
        have := hfl f (by omega)
        simpa using this
      rw [bit_of (by omega) (show f < 31 by omega), nb, nI_1]
      exact br_t (by decide) (ih (f + 1) (by omega))
  have mm : ∀ {R : Int32 → Sg → Prop}, (ct S.testBit 21 = 1 → R (nI f0) M) → (ct S.testBit 21 ≠ 1 → R (-9) M) → p_X6_high 0 (nI t) M R := fun {R} g1 g2 => by
    unfold p_X6_high p_X6_all
    refine m_isYear hm b2 (fun _ => br_f (by decide) ?_) (fun z => absurd hy' z)
    rw [hm.1, ev_eq b0]
    refine m_known hm hb (by omega) ht ?_
    rw [hS]
    exact ⟨f0 + 1, loop g1 g2 f0 0 (by omega)⟩
  refine br_eq (b := 1) rfl rfl (by omega) (by decide) (fun c => ⟨25, rfl, rfl, d_item isD25 5 (by decide) rfl (show t < 8 by omega) ?_⟩) (fun c => mm (fun z => absurd z c) (fun _ => ⟨rfl, hI⟩))
  rw [hv.2 5 (by decide) t ht]
  have e : f0 = (rp F q N).2 5 t := by
    apply Classical.byContradiction
    intro z
    have := ct_two (show f0 < (rp F q N).2 5 t by omega) hf0 htr (n := 21) (by omega)
    omega
  exact mm (fun _ => ⟨by rw [e], hI⟩) (fun z => absurd c z)
/-- one look: the next who hasn't shown -/
def lkS (set : Nat) (part : Nat → Nat) (i : Nat) (b : Int32 × Int32) : Int32 × Int32 := if set.testBit i then b else if b.1 = -9 then (nI i, nI (part i)) else if b.2 ≤ nI (part i) then b else (nI i, nI (part i))
theorem st_look (hI : Inv X M) (set y : Int32) : p_X5_look 0 set y X (fun u X' => p_X6_look 0 set y M (fun u' M' => Z X' M' u u')) := by
  obtain ⟨F, q, N, hC⟩ := hI.2.2.2.2.2
  obtain ⟨hv, hm, hb, h3, h36⟩ := IC_now hC
  have b0 := hb.1
  have b2 := hb.2.2.1
  have hp : 2 ^ (rp F q N).1 0 ≤ 64 := Nat.pow_le_pow_right (n := 2) (by decide) b0
  have no1 : ¬ ok set (2 ^ (rp F q N).1 0) → p_X6_look 0 set y M (fun u' M' => Z X M' (-1) u') := fun hs => by
    unfold p_X6_look p_X6_all
    rw [hm.1, sh_1 _ (show (rp F q N).1 0 < 31 by omega)]
    exact m_in_t (w := 2 ^ (rp F q N).1 0) (by omega) rfl (fun z => absurd z hs) (fun _ => br_t rfl ⟨rfl, hI⟩)
  have no2 : ok set (2 ^ (rp F q N).1 0) → ¬ ok y ((rp F q N).1 2) → p_X6_look 0 set y M (fun u' M' => Z X M' (-1) u') := fun hs hy => by
    unfold p_X6_look p_X6_all
    rw [hm.1, sh_1 _ (show (rp F q N).1 0 < 31 by omega)]
    exact m_in_t (w := 2 ^ (rp F q N).1 0) (by omega) rfl (fun _ => br_f (by decide) (m_isYear hm b2 (fun z => absurd z hy) (fun _ => br_t rfl ⟨rfl, hI⟩))) (fun z => absurd hs z)
  unfold p_X5_look
  refine x_isSet hv b0 (fun hs => br_f (by decide) (x_isPast hv b2 (fun hy => br_f (by decide) ⟨25, rfl, rfl, ?_⟩) (fun hy => br_t rfl (no2 hs hy)))) (fun hs => br_t rfl (no1 hs))
  · have hs' := hs
    have hy' := hy
    obtain ⟨k, hk, rfl⟩ := hs
    obtain ⟨t, ht, rfl⟩ := hy
    have hl := knN_lt (rp F q N).1 (rp F q N).2 k t
    refine e_knownBy isD25 hv hb (by omega) ht ⟨(rp F q N).1 0 + 1, ?_⟩
    generalize hR : itr (lkS k (fun i => prtN (rp F q N).2 i t (knN (rp F q N).1 (rp F q N).2 k t))) 0 ((rp F q N).1 0) (-9, 0) = R
    have key := lp_upb (β := Nat → Int32) (fun f i b g => p_X5_look_L38 (fun u X' => p_X6_look 0 (nI k) (nI t) M (fun u' M' => Z X' M' u u')) f 0 (nI k) (nI t) (nI (knN (rp F q N).1 (rp F q N).2 k t)) b.1 b.2 (nI i) (setR X 23 g)) (fun _ _ => True) ((rp F q N).1 0) (lkS k (fun i => prtN (rp F q N).2 i t (knN (rp F q N).1 (rp F q N).2 k t))) (fun b => b = R) (fun f b g _ hb2 => ?_) (fun f i b g hi _ hx => ?_) (fun _ _ _ _ => trivial) ((rp F q N).1 0) 0 (-9, 0) (gR X 23) (by omega) trivial hR
    · rw [setR_self] at key
      exact key
    · subst hb2
      have hv' := VD_23 hv (k := 23) g (by decide)
      have hI' := Inv_think hI (k := 23) g (by decide)
      have mm : ∀ {S : Int32 → Sg → Prop}, ((b.1 = -9 → S b.1 M) ∧ (¬ b.1 = -9 → S b.1 (setI M 0 0 b.2))) → p_X6_look 0 (nI k) (nI t) M S := by
        intro S hS
        unfold p_X6_look p_X6_all
        rw [hm.1, sh_1 _ (show (rp F q N).1 0 < 31 by omega)]
        refine m_in_t (w := 2 ^ (rp F q N).1 0) (by omega) rfl (fun _ => br_f (by decide) (m_isYear hm b2 (fun _ => br_f (by decide) (m_known hm hb (by omega) ht ⟨(rp F q N).1 0 + 1, ?_⟩)) (fun z => absurd hy' z))) (fun z => absurd hs' z)
        refine lp_up (fun f i c => p_X6_look_L39 S f 0 (nI k) (nI t) (nI (knN (rp F q N).1 (rp F q N).2 k t)) c.1 c.2 (nI i) M) (fun _ _ => True) ((rp F q N).1 0) (lkS k (fun i => prtN (rp F q N).2 i t (knN (rp F q N).1 (rp F q N).2 k t))) (fun c => c = b) (fun f c _ hc => ?_) (fun f i c hi _ hz => ?_) (fun _ _ _ _ => trivial) ((rp F q N).1 0) 0 (-9, 0) (by omega) trivial hR
        · subst hc
          unfold p_X6_look_L39
          rw [hm.1]
          exact br_t (nI_le (Nat.le_refl _) (by omega)) hS
        · unfold p_X6_look_L39 p_X6_look_b70 p_X6_look_b95 p_X6_look_b103
          rw [hm.1, bit_of (by omega) (show i < 31 by omega), nI_1]
          unfold lkS at hz
          refine br_f (lt_w b0 hi) ?_
          by_cases cb : k.testBit i = true
          · rw [if_pos cb]
            rw [if_pos cb] at hz
            exact br_t rfl (br_f (by decide) hz)
          · rw [if_neg cb]
            rw [if_neg cb] at hz
            refine br_f (by decide) (m_part hm hb hi ht (by omega) (br_t (by decide) ?_))
            by_cases c9 : c.1 = -9
            · rw [if_pos c9] at hz
              exact br_t c9 hz
            · rw [if_neg c9] at hz
              refine br_f c9 ?_
              by_cases cl : c.2 ≤ nI (prtN (rp F q N).2 i t (knN (rp F q N).1 (rp F q N).2 k t))
              · rw [if_pos cl] at hz
                exact br_t cl hz
              · rw [if_neg cl] at hz
                exact br_f cl hz
      unfold p_X5_look_L38
      refine ⟨25, rfl, rfl, br_t (by rw [hv'.1 0 (by decide)]; exact nI_le (Nat.le_refl _) (by omega)) ?_⟩
      by_cases c9 : b.1 = -9
      · exact br_t c9 (mm (br_t c9 ⟨rfl, hI'⟩))
      · exact br_f c9 (mm (br_f c9 ⟨rfl, Inv_told hI' rfl⟩))
    · have hv' := VD_23 hv (k := 23) g (by decide)
      unfold p_X5_look_L38 p_X5_look_b83 p_X5_look_b91 p_X5_hasBit
      rw [bit_of (by omega) (show i < 31 by omega), nI_1]
      unfold lkS at hx
      refine ⟨25, rfl, rfl, br_f (by rw [hv'.1 0 (by decide)]; exact lt_w b0 hi) ?_⟩
      by_cases cb : k.testBit i = true
      · rw [if_pos cb]
        rw [if_pos cb] at hx
        exact br_f (by decide) (br_f (by decide) (hx g))
      · rw [if_neg cb]
        rw [if_neg cb] at hx
        refine br_t (by decide) (br_t rfl (x_part hv' hb hi ht (by omega) (fun g' => ?_)))
        rw [setR_2]
        by_cases c9 : b.1 = -9
        · rw [if_pos c9] at hx
          exact br_t c9 (hx g')
        · rw [if_neg c9] at hx
          refine br_f c9 ?_
          by_cases cl : b.2 ≤ nI (prtN (rp F q N).2 i t (knN (rp F q N).1 (rp F q N).2 k t))
          · rw [if_pos cl] at hx
            exact br_t cl (hx g')
          · rw [if_neg cl] at hx
            exact br_f cl (hx g')
end KNO
