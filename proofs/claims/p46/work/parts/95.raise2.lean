/-! raise: the model's side -/
theorem suN_le {m : Nat → Nat} (h : ∀ j, m j ≤ 6) : ∀ r, suN r m ≤ 6 * r := by
  intro r
  induction r with
  | zero => exact Nat.le_refl _
  | succ r ih => have := h r; show suN r m + m r ≤ _; omega
theorem dgN_le (v j : Nat) : dgN v j ≤ 6 := by
  have := Nat.mod_lt (v / 7 ^ j) (show 0 < 7 by decide)
  unfold dgN
  omega
theorem n9_ne {b : Nat} (h : b < 2 ^ 31) : ¬ nI b = -9 := fun q => nI_pos h (by rw [q]; decide)
theorem m_takeR {s : Sg} {n : Nat → Nat} {a : Nat → Nat → Nat} (hv : VM s n a) (hb : BV n a) {v w : Nat} (hv2 : v < 117649) (hw : w ≤ 6) {Q : Int32 → Sg → Prop} (h1 : ∀ h : Nat → Int32, (∀ p, p < 6 → h p = nI (dgN v (5 - p))) → okR (a 0) w v → Q 1 (setR s 27 h)) (h0 : ∀ h : Nat → Int32, (∀ p, p < 6 → h p = nI (dgN v (5 - p))) → ¬ okR (a 0) w v → Q 0 (setR s 27 h)) : p_X6_take 0 (nI v) (nI w) s Q := by
  have key : ∀ k r (h : Nat → Int32) (may : Int32), r + k = 6 → (∀ j, j < r → h (5 - j) = nI (dgN v j)) → ((may = 1 ∧ feN (a 0) r (dgN v)) ∨ (may = 0 ∧ ¬ feN (a 0) r (dgN v))) → p_X6_take_L11 Q (k + 1) 0 (nI w) (nI (v / 7 ^ r)) (nI (suN r (dgN v))) may (nI k + (-1)) (setR s 27 h) := by
    intro k
    induction k with
    | zero =>
      intro r h may hr hh hm
      have e : r = 6 := by omega
      subst e
      have hh2 : ∀ p, p < 6 → h p = nI (dgN v (5 - p)) := fun p hp => by
        have := hh (5 - p) (by omega)
        rw [show 5 - (5 - p) = p by omega] at this
        exact this
      have hs := suN_le (dgN_le v) 6
      unfold p_X6_take_L11
      refine br_t (by decide) ?_
      rcases hm with ⟨rfl, hf⟩ | ⟨rfl, hf⟩
      · refine br_f (by decide) (br_eq rfl rfl (by omega) (by omega) (fun q => h1 h hh2 ⟨hf, q⟩) (fun q => h0 h hh2 (fun z => q z.2)))
      · exact br_t rfl (h0 h hh2 (fun z => hf z.1))
    | succ k ih =>
      intro r h may hr hh hm
      have hp : k < 6 := by omega
      have e5 : 5 - r = k := by omega
      have g9 := hb.2.2.2.1 k hp
      have d6 := dgN_le v r
      have e19 : gR s 19 k = nI (a 0 k) := hv.2.2.2.1 0 (by decide) k hp
      have hq := Nat.div_le_self v (7 ^ r)
      have er : nI (v / 7 ^ r) - nI (v / 7 ^ r) / 7 * 7 = nI (dgN v r) := pk_rem (d := 7) (by omega) (by decide) (by decide)
      have ed : nI (v / 7 ^ r) / 7 = nI (v / 7 ^ (r + 1)) := by
        rw [show nI (v / 7 ^ r) / 7 = nI (v / 7 ^ r / 7) from pk_div (d := 7) (by omega) (by decide) (by decide), Nat.div_div_eq_div_mul, Nat.pow_succ]
      have hn : ∀ j, j < r + 1 → upd h k (nI (dgN v r)) (5 - j) = nI (dgN v j) := fun j hj => by
        rw [upd_if]
        by_cases q : j = r
        · subst q
          rw [if_pos e5]
        · rw [if_neg (by omega)]
          exact hh j (by omega)
      have goNo : ¬ (a 0 (5 - r) + dgN v r ≤ 9 ∧ feN (a 0) r (dgN v)) → p_X6_take_L11 Q (k + 1) 0 (nI w) (nI (v / 7 ^ (r + 1))) (nI (suN (r + 1) (dgN v))) 0 (nI k + (-1)) (setR s 27 (upd h k (nI (dgN v r)))) := fun z => ih (r + 1) _ 0 (by omega) hn (Or.inr ⟨rfl, z⟩)
      have goYes : (a 0 (5 - r) + dgN v r ≤ 9 ∧ feN (a 0) r (dgN v)) → p_X6_take_L11 Q (k + 1) 0 (nI w) (nI (v / 7 ^ (r + 1))) (nI (suN (r + 1) (dgN v))) 1 (nI k + (-1)) (setR s 27 (upd h k (nI (dgN v r)))) := fun z => ih (r + 1) _ 1 (by omega) hn (Or.inl ⟨rfl, z⟩)
      have es : nI (suN r (dgN v)) + nI (dgN v r) = nI (suN (r + 1) (dgN v)) := nI_add _ _
      rw [pk_m1]
      unfold p_X6_take_L11
      rw [m_cl (show k < 100000 by omega)]
      simp only [er]
      simp only [ed]
      refine br_f (nI_pos (by omega)) ⟨27, rfl, rfl, m_in (N := 6) rfl rfl hp (by decide), 27, rfl, rfl, m_in (N := 6) rfl rfl hp (by decide), ?_⟩
      simp only [gR_same, upd_s, setR_setR, es]
      rcases hm with ⟨rfl, hf⟩ | ⟨rfl, hf⟩
      · refine br_f (by decide) ⟨19, rfl, rfl, m_in (N := 6) rfl rfl hp (by decide), 27, rfl, rfl, m_in (N := 6) rfl rfl hp (by decide), ?_⟩
        simp only [gR_same, upd_s, gR_ne _ _ (show (19 : Nat) ≠ 27 by decide), e19, nI_add]
        refine br_lt (a := 9) rfl rfl (by decide) (by omega) (fun q => ?_) (fun q => ?_)
        · exact goNo (fun z => by rw [e5] at z; omega)
        · exact goYes ⟨by rw [e5]; exact q, hf⟩
      · exact br_t rfl (goNo (fun z => hf z.2))
  unfold p_X6_take
  refine ⟨6 + 1, ?_⟩
  have := key 6 0 (gR s 27) 1 (by omega) (fun j hj => absurd hj (Nat.not_lt_zero j)) (Or.inl ⟨rfl, trivial⟩)
  rw [setR_self] at this
  rw [show v / 7 ^ 0 = v from Nat.div_one v] at this
  exact this
def bestR (g c : Nat → Nat) (f w v : Nat) (x5 x6 : Int32) : Prop := (x5 = -9 ∧ ∀ u, u < v → ¬ okR g w u) ∨ ∃ b, b < v ∧ x5 = nI b ∧ x6 = nI (ttN g c f 6 (dgN b)) ∧ okR g w b ∧ ∀ u, u < v → okR g w u → ttN g c f 6 (dgN b) ≤ ttN g c f 6 (dgN u) ∧ (u < b → ttN g c f 6 (dgN b) < ttN g c f 6 (dgN u))
/-- what the model's raise leaves -/
def rsM (M s : Sg) (k : Nat) (gd : Nat → Nat) : Prop := ∃ h h2 : Nat → Int32, s = setR (setR (setR M 27 h) 3 (upd (gR M 3) k (nI 6))) 2 h2 ∧ ∀ j, h2 j = if 40 * k ≤ j ∧ j < 40 * k + 40 then (if j - 40 * k < 6 then nI (gd (5 - (j - 40 * k))) else 0) else gR M 2 j
theorem m_raise {M : Sg} {n : Nat → Nat} {a : Nat → Nat → Nat} (hv : VM M n a) (hb : BV n a) {m f k : Nat} (hm : m ≤ 6) (hf : f ≤ 20) (hk : k < 6) (hr : m + (a 0 0 + a 0 1 + a 0 2 + a 0 3 + a 0 4 + a 0 5) ≤ 54) {Q : Int32 → Sg → Prop} (hQ : ∀ s, rsM M s k (gdN (a 0) (fkN a (n 0)) f 6 m) → Q (nI (LsN (a 0) (fkN a (n 0)) f 6 m)) s) : ∃ n4, p_X6_raise_L86 Q n4 0 (nI m) (nI f) (nI k) (-9) 0 0 M := by
  have b0 := hb.1
  have hg := hb.2.2.2.1
  have hT : ∀ u, ttN (a 0) (fkN a (n 0)) f 6 (dgN u) ≤ 120 := fun u => by
    have h1 := wetP_le (mo := fun p => dgN u (5 - p)) hb hf 63
    rw [wetP_tt hb] at h1
    rw [ttN_c (m := dgN u) (m' := fun j => dgN u (5 - (5 - j))) (fun j hj => by show dgN u j = dgN u (5 - (5 - j)); rw [show 5 - (5 - j) = j by omega])]
    exact h1
  have key : ∀ r v (h : Nat → Int32) (x5 x6 : Int32), v + r = 117649 → bestR (a 0) (fkN a (n 0)) f m v x5 x6 → p_X6_raise_L86 Q (r + 1) 0 (nI m) (nI f) (nI k) x5 x6 (nI v) (setR M 27 h) := by
    intro r
    induction r with
    | zero =>
      intro v h x5 x6 hv2 hB
      have e : v = 117649 := by omega
      subst e
      unfold p_X6_raise_L86
      refine br_t (nI_le (a := 117649) (Nat.le_refl _) (by decide)) ?_
      rcases hB with ⟨_, hB⟩ | ⟨b, hb1, rfl, rfl, hok, hmin⟩
      · obtain ⟨u, hu, ho⟩ := okR_ex hm hg hr
        exact absurd ho (hB u hu)
      obtain ⟨eL, eg⟩ := raise_ok (c := fkN a (n 0)) (f := f) hm hb1 hok (by have := hT b; omega) hmin
      have fin : ∀ h2 : Nat → Int32, (∀ p, p < 6 → h2 p = nI (dgN b (5 - p))) → p_X6_clearRow 0 (nI k) 6 (setR (setR M 27 h) 27 h2) (fun s4 => (∃ n5, p_X6_raise_L158 Q n5 0 (nI k) (nI (ttN (a 0) (fkN a (n 0)) f 6 (dgN b))) 0 s4)) := fun h2 hh => by
        rw [setR_setR]
        refine m_clearRow (n := 6) rfl hk rfl ?_
        refine lp_wr (fun fu i s => p_X6_raise_L158 Q fu 0 (nI k) (nI (ttN (a 0) (fkN a (n 0)) f 6 (dgN b))) (nI i) s) _ 2 (40 * k) 6 h2 (fun fu => ?_) (fun fu i hi hh2 => ?_)
        · unfold p_X6_raise_L158
          refine br_t (by decide) ?_
          rw [← eL]
          refine hQ _ ⟨h2, fun j => if 40 * k ≤ j ∧ j < 40 * k + 40 then (if j - 40 * k < 6 then nI (gdN (a 0) (fkN a (n 0)) f 6 m (5 - (j - 40 * k))) else 0) else gR M 2 j, ?_, fun j => rfl⟩
          unfold wr
          rw [setR_setR]
          refine congrArg (setR (setR (setR M 27 h2) 3 (upd (gR M 3) k (nI 6))) 2) (funext fun j => ?_)
          rw [gR_same, gR_ne _ _ (by decide), gR_ne _ _ (by decide)]
          by_cases q1 : 40 * k ≤ j ∧ j < 40 * k + 40
          · rw [if_pos q1]
            by_cases q2 : j - 40 * k < 6
            · rw [if_pos (by omega), if_pos q2, hh _ q2, eg _ (by omega), if_pos q1]
            · rw [if_neg (by omega), if_neg q2, if_pos q1]
          · rw [if_neg q1, if_neg (by omega), if_neg q1]
        · unfold p_X6_raise_L158
          rw [ixm (y := 40) 40 k i rfl, m_cl (show 40 * k + i < 100000 by omega), m_cl (show i < 100000 by omega), nI_1]
          refine br_f (nI_ge (b := 6) hi (by decide)) ⟨27, rfl, rfl, m_in (N := 6) rfl rfl hi (by decide), 2, rfl, rfl, m_in (N := 240) rfl rfl (by omega) (by decide), ?_⟩
          rw [gR_wr _ _ _ _ _ 27 (by decide), gR_wr _ _ _ _ _ 27 (by decide), gR_ne (a := 27) _ _ (by decide), gR_same, wr_step]
          exact hh2
      exact m_takeR (VM_more hv h (by decide)) hb hb1 hm (fun h2 hh _ => fin h2 hh) (fun h2 hh _ => fin h2 hh)
    | succ r ih =>
      intro v h x5 x6 hv2 hB
      unfold p_X6_raise_L86
      refine br_f (nI_ge (b := 117649) (by omega) (by decide)) ?_
      refine m_takeR (VM_more hv h (by decide)) hb (show v < 117649 by omega) hm (fun h2 hh hok => ?_) (fun h2 hh hok => ?_)
      · rw [setR_setR]
        refine br_f (by decide) ?_
        refine m_wetAll (mo := fun p => dgN v (5 - p)) (pl := 63) (VM_more hv h2 (by decide)) hb (fun p hp => ⟨by rw [gR_same]; exact hh p hp, by have := dgN_le v (5 - p); show dgN v (5 - p) ≤ 100; omega⟩) rfl rfl (by omega) (by decide) ?_
        have eT : wetP n a (fun p => dgN v (5 - p)) f 63 = ttN (a 0) (fkN a (n 0)) f 6 (dgN v) := by
          rw [wetP_tt hb]
          exact ttN_c (fun j hj => by show dgN v (5 - (5 - j)) = dgN v j; rw [show 5 - (5 - j) = j by omega])
        rw [eT]
        have tv := hT v
        have new : (∀ u, u < v → okR (a 0) m u → ttN (a 0) (fkN a (n 0)) f 6 (dgN v) < ttN (a 0) (fkN a (n 0)) f 6 (dgN u)) → p_X6_raise_b126 Q (fun y0 y1 y2 y3 y5 y6 y7 u => p_X6_raise_L86 Q (r + 1) y0 y1 y2 y3 y5 y6 y7 u) 0 (nI m) (nI f) (nI k) (nI v) (nI (ttN (a 0) (fkN a (n 0)) f 6 (dgN v))) (setR M 27 h2) := fun hl => by
          unfold p_X6_raise_b126 p_X6_raise_b134
          rw [nI_1]
          refine ih (v + 1) h2 _ _ (by omega) (Or.inr ⟨v, by omega, rfl, rfl, hok, fun u hu ho => ?_⟩)
          by_cases q : u = v
          · subst q
            exact ⟨Nat.le_refl _, fun z => absurd z (Nat.lt_irrefl _)⟩
          · have := hl u (by omega) ho
            exact ⟨by omega, fun _ => this⟩
        rcases hB with ⟨rfl, hB⟩ | ⟨b, hb1, rfl, rfl, hok2, hmin⟩
        · exact br_t rfl (new (fun u hu ho => absurd ho (hB u hu)))
        · have tb := hT b
          refine br_f (n9_ne (by omega)) (br_le rfl rfl (by omega) (by omega) (fun q => ?_) (fun q => ?_))
          · unfold p_X6_raise_b134
            rw [nI_1]
            refine ih (v + 1) h2 _ _ (by omega) (Or.inr ⟨b, by omega, rfl, rfl, hok2, fun u hu ho => ?_⟩)
            by_cases z : u = v
            · subst z
              exact ⟨q, fun z => by omega⟩
            · exact hmin u (by omega) ho
          · exact new (fun u hu ho => by have := (hmin u hu ho).1; omega)
      · rw [setR_setR]
        refine br_t rfl ?_
        unfold p_X6_raise_b134
        rw [nI_1]
        refine ih (v + 1) h2 _ _ (by omega) ?_
        rcases hB with ⟨rfl, hB⟩ | ⟨b, hb1, rfl, rfl, hok2, hmin⟩
        · refine Or.inl ⟨rfl, fun u hu => ?_⟩
          by_cases z : u = v
          · subst z; exact hok
          · exact hB u (by omega)
        · refine Or.inr ⟨b, by omega, rfl, rfl, hok2, fun u hu ho => ?_⟩
          by_cases z : u = v
          · subst z; exact absurd ho hok
          · exact hmin u (by omega) ho
  have := key 117649 0 (gR M 27) (-9) 0 (by omega) (Or.inl ⟨rfl, fun u hu => absurd hu (Nat.not_lt_zero u)⟩)
  rw [setR_self] at this
  exact ⟨117649 + 1, this⟩
theorem m_room {M : Sg} {n : Nat → Nat} {a : Nat → Nat → Nat} (hv : VM M n a) (hb : BV n a) {x1 x2 x3 : Int32} {Q : Int32 → Sg → Prop} (h : ((gI M 0 20) = 0 → Q ((-4)) M) ∧ (¬ (gI M 0 20) = 0 → ((x1 ≤ nI (54 - (a 0 0 + a 0 1 + a 0 2 + a 0 3 + a 0 4 + a 0 5)) → (∃ n4, p_X6_raise_L86 Q n4 0 x1 x2 x3 ((-9)) 0 0 M)) ∧ (¬ x1 ≤ nI (54 - (a 0 0 + a 0 1 + a 0 2 + a 0 3 + a 0 4 + a 0 5)) → Q ((-4)) M)))) : ∃ n10, p_X6_raise_L32 Q n10 0 x1 x2 x3 0 0 M := by
  have hg := hb.2.2.2.1
  have e : itr (fun p x => x + (9 - a 0 p)) 0 6 0 = 54 - (a 0 0 + a 0 1 + a 0 2 + a 0 3 + a 0 4 + a 0 5) := by
    show 0 + (9 - a 0 0) + (9 - a 0 1) + (9 - a 0 2) + (9 - a 0 3) + (9 - a 0 4) + (9 - a 0 5) = _
    have h0 := hg 0 (by decide)
    have h1 := hg 1 (by decide)
    have h2 := hg 2 (by decide)
    have h3 := hg 3 (by decide)
    have h4 := hg 4 (by decide)
    have h5 := hg 5 (by decide)
    omega
  refine ⟨6 + 1, ?_⟩
  refine lp_up (fun fu i x => p_X6_raise_L32 Q fu 0 x1 x2 x3 (nI x) (nI i) M) (fun _ _ => True) 6 (fun p x => x + (9 - a 0 p)) (fun x => x = itr (fun p x => x + (9 - a 0 p)) 0 6 0) (fun fu x _ hx => ?_) (fun fu i x hi _ hx => ?_) (fun _ _ _ _ => trivial) 6 0 0 (by omega) trivial rfl
  · unfold p_X6_raise_L32
    rw [hx, e]
    exact br_t (by decide) h
  · have g9 := hg i hi
    have e19 : gR M 19 i = nI (a 0 i) := hv.2.2.2.1 0 (by decide) i hi
    unfold p_X6_raise_L32
    rw [m_cl (show i < 100000 by omega), nI_1]
    refine br_f (nI_ge (b := 6) hi (by decide)) ⟨19, rfl, rfl, m_in (N := 6) rfl rfl hi (by decide), ?_⟩
    rw [e19, show (9 : Int32) - nI (a 0 i) = nI (9 - a 0 i) from pk_sub g9, nI_add]
    exact hx
section RAI
variable {X M : Sg}
theorem Inv_raise {X' M' : Sg} (hI : Inv X M) {k : Nat} {gd : Nat → Nat} (hk : k < 6) (hX : rsX X X' k gd) (hM : rsM M M' k gd) : Inv X' M' := by
  obtain ⟨a1, a2, a3, a4, a5, a6⟩ := hX
  obtain ⟨h, h2, rfl, hh⟩ := hM
  have ne : ∀ c, c ≠ 2 → c ≠ 3 → c ≠ 27 → gR (setR (setR (setR M 27 h) 3 (upd (gR M 3) k (nI 6))) 2 h2) c = gR M c := fun c q1 q2 q3 => by rw [gR_ne _ _ q1, gR_ne _ _ q2, gR_ne _ _ q3]
  refine Inv_rows hI ⟨by rw [a1], a6 24 (by decide) (by omega) (by omega)⟩ ⟨by rw [a1], by rw [a2], by rw [a2]⟩ (fun c q1 q2 => a6 c (by omega) (by omega) (by omega)) ⟨fun c hc => a6 c (by omega) (by omega) (by omega), fun c j _ => by rw [a1]⟩ ⟨rfl, ne 1 (by decide) (by decide) (by decide)⟩ ⟨rfl, rfl, rfl⟩ (ne 4 (by decide) (by decide) (by decide)) (ne 5 (by decide) (by decide) (by decide)) ⟨fun c q1 q2 => ne c (by omega) (by omega) (by omega), rfl, rfl, rfl, rfl, rfl⟩ (fun c hc => ?_)
  obtain ⟨s1, s2, s3⟩ := hI.2.2.1 c hc
  have s1 : szOk 40 (gR X 2 c) := s1
  have s2 : gR M 3 c = gR X 2 c := s2
  have s3 : ∀ i, i < 40 → gR M 2 (40 * c + i) = gR X (1 + 3 + c) i := s3
  show szOk 40 (gR X' 2 c) ∧ gR _ 3 c = gR X' 2 c ∧ ∀ i, i < 40 → gR _ 2 (40 * c + i) = gR X' (1 + 3 + c) i
  rw [gR_ne _ _ (show (3 : Nat) ≠ 2 by decide), gR_same, gR_same, a4, upd_if, upd_if]
  by_cases q : c = k
  · subst q
    rw [if_pos rfl, if_pos rfl]
    refine ⟨Or.inr ⟨6, by decide, rfl⟩, rfl, fun i hi => ?_⟩
    rw [show 1 + 3 + c = 4 + c by omega, a5 i hi, hh, if_pos (by omega), Nat.add_sub_cancel_left]
  · rw [if_neg q, if_neg q]
    refine ⟨s1, s2, fun i hi => ?_⟩
    rw [hh, if_neg (by omega), a6 (1 + 3 + c) (by omega) (by omega) (by omega)]
    exact s3 i hi
theorem st_raise (hI : Inv X M) (w f r : Int32) : p_X5_raise 0 w f r X (fun u X' => p_X6_raise 0 w f r M (fun u' M' => Z X' M' u u')) := by
  obtain ⟨F, q, N, hC⟩ := hI.2.2.2.2.2
  obtain ⟨hv, hm, hb, h3, h36⟩ := IC_now hC
  have b0 := hb.1
  have hg := hb.2.2.2.1
  have x0 := hv.1 0 (by decide)
  have m0 := hm.1
  have bad : ¬ ok w 7 → p_X6_raise 0 w f r M (fun u' M' => Z X M' (-1) u') := fun c => by
    unfold p_X6_raise
    exact m_in_t (w := 7) (by decide) rfl (fun z => absurd z c) (fun _ => br_t rfl ⟨rfl, hI⟩)
  unfold p_X5_raise
  by_cases c1 : w < 0
  · exact br_t c1 (bad (fun z => ok_lt0 (by decide) z c1))
  refine br_f c1 ?_
  by_cases c2 : ok w 7
  rotate_left
  · exact br_t ((nok_hi (h := 6) (by decide) rfl c1).mpr c2) (bad c2)
  refine br_f (fun z => (nok_hi (h := 6) (by decide) rfl c1).mp z c2) ?_
  have mm : ∀ {R : Int32 → Sg → Prop}, p_X6_isHeight f M (fun r5 s4 => ((r5 = 0 → R ((-1)) s4) ∧ (¬ r5 = 0 → p_X6_isRow r s4 (fun r8 s7 => ((r8 = 0 → R ((-1)) s7) ∧ (¬ r8 = 0 → (∃ n10, p_X6_raise_L32 R n10 0 w f r 0 0 s7))))))) → p_X6_raise 0 w f r M R := fun h => by
    unfold p_X6_raise
    exact m_in_t (w := 7) (by decide) rfl (fun _ => br_f (by decide) h) (fun z => absurd c2 z)
  refine x_isHeight (fun cf => br_f (by decide) ⟨1, rfl, rfl, ?_⟩) (fun cf => br_t rfl (mm (m_isHeight (fun z => absurd z cf) (fun _ => br_t rfl ⟨rfl, hI⟩))))
  refine s_isNumber R1 (fun cr => br_f (by decide) ⟨25, rfl, rfl, ?_⟩) (fun cr => br_t rfl (mm (m_isHeight (fun _ => br_f (by decide) (m_isRow (fun z => absurd z cr) (fun _ => br_t rfl ⟨rfl, hI⟩))) (fun z => absurd cf z))))
  have mm2 : ∀ {R : Int32 → Sg → Prop}, ((gI M 0 20) = 0 → R ((-4)) M) ∧ (¬ (gI M 0 20) = 0 → ((w ≤ nI (54 - ((rp F q N).2 0 0 + (rp F q N).2 0 1 + (rp F q N).2 0 2 + (rp F q N).2 0 3 + (rp F q N).2 0 4 + (rp F q N).2 0 5)) → (∃ n4, p_X6_raise_L86 R n4 0 w f r ((-9)) 0 0 M)) ∧ (¬ w ≤ nI (54 - ((rp F q N).2 0 0 + (rp F q N).2 0 1 + (rp F q N).2 0 2 + (rp F q N).2 0 3 + (rp F q N).2 0 4 + (rp F q N).2 0 5)) → R ((-4)) M))) → p_X6_raise 0 w f r M R := fun h =>
    mm (m_isHeight (fun _ => br_f (by decide) (m_isRow (fun _ => br_f (by decide) (m_room hm hb h)) (fun z => absurd cr z))) (fun z => absurd cf z))
  obtain ⟨m, hm7, rfl⟩ := c2
  obtain ⟨fh, hf21, rfl⟩ := cf
  obtain ⟨k, hk, rfl⟩ := cr
  refine br_eq (b := 0) x0 rfl (by omega) (by decide) (fun z => mm2 (br_t (by rw [m0, z]; rfl) ⟨rfl, hI⟩)) (fun z => ⟨25, rfl, rfl, ?_⟩)
  have n0 : ¬ gI M 0 20 = 0 := by rw [m0]; intro y; exact z (nI_inj (b := 0) (by omega) (by decide) y)
  have h0 := hg 0 (by decide)
  have h1 := hg 1 (by decide)
  have h2 := hg 2 (by decide)
  have hg3 := hg 3 (by decide)
  have h4 := hg 4 (by decide)
  have h5 := hg 5 (by decide)
  unfold p_X0_room
  refine x_sumOf (c := 0) (w := 6) (b := (rp F q N).2 0) isD25 (by decide) rfl (by decide) (by decide) (fun i hi => hv.2 0 (by decide) i hi) ?_
  have e : smA ((rp F q N).2 0) 6 = (rp F q N).2 0 0 + (rp F q N).2 0 1 + (rp F q N).2 0 2 + (rp F q N).2 0 3 + (rp F q N).2 0 4 + (rp F q N).2 0 5 := by
    show 0 + (rp F q N).2 0 0 + (rp F q N).2 0 1 + (rp F q N).2 0 2 + (rp F q N).2 0 3 + (rp F q N).2 0 4 + (rp F q N).2 0 5 = _
    omega
  rw [e, show (54 : Int32) - nI ((rp F q N).2 0 0 + (rp F q N).2 0 1 + (rp F q N).2 0 2 + (rp F q N).2 0 3 + (rp F q N).2 0 4 + (rp F q N).2 0 5) = nI (54 - ((rp F q N).2 0 0 + (rp F q N).2 0 1 + (rp F q N).2 0 2 + (rp F q N).2 0 3 + (rp F q N).2 0 4 + (rp F q N).2 0 5)) from pk_sub (a := 54) (by omega)]
  refine br_le rfl rfl (by omega) (by omega) (fun y => ?_) (fun y => mm2 (br_f n0 (br_f (nI_ge y (by omega)) ⟨rfl, hI⟩)))
  exact x_raise hv hb (by omega) (by omega) hk (fun X' hX => mm2 (br_f n0 (br_t (nI_le y (by omega)) (m_raise hm hb (by omega) (by omega) hk (by omega) (fun M' hM => ⟨rfl, Inv_raise hI hk hX hM⟩)))))
end RAI
