/-! duel: the model's side -/
theorem wet_sum {a : Nat → Nat → Nat} (tm : Nat → Nat) : ∀ k, (∀ i, i < k → a 2 i ≤ 5) → itr (fun i x => x + tm (a 2 i)) 0 k 0 = fkN a k 0 * tm 0 + fkN a k 1 * tm 1 + fkN a k 2 * tm 2 + fkN a k 3 * tm 3 + fkN a k 4 * tm 4 + fkN a k 5 * tm 5 := by
  intro k
  induction k with
  | zero => intro _; show 0 = 0 * _ + 0 * _ + 0 * _ + 0 * _ + 0 * _ + 0 * _; omega
  | succ k ih =>
    intro hk
    have h5 := hk k (by omega)
    rw [itr_succ, ih (fun i hi => hk i (by omega)), Nat.zero_add]
    show _ + tm (a 2 k) = _
    simp only [fkN_s]
    rcases (show a 2 k = 0 ∨ a 2 k = 1 ∨ a 2 k = 2 ∨ a 2 k = 3 ∨ a 2 k = 4 ∨ a 2 k = 5 by omega) with e | e | e | e | e | e <;> rw [e] <;> simp only [Nat.reduceEqDiff, ↓reduceIte, Nat.add_zero, Nat.add_mul, Nat.one_mul] <;> omega
theorem lead_wet {n : Nat → Nat} {a : Nat → Nat → Nat} {mo : Nat → Nat} (hb : BV n a) (F : Nat) : ((wetP n a mo F 56 : Nat) : Int) - ((wetP n a mo F 7 : Nat) : Int) = ldI (fun p => a 0 p + mo p) (fkN a (n 0)) F := by
  have h5 : ∀ i, i < n 0 → a 2 i ≤ 5 := fun i hi => (hb.2.2.2.2.1 i hi).2.1
  have e1 : wetP n a mo F 56 = _ := wet_sum (a := a) (fun p => if (56 : Nat).testBit p then F - (a 0 p + mo p) else 0) (n 0) h5
  have e2 : wetP n a mo F 7 = _ := wet_sum (a := a) (fun p => if (7 : Nat).testBit p then F - (a 0 p + mo p) else 0) (n 0) h5
  have e3 : ldI (fun p => a 0 p + mo p) (fkN a (n 0)) F = 0 - ((fkN a (n 0) 0 * (F - (a 0 0 + mo 0)) : Nat) : Int) - ((fkN a (n 0) 1 * (F - (a 0 1 + mo 1)) : Nat) : Int) - ((fkN a (n 0) 2 * (F - (a 0 2 + mo 2)) : Nat) : Int) + ((fkN a (n 0) 3 * (F - (a 0 3 + mo 3)) : Nat) : Int) + ((fkN a (n 0) 4 * (F - (a 0 4 + mo 4)) : Nat) : Int) + ((fkN a (n 0) 5 * (F - (a 0 5 + mo 5)) : Nat) : Int) := rfl
  simp only [show (56 : Nat).testBit 0 = false by decide, show (56 : Nat).testBit 1 = false by decide, show (56 : Nat).testBit 2 = false by decide, show (56 : Nat).testBit 3 = true by decide, show (56 : Nat).testBit 4 = true by decide, show (56 : Nat).testBit 5 = true by decide, Bool.false_eq_true, ↓reduceIte, Nat.mul_zero] at e1
  simp only [show (7 : Nat).testBit 0 = true by decide, show (7 : Nat).testBit 1 = true by decide, show (7 : Nat).testBit 2 = true by decide, show (7 : Nat).testBit 3 = false by decide, show (7 : Nat).testBit 4 = false by decide, show (7 : Nat).testBit 5 = false by decide, Bool.false_eq_true, ↓reduceIte, Nat.mul_zero] at e2
  rw [e1, e2, e3]
  generalize fkN a (n 0) 0 * (F - (a 0 0 + mo 0)) = q0
  generalize fkN a (n 0) 1 * (F - (a 0 1 + mo 1)) = q1
  generalize fkN a (n 0) 2 * (F - (a 0 2 + mo 2)) = q2
  generalize fkN a (n 0) 3 * (F - (a 0 3 + mo 3)) = q3
  generalize fkN a (n 0) 4 * (F - (a 0 4 + mo 4)) = q4
  generalize fkN a (n 0) 5 * (F - (a 0 5 + mo 5)) = q5
  omega
/-- figures of a code, from the first: raised, more at a place, may -/
def psS (g : Nat → Nat) (i fig : Nat) (st : Nat × (Nat → Nat) × Bool) : Nat × (Nat → Nat) × Bool := if fig < 3 then (st.1 + 1, upN st.2.1 (plN i fig), st.2.2 && decide (g (plN i fig) + st.2.1 (plN i fig) ≤ 8)) else st
def psN (g : Nat → Nat) : Nat → Nat → Nat × (Nat → Nat) × Bool
  | 0, _ => (0, fun _ => 0, true)
  | l + 1, v => psS g l (v % 4) (psN g l (v / 4))
theorem psN_b (g : Nat → Nat) : ∀ l v, (psN g l v).1 ≤ l ∧ ∀ p, (psN g l v).2.1 p ≤ (psN g l v).1 := by
  intro l
  induction l with
  | zero => intro v; exact ⟨Nat.le_refl _, fun _ => Nat.le_refl _⟩
  | succ l ih =>
    intro v
    obtain ⟨h1, h2⟩ := ih (v / 4)
    show (psS g l (v % 4) (psN g l (v / 4))).1 ≤ l + 1 ∧ ∀ p, (psS g l (v % 4) (psN g l (v / 4))).2.1 p ≤ (psS g l (v % 4) (psN g l (v / 4))).1
    unfold psS
    split
    · refine ⟨by show _ + 1 ≤ _; omega, fun p => ?_⟩
      show upN _ _ p ≤ _ + 1
      unfold upN
      have := h2 p
      split <;> omega
    · exact ⟨by omega, h2⟩
def oV : Option Int → Int32
  | none => -1000000
  | some x => iV x
def mo2 (b : Bool) : Option Int → Option Int → Option Int
  | none, q => q
  | some x, none => some x
  | some x, some y => some (opI b x y)
def woN (g c : Nat → Nat) (f n l v : Nat) : Option Int := if (psN g l v).2.2 = true then some (vaN g c f (n - l) l (psN g l v).1 (psN g l v).2.1) else none
theorem woN_b {g c : Nat → Nat} {f : Nat} (hc : ∀ p, p < 6 → c p ≤ 6) (n l v : Nat) : ∀ y, woN g c f n l v = some y → -720 ≤ y ∧ y ≤ 720 := by
  intro y hy
  unfold woN at hy
  split at hy
  · cases hy; exact vaN_b hc _ _ _ _
  · cases hy
theorem opI_3 (b : Bool) (x y z w : Int) : opI b (opI b (opI b x y) z) w = opI b (opI b (opI b y z) w) x := by
  unfold opI
  cases b <;> simp only [Bool.false_eq_true, ↓reduceIte] <;> omega
theorem opI_2 (b : Bool) (x y z : Int) : opI b (opI b x y) z = opI b (opI b y z) x := by
  unfold opI
  cases b <;> simp only [Bool.false_eq_true, ↓reduceIte] <;> omega
theorem opI_1 (b : Bool) (x y : Int) : opI b x y = opI b y x := by
  unfold opI
  cases b <;> simp only [Bool.false_eq_true, ↓reduceIte] <;> omega
theorem fold_eq (b : Bool) (x : Int) (y0 y1 y2 : Option Int) : mo2 b (mo2 b (mo2 b (mo2 b none y0) y1) y2) (some x) = some (opO b (opO b (opO b x y0) y1) y2) := by
  cases y0 <;> cases y1 <;> cases y2 <;> simp only [mo2, opO] <;> first | rfl | exact congrArg some (opI_3 _ _ _ _ _).symm | exact congrArg some (opI_2 _ _ _ _).symm | exact congrArg some (opI_1 _ _ _)
theorem wo_step (g c : Nat → Nat) (f n t v : Nat) (ht : t < n) : mo2 (decide (t % 2 = 0)) (mo2 (decide (t % 2 = 0)) (mo2 (decide (t % 2 = 0)) (mo2 (decide (t % 2 = 0)) none (woN g c f n (t + 1) (4 * v + 0))) (woN g c f n (t + 1) (4 * v + 1))) (woN g c f n (t + 1) (4 * v + 2))) (woN g c f n (t + 1) (4 * v + 3)) = woN g c f n t v := by
  have eps : ∀ j, j < 4 → psN g (t + 1) (4 * v + j) = psS g t j (psN g t v) := fun j hj => by
    show psS g t ((4 * v + j) % 4) (psN g t ((4 * v + j) / 4)) = _
    rw [show (4 * v + j) % 4 = j by omega, show (4 * v + j) / 4 = v by omega]
  have e3 : woN g c f n (t + 1) (4 * v + 3) = if (psN g t v).2.2 = true then some (vaN g c f (n - (t + 1)) (t + 1) (psN g t v).1 (psN g t v).2.1) else none := by
    unfold woN
    rw [eps 3 (by decide)]
    rfl
  have ej : ∀ j, j < 3 → woN g c f n (t + 1) (4 * v + j) = if (psN g t v).2.2 = true then chN (vaN g c f (n - (t + 1)) (t + 1)) g t (psN g t v).1 (psN g t v).2.1 j else none := fun j hj => by
    unfold woN
    rw [eps j (by omega)]
    unfold psS chN
    rw [if_pos hj]
    show (if ((psN g t v).2.2 && decide (g (plN t j) + (psN g t v).2.1 (plN t j) ≤ 8)) = true then _ else none) = _
    cases hp : (psN g t v).2.2 with
    | false => rfl
    | true =>
      rw [if_pos rfl, Bool.true_and]
      by_cases q : g (plN t j) + (psN g t v).2.1 (plN t j) ≤ 8
      · rw [if_pos q, if_pos (by simp [q])]
      · rw [if_neg q, if_neg (by simp [q])]
  rw [e3, ej 0 (by decide), ej 1 (by decide), ej 2 (by decide)]
  unfold woN
  rw [show n - t = n - (t + 1) + 1 by omega]
  cases hp : (psN g t v).2.2 with
  | false => rfl
  | true =>
    rw [if_pos rfl, if_pos rfl, if_pos rfl, if_pos rfl, if_pos rfl]
    exact fold_eq _ _ _ _ _
def tn (M s : Sg) : Prop := (∀ k, k < 27 → gR s k = gR M k) ∧ gI s = gI M ∧ gJ s = gJ M ∧ gT s = gT M
theorem tn_set {M s : Sg} (h : tn M s) {k : Nat} (f : Nat → Int32) (hk : 27 ≤ k) : tn M (setR s k f) := ⟨fun c hc => by rw [gR_ne _ _ (by omega)]; exact h.1 c hc, h.2⟩
theorem VM_tn {M s : Sg} {n : Nat → Nat} {a : Nat → Nat → Nat} (hv : VM M n a) (h : tn M s) : VM s n a := by
  obtain ⟨v0, v1, v2, v4, v5⟩ := hv
  obtain ⟨h1, h2, _, _⟩ := h
  refine ⟨by rw [h2]; exact v0, by rw [h2]; exact v1, by rw [h2]; exact v2, fun c hc i hi => ?_, fun i y hi hy => ?_⟩
  · rw [h1 _ (by have := mno_rg c hc; omega)]; exact v4 c hc i hi
  · rw [h1 _ (by omega)]; exact v5 i y hi hy
theorem Inv_tn {X M s : Sg} (hI : Inv X M) (h : tn M s) : Inv X s := by
  obtain ⟨a1, a2, a3, a4⟩ := h
  obtain ⟨h1, h2, h3, h4, h5, h6⟩ := hI
  exact ⟨IF_s h1 ⟨rfl, rfl⟩ ⟨by rw [a2], a1 _ (by omega)⟩, IT_s h2 ⟨rfl, rfl, rfl⟩ ⟨by rw [a2], by rw [a3], by rw [a3]⟩, IS1_s h3 (fun _ _ _ => rfl) (fun _ _ _ => a1 _ (by omega)), IS2_s h4 (fun _ _ _ => rfl) (fun _ _ _ => a1 _ (by omega)), IB_s h5 (fun _ _ _ => rfl), ID_s h6 ⟨fun _ _ => rfl, fun _ _ _ => rfl⟩ ⟨fun _ _ _ => a1 _ (by omega), by rw [a2], by rw [a2], by rw [a2], by rw [a2], by rw [a2]⟩⟩
theorem m_worthOf {M : Sg} {n : Nat → Nat} {a : Nat → Nat → Nat} (hv : VM M n a) (hb : BV n a) {m f v : Nat} (hm : m ≤ 6) (hf : f ≤ 20) (hv2 : v < 4096) {s : Sg} (hs : tn M s) {Q : Int32 → Sg → Prop} (hQ : ∀ s', tn M s' → gR s' 28 = gR s 28 → Q (oV (woN (a 0) (fkN a (n 0)) f m m v)) s') : p_X6_worthOf 0 (nI v) (nI m) (nI f) s Q := by
  have hg := hb.2.2.2.1
  have key : ∀ k i (hh : Nat → Int32) (h : Nat) (mo : Nat → Nat) (mb : Bool) (may : Int32), i + k = m → psN (a 0) i (v / 4 ^ k) = (h, mo, mb) → (∀ p, p < 6 → hh p = nI (mo p)) → ((may = 1 ∧ mb = true) ∨ (may = 0 ∧ mb = false)) → p_X6_worthOf_L13 Q (k + 1) 0 (nI v) (nI m) (nI f) (nI h) may (nI i) (setR s 27 hh) := by
    intro k
    induction k with
    | zero =>
      intro i hh h mo mb may hi hst hp hmay
      have e : i = m := by omega
      subst e
      have hB := psN_b (a 0) i (v / 4 ^ 0)
      rw [hst] at hB
      have hB1 : h ≤ i := hB.1
      have hB2 : ∀ p, mo p ≤ h := hB.2
      rw [show v / 4 ^ 0 = v from Nat.div_one v] at hst
      have hs2 : tn M (setR s 27 hh) := tn_set hs _ (by decide)
      have e28 : gR (setR s 27 hh) 28 = gR s 28 := gR_ne _ _ (by decide)
      have hfin := hQ _ hs2 e28
      unfold woN at hfin
      rw [hst, Nat.sub_self] at hfin
      unfold p_X6_worthOf_L13
      rw [nI_add]
      refine br_t (nI_le (Nat.le_refl _) (by omega)) (m_less (p := 20) (q := f + h) rfl rfl (by decide) (by omega) ?_)
      rcases hmay with ⟨rfl, rfl⟩ | ⟨rfl, rfl⟩
      · have hfin : Q (iV (ldI (fun p => a 0 p + mo p) (fkN a (n 0)) (min (f + h) 20))) (setR s 27 hh) := hfin
        refine br_f (by decide) ?_
        have hmo : ∀ p, p < 6 → gR (setR s 27 hh) 27 p = nI (mo p) ∧ mo p ≤ 100 := fun p hp2 => ⟨by rw [gR_same]; exact hp p hp2, by have := hB2 p; omega⟩
        refine m_wetAll (mo := mo) (pl := 56) (VM_tn hv hs2) hb hmo rfl rfl (by omega) (by decide) ?_
        refine m_wetAll (mo := mo) (pl := 7) (VM_tn hv hs2) hb hmo rfl rfl (by omega) (by decide) ?_
        rw [iV_n, iV_n, iV_sub, lead_wet hb, Nat.min_comm]
        exact hfin
      · exact br_t rfl hfin
    | succ k ih =>
      intro i hh h mo mb may hi hst hp hmay
      have hB := psN_b (a 0) i (v / 4 ^ (k + 1))
      rw [hst] at hB
      have hB1 : h ≤ i := hB.1
      have hB2 : ∀ p, mo p ≤ h := hB.2
      have edv : v / 4 ^ k / 4 = v / 4 ^ (k + 1) := by rw [Nat.div_div_eq_div_mul, Nat.pow_succ]
      have eps : psN (a 0) (i + 1) (v / 4 ^ k) = psS (a 0) i (v / 4 ^ k % 4) (h, mo, mb) := by
        show psS (a 0) i (v / 4 ^ k % 4) (psN (a 0) i (v / 4 ^ k / 4)) = _
        rw [edv, hst]
      have efig : ((nI v >>> ((2 * ((nI m - 1) - nI i)) &&& 31)) &&& 3) = nI (v / 4 ^ k % 4) := by
        have e1 : nI m - 1 - nI i = nI k := by
          rw [show nI m - 1 = nI (m - 1) from pk_sub (b := 1) (by omega), pk_sub (by omega)]
          exact congrArg nI (by omega)
        have e4 : (2 : Nat) ^ (2 * k) = 4 ^ k := by rw [Nat.pow_mul]
        rw [e1, show (2 : Int32) * nI k = nI (2 * k) from pk_mul 2 k, pk_shrN (by omega) _ (2 * k) (sh_sm _ (by omega)), e4, pk_andN (k := 2) (by have := Nat.div_le_self v (4 ^ k); omega) rfl]
      have hf4 := Nat.mod_lt (v / 4 ^ k) (show 0 < 4 by decide)
      generalize v / 4 ^ k % 4 = fig at efig hf4 eps
      generalize v / 4 ^ k = vk at ih eps
      have go : ∀ place, place = plN i fig → p_X6_worthOf_b49 Q (fun y0 y1 y2 y3 y4 y5 y6 u => p_X6_worthOf_L13 Q (k + 1) y0 y1 y2 y3 y4 y5 y6 u) 0 (nI v) (nI m) (nI f) (nI h) may (nI i) (nI fig) (nI place) (setR s 27 hh) := by
        intro place hpl
        unfold p_X6_worthOf_b49
        refine br_le (a := 3) rfl rfl (by decide) (by omega) (fun q => ?_) (fun q => ?_)
        · unfold p_X6_worthOf_b103
          rw [nI_1]
          refine ih (i + 1) hh h mo mb may (by omega) ?_ hp hmay
          rw [eps]
          unfold psS
          exact if_neg (by omega)
        · have hpl6 : place < 6 := by
            rw [hpl]
            unfold plN
            split <;> omega
          have b87 : ∀ (t0 : Int32) (b0 : Bool), (mb && decide (a 0 place + mo place ≤ 8)) = b0 → ((t0 = 1 ∧ b0 = true) ∨ (t0 = 0 ∧ b0 = false)) → p_X6_worthOf_b87 Q (fun y0 y1 y2 y3 y4 y5 y6 u => p_X6_worthOf_L13 Q (k + 1) y0 y1 y2 y3 y4 y5 y6 u) 0 (nI v) (nI m) (nI f) (nI h) (nI i) (nI place) t0 (setR s 27 hh) := fun t0 b0 hb0 ht0 => by
            have hS : psN (a 0) (i + 1) vk = (h + 1, upN mo place, b0) := by
              rw [eps]
              unfold psS
              rw [if_pos q, ← hpl, ← hb0]
            unfold p_X6_worthOf_b87
            refine ⟨27, rfl, rfl, m_in (N := 6) rfl rfl hpl6 (by decide), 27, rfl, rfl, m_in (N := 6) rfl rfl hpl6 (by decide), ?_⟩
            unfold p_X6_worthOf_b103
            have hz := ih (i + 1) (upd hh place (nI (mo place + 1))) (h + 1) (upN mo place) b0 t0 (by omega) hS (fun p hp2 => by
              show _ = nI (if p = place then mo p + 1 else mo p)
              rw [upd_if]
              by_cases z : p = place
              · subst z; rw [if_pos rfl, if_pos rfl]
              · rw [if_neg z, if_neg z]; exact hp p hp2) ht0
            rw [m_cl (show place < 100000 by omega), gR_same, setR_setR, hp place hpl6, nI_1, nI_1, nI_1]
            exact hz
          rcases hmay with ⟨rfl, rfl⟩ | ⟨rfl, rfl⟩
          · refine br_f (by decide) ⟨19, rfl, rfl, m_in (N := 6) rfl rfl hpl6 (by decide), 27, rfl, rfl, m_in (N := 6) rfl rfl hpl6 (by decide), ?_⟩
            have e19 : gR (setR s 27 hh) 19 place = nI (a 0 place) := by
              rw [gR_ne _ _ (by decide), hs.1 19 (by decide)]
              exact hv.2.2.2.1 0 (by decide) place hpl6
            have g9 := hg place hpl6
            have mb2 := hB2 place
            rw [m_cl (show place < 100000 by omega), e19, gR_same, hp place hpl6, nI_add]
            refine br_le (a := 9) rfl rfl (by decide) (by omega) (fun y => ?_) (fun y => ?_)
            · unfold p_X6_worthOf_b86
              exact b87 0 false (by simp; omega) (Or.inr ⟨rfl, rfl⟩)
            · exact b87 1 true (by simp; omega) (Or.inl ⟨rfl, rfl⟩)
          · refine br_t rfl ?_
            unfold p_X6_worthOf_b86
            exact b87 0 false (by simp) (Or.inr ⟨rfl, rfl⟩)
      unfold p_X6_worthOf_L13
      refine br_f (nI_ge (by omega) (by omega)) ?_
      rw [efig, show nI i - nI i / 2 * 2 = nI (i % 2) from pk_rem (d := 2) (by omega) (by decide) (by decide), show (3 : Int32) + nI fig = nI (3 + fig) from nI_add 3 fig]
      exact br_eq (b := 0) rfl rfl (by omega) (by decide) (fun q => go fig (by unfold plN; rw [if_pos q])) (fun q => go (3 + fig) (by unfold plN; rw [if_neg q]))
  unfold p_X6_worthOf
  refine m_noMore ⟨m + 1, ?_⟩
  refine key m 0 _ 0 (fun _ => 0) true 1 (by omega) rfl (fun p hp => ?_) (Or.inl ⟨rfl, rfl⟩)
  show (if 0 ≤ p ∧ p < 0 + 6 then (0 : Int32) else gR s 27 p) = 0
  exact if_pos (by omega)
