/-! duel: values below 0 too -/
def iV (z : Int) : Int32 := Int32.ofInt z
theorem iV_n (n : Nat) : nI n = iV (n : Int) := Int32.ofInt_eq_ofNat.symm
theorem iV_add (x y : Int) : iV x + iV y = iV (x + y) := (Int32.ofInt_add x y).symm
theorem iV_sub (x y : Int) : iV x - iV y = iV (x - y) := (Int32.ofInt_sub x y).symm
theorem iV_neg (x : Int) : -(iV x) = iV (-x) := (Int32.ofInt_neg x).symm
def sml (x : Int) : Prop := -2000000 ≤ x ∧ x ≤ 2000000
theorem iV_i {x : Int} (h : sml x) : (iV x).toInt = x := Int32.toInt_ofInt_of_le (by unfold sml at h; omega) (by unfold sml at h; omega)
theorem iV_lt {x y : Int} (hx : sml x) (hy : sml y) : iV x < iV y ↔ x < y := by rw [Int32.lt_iff_toInt_lt, iV_i hx, iV_i hy]
theorem iV_le {x y : Int} (hx : sml x) (hy : sml y) : iV x ≤ iV y ↔ x ≤ y := by rw [Int32.le_iff_toInt_le, iV_i hx, iV_i hy]
theorem iV_inj {x y : Int} (hx : sml x) (hy : sml y) (h : iV x = iV y) : x = y := by
  have := congrArg Int32.toInt h
  rw [iV_i hx, iV_i hy] at this
  exact this
theorem iV_min {x y : Int} (hx : sml x) (hy : sml y) : (if iV y < iV x then iV y else iV x) = iV (min x y) := by
  by_cases h : y < x
  · rw [if_pos ((iV_lt hy hx).mpr h), show min x y = y by omega]
  · rw [if_neg (fun q => h ((iV_lt hy hx).mp q)), show min x y = x by omega]
theorem iV_max {x y : Int} (hx : sml x) (hy : sml y) : (if iV x < iV y then iV y else iV x) = iV (max x y) := by
  by_cases h : x < y
  · rw [if_pos ((iV_lt hx hy).mpr h), show max x y = y by omega]
  · rw [if_neg (fun q => h ((iV_lt hx hy).mp q)), show max x y = x by omega]
/-- the lead, place by place -/
def ldS (G c : Nat → Nat) (F p : Nat) (x : Int) : Int := if 3 ≤ p then x + ((c p * (F - G p) : Nat) : Int) else x - ((c p * (F - G p) : Nat) : Int)
def ldI (G c : Nat → Nat) (F : Nat) : Int := itr (ldS G c F) 0 6 0
theorem ldI_b {G c : Nat → Nat} {F : Nat} (hc : ∀ p, p < 6 → c p ≤ 6) (hF : F ≤ 20) : -720 ≤ ldI G c F ∧ ldI G c F ≤ 720 := by
  have h := itr_inv (step := ldS G c F) (fun i x => -(120 * (i : Int)) ≤ x ∧ x ≤ 120 * (i : Int)) 6 0 0 (by omega) (fun j y _ hj hy => by
    have h1 := Nat.mul_le_mul (hc j (by omega)) (show F - G j ≤ 20 by omega)
    show -(120 * ((j + 1 : Nat) : Int)) ≤ ldS G c F j y ∧ ldS G c F j y ≤ 120 * ((j + 1 : Nat) : Int)
    unfold ldS
    generalize c j * (F - G j) = w at h1 ⊢
    split <;> omega)
  unfold ldI
  generalize itr (ldS G c F) 0 6 0 = z at h
  omega
/-! the game -/
def opI (b : Bool) (x y : Int) : Int := if b then max x y else min x y
def opO (b : Bool) (x : Int) : Option Int → Int
  | none => x
  | some y => opI b x y
def plN (t j : Nat) : Nat := if t % 2 = 0 then j else 3 + j
def upN (mo : Nat → Nat) (p : Nat) : Nat → Nat := fun k => if k = p then mo k + 1 else mo k
def chN (V : Nat → (Nat → Nat) → Int) (g : Nat → Nat) (t h : Nat) (mo : Nat → Nat) (j : Nat) : Option Int := if g (plN t j) + mo (plN t j) ≤ 8 then some (V (h + 1) (upN mo (plN t j))) else none
def nxN (V : Nat → (Nat → Nat) → Int) (g : Nat → Nat) (t h : Nat) (mo : Nat → Nat) : Int := opO (decide (t % 2 = 0)) (opO (decide (t % 2 = 0)) (opO (decide (t % 2 = 0)) (V h mo) (chN V g t h mo 0)) (chN V g t h mo 1)) (chN V g t h mo 2)
def vaN (g c : Nat → Nat) (f : Nat) : Nat → Nat → Nat → (Nat → Nat) → Int
  | 0, _, h, mo => ldI (fun p => g p + mo p) c (min (f + h) 20)
  | r + 1, t, h, mo => nxN (vaN g c f r (t + 1)) g t h mo
theorem opI_b {b : Bool} {x y : Int} (hx : -720 ≤ x ∧ x ≤ 720) (hy : -720 ≤ y ∧ y ≤ 720) : -720 ≤ opI b x y ∧ opI b x y ≤ 720 := by
  unfold opI
  cases b <;> simp only [Bool.false_eq_true, ↓reduceIte] <;> omega
theorem opO_b {b : Bool} {x : Int} {o : Option Int} (hx : -720 ≤ x ∧ x ≤ 720) (ho : ∀ y, o = some y → -720 ≤ y ∧ y ≤ 720) : -720 ≤ opO b x o ∧ opO b x o ≤ 720 := by
  cases o with
  | none => exact hx
  | some y => exact opI_b hx (ho y rfl)
theorem chN_b {V : Nat → (Nat → Nat) → Int} {g : Nat → Nat} (hV : ∀ h mo, -720 ≤ V h mo ∧ V h mo ≤ 720) {t h : Nat} {mo : Nat → Nat} {j : Nat} : ∀ y, chN V g t h mo j = some y → -720 ≤ y ∧ y ≤ 720 := by
  intro y hy
  unfold chN at hy
  split at hy
  · cases hy; exact hV _ _
  · cases hy
theorem vaN_b {g c : Nat → Nat} {f : Nat} (hc : ∀ p, p < 6 → c p ≤ 6) : ∀ r t h mo, -720 ≤ vaN g c f r t h mo ∧ vaN g c f r t h mo ≤ 720 := by
  intro r
  induction r with
  | zero => intro t h mo; exact ldI_b hc (by omega)
  | succ r ih =>
    intro t h mo
    have hV := ih (t + 1)
    exact opO_b (opO_b (opO_b (hV _ _) (chN_b hV)) (chN_b hV)) (chN_b hV)
theorem sml_of {x : Int} (h : -720 ≤ x ∧ x ≤ 720) : sml x := ⟨by omega, by omega⟩
/-! the class -/
section DUX
variable {X : Sg} {g c : Nat → Nat} {f w : Nat}
theorem x_lead {s : Sg} {G : Nat → Nat} {F : Nat} (hd : DYK s G c) (hG : ∀ p, p < 6 → G p ≤ 20) (hF : F ≤ 20) {Q : Int32 → Sg → Prop} (hQ : Q (iV (ldI G c F)) s) : p_X1_leadOfFirst (nI F) (some 20) (some 21) s Q := by
  unfold p_X1_leadOfFirst
  refine ⟨6 + 1, ?_⟩
  refine lp_up (fun m i x => p_X1_leadOfFirst_L5 Q m (nI F) (some 20) (some 21) (iV x) (nI i) s) (fun _ _ => True) 6 (ldS G c F) (fun x => Q (iV x) s) (fun m x _ hx => ?_) (fun m i x hi _ hx => ?_) (fun _ _ _ _ => trivial) 6 0 0 (by omega) trivial hQ
  · unfold p_X1_leadOfFirst_L5
    exact br_t (by decide) hx
  · have g20 := hG i hi
    unfold p_X1_leadOfFirst_L5
    refine br_f (nI_ge (b := 6) hi (by decide)) (e_item (k := 21) rfl rfl rfl hi (e_item (k := 20) rfl rfl rfl hi ?_))
    rw [hd.1 i hi, hd.2 i hi, v_sub (by omega) (by omega), pk_mul]
    unfold p_X1_leadOfFirst_b48
    rw [nI_1, iV_n (c i * (F - G i)), iV_neg, iV_add, iV_add]
    unfold ldS at hx
    refine br_le (a := 3) rfl rfl (by decide) (by omega) (fun q => ?_) (fun q => ?_)
    · rw [if_pos q] at hx; exact hx
    · rw [if_neg (by omega)] at hx
      rw [← Int.sub_eq_add_neg]
      exact hx
theorem x_played (hg : ∀ p, p < 6 → g p ≤ 9) (hc : ∀ p, p < 6 → c p ≤ 6) (hf : f ≤ 20) (hw : w ≤ 6) : ∀ r t h mo s d (Q : Int32 → Sg → Prop), t + r = w → r + 1 ≤ d → h ≤ t → (∀ p, mo p ≤ h) → th X s → DYK s (fun p => g p + mo p) c → (∀ s', th X s' → DYK s' (fun p => g p + mo p) c → Q (iV (vaN g c f r t h mo)) s') → p_X1_playedOut d (nI t) (nI w) (nI (f + h)) (some 20) (some 21) s Q := by
  intro r
  induction r with
  | zero =>
    intro t h mo s d Q ht hd hh hm hs hD hQ
    obtain ⟨e, rfl⟩ : ∃ e, d = e + 1 := ⟨d - 1, by omega⟩
    unfold p_X1_playedOut p_X1_playedOut_0
    refine br_t (nI_le (by omega) (by omega)) ?_
    unfold p_X1_playedOut_b11
    rw [show (20 : Int32) = nI 20 from rfl, v_min (by omega) (by decide)]
    exact x_lead hD (fun p hp => by have := hg p hp; have := hm p; show g p + mo p ≤ 20; omega) (by omega) (hQ s hs hD)
  | succ r ih =>
    intro t h mo s d Q ht hd hh hm hs hD hQ
    obtain ⟨e, rfl⟩ : ∃ e, d = e + 1 := ⟨d - 1, by omega⟩
    have hV := vaN_b (g := g) (f := f) hc r (t + 1)
    have step : ∀ (x5 : Int32) (fr j : Nat), ((x5 = 1 ∧ fr = 0 ∧ t % 2 = 0) ∨ (x5 = 0 ∧ fr = 3 ∧ ¬ t % 2 = 0)) → j < 3 → ∀ m best s, (-720 ≤ best ∧ best ≤ 720) → th X s → DYK s (fun p => g p + mo p) c → (∀ s', th X s' → DYK s' (fun p => g p + mo p) c → p_X1_playedOut_L66 (p_X1_playedOut e) Q m (nI t) (nI w) (nI (f + h)) (some 20) (some 21) x5 (nI fr) (iV (opO (decide (t % 2 = 0)) best (chN (vaN g c f r (t + 1)) g t h mo j))) (nI (fr + (j + 1))) s') → p_X1_playedOut_L66 (p_X1_playedOut e) Q (m + 1) (nI t) (nI w) (nI (f + h)) (some 20) (some 21) x5 (nI fr) (iV best) (nI (fr + j)) s := by
      intro x5 fr j hx hj m best s hbb hs hD hN
      have efr : plN t j = fr + j := by
        unfold plN
        rcases hx with ⟨_, q1, q2⟩ | ⟨_, q1, q2⟩
        · rw [if_pos q2]; omega
        · rw [if_neg q2]; omega
      have hp : fr + j < 6 := by omega
      have g9 := hg _ hp
      have mh := hm (fr + j)
      unfold p_X1_playedOut_L66
      rw [show nI fr + 3 = nI (fr + 3) from nI_add fr 3]
      refine br_f (nI_ge (by omega) (by omega)) (e_item (k := 20) rfl rfl rfl hp ?_)
      rw [hD.1 _ hp, nI_1]
      unfold chN at hN
      rw [efr] at hN
      refine br_le (a := 9) rfl rfl (by decide) (by show g (fr + j) + mo (fr + j) < _; omega) (fun q => ?_) (fun q => ?_)
      · have q : 9 ≤ g (fr + j) + mo (fr + j) := q
        rw [if_neg (by omega)] at hN
        unfold p_X1_playedOut_b147
        rw [nI_1]
        exact hN s hs hD
      · have q : g (fr + j) + mo (fr + j) < 9 := q
        rw [if_pos (by omega)] at hN
        refine e_setItem (k := 20) rfl rfl rfl hp ?_
        rw [nI_1, nI_1]
        have hv1 := hV (h + 1) (upN mo (fr + j))
        refine ih (t + 1) (h + 1) (upN mo (fr + j)) _ e _ (by omega) (by omega) (by omega) (fun p => by unfold upN; have := hm p; split <;> omega) (th_set hs _ (by decide)) ⟨fun p hp2 => ?_, fun p hp2 => ?_⟩ (fun s' hs' hD' => ?_)
        · rw [gR_same, upd_if]
          show _ = nI (g p + (if p = fr + j then mo p + 1 else mo p))
          by_cases z : p = fr + j
          · subst z; rw [if_pos rfl, if_pos rfl]; rfl
          · rw [if_neg z, if_neg z]; exact hD.1 p hp2
        · rw [gR_ne _ _ (by decide)]; exact hD.2 p hp2
        · refine e_setItem (k := 20) rfl rfl rfl hp ?_
          have hD2 : DYK (setR s' 20 (upd (gR s' 20) (fr + j) (nI (g (fr + j) + mo (fr + j))))) (fun p => g p + mo p) c := by
            refine ⟨fun p hp2 => ?_, fun p hp2 => ?_⟩
            · rw [gR_same, upd_if]
              by_cases z : p = fr + j
              · subst z; rw [if_pos rfl]
              · rw [if_neg z, hD'.1 p hp2]
                show nI (g p + (if p = fr + j then mo p + 1 else mo p)) = nI (g p + mo p)
                rw [if_neg z]
            · rw [gR_ne _ _ (by decide)]; exact hD'.2 p hp2
          have hfin := hN _ (th_set hs' (upd (gR s' 20) (fr + j) (nI (g (fr + j) + mo (fr + j)))) (by decide)) hD2
          unfold opO opI at hfin
          rcases hx with ⟨rfl, q1, q2⟩ | ⟨rfl, q1, q2⟩
          · refine br_f (by decide) ?_
            rw [iV_max (sml_of hbb) (sml_of hv1)]
            unfold p_X1_playedOut_b145 p_X1_playedOut_b147
            rw [nI_1]
            simp only [q2, decide_true, ↓reduceIte] at hfin
            exact hfin
          · refine br_t rfl ?_
            rw [iV_min (sml_of hbb) (sml_of hv1)]
            unfold p_X1_playedOut_b145 p_X1_playedOut_b147
            rw [nI_1]
            simp only [q2, decide_false, Bool.false_eq_true, ↓reduceIte] at hfin
            exact hfin
    have kb : ∀ (x5 : Int32) (fr : Nat), ((x5 = 1 ∧ fr = 0 ∧ t % 2 = 0) ∨ (x5 = 0 ∧ fr = 3 ∧ ¬ t % 2 = 0)) → p_X1_playedOut_b47 (p_X1_playedOut e) Q (nI t) (nI w) (nI (f + h)) (some 20) (some 21) x5 (nI fr) s := by
      intro x5 fr hx
      unfold p_X1_playedOut_b47
      rw [nI_1]
      refine ih (t + 1) h mo s e _ (by omega) (by omega) (by omega) hm hs hD (fun s1 hs1 hD1 => ⟨3 + 1, ?_⟩)
      have b1 := hV h mo
      have b2 := opO_b (b := decide (t % 2 = 0)) b1 (chN_b (g := g) (t := t) (h := h) (mo := mo) (j := 0) hV)
      have b3 := opO_b (b := decide (t % 2 = 0)) b2 (chN_b (g := g) (t := t) (h := h) (mo := mo) (j := 1) hV)
      refine step x5 fr 0 hx (by decide) 3 _ s1 b1 hs1 hD1 (fun s2 hs2 hD2 => ?_)
      refine step x5 fr 1 hx (by decide) 2 _ s2 b2 hs2 hD2 (fun s3 hs3 hD3 => ?_)
      refine step x5 fr 2 hx (by decide) 1 _ s3 b3 hs3 hD3 (fun s4 hs4 hD4 => ?_)
      unfold p_X1_playedOut_L66
      rw [show nI fr + 3 = nI (fr + 3) from nI_add fr 3]
      exact br_t (nI_le (Nat.le_refl _) (by omega)) (hQ s4 hs4 hD4)
    unfold p_X1_playedOut p_X1_playedOut_0
    refine br_f (nI_ge (by omega) (by omega)) (br_t (nI_lt (b := 6) (by omega) (by decide)) ?_)
    rw [show nI t - nI t / 2 * 2 = nI (t % 2) from pk_rem (d := 2) (by omega) (by decide) (by decide)]
    unfold p_X1_playedOut_b35
    refine br_eq (b := 0) rfl rfl (by omega) (by decide) (fun q => br_f (by decide) (kb 1 0 (Or.inl ⟨rfl, rfl, q⟩))) (fun q => br_t rfl (kb 0 3 (Or.inr ⟨rfl, rfl, q⟩)))
end DUX
