/-! looks, line -/
theorem ct_all : ∀ m, m ≤ 6 → ∀ k, k < 2 ^ m - 1 → ct k.testBit 21 < ct (2 ^ m - 1).testBit 21 := by decide +kernel
/-- fewer, or as many and before -/
def lxl (s t : Nat) : Prop := ct s.testBit 21 < ct t.testBit 21 ∨ (ct s.testBit 21 = ct t.testBit 21 ∧ s ≤ t)
theorem lxl_anti {s t : Nat} (h : lxl s t) (g : lxl t s) : s = t := by
  rcases h with h | h <;> rcases g with g | g <;> omega
theorem lxl_rf (s : Nat) : lxl s s := Or.inr ⟨rfl, Nat.le_refl s⟩
section LKS
variable {X M : Sg}
theorem st_looks (hI : Inv X M) (y : Int32) : p_X5_looks 0 y X (fun u X' => p_X6_looks 0 y M (fun u' M' => Z X' M' u u')) := by
  obtain ⟨F, q, N, hC⟩ := hI.2.2.2.2.2
  obtain ⟨hv, hm, hb, h3, h36⟩ := IC_now hC
  have b0 := hb.1
  have b2 := hb.2.2.1
  have hp : 2 ^ (rp F q N).1 0 ≤ 64 := Nat.pow_le_pow_right (n := 2) (by decide) b0
  have hp1 : 1 ≤ 2 ^ (rp F q N).1 0 := Nat.one_le_two_pow
  have no : ¬ ok y ((rp F q N).1 2) → p_X6_looks 0 y M (fun u' M' => Z X M' (-1) u') := fun hy => by
    unfold p_X6_looks
    exact m_isYear hm b2 (fun z => absurd z hy) (fun _ => br_t rfl ⟨rfl, hI⟩)
  unfold p_X5_looks p_X0_everyone
  refine x_isPast hv b2 (fun hy => br_f (by decide) ⟨25, rfl, rfl, ?_⟩) (fun hy => br_t rfl (no hy))
  have hy' := hy
  obtain ⟨t, ht, rfl⟩ := hy
  rw [hv.1 0 (by decide), ev_eq b0]
  refine ⟨25, rfl, rfl, ?_⟩
  have hca := ct_all _ b0
  generalize hA : 2 ^ (rp F q N).1 0 - 1 = A at *
  have hA64 : A < 64 := by omega
  generalize hK : knN (rp F q N).1 (rp F q N).2 A t = K
  have hKl : K < 2 ^ 21 := by rw [← hK]; exact knN_lt _ _ _ _
  refine e_knownBy isD25 hv hb (by omega) ht ⟨A + 1, ?_⟩
  rw [hK]
  have ctl : ∀ s : Nat, ct s.testBit 21 ≤ 21 := fun s => ct_le _ _
  -- the model, from above
  have down : ∀ {R : Int32 → Sg → Prop} {b : Nat}, (knN (rp F q N).1 (rp F q N).2 b t = K) → b ≤ A → (∀ s, s ≤ A → knN (rp F q N).1 (rp F q N).2 s t = K → lxl b s) → R (nI (ct b.testBit 21)) (setI M 0 0 (nI b)) → ∀ k c, k ≤ A + 1 → c ≤ A → knN (rp F q N).1 (rp F q N).2 c t = K → (∀ s, k ≤ s → s ≤ A → knN (rp F q N).1 (rp F q N).2 s t = K → lxl c s) → (k = A + 1 → c = A) → (k ≤ A → k ≤ c) → p_X6_looks_L31 R (k + 1) 0 (nI t) (nI K) (nI c) (nI k - 1) M := by
    intro R b gb hbA hbl hR k
    induction k with
    | zero =>
      intro c _ hcA gc hcl _ _
      have e : b = c := lxl_anti (hbl c hcA gc) (hcl b (Nat.zero_le b) hbA gb)
      subst e
      unfold p_X6_looks_L31
      refine br_t (by decide) (m_manyOf (by omega) hR)
    | succ k ih =>
      intro c hk hcA gc hcl hkA hkc
      unfold p_X6_looks_L31 p_X6_looks_b64 p_X6_looks_b65
      rw [nI_pred]
      have hcc := ctl c
      have hck := ctl k
      refine br_f (nI_pos (by omega)) (m_manyOf (by omega) (m_manyOf (by omega) ?_))
      have stay : (knN (rp F q N).1 (rp F q N).2 k t = K → ct c.testBit 21 < ct k.testBit 21) → p_X6_looks_L31 R (k + 1) 0 (nI t) (nI K) (nI c) (nI k + (-1)) M := fun hs => by
        rw [show nI k + (-1) = nI k - 1 by rw [Int32.sub_eq_add_neg]]
        refine ih c (by omega) hcA gc (fun s h1 h2 h3 => ?_) (fun e => by omega) (fun _ => ?_)
        · by_cases e : s = k
          · subst e
            exact Or.inl (hs h3)
          · exact hcl s (by omega) h2 h3
        · by_cases e : k + 1 = A + 1
          · have := hkA e; omega
          · have := hkc (by omega); omega
      refine br_lt rfl rfl (by omega) (by omega) (fun z => stay (fun _ => z)) (fun z => m_known hm hb (by omega) ht ?_)
      have hkl := knN_lt (rp F q N).1 (rp F q N).2 k t
      refine br_eq rfl rfl (by omega) (by omega) (fun w => ?_) (fun w => stay (fun g => absurd g w))
      rw [show nI k + (-1) = nI k - 1 by rw [Int32.sub_eq_add_neg]]
      refine ih k (by omega) (by omega) w (fun s h1 h2 h3 => ?_) (fun e => by omega) (fun _ => Nat.le_refl k)
      by_cases e : s = k
      · subst e
        exact lxl_rf s
      · rcases hcl s (by omega) h2 h3 with l | l
        · exact Or.inl (by omega)
        · by_cases e2 : ct k.testBit 21 = ct c.testBit 21
          · exact Or.inr ⟨by omega, by omega⟩
          · exact Or.inl (by omega)
  -- the class, from below
  have up : ∀ r k b, k + r = A → b ≤ A → knN (rp F q N).1 (rp F q N).2 b t = K → (∀ s, s < k → knN (rp F q N).1 (rp F q N).2 s t = K → lxl b s) → lxl b A → (b < k ∨ b = A) → p_X5_looks_L31 (fun u X' => p_X6_looks 0 (nI t) M (fun u' M' => Z X' M' u u')) (r + 1) 0 (nI t) (nI b) (nI K) (nI k) X := by
    intro r
    induction r with
    | zero =>
      intro k b hk hbA gb hbl hbA2 _
      unfold p_X5_looks_L31 p_X0_everyone
      refine ⟨25, rfl, rfl, ?_⟩
      rw [hv.1 0 (by decide), ev_eq b0, hA]
      refine br_t (nI_le (by omega) (by omega)) (e_bitCount (by omega) ?_)
      unfold p_X6_looks p_X6_all
      refine m_isYear hm b2 (fun _ => br_f (by decide) ?_) (fun z => absurd hy' z)
      rw [hm.1, ev_eq b0, hA]
      refine m_known hm hb (by omega) ht ?_
      rw [hK]
      refine ⟨A + 2, ?_⟩
      rw [hm.1, ev_eq b0, hA]
      have := down (R := fun u' M' => Z (setI X 0 9 (nI b)) M' (nI (ct b.testBit 21)) u') gb hbA (fun s h1 h2 => by
        by_cases e : s = A
        · rw [e]; exact hbA2
        · exact hbl s (by omega) h2) ⟨rfl, Inv_told hI rfl⟩ (A + 1) A (Nat.le_refl _) (Nat.le_refl _) hK (fun s h1 h2 => by omega) (fun _ => rfl) (fun h => by omega)
      rw [nI_pred] at this
      exact this
    | succ r ih =>
      intro k b hk hbA gb hbl hbA2 hbk
      have hcc := ctl b
      have hck := ctl k
      unfold p_X5_looks_L31 p_X5_looks_b72 p_X0_everyone
      refine ⟨25, rfl, rfl, ?_⟩
      rw [hv.1 0 (by decide), ev_eq b0, hA, nI_1]
      have stay : (knN (rp F q N).1 (rp F q N).2 k t = K → ct b.testBit 21 ≤ ct k.testBit 21) → p_X5_looks_L31 _ (r + 1) 0 (nI t) (nI b) (nI K) (nI (k + 1)) X := fun hs => ih (k + 1) b (by omega) hbA gb (fun s h1 h2 => by
        by_cases e : s = k
        · subst e
          have l := hs h2
          by_cases e2 : ct b.testBit 21 = ct s.testBit 21
          · refine Or.inr ⟨e2, ?_⟩
            rcases hbk with w | w
            · omega
            · subst w
              have := hca s (by omega)
              omega
          · exact Or.inl (by omega)
        · exact hbl s (by omega) h2) hbA2 (by omega)
      refine br_f (nI_ge (by omega) (by omega)) (e_bitCount (by omega) (e_bitCount (by omega) ?_))
      refine br_le rfl rfl (by omega) (by omega) (fun z => stay (fun _ => z)) (fun z => ⟨25, rfl, rfl, e_knownBy isD25 hv hb (by omega) ht ?_⟩)
      have hkl := knN_lt (rp F q N).1 (rp F q N).2 k t
      refine br_eq rfl rfl (by omega) (by omega) (fun w => ?_) (fun w => stay (fun g => absurd g w))
      refine ih (k + 1) k (by omega) (by omega) w (fun s h1 h2 => ?_) ?_ (Or.inl (by omega))
      · by_cases e : s = k
        · subst e; exact lxl_rf s
        · rcases hbl s (by omega) h2 with l | l
          · exact Or.inl (by omega)
          · exact Or.inl (by omega)
      · rcases hbA2 with l | l
        · exact Or.inl (by omega)
        · exact Or.inl (by omega)
  exact up A 0 A (by omega) (Nat.le_refl _) hK (fun s h => absurd h (Nat.not_lt_zero s)) (lxl_rf A) (Or.inr rfl)
/-- two ways to go through all pairs -/
def pr1 (g : Nat → Nat → Nat) (w : Nat) : Nat := itr (fun i x => itr (fun j z => z + g i j) (i + 1) (w - (i + 1)) x) 0 w 0
def pr2 (g : Nat → Nat → Nat) (w : Nat) : Nat := itr (fun j x => itr (fun i z => z + g i j) 0 j x) 0 w 0
theorem pr_eq (g : Nat → Nat → Nat) : ∀ w, w ≤ 6 → pr1 g w = pr2 g w := by
  intro w hw
  rcases (show w = 0 ∨ w = 1 ∨ w = 2 ∨ w = 3 ∨ w = 4 ∨ w = 5 ∨ w = 6 by omega) with rfl | rfl | rfl | rfl | rfl | rfl | rfl <;> (simp only [pr1, pr2, itr, Nat.reduceSub, Nat.reduceAdd, Nat.zero_add]) <;> omega
def lnG (a : Nat → Nat → Nat) (y i j : Nat) : Nat := if hO a j y < hO a i y then 1 else 0
def lnF (a : Nat → Nat → Nat) (y i z : Nat) : Nat := if hO a z y ≤ hO a i y then z else i
theorem st_line (hI : Inv X M) (y : Int32) : p_X5_line 0 y X (fun u X' => p_X6_line 0 y M (fun u' M' => Z X' M' u u')) := by
  obtain ⟨F, q, N, hC⟩ := hI.2.2.2.2.2
  obtain ⟨hv, hm, hb, h3, h36⟩ := IC_now hC
  have b0 := hb.1
  have b2 := hb.2.2.1
  unfold p_X5_line p_X6_line
  refine x_isPast hv b2 (fun hy => br_f (by decide) ?_) (fun hy => br_t rfl (m_isYear hm b2 (fun z => absurd z hy) (fun _ => br_t rfl ⟨rfl, hI⟩)))
  have hy' := hy
  obtain ⟨t, ht, rfl⟩ := hy
  generalize hn : (rp F q N).1 = n at *
  generalize ha : (rp F q N).2 = a at *
  have ho : ∀ i, i < n 0 → hO a i t ≤ 10 := fun i hi => hemN_le (hb.2.2.2.2.1 i hi).2.2.2.1
  have lnF_lt : ∀ i z, i < n 0 → z < n 0 → lnF a t i z < n 0 := fun i z hi hz => by unfold lnF; split <;> assumption
  refine ⟨n 0 + 1, ?_⟩
  refine lp_up (fun f i (b : Nat × Nat) => p_X5_line_L17 _ f 0 (nI t) (nI b.1) (nI b.2) (nI i) X) (fun i b => b.2 ≤ n 0 ∧ (0 < n 0 → b.2 < n 0)) (n 0) (fun i b => (itr (fun j z => z + lnG a t i j) (i + 1) (n 0 - (i + 1)) b.1, lnF a t i b.2)) (fun b => b = itr (fun i (b : Nat × Nat) => (itr (fun j z => z + lnG a t i j) (i + 1) (n 0 - (i + 1)) b.1, lnF a t i b.2)) 0 (n 0) (0, 0)) (fun f b hb1 hb2 => ?_) (fun f i b hi hb1 hx => ?_) (fun i b hi hb1 => ?_) (n 0) 0 (0, 0) (by omega) ⟨Nat.zero_le _, fun h => h⟩ rfl
  · have e1 : b.1 = pr1 (lnG a t) (n 0) ∧ b.2 = itr (fun i z => lnF a t i z) 0 (n 0) 0 := by
      rw [hb2]
      have sp : ∀ r i (c : Nat × Nat), itr (fun i (b : Nat × Nat) => (itr (fun j z => z + lnG a t i j) (i + 1) (n 0 - (i + 1)) b.1, lnF a t i b.2)) i r c = (itr (fun i x => itr (fun j z => z + lnG a t i j) (i + 1) (n 0 - (i + 1)) x) i r c.1, itr (fun i z => lnF a t i z) i r c.2) := by
        intro r
        induction r with
        | zero => intro i c; rfl
        | succ r ih => intro i c; exact ih (i + 1) _
      rw [sp]
      exact ⟨rfl, rfl⟩
    unfold p_X5_line_L17
    refine ⟨25, rfl, rfl, br_t (by rw [hv.1 0 (by decide)]; exact nI_le (Nat.le_refl _) (by omega)) ?_⟩
    refine m_isYear hm b2 (fun _ => br_f (by decide) ⟨n 0 + 1, ?_⟩) (fun z => absurd hy' z)
    refine lp_up (fun f j (c : Nat × Nat) => p_X6_line_L17 _ f 0 (nI t) (nI c.1) (nI c.2) (nI j) M) (fun i c => c.2 ≤ n 0 ∧ (0 < n 0 → c.2 < n 0)) (n 0) (fun j c => (itr (fun i z => z + lnG a t i j) 0 j c.1, lnF a t j c.2)) (fun c => c = itr (fun j (c : Nat × Nat) => (itr (fun i z => z + lnG a t i j) 0 j c.1, lnF a t j c.2)) 0 (n 0) (0, 0)) (fun f c hc1 hc2 => ?_) (fun f j c hj hc1 hx => ?_) (fun i c hi hc1 => ?_) (n 0) 0 (0, 0) (by omega) ⟨Nat.zero_le _, fun h => h⟩ rfl
    · have e2 : c.1 = pr2 (lnG a t) (n 0) ∧ c.2 = itr (fun i z => lnF a t i z) 0 (n 0) 0 := by
        rw [hc2]
        have sp : ∀ r i (c : Nat × Nat), itr (fun j (c : Nat × Nat) => (itr (fun i z => z + lnG a t i j) 0 j c.1, lnF a t j c.2)) i r c = (itr (fun j x => itr (fun i z => z + lnG a t i j) 0 j x) i r c.1, itr (fun i z => lnF a t i z) i r c.2) := by
          intro r
          induction r with
          | zero => intro i c; rfl
          | succ r ih => intro i c; exact ih (i + 1) _
        rw [sp]
        exact ⟨rfl, rfl⟩
      unfold p_X6_line_L17
      rw [hm.1]
      refine br_t (nI_le (Nat.le_refl _) (by omega)) ⟨?_, Inv_told hI ?_⟩
      · rw [e1.1, e2.1, pr_eq _ _ b0]
      · rw [e1.2, e2.2]
    · unfold p_X6_line_L17
      rw [hm.1]
      have h0 := hc1.2 (by omega)
      refine br_f (lt_w b0 hj) ⟨j + 1, ?_⟩
      refine lp_up (fun f i z => p_X6_line_L29 _ _ f 0 (nI t) (nI z) (nI c.2) (nI j) (nI i) M) (fun _ _ => True) j (fun i z => z + lnG a t i j) (fun z => z = itr (fun i z => z + lnG a t i j) 0 j c.1) (fun f2 z _ hz => ?_) (fun f2 i z hi _ hz => ?_) (fun _ _ _ _ => trivial) j 0 c.1 (by omega) trivial rfl
      · subst hz
        unfold p_X6_line_L29 p_X6_line_b109
        simp only [ex6]
        rw [m_cl (show t * 6 + j < 100000 by omega), m_cl (show t * 6 + c.2 < 100000 by omega), nI_1]
        refine br_t (nI_le (Nat.le_refl _) (by omega)) ⟨21, rfl, rfl, m_in (N := 48) rfl rfl (by omega) (by decide), 21, rfl, rfl, m_in (N := 48) rfl rfl (by omega) (by decide), ?_⟩
        rw [hm.2.2.2.2 j t hj ht, hm.2.2.2.2 c.2 t h0 ht]
        have o1 := ho j hj
        have o2 := ho c.2 h0
        have hx' : p_X6_line_L17 _ f 0 (nI t) (nI (itr (fun i z => z + lnG a t i j) 0 j c.1)) (nI (lnF a t j c.2)) (nI (j + 1)) M := hx
        unfold lnF at hx'
        refine br_le rfl rfl (by omega) (by omega) (fun w => ?_) (fun w => ?_)
        · rw [if_pos w] at hx'; exact hx'
        · rw [if_neg (by omega)] at hx'; exact hx'
      · unfold p_X6_line_L29 p_X6_line_b69
        have hi' : i < n 0 := by omega
        simp only [ex6]
        rw [m_cl (show t * 6 + i < 100000 by omega), m_cl (show t * 6 + j < 100000 by omega), nI_1]
        refine br_f (nI_ge hi (by omega)) ⟨21, rfl, rfl, m_in (N := 48) rfl rfl (by omega) (by decide), 21, rfl, rfl, m_in (N := 48) rfl rfl (by omega) (by decide), ?_⟩
        rw [hm.2.2.2.2 j t hj ht, hm.2.2.2.2 i t hi' ht]
        have o1 := ho j hj
        have o2 := ho i hi'
        unfold lnG at hz
        refine br_le rfl rfl (by omega) (by omega) (fun w => ?_) (fun w => ?_)
        · rw [if_neg (by omega)] at hz
          rw [show (0 : Int32) = nI 0 from rfl, nI_add]
          exact hz
        · rw [if_pos w] at hz
          rw [nI_1]
          exact hz
    · have h0 := hc1.2 (by omega)
      have := lnF_lt i c.2 hi h0
      exact ⟨Nat.le_of_lt this, fun _ => this⟩
  · have h0 := hb1.2 (by omega)
    unfold p_X5_line_L17
    refine ⟨25, rfl, rfl, br_f (by rw [hv.1 0 (by decide)]; exact lt_w b0 hi) ⟨n 0 - (i + 1) + 1, ?_⟩⟩
    rw [nI_1]
    refine lp_up (fun f j z => p_X5_line_L35 _ _ f 0 (nI t) (nI z) (nI b.2) (nI i) (nI j) X) (fun _ _ => True) (n 0) (fun j z => z + lnG a t i j) (fun z => z = itr (fun j z => z + lnG a t i j) (i + 1) (n 0 - (i + 1)) b.1) (fun f2 z _ hz => ?_) (fun f2 j z hj _ hz => ?_) (fun _ _ _ _ => trivial) (n 0 - (i + 1)) (i + 1) b.1 (by omega) trivial rfl
    · subst hz
      unfold p_X5_line_L35 p_X5_line_b104
      refine ⟨25, rfl, rfl, br_t (by rw [hv.1 0 (by decide)]; exact nI_le (Nat.le_refl _) (by omega)) ⟨25, rfl, rfl, e_hemOf isD25 hv hb hi ht ⟨25, rfl, rfl, e_hemOf isD25 hv hb h0 ht ?_⟩⟩⟩
      rw [nI_1]
      have o1 := ho i hi
      have o2 := ho b.2 h0
      have hx' : p_X5_line_L17 _ f 0 (nI t) (nI (itr (fun j z => z + lnG a t i j) (i + 1) (n 0 - (i + 1)) b.1)) (nI (lnF a t i b.2)) (nI (i + 1)) X := hx
      unfold lnF at hx'
      refine br_le rfl rfl (by omega) (by omega) (fun w => ?_) (fun w => ?_)
      · rw [if_pos w] at hx'; exact hx'
      · rw [if_neg (by omega)] at hx'; exact hx'
    · unfold p_X5_line_L35 p_X5_line_b73
      refine ⟨25, rfl, rfl, br_f (by rw [hv.1 0 (by decide)]; exact lt_w b0 hj) ⟨25, rfl, rfl, e_hemOf isD25 hv hb hj ht ⟨25, rfl, rfl, e_hemOf isD25 hv hb hi ht ?_⟩⟩⟩
      have o1 := ho i hi
      have o2 := ho j hj
      unfold lnG at hz
      rw [nI_1]
      refine br_le rfl rfl (by omega) (by omega) (fun w => ?_) (fun w => ?_)
      · rw [if_neg (by omega)] at hz
        exact hz
      · rw [if_pos w] at hz
        rw [nI_1]
        exact hz
  · have h0 := hb1.2 (by omega)
    have := lnF_lt i b.2 hi h0
    exact ⟨Nat.le_of_lt this, fun _ => this⟩
end LKS
