/-! lots -/
def nxL (x : Nat) : Nat := x * 48271 % 2147483647
def deL (x y w : Nat) : Dd := if x % 4 = 0 ∧ y < 8 then (0, x / 8 % 21, 0) else (1, x / 8 % w, x / 64 % 6)
def lotQ (F : Ds) (q : Nat → Dd) (N seed : Nat) : Nat → Nat × (Nat → Dd)
  | 0 => (seed, q)
  | k + 1 => (nxL (lotQ F q N seed k).1, qup (lotQ F q N seed k).2 (N + k) (deL (nxL (lotQ F q N seed k).1) ((rp F (lotQ F q N seed k).2 (N + k)).1 2) (F.1 0)))
theorem lotQ_lt {F : Ds} {q : Nat → Dd} {N seed : Nat} (hs : seed < 2147483647) : ∀ k, (lotQ F q N seed k).1 < 2147483647
  | 0 => hs
  | k + 1 => Nat.mod_lt _ (by decide)
theorem lotQ_ok {F : Ds} {q : Nat → Dd} {N seed : Nat} (hw : 0 < F.1 0) (hok : allOk F q N) : ∀ k, allOk F (lotQ F q N seed k).2 (N + k)
  | 0 => hok
  | k + 1 => allOk_qup (lotQ_ok hw hok k) (by
    unfold deL
    split
    · rename_i h
      exact Or.inl ⟨rfl, by show _ % 21 ≤ 20; omega, h.2⟩
    · refine Or.inr (Or.inl ⟨rfl, ?_, by show _ % 6 ≤ 5; omega⟩)
      rw [rp_w]
      exact Nat.mod_lt _ hw)
theorem lm_0 {x : Nat} (hx : x < 2 ^ 63) : (lg_cmp (lN x - lN x / 4 * 4) 0 = 0) ↔ x % 4 = 0 := by
  rw [lg_cmp_eq, show (4 : Int64) = lN 4 from rfl, pk_lRem hx (by decide) (by decide), show (0 : Int64) = lN 0 from rfl, pk_lEQ (by omega) (by decide)]
theorem lm_q {x d e : Nat} {D E : Int64} (hD : D = lN d) (hE : E = lN e) (hx : x < 2 ^ 62) (hd : 0 < d) (he : 0 < e) (hd2 : d < 1000) (he2 : e < 1000) : ((lN x / D) - (lN x / D) / E * E).toInt32 = nI (x / d % e) := by
  have h := Nat.div_le_self x d
  rw [hD, hE, pk_lDiv (by omega) hd (by omega), pk_lRem (by omega) he (by omega), lN_i]
theorem lm_n {x : Nat} (hx : x < 2147483647) : lN x * 48271 - lN x * 48271 / 2147483647 * 2147483647 = lN (nxL x) ∧ 48271 * lN x - 48271 * lN x / 2147483647 * 2147483647 = lN (nxL x) := by
  have e : lN x * 48271 = lN (x * 48271) := lN_mul x 48271
  have e2 : 48271 * lN x = lN (x * 48271) := by rw [show (48271 : Int64) = lN 48271 from rfl, lN_mul, Nat.mul_comm]
  rw [e, e2, show (2147483647 : Int64) = lN 2147483647 from rfl, pk_lRem (by omega) (by decide) (by decide)]
  exact ⟨rfl, rfl⟩
section LTS
variable {X M : Sg}
theorem x_byLot {s : Sg} {F : Ds} {q : Nat → Dd} {N x : Nat} {Q : Sg → Prop} (hR : RD s 25 F q N) (hb : BV (rp F q N).1 (rp F q N).2) (hw : 0 < F.1 0) (hN : N < 40) (hx : x < 2147483647) (h : ∀ s', RD s' 25 F (qup q N (deL x ((rp F q N).1 2) (F.1 0))) (N + 1) → outD 25 s s' → Q s') : p_X5_doByLot 0 (lN x) s Q := by
  have b0 := hb.1
  have ew : (rp F q N).1 0 = F.1 0 := rp_w F q N
  have x0 : gI s 25 0 = nI (F.1 0) := by rw [← ew]; exact hR.1.1 0 (by decide)
  have x2 := hR.1.1 2 (by decide)
  have b2 := hb.2.2.1
  have mv : ¬ (x % 4 = 0 ∧ (rp F q N).1 2 < 8) → p_X5_doByLot_b42 Q 0 (lN x) s := fun hn => by
    unfold deL at h
    rw [if_neg hn] at h
    have hm := Nat.mod_lt (x / 8) hw
    unfold p_X5_doByLot_b42
    refine ⟨25, rfl, rfl, br_f ?_ ⟨25, rfl, rfl, ?_, 25, rfl, rfl, ?_⟩⟩
    · rw [x0]; exact nI_nle hw (by omega)
    · rw [x0, nI_l (by omega)]
      intro z
      have := (lN_eq (b := 0) (by omega) (by decide)).mp z
      omega
    · rw [x0, nI_l (by omega), lm_q (x := x) (D := 8) (E := lN (F.1 0)) (d := 8) (e := F.1 0) rfl rfl (by omega) (by decide) hw (by decide) (by omega), lm_q (x := x) (D := 64) (E := 6) (d := 64) (e := 6) rfl rfl (by omega) (by decide) (by decide) (by decide) (by decide)]
      exact e_doMove isD25 hR hb hN (by omega) (by omega) h
  unfold p_X5_doByLot
  refine ⟨fun c => ⟨25, rfl, rfl, br_le (a := 8) rfl x2 (by decide) (by omega) (fun z => mv (fun w => by omega)) (fun z => ⟨25, rfl, rfl, ?_⟩)⟩, fun c => mv (fun w => c ((lm_0 (by omega)).mpr w.1))⟩
  unfold deL at h
  rw [if_pos ⟨(lm_0 (by omega)).mp c, z⟩] at h
  rw [lm_q (x := x) (D := 8) (E := 21) (d := 8) (e := 21) rfl rfl (by omega) (by decide) (by decide) (by decide) (by decide)]
  exact e_doFlood isD25 hR hb hN z h
theorem st_lots (hI : Inv X M) (n seed : Int32) : p_X5_lots 0 n seed X (fun u X' => p_X6_lots 0 n seed M (fun u' M' => Z X' M' u u')) := by
  obtain ⟨F, q, N, hC⟩ := hI.2.2.2.2.2
  obtain ⟨hv, hm, hb, h3, h36⟩ := IC_now hC
  have b0 := hb.1
  have hN40 := hC.2.2.1
  have x0 := hv.1 0 (by decide)
  have m0 := hm.1
  have z0 : (0 : Int32).toInt = 0 := rfl
  have z1 : (1 : Int32).toInt = 1 := rfl
  have z20 : (20 : Int32).toInt = 20 := rfl
  have zA : (2147483647 : Int32).toInt = 2147483647 := rfl
  have zB : (2147483646 : Int32).toInt = 2147483646 := rfl
  have bad1 : n < 1 ∨ 20 < n → p_X6_lots 0 n seed M (fun u' M' => Z X M' (-1) u') := fun c => by
    unfold p_X6_lots p_X6_in
    rcases c with c | c
    · exact br_t c (br_t rfl ⟨rfl, hI⟩)
    · exact br_f (by rw [Int32.lt_iff_toInt_lt] at c ⊢; omega) (br_t c (br_t rfl ⟨rfl, hI⟩))
  unfold p_X5_lots
  by_cases c1 : n < 1
  · exact br_t c1 (bad1 (Or.inl c1))
  by_cases c2 : 20 < n
  · exact br_f c1 (br_t c2 (bad1 (Or.inr c2)))
  refine br_f c1 (br_f c2 ?_)
  have bad2 : seed < 1 ∨ 2147483646 < seed → p_X6_lots 0 n seed M (fun u' M' => Z X M' (-1) u') := fun c => by
    unfold p_X6_lots p_X6_in
    rcases c with c | c
    · exact br_f c1 (br_f c2 (br_f (by decide) (br_t c (br_t rfl ⟨rfl, hI⟩))))
    · exact br_f c1 (br_f c2 (br_f (by decide) (br_f (by rw [Int32.lt_iff_toInt_lt] at c ⊢; omega) (br_t c (br_t rfl ⟨rfl, hI⟩)))))
  by_cases c3 : seed < 1
  · exact br_t c3 (bad2 (Or.inl c3))
  refine br_f c3 ?_
  by_cases c4 : seed < 2147483647
  rotate_left
  · refine br_f c4 (bad2 (Or.inr ?_))
    rw [Int32.lt_iff_toInt_lt] at c4 ⊢
    omega
  have c5 : ¬ 2147483646 < seed := by
    rw [Int32.lt_iff_toInt_lt] at c4 ⊢
    omega
  have mm : ∀ {R : Int32 → Sg → Prop}, (((gI M 0 20) = 0 → R ((-4)) M) ∧ (¬ (gI M 0 20) = 0 → ((((gI M 0 36) + n) ≤ 40 → (∃ n9, p_X6_lots_L53 R n9 0 n seed.toInt64 0 M)) ∧ (¬ ((gI M 0 36) + n) ≤ 40 → R ((-2)) M)))) → p_X6_lots 0 n seed M R := fun h => by
    unfold p_X6_lots p_X6_in
    exact br_f c1 (br_f c2 (br_f (by decide) (br_f c3 (br_f c5 (br_f (by decide) h)))))
  obtain ⟨k, hk, rfl⟩ := nI_of2 (x := n) (M := 20) (n := 20) rfl (by rw [Int32.lt_iff_toInt_lt] at c1 ⊢; omega) (by rw [Int32.lt_iff_toInt_lt] at c2; rw [Int32.le_iff_toInt_le]; omega)
  obtain ⟨sd, hsd, rfl⟩ := nI_of (x := seed) (by rw [Int32.lt_iff_toInt_lt] at c3 ⊢; omega)
  have hsd2 : sd < 2147483647 := by rw [Int32.lt_iff_toInt_lt, nI_toInt hsd] at c4; omega
  refine br_t c4 ⟨25, rfl, rfl, br_lt (a := 0) rfl x0 (by decide) (by omega) (fun w => ⟨25, rfl, rfl, ?_⟩) (fun w => mm (br_t (by rw [m0, show (rp F q N).1 0 = 0 by omega]; rfl) ⟨rfl, hI⟩))⟩
  have n0 : ¬ gI M 0 20 = 0 := by rw [m0]; intro z; have := nI_inj (b := 0) (by omega) (by decide) z; omega
  have hw : 0 < F.1 0 := by rw [← rp_w F q N]; exact w
  rw [h36, nI_add, nI_l hsd] at mm
  rw [h3, nI_add, nI_l hsd]
  refine br_le (b := 40) rfl rfl (by omega) (by decide) (fun v => ⟨k + 1, ?_⟩) (fun v => mm (br_f n0 (br_f (nI_ge (b := N + k) (a := 40) v (by omega)) ⟨rfl, hI⟩)))
  have hQ := fun j => lotQ_ok (seed := sd) hw hC.2.2.2.1 j
  have hB := fun j => BV_rp hC.1 (hQ j)
  have hL := fun j => lotQ_lt (F := F) (q := q) (N := N) hsd2 j
  have keyX : ∀ {R : Int32 → Sg → Prop}, (∀ X', RD X' 25 F (lotQ F q N sd k).2 (N + k) → outD 25 X X' → R (nI ((rp F (lotQ F q N sd k).2 (N + k)).1 2)) X') → ∀ r j s, j + r = k → RD s 25 F (lotQ F q N sd j).2 (N + j) → outD 25 X s → p_X5_lots_L61 R (r + 1) 0 (nI k) (lN (lotQ F q N sd j).1) (nI j) s := by
    intro R hR r
    induction r with
    | zero =>
      intro j s hj hr ho
      have e : j = k := by omega
      subst e
      unfold p_X5_lots_L61
      refine br_t (nI_le (Nat.le_refl _) (by omega)) ⟨25, rfl, rfl, ?_⟩
      rw [hr.1.1 2 (by decide)]
      exact hR s hr ho
    | succ r ih =>
      intro j s hj hr ho
      unfold p_X5_lots_L61
      rw [(lm_n (hL j)).1, nI_1]
      refine br_f (nI_ge (by omega) (by omega)) (x_byLot hr (hB j) hw (by omega) (hL (j + 1)) (fun s' hr' ho' => ?_))
      exact ih (j + 1) s' (by omega) hr' (outD_tr ho ho')
  have keyM : ∀ {R : Int32 → Sg → Prop}, (∀ M', MD M' F (lotQ F q N sd k).2 (N + k) → mDf M M' → R (nI ((rp F (lotQ F q N sd k).2 (N + k)).1 2)) M') → ∀ r j s, j + r = k → MD s F (lotQ F q N sd j).2 (N + j) → mDf M s → p_X6_lots_L53 R (r + 1) 0 (nI k) (lN (lotQ F q N sd j).1) (nI j) s := by
    intro R hR r
    induction r with
    | zero =>
      intro j s hj hr ho
      have e : j = k := by omega
      subst e
      unfold p_X6_lots_L53
      refine br_t (nI_le (Nat.le_refl _) (by omega)) ?_
      rw [hr.1.2.2.1]
      exact hR s hr ho
    | succ r ih =>
      intro j s hj hr ho
      have hb' := hB j
      have b0' := hb'.1
      have b2' := hb'.2.2.1
      have ew : (rp F (lotQ F q N sd j).2 (N + j)).1 0 = F.1 0 := rp_w _ _ _
      have s0 : gI s 0 20 = nI (F.1 0) := by rw [← ew]; exact hr.1.1
      have s2 := hr.1.2.2.1
      have hx := hL (j + 1)
      have hok := hQ (j + 1) (N + j) (by omega)
      have hde : lotQ F q N sd (j + 1) = (nxL (lotQ F q N sd j).1, qup (lotQ F q N sd j).2 (N + j) (deL (nxL (lotQ F q N sd j).1) ((rp F (lotQ F q N sd j).2 (N + j)).1 2) (F.1 0))) := rfl
      have hq2 : okD (deL (nxL (lotQ F q N sd j).1) ((rp F (lotQ F q N sd j).2 (N + j)).1 2) (F.1 0)) (rp F (lotQ F q N sd j).2 (N + j)).1 (rp F (lotQ F q N sd j).2 (N + j)).2 := by
        have := hok
        rw [hde] at this
        simp only [] at this
        rw [qup_s, rp_qup _ _ (Nat.le_refl _)] at this
        exact this
      rw [hde] at hx
      have next : ∀ s', MD s' F (qup (lotQ F q N sd j).2 (N + j) (deL (nxL (lotQ F q N sd j).1) ((rp F (lotQ F q N sd j).2 (N + j)).1 2) (F.1 0))) (N + j + 1) → mDf s s' → p_X6_lots_L53 R (r + 1) 0 (nI k) (lN (nxL (lotQ F q N sd j).1)) (nI (j + 1)) s' := fun s' h1 h2 => ih (j + 1) s' (by omega) h1 (mDf_tr ho h2)
      unfold p_X6_lots_L53
      rw [(lm_n (hL j)).2]
      generalize nxL (lotQ F q N sd j).1 = x at hx hq2 next ⊢
      have hx : x < 2147483647 := hx
      have mv : ¬ (x % 4 = 0 ∧ (rp F (lotQ F q N sd j).2 (N + j)).1 2 < 8) → p_X6_lots_b107 R (fun y0 y1 y3 y5 u => p_X6_lots_L53 R (r + 1) y0 y1 y3 y5 u) 0 (nI k) (lN x) (nI j) s := fun hn => by
        unfold deL at hq2 next
        rw [if_neg hn] at hq2 next
        unfold p_X6_lots_b107 p_X6_lots_b134
        rw [s0, nI_l (by omega), lm_q (x := x) (D := 8) (E := lN (F.1 0)) (d := 8) (e := F.1 0) rfl rfl (by omega) (by decide) hw (by decide) (by omega), lm_q (x := x) (D := 64) (E := 6) (d := 64) (e := 6) rfl rfl (by omega) (by decide) (by decide) (by decide) (by decide), nI_1]
        refine ⟨fun z => ?_, ?_⟩
        · have := (lN_eq (b := 0) (by omega) (by decide)).mp z
          omega
        · exact m_does (x := (1, x / 8 % F.1 0, x / 64 % 6)) rfl rfl rfl (by omega) hb' hr hq2 next
      refine br_f (nI_ge (by omega) (by omega)) ⟨fun c => ?_, fun c => mv (fun z => c ((lm_0 (by omega)).mpr z.1))⟩
      refine br_le (a := 8) rfl s2 (by decide) (by omega) (fun z => mv (fun y => by omega)) (fun z => ?_)
      unfold deL at hq2 next
      rw [if_pos ⟨(lm_0 (by omega)).mp c, z⟩] at hq2 next
      unfold p_X6_lots_b134
      rw [lm_q (x := x) (D := 8) (E := 21) (d := 8) (e := 21) rfl rfl (by omega) (by decide) (by decide) (by decide) (by decide), nI_1]
      exact m_does (x := (0, x / 8 % 21, 0)) rfl rfl rfl (by omega) hb' hr hq2 next
  refine keyX (fun X' hR' ho => mm (br_f n0 (br_t (nI_le v (by decide)) ⟨k + 1, keyM (fun M' hM' bM => ⟨rfl, Inv_new hI hC (by omega) (hQ k) hR' hM' ho bM⟩) k 0 M (by omega) hC.2.2.2.2.2.1 (mDf_rf M)⟩))) k 0 X (by omega) hC.2.2.2.2.1 (outD_rf 25 X)
end LTS
