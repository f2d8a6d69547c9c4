/-! fault; the kept ones' numbers; a Delta emptied -/
theorem Inv_rd {X M X' M' : Sg} (hI : Inv X M) (a : rX X X') (b : rM M M') : Inv X' M' := by
  obtain ⟨h1, h2, h3, h4, h5, h6⟩ := hI
  obtain ⟨a1, a2, a3⟩ := a
  obtain ⟨b1, b2, b3⟩ := b
  have sx : sS X X' := fun k _ _ => a1 k (by omega)
  have sm : tS M M' := fun k _ _ => b1 k (by omega)
  have tm : tT M M' := ⟨b2 0 (by decide) (by decide) (by decide) (by decide) (by decide), b3 0 1, b3 0 2⟩
  have fm : tF M M' := ⟨b2 3 (by decide) (by decide) (by decide) (by decide) (by decide), b1 1 (by omega)⟩
  have dm : tD M M' := ⟨fun k _ _ => b1 k (by omega), b2 20 (by decide) (by decide) (by decide) (by decide) (by decide), b2 26 (by decide) (by decide) (by decide) (by decide) (by decide), b2 30 (by decide) (by decide) (by decide) (by decide) (by decide), b2 31 (by decide) (by decide) (by decide) (by decide) (by decide), b2 36 (by decide) (by decide) (by decide) (by decide) (by decide)⟩
  exact ⟨IF_s h1 ⟨a2 0 8 (by decide) (by decide), a1 24 (by omega)⟩ fm, IT_s h2 ⟨a2 0 9 (by decide) (by decide), a3 0 10, a3 0 11⟩ tm, IS1_s h3 sx sm, IS2_s h4 sx sm, IB_s h5 sx, ID_s h6 ⟨fun k hk => a1 k (by omega), fun k j hk => a2 k j (by omega) (by omega)⟩ dm⟩
theorem e_keptAt {x : Int32} {k : Nat} {s : Sg} {Q : Option Nat → Sg → Prop} (hx : x = nI k) (hk : k < 3) (h : Q (some (49 + 12 * k)) s) : p_X5_keptAt 0 x s Q := by
  subst hx
  unfold p_X5_keptAt
  refine br_f (nI_pos (by omega)) ⟨18, rfl, Or.inr (Or.inl rfl), br_f (nI_ge (b := 3) hk (by decide)) ⟨18, rfl, Or.inl rfl, vp_in_nI hk (by decide), ?_⟩⟩
  rw [nI_clamp (by omega)]
  have e : tX 18 k = some (49 + 12 * k) := by
    rcases (show k = 0 ∨ k = 1 ∨ k = 2 by omega) with rfl | rfl | rfl <;> rfl
  rw [e]
  exact h
theorem e_keptNo {x : Int32} {s : Sg} {Q : Option Nat → Sg → Prop} (hx : ¬ ok x 3) (h : Q none s) : p_X5_keptAt 0 x s Q := by
  unfold p_X5_keptAt
  by_cases c : x < 0
  · exact br_t c h
  · exact br_f c ⟨18, rfl, Or.inr (Or.inl rfl), br_t (nok hx c) h⟩
theorem isDk {k : Nat} (hk : k < 3) : isD (49 + 12 * k) := by
  rcases (show k = 0 ∨ k = 1 ∨ k = 2 by omega) with rfl | rfl | rfl
  · exact Or.inr (Or.inr (Or.inl rfl))
  · exact Or.inr (Or.inr (Or.inr (Or.inl rfl)))
  · exact Or.inr (Or.inr (Or.inr (Or.inr rfl)))
theorem isD25 : isD 25 := Or.inl rfl
theorem e_clear {d : Nat} (hd : isD d) {s : Sg} {Q : Sg → Prop} (h : ∀ s', outD d s s' → gI s' d 0 = 0 → Q s') : p_X0_clear d s Q := by
  unfold p_X0_clear
  have hl : bX.2.2.1 (d + 1) = 6 := D_l hd 0 (by decide)
  refine e_fill (k := d + 1) (D_t hd 0 (by decide)) (D_ka hd 0 (by decide)) (by rw [hl]; decide) (h _ ?_ ?_)
  · exact outD_tr (outD_tr (outD_tr (outD_tr (outD_I _ 0 _) (outD_I _ 1 _)) (outD_I _ 2 _)) (outD_I _ 3 _)) (outD_R _ 0 (by decide) _)
  · rw [gI_R, gI_ne _ _ (by omega), gI_ne _ _ (by omega), gI_ne _ _ (by omega), gI_same]
/-- all that is kept is given up -/
def noKept (s s' : Sg) (i : Nat) : Prop := (∀ k, k < 49 → gR s' k = gR s k) ∧ (∀ k j, k < 49 → gI s' k j = gI s k j) ∧ (∀ k j, gJ s' k j = gJ s k j) ∧ ∀ c, c < i → gI s' (49 + 12 * c) 0 = 0
theorem e_keptClear {s0 : Sg} {Q : Int32 → Sg → Prop} (h : ∀ s', noKept s0 s' 3 → Q (gI s' 25 0) s') : ∀ r i s, i + r = 3 → noKept s0 s i → p_X5_delta_L45 Q (r + 1) 0 (nI i) s := by
  intro r
  induction r with
  | zero =>
    intro i s hi hn
    rw [show i = 3 by omega] at hn ⊢
    unfold p_X5_delta_L45
    exact ⟨18, rfl, Or.inr (Or.inl rfl), br_t (by decide) ⟨25, rfl, rfl, h s hn⟩⟩
  | succ r ih =>
    intro i s hi hn
    unfold p_X5_delta_L45
    refine ⟨18, rfl, Or.inr (Or.inl rfl), br_f (nI_ge (b := 3) (by omega) (by decide)) (e_keptAt rfl (by omega) (br_f (by intro q; cases q) ⟨49 + 12 * i, rfl, D_k (isDk (by omega)), e_clear (isDk (by omega)) (fun s' ho h0 => ?_)⟩))⟩
    unfold p_X5_delta_b71
    rw [nI_1]
    refine ih (i + 1) s' (by omega) ⟨fun k hk => (ho.1 k (by omega)).trans (hn.1 k hk), fun k j hk => (ho.2.1 k j (by omega)).trans (hn.2.1 k j hk), fun k j => (ho.2.2.1 k j).trans (hn.2.2.1 k j), fun c hc => ?_⟩
    by_cases e : c = i
    · subst e; exact h0
    · rw [ho.2.1 _ _ (by omega)]
      exact hn.2.2.2 c (by omega)
section FLT
variable {X M : Sg}
theorem e_faultOf (hI : Inv X M) {k n : Nat} (hk : k < 4) (hn : n ≤ 60) (hz : gR X (10 + 1) k = nI n) {x : Int32} (hx : x = nI k) {Q : Int32 → Sg → Prop}
    (hS : ∀ P, (rd (gR X (13 + k)) n).1 = some P → ∀ s', rX X s' → Q (nI P) s') (hN : (rd (gR X (13 + k)) n).1 = none → ∀ s', rX X s' → DS s' ((rd (gR X (13 + k)) n).2.1 0) ((rd (gR X (13 + k)) n).2.1 1) (rd (gR X (13 + k)) n).2.2 → Q (-9) s') : p_X5_faultOf 0 x X Q := by
  unfold p_X5_faultOf
  refine ⟨10, rfl, rfl, s_cellsOf R2 hx hk ⟨10, rfl, rfl, s_sizeOf R2 hx hk ⟨17, rfl, rfl, ?_⟩⟩⟩
  exact e_read (A := 13 + k) (T := gR X (13 + k)) (n := n) (by omega) (fun i hi => hI.2.2.2.2.1 k i hk hi) hn rfl hz rfl hS hN
theorem m_readOf (hI : Inv X M) {k n : Nat} (hk : k < 4) (hn : n ≤ 60) (hz : gR X (10 + 1) k = nI n) {x : Int32} (hx : x = nI k) {Q : Sg → Prop}
    (hF : ∀ P, (rd (gR X (13 + k)) n).1 = some P → P < 1000 → ∀ s', rM M s' → gI s' 0 19 = nI P → Q s') (hN : (rd (gR X (13 + k)) n).1 = none → ∀ s', rM M s' → gI s' 0 19 = -9 → DM s' ((rd (gR X (13 + k)) n).2.1 0) ((rd (gR X (13 + k)) n).2.1 1) (rd (gR X (13 + k)) n).2.2 → Q s') : p_X6_read 0 x M Q := by
  obtain ⟨s1, s2, s3⟩ := hI.2.2.2.1 k hk
  exact m_read hk (fun i hi => hI.2.2.2.2.1 k i hk hi) hn hx (s2.trans hz) (fun i hi => (s3 i hi).trans (by rw [show 10 + 3 + k = 13 + k by omega])) hF hN
theorem st_fault (hI : Inv X M) (t : Int32) : p_X5_fault 0 t X (fun u X' => p_X6_fault 0 t M (fun u' M' => Z X' M' u u')) := by
  unfold p_X5_fault p_X6_fault
  by_cases hr : ok t 4
  · obtain ⟨k, hk, rfl⟩ := hr
    have hr : ok (nI k) 4 := ⟨k, hk, rfl⟩
    obtain ⟨s1, s2, s3⟩ := hI.2.2.2.1 k hk
    have hin : vp_in (nI k) (lM 5) := m_in (N := 4) rfl rfl hk (by decide)
    have hcl : (nI k).toNatClampNeg = k := m_cl (by omega)
    rcases neg_of s1 (by decide) with ⟨e1, e2, e3⟩ | ⟨n, hn, e1, e2, e3, e4⟩
    · refine x_no R2 rfl rfl hk e1 (br_f (by decide) (m_isText (fun _ => br_f (by decide) ⟨5, rfl, rfl, hin, ?_⟩) (fun z => absurd hr z)))
      rw [hcl, s2]
      exact br_f e2 (m_refuse (f := 1) rfl (by decide) ⟨rfl, Inv_found hI (by decide)⟩)
    · refine x_yes R2 rfl rfl hk hn e1 (br_t rfl (e_faultOf hI hk hn e1 rfl (fun P eP X' rX' => ?_) (fun eN X' rX' _ => ?_)))
      · refine m_isText (fun _ => br_f (by decide) ⟨5, rfl, rfl, hin, ?_⟩) (fun z => absurd hr z)
        rw [hcl, s2]
        refine br_t e2 (m_readOf hI hk hn e1 rfl (fun P' eP' _ M' rM' f' => ?_) (fun eN _ _ _ _ => absurd (eP.symm.trans eN) (fun q => by cases q)))
        have : P = P' := Option.some.inj (eP.symm.trans eP')
        exact ⟨by rw [f', this], Inv_rd hI rX' rM'⟩
      · refine m_isText (fun _ => br_f (by decide) ⟨5, rfl, rfl, hin, ?_⟩) (fun z => absurd hr z)
        rw [hcl, s2]
        refine br_t e2 (m_readOf hI hk hn e1 rfl (fun P' eP' _ M' rM' f' => absurd (eN.symm.trans eP') (fun q => by cases q)) (fun _ M' rM' f' _ => ?_))
        exact ⟨f'.symm, Inv_rd hI rX' rM'⟩
  · exact x_bad R2 rfl hr (br_f (by decide) (m_isText (fun z => absurd z hr) (fun _ => br_t rfl ⟨rfl, hI⟩)))
end FLT
