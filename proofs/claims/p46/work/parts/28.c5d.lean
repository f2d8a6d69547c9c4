def p_X5_greatestDivisor_b21 (Q : Int32 → Sg → Prop) (K2 : Int32 → Int32 → Int32 → Sg → Prop) (x0 : Int32) (x1 : Int32) (x2 : Int32) (s : Sg) : Prop := K2 x0 x1 (x2 + (-1)) s
def p_X5_greatestDivisor_L2 (Q : Int32 → Sg → Prop)  : Nat → Int32 → Int32 → Int32 → Sg → Prop
  | 0, _, _, _, _ => False
  | n + 1, x0, x1, x2, s => ((x2 ≤ 1 → Q 1 s) ∧ (¬ x2 ≤ 1 → ¬ x2 = 0 ∧ (((x0 - x0 / x2 * x2) = 0 → ¬ x2 = 0 ∧ (((x1 - x1 / x2 * x2) = 0 → Q x2 s) ∧ (¬ (x1 - x1 / x2 * x2) = 0 → p_X5_greatestDivisor_b21 Q (fun y0 y1 y2 u => p_X5_greatestDivisor_L2 Q  n y0 y1 y2 u) x0 x1 x2 s))) ∧ (¬ (x0 - x0 / x2 * x2) = 0 → p_X5_greatestDivisor_b21 Q (fun y0 y1 y2 u => p_X5_greatestDivisor_L2 Q  n y0 y1 y2 u) x0 x1 x2 s))))
def p_X5_greatestDivisor (x0 : Int32) (x1 : Int32) (s : Sg) (Q : Int32 → Sg → Prop) : Prop := (∃ n1, p_X5_greatestDivisor_L2 Q  n1 x0 x1 x1 s)
set_option maxHeartbeats 4000000 in
set_option maxRecDepth 100000 in
theorem c_X5_greatestDivisor (l : Launch) (D : va_G) (cs : Cs) (ad : Nat → Nat) (x0 : Int32) (x1 : Int32) (s0 : Sg) (Q : Int32 → Sg → Prop) : Met l yX5_greatestDivisor wsX5_greatestDivisor { frames := 0, cells := 0, slots := 0, locals := 0 } (Pc0 bX D cs ad [.int x0, .int x1] s0 (p_X5_greatestDivisor x0 x1 s0 Q)) (QI bX D cs ad Q) 0 0 (fAd bX ad) := by
  refine Met.ofW (cc := cX5_greatestDivisor) (maxL := 3) (ret := (some .int)) (by decide) rfl ?_
  intro p e s m args below meth c s₁ B0 hml hv
  obtain ⟨ha, hP, hE, h⟩ := hv
  have hx := B0.exec
  have hb := B0.bytes
  have hr := B0.returns
  have hts := atoms_spec (ws := wsX5_greatestDivisor) B0.pre
  have hown : s.vm.findClass RX5 = some m.cls := findClass_of_methodNamed B0.named
  have hlocks := B0.notSynchronized
  have hS : va_S (fAd bX ad) s.heap s.heap [] := va_S.rf
  have hl := lv_entry ([.int x0, .int x1]) (n := 3) (by first | exact Nat.le_of_ble_eq_true rfl | simp [lg_sl, re_cat, cat_i, cat_l, cat_r])
  rw [show entryFrame m args 3 = entryFrame m ([.int x0, .int x1] : List Value).toArray 3 by rw [ha], lg_entry_eq]
  generalize (lg_sl ([.int x0, .int x1]) ++ List.replicate (3 - (lg_sl ([.int x0, .int x1])).length) Slot.unset).toArray = ls at hl ⊢
  have hl : lv_has ls 3 [(0, .int x0), (1, .int x1)] := by first | exact hl | simpa [lv_args, re_cat, cat_i, cat_l, cat_r] using hl
  have hB2 : ∀ (n2 : Nat) (x0 : Int32) (x1 : Int32) (x2 : Int32) (σ : Sg) (H : Heap) (locs : List Loc) (ls : Array Slot), p_X5_greatestDivisor_L2 Q  n2 x0 x1 x2 σ → va_P D vwCl (wl bX cs ad σ) H → va_S (fAd bX ad) s.heap H locs → lv_has ls 3 [(0, .int x0), (1, .int x1), (2, .int x2)] → W p l e { frames := 0, cells := 0, slots := 0, locals := 0 } s m args below meth c H locs 0 0 (MQ below (QI bX D cs ad Q) args s 0 0 (fAd bX ad)) (F0 m 2 ls []) := by
    intro n2
    induction n2 with
    | zero =>
      intro x0 x1 x2 σ H locs ls h
      exact h.elim
    | succ n2 ih =>
      have hK2 := ih
      have hB21 : ∀ (x0 : Int32) (x1 : Int32) (x2 : Int32) (σ : Sg) (H : Heap) (locs : List Loc) (ls : Array Slot), p_X5_greatestDivisor_b21 Q (fun y0 y1 y2 u => p_X5_greatestDivisor_L2 Q  n2 y0 y1 y2 u) x0 x1 x2 σ → va_P D vwCl (wl bX cs ad σ) H → va_S (fAd bX ad) s.heap H locs → lv_has ls 3 [(0, .int x0), (1, .int x1), (2, .int x2)] → W p l e { frames := 0, cells := 0, slots := 0, locals := 0 } s m args below meth c H locs 0 0 (MQ below (QI bX D cs ad Q) args s 0 0 (fAd bX ad)) (F0 m 21 ls []) := by
        intro x0 x1 x2 σ H locs ls h hP hS hl
        unfold p_X5_greatestDivisor_b21 at h
        refine lv_iinc (v := x2 + (-1)) (lv' := [(2, .int (x2 + (-1))), (0, .int x0), (1, .int x1)]) hx hb dX5_greatestDivisor_21 hl (k := 2) rfl rfl (by decide) (by first | rfl | simp [re_cat, cat_i, cat_l, cat_r]) (fun ls hl => ?_)
        refine lv_goto (tgt := 2) hx hb dX5_greatestDivisor_24 (by decide) ?_
        exact hK2 x0 x1 (x2 + (-1)) σ H locs ls h hP hS (lv_sub hl [1, 2, 0] rfl)
      intro x0 x1 x2 σ H locs ls h hP hS hl
      rw [p_X5_greatestDivisor_L2] at h
      refine lv_iload_n hx hb dX5_greatestDivisor_2 rfl (lv_at hl 2 rfl) ?_
      refine lv_iconst (v := 1) hx hb dX5_greatestDivisor_3 (by decide) ?_
      refine lv_icmp_le (tgt := 27) hx hb dX5_greatestDivisor_4 (by decide) (fun c1 => ?_) (fun c1 => ?_)
      · replace h := h.1 c1
        refine lv_iconst (v := 1) hx hb dX5_greatestDivisor_27 (by decide) ?_
        exact W.iret hx hb hr (fun t ht hW => ⟨⟨_, _, rfl, h, pw ht hP⟩, hS.F ht⟩) hS.2.2 dX5_greatestDivisor_28
      · replace h := h.2 c1
        refine lv_iload_n hx hb dX5_greatestDivisor_7 rfl (lv_at hl 0 rfl) ?_
        refine lv_iload_n hx hb dX5_greatestDivisor_8 rfl (lv_at hl 2 rfl) ?_
        obtain ⟨z2, h⟩ := h
        refine lv_irem hx hb dX5_greatestDivisor_9 z2 ?_
        refine lv_if_ne (tgt := 21) hx hb dX5_greatestDivisor_10 (by decide) (fun c3 => ?_) (fun c3 => ?_)
        · replace h := h.2 c3
          exact hB21 x0 x1 x2 σ H locs ls h hP hS (lv_sub hl [0, 1, 2] rfl)
        · replace h := h.1 c3
          refine lv_iload_n hx hb dX5_greatestDivisor_13 rfl (lv_at hl 1 rfl) ?_
          refine lv_iload_n hx hb dX5_greatestDivisor_14 rfl (lv_at hl 2 rfl) ?_
          obtain ⟨z4, h⟩ := h
          refine lv_irem hx hb dX5_greatestDivisor_15 z4 ?_
          refine lv_if_ne (tgt := 21) hx hb dX5_greatestDivisor_16 (by decide) (fun c5 => ?_) (fun c5 => ?_)
          · replace h := h.2 c5
            exact hB21 x0 x1 x2 σ H locs ls h hP hS (lv_sub hl [0, 1, 2] rfl)
          · replace h := h.1 c5
            refine lv_iload_n hx hb dX5_greatestDivisor_19 rfl (lv_at hl 2 rfl) ?_
            exact W.iret hx hb hr (fun t ht hW => ⟨⟨_, _, rfl, h, pw ht hP⟩, hS.F ht⟩) hS.2.2 dX5_greatestDivisor_20
  unfold p_X5_greatestDivisor at h
  refine lv_iload_n hx hb dX5_greatestDivisor_0 rfl (lv_at hl 1 rfl) ?_
  refine lv_istore_n (i := 2) (lv' := [(2, .int x1), (0, .int x0), (1, .int x1)]) hx hb dX5_greatestDivisor_1 rfl hl (by decide) (by first | rfl | simp [re_cat, cat_i, cat_l, cat_r]) (fun ls hl => ?_)
  obtain ⟨n1, h⟩ := h
  exact hB2 n1 x0 x1 x1 s0 _ _ ls h hP hS (lv_sub hl [1, 2, 0] rfl)
def p_X5_tellParts (x0 : Nat) (x1 : Int32) (x2 : Int32) (s : Sg) (Q : Sg → Prop) : Prop := p_X5_greatestDivisor x1 x2 s (fun r2 s1 => ((r2 ≤ 0 → Q s1) ∧ (¬ r2 ≤ 0 → ¬ r2 = 0 ∧ ¬ r2 = 0 ∧ Q (setJ (setJ s1 x0 10 ((x1 / r2).toInt64)) x0 11 ((x2 / r2).toInt64)))))
set_option maxHeartbeats 4000000 in
set_option maxRecDepth 100000 in
theorem c_X5_tellParts (l : Launch) (D : va_G) (cs : Cs) (ad : Nat → Nat) (x0 : Nat) (x1 : Int32) (x2 : Int32) (s0 : Sg) (Q : Sg → Prop) (hk0 : kX x0 = 4) : Met l yX5_tellParts wsX5_tellParts { frames := 1, cells := 0, slots := 0, locals := 22 } (Pc0 bX D cs ad [.ref (ad x0), .int x1, .int x2] s0 (p_X5_tellParts x0 x1 x2 s0 Q)) (QV bX D cs ad Q) 0 0 (fAd bX ad) := by
  refine Met.ofW (cc := cX5_tellParts) (maxL := 4) (ret := none) (by decide) rfl ?_
  intro p e s m args below meth c s₁ B0 hml hv
  obtain ⟨ha, hP, hE, h⟩ := hv
  have hx := B0.exec
  have hb := B0.bytes
  have hr := B0.returns
  have hts := atoms_spec (ws := wsX5_tellParts) B0.pre
  have hown : s.vm.findClass RX5 = some m.cls := findClass_of_methodNamed B0.named
  have hlocks := B0.notSynchronized
  have hi_X5 : ∀ w ∈ u_ws RX5 TX5 12, w ∈ wsX5_tellParts := by decide +kernel
  have hS : va_S (fAd bX ad) s.heap s.heap [] := va_S.rf
  have hl := lv_entry ([.ref (ad x0), .int x1, .int x2]) (n := 4) (by first | exact Nat.le_of_ble_eq_true rfl | simp [lg_sl, re_cat, cat_i, cat_l, cat_r])
  rw [show entryFrame m args 4 = entryFrame m ([.ref (ad x0), .int x1, .int x2] : List Value).toArray 4 by rw [ha], lg_entry_eq]
  generalize (lg_sl ([.ref (ad x0), .int x1, .int x2]) ++ List.replicate (4 - (lg_sl ([.ref (ad x0), .int x1, .int x2])).length) Slot.unset).toArray = ls at hl ⊢
  have hl : lv_has ls 4 [(0, .ref (ad x0)), (1, .int x1), (2, .int x2)] := by first | exact hl | simpa [lv_args, re_cat, cat_i, cat_l, cat_r] using hl
  unfold p_X5_tellParts at h
  refine lv_iload_n hx hb dX5_tellParts_0 rfl (lv_at hl 1 rfl) ?_
  refine lv_iload_n hx hb dX5_tellParts_1 rfl (lv_at hl 2 rfl) ?_
  refine f_i (kS (As := [.int x1, .int x2]) (rest := []) ⟨hx, hb, hml, hown, hts⟩ (c_X5_greatestDivisor l D cs ad x1 x2 s0 _) (va_cwS 2 hts gX5_tellParts_X5_greatestDivisor rfl rfl rfl (by decide +kernel) ⟨Nat.le_of_ble_eq_true rfl, Nat.le_of_ble_eq_true rfl⟩) hE hP h rfl hl.1 rfl (by first | exact lv_room (Nat.le_of_ble_eq_true rfl) | (refine lv_room ?_; simp [re_cat, cat_i, cat_l, cat_r])) dX5_tellParts_2 ⟨Nat.le_refl _, Nat.le_refl _⟩) hS (fun r2 s1 H locs h hP hS => ?_)
  refine lv_istore_n (i := 3) (lv' := [(3, .int r2), (0, .ref (ad x0)), (1, .int x1), (2, .int x2)]) hx hb dX5_tellParts_5 rfl hl (by decide) (by first | rfl | simp [re_cat, cat_i, cat_l, cat_r]) (fun ls hl => ?_)
  refine lv_iload_n hx hb dX5_tellParts_6 rfl (lv_at hl 0 rfl) ?_
  refine lv_if_le (tgt := 26) hx hb dX5_tellParts_7 (by decide) (fun c3 => ?_) (fun c3 => ?_)
  · replace h := h.1 c3
    exact W.vret hx hb hr (fun t ht hW => ⟨⟨_, rfl, h, pw ht hP⟩, hS.F ht⟩) hS.2.2 dX5_tellParts_26
  · replace h := h.2 c3
    refine lv_aload_n hx hb dX5_tellParts_10 rfl (lv_at hl 1 rfl) ?_
    refine lv_iload_n hx hb dX5_tellParts_11 rfl (lv_at hl 2 rfl) ?_
    refine lv_iload_n hx hb dX5_tellParts_12 rfl (lv_at hl 0 rfl) ?_
    obtain ⟨z4, h⟩ := h
    refine lv_idiv hx hb dX5_tellParts_13 z4 ?_
    refine lv_i2l hx hb dX5_tellParts_14 rfl ?_
    refine r_put (σ' := (setJ s1 x0 10 ((x1 / r2).toInt64))) (ci := 4) (v := .long ((x1 / r2).toInt64)) (ty := .long) (C := RX5) (T := TX5) (N := 12) hx hb hts hi_X5 tyX5 tyX5_ok nmX5 hown hE hP hS x0 (w_4 hE hk0) rfl 10 (by decide) (hts (.fieldLink RX5 292 "HemLine" "upperTold" "J") (by decide +kernel)) (fun _ h9 => h9) rfl (by decide +kernel) rfl rfl (Nat.le_of_ble_eq_true rfl) dX5_tellParts_15 (st_4_10 hE hk0 _) (fun H locs hP hS => ?_)
    refine lv_aload_n hx hb dX5_tellParts_18 rfl (lv_at hl 1 rfl) ?_
    refine lv_iload_n hx hb dX5_tellParts_19 rfl (lv_at hl 3 rfl) ?_
    refine lv_iload_n hx hb dX5_tellParts_20 rfl (lv_at hl 0 rfl) ?_
    obtain ⟨z5, h⟩ := h
    refine lv_idiv hx hb dX5_tellParts_21 z5 ?_
    refine lv_i2l hx hb dX5_tellParts_22 rfl ?_
    refine r_put (σ' := (setJ (setJ s1 x0 10 ((x1 / r2).toInt64)) x0 11 ((x2 / r2).toInt64))) (ci := 4) (v := .long ((x2 / r2).toInt64)) (ty := .long) (C := RX5) (T := TX5) (N := 12) hx hb hts hi_X5 tyX5 tyX5_ok nmX5 hown hE hP hS x0 (w_4 hE hk0) rfl 11 (by decide) (hts (.fieldLink RX5 55 "HemLine" "lowerTold" "J") (by decide +kernel)) (fun _ h9 => h9) rfl (by decide +kernel) rfl rfl (Nat.le_of_ble_eq_true rfl) dX5_tellParts_23 (st_4_11 hE hk0 _) (fun H locs hP hS => ?_)
    exact W.vret hx hb hr (fun t ht hW => ⟨⟨_, rfl, h, pw ht hP⟩, hS.F ht⟩) hS.2.2 dX5_tellParts_26
def p_X5_odds_b75 (Q : Int32 → Sg → Prop) (K39 : Nat → Int32 → Int32 → Int32 → Sg → Prop) (x0 : Nat) (x1 : Int32) (x2 : Int32) (x3 : Int32) (s : Sg) : Prop := K39 x0 x1 x2 (x3 + 1) s
def p_X5_odds_L39 (Q : Int32 → Sg → Prop)  : Nat → Nat → Int32 → Int32 → Int32 → Sg → Prop
  | 0, _, _, _, _, _ => False
  | n + 1, x0, x1, x2, x3, s => ∃ k1, tX x0 3 = some k1 ∧ kX k1 = 0 ∧ (((gI s k1 2) ≤ x3 → ∃ k5, tX x0 3 = some k5 ∧ kX k5 = 0 ∧ p_X5_tellParts x0 x2 (gI s k5 2) s (fun s8 => Q 1 s8)) ∧ (¬ (gI s k1 2) ≤ x3 → ∃ k9, tX x0 3 = some k9 ∧ kX k9 = 0 ∧ p_X5_item (tX k9 9) x3 s (fun r13 s12 => ∃ k14, tX x0 3 = some k14 ∧ kX k14 = 0 ∧ p_X0_howManyWet k14 r13 s12 (fun r18 s17 => ((r18 < x1 → p_X5_odds_b75 Q (fun y0 y1 y2 y3 u => p_X5_odds_L39 Q  n y0 y1 y2 y3 u) x0 x1 x2 x3 s17) ∧ (¬ r18 < x1 → p_X5_odds_b75 Q (fun y0 y1 y2 y3 u => p_X5_odds_L39 Q  n y0 y1 y2 y3 u) x0 x1 (x2 + 1) x3 s17))))))
def p_X5_odds (x0 : Nat) (x1 : Int32) (s : Sg) (Q : Int32 → Sg → Prop) : Prop := ((x1 < 0 → Q ((-1)) s) ∧ (¬ x1 < 0 → ((x1 ≤ 6 → ∃ k3, tX x0 3 = some k3 ∧ kX k3 = 0 ∧ (((gI s k3 0) = 0 → Q ((-4)) s) ∧ (¬ (gI s k3 0) = 0 → ∃ k7, tX x0 3 = some k7 ∧ kX k7 = 0 ∧ (((gI s k7 2) = 0 → Q ((-4)) s) ∧ (¬ (gI s k7 2) = 0 → (∃ n11, p_X5_odds_L39 Q  n11 x0 x1 0 0 s)))))) ∧ (¬ x1 ≤ 6 → Q ((-1)) s))))
set_option maxHeartbeats 4000000 in
set_option maxRecDepth 100000 in
theorem c_X5_odds (l : Launch) (D : va_G) (cs : Cs) (ad : Nat → Nat) (x0 : Nat) (x1 : Int32) (s0 : Sg) (Q : Int32 → Sg → Prop) (hk0 : kX x0 = 4) : Met l yX5_odds wsX5_odds { frames := 4, cells := 0, slots := 0, locals := 87 } (Pc0 bX D cs ad [.ref (ad x0), .int x1] s0 (p_X5_odds x0 x1 s0 Q)) (QI bX D cs ad Q) 0 0 (fAd bX ad) := by
  refine Met.ofW (cc := cX5_odds) (maxL := 4) (ret := (some .int)) (by decide) rfl ?_
  intro p e s m args below meth c s₁ B0 hml hv
  obtain ⟨ha, hP, hE, h⟩ := hv
  have hx := B0.exec
  have hb := B0.bytes
  have hr := B0.returns
  have hts := atoms_spec (ws := wsX5_odds) B0.pre
  have hown : s.vm.findClass RX5 = some m.cls := findClass_of_methodNamed B0.named
  have hlocks := B0.notSynchronized
  have hi_X0 : ∀ w ∈ u_ws RX0 TX0 15, w ∈ wsX5_odds := by decide +kernel
  have hi_X5 : ∀ w ∈ u_ws RX5 TX5 12, w ∈ wsX5_odds := by decide +kernel
  have hS : va_S (fAd bX ad) s.heap s.heap [] := va_S.rf
  have hl := lv_entry ([.ref (ad x0), .int x1]) (n := 4) (by first | exact Nat.le_of_ble_eq_true rfl | simp [lg_sl, re_cat, cat_i, cat_l, cat_r])
  rw [show entryFrame m args 4 = entryFrame m ([.ref (ad x0), .int x1] : List Value).toArray 4 by rw [ha], lg_entry_eq]
  generalize (lg_sl ([.ref (ad x0), .int x1]) ++ List.replicate (4 - (lg_sl ([.ref (ad x0), .int x1])).length) Slot.unset).toArray = ls at hl ⊢
  have hl : lv_has ls 4 [(0, .ref (ad x0)), (1, .int x1)] := by first | exact hl | simpa [lv_args, re_cat, cat_i, cat_l, cat_r] using hl
  have hB39 : ∀ (n39 : Nat) (x1 : Int32) (x2 : Int32) (x3 : Int32) (σ : Sg) (H : Heap) (locs : List Loc) (ls : Array Slot), p_X5_odds_L39 Q  n39 x0 x1 x2 x3 σ → va_P D vwCl (wl bX cs ad σ) H → va_S (fAd bX ad) s.heap H locs → lv_has ls 4 [(0, .ref (ad x0)), (1, .int x1), (2, .int x2), (3, .int x3)] → W p l e { frames := 4, cells := 0, slots := 0, locals := 87 } s m args below meth c H locs 0 0 (MQ below (QI bX D cs ad Q) args s 0 0 (fAd bX ad)) (F0 m 39 ls []) := by
    intro n39
    induction n39 with
    | zero =>
      intro x1 x2 x3 σ H locs ls h
      exact h.elim
    | succ n39 ih =>
      have hK39 := ih
      have hB75 : ∀ (x1 : Int32) (x2 : Int32) (x3 : Int32) (σ : Sg) (H : Heap) (locs : List Loc) (ls : Array Slot), p_X5_odds_b75 Q (fun y0 y1 y2 y3 u => p_X5_odds_L39 Q  n39 y0 y1 y2 y3 u) x0 x1 x2 x3 σ → va_P D vwCl (wl bX cs ad σ) H → va_S (fAd bX ad) s.heap H locs → lv_has ls 4 [(0, .ref (ad x0)), (1, .int x1), (2, .int x2), (3, .int x3)] → W p l e { frames := 4, cells := 0, slots := 0, locals := 87 } s m args below meth c H locs 0 0 (MQ below (QI bX D cs ad Q) args s 0 0 (fAd bX ad)) (F0 m 75 ls []) := by
        intro x1 x2 x3 σ H locs ls h hP hS hl
        unfold p_X5_odds_b75 at h
        refine lv_iinc (v := x3 + 1) (lv' := [(3, .int (x3 + 1)), (0, .ref (ad x0)), (1, .int x1), (2, .int x2)]) hx hb dX5_odds_75 hl (k := 3) rfl rfl (by decide) (by first | rfl | simp [re_cat, cat_i, cat_l, cat_r]) (fun ls hl => ?_)
        refine lv_goto (tgt := 39) hx hb dX5_odds_78 (by decide) ?_
        exact hK39 x1 x2 (x3 + 1) σ H locs ls h hP hS (lv_sub hl [1, 2, 3, 0] rfl)
      intro x1 x2 x3 σ H locs ls h hP hS hl
      rw [p_X5_odds_L39] at h
      refine lv_iload_n hx hb dX5_odds_39 rfl (lv_at hl 3 rfl) ?_
      refine lv_aload_n hx hb dX5_odds_40 rfl (lv_at hl 0 rfl) ?_
      refine va_get (ci := 4) (v := va_re ad (tX x0 3)) (C := RX5) (T := TX5) (N := 12) hx hb hts hi_X5 hown hE.1 hP x0 (w_4 hE hk0) rfl 3 (by decide) (hts (.fieldLink RX5 33 "HemLine" "now" "LHemLine$Delta;") (by decide +kernel)) (fun _ h9 => h9) rfl dX5_odds_41 ?_
      obtain ⟨k1, e2, q3, h⟩ := h
      refine r_known (ad := ad) e2 ?_
      refine va_getN (ci := 0) (v := .int (gI σ k1 2)) (C := RX0) (T := TX0) (N := 15) hx hb hts hi_X0 hown hE.1 hP k1 (w_0 hE q3) rfl 2 (by decide) ((hE.2.2.2.1 ("HemLine", 148, "HemLine$Delta", "years", "I", "HemLine") (by decide +kernel)).use rfl) (fun _ h9 => h9) rfl dX5_odds_44 ?_
      refine lv_icmp_ge (tgt := 81) hx hb dX5_odds_47 (by decide) (fun c4 => ?_) (fun c4 => ?_)
      · replace h := h.1 c4
        refine lv_aload_n hx hb dX5_odds_81 rfl (lv_at hl 0 rfl) ?_
        refine lv_iload_n hx hb dX5_odds_82 rfl (lv_at hl 2 rfl) ?_
        refine lv_aload_n hx hb dX5_odds_83 rfl (lv_at hl 0 rfl) ?_
        refine va_get (ci := 4) (v := va_re ad (tX x0 3)) (C := RX5) (T := TX5) (N := 12) hx hb hts hi_X5 hown hE.1 hP x0 (w_4 hE hk0) rfl 3 (by decide) (hts (.fieldLink RX5 33 "HemLine" "now" "LHemLine$Delta;") (by decide +kernel)) (fun _ h9 => h9) rfl dX5_odds_84 ?_
        obtain ⟨k5, e6, q7, h⟩ := h
        refine r_known (ad := ad) e6 ?_
        refine va_getN (ci := 0) (v := .int (gI σ k5 2)) (C := RX0) (T := TX0) (N := 15) hx hb hts hi_X0 hown hE.1 hP k5 (w_0 hE q7) rfl 2 (by decide) ((hE.2.2.2.1 ("HemLine", 148, "HemLine$Delta", "years", "I", "HemLine") (by decide +kernel)).use rfl) (fun _ h9 => h9) rfl dX5_odds_87 ?_
        refine f_v (kV (As := [.int x2, .int (gI σ k5 2)]) (rest := []) (o := some x0) rfl ⟨hx, hb, hml, hown, hts⟩ (c_X5_tellParts l D cs ad x0 x2 (gI σ k5 2) σ _ hk0) (cwV 2 hts gX5_odds_X5_tellParts rfl rfl rfl (by decide +kernel) ⟨Nat.le_of_ble_eq_true rfl, Nat.le_of_ble_eq_true rfl⟩) hE hP rfl rfl (w_4 hE hk0) h rfl hl.1 rfl (by first | exact lv_room (Nat.le_of_ble_eq_true rfl) | (refine lv_room ?_; simp [re_cat, cat_i, cat_l, cat_r])) dX5_odds_90 ⟨Nat.le_refl _, Nat.le_refl _⟩) hS (fun s8 H locs h hP hS => ?_)
        refine lv_iconst (v := 1) hx hb dX5_odds_93 (by decide) ?_
        exact W.iret hx hb hr (fun t ht hW => ⟨⟨_, _, rfl, h, pw ht hP⟩, hS.F ht⟩) hS.2.2 dX5_odds_94
      · replace h := h.2 c4
        refine lv_aload_n hx hb dX5_odds_50 rfl (lv_at hl 0 rfl) ?_
        refine va_get (ci := 4) (v := va_re ad (tX x0 3)) (C := RX5) (T := TX5) (N := 12) hx hb hts hi_X5 hown hE.1 hP x0 (w_4 hE hk0) rfl 3 (by decide) (hts (.fieldLink RX5 33 "HemLine" "now" "LHemLine$Delta;") (by decide +kernel)) (fun _ h9 => h9) rfl dX5_odds_51 ?_
        refine lv_aload_n hx hb dX5_odds_54 rfl (lv_at hl 0 rfl) ?_
        refine va_get (ci := 4) (v := va_re ad (tX x0 3)) (C := RX5) (T := TX5) (N := 12) hx hb hts hi_X5 hown hE.1 hP x0 (w_4 hE hk0) rfl 3 (by decide) (hts (.fieldLink RX5 33 "HemLine" "now" "LHemLine$Delta;") (by decide +kernel)) (fun _ h9 => h9) rfl dX5_odds_55 ?_
        obtain ⟨k9, e10, q11, h⟩ := h
        refine r_known (ad := ad) e10 ?_
        refine va_getN (ci := 0) (v := va_re ad (tX k9 9)) (C := RX0) (T := TX0) (N := 15) hx hb hts hi_X0 hown hE.1 hP k9 (w_0 hE q11) rfl 9 (by decide) ((hE.2.2.2.1 ("HemLine", 222, "HemLine$Delta", "heightOf", "[I", "HemLine") (by decide +kernel)).use rfl) (fun _ h9 => h9) rfl dX5_odds_58 ?_
        refine lv_iload_n hx hb dX5_odds_61 rfl (lv_at hl 3 rfl) ?_
        refine f_i (kS (As := [va_re ad (tX k9 9), .int x3]) (rest := [va_re ad (tX x0 3)]) ⟨hx, hb, hml, hown, hts⟩ (c_X5_item l D cs ad (tX k9 9) x3 σ _) (va_cwS 2 hts gX5_odds_X5_item rfl rfl rfl (by decide +kernel) ⟨Nat.le_of_ble_eq_true rfl, Nat.le_of_ble_eq_true rfl⟩) hE hP h rfl hl.1 rfl (by first | exact lv_room (Nat.le_of_ble_eq_true rfl) | (refine lv_room ?_; simp [re_cat, cat_i, cat_l, cat_r])) dX5_odds_62 ⟨Nat.le_refl _, Nat.le_refl _⟩) hS (fun r13 s12 H locs h hP hS => ?_)
        obtain ⟨k14, e15, q16, h⟩ := h
        refine f_i (kV (As := [.int r13]) (rest := []) e15 ⟨hx, hb, hml, hown, hts⟩ (c_X0_howManyWet l D cs ad k14 r13 s12 _ q16) (cwV 1 hts gX5_odds_X0_howManyWet rfl rfl rfl (by decide +kernel) ⟨Nat.le_of_ble_eq_true rfl, Nat.le_of_ble_eq_true rfl⟩) hE hP rfl rfl (w_0 hE q16) h rfl hl.1 rfl (by first | exact lv_room (Nat.le_of_ble_eq_true rfl) | (refine lv_room ?_; simp [re_cat, cat_i, cat_l, cat_r])) dX5_odds_65 ⟨Nat.le_refl _, Nat.le_refl _⟩) hS (fun r18 s17 H locs h hP hS => ?_)
        refine lv_iload_n hx hb dX5_odds_68 rfl (lv_at hl 1 rfl) ?_
        refine lv_icmp_lt (tgt := 75) hx hb dX5_odds_69 (by decide) (fun c19 => ?_) (fun c19 => ?_)
        · replace h := h.1 c19
          exact hB75 x1 x2 x3 s17 H locs ls h hP hS (lv_sub hl [0, 1, 2, 3] rfl)
        · replace h := h.2 c19
          refine lv_iinc (v := x2 + 1) (lv' := [(2, .int (x2 + 1)), (0, .ref (ad x0)), (1, .int x1), (3, .int x3)]) hx hb dX5_odds_72 hl (k := 2) rfl rfl (by decide) (by first | rfl | simp [re_cat, cat_i, cat_l, cat_r]) (fun ls hl => ?_)
          exact hB75 x1 (x2 + 1) x3 s17 H locs ls h hP hS (lv_sub hl [1, 2, 0, 3] rfl)
  unfold p_X5_odds at h
  refine lv_iload_n hx hb dX5_odds_0 rfl (lv_at hl 1 rfl) ?_
  refine lv_if_lt (tgt := 10) hx hb dX5_odds_1 (by decide) (fun c1 => ?_) (fun c1 => ?_)
  · replace h := h.1 c1
    refine lv_iconst (v := (-1)) hx hb dX5_odds_10 (by decide) ?_
    exact W.iret hx hb hr (fun t ht hW => ⟨⟨_, _, rfl, h, pw ht hP⟩, hS.F ht⟩) hS.2.2 dX5_odds_11
  · replace h := h.2 c1
    refine lv_iload_n hx hb dX5_odds_4 rfl (lv_at hl 1 rfl) ?_
    refine lv_bipush (v := 6) hx hb dX5_odds_5 (by decide) ?_
    refine lv_icmp_le (tgt := 12) hx hb dX5_odds_7 (by decide) (fun c2 => ?_) (fun c2 => ?_)
    · replace h := h.1 c2
      refine lv_aload_n hx hb dX5_odds_12 rfl (lv_at hl 0 rfl) ?_
      refine va_get (ci := 4) (v := va_re ad (tX x0 3)) (C := RX5) (T := TX5) (N := 12) hx hb hts hi_X5 hown hE.1 hP x0 (w_4 hE hk0) rfl 3 (by decide) (hts (.fieldLink RX5 33 "HemLine" "now" "LHemLine$Delta;") (by decide +kernel)) (fun _ h9 => h9) rfl dX5_odds_13 ?_
      obtain ⟨k3, e4, q5, h⟩ := h
      refine r_known (ad := ad) e4 ?_
      refine va_getN (ci := 0) (v := .int (gI s0 k3 0)) (C := RX0) (T := TX0) (N := 15) hx hb hts hi_X0 hown hE.1 hP k3 (w_0 hE q5) rfl 0 (by decide) ((hE.2.2.2.1 ("HemLine", 126, "HemLine$Delta", "women", "I", "HemLine") (by decide +kernel)).use rfl) (fun _ h9 => h9) rfl dX5_odds_16 ?_
      refine lv_if_eq (tgt := 32) hx hb dX5_odds_19 (by decide) (fun c6 => ?_) (fun c6 => ?_)
      · replace h := h.1 c6
        refine lv_bipush (v := (-4)) hx hb dX5_odds_32 (by decide) ?_
        exact W.iret hx hb hr (fun t ht hW => ⟨⟨_, _, rfl, h, pw ht hP⟩, hS.F ht⟩) hS.2.2 dX5_odds_34
      · replace h := h.2 c6
        refine lv_aload_n hx hb dX5_odds_22 rfl (lv_at hl 0 rfl) ?_
        refine va_get (ci := 4) (v := va_re ad (tX x0 3)) (C := RX5) (T := TX5) (N := 12) hx hb hts hi_X5 hown hE.1 hP x0 (w_4 hE hk0) rfl 3 (by decide) (hts (.fieldLink RX5 33 "HemLine" "now" "LHemLine$Delta;") (by decide +kernel)) (fun _ h9 => h9) rfl dX5_odds_23 ?_
        obtain ⟨k7, e8, q9, h⟩ := h
        refine r_known (ad := ad) e8 ?_
        refine va_getN (ci := 0) (v := .int (gI s0 k7 2)) (C := RX0) (T := TX0) (N := 15) hx hb hts hi_X0 hown hE.1 hP k7 (w_0 hE q9) rfl 2 (by decide) ((hE.2.2.2.1 ("HemLine", 148, "HemLine$Delta", "years", "I", "HemLine") (by decide +kernel)).use rfl) (fun _ h9 => h9) rfl dX5_odds_26 ?_
        refine lv_if_ne (tgt := 35) hx hb dX5_odds_29 (by decide) (fun c10 => ?_) (fun c10 => ?_)
        · replace h := h.2 c10
          refine lv_iconst (v := 0) hx hb dX5_odds_35 (by decide) ?_
          refine lv_istore_n (i := 2) (lv' := [(2, .int 0), (0, .ref (ad x0)), (1, .int x1)]) hx hb dX5_odds_36 rfl hl (by decide) (by first | rfl | simp [re_cat, cat_i, cat_l, cat_r]) (fun ls hl => ?_)
          refine lv_iconst (v := 0) hx hb dX5_odds_37 (by decide) ?_
          refine lv_istore_n (i := 3) (lv' := [(3, .int 0), (2, .int 0), (0, .ref (ad x0)), (1, .int x1)]) hx hb dX5_odds_38 rfl hl (by decide) (by first | rfl | simp [re_cat, cat_i, cat_l, cat_r]) (fun ls hl => ?_)
          obtain ⟨n11, h⟩ := h
          exact hB39 n11 x1 0 0 s0 _ _ ls h hP hS (lv_sub hl [2, 3, 1, 0] rfl)
        · replace h := h.1 c10
          refine lv_bipush (v := (-4)) hx hb dX5_odds_32 (by decide) ?_
          exact W.iret hx hb hr (fun t ht hW => ⟨⟨_, _, rfl, h, pw ht hP⟩, hS.F ht⟩) hS.2.2 dX5_odds_34
    · replace h := h.2 c2
      refine lv_iconst (v := (-1)) hx hb dX5_odds_10 (by decide) ?_
      exact W.iret hx hb hr (fun t ht hW => ⟨⟨_, _, rfl, h, pw ht hP⟩, hS.F ht⟩) hS.2.2 dX5_odds_11
def p_X5_mid_L27 (Q : Int32 → Sg → Prop)  : Nat → Nat → Int32 → Int32 → Sg → Prop
  | 0, _, _, _, _ => False
  | n + 1, x0, x1, x2, s => ∃ k1, tX x0 3 = some k1 ∧ kX k1 = 0 ∧ (((gI s k1 2) ≤ x2 → ∃ k5, tX x0 3 = some k5 ∧ kX k5 = 0 ∧ p_X5_tellParts x0 x1 (gI s k5 2) s (fun s8 => Q 1 s8)) ∧ (¬ (gI s k1 2) ≤ x2 → ∃ k9, tX x0 3 = some k9 ∧ kX k9 = 0 ∧ p_X5_item (tX k9 9) x2 s (fun r13 s12 => ∃ k14, tX x0 3 = some k14 ∧ kX k14 = 0 ∧ p_X0_wetTogether k14 r13 s12 (fun r18 s17 => p_X5_mid_L27 Q  n x0 (x1 + r18) (x2 + 1) s17))))
def p_X5_mid (x0 : Nat) (s : Sg) (Q : Int32 → Sg → Prop) : Prop := ∃ k1, tX x0 3 = some k1 ∧ kX k1 = 0 ∧ (((gI s k1 0) = 0 → Q ((-4)) s) ∧ (¬ (gI s k1 0) = 0 → ∃ k5, tX x0 3 = some k5 ∧ kX k5 = 0 ∧ (((gI s k5 2) = 0 → Q ((-4)) s) ∧ (¬ (gI s k5 2) = 0 → (∃ n9, p_X5_mid_L27 Q  n9 x0 0 0 s)))))
set_option maxHeartbeats 4000000 in
set_option maxRecDepth 100000 in
theorem c_X5_mid (l : Launch) (D : va_G) (cs : Cs) (ad : Nat → Nat) (x0 : Nat) (s0 : Sg) (Q : Int32 → Sg → Prop) (hk0 : kX x0 = 4) : Met l yX5_mid wsX5_mid { frames := 4, cells := 0, slots := 0, locals := 87 } (Pc0 bX D cs ad [.ref (ad x0)] s0 (p_X5_mid x0 s0 Q)) (QI bX D cs ad Q) 0 0 (fAd bX ad) := by
  refine Met.ofW (cc := cX5_mid) (maxL := 3) (ret := (some .int)) (by decide) rfl ?_
  intro p e s m args below meth c s₁ B0 hml hv
  obtain ⟨ha, hP, hE, h⟩ := hv
  have hx := B0.exec
  have hb := B0.bytes
  have hr := B0.returns
  have hts := atoms_spec (ws := wsX5_mid) B0.pre
  have hown : s.vm.findClass RX5 = some m.cls := findClass_of_methodNamed B0.named
  have hlocks := B0.notSynchronized
  have hi_X0 : ∀ w ∈ u_ws RX0 TX0 15, w ∈ wsX5_mid := by decide +kernel
  have hi_X5 : ∀ w ∈ u_ws RX5 TX5 12, w ∈ wsX5_mid := by decide +kernel
  have hS : va_S (fAd bX ad) s.heap s.heap [] := va_S.rf
  have hl := lv_entry ([.ref (ad x0)]) (n := 3) (by first | exact Nat.le_of_ble_eq_true rfl | simp [lg_sl, re_cat, cat_i, cat_l, cat_r])
  rw [show entryFrame m args 3 = entryFrame m ([.ref (ad x0)] : List Value).toArray 3 by rw [ha], lg_entry_eq]
  generalize (lg_sl ([.ref (ad x0)]) ++ List.replicate (3 - (lg_sl ([.ref (ad x0)])).length) Slot.unset).toArray = ls at hl ⊢
  have hl : lv_has ls 3 [(0, .ref (ad x0))] := by first | exact hl | simpa [lv_args, re_cat, cat_i, cat_l, cat_r] using hl
  have hB27 : ∀ (n27 : Nat) (x1 : Int32) (x2 : Int32) (σ : Sg) (H : Heap) (locs : List Loc) (ls : Array Slot), p_X5_mid_L27 Q  n27 x0 x1 x2 σ → va_P D vwCl (wl bX cs ad σ) H → va_S (fAd bX ad) s.heap H locs → lv_has ls 3 [(0, .ref (ad x0)), (1, .int x1), (2, .int x2)] → W p l e { frames := 4, cells := 0, slots := 0, locals := 87 } s m args below meth c H locs 0 0 (MQ below (QI bX D cs ad Q) args s 0 0 (fAd bX ad)) (F0 m 27 ls []) := by
    intro n27
    induction n27 with
    | zero =>
      intro x1 x2 σ H locs ls h
      exact h.elim
    | succ n27 ih =>
      have hK27 := ih
      intro x1 x2 σ H locs ls h hP hS hl
      rw [p_X5_mid_L27] at h
      refine lv_iload_n hx hb dX5_mid_27 rfl (lv_at hl 2 rfl) ?_
      refine lv_aload_n hx hb dX5_mid_28 rfl (lv_at hl 0 rfl) ?_
      refine va_get (ci := 4) (v := va_re ad (tX x0 3)) (C := RX5) (T := TX5) (N := 12) hx hb hts hi_X5 hown hE.1 hP x0 (w_4 hE hk0) rfl 3 (by decide) (hts (.fieldLink RX5 33 "HemLine" "now" "LHemLine$Delta;") (by decide +kernel)) (fun _ h9 => h9) rfl dX5_mid_29 ?_
      obtain ⟨k1, e2, q3, h⟩ := h
      refine r_known (ad := ad) e2 ?_
      refine va_getN (ci := 0) (v := .int (gI σ k1 2)) (C := RX0) (T := TX0) (N := 15) hx hb hts hi_X0 hown hE.1 hP k1 (w_0 hE q3) rfl 2 (by decide) ((hE.2.2.2.1 ("HemLine", 148, "HemLine$Delta", "years", "I", "HemLine") (by decide +kernel)).use rfl) (fun _ h9 => h9) rfl dX5_mid_32 ?_
      refine lv_icmp_ge (tgt := 65) hx hb dX5_mid_35 (by decide) (fun c4 => ?_) (fun c4 => ?_)
      · replace h := h.1 c4
        refine lv_aload_n hx hb dX5_mid_65 rfl (lv_at hl 0 rfl) ?_
        refine lv_iload_n hx hb dX5_mid_66 rfl (lv_at hl 1 rfl) ?_
        refine lv_aload_n hx hb dX5_mid_67 rfl (lv_at hl 0 rfl) ?_
        refine va_get (ci := 4) (v := va_re ad (tX x0 3)) (C := RX5) (T := TX5) (N := 12) hx hb hts hi_X5 hown hE.1 hP x0 (w_4 hE hk0) rfl 3 (by decide) (hts (.fieldLink RX5 33 "HemLine" "now" "LHemLine$Delta;") (by decide +kernel)) (fun _ h9 => h9) rfl dX5_mid_68 ?_
        obtain ⟨k5, e6, q7, h⟩ := h
        refine r_known (ad := ad) e6 ?_
        refine va_getN (ci := 0) (v := .int (gI σ k5 2)) (C := RX0) (T := TX0) (N := 15) hx hb hts hi_X0 hown hE.1 hP k5 (w_0 hE q7) rfl 2 (by decide) ((hE.2.2.2.1 ("HemLine", 148, "HemLine$Delta", "years", "I", "HemLine") (by decide +kernel)).use rfl) (fun _ h9 => h9) rfl dX5_mid_71 ?_
        refine f_v (kV (As := [.int x1, .int (gI σ k5 2)]) (rest := []) (o := some x0) rfl ⟨hx, hb, hml, hown, hts⟩ (c_X5_tellParts l D cs ad x0 x1 (gI σ k5 2) σ _ hk0) (cwV 2 hts gX5_mid_X5_tellParts rfl rfl rfl (by decide +kernel) ⟨Nat.le_of_ble_eq_true rfl, Nat.le_of_ble_eq_true rfl⟩) hE hP rfl rfl (w_4 hE hk0) h rfl hl.1 rfl (by first | exact lv_room (Nat.le_of_ble_eq_true rfl) | (refine lv_room ?_; simp [re_cat, cat_i, cat_l, cat_r])) dX5_mid_74 ⟨Nat.le_refl _, Nat.le_refl _⟩) hS (fun s8 H locs h hP hS => ?_)
        refine lv_iconst (v := 1) hx hb dX5_mid_77 (by decide) ?_
        exact W.iret hx hb hr (fun t ht hW => ⟨⟨_, _, rfl, h, pw ht hP⟩, hS.F ht⟩) hS.2.2 dX5_mid_78
      · replace h := h.2 c4
        refine lv_iload_n hx hb dX5_mid_38 rfl (lv_at hl 1 rfl) ?_
        refine lv_aload_n hx hb dX5_mid_39 rfl (lv_at hl 0 rfl) ?_
        refine va_get (ci := 4) (v := va_re ad (tX x0 3)) (C := RX5) (T := TX5) (N := 12) hx hb hts hi_X5 hown hE.1 hP x0 (w_4 hE hk0) rfl 3 (by decide) (hts (.fieldLink RX5 33 "HemLine" "now" "LHemLine$Delta;") (by decide +kernel)) (fun _ h9 => h9) rfl dX5_mid_40 ?_
        refine lv_aload_n hx hb dX5_mid_43 rfl (lv_at hl 0 rfl) ?_
        refine va_get (ci := 4) (v := va_re ad (tX x0 3)) (C := RX5) (T := TX5) (N := 12) hx hb hts hi_X5 hown hE.1 hP x0 (w_4 hE hk0) rfl 3 (by decide) (hts (.fieldLink RX5 33 "HemLine" "now" "LHemLine$Delta;") (by decide +kernel)) (fun _ h9 => h9) rfl dX5_mid_44 ?_
        obtain ⟨k9, e10, q11, h⟩ := h
        refine r_known (ad := ad) e10 ?_
        refine va_getN (ci := 0) (v := va_re ad (tX k9 9)) (C := RX0) (T := TX0) (N := 15) hx hb hts hi_X0 hown hE.1 hP k9 (w_0 hE q11) rfl 9 (by decide) ((hE.2.2.2.1 ("HemLine", 222, "HemLine$Delta", "heightOf", "[I", "HemLine") (by decide +kernel)).use rfl) (fun _ h9 => h9) rfl dX5_mid_47 ?_
        refine lv_iload_n hx hb dX5_mid_50 rfl (lv_at hl 2 rfl) ?_
        refine f_i (kS (As := [va_re ad (tX k9 9), .int x2]) (rest := [va_re ad (tX x0 3), .int x1]) ⟨hx, hb, hml, hown, hts⟩ (c_X5_item l D cs ad (tX k9 9) x2 σ _) (va_cwS 2 hts gX5_mid_X5_item rfl rfl rfl (by decide +kernel) ⟨Nat.le_of_ble_eq_true rfl, Nat.le_of_ble_eq_true rfl⟩) hE hP h rfl hl.1 rfl (by first | exact lv_room (Nat.le_of_ble_eq_true rfl) | (refine lv_room ?_; simp [re_cat, cat_i, cat_l, cat_r])) dX5_mid_51 ⟨Nat.le_refl _, Nat.le_refl _⟩) hS (fun r13 s12 H locs h hP hS => ?_)
        obtain ⟨k14, e15, q16, h⟩ := h
        refine f_i (kV (As := [.int r13]) (rest := [.int x1]) e15 ⟨hx, hb, hml, hown, hts⟩ (c_X0_wetTogether l D cs ad k14 r13 s12 _ q16) (cwV 1 hts gX5_mid_X0_wetTogether rfl rfl rfl (by decide +kernel) ⟨Nat.le_of_ble_eq_true rfl, Nat.le_of_ble_eq_true rfl⟩) hE hP rfl rfl (w_0 hE q16) h rfl hl.1 rfl (by first | exact lv_room (Nat.le_of_ble_eq_true rfl) | (refine lv_room ?_; simp [re_cat, cat_i, cat_l, cat_r])) dX5_mid_54 ⟨Nat.le_refl _, Nat.le_refl _⟩) hS (fun r18 s17 H locs h hP hS => ?_)
        refine lv_iadd hx hb dX5_mid_57 ?_
        refine lv_istore_n (i := 1) (lv' := [(1, .int (x1 + r18)), (0, .ref (ad x0)), (2, .int x2)]) hx hb dX5_mid_58 rfl hl (by decide) (by first | rfl | simp [re_cat, cat_i, cat_l, cat_r]) (fun ls hl => ?_)
        refine lv_iinc (v := x2 + 1) (lv' := [(2, .int (x2 + 1)), (1, .int (x1 + r18)), (0, .ref (ad x0))]) hx hb dX5_mid_59 hl (k := 2) rfl rfl (by decide) (by first | rfl | simp [re_cat, cat_i, cat_l, cat_r]) (fun ls hl => ?_)
        refine lv_goto (tgt := 27) hx hb dX5_mid_62 (by decide) ?_
        exact ih (x1 + r18) (x2 + 1) s17 H locs ls h hP hS (lv_sub hl [2, 1, 0] rfl)
  unfold p_X5_mid at h
  refine lv_aload_n hx hb dX5_mid_0 rfl (lv_at hl 0 rfl) ?_
  refine va_get (ci := 4) (v := va_re ad (tX x0 3)) (C := RX5) (T := TX5) (N := 12) hx hb hts hi_X5 hown hE.1 hP x0 (w_4 hE hk0) rfl 3 (by decide) (hts (.fieldLink RX5 33 "HemLine" "now" "LHemLine$Delta;") (by decide +kernel)) (fun _ h9 => h9) rfl dX5_mid_1 ?_
  obtain ⟨k1, e2, q3, h⟩ := h
  refine r_known (ad := ad) e2 ?_
  refine va_getN (ci := 0) (v := .int (gI s0 k1 0)) (C := RX0) (T := TX0) (N := 15) hx hb hts hi_X0 hown hE.1 hP k1 (w_0 hE q3) rfl 0 (by decide) ((hE.2.2.2.1 ("HemLine", 126, "HemLine$Delta", "women", "I", "HemLine") (by decide +kernel)).use rfl) (fun _ h9 => h9) rfl dX5_mid_4 ?_
  refine lv_if_eq (tgt := 20) hx hb dX5_mid_7 (by decide) (fun c4 => ?_) (fun c4 => ?_)
  · replace h := h.1 c4
    refine lv_bipush (v := (-4)) hx hb dX5_mid_20 (by decide) ?_
    exact W.iret hx hb hr (fun t ht hW => ⟨⟨_, _, rfl, h, pw ht hP⟩, hS.F ht⟩) hS.2.2 dX5_mid_22
  · replace h := h.2 c4
    refine lv_aload_n hx hb dX5_mid_10 rfl (lv_at hl 0 rfl) ?_
    refine va_get (ci := 4) (v := va_re ad (tX x0 3)) (C := RX5) (T := TX5) (N := 12) hx hb hts hi_X5 hown hE.1 hP x0 (w_4 hE hk0) rfl 3 (by decide) (hts (.fieldLink RX5 33 "HemLine" "now" "LHemLine$Delta;") (by decide +kernel)) (fun _ h9 => h9) rfl dX5_mid_11 ?_
    obtain ⟨k5, e6, q7, h⟩ := h
    refine r_known (ad := ad) e6 ?_
    refine va_getN (ci := 0) (v := .int (gI s0 k5 2)) (C := RX0) (T := TX0) (N := 15) hx hb hts hi_X0 hown hE.1 hP k5 (w_0 hE q7) rfl 2 (by decide) ((hE.2.2.2.1 ("HemLine", 148, "HemLine$Delta", "years", "I", "HemLine") (by decide +kernel)).use rfl) (fun _ h9 => h9) rfl dX5_mid_14 ?_
    refine lv_if_ne (tgt := 23) hx hb dX5_mid_17 (by decide) (fun c8 => ?_) (fun c8 => ?_)
    · replace h := h.2 c8
      refine lv_iconst (v := 0) hx hb dX5_mid_23 (by decide) ?_
      refine lv_istore_n (i := 1) (lv' := [(1, .int 0), (0, .ref (ad x0))]) hx hb dX5_mid_24 rfl hl (by decide) (by first | rfl | simp [re_cat, cat_i, cat_l, cat_r]) (fun ls hl => ?_)
      refine lv_iconst (v := 0) hx hb dX5_mid_25 (by decide) ?_
      refine lv_istore_n (i := 2) (lv' := [(2, .int 0), (1, .int 0), (0, .ref (ad x0))]) hx hb dX5_mid_26 rfl hl (by decide) (by first | rfl | simp [re_cat, cat_i, cat_l, cat_r]) (fun ls hl => ?_)
      obtain ⟨n9, h⟩ := h
      exact hB27 n9 0 0 s0 _ _ ls h hP hS (lv_sub hl [2, 1, 0] rfl)
    · replace h := h.1 c8
      refine lv_bipush (v := (-4)) hx hb dX5_mid_20 (by decide) ?_
      exact W.iret hx hb hr (fun t ht hW => ⟨⟨_, _, rfl, h, pw ht hP⟩, hS.F ht⟩) hS.2.2 dX5_mid_22
def p_X5_doByLot_b42 (Q : Sg → Prop)  (x0 : Nat) (x1 : Int64) (s : Sg) : Prop := ∃ k1, tX x0 3 = some k1 ∧ kX k1 = 0 ∧ (((gI s k1 0) ≤ 0 → Q s) ∧ (¬ (gI s k1 0) ≤ 0 → ∃ k5, tX x0 3 = some k5 ∧ kX k5 = 0 ∧ ¬ ((gI s k5 0).toInt64) = 0 ∧ ∃ k9, tX x0 3 = some k9 ∧ kX k9 = 0 ∧ p_X0_doMove k9 (((x1 / 8) - (x1 / 8) / ((gI s k5 0).toInt64) * ((gI s k5 0).toInt64)).toInt32) (((x1 / 64) - (x1 / 64) / 6 * 6).toInt32) s (fun s12 => Q s12)))
def p_X5_doByLot (x0 : Nat) (x1 : Int64) (s : Sg) (Q : Sg → Prop) : Prop := (((lg_cmp (x1 - x1 / 4 * 4) 0) = 0 → ∃ k2, tX x0 3 = some k2 ∧ kX k2 = 0 ∧ ((8 ≤ (gI s k2 2) → p_X5_doByLot_b42 Q  x0 x1 s) ∧ (¬ 8 ≤ (gI s k2 2) → ∃ k6, tX x0 3 = some k6 ∧ kX k6 = 0 ∧ p_X0_doFlood k6 (((x1 / 8) - (x1 / 8) / 21 * 21).toInt32) s (fun s9 => Q s9)))) ∧ (¬ (lg_cmp (x1 - x1 / 4 * 4) 0) = 0 → p_X5_doByLot_b42 Q  x0 x1 s))
set_option maxHeartbeats 4000000 in
set_option maxRecDepth 100000 in
theorem c_X5_doByLot (l : Launch) (D : va_G) (cs : Cs) (ad : Nat → Nat) (x0 : Nat) (x1 : Int64) (s0 : Sg) (Q : Sg → Prop) (hk0 : kX x0 = 4) : Met l yX5_doByLot wsX5_doByLot { frames := 3, cells := 0, slots := 0, locals := 67 } (Pc0 bX D cs ad [.ref (ad x0), .long x1] s0 (p_X5_doByLot x0 x1 s0 Q)) (QV bX D cs ad Q) 0 0 (fAd bX ad) := by
  refine Met.ofW (cc := cX5_doByLot) (maxL := 3) (ret := none) (by decide) rfl ?_
  intro p e s m args below meth c s₁ B0 hml hv
  obtain ⟨ha, hP, hE, h⟩ := hv
  have hx := B0.exec
  have hb := B0.bytes
  have hr := B0.returns
  have hts := atoms_spec (ws := wsX5_doByLot) B0.pre
  have hown : s.vm.findClass RX5 = some m.cls := findClass_of_methodNamed B0.named
  have hlocks := B0.notSynchronized
  have hi_X0 : ∀ w ∈ u_ws RX0 TX0 15, w ∈ wsX5_doByLot := by decide +kernel
  have hi_X5 : ∀ w ∈ u_ws RX5 TX5 12, w ∈ wsX5_doByLot := by decide +kernel
  have hS : va_S (fAd bX ad) s.heap s.heap [] := va_S.rf
  have hl := lv_entry ([.ref (ad x0), .long x1]) (n := 3) (by first | exact Nat.le_of_ble_eq_true rfl | simp [lg_sl, re_cat, cat_i, cat_l, cat_r])
  rw [show entryFrame m args 3 = entryFrame m ([.ref (ad x0), .long x1] : List Value).toArray 3 by rw [ha], lg_entry_eq]
  generalize (lg_sl ([.ref (ad x0), .long x1]) ++ List.replicate (3 - (lg_sl ([.ref (ad x0), .long x1])).length) Slot.unset).toArray = ls at hl ⊢
  have hl : lv_has ls 3 [(0, .ref (ad x0)), (1, .long x1)] := by first | exact hl | simpa [lv_args, re_cat, cat_i, cat_l, cat_r] using hl
  have hB42 : ∀ (x1 : Int64) (σ : Sg) (H : Heap) (locs : List Loc) (ls : Array Slot), p_X5_doByLot_b42 Q  x0 x1 σ → va_P D vwCl (wl bX cs ad σ) H → va_S (fAd bX ad) s.heap H locs → lv_has ls 3 [(0, .ref (ad x0)), (1, .long x1)] → W p l e { frames := 3, cells := 0, slots := 0, locals := 67 } s m args below meth c H locs 0 0 (MQ below (QV bX D cs ad Q) args s 0 0 (fAd bX ad)) (F0 m 42 ls []) := by
    intro x1 σ H locs ls h hP hS hl
    unfold p_X5_doByLot_b42 at h
    refine lv_aload_n hx hb dX5_doByLot_42 rfl (lv_at hl 0 rfl) ?_
    refine va_get (ci := 4) (v := va_re ad (tX x0 3)) (C := RX5) (T := TX5) (N := 12) hx hb hts hi_X5 hown hE.1 hP x0 (w_4 hE hk0) rfl 3 (by decide) (hts (.fieldLink RX5 33 "HemLine" "now" "LHemLine$Delta;") (by decide +kernel)) (fun _ h9 => h9) rfl dX5_doByLot_43 ?_
    obtain ⟨k1, e2, q3, h⟩ := h
    refine r_known (ad := ad) e2 ?_
    refine va_getN (ci := 0) (v := .int (gI σ k1 0)) (C := RX0) (T := TX0) (N := 15) hx hb hts hi_X0 hown hE.1 hP k1 (w_0 hE q3) rfl 0 (by decide) ((hE.2.2.2.1 ("HemLine", 126, "HemLine$Delta", "women", "I", "HemLine") (by decide +kernel)).use rfl) (fun _ h9 => h9) rfl dX5_doByLot_46 ?_
    refine lv_if_le (tgt := 84) hx hb dX5_doByLot_49 (by decide) (fun c4 => ?_) (fun c4 => ?_)
    · replace h := h.1 c4
      exact W.vret hx hb hr (fun t ht hW => ⟨⟨_, rfl, h, pw ht hP⟩, hS.F ht⟩) hS.2.2 dX5_doByLot_84
    · replace h := h.2 c4
      refine lv_aload_n hx hb dX5_doByLot_52 rfl (lv_at hl 0 rfl) ?_
      refine va_get (ci := 4) (v := va_re ad (tX x0 3)) (C := RX5) (T := TX5) (N := 12) hx hb hts hi_X5 hown hE.1 hP x0 (w_4 hE hk0) rfl 3 (by decide) (hts (.fieldLink RX5 33 "HemLine" "now" "LHemLine$Delta;") (by decide +kernel)) (fun _ h9 => h9) rfl dX5_doByLot_53 ?_
      refine lv_lload_n hx hb dX5_doByLot_56 rfl (lv_at hl 1 rfl) ?_
      refine lv_ldc2 (v := 8) hx hb hown (hts (.constantLong RX5 383 (8)) (by decide +kernel)) dX5_doByLot_57 ?_
      refine lv_ldiv hx hb dX5_doByLot_60 (by decide) ?_
      refine lv_aload_n hx hb dX5_doByLot_61 rfl (lv_at hl 0 rfl) ?_
      refine va_get (ci := 4) (v := va_re ad (tX x0 3)) (C := RX5) (T := TX5) (N := 12) hx hb hts hi_X5 hown hE.1 hP x0 (w_4 hE hk0) rfl 3 (by decide) (hts (.fieldLink RX5 33 "HemLine" "now" "LHemLine$Delta;") (by decide +kernel)) (fun _ h9 => h9) rfl dX5_doByLot_62 ?_
      obtain ⟨k5, e6, q7, h⟩ := h
      refine r_known (ad := ad) e6 ?_
      refine va_getN (ci := 0) (v := .int (gI σ k5 0)) (C := RX0) (T := TX0) (N := 15) hx hb hts hi_X0 hown hE.1 hP k5 (w_0 hE q7) rfl 0 (by decide) ((hE.2.2.2.1 ("HemLine", 126, "HemLine$Delta", "women", "I", "HemLine") (by decide +kernel)).use rfl) (fun _ h9 => h9) rfl dX5_doByLot_65 ?_
      refine lv_i2l hx hb dX5_doByLot_68 rfl ?_
      obtain ⟨z8, h⟩ := h
      refine lv_lrem hx hb dX5_doByLot_69 z8 ?_
      refine lv_l2i hx hb dX5_doByLot_70 rfl ?_
      refine lv_lload_n hx hb dX5_doByLot_71 rfl (lv_at hl 1 rfl) ?_
      refine lv_ldc2 (v := 64) hx hb hown (hts (.constantLong RX5 387 (64)) (by decide +kernel)) dX5_doByLot_72 ?_
      refine lv_ldiv hx hb dX5_doByLot_75 (by decide) ?_
      refine lv_ldc2 (v := 6) hx hb hown (hts (.constantLong RX5 389 (6)) (by decide +kernel)) dX5_doByLot_76 ?_
      refine lv_lrem hx hb dX5_doByLot_79 (by decide) ?_
      refine lv_l2i hx hb dX5_doByLot_80 rfl ?_
      obtain ⟨k9, e10, q11, h⟩ := h
      refine f_v (kV (As := [.int (((x1 / 8) - (x1 / 8) / ((gI σ k5 0).toInt64) * ((gI σ k5 0).toInt64)).toInt32), .int (((x1 / 64) - (x1 / 64) / 6 * 6).toInt32)]) (rest := []) e10 ⟨hx, hb, hml, hown, hts⟩ (c_X0_doMove l D cs ad k9 (((x1 / 8) - (x1 / 8) / ((gI σ k5 0).toInt64) * ((gI σ k5 0).toInt64)).toInt32) (((x1 / 64) - (x1 / 64) / 6 * 6).toInt32) σ _ q11) (cwV 2 hts gX5_doByLot_X0_doMove rfl rfl rfl (by decide +kernel) ⟨Nat.le_of_ble_eq_true rfl, Nat.le_of_ble_eq_true rfl⟩) hE hP rfl rfl (w_0 hE q11) h rfl hl.1 rfl (by first | exact lv_room (Nat.le_of_ble_eq_true rfl) | (refine lv_room ?_; simp [re_cat, cat_i, cat_l, cat_r])) dX5_doByLot_81 ⟨Nat.le_refl _, Nat.le_refl _⟩) hS (fun s12 H locs h hP hS => ?_)
      exact W.vret hx hb hr (fun t ht hW => ⟨⟨_, rfl, h, pw ht hP⟩, hS.F ht⟩) hS.2.2 dX5_doByLot_84
  unfold p_X5_doByLot at h
  refine lv_lload_n hx hb dX5_doByLot_0 rfl (lv_at hl 1 rfl) ?_
  refine lv_ldc2 (v := 4) hx hb hown (hts (.constantLong RX5 381 (4)) (by decide +kernel)) dX5_doByLot_1 ?_
  refine lv_lrem hx hb dX5_doByLot_4 (by decide) ?_
  refine lv_lconst (v := 0) hx hb dX5_doByLot_5 (by decide) ?_
  refine W.lcmp hx hb dX5_doByLot_6 ?_
  refine lv_if_ne (tgt := 42) hx hb dX5_doByLot_7 (by decide) (fun c1 => ?_) (fun c1 => ?_)
  · replace h := h.2 c1
    exact hB42 x1 s0 _ _ ls h hP hS (lv_sub hl [0, 1] rfl)
  · replace h := h.1 c1
    refine lv_aload_n hx hb dX5_doByLot_10 rfl (lv_at hl 0 rfl) ?_
    refine va_get (ci := 4) (v := va_re ad (tX x0 3)) (C := RX5) (T := TX5) (N := 12) hx hb hts hi_X5 hown hE.1 hP x0 (w_4 hE hk0) rfl 3 (by decide) (hts (.fieldLink RX5 33 "HemLine" "now" "LHemLine$Delta;") (by decide +kernel)) (fun _ h9 => h9) rfl dX5_doByLot_11 ?_
    obtain ⟨k2, e3, q4, h⟩ := h
    refine r_known (ad := ad) e3 ?_
    refine va_getN (ci := 0) (v := .int (gI s0 k2 2)) (C := RX0) (T := TX0) (N := 15) hx hb hts hi_X0 hown hE.1 hP k2 (w_0 hE q4) rfl 2 (by decide) ((hE.2.2.2.1 ("HemLine", 148, "HemLine$Delta", "years", "I", "HemLine") (by decide +kernel)).use rfl) (fun _ h9 => h9) rfl dX5_doByLot_14 ?_
    refine lv_bipush (v := 8) hx hb dX5_doByLot_17 (by decide) ?_
    refine lv_icmp_ge (tgt := 42) hx hb dX5_doByLot_19 (by decide) (fun c5 => ?_) (fun c5 => ?_)
    · replace h := h.1 c5
      exact hB42 x1 s0 _ _ ls h hP hS (lv_sub hl [0, 1] rfl)
    · replace h := h.2 c5
      refine lv_aload_n hx hb dX5_doByLot_22 rfl (lv_at hl 0 rfl) ?_
      refine va_get (ci := 4) (v := va_re ad (tX x0 3)) (C := RX5) (T := TX5) (N := 12) hx hb hts hi_X5 hown hE.1 hP x0 (w_4 hE hk0) rfl 3 (by decide) (hts (.fieldLink RX5 33 "HemLine" "now" "LHemLine$Delta;") (by decide +kernel)) (fun _ h9 => h9) rfl dX5_doByLot_23 ?_
      refine lv_lload_n hx hb dX5_doByLot_26 rfl (lv_at hl 1 rfl) ?_
      refine lv_ldc2 (v := 8) hx hb hown (hts (.constantLong RX5 383 (8)) (by decide +kernel)) dX5_doByLot_27 ?_
      refine lv_ldiv hx hb dX5_doByLot_30 (by decide) ?_
      refine lv_ldc2 (v := 21) hx hb hown (hts (.constantLong RX5 385 (21)) (by decide +kernel)) dX5_doByLot_31 ?_
      refine lv_lrem hx hb dX5_doByLot_34 (by decide) ?_
      refine lv_l2i hx hb dX5_doByLot_35 rfl ?_
      obtain ⟨k6, e7, q8, h⟩ := h
      refine f_v (kV (As := [.int (((x1 / 8) - (x1 / 8) / 21 * 21).toInt32)]) (rest := []) e7 ⟨hx, hb, hml, hown, hts⟩ (c_X0_doFlood l D cs ad k6 (((x1 / 8) - (x1 / 8) / 21 * 21).toInt32) s0 _ q8) (cwV 1 hts gX5_doByLot_X0_doFlood rfl rfl rfl (by decide +kernel) ⟨Nat.le_of_ble_eq_true rfl, Nat.le_of_ble_eq_true rfl⟩) hE hP rfl rfl (w_0 hE q8) h rfl hl.1 rfl (by first | exact lv_room (Nat.le_of_ble_eq_true rfl) | (refine lv_room ?_; simp [re_cat, cat_i, cat_l, cat_r])) dX5_doByLot_36 ⟨Nat.le_refl _, Nat.le_refl _⟩) hS (fun s9 H locs h hP hS => ?_)
      refine lv_goto (tgt := 84) hx hb dX5_doByLot_39 (by decide) ?_
      exact W.vret hx hb hr (fun t ht hW => ⟨⟨_, rfl, h, pw ht hP⟩, hS.F ht⟩) hS.2.2 dX5_doByLot_84
def p_X5_lots_L61 (Q : Int32 → Sg → Prop)  : Nat → Nat → Int32 → Int64 → Int32 → Sg → Prop
  | 0, _, _, _, _, _ => False
  | n + 1, x0, x1, x3, x5, s => ((x1 ≤ x5 → ∃ k2, tX x0 3 = some k2 ∧ kX k2 = 0 ∧ Q (gI s k2 2) s) ∧ (¬ x1 ≤ x5 → p_X5_doByLot x0 ((x3 * 48271) - (x3 * 48271) / 2147483647 * 2147483647) s (fun s5 => p_X5_lots_L61 Q  n x0 x1 ((x3 * 48271) - (x3 * 48271) / 2147483647 * 2147483647) (x5 + 1) s5)))
def p_X5_lots (x0 : Nat) (x1 : Int32) (x2 : Int32) (s : Sg) (Q : Int32 → Sg → Prop) : Prop := ((x1 < 1 → Q ((-1)) s) ∧ (¬ x1 < 1 → ((20 < x1 → Q ((-1)) s) ∧ (¬ 20 < x1 → ((x2 < 1 → Q ((-1)) s) ∧ (¬ x2 < 1 → ((x2 < 2147483647 → ∃ k5, tX x0 3 = some k5 ∧ kX k5 = 0 ∧ ((0 < (gI s k5 0) → ∃ k9, tX x0 3 = some k9 ∧ kX k9 = 0 ∧ ((((gI s k9 3) + x1) ≤ 40 → (∃ n13, p_X5_lots_L61 Q  n13 x0 x1 x2.toInt64 0 s)) ∧ (¬ ((gI s k9 3) + x1) ≤ 40 → Q ((-2)) s))) ∧ (¬ 0 < (gI s k5 0) → Q ((-4)) s))) ∧ (¬ x2 < 2147483647 → Q ((-1)) s))))))))
set_option maxHeartbeats 4000000 in
set_option maxRecDepth 100000 in
theorem c_X5_lots (l : Launch) (D : va_G) (cs : Cs) (ad : Nat → Nat) (x0 : Nat) (x1 : Int32) (x2 : Int32) (s0 : Sg) (Q : Int32 → Sg → Prop) (hk0 : kX x0 = 4) : Met l yX5_lots wsX5_lots { frames := 4, cells := 0, slots := 0, locals := 89 } (Pc0 bX D cs ad [.ref (ad x0), .int x1, .int x2] s0 (p_X5_lots x0 x1 x2 s0 Q)) (QI bX D cs ad Q) 0 0 (fAd bX ad) := by
  refine Met.ofW (cc := cX5_lots) (maxL := 6) (ret := (some .int)) (by decide) rfl ?_
  intro p e s m args below meth c s₁ B0 hml hv
  obtain ⟨ha, hP, hE, h⟩ := hv
  have hx := B0.exec
  have hb := B0.bytes
  have hr := B0.returns
  have hts := atoms_spec (ws := wsX5_lots) B0.pre
  have hown : s.vm.findClass RX5 = some m.cls := findClass_of_methodNamed B0.named
  have hlocks := B0.notSynchronized
  have hi_X0 : ∀ w ∈ u_ws RX0 TX0 15, w ∈ wsX5_lots := by decide +kernel
  have hi_X5 : ∀ w ∈ u_ws RX5 TX5 12, w ∈ wsX5_lots := by decide +kernel
  have hS : va_S (fAd bX ad) s.heap s.heap [] := va_S.rf
  have hl := lv_entry ([.ref (ad x0), .int x1, .int x2]) (n := 6) (by first | exact Nat.le_of_ble_eq_true rfl | simp [lg_sl, re_cat, cat_i, cat_l, cat_r])
  rw [show entryFrame m args 6 = entryFrame m ([.ref (ad x0), .int x1, .int x2] : List Value).toArray 6 by rw [ha], lg_entry_eq]
  generalize (lg_sl ([.ref (ad x0), .int x1, .int x2]) ++ List.replicate (6 - (lg_sl ([.ref (ad x0), .int x1, .int x2])).length) Slot.unset).toArray = ls at hl ⊢
  have hl : lv_has ls 6 [(0, .ref (ad x0)), (1, .int x1), (2, .int x2)] := by first | exact hl | simpa [lv_args, re_cat, cat_i, cat_l, cat_r] using hl
  have hB61 : ∀ (n61 : Nat) (x1 : Int32) (x3 : Int64) (x5 : Int32) (σ : Sg) (H : Heap) (locs : List Loc) (ls : Array Slot), p_X5_lots_L61 Q  n61 x0 x1 x3 x5 σ → va_P D vwCl (wl bX cs ad σ) H → va_S (fAd bX ad) s.heap H locs → lv_has ls 6 [(0, .ref (ad x0)), (1, .int x1), (3, .long x3), (5, .int x5)] → W p l e { frames := 4, cells := 0, slots := 0, locals := 89 } s m args below meth c H locs 0 0 (MQ below (QI bX D cs ad Q) args s 0 0 (fAd bX ad)) (F0 m 61 ls []) := by
    intro n61
    induction n61 with
    | zero =>
      intro x1 x3 x5 σ H locs ls h
      exact h.elim
    | succ n61 ih =>
      have hK61 := ih
      intro x1 x3 x5 σ H locs ls h hP hS hl
      rw [p_X5_lots_L61] at h
      refine lv_iload hx hb dX5_lots_61 (lv_at hl 3 rfl) ?_
      refine lv_iload_n hx hb dX5_lots_63 rfl (lv_at hl 1 rfl) ?_
      refine lv_icmp_ge (tgt := 88) hx hb dX5_lots_64 (by decide) (fun c1 => ?_) (fun c1 => ?_)
      · replace h := h.1 c1
        refine lv_aload_n hx hb dX5_lots_88 rfl (lv_at hl 0 rfl) ?_
        refine va_get (ci := 4) (v := va_re ad (tX x0 3)) (C := RX5) (T := TX5) (N := 12) hx hb hts hi_X5 hown hE.1 hP x0 (w_4 hE hk0) rfl 3 (by decide) (hts (.fieldLink RX5 33 "HemLine" "now" "LHemLine$Delta;") (by decide +kernel)) (fun _ h9 => h9) rfl dX5_lots_89 ?_
        obtain ⟨k2, e3, q4, h⟩ := h
        refine r_known (ad := ad) e3 ?_
        refine va_getN (ci := 0) (v := .int (gI σ k2 2)) (C := RX0) (T := TX0) (N := 15) hx hb hts hi_X0 hown hE.1 hP k2 (w_0 hE q4) rfl 2 (by decide) ((hE.2.2.2.1 ("HemLine", 148, "HemLine$Delta", "years", "I", "HemLine") (by decide +kernel)).use rfl) (fun _ h9 => h9) rfl dX5_lots_92 ?_
        exact W.iret hx hb hr (fun t ht hW => ⟨⟨_, _, rfl, h, pw ht hP⟩, hS.F ht⟩) hS.2.2 dX5_lots_95
      · replace h := h.2 c1
        refine lv_lload_n hx hb dX5_lots_67 rfl (lv_at hl 2 rfl) ?_
        refine lv_ldc2 (v := 48271) hx hb hown (hts (.constantLong RX5 284 (48271)) (by decide +kernel)) dX5_lots_68 ?_
        refine lv_lmul hx hb dX5_lots_71 ?_
        refine lv_ldc2 (v := 2147483647) hx hb hown (hts (.constantLong RX5 286 (2147483647)) (by decide +kernel)) dX5_lots_72 ?_
        refine lv_lrem hx hb dX5_lots_75 (by decide) ?_
        refine lv_lstore_n (i := 3) (lv' := [(3, .long ((x3 * 48271) - (x3 * 48271) / 2147483647 * 2147483647)), (0, .ref (ad x0)), (1, .int x1), (5, .int x5)]) hx hb dX5_lots_76 rfl hl (by decide) (by first | rfl | simp [re_cat, cat_i, cat_l, cat_r]) (fun ls hl => ?_)
        refine lv_aload_n hx hb dX5_lots_77 rfl (lv_at hl 1 rfl) ?_
        refine lv_lload_n hx hb dX5_lots_78 rfl (lv_at hl 0 rfl) ?_
        refine f_v (kV (As := [.long ((x3 * 48271) - (x3 * 48271) / 2147483647 * 2147483647)]) (rest := []) (o := some x0) rfl ⟨hx, hb, hml, hown, hts⟩ (c_X5_doByLot l D cs ad x0 ((x3 * 48271) - (x3 * 48271) / 2147483647 * 2147483647) σ _ hk0) (cwV 1 hts gX5_lots_X5_doByLot rfl rfl rfl (by decide +kernel) ⟨Nat.le_of_ble_eq_true rfl, Nat.le_of_ble_eq_true rfl⟩) hE hP rfl rfl (w_4 hE hk0) h rfl hl.1 rfl (by first | exact lv_room (Nat.le_of_ble_eq_true rfl) | (refine lv_room ?_; simp [re_cat, cat_i, cat_l, cat_r])) dX5_lots_79 ⟨Nat.le_refl _, Nat.le_refl _⟩) hS (fun s5 H locs h hP hS => ?_)
        refine lv_iinc (v := x5 + 1) (lv' := [(5, .int (x5 + 1)), (3, .long ((x3 * 48271) - (x3 * 48271) / 2147483647 * 2147483647)), (0, .ref (ad x0)), (1, .int x1)]) hx hb dX5_lots_82 hl (k := 3) rfl rfl (by decide) (by first | rfl | simp [re_cat, cat_i, cat_l, cat_r]) (fun ls hl => ?_)
        refine lv_goto (tgt := 61) hx hb dX5_lots_85 (by decide) ?_
        exact ih x1 ((x3 * 48271) - (x3 * 48271) / 2147483647 * 2147483647) (x5 + 1) s5 H locs ls h hP hS (lv_sub hl [2, 3, 1, 0] rfl)
  unfold p_X5_lots at h
  refine lv_iload_n hx hb dX5_lots_0 rfl (lv_at hl 1 rfl) ?_
  refine lv_iconst (v := 1) hx hb dX5_lots_1 (by decide) ?_
  refine lv_icmp_lt (tgt := 23) hx hb dX5_lots_2 (by decide) (fun c1 => ?_) (fun c1 => ?_)
  · replace h := h.1 c1
    refine lv_iconst (v := (-1)) hx hb dX5_lots_23 (by decide) ?_
    exact W.iret hx hb hr (fun t ht hW => ⟨⟨_, _, rfl, h, pw ht hP⟩, hS.F ht⟩) hS.2.2 dX5_lots_24
  · replace h := h.2 c1
    refine lv_iload_n hx hb dX5_lots_5 rfl (lv_at hl 1 rfl) ?_
    refine lv_bipush (v := 20) hx hb dX5_lots_6 (by decide) ?_
    refine lv_icmp_gt (tgt := 23) hx hb dX5_lots_8 (by decide) (fun c2 => ?_) (fun c2 => ?_)
    · replace h := h.1 c2
      refine lv_iconst (v := (-1)) hx hb dX5_lots_23 (by decide) ?_
      exact W.iret hx hb hr (fun t ht hW => ⟨⟨_, _, rfl, h, pw ht hP⟩, hS.F ht⟩) hS.2.2 dX5_lots_24
    · replace h := h.2 c2
      refine lv_iload_n hx hb dX5_lots_11 rfl (lv_at hl 2 rfl) ?_
      refine lv_iconst (v := 1) hx hb dX5_lots_12 (by decide) ?_
      refine lv_icmp_lt (tgt := 23) hx hb dX5_lots_13 (by decide) (fun c3 => ?_) (fun c3 => ?_)
      · replace h := h.1 c3
        refine lv_iconst (v := (-1)) hx hb dX5_lots_23 (by decide) ?_
        exact W.iret hx hb hr (fun t ht hW => ⟨⟨_, _, rfl, h, pw ht hP⟩, hS.F ht⟩) hS.2.2 dX5_lots_24
      · replace h := h.2 c3
        refine lv_iload_n hx hb dX5_lots_16 rfl (lv_at hl 2 rfl) ?_
        refine lv_ldcw (v := 2147483647) hx hb hown (hts (.constant RX5 283 (2147483647)) (by decide +kernel)) dX5_lots_17 ?_
        refine lv_icmp_lt (tgt := 25) hx hb dX5_lots_20 (by decide) (fun c4 => ?_) (fun c4 => ?_)
        · replace h := h.1 c4
          refine lv_aload_n hx hb dX5_lots_25 rfl (lv_at hl 0 rfl) ?_
          refine va_get (ci := 4) (v := va_re ad (tX x0 3)) (C := RX5) (T := TX5) (N := 12) hx hb hts hi_X5 hown hE.1 hP x0 (w_4 hE hk0) rfl 3 (by decide) (hts (.fieldLink RX5 33 "HemLine" "now" "LHemLine$Delta;") (by decide +kernel)) (fun _ h9 => h9) rfl dX5_lots_26 ?_
          obtain ⟨k5, e6, q7, h⟩ := h
          refine r_known (ad := ad) e6 ?_
          refine va_getN (ci := 0) (v := .int (gI s0 k5 0)) (C := RX0) (T := TX0) (N := 15) hx hb hts hi_X0 hown hE.1 hP k5 (w_0 hE q7) rfl 0 (by decide) ((hE.2.2.2.1 ("HemLine", 126, "HemLine$Delta", "women", "I", "HemLine") (by decide +kernel)).use rfl) (fun _ h9 => h9) rfl dX5_lots_29 ?_
          refine lv_if_gt (tgt := 38) hx hb dX5_lots_32 (by decide) (fun c8 => ?_) (fun c8 => ?_)
          · replace h := h.1 c8
            refine lv_aload_n hx hb dX5_lots_38 rfl (lv_at hl 0 rfl) ?_
            refine va_get (ci := 4) (v := va_re ad (tX x0 3)) (C := RX5) (T := TX5) (N := 12) hx hb hts hi_X5 hown hE.1 hP x0 (w_4 hE hk0) rfl 3 (by decide) (hts (.fieldLink RX5 33 "HemLine" "now" "LHemLine$Delta;") (by decide +kernel)) (fun _ h9 => h9) rfl dX5_lots_39 ?_
            obtain ⟨k9, e10, q11, h⟩ := h
            refine r_known (ad := ad) e10 ?_
            refine va_getN (ci := 0) (v := .int (gI s0 k9 3)) (C := RX0) (T := TX0) (N := 15) hx hb hts hi_X0 hown hE.1 hP k9 (w_0 hE q11) rfl 3 (by decide) ((hE.2.2.2.1 ("HemLine", 170, "HemLine$Delta", "deeds", "I", "HemLine") (by decide +kernel)).use rfl) (fun _ h9 => h9) rfl dX5_lots_42 ?_
            refine lv_iload_n hx hb dX5_lots_45 rfl (lv_at hl 1 rfl) ?_
            refine lv_iadd hx hb dX5_lots_46 ?_
            refine lv_bipush (v := 40) hx hb dX5_lots_47 (by decide) ?_
            refine lv_icmp_le (tgt := 55) hx hb dX5_lots_49 (by decide) (fun c12 => ?_) (fun c12 => ?_)
            · replace h := h.1 c12
              refine lv_iload_n hx hb dX5_lots_55 rfl (lv_at hl 2 rfl) ?_
              refine lv_i2l hx hb dX5_lots_56 rfl ?_
              refine lv_lstore_n (i := 3) (lv' := [(3, .long (x2.toInt64)), (0, .ref (ad x0)), (1, .int x1), (2, .int x2)]) hx hb dX5_lots_57 rfl hl (by decide) (by first | rfl | simp [re_cat, cat_i, cat_l, cat_r]) (fun ls hl => ?_)
              refine lv_iconst (v := 0) hx hb dX5_lots_58 (by decide) ?_
              refine lv_istore (i := 5) (lv' := [(5, .int 0), (3, .long (x2.toInt64)), (0, .ref (ad x0)), (1, .int x1), (2, .int x2)]) hx hb dX5_lots_59 hl (by decide) (by first | rfl | simp [re_cat, cat_i, cat_l, cat_r]) (fun ls hl => ?_)
              obtain ⟨n13, h⟩ := h
              exact hB61 n13 x1 x2.toInt64 0 s0 _ _ ls h hP hS (lv_sub hl [2, 3, 1, 0] rfl)
            · replace h := h.2 c12
              refine lv_bipush (v := (-2)) hx hb dX5_lots_52 (by decide) ?_
              exact W.iret hx hb hr (fun t ht hW => ⟨⟨_, _, rfl, h, pw ht hP⟩, hS.F ht⟩) hS.2.2 dX5_lots_54
          · replace h := h.2 c8
            refine lv_bipush (v := (-4)) hx hb dX5_lots_35 (by decide) ?_
            exact W.iret hx hb hr (fun t ht hW => ⟨⟨_, _, rfl, h, pw ht hP⟩, hS.F ht⟩) hS.2.2 dX5_lots_37
        · replace h := h.2 c4
          refine lv_iconst (v := (-1)) hx hb dX5_lots_23 (by decide) ?_
          exact W.iret hx hb hr (fun t ht hW => ⟨⟨_, _, rfl, h, pw ht hP⟩, hS.F ht⟩) hS.2.2 dX5_lots_24
def p_X5_asked (x0 : Nat) (s : Sg) (Q : Int32 → Sg → Prop) : Prop := Q (gI s x0 9) s
set_option maxHeartbeats 4000000 in
set_option maxRecDepth 100000 in
theorem c_X5_asked (l : Launch) (D : va_G) (cs : Cs) (ad : Nat → Nat) (x0 : Nat) (s0 : Sg) (Q : Int32 → Sg → Prop) (hk0 : kX x0 = 4) : Met l yX5_asked wsX5_asked { frames := 0, cells := 0, slots := 0, locals := 0 } (Pc0 bX D cs ad [.ref (ad x0)] s0 (p_X5_asked x0 s0 Q)) (QI bX D cs ad Q) 0 0 (fAd bX ad) := by
  refine Met.ofW (cc := cX5_asked) (maxL := 1) (ret := (some .int)) (by decide) rfl ?_
  intro p e s m args below meth c s₁ B0 hml hv
  obtain ⟨ha, hP, hE, h⟩ := hv
  have hx := B0.exec
  have hb := B0.bytes
  have hr := B0.returns
  have hts := atoms_spec (ws := wsX5_asked) B0.pre
  have hown : s.vm.findClass RX5 = some m.cls := findClass_of_methodNamed B0.named
  have hlocks := B0.notSynchronized
  have hi_X5 : ∀ w ∈ u_ws RX5 TX5 12, w ∈ wsX5_asked := by decide +kernel
  have hS : va_S (fAd bX ad) s.heap s.heap [] := va_S.rf
  have hl := lv_entry ([.ref (ad x0)]) (n := 1) (by first | exact Nat.le_of_ble_eq_true rfl | simp [lg_sl, re_cat, cat_i, cat_l, cat_r])
  rw [show entryFrame m args 1 = entryFrame m ([.ref (ad x0)] : List Value).toArray 1 by rw [ha], lg_entry_eq]
  generalize (lg_sl ([.ref (ad x0)]) ++ List.replicate (1 - (lg_sl ([.ref (ad x0)])).length) Slot.unset).toArray = ls at hl ⊢
  have hl : lv_has ls 1 [(0, .ref (ad x0))] := by first | exact hl | simpa [lv_args, re_cat, cat_i, cat_l, cat_r] using hl
  unfold p_X5_asked at h
  refine lv_aload_n hx hb dX5_asked_0 rfl (lv_at hl 0 rfl) ?_
  refine va_get (ci := 4) (v := .int (gI s0 x0 9)) (C := RX5) (T := TX5) (N := 12) hx hb hts hi_X5 hown hE.1 hP x0 (w_4 hE hk0) rfl 9 (by decide) (hts (.fieldLink RX5 71 "HemLine" "told" "I") (by decide +kernel)) (fun _ h9 => h9) rfl dX5_asked_1 ?_
  exact W.iret hx hb hr (fun t ht hW => ⟨⟨_, _, rfl, h, pw ht hP⟩, hS.F ht⟩) hS.2.2 dX5_asked_4
def p_X5_upper (x0 : Nat) (s : Sg) (Q : Int64 → Sg → Prop) : Prop := Q (gJ s x0 10) s
set_option maxHeartbeats 4000000 in
set_option maxRecDepth 100000 in
theorem c_X5_upper (l : Launch) (D : va_G) (cs : Cs) (ad : Nat → Nat) (x0 : Nat) (s0 : Sg) (Q : Int64 → Sg → Prop) (hk0 : kX x0 = 4) : Met l yX5_upper wsX5_upper { frames := 0, cells := 0, slots := 0, locals := 0 } (Pc0 bX D cs ad [.ref (ad x0)] s0 (p_X5_upper x0 s0 Q)) (QL bX D cs ad Q) 0 0 (fAd bX ad) := by
  refine Met.ofW (cc := cX5_upper) (maxL := 1) (ret := (some .long)) (by decide) rfl ?_
  intro p e s m args below meth c s₁ B0 hml hv
  obtain ⟨ha, hP, hE, h⟩ := hv
  have hx := B0.exec
  have hb := B0.bytes
  have hr := B0.returns
  have hts := atoms_spec (ws := wsX5_upper) B0.pre
  have hown : s.vm.findClass RX5 = some m.cls := findClass_of_methodNamed B0.named
  have hlocks := B0.notSynchronized
  have hi_X5 : ∀ w ∈ u_ws RX5 TX5 12, w ∈ wsX5_upper := by decide +kernel
  have hS : va_S (fAd bX ad) s.heap s.heap [] := va_S.rf
  have hl := lv_entry ([.ref (ad x0)]) (n := 1) (by first | exact Nat.le_of_ble_eq_true rfl | simp [lg_sl, re_cat, cat_i, cat_l, cat_r])
  rw [show entryFrame m args 1 = entryFrame m ([.ref (ad x0)] : List Value).toArray 1 by rw [ha], lg_entry_eq]
  generalize (lg_sl ([.ref (ad x0)]) ++ List.replicate (1 - (lg_sl ([.ref (ad x0)])).length) Slot.unset).toArray = ls at hl ⊢
  have hl : lv_has ls 1 [(0, .ref (ad x0))] := by first | exact hl | simpa [lv_args, re_cat, cat_i, cat_l, cat_r] using hl
  unfold p_X5_upper at h
  refine lv_aload_n hx hb dX5_upper_0 rfl (lv_at hl 0 rfl) ?_
  refine va_get (ci := 4) (v := .long (gJ s0 x0 10)) (C := RX5) (T := TX5) (N := 12) hx hb hts hi_X5 hown hE.1 hP x0 (w_4 hE hk0) rfl 10 (by decide) (hts (.fieldLink RX5 292 "HemLine" "upperTold" "J") (by decide +kernel)) (fun _ h9 => h9) rfl dX5_upper_1 ?_
  exact W.lret hx hb hr (fun t ht hW => ⟨⟨_, _, rfl, h, pw ht hP⟩, hS.F ht⟩) hS.2.2 dX5_upper_4
def p_X5_lower (x0 : Nat) (s : Sg) (Q : Int64 → Sg → Prop) : Prop := Q (gJ s x0 11) s
set_option maxHeartbeats 4000000 in
set_option maxRecDepth 100000 in
theorem c_X5_lower (l : Launch) (D : va_G) (cs : Cs) (ad : Nat → Nat) (x0 : Nat) (s0 : Sg) (Q : Int64 → Sg → Prop) (hk0 : kX x0 = 4) : Met l yX5_lower wsX5_lower { frames := 0, cells := 0, slots := 0, locals := 0 } (Pc0 bX D cs ad [.ref (ad x0)] s0 (p_X5_lower x0 s0 Q)) (QL bX D cs ad Q) 0 0 (fAd bX ad) := by
  refine Met.ofW (cc := cX5_lower) (maxL := 1) (ret := (some .long)) (by decide) rfl ?_
  intro p e s m args below meth c s₁ B0 hml hv
  obtain ⟨ha, hP, hE, h⟩ := hv
  have hx := B0.exec
  have hb := B0.bytes
  have hr := B0.returns
  have hts := atoms_spec (ws := wsX5_lower) B0.pre
  have hown : s.vm.findClass RX5 = some m.cls := findClass_of_methodNamed B0.named
  have hlocks := B0.notSynchronized
  have hi_X5 : ∀ w ∈ u_ws RX5 TX5 12, w ∈ wsX5_lower := by decide +kernel
  have hS : va_S (fAd bX ad) s.heap s.heap [] := va_S.rf
  have hl := lv_entry ([.ref (ad x0)]) (n := 1) (by first | exact Nat.le_of_ble_eq_true rfl | simp [lg_sl, re_cat, cat_i, cat_l, cat_r])
  rw [show entryFrame m args 1 = entryFrame m ([.ref (ad x0)] : List Value).toArray 1 by rw [ha], lg_entry_eq]
  generalize (lg_sl ([.ref (ad x0)]) ++ List.replicate (1 - (lg_sl ([.ref (ad x0)])).length) Slot.unset).toArray = ls at hl ⊢
  have hl : lv_has ls 1 [(0, .ref (ad x0))] := by first | exact hl | simpa [lv_args, re_cat, cat_i, cat_l, cat_r] using hl
  unfold p_X5_lower at h
  refine lv_aload_n hx hb dX5_lower_0 rfl (lv_at hl 0 rfl) ?_
  refine va_get (ci := 4) (v := .long (gJ s0 x0 11)) (C := RX5) (T := TX5) (N := 12) hx hb hts hi_X5 hown hE.1 hP x0 (w_4 hE hk0) rfl 11 (by decide) (hts (.fieldLink RX5 55 "HemLine" "lowerTold" "J") (by decide +kernel)) (fun _ h9 => h9) rfl dX5_lower_1 ?_
  exact W.lret hx hb hr (fun t ht hW => ⟨⟨_, _, rfl, h, pw ht hP⟩, hS.F ht⟩) hS.2.2 dX5_lower_4
def p_X5_deedsKept_b17 (Q : Int32 → Sg → Prop)   (s : Sg) : Prop := Q ((-1)) s
def p_X5_deedsKept (x0 : Nat) (x1 : Int32) (s : Sg) (Q : Int32 → Sg → Prop) : Prop := p_X5_keptAt x0 x1 s (fun r2 s1 => ((r2 = none → p_X5_deedsKept_b17 Q  s1) ∧ (¬ r2 = none → ∃ k4, r2 = some k4 ∧ kX k4 = 0 ∧ (((gI s1 k4 0) = 0 → p_X5_deedsKept_b17 Q  s1) ∧ (¬ (gI s1 k4 0) = 0 → ∃ k8, r2 = some k8 ∧ kX k8 = 0 ∧ Q (gI s1 k8 3) s1)))))
set_option maxHeartbeats 4000000 in
set_option maxRecDepth 100000 in
theorem c_X5_deedsKept (l : Launch) (D : va_G) (cs : Cs) (ad : Nat → Nat) (x0 : Nat) (x1 : Int32) (s0 : Sg) (Q : Int32 → Sg → Prop) (hk0 : kX x0 = 4) : Met l yX5_deedsKept wsX5_deedsKept { frames := 1, cells := 0, slots := 0, locals := 21 } (Pc0 bX D cs ad [.ref (ad x0), .int x1] s0 (p_X5_deedsKept x0 x1 s0 Q)) (QI bX D cs ad Q) 0 0 (fAd bX ad) := by
  refine Met.ofW (cc := cX5_deedsKept) (maxL := 3) (ret := (some .int)) (by decide) rfl ?_
  intro p e s m args below meth c s₁ B0 hml hv
  obtain ⟨ha, hP, hE, h⟩ := hv
  have hx := B0.exec
  have hb := B0.bytes
  have hr := B0.returns
  have hts := atoms_spec (ws := wsX5_deedsKept) B0.pre
  have hown : s.vm.findClass RX5 = some m.cls := findClass_of_methodNamed B0.named
  have hlocks := B0.notSynchronized
  have hi_X0 : ∀ w ∈ u_ws RX0 TX0 15, w ∈ wsX5_deedsKept := by decide +kernel
  have hS : va_S (fAd bX ad) s.heap s.heap [] := va_S.rf
  have hl := lv_entry ([.ref (ad x0), .int x1]) (n := 3) (by first | exact Nat.le_of_ble_eq_true rfl | simp [lg_sl, re_cat, cat_i, cat_l, cat_r])
  rw [show entryFrame m args 3 = entryFrame m ([.ref (ad x0), .int x1] : List Value).toArray 3 by rw [ha], lg_entry_eq]
  generalize (lg_sl ([.ref (ad x0), .int x1]) ++ List.replicate (3 - (lg_sl ([.ref (ad x0), .int x1])).length) Slot.unset).toArray = ls at hl ⊢
  have hl : lv_has ls 3 [(0, .ref (ad x0)), (1, .int x1)] := by first | exact hl | simpa [lv_args, re_cat, cat_i, cat_l, cat_r] using hl
  have hB17 : ∀  (σ : Sg) (H : Heap) (locs : List Loc) (ls : Array Slot), p_X5_deedsKept_b17 Q   σ → va_P D vwCl (wl bX cs ad σ) H → va_S (fAd bX ad) s.heap H locs → lv_has ls 3 [] → W p l e { frames := 1, cells := 0, slots := 0, locals := 21 } s m args below meth c H locs 0 0 (MQ below (QI bX D cs ad Q) args s 0 0 (fAd bX ad)) (F0 m 17 ls []) := by
    intro  σ H locs ls h hP hS hl
    unfold p_X5_deedsKept_b17 at h
    refine lv_iconst (v := (-1)) hx hb dX5_deedsKept_17 (by decide) ?_
    refine lv_goto (tgt := 25) hx hb dX5_deedsKept_18 (by decide) ?_
    exact W.iret hx hb hr (fun t ht hW => ⟨⟨_, _, rfl, h, pw ht hP⟩, hS.F ht⟩) hS.2.2 dX5_deedsKept_25
  unfold p_X5_deedsKept at h
  refine lv_aload_n hx hb dX5_deedsKept_0 rfl (lv_at hl 0 rfl) ?_
  refine lv_iload_n hx hb dX5_deedsKept_1 rfl (lv_at hl 1 rfl) ?_
  refine f_e (kV (As := [.int x1]) (rest := []) (o := some x0) rfl ⟨hx, hb, hml, hown, hts⟩ (c_X5_keptAt l D cs ad x0 x1 s0 _ hk0) (cwV 1 hts gX5_deedsKept_X5_keptAt rfl rfl rfl (by decide +kernel) ⟨Nat.le_of_ble_eq_true rfl, Nat.le_of_ble_eq_true rfl⟩) hE hP rfl rfl (w_4 hE hk0) h rfl hl.1 rfl (by first | exact lv_room (Nat.le_of_ble_eq_true rfl) | (refine lv_room ?_; simp [re_cat, cat_i, cat_l, cat_r])) dX5_deedsKept_2 ⟨Nat.le_refl _, Nat.le_refl _⟩) hS (fun r2 s1 H locs h hP hS => ?_)
  refine r_astore_n (i := 2) (lv' := [(2, va_re ad r2), (0, .ref (ad x0)), (1, .int x1)]) hx hb dX5_deedsKept_5 rfl hl (by decide) (by first | rfl | simp [re_cat, cat_i, cat_l, cat_r]) (fun ls hl => ?_)
  refine r_aload_n hx hb dX5_deedsKept_6 rfl (lv_at hl 0 rfl) ?_
  refine r_ifnull (tgt := 17) hx hb dX5_deedsKept_7 (by decide) (fun c3 => ?_) (fun c3 => ?_)
  · replace h := h.1 c3
    exact hB17  s1 _ _ ls h hP hS (lv_sub hl [] rfl)
  · replace h := h.2 c3
    refine r_aload_n hx hb dX5_deedsKept_10 rfl (lv_at hl 0 rfl) ?_
    obtain ⟨k4, e5, q6, h⟩ := h
    refine r_known (ad := ad) e5 ?_
    refine va_getN (ci := 0) (v := .int (gI s1 k4 0)) (C := RX0) (T := TX0) (N := 15) hx hb hts hi_X0 hown hE.1 hP k4 (w_0 hE q6) rfl 0 (by decide) ((hE.2.2.2.1 ("HemLine", 126, "HemLine$Delta", "women", "I", "HemLine") (by decide +kernel)).use rfl) (fun _ h9 => h9) rfl dX5_deedsKept_11 ?_
    refine lv_if_ne (tgt := 21) hx hb dX5_deedsKept_14 (by decide) (fun c7 => ?_) (fun c7 => ?_)
    · replace h := h.2 c7
      refine r_aload_n hx hb dX5_deedsKept_21 rfl (lv_at hl 0 rfl) ?_
      obtain ⟨k8, e9, q10, h⟩ := h
      refine r_known (ad := ad) e9 ?_
      refine va_getN (ci := 0) (v := .int (gI s1 k8 3)) (C := RX0) (T := TX0) (N := 15) hx hb hts hi_X0 hown hE.1 hP k8 (w_0 hE q10) rfl 3 (by decide) ((hE.2.2.2.1 ("HemLine", 170, "HemLine$Delta", "deeds", "I", "HemLine") (by decide +kernel)).use rfl) (fun _ h9 => h9) rfl dX5_deedsKept_22 ?_
      exact W.iret hx hb hr (fun t ht hW => ⟨⟨_, _, rfl, h, pw ht hP⟩, hS.F ht⟩) hS.2.2 dX5_deedsKept_25
    · replace h := h.1 c7
      exact hB17  s1 _ _ ls h hP hS (lv_sub hl [] rfl)
def p_X5_howManyKept_b25 (Q : Int32 → Sg → Prop) (K4 : Nat → Int32 → Int32 → Sg → Prop) (x0 : Nat) (x1 : Int32) (x2 : Int32) (s : Sg) : Prop := K4 x0 x1 (x2 + 1) s
def p_X5_howManyKept_L4 (Q : Int32 → Sg → Prop)  : Nat → Nat → Int32 → Int32 → Sg → Prop
  | 0, _, _, _, _ => False
  | n + 1, x0, x1, x2, s => ∃ k1, tX x0 4 = some k1 ∧ (kX k1 = 7 ∨ kX k1 = 8 ∨ kX k1 = 9) ∧ (((nI (lX k1)) ≤ x2 → Q x1 s) ∧ (¬ (nI (lX k1)) ≤ x2 → p_X5_deedsKept x0 x2 s (fun r6 s5 => ((r6 = ((-1)) → p_X5_howManyKept_b25 Q (fun y0 y1 y2 u => p_X5_howManyKept_L4 Q  n y0 y1 y2 u) x0 x1 x2 s5) ∧ (¬ r6 = ((-1)) → p_X5_howManyKept_b25 Q (fun y0 y1 y2 u => p_X5_howManyKept_L4 Q  n y0 y1 y2 u) x0 (x1 + 1) x2 s5)))))
def p_X5_howManyKept (x0 : Nat) (s : Sg) (Q : Int32 → Sg → Prop) : Prop := (∃ n1, p_X5_howManyKept_L4 Q  n1 x0 0 0 s)
set_option maxHeartbeats 4000000 in
set_option maxRecDepth 100000 in
theorem c_X5_howManyKept (l : Launch) (D : va_G) (cs : Cs) (ad : Nat → Nat) (x0 : Nat) (s0 : Sg) (Q : Int32 → Sg → Prop) (hk0 : kX x0 = 4) : Met l yX5_howManyKept wsX5_howManyKept { frames := 2, cells := 0, slots := 0, locals := 43 } (Pc0 bX D cs ad [.ref (ad x0)] s0 (p_X5_howManyKept x0 s0 Q)) (QI bX D cs ad Q) 0 0 (fAd bX ad) := by
  refine Met.ofW (cc := cX5_howManyKept) (maxL := 3) (ret := (some .int)) (by decide) rfl ?_
  intro p e s m args below meth c s₁ B0 hml hv
  obtain ⟨ha, hP, hE, h⟩ := hv
  have hx := B0.exec
  have hb := B0.bytes
  have hr := B0.returns
  have hts := atoms_spec (ws := wsX5_howManyKept) B0.pre
  have hown : s.vm.findClass RX5 = some m.cls := findClass_of_methodNamed B0.named
  have hlocks := B0.notSynchronized
  have hi_X5 : ∀ w ∈ u_ws RX5 TX5 12, w ∈ wsX5_howManyKept := by decide +kernel
  have hS : va_S (fAd bX ad) s.heap s.heap [] := va_S.rf
  have hl := lv_entry ([.ref (ad x0)]) (n := 3) (by first | exact Nat.le_of_ble_eq_true rfl | simp [lg_sl, re_cat, cat_i, cat_l, cat_r])
  rw [show entryFrame m args 3 = entryFrame m ([.ref (ad x0)] : List Value).toArray 3 by rw [ha], lg_entry_eq]
  generalize (lg_sl ([.ref (ad x0)]) ++ List.replicate (3 - (lg_sl ([.ref (ad x0)])).length) Slot.unset).toArray = ls at hl ⊢
  have hl : lv_has ls 3 [(0, .ref (ad x0))] := by first | exact hl | simpa [lv_args, re_cat, cat_i, cat_l, cat_r] using hl
  have hB4 : ∀ (n4 : Nat) (x1 : Int32) (x2 : Int32) (σ : Sg) (H : Heap) (locs : List Loc) (ls : Array Slot), p_X5_howManyKept_L4 Q  n4 x0 x1 x2 σ → va_P D vwCl (wl bX cs ad σ) H → va_S (fAd bX ad) s.heap H locs → lv_has ls 3 [(0, .ref (ad x0)), (1, .int x1), (2, .int x2)] → W p l e { frames := 2, cells := 0, slots := 0, locals := 43 } s m args below meth c H locs 0 0 (MQ below (QI bX D cs ad Q) args s 0 0 (fAd bX ad)) (F0 m 4 ls []) := by
    intro n4
    induction n4 with
    | zero =>
      intro x1 x2 σ H locs ls h
      exact h.elim
    | succ n4 ih =>
      have hK4 := ih
      have hB25 : ∀ (x1 : Int32) (x2 : Int32) (σ : Sg) (H : Heap) (locs : List Loc) (ls : Array Slot), p_X5_howManyKept_b25 Q (fun y0 y1 y2 u => p_X5_howManyKept_L4 Q  n4 y0 y1 y2 u) x0 x1 x2 σ → va_P D vwCl (wl bX cs ad σ) H → va_S (fAd bX ad) s.heap H locs → lv_has ls 3 [(0, .ref (ad x0)), (1, .int x1), (2, .int x2)] → W p l e { frames := 2, cells := 0, slots := 0, locals := 43 } s m args below meth c H locs 0 0 (MQ below (QI bX D cs ad Q) args s 0 0 (fAd bX ad)) (F0 m 25 ls []) := by
        intro x1 x2 σ H locs ls h hP hS hl
        unfold p_X5_howManyKept_b25 at h
        refine lv_iinc (v := x2 + 1) (lv' := [(2, .int (x2 + 1)), (0, .ref (ad x0)), (1, .int x1)]) hx hb dX5_howManyKept_25 hl (k := 2) rfl rfl (by decide) (by first | rfl | simp [re_cat, cat_i, cat_l, cat_r]) (fun ls hl => ?_)
        refine lv_goto (tgt := 4) hx hb dX5_howManyKept_28 (by decide) ?_
        exact hK4 x1 (x2 + 1) σ H locs ls h hP hS (lv_sub hl [1, 2, 0] rfl)
      intro x1 x2 σ H locs ls h hP hS hl
      rw [p_X5_howManyKept_L4] at h
      refine lv_iload_n hx hb dX5_howManyKept_4 rfl (lv_at hl 2 rfl) ?_
      refine lv_aload_n hx hb dX5_howManyKept_5 rfl (lv_at hl 0 rfl) ?_
      refine va_get (ci := 4) (v := va_re ad (tX x0 4)) (C := RX5) (T := TX5) (N := 12) hx hb hts hi_X5 hown hE.1 hP x0 (w_4 hE hk0) rfl 4 (by decide) (hts (.fieldLink RX5 37 "HemLine" "kept" "[LHemLine$Delta;") (by decide +kernel)) (fun _ h9 => h9) rfl dX5_howManyKept_6 ?_
      obtain ⟨k1, e2, q3, h⟩ := h
      refine r_alen hx hb hE hP e2 q3 dX5_howManyKept_9 ?_
      refine lv_icmp_ge (tgt := 31) hx hb dX5_howManyKept_10 (by decide) (fun c4 => ?_) (fun c4 => ?_)
      · replace h := h.1 c4
        refine lv_iload_n hx hb dX5_howManyKept_31 rfl (lv_at hl 1 rfl) ?_
        exact W.iret hx hb hr (fun t ht hW => ⟨⟨_, _, rfl, h, pw ht hP⟩, hS.F ht⟩) hS.2.2 dX5_howManyKept_32
      · replace h := h.2 c4
        refine lv_aload_n hx hb dX5_howManyKept_13 rfl (lv_at hl 0 rfl) ?_
        refine lv_iload_n hx hb dX5_howManyKept_14 rfl (lv_at hl 2 rfl) ?_
        refine f_i (kV (As := [.int x2]) (rest := []) (o := some x0) rfl ⟨hx, hb, hml, hown, hts⟩ (c_X5_deedsKept l D cs ad x0 x2 σ _ hk0) (cwV 1 hts gX5_howManyKept_X5_deedsKept rfl rfl rfl (by decide +kernel) ⟨Nat.le_of_ble_eq_true rfl, Nat.le_of_ble_eq_true rfl⟩) hE hP rfl rfl (w_4 hE hk0) h rfl hl.1 rfl (by first | exact lv_room (Nat.le_of_ble_eq_true rfl) | (refine lv_room ?_; simp [re_cat, cat_i, cat_l, cat_r])) dX5_howManyKept_15 ⟨Nat.le_refl _, Nat.le_refl _⟩) hS (fun r6 s5 H locs h hP hS => ?_)
        refine lv_iconst (v := (-1)) hx hb dX5_howManyKept_18 (by decide) ?_
        refine lv_icmp_eq (tgt := 25) hx hb dX5_howManyKept_19 (by decide) (fun c7 => ?_) (fun c7 => ?_)
        · replace h := h.1 c7
          exact hB25 x1 x2 s5 H locs ls h hP hS (lv_sub hl [0, 1, 2] rfl)
        · replace h := h.2 c7
          refine lv_iinc (v := x1 + 1) (lv' := [(1, .int (x1 + 1)), (0, .ref (ad x0)), (2, .int x2)]) hx hb dX5_howManyKept_22 hl (k := 1) rfl rfl (by decide) (by first | rfl | simp [re_cat, cat_i, cat_l, cat_r]) (fun ls hl => ?_)
          exact hB25 (x1 + 1) x2 s5 H locs ls h hP hS (lv_sub hl [1, 0, 2] rfl)
  unfold p_X5_howManyKept at h
  refine lv_iconst (v := 0) hx hb dX5_howManyKept_0 (by decide) ?_
  refine lv_istore_n (i := 1) (lv' := [(1, .int 0), (0, .ref (ad x0))]) hx hb dX5_howManyKept_1 rfl hl (by decide) (by first | rfl | simp [re_cat, cat_i, cat_l, cat_r]) (fun ls hl => ?_)
  refine lv_iconst (v := 0) hx hb dX5_howManyKept_2 (by decide) ?_
  refine lv_istore_n (i := 2) (lv' := [(2, .int 0), (1, .int 0), (0, .ref (ad x0))]) hx hb dX5_howManyKept_3 rfl hl (by decide) (by first | rfl | simp [re_cat, cat_i, cat_l, cat_r]) (fun ls hl => ?_)
  obtain ⟨n1, h⟩ := h
  exact hB4 n1 0 0 s0 _ _ ls h hP hS (lv_sub hl [2, 1, 0] rfl)
def p_X5_count (x0 : Nat) (x1 : Int32) (s : Sg) (Q : Int32 → Sg → Prop) : Prop := ((x1 = 0 → ∃ k3, tX x0 3 = some k3 ∧ kX k3 = 0 ∧ Q (gI s k3 0) s) ∧ (¬ x1 = 0 → ((x1 = 1 → ∃ k7, tX x0 3 = some k7 ∧ kX k7 = 0 ∧ Q (gI s k7 2) s) ∧ (¬ x1 = 1 → ((x1 = 2 → ∃ k11, tX x0 3 = some k11 ∧ kX k11 = 0 ∧ Q (gI s k11 3) s) ∧ (¬ x1 = 2 → ((x1 = 3 → ∃ k15, tX x0 3 = some k15 ∧ kX k15 = 0 ∧ Q (gI s k15 1) s) ∧ (¬ x1 = 3 → ((x1 = 4 → ∃ k19, tX x0 3 = some k19 ∧ kX k19 = 0 ∧ p_X5_sumOf (tX k19 4) 6 s (fun r23 s22 => Q r23 s22)) ∧ (¬ x1 = 4 → ((x1 = 5 → ∃ k25, tX x0 3 = some k25 ∧ kX k25 = 0 ∧ ∃ k28, tX x0 3 = some k28 ∧ kX k28 = 0 ∧ p_X5_sumOf (tX k25 8) (gI s k28 0) s (fun r32 s31 => Q r32 s31)) ∧ (¬ x1 = 5 → ((x1 = 6 → ∃ k34, tX x0 3 = some k34 ∧ kX k34 = 0 ∧ p_X0_lastHeight k34 s (fun r38 s37 => Q r38 s37)) ∧ (¬ x1 = 6 → ((x1 = 7 → ∃ k40, tX x0 3 = some k40 ∧ kX k40 = 0 ∧ p_X0_howManyOf k40 1 s (fun r44 s43 => Q r44 s43)) ∧ (¬ x1 = 7 → ((x1 = 8 → ∃ k46, tX x0 0 = some k46 ∧ kX k46 = 3 ∧ p_X4_howMany k46 s (fun r50 s49 => Q r50 s49)) ∧ (¬ x1 = 8 → ((x1 = 9 → ∃ k52, tX x0 1 = some k52 ∧ kX k52 = 3 ∧ p_X4_howMany k52 s (fun r56 s55 => Q r56 s55)) ∧ (¬ x1 = 9 → ((x1 = 10 → p_X5_howManyKept x0 s (fun r59 s58 => Q r59 s58)) ∧ (¬ x1 = 10 → Q ((-1)) s))))))))))))))))))))))
set_option maxHeartbeats 4000000 in
set_option maxRecDepth 100000 in
theorem c_X5_count (l : Launch) (D : va_G) (cs : Cs) (ad : Nat → Nat) (x0 : Nat) (x1 : Int32) (s0 : Sg) (Q : Int32 → Sg → Prop) (hk0 : kX x0 = 4) : Met l yX5_count wsX5_count { frames := 4, cells := 0, slots := 0, locals := 85 } (Pc0 bX D cs ad [.ref (ad x0), .int x1] s0 (p_X5_count x0 x1 s0 Q)) (QI bX D cs ad Q) 0 0 (fAd bX ad) := by
  refine Met.ofW (cc := cX5_count) (maxL := 2) (ret := (some .int)) (by decide) rfl ?_
  intro p e s m args below meth c s₁ B0 hml hv
  obtain ⟨ha, hP, hE, h⟩ := hv
  have hx := B0.exec
  have hb := B0.bytes
  have hr := B0.returns
  have hts := atoms_spec (ws := wsX5_count) B0.pre
  have hown : s.vm.findClass RX5 = some m.cls := findClass_of_methodNamed B0.named
  have hlocks := B0.notSynchronized
  have hi_X0 : ∀ w ∈ u_ws RX0 TX0 15, w ∈ wsX5_count := by decide +kernel
  have hi_X5 : ∀ w ∈ u_ws RX5 TX5 12, w ∈ wsX5_count := by decide +kernel
  have hS : va_S (fAd bX ad) s.heap s.heap [] := va_S.rf
  have hl := lv_entry ([.ref (ad x0), .int x1]) (n := 2) (by first | exact Nat.le_of_ble_eq_true rfl | simp [lg_sl, re_cat, cat_i, cat_l, cat_r])
  rw [show entryFrame m args 2 = entryFrame m ([.ref (ad x0), .int x1] : List Value).toArray 2 by rw [ha], lg_entry_eq]
  generalize (lg_sl ([.ref (ad x0), .int x1]) ++ List.replicate (2 - (lg_sl ([.ref (ad x0), .int x1])).length) Slot.unset).toArray = ls at hl ⊢
  have hl : lv_has ls 2 [(0, .ref (ad x0)), (1, .int x1)] := by first | exact hl | simpa [lv_args, re_cat, cat_i, cat_l, cat_r] using hl
  unfold p_X5_count at h
  refine lv_iload_n hx hb dX5_count_0 rfl (lv_at hl 1 rfl) ?_
  by_cases c2 : x1 = 0
  · replace h := h.1 c2
    refine lv_tableIn (off := 59) (tgt := 60) hx hb dX5_count_1 (by rw [c2]; decide) (by rw [c2]; decide) (by rw [c2]; decide) (by decide) ?_
    refine lv_aload_n hx hb dX5_count_60 rfl (lv_at hl 0 rfl) ?_
    refine va_get (ci := 4) (v := va_re ad (tX x0 3)) (C := RX5) (T := TX5) (N := 12) hx hb hts hi_X5 hown hE.1 hP x0 (w_4 hE hk0) rfl 3 (by decide) (hts (.fieldLink RX5 33 "HemLine" "now" "LHemLine$Delta;") (by decide +kernel)) (fun _ h9 => h9) rfl dX5_count_61 ?_
    obtain ⟨k3, e4, q5, h⟩ := h
    refine r_known (ad := ad) e4 ?_
    refine va_getN (ci := 0) (v := .int (gI s0 k3 0)) (C := RX0) (T := TX0) (N := 15) hx hb hts hi_X0 hown hE.1 hP k3 (w_0 hE q5) rfl 0 (by decide) ((hE.2.2.2.1 ("HemLine", 126, "HemLine$Delta", "women", "I", "HemLine") (by decide +kernel)).use rfl) (fun _ h9 => h9) rfl dX5_count_64 ?_
    exact W.iret hx hb hr (fun t ht hW => ⟨⟨_, _, rfl, h, pw ht hP⟩, hS.F ht⟩) hS.2.2 dX5_count_67
  replace h := h.2 c2
  by_cases c6 : x1 = 1
  · replace h := h.1 c6
    refine lv_tableIn (off := 67) (tgt := 68) hx hb dX5_count_1 (by rw [c6]; decide) (by rw [c6]; decide) (by rw [c6]; decide) (by decide) ?_
    refine lv_aload_n hx hb dX5_count_68 rfl (lv_at hl 0 rfl) ?_
    refine va_get (ci := 4) (v := va_re ad (tX x0 3)) (C := RX5) (T := TX5) (N := 12) hx hb hts hi_X5 hown hE.1 hP x0 (w_4 hE hk0) rfl 3 (by decide) (hts (.fieldLink RX5 33 "HemLine" "now" "LHemLine$Delta;") (by decide +kernel)) (fun _ h9 => h9) rfl dX5_count_69 ?_
    obtain ⟨k7, e8, q9, h⟩ := h
    refine r_known (ad := ad) e8 ?_
    refine va_getN (ci := 0) (v := .int (gI s0 k7 2)) (C := RX0) (T := TX0) (N := 15) hx hb hts hi_X0 hown hE.1 hP k7 (w_0 hE q9) rfl 2 (by decide) ((hE.2.2.2.1 ("HemLine", 148, "HemLine$Delta", "years", "I", "HemLine") (by decide +kernel)).use rfl) (fun _ h9 => h9) rfl dX5_count_72 ?_
    exact W.iret hx hb hr (fun t ht hW => ⟨⟨_, _, rfl, h, pw ht hP⟩, hS.F ht⟩) hS.2.2 dX5_count_75
  replace h := h.2 c6
  by_cases c10 : x1 = 2
  · replace h := h.1 c10
    refine lv_tableIn (off := 75) (tgt := 76) hx hb dX5_count_1 (by rw [c10]; decide) (by rw [c10]; decide) (by rw [c10]; decide) (by decide) ?_
    refine lv_aload_n hx hb dX5_count_76 rfl (lv_at hl 0 rfl) ?_
    refine va_get (ci := 4) (v := va_re ad (tX x0 3)) (C := RX5) (T := TX5) (N := 12) hx hb hts hi_X5 hown hE.1 hP x0 (w_4 hE hk0) rfl 3 (by decide) (hts (.fieldLink RX5 33 "HemLine" "now" "LHemLine$Delta;") (by decide +kernel)) (fun _ h9 => h9) rfl dX5_count_77 ?_
    obtain ⟨k11, e12, q13, h⟩ := h
    refine r_known (ad := ad) e12 ?_
    refine va_getN (ci := 0) (v := .int (gI s0 k11 3)) (C := RX0) (T := TX0) (N := 15) hx hb hts hi_X0 hown hE.1 hP k11 (w_0 hE q13) rfl 3 (by decide) ((hE.2.2.2.1 ("HemLine", 170, "HemLine$Delta", "deeds", "I", "HemLine") (by decide +kernel)).use rfl) (fun _ h9 => h9) rfl dX5_count_80 ?_
    exact W.iret hx hb hr (fun t ht hW => ⟨⟨_, _, rfl, h, pw ht hP⟩, hS.F ht⟩) hS.2.2 dX5_count_83
  replace h := h.2 c10
  by_cases c14 : x1 = 3
  · replace h := h.1 c14
    refine lv_tableIn (off := 83) (tgt := 84) hx hb dX5_count_1 (by rw [c14]; decide) (by rw [c14]; decide) (by rw [c14]; decide) (by decide) ?_
    refine lv_aload_n hx hb dX5_count_84 rfl (lv_at hl 0 rfl) ?_
    refine va_get (ci := 4) (v := va_re ad (tX x0 3)) (C := RX5) (T := TX5) (N := 12) hx hb hts hi_X5 hown hE.1 hP x0 (w_4 hE hk0) rfl 3 (by decide) (hts (.fieldLink RX5 33 "HemLine" "now" "LHemLine$Delta;") (by decide +kernel)) (fun _ h9 => h9) rfl dX5_count_85 ?_
    obtain ⟨k15, e16, q17, h⟩ := h
    refine r_known (ad := ad) e16 ?_
    refine va_getN (ci := 0) (v := .int (gI s0 k15 1)) (C := RX0) (T := TX0) (N := 15) hx hb hts hi_X0 hown hE.1 hP k15 (w_0 hE q17) rfl 1 (by decide) ((hE.2.2.2.1 ("HemLine", 192, "HemLine$Delta", "earth", "I", "HemLine") (by decide +kernel)).use rfl) (fun _ h9 => h9) rfl dX5_count_88 ?_
    exact W.iret hx hb hr (fun t ht hW => ⟨⟨_, _, rfl, h, pw ht hP⟩, hS.F ht⟩) hS.2.2 dX5_count_91
  replace h := h.2 c14
  by_cases c18 : x1 = 4
  · replace h := h.1 c18
    refine lv_tableIn (off := 91) (tgt := 92) hx hb dX5_count_1 (by rw [c18]; decide) (by rw [c18]; decide) (by rw [c18]; decide) (by decide) ?_
    refine lv_aload_n hx hb dX5_count_92 rfl (lv_at hl 0 rfl) ?_
    refine va_get (ci := 4) (v := va_re ad (tX x0 3)) (C := RX5) (T := TX5) (N := 12) hx hb hts hi_X5 hown hE.1 hP x0 (w_4 hE hk0) rfl 3 (by decide) (hts (.fieldLink RX5 33 "HemLine" "now" "LHemLine$Delta;") (by decide +kernel)) (fun _ h9 => h9) rfl dX5_count_93 ?_
    obtain ⟨k19, e20, q21, h⟩ := h
    refine r_known (ad := ad) e20 ?_
    refine va_getN (ci := 0) (v := va_re ad (tX k19 4)) (C := RX0) (T := TX0) (N := 15) hx hb hts hi_X0 hown hE.1 hP k19 (w_0 hE q21) rfl 4 (by decide) ((hE.2.2.2.1 ("HemLine", 189, "HemLine$Delta", "ground", "[I", "HemLine") (by decide +kernel)).use rfl) (fun _ h9 => h9) rfl dX5_count_96 ?_
    refine lv_bipush (v := 6) hx hb dX5_count_99 (by decide) ?_
    refine f_i (kS (As := [va_re ad (tX k19 4), .int 6]) (rest := []) ⟨hx, hb, hml, hown, hts⟩ (c_X5_sumOf l D cs ad (tX k19 4) 6 s0 _) (va_cwS 2 hts gX5_count_X5_sumOf rfl rfl rfl (by decide +kernel) ⟨Nat.le_of_ble_eq_true rfl, Nat.le_of_ble_eq_true rfl⟩) hE hP h rfl hl.1 rfl (by first | exact lv_room (Nat.le_of_ble_eq_true rfl) | (refine lv_room ?_; simp [re_cat, cat_i, cat_l, cat_r])) dX5_count_101 ⟨Nat.le_refl _, Nat.le_refl _⟩) hS (fun r23 s22 H locs h hP hS => ?_)
    exact W.iret hx hb hr (fun t ht hW => ⟨⟨_, _, rfl, h, pw ht hP⟩, hS.F ht⟩) hS.2.2 dX5_count_104
  replace h := h.2 c18
  by_cases c24 : x1 = 5
  · replace h := h.1 c24
    refine lv_tableIn (off := 104) (tgt := 105) hx hb dX5_count_1 (by rw [c24]; decide) (by rw [c24]; decide) (by rw [c24]; decide) (by decide) ?_
    refine lv_aload_n hx hb dX5_count_105 rfl (lv_at hl 0 rfl) ?_
    refine va_get (ci := 4) (v := va_re ad (tX x0 3)) (C := RX5) (T := TX5) (N := 12) hx hb hts hi_X5 hown hE.1 hP x0 (w_4 hE hk0) rfl 3 (by decide) (hts (.fieldLink RX5 33 "HemLine" "now" "LHemLine$Delta;") (by decide +kernel)) (fun _ h9 => h9) rfl dX5_count_106 ?_
    obtain ⟨k25, e26, q27, h⟩ := h
    refine r_known (ad := ad) e26 ?_
    refine va_getN (ci := 0) (v := va_re ad (tX k25 8)) (C := RX0) (T := TX0) (N := 15) hx hb hts hi_X0 hown hE.1 hP k25 (w_0 hE q27) rfl 8 (by decide) ((hE.2.2.2.1 ("HemLine", 198, "HemLine$Delta", "tuckOf", "[I", "HemLine") (by decide +kernel)).use rfl) (fun _ h9 => h9) rfl dX5_count_109 ?_
    refine lv_aload_n hx hb dX5_count_112 rfl (lv_at hl 0 rfl) ?_
    refine va_get (ci := 4) (v := va_re ad (tX x0 3)) (C := RX5) (T := TX5) (N := 12) hx hb hts hi_X5 hown hE.1 hP x0 (w_4 hE hk0) rfl 3 (by decide) (hts (.fieldLink RX5 33 "HemLine" "now" "LHemLine$Delta;") (by decide +kernel)) (fun _ h9 => h9) rfl dX5_count_113 ?_
    obtain ⟨k28, e29, q30, h⟩ := h
    refine r_known (ad := ad) e29 ?_
    refine va_getN (ci := 0) (v := .int (gI s0 k28 0)) (C := RX0) (T := TX0) (N := 15) hx hb hts hi_X0 hown hE.1 hP k28 (w_0 hE q30) rfl 0 (by decide) ((hE.2.2.2.1 ("HemLine", 126, "HemLine$Delta", "women", "I", "HemLine") (by decide +kernel)).use rfl) (fun _ h9 => h9) rfl dX5_count_116 ?_
    refine f_i (kS (As := [va_re ad (tX k25 8), .int (gI s0 k28 0)]) (rest := []) ⟨hx, hb, hml, hown, hts⟩ (c_X5_sumOf l D cs ad (tX k25 8) (gI s0 k28 0) s0 _) (va_cwS 2 hts gX5_count_X5_sumOf rfl rfl rfl (by decide +kernel) ⟨Nat.le_of_ble_eq_true rfl, Nat.le_of_ble_eq_true rfl⟩) hE hP h rfl hl.1 rfl (by first | exact lv_room (Nat.le_of_ble_eq_true rfl) | (refine lv_room ?_; simp [re_cat, cat_i, cat_l, cat_r])) dX5_count_119 ⟨Nat.le_refl _, Nat.le_refl _⟩) hS (fun r32 s31 H locs h hP hS => ?_)
    exact W.iret hx hb hr (fun t ht hW => ⟨⟨_, _, rfl, h, pw ht hP⟩, hS.F ht⟩) hS.2.2 dX5_count_122
  replace h := h.2 c24
  by_cases c33 : x1 = 6
  · replace h := h.1 c33
    refine lv_tableIn (off := 122) (tgt := 123) hx hb dX5_count_1 (by rw [c33]; decide) (by rw [c33]; decide) (by rw [c33]; decide) (by decide) ?_
    refine lv_aload_n hx hb dX5_count_123 rfl (lv_at hl 0 rfl) ?_
    refine va_get (ci := 4) (v := va_re ad (tX x0 3)) (C := RX5) (T := TX5) (N := 12) hx hb hts hi_X5 hown hE.1 hP x0 (w_4 hE hk0) rfl 3 (by decide) (hts (.fieldLink RX5 33 "HemLine" "now" "LHemLine$Delta;") (by decide +kernel)) (fun _ h9 => h9) rfl dX5_count_124 ?_
    obtain ⟨k34, e35, q36, h⟩ := h
    refine f_i (kV (As := []) (rest := []) e35 ⟨hx, hb, hml, hown, hts⟩ (c_X0_lastHeight l D cs ad k34 s0 _ q36) (cwV 0 hts gX5_count_X0_lastHeight rfl rfl rfl (by decide +kernel) ⟨Nat.le_of_ble_eq_true rfl, Nat.le_of_ble_eq_true rfl⟩) hE hP rfl rfl (w_0 hE q36) h rfl hl.1 rfl (by first | exact lv_room (Nat.le_of_ble_eq_true rfl) | (refine lv_room ?_; simp [re_cat, cat_i, cat_l, cat_r])) dX5_count_127 ⟨Nat.le_refl _, Nat.le_refl _⟩) hS (fun r38 s37 H locs h hP hS => ?_)
    exact W.iret hx hb hr (fun t ht hW => ⟨⟨_, _, rfl, h, pw ht hP⟩, hS.F ht⟩) hS.2.2 dX5_count_130
  replace h := h.2 c33
  by_cases c39 : x1 = 7
  · replace h := h.1 c39
    refine lv_tableIn (off := 130) (tgt := 131) hx hb dX5_count_1 (by rw [c39]; decide) (by rw [c39]; decide) (by rw [c39]; decide) (by decide) ?_
    refine lv_aload_n hx hb dX5_count_131 rfl (lv_at hl 0 rfl) ?_
    refine va_get (ci := 4) (v := va_re ad (tX x0 3)) (C := RX5) (T := TX5) (N := 12) hx hb hts hi_X5 hown hE.1 hP x0 (w_4 hE hk0) rfl 3 (by decide) (hts (.fieldLink RX5 33 "HemLine" "now" "LHemLine$Delta;") (by decide +kernel)) (fun _ h9 => h9) rfl dX5_count_132 ?_
    refine lv_iconst (v := 1) hx hb dX5_count_135 (by decide) ?_
    obtain ⟨k40, e41, q42, h⟩ := h
    refine f_i (kV (As := [.int 1]) (rest := []) e41 ⟨hx, hb, hml, hown, hts⟩ (c_X0_howManyOf l D cs ad k40 1 s0 _ q42) (cwV 1 hts gX5_count_X0_howManyOf rfl rfl rfl (by decide +kernel) ⟨Nat.le_of_ble_eq_true rfl, Nat.le_of_ble_eq_true rfl⟩) hE hP rfl rfl (w_0 hE q42) h rfl hl.1 rfl (by first | exact lv_room (Nat.le_of_ble_eq_true rfl) | (refine lv_room ?_; simp [re_cat, cat_i, cat_l, cat_r])) dX5_count_136 ⟨Nat.le_refl _, Nat.le_refl _⟩) hS (fun r44 s43 H locs h hP hS => ?_)
    exact W.iret hx hb hr (fun t ht hW => ⟨⟨_, _, rfl, h, pw ht hP⟩, hS.F ht⟩) hS.2.2 dX5_count_139
  replace h := h.2 c39
  by_cases c45 : x1 = 8
  · replace h := h.1 c45
    refine lv_tableIn (off := 139) (tgt := 140) hx hb dX5_count_1 (by rw [c45]; decide) (by rw [c45]; decide) (by rw [c45]; decide) (by decide) ?_
    refine lv_aload_n hx hb dX5_count_140 rfl (lv_at hl 0 rfl) ?_
    refine va_get (ci := 4) (v := va_re ad (tX x0 0)) (C := RX5) (T := TX5) (N := 12) hx hb hts hi_X5 hown hE.1 hP x0 (w_4 hE hk0) rfl 0 (by decide) (hts (.fieldLink RX5 16 "HemLine" "rows" "LHemLine$Shelf;") (by decide +kernel)) (fun _ h9 => h9) rfl dX5_count_141 ?_
    obtain ⟨k46, e47, q48, h⟩ := h
    refine f_i (kV (As := []) (rest := []) e47 ⟨hx, hb, hml, hown, hts⟩ (c_X4_howMany l D cs ad k46 s0 _ q48) (cwV 0 hts gX5_count_X4_howMany rfl rfl rfl (by decide +kernel) ⟨Nat.le_of_ble_eq_true rfl, Nat.le_of_ble_eq_true rfl⟩) hE hP rfl rfl (w_3 hE q48) h rfl hl.1 rfl (by first | exact lv_room (Nat.le_of_ble_eq_true rfl) | (refine lv_room ?_; simp [re_cat, cat_i, cat_l, cat_r])) dX5_count_144 ⟨Nat.le_refl _, Nat.le_refl _⟩) hS (fun r50 s49 H locs h hP hS => ?_)
    exact W.iret hx hb hr (fun t ht hW => ⟨⟨_, _, rfl, h, pw ht hP⟩, hS.F ht⟩) hS.2.2 dX5_count_147
  replace h := h.2 c45
  by_cases c51 : x1 = 9
  · replace h := h.1 c51
    refine lv_tableIn (off := 147) (tgt := 148) hx hb dX5_count_1 (by rw [c51]; decide) (by rw [c51]; decide) (by rw [c51]; decide) (by decide) ?_
    refine lv_aload_n hx hb dX5_count_148 rfl (lv_at hl 0 rfl) ?_
    refine va_get (ci := 4) (v := va_re ad (tX x0 1)) (C := RX5) (T := TX5) (N := 12) hx hb hts hi_X5 hown hE.1 hP x0 (w_4 hE hk0) rfl 1 (by decide) (hts (.fieldLink RX5 20 "HemLine" "texts" "LHemLine$Shelf;") (by decide +kernel)) (fun _ h9 => h9) rfl dX5_count_149 ?_
    obtain ⟨k52, e53, q54, h⟩ := h
    refine f_i (kV (As := []) (rest := []) e53 ⟨hx, hb, hml, hown, hts⟩ (c_X4_howMany l D cs ad k52 s0 _ q54) (cwV 0 hts gX5_count_X4_howMany rfl rfl rfl (by decide +kernel) ⟨Nat.le_of_ble_eq_true rfl, Nat.le_of_ble_eq_true rfl⟩) hE hP rfl rfl (w_3 hE q54) h rfl hl.1 rfl (by first | exact lv_room (Nat.le_of_ble_eq_true rfl) | (refine lv_room ?_; simp [re_cat, cat_i, cat_l, cat_r])) dX5_count_152 ⟨Nat.le_refl _, Nat.le_refl _⟩) hS (fun r56 s55 H locs h hP hS => ?_)
    exact W.iret hx hb hr (fun t ht hW => ⟨⟨_, _, rfl, h, pw ht hP⟩, hS.F ht⟩) hS.2.2 dX5_count_155
  replace h := h.2 c51
  by_cases c57 : x1 = 10
  · replace h := h.1 c57
    refine lv_tableIn (off := 155) (tgt := 156) hx hb dX5_count_1 (by rw [c57]; decide) (by rw [c57]; decide) (by rw [c57]; decide) (by decide) ?_
    refine lv_aload_n hx hb dX5_count_156 rfl (lv_at hl 0 rfl) ?_
    refine f_i (kV (As := []) (rest := []) (o := some x0) rfl ⟨hx, hb, hml, hown, hts⟩ (c_X5_howManyKept l D cs ad x0 s0 _ hk0) (cwV 0 hts gX5_count_X5_howManyKept rfl rfl rfl (by decide +kernel) ⟨Nat.le_of_ble_eq_true rfl, Nat.le_of_ble_eq_true rfl⟩) hE hP rfl rfl (w_4 hE hk0) h rfl hl.1 rfl (by first | exact lv_room (Nat.le_of_ble_eq_true rfl) | (refine lv_room ?_; simp [re_cat, cat_i, cat_l, cat_r])) dX5_count_157 ⟨Nat.le_refl _, Nat.le_refl _⟩) hS (fun r59 s58 H locs h hP hS => ?_)
    exact W.iret hx hb hr (fun t ht hW => ⟨⟨_, _, rfl, h, pw ht hP⟩, hS.F ht⟩) hS.2.2 dX5_count_160
  replace h := h.2 c57
  refine lv_tableOut (tgt := 161) hx hb dX5_count_1 (by have := ne_toInt (n := 0) c2 (by decide); have := ne_toInt (n := 1) c6 (by decide); have := ne_toInt (n := 2) c10 (by decide); have := ne_toInt (n := 3) c14 (by decide); have := ne_toInt (n := 4) c18 (by decide); have := ne_toInt (n := 5) c24 (by decide); have := ne_toInt (n := 6) c33 (by decide); have := ne_toInt (n := 7) c39 (by decide); have := ne_toInt (n := 8) c45 (by decide); have := ne_toInt (n := 9) c51 (by decide); have := ne_toInt (n := 10) c57 (by decide); omega) (by decide) ?_
  refine lv_iconst (v := (-1)) hx hb dX5_count_161 (by decide) ?_
  exact W.iret hx hb hr (fun t ht hW => ⟨⟨_, _, rfl, h, pw ht hP⟩, hS.F ht⟩) hS.2.2 dX5_count_162
def p_X5_finding (x0 : Nat) (s : Sg) (Q : Int32 → Sg → Prop) : Prop := Q (gI s x0 8) s
set_option maxHeartbeats 4000000 in
set_option maxRecDepth 100000 in
theorem c_X5_finding (l : Launch) (D : va_G) (cs : Cs) (ad : Nat → Nat) (x0 : Nat) (s0 : Sg) (Q : Int32 → Sg → Prop) (hk0 : kX x0 = 4) : Met l yX5_finding wsX5_finding { frames := 0, cells := 0, slots := 0, locals := 0 } (Pc0 bX D cs ad [.ref (ad x0)] s0 (p_X5_finding x0 s0 Q)) (QI bX D cs ad Q) 0 0 (fAd bX ad) := by
  refine Met.ofW (cc := cX5_finding) (maxL := 1) (ret := (some .int)) (by decide) rfl ?_
  intro p e s m args below meth c s₁ B0 hml hv
  obtain ⟨ha, hP, hE, h⟩ := hv
  have hx := B0.exec
  have hb := B0.bytes
  have hr := B0.returns
  have hts := atoms_spec (ws := wsX5_finding) B0.pre
  have hown : s.vm.findClass RX5 = some m.cls := findClass_of_methodNamed B0.named
  have hlocks := B0.notSynchronized
  have hi_X5 : ∀ w ∈ u_ws RX5 TX5 12, w ∈ wsX5_finding := by decide +kernel
  have hS : va_S (fAd bX ad) s.heap s.heap [] := va_S.rf
  have hl := lv_entry ([.ref (ad x0)]) (n := 1) (by first | exact Nat.le_of_ble_eq_true rfl | simp [lg_sl, re_cat, cat_i, cat_l, cat_r])
  rw [show entryFrame m args 1 = entryFrame m ([.ref (ad x0)] : List Value).toArray 1 by rw [ha], lg_entry_eq]
  generalize (lg_sl ([.ref (ad x0)]) ++ List.replicate (1 - (lg_sl ([.ref (ad x0)])).length) Slot.unset).toArray = ls at hl ⊢
  have hl : lv_has ls 1 [(0, .ref (ad x0))] := by first | exact hl | simpa [lv_args, re_cat, cat_i, cat_l, cat_r] using hl
  unfold p_X5_finding at h
  refine lv_aload_n hx hb dX5_finding_0 rfl (lv_at hl 0 rfl) ?_
  refine va_get (ci := 4) (v := .int (gI s0 x0 8)) (C := RX5) (T := TX5) (N := 12) hx hb hts hi_X5 hown hE.1 hP x0 (w_4 hE hk0) rfl 8 (by decide) (hts (.fieldLink RX5 310 "HemLine" "latestFinding" "I") (by decide +kernel)) (fun _ h9 => h9) rfl dX5_finding_1 ?_
  exact W.iret hx hb hr (fun t ht hW => ⟨⟨_, _, rfl, h, pw ht hP⟩, hS.F ht⟩) hS.2.2 dX5_finding_4
def p_X5_findings (x0 : Nat) (x1 : Int32) (s : Sg) (Q : Int32 → Sg → Prop) : Prop := ((x1 < 1 → Q ((-1)) s) ∧ (¬ x1 < 1 → ((5 < x1 → Q ((-1)) s) ∧ (¬ 5 < x1 → p_X5_item (tX x0 7) x1 s (fun r4 s3 => Q r4 s3)))))
set_option maxHeartbeats 4000000 in
set_option maxRecDepth 100000 in
theorem c_X5_findings (l : Launch) (D : va_G) (cs : Cs) (ad : Nat → Nat) (x0 : Nat) (x1 : Int32) (s0 : Sg) (Q : Int32 → Sg → Prop) (hk0 : kX x0 = 4) : Met l yX5_findings wsX5_findings { frames := 1, cells := 0, slots := 0, locals := 21 } (Pc0 bX D cs ad [.ref (ad x0), .int x1] s0 (p_X5_findings x0 x1 s0 Q)) (QI bX D cs ad Q) 0 0 (fAd bX ad) := by
  refine Met.ofW (cc := cX5_findings) (maxL := 2) (ret := (some .int)) (by decide) rfl ?_
  intro p e s m args below meth c s₁ B0 hml hv
  obtain ⟨ha, hP, hE, h⟩ := hv
  have hx := B0.exec
  have hb := B0.bytes
  have hr := B0.returns
  have hts := atoms_spec (ws := wsX5_findings) B0.pre
  have hown : s.vm.findClass RX5 = some m.cls := findClass_of_methodNamed B0.named
  have hlocks := B0.notSynchronized
  have hi_X5 : ∀ w ∈ u_ws RX5 TX5 12, w ∈ wsX5_findings := by decide +kernel
  have hS : va_S (fAd bX ad) s.heap s.heap [] := va_S.rf
  have hl := lv_entry ([.ref (ad x0), .int x1]) (n := 2) (by first | exact Nat.le_of_ble_eq_true rfl | simp [lg_sl, re_cat, cat_i, cat_l, cat_r])
  rw [show entryFrame m args 2 = entryFrame m ([.ref (ad x0), .int x1] : List Value).toArray 2 by rw [ha], lg_entry_eq]
  generalize (lg_sl ([.ref (ad x0), .int x1]) ++ List.replicate (2 - (lg_sl ([.ref (ad x0), .int x1])).length) Slot.unset).toArray = ls at hl ⊢
  have hl : lv_has ls 2 [(0, .ref (ad x0)), (1, .int x1)] := by first | exact hl | simpa [lv_args, re_cat, cat_i, cat_l, cat_r] using hl
  unfold p_X5_findings at h
  refine lv_iload_n hx hb dX5_findings_0 rfl (lv_at hl 1 rfl) ?_
  refine lv_iconst (v := 1) hx hb dX5_findings_1 (by decide) ?_
  refine lv_icmp_lt (tgt := 21) hx hb dX5_findings_2 (by decide) (fun c1 => ?_) (fun c1 => ?_)
  · replace h := h.1 c1
    refine lv_iconst (v := (-1)) hx hb dX5_findings_21 (by decide) ?_
    exact W.iret hx hb hr (fun t ht hW => ⟨⟨_, _, rfl, h, pw ht hP⟩, hS.F ht⟩) hS.2.2 dX5_findings_22
  · replace h := h.2 c1
    refine lv_iload_n hx hb dX5_findings_5 rfl (lv_at hl 1 rfl) ?_
    refine lv_iconst (v := 5) hx hb dX5_findings_6 (by decide) ?_
    refine lv_icmp_gt (tgt := 21) hx hb dX5_findings_7 (by decide) (fun c2 => ?_) (fun c2 => ?_)
    · replace h := h.1 c2
      refine lv_iconst (v := (-1)) hx hb dX5_findings_21 (by decide) ?_
      exact W.iret hx hb hr (fun t ht hW => ⟨⟨_, _, rfl, h, pw ht hP⟩, hS.F ht⟩) hS.2.2 dX5_findings_22
    · replace h := h.2 c2
      refine lv_aload_n hx hb dX5_findings_10 rfl (lv_at hl 0 rfl) ?_
      refine va_get (ci := 4) (v := va_re ad (tX x0 7)) (C := RX5) (T := TX5) (N := 12) hx hb hts hi_X5 hown hE.1 hP x0 (w_4 hE hk0) rfl 7 (by decide) (hts (.fieldLink RX5 52 "HemLine" "findingCounts" "[I") (by decide +kernel)) (fun _ h9 => h9) rfl dX5_findings_11 ?_
      refine lv_iload_n hx hb dX5_findings_14 rfl (lv_at hl 1 rfl) ?_
      refine f_i (kS (As := [va_re ad (tX x0 7), .int x1]) (rest := []) ⟨hx, hb, hml, hown, hts⟩ (c_X5_item l D cs ad (tX x0 7) x1 s0 _) (va_cwS 2 hts gX5_findings_X5_item rfl rfl rfl (by decide +kernel) ⟨Nat.le_of_ble_eq_true rfl, Nat.le_of_ble_eq_true rfl⟩) hE hP h rfl hl.1 rfl (by first | exact lv_room (Nat.le_of_ble_eq_true rfl) | (refine lv_room ?_; simp [re_cat, cat_i, cat_l, cat_r])) dX5_findings_15 ⟨Nat.le_refl _, Nat.le_refl _⟩) hS (fun r4 s3 H locs h hP hS => ?_)
      refine lv_goto (tgt := 22) hx hb dX5_findings_18 (by decide) ?_
      exact W.iret hx hb hr (fun t ht hW => ⟨⟨_, _, rfl, h, pw ht hP⟩, hS.F ht⟩) hS.2.2 dX5_findings_22
def p_X5_mixed (x0 : Int64) (x2 : Int32) (s : Sg) (Q : Int64 → Sg → Prop) : Prop := Q ((31 * x0) + x2.toInt64) s
set_option maxHeartbeats 4000000 in
set_option maxRecDepth 100000 in
theorem c_X5_mixed (l : Launch) (D : va_G) (cs : Cs) (ad : Nat → Nat) (x0 : Int64) (x2 : Int32) (s0 : Sg) (Q : Int64 → Sg → Prop) : Met l yX5_mixed wsX5_mixed { frames := 0, cells := 0, slots := 0, locals := 0 } (Pc0 bX D cs ad [.long x0, .int x2] s0 (p_X5_mixed x0 x2 s0 Q)) (QL bX D cs ad Q) 0 0 (fAd bX ad) := by
  refine Met.ofW (cc := cX5_mixed) (maxL := 3) (ret := (some .long)) (by decide) rfl ?_
  intro p e s m args below meth c s₁ B0 hml hv
  obtain ⟨ha, hP, hE, h⟩ := hv
  have hx := B0.exec
  have hb := B0.bytes
  have hr := B0.returns
  have hts := atoms_spec (ws := wsX5_mixed) B0.pre
  have hown : s.vm.findClass RX5 = some m.cls := findClass_of_methodNamed B0.named
  have hlocks := B0.notSynchronized
  have hS : va_S (fAd bX ad) s.heap s.heap [] := va_S.rf
  have hl := lv_entry ([.long x0, .int x2]) (n := 3) (by first | exact Nat.le_of_ble_eq_true rfl | simp [lg_sl, re_cat, cat_i, cat_l, cat_r])
  rw [show entryFrame m args 3 = entryFrame m ([.long x0, .int x2] : List Value).toArray 3 by rw [ha], lg_entry_eq]
  generalize (lg_sl ([.long x0, .int x2]) ++ List.replicate (3 - (lg_sl ([.long x0, .int x2])).length) Slot.unset).toArray = ls at hl ⊢
  have hl : lv_has ls 3 [(0, .long x0), (2, .int x2)] := by first | exact hl | simpa [lv_args, re_cat, cat_i, cat_l, cat_r] using hl
  unfold p_X5_mixed at h
  refine lv_ldc2 (v := 31) hx hb hown (hts (.constantLong RX5 391 (31)) (by decide +kernel)) dX5_mixed_0 ?_
  refine lv_lload_n hx hb dX5_mixed_3 rfl (lv_at hl 0 rfl) ?_
  refine lv_lmul hx hb dX5_mixed_4 ?_
  refine lv_iload_n hx hb dX5_mixed_5 rfl (lv_at hl 1 rfl) ?_
  refine lv_i2l hx hb dX5_mixed_6 rfl ?_
  refine lv_ladd hx hb dX5_mixed_7 ?_
  exact W.lret hx hb hr (fun t ht hW => ⟨⟨_, _, rfl, h, pw ht hP⟩, hS.F ht⟩) hS.2.2 dX5_mixed_8
def p_X5_mixedShelf_L28 (Q : Int64 → Sg → Prop) (K2 : Int64 → Option Nat → Int32 → Sg → Prop) : Nat → Int64 → Option Nat → Int32 → Int32 → Int32 → Sg → Prop
  | 0, _, _, _, _, _, _ => False
  | n + 1, x0, x2, x3, x4, x5, s => ((x4 ≤ x5 → K2 x0 x2 (x3 + 1) s) ∧ (¬ x4 ≤ x5 → ∃ k2, x2 = some k2 ∧ kX k2 = 3 ∧ p_X4_cell k2 x3 x5 s (fun r6 s5 => p_X5_mixed x0 r6 s5 (fun r8 s7 => p_X5_mixedShelf_L28 Q K2 n r8 x2 x3 x4 (x5 + 1) s7))))
def p_X5_mixedShelf_L2 (Q : Int64 → Sg → Prop)  : Nat → Int64 → Option Nat → Int32 → Sg → Prop
  | 0, _, _, _, _ => False
  | n + 1, x0, x2, x3, s => ∃ k1, x2 = some k1 ∧ kX k1 = 3 ∧ ∃ k4, tX k1 0 = some k4 ∧ (kX k4 = 7 ∨ kX k4 = 8 ∨ kX k4 = 9) ∧ (((nI (lX k4)) ≤ x3 → Q x0 s) ∧ (¬ (nI (lX k4)) ≤ x3 → ∃ k8, x2 = some k8 ∧ kX k8 = 3 ∧ p_X4_sizeOf k8 x3 s (fun r12 s11 => p_X5_mixed x0 r12 s11 (fun r14 s13 => (∃ n15, p_X5_mixedShelf_L28 Q (fun y0 y2 y3 u => p_X5_mixedShelf_L2 Q  n y0 y2 y3 u) n15 r14 x2 x3 r12 0 s13)))))
def p_X5_mixedShelf (x0 : Int64) (x2 : Option Nat) (s : Sg) (Q : Int64 → Sg → Prop) : Prop := (∃ n1, p_X5_mixedShelf_L2 Q  n1 x0 x2 0 s)
set_option maxHeartbeats 4000000 in
set_option maxRecDepth 100000 in
theorem c_X5_mixedShelf (l : Launch) (D : va_G) (cs : Cs) (ad : Nat → Nat) (x0 : Int64) (x2 : Option Nat) (s0 : Sg) (Q : Int64 → Sg → Prop) : Met l yX5_mixedShelf wsX5_mixedShelf { frames := 4, cells := 0, slots := 0, locals := 86 } (Pc0 bX D cs ad [.long x0, va_re ad x2] s0 (p_X5_mixedShelf x0 x2 s0 Q)) (QL bX D cs ad Q) 0 0 (fAd bX ad) := by
  refine Met.ofW (cc := cX5_mixedShelf) (maxL := 6) (ret := (some .long)) (by decide) rfl ?_
  intro p e s m args below meth c s₁ B0 hml hv
  obtain ⟨ha, hP, hE, h⟩ := hv
  have hx := B0.exec
  have hb := B0.bytes
  have hr := B0.returns
  have hts := atoms_spec (ws := wsX5_mixedShelf) B0.pre
  have hown : s.vm.findClass RX5 = some m.cls := findClass_of_methodNamed B0.named
  have hlocks := B0.notSynchronized
  have hi_X4 : ∀ w ∈ u_ws RX4 TX4 2, w ∈ wsX5_mixedShelf := by decide +kernel
  have hS : va_S (fAd bX ad) s.heap s.heap [] := va_S.rf
  have hl := lv_entry ([.long x0, va_re ad x2]) (n := 6) (by first | exact Nat.le_of_ble_eq_true rfl | simp [lg_sl, re_cat, cat_i, cat_l, cat_r])
  rw [show entryFrame m args 6 = entryFrame m ([.long x0, va_re ad x2] : List Value).toArray 6 by rw [ha], lg_entry_eq]
  generalize (lg_sl ([.long x0, va_re ad x2]) ++ List.replicate (6 - (lg_sl ([.long x0, va_re ad x2])).length) Slot.unset).toArray = ls at hl ⊢
  have hl : lv_has ls 6 [(0, .long x0), (2, va_re ad x2)] := by first | exact hl | simpa [lv_args, re_cat, cat_i, cat_l, cat_r] using hl
  have hB2 : ∀ (n2 : Nat) (x0 : Int64) (x2 : Option Nat) (x3 : Int32) (σ : Sg) (H : Heap) (locs : List Loc) (ls : Array Slot), p_X5_mixedShelf_L2 Q  n2 x0 x2 x3 σ → va_P D vwCl (wl bX cs ad σ) H → va_S (fAd bX ad) s.heap H locs → lv_has ls 6 [(0, .long x0), (2, va_re ad x2), (3, .int x3)] → W p l e { frames := 4, cells := 0, slots := 0, locals := 86 } s m args below meth c H locs 0 0 (MQ below (QL bX D cs ad Q) args s 0 0 (fAd bX ad)) (F0 m 2 ls []) := by
    intro n2
    induction n2 with
    | zero =>
      intro x0 x2 x3 σ H locs ls h
      exact h.elim
    | succ n2 ih =>
      have hK2 := ih
      have hB28 : ∀ (n28 : Nat) (x0 : Int64) (x2 : Option Nat) (x3 : Int32) (x4 : Int32) (x5 : Int32) (σ : Sg) (H : Heap) (locs : List Loc) (ls : Array Slot), p_X5_mixedShelf_L28 Q (fun y0 y2 y3 u => p_X5_mixedShelf_L2 Q  n2 y0 y2 y3 u) n28 x0 x2 x3 x4 x5 σ → va_P D vwCl (wl bX cs ad σ) H → va_S (fAd bX ad) s.heap H locs → lv_has ls 6 [(0, .long x0), (2, va_re ad x2), (3, .int x3), (4, .int x4), (5, .int x5)] → W p l e { frames := 4, cells := 0, slots := 0, locals := 86 } s m args below meth c H locs 0 0 (MQ below (QL bX D cs ad Q) args s 0 0 (fAd bX ad)) (F0 m 28 ls []) := by
        intro n28
        induction n28 with
        | zero =>
          intro x0 x2 x3 x4 x5 σ H locs ls h
          exact h.elim
        | succ n28 ih =>
          have hK28 := ih
          intro x0 x2 x3 x4 x5 σ H locs ls h hP hS hl
          rw [p_X5_mixedShelf_L28] at h
          refine lv_iload hx hb dX5_mixedShelf_28 (lv_at hl 4 rfl) ?_
          refine lv_iload hx hb dX5_mixedShelf_30 (lv_at hl 3 rfl) ?_
          refine lv_icmp_ge (tgt := 53) hx hb dX5_mixedShelf_32 (by decide) (fun c1 => ?_) (fun c1 => ?_)
          · replace h := h.1 c1
            refine lv_iinc (v := x3 + 1) (lv' := [(3, .int (x3 + 1)), (0, .long x0), (2, va_re ad x2), (4, .int x4), (5, .int x5)]) hx hb dX5_mixedShelf_53 hl (k := 2) rfl rfl (by decide) (by first | rfl | simp [re_cat, cat_i, cat_l, cat_r]) (fun ls hl => ?_)
            refine lv_goto (tgt := 2) hx hb dX5_mixedShelf_56 (by decide) ?_
            exact hK2 x0 x2 (x3 + 1) σ H locs ls h hP hS (lv_sub hl [1, 2, 0] rfl)
          · replace h := h.2 c1
            refine lv_lload_n hx hb dX5_mixedShelf_35 rfl (lv_at hl 0 rfl) ?_
            refine r_aload_n hx hb dX5_mixedShelf_36 rfl (lv_at hl 1 rfl) ?_
            refine lv_iload_n hx hb dX5_mixedShelf_37 rfl (lv_at hl 2 rfl) ?_
            refine lv_iload hx hb dX5_mixedShelf_38 (lv_at hl 4 rfl) ?_
            obtain ⟨k2, e3, q4, h⟩ := h
            refine f_i (kV (As := [.int x3, .int x5]) (rest := [.long x0]) e3 ⟨hx, hb, hml, hown, hts⟩ (c_X4_cell l D cs ad k2 x3 x5 σ _ q4) (cwV 2 hts gX5_mixedShelf_X4_cell rfl rfl rfl (by decide +kernel) ⟨Nat.le_of_ble_eq_true rfl, Nat.le_of_ble_eq_true rfl⟩) hE hP rfl rfl (w_3 hE q4) h rfl hl.1 rfl (by first | exact lv_room (Nat.le_of_ble_eq_true rfl) | (refine lv_room ?_; simp [re_cat, cat_i, cat_l, cat_r])) dX5_mixedShelf_40 ⟨Nat.le_refl _, Nat.le_refl _⟩) hS (fun r6 s5 H locs h hP hS => ?_)
            refine f_l (kS (As := [.long x0, .int r6]) (rest := []) ⟨hx, hb, hml, hown, hts⟩ (c_X5_mixed l D cs ad x0 r6 s5 _) (va_cwS 2 hts gX5_mixedShelf_X5_mixed rfl rfl rfl (by decide +kernel) ⟨Nat.le_of_ble_eq_true rfl, Nat.le_of_ble_eq_true rfl⟩) hE hP h rfl hl.1 rfl (by first | exact lv_room (Nat.le_of_ble_eq_true rfl) | (refine lv_room ?_; simp [re_cat, cat_i, cat_l, cat_r])) dX5_mixedShelf_43 ⟨Nat.le_refl _, Nat.le_refl _⟩) hS (fun r8 s7 H locs h hP hS => ?_)
            refine lv_lstore_n (i := 0) (lv' := [(0, .long r8), (2, va_re ad x2), (3, .int x3), (4, .int x4), (5, .int x5)]) hx hb dX5_mixedShelf_46 rfl hl (by decide) (by first | rfl | simp [re_cat, cat_i, cat_l, cat_r]) (fun ls hl => ?_)
            refine lv_iinc (v := x5 + 1) (lv' := [(5, .int (x5 + 1)), (0, .long r8), (2, va_re ad x2), (3, .int x3), (4, .int x4)]) hx hb dX5_mixedShelf_47 hl (k := 4) rfl rfl (by decide) (by first | rfl | simp [re_cat, cat_i, cat_l, cat_r]) (fun ls hl => ?_)
            refine lv_goto (tgt := 28) hx hb dX5_mixedShelf_50 (by decide) ?_
            exact ih r8 x2 x3 x4 (x5 + 1) s7 H locs ls h hP hS (lv_sub hl [1, 2, 3, 4, 0] rfl)
      intro x0 x2 x3 σ H locs ls h hP hS hl
      rw [p_X5_mixedShelf_L2] at h
      refine lv_iload_n hx hb dX5_mixedShelf_2 rfl (lv_at hl 2 rfl) ?_
      refine r_aload_n hx hb dX5_mixedShelf_3 rfl (lv_at hl 1 rfl) ?_
      obtain ⟨k1, e2, q3, h⟩ := h
      refine r_known (ad := ad) e2 ?_
      refine va_getN (ci := 3) (v := va_re ad (tX k1 0)) (C := RX4) (T := TX4) (N := 2) hx hb hts hi_X4 hown hE.1 hP k1 (w_3 hE q3) rfl 0 (by decide) ((hE.2.2.2.1 ("HemLine", 393, "HemLine$Shelf", "sizes", "[I", "HemLine") (by decide +kernel)).use rfl) (fun _ h9 => h9) rfl dX5_mixedShelf_4 ?_
      obtain ⟨k4, e5, q6, h⟩ := h
      refine r_alen hx hb hE hP e5 q6 dX5_mixedShelf_7 ?_
      refine lv_icmp_ge (tgt := 59) hx hb dX5_mixedShelf_8 (by decide) (fun c7 => ?_) (fun c7 => ?_)
      · replace h := h.1 c7
        refine lv_lload_n hx hb dX5_mixedShelf_59 rfl (lv_at hl 0 rfl) ?_
        exact W.lret hx hb hr (fun t ht hW => ⟨⟨_, _, rfl, h, pw ht hP⟩, hS.F ht⟩) hS.2.2 dX5_mixedShelf_60
      · replace h := h.2 c7
        refine r_aload_n hx hb dX5_mixedShelf_11 rfl (lv_at hl 1 rfl) ?_
        refine lv_iload_n hx hb dX5_mixedShelf_12 rfl (lv_at hl 2 rfl) ?_
        obtain ⟨k8, e9, q10, h⟩ := h
        refine f_i (kV (As := [.int x3]) (rest := []) e9 ⟨hx, hb, hml, hown, hts⟩ (c_X4_sizeOf l D cs ad k8 x3 σ _ q10) (cwV 1 hts gX5_mixedShelf_X4_sizeOf rfl rfl rfl (by decide +kernel) ⟨Nat.le_of_ble_eq_true rfl, Nat.le_of_ble_eq_true rfl⟩) hE hP rfl rfl (w_3 hE q10) h rfl hl.1 rfl (by first | exact lv_room (Nat.le_of_ble_eq_true rfl) | (refine lv_room ?_; simp [re_cat, cat_i, cat_l, cat_r])) dX5_mixedShelf_13 ⟨Nat.le_refl _, Nat.le_refl _⟩) hS (fun r12 s11 H locs h hP hS => ?_)
        refine lv_istore (i := 4) (lv' := [(4, .int r12), (0, .long x0), (2, va_re ad x2), (3, .int x3)]) hx hb dX5_mixedShelf_16 hl (by decide) (by first | rfl | simp [re_cat, cat_i, cat_l, cat_r]) (fun ls hl => ?_)
        refine lv_lload_n hx hb dX5_mixedShelf_18 rfl (lv_at hl 1 rfl) ?_
        refine lv_iload hx hb dX5_mixedShelf_19 (lv_at hl 0 rfl) ?_
        refine f_l (kS (As := [.long x0, .int r12]) (rest := []) ⟨hx, hb, hml, hown, hts⟩ (c_X5_mixed l D cs ad x0 r12 s11 _) (va_cwS 2 hts gX5_mixedShelf_X5_mixed rfl rfl rfl (by decide +kernel) ⟨Nat.le_of_ble_eq_true rfl, Nat.le_of_ble_eq_true rfl⟩) hE hP h rfl hl.1 rfl (by first | exact lv_room (Nat.le_of_ble_eq_true rfl) | (refine lv_room ?_; simp [re_cat, cat_i, cat_l, cat_r])) dX5_mixedShelf_21 ⟨Nat.le_refl _, Nat.le_refl _⟩) hS (fun r14 s13 H locs h hP hS => ?_)
        refine lv_lstore_n (i := 0) (lv' := [(0, .long r14), (4, .int r12), (2, va_re ad x2), (3, .int x3)]) hx hb dX5_mixedShelf_24 rfl hl (by decide) (by first | rfl | simp [re_cat, cat_i, cat_l, cat_r]) (fun ls hl => ?_)
        refine lv_iconst (v := 0) hx hb dX5_mixedShelf_25 (by decide) ?_
        refine lv_istore (i := 5) (lv' := [(5, .int 0), (0, .long r14), (4, .int r12), (2, va_re ad x2), (3, .int x3)]) hx hb dX5_mixedShelf_26 hl (by decide) (by first | rfl | simp [re_cat, cat_i, cat_l, cat_r]) (fun ls hl => ?_)
        obtain ⟨n15, h⟩ := h
        exact hB28 n15 r14 x2 x3 r12 0 s13 H locs ls h hP hS (lv_sub hl [1, 3, 4, 2, 0] rfl)
  unfold p_X5_mixedShelf at h
  refine lv_iconst (v := 0) hx hb dX5_mixedShelf_0 (by decide) ?_
  refine lv_istore_n (i := 3) (lv' := [(3, .int 0), (0, .long x0), (2, va_re ad x2)]) hx hb dX5_mixedShelf_1 rfl hl (by decide) (by first | rfl | simp [re_cat, cat_i, cat_l, cat_r]) (fun ls hl => ?_)
  obtain ⟨n1, h⟩ := h
  exact hB2 n1 x0 x2 0 s0 _ _ ls h hP hS (lv_sub hl [1, 2, 0] rfl)
def p_X5_mixedWoman_L31 (Q : Int64 → Sg → Prop)  : Nat → Nat → Int64 → Int32 → Int32 → Sg → Prop
  | 0, _, _, _, _, _ => False
  | n + 1, x0, x1, x3, x4, s => ∃ k1, tX x0 3 = some k1 ∧ kX k1 = 0 ∧ (((gI s k1 2) ≤ x4 → Q x1 s) ∧ (¬ (gI s k1 2) ≤ x4 → ∃ k5, tX x0 3 = some k5 ∧ kX k5 = 0 ∧ p_X0_hemOf k5 x3 x4 s (fun r9 s8 => p_X5_mixed x1 r9 s8 (fun r11 s10 => p_X5_mixedWoman_L31 Q  n x0 r11 x3 (x4 + 1) s10))))
def p_X5_mixedWoman_L3 (Q : Int64 → Sg → Prop)  : Nat → Nat → Int64 → Int32 → Int32 → Sg → Prop
  | 0, _, _, _, _, _ => False
  | n + 1, x0, x1, x3, x4, s => ((6 ≤ x4 → (∃ n2, p_X5_mixedWoman_L31 Q  n2 x0 x1 x3 0 s)) ∧ (¬ 6 ≤ x4 → p_X5_womanFact x0 x3 x4 s (fun r4 s3 => p_X5_mixed x1 r4 s3 (fun r6 s5 => p_X5_mixedWoman_L3 Q  n x0 r6 x3 (x4 + 1) s5))))
def p_X5_mixedWoman (x0 : Nat) (x1 : Int64) (x3 : Int32) (s : Sg) (Q : Int64 → Sg → Prop) : Prop := (∃ n1, p_X5_mixedWoman_L3 Q  n1 x0 x1 x3 0 s)
set_option maxHeartbeats 4000000 in
set_option maxRecDepth 100000 in
theorem c_X5_mixedWoman (l : Launch) (D : va_G) (cs : Cs) (ad : Nat → Nat) (x0 : Nat) (x1 : Int64) (x3 : Int32) (s0 : Sg) (Q : Int64 → Sg → Prop) (hk0 : kX x0 = 4) : Met l yX5_mixedWoman wsX5_mixedWoman { frames := 6, cells := 0, slots := 0, locals := 139 } (Pc0 bX D cs ad [.ref (ad x0), .long x1, .int x3] s0 (p_X5_mixedWoman x0 x1 x3 s0 Q)) (QL bX D cs ad Q) 0 0 (fAd bX ad) := by
  refine Met.ofW (cc := cX5_mixedWoman) (maxL := 5) (ret := (some .long)) (by decide) rfl ?_
  intro p e s m args below meth c s₁ B0 hml hv
  obtain ⟨ha, hP, hE, h⟩ := hv
  have hx := B0.exec
  have hb := B0.bytes
  have hr := B0.returns
  have hts := atoms_spec (ws := wsX5_mixedWoman) B0.pre
  have hown : s.vm.findClass RX5 = some m.cls := findClass_of_methodNamed B0.named
  have hlocks := B0.notSynchronized
  have hi_X0 : ∀ w ∈ u_ws RX0 TX0 15, w ∈ wsX5_mixedWoman := by decide +kernel
  have hi_X5 : ∀ w ∈ u_ws RX5 TX5 12, w ∈ wsX5_mixedWoman := by decide +kernel
  have hS : va_S (fAd bX ad) s.heap s.heap [] := va_S.rf
  have hl := lv_entry ([.ref (ad x0), .long x1, .int x3]) (n := 5) (by first | exact Nat.le_of_ble_eq_true rfl | simp [lg_sl, re_cat, cat_i, cat_l, cat_r])
  rw [show entryFrame m args 5 = entryFrame m ([.ref (ad x0), .long x1, .int x3] : List Value).toArray 5 by rw [ha], lg_entry_eq]
  generalize (lg_sl ([.ref (ad x0), .long x1, .int x3]) ++ List.replicate (5 - (lg_sl ([.ref (ad x0), .long x1, .int x3])).length) Slot.unset).toArray = ls at hl ⊢
  have hl : lv_has ls 5 [(0, .ref (ad x0)), (1, .long x1), (3, .int x3)] := by first | exact hl | simpa [lv_args, re_cat, cat_i, cat_l, cat_r] using hl
  have hB31 : ∀ (n31 : Nat) (x1 : Int64) (x3 : Int32) (x4 : Int32) (σ : Sg) (H : Heap) (locs : List Loc) (ls : Array Slot), p_X5_mixedWoman_L31 Q  n31 x0 x1 x3 x4 σ → va_P D vwCl (wl bX cs ad σ) H → va_S (fAd bX ad) s.heap H locs → lv_has ls 5 [(0, .ref (ad x0)), (1, .long x1), (3, .int x3), (4, .int x4)] → W p l e { frames := 6, cells := 0, slots := 0, locals := 139 } s m args below meth c H locs 0 0 (MQ below (QL bX D cs ad Q) args s 0 0 (fAd bX ad)) (F0 m 31 ls []) := by
    intro n31
    induction n31 with
    | zero =>
      intro x1 x3 x4 σ H locs ls h
      exact h.elim
    | succ n31 ih =>
      have hK31 := ih
      intro x1 x3 x4 σ H locs ls h hP hS hl
      rw [p_X5_mixedWoman_L31] at h
      refine lv_iload hx hb dX5_mixedWoman_31 (lv_at hl 3 rfl) ?_
      refine lv_aload_n hx hb dX5_mixedWoman_33 rfl (lv_at hl 0 rfl) ?_
      refine va_get (ci := 4) (v := va_re ad (tX x0 3)) (C := RX5) (T := TX5) (N := 12) hx hb hts hi_X5 hown hE.1 hP x0 (w_4 hE hk0) rfl 3 (by decide) (hts (.fieldLink RX5 33 "HemLine" "now" "LHemLine$Delta;") (by decide +kernel)) (fun _ h9 => h9) rfl dX5_mixedWoman_34 ?_
      obtain ⟨k1, e2, q3, h⟩ := h
      refine r_known (ad := ad) e2 ?_
      refine va_getN (ci := 0) (v := .int (gI σ k1 2)) (C := RX0) (T := TX0) (N := 15) hx hb hts hi_X0 hown hE.1 hP k1 (w_0 hE q3) rfl 2 (by decide) ((hE.2.2.2.1 ("HemLine", 148, "HemLine$Delta", "years", "I", "HemLine") (by decide +kernel)).use rfl) (fun _ h9 => h9) rfl dX5_mixedWoman_37 ?_
      refine lv_icmp_ge (tgt := 64) hx hb dX5_mixedWoman_40 (by decide) (fun c4 => ?_) (fun c4 => ?_)
      · replace h := h.1 c4
        refine lv_lload_n hx hb dX5_mixedWoman_64 rfl (lv_at hl 1 rfl) ?_
        exact W.lret hx hb hr (fun t ht hW => ⟨⟨_, _, rfl, h, pw ht hP⟩, hS.F ht⟩) hS.2.2 dX5_mixedWoman_65
      · replace h := h.2 c4
        refine lv_lload_n hx hb dX5_mixedWoman_43 rfl (lv_at hl 1 rfl) ?_
        refine lv_aload_n hx hb dX5_mixedWoman_44 rfl (lv_at hl 0 rfl) ?_
        refine va_get (ci := 4) (v := va_re ad (tX x0 3)) (C := RX5) (T := TX5) (N := 12) hx hb hts hi_X5 hown hE.1 hP x0 (w_4 hE hk0) rfl 3 (by decide) (hts (.fieldLink RX5 33 "HemLine" "now" "LHemLine$Delta;") (by decide +kernel)) (fun _ h9 => h9) rfl dX5_mixedWoman_45 ?_
        refine lv_iload_n hx hb dX5_mixedWoman_48 rfl (lv_at hl 2 rfl) ?_
        refine lv_iload hx hb dX5_mixedWoman_49 (lv_at hl 3 rfl) ?_
        obtain ⟨k5, e6, q7, h⟩ := h
        refine f_i (kV (As := [.int x3, .int x4]) (rest := [.long x1]) e6 ⟨hx, hb, hml, hown, hts⟩ (c_X0_hemOf l D cs ad k5 x3 x4 σ _ q7) (cwV 2 hts gX5_mixedWoman_X0_hemOf rfl rfl rfl (by decide +kernel) ⟨Nat.le_of_ble_eq_true rfl, Nat.le_of_ble_eq_true rfl⟩) hE hP rfl rfl (w_0 hE q7) h rfl hl.1 rfl (by first | exact lv_room (Nat.le_of_ble_eq_true rfl) | (refine lv_room ?_; simp [re_cat, cat_i, cat_l, cat_r])) dX5_mixedWoman_51 ⟨Nat.le_refl _, Nat.le_refl _⟩) hS (fun r9 s8 H locs h hP hS => ?_)
        refine f_l (kS (As := [.long x1, .int r9]) (rest := []) ⟨hx, hb, hml, hown, hts⟩ (c_X5_mixed l D cs ad x1 r9 s8 _) (va_cwS 2 hts gX5_mixedWoman_X5_mixed rfl rfl rfl (by decide +kernel) ⟨Nat.le_of_ble_eq_true rfl, Nat.le_of_ble_eq_true rfl⟩) hE hP h rfl hl.1 rfl (by first | exact lv_room (Nat.le_of_ble_eq_true rfl) | (refine lv_room ?_; simp [re_cat, cat_i, cat_l, cat_r])) dX5_mixedWoman_54 ⟨Nat.le_refl _, Nat.le_refl _⟩) hS (fun r11 s10 H locs h hP hS => ?_)
        refine lv_lstore_n (i := 1) (lv' := [(1, .long r11), (0, .ref (ad x0)), (3, .int x3), (4, .int x4)]) hx hb dX5_mixedWoman_57 rfl hl (by decide) (by first | rfl | simp [re_cat, cat_i, cat_l, cat_r]) (fun ls hl => ?_)
        refine lv_iinc (v := x4 + 1) (lv' := [(4, .int (x4 + 1)), (1, .long r11), (0, .ref (ad x0)), (3, .int x3)]) hx hb dX5_mixedWoman_58 hl (k := 3) rfl rfl (by decide) (by first | rfl | simp [re_cat, cat_i, cat_l, cat_r]) (fun ls hl => ?_)
        refine lv_goto (tgt := 31) hx hb dX5_mixedWoman_61 (by decide) ?_
        exact ih r11 x3 (x4 + 1) s10 H locs ls h hP hS (lv_sub hl [2, 1, 3, 0] rfl)
  have hB3 : ∀ (n3 : Nat) (x1 : Int64) (x3 : Int32) (x4 : Int32) (σ : Sg) (H : Heap) (locs : List Loc) (ls : Array Slot), p_X5_mixedWoman_L3 Q  n3 x0 x1 x3 x4 σ → va_P D vwCl (wl bX cs ad σ) H → va_S (fAd bX ad) s.heap H locs → lv_has ls 5 [(0, .ref (ad x0)), (1, .long x1), (3, .int x3), (4, .int x4)] → W p l e { frames := 6, cells := 0, slots := 0, locals := 139 } s m args below meth c H locs 0 0 (MQ below (QL bX D cs ad Q) args s 0 0 (fAd bX ad)) (F0 m 3 ls []) := by
    intro n3
    induction n3 with
    | zero =>
      intro x1 x3 x4 σ H locs ls h
      exact h.elim
    | succ n3 ih =>
      have hK3 := ih
      intro x1 x3 x4 σ H locs ls h hP hS hl
      rw [p_X5_mixedWoman_L3] at h
      refine lv_iload hx hb dX5_mixedWoman_3 (lv_at hl 3 rfl) ?_
      refine lv_bipush (v := 6) hx hb dX5_mixedWoman_5 (by decide) ?_
      refine lv_icmp_ge (tgt := 28) hx hb dX5_mixedWoman_7 (by decide) (fun c1 => ?_) (fun c1 => ?_)
      · replace h := h.1 c1
        refine lv_iconst (v := 0) hx hb dX5_mixedWoman_28 (by decide) ?_
        refine lv_istore (i := 4) (lv' := [(4, .int 0), (0, .ref (ad x0)), (1, .long x1), (3, .int x3)]) hx hb dX5_mixedWoman_29 hl (by decide) (by first | rfl | simp [re_cat, cat_i, cat_l, cat_r]) (fun ls hl => ?_)
        obtain ⟨n2, h⟩ := h
        exact hB31 n2 x1 x3 0 σ H locs ls h hP hS (lv_sub hl [1, 2, 3, 0] rfl)
      · replace h := h.2 c1
        refine lv_lload_n hx hb dX5_mixedWoman_10 rfl (lv_at hl 1 rfl) ?_
        refine lv_aload_n hx hb dX5_mixedWoman_11 rfl (lv_at hl 0 rfl) ?_
        refine lv_iload_n hx hb dX5_mixedWoman_12 rfl (lv_at hl 2 rfl) ?_
        refine lv_iload hx hb dX5_mixedWoman_13 (lv_at hl 3 rfl) ?_
        refine f_i (kV (As := [.int x3, .int x4]) (rest := [.long x1]) (o := some x0) rfl ⟨hx, hb, hml, hown, hts⟩ (c_X5_womanFact l D cs ad x0 x3 x4 σ _ hk0) (cwV 2 hts gX5_mixedWoman_X5_womanFact rfl rfl rfl (by decide +kernel) ⟨Nat.le_of_ble_eq_true rfl, Nat.le_of_ble_eq_true rfl⟩) hE hP rfl rfl (w_4 hE hk0) h rfl hl.1 rfl (by first | exact lv_room (Nat.le_of_ble_eq_true rfl) | (refine lv_room ?_; simp [re_cat, cat_i, cat_l, cat_r])) dX5_mixedWoman_15 ⟨Nat.le_refl _, Nat.le_refl _⟩) hS (fun r4 s3 H locs h hP hS => ?_)
        refine f_l (kS (As := [.long x1, .int r4]) (rest := []) ⟨hx, hb, hml, hown, hts⟩ (c_X5_mixed l D cs ad x1 r4 s3 _) (va_cwS 2 hts gX5_mixedWoman_X5_mixed rfl rfl rfl (by decide +kernel) ⟨Nat.le_of_ble_eq_true rfl, Nat.le_of_ble_eq_true rfl⟩) hE hP h rfl hl.1 rfl (by first | exact lv_room (Nat.le_of_ble_eq_true rfl) | (refine lv_room ?_; simp [re_cat, cat_i, cat_l, cat_r])) dX5_mixedWoman_18 ⟨Nat.le_refl _, Nat.le_refl _⟩) hS (fun r6 s5 H locs h hP hS => ?_)
        refine lv_lstore_n (i := 1) (lv' := [(1, .long r6), (0, .ref (ad x0)), (3, .int x3), (4, .int x4)]) hx hb dX5_mixedWoman_21 rfl hl (by decide) (by first | rfl | simp [re_cat, cat_i, cat_l, cat_r]) (fun ls hl => ?_)
        refine lv_iinc (v := x4 + 1) (lv' := [(4, .int (x4 + 1)), (1, .long r6), (0, .ref (ad x0)), (3, .int x3)]) hx hb dX5_mixedWoman_22 hl (k := 3) rfl rfl (by decide) (by first | rfl | simp [re_cat, cat_i, cat_l, cat_r]) (fun ls hl => ?_)
        refine lv_goto (tgt := 3) hx hb dX5_mixedWoman_25 (by decide) ?_
        exact ih r6 x3 (x4 + 1) s5 H locs ls h hP hS (lv_sub hl [2, 1, 3, 0] rfl)
  unfold p_X5_mixedWoman at h
  refine lv_iconst (v := 0) hx hb dX5_mixedWoman_0 (by decide) ?_
  refine lv_istore (i := 4) (lv' := [(4, .int 0), (0, .ref (ad x0)), (1, .long x1), (3, .int x3)]) hx hb dX5_mixedWoman_1 hl (by decide) (by first | rfl | simp [re_cat, cat_i, cat_l, cat_r]) (fun ls hl => ?_)
  obtain ⟨n1, h⟩ := h
  exact hB3 n1 x1 x3 0 s0 _ _ ls h hP hS (lv_sub hl [1, 2, 3, 0] rfl)
def p_X5_digest_L86 (Q : Int64 → Sg → Prop)  : Nat → Nat → Int64 → Int32 → Sg → Prop
  | 0, _, _, _, _ => False
  | n + 1, x0, x1, x3, s => ∃ k1, tX x0 4 = some k1 ∧ (kX k1 = 7 ∨ kX k1 = 8 ∨ kX k1 = 9) ∧ (((nI (lX k1)) ≤ x3 → p_X5_mixedShelf x1 (tX x0 0) s (fun r6 s5 => p_X5_mixedShelf r6 (tX x0 1) s5 (fun r8 s7 => Q r8 s7))) ∧ (¬ (nI (lX k1)) ≤ x3 → p_X5_deedsKept x0 x3 s (fun r10 s9 => p_X5_mixed x1 r10 s9 (fun r12 s11 => p_X5_digest_L86 Q  n x0 r12 (x3 + 1) s11))))
def p_X5_digest_L60 (Q : Int64 → Sg → Prop)  : Nat → Nat → Int64 → Int32 → Sg → Prop
  | 0, _, _, _, _ => False
  | n + 1, x0, x1, x3, s => ∃ k1, tX x0 3 = some k1 ∧ kX k1 = 0 ∧ (((gI s k1 0) ≤ x3 → (∃ n5, p_X5_digest_L86 Q  n5 x0 x1 0 s)) ∧ (¬ (gI s k1 0) ≤ x3 → p_X5_mixedWoman x0 x1 x3 s (fun r7 s6 => p_X5_digest_L60 Q  n x0 r7 (x3 + 1) s6)))
def p_X5_digest_L30 (Q : Int64 → Sg → Prop)  : Nat → Nat → Int64 → Int32 → Sg → Prop
  | 0, _, _, _, _ => False
  | n + 1, x0, x1, x3, s => ((6 ≤ x3 → (∃ n2, p_X5_digest_L60 Q  n2 x0 x1 0 s)) ∧ (¬ 6 ≤ x3 → ∃ k3, tX x0 3 = some k3 ∧ kX k3 = 0 ∧ p_X5_item (tX k3 4) x3 s (fun r7 s6 => p_X5_mixed x1 r7 s6 (fun r9 s8 => p_X5_digest_L30 Q  n x0 r9 (x3 + 1) s8))))
def p_X5_digest_L6 (Q : Int64 → Sg → Prop)  : Nat → Nat → Int64 → Int32 → Sg → Prop
  | 0, _, _, _, _ => False
  | n + 1, x0, x1, x3, s => ((11 ≤ x3 → (∃ n2, p_X5_digest_L30 Q  n2 x0 x1 0 s)) ∧ (¬ 11 ≤ x3 → p_X5_count x0 x3 s (fun r4 s3 => p_X5_mixed x1 r4 s3 (fun r6 s5 => p_X5_digest_L6 Q  n x0 r6 (x3 + 1) s5))))
def p_X5_digest (x0 : Nat) (s : Sg) (Q : Int64 → Sg → Prop) : Prop := (∃ n1, p_X5_digest_L6 Q  n1 x0 17 0 s)
set_option maxHeartbeats 4000000 in
set_option maxRecDepth 100000 in
theorem c_X5_digest (l : Launch) (D : va_G) (cs : Cs) (ad : Nat → Nat) (x0 : Nat) (s0 : Sg) (Q : Int64 → Sg → Prop) (hk0 : kX x0 = 4) : Met l yX5_digest wsX5_digest { frames := 7, cells := 0, slots := 0, locals := 163 } (Pc0 bX D cs ad [.ref (ad x0)] s0 (p_X5_digest x0 s0 Q)) (QL bX D cs ad Q) 0 0 (fAd bX ad) := by
  refine Met.ofW (cc := cX5_digest) (maxL := 4) (ret := (some .long)) (by decide) rfl ?_
  intro p e s m args below meth c s₁ B0 hml hv
  obtain ⟨ha, hP, hE, h⟩ := hv
  have hx := B0.exec
  have hb := B0.bytes
  have hr := B0.returns
  have hts := atoms_spec (ws := wsX5_digest) B0.pre
  have hown : s.vm.findClass RX5 = some m.cls := findClass_of_methodNamed B0.named
  have hlocks := B0.notSynchronized
  have hi_X0 : ∀ w ∈ u_ws RX0 TX0 15, w ∈ wsX5_digest := by decide +kernel
  have hi_X5 : ∀ w ∈ u_ws RX5 TX5 12, w ∈ wsX5_digest := by decide +kernel
  have hS : va_S (fAd bX ad) s.heap s.heap [] := va_S.rf
  have hl := lv_entry ([.ref (ad x0)]) (n := 4) (by first | exact Nat.le_of_ble_eq_true rfl | simp [lg_sl, re_cat, cat_i, cat_l, cat_r])
  rw [show entryFrame m args 4 = entryFrame m ([.ref (ad x0)] : List Value).toArray 4 by rw [ha], lg_entry_eq]
  generalize (lg_sl ([.ref (ad x0)]) ++ List.replicate (4 - (lg_sl ([.ref (ad x0)])).length) Slot.unset).toArray = ls at hl ⊢
  have hl : lv_has ls 4 [(0, .ref (ad x0))] := by first | exact hl | simpa [lv_args, re_cat, cat_i, cat_l, cat_r] using hl
  have hB86 : ∀ (n86 : Nat) (x1 : Int64) (x3 : Int32) (σ : Sg) (H : Heap) (locs : List Loc) (ls : Array Slot), p_X5_digest_L86 Q  n86 x0 x1 x3 σ → va_P D vwCl (wl bX cs ad σ) H → va_S (fAd bX ad) s.heap H locs → lv_has ls 4 [(0, .ref (ad x0)), (1, .long x1), (3, .int x3)] → W p l e { frames := 7, cells := 0, slots := 0, locals := 163 } s m args below meth c H locs 0 0 (MQ below (QL bX D cs ad Q) args s 0 0 (fAd bX ad)) (F0 m 86 ls []) := by
    intro n86
    induction n86 with
    | zero =>
      intro x1 x3 σ H locs ls h
      exact h.elim
    | succ n86 ih =>
      have hK86 := ih
      intro x1 x3 σ H locs ls h hP hS hl
      rw [p_X5_digest_L86] at h
      refine lv_iload_n hx hb dX5_digest_86 rfl (lv_at hl 2 rfl) ?_
      refine lv_aload_n hx hb dX5_digest_87 rfl (lv_at hl 0 rfl) ?_
      refine va_get (ci := 4) (v := va_re ad (tX x0 4)) (C := RX5) (T := TX5) (N := 12) hx hb hts hi_X5 hown hE.1 hP x0 (w_4 hE hk0) rfl 4 (by decide) (hts (.fieldLink RX5 37 "HemLine" "kept" "[LHemLine$Delta;") (by decide +kernel)) (fun _ h9 => h9) rfl dX5_digest_88 ?_
      obtain ⟨k1, e2, q3, h⟩ := h
      refine r_alen hx hb hE hP e2 q3 dX5_digest_91 ?_
      refine lv_icmp_ge (tgt := 111) hx hb dX5_digest_92 (by decide) (fun c4 => ?_) (fun c4 => ?_)
      · replace h := h.1 c4
        refine lv_lload_n hx hb dX5_digest_111 rfl (lv_at hl 1 rfl) ?_
        refine lv_aload_n hx hb dX5_digest_112 rfl (lv_at hl 0 rfl) ?_
        refine va_get (ci := 4) (v := va_re ad (tX x0 0)) (C := RX5) (T := TX5) (N := 12) hx hb hts hi_X5 hown hE.1 hP x0 (w_4 hE hk0) rfl 0 (by decide) (hts (.fieldLink RX5 16 "HemLine" "rows" "LHemLine$Shelf;") (by decide +kernel)) (fun _ h9 => h9) rfl dX5_digest_113 ?_
        refine f_l (kS (As := [.long x1, va_re ad (tX x0 0)]) (rest := []) ⟨hx, hb, hml, hown, hts⟩ (c_X5_mixedShelf l D cs ad x1 (tX x0 0) σ _) (va_cwS 2 hts gX5_digest_X5_mixedShelf rfl rfl rfl (by decide +kernel) ⟨Nat.le_of_ble_eq_true rfl, Nat.le_of_ble_eq_true rfl⟩) hE hP h rfl hl.1 rfl (by first | exact lv_room (Nat.le_of_ble_eq_true rfl) | (refine lv_room ?_; simp [re_cat, cat_i, cat_l, cat_r])) dX5_digest_116 ⟨Nat.le_refl _, Nat.le_refl _⟩) hS (fun r6 s5 H locs h hP hS => ?_)
        refine lv_aload_n hx hb dX5_digest_119 rfl (lv_at hl 0 rfl) ?_
        refine va_get (ci := 4) (v := va_re ad (tX x0 1)) (C := RX5) (T := TX5) (N := 12) hx hb hts hi_X5 hown hE.1 hP x0 (w_4 hE hk0) rfl 1 (by decide) (hts (.fieldLink RX5 20 "HemLine" "texts" "LHemLine$Shelf;") (by decide +kernel)) (fun _ h9 => h9) rfl dX5_digest_120 ?_
        refine f_l (kS (As := [.long r6, va_re ad (tX x0 1)]) (rest := []) ⟨hx, hb, hml, hown, hts⟩ (c_X5_mixedShelf l D cs ad r6 (tX x0 1) s5 _) (va_cwS 2 hts gX5_digest_X5_mixedShelf rfl rfl rfl (by decide +kernel) ⟨Nat.le_of_ble_eq_true rfl, Nat.le_of_ble_eq_true rfl⟩) hE hP h rfl hl.1 rfl (by first | exact lv_room (Nat.le_of_ble_eq_true rfl) | (refine lv_room ?_; simp [re_cat, cat_i, cat_l, cat_r])) dX5_digest_123 ⟨Nat.le_refl _, Nat.le_refl _⟩) hS (fun r8 s7 H locs h hP hS => ?_)
        exact W.lret hx hb hr (fun t ht hW => ⟨⟨_, _, rfl, h, pw ht hP⟩, hS.F ht⟩) hS.2.2 dX5_digest_126
      · replace h := h.2 c4
        refine lv_lload_n hx hb dX5_digest_95 rfl (lv_at hl 1 rfl) ?_
        refine lv_aload_n hx hb dX5_digest_96 rfl (lv_at hl 0 rfl) ?_
        refine lv_iload_n hx hb dX5_digest_97 rfl (lv_at hl 2 rfl) ?_
        refine f_i (kV (As := [.int x3]) (rest := [.long x1]) (o := some x0) rfl ⟨hx, hb, hml, hown, hts⟩ (c_X5_deedsKept l D cs ad x0 x3 σ _ hk0) (cwV 1 hts gX5_digest_X5_deedsKept rfl rfl rfl (by decide +kernel) ⟨Nat.le_of_ble_eq_true rfl, Nat.le_of_ble_eq_true rfl⟩) hE hP rfl rfl (w_4 hE hk0) h rfl hl.1 rfl (by first | exact lv_room (Nat.le_of_ble_eq_true rfl) | (refine lv_room ?_; simp [re_cat, cat_i, cat_l, cat_r])) dX5_digest_98 ⟨Nat.le_refl _, Nat.le_refl _⟩) hS (fun r10 s9 H locs h hP hS => ?_)
        refine f_l (kS (As := [.long x1, .int r10]) (rest := []) ⟨hx, hb, hml, hown, hts⟩ (c_X5_mixed l D cs ad x1 r10 s9 _) (va_cwS 2 hts gX5_digest_X5_mixed rfl rfl rfl (by decide +kernel) ⟨Nat.le_of_ble_eq_true rfl, Nat.le_of_ble_eq_true rfl⟩) hE hP h rfl hl.1 rfl (by first | exact lv_room (Nat.le_of_ble_eq_true rfl) | (refine lv_room ?_; simp [re_cat, cat_i, cat_l, cat_r])) dX5_digest_101 ⟨Nat.le_refl _, Nat.le_refl _⟩) hS (fun r12 s11 H locs h hP hS => ?_)
        refine lv_lstore_n (i := 1) (lv' := [(1, .long r12), (0, .ref (ad x0)), (3, .int x3)]) hx hb dX5_digest_104 rfl hl (by decide) (by first | rfl | simp [re_cat, cat_i, cat_l, cat_r]) (fun ls hl => ?_)
        refine lv_iinc (v := x3 + 1) (lv' := [(3, .int (x3 + 1)), (1, .long r12), (0, .ref (ad x0))]) hx hb dX5_digest_105 hl (k := 2) rfl rfl (by decide) (by first | rfl | simp [re_cat, cat_i, cat_l, cat_r]) (fun ls hl => ?_)
        refine lv_goto (tgt := 86) hx hb dX5_digest_108 (by decide) ?_
        exact ih r12 (x3 + 1) s11 H locs ls h hP hS (lv_sub hl [2, 1, 0] rfl)
  have hB60 : ∀ (n60 : Nat) (x1 : Int64) (x3 : Int32) (σ : Sg) (H : Heap) (locs : List Loc) (ls : Array Slot), p_X5_digest_L60 Q  n60 x0 x1 x3 σ → va_P D vwCl (wl bX cs ad σ) H → va_S (fAd bX ad) s.heap H locs → lv_has ls 4 [(0, .ref (ad x0)), (1, .long x1), (3, .int x3)] → W p l e { frames := 7, cells := 0, slots := 0, locals := 163 } s m args below meth c H locs 0 0 (MQ below (QL bX D cs ad Q) args s 0 0 (fAd bX ad)) (F0 m 60 ls []) := by
    intro n60
    induction n60 with
    | zero =>
      intro x1 x3 σ H locs ls h
      exact h.elim
    | succ n60 ih =>
      have hK60 := ih
      intro x1 x3 σ H locs ls h hP hS hl
      rw [p_X5_digest_L60] at h
      refine lv_iload_n hx hb dX5_digest_60 rfl (lv_at hl 2 rfl) ?_
      refine lv_aload_n hx hb dX5_digest_61 rfl (lv_at hl 0 rfl) ?_
      refine va_get (ci := 4) (v := va_re ad (tX x0 3)) (C := RX5) (T := TX5) (N := 12) hx hb hts hi_X5 hown hE.1 hP x0 (w_4 hE hk0) rfl 3 (by decide) (hts (.fieldLink RX5 33 "HemLine" "now" "LHemLine$Delta;") (by decide +kernel)) (fun _ h9 => h9) rfl dX5_digest_62 ?_
      obtain ⟨k1, e2, q3, h⟩ := h
      refine r_known (ad := ad) e2 ?_
      refine va_getN (ci := 0) (v := .int (gI σ k1 0)) (C := RX0) (T := TX0) (N := 15) hx hb hts hi_X0 hown hE.1 hP k1 (w_0 hE q3) rfl 0 (by decide) ((hE.2.2.2.1 ("HemLine", 126, "HemLine$Delta", "women", "I", "HemLine") (by decide +kernel)).use rfl) (fun _ h9 => h9) rfl dX5_digest_65 ?_
      refine lv_icmp_ge (tgt := 84) hx hb dX5_digest_68 (by decide) (fun c4 => ?_) (fun c4 => ?_)
      · replace h := h.1 c4
        refine lv_iconst (v := 0) hx hb dX5_digest_84 (by decide) ?_
        refine lv_istore_n (i := 3) (lv' := [(3, .int 0), (0, .ref (ad x0)), (1, .long x1)]) hx hb dX5_digest_85 rfl hl (by decide) (by first | rfl | simp [re_cat, cat_i, cat_l, cat_r]) (fun ls hl => ?_)
        obtain ⟨n5, h⟩ := h
        exact hB86 n5 x1 0 σ H locs ls h hP hS (lv_sub hl [1, 2, 0] rfl)
      · replace h := h.2 c4
        refine lv_aload_n hx hb dX5_digest_71 rfl (lv_at hl 0 rfl) ?_
        refine lv_lload_n hx hb dX5_digest_72 rfl (lv_at hl 1 rfl) ?_
        refine lv_iload_n hx hb dX5_digest_73 rfl (lv_at hl 2 rfl) ?_
        refine f_l (kV (As := [.long x1, .int x3]) (rest := []) (o := some x0) rfl ⟨hx, hb, hml, hown, hts⟩ (c_X5_mixedWoman l D cs ad x0 x1 x3 σ _ hk0) (cwV 2 hts gX5_digest_X5_mixedWoman rfl rfl rfl (by decide +kernel) ⟨Nat.le_of_ble_eq_true rfl, Nat.le_of_ble_eq_true rfl⟩) hE hP rfl rfl (w_4 hE hk0) h rfl hl.1 rfl (by first | exact lv_room (Nat.le_of_ble_eq_true rfl) | (refine lv_room ?_; simp [re_cat, cat_i, cat_l, cat_r])) dX5_digest_74 ⟨Nat.le_refl _, Nat.le_refl _⟩) hS (fun r7 s6 H locs h hP hS => ?_)
        refine lv_lstore_n (i := 1) (lv' := [(1, .long r7), (0, .ref (ad x0)), (3, .int x3)]) hx hb dX5_digest_77 rfl hl (by decide) (by first | rfl | simp [re_cat, cat_i, cat_l, cat_r]) (fun ls hl => ?_)
        refine lv_iinc (v := x3 + 1) (lv' := [(3, .int (x3 + 1)), (1, .long r7), (0, .ref (ad x0))]) hx hb dX5_digest_78 hl (k := 2) rfl rfl (by decide) (by first | rfl | simp [re_cat, cat_i, cat_l, cat_r]) (fun ls hl => ?_)
        refine lv_goto (tgt := 60) hx hb dX5_digest_81 (by decide) ?_
        exact ih r7 (x3 + 1) s6 H locs ls h hP hS (lv_sub hl [2, 1, 0] rfl)
  have hB30 : ∀ (n30 : Nat) (x1 : Int64) (x3 : Int32) (σ : Sg) (H : Heap) (locs : List Loc) (ls : Array Slot), p_X5_digest_L30 Q  n30 x0 x1 x3 σ → va_P D vwCl (wl bX cs ad σ) H → va_S (fAd bX ad) s.heap H locs → lv_has ls 4 [(0, .ref (ad x0)), (1, .long x1), (3, .int x3)] → W p l e { frames := 7, cells := 0, slots := 0, locals := 163 } s m args below meth c H locs 0 0 (MQ below (QL bX D cs ad Q) args s 0 0 (fAd bX ad)) (F0 m 30 ls []) := by
    intro n30
    induction n30 with
    | zero =>
      intro x1 x3 σ H locs ls h
      exact h.elim
    | succ n30 ih =>
      have hK30 := ih
      intro x1 x3 σ H locs ls h hP hS hl
      rw [p_X5_digest_L30] at h
      refine lv_iload_n hx hb dX5_digest_30 rfl (lv_at hl 2 rfl) ?_
      refine lv_bipush (v := 6) hx hb dX5_digest_31 (by decide) ?_
      refine lv_icmp_ge (tgt := 58) hx hb dX5_digest_33 (by decide) (fun c1 => ?_) (fun c1 => ?_)
      · replace h := h.1 c1
        refine lv_iconst (v := 0) hx hb dX5_digest_58 (by decide) ?_
        refine lv_istore_n (i := 3) (lv' := [(3, .int 0), (0, .ref (ad x0)), (1, .long x1)]) hx hb dX5_digest_59 rfl hl (by decide) (by first | rfl | simp [re_cat, cat_i, cat_l, cat_r]) (fun ls hl => ?_)
        obtain ⟨n2, h⟩ := h
        exact hB60 n2 x1 0 σ H locs ls h hP hS (lv_sub hl [1, 2, 0] rfl)
      · replace h := h.2 c1
        refine lv_lload_n hx hb dX5_digest_36 rfl (lv_at hl 1 rfl) ?_
        refine lv_aload_n hx hb dX5_digest_37 rfl (lv_at hl 0 rfl) ?_
        refine va_get (ci := 4) (v := va_re ad (tX x0 3)) (C := RX5) (T := TX5) (N := 12) hx hb hts hi_X5 hown hE.1 hP x0 (w_4 hE hk0) rfl 3 (by decide) (hts (.fieldLink RX5 33 "HemLine" "now" "LHemLine$Delta;") (by decide +kernel)) (fun _ h9 => h9) rfl dX5_digest_38 ?_
        obtain ⟨k3, e4, q5, h⟩ := h
        refine r_known (ad := ad) e4 ?_
        refine va_getN (ci := 0) (v := va_re ad (tX k3 4)) (C := RX0) (T := TX0) (N := 15) hx hb hts hi_X0 hown hE.1 hP k3 (w_0 hE q5) rfl 4 (by decide) ((hE.2.2.2.1 ("HemLine", 189, "HemLine$Delta", "ground", "[I", "HemLine") (by decide +kernel)).use rfl) (fun _ h9 => h9) rfl dX5_digest_41 ?_
        refine lv_iload_n hx hb dX5_digest_44 rfl (lv_at hl 2 rfl) ?_
        refine f_i (kS (As := [va_re ad (tX k3 4), .int x3]) (rest := [.long x1]) ⟨hx, hb, hml, hown, hts⟩ (c_X5_item l D cs ad (tX k3 4) x3 σ _) (va_cwS 2 hts gX5_digest_X5_item rfl rfl rfl (by decide +kernel) ⟨Nat.le_of_ble_eq_true rfl, Nat.le_of_ble_eq_true rfl⟩) hE hP h rfl hl.1 rfl (by first | exact lv_room (Nat.le_of_ble_eq_true rfl) | (refine lv_room ?_; simp [re_cat, cat_i, cat_l, cat_r])) dX5_digest_45 ⟨Nat.le_refl _, Nat.le_refl _⟩) hS (fun r7 s6 H locs h hP hS => ?_)
        refine f_l (kS (As := [.long x1, .int r7]) (rest := []) ⟨hx, hb, hml, hown, hts⟩ (c_X5_mixed l D cs ad x1 r7 s6 _) (va_cwS 2 hts gX5_digest_X5_mixed rfl rfl rfl (by decide +kernel) ⟨Nat.le_of_ble_eq_true rfl, Nat.le_of_ble_eq_true rfl⟩) hE hP h rfl hl.1 rfl (by first | exact lv_room (Nat.le_of_ble_eq_true rfl) | (refine lv_room ?_; simp [re_cat, cat_i, cat_l, cat_r])) dX5_digest_48 ⟨Nat.le_refl _, Nat.le_refl _⟩) hS (fun r9 s8 H locs h hP hS => ?_)
        refine lv_lstore_n (i := 1) (lv' := [(1, .long r9), (0, .ref (ad x0)), (3, .int x3)]) hx hb dX5_digest_51 rfl hl (by decide) (by first | rfl | simp [re_cat, cat_i, cat_l, cat_r]) (fun ls hl => ?_)
        refine lv_iinc (v := x3 + 1) (lv' := [(3, .int (x3 + 1)), (1, .long r9), (0, .ref (ad x0))]) hx hb dX5_digest_52 hl (k := 2) rfl rfl (by decide) (by first | rfl | simp [re_cat, cat_i, cat_l, cat_r]) (fun ls hl => ?_)
        refine lv_goto (tgt := 30) hx hb dX5_digest_55 (by decide) ?_
        exact ih r9 (x3 + 1) s8 H locs ls h hP hS (lv_sub hl [2, 1, 0] rfl)
  have hB6 : ∀ (n6 : Nat) (x1 : Int64) (x3 : Int32) (σ : Sg) (H : Heap) (locs : List Loc) (ls : Array Slot), p_X5_digest_L6 Q  n6 x0 x1 x3 σ → va_P D vwCl (wl bX cs ad σ) H → va_S (fAd bX ad) s.heap H locs → lv_has ls 4 [(0, .ref (ad x0)), (1, .long x1), (3, .int x3)] → W p l e { frames := 7, cells := 0, slots := 0, locals := 163 } s m args below meth c H locs 0 0 (MQ below (QL bX D cs ad Q) args s 0 0 (fAd bX ad)) (F0 m 6 ls []) := by
    intro n6
    induction n6 with
    | zero =>
      intro x1 x3 σ H locs ls h
      exact h.elim
    | succ n6 ih =>
      have hK6 := ih
      intro x1 x3 σ H locs ls h hP hS hl
      rw [p_X5_digest_L6] at h
      refine lv_iload_n hx hb dX5_digest_6 rfl (lv_at hl 2 rfl) ?_
      refine lv_bipush (v := 11) hx hb dX5_digest_7 (by decide) ?_
      refine lv_icmp_ge (tgt := 28) hx hb dX5_digest_9 (by decide) (fun c1 => ?_) (fun c1 => ?_)
      · replace h := h.1 c1
        refine lv_iconst (v := 0) hx hb dX5_digest_28 (by decide) ?_
        refine lv_istore_n (i := 3) (lv' := [(3, .int 0), (0, .ref (ad x0)), (1, .long x1)]) hx hb dX5_digest_29 rfl hl (by decide) (by first | rfl | simp [re_cat, cat_i, cat_l, cat_r]) (fun ls hl => ?_)
        obtain ⟨n2, h⟩ := h
        exact hB30 n2 x1 0 σ H locs ls h hP hS (lv_sub hl [1, 2, 0] rfl)
      · replace h := h.2 c1
        refine lv_lload_n hx hb dX5_digest_12 rfl (lv_at hl 1 rfl) ?_
        refine lv_aload_n hx hb dX5_digest_13 rfl (lv_at hl 0 rfl) ?_
        refine lv_iload_n hx hb dX5_digest_14 rfl (lv_at hl 2 rfl) ?_
        refine f_i (kV (As := [.int x3]) (rest := [.long x1]) (o := some x0) rfl ⟨hx, hb, hml, hown, hts⟩ (c_X5_count l D cs ad x0 x3 σ _ hk0) (cwV 1 hts gX5_digest_X5_count rfl rfl rfl (by decide +kernel) ⟨Nat.le_of_ble_eq_true rfl, Nat.le_of_ble_eq_true rfl⟩) hE hP rfl rfl (w_4 hE hk0) h rfl hl.1 rfl (by first | exact lv_room (Nat.le_of_ble_eq_true rfl) | (refine lv_room ?_; simp [re_cat, cat_i, cat_l, cat_r])) dX5_digest_15 ⟨Nat.le_refl _, Nat.le_refl _⟩) hS (fun r4 s3 H locs h hP hS => ?_)
        refine f_l (kS (As := [.long x1, .int r4]) (rest := []) ⟨hx, hb, hml, hown, hts⟩ (c_X5_mixed l D cs ad x1 r4 s3 _) (va_cwS 2 hts gX5_digest_X5_mixed rfl rfl rfl (by decide +kernel) ⟨Nat.le_of_ble_eq_true rfl, Nat.le_of_ble_eq_true rfl⟩) hE hP h rfl hl.1 rfl (by first | exact lv_room (Nat.le_of_ble_eq_true rfl) | (refine lv_room ?_; simp [re_cat, cat_i, cat_l, cat_r])) dX5_digest_18 ⟨Nat.le_refl _, Nat.le_refl _⟩) hS (fun r6 s5 H locs h hP hS => ?_)
        refine lv_lstore_n (i := 1) (lv' := [(1, .long r6), (0, .ref (ad x0)), (3, .int x3)]) hx hb dX5_digest_21 rfl hl (by decide) (by first | rfl | simp [re_cat, cat_i, cat_l, cat_r]) (fun ls hl => ?_)
        refine lv_iinc (v := x3 + 1) (lv' := [(3, .int (x3 + 1)), (1, .long r6), (0, .ref (ad x0))]) hx hb dX5_digest_22 hl (k := 2) rfl rfl (by decide) (by first | rfl | simp [re_cat, cat_i, cat_l, cat_r]) (fun ls hl => ?_)
        refine lv_goto (tgt := 6) hx hb dX5_digest_25 (by decide) ?_
        exact ih r6 (x3 + 1) s5 H locs ls h hP hS (lv_sub hl [2, 1, 0] rfl)
  unfold p_X5_digest at h
  refine lv_ldc2 (v := 17) hx hb hown (hts (.constantLong RX5 313 (17)) (by decide +kernel)) dX5_digest_0 ?_
  refine lv_lstore_n (i := 1) (lv' := [(1, .long 17), (0, .ref (ad x0))]) hx hb dX5_digest_3 rfl hl (by decide) (by first | rfl | simp [re_cat, cat_i, cat_l, cat_r]) (fun ls hl => ?_)
  refine lv_iconst (v := 0) hx hb dX5_digest_4 (by decide) ?_
  refine lv_istore_n (i := 3) (lv' := [(3, .int 0), (1, .long 17), (0, .ref (ad x0))]) hx hb dX5_digest_5 rfl hl (by decide) (by first | rfl | simp [re_cat, cat_i, cat_l, cat_r]) (fun ls hl => ?_)
  obtain ⟨n1, h⟩ := h
  exact hB6 n1 17 0 s0 _ _ ls h hP hS (lv_sub hl [2, 1, 0] rfl)
