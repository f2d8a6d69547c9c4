def p_X1_take_L21 (Q : Sg → Prop)  : Nat → Nat → Option Nat → Int32 → Sg → Prop
  | 0, _, _, _, _ => False
  | n + 1, x0, x1, x2, s => ∃ k1, x1 = some k1 ∧ kX k1 = 0 ∧ (((gI s k1 0) ≤ x2 → Q s) ∧ (¬ (gI s k1 0) ≤ x2 → ∃ k5, x1 = some k5 ∧ kX k5 = 0 ∧ p_X5_item (tX k5 6) x2 s (fun r9 s8 => p_X5_item (tX x0 1) r9 s8 (fun r11 s10 => p_X5_setItem (tX x0 1) r9 (r11 + 1) s10 (fun s12 => p_X1_take_L21 Q  n x0 x1 (x2 + 1) s12)))))
def p_X1_take (x0 : Nat) (x1 : Option Nat) (s : Sg) (Q : Sg → Prop) : Prop := p_J7_fill_53178 bX (tX x0 1) 0 s (fun s1 => ∃ k2, x1 = some k2 ∧ kX k2 = 0 ∧ p_X5_copyItems (tX k2 4) (tX x0 0) s1 (fun s5 => (∃ n6, p_X1_take_L21 Q  n6 x0 x1 0 s5)))
set_option maxHeartbeats 4000000 in
set_option maxRecDepth 100000 in
theorem c_X1_take (l : Launch) (D : va_G) (cs : Cs) (ad : Nat → Nat) (x0 : Nat) (x1 : Option Nat) (s0 : Sg) (Q : Sg → Prop) (hk0 : kX x0 = 1) : Met l yX1_take wsX1_take { frames := 3, cells := 0, slots := 0, locals := 113 } (Pc0 bX D cs ad [.ref (ad x0), va_re ad x1] s0 (p_X1_take x0 x1 s0 Q)) (QV bX D cs ad Q) 0 0 (fAd bX ad) := by
  refine Met.ofW (cc := cX1_take) (maxL := 4) (ret := none) (by decide) rfl ?_
  intro p e s m args below meth c s₁ B0 hml hv
  obtain ⟨ha, hP, hE, h⟩ := hv
  have hx := B0.exec
  have hb := B0.bytes
  have hr := B0.returns
  have hts := atoms_spec (ws := wsX1_take) B0.pre
  have hown : s.vm.findClass RX1 = some m.cls := findClass_of_methodNamed B0.named
  have hlocks := B0.notSynchronized
  have hi_X0 : ∀ w ∈ u_ws RX0 TX0 15, w ∈ wsX1_take := by decide +kernel
  have hi_X1 : ∀ w ∈ u_ws RX1 TX1 3, w ∈ wsX1_take := by decide +kernel
  have hS : va_S (fAd bX ad) s.heap s.heap [] := va_S.rf
  have hl := lv_entry ([.ref (ad x0), va_re ad x1]) (n := 4) (by first | exact Nat.le_of_ble_eq_true rfl | simp [lg_sl, re_cat, cat_i, cat_l, cat_r])
  rw [show entryFrame m args 4 = entryFrame m ([.ref (ad x0), va_re ad x1] : List Value).toArray 4 by rw [ha], lg_entry_eq]
  generalize (lg_sl ([.ref (ad x0), va_re ad x1]) ++ List.replicate (4 - (lg_sl ([.ref (ad x0), va_re ad x1])).length) Slot.unset).toArray = ls at hl ⊢
  have hl : lv_has ls 4 [(0, .ref (ad x0)), (1, va_re ad x1)] := by first | exact hl | simpa [lv_args, re_cat, cat_i, cat_l, cat_r] using hl
  have hB21 : ∀ (n21 : Nat) (x1 : Option Nat) (x2 : Int32) (σ : Sg) (H : Heap) (locs : List Loc) (ls : Array Slot), p_X1_take_L21 Q  n21 x0 x1 x2 σ → va_P D vwCl (wl bX cs ad σ) H → va_S (fAd bX ad) s.heap H locs → lv_has ls 4 [(0, .ref (ad x0)), (1, va_re ad x1), (2, .int x2)] → W p l e { frames := 3, cells := 0, slots := 0, locals := 113 } s m args below meth c H locs 0 0 (MQ below (QV bX D cs ad Q) args s 0 0 (fAd bX ad)) (F0 m 21 ls []) := by
    intro n21
    induction n21 with
    | zero =>
      intro x1 x2 σ H locs ls h
      exact h.elim
    | succ n21 ih =>
      have hK21 := ih
      intro x1 x2 σ H locs ls h hP hS hl
      rw [p_X1_take_L21] at h
      refine lv_iload_n hx hb dX1_take_21 rfl (lv_at hl 2 rfl) ?_
      refine r_aload_n hx hb dX1_take_22 rfl (lv_at hl 1 rfl) ?_
      obtain ⟨k1, e2, q3, h⟩ := h
      refine r_known (ad := ad) e2 ?_
      refine va_getN (ci := 0) (v := .int (gI σ k1 0)) (C := RX0) (T := TX0) (N := 15) hx hb hts hi_X0 hown hE.1 hP k1 (w_0 hE q3) rfl 0 (by decide) ((hE.2.2.2.1 ("HemLine$Dykes", 34, "HemLine$Delta", "women", "I", "HemLine") (by decide +kernel)).use rfl) (fun _ h9 => h9) rfl dX1_take_23 ?_
      refine lv_icmp_ge (tgt := 62) hx hb dX1_take_26 (by decide) (fun c4 => ?_) (fun c4 => ?_)
      · replace h := h.1 c4
        exact W.vret hx hb hr (fun t ht hW => ⟨⟨_, rfl, h, pw ht hP⟩, hS.F ht⟩) hS.2.2 dX1_take_62
      · replace h := h.2 c4
        refine r_aload_n hx hb dX1_take_29 rfl (lv_at hl 1 rfl) ?_
        obtain ⟨k5, e6, q7, h⟩ := h
        refine r_known (ad := ad) e6 ?_
        refine va_getN (ci := 0) (v := va_re ad (tX k5 6)) (C := RX0) (T := TX0) (N := 15) hx hb hts hi_X0 hown hE.1 hP k5 (w_0 hE q7) rfl 6 (by decide) ((hE.2.2.2.1 ("HemLine$Dykes", 38, "HemLine$Delta", "placeOf", "[I", "HemLine") (by decide +kernel)).use rfl) (fun _ h9 => h9) rfl dX1_take_30 ?_
        refine lv_iload_n hx hb dX1_take_33 rfl (lv_at hl 2 rfl) ?_
        refine f_i (kN (As := [va_re ad (tX k5 6), .int x2]) (rest := []) ⟨hx, hb, hml, hown, hts⟩ (c_X5_item l D cs ad (tX k5 6) x2 σ _) ⟨va_cnB 2 hts gX1_take_X5_item_n41 rfl rfl rfl (hE.2.2.2.2 ("HemLine$Dykes", 41, ⟨"HemLine", "item", "([II)I"⟩, "HemLine") (by decide +kernel)) (hts (.initialized RX5) (by decide +kernel)) (by decide +kernel) ⟨Nat.le_of_ble_eq_true rfl, Nat.le_of_ble_eq_true rfl⟩, hts (.static yX5_item) (by decide +kernel), trivial⟩ hE hP h rfl hl.1 rfl (by first | exact lv_room (Nat.le_of_ble_eq_true rfl) | (refine lv_room ?_; simp [re_cat, cat_i, cat_l, cat_r])) dX1_take_34 ⟨Nat.le_refl _, Nat.le_refl _⟩) hS (fun r9 s8 H locs h hP hS => ?_)
        refine lv_istore_n (i := 3) (lv' := [(3, .int r9), (0, .ref (ad x0)), (1, va_re ad x1), (2, .int x2)]) hx hb dX1_take_37 rfl hl (by decide) (by first | rfl | simp [re_cat, cat_i, cat_l, cat_r]) (fun ls hl => ?_)
        refine lv_aload_n hx hb dX1_take_38 rfl (lv_at hl 1 rfl) ?_
        refine va_get (ci := 1) (v := va_re ad (tX x0 1)) (C := RX1) (T := TX1) (N := 3) hx hb hts hi_X1 hown hE.1 hP x0 (w_1 hE hk0) rfl 1 (by decide) (hts (.fieldLink RX1 15 "HemLine$Dykes" "folk" "[I") (by decide +kernel)) (fun _ h9 => h9) rfl dX1_take_39 ?_
        refine lv_iload_n hx hb dX1_take_42 rfl (lv_at hl 0 rfl) ?_
        refine lv_aload_n hx hb dX1_take_43 rfl (lv_at hl 1 rfl) ?_
        refine va_get (ci := 1) (v := va_re ad (tX x0 1)) (C := RX1) (T := TX1) (N := 3) hx hb hts hi_X1 hown hE.1 hP x0 (w_1 hE hk0) rfl 1 (by decide) (hts (.fieldLink RX1 15 "HemLine$Dykes" "folk" "[I") (by decide +kernel)) (fun _ h9 => h9) rfl dX1_take_44 ?_
        refine lv_iload_n hx hb dX1_take_47 rfl (lv_at hl 0 rfl) ?_
        refine f_i (kN (As := [va_re ad (tX x0 1), .int r9]) (rest := [.int r9, va_re ad (tX x0 1)]) ⟨hx, hb, hml, hown, hts⟩ (c_X5_item l D cs ad (tX x0 1) r9 s8 _) ⟨va_cnB 2 hts gX1_take_X5_item_n41 rfl rfl rfl (hE.2.2.2.2 ("HemLine$Dykes", 41, ⟨"HemLine", "item", "([II)I"⟩, "HemLine") (by decide +kernel)) (hts (.initialized RX5) (by decide +kernel)) (by decide +kernel) ⟨Nat.le_of_ble_eq_true rfl, Nat.le_of_ble_eq_true rfl⟩, hts (.static yX5_item) (by decide +kernel), trivial⟩ hE hP h rfl hl.1 rfl (by first | exact lv_room (Nat.le_of_ble_eq_true rfl) | (refine lv_room ?_; simp [re_cat, cat_i, cat_l, cat_r])) dX1_take_48 ⟨Nat.le_refl _, Nat.le_refl _⟩) hS (fun r11 s10 H locs h hP hS => ?_)
        refine lv_iconst (v := 1) hx hb dX1_take_51 (by decide) ?_
        refine lv_iadd hx hb dX1_take_52 ?_
        refine f_v (kN (As := [va_re ad (tX x0 1), .int r9, .int (r11 + 1)]) (rest := []) ⟨hx, hb, hml, hown, hts⟩ (c_X5_setItem l D cs ad (tX x0 1) r9 (r11 + 1) s10 _) ⟨va_cnB 3 hts gX1_take_X5_setItem_n45 rfl rfl rfl (hE.2.2.2.2 ("HemLine$Dykes", 45, ⟨"HemLine", "setItem", "([III)V"⟩, "HemLine") (by decide +kernel)) (hts (.initialized RX5) (by decide +kernel)) (by decide +kernel) ⟨Nat.le_of_ble_eq_true rfl, Nat.le_of_ble_eq_true rfl⟩, hts (.static yX5_setItem) (by decide +kernel), trivial⟩ hE hP h rfl hl.1 rfl (by first | exact lv_room (Nat.le_of_ble_eq_true rfl) | (refine lv_room ?_; simp [re_cat, cat_i, cat_l, cat_r])) dX1_take_53 ⟨Nat.le_refl _, Nat.le_refl _⟩) hS (fun s12 H locs h hP hS => ?_)
        refine lv_iinc (v := x2 + 1) (lv' := [(2, .int (x2 + 1)), (3, .int r9), (0, .ref (ad x0)), (1, va_re ad x1)]) hx hb dX1_take_56 hl (k := 3) rfl rfl (by decide) (by first | rfl | simp [re_cat, cat_i, cat_l, cat_r]) (fun ls hl => ?_)
        refine lv_goto (tgt := 21) hx hb dX1_take_59 (by decide) ?_
        exact ih x1 (x2 + 1) s12 H locs ls h hP hS (lv_sub hl [2, 3, 0] rfl)
  unfold p_X1_take at h
  refine lv_aload_n hx hb dX1_take_0 rfl (lv_at hl 0 rfl) ?_
  refine va_get (ci := 1) (v := va_re ad (tX x0 1)) (C := RX1) (T := TX1) (N := 3) hx hb hts hi_X1 hown hE.1 hP x0 (w_1 hE hk0) rfl 1 (by decide) (hts (.fieldLink RX1 15 "HemLine$Dykes" "folk" "[I") (by decide +kernel)) (fun _ h9 => h9) rfl dX1_take_1 ?_
  refine lv_iconst (v := 0) hx hb dX1_take_4 (by decide) ?_
  refine f_v (kS (As := [va_re ad (tX x0 1), .int 0]) (rest := []) ⟨hx, hb, hml, hown, hts⟩ (c_J7_fill_53178 l bX D cs ad (tX x0 1) 0 s0 _) (va_cwS 2 hts gX1_take_J7_fill_53178 rfl rfl rfl (by decide +kernel) ⟨Nat.le_of_ble_eq_true rfl, Nat.le_of_ble_eq_true rfl⟩) hE hP h rfl hl.1 rfl (by first | exact lv_room (Nat.le_of_ble_eq_true rfl) | (refine lv_room ?_; simp [re_cat, cat_i, cat_l, cat_r])) dX1_take_5 ⟨Nat.le_refl _, Nat.le_refl _⟩) hS (fun s1 H locs h hP hS => ?_)
  refine r_aload_n hx hb dX1_take_8 rfl (lv_at hl 1 rfl) ?_
  obtain ⟨k2, e3, q4, h⟩ := h
  refine r_known (ad := ad) e3 ?_
  refine va_getN (ci := 0) (v := va_re ad (tX k2 4)) (C := RX0) (T := TX0) (N := 15) hx hb hts hi_X0 hown hE.1 hP k2 (w_0 hE q4) rfl 4 (by decide) ((hE.2.2.2.1 ("HemLine$Dykes", 27, "HemLine$Delta", "ground", "[I", "HemLine") (by decide +kernel)).use rfl) (fun _ h9 => h9) rfl dX1_take_9 ?_
  refine lv_aload_n hx hb dX1_take_12 rfl (lv_at hl 0 rfl) ?_
  refine va_get (ci := 1) (v := va_re ad (tX x0 0)) (C := RX1) (T := TX1) (N := 3) hx hb hts hi_X1 hown hE.1 hP x0 (w_1 hE hk0) rfl 0 (by decide) (hts (.fieldLink RX1 9 "HemLine$Dykes" "ground" "[I") (by decide +kernel)) (fun _ h9 => h9) rfl dX1_take_13 ?_
  refine f_v (kN (As := [va_re ad (tX k2 4), va_re ad (tX x0 0)]) (rest := []) ⟨hx, hb, hml, hown, hts⟩ (c_X5_copyItems l D cs ad (tX k2 4) (tX x0 0) s1 _) ⟨va_cnB 2 hts gX1_take_X5_copyItems_n30 rfl rfl rfl (hE.2.2.2.2 ("HemLine$Dykes", 30, ⟨"HemLine", "copyItems", "([I[I)V"⟩, "HemLine") (by decide +kernel)) (hts (.initialized RX5) (by decide +kernel)) (by decide +kernel) ⟨Nat.le_of_ble_eq_true rfl, Nat.le_of_ble_eq_true rfl⟩, hts (.static yX5_copyItems) (by decide +kernel), trivial⟩ hE hP h rfl hl.1 rfl (by first | exact lv_room (Nat.le_of_ble_eq_true rfl) | (refine lv_room ?_; simp [re_cat, cat_i, cat_l, cat_r])) dX1_take_16 ⟨Nat.le_refl _, Nat.le_refl _⟩) hS (fun s5 H locs h hP hS => ?_)
  refine lv_iconst (v := 0) hx hb dX1_take_19 (by decide) ?_
  refine lv_istore_n (i := 2) (lv' := [(2, .int 0), (0, .ref (ad x0)), (1, va_re ad x1)]) hx hb dX1_take_20 rfl hl (by decide) (by first | rfl | simp [re_cat, cat_i, cat_l, cat_r]) (fun ls hl => ?_)
  obtain ⟨n6, h⟩ := h
  exact hB21 n6 x1 0 s5 _ _ ls h hP hS (lv_sub hl [1, 2, 0] rfl)
def p_X1_leastOf (x0 : Nat) (x1 : Int32) (x2 : Int32) (s : Sg) (Q : Int32 → Sg → Prop) : Prop := p_X5_item (tX x0 2) ((x1 * 7) + x2) s (fun r2 s1 => Q r2 s1)
set_option maxHeartbeats 4000000 in
set_option maxRecDepth 100000 in
theorem c_X1_leastOf (l : Launch) (D : va_G) (cs : Cs) (ad : Nat → Nat) (x0 : Nat) (x1 : Int32) (x2 : Int32) (s0 : Sg) (Q : Int32 → Sg → Prop) (hk0 : kX x0 = 1) : Met l yX1_leastOf wsX1_leastOf { frames := 1, cells := 0, slots := 0, locals := 21 } (Pc0 bX D cs ad [.ref (ad x0), .int x1, .int x2] s0 (p_X1_leastOf x0 x1 x2 s0 Q)) (QI bX D cs ad Q) 0 0 (fAd bX ad) := by
  refine Met.ofW (cc := cX1_leastOf) (maxL := 3) (ret := (some .int)) (by decide) rfl ?_
  intro p e s m args below meth c s₁ B0 hml hv
  obtain ⟨ha, hP, hE, h⟩ := hv
  have hx := B0.exec
  have hb := B0.bytes
  have hr := B0.returns
  have hts := atoms_spec (ws := wsX1_leastOf) B0.pre
  have hown : s.vm.findClass RX1 = some m.cls := findClass_of_methodNamed B0.named
  have hlocks := B0.notSynchronized
  have hi_X1 : ∀ w ∈ u_ws RX1 TX1 3, w ∈ wsX1_leastOf := by decide +kernel
  have hS : va_S (fAd bX ad) s.heap s.heap [] := va_S.rf
  have hl := lv_entry ([.ref (ad x0), .int x1, .int x2]) (n := 3) (by first | exact Nat.le_of_ble_eq_true rfl | simp [lg_sl, re_cat, cat_i, cat_l, cat_r])
  rw [show entryFrame m args 3 = entryFrame m ([.ref (ad x0), .int x1, .int x2] : List Value).toArray 3 by rw [ha], lg_entry_eq]
  generalize (lg_sl ([.ref (ad x0), .int x1, .int x2]) ++ List.replicate (3 - (lg_sl ([.ref (ad x0), .int x1, .int x2])).length) Slot.unset).toArray = ls at hl ⊢
  have hl : lv_has ls 3 [(0, .ref (ad x0)), (1, .int x1), (2, .int x2)] := by first | exact hl | simpa [lv_args, re_cat, cat_i, cat_l, cat_r] using hl
  unfold p_X1_leastOf at h
  refine lv_aload_n hx hb dX1_leastOf_0 rfl (lv_at hl 0 rfl) ?_
  refine va_get (ci := 1) (v := va_re ad (tX x0 2)) (C := RX1) (T := TX1) (N := 3) hx hb hts hi_X1 hown hE.1 hP x0 (w_1 hE hk0) rfl 2 (by decide) (hts (.fieldLink RX1 18 "HemLine$Dykes" "leastFrom" "[I") (by decide +kernel)) (fun _ h9 => h9) rfl dX1_leastOf_1 ?_
  refine lv_iload_n hx hb dX1_leastOf_4 rfl (lv_at hl 1 rfl) ?_
  refine lv_bipush (v := 7) hx hb dX1_leastOf_5 (by decide) ?_
  refine lv_imul hx hb dX1_leastOf_7 ?_
  refine lv_iload_n hx hb dX1_leastOf_8 rfl (lv_at hl 2 rfl) ?_
  refine lv_iadd hx hb dX1_leastOf_9 ?_
  refine f_i (kN (As := [va_re ad (tX x0 2), .int ((x1 * 7) + x2)]) (rest := []) ⟨hx, hb, hml, hown, hts⟩ (c_X5_item l D cs ad (tX x0 2) ((x1 * 7) + x2) s0 _) ⟨va_cnB 2 hts gX1_leastOf_X5_item_n41 rfl rfl rfl (hE.2.2.2.2 ("HemLine$Dykes", 41, ⟨"HemLine", "item", "([II)I"⟩, "HemLine") (by decide +kernel)) (hts (.initialized RX5) (by decide +kernel)) (by decide +kernel) ⟨Nat.le_of_ble_eq_true rfl, Nat.le_of_ble_eq_true rfl⟩, hts (.static yX5_item) (by decide +kernel), trivial⟩ hE hP h rfl hl.1 rfl (by first | exact lv_room (Nat.le_of_ble_eq_true rfl) | (refine lv_room ?_; simp [re_cat, cat_i, cat_l, cat_r])) dX1_leastOf_10 ⟨Nat.le_refl _, Nat.le_refl _⟩) hS (fun r2 s1 H locs h hP hS => ?_)
  exact W.iret hx hb hr (fun t ht hW => ⟨⟨_, _, rfl, h, pw ht hP⟩, hS.F ht⟩) hS.2.2 dX1_leastOf_13
def p_X1_wayOf (x0 : Nat) (x1 : Int32) (x2 : Int32) (x3 : Int32) (x4 : Int32) (s : Sg) (Q : Int32 → Sg → Prop) : Prop := p_X5_item (tX x0 0) x1 s (fun r2 s1 => (((r2 + x3) ≤ 9 → p_X5_item (tX x0 1) x1 s1 (fun r5 s4 => p_X1_leastOf x0 (x1 + 1) (x2 - x3) s4 (fun r7 s6 => Q ((if ((r5 * ((if 0 < (x4 - (r2 + x3)) then (x4 - (r2 + x3)) else 0))) + r7) < 1000000 then ((r5 * ((if 0 < (x4 - (r2 + x3)) then (x4 - (r2 + x3)) else 0))) + r7) else 1000000)) s6))) ∧ (¬ (r2 + x3) ≤ 9 → Q 1000000 s1)))
set_option maxHeartbeats 4000000 in
set_option maxRecDepth 100000 in
theorem c_X1_wayOf (l : Launch) (D : va_G) (cs : Cs) (ad : Nat → Nat) (x0 : Nat) (x1 : Int32) (x2 : Int32) (x3 : Int32) (x4 : Int32) (s0 : Sg) (Q : Int32 → Sg → Prop) (hk0 : kX x0 = 1) : Met l yX1_wayOf wsX1_wayOf { frames := 2, cells := 0, slots := 0, locals := 43 } (Pc0 bX D cs ad [.ref (ad x0), .int x1, .int x2, .int x3, .int x4] s0 (p_X1_wayOf x0 x1 x2 x3 x4 s0 Q)) (QI bX D cs ad Q) 0 0 (fAd bX ad) := by
  refine Met.ofW (cc := cX1_wayOf) (maxL := 6) (ret := (some .int)) (by decide) rfl ?_
  intro p e s m args below meth c s₁ B0 hml hv
  obtain ⟨ha, hP, hE, h⟩ := hv
  have hx := B0.exec
  have hb := B0.bytes
  have hr := B0.returns
  have hts := atoms_spec (ws := wsX1_wayOf) B0.pre
  have hown : s.vm.findClass RX1 = some m.cls := findClass_of_methodNamed B0.named
  have hlocks := B0.notSynchronized
  have hi_X1 : ∀ w ∈ u_ws RX1 TX1 3, w ∈ wsX1_wayOf := by decide +kernel
  have hS : va_S (fAd bX ad) s.heap s.heap [] := va_S.rf
  have hl := lv_entry ([.ref (ad x0), .int x1, .int x2, .int x3, .int x4]) (n := 6) (by first | exact Nat.le_of_ble_eq_true rfl | simp [lg_sl, re_cat, cat_i, cat_l, cat_r])
  rw [show entryFrame m args 6 = entryFrame m ([.ref (ad x0), .int x1, .int x2, .int x3, .int x4] : List Value).toArray 6 by rw [ha], lg_entry_eq]
  generalize (lg_sl ([.ref (ad x0), .int x1, .int x2, .int x3, .int x4]) ++ List.replicate (6 - (lg_sl ([.ref (ad x0), .int x1, .int x2, .int x3, .int x4])).length) Slot.unset).toArray = ls at hl ⊢
  have hl : lv_has ls 6 [(0, .ref (ad x0)), (1, .int x1), (2, .int x2), (3, .int x3), (4, .int x4)] := by first | exact hl | simpa [lv_args, re_cat, cat_i, cat_l, cat_r] using hl
  unfold p_X1_wayOf at h
  refine lv_aload_n hx hb dX1_wayOf_0 rfl (lv_at hl 0 rfl) ?_
  refine va_get (ci := 1) (v := va_re ad (tX x0 0)) (C := RX1) (T := TX1) (N := 3) hx hb hts hi_X1 hown hE.1 hP x0 (w_1 hE hk0) rfl 0 (by decide) (hts (.fieldLink RX1 9 "HemLine$Dykes" "ground" "[I") (by decide +kernel)) (fun _ h9 => h9) rfl dX1_wayOf_1 ?_
  refine lv_iload_n hx hb dX1_wayOf_4 rfl (lv_at hl 1 rfl) ?_
  refine f_i (kN (As := [va_re ad (tX x0 0), .int x1]) (rest := []) ⟨hx, hb, hml, hown, hts⟩ (c_X5_item l D cs ad (tX x0 0) x1 s0 _) ⟨va_cnB 2 hts gX1_wayOf_X5_item_n41 rfl rfl rfl (hE.2.2.2.2 ("HemLine$Dykes", 41, ⟨"HemLine", "item", "([II)I"⟩, "HemLine") (by decide +kernel)) (hts (.initialized RX5) (by decide +kernel)) (by decide +kernel) ⟨Nat.le_of_ble_eq_true rfl, Nat.le_of_ble_eq_true rfl⟩, hts (.static yX5_item) (by decide +kernel), trivial⟩ hE hP h rfl hl.1 rfl (by first | exact lv_room (Nat.le_of_ble_eq_true rfl) | (refine lv_room ?_; simp [re_cat, cat_i, cat_l, cat_r])) dX1_wayOf_5 ⟨Nat.le_refl _, Nat.le_refl _⟩) hS (fun r2 s1 H locs h hP hS => ?_)
  refine lv_iload_n hx hb dX1_wayOf_8 rfl (lv_at hl 3 rfl) ?_
  refine lv_iadd hx hb dX1_wayOf_9 ?_
  refine lv_istore (i := 5) (lv' := [(5, .int (r2 + x3)), (0, .ref (ad x0)), (1, .int x1), (2, .int x2), (3, .int x3), (4, .int x4)]) hx hb dX1_wayOf_10 hl (by decide) (by first | rfl | simp [re_cat, cat_i, cat_l, cat_r]) (fun ls hl => ?_)
  refine lv_iload hx hb dX1_wayOf_12 (lv_at hl 0 rfl) ?_
  refine lv_bipush (v := 9) hx hb dX1_wayOf_14 (by decide) ?_
  refine lv_icmp_le (tgt := 22) hx hb dX1_wayOf_16 (by decide) (fun c3 => ?_) (fun c3 => ?_)
  · replace h := h.1 c3
    refine lv_ldc (v := 1000000) hx hb hown (hts (.constant RX1 49 (1000000)) (by decide +kernel)) dX1_wayOf_22 ?_
    refine lv_aload_n hx hb dX1_wayOf_24 rfl (lv_at hl 1 rfl) ?_
    refine va_get (ci := 1) (v := va_re ad (tX x0 1)) (C := RX1) (T := TX1) (N := 3) hx hb hts hi_X1 hown hE.1 hP x0 (w_1 hE hk0) rfl 1 (by decide) (hts (.fieldLink RX1 15 "HemLine$Dykes" "folk" "[I") (by decide +kernel)) (fun _ h9 => h9) rfl dX1_wayOf_25 ?_
    refine lv_iload_n hx hb dX1_wayOf_28 rfl (lv_at hl 2 rfl) ?_
    refine f_i (kN (As := [va_re ad (tX x0 1), .int x1]) (rest := [.int 1000000]) ⟨hx, hb, hml, hown, hts⟩ (c_X5_item l D cs ad (tX x0 1) x1 s1 _) ⟨va_cnB 2 hts gX1_wayOf_X5_item_n41 rfl rfl rfl (hE.2.2.2.2 ("HemLine$Dykes", 41, ⟨"HemLine", "item", "([II)I"⟩, "HemLine") (by decide +kernel)) (hts (.initialized RX5) (by decide +kernel)) (by decide +kernel) ⟨Nat.le_of_ble_eq_true rfl, Nat.le_of_ble_eq_true rfl⟩, hts (.static yX5_item) (by decide +kernel), trivial⟩ hE hP h rfl hl.1 rfl (by first | exact lv_room (Nat.le_of_ble_eq_true rfl) | (refine lv_room ?_; simp [re_cat, cat_i, cat_l, cat_r])) dX1_wayOf_29 ⟨Nat.le_refl _, Nat.le_refl _⟩) hS (fun r5 s4 H locs h hP hS => ?_)
    refine lv_iconst (v := 0) hx hb dX1_wayOf_32 (by decide) ?_
    refine lv_iload hx hb dX1_wayOf_33 (lv_at hl 5 rfl) ?_
    refine lv_iload hx hb dX1_wayOf_35 (lv_at hl 0 rfl) ?_
    refine lv_isub hx hb dX1_wayOf_37 ?_
    refine va_mmax hx hb (hml.trans hl.1.symm) hown (hts (.methodLink RX1 71 Lib.Math.max.name) (by decide +kernel)) (hts (.static Lib.Math.max.name) (by decide +kernel)) (hts (.initialized "java/lang/Math") (by decide +kernel)) (hts (.code Lib.Math.max.name Lib.Math.max.code 2 (some .int)) (by decide +kernel)) (Nat.le_of_ble_eq_true rfl) (by first | exact Nat.le_of_ble_eq_true rfl | (simp only [List.map, re_cat, cat_i, cat_l, cat_r, List.sum_cons, List.sum_nil]; exact Nat.le_of_ble_eq_true rfl)) (Nat.le_refl _) (Nat.le_refl _) dX1_wayOf_38 ?_
    refine lv_imul hx hb dX1_wayOf_41 ?_
    refine lv_aload_n hx hb dX1_wayOf_42 rfl (lv_at hl 1 rfl) ?_
    refine lv_iload_n hx hb dX1_wayOf_43 rfl (lv_at hl 2 rfl) ?_
    refine lv_iconst (v := 1) hx hb dX1_wayOf_44 (by decide) ?_
    refine lv_iadd hx hb dX1_wayOf_45 ?_
    refine lv_iload_n hx hb dX1_wayOf_46 rfl (lv_at hl 3 rfl) ?_
    refine lv_iload_n hx hb dX1_wayOf_47 rfl (lv_at hl 4 rfl) ?_
    refine lv_isub hx hb dX1_wayOf_48 ?_
    refine f_i (kV (As := [.int (x1 + 1), .int (x2 - x3)]) (rest := [.int (r5 * ((if 0 < (x4 - (r2 + x3)) then (x4 - (r2 + x3)) else 0))), .int 1000000]) (o := some x0) rfl ⟨hx, hb, hml, hown, hts⟩ (c_X1_leastOf l D cs ad x0 (x1 + 1) (x2 - x3) s4 _ hk0) (cwV 2 hts gX1_wayOf_X1_leastOf rfl rfl rfl (by decide +kernel) ⟨Nat.le_of_ble_eq_true rfl, Nat.le_of_ble_eq_true rfl⟩) hE hP rfl rfl (w_1 hE hk0) h rfl hl.1 rfl (by first | exact lv_room (Nat.le_of_ble_eq_true rfl) | (refine lv_room ?_; simp [re_cat, cat_i, cat_l, cat_r])) dX1_wayOf_49 ⟨Nat.le_refl _, Nat.le_refl _⟩) hS (fun r7 s6 H locs h hP hS => ?_)
    refine lv_iadd hx hb dX1_wayOf_52 ?_
    refine va_mmin hx hb (hml.trans hl.1.symm) hown (hts (.methodLink RX1 66 Lib.Math.min.name) (by decide +kernel)) (hts (.static Lib.Math.min.name) (by decide +kernel)) (hts (.initialized "java/lang/Math") (by decide +kernel)) (hts (.code Lib.Math.min.name Lib.Math.min.code 2 (some .int)) (by decide +kernel)) (Nat.le_of_ble_eq_true rfl) (by first | exact Nat.le_of_ble_eq_true rfl | (simp only [List.map, re_cat, cat_i, cat_l, cat_r, List.sum_cons, List.sum_nil]; exact Nat.le_of_ble_eq_true rfl)) (Nat.le_refl _) (Nat.le_refl _) dX1_wayOf_53 ?_
    exact W.iret hx hb hr (fun t ht hW => ⟨⟨_, _, rfl, h, pw ht hP⟩, hS.F ht⟩) hS.2.2 dX1_wayOf_56
  · replace h := h.2 c3
    refine lv_ldc (v := 1000000) hx hb hown (hts (.constant RX1 49 (1000000)) (by decide +kernel)) dX1_wayOf_19 ?_
    exact W.iret hx hb hr (fun t ht hW => ⟨⟨_, _, rfl, h, pw ht hP⟩, hS.F ht⟩) hS.2.2 dX1_wayOf_21
def p_X1_leastBy_L7 (Q : Int32 → Sg → Prop)  : Nat → Nat → Int32 → Int32 → Int32 → Int32 → Int32 → Sg → Prop
  | 0, _, _, _, _, _, _, _ => False
  | n + 1, x0, x1, x2, x3, x4, x5, s => ((x2 < x5 → Q x4 s) ∧ (¬ x2 < x5 → p_X1_wayOf x0 x1 x2 x5 x3 s (fun r3 s2 => p_X1_leastBy_L7 Q  n x0 x1 x2 x3 ((if r3 < x4 then r3 else x4)) (x5 + 1) s2)))
def p_X1_leastBy (x0 : Nat) (x1 : Int32) (x2 : Int32) (x3 : Int32) (s : Sg) (Q : Int32 → Sg → Prop) : Prop := (∃ n1, p_X1_leastBy_L7 Q  n1 x0 x1 x2 x3 1000000 0 s)
set_option maxHeartbeats 4000000 in
set_option maxRecDepth 100000 in
theorem c_X1_leastBy (l : Launch) (D : va_G) (cs : Cs) (ad : Nat → Nat) (x0 : Nat) (x1 : Int32) (x2 : Int32) (x3 : Int32) (s0 : Sg) (Q : Int32 → Sg → Prop) (hk0 : kX x0 = 1) : Met l yX1_leastBy wsX1_leastBy { frames := 3, cells := 0, slots := 0, locals := 68 } (Pc0 bX D cs ad [.ref (ad x0), .int x1, .int x2, .int x3] s0 (p_X1_leastBy x0 x1 x2 x3 s0 Q)) (QI bX D cs ad Q) 0 0 (fAd bX ad) := by
  refine Met.ofW (cc := cX1_leastBy) (maxL := 6) (ret := (some .int)) (by decide) rfl ?_
  intro p e s m args below meth c s₁ B0 hml hv
  obtain ⟨ha, hP, hE, h⟩ := hv
  have hx := B0.exec
  have hb := B0.bytes
  have hr := B0.returns
  have hts := atoms_spec (ws := wsX1_leastBy) B0.pre
  have hown : s.vm.findClass RX1 = some m.cls := findClass_of_methodNamed B0.named
  have hlocks := B0.notSynchronized
  have hS : va_S (fAd bX ad) s.heap s.heap [] := va_S.rf
  have hl := lv_entry ([.ref (ad x0), .int x1, .int x2, .int x3]) (n := 6) (by first | exact Nat.le_of_ble_eq_true rfl | simp [lg_sl, re_cat, cat_i, cat_l, cat_r])
  rw [show entryFrame m args 6 = entryFrame m ([.ref (ad x0), .int x1, .int x2, .int x3] : List Value).toArray 6 by rw [ha], lg_entry_eq]
  generalize (lg_sl ([.ref (ad x0), .int x1, .int x2, .int x3]) ++ List.replicate (6 - (lg_sl ([.ref (ad x0), .int x1, .int x2, .int x3])).length) Slot.unset).toArray = ls at hl ⊢
  have hl : lv_has ls 6 [(0, .ref (ad x0)), (1, .int x1), (2, .int x2), (3, .int x3)] := by first | exact hl | simpa [lv_args, re_cat, cat_i, cat_l, cat_r] using hl
  have hB7 : ∀ (n7 : Nat) (x1 : Int32) (x2 : Int32) (x3 : Int32) (x4 : Int32) (x5 : Int32) (σ : Sg) (H : Heap) (locs : List Loc) (ls : Array Slot), p_X1_leastBy_L7 Q  n7 x0 x1 x2 x3 x4 x5 σ → va_P D vwCl (wl bX cs ad σ) H → va_S (fAd bX ad) s.heap H locs → lv_has ls 6 [(0, .ref (ad x0)), (1, .int x1), (2, .int x2), (3, .int x3), (4, .int x4), (5, .int x5)] → W p l e { frames := 3, cells := 0, slots := 0, locals := 68 } s m args below meth c H locs 0 0 (MQ below (QI bX D cs ad Q) args s 0 0 (fAd bX ad)) (F0 m 7 ls []) := by
    intro n7
    induction n7 with
    | zero =>
      intro x1 x2 x3 x4 x5 σ H locs ls h
      exact h.elim
    | succ n7 ih =>
      have hK7 := ih
      intro x1 x2 x3 x4 x5 σ H locs ls h hP hS hl
      rw [p_X1_leastBy_L7] at h
      refine lv_iload hx hb dX1_leastBy_7 (lv_at hl 5 rfl) ?_
      refine lv_iload_n hx hb dX1_leastBy_9 rfl (lv_at hl 2 rfl) ?_
      refine lv_icmp_gt (tgt := 35) hx hb dX1_leastBy_10 (by decide) (fun c1 => ?_) (fun c1 => ?_)
      · replace h := h.1 c1
        refine lv_iload hx hb dX1_leastBy_35 (lv_at hl 4 rfl) ?_
        exact W.iret hx hb hr (fun t ht hW => ⟨⟨_, _, rfl, h, pw ht hP⟩, hS.F ht⟩) hS.2.2 dX1_leastBy_37
      · replace h := h.2 c1
        refine lv_iload hx hb dX1_leastBy_13 (lv_at hl 4 rfl) ?_
        refine lv_aload_n hx hb dX1_leastBy_15 rfl (lv_at hl 0 rfl) ?_
        refine lv_iload_n hx hb dX1_leastBy_16 rfl (lv_at hl 1 rfl) ?_
        refine lv_iload_n hx hb dX1_leastBy_17 rfl (lv_at hl 2 rfl) ?_
        refine lv_iload hx hb dX1_leastBy_18 (lv_at hl 5 rfl) ?_
        refine lv_iload_n hx hb dX1_leastBy_20 rfl (lv_at hl 3 rfl) ?_
        refine f_i (kV (As := [.int x1, .int x2, .int x5, .int x3]) (rest := [.int x4]) (o := some x0) rfl ⟨hx, hb, hml, hown, hts⟩ (c_X1_wayOf l D cs ad x0 x1 x2 x5 x3 σ _ hk0) (cwV 4 hts gX1_leastBy_X1_wayOf rfl rfl rfl (by decide +kernel) ⟨Nat.le_of_ble_eq_true rfl, Nat.le_of_ble_eq_true rfl⟩) hE hP rfl rfl (w_1 hE hk0) h rfl hl.1 rfl (by first | exact lv_room (Nat.le_of_ble_eq_true rfl) | (refine lv_room ?_; simp [re_cat, cat_i, cat_l, cat_r])) dX1_leastBy_21 ⟨Nat.le_refl _, Nat.le_refl _⟩) hS (fun r3 s2 H locs h hP hS => ?_)
        refine va_mmin hx hb (hml.trans hl.1.symm) hown (hts (.methodLink RX1 66 Lib.Math.min.name) (by decide +kernel)) (hts (.static Lib.Math.min.name) (by decide +kernel)) (hts (.initialized "java/lang/Math") (by decide +kernel)) (hts (.code Lib.Math.min.name Lib.Math.min.code 2 (some .int)) (by decide +kernel)) (Nat.le_of_ble_eq_true rfl) (by first | exact Nat.le_of_ble_eq_true rfl | (simp only [List.map, re_cat, cat_i, cat_l, cat_r, List.sum_cons, List.sum_nil]; exact Nat.le_of_ble_eq_true rfl)) (Nat.le_refl _) (Nat.le_refl _) dX1_leastBy_24 ?_
        refine lv_istore (i := 4) (lv' := [(4, .int ((if r3 < x4 then r3 else x4))), (0, .ref (ad x0)), (1, .int x1), (2, .int x2), (3, .int x3), (5, .int x5)]) hx hb dX1_leastBy_27 hl (by decide) (by first | rfl | simp [re_cat, cat_i, cat_l, cat_r]) (fun ls hl => ?_)
        refine lv_iinc (v := x5 + 1) (lv' := [(5, .int (x5 + 1)), (4, .int ((if r3 < x4 then r3 else x4))), (0, .ref (ad x0)), (1, .int x1), (2, .int x2), (3, .int x3)]) hx hb dX1_leastBy_29 hl (k := 5) rfl rfl (by decide) (by first | rfl | simp [re_cat, cat_i, cat_l, cat_r]) (fun ls hl => ?_)
        refine lv_goto (tgt := 7) hx hb dX1_leastBy_32 (by decide) ?_
        exact ih x1 x2 x3 ((if r3 < x4 then r3 else x4)) (x5 + 1) s2 H locs ls h hP hS (lv_sub hl [2, 3, 4, 5, 1, 0] rfl)
  unfold p_X1_leastBy at h
  refine lv_ldc (v := 1000000) hx hb hown (hts (.constant RX1 49 (1000000)) (by decide +kernel)) dX1_leastBy_0 ?_
  refine lv_istore (i := 4) (lv' := [(4, .int 1000000), (0, .ref (ad x0)), (1, .int x1), (2, .int x2), (3, .int x3)]) hx hb dX1_leastBy_2 hl (by decide) (by first | rfl | simp [re_cat, cat_i, cat_l, cat_r]) (fun ls hl => ?_)
  refine lv_iconst (v := 0) hx hb dX1_leastBy_4 (by decide) ?_
  refine lv_istore (i := 5) (lv' := [(5, .int 0), (4, .int 1000000), (0, .ref (ad x0)), (1, .int x1), (2, .int x2), (3, .int x3)]) hx hb dX1_leastBy_5 hl (by decide) (by first | rfl | simp [re_cat, cat_i, cat_l, cat_r]) (fun ls hl => ?_)
  obtain ⟨n1, h⟩ := h
  exact hB7 n1 x1 x2 x3 1000000 0 s0 _ _ ls h hP hS (lv_sub hl [2, 3, 4, 5, 1, 0] rfl)
def p_X1_setLeast (x0 : Nat) (x1 : Int32) (x2 : Int32) (x3 : Int32) (s : Sg) (Q : Sg → Prop) : Prop := p_X5_setItem (tX x0 2) ((x1 * 7) + x2) x3 s (fun s1 => Q s1)
set_option maxHeartbeats 4000000 in
set_option maxRecDepth 100000 in
theorem c_X1_setLeast (l : Launch) (D : va_G) (cs : Cs) (ad : Nat → Nat) (x0 : Nat) (x1 : Int32) (x2 : Int32) (x3 : Int32) (s0 : Sg) (Q : Sg → Prop) (hk0 : kX x0 = 1) : Met l yX1_setLeast wsX1_setLeast { frames := 1, cells := 0, slots := 0, locals := 22 } (Pc0 bX D cs ad [.ref (ad x0), .int x1, .int x2, .int x3] s0 (p_X1_setLeast x0 x1 x2 x3 s0 Q)) (QV bX D cs ad Q) 0 0 (fAd bX ad) := by
  refine Met.ofW (cc := cX1_setLeast) (maxL := 4) (ret := none) (by decide) rfl ?_
  intro p e s m args below meth c s₁ B0 hml hv
  obtain ⟨ha, hP, hE, h⟩ := hv
  have hx := B0.exec
  have hb := B0.bytes
  have hr := B0.returns
  have hts := atoms_spec (ws := wsX1_setLeast) B0.pre
  have hown : s.vm.findClass RX1 = some m.cls := findClass_of_methodNamed B0.named
  have hlocks := B0.notSynchronized
  have hi_X1 : ∀ w ∈ u_ws RX1 TX1 3, w ∈ wsX1_setLeast := by decide +kernel
  have hS : va_S (fAd bX ad) s.heap s.heap [] := va_S.rf
  have hl := lv_entry ([.ref (ad x0), .int x1, .int x2, .int x3]) (n := 4) (by first | exact Nat.le_of_ble_eq_true rfl | simp [lg_sl, re_cat, cat_i, cat_l, cat_r])
  rw [show entryFrame m args 4 = entryFrame m ([.ref (ad x0), .int x1, .int x2, .int x3] : List Value).toArray 4 by rw [ha], lg_entry_eq]
  generalize (lg_sl ([.ref (ad x0), .int x1, .int x2, .int x3]) ++ List.replicate (4 - (lg_sl ([.ref (ad x0), .int x1, .int x2, .int x3])).length) Slot.unset).toArray = ls at hl ⊢
  have hl : lv_has ls 4 [(0, .ref (ad x0)), (1, .int x1), (2, .int x2), (3, .int x3)] := by first | exact hl | simpa [lv_args, re_cat, cat_i, cat_l, cat_r] using hl
  unfold p_X1_setLeast at h
  refine lv_aload_n hx hb dX1_setLeast_0 rfl (lv_at hl 0 rfl) ?_
  refine va_get (ci := 1) (v := va_re ad (tX x0 2)) (C := RX1) (T := TX1) (N := 3) hx hb hts hi_X1 hown hE.1 hP x0 (w_1 hE hk0) rfl 2 (by decide) (hts (.fieldLink RX1 18 "HemLine$Dykes" "leastFrom" "[I") (by decide +kernel)) (fun _ h9 => h9) rfl dX1_setLeast_1 ?_
  refine lv_iload_n hx hb dX1_setLeast_4 rfl (lv_at hl 1 rfl) ?_
  refine lv_bipush (v := 7) hx hb dX1_setLeast_5 (by decide) ?_
  refine lv_imul hx hb dX1_setLeast_7 ?_
  refine lv_iload_n hx hb dX1_setLeast_8 rfl (lv_at hl 2 rfl) ?_
  refine lv_iadd hx hb dX1_setLeast_9 ?_
  refine lv_iload_n hx hb dX1_setLeast_10 rfl (lv_at hl 3 rfl) ?_
  refine f_v (kN (As := [va_re ad (tX x0 2), .int ((x1 * 7) + x2), .int x3]) (rest := []) ⟨hx, hb, hml, hown, hts⟩ (c_X5_setItem l D cs ad (tX x0 2) ((x1 * 7) + x2) x3 s0 _) ⟨va_cnB 3 hts gX1_setLeast_X5_setItem_n45 rfl rfl rfl (hE.2.2.2.2 ("HemLine$Dykes", 45, ⟨"HemLine", "setItem", "([III)V"⟩, "HemLine") (by decide +kernel)) (hts (.initialized RX5) (by decide +kernel)) (by decide +kernel) ⟨Nat.le_of_ble_eq_true rfl, Nat.le_of_ble_eq_true rfl⟩, hts (.static yX5_setItem) (by decide +kernel), trivial⟩ hE hP h rfl hl.1 rfl (by first | exact lv_room (Nat.le_of_ble_eq_true rfl) | (refine lv_room ?_; simp [re_cat, cat_i, cat_l, cat_r])) dX1_setLeast_11 ⟨Nat.le_refl _, Nat.le_refl _⟩) hS (fun s1 H locs h hP hS => ?_)
  exact W.vret hx hb hr (fun t ht hW => ⟨⟨_, rfl, h, pw ht hP⟩, hS.F ht⟩) hS.2.2 dX1_setLeast_14
def p_X1_leastWet_b22 (Q : Int32 → Sg → Prop) (K2 : Nat → Int32 → Int32 → Int32 → Sg → Prop) (x0 : Nat) (x1 : Int32) (x2 : Int32) (x3 : Int32) (t1 : Int32) (t2 : Int32) (t3 : Int32) (s : Sg) : Prop := p_X1_setLeast x0 t1 t2 t3 s (fun s1 => K2 x0 x1 x2 (x3 + 1) s1)
def p_X1_leastWet_L40 (Q : Int32 → Sg → Prop) (K33 : Nat → Int32 → Int32 → Int32 → Sg → Prop) : Nat → Nat → Int32 → Int32 → Int32 → Int32 → Sg → Prop
  | 0, _, _, _, _, _, _ => False
  | n + 1, x0, x1, x2, x3, x4, s => ((x1 < x4 → K33 x0 x1 x2 (x3 + (-1)) s) ∧ (¬ x1 < x4 → p_X1_leastBy x0 x3 x4 x2 s (fun r3 s2 => p_X1_setLeast x0 x3 x4 r3 s2 (fun s4 => p_X1_leastWet_L40 Q K33 n x0 x1 x2 x3 (x4 + 1) s4))))
def p_X1_leastWet_L33 (Q : Int32 → Sg → Prop)  : Nat → Nat → Int32 → Int32 → Int32 → Sg → Prop
  | 0, _, _, _, _, _ => False
  | n + 1, x0, x1, x2, x3, s => ((x3 < 0 → p_X1_leastOf x0 0 x1 s (fun r3 s2 => Q r3 s2)) ∧ (¬ x3 < 0 → (∃ n4, p_X1_leastWet_L40 Q (fun y0 y1 y2 y3 u => p_X1_leastWet_L33 Q  n y0 y1 y2 y3 u) n4 x0 x1 x2 x3 0 s)))
def p_X1_leastWet_L2 (Q : Int32 → Sg → Prop)  : Nat → Nat → Int32 → Int32 → Int32 → Sg → Prop
  | 0, _, _, _, _, _ => False
  | n + 1, x0, x1, x2, x3, s => ((6 < x3 → (∃ n2, p_X1_leastWet_L33 Q  n2 x0 x1 x2 5 s)) ∧ (¬ 6 < x3 → ((x3 = 0 → p_X1_leastWet_b22 Q (fun y0 y1 y2 y3 u => p_X1_leastWet_L2 Q  n y0 y1 y2 y3 u) x0 x1 x2 x3 6 x3 0 s) ∧ (¬ x3 = 0 → p_X1_leastWet_b22 Q (fun y0 y1 y2 y3 u => p_X1_leastWet_L2 Q  n y0 y1 y2 y3 u) x0 x1 x2 x3 6 x3 1000000 s))))
def p_X1_leastWet (x0 : Nat) (x1 : Int32) (x2 : Int32) (s : Sg) (Q : Int32 → Sg → Prop) : Prop := (∃ n1, p_X1_leastWet_L2 Q  n1 x0 x1 x2 0 s)
set_option maxHeartbeats 4000000 in
set_option maxRecDepth 100000 in
theorem c_X1_leastWet (l : Launch) (D : va_G) (cs : Cs) (ad : Nat → Nat) (x0 : Nat) (x1 : Int32) (x2 : Int32) (s0 : Sg) (Q : Int32 → Sg → Prop) (hk0 : kX x0 = 1) : Met l yX1_leastWet wsX1_leastWet { frames := 4, cells := 0, slots := 0, locals := 93 } (Pc0 bX D cs ad [.ref (ad x0), .int x1, .int x2] s0 (p_X1_leastWet x0 x1 x2 s0 Q)) (QI bX D cs ad Q) 0 0 (fAd bX ad) := by
  refine Met.ofW (cc := cX1_leastWet) (maxL := 5) (ret := (some .int)) (by decide) rfl ?_
  intro p e s m args below meth c s₁ B0 hml hv
  obtain ⟨ha, hP, hE, h⟩ := hv
  have hx := B0.exec
  have hb := B0.bytes
  have hr := B0.returns
  have hts := atoms_spec (ws := wsX1_leastWet) B0.pre
  have hown : s.vm.findClass RX1 = some m.cls := findClass_of_methodNamed B0.named
  have hlocks := B0.notSynchronized
  have hS : va_S (fAd bX ad) s.heap s.heap [] := va_S.rf
  have hl := lv_entry ([.ref (ad x0), .int x1, .int x2]) (n := 5) (by first | exact Nat.le_of_ble_eq_true rfl | simp [lg_sl, re_cat, cat_i, cat_l, cat_r])
  rw [show entryFrame m args 5 = entryFrame m ([.ref (ad x0), .int x1, .int x2] : List Value).toArray 5 by rw [ha], lg_entry_eq]
  generalize (lg_sl ([.ref (ad x0), .int x1, .int x2]) ++ List.replicate (5 - (lg_sl ([.ref (ad x0), .int x1, .int x2])).length) Slot.unset).toArray = ls at hl ⊢
  have hl : lv_has ls 5 [(0, .ref (ad x0)), (1, .int x1), (2, .int x2)] := by first | exact hl | simpa [lv_args, re_cat, cat_i, cat_l, cat_r] using hl
  have hB33 : ∀ (n33 : Nat) (x1 : Int32) (x2 : Int32) (x3 : Int32) (σ : Sg) (H : Heap) (locs : List Loc) (ls : Array Slot), p_X1_leastWet_L33 Q  n33 x0 x1 x2 x3 σ → va_P D vwCl (wl bX cs ad σ) H → va_S (fAd bX ad) s.heap H locs → lv_has ls 5 [(0, .ref (ad x0)), (1, .int x1), (2, .int x2), (3, .int x3)] → W p l e { frames := 4, cells := 0, slots := 0, locals := 93 } s m args below meth c H locs 0 0 (MQ below (QI bX D cs ad Q) args s 0 0 (fAd bX ad)) (F0 m 33 ls []) := by
    intro n33
    induction n33 with
    | zero =>
      intro x1 x2 x3 σ H locs ls h
      exact h.elim
    | succ n33 ih =>
      have hK33 := ih
      have hB40 : ∀ (n40 : Nat) (x1 : Int32) (x2 : Int32) (x3 : Int32) (x4 : Int32) (σ : Sg) (H : Heap) (locs : List Loc) (ls : Array Slot), p_X1_leastWet_L40 Q (fun y0 y1 y2 y3 u => p_X1_leastWet_L33 Q  n33 y0 y1 y2 y3 u) n40 x0 x1 x2 x3 x4 σ → va_P D vwCl (wl bX cs ad σ) H → va_S (fAd bX ad) s.heap H locs → lv_has ls 5 [(0, .ref (ad x0)), (1, .int x1), (2, .int x2), (3, .int x3), (4, .int x4)] → W p l e { frames := 4, cells := 0, slots := 0, locals := 93 } s m args below meth c H locs 0 0 (MQ below (QI bX D cs ad Q) args s 0 0 (fAd bX ad)) (F0 m 40 ls []) := by
        intro n40
        induction n40 with
        | zero =>
          intro x1 x2 x3 x4 σ H locs ls h
          exact h.elim
        | succ n40 ih =>
          have hK40 := ih
          intro x1 x2 x3 x4 σ H locs ls h hP hS hl
          rw [p_X1_leastWet_L40] at h
          refine lv_iload hx hb dX1_leastWet_40 (lv_at hl 4 rfl) ?_
          refine lv_iload_n hx hb dX1_leastWet_42 rfl (lv_at hl 1 rfl) ?_
          refine lv_icmp_gt (tgt := 67) hx hb dX1_leastWet_43 (by decide) (fun c1 => ?_) (fun c1 => ?_)
          · replace h := h.1 c1
            refine lv_iinc (v := x3 + (-1)) (lv' := [(3, .int (x3 + (-1))), (0, .ref (ad x0)), (1, .int x1), (2, .int x2), (4, .int x4)]) hx hb dX1_leastWet_67 hl (k := 3) rfl rfl (by decide) (by first | rfl | simp [re_cat, cat_i, cat_l, cat_r]) (fun ls hl => ?_)
            refine lv_goto (tgt := 33) hx hb dX1_leastWet_70 (by decide) ?_
            exact hK33 x1 x2 (x3 + (-1)) σ H locs ls h hP hS (lv_sub hl [1, 2, 3, 0] rfl)
          · replace h := h.2 c1
            refine lv_aload_n hx hb dX1_leastWet_46 rfl (lv_at hl 0 rfl) ?_
            refine lv_iload_n hx hb dX1_leastWet_47 rfl (lv_at hl 3 rfl) ?_
            refine lv_iload hx hb dX1_leastWet_48 (lv_at hl 4 rfl) ?_
            refine lv_aload_n hx hb dX1_leastWet_50 rfl (lv_at hl 0 rfl) ?_
            refine lv_iload_n hx hb dX1_leastWet_51 rfl (lv_at hl 3 rfl) ?_
            refine lv_iload hx hb dX1_leastWet_52 (lv_at hl 4 rfl) ?_
            refine lv_iload_n hx hb dX1_leastWet_54 rfl (lv_at hl 2 rfl) ?_
            refine f_i (kV (As := [.int x3, .int x4, .int x2]) (rest := [.int x4, .int x3, .ref (ad x0)]) (o := some x0) rfl ⟨hx, hb, hml, hown, hts⟩ (c_X1_leastBy l D cs ad x0 x3 x4 x2 σ _ hk0) (cwV 3 hts gX1_leastWet_X1_leastBy rfl rfl rfl (by decide +kernel) ⟨Nat.le_of_ble_eq_true rfl, Nat.le_of_ble_eq_true rfl⟩) hE hP rfl rfl (w_1 hE hk0) h rfl hl.1 rfl (by first | exact lv_room (Nat.le_of_ble_eq_true rfl) | (refine lv_room ?_; simp [re_cat, cat_i, cat_l, cat_r])) dX1_leastWet_55 ⟨Nat.le_refl _, Nat.le_refl _⟩) hS (fun r3 s2 H locs h hP hS => ?_)
            refine f_v (kV (As := [.int x3, .int x4, .int r3]) (rest := []) (o := some x0) rfl ⟨hx, hb, hml, hown, hts⟩ (c_X1_setLeast l D cs ad x0 x3 x4 r3 s2 _ hk0) (cwV 3 hts gX1_leastWet_X1_setLeast rfl rfl rfl (by decide +kernel) ⟨Nat.le_of_ble_eq_true rfl, Nat.le_of_ble_eq_true rfl⟩) hE hP rfl rfl (w_1 hE hk0) h rfl hl.1 rfl (by first | exact lv_room (Nat.le_of_ble_eq_true rfl) | (refine lv_room ?_; simp [re_cat, cat_i, cat_l, cat_r])) dX1_leastWet_58 ⟨Nat.le_refl _, Nat.le_refl _⟩) hS (fun s4 H locs h hP hS => ?_)
            refine lv_iinc (v := x4 + 1) (lv' := [(4, .int (x4 + 1)), (0, .ref (ad x0)), (1, .int x1), (2, .int x2), (3, .int x3)]) hx hb dX1_leastWet_61 hl (k := 4) rfl rfl (by decide) (by first | rfl | simp [re_cat, cat_i, cat_l, cat_r]) (fun ls hl => ?_)
            refine lv_goto (tgt := 40) hx hb dX1_leastWet_64 (by decide) ?_
            exact ih x1 x2 x3 (x4 + 1) s4 H locs ls h hP hS (lv_sub hl [1, 2, 3, 4, 0] rfl)
      intro x1 x2 x3 σ H locs ls h hP hS hl
      rw [p_X1_leastWet_L33] at h
      refine lv_iload_n hx hb dX1_leastWet_33 rfl (lv_at hl 3 rfl) ?_
      refine lv_if_lt (tgt := 73) hx hb dX1_leastWet_34 (by decide) (fun c1 => ?_) (fun c1 => ?_)
      · replace h := h.1 c1
        refine lv_aload_n hx hb dX1_leastWet_73 rfl (lv_at hl 0 rfl) ?_
        refine lv_iconst (v := 0) hx hb dX1_leastWet_74 (by decide) ?_
        refine lv_iload_n hx hb dX1_leastWet_75 rfl (lv_at hl 1 rfl) ?_
        refine f_i (kV (As := [.int 0, .int x1]) (rest := []) (o := some x0) rfl ⟨hx, hb, hml, hown, hts⟩ (c_X1_leastOf l D cs ad x0 0 x1 σ _ hk0) (cwV 2 hts gX1_leastWet_X1_leastOf rfl rfl rfl (by decide +kernel) ⟨Nat.le_of_ble_eq_true rfl, Nat.le_of_ble_eq_true rfl⟩) hE hP rfl rfl (w_1 hE hk0) h rfl hl.1 rfl (by first | exact lv_room (Nat.le_of_ble_eq_true rfl) | (refine lv_room ?_; simp [re_cat, cat_i, cat_l, cat_r])) dX1_leastWet_76 ⟨Nat.le_refl _, Nat.le_refl _⟩) hS (fun r3 s2 H locs h hP hS => ?_)
        exact W.iret hx hb hr (fun t ht hW => ⟨⟨_, _, rfl, h, pw ht hP⟩, hS.F ht⟩) hS.2.2 dX1_leastWet_79
      · replace h := h.2 c1
        refine lv_iconst (v := 0) hx hb dX1_leastWet_37 (by decide) ?_
        refine lv_istore (i := 4) (lv' := [(4, .int 0), (0, .ref (ad x0)), (1, .int x1), (2, .int x2), (3, .int x3)]) hx hb dX1_leastWet_38 hl (by decide) (by first | rfl | simp [re_cat, cat_i, cat_l, cat_r]) (fun ls hl => ?_)
        obtain ⟨n4, h⟩ := h
        exact hB40 n4 x1 x2 x3 0 σ H locs ls h hP hS (lv_sub hl [1, 2, 3, 4, 0] rfl)
  have hB2 : ∀ (n2 : Nat) (x1 : Int32) (x2 : Int32) (x3 : Int32) (σ : Sg) (H : Heap) (locs : List Loc) (ls : Array Slot), p_X1_leastWet_L2 Q  n2 x0 x1 x2 x3 σ → va_P D vwCl (wl bX cs ad σ) H → va_S (fAd bX ad) s.heap H locs → lv_has ls 5 [(0, .ref (ad x0)), (1, .int x1), (2, .int x2), (3, .int x3)] → W p l e { frames := 4, cells := 0, slots := 0, locals := 93 } s m args below meth c H locs 0 0 (MQ below (QI bX D cs ad Q) args s 0 0 (fAd bX ad)) (F0 m 2 ls []) := by
    intro n2
    induction n2 with
    | zero =>
      intro x1 x2 x3 σ H locs ls h
      exact h.elim
    | succ n2 ih =>
      have hK2 := ih
      have hB22 : ∀ (x1 : Int32) (x2 : Int32) (x3 : Int32) (t1 : Int32) (t2 : Int32) (t3 : Int32) (σ : Sg) (H : Heap) (locs : List Loc) (ls : Array Slot), p_X1_leastWet_b22 Q (fun y0 y1 y2 y3 u => p_X1_leastWet_L2 Q  n2 y0 y1 y2 y3 u) x0 x1 x2 x3 t1 t2 t3 σ → va_P D vwCl (wl bX cs ad σ) H → va_S (fAd bX ad) s.heap H locs → lv_has ls 5 [(0, .ref (ad x0)), (1, .int x1), (2, .int x2), (3, .int x3)] → W p l e { frames := 4, cells := 0, slots := 0, locals := 93 } s m args below meth c H locs 0 0 (MQ below (QI bX D cs ad Q) args s 0 0 (fAd bX ad)) (F0 m 22 ls [.int t3, .int t2, .int t1, .ref (ad x0)]) := by
        intro x1 x2 x3 t1 t2 t3 σ H locs ls h hP hS hl
        unfold p_X1_leastWet_b22 at h
        refine f_v (kV (As := [.int t1, .int t2, .int t3]) (rest := []) (o := some x0) rfl ⟨hx, hb, hml, hown, hts⟩ (c_X1_setLeast l D cs ad x0 t1 t2 t3 σ _ hk0) (cwV 3 hts gX1_leastWet_X1_setLeast rfl rfl rfl (by decide +kernel) ⟨Nat.le_of_ble_eq_true rfl, Nat.le_of_ble_eq_true rfl⟩) hE hP rfl rfl (w_1 hE hk0) h rfl hl.1 rfl (by first | exact lv_room (Nat.le_of_ble_eq_true rfl) | (refine lv_room ?_; simp [re_cat, cat_i, cat_l, cat_r])) dX1_leastWet_22 ⟨Nat.le_refl _, Nat.le_refl _⟩) hS (fun s1 H locs h hP hS => ?_)
        refine lv_iinc (v := x3 + 1) (lv' := [(3, .int (x3 + 1)), (0, .ref (ad x0)), (1, .int x1), (2, .int x2)]) hx hb dX1_leastWet_25 hl (k := 3) rfl rfl (by decide) (by first | rfl | simp [re_cat, cat_i, cat_l, cat_r]) (fun ls hl => ?_)
        refine lv_goto (tgt := 2) hx hb dX1_leastWet_28 (by decide) ?_
        exact hK2 x1 x2 (x3 + 1) s1 H locs ls h hP hS (lv_sub hl [1, 2, 3, 0] rfl)
      intro x1 x2 x3 σ H locs ls h hP hS hl
      rw [p_X1_leastWet_L2] at h
      refine lv_iload_n hx hb dX1_leastWet_2 rfl (lv_at hl 3 rfl) ?_
      refine lv_bipush (v := 6) hx hb dX1_leastWet_3 (by decide) ?_
      refine lv_icmp_gt (tgt := 31) hx hb dX1_leastWet_5 (by decide) (fun c1 => ?_) (fun c1 => ?_)
      · replace h := h.1 c1
        refine lv_iconst (v := 5) hx hb dX1_leastWet_31 (by decide) ?_
        refine lv_istore_n (i := 3) (lv' := [(3, .int 5), (0, .ref (ad x0)), (1, .int x1), (2, .int x2)]) hx hb dX1_leastWet_32 rfl hl (by decide) (by first | rfl | simp [re_cat, cat_i, cat_l, cat_r]) (fun ls hl => ?_)
        obtain ⟨n2, h⟩ := h
        exact hB33 n2 x1 x2 5 σ H locs ls h hP hS (lv_sub hl [1, 2, 3, 0] rfl)
      · replace h := h.2 c1
        refine lv_aload_n hx hb dX1_leastWet_8 rfl (lv_at hl 0 rfl) ?_
        refine lv_bipush (v := 6) hx hb dX1_leastWet_9 (by decide) ?_
        refine lv_iload_n hx hb dX1_leastWet_11 rfl (lv_at hl 3 rfl) ?_
        refine lv_iload_n hx hb dX1_leastWet_12 rfl (lv_at hl 3 rfl) ?_
        refine lv_if_ne (tgt := 20) hx hb dX1_leastWet_13 (by decide) (fun c3 => ?_) (fun c3 => ?_)
        · replace h := h.2 c3
          refine lv_ldc (v := 1000000) hx hb hown (hts (.constant RX1 49 (1000000)) (by decide +kernel)) dX1_leastWet_20 ?_
          exact hB22 x1 x2 x3 6 x3 1000000 σ H locs ls h hP hS (lv_sub hl [0, 1, 2, 3] rfl)
        · replace h := h.1 c3
          refine lv_iconst (v := 0) hx hb dX1_leastWet_16 (by decide) ?_
          refine lv_goto (tgt := 22) hx hb dX1_leastWet_17 (by decide) ?_
          exact hB22 x1 x2 x3 6 x3 0 σ H locs ls h hP hS (lv_sub hl [0, 1, 2, 3] rfl)
  unfold p_X1_leastWet at h
  refine lv_iconst (v := 0) hx hb dX1_leastWet_0 (by decide) ?_
  refine lv_istore_n (i := 3) (lv' := [(3, .int 0), (0, .ref (ad x0)), (1, .int x1), (2, .int x2)]) hx hb dX1_leastWet_1 rfl hl (by decide) (by first | rfl | simp [re_cat, cat_i, cat_l, cat_r]) (fun ls hl => ?_)
  obtain ⟨n1, h⟩ := h
  exact hB2 n1 x1 x2 0 s0 _ _ ls h hP hS (lv_sub hl [1, 2, 3, 0] rfl)
def p_X1_fewestAt_L3 (Q : Int32 → Sg → Prop)  : Nat → Nat → Int32 → Int32 → Int32 → Int32 → Sg → Prop
  | 0, _, _, _, _, _, _ => False
  | n + 1, x0, x1, x2, x3, x4, s => ((x2 < x4 → Q 0 s) ∧ (¬ x2 < x4 → p_X1_wayOf x0 x1 x2 x4 x3 s (fun r3 s2 => p_X1_leastOf x0 x1 x2 s2 (fun r5 s4 => ((r3 = r5 → Q x4 s4) ∧ (¬ r3 = r5 → p_X1_fewestAt_L3 Q  n x0 x1 x2 x3 (x4 + 1) s4))))))
def p_X1_fewestAt (x0 : Nat) (x1 : Int32) (x2 : Int32) (x3 : Int32) (s : Sg) (Q : Int32 → Sg → Prop) : Prop := (∃ n1, p_X1_fewestAt_L3 Q  n1 x0 x1 x2 x3 0 s)
set_option maxHeartbeats 4000000 in
set_option maxRecDepth 100000 in
theorem c_X1_fewestAt (l : Launch) (D : va_G) (cs : Cs) (ad : Nat → Nat) (x0 : Nat) (x1 : Int32) (x2 : Int32) (x3 : Int32) (s0 : Sg) (Q : Int32 → Sg → Prop) (hk0 : kX x0 = 1) : Met l yX1_fewestAt wsX1_fewestAt { frames := 3, cells := 0, slots := 0, locals := 68 } (Pc0 bX D cs ad [.ref (ad x0), .int x1, .int x2, .int x3] s0 (p_X1_fewestAt x0 x1 x2 x3 s0 Q)) (QI bX D cs ad Q) 0 0 (fAd bX ad) := by
  refine Met.ofW (cc := cX1_fewestAt) (maxL := 5) (ret := (some .int)) (by decide) rfl ?_
  intro p e s m args below meth c s₁ B0 hml hv
  obtain ⟨ha, hP, hE, h⟩ := hv
  have hx := B0.exec
  have hb := B0.bytes
  have hr := B0.returns
  have hts := atoms_spec (ws := wsX1_fewestAt) B0.pre
  have hown : s.vm.findClass RX1 = some m.cls := findClass_of_methodNamed B0.named
  have hlocks := B0.notSynchronized
  have hS : va_S (fAd bX ad) s.heap s.heap [] := va_S.rf
  have hl := lv_entry ([.ref (ad x0), .int x1, .int x2, .int x3]) (n := 5) (by first | exact Nat.le_of_ble_eq_true rfl | simp [lg_sl, re_cat, cat_i, cat_l, cat_r])
  rw [show entryFrame m args 5 = entryFrame m ([.ref (ad x0), .int x1, .int x2, .int x3] : List Value).toArray 5 by rw [ha], lg_entry_eq]
  generalize (lg_sl ([.ref (ad x0), .int x1, .int x2, .int x3]) ++ List.replicate (5 - (lg_sl ([.ref (ad x0), .int x1, .int x2, .int x3])).length) Slot.unset).toArray = ls at hl ⊢
  have hl : lv_has ls 5 [(0, .ref (ad x0)), (1, .int x1), (2, .int x2), (3, .int x3)] := by first | exact hl | simpa [lv_args, re_cat, cat_i, cat_l, cat_r] using hl
  have hB3 : ∀ (n3 : Nat) (x1 : Int32) (x2 : Int32) (x3 : Int32) (x4 : Int32) (σ : Sg) (H : Heap) (locs : List Loc) (ls : Array Slot), p_X1_fewestAt_L3 Q  n3 x0 x1 x2 x3 x4 σ → va_P D vwCl (wl bX cs ad σ) H → va_S (fAd bX ad) s.heap H locs → lv_has ls 5 [(0, .ref (ad x0)), (1, .int x1), (2, .int x2), (3, .int x3), (4, .int x4)] → W p l e { frames := 3, cells := 0, slots := 0, locals := 68 } s m args below meth c H locs 0 0 (MQ below (QI bX D cs ad Q) args s 0 0 (fAd bX ad)) (F0 m 3 ls []) := by
    intro n3
    induction n3 with
    | zero =>
      intro x1 x2 x3 x4 σ H locs ls h
      exact h.elim
    | succ n3 ih =>
      have hK3 := ih
      intro x1 x2 x3 x4 σ H locs ls h hP hS hl
      rw [p_X1_fewestAt_L3] at h
      refine lv_iload hx hb dX1_fewestAt_3 (lv_at hl 4 rfl) ?_
      refine lv_iload_n hx hb dX1_fewestAt_5 rfl (lv_at hl 2 rfl) ?_
      refine lv_icmp_gt (tgt := 36) hx hb dX1_fewestAt_6 (by decide) (fun c1 => ?_) (fun c1 => ?_)
      · replace h := h.1 c1
        refine lv_iconst (v := 0) hx hb dX1_fewestAt_36 (by decide) ?_
        exact W.iret hx hb hr (fun t ht hW => ⟨⟨_, _, rfl, h, pw ht hP⟩, hS.F ht⟩) hS.2.2 dX1_fewestAt_37
      · replace h := h.2 c1
        refine lv_aload_n hx hb dX1_fewestAt_9 rfl (lv_at hl 0 rfl) ?_
        refine lv_iload_n hx hb dX1_fewestAt_10 rfl (lv_at hl 1 rfl) ?_
        refine lv_iload_n hx hb dX1_fewestAt_11 rfl (lv_at hl 2 rfl) ?_
        refine lv_iload hx hb dX1_fewestAt_12 (lv_at hl 4 rfl) ?_
        refine lv_iload_n hx hb dX1_fewestAt_14 rfl (lv_at hl 3 rfl) ?_
        refine f_i (kV (As := [.int x1, .int x2, .int x4, .int x3]) (rest := []) (o := some x0) rfl ⟨hx, hb, hml, hown, hts⟩ (c_X1_wayOf l D cs ad x0 x1 x2 x4 x3 σ _ hk0) (cwV 4 hts gX1_fewestAt_X1_wayOf rfl rfl rfl (by decide +kernel) ⟨Nat.le_of_ble_eq_true rfl, Nat.le_of_ble_eq_true rfl⟩) hE hP rfl rfl (w_1 hE hk0) h rfl hl.1 rfl (by first | exact lv_room (Nat.le_of_ble_eq_true rfl) | (refine lv_room ?_; simp [re_cat, cat_i, cat_l, cat_r])) dX1_fewestAt_15 ⟨Nat.le_refl _, Nat.le_refl _⟩) hS (fun r3 s2 H locs h hP hS => ?_)
        refine lv_aload_n hx hb dX1_fewestAt_18 rfl (lv_at hl 0 rfl) ?_
        refine lv_iload_n hx hb dX1_fewestAt_19 rfl (lv_at hl 1 rfl) ?_
        refine lv_iload_n hx hb dX1_fewestAt_20 rfl (lv_at hl 2 rfl) ?_
        refine f_i (kV (As := [.int x1, .int x2]) (rest := [.int r3]) (o := some x0) rfl ⟨hx, hb, hml, hown, hts⟩ (c_X1_leastOf l D cs ad x0 x1 x2 s2 _ hk0) (cwV 2 hts gX1_fewestAt_X1_leastOf rfl rfl rfl (by decide +kernel) ⟨Nat.le_of_ble_eq_true rfl, Nat.le_of_ble_eq_true rfl⟩) hE hP rfl rfl (w_1 hE hk0) h rfl hl.1 rfl (by first | exact lv_room (Nat.le_of_ble_eq_true rfl) | (refine lv_room ?_; simp [re_cat, cat_i, cat_l, cat_r])) dX1_fewestAt_21 ⟨Nat.le_refl _, Nat.le_refl _⟩) hS (fun r5 s4 H locs h hP hS => ?_)
        refine lv_icmp_ne (tgt := 30) hx hb dX1_fewestAt_24 (by decide) (fun c6 => ?_) (fun c6 => ?_)
        · replace h := h.2 c6
          refine lv_iinc (v := x4 + 1) (lv' := [(4, .int (x4 + 1)), (0, .ref (ad x0)), (1, .int x1), (2, .int x2), (3, .int x3)]) hx hb dX1_fewestAt_30 hl (k := 4) rfl rfl (by decide) (by first | rfl | simp [re_cat, cat_i, cat_l, cat_r]) (fun ls hl => ?_)
          refine lv_goto (tgt := 3) hx hb dX1_fewestAt_33 (by decide) ?_
          exact ih x1 x2 x3 (x4 + 1) s4 H locs ls h hP hS (lv_sub hl [1, 2, 3, 4, 0] rfl)
        · replace h := h.1 c6
          refine lv_iload hx hb dX1_fewestAt_27 (lv_at hl 4 rfl) ?_
          exact W.iret hx hb hr (fun t ht hW => ⟨⟨_, _, rfl, h, pw ht hP⟩, hS.F ht⟩) hS.2.2 dX1_fewestAt_29
  unfold p_X1_fewestAt at h
  refine lv_iconst (v := 0) hx hb dX1_fewestAt_0 (by decide) ?_
  refine lv_istore (i := 4) (lv' := [(4, .int 0), (0, .ref (ad x0)), (1, .int x1), (2, .int x2), (3, .int x3)]) hx hb dX1_fewestAt_1 hl (by decide) (by first | rfl | simp [re_cat, cat_i, cat_l, cat_r]) (fun ls hl => ?_)
  obtain ⟨n1, h⟩ := h
  exact hB3 n1 x1 x2 x3 0 s0 _ _ ls h hP hS (lv_sub hl [1, 2, 3, 4, 0] rfl)
def p_X1_leadOfFirst_b48 (Q : Int32 → Sg → Prop) (K5 : Int32 → Option Nat → Option Nat → Int32 → Int32 → Sg → Prop) (x0 : Int32) (x1 : Option Nat) (x2 : Option Nat) (x4 : Int32) (t0 : Int32) (t1 : Int32) (s : Sg) : Prop := K5 x0 x1 x2 (t0 + t1) (x4 + 1) s
def p_X1_leadOfFirst_L5 (Q : Int32 → Sg → Prop)  : Nat → Int32 → Option Nat → Option Nat → Int32 → Int32 → Sg → Prop
  | 0, _, _, _, _, _, _ => False
  | n + 1, x0, x1, x2, x3, x4, s => ((6 ≤ x4 → Q x3 s) ∧ (¬ 6 ≤ x4 → p_X5_item x2 x4 s (fun r3 s2 => p_X5_item x1 x4 s2 (fun r5 s4 => ((3 ≤ x4 → p_X1_leadOfFirst_b48 Q (fun y0 y1 y2 y3 y4 u => p_X1_leadOfFirst_L5 Q  n y0 y1 y2 y3 y4 u) x0 x1 x2 x4 x3 (r3 * ((if 0 < (x0 - r5) then (x0 - r5) else 0))) s4) ∧ (¬ 3 ≤ x4 → p_X1_leadOfFirst_b48 Q (fun y0 y1 y2 y3 y4 u => p_X1_leadOfFirst_L5 Q  n y0 y1 y2 y3 y4 u) x0 x1 x2 x4 x3 (-(r3 * ((if 0 < (x0 - r5) then (x0 - r5) else 0)))) s4))))))
def p_X1_leadOfFirst (x0 : Int32) (x1 : Option Nat) (x2 : Option Nat) (s : Sg) (Q : Int32 → Sg → Prop) : Prop := (∃ n1, p_X1_leadOfFirst_L5 Q  n1 x0 x1 x2 0 0 s)
set_option maxHeartbeats 4000000 in
set_option maxRecDepth 100000 in
theorem c_X1_leadOfFirst (l : Launch) (D : va_G) (cs : Cs) (ad : Nat → Nat) (x0 : Int32) (x1 : Option Nat) (x2 : Option Nat) (s0 : Sg) (Q : Int32 → Sg → Prop) : Met l yX1_leadOfFirst wsX1_leadOfFirst { frames := 1, cells := 0, slots := 0, locals := 21 } (Pc0 bX D cs ad [.int x0, va_re ad x1, va_re ad x2] s0 (p_X1_leadOfFirst x0 x1 x2 s0 Q)) (QI bX D cs ad Q) 0 0 (fAd bX ad) := by
  refine Met.ofW (cc := cX1_leadOfFirst) (maxL := 6) (ret := (some .int)) (by decide) rfl ?_
  intro p e s m args below meth c s₁ B0 hml hv
  obtain ⟨ha, hP, hE, h⟩ := hv
  have hx := B0.exec
  have hb := B0.bytes
  have hr := B0.returns
  have hts := atoms_spec (ws := wsX1_leadOfFirst) B0.pre
  have hown : s.vm.findClass RX1 = some m.cls := findClass_of_methodNamed B0.named
  have hlocks := B0.notSynchronized
  have hS : va_S (fAd bX ad) s.heap s.heap [] := va_S.rf
  have hl := lv_entry ([.int x0, va_re ad x1, va_re ad x2]) (n := 6) (by first | exact Nat.le_of_ble_eq_true rfl | simp [lg_sl, re_cat, cat_i, cat_l, cat_r])
  rw [show entryFrame m args 6 = entryFrame m ([.int x0, va_re ad x1, va_re ad x2] : List Value).toArray 6 by rw [ha], lg_entry_eq]
  generalize (lg_sl ([.int x0, va_re ad x1, va_re ad x2]) ++ List.replicate (6 - (lg_sl ([.int x0, va_re ad x1, va_re ad x2])).length) Slot.unset).toArray = ls at hl ⊢
  have hl : lv_has ls 6 [(0, .int x0), (1, va_re ad x1), (2, va_re ad x2)] := by first | exact hl | simpa [lv_args, re_cat, cat_i, cat_l, cat_r] using hl
  have hB5 : ∀ (n5 : Nat) (x0 : Int32) (x1 : Option Nat) (x2 : Option Nat) (x3 : Int32) (x4 : Int32) (σ : Sg) (H : Heap) (locs : List Loc) (ls : Array Slot), p_X1_leadOfFirst_L5 Q  n5 x0 x1 x2 x3 x4 σ → va_P D vwCl (wl bX cs ad σ) H → va_S (fAd bX ad) s.heap H locs → lv_has ls 6 [(0, .int x0), (1, va_re ad x1), (2, va_re ad x2), (3, .int x3), (4, .int x4)] → W p l e { frames := 1, cells := 0, slots := 0, locals := 21 } s m args below meth c H locs 0 0 (MQ below (QI bX D cs ad Q) args s 0 0 (fAd bX ad)) (F0 m 5 ls []) := by
    intro n5
    induction n5 with
    | zero =>
      intro x0 x1 x2 x3 x4 σ H locs ls h
      exact h.elim
    | succ n5 ih =>
      have hK5 := ih
      have hB48 : ∀ (x0 : Int32) (x1 : Option Nat) (x2 : Option Nat) (x4 : Int32) (t0 : Int32) (t1 : Int32) (σ : Sg) (H : Heap) (locs : List Loc) (ls : Array Slot), p_X1_leadOfFirst_b48 Q (fun y0 y1 y2 y3 y4 u => p_X1_leadOfFirst_L5 Q  n5 y0 y1 y2 y3 y4 u) x0 x1 x2 x4 t0 t1 σ → va_P D vwCl (wl bX cs ad σ) H → va_S (fAd bX ad) s.heap H locs → lv_has ls 6 [(0, .int x0), (1, va_re ad x1), (2, va_re ad x2), (4, .int x4)] → W p l e { frames := 1, cells := 0, slots := 0, locals := 21 } s m args below meth c H locs 0 0 (MQ below (QI bX D cs ad Q) args s 0 0 (fAd bX ad)) (F0 m 48 ls [.int t1, .int t0]) := by
        intro x0 x1 x2 x4 t0 t1 σ H locs ls h hP hS hl
        unfold p_X1_leadOfFirst_b48 at h
        refine lv_iadd hx hb dX1_leadOfFirst_48 ?_
        refine lv_istore_n (i := 3) (lv' := [(3, .int (t0 + t1)), (0, .int x0), (1, va_re ad x1), (2, va_re ad x2), (4, .int x4)]) hx hb dX1_leadOfFirst_49 rfl hl (by decide) (by first | rfl | simp [re_cat, cat_i, cat_l, cat_r]) (fun ls hl => ?_)
        refine lv_iinc (v := x4 + 1) (lv' := [(4, .int (x4 + 1)), (3, .int (t0 + t1)), (0, .int x0), (1, va_re ad x1), (2, va_re ad x2)]) hx hb dX1_leadOfFirst_50 hl (k := 4) rfl rfl (by decide) (by first | rfl | simp [re_cat, cat_i, cat_l, cat_r]) (fun ls hl => ?_)
        refine lv_goto (tgt := 5) hx hb dX1_leadOfFirst_53 (by decide) ?_
        exact hK5 x0 x1 x2 (t0 + t1) (x4 + 1) σ H locs ls h hP hS (lv_sub hl [2, 3, 4, 1, 0] rfl)
      intro x0 x1 x2 x3 x4 σ H locs ls h hP hS hl
      rw [p_X1_leadOfFirst_L5] at h
      refine lv_iload hx hb dX1_leadOfFirst_5 (lv_at hl 4 rfl) ?_
      refine lv_bipush (v := 6) hx hb dX1_leadOfFirst_7 (by decide) ?_
      refine lv_icmp_ge (tgt := 56) hx hb dX1_leadOfFirst_9 (by decide) (fun c1 => ?_) (fun c1 => ?_)
      · replace h := h.1 c1
        refine lv_iload_n hx hb dX1_leadOfFirst_56 rfl (lv_at hl 3 rfl) ?_
        exact W.iret hx hb hr (fun t ht hW => ⟨⟨_, _, rfl, h, pw ht hP⟩, hS.F ht⟩) hS.2.2 dX1_leadOfFirst_57
      · replace h := h.2 c1
        refine r_aload_n hx hb dX1_leadOfFirst_12 rfl (lv_at hl 2 rfl) ?_
        refine lv_iload hx hb dX1_leadOfFirst_13 (lv_at hl 4 rfl) ?_
        refine f_i (kN (As := [va_re ad x2, .int x4]) (rest := []) ⟨hx, hb, hml, hown, hts⟩ (c_X5_item l D cs ad x2 x4 σ _) ⟨va_cnB 2 hts gX1_leadOfFirst_X5_item_n41 rfl rfl rfl (hE.2.2.2.2 ("HemLine$Dykes", 41, ⟨"HemLine", "item", "([II)I"⟩, "HemLine") (by decide +kernel)) (hts (.initialized RX5) (by decide +kernel)) (by decide +kernel) ⟨Nat.le_of_ble_eq_true rfl, Nat.le_of_ble_eq_true rfl⟩, hts (.static yX5_item) (by decide +kernel), trivial⟩ hE hP h rfl hl.1 rfl (by first | exact lv_room (Nat.le_of_ble_eq_true rfl) | (refine lv_room ?_; simp [re_cat, cat_i, cat_l, cat_r])) dX1_leadOfFirst_15 ⟨Nat.le_refl _, Nat.le_refl _⟩) hS (fun r3 s2 H locs h hP hS => ?_)
        refine lv_iconst (v := 0) hx hb dX1_leadOfFirst_18 (by decide) ?_
        refine lv_iload_n hx hb dX1_leadOfFirst_19 rfl (lv_at hl 0 rfl) ?_
        refine r_aload_n hx hb dX1_leadOfFirst_20 rfl (lv_at hl 1 rfl) ?_
        refine lv_iload hx hb dX1_leadOfFirst_21 (lv_at hl 4 rfl) ?_
        refine f_i (kN (As := [va_re ad x1, .int x4]) (rest := [.int x0, .int 0, .int r3]) ⟨hx, hb, hml, hown, hts⟩ (c_X5_item l D cs ad x1 x4 s2 _) ⟨va_cnB 2 hts gX1_leadOfFirst_X5_item_n41 rfl rfl rfl (hE.2.2.2.2 ("HemLine$Dykes", 41, ⟨"HemLine", "item", "([II)I"⟩, "HemLine") (by decide +kernel)) (hts (.initialized RX5) (by decide +kernel)) (by decide +kernel) ⟨Nat.le_of_ble_eq_true rfl, Nat.le_of_ble_eq_true rfl⟩, hts (.static yX5_item) (by decide +kernel), trivial⟩ hE hP h rfl hl.1 rfl (by first | exact lv_room (Nat.le_of_ble_eq_true rfl) | (refine lv_room ?_; simp [re_cat, cat_i, cat_l, cat_r])) dX1_leadOfFirst_23 ⟨Nat.le_refl _, Nat.le_refl _⟩) hS (fun r5 s4 H locs h hP hS => ?_)
        refine lv_isub hx hb dX1_leadOfFirst_26 ?_
        refine va_mmax hx hb (hml.trans hl.1.symm) hown (hts (.methodLink RX1 71 Lib.Math.max.name) (by decide +kernel)) (hts (.static Lib.Math.max.name) (by decide +kernel)) (hts (.initialized "java/lang/Math") (by decide +kernel)) (hts (.code Lib.Math.max.name Lib.Math.max.code 2 (some .int)) (by decide +kernel)) (Nat.le_of_ble_eq_true rfl) (by first | exact Nat.le_of_ble_eq_true rfl | (simp only [List.map, re_cat, cat_i, cat_l, cat_r, List.sum_cons, List.sum_nil]; exact Nat.le_of_ble_eq_true rfl)) (Nat.le_refl _) (Nat.le_refl _) dX1_leadOfFirst_27 ?_
        refine lv_imul hx hb dX1_leadOfFirst_30 ?_
        refine lv_istore (i := 5) (lv' := [(5, .int (r3 * ((if 0 < (x0 - r5) then (x0 - r5) else 0)))), (0, .int x0), (1, va_re ad x1), (2, va_re ad x2), (3, .int x3), (4, .int x4)]) hx hb dX1_leadOfFirst_31 hl (by decide) (by first | rfl | simp [re_cat, cat_i, cat_l, cat_r]) (fun ls hl => ?_)
        refine lv_iload_n hx hb dX1_leadOfFirst_33 rfl (lv_at hl 4 rfl) ?_
        refine lv_iload hx hb dX1_leadOfFirst_34 (lv_at hl 5 rfl) ?_
        refine lv_iconst (v := 3) hx hb dX1_leadOfFirst_36 (by decide) ?_
        refine lv_icmp_ge (tgt := 46) hx hb dX1_leadOfFirst_37 (by decide) (fun c6 => ?_) (fun c6 => ?_)
        · replace h := h.1 c6
          refine lv_iload hx hb dX1_leadOfFirst_46 (lv_at hl 0 rfl) ?_
          exact hB48 x0 x1 x2 x4 x3 (r3 * ((if 0 < (x0 - r5) then (x0 - r5) else 0))) s4 H locs ls h hP hS (lv_sub hl [1, 2, 3, 5] rfl)
        · replace h := h.2 c6
          refine lv_iload hx hb dX1_leadOfFirst_40 (lv_at hl 0 rfl) ?_
          refine lv_ineg hx hb dX1_leadOfFirst_42 ?_
          refine lv_goto (tgt := 48) hx hb dX1_leadOfFirst_43 (by decide) ?_
          exact hB48 x0 x1 x2 x4 x3 (-(r3 * ((if 0 < (x0 - r5) then (x0 - r5) else 0)))) s4 H locs ls h hP hS (lv_sub hl [1, 2, 3, 5] rfl)
  unfold p_X1_leadOfFirst at h
  refine lv_iconst (v := 0) hx hb dX1_leadOfFirst_0 (by decide) ?_
  refine lv_istore_n (i := 3) (lv' := [(3, .int 0), (0, .int x0), (1, va_re ad x1), (2, va_re ad x2)]) hx hb dX1_leadOfFirst_1 rfl hl (by decide) (by first | rfl | simp [re_cat, cat_i, cat_l, cat_r]) (fun ls hl => ?_)
  refine lv_iconst (v := 0) hx hb dX1_leadOfFirst_2 (by decide) ?_
  refine lv_istore (i := 4) (lv' := [(4, .int 0), (3, .int 0), (0, .int x0), (1, va_re ad x1), (2, va_re ad x2)]) hx hb dX1_leadOfFirst_3 hl (by decide) (by first | rfl | simp [re_cat, cat_i, cat_l, cat_r]) (fun ls hl => ?_)
  obtain ⟨n1, h⟩ := h
  exact hB5 n1 x0 x1 x2 0 0 s0 _ _ ls h hP hS (lv_sub hl [2, 3, 4, 1, 0] rfl)
def p_X1_playedOut_b11 (P0 : Int32 → Int32 → Int32 → Option Nat → Option Nat → Sg → (Int32 → Sg → Prop) → Prop) (Q : Int32 → Sg → Prop)  (x2 : Int32) (x3 : Option Nat) (x4 : Option Nat) (s : Sg) : Prop := p_X1_leadOfFirst ((if 20 < x2 then 20 else x2)) x3 x4 s (fun r2 s1 => Q r2 s1)
def p_X1_playedOut_b147 (P0 : Int32 → Int32 → Int32 → Option Nat → Option Nat → Sg → (Int32 → Sg → Prop) → Prop) (Q : Int32 → Sg → Prop) (K66 : Int32 → Int32 → Int32 → Option Nat → Option Nat → Int32 → Int32 → Int32 → Int32 → Sg → Prop) (x0 : Int32) (x1 : Int32) (x2 : Int32) (x3 : Option Nat) (x4 : Option Nat) (x5 : Int32) (x6 : Int32) (x7 : Int32) (x8 : Int32) (s : Sg) : Prop := K66 x0 x1 x2 x3 x4 x5 x6 x7 (x8 + 1) s
def p_X1_playedOut_b145 (P0 : Int32 → Int32 → Int32 → Option Nat → Option Nat → Sg → (Int32 → Sg → Prop) → Prop) (Q : Int32 → Sg → Prop) (K66 : Int32 → Int32 → Int32 → Option Nat → Option Nat → Int32 → Int32 → Int32 → Int32 → Sg → Prop) (x0 : Int32) (x1 : Int32) (x2 : Int32) (x3 : Option Nat) (x4 : Option Nat) (x5 : Int32) (x6 : Int32) (x8 : Int32) (t0 : Int32) (s : Sg) : Prop := p_X1_playedOut_b147 P0 Q K66 x0 x1 x2 x3 x4 x5 x6 t0 x8 s
def p_X1_playedOut_L66 (P0 : Int32 → Int32 → Int32 → Option Nat → Option Nat → Sg → (Int32 → Sg → Prop) → Prop) (Q : Int32 → Sg → Prop)  : Nat → Int32 → Int32 → Int32 → Option Nat → Option Nat → Int32 → Int32 → Int32 → Int32 → Sg → Prop
  | 0, _, _, _, _, _, _, _, _, _, _ => False
  | n + 1, x0, x1, x2, x3, x4, x5, x6, x7, x8, s => (((x6 + 3) ≤ x8 → Q x7 s) ∧ (¬ (x6 + 3) ≤ x8 → p_X5_item x3 x8 s (fun r3 s2 => ((9 ≤ r3 → p_X1_playedOut_b147 P0 Q (fun y0 y1 y2 y3 y4 y5 y6 y7 y8 u => p_X1_playedOut_L66 P0 Q  n y0 y1 y2 y3 y4 y5 y6 y7 y8 u) x0 x1 x2 x3 x4 x5 x6 x7 x8 s2) ∧ (¬ 9 ≤ r3 → p_X5_setItem x3 x8 (r3 + 1) s2 (fun s5 => P0 (x0 + 1) x1 (x2 + 1) x3 x4 s5 (fun r7 s6 => p_X5_setItem x3 x8 r3 s6 (fun s8 => ((x5 = 0 → p_X1_playedOut_b145 P0 Q (fun y0 y1 y2 y3 y4 y5 y6 y7 y8 u => p_X1_playedOut_L66 P0 Q  n y0 y1 y2 y3 y4 y5 y6 y7 y8 u) x0 x1 x2 x3 x4 x5 x6 x8 ((if r7 < x7 then r7 else x7)) s8) ∧ (¬ x5 = 0 → p_X1_playedOut_b145 P0 Q (fun y0 y1 y2 y3 y4 y5 y6 y7 y8 u => p_X1_playedOut_L66 P0 Q  n y0 y1 y2 y3 y4 y5 y6 y7 y8 u) x0 x1 x2 x3 x4 x5 x6 x8 ((if x7 < r7 then r7 else x7)) s8))))))))))
def p_X1_playedOut_b47 (P0 : Int32 → Int32 → Int32 → Option Nat → Option Nat → Sg → (Int32 → Sg → Prop) → Prop) (Q : Int32 → Sg → Prop)  (x0 : Int32) (x1 : Int32) (x2 : Int32) (x3 : Option Nat) (x4 : Option Nat) (x5 : Int32) (t0 : Int32) (s : Sg) : Prop := P0 (x0 + 1) x1 x2 x3 x4 s (fun r2 s1 => (∃ n3, p_X1_playedOut_L66 P0 Q  n3 x0 x1 x2 x3 x4 x5 t0 r2 t0 s1))
def p_X1_playedOut_b35 (P0 : Int32 → Int32 → Int32 → Option Nat → Option Nat → Sg → (Int32 → Sg → Prop) → Prop) (Q : Int32 → Sg → Prop)  (x0 : Int32) (x1 : Int32) (x2 : Int32) (x3 : Option Nat) (x4 : Option Nat) (t0 : Int32) (s : Sg) : Prop := ((t0 = 0 → p_X1_playedOut_b47 P0 Q  x0 x1 x2 x3 x4 t0 3 s) ∧ (¬ t0 = 0 → p_X1_playedOut_b47 P0 Q  x0 x1 x2 x3 x4 t0 0 s))
def p_X1_playedOut_0 (P0 : Int32 → Int32 → Int32 → Option Nat → Option Nat → Sg → (Int32 → Sg → Prop) → Prop) (x0 : Int32) (x1 : Int32) (x2 : Int32) (x3 : Option Nat) (x4 : Option Nat) (s : Sg) (Q : Int32 → Sg → Prop) : Prop := ((x1 ≤ x0 → p_X1_playedOut_b11 P0 Q  x2 x3 x4 s) ∧ (¬ x1 ≤ x0 → ((x0 < 6 → (((x0 - x0 / 2 * 2) = 0 → p_X1_playedOut_b35 P0 Q  x0 x1 x2 x3 x4 1 s) ∧ (¬ (x0 - x0 / 2 * 2) = 0 → p_X1_playedOut_b35 P0 Q  x0 x1 x2 x3 x4 0 s))) ∧ (¬ x0 < 6 → p_X1_playedOut_b11 P0 Q  x2 x3 x4 s))))
def p_X1_playedOut : Nat → Int32 → Int32 → Int32 → Option Nat → Option Nat → Sg → (Int32 → Sg → Prop) → Prop
  | 0, _, _, _, _, _, _, _ => False
  | d + 1, x0, x1, x2, x3, x4, s, Q => p_X1_playedOut_0 (p_X1_playedOut d) x0 x1 x2 x3 x4 s Q
set_option maxHeartbeats 4000000 in
set_option maxRecDepth 100000 in
theorem c_X1_playedOut (l : Launch) (D : va_G) (cs : Cs) (ad : Nat → Nat) : ∀ (d : Nat) (x0 : Int32) (x1 : Int32) (x2 : Int32) (x3 : Option Nat) (x4 : Option Nat) (s0 : Sg) (Q : Int32 → Sg → Prop), Met l yX1_playedOut wsX1_playedOut { frames := 2 + d, cells := 0, slots := 0, locals := 46 + d * 30 } (Pc0 bX D cs ad [.int x0, .int x1, .int x2, va_re ad x3, va_re ad x4] s0 (p_X1_playedOut d x0 x1 x2 x3 x4 s0 Q)) (QI bX D cs ad Q) 0 0 (fAd bX ad) := by
  intro d
  induction d with
  | zero =>
    intro x0 x1 x2 x3 x4 s0 Q
    refine Met.ofW (cc := cX1_playedOut) (maxL := 11) (ret := (some .int)) (by decide) rfl ?_
    intro p e s m args below meth c s₁ B0 hml hv
    obtain ⟨rfl, hP, hE, h⟩ := hv
    unfold p_X1_playedOut at h
    exact h.elim
  | succ d ihd =>
  intro x0 x1 x2 x3 x4 s0 Q
  refine Met.ofW (cc := cX1_playedOut) (maxL := 11) (ret := (some .int)) (by decide) rfl ?_
  intro p e s m args below meth c s₁ B0 hml hv
  obtain ⟨ha, hP, hE, h⟩ := hv
  have hx := B0.exec
  have hb := B0.bytes
  have hr := B0.returns
  have hts := atoms_spec (ws := wsX1_playedOut) B0.pre
  have hown : s.vm.findClass RX1 = some m.cls := findClass_of_methodNamed B0.named
  have hlocks := B0.notSynchronized
  have hS : va_S (fAd bX ad) s.heap s.heap [] := va_S.rf
  have hl := lv_entry ([.int x0, .int x1, .int x2, va_re ad x3, va_re ad x4]) (n := 11) (by first | exact Nat.le_of_ble_eq_true rfl | simp [lg_sl, re_cat, cat_i, cat_l, cat_r])
  rw [show entryFrame m args 11 = entryFrame m ([.int x0, .int x1, .int x2, va_re ad x3, va_re ad x4] : List Value).toArray 11 by rw [ha], lg_entry_eq]
  generalize (lg_sl ([.int x0, .int x1, .int x2, va_re ad x3, va_re ad x4]) ++ List.replicate (11 - (lg_sl ([.int x0, .int x1, .int x2, va_re ad x3, va_re ad x4])).length) Slot.unset).toArray = ls at hl ⊢
  have hl : lv_has ls 11 [(0, .int x0), (1, .int x1), (2, .int x2), (3, va_re ad x3), (4, va_re ad x4)] := by first | exact hl | simpa [lv_args, re_cat, cat_i, cat_l, cat_r] using hl
  have hB11 : ∀ (x2 : Int32) (x3 : Option Nat) (x4 : Option Nat) (σ : Sg) (H : Heap) (locs : List Loc) (ls : Array Slot), p_X1_playedOut_b11 (p_X1_playedOut d) Q  x2 x3 x4 σ → va_P D vwCl (wl bX cs ad σ) H → va_S (fAd bX ad) s.heap H locs → lv_has ls 11 [(2, .int x2), (3, va_re ad x3), (4, va_re ad x4)] → W p l e { frames := 2 + (d + 1), cells := 0, slots := 0, locals := 46 + (d + 1) * 30 } s m args below meth c H locs 0 0 (MQ below (QI bX D cs ad Q) args s 0 0 (fAd bX ad)) (F0 m 11 ls []) := by
    intro x2 x3 x4 σ H locs ls h hP hS hl
    unfold p_X1_playedOut_b11 at h
    refine lv_iload_n hx hb dX1_playedOut_11 rfl (lv_at hl 0 rfl) ?_
    refine lv_bipush (v := 20) hx hb dX1_playedOut_12 (by decide) ?_
    refine va_mmin hx hb (hml.trans hl.1.symm) hown (hts (.methodLink RX1 66 Lib.Math.min.name) (by decide +kernel)) (hts (.static Lib.Math.min.name) (by decide +kernel)) (hts (.initialized "java/lang/Math") (by decide +kernel)) (hts (.code Lib.Math.min.name Lib.Math.min.code 2 (some .int)) (by decide +kernel)) (by show 1 ≤ 2 + (d + 1); omega) (by simp only [List.map, re_cat, cat_i, cat_l, cat_r, List.sum_cons, List.sum_nil]; show _ ≤ 46 + (d + 1) * 30; omega) (Nat.le_refl _) (Nat.le_refl _) dX1_playedOut_14 ?_
    refine r_aload_n hx hb dX1_playedOut_17 rfl (lv_at hl 1 rfl) ?_
    refine r_aload hx hb dX1_playedOut_18 (lv_at hl 2 rfl) ?_
    refine f_i (kS (As := [.int ((if 20 < x2 then 20 else x2)), va_re ad x3, va_re ad x4]) (rest := []) ⟨hx, hb, hml, hown, hts⟩ (c_X1_leadOfFirst l D cs ad ((if 20 < x2 then 20 else x2)) x3 x4 σ _) (va_cwS 3 hts gX1_playedOut_X1_leadOfFirst rfl rfl rfl (by decide +kernel) ⟨by show 1 + 1 ≤ 2 + (d + 1); omega, by show 8 + (6 + 11) + 21 ≤ 46 + (d + 1) * 30; omega⟩) hE hP h rfl hl.1 rfl (by first | exact lv_room (Nat.le_of_ble_eq_true rfl) | (refine lv_room ?_; simp [re_cat, cat_i, cat_l, cat_r])) dX1_playedOut_20 ⟨Nat.le_refl _, Nat.le_refl _⟩) hS (fun r2 s1 H locs h hP hS => ?_)
    exact W.iret hx hb hr (fun t ht hW => ⟨⟨_, _, rfl, h, pw ht hP⟩, hS.F ht⟩) hS.2.2 dX1_playedOut_23
  have hB66 : ∀ (n66 : Nat) (x0 : Int32) (x1 : Int32) (x2 : Int32) (x3 : Option Nat) (x4 : Option Nat) (x5 : Int32) (x6 : Int32) (x7 : Int32) (x8 : Int32) (σ : Sg) (H : Heap) (locs : List Loc) (ls : Array Slot), p_X1_playedOut_L66 (p_X1_playedOut d) Q  n66 x0 x1 x2 x3 x4 x5 x6 x7 x8 σ → va_P D vwCl (wl bX cs ad σ) H → va_S (fAd bX ad) s.heap H locs → lv_has ls 11 [(0, .int x0), (1, .int x1), (2, .int x2), (3, va_re ad x3), (4, va_re ad x4), (5, .int x5), (6, .int x6), (7, .int x7), (8, .int x8)] → W p l e { frames := 2 + (d + 1), cells := 0, slots := 0, locals := 46 + (d + 1) * 30 } s m args below meth c H locs 0 0 (MQ below (QI bX D cs ad Q) args s 0 0 (fAd bX ad)) (F0 m 66 ls []) := by
    intro n66
    induction n66 with
    | zero =>
      intro x0 x1 x2 x3 x4 x5 x6 x7 x8 σ H locs ls h
      exact h.elim
    | succ n66 ih =>
      have hK66 := ih
      have hB147 : ∀ (x0 : Int32) (x1 : Int32) (x2 : Int32) (x3 : Option Nat) (x4 : Option Nat) (x5 : Int32) (x6 : Int32) (x7 : Int32) (x8 : Int32) (σ : Sg) (H : Heap) (locs : List Loc) (ls : Array Slot), p_X1_playedOut_b147 (p_X1_playedOut d) Q (fun y0 y1 y2 y3 y4 y5 y6 y7 y8 u => p_X1_playedOut_L66 (p_X1_playedOut d) Q  n66 y0 y1 y2 y3 y4 y5 y6 y7 y8 u) x0 x1 x2 x3 x4 x5 x6 x7 x8 σ → va_P D vwCl (wl bX cs ad σ) H → va_S (fAd bX ad) s.heap H locs → lv_has ls 11 [(0, .int x0), (1, .int x1), (2, .int x2), (3, va_re ad x3), (4, va_re ad x4), (5, .int x5), (6, .int x6), (7, .int x7), (8, .int x8)] → W p l e { frames := 2 + (d + 1), cells := 0, slots := 0, locals := 46 + (d + 1) * 30 } s m args below meth c H locs 0 0 (MQ below (QI bX D cs ad Q) args s 0 0 (fAd bX ad)) (F0 m 147 ls []) := by
        intro x0 x1 x2 x3 x4 x5 x6 x7 x8 σ H locs ls h hP hS hl
        unfold p_X1_playedOut_b147 at h
        refine lv_iinc (v := x8 + 1) (lv' := [(8, .int (x8 + 1)), (0, .int x0), (1, .int x1), (2, .int x2), (3, va_re ad x3), (4, va_re ad x4), (5, .int x5), (6, .int x6), (7, .int x7)]) hx hb dX1_playedOut_147 hl (k := 8) rfl rfl (by decide) (by first | rfl | simp [re_cat, cat_i, cat_l, cat_r]) (fun ls hl => ?_)
        refine lv_goto (tgt := 66) hx hb dX1_playedOut_150 (by decide) ?_
        exact hK66 x0 x1 x2 x3 x4 x5 x6 x7 (x8 + 1) σ H locs ls h hP hS (lv_sub hl [1, 2, 3, 4, 5, 6, 7, 8, 0] rfl)
      have hB145 : ∀ (x0 : Int32) (x1 : Int32) (x2 : Int32) (x3 : Option Nat) (x4 : Option Nat) (x5 : Int32) (x6 : Int32) (x8 : Int32) (t0 : Int32) (σ : Sg) (H : Heap) (locs : List Loc) (ls : Array Slot), p_X1_playedOut_b145 (p_X1_playedOut d) Q (fun y0 y1 y2 y3 y4 y5 y6 y7 y8 u => p_X1_playedOut_L66 (p_X1_playedOut d) Q  n66 y0 y1 y2 y3 y4 y5 y6 y7 y8 u) x0 x1 x2 x3 x4 x5 x6 x8 t0 σ → va_P D vwCl (wl bX cs ad σ) H → va_S (fAd bX ad) s.heap H locs → lv_has ls 11 [(0, .int x0), (1, .int x1), (2, .int x2), (3, va_re ad x3), (4, va_re ad x4), (5, .int x5), (6, .int x6), (8, .int x8)] → W p l e { frames := 2 + (d + 1), cells := 0, slots := 0, locals := 46 + (d + 1) * 30 } s m args below meth c H locs 0 0 (MQ below (QI bX D cs ad Q) args s 0 0 (fAd bX ad)) (F0 m 145 ls [.int t0]) := by
        intro x0 x1 x2 x3 x4 x5 x6 x8 t0 σ H locs ls h hP hS hl
        unfold p_X1_playedOut_b145 at h
        refine lv_istore (i := 7) (lv' := [(7, .int t0), (0, .int x0), (1, .int x1), (2, .int x2), (3, va_re ad x3), (4, va_re ad x4), (5, .int x5), (6, .int x6), (8, .int x8)]) hx hb dX1_playedOut_145 hl (by decide) (by first | rfl | simp [re_cat, cat_i, cat_l, cat_r]) (fun ls hl => ?_)
        exact hB147 x0 x1 x2 x3 x4 x5 x6 t0 x8 σ H locs ls h hP hS (lv_sub hl [1, 2, 3, 4, 5, 6, 7, 0, 8] rfl)
      intro x0 x1 x2 x3 x4 x5 x6 x7 x8 σ H locs ls h hP hS hl
      rw [p_X1_playedOut_L66] at h
      refine lv_iload hx hb dX1_playedOut_66 (lv_at hl 8 rfl) ?_
      refine lv_iload hx hb dX1_playedOut_68 (lv_at hl 6 rfl) ?_
      refine lv_iconst (v := 3) hx hb dX1_playedOut_70 (by decide) ?_
      refine lv_iadd hx hb dX1_playedOut_71 ?_
      refine lv_icmp_ge (tgt := 153) hx hb dX1_playedOut_72 (by decide) (fun c1 => ?_) (fun c1 => ?_)
      · replace h := h.1 c1
        refine lv_iload hx hb dX1_playedOut_153 (lv_at hl 7 rfl) ?_
        exact W.iret hx hb hr (fun t ht hW => ⟨⟨_, _, rfl, h, pw ht hP⟩, hS.F ht⟩) hS.2.2 dX1_playedOut_155
      · replace h := h.2 c1
        refine r_aload_n hx hb dX1_playedOut_75 rfl (lv_at hl 3 rfl) ?_
        refine lv_iload hx hb dX1_playedOut_76 (lv_at hl 8 rfl) ?_
        refine f_i (kN (As := [va_re ad x3, .int x8]) (rest := []) ⟨hx, hb, hml, hown, hts⟩ (c_X5_item l D cs ad x3 x8 σ _) ⟨va_cnB 2 hts gX1_playedOut_X5_item_n41 rfl rfl rfl (hE.2.2.2.2 ("HemLine$Dykes", 41, ⟨"HemLine", "item", "([II)I"⟩, "HemLine") (by decide +kernel)) (hts (.initialized RX5) (by decide +kernel)) (by decide +kernel) ⟨by show 0 + 1 ≤ 2 + (d + 1); omega, by show 8 + (2 + 11) + 0 ≤ 46 + (d + 1) * 30; omega⟩, hts (.static yX5_item) (by decide +kernel), trivial⟩ hE hP h rfl hl.1 rfl (by first | exact lv_room (Nat.le_of_ble_eq_true rfl) | (refine lv_room ?_; simp [re_cat, cat_i, cat_l, cat_r])) dX1_playedOut_78 ⟨Nat.le_refl _, Nat.le_refl _⟩) hS (fun r3 s2 H locs h hP hS => ?_)
        refine lv_istore (i := 9) (lv' := [(9, .int r3), (0, .int x0), (1, .int x1), (2, .int x2), (3, va_re ad x3), (4, va_re ad x4), (5, .int x5), (6, .int x6), (7, .int x7), (8, .int x8)]) hx hb dX1_playedOut_81 hl (by decide) (by first | rfl | simp [re_cat, cat_i, cat_l, cat_r]) (fun ls hl => ?_)
        refine lv_iload hx hb dX1_playedOut_83 (lv_at hl 0 rfl) ?_
        refine lv_bipush (v := 9) hx hb dX1_playedOut_85 (by decide) ?_
        refine lv_icmp_ge (tgt := 147) hx hb dX1_playedOut_87 (by decide) (fun c4 => ?_) (fun c4 => ?_)
        · replace h := h.1 c4
          exact hB147 x0 x1 x2 x3 x4 x5 x6 x7 x8 s2 H locs ls h hP hS (lv_sub hl [1, 2, 3, 4, 5, 6, 7, 8, 9] rfl)
        · replace h := h.2 c4
          refine r_aload_n hx hb dX1_playedOut_90 rfl (lv_at hl 4 rfl) ?_
          refine lv_iload hx hb dX1_playedOut_91 (lv_at hl 9 rfl) ?_
          refine lv_iload hx hb dX1_playedOut_93 (lv_at hl 0 rfl) ?_
          refine lv_iconst (v := 1) hx hb dX1_playedOut_95 (by decide) ?_
          refine lv_iadd hx hb dX1_playedOut_96 ?_
          refine f_v (kN (As := [va_re ad x3, .int x8, .int (r3 + 1)]) (rest := []) ⟨hx, hb, hml, hown, hts⟩ (c_X5_setItem l D cs ad x3 x8 (r3 + 1) s2 _) ⟨va_cnB 3 hts gX1_playedOut_X5_setItem_n45 rfl rfl rfl (hE.2.2.2.2 ("HemLine$Dykes", 45, ⟨"HemLine", "setItem", "([III)V"⟩, "HemLine") (by decide +kernel)) (hts (.initialized RX5) (by decide +kernel)) (by decide +kernel) ⟨by show 0 + 1 ≤ 2 + (d + 1); omega, by show 8 + (3 + 11) + 0 ≤ 46 + (d + 1) * 30; omega⟩, hts (.static yX5_setItem) (by decide +kernel), trivial⟩ hE hP h rfl hl.1 rfl (by first | exact lv_room (Nat.le_of_ble_eq_true rfl) | (refine lv_room ?_; simp [re_cat, cat_i, cat_l, cat_r])) dX1_playedOut_97 ⟨Nat.le_refl _, Nat.le_refl _⟩) hS (fun s5 H locs h hP hS => ?_)
          refine lv_iload_n hx hb dX1_playedOut_100 rfl (lv_at hl 1 rfl) ?_
          refine lv_iconst (v := 1) hx hb dX1_playedOut_101 (by decide) ?_
          refine lv_iadd hx hb dX1_playedOut_102 ?_
          refine lv_iload_n hx hb dX1_playedOut_103 rfl (lv_at hl 2 rfl) ?_
          refine lv_iload_n hx hb dX1_playedOut_104 rfl (lv_at hl 3 rfl) ?_
          refine lv_iconst (v := 1) hx hb dX1_playedOut_105 (by decide) ?_
          refine lv_iadd hx hb dX1_playedOut_106 ?_
          refine r_aload_n hx hb dX1_playedOut_107 rfl (lv_at hl 4 rfl) ?_
          refine r_aload hx hb dX1_playedOut_108 (lv_at hl 5 rfl) ?_
          refine f_i (kS (As := [.int (x0 + 1), .int x1, .int (x2 + 1), va_re ad x3, va_re ad x4]) (rest := []) ⟨hx, hb, hml, hown, hts⟩ (ihd (x0 + 1) x1 (x2 + 1) x3 x4 s5 _) (va_cwS 5 hts gX1_playedOut_X1_playedOut rfl rfl rfl (by decide +kernel) ⟨by show 2 + d + 1 ≤ 2 + (d + 1); omega, by show 8 + (11 + 11) + (46 + d * 30) ≤ 46 + (d + 1) * 30; omega⟩) hE hP h rfl hl.1 rfl (by first | exact lv_room (Nat.le_of_ble_eq_true rfl) | (refine lv_room ?_; simp [re_cat, cat_i, cat_l, cat_r])) dX1_playedOut_110 ⟨Nat.le_refl _, Nat.le_refl _⟩) hS (fun r7 s6 H locs h hP hS => ?_)
          refine lv_istore (i := 10) (lv' := [(10, .int r7), (9, .int r3), (0, .int x0), (1, .int x1), (2, .int x2), (3, va_re ad x3), (4, va_re ad x4), (5, .int x5), (6, .int x6), (7, .int x7), (8, .int x8)]) hx hb dX1_playedOut_113 hl (by decide) (by first | rfl | simp [re_cat, cat_i, cat_l, cat_r]) (fun ls hl => ?_)
          refine r_aload_n hx hb dX1_playedOut_115 rfl (lv_at hl 5 rfl) ?_
          refine lv_iload hx hb dX1_playedOut_116 (lv_at hl 10 rfl) ?_
          refine lv_iload hx hb dX1_playedOut_118 (lv_at hl 1 rfl) ?_
          refine f_v (kN (As := [va_re ad x3, .int x8, .int r3]) (rest := []) ⟨hx, hb, hml, hown, hts⟩ (c_X5_setItem l D cs ad x3 x8 r3 s6 _) ⟨va_cnB 3 hts gX1_playedOut_X5_setItem_n45 rfl rfl rfl (hE.2.2.2.2 ("HemLine$Dykes", 45, ⟨"HemLine", "setItem", "([III)V"⟩, "HemLine") (by decide +kernel)) (hts (.initialized RX5) (by decide +kernel)) (by decide +kernel) ⟨by show 0 + 1 ≤ 2 + (d + 1); omega, by show 8 + (3 + 11) + 0 ≤ 46 + (d + 1) * 30; omega⟩, hts (.static yX5_setItem) (by decide +kernel), trivial⟩ hE hP h rfl hl.1 rfl (by first | exact lv_room (Nat.le_of_ble_eq_true rfl) | (refine lv_room ?_; simp [re_cat, cat_i, cat_l, cat_r])) dX1_playedOut_120 ⟨Nat.le_refl _, Nat.le_refl _⟩) hS (fun s8 H locs h hP hS => ?_)
          refine lv_iload hx hb dX1_playedOut_123 (lv_at hl 7 rfl) ?_
          refine lv_if_eq (tgt := 138) hx hb dX1_playedOut_125 (by decide) (fun c9 => ?_) (fun c9 => ?_)
          · replace h := h.1 c9
            refine lv_iload hx hb dX1_playedOut_138 (lv_at hl 9 rfl) ?_
            refine lv_iload hx hb dX1_playedOut_140 (lv_at hl 0 rfl) ?_
            refine va_mmin hx hb (hml.trans hl.1.symm) hown (hts (.methodLink RX1 66 Lib.Math.min.name) (by decide +kernel)) (hts (.static Lib.Math.min.name) (by decide +kernel)) (hts (.initialized "java/lang/Math") (by decide +kernel)) (hts (.code Lib.Math.min.name Lib.Math.min.code 2 (some .int)) (by decide +kernel)) (by show 1 ≤ 2 + (d + 1); omega) (by simp only [List.map, re_cat, cat_i, cat_l, cat_r, List.sum_cons, List.sum_nil]; show _ ≤ 46 + (d + 1) * 30; omega) (Nat.le_refl _) (Nat.le_refl _) dX1_playedOut_142 ?_
            exact hB145 x0 x1 x2 x3 x4 x5 x6 x8 ((if r7 < x7 then r7 else x7)) s8 H locs ls h hP hS (lv_sub hl [2, 3, 4, 5, 6, 7, 8, 10] rfl)
          · replace h := h.2 c9
            refine lv_iload hx hb dX1_playedOut_128 (lv_at hl 9 rfl) ?_
            refine lv_iload hx hb dX1_playedOut_130 (lv_at hl 0 rfl) ?_
            refine va_mmax hx hb (hml.trans hl.1.symm) hown (hts (.methodLink RX1 71 Lib.Math.max.name) (by decide +kernel)) (hts (.static Lib.Math.max.name) (by decide +kernel)) (hts (.initialized "java/lang/Math") (by decide +kernel)) (hts (.code Lib.Math.max.name Lib.Math.max.code 2 (some .int)) (by decide +kernel)) (by show 1 ≤ 2 + (d + 1); omega) (by simp only [List.map, re_cat, cat_i, cat_l, cat_r, List.sum_cons, List.sum_nil]; show _ ≤ 46 + (d + 1) * 30; omega) (Nat.le_refl _) (Nat.le_refl _) dX1_playedOut_132 ?_
            refine lv_goto (tgt := 145) hx hb dX1_playedOut_135 (by decide) ?_
            exact hB145 x0 x1 x2 x3 x4 x5 x6 x8 ((if x7 < r7 then r7 else x7)) s8 H locs ls h hP hS (lv_sub hl [2, 3, 4, 5, 6, 7, 8, 10] rfl)
  have hB47 : ∀ (x0 : Int32) (x1 : Int32) (x2 : Int32) (x3 : Option Nat) (x4 : Option Nat) (x5 : Int32) (t0 : Int32) (σ : Sg) (H : Heap) (locs : List Loc) (ls : Array Slot), p_X1_playedOut_b47 (p_X1_playedOut d) Q  x0 x1 x2 x3 x4 x5 t0 σ → va_P D vwCl (wl bX cs ad σ) H → va_S (fAd bX ad) s.heap H locs → lv_has ls 11 [(0, .int x0), (1, .int x1), (2, .int x2), (3, va_re ad x3), (4, va_re ad x4), (5, .int x5)] → W p l e { frames := 2 + (d + 1), cells := 0, slots := 0, locals := 46 + (d + 1) * 30 } s m args below meth c H locs 0 0 (MQ below (QI bX D cs ad Q) args s 0 0 (fAd bX ad)) (F0 m 47 ls [.int t0]) := by
    intro x0 x1 x2 x3 x4 x5 t0 σ H locs ls h hP hS hl
    unfold p_X1_playedOut_b47 at h
    refine lv_istore (i := 6) (lv' := [(6, .int t0), (0, .int x0), (1, .int x1), (2, .int x2), (3, va_re ad x3), (4, va_re ad x4), (5, .int x5)]) hx hb dX1_playedOut_47 hl (by decide) (by first | rfl | simp [re_cat, cat_i, cat_l, cat_r]) (fun ls hl => ?_)
    refine lv_iload_n hx hb dX1_playedOut_49 rfl (lv_at hl 1 rfl) ?_
    refine lv_iconst (v := 1) hx hb dX1_playedOut_50 (by decide) ?_
    refine lv_iadd hx hb dX1_playedOut_51 ?_
    refine lv_iload_n hx hb dX1_playedOut_52 rfl (lv_at hl 2 rfl) ?_
    refine lv_iload_n hx hb dX1_playedOut_53 rfl (lv_at hl 3 rfl) ?_
    refine r_aload_n hx hb dX1_playedOut_54 rfl (lv_at hl 4 rfl) ?_
    refine r_aload hx hb dX1_playedOut_55 (lv_at hl 5 rfl) ?_
    refine f_i (kS (As := [.int (x0 + 1), .int x1, .int x2, va_re ad x3, va_re ad x4]) (rest := []) ⟨hx, hb, hml, hown, hts⟩ (ihd (x0 + 1) x1 x2 x3 x4 σ _) (va_cwS 5 hts gX1_playedOut_X1_playedOut rfl rfl rfl (by decide +kernel) ⟨by show 2 + d + 1 ≤ 2 + (d + 1); omega, by show 8 + (11 + 11) + (46 + d * 30) ≤ 46 + (d + 1) * 30; omega⟩) hE hP h rfl hl.1 rfl (by first | exact lv_room (Nat.le_of_ble_eq_true rfl) | (refine lv_room ?_; simp [re_cat, cat_i, cat_l, cat_r])) dX1_playedOut_57 ⟨Nat.le_refl _, Nat.le_refl _⟩) hS (fun r2 s1 H locs h hP hS => ?_)
    refine lv_istore (i := 7) (lv' := [(7, .int r2), (6, .int t0), (0, .int x0), (1, .int x1), (2, .int x2), (3, va_re ad x3), (4, va_re ad x4), (5, .int x5)]) hx hb dX1_playedOut_60 hl (by decide) (by first | rfl | simp [re_cat, cat_i, cat_l, cat_r]) (fun ls hl => ?_)
    refine lv_iload hx hb dX1_playedOut_62 (lv_at hl 1 rfl) ?_
    refine lv_istore (i := 8) (lv' := [(8, .int t0), (7, .int r2), (6, .int t0), (0, .int x0), (1, .int x1), (2, .int x2), (3, va_re ad x3), (4, va_re ad x4), (5, .int x5)]) hx hb dX1_playedOut_64 hl (by decide) (by first | rfl | simp [re_cat, cat_i, cat_l, cat_r]) (fun ls hl => ?_)
    obtain ⟨n3, h⟩ := h
    exact hB66 n3 x0 x1 x2 x3 x4 x5 t0 r2 t0 s1 H locs ls h hP hS (lv_sub hl [3, 4, 5, 6, 7, 8, 2, 1, 0] rfl)
  have hB35 : ∀ (x0 : Int32) (x1 : Int32) (x2 : Int32) (x3 : Option Nat) (x4 : Option Nat) (t0 : Int32) (σ : Sg) (H : Heap) (locs : List Loc) (ls : Array Slot), p_X1_playedOut_b35 (p_X1_playedOut d) Q  x0 x1 x2 x3 x4 t0 σ → va_P D vwCl (wl bX cs ad σ) H → va_S (fAd bX ad) s.heap H locs → lv_has ls 11 [(0, .int x0), (1, .int x1), (2, .int x2), (3, va_re ad x3), (4, va_re ad x4)] → W p l e { frames := 2 + (d + 1), cells := 0, slots := 0, locals := 46 + (d + 1) * 30 } s m args below meth c H locs 0 0 (MQ below (QI bX D cs ad Q) args s 0 0 (fAd bX ad)) (F0 m 35 ls [.int t0]) := by
    intro x0 x1 x2 x3 x4 t0 σ H locs ls h hP hS hl
    unfold p_X1_playedOut_b35 at h
    refine lv_istore (i := 5) (lv' := [(5, .int t0), (0, .int x0), (1, .int x1), (2, .int x2), (3, va_re ad x3), (4, va_re ad x4)]) hx hb dX1_playedOut_35 hl (by decide) (by first | rfl | simp [re_cat, cat_i, cat_l, cat_r]) (fun ls hl => ?_)
    refine lv_iload hx hb dX1_playedOut_37 (lv_at hl 0 rfl) ?_
    refine lv_if_eq (tgt := 46) hx hb dX1_playedOut_39 (by decide) (fun c1 => ?_) (fun c1 => ?_)
    · replace h := h.1 c1
      refine lv_iconst (v := 3) hx hb dX1_playedOut_46 (by decide) ?_
      exact hB47 x0 x1 x2 x3 x4 t0 3 σ H locs ls h hP hS (lv_sub hl [1, 2, 3, 4, 5, 0] rfl)
    · replace h := h.2 c1
      refine lv_iconst (v := 0) hx hb dX1_playedOut_42 (by decide) ?_
      refine lv_goto (tgt := 47) hx hb dX1_playedOut_43 (by decide) ?_
      exact hB47 x0 x1 x2 x3 x4 t0 0 σ H locs ls h hP hS (lv_sub hl [1, 2, 3, 4, 5, 0] rfl)
  unfold p_X1_playedOut at h
  unfold p_X1_playedOut_0 at h
  refine lv_iload_n hx hb dX1_playedOut_0 rfl (lv_at hl 0 rfl) ?_
  refine lv_iload_n hx hb dX1_playedOut_1 rfl (lv_at hl 1 rfl) ?_
  refine lv_icmp_ge (tgt := 11) hx hb dX1_playedOut_2 (by decide) (fun c1 => ?_) (fun c1 => ?_)
  · replace h := h.1 c1
    exact hB11 x2 x3 x4 s0 _ _ ls h hP hS (lv_sub hl [2, 3, 4] rfl)
  · replace h := h.2 c1
    refine lv_iload_n hx hb dX1_playedOut_5 rfl (lv_at hl 0 rfl) ?_
    refine lv_bipush (v := 6) hx hb dX1_playedOut_6 (by decide) ?_
    refine lv_icmp_lt (tgt := 24) hx hb dX1_playedOut_8 (by decide) (fun c2 => ?_) (fun c2 => ?_)
    · replace h := h.1 c2
      refine lv_iload_n hx hb dX1_playedOut_24 rfl (lv_at hl 0 rfl) ?_
      refine lv_iconst (v := 2) hx hb dX1_playedOut_25 (by decide) ?_
      refine lv_irem hx hb dX1_playedOut_26 (by decide) ?_
      refine lv_if_ne (tgt := 34) hx hb dX1_playedOut_27 (by decide) (fun c3 => ?_) (fun c3 => ?_)
      · replace h := h.2 c3
        refine lv_iconst (v := 0) hx hb dX1_playedOut_34 (by decide) ?_
        exact hB35 x0 x1 x2 x3 x4 0 s0 _ _ ls h hP hS (lv_sub hl [0, 1, 2, 3, 4] rfl)
      · replace h := h.1 c3
        refine lv_iconst (v := 1) hx hb dX1_playedOut_30 (by decide) ?_
        refine lv_goto (tgt := 35) hx hb dX1_playedOut_31 (by decide) ?_
        exact hB35 x0 x1 x2 x3 x4 1 s0 _ _ ls h hP hS (lv_sub hl [0, 1, 2, 3, 4] rfl)
    · replace h := h.2 c2
      exact hB11 x2 x3 x4 s0 _ _ ls h hP hS (lv_sub hl [2, 3, 4] rfl)
def p_X3_sign (x0 : Nat) (s : Sg) (Q : Int32 → Sg → Prop) : Prop := (((gI s x0 2) ≤ (gI s x0 3) → Q 32 s) ∧ (¬ (gI s x0 2) ≤ (gI s x0 3) → p_X5_item (gT s) (gI s x0 3) s (fun r3 s2 => Q r3 s2)))
set_option maxHeartbeats 4000000 in
set_option maxRecDepth 100000 in
theorem c_X3_sign (l : Launch) (D : va_G) (cs : Cs) (ad : Nat → Nat) (x0 : Nat) (s0 : Sg) (Q : Int32 → Sg → Prop) (hk0 : kX x0 = 2) : Met l yX3_sign wsX3_sign { frames := 1, cells := 0, slots := 0, locals := 21 } (Pc0 bX D cs ad [.ref (ad x0)] s0 (p_X3_sign x0 s0 Q)) (QI bX D cs ad Q) 0 0 (fAd bX ad) := by
  refine Met.ofW (cc := cX3_sign) (maxL := 1) (ret := (some .int)) (by decide) rfl ?_
  intro p e s m args below meth c s₁ B0 hml hv
  obtain ⟨ha, hP, hE, h⟩ := hv
  have hx := B0.exec
  have hb := B0.bytes
  have hr := B0.returns
  have hts := atoms_spec (ws := wsX3_sign) B0.pre
  have hown : s.vm.findClass RX3 = some m.cls := findClass_of_methodNamed B0.named
  have hlocks := B0.notSynchronized
  have hi_X3 : ∀ w ∈ u_ws RX3 TX3 4, w ∈ wsX3_sign := by decide +kernel
  have hS : va_S (fAd bX ad) s.heap s.heap [] := va_S.rf
  have hl := lv_entry ([.ref (ad x0)]) (n := 1) (by first | exact Nat.le_of_ble_eq_true rfl | simp [lg_sl, re_cat, cat_i, cat_l, cat_r])
  rw [show entryFrame m args 1 = entryFrame m ([.ref (ad x0)] : List Value).toArray 1 by rw [ha], lg_entry_eq]
  generalize (lg_sl ([.ref (ad x0)]) ++ List.replicate (1 - (lg_sl ([.ref (ad x0)])).length) Slot.unset).toArray = ls at hl ⊢
  have hl : lv_has ls 1 [(0, .ref (ad x0))] := by first | exact hl | simpa [lv_args, re_cat, cat_i, cat_l, cat_r] using hl
  unfold p_X3_sign at h
  refine lv_aload_n hx hb dX3_sign_0 rfl (lv_at hl 0 rfl) ?_
  refine va_get (ci := 2) (v := .int (gI s0 x0 3)) (C := RX3) (T := TX3) (N := 4) hx hb hts hi_X3 hown hE.1 hP x0 (w_2 hE hk0) rfl 3 (by decide) (hts (.fieldLink RX3 26 "HemLine$Reader" "spot" "I") (by decide +kernel)) (fun _ h9 => h9) rfl dX3_sign_1 ?_
  refine lv_aload_n hx hb dX3_sign_4 rfl (lv_at hl 0 rfl) ?_
  refine va_get (ci := 2) (v := .int (gI s0 x0 2)) (C := RX3) (T := TX3) (N := 4) hx hb hts hi_X3 hown hE.1 hP x0 (w_2 hE hk0) rfl 2 (by decide) (hts (.fieldLink RX3 22 "HemLine$Reader" "size" "I") (by decide +kernel)) (fun _ h9 => h9) rfl dX3_sign_5 ?_
  refine lv_icmp_ge (tgt := 25) hx hb dX3_sign_8 (by decide) (fun c1 => ?_) (fun c1 => ?_)
  · replace h := h.1 c1
    refine lv_bipush (v := 32) hx hb dX3_sign_25 (by decide) ?_
    exact W.iret hx hb hr (fun t ht hW => ⟨⟨_, _, rfl, h, pw ht hP⟩, hS.F ht⟩) hS.2.2 dX3_sign_27
  · replace h := h.2 c1
    refine lv_aload_n hx hb dX3_sign_11 rfl (lv_at hl 0 rfl) ?_
    refine va_get (ci := 2) (v := va_re ad (gT s0)) (C := RX3) (T := TX3) (N := 4) hx hb hts hi_X3 hown hE.1 hP x0 (w_2 hE hk0) rfl 1 (by decide) (hts (.fieldLink RX3 18 "HemLine$Reader" "text" "[I") (by decide +kernel)) (fun _ h9 => h9) rfl dX3_sign_12 ?_
    refine lv_aload_n hx hb dX3_sign_15 rfl (lv_at hl 0 rfl) ?_
    refine va_get (ci := 2) (v := .int (gI s0 x0 3)) (C := RX3) (T := TX3) (N := 4) hx hb hts hi_X3 hown hE.1 hP x0 (w_2 hE hk0) rfl 3 (by decide) (hts (.fieldLink RX3 26 "HemLine$Reader" "spot" "I") (by decide +kernel)) (fun _ h9 => h9) rfl dX3_sign_16 ?_
    refine f_i (kN (As := [va_re ad (gT s0), .int (gI s0 x0 3)]) (rest := []) ⟨hx, hb, hml, hown, hts⟩ (c_X5_item l D cs ad (gT s0) (gI s0 x0 3) s0 _) ⟨va_cnB 2 hts gX3_sign_X5_item_n45 rfl rfl rfl (hE.2.2.2.2 ("HemLine$Reader", 45, ⟨"HemLine", "item", "([II)I"⟩, "HemLine") (by decide +kernel)) (hts (.initialized RX5) (by decide +kernel)) (by decide +kernel) ⟨Nat.le_of_ble_eq_true rfl, Nat.le_of_ble_eq_true rfl⟩, hts (.static yX5_item) (by decide +kernel), trivial⟩ hE hP h rfl hl.1 rfl (by first | exact lv_room (Nat.le_of_ble_eq_true rfl) | (refine lv_room ?_; simp [re_cat, cat_i, cat_l, cat_r])) dX3_sign_19 ⟨Nat.le_refl _, Nat.le_refl _⟩) hS (fun r3 s2 H locs h hP hS => ?_)
    refine lv_goto (tgt := 27) hx hb dX3_sign_22 (by decide) ?_
    exact W.iret hx hb hr (fun t ht hW => ⟨⟨_, _, rfl, h, pw ht hP⟩, hS.F ht⟩) hS.2.2 dX3_sign_27
def p_X3_readFigure (x0 : Nat) (x1 : Int32) (x2 : Int32) (s : Sg) (Q : Int32 → Sg → Prop) : Prop := p_X3_sign x0 s (fun r2 s1 => (((r2 - 48) < x1 → Q ((-9)) s1) ∧ (¬ (r2 - 48) < x1 → (((r2 - 48) ≤ x2 → Q (r2 - 48) (setI s1 x0 3 ((gI s1 x0 3) + 1))) ∧ (¬ (r2 - 48) ≤ x2 → Q ((-9)) s1)))))
set_option maxHeartbeats 4000000 in
set_option maxRecDepth 100000 in
theorem c_X3_readFigure (l : Launch) (D : va_G) (cs : Cs) (ad : Nat → Nat) (x0 : Nat) (x1 : Int32) (x2 : Int32) (s0 : Sg) (Q : Int32 → Sg → Prop) (hk0 : kX x0 = 2) : Met l yX3_readFigure wsX3_readFigure { frames := 2, cells := 0, slots := 0, locals := 41 } (Pc0 bX D cs ad [.ref (ad x0), .int x1, .int x2] s0 (p_X3_readFigure x0 x1 x2 s0 Q)) (QI bX D cs ad Q) 0 0 (fAd bX ad) := by
  refine Met.ofW (cc := cX3_readFigure) (maxL := 4) (ret := (some .int)) (by decide) rfl ?_
  intro p e s m args below meth c s₁ B0 hml hv
  obtain ⟨ha, hP, hE, h⟩ := hv
  have hx := B0.exec
  have hb := B0.bytes
  have hr := B0.returns
  have hts := atoms_spec (ws := wsX3_readFigure) B0.pre
  have hown : s.vm.findClass RX3 = some m.cls := findClass_of_methodNamed B0.named
  have hlocks := B0.notSynchronized
  have hi_X3 : ∀ w ∈ u_ws RX3 TX3 4, w ∈ wsX3_readFigure := by decide +kernel
  have hS : va_S (fAd bX ad) s.heap s.heap [] := va_S.rf
  have hl := lv_entry ([.ref (ad x0), .int x1, .int x2]) (n := 4) (by first | exact Nat.le_of_ble_eq_true rfl | simp [lg_sl, re_cat, cat_i, cat_l, cat_r])
  rw [show entryFrame m args 4 = entryFrame m ([.ref (ad x0), .int x1, .int x2] : List Value).toArray 4 by rw [ha], lg_entry_eq]
  generalize (lg_sl ([.ref (ad x0), .int x1, .int x2]) ++ List.replicate (4 - (lg_sl ([.ref (ad x0), .int x1, .int x2])).length) Slot.unset).toArray = ls at hl ⊢
  have hl : lv_has ls 4 [(0, .ref (ad x0)), (1, .int x1), (2, .int x2)] := by first | exact hl | simpa [lv_args, re_cat, cat_i, cat_l, cat_r] using hl
  unfold p_X3_readFigure at h
  refine lv_aload_n hx hb dX3_readFigure_0 rfl (lv_at hl 0 rfl) ?_
  refine f_i (kV (As := []) (rest := []) (o := some x0) rfl ⟨hx, hb, hml, hown, hts⟩ (c_X3_sign l D cs ad x0 s0 _ hk0) (cwV 0 hts gX3_readFigure_X3_sign rfl rfl rfl (by decide +kernel) ⟨Nat.le_of_ble_eq_true rfl, Nat.le_of_ble_eq_true rfl⟩) hE hP rfl rfl (w_2 hE hk0) h rfl hl.1 rfl (by first | exact lv_room (Nat.le_of_ble_eq_true rfl) | (refine lv_room ?_; simp [re_cat, cat_i, cat_l, cat_r])) dX3_readFigure_1 ⟨Nat.le_refl _, Nat.le_refl _⟩) hS (fun r2 s1 H locs h hP hS => ?_)
  refine lv_bipush (v := 48) hx hb dX3_readFigure_4 (by decide) ?_
  refine lv_isub hx hb dX3_readFigure_6 ?_
  refine lv_istore_n (i := 3) (lv' := [(3, .int (r2 - 48)), (0, .ref (ad x0)), (1, .int x1), (2, .int x2)]) hx hb dX3_readFigure_7 rfl hl (by decide) (by first | rfl | simp [re_cat, cat_i, cat_l, cat_r]) (fun ls hl => ?_)
  refine lv_iload_n hx hb dX3_readFigure_8 rfl (lv_at hl 0 rfl) ?_
  refine lv_iload_n hx hb dX3_readFigure_9 rfl (lv_at hl 2 rfl) ?_
  refine lv_icmp_lt (tgt := 18) hx hb dX3_readFigure_10 (by decide) (fun c3 => ?_) (fun c3 => ?_)
  · replace h := h.1 c3
    refine lv_bipush (v := (-9)) hx hb dX3_readFigure_18 (by decide) ?_
    exact W.iret hx hb hr (fun t ht hW => ⟨⟨_, _, rfl, h, pw ht hP⟩, hS.F ht⟩) hS.2.2 dX3_readFigure_20
  · replace h := h.2 c3
    refine lv_iload_n hx hb dX3_readFigure_13 rfl (lv_at hl 0 rfl) ?_
    refine lv_iload_n hx hb dX3_readFigure_14 rfl (lv_at hl 3 rfl) ?_
    refine lv_icmp_le (tgt := 21) hx hb dX3_readFigure_15 (by decide) (fun c4 => ?_) (fun c4 => ?_)
    · replace h := h.1 c4
      refine lv_aload_n hx hb dX3_readFigure_21 rfl (lv_at hl 1 rfl) ?_
      refine lv_dup hx hb dX3_readFigure_22 (by first | rfl | exact re_cat _ _) ?_
      refine va_get (ci := 2) (v := .int (gI s1 x0 3)) (C := RX3) (T := TX3) (N := 4) hx hb hts hi_X3 hown hE.1 hP x0 (w_2 hE hk0) rfl 3 (by decide) (hts (.fieldLink RX3 26 "HemLine$Reader" "spot" "I") (by decide +kernel)) (fun _ h9 => h9) rfl dX3_readFigure_23 ?_
      refine lv_iconst (v := 1) hx hb dX3_readFigure_26 (by decide) ?_
      refine lv_iadd hx hb dX3_readFigure_27 ?_
      refine r_put (σ' := (setI s1 x0 3 ((gI s1 x0 3) + 1))) (ci := 2) (v := .int ((gI s1 x0 3) + 1)) (ty := .int) (C := RX3) (T := TX3) (N := 4) hx hb hts hi_X3 tyX3 tyX3_ok nmX3 hown hE hP hS x0 (w_2 hE hk0) rfl 3 (by decide) (hts (.fieldLink RX3 26 "HemLine$Reader" "spot" "I") (by decide +kernel)) (fun _ h9 => h9) rfl (by decide +kernel) rfl rfl (Nat.le_of_ble_eq_true rfl) dX3_readFigure_28 (st_2_3 hE hk0 _) (fun H locs hP hS => ?_)
      refine lv_iload_n hx hb dX3_readFigure_31 rfl (lv_at hl 0 rfl) ?_
      exact W.iret hx hb hr (fun t ht hW => ⟨⟨_, _, rfl, h, pw ht hP⟩, hS.F ht⟩) hS.2.2 dX3_readFigure_32
    · replace h := h.2 c4
      refine lv_bipush (v := (-9)) hx hb dX3_readFigure_18 (by decide) ?_
      exact W.iret hx hb hr (fun t ht hW => ⟨⟨_, _, rfl, h, pw ht hP⟩, hS.F ht⟩) hS.2.2 dX3_readFigure_20
def p_X3_readLand_L23 (Q : Int32 → Sg → Prop)  : Nat → Nat → Int32 → Sg → Prop
  | 0, _, _, _ => False
  | n + 1, x0, x1, s => ((6 ≤ x1 → p_X3_readFigure x0 0 9 s (fun r3 s2 => ((r3 = ((-9)) → Q 0 s2) ∧ (¬ r3 = ((-9)) → ∃ k5, tX x0 0 = some k5 ∧ kX k5 = 0 ∧ Q 1 (setI s2 k5 1 r3))))) ∧ (¬ 6 ≤ x1 → p_X3_readFigure x0 0 9 s (fun r9 s8 => ((r9 = ((-9)) → Q 0 s8) ∧ (¬ r9 = ((-9)) → ∃ k11, tX x0 0 = some k11 ∧ kX k11 = 0 ∧ p_X5_setItem (tX k11 4) x1 r9 s8 (fun s14 => p_X3_readLand_L23 Q  n x0 (x1 + 1) s14))))))
def p_X3_readLand (x0 : Nat) (s : Sg) (Q : Int32 → Sg → Prop) : Prop := p_X3_sign x0 s (fun r2 s1 => ((r2 = 100 → (∃ n4, p_X3_readLand_L23 Q  n4 x0 0 (setI s1 x0 3 ((gI s1 x0 3) + 1)))) ∧ (¬ r2 = 100 → Q 0 s1)))
set_option maxHeartbeats 4000000 in
set_option maxRecDepth 100000 in
theorem c_X3_readLand (l : Launch) (D : va_G) (cs : Cs) (ad : Nat → Nat) (x0 : Nat) (s0 : Sg) (Q : Int32 → Sg → Prop) (hk0 : kX x0 = 2) : Met l yX3_readLand wsX3_readLand { frames := 3, cells := 0, slots := 0, locals := 64 } (Pc0 bX D cs ad [.ref (ad x0)] s0 (p_X3_readLand x0 s0 Q)) (QI bX D cs ad Q) 0 0 (fAd bX ad) := by
  refine Met.ofW (cc := cX3_readLand) (maxL := 3) (ret := (some .boolean)) (by decide) rfl ?_
  intro p e s m args below meth c s₁ B0 hml hv
  obtain ⟨ha, hP, hE, h⟩ := hv
  have hx := B0.exec
  have hb := B0.bytes
  have hr := B0.returns
  have hts := atoms_spec (ws := wsX3_readLand) B0.pre
  have hown : s.vm.findClass RX3 = some m.cls := findClass_of_methodNamed B0.named
  have hlocks := B0.notSynchronized
  have hi_X0 : ∀ w ∈ u_ws RX0 TX0 15, w ∈ wsX3_readLand := by decide +kernel
  have hi_X3 : ∀ w ∈ u_ws RX3 TX3 4, w ∈ wsX3_readLand := by decide +kernel
  have hS : va_S (fAd bX ad) s.heap s.heap [] := va_S.rf
  have hl := lv_entry ([.ref (ad x0)]) (n := 3) (by first | exact Nat.le_of_ble_eq_true rfl | simp [lg_sl, re_cat, cat_i, cat_l, cat_r])
  rw [show entryFrame m args 3 = entryFrame m ([.ref (ad x0)] : List Value).toArray 3 by rw [ha], lg_entry_eq]
  generalize (lg_sl ([.ref (ad x0)]) ++ List.replicate (3 - (lg_sl ([.ref (ad x0)])).length) Slot.unset).toArray = ls at hl ⊢
  have hl : lv_has ls 3 [(0, .ref (ad x0))] := by first | exact hl | simpa [lv_args, re_cat, cat_i, cat_l, cat_r] using hl
  have hB23 : ∀ (n23 : Nat) (x1 : Int32) (σ : Sg) (H : Heap) (locs : List Loc) (ls : Array Slot), p_X3_readLand_L23 Q  n23 x0 x1 σ → va_P D vwCl (wl bX cs ad σ) H → va_S (fAd bX ad) s.heap H locs → lv_has ls 3 [(0, .ref (ad x0)), (1, .int x1)] → W p l e { frames := 3, cells := 0, slots := 0, locals := 64 } s m args below meth c H locs 0 0 (MQ below (QI bX D cs ad Q) args s 0 0 (fAd bX ad)) (F0 m 23 ls []) := by
    intro n23
    induction n23 with
    | zero =>
      intro x1 σ H locs ls h
      exact h.elim
    | succ n23 ih =>
      have hK23 := ih
      intro x1 σ H locs ls h hP hS hl
      rw [p_X3_readLand_L23] at h
      refine lv_iload_n hx hb dX3_readLand_23 rfl (lv_at hl 1 rfl) ?_
      refine lv_bipush (v := 6) hx hb dX3_readLand_24 (by decide) ?_
      refine lv_icmp_ge (tgt := 63) hx hb dX3_readLand_26 (by decide) (fun c1 => ?_) (fun c1 => ?_)
      · replace h := h.1 c1
        refine lv_aload_n hx hb dX3_readLand_63 rfl (lv_at hl 0 rfl) ?_
        refine lv_iconst (v := 0) hx hb dX3_readLand_64 (by decide) ?_
        refine lv_bipush (v := 9) hx hb dX3_readLand_65 (by decide) ?_
        refine f_i (kV (As := [.int 0, .int 9]) (rest := []) (o := some x0) rfl ⟨hx, hb, hml, hown, hts⟩ (c_X3_readFigure l D cs ad x0 0 9 σ _ hk0) (cwV 2 hts gX3_readLand_X3_readFigure rfl rfl rfl (by decide +kernel) ⟨Nat.le_of_ble_eq_true rfl, Nat.le_of_ble_eq_true rfl⟩) hE hP rfl rfl (w_2 hE hk0) h rfl hl.1 rfl (by first | exact lv_room (Nat.le_of_ble_eq_true rfl) | (refine lv_room ?_; simp [re_cat, cat_i, cat_l, cat_r])) dX3_readLand_67 ⟨Nat.le_refl _, Nat.le_refl _⟩) hS (fun r3 s2 H locs h hP hS => ?_)
        refine lv_istore_n (i := 1) (lv' := [(1, .int r3), (0, .ref (ad x0))]) hx hb dX3_readLand_70 rfl hl (by decide) (by first | rfl | simp [re_cat, cat_i, cat_l, cat_r]) (fun ls hl => ?_)
        refine lv_iload_n hx hb dX3_readLand_71 rfl (lv_at hl 0 rfl) ?_
        refine lv_bipush (v := (-9)) hx hb dX3_readLand_72 (by decide) ?_
        refine lv_icmp_ne (tgt := 79) hx hb dX3_readLand_74 (by decide) (fun c4 => ?_) (fun c4 => ?_)
        · replace h := h.2 c4
          refine lv_aload_n hx hb dX3_readLand_79 rfl (lv_at hl 1 rfl) ?_
          refine va_get (ci := 2) (v := va_re ad (tX x0 0)) (C := RX3) (T := TX3) (N := 4) hx hb hts hi_X3 hown hE.1 hP x0 (w_2 hE hk0) rfl 0 (by decide) (hts (.fieldLink RX3 12 "HemLine$Reader" "draft" "LHemLine$Delta;") (by decide +kernel)) (fun _ h9 => h9) rfl dX3_readLand_80 ?_
          refine lv_iload_n hx hb dX3_readLand_83 rfl (lv_at hl 0 rfl) ?_
          obtain ⟨k5, e6, q7, h⟩ := h
          refine r_known2 (ad := ad) e6 ?_
          refine r_putN (σ' := (setI s2 k5 1 r3)) (ci := 0) (v := .int r3) (ty := .int) (C := RX0) (T := TX0) (N := 15) hx hb hts hi_X0 tyX0 tyX0_ok nmX0 hown hE hP hS k5 (w_0 hE q7) rfl 1 (by decide) ((hE.2.2.2.1 ("HemLine$Reader", 64, "HemLine$Delta", "earth", "I", "HemLine") (by decide +kernel)).use rfl) (fun _ h9 => h9) rfl (by decide +kernel) rfl rfl (Nat.le_of_ble_eq_true rfl) dX3_readLand_84 (st_0_1 hE q7 _) (fun H locs hP hS => ?_)
          refine lv_iconst (v := 1) hx hb dX3_readLand_87 (by decide) ?_
          exact W.zret hx hb hr rfl (fun t ht hW => ⟨⟨_, _, rfl, h, pw ht hP⟩, hS.F ht⟩) hS.2.2 dX3_readLand_88
        · replace h := h.1 c4
          refine lv_iconst (v := 0) hx hb dX3_readLand_77 (by decide) ?_
          exact W.zret hx hb hr rfl (fun t ht hW => ⟨⟨_, _, rfl, h, pw ht hP⟩, hS.F ht⟩) hS.2.2 dX3_readLand_78
      · replace h := h.2 c1
        refine lv_aload_n hx hb dX3_readLand_29 rfl (lv_at hl 0 rfl) ?_
        refine lv_iconst (v := 0) hx hb dX3_readLand_30 (by decide) ?_
        refine lv_bipush (v := 9) hx hb dX3_readLand_31 (by decide) ?_
        refine f_i (kV (As := [.int 0, .int 9]) (rest := []) (o := some x0) rfl ⟨hx, hb, hml, hown, hts⟩ (c_X3_readFigure l D cs ad x0 0 9 σ _ hk0) (cwV 2 hts gX3_readLand_X3_readFigure rfl rfl rfl (by decide +kernel) ⟨Nat.le_of_ble_eq_true rfl, Nat.le_of_ble_eq_true rfl⟩) hE hP rfl rfl (w_2 hE hk0) h rfl hl.1 rfl (by first | exact lv_room (Nat.le_of_ble_eq_true rfl) | (refine lv_room ?_; simp [re_cat, cat_i, cat_l, cat_r])) dX3_readLand_33 ⟨Nat.le_refl _, Nat.le_refl _⟩) hS (fun r9 s8 H locs h hP hS => ?_)
        refine lv_istore_n (i := 2) (lv' := [(2, .int r9), (0, .ref (ad x0)), (1, .int x1)]) hx hb dX3_readLand_36 rfl hl (by decide) (by first | rfl | simp [re_cat, cat_i, cat_l, cat_r]) (fun ls hl => ?_)
        refine lv_iload_n hx hb dX3_readLand_37 rfl (lv_at hl 0 rfl) ?_
        refine lv_bipush (v := (-9)) hx hb dX3_readLand_38 (by decide) ?_
        refine lv_icmp_ne (tgt := 45) hx hb dX3_readLand_40 (by decide) (fun c10 => ?_) (fun c10 => ?_)
        · replace h := h.2 c10
          refine lv_aload_n hx hb dX3_readLand_45 rfl (lv_at hl 1 rfl) ?_
          refine va_get (ci := 2) (v := va_re ad (tX x0 0)) (C := RX3) (T := TX3) (N := 4) hx hb hts hi_X3 hown hE.1 hP x0 (w_2 hE hk0) rfl 0 (by decide) (hts (.fieldLink RX3 12 "HemLine$Reader" "draft" "LHemLine$Delta;") (by decide +kernel)) (fun _ h9 => h9) rfl dX3_readLand_46 ?_
          obtain ⟨k11, e12, q13, h⟩ := h
          refine r_known (ad := ad) e12 ?_
          refine va_getN (ci := 0) (v := va_re ad (tX k11 4)) (C := RX0) (T := TX0) (N := 15) hx hb hts hi_X0 hown hE.1 hP k11 (w_0 hE q13) rfl 4 (by decide) ((hE.2.2.2.1 ("HemLine$Reader", 57, "HemLine$Delta", "ground", "[I", "HemLine") (by decide +kernel)).use rfl) (fun _ h9 => h9) rfl dX3_readLand_49 ?_
          refine lv_iload_n hx hb dX3_readLand_52 rfl (lv_at hl 2 rfl) ?_
          refine lv_iload_n hx hb dX3_readLand_53 rfl (lv_at hl 0 rfl) ?_
          refine f_v (kN (As := [va_re ad (tX k11 4), .int x1, .int r9]) (rest := []) ⟨hx, hb, hml, hown, hts⟩ (c_X5_setItem l D cs ad (tX k11 4) x1 r9 s8 _) ⟨va_cnB 3 hts gX3_readLand_X5_setItem_n60 rfl rfl rfl (hE.2.2.2.2 ("HemLine$Reader", 60, ⟨"HemLine", "setItem", "([III)V"⟩, "HemLine") (by decide +kernel)) (hts (.initialized RX5) (by decide +kernel)) (by decide +kernel) ⟨Nat.le_of_ble_eq_true rfl, Nat.le_of_ble_eq_true rfl⟩, hts (.static yX5_setItem) (by decide +kernel), trivial⟩ hE hP h rfl hl.1 rfl (by first | exact lv_room (Nat.le_of_ble_eq_true rfl) | (refine lv_room ?_; simp [re_cat, cat_i, cat_l, cat_r])) dX3_readLand_54 ⟨Nat.le_refl _, Nat.le_refl _⟩) hS (fun s14 H locs h hP hS => ?_)
          refine lv_iinc (v := x1 + 1) (lv' := [(1, .int (x1 + 1)), (2, .int r9), (0, .ref (ad x0))]) hx hb dX3_readLand_57 hl (k := 2) rfl rfl (by decide) (by first | rfl | simp [re_cat, cat_i, cat_l, cat_r]) (fun ls hl => ?_)
          refine lv_goto (tgt := 23) hx hb dX3_readLand_60 (by decide) ?_
          exact ih (x1 + 1) s14 H locs ls h hP hS (lv_sub hl [2, 0] rfl)
        · replace h := h.1 c10
          refine lv_iconst (v := 0) hx hb dX3_readLand_43 (by decide) ?_
          exact W.zret hx hb hr rfl (fun t ht hW => ⟨⟨_, _, rfl, h, pw ht hP⟩, hS.F ht⟩) hS.2.2 dX3_readLand_44
  unfold p_X3_readLand at h
  refine lv_aload_n hx hb dX3_readLand_0 rfl (lv_at hl 0 rfl) ?_
  refine f_i (kV (As := []) (rest := []) (o := some x0) rfl ⟨hx, hb, hml, hown, hts⟩ (c_X3_sign l D cs ad x0 s0 _ hk0) (cwV 0 hts gX3_readLand_X3_sign rfl rfl rfl (by decide +kernel) ⟨Nat.le_of_ble_eq_true rfl, Nat.le_of_ble_eq_true rfl⟩) hE hP rfl rfl (w_2 hE hk0) h rfl hl.1 rfl (by first | exact lv_room (Nat.le_of_ble_eq_true rfl) | (refine lv_room ?_; simp [re_cat, cat_i, cat_l, cat_r])) dX3_readLand_1 ⟨Nat.le_refl _, Nat.le_refl _⟩) hS (fun r2 s1 H locs h hP hS => ?_)
  refine lv_bipush (v := 100) hx hb dX3_readLand_4 (by decide) ?_
  refine lv_icmp_eq (tgt := 11) hx hb dX3_readLand_6 (by decide) (fun c3 => ?_) (fun c3 => ?_)
  · replace h := h.1 c3
    refine lv_aload_n hx hb dX3_readLand_11 rfl (lv_at hl 0 rfl) ?_
    refine lv_dup hx hb dX3_readLand_12 (by first | rfl | exact re_cat _ _) ?_
    refine va_get (ci := 2) (v := .int (gI s1 x0 3)) (C := RX3) (T := TX3) (N := 4) hx hb hts hi_X3 hown hE.1 hP x0 (w_2 hE hk0) rfl 3 (by decide) (hts (.fieldLink RX3 26 "HemLine$Reader" "spot" "I") (by decide +kernel)) (fun _ h9 => h9) rfl dX3_readLand_13 ?_
    refine lv_iconst (v := 1) hx hb dX3_readLand_16 (by decide) ?_
    refine lv_iadd hx hb dX3_readLand_17 ?_
    refine r_put (σ' := (setI s1 x0 3 ((gI s1 x0 3) + 1))) (ci := 2) (v := .int ((gI s1 x0 3) + 1)) (ty := .int) (C := RX3) (T := TX3) (N := 4) hx hb hts hi_X3 tyX3 tyX3_ok nmX3 hown hE hP hS x0 (w_2 hE hk0) rfl 3 (by decide) (hts (.fieldLink RX3 26 "HemLine$Reader" "spot" "I") (by decide +kernel)) (fun _ h9 => h9) rfl (by decide +kernel) rfl rfl (Nat.le_of_ble_eq_true rfl) dX3_readLand_18 (st_2_3 hE hk0 _) (fun H locs hP hS => ?_)
    refine lv_iconst (v := 0) hx hb dX3_readLand_21 (by decide) ?_
    refine lv_istore_n (i := 1) (lv' := [(1, .int 0), (0, .ref (ad x0))]) hx hb dX3_readLand_22 rfl hl (by decide) (by first | rfl | simp [re_cat, cat_i, cat_l, cat_r]) (fun ls hl => ?_)
    obtain ⟨n4, h⟩ := h
    exact hB23 n4 0 (setI s1 x0 3 ((gI s1 x0 3) + 1)) _ _ ls h hP hS (lv_sub hl [1, 0] rfl)
  · replace h := h.2 c3
    refine lv_iconst (v := 0) hx hb dX3_readLand_9 (by decide) ?_
    exact W.zret hx hb hr rfl (fun t ht hW => ⟨⟨_, _, rfl, h, pw ht hP⟩, hS.F ht⟩) hS.2.2 dX3_readLand_10
def p_X3_readWoman_b69 (Q : Int32 → Sg → Prop)  (x0 : Nat) (x1 : Int32) (x2 : Int32) (x3 : Int32) (t0 : Int32) (s : Sg) : Prop := ((t0 = ((-9)) → Q 0 s) ∧ (¬ t0 = ((-9)) → ∃ k2, tX x0 0 = some k2 ∧ kX k2 = 0 ∧ p_X0_addWoman k2 x1 x2 x3 t0 s (fun s5 => Q 1 s5)))
def p_X3_readWoman_b51 (Q : Int32 → Sg → Prop)  (x0 : Nat) (x1 : Int32) (x2 : Int32) (t0 : Int32) (s : Sg) : Prop := ((t0 = ((-9)) → p_X3_readWoman_b69 Q  x0 x1 x2 t0 ((-9)) s) ∧ (¬ t0 = ((-9)) → p_X3_readFigure x0 0 3 s (fun r3 s2 => p_X3_readWoman_b69 Q  x0 x1 x2 t0 r3 s2)))
def p_X3_readWoman (x0 : Nat) (s : Sg) (Q : Int32 → Sg → Prop) : Prop := p_X3_sign x0 s (fun r2 s1 => p_X2_byLetter r2 s1 (fun r4 s3 => ((r4 = ((-9)) → Q 0 s3) ∧ (¬ r4 = ((-9)) → p_X3_readFigure x0 0 5 (setI s3 x0 3 ((gI s3 x0 3) + 1)) (fun r7 s6 => ((r7 = ((-9)) → p_X3_readWoman_b51 Q  x0 r4 r7 ((-9)) s6) ∧ (¬ r7 = ((-9)) → p_X3_readFigure x0 1 9 s6 (fun r10 s9 => p_X3_readWoman_b51 Q  x0 r4 r7 r10 s9))))))))
set_option maxHeartbeats 4000000 in
set_option maxRecDepth 100000 in
theorem c_X3_readWoman (l : Launch) (D : va_G) (cs : Cs) (ad : Nat → Nat) (x0 : Nat) (s0 : Sg) (Q : Int32 → Sg → Prop) (hk0 : kX x0 = 2) : Met l yX3_readWoman wsX3_readWoman { frames := 3, cells := 0, slots := 0, locals := 64 } (Pc0 bX D cs ad [.ref (ad x0)] s0 (p_X3_readWoman x0 s0 Q)) (QI bX D cs ad Q) 0 0 (fAd bX ad) := by
  refine Met.ofW (cc := cX3_readWoman) (maxL := 5) (ret := (some .boolean)) (by decide) rfl ?_
  intro p e s m args below meth c s₁ B0 hml hv
  obtain ⟨ha, hP, hE, h⟩ := hv
  have hx := B0.exec
  have hb := B0.bytes
  have hr := B0.returns
  have hts := atoms_spec (ws := wsX3_readWoman) B0.pre
  have hown : s.vm.findClass RX3 = some m.cls := findClass_of_methodNamed B0.named
  have hlocks := B0.notSynchronized
  have hi_X3 : ∀ w ∈ u_ws RX3 TX3 4, w ∈ wsX3_readWoman := by decide +kernel
  have hS : va_S (fAd bX ad) s.heap s.heap [] := va_S.rf
  have hl := lv_entry ([.ref (ad x0)]) (n := 5) (by first | exact Nat.le_of_ble_eq_true rfl | simp [lg_sl, re_cat, cat_i, cat_l, cat_r])
  rw [show entryFrame m args 5 = entryFrame m ([.ref (ad x0)] : List Value).toArray 5 by rw [ha], lg_entry_eq]
  generalize (lg_sl ([.ref (ad x0)]) ++ List.replicate (5 - (lg_sl ([.ref (ad x0)])).length) Slot.unset).toArray = ls at hl ⊢
  have hl : lv_has ls 5 [(0, .ref (ad x0))] := by first | exact hl | simpa [lv_args, re_cat, cat_i, cat_l, cat_r] using hl
  have hB69 : ∀ (x1 : Int32) (x2 : Int32) (x3 : Int32) (t0 : Int32) (σ : Sg) (H : Heap) (locs : List Loc) (ls : Array Slot), p_X3_readWoman_b69 Q  x0 x1 x2 x3 t0 σ → va_P D vwCl (wl bX cs ad σ) H → va_S (fAd bX ad) s.heap H locs → lv_has ls 5 [(0, .ref (ad x0)), (1, .int x1), (2, .int x2), (3, .int x3)] → W p l e { frames := 3, cells := 0, slots := 0, locals := 64 } s m args below meth c H locs 0 0 (MQ below (QI bX D cs ad Q) args s 0 0 (fAd bX ad)) (F0 m 69 ls [.int t0]) := by
    intro x1 x2 x3 t0 σ H locs ls h hP hS hl
    unfold p_X3_readWoman_b69 at h
    refine lv_istore (i := 4) (lv' := [(4, .int t0), (0, .ref (ad x0)), (1, .int x1), (2, .int x2), (3, .int x3)]) hx hb dX3_readWoman_69 hl (by decide) (by first | rfl | simp [re_cat, cat_i, cat_l, cat_r]) (fun ls hl => ?_)
    refine lv_iload hx hb dX3_readWoman_71 (lv_at hl 0 rfl) ?_
    refine lv_bipush (v := (-9)) hx hb dX3_readWoman_73 (by decide) ?_
    refine lv_icmp_ne (tgt := 80) hx hb dX3_readWoman_75 (by decide) (fun c1 => ?_) (fun c1 => ?_)
    · replace h := h.2 c1
      refine lv_aload_n hx hb dX3_readWoman_80 rfl (lv_at hl 1 rfl) ?_
      refine va_get (ci := 2) (v := va_re ad (tX x0 0)) (C := RX3) (T := TX3) (N := 4) hx hb hts hi_X3 hown hE.1 hP x0 (w_2 hE hk0) rfl 0 (by decide) (hts (.fieldLink RX3 12 "HemLine$Reader" "draft" "LHemLine$Delta;") (by decide +kernel)) (fun _ h9 => h9) rfl dX3_readWoman_81 ?_
      refine lv_iload_n hx hb dX3_readWoman_84 rfl (lv_at hl 2 rfl) ?_
      refine lv_iload_n hx hb dX3_readWoman_85 rfl (lv_at hl 3 rfl) ?_
      refine lv_iload_n hx hb dX3_readWoman_86 rfl (lv_at hl 4 rfl) ?_
      refine lv_iload hx hb dX3_readWoman_87 (lv_at hl 0 rfl) ?_
      obtain ⟨k2, e3, q4, h⟩ := h
      refine f_v (kV (As := [.int x1, .int x2, .int x3, .int t0]) (rest := []) e3 ⟨hx, hb, hml, hown, hts⟩ (c_X0_addWoman l D cs ad k2 x1 x2 x3 t0 σ _ q4) (cwV 4 hts gX3_readWoman_X0_addWoman rfl rfl rfl (by decide +kernel) ⟨Nat.le_of_ble_eq_true rfl, Nat.le_of_ble_eq_true rfl⟩) hE hP rfl rfl (w_0 hE q4) h rfl hl.1 rfl (by first | exact lv_room (Nat.le_of_ble_eq_true rfl) | (refine lv_room ?_; simp [re_cat, cat_i, cat_l, cat_r])) dX3_readWoman_89 ⟨Nat.le_refl _, Nat.le_refl _⟩) hS (fun s5 H locs h hP hS => ?_)
      refine lv_iconst (v := 1) hx hb dX3_readWoman_92 (by decide) ?_
      exact W.zret hx hb hr rfl (fun t ht hW => ⟨⟨_, _, rfl, h, pw ht hP⟩, hS.F ht⟩) hS.2.2 dX3_readWoman_93
    · replace h := h.1 c1
      refine lv_iconst (v := 0) hx hb dX3_readWoman_78 (by decide) ?_
      exact W.zret hx hb hr rfl (fun t ht hW => ⟨⟨_, _, rfl, h, pw ht hP⟩, hS.F ht⟩) hS.2.2 dX3_readWoman_79
  have hB51 : ∀ (x1 : Int32) (x2 : Int32) (t0 : Int32) (σ : Sg) (H : Heap) (locs : List Loc) (ls : Array Slot), p_X3_readWoman_b51 Q  x0 x1 x2 t0 σ → va_P D vwCl (wl bX cs ad σ) H → va_S (fAd bX ad) s.heap H locs → lv_has ls 5 [(0, .ref (ad x0)), (1, .int x1), (2, .int x2)] → W p l e { frames := 3, cells := 0, slots := 0, locals := 64 } s m args below meth c H locs 0 0 (MQ below (QI bX D cs ad Q) args s 0 0 (fAd bX ad)) (F0 m 51 ls [.int t0]) := by
    intro x1 x2 t0 σ H locs ls h hP hS hl
    unfold p_X3_readWoman_b51 at h
    refine lv_istore_n (i := 3) (lv' := [(3, .int t0), (0, .ref (ad x0)), (1, .int x1), (2, .int x2)]) hx hb dX3_readWoman_51 rfl hl (by decide) (by first | rfl | simp [re_cat, cat_i, cat_l, cat_r]) (fun ls hl => ?_)
    refine lv_iload_n hx hb dX3_readWoman_52 rfl (lv_at hl 0 rfl) ?_
    refine lv_bipush (v := (-9)) hx hb dX3_readWoman_53 (by decide) ?_
    refine lv_icmp_ne (tgt := 63) hx hb dX3_readWoman_55 (by decide) (fun c1 => ?_) (fun c1 => ?_)
    · replace h := h.2 c1
      refine lv_aload_n hx hb dX3_readWoman_63 rfl (lv_at hl 1 rfl) ?_
      refine lv_iconst (v := 0) hx hb dX3_readWoman_64 (by decide) ?_
      refine lv_iconst (v := 3) hx hb dX3_readWoman_65 (by decide) ?_
      refine f_i (kV (As := [.int 0, .int 3]) (rest := []) (o := some x0) rfl ⟨hx, hb, hml, hown, hts⟩ (c_X3_readFigure l D cs ad x0 0 3 σ _ hk0) (cwV 2 hts gX3_readWoman_X3_readFigure rfl rfl rfl (by decide +kernel) ⟨Nat.le_of_ble_eq_true rfl, Nat.le_of_ble_eq_true rfl⟩) hE hP rfl rfl (w_2 hE hk0) h rfl hl.1 rfl (by first | exact lv_room (Nat.le_of_ble_eq_true rfl) | (refine lv_room ?_; simp [re_cat, cat_i, cat_l, cat_r])) dX3_readWoman_66 ⟨Nat.le_refl _, Nat.le_refl _⟩) hS (fun r3 s2 H locs h hP hS => ?_)
      exact hB69 x1 x2 t0 r3 s2 H locs ls h hP hS (lv_sub hl [1, 2, 3, 0] rfl)
    · replace h := h.1 c1
      refine lv_bipush (v := (-9)) hx hb dX3_readWoman_58 (by decide) ?_
      refine lv_goto (tgt := 69) hx hb dX3_readWoman_60 (by decide) ?_
      exact hB69 x1 x2 t0 ((-9)) σ H locs ls h hP hS (lv_sub hl [1, 2, 3, 0] rfl)
  unfold p_X3_readWoman at h
  refine lv_aload_n hx hb dX3_readWoman_0 rfl (lv_at hl 0 rfl) ?_
  refine f_i (kV (As := []) (rest := []) (o := some x0) rfl ⟨hx, hb, hml, hown, hts⟩ (c_X3_sign l D cs ad x0 s0 _ hk0) (cwV 0 hts gX3_readWoman_X3_sign rfl rfl rfl (by decide +kernel) ⟨Nat.le_of_ble_eq_true rfl, Nat.le_of_ble_eq_true rfl⟩) hE hP rfl rfl (w_2 hE hk0) h rfl hl.1 rfl (by first | exact lv_room (Nat.le_of_ble_eq_true rfl) | (refine lv_room ?_; simp [re_cat, cat_i, cat_l, cat_r])) dX3_readWoman_1 ⟨Nat.le_refl _, Nat.le_refl _⟩) hS (fun r2 s1 H locs h hP hS => ?_)
  refine f_i (kS (As := [.int r2]) (rest := []) ⟨hx, hb, hml, hown, hts⟩ (c_X2_byLetter l D cs ad r2 s1 _) (va_cwS 1 hts gX3_readWoman_X2_byLetter rfl rfl rfl (by decide +kernel) ⟨Nat.le_of_ble_eq_true rfl, Nat.le_of_ble_eq_true rfl⟩) hE hP h rfl hl.1 rfl (by first | exact lv_room (Nat.le_of_ble_eq_true rfl) | (refine lv_room ?_; simp [re_cat, cat_i, cat_l, cat_r])) dX3_readWoman_4 ⟨Nat.le_refl _, Nat.le_refl _⟩) hS (fun r4 s3 H locs h hP hS => ?_)
  refine lv_istore_n (i := 1) (lv' := [(1, .int r4), (0, .ref (ad x0))]) hx hb dX3_readWoman_7 rfl hl (by decide) (by first | rfl | simp [re_cat, cat_i, cat_l, cat_r]) (fun ls hl => ?_)
  refine lv_iload_n hx hb dX3_readWoman_8 rfl (lv_at hl 0 rfl) ?_
  refine lv_bipush (v := (-9)) hx hb dX3_readWoman_9 (by decide) ?_
  refine lv_icmp_ne (tgt := 16) hx hb dX3_readWoman_11 (by decide) (fun c5 => ?_) (fun c5 => ?_)
  · replace h := h.2 c5
    refine lv_aload_n hx hb dX3_readWoman_16 rfl (lv_at hl 1 rfl) ?_
    refine lv_dup hx hb dX3_readWoman_17 (by first | rfl | exact re_cat _ _) ?_
    refine va_get (ci := 2) (v := .int (gI s3 x0 3)) (C := RX3) (T := TX3) (N := 4) hx hb hts hi_X3 hown hE.1 hP x0 (w_2 hE hk0) rfl 3 (by decide) (hts (.fieldLink RX3 26 "HemLine$Reader" "spot" "I") (by decide +kernel)) (fun _ h9 => h9) rfl dX3_readWoman_18 ?_
    refine lv_iconst (v := 1) hx hb dX3_readWoman_21 (by decide) ?_
    refine lv_iadd hx hb dX3_readWoman_22 ?_
    refine r_put (σ' := (setI s3 x0 3 ((gI s3 x0 3) + 1))) (ci := 2) (v := .int ((gI s3 x0 3) + 1)) (ty := .int) (C := RX3) (T := TX3) (N := 4) hx hb hts hi_X3 tyX3 tyX3_ok nmX3 hown hE hP hS x0 (w_2 hE hk0) rfl 3 (by decide) (hts (.fieldLink RX3 26 "HemLine$Reader" "spot" "I") (by decide +kernel)) (fun _ h9 => h9) rfl (by decide +kernel) rfl rfl (Nat.le_of_ble_eq_true rfl) dX3_readWoman_23 (st_2_3 hE hk0 _) (fun H locs hP hS => ?_)
    refine lv_aload_n hx hb dX3_readWoman_26 rfl (lv_at hl 1 rfl) ?_
    refine lv_iconst (v := 0) hx hb dX3_readWoman_27 (by decide) ?_
    refine lv_iconst (v := 5) hx hb dX3_readWoman_28 (by decide) ?_
    refine f_i (kV (As := [.int 0, .int 5]) (rest := []) (o := some x0) rfl ⟨hx, hb, hml, hown, hts⟩ (c_X3_readFigure l D cs ad x0 0 5 (setI s3 x0 3 ((gI s3 x0 3) + 1)) _ hk0) (cwV 2 hts gX3_readWoman_X3_readFigure rfl rfl rfl (by decide +kernel) ⟨Nat.le_of_ble_eq_true rfl, Nat.le_of_ble_eq_true rfl⟩) hE hP rfl rfl (w_2 hE hk0) h rfl hl.1 rfl (by first | exact lv_room (Nat.le_of_ble_eq_true rfl) | (refine lv_room ?_; simp [re_cat, cat_i, cat_l, cat_r])) dX3_readWoman_29 ⟨Nat.le_refl _, Nat.le_refl _⟩) hS (fun r7 s6 H locs h hP hS => ?_)
    refine lv_istore_n (i := 2) (lv' := [(2, .int r7), (1, .int r4), (0, .ref (ad x0))]) hx hb dX3_readWoman_32 rfl hl (by decide) (by first | rfl | simp [re_cat, cat_i, cat_l, cat_r]) (fun ls hl => ?_)
    refine lv_iload_n hx hb dX3_readWoman_33 rfl (lv_at hl 0 rfl) ?_
    refine lv_bipush (v := (-9)) hx hb dX3_readWoman_34 (by decide) ?_
    refine lv_icmp_ne (tgt := 44) hx hb dX3_readWoman_36 (by decide) (fun c8 => ?_) (fun c8 => ?_)
    · replace h := h.2 c8
      refine lv_aload_n hx hb dX3_readWoman_44 rfl (lv_at hl 2 rfl) ?_
      refine lv_iconst (v := 1) hx hb dX3_readWoman_45 (by decide) ?_
      refine lv_bipush (v := 9) hx hb dX3_readWoman_46 (by decide) ?_
      refine f_i (kV (As := [.int 1, .int 9]) (rest := []) (o := some x0) rfl ⟨hx, hb, hml, hown, hts⟩ (c_X3_readFigure l D cs ad x0 1 9 s6 _ hk0) (cwV 2 hts gX3_readWoman_X3_readFigure rfl rfl rfl (by decide +kernel) ⟨Nat.le_of_ble_eq_true rfl, Nat.le_of_ble_eq_true rfl⟩) hE hP rfl rfl (w_2 hE hk0) h rfl hl.1 rfl (by first | exact lv_room (Nat.le_of_ble_eq_true rfl) | (refine lv_room ?_; simp [re_cat, cat_i, cat_l, cat_r])) dX3_readWoman_48 ⟨Nat.le_refl _, Nat.le_refl _⟩) hS (fun r10 s9 H locs h hP hS => ?_)
      exact hB51 r4 r7 r10 s9 _ _ ls h hP hS (lv_sub hl [2, 1, 0] rfl)
    · replace h := h.1 c8
      refine lv_bipush (v := (-9)) hx hb dX3_readWoman_39 (by decide) ?_
      refine lv_goto (tgt := 51) hx hb dX3_readWoman_41 (by decide) ?_
      exact hB51 r4 r7 ((-9)) s6 _ _ ls h hP hS (lv_sub hl [2, 1, 0] rfl)
  · replace h := h.1 c5
    refine lv_iconst (v := 0) hx hb dX3_readWoman_14 (by decide) ?_
    exact W.zret hx hb hr rfl (fun t ht hW => ⟨⟨_, _, rfl, h, pw ht hP⟩, hS.F ht⟩) hS.2.2 dX3_readWoman_15
def p_X3_skipBlanks_L2 (Q : Sg → Prop)  : Nat → Nat → Int32 → Sg → Prop
  | 0, _, _, _ => False
  | n + 1, x0, x1, s => ((60 ≤ x1 → Q s) ∧ (¬ 60 ≤ x1 → (((gI s x0 2) ≤ (gI s x0 3) → Q s) ∧ (¬ (gI s x0 2) ≤ (gI s x0 3) → p_X3_sign x0 s (fun r4 s3 => ((r4 = 32 → p_X3_skipBlanks_L2 Q  n x0 (x1 + 1) (setI s3 x0 3 ((gI s3 x0 3) + 1))) ∧ (¬ r4 = 32 → Q s3)))))))
def p_X3_skipBlanks (x0 : Nat) (s : Sg) (Q : Sg → Prop) : Prop := (∃ n1, p_X3_skipBlanks_L2 Q  n1 x0 0 s)
set_option maxHeartbeats 4000000 in
set_option maxRecDepth 100000 in
theorem c_X3_skipBlanks (l : Launch) (D : va_G) (cs : Cs) (ad : Nat → Nat) (x0 : Nat) (s0 : Sg) (Q : Sg → Prop) (hk0 : kX x0 = 2) : Met l yX3_skipBlanks wsX3_skipBlanks { frames := 2, cells := 0, slots := 0, locals := 41 } (Pc0 bX D cs ad [.ref (ad x0)] s0 (p_X3_skipBlanks x0 s0 Q)) (QV bX D cs ad Q) 0 0 (fAd bX ad) := by
  refine Met.ofW (cc := cX3_skipBlanks) (maxL := 2) (ret := none) (by decide) rfl ?_
  intro p e s m args below meth c s₁ B0 hml hv
  obtain ⟨ha, hP, hE, h⟩ := hv
  have hx := B0.exec
  have hb := B0.bytes
  have hr := B0.returns
  have hts := atoms_spec (ws := wsX3_skipBlanks) B0.pre
  have hown : s.vm.findClass RX3 = some m.cls := findClass_of_methodNamed B0.named
  have hlocks := B0.notSynchronized
  have hi_X3 : ∀ w ∈ u_ws RX3 TX3 4, w ∈ wsX3_skipBlanks := by decide +kernel
  have hS : va_S (fAd bX ad) s.heap s.heap [] := va_S.rf
  have hl := lv_entry ([.ref (ad x0)]) (n := 2) (by first | exact Nat.le_of_ble_eq_true rfl | simp [lg_sl, re_cat, cat_i, cat_l, cat_r])
  rw [show entryFrame m args 2 = entryFrame m ([.ref (ad x0)] : List Value).toArray 2 by rw [ha], lg_entry_eq]
  generalize (lg_sl ([.ref (ad x0)]) ++ List.replicate (2 - (lg_sl ([.ref (ad x0)])).length) Slot.unset).toArray = ls at hl ⊢
  have hl : lv_has ls 2 [(0, .ref (ad x0))] := by first | exact hl | simpa [lv_args, re_cat, cat_i, cat_l, cat_r] using hl
  have hB2 : ∀ (n2 : Nat) (x1 : Int32) (σ : Sg) (H : Heap) (locs : List Loc) (ls : Array Slot), p_X3_skipBlanks_L2 Q  n2 x0 x1 σ → va_P D vwCl (wl bX cs ad σ) H → va_S (fAd bX ad) s.heap H locs → lv_has ls 2 [(0, .ref (ad x0)), (1, .int x1)] → W p l e { frames := 2, cells := 0, slots := 0, locals := 41 } s m args below meth c H locs 0 0 (MQ below (QV bX D cs ad Q) args s 0 0 (fAd bX ad)) (F0 m 2 ls []) := by
    intro n2
    induction n2 with
    | zero =>
      intro x1 σ H locs ls h
      exact h.elim
    | succ n2 ih =>
      have hK2 := ih
      intro x1 σ H locs ls h hP hS hl
      rw [p_X3_skipBlanks_L2] at h
      refine lv_iload_n hx hb dX3_skipBlanks_2 rfl (lv_at hl 1 rfl) ?_
      refine lv_bipush (v := 60) hx hb dX3_skipBlanks_3 (by decide) ?_
      refine lv_icmp_ge (tgt := 44) hx hb dX3_skipBlanks_5 (by decide) (fun c1 => ?_) (fun c1 => ?_)
      · replace h := h.1 c1
        exact W.vret hx hb hr (fun t ht hW => ⟨⟨_, rfl, h, pw ht hP⟩, hS.F ht⟩) hS.2.2 dX3_skipBlanks_44
      · replace h := h.2 c1
        refine lv_aload_n hx hb dX3_skipBlanks_8 rfl (lv_at hl 0 rfl) ?_
        refine va_get (ci := 2) (v := .int (gI σ x0 3)) (C := RX3) (T := TX3) (N := 4) hx hb hts hi_X3 hown hE.1 hP x0 (w_2 hE hk0) rfl 3 (by decide) (hts (.fieldLink RX3 26 "HemLine$Reader" "spot" "I") (by decide +kernel)) (fun _ h9 => h9) rfl dX3_skipBlanks_9 ?_
        refine lv_aload_n hx hb dX3_skipBlanks_12 rfl (lv_at hl 0 rfl) ?_
        refine va_get (ci := 2) (v := .int (gI σ x0 2)) (C := RX3) (T := TX3) (N := 4) hx hb hts hi_X3 hown hE.1 hP x0 (w_2 hE hk0) rfl 2 (by decide) (hts (.fieldLink RX3 22 "HemLine$Reader" "size" "I") (by decide +kernel)) (fun _ h9 => h9) rfl dX3_skipBlanks_13 ?_
        refine lv_icmp_ge (tgt := 44) hx hb dX3_skipBlanks_16 (by decide) (fun c2 => ?_) (fun c2 => ?_)
        · replace h := h.1 c2
          exact W.vret hx hb hr (fun t ht hW => ⟨⟨_, rfl, h, pw ht hP⟩, hS.F ht⟩) hS.2.2 dX3_skipBlanks_44
        · replace h := h.2 c2
          refine lv_aload_n hx hb dX3_skipBlanks_19 rfl (lv_at hl 0 rfl) ?_
          refine f_i (kV (As := []) (rest := []) (o := some x0) rfl ⟨hx, hb, hml, hown, hts⟩ (c_X3_sign l D cs ad x0 σ _ hk0) (cwV 0 hts gX3_skipBlanks_X3_sign rfl rfl rfl (by decide +kernel) ⟨Nat.le_of_ble_eq_true rfl, Nat.le_of_ble_eq_true rfl⟩) hE hP rfl rfl (w_2 hE hk0) h rfl hl.1 rfl (by first | exact lv_room (Nat.le_of_ble_eq_true rfl) | (refine lv_room ?_; simp [re_cat, cat_i, cat_l, cat_r])) dX3_skipBlanks_20 ⟨Nat.le_refl _, Nat.le_refl _⟩) hS (fun r4 s3 H locs h hP hS => ?_)
          refine lv_bipush (v := 32) hx hb dX3_skipBlanks_23 (by decide) ?_
          refine lv_icmp_ne (tgt := 44) hx hb dX3_skipBlanks_25 (by decide) (fun c5 => ?_) (fun c5 => ?_)
          · replace h := h.2 c5
            exact W.vret hx hb hr (fun t ht hW => ⟨⟨_, rfl, h, pw ht hP⟩, hS.F ht⟩) hS.2.2 dX3_skipBlanks_44
          · replace h := h.1 c5
            refine lv_aload_n hx hb dX3_skipBlanks_28 rfl (lv_at hl 0 rfl) ?_
            refine lv_dup hx hb dX3_skipBlanks_29 (by first | rfl | exact re_cat _ _) ?_
            refine va_get (ci := 2) (v := .int (gI s3 x0 3)) (C := RX3) (T := TX3) (N := 4) hx hb hts hi_X3 hown hE.1 hP x0 (w_2 hE hk0) rfl 3 (by decide) (hts (.fieldLink RX3 26 "HemLine$Reader" "spot" "I") (by decide +kernel)) (fun _ h9 => h9) rfl dX3_skipBlanks_30 ?_
            refine lv_iconst (v := 1) hx hb dX3_skipBlanks_33 (by decide) ?_
            refine lv_iadd hx hb dX3_skipBlanks_34 ?_
            refine r_put (σ' := (setI s3 x0 3 ((gI s3 x0 3) + 1))) (ci := 2) (v := .int ((gI s3 x0 3) + 1)) (ty := .int) (C := RX3) (T := TX3) (N := 4) hx hb hts hi_X3 tyX3 tyX3_ok nmX3 hown hE hP hS x0 (w_2 hE hk0) rfl 3 (by decide) (hts (.fieldLink RX3 26 "HemLine$Reader" "spot" "I") (by decide +kernel)) (fun _ h9 => h9) rfl (by decide +kernel) rfl rfl (Nat.le_of_ble_eq_true rfl) dX3_skipBlanks_35 (st_2_3 hE hk0 _) (fun H locs hP hS => ?_)
            refine lv_iinc (v := x1 + 1) (lv' := [(1, .int (x1 + 1)), (0, .ref (ad x0))]) hx hb dX3_skipBlanks_38 hl (k := 1) rfl rfl (by decide) (by first | rfl | simp [re_cat, cat_i, cat_l, cat_r]) (fun ls hl => ?_)
            refine lv_goto (tgt := 2) hx hb dX3_skipBlanks_41 (by decide) ?_
            exact ih (x1 + 1) (setI s3 x0 3 ((gI s3 x0 3) + 1)) H locs ls h hP hS (lv_sub hl [1, 0] rfl)
  unfold p_X3_skipBlanks at h
  refine lv_iconst (v := 0) hx hb dX3_skipBlanks_0 (by decide) ?_
  refine lv_istore_n (i := 1) (lv' := [(1, .int 0), (0, .ref (ad x0))]) hx hb dX3_skipBlanks_1 rfl hl (by decide) (by first | rfl | simp [re_cat, cat_i, cat_l, cat_r]) (fun ls hl => ?_)
  obtain ⟨n1, h⟩ := h
  exact hB2 n1 0 s0 _ _ ls h hP hS (lv_sub hl [1, 0] rfl)
def p_X3_read_b109 (Q : Int32 → Sg → Prop)  (x0 : Nat) (s : Sg) : Prop := Q (gI s x0 3) s
def p_X3_read_b83 (Q : Int32 → Sg → Prop)  (x0 : Nat) (s : Sg) : Prop := (((gI s x0 3) < (gI s x0 2) → p_X3_read_b109 Q  x0 s) ∧ (¬ (gI s x0 3) < (gI s x0 2) → ∃ k2, tX x0 0 = some k2 ∧ kX k2 = 0 ∧ (((gI s k2 0) ≤ 0 → p_X3_read_b109 Q  x0 s) ∧ (¬ (gI s k2 0) ≤ 0 → Q ((-9)) s))))
def p_X3_read_L44 (Q : Int32 → Sg → Prop)  : Nat → Nat → Int32 → Sg → Prop
  | 0, _, _, _ => False
  | n + 1, x0, x3, s => ((6 ≤ x3 → p_X3_read_b83 Q  x0 s) ∧ (¬ 6 ≤ x3 → (((gI s x0 2) ≤ (gI s x0 3) → p_X3_read_b83 Q  x0 s) ∧ (¬ (gI s x0 2) ≤ (gI s x0 3) → p_X3_readWoman x0 s (fun r4 s3 => ((r4 = 0 → Q (gI s3 x0 3) s3) ∧ (¬ r4 = 0 → p_X3_skipBlanks x0 s3 (fun s6 => p_X3_read_L44 Q  n x0 (x3 + 1) s6))))))))
def p_X3_read (x0 : Nat) (x1 : Option Nat) (x2 : Int32) (s : Sg) (Q : Int32 → Sg → Prop) : Prop := ∃ k1, tX x0 0 = some k1 ∧ kX k1 = 0 ∧ p_X0_clear k1 (setI (setI (setT s x1) x0 2 x2) x0 3 0) (fun s4 => p_X3_skipBlanks x0 s4 (fun s5 => p_X3_readLand x0 s5 (fun r7 s6 => ((r7 = 0 → Q (gI s6 x0 3) s6) ∧ (¬ r7 = 0 → p_X3_skipBlanks x0 s6 (fun s9 => (∃ n10, p_X3_read_L44 Q  n10 x0 0 s9)))))))
set_option maxHeartbeats 4000000 in
set_option maxRecDepth 100000 in
theorem c_X3_read (l : Launch) (D : va_G) (cs : Cs) (ad : Nat → Nat) (x0 : Nat) (x1 : Option Nat) (x2 : Int32) (s0 : Sg) (Q : Int32 → Sg → Prop) (hk0 : kX x0 = 2) : Met l yX3_read wsX3_read { frames := 4, cells := 0, slots := 0, locals := 88 } (Pc0 bX D cs ad [.ref (ad x0), va_re ad x1, .int x2] s0 (p_X3_read x0 x1 x2 s0 Q)) (QI bX D cs ad Q) 0 0 (fAd bX ad) := by
  refine Met.ofW (cc := cX3_read) (maxL := 4) (ret := (some .int)) (by decide) rfl ?_
  intro p e s m args below meth c s₁ B0 hml hv
  obtain ⟨ha, hP, hE, h⟩ := hv
  have hx := B0.exec
  have hb := B0.bytes
  have hr := B0.returns
  have hts := atoms_spec (ws := wsX3_read) B0.pre
  have hown : s.vm.findClass RX3 = some m.cls := findClass_of_methodNamed B0.named
  have hlocks := B0.notSynchronized
  have hi_X0 : ∀ w ∈ u_ws RX0 TX0 15, w ∈ wsX3_read := by decide +kernel
  have hi_X3 : ∀ w ∈ u_ws RX3 TX3 4, w ∈ wsX3_read := by decide +kernel
  have hS : va_S (fAd bX ad) s.heap s.heap [] := va_S.rf
  have hl := lv_entry ([.ref (ad x0), va_re ad x1, .int x2]) (n := 4) (by first | exact Nat.le_of_ble_eq_true rfl | simp [lg_sl, re_cat, cat_i, cat_l, cat_r])
  rw [show entryFrame m args 4 = entryFrame m ([.ref (ad x0), va_re ad x1, .int x2] : List Value).toArray 4 by rw [ha], lg_entry_eq]
  generalize (lg_sl ([.ref (ad x0), va_re ad x1, .int x2]) ++ List.replicate (4 - (lg_sl ([.ref (ad x0), va_re ad x1, .int x2])).length) Slot.unset).toArray = ls at hl ⊢
  have hl : lv_has ls 4 [(0, .ref (ad x0)), (1, va_re ad x1), (2, .int x2)] := by first | exact hl | simpa [lv_args, re_cat, cat_i, cat_l, cat_r] using hl
  have hB109 : ∀  (σ : Sg) (H : Heap) (locs : List Loc) (ls : Array Slot), p_X3_read_b109 Q  x0 σ → va_P D vwCl (wl bX cs ad σ) H → va_S (fAd bX ad) s.heap H locs → lv_has ls 4 [(0, .ref (ad x0))] → W p l e { frames := 4, cells := 0, slots := 0, locals := 88 } s m args below meth c H locs 0 0 (MQ below (QI bX D cs ad Q) args s 0 0 (fAd bX ad)) (F0 m 109 ls []) := by
    intro  σ H locs ls h hP hS hl
    unfold p_X3_read_b109 at h
    refine lv_aload_n hx hb dX3_read_109 rfl (lv_at hl 0 rfl) ?_
    refine va_get (ci := 2) (v := .int (gI σ x0 3)) (C := RX3) (T := TX3) (N := 4) hx hb hts hi_X3 hown hE.1 hP x0 (w_2 hE hk0) rfl 3 (by decide) (hts (.fieldLink RX3 26 "HemLine$Reader" "spot" "I") (by decide +kernel)) (fun _ h9 => h9) rfl dX3_read_110 ?_
    exact W.iret hx hb hr (fun t ht hW => ⟨⟨_, _, rfl, h, pw ht hP⟩, hS.F ht⟩) hS.2.2 dX3_read_113
  have hB83 : ∀  (σ : Sg) (H : Heap) (locs : List Loc) (ls : Array Slot), p_X3_read_b83 Q  x0 σ → va_P D vwCl (wl bX cs ad σ) H → va_S (fAd bX ad) s.heap H locs → lv_has ls 4 [(0, .ref (ad x0))] → W p l e { frames := 4, cells := 0, slots := 0, locals := 88 } s m args below meth c H locs 0 0 (MQ below (QI bX D cs ad Q) args s 0 0 (fAd bX ad)) (F0 m 83 ls []) := by
    intro  σ H locs ls h hP hS hl
    unfold p_X3_read_b83 at h
    refine lv_aload_n hx hb dX3_read_83 rfl (lv_at hl 0 rfl) ?_
    refine va_get (ci := 2) (v := .int (gI σ x0 3)) (C := RX3) (T := TX3) (N := 4) hx hb hts hi_X3 hown hE.1 hP x0 (w_2 hE hk0) rfl 3 (by decide) (hts (.fieldLink RX3 26 "HemLine$Reader" "spot" "I") (by decide +kernel)) (fun _ h9 => h9) rfl dX3_read_84 ?_
    refine lv_aload_n hx hb dX3_read_87 rfl (lv_at hl 0 rfl) ?_
    refine va_get (ci := 2) (v := .int (gI σ x0 2)) (C := RX3) (T := TX3) (N := 4) hx hb hts hi_X3 hown hE.1 hP x0 (w_2 hE hk0) rfl 2 (by decide) (hts (.fieldLink RX3 22 "HemLine$Reader" "size" "I") (by decide +kernel)) (fun _ h9 => h9) rfl dX3_read_88 ?_
    refine lv_icmp_lt (tgt := 109) hx hb dX3_read_91 (by decide) (fun c1 => ?_) (fun c1 => ?_)
    · replace h := h.1 c1
      exact hB109  σ H locs ls h hP hS (lv_sub hl [0] rfl)
    · replace h := h.2 c1
      refine lv_aload_n hx hb dX3_read_94 rfl (lv_at hl 0 rfl) ?_
      refine va_get (ci := 2) (v := va_re ad (tX x0 0)) (C := RX3) (T := TX3) (N := 4) hx hb hts hi_X3 hown hE.1 hP x0 (w_2 hE hk0) rfl 0 (by decide) (hts (.fieldLink RX3 12 "HemLine$Reader" "draft" "LHemLine$Delta;") (by decide +kernel)) (fun _ h9 => h9) rfl dX3_read_95 ?_
      obtain ⟨k2, e3, q4, h⟩ := h
      refine r_known (ad := ad) e3 ?_
      refine va_getN (ci := 0) (v := .int (gI σ k2 0)) (C := RX0) (T := TX0) (N := 15) hx hb hts hi_X0 hown hE.1 hP k2 (w_0 hE q4) rfl 0 (by decide) ((hE.2.2.2.1 ("HemLine$Reader", 42, "HemLine$Delta", "women", "I", "HemLine") (by decide +kernel)).use rfl) (fun _ h9 => h9) rfl dX3_read_98 ?_
      refine lv_if_le (tgt := 109) hx hb dX3_read_101 (by decide) (fun c5 => ?_) (fun c5 => ?_)
      · replace h := h.1 c5
        exact hB109  σ H locs ls h hP hS (lv_sub hl [0] rfl)
      · replace h := h.2 c5
        refine lv_bipush (v := (-9)) hx hb dX3_read_104 (by decide) ?_
        refine lv_goto (tgt := 113) hx hb dX3_read_106 (by decide) ?_
        exact W.iret hx hb hr (fun t ht hW => ⟨⟨_, _, rfl, h, pw ht hP⟩, hS.F ht⟩) hS.2.2 dX3_read_113
  have hB44 : ∀ (n44 : Nat) (x3 : Int32) (σ : Sg) (H : Heap) (locs : List Loc) (ls : Array Slot), p_X3_read_L44 Q  n44 x0 x3 σ → va_P D vwCl (wl bX cs ad σ) H → va_S (fAd bX ad) s.heap H locs → lv_has ls 4 [(0, .ref (ad x0)), (3, .int x3)] → W p l e { frames := 4, cells := 0, slots := 0, locals := 88 } s m args below meth c H locs 0 0 (MQ below (QI bX D cs ad Q) args s 0 0 (fAd bX ad)) (F0 m 44 ls []) := by
    intro n44
    induction n44 with
    | zero =>
      intro x3 σ H locs ls h
      exact h.elim
    | succ n44 ih =>
      have hK44 := ih
      intro x3 σ H locs ls h hP hS hl
      rw [p_X3_read_L44] at h
      refine lv_iload_n hx hb dX3_read_44 rfl (lv_at hl 1 rfl) ?_
      refine lv_bipush (v := 6) hx hb dX3_read_45 (by decide) ?_
      refine lv_icmp_ge (tgt := 83) hx hb dX3_read_47 (by decide) (fun c1 => ?_) (fun c1 => ?_)
      · replace h := h.1 c1
        exact hB83  σ H locs ls h hP hS (lv_sub hl [0] rfl)
      · replace h := h.2 c1
        refine lv_aload_n hx hb dX3_read_50 rfl (lv_at hl 0 rfl) ?_
        refine va_get (ci := 2) (v := .int (gI σ x0 3)) (C := RX3) (T := TX3) (N := 4) hx hb hts hi_X3 hown hE.1 hP x0 (w_2 hE hk0) rfl 3 (by decide) (hts (.fieldLink RX3 26 "HemLine$Reader" "spot" "I") (by decide +kernel)) (fun _ h9 => h9) rfl dX3_read_51 ?_
        refine lv_aload_n hx hb dX3_read_54 rfl (lv_at hl 0 rfl) ?_
        refine va_get (ci := 2) (v := .int (gI σ x0 2)) (C := RX3) (T := TX3) (N := 4) hx hb hts hi_X3 hown hE.1 hP x0 (w_2 hE hk0) rfl 2 (by decide) (hts (.fieldLink RX3 22 "HemLine$Reader" "size" "I") (by decide +kernel)) (fun _ h9 => h9) rfl dX3_read_55 ?_
        refine lv_icmp_ge (tgt := 83) hx hb dX3_read_58 (by decide) (fun c2 => ?_) (fun c2 => ?_)
        · replace h := h.1 c2
          exact hB83  σ H locs ls h hP hS (lv_sub hl [0] rfl)
        · replace h := h.2 c2
          refine lv_aload_n hx hb dX3_read_61 rfl (lv_at hl 0 rfl) ?_
          refine f_i (kV (As := []) (rest := []) (o := some x0) rfl ⟨hx, hb, hml, hown, hts⟩ (c_X3_readWoman l D cs ad x0 σ _ hk0) (cwV 0 hts gX3_read_X3_readWoman rfl rfl rfl (by decide +kernel) ⟨Nat.le_of_ble_eq_true rfl, Nat.le_of_ble_eq_true rfl⟩) hE hP rfl rfl (w_2 hE hk0) h rfl hl.1 rfl (by first | exact lv_room (Nat.le_of_ble_eq_true rfl) | (refine lv_room ?_; simp [re_cat, cat_i, cat_l, cat_r])) dX3_read_62 ⟨Nat.le_refl _, Nat.le_refl _⟩) hS (fun r4 s3 H locs h hP hS => ?_)
          refine lv_if_ne (tgt := 73) hx hb dX3_read_65 (by decide) (fun c5 => ?_) (fun c5 => ?_)
          · replace h := h.2 c5
            refine lv_aload_n hx hb dX3_read_73 rfl (lv_at hl 0 rfl) ?_
            refine f_v (kV (As := []) (rest := []) (o := some x0) rfl ⟨hx, hb, hml, hown, hts⟩ (c_X3_skipBlanks l D cs ad x0 s3 _ hk0) (cwV 0 hts gX3_read_X3_skipBlanks rfl rfl rfl (by decide +kernel) ⟨Nat.le_of_ble_eq_true rfl, Nat.le_of_ble_eq_true rfl⟩) hE hP rfl rfl (w_2 hE hk0) h rfl hl.1 rfl (by first | exact lv_room (Nat.le_of_ble_eq_true rfl) | (refine lv_room ?_; simp [re_cat, cat_i, cat_l, cat_r])) dX3_read_74 ⟨Nat.le_refl _, Nat.le_refl _⟩) hS (fun s6 H locs h hP hS => ?_)
            refine lv_iinc (v := x3 + 1) (lv' := [(3, .int (x3 + 1)), (0, .ref (ad x0))]) hx hb dX3_read_77 hl (k := 1) rfl rfl (by decide) (by first | rfl | simp [re_cat, cat_i, cat_l, cat_r]) (fun ls hl => ?_)
            refine lv_goto (tgt := 44) hx hb dX3_read_80 (by decide) ?_
            exact ih (x3 + 1) s6 H locs ls h hP hS (lv_sub hl [1, 0] rfl)
          · replace h := h.1 c5
            refine lv_aload_n hx hb dX3_read_68 rfl (lv_at hl 0 rfl) ?_
            refine va_get (ci := 2) (v := .int (gI s3 x0 3)) (C := RX3) (T := TX3) (N := 4) hx hb hts hi_X3 hown hE.1 hP x0 (w_2 hE hk0) rfl 3 (by decide) (hts (.fieldLink RX3 26 "HemLine$Reader" "spot" "I") (by decide +kernel)) (fun _ h9 => h9) rfl dX3_read_69 ?_
            exact W.iret hx hb hr (fun t ht hW => ⟨⟨_, _, rfl, h, pw ht hP⟩, hS.F ht⟩) hS.2.2 dX3_read_72
  unfold p_X3_read at h
  refine lv_aload_n hx hb dX3_read_0 rfl (lv_at hl 0 rfl) ?_
  refine r_aload_n hx hb dX3_read_1 rfl (lv_at hl 1 rfl) ?_
  refine r_put (σ' := (setT s0 x1)) (ci := 2) (v := va_re ad x1) (ty := .array .int) (C := RX3) (T := TX3) (N := 4) hx hb hts hi_X3 tyX3 tyX3_ok nmX3 hown hE hP hS x0 (w_2 hE hk0) rfl 1 (by decide) (hts (.fieldLink RX3 18 "HemLine$Reader" "text" "[I") (by decide +kernel)) (fun _ h9 => h9) rfl (by decide +kernel) (by cases (x1 : Option Nat) <;> rfl) (by cases (x1 : Option Nat) <;> rfl) (Nat.le_of_ble_eq_true rfl) dX3_read_2 (st_2_1 hE oneX hk0 _) (fun H locs hP hS => ?_)
  refine lv_aload_n hx hb dX3_read_5 rfl (lv_at hl 0 rfl) ?_
  refine lv_iload_n hx hb dX3_read_6 rfl (lv_at hl 2 rfl) ?_
  refine r_put (σ' := (setI (setT s0 x1) x0 2 x2)) (ci := 2) (v := .int x2) (ty := .int) (C := RX3) (T := TX3) (N := 4) hx hb hts hi_X3 tyX3 tyX3_ok nmX3 hown hE hP hS x0 (w_2 hE hk0) rfl 2 (by decide) (hts (.fieldLink RX3 22 "HemLine$Reader" "size" "I") (by decide +kernel)) (fun _ h9 => h9) rfl (by decide +kernel) rfl rfl (Nat.le_of_ble_eq_true rfl) dX3_read_7 (st_2_2 hE hk0 _) (fun H locs hP hS => ?_)
  refine lv_aload_n hx hb dX3_read_10 rfl (lv_at hl 0 rfl) ?_
  refine lv_iconst (v := 0) hx hb dX3_read_11 (by decide) ?_
  refine r_put (σ' := (setI (setI (setT s0 x1) x0 2 x2) x0 3 0)) (ci := 2) (v := .int 0) (ty := .int) (C := RX3) (T := TX3) (N := 4) hx hb hts hi_X3 tyX3 tyX3_ok nmX3 hown hE hP hS x0 (w_2 hE hk0) rfl 3 (by decide) (hts (.fieldLink RX3 26 "HemLine$Reader" "spot" "I") (by decide +kernel)) (fun _ h9 => h9) rfl (by decide +kernel) rfl rfl (Nat.le_of_ble_eq_true rfl) dX3_read_12 (st_2_3 hE hk0 _) (fun H locs hP hS => ?_)
  refine lv_aload_n hx hb dX3_read_15 rfl (lv_at hl 0 rfl) ?_
  refine va_get (ci := 2) (v := va_re ad (tX x0 0)) (C := RX3) (T := TX3) (N := 4) hx hb hts hi_X3 hown hE.1 hP x0 (w_2 hE hk0) rfl 0 (by decide) (hts (.fieldLink RX3 12 "HemLine$Reader" "draft" "LHemLine$Delta;") (by decide +kernel)) (fun _ h9 => h9) rfl dX3_read_16 ?_
  obtain ⟨k1, e2, q3, h⟩ := h
  refine f_v (kV (As := []) (rest := []) e2 ⟨hx, hb, hml, hown, hts⟩ (c_X0_clear l D cs ad k1 (setI (setI (setT s0 x1) x0 2 x2) x0 3 0) _ q3) (cwV 0 hts gX3_read_X0_clear rfl rfl rfl (by decide +kernel) ⟨Nat.le_of_ble_eq_true rfl, Nat.le_of_ble_eq_true rfl⟩) hE hP rfl rfl (w_0 hE q3) h rfl hl.1 rfl (by first | exact lv_room (Nat.le_of_ble_eq_true rfl) | (refine lv_room ?_; simp [re_cat, cat_i, cat_l, cat_r])) dX3_read_19 ⟨Nat.le_refl _, Nat.le_refl _⟩) hS (fun s4 H locs h hP hS => ?_)
  refine lv_aload_n hx hb dX3_read_22 rfl (lv_at hl 0 rfl) ?_
  refine f_v (kV (As := []) (rest := []) (o := some x0) rfl ⟨hx, hb, hml, hown, hts⟩ (c_X3_skipBlanks l D cs ad x0 s4 _ hk0) (cwV 0 hts gX3_read_X3_skipBlanks rfl rfl rfl (by decide +kernel) ⟨Nat.le_of_ble_eq_true rfl, Nat.le_of_ble_eq_true rfl⟩) hE hP rfl rfl (w_2 hE hk0) h rfl hl.1 rfl (by first | exact lv_room (Nat.le_of_ble_eq_true rfl) | (refine lv_room ?_; simp [re_cat, cat_i, cat_l, cat_r])) dX3_read_23 ⟨Nat.le_refl _, Nat.le_refl _⟩) hS (fun s5 H locs h hP hS => ?_)
  refine lv_aload_n hx hb dX3_read_26 rfl (lv_at hl 0 rfl) ?_
  refine f_i (kV (As := []) (rest := []) (o := some x0) rfl ⟨hx, hb, hml, hown, hts⟩ (c_X3_readLand l D cs ad x0 s5 _ hk0) (cwV 0 hts gX3_read_X3_readLand rfl rfl rfl (by decide +kernel) ⟨Nat.le_of_ble_eq_true rfl, Nat.le_of_ble_eq_true rfl⟩) hE hP rfl rfl (w_2 hE hk0) h rfl hl.1 rfl (by first | exact lv_room (Nat.le_of_ble_eq_true rfl) | (refine lv_room ?_; simp [re_cat, cat_i, cat_l, cat_r])) dX3_read_27 ⟨Nat.le_refl _, Nat.le_refl _⟩) hS (fun r7 s6 H locs h hP hS => ?_)
  refine lv_if_ne (tgt := 38) hx hb dX3_read_30 (by decide) (fun c8 => ?_) (fun c8 => ?_)
  · replace h := h.2 c8
    refine lv_aload_n hx hb dX3_read_38 rfl (lv_at hl 0 rfl) ?_
    refine f_v (kV (As := []) (rest := []) (o := some x0) rfl ⟨hx, hb, hml, hown, hts⟩ (c_X3_skipBlanks l D cs ad x0 s6 _ hk0) (cwV 0 hts gX3_read_X3_skipBlanks rfl rfl rfl (by decide +kernel) ⟨Nat.le_of_ble_eq_true rfl, Nat.le_of_ble_eq_true rfl⟩) hE hP rfl rfl (w_2 hE hk0) h rfl hl.1 rfl (by first | exact lv_room (Nat.le_of_ble_eq_true rfl) | (refine lv_room ?_; simp [re_cat, cat_i, cat_l, cat_r])) dX3_read_39 ⟨Nat.le_refl _, Nat.le_refl _⟩) hS (fun s9 H locs h hP hS => ?_)
    refine lv_iconst (v := 0) hx hb dX3_read_42 (by decide) ?_
    refine lv_istore_n (i := 3) (lv' := [(3, .int 0), (0, .ref (ad x0)), (1, va_re ad x1), (2, .int x2)]) hx hb dX3_read_43 rfl hl (by decide) (by first | rfl | simp [re_cat, cat_i, cat_l, cat_r]) (fun ls hl => ?_)
    obtain ⟨n10, h⟩ := h
    exact hB44 n10 0 s9 _ _ ls h hP hS (lv_sub hl [1, 0] rfl)
  · replace h := h.1 c8
    refine lv_aload_n hx hb dX3_read_33 rfl (lv_at hl 0 rfl) ?_
    refine va_get (ci := 2) (v := .int (gI s6 x0 3)) (C := RX3) (T := TX3) (N := 4) hx hb hts hi_X3 hown hE.1 hP x0 (w_2 hE hk0) rfl 3 (by decide) (hts (.fieldLink RX3 26 "HemLine$Reader" "spot" "I") (by decide +kernel)) (fun _ h9 => h9) rfl dX3_read_34 ?_
    exact W.iret hx hb hr (fun t ht hW => ⟨⟨_, _, rfl, h, pw ht hP⟩, hS.F ht⟩) hS.2.2 dX3_read_37
