def p_X0_clear (x0 : Nat) (s : Sg) (Q : Sg → Prop) : Prop := p_J7_fill_53178 bX (tX x0 4) 0 (setI (setI (setI (setI s x0 0 0) x0 1 0) x0 2 0) x0 3 0) (fun s1 => Q s1)
set_option maxHeartbeats 4000000 in
set_option maxRecDepth 100000 in
theorem c_X0_clear (l : Launch) (D : va_G) (cs : Cs) (ad : Nat → Nat) (x0 : Nat) (s0 : Sg) (Q : Sg → Prop) (hk0 : kX x0 = 0) : Met l yX0_clear wsX0_clear { frames := 1, cells := 0, slots := 0, locals := 23 } (Pc0 bX D cs ad [.ref (ad x0)] s0 (p_X0_clear x0 s0 Q)) (QV bX D cs ad Q) 0 0 (fAd bX ad) := by
  refine Met.ofW (cc := cX0_clear) (maxL := 1) (ret := none) (by decide) rfl ?_
  intro p e s m args below meth c s₁ B0 hml hv
  obtain ⟨ha, hP, hE, h⟩ := hv
  have hx := B0.exec
  have hb := B0.bytes
  have hr := B0.returns
  have hts := atoms_spec (ws := wsX0_clear) B0.pre
  have hown : s.vm.findClass RX0 = some m.cls := findClass_of_methodNamed B0.named
  have hlocks := B0.notSynchronized
  have hi_X0 : ∀ w ∈ u_ws RX0 TX0 15, w ∈ wsX0_clear := by decide +kernel
  have hS : va_S (fAd bX ad) s.heap s.heap [] := va_S.rf
  have hl := lv_entry ([.ref (ad x0)]) (n := 1) (by first | exact Nat.le_of_ble_eq_true rfl | simp [lg_sl, re_cat, cat_i, cat_l, cat_r])
  rw [show entryFrame m args 1 = entryFrame m ([.ref (ad x0)] : List Value).toArray 1 by rw [ha], lg_entry_eq]
  generalize (lg_sl ([.ref (ad x0)]) ++ List.replicate (1 - (lg_sl ([.ref (ad x0)])).length) Slot.unset).toArray = ls at hl ⊢
  have hl : lv_has ls 1 [(0, .ref (ad x0))] := by first | exact hl | simpa [lv_args, re_cat, cat_i, cat_l, cat_r] using hl
  unfold p_X0_clear at h
  refine lv_aload_n hx hb dX0_clear_0 rfl (lv_at hl 0 rfl) ?_
  refine lv_iconst (v := 0) hx hb dX0_clear_1 (by decide) ?_
  refine r_put (σ' := (setI s0 x0 0 0)) (ci := 0) (v := .int 0) (ty := .int) (C := RX0) (T := TX0) (N := 15) hx hb hts hi_X0 tyX0 tyX0_ok nmX0 hown hE hP hS x0 (w_0 hE hk0) rfl 0 (by decide) (hts (.fieldLink RX0 45 "HemLine$Delta" "women" "I") (by decide +kernel)) (fun _ h9 => h9) rfl (by decide +kernel) rfl rfl (Nat.le_of_ble_eq_true rfl) dX0_clear_2 (st_0_0 hE hk0 _) (fun H locs hP hS => ?_)
  refine lv_aload_n hx hb dX0_clear_5 rfl (lv_at hl 0 rfl) ?_
  refine lv_iconst (v := 0) hx hb dX0_clear_6 (by decide) ?_
  refine r_put (σ' := (setI (setI s0 x0 0 0) x0 1 0)) (ci := 0) (v := .int 0) (ty := .int) (C := RX0) (T := TX0) (N := 15) hx hb hts hi_X0 tyX0 tyX0_ok nmX0 hown hE hP hS x0 (w_0 hE hk0) rfl 1 (by decide) (hts (.fieldLink RX0 49 "HemLine$Delta" "earth" "I") (by decide +kernel)) (fun _ h9 => h9) rfl (by decide +kernel) rfl rfl (Nat.le_of_ble_eq_true rfl) dX0_clear_7 (st_0_1 hE hk0 _) (fun H locs hP hS => ?_)
  refine lv_aload_n hx hb dX0_clear_10 rfl (lv_at hl 0 rfl) ?_
  refine lv_iconst (v := 0) hx hb dX0_clear_11 (by decide) ?_
  refine r_put (σ' := (setI (setI (setI s0 x0 0 0) x0 1 0) x0 2 0)) (ci := 0) (v := .int 0) (ty := .int) (C := RX0) (T := TX0) (N := 15) hx hb hts hi_X0 tyX0 tyX0_ok nmX0 hown hE hP hS x0 (w_0 hE hk0) rfl 2 (by decide) (hts (.fieldLink RX0 52 "HemLine$Delta" "years" "I") (by decide +kernel)) (fun _ h9 => h9) rfl (by decide +kernel) rfl rfl (Nat.le_of_ble_eq_true rfl) dX0_clear_12 (st_0_2 hE hk0 _) (fun H locs hP hS => ?_)
  refine lv_aload_n hx hb dX0_clear_15 rfl (lv_at hl 0 rfl) ?_
  refine lv_iconst (v := 0) hx hb dX0_clear_16 (by decide) ?_
  refine r_put (σ' := (setI (setI (setI (setI s0 x0 0 0) x0 1 0) x0 2 0) x0 3 0)) (ci := 0) (v := .int 0) (ty := .int) (C := RX0) (T := TX0) (N := 15) hx hb hts hi_X0 tyX0 tyX0_ok nmX0 hown hE hP hS x0 (w_0 hE hk0) rfl 3 (by decide) (hts (.fieldLink RX0 55 "HemLine$Delta" "deeds" "I") (by decide +kernel)) (fun _ h9 => h9) rfl (by decide +kernel) rfl rfl (Nat.le_of_ble_eq_true rfl) dX0_clear_17 (st_0_3 hE hk0 _) (fun H locs hP hS => ?_)
  refine lv_aload_n hx hb dX0_clear_20 rfl (lv_at hl 0 rfl) ?_
  refine va_get (ci := 0) (v := va_re ad (tX x0 4)) (C := RX0) (T := TX0) (N := 15) hx hb hts hi_X0 hown hE.1 hP x0 (w_0 hE hk0) rfl 4 (by decide) (hts (.fieldLink RX0 9 "HemLine$Delta" "ground" "[I") (by decide +kernel)) (fun _ h9 => h9) rfl dX0_clear_21 ?_
  refine lv_iconst (v := 0) hx hb dX0_clear_24 (by decide) ?_
  refine f_v (kS (As := [va_re ad (tX x0 4), .int 0]) (rest := []) ⟨hx, hb, hml, hown, hts⟩ (c_J7_fill_53178 l bX D cs ad (tX x0 4) 0 (setI (setI (setI (setI s0 x0 0 0) x0 1 0) x0 2 0) x0 3 0) _) (va_cwS 2 hts gX0_clear_J7_fill_53178 rfl rfl rfl (by decide +kernel) ⟨Nat.le_of_ble_eq_true rfl, Nat.le_of_ble_eq_true rfl⟩) hE hP h rfl hl.1 rfl (by first | exact lv_room (Nat.le_of_ble_eq_true rfl) | (refine lv_room ?_; simp [re_cat, cat_i, cat_l, cat_r])) dX0_clear_25 ⟨Nat.le_refl _, Nat.le_refl _⟩) hS (fun s1 H locs h hP hS => ?_)
  exact W.vret hx hb hr (fun t ht hW => ⟨⟨_, rfl, h, pw ht hP⟩, hS.F ht⟩) hS.2.2 dX0_clear_28
def p_X0_takeFrom (x0 : Nat) (x1 : Option Nat) (s : Sg) (Q : Sg → Prop) : Prop := ((x1 = none → Q s) ∧ (¬ x1 = none → ∃ k2, x1 = some k2 ∧ kX k2 = 0 ∧ ∃ k5, x1 = some k5 ∧ kX k5 = 0 ∧ ∃ k8, x1 = some k8 ∧ kX k8 = 0 ∧ ∃ k11, x1 = some k11 ∧ kX k11 = 0 ∧ ∃ k14, x1 = some k14 ∧ kX k14 = 0 ∧ p_X5_copyItems (tX k14 4) (tX x0 4) (setI (setI (setI (setI s x0 0 (gI s k2 0)) x0 1 (gI (setI s x0 0 (gI s k2 0)) k5 1)) x0 2 (gI (setI (setI s x0 0 (gI s k2 0)) x0 1 (gI (setI s x0 0 (gI s k2 0)) k5 1)) k8 2)) x0 3 (gI (setI (setI (setI s x0 0 (gI s k2 0)) x0 1 (gI (setI s x0 0 (gI s k2 0)) k5 1)) x0 2 (gI (setI (setI s x0 0 (gI s k2 0)) x0 1 (gI (setI s x0 0 (gI s k2 0)) k5 1)) k8 2)) k11 3)) (fun s17 => ∃ k18, x1 = some k18 ∧ kX k18 = 0 ∧ p_X5_copyItems (tX k18 5) (tX x0 5) s17 (fun s21 => ∃ k22, x1 = some k22 ∧ kX k22 = 0 ∧ p_X5_copyItems (tX k22 6) (tX x0 6) s21 (fun s25 => ∃ k26, x1 = some k26 ∧ kX k26 = 0 ∧ p_X5_copyItems (tX k26 7) (tX x0 7) s25 (fun s29 => ∃ k30, x1 = some k30 ∧ kX k30 = 0 ∧ p_X5_copyItems (tX k30 8) (tX x0 8) s29 (fun s33 => ∃ k34, x1 = some k34 ∧ kX k34 = 0 ∧ p_X5_copyItems (tX k34 9) (tX x0 9) s33 (fun s37 => ∃ k38, x1 = some k38 ∧ kX k38 = 0 ∧ p_X5_copyItems (tX k38 10) (tX x0 10) s37 (fun s41 => ∃ k42, x1 = some k42 ∧ kX k42 = 0 ∧ p_X5_copyItems (tX k42 11) (tX x0 11) s41 (fun s45 => ∃ k46, x1 = some k46 ∧ kX k46 = 0 ∧ p_X5_copyItems (tX k46 12) (tX x0 12) s45 (fun s49 => ∃ k50, x1 = some k50 ∧ kX k50 = 0 ∧ p_X5_copyItems (tX k50 13) (tX x0 13) s49 (fun s53 => ∃ k54, x1 = some k54 ∧ kX k54 = 0 ∧ p_X5_copyItems (tX k54 14) (tX x0 14) s53 (fun s57 => Q s57)))))))))))))
set_option maxHeartbeats 4000000 in
set_option maxRecDepth 100000 in
theorem c_X0_takeFrom (l : Launch) (D : va_G) (cs : Cs) (ad : Nat → Nat) (x0 : Nat) (x1 : Option Nat) (s0 : Sg) (Q : Sg → Prop) (hk0 : kX x0 = 0) : Met l yX0_takeFrom wsX0_takeFrom { frames := 3, cells := 0, slots := 0, locals := 113 } (Pc0 bX D cs ad [.ref (ad x0), va_re ad x1] s0 (p_X0_takeFrom x0 x1 s0 Q)) (QV bX D cs ad Q) 0 0 (fAd bX ad) := by
  refine Met.ofW (cc := cX0_takeFrom) (maxL := 2) (ret := none) (by decide) rfl ?_
  intro p e s m args below meth c s₁ B0 hml hv
  obtain ⟨ha, hP, hE, h⟩ := hv
  have hx := B0.exec
  have hb := B0.bytes
  have hr := B0.returns
  have hts := atoms_spec (ws := wsX0_takeFrom) B0.pre
  have hown : s.vm.findClass RX0 = some m.cls := findClass_of_methodNamed B0.named
  have hlocks := B0.notSynchronized
  have hi_X0 : ∀ w ∈ u_ws RX0 TX0 15, w ∈ wsX0_takeFrom := by decide +kernel
  have hS : va_S (fAd bX ad) s.heap s.heap [] := va_S.rf
  have hl := lv_entry ([.ref (ad x0), va_re ad x1]) (n := 2) (by first | exact Nat.le_of_ble_eq_true rfl | simp [lg_sl, re_cat, cat_i, cat_l, cat_r])
  rw [show entryFrame m args 2 = entryFrame m ([.ref (ad x0), va_re ad x1] : List Value).toArray 2 by rw [ha], lg_entry_eq]
  generalize (lg_sl ([.ref (ad x0), va_re ad x1]) ++ List.replicate (2 - (lg_sl ([.ref (ad x0), va_re ad x1])).length) Slot.unset).toArray = ls at hl ⊢
  have hl : lv_has ls 2 [(0, .ref (ad x0)), (1, va_re ad x1)] := by first | exact hl | simpa [lv_args, re_cat, cat_i, cat_l, cat_r] using hl
  unfold p_X0_takeFrom at h
  refine r_aload_n hx hb dX0_takeFrom_0 rfl (lv_at hl 1 rfl) ?_
  refine r_ifnonnull (tgt := 5) hx hb dX0_takeFrom_1 (by decide) (fun c1 => ?_) (fun c1 => ?_)
  · replace h := h.2 c1
    refine lv_aload_n hx hb dX0_takeFrom_5 rfl (lv_at hl 0 rfl) ?_
    refine r_aload_n hx hb dX0_takeFrom_6 rfl (lv_at hl 1 rfl) ?_
    obtain ⟨k2, e3, q4, h⟩ := h
    refine r_known (ad := ad) e3 ?_
    refine va_get (ci := 0) (v := .int (gI s0 k2 0)) (C := RX0) (T := TX0) (N := 15) hx hb hts hi_X0 hown hE.1 hP k2 (w_0 hE q4) rfl 0 (by decide) (hts (.fieldLink RX0 45 "HemLine$Delta" "women" "I") (by decide +kernel)) (fun _ h9 => h9) rfl dX0_takeFrom_7 ?_
    refine r_put (σ' := (setI s0 x0 0 (gI s0 k2 0))) (ci := 0) (v := .int (gI s0 k2 0)) (ty := .int) (C := RX0) (T := TX0) (N := 15) hx hb hts hi_X0 tyX0 tyX0_ok nmX0 hown hE hP hS x0 (w_0 hE hk0) rfl 0 (by decide) (hts (.fieldLink RX0 45 "HemLine$Delta" "women" "I") (by decide +kernel)) (fun _ h9 => h9) rfl (by decide +kernel) rfl rfl (Nat.le_of_ble_eq_true rfl) dX0_takeFrom_10 (st_0_0 hE hk0 _) (fun H locs hP hS => ?_)
    refine lv_aload_n hx hb dX0_takeFrom_13 rfl (lv_at hl 0 rfl) ?_
    refine r_aload_n hx hb dX0_takeFrom_14 rfl (lv_at hl 1 rfl) ?_
    obtain ⟨k5, e6, q7, h⟩ := h
    refine r_known (ad := ad) e6 ?_
    refine va_get (ci := 0) (v := .int (gI (setI s0 x0 0 (gI s0 k2 0)) k5 1)) (C := RX0) (T := TX0) (N := 15) hx hb hts hi_X0 hown hE.1 hP k5 (w_0 hE q7) rfl 1 (by decide) (hts (.fieldLink RX0 49 "HemLine$Delta" "earth" "I") (by decide +kernel)) (fun _ h9 => h9) rfl dX0_takeFrom_15 ?_
    refine r_put (σ' := (setI (setI s0 x0 0 (gI s0 k2 0)) x0 1 (gI (setI s0 x0 0 (gI s0 k2 0)) k5 1))) (ci := 0) (v := .int (gI (setI s0 x0 0 (gI s0 k2 0)) k5 1)) (ty := .int) (C := RX0) (T := TX0) (N := 15) hx hb hts hi_X0 tyX0 tyX0_ok nmX0 hown hE hP hS x0 (w_0 hE hk0) rfl 1 (by decide) (hts (.fieldLink RX0 49 "HemLine$Delta" "earth" "I") (by decide +kernel)) (fun _ h9 => h9) rfl (by decide +kernel) rfl rfl (Nat.le_of_ble_eq_true rfl) dX0_takeFrom_18 (st_0_1 hE hk0 _) (fun H locs hP hS => ?_)
    refine lv_aload_n hx hb dX0_takeFrom_21 rfl (lv_at hl 0 rfl) ?_
    refine r_aload_n hx hb dX0_takeFrom_22 rfl (lv_at hl 1 rfl) ?_
    obtain ⟨k8, e9, q10, h⟩ := h
    refine r_known (ad := ad) e9 ?_
    refine va_get (ci := 0) (v := .int (gI (setI (setI s0 x0 0 (gI s0 k2 0)) x0 1 (gI (setI s0 x0 0 (gI s0 k2 0)) k5 1)) k8 2)) (C := RX0) (T := TX0) (N := 15) hx hb hts hi_X0 hown hE.1 hP k8 (w_0 hE q10) rfl 2 (by decide) (hts (.fieldLink RX0 52 "HemLine$Delta" "years" "I") (by decide +kernel)) (fun _ h9 => h9) rfl dX0_takeFrom_23 ?_
    refine r_put (σ' := (setI (setI (setI s0 x0 0 (gI s0 k2 0)) x0 1 (gI (setI s0 x0 0 (gI s0 k2 0)) k5 1)) x0 2 (gI (setI (setI s0 x0 0 (gI s0 k2 0)) x0 1 (gI (setI s0 x0 0 (gI s0 k2 0)) k5 1)) k8 2))) (ci := 0) (v := .int (gI (setI (setI s0 x0 0 (gI s0 k2 0)) x0 1 (gI (setI s0 x0 0 (gI s0 k2 0)) k5 1)) k8 2)) (ty := .int) (C := RX0) (T := TX0) (N := 15) hx hb hts hi_X0 tyX0 tyX0_ok nmX0 hown hE hP hS x0 (w_0 hE hk0) rfl 2 (by decide) (hts (.fieldLink RX0 52 "HemLine$Delta" "years" "I") (by decide +kernel)) (fun _ h9 => h9) rfl (by decide +kernel) rfl rfl (Nat.le_of_ble_eq_true rfl) dX0_takeFrom_26 (st_0_2 hE hk0 _) (fun H locs hP hS => ?_)
    refine lv_aload_n hx hb dX0_takeFrom_29 rfl (lv_at hl 0 rfl) ?_
    refine r_aload_n hx hb dX0_takeFrom_30 rfl (lv_at hl 1 rfl) ?_
    obtain ⟨k11, e12, q13, h⟩ := h
    refine r_known (ad := ad) e12 ?_
    refine va_get (ci := 0) (v := .int (gI (setI (setI (setI s0 x0 0 (gI s0 k2 0)) x0 1 (gI (setI s0 x0 0 (gI s0 k2 0)) k5 1)) x0 2 (gI (setI (setI s0 x0 0 (gI s0 k2 0)) x0 1 (gI (setI s0 x0 0 (gI s0 k2 0)) k5 1)) k8 2)) k11 3)) (C := RX0) (T := TX0) (N := 15) hx hb hts hi_X0 hown hE.1 hP k11 (w_0 hE q13) rfl 3 (by decide) (hts (.fieldLink RX0 55 "HemLine$Delta" "deeds" "I") (by decide +kernel)) (fun _ h9 => h9) rfl dX0_takeFrom_31 ?_
    refine r_put (σ' := (setI (setI (setI (setI s0 x0 0 (gI s0 k2 0)) x0 1 (gI (setI s0 x0 0 (gI s0 k2 0)) k5 1)) x0 2 (gI (setI (setI s0 x0 0 (gI s0 k2 0)) x0 1 (gI (setI s0 x0 0 (gI s0 k2 0)) k5 1)) k8 2)) x0 3 (gI (setI (setI (setI s0 x0 0 (gI s0 k2 0)) x0 1 (gI (setI s0 x0 0 (gI s0 k2 0)) k5 1)) x0 2 (gI (setI (setI s0 x0 0 (gI s0 k2 0)) x0 1 (gI (setI s0 x0 0 (gI s0 k2 0)) k5 1)) k8 2)) k11 3))) (ci := 0) (v := .int (gI (setI (setI (setI s0 x0 0 (gI s0 k2 0)) x0 1 (gI (setI s0 x0 0 (gI s0 k2 0)) k5 1)) x0 2 (gI (setI (setI s0 x0 0 (gI s0 k2 0)) x0 1 (gI (setI s0 x0 0 (gI s0 k2 0)) k5 1)) k8 2)) k11 3)) (ty := .int) (C := RX0) (T := TX0) (N := 15) hx hb hts hi_X0 tyX0 tyX0_ok nmX0 hown hE hP hS x0 (w_0 hE hk0) rfl 3 (by decide) (hts (.fieldLink RX0 55 "HemLine$Delta" "deeds" "I") (by decide +kernel)) (fun _ h9 => h9) rfl (by decide +kernel) rfl rfl (Nat.le_of_ble_eq_true rfl) dX0_takeFrom_34 (st_0_3 hE hk0 _) (fun H locs hP hS => ?_)
    refine r_aload_n hx hb dX0_takeFrom_37 rfl (lv_at hl 1 rfl) ?_
    obtain ⟨k14, e15, q16, h⟩ := h
    refine r_known (ad := ad) e15 ?_
    refine va_get (ci := 0) (v := va_re ad (tX k14 4)) (C := RX0) (T := TX0) (N := 15) hx hb hts hi_X0 hown hE.1 hP k14 (w_0 hE q16) rfl 4 (by decide) (hts (.fieldLink RX0 9 "HemLine$Delta" "ground" "[I") (by decide +kernel)) (fun _ h9 => h9) rfl dX0_takeFrom_38 ?_
    refine lv_aload_n hx hb dX0_takeFrom_41 rfl (lv_at hl 0 rfl) ?_
    refine va_get (ci := 0) (v := va_re ad (tX x0 4)) (C := RX0) (T := TX0) (N := 15) hx hb hts hi_X0 hown hE.1 hP x0 (w_0 hE hk0) rfl 4 (by decide) (hts (.fieldLink RX0 9 "HemLine$Delta" "ground" "[I") (by decide +kernel)) (fun _ h9 => h9) rfl dX0_takeFrom_42 ?_
    refine f_v (kN (As := [va_re ad (tX k14 4), va_re ad (tX x0 4)]) (rest := []) ⟨hx, hb, hml, hown, hts⟩ (c_X5_copyItems l D cs ad (tX k14 4) (tX x0 4) (setI (setI (setI (setI s0 x0 0 (gI s0 k2 0)) x0 1 (gI (setI s0 x0 0 (gI s0 k2 0)) k5 1)) x0 2 (gI (setI (setI s0 x0 0 (gI s0 k2 0)) x0 1 (gI (setI s0 x0 0 (gI s0 k2 0)) k5 1)) k8 2)) x0 3 (gI (setI (setI (setI s0 x0 0 (gI s0 k2 0)) x0 1 (gI (setI s0 x0 0 (gI s0 k2 0)) k5 1)) x0 2 (gI (setI (setI s0 x0 0 (gI s0 k2 0)) x0 1 (gI (setI s0 x0 0 (gI s0 k2 0)) k5 1)) k8 2)) k11 3)) _) ⟨va_cnB 2 hts gX0_takeFrom_X5_copyItems_n64 rfl rfl rfl (hE.2.2.2.2 ("HemLine$Delta", 64, ⟨"HemLine", "copyItems", "([I[I)V"⟩, "HemLine") (by decide +kernel)) (hts (.initialized RX5) (by decide +kernel)) (by decide +kernel) ⟨Nat.le_of_ble_eq_true rfl, Nat.le_of_ble_eq_true rfl⟩, hts (.static yX5_copyItems) (by decide +kernel), trivial⟩ hE hP h rfl hl.1 rfl (by first | exact lv_room (Nat.le_of_ble_eq_true rfl) | (refine lv_room ?_; simp [re_cat, cat_i, cat_l, cat_r])) dX0_takeFrom_45 ⟨Nat.le_refl _, Nat.le_refl _⟩) hS (fun s17 H locs h hP hS => ?_)
    refine r_aload_n hx hb dX0_takeFrom_48 rfl (lv_at hl 1 rfl) ?_
    obtain ⟨k18, e19, q20, h⟩ := h
    refine r_known (ad := ad) e19 ?_
    refine va_get (ci := 0) (v := va_re ad (tX k18 5)) (C := RX0) (T := TX0) (N := 15) hx hb hts hi_X0 hown hE.1 hP k18 (w_0 hE q20) rfl 5 (by decide) (hts (.fieldLink RX0 15 "HemLine$Delta" "kindOf" "[I") (by decide +kernel)) (fun _ h9 => h9) rfl dX0_takeFrom_49 ?_
    refine lv_aload_n hx hb dX0_takeFrom_52 rfl (lv_at hl 0 rfl) ?_
    refine va_get (ci := 0) (v := va_re ad (tX x0 5)) (C := RX0) (T := TX0) (N := 15) hx hb hts hi_X0 hown hE.1 hP x0 (w_0 hE hk0) rfl 5 (by decide) (hts (.fieldLink RX0 15 "HemLine$Delta" "kindOf" "[I") (by decide +kernel)) (fun _ h9 => h9) rfl dX0_takeFrom_53 ?_
    refine f_v (kN (As := [va_re ad (tX k18 5), va_re ad (tX x0 5)]) (rest := []) ⟨hx, hb, hml, hown, hts⟩ (c_X5_copyItems l D cs ad (tX k18 5) (tX x0 5) s17 _) ⟨va_cnB 2 hts gX0_takeFrom_X5_copyItems_n64 rfl rfl rfl (hE.2.2.2.2 ("HemLine$Delta", 64, ⟨"HemLine", "copyItems", "([I[I)V"⟩, "HemLine") (by decide +kernel)) (hts (.initialized RX5) (by decide +kernel)) (by decide +kernel) ⟨Nat.le_of_ble_eq_true rfl, Nat.le_of_ble_eq_true rfl⟩, hts (.static yX5_copyItems) (by decide +kernel), trivial⟩ hE hP h rfl hl.1 rfl (by first | exact lv_room (Nat.le_of_ble_eq_true rfl) | (refine lv_room ?_; simp [re_cat, cat_i, cat_l, cat_r])) dX0_takeFrom_56 ⟨Nat.le_refl _, Nat.le_refl _⟩) hS (fun s21 H locs h hP hS => ?_)
    refine r_aload_n hx hb dX0_takeFrom_59 rfl (lv_at hl 1 rfl) ?_
    obtain ⟨k22, e23, q24, h⟩ := h
    refine r_known (ad := ad) e23 ?_
    refine va_get (ci := 0) (v := va_re ad (tX k22 6)) (C := RX0) (T := TX0) (N := 15) hx hb hts hi_X0 hown hE.1 hP k22 (w_0 hE q24) rfl 6 (by decide) (hts (.fieldLink RX0 18 "HemLine$Delta" "placeOf" "[I") (by decide +kernel)) (fun _ h9 => h9) rfl dX0_takeFrom_60 ?_
    refine lv_aload_n hx hb dX0_takeFrom_63 rfl (lv_at hl 0 rfl) ?_
    refine va_get (ci := 0) (v := va_re ad (tX x0 6)) (C := RX0) (T := TX0) (N := 15) hx hb hts hi_X0 hown hE.1 hP x0 (w_0 hE hk0) rfl 6 (by decide) (hts (.fieldLink RX0 18 "HemLine$Delta" "placeOf" "[I") (by decide +kernel)) (fun _ h9 => h9) rfl dX0_takeFrom_64 ?_
    refine f_v (kN (As := [va_re ad (tX k22 6), va_re ad (tX x0 6)]) (rest := []) ⟨hx, hb, hml, hown, hts⟩ (c_X5_copyItems l D cs ad (tX k22 6) (tX x0 6) s21 _) ⟨va_cnB 2 hts gX0_takeFrom_X5_copyItems_n64 rfl rfl rfl (hE.2.2.2.2 ("HemLine$Delta", 64, ⟨"HemLine", "copyItems", "([I[I)V"⟩, "HemLine") (by decide +kernel)) (hts (.initialized RX5) (by decide +kernel)) (by decide +kernel) ⟨Nat.le_of_ble_eq_true rfl, Nat.le_of_ble_eq_true rfl⟩, hts (.static yX5_copyItems) (by decide +kernel), trivial⟩ hE hP h rfl hl.1 rfl (by first | exact lv_room (Nat.le_of_ble_eq_true rfl) | (refine lv_room ?_; simp [re_cat, cat_i, cat_l, cat_r])) dX0_takeFrom_67 ⟨Nat.le_refl _, Nat.le_refl _⟩) hS (fun s25 H locs h hP hS => ?_)
    refine r_aload_n hx hb dX0_takeFrom_70 rfl (lv_at hl 1 rfl) ?_
    obtain ⟨k26, e27, q28, h⟩ := h
    refine r_known (ad := ad) e27 ?_
    refine va_get (ci := 0) (v := va_re ad (tX k26 7)) (C := RX0) (T := TX0) (N := 15) hx hb hts hi_X0 hown hE.1 hP k26 (w_0 hE q28) rfl 7 (by decide) (hts (.fieldLink RX0 21 "HemLine$Delta" "tallOf" "[I") (by decide +kernel)) (fun _ h9 => h9) rfl dX0_takeFrom_71 ?_
    refine lv_aload_n hx hb dX0_takeFrom_74 rfl (lv_at hl 0 rfl) ?_
    refine va_get (ci := 0) (v := va_re ad (tX x0 7)) (C := RX0) (T := TX0) (N := 15) hx hb hts hi_X0 hown hE.1 hP x0 (w_0 hE hk0) rfl 7 (by decide) (hts (.fieldLink RX0 21 "HemLine$Delta" "tallOf" "[I") (by decide +kernel)) (fun _ h9 => h9) rfl dX0_takeFrom_75 ?_
    refine f_v (kN (As := [va_re ad (tX k26 7), va_re ad (tX x0 7)]) (rest := []) ⟨hx, hb, hml, hown, hts⟩ (c_X5_copyItems l D cs ad (tX k26 7) (tX x0 7) s25 _) ⟨va_cnB 2 hts gX0_takeFrom_X5_copyItems_n64 rfl rfl rfl (hE.2.2.2.2 ("HemLine$Delta", 64, ⟨"HemLine", "copyItems", "([I[I)V"⟩, "HemLine") (by decide +kernel)) (hts (.initialized RX5) (by decide +kernel)) (by decide +kernel) ⟨Nat.le_of_ble_eq_true rfl, Nat.le_of_ble_eq_true rfl⟩, hts (.static yX5_copyItems) (by decide +kernel), trivial⟩ hE hP h rfl hl.1 rfl (by first | exact lv_room (Nat.le_of_ble_eq_true rfl) | (refine lv_room ?_; simp [re_cat, cat_i, cat_l, cat_r])) dX0_takeFrom_78 ⟨Nat.le_refl _, Nat.le_refl _⟩) hS (fun s29 H locs h hP hS => ?_)
    refine r_aload_n hx hb dX0_takeFrom_81 rfl (lv_at hl 1 rfl) ?_
    obtain ⟨k30, e31, q32, h⟩ := h
    refine r_known (ad := ad) e31 ?_
    refine va_get (ci := 0) (v := va_re ad (tX k30 8)) (C := RX0) (T := TX0) (N := 15) hx hb hts hi_X0 hown hE.1 hP k30 (w_0 hE q32) rfl 8 (by decide) (hts (.fieldLink RX0 24 "HemLine$Delta" "tuckOf" "[I") (by decide +kernel)) (fun _ h9 => h9) rfl dX0_takeFrom_82 ?_
    refine lv_aload_n hx hb dX0_takeFrom_85 rfl (lv_at hl 0 rfl) ?_
    refine va_get (ci := 0) (v := va_re ad (tX x0 8)) (C := RX0) (T := TX0) (N := 15) hx hb hts hi_X0 hown hE.1 hP x0 (w_0 hE hk0) rfl 8 (by decide) (hts (.fieldLink RX0 24 "HemLine$Delta" "tuckOf" "[I") (by decide +kernel)) (fun _ h9 => h9) rfl dX0_takeFrom_86 ?_
    refine f_v (kN (As := [va_re ad (tX k30 8), va_re ad (tX x0 8)]) (rest := []) ⟨hx, hb, hml, hown, hts⟩ (c_X5_copyItems l D cs ad (tX k30 8) (tX x0 8) s29 _) ⟨va_cnB 2 hts gX0_takeFrom_X5_copyItems_n64 rfl rfl rfl (hE.2.2.2.2 ("HemLine$Delta", 64, ⟨"HemLine", "copyItems", "([I[I)V"⟩, "HemLine") (by decide +kernel)) (hts (.initialized RX5) (by decide +kernel)) (by decide +kernel) ⟨Nat.le_of_ble_eq_true rfl, Nat.le_of_ble_eq_true rfl⟩, hts (.static yX5_copyItems) (by decide +kernel), trivial⟩ hE hP h rfl hl.1 rfl (by first | exact lv_room (Nat.le_of_ble_eq_true rfl) | (refine lv_room ?_; simp [re_cat, cat_i, cat_l, cat_r])) dX0_takeFrom_89 ⟨Nat.le_refl _, Nat.le_refl _⟩) hS (fun s33 H locs h hP hS => ?_)
    refine r_aload_n hx hb dX0_takeFrom_92 rfl (lv_at hl 1 rfl) ?_
    obtain ⟨k34, e35, q36, h⟩ := h
    refine r_known (ad := ad) e35 ?_
    refine va_get (ci := 0) (v := va_re ad (tX k34 9)) (C := RX0) (T := TX0) (N := 15) hx hb hts hi_X0 hown hE.1 hP k34 (w_0 hE q36) rfl 9 (by decide) (hts (.fieldLink RX0 27 "HemLine$Delta" "heightOf" "[I") (by decide +kernel)) (fun _ h9 => h9) rfl dX0_takeFrom_93 ?_
    refine lv_aload_n hx hb dX0_takeFrom_96 rfl (lv_at hl 0 rfl) ?_
    refine va_get (ci := 0) (v := va_re ad (tX x0 9)) (C := RX0) (T := TX0) (N := 15) hx hb hts hi_X0 hown hE.1 hP x0 (w_0 hE hk0) rfl 9 (by decide) (hts (.fieldLink RX0 27 "HemLine$Delta" "heightOf" "[I") (by decide +kernel)) (fun _ h9 => h9) rfl dX0_takeFrom_97 ?_
    refine f_v (kN (As := [va_re ad (tX k34 9), va_re ad (tX x0 9)]) (rest := []) ⟨hx, hb, hml, hown, hts⟩ (c_X5_copyItems l D cs ad (tX k34 9) (tX x0 9) s33 _) ⟨va_cnB 2 hts gX0_takeFrom_X5_copyItems_n64 rfl rfl rfl (hE.2.2.2.2 ("HemLine$Delta", 64, ⟨"HemLine", "copyItems", "([I[I)V"⟩, "HemLine") (by decide +kernel)) (hts (.initialized RX5) (by decide +kernel)) (by decide +kernel) ⟨Nat.le_of_ble_eq_true rfl, Nat.le_of_ble_eq_true rfl⟩, hts (.static yX5_copyItems) (by decide +kernel), trivial⟩ hE hP h rfl hl.1 rfl (by first | exact lv_room (Nat.le_of_ble_eq_true rfl) | (refine lv_room ?_; simp [re_cat, cat_i, cat_l, cat_r])) dX0_takeFrom_100 ⟨Nat.le_refl _, Nat.le_refl _⟩) hS (fun s37 H locs h hP hS => ?_)
    refine r_aload_n hx hb dX0_takeFrom_103 rfl (lv_at hl 1 rfl) ?_
    obtain ⟨k38, e39, q40, h⟩ := h
    refine r_known (ad := ad) e39 ?_
    refine va_get (ci := 0) (v := va_re ad (tX k38 10)) (C := RX0) (T := TX0) (N := 15) hx hb hts hi_X0 hown hE.1 hP k38 (w_0 hE q40) rfl 10 (by decide) (hts (.fieldLink RX0 30 "HemLine$Delta" "groundThen" "[I") (by decide +kernel)) (fun _ h9 => h9) rfl dX0_takeFrom_104 ?_
    refine lv_aload_n hx hb dX0_takeFrom_107 rfl (lv_at hl 0 rfl) ?_
    refine va_get (ci := 0) (v := va_re ad (tX x0 10)) (C := RX0) (T := TX0) (N := 15) hx hb hts hi_X0 hown hE.1 hP x0 (w_0 hE hk0) rfl 10 (by decide) (hts (.fieldLink RX0 30 "HemLine$Delta" "groundThen" "[I") (by decide +kernel)) (fun _ h9 => h9) rfl dX0_takeFrom_108 ?_
    refine f_v (kN (As := [va_re ad (tX k38 10), va_re ad (tX x0 10)]) (rest := []) ⟨hx, hb, hml, hown, hts⟩ (c_X5_copyItems l D cs ad (tX k38 10) (tX x0 10) s37 _) ⟨va_cnB 2 hts gX0_takeFrom_X5_copyItems_n64 rfl rfl rfl (hE.2.2.2.2 ("HemLine$Delta", 64, ⟨"HemLine", "copyItems", "([I[I)V"⟩, "HemLine") (by decide +kernel)) (hts (.initialized RX5) (by decide +kernel)) (by decide +kernel) ⟨Nat.le_of_ble_eq_true rfl, Nat.le_of_ble_eq_true rfl⟩, hts (.static yX5_copyItems) (by decide +kernel), trivial⟩ hE hP h rfl hl.1 rfl (by first | exact lv_room (Nat.le_of_ble_eq_true rfl) | (refine lv_room ?_; simp [re_cat, cat_i, cat_l, cat_r])) dX0_takeFrom_111 ⟨Nat.le_refl _, Nat.le_refl _⟩) hS (fun s41 H locs h hP hS => ?_)
    refine r_aload_n hx hb dX0_takeFrom_114 rfl (lv_at hl 1 rfl) ?_
    obtain ⟨k42, e43, q44, h⟩ := h
    refine r_known (ad := ad) e43 ?_
    refine va_get (ci := 0) (v := va_re ad (tX k42 11)) (C := RX0) (T := TX0) (N := 15) hx hb hts hi_X0 hown hE.1 hP k42 (w_0 hE q44) rfl 11 (by decide) (hts (.fieldLink RX0 33 "HemLine$Delta" "tuckThen" "[I") (by decide +kernel)) (fun _ h9 => h9) rfl dX0_takeFrom_115 ?_
    refine lv_aload_n hx hb dX0_takeFrom_118 rfl (lv_at hl 0 rfl) ?_
    refine va_get (ci := 0) (v := va_re ad (tX x0 11)) (C := RX0) (T := TX0) (N := 15) hx hb hts hi_X0 hown hE.1 hP x0 (w_0 hE hk0) rfl 11 (by decide) (hts (.fieldLink RX0 33 "HemLine$Delta" "tuckThen" "[I") (by decide +kernel)) (fun _ h9 => h9) rfl dX0_takeFrom_119 ?_
    refine f_v (kN (As := [va_re ad (tX k42 11), va_re ad (tX x0 11)]) (rest := []) ⟨hx, hb, hml, hown, hts⟩ (c_X5_copyItems l D cs ad (tX k42 11) (tX x0 11) s41 _) ⟨va_cnB 2 hts gX0_takeFrom_X5_copyItems_n64 rfl rfl rfl (hE.2.2.2.2 ("HemLine$Delta", 64, ⟨"HemLine", "copyItems", "([I[I)V"⟩, "HemLine") (by decide +kernel)) (hts (.initialized RX5) (by decide +kernel)) (by decide +kernel) ⟨Nat.le_of_ble_eq_true rfl, Nat.le_of_ble_eq_true rfl⟩, hts (.static yX5_copyItems) (by decide +kernel), trivial⟩ hE hP h rfl hl.1 rfl (by first | exact lv_room (Nat.le_of_ble_eq_true rfl) | (refine lv_room ?_; simp [re_cat, cat_i, cat_l, cat_r])) dX0_takeFrom_122 ⟨Nat.le_refl _, Nat.le_refl _⟩) hS (fun s45 H locs h hP hS => ?_)
    refine r_aload_n hx hb dX0_takeFrom_125 rfl (lv_at hl 1 rfl) ?_
    obtain ⟨k46, e47, q48, h⟩ := h
    refine r_known (ad := ad) e47 ?_
    refine va_get (ci := 0) (v := va_re ad (tX k46 12)) (C := RX0) (T := TX0) (N := 15) hx hb hts hi_X0 hown hE.1 hP k46 (w_0 hE q48) rfl 12 (by decide) (hts (.fieldLink RX0 36 "HemLine$Delta" "deedDone" "[I") (by decide +kernel)) (fun _ h9 => h9) rfl dX0_takeFrom_126 ?_
    refine lv_aload_n hx hb dX0_takeFrom_129 rfl (lv_at hl 0 rfl) ?_
    refine va_get (ci := 0) (v := va_re ad (tX x0 12)) (C := RX0) (T := TX0) (N := 15) hx hb hts hi_X0 hown hE.1 hP x0 (w_0 hE hk0) rfl 12 (by decide) (hts (.fieldLink RX0 36 "HemLine$Delta" "deedDone" "[I") (by decide +kernel)) (fun _ h9 => h9) rfl dX0_takeFrom_130 ?_
    refine f_v (kN (As := [va_re ad (tX k46 12), va_re ad (tX x0 12)]) (rest := []) ⟨hx, hb, hml, hown, hts⟩ (c_X5_copyItems l D cs ad (tX k46 12) (tX x0 12) s45 _) ⟨va_cnB 2 hts gX0_takeFrom_X5_copyItems_n64 rfl rfl rfl (hE.2.2.2.2 ("HemLine$Delta", 64, ⟨"HemLine", "copyItems", "([I[I)V"⟩, "HemLine") (by decide +kernel)) (hts (.initialized RX5) (by decide +kernel)) (by decide +kernel) ⟨Nat.le_of_ble_eq_true rfl, Nat.le_of_ble_eq_true rfl⟩, hts (.static yX5_copyItems) (by decide +kernel), trivial⟩ hE hP h rfl hl.1 rfl (by first | exact lv_room (Nat.le_of_ble_eq_true rfl) | (refine lv_room ?_; simp [re_cat, cat_i, cat_l, cat_r])) dX0_takeFrom_133 ⟨Nat.le_refl _, Nat.le_refl _⟩) hS (fun s49 H locs h hP hS => ?_)
    refine r_aload_n hx hb dX0_takeFrom_136 rfl (lv_at hl 1 rfl) ?_
    obtain ⟨k50, e51, q52, h⟩ := h
    refine r_known (ad := ad) e51 ?_
    refine va_get (ci := 0) (v := va_re ad (tX k50 13)) (C := RX0) (T := TX0) (N := 15) hx hb hts hi_X0 hown hE.1 hP k50 (w_0 hE q52) rfl 13 (by decide) (hts (.fieldLink RX0 39 "HemLine$Delta" "deedTo" "[I") (by decide +kernel)) (fun _ h9 => h9) rfl dX0_takeFrom_137 ?_
    refine lv_aload_n hx hb dX0_takeFrom_140 rfl (lv_at hl 0 rfl) ?_
    refine va_get (ci := 0) (v := va_re ad (tX x0 13)) (C := RX0) (T := TX0) (N := 15) hx hb hts hi_X0 hown hE.1 hP x0 (w_0 hE hk0) rfl 13 (by decide) (hts (.fieldLink RX0 39 "HemLine$Delta" "deedTo" "[I") (by decide +kernel)) (fun _ h9 => h9) rfl dX0_takeFrom_141 ?_
    refine f_v (kN (As := [va_re ad (tX k50 13), va_re ad (tX x0 13)]) (rest := []) ⟨hx, hb, hml, hown, hts⟩ (c_X5_copyItems l D cs ad (tX k50 13) (tX x0 13) s49 _) ⟨va_cnB 2 hts gX0_takeFrom_X5_copyItems_n64 rfl rfl rfl (hE.2.2.2.2 ("HemLine$Delta", 64, ⟨"HemLine", "copyItems", "([I[I)V"⟩, "HemLine") (by decide +kernel)) (hts (.initialized RX5) (by decide +kernel)) (by decide +kernel) ⟨Nat.le_of_ble_eq_true rfl, Nat.le_of_ble_eq_true rfl⟩, hts (.static yX5_copyItems) (by decide +kernel), trivial⟩ hE hP h rfl hl.1 rfl (by first | exact lv_room (Nat.le_of_ble_eq_true rfl) | (refine lv_room ?_; simp [re_cat, cat_i, cat_l, cat_r])) dX0_takeFrom_144 ⟨Nat.le_refl _, Nat.le_refl _⟩) hS (fun s53 H locs h hP hS => ?_)
    refine r_aload_n hx hb dX0_takeFrom_147 rfl (lv_at hl 1 rfl) ?_
    obtain ⟨k54, e55, q56, h⟩ := h
    refine r_known (ad := ad) e55 ?_
    refine va_get (ci := 0) (v := va_re ad (tX k54 14)) (C := RX0) (T := TX0) (N := 15) hx hb hts hi_X0 hown hE.1 hP k54 (w_0 hE q56) rfl 14 (by decide) (hts (.fieldLink RX0 42 "HemLine$Delta" "deedWas" "[I") (by decide +kernel)) (fun _ h9 => h9) rfl dX0_takeFrom_148 ?_
    refine lv_aload_n hx hb dX0_takeFrom_151 rfl (lv_at hl 0 rfl) ?_
    refine va_get (ci := 0) (v := va_re ad (tX x0 14)) (C := RX0) (T := TX0) (N := 15) hx hb hts hi_X0 hown hE.1 hP x0 (w_0 hE hk0) rfl 14 (by decide) (hts (.fieldLink RX0 42 "HemLine$Delta" "deedWas" "[I") (by decide +kernel)) (fun _ h9 => h9) rfl dX0_takeFrom_152 ?_
    refine f_v (kN (As := [va_re ad (tX k54 14), va_re ad (tX x0 14)]) (rest := []) ⟨hx, hb, hml, hown, hts⟩ (c_X5_copyItems l D cs ad (tX k54 14) (tX x0 14) s53 _) ⟨va_cnB 2 hts gX0_takeFrom_X5_copyItems_n64 rfl rfl rfl (hE.2.2.2.2 ("HemLine$Delta", 64, ⟨"HemLine", "copyItems", "([I[I)V"⟩, "HemLine") (by decide +kernel)) (hts (.initialized RX5) (by decide +kernel)) (by decide +kernel) ⟨Nat.le_of_ble_eq_true rfl, Nat.le_of_ble_eq_true rfl⟩, hts (.static yX5_copyItems) (by decide +kernel), trivial⟩ hE hP h rfl hl.1 rfl (by first | exact lv_room (Nat.le_of_ble_eq_true rfl) | (refine lv_room ?_; simp [re_cat, cat_i, cat_l, cat_r])) dX0_takeFrom_155 ⟨Nat.le_refl _, Nat.le_refl _⟩) hS (fun s57 H locs h hP hS => ?_)
    exact W.vret hx hb hr (fun t ht hW => ⟨⟨_, rfl, h, pw ht hP⟩, hS.F ht⟩) hS.2.2 dX0_takeFrom_158
  · replace h := h.1 c1
    exact W.vret hx hb hr (fun t ht hW => ⟨⟨_, rfl, h, pw ht hP⟩, hS.F ht⟩) hS.2.2 dX0_takeFrom_4
def p_X0_addWoman (x0 : Nat) (x1 : Int32) (x2 : Int32) (x3 : Int32) (x4 : Int32) (s : Sg) (Q : Sg → Prop) : Prop := p_X5_setItem (tX x0 5) (gI s x0 0) x1 s (fun s1 => p_X5_setItem (tX x0 6) (gI s1 x0 0) x2 s1 (fun s2 => p_X5_setItem (tX x0 7) (gI s2 x0 0) x3 s2 (fun s3 => p_X5_setItem (tX x0 8) (gI s3 x0 0) x4 s3 (fun s4 => Q (setI s4 x0 0 ((gI s4 x0 0) + 1))))))
set_option maxHeartbeats 4000000 in
set_option maxRecDepth 100000 in
theorem c_X0_addWoman (l : Launch) (D : va_G) (cs : Cs) (ad : Nat → Nat) (x0 : Nat) (x1 : Int32) (x2 : Int32) (x3 : Int32) (x4 : Int32) (s0 : Sg) (Q : Sg → Prop) (hk0 : kX x0 = 0) : Met l yX0_addWoman wsX0_addWoman { frames := 1, cells := 0, slots := 0, locals := 22 } (Pc0 bX D cs ad [.ref (ad x0), .int x1, .int x2, .int x3, .int x4] s0 (p_X0_addWoman x0 x1 x2 x3 x4 s0 Q)) (QV bX D cs ad Q) 0 0 (fAd bX ad) := by
  refine Met.ofW (cc := cX0_addWoman) (maxL := 5) (ret := none) (by decide) rfl ?_
  intro p e s m args below meth c s₁ B0 hml hv
  obtain ⟨ha, hP, hE, h⟩ := hv
  have hx := B0.exec
  have hb := B0.bytes
  have hr := B0.returns
  have hts := atoms_spec (ws := wsX0_addWoman) B0.pre
  have hown : s.vm.findClass RX0 = some m.cls := findClass_of_methodNamed B0.named
  have hlocks := B0.notSynchronized
  have hi_X0 : ∀ w ∈ u_ws RX0 TX0 15, w ∈ wsX0_addWoman := by decide +kernel
  have hS : va_S (fAd bX ad) s.heap s.heap [] := va_S.rf
  have hl := lv_entry ([.ref (ad x0), .int x1, .int x2, .int x3, .int x4]) (n := 5) (by first | exact Nat.le_of_ble_eq_true rfl | simp [lg_sl, re_cat, cat_i, cat_l, cat_r])
  rw [show entryFrame m args 5 = entryFrame m ([.ref (ad x0), .int x1, .int x2, .int x3, .int x4] : List Value).toArray 5 by rw [ha], lg_entry_eq]
  generalize (lg_sl ([.ref (ad x0), .int x1, .int x2, .int x3, .int x4]) ++ List.replicate (5 - (lg_sl ([.ref (ad x0), .int x1, .int x2, .int x3, .int x4])).length) Slot.unset).toArray = ls at hl ⊢
  have hl : lv_has ls 5 [(0, .ref (ad x0)), (1, .int x1), (2, .int x2), (3, .int x3), (4, .int x4)] := by first | exact hl | simpa [lv_args, re_cat, cat_i, cat_l, cat_r] using hl
  unfold p_X0_addWoman at h
  refine lv_aload_n hx hb dX0_addWoman_0 rfl (lv_at hl 0 rfl) ?_
  refine va_get (ci := 0) (v := va_re ad (tX x0 5)) (C := RX0) (T := TX0) (N := 15) hx hb hts hi_X0 hown hE.1 hP x0 (w_0 hE hk0) rfl 5 (by decide) (hts (.fieldLink RX0 15 "HemLine$Delta" "kindOf" "[I") (by decide +kernel)) (fun _ h9 => h9) rfl dX0_addWoman_1 ?_
  refine lv_aload_n hx hb dX0_addWoman_4 rfl (lv_at hl 0 rfl) ?_
  refine va_get (ci := 0) (v := .int (gI s0 x0 0)) (C := RX0) (T := TX0) (N := 15) hx hb hts hi_X0 hown hE.1 hP x0 (w_0 hE hk0) rfl 0 (by decide) (hts (.fieldLink RX0 45 "HemLine$Delta" "women" "I") (by decide +kernel)) (fun _ h9 => h9) rfl dX0_addWoman_5 ?_
  refine lv_iload_n hx hb dX0_addWoman_8 rfl (lv_at hl 1 rfl) ?_
  refine f_v (kN (As := [va_re ad (tX x0 5), .int (gI s0 x0 0), .int x1]) (rest := []) ⟨hx, hb, hml, hown, hts⟩ (c_X5_setItem l D cs ad (tX x0 5) (gI s0 x0 0) x1 s0 _) ⟨va_cnB 3 hts gX0_addWoman_X5_setItem_n68 rfl rfl rfl (hE.2.2.2.2 ("HemLine$Delta", 68, ⟨"HemLine", "setItem", "([III)V"⟩, "HemLine") (by decide +kernel)) (hts (.initialized RX5) (by decide +kernel)) (by decide +kernel) ⟨Nat.le_of_ble_eq_true rfl, Nat.le_of_ble_eq_true rfl⟩, hts (.static yX5_setItem) (by decide +kernel), trivial⟩ hE hP h rfl hl.1 rfl (by first | exact lv_room (Nat.le_of_ble_eq_true rfl) | (refine lv_room ?_; simp [re_cat, cat_i, cat_l, cat_r])) dX0_addWoman_9 ⟨Nat.le_refl _, Nat.le_refl _⟩) hS (fun s1 H locs h hP hS => ?_)
  refine lv_aload_n hx hb dX0_addWoman_12 rfl (lv_at hl 0 rfl) ?_
  refine va_get (ci := 0) (v := va_re ad (tX x0 6)) (C := RX0) (T := TX0) (N := 15) hx hb hts hi_X0 hown hE.1 hP x0 (w_0 hE hk0) rfl 6 (by decide) (hts (.fieldLink RX0 18 "HemLine$Delta" "placeOf" "[I") (by decide +kernel)) (fun _ h9 => h9) rfl dX0_addWoman_13 ?_
  refine lv_aload_n hx hb dX0_addWoman_16 rfl (lv_at hl 0 rfl) ?_
  refine va_get (ci := 0) (v := .int (gI s1 x0 0)) (C := RX0) (T := TX0) (N := 15) hx hb hts hi_X0 hown hE.1 hP x0 (w_0 hE hk0) rfl 0 (by decide) (hts (.fieldLink RX0 45 "HemLine$Delta" "women" "I") (by decide +kernel)) (fun _ h9 => h9) rfl dX0_addWoman_17 ?_
  refine lv_iload_n hx hb dX0_addWoman_20 rfl (lv_at hl 2 rfl) ?_
  refine f_v (kN (As := [va_re ad (tX x0 6), .int (gI s1 x0 0), .int x2]) (rest := []) ⟨hx, hb, hml, hown, hts⟩ (c_X5_setItem l D cs ad (tX x0 6) (gI s1 x0 0) x2 s1 _) ⟨va_cnB 3 hts gX0_addWoman_X5_setItem_n68 rfl rfl rfl (hE.2.2.2.2 ("HemLine$Delta", 68, ⟨"HemLine", "setItem", "([III)V"⟩, "HemLine") (by decide +kernel)) (hts (.initialized RX5) (by decide +kernel)) (by decide +kernel) ⟨Nat.le_of_ble_eq_true rfl, Nat.le_of_ble_eq_true rfl⟩, hts (.static yX5_setItem) (by decide +kernel), trivial⟩ hE hP h rfl hl.1 rfl (by first | exact lv_room (Nat.le_of_ble_eq_true rfl) | (refine lv_room ?_; simp [re_cat, cat_i, cat_l, cat_r])) dX0_addWoman_21 ⟨Nat.le_refl _, Nat.le_refl _⟩) hS (fun s2 H locs h hP hS => ?_)
  refine lv_aload_n hx hb dX0_addWoman_24 rfl (lv_at hl 0 rfl) ?_
  refine va_get (ci := 0) (v := va_re ad (tX x0 7)) (C := RX0) (T := TX0) (N := 15) hx hb hts hi_X0 hown hE.1 hP x0 (w_0 hE hk0) rfl 7 (by decide) (hts (.fieldLink RX0 21 "HemLine$Delta" "tallOf" "[I") (by decide +kernel)) (fun _ h9 => h9) rfl dX0_addWoman_25 ?_
  refine lv_aload_n hx hb dX0_addWoman_28 rfl (lv_at hl 0 rfl) ?_
  refine va_get (ci := 0) (v := .int (gI s2 x0 0)) (C := RX0) (T := TX0) (N := 15) hx hb hts hi_X0 hown hE.1 hP x0 (w_0 hE hk0) rfl 0 (by decide) (hts (.fieldLink RX0 45 "HemLine$Delta" "women" "I") (by decide +kernel)) (fun _ h9 => h9) rfl dX0_addWoman_29 ?_
  refine lv_iload_n hx hb dX0_addWoman_32 rfl (lv_at hl 3 rfl) ?_
  refine f_v (kN (As := [va_re ad (tX x0 7), .int (gI s2 x0 0), .int x3]) (rest := []) ⟨hx, hb, hml, hown, hts⟩ (c_X5_setItem l D cs ad (tX x0 7) (gI s2 x0 0) x3 s2 _) ⟨va_cnB 3 hts gX0_addWoman_X5_setItem_n68 rfl rfl rfl (hE.2.2.2.2 ("HemLine$Delta", 68, ⟨"HemLine", "setItem", "([III)V"⟩, "HemLine") (by decide +kernel)) (hts (.initialized RX5) (by decide +kernel)) (by decide +kernel) ⟨Nat.le_of_ble_eq_true rfl, Nat.le_of_ble_eq_true rfl⟩, hts (.static yX5_setItem) (by decide +kernel), trivial⟩ hE hP h rfl hl.1 rfl (by first | exact lv_room (Nat.le_of_ble_eq_true rfl) | (refine lv_room ?_; simp [re_cat, cat_i, cat_l, cat_r])) dX0_addWoman_33 ⟨Nat.le_refl _, Nat.le_refl _⟩) hS (fun s3 H locs h hP hS => ?_)
  refine lv_aload_n hx hb dX0_addWoman_36 rfl (lv_at hl 0 rfl) ?_
  refine va_get (ci := 0) (v := va_re ad (tX x0 8)) (C := RX0) (T := TX0) (N := 15) hx hb hts hi_X0 hown hE.1 hP x0 (w_0 hE hk0) rfl 8 (by decide) (hts (.fieldLink RX0 24 "HemLine$Delta" "tuckOf" "[I") (by decide +kernel)) (fun _ h9 => h9) rfl dX0_addWoman_37 ?_
  refine lv_aload_n hx hb dX0_addWoman_40 rfl (lv_at hl 0 rfl) ?_
  refine va_get (ci := 0) (v := .int (gI s3 x0 0)) (C := RX0) (T := TX0) (N := 15) hx hb hts hi_X0 hown hE.1 hP x0 (w_0 hE hk0) rfl 0 (by decide) (hts (.fieldLink RX0 45 "HemLine$Delta" "women" "I") (by decide +kernel)) (fun _ h9 => h9) rfl dX0_addWoman_41 ?_
  refine lv_iload hx hb dX0_addWoman_44 (lv_at hl 4 rfl) ?_
  refine f_v (kN (As := [va_re ad (tX x0 8), .int (gI s3 x0 0), .int x4]) (rest := []) ⟨hx, hb, hml, hown, hts⟩ (c_X5_setItem l D cs ad (tX x0 8) (gI s3 x0 0) x4 s3 _) ⟨va_cnB 3 hts gX0_addWoman_X5_setItem_n68 rfl rfl rfl (hE.2.2.2.2 ("HemLine$Delta", 68, ⟨"HemLine", "setItem", "([III)V"⟩, "HemLine") (by decide +kernel)) (hts (.initialized RX5) (by decide +kernel)) (by decide +kernel) ⟨Nat.le_of_ble_eq_true rfl, Nat.le_of_ble_eq_true rfl⟩, hts (.static yX5_setItem) (by decide +kernel), trivial⟩ hE hP h rfl hl.1 rfl (by first | exact lv_room (Nat.le_of_ble_eq_true rfl) | (refine lv_room ?_; simp [re_cat, cat_i, cat_l, cat_r])) dX0_addWoman_46 ⟨Nat.le_refl _, Nat.le_refl _⟩) hS (fun s4 H locs h hP hS => ?_)
  refine lv_aload_n hx hb dX0_addWoman_49 rfl (lv_at hl 0 rfl) ?_
  refine lv_dup hx hb dX0_addWoman_50 (by first | rfl | exact re_cat _ _) ?_
  refine va_get (ci := 0) (v := .int (gI s4 x0 0)) (C := RX0) (T := TX0) (N := 15) hx hb hts hi_X0 hown hE.1 hP x0 (w_0 hE hk0) rfl 0 (by decide) (hts (.fieldLink RX0 45 "HemLine$Delta" "women" "I") (by decide +kernel)) (fun _ h9 => h9) rfl dX0_addWoman_51 ?_
  refine lv_iconst (v := 1) hx hb dX0_addWoman_54 (by decide) ?_
  refine lv_iadd hx hb dX0_addWoman_55 ?_
  refine r_put (σ' := (setI s4 x0 0 ((gI s4 x0 0) + 1))) (ci := 0) (v := .int ((gI s4 x0 0) + 1)) (ty := .int) (C := RX0) (T := TX0) (N := 15) hx hb hts hi_X0 tyX0 tyX0_ok nmX0 hown hE hP hS x0 (w_0 hE hk0) rfl 0 (by decide) (hts (.fieldLink RX0 45 "HemLine$Delta" "women" "I") (by decide +kernel)) (fun _ h9 => h9) rfl (by decide +kernel) rfl rfl (Nat.le_of_ble_eq_true rfl) dX0_addWoman_56 (st_0_0 hE hk0 _) (fun H locs hP hS => ?_)
  exact W.vret hx hb hr (fun t ht hW => ⟨⟨_, rfl, h, pw ht hP⟩, hS.F ht⟩) hS.2.2 dX0_addWoman_59
def p_X0_everyone (x0 : Nat) (s : Sg) (Q : Int32 → Sg → Prop) : Prop := Q ((1 <<< ((gI s x0 0) &&& 31)) - 1) s
set_option maxHeartbeats 4000000 in
set_option maxRecDepth 100000 in
theorem c_X0_everyone (l : Launch) (D : va_G) (cs : Cs) (ad : Nat → Nat) (x0 : Nat) (s0 : Sg) (Q : Int32 → Sg → Prop) (hk0 : kX x0 = 0) : Met l yX0_everyone wsX0_everyone { frames := 0, cells := 0, slots := 0, locals := 0 } (Pc0 bX D cs ad [.ref (ad x0)] s0 (p_X0_everyone x0 s0 Q)) (QI bX D cs ad Q) 0 0 (fAd bX ad) := by
  refine Met.ofW (cc := cX0_everyone) (maxL := 1) (ret := (some .int)) (by decide) rfl ?_
  intro p e s m args below meth c s₁ B0 hml hv
  obtain ⟨ha, hP, hE, h⟩ := hv
  have hx := B0.exec
  have hb := B0.bytes
  have hr := B0.returns
  have hts := atoms_spec (ws := wsX0_everyone) B0.pre
  have hown : s.vm.findClass RX0 = some m.cls := findClass_of_methodNamed B0.named
  have hlocks := B0.notSynchronized
  have hi_X0 : ∀ w ∈ u_ws RX0 TX0 15, w ∈ wsX0_everyone := by decide +kernel
  have hS : va_S (fAd bX ad) s.heap s.heap [] := va_S.rf
  have hl := lv_entry ([.ref (ad x0)]) (n := 1) (by first | exact Nat.le_of_ble_eq_true rfl | simp [lg_sl, re_cat, cat_i, cat_l, cat_r])
  rw [show entryFrame m args 1 = entryFrame m ([.ref (ad x0)] : List Value).toArray 1 by rw [ha], lg_entry_eq]
  generalize (lg_sl ([.ref (ad x0)]) ++ List.replicate (1 - (lg_sl ([.ref (ad x0)])).length) Slot.unset).toArray = ls at hl ⊢
  have hl : lv_has ls 1 [(0, .ref (ad x0))] := by first | exact hl | simpa [lv_args, re_cat, cat_i, cat_l, cat_r] using hl
  unfold p_X0_everyone at h
  refine lv_iconst (v := 1) hx hb dX0_everyone_0 (by decide) ?_
  refine lv_aload_n hx hb dX0_everyone_1 rfl (lv_at hl 0 rfl) ?_
  refine va_get (ci := 0) (v := .int (gI s0 x0 0)) (C := RX0) (T := TX0) (N := 15) hx hb hts hi_X0 hown hE.1 hP x0 (w_0 hE hk0) rfl 0 (by decide) (hts (.fieldLink RX0 45 "HemLine$Delta" "women" "I") (by decide +kernel)) (fun _ h9 => h9) rfl dX0_everyone_2 ?_
  refine lv_ishl hx hb dX0_everyone_5 ?_
  refine lv_iconst (v := 1) hx hb dX0_everyone_6 (by decide) ?_
  refine lv_isub hx hb dX0_everyone_7 ?_
  exact W.iret hx hb hr (fun t ht hW => ⟨⟨_, _, rfl, h, pw ht hP⟩, hS.F ht⟩) hS.2.2 dX0_everyone_8
def p_X0_groundUnder (x0 : Nat) (x1 : Int32) (s : Sg) (Q : Int32 → Sg → Prop) : Prop := p_X5_item (tX x0 6) x1 s (fun r2 s1 => p_X5_item (tX x0 4) r2 s1 (fun r4 s3 => Q r4 s3))
set_option maxHeartbeats 4000000 in
set_option maxRecDepth 100000 in
theorem c_X0_groundUnder (l : Launch) (D : va_G) (cs : Cs) (ad : Nat → Nat) (x0 : Nat) (x1 : Int32) (s0 : Sg) (Q : Int32 → Sg → Prop) (hk0 : kX x0 = 0) : Met l yX0_groundUnder wsX0_groundUnder { frames := 1, cells := 0, slots := 0, locals := 21 } (Pc0 bX D cs ad [.ref (ad x0), .int x1] s0 (p_X0_groundUnder x0 x1 s0 Q)) (QI bX D cs ad Q) 0 0 (fAd bX ad) := by
  refine Met.ofW (cc := cX0_groundUnder) (maxL := 2) (ret := (some .int)) (by decide) rfl ?_
  intro p e s m args below meth c s₁ B0 hml hv
  obtain ⟨ha, hP, hE, h⟩ := hv
  have hx := B0.exec
  have hb := B0.bytes
  have hr := B0.returns
  have hts := atoms_spec (ws := wsX0_groundUnder) B0.pre
  have hown : s.vm.findClass RX0 = some m.cls := findClass_of_methodNamed B0.named
  have hlocks := B0.notSynchronized
  have hi_X0 : ∀ w ∈ u_ws RX0 TX0 15, w ∈ wsX0_groundUnder := by decide +kernel
  have hS : va_S (fAd bX ad) s.heap s.heap [] := va_S.rf
  have hl := lv_entry ([.ref (ad x0), .int x1]) (n := 2) (by first | exact Nat.le_of_ble_eq_true rfl | simp [lg_sl, re_cat, cat_i, cat_l, cat_r])
  rw [show entryFrame m args 2 = entryFrame m ([.ref (ad x0), .int x1] : List Value).toArray 2 by rw [ha], lg_entry_eq]
  generalize (lg_sl ([.ref (ad x0), .int x1]) ++ List.replicate (2 - (lg_sl ([.ref (ad x0), .int x1])).length) Slot.unset).toArray = ls at hl ⊢
  have hl : lv_has ls 2 [(0, .ref (ad x0)), (1, .int x1)] := by first | exact hl | simpa [lv_args, re_cat, cat_i, cat_l, cat_r] using hl
  unfold p_X0_groundUnder at h
  refine lv_aload_n hx hb dX0_groundUnder_0 rfl (lv_at hl 0 rfl) ?_
  refine va_get (ci := 0) (v := va_re ad (tX x0 4)) (C := RX0) (T := TX0) (N := 15) hx hb hts hi_X0 hown hE.1 hP x0 (w_0 hE hk0) rfl 4 (by decide) (hts (.fieldLink RX0 9 "HemLine$Delta" "ground" "[I") (by decide +kernel)) (fun _ h9 => h9) rfl dX0_groundUnder_1 ?_
  refine lv_aload_n hx hb dX0_groundUnder_4 rfl (lv_at hl 0 rfl) ?_
  refine va_get (ci := 0) (v := va_re ad (tX x0 6)) (C := RX0) (T := TX0) (N := 15) hx hb hts hi_X0 hown hE.1 hP x0 (w_0 hE hk0) rfl 6 (by decide) (hts (.fieldLink RX0 18 "HemLine$Delta" "placeOf" "[I") (by decide +kernel)) (fun _ h9 => h9) rfl dX0_groundUnder_5 ?_
  refine lv_iload_n hx hb dX0_groundUnder_8 rfl (lv_at hl 1 rfl) ?_
  refine f_i (kN (As := [va_re ad (tX x0 6), .int x1]) (rest := [va_re ad (tX x0 4)]) ⟨hx, hb, hml, hown, hts⟩ (c_X5_item l D cs ad (tX x0 6) x1 s0 _) ⟨va_cnB 2 hts gX0_groundUnder_X5_item_n72 rfl rfl rfl (hE.2.2.2.2 ("HemLine$Delta", 72, ⟨"HemLine", "item", "([II)I"⟩, "HemLine") (by decide +kernel)) (hts (.initialized RX5) (by decide +kernel)) (by decide +kernel) ⟨Nat.le_of_ble_eq_true rfl, Nat.le_of_ble_eq_true rfl⟩, hts (.static yX5_item) (by decide +kernel), trivial⟩ hE hP h rfl hl.1 rfl (by first | exact lv_room (Nat.le_of_ble_eq_true rfl) | (refine lv_room ?_; simp [re_cat, cat_i, cat_l, cat_r])) dX0_groundUnder_9 ⟨Nat.le_refl _, Nat.le_refl _⟩) hS (fun r2 s1 H locs h hP hS => ?_)
  refine f_i (kN (As := [va_re ad (tX x0 4), .int r2]) (rest := []) ⟨hx, hb, hml, hown, hts⟩ (c_X5_item l D cs ad (tX x0 4) r2 s1 _) ⟨va_cnB 2 hts gX0_groundUnder_X5_item_n72 rfl rfl rfl (hE.2.2.2.2 ("HemLine$Delta", 72, ⟨"HemLine", "item", "([II)I"⟩, "HemLine") (by decide +kernel)) (hts (.initialized RX5) (by decide +kernel)) (by decide +kernel) ⟨Nat.le_of_ble_eq_true rfl, Nat.le_of_ble_eq_true rfl⟩, hts (.static yX5_item) (by decide +kernel), trivial⟩ hE hP h rfl hl.1 rfl (by first | exact lv_room (Nat.le_of_ble_eq_true rfl) | (refine lv_room ?_; simp [re_cat, cat_i, cat_l, cat_r])) dX0_groundUnder_12 ⟨Nat.le_refl _, Nat.le_refl _⟩) hS (fun r4 s3 H locs h hP hS => ?_)
  exact W.iret hx hb hr (fun t ht hW => ⟨⟨_, _, rfl, h, pw ht hP⟩, hS.F ht⟩) hS.2.2 dX0_groundUnder_15
def p_X0_wetOf (x0 : Nat) (x1 : Int32) (x2 : Int32) (s : Sg) (Q : Int32 → Sg → Prop) : Prop := p_X0_groundUnder x0 x1 s (fun r2 s1 => Q ((if 0 < (x2 - r2) then (x2 - r2) else 0)) s1)
set_option maxHeartbeats 4000000 in
set_option maxRecDepth 100000 in
theorem c_X0_wetOf (l : Launch) (D : va_G) (cs : Cs) (ad : Nat → Nat) (x0 : Nat) (x1 : Int32) (x2 : Int32) (s0 : Sg) (Q : Int32 → Sg → Prop) (hk0 : kX x0 = 0) : Met l yX0_wetOf wsX0_wetOf { frames := 2, cells := 0, slots := 0, locals := 42 } (Pc0 bX D cs ad [.ref (ad x0), .int x1, .int x2] s0 (p_X0_wetOf x0 x1 x2 s0 Q)) (QI bX D cs ad Q) 0 0 (fAd bX ad) := by
  refine Met.ofW (cc := cX0_wetOf) (maxL := 3) (ret := (some .int)) (by decide) rfl ?_
  intro p e s m args below meth c s₁ B0 hml hv
  obtain ⟨ha, hP, hE, h⟩ := hv
  have hx := B0.exec
  have hb := B0.bytes
  have hr := B0.returns
  have hts := atoms_spec (ws := wsX0_wetOf) B0.pre
  have hown : s.vm.findClass RX0 = some m.cls := findClass_of_methodNamed B0.named
  have hlocks := B0.notSynchronized
  have hS : va_S (fAd bX ad) s.heap s.heap [] := va_S.rf
  have hl := lv_entry ([.ref (ad x0), .int x1, .int x2]) (n := 3) (by first | exact Nat.le_of_ble_eq_true rfl | simp [lg_sl, re_cat, cat_i, cat_l, cat_r])
  rw [show entryFrame m args 3 = entryFrame m ([.ref (ad x0), .int x1, .int x2] : List Value).toArray 3 by rw [ha], lg_entry_eq]
  generalize (lg_sl ([.ref (ad x0), .int x1, .int x2]) ++ List.replicate (3 - (lg_sl ([.ref (ad x0), .int x1, .int x2])).length) Slot.unset).toArray = ls at hl ⊢
  have hl : lv_has ls 3 [(0, .ref (ad x0)), (1, .int x1), (2, .int x2)] := by first | exact hl | simpa [lv_args, re_cat, cat_i, cat_l, cat_r] using hl
  unfold p_X0_wetOf at h
  refine lv_iconst (v := 0) hx hb dX0_wetOf_0 (by decide) ?_
  refine lv_iload_n hx hb dX0_wetOf_1 rfl (lv_at hl 2 rfl) ?_
  refine lv_aload_n hx hb dX0_wetOf_2 rfl (lv_at hl 0 rfl) ?_
  refine lv_iload_n hx hb dX0_wetOf_3 rfl (lv_at hl 1 rfl) ?_
  refine f_i (kV (As := [.int x1]) (rest := [.int x2, .int 0]) (o := some x0) rfl ⟨hx, hb, hml, hown, hts⟩ (c_X0_groundUnder l D cs ad x0 x1 s0 _ hk0) (cwV 1 hts gX0_wetOf_X0_groundUnder rfl rfl rfl (by decide +kernel) ⟨Nat.le_of_ble_eq_true rfl, Nat.le_of_ble_eq_true rfl⟩) hE hP rfl rfl (w_0 hE hk0) h rfl hl.1 rfl (by first | exact lv_room (Nat.le_of_ble_eq_true rfl) | (refine lv_room ?_; simp [re_cat, cat_i, cat_l, cat_r])) dX0_wetOf_4 ⟨Nat.le_refl _, Nat.le_refl _⟩) hS (fun r2 s1 H locs h hP hS => ?_)
  refine lv_isub hx hb dX0_wetOf_7 ?_
  refine va_mmax hx hb (hml.trans hl.1.symm) hown (hts (.methodLink RX0 80 Lib.Math.max.name) (by decide +kernel)) (hts (.static Lib.Math.max.name) (by decide +kernel)) (hts (.initialized "java/lang/Math") (by decide +kernel)) (hts (.code Lib.Math.max.name Lib.Math.max.code 2 (some .int)) (by decide +kernel)) (Nat.le_of_ble_eq_true rfl) (by first | exact Nat.le_of_ble_eq_true rfl | (simp only [List.map, re_cat, cat_i, cat_l, cat_r, List.sum_cons, List.sum_nil]; exact Nat.le_of_ble_eq_true rfl)) (Nat.le_refl _) (Nat.le_refl _) dX0_wetOf_8 ?_
  exact W.iret hx hb hr (fun t ht hW => ⟨⟨_, _, rfl, h, pw ht hP⟩, hS.F ht⟩) hS.2.2 dX0_wetOf_11
def p_X0_howManyWet_b24 (Q : Int32 → Sg → Prop) (K4 : Nat → Int32 → Int32 → Int32 → Sg → Prop) (x0 : Nat) (x1 : Int32) (x2 : Int32) (x3 : Int32) (s : Sg) : Prop := K4 x0 x1 x2 (x3 + 1) s
def p_X0_howManyWet_L4 (Q : Int32 → Sg → Prop)  : Nat → Nat → Int32 → Int32 → Int32 → Sg → Prop
  | 0, _, _, _, _, _ => False
  | n + 1, x0, x1, x2, x3, s => (((gI s x0 0) ≤ x3 → Q x2 s) ∧ (¬ (gI s x0 0) ≤ x3 → p_X0_wetOf x0 x3 x1 s (fun r3 s2 => ((r3 ≤ 0 → p_X0_howManyWet_b24 Q (fun y0 y1 y2 y3 u => p_X0_howManyWet_L4 Q  n y0 y1 y2 y3 u) x0 x1 x2 x3 s2) ∧ (¬ r3 ≤ 0 → p_X0_howManyWet_b24 Q (fun y0 y1 y2 y3 u => p_X0_howManyWet_L4 Q  n y0 y1 y2 y3 u) x0 x1 (x2 + 1) x3 s2)))))
def p_X0_howManyWet (x0 : Nat) (x1 : Int32) (s : Sg) (Q : Int32 → Sg → Prop) : Prop := (∃ n1, p_X0_howManyWet_L4 Q  n1 x0 x1 0 0 s)
set_option maxHeartbeats 4000000 in
set_option maxRecDepth 100000 in
theorem c_X0_howManyWet (l : Launch) (D : va_G) (cs : Cs) (ad : Nat → Nat) (x0 : Nat) (x1 : Int32) (s0 : Sg) (Q : Int32 → Sg → Prop) (hk0 : kX x0 = 0) : Met l yX0_howManyWet wsX0_howManyWet { frames := 3, cells := 0, slots := 0, locals := 64 } (Pc0 bX D cs ad [.ref (ad x0), .int x1] s0 (p_X0_howManyWet x0 x1 s0 Q)) (QI bX D cs ad Q) 0 0 (fAd bX ad) := by
  refine Met.ofW (cc := cX0_howManyWet) (maxL := 4) (ret := (some .int)) (by decide) rfl ?_
  intro p e s m args below meth c s₁ B0 hml hv
  obtain ⟨ha, hP, hE, h⟩ := hv
  have hx := B0.exec
  have hb := B0.bytes
  have hr := B0.returns
  have hts := atoms_spec (ws := wsX0_howManyWet) B0.pre
  have hown : s.vm.findClass RX0 = some m.cls := findClass_of_methodNamed B0.named
  have hlocks := B0.notSynchronized
  have hi_X0 : ∀ w ∈ u_ws RX0 TX0 15, w ∈ wsX0_howManyWet := by decide +kernel
  have hS : va_S (fAd bX ad) s.heap s.heap [] := va_S.rf
  have hl := lv_entry ([.ref (ad x0), .int x1]) (n := 4) (by first | exact Nat.le_of_ble_eq_true rfl | simp [lg_sl, re_cat, cat_i, cat_l, cat_r])
  rw [show entryFrame m args 4 = entryFrame m ([.ref (ad x0), .int x1] : List Value).toArray 4 by rw [ha], lg_entry_eq]
  generalize (lg_sl ([.ref (ad x0), .int x1]) ++ List.replicate (4 - (lg_sl ([.ref (ad x0), .int x1])).length) Slot.unset).toArray = ls at hl ⊢
  have hl : lv_has ls 4 [(0, .ref (ad x0)), (1, .int x1)] := by first | exact hl | simpa [lv_args, re_cat, cat_i, cat_l, cat_r] using hl
  have hB4 : ∀ (n4 : Nat) (x1 : Int32) (x2 : Int32) (x3 : Int32) (σ : Sg) (H : Heap) (locs : List Loc) (ls : Array Slot), p_X0_howManyWet_L4 Q  n4 x0 x1 x2 x3 σ → va_P D vwCl (wl bX cs ad σ) H → va_S (fAd bX ad) s.heap H locs → lv_has ls 4 [(0, .ref (ad x0)), (1, .int x1), (2, .int x2), (3, .int x3)] → W p l e { frames := 3, cells := 0, slots := 0, locals := 64 } s m args below meth c H locs 0 0 (MQ below (QI bX D cs ad Q) args s 0 0 (fAd bX ad)) (F0 m 4 ls []) := by
    intro n4
    induction n4 with
    | zero =>
      intro x1 x2 x3 σ H locs ls h
      exact h.elim
    | succ n4 ih =>
      have hK4 := ih
      have hB24 : ∀ (x1 : Int32) (x2 : Int32) (x3 : Int32) (σ : Sg) (H : Heap) (locs : List Loc) (ls : Array Slot), p_X0_howManyWet_b24 Q (fun y0 y1 y2 y3 u => p_X0_howManyWet_L4 Q  n4 y0 y1 y2 y3 u) x0 x1 x2 x3 σ → va_P D vwCl (wl bX cs ad σ) H → va_S (fAd bX ad) s.heap H locs → lv_has ls 4 [(0, .ref (ad x0)), (1, .int x1), (2, .int x2), (3, .int x3)] → W p l e { frames := 3, cells := 0, slots := 0, locals := 64 } s m args below meth c H locs 0 0 (MQ below (QI bX D cs ad Q) args s 0 0 (fAd bX ad)) (F0 m 24 ls []) := by
        intro x1 x2 x3 σ H locs ls h hP hS hl
        unfold p_X0_howManyWet_b24 at h
        refine lv_iinc (v := x3 + 1) (lv' := [(3, .int (x3 + 1)), (0, .ref (ad x0)), (1, .int x1), (2, .int x2)]) hx hb dX0_howManyWet_24 hl (k := 3) rfl rfl (by decide) (by first | rfl | simp [re_cat, cat_i, cat_l, cat_r]) (fun ls hl => ?_)
        refine lv_goto (tgt := 4) hx hb dX0_howManyWet_27 (by decide) ?_
        exact hK4 x1 x2 (x3 + 1) σ H locs ls h hP hS (lv_sub hl [1, 2, 3, 0] rfl)
      intro x1 x2 x3 σ H locs ls h hP hS hl
      rw [p_X0_howManyWet_L4] at h
      refine lv_iload_n hx hb dX0_howManyWet_4 rfl (lv_at hl 3 rfl) ?_
      refine lv_aload_n hx hb dX0_howManyWet_5 rfl (lv_at hl 0 rfl) ?_
      refine va_get (ci := 0) (v := .int (gI σ x0 0)) (C := RX0) (T := TX0) (N := 15) hx hb hts hi_X0 hown hE.1 hP x0 (w_0 hE hk0) rfl 0 (by decide) (hts (.fieldLink RX0 45 "HemLine$Delta" "women" "I") (by decide +kernel)) (fun _ h9 => h9) rfl dX0_howManyWet_6 ?_
      refine lv_icmp_ge (tgt := 30) hx hb dX0_howManyWet_9 (by decide) (fun c1 => ?_) (fun c1 => ?_)
      · replace h := h.1 c1
        refine lv_iload_n hx hb dX0_howManyWet_30 rfl (lv_at hl 2 rfl) ?_
        exact W.iret hx hb hr (fun t ht hW => ⟨⟨_, _, rfl, h, pw ht hP⟩, hS.F ht⟩) hS.2.2 dX0_howManyWet_31
      · replace h := h.2 c1
        refine lv_aload_n hx hb dX0_howManyWet_12 rfl (lv_at hl 0 rfl) ?_
        refine lv_iload_n hx hb dX0_howManyWet_13 rfl (lv_at hl 3 rfl) ?_
        refine lv_iload_n hx hb dX0_howManyWet_14 rfl (lv_at hl 1 rfl) ?_
        refine f_i (kV (As := [.int x3, .int x1]) (rest := []) (o := some x0) rfl ⟨hx, hb, hml, hown, hts⟩ (c_X0_wetOf l D cs ad x0 x3 x1 σ _ hk0) (cwV 2 hts gX0_howManyWet_X0_wetOf rfl rfl rfl (by decide +kernel) ⟨Nat.le_of_ble_eq_true rfl, Nat.le_of_ble_eq_true rfl⟩) hE hP rfl rfl (w_0 hE hk0) h rfl hl.1 rfl (by first | exact lv_room (Nat.le_of_ble_eq_true rfl) | (refine lv_room ?_; simp [re_cat, cat_i, cat_l, cat_r])) dX0_howManyWet_15 ⟨Nat.le_refl _, Nat.le_refl _⟩) hS (fun r3 s2 H locs h hP hS => ?_)
        refine lv_if_le (tgt := 24) hx hb dX0_howManyWet_18 (by decide) (fun c4 => ?_) (fun c4 => ?_)
        · replace h := h.1 c4
          exact hB24 x1 x2 x3 s2 H locs ls h hP hS (lv_sub hl [0, 1, 2, 3] rfl)
        · replace h := h.2 c4
          refine lv_iinc (v := x2 + 1) (lv' := [(2, .int (x2 + 1)), (0, .ref (ad x0)), (1, .int x1), (3, .int x3)]) hx hb dX0_howManyWet_21 hl (k := 2) rfl rfl (by decide) (by first | rfl | simp [re_cat, cat_i, cat_l, cat_r]) (fun ls hl => ?_)
          exact hB24 x1 (x2 + 1) x3 s2 H locs ls h hP hS (lv_sub hl [1, 2, 0, 3] rfl)
  unfold p_X0_howManyWet at h
  refine lv_iconst (v := 0) hx hb dX0_howManyWet_0 (by decide) ?_
  refine lv_istore_n (i := 2) (lv' := [(2, .int 0), (0, .ref (ad x0)), (1, .int x1)]) hx hb dX0_howManyWet_1 rfl hl (by decide) (by first | rfl | simp [re_cat, cat_i, cat_l, cat_r]) (fun ls hl => ?_)
  refine lv_iconst (v := 0) hx hb dX0_howManyWet_2 (by decide) ?_
  refine lv_istore_n (i := 3) (lv' := [(3, .int 0), (2, .int 0), (0, .ref (ad x0)), (1, .int x1)]) hx hb dX0_howManyWet_3 rfl hl (by decide) (by first | rfl | simp [re_cat, cat_i, cat_l, cat_r]) (fun ls hl => ?_)
  obtain ⟨n1, h⟩ := h
  exact hB4 n1 x1 0 0 s0 _ _ ls h hP hS (lv_sub hl [2, 3, 1, 0] rfl)
def p_X0_wetTogether_L4 (Q : Int32 → Sg → Prop)  : Nat → Nat → Int32 → Int32 → Int32 → Sg → Prop
  | 0, _, _, _, _, _ => False
  | n + 1, x0, x1, x2, x3, s => (((gI s x0 0) ≤ x3 → Q x2 s) ∧ (¬ (gI s x0 0) ≤ x3 → p_X0_wetOf x0 x3 x1 s (fun r3 s2 => p_X0_wetTogether_L4 Q  n x0 x1 (x2 + r3) (x3 + 1) s2)))
def p_X0_wetTogether (x0 : Nat) (x1 : Int32) (s : Sg) (Q : Int32 → Sg → Prop) : Prop := (∃ n1, p_X0_wetTogether_L4 Q  n1 x0 x1 0 0 s)
set_option maxHeartbeats 4000000 in
set_option maxRecDepth 100000 in
theorem c_X0_wetTogether (l : Launch) (D : va_G) (cs : Cs) (ad : Nat → Nat) (x0 : Nat) (x1 : Int32) (s0 : Sg) (Q : Int32 → Sg → Prop) (hk0 : kX x0 = 0) : Met l yX0_wetTogether wsX0_wetTogether { frames := 3, cells := 0, slots := 0, locals := 64 } (Pc0 bX D cs ad [.ref (ad x0), .int x1] s0 (p_X0_wetTogether x0 x1 s0 Q)) (QI bX D cs ad Q) 0 0 (fAd bX ad) := by
  refine Met.ofW (cc := cX0_wetTogether) (maxL := 4) (ret := (some .int)) (by decide) rfl ?_
  intro p e s m args below meth c s₁ B0 hml hv
  obtain ⟨ha, hP, hE, h⟩ := hv
  have hx := B0.exec
  have hb := B0.bytes
  have hr := B0.returns
  have hts := atoms_spec (ws := wsX0_wetTogether) B0.pre
  have hown : s.vm.findClass RX0 = some m.cls := findClass_of_methodNamed B0.named
  have hlocks := B0.notSynchronized
  have hi_X0 : ∀ w ∈ u_ws RX0 TX0 15, w ∈ wsX0_wetTogether := by decide +kernel
  have hS : va_S (fAd bX ad) s.heap s.heap [] := va_S.rf
  have hl := lv_entry ([.ref (ad x0), .int x1]) (n := 4) (by first | exact Nat.le_of_ble_eq_true rfl | simp [lg_sl, re_cat, cat_i, cat_l, cat_r])
  rw [show entryFrame m args 4 = entryFrame m ([.ref (ad x0), .int x1] : List Value).toArray 4 by rw [ha], lg_entry_eq]
  generalize (lg_sl ([.ref (ad x0), .int x1]) ++ List.replicate (4 - (lg_sl ([.ref (ad x0), .int x1])).length) Slot.unset).toArray = ls at hl ⊢
  have hl : lv_has ls 4 [(0, .ref (ad x0)), (1, .int x1)] := by first | exact hl | simpa [lv_args, re_cat, cat_i, cat_l, cat_r] using hl
  have hB4 : ∀ (n4 : Nat) (x1 : Int32) (x2 : Int32) (x3 : Int32) (σ : Sg) (H : Heap) (locs : List Loc) (ls : Array Slot), p_X0_wetTogether_L4 Q  n4 x0 x1 x2 x3 σ → va_P D vwCl (wl bX cs ad σ) H → va_S (fAd bX ad) s.heap H locs → lv_has ls 4 [(0, .ref (ad x0)), (1, .int x1), (2, .int x2), (3, .int x3)] → W p l e { frames := 3, cells := 0, slots := 0, locals := 64 } s m args below meth c H locs 0 0 (MQ below (QI bX D cs ad Q) args s 0 0 (fAd bX ad)) (F0 m 4 ls []) := by
    intro n4
    induction n4 with
    | zero =>
      intro x1 x2 x3 σ H locs ls h
      exact h.elim
    | succ n4 ih =>
      have hK4 := ih
      intro x1 x2 x3 σ H locs ls h hP hS hl
      rw [p_X0_wetTogether_L4] at h
      refine lv_iload_n hx hb dX0_wetTogether_4 rfl (lv_at hl 3 rfl) ?_
      refine lv_aload_n hx hb dX0_wetTogether_5 rfl (lv_at hl 0 rfl) ?_
      refine va_get (ci := 0) (v := .int (gI σ x0 0)) (C := RX0) (T := TX0) (N := 15) hx hb hts hi_X0 hown hE.1 hP x0 (w_0 hE hk0) rfl 0 (by decide) (hts (.fieldLink RX0 45 "HemLine$Delta" "women" "I") (by decide +kernel)) (fun _ h9 => h9) rfl dX0_wetTogether_6 ?_
      refine lv_icmp_ge (tgt := 27) hx hb dX0_wetTogether_9 (by decide) (fun c1 => ?_) (fun c1 => ?_)
      · replace h := h.1 c1
        refine lv_iload_n hx hb dX0_wetTogether_27 rfl (lv_at hl 2 rfl) ?_
        exact W.iret hx hb hr (fun t ht hW => ⟨⟨_, _, rfl, h, pw ht hP⟩, hS.F ht⟩) hS.2.2 dX0_wetTogether_28
      · replace h := h.2 c1
        refine lv_iload_n hx hb dX0_wetTogether_12 rfl (lv_at hl 2 rfl) ?_
        refine lv_aload_n hx hb dX0_wetTogether_13 rfl (lv_at hl 0 rfl) ?_
        refine lv_iload_n hx hb dX0_wetTogether_14 rfl (lv_at hl 3 rfl) ?_
        refine lv_iload_n hx hb dX0_wetTogether_15 rfl (lv_at hl 1 rfl) ?_
        refine f_i (kV (As := [.int x3, .int x1]) (rest := [.int x2]) (o := some x0) rfl ⟨hx, hb, hml, hown, hts⟩ (c_X0_wetOf l D cs ad x0 x3 x1 σ _ hk0) (cwV 2 hts gX0_wetTogether_X0_wetOf rfl rfl rfl (by decide +kernel) ⟨Nat.le_of_ble_eq_true rfl, Nat.le_of_ble_eq_true rfl⟩) hE hP rfl rfl (w_0 hE hk0) h rfl hl.1 rfl (by first | exact lv_room (Nat.le_of_ble_eq_true rfl) | (refine lv_room ?_; simp [re_cat, cat_i, cat_l, cat_r])) dX0_wetTogether_16 ⟨Nat.le_refl _, Nat.le_refl _⟩) hS (fun r3 s2 H locs h hP hS => ?_)
        refine lv_iadd hx hb dX0_wetTogether_19 ?_
        refine lv_istore_n (i := 2) (lv' := [(2, .int (x2 + r3)), (0, .ref (ad x0)), (1, .int x1), (3, .int x3)]) hx hb dX0_wetTogether_20 rfl hl (by decide) (by first | rfl | simp [re_cat, cat_i, cat_l, cat_r]) (fun ls hl => ?_)
        refine lv_iinc (v := x3 + 1) (lv' := [(3, .int (x3 + 1)), (2, .int (x2 + r3)), (0, .ref (ad x0)), (1, .int x1)]) hx hb dX0_wetTogether_21 hl (k := 3) rfl rfl (by decide) (by first | rfl | simp [re_cat, cat_i, cat_l, cat_r]) (fun ls hl => ?_)
        refine lv_goto (tgt := 4) hx hb dX0_wetTogether_24 (by decide) ?_
        exact ih x1 (x2 + r3) (x3 + 1) s2 H locs ls h hP hS (lv_sub hl [2, 3, 1, 0] rfl)
  unfold p_X0_wetTogether at h
  refine lv_iconst (v := 0) hx hb dX0_wetTogether_0 (by decide) ?_
  refine lv_istore_n (i := 2) (lv' := [(2, .int 0), (0, .ref (ad x0)), (1, .int x1)]) hx hb dX0_wetTogether_1 rfl hl (by decide) (by first | rfl | simp [re_cat, cat_i, cat_l, cat_r]) (fun ls hl => ?_)
  refine lv_iconst (v := 0) hx hb dX0_wetTogether_2 (by decide) ?_
  refine lv_istore_n (i := 3) (lv' := [(3, .int 0), (2, .int 0), (0, .ref (ad x0)), (1, .int x1)]) hx hb dX0_wetTogether_3 rfl hl (by decide) (by first | rfl | simp [re_cat, cat_i, cat_l, cat_r]) (fun ls hl => ?_)
  obtain ⟨n1, h⟩ := h
  exact hB4 n1 x1 0 0 s0 _ _ ls h hP hS (lv_sub hl [2, 3, 1, 0] rfl)
def p_X0_howManyOf_b30 (Q : Int32 → Sg → Prop) (K4 : Nat → Int32 → Int32 → Int32 → Sg → Prop) (x0 : Nat) (x1 : Int32) (x2 : Int32) (x3 : Int32) (s : Sg) : Prop := K4 x0 x1 x2 (x3 + 1) s
def p_X0_howManyOf_L4 (Q : Int32 → Sg → Prop)  : Nat → Nat → Int32 → Int32 → Int32 → Sg → Prop
  | 0, _, _, _, _, _ => False
  | n + 1, x0, x1, x2, x3, s => (((gI s x0 0) ≤ x3 → Q x2 s) ∧ (¬ (gI s x0 0) ≤ x3 → p_X5_item (tX x0 5) x3 s (fun r3 s2 => p_X2_isOf r3 x1 s2 (fun r5 s4 => ((r5 = 0 → p_X0_howManyOf_b30 Q (fun y0 y1 y2 y3 u => p_X0_howManyOf_L4 Q  n y0 y1 y2 y3 u) x0 x1 x2 x3 s4) ∧ (¬ r5 = 0 → p_X0_howManyOf_b30 Q (fun y0 y1 y2 y3 u => p_X0_howManyOf_L4 Q  n y0 y1 y2 y3 u) x0 x1 (x2 + 1) x3 s4))))))
def p_X0_howManyOf (x0 : Nat) (x1 : Int32) (s : Sg) (Q : Int32 → Sg → Prop) : Prop := (∃ n1, p_X0_howManyOf_L4 Q  n1 x0 x1 0 0 s)
set_option maxHeartbeats 4000000 in
set_option maxRecDepth 100000 in
theorem c_X0_howManyOf (l : Launch) (D : va_G) (cs : Cs) (ad : Nat → Nat) (x0 : Nat) (x1 : Int32) (s0 : Sg) (Q : Int32 → Sg → Prop) (hk0 : kX x0 = 0) : Met l yX0_howManyOf wsX0_howManyOf { frames := 1, cells := 0, slots := 0, locals := 21 } (Pc0 bX D cs ad [.ref (ad x0), .int x1] s0 (p_X0_howManyOf x0 x1 s0 Q)) (QI bX D cs ad Q) 0 0 (fAd bX ad) := by
  refine Met.ofW (cc := cX0_howManyOf) (maxL := 4) (ret := (some .int)) (by decide) rfl ?_
  intro p e s m args below meth c s₁ B0 hml hv
  obtain ⟨ha, hP, hE, h⟩ := hv
  have hx := B0.exec
  have hb := B0.bytes
  have hr := B0.returns
  have hts := atoms_spec (ws := wsX0_howManyOf) B0.pre
  have hown : s.vm.findClass RX0 = some m.cls := findClass_of_methodNamed B0.named
  have hlocks := B0.notSynchronized
  have hi_X0 : ∀ w ∈ u_ws RX0 TX0 15, w ∈ wsX0_howManyOf := by decide +kernel
  have hS : va_S (fAd bX ad) s.heap s.heap [] := va_S.rf
  have hl := lv_entry ([.ref (ad x0), .int x1]) (n := 4) (by first | exact Nat.le_of_ble_eq_true rfl | simp [lg_sl, re_cat, cat_i, cat_l, cat_r])
  rw [show entryFrame m args 4 = entryFrame m ([.ref (ad x0), .int x1] : List Value).toArray 4 by rw [ha], lg_entry_eq]
  generalize (lg_sl ([.ref (ad x0), .int x1]) ++ List.replicate (4 - (lg_sl ([.ref (ad x0), .int x1])).length) Slot.unset).toArray = ls at hl ⊢
  have hl : lv_has ls 4 [(0, .ref (ad x0)), (1, .int x1)] := by first | exact hl | simpa [lv_args, re_cat, cat_i, cat_l, cat_r] using hl
  have hB4 : ∀ (n4 : Nat) (x1 : Int32) (x2 : Int32) (x3 : Int32) (σ : Sg) (H : Heap) (locs : List Loc) (ls : Array Slot), p_X0_howManyOf_L4 Q  n4 x0 x1 x2 x3 σ → va_P D vwCl (wl bX cs ad σ) H → va_S (fAd bX ad) s.heap H locs → lv_has ls 4 [(0, .ref (ad x0)), (1, .int x1), (2, .int x2), (3, .int x3)] → W p l e { frames := 1, cells := 0, slots := 0, locals := 21 } s m args below meth c H locs 0 0 (MQ below (QI bX D cs ad Q) args s 0 0 (fAd bX ad)) (F0 m 4 ls []) := by
    intro n4
    induction n4 with
    | zero =>
      intro x1 x2 x3 σ H locs ls h
      exact h.elim
    | succ n4 ih =>
      have hK4 := ih
      have hB30 : ∀ (x1 : Int32) (x2 : Int32) (x3 : Int32) (σ : Sg) (H : Heap) (locs : List Loc) (ls : Array Slot), p_X0_howManyOf_b30 Q (fun y0 y1 y2 y3 u => p_X0_howManyOf_L4 Q  n4 y0 y1 y2 y3 u) x0 x1 x2 x3 σ → va_P D vwCl (wl bX cs ad σ) H → va_S (fAd bX ad) s.heap H locs → lv_has ls 4 [(0, .ref (ad x0)), (1, .int x1), (2, .int x2), (3, .int x3)] → W p l e { frames := 1, cells := 0, slots := 0, locals := 21 } s m args below meth c H locs 0 0 (MQ below (QI bX D cs ad Q) args s 0 0 (fAd bX ad)) (F0 m 30 ls []) := by
        intro x1 x2 x3 σ H locs ls h hP hS hl
        unfold p_X0_howManyOf_b30 at h
        refine lv_iinc (v := x3 + 1) (lv' := [(3, .int (x3 + 1)), (0, .ref (ad x0)), (1, .int x1), (2, .int x2)]) hx hb dX0_howManyOf_30 hl (k := 3) rfl rfl (by decide) (by first | rfl | simp [re_cat, cat_i, cat_l, cat_r]) (fun ls hl => ?_)
        refine lv_goto (tgt := 4) hx hb dX0_howManyOf_33 (by decide) ?_
        exact hK4 x1 x2 (x3 + 1) σ H locs ls h hP hS (lv_sub hl [1, 2, 3, 0] rfl)
      intro x1 x2 x3 σ H locs ls h hP hS hl
      rw [p_X0_howManyOf_L4] at h
      refine lv_iload_n hx hb dX0_howManyOf_4 rfl (lv_at hl 3 rfl) ?_
      refine lv_aload_n hx hb dX0_howManyOf_5 rfl (lv_at hl 0 rfl) ?_
      refine va_get (ci := 0) (v := .int (gI σ x0 0)) (C := RX0) (T := TX0) (N := 15) hx hb hts hi_X0 hown hE.1 hP x0 (w_0 hE hk0) rfl 0 (by decide) (hts (.fieldLink RX0 45 "HemLine$Delta" "women" "I") (by decide +kernel)) (fun _ h9 => h9) rfl dX0_howManyOf_6 ?_
      refine lv_icmp_ge (tgt := 36) hx hb dX0_howManyOf_9 (by decide) (fun c1 => ?_) (fun c1 => ?_)
      · replace h := h.1 c1
        refine lv_iload_n hx hb dX0_howManyOf_36 rfl (lv_at hl 2 rfl) ?_
        exact W.iret hx hb hr (fun t ht hW => ⟨⟨_, _, rfl, h, pw ht hP⟩, hS.F ht⟩) hS.2.2 dX0_howManyOf_37
      · replace h := h.2 c1
        refine lv_aload_n hx hb dX0_howManyOf_12 rfl (lv_at hl 0 rfl) ?_
        refine va_get (ci := 0) (v := va_re ad (tX x0 5)) (C := RX0) (T := TX0) (N := 15) hx hb hts hi_X0 hown hE.1 hP x0 (w_0 hE hk0) rfl 5 (by decide) (hts (.fieldLink RX0 15 "HemLine$Delta" "kindOf" "[I") (by decide +kernel)) (fun _ h9 => h9) rfl dX0_howManyOf_13 ?_
        refine lv_iload_n hx hb dX0_howManyOf_16 rfl (lv_at hl 3 rfl) ?_
        refine f_i (kN (As := [va_re ad (tX x0 5), .int x3]) (rest := []) ⟨hx, hb, hml, hown, hts⟩ (c_X5_item l D cs ad (tX x0 5) x3 σ _) ⟨va_cnB 2 hts gX0_howManyOf_X5_item_n72 rfl rfl rfl (hE.2.2.2.2 ("HemLine$Delta", 72, ⟨"HemLine", "item", "([II)I"⟩, "HemLine") (by decide +kernel)) (hts (.initialized RX5) (by decide +kernel)) (by decide +kernel) ⟨Nat.le_of_ble_eq_true rfl, Nat.le_of_ble_eq_true rfl⟩, hts (.static yX5_item) (by decide +kernel), trivial⟩ hE hP h rfl hl.1 rfl (by first | exact lv_room (Nat.le_of_ble_eq_true rfl) | (refine lv_room ?_; simp [re_cat, cat_i, cat_l, cat_r])) dX0_howManyOf_17 ⟨Nat.le_refl _, Nat.le_refl _⟩) hS (fun r3 s2 H locs h hP hS => ?_)
        refine lv_iload_n hx hb dX0_howManyOf_20 rfl (lv_at hl 1 rfl) ?_
        refine f_i (kS (As := [.int r3, .int x1]) (rest := []) ⟨hx, hb, hml, hown, hts⟩ (c_X2_isOf l D cs ad r3 x1 s2 _) (va_cwS 2 hts gX0_howManyOf_X2_isOf rfl rfl rfl (by decide +kernel) ⟨Nat.le_of_ble_eq_true rfl, Nat.le_of_ble_eq_true rfl⟩) hE hP h rfl hl.1 rfl (by first | exact lv_room (Nat.le_of_ble_eq_true rfl) | (refine lv_room ?_; simp [re_cat, cat_i, cat_l, cat_r])) dX0_howManyOf_21 ⟨Nat.le_refl _, Nat.le_refl _⟩) hS (fun r5 s4 H locs h hP hS => ?_)
        refine lv_if_eq (tgt := 30) hx hb dX0_howManyOf_24 (by decide) (fun c6 => ?_) (fun c6 => ?_)
        · replace h := h.1 c6
          exact hB30 x1 x2 x3 s4 H locs ls h hP hS (lv_sub hl [0, 1, 2, 3] rfl)
        · replace h := h.2 c6
          refine lv_iinc (v := x2 + 1) (lv' := [(2, .int (x2 + 1)), (0, .ref (ad x0)), (1, .int x1), (3, .int x3)]) hx hb dX0_howManyOf_27 hl (k := 2) rfl rfl (by decide) (by first | rfl | simp [re_cat, cat_i, cat_l, cat_r]) (fun ls hl => ?_)
          exact hB30 x1 (x2 + 1) x3 s4 H locs ls h hP hS (lv_sub hl [1, 2, 0, 3] rfl)
  unfold p_X0_howManyOf at h
  refine lv_iconst (v := 0) hx hb dX0_howManyOf_0 (by decide) ?_
  refine lv_istore_n (i := 2) (lv' := [(2, .int 0), (0, .ref (ad x0)), (1, .int x1)]) hx hb dX0_howManyOf_1 rfl hl (by decide) (by first | rfl | simp [re_cat, cat_i, cat_l, cat_r]) (fun ls hl => ?_)
  refine lv_iconst (v := 0) hx hb dX0_howManyOf_2 (by decide) ?_
  refine lv_istore_n (i := 3) (lv' := [(3, .int 0), (2, .int 0), (0, .ref (ad x0)), (1, .int x1)]) hx hb dX0_howManyOf_3 rfl hl (by decide) (by first | rfl | simp [re_cat, cat_i, cat_l, cat_r]) (fun ls hl => ?_)
  obtain ⟨n1, h⟩ := h
  exact hB4 n1 x1 0 0 s0 _ _ ls h hP hS (lv_sub hl [2, 3, 1, 0] rfl)
def p_X0_lastHeight (x0 : Nat) (s : Sg) (Q : Int32 → Sg → Prop) : Prop := (((gI s x0 2) ≤ 0 → Q 0 s) ∧ (¬ (gI s x0 2) ≤ 0 → p_X5_item (tX x0 9) ((gI s x0 2) - 1) s (fun r3 s2 => Q r3 s2)))
set_option maxHeartbeats 4000000 in
set_option maxRecDepth 100000 in
theorem c_X0_lastHeight (l : Launch) (D : va_G) (cs : Cs) (ad : Nat → Nat) (x0 : Nat) (s0 : Sg) (Q : Int32 → Sg → Prop) (hk0 : kX x0 = 0) : Met l yX0_lastHeight wsX0_lastHeight { frames := 1, cells := 0, slots := 0, locals := 21 } (Pc0 bX D cs ad [.ref (ad x0)] s0 (p_X0_lastHeight x0 s0 Q)) (QI bX D cs ad Q) 0 0 (fAd bX ad) := by
  refine Met.ofW (cc := cX0_lastHeight) (maxL := 1) (ret := (some .int)) (by decide) rfl ?_
  intro p e s m args below meth c s₁ B0 hml hv
  obtain ⟨ha, hP, hE, h⟩ := hv
  have hx := B0.exec
  have hb := B0.bytes
  have hr := B0.returns
  have hts := atoms_spec (ws := wsX0_lastHeight) B0.pre
  have hown : s.vm.findClass RX0 = some m.cls := findClass_of_methodNamed B0.named
  have hlocks := B0.notSynchronized
  have hi_X0 : ∀ w ∈ u_ws RX0 TX0 15, w ∈ wsX0_lastHeight := by decide +kernel
  have hS : va_S (fAd bX ad) s.heap s.heap [] := va_S.rf
  have hl := lv_entry ([.ref (ad x0)]) (n := 1) (by first | exact Nat.le_of_ble_eq_true rfl | simp [lg_sl, re_cat, cat_i, cat_l, cat_r])
  rw [show entryFrame m args 1 = entryFrame m ([.ref (ad x0)] : List Value).toArray 1 by rw [ha], lg_entry_eq]
  generalize (lg_sl ([.ref (ad x0)]) ++ List.replicate (1 - (lg_sl ([.ref (ad x0)])).length) Slot.unset).toArray = ls at hl ⊢
  have hl : lv_has ls 1 [(0, .ref (ad x0))] := by first | exact hl | simpa [lv_args, re_cat, cat_i, cat_l, cat_r] using hl
  unfold p_X0_lastHeight at h
  refine lv_aload_n hx hb dX0_lastHeight_0 rfl (lv_at hl 0 rfl) ?_
  refine va_get (ci := 0) (v := .int (gI s0 x0 2)) (C := RX0) (T := TX0) (N := 15) hx hb hts hi_X0 hown hE.1 hP x0 (w_0 hE hk0) rfl 2 (by decide) (hts (.fieldLink RX0 52 "HemLine$Delta" "years" "I") (by decide +kernel)) (fun _ h9 => h9) rfl dX0_lastHeight_1 ?_
  refine lv_if_le (tgt := 23) hx hb dX0_lastHeight_4 (by decide) (fun c1 => ?_) (fun c1 => ?_)
  · replace h := h.1 c1
    refine lv_iconst (v := 0) hx hb dX0_lastHeight_23 (by decide) ?_
    exact W.iret hx hb hr (fun t ht hW => ⟨⟨_, _, rfl, h, pw ht hP⟩, hS.F ht⟩) hS.2.2 dX0_lastHeight_24
  · replace h := h.2 c1
    refine lv_aload_n hx hb dX0_lastHeight_7 rfl (lv_at hl 0 rfl) ?_
    refine va_get (ci := 0) (v := va_re ad (tX x0 9)) (C := RX0) (T := TX0) (N := 15) hx hb hts hi_X0 hown hE.1 hP x0 (w_0 hE hk0) rfl 9 (by decide) (hts (.fieldLink RX0 27 "HemLine$Delta" "heightOf" "[I") (by decide +kernel)) (fun _ h9 => h9) rfl dX0_lastHeight_8 ?_
    refine lv_aload_n hx hb dX0_lastHeight_11 rfl (lv_at hl 0 rfl) ?_
    refine va_get (ci := 0) (v := .int (gI s0 x0 2)) (C := RX0) (T := TX0) (N := 15) hx hb hts hi_X0 hown hE.1 hP x0 (w_0 hE hk0) rfl 2 (by decide) (hts (.fieldLink RX0 52 "HemLine$Delta" "years" "I") (by decide +kernel)) (fun _ h9 => h9) rfl dX0_lastHeight_12 ?_
    refine lv_iconst (v := 1) hx hb dX0_lastHeight_15 (by decide) ?_
    refine lv_isub hx hb dX0_lastHeight_16 ?_
    refine f_i (kN (As := [va_re ad (tX x0 9), .int ((gI s0 x0 2) - 1)]) (rest := []) ⟨hx, hb, hml, hown, hts⟩ (c_X5_item l D cs ad (tX x0 9) ((gI s0 x0 2) - 1) s0 _) ⟨va_cnB 2 hts gX0_lastHeight_X5_item_n72 rfl rfl rfl (hE.2.2.2.2 ("HemLine$Delta", 72, ⟨"HemLine", "item", "([II)I"⟩, "HemLine") (by decide +kernel)) (hts (.initialized RX5) (by decide +kernel)) (by decide +kernel) ⟨Nat.le_of_ble_eq_true rfl, Nat.le_of_ble_eq_true rfl⟩, hts (.static yX5_item) (by decide +kernel), trivial⟩ hE hP h rfl hl.1 rfl (by first | exact lv_room (Nat.le_of_ble_eq_true rfl) | (refine lv_room ?_; simp [re_cat, cat_i, cat_l, cat_r])) dX0_lastHeight_17 ⟨Nat.le_refl _, Nat.le_refl _⟩) hS (fun r3 s2 H locs h hP hS => ?_)
    refine lv_goto (tgt := 24) hx hb dX0_lastHeight_20 (by decide) ?_
    exact W.iret hx hb hr (fun t ht hW => ⟨⟨_, _, rfl, h, pw ht hP⟩, hS.F ht⟩) hS.2.2 dX0_lastHeight_24
def p_X0_room (x0 : Nat) (s : Sg) (Q : Int32 → Sg → Prop) : Prop := p_X5_sumOf (tX x0 4) 6 s (fun r2 s1 => Q (54 - r2) s1)
set_option maxHeartbeats 4000000 in
set_option maxRecDepth 100000 in
theorem c_X0_room (l : Launch) (D : va_G) (cs : Cs) (ad : Nat → Nat) (x0 : Nat) (s0 : Sg) (Q : Int32 → Sg → Prop) (hk0 : kX x0 = 0) : Met l yX0_room wsX0_room { frames := 2, cells := 0, slots := 0, locals := 44 } (Pc0 bX D cs ad [.ref (ad x0)] s0 (p_X0_room x0 s0 Q)) (QI bX D cs ad Q) 0 0 (fAd bX ad) := by
  refine Met.ofW (cc := cX0_room) (maxL := 1) (ret := (some .int)) (by decide) rfl ?_
  intro p e s m args below meth c s₁ B0 hml hv
  obtain ⟨ha, hP, hE, h⟩ := hv
  have hx := B0.exec
  have hb := B0.bytes
  have hr := B0.returns
  have hts := atoms_spec (ws := wsX0_room) B0.pre
  have hown : s.vm.findClass RX0 = some m.cls := findClass_of_methodNamed B0.named
  have hlocks := B0.notSynchronized
  have hi_X0 : ∀ w ∈ u_ws RX0 TX0 15, w ∈ wsX0_room := by decide +kernel
  have hS : va_S (fAd bX ad) s.heap s.heap [] := va_S.rf
  have hl := lv_entry ([.ref (ad x0)]) (n := 1) (by first | exact Nat.le_of_ble_eq_true rfl | simp [lg_sl, re_cat, cat_i, cat_l, cat_r])
  rw [show entryFrame m args 1 = entryFrame m ([.ref (ad x0)] : List Value).toArray 1 by rw [ha], lg_entry_eq]
  generalize (lg_sl ([.ref (ad x0)]) ++ List.replicate (1 - (lg_sl ([.ref (ad x0)])).length) Slot.unset).toArray = ls at hl ⊢
  have hl : lv_has ls 1 [(0, .ref (ad x0))] := by first | exact hl | simpa [lv_args, re_cat, cat_i, cat_l, cat_r] using hl
  unfold p_X0_room at h
  refine lv_bipush (v := 54) hx hb dX0_room_0 (by decide) ?_
  refine lv_aload_n hx hb dX0_room_2 rfl (lv_at hl 0 rfl) ?_
  refine va_get (ci := 0) (v := va_re ad (tX x0 4)) (C := RX0) (T := TX0) (N := 15) hx hb hts hi_X0 hown hE.1 hP x0 (w_0 hE hk0) rfl 4 (by decide) (hts (.fieldLink RX0 9 "HemLine$Delta" "ground" "[I") (by decide +kernel)) (fun _ h9 => h9) rfl dX0_room_3 ?_
  refine lv_bipush (v := 6) hx hb dX0_room_6 (by decide) ?_
  refine f_i (kN (As := [va_re ad (tX x0 4), .int 6]) (rest := [.int 54]) ⟨hx, hb, hml, hown, hts⟩ (c_X5_sumOf l D cs ad (tX x0 4) 6 s0 _) ⟨va_cnB 2 hts gX0_room_X5_sumOf_n95 rfl rfl rfl (hE.2.2.2.2 ("HemLine$Delta", 95, ⟨"HemLine", "sumOf", "([II)I"⟩, "HemLine") (by decide +kernel)) (hts (.initialized RX5) (by decide +kernel)) (by decide +kernel) ⟨Nat.le_of_ble_eq_true rfl, Nat.le_of_ble_eq_true rfl⟩, hts (.static yX5_sumOf) (by decide +kernel), trivial⟩ hE hP h rfl hl.1 rfl (by first | exact lv_room (Nat.le_of_ble_eq_true rfl) | (refine lv_room ?_; simp [re_cat, cat_i, cat_l, cat_r])) dX0_room_8 ⟨Nat.le_refl _, Nat.le_refl _⟩) hS (fun r2 s1 H locs h hP hS => ?_)
  refine lv_isub hx hb dX0_room_11 ?_
  exact W.iret hx hb hr (fun t ht hW => ⟨⟨_, _, rfl, h, pw ht hP⟩, hS.F ht⟩) hS.2.2 dX0_room_12
def p_X0_hemIfNow (x0 : Nat) (x1 : Int32) (x2 : Int32) (x3 : Int32) (s : Sg) (Q : Int32 → Sg → Prop) : Prop := p_X0_wetOf x0 x1 x2 s (fun r2 s1 => p_X5_item (tX x0 7) x1 s1 (fun r4 s3 => p_X5_item (tX x0 8) x1 s3 (fun r6 s5 => p_X2_hemBy x3 r2 r4 r6 (gI s5 x0 2) s5 (fun r8 s7 => Q r8 s7))))
set_option maxHeartbeats 4000000 in
set_option maxRecDepth 100000 in
theorem c_X0_hemIfNow (l : Launch) (D : va_G) (cs : Cs) (ad : Nat → Nat) (x0 : Nat) (x1 : Int32) (x2 : Int32) (x3 : Int32) (s0 : Sg) (Q : Int32 → Sg → Prop) (hk0 : kX x0 = 0) : Met l yX0_hemIfNow wsX0_hemIfNow { frames := 3, cells := 0, slots := 0, locals := 64 } (Pc0 bX D cs ad [.ref (ad x0), .int x1, .int x2, .int x3] s0 (p_X0_hemIfNow x0 x1 x2 x3 s0 Q)) (QI bX D cs ad Q) 0 0 (fAd bX ad) := by
  refine Met.ofW (cc := cX0_hemIfNow) (maxL := 4) (ret := (some .int)) (by decide) rfl ?_
  intro p e s m args below meth c s₁ B0 hml hv
  obtain ⟨ha, hP, hE, h⟩ := hv
  have hx := B0.exec
  have hb := B0.bytes
  have hr := B0.returns
  have hts := atoms_spec (ws := wsX0_hemIfNow) B0.pre
  have hown : s.vm.findClass RX0 = some m.cls := findClass_of_methodNamed B0.named
  have hlocks := B0.notSynchronized
  have hi_X0 : ∀ w ∈ u_ws RX0 TX0 15, w ∈ wsX0_hemIfNow := by decide +kernel
  have hS : va_S (fAd bX ad) s.heap s.heap [] := va_S.rf
  have hl := lv_entry ([.ref (ad x0), .int x1, .int x2, .int x3]) (n := 4) (by first | exact Nat.le_of_ble_eq_true rfl | simp [lg_sl, re_cat, cat_i, cat_l, cat_r])
  rw [show entryFrame m args 4 = entryFrame m ([.ref (ad x0), .int x1, .int x2, .int x3] : List Value).toArray 4 by rw [ha], lg_entry_eq]
  generalize (lg_sl ([.ref (ad x0), .int x1, .int x2, .int x3]) ++ List.replicate (4 - (lg_sl ([.ref (ad x0), .int x1, .int x2, .int x3])).length) Slot.unset).toArray = ls at hl ⊢
  have hl : lv_has ls 4 [(0, .ref (ad x0)), (1, .int x1), (2, .int x2), (3, .int x3)] := by first | exact hl | simpa [lv_args, re_cat, cat_i, cat_l, cat_r] using hl
  unfold p_X0_hemIfNow at h
  refine lv_iload_n hx hb dX0_hemIfNow_0 rfl (lv_at hl 3 rfl) ?_
  refine lv_aload_n hx hb dX0_hemIfNow_1 rfl (lv_at hl 0 rfl) ?_
  refine lv_iload_n hx hb dX0_hemIfNow_2 rfl (lv_at hl 1 rfl) ?_
  refine lv_iload_n hx hb dX0_hemIfNow_3 rfl (lv_at hl 2 rfl) ?_
  refine f_i (kV (As := [.int x1, .int x2]) (rest := [.int x3]) (o := some x0) rfl ⟨hx, hb, hml, hown, hts⟩ (c_X0_wetOf l D cs ad x0 x1 x2 s0 _ hk0) (cwV 2 hts gX0_hemIfNow_X0_wetOf rfl rfl rfl (by decide +kernel) ⟨Nat.le_of_ble_eq_true rfl, Nat.le_of_ble_eq_true rfl⟩) hE hP rfl rfl (w_0 hE hk0) h rfl hl.1 rfl (by first | exact lv_room (Nat.le_of_ble_eq_true rfl) | (refine lv_room ?_; simp [re_cat, cat_i, cat_l, cat_r])) dX0_hemIfNow_4 ⟨Nat.le_refl _, Nat.le_refl _⟩) hS (fun r2 s1 H locs h hP hS => ?_)
  refine lv_aload_n hx hb dX0_hemIfNow_7 rfl (lv_at hl 0 rfl) ?_
  refine va_get (ci := 0) (v := va_re ad (tX x0 7)) (C := RX0) (T := TX0) (N := 15) hx hb hts hi_X0 hown hE.1 hP x0 (w_0 hE hk0) rfl 7 (by decide) (hts (.fieldLink RX0 21 "HemLine$Delta" "tallOf" "[I") (by decide +kernel)) (fun _ h9 => h9) rfl dX0_hemIfNow_8 ?_
  refine lv_iload_n hx hb dX0_hemIfNow_11 rfl (lv_at hl 1 rfl) ?_
  refine f_i (kN (As := [va_re ad (tX x0 7), .int x1]) (rest := [.int r2, .int x3]) ⟨hx, hb, hml, hown, hts⟩ (c_X5_item l D cs ad (tX x0 7) x1 s1 _) ⟨va_cnB 2 hts gX0_hemIfNow_X5_item_n72 rfl rfl rfl (hE.2.2.2.2 ("HemLine$Delta", 72, ⟨"HemLine", "item", "([II)I"⟩, "HemLine") (by decide +kernel)) (hts (.initialized RX5) (by decide +kernel)) (by decide +kernel) ⟨Nat.le_of_ble_eq_true rfl, Nat.le_of_ble_eq_true rfl⟩, hts (.static yX5_item) (by decide +kernel), trivial⟩ hE hP h rfl hl.1 rfl (by first | exact lv_room (Nat.le_of_ble_eq_true rfl) | (refine lv_room ?_; simp [re_cat, cat_i, cat_l, cat_r])) dX0_hemIfNow_12 ⟨Nat.le_refl _, Nat.le_refl _⟩) hS (fun r4 s3 H locs h hP hS => ?_)
  refine lv_aload_n hx hb dX0_hemIfNow_15 rfl (lv_at hl 0 rfl) ?_
  refine va_get (ci := 0) (v := va_re ad (tX x0 8)) (C := RX0) (T := TX0) (N := 15) hx hb hts hi_X0 hown hE.1 hP x0 (w_0 hE hk0) rfl 8 (by decide) (hts (.fieldLink RX0 24 "HemLine$Delta" "tuckOf" "[I") (by decide +kernel)) (fun _ h9 => h9) rfl dX0_hemIfNow_16 ?_
  refine lv_iload_n hx hb dX0_hemIfNow_19 rfl (lv_at hl 1 rfl) ?_
  refine f_i (kN (As := [va_re ad (tX x0 8), .int x1]) (rest := [.int r4, .int r2, .int x3]) ⟨hx, hb, hml, hown, hts⟩ (c_X5_item l D cs ad (tX x0 8) x1 s3 _) ⟨va_cnB 2 hts gX0_hemIfNow_X5_item_n72 rfl rfl rfl (hE.2.2.2.2 ("HemLine$Delta", 72, ⟨"HemLine", "item", "([II)I"⟩, "HemLine") (by decide +kernel)) (hts (.initialized RX5) (by decide +kernel)) (by decide +kernel) ⟨Nat.le_of_ble_eq_true rfl, Nat.le_of_ble_eq_true rfl⟩, hts (.static yX5_item) (by decide +kernel), trivial⟩ hE hP h rfl hl.1 rfl (by first | exact lv_room (Nat.le_of_ble_eq_true rfl) | (refine lv_room ?_; simp [re_cat, cat_i, cat_l, cat_r])) dX0_hemIfNow_20 ⟨Nat.le_refl _, Nat.le_refl _⟩) hS (fun r6 s5 H locs h hP hS => ?_)
  refine lv_aload_n hx hb dX0_hemIfNow_23 rfl (lv_at hl 0 rfl) ?_
  refine va_get (ci := 0) (v := .int (gI s5 x0 2)) (C := RX0) (T := TX0) (N := 15) hx hb hts hi_X0 hown hE.1 hP x0 (w_0 hE hk0) rfl 2 (by decide) (hts (.fieldLink RX0 52 "HemLine$Delta" "years" "I") (by decide +kernel)) (fun _ h9 => h9) rfl dX0_hemIfNow_24 ?_
  refine f_i (kS (As := [.int x3, .int r2, .int r4, .int r6, .int (gI s5 x0 2)]) (rest := []) ⟨hx, hb, hml, hown, hts⟩ (c_X2_hemBy l D cs ad x3 r2 r4 r6 (gI s5 x0 2) s5 _) (va_cwS 5 hts gX0_hemIfNow_X2_hemBy rfl rfl rfl (by decide +kernel) ⟨Nat.le_of_ble_eq_true rfl, Nat.le_of_ble_eq_true rfl⟩) hE hP h rfl hl.1 rfl (by first | exact lv_room (Nat.le_of_ble_eq_true rfl) | (refine lv_room ?_; simp [re_cat, cat_i, cat_l, cat_r])) dX0_hemIfNow_27 ⟨Nat.le_refl _, Nat.le_refl _⟩) hS (fun r8 s7 H locs h hP hS => ?_)
  exact W.iret hx hb hr (fun t ht hW => ⟨⟨_, _, rfl, h, pw ht hP⟩, hS.F ht⟩) hS.2.2 dX0_hemIfNow_30
def p_X0_hemIfThen (x0 : Nat) (x1 : Int32) (x2 : Int32) (x3 : Int32) (x4 : Int32) (s : Sg) (Q : Int32 → Sg → Prop) : Prop := p_X5_item (tX x0 10) ((x2 * 6) + x1) s (fun r2 s1 => p_X5_item (tX x0 7) x1 s1 (fun r4 s3 => p_X5_item (tX x0 11) ((x2 * 6) + x1) s3 (fun r6 s5 => p_X2_hemBy x4 ((if 0 < (x3 - r2) then (x3 - r2) else 0)) r4 r6 x2 s5 (fun r8 s7 => Q r8 s7))))
set_option maxHeartbeats 4000000 in
set_option maxRecDepth 100000 in
theorem c_X0_hemIfThen (l : Launch) (D : va_G) (cs : Cs) (ad : Nat → Nat) (x0 : Nat) (x1 : Int32) (x2 : Int32) (x3 : Int32) (x4 : Int32) (s0 : Sg) (Q : Int32 → Sg → Prop) (hk0 : kX x0 = 0) : Met l yX0_hemIfThen wsX0_hemIfThen { frames := 2, cells := 0, slots := 0, locals := 46 } (Pc0 bX D cs ad [.ref (ad x0), .int x1, .int x2, .int x3, .int x4] s0 (p_X0_hemIfThen x0 x1 x2 x3 x4 s0 Q)) (QI bX D cs ad Q) 0 0 (fAd bX ad) := by
  refine Met.ofW (cc := cX0_hemIfThen) (maxL := 7) (ret := (some .int)) (by decide) rfl ?_
  intro p e s m args below meth c s₁ B0 hml hv
  obtain ⟨ha, hP, hE, h⟩ := hv
  have hx := B0.exec
  have hb := B0.bytes
  have hr := B0.returns
  have hts := atoms_spec (ws := wsX0_hemIfThen) B0.pre
  have hown : s.vm.findClass RX0 = some m.cls := findClass_of_methodNamed B0.named
  have hlocks := B0.notSynchronized
  have hi_X0 : ∀ w ∈ u_ws RX0 TX0 15, w ∈ wsX0_hemIfThen := by decide +kernel
  have hS : va_S (fAd bX ad) s.heap s.heap [] := va_S.rf
  have hl := lv_entry ([.ref (ad x0), .int x1, .int x2, .int x3, .int x4]) (n := 7) (by first | exact Nat.le_of_ble_eq_true rfl | simp [lg_sl, re_cat, cat_i, cat_l, cat_r])
  rw [show entryFrame m args 7 = entryFrame m ([.ref (ad x0), .int x1, .int x2, .int x3, .int x4] : List Value).toArray 7 by rw [ha], lg_entry_eq]
  generalize (lg_sl ([.ref (ad x0), .int x1, .int x2, .int x3, .int x4]) ++ List.replicate (7 - (lg_sl ([.ref (ad x0), .int x1, .int x2, .int x3, .int x4])).length) Slot.unset).toArray = ls at hl ⊢
  have hl : lv_has ls 7 [(0, .ref (ad x0)), (1, .int x1), (2, .int x2), (3, .int x3), (4, .int x4)] := by first | exact hl | simpa [lv_args, re_cat, cat_i, cat_l, cat_r] using hl
  unfold p_X0_hemIfThen at h
  refine lv_iload_n hx hb dX0_hemIfThen_0 rfl (lv_at hl 2 rfl) ?_
  refine lv_bipush (v := 6) hx hb dX0_hemIfThen_1 (by decide) ?_
  refine lv_imul hx hb dX0_hemIfThen_3 ?_
  refine lv_iload_n hx hb dX0_hemIfThen_4 rfl (lv_at hl 1 rfl) ?_
  refine lv_iadd hx hb dX0_hemIfThen_5 ?_
  refine lv_istore (i := 5) (lv' := [(5, .int ((x2 * 6) + x1)), (0, .ref (ad x0)), (1, .int x1), (2, .int x2), (3, .int x3), (4, .int x4)]) hx hb dX0_hemIfThen_6 hl (by decide) (by first | rfl | simp [re_cat, cat_i, cat_l, cat_r]) (fun ls hl => ?_)
  refine lv_iconst (v := 0) hx hb dX0_hemIfThen_8 (by decide) ?_
  refine lv_iload_n hx hb dX0_hemIfThen_9 rfl (lv_at hl 4 rfl) ?_
  refine lv_aload_n hx hb dX0_hemIfThen_10 rfl (lv_at hl 1 rfl) ?_
  refine va_get (ci := 0) (v := va_re ad (tX x0 10)) (C := RX0) (T := TX0) (N := 15) hx hb hts hi_X0 hown hE.1 hP x0 (w_0 hE hk0) rfl 10 (by decide) (hts (.fieldLink RX0 30 "HemLine$Delta" "groundThen" "[I") (by decide +kernel)) (fun _ h9 => h9) rfl dX0_hemIfThen_11 ?_
  refine lv_iload hx hb dX0_hemIfThen_14 (lv_at hl 0 rfl) ?_
  refine f_i (kN (As := [va_re ad (tX x0 10), .int ((x2 * 6) + x1)]) (rest := [.int x3, .int 0]) ⟨hx, hb, hml, hown, hts⟩ (c_X5_item l D cs ad (tX x0 10) ((x2 * 6) + x1) s0 _) ⟨va_cnB 2 hts gX0_hemIfThen_X5_item_n72 rfl rfl rfl (hE.2.2.2.2 ("HemLine$Delta", 72, ⟨"HemLine", "item", "([II)I"⟩, "HemLine") (by decide +kernel)) (hts (.initialized RX5) (by decide +kernel)) (by decide +kernel) ⟨Nat.le_of_ble_eq_true rfl, Nat.le_of_ble_eq_true rfl⟩, hts (.static yX5_item) (by decide +kernel), trivial⟩ hE hP h rfl hl.1 rfl (by first | exact lv_room (Nat.le_of_ble_eq_true rfl) | (refine lv_room ?_; simp [re_cat, cat_i, cat_l, cat_r])) dX0_hemIfThen_16 ⟨Nat.le_refl _, Nat.le_refl _⟩) hS (fun r2 s1 H locs h hP hS => ?_)
  refine lv_isub hx hb dX0_hemIfThen_19 ?_
  refine va_mmax hx hb (hml.trans hl.1.symm) hown (hts (.methodLink RX0 80 Lib.Math.max.name) (by decide +kernel)) (hts (.static Lib.Math.max.name) (by decide +kernel)) (hts (.initialized "java/lang/Math") (by decide +kernel)) (hts (.code Lib.Math.max.name Lib.Math.max.code 2 (some .int)) (by decide +kernel)) (Nat.le_of_ble_eq_true rfl) (by first | exact Nat.le_of_ble_eq_true rfl | (simp only [List.map, re_cat, cat_i, cat_l, cat_r, List.sum_cons, List.sum_nil]; exact Nat.le_of_ble_eq_true rfl)) (Nat.le_refl _) (Nat.le_refl _) dX0_hemIfThen_20 ?_
  refine lv_istore (i := 6) (lv' := [(6, .int ((if 0 < (x3 - r2) then (x3 - r2) else 0))), (5, .int ((x2 * 6) + x1)), (0, .ref (ad x0)), (1, .int x1), (2, .int x2), (3, .int x3), (4, .int x4)]) hx hb dX0_hemIfThen_23 hl (by decide) (by first | rfl | simp [re_cat, cat_i, cat_l, cat_r]) (fun ls hl => ?_)
  refine lv_iload hx hb dX0_hemIfThen_25 (lv_at hl 6 rfl) ?_
  refine lv_iload hx hb dX0_hemIfThen_27 (lv_at hl 0 rfl) ?_
  refine lv_aload_n hx hb dX0_hemIfThen_29 rfl (lv_at hl 2 rfl) ?_
  refine va_get (ci := 0) (v := va_re ad (tX x0 7)) (C := RX0) (T := TX0) (N := 15) hx hb hts hi_X0 hown hE.1 hP x0 (w_0 hE hk0) rfl 7 (by decide) (hts (.fieldLink RX0 21 "HemLine$Delta" "tallOf" "[I") (by decide +kernel)) (fun _ h9 => h9) rfl dX0_hemIfThen_30 ?_
  refine lv_iload_n hx hb dX0_hemIfThen_33 rfl (lv_at hl 3 rfl) ?_
  refine f_i (kN (As := [va_re ad (tX x0 7), .int x1]) (rest := [.int ((if 0 < (x3 - r2) then (x3 - r2) else 0)), .int x4]) ⟨hx, hb, hml, hown, hts⟩ (c_X5_item l D cs ad (tX x0 7) x1 s1 _) ⟨va_cnB 2 hts gX0_hemIfThen_X5_item_n72 rfl rfl rfl (hE.2.2.2.2 ("HemLine$Delta", 72, ⟨"HemLine", "item", "([II)I"⟩, "HemLine") (by decide +kernel)) (hts (.initialized RX5) (by decide +kernel)) (by decide +kernel) ⟨Nat.le_of_ble_eq_true rfl, Nat.le_of_ble_eq_true rfl⟩, hts (.static yX5_item) (by decide +kernel), trivial⟩ hE hP h rfl hl.1 rfl (by first | exact lv_room (Nat.le_of_ble_eq_true rfl) | (refine lv_room ?_; simp [re_cat, cat_i, cat_l, cat_r])) dX0_hemIfThen_34 ⟨Nat.le_refl _, Nat.le_refl _⟩) hS (fun r4 s3 H locs h hP hS => ?_)
  refine lv_aload_n hx hb dX0_hemIfThen_37 rfl (lv_at hl 2 rfl) ?_
  refine va_get (ci := 0) (v := va_re ad (tX x0 11)) (C := RX0) (T := TX0) (N := 15) hx hb hts hi_X0 hown hE.1 hP x0 (w_0 hE hk0) rfl 11 (by decide) (hts (.fieldLink RX0 33 "HemLine$Delta" "tuckThen" "[I") (by decide +kernel)) (fun _ h9 => h9) rfl dX0_hemIfThen_38 ?_
  refine lv_iload hx hb dX0_hemIfThen_41 (lv_at hl 1 rfl) ?_
  refine f_i (kN (As := [va_re ad (tX x0 11), .int ((x2 * 6) + x1)]) (rest := [.int r4, .int ((if 0 < (x3 - r2) then (x3 - r2) else 0)), .int x4]) ⟨hx, hb, hml, hown, hts⟩ (c_X5_item l D cs ad (tX x0 11) ((x2 * 6) + x1) s3 _) ⟨va_cnB 2 hts gX0_hemIfThen_X5_item_n72 rfl rfl rfl (hE.2.2.2.2 ("HemLine$Delta", 72, ⟨"HemLine", "item", "([II)I"⟩, "HemLine") (by decide +kernel)) (hts (.initialized RX5) (by decide +kernel)) (by decide +kernel) ⟨Nat.le_of_ble_eq_true rfl, Nat.le_of_ble_eq_true rfl⟩, hts (.static yX5_item) (by decide +kernel), trivial⟩ hE hP h rfl hl.1 rfl (by first | exact lv_room (Nat.le_of_ble_eq_true rfl) | (refine lv_room ?_; simp [re_cat, cat_i, cat_l, cat_r])) dX0_hemIfThen_43 ⟨Nat.le_refl _, Nat.le_refl _⟩) hS (fun r6 s5 H locs h hP hS => ?_)
  refine lv_iload_n hx hb dX0_hemIfThen_46 rfl (lv_at hl 4 rfl) ?_
  refine f_i (kS (As := [.int x4, .int ((if 0 < (x3 - r2) then (x3 - r2) else 0)), .int r4, .int r6, .int x2]) (rest := []) ⟨hx, hb, hml, hown, hts⟩ (c_X2_hemBy l D cs ad x4 ((if 0 < (x3 - r2) then (x3 - r2) else 0)) r4 r6 x2 s5 _) (va_cwS 5 hts gX0_hemIfThen_X2_hemBy rfl rfl rfl (by decide +kernel) ⟨Nat.le_of_ble_eq_true rfl, Nat.le_of_ble_eq_true rfl⟩) hE hP h rfl hl.1 rfl (by first | exact lv_room (Nat.le_of_ble_eq_true rfl) | (refine lv_room ?_; simp [re_cat, cat_i, cat_l, cat_r])) dX0_hemIfThen_47 ⟨Nat.le_refl _, Nat.le_refl _⟩) hS (fun r8 s7 H locs h hP hS => ?_)
  exact W.iret hx hb hr (fun t ht hW => ⟨⟨_, _, rfl, h, pw ht hP⟩, hS.F ht⟩) hS.2.2 dX0_hemIfThen_50
def p_X0_hemOf (x0 : Nat) (x1 : Int32) (x2 : Int32) (s : Sg) (Q : Int32 → Sg → Prop) : Prop := p_X5_item (tX x0 9) x2 s (fun r2 s1 => p_X5_item (tX x0 5) x1 s1 (fun r4 s3 => p_X0_hemIfThen x0 x1 x2 r2 r4 s3 (fun r6 s5 => Q r6 s5)))
set_option maxHeartbeats 4000000 in
set_option maxRecDepth 100000 in
theorem c_X0_hemOf (l : Launch) (D : va_G) (cs : Cs) (ad : Nat → Nat) (x0 : Nat) (x1 : Int32) (x2 : Int32) (s0 : Sg) (Q : Int32 → Sg → Prop) (hk0 : kX x0 = 0) : Met l yX0_hemOf wsX0_hemOf { frames := 3, cells := 0, slots := 0, locals := 72 } (Pc0 bX D cs ad [.ref (ad x0), .int x1, .int x2] s0 (p_X0_hemOf x0 x1 x2 s0 Q)) (QI bX D cs ad Q) 0 0 (fAd bX ad) := by
  refine Met.ofW (cc := cX0_hemOf) (maxL := 3) (ret := (some .int)) (by decide) rfl ?_
  intro p e s m args below meth c s₁ B0 hml hv
  obtain ⟨ha, hP, hE, h⟩ := hv
  have hx := B0.exec
  have hb := B0.bytes
  have hr := B0.returns
  have hts := atoms_spec (ws := wsX0_hemOf) B0.pre
  have hown : s.vm.findClass RX0 = some m.cls := findClass_of_methodNamed B0.named
  have hlocks := B0.notSynchronized
  have hi_X0 : ∀ w ∈ u_ws RX0 TX0 15, w ∈ wsX0_hemOf := by decide +kernel
  have hS : va_S (fAd bX ad) s.heap s.heap [] := va_S.rf
  have hl := lv_entry ([.ref (ad x0), .int x1, .int x2]) (n := 3) (by first | exact Nat.le_of_ble_eq_true rfl | simp [lg_sl, re_cat, cat_i, cat_l, cat_r])
  rw [show entryFrame m args 3 = entryFrame m ([.ref (ad x0), .int x1, .int x2] : List Value).toArray 3 by rw [ha], lg_entry_eq]
  generalize (lg_sl ([.ref (ad x0), .int x1, .int x2]) ++ List.replicate (3 - (lg_sl ([.ref (ad x0), .int x1, .int x2])).length) Slot.unset).toArray = ls at hl ⊢
  have hl : lv_has ls 3 [(0, .ref (ad x0)), (1, .int x1), (2, .int x2)] := by first | exact hl | simpa [lv_args, re_cat, cat_i, cat_l, cat_r] using hl
  unfold p_X0_hemOf at h
  refine lv_aload_n hx hb dX0_hemOf_0 rfl (lv_at hl 0 rfl) ?_
  refine lv_iload_n hx hb dX0_hemOf_1 rfl (lv_at hl 1 rfl) ?_
  refine lv_iload_n hx hb dX0_hemOf_2 rfl (lv_at hl 2 rfl) ?_
  refine lv_aload_n hx hb dX0_hemOf_3 rfl (lv_at hl 0 rfl) ?_
  refine va_get (ci := 0) (v := va_re ad (tX x0 9)) (C := RX0) (T := TX0) (N := 15) hx hb hts hi_X0 hown hE.1 hP x0 (w_0 hE hk0) rfl 9 (by decide) (hts (.fieldLink RX0 27 "HemLine$Delta" "heightOf" "[I") (by decide +kernel)) (fun _ h9 => h9) rfl dX0_hemOf_4 ?_
  refine lv_iload_n hx hb dX0_hemOf_7 rfl (lv_at hl 2 rfl) ?_
  refine f_i (kN (As := [va_re ad (tX x0 9), .int x2]) (rest := [.int x2, .int x1, .ref (ad x0)]) ⟨hx, hb, hml, hown, hts⟩ (c_X5_item l D cs ad (tX x0 9) x2 s0 _) ⟨va_cnB 2 hts gX0_hemOf_X5_item_n72 rfl rfl rfl (hE.2.2.2.2 ("HemLine$Delta", 72, ⟨"HemLine", "item", "([II)I"⟩, "HemLine") (by decide +kernel)) (hts (.initialized RX5) (by decide +kernel)) (by decide +kernel) ⟨Nat.le_of_ble_eq_true rfl, Nat.le_of_ble_eq_true rfl⟩, hts (.static yX5_item) (by decide +kernel), trivial⟩ hE hP h rfl hl.1 rfl (by first | exact lv_room (Nat.le_of_ble_eq_true rfl) | (refine lv_room ?_; simp [re_cat, cat_i, cat_l, cat_r])) dX0_hemOf_8 ⟨Nat.le_refl _, Nat.le_refl _⟩) hS (fun r2 s1 H locs h hP hS => ?_)
  refine lv_aload_n hx hb dX0_hemOf_11 rfl (lv_at hl 0 rfl) ?_
  refine va_get (ci := 0) (v := va_re ad (tX x0 5)) (C := RX0) (T := TX0) (N := 15) hx hb hts hi_X0 hown hE.1 hP x0 (w_0 hE hk0) rfl 5 (by decide) (hts (.fieldLink RX0 15 "HemLine$Delta" "kindOf" "[I") (by decide +kernel)) (fun _ h9 => h9) rfl dX0_hemOf_12 ?_
  refine lv_iload_n hx hb dX0_hemOf_15 rfl (lv_at hl 1 rfl) ?_
  refine f_i (kN (As := [va_re ad (tX x0 5), .int x1]) (rest := [.int r2, .int x2, .int x1, .ref (ad x0)]) ⟨hx, hb, hml, hown, hts⟩ (c_X5_item l D cs ad (tX x0 5) x1 s1 _) ⟨va_cnB 2 hts gX0_hemOf_X5_item_n72 rfl rfl rfl (hE.2.2.2.2 ("HemLine$Delta", 72, ⟨"HemLine", "item", "([II)I"⟩, "HemLine") (by decide +kernel)) (hts (.initialized RX5) (by decide +kernel)) (by decide +kernel) ⟨Nat.le_of_ble_eq_true rfl, Nat.le_of_ble_eq_true rfl⟩, hts (.static yX5_item) (by decide +kernel), trivial⟩ hE hP h rfl hl.1 rfl (by first | exact lv_room (Nat.le_of_ble_eq_true rfl) | (refine lv_room ?_; simp [re_cat, cat_i, cat_l, cat_r])) dX0_hemOf_16 ⟨Nat.le_refl _, Nat.le_refl _⟩) hS (fun r4 s3 H locs h hP hS => ?_)
  refine f_i (kV (As := [.int x1, .int x2, .int r2, .int r4]) (rest := []) (o := some x0) rfl ⟨hx, hb, hml, hown, hts⟩ (c_X0_hemIfThen l D cs ad x0 x1 x2 r2 r4 s3 _ hk0) (cwV 4 hts gX0_hemOf_X0_hemIfThen rfl rfl rfl (by decide +kernel) ⟨Nat.le_of_ble_eq_true rfl, Nat.le_of_ble_eq_true rfl⟩) hE hP rfl rfl (w_0 hE hk0) h rfl hl.1 rfl (by first | exact lv_room (Nat.le_of_ble_eq_true rfl) | (refine lv_room ?_; simp [re_cat, cat_i, cat_l, cat_r])) dX0_hemOf_19 ⟨Nat.le_refl _, Nat.le_refl _⟩) hS (fun r6 s5 H locs h hP hS => ?_)
  exact W.iret hx hb hr (fun t ht hW => ⟨⟨_, _, rfl, h, pw ht hP⟩, hS.F ht⟩) hS.2.2 dX0_hemOf_22
def p_X0_plainHemOf (x0 : Nat) (x1 : Int32) (x2 : Int32) (s : Sg) (Q : Int32 → Sg → Prop) : Prop := p_X5_item (tX x0 9) x2 s (fun r2 s1 => p_X0_hemIfThen x0 x1 x2 r2 0 s1 (fun r4 s3 => Q r4 s3))
set_option maxHeartbeats 4000000 in
set_option maxRecDepth 100000 in
theorem c_X0_plainHemOf (l : Launch) (D : va_G) (cs : Cs) (ad : Nat → Nat) (x0 : Nat) (x1 : Int32) (x2 : Int32) (s0 : Sg) (Q : Int32 → Sg → Prop) (hk0 : kX x0 = 0) : Met l yX0_plainHemOf wsX0_plainHemOf { frames := 3, cells := 0, slots := 0, locals := 72 } (Pc0 bX D cs ad [.ref (ad x0), .int x1, .int x2] s0 (p_X0_plainHemOf x0 x1 x2 s0 Q)) (QI bX D cs ad Q) 0 0 (fAd bX ad) := by
  refine Met.ofW (cc := cX0_plainHemOf) (maxL := 3) (ret := (some .int)) (by decide) rfl ?_
  intro p e s m args below meth c s₁ B0 hml hv
  obtain ⟨ha, hP, hE, h⟩ := hv
  have hx := B0.exec
  have hb := B0.bytes
  have hr := B0.returns
  have hts := atoms_spec (ws := wsX0_plainHemOf) B0.pre
  have hown : s.vm.findClass RX0 = some m.cls := findClass_of_methodNamed B0.named
  have hlocks := B0.notSynchronized
  have hi_X0 : ∀ w ∈ u_ws RX0 TX0 15, w ∈ wsX0_plainHemOf := by decide +kernel
  have hS : va_S (fAd bX ad) s.heap s.heap [] := va_S.rf
  have hl := lv_entry ([.ref (ad x0), .int x1, .int x2]) (n := 3) (by first | exact Nat.le_of_ble_eq_true rfl | simp [lg_sl, re_cat, cat_i, cat_l, cat_r])
  rw [show entryFrame m args 3 = entryFrame m ([.ref (ad x0), .int x1, .int x2] : List Value).toArray 3 by rw [ha], lg_entry_eq]
  generalize (lg_sl ([.ref (ad x0), .int x1, .int x2]) ++ List.replicate (3 - (lg_sl ([.ref (ad x0), .int x1, .int x2])).length) Slot.unset).toArray = ls at hl ⊢
  have hl : lv_has ls 3 [(0, .ref (ad x0)), (1, .int x1), (2, .int x2)] := by first | exact hl | simpa [lv_args, re_cat, cat_i, cat_l, cat_r] using hl
  unfold p_X0_plainHemOf at h
  refine lv_aload_n hx hb dX0_plainHemOf_0 rfl (lv_at hl 0 rfl) ?_
  refine lv_iload_n hx hb dX0_plainHemOf_1 rfl (lv_at hl 1 rfl) ?_
  refine lv_iload_n hx hb dX0_plainHemOf_2 rfl (lv_at hl 2 rfl) ?_
  refine lv_aload_n hx hb dX0_plainHemOf_3 rfl (lv_at hl 0 rfl) ?_
  refine va_get (ci := 0) (v := va_re ad (tX x0 9)) (C := RX0) (T := TX0) (N := 15) hx hb hts hi_X0 hown hE.1 hP x0 (w_0 hE hk0) rfl 9 (by decide) (hts (.fieldLink RX0 27 "HemLine$Delta" "heightOf" "[I") (by decide +kernel)) (fun _ h9 => h9) rfl dX0_plainHemOf_4 ?_
  refine lv_iload_n hx hb dX0_plainHemOf_7 rfl (lv_at hl 2 rfl) ?_
  refine f_i (kN (As := [va_re ad (tX x0 9), .int x2]) (rest := [.int x2, .int x1, .ref (ad x0)]) ⟨hx, hb, hml, hown, hts⟩ (c_X5_item l D cs ad (tX x0 9) x2 s0 _) ⟨va_cnB 2 hts gX0_plainHemOf_X5_item_n72 rfl rfl rfl (hE.2.2.2.2 ("HemLine$Delta", 72, ⟨"HemLine", "item", "([II)I"⟩, "HemLine") (by decide +kernel)) (hts (.initialized RX5) (by decide +kernel)) (by decide +kernel) ⟨Nat.le_of_ble_eq_true rfl, Nat.le_of_ble_eq_true rfl⟩, hts (.static yX5_item) (by decide +kernel), trivial⟩ hE hP h rfl hl.1 rfl (by first | exact lv_room (Nat.le_of_ble_eq_true rfl) | (refine lv_room ?_; simp [re_cat, cat_i, cat_l, cat_r])) dX0_plainHemOf_8 ⟨Nat.le_refl _, Nat.le_refl _⟩) hS (fun r2 s1 H locs h hP hS => ?_)
  refine lv_iconst (v := 0) hx hb dX0_plainHemOf_11 (by decide) ?_
  refine f_i (kV (As := [.int x1, .int x2, .int r2, .int 0]) (rest := []) (o := some x0) rfl ⟨hx, hb, hml, hown, hts⟩ (c_X0_hemIfThen l D cs ad x0 x1 x2 r2 0 s1 _ hk0) (cwV 4 hts gX0_plainHemOf_X0_hemIfThen rfl rfl rfl (by decide +kernel) ⟨Nat.le_of_ble_eq_true rfl, Nat.le_of_ble_eq_true rfl⟩) hE hP rfl rfl (w_0 hE hk0) h rfl hl.1 rfl (by first | exact lv_room (Nat.le_of_ble_eq_true rfl) | (refine lv_room ?_; simp [re_cat, cat_i, cat_l, cat_r])) dX0_plainHemOf_12 ⟨Nat.le_refl _, Nat.le_refl _⟩) hS (fun r4 s3 H locs h hP hS => ?_)
  exact W.iret hx hb hr (fun t ht hW => ⟨⟨_, _, rfl, h, pw ht hP⟩, hS.F ht⟩) hS.2.2 dX0_plainHemOf_15
def p_X0_greatestHemOf_L4 (Q : Int32 → Sg → Prop)  : Nat → Nat → Int32 → Int32 → Int32 → Sg → Prop
  | 0, _, _, _, _, _ => False
  | n + 1, x0, x1, x2, x3, s => (((gI s x0 2) ≤ x3 → Q x2 s) ∧ (¬ (gI s x0 2) ≤ x3 → p_X0_hemOf x0 x1 x3 s (fun r3 s2 => p_X0_greatestHemOf_L4 Q  n x0 x1 ((if x2 < r3 then r3 else x2)) (x3 + 1) s2)))
def p_X0_greatestHemOf (x0 : Nat) (x1 : Int32) (s : Sg) (Q : Int32 → Sg → Prop) : Prop := (∃ n1, p_X0_greatestHemOf_L4 Q  n1 x0 x1 0 0 s)
set_option maxHeartbeats 4000000 in
set_option maxRecDepth 100000 in
theorem c_X0_greatestHemOf (l : Launch) (D : va_G) (cs : Cs) (ad : Nat → Nat) (x0 : Nat) (x1 : Int32) (s0 : Sg) (Q : Int32 → Sg → Prop) (hk0 : kX x0 = 0) : Met l yX0_greatestHemOf wsX0_greatestHemOf { frames := 4, cells := 0, slots := 0, locals := 94 } (Pc0 bX D cs ad [.ref (ad x0), .int x1] s0 (p_X0_greatestHemOf x0 x1 s0 Q)) (QI bX D cs ad Q) 0 0 (fAd bX ad) := by
  refine Met.ofW (cc := cX0_greatestHemOf) (maxL := 4) (ret := (some .int)) (by decide) rfl ?_
  intro p e s m args below meth c s₁ B0 hml hv
  obtain ⟨ha, hP, hE, h⟩ := hv
  have hx := B0.exec
  have hb := B0.bytes
  have hr := B0.returns
  have hts := atoms_spec (ws := wsX0_greatestHemOf) B0.pre
  have hown : s.vm.findClass RX0 = some m.cls := findClass_of_methodNamed B0.named
  have hlocks := B0.notSynchronized
  have hi_X0 : ∀ w ∈ u_ws RX0 TX0 15, w ∈ wsX0_greatestHemOf := by decide +kernel
  have hS : va_S (fAd bX ad) s.heap s.heap [] := va_S.rf
  have hl := lv_entry ([.ref (ad x0), .int x1]) (n := 4) (by first | exact Nat.le_of_ble_eq_true rfl | simp [lg_sl, re_cat, cat_i, cat_l, cat_r])
  rw [show entryFrame m args 4 = entryFrame m ([.ref (ad x0), .int x1] : List Value).toArray 4 by rw [ha], lg_entry_eq]
  generalize (lg_sl ([.ref (ad x0), .int x1]) ++ List.replicate (4 - (lg_sl ([.ref (ad x0), .int x1])).length) Slot.unset).toArray = ls at hl ⊢
  have hl : lv_has ls 4 [(0, .ref (ad x0)), (1, .int x1)] := by first | exact hl | simpa [lv_args, re_cat, cat_i, cat_l, cat_r] using hl
  have hB4 : ∀ (n4 : Nat) (x1 : Int32) (x2 : Int32) (x3 : Int32) (σ : Sg) (H : Heap) (locs : List Loc) (ls : Array Slot), p_X0_greatestHemOf_L4 Q  n4 x0 x1 x2 x3 σ → va_P D vwCl (wl bX cs ad σ) H → va_S (fAd bX ad) s.heap H locs → lv_has ls 4 [(0, .ref (ad x0)), (1, .int x1), (2, .int x2), (3, .int x3)] → W p l e { frames := 4, cells := 0, slots := 0, locals := 94 } s m args below meth c H locs 0 0 (MQ below (QI bX D cs ad Q) args s 0 0 (fAd bX ad)) (F0 m 4 ls []) := by
    intro n4
    induction n4 with
    | zero =>
      intro x1 x2 x3 σ H locs ls h
      exact h.elim
    | succ n4 ih =>
      have hK4 := ih
      intro x1 x2 x3 σ H locs ls h hP hS hl
      rw [p_X0_greatestHemOf_L4] at h
      refine lv_iload_n hx hb dX0_greatestHemOf_4 rfl (lv_at hl 3 rfl) ?_
      refine lv_aload_n hx hb dX0_greatestHemOf_5 rfl (lv_at hl 0 rfl) ?_
      refine va_get (ci := 0) (v := .int (gI σ x0 2)) (C := RX0) (T := TX0) (N := 15) hx hb hts hi_X0 hown hE.1 hP x0 (w_0 hE hk0) rfl 2 (by decide) (hts (.fieldLink RX0 52 "HemLine$Delta" "years" "I") (by decide +kernel)) (fun _ h9 => h9) rfl dX0_greatestHemOf_6 ?_
      refine lv_icmp_ge (tgt := 29) hx hb dX0_greatestHemOf_9 (by decide) (fun c1 => ?_) (fun c1 => ?_)
      · replace h := h.1 c1
        refine lv_iload_n hx hb dX0_greatestHemOf_29 rfl (lv_at hl 2 rfl) ?_
        exact W.iret hx hb hr (fun t ht hW => ⟨⟨_, _, rfl, h, pw ht hP⟩, hS.F ht⟩) hS.2.2 dX0_greatestHemOf_30
      · replace h := h.2 c1
        refine lv_iload_n hx hb dX0_greatestHemOf_12 rfl (lv_at hl 2 rfl) ?_
        refine lv_aload_n hx hb dX0_greatestHemOf_13 rfl (lv_at hl 0 rfl) ?_
        refine lv_iload_n hx hb dX0_greatestHemOf_14 rfl (lv_at hl 1 rfl) ?_
        refine lv_iload_n hx hb dX0_greatestHemOf_15 rfl (lv_at hl 3 rfl) ?_
        refine f_i (kV (As := [.int x1, .int x3]) (rest := [.int x2]) (o := some x0) rfl ⟨hx, hb, hml, hown, hts⟩ (c_X0_hemOf l D cs ad x0 x1 x3 σ _ hk0) (cwV 2 hts gX0_greatestHemOf_X0_hemOf rfl rfl rfl (by decide +kernel) ⟨Nat.le_of_ble_eq_true rfl, Nat.le_of_ble_eq_true rfl⟩) hE hP rfl rfl (w_0 hE hk0) h rfl hl.1 rfl (by first | exact lv_room (Nat.le_of_ble_eq_true rfl) | (refine lv_room ?_; simp [re_cat, cat_i, cat_l, cat_r])) dX0_greatestHemOf_16 ⟨Nat.le_refl _, Nat.le_refl _⟩) hS (fun r3 s2 H locs h hP hS => ?_)
        refine va_mmax hx hb (hml.trans hl.1.symm) hown (hts (.methodLink RX0 80 Lib.Math.max.name) (by decide +kernel)) (hts (.static Lib.Math.max.name) (by decide +kernel)) (hts (.initialized "java/lang/Math") (by decide +kernel)) (hts (.code Lib.Math.max.name Lib.Math.max.code 2 (some .int)) (by decide +kernel)) (Nat.le_of_ble_eq_true rfl) (by first | exact Nat.le_of_ble_eq_true rfl | (simp only [List.map, re_cat, cat_i, cat_l, cat_r, List.sum_cons, List.sum_nil]; exact Nat.le_of_ble_eq_true rfl)) (Nat.le_refl _) (Nat.le_refl _) dX0_greatestHemOf_19 ?_
        refine lv_istore_n (i := 2) (lv' := [(2, .int ((if x2 < r3 then r3 else x2))), (0, .ref (ad x0)), (1, .int x1), (3, .int x3)]) hx hb dX0_greatestHemOf_22 rfl hl (by decide) (by first | rfl | simp [re_cat, cat_i, cat_l, cat_r]) (fun ls hl => ?_)
        refine lv_iinc (v := x3 + 1) (lv' := [(3, .int (x3 + 1)), (2, .int ((if x2 < r3 then r3 else x2))), (0, .ref (ad x0)), (1, .int x1)]) hx hb dX0_greatestHemOf_23 hl (k := 3) rfl rfl (by decide) (by first | rfl | simp [re_cat, cat_i, cat_l, cat_r]) (fun ls hl => ?_)
        refine lv_goto (tgt := 4) hx hb dX0_greatestHemOf_26 (by decide) ?_
        exact ih x1 ((if x2 < r3 then r3 else x2)) (x3 + 1) s2 H locs ls h hP hS (lv_sub hl [2, 3, 1, 0] rfl)
  unfold p_X0_greatestHemOf at h
  refine lv_iconst (v := 0) hx hb dX0_greatestHemOf_0 (by decide) ?_
  refine lv_istore_n (i := 2) (lv' := [(2, .int 0), (0, .ref (ad x0)), (1, .int x1)]) hx hb dX0_greatestHemOf_1 rfl hl (by decide) (by first | rfl | simp [re_cat, cat_i, cat_l, cat_r]) (fun ls hl => ?_)
  refine lv_iconst (v := 0) hx hb dX0_greatestHemOf_2 (by decide) ?_
  refine lv_istore_n (i := 3) (lv' := [(3, .int 0), (2, .int 0), (0, .ref (ad x0)), (1, .int x1)]) hx hb dX0_greatestHemOf_3 rfl hl (by decide) (by first | rfl | simp [re_cat, cat_i, cat_l, cat_r]) (fun ls hl => ?_)
  obtain ⟨n1, h⟩ := h
  exact hB4 n1 x1 0 0 s0 _ _ ls h hP hS (lv_sub hl [2, 3, 1, 0] rfl)
def p_X0_fittingHeights_b49 (Q : Int32 → Sg → Prop) (K13 : Nat → Int32 → Int32 → Int32 → Int32 → Int32 → Sg → Prop) (x0 : Nat) (x1 : Int32) (x2 : Int32) (x3 : Int32) (x4 : Int32) (x5 : Int32) (s : Sg) : Prop := K13 x0 x1 x2 x3 x4 (x5 + 1) s
def p_X0_fittingHeights_L13 (Q : Int32 → Sg → Prop)  : Nat → Nat → Int32 → Int32 → Int32 → Int32 → Int32 → Sg → Prop
  | 0, _, _, _, _, _, _, _ => False
  | n + 1, x0, x1, x2, x3, x4, x5, s => ((20 < x5 → Q x4 s) ∧ (¬ 20 < x5 → p_X5_item (tX x0 5) x1 s (fun r3 s2 => p_X0_hemIfThen x0 x1 x2 x5 r3 s2 (fun r5 s4 => ((r5 = x3 → p_X0_fittingHeights_b49 Q (fun y0 y1 y2 y3 y4 y5 u => p_X0_fittingHeights_L13 Q  n y0 y1 y2 y3 y4 y5 u) x0 x1 x2 x3 (x4 ||| (1 <<< (x5 &&& 31))) x5 s4) ∧ (¬ r5 = x3 → p_X0_fittingHeights_b49 Q (fun y0 y1 y2 y3 y4 y5 u => p_X0_fittingHeights_L13 Q  n y0 y1 y2 y3 y4 y5 u) x0 x1 x2 x3 x4 x5 s4))))))
def p_X0_fittingHeights (x0 : Nat) (x1 : Int32) (x2 : Int32) (s : Sg) (Q : Int32 → Sg → Prop) : Prop := p_X0_hemOf x0 x1 x2 s (fun r2 s1 => (∃ n3, p_X0_fittingHeights_L13 Q  n3 x0 x1 x2 r2 0 0 s1))
set_option maxHeartbeats 4000000 in
set_option maxRecDepth 100000 in
theorem c_X0_fittingHeights (l : Launch) (D : va_G) (cs : Cs) (ad : Nat → Nat) (x0 : Nat) (x1 : Int32) (x2 : Int32) (s0 : Sg) (Q : Int32 → Sg → Prop) (hk0 : kX x0 = 0) : Met l yX0_fittingHeights wsX0_fittingHeights { frames := 4, cells := 0, slots := 0, locals := 94 } (Pc0 bX D cs ad [.ref (ad x0), .int x1, .int x2] s0 (p_X0_fittingHeights x0 x1 x2 s0 Q)) (QI bX D cs ad Q) 0 0 (fAd bX ad) := by
  refine Met.ofW (cc := cX0_fittingHeights) (maxL := 6) (ret := (some .int)) (by decide) rfl ?_
  intro p e s m args below meth c s₁ B0 hml hv
  obtain ⟨ha, hP, hE, h⟩ := hv
  have hx := B0.exec
  have hb := B0.bytes
  have hr := B0.returns
  have hts := atoms_spec (ws := wsX0_fittingHeights) B0.pre
  have hown : s.vm.findClass RX0 = some m.cls := findClass_of_methodNamed B0.named
  have hlocks := B0.notSynchronized
  have hi_X0 : ∀ w ∈ u_ws RX0 TX0 15, w ∈ wsX0_fittingHeights := by decide +kernel
  have hS : va_S (fAd bX ad) s.heap s.heap [] := va_S.rf
  have hl := lv_entry ([.ref (ad x0), .int x1, .int x2]) (n := 6) (by first | exact Nat.le_of_ble_eq_true rfl | simp [lg_sl, re_cat, cat_i, cat_l, cat_r])
  rw [show entryFrame m args 6 = entryFrame m ([.ref (ad x0), .int x1, .int x2] : List Value).toArray 6 by rw [ha], lg_entry_eq]
  generalize (lg_sl ([.ref (ad x0), .int x1, .int x2]) ++ List.replicate (6 - (lg_sl ([.ref (ad x0), .int x1, .int x2])).length) Slot.unset).toArray = ls at hl ⊢
  have hl : lv_has ls 6 [(0, .ref (ad x0)), (1, .int x1), (2, .int x2)] := by first | exact hl | simpa [lv_args, re_cat, cat_i, cat_l, cat_r] using hl
  have hB13 : ∀ (n13 : Nat) (x1 : Int32) (x2 : Int32) (x3 : Int32) (x4 : Int32) (x5 : Int32) (σ : Sg) (H : Heap) (locs : List Loc) (ls : Array Slot), p_X0_fittingHeights_L13 Q  n13 x0 x1 x2 x3 x4 x5 σ → va_P D vwCl (wl bX cs ad σ) H → va_S (fAd bX ad) s.heap H locs → lv_has ls 6 [(0, .ref (ad x0)), (1, .int x1), (2, .int x2), (3, .int x3), (4, .int x4), (5, .int x5)] → W p l e { frames := 4, cells := 0, slots := 0, locals := 94 } s m args below meth c H locs 0 0 (MQ below (QI bX D cs ad Q) args s 0 0 (fAd bX ad)) (F0 m 13 ls []) := by
    intro n13
    induction n13 with
    | zero =>
      intro x1 x2 x3 x4 x5 σ H locs ls h
      exact h.elim
    | succ n13 ih =>
      have hK13 := ih
      have hB49 : ∀ (x1 : Int32) (x2 : Int32) (x3 : Int32) (x4 : Int32) (x5 : Int32) (σ : Sg) (H : Heap) (locs : List Loc) (ls : Array Slot), p_X0_fittingHeights_b49 Q (fun y0 y1 y2 y3 y4 y5 u => p_X0_fittingHeights_L13 Q  n13 y0 y1 y2 y3 y4 y5 u) x0 x1 x2 x3 x4 x5 σ → va_P D vwCl (wl bX cs ad σ) H → va_S (fAd bX ad) s.heap H locs → lv_has ls 6 [(0, .ref (ad x0)), (1, .int x1), (2, .int x2), (3, .int x3), (4, .int x4), (5, .int x5)] → W p l e { frames := 4, cells := 0, slots := 0, locals := 94 } s m args below meth c H locs 0 0 (MQ below (QI bX D cs ad Q) args s 0 0 (fAd bX ad)) (F0 m 49 ls []) := by
        intro x1 x2 x3 x4 x5 σ H locs ls h hP hS hl
        unfold p_X0_fittingHeights_b49 at h
        refine lv_iinc (v := x5 + 1) (lv' := [(5, .int (x5 + 1)), (0, .ref (ad x0)), (1, .int x1), (2, .int x2), (3, .int x3), (4, .int x4)]) hx hb dX0_fittingHeights_49 hl (k := 5) rfl rfl (by decide) (by first | rfl | simp [re_cat, cat_i, cat_l, cat_r]) (fun ls hl => ?_)
        refine lv_goto (tgt := 13) hx hb dX0_fittingHeights_52 (by decide) ?_
        exact hK13 x1 x2 x3 x4 (x5 + 1) σ H locs ls h hP hS (lv_sub hl [1, 2, 3, 4, 5, 0] rfl)
      intro x1 x2 x3 x4 x5 σ H locs ls h hP hS hl
      rw [p_X0_fittingHeights_L13] at h
      refine lv_iload hx hb dX0_fittingHeights_13 (lv_at hl 5 rfl) ?_
      refine lv_bipush (v := 20) hx hb dX0_fittingHeights_15 (by decide) ?_
      refine lv_icmp_gt (tgt := 55) hx hb dX0_fittingHeights_17 (by decide) (fun c1 => ?_) (fun c1 => ?_)
      · replace h := h.1 c1
        refine lv_iload hx hb dX0_fittingHeights_55 (lv_at hl 4 rfl) ?_
        exact W.iret hx hb hr (fun t ht hW => ⟨⟨_, _, rfl, h, pw ht hP⟩, hS.F ht⟩) hS.2.2 dX0_fittingHeights_57
      · replace h := h.2 c1
        refine lv_aload_n hx hb dX0_fittingHeights_20 rfl (lv_at hl 0 rfl) ?_
        refine lv_iload_n hx hb dX0_fittingHeights_21 rfl (lv_at hl 1 rfl) ?_
        refine lv_iload_n hx hb dX0_fittingHeights_22 rfl (lv_at hl 2 rfl) ?_
        refine lv_iload hx hb dX0_fittingHeights_23 (lv_at hl 5 rfl) ?_
        refine lv_aload_n hx hb dX0_fittingHeights_25 rfl (lv_at hl 0 rfl) ?_
        refine va_get (ci := 0) (v := va_re ad (tX x0 5)) (C := RX0) (T := TX0) (N := 15) hx hb hts hi_X0 hown hE.1 hP x0 (w_0 hE hk0) rfl 5 (by decide) (hts (.fieldLink RX0 15 "HemLine$Delta" "kindOf" "[I") (by decide +kernel)) (fun _ h9 => h9) rfl dX0_fittingHeights_26 ?_
        refine lv_iload_n hx hb dX0_fittingHeights_29 rfl (lv_at hl 1 rfl) ?_
        refine f_i (kN (As := [va_re ad (tX x0 5), .int x1]) (rest := [.int x5, .int x2, .int x1, .ref (ad x0)]) ⟨hx, hb, hml, hown, hts⟩ (c_X5_item l D cs ad (tX x0 5) x1 σ _) ⟨va_cnB 2 hts gX0_fittingHeights_X5_item_n72 rfl rfl rfl (hE.2.2.2.2 ("HemLine$Delta", 72, ⟨"HemLine", "item", "([II)I"⟩, "HemLine") (by decide +kernel)) (hts (.initialized RX5) (by decide +kernel)) (by decide +kernel) ⟨Nat.le_of_ble_eq_true rfl, Nat.le_of_ble_eq_true rfl⟩, hts (.static yX5_item) (by decide +kernel), trivial⟩ hE hP h rfl hl.1 rfl (by first | exact lv_room (Nat.le_of_ble_eq_true rfl) | (refine lv_room ?_; simp [re_cat, cat_i, cat_l, cat_r])) dX0_fittingHeights_30 ⟨Nat.le_refl _, Nat.le_refl _⟩) hS (fun r3 s2 H locs h hP hS => ?_)
        refine f_i (kV (As := [.int x1, .int x2, .int x5, .int r3]) (rest := []) (o := some x0) rfl ⟨hx, hb, hml, hown, hts⟩ (c_X0_hemIfThen l D cs ad x0 x1 x2 x5 r3 s2 _ hk0) (cwV 4 hts gX0_fittingHeights_X0_hemIfThen rfl rfl rfl (by decide +kernel) ⟨Nat.le_of_ble_eq_true rfl, Nat.le_of_ble_eq_true rfl⟩) hE hP rfl rfl (w_0 hE hk0) h rfl hl.1 rfl (by first | exact lv_room (Nat.le_of_ble_eq_true rfl) | (refine lv_room ?_; simp [re_cat, cat_i, cat_l, cat_r])) dX0_fittingHeights_33 ⟨Nat.le_refl _, Nat.le_refl _⟩) hS (fun r5 s4 H locs h hP hS => ?_)
        refine lv_iload_n hx hb dX0_fittingHeights_36 rfl (lv_at hl 3 rfl) ?_
        refine lv_icmp_ne (tgt := 49) hx hb dX0_fittingHeights_37 (by decide) (fun c6 => ?_) (fun c6 => ?_)
        · replace h := h.2 c6
          exact hB49 x1 x2 x3 x4 x5 s4 H locs ls h hP hS (lv_sub hl [0, 1, 2, 3, 4, 5] rfl)
        · replace h := h.1 c6
          refine lv_iload hx hb dX0_fittingHeights_40 (lv_at hl 4 rfl) ?_
          refine lv_iconst (v := 1) hx hb dX0_fittingHeights_42 (by decide) ?_
          refine lv_iload hx hb dX0_fittingHeights_43 (lv_at hl 5 rfl) ?_
          refine lv_ishl hx hb dX0_fittingHeights_45 ?_
          refine lv_ior hx hb dX0_fittingHeights_46 ?_
          refine lv_istore (i := 4) (lv' := [(4, .int (x4 ||| (1 <<< (x5 &&& 31)))), (0, .ref (ad x0)), (1, .int x1), (2, .int x2), (3, .int x3), (5, .int x5)]) hx hb dX0_fittingHeights_47 hl (by decide) (by first | rfl | simp [re_cat, cat_i, cat_l, cat_r]) (fun ls hl => ?_)
          exact hB49 x1 x2 x3 (x4 ||| (1 <<< (x5 &&& 31))) x5 s4 H locs ls h hP hS (lv_sub hl [1, 2, 3, 4, 0, 5] rfl)
  unfold p_X0_fittingHeights at h
  refine lv_aload_n hx hb dX0_fittingHeights_0 rfl (lv_at hl 0 rfl) ?_
  refine lv_iload_n hx hb dX0_fittingHeights_1 rfl (lv_at hl 1 rfl) ?_
  refine lv_iload_n hx hb dX0_fittingHeights_2 rfl (lv_at hl 2 rfl) ?_
  refine f_i (kV (As := [.int x1, .int x2]) (rest := []) (o := some x0) rfl ⟨hx, hb, hml, hown, hts⟩ (c_X0_hemOf l D cs ad x0 x1 x2 s0 _ hk0) (cwV 2 hts gX0_fittingHeights_X0_hemOf rfl rfl rfl (by decide +kernel) ⟨Nat.le_of_ble_eq_true rfl, Nat.le_of_ble_eq_true rfl⟩) hE hP rfl rfl (w_0 hE hk0) h rfl hl.1 rfl (by first | exact lv_room (Nat.le_of_ble_eq_true rfl) | (refine lv_room ?_; simp [re_cat, cat_i, cat_l, cat_r])) dX0_fittingHeights_3 ⟨Nat.le_refl _, Nat.le_refl _⟩) hS (fun r2 s1 H locs h hP hS => ?_)
  refine lv_istore_n (i := 3) (lv' := [(3, .int r2), (0, .ref (ad x0)), (1, .int x1), (2, .int x2)]) hx hb dX0_fittingHeights_6 rfl hl (by decide) (by first | rfl | simp [re_cat, cat_i, cat_l, cat_r]) (fun ls hl => ?_)
  refine lv_iconst (v := 0) hx hb dX0_fittingHeights_7 (by decide) ?_
  refine lv_istore (i := 4) (lv' := [(4, .int 0), (3, .int r2), (0, .ref (ad x0)), (1, .int x1), (2, .int x2)]) hx hb dX0_fittingHeights_8 hl (by decide) (by first | rfl | simp [re_cat, cat_i, cat_l, cat_r]) (fun ls hl => ?_)
  refine lv_iconst (v := 0) hx hb dX0_fittingHeights_10 (by decide) ?_
  refine lv_istore (i := 5) (lv' := [(5, .int 0), (4, .int 0), (3, .int r2), (0, .ref (ad x0)), (1, .int x1), (2, .int x2)]) hx hb dX0_fittingHeights_11 hl (by decide) (by first | rfl | simp [re_cat, cat_i, cat_l, cat_r]) (fun ls hl => ?_)
  obtain ⟨n3, h⟩ := h
  exact hB13 n3 x1 x2 r2 0 0 s1 _ _ ls h hP hS (lv_sub hl [3, 4, 5, 2, 1, 0] rfl)
def p_X0_knownBy_b34 (Q : Int32 → Sg → Prop) (K6 : Nat → Int32 → Int32 → Int32 → Int32 → Sg → Prop) (x0 : Nat) (x1 : Int32) (x2 : Int32) (x3 : Int32) (x4 : Int32) (s : Sg) : Prop := K6 x0 x1 x2 x3 (x4 + 1) s
def p_X0_knownBy_L6 (Q : Int32 → Sg → Prop)  : Nat → Nat → Int32 → Int32 → Int32 → Int32 → Sg → Prop
  | 0, _, _, _, _, _, _ => False
  | n + 1, x0, x1, x2, x3, x4, s => (((gI s x0 0) ≤ x4 → Q x3 s) ∧ (¬ (gI s x0 0) ≤ x4 → p_X5_hasBit x1 x4 s (fun r3 s2 => ((r3 = 0 → p_X0_knownBy_b34 Q (fun y0 y1 y2 y3 y4 u => p_X0_knownBy_L6 Q  n y0 y1 y2 y3 y4 u) x0 x1 x2 x3 x4 s2) ∧ (¬ r3 = 0 → p_X0_fittingHeights x0 x4 x2 s2 (fun r6 s5 => p_X0_knownBy_b34 Q (fun y0 y1 y2 y3 y4 u => p_X0_knownBy_L6 Q  n y0 y1 y2 y3 y4 u) x0 x1 x2 (x3 &&& r6) x4 s5))))))
def p_X0_knownBy (x0 : Nat) (x1 : Int32) (x2 : Int32) (s : Sg) (Q : Int32 → Sg → Prop) : Prop := (∃ n1, p_X0_knownBy_L6 Q  n1 x0 x1 x2 2097151 0 s)
set_option maxHeartbeats 4000000 in
set_option maxRecDepth 100000 in
theorem c_X0_knownBy (l : Launch) (D : va_G) (cs : Cs) (ad : Nat → Nat) (x0 : Nat) (x1 : Int32) (x2 : Int32) (s0 : Sg) (Q : Int32 → Sg → Prop) (hk0 : kX x0 = 0) : Met l yX0_knownBy wsX0_knownBy { frames := 5, cells := 0, slots := 0, locals := 119 } (Pc0 bX D cs ad [.ref (ad x0), .int x1, .int x2] s0 (p_X0_knownBy x0 x1 x2 s0 Q)) (QI bX D cs ad Q) 0 0 (fAd bX ad) := by
  refine Met.ofW (cc := cX0_knownBy) (maxL := 5) (ret := (some .int)) (by decide) rfl ?_
  intro p e s m args below meth c s₁ B0 hml hv
  obtain ⟨ha, hP, hE, h⟩ := hv
  have hx := B0.exec
  have hb := B0.bytes
  have hr := B0.returns
  have hts := atoms_spec (ws := wsX0_knownBy) B0.pre
  have hown : s.vm.findClass RX0 = some m.cls := findClass_of_methodNamed B0.named
  have hlocks := B0.notSynchronized
  have hi_X0 : ∀ w ∈ u_ws RX0 TX0 15, w ∈ wsX0_knownBy := by decide +kernel
  have hS : va_S (fAd bX ad) s.heap s.heap [] := va_S.rf
  have hl := lv_entry ([.ref (ad x0), .int x1, .int x2]) (n := 5) (by first | exact Nat.le_of_ble_eq_true rfl | simp [lg_sl, re_cat, cat_i, cat_l, cat_r])
  rw [show entryFrame m args 5 = entryFrame m ([.ref (ad x0), .int x1, .int x2] : List Value).toArray 5 by rw [ha], lg_entry_eq]
  generalize (lg_sl ([.ref (ad x0), .int x1, .int x2]) ++ List.replicate (5 - (lg_sl ([.ref (ad x0), .int x1, .int x2])).length) Slot.unset).toArray = ls at hl ⊢
  have hl : lv_has ls 5 [(0, .ref (ad x0)), (1, .int x1), (2, .int x2)] := by first | exact hl | simpa [lv_args, re_cat, cat_i, cat_l, cat_r] using hl
  have hB6 : ∀ (n6 : Nat) (x1 : Int32) (x2 : Int32) (x3 : Int32) (x4 : Int32) (σ : Sg) (H : Heap) (locs : List Loc) (ls : Array Slot), p_X0_knownBy_L6 Q  n6 x0 x1 x2 x3 x4 σ → va_P D vwCl (wl bX cs ad σ) H → va_S (fAd bX ad) s.heap H locs → lv_has ls 5 [(0, .ref (ad x0)), (1, .int x1), (2, .int x2), (3, .int x3), (4, .int x4)] → W p l e { frames := 5, cells := 0, slots := 0, locals := 119 } s m args below meth c H locs 0 0 (MQ below (QI bX D cs ad Q) args s 0 0 (fAd bX ad)) (F0 m 6 ls []) := by
    intro n6
    induction n6 with
    | zero =>
      intro x1 x2 x3 x4 σ H locs ls h
      exact h.elim
    | succ n6 ih =>
      have hK6 := ih
      have hB34 : ∀ (x1 : Int32) (x2 : Int32) (x3 : Int32) (x4 : Int32) (σ : Sg) (H : Heap) (locs : List Loc) (ls : Array Slot), p_X0_knownBy_b34 Q (fun y0 y1 y2 y3 y4 u => p_X0_knownBy_L6 Q  n6 y0 y1 y2 y3 y4 u) x0 x1 x2 x3 x4 σ → va_P D vwCl (wl bX cs ad σ) H → va_S (fAd bX ad) s.heap H locs → lv_has ls 5 [(0, .ref (ad x0)), (1, .int x1), (2, .int x2), (3, .int x3), (4, .int x4)] → W p l e { frames := 5, cells := 0, slots := 0, locals := 119 } s m args below meth c H locs 0 0 (MQ below (QI bX D cs ad Q) args s 0 0 (fAd bX ad)) (F0 m 34 ls []) := by
        intro x1 x2 x3 x4 σ H locs ls h hP hS hl
        unfold p_X0_knownBy_b34 at h
        refine lv_iinc (v := x4 + 1) (lv' := [(4, .int (x4 + 1)), (0, .ref (ad x0)), (1, .int x1), (2, .int x2), (3, .int x3)]) hx hb dX0_knownBy_34 hl (k := 4) rfl rfl (by decide) (by first | rfl | simp [re_cat, cat_i, cat_l, cat_r]) (fun ls hl => ?_)
        refine lv_goto (tgt := 6) hx hb dX0_knownBy_37 (by decide) ?_
        exact hK6 x1 x2 x3 (x4 + 1) σ H locs ls h hP hS (lv_sub hl [1, 2, 3, 4, 0] rfl)
      intro x1 x2 x3 x4 σ H locs ls h hP hS hl
      rw [p_X0_knownBy_L6] at h
      refine lv_iload hx hb dX0_knownBy_6 (lv_at hl 4 rfl) ?_
      refine lv_aload_n hx hb dX0_knownBy_8 rfl (lv_at hl 0 rfl) ?_
      refine va_get (ci := 0) (v := .int (gI σ x0 0)) (C := RX0) (T := TX0) (N := 15) hx hb hts hi_X0 hown hE.1 hP x0 (w_0 hE hk0) rfl 0 (by decide) (hts (.fieldLink RX0 45 "HemLine$Delta" "women" "I") (by decide +kernel)) (fun _ h9 => h9) rfl dX0_knownBy_9 ?_
      refine lv_icmp_ge (tgt := 40) hx hb dX0_knownBy_12 (by decide) (fun c1 => ?_) (fun c1 => ?_)
      · replace h := h.1 c1
        refine lv_iload_n hx hb dX0_knownBy_40 rfl (lv_at hl 3 rfl) ?_
        exact W.iret hx hb hr (fun t ht hW => ⟨⟨_, _, rfl, h, pw ht hP⟩, hS.F ht⟩) hS.2.2 dX0_knownBy_41
      · replace h := h.2 c1
        refine lv_iload_n hx hb dX0_knownBy_15 rfl (lv_at hl 1 rfl) ?_
        refine lv_iload hx hb dX0_knownBy_16 (lv_at hl 4 rfl) ?_
        refine f_i (kN (As := [.int x1, .int x4]) (rest := []) ⟨hx, hb, hml, hown, hts⟩ (c_X5_hasBit l D cs ad x1 x4 σ _) ⟨va_cnB 2 hts gX0_knownBy_X5_hasBit_n110 rfl rfl rfl (hE.2.2.2.2 ("HemLine$Delta", 110, ⟨"HemLine", "hasBit", "(II)Z"⟩, "HemLine") (by decide +kernel)) (hts (.initialized RX5) (by decide +kernel)) (by decide +kernel) ⟨Nat.le_of_ble_eq_true rfl, Nat.le_of_ble_eq_true rfl⟩, hts (.static yX5_hasBit) (by decide +kernel), trivial⟩ hE hP h rfl hl.1 rfl (by first | exact lv_room (Nat.le_of_ble_eq_true rfl) | (refine lv_room ?_; simp [re_cat, cat_i, cat_l, cat_r])) dX0_knownBy_18 ⟨Nat.le_refl _, Nat.le_refl _⟩) hS (fun r3 s2 H locs h hP hS => ?_)
        refine lv_if_eq (tgt := 34) hx hb dX0_knownBy_21 (by decide) (fun c4 => ?_) (fun c4 => ?_)
        · replace h := h.1 c4
          exact hB34 x1 x2 x3 x4 s2 H locs ls h hP hS (lv_sub hl [0, 1, 2, 3, 4] rfl)
        · replace h := h.2 c4
          refine lv_iload_n hx hb dX0_knownBy_24 rfl (lv_at hl 3 rfl) ?_
          refine lv_aload_n hx hb dX0_knownBy_25 rfl (lv_at hl 0 rfl) ?_
          refine lv_iload hx hb dX0_knownBy_26 (lv_at hl 4 rfl) ?_
          refine lv_iload_n hx hb dX0_knownBy_28 rfl (lv_at hl 2 rfl) ?_
          refine f_i (kV (As := [.int x4, .int x2]) (rest := [.int x3]) (o := some x0) rfl ⟨hx, hb, hml, hown, hts⟩ (c_X0_fittingHeights l D cs ad x0 x4 x2 s2 _ hk0) (cwV 2 hts gX0_knownBy_X0_fittingHeights rfl rfl rfl (by decide +kernel) ⟨Nat.le_of_ble_eq_true rfl, Nat.le_of_ble_eq_true rfl⟩) hE hP rfl rfl (w_0 hE hk0) h rfl hl.1 rfl (by first | exact lv_room (Nat.le_of_ble_eq_true rfl) | (refine lv_room ?_; simp [re_cat, cat_i, cat_l, cat_r])) dX0_knownBy_29 ⟨Nat.le_refl _, Nat.le_refl _⟩) hS (fun r6 s5 H locs h hP hS => ?_)
          refine lv_iand hx hb dX0_knownBy_32 ?_
          refine lv_istore_n (i := 3) (lv' := [(3, .int (x3 &&& r6)), (0, .ref (ad x0)), (1, .int x1), (2, .int x2), (4, .int x4)]) hx hb dX0_knownBy_33 rfl hl (by decide) (by first | rfl | simp [re_cat, cat_i, cat_l, cat_r]) (fun ls hl => ?_)
          exact hB34 x1 x2 (x3 &&& r6) x4 s5 H locs ls h hP hS (lv_sub hl [1, 2, 3, 0, 4] rfl)
  unfold p_X0_knownBy at h
  refine lv_ldc (v := 2097151) hx hb hown (hts (.constant RX0 109 (2097151)) (by decide +kernel)) dX0_knownBy_0 ?_
  refine lv_istore_n (i := 3) (lv' := [(3, .int 2097151), (0, .ref (ad x0)), (1, .int x1), (2, .int x2)]) hx hb dX0_knownBy_2 rfl hl (by decide) (by first | rfl | simp [re_cat, cat_i, cat_l, cat_r]) (fun ls hl => ?_)
  refine lv_iconst (v := 0) hx hb dX0_knownBy_3 (by decide) ?_
  refine lv_istore (i := 4) (lv' := [(4, .int 0), (3, .int 2097151), (0, .ref (ad x0)), (1, .int x1), (2, .int x2)]) hx hb dX0_knownBy_4 hl (by decide) (by first | rfl | simp [re_cat, cat_i, cat_l, cat_r]) (fun ls hl => ?_)
  obtain ⟨n1, h⟩ := h
  exact hB6 n1 x1 x2 2097151 0 s0 _ _ ls h hP hS (lv_sub hl [2, 3, 4, 1, 0] rfl)
def p_X0_note (x0 : Nat) (x1 : Int32) (x2 : Int32) (x3 : Int32) (s : Sg) (Q : Sg → Prop) : Prop := p_X5_setItem (tX x0 12) (gI s x0 3) x1 s (fun s1 => p_X5_setItem (tX x0 13) (gI s1 x0 3) x2 s1 (fun s2 => p_X5_setItem (tX x0 14) (gI s2 x0 3) x3 s2 (fun s3 => Q (setI s3 x0 3 ((gI s3 x0 3) + 1)))))
set_option maxHeartbeats 4000000 in
set_option maxRecDepth 100000 in
theorem c_X0_note (l : Launch) (D : va_G) (cs : Cs) (ad : Nat → Nat) (x0 : Nat) (x1 : Int32) (x2 : Int32) (x3 : Int32) (s0 : Sg) (Q : Sg → Prop) (hk0 : kX x0 = 0) : Met l yX0_note wsX0_note { frames := 1, cells := 0, slots := 0, locals := 22 } (Pc0 bX D cs ad [.ref (ad x0), .int x1, .int x2, .int x3] s0 (p_X0_note x0 x1 x2 x3 s0 Q)) (QV bX D cs ad Q) 0 0 (fAd bX ad) := by
  refine Met.ofW (cc := cX0_note) (maxL := 4) (ret := none) (by decide) rfl ?_
  intro p e s m args below meth c s₁ B0 hml hv
  obtain ⟨ha, hP, hE, h⟩ := hv
  have hx := B0.exec
  have hb := B0.bytes
  have hr := B0.returns
  have hts := atoms_spec (ws := wsX0_note) B0.pre
  have hown : s.vm.findClass RX0 = some m.cls := findClass_of_methodNamed B0.named
  have hlocks := B0.notSynchronized
  have hi_X0 : ∀ w ∈ u_ws RX0 TX0 15, w ∈ wsX0_note := by decide +kernel
  have hS : va_S (fAd bX ad) s.heap s.heap [] := va_S.rf
  have hl := lv_entry ([.ref (ad x0), .int x1, .int x2, .int x3]) (n := 4) (by first | exact Nat.le_of_ble_eq_true rfl | simp [lg_sl, re_cat, cat_i, cat_l, cat_r])
  rw [show entryFrame m args 4 = entryFrame m ([.ref (ad x0), .int x1, .int x2, .int x3] : List Value).toArray 4 by rw [ha], lg_entry_eq]
  generalize (lg_sl ([.ref (ad x0), .int x1, .int x2, .int x3]) ++ List.replicate (4 - (lg_sl ([.ref (ad x0), .int x1, .int x2, .int x3])).length) Slot.unset).toArray = ls at hl ⊢
  have hl : lv_has ls 4 [(0, .ref (ad x0)), (1, .int x1), (2, .int x2), (3, .int x3)] := by first | exact hl | simpa [lv_args, re_cat, cat_i, cat_l, cat_r] using hl
  unfold p_X0_note at h
  refine lv_aload_n hx hb dX0_note_0 rfl (lv_at hl 0 rfl) ?_
  refine va_get (ci := 0) (v := va_re ad (tX x0 12)) (C := RX0) (T := TX0) (N := 15) hx hb hts hi_X0 hown hE.1 hP x0 (w_0 hE hk0) rfl 12 (by decide) (hts (.fieldLink RX0 36 "HemLine$Delta" "deedDone" "[I") (by decide +kernel)) (fun _ h9 => h9) rfl dX0_note_1 ?_
  refine lv_aload_n hx hb dX0_note_4 rfl (lv_at hl 0 rfl) ?_
  refine va_get (ci := 0) (v := .int (gI s0 x0 3)) (C := RX0) (T := TX0) (N := 15) hx hb hts hi_X0 hown hE.1 hP x0 (w_0 hE hk0) rfl 3 (by decide) (hts (.fieldLink RX0 55 "HemLine$Delta" "deeds" "I") (by decide +kernel)) (fun _ h9 => h9) rfl dX0_note_5 ?_
  refine lv_iload_n hx hb dX0_note_8 rfl (lv_at hl 1 rfl) ?_
  refine f_v (kN (As := [va_re ad (tX x0 12), .int (gI s0 x0 3), .int x1]) (rest := []) ⟨hx, hb, hml, hown, hts⟩ (c_X5_setItem l D cs ad (tX x0 12) (gI s0 x0 3) x1 s0 _) ⟨va_cnB 3 hts gX0_note_X5_setItem_n68 rfl rfl rfl (hE.2.2.2.2 ("HemLine$Delta", 68, ⟨"HemLine", "setItem", "([III)V"⟩, "HemLine") (by decide +kernel)) (hts (.initialized RX5) (by decide +kernel)) (by decide +kernel) ⟨Nat.le_of_ble_eq_true rfl, Nat.le_of_ble_eq_true rfl⟩, hts (.static yX5_setItem) (by decide +kernel), trivial⟩ hE hP h rfl hl.1 rfl (by first | exact lv_room (Nat.le_of_ble_eq_true rfl) | (refine lv_room ?_; simp [re_cat, cat_i, cat_l, cat_r])) dX0_note_9 ⟨Nat.le_refl _, Nat.le_refl _⟩) hS (fun s1 H locs h hP hS => ?_)
  refine lv_aload_n hx hb dX0_note_12 rfl (lv_at hl 0 rfl) ?_
  refine va_get (ci := 0) (v := va_re ad (tX x0 13)) (C := RX0) (T := TX0) (N := 15) hx hb hts hi_X0 hown hE.1 hP x0 (w_0 hE hk0) rfl 13 (by decide) (hts (.fieldLink RX0 39 "HemLine$Delta" "deedTo" "[I") (by decide +kernel)) (fun _ h9 => h9) rfl dX0_note_13 ?_
  refine lv_aload_n hx hb dX0_note_16 rfl (lv_at hl 0 rfl) ?_
  refine va_get (ci := 0) (v := .int (gI s1 x0 3)) (C := RX0) (T := TX0) (N := 15) hx hb hts hi_X0 hown hE.1 hP x0 (w_0 hE hk0) rfl 3 (by decide) (hts (.fieldLink RX0 55 "HemLine$Delta" "deeds" "I") (by decide +kernel)) (fun _ h9 => h9) rfl dX0_note_17 ?_
  refine lv_iload_n hx hb dX0_note_20 rfl (lv_at hl 2 rfl) ?_
  refine f_v (kN (As := [va_re ad (tX x0 13), .int (gI s1 x0 3), .int x2]) (rest := []) ⟨hx, hb, hml, hown, hts⟩ (c_X5_setItem l D cs ad (tX x0 13) (gI s1 x0 3) x2 s1 _) ⟨va_cnB 3 hts gX0_note_X5_setItem_n68 rfl rfl rfl (hE.2.2.2.2 ("HemLine$Delta", 68, ⟨"HemLine", "setItem", "([III)V"⟩, "HemLine") (by decide +kernel)) (hts (.initialized RX5) (by decide +kernel)) (by decide +kernel) ⟨Nat.le_of_ble_eq_true rfl, Nat.le_of_ble_eq_true rfl⟩, hts (.static yX5_setItem) (by decide +kernel), trivial⟩ hE hP h rfl hl.1 rfl (by first | exact lv_room (Nat.le_of_ble_eq_true rfl) | (refine lv_room ?_; simp [re_cat, cat_i, cat_l, cat_r])) dX0_note_21 ⟨Nat.le_refl _, Nat.le_refl _⟩) hS (fun s2 H locs h hP hS => ?_)
  refine lv_aload_n hx hb dX0_note_24 rfl (lv_at hl 0 rfl) ?_
  refine va_get (ci := 0) (v := va_re ad (tX x0 14)) (C := RX0) (T := TX0) (N := 15) hx hb hts hi_X0 hown hE.1 hP x0 (w_0 hE hk0) rfl 14 (by decide) (hts (.fieldLink RX0 42 "HemLine$Delta" "deedWas" "[I") (by decide +kernel)) (fun _ h9 => h9) rfl dX0_note_25 ?_
  refine lv_aload_n hx hb dX0_note_28 rfl (lv_at hl 0 rfl) ?_
  refine va_get (ci := 0) (v := .int (gI s2 x0 3)) (C := RX0) (T := TX0) (N := 15) hx hb hts hi_X0 hown hE.1 hP x0 (w_0 hE hk0) rfl 3 (by decide) (hts (.fieldLink RX0 55 "HemLine$Delta" "deeds" "I") (by decide +kernel)) (fun _ h9 => h9) rfl dX0_note_29 ?_
  refine lv_iload_n hx hb dX0_note_32 rfl (lv_at hl 3 rfl) ?_
  refine f_v (kN (As := [va_re ad (tX x0 14), .int (gI s2 x0 3), .int x3]) (rest := []) ⟨hx, hb, hml, hown, hts⟩ (c_X5_setItem l D cs ad (tX x0 14) (gI s2 x0 3) x3 s2 _) ⟨va_cnB 3 hts gX0_note_X5_setItem_n68 rfl rfl rfl (hE.2.2.2.2 ("HemLine$Delta", 68, ⟨"HemLine", "setItem", "([III)V"⟩, "HemLine") (by decide +kernel)) (hts (.initialized RX5) (by decide +kernel)) (by decide +kernel) ⟨Nat.le_of_ble_eq_true rfl, Nat.le_of_ble_eq_true rfl⟩, hts (.static yX5_setItem) (by decide +kernel), trivial⟩ hE hP h rfl hl.1 rfl (by first | exact lv_room (Nat.le_of_ble_eq_true rfl) | (refine lv_room ?_; simp [re_cat, cat_i, cat_l, cat_r])) dX0_note_33 ⟨Nat.le_refl _, Nat.le_refl _⟩) hS (fun s3 H locs h hP hS => ?_)
  refine lv_aload_n hx hb dX0_note_36 rfl (lv_at hl 0 rfl) ?_
  refine lv_dup hx hb dX0_note_37 (by first | rfl | exact re_cat _ _) ?_
  refine va_get (ci := 0) (v := .int (gI s3 x0 3)) (C := RX0) (T := TX0) (N := 15) hx hb hts hi_X0 hown hE.1 hP x0 (w_0 hE hk0) rfl 3 (by decide) (hts (.fieldLink RX0 55 "HemLine$Delta" "deeds" "I") (by decide +kernel)) (fun _ h9 => h9) rfl dX0_note_38 ?_
  refine lv_iconst (v := 1) hx hb dX0_note_41 (by decide) ?_
  refine lv_iadd hx hb dX0_note_42 ?_
  refine r_put (σ' := (setI s3 x0 3 ((gI s3 x0 3) + 1))) (ci := 0) (v := .int ((gI s3 x0 3) + 1)) (ty := .int) (C := RX0) (T := TX0) (N := 15) hx hb hts hi_X0 tyX0 tyX0_ok nmX0 hown hE hP hS x0 (w_0 hE hk0) rfl 3 (by decide) (hts (.fieldLink RX0 55 "HemLine$Delta" "deeds" "I") (by decide +kernel)) (fun _ h9 => h9) rfl (by decide +kernel) rfl rfl (Nat.le_of_ble_eq_true rfl) dX0_note_43 (st_0_3 hE hk0 _) (fun H locs hP hS => ?_)
  exact W.vret hx hb hr (fun t ht hW => ⟨⟨_, rfl, h, pw ht hP⟩, hS.F ht⟩) hS.2.2 dX0_note_46
def p_X0_doFlood_L21 (Q : Sg → Prop)  : Nat → Nat → Int32 → Sg → Prop
  | 0, _, _, _ => False
  | n + 1, x0, x2, s => (((gI s x0 0) ≤ x2 → Q (setI s x0 2 ((gI s x0 2) + 1))) ∧ (¬ (gI s x0 0) ≤ x2 → p_X0_groundUnder x0 x2 s (fun r3 s2 => p_X5_setItem (tX x0 10) (((gI s x0 2) * 6) + x2) r3 s2 (fun s4 => p_X5_item (tX x0 8) x2 s4 (fun r6 s5 => p_X5_setItem (tX x0 11) (((gI s4 x0 2) * 6) + x2) r6 s5 (fun s7 => p_X0_doFlood_L21 Q  n x0 (x2 + 1) s7))))))
def p_X0_doFlood (x0 : Nat) (x1 : Int32) (s : Sg) (Q : Sg → Prop) : Prop := p_X0_note x0 0 x1 0 s (fun s1 => p_X5_setItem (tX x0 9) (gI s1 x0 2) x1 s1 (fun s2 => (∃ n3, p_X0_doFlood_L21 Q  n3 x0 0 s2)))
set_option maxHeartbeats 4000000 in
set_option maxRecDepth 100000 in
theorem c_X0_doFlood (l : Launch) (D : va_G) (cs : Cs) (ad : Nat → Nat) (x0 : Nat) (x1 : Int32) (s0 : Sg) (Q : Sg → Prop) (hk0 : kX x0 = 0) : Met l yX0_doFlood wsX0_doFlood { frames := 2, cells := 0, slots := 0, locals := 45 } (Pc0 bX D cs ad [.ref (ad x0), .int x1] s0 (p_X0_doFlood x0 x1 s0 Q)) (QV bX D cs ad Q) 0 0 (fAd bX ad) := by
  refine Met.ofW (cc := cX0_doFlood) (maxL := 3) (ret := none) (by decide) rfl ?_
  intro p e s m args below meth c s₁ B0 hml hv
  obtain ⟨ha, hP, hE, h⟩ := hv
  have hx := B0.exec
  have hb := B0.bytes
  have hr := B0.returns
  have hts := atoms_spec (ws := wsX0_doFlood) B0.pre
  have hown : s.vm.findClass RX0 = some m.cls := findClass_of_methodNamed B0.named
  have hlocks := B0.notSynchronized
  have hi_X0 : ∀ w ∈ u_ws RX0 TX0 15, w ∈ wsX0_doFlood := by decide +kernel
  have hS : va_S (fAd bX ad) s.heap s.heap [] := va_S.rf
  have hl := lv_entry ([.ref (ad x0), .int x1]) (n := 3) (by first | exact Nat.le_of_ble_eq_true rfl | simp [lg_sl, re_cat, cat_i, cat_l, cat_r])
  rw [show entryFrame m args 3 = entryFrame m ([.ref (ad x0), .int x1] : List Value).toArray 3 by rw [ha], lg_entry_eq]
  generalize (lg_sl ([.ref (ad x0), .int x1]) ++ List.replicate (3 - (lg_sl ([.ref (ad x0), .int x1])).length) Slot.unset).toArray = ls at hl ⊢
  have hl : lv_has ls 3 [(0, .ref (ad x0)), (1, .int x1)] := by first | exact hl | simpa [lv_args, re_cat, cat_i, cat_l, cat_r] using hl
  have hB21 : ∀ (n21 : Nat) (x2 : Int32) (σ : Sg) (H : Heap) (locs : List Loc) (ls : Array Slot), p_X0_doFlood_L21 Q  n21 x0 x2 σ → va_P D vwCl (wl bX cs ad σ) H → va_S (fAd bX ad) s.heap H locs → lv_has ls 3 [(0, .ref (ad x0)), (2, .int x2)] → W p l e { frames := 2, cells := 0, slots := 0, locals := 45 } s m args below meth c H locs 0 0 (MQ below (QV bX D cs ad Q) args s 0 0 (fAd bX ad)) (F0 m 21 ls []) := by
    intro n21
    induction n21 with
    | zero =>
      intro x2 σ H locs ls h
      exact h.elim
    | succ n21 ih =>
      have hK21 := ih
      intro x2 σ H locs ls h hP hS hl
      rw [p_X0_doFlood_L21] at h
      refine lv_iload_n hx hb dX0_doFlood_21 rfl (lv_at hl 1 rfl) ?_
      refine lv_aload_n hx hb dX0_doFlood_22 rfl (lv_at hl 0 rfl) ?_
      refine va_get (ci := 0) (v := .int (gI σ x0 0)) (C := RX0) (T := TX0) (N := 15) hx hb hts hi_X0 hown hE.1 hP x0 (w_0 hE hk0) rfl 0 (by decide) (hts (.fieldLink RX0 45 "HemLine$Delta" "women" "I") (by decide +kernel)) (fun _ h9 => h9) rfl dX0_doFlood_23 ?_
      refine lv_icmp_ge (tgt := 80) hx hb dX0_doFlood_26 (by decide) (fun c1 => ?_) (fun c1 => ?_)
      · replace h := h.1 c1
        refine lv_aload_n hx hb dX0_doFlood_80 rfl (lv_at hl 0 rfl) ?_
        refine lv_dup hx hb dX0_doFlood_81 (by first | rfl | exact re_cat _ _) ?_
        refine va_get (ci := 0) (v := .int (gI σ x0 2)) (C := RX0) (T := TX0) (N := 15) hx hb hts hi_X0 hown hE.1 hP x0 (w_0 hE hk0) rfl 2 (by decide) (hts (.fieldLink RX0 52 "HemLine$Delta" "years" "I") (by decide +kernel)) (fun _ h9 => h9) rfl dX0_doFlood_82 ?_
        refine lv_iconst (v := 1) hx hb dX0_doFlood_85 (by decide) ?_
        refine lv_iadd hx hb dX0_doFlood_86 ?_
        refine r_put (σ' := (setI σ x0 2 ((gI σ x0 2) + 1))) (ci := 0) (v := .int ((gI σ x0 2) + 1)) (ty := .int) (C := RX0) (T := TX0) (N := 15) hx hb hts hi_X0 tyX0 tyX0_ok nmX0 hown hE hP hS x0 (w_0 hE hk0) rfl 2 (by decide) (hts (.fieldLink RX0 52 "HemLine$Delta" "years" "I") (by decide +kernel)) (fun _ h9 => h9) rfl (by decide +kernel) rfl rfl (Nat.le_of_ble_eq_true rfl) dX0_doFlood_87 (st_0_2 hE hk0 _) (fun H locs hP hS => ?_)
        exact W.vret hx hb hr (fun t ht hW => ⟨⟨_, rfl, h, pw ht hP⟩, hS.F ht⟩) hS.2.2 dX0_doFlood_90
      · replace h := h.2 c1
        refine lv_aload_n hx hb dX0_doFlood_29 rfl (lv_at hl 0 rfl) ?_
        refine va_get (ci := 0) (v := va_re ad (tX x0 10)) (C := RX0) (T := TX0) (N := 15) hx hb hts hi_X0 hown hE.1 hP x0 (w_0 hE hk0) rfl 10 (by decide) (hts (.fieldLink RX0 30 "HemLine$Delta" "groundThen" "[I") (by decide +kernel)) (fun _ h9 => h9) rfl dX0_doFlood_30 ?_
        refine lv_aload_n hx hb dX0_doFlood_33 rfl (lv_at hl 0 rfl) ?_
        refine va_get (ci := 0) (v := .int (gI σ x0 2)) (C := RX0) (T := TX0) (N := 15) hx hb hts hi_X0 hown hE.1 hP x0 (w_0 hE hk0) rfl 2 (by decide) (hts (.fieldLink RX0 52 "HemLine$Delta" "years" "I") (by decide +kernel)) (fun _ h9 => h9) rfl dX0_doFlood_34 ?_
        refine lv_bipush (v := 6) hx hb dX0_doFlood_37 (by decide) ?_
        refine lv_imul hx hb dX0_doFlood_39 ?_
        refine lv_iload_n hx hb dX0_doFlood_40 rfl (lv_at hl 1 rfl) ?_
        refine lv_iadd hx hb dX0_doFlood_41 ?_
        refine lv_aload_n hx hb dX0_doFlood_42 rfl (lv_at hl 0 rfl) ?_
        refine lv_iload_n hx hb dX0_doFlood_43 rfl (lv_at hl 1 rfl) ?_
        refine f_i (kV (As := [.int x2]) (rest := [.int (((gI σ x0 2) * 6) + x2), va_re ad (tX x0 10)]) (o := some x0) rfl ⟨hx, hb, hml, hown, hts⟩ (c_X0_groundUnder l D cs ad x0 x2 σ _ hk0) (cwV 1 hts gX0_doFlood_X0_groundUnder rfl rfl rfl (by decide +kernel) ⟨Nat.le_of_ble_eq_true rfl, Nat.le_of_ble_eq_true rfl⟩) hE hP rfl rfl (w_0 hE hk0) h rfl hl.1 rfl (by first | exact lv_room (Nat.le_of_ble_eq_true rfl) | (refine lv_room ?_; simp [re_cat, cat_i, cat_l, cat_r])) dX0_doFlood_44 ⟨Nat.le_refl _, Nat.le_refl _⟩) hS (fun r3 s2 H locs h hP hS => ?_)
        refine f_v (kN (As := [va_re ad (tX x0 10), .int (((gI σ x0 2) * 6) + x2), .int r3]) (rest := []) ⟨hx, hb, hml, hown, hts⟩ (c_X5_setItem l D cs ad (tX x0 10) (((gI σ x0 2) * 6) + x2) r3 s2 _) ⟨va_cnB 3 hts gX0_doFlood_X5_setItem_n68 rfl rfl rfl (hE.2.2.2.2 ("HemLine$Delta", 68, ⟨"HemLine", "setItem", "([III)V"⟩, "HemLine") (by decide +kernel)) (hts (.initialized RX5) (by decide +kernel)) (by decide +kernel) ⟨Nat.le_of_ble_eq_true rfl, Nat.le_of_ble_eq_true rfl⟩, hts (.static yX5_setItem) (by decide +kernel), trivial⟩ hE hP h rfl hl.1 rfl (by first | exact lv_room (Nat.le_of_ble_eq_true rfl) | (refine lv_room ?_; simp [re_cat, cat_i, cat_l, cat_r])) dX0_doFlood_47 ⟨Nat.le_refl _, Nat.le_refl _⟩) hS (fun s4 H locs h hP hS => ?_)
        refine lv_aload_n hx hb dX0_doFlood_50 rfl (lv_at hl 0 rfl) ?_
        refine va_get (ci := 0) (v := va_re ad (tX x0 11)) (C := RX0) (T := TX0) (N := 15) hx hb hts hi_X0 hown hE.1 hP x0 (w_0 hE hk0) rfl 11 (by decide) (hts (.fieldLink RX0 33 "HemLine$Delta" "tuckThen" "[I") (by decide +kernel)) (fun _ h9 => h9) rfl dX0_doFlood_51 ?_
        refine lv_aload_n hx hb dX0_doFlood_54 rfl (lv_at hl 0 rfl) ?_
        refine va_get (ci := 0) (v := .int (gI s4 x0 2)) (C := RX0) (T := TX0) (N := 15) hx hb hts hi_X0 hown hE.1 hP x0 (w_0 hE hk0) rfl 2 (by decide) (hts (.fieldLink RX0 52 "HemLine$Delta" "years" "I") (by decide +kernel)) (fun _ h9 => h9) rfl dX0_doFlood_55 ?_
        refine lv_bipush (v := 6) hx hb dX0_doFlood_58 (by decide) ?_
        refine lv_imul hx hb dX0_doFlood_60 ?_
        refine lv_iload_n hx hb dX0_doFlood_61 rfl (lv_at hl 1 rfl) ?_
        refine lv_iadd hx hb dX0_doFlood_62 ?_
        refine lv_aload_n hx hb dX0_doFlood_63 rfl (lv_at hl 0 rfl) ?_
        refine va_get (ci := 0) (v := va_re ad (tX x0 8)) (C := RX0) (T := TX0) (N := 15) hx hb hts hi_X0 hown hE.1 hP x0 (w_0 hE hk0) rfl 8 (by decide) (hts (.fieldLink RX0 24 "HemLine$Delta" "tuckOf" "[I") (by decide +kernel)) (fun _ h9 => h9) rfl dX0_doFlood_64 ?_
        refine lv_iload_n hx hb dX0_doFlood_67 rfl (lv_at hl 1 rfl) ?_
        refine f_i (kN (As := [va_re ad (tX x0 8), .int x2]) (rest := [.int (((gI s4 x0 2) * 6) + x2), va_re ad (tX x0 11)]) ⟨hx, hb, hml, hown, hts⟩ (c_X5_item l D cs ad (tX x0 8) x2 s4 _) ⟨va_cnB 2 hts gX0_doFlood_X5_item_n72 rfl rfl rfl (hE.2.2.2.2 ("HemLine$Delta", 72, ⟨"HemLine", "item", "([II)I"⟩, "HemLine") (by decide +kernel)) (hts (.initialized RX5) (by decide +kernel)) (by decide +kernel) ⟨Nat.le_of_ble_eq_true rfl, Nat.le_of_ble_eq_true rfl⟩, hts (.static yX5_item) (by decide +kernel), trivial⟩ hE hP h rfl hl.1 rfl (by first | exact lv_room (Nat.le_of_ble_eq_true rfl) | (refine lv_room ?_; simp [re_cat, cat_i, cat_l, cat_r])) dX0_doFlood_68 ⟨Nat.le_refl _, Nat.le_refl _⟩) hS (fun r6 s5 H locs h hP hS => ?_)
        refine f_v (kN (As := [va_re ad (tX x0 11), .int (((gI s4 x0 2) * 6) + x2), .int r6]) (rest := []) ⟨hx, hb, hml, hown, hts⟩ (c_X5_setItem l D cs ad (tX x0 11) (((gI s4 x0 2) * 6) + x2) r6 s5 _) ⟨va_cnB 3 hts gX0_doFlood_X5_setItem_n68 rfl rfl rfl (hE.2.2.2.2 ("HemLine$Delta", 68, ⟨"HemLine", "setItem", "([III)V"⟩, "HemLine") (by decide +kernel)) (hts (.initialized RX5) (by decide +kernel)) (by decide +kernel) ⟨Nat.le_of_ble_eq_true rfl, Nat.le_of_ble_eq_true rfl⟩, hts (.static yX5_setItem) (by decide +kernel), trivial⟩ hE hP h rfl hl.1 rfl (by first | exact lv_room (Nat.le_of_ble_eq_true rfl) | (refine lv_room ?_; simp [re_cat, cat_i, cat_l, cat_r])) dX0_doFlood_71 ⟨Nat.le_refl _, Nat.le_refl _⟩) hS (fun s7 H locs h hP hS => ?_)
        refine lv_iinc (v := x2 + 1) (lv' := [(2, .int (x2 + 1)), (0, .ref (ad x0))]) hx hb dX0_doFlood_74 hl (k := 1) rfl rfl (by decide) (by first | rfl | simp [re_cat, cat_i, cat_l, cat_r]) (fun ls hl => ?_)
        refine lv_goto (tgt := 21) hx hb dX0_doFlood_77 (by decide) ?_
        exact ih (x2 + 1) s7 H locs ls h hP hS (lv_sub hl [1, 0] rfl)
  unfold p_X0_doFlood at h
  refine lv_aload_n hx hb dX0_doFlood_0 rfl (lv_at hl 0 rfl) ?_
  refine lv_iconst (v := 0) hx hb dX0_doFlood_1 (by decide) ?_
  refine lv_iload_n hx hb dX0_doFlood_2 rfl (lv_at hl 1 rfl) ?_
  refine lv_iconst (v := 0) hx hb dX0_doFlood_3 (by decide) ?_
  refine f_v (kV (As := [.int 0, .int x1, .int 0]) (rest := []) (o := some x0) rfl ⟨hx, hb, hml, hown, hts⟩ (c_X0_note l D cs ad x0 0 x1 0 s0 _ hk0) (cwV 3 hts gX0_doFlood_X0_note rfl rfl rfl (by decide +kernel) ⟨Nat.le_of_ble_eq_true rfl, Nat.le_of_ble_eq_true rfl⟩) hE hP rfl rfl (w_0 hE hk0) h rfl hl.1 rfl (by first | exact lv_room (Nat.le_of_ble_eq_true rfl) | (refine lv_room ?_; simp [re_cat, cat_i, cat_l, cat_r])) dX0_doFlood_4 ⟨Nat.le_refl _, Nat.le_refl _⟩) hS (fun s1 H locs h hP hS => ?_)
  refine lv_aload_n hx hb dX0_doFlood_7 rfl (lv_at hl 0 rfl) ?_
  refine va_get (ci := 0) (v := va_re ad (tX x0 9)) (C := RX0) (T := TX0) (N := 15) hx hb hts hi_X0 hown hE.1 hP x0 (w_0 hE hk0) rfl 9 (by decide) (hts (.fieldLink RX0 27 "HemLine$Delta" "heightOf" "[I") (by decide +kernel)) (fun _ h9 => h9) rfl dX0_doFlood_8 ?_
  refine lv_aload_n hx hb dX0_doFlood_11 rfl (lv_at hl 0 rfl) ?_
  refine va_get (ci := 0) (v := .int (gI s1 x0 2)) (C := RX0) (T := TX0) (N := 15) hx hb hts hi_X0 hown hE.1 hP x0 (w_0 hE hk0) rfl 2 (by decide) (hts (.fieldLink RX0 52 "HemLine$Delta" "years" "I") (by decide +kernel)) (fun _ h9 => h9) rfl dX0_doFlood_12 ?_
  refine lv_iload_n hx hb dX0_doFlood_15 rfl (lv_at hl 1 rfl) ?_
  refine f_v (kN (As := [va_re ad (tX x0 9), .int (gI s1 x0 2), .int x1]) (rest := []) ⟨hx, hb, hml, hown, hts⟩ (c_X5_setItem l D cs ad (tX x0 9) (gI s1 x0 2) x1 s1 _) ⟨va_cnB 3 hts gX0_doFlood_X5_setItem_n68 rfl rfl rfl (hE.2.2.2.2 ("HemLine$Delta", 68, ⟨"HemLine", "setItem", "([III)V"⟩, "HemLine") (by decide +kernel)) (hts (.initialized RX5) (by decide +kernel)) (by decide +kernel) ⟨Nat.le_of_ble_eq_true rfl, Nat.le_of_ble_eq_true rfl⟩, hts (.static yX5_setItem) (by decide +kernel), trivial⟩ hE hP h rfl hl.1 rfl (by first | exact lv_room (Nat.le_of_ble_eq_true rfl) | (refine lv_room ?_; simp [re_cat, cat_i, cat_l, cat_r])) dX0_doFlood_16 ⟨Nat.le_refl _, Nat.le_refl _⟩) hS (fun s2 H locs h hP hS => ?_)
  refine lv_iconst (v := 0) hx hb dX0_doFlood_19 (by decide) ?_
  refine lv_istore_n (i := 2) (lv' := [(2, .int 0), (0, .ref (ad x0)), (1, .int x1)]) hx hb dX0_doFlood_20 rfl hl (by decide) (by first | rfl | simp [re_cat, cat_i, cat_l, cat_r]) (fun ls hl => ?_)
  obtain ⟨n3, h⟩ := h
  exact hB21 n3 0 s2 _ _ ls h hP hS (lv_sub hl [1, 0] rfl)
def p_X0_doMove (x0 : Nat) (x1 : Int32) (x2 : Int32) (s : Sg) (Q : Sg → Prop) : Prop := p_X5_item (tX x0 6) x1 s (fun r2 s1 => p_X0_note x0 1 x1 r2 s1 (fun s3 => p_X5_setItem (tX x0 6) x1 x2 s3 (fun s4 => Q s4)))
set_option maxHeartbeats 4000000 in
set_option maxRecDepth 100000 in
theorem c_X0_doMove (l : Launch) (D : va_G) (cs : Cs) (ad : Nat → Nat) (x0 : Nat) (x1 : Int32) (x2 : Int32) (s0 : Sg) (Q : Sg → Prop) (hk0 : kX x0 = 0) : Met l yX0_doMove wsX0_doMove { frames := 2, cells := 0, slots := 0, locals := 45 } (Pc0 bX D cs ad [.ref (ad x0), .int x1, .int x2] s0 (p_X0_doMove x0 x1 x2 s0 Q)) (QV bX D cs ad Q) 0 0 (fAd bX ad) := by
  refine Met.ofW (cc := cX0_doMove) (maxL := 3) (ret := none) (by decide) rfl ?_
  intro p e s m args below meth c s₁ B0 hml hv
  obtain ⟨ha, hP, hE, h⟩ := hv
  have hx := B0.exec
  have hb := B0.bytes
  have hr := B0.returns
  have hts := atoms_spec (ws := wsX0_doMove) B0.pre
  have hown : s.vm.findClass RX0 = some m.cls := findClass_of_methodNamed B0.named
  have hlocks := B0.notSynchronized
  have hi_X0 : ∀ w ∈ u_ws RX0 TX0 15, w ∈ wsX0_doMove := by decide +kernel
  have hS : va_S (fAd bX ad) s.heap s.heap [] := va_S.rf
  have hl := lv_entry ([.ref (ad x0), .int x1, .int x2]) (n := 3) (by first | exact Nat.le_of_ble_eq_true rfl | simp [lg_sl, re_cat, cat_i, cat_l, cat_r])
  rw [show entryFrame m args 3 = entryFrame m ([.ref (ad x0), .int x1, .int x2] : List Value).toArray 3 by rw [ha], lg_entry_eq]
  generalize (lg_sl ([.ref (ad x0), .int x1, .int x2]) ++ List.replicate (3 - (lg_sl ([.ref (ad x0), .int x1, .int x2])).length) Slot.unset).toArray = ls at hl ⊢
  have hl : lv_has ls 3 [(0, .ref (ad x0)), (1, .int x1), (2, .int x2)] := by first | exact hl | simpa [lv_args, re_cat, cat_i, cat_l, cat_r] using hl
  unfold p_X0_doMove at h
  refine lv_aload_n hx hb dX0_doMove_0 rfl (lv_at hl 0 rfl) ?_
  refine lv_iconst (v := 1) hx hb dX0_doMove_1 (by decide) ?_
  refine lv_iload_n hx hb dX0_doMove_2 rfl (lv_at hl 1 rfl) ?_
  refine lv_aload_n hx hb dX0_doMove_3 rfl (lv_at hl 0 rfl) ?_
  refine va_get (ci := 0) (v := va_re ad (tX x0 6)) (C := RX0) (T := TX0) (N := 15) hx hb hts hi_X0 hown hE.1 hP x0 (w_0 hE hk0) rfl 6 (by decide) (hts (.fieldLink RX0 18 "HemLine$Delta" "placeOf" "[I") (by decide +kernel)) (fun _ h9 => h9) rfl dX0_doMove_4 ?_
  refine lv_iload_n hx hb dX0_doMove_7 rfl (lv_at hl 1 rfl) ?_
  refine f_i (kN (As := [va_re ad (tX x0 6), .int x1]) (rest := [.int x1, .int 1, .ref (ad x0)]) ⟨hx, hb, hml, hown, hts⟩ (c_X5_item l D cs ad (tX x0 6) x1 s0 _) ⟨va_cnB 2 hts gX0_doMove_X5_item_n72 rfl rfl rfl (hE.2.2.2.2 ("HemLine$Delta", 72, ⟨"HemLine", "item", "([II)I"⟩, "HemLine") (by decide +kernel)) (hts (.initialized RX5) (by decide +kernel)) (by decide +kernel) ⟨Nat.le_of_ble_eq_true rfl, Nat.le_of_ble_eq_true rfl⟩, hts (.static yX5_item) (by decide +kernel), trivial⟩ hE hP h rfl hl.1 rfl (by first | exact lv_room (Nat.le_of_ble_eq_true rfl) | (refine lv_room ?_; simp [re_cat, cat_i, cat_l, cat_r])) dX0_doMove_8 ⟨Nat.le_refl _, Nat.le_refl _⟩) hS (fun r2 s1 H locs h hP hS => ?_)
  refine f_v (kV (As := [.int 1, .int x1, .int r2]) (rest := []) (o := some x0) rfl ⟨hx, hb, hml, hown, hts⟩ (c_X0_note l D cs ad x0 1 x1 r2 s1 _ hk0) (cwV 3 hts gX0_doMove_X0_note rfl rfl rfl (by decide +kernel) ⟨Nat.le_of_ble_eq_true rfl, Nat.le_of_ble_eq_true rfl⟩) hE hP rfl rfl (w_0 hE hk0) h rfl hl.1 rfl (by first | exact lv_room (Nat.le_of_ble_eq_true rfl) | (refine lv_room ?_; simp [re_cat, cat_i, cat_l, cat_r])) dX0_doMove_11 ⟨Nat.le_refl _, Nat.le_refl _⟩) hS (fun s3 H locs h hP hS => ?_)
  refine lv_aload_n hx hb dX0_doMove_14 rfl (lv_at hl 0 rfl) ?_
  refine va_get (ci := 0) (v := va_re ad (tX x0 6)) (C := RX0) (T := TX0) (N := 15) hx hb hts hi_X0 hown hE.1 hP x0 (w_0 hE hk0) rfl 6 (by decide) (hts (.fieldLink RX0 18 "HemLine$Delta" "placeOf" "[I") (by decide +kernel)) (fun _ h9 => h9) rfl dX0_doMove_15 ?_
  refine lv_iload_n hx hb dX0_doMove_18 rfl (lv_at hl 1 rfl) ?_
  refine lv_iload_n hx hb dX0_doMove_19 rfl (lv_at hl 2 rfl) ?_
  refine f_v (kN (As := [va_re ad (tX x0 6), .int x1, .int x2]) (rest := []) ⟨hx, hb, hml, hown, hts⟩ (c_X5_setItem l D cs ad (tX x0 6) x1 x2 s3 _) ⟨va_cnB 3 hts gX0_doMove_X5_setItem_n68 rfl rfl rfl (hE.2.2.2.2 ("HemLine$Delta", 68, ⟨"HemLine", "setItem", "([III)V"⟩, "HemLine") (by decide +kernel)) (hts (.initialized RX5) (by decide +kernel)) (by decide +kernel) ⟨Nat.le_of_ble_eq_true rfl, Nat.le_of_ble_eq_true rfl⟩, hts (.static yX5_setItem) (by decide +kernel), trivial⟩ hE hP h rfl hl.1 rfl (by first | exact lv_room (Nat.le_of_ble_eq_true rfl) | (refine lv_room ?_; simp [re_cat, cat_i, cat_l, cat_r])) dX0_doMove_20 ⟨Nat.le_refl _, Nat.le_refl _⟩) hS (fun s4 H locs h hP hS => ?_)
  exact W.vret hx hb hr (fun t ht hW => ⟨⟨_, rfl, h, pw ht hP⟩, hS.F ht⟩) hS.2.2 dX0_doMove_23
def p_X0_doDyke (x0 : Nat) (x1 : Int32) (s : Sg) (Q : Sg → Prop) : Prop := p_X5_item (tX x0 4) x1 s (fun r2 s1 => p_X0_note x0 2 x1 r2 s1 (fun s3 => p_X5_item (tX x0 4) x1 s3 (fun r5 s4 => p_X5_setItem (tX x0 4) x1 (r5 + 1) s4 (fun s6 => Q (setI s6 x0 1 ((gI s6 x0 1) - 1))))))
set_option maxHeartbeats 4000000 in
set_option maxRecDepth 100000 in
theorem c_X0_doDyke (l : Launch) (D : va_G) (cs : Cs) (ad : Nat → Nat) (x0 : Nat) (x1 : Int32) (s0 : Sg) (Q : Sg → Prop) (hk0 : kX x0 = 0) : Met l yX0_doDyke wsX0_doDyke { frames := 2, cells := 0, slots := 0, locals := 45 } (Pc0 bX D cs ad [.ref (ad x0), .int x1] s0 (p_X0_doDyke x0 x1 s0 Q)) (QV bX D cs ad Q) 0 0 (fAd bX ad) := by
  refine Met.ofW (cc := cX0_doDyke) (maxL := 2) (ret := none) (by decide) rfl ?_
  intro p e s m args below meth c s₁ B0 hml hv
  obtain ⟨ha, hP, hE, h⟩ := hv
  have hx := B0.exec
  have hb := B0.bytes
  have hr := B0.returns
  have hts := atoms_spec (ws := wsX0_doDyke) B0.pre
  have hown : s.vm.findClass RX0 = some m.cls := findClass_of_methodNamed B0.named
  have hlocks := B0.notSynchronized
  have hi_X0 : ∀ w ∈ u_ws RX0 TX0 15, w ∈ wsX0_doDyke := by decide +kernel
  have hS : va_S (fAd bX ad) s.heap s.heap [] := va_S.rf
  have hl := lv_entry ([.ref (ad x0), .int x1]) (n := 2) (by first | exact Nat.le_of_ble_eq_true rfl | simp [lg_sl, re_cat, cat_i, cat_l, cat_r])
  rw [show entryFrame m args 2 = entryFrame m ([.ref (ad x0), .int x1] : List Value).toArray 2 by rw [ha], lg_entry_eq]
  generalize (lg_sl ([.ref (ad x0), .int x1]) ++ List.replicate (2 - (lg_sl ([.ref (ad x0), .int x1])).length) Slot.unset).toArray = ls at hl ⊢
  have hl : lv_has ls 2 [(0, .ref (ad x0)), (1, .int x1)] := by first | exact hl | simpa [lv_args, re_cat, cat_i, cat_l, cat_r] using hl
  unfold p_X0_doDyke at h
  refine lv_aload_n hx hb dX0_doDyke_0 rfl (lv_at hl 0 rfl) ?_
  refine lv_iconst (v := 2) hx hb dX0_doDyke_1 (by decide) ?_
  refine lv_iload_n hx hb dX0_doDyke_2 rfl (lv_at hl 1 rfl) ?_
  refine lv_aload_n hx hb dX0_doDyke_3 rfl (lv_at hl 0 rfl) ?_
  refine va_get (ci := 0) (v := va_re ad (tX x0 4)) (C := RX0) (T := TX0) (N := 15) hx hb hts hi_X0 hown hE.1 hP x0 (w_0 hE hk0) rfl 4 (by decide) (hts (.fieldLink RX0 9 "HemLine$Delta" "ground" "[I") (by decide +kernel)) (fun _ h9 => h9) rfl dX0_doDyke_4 ?_
  refine lv_iload_n hx hb dX0_doDyke_7 rfl (lv_at hl 1 rfl) ?_
  refine f_i (kN (As := [va_re ad (tX x0 4), .int x1]) (rest := [.int x1, .int 2, .ref (ad x0)]) ⟨hx, hb, hml, hown, hts⟩ (c_X5_item l D cs ad (tX x0 4) x1 s0 _) ⟨va_cnB 2 hts gX0_doDyke_X5_item_n72 rfl rfl rfl (hE.2.2.2.2 ("HemLine$Delta", 72, ⟨"HemLine", "item", "([II)I"⟩, "HemLine") (by decide +kernel)) (hts (.initialized RX5) (by decide +kernel)) (by decide +kernel) ⟨Nat.le_of_ble_eq_true rfl, Nat.le_of_ble_eq_true rfl⟩, hts (.static yX5_item) (by decide +kernel), trivial⟩ hE hP h rfl hl.1 rfl (by first | exact lv_room (Nat.le_of_ble_eq_true rfl) | (refine lv_room ?_; simp [re_cat, cat_i, cat_l, cat_r])) dX0_doDyke_8 ⟨Nat.le_refl _, Nat.le_refl _⟩) hS (fun r2 s1 H locs h hP hS => ?_)
  refine f_v (kV (As := [.int 2, .int x1, .int r2]) (rest := []) (o := some x0) rfl ⟨hx, hb, hml, hown, hts⟩ (c_X0_note l D cs ad x0 2 x1 r2 s1 _ hk0) (cwV 3 hts gX0_doDyke_X0_note rfl rfl rfl (by decide +kernel) ⟨Nat.le_of_ble_eq_true rfl, Nat.le_of_ble_eq_true rfl⟩) hE hP rfl rfl (w_0 hE hk0) h rfl hl.1 rfl (by first | exact lv_room (Nat.le_of_ble_eq_true rfl) | (refine lv_room ?_; simp [re_cat, cat_i, cat_l, cat_r])) dX0_doDyke_11 ⟨Nat.le_refl _, Nat.le_refl _⟩) hS (fun s3 H locs h hP hS => ?_)
  refine lv_aload_n hx hb dX0_doDyke_14 rfl (lv_at hl 0 rfl) ?_
  refine va_get (ci := 0) (v := va_re ad (tX x0 4)) (C := RX0) (T := TX0) (N := 15) hx hb hts hi_X0 hown hE.1 hP x0 (w_0 hE hk0) rfl 4 (by decide) (hts (.fieldLink RX0 9 "HemLine$Delta" "ground" "[I") (by decide +kernel)) (fun _ h9 => h9) rfl dX0_doDyke_15 ?_
  refine lv_iload_n hx hb dX0_doDyke_18 rfl (lv_at hl 1 rfl) ?_
  refine lv_aload_n hx hb dX0_doDyke_19 rfl (lv_at hl 0 rfl) ?_
  refine va_get (ci := 0) (v := va_re ad (tX x0 4)) (C := RX0) (T := TX0) (N := 15) hx hb hts hi_X0 hown hE.1 hP x0 (w_0 hE hk0) rfl 4 (by decide) (hts (.fieldLink RX0 9 "HemLine$Delta" "ground" "[I") (by decide +kernel)) (fun _ h9 => h9) rfl dX0_doDyke_20 ?_
  refine lv_iload_n hx hb dX0_doDyke_23 rfl (lv_at hl 1 rfl) ?_
  refine f_i (kN (As := [va_re ad (tX x0 4), .int x1]) (rest := [.int x1, va_re ad (tX x0 4)]) ⟨hx, hb, hml, hown, hts⟩ (c_X5_item l D cs ad (tX x0 4) x1 s3 _) ⟨va_cnB 2 hts gX0_doDyke_X5_item_n72 rfl rfl rfl (hE.2.2.2.2 ("HemLine$Delta", 72, ⟨"HemLine", "item", "([II)I"⟩, "HemLine") (by decide +kernel)) (hts (.initialized RX5) (by decide +kernel)) (by decide +kernel) ⟨Nat.le_of_ble_eq_true rfl, Nat.le_of_ble_eq_true rfl⟩, hts (.static yX5_item) (by decide +kernel), trivial⟩ hE hP h rfl hl.1 rfl (by first | exact lv_room (Nat.le_of_ble_eq_true rfl) | (refine lv_room ?_; simp [re_cat, cat_i, cat_l, cat_r])) dX0_doDyke_24 ⟨Nat.le_refl _, Nat.le_refl _⟩) hS (fun r5 s4 H locs h hP hS => ?_)
  refine lv_iconst (v := 1) hx hb dX0_doDyke_27 (by decide) ?_
  refine lv_iadd hx hb dX0_doDyke_28 ?_
  refine f_v (kN (As := [va_re ad (tX x0 4), .int x1, .int (r5 + 1)]) (rest := []) ⟨hx, hb, hml, hown, hts⟩ (c_X5_setItem l D cs ad (tX x0 4) x1 (r5 + 1) s4 _) ⟨va_cnB 3 hts gX0_doDyke_X5_setItem_n68 rfl rfl rfl (hE.2.2.2.2 ("HemLine$Delta", 68, ⟨"HemLine", "setItem", "([III)V"⟩, "HemLine") (by decide +kernel)) (hts (.initialized RX5) (by decide +kernel)) (by decide +kernel) ⟨Nat.le_of_ble_eq_true rfl, Nat.le_of_ble_eq_true rfl⟩, hts (.static yX5_setItem) (by decide +kernel), trivial⟩ hE hP h rfl hl.1 rfl (by first | exact lv_room (Nat.le_of_ble_eq_true rfl) | (refine lv_room ?_; simp [re_cat, cat_i, cat_l, cat_r])) dX0_doDyke_29 ⟨Nat.le_refl _, Nat.le_refl _⟩) hS (fun s6 H locs h hP hS => ?_)
  refine lv_aload_n hx hb dX0_doDyke_32 rfl (lv_at hl 0 rfl) ?_
  refine lv_dup hx hb dX0_doDyke_33 (by first | rfl | exact re_cat _ _) ?_
  refine va_get (ci := 0) (v := .int (gI s6 x0 1)) (C := RX0) (T := TX0) (N := 15) hx hb hts hi_X0 hown hE.1 hP x0 (w_0 hE hk0) rfl 1 (by decide) (hts (.fieldLink RX0 49 "HemLine$Delta" "earth" "I") (by decide +kernel)) (fun _ h9 => h9) rfl dX0_doDyke_34 ?_
  refine lv_iconst (v := 1) hx hb dX0_doDyke_37 (by decide) ?_
  refine lv_isub hx hb dX0_doDyke_38 ?_
  refine r_put (σ' := (setI s6 x0 1 ((gI s6 x0 1) - 1))) (ci := 0) (v := .int ((gI s6 x0 1) - 1)) (ty := .int) (C := RX0) (T := TX0) (N := 15) hx hb hts hi_X0 tyX0 tyX0_ok nmX0 hown hE hP hS x0 (w_0 hE hk0) rfl 1 (by decide) (hts (.fieldLink RX0 49 "HemLine$Delta" "earth" "I") (by decide +kernel)) (fun _ h9 => h9) rfl (by decide +kernel) rfl rfl (Nat.le_of_ble_eq_true rfl) dX0_doDyke_39 (st_0_1 hE hk0 _) (fun H locs hP hS => ?_)
  exact W.vret hx hb hr (fun t ht hW => ⟨⟨_, rfl, h, pw ht hP⟩, hS.F ht⟩) hS.2.2 dX0_doDyke_42
def p_X0_doTuck (x0 : Nat) (x1 : Int32) (s : Sg) (Q : Sg → Prop) : Prop := p_X5_item (tX x0 8) x1 s (fun r2 s1 => p_X0_note x0 3 x1 r2 s1 (fun s3 => p_X5_item (tX x0 8) x1 s3 (fun r5 s4 => p_X5_setItem (tX x0 8) x1 (r5 + 1) s4 (fun s6 => Q s6))))
set_option maxHeartbeats 4000000 in
set_option maxRecDepth 100000 in
theorem c_X0_doTuck (l : Launch) (D : va_G) (cs : Cs) (ad : Nat → Nat) (x0 : Nat) (x1 : Int32) (s0 : Sg) (Q : Sg → Prop) (hk0 : kX x0 = 0) : Met l yX0_doTuck wsX0_doTuck { frames := 2, cells := 0, slots := 0, locals := 45 } (Pc0 bX D cs ad [.ref (ad x0), .int x1] s0 (p_X0_doTuck x0 x1 s0 Q)) (QV bX D cs ad Q) 0 0 (fAd bX ad) := by
  refine Met.ofW (cc := cX0_doTuck) (maxL := 2) (ret := none) (by decide) rfl ?_
  intro p e s m args below meth c s₁ B0 hml hv
  obtain ⟨ha, hP, hE, h⟩ := hv
  have hx := B0.exec
  have hb := B0.bytes
  have hr := B0.returns
  have hts := atoms_spec (ws := wsX0_doTuck) B0.pre
  have hown : s.vm.findClass RX0 = some m.cls := findClass_of_methodNamed B0.named
  have hlocks := B0.notSynchronized
  have hi_X0 : ∀ w ∈ u_ws RX0 TX0 15, w ∈ wsX0_doTuck := by decide +kernel
  have hS : va_S (fAd bX ad) s.heap s.heap [] := va_S.rf
  have hl := lv_entry ([.ref (ad x0), .int x1]) (n := 2) (by first | exact Nat.le_of_ble_eq_true rfl | simp [lg_sl, re_cat, cat_i, cat_l, cat_r])
  rw [show entryFrame m args 2 = entryFrame m ([.ref (ad x0), .int x1] : List Value).toArray 2 by rw [ha], lg_entry_eq]
  generalize (lg_sl ([.ref (ad x0), .int x1]) ++ List.replicate (2 - (lg_sl ([.ref (ad x0), .int x1])).length) Slot.unset).toArray = ls at hl ⊢
  have hl : lv_has ls 2 [(0, .ref (ad x0)), (1, .int x1)] := by first | exact hl | simpa [lv_args, re_cat, cat_i, cat_l, cat_r] using hl
  unfold p_X0_doTuck at h
  refine lv_aload_n hx hb dX0_doTuck_0 rfl (lv_at hl 0 rfl) ?_
  refine lv_iconst (v := 3) hx hb dX0_doTuck_1 (by decide) ?_
  refine lv_iload_n hx hb dX0_doTuck_2 rfl (lv_at hl 1 rfl) ?_
  refine lv_aload_n hx hb dX0_doTuck_3 rfl (lv_at hl 0 rfl) ?_
  refine va_get (ci := 0) (v := va_re ad (tX x0 8)) (C := RX0) (T := TX0) (N := 15) hx hb hts hi_X0 hown hE.1 hP x0 (w_0 hE hk0) rfl 8 (by decide) (hts (.fieldLink RX0 24 "HemLine$Delta" "tuckOf" "[I") (by decide +kernel)) (fun _ h9 => h9) rfl dX0_doTuck_4 ?_
  refine lv_iload_n hx hb dX0_doTuck_7 rfl (lv_at hl 1 rfl) ?_
  refine f_i (kN (As := [va_re ad (tX x0 8), .int x1]) (rest := [.int x1, .int 3, .ref (ad x0)]) ⟨hx, hb, hml, hown, hts⟩ (c_X5_item l D cs ad (tX x0 8) x1 s0 _) ⟨va_cnB 2 hts gX0_doTuck_X5_item_n72 rfl rfl rfl (hE.2.2.2.2 ("HemLine$Delta", 72, ⟨"HemLine", "item", "([II)I"⟩, "HemLine") (by decide +kernel)) (hts (.initialized RX5) (by decide +kernel)) (by decide +kernel) ⟨Nat.le_of_ble_eq_true rfl, Nat.le_of_ble_eq_true rfl⟩, hts (.static yX5_item) (by decide +kernel), trivial⟩ hE hP h rfl hl.1 rfl (by first | exact lv_room (Nat.le_of_ble_eq_true rfl) | (refine lv_room ?_; simp [re_cat, cat_i, cat_l, cat_r])) dX0_doTuck_8 ⟨Nat.le_refl _, Nat.le_refl _⟩) hS (fun r2 s1 H locs h hP hS => ?_)
  refine f_v (kV (As := [.int 3, .int x1, .int r2]) (rest := []) (o := some x0) rfl ⟨hx, hb, hml, hown, hts⟩ (c_X0_note l D cs ad x0 3 x1 r2 s1 _ hk0) (cwV 3 hts gX0_doTuck_X0_note rfl rfl rfl (by decide +kernel) ⟨Nat.le_of_ble_eq_true rfl, Nat.le_of_ble_eq_true rfl⟩) hE hP rfl rfl (w_0 hE hk0) h rfl hl.1 rfl (by first | exact lv_room (Nat.le_of_ble_eq_true rfl) | (refine lv_room ?_; simp [re_cat, cat_i, cat_l, cat_r])) dX0_doTuck_11 ⟨Nat.le_refl _, Nat.le_refl _⟩) hS (fun s3 H locs h hP hS => ?_)
  refine lv_aload_n hx hb dX0_doTuck_14 rfl (lv_at hl 0 rfl) ?_
  refine va_get (ci := 0) (v := va_re ad (tX x0 8)) (C := RX0) (T := TX0) (N := 15) hx hb hts hi_X0 hown hE.1 hP x0 (w_0 hE hk0) rfl 8 (by decide) (hts (.fieldLink RX0 24 "HemLine$Delta" "tuckOf" "[I") (by decide +kernel)) (fun _ h9 => h9) rfl dX0_doTuck_15 ?_
  refine lv_iload_n hx hb dX0_doTuck_18 rfl (lv_at hl 1 rfl) ?_
  refine lv_aload_n hx hb dX0_doTuck_19 rfl (lv_at hl 0 rfl) ?_
  refine va_get (ci := 0) (v := va_re ad (tX x0 8)) (C := RX0) (T := TX0) (N := 15) hx hb hts hi_X0 hown hE.1 hP x0 (w_0 hE hk0) rfl 8 (by decide) (hts (.fieldLink RX0 24 "HemLine$Delta" "tuckOf" "[I") (by decide +kernel)) (fun _ h9 => h9) rfl dX0_doTuck_20 ?_
  refine lv_iload_n hx hb dX0_doTuck_23 rfl (lv_at hl 1 rfl) ?_
  refine f_i (kN (As := [va_re ad (tX x0 8), .int x1]) (rest := [.int x1, va_re ad (tX x0 8)]) ⟨hx, hb, hml, hown, hts⟩ (c_X5_item l D cs ad (tX x0 8) x1 s3 _) ⟨va_cnB 2 hts gX0_doTuck_X5_item_n72 rfl rfl rfl (hE.2.2.2.2 ("HemLine$Delta", 72, ⟨"HemLine", "item", "([II)I"⟩, "HemLine") (by decide +kernel)) (hts (.initialized RX5) (by decide +kernel)) (by decide +kernel) ⟨Nat.le_of_ble_eq_true rfl, Nat.le_of_ble_eq_true rfl⟩, hts (.static yX5_item) (by decide +kernel), trivial⟩ hE hP h rfl hl.1 rfl (by first | exact lv_room (Nat.le_of_ble_eq_true rfl) | (refine lv_room ?_; simp [re_cat, cat_i, cat_l, cat_r])) dX0_doTuck_24 ⟨Nat.le_refl _, Nat.le_refl _⟩) hS (fun r5 s4 H locs h hP hS => ?_)
  refine lv_iconst (v := 1) hx hb dX0_doTuck_27 (by decide) ?_
  refine lv_iadd hx hb dX0_doTuck_28 ?_
  refine f_v (kN (As := [va_re ad (tX x0 8), .int x1, .int (r5 + 1)]) (rest := []) ⟨hx, hb, hml, hown, hts⟩ (c_X5_setItem l D cs ad (tX x0 8) x1 (r5 + 1) s4 _) ⟨va_cnB 3 hts gX0_doTuck_X5_setItem_n68 rfl rfl rfl (hE.2.2.2.2 ("HemLine$Delta", 68, ⟨"HemLine", "setItem", "([III)V"⟩, "HemLine") (by decide +kernel)) (hts (.initialized RX5) (by decide +kernel)) (by decide +kernel) ⟨Nat.le_of_ble_eq_true rfl, Nat.le_of_ble_eq_true rfl⟩, hts (.static yX5_setItem) (by decide +kernel), trivial⟩ hE hP h rfl hl.1 rfl (by first | exact lv_room (Nat.le_of_ble_eq_true rfl) | (refine lv_room ?_; simp [re_cat, cat_i, cat_l, cat_r])) dX0_doTuck_29 ⟨Nat.le_refl _, Nat.le_refl _⟩) hS (fun s6 H locs h hP hS => ?_)
  exact W.vret hx hb hr (fun t ht hW => ⟨⟨_, rfl, h, pw ht hP⟩, hS.F ht⟩) hS.2.2 dX0_doTuck_32
def p_X0_undoLast (x0 : Nat) (s : Sg) (Q : Sg → Prop) : Prop := ((0 < (gI s x0 3) → p_X5_item (tX x0 13) (gI (setI s x0 3 ((gI s x0 3) - 1)) x0 3) (setI s x0 3 ((gI s x0 3) - 1)) (fun r3 s2 => p_X5_item (tX x0 14) (gI s2 x0 3) s2 (fun r5 s4 => p_X5_item (tX x0 12) (gI s4 x0 3) s4 (fun r7 s6 => ((r7 = 0 → Q (setI s6 x0 2 ((gI s6 x0 2) - 1))) ∧ (¬ r7 = 0 → ((r7 = 1 → p_X5_setItem (tX x0 6) r3 r5 s6 (fun s11 => Q s11)) ∧ (¬ r7 = 1 → ((r7 = 2 → p_X5_setItem (tX x0 4) r3 r5 s6 (fun s13 => Q (setI s13 x0 1 ((gI s13 x0 1) + 1)))) ∧ (¬ r7 = 2 → p_X5_setItem (tX x0 8) r3 r5 s6 (fun s14 => Q s14))))))))))) ∧ (¬ 0 < (gI s x0 3) → Q s))
set_option maxHeartbeats 4000000 in
set_option maxRecDepth 100000 in
theorem c_X0_undoLast (l : Launch) (D : va_G) (cs : Cs) (ad : Nat → Nat) (x0 : Nat) (s0 : Sg) (Q : Sg → Prop) (hk0 : kX x0 = 0) : Met l yX0_undoLast wsX0_undoLast { frames := 1, cells := 0, slots := 0, locals := 22 } (Pc0 bX D cs ad [.ref (ad x0)] s0 (p_X0_undoLast x0 s0 Q)) (QV bX D cs ad Q) 0 0 (fAd bX ad) := by
  refine Met.ofW (cc := cX0_undoLast) (maxL := 3) (ret := none) (by decide) rfl ?_
  intro p e s m args below meth c s₁ B0 hml hv
  obtain ⟨ha, hP, hE, h⟩ := hv
  have hx := B0.exec
  have hb := B0.bytes
  have hr := B0.returns
  have hts := atoms_spec (ws := wsX0_undoLast) B0.pre
  have hown : s.vm.findClass RX0 = some m.cls := findClass_of_methodNamed B0.named
  have hlocks := B0.notSynchronized
  have hi_X0 : ∀ w ∈ u_ws RX0 TX0 15, w ∈ wsX0_undoLast := by decide +kernel
  have hS : va_S (fAd bX ad) s.heap s.heap [] := va_S.rf
  have hl := lv_entry ([.ref (ad x0)]) (n := 3) (by first | exact Nat.le_of_ble_eq_true rfl | simp [lg_sl, re_cat, cat_i, cat_l, cat_r])
  rw [show entryFrame m args 3 = entryFrame m ([.ref (ad x0)] : List Value).toArray 3 by rw [ha], lg_entry_eq]
  generalize (lg_sl ([.ref (ad x0)]) ++ List.replicate (3 - (lg_sl ([.ref (ad x0)])).length) Slot.unset).toArray = ls at hl ⊢
  have hl : lv_has ls 3 [(0, .ref (ad x0))] := by first | exact hl | simpa [lv_args, re_cat, cat_i, cat_l, cat_r] using hl
  unfold p_X0_undoLast at h
  refine lv_aload_n hx hb dX0_undoLast_0 rfl (lv_at hl 0 rfl) ?_
  refine va_get (ci := 0) (v := .int (gI s0 x0 3)) (C := RX0) (T := TX0) (N := 15) hx hb hts hi_X0 hown hE.1 hP x0 (w_0 hE hk0) rfl 3 (by decide) (hts (.fieldLink RX0 55 "HemLine$Delta" "deeds" "I") (by decide +kernel)) (fun _ h9 => h9) rfl dX0_undoLast_1 ?_
  refine lv_if_gt (tgt := 8) hx hb dX0_undoLast_4 (by decide) (fun c1 => ?_) (fun c1 => ?_)
  · replace h := h.1 c1
    refine lv_aload_n hx hb dX0_undoLast_8 rfl (lv_at hl 0 rfl) ?_
    refine lv_dup hx hb dX0_undoLast_9 (by first | rfl | exact re_cat _ _) ?_
    refine va_get (ci := 0) (v := .int (gI s0 x0 3)) (C := RX0) (T := TX0) (N := 15) hx hb hts hi_X0 hown hE.1 hP x0 (w_0 hE hk0) rfl 3 (by decide) (hts (.fieldLink RX0 55 "HemLine$Delta" "deeds" "I") (by decide +kernel)) (fun _ h9 => h9) rfl dX0_undoLast_10 ?_
    refine lv_iconst (v := 1) hx hb dX0_undoLast_13 (by decide) ?_
    refine lv_isub hx hb dX0_undoLast_14 ?_
    refine r_put (σ' := (setI s0 x0 3 ((gI s0 x0 3) - 1))) (ci := 0) (v := .int ((gI s0 x0 3) - 1)) (ty := .int) (C := RX0) (T := TX0) (N := 15) hx hb hts hi_X0 tyX0 tyX0_ok nmX0 hown hE hP hS x0 (w_0 hE hk0) rfl 3 (by decide) (hts (.fieldLink RX0 55 "HemLine$Delta" "deeds" "I") (by decide +kernel)) (fun _ h9 => h9) rfl (by decide +kernel) rfl rfl (Nat.le_of_ble_eq_true rfl) dX0_undoLast_15 (st_0_3 hE hk0 _) (fun H locs hP hS => ?_)
    refine lv_aload_n hx hb dX0_undoLast_18 rfl (lv_at hl 0 rfl) ?_
    refine va_get (ci := 0) (v := va_re ad (tX x0 13)) (C := RX0) (T := TX0) (N := 15) hx hb hts hi_X0 hown hE.1 hP x0 (w_0 hE hk0) rfl 13 (by decide) (hts (.fieldLink RX0 39 "HemLine$Delta" "deedTo" "[I") (by decide +kernel)) (fun _ h9 => h9) rfl dX0_undoLast_19 ?_
    refine lv_aload_n hx hb dX0_undoLast_22 rfl (lv_at hl 0 rfl) ?_
    refine va_get (ci := 0) (v := .int (gI (setI s0 x0 3 ((gI s0 x0 3) - 1)) x0 3)) (C := RX0) (T := TX0) (N := 15) hx hb hts hi_X0 hown hE.1 hP x0 (w_0 hE hk0) rfl 3 (by decide) (hts (.fieldLink RX0 55 "HemLine$Delta" "deeds" "I") (by decide +kernel)) (fun _ h9 => h9) rfl dX0_undoLast_23 ?_
    refine f_i (kN (As := [va_re ad (tX x0 13), .int (gI (setI s0 x0 3 ((gI s0 x0 3) - 1)) x0 3)]) (rest := []) ⟨hx, hb, hml, hown, hts⟩ (c_X5_item l D cs ad (tX x0 13) (gI (setI s0 x0 3 ((gI s0 x0 3) - 1)) x0 3) (setI s0 x0 3 ((gI s0 x0 3) - 1)) _) ⟨va_cnB 2 hts gX0_undoLast_X5_item_n72 rfl rfl rfl (hE.2.2.2.2 ("HemLine$Delta", 72, ⟨"HemLine", "item", "([II)I"⟩, "HemLine") (by decide +kernel)) (hts (.initialized RX5) (by decide +kernel)) (by decide +kernel) ⟨Nat.le_of_ble_eq_true rfl, Nat.le_of_ble_eq_true rfl⟩, hts (.static yX5_item) (by decide +kernel), trivial⟩ hE hP h rfl hl.1 rfl (by first | exact lv_room (Nat.le_of_ble_eq_true rfl) | (refine lv_room ?_; simp [re_cat, cat_i, cat_l, cat_r])) dX0_undoLast_26 ⟨Nat.le_refl _, Nat.le_refl _⟩) hS (fun r3 s2 H locs h hP hS => ?_)
    refine lv_istore_n (i := 1) (lv' := [(1, .int r3), (0, .ref (ad x0))]) hx hb dX0_undoLast_29 rfl hl (by decide) (by first | rfl | simp [re_cat, cat_i, cat_l, cat_r]) (fun ls hl => ?_)
    refine lv_aload_n hx hb dX0_undoLast_30 rfl (lv_at hl 1 rfl) ?_
    refine va_get (ci := 0) (v := va_re ad (tX x0 14)) (C := RX0) (T := TX0) (N := 15) hx hb hts hi_X0 hown hE.1 hP x0 (w_0 hE hk0) rfl 14 (by decide) (hts (.fieldLink RX0 42 "HemLine$Delta" "deedWas" "[I") (by decide +kernel)) (fun _ h9 => h9) rfl dX0_undoLast_31 ?_
    refine lv_aload_n hx hb dX0_undoLast_34 rfl (lv_at hl 1 rfl) ?_
    refine va_get (ci := 0) (v := .int (gI s2 x0 3)) (C := RX0) (T := TX0) (N := 15) hx hb hts hi_X0 hown hE.1 hP x0 (w_0 hE hk0) rfl 3 (by decide) (hts (.fieldLink RX0 55 "HemLine$Delta" "deeds" "I") (by decide +kernel)) (fun _ h9 => h9) rfl dX0_undoLast_35 ?_
    refine f_i (kN (As := [va_re ad (tX x0 14), .int (gI s2 x0 3)]) (rest := []) ⟨hx, hb, hml, hown, hts⟩ (c_X5_item l D cs ad (tX x0 14) (gI s2 x0 3) s2 _) ⟨va_cnB 2 hts gX0_undoLast_X5_item_n72 rfl rfl rfl (hE.2.2.2.2 ("HemLine$Delta", 72, ⟨"HemLine", "item", "([II)I"⟩, "HemLine") (by decide +kernel)) (hts (.initialized RX5) (by decide +kernel)) (by decide +kernel) ⟨Nat.le_of_ble_eq_true rfl, Nat.le_of_ble_eq_true rfl⟩, hts (.static yX5_item) (by decide +kernel), trivial⟩ hE hP h rfl hl.1 rfl (by first | exact lv_room (Nat.le_of_ble_eq_true rfl) | (refine lv_room ?_; simp [re_cat, cat_i, cat_l, cat_r])) dX0_undoLast_38 ⟨Nat.le_refl _, Nat.le_refl _⟩) hS (fun r5 s4 H locs h hP hS => ?_)
    refine lv_istore_n (i := 2) (lv' := [(2, .int r5), (1, .int r3), (0, .ref (ad x0))]) hx hb dX0_undoLast_41 rfl hl (by decide) (by first | rfl | simp [re_cat, cat_i, cat_l, cat_r]) (fun ls hl => ?_)
    refine lv_aload_n hx hb dX0_undoLast_42 rfl (lv_at hl 2 rfl) ?_
    refine va_get (ci := 0) (v := va_re ad (tX x0 12)) (C := RX0) (T := TX0) (N := 15) hx hb hts hi_X0 hown hE.1 hP x0 (w_0 hE hk0) rfl 12 (by decide) (hts (.fieldLink RX0 36 "HemLine$Delta" "deedDone" "[I") (by decide +kernel)) (fun _ h9 => h9) rfl dX0_undoLast_43 ?_
    refine lv_aload_n hx hb dX0_undoLast_46 rfl (lv_at hl 2 rfl) ?_
    refine va_get (ci := 0) (v := .int (gI s4 x0 3)) (C := RX0) (T := TX0) (N := 15) hx hb hts hi_X0 hown hE.1 hP x0 (w_0 hE hk0) rfl 3 (by decide) (hts (.fieldLink RX0 55 "HemLine$Delta" "deeds" "I") (by decide +kernel)) (fun _ h9 => h9) rfl dX0_undoLast_47 ?_
    refine f_i (kN (As := [va_re ad (tX x0 12), .int (gI s4 x0 3)]) (rest := []) ⟨hx, hb, hml, hown, hts⟩ (c_X5_item l D cs ad (tX x0 12) (gI s4 x0 3) s4 _) ⟨va_cnB 2 hts gX0_undoLast_X5_item_n72 rfl rfl rfl (hE.2.2.2.2 ("HemLine$Delta", 72, ⟨"HemLine", "item", "([II)I"⟩, "HemLine") (by decide +kernel)) (hts (.initialized RX5) (by decide +kernel)) (by decide +kernel) ⟨Nat.le_of_ble_eq_true rfl, Nat.le_of_ble_eq_true rfl⟩, hts (.static yX5_item) (by decide +kernel), trivial⟩ hE hP h rfl hl.1 rfl (by first | exact lv_room (Nat.le_of_ble_eq_true rfl) | (refine lv_room ?_; simp [re_cat, cat_i, cat_l, cat_r])) dX0_undoLast_50 ⟨Nat.le_refl _, Nat.le_refl _⟩) hS (fun r7 s6 H locs h hP hS => ?_)
    generalize hvv8 : r7 = v8 at h ⊢
    by_cases c9 : v8 = 0
    · replace h := h.1 c9
      refine lv_tableIn (off := 27) (tgt := 80) hx hb dX0_undoLast_53 (by rw [c9]; decide) (by rw [c9]; decide) (by rw [c9]; decide) (by decide) ?_
      refine lv_aload_n hx hb dX0_undoLast_80 rfl (lv_at hl 2 rfl) ?_
      refine lv_dup hx hb dX0_undoLast_81 (by first | rfl | exact re_cat _ _) ?_
      refine va_get (ci := 0) (v := .int (gI s6 x0 2)) (C := RX0) (T := TX0) (N := 15) hx hb hts hi_X0 hown hE.1 hP x0 (w_0 hE hk0) rfl 2 (by decide) (hts (.fieldLink RX0 52 "HemLine$Delta" "years" "I") (by decide +kernel)) (fun _ h9 => h9) rfl dX0_undoLast_82 ?_
      refine lv_iconst (v := 1) hx hb dX0_undoLast_85 (by decide) ?_
      refine lv_isub hx hb dX0_undoLast_86 ?_
      refine r_put (σ' := (setI s6 x0 2 ((gI s6 x0 2) - 1))) (ci := 0) (v := .int ((gI s6 x0 2) - 1)) (ty := .int) (C := RX0) (T := TX0) (N := 15) hx hb hts hi_X0 tyX0 tyX0_ok nmX0 hown hE hP hS x0 (w_0 hE hk0) rfl 2 (by decide) (hts (.fieldLink RX0 52 "HemLine$Delta" "years" "I") (by decide +kernel)) (fun _ h9 => h9) rfl (by decide +kernel) rfl rfl (Nat.le_of_ble_eq_true rfl) dX0_undoLast_87 (st_0_2 hE hk0 _) (fun H locs hP hS => ?_)
      refine lv_goto (tgt := 136) hx hb dX0_undoLast_90 (by decide) ?_
      exact W.vret hx hb hr (fun t ht hW => ⟨⟨_, rfl, h, pw ht hP⟩, hS.F ht⟩) hS.2.2 dX0_undoLast_136
    replace h := h.2 c9
    by_cases c10 : v8 = 1
    · replace h := h.1 c10
      refine lv_tableIn (off := 40) (tgt := 93) hx hb dX0_undoLast_53 (by rw [c10]; decide) (by rw [c10]; decide) (by rw [c10]; decide) (by decide) ?_
      refine lv_aload_n hx hb dX0_undoLast_93 rfl (lv_at hl 2 rfl) ?_
      refine va_get (ci := 0) (v := va_re ad (tX x0 6)) (C := RX0) (T := TX0) (N := 15) hx hb hts hi_X0 hown hE.1 hP x0 (w_0 hE hk0) rfl 6 (by decide) (hts (.fieldLink RX0 18 "HemLine$Delta" "placeOf" "[I") (by decide +kernel)) (fun _ h9 => h9) rfl dX0_undoLast_94 ?_
      refine lv_iload_n hx hb dX0_undoLast_97 rfl (lv_at hl 1 rfl) ?_
      refine lv_iload_n hx hb dX0_undoLast_98 rfl (lv_at hl 0 rfl) ?_
      refine f_v (kN (As := [va_re ad (tX x0 6), .int r3, .int r5]) (rest := []) ⟨hx, hb, hml, hown, hts⟩ (c_X5_setItem l D cs ad (tX x0 6) r3 r5 s6 _) ⟨va_cnB 3 hts gX0_undoLast_X5_setItem_n68 rfl rfl rfl (hE.2.2.2.2 ("HemLine$Delta", 68, ⟨"HemLine", "setItem", "([III)V"⟩, "HemLine") (by decide +kernel)) (hts (.initialized RX5) (by decide +kernel)) (by decide +kernel) ⟨Nat.le_of_ble_eq_true rfl, Nat.le_of_ble_eq_true rfl⟩, hts (.static yX5_setItem) (by decide +kernel), trivial⟩ hE hP h rfl hl.1 rfl (by first | exact lv_room (Nat.le_of_ble_eq_true rfl) | (refine lv_room ?_; simp [re_cat, cat_i, cat_l, cat_r])) dX0_undoLast_99 ⟨Nat.le_refl _, Nat.le_refl _⟩) hS (fun s11 H locs h hP hS => ?_)
      refine lv_goto (tgt := 136) hx hb dX0_undoLast_102 (by decide) ?_
      exact W.vret hx hb hr (fun t ht hW => ⟨⟨_, rfl, h, pw ht hP⟩, hS.F ht⟩) hS.2.2 dX0_undoLast_136
    replace h := h.2 c10
    by_cases c12 : v8 = 2
    · replace h := h.1 c12
      refine lv_tableIn (off := 52) (tgt := 105) hx hb dX0_undoLast_53 (by rw [c12]; decide) (by rw [c12]; decide) (by rw [c12]; decide) (by decide) ?_
      refine lv_aload_n hx hb dX0_undoLast_105 rfl (lv_at hl 2 rfl) ?_
      refine va_get (ci := 0) (v := va_re ad (tX x0 4)) (C := RX0) (T := TX0) (N := 15) hx hb hts hi_X0 hown hE.1 hP x0 (w_0 hE hk0) rfl 4 (by decide) (hts (.fieldLink RX0 9 "HemLine$Delta" "ground" "[I") (by decide +kernel)) (fun _ h9 => h9) rfl dX0_undoLast_106 ?_
      refine lv_iload_n hx hb dX0_undoLast_109 rfl (lv_at hl 1 rfl) ?_
      refine lv_iload_n hx hb dX0_undoLast_110 rfl (lv_at hl 0 rfl) ?_
      refine f_v (kN (As := [va_re ad (tX x0 4), .int r3, .int r5]) (rest := []) ⟨hx, hb, hml, hown, hts⟩ (c_X5_setItem l D cs ad (tX x0 4) r3 r5 s6 _) ⟨va_cnB 3 hts gX0_undoLast_X5_setItem_n68 rfl rfl rfl (hE.2.2.2.2 ("HemLine$Delta", 68, ⟨"HemLine", "setItem", "([III)V"⟩, "HemLine") (by decide +kernel)) (hts (.initialized RX5) (by decide +kernel)) (by decide +kernel) ⟨Nat.le_of_ble_eq_true rfl, Nat.le_of_ble_eq_true rfl⟩, hts (.static yX5_setItem) (by decide +kernel), trivial⟩ hE hP h rfl hl.1 rfl (by first | exact lv_room (Nat.le_of_ble_eq_true rfl) | (refine lv_room ?_; simp [re_cat, cat_i, cat_l, cat_r])) dX0_undoLast_111 ⟨Nat.le_refl _, Nat.le_refl _⟩) hS (fun s13 H locs h hP hS => ?_)
      refine lv_aload_n hx hb dX0_undoLast_114 rfl (lv_at hl 2 rfl) ?_
      refine lv_dup hx hb dX0_undoLast_115 (by first | rfl | exact re_cat _ _) ?_
      refine va_get (ci := 0) (v := .int (gI s13 x0 1)) (C := RX0) (T := TX0) (N := 15) hx hb hts hi_X0 hown hE.1 hP x0 (w_0 hE hk0) rfl 1 (by decide) (hts (.fieldLink RX0 49 "HemLine$Delta" "earth" "I") (by decide +kernel)) (fun _ h9 => h9) rfl dX0_undoLast_116 ?_
      refine lv_iconst (v := 1) hx hb dX0_undoLast_119 (by decide) ?_
      refine lv_iadd hx hb dX0_undoLast_120 ?_
      refine r_put (σ' := (setI s13 x0 1 ((gI s13 x0 1) + 1))) (ci := 0) (v := .int ((gI s13 x0 1) + 1)) (ty := .int) (C := RX0) (T := TX0) (N := 15) hx hb hts hi_X0 tyX0 tyX0_ok nmX0 hown hE hP hS x0 (w_0 hE hk0) rfl 1 (by decide) (hts (.fieldLink RX0 49 "HemLine$Delta" "earth" "I") (by decide +kernel)) (fun _ h9 => h9) rfl (by decide +kernel) rfl rfl (Nat.le_of_ble_eq_true rfl) dX0_undoLast_121 (st_0_1 hE hk0 _) (fun H locs hP hS => ?_)
      refine lv_goto (tgt := 136) hx hb dX0_undoLast_124 (by decide) ?_
      exact W.vret hx hb hr (fun t ht hW => ⟨⟨_, rfl, h, pw ht hP⟩, hS.F ht⟩) hS.2.2 dX0_undoLast_136
    replace h := h.2 c12
    refine lv_tableOut (tgt := 127) hx hb dX0_undoLast_53 (by have := ne_toInt (n := 0) c9 (by decide); have := ne_toInt (n := 1) c10 (by decide); have := ne_toInt (n := 2) c12 (by decide); omega) (by decide) ?_
    refine lv_aload_n hx hb dX0_undoLast_127 rfl (lv_at hl 2 rfl) ?_
    refine va_get (ci := 0) (v := va_re ad (tX x0 8)) (C := RX0) (T := TX0) (N := 15) hx hb hts hi_X0 hown hE.1 hP x0 (w_0 hE hk0) rfl 8 (by decide) (hts (.fieldLink RX0 24 "HemLine$Delta" "tuckOf" "[I") (by decide +kernel)) (fun _ h9 => h9) rfl dX0_undoLast_128 ?_
    refine lv_iload_n hx hb dX0_undoLast_131 rfl (lv_at hl 1 rfl) ?_
    refine lv_iload_n hx hb dX0_undoLast_132 rfl (lv_at hl 0 rfl) ?_
    refine f_v (kN (As := [va_re ad (tX x0 8), .int r3, .int r5]) (rest := []) ⟨hx, hb, hml, hown, hts⟩ (c_X5_setItem l D cs ad (tX x0 8) r3 r5 s6 _) ⟨va_cnB 3 hts gX0_undoLast_X5_setItem_n68 rfl rfl rfl (hE.2.2.2.2 ("HemLine$Delta", 68, ⟨"HemLine", "setItem", "([III)V"⟩, "HemLine") (by decide +kernel)) (hts (.initialized RX5) (by decide +kernel)) (by decide +kernel) ⟨Nat.le_of_ble_eq_true rfl, Nat.le_of_ble_eq_true rfl⟩, hts (.static yX5_setItem) (by decide +kernel), trivial⟩ hE hP h rfl hl.1 rfl (by first | exact lv_room (Nat.le_of_ble_eq_true rfl) | (refine lv_room ?_; simp [re_cat, cat_i, cat_l, cat_r])) dX0_undoLast_133 ⟨Nat.le_refl _, Nat.le_refl _⟩) hS (fun s14 H locs h hP hS => ?_)
    exact W.vret hx hb hr (fun t ht hW => ⟨⟨_, rfl, h, pw ht hP⟩, hS.F ht⟩) hS.2.2 dX0_undoLast_136
  · replace h := h.2 c1
    exact W.vret hx hb hr (fun t ht hW => ⟨⟨_, rfl, h, pw ht hP⟩, hS.F ht⟩) hS.2.2 dX0_undoLast_7
