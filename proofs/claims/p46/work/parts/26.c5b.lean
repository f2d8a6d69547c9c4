def p_X5_womanFact (x0 : Nat) (x1 : Int32) (x2 : Int32) (s : Sg) (Q : Int32 → Sg → Prop) : Prop := ((x2 = 0 → ∃ k3, tX x0 3 = some k3 ∧ kX k3 = 0 ∧ p_X5_item (tX k3 5) x1 s (fun r7 s6 => Q r7 s6)) ∧ (¬ x2 = 0 → ((x2 = 1 → ∃ k9, tX x0 3 = some k9 ∧ kX k9 = 0 ∧ p_X5_item (tX k9 6) x1 s (fun r13 s12 => Q r13 s12)) ∧ (¬ x2 = 1 → ((x2 = 2 → ∃ k15, tX x0 3 = some k15 ∧ kX k15 = 0 ∧ p_X5_item (tX k15 7) x1 s (fun r19 s18 => Q r19 s18)) ∧ (¬ x2 = 2 → ((x2 = 3 → ∃ k21, tX x0 3 = some k21 ∧ kX k21 = 0 ∧ p_X5_item (tX k21 8) x1 s (fun r25 s24 => Q r25 s24)) ∧ (¬ x2 = 3 → ((x2 = 4 → ∃ k27, tX x0 3 = some k27 ∧ kX k27 = 0 ∧ Q (gI s k27 2) s) ∧ (¬ x2 = 4 → ∃ k30, tX x0 3 = some k30 ∧ kX k30 = 0 ∧ p_X0_greatestHemOf k30 x1 s (fun r34 s33 => Q r34 s33)))))))))))
set_option maxHeartbeats 4000000 in
set_option maxRecDepth 100000 in
theorem c_X5_womanFact (l : Launch) (D : va_G) (cs : Cs) (ad : Nat → Nat) (x0 : Nat) (x1 : Int32) (x2 : Int32) (s0 : Sg) (Q : Int32 → Sg → Prop) (hk0 : kX x0 = 4) : Met l yX5_womanFact wsX5_womanFact { frames := 5, cells := 0, slots := 0, locals := 117 } (Pc0 bX D cs ad [.ref (ad x0), .int x1, .int x2] s0 (p_X5_womanFact x0 x1 x2 s0 Q)) (QI bX D cs ad Q) 0 0 (fAd bX ad) := by
  refine Met.ofW (cc := cX5_womanFact) (maxL := 3) (ret := (some .int)) (by decide) rfl ?_
  intro p e s m args below meth c s₁ B0 hml hv
  obtain ⟨ha, hP, hE, h⟩ := hv
  have hx := B0.exec
  have hb := B0.bytes
  have hr := B0.returns
  have hts := atoms_spec (ws := wsX5_womanFact) B0.pre
  have hown : s.vm.findClass RX5 = some m.cls := findClass_of_methodNamed B0.named
  have hlocks := B0.notSynchronized
  have hi_X0 : ∀ w ∈ u_ws RX0 TX0 15, w ∈ wsX5_womanFact := by decide +kernel
  have hi_X5 : ∀ w ∈ u_ws RX5 TX5 12, w ∈ wsX5_womanFact := by decide +kernel
  have hS : va_S (fAd bX ad) s.heap s.heap [] := va_S.rf
  have hl := lv_entry ([.ref (ad x0), .int x1, .int x2]) (n := 3) (by first | exact Nat.le_of_ble_eq_true rfl | simp [lg_sl, re_cat, cat_i, cat_l, cat_r])
  rw [show entryFrame m args 3 = entryFrame m ([.ref (ad x0), .int x1, .int x2] : List Value).toArray 3 by rw [ha], lg_entry_eq]
  generalize (lg_sl ([.ref (ad x0), .int x1, .int x2]) ++ List.replicate (3 - (lg_sl ([.ref (ad x0), .int x1, .int x2])).length) Slot.unset).toArray = ls at hl ⊢
  have hl : lv_has ls 3 [(0, .ref (ad x0)), (1, .int x1), (2, .int x2)] := by first | exact hl | simpa [lv_args, re_cat, cat_i, cat_l, cat_r] using hl
  unfold p_X5_womanFact at h
  refine lv_iload_n hx hb dX5_womanFact_0 rfl (lv_at hl 2 rfl) ?_
  by_cases c2 : x2 = 0
  · replace h := h.1 c2
    refine lv_tableIn (off := 35) (tgt := 36) hx hb dX5_womanFact_1 (by rw [c2]; decide) (by rw [c2]; decide) (by rw [c2]; decide) (by decide) ?_
    refine lv_aload_n hx hb dX5_womanFact_36 rfl (lv_at hl 0 rfl) ?_
    refine va_get (ci := 4) (v := va_re ad (tX x0 3)) (C := RX5) (T := TX5) (N := 12) hx hb hts hi_X5 hown hE.1 hP x0 (w_4 hE hk0) rfl 3 (by decide) (hts (.fieldLink RX5 33 "HemLine" "now" "LHemLine$Delta;") (by decide +kernel)) (fun _ h9 => h9) rfl dX5_womanFact_37 ?_
    obtain ⟨k3, e4, q5, h⟩ := h
    refine r_known (ad := ad) e4 ?_
    refine va_getN (ci := 0) (v := va_re ad (tX k3 5)) (C := RX0) (T := TX0) (N := 15) hx hb hts hi_X0 hown hE.1 hP k3 (w_0 hE q5) rfl 5 (by decide) ((hE.2.2.2.1 ("HemLine", 135, "HemLine$Delta", "kindOf", "[I", "HemLine") (by decide +kernel)).use rfl) (fun _ h9 => h9) rfl dX5_womanFact_40 ?_
    refine lv_iload_n hx hb dX5_womanFact_43 rfl (lv_at hl 1 rfl) ?_
    refine f_i (kS (As := [va_re ad (tX k3 5), .int x1]) (rest := []) ⟨hx, hb, hml, hown, hts⟩ (c_X5_item l D cs ad (tX k3 5) x1 s0 _) (va_cwS 2 hts gX5_womanFact_X5_item rfl rfl rfl (by decide +kernel) ⟨Nat.le_of_ble_eq_true rfl, Nat.le_of_ble_eq_true rfl⟩) hE hP h rfl hl.1 rfl (by first | exact lv_room (Nat.le_of_ble_eq_true rfl) | (refine lv_room ?_; simp [re_cat, cat_i, cat_l, cat_r])) dX5_womanFact_44 ⟨Nat.le_refl _, Nat.le_refl _⟩) hS (fun r7 s6 H locs h hP hS => ?_)
    exact W.iret hx hb hr (fun t ht hW => ⟨⟨_, _, rfl, h, pw ht hP⟩, hS.F ht⟩) hS.2.2 dX5_womanFact_47
  replace h := h.2 c2
  by_cases c8 : x2 = 1
  · replace h := h.1 c8
    refine lv_tableIn (off := 47) (tgt := 48) hx hb dX5_womanFact_1 (by rw [c8]; decide) (by rw [c8]; decide) (by rw [c8]; decide) (by decide) ?_
    refine lv_aload_n hx hb dX5_womanFact_48 rfl (lv_at hl 0 rfl) ?_
    refine va_get (ci := 4) (v := va_re ad (tX x0 3)) (C := RX5) (T := TX5) (N := 12) hx hb hts hi_X5 hown hE.1 hP x0 (w_4 hE hk0) rfl 3 (by decide) (hts (.fieldLink RX5 33 "HemLine" "now" "LHemLine$Delta;") (by decide +kernel)) (fun _ h9 => h9) rfl dX5_womanFact_49 ?_
    obtain ⟨k9, e10, q11, h⟩ := h
    refine r_known (ad := ad) e10 ?_
    refine va_getN (ci := 0) (v := va_re ad (tX k9 6)) (C := RX0) (T := TX0) (N := 15) hx hb hts hi_X0 hown hE.1 hP k9 (w_0 hE q11) rfl 6 (by decide) ((hE.2.2.2.1 ("HemLine", 182, "HemLine$Delta", "placeOf", "[I", "HemLine") (by decide +kernel)).use rfl) (fun _ h9 => h9) rfl dX5_womanFact_52 ?_
    refine lv_iload_n hx hb dX5_womanFact_55 rfl (lv_at hl 1 rfl) ?_
    refine f_i (kS (As := [va_re ad (tX k9 6), .int x1]) (rest := []) ⟨hx, hb, hml, hown, hts⟩ (c_X5_item l D cs ad (tX k9 6) x1 s0 _) (va_cwS 2 hts gX5_womanFact_X5_item rfl rfl rfl (by decide +kernel) ⟨Nat.le_of_ble_eq_true rfl, Nat.le_of_ble_eq_true rfl⟩) hE hP h rfl hl.1 rfl (by first | exact lv_room (Nat.le_of_ble_eq_true rfl) | (refine lv_room ?_; simp [re_cat, cat_i, cat_l, cat_r])) dX5_womanFact_56 ⟨Nat.le_refl _, Nat.le_refl _⟩) hS (fun r13 s12 H locs h hP hS => ?_)
    exact W.iret hx hb hr (fun t ht hW => ⟨⟨_, _, rfl, h, pw ht hP⟩, hS.F ht⟩) hS.2.2 dX5_womanFact_59
  replace h := h.2 c8
  by_cases c14 : x2 = 2
  · replace h := h.1 c14
    refine lv_tableIn (off := 59) (tgt := 60) hx hb dX5_womanFact_1 (by rw [c14]; decide) (by rw [c14]; decide) (by rw [c14]; decide) (by decide) ?_
    refine lv_aload_n hx hb dX5_womanFact_60 rfl (lv_at hl 0 rfl) ?_
    refine va_get (ci := 4) (v := va_re ad (tX x0 3)) (C := RX5) (T := TX5) (N := 12) hx hb hts hi_X5 hown hE.1 hP x0 (w_4 hE hk0) rfl 3 (by decide) (hts (.fieldLink RX5 33 "HemLine" "now" "LHemLine$Delta;") (by decide +kernel)) (fun _ h9 => h9) rfl dX5_womanFact_61 ?_
    obtain ⟨k15, e16, q17, h⟩ := h
    refine r_known (ad := ad) e16 ?_
    refine va_getN (ci := 0) (v := va_re ad (tX k15 7)) (C := RX0) (T := TX0) (N := 15) hx hb hts hi_X0 hown hE.1 hP k15 (w_0 hE q17) rfl 7 (by decide) ((hE.2.2.2.1 ("HemLine", 359, "HemLine$Delta", "tallOf", "[I", "HemLine") (by decide +kernel)).use rfl) (fun _ h9 => h9) rfl dX5_womanFact_64 ?_
    refine lv_iload_n hx hb dX5_womanFact_67 rfl (lv_at hl 1 rfl) ?_
    refine f_i (kS (As := [va_re ad (tX k15 7), .int x1]) (rest := []) ⟨hx, hb, hml, hown, hts⟩ (c_X5_item l D cs ad (tX k15 7) x1 s0 _) (va_cwS 2 hts gX5_womanFact_X5_item rfl rfl rfl (by decide +kernel) ⟨Nat.le_of_ble_eq_true rfl, Nat.le_of_ble_eq_true rfl⟩) hE hP h rfl hl.1 rfl (by first | exact lv_room (Nat.le_of_ble_eq_true rfl) | (refine lv_room ?_; simp [re_cat, cat_i, cat_l, cat_r])) dX5_womanFact_68 ⟨Nat.le_refl _, Nat.le_refl _⟩) hS (fun r19 s18 H locs h hP hS => ?_)
    exact W.iret hx hb hr (fun t ht hW => ⟨⟨_, _, rfl, h, pw ht hP⟩, hS.F ht⟩) hS.2.2 dX5_womanFact_71
  replace h := h.2 c14
  by_cases c20 : x2 = 3
  · replace h := h.1 c20
    refine lv_tableIn (off := 71) (tgt := 72) hx hb dX5_womanFact_1 (by rw [c20]; decide) (by rw [c20]; decide) (by rw [c20]; decide) (by decide) ?_
    refine lv_aload_n hx hb dX5_womanFact_72 rfl (lv_at hl 0 rfl) ?_
    refine va_get (ci := 4) (v := va_re ad (tX x0 3)) (C := RX5) (T := TX5) (N := 12) hx hb hts hi_X5 hown hE.1 hP x0 (w_4 hE hk0) rfl 3 (by decide) (hts (.fieldLink RX5 33 "HemLine" "now" "LHemLine$Delta;") (by decide +kernel)) (fun _ h9 => h9) rfl dX5_womanFact_73 ?_
    obtain ⟨k21, e22, q23, h⟩ := h
    refine r_known (ad := ad) e22 ?_
    refine va_getN (ci := 0) (v := va_re ad (tX k21 8)) (C := RX0) (T := TX0) (N := 15) hx hb hts hi_X0 hown hE.1 hP k21 (w_0 hE q23) rfl 8 (by decide) ((hE.2.2.2.1 ("HemLine", 198, "HemLine$Delta", "tuckOf", "[I", "HemLine") (by decide +kernel)).use rfl) (fun _ h9 => h9) rfl dX5_womanFact_76 ?_
    refine lv_iload_n hx hb dX5_womanFact_79 rfl (lv_at hl 1 rfl) ?_
    refine f_i (kS (As := [va_re ad (tX k21 8), .int x1]) (rest := []) ⟨hx, hb, hml, hown, hts⟩ (c_X5_item l D cs ad (tX k21 8) x1 s0 _) (va_cwS 2 hts gX5_womanFact_X5_item rfl rfl rfl (by decide +kernel) ⟨Nat.le_of_ble_eq_true rfl, Nat.le_of_ble_eq_true rfl⟩) hE hP h rfl hl.1 rfl (by first | exact lv_room (Nat.le_of_ble_eq_true rfl) | (refine lv_room ?_; simp [re_cat, cat_i, cat_l, cat_r])) dX5_womanFact_80 ⟨Nat.le_refl _, Nat.le_refl _⟩) hS (fun r25 s24 H locs h hP hS => ?_)
    exact W.iret hx hb hr (fun t ht hW => ⟨⟨_, _, rfl, h, pw ht hP⟩, hS.F ht⟩) hS.2.2 dX5_womanFact_83
  replace h := h.2 c20
  by_cases c26 : x2 = 4
  · replace h := h.1 c26
    refine lv_tableIn (off := 83) (tgt := 84) hx hb dX5_womanFact_1 (by rw [c26]; decide) (by rw [c26]; decide) (by rw [c26]; decide) (by decide) ?_
    refine lv_aload_n hx hb dX5_womanFact_84 rfl (lv_at hl 0 rfl) ?_
    refine va_get (ci := 4) (v := va_re ad (tX x0 3)) (C := RX5) (T := TX5) (N := 12) hx hb hts hi_X5 hown hE.1 hP x0 (w_4 hE hk0) rfl 3 (by decide) (hts (.fieldLink RX5 33 "HemLine" "now" "LHemLine$Delta;") (by decide +kernel)) (fun _ h9 => h9) rfl dX5_womanFact_85 ?_
    obtain ⟨k27, e28, q29, h⟩ := h
    refine r_known (ad := ad) e28 ?_
    refine va_getN (ci := 0) (v := .int (gI s0 k27 2)) (C := RX0) (T := TX0) (N := 15) hx hb hts hi_X0 hown hE.1 hP k27 (w_0 hE q29) rfl 2 (by decide) ((hE.2.2.2.1 ("HemLine", 148, "HemLine$Delta", "years", "I", "HemLine") (by decide +kernel)).use rfl) (fun _ h9 => h9) rfl dX5_womanFact_88 ?_
    exact W.iret hx hb hr (fun t ht hW => ⟨⟨_, _, rfl, h, pw ht hP⟩, hS.F ht⟩) hS.2.2 dX5_womanFact_91
  replace h := h.2 c26
  refine lv_tableOut (tgt := 92) hx hb dX5_womanFact_1 (by have := ne_toInt (n := 0) c2 (by decide); have := ne_toInt (n := 1) c8 (by decide); have := ne_toInt (n := 2) c14 (by decide); have := ne_toInt (n := 3) c20 (by decide); have := ne_toInt (n := 4) c26 (by decide); omega) (by decide) ?_
  refine lv_aload_n hx hb dX5_womanFact_92 rfl (lv_at hl 0 rfl) ?_
  refine va_get (ci := 4) (v := va_re ad (tX x0 3)) (C := RX5) (T := TX5) (N := 12) hx hb hts hi_X5 hown hE.1 hP x0 (w_4 hE hk0) rfl 3 (by decide) (hts (.fieldLink RX5 33 "HemLine" "now" "LHemLine$Delta;") (by decide +kernel)) (fun _ h9 => h9) rfl dX5_womanFact_93 ?_
  refine lv_iload_n hx hb dX5_womanFact_96 rfl (lv_at hl 1 rfl) ?_
  obtain ⟨k30, e31, q32, h⟩ := h
  refine f_i (kV (As := [.int x1]) (rest := []) e31 ⟨hx, hb, hml, hown, hts⟩ (c_X0_greatestHemOf l D cs ad k30 x1 s0 _ q32) (cwV 1 hts gX5_womanFact_X0_greatestHemOf rfl rfl rfl (by decide +kernel) ⟨Nat.le_of_ble_eq_true rfl, Nat.le_of_ble_eq_true rfl⟩) hE hP rfl rfl (w_0 hE q32) h rfl hl.1 rfl (by first | exact lv_room (Nat.le_of_ble_eq_true rfl) | (refine lv_room ?_; simp [re_cat, cat_i, cat_l, cat_r])) dX5_womanFact_97 ⟨Nat.le_refl _, Nat.le_refl _⟩) hS (fun r34 s33 H locs h hP hS => ?_)
  exact W.iret hx hb hr (fun t ht hW => ⟨⟨_, _, rfl, h, pw ht hP⟩, hS.F ht⟩) hS.2.2 dX5_womanFact_100
def p_X5_woman (x0 : Nat) (x1 : Int32) (x2 : Int32) (s : Sg) (Q : Int32 → Sg → Prop) : Prop := p_X5_isWoman x0 x1 s (fun r2 s1 => ((r2 = 0 → Q ((-1)) s1) ∧ (¬ r2 = 0 → ((x2 < 0 → Q ((-1)) s1) ∧ (¬ x2 < 0 → ((x2 < 6 → p_X5_womanFact x0 x1 x2 s1 (fun r7 s6 => Q 1 (setI s6 x0 9 r7))) ∧ (¬ x2 < 6 → Q ((-1)) s1)))))))
set_option maxHeartbeats 4000000 in
set_option maxRecDepth 100000 in
theorem c_X5_woman (l : Launch) (D : va_G) (cs : Cs) (ad : Nat → Nat) (x0 : Nat) (x1 : Int32) (x2 : Int32) (s0 : Sg) (Q : Int32 → Sg → Prop) (hk0 : kX x0 = 4) : Met l yX5_woman wsX5_woman { frames := 6, cells := 0, slots := 0, locals := 139 } (Pc0 bX D cs ad [.ref (ad x0), .int x1, .int x2] s0 (p_X5_woman x0 x1 x2 s0 Q)) (QI bX D cs ad Q) 0 0 (fAd bX ad) := by
  refine Met.ofW (cc := cX5_woman) (maxL := 3) (ret := (some .int)) (by decide) rfl ?_
  intro p e s m args below meth c s₁ B0 hml hv
  obtain ⟨ha, hP, hE, h⟩ := hv
  have hx := B0.exec
  have hb := B0.bytes
  have hr := B0.returns
  have hts := atoms_spec (ws := wsX5_woman) B0.pre
  have hown : s.vm.findClass RX5 = some m.cls := findClass_of_methodNamed B0.named
  have hlocks := B0.notSynchronized
  have hi_X5 : ∀ w ∈ u_ws RX5 TX5 12, w ∈ wsX5_woman := by decide +kernel
  have hS : va_S (fAd bX ad) s.heap s.heap [] := va_S.rf
  have hl := lv_entry ([.ref (ad x0), .int x1, .int x2]) (n := 3) (by first | exact Nat.le_of_ble_eq_true rfl | simp [lg_sl, re_cat, cat_i, cat_l, cat_r])
  rw [show entryFrame m args 3 = entryFrame m ([.ref (ad x0), .int x1, .int x2] : List Value).toArray 3 by rw [ha], lg_entry_eq]
  generalize (lg_sl ([.ref (ad x0), .int x1, .int x2]) ++ List.replicate (3 - (lg_sl ([.ref (ad x0), .int x1, .int x2])).length) Slot.unset).toArray = ls at hl ⊢
  have hl : lv_has ls 3 [(0, .ref (ad x0)), (1, .int x1), (2, .int x2)] := by first | exact hl | simpa [lv_args, re_cat, cat_i, cat_l, cat_r] using hl
  unfold p_X5_woman at h
  refine lv_aload_n hx hb dX5_woman_0 rfl (lv_at hl 0 rfl) ?_
  refine lv_iload_n hx hb dX5_woman_1 rfl (lv_at hl 1 rfl) ?_
  refine f_i (kV (As := [.int x1]) (rest := []) (o := some x0) rfl ⟨hx, hb, hml, hown, hts⟩ (c_X5_isWoman l D cs ad x0 x1 s0 _ hk0) (cwV 1 hts gX5_woman_X5_isWoman rfl rfl rfl (by decide +kernel) ⟨Nat.le_of_ble_eq_true rfl, Nat.le_of_ble_eq_true rfl⟩) hE hP rfl rfl (w_4 hE hk0) h rfl hl.1 rfl (by first | exact lv_room (Nat.le_of_ble_eq_true rfl) | (refine lv_room ?_; simp [re_cat, cat_i, cat_l, cat_r])) dX5_woman_2 ⟨Nat.le_refl _, Nat.le_refl _⟩) hS (fun r2 s1 H locs h hP hS => ?_)
  refine lv_if_eq (tgt := 18) hx hb dX5_woman_5 (by decide) (fun c3 => ?_) (fun c3 => ?_)
  · replace h := h.1 c3
    refine lv_iconst (v := (-1)) hx hb dX5_woman_18 (by decide) ?_
    exact W.iret hx hb hr (fun t ht hW => ⟨⟨_, _, rfl, h, pw ht hP⟩, hS.F ht⟩) hS.2.2 dX5_woman_19
  · replace h := h.2 c3
    refine lv_iload_n hx hb dX5_woman_8 rfl (lv_at hl 2 rfl) ?_
    refine lv_if_lt (tgt := 18) hx hb dX5_woman_9 (by decide) (fun c4 => ?_) (fun c4 => ?_)
    · replace h := h.1 c4
      refine lv_iconst (v := (-1)) hx hb dX5_woman_18 (by decide) ?_
      exact W.iret hx hb hr (fun t ht hW => ⟨⟨_, _, rfl, h, pw ht hP⟩, hS.F ht⟩) hS.2.2 dX5_woman_19
    · replace h := h.2 c4
      refine lv_iload_n hx hb dX5_woman_12 rfl (lv_at hl 2 rfl) ?_
      refine lv_bipush (v := 6) hx hb dX5_woman_13 (by decide) ?_
      refine lv_icmp_lt (tgt := 20) hx hb dX5_woman_15 (by decide) (fun c5 => ?_) (fun c5 => ?_)
      · replace h := h.1 c5
        refine lv_aload_n hx hb dX5_woman_20 rfl (lv_at hl 0 rfl) ?_
        refine lv_aload_n hx hb dX5_woman_21 rfl (lv_at hl 0 rfl) ?_
        refine lv_iload_n hx hb dX5_woman_22 rfl (lv_at hl 1 rfl) ?_
        refine lv_iload_n hx hb dX5_woman_23 rfl (lv_at hl 2 rfl) ?_
        refine f_i (kV (As := [.int x1, .int x2]) (rest := [.ref (ad x0)]) (o := some x0) rfl ⟨hx, hb, hml, hown, hts⟩ (c_X5_womanFact l D cs ad x0 x1 x2 s1 _ hk0) (cwV 2 hts gX5_woman_X5_womanFact rfl rfl rfl (by decide +kernel) ⟨Nat.le_of_ble_eq_true rfl, Nat.le_of_ble_eq_true rfl⟩) hE hP rfl rfl (w_4 hE hk0) h rfl hl.1 rfl (by first | exact lv_room (Nat.le_of_ble_eq_true rfl) | (refine lv_room ?_; simp [re_cat, cat_i, cat_l, cat_r])) dX5_woman_24 ⟨Nat.le_refl _, Nat.le_refl _⟩) hS (fun r7 s6 H locs h hP hS => ?_)
        refine r_put (σ' := (setI s6 x0 9 r7)) (ci := 4) (v := .int r7) (ty := .int) (C := RX5) (T := TX5) (N := 12) hx hb hts hi_X5 tyX5 tyX5_ok nmX5 hown hE hP hS x0 (w_4 hE hk0) rfl 9 (by decide) (hts (.fieldLink RX5 71 "HemLine" "told" "I") (by decide +kernel)) (fun _ h9 => h9) rfl (by decide +kernel) rfl rfl (Nat.le_of_ble_eq_true rfl) dX5_woman_27 (st_4_9 hE hk0 _) (fun H locs hP hS => ?_)
        refine lv_iconst (v := 1) hx hb dX5_woman_30 (by decide) ?_
        exact W.iret hx hb hr (fun t ht hW => ⟨⟨_, _, rfl, h, pw ht hP⟩, hS.F ht⟩) hS.2.2 dX5_woman_31
      · replace h := h.2 c5
        refine lv_iconst (v := (-1)) hx hb dX5_woman_18 (by decide) ?_
        exact W.iret hx hb hr (fun t ht hW => ⟨⟨_, _, rfl, h, pw ht hP⟩, hS.F ht⟩) hS.2.2 dX5_woman_19
def p_X5_mark_L64 (Q : Int32 → Sg → Prop)  : Nat → Nat → Int32 → Int32 → Int32 → Int32 → Sg → Prop
  | 0, _, _, _, _, _, _ => False
  | n + 1, x0, x1, x2, x3, x4, s => ∃ k1, tX x0 3 = some k1 ∧ kX k1 = 0 ∧ (((gI s k1 2) ≤ x4 → Q x3 s) ∧ (¬ (gI s k1 2) ≤ x4 → ∃ k5, tX x0 3 = some k5 ∧ kX k5 = 0 ∧ p_X0_hemOf k5 x1 x4 s (fun r9 s8 => ∃ k10, tX x0 3 = some k10 ∧ kX k10 = 0 ∧ p_X0_plainHemOf k10 x1 x4 s8 (fun r14 s13 => p_X2_markOf x2 (r9 - r14) s13 (fun r16 s15 => p_X5_mark_L64 Q  n x0 x1 x2 (x3 + r16) (x4 + 1) s15)))))
def p_X5_mark (x0 : Nat) (x1 : Int32) (x2 : Int32) (s : Sg) (Q : Int32 → Sg → Prop) : Prop := p_X5_isWoman x0 x1 s (fun r2 s1 => ((r2 = 0 → Q ((-1)) s1) ∧ (¬ r2 = 0 → ((x2 ≤ 0 → Q ((-1)) s1) ∧ (¬ x2 ≤ 0 → ((x2 < 6 → ∃ k6, tX x0 3 = some k6 ∧ kX k6 = 0 ∧ p_X5_item (tX k6 5) x1 s1 (fun r10 s9 => p_X2_isOf r10 x2 s9 (fun r12 s11 => ((r12 = 0 → p_X5_found x0 3 s11 (fun r20 s19 => Q r20 s19)) ∧ (¬ r12 = 0 → ((x2 = 5 → ∃ k16, tX x0 3 = some k16 ∧ kX k16 = 0 ∧ Q ((gI s11 k16 2) &&& 1) s11) ∧ (¬ x2 = 5 → (∃ n15, p_X5_mark_L64 Q  n15 x0 x1 x2 0 0 s11)))))))) ∧ (¬ x2 < 6 → Q ((-1)) s1)))))))
set_option maxHeartbeats 4000000 in
set_option maxRecDepth 100000 in
theorem c_X5_mark (l : Launch) (D : va_G) (cs : Cs) (ad : Nat → Nat) (x0 : Nat) (x1 : Int32) (x2 : Int32) (s0 : Sg) (Q : Int32 → Sg → Prop) (hk0 : kX x0 = 4) : Met l yX5_mark wsX5_mark { frames := 4, cells := 0, slots := 0, locals := 94 } (Pc0 bX D cs ad [.ref (ad x0), .int x1, .int x2] s0 (p_X5_mark x0 x1 x2 s0 Q)) (QI bX D cs ad Q) 0 0 (fAd bX ad) := by
  refine Met.ofW (cc := cX5_mark) (maxL := 5) (ret := (some .int)) (by decide) rfl ?_
  intro p e s m args below meth c s₁ B0 hml hv
  obtain ⟨ha, hP, hE, h⟩ := hv
  have hx := B0.exec
  have hb := B0.bytes
  have hr := B0.returns
  have hts := atoms_spec (ws := wsX5_mark) B0.pre
  have hown : s.vm.findClass RX5 = some m.cls := findClass_of_methodNamed B0.named
  have hlocks := B0.notSynchronized
  have hi_X0 : ∀ w ∈ u_ws RX0 TX0 15, w ∈ wsX5_mark := by decide +kernel
  have hi_X5 : ∀ w ∈ u_ws RX5 TX5 12, w ∈ wsX5_mark := by decide +kernel
  have hS : va_S (fAd bX ad) s.heap s.heap [] := va_S.rf
  have hl := lv_entry ([.ref (ad x0), .int x1, .int x2]) (n := 5) (by first | exact Nat.le_of_ble_eq_true rfl | simp [lg_sl, re_cat, cat_i, cat_l, cat_r])
  rw [show entryFrame m args 5 = entryFrame m ([.ref (ad x0), .int x1, .int x2] : List Value).toArray 5 by rw [ha], lg_entry_eq]
  generalize (lg_sl ([.ref (ad x0), .int x1, .int x2]) ++ List.replicate (5 - (lg_sl ([.ref (ad x0), .int x1, .int x2])).length) Slot.unset).toArray = ls at hl ⊢
  have hl : lv_has ls 5 [(0, .ref (ad x0)), (1, .int x1), (2, .int x2)] := by first | exact hl | simpa [lv_args, re_cat, cat_i, cat_l, cat_r] using hl
  have hB64 : ∀ (n64 : Nat) (x1 : Int32) (x2 : Int32) (x3 : Int32) (x4 : Int32) (σ : Sg) (H : Heap) (locs : List Loc) (ls : Array Slot), p_X5_mark_L64 Q  n64 x0 x1 x2 x3 x4 σ → va_P D vwCl (wl bX cs ad σ) H → va_S (fAd bX ad) s.heap H locs → lv_has ls 5 [(0, .ref (ad x0)), (1, .int x1), (2, .int x2), (3, .int x3), (4, .int x4)] → W p l e { frames := 4, cells := 0, slots := 0, locals := 94 } s m args below meth c H locs 0 0 (MQ below (QI bX D cs ad Q) args s 0 0 (fAd bX ad)) (F0 m 64 ls []) := by
    intro n64
    induction n64 with
    | zero =>
      intro x1 x2 x3 x4 σ H locs ls h
      exact h.elim
    | succ n64 ih =>
      have hK64 := ih
      intro x1 x2 x3 x4 σ H locs ls h hP hS hl
      rw [p_X5_mark_L64] at h
      refine lv_iload hx hb dX5_mark_64 (lv_at hl 4 rfl) ?_
      refine lv_aload_n hx hb dX5_mark_66 rfl (lv_at hl 0 rfl) ?_
      refine va_get (ci := 4) (v := va_re ad (tX x0 3)) (C := RX5) (T := TX5) (N := 12) hx hb hts hi_X5 hown hE.1 hP x0 (w_4 hE hk0) rfl 3 (by decide) (hts (.fieldLink RX5 33 "HemLine" "now" "LHemLine$Delta;") (by decide +kernel)) (fun _ h9 => h9) rfl dX5_mark_67 ?_
      obtain ⟨k1, e2, q3, h⟩ := h
      refine r_known (ad := ad) e2 ?_
      refine va_getN (ci := 0) (v := .int (gI σ k1 2)) (C := RX0) (T := TX0) (N := 15) hx hb hts hi_X0 hown hE.1 hP k1 (w_0 hE q3) rfl 2 (by decide) ((hE.2.2.2.1 ("HemLine", 148, "HemLine$Delta", "years", "I", "HemLine") (by decide +kernel)).use rfl) (fun _ h9 => h9) rfl dX5_mark_70 ?_
      refine lv_icmp_ge (tgt := 110) hx hb dX5_mark_73 (by decide) (fun c4 => ?_) (fun c4 => ?_)
      · replace h := h.1 c4
        refine lv_iload_n hx hb dX5_mark_110 rfl (lv_at hl 3 rfl) ?_
        exact W.iret hx hb hr (fun t ht hW => ⟨⟨_, _, rfl, h, pw ht hP⟩, hS.F ht⟩) hS.2.2 dX5_mark_111
      · replace h := h.2 c4
        refine lv_iload_n hx hb dX5_mark_76 rfl (lv_at hl 3 rfl) ?_
        refine lv_iload_n hx hb dX5_mark_77 rfl (lv_at hl 2 rfl) ?_
        refine lv_aload_n hx hb dX5_mark_78 rfl (lv_at hl 0 rfl) ?_
        refine va_get (ci := 4) (v := va_re ad (tX x0 3)) (C := RX5) (T := TX5) (N := 12) hx hb hts hi_X5 hown hE.1 hP x0 (w_4 hE hk0) rfl 3 (by decide) (hts (.fieldLink RX5 33 "HemLine" "now" "LHemLine$Delta;") (by decide +kernel)) (fun _ h9 => h9) rfl dX5_mark_79 ?_
        refine lv_iload_n hx hb dX5_mark_82 rfl (lv_at hl 1 rfl) ?_
        refine lv_iload hx hb dX5_mark_83 (lv_at hl 4 rfl) ?_
        obtain ⟨k5, e6, q7, h⟩ := h
        refine f_i (kV (As := [.int x1, .int x4]) (rest := [.int x2, .int x3]) e6 ⟨hx, hb, hml, hown, hts⟩ (c_X0_hemOf l D cs ad k5 x1 x4 σ _ q7) (cwV 2 hts gX5_mark_X0_hemOf rfl rfl rfl (by decide +kernel) ⟨Nat.le_of_ble_eq_true rfl, Nat.le_of_ble_eq_true rfl⟩) hE hP rfl rfl (w_0 hE q7) h rfl hl.1 rfl (by first | exact lv_room (Nat.le_of_ble_eq_true rfl) | (refine lv_room ?_; simp [re_cat, cat_i, cat_l, cat_r])) dX5_mark_85 ⟨Nat.le_refl _, Nat.le_refl _⟩) hS (fun r9 s8 H locs h hP hS => ?_)
        refine lv_aload_n hx hb dX5_mark_88 rfl (lv_at hl 0 rfl) ?_
        refine va_get (ci := 4) (v := va_re ad (tX x0 3)) (C := RX5) (T := TX5) (N := 12) hx hb hts hi_X5 hown hE.1 hP x0 (w_4 hE hk0) rfl 3 (by decide) (hts (.fieldLink RX5 33 "HemLine" "now" "LHemLine$Delta;") (by decide +kernel)) (fun _ h9 => h9) rfl dX5_mark_89 ?_
        refine lv_iload_n hx hb dX5_mark_92 rfl (lv_at hl 1 rfl) ?_
        refine lv_iload hx hb dX5_mark_93 (lv_at hl 4 rfl) ?_
        obtain ⟨k10, e11, q12, h⟩ := h
        refine f_i (kV (As := [.int x1, .int x4]) (rest := [.int r9, .int x2, .int x3]) e11 ⟨hx, hb, hml, hown, hts⟩ (c_X0_plainHemOf l D cs ad k10 x1 x4 s8 _ q12) (cwV 2 hts gX5_mark_X0_plainHemOf rfl rfl rfl (by decide +kernel) ⟨Nat.le_of_ble_eq_true rfl, Nat.le_of_ble_eq_true rfl⟩) hE hP rfl rfl (w_0 hE q12) h rfl hl.1 rfl (by first | exact lv_room (Nat.le_of_ble_eq_true rfl) | (refine lv_room ?_; simp [re_cat, cat_i, cat_l, cat_r])) dX5_mark_95 ⟨Nat.le_refl _, Nat.le_refl _⟩) hS (fun r14 s13 H locs h hP hS => ?_)
        refine lv_isub hx hb dX5_mark_98 ?_
        refine f_i (kS (As := [.int x2, .int (r9 - r14)]) (rest := [.int x3]) ⟨hx, hb, hml, hown, hts⟩ (c_X2_markOf l D cs ad x2 (r9 - r14) s13 _) (va_cwS 2 hts gX5_mark_X2_markOf rfl rfl rfl (by decide +kernel) ⟨Nat.le_of_ble_eq_true rfl, Nat.le_of_ble_eq_true rfl⟩) hE hP h rfl hl.1 rfl (by first | exact lv_room (Nat.le_of_ble_eq_true rfl) | (refine lv_room ?_; simp [re_cat, cat_i, cat_l, cat_r])) dX5_mark_99 ⟨Nat.le_refl _, Nat.le_refl _⟩) hS (fun r16 s15 H locs h hP hS => ?_)
        refine lv_iadd hx hb dX5_mark_102 ?_
        refine lv_istore_n (i := 3) (lv' := [(3, .int (x3 + r16)), (0, .ref (ad x0)), (1, .int x1), (2, .int x2), (4, .int x4)]) hx hb dX5_mark_103 rfl hl (by decide) (by first | rfl | simp [re_cat, cat_i, cat_l, cat_r]) (fun ls hl => ?_)
        refine lv_iinc (v := x4 + 1) (lv' := [(4, .int (x4 + 1)), (3, .int (x3 + r16)), (0, .ref (ad x0)), (1, .int x1), (2, .int x2)]) hx hb dX5_mark_104 hl (k := 4) rfl rfl (by decide) (by first | rfl | simp [re_cat, cat_i, cat_l, cat_r]) (fun ls hl => ?_)
        refine lv_goto (tgt := 64) hx hb dX5_mark_107 (by decide) ?_
        exact ih x1 x2 (x3 + r16) (x4 + 1) s15 H locs ls h hP hS (lv_sub hl [2, 3, 4, 1, 0] rfl)
  unfold p_X5_mark at h
  refine lv_aload_n hx hb dX5_mark_0 rfl (lv_at hl 0 rfl) ?_
  refine lv_iload_n hx hb dX5_mark_1 rfl (lv_at hl 1 rfl) ?_
  refine f_i (kV (As := [.int x1]) (rest := []) (o := some x0) rfl ⟨hx, hb, hml, hown, hts⟩ (c_X5_isWoman l D cs ad x0 x1 s0 _ hk0) (cwV 1 hts gX5_mark_X5_isWoman rfl rfl rfl (by decide +kernel) ⟨Nat.le_of_ble_eq_true rfl, Nat.le_of_ble_eq_true rfl⟩) hE hP rfl rfl (w_4 hE hk0) h rfl hl.1 rfl (by first | exact lv_room (Nat.le_of_ble_eq_true rfl) | (refine lv_room ?_; simp [re_cat, cat_i, cat_l, cat_r])) dX5_mark_2 ⟨Nat.le_refl _, Nat.le_refl _⟩) hS (fun r2 s1 H locs h hP hS => ?_)
  refine lv_if_eq (tgt := 18) hx hb dX5_mark_5 (by decide) (fun c3 => ?_) (fun c3 => ?_)
  · replace h := h.1 c3
    refine lv_iconst (v := (-1)) hx hb dX5_mark_18 (by decide) ?_
    exact W.iret hx hb hr (fun t ht hW => ⟨⟨_, _, rfl, h, pw ht hP⟩, hS.F ht⟩) hS.2.2 dX5_mark_19
  · replace h := h.2 c3
    refine lv_iload_n hx hb dX5_mark_8 rfl (lv_at hl 2 rfl) ?_
    refine lv_if_le (tgt := 18) hx hb dX5_mark_9 (by decide) (fun c4 => ?_) (fun c4 => ?_)
    · replace h := h.1 c4
      refine lv_iconst (v := (-1)) hx hb dX5_mark_18 (by decide) ?_
      exact W.iret hx hb hr (fun t ht hW => ⟨⟨_, _, rfl, h, pw ht hP⟩, hS.F ht⟩) hS.2.2 dX5_mark_19
    · replace h := h.2 c4
      refine lv_iload_n hx hb dX5_mark_12 rfl (lv_at hl 2 rfl) ?_
      refine lv_bipush (v := 6) hx hb dX5_mark_13 (by decide) ?_
      refine lv_icmp_lt (tgt := 20) hx hb dX5_mark_15 (by decide) (fun c5 => ?_) (fun c5 => ?_)
      · replace h := h.1 c5
        refine lv_aload_n hx hb dX5_mark_20 rfl (lv_at hl 0 rfl) ?_
        refine va_get (ci := 4) (v := va_re ad (tX x0 3)) (C := RX5) (T := TX5) (N := 12) hx hb hts hi_X5 hown hE.1 hP x0 (w_4 hE hk0) rfl 3 (by decide) (hts (.fieldLink RX5 33 "HemLine" "now" "LHemLine$Delta;") (by decide +kernel)) (fun _ h9 => h9) rfl dX5_mark_21 ?_
        obtain ⟨k6, e7, q8, h⟩ := h
        refine r_known (ad := ad) e7 ?_
        refine va_getN (ci := 0) (v := va_re ad (tX k6 5)) (C := RX0) (T := TX0) (N := 15) hx hb hts hi_X0 hown hE.1 hP k6 (w_0 hE q8) rfl 5 (by decide) ((hE.2.2.2.1 ("HemLine", 135, "HemLine$Delta", "kindOf", "[I", "HemLine") (by decide +kernel)).use rfl) (fun _ h9 => h9) rfl dX5_mark_24 ?_
        refine lv_iload_n hx hb dX5_mark_27 rfl (lv_at hl 1 rfl) ?_
        refine f_i (kS (As := [va_re ad (tX k6 5), .int x1]) (rest := []) ⟨hx, hb, hml, hown, hts⟩ (c_X5_item l D cs ad (tX k6 5) x1 s1 _) (va_cwS 2 hts gX5_mark_X5_item rfl rfl rfl (by decide +kernel) ⟨Nat.le_of_ble_eq_true rfl, Nat.le_of_ble_eq_true rfl⟩) hE hP h rfl hl.1 rfl (by first | exact lv_room (Nat.le_of_ble_eq_true rfl) | (refine lv_room ?_; simp [re_cat, cat_i, cat_l, cat_r])) dX5_mark_28 ⟨Nat.le_refl _, Nat.le_refl _⟩) hS (fun r10 s9 H locs h hP hS => ?_)
        refine lv_iload_n hx hb dX5_mark_31 rfl (lv_at hl 2 rfl) ?_
        refine f_i (kS (As := [.int r10, .int x2]) (rest := []) ⟨hx, hb, hml, hown, hts⟩ (c_X2_isOf l D cs ad r10 x2 s9 _) (va_cwS 2 hts gX5_mark_X2_isOf rfl rfl rfl (by decide +kernel) ⟨Nat.le_of_ble_eq_true rfl, Nat.le_of_ble_eq_true rfl⟩) hE hP h rfl hl.1 rfl (by first | exact lv_room (Nat.le_of_ble_eq_true rfl) | (refine lv_room ?_; simp [re_cat, cat_i, cat_l, cat_r])) dX5_mark_32 ⟨Nat.le_refl _, Nat.le_refl _⟩) hS (fun r12 s11 H locs h hP hS => ?_)
        refine lv_if_ne (tgt := 44) hx hb dX5_mark_35 (by decide) (fun c13 => ?_) (fun c13 => ?_)
        · replace h := h.2 c13
          refine lv_iload_n hx hb dX5_mark_44 rfl (lv_at hl 2 rfl) ?_
          refine lv_iconst (v := 5) hx hb dX5_mark_45 (by decide) ?_
          refine lv_icmp_ne (tgt := 59) hx hb dX5_mark_46 (by decide) (fun c14 => ?_) (fun c14 => ?_)
          · replace h := h.2 c14
            refine lv_iconst (v := 0) hx hb dX5_mark_59 (by decide) ?_
            refine lv_istore_n (i := 3) (lv' := [(3, .int 0), (0, .ref (ad x0)), (1, .int x1), (2, .int x2)]) hx hb dX5_mark_60 rfl hl (by decide) (by first | rfl | simp [re_cat, cat_i, cat_l, cat_r]) (fun ls hl => ?_)
            refine lv_iconst (v := 0) hx hb dX5_mark_61 (by decide) ?_
            refine lv_istore (i := 4) (lv' := [(4, .int 0), (3, .int 0), (0, .ref (ad x0)), (1, .int x1), (2, .int x2)]) hx hb dX5_mark_62 hl (by decide) (by first | rfl | simp [re_cat, cat_i, cat_l, cat_r]) (fun ls hl => ?_)
            obtain ⟨n15, h⟩ := h
            exact hB64 n15 x1 x2 0 0 s11 _ _ ls h hP hS (lv_sub hl [2, 3, 4, 1, 0] rfl)
          · replace h := h.1 c14
            refine lv_aload_n hx hb dX5_mark_49 rfl (lv_at hl 0 rfl) ?_
            refine va_get (ci := 4) (v := va_re ad (tX x0 3)) (C := RX5) (T := TX5) (N := 12) hx hb hts hi_X5 hown hE.1 hP x0 (w_4 hE hk0) rfl 3 (by decide) (hts (.fieldLink RX5 33 "HemLine" "now" "LHemLine$Delta;") (by decide +kernel)) (fun _ h9 => h9) rfl dX5_mark_50 ?_
            obtain ⟨k16, e17, q18, h⟩ := h
            refine r_known (ad := ad) e17 ?_
            refine va_getN (ci := 0) (v := .int (gI s11 k16 2)) (C := RX0) (T := TX0) (N := 15) hx hb hts hi_X0 hown hE.1 hP k16 (w_0 hE q18) rfl 2 (by decide) ((hE.2.2.2.1 ("HemLine", 148, "HemLine$Delta", "years", "I", "HemLine") (by decide +kernel)).use rfl) (fun _ h9 => h9) rfl dX5_mark_53 ?_
            refine lv_iconst (v := 1) hx hb dX5_mark_56 (by decide) ?_
            refine lv_iand hx hb dX5_mark_57 ?_
            exact W.iret hx hb hr (fun t ht hW => ⟨⟨_, _, rfl, h, pw ht hP⟩, hS.F ht⟩) hS.2.2 dX5_mark_58
        · replace h := h.1 c13
          refine lv_aload_n hx hb dX5_mark_38 rfl (lv_at hl 0 rfl) ?_
          refine lv_iconst (v := 3) hx hb dX5_mark_39 (by decide) ?_
          refine f_i (kV (As := [.int 3]) (rest := []) (o := some x0) rfl ⟨hx, hb, hml, hown, hts⟩ (c_X5_found l D cs ad x0 3 s11 _ hk0) (cwV 1 hts gX5_mark_X5_found rfl rfl rfl (by decide +kernel) ⟨Nat.le_of_ble_eq_true rfl, Nat.le_of_ble_eq_true rfl⟩) hE hP rfl rfl (w_4 hE hk0) h rfl hl.1 rfl (by first | exact lv_room (Nat.le_of_ble_eq_true rfl) | (refine lv_room ?_; simp [re_cat, cat_i, cat_l, cat_r])) dX5_mark_40 ⟨Nat.le_refl _, Nat.le_refl _⟩) hS (fun r20 s19 H locs h hP hS => ?_)
          exact W.iret hx hb hr (fun t ht hW => ⟨⟨_, _, rfl, h, pw ht hP⟩, hS.F ht⟩) hS.2.2 dX5_mark_43
      · replace h := h.2 c5
        refine lv_iconst (v := (-1)) hx hb dX5_mark_18 (by decide) ?_
        exact W.iret hx hb hr (fun t ht hW => ⟨⟨_, _, rfl, h, pw ht hP⟩, hS.F ht⟩) hS.2.2 dX5_mark_19
def p_X5_isPast (x0 : Nat) (x1 : Int32) (s : Sg) (Q : Int32 → Sg → Prop) : Prop := ((x1 < 0 → Q 0 s) ∧ (¬ x1 < 0 → ∃ k2, tX x0 3 = some k2 ∧ kX k2 = 0 ∧ (((gI s k2 2) ≤ x1 → Q 0 s) ∧ (¬ (gI s k2 2) ≤ x1 → Q 1 s))))
set_option maxHeartbeats 4000000 in
set_option maxRecDepth 100000 in
theorem c_X5_isPast (l : Launch) (D : va_G) (cs : Cs) (ad : Nat → Nat) (x0 : Nat) (x1 : Int32) (s0 : Sg) (Q : Int32 → Sg → Prop) (hk0 : kX x0 = 4) : Met l yX5_isPast wsX5_isPast { frames := 0, cells := 0, slots := 0, locals := 0 } (Pc0 bX D cs ad [.ref (ad x0), .int x1] s0 (p_X5_isPast x0 x1 s0 Q)) (QI bX D cs ad Q) 0 0 (fAd bX ad) := by
  refine Met.ofW (cc := cX5_isPast) (maxL := 2) (ret := (some .boolean)) (by decide) rfl ?_
  intro p e s m args below meth c s₁ B0 hml hv
  obtain ⟨ha, hP, hE, h⟩ := hv
  have hx := B0.exec
  have hb := B0.bytes
  have hr := B0.returns
  have hts := atoms_spec (ws := wsX5_isPast) B0.pre
  have hown : s.vm.findClass RX5 = some m.cls := findClass_of_methodNamed B0.named
  have hlocks := B0.notSynchronized
  have hi_X0 : ∀ w ∈ u_ws RX0 TX0 15, w ∈ wsX5_isPast := by decide +kernel
  have hi_X5 : ∀ w ∈ u_ws RX5 TX5 12, w ∈ wsX5_isPast := by decide +kernel
  have hS : va_S (fAd bX ad) s.heap s.heap [] := va_S.rf
  have hl := lv_entry ([.ref (ad x0), .int x1]) (n := 2) (by first | exact Nat.le_of_ble_eq_true rfl | simp [lg_sl, re_cat, cat_i, cat_l, cat_r])
  rw [show entryFrame m args 2 = entryFrame m ([.ref (ad x0), .int x1] : List Value).toArray 2 by rw [ha], lg_entry_eq]
  generalize (lg_sl ([.ref (ad x0), .int x1]) ++ List.replicate (2 - (lg_sl ([.ref (ad x0), .int x1])).length) Slot.unset).toArray = ls at hl ⊢
  have hl : lv_has ls 2 [(0, .ref (ad x0)), (1, .int x1)] := by first | exact hl | simpa [lv_args, re_cat, cat_i, cat_l, cat_r] using hl
  unfold p_X5_isPast at h
  refine lv_iload_n hx hb dX5_isPast_0 rfl (lv_at hl 1 rfl) ?_
  refine lv_if_lt (tgt := 19) hx hb dX5_isPast_1 (by decide) (fun c1 => ?_) (fun c1 => ?_)
  · replace h := h.1 c1
    refine lv_iconst (v := 0) hx hb dX5_isPast_19 (by decide) ?_
    exact W.zret hx hb hr rfl (fun t ht hW => ⟨⟨_, _, rfl, h, pw ht hP⟩, hS.F ht⟩) hS.2.2 dX5_isPast_20
  · replace h := h.2 c1
    refine lv_iload_n hx hb dX5_isPast_4 rfl (lv_at hl 1 rfl) ?_
    refine lv_aload_n hx hb dX5_isPast_5 rfl (lv_at hl 0 rfl) ?_
    refine va_get (ci := 4) (v := va_re ad (tX x0 3)) (C := RX5) (T := TX5) (N := 12) hx hb hts hi_X5 hown hE.1 hP x0 (w_4 hE hk0) rfl 3 (by decide) (hts (.fieldLink RX5 33 "HemLine" "now" "LHemLine$Delta;") (by decide +kernel)) (fun _ h9 => h9) rfl dX5_isPast_6 ?_
    obtain ⟨k2, e3, q4, h⟩ := h
    refine r_known (ad := ad) e3 ?_
    refine va_getN (ci := 0) (v := .int (gI s0 k2 2)) (C := RX0) (T := TX0) (N := 15) hx hb hts hi_X0 hown hE.1 hP k2 (w_0 hE q4) rfl 2 (by decide) ((hE.2.2.2.1 ("HemLine", 148, "HemLine$Delta", "years", "I", "HemLine") (by decide +kernel)).use rfl) (fun _ h9 => h9) rfl dX5_isPast_9 ?_
    refine lv_icmp_ge (tgt := 19) hx hb dX5_isPast_12 (by decide) (fun c5 => ?_) (fun c5 => ?_)
    · replace h := h.1 c5
      refine lv_iconst (v := 0) hx hb dX5_isPast_19 (by decide) ?_
      exact W.zret hx hb hr rfl (fun t ht hW => ⟨⟨_, _, rfl, h, pw ht hP⟩, hS.F ht⟩) hS.2.2 dX5_isPast_20
    · replace h := h.2 c5
      refine lv_iconst (v := 1) hx hb dX5_isPast_15 (by decide) ?_
      refine lv_goto (tgt := 20) hx hb dX5_isPast_16 (by decide) ?_
      exact W.zret hx hb hr rfl (fun t ht hW => ⟨⟨_, _, rfl, h, pw ht hP⟩, hS.F ht⟩) hS.2.2 dX5_isPast_20
def p_X5_hem (x0 : Nat) (x1 : Int32) (x2 : Int32) (s : Sg) (Q : Int32 → Sg → Prop) : Prop := p_X5_isWoman x0 x1 s (fun r2 s1 => ((r2 = 0 → Q ((-1)) s1) ∧ (¬ r2 = 0 → p_X5_isPast x0 x2 s1 (fun r5 s4 => ((r5 = 0 → Q ((-1)) s4) ∧ (¬ r5 = 0 → ∃ k7, tX x0 3 = some k7 ∧ kX k7 = 0 ∧ p_X0_hemOf k7 x1 x2 s4 (fun r11 s10 => Q r11 s10)))))))
set_option maxHeartbeats 4000000 in
set_option maxRecDepth 100000 in
theorem c_X5_hem (l : Launch) (D : va_G) (cs : Cs) (ad : Nat → Nat) (x0 : Nat) (x1 : Int32) (x2 : Int32) (s0 : Sg) (Q : Int32 → Sg → Prop) (hk0 : kX x0 = 4) : Met l yX5_hem wsX5_hem { frames := 4, cells := 0, slots := 0, locals := 94 } (Pc0 bX D cs ad [.ref (ad x0), .int x1, .int x2] s0 (p_X5_hem x0 x1 x2 s0 Q)) (QI bX D cs ad Q) 0 0 (fAd bX ad) := by
  refine Met.ofW (cc := cX5_hem) (maxL := 3) (ret := (some .int)) (by decide) rfl ?_
  intro p e s m args below meth c s₁ B0 hml hv
  obtain ⟨ha, hP, hE, h⟩ := hv
  have hx := B0.exec
  have hb := B0.bytes
  have hr := B0.returns
  have hts := atoms_spec (ws := wsX5_hem) B0.pre
  have hown : s.vm.findClass RX5 = some m.cls := findClass_of_methodNamed B0.named
  have hlocks := B0.notSynchronized
  have hi_X5 : ∀ w ∈ u_ws RX5 TX5 12, w ∈ wsX5_hem := by decide +kernel
  have hS : va_S (fAd bX ad) s.heap s.heap [] := va_S.rf
  have hl := lv_entry ([.ref (ad x0), .int x1, .int x2]) (n := 3) (by first | exact Nat.le_of_ble_eq_true rfl | simp [lg_sl, re_cat, cat_i, cat_l, cat_r])
  rw [show entryFrame m args 3 = entryFrame m ([.ref (ad x0), .int x1, .int x2] : List Value).toArray 3 by rw [ha], lg_entry_eq]
  generalize (lg_sl ([.ref (ad x0), .int x1, .int x2]) ++ List.replicate (3 - (lg_sl ([.ref (ad x0), .int x1, .int x2])).length) Slot.unset).toArray = ls at hl ⊢
  have hl : lv_has ls 3 [(0, .ref (ad x0)), (1, .int x1), (2, .int x2)] := by first | exact hl | simpa [lv_args, re_cat, cat_i, cat_l, cat_r] using hl
  unfold p_X5_hem at h
  refine lv_aload_n hx hb dX5_hem_0 rfl (lv_at hl 0 rfl) ?_
  refine lv_iload_n hx hb dX5_hem_1 rfl (lv_at hl 1 rfl) ?_
  refine f_i (kV (As := [.int x1]) (rest := []) (o := some x0) rfl ⟨hx, hb, hml, hown, hts⟩ (c_X5_isWoman l D cs ad x0 x1 s0 _ hk0) (cwV 1 hts gX5_hem_X5_isWoman rfl rfl rfl (by decide +kernel) ⟨Nat.le_of_ble_eq_true rfl, Nat.le_of_ble_eq_true rfl⟩) hE hP rfl rfl (w_4 hE hk0) h rfl hl.1 rfl (by first | exact lv_room (Nat.le_of_ble_eq_true rfl) | (refine lv_room ?_; simp [re_cat, cat_i, cat_l, cat_r])) dX5_hem_2 ⟨Nat.le_refl _, Nat.le_refl _⟩) hS (fun r2 s1 H locs h hP hS => ?_)
  refine lv_if_eq (tgt := 28) hx hb dX5_hem_5 (by decide) (fun c3 => ?_) (fun c3 => ?_)
  · replace h := h.1 c3
    refine lv_iconst (v := (-1)) hx hb dX5_hem_28 (by decide) ?_
    exact W.iret hx hb hr (fun t ht hW => ⟨⟨_, _, rfl, h, pw ht hP⟩, hS.F ht⟩) hS.2.2 dX5_hem_29
  · replace h := h.2 c3
    refine lv_aload_n hx hb dX5_hem_8 rfl (lv_at hl 0 rfl) ?_
    refine lv_iload_n hx hb dX5_hem_9 rfl (lv_at hl 2 rfl) ?_
    refine f_i (kV (As := [.int x2]) (rest := []) (o := some x0) rfl ⟨hx, hb, hml, hown, hts⟩ (c_X5_isPast l D cs ad x0 x2 s1 _ hk0) (cwV 1 hts gX5_hem_X5_isPast rfl rfl rfl (by decide +kernel) ⟨Nat.le_of_ble_eq_true rfl, Nat.le_of_ble_eq_true rfl⟩) hE hP rfl rfl (w_4 hE hk0) h rfl hl.1 rfl (by first | exact lv_room (Nat.le_of_ble_eq_true rfl) | (refine lv_room ?_; simp [re_cat, cat_i, cat_l, cat_r])) dX5_hem_10 ⟨Nat.le_refl _, Nat.le_refl _⟩) hS (fun r5 s4 H locs h hP hS => ?_)
    refine lv_if_eq (tgt := 28) hx hb dX5_hem_13 (by decide) (fun c6 => ?_) (fun c6 => ?_)
    · replace h := h.1 c6
      refine lv_iconst (v := (-1)) hx hb dX5_hem_28 (by decide) ?_
      exact W.iret hx hb hr (fun t ht hW => ⟨⟨_, _, rfl, h, pw ht hP⟩, hS.F ht⟩) hS.2.2 dX5_hem_29
    · replace h := h.2 c6
      refine lv_aload_n hx hb dX5_hem_16 rfl (lv_at hl 0 rfl) ?_
      refine va_get (ci := 4) (v := va_re ad (tX x0 3)) (C := RX5) (T := TX5) (N := 12) hx hb hts hi_X5 hown hE.1 hP x0 (w_4 hE hk0) rfl 3 (by decide) (hts (.fieldLink RX5 33 "HemLine" "now" "LHemLine$Delta;") (by decide +kernel)) (fun _ h9 => h9) rfl dX5_hem_17 ?_
      refine lv_iload_n hx hb dX5_hem_20 rfl (lv_at hl 1 rfl) ?_
      refine lv_iload_n hx hb dX5_hem_21 rfl (lv_at hl 2 rfl) ?_
      obtain ⟨k7, e8, q9, h⟩ := h
      refine f_i (kV (As := [.int x1, .int x2]) (rest := []) e8 ⟨hx, hb, hml, hown, hts⟩ (c_X0_hemOf l D cs ad k7 x1 x2 s4 _ q9) (cwV 2 hts gX5_hem_X0_hemOf rfl rfl rfl (by decide +kernel) ⟨Nat.le_of_ble_eq_true rfl, Nat.le_of_ble_eq_true rfl⟩) hE hP rfl rfl (w_0 hE q9) h rfl hl.1 rfl (by first | exact lv_room (Nat.le_of_ble_eq_true rfl) | (refine lv_room ?_; simp [re_cat, cat_i, cat_l, cat_r])) dX5_hem_22 ⟨Nat.le_refl _, Nat.le_refl _⟩) hS (fun r11 s10 H locs h hP hS => ?_)
      refine lv_goto (tgt := 29) hx hb dX5_hem_25 (by decide) ?_
      exact W.iret hx hb hr (fun t ht hW => ⟨⟨_, _, rfl, h, pw ht hP⟩, hS.F ht⟩) hS.2.2 dX5_hem_29
def p_X5_isHeight (x0 : Int32) (s : Sg) (Q : Int32 → Sg → Prop) : Prop := ((x0 < 0 → Q 0 s) ∧ (¬ x0 < 0 → ((20 < x0 → Q 0 s) ∧ (¬ 20 < x0 → Q 1 s))))
set_option maxHeartbeats 4000000 in
set_option maxRecDepth 100000 in
theorem c_X5_isHeight (l : Launch) (D : va_G) (cs : Cs) (ad : Nat → Nat) (x0 : Int32) (s0 : Sg) (Q : Int32 → Sg → Prop) : Met l yX5_isHeight wsX5_isHeight { frames := 0, cells := 0, slots := 0, locals := 0 } (Pc0 bX D cs ad [.int x0] s0 (p_X5_isHeight x0 s0 Q)) (QI bX D cs ad Q) 0 0 (fAd bX ad) := by
  refine Met.ofW (cc := cX5_isHeight) (maxL := 1) (ret := (some .boolean)) (by decide) rfl ?_
  intro p e s m args below meth c s₁ B0 hml hv
  obtain ⟨ha, hP, hE, h⟩ := hv
  have hx := B0.exec
  have hb := B0.bytes
  have hr := B0.returns
  have hts := atoms_spec (ws := wsX5_isHeight) B0.pre
  have hown : s.vm.findClass RX5 = some m.cls := findClass_of_methodNamed B0.named
  have hlocks := B0.notSynchronized
  have hS : va_S (fAd bX ad) s.heap s.heap [] := va_S.rf
  have hl := lv_entry ([.int x0]) (n := 1) (by first | exact Nat.le_of_ble_eq_true rfl | simp [lg_sl, re_cat, cat_i, cat_l, cat_r])
  rw [show entryFrame m args 1 = entryFrame m ([.int x0] : List Value).toArray 1 by rw [ha], lg_entry_eq]
  generalize (lg_sl ([.int x0]) ++ List.replicate (1 - (lg_sl ([.int x0])).length) Slot.unset).toArray = ls at hl ⊢
  have hl : lv_has ls 1 [(0, .int x0)] := by first | exact hl | simpa [lv_args, re_cat, cat_i, cat_l, cat_r] using hl
  unfold p_X5_isHeight at h
  refine lv_iload_n hx hb dX5_isHeight_0 rfl (lv_at hl 0 rfl) ?_
  refine lv_if_lt (tgt := 14) hx hb dX5_isHeight_1 (by decide) (fun c1 => ?_) (fun c1 => ?_)
  · replace h := h.1 c1
    refine lv_iconst (v := 0) hx hb dX5_isHeight_14 (by decide) ?_
    exact W.zret hx hb hr rfl (fun t ht hW => ⟨⟨_, _, rfl, h, pw ht hP⟩, hS.F ht⟩) hS.2.2 dX5_isHeight_15
  · replace h := h.2 c1
    refine lv_iload_n hx hb dX5_isHeight_4 rfl (lv_at hl 0 rfl) ?_
    refine lv_bipush (v := 20) hx hb dX5_isHeight_5 (by decide) ?_
    refine lv_icmp_gt (tgt := 14) hx hb dX5_isHeight_7 (by decide) (fun c2 => ?_) (fun c2 => ?_)
    · replace h := h.1 c2
      refine lv_iconst (v := 0) hx hb dX5_isHeight_14 (by decide) ?_
      exact W.zret hx hb hr rfl (fun t ht hW => ⟨⟨_, _, rfl, h, pw ht hP⟩, hS.F ht⟩) hS.2.2 dX5_isHeight_15
    · replace h := h.2 c2
      refine lv_iconst (v := 1) hx hb dX5_isHeight_10 (by decide) ?_
      refine lv_goto (tgt := 15) hx hb dX5_isHeight_11 (by decide) ?_
      exact W.zret hx hb hr rfl (fun t ht hW => ⟨⟨_, _, rfl, h, pw ht hP⟩, hS.F ht⟩) hS.2.2 dX5_isHeight_15
def p_X5_would (x0 : Nat) (x1 : Int32) (x2 : Int32) (s : Sg) (Q : Int32 → Sg → Prop) : Prop := p_X5_isWoman x0 x1 s (fun r2 s1 => ((r2 = 0 → Q ((-1)) s1) ∧ (¬ r2 = 0 → p_X5_isHeight x2 s1 (fun r5 s4 => ((r5 = 0 → Q ((-1)) s4) ∧ (¬ r5 = 0 → ∃ k7, tX x0 3 = some k7 ∧ kX k7 = 0 ∧ p_X5_item (tX k7 5) x1 s4 (fun r11 s10 => ∃ k12, tX x0 3 = some k12 ∧ kX k12 = 0 ∧ p_X0_hemIfNow k12 x1 x2 r11 s10 (fun r16 s15 => Q r16 s15))))))))
set_option maxHeartbeats 4000000 in
set_option maxRecDepth 100000 in
theorem c_X5_would (l : Launch) (D : va_G) (cs : Cs) (ad : Nat → Nat) (x0 : Nat) (x1 : Int32) (x2 : Int32) (s0 : Sg) (Q : Int32 → Sg → Prop) (hk0 : kX x0 = 4) : Met l yX5_would wsX5_would { frames := 4, cells := 0, slots := 0, locals := 87 } (Pc0 bX D cs ad [.ref (ad x0), .int x1, .int x2] s0 (p_X5_would x0 x1 x2 s0 Q)) (QI bX D cs ad Q) 0 0 (fAd bX ad) := by
  refine Met.ofW (cc := cX5_would) (maxL := 3) (ret := (some .int)) (by decide) rfl ?_
  intro p e s m args below meth c s₁ B0 hml hv
  obtain ⟨ha, hP, hE, h⟩ := hv
  have hx := B0.exec
  have hb := B0.bytes
  have hr := B0.returns
  have hts := atoms_spec (ws := wsX5_would) B0.pre
  have hown : s.vm.findClass RX5 = some m.cls := findClass_of_methodNamed B0.named
  have hlocks := B0.notSynchronized
  have hi_X0 : ∀ w ∈ u_ws RX0 TX0 15, w ∈ wsX5_would := by decide +kernel
  have hi_X5 : ∀ w ∈ u_ws RX5 TX5 12, w ∈ wsX5_would := by decide +kernel
  have hS : va_S (fAd bX ad) s.heap s.heap [] := va_S.rf
  have hl := lv_entry ([.ref (ad x0), .int x1, .int x2]) (n := 3) (by first | exact Nat.le_of_ble_eq_true rfl | simp [lg_sl, re_cat, cat_i, cat_l, cat_r])
  rw [show entryFrame m args 3 = entryFrame m ([.ref (ad x0), .int x1, .int x2] : List Value).toArray 3 by rw [ha], lg_entry_eq]
  generalize (lg_sl ([.ref (ad x0), .int x1, .int x2]) ++ List.replicate (3 - (lg_sl ([.ref (ad x0), .int x1, .int x2])).length) Slot.unset).toArray = ls at hl ⊢
  have hl : lv_has ls 3 [(0, .ref (ad x0)), (1, .int x1), (2, .int x2)] := by first | exact hl | simpa [lv_args, re_cat, cat_i, cat_l, cat_r] using hl
  unfold p_X5_would at h
  refine lv_aload_n hx hb dX5_would_0 rfl (lv_at hl 0 rfl) ?_
  refine lv_iload_n hx hb dX5_would_1 rfl (lv_at hl 1 rfl) ?_
  refine f_i (kV (As := [.int x1]) (rest := []) (o := some x0) rfl ⟨hx, hb, hml, hown, hts⟩ (c_X5_isWoman l D cs ad x0 x1 s0 _ hk0) (cwV 1 hts gX5_would_X5_isWoman rfl rfl rfl (by decide +kernel) ⟨Nat.le_of_ble_eq_true rfl, Nat.le_of_ble_eq_true rfl⟩) hE hP rfl rfl (w_4 hE hk0) h rfl hl.1 rfl (by first | exact lv_room (Nat.le_of_ble_eq_true rfl) | (refine lv_room ?_; simp [re_cat, cat_i, cat_l, cat_r])) dX5_would_2 ⟨Nat.le_refl _, Nat.le_refl _⟩) hS (fun r2 s1 H locs h hP hS => ?_)
  refine lv_if_eq (tgt := 38) hx hb dX5_would_5 (by decide) (fun c3 => ?_) (fun c3 => ?_)
  · replace h := h.1 c3
    refine lv_iconst (v := (-1)) hx hb dX5_would_38 (by decide) ?_
    exact W.iret hx hb hr (fun t ht hW => ⟨⟨_, _, rfl, h, pw ht hP⟩, hS.F ht⟩) hS.2.2 dX5_would_39
  · replace h := h.2 c3
    refine lv_iload_n hx hb dX5_would_8 rfl (lv_at hl 2 rfl) ?_
    refine f_i (kS (As := [.int x2]) (rest := []) ⟨hx, hb, hml, hown, hts⟩ (c_X5_isHeight l D cs ad x2 s1 _) (va_cwS 1 hts gX5_would_X5_isHeight rfl rfl rfl (by decide +kernel) ⟨Nat.le_of_ble_eq_true rfl, Nat.le_of_ble_eq_true rfl⟩) hE hP h rfl hl.1 rfl (by first | exact lv_room (Nat.le_of_ble_eq_true rfl) | (refine lv_room ?_; simp [re_cat, cat_i, cat_l, cat_r])) dX5_would_9 ⟨Nat.le_refl _, Nat.le_refl _⟩) hS (fun r5 s4 H locs h hP hS => ?_)
    refine lv_if_eq (tgt := 38) hx hb dX5_would_12 (by decide) (fun c6 => ?_) (fun c6 => ?_)
    · replace h := h.1 c6
      refine lv_iconst (v := (-1)) hx hb dX5_would_38 (by decide) ?_
      exact W.iret hx hb hr (fun t ht hW => ⟨⟨_, _, rfl, h, pw ht hP⟩, hS.F ht⟩) hS.2.2 dX5_would_39
    · replace h := h.2 c6
      refine lv_aload_n hx hb dX5_would_15 rfl (lv_at hl 0 rfl) ?_
      refine va_get (ci := 4) (v := va_re ad (tX x0 3)) (C := RX5) (T := TX5) (N := 12) hx hb hts hi_X5 hown hE.1 hP x0 (w_4 hE hk0) rfl 3 (by decide) (hts (.fieldLink RX5 33 "HemLine" "now" "LHemLine$Delta;") (by decide +kernel)) (fun _ h9 => h9) rfl dX5_would_16 ?_
      refine lv_iload_n hx hb dX5_would_19 rfl (lv_at hl 1 rfl) ?_
      refine lv_iload_n hx hb dX5_would_20 rfl (lv_at hl 2 rfl) ?_
      refine lv_aload_n hx hb dX5_would_21 rfl (lv_at hl 0 rfl) ?_
      refine va_get (ci := 4) (v := va_re ad (tX x0 3)) (C := RX5) (T := TX5) (N := 12) hx hb hts hi_X5 hown hE.1 hP x0 (w_4 hE hk0) rfl 3 (by decide) (hts (.fieldLink RX5 33 "HemLine" "now" "LHemLine$Delta;") (by decide +kernel)) (fun _ h9 => h9) rfl dX5_would_22 ?_
      obtain ⟨k7, e8, q9, h⟩ := h
      refine r_known (ad := ad) e8 ?_
      refine va_getN (ci := 0) (v := va_re ad (tX k7 5)) (C := RX0) (T := TX0) (N := 15) hx hb hts hi_X0 hown hE.1 hP k7 (w_0 hE q9) rfl 5 (by decide) ((hE.2.2.2.1 ("HemLine", 135, "HemLine$Delta", "kindOf", "[I", "HemLine") (by decide +kernel)).use rfl) (fun _ h9 => h9) rfl dX5_would_25 ?_
      refine lv_iload_n hx hb dX5_would_28 rfl (lv_at hl 1 rfl) ?_
      refine f_i (kS (As := [va_re ad (tX k7 5), .int x1]) (rest := [.int x2, .int x1, va_re ad (tX x0 3)]) ⟨hx, hb, hml, hown, hts⟩ (c_X5_item l D cs ad (tX k7 5) x1 s4 _) (va_cwS 2 hts gX5_would_X5_item rfl rfl rfl (by decide +kernel) ⟨Nat.le_of_ble_eq_true rfl, Nat.le_of_ble_eq_true rfl⟩) hE hP h rfl hl.1 rfl (by first | exact lv_room (Nat.le_of_ble_eq_true rfl) | (refine lv_room ?_; simp [re_cat, cat_i, cat_l, cat_r])) dX5_would_29 ⟨Nat.le_refl _, Nat.le_refl _⟩) hS (fun r11 s10 H locs h hP hS => ?_)
      obtain ⟨k12, e13, q14, h⟩ := h
      refine f_i (kV (As := [.int x1, .int x2, .int r11]) (rest := []) e13 ⟨hx, hb, hml, hown, hts⟩ (c_X0_hemIfNow l D cs ad k12 x1 x2 r11 s10 _ q14) (cwV 3 hts gX5_would_X0_hemIfNow rfl rfl rfl (by decide +kernel) ⟨Nat.le_of_ble_eq_true rfl, Nat.le_of_ble_eq_true rfl⟩) hE hP rfl rfl (w_0 hE q14) h rfl hl.1 rfl (by first | exact lv_room (Nat.le_of_ble_eq_true rfl) | (refine lv_room ?_; simp [re_cat, cat_i, cat_l, cat_r])) dX5_would_32 ⟨Nat.le_refl _, Nat.le_refl _⟩) hS (fun r16 s15 H locs h hP hS => ?_)
      refine lv_goto (tgt := 39) hx hb dX5_would_35 (by decide) ?_
      exact W.iret hx hb hr (fun t ht hW => ⟨⟨_, _, rfl, h, pw ht hP⟩, hS.F ht⟩) hS.2.2 dX5_would_39
def p_X5_flood (x0 : Nat) (x1 : Int32) (s : Sg) (Q : Int32 → Sg → Prop) : Prop := p_X5_isHeight x1 s (fun r2 s1 => ((r2 = 0 → Q ((-1)) s1) ∧ (¬ r2 = 0 → ∃ k4, tX x0 3 = some k4 ∧ kX k4 = 0 ∧ (((gI s1 k4 0) = 0 → Q ((-4)) s1) ∧ (¬ (gI s1 k4 0) = 0 → ∃ k8, tX x0 3 = some k8 ∧ kX k8 = 0 ∧ (((gI s1 k8 2) < 8 → ∃ k12, tX x0 3 = some k12 ∧ kX k12 = 0 ∧ (((gI s1 k12 3) < 40 → ∃ k16, tX x0 3 = some k16 ∧ kX k16 = 0 ∧ p_X0_doFlood k16 x1 s1 (fun s19 => ∃ k20, tX x0 3 = some k20 ∧ kX k20 = 0 ∧ p_X0_howManyWet k20 x1 s19 (fun r24 s23 => Q r24 s23))) ∧ (¬ (gI s1 k12 3) < 40 → Q ((-2)) s1))) ∧ (¬ (gI s1 k8 2) < 8 → Q ((-4)) s1)))))))
set_option maxHeartbeats 4000000 in
set_option maxRecDepth 100000 in
theorem c_X5_flood (l : Launch) (D : va_G) (cs : Cs) (ad : Nat → Nat) (x0 : Nat) (x1 : Int32) (s0 : Sg) (Q : Int32 → Sg → Prop) (hk0 : kX x0 = 4) : Met l yX5_flood wsX5_flood { frames := 4, cells := 0, slots := 0, locals := 87 } (Pc0 bX D cs ad [.ref (ad x0), .int x1] s0 (p_X5_flood x0 x1 s0 Q)) (QI bX D cs ad Q) 0 0 (fAd bX ad) := by
  refine Met.ofW (cc := cX5_flood) (maxL := 2) (ret := (some .int)) (by decide) rfl ?_
  intro p e s m args below meth c s₁ B0 hml hv
  obtain ⟨ha, hP, hE, h⟩ := hv
  have hx := B0.exec
  have hb := B0.bytes
  have hr := B0.returns
  have hts := atoms_spec (ws := wsX5_flood) B0.pre
  have hown : s.vm.findClass RX5 = some m.cls := findClass_of_methodNamed B0.named
  have hlocks := B0.notSynchronized
  have hi_X0 : ∀ w ∈ u_ws RX0 TX0 15, w ∈ wsX5_flood := by decide +kernel
  have hi_X5 : ∀ w ∈ u_ws RX5 TX5 12, w ∈ wsX5_flood := by decide +kernel
  have hS : va_S (fAd bX ad) s.heap s.heap [] := va_S.rf
  have hl := lv_entry ([.ref (ad x0), .int x1]) (n := 2) (by first | exact Nat.le_of_ble_eq_true rfl | simp [lg_sl, re_cat, cat_i, cat_l, cat_r])
  rw [show entryFrame m args 2 = entryFrame m ([.ref (ad x0), .int x1] : List Value).toArray 2 by rw [ha], lg_entry_eq]
  generalize (lg_sl ([.ref (ad x0), .int x1]) ++ List.replicate (2 - (lg_sl ([.ref (ad x0), .int x1])).length) Slot.unset).toArray = ls at hl ⊢
  have hl : lv_has ls 2 [(0, .ref (ad x0)), (1, .int x1)] := by first | exact hl | simpa [lv_args, re_cat, cat_i, cat_l, cat_r] using hl
  unfold p_X5_flood at h
  refine lv_iload_n hx hb dX5_flood_0 rfl (lv_at hl 1 rfl) ?_
  refine f_i (kS (As := [.int x1]) (rest := []) ⟨hx, hb, hml, hown, hts⟩ (c_X5_isHeight l D cs ad x1 s0 _) (va_cwS 1 hts gX5_flood_X5_isHeight rfl rfl rfl (by decide +kernel) ⟨Nat.le_of_ble_eq_true rfl, Nat.le_of_ble_eq_true rfl⟩) hE hP h rfl hl.1 rfl (by first | exact lv_room (Nat.le_of_ble_eq_true rfl) | (refine lv_room ?_; simp [re_cat, cat_i, cat_l, cat_r])) dX5_flood_1 ⟨Nat.le_refl _, Nat.le_refl _⟩) hS (fun r2 s1 H locs h hP hS => ?_)
  refine lv_if_ne (tgt := 9) hx hb dX5_flood_4 (by decide) (fun c3 => ?_) (fun c3 => ?_)
  · replace h := h.2 c3
    refine lv_aload_n hx hb dX5_flood_9 rfl (lv_at hl 0 rfl) ?_
    refine va_get (ci := 4) (v := va_re ad (tX x0 3)) (C := RX5) (T := TX5) (N := 12) hx hb hts hi_X5 hown hE.1 hP x0 (w_4 hE hk0) rfl 3 (by decide) (hts (.fieldLink RX5 33 "HemLine" "now" "LHemLine$Delta;") (by decide +kernel)) (fun _ h9 => h9) rfl dX5_flood_10 ?_
    obtain ⟨k4, e5, q6, h⟩ := h
    refine r_known (ad := ad) e5 ?_
    refine va_getN (ci := 0) (v := .int (gI s1 k4 0)) (C := RX0) (T := TX0) (N := 15) hx hb hts hi_X0 hown hE.1 hP k4 (w_0 hE q6) rfl 0 (by decide) ((hE.2.2.2.1 ("HemLine", 126, "HemLine$Delta", "women", "I", "HemLine") (by decide +kernel)).use rfl) (fun _ h9 => h9) rfl dX5_flood_13 ?_
    refine lv_if_eq (tgt := 31) hx hb dX5_flood_16 (by decide) (fun c7 => ?_) (fun c7 => ?_)
    · replace h := h.1 c7
      refine lv_bipush (v := (-4)) hx hb dX5_flood_31 (by decide) ?_
      exact W.iret hx hb hr (fun t ht hW => ⟨⟨_, _, rfl, h, pw ht hP⟩, hS.F ht⟩) hS.2.2 dX5_flood_33
    · replace h := h.2 c7
      refine lv_aload_n hx hb dX5_flood_19 rfl (lv_at hl 0 rfl) ?_
      refine va_get (ci := 4) (v := va_re ad (tX x0 3)) (C := RX5) (T := TX5) (N := 12) hx hb hts hi_X5 hown hE.1 hP x0 (w_4 hE hk0) rfl 3 (by decide) (hts (.fieldLink RX5 33 "HemLine" "now" "LHemLine$Delta;") (by decide +kernel)) (fun _ h9 => h9) rfl dX5_flood_20 ?_
      obtain ⟨k8, e9, q10, h⟩ := h
      refine r_known (ad := ad) e9 ?_
      refine va_getN (ci := 0) (v := .int (gI s1 k8 2)) (C := RX0) (T := TX0) (N := 15) hx hb hts hi_X0 hown hE.1 hP k8 (w_0 hE q10) rfl 2 (by decide) ((hE.2.2.2.1 ("HemLine", 148, "HemLine$Delta", "years", "I", "HemLine") (by decide +kernel)).use rfl) (fun _ h9 => h9) rfl dX5_flood_23 ?_
      refine lv_bipush (v := 8) hx hb dX5_flood_26 (by decide) ?_
      refine lv_icmp_lt (tgt := 34) hx hb dX5_flood_28 (by decide) (fun c11 => ?_) (fun c11 => ?_)
      · replace h := h.1 c11
        refine lv_aload_n hx hb dX5_flood_34 rfl (lv_at hl 0 rfl) ?_
        refine va_get (ci := 4) (v := va_re ad (tX x0 3)) (C := RX5) (T := TX5) (N := 12) hx hb hts hi_X5 hown hE.1 hP x0 (w_4 hE hk0) rfl 3 (by decide) (hts (.fieldLink RX5 33 "HemLine" "now" "LHemLine$Delta;") (by decide +kernel)) (fun _ h9 => h9) rfl dX5_flood_35 ?_
        obtain ⟨k12, e13, q14, h⟩ := h
        refine r_known (ad := ad) e13 ?_
        refine va_getN (ci := 0) (v := .int (gI s1 k12 3)) (C := RX0) (T := TX0) (N := 15) hx hb hts hi_X0 hown hE.1 hP k12 (w_0 hE q14) rfl 3 (by decide) ((hE.2.2.2.1 ("HemLine", 170, "HemLine$Delta", "deeds", "I", "HemLine") (by decide +kernel)).use rfl) (fun _ h9 => h9) rfl dX5_flood_38 ?_
        refine lv_bipush (v := 40) hx hb dX5_flood_41 (by decide) ?_
        refine lv_icmp_lt (tgt := 49) hx hb dX5_flood_43 (by decide) (fun c15 => ?_) (fun c15 => ?_)
        · replace h := h.1 c15
          refine lv_aload_n hx hb dX5_flood_49 rfl (lv_at hl 0 rfl) ?_
          refine va_get (ci := 4) (v := va_re ad (tX x0 3)) (C := RX5) (T := TX5) (N := 12) hx hb hts hi_X5 hown hE.1 hP x0 (w_4 hE hk0) rfl 3 (by decide) (hts (.fieldLink RX5 33 "HemLine" "now" "LHemLine$Delta;") (by decide +kernel)) (fun _ h9 => h9) rfl dX5_flood_50 ?_
          refine lv_iload_n hx hb dX5_flood_53 rfl (lv_at hl 1 rfl) ?_
          obtain ⟨k16, e17, q18, h⟩ := h
          refine f_v (kV (As := [.int x1]) (rest := []) e17 ⟨hx, hb, hml, hown, hts⟩ (c_X0_doFlood l D cs ad k16 x1 s1 _ q18) (cwV 1 hts gX5_flood_X0_doFlood rfl rfl rfl (by decide +kernel) ⟨Nat.le_of_ble_eq_true rfl, Nat.le_of_ble_eq_true rfl⟩) hE hP rfl rfl (w_0 hE q18) h rfl hl.1 rfl (by first | exact lv_room (Nat.le_of_ble_eq_true rfl) | (refine lv_room ?_; simp [re_cat, cat_i, cat_l, cat_r])) dX5_flood_54 ⟨Nat.le_refl _, Nat.le_refl _⟩) hS (fun s19 H locs h hP hS => ?_)
          refine lv_aload_n hx hb dX5_flood_57 rfl (lv_at hl 0 rfl) ?_
          refine va_get (ci := 4) (v := va_re ad (tX x0 3)) (C := RX5) (T := TX5) (N := 12) hx hb hts hi_X5 hown hE.1 hP x0 (w_4 hE hk0) rfl 3 (by decide) (hts (.fieldLink RX5 33 "HemLine" "now" "LHemLine$Delta;") (by decide +kernel)) (fun _ h9 => h9) rfl dX5_flood_58 ?_
          refine lv_iload_n hx hb dX5_flood_61 rfl (lv_at hl 1 rfl) ?_
          obtain ⟨k20, e21, q22, h⟩ := h
          refine f_i (kV (As := [.int x1]) (rest := []) e21 ⟨hx, hb, hml, hown, hts⟩ (c_X0_howManyWet l D cs ad k20 x1 s19 _ q22) (cwV 1 hts gX5_flood_X0_howManyWet rfl rfl rfl (by decide +kernel) ⟨Nat.le_of_ble_eq_true rfl, Nat.le_of_ble_eq_true rfl⟩) hE hP rfl rfl (w_0 hE q22) h rfl hl.1 rfl (by first | exact lv_room (Nat.le_of_ble_eq_true rfl) | (refine lv_room ?_; simp [re_cat, cat_i, cat_l, cat_r])) dX5_flood_62 ⟨Nat.le_refl _, Nat.le_refl _⟩) hS (fun r24 s23 H locs h hP hS => ?_)
          exact W.iret hx hb hr (fun t ht hW => ⟨⟨_, _, rfl, h, pw ht hP⟩, hS.F ht⟩) hS.2.2 dX5_flood_65
        · replace h := h.2 c15
          refine lv_bipush (v := (-2)) hx hb dX5_flood_46 (by decide) ?_
          exact W.iret hx hb hr (fun t ht hW => ⟨⟨_, _, rfl, h, pw ht hP⟩, hS.F ht⟩) hS.2.2 dX5_flood_48
      · replace h := h.2 c11
        refine lv_bipush (v := (-4)) hx hb dX5_flood_31 (by decide) ?_
        exact W.iret hx hb hr (fun t ht hW => ⟨⟨_, _, rfl, h, pw ht hP⟩, hS.F ht⟩) hS.2.2 dX5_flood_33
  · replace h := h.1 c3
    refine lv_iconst (v := (-1)) hx hb dX5_flood_7 (by decide) ?_
    exact W.iret hx hb hr (fun t ht hW => ⟨⟨_, _, rfl, h, pw ht hP⟩, hS.F ht⟩) hS.2.2 dX5_flood_8
def p_X5_isPlace (x0 : Int32) (s : Sg) (Q : Int32 → Sg → Prop) : Prop := ((x0 < 0 → Q 0 s) ∧ (¬ x0 < 0 → ((6 ≤ x0 → Q 0 s) ∧ (¬ 6 ≤ x0 → Q 1 s))))
set_option maxHeartbeats 4000000 in
set_option maxRecDepth 100000 in
theorem c_X5_isPlace (l : Launch) (D : va_G) (cs : Cs) (ad : Nat → Nat) (x0 : Int32) (s0 : Sg) (Q : Int32 → Sg → Prop) : Met l yX5_isPlace wsX5_isPlace { frames := 0, cells := 0, slots := 0, locals := 0 } (Pc0 bX D cs ad [.int x0] s0 (p_X5_isPlace x0 s0 Q)) (QI bX D cs ad Q) 0 0 (fAd bX ad) := by
  refine Met.ofW (cc := cX5_isPlace) (maxL := 1) (ret := (some .boolean)) (by decide) rfl ?_
  intro p e s m args below meth c s₁ B0 hml hv
  obtain ⟨ha, hP, hE, h⟩ := hv
  have hx := B0.exec
  have hb := B0.bytes
  have hr := B0.returns
  have hts := atoms_spec (ws := wsX5_isPlace) B0.pre
  have hown : s.vm.findClass RX5 = some m.cls := findClass_of_methodNamed B0.named
  have hlocks := B0.notSynchronized
  have hS : va_S (fAd bX ad) s.heap s.heap [] := va_S.rf
  have hl := lv_entry ([.int x0]) (n := 1) (by first | exact Nat.le_of_ble_eq_true rfl | simp [lg_sl, re_cat, cat_i, cat_l, cat_r])
  rw [show entryFrame m args 1 = entryFrame m ([.int x0] : List Value).toArray 1 by rw [ha], lg_entry_eq]
  generalize (lg_sl ([.int x0]) ++ List.replicate (1 - (lg_sl ([.int x0])).length) Slot.unset).toArray = ls at hl ⊢
  have hl : lv_has ls 1 [(0, .int x0)] := by first | exact hl | simpa [lv_args, re_cat, cat_i, cat_l, cat_r] using hl
  unfold p_X5_isPlace at h
  refine lv_iload_n hx hb dX5_isPlace_0 rfl (lv_at hl 0 rfl) ?_
  refine lv_if_lt (tgt := 14) hx hb dX5_isPlace_1 (by decide) (fun c1 => ?_) (fun c1 => ?_)
  · replace h := h.1 c1
    refine lv_iconst (v := 0) hx hb dX5_isPlace_14 (by decide) ?_
    exact W.zret hx hb hr rfl (fun t ht hW => ⟨⟨_, _, rfl, h, pw ht hP⟩, hS.F ht⟩) hS.2.2 dX5_isPlace_15
  · replace h := h.2 c1
    refine lv_iload_n hx hb dX5_isPlace_4 rfl (lv_at hl 0 rfl) ?_
    refine lv_bipush (v := 6) hx hb dX5_isPlace_5 (by decide) ?_
    refine lv_icmp_ge (tgt := 14) hx hb dX5_isPlace_7 (by decide) (fun c2 => ?_) (fun c2 => ?_)
    · replace h := h.1 c2
      refine lv_iconst (v := 0) hx hb dX5_isPlace_14 (by decide) ?_
      exact W.zret hx hb hr rfl (fun t ht hW => ⟨⟨_, _, rfl, h, pw ht hP⟩, hS.F ht⟩) hS.2.2 dX5_isPlace_15
    · replace h := h.2 c2
      refine lv_iconst (v := 1) hx hb dX5_isPlace_10 (by decide) ?_
      refine lv_goto (tgt := 15) hx hb dX5_isPlace_11 (by decide) ?_
      exact W.zret hx hb hr rfl (fun t ht hW => ⟨⟨_, _, rfl, h, pw ht hP⟩, hS.F ht⟩) hS.2.2 dX5_isPlace_15
def p_X5_move (x0 : Nat) (x1 : Int32) (x2 : Int32) (s : Sg) (Q : Int32 → Sg → Prop) : Prop := p_X5_isWoman x0 x1 s (fun r2 s1 => ((r2 = 0 → Q ((-1)) s1) ∧ (¬ r2 = 0 → p_X5_isPlace x2 s1 (fun r5 s4 => ((r5 = 0 → Q ((-1)) s4) ∧ (¬ r5 = 0 → ∃ k7, tX x0 3 = some k7 ∧ kX k7 = 0 ∧ p_X5_item (tX k7 6) x1 s4 (fun r11 s10 => ((r11 = x2 → Q ((-4)) s10) ∧ (¬ r11 = x2 → ∃ k13, tX x0 3 = some k13 ∧ kX k13 = 0 ∧ (((gI s10 k13 3) < 40 → ∃ k17, tX x0 3 = some k17 ∧ kX k17 = 0 ∧ p_X0_doMove k17 x1 x2 s10 (fun s20 => Q r11 s20)) ∧ (¬ (gI s10 k13 3) < 40 → Q ((-2)) s10)))))))))))
set_option maxHeartbeats 4000000 in
set_option maxRecDepth 100000 in
theorem c_X5_move (l : Launch) (D : va_G) (cs : Cs) (ad : Nat → Nat) (x0 : Nat) (x1 : Int32) (x2 : Int32) (s0 : Sg) (Q : Int32 → Sg → Prop) (hk0 : kX x0 = 4) : Met l yX5_move wsX5_move { frames := 3, cells := 0, slots := 0, locals := 67 } (Pc0 bX D cs ad [.ref (ad x0), .int x1, .int x2] s0 (p_X5_move x0 x1 x2 s0 Q)) (QI bX D cs ad Q) 0 0 (fAd bX ad) := by
  refine Met.ofW (cc := cX5_move) (maxL := 4) (ret := (some .int)) (by decide) rfl ?_
  intro p e s m args below meth c s₁ B0 hml hv
  obtain ⟨ha, hP, hE, h⟩ := hv
  have hx := B0.exec
  have hb := B0.bytes
  have hr := B0.returns
  have hts := atoms_spec (ws := wsX5_move) B0.pre
  have hown : s.vm.findClass RX5 = some m.cls := findClass_of_methodNamed B0.named
  have hlocks := B0.notSynchronized
  have hi_X0 : ∀ w ∈ u_ws RX0 TX0 15, w ∈ wsX5_move := by decide +kernel
  have hi_X5 : ∀ w ∈ u_ws RX5 TX5 12, w ∈ wsX5_move := by decide +kernel
  have hS : va_S (fAd bX ad) s.heap s.heap [] := va_S.rf
  have hl := lv_entry ([.ref (ad x0), .int x1, .int x2]) (n := 4) (by first | exact Nat.le_of_ble_eq_true rfl | simp [lg_sl, re_cat, cat_i, cat_l, cat_r])
  rw [show entryFrame m args 4 = entryFrame m ([.ref (ad x0), .int x1, .int x2] : List Value).toArray 4 by rw [ha], lg_entry_eq]
  generalize (lg_sl ([.ref (ad x0), .int x1, .int x2]) ++ List.replicate (4 - (lg_sl ([.ref (ad x0), .int x1, .int x2])).length) Slot.unset).toArray = ls at hl ⊢
  have hl : lv_has ls 4 [(0, .ref (ad x0)), (1, .int x1), (2, .int x2)] := by first | exact hl | simpa [lv_args, re_cat, cat_i, cat_l, cat_r] using hl
  unfold p_X5_move at h
  refine lv_aload_n hx hb dX5_move_0 rfl (lv_at hl 0 rfl) ?_
  refine lv_iload_n hx hb dX5_move_1 rfl (lv_at hl 1 rfl) ?_
  refine f_i (kV (As := [.int x1]) (rest := []) (o := some x0) rfl ⟨hx, hb, hml, hown, hts⟩ (c_X5_isWoman l D cs ad x0 x1 s0 _ hk0) (cwV 1 hts gX5_move_X5_isWoman rfl rfl rfl (by decide +kernel) ⟨Nat.le_of_ble_eq_true rfl, Nat.le_of_ble_eq_true rfl⟩) hE hP rfl rfl (w_4 hE hk0) h rfl hl.1 rfl (by first | exact lv_room (Nat.le_of_ble_eq_true rfl) | (refine lv_room ?_; simp [re_cat, cat_i, cat_l, cat_r])) dX5_move_2 ⟨Nat.le_refl _, Nat.le_refl _⟩) hS (fun r2 s1 H locs h hP hS => ?_)
  refine lv_if_eq (tgt := 15) hx hb dX5_move_5 (by decide) (fun c3 => ?_) (fun c3 => ?_)
  · replace h := h.1 c3
    refine lv_iconst (v := (-1)) hx hb dX5_move_15 (by decide) ?_
    exact W.iret hx hb hr (fun t ht hW => ⟨⟨_, _, rfl, h, pw ht hP⟩, hS.F ht⟩) hS.2.2 dX5_move_16
  · replace h := h.2 c3
    refine lv_iload_n hx hb dX5_move_8 rfl (lv_at hl 2 rfl) ?_
    refine f_i (kS (As := [.int x2]) (rest := []) ⟨hx, hb, hml, hown, hts⟩ (c_X5_isPlace l D cs ad x2 s1 _) (va_cwS 1 hts gX5_move_X5_isPlace rfl rfl rfl (by decide +kernel) ⟨Nat.le_of_ble_eq_true rfl, Nat.le_of_ble_eq_true rfl⟩) hE hP h rfl hl.1 rfl (by first | exact lv_room (Nat.le_of_ble_eq_true rfl) | (refine lv_room ?_; simp [re_cat, cat_i, cat_l, cat_r])) dX5_move_9 ⟨Nat.le_refl _, Nat.le_refl _⟩) hS (fun r5 s4 H locs h hP hS => ?_)
    refine lv_if_ne (tgt := 17) hx hb dX5_move_12 (by decide) (fun c6 => ?_) (fun c6 => ?_)
    · replace h := h.2 c6
      refine lv_aload_n hx hb dX5_move_17 rfl (lv_at hl 0 rfl) ?_
      refine va_get (ci := 4) (v := va_re ad (tX x0 3)) (C := RX5) (T := TX5) (N := 12) hx hb hts hi_X5 hown hE.1 hP x0 (w_4 hE hk0) rfl 3 (by decide) (hts (.fieldLink RX5 33 "HemLine" "now" "LHemLine$Delta;") (by decide +kernel)) (fun _ h9 => h9) rfl dX5_move_18 ?_
      obtain ⟨k7, e8, q9, h⟩ := h
      refine r_known (ad := ad) e8 ?_
      refine va_getN (ci := 0) (v := va_re ad (tX k7 6)) (C := RX0) (T := TX0) (N := 15) hx hb hts hi_X0 hown hE.1 hP k7 (w_0 hE q9) rfl 6 (by decide) ((hE.2.2.2.1 ("HemLine", 182, "HemLine$Delta", "placeOf", "[I", "HemLine") (by decide +kernel)).use rfl) (fun _ h9 => h9) rfl dX5_move_21 ?_
      refine lv_iload_n hx hb dX5_move_24 rfl (lv_at hl 1 rfl) ?_
      refine f_i (kS (As := [va_re ad (tX k7 6), .int x1]) (rest := []) ⟨hx, hb, hml, hown, hts⟩ (c_X5_item l D cs ad (tX k7 6) x1 s4 _) (va_cwS 2 hts gX5_move_X5_item rfl rfl rfl (by decide +kernel) ⟨Nat.le_of_ble_eq_true rfl, Nat.le_of_ble_eq_true rfl⟩) hE hP h rfl hl.1 rfl (by first | exact lv_room (Nat.le_of_ble_eq_true rfl) | (refine lv_room ?_; simp [re_cat, cat_i, cat_l, cat_r])) dX5_move_25 ⟨Nat.le_refl _, Nat.le_refl _⟩) hS (fun r11 s10 H locs h hP hS => ?_)
      refine lv_istore_n (i := 3) (lv' := [(3, .int r11), (0, .ref (ad x0)), (1, .int x1), (2, .int x2)]) hx hb dX5_move_28 rfl hl (by decide) (by first | rfl | simp [re_cat, cat_i, cat_l, cat_r]) (fun ls hl => ?_)
      refine lv_iload_n hx hb dX5_move_29 rfl (lv_at hl 0 rfl) ?_
      refine lv_iload_n hx hb dX5_move_30 rfl (lv_at hl 3 rfl) ?_
      refine lv_icmp_ne (tgt := 37) hx hb dX5_move_31 (by decide) (fun c12 => ?_) (fun c12 => ?_)
      · replace h := h.2 c12
        refine lv_aload_n hx hb dX5_move_37 rfl (lv_at hl 1 rfl) ?_
        refine va_get (ci := 4) (v := va_re ad (tX x0 3)) (C := RX5) (T := TX5) (N := 12) hx hb hts hi_X5 hown hE.1 hP x0 (w_4 hE hk0) rfl 3 (by decide) (hts (.fieldLink RX5 33 "HemLine" "now" "LHemLine$Delta;") (by decide +kernel)) (fun _ h9 => h9) rfl dX5_move_38 ?_
        obtain ⟨k13, e14, q15, h⟩ := h
        refine r_known (ad := ad) e14 ?_
        refine va_getN (ci := 0) (v := .int (gI s10 k13 3)) (C := RX0) (T := TX0) (N := 15) hx hb hts hi_X0 hown hE.1 hP k13 (w_0 hE q15) rfl 3 (by decide) ((hE.2.2.2.1 ("HemLine", 170, "HemLine$Delta", "deeds", "I", "HemLine") (by decide +kernel)).use rfl) (fun _ h9 => h9) rfl dX5_move_41 ?_
        refine lv_bipush (v := 40) hx hb dX5_move_44 (by decide) ?_
        refine lv_icmp_lt (tgt := 52) hx hb dX5_move_46 (by decide) (fun c16 => ?_) (fun c16 => ?_)
        · replace h := h.1 c16
          refine lv_aload_n hx hb dX5_move_52 rfl (lv_at hl 1 rfl) ?_
          refine va_get (ci := 4) (v := va_re ad (tX x0 3)) (C := RX5) (T := TX5) (N := 12) hx hb hts hi_X5 hown hE.1 hP x0 (w_4 hE hk0) rfl 3 (by decide) (hts (.fieldLink RX5 33 "HemLine" "now" "LHemLine$Delta;") (by decide +kernel)) (fun _ h9 => h9) rfl dX5_move_53 ?_
          refine lv_iload_n hx hb dX5_move_56 rfl (lv_at hl 2 rfl) ?_
          refine lv_iload_n hx hb dX5_move_57 rfl (lv_at hl 3 rfl) ?_
          obtain ⟨k17, e18, q19, h⟩ := h
          refine f_v (kV (As := [.int x1, .int x2]) (rest := []) e18 ⟨hx, hb, hml, hown, hts⟩ (c_X0_doMove l D cs ad k17 x1 x2 s10 _ q19) (cwV 2 hts gX5_move_X0_doMove rfl rfl rfl (by decide +kernel) ⟨Nat.le_of_ble_eq_true rfl, Nat.le_of_ble_eq_true rfl⟩) hE hP rfl rfl (w_0 hE q19) h rfl hl.1 rfl (by first | exact lv_room (Nat.le_of_ble_eq_true rfl) | (refine lv_room ?_; simp [re_cat, cat_i, cat_l, cat_r])) dX5_move_58 ⟨Nat.le_refl _, Nat.le_refl _⟩) hS (fun s20 H locs h hP hS => ?_)
          refine lv_iload_n hx hb dX5_move_61 rfl (lv_at hl 0 rfl) ?_
          exact W.iret hx hb hr (fun t ht hW => ⟨⟨_, _, rfl, h, pw ht hP⟩, hS.F ht⟩) hS.2.2 dX5_move_62
        · replace h := h.2 c16
          refine lv_bipush (v := (-2)) hx hb dX5_move_49 (by decide) ?_
          exact W.iret hx hb hr (fun t ht hW => ⟨⟨_, _, rfl, h, pw ht hP⟩, hS.F ht⟩) hS.2.2 dX5_move_51
      · replace h := h.1 c12
        refine lv_bipush (v := (-4)) hx hb dX5_move_34 (by decide) ?_
        exact W.iret hx hb hr (fun t ht hW => ⟨⟨_, _, rfl, h, pw ht hP⟩, hS.F ht⟩) hS.2.2 dX5_move_36
    · replace h := h.1 c6
      refine lv_iconst (v := (-1)) hx hb dX5_move_15 (by decide) ?_
      exact W.iret hx hb hr (fun t ht hW => ⟨⟨_, _, rfl, h, pw ht hP⟩, hS.F ht⟩) hS.2.2 dX5_move_16
def p_X5_dyke (x0 : Nat) (x1 : Int32) (s : Sg) (Q : Int32 → Sg → Prop) : Prop := p_X5_isPlace x1 s (fun r2 s1 => ((r2 = 0 → Q ((-1)) s1) ∧ (¬ r2 = 0 → ∃ k4, tX x0 3 = some k4 ∧ kX k4 = 0 ∧ (((gI s1 k4 0) = 0 → Q ((-4)) s1) ∧ (¬ (gI s1 k4 0) = 0 → ∃ k8, tX x0 3 = some k8 ∧ kX k8 = 0 ∧ p_X5_item (tX k8 4) x1 s1 (fun r12 s11 => ((r12 < 9 → ∃ k14, tX x0 3 = some k14 ∧ kX k14 = 0 ∧ ((0 < (gI s11 k14 1) → ∃ k18, tX x0 3 = some k18 ∧ kX k18 = 0 ∧ (((gI s11 k18 3) < 40 → ∃ k22, tX x0 3 = some k22 ∧ kX k22 = 0 ∧ p_X0_doDyke k22 x1 s11 (fun s25 => ∃ k26, tX x0 3 = some k26 ∧ kX k26 = 0 ∧ p_X5_item (tX k26 4) x1 s25 (fun r30 s29 => Q r30 s29))) ∧ (¬ (gI s11 k18 3) < 40 → Q ((-2)) s11))) ∧ (¬ 0 < (gI s11 k14 1) → Q ((-6)) s11))) ∧ (¬ r12 < 9 → Q ((-4)) s11))))))))
set_option maxHeartbeats 4000000 in
set_option maxRecDepth 100000 in
theorem c_X5_dyke (l : Launch) (D : va_G) (cs : Cs) (ad : Nat → Nat) (x0 : Nat) (x1 : Int32) (s0 : Sg) (Q : Int32 → Sg → Prop) (hk0 : kX x0 = 4) : Met l yX5_dyke wsX5_dyke { frames := 3, cells := 0, slots := 0, locals := 66 } (Pc0 bX D cs ad [.ref (ad x0), .int x1] s0 (p_X5_dyke x0 x1 s0 Q)) (QI bX D cs ad Q) 0 0 (fAd bX ad) := by
  refine Met.ofW (cc := cX5_dyke) (maxL := 2) (ret := (some .int)) (by decide) rfl ?_
  intro p e s m args below meth c s₁ B0 hml hv
  obtain ⟨ha, hP, hE, h⟩ := hv
  have hx := B0.exec
  have hb := B0.bytes
  have hr := B0.returns
  have hts := atoms_spec (ws := wsX5_dyke) B0.pre
  have hown : s.vm.findClass RX5 = some m.cls := findClass_of_methodNamed B0.named
  have hlocks := B0.notSynchronized
  have hi_X0 : ∀ w ∈ u_ws RX0 TX0 15, w ∈ wsX5_dyke := by decide +kernel
  have hi_X5 : ∀ w ∈ u_ws RX5 TX5 12, w ∈ wsX5_dyke := by decide +kernel
  have hS : va_S (fAd bX ad) s.heap s.heap [] := va_S.rf
  have hl := lv_entry ([.ref (ad x0), .int x1]) (n := 2) (by first | exact Nat.le_of_ble_eq_true rfl | simp [lg_sl, re_cat, cat_i, cat_l, cat_r])
  rw [show entryFrame m args 2 = entryFrame m ([.ref (ad x0), .int x1] : List Value).toArray 2 by rw [ha], lg_entry_eq]
  generalize (lg_sl ([.ref (ad x0), .int x1]) ++ List.replicate (2 - (lg_sl ([.ref (ad x0), .int x1])).length) Slot.unset).toArray = ls at hl ⊢
  have hl : lv_has ls 2 [(0, .ref (ad x0)), (1, .int x1)] := by first | exact hl | simpa [lv_args, re_cat, cat_i, cat_l, cat_r] using hl
  unfold p_X5_dyke at h
  refine lv_iload_n hx hb dX5_dyke_0 rfl (lv_at hl 1 rfl) ?_
  refine f_i (kS (As := [.int x1]) (rest := []) ⟨hx, hb, hml, hown, hts⟩ (c_X5_isPlace l D cs ad x1 s0 _) (va_cwS 1 hts gX5_dyke_X5_isPlace rfl rfl rfl (by decide +kernel) ⟨Nat.le_of_ble_eq_true rfl, Nat.le_of_ble_eq_true rfl⟩) hE hP h rfl hl.1 rfl (by first | exact lv_room (Nat.le_of_ble_eq_true rfl) | (refine lv_room ?_; simp [re_cat, cat_i, cat_l, cat_r])) dX5_dyke_1 ⟨Nat.le_refl _, Nat.le_refl _⟩) hS (fun r2 s1 H locs h hP hS => ?_)
  refine lv_if_ne (tgt := 9) hx hb dX5_dyke_4 (by decide) (fun c3 => ?_) (fun c3 => ?_)
  · replace h := h.2 c3
    refine lv_aload_n hx hb dX5_dyke_9 rfl (lv_at hl 0 rfl) ?_
    refine va_get (ci := 4) (v := va_re ad (tX x0 3)) (C := RX5) (T := TX5) (N := 12) hx hb hts hi_X5 hown hE.1 hP x0 (w_4 hE hk0) rfl 3 (by decide) (hts (.fieldLink RX5 33 "HemLine" "now" "LHemLine$Delta;") (by decide +kernel)) (fun _ h9 => h9) rfl dX5_dyke_10 ?_
    obtain ⟨k4, e5, q6, h⟩ := h
    refine r_known (ad := ad) e5 ?_
    refine va_getN (ci := 0) (v := .int (gI s1 k4 0)) (C := RX0) (T := TX0) (N := 15) hx hb hts hi_X0 hown hE.1 hP k4 (w_0 hE q6) rfl 0 (by decide) ((hE.2.2.2.1 ("HemLine", 126, "HemLine$Delta", "women", "I", "HemLine") (by decide +kernel)).use rfl) (fun _ h9 => h9) rfl dX5_dyke_13 ?_
    refine lv_if_eq (tgt := 35) hx hb dX5_dyke_16 (by decide) (fun c7 => ?_) (fun c7 => ?_)
    · replace h := h.1 c7
      refine lv_bipush (v := (-4)) hx hb dX5_dyke_35 (by decide) ?_
      exact W.iret hx hb hr (fun t ht hW => ⟨⟨_, _, rfl, h, pw ht hP⟩, hS.F ht⟩) hS.2.2 dX5_dyke_37
    · replace h := h.2 c7
      refine lv_aload_n hx hb dX5_dyke_19 rfl (lv_at hl 0 rfl) ?_
      refine va_get (ci := 4) (v := va_re ad (tX x0 3)) (C := RX5) (T := TX5) (N := 12) hx hb hts hi_X5 hown hE.1 hP x0 (w_4 hE hk0) rfl 3 (by decide) (hts (.fieldLink RX5 33 "HemLine" "now" "LHemLine$Delta;") (by decide +kernel)) (fun _ h9 => h9) rfl dX5_dyke_20 ?_
      obtain ⟨k8, e9, q10, h⟩ := h
      refine r_known (ad := ad) e9 ?_
      refine va_getN (ci := 0) (v := va_re ad (tX k8 4)) (C := RX0) (T := TX0) (N := 15) hx hb hts hi_X0 hown hE.1 hP k8 (w_0 hE q10) rfl 4 (by decide) ((hE.2.2.2.1 ("HemLine", 189, "HemLine$Delta", "ground", "[I", "HemLine") (by decide +kernel)).use rfl) (fun _ h9 => h9) rfl dX5_dyke_23 ?_
      refine lv_iload_n hx hb dX5_dyke_26 rfl (lv_at hl 1 rfl) ?_
      refine f_i (kS (As := [va_re ad (tX k8 4), .int x1]) (rest := []) ⟨hx, hb, hml, hown, hts⟩ (c_X5_item l D cs ad (tX k8 4) x1 s1 _) (va_cwS 2 hts gX5_dyke_X5_item rfl rfl rfl (by decide +kernel) ⟨Nat.le_of_ble_eq_true rfl, Nat.le_of_ble_eq_true rfl⟩) hE hP h rfl hl.1 rfl (by first | exact lv_room (Nat.le_of_ble_eq_true rfl) | (refine lv_room ?_; simp [re_cat, cat_i, cat_l, cat_r])) dX5_dyke_27 ⟨Nat.le_refl _, Nat.le_refl _⟩) hS (fun r12 s11 H locs h hP hS => ?_)
      refine lv_bipush (v := 9) hx hb dX5_dyke_30 (by decide) ?_
      refine lv_icmp_lt (tgt := 38) hx hb dX5_dyke_32 (by decide) (fun c13 => ?_) (fun c13 => ?_)
      · replace h := h.1 c13
        refine lv_aload_n hx hb dX5_dyke_38 rfl (lv_at hl 0 rfl) ?_
        refine va_get (ci := 4) (v := va_re ad (tX x0 3)) (C := RX5) (T := TX5) (N := 12) hx hb hts hi_X5 hown hE.1 hP x0 (w_4 hE hk0) rfl 3 (by decide) (hts (.fieldLink RX5 33 "HemLine" "now" "LHemLine$Delta;") (by decide +kernel)) (fun _ h9 => h9) rfl dX5_dyke_39 ?_
        obtain ⟨k14, e15, q16, h⟩ := h
        refine r_known (ad := ad) e15 ?_
        refine va_getN (ci := 0) (v := .int (gI s11 k14 1)) (C := RX0) (T := TX0) (N := 15) hx hb hts hi_X0 hown hE.1 hP k14 (w_0 hE q16) rfl 1 (by decide) ((hE.2.2.2.1 ("HemLine", 192, "HemLine$Delta", "earth", "I", "HemLine") (by decide +kernel)).use rfl) (fun _ h9 => h9) rfl dX5_dyke_42 ?_
        refine lv_if_gt (tgt := 51) hx hb dX5_dyke_45 (by decide) (fun c17 => ?_) (fun c17 => ?_)
        · replace h := h.1 c17
          refine lv_aload_n hx hb dX5_dyke_51 rfl (lv_at hl 0 rfl) ?_
          refine va_get (ci := 4) (v := va_re ad (tX x0 3)) (C := RX5) (T := TX5) (N := 12) hx hb hts hi_X5 hown hE.1 hP x0 (w_4 hE hk0) rfl 3 (by decide) (hts (.fieldLink RX5 33 "HemLine" "now" "LHemLine$Delta;") (by decide +kernel)) (fun _ h9 => h9) rfl dX5_dyke_52 ?_
          obtain ⟨k18, e19, q20, h⟩ := h
          refine r_known (ad := ad) e19 ?_
          refine va_getN (ci := 0) (v := .int (gI s11 k18 3)) (C := RX0) (T := TX0) (N := 15) hx hb hts hi_X0 hown hE.1 hP k18 (w_0 hE q20) rfl 3 (by decide) ((hE.2.2.2.1 ("HemLine", 170, "HemLine$Delta", "deeds", "I", "HemLine") (by decide +kernel)).use rfl) (fun _ h9 => h9) rfl dX5_dyke_55 ?_
          refine lv_bipush (v := 40) hx hb dX5_dyke_58 (by decide) ?_
          refine lv_icmp_lt (tgt := 66) hx hb dX5_dyke_60 (by decide) (fun c21 => ?_) (fun c21 => ?_)
          · replace h := h.1 c21
            refine lv_aload_n hx hb dX5_dyke_66 rfl (lv_at hl 0 rfl) ?_
            refine va_get (ci := 4) (v := va_re ad (tX x0 3)) (C := RX5) (T := TX5) (N := 12) hx hb hts hi_X5 hown hE.1 hP x0 (w_4 hE hk0) rfl 3 (by decide) (hts (.fieldLink RX5 33 "HemLine" "now" "LHemLine$Delta;") (by decide +kernel)) (fun _ h9 => h9) rfl dX5_dyke_67 ?_
            refine lv_iload_n hx hb dX5_dyke_70 rfl (lv_at hl 1 rfl) ?_
            obtain ⟨k22, e23, q24, h⟩ := h
            refine f_v (kV (As := [.int x1]) (rest := []) e23 ⟨hx, hb, hml, hown, hts⟩ (c_X0_doDyke l D cs ad k22 x1 s11 _ q24) (cwV 1 hts gX5_dyke_X0_doDyke rfl rfl rfl (by decide +kernel) ⟨Nat.le_of_ble_eq_true rfl, Nat.le_of_ble_eq_true rfl⟩) hE hP rfl rfl (w_0 hE q24) h rfl hl.1 rfl (by first | exact lv_room (Nat.le_of_ble_eq_true rfl) | (refine lv_room ?_; simp [re_cat, cat_i, cat_l, cat_r])) dX5_dyke_71 ⟨Nat.le_refl _, Nat.le_refl _⟩) hS (fun s25 H locs h hP hS => ?_)
            refine lv_aload_n hx hb dX5_dyke_74 rfl (lv_at hl 0 rfl) ?_
            refine va_get (ci := 4) (v := va_re ad (tX x0 3)) (C := RX5) (T := TX5) (N := 12) hx hb hts hi_X5 hown hE.1 hP x0 (w_4 hE hk0) rfl 3 (by decide) (hts (.fieldLink RX5 33 "HemLine" "now" "LHemLine$Delta;") (by decide +kernel)) (fun _ h9 => h9) rfl dX5_dyke_75 ?_
            obtain ⟨k26, e27, q28, h⟩ := h
            refine r_known (ad := ad) e27 ?_
            refine va_getN (ci := 0) (v := va_re ad (tX k26 4)) (C := RX0) (T := TX0) (N := 15) hx hb hts hi_X0 hown hE.1 hP k26 (w_0 hE q28) rfl 4 (by decide) ((hE.2.2.2.1 ("HemLine", 189, "HemLine$Delta", "ground", "[I", "HemLine") (by decide +kernel)).use rfl) (fun _ h9 => h9) rfl dX5_dyke_78 ?_
            refine lv_iload_n hx hb dX5_dyke_81 rfl (lv_at hl 1 rfl) ?_
            refine f_i (kS (As := [va_re ad (tX k26 4), .int x1]) (rest := []) ⟨hx, hb, hml, hown, hts⟩ (c_X5_item l D cs ad (tX k26 4) x1 s25 _) (va_cwS 2 hts gX5_dyke_X5_item rfl rfl rfl (by decide +kernel) ⟨Nat.le_of_ble_eq_true rfl, Nat.le_of_ble_eq_true rfl⟩) hE hP h rfl hl.1 rfl (by first | exact lv_room (Nat.le_of_ble_eq_true rfl) | (refine lv_room ?_; simp [re_cat, cat_i, cat_l, cat_r])) dX5_dyke_82 ⟨Nat.le_refl _, Nat.le_refl _⟩) hS (fun r30 s29 H locs h hP hS => ?_)
            exact W.iret hx hb hr (fun t ht hW => ⟨⟨_, _, rfl, h, pw ht hP⟩, hS.F ht⟩) hS.2.2 dX5_dyke_85
          · replace h := h.2 c21
            refine lv_bipush (v := (-2)) hx hb dX5_dyke_63 (by decide) ?_
            exact W.iret hx hb hr (fun t ht hW => ⟨⟨_, _, rfl, h, pw ht hP⟩, hS.F ht⟩) hS.2.2 dX5_dyke_65
        · replace h := h.2 c17
          refine lv_bipush (v := (-6)) hx hb dX5_dyke_48 (by decide) ?_
          exact W.iret hx hb hr (fun t ht hW => ⟨⟨_, _, rfl, h, pw ht hP⟩, hS.F ht⟩) hS.2.2 dX5_dyke_50
      · replace h := h.2 c13
        refine lv_bipush (v := (-4)) hx hb dX5_dyke_35 (by decide) ?_
        exact W.iret hx hb hr (fun t ht hW => ⟨⟨_, _, rfl, h, pw ht hP⟩, hS.F ht⟩) hS.2.2 dX5_dyke_37
  · replace h := h.1 c3
    refine lv_iconst (v := (-1)) hx hb dX5_dyke_7 (by decide) ?_
    exact W.iret hx hb hr (fun t ht hW => ⟨⟨_, _, rfl, h, pw ht hP⟩, hS.F ht⟩) hS.2.2 dX5_dyke_8
def p_X5_tuck (x0 : Nat) (x1 : Int32) (s : Sg) (Q : Int32 → Sg → Prop) : Prop := p_X5_isWoman x0 x1 s (fun r2 s1 => ((r2 = 0 → Q ((-1)) s1) ∧ (¬ r2 = 0 → ∃ k4, tX x0 3 = some k4 ∧ kX k4 = 0 ∧ p_X5_item (tX k4 8) x1 s1 (fun r8 s7 => ((r8 < 3 → ∃ k10, tX x0 3 = some k10 ∧ kX k10 = 0 ∧ (((gI s7 k10 3) < 40 → ∃ k14, tX x0 3 = some k14 ∧ kX k14 = 0 ∧ p_X0_doTuck k14 x1 s7 (fun s17 => ∃ k18, tX x0 3 = some k18 ∧ kX k18 = 0 ∧ p_X5_item (tX k18 8) x1 s17 (fun r22 s21 => Q r22 s21))) ∧ (¬ (gI s7 k10 3) < 40 → Q ((-2)) s7))) ∧ (¬ r8 < 3 → Q ((-4)) s7))))))
set_option maxHeartbeats 4000000 in
set_option maxRecDepth 100000 in
theorem c_X5_tuck (l : Launch) (D : va_G) (cs : Cs) (ad : Nat → Nat) (x0 : Nat) (x1 : Int32) (s0 : Sg) (Q : Int32 → Sg → Prop) (hk0 : kX x0 = 4) : Met l yX5_tuck wsX5_tuck { frames := 3, cells := 0, slots := 0, locals := 66 } (Pc0 bX D cs ad [.ref (ad x0), .int x1] s0 (p_X5_tuck x0 x1 s0 Q)) (QI bX D cs ad Q) 0 0 (fAd bX ad) := by
  refine Met.ofW (cc := cX5_tuck) (maxL := 2) (ret := (some .int)) (by decide) rfl ?_
  intro p e s m args below meth c s₁ B0 hml hv
  obtain ⟨ha, hP, hE, h⟩ := hv
  have hx := B0.exec
  have hb := B0.bytes
  have hr := B0.returns
  have hts := atoms_spec (ws := wsX5_tuck) B0.pre
  have hown : s.vm.findClass RX5 = some m.cls := findClass_of_methodNamed B0.named
  have hlocks := B0.notSynchronized
  have hi_X0 : ∀ w ∈ u_ws RX0 TX0 15, w ∈ wsX5_tuck := by decide +kernel
  have hi_X5 : ∀ w ∈ u_ws RX5 TX5 12, w ∈ wsX5_tuck := by decide +kernel
  have hS : va_S (fAd bX ad) s.heap s.heap [] := va_S.rf
  have hl := lv_entry ([.ref (ad x0), .int x1]) (n := 2) (by first | exact Nat.le_of_ble_eq_true rfl | simp [lg_sl, re_cat, cat_i, cat_l, cat_r])
  rw [show entryFrame m args 2 = entryFrame m ([.ref (ad x0), .int x1] : List Value).toArray 2 by rw [ha], lg_entry_eq]
  generalize (lg_sl ([.ref (ad x0), .int x1]) ++ List.replicate (2 - (lg_sl ([.ref (ad x0), .int x1])).length) Slot.unset).toArray = ls at hl ⊢
  have hl : lv_has ls 2 [(0, .ref (ad x0)), (1, .int x1)] := by first | exact hl | simpa [lv_args, re_cat, cat_i, cat_l, cat_r] using hl
  unfold p_X5_tuck at h
  refine lv_aload_n hx hb dX5_tuck_0 rfl (lv_at hl 0 rfl) ?_
  refine lv_iload_n hx hb dX5_tuck_1 rfl (lv_at hl 1 rfl) ?_
  refine f_i (kV (As := [.int x1]) (rest := []) (o := some x0) rfl ⟨hx, hb, hml, hown, hts⟩ (c_X5_isWoman l D cs ad x0 x1 s0 _ hk0) (cwV 1 hts gX5_tuck_X5_isWoman rfl rfl rfl (by decide +kernel) ⟨Nat.le_of_ble_eq_true rfl, Nat.le_of_ble_eq_true rfl⟩) hE hP rfl rfl (w_4 hE hk0) h rfl hl.1 rfl (by first | exact lv_room (Nat.le_of_ble_eq_true rfl) | (refine lv_room ?_; simp [re_cat, cat_i, cat_l, cat_r])) dX5_tuck_2 ⟨Nat.le_refl _, Nat.le_refl _⟩) hS (fun r2 s1 H locs h hP hS => ?_)
  refine lv_if_ne (tgt := 10) hx hb dX5_tuck_5 (by decide) (fun c3 => ?_) (fun c3 => ?_)
  · replace h := h.2 c3
    refine lv_aload_n hx hb dX5_tuck_10 rfl (lv_at hl 0 rfl) ?_
    refine va_get (ci := 4) (v := va_re ad (tX x0 3)) (C := RX5) (T := TX5) (N := 12) hx hb hts hi_X5 hown hE.1 hP x0 (w_4 hE hk0) rfl 3 (by decide) (hts (.fieldLink RX5 33 "HemLine" "now" "LHemLine$Delta;") (by decide +kernel)) (fun _ h9 => h9) rfl dX5_tuck_11 ?_
    obtain ⟨k4, e5, q6, h⟩ := h
    refine r_known (ad := ad) e5 ?_
    refine va_getN (ci := 0) (v := va_re ad (tX k4 8)) (C := RX0) (T := TX0) (N := 15) hx hb hts hi_X0 hown hE.1 hP k4 (w_0 hE q6) rfl 8 (by decide) ((hE.2.2.2.1 ("HemLine", 198, "HemLine$Delta", "tuckOf", "[I", "HemLine") (by decide +kernel)).use rfl) (fun _ h9 => h9) rfl dX5_tuck_14 ?_
    refine lv_iload_n hx hb dX5_tuck_17 rfl (lv_at hl 1 rfl) ?_
    refine f_i (kS (As := [va_re ad (tX k4 8), .int x1]) (rest := []) ⟨hx, hb, hml, hown, hts⟩ (c_X5_item l D cs ad (tX k4 8) x1 s1 _) (va_cwS 2 hts gX5_tuck_X5_item rfl rfl rfl (by decide +kernel) ⟨Nat.le_of_ble_eq_true rfl, Nat.le_of_ble_eq_true rfl⟩) hE hP h rfl hl.1 rfl (by first | exact lv_room (Nat.le_of_ble_eq_true rfl) | (refine lv_room ?_; simp [re_cat, cat_i, cat_l, cat_r])) dX5_tuck_18 ⟨Nat.le_refl _, Nat.le_refl _⟩) hS (fun r8 s7 H locs h hP hS => ?_)
    refine lv_iconst (v := 3) hx hb dX5_tuck_21 (by decide) ?_
    refine lv_icmp_lt (tgt := 28) hx hb dX5_tuck_22 (by decide) (fun c9 => ?_) (fun c9 => ?_)
    · replace h := h.1 c9
      refine lv_aload_n hx hb dX5_tuck_28 rfl (lv_at hl 0 rfl) ?_
      refine va_get (ci := 4) (v := va_re ad (tX x0 3)) (C := RX5) (T := TX5) (N := 12) hx hb hts hi_X5 hown hE.1 hP x0 (w_4 hE hk0) rfl 3 (by decide) (hts (.fieldLink RX5 33 "HemLine" "now" "LHemLine$Delta;") (by decide +kernel)) (fun _ h9 => h9) rfl dX5_tuck_29 ?_
      obtain ⟨k10, e11, q12, h⟩ := h
      refine r_known (ad := ad) e11 ?_
      refine va_getN (ci := 0) (v := .int (gI s7 k10 3)) (C := RX0) (T := TX0) (N := 15) hx hb hts hi_X0 hown hE.1 hP k10 (w_0 hE q12) rfl 3 (by decide) ((hE.2.2.2.1 ("HemLine", 170, "HemLine$Delta", "deeds", "I", "HemLine") (by decide +kernel)).use rfl) (fun _ h9 => h9) rfl dX5_tuck_32 ?_
      refine lv_bipush (v := 40) hx hb dX5_tuck_35 (by decide) ?_
      refine lv_icmp_lt (tgt := 43) hx hb dX5_tuck_37 (by decide) (fun c13 => ?_) (fun c13 => ?_)
      · replace h := h.1 c13
        refine lv_aload_n hx hb dX5_tuck_43 rfl (lv_at hl 0 rfl) ?_
        refine va_get (ci := 4) (v := va_re ad (tX x0 3)) (C := RX5) (T := TX5) (N := 12) hx hb hts hi_X5 hown hE.1 hP x0 (w_4 hE hk0) rfl 3 (by decide) (hts (.fieldLink RX5 33 "HemLine" "now" "LHemLine$Delta;") (by decide +kernel)) (fun _ h9 => h9) rfl dX5_tuck_44 ?_
        refine lv_iload_n hx hb dX5_tuck_47 rfl (lv_at hl 1 rfl) ?_
        obtain ⟨k14, e15, q16, h⟩ := h
        refine f_v (kV (As := [.int x1]) (rest := []) e15 ⟨hx, hb, hml, hown, hts⟩ (c_X0_doTuck l D cs ad k14 x1 s7 _ q16) (cwV 1 hts gX5_tuck_X0_doTuck rfl rfl rfl (by decide +kernel) ⟨Nat.le_of_ble_eq_true rfl, Nat.le_of_ble_eq_true rfl⟩) hE hP rfl rfl (w_0 hE q16) h rfl hl.1 rfl (by first | exact lv_room (Nat.le_of_ble_eq_true rfl) | (refine lv_room ?_; simp [re_cat, cat_i, cat_l, cat_r])) dX5_tuck_48 ⟨Nat.le_refl _, Nat.le_refl _⟩) hS (fun s17 H locs h hP hS => ?_)
        refine lv_aload_n hx hb dX5_tuck_51 rfl (lv_at hl 0 rfl) ?_
        refine va_get (ci := 4) (v := va_re ad (tX x0 3)) (C := RX5) (T := TX5) (N := 12) hx hb hts hi_X5 hown hE.1 hP x0 (w_4 hE hk0) rfl 3 (by decide) (hts (.fieldLink RX5 33 "HemLine" "now" "LHemLine$Delta;") (by decide +kernel)) (fun _ h9 => h9) rfl dX5_tuck_52 ?_
        obtain ⟨k18, e19, q20, h⟩ := h
        refine r_known (ad := ad) e19 ?_
        refine va_getN (ci := 0) (v := va_re ad (tX k18 8)) (C := RX0) (T := TX0) (N := 15) hx hb hts hi_X0 hown hE.1 hP k18 (w_0 hE q20) rfl 8 (by decide) ((hE.2.2.2.1 ("HemLine", 198, "HemLine$Delta", "tuckOf", "[I", "HemLine") (by decide +kernel)).use rfl) (fun _ h9 => h9) rfl dX5_tuck_55 ?_
        refine lv_iload_n hx hb dX5_tuck_58 rfl (lv_at hl 1 rfl) ?_
        refine f_i (kS (As := [va_re ad (tX k18 8), .int x1]) (rest := []) ⟨hx, hb, hml, hown, hts⟩ (c_X5_item l D cs ad (tX k18 8) x1 s17 _) (va_cwS 2 hts gX5_tuck_X5_item rfl rfl rfl (by decide +kernel) ⟨Nat.le_of_ble_eq_true rfl, Nat.le_of_ble_eq_true rfl⟩) hE hP h rfl hl.1 rfl (by first | exact lv_room (Nat.le_of_ble_eq_true rfl) | (refine lv_room ?_; simp [re_cat, cat_i, cat_l, cat_r])) dX5_tuck_59 ⟨Nat.le_refl _, Nat.le_refl _⟩) hS (fun r22 s21 H locs h hP hS => ?_)
        exact W.iret hx hb hr (fun t ht hW => ⟨⟨_, _, rfl, h, pw ht hP⟩, hS.F ht⟩) hS.2.2 dX5_tuck_62
      · replace h := h.2 c13
        refine lv_bipush (v := (-2)) hx hb dX5_tuck_40 (by decide) ?_
        exact W.iret hx hb hr (fun t ht hW => ⟨⟨_, _, rfl, h, pw ht hP⟩, hS.F ht⟩) hS.2.2 dX5_tuck_42
    · replace h := h.2 c9
      refine lv_bipush (v := (-4)) hx hb dX5_tuck_25 (by decide) ?_
      exact W.iret hx hb hr (fun t ht hW => ⟨⟨_, _, rfl, h, pw ht hP⟩, hS.F ht⟩) hS.2.2 dX5_tuck_27
  · replace h := h.1 c3
    refine lv_iconst (v := (-1)) hx hb dX5_tuck_8 (by decide) ?_
    exact W.iret hx hb hr (fun t ht hW => ⟨⟨_, _, rfl, h, pw ht hP⟩, hS.F ht⟩) hS.2.2 dX5_tuck_9
def p_X5_undo_L29 (Q : Int32 → Sg → Prop)  : Nat → Nat → Int32 → Int32 → Sg → Prop
  | 0, _, _, _, _ => False
  | n + 1, x0, x2, x3, s => ((x2 ≤ x3 → Q x2 s) ∧ (¬ x2 ≤ x3 → ∃ k2, tX x0 3 = some k2 ∧ kX k2 = 0 ∧ p_X0_undoLast k2 s (fun s5 => p_X5_undo_L29 Q  n x0 x2 (x3 + 1) s5)))
def p_X5_undo (x0 : Nat) (x1 : Int32) (s : Sg) (Q : Int32 → Sg → Prop) : Prop := ((x1 < 0 → Q ((-1)) s) ∧ (¬ x1 < 0 → ∃ k2, tX x0 3 = some k2 ∧ kX k2 = 0 ∧ ((x1 ≤ (gI s k2 3) → ∃ k6, tX x0 3 = some k6 ∧ kX k6 = 0 ∧ (∃ n9, p_X5_undo_L29 Q  n9 x0 ((gI s k6 3) - x1) 0 s)) ∧ (¬ x1 ≤ (gI s k2 3) → Q ((-1)) s))))
set_option maxHeartbeats 4000000 in
set_option maxRecDepth 100000 in
theorem c_X5_undo (l : Launch) (D : va_G) (cs : Cs) (ad : Nat → Nat) (x0 : Nat) (x1 : Int32) (s0 : Sg) (Q : Int32 → Sg → Prop) (hk0 : kX x0 = 4) : Met l yX5_undo wsX5_undo { frames := 2, cells := 0, slots := 0, locals := 44 } (Pc0 bX D cs ad [.ref (ad x0), .int x1] s0 (p_X5_undo x0 x1 s0 Q)) (QI bX D cs ad Q) 0 0 (fAd bX ad) := by
  refine Met.ofW (cc := cX5_undo) (maxL := 4) (ret := (some .int)) (by decide) rfl ?_
  intro p e s m args below meth c s₁ B0 hml hv
  obtain ⟨ha, hP, hE, h⟩ := hv
  have hx := B0.exec
  have hb := B0.bytes
  have hr := B0.returns
  have hts := atoms_spec (ws := wsX5_undo) B0.pre
  have hown : s.vm.findClass RX5 = some m.cls := findClass_of_methodNamed B0.named
  have hlocks := B0.notSynchronized
  have hi_X0 : ∀ w ∈ u_ws RX0 TX0 15, w ∈ wsX5_undo := by decide +kernel
  have hi_X5 : ∀ w ∈ u_ws RX5 TX5 12, w ∈ wsX5_undo := by decide +kernel
  have hS : va_S (fAd bX ad) s.heap s.heap [] := va_S.rf
  have hl := lv_entry ([.ref (ad x0), .int x1]) (n := 4) (by first | exact Nat.le_of_ble_eq_true rfl | simp [lg_sl, re_cat, cat_i, cat_l, cat_r])
  rw [show entryFrame m args 4 = entryFrame m ([.ref (ad x0), .int x1] : List Value).toArray 4 by rw [ha], lg_entry_eq]
  generalize (lg_sl ([.ref (ad x0), .int x1]) ++ List.replicate (4 - (lg_sl ([.ref (ad x0), .int x1])).length) Slot.unset).toArray = ls at hl ⊢
  have hl : lv_has ls 4 [(0, .ref (ad x0)), (1, .int x1)] := by first | exact hl | simpa [lv_args, re_cat, cat_i, cat_l, cat_r] using hl
  have hB29 : ∀ (n29 : Nat) (x2 : Int32) (x3 : Int32) (σ : Sg) (H : Heap) (locs : List Loc) (ls : Array Slot), p_X5_undo_L29 Q  n29 x0 x2 x3 σ → va_P D vwCl (wl bX cs ad σ) H → va_S (fAd bX ad) s.heap H locs → lv_has ls 4 [(0, .ref (ad x0)), (2, .int x2), (3, .int x3)] → W p l e { frames := 2, cells := 0, slots := 0, locals := 44 } s m args below meth c H locs 0 0 (MQ below (QI bX D cs ad Q) args s 0 0 (fAd bX ad)) (F0 m 29 ls []) := by
    intro n29
    induction n29 with
    | zero =>
      intro x2 x3 σ H locs ls h
      exact h.elim
    | succ n29 ih =>
      have hK29 := ih
      intro x2 x3 σ H locs ls h hP hS hl
      rw [p_X5_undo_L29] at h
      refine lv_iload_n hx hb dX5_undo_29 rfl (lv_at hl 2 rfl) ?_
      refine lv_iload_n hx hb dX5_undo_30 rfl (lv_at hl 1 rfl) ?_
      refine lv_icmp_ge (tgt := 47) hx hb dX5_undo_31 (by decide) (fun c1 => ?_) (fun c1 => ?_)
      · replace h := h.1 c1
        refine lv_iload_n hx hb dX5_undo_47 rfl (lv_at hl 1 rfl) ?_
        exact W.iret hx hb hr (fun t ht hW => ⟨⟨_, _, rfl, h, pw ht hP⟩, hS.F ht⟩) hS.2.2 dX5_undo_48
      · replace h := h.2 c1
        refine lv_aload_n hx hb dX5_undo_34 rfl (lv_at hl 0 rfl) ?_
        refine va_get (ci := 4) (v := va_re ad (tX x0 3)) (C := RX5) (T := TX5) (N := 12) hx hb hts hi_X5 hown hE.1 hP x0 (w_4 hE hk0) rfl 3 (by decide) (hts (.fieldLink RX5 33 "HemLine" "now" "LHemLine$Delta;") (by decide +kernel)) (fun _ h9 => h9) rfl dX5_undo_35 ?_
        obtain ⟨k2, e3, q4, h⟩ := h
        refine f_v (kV (As := []) (rest := []) e3 ⟨hx, hb, hml, hown, hts⟩ (c_X0_undoLast l D cs ad k2 σ _ q4) (cwV 0 hts gX5_undo_X0_undoLast rfl rfl rfl (by decide +kernel) ⟨Nat.le_of_ble_eq_true rfl, Nat.le_of_ble_eq_true rfl⟩) hE hP rfl rfl (w_0 hE q4) h rfl hl.1 rfl (by first | exact lv_room (Nat.le_of_ble_eq_true rfl) | (refine lv_room ?_; simp [re_cat, cat_i, cat_l, cat_r])) dX5_undo_38 ⟨Nat.le_refl _, Nat.le_refl _⟩) hS (fun s5 H locs h hP hS => ?_)
        refine lv_iinc (v := x3 + 1) (lv' := [(3, .int (x3 + 1)), (0, .ref (ad x0)), (2, .int x2)]) hx hb dX5_undo_41 hl (k := 2) rfl rfl (by decide) (by first | rfl | simp [re_cat, cat_i, cat_l, cat_r]) (fun ls hl => ?_)
        refine lv_goto (tgt := 29) hx hb dX5_undo_44 (by decide) ?_
        exact ih x2 (x3 + 1) s5 H locs ls h hP hS (lv_sub hl [1, 2, 0] rfl)
  unfold p_X5_undo at h
  refine lv_iload_n hx hb dX5_undo_0 rfl (lv_at hl 1 rfl) ?_
  refine lv_if_lt (tgt := 15) hx hb dX5_undo_1 (by decide) (fun c1 => ?_) (fun c1 => ?_)
  · replace h := h.1 c1
    refine lv_iconst (v := (-1)) hx hb dX5_undo_15 (by decide) ?_
    exact W.iret hx hb hr (fun t ht hW => ⟨⟨_, _, rfl, h, pw ht hP⟩, hS.F ht⟩) hS.2.2 dX5_undo_16
  · replace h := h.2 c1
    refine lv_iload_n hx hb dX5_undo_4 rfl (lv_at hl 1 rfl) ?_
    refine lv_aload_n hx hb dX5_undo_5 rfl (lv_at hl 0 rfl) ?_
    refine va_get (ci := 4) (v := va_re ad (tX x0 3)) (C := RX5) (T := TX5) (N := 12) hx hb hts hi_X5 hown hE.1 hP x0 (w_4 hE hk0) rfl 3 (by decide) (hts (.fieldLink RX5 33 "HemLine" "now" "LHemLine$Delta;") (by decide +kernel)) (fun _ h9 => h9) rfl dX5_undo_6 ?_
    obtain ⟨k2, e3, q4, h⟩ := h
    refine r_known (ad := ad) e3 ?_
    refine va_getN (ci := 0) (v := .int (gI s0 k2 3)) (C := RX0) (T := TX0) (N := 15) hx hb hts hi_X0 hown hE.1 hP k2 (w_0 hE q4) rfl 3 (by decide) ((hE.2.2.2.1 ("HemLine", 170, "HemLine$Delta", "deeds", "I", "HemLine") (by decide +kernel)).use rfl) (fun _ h9 => h9) rfl dX5_undo_9 ?_
    refine lv_icmp_le (tgt := 17) hx hb dX5_undo_12 (by decide) (fun c5 => ?_) (fun c5 => ?_)
    · replace h := h.1 c5
      refine lv_aload_n hx hb dX5_undo_17 rfl (lv_at hl 0 rfl) ?_
      refine va_get (ci := 4) (v := va_re ad (tX x0 3)) (C := RX5) (T := TX5) (N := 12) hx hb hts hi_X5 hown hE.1 hP x0 (w_4 hE hk0) rfl 3 (by decide) (hts (.fieldLink RX5 33 "HemLine" "now" "LHemLine$Delta;") (by decide +kernel)) (fun _ h9 => h9) rfl dX5_undo_18 ?_
      obtain ⟨k6, e7, q8, h⟩ := h
      refine r_known (ad := ad) e7 ?_
      refine va_getN (ci := 0) (v := .int (gI s0 k6 3)) (C := RX0) (T := TX0) (N := 15) hx hb hts hi_X0 hown hE.1 hP k6 (w_0 hE q8) rfl 3 (by decide) ((hE.2.2.2.1 ("HemLine", 170, "HemLine$Delta", "deeds", "I", "HemLine") (by decide +kernel)).use rfl) (fun _ h9 => h9) rfl dX5_undo_21 ?_
      refine lv_iload_n hx hb dX5_undo_24 rfl (lv_at hl 1 rfl) ?_
      refine lv_isub hx hb dX5_undo_25 ?_
      refine lv_istore_n (i := 2) (lv' := [(2, .int ((gI s0 k6 3) - x1)), (0, .ref (ad x0)), (1, .int x1)]) hx hb dX5_undo_26 rfl hl (by decide) (by first | rfl | simp [re_cat, cat_i, cat_l, cat_r]) (fun ls hl => ?_)
      refine lv_iconst (v := 0) hx hb dX5_undo_27 (by decide) ?_
      refine lv_istore_n (i := 3) (lv' := [(3, .int 0), (2, .int ((gI s0 k6 3) - x1)), (0, .ref (ad x0)), (1, .int x1)]) hx hb dX5_undo_28 rfl hl (by decide) (by first | rfl | simp [re_cat, cat_i, cat_l, cat_r]) (fun ls hl => ?_)
      obtain ⟨n9, h⟩ := h
      exact hB29 n9 ((gI s0 k6 3) - x1) 0 s0 _ _ ls h hP hS (lv_sub hl [2, 1, 0] rfl)
    · replace h := h.2 c5
      refine lv_iconst (v := (-1)) hx hb dX5_undo_15 (by decide) ?_
      exact W.iret hx hb hr (fun t ht hW => ⟨⟨_, _, rfl, h, pw ht hP⟩, hS.F ht⟩) hS.2.2 dX5_undo_16
def p_X5_keep (x0 : Nat) (x1 : Int32) (s : Sg) (Q : Int32 → Sg → Prop) : Prop := p_X5_keptAt x0 x1 s (fun r2 s1 => ((r2 = none → Q ((-1)) s1) ∧ (¬ r2 = none → ∃ k4, tX x0 3 = some k4 ∧ kX k4 = 0 ∧ (((gI s1 k4 0) = 0 → Q ((-4)) s1) ∧ (¬ (gI s1 k4 0) = 0 → ∃ k8, r2 = some k8 ∧ kX k8 = 0 ∧ p_X0_takeFrom k8 (tX x0 3) s1 (fun s11 => ∃ k12, tX x0 3 = some k12 ∧ kX k12 = 0 ∧ Q (gI s11 k12 3) s11))))))
set_option maxHeartbeats 4000000 in
set_option maxRecDepth 100000 in
theorem c_X5_keep (l : Launch) (D : va_G) (cs : Cs) (ad : Nat → Nat) (x0 : Nat) (x1 : Int32) (s0 : Sg) (Q : Int32 → Sg → Prop) (hk0 : kX x0 = 4) : Met l yX5_keep wsX5_keep { frames := 4, cells := 0, slots := 0, locals := 134 } (Pc0 bX D cs ad [.ref (ad x0), .int x1] s0 (p_X5_keep x0 x1 s0 Q)) (QI bX D cs ad Q) 0 0 (fAd bX ad) := by
  refine Met.ofW (cc := cX5_keep) (maxL := 3) (ret := (some .int)) (by decide) rfl ?_
  intro p e s m args below meth c s₁ B0 hml hv
  obtain ⟨ha, hP, hE, h⟩ := hv
  have hx := B0.exec
  have hb := B0.bytes
  have hr := B0.returns
  have hts := atoms_spec (ws := wsX5_keep) B0.pre
  have hown : s.vm.findClass RX5 = some m.cls := findClass_of_methodNamed B0.named
  have hlocks := B0.notSynchronized
  have hi_X0 : ∀ w ∈ u_ws RX0 TX0 15, w ∈ wsX5_keep := by decide +kernel
  have hi_X5 : ∀ w ∈ u_ws RX5 TX5 12, w ∈ wsX5_keep := by decide +kernel
  have hS : va_S (fAd bX ad) s.heap s.heap [] := va_S.rf
  have hl := lv_entry ([.ref (ad x0), .int x1]) (n := 3) (by first | exact Nat.le_of_ble_eq_true rfl | simp [lg_sl, re_cat, cat_i, cat_l, cat_r])
  rw [show entryFrame m args 3 = entryFrame m ([.ref (ad x0), .int x1] : List Value).toArray 3 by rw [ha], lg_entry_eq]
  generalize (lg_sl ([.ref (ad x0), .int x1]) ++ List.replicate (3 - (lg_sl ([.ref (ad x0), .int x1])).length) Slot.unset).toArray = ls at hl ⊢
  have hl : lv_has ls 3 [(0, .ref (ad x0)), (1, .int x1)] := by first | exact hl | simpa [lv_args, re_cat, cat_i, cat_l, cat_r] using hl
  unfold p_X5_keep at h
  refine lv_aload_n hx hb dX5_keep_0 rfl (lv_at hl 0 rfl) ?_
  refine lv_iload_n hx hb dX5_keep_1 rfl (lv_at hl 1 rfl) ?_
  refine f_e (kV (As := [.int x1]) (rest := []) (o := some x0) rfl ⟨hx, hb, hml, hown, hts⟩ (c_X5_keptAt l D cs ad x0 x1 s0 _ hk0) (cwV 1 hts gX5_keep_X5_keptAt rfl rfl rfl (by decide +kernel) ⟨Nat.le_of_ble_eq_true rfl, Nat.le_of_ble_eq_true rfl⟩) hE hP rfl rfl (w_4 hE hk0) h rfl hl.1 rfl (by first | exact lv_room (Nat.le_of_ble_eq_true rfl) | (refine lv_room ?_; simp [re_cat, cat_i, cat_l, cat_r])) dX5_keep_2 ⟨Nat.le_refl _, Nat.le_refl _⟩) hS (fun r2 s1 H locs h hP hS => ?_)
  refine r_astore_n (i := 2) (lv' := [(2, va_re ad r2), (0, .ref (ad x0)), (1, .int x1)]) hx hb dX5_keep_5 rfl hl (by decide) (by first | rfl | simp [re_cat, cat_i, cat_l, cat_r]) (fun ls hl => ?_)
  refine r_aload_n hx hb dX5_keep_6 rfl (lv_at hl 0 rfl) ?_
  refine r_ifnonnull (tgt := 12) hx hb dX5_keep_7 (by decide) (fun c3 => ?_) (fun c3 => ?_)
  · replace h := h.2 c3
    refine lv_aload_n hx hb dX5_keep_12 rfl (lv_at hl 1 rfl) ?_
    refine va_get (ci := 4) (v := va_re ad (tX x0 3)) (C := RX5) (T := TX5) (N := 12) hx hb hts hi_X5 hown hE.1 hP x0 (w_4 hE hk0) rfl 3 (by decide) (hts (.fieldLink RX5 33 "HemLine" "now" "LHemLine$Delta;") (by decide +kernel)) (fun _ h9 => h9) rfl dX5_keep_13 ?_
    obtain ⟨k4, e5, q6, h⟩ := h
    refine r_known (ad := ad) e5 ?_
    refine va_getN (ci := 0) (v := .int (gI s1 k4 0)) (C := RX0) (T := TX0) (N := 15) hx hb hts hi_X0 hown hE.1 hP k4 (w_0 hE q6) rfl 0 (by decide) ((hE.2.2.2.1 ("HemLine", 126, "HemLine$Delta", "women", "I", "HemLine") (by decide +kernel)).use rfl) (fun _ h9 => h9) rfl dX5_keep_16 ?_
    refine lv_if_ne (tgt := 25) hx hb dX5_keep_19 (by decide) (fun c7 => ?_) (fun c7 => ?_)
    · replace h := h.2 c7
      refine r_aload_n hx hb dX5_keep_25 rfl (lv_at hl 0 rfl) ?_
      refine lv_aload_n hx hb dX5_keep_26 rfl (lv_at hl 1 rfl) ?_
      refine va_get (ci := 4) (v := va_re ad (tX x0 3)) (C := RX5) (T := TX5) (N := 12) hx hb hts hi_X5 hown hE.1 hP x0 (w_4 hE hk0) rfl 3 (by decide) (hts (.fieldLink RX5 33 "HemLine" "now" "LHemLine$Delta;") (by decide +kernel)) (fun _ h9 => h9) rfl dX5_keep_27 ?_
      obtain ⟨k8, e9, q10, h⟩ := h
      refine f_v (kV (As := [va_re ad (tX x0 3)]) (rest := []) e9 ⟨hx, hb, hml, hown, hts⟩ (c_X0_takeFrom l D cs ad k8 (tX x0 3) s1 _ q10) (cwV 1 hts gX5_keep_X0_takeFrom rfl rfl rfl (by decide +kernel) ⟨Nat.le_of_ble_eq_true rfl, Nat.le_of_ble_eq_true rfl⟩) hE hP rfl rfl (w_0 hE q10) h rfl hl.1 rfl (by first | exact lv_room (Nat.le_of_ble_eq_true rfl) | (refine lv_room ?_; simp [re_cat, cat_i, cat_l, cat_r])) dX5_keep_30 ⟨Nat.le_refl _, Nat.le_refl _⟩) hS (fun s11 H locs h hP hS => ?_)
      refine lv_aload_n hx hb dX5_keep_33 rfl (lv_at hl 1 rfl) ?_
      refine va_get (ci := 4) (v := va_re ad (tX x0 3)) (C := RX5) (T := TX5) (N := 12) hx hb hts hi_X5 hown hE.1 hP x0 (w_4 hE hk0) rfl 3 (by decide) (hts (.fieldLink RX5 33 "HemLine" "now" "LHemLine$Delta;") (by decide +kernel)) (fun _ h9 => h9) rfl dX5_keep_34 ?_
      obtain ⟨k12, e13, q14, h⟩ := h
      refine r_known (ad := ad) e13 ?_
      refine va_getN (ci := 0) (v := .int (gI s11 k12 3)) (C := RX0) (T := TX0) (N := 15) hx hb hts hi_X0 hown hE.1 hP k12 (w_0 hE q14) rfl 3 (by decide) ((hE.2.2.2.1 ("HemLine", 170, "HemLine$Delta", "deeds", "I", "HemLine") (by decide +kernel)).use rfl) (fun _ h9 => h9) rfl dX5_keep_37 ?_
      exact W.iret hx hb hr (fun t ht hW => ⟨⟨_, _, rfl, h, pw ht hP⟩, hS.F ht⟩) hS.2.2 dX5_keep_40
    · replace h := h.1 c7
      refine lv_bipush (v := (-4)) hx hb dX5_keep_22 (by decide) ?_
      exact W.iret hx hb hr (fun t ht hW => ⟨⟨_, _, rfl, h, pw ht hP⟩, hS.F ht⟩) hS.2.2 dX5_keep_24
  · replace h := h.1 c3
    refine lv_iconst (v := (-1)) hx hb dX5_keep_10 (by decide) ?_
    exact W.iret hx hb hr (fun t ht hW => ⟨⟨_, _, rfl, h, pw ht hP⟩, hS.F ht⟩) hS.2.2 dX5_keep_11
def p_X5_on (x0 : Nat) (x1 : Int32) (s : Sg) (Q : Int32 → Sg → Prop) : Prop := p_X5_keptAt x0 x1 s (fun r2 s1 => ((r2 = none → Q ((-1)) s1) ∧ (¬ r2 = none → ∃ k4, r2 = some k4 ∧ kX k4 = 0 ∧ (((gI s1 k4 0) = 0 → p_X5_found x0 1 s1 (fun r16 s15 => Q r16 s15)) ∧ (¬ (gI s1 k4 0) = 0 → ∃ k8, tX x0 3 = some k8 ∧ kX k8 = 0 ∧ p_X0_takeFrom k8 r2 s1 (fun s11 => ∃ k12, tX x0 3 = some k12 ∧ kX k12 = 0 ∧ Q (gI s11 k12 3) s11))))))
set_option maxHeartbeats 4000000 in
set_option maxRecDepth 100000 in
theorem c_X5_on (l : Launch) (D : va_G) (cs : Cs) (ad : Nat → Nat) (x0 : Nat) (x1 : Int32) (s0 : Sg) (Q : Int32 → Sg → Prop) (hk0 : kX x0 = 4) : Met l yX5_on wsX5_on { frames := 4, cells := 0, slots := 0, locals := 134 } (Pc0 bX D cs ad [.ref (ad x0), .int x1] s0 (p_X5_on x0 x1 s0 Q)) (QI bX D cs ad Q) 0 0 (fAd bX ad) := by
  refine Met.ofW (cc := cX5_on) (maxL := 3) (ret := (some .int)) (by decide) rfl ?_
  intro p e s m args below meth c s₁ B0 hml hv
  obtain ⟨ha, hP, hE, h⟩ := hv
  have hx := B0.exec
  have hb := B0.bytes
  have hr := B0.returns
  have hts := atoms_spec (ws := wsX5_on) B0.pre
  have hown : s.vm.findClass RX5 = some m.cls := findClass_of_methodNamed B0.named
  have hlocks := B0.notSynchronized
  have hi_X0 : ∀ w ∈ u_ws RX0 TX0 15, w ∈ wsX5_on := by decide +kernel
  have hi_X5 : ∀ w ∈ u_ws RX5 TX5 12, w ∈ wsX5_on := by decide +kernel
  have hS : va_S (fAd bX ad) s.heap s.heap [] := va_S.rf
  have hl := lv_entry ([.ref (ad x0), .int x1]) (n := 3) (by first | exact Nat.le_of_ble_eq_true rfl | simp [lg_sl, re_cat, cat_i, cat_l, cat_r])
  rw [show entryFrame m args 3 = entryFrame m ([.ref (ad x0), .int x1] : List Value).toArray 3 by rw [ha], lg_entry_eq]
  generalize (lg_sl ([.ref (ad x0), .int x1]) ++ List.replicate (3 - (lg_sl ([.ref (ad x0), .int x1])).length) Slot.unset).toArray = ls at hl ⊢
  have hl : lv_has ls 3 [(0, .ref (ad x0)), (1, .int x1)] := by first | exact hl | simpa [lv_args, re_cat, cat_i, cat_l, cat_r] using hl
  unfold p_X5_on at h
  refine lv_aload_n hx hb dX5_on_0 rfl (lv_at hl 0 rfl) ?_
  refine lv_iload_n hx hb dX5_on_1 rfl (lv_at hl 1 rfl) ?_
  refine f_e (kV (As := [.int x1]) (rest := []) (o := some x0) rfl ⟨hx, hb, hml, hown, hts⟩ (c_X5_keptAt l D cs ad x0 x1 s0 _ hk0) (cwV 1 hts gX5_on_X5_keptAt rfl rfl rfl (by decide +kernel) ⟨Nat.le_of_ble_eq_true rfl, Nat.le_of_ble_eq_true rfl⟩) hE hP rfl rfl (w_4 hE hk0) h rfl hl.1 rfl (by first | exact lv_room (Nat.le_of_ble_eq_true rfl) | (refine lv_room ?_; simp [re_cat, cat_i, cat_l, cat_r])) dX5_on_2 ⟨Nat.le_refl _, Nat.le_refl _⟩) hS (fun r2 s1 H locs h hP hS => ?_)
  refine r_astore_n (i := 2) (lv' := [(2, va_re ad r2), (0, .ref (ad x0)), (1, .int x1)]) hx hb dX5_on_5 rfl hl (by decide) (by first | rfl | simp [re_cat, cat_i, cat_l, cat_r]) (fun ls hl => ?_)
  refine r_aload_n hx hb dX5_on_6 rfl (lv_at hl 0 rfl) ?_
  refine r_ifnonnull (tgt := 12) hx hb dX5_on_7 (by decide) (fun c3 => ?_) (fun c3 => ?_)
  · replace h := h.2 c3
    refine r_aload_n hx hb dX5_on_12 rfl (lv_at hl 0 rfl) ?_
    obtain ⟨k4, e5, q6, h⟩ := h
    refine r_known (ad := ad) e5 ?_
    refine va_getN (ci := 0) (v := .int (gI s1 k4 0)) (C := RX0) (T := TX0) (N := 15) hx hb hts hi_X0 hown hE.1 hP k4 (w_0 hE q6) rfl 0 (by decide) ((hE.2.2.2.1 ("HemLine", 126, "HemLine$Delta", "women", "I", "HemLine") (by decide +kernel)).use rfl) (fun _ h9 => h9) rfl dX5_on_13 ?_
    refine lv_if_ne (tgt := 25) hx hb dX5_on_16 (by decide) (fun c7 => ?_) (fun c7 => ?_)
    · replace h := h.2 c7
      refine lv_aload_n hx hb dX5_on_25 rfl (lv_at hl 1 rfl) ?_
      refine va_get (ci := 4) (v := va_re ad (tX x0 3)) (C := RX5) (T := TX5) (N := 12) hx hb hts hi_X5 hown hE.1 hP x0 (w_4 hE hk0) rfl 3 (by decide) (hts (.fieldLink RX5 33 "HemLine" "now" "LHemLine$Delta;") (by decide +kernel)) (fun _ h9 => h9) rfl dX5_on_26 ?_
      refine r_aload_n hx hb dX5_on_29 rfl (lv_at hl 0 rfl) ?_
      obtain ⟨k8, e9, q10, h⟩ := h
      refine f_v (kV (As := [va_re ad r2]) (rest := []) e9 ⟨hx, hb, hml, hown, hts⟩ (c_X0_takeFrom l D cs ad k8 r2 s1 _ q10) (cwV 1 hts gX5_on_X0_takeFrom rfl rfl rfl (by decide +kernel) ⟨Nat.le_of_ble_eq_true rfl, Nat.le_of_ble_eq_true rfl⟩) hE hP rfl rfl (w_0 hE q10) h rfl hl.1 rfl (by first | exact lv_room (Nat.le_of_ble_eq_true rfl) | (refine lv_room ?_; simp [re_cat, cat_i, cat_l, cat_r])) dX5_on_30 ⟨Nat.le_refl _, Nat.le_refl _⟩) hS (fun s11 H locs h hP hS => ?_)
      refine lv_aload_n hx hb dX5_on_33 rfl (lv_at hl 1 rfl) ?_
      refine va_get (ci := 4) (v := va_re ad (tX x0 3)) (C := RX5) (T := TX5) (N := 12) hx hb hts hi_X5 hown hE.1 hP x0 (w_4 hE hk0) rfl 3 (by decide) (hts (.fieldLink RX5 33 "HemLine" "now" "LHemLine$Delta;") (by decide +kernel)) (fun _ h9 => h9) rfl dX5_on_34 ?_
      obtain ⟨k12, e13, q14, h⟩ := h
      refine r_known (ad := ad) e13 ?_
      refine va_getN (ci := 0) (v := .int (gI s11 k12 3)) (C := RX0) (T := TX0) (N := 15) hx hb hts hi_X0 hown hE.1 hP k12 (w_0 hE q14) rfl 3 (by decide) ((hE.2.2.2.1 ("HemLine", 170, "HemLine$Delta", "deeds", "I", "HemLine") (by decide +kernel)).use rfl) (fun _ h9 => h9) rfl dX5_on_37 ?_
      exact W.iret hx hb hr (fun t ht hW => ⟨⟨_, _, rfl, h, pw ht hP⟩, hS.F ht⟩) hS.2.2 dX5_on_40
    · replace h := h.1 c7
      refine lv_aload_n hx hb dX5_on_19 rfl (lv_at hl 1 rfl) ?_
      refine lv_iconst (v := 1) hx hb dX5_on_20 (by decide) ?_
      refine f_i (kV (As := [.int 1]) (rest := []) (o := some x0) rfl ⟨hx, hb, hml, hown, hts⟩ (c_X5_found l D cs ad x0 1 s1 _ hk0) (cwV 1 hts gX5_on_X5_found rfl rfl rfl (by decide +kernel) ⟨Nat.le_of_ble_eq_true rfl, Nat.le_of_ble_eq_true rfl⟩) hE hP rfl rfl (w_4 hE hk0) h rfl hl.1 rfl (by first | exact lv_room (Nat.le_of_ble_eq_true rfl) | (refine lv_room ?_; simp [re_cat, cat_i, cat_l, cat_r])) dX5_on_21 ⟨Nat.le_refl _, Nat.le_refl _⟩) hS (fun r16 s15 H locs h hP hS => ?_)
      exact W.iret hx hb hr (fun t ht hW => ⟨⟨_, _, rfl, h, pw ht hP⟩, hS.F ht⟩) hS.2.2 dX5_on_24
  · replace h := h.1 c3
    refine lv_iconst (v := (-1)) hx hb dX5_on_10 (by decide) ?_
    exact W.iret hx hb hr (fun t ht hW => ⟨⟨_, _, rfl, h, pw ht hP⟩, hS.F ht⟩) hS.2.2 dX5_on_11
def p_X5_isSet (x0 : Nat) (x1 : Int32) (s : Sg) (Q : Int32 → Sg → Prop) : Prop := ((x1 < 0 → Q 0 s) ∧ (¬ x1 < 0 → ∃ k2, tX x0 3 = some k2 ∧ kX k2 = 0 ∧ p_X0_everyone k2 s (fun r6 s5 => ((r6 < x1 → Q 0 s5) ∧ (¬ r6 < x1 → Q 1 s5)))))
set_option maxHeartbeats 4000000 in
set_option maxRecDepth 100000 in
theorem c_X5_isSet (l : Launch) (D : va_G) (cs : Cs) (ad : Nat → Nat) (x0 : Nat) (x1 : Int32) (s0 : Sg) (Q : Int32 → Sg → Prop) (hk0 : kX x0 = 4) : Met l yX5_isSet wsX5_isSet { frames := 1, cells := 0, slots := 0, locals := 20 } (Pc0 bX D cs ad [.ref (ad x0), .int x1] s0 (p_X5_isSet x0 x1 s0 Q)) (QI bX D cs ad Q) 0 0 (fAd bX ad) := by
  refine Met.ofW (cc := cX5_isSet) (maxL := 2) (ret := (some .boolean)) (by decide) rfl ?_
  intro p e s m args below meth c s₁ B0 hml hv
  obtain ⟨ha, hP, hE, h⟩ := hv
  have hx := B0.exec
  have hb := B0.bytes
  have hr := B0.returns
  have hts := atoms_spec (ws := wsX5_isSet) B0.pre
  have hown : s.vm.findClass RX5 = some m.cls := findClass_of_methodNamed B0.named
  have hlocks := B0.notSynchronized
  have hi_X5 : ∀ w ∈ u_ws RX5 TX5 12, w ∈ wsX5_isSet := by decide +kernel
  have hS : va_S (fAd bX ad) s.heap s.heap [] := va_S.rf
  have hl := lv_entry ([.ref (ad x0), .int x1]) (n := 2) (by first | exact Nat.le_of_ble_eq_true rfl | simp [lg_sl, re_cat, cat_i, cat_l, cat_r])
  rw [show entryFrame m args 2 = entryFrame m ([.ref (ad x0), .int x1] : List Value).toArray 2 by rw [ha], lg_entry_eq]
  generalize (lg_sl ([.ref (ad x0), .int x1]) ++ List.replicate (2 - (lg_sl ([.ref (ad x0), .int x1])).length) Slot.unset).toArray = ls at hl ⊢
  have hl : lv_has ls 2 [(0, .ref (ad x0)), (1, .int x1)] := by first | exact hl | simpa [lv_args, re_cat, cat_i, cat_l, cat_r] using hl
  unfold p_X5_isSet at h
  refine lv_iload_n hx hb dX5_isSet_0 rfl (lv_at hl 1 rfl) ?_
  refine lv_if_lt (tgt := 19) hx hb dX5_isSet_1 (by decide) (fun c1 => ?_) (fun c1 => ?_)
  · replace h := h.1 c1
    refine lv_iconst (v := 0) hx hb dX5_isSet_19 (by decide) ?_
    exact W.zret hx hb hr rfl (fun t ht hW => ⟨⟨_, _, rfl, h, pw ht hP⟩, hS.F ht⟩) hS.2.2 dX5_isSet_20
  · replace h := h.2 c1
    refine lv_iload_n hx hb dX5_isSet_4 rfl (lv_at hl 1 rfl) ?_
    refine lv_aload_n hx hb dX5_isSet_5 rfl (lv_at hl 0 rfl) ?_
    refine va_get (ci := 4) (v := va_re ad (tX x0 3)) (C := RX5) (T := TX5) (N := 12) hx hb hts hi_X5 hown hE.1 hP x0 (w_4 hE hk0) rfl 3 (by decide) (hts (.fieldLink RX5 33 "HemLine" "now" "LHemLine$Delta;") (by decide +kernel)) (fun _ h9 => h9) rfl dX5_isSet_6 ?_
    obtain ⟨k2, e3, q4, h⟩ := h
    refine f_i (kV (As := []) (rest := [.int x1]) e3 ⟨hx, hb, hml, hown, hts⟩ (c_X0_everyone l D cs ad k2 s0 _ q4) (cwV 0 hts gX5_isSet_X0_everyone rfl rfl rfl (by decide +kernel) ⟨Nat.le_of_ble_eq_true rfl, Nat.le_of_ble_eq_true rfl⟩) hE hP rfl rfl (w_0 hE q4) h rfl hl.1 rfl (by first | exact lv_room (Nat.le_of_ble_eq_true rfl) | (refine lv_room ?_; simp [re_cat, cat_i, cat_l, cat_r])) dX5_isSet_9 ⟨Nat.le_refl _, Nat.le_refl _⟩) hS (fun r6 s5 H locs h hP hS => ?_)
    refine lv_icmp_gt (tgt := 19) hx hb dX5_isSet_12 (by decide) (fun c7 => ?_) (fun c7 => ?_)
    · replace h := h.1 c7
      refine lv_iconst (v := 0) hx hb dX5_isSet_19 (by decide) ?_
      exact W.zret hx hb hr rfl (fun t ht hW => ⟨⟨_, _, rfl, h, pw ht hP⟩, hS.F ht⟩) hS.2.2 dX5_isSet_20
    · replace h := h.2 c7
      refine lv_iconst (v := 1) hx hb dX5_isSet_15 (by decide) ?_
      refine lv_goto (tgt := 20) hx hb dX5_isSet_16 (by decide) ?_
      exact W.zret hx hb hr rfl (fun t ht hW => ⟨⟨_, _, rfl, h, pw ht hP⟩, hS.F ht⟩) hS.2.2 dX5_isSet_20
def p_X5_know (x0 : Nat) (x1 : Int32) (x2 : Int32) (s : Sg) (Q : Int32 → Sg → Prop) : Prop := p_X5_isSet x0 x1 s (fun r2 s1 => ((r2 = 0 → Q ((-1)) s1) ∧ (¬ r2 = 0 → p_X5_isPast x0 x2 s1 (fun r5 s4 => ((r5 = 0 → Q ((-1)) s4) ∧ (¬ r5 = 0 → ∃ k7, tX x0 3 = some k7 ∧ kX k7 = 0 ∧ p_X0_knownBy k7 x1 x2 s4 (fun r11 s10 => p_J6_bitCount_0f7a4 bX r11 s10 (fun r13 s12 => Q r11 (setI s12 x0 9 r13)))))))))
set_option maxHeartbeats 4000000 in
set_option maxRecDepth 100000 in
theorem c_X5_know (l : Launch) (D : va_G) (cs : Cs) (ad : Nat → Nat) (x0 : Nat) (x1 : Int32) (x2 : Int32) (s0 : Sg) (Q : Int32 → Sg → Prop) (hk0 : kX x0 = 4) : Met l yX5_know wsX5_know { frames := 6, cells := 0, slots := 0, locals := 143 } (Pc0 bX D cs ad [.ref (ad x0), .int x1, .int x2] s0 (p_X5_know x0 x1 x2 s0 Q)) (QI bX D cs ad Q) 0 0 (fAd bX ad) := by
  refine Met.ofW (cc := cX5_know) (maxL := 4) (ret := (some .int)) (by decide) rfl ?_
  intro p e s m args below meth c s₁ B0 hml hv
  obtain ⟨ha, hP, hE, h⟩ := hv
  have hx := B0.exec
  have hb := B0.bytes
  have hr := B0.returns
  have hts := atoms_spec (ws := wsX5_know) B0.pre
  have hown : s.vm.findClass RX5 = some m.cls := findClass_of_methodNamed B0.named
  have hlocks := B0.notSynchronized
  have hi_X5 : ∀ w ∈ u_ws RX5 TX5 12, w ∈ wsX5_know := by decide +kernel
  have hS : va_S (fAd bX ad) s.heap s.heap [] := va_S.rf
  have hl := lv_entry ([.ref (ad x0), .int x1, .int x2]) (n := 4) (by first | exact Nat.le_of_ble_eq_true rfl | simp [lg_sl, re_cat, cat_i, cat_l, cat_r])
  rw [show entryFrame m args 4 = entryFrame m ([.ref (ad x0), .int x1, .int x2] : List Value).toArray 4 by rw [ha], lg_entry_eq]
  generalize (lg_sl ([.ref (ad x0), .int x1, .int x2]) ++ List.replicate (4 - (lg_sl ([.ref (ad x0), .int x1, .int x2])).length) Slot.unset).toArray = ls at hl ⊢
  have hl : lv_has ls 4 [(0, .ref (ad x0)), (1, .int x1), (2, .int x2)] := by first | exact hl | simpa [lv_args, re_cat, cat_i, cat_l, cat_r] using hl
  unfold p_X5_know at h
  refine lv_aload_n hx hb dX5_know_0 rfl (lv_at hl 0 rfl) ?_
  refine lv_iload_n hx hb dX5_know_1 rfl (lv_at hl 1 rfl) ?_
  refine f_i (kV (As := [.int x1]) (rest := []) (o := some x0) rfl ⟨hx, hb, hml, hown, hts⟩ (c_X5_isSet l D cs ad x0 x1 s0 _ hk0) (cwV 1 hts gX5_know_X5_isSet rfl rfl rfl (by decide +kernel) ⟨Nat.le_of_ble_eq_true rfl, Nat.le_of_ble_eq_true rfl⟩) hE hP rfl rfl (w_4 hE hk0) h rfl hl.1 rfl (by first | exact lv_room (Nat.le_of_ble_eq_true rfl) | (refine lv_room ?_; simp [re_cat, cat_i, cat_l, cat_r])) dX5_know_2 ⟨Nat.le_refl _, Nat.le_refl _⟩) hS (fun r2 s1 H locs h hP hS => ?_)
  refine lv_if_eq (tgt := 16) hx hb dX5_know_5 (by decide) (fun c3 => ?_) (fun c3 => ?_)
  · replace h := h.1 c3
    refine lv_iconst (v := (-1)) hx hb dX5_know_16 (by decide) ?_
    exact W.iret hx hb hr (fun t ht hW => ⟨⟨_, _, rfl, h, pw ht hP⟩, hS.F ht⟩) hS.2.2 dX5_know_17
  · replace h := h.2 c3
    refine lv_aload_n hx hb dX5_know_8 rfl (lv_at hl 0 rfl) ?_
    refine lv_iload_n hx hb dX5_know_9 rfl (lv_at hl 2 rfl) ?_
    refine f_i (kV (As := [.int x2]) (rest := []) (o := some x0) rfl ⟨hx, hb, hml, hown, hts⟩ (c_X5_isPast l D cs ad x0 x2 s1 _ hk0) (cwV 1 hts gX5_know_X5_isPast rfl rfl rfl (by decide +kernel) ⟨Nat.le_of_ble_eq_true rfl, Nat.le_of_ble_eq_true rfl⟩) hE hP rfl rfl (w_4 hE hk0) h rfl hl.1 rfl (by first | exact lv_room (Nat.le_of_ble_eq_true rfl) | (refine lv_room ?_; simp [re_cat, cat_i, cat_l, cat_r])) dX5_know_10 ⟨Nat.le_refl _, Nat.le_refl _⟩) hS (fun r5 s4 H locs h hP hS => ?_)
    refine lv_if_ne (tgt := 18) hx hb dX5_know_13 (by decide) (fun c6 => ?_) (fun c6 => ?_)
    · replace h := h.2 c6
      refine lv_aload_n hx hb dX5_know_18 rfl (lv_at hl 0 rfl) ?_
      refine va_get (ci := 4) (v := va_re ad (tX x0 3)) (C := RX5) (T := TX5) (N := 12) hx hb hts hi_X5 hown hE.1 hP x0 (w_4 hE hk0) rfl 3 (by decide) (hts (.fieldLink RX5 33 "HemLine" "now" "LHemLine$Delta;") (by decide +kernel)) (fun _ h9 => h9) rfl dX5_know_19 ?_
      refine lv_iload_n hx hb dX5_know_22 rfl (lv_at hl 1 rfl) ?_
      refine lv_iload_n hx hb dX5_know_23 rfl (lv_at hl 2 rfl) ?_
      obtain ⟨k7, e8, q9, h⟩ := h
      refine f_i (kV (As := [.int x1, .int x2]) (rest := []) e8 ⟨hx, hb, hml, hown, hts⟩ (c_X0_knownBy l D cs ad k7 x1 x2 s4 _ q9) (cwV 2 hts gX5_know_X0_knownBy rfl rfl rfl (by decide +kernel) ⟨Nat.le_of_ble_eq_true rfl, Nat.le_of_ble_eq_true rfl⟩) hE hP rfl rfl (w_0 hE q9) h rfl hl.1 rfl (by first | exact lv_room (Nat.le_of_ble_eq_true rfl) | (refine lv_room ?_; simp [re_cat, cat_i, cat_l, cat_r])) dX5_know_24 ⟨Nat.le_refl _, Nat.le_refl _⟩) hS (fun r11 s10 H locs h hP hS => ?_)
      refine lv_istore_n (i := 3) (lv' := [(3, .int r11), (0, .ref (ad x0)), (1, .int x1), (2, .int x2)]) hx hb dX5_know_27 rfl hl (by decide) (by first | rfl | simp [re_cat, cat_i, cat_l, cat_r]) (fun ls hl => ?_)
      refine lv_aload_n hx hb dX5_know_28 rfl (lv_at hl 1 rfl) ?_
      refine lv_iload_n hx hb dX5_know_29 rfl (lv_at hl 0 rfl) ?_
      refine f_i (kS (As := [.int r11]) (rest := [.ref (ad x0)]) ⟨hx, hb, hml, hown, hts⟩ (c_J6_bitCount_0f7a4 l bX D cs ad r11 s10 _) (va_cwS 1 hts gX5_know_J6_bitCount_0f7a4 rfl rfl rfl (by decide +kernel) ⟨Nat.le_of_ble_eq_true rfl, Nat.le_of_ble_eq_true rfl⟩) hE hP h rfl hl.1 rfl (by first | exact lv_room (Nat.le_of_ble_eq_true rfl) | (refine lv_room ?_; simp [re_cat, cat_i, cat_l, cat_r])) dX5_know_30 ⟨Nat.le_refl _, Nat.le_refl _⟩) hS (fun r13 s12 H locs h hP hS => ?_)
      refine r_put (σ' := (setI s12 x0 9 r13)) (ci := 4) (v := .int r13) (ty := .int) (C := RX5) (T := TX5) (N := 12) hx hb hts hi_X5 tyX5 tyX5_ok nmX5 hown hE hP hS x0 (w_4 hE hk0) rfl 9 (by decide) (hts (.fieldLink RX5 71 "HemLine" "told" "I") (by decide +kernel)) (fun _ h9 => h9) rfl (by decide +kernel) rfl rfl (Nat.le_of_ble_eq_true rfl) dX5_know_33 (st_4_9 hE hk0 _) (fun H locs hP hS => ?_)
      refine lv_iload_n hx hb dX5_know_36 rfl (lv_at hl 0 rfl) ?_
      exact W.iret hx hb hr (fun t ht hW => ⟨⟨_, _, rfl, h, pw ht hP⟩, hS.F ht⟩) hS.2.2 dX5_know_37
    · replace h := h.1 c6
      refine lv_iconst (v := (-1)) hx hb dX5_know_16 (by decide) ?_
      exact W.iret hx hb hr (fun t ht hW => ⟨⟨_, _, rfl, h, pw ht hP⟩, hS.F ht⟩) hS.2.2 dX5_know_17
def p_X5_high (x0 : Nat) (x1 : Int32) (s : Sg) (Q : Int32 → Sg → Prop) : Prop := p_X5_isPast x0 x1 s (fun r2 s1 => ((r2 = 0 → Q ((-1)) s1) ∧ (¬ r2 = 0 → ∃ k4, tX x0 3 = some k4 ∧ kX k4 = 0 ∧ p_X0_everyone k4 s1 (fun r8 s7 => ∃ k9, tX x0 3 = some k9 ∧ kX k9 = 0 ∧ p_X0_knownBy k9 r8 x1 s7 (fun r13 s12 => p_J6_bitCount_0f7a4 bX r13 s12 (fun r15 s14 => ((r15 = 1 → ∃ k17, tX x0 3 = some k17 ∧ kX k17 = 0 ∧ p_X5_item (tX k17 9) x1 s14 (fun r21 s20 => Q r21 s20)) ∧ (¬ r15 = 1 → Q ((-9)) s14))))))))
set_option maxHeartbeats 4000000 in
set_option maxRecDepth 100000 in
theorem c_X5_high (l : Launch) (D : va_G) (cs : Cs) (ad : Nat → Nat) (x0 : Nat) (x1 : Int32) (s0 : Sg) (Q : Int32 → Sg → Prop) (hk0 : kX x0 = 4) : Met l yX5_high wsX5_high { frames := 6, cells := 0, slots := 0, locals := 143 } (Pc0 bX D cs ad [.ref (ad x0), .int x1] s0 (p_X5_high x0 x1 s0 Q)) (QI bX D cs ad Q) 0 0 (fAd bX ad) := by
  refine Met.ofW (cc := cX5_high) (maxL := 3) (ret := (some .int)) (by decide) rfl ?_
  intro p e s m args below meth c s₁ B0 hml hv
  obtain ⟨ha, hP, hE, h⟩ := hv
  have hx := B0.exec
  have hb := B0.bytes
  have hr := B0.returns
  have hts := atoms_spec (ws := wsX5_high) B0.pre
  have hown : s.vm.findClass RX5 = some m.cls := findClass_of_methodNamed B0.named
  have hlocks := B0.notSynchronized
  have hi_X0 : ∀ w ∈ u_ws RX0 TX0 15, w ∈ wsX5_high := by decide +kernel
  have hi_X5 : ∀ w ∈ u_ws RX5 TX5 12, w ∈ wsX5_high := by decide +kernel
  have hS : va_S (fAd bX ad) s.heap s.heap [] := va_S.rf
  have hl := lv_entry ([.ref (ad x0), .int x1]) (n := 3) (by first | exact Nat.le_of_ble_eq_true rfl | simp [lg_sl, re_cat, cat_i, cat_l, cat_r])
  rw [show entryFrame m args 3 = entryFrame m ([.ref (ad x0), .int x1] : List Value).toArray 3 by rw [ha], lg_entry_eq]
  generalize (lg_sl ([.ref (ad x0), .int x1]) ++ List.replicate (3 - (lg_sl ([.ref (ad x0), .int x1])).length) Slot.unset).toArray = ls at hl ⊢
  have hl : lv_has ls 3 [(0, .ref (ad x0)), (1, .int x1)] := by first | exact hl | simpa [lv_args, re_cat, cat_i, cat_l, cat_r] using hl
  unfold p_X5_high at h
  refine lv_aload_n hx hb dX5_high_0 rfl (lv_at hl 0 rfl) ?_
  refine lv_iload_n hx hb dX5_high_1 rfl (lv_at hl 1 rfl) ?_
  refine f_i (kV (As := [.int x1]) (rest := []) (o := some x0) rfl ⟨hx, hb, hml, hown, hts⟩ (c_X5_isPast l D cs ad x0 x1 s0 _ hk0) (cwV 1 hts gX5_high_X5_isPast rfl rfl rfl (by decide +kernel) ⟨Nat.le_of_ble_eq_true rfl, Nat.le_of_ble_eq_true rfl⟩) hE hP rfl rfl (w_4 hE hk0) h rfl hl.1 rfl (by first | exact lv_room (Nat.le_of_ble_eq_true rfl) | (refine lv_room ?_; simp [re_cat, cat_i, cat_l, cat_r])) dX5_high_2 ⟨Nat.le_refl _, Nat.le_refl _⟩) hS (fun r2 s1 H locs h hP hS => ?_)
  refine lv_if_ne (tgt := 10) hx hb dX5_high_5 (by decide) (fun c3 => ?_) (fun c3 => ?_)
  · replace h := h.2 c3
    refine lv_aload_n hx hb dX5_high_10 rfl (lv_at hl 0 rfl) ?_
    refine va_get (ci := 4) (v := va_re ad (tX x0 3)) (C := RX5) (T := TX5) (N := 12) hx hb hts hi_X5 hown hE.1 hP x0 (w_4 hE hk0) rfl 3 (by decide) (hts (.fieldLink RX5 33 "HemLine" "now" "LHemLine$Delta;") (by decide +kernel)) (fun _ h9 => h9) rfl dX5_high_11 ?_
    refine lv_aload_n hx hb dX5_high_14 rfl (lv_at hl 0 rfl) ?_
    refine va_get (ci := 4) (v := va_re ad (tX x0 3)) (C := RX5) (T := TX5) (N := 12) hx hb hts hi_X5 hown hE.1 hP x0 (w_4 hE hk0) rfl 3 (by decide) (hts (.fieldLink RX5 33 "HemLine" "now" "LHemLine$Delta;") (by decide +kernel)) (fun _ h9 => h9) rfl dX5_high_15 ?_
    obtain ⟨k4, e5, q6, h⟩ := h
    refine f_i (kV (As := []) (rest := [va_re ad (tX x0 3)]) e5 ⟨hx, hb, hml, hown, hts⟩ (c_X0_everyone l D cs ad k4 s1 _ q6) (cwV 0 hts gX5_high_X0_everyone rfl rfl rfl (by decide +kernel) ⟨Nat.le_of_ble_eq_true rfl, Nat.le_of_ble_eq_true rfl⟩) hE hP rfl rfl (w_0 hE q6) h rfl hl.1 rfl (by first | exact lv_room (Nat.le_of_ble_eq_true rfl) | (refine lv_room ?_; simp [re_cat, cat_i, cat_l, cat_r])) dX5_high_18 ⟨Nat.le_refl _, Nat.le_refl _⟩) hS (fun r8 s7 H locs h hP hS => ?_)
    refine lv_iload_n hx hb dX5_high_21 rfl (lv_at hl 1 rfl) ?_
    obtain ⟨k9, e10, q11, h⟩ := h
    refine f_i (kV (As := [.int r8, .int x1]) (rest := []) e10 ⟨hx, hb, hml, hown, hts⟩ (c_X0_knownBy l D cs ad k9 r8 x1 s7 _ q11) (cwV 2 hts gX5_high_X0_knownBy rfl rfl rfl (by decide +kernel) ⟨Nat.le_of_ble_eq_true rfl, Nat.le_of_ble_eq_true rfl⟩) hE hP rfl rfl (w_0 hE q11) h rfl hl.1 rfl (by first | exact lv_room (Nat.le_of_ble_eq_true rfl) | (refine lv_room ?_; simp [re_cat, cat_i, cat_l, cat_r])) dX5_high_22 ⟨Nat.le_refl _, Nat.le_refl _⟩) hS (fun r13 s12 H locs h hP hS => ?_)
    refine lv_istore_n (i := 2) (lv' := [(2, .int r13), (0, .ref (ad x0)), (1, .int x1)]) hx hb dX5_high_25 rfl hl (by decide) (by first | rfl | simp [re_cat, cat_i, cat_l, cat_r]) (fun ls hl => ?_)
    refine lv_iload_n hx hb dX5_high_26 rfl (lv_at hl 0 rfl) ?_
    refine f_i (kS (As := [.int r13]) (rest := []) ⟨hx, hb, hml, hown, hts⟩ (c_J6_bitCount_0f7a4 l bX D cs ad r13 s12 _) (va_cwS 1 hts gX5_high_J6_bitCount_0f7a4 rfl rfl rfl (by decide +kernel) ⟨Nat.le_of_ble_eq_true rfl, Nat.le_of_ble_eq_true rfl⟩) hE hP h rfl hl.1 rfl (by first | exact lv_room (Nat.le_of_ble_eq_true rfl) | (refine lv_room ?_; simp [re_cat, cat_i, cat_l, cat_r])) dX5_high_27 ⟨Nat.le_refl _, Nat.le_refl _⟩) hS (fun r15 s14 H locs h hP hS => ?_)
    refine lv_iconst (v := 1) hx hb dX5_high_30 (by decide) ?_
    refine lv_icmp_ne (tgt := 48) hx hb dX5_high_31 (by decide) (fun c16 => ?_) (fun c16 => ?_)
    · replace h := h.2 c16
      refine lv_bipush (v := (-9)) hx hb dX5_high_48 (by decide) ?_
      exact W.iret hx hb hr (fun t ht hW => ⟨⟨_, _, rfl, h, pw ht hP⟩, hS.F ht⟩) hS.2.2 dX5_high_50
    · replace h := h.1 c16
      refine lv_aload_n hx hb dX5_high_34 rfl (lv_at hl 1 rfl) ?_
      refine va_get (ci := 4) (v := va_re ad (tX x0 3)) (C := RX5) (T := TX5) (N := 12) hx hb hts hi_X5 hown hE.1 hP x0 (w_4 hE hk0) rfl 3 (by decide) (hts (.fieldLink RX5 33 "HemLine" "now" "LHemLine$Delta;") (by decide +kernel)) (fun _ h9 => h9) rfl dX5_high_35 ?_
      obtain ⟨k17, e18, q19, h⟩ := h
      refine r_known (ad := ad) e18 ?_
      refine va_getN (ci := 0) (v := va_re ad (tX k17 9)) (C := RX0) (T := TX0) (N := 15) hx hb hts hi_X0 hown hE.1 hP k17 (w_0 hE q19) rfl 9 (by decide) ((hE.2.2.2.1 ("HemLine", 222, "HemLine$Delta", "heightOf", "[I", "HemLine") (by decide +kernel)).use rfl) (fun _ h9 => h9) rfl dX5_high_38 ?_
      refine lv_iload_n hx hb dX5_high_41 rfl (lv_at hl 2 rfl) ?_
      refine f_i (kS (As := [va_re ad (tX k17 9), .int x1]) (rest := []) ⟨hx, hb, hml, hown, hts⟩ (c_X5_item l D cs ad (tX k17 9) x1 s14 _) (va_cwS 2 hts gX5_high_X5_item rfl rfl rfl (by decide +kernel) ⟨Nat.le_of_ble_eq_true rfl, Nat.le_of_ble_eq_true rfl⟩) hE hP h rfl hl.1 rfl (by first | exact lv_room (Nat.le_of_ble_eq_true rfl) | (refine lv_room ?_; simp [re_cat, cat_i, cat_l, cat_r])) dX5_high_42 ⟨Nat.le_refl _, Nat.le_refl _⟩) hS (fun r21 s20 H locs h hP hS => ?_)
      refine lv_goto (tgt := 50) hx hb dX5_high_45 (by decide) ?_
      exact W.iret hx hb hr (fun t ht hW => ⟨⟨_, _, rfl, h, pw ht hP⟩, hS.F ht⟩) hS.2.2 dX5_high_50
  · replace h := h.1 c3
    refine lv_iconst (v := (-1)) hx hb dX5_high_8 (by decide) ?_
    exact W.iret hx hb hr (fun t ht hW => ⟨⟨_, _, rfl, h, pw ht hP⟩, hS.F ht⟩) hS.2.2 dX5_high_9
