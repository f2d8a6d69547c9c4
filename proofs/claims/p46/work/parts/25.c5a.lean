def p_X5_found (x0 : Nat) (x1 : Int32) (s : Sg) (Q : Int32 → Sg → Prop) : Prop := p_X5_item (tX x0 7) x1 (setI s x0 8 x1) (fun r2 s1 => p_X5_setItem (tX x0 7) x1 (r2 + 1) s1 (fun s3 => Q ((-3)) s3))
set_option maxHeartbeats 4000000 in
set_option maxRecDepth 100000 in
theorem c_X5_found (l : Launch) (D : va_G) (cs : Cs) (ad : Nat → Nat) (x0 : Nat) (x1 : Int32) (s0 : Sg) (Q : Int32 → Sg → Prop) (hk0 : kX x0 = 4) : Met l yX5_found wsX5_found { frames := 1, cells := 0, slots := 0, locals := 22 } (Pc0 bX D cs ad [.ref (ad x0), .int x1] s0 (p_X5_found x0 x1 s0 Q)) (QI bX D cs ad Q) 0 0 (fAd bX ad) := by
  refine Met.ofW (cc := cX5_found) (maxL := 2) (ret := (some .int)) (by decide) rfl ?_
  intro p e s m args below meth c s₁ B0 hml hv
  obtain ⟨ha, hP, hE, h⟩ := hv
  have hx := B0.exec
  have hb := B0.bytes
  have hr := B0.returns
  have hts := atoms_spec (ws := wsX5_found) B0.pre
  have hown : s.vm.findClass RX5 = some m.cls := findClass_of_methodNamed B0.named
  have hlocks := B0.notSynchronized
  have hi_X5 : ∀ w ∈ u_ws RX5 TX5 12, w ∈ wsX5_found := by decide +kernel
  have hS : va_S (fAd bX ad) s.heap s.heap [] := va_S.rf
  have hl := lv_entry ([.ref (ad x0), .int x1]) (n := 2) (by first | exact Nat.le_of_ble_eq_true rfl | simp [lg_sl, re_cat, cat_i, cat_l, cat_r])
  rw [show entryFrame m args 2 = entryFrame m ([.ref (ad x0), .int x1] : List Value).toArray 2 by rw [ha], lg_entry_eq]
  generalize (lg_sl ([.ref (ad x0), .int x1]) ++ List.replicate (2 - (lg_sl ([.ref (ad x0), .int x1])).length) Slot.unset).toArray = ls at hl ⊢
  have hl : lv_has ls 2 [(0, .ref (ad x0)), (1, .int x1)] := by first | exact hl | simpa [lv_args, re_cat, cat_i, cat_l, cat_r] using hl
  unfold p_X5_found at h
  refine lv_aload_n hx hb dX5_found_0 rfl (lv_at hl 0 rfl) ?_
  refine lv_iload_n hx hb dX5_found_1 rfl (lv_at hl 1 rfl) ?_
  refine r_put (σ' := (setI s0 x0 8 x1)) (ci := 4) (v := .int x1) (ty := .int) (C := RX5) (T := TX5) (N := 12) hx hb hts hi_X5 tyX5 tyX5_ok nmX5 hown hE hP hS x0 (w_4 hE hk0) rfl 8 (by decide) (hts (.fieldLink RX5 310 "HemLine" "latestFinding" "I") (by decide +kernel)) (fun _ h9 => h9) rfl (by decide +kernel) rfl rfl (Nat.le_of_ble_eq_true rfl) dX5_found_2 (st_4_8 hE hk0 _) (fun H locs hP hS => ?_)
  refine lv_aload_n hx hb dX5_found_5 rfl (lv_at hl 0 rfl) ?_
  refine va_get (ci := 4) (v := va_re ad (tX x0 7)) (C := RX5) (T := TX5) (N := 12) hx hb hts hi_X5 hown hE.1 hP x0 (w_4 hE hk0) rfl 7 (by decide) (hts (.fieldLink RX5 52 "HemLine" "findingCounts" "[I") (by decide +kernel)) (fun _ h9 => h9) rfl dX5_found_6 ?_
  refine lv_iload_n hx hb dX5_found_9 rfl (lv_at hl 1 rfl) ?_
  refine lv_aload_n hx hb dX5_found_10 rfl (lv_at hl 0 rfl) ?_
  refine va_get (ci := 4) (v := va_re ad (tX x0 7)) (C := RX5) (T := TX5) (N := 12) hx hb hts hi_X5 hown hE.1 hP x0 (w_4 hE hk0) rfl 7 (by decide) (hts (.fieldLink RX5 52 "HemLine" "findingCounts" "[I") (by decide +kernel)) (fun _ h9 => h9) rfl dX5_found_11 ?_
  refine lv_iload_n hx hb dX5_found_14 rfl (lv_at hl 1 rfl) ?_
  refine f_i (kS (As := [va_re ad (tX x0 7), .int x1]) (rest := [.int x1, va_re ad (tX x0 7)]) ⟨hx, hb, hml, hown, hts⟩ (c_X5_item l D cs ad (tX x0 7) x1 (setI s0 x0 8 x1) _) (va_cwS 2 hts gX5_found_X5_item rfl rfl rfl (by decide +kernel) ⟨Nat.le_of_ble_eq_true rfl, Nat.le_of_ble_eq_true rfl⟩) hE hP h rfl hl.1 rfl (by first | exact lv_room (Nat.le_of_ble_eq_true rfl) | (refine lv_room ?_; simp [re_cat, cat_i, cat_l, cat_r])) dX5_found_15 ⟨Nat.le_refl _, Nat.le_refl _⟩) hS (fun r2 s1 H locs h hP hS => ?_)
  refine lv_iconst (v := 1) hx hb dX5_found_18 (by decide) ?_
  refine lv_iadd hx hb dX5_found_19 ?_
  refine f_v (kS (As := [va_re ad (tX x0 7), .int x1, .int (r2 + 1)]) (rest := []) ⟨hx, hb, hml, hown, hts⟩ (c_X5_setItem l D cs ad (tX x0 7) x1 (r2 + 1) s1 _) (va_cwS 3 hts gX5_found_X5_setItem rfl rfl rfl (by decide +kernel) ⟨Nat.le_of_ble_eq_true rfl, Nat.le_of_ble_eq_true rfl⟩) hE hP h rfl hl.1 rfl (by first | exact lv_room (Nat.le_of_ble_eq_true rfl) | (refine lv_room ?_; simp [re_cat, cat_i, cat_l, cat_r])) dX5_found_20 ⟨Nat.le_refl _, Nat.le_refl _⟩) hS (fun s3 H locs h hP hS => ?_)
  refine lv_bipush (v := (-3)) hx hb dX5_found_23 (by decide) ?_
  exact W.iret hx hb hr (fun t ht hW => ⟨⟨_, _, rfl, h, pw ht hP⟩, hS.F ht⟩) hS.2.2 dX5_found_25
def p_X5_makeItem (x0 : Nat) (x1 : Option Nat) (x2 : Int32) (x3 : Int32) (x4 : Int32) (x5 : Int32) (s : Sg) (Q : Int32 → Sg → Prop) : Prop := ∃ k1, x1 = some k1 ∧ kX k1 = 3 ∧ p_X4_isNumber k1 x2 s (fun r5 s4 => ((r5 = 0 → Q ((-1)) s4) ∧ (¬ r5 = 0 → ((x3 ≤ x4 → ((0 ≤ x3 → ∃ k9, x1 = some k9 ∧ kX k9 = 3 ∧ p_X4_make k9 x2 x3 x5 s4 (fun s12 => Q x3 s12)) ∧ (¬ 0 ≤ x3 → p_X5_found x0 5 s4 (fun r14 s13 => Q r14 s13)))) ∧ (¬ x3 ≤ x4 → Q ((-1)) s4)))))
set_option maxHeartbeats 4000000 in
set_option maxRecDepth 100000 in
theorem c_X5_makeItem (l : Launch) (D : va_G) (cs : Cs) (ad : Nat → Nat) (x0 : Nat) (x1 : Option Nat) (x2 : Int32) (x3 : Int32) (x4 : Int32) (x5 : Int32) (s0 : Sg) (Q : Int32 → Sg → Prop) (hk0 : kX x0 = 4) : Met l yX5_makeItem wsX5_makeItem { frames := 3, cells := 0, slots := 0, locals := 66 } (Pc0 bX D cs ad [.ref (ad x0), va_re ad x1, .int x2, .int x3, .int x4, .int x5] s0 (p_X5_makeItem x0 x1 x2 x3 x4 x5 s0 Q)) (QI bX D cs ad Q) 0 0 (fAd bX ad) := by
  refine Met.ofW (cc := cX5_makeItem) (maxL := 6) (ret := (some .int)) (by decide) rfl ?_
  intro p e s m args below meth c s₁ B0 hml hv
  obtain ⟨ha, hP, hE, h⟩ := hv
  have hx := B0.exec
  have hb := B0.bytes
  have hr := B0.returns
  have hts := atoms_spec (ws := wsX5_makeItem) B0.pre
  have hown : s.vm.findClass RX5 = some m.cls := findClass_of_methodNamed B0.named
  have hlocks := B0.notSynchronized
  have hS : va_S (fAd bX ad) s.heap s.heap [] := va_S.rf
  have hl := lv_entry ([.ref (ad x0), va_re ad x1, .int x2, .int x3, .int x4, .int x5]) (n := 6) (by first | exact Nat.le_of_ble_eq_true rfl | simp [lg_sl, re_cat, cat_i, cat_l, cat_r])
  rw [show entryFrame m args 6 = entryFrame m ([.ref (ad x0), va_re ad x1, .int x2, .int x3, .int x4, .int x5] : List Value).toArray 6 by rw [ha], lg_entry_eq]
  generalize (lg_sl ([.ref (ad x0), va_re ad x1, .int x2, .int x3, .int x4, .int x5]) ++ List.replicate (6 - (lg_sl ([.ref (ad x0), va_re ad x1, .int x2, .int x3, .int x4, .int x5])).length) Slot.unset).toArray = ls at hl ⊢
  have hl : lv_has ls 6 [(0, .ref (ad x0)), (1, va_re ad x1), (2, .int x2), (3, .int x3), (4, .int x4), (5, .int x5)] := by first | exact hl | simpa [lv_args, re_cat, cat_i, cat_l, cat_r] using hl
  unfold p_X5_makeItem at h
  refine r_aload_n hx hb dX5_makeItem_0 rfl (lv_at hl 1 rfl) ?_
  refine lv_iload_n hx hb dX5_makeItem_1 rfl (lv_at hl 2 rfl) ?_
  obtain ⟨k1, e2, q3, h⟩ := h
  refine f_i (kV (As := [.int x2]) (rest := []) e2 ⟨hx, hb, hml, hown, hts⟩ (c_X4_isNumber l D cs ad k1 x2 s0 _ q3) (cwV 1 hts gX5_makeItem_X4_isNumber rfl rfl rfl (by decide +kernel) ⟨Nat.le_of_ble_eq_true rfl, Nat.le_of_ble_eq_true rfl⟩) hE hP rfl rfl (w_3 hE q3) h rfl hl.1 rfl (by first | exact lv_room (Nat.le_of_ble_eq_true rfl) | (refine lv_room ?_; simp [re_cat, cat_i, cat_l, cat_r])) dX5_makeItem_2 ⟨Nat.le_refl _, Nat.le_refl _⟩) hS (fun r5 s4 H locs h hP hS => ?_)
  refine lv_if_eq (tgt := 14) hx hb dX5_makeItem_5 (by decide) (fun c6 => ?_) (fun c6 => ?_)
  · replace h := h.1 c6
    refine lv_iconst (v := (-1)) hx hb dX5_makeItem_14 (by decide) ?_
    exact W.iret hx hb hr (fun t ht hW => ⟨⟨_, _, rfl, h, pw ht hP⟩, hS.F ht⟩) hS.2.2 dX5_makeItem_15
  · replace h := h.2 c6
    refine lv_iload_n hx hb dX5_makeItem_8 rfl (lv_at hl 3 rfl) ?_
    refine lv_iload hx hb dX5_makeItem_9 (lv_at hl 4 rfl) ?_
    refine lv_icmp_le (tgt := 16) hx hb dX5_makeItem_11 (by decide) (fun c7 => ?_) (fun c7 => ?_)
    · replace h := h.1 c7
      refine lv_iload_n hx hb dX5_makeItem_16 rfl (lv_at hl 3 rfl) ?_
      refine lv_if_ge (tgt := 26) hx hb dX5_makeItem_17 (by decide) (fun c8 => ?_) (fun c8 => ?_)
      · replace h := h.1 c8
        refine r_aload_n hx hb dX5_makeItem_26 rfl (lv_at hl 1 rfl) ?_
        refine lv_iload_n hx hb dX5_makeItem_27 rfl (lv_at hl 2 rfl) ?_
        refine lv_iload_n hx hb dX5_makeItem_28 rfl (lv_at hl 3 rfl) ?_
        refine lv_iload hx hb dX5_makeItem_29 (lv_at hl 5 rfl) ?_
        obtain ⟨k9, e10, q11, h⟩ := h
        refine f_v (kV (As := [.int x2, .int x3, .int x5]) (rest := []) e10 ⟨hx, hb, hml, hown, hts⟩ (c_X4_make l D cs ad k9 x2 x3 x5 s4 _ q11) (cwV 3 hts gX5_makeItem_X4_make rfl rfl rfl (by decide +kernel) ⟨Nat.le_of_ble_eq_true rfl, Nat.le_of_ble_eq_true rfl⟩) hE hP rfl rfl (w_3 hE q11) h rfl hl.1 rfl (by first | exact lv_room (Nat.le_of_ble_eq_true rfl) | (refine lv_room ?_; simp [re_cat, cat_i, cat_l, cat_r])) dX5_makeItem_31 ⟨Nat.le_refl _, Nat.le_refl _⟩) hS (fun s12 H locs h hP hS => ?_)
        refine lv_iload_n hx hb dX5_makeItem_34 rfl (lv_at hl 3 rfl) ?_
        exact W.iret hx hb hr (fun t ht hW => ⟨⟨_, _, rfl, h, pw ht hP⟩, hS.F ht⟩) hS.2.2 dX5_makeItem_35
      · replace h := h.2 c8
        refine lv_aload_n hx hb dX5_makeItem_20 rfl (lv_at hl 0 rfl) ?_
        refine lv_iconst (v := 5) hx hb dX5_makeItem_21 (by decide) ?_
        refine f_i (kV (As := [.int 5]) (rest := []) (o := some x0) rfl ⟨hx, hb, hml, hown, hts⟩ (c_X5_found l D cs ad x0 5 s4 _ hk0) (cwV 1 hts gX5_makeItem_X5_found rfl rfl rfl (by decide +kernel) ⟨Nat.le_of_ble_eq_true rfl, Nat.le_of_ble_eq_true rfl⟩) hE hP rfl rfl (w_4 hE hk0) h rfl hl.1 rfl (by first | exact lv_room (Nat.le_of_ble_eq_true rfl) | (refine lv_room ?_; simp [re_cat, cat_i, cat_l, cat_r])) dX5_makeItem_22 ⟨Nat.le_refl _, Nat.le_refl _⟩) hS (fun r14 s13 H locs h hP hS => ?_)
        exact W.iret hx hb hr (fun t ht hW => ⟨⟨_, _, rfl, h, pw ht hP⟩, hS.F ht⟩) hS.2.2 dX5_makeItem_25
    · replace h := h.2 c7
      refine lv_iconst (v := (-1)) hx hb dX5_makeItem_14 (by decide) ?_
      exact W.iret hx hb hr (fun t ht hW => ⟨⟨_, _, rfl, h, pw ht hP⟩, hS.F ht⟩) hS.2.2 dX5_makeItem_15
def p_X5_row (x0 : Nat) (x1 : Int32) (x2 : Int32) (s : Sg) (Q : Int32 → Sg → Prop) : Prop := p_X5_makeItem x0 (tX x0 0) x1 x2 40 0 s (fun r2 s1 => Q r2 s1)
set_option maxHeartbeats 4000000 in
set_option maxRecDepth 100000 in
theorem c_X5_row (l : Launch) (D : va_G) (cs : Cs) (ad : Nat → Nat) (x0 : Nat) (x1 : Int32) (x2 : Int32) (s0 : Sg) (Q : Int32 → Sg → Prop) (hk0 : kX x0 = 4) : Met l yX5_row wsX5_row { frames := 4, cells := 0, slots := 0, locals := 91 } (Pc0 bX D cs ad [.ref (ad x0), .int x1, .int x2] s0 (p_X5_row x0 x1 x2 s0 Q)) (QI bX D cs ad Q) 0 0 (fAd bX ad) := by
  refine Met.ofW (cc := cX5_row) (maxL := 3) (ret := (some .int)) (by decide) rfl ?_
  intro p e s m args below meth c s₁ B0 hml hv
  obtain ⟨ha, hP, hE, h⟩ := hv
  have hx := B0.exec
  have hb := B0.bytes
  have hr := B0.returns
  have hts := atoms_spec (ws := wsX5_row) B0.pre
  have hown : s.vm.findClass RX5 = some m.cls := findClass_of_methodNamed B0.named
  have hlocks := B0.notSynchronized
  have hi_X5 : ∀ w ∈ u_ws RX5 TX5 12, w ∈ wsX5_row := by decide +kernel
  have hS : va_S (fAd bX ad) s.heap s.heap [] := va_S.rf
  have hl := lv_entry ([.ref (ad x0), .int x1, .int x2]) (n := 3) (by first | exact Nat.le_of_ble_eq_true rfl | simp [lg_sl, re_cat, cat_i, cat_l, cat_r])
  rw [show entryFrame m args 3 = entryFrame m ([.ref (ad x0), .int x1, .int x2] : List Value).toArray 3 by rw [ha], lg_entry_eq]
  generalize (lg_sl ([.ref (ad x0), .int x1, .int x2]) ++ List.replicate (3 - (lg_sl ([.ref (ad x0), .int x1, .int x2])).length) Slot.unset).toArray = ls at hl ⊢
  have hl : lv_has ls 3 [(0, .ref (ad x0)), (1, .int x1), (2, .int x2)] := by first | exact hl | simpa [lv_args, re_cat, cat_i, cat_l, cat_r] using hl
  unfold p_X5_row at h
  refine lv_aload_n hx hb dX5_row_0 rfl (lv_at hl 0 rfl) ?_
  refine lv_aload_n hx hb dX5_row_1 rfl (lv_at hl 0 rfl) ?_
  refine va_get (ci := 4) (v := va_re ad (tX x0 0)) (C := RX5) (T := TX5) (N := 12) hx hb hts hi_X5 hown hE.1 hP x0 (w_4 hE hk0) rfl 0 (by decide) (hts (.fieldLink RX5 16 "HemLine" "rows" "LHemLine$Shelf;") (by decide +kernel)) (fun _ h9 => h9) rfl dX5_row_2 ?_
  refine lv_iload_n hx hb dX5_row_5 rfl (lv_at hl 1 rfl) ?_
  refine lv_iload_n hx hb dX5_row_6 rfl (lv_at hl 2 rfl) ?_
  refine lv_bipush (v := 40) hx hb dX5_row_7 (by decide) ?_
  refine lv_iconst (v := 0) hx hb dX5_row_9 (by decide) ?_
  refine f_i (kV (As := [va_re ad (tX x0 0), .int x1, .int x2, .int 40, .int 0]) (rest := []) (o := some x0) rfl ⟨hx, hb, hml, hown, hts⟩ (c_X5_makeItem l D cs ad x0 (tX x0 0) x1 x2 40 0 s0 _ hk0) (cwV 5 hts gX5_row_X5_makeItem rfl rfl rfl (by decide +kernel) ⟨Nat.le_of_ble_eq_true rfl, Nat.le_of_ble_eq_true rfl⟩) hE hP rfl rfl (w_4 hE hk0) h rfl hl.1 rfl (by first | exact lv_room (Nat.le_of_ble_eq_true rfl) | (refine lv_room ?_; simp [re_cat, cat_i, cat_l, cat_r])) dX5_row_10 ⟨Nat.le_refl _, Nat.le_refl _⟩) hS (fun r2 s1 H locs h hP hS => ?_)
  exact W.iret hx hb hr (fun t ht hW => ⟨⟨_, _, rfl, h, pw ht hP⟩, hS.F ht⟩) hS.2.2 dX5_row_13
def p_X5_refusalOfItem (x0 : Nat) (x1 : Option Nat) (x2 : Int32) (s : Sg) (Q : Int32 → Sg → Prop) : Prop := ∃ k1, x1 = some k1 ∧ kX k1 = 3 ∧ p_X4_isNumber k1 x2 s (fun r5 s4 => ((r5 = 0 → Q ((-1)) s4) ∧ (¬ r5 = 0 → ∃ k7, x1 = some k7 ∧ kX k7 = 3 ∧ p_X4_isThere k7 x2 s4 (fun r11 s10 => ((r11 = 0 → p_X5_found x0 1 s10 (fun r14 s13 => Q r14 s13)) ∧ (¬ r11 = 0 → Q 0 s10))))))
set_option maxHeartbeats 4000000 in
set_option maxRecDepth 100000 in
theorem c_X5_refusalOfItem (l : Launch) (D : va_G) (cs : Cs) (ad : Nat → Nat) (x0 : Nat) (x1 : Option Nat) (x2 : Int32) (s0 : Sg) (Q : Int32 → Sg → Prop) (hk0 : kX x0 = 4) : Met l yX5_refusalOfItem wsX5_refusalOfItem { frames := 3, cells := 0, slots := 0, locals := 63 } (Pc0 bX D cs ad [.ref (ad x0), va_re ad x1, .int x2] s0 (p_X5_refusalOfItem x0 x1 x2 s0 Q)) (QI bX D cs ad Q) 0 0 (fAd bX ad) := by
  refine Met.ofW (cc := cX5_refusalOfItem) (maxL := 3) (ret := (some .int)) (by decide) rfl ?_
  intro p e s m args below meth c s₁ B0 hml hv
  obtain ⟨ha, hP, hE, h⟩ := hv
  have hx := B0.exec
  have hb := B0.bytes
  have hr := B0.returns
  have hts := atoms_spec (ws := wsX5_refusalOfItem) B0.pre
  have hown : s.vm.findClass RX5 = some m.cls := findClass_of_methodNamed B0.named
  have hlocks := B0.notSynchronized
  have hS : va_S (fAd bX ad) s.heap s.heap [] := va_S.rf
  have hl := lv_entry ([.ref (ad x0), va_re ad x1, .int x2]) (n := 3) (by first | exact Nat.le_of_ble_eq_true rfl | simp [lg_sl, re_cat, cat_i, cat_l, cat_r])
  rw [show entryFrame m args 3 = entryFrame m ([.ref (ad x0), va_re ad x1, .int x2] : List Value).toArray 3 by rw [ha], lg_entry_eq]
  generalize (lg_sl ([.ref (ad x0), va_re ad x1, .int x2]) ++ List.replicate (3 - (lg_sl ([.ref (ad x0), va_re ad x1, .int x2])).length) Slot.unset).toArray = ls at hl ⊢
  have hl : lv_has ls 3 [(0, .ref (ad x0)), (1, va_re ad x1), (2, .int x2)] := by first | exact hl | simpa [lv_args, re_cat, cat_i, cat_l, cat_r] using hl
  unfold p_X5_refusalOfItem at h
  refine r_aload_n hx hb dX5_refusalOfItem_0 rfl (lv_at hl 1 rfl) ?_
  refine lv_iload_n hx hb dX5_refusalOfItem_1 rfl (lv_at hl 2 rfl) ?_
  obtain ⟨k1, e2, q3, h⟩ := h
  refine f_i (kV (As := [.int x2]) (rest := []) e2 ⟨hx, hb, hml, hown, hts⟩ (c_X4_isNumber l D cs ad k1 x2 s0 _ q3) (cwV 1 hts gX5_refusalOfItem_X4_isNumber rfl rfl rfl (by decide +kernel) ⟨Nat.le_of_ble_eq_true rfl, Nat.le_of_ble_eq_true rfl⟩) hE hP rfl rfl (w_3 hE q3) h rfl hl.1 rfl (by first | exact lv_room (Nat.le_of_ble_eq_true rfl) | (refine lv_room ?_; simp [re_cat, cat_i, cat_l, cat_r])) dX5_refusalOfItem_2 ⟨Nat.le_refl _, Nat.le_refl _⟩) hS (fun r5 s4 H locs h hP hS => ?_)
  refine lv_if_ne (tgt := 10) hx hb dX5_refusalOfItem_5 (by decide) (fun c6 => ?_) (fun c6 => ?_)
  · replace h := h.2 c6
    refine r_aload_n hx hb dX5_refusalOfItem_10 rfl (lv_at hl 1 rfl) ?_
    refine lv_iload_n hx hb dX5_refusalOfItem_11 rfl (lv_at hl 2 rfl) ?_
    obtain ⟨k7, e8, q9, h⟩ := h
    refine f_i (kV (As := [.int x2]) (rest := []) e8 ⟨hx, hb, hml, hown, hts⟩ (c_X4_isThere l D cs ad k7 x2 s4 _ q9) (cwV 1 hts gX5_refusalOfItem_X4_isThere rfl rfl rfl (by decide +kernel) ⟨Nat.le_of_ble_eq_true rfl, Nat.le_of_ble_eq_true rfl⟩) hE hP rfl rfl (w_3 hE q9) h rfl hl.1 rfl (by first | exact lv_room (Nat.le_of_ble_eq_true rfl) | (refine lv_room ?_; simp [re_cat, cat_i, cat_l, cat_r])) dX5_refusalOfItem_12 ⟨Nat.le_refl _, Nat.le_refl _⟩) hS (fun r11 s10 H locs h hP hS => ?_)
    refine lv_if_eq (tgt := 22) hx hb dX5_refusalOfItem_15 (by decide) (fun c12 => ?_) (fun c12 => ?_)
    · replace h := h.1 c12
      refine lv_aload_n hx hb dX5_refusalOfItem_22 rfl (lv_at hl 0 rfl) ?_
      refine lv_iconst (v := 1) hx hb dX5_refusalOfItem_23 (by decide) ?_
      refine f_i (kV (As := [.int 1]) (rest := []) (o := some x0) rfl ⟨hx, hb, hml, hown, hts⟩ (c_X5_found l D cs ad x0 1 s10 _ hk0) (cwV 1 hts gX5_refusalOfItem_X5_found rfl rfl rfl (by decide +kernel) ⟨Nat.le_of_ble_eq_true rfl, Nat.le_of_ble_eq_true rfl⟩) hE hP rfl rfl (w_4 hE hk0) h rfl hl.1 rfl (by first | exact lv_room (Nat.le_of_ble_eq_true rfl) | (refine lv_room ?_; simp [re_cat, cat_i, cat_l, cat_r])) dX5_refusalOfItem_24 ⟨Nat.le_refl _, Nat.le_refl _⟩) hS (fun r14 s13 H locs h hP hS => ?_)
      exact W.iret hx hb hr (fun t ht hW => ⟨⟨_, _, rfl, h, pw ht hP⟩, hS.F ht⟩) hS.2.2 dX5_refusalOfItem_27
    · replace h := h.2 c12
      refine lv_iconst (v := 0) hx hb dX5_refusalOfItem_18 (by decide) ?_
      refine lv_goto (tgt := 27) hx hb dX5_refusalOfItem_19 (by decide) ?_
      exact W.iret hx hb hr (fun t ht hW => ⟨⟨_, _, rfl, h, pw ht hP⟩, hS.F ht⟩) hS.2.2 dX5_refusalOfItem_27
  · replace h := h.1 c6
    refine lv_iconst (v := (-1)) hx hb dX5_refusalOfItem_8 (by decide) ?_
    exact W.iret hx hb hr (fun t ht hW => ⟨⟨_, _, rfl, h, pw ht hP⟩, hS.F ht⟩) hS.2.2 dX5_refusalOfItem_9
def p_X5_refusalOfCell (x0 : Nat) (x1 : Option Nat) (x2 : Int32) (x3 : Int32) (s : Sg) (Q : Int32 → Sg → Prop) : Prop := p_X5_refusalOfItem x0 x1 x2 s (fun r2 s1 => ((r2 = 0 → ∃ k4, x1 = some k4 ∧ kX k4 = 3 ∧ p_X4_isCell k4 x2 x3 s1 (fun r8 s7 => ((r8 = 0 → p_X5_found x0 2 s7 (fun r11 s10 => Q r11 s10)) ∧ (¬ r8 = 0 → Q 0 s7)))) ∧ (¬ r2 = 0 → Q r2 s1)))
set_option maxHeartbeats 4000000 in
set_option maxRecDepth 100000 in
theorem c_X5_refusalOfCell (l : Launch) (D : va_G) (cs : Cs) (ad : Nat → Nat) (x0 : Nat) (x1 : Option Nat) (x2 : Int32) (x3 : Int32) (s0 : Sg) (Q : Int32 → Sg → Prop) (hk0 : kX x0 = 4) : Met l yX5_refusalOfCell wsX5_refusalOfCell { frames := 4, cells := 0, slots := 0, locals := 85 } (Pc0 bX D cs ad [.ref (ad x0), va_re ad x1, .int x2, .int x3] s0 (p_X5_refusalOfCell x0 x1 x2 x3 s0 Q)) (QI bX D cs ad Q) 0 0 (fAd bX ad) := by
  refine Met.ofW (cc := cX5_refusalOfCell) (maxL := 5) (ret := (some .int)) (by decide) rfl ?_
  intro p e s m args below meth c s₁ B0 hml hv
  obtain ⟨ha, hP, hE, h⟩ := hv
  have hx := B0.exec
  have hb := B0.bytes
  have hr := B0.returns
  have hts := atoms_spec (ws := wsX5_refusalOfCell) B0.pre
  have hown : s.vm.findClass RX5 = some m.cls := findClass_of_methodNamed B0.named
  have hlocks := B0.notSynchronized
  have hS : va_S (fAd bX ad) s.heap s.heap [] := va_S.rf
  have hl := lv_entry ([.ref (ad x0), va_re ad x1, .int x2, .int x3]) (n := 5) (by first | exact Nat.le_of_ble_eq_true rfl | simp [lg_sl, re_cat, cat_i, cat_l, cat_r])
  rw [show entryFrame m args 5 = entryFrame m ([.ref (ad x0), va_re ad x1, .int x2, .int x3] : List Value).toArray 5 by rw [ha], lg_entry_eq]
  generalize (lg_sl ([.ref (ad x0), va_re ad x1, .int x2, .int x3]) ++ List.replicate (5 - (lg_sl ([.ref (ad x0), va_re ad x1, .int x2, .int x3])).length) Slot.unset).toArray = ls at hl ⊢
  have hl : lv_has ls 5 [(0, .ref (ad x0)), (1, va_re ad x1), (2, .int x2), (3, .int x3)] := by first | exact hl | simpa [lv_args, re_cat, cat_i, cat_l, cat_r] using hl
  unfold p_X5_refusalOfCell at h
  refine lv_aload_n hx hb dX5_refusalOfCell_0 rfl (lv_at hl 0 rfl) ?_
  refine r_aload_n hx hb dX5_refusalOfCell_1 rfl (lv_at hl 1 rfl) ?_
  refine lv_iload_n hx hb dX5_refusalOfCell_2 rfl (lv_at hl 2 rfl) ?_
  refine f_i (kV (As := [va_re ad x1, .int x2]) (rest := []) (o := some x0) rfl ⟨hx, hb, hml, hown, hts⟩ (c_X5_refusalOfItem l D cs ad x0 x1 x2 s0 _ hk0) (cwV 2 hts gX5_refusalOfCell_X5_refusalOfItem rfl rfl rfl (by decide +kernel) ⟨Nat.le_of_ble_eq_true rfl, Nat.le_of_ble_eq_true rfl⟩) hE hP rfl rfl (w_4 hE hk0) h rfl hl.1 rfl (by first | exact lv_room (Nat.le_of_ble_eq_true rfl) | (refine lv_room ?_; simp [re_cat, cat_i, cat_l, cat_r])) dX5_refusalOfCell_3 ⟨Nat.le_refl _, Nat.le_refl _⟩) hS (fun r2 s1 H locs h hP hS => ?_)
  refine lv_istore (i := 4) (lv' := [(4, .int r2), (0, .ref (ad x0)), (1, va_re ad x1), (2, .int x2), (3, .int x3)]) hx hb dX5_refusalOfCell_6 hl (by decide) (by first | rfl | simp [re_cat, cat_i, cat_l, cat_r]) (fun ls hl => ?_)
  refine lv_iload hx hb dX5_refusalOfCell_8 (lv_at hl 0 rfl) ?_
  refine lv_if_eq (tgt := 16) hx hb dX5_refusalOfCell_10 (by decide) (fun c3 => ?_) (fun c3 => ?_)
  · replace h := h.1 c3
    refine r_aload_n hx hb dX5_refusalOfCell_16 rfl (lv_at hl 2 rfl) ?_
    refine lv_iload_n hx hb dX5_refusalOfCell_17 rfl (lv_at hl 3 rfl) ?_
    refine lv_iload_n hx hb dX5_refusalOfCell_18 rfl (lv_at hl 4 rfl) ?_
    obtain ⟨k4, e5, q6, h⟩ := h
    refine f_i (kV (As := [.int x2, .int x3]) (rest := []) e5 ⟨hx, hb, hml, hown, hts⟩ (c_X4_isCell l D cs ad k4 x2 x3 s1 _ q6) (cwV 2 hts gX5_refusalOfCell_X4_isCell rfl rfl rfl (by decide +kernel) ⟨Nat.le_of_ble_eq_true rfl, Nat.le_of_ble_eq_true rfl⟩) hE hP rfl rfl (w_3 hE q6) h rfl hl.1 rfl (by first | exact lv_room (Nat.le_of_ble_eq_true rfl) | (refine lv_room ?_; simp [re_cat, cat_i, cat_l, cat_r])) dX5_refusalOfCell_19 ⟨Nat.le_refl _, Nat.le_refl _⟩) hS (fun r8 s7 H locs h hP hS => ?_)
    refine lv_if_eq (tgt := 29) hx hb dX5_refusalOfCell_22 (by decide) (fun c9 => ?_) (fun c9 => ?_)
    · replace h := h.1 c9
      refine lv_aload_n hx hb dX5_refusalOfCell_29 rfl (lv_at hl 1 rfl) ?_
      refine lv_iconst (v := 2) hx hb dX5_refusalOfCell_30 (by decide) ?_
      refine f_i (kV (As := [.int 2]) (rest := []) (o := some x0) rfl ⟨hx, hb, hml, hown, hts⟩ (c_X5_found l D cs ad x0 2 s7 _ hk0) (cwV 1 hts gX5_refusalOfCell_X5_found rfl rfl rfl (by decide +kernel) ⟨Nat.le_of_ble_eq_true rfl, Nat.le_of_ble_eq_true rfl⟩) hE hP rfl rfl (w_4 hE hk0) h rfl hl.1 rfl (by first | exact lv_room (Nat.le_of_ble_eq_true rfl) | (refine lv_room ?_; simp [re_cat, cat_i, cat_l, cat_r])) dX5_refusalOfCell_31 ⟨Nat.le_refl _, Nat.le_refl _⟩) hS (fun r11 s10 H locs h hP hS => ?_)
      exact W.iret hx hb hr (fun t ht hW => ⟨⟨_, _, rfl, h, pw ht hP⟩, hS.F ht⟩) hS.2.2 dX5_refusalOfCell_34
    · replace h := h.2 c9
      refine lv_iconst (v := 0) hx hb dX5_refusalOfCell_25 (by decide) ?_
      refine lv_goto (tgt := 34) hx hb dX5_refusalOfCell_26 (by decide) ?_
      exact W.iret hx hb hr (fun t ht hW => ⟨⟨_, _, rfl, h, pw ht hP⟩, hS.F ht⟩) hS.2.2 dX5_refusalOfCell_34
  · replace h := h.2 c3
    refine lv_iload hx hb dX5_refusalOfCell_13 (lv_at hl 0 rfl) ?_
    exact W.iret hx hb hr (fun t ht hW => ⟨⟨_, _, rfl, h, pw ht hP⟩, hS.F ht⟩) hS.2.2 dX5_refusalOfCell_15
def p_X5_lay (x0 : Nat) (x1 : Int32) (x2 : Int32) (x3 : Int32) (s : Sg) (Q : Int32 → Sg → Prop) : Prop := p_X5_refusalOfCell x0 (tX x0 0) x1 x2 s (fun r2 s1 => ((r2 = 0 → ∃ k4, tX x0 0 = some k4 ∧ kX k4 = 3 ∧ p_X4_cell k4 x1 x2 s1 (fun r8 s7 => ∃ k9, tX x0 0 = some k9 ∧ kX k9 = 3 ∧ p_X4_setCell k9 x1 x2 x3 (setI s7 x0 9 r8) (fun s12 => Q 1 s12))) ∧ (¬ r2 = 0 → Q r2 s1)))
set_option maxHeartbeats 4000000 in
set_option maxRecDepth 100000 in
theorem c_X5_lay (l : Launch) (D : va_G) (cs : Cs) (ad : Nat → Nat) (x0 : Nat) (x1 : Int32) (x2 : Int32) (x3 : Int32) (s0 : Sg) (Q : Int32 → Sg → Prop) (hk0 : kX x0 = 4) : Met l yX5_lay wsX5_lay { frames := 5, cells := 0, slots := 0, locals := 109 } (Pc0 bX D cs ad [.ref (ad x0), .int x1, .int x2, .int x3] s0 (p_X5_lay x0 x1 x2 x3 s0 Q)) (QI bX D cs ad Q) 0 0 (fAd bX ad) := by
  refine Met.ofW (cc := cX5_lay) (maxL := 5) (ret := (some .int)) (by decide) rfl ?_
  intro p e s m args below meth c s₁ B0 hml hv
  obtain ⟨ha, hP, hE, h⟩ := hv
  have hx := B0.exec
  have hb := B0.bytes
  have hr := B0.returns
  have hts := atoms_spec (ws := wsX5_lay) B0.pre
  have hown : s.vm.findClass RX5 = some m.cls := findClass_of_methodNamed B0.named
  have hlocks := B0.notSynchronized
  have hi_X5 : ∀ w ∈ u_ws RX5 TX5 12, w ∈ wsX5_lay := by decide +kernel
  have hS : va_S (fAd bX ad) s.heap s.heap [] := va_S.rf
  have hl := lv_entry ([.ref (ad x0), .int x1, .int x2, .int x3]) (n := 5) (by first | exact Nat.le_of_ble_eq_true rfl | simp [lg_sl, re_cat, cat_i, cat_l, cat_r])
  rw [show entryFrame m args 5 = entryFrame m ([.ref (ad x0), .int x1, .int x2, .int x3] : List Value).toArray 5 by rw [ha], lg_entry_eq]
  generalize (lg_sl ([.ref (ad x0), .int x1, .int x2, .int x3]) ++ List.replicate (5 - (lg_sl ([.ref (ad x0), .int x1, .int x2, .int x3])).length) Slot.unset).toArray = ls at hl ⊢
  have hl : lv_has ls 5 [(0, .ref (ad x0)), (1, .int x1), (2, .int x2), (3, .int x3)] := by first | exact hl | simpa [lv_args, re_cat, cat_i, cat_l, cat_r] using hl
  unfold p_X5_lay at h
  refine lv_aload_n hx hb dX5_lay_0 rfl (lv_at hl 0 rfl) ?_
  refine lv_aload_n hx hb dX5_lay_1 rfl (lv_at hl 0 rfl) ?_
  refine va_get (ci := 4) (v := va_re ad (tX x0 0)) (C := RX5) (T := TX5) (N := 12) hx hb hts hi_X5 hown hE.1 hP x0 (w_4 hE hk0) rfl 0 (by decide) (hts (.fieldLink RX5 16 "HemLine" "rows" "LHemLine$Shelf;") (by decide +kernel)) (fun _ h9 => h9) rfl dX5_lay_2 ?_
  refine lv_iload_n hx hb dX5_lay_5 rfl (lv_at hl 1 rfl) ?_
  refine lv_iload_n hx hb dX5_lay_6 rfl (lv_at hl 2 rfl) ?_
  refine f_i (kV (As := [va_re ad (tX x0 0), .int x1, .int x2]) (rest := []) (o := some x0) rfl ⟨hx, hb, hml, hown, hts⟩ (c_X5_refusalOfCell l D cs ad x0 (tX x0 0) x1 x2 s0 _ hk0) (cwV 3 hts gX5_lay_X5_refusalOfCell rfl rfl rfl (by decide +kernel) ⟨Nat.le_of_ble_eq_true rfl, Nat.le_of_ble_eq_true rfl⟩) hE hP rfl rfl (w_4 hE hk0) h rfl hl.1 rfl (by first | exact lv_room (Nat.le_of_ble_eq_true rfl) | (refine lv_room ?_; simp [re_cat, cat_i, cat_l, cat_r])) dX5_lay_7 ⟨Nat.le_refl _, Nat.le_refl _⟩) hS (fun r2 s1 H locs h hP hS => ?_)
  refine lv_istore (i := 4) (lv' := [(4, .int r2), (0, .ref (ad x0)), (1, .int x1), (2, .int x2), (3, .int x3)]) hx hb dX5_lay_10 hl (by decide) (by first | rfl | simp [re_cat, cat_i, cat_l, cat_r]) (fun ls hl => ?_)
  refine lv_iload hx hb dX5_lay_12 (lv_at hl 0 rfl) ?_
  refine lv_if_eq (tgt := 20) hx hb dX5_lay_14 (by decide) (fun c3 => ?_) (fun c3 => ?_)
  · replace h := h.1 c3
    refine lv_aload_n hx hb dX5_lay_20 rfl (lv_at hl 1 rfl) ?_
    refine lv_aload_n hx hb dX5_lay_21 rfl (lv_at hl 1 rfl) ?_
    refine va_get (ci := 4) (v := va_re ad (tX x0 0)) (C := RX5) (T := TX5) (N := 12) hx hb hts hi_X5 hown hE.1 hP x0 (w_4 hE hk0) rfl 0 (by decide) (hts (.fieldLink RX5 16 "HemLine" "rows" "LHemLine$Shelf;") (by decide +kernel)) (fun _ h9 => h9) rfl dX5_lay_22 ?_
    refine lv_iload_n hx hb dX5_lay_25 rfl (lv_at hl 2 rfl) ?_
    refine lv_iload_n hx hb dX5_lay_26 rfl (lv_at hl 3 rfl) ?_
    obtain ⟨k4, e5, q6, h⟩ := h
    refine f_i (kV (As := [.int x1, .int x2]) (rest := [.ref (ad x0)]) e5 ⟨hx, hb, hml, hown, hts⟩ (c_X4_cell l D cs ad k4 x1 x2 s1 _ q6) (cwV 2 hts gX5_lay_X4_cell rfl rfl rfl (by decide +kernel) ⟨Nat.le_of_ble_eq_true rfl, Nat.le_of_ble_eq_true rfl⟩) hE hP rfl rfl (w_3 hE q6) h rfl hl.1 rfl (by first | exact lv_room (Nat.le_of_ble_eq_true rfl) | (refine lv_room ?_; simp [re_cat, cat_i, cat_l, cat_r])) dX5_lay_27 ⟨Nat.le_refl _, Nat.le_refl _⟩) hS (fun r8 s7 H locs h hP hS => ?_)
    refine r_put (σ' := (setI s7 x0 9 r8)) (ci := 4) (v := .int r8) (ty := .int) (C := RX5) (T := TX5) (N := 12) hx hb hts hi_X5 tyX5 tyX5_ok nmX5 hown hE hP hS x0 (w_4 hE hk0) rfl 9 (by decide) (hts (.fieldLink RX5 71 "HemLine" "told" "I") (by decide +kernel)) (fun _ h9 => h9) rfl (by decide +kernel) rfl rfl (Nat.le_of_ble_eq_true rfl) dX5_lay_30 (st_4_9 hE hk0 _) (fun H locs hP hS => ?_)
    refine lv_aload_n hx hb dX5_lay_33 rfl (lv_at hl 1 rfl) ?_
    refine va_get (ci := 4) (v := va_re ad (tX x0 0)) (C := RX5) (T := TX5) (N := 12) hx hb hts hi_X5 hown hE.1 hP x0 (w_4 hE hk0) rfl 0 (by decide) (hts (.fieldLink RX5 16 "HemLine" "rows" "LHemLine$Shelf;") (by decide +kernel)) (fun _ h9 => h9) rfl dX5_lay_34 ?_
    refine lv_iload_n hx hb dX5_lay_37 rfl (lv_at hl 2 rfl) ?_
    refine lv_iload_n hx hb dX5_lay_38 rfl (lv_at hl 3 rfl) ?_
    refine lv_iload_n hx hb dX5_lay_39 rfl (lv_at hl 4 rfl) ?_
    obtain ⟨k9, e10, q11, h⟩ := h
    refine f_v (kV (As := [.int x1, .int x2, .int x3]) (rest := []) e10 ⟨hx, hb, hml, hown, hts⟩ (c_X4_setCell l D cs ad k9 x1 x2 x3 (setI s7 x0 9 r8) _ q11) (cwV 3 hts gX5_lay_X4_setCell rfl rfl rfl (by decide +kernel) ⟨Nat.le_of_ble_eq_true rfl, Nat.le_of_ble_eq_true rfl⟩) hE hP rfl rfl (w_3 hE q11) h rfl hl.1 rfl (by first | exact lv_room (Nat.le_of_ble_eq_true rfl) | (refine lv_room ?_; simp [re_cat, cat_i, cat_l, cat_r])) dX5_lay_40 ⟨Nat.le_refl _, Nat.le_refl _⟩) hS (fun s12 H locs h hP hS => ?_)
    refine lv_iconst (v := 1) hx hb dX5_lay_43 (by decide) ?_
    exact W.iret hx hb hr (fun t ht hW => ⟨⟨_, _, rfl, h, pw ht hP⟩, hS.F ht⟩) hS.2.2 dX5_lay_44
  · replace h := h.2 c3
    refine lv_iload hx hb dX5_lay_17 (lv_at hl 0 rfl) ?_
    exact W.iret hx hb hr (fun t ht hW => ⟨⟨_, _, rfl, h, pw ht hP⟩, hS.F ht⟩) hS.2.2 dX5_lay_19
def p_X5_at (x0 : Nat) (x1 : Int32) (x2 : Int32) (s : Sg) (Q : Int32 → Sg → Prop) : Prop := p_X5_refusalOfCell x0 (tX x0 0) x1 x2 s (fun r2 s1 => ((r2 = 0 → ∃ k4, tX x0 0 = some k4 ∧ kX k4 = 3 ∧ p_X4_cell k4 x1 x2 s1 (fun r8 s7 => Q 1 (setI s7 x0 9 r8))) ∧ (¬ r2 = 0 → Q r2 s1)))
set_option maxHeartbeats 4000000 in
set_option maxRecDepth 100000 in
theorem c_X5_at (l : Launch) (D : va_G) (cs : Cs) (ad : Nat → Nat) (x0 : Nat) (x1 : Int32) (x2 : Int32) (s0 : Sg) (Q : Int32 → Sg → Prop) (hk0 : kX x0 = 4) : Met l yX5_at wsX5_at { frames := 5, cells := 0, slots := 0, locals := 109 } (Pc0 bX D cs ad [.ref (ad x0), .int x1, .int x2] s0 (p_X5_at x0 x1 x2 s0 Q)) (QI bX D cs ad Q) 0 0 (fAd bX ad) := by
  refine Met.ofW (cc := cX5_at) (maxL := 4) (ret := (some .int)) (by decide) rfl ?_
  intro p e s m args below meth c s₁ B0 hml hv
  obtain ⟨ha, hP, hE, h⟩ := hv
  have hx := B0.exec
  have hb := B0.bytes
  have hr := B0.returns
  have hts := atoms_spec (ws := wsX5_at) B0.pre
  have hown : s.vm.findClass RX5 = some m.cls := findClass_of_methodNamed B0.named
  have hlocks := B0.notSynchronized
  have hi_X5 : ∀ w ∈ u_ws RX5 TX5 12, w ∈ wsX5_at := by decide +kernel
  have hS : va_S (fAd bX ad) s.heap s.heap [] := va_S.rf
  have hl := lv_entry ([.ref (ad x0), .int x1, .int x2]) (n := 4) (by first | exact Nat.le_of_ble_eq_true rfl | simp [lg_sl, re_cat, cat_i, cat_l, cat_r])
  rw [show entryFrame m args 4 = entryFrame m ([.ref (ad x0), .int x1, .int x2] : List Value).toArray 4 by rw [ha], lg_entry_eq]
  generalize (lg_sl ([.ref (ad x0), .int x1, .int x2]) ++ List.replicate (4 - (lg_sl ([.ref (ad x0), .int x1, .int x2])).length) Slot.unset).toArray = ls at hl ⊢
  have hl : lv_has ls 4 [(0, .ref (ad x0)), (1, .int x1), (2, .int x2)] := by first | exact hl | simpa [lv_args, re_cat, cat_i, cat_l, cat_r] using hl
  unfold p_X5_at at h
  refine lv_aload_n hx hb dX5_at_0 rfl (lv_at hl 0 rfl) ?_
  refine lv_aload_n hx hb dX5_at_1 rfl (lv_at hl 0 rfl) ?_
  refine va_get (ci := 4) (v := va_re ad (tX x0 0)) (C := RX5) (T := TX5) (N := 12) hx hb hts hi_X5 hown hE.1 hP x0 (w_4 hE hk0) rfl 0 (by decide) (hts (.fieldLink RX5 16 "HemLine" "rows" "LHemLine$Shelf;") (by decide +kernel)) (fun _ h9 => h9) rfl dX5_at_2 ?_
  refine lv_iload_n hx hb dX5_at_5 rfl (lv_at hl 1 rfl) ?_
  refine lv_iload_n hx hb dX5_at_6 rfl (lv_at hl 2 rfl) ?_
  refine f_i (kV (As := [va_re ad (tX x0 0), .int x1, .int x2]) (rest := []) (o := some x0) rfl ⟨hx, hb, hml, hown, hts⟩ (c_X5_refusalOfCell l D cs ad x0 (tX x0 0) x1 x2 s0 _ hk0) (cwV 3 hts gX5_at_X5_refusalOfCell rfl rfl rfl (by decide +kernel) ⟨Nat.le_of_ble_eq_true rfl, Nat.le_of_ble_eq_true rfl⟩) hE hP rfl rfl (w_4 hE hk0) h rfl hl.1 rfl (by first | exact lv_room (Nat.le_of_ble_eq_true rfl) | (refine lv_room ?_; simp [re_cat, cat_i, cat_l, cat_r])) dX5_at_7 ⟨Nat.le_refl _, Nat.le_refl _⟩) hS (fun r2 s1 H locs h hP hS => ?_)
  refine lv_istore_n (i := 3) (lv' := [(3, .int r2), (0, .ref (ad x0)), (1, .int x1), (2, .int x2)]) hx hb dX5_at_10 rfl hl (by decide) (by first | rfl | simp [re_cat, cat_i, cat_l, cat_r]) (fun ls hl => ?_)
  refine lv_iload_n hx hb dX5_at_11 rfl (lv_at hl 0 rfl) ?_
  refine lv_if_eq (tgt := 17) hx hb dX5_at_12 (by decide) (fun c3 => ?_) (fun c3 => ?_)
  · replace h := h.1 c3
    refine lv_aload_n hx hb dX5_at_17 rfl (lv_at hl 1 rfl) ?_
    refine lv_aload_n hx hb dX5_at_18 rfl (lv_at hl 1 rfl) ?_
    refine va_get (ci := 4) (v := va_re ad (tX x0 0)) (C := RX5) (T := TX5) (N := 12) hx hb hts hi_X5 hown hE.1 hP x0 (w_4 hE hk0) rfl 0 (by decide) (hts (.fieldLink RX5 16 "HemLine" "rows" "LHemLine$Shelf;") (by decide +kernel)) (fun _ h9 => h9) rfl dX5_at_19 ?_
    refine lv_iload_n hx hb dX5_at_22 rfl (lv_at hl 2 rfl) ?_
    refine lv_iload_n hx hb dX5_at_23 rfl (lv_at hl 3 rfl) ?_
    obtain ⟨k4, e5, q6, h⟩ := h
    refine f_i (kV (As := [.int x1, .int x2]) (rest := [.ref (ad x0)]) e5 ⟨hx, hb, hml, hown, hts⟩ (c_X4_cell l D cs ad k4 x1 x2 s1 _ q6) (cwV 2 hts gX5_at_X4_cell rfl rfl rfl (by decide +kernel) ⟨Nat.le_of_ble_eq_true rfl, Nat.le_of_ble_eq_true rfl⟩) hE hP rfl rfl (w_3 hE q6) h rfl hl.1 rfl (by first | exact lv_room (Nat.le_of_ble_eq_true rfl) | (refine lv_room ?_; simp [re_cat, cat_i, cat_l, cat_r])) dX5_at_24 ⟨Nat.le_refl _, Nat.le_refl _⟩) hS (fun r8 s7 H locs h hP hS => ?_)
    refine r_put (σ' := (setI s7 x0 9 r8)) (ci := 4) (v := .int r8) (ty := .int) (C := RX5) (T := TX5) (N := 12) hx hb hts hi_X5 tyX5 tyX5_ok nmX5 hown hE hP hS x0 (w_4 hE hk0) rfl 9 (by decide) (hts (.fieldLink RX5 71 "HemLine" "told" "I") (by decide +kernel)) (fun _ h9 => h9) rfl (by decide +kernel) rfl rfl (Nat.le_of_ble_eq_true rfl) dX5_at_27 (st_4_9 hE hk0 _) (fun H locs hP hS => ?_)
    refine lv_iconst (v := 1) hx hb dX5_at_30 (by decide) ?_
    exact W.iret hx hb hr (fun t ht hW => ⟨⟨_, _, rfl, h, pw ht hP⟩, hS.F ht⟩) hS.2.2 dX5_at_31
  · replace h := h.2 c3
    refine lv_iload_n hx hb dX5_at_15 rfl (lv_at hl 0 rfl) ?_
    exact W.iret hx hb hr (fun t ht hW => ⟨⟨_, _, rfl, h, pw ht hP⟩, hS.F ht⟩) hS.2.2 dX5_at_16
def p_X5_tear (x0 : Nat) (x1 : Int32) (s : Sg) (Q : Int32 → Sg → Prop) : Prop := p_X5_refusalOfItem x0 (tX x0 0) x1 s (fun r2 s1 => ((r2 = 0 → ∃ k4, tX x0 0 = some k4 ∧ kX k4 = 3 ∧ p_X4_remove k4 x1 s1 (fun s7 => Q 1 s7)) ∧ (¬ r2 = 0 → Q r2 s1)))
set_option maxHeartbeats 4000000 in
set_option maxRecDepth 100000 in
theorem c_X5_tear (l : Launch) (D : va_G) (cs : Cs) (ad : Nat → Nat) (x0 : Nat) (x1 : Int32) (s0 : Sg) (Q : Int32 → Sg → Prop) (hk0 : kX x0 = 4) : Met l yX5_tear wsX5_tear { frames := 4, cells := 0, slots := 0, locals := 85 } (Pc0 bX D cs ad [.ref (ad x0), .int x1] s0 (p_X5_tear x0 x1 s0 Q)) (QI bX D cs ad Q) 0 0 (fAd bX ad) := by
  refine Met.ofW (cc := cX5_tear) (maxL := 3) (ret := (some .int)) (by decide) rfl ?_
  intro p e s m args below meth c s₁ B0 hml hv
  obtain ⟨ha, hP, hE, h⟩ := hv
  have hx := B0.exec
  have hb := B0.bytes
  have hr := B0.returns
  have hts := atoms_spec (ws := wsX5_tear) B0.pre
  have hown : s.vm.findClass RX5 = some m.cls := findClass_of_methodNamed B0.named
  have hlocks := B0.notSynchronized
  have hi_X5 : ∀ w ∈ u_ws RX5 TX5 12, w ∈ wsX5_tear := by decide +kernel
  have hS : va_S (fAd bX ad) s.heap s.heap [] := va_S.rf
  have hl := lv_entry ([.ref (ad x0), .int x1]) (n := 3) (by first | exact Nat.le_of_ble_eq_true rfl | simp [lg_sl, re_cat, cat_i, cat_l, cat_r])
  rw [show entryFrame m args 3 = entryFrame m ([.ref (ad x0), .int x1] : List Value).toArray 3 by rw [ha], lg_entry_eq]
  generalize (lg_sl ([.ref (ad x0), .int x1]) ++ List.replicate (3 - (lg_sl ([.ref (ad x0), .int x1])).length) Slot.unset).toArray = ls at hl ⊢
  have hl : lv_has ls 3 [(0, .ref (ad x0)), (1, .int x1)] := by first | exact hl | simpa [lv_args, re_cat, cat_i, cat_l, cat_r] using hl
  unfold p_X5_tear at h
  refine lv_aload_n hx hb dX5_tear_0 rfl (lv_at hl 0 rfl) ?_
  refine lv_aload_n hx hb dX5_tear_1 rfl (lv_at hl 0 rfl) ?_
  refine va_get (ci := 4) (v := va_re ad (tX x0 0)) (C := RX5) (T := TX5) (N := 12) hx hb hts hi_X5 hown hE.1 hP x0 (w_4 hE hk0) rfl 0 (by decide) (hts (.fieldLink RX5 16 "HemLine" "rows" "LHemLine$Shelf;") (by decide +kernel)) (fun _ h9 => h9) rfl dX5_tear_2 ?_
  refine lv_iload_n hx hb dX5_tear_5 rfl (lv_at hl 1 rfl) ?_
  refine f_i (kV (As := [va_re ad (tX x0 0), .int x1]) (rest := []) (o := some x0) rfl ⟨hx, hb, hml, hown, hts⟩ (c_X5_refusalOfItem l D cs ad x0 (tX x0 0) x1 s0 _ hk0) (cwV 2 hts gX5_tear_X5_refusalOfItem rfl rfl rfl (by decide +kernel) ⟨Nat.le_of_ble_eq_true rfl, Nat.le_of_ble_eq_true rfl⟩) hE hP rfl rfl (w_4 hE hk0) h rfl hl.1 rfl (by first | exact lv_room (Nat.le_of_ble_eq_true rfl) | (refine lv_room ?_; simp [re_cat, cat_i, cat_l, cat_r])) dX5_tear_6 ⟨Nat.le_refl _, Nat.le_refl _⟩) hS (fun r2 s1 H locs h hP hS => ?_)
  refine lv_istore_n (i := 2) (lv' := [(2, .int r2), (0, .ref (ad x0)), (1, .int x1)]) hx hb dX5_tear_9 rfl hl (by decide) (by first | rfl | simp [re_cat, cat_i, cat_l, cat_r]) (fun ls hl => ?_)
  refine lv_iload_n hx hb dX5_tear_10 rfl (lv_at hl 0 rfl) ?_
  refine lv_if_eq (tgt := 16) hx hb dX5_tear_11 (by decide) (fun c3 => ?_) (fun c3 => ?_)
  · replace h := h.1 c3
    refine lv_aload_n hx hb dX5_tear_16 rfl (lv_at hl 1 rfl) ?_
    refine va_get (ci := 4) (v := va_re ad (tX x0 0)) (C := RX5) (T := TX5) (N := 12) hx hb hts hi_X5 hown hE.1 hP x0 (w_4 hE hk0) rfl 0 (by decide) (hts (.fieldLink RX5 16 "HemLine" "rows" "LHemLine$Shelf;") (by decide +kernel)) (fun _ h9 => h9) rfl dX5_tear_17 ?_
    refine lv_iload_n hx hb dX5_tear_20 rfl (lv_at hl 2 rfl) ?_
    obtain ⟨k4, e5, q6, h⟩ := h
    refine f_v (kV (As := [.int x1]) (rest := []) e5 ⟨hx, hb, hml, hown, hts⟩ (c_X4_remove l D cs ad k4 x1 s1 _ q6) (cwV 1 hts gX5_tear_X4_remove rfl rfl rfl (by decide +kernel) ⟨Nat.le_of_ble_eq_true rfl, Nat.le_of_ble_eq_true rfl⟩) hE hP rfl rfl (w_3 hE q6) h rfl hl.1 rfl (by first | exact lv_room (Nat.le_of_ble_eq_true rfl) | (refine lv_room ?_; simp [re_cat, cat_i, cat_l, cat_r])) dX5_tear_21 ⟨Nat.le_refl _, Nat.le_refl _⟩) hS (fun s7 H locs h hP hS => ?_)
    refine lv_iconst (v := 1) hx hb dX5_tear_24 (by decide) ?_
    exact W.iret hx hb hr (fun t ht hW => ⟨⟨_, _, rfl, h, pw ht hP⟩, hS.F ht⟩) hS.2.2 dX5_tear_25
  · replace h := h.2 c3
    refine lv_iload_n hx hb dX5_tear_14 rfl (lv_at hl 0 rfl) ?_
    exact W.iret hx hb hr (fun t ht hW => ⟨⟨_, _, rfl, h, pw ht hP⟩, hS.F ht⟩) hS.2.2 dX5_tear_15
def p_X5_copy_b57 (Q : Int32 → Sg → Prop)  (x0 : Nat) (s : Sg) : Prop := p_X5_found x0 1 s (fun r2 s1 => Q r2 s1)
def p_X5_copy_b92 (Q : Int32 → Sg → Prop)  (x0 : Nat) (s : Sg) : Prop := p_X5_found x0 2 s (fun r2 s1 => Q r2 s1)
def p_X5_copy (x0 : Nat) (x1 : Int32) (x2 : Int32) (x3 : Int32) (x4 : Int32) (x5 : Int32) (s : Sg) (Q : Int32 → Sg → Prop) : Prop := ∃ k1, tX x0 0 = some k1 ∧ kX k1 = 3 ∧ p_X4_isNumber k1 x1 s (fun r5 s4 => ((r5 = 0 → Q ((-1)) s4) ∧ (¬ r5 = 0 → ∃ k7, tX x0 0 = some k7 ∧ kX k7 = 3 ∧ p_X4_isNumber k7 x3 s4 (fun r11 s10 => ((r11 = 0 → Q ((-1)) s10) ∧ (¬ r11 = 0 → ((0 ≤ x5 → ∃ k14, tX x0 0 = some k14 ∧ kX k14 = 3 ∧ p_X4_isThere k14 x1 s10 (fun r18 s17 => ((r18 = 0 → p_X5_copy_b57 Q  x0 s17) ∧ (¬ r18 = 0 → ∃ k20, tX x0 0 = some k20 ∧ kX k20 = 3 ∧ p_X4_isThere k20 x3 s17 (fun r24 s23 => ((r24 = 0 → p_X5_copy_b57 Q  x0 s23) ∧ (¬ r24 = 0 → ∃ k26, tX x0 0 = some k26 ∧ kX k26 = 3 ∧ p_X4_hasStretch k26 x1 x2 x5 s23 (fun r30 s29 => ((r30 = 0 → p_X5_copy_b92 Q  x0 s29) ∧ (¬ r30 = 0 → ∃ k32, tX x0 0 = some k32 ∧ kX k32 = 3 ∧ p_X4_hasStretch k32 x3 x4 x5 s29 (fun r36 s35 => ((r36 = 0 → p_X5_copy_b92 Q  x0 s35) ∧ (¬ r36 = 0 → ∃ k38, tX x0 0 = some k38 ∧ kX k38 = 3 ∧ p_X4_copyCells k38 x1 x2 x3 x4 x5 s35 (fun s41 => Q 1 s41)))))))))))))) ∧ (¬ 0 ≤ x5 → p_X5_found x0 5 s10 (fun r43 s42 => Q r43 s42)))))))))
set_option maxHeartbeats 4000000 in
set_option maxRecDepth 100000 in
theorem c_X5_copy (l : Launch) (D : va_G) (cs : Cs) (ad : Nat → Nat) (x0 : Nat) (x1 : Int32) (x2 : Int32) (x3 : Int32) (x4 : Int32) (x5 : Int32) (s0 : Sg) (Q : Int32 → Sg → Prop) (hk0 : kX x0 = 4) : Met l yX5_copy wsX5_copy { frames := 4, cells := 0, slots := 0, locals := 117 } (Pc0 bX D cs ad [.ref (ad x0), .int x1, .int x2, .int x3, .int x4, .int x5] s0 (p_X5_copy x0 x1 x2 x3 x4 x5 s0 Q)) (QI bX D cs ad Q) 0 0 (fAd bX ad) := by
  refine Met.ofW (cc := cX5_copy) (maxL := 6) (ret := (some .int)) (by decide) rfl ?_
  intro p e s m args below meth c s₁ B0 hml hv
  obtain ⟨ha, hP, hE, h⟩ := hv
  have hx := B0.exec
  have hb := B0.bytes
  have hr := B0.returns
  have hts := atoms_spec (ws := wsX5_copy) B0.pre
  have hown : s.vm.findClass RX5 = some m.cls := findClass_of_methodNamed B0.named
  have hlocks := B0.notSynchronized
  have hi_X5 : ∀ w ∈ u_ws RX5 TX5 12, w ∈ wsX5_copy := by decide +kernel
  have hS : va_S (fAd bX ad) s.heap s.heap [] := va_S.rf
  have hl := lv_entry ([.ref (ad x0), .int x1, .int x2, .int x3, .int x4, .int x5]) (n := 6) (by first | exact Nat.le_of_ble_eq_true rfl | simp [lg_sl, re_cat, cat_i, cat_l, cat_r])
  rw [show entryFrame m args 6 = entryFrame m ([.ref (ad x0), .int x1, .int x2, .int x3, .int x4, .int x5] : List Value).toArray 6 by rw [ha], lg_entry_eq]
  generalize (lg_sl ([.ref (ad x0), .int x1, .int x2, .int x3, .int x4, .int x5]) ++ List.replicate (6 - (lg_sl ([.ref (ad x0), .int x1, .int x2, .int x3, .int x4, .int x5])).length) Slot.unset).toArray = ls at hl ⊢
  have hl : lv_has ls 6 [(0, .ref (ad x0)), (1, .int x1), (2, .int x2), (3, .int x3), (4, .int x4), (5, .int x5)] := by first | exact hl | simpa [lv_args, re_cat, cat_i, cat_l, cat_r] using hl
  have hB57 : ∀  (σ : Sg) (H : Heap) (locs : List Loc) (ls : Array Slot), p_X5_copy_b57 Q  x0 σ → va_P D vwCl (wl bX cs ad σ) H → va_S (fAd bX ad) s.heap H locs → lv_has ls 6 [(0, .ref (ad x0))] → W p l e { frames := 4, cells := 0, slots := 0, locals := 117 } s m args below meth c H locs 0 0 (MQ below (QI bX D cs ad Q) args s 0 0 (fAd bX ad)) (F0 m 57 ls []) := by
    intro  σ H locs ls h hP hS hl
    unfold p_X5_copy_b57 at h
    refine lv_aload_n hx hb dX5_copy_57 rfl (lv_at hl 0 rfl) ?_
    refine lv_iconst (v := 1) hx hb dX5_copy_58 (by decide) ?_
    refine f_i (kV (As := [.int 1]) (rest := []) (o := some x0) rfl ⟨hx, hb, hml, hown, hts⟩ (c_X5_found l D cs ad x0 1 σ _ hk0) (cwV 1 hts gX5_copy_X5_found rfl rfl rfl (by decide +kernel) ⟨Nat.le_of_ble_eq_true rfl, Nat.le_of_ble_eq_true rfl⟩) hE hP rfl rfl (w_4 hE hk0) h rfl hl.1 rfl (by first | exact lv_room (Nat.le_of_ble_eq_true rfl) | (refine lv_room ?_; simp [re_cat, cat_i, cat_l, cat_r])) dX5_copy_59 ⟨Nat.le_refl _, Nat.le_refl _⟩) hS (fun r2 s1 H locs h hP hS => ?_)
    exact W.iret hx hb hr (fun t ht hW => ⟨⟨_, _, rfl, h, pw ht hP⟩, hS.F ht⟩) hS.2.2 dX5_copy_62
  have hB92 : ∀  (σ : Sg) (H : Heap) (locs : List Loc) (ls : Array Slot), p_X5_copy_b92 Q  x0 σ → va_P D vwCl (wl bX cs ad σ) H → va_S (fAd bX ad) s.heap H locs → lv_has ls 6 [(0, .ref (ad x0))] → W p l e { frames := 4, cells := 0, slots := 0, locals := 117 } s m args below meth c H locs 0 0 (MQ below (QI bX D cs ad Q) args s 0 0 (fAd bX ad)) (F0 m 92 ls []) := by
    intro  σ H locs ls h hP hS hl
    unfold p_X5_copy_b92 at h
    refine lv_aload_n hx hb dX5_copy_92 rfl (lv_at hl 0 rfl) ?_
    refine lv_iconst (v := 2) hx hb dX5_copy_93 (by decide) ?_
    refine f_i (kV (As := [.int 2]) (rest := []) (o := some x0) rfl ⟨hx, hb, hml, hown, hts⟩ (c_X5_found l D cs ad x0 2 σ _ hk0) (cwV 1 hts gX5_copy_X5_found rfl rfl rfl (by decide +kernel) ⟨Nat.le_of_ble_eq_true rfl, Nat.le_of_ble_eq_true rfl⟩) hE hP rfl rfl (w_4 hE hk0) h rfl hl.1 rfl (by first | exact lv_room (Nat.le_of_ble_eq_true rfl) | (refine lv_room ?_; simp [re_cat, cat_i, cat_l, cat_r])) dX5_copy_94 ⟨Nat.le_refl _, Nat.le_refl _⟩) hS (fun r2 s1 H locs h hP hS => ?_)
    exact W.iret hx hb hr (fun t ht hW => ⟨⟨_, _, rfl, h, pw ht hP⟩, hS.F ht⟩) hS.2.2 dX5_copy_97
  unfold p_X5_copy at h
  refine lv_aload_n hx hb dX5_copy_0 rfl (lv_at hl 0 rfl) ?_
  refine va_get (ci := 4) (v := va_re ad (tX x0 0)) (C := RX5) (T := TX5) (N := 12) hx hb hts hi_X5 hown hE.1 hP x0 (w_4 hE hk0) rfl 0 (by decide) (hts (.fieldLink RX5 16 "HemLine" "rows" "LHemLine$Shelf;") (by decide +kernel)) (fun _ h9 => h9) rfl dX5_copy_1 ?_
  refine lv_iload_n hx hb dX5_copy_4 rfl (lv_at hl 1 rfl) ?_
  obtain ⟨k1, e2, q3, h⟩ := h
  refine f_i (kV (As := [.int x1]) (rest := []) e2 ⟨hx, hb, hml, hown, hts⟩ (c_X4_isNumber l D cs ad k1 x1 s0 _ q3) (cwV 1 hts gX5_copy_X4_isNumber rfl rfl rfl (by decide +kernel) ⟨Nat.le_of_ble_eq_true rfl, Nat.le_of_ble_eq_true rfl⟩) hE hP rfl rfl (w_3 hE q3) h rfl hl.1 rfl (by first | exact lv_room (Nat.le_of_ble_eq_true rfl) | (refine lv_room ?_; simp [re_cat, cat_i, cat_l, cat_r])) dX5_copy_5 ⟨Nat.le_refl _, Nat.le_refl _⟩) hS (fun r5 s4 H locs h hP hS => ?_)
  refine lv_if_eq (tgt := 22) hx hb dX5_copy_8 (by decide) (fun c6 => ?_) (fun c6 => ?_)
  · replace h := h.1 c6
    refine lv_iconst (v := (-1)) hx hb dX5_copy_22 (by decide) ?_
    exact W.iret hx hb hr (fun t ht hW => ⟨⟨_, _, rfl, h, pw ht hP⟩, hS.F ht⟩) hS.2.2 dX5_copy_23
  · replace h := h.2 c6
    refine lv_aload_n hx hb dX5_copy_11 rfl (lv_at hl 0 rfl) ?_
    refine va_get (ci := 4) (v := va_re ad (tX x0 0)) (C := RX5) (T := TX5) (N := 12) hx hb hts hi_X5 hown hE.1 hP x0 (w_4 hE hk0) rfl 0 (by decide) (hts (.fieldLink RX5 16 "HemLine" "rows" "LHemLine$Shelf;") (by decide +kernel)) (fun _ h9 => h9) rfl dX5_copy_12 ?_
    refine lv_iload_n hx hb dX5_copy_15 rfl (lv_at hl 3 rfl) ?_
    obtain ⟨k7, e8, q9, h⟩ := h
    refine f_i (kV (As := [.int x3]) (rest := []) e8 ⟨hx, hb, hml, hown, hts⟩ (c_X4_isNumber l D cs ad k7 x3 s4 _ q9) (cwV 1 hts gX5_copy_X4_isNumber rfl rfl rfl (by decide +kernel) ⟨Nat.le_of_ble_eq_true rfl, Nat.le_of_ble_eq_true rfl⟩) hE hP rfl rfl (w_3 hE q9) h rfl hl.1 rfl (by first | exact lv_room (Nat.le_of_ble_eq_true rfl) | (refine lv_room ?_; simp [re_cat, cat_i, cat_l, cat_r])) dX5_copy_16 ⟨Nat.le_refl _, Nat.le_refl _⟩) hS (fun r11 s10 H locs h hP hS => ?_)
    refine lv_if_ne (tgt := 24) hx hb dX5_copy_19 (by decide) (fun c12 => ?_) (fun c12 => ?_)
    · replace h := h.2 c12
      refine lv_iload hx hb dX5_copy_24 (lv_at hl 5 rfl) ?_
      refine lv_if_ge (tgt := 35) hx hb dX5_copy_26 (by decide) (fun c13 => ?_) (fun c13 => ?_)
      · replace h := h.1 c13
        refine lv_aload_n hx hb dX5_copy_35 rfl (lv_at hl 0 rfl) ?_
        refine va_get (ci := 4) (v := va_re ad (tX x0 0)) (C := RX5) (T := TX5) (N := 12) hx hb hts hi_X5 hown hE.1 hP x0 (w_4 hE hk0) rfl 0 (by decide) (hts (.fieldLink RX5 16 "HemLine" "rows" "LHemLine$Shelf;") (by decide +kernel)) (fun _ h9 => h9) rfl dX5_copy_36 ?_
        refine lv_iload_n hx hb dX5_copy_39 rfl (lv_at hl 1 rfl) ?_
        obtain ⟨k14, e15, q16, h⟩ := h
        refine f_i (kV (As := [.int x1]) (rest := []) e15 ⟨hx, hb, hml, hown, hts⟩ (c_X4_isThere l D cs ad k14 x1 s10 _ q16) (cwV 1 hts gX5_copy_X4_isThere rfl rfl rfl (by decide +kernel) ⟨Nat.le_of_ble_eq_true rfl, Nat.le_of_ble_eq_true rfl⟩) hE hP rfl rfl (w_3 hE q16) h rfl hl.1 rfl (by first | exact lv_room (Nat.le_of_ble_eq_true rfl) | (refine lv_room ?_; simp [re_cat, cat_i, cat_l, cat_r])) dX5_copy_40 ⟨Nat.le_refl _, Nat.le_refl _⟩) hS (fun r18 s17 H locs h hP hS => ?_)
        refine lv_if_eq (tgt := 57) hx hb dX5_copy_43 (by decide) (fun c19 => ?_) (fun c19 => ?_)
        · replace h := h.1 c19
          exact hB57  s17 _ _ ls h hP hS (lv_sub hl [0] rfl)
        · replace h := h.2 c19
          refine lv_aload_n hx hb dX5_copy_46 rfl (lv_at hl 0 rfl) ?_
          refine va_get (ci := 4) (v := va_re ad (tX x0 0)) (C := RX5) (T := TX5) (N := 12) hx hb hts hi_X5 hown hE.1 hP x0 (w_4 hE hk0) rfl 0 (by decide) (hts (.fieldLink RX5 16 "HemLine" "rows" "LHemLine$Shelf;") (by decide +kernel)) (fun _ h9 => h9) rfl dX5_copy_47 ?_
          refine lv_iload_n hx hb dX5_copy_50 rfl (lv_at hl 3 rfl) ?_
          obtain ⟨k20, e21, q22, h⟩ := h
          refine f_i (kV (As := [.int x3]) (rest := []) e21 ⟨hx, hb, hml, hown, hts⟩ (c_X4_isThere l D cs ad k20 x3 s17 _ q22) (cwV 1 hts gX5_copy_X4_isThere rfl rfl rfl (by decide +kernel) ⟨Nat.le_of_ble_eq_true rfl, Nat.le_of_ble_eq_true rfl⟩) hE hP rfl rfl (w_3 hE q22) h rfl hl.1 rfl (by first | exact lv_room (Nat.le_of_ble_eq_true rfl) | (refine lv_room ?_; simp [re_cat, cat_i, cat_l, cat_r])) dX5_copy_51 ⟨Nat.le_refl _, Nat.le_refl _⟩) hS (fun r24 s23 H locs h hP hS => ?_)
          refine lv_if_ne (tgt := 63) hx hb dX5_copy_54 (by decide) (fun c25 => ?_) (fun c25 => ?_)
          · replace h := h.2 c25
            refine lv_aload_n hx hb dX5_copy_63 rfl (lv_at hl 0 rfl) ?_
            refine va_get (ci := 4) (v := va_re ad (tX x0 0)) (C := RX5) (T := TX5) (N := 12) hx hb hts hi_X5 hown hE.1 hP x0 (w_4 hE hk0) rfl 0 (by decide) (hts (.fieldLink RX5 16 "HemLine" "rows" "LHemLine$Shelf;") (by decide +kernel)) (fun _ h9 => h9) rfl dX5_copy_64 ?_
            refine lv_iload_n hx hb dX5_copy_67 rfl (lv_at hl 1 rfl) ?_
            refine lv_iload_n hx hb dX5_copy_68 rfl (lv_at hl 2 rfl) ?_
            refine lv_iload hx hb dX5_copy_69 (lv_at hl 5 rfl) ?_
            obtain ⟨k26, e27, q28, h⟩ := h
            refine f_i (kV (As := [.int x1, .int x2, .int x5]) (rest := []) e27 ⟨hx, hb, hml, hown, hts⟩ (c_X4_hasStretch l D cs ad k26 x1 x2 x5 s23 _ q28) (cwV 3 hts gX5_copy_X4_hasStretch rfl rfl rfl (by decide +kernel) ⟨Nat.le_of_ble_eq_true rfl, Nat.le_of_ble_eq_true rfl⟩) hE hP rfl rfl (w_3 hE q28) h rfl hl.1 rfl (by first | exact lv_room (Nat.le_of_ble_eq_true rfl) | (refine lv_room ?_; simp [re_cat, cat_i, cat_l, cat_r])) dX5_copy_71 ⟨Nat.le_refl _, Nat.le_refl _⟩) hS (fun r30 s29 H locs h hP hS => ?_)
            refine lv_if_eq (tgt := 92) hx hb dX5_copy_74 (by decide) (fun c31 => ?_) (fun c31 => ?_)
            · replace h := h.1 c31
              exact hB92  s29 _ _ ls h hP hS (lv_sub hl [0] rfl)
            · replace h := h.2 c31
              refine lv_aload_n hx hb dX5_copy_77 rfl (lv_at hl 0 rfl) ?_
              refine va_get (ci := 4) (v := va_re ad (tX x0 0)) (C := RX5) (T := TX5) (N := 12) hx hb hts hi_X5 hown hE.1 hP x0 (w_4 hE hk0) rfl 0 (by decide) (hts (.fieldLink RX5 16 "HemLine" "rows" "LHemLine$Shelf;") (by decide +kernel)) (fun _ h9 => h9) rfl dX5_copy_78 ?_
              refine lv_iload_n hx hb dX5_copy_81 rfl (lv_at hl 3 rfl) ?_
              refine lv_iload hx hb dX5_copy_82 (lv_at hl 4 rfl) ?_
              refine lv_iload hx hb dX5_copy_84 (lv_at hl 5 rfl) ?_
              obtain ⟨k32, e33, q34, h⟩ := h
              refine f_i (kV (As := [.int x3, .int x4, .int x5]) (rest := []) e33 ⟨hx, hb, hml, hown, hts⟩ (c_X4_hasStretch l D cs ad k32 x3 x4 x5 s29 _ q34) (cwV 3 hts gX5_copy_X4_hasStretch rfl rfl rfl (by decide +kernel) ⟨Nat.le_of_ble_eq_true rfl, Nat.le_of_ble_eq_true rfl⟩) hE hP rfl rfl (w_3 hE q34) h rfl hl.1 rfl (by first | exact lv_room (Nat.le_of_ble_eq_true rfl) | (refine lv_room ?_; simp [re_cat, cat_i, cat_l, cat_r])) dX5_copy_86 ⟨Nat.le_refl _, Nat.le_refl _⟩) hS (fun r36 s35 H locs h hP hS => ?_)
              refine lv_if_ne (tgt := 98) hx hb dX5_copy_89 (by decide) (fun c37 => ?_) (fun c37 => ?_)
              · replace h := h.2 c37
                refine lv_aload_n hx hb dX5_copy_98 rfl (lv_at hl 0 rfl) ?_
                refine va_get (ci := 4) (v := va_re ad (tX x0 0)) (C := RX5) (T := TX5) (N := 12) hx hb hts hi_X5 hown hE.1 hP x0 (w_4 hE hk0) rfl 0 (by decide) (hts (.fieldLink RX5 16 "HemLine" "rows" "LHemLine$Shelf;") (by decide +kernel)) (fun _ h9 => h9) rfl dX5_copy_99 ?_
                refine lv_iload_n hx hb dX5_copy_102 rfl (lv_at hl 1 rfl) ?_
                refine lv_iload_n hx hb dX5_copy_103 rfl (lv_at hl 2 rfl) ?_
                refine lv_iload_n hx hb dX5_copy_104 rfl (lv_at hl 3 rfl) ?_
                refine lv_iload hx hb dX5_copy_105 (lv_at hl 4 rfl) ?_
                refine lv_iload hx hb dX5_copy_107 (lv_at hl 5 rfl) ?_
                obtain ⟨k38, e39, q40, h⟩ := h
                refine f_v (kV (As := [.int x1, .int x2, .int x3, .int x4, .int x5]) (rest := []) e39 ⟨hx, hb, hml, hown, hts⟩ (c_X4_copyCells l D cs ad k38 x1 x2 x3 x4 x5 s35 _ q40) (cwV 5 hts gX5_copy_X4_copyCells rfl rfl rfl (by decide +kernel) ⟨Nat.le_of_ble_eq_true rfl, Nat.le_of_ble_eq_true rfl⟩) hE hP rfl rfl (w_3 hE q40) h rfl hl.1 rfl (by first | exact lv_room (Nat.le_of_ble_eq_true rfl) | (refine lv_room ?_; simp [re_cat, cat_i, cat_l, cat_r])) dX5_copy_109 ⟨Nat.le_refl _, Nat.le_refl _⟩) hS (fun s41 H locs h hP hS => ?_)
                refine lv_iconst (v := 1) hx hb dX5_copy_112 (by decide) ?_
                exact W.iret hx hb hr (fun t ht hW => ⟨⟨_, _, rfl, h, pw ht hP⟩, hS.F ht⟩) hS.2.2 dX5_copy_113
              · replace h := h.1 c37
                exact hB92  s35 _ _ ls h hP hS (lv_sub hl [0] rfl)
          · replace h := h.1 c25
            exact hB57  s23 _ _ ls h hP hS (lv_sub hl [0] rfl)
      · replace h := h.2 c13
        refine lv_aload_n hx hb dX5_copy_29 rfl (lv_at hl 0 rfl) ?_
        refine lv_iconst (v := 5) hx hb dX5_copy_30 (by decide) ?_
        refine f_i (kV (As := [.int 5]) (rest := []) (o := some x0) rfl ⟨hx, hb, hml, hown, hts⟩ (c_X5_found l D cs ad x0 5 s10 _ hk0) (cwV 1 hts gX5_copy_X5_found rfl rfl rfl (by decide +kernel) ⟨Nat.le_of_ble_eq_true rfl, Nat.le_of_ble_eq_true rfl⟩) hE hP rfl rfl (w_4 hE hk0) h rfl hl.1 rfl (by first | exact lv_room (Nat.le_of_ble_eq_true rfl) | (refine lv_room ?_; simp [re_cat, cat_i, cat_l, cat_r])) dX5_copy_31 ⟨Nat.le_refl _, Nat.le_refl _⟩) hS (fun r43 s42 H locs h hP hS => ?_)
        exact W.iret hx hb hr (fun t ht hW => ⟨⟨_, _, rfl, h, pw ht hP⟩, hS.F ht⟩) hS.2.2 dX5_copy_34
    · replace h := h.1 c12
      refine lv_iconst (v := (-1)) hx hb dX5_copy_22 (by decide) ?_
      exact W.iret hx hb hr (fun t ht hW => ⟨⟨_, _, rfl, h, pw ht hP⟩, hS.F ht⟩) hS.2.2 dX5_copy_23
def p_X5_mean_L41 (Q : Int32 → Sg → Prop)  : Nat → Nat → Int32 → Int32 → Int64 → Int32 → Sg → Prop
  | 0, _, _, _, _, _, _ => False
  | n + 1, x0, x1, x3, x4, x6, s => ((x3 ≤ x6 → ¬ x3.toInt64 = 0 ∧ Q 1 (setI s x0 9 ((x4 / x3.toInt64).toInt32))) ∧ (¬ x3 ≤ x6 → ∃ k3, tX x0 0 = some k3 ∧ kX k3 = 3 ∧ p_X4_cell k3 x1 x6 s (fun r7 s6 => p_X5_mean_L41 Q  n x0 x1 x3 (x4 + r7.toInt64) (x6 + 1) s6)))
def p_X5_mean (x0 : Nat) (x1 : Int32) (s : Sg) (Q : Int32 → Sg → Prop) : Prop := p_X5_refusalOfItem x0 (tX x0 0) x1 s (fun r2 s1 => ((r2 = 0 → ∃ k4, tX x0 0 = some k4 ∧ kX k4 = 3 ∧ p_X4_sizeOf k4 x1 s1 (fun r8 s7 => ((0 < r8 → (∃ n10, p_X5_mean_L41 Q  n10 x0 x1 r8 0 0 s7)) ∧ (¬ 0 < r8 → p_X5_found x0 4 s7 (fun r12 s11 => Q r12 s11))))) ∧ (¬ r2 = 0 → Q r2 s1)))
set_option maxHeartbeats 4000000 in
set_option maxRecDepth 100000 in
theorem c_X5_mean (l : Launch) (D : va_G) (cs : Cs) (ad : Nat → Nat) (x0 : Nat) (x1 : Int32) (s0 : Sg) (Q : Int32 → Sg → Prop) (hk0 : kX x0 = 4) : Met l yX5_mean wsX5_mean { frames := 4, cells := 0, slots := 0, locals := 86 } (Pc0 bX D cs ad [.ref (ad x0), .int x1] s0 (p_X5_mean x0 x1 s0 Q)) (QI bX D cs ad Q) 0 0 (fAd bX ad) := by
  refine Met.ofW (cc := cX5_mean) (maxL := 7) (ret := (some .int)) (by decide) rfl ?_
  intro p e s m args below meth c s₁ B0 hml hv
  obtain ⟨ha, hP, hE, h⟩ := hv
  have hx := B0.exec
  have hb := B0.bytes
  have hr := B0.returns
  have hts := atoms_spec (ws := wsX5_mean) B0.pre
  have hown : s.vm.findClass RX5 = some m.cls := findClass_of_methodNamed B0.named
  have hlocks := B0.notSynchronized
  have hi_X5 : ∀ w ∈ u_ws RX5 TX5 12, w ∈ wsX5_mean := by decide +kernel
  have hS : va_S (fAd bX ad) s.heap s.heap [] := va_S.rf
  have hl := lv_entry ([.ref (ad x0), .int x1]) (n := 7) (by first | exact Nat.le_of_ble_eq_true rfl | simp [lg_sl, re_cat, cat_i, cat_l, cat_r])
  rw [show entryFrame m args 7 = entryFrame m ([.ref (ad x0), .int x1] : List Value).toArray 7 by rw [ha], lg_entry_eq]
  generalize (lg_sl ([.ref (ad x0), .int x1]) ++ List.replicate (7 - (lg_sl ([.ref (ad x0), .int x1])).length) Slot.unset).toArray = ls at hl ⊢
  have hl : lv_has ls 7 [(0, .ref (ad x0)), (1, .int x1)] := by first | exact hl | simpa [lv_args, re_cat, cat_i, cat_l, cat_r] using hl
  have hB41 : ∀ (n41 : Nat) (x1 : Int32) (x3 : Int32) (x4 : Int64) (x6 : Int32) (σ : Sg) (H : Heap) (locs : List Loc) (ls : Array Slot), p_X5_mean_L41 Q  n41 x0 x1 x3 x4 x6 σ → va_P D vwCl (wl bX cs ad σ) H → va_S (fAd bX ad) s.heap H locs → lv_has ls 7 [(0, .ref (ad x0)), (1, .int x1), (3, .int x3), (4, .long x4), (6, .int x6)] → W p l e { frames := 4, cells := 0, slots := 0, locals := 86 } s m args below meth c H locs 0 0 (MQ below (QI bX D cs ad Q) args s 0 0 (fAd bX ad)) (F0 m 41 ls []) := by
    intro n41
    induction n41 with
    | zero =>
      intro x1 x3 x4 x6 σ H locs ls h
      exact h.elim
    | succ n41 ih =>
      have hK41 := ih
      intro x1 x3 x4 x6 σ H locs ls h hP hS hl
      rw [p_X5_mean_L41] at h
      refine lv_iload hx hb dX5_mean_41 (lv_at hl 4 rfl) ?_
      refine lv_iload_n hx hb dX5_mean_43 rfl (lv_at hl 2 rfl) ?_
      refine lv_icmp_ge (tgt := 69) hx hb dX5_mean_44 (by decide) (fun c1 => ?_) (fun c1 => ?_)
      · replace h := h.1 c1
        refine lv_aload_n hx hb dX5_mean_69 rfl (lv_at hl 0 rfl) ?_
        refine lv_lload hx hb dX5_mean_70 (lv_at hl 3 rfl) ?_
        refine lv_iload_n hx hb dX5_mean_72 rfl (lv_at hl 2 rfl) ?_
        refine lv_i2l hx hb dX5_mean_73 rfl ?_
        obtain ⟨z2, h⟩ := h
        refine lv_ldiv hx hb dX5_mean_74 z2 ?_
        refine lv_l2i hx hb dX5_mean_75 rfl ?_
        refine r_put (σ' := (setI σ x0 9 ((x4 / x3.toInt64).toInt32))) (ci := 4) (v := .int ((x4 / x3.toInt64).toInt32)) (ty := .int) (C := RX5) (T := TX5) (N := 12) hx hb hts hi_X5 tyX5 tyX5_ok nmX5 hown hE hP hS x0 (w_4 hE hk0) rfl 9 (by decide) (hts (.fieldLink RX5 71 "HemLine" "told" "I") (by decide +kernel)) (fun _ h9 => h9) rfl (by decide +kernel) rfl rfl (Nat.le_of_ble_eq_true rfl) dX5_mean_76 (st_4_9 hE hk0 _) (fun H locs hP hS => ?_)
        refine lv_iconst (v := 1) hx hb dX5_mean_79 (by decide) ?_
        exact W.iret hx hb hr (fun t ht hW => ⟨⟨_, _, rfl, h, pw ht hP⟩, hS.F ht⟩) hS.2.2 dX5_mean_80
      · replace h := h.2 c1
        refine lv_lload hx hb dX5_mean_47 (lv_at hl 3 rfl) ?_
        refine lv_aload_n hx hb dX5_mean_49 rfl (lv_at hl 0 rfl) ?_
        refine va_get (ci := 4) (v := va_re ad (tX x0 0)) (C := RX5) (T := TX5) (N := 12) hx hb hts hi_X5 hown hE.1 hP x0 (w_4 hE hk0) rfl 0 (by decide) (hts (.fieldLink RX5 16 "HemLine" "rows" "LHemLine$Shelf;") (by decide +kernel)) (fun _ h9 => h9) rfl dX5_mean_50 ?_
        refine lv_iload_n hx hb dX5_mean_53 rfl (lv_at hl 1 rfl) ?_
        refine lv_iload hx hb dX5_mean_54 (lv_at hl 4 rfl) ?_
        obtain ⟨k3, e4, q5, h⟩ := h
        refine f_i (kV (As := [.int x1, .int x6]) (rest := [.long x4]) e4 ⟨hx, hb, hml, hown, hts⟩ (c_X4_cell l D cs ad k3 x1 x6 σ _ q5) (cwV 2 hts gX5_mean_X4_cell rfl rfl rfl (by decide +kernel) ⟨Nat.le_of_ble_eq_true rfl, Nat.le_of_ble_eq_true rfl⟩) hE hP rfl rfl (w_3 hE q5) h rfl hl.1 rfl (by first | exact lv_room (Nat.le_of_ble_eq_true rfl) | (refine lv_room ?_; simp [re_cat, cat_i, cat_l, cat_r])) dX5_mean_56 ⟨Nat.le_refl _, Nat.le_refl _⟩) hS (fun r7 s6 H locs h hP hS => ?_)
        refine lv_i2l hx hb dX5_mean_59 rfl ?_
        refine lv_ladd hx hb dX5_mean_60 ?_
        refine lv_lstore (i := 4) (lv' := [(4, .long (x4 + r7.toInt64)), (0, .ref (ad x0)), (1, .int x1), (3, .int x3), (6, .int x6)]) hx hb dX5_mean_61 hl (by decide) (by first | rfl | simp [re_cat, cat_i, cat_l, cat_r]) (fun ls hl => ?_)
        refine lv_iinc (v := x6 + 1) (lv' := [(6, .int (x6 + 1)), (4, .long (x4 + r7.toInt64)), (0, .ref (ad x0)), (1, .int x1), (3, .int x3)]) hx hb dX5_mean_63 hl (k := 4) rfl rfl (by decide) (by first | rfl | simp [re_cat, cat_i, cat_l, cat_r]) (fun ls hl => ?_)
        refine lv_goto (tgt := 41) hx hb dX5_mean_66 (by decide) ?_
        exact ih x1 x3 (x4 + r7.toInt64) (x6 + 1) s6 H locs ls h hP hS (lv_sub hl [2, 3, 4, 1, 0] rfl)
  unfold p_X5_mean at h
  refine lv_aload_n hx hb dX5_mean_0 rfl (lv_at hl 0 rfl) ?_
  refine lv_aload_n hx hb dX5_mean_1 rfl (lv_at hl 0 rfl) ?_
  refine va_get (ci := 4) (v := va_re ad (tX x0 0)) (C := RX5) (T := TX5) (N := 12) hx hb hts hi_X5 hown hE.1 hP x0 (w_4 hE hk0) rfl 0 (by decide) (hts (.fieldLink RX5 16 "HemLine" "rows" "LHemLine$Shelf;") (by decide +kernel)) (fun _ h9 => h9) rfl dX5_mean_2 ?_
  refine lv_iload_n hx hb dX5_mean_5 rfl (lv_at hl 1 rfl) ?_
  refine f_i (kV (As := [va_re ad (tX x0 0), .int x1]) (rest := []) (o := some x0) rfl ⟨hx, hb, hml, hown, hts⟩ (c_X5_refusalOfItem l D cs ad x0 (tX x0 0) x1 s0 _ hk0) (cwV 2 hts gX5_mean_X5_refusalOfItem rfl rfl rfl (by decide +kernel) ⟨Nat.le_of_ble_eq_true rfl, Nat.le_of_ble_eq_true rfl⟩) hE hP rfl rfl (w_4 hE hk0) h rfl hl.1 rfl (by first | exact lv_room (Nat.le_of_ble_eq_true rfl) | (refine lv_room ?_; simp [re_cat, cat_i, cat_l, cat_r])) dX5_mean_6 ⟨Nat.le_refl _, Nat.le_refl _⟩) hS (fun r2 s1 H locs h hP hS => ?_)
  refine lv_istore_n (i := 2) (lv' := [(2, .int r2), (0, .ref (ad x0)), (1, .int x1)]) hx hb dX5_mean_9 rfl hl (by decide) (by first | rfl | simp [re_cat, cat_i, cat_l, cat_r]) (fun ls hl => ?_)
  refine lv_iload_n hx hb dX5_mean_10 rfl (lv_at hl 0 rfl) ?_
  refine lv_if_eq (tgt := 16) hx hb dX5_mean_11 (by decide) (fun c3 => ?_) (fun c3 => ?_)
  · replace h := h.1 c3
    refine lv_aload_n hx hb dX5_mean_16 rfl (lv_at hl 1 rfl) ?_
    refine va_get (ci := 4) (v := va_re ad (tX x0 0)) (C := RX5) (T := TX5) (N := 12) hx hb hts hi_X5 hown hE.1 hP x0 (w_4 hE hk0) rfl 0 (by decide) (hts (.fieldLink RX5 16 "HemLine" "rows" "LHemLine$Shelf;") (by decide +kernel)) (fun _ h9 => h9) rfl dX5_mean_17 ?_
    refine lv_iload_n hx hb dX5_mean_20 rfl (lv_at hl 2 rfl) ?_
    obtain ⟨k4, e5, q6, h⟩ := h
    refine f_i (kV (As := [.int x1]) (rest := []) e5 ⟨hx, hb, hml, hown, hts⟩ (c_X4_sizeOf l D cs ad k4 x1 s1 _ q6) (cwV 1 hts gX5_mean_X4_sizeOf rfl rfl rfl (by decide +kernel) ⟨Nat.le_of_ble_eq_true rfl, Nat.le_of_ble_eq_true rfl⟩) hE hP rfl rfl (w_3 hE q6) h rfl hl.1 rfl (by first | exact lv_room (Nat.le_of_ble_eq_true rfl) | (refine lv_room ?_; simp [re_cat, cat_i, cat_l, cat_r])) dX5_mean_21 ⟨Nat.le_refl _, Nat.le_refl _⟩) hS (fun r8 s7 H locs h hP hS => ?_)
    refine lv_istore_n (i := 3) (lv' := [(3, .int r8), (2, .int r2), (0, .ref (ad x0)), (1, .int x1)]) hx hb dX5_mean_24 rfl hl (by decide) (by first | rfl | simp [re_cat, cat_i, cat_l, cat_r]) (fun ls hl => ?_)
    refine lv_iload_n hx hb dX5_mean_25 rfl (lv_at hl 0 rfl) ?_
    refine lv_if_gt (tgt := 35) hx hb dX5_mean_26 (by decide) (fun c9 => ?_) (fun c9 => ?_)
    · replace h := h.1 c9
      refine lv_lconst (v := 0) hx hb dX5_mean_35 (by decide) ?_
      refine lv_lstore (i := 4) (lv' := [(4, .long 0), (3, .int r8), (2, .int r2), (0, .ref (ad x0)), (1, .int x1)]) hx hb dX5_mean_36 hl (by decide) (by first | rfl | simp [re_cat, cat_i, cat_l, cat_r]) (fun ls hl => ?_)
      refine lv_iconst (v := 0) hx hb dX5_mean_38 (by decide) ?_
      refine lv_istore (i := 6) (lv' := [(6, .int 0), (4, .long 0), (3, .int r8), (2, .int r2), (0, .ref (ad x0)), (1, .int x1)]) hx hb dX5_mean_39 hl (by decide) (by first | rfl | simp [re_cat, cat_i, cat_l, cat_r]) (fun ls hl => ?_)
      obtain ⟨n10, h⟩ := h
      exact hB41 n10 x1 r8 0 0 s7 _ _ ls h hP hS (lv_sub hl [4, 5, 2, 1, 0] rfl)
    · replace h := h.2 c9
      refine lv_aload_n hx hb dX5_mean_29 rfl (lv_at hl 2 rfl) ?_
      refine lv_iconst (v := 4) hx hb dX5_mean_30 (by decide) ?_
      refine f_i (kV (As := [.int 4]) (rest := []) (o := some x0) rfl ⟨hx, hb, hml, hown, hts⟩ (c_X5_found l D cs ad x0 4 s7 _ hk0) (cwV 1 hts gX5_mean_X5_found rfl rfl rfl (by decide +kernel) ⟨Nat.le_of_ble_eq_true rfl, Nat.le_of_ble_eq_true rfl⟩) hE hP rfl rfl (w_4 hE hk0) h rfl hl.1 rfl (by first | exact lv_room (Nat.le_of_ble_eq_true rfl) | (refine lv_room ?_; simp [re_cat, cat_i, cat_l, cat_r])) dX5_mean_31 ⟨Nat.le_refl _, Nat.le_refl _⟩) hS (fun r12 s11 H locs h hP hS => ?_)
      exact W.iret hx hb hr (fun t ht hW => ⟨⟨_, _, rfl, h, pw ht hP⟩, hS.F ht⟩) hS.2.2 dX5_mean_34
  · replace h := h.2 c3
    refine lv_iload_n hx hb dX5_mean_14 rfl (lv_at hl 0 rfl) ?_
    exact W.iret hx hb hr (fun t ht hW => ⟨⟨_, _, rfl, h, pw ht hP⟩, hS.F ht⟩) hS.2.2 dX5_mean_15
def p_X5_text (x0 : Nat) (x1 : Int32) (x2 : Int32) (s : Sg) (Q : Int32 → Sg → Prop) : Prop := p_X5_makeItem x0 (tX x0 1) x1 x2 60 32 s (fun r2 s1 => Q r2 s1)
set_option maxHeartbeats 4000000 in
set_option maxRecDepth 100000 in
theorem c_X5_text (l : Launch) (D : va_G) (cs : Cs) (ad : Nat → Nat) (x0 : Nat) (x1 : Int32) (x2 : Int32) (s0 : Sg) (Q : Int32 → Sg → Prop) (hk0 : kX x0 = 4) : Met l yX5_text wsX5_text { frames := 4, cells := 0, slots := 0, locals := 91 } (Pc0 bX D cs ad [.ref (ad x0), .int x1, .int x2] s0 (p_X5_text x0 x1 x2 s0 Q)) (QI bX D cs ad Q) 0 0 (fAd bX ad) := by
  refine Met.ofW (cc := cX5_text) (maxL := 3) (ret := (some .int)) (by decide) rfl ?_
  intro p e s m args below meth c s₁ B0 hml hv
  obtain ⟨ha, hP, hE, h⟩ := hv
  have hx := B0.exec
  have hb := B0.bytes
  have hr := B0.returns
  have hts := atoms_spec (ws := wsX5_text) B0.pre
  have hown : s.vm.findClass RX5 = some m.cls := findClass_of_methodNamed B0.named
  have hlocks := B0.notSynchronized
  have hi_X5 : ∀ w ∈ u_ws RX5 TX5 12, w ∈ wsX5_text := by decide +kernel
  have hS : va_S (fAd bX ad) s.heap s.heap [] := va_S.rf
  have hl := lv_entry ([.ref (ad x0), .int x1, .int x2]) (n := 3) (by first | exact Nat.le_of_ble_eq_true rfl | simp [lg_sl, re_cat, cat_i, cat_l, cat_r])
  rw [show entryFrame m args 3 = entryFrame m ([.ref (ad x0), .int x1, .int x2] : List Value).toArray 3 by rw [ha], lg_entry_eq]
  generalize (lg_sl ([.ref (ad x0), .int x1, .int x2]) ++ List.replicate (3 - (lg_sl ([.ref (ad x0), .int x1, .int x2])).length) Slot.unset).toArray = ls at hl ⊢
  have hl : lv_has ls 3 [(0, .ref (ad x0)), (1, .int x1), (2, .int x2)] := by first | exact hl | simpa [lv_args, re_cat, cat_i, cat_l, cat_r] using hl
  unfold p_X5_text at h
  refine lv_aload_n hx hb dX5_text_0 rfl (lv_at hl 0 rfl) ?_
  refine lv_aload_n hx hb dX5_text_1 rfl (lv_at hl 0 rfl) ?_
  refine va_get (ci := 4) (v := va_re ad (tX x0 1)) (C := RX5) (T := TX5) (N := 12) hx hb hts hi_X5 hown hE.1 hP x0 (w_4 hE hk0) rfl 1 (by decide) (hts (.fieldLink RX5 20 "HemLine" "texts" "LHemLine$Shelf;") (by decide +kernel)) (fun _ h9 => h9) rfl dX5_text_2 ?_
  refine lv_iload_n hx hb dX5_text_5 rfl (lv_at hl 1 rfl) ?_
  refine lv_iload_n hx hb dX5_text_6 rfl (lv_at hl 2 rfl) ?_
  refine lv_bipush (v := 60) hx hb dX5_text_7 (by decide) ?_
  refine lv_bipush (v := 32) hx hb dX5_text_9 (by decide) ?_
  refine f_i (kV (As := [va_re ad (tX x0 1), .int x1, .int x2, .int 60, .int 32]) (rest := []) (o := some x0) rfl ⟨hx, hb, hml, hown, hts⟩ (c_X5_makeItem l D cs ad x0 (tX x0 1) x1 x2 60 32 s0 _ hk0) (cwV 5 hts gX5_text_X5_makeItem rfl rfl rfl (by decide +kernel) ⟨Nat.le_of_ble_eq_true rfl, Nat.le_of_ble_eq_true rfl⟩) hE hP rfl rfl (w_4 hE hk0) h rfl hl.1 rfl (by first | exact lv_room (Nat.le_of_ble_eq_true rfl) | (refine lv_room ?_; simp [re_cat, cat_i, cat_l, cat_r])) dX5_text_11 ⟨Nat.le_refl _, Nat.le_refl _⟩) hS (fun r2 s1 H locs h hP hS => ?_)
  exact W.iret hx hb hr (fun t ht hW => ⟨⟨_, _, rfl, h, pw ht hP⟩, hS.F ht⟩) hS.2.2 dX5_text_14
def p_X5_put (x0 : Nat) (x1 : Int32) (x2 : Int32) (x3 : Int32) (s : Sg) (Q : Int32 → Sg → Prop) : Prop := p_X5_refusalOfCell x0 (tX x0 1) x1 x2 s (fun r2 s1 => ((r2 = 0 → ∃ k4, tX x0 1 = some k4 ∧ kX k4 = 3 ∧ p_X4_cell k4 x1 x2 s1 (fun r8 s7 => ∃ k9, tX x0 1 = some k9 ∧ kX k9 = 3 ∧ p_X4_setCell k9 x1 x2 x3.toInt8.toInt32 s7 (fun s12 => Q (r8 + 1000) s12))) ∧ (¬ r2 = 0 → Q r2 s1)))
set_option maxHeartbeats 4000000 in
set_option maxRecDepth 100000 in
theorem c_X5_put (l : Launch) (D : va_G) (cs : Cs) (ad : Nat → Nat) (x0 : Nat) (x1 : Int32) (x2 : Int32) (x3 : Int32) (s0 : Sg) (Q : Int32 → Sg → Prop) (hk0 : kX x0 = 4) : Met l yX5_put wsX5_put { frames := 5, cells := 0, slots := 0, locals := 109 } (Pc0 bX D cs ad [.ref (ad x0), .int x1, .int x2, .int x3] s0 (p_X5_put x0 x1 x2 x3 s0 Q)) (QI bX D cs ad Q) 0 0 (fAd bX ad) := by
  refine Met.ofW (cc := cX5_put) (maxL := 6) (ret := (some .int)) (by decide) rfl ?_
  intro p e s m args below meth c s₁ B0 hml hv
  obtain ⟨ha, hP, hE, h⟩ := hv
  have hx := B0.exec
  have hb := B0.bytes
  have hr := B0.returns
  have hts := atoms_spec (ws := wsX5_put) B0.pre
  have hown : s.vm.findClass RX5 = some m.cls := findClass_of_methodNamed B0.named
  have hlocks := B0.notSynchronized
  have hi_X5 : ∀ w ∈ u_ws RX5 TX5 12, w ∈ wsX5_put := by decide +kernel
  have hS : va_S (fAd bX ad) s.heap s.heap [] := va_S.rf
  have hl := lv_entry ([.ref (ad x0), .int x1, .int x2, .int x3]) (n := 6) (by first | exact Nat.le_of_ble_eq_true rfl | simp [lg_sl, re_cat, cat_i, cat_l, cat_r])
  rw [show entryFrame m args 6 = entryFrame m ([.ref (ad x0), .int x1, .int x2, .int x3] : List Value).toArray 6 by rw [ha], lg_entry_eq]
  generalize (lg_sl ([.ref (ad x0), .int x1, .int x2, .int x3]) ++ List.replicate (6 - (lg_sl ([.ref (ad x0), .int x1, .int x2, .int x3])).length) Slot.unset).toArray = ls at hl ⊢
  have hl : lv_has ls 6 [(0, .ref (ad x0)), (1, .int x1), (2, .int x2), (3, .int x3)] := by first | exact hl | simpa [lv_args, re_cat, cat_i, cat_l, cat_r] using hl
  unfold p_X5_put at h
  refine lv_aload_n hx hb dX5_put_0 rfl (lv_at hl 0 rfl) ?_
  refine lv_aload_n hx hb dX5_put_1 rfl (lv_at hl 0 rfl) ?_
  refine va_get (ci := 4) (v := va_re ad (tX x0 1)) (C := RX5) (T := TX5) (N := 12) hx hb hts hi_X5 hown hE.1 hP x0 (w_4 hE hk0) rfl 1 (by decide) (hts (.fieldLink RX5 20 "HemLine" "texts" "LHemLine$Shelf;") (by decide +kernel)) (fun _ h9 => h9) rfl dX5_put_2 ?_
  refine lv_iload_n hx hb dX5_put_5 rfl (lv_at hl 1 rfl) ?_
  refine lv_iload_n hx hb dX5_put_6 rfl (lv_at hl 2 rfl) ?_
  refine f_i (kV (As := [va_re ad (tX x0 1), .int x1, .int x2]) (rest := []) (o := some x0) rfl ⟨hx, hb, hml, hown, hts⟩ (c_X5_refusalOfCell l D cs ad x0 (tX x0 1) x1 x2 s0 _ hk0) (cwV 3 hts gX5_put_X5_refusalOfCell rfl rfl rfl (by decide +kernel) ⟨Nat.le_of_ble_eq_true rfl, Nat.le_of_ble_eq_true rfl⟩) hE hP rfl rfl (w_4 hE hk0) h rfl hl.1 rfl (by first | exact lv_room (Nat.le_of_ble_eq_true rfl) | (refine lv_room ?_; simp [re_cat, cat_i, cat_l, cat_r])) dX5_put_7 ⟨Nat.le_refl _, Nat.le_refl _⟩) hS (fun r2 s1 H locs h hP hS => ?_)
  refine lv_istore (i := 4) (lv' := [(4, .int r2), (0, .ref (ad x0)), (1, .int x1), (2, .int x2), (3, .int x3)]) hx hb dX5_put_10 hl (by decide) (by first | rfl | simp [re_cat, cat_i, cat_l, cat_r]) (fun ls hl => ?_)
  refine lv_iload hx hb dX5_put_12 (lv_at hl 0 rfl) ?_
  refine lv_if_eq (tgt := 20) hx hb dX5_put_14 (by decide) (fun c3 => ?_) (fun c3 => ?_)
  · replace h := h.1 c3
    refine lv_aload_n hx hb dX5_put_20 rfl (lv_at hl 1 rfl) ?_
    refine va_get (ci := 4) (v := va_re ad (tX x0 1)) (C := RX5) (T := TX5) (N := 12) hx hb hts hi_X5 hown hE.1 hP x0 (w_4 hE hk0) rfl 1 (by decide) (hts (.fieldLink RX5 20 "HemLine" "texts" "LHemLine$Shelf;") (by decide +kernel)) (fun _ h9 => h9) rfl dX5_put_21 ?_
    refine lv_iload_n hx hb dX5_put_24 rfl (lv_at hl 2 rfl) ?_
    refine lv_iload_n hx hb dX5_put_25 rfl (lv_at hl 3 rfl) ?_
    obtain ⟨k4, e5, q6, h⟩ := h
    refine f_i (kV (As := [.int x1, .int x2]) (rest := []) e5 ⟨hx, hb, hml, hown, hts⟩ (c_X4_cell l D cs ad k4 x1 x2 s1 _ q6) (cwV 2 hts gX5_put_X4_cell rfl rfl rfl (by decide +kernel) ⟨Nat.le_of_ble_eq_true rfl, Nat.le_of_ble_eq_true rfl⟩) hE hP rfl rfl (w_3 hE q6) h rfl hl.1 rfl (by first | exact lv_room (Nat.le_of_ble_eq_true rfl) | (refine lv_room ?_; simp [re_cat, cat_i, cat_l, cat_r])) dX5_put_26 ⟨Nat.le_refl _, Nat.le_refl _⟩) hS (fun r8 s7 H locs h hP hS => ?_)
    refine lv_istore (i := 5) (lv' := [(5, .int r8), (4, .int r2), (0, .ref (ad x0)), (1, .int x1), (2, .int x2), (3, .int x3)]) hx hb dX5_put_29 hl (by decide) (by first | rfl | simp [re_cat, cat_i, cat_l, cat_r]) (fun ls hl => ?_)
    refine lv_aload_n hx hb dX5_put_31 rfl (lv_at hl 2 rfl) ?_
    refine va_get (ci := 4) (v := va_re ad (tX x0 1)) (C := RX5) (T := TX5) (N := 12) hx hb hts hi_X5 hown hE.1 hP x0 (w_4 hE hk0) rfl 1 (by decide) (hts (.fieldLink RX5 20 "HemLine" "texts" "LHemLine$Shelf;") (by decide +kernel)) (fun _ h9 => h9) rfl dX5_put_32 ?_
    refine lv_iload_n hx hb dX5_put_35 rfl (lv_at hl 3 rfl) ?_
    refine lv_iload_n hx hb dX5_put_36 rfl (lv_at hl 4 rfl) ?_
    refine lv_iload_n hx hb dX5_put_37 rfl (lv_at hl 5 rfl) ?_
    refine lv_i2b hx hb dX5_put_38 rfl ?_
    obtain ⟨k9, e10, q11, h⟩ := h
    refine f_v (kV (As := [.int x1, .int x2, .int (x3.toInt8.toInt32)]) (rest := []) e10 ⟨hx, hb, hml, hown, hts⟩ (c_X4_setCell l D cs ad k9 x1 x2 x3.toInt8.toInt32 s7 _ q11) (cwV 3 hts gX5_put_X4_setCell rfl rfl rfl (by decide +kernel) ⟨Nat.le_of_ble_eq_true rfl, Nat.le_of_ble_eq_true rfl⟩) hE hP rfl rfl (w_3 hE q11) h rfl hl.1 rfl (by first | exact lv_room (Nat.le_of_ble_eq_true rfl) | (refine lv_room ?_; simp [re_cat, cat_i, cat_l, cat_r])) dX5_put_39 ⟨Nat.le_refl _, Nat.le_refl _⟩) hS (fun s12 H locs h hP hS => ?_)
    refine lv_iload hx hb dX5_put_42 (lv_at hl 0 rfl) ?_
    refine lv_sipush (v := 1000) hx hb dX5_put_44 (by decide) ?_
    refine lv_iadd hx hb dX5_put_47 ?_
    exact W.iret hx hb hr (fun t ht hW => ⟨⟨_, _, rfl, h, pw ht hP⟩, hS.F ht⟩) hS.2.2 dX5_put_48
  · replace h := h.2 c3
    refine lv_iload hx hb dX5_put_17 (lv_at hl 0 rfl) ?_
    exact W.iret hx hb hr (fun t ht hW => ⟨⟨_, _, rfl, h, pw ht hP⟩, hS.F ht⟩) hS.2.2 dX5_put_19
def p_X5_faultOf (x0 : Nat) (x1 : Int32) (s : Sg) (Q : Int32 → Sg → Prop) : Prop := ∃ k1, tX x0 1 = some k1 ∧ kX k1 = 3 ∧ p_X4_cellsOf k1 x1 s (fun r5 s4 => ∃ k6, tX x0 1 = some k6 ∧ kX k6 = 3 ∧ p_X4_sizeOf k6 x1 s4 (fun r10 s9 => ∃ k11, tX x0 2 = some k11 ∧ kX k11 = 2 ∧ p_X3_read k11 r5 r10 s9 (fun r15 s14 => Q r15 s14)))
set_option maxHeartbeats 4000000 in
set_option maxRecDepth 100000 in
theorem c_X5_faultOf (l : Launch) (D : va_G) (cs : Cs) (ad : Nat → Nat) (x0 : Nat) (x1 : Int32) (s0 : Sg) (Q : Int32 → Sg → Prop) (hk0 : kX x0 = 4) : Met l yX5_faultOf wsX5_faultOf { frames := 5, cells := 0, slots := 0, locals := 111 } (Pc0 bX D cs ad [.ref (ad x0), .int x1] s0 (p_X5_faultOf x0 x1 s0 Q)) (QI bX D cs ad Q) 0 0 (fAd bX ad) := by
  refine Met.ofW (cc := cX5_faultOf) (maxL := 2) (ret := (some .int)) (by decide) rfl ?_
  intro p e s m args below meth c s₁ B0 hml hv
  obtain ⟨ha, hP, hE, h⟩ := hv
  have hx := B0.exec
  have hb := B0.bytes
  have hr := B0.returns
  have hts := atoms_spec (ws := wsX5_faultOf) B0.pre
  have hown : s.vm.findClass RX5 = some m.cls := findClass_of_methodNamed B0.named
  have hlocks := B0.notSynchronized
  have hi_X5 : ∀ w ∈ u_ws RX5 TX5 12, w ∈ wsX5_faultOf := by decide +kernel
  have hS : va_S (fAd bX ad) s.heap s.heap [] := va_S.rf
  have hl := lv_entry ([.ref (ad x0), .int x1]) (n := 2) (by first | exact Nat.le_of_ble_eq_true rfl | simp [lg_sl, re_cat, cat_i, cat_l, cat_r])
  rw [show entryFrame m args 2 = entryFrame m ([.ref (ad x0), .int x1] : List Value).toArray 2 by rw [ha], lg_entry_eq]
  generalize (lg_sl ([.ref (ad x0), .int x1]) ++ List.replicate (2 - (lg_sl ([.ref (ad x0), .int x1])).length) Slot.unset).toArray = ls at hl ⊢
  have hl : lv_has ls 2 [(0, .ref (ad x0)), (1, .int x1)] := by first | exact hl | simpa [lv_args, re_cat, cat_i, cat_l, cat_r] using hl
  unfold p_X5_faultOf at h
  refine lv_aload_n hx hb dX5_faultOf_0 rfl (lv_at hl 0 rfl) ?_
  refine va_get (ci := 4) (v := va_re ad (tX x0 2)) (C := RX5) (T := TX5) (N := 12) hx hb hts hi_X5 hown hE.1 hP x0 (w_4 hE hk0) rfl 2 (by decide) (hts (.fieldLink RX5 26 "HemLine" "reader" "LHemLine$Reader;") (by decide +kernel)) (fun _ h9 => h9) rfl dX5_faultOf_1 ?_
  refine lv_aload_n hx hb dX5_faultOf_4 rfl (lv_at hl 0 rfl) ?_
  refine va_get (ci := 4) (v := va_re ad (tX x0 1)) (C := RX5) (T := TX5) (N := 12) hx hb hts hi_X5 hown hE.1 hP x0 (w_4 hE hk0) rfl 1 (by decide) (hts (.fieldLink RX5 20 "HemLine" "texts" "LHemLine$Shelf;") (by decide +kernel)) (fun _ h9 => h9) rfl dX5_faultOf_5 ?_
  refine lv_iload_n hx hb dX5_faultOf_8 rfl (lv_at hl 1 rfl) ?_
  obtain ⟨k1, e2, q3, h⟩ := h
  refine f_e (kV (As := [.int x1]) (rest := [va_re ad (tX x0 2)]) e2 ⟨hx, hb, hml, hown, hts⟩ (c_X4_cellsOf l D cs ad k1 x1 s0 _ q3) (cwV 1 hts gX5_faultOf_X4_cellsOf rfl rfl rfl (by decide +kernel) ⟨Nat.le_of_ble_eq_true rfl, Nat.le_of_ble_eq_true rfl⟩) hE hP rfl rfl (w_3 hE q3) h rfl hl.1 rfl (by first | exact lv_room (Nat.le_of_ble_eq_true rfl) | (refine lv_room ?_; simp [re_cat, cat_i, cat_l, cat_r])) dX5_faultOf_9 ⟨Nat.le_refl _, Nat.le_refl _⟩) hS (fun r5 s4 H locs h hP hS => ?_)
  refine lv_aload_n hx hb dX5_faultOf_12 rfl (lv_at hl 0 rfl) ?_
  refine va_get (ci := 4) (v := va_re ad (tX x0 1)) (C := RX5) (T := TX5) (N := 12) hx hb hts hi_X5 hown hE.1 hP x0 (w_4 hE hk0) rfl 1 (by decide) (hts (.fieldLink RX5 20 "HemLine" "texts" "LHemLine$Shelf;") (by decide +kernel)) (fun _ h9 => h9) rfl dX5_faultOf_13 ?_
  refine lv_iload_n hx hb dX5_faultOf_16 rfl (lv_at hl 1 rfl) ?_
  obtain ⟨k6, e7, q8, h⟩ := h
  refine f_i (kV (As := [.int x1]) (rest := [va_re ad r5, va_re ad (tX x0 2)]) e7 ⟨hx, hb, hml, hown, hts⟩ (c_X4_sizeOf l D cs ad k6 x1 s4 _ q8) (cwV 1 hts gX5_faultOf_X4_sizeOf rfl rfl rfl (by decide +kernel) ⟨Nat.le_of_ble_eq_true rfl, Nat.le_of_ble_eq_true rfl⟩) hE hP rfl rfl (w_3 hE q8) h rfl hl.1 rfl (by first | exact lv_room (Nat.le_of_ble_eq_true rfl) | (refine lv_room ?_; simp [re_cat, cat_i, cat_l, cat_r])) dX5_faultOf_17 ⟨Nat.le_refl _, Nat.le_refl _⟩) hS (fun r10 s9 H locs h hP hS => ?_)
  obtain ⟨k11, e12, q13, h⟩ := h
  refine f_i (kV (As := [va_re ad r5, .int r10]) (rest := []) e12 ⟨hx, hb, hml, hown, hts⟩ (c_X3_read l D cs ad k11 r5 r10 s9 _ q13) (cwV 2 hts gX5_faultOf_X3_read rfl rfl rfl (by decide +kernel) ⟨Nat.le_of_ble_eq_true rfl, Nat.le_of_ble_eq_true rfl⟩) hE hP rfl rfl (w_2 hE q13) h rfl hl.1 rfl (by first | exact lv_room (Nat.le_of_ble_eq_true rfl) | (refine lv_room ?_; simp [re_cat, cat_i, cat_l, cat_r])) dX5_faultOf_20 ⟨Nat.le_refl _, Nat.le_refl _⟩) hS (fun r15 s14 H locs h hP hS => ?_)
  exact W.iret hx hb hr (fun t ht hW => ⟨⟨_, _, rfl, h, pw ht hP⟩, hS.F ht⟩) hS.2.2 dX5_faultOf_23
def p_X5_fault (x0 : Nat) (x1 : Int32) (s : Sg) (Q : Int32 → Sg → Prop) : Prop := p_X5_refusalOfItem x0 (tX x0 1) x1 s (fun r2 s1 => ((r2 = 0 → p_X5_faultOf x0 x1 s1 (fun r5 s4 => Q r5 s4)) ∧ (¬ r2 = 0 → Q r2 s1)))
set_option maxHeartbeats 4000000 in
set_option maxRecDepth 100000 in
theorem c_X5_fault (l : Launch) (D : va_G) (cs : Cs) (ad : Nat → Nat) (x0 : Nat) (x1 : Int32) (s0 : Sg) (Q : Int32 → Sg → Prop) (hk0 : kX x0 = 4) : Met l yX5_fault wsX5_fault { frames := 6, cells := 0, slots := 0, locals := 132 } (Pc0 bX D cs ad [.ref (ad x0), .int x1] s0 (p_X5_fault x0 x1 s0 Q)) (QI bX D cs ad Q) 0 0 (fAd bX ad) := by
  refine Met.ofW (cc := cX5_fault) (maxL := 3) (ret := (some .int)) (by decide) rfl ?_
  intro p e s m args below meth c s₁ B0 hml hv
  obtain ⟨ha, hP, hE, h⟩ := hv
  have hx := B0.exec
  have hb := B0.bytes
  have hr := B0.returns
  have hts := atoms_spec (ws := wsX5_fault) B0.pre
  have hown : s.vm.findClass RX5 = some m.cls := findClass_of_methodNamed B0.named
  have hlocks := B0.notSynchronized
  have hi_X5 : ∀ w ∈ u_ws RX5 TX5 12, w ∈ wsX5_fault := by decide +kernel
  have hS : va_S (fAd bX ad) s.heap s.heap [] := va_S.rf
  have hl := lv_entry ([.ref (ad x0), .int x1]) (n := 3) (by first | exact Nat.le_of_ble_eq_true rfl | simp [lg_sl, re_cat, cat_i, cat_l, cat_r])
  rw [show entryFrame m args 3 = entryFrame m ([.ref (ad x0), .int x1] : List Value).toArray 3 by rw [ha], lg_entry_eq]
  generalize (lg_sl ([.ref (ad x0), .int x1]) ++ List.replicate (3 - (lg_sl ([.ref (ad x0), .int x1])).length) Slot.unset).toArray = ls at hl ⊢
  have hl : lv_has ls 3 [(0, .ref (ad x0)), (1, .int x1)] := by first | exact hl | simpa [lv_args, re_cat, cat_i, cat_l, cat_r] using hl
  unfold p_X5_fault at h
  refine lv_aload_n hx hb dX5_fault_0 rfl (lv_at hl 0 rfl) ?_
  refine lv_aload_n hx hb dX5_fault_1 rfl (lv_at hl 0 rfl) ?_
  refine va_get (ci := 4) (v := va_re ad (tX x0 1)) (C := RX5) (T := TX5) (N := 12) hx hb hts hi_X5 hown hE.1 hP x0 (w_4 hE hk0) rfl 1 (by decide) (hts (.fieldLink RX5 20 "HemLine" "texts" "LHemLine$Shelf;") (by decide +kernel)) (fun _ h9 => h9) rfl dX5_fault_2 ?_
  refine lv_iload_n hx hb dX5_fault_5 rfl (lv_at hl 1 rfl) ?_
  refine f_i (kV (As := [va_re ad (tX x0 1), .int x1]) (rest := []) (o := some x0) rfl ⟨hx, hb, hml, hown, hts⟩ (c_X5_refusalOfItem l D cs ad x0 (tX x0 1) x1 s0 _ hk0) (cwV 2 hts gX5_fault_X5_refusalOfItem rfl rfl rfl (by decide +kernel) ⟨Nat.le_of_ble_eq_true rfl, Nat.le_of_ble_eq_true rfl⟩) hE hP rfl rfl (w_4 hE hk0) h rfl hl.1 rfl (by first | exact lv_room (Nat.le_of_ble_eq_true rfl) | (refine lv_room ?_; simp [re_cat, cat_i, cat_l, cat_r])) dX5_fault_6 ⟨Nat.le_refl _, Nat.le_refl _⟩) hS (fun r2 s1 H locs h hP hS => ?_)
  refine lv_istore_n (i := 2) (lv' := [(2, .int r2), (0, .ref (ad x0)), (1, .int x1)]) hx hb dX5_fault_9 rfl hl (by decide) (by first | rfl | simp [re_cat, cat_i, cat_l, cat_r]) (fun ls hl => ?_)
  refine lv_iload_n hx hb dX5_fault_10 rfl (lv_at hl 0 rfl) ?_
  refine lv_if_eq (tgt := 18) hx hb dX5_fault_11 (by decide) (fun c3 => ?_) (fun c3 => ?_)
  · replace h := h.1 c3
    refine lv_aload_n hx hb dX5_fault_18 rfl (lv_at hl 1 rfl) ?_
    refine lv_iload_n hx hb dX5_fault_19 rfl (lv_at hl 2 rfl) ?_
    refine f_i (kV (As := [.int x1]) (rest := []) (o := some x0) rfl ⟨hx, hb, hml, hown, hts⟩ (c_X5_faultOf l D cs ad x0 x1 s1 _ hk0) (cwV 1 hts gX5_fault_X5_faultOf rfl rfl rfl (by decide +kernel) ⟨Nat.le_of_ble_eq_true rfl, Nat.le_of_ble_eq_true rfl⟩) hE hP rfl rfl (w_4 hE hk0) h rfl hl.1 rfl (by first | exact lv_room (Nat.le_of_ble_eq_true rfl) | (refine lv_room ?_; simp [re_cat, cat_i, cat_l, cat_r])) dX5_fault_20 ⟨Nat.le_refl _, Nat.le_refl _⟩) hS (fun r5 s4 H locs h hP hS => ?_)
    exact W.iret hx hb hr (fun t ht hW => ⟨⟨_, _, rfl, h, pw ht hP⟩, hS.F ht⟩) hS.2.2 dX5_fault_23
  · replace h := h.2 c3
    refine lv_iload_n hx hb dX5_fault_14 rfl (lv_at hl 0 rfl) ?_
    refine lv_goto (tgt := 23) hx hb dX5_fault_15 (by decide) ?_
    exact W.iret hx hb hr (fun t ht hW => ⟨⟨_, _, rfl, h, pw ht hP⟩, hS.F ht⟩) hS.2.2 dX5_fault_23
def p_X5_keptAt (x0 : Nat) (x1 : Int32) (s : Sg) (Q : Option Nat → Sg → Prop) : Prop := ((x1 < 0 → Q none s) ∧ (¬ x1 < 0 → ∃ k2, tX x0 4 = some k2 ∧ (kX k2 = 7 ∨ kX k2 = 8 ∨ kX k2 = 9) ∧ (((nI (lX k2)) ≤ x1 → Q none s) ∧ (¬ (nI (lX k2)) ≤ x1 → ∃ k6, tX x0 4 = some k6 ∧ (kX k6 = 8 ∨ kX k6 = 9) ∧ vp_in x1 (lX k6) ∧ Q (tX k6 x1.toNatClampNeg) s))))
set_option maxHeartbeats 4000000 in
set_option maxRecDepth 100000 in
theorem c_X5_keptAt (l : Launch) (D : va_G) (cs : Cs) (ad : Nat → Nat) (x0 : Nat) (x1 : Int32) (s0 : Sg) (Q : Option Nat → Sg → Prop) (hk0 : kX x0 = 4) : Met l yX5_keptAt wsX5_keptAt { frames := 0, cells := 0, slots := 0, locals := 0 } (Pc0 bX D cs ad [.ref (ad x0), .int x1] s0 (p_X5_keptAt x0 x1 s0 Q)) (QE bX D cs ad Q) 0 0 (fAd bX ad) := by
  refine Met.ofW (cc := cX5_keptAt) (maxL := 2) (ret := (some (.object "HemLine$Delta"))) (by decide) rfl ?_
  intro p e s m args below meth c s₁ B0 hml hv
  obtain ⟨ha, hP, hE, h⟩ := hv
  have hx := B0.exec
  have hb := B0.bytes
  have hr := B0.returns
  have hts := atoms_spec (ws := wsX5_keptAt) B0.pre
  have hown : s.vm.findClass RX5 = some m.cls := findClass_of_methodNamed B0.named
  have hlocks := B0.notSynchronized
  have hi_X5 : ∀ w ∈ u_ws RX5 TX5 12, w ∈ wsX5_keptAt := by decide +kernel
  have hS : va_S (fAd bX ad) s.heap s.heap [] := va_S.rf
  have hl := lv_entry ([.ref (ad x0), .int x1]) (n := 2) (by first | exact Nat.le_of_ble_eq_true rfl | simp [lg_sl, re_cat, cat_i, cat_l, cat_r])
  rw [show entryFrame m args 2 = entryFrame m ([.ref (ad x0), .int x1] : List Value).toArray 2 by rw [ha], lg_entry_eq]
  generalize (lg_sl ([.ref (ad x0), .int x1]) ++ List.replicate (2 - (lg_sl ([.ref (ad x0), .int x1])).length) Slot.unset).toArray = ls at hl ⊢
  have hl : lv_has ls 2 [(0, .ref (ad x0)), (1, .int x1)] := by first | exact hl | simpa [lv_args, re_cat, cat_i, cat_l, cat_r] using hl
  unfold p_X5_keptAt at h
  refine lv_iload_n hx hb dX5_keptAt_0 rfl (lv_at hl 1 rfl) ?_
  refine lv_if_lt (tgt := 22) hx hb dX5_keptAt_1 (by decide) (fun c1 => ?_) (fun c1 => ?_)
  · replace h := h.1 c1
    refine r_null (ad := ad) hx hb dX5_keptAt_22 ?_
    exact W.aret hx hb hr (Or.inl ⟨_, rfl⟩) (va_re_or _ _) (fun t ht hW => ⟨⟨_, _, rfl, h, pw ht hP⟩, hS.F ht⟩) hS.2.2 dX5_keptAt_23
  · replace h := h.2 c1
    refine lv_iload_n hx hb dX5_keptAt_4 rfl (lv_at hl 1 rfl) ?_
    refine lv_aload_n hx hb dX5_keptAt_5 rfl (lv_at hl 0 rfl) ?_
    refine va_get (ci := 4) (v := va_re ad (tX x0 4)) (C := RX5) (T := TX5) (N := 12) hx hb hts hi_X5 hown hE.1 hP x0 (w_4 hE hk0) rfl 4 (by decide) (hts (.fieldLink RX5 37 "HemLine" "kept" "[LHemLine$Delta;") (by decide +kernel)) (fun _ h9 => h9) rfl dX5_keptAt_6 ?_
    obtain ⟨k2, e3, q4, h⟩ := h
    refine r_alen hx hb hE hP e3 q4 dX5_keptAt_9 ?_
    refine lv_icmp_ge (tgt := 22) hx hb dX5_keptAt_10 (by decide) (fun c5 => ?_) (fun c5 => ?_)
    · replace h := h.1 c5
      refine r_null (ad := ad) hx hb dX5_keptAt_22 ?_
      exact W.aret hx hb hr (Or.inl ⟨_, rfl⟩) (va_re_or _ _) (fun t ht hW => ⟨⟨_, _, rfl, h, pw ht hP⟩, hS.F ht⟩) hS.2.2 dX5_keptAt_23
    · replace h := h.2 c5
      refine lv_aload_n hx hb dX5_keptAt_13 rfl (lv_at hl 0 rfl) ?_
      refine va_get (ci := 4) (v := va_re ad (tX x0 4)) (C := RX5) (T := TX5) (N := 12) hx hb hts hi_X5 hown hE.1 hP x0 (w_4 hE hk0) rfl 4 (by decide) (hts (.fieldLink RX5 37 "HemLine" "kept" "[LHemLine$Delta;") (by decide +kernel)) (fun _ h9 => h9) rfl dX5_keptAt_14 ?_
      refine lv_iload_n hx hb dX5_keptAt_17 rfl (lv_at hl 1 rfl) ?_
      obtain ⟨k6, e7, q8, i9, h⟩ := h
      refine r_aald hx hb hE hP e7 q8 i9 dX5_keptAt_18 ?_
      refine lv_goto (tgt := 23) hx hb dX5_keptAt_19 (by decide) ?_
      exact W.aret hx hb hr (Or.inl ⟨_, rfl⟩) (va_re_or _ _) (fun t ht hW => ⟨⟨_, _, rfl, h, pw ht hP⟩, hS.F ht⟩) hS.2.2 dX5_keptAt_23
def p_X5_delta_b71 (Q : Int32 → Sg → Prop) (K45 : Nat → Int32 → Sg → Prop) (x0 : Nat) (x3 : Int32) (s : Sg) : Prop := K45 x0 (x3 + 1) s
def p_X5_delta_L45 (Q : Int32 → Sg → Prop)  : Nat → Nat → Int32 → Sg → Prop
  | 0, _, _, _ => False
  | n + 1, x0, x3, s => ∃ k1, tX x0 4 = some k1 ∧ (kX k1 = 7 ∨ kX k1 = 8 ∨ kX k1 = 9) ∧ (((nI (lX k1)) ≤ x3 → ∃ k5, tX x0 3 = some k5 ∧ kX k5 = 0 ∧ Q (gI s k5 0) s) ∧ (¬ (nI (lX k1)) ≤ x3 → p_X5_keptAt x0 x3 s (fun r9 s8 => ((r9 = none → p_X5_delta_b71 Q (fun y0 y3 u => p_X5_delta_L45 Q  n y0 y3 u) x0 x3 s8) ∧ (¬ r9 = none → ∃ k11, r9 = some k11 ∧ kX k11 = 0 ∧ p_X0_clear k11 s8 (fun s14 => p_X5_delta_b71 Q (fun y0 y3 u => p_X5_delta_L45 Q  n y0 y3 u) x0 x3 s14))))))
def p_X5_delta (x0 : Nat) (x1 : Int32) (s : Sg) (Q : Int32 → Sg → Prop) : Prop := p_X5_refusalOfItem x0 (tX x0 1) x1 s (fun r2 s1 => ((r2 = 0 → p_X5_faultOf x0 x1 s1 (fun r5 s4 => ((r5 = ((-9)) → ∃ k7, tX x0 2 = some k7 ∧ kX k7 = 2 ∧ ∃ k10, tX x0 3 = some k10 ∧ kX k10 = 0 ∧ p_X0_takeFrom k10 (tX k7 0) s4 (fun s13 => (∃ n14, p_X5_delta_L45 Q  n14 x0 0 s13))) ∧ (¬ r5 = ((-9)) → Q ((-4)) s4)))) ∧ (¬ r2 = 0 → Q r2 s1)))
set_option maxHeartbeats 4000000 in
set_option maxRecDepth 100000 in
theorem c_X5_delta (l : Launch) (D : va_G) (cs : Cs) (ad : Nat → Nat) (x0 : Nat) (x1 : Int32) (s0 : Sg) (Q : Int32 → Sg → Prop) (hk0 : kX x0 = 4) : Met l yX5_delta wsX5_delta { frames := 6, cells := 0, slots := 0, locals := 134 } (Pc0 bX D cs ad [.ref (ad x0), .int x1] s0 (p_X5_delta x0 x1 s0 Q)) (QI bX D cs ad Q) 0 0 (fAd bX ad) := by
  refine Met.ofW (cc := cX5_delta) (maxL := 5) (ret := (some .int)) (by decide) rfl ?_
  intro p e s m args below meth c s₁ B0 hml hv
  obtain ⟨ha, hP, hE, h⟩ := hv
  have hx := B0.exec
  have hb := B0.bytes
  have hr := B0.returns
  have hts := atoms_spec (ws := wsX5_delta) B0.pre
  have hown : s.vm.findClass RX5 = some m.cls := findClass_of_methodNamed B0.named
  have hlocks := B0.notSynchronized
  have hi_X0 : ∀ w ∈ u_ws RX0 TX0 15, w ∈ wsX5_delta := by decide +kernel
  have hi_X3 : ∀ w ∈ u_ws RX3 TX3 4, w ∈ wsX5_delta := by decide +kernel
  have hi_X5 : ∀ w ∈ u_ws RX5 TX5 12, w ∈ wsX5_delta := by decide +kernel
  have hS : va_S (fAd bX ad) s.heap s.heap [] := va_S.rf
  have hl := lv_entry ([.ref (ad x0), .int x1]) (n := 5) (by first | exact Nat.le_of_ble_eq_true rfl | simp [lg_sl, re_cat, cat_i, cat_l, cat_r])
  rw [show entryFrame m args 5 = entryFrame m ([.ref (ad x0), .int x1] : List Value).toArray 5 by rw [ha], lg_entry_eq]
  generalize (lg_sl ([.ref (ad x0), .int x1]) ++ List.replicate (5 - (lg_sl ([.ref (ad x0), .int x1])).length) Slot.unset).toArray = ls at hl ⊢
  have hl : lv_has ls 5 [(0, .ref (ad x0)), (1, .int x1)] := by first | exact hl | simpa [lv_args, re_cat, cat_i, cat_l, cat_r] using hl
  have hB45 : ∀ (n45 : Nat) (x3 : Int32) (σ : Sg) (H : Heap) (locs : List Loc) (ls : Array Slot), p_X5_delta_L45 Q  n45 x0 x3 σ → va_P D vwCl (wl bX cs ad σ) H → va_S (fAd bX ad) s.heap H locs → lv_has ls 5 [(0, .ref (ad x0)), (3, .int x3)] → W p l e { frames := 6, cells := 0, slots := 0, locals := 134 } s m args below meth c H locs 0 0 (MQ below (QI bX D cs ad Q) args s 0 0 (fAd bX ad)) (F0 m 45 ls []) := by
    intro n45
    induction n45 with
    | zero =>
      intro x3 σ H locs ls h
      exact h.elim
    | succ n45 ih =>
      have hK45 := ih
      have hB71 : ∀ (x3 : Int32) (σ : Sg) (H : Heap) (locs : List Loc) (ls : Array Slot), p_X5_delta_b71 Q (fun y0 y3 u => p_X5_delta_L45 Q  n45 y0 y3 u) x0 x3 σ → va_P D vwCl (wl bX cs ad σ) H → va_S (fAd bX ad) s.heap H locs → lv_has ls 5 [(0, .ref (ad x0)), (3, .int x3)] → W p l e { frames := 6, cells := 0, slots := 0, locals := 134 } s m args below meth c H locs 0 0 (MQ below (QI bX D cs ad Q) args s 0 0 (fAd bX ad)) (F0 m 71 ls []) := by
        intro x3 σ H locs ls h hP hS hl
        unfold p_X5_delta_b71 at h
        refine lv_iinc (v := x3 + 1) (lv' := [(3, .int (x3 + 1)), (0, .ref (ad x0))]) hx hb dX5_delta_71 hl (k := 1) rfl rfl (by decide) (by first | rfl | simp [re_cat, cat_i, cat_l, cat_r]) (fun ls hl => ?_)
        refine lv_goto (tgt := 45) hx hb dX5_delta_74 (by decide) ?_
        exact hK45 (x3 + 1) σ H locs ls h hP hS (lv_sub hl [1, 0] rfl)
      intro x3 σ H locs ls h hP hS hl
      rw [p_X5_delta_L45] at h
      refine lv_iload_n hx hb dX5_delta_45 rfl (lv_at hl 1 rfl) ?_
      refine lv_aload_n hx hb dX5_delta_46 rfl (lv_at hl 0 rfl) ?_
      refine va_get (ci := 4) (v := va_re ad (tX x0 4)) (C := RX5) (T := TX5) (N := 12) hx hb hts hi_X5 hown hE.1 hP x0 (w_4 hE hk0) rfl 4 (by decide) (hts (.fieldLink RX5 37 "HemLine" "kept" "[LHemLine$Delta;") (by decide +kernel)) (fun _ h9 => h9) rfl dX5_delta_47 ?_
      obtain ⟨k1, e2, q3, h⟩ := h
      refine r_alen hx hb hE hP e2 q3 dX5_delta_50 ?_
      refine lv_icmp_ge (tgt := 77) hx hb dX5_delta_51 (by decide) (fun c4 => ?_) (fun c4 => ?_)
      · replace h := h.1 c4
        refine lv_aload_n hx hb dX5_delta_77 rfl (lv_at hl 0 rfl) ?_
        refine va_get (ci := 4) (v := va_re ad (tX x0 3)) (C := RX5) (T := TX5) (N := 12) hx hb hts hi_X5 hown hE.1 hP x0 (w_4 hE hk0) rfl 3 (by decide) (hts (.fieldLink RX5 33 "HemLine" "now" "LHemLine$Delta;") (by decide +kernel)) (fun _ h9 => h9) rfl dX5_delta_78 ?_
        obtain ⟨k5, e6, q7, h⟩ := h
        refine r_known (ad := ad) e6 ?_
        refine va_getN (ci := 0) (v := .int (gI σ k5 0)) (C := RX0) (T := TX0) (N := 15) hx hb hts hi_X0 hown hE.1 hP k5 (w_0 hE q7) rfl 0 (by decide) ((hE.2.2.2.1 ("HemLine", 126, "HemLine$Delta", "women", "I", "HemLine") (by decide +kernel)).use rfl) (fun _ h9 => h9) rfl dX5_delta_81 ?_
        exact W.iret hx hb hr (fun t ht hW => ⟨⟨_, _, rfl, h, pw ht hP⟩, hS.F ht⟩) hS.2.2 dX5_delta_84
      · replace h := h.2 c4
        refine lv_aload_n hx hb dX5_delta_54 rfl (lv_at hl 0 rfl) ?_
        refine lv_iload_n hx hb dX5_delta_55 rfl (lv_at hl 1 rfl) ?_
        refine f_e (kV (As := [.int x3]) (rest := []) (o := some x0) rfl ⟨hx, hb, hml, hown, hts⟩ (c_X5_keptAt l D cs ad x0 x3 σ _ hk0) (cwV 1 hts gX5_delta_X5_keptAt rfl rfl rfl (by decide +kernel) ⟨Nat.le_of_ble_eq_true rfl, Nat.le_of_ble_eq_true rfl⟩) hE hP rfl rfl (w_4 hE hk0) h rfl hl.1 rfl (by first | exact lv_room (Nat.le_of_ble_eq_true rfl) | (refine lv_room ?_; simp [re_cat, cat_i, cat_l, cat_r])) dX5_delta_56 ⟨Nat.le_refl _, Nat.le_refl _⟩) hS (fun r9 s8 H locs h hP hS => ?_)
        refine r_astore (i := 4) (lv' := [(4, va_re ad r9), (0, .ref (ad x0)), (3, .int x3)]) hx hb dX5_delta_59 hl (by decide) (by first | rfl | simp [re_cat, cat_i, cat_l, cat_r]) (fun ls hl => ?_)
        refine r_aload hx hb dX5_delta_61 (lv_at hl 0 rfl) ?_
        refine r_ifnull (tgt := 71) hx hb dX5_delta_63 (by decide) (fun c10 => ?_) (fun c10 => ?_)
        · replace h := h.1 c10
          exact hB71 x3 s8 H locs ls h hP hS (lv_sub hl [1, 2] rfl)
        · replace h := h.2 c10
          refine r_aload hx hb dX5_delta_66 (lv_at hl 0 rfl) ?_
          obtain ⟨k11, e12, q13, h⟩ := h
          refine f_v (kV (As := []) (rest := []) e12 ⟨hx, hb, hml, hown, hts⟩ (c_X0_clear l D cs ad k11 s8 _ q13) (cwV 0 hts gX5_delta_X0_clear rfl rfl rfl (by decide +kernel) ⟨Nat.le_of_ble_eq_true rfl, Nat.le_of_ble_eq_true rfl⟩) hE hP rfl rfl (w_0 hE q13) h rfl hl.1 rfl (by first | exact lv_room (Nat.le_of_ble_eq_true rfl) | (refine lv_room ?_; simp [re_cat, cat_i, cat_l, cat_r])) dX5_delta_68 ⟨Nat.le_refl _, Nat.le_refl _⟩) hS (fun s14 H locs h hP hS => ?_)
          exact hB71 x3 s14 H locs ls h hP hS (lv_sub hl [1, 2] rfl)
  unfold p_X5_delta at h
  refine lv_aload_n hx hb dX5_delta_0 rfl (lv_at hl 0 rfl) ?_
  refine lv_aload_n hx hb dX5_delta_1 rfl (lv_at hl 0 rfl) ?_
  refine va_get (ci := 4) (v := va_re ad (tX x0 1)) (C := RX5) (T := TX5) (N := 12) hx hb hts hi_X5 hown hE.1 hP x0 (w_4 hE hk0) rfl 1 (by decide) (hts (.fieldLink RX5 20 "HemLine" "texts" "LHemLine$Shelf;") (by decide +kernel)) (fun _ h9 => h9) rfl dX5_delta_2 ?_
  refine lv_iload_n hx hb dX5_delta_5 rfl (lv_at hl 1 rfl) ?_
  refine f_i (kV (As := [va_re ad (tX x0 1), .int x1]) (rest := []) (o := some x0) rfl ⟨hx, hb, hml, hown, hts⟩ (c_X5_refusalOfItem l D cs ad x0 (tX x0 1) x1 s0 _ hk0) (cwV 2 hts gX5_delta_X5_refusalOfItem rfl rfl rfl (by decide +kernel) ⟨Nat.le_of_ble_eq_true rfl, Nat.le_of_ble_eq_true rfl⟩) hE hP rfl rfl (w_4 hE hk0) h rfl hl.1 rfl (by first | exact lv_room (Nat.le_of_ble_eq_true rfl) | (refine lv_room ?_; simp [re_cat, cat_i, cat_l, cat_r])) dX5_delta_6 ⟨Nat.le_refl _, Nat.le_refl _⟩) hS (fun r2 s1 H locs h hP hS => ?_)
  refine lv_istore_n (i := 2) (lv' := [(2, .int r2), (0, .ref (ad x0)), (1, .int x1)]) hx hb dX5_delta_9 rfl hl (by decide) (by first | rfl | simp [re_cat, cat_i, cat_l, cat_r]) (fun ls hl => ?_)
  refine lv_iload_n hx hb dX5_delta_10 rfl (lv_at hl 0 rfl) ?_
  refine lv_if_eq (tgt := 16) hx hb dX5_delta_11 (by decide) (fun c3 => ?_) (fun c3 => ?_)
  · replace h := h.1 c3
    refine lv_aload_n hx hb dX5_delta_16 rfl (lv_at hl 1 rfl) ?_
    refine lv_iload_n hx hb dX5_delta_17 rfl (lv_at hl 2 rfl) ?_
    refine f_i (kV (As := [.int x1]) (rest := []) (o := some x0) rfl ⟨hx, hb, hml, hown, hts⟩ (c_X5_faultOf l D cs ad x0 x1 s1 _ hk0) (cwV 1 hts gX5_delta_X5_faultOf rfl rfl rfl (by decide +kernel) ⟨Nat.le_of_ble_eq_true rfl, Nat.le_of_ble_eq_true rfl⟩) hE hP rfl rfl (w_4 hE hk0) h rfl hl.1 rfl (by first | exact lv_room (Nat.le_of_ble_eq_true rfl) | (refine lv_room ?_; simp [re_cat, cat_i, cat_l, cat_r])) dX5_delta_18 ⟨Nat.le_refl _, Nat.le_refl _⟩) hS (fun r5 s4 H locs h hP hS => ?_)
    refine lv_bipush (v := (-9)) hx hb dX5_delta_21 (by decide) ?_
    refine lv_icmp_eq (tgt := 29) hx hb dX5_delta_23 (by decide) (fun c6 => ?_) (fun c6 => ?_)
    · replace h := h.1 c6
      refine lv_aload_n hx hb dX5_delta_29 rfl (lv_at hl 1 rfl) ?_
      refine va_get (ci := 4) (v := va_re ad (tX x0 3)) (C := RX5) (T := TX5) (N := 12) hx hb hts hi_X5 hown hE.1 hP x0 (w_4 hE hk0) rfl 3 (by decide) (hts (.fieldLink RX5 33 "HemLine" "now" "LHemLine$Delta;") (by decide +kernel)) (fun _ h9 => h9) rfl dX5_delta_30 ?_
      refine lv_aload_n hx hb dX5_delta_33 rfl (lv_at hl 1 rfl) ?_
      refine va_get (ci := 4) (v := va_re ad (tX x0 2)) (C := RX5) (T := TX5) (N := 12) hx hb hts hi_X5 hown hE.1 hP x0 (w_4 hE hk0) rfl 2 (by decide) (hts (.fieldLink RX5 26 "HemLine" "reader" "LHemLine$Reader;") (by decide +kernel)) (fun _ h9 => h9) rfl dX5_delta_34 ?_
      obtain ⟨k7, e8, q9, h⟩ := h
      refine r_known (ad := ad) e8 ?_
      refine va_getN (ci := 2) (v := va_re ad (tX k7 0)) (C := RX3) (T := TX3) (N := 4) hx hb hts hi_X3 hown hE.1 hP k7 (w_2 hE q9) rfl 0 (by decide) ((hE.2.2.2.1 ("HemLine", 112, "HemLine$Reader", "draft", "LHemLine$Delta;", "HemLine") (by decide +kernel)).use rfl) (fun _ h9 => h9) rfl dX5_delta_37 ?_
      obtain ⟨k10, e11, q12, h⟩ := h
      refine f_v (kV (As := [va_re ad (tX k7 0)]) (rest := []) e11 ⟨hx, hb, hml, hown, hts⟩ (c_X0_takeFrom l D cs ad k10 (tX k7 0) s4 _ q12) (cwV 1 hts gX5_delta_X0_takeFrom rfl rfl rfl (by decide +kernel) ⟨Nat.le_of_ble_eq_true rfl, Nat.le_of_ble_eq_true rfl⟩) hE hP rfl rfl (w_0 hE q12) h rfl hl.1 rfl (by first | exact lv_room (Nat.le_of_ble_eq_true rfl) | (refine lv_room ?_; simp [re_cat, cat_i, cat_l, cat_r])) dX5_delta_40 ⟨Nat.le_refl _, Nat.le_refl _⟩) hS (fun s13 H locs h hP hS => ?_)
      refine lv_iconst (v := 0) hx hb dX5_delta_43 (by decide) ?_
      refine lv_istore_n (i := 3) (lv' := [(3, .int 0), (2, .int r2), (0, .ref (ad x0)), (1, .int x1)]) hx hb dX5_delta_44 rfl hl (by decide) (by first | rfl | simp [re_cat, cat_i, cat_l, cat_r]) (fun ls hl => ?_)
      obtain ⟨n14, h⟩ := h
      exact hB45 n14 0 s13 _ _ ls h hP hS (lv_sub hl [2, 0] rfl)
    · replace h := h.2 c6
      refine lv_bipush (v := (-4)) hx hb dX5_delta_26 (by decide) ?_
      exact W.iret hx hb hr (fun t ht hW => ⟨⟨_, _, rfl, h, pw ht hP⟩, hS.F ht⟩) hS.2.2 dX5_delta_28
  · replace h := h.2 c3
    refine lv_iload_n hx hb dX5_delta_14 rfl (lv_at hl 0 rfl) ?_
    exact W.iret hx hb hr (fun t ht hW => ⟨⟨_, _, rfl, h, pw ht hP⟩, hS.F ht⟩) hS.2.2 dX5_delta_15
def p_X5_isWoman (x0 : Nat) (x1 : Int32) (s : Sg) (Q : Int32 → Sg → Prop) : Prop := ((x1 < 0 → Q 0 s) ∧ (¬ x1 < 0 → ∃ k2, tX x0 3 = some k2 ∧ kX k2 = 0 ∧ (((gI s k2 0) ≤ x1 → Q 0 s) ∧ (¬ (gI s k2 0) ≤ x1 → Q 1 s))))
set_option maxHeartbeats 4000000 in
set_option maxRecDepth 100000 in
theorem c_X5_isWoman (l : Launch) (D : va_G) (cs : Cs) (ad : Nat → Nat) (x0 : Nat) (x1 : Int32) (s0 : Sg) (Q : Int32 → Sg → Prop) (hk0 : kX x0 = 4) : Met l yX5_isWoman wsX5_isWoman { frames := 0, cells := 0, slots := 0, locals := 0 } (Pc0 bX D cs ad [.ref (ad x0), .int x1] s0 (p_X5_isWoman x0 x1 s0 Q)) (QI bX D cs ad Q) 0 0 (fAd bX ad) := by
  refine Met.ofW (cc := cX5_isWoman) (maxL := 2) (ret := (some .boolean)) (by decide) rfl ?_
  intro p e s m args below meth c s₁ B0 hml hv
  obtain ⟨ha, hP, hE, h⟩ := hv
  have hx := B0.exec
  have hb := B0.bytes
  have hr := B0.returns
  have hts := atoms_spec (ws := wsX5_isWoman) B0.pre
  have hown : s.vm.findClass RX5 = some m.cls := findClass_of_methodNamed B0.named
  have hlocks := B0.notSynchronized
  have hi_X0 : ∀ w ∈ u_ws RX0 TX0 15, w ∈ wsX5_isWoman := by decide +kernel
  have hi_X5 : ∀ w ∈ u_ws RX5 TX5 12, w ∈ wsX5_isWoman := by decide +kernel
  have hS : va_S (fAd bX ad) s.heap s.heap [] := va_S.rf
  have hl := lv_entry ([.ref (ad x0), .int x1]) (n := 2) (by first | exact Nat.le_of_ble_eq_true rfl | simp [lg_sl, re_cat, cat_i, cat_l, cat_r])
  rw [show entryFrame m args 2 = entryFrame m ([.ref (ad x0), .int x1] : List Value).toArray 2 by rw [ha], lg_entry_eq]
  generalize (lg_sl ([.ref (ad x0), .int x1]) ++ List.replicate (2 - (lg_sl ([.ref (ad x0), .int x1])).length) Slot.unset).toArray = ls at hl ⊢
  have hl : lv_has ls 2 [(0, .ref (ad x0)), (1, .int x1)] := by first | exact hl | simpa [lv_args, re_cat, cat_i, cat_l, cat_r] using hl
  unfold p_X5_isWoman at h
  refine lv_iload_n hx hb dX5_isWoman_0 rfl (lv_at hl 1 rfl) ?_
  refine lv_if_lt (tgt := 19) hx hb dX5_isWoman_1 (by decide) (fun c1 => ?_) (fun c1 => ?_)
  · replace h := h.1 c1
    refine lv_iconst (v := 0) hx hb dX5_isWoman_19 (by decide) ?_
    exact W.zret hx hb hr rfl (fun t ht hW => ⟨⟨_, _, rfl, h, pw ht hP⟩, hS.F ht⟩) hS.2.2 dX5_isWoman_20
  · replace h := h.2 c1
    refine lv_iload_n hx hb dX5_isWoman_4 rfl (lv_at hl 1 rfl) ?_
    refine lv_aload_n hx hb dX5_isWoman_5 rfl (lv_at hl 0 rfl) ?_
    refine va_get (ci := 4) (v := va_re ad (tX x0 3)) (C := RX5) (T := TX5) (N := 12) hx hb hts hi_X5 hown hE.1 hP x0 (w_4 hE hk0) rfl 3 (by decide) (hts (.fieldLink RX5 33 "HemLine" "now" "LHemLine$Delta;") (by decide +kernel)) (fun _ h9 => h9) rfl dX5_isWoman_6 ?_
    obtain ⟨k2, e3, q4, h⟩ := h
    refine r_known (ad := ad) e3 ?_
    refine va_getN (ci := 0) (v := .int (gI s0 k2 0)) (C := RX0) (T := TX0) (N := 15) hx hb hts hi_X0 hown hE.1 hP k2 (w_0 hE q4) rfl 0 (by decide) ((hE.2.2.2.1 ("HemLine", 126, "HemLine$Delta", "women", "I", "HemLine") (by decide +kernel)).use rfl) (fun _ h9 => h9) rfl dX5_isWoman_9 ?_
    refine lv_icmp_ge (tgt := 19) hx hb dX5_isWoman_12 (by decide) (fun c5 => ?_) (fun c5 => ?_)
    · replace h := h.1 c5
      refine lv_iconst (v := 0) hx hb dX5_isWoman_19 (by decide) ?_
      exact W.zret hx hb hr rfl (fun t ht hW => ⟨⟨_, _, rfl, h, pw ht hP⟩, hS.F ht⟩) hS.2.2 dX5_isWoman_20
    · replace h := h.2 c5
      refine lv_iconst (v := 1) hx hb dX5_isWoman_15 (by decide) ?_
      refine lv_goto (tgt := 20) hx hb dX5_isWoman_16 (by decide) ?_
      exact W.zret hx hb hr rfl (fun t ht hW => ⟨⟨_, _, rfl, h, pw ht hP⟩, hS.F ht⟩) hS.2.2 dX5_isWoman_20
