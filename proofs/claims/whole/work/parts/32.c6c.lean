def p_X6_hemThen (x0 : Nat) (x1 : Int32) (x2 : Int32) (x3 : Int32) (x4 : Int32) (s : Sg) (Q : Int32 → Sg → Prop) : Prop := ∃ k1, tM x0 22 = some k1 ∧ kM k1 = 7 ∧ vp_in x2 (lM k1) ∧ ∃ k5, tM x0 35 = some k5 ∧ kM k5 = 7 ∧ vp_in ((6 * x3) + x2) (lM k5) ∧ ∃ k9, tM x0 34 = some k9 ∧ kM k9 = 7 ∧ vp_in ((6 * x3) + x2) (lM k9) ∧ p_X6_wet x4 (gR s k9 ((6 * x3) + x2).toNatClampNeg) s (fun r14 s13 => p_X6_hemBy x1 (gR s k1 x2.toNatClampNeg) (gR s k5 ((6 * x3) + x2).toNatClampNeg) r14 x3 s13 (fun r16 s15 => Q r16 s15))
set_option maxHeartbeats 4000000 in
set_option maxRecDepth 100000 in
theorem c_X6_hemThen (l : Launch) (D : va_G) (cs : Cs) (ad : Nat → Nat) (x0 : Nat) (x1 : Int32) (x2 : Int32) (x3 : Int32) (x4 : Int32) (s0 : Sg) (Q : Int32 → Sg → Prop) (hk0 : kM x0 = 5) : Met l yX6_hemThen wsX6_hemThen { frames := 2, cells := 0, slots := 0, locals := 48 } (Pc0 bM D cs ad [.ref (ad x0), .int x1, .int x2, .int x3, .int x4] s0 (p_X6_hemThen x0 x1 x2 x3 x4 s0 Q)) (QI bM D cs ad Q) 0 0 (fAd bM ad) := by
  refine Met.ofW (cc := cX6_hemThen) (maxL := 6) (ret := (some .int)) (by decide) rfl ?_
  intro p e s m args below meth c s₁ B0 hml hv
  obtain ⟨ha, hP, hE, h⟩ := hv
  have hx := B0.exec
  have hb := B0.bytes
  have hr := B0.returns
  have hts := atoms_spec (ws := wsX6_hemThen) B0.pre
  have hown : s.vm.findClass RX6 = some m.cls := findClass_of_methodNamed B0.named
  have hlocks := B0.notSynchronized
  have hi_X6 : ∀ w ∈ u_ws RX6 TX6 42, w ∈ wsX6_hemThen := by decide +kernel
  have hS : va_S (fAd bM ad) s.heap s.heap [] := va_S.rf
  have hl := lv_entry ([.ref (ad x0), .int x1, .int x2, .int x3, .int x4]) (n := 6) (by first | exact Nat.le_of_ble_eq_true rfl | simp [lg_sl, re_cat, cat_i, cat_l, cat_r])
  rw [show entryFrame m args 6 = entryFrame m ([.ref (ad x0), .int x1, .int x2, .int x3, .int x4] : List Value).toArray 6 by rw [ha], lg_entry_eq]
  generalize (lg_sl ([.ref (ad x0), .int x1, .int x2, .int x3, .int x4]) ++ List.replicate (6 - (lg_sl ([.ref (ad x0), .int x1, .int x2, .int x3, .int x4])).length) Slot.unset).toArray = ls at hl ⊢
  have hl : lv_has ls 6 [(0, .ref (ad x0)), (1, .int x1), (2, .int x2), (3, .int x3), (4, .int x4)] := by first | exact hl | simpa [lv_args, re_cat, cat_i, cat_l, cat_r] using hl
  unfold p_X6_hemThen at h
  refine lv_bipush (v := 6) hx hb dX6_hemThen_0 (by decide) ?_
  refine lv_iload_n hx hb dX6_hemThen_2 rfl (lv_at hl 3 rfl) ?_
  refine lv_imul hx hb dX6_hemThen_3 ?_
  refine lv_iload_n hx hb dX6_hemThen_4 rfl (lv_at hl 2 rfl) ?_
  refine lv_iadd hx hb dX6_hemThen_5 ?_
  refine lv_istore (i := 5) (lv' := [(5, .int ((6 * x3) + x2)), (0, .ref (ad x0)), (1, .int x1), (2, .int x2), (3, .int x3), (4, .int x4)]) hx hb dX6_hemThen_6 hl (by decide) (by first | rfl | simp [re_cat, cat_i, cat_l, cat_r]) (fun ls hl => ?_)
  refine lv_iload_n hx hb dX6_hemThen_8 rfl (lv_at hl 2 rfl) ?_
  refine lv_aload_n hx hb dX6_hemThen_9 rfl (lv_at hl 1 rfl) ?_
  refine va_get (ci := 5) (v := va_re ad (tM x0 22)) (C := RX6) (T := TX6) (N := 42) hx hb hts hi_X6 hown hE.1 hP x0 (w_5 hE hk0) rfl 22 (by decide) (hts (.fieldLink RX6 47 "HemLineModel" "tall" "[I") (by decide +kernel)) (fun _ h9 => h9) rfl dX6_hemThen_10 ?_
  refine lv_iload_n hx hb dX6_hemThen_13 rfl (lv_at hl 3 rfl) ?_
  obtain ⟨k1, e2, q3, i4, h⟩ := h
  refine r_iald hx hb hE hP e2 q3 i4 dX6_hemThen_14 ?_
  refine lv_aload_n hx hb dX6_hemThen_15 rfl (lv_at hl 1 rfl) ?_
  refine va_get (ci := 5) (v := va_re ad (tM x0 35)) (C := RX6) (T := TX6) (N := 42) hx hb hts hi_X6 hown hE.1 hP x0 (w_5 hE hk0) rfl 35 (by decide) (hts (.fieldLink RX6 77 "HemLineModel" "thenTuck" "[I") (by decide +kernel)) (fun _ h9 => h9) rfl dX6_hemThen_16 ?_
  refine lv_iload hx hb dX6_hemThen_19 (lv_at hl 0 rfl) ?_
  obtain ⟨k5, e6, q7, i8, h⟩ := h
  refine r_iald hx hb hE hP e6 q7 i8 dX6_hemThen_21 ?_
  refine lv_iload hx hb dX6_hemThen_22 (lv_at hl 5 rfl) ?_
  refine lv_aload_n hx hb dX6_hemThen_24 rfl (lv_at hl 1 rfl) ?_
  refine va_get (ci := 5) (v := va_re ad (tM x0 34)) (C := RX6) (T := TX6) (N := 42) hx hb hts hi_X6 hown hE.1 hP x0 (w_5 hE hk0) rfl 34 (by decide) (hts (.fieldLink RX6 74 "HemLineModel" "thenGround" "[I") (by decide +kernel)) (fun _ h9 => h9) rfl dX6_hemThen_25 ?_
  refine lv_iload hx hb dX6_hemThen_28 (lv_at hl 0 rfl) ?_
  obtain ⟨k9, e10, q11, i12, h⟩ := h
  refine r_iald hx hb hE hP e10 q11 i12 dX6_hemThen_30 ?_
  refine f_i (kS (As := [.int x4, .int (gR s0 k9 ((6 * x3) + x2).toNatClampNeg)]) (rest := [.int (gR s0 k5 ((6 * x3) + x2).toNatClampNeg), .int (gR s0 k1 x2.toNatClampNeg), .int x1]) ⟨hx, hb, hml, hown, hts⟩ (c_X6_wet l D cs ad x4 (gR s0 k9 ((6 * x3) + x2).toNatClampNeg) s0 _) (va_cwS 2 hts gX6_hemThen_X6_wet rfl rfl rfl (by decide +kernel) ⟨Nat.le_of_ble_eq_true rfl, Nat.le_of_ble_eq_true rfl⟩) hE hP h rfl hl.1 rfl (by first | exact lv_room (Nat.le_of_ble_eq_true rfl) | (refine lv_room ?_; simp [re_cat, cat_i, cat_l, cat_r])) dX6_hemThen_31 ⟨Nat.le_refl _, Nat.le_refl _⟩) hS (fun r14 s13 H locs h hP hS => ?_)
  refine lv_iload_n hx hb dX6_hemThen_34 rfl (lv_at hl 4 rfl) ?_
  refine f_i (kS (As := [.int x1, .int (gR s0 k1 x2.toNatClampNeg), .int (gR s0 k5 ((6 * x3) + x2).toNatClampNeg), .int r14, .int x3]) (rest := []) ⟨hx, hb, hml, hown, hts⟩ (c_X6_hemBy l D cs ad x1 (gR s0 k1 x2.toNatClampNeg) (gR s0 k5 ((6 * x3) + x2).toNatClampNeg) r14 x3 s13 _) (va_cwS 5 hts gX6_hemThen_X6_hemBy rfl rfl rfl (by decide +kernel) ⟨Nat.le_of_ble_eq_true rfl, Nat.le_of_ble_eq_true rfl⟩) hE hP h rfl hl.1 rfl (by first | exact lv_room (Nat.le_of_ble_eq_true rfl) | (refine lv_room ?_; simp [re_cat, cat_i, cat_l, cat_r])) dX6_hemThen_35 ⟨Nat.le_refl _, Nat.le_refl _⟩) hS (fun r16 s15 H locs h hP hS => ?_)
  exact W.iret hx hb hr (fun t ht hW => ⟨⟨_, _, rfl, h, pw ht hP⟩, hS.F ht⟩) hS.2.2 dX6_hemThen_38
def p_X6_does (x0 : Nat) (x1 : Int32) (x2 : Int32) (x3 : Int32) (s : Sg) (Q : Sg → Prop) : Prop := ∃ k1, tM x0 37 = some k1 ∧ kM k1 = 7 ∧ vp_in (3 * (gI s x0 36)) (lM k1) ∧ ∃ k5, tM x0 37 = some k5 ∧ kM k5 = 7 ∧ vp_in ((3 * (gI (setR s k1 (upd (gR s k1) (3 * (gI s x0 36)).toNatClampNeg x1)) x0 36)) + 1) (lM k5) ∧ ∃ k9, tM x0 37 = some k9 ∧ kM k9 = 7 ∧ vp_in ((3 * (gI (setR (setR s k1 (upd (gR s k1) (3 * (gI s x0 36)).toNatClampNeg x1)) k5 (upd (gR (setR s k1 (upd (gR s k1) (3 * (gI s x0 36)).toNatClampNeg x1)) k5) ((3 * (gI (setR s k1 (upd (gR s k1) (3 * (gI s x0 36)).toNatClampNeg x1)) x0 36)) + 1).toNatClampNeg x2)) x0 36)) + 2) (lM k9) ∧ p_X6_happen x0 x1 x2 x3 (setI (setR (setR (setR s k1 (upd (gR s k1) (3 * (gI s x0 36)).toNatClampNeg x1)) k5 (upd (gR (setR s k1 (upd (gR s k1) (3 * (gI s x0 36)).toNatClampNeg x1)) k5) ((3 * (gI (setR s k1 (upd (gR s k1) (3 * (gI s x0 36)).toNatClampNeg x1)) x0 36)) + 1).toNatClampNeg x2)) k9 (upd (gR (setR (setR s k1 (upd (gR s k1) (3 * (gI s x0 36)).toNatClampNeg x1)) k5 (upd (gR (setR s k1 (upd (gR s k1) (3 * (gI s x0 36)).toNatClampNeg x1)) k5) ((3 * (gI (setR s k1 (upd (gR s k1) (3 * (gI s x0 36)).toNatClampNeg x1)) x0 36)) + 1).toNatClampNeg x2)) k9) ((3 * (gI (setR (setR s k1 (upd (gR s k1) (3 * (gI s x0 36)).toNatClampNeg x1)) k5 (upd (gR (setR s k1 (upd (gR s k1) (3 * (gI s x0 36)).toNatClampNeg x1)) k5) ((3 * (gI (setR s k1 (upd (gR s k1) (3 * (gI s x0 36)).toNatClampNeg x1)) x0 36)) + 1).toNatClampNeg x2)) x0 36)) + 2).toNatClampNeg x3)) x0 36 ((gI (setR (setR (setR s k1 (upd (gR s k1) (3 * (gI s x0 36)).toNatClampNeg x1)) k5 (upd (gR (setR s k1 (upd (gR s k1) (3 * (gI s x0 36)).toNatClampNeg x1)) k5) ((3 * (gI (setR s k1 (upd (gR s k1) (3 * (gI s x0 36)).toNatClampNeg x1)) x0 36)) + 1).toNatClampNeg x2)) k9 (upd (gR (setR (setR s k1 (upd (gR s k1) (3 * (gI s x0 36)).toNatClampNeg x1)) k5 (upd (gR (setR s k1 (upd (gR s k1) (3 * (gI s x0 36)).toNatClampNeg x1)) k5) ((3 * (gI (setR s k1 (upd (gR s k1) (3 * (gI s x0 36)).toNatClampNeg x1)) x0 36)) + 1).toNatClampNeg x2)) k9) ((3 * (gI (setR (setR s k1 (upd (gR s k1) (3 * (gI s x0 36)).toNatClampNeg x1)) k5 (upd (gR (setR s k1 (upd (gR s k1) (3 * (gI s x0 36)).toNatClampNeg x1)) k5) ((3 * (gI (setR s k1 (upd (gR s k1) (3 * (gI s x0 36)).toNatClampNeg x1)) x0 36)) + 1).toNatClampNeg x2)) x0 36)) + 2).toNatClampNeg x3)) x0 36) + 1)) (fun s13 => Q s13)
set_option maxHeartbeats 4000000 in
set_option maxRecDepth 100000 in
theorem c_X6_does (l : Launch) (D : va_G) (cs : Cs) (ad : Nat → Nat) (x0 : Nat) (x1 : Int32) (x2 : Int32) (x3 : Int32) (s0 : Sg) (Q : Sg → Prop) (hk0 : kM x0 = 5) : Met l yX6_does wsX6_does { frames := 4, cells := 0, slots := 0, locals := 96 } (Pc0 bM D cs ad [.ref (ad x0), .int x1, .int x2, .int x3] s0 (p_X6_does x0 x1 x2 x3 s0 Q)) (QV bM D cs ad Q) 0 0 (fAd bM ad) := by
  refine Met.ofW (cc := cX6_does) (maxL := 4) (ret := none) (by decide) rfl ?_
  intro p e s m args below meth c s₁ B0 hml hv
  obtain ⟨ha, hP, hE, h⟩ := hv
  have hx := B0.exec
  have hb := B0.bytes
  have hr := B0.returns
  have hts := atoms_spec (ws := wsX6_does) B0.pre
  have hown : s.vm.findClass RX6 = some m.cls := findClass_of_methodNamed B0.named
  have hlocks := B0.notSynchronized
  have hi_X6 : ∀ w ∈ u_ws RX6 TX6 42, w ∈ wsX6_does := by decide +kernel
  have hS : va_S (fAd bM ad) s.heap s.heap [] := va_S.rf
  have hl := lv_entry ([.ref (ad x0), .int x1, .int x2, .int x3]) (n := 4) (by first | exact Nat.le_of_ble_eq_true rfl | simp [lg_sl, re_cat, cat_i, cat_l, cat_r])
  rw [show entryFrame m args 4 = entryFrame m ([.ref (ad x0), .int x1, .int x2, .int x3] : List Value).toArray 4 by rw [ha], lg_entry_eq]
  generalize (lg_sl ([.ref (ad x0), .int x1, .int x2, .int x3]) ++ List.replicate (4 - (lg_sl ([.ref (ad x0), .int x1, .int x2, .int x3])).length) Slot.unset).toArray = ls at hl ⊢
  have hl : lv_has ls 4 [(0, .ref (ad x0)), (1, .int x1), (2, .int x2), (3, .int x3)] := by first | exact hl | simpa [lv_args, re_cat, cat_i, cat_l, cat_r] using hl
  unfold p_X6_does at h
  refine lv_aload_n hx hb dX6_does_0 rfl (lv_at hl 0 rfl) ?_
  refine va_get (ci := 5) (v := va_re ad (tM x0 37)) (C := RX6) (T := TX6) (N := 42) hx hb hts hi_X6 hown hE.1 hP x0 (w_5 hE hk0) rfl 37 (by decide) (hts (.fieldLink RX6 80 "HemLineModel" "deed" "[I") (by decide +kernel)) (fun _ h9 => h9) rfl dX6_does_1 ?_
  refine lv_iconst (v := 3) hx hb dX6_does_4 (by decide) ?_
  refine lv_aload_n hx hb dX6_does_5 rfl (lv_at hl 0 rfl) ?_
  refine va_get (ci := 5) (v := .int (gI s0 x0 36)) (C := RX6) (T := TX6) (N := 42) hx hb hts hi_X6 hown hE.1 hP x0 (w_5 hE hk0) rfl 36 (by decide) (hts (.fieldLink RX6 173 "HemLineModel" "deeds" "I") (by decide +kernel)) (fun _ h9 => h9) rfl dX6_does_6 ?_
  refine lv_imul hx hb dX6_does_9 ?_
  refine lv_iload_n hx hb dX6_does_10 rfl (lv_at hl 1 rfl) ?_
  obtain ⟨k1, e2, q3, i4, h⟩ := h
  refine r_iast hx hb hE hP hS e2 q3 i4 dX6_does_11 (fun H locs hP hS => ?_)
  refine lv_aload_n hx hb dX6_does_12 rfl (lv_at hl 0 rfl) ?_
  refine va_get (ci := 5) (v := va_re ad (tM x0 37)) (C := RX6) (T := TX6) (N := 42) hx hb hts hi_X6 hown hE.1 hP x0 (w_5 hE hk0) rfl 37 (by decide) (hts (.fieldLink RX6 80 "HemLineModel" "deed" "[I") (by decide +kernel)) (fun _ h9 => h9) rfl dX6_does_13 ?_
  refine lv_iconst (v := 3) hx hb dX6_does_16 (by decide) ?_
  refine lv_aload_n hx hb dX6_does_17 rfl (lv_at hl 0 rfl) ?_
  refine va_get (ci := 5) (v := .int (gI (setR s0 k1 (upd (gR s0 k1) (3 * (gI s0 x0 36)).toNatClampNeg x1)) x0 36)) (C := RX6) (T := TX6) (N := 42) hx hb hts hi_X6 hown hE.1 hP x0 (w_5 hE hk0) rfl 36 (by decide) (hts (.fieldLink RX6 173 "HemLineModel" "deeds" "I") (by decide +kernel)) (fun _ h9 => h9) rfl dX6_does_18 ?_
  refine lv_imul hx hb dX6_does_21 ?_
  refine lv_iconst (v := 1) hx hb dX6_does_22 (by decide) ?_
  refine lv_iadd hx hb dX6_does_23 ?_
  refine lv_iload_n hx hb dX6_does_24 rfl (lv_at hl 2 rfl) ?_
  obtain ⟨k5, e6, q7, i8, h⟩ := h
  refine r_iast hx hb hE hP hS e6 q7 i8 dX6_does_25 (fun H locs hP hS => ?_)
  refine lv_aload_n hx hb dX6_does_26 rfl (lv_at hl 0 rfl) ?_
  refine va_get (ci := 5) (v := va_re ad (tM x0 37)) (C := RX6) (T := TX6) (N := 42) hx hb hts hi_X6 hown hE.1 hP x0 (w_5 hE hk0) rfl 37 (by decide) (hts (.fieldLink RX6 80 "HemLineModel" "deed" "[I") (by decide +kernel)) (fun _ h9 => h9) rfl dX6_does_27 ?_
  refine lv_iconst (v := 3) hx hb dX6_does_30 (by decide) ?_
  refine lv_aload_n hx hb dX6_does_31 rfl (lv_at hl 0 rfl) ?_
  refine va_get (ci := 5) (v := .int (gI (setR (setR s0 k1 (upd (gR s0 k1) (3 * (gI s0 x0 36)).toNatClampNeg x1)) k5 (upd (gR (setR s0 k1 (upd (gR s0 k1) (3 * (gI s0 x0 36)).toNatClampNeg x1)) k5) ((3 * (gI (setR s0 k1 (upd (gR s0 k1) (3 * (gI s0 x0 36)).toNatClampNeg x1)) x0 36)) + 1).toNatClampNeg x2)) x0 36)) (C := RX6) (T := TX6) (N := 42) hx hb hts hi_X6 hown hE.1 hP x0 (w_5 hE hk0) rfl 36 (by decide) (hts (.fieldLink RX6 173 "HemLineModel" "deeds" "I") (by decide +kernel)) (fun _ h9 => h9) rfl dX6_does_32 ?_
  refine lv_imul hx hb dX6_does_35 ?_
  refine lv_iconst (v := 2) hx hb dX6_does_36 (by decide) ?_
  refine lv_iadd hx hb dX6_does_37 ?_
  refine lv_iload_n hx hb dX6_does_38 rfl (lv_at hl 3 rfl) ?_
  obtain ⟨k9, e10, q11, i12, h⟩ := h
  refine r_iast hx hb hE hP hS e10 q11 i12 dX6_does_39 (fun H locs hP hS => ?_)
  refine lv_aload_n hx hb dX6_does_40 rfl (lv_at hl 0 rfl) ?_
  refine lv_dup hx hb dX6_does_41 (by first | rfl | exact re_cat _ _) ?_
  refine va_get (ci := 5) (v := .int (gI (setR (setR (setR s0 k1 (upd (gR s0 k1) (3 * (gI s0 x0 36)).toNatClampNeg x1)) k5 (upd (gR (setR s0 k1 (upd (gR s0 k1) (3 * (gI s0 x0 36)).toNatClampNeg x1)) k5) ((3 * (gI (setR s0 k1 (upd (gR s0 k1) (3 * (gI s0 x0 36)).toNatClampNeg x1)) x0 36)) + 1).toNatClampNeg x2)) k9 (upd (gR (setR (setR s0 k1 (upd (gR s0 k1) (3 * (gI s0 x0 36)).toNatClampNeg x1)) k5 (upd (gR (setR s0 k1 (upd (gR s0 k1) (3 * (gI s0 x0 36)).toNatClampNeg x1)) k5) ((3 * (gI (setR s0 k1 (upd (gR s0 k1) (3 * (gI s0 x0 36)).toNatClampNeg x1)) x0 36)) + 1).toNatClampNeg x2)) k9) ((3 * (gI (setR (setR s0 k1 (upd (gR s0 k1) (3 * (gI s0 x0 36)).toNatClampNeg x1)) k5 (upd (gR (setR s0 k1 (upd (gR s0 k1) (3 * (gI s0 x0 36)).toNatClampNeg x1)) k5) ((3 * (gI (setR s0 k1 (upd (gR s0 k1) (3 * (gI s0 x0 36)).toNatClampNeg x1)) x0 36)) + 1).toNatClampNeg x2)) x0 36)) + 2).toNatClampNeg x3)) x0 36)) (C := RX6) (T := TX6) (N := 42) hx hb hts hi_X6 hown hE.1 hP x0 (w_5 hE hk0) rfl 36 (by decide) (hts (.fieldLink RX6 173 "HemLineModel" "deeds" "I") (by decide +kernel)) (fun _ h9 => h9) rfl dX6_does_42 ?_
  refine lv_iconst (v := 1) hx hb dX6_does_45 (by decide) ?_
  refine lv_iadd hx hb dX6_does_46 ?_
  refine r_put (σ' := (setI (setR (setR (setR s0 k1 (upd (gR s0 k1) (3 * (gI s0 x0 36)).toNatClampNeg x1)) k5 (upd (gR (setR s0 k1 (upd (gR s0 k1) (3 * (gI s0 x0 36)).toNatClampNeg x1)) k5) ((3 * (gI (setR s0 k1 (upd (gR s0 k1) (3 * (gI s0 x0 36)).toNatClampNeg x1)) x0 36)) + 1).toNatClampNeg x2)) k9 (upd (gR (setR (setR s0 k1 (upd (gR s0 k1) (3 * (gI s0 x0 36)).toNatClampNeg x1)) k5 (upd (gR (setR s0 k1 (upd (gR s0 k1) (3 * (gI s0 x0 36)).toNatClampNeg x1)) k5) ((3 * (gI (setR s0 k1 (upd (gR s0 k1) (3 * (gI s0 x0 36)).toNatClampNeg x1)) x0 36)) + 1).toNatClampNeg x2)) k9) ((3 * (gI (setR (setR s0 k1 (upd (gR s0 k1) (3 * (gI s0 x0 36)).toNatClampNeg x1)) k5 (upd (gR (setR s0 k1 (upd (gR s0 k1) (3 * (gI s0 x0 36)).toNatClampNeg x1)) k5) ((3 * (gI (setR s0 k1 (upd (gR s0 k1) (3 * (gI s0 x0 36)).toNatClampNeg x1)) x0 36)) + 1).toNatClampNeg x2)) x0 36)) + 2).toNatClampNeg x3)) x0 36 ((gI (setR (setR (setR s0 k1 (upd (gR s0 k1) (3 * (gI s0 x0 36)).toNatClampNeg x1)) k5 (upd (gR (setR s0 k1 (upd (gR s0 k1) (3 * (gI s0 x0 36)).toNatClampNeg x1)) k5) ((3 * (gI (setR s0 k1 (upd (gR s0 k1) (3 * (gI s0 x0 36)).toNatClampNeg x1)) x0 36)) + 1).toNatClampNeg x2)) k9 (upd (gR (setR (setR s0 k1 (upd (gR s0 k1) (3 * (gI s0 x0 36)).toNatClampNeg x1)) k5 (upd (gR (setR s0 k1 (upd (gR s0 k1) (3 * (gI s0 x0 36)).toNatClampNeg x1)) k5) ((3 * (gI (setR s0 k1 (upd (gR s0 k1) (3 * (gI s0 x0 36)).toNatClampNeg x1)) x0 36)) + 1).toNatClampNeg x2)) k9) ((3 * (gI (setR (setR s0 k1 (upd (gR s0 k1) (3 * (gI s0 x0 36)).toNatClampNeg x1)) k5 (upd (gR (setR s0 k1 (upd (gR s0 k1) (3 * (gI s0 x0 36)).toNatClampNeg x1)) k5) ((3 * (gI (setR s0 k1 (upd (gR s0 k1) (3 * (gI s0 x0 36)).toNatClampNeg x1)) x0 36)) + 1).toNatClampNeg x2)) x0 36)) + 2).toNatClampNeg x3)) x0 36) + 1))) (ci := 5) (v := .int ((gI (setR (setR (setR s0 k1 (upd (gR s0 k1) (3 * (gI s0 x0 36)).toNatClampNeg x1)) k5 (upd (gR (setR s0 k1 (upd (gR s0 k1) (3 * (gI s0 x0 36)).toNatClampNeg x1)) k5) ((3 * (gI (setR s0 k1 (upd (gR s0 k1) (3 * (gI s0 x0 36)).toNatClampNeg x1)) x0 36)) + 1).toNatClampNeg x2)) k9 (upd (gR (setR (setR s0 k1 (upd (gR s0 k1) (3 * (gI s0 x0 36)).toNatClampNeg x1)) k5 (upd (gR (setR s0 k1 (upd (gR s0 k1) (3 * (gI s0 x0 36)).toNatClampNeg x1)) k5) ((3 * (gI (setR s0 k1 (upd (gR s0 k1) (3 * (gI s0 x0 36)).toNatClampNeg x1)) x0 36)) + 1).toNatClampNeg x2)) k9) ((3 * (gI (setR (setR s0 k1 (upd (gR s0 k1) (3 * (gI s0 x0 36)).toNatClampNeg x1)) k5 (upd (gR (setR s0 k1 (upd (gR s0 k1) (3 * (gI s0 x0 36)).toNatClampNeg x1)) k5) ((3 * (gI (setR s0 k1 (upd (gR s0 k1) (3 * (gI s0 x0 36)).toNatClampNeg x1)) x0 36)) + 1).toNatClampNeg x2)) x0 36)) + 2).toNatClampNeg x3)) x0 36) + 1)) (ty := .int) (C := RX6) (T := TX6) (N := 42) hx hb hts hi_X6 tyX6 tyX6_ok nmX6 hown hE hP hS x0 (w_5 hE hk0) rfl 36 (by decide) (hts (.fieldLink RX6 173 "HemLineModel" "deeds" "I") (by decide +kernel)) (fun _ h9 => h9) rfl (by decide +kernel) rfl rfl (Nat.le_of_ble_eq_true rfl) dX6_does_47 (st_5_36 hE hk0 _) (fun H locs hP hS => ?_)
  refine lv_aload_n hx hb dX6_does_50 rfl (lv_at hl 0 rfl) ?_
  refine lv_iload_n hx hb dX6_does_51 rfl (lv_at hl 1 rfl) ?_
  refine lv_iload_n hx hb dX6_does_52 rfl (lv_at hl 2 rfl) ?_
  refine lv_iload_n hx hb dX6_does_53 rfl (lv_at hl 3 rfl) ?_
  refine f_v (kV (As := [.int x1, .int x2, .int x3]) (rest := []) (o := some x0) rfl ⟨hx, hb, hml, hown, hts⟩ (c_X6_happen l D cs ad x0 x1 x2 x3 (setI (setR (setR (setR s0 k1 (upd (gR s0 k1) (3 * (gI s0 x0 36)).toNatClampNeg x1)) k5 (upd (gR (setR s0 k1 (upd (gR s0 k1) (3 * (gI s0 x0 36)).toNatClampNeg x1)) k5) ((3 * (gI (setR s0 k1 (upd (gR s0 k1) (3 * (gI s0 x0 36)).toNatClampNeg x1)) x0 36)) + 1).toNatClampNeg x2)) k9 (upd (gR (setR (setR s0 k1 (upd (gR s0 k1) (3 * (gI s0 x0 36)).toNatClampNeg x1)) k5 (upd (gR (setR s0 k1 (upd (gR s0 k1) (3 * (gI s0 x0 36)).toNatClampNeg x1)) k5) ((3 * (gI (setR s0 k1 (upd (gR s0 k1) (3 * (gI s0 x0 36)).toNatClampNeg x1)) x0 36)) + 1).toNatClampNeg x2)) k9) ((3 * (gI (setR (setR s0 k1 (upd (gR s0 k1) (3 * (gI s0 x0 36)).toNatClampNeg x1)) k5 (upd (gR (setR s0 k1 (upd (gR s0 k1) (3 * (gI s0 x0 36)).toNatClampNeg x1)) k5) ((3 * (gI (setR s0 k1 (upd (gR s0 k1) (3 * (gI s0 x0 36)).toNatClampNeg x1)) x0 36)) + 1).toNatClampNeg x2)) x0 36)) + 2).toNatClampNeg x3)) x0 36 ((gI (setR (setR (setR s0 k1 (upd (gR s0 k1) (3 * (gI s0 x0 36)).toNatClampNeg x1)) k5 (upd (gR (setR s0 k1 (upd (gR s0 k1) (3 * (gI s0 x0 36)).toNatClampNeg x1)) k5) ((3 * (gI (setR s0 k1 (upd (gR s0 k1) (3 * (gI s0 x0 36)).toNatClampNeg x1)) x0 36)) + 1).toNatClampNeg x2)) k9 (upd (gR (setR (setR s0 k1 (upd (gR s0 k1) (3 * (gI s0 x0 36)).toNatClampNeg x1)) k5 (upd (gR (setR s0 k1 (upd (gR s0 k1) (3 * (gI s0 x0 36)).toNatClampNeg x1)) k5) ((3 * (gI (setR s0 k1 (upd (gR s0 k1) (3 * (gI s0 x0 36)).toNatClampNeg x1)) x0 36)) + 1).toNatClampNeg x2)) k9) ((3 * (gI (setR (setR s0 k1 (upd (gR s0 k1) (3 * (gI s0 x0 36)).toNatClampNeg x1)) k5 (upd (gR (setR s0 k1 (upd (gR s0 k1) (3 * (gI s0 x0 36)).toNatClampNeg x1)) k5) ((3 * (gI (setR s0 k1 (upd (gR s0 k1) (3 * (gI s0 x0 36)).toNatClampNeg x1)) x0 36)) + 1).toNatClampNeg x2)) x0 36)) + 2).toNatClampNeg x3)) x0 36) + 1)) _ hk0) (cwV 3 hts gX6_does_X6_happen rfl rfl rfl (by decide +kernel) ⟨Nat.le_of_ble_eq_true rfl, Nat.le_of_ble_eq_true rfl⟩) hE hP rfl rfl (w_5 hE hk0) h rfl hl.1 rfl (by first | exact lv_room (Nat.le_of_ble_eq_true rfl) | (refine lv_room ?_; simp [re_cat, cat_i, cat_l, cat_r])) dX6_does_54 ⟨Nat.le_refl _, Nat.le_refl _⟩) hS (fun s13 H locs h hP hS => ?_)
  exact W.vret hx hb hr (fun t ht hW => ⟨⟨_, rfl, h, pw ht hP⟩, hS.F ht⟩) hS.2.2 dX6_does_57
def p_X6_manyWet_b36 (Q : Int32 → Sg → Prop) (K4 : Nat → Int32 → Int32 → Int32 → Sg → Prop) (x0 : Nat) (x1 : Int32) (x3 : Int32) (t0 : Int32) (t1 : Int32) (s : Sg) : Prop := K4 x0 x1 (t0 + t1) (x3 + 1) s
def p_X6_manyWet_L4 (Q : Int32 → Sg → Prop)  : Nat → Nat → Int32 → Int32 → Int32 → Sg → Prop
  | 0, _, _, _, _, _ => False
  | n + 1, x0, x1, x2, x3, s => (((gI s x0 20) ≤ x3 → Q x2 s) ∧ (¬ (gI s x0 20) ≤ x3 → ∃ k2, tM x0 27 = some k2 ∧ kM k2 = 7 ∧ vp_in x3 (lM k2) ∧ ∃ k6, tM x0 29 = some k6 ∧ kM k6 = 7 ∧ vp_in (gR s k2 x3.toNatClampNeg) (lM k6) ∧ p_X6_wet x1 (gR s k6 (gR s k2 x3.toNatClampNeg).toNatClampNeg) s (fun r11 s10 => ((r11 ≤ 0 → p_X6_manyWet_b36 Q (fun y0 y1 y2 y3 u => p_X6_manyWet_L4 Q  n y0 y1 y2 y3 u) x0 x1 x3 x2 0 s10) ∧ (¬ r11 ≤ 0 → p_X6_manyWet_b36 Q (fun y0 y1 y2 y3 u => p_X6_manyWet_L4 Q  n y0 y1 y2 y3 u) x0 x1 x3 x2 1 s10)))))
def p_X6_manyWet (x0 : Nat) (x1 : Int32) (s : Sg) (Q : Int32 → Sg → Prop) : Prop := (∃ n1, p_X6_manyWet_L4 Q  n1 x0 x1 0 0 s)
set_option maxHeartbeats 4000000 in
set_option maxRecDepth 100000 in
theorem c_X6_manyWet (l : Launch) (D : va_G) (cs : Cs) (ad : Nat → Nat) (x0 : Nat) (x1 : Int32) (s0 : Sg) (Q : Int32 → Sg → Prop) (hk0 : kM x0 = 5) : Met l yX6_manyWet wsX6_manyWet { frames := 1, cells := 0, slots := 0, locals := 21 } (Pc0 bM D cs ad [.ref (ad x0), .int x1] s0 (p_X6_manyWet x0 x1 s0 Q)) (QI bM D cs ad Q) 0 0 (fAd bM ad) := by
  refine Met.ofW (cc := cX6_manyWet) (maxL := 4) (ret := (some .int)) (by decide) rfl ?_
  intro p e s m args below meth c s₁ B0 hml hv
  obtain ⟨ha, hP, hE, h⟩ := hv
  have hx := B0.exec
  have hb := B0.bytes
  have hr := B0.returns
  have hts := atoms_spec (ws := wsX6_manyWet) B0.pre
  have hown : s.vm.findClass RX6 = some m.cls := findClass_of_methodNamed B0.named
  have hlocks := B0.notSynchronized
  have hi_X6 : ∀ w ∈ u_ws RX6 TX6 42, w ∈ wsX6_manyWet := by decide +kernel
  have hS : va_S (fAd bM ad) s.heap s.heap [] := va_S.rf
  have hl := lv_entry ([.ref (ad x0), .int x1]) (n := 4) (by first | exact Nat.le_of_ble_eq_true rfl | simp [lg_sl, re_cat, cat_i, cat_l, cat_r])
  rw [show entryFrame m args 4 = entryFrame m ([.ref (ad x0), .int x1] : List Value).toArray 4 by rw [ha], lg_entry_eq]
  generalize (lg_sl ([.ref (ad x0), .int x1]) ++ List.replicate (4 - (lg_sl ([.ref (ad x0), .int x1])).length) Slot.unset).toArray = ls at hl ⊢
  have hl : lv_has ls 4 [(0, .ref (ad x0)), (1, .int x1)] := by first | exact hl | simpa [lv_args, re_cat, cat_i, cat_l, cat_r] using hl
  have hB4 : ∀ (n4 : Nat) (x1 : Int32) (x2 : Int32) (x3 : Int32) (σ : Sg) (H : Heap) (locs : List Loc) (ls : Array Slot), p_X6_manyWet_L4 Q  n4 x0 x1 x2 x3 σ → va_P D vwCl (wl bM cs ad σ) H → va_S (fAd bM ad) s.heap H locs → lv_has ls 4 [(0, .ref (ad x0)), (1, .int x1), (2, .int x2), (3, .int x3)] → W p l e { frames := 1, cells := 0, slots := 0, locals := 21 } s m args below meth c H locs 0 0 (MQ below (QI bM D cs ad Q) args s 0 0 (fAd bM ad)) (F0 m 4 ls []) := by
    intro n4
    induction n4 with
    | zero =>
      intro x1 x2 x3 σ H locs ls h
      exact h.elim
    | succ n4 ih =>
      have hK4 := ih
      have hB36 : ∀ (x1 : Int32) (x3 : Int32) (t0 : Int32) (t1 : Int32) (σ : Sg) (H : Heap) (locs : List Loc) (ls : Array Slot), p_X6_manyWet_b36 Q (fun y0 y1 y2 y3 u => p_X6_manyWet_L4 Q  n4 y0 y1 y2 y3 u) x0 x1 x3 t0 t1 σ → va_P D vwCl (wl bM cs ad σ) H → va_S (fAd bM ad) s.heap H locs → lv_has ls 4 [(0, .ref (ad x0)), (1, .int x1), (3, .int x3)] → W p l e { frames := 1, cells := 0, slots := 0, locals := 21 } s m args below meth c H locs 0 0 (MQ below (QI bM D cs ad Q) args s 0 0 (fAd bM ad)) (F0 m 36 ls [.int t1, .int t0]) := by
        intro x1 x3 t0 t1 σ H locs ls h hP hS hl
        unfold p_X6_manyWet_b36 at h
        refine lv_iadd hx hb dX6_manyWet_36 ?_
        refine lv_istore_n (i := 2) (lv' := [(2, .int (t0 + t1)), (0, .ref (ad x0)), (1, .int x1), (3, .int x3)]) hx hb dX6_manyWet_37 rfl hl (by decide) (by first | rfl | simp [re_cat, cat_i, cat_l, cat_r]) (fun ls hl => ?_)
        refine lv_iinc (v := x3 + 1) (lv' := [(3, .int (x3 + 1)), (2, .int (t0 + t1)), (0, .ref (ad x0)), (1, .int x1)]) hx hb dX6_manyWet_38 hl (k := 3) rfl rfl (by decide) (by first | rfl | simp [re_cat, cat_i, cat_l, cat_r]) (fun ls hl => ?_)
        refine lv_goto (tgt := 4) hx hb dX6_manyWet_41 (by decide) ?_
        exact hK4 x1 (t0 + t1) (x3 + 1) σ H locs ls h hP hS (lv_sub hl [2, 3, 1, 0] rfl)
      intro x1 x2 x3 σ H locs ls h hP hS hl
      rw [p_X6_manyWet_L4] at h
      refine lv_iload_n hx hb dX6_manyWet_4 rfl (lv_at hl 3 rfl) ?_
      refine lv_aload_n hx hb dX6_manyWet_5 rfl (lv_at hl 0 rfl) ?_
      refine va_get (ci := 5) (v := .int (gI σ x0 20)) (C := RX6) (T := TX6) (N := 42) hx hb hts hi_X6 hown hE.1 hP x0 (w_5 hE hk0) rfl 20 (by decide) (hts (.fieldLink RX6 167 "HemLineModel" "women" "I") (by decide +kernel)) (fun _ h9 => h9) rfl dX6_manyWet_6 ?_
      refine lv_icmp_ge (tgt := 44) hx hb dX6_manyWet_9 (by decide) (fun c1 => ?_) (fun c1 => ?_)
      · replace h := h.1 c1
        refine lv_iload_n hx hb dX6_manyWet_44 rfl (lv_at hl 2 rfl) ?_
        exact W.iret hx hb hr (fun t ht hW => ⟨⟨_, _, rfl, h, pw ht hP⟩, hS.F ht⟩) hS.2.2 dX6_manyWet_45
      · replace h := h.2 c1
        refine lv_iload_n hx hb dX6_manyWet_12 rfl (lv_at hl 2 rfl) ?_
        refine lv_iload_n hx hb dX6_manyWet_13 rfl (lv_at hl 1 rfl) ?_
        refine lv_aload_n hx hb dX6_manyWet_14 rfl (lv_at hl 0 rfl) ?_
        refine va_get (ci := 5) (v := va_re ad (tM x0 29)) (C := RX6) (T := TX6) (N := 42) hx hb hts hi_X6 hown hE.1 hP x0 (w_5 hE hk0) rfl 29 (by decide) (hts (.fieldLink RX6 65 "HemLineModel" "ground" "[I") (by decide +kernel)) (fun _ h9 => h9) rfl dX6_manyWet_15 ?_
        refine lv_aload_n hx hb dX6_manyWet_18 rfl (lv_at hl 0 rfl) ?_
        refine va_get (ci := 5) (v := va_re ad (tM x0 27)) (C := RX6) (T := TX6) (N := 42) hx hb hts hi_X6 hown hE.1 hP x0 (w_5 hE hk0) rfl 27 (by decide) (hts (.fieldLink RX6 59 "HemLineModel" "lives" "[I") (by decide +kernel)) (fun _ h9 => h9) rfl dX6_manyWet_19 ?_
        refine lv_iload_n hx hb dX6_manyWet_22 rfl (lv_at hl 3 rfl) ?_
        obtain ⟨k2, e3, q4, i5, h⟩ := h
        refine r_iald hx hb hE hP e3 q4 i5 dX6_manyWet_23 ?_
        obtain ⟨k6, e7, q8, i9, h⟩ := h
        refine r_iald hx hb hE hP e7 q8 i9 dX6_manyWet_24 ?_
        refine f_i (kS (As := [.int x1, .int (gR σ k6 (gR σ k2 x3.toNatClampNeg).toNatClampNeg)]) (rest := [.int x2]) ⟨hx, hb, hml, hown, hts⟩ (c_X6_wet l D cs ad x1 (gR σ k6 (gR σ k2 x3.toNatClampNeg).toNatClampNeg) σ _) (va_cwS 2 hts gX6_manyWet_X6_wet rfl rfl rfl (by decide +kernel) ⟨Nat.le_of_ble_eq_true rfl, Nat.le_of_ble_eq_true rfl⟩) hE hP h rfl hl.1 rfl (by first | exact lv_room (Nat.le_of_ble_eq_true rfl) | (refine lv_room ?_; simp [re_cat, cat_i, cat_l, cat_r])) dX6_manyWet_25 ⟨Nat.le_refl _, Nat.le_refl _⟩) hS (fun r11 s10 H locs h hP hS => ?_)
        refine lv_if_le (tgt := 35) hx hb dX6_manyWet_28 (by decide) (fun c12 => ?_) (fun c12 => ?_)
        · replace h := h.1 c12
          refine lv_iconst (v := 0) hx hb dX6_manyWet_35 (by decide) ?_
          exact hB36 x1 x3 x2 0 s10 H locs ls h hP hS (lv_sub hl [0, 1, 3] rfl)
        · replace h := h.2 c12
          refine lv_iconst (v := 1) hx hb dX6_manyWet_31 (by decide) ?_
          refine lv_goto (tgt := 36) hx hb dX6_manyWet_32 (by decide) ?_
          exact hB36 x1 x3 x2 1 s10 H locs ls h hP hS (lv_sub hl [0, 1, 3] rfl)
  unfold p_X6_manyWet at h
  refine lv_iconst (v := 0) hx hb dX6_manyWet_0 (by decide) ?_
  refine lv_istore_n (i := 2) (lv' := [(2, .int 0), (0, .ref (ad x0)), (1, .int x1)]) hx hb dX6_manyWet_1 rfl hl (by decide) (by first | rfl | simp [re_cat, cat_i, cat_l, cat_r]) (fun ls hl => ?_)
  refine lv_iconst (v := 0) hx hb dX6_manyWet_2 (by decide) ?_
  refine lv_istore_n (i := 3) (lv' := [(3, .int 0), (2, .int 0), (0, .ref (ad x0)), (1, .int x1)]) hx hb dX6_manyWet_3 rfl hl (by decide) (by first | rfl | simp [re_cat, cat_i, cat_l, cat_r]) (fun ls hl => ?_)
  obtain ⟨n1, h⟩ := h
  exact hB4 n1 x1 0 0 s0 _ _ ls h hP hS (lv_sub hl [2, 3, 1, 0] rfl)
def p_X6_ofWoman_b115 (Q : Int32 → Sg → Prop) (K74 : Nat → Int32 → Int32 → Int32 → Sg → Prop) (x0 : Nat) (x1 : Int32) (x4 : Int32) (t0 : Int32) (s : Sg) : Prop := K74 x0 x1 t0 (x4 + 1) s
def p_X6_ofWoman_L74 (Q : Int32 → Sg → Prop)  : Nat → Nat → Int32 → Int32 → Int32 → Sg → Prop
  | 0, _, _, _, _, _ => False
  | n + 1, x0, x1, x3, x4, s => (((gI s x0 31) ≤ x4 → Q x3 s) ∧ (¬ (gI s x0 31) ≤ x4 → ∃ k2, tM x0 33 = some k2 ∧ kM k2 = 7 ∧ vp_in ((6 * x4) + x1) (lM k2) ∧ (((gR s k2 ((6 * x4) + x1).toNatClampNeg) ≤ x3 → p_X6_ofWoman_b115 Q (fun y0 y1 y3 y4 u => p_X6_ofWoman_L74 Q  n y0 y1 y3 y4 u) x0 x1 x4 x3 s) ∧ (¬ (gR s k2 ((6 * x4) + x1).toNatClampNeg) ≤ x3 → ∃ k7, tM x0 33 = some k7 ∧ kM k7 = 7 ∧ vp_in ((6 * x4) + x1) (lM k7) ∧ p_X6_ofWoman_b115 Q (fun y0 y1 y3 y4 u => p_X6_ofWoman_L74 Q  n y0 y1 y3 y4 u) x0 x1 x4 (gR s k7 ((6 * x4) + x1).toNatClampNeg) s))))
def p_X6_ofWoman (x0 : Nat) (x1 : Int32) (x2 : Int32) (s : Sg) (Q : Int32 → Sg → Prop) : Prop := ((x2 = 0 → ∃ k3, tM x0 21 = some k3 ∧ kM k3 = 7 ∧ vp_in x1 (lM k3) ∧ Q (gR s k3 x1.toNatClampNeg) s) ∧ (¬ x2 = 0 → ((x2 = 1 → ∃ k8, tM x0 27 = some k8 ∧ kM k8 = 7 ∧ vp_in x1 (lM k8) ∧ Q (gR s k8 x1.toNatClampNeg) s) ∧ (¬ x2 = 1 → ((x2 = 2 → ∃ k13, tM x0 22 = some k13 ∧ kM k13 = 7 ∧ vp_in x1 (lM k13) ∧ Q (gR s k13 x1.toNatClampNeg) s) ∧ (¬ x2 = 2 → ((x2 = 3 → ∃ k18, tM x0 28 = some k18 ∧ kM k18 = 7 ∧ vp_in x1 (lM k18) ∧ Q (gR s k18 x1.toNatClampNeg) s) ∧ (¬ x2 = 3 → ((x2 = 4 → Q (gI s x0 31) s) ∧ (¬ x2 = 4 → (∃ n23, p_X6_ofWoman_L74 Q  n23 x0 x1 0 0 s)))))))))))
set_option maxHeartbeats 4000000 in
set_option maxRecDepth 100000 in
theorem c_X6_ofWoman (l : Launch) (D : va_G) (cs : Cs) (ad : Nat → Nat) (x0 : Nat) (x1 : Int32) (x2 : Int32) (s0 : Sg) (Q : Int32 → Sg → Prop) (hk0 : kM x0 = 5) : Met l yX6_ofWoman wsX6_ofWoman { frames := 0, cells := 0, slots := 0, locals := 0 } (Pc0 bM D cs ad [.ref (ad x0), .int x1, .int x2] s0 (p_X6_ofWoman x0 x1 x2 s0 Q)) (QI bM D cs ad Q) 0 0 (fAd bM ad) := by
  refine Met.ofW (cc := cX6_ofWoman) (maxL := 5) (ret := (some .int)) (by decide) rfl ?_
  intro p e s m args below meth c s₁ B0 hml hv
  obtain ⟨ha, hP, hE, h⟩ := hv
  have hx := B0.exec
  have hb := B0.bytes
  have hr := B0.returns
  have hts := atoms_spec (ws := wsX6_ofWoman) B0.pre
  have hown : s.vm.findClass RX6 = some m.cls := findClass_of_methodNamed B0.named
  have hlocks := B0.notSynchronized
  have hi_X6 : ∀ w ∈ u_ws RX6 TX6 42, w ∈ wsX6_ofWoman := by decide +kernel
  have hS : va_S (fAd bM ad) s.heap s.heap [] := va_S.rf
  have hl := lv_entry ([.ref (ad x0), .int x1, .int x2]) (n := 5) (by first | exact Nat.le_of_ble_eq_true rfl | simp [lg_sl, re_cat, cat_i, cat_l, cat_r])
  rw [show entryFrame m args 5 = entryFrame m ([.ref (ad x0), .int x1, .int x2] : List Value).toArray 5 by rw [ha], lg_entry_eq]
  generalize (lg_sl ([.ref (ad x0), .int x1, .int x2]) ++ List.replicate (5 - (lg_sl ([.ref (ad x0), .int x1, .int x2])).length) Slot.unset).toArray = ls at hl ⊢
  have hl : lv_has ls 5 [(0, .ref (ad x0)), (1, .int x1), (2, .int x2)] := by first | exact hl | simpa [lv_args, re_cat, cat_i, cat_l, cat_r] using hl
  have hB74 : ∀ (n74 : Nat) (x1 : Int32) (x3 : Int32) (x4 : Int32) (σ : Sg) (H : Heap) (locs : List Loc) (ls : Array Slot), p_X6_ofWoman_L74 Q  n74 x0 x1 x3 x4 σ → va_P D vwCl (wl bM cs ad σ) H → va_S (fAd bM ad) s.heap H locs → lv_has ls 5 [(0, .ref (ad x0)), (1, .int x1), (3, .int x3), (4, .int x4)] → W p l e { frames := 0, cells := 0, slots := 0, locals := 0 } s m args below meth c H locs 0 0 (MQ below (QI bM D cs ad Q) args s 0 0 (fAd bM ad)) (F0 m 74 ls []) := by
    intro n74
    induction n74 with
    | zero =>
      intro x1 x3 x4 σ H locs ls h
      exact h.elim
    | succ n74 ih =>
      have hK74 := ih
      have hB115 : ∀ (x1 : Int32) (x4 : Int32) (t0 : Int32) (σ : Sg) (H : Heap) (locs : List Loc) (ls : Array Slot), p_X6_ofWoman_b115 Q (fun y0 y1 y3 y4 u => p_X6_ofWoman_L74 Q  n74 y0 y1 y3 y4 u) x0 x1 x4 t0 σ → va_P D vwCl (wl bM cs ad σ) H → va_S (fAd bM ad) s.heap H locs → lv_has ls 5 [(0, .ref (ad x0)), (1, .int x1), (4, .int x4)] → W p l e { frames := 0, cells := 0, slots := 0, locals := 0 } s m args below meth c H locs 0 0 (MQ below (QI bM D cs ad Q) args s 0 0 (fAd bM ad)) (F0 m 115 ls [.int t0]) := by
        intro x1 x4 t0 σ H locs ls h hP hS hl
        unfold p_X6_ofWoman_b115 at h
        refine lv_istore_n (i := 3) (lv' := [(3, .int t0), (0, .ref (ad x0)), (1, .int x1), (4, .int x4)]) hx hb dX6_ofWoman_115 rfl hl (by decide) (by first | rfl | simp [re_cat, cat_i, cat_l, cat_r]) (fun ls hl => ?_)
        refine lv_iinc (v := x4 + 1) (lv' := [(4, .int (x4 + 1)), (3, .int t0), (0, .ref (ad x0)), (1, .int x1)]) hx hb dX6_ofWoman_116 hl (k := 3) rfl rfl (by decide) (by first | rfl | simp [re_cat, cat_i, cat_l, cat_r]) (fun ls hl => ?_)
        refine lv_goto (tgt := 74) hx hb dX6_ofWoman_119 (by decide) ?_
        exact hK74 x1 t0 (x4 + 1) σ H locs ls h hP hS (lv_sub hl [2, 3, 1, 0] rfl)
      intro x1 x3 x4 σ H locs ls h hP hS hl
      rw [p_X6_ofWoman_L74] at h
      refine lv_iload hx hb dX6_ofWoman_74 (lv_at hl 3 rfl) ?_
      refine lv_aload_n hx hb dX6_ofWoman_76 rfl (lv_at hl 0 rfl) ?_
      refine va_get (ci := 5) (v := .int (gI σ x0 31)) (C := RX6) (T := TX6) (N := 42) hx hb hts hi_X6 hown hE.1 hP x0 (w_5 hE hk0) rfl 31 (by decide) (hts (.fieldLink RX6 185 "HemLineModel" "years" "I") (by decide +kernel)) (fun _ h9 => h9) rfl dX6_ofWoman_77 ?_
      refine lv_icmp_ge (tgt := 122) hx hb dX6_ofWoman_80 (by decide) (fun c1 => ?_) (fun c1 => ?_)
      · replace h := h.1 c1
        refine lv_iload_n hx hb dX6_ofWoman_122 rfl (lv_at hl 2 rfl) ?_
        exact W.iret hx hb hr (fun t ht hW => ⟨⟨_, _, rfl, h, pw ht hP⟩, hS.F ht⟩) hS.2.2 dX6_ofWoman_123
      · replace h := h.2 c1
        refine lv_aload_n hx hb dX6_ofWoman_83 rfl (lv_at hl 0 rfl) ?_
        refine va_get (ci := 5) (v := va_re ad (tM x0 33)) (C := RX6) (T := TX6) (N := 42) hx hb hts hi_X6 hown hE.1 hP x0 (w_5 hE hk0) rfl 33 (by decide) (hts (.fieldLink RX6 71 "HemLineModel" "hems" "[I") (by decide +kernel)) (fun _ h9 => h9) rfl dX6_ofWoman_84 ?_
        refine lv_bipush (v := 6) hx hb dX6_ofWoman_87 (by decide) ?_
        refine lv_iload hx hb dX6_ofWoman_89 (lv_at hl 3 rfl) ?_
        refine lv_imul hx hb dX6_ofWoman_91 ?_
        refine lv_iload_n hx hb dX6_ofWoman_92 rfl (lv_at hl 1 rfl) ?_
        refine lv_iadd hx hb dX6_ofWoman_93 ?_
        obtain ⟨k2, e3, q4, i5, h⟩ := h
        refine r_iald hx hb hE hP e3 q4 i5 dX6_ofWoman_94 ?_
        refine lv_iload_n hx hb dX6_ofWoman_95 rfl (lv_at hl 2 rfl) ?_
        refine lv_icmp_le (tgt := 114) hx hb dX6_ofWoman_96 (by decide) (fun c6 => ?_) (fun c6 => ?_)
        · replace h := h.1 c6
          refine lv_iload_n hx hb dX6_ofWoman_114 rfl (lv_at hl 2 rfl) ?_
          exact hB115 x1 x4 x3 σ H locs ls h hP hS (lv_sub hl [0, 1, 3] rfl)
        · replace h := h.2 c6
          refine lv_aload_n hx hb dX6_ofWoman_99 rfl (lv_at hl 0 rfl) ?_
          refine va_get (ci := 5) (v := va_re ad (tM x0 33)) (C := RX6) (T := TX6) (N := 42) hx hb hts hi_X6 hown hE.1 hP x0 (w_5 hE hk0) rfl 33 (by decide) (hts (.fieldLink RX6 71 "HemLineModel" "hems" "[I") (by decide +kernel)) (fun _ h9 => h9) rfl dX6_ofWoman_100 ?_
          refine lv_bipush (v := 6) hx hb dX6_ofWoman_103 (by decide) ?_
          refine lv_iload hx hb dX6_ofWoman_105 (lv_at hl 3 rfl) ?_
          refine lv_imul hx hb dX6_ofWoman_107 ?_
          refine lv_iload_n hx hb dX6_ofWoman_108 rfl (lv_at hl 1 rfl) ?_
          refine lv_iadd hx hb dX6_ofWoman_109 ?_
          obtain ⟨k7, e8, q9, i10, h⟩ := h
          refine r_iald hx hb hE hP e8 q9 i10 dX6_ofWoman_110 ?_
          refine lv_goto (tgt := 115) hx hb dX6_ofWoman_111 (by decide) ?_
          exact hB115 x1 x4 (gR σ k7 ((6 * x4) + x1).toNatClampNeg) σ H locs ls h hP hS (lv_sub hl [0, 1, 3] rfl)
  unfold p_X6_ofWoman at h
  refine lv_iload_n hx hb dX6_ofWoman_0 rfl (lv_at hl 2 rfl) ?_
  by_cases c2 : x2 = 0
  · replace h := h.1 c2
    refine lv_tableIn (off := 35) (tgt := 36) hx hb dX6_ofWoman_1 (by rw [c2]; decide) (by rw [c2]; decide) (by rw [c2]; decide) (by decide) ?_
    refine lv_aload_n hx hb dX6_ofWoman_36 rfl (lv_at hl 0 rfl) ?_
    refine va_get (ci := 5) (v := va_re ad (tM x0 21)) (C := RX6) (T := TX6) (N := 42) hx hb hts hi_X6 hown hE.1 hP x0 (w_5 hE hk0) rfl 21 (by decide) (hts (.fieldLink RX6 44 "HemLineModel" "kind" "[I") (by decide +kernel)) (fun _ h9 => h9) rfl dX6_ofWoman_37 ?_
    refine lv_iload_n hx hb dX6_ofWoman_40 rfl (lv_at hl 1 rfl) ?_
    obtain ⟨k3, e4, q5, i6, h⟩ := h
    refine r_iald hx hb hE hP e4 q5 i6 dX6_ofWoman_41 ?_
    exact W.iret hx hb hr (fun t ht hW => ⟨⟨_, _, rfl, h, pw ht hP⟩, hS.F ht⟩) hS.2.2 dX6_ofWoman_42
  replace h := h.2 c2
  by_cases c7 : x2 = 1
  · replace h := h.1 c7
    refine lv_tableIn (off := 42) (tgt := 43) hx hb dX6_ofWoman_1 (by rw [c7]; decide) (by rw [c7]; decide) (by rw [c7]; decide) (by decide) ?_
    refine lv_aload_n hx hb dX6_ofWoman_43 rfl (lv_at hl 0 rfl) ?_
    refine va_get (ci := 5) (v := va_re ad (tM x0 27)) (C := RX6) (T := TX6) (N := 42) hx hb hts hi_X6 hown hE.1 hP x0 (w_5 hE hk0) rfl 27 (by decide) (hts (.fieldLink RX6 59 "HemLineModel" "lives" "[I") (by decide +kernel)) (fun _ h9 => h9) rfl dX6_ofWoman_44 ?_
    refine lv_iload_n hx hb dX6_ofWoman_47 rfl (lv_at hl 1 rfl) ?_
    obtain ⟨k8, e9, q10, i11, h⟩ := h
    refine r_iald hx hb hE hP e9 q10 i11 dX6_ofWoman_48 ?_
    exact W.iret hx hb hr (fun t ht hW => ⟨⟨_, _, rfl, h, pw ht hP⟩, hS.F ht⟩) hS.2.2 dX6_ofWoman_49
  replace h := h.2 c7
  by_cases c12 : x2 = 2
  · replace h := h.1 c12
    refine lv_tableIn (off := 49) (tgt := 50) hx hb dX6_ofWoman_1 (by rw [c12]; decide) (by rw [c12]; decide) (by rw [c12]; decide) (by decide) ?_
    refine lv_aload_n hx hb dX6_ofWoman_50 rfl (lv_at hl 0 rfl) ?_
    refine va_get (ci := 5) (v := va_re ad (tM x0 22)) (C := RX6) (T := TX6) (N := 42) hx hb hts hi_X6 hown hE.1 hP x0 (w_5 hE hk0) rfl 22 (by decide) (hts (.fieldLink RX6 47 "HemLineModel" "tall" "[I") (by decide +kernel)) (fun _ h9 => h9) rfl dX6_ofWoman_51 ?_
    refine lv_iload_n hx hb dX6_ofWoman_54 rfl (lv_at hl 1 rfl) ?_
    obtain ⟨k13, e14, q15, i16, h⟩ := h
    refine r_iald hx hb hE hP e14 q15 i16 dX6_ofWoman_55 ?_
    exact W.iret hx hb hr (fun t ht hW => ⟨⟨_, _, rfl, h, pw ht hP⟩, hS.F ht⟩) hS.2.2 dX6_ofWoman_56
  replace h := h.2 c12
  by_cases c17 : x2 = 3
  · replace h := h.1 c17
    refine lv_tableIn (off := 56) (tgt := 57) hx hb dX6_ofWoman_1 (by rw [c17]; decide) (by rw [c17]; decide) (by rw [c17]; decide) (by decide) ?_
    refine lv_aload_n hx hb dX6_ofWoman_57 rfl (lv_at hl 0 rfl) ?_
    refine va_get (ci := 5) (v := va_re ad (tM x0 28)) (C := RX6) (T := TX6) (N := 42) hx hb hts hi_X6 hown hE.1 hP x0 (w_5 hE hk0) rfl 28 (by decide) (hts (.fieldLink RX6 62 "HemLineModel" "tuck" "[I") (by decide +kernel)) (fun _ h9 => h9) rfl dX6_ofWoman_58 ?_
    refine lv_iload_n hx hb dX6_ofWoman_61 rfl (lv_at hl 1 rfl) ?_
    obtain ⟨k18, e19, q20, i21, h⟩ := h
    refine r_iald hx hb hE hP e19 q20 i21 dX6_ofWoman_62 ?_
    exact W.iret hx hb hr (fun t ht hW => ⟨⟨_, _, rfl, h, pw ht hP⟩, hS.F ht⟩) hS.2.2 dX6_ofWoman_63
  replace h := h.2 c17
  by_cases c22 : x2 = 4
  · replace h := h.1 c22
    refine lv_tableIn (off := 63) (tgt := 64) hx hb dX6_ofWoman_1 (by rw [c22]; decide) (by rw [c22]; decide) (by rw [c22]; decide) (by decide) ?_
    refine lv_aload_n hx hb dX6_ofWoman_64 rfl (lv_at hl 0 rfl) ?_
    refine va_get (ci := 5) (v := .int (gI s0 x0 31)) (C := RX6) (T := TX6) (N := 42) hx hb hts hi_X6 hown hE.1 hP x0 (w_5 hE hk0) rfl 31 (by decide) (hts (.fieldLink RX6 185 "HemLineModel" "years" "I") (by decide +kernel)) (fun _ h9 => h9) rfl dX6_ofWoman_65 ?_
    exact W.iret hx hb hr (fun t ht hW => ⟨⟨_, _, rfl, h, pw ht hP⟩, hS.F ht⟩) hS.2.2 dX6_ofWoman_68
  replace h := h.2 c22
  refine lv_tableOut (tgt := 69) hx hb dX6_ofWoman_1 (by have := ne_toInt (n := 0) c2 (by decide); have := ne_toInt (n := 1) c7 (by decide); have := ne_toInt (n := 2) c12 (by decide); have := ne_toInt (n := 3) c17 (by decide); have := ne_toInt (n := 4) c22 (by decide); omega) (by decide) ?_
  refine lv_iconst (v := 0) hx hb dX6_ofWoman_69 (by decide) ?_
  refine lv_istore_n (i := 3) (lv' := [(3, .int 0), (0, .ref (ad x0)), (1, .int x1), (2, .int x2)]) hx hb dX6_ofWoman_70 rfl hl (by decide) (by first | rfl | simp [re_cat, cat_i, cat_l, cat_r]) (fun ls hl => ?_)
  refine lv_iconst (v := 0) hx hb dX6_ofWoman_71 (by decide) ?_
  refine lv_istore (i := 4) (lv' := [(4, .int 0), (3, .int 0), (0, .ref (ad x0)), (1, .int x1), (2, .int x2)]) hx hb dX6_ofWoman_72 hl (by decide) (by first | rfl | simp [re_cat, cat_i, cat_l, cat_r]) (fun ls hl => ?_)
  obtain ⟨n23, h⟩ := h
  exact hB74 n23 x1 0 0 s0 _ _ ls h hP hS (lv_sub hl [2, 3, 1, 0] rfl)
def p_X6_woman (x0 : Nat) (x1 : Int32) (x2 : Int32) (s : Sg) (Q : Int32 → Sg → Prop) : Prop := p_X6_isWoman x0 x1 s (fun r2 s1 => ((r2 = 0 → Q ((-1)) s1) ∧ (¬ r2 = 0 → p_X6_in x2 0 5 s1 (fun r5 s4 => ((r5 = 0 → Q ((-1)) s4) ∧ (¬ r5 = 0 → p_X6_ofWoman x0 x1 x2 s4 (fun r8 s7 => p_X6_tellsAsked x0 r8 s7 (fun r10 s9 => Q r10 s9))))))))
set_option maxHeartbeats 4000000 in
set_option maxRecDepth 100000 in
theorem c_X6_woman (l : Launch) (D : va_G) (cs : Cs) (ad : Nat → Nat) (x0 : Nat) (x1 : Int32) (x2 : Int32) (s0 : Sg) (Q : Int32 → Sg → Prop) (hk0 : kM x0 = 5) : Met l yX6_woman wsX6_woman { frames := 2, cells := 0, slots := 0, locals := 43 } (Pc0 bM D cs ad [.ref (ad x0), .int x1, .int x2] s0 (p_X6_woman x0 x1 x2 s0 Q)) (QI bM D cs ad Q) 0 0 (fAd bM ad) := by
  refine Met.ofW (cc := cX6_woman) (maxL := 3) (ret := (some .int)) (by decide) rfl ?_
  intro p e s m args below meth c s₁ B0 hml hv
  obtain ⟨ha, hP, hE, h⟩ := hv
  have hx := B0.exec
  have hb := B0.bytes
  have hr := B0.returns
  have hts := atoms_spec (ws := wsX6_woman) B0.pre
  have hown : s.vm.findClass RX6 = some m.cls := findClass_of_methodNamed B0.named
  have hlocks := B0.notSynchronized
  have hS : va_S (fAd bM ad) s.heap s.heap [] := va_S.rf
  have hl := lv_entry ([.ref (ad x0), .int x1, .int x2]) (n := 3) (by first | exact Nat.le_of_ble_eq_true rfl | simp [lg_sl, re_cat, cat_i, cat_l, cat_r])
  rw [show entryFrame m args 3 = entryFrame m ([.ref (ad x0), .int x1, .int x2] : List Value).toArray 3 by rw [ha], lg_entry_eq]
  generalize (lg_sl ([.ref (ad x0), .int x1, .int x2]) ++ List.replicate (3 - (lg_sl ([.ref (ad x0), .int x1, .int x2])).length) Slot.unset).toArray = ls at hl ⊢
  have hl : lv_has ls 3 [(0, .ref (ad x0)), (1, .int x1), (2, .int x2)] := by first | exact hl | simpa [lv_args, re_cat, cat_i, cat_l, cat_r] using hl
  unfold p_X6_woman at h
  refine lv_aload_n hx hb dX6_woman_0 rfl (lv_at hl 0 rfl) ?_
  refine lv_iload_n hx hb dX6_woman_1 rfl (lv_at hl 1 rfl) ?_
  refine f_i (kV (As := [.int x1]) (rest := []) (o := some x0) rfl ⟨hx, hb, hml, hown, hts⟩ (c_X6_isWoman l D cs ad x0 x1 s0 _ hk0) (cwV 1 hts gX6_woman_X6_isWoman rfl rfl rfl (by decide +kernel) ⟨Nat.le_of_ble_eq_true rfl, Nat.le_of_ble_eq_true rfl⟩) hE hP rfl rfl (w_5 hE hk0) h rfl hl.1 rfl (by first | exact lv_room (Nat.le_of_ble_eq_true rfl) | (refine lv_room ?_; simp [re_cat, cat_i, cat_l, cat_r])) dX6_woman_2 ⟨Nat.le_refl _, Nat.le_refl _⟩) hS (fun r2 s1 H locs h hP hS => ?_)
  refine lv_if_eq (tgt := 17) hx hb dX6_woman_5 (by decide) (fun c3 => ?_) (fun c3 => ?_)
  · replace h := h.1 c3
    refine lv_iconst (v := (-1)) hx hb dX6_woman_17 (by decide) ?_
    exact W.iret hx hb hr (fun t ht hW => ⟨⟨_, _, rfl, h, pw ht hP⟩, hS.F ht⟩) hS.2.2 dX6_woman_18
  · replace h := h.2 c3
    refine lv_iload_n hx hb dX6_woman_8 rfl (lv_at hl 2 rfl) ?_
    refine lv_iconst (v := 0) hx hb dX6_woman_9 (by decide) ?_
    refine lv_iconst (v := 5) hx hb dX6_woman_10 (by decide) ?_
    refine f_i (kS (As := [.int x2, .int 0, .int 5]) (rest := []) ⟨hx, hb, hml, hown, hts⟩ (c_X6_in l D cs ad x2 0 5 s1 _) (va_cwS 3 hts gX6_woman_X6_in rfl rfl rfl (by decide +kernel) ⟨Nat.le_of_ble_eq_true rfl, Nat.le_of_ble_eq_true rfl⟩) hE hP h rfl hl.1 rfl (by first | exact lv_room (Nat.le_of_ble_eq_true rfl) | (refine lv_room ?_; simp [re_cat, cat_i, cat_l, cat_r])) dX6_woman_11 ⟨Nat.le_refl _, Nat.le_refl _⟩) hS (fun r5 s4 H locs h hP hS => ?_)
    refine lv_if_ne (tgt := 19) hx hb dX6_woman_14 (by decide) (fun c6 => ?_) (fun c6 => ?_)
    · replace h := h.2 c6
      refine lv_aload_n hx hb dX6_woman_19 rfl (lv_at hl 0 rfl) ?_
      refine lv_aload_n hx hb dX6_woman_20 rfl (lv_at hl 0 rfl) ?_
      refine lv_iload_n hx hb dX6_woman_21 rfl (lv_at hl 1 rfl) ?_
      refine lv_iload_n hx hb dX6_woman_22 rfl (lv_at hl 2 rfl) ?_
      refine f_i (kV (As := [.int x1, .int x2]) (rest := [.ref (ad x0)]) (o := some x0) rfl ⟨hx, hb, hml, hown, hts⟩ (c_X6_ofWoman l D cs ad x0 x1 x2 s4 _ hk0) (cwV 2 hts gX6_woman_X6_ofWoman rfl rfl rfl (by decide +kernel) ⟨Nat.le_of_ble_eq_true rfl, Nat.le_of_ble_eq_true rfl⟩) hE hP rfl rfl (w_5 hE hk0) h rfl hl.1 rfl (by first | exact lv_room (Nat.le_of_ble_eq_true rfl) | (refine lv_room ?_; simp [re_cat, cat_i, cat_l, cat_r])) dX6_woman_23 ⟨Nat.le_refl _, Nat.le_refl _⟩) hS (fun r8 s7 H locs h hP hS => ?_)
      refine f_i (kV (As := [.int r8]) (rest := []) (o := some x0) rfl ⟨hx, hb, hml, hown, hts⟩ (c_X6_tellsAsked l D cs ad x0 r8 s7 _ hk0) (cwV 1 hts gX6_woman_X6_tellsAsked rfl rfl rfl (by decide +kernel) ⟨Nat.le_of_ble_eq_true rfl, Nat.le_of_ble_eq_true rfl⟩) hE hP rfl rfl (w_5 hE hk0) h rfl hl.1 rfl (by first | exact lv_room (Nat.le_of_ble_eq_true rfl) | (refine lv_room ?_; simp [re_cat, cat_i, cat_l, cat_r])) dX6_woman_26 ⟨Nat.le_refl _, Nat.le_refl _⟩) hS (fun r10 s9 H locs h hP hS => ?_)
      exact W.iret hx hb hr (fun t ht hW => ⟨⟨_, _, rfl, h, pw ht hP⟩, hS.F ht⟩) hS.2.2 dX6_woman_29
    · replace h := h.1 c6
      refine lv_iconst (v := (-1)) hx hb dX6_woman_17 (by decide) ?_
      exact W.iret hx hb hr (fun t ht hW => ⟨⟨_, _, rfl, h, pw ht hP⟩, hS.F ht⟩) hS.2.2 dX6_woman_18
def p_X6_isOf_b25 (Q : Int32 → Sg → Prop)   (s : Sg) : Prop := Q 1 s
def p_X6_isOf_b15 (Q : Int32 → Sg → Prop)  (x0 : Int32) (x1 : Int32) (s : Sg) : Prop := ((x1 = 2 → ((x0 = 5 → p_X6_isOf_b25 Q  s) ∧ (¬ x0 = 5 → Q 0 s))) ∧ (¬ x1 = 2 → Q 0 s))
def p_X6_isOf (x0 : Int32) (x1 : Int32) (s : Sg) (Q : Int32 → Sg → Prop) : Prop := ((x0 = x1 → p_X6_isOf_b25 Q  s) ∧ (¬ x0 = x1 → ((x1 = 1 → ((x0 = 4 → p_X6_isOf_b25 Q  s) ∧ (¬ x0 = 4 → p_X6_isOf_b15 Q  x0 x1 s))) ∧ (¬ x1 = 1 → p_X6_isOf_b15 Q  x0 x1 s))))
set_option maxHeartbeats 4000000 in
set_option maxRecDepth 100000 in
theorem c_X6_isOf (l : Launch) (D : va_G) (cs : Cs) (ad : Nat → Nat) (x0 : Int32) (x1 : Int32) (s0 : Sg) (Q : Int32 → Sg → Prop) : Met l yX6_isOf wsX6_isOf { frames := 0, cells := 0, slots := 0, locals := 0 } (Pc0 bM D cs ad [.int x0, .int x1] s0 (p_X6_isOf x0 x1 s0 Q)) (QI bM D cs ad Q) 0 0 (fAd bM ad) := by
  refine Met.ofW (cc := cX6_isOf) (maxL := 2) (ret := (some .boolean)) (by decide) rfl ?_
  intro p e s m args below meth c s₁ B0 hml hv
  obtain ⟨ha, hP, hE, h⟩ := hv
  have hx := B0.exec
  have hb := B0.bytes
  have hr := B0.returns
  have hts := atoms_spec (ws := wsX6_isOf) B0.pre
  have hown : s.vm.findClass RX6 = some m.cls := findClass_of_methodNamed B0.named
  have hlocks := B0.notSynchronized
  have hS : va_S (fAd bM ad) s.heap s.heap [] := va_S.rf
  have hl := lv_entry ([.int x0, .int x1]) (n := 2) (by first | exact Nat.le_of_ble_eq_true rfl | simp [lg_sl, re_cat, cat_i, cat_l, cat_r])
  rw [show entryFrame m args 2 = entryFrame m ([.int x0, .int x1] : List Value).toArray 2 by rw [ha], lg_entry_eq]
  generalize (lg_sl ([.int x0, .int x1]) ++ List.replicate (2 - (lg_sl ([.int x0, .int x1])).length) Slot.unset).toArray = ls at hl ⊢
  have hl : lv_has ls 2 [(0, .int x0), (1, .int x1)] := by first | exact hl | simpa [lv_args, re_cat, cat_i, cat_l, cat_r] using hl
  have hB25 : ∀  (σ : Sg) (H : Heap) (locs : List Loc) (ls : Array Slot), p_X6_isOf_b25 Q   σ → va_P D vwCl (wl bM cs ad σ) H → va_S (fAd bM ad) s.heap H locs → lv_has ls 2 [] → W p l e { frames := 0, cells := 0, slots := 0, locals := 0 } s m args below meth c H locs 0 0 (MQ below (QI bM D cs ad Q) args s 0 0 (fAd bM ad)) (F0 m 25 ls []) := by
    intro  σ H locs ls h hP hS hl
    unfold p_X6_isOf_b25 at h
    refine lv_iconst (v := 1) hx hb dX6_isOf_25 (by decide) ?_
    refine lv_goto (tgt := 30) hx hb dX6_isOf_26 (by decide) ?_
    exact W.zret hx hb hr rfl (fun t ht hW => ⟨⟨_, _, rfl, h, pw ht hP⟩, hS.F ht⟩) hS.2.2 dX6_isOf_30
  have hB15 : ∀ (x0 : Int32) (x1 : Int32) (σ : Sg) (H : Heap) (locs : List Loc) (ls : Array Slot), p_X6_isOf_b15 Q  x0 x1 σ → va_P D vwCl (wl bM cs ad σ) H → va_S (fAd bM ad) s.heap H locs → lv_has ls 2 [(0, .int x0), (1, .int x1)] → W p l e { frames := 0, cells := 0, slots := 0, locals := 0 } s m args below meth c H locs 0 0 (MQ below (QI bM D cs ad Q) args s 0 0 (fAd bM ad)) (F0 m 15 ls []) := by
    intro x0 x1 σ H locs ls h hP hS hl
    unfold p_X6_isOf_b15 at h
    refine lv_iload_n hx hb dX6_isOf_15 rfl (lv_at hl 1 rfl) ?_
    refine lv_iconst (v := 2) hx hb dX6_isOf_16 (by decide) ?_
    refine lv_icmp_ne (tgt := 29) hx hb dX6_isOf_17 (by decide) (fun c1 => ?_) (fun c1 => ?_)
    · replace h := h.2 c1
      refine lv_iconst (v := 0) hx hb dX6_isOf_29 (by decide) ?_
      exact W.zret hx hb hr rfl (fun t ht hW => ⟨⟨_, _, rfl, h, pw ht hP⟩, hS.F ht⟩) hS.2.2 dX6_isOf_30
    · replace h := h.1 c1
      refine lv_iload_n hx hb dX6_isOf_20 rfl (lv_at hl 0 rfl) ?_
      refine lv_iconst (v := 5) hx hb dX6_isOf_21 (by decide) ?_
      refine lv_icmp_ne (tgt := 29) hx hb dX6_isOf_22 (by decide) (fun c2 => ?_) (fun c2 => ?_)
      · replace h := h.2 c2
        refine lv_iconst (v := 0) hx hb dX6_isOf_29 (by decide) ?_
        exact W.zret hx hb hr rfl (fun t ht hW => ⟨⟨_, _, rfl, h, pw ht hP⟩, hS.F ht⟩) hS.2.2 dX6_isOf_30
      · replace h := h.1 c2
        exact hB25  σ H locs ls h hP hS (lv_sub hl [] rfl)
  unfold p_X6_isOf at h
  refine lv_iload_n hx hb dX6_isOf_0 rfl (lv_at hl 0 rfl) ?_
  refine lv_iload_n hx hb dX6_isOf_1 rfl (lv_at hl 1 rfl) ?_
  refine lv_icmp_eq (tgt := 25) hx hb dX6_isOf_2 (by decide) (fun c1 => ?_) (fun c1 => ?_)
  · replace h := h.1 c1
    exact hB25  s0 _ _ ls h hP hS (lv_sub hl [] rfl)
  · replace h := h.2 c1
    refine lv_iload_n hx hb dX6_isOf_5 rfl (lv_at hl 1 rfl) ?_
    refine lv_iconst (v := 1) hx hb dX6_isOf_6 (by decide) ?_
    refine lv_icmp_ne (tgt := 15) hx hb dX6_isOf_7 (by decide) (fun c2 => ?_) (fun c2 => ?_)
    · replace h := h.2 c2
      exact hB15 x0 x1 s0 _ _ ls h hP hS (lv_sub hl [0, 1] rfl)
    · replace h := h.1 c2
      refine lv_iload_n hx hb dX6_isOf_10 rfl (lv_at hl 0 rfl) ?_
      refine lv_iconst (v := 4) hx hb dX6_isOf_11 (by decide) ?_
      refine lv_icmp_eq (tgt := 25) hx hb dX6_isOf_12 (by decide) (fun c3 => ?_) (fun c3 => ?_)
      · replace h := h.1 c3
        exact hB25  s0 _ _ ls h hP hS (lv_sub hl [] rfl)
      · replace h := h.2 c3
        exact hB15 x0 x1 s0 _ _ ls h hP hS (lv_sub hl [0, 1] rfl)
def p_X6_mark_b145 (Q : Int32 → Sg → Prop) (K55 : Nat → Int32 → Int32 → Int32 → Int32 → Sg → Prop) (x0 : Nat) (x1 : Int32) (x2 : Int32) (x4 : Int32) (t0 : Int32) (t1 : Int32) (s : Sg) : Prop := K55 x0 x1 x2 (t0 + t1) (x4 + 1) s
def p_X6_mark_L55 (Q : Int32 → Sg → Prop)  : Nat → Nat → Int32 → Int32 → Int32 → Int32 → Sg → Prop
  | 0, _, _, _, _, _, _ => False
  | n + 1, x0, x1, x2, x3, x4, s => (((gI s x0 31) ≤ x4 → Q x3 s) ∧ (¬ (gI s x0 31) ≤ x4 → ∃ k2, tM x0 33 = some k2 ∧ kM k2 = 7 ∧ vp_in ((6 * x4) + x1) (lM k2) ∧ ∃ k6, tM x0 32 = some k6 ∧ kM k6 = 7 ∧ vp_in x4 (lM k6) ∧ p_X6_hemThen x0 0 x1 x4 (gR s k6 x4.toNatClampNeg) s (fun r11 s10 => ((x2 = 1 → ((((gR s k2 ((6 * x4) + x1).toNatClampNeg) - r11) < 2 → p_X6_mark_b145 Q (fun y0 y1 y2 y3 y4 u => p_X6_mark_L55 Q  n y0 y1 y2 y3 y4 u) x0 x1 x2 x4 x3 0 s10) ∧ (¬ ((gR s k2 ((6 * x4) + x1).toNatClampNeg) - r11) < 2 → p_X6_mark_b145 Q (fun y0 y1 y2 y3 y4 u => p_X6_mark_L55 Q  n y0 y1 y2 y3 y4 u) x0 x1 x2 x4 x3 1 s10))) ∧ (¬ x2 = 1 → ((x2 = 2 → p_X6_mark_b145 Q (fun y0 y1 y2 y3 y4 u => p_X6_mark_L55 Q  n y0 y1 y2 y3 y4 u) x0 x1 x2 x4 x3 (-((gR s k2 ((6 * x4) + x1).toNatClampNeg) - r11)) s10) ∧ (¬ x2 = 2 → ((x2 = 3 → ((0 ≤ ((gR s k2 ((6 * x4) + x1).toNatClampNeg) - r11) → p_X6_mark_b145 Q (fun y0 y1 y2 y3 y4 u => p_X6_mark_L55 Q  n y0 y1 y2 y3 y4 u) x0 x1 x2 x4 x3 0 s10) ∧ (¬ 0 ≤ ((gR s k2 ((6 * x4) + x1).toNatClampNeg) - r11) → p_X6_mark_b145 Q (fun y0 y1 y2 y3 y4 u => p_X6_mark_L55 Q  n y0 y1 y2 y3 y4 u) x0 x1 x2 x4 x3 1 s10))) ∧ (¬ x2 = 3 → p_X6_mark_b145 Q (fun y0 y1 y2 y3 y4 u => p_X6_mark_L55 Q  n y0 y1 y2 y3 y4 u) x0 x1 x2 x4 x3 ((gR s k2 ((6 * x4) + x1).toNatClampNeg) - r11) s10)))))))))
def p_X6_mark (x0 : Nat) (x1 : Int32) (x2 : Int32) (s : Sg) (Q : Int32 → Sg → Prop) : Prop := p_X6_isWoman x0 x1 s (fun r2 s1 => ((r2 = 0 → Q ((-1)) s1) ∧ (¬ r2 = 0 → p_X6_in x2 1 5 s1 (fun r5 s4 => ((r5 = 0 → Q ((-1)) s4) ∧ (¬ r5 = 0 → ∃ k7, tM x0 21 = some k7 ∧ kM k7 = 7 ∧ vp_in x1 (lM k7) ∧ p_X6_isOf (gR s4 k7 x1.toNatClampNeg) x2 s4 (fun r12 s11 => ((r12 = 0 → p_X6_refuse x0 3 s11 (fun r17 s16 => Q r17 s16)) ∧ (¬ r12 = 0 → ((x2 = 5 → Q ((gI s11 x0 31) - (gI s11 x0 31) / 2 * 2) s11) ∧ (¬ x2 = 5 → (∃ n15, p_X6_mark_L55 Q  n15 x0 x1 x2 0 0 s11))))))))))))
set_option maxHeartbeats 4000000 in
set_option maxRecDepth 100000 in
theorem c_X6_mark (l : Launch) (D : va_G) (cs : Cs) (ad : Nat → Nat) (x0 : Nat) (x1 : Int32) (x2 : Int32) (s0 : Sg) (Q : Int32 → Sg → Prop) (hk0 : kM x0 = 5) : Met l yX6_mark wsX6_mark { frames := 3, cells := 0, slots := 0, locals := 73 } (Pc0 bM D cs ad [.ref (ad x0), .int x1, .int x2] s0 (p_X6_mark x0 x1 x2 s0 Q)) (QI bM D cs ad Q) 0 0 (fAd bM ad) := by
  refine Met.ofW (cc := cX6_mark) (maxL := 6) (ret := (some .int)) (by decide) rfl ?_
  intro p e s m args below meth c s₁ B0 hml hv
  obtain ⟨ha, hP, hE, h⟩ := hv
  have hx := B0.exec
  have hb := B0.bytes
  have hr := B0.returns
  have hts := atoms_spec (ws := wsX6_mark) B0.pre
  have hown : s.vm.findClass RX6 = some m.cls := findClass_of_methodNamed B0.named
  have hlocks := B0.notSynchronized
  have hi_X6 : ∀ w ∈ u_ws RX6 TX6 42, w ∈ wsX6_mark := by decide +kernel
  have hS : va_S (fAd bM ad) s.heap s.heap [] := va_S.rf
  have hl := lv_entry ([.ref (ad x0), .int x1, .int x2]) (n := 6) (by first | exact Nat.le_of_ble_eq_true rfl | simp [lg_sl, re_cat, cat_i, cat_l, cat_r])
  rw [show entryFrame m args 6 = entryFrame m ([.ref (ad x0), .int x1, .int x2] : List Value).toArray 6 by rw [ha], lg_entry_eq]
  generalize (lg_sl ([.ref (ad x0), .int x1, .int x2]) ++ List.replicate (6 - (lg_sl ([.ref (ad x0), .int x1, .int x2])).length) Slot.unset).toArray = ls at hl ⊢
  have hl : lv_has ls 6 [(0, .ref (ad x0)), (1, .int x1), (2, .int x2)] := by first | exact hl | simpa [lv_args, re_cat, cat_i, cat_l, cat_r] using hl
  have hB55 : ∀ (n55 : Nat) (x1 : Int32) (x2 : Int32) (x3 : Int32) (x4 : Int32) (σ : Sg) (H : Heap) (locs : List Loc) (ls : Array Slot), p_X6_mark_L55 Q  n55 x0 x1 x2 x3 x4 σ → va_P D vwCl (wl bM cs ad σ) H → va_S (fAd bM ad) s.heap H locs → lv_has ls 6 [(0, .ref (ad x0)), (1, .int x1), (2, .int x2), (3, .int x3), (4, .int x4)] → W p l e { frames := 3, cells := 0, slots := 0, locals := 73 } s m args below meth c H locs 0 0 (MQ below (QI bM D cs ad Q) args s 0 0 (fAd bM ad)) (F0 m 55 ls []) := by
    intro n55
    induction n55 with
    | zero =>
      intro x1 x2 x3 x4 σ H locs ls h
      exact h.elim
    | succ n55 ih =>
      have hK55 := ih
      have hB145 : ∀ (x1 : Int32) (x2 : Int32) (x4 : Int32) (t0 : Int32) (t1 : Int32) (σ : Sg) (H : Heap) (locs : List Loc) (ls : Array Slot), p_X6_mark_b145 Q (fun y0 y1 y2 y3 y4 u => p_X6_mark_L55 Q  n55 y0 y1 y2 y3 y4 u) x0 x1 x2 x4 t0 t1 σ → va_P D vwCl (wl bM cs ad σ) H → va_S (fAd bM ad) s.heap H locs → lv_has ls 6 [(0, .ref (ad x0)), (1, .int x1), (2, .int x2), (4, .int x4)] → W p l e { frames := 3, cells := 0, slots := 0, locals := 73 } s m args below meth c H locs 0 0 (MQ below (QI bM D cs ad Q) args s 0 0 (fAd bM ad)) (F0 m 145 ls [.int t1, .int t0]) := by
        intro x1 x2 x4 t0 t1 σ H locs ls h hP hS hl
        unfold p_X6_mark_b145 at h
        refine lv_iadd hx hb dX6_mark_145 ?_
        refine lv_istore_n (i := 3) (lv' := [(3, .int (t0 + t1)), (0, .ref (ad x0)), (1, .int x1), (2, .int x2), (4, .int x4)]) hx hb dX6_mark_146 rfl hl (by decide) (by first | rfl | simp [re_cat, cat_i, cat_l, cat_r]) (fun ls hl => ?_)
        refine lv_iinc (v := x4 + 1) (lv' := [(4, .int (x4 + 1)), (3, .int (t0 + t1)), (0, .ref (ad x0)), (1, .int x1), (2, .int x2)]) hx hb dX6_mark_147 hl (k := 4) rfl rfl (by decide) (by first | rfl | simp [re_cat, cat_i, cat_l, cat_r]) (fun ls hl => ?_)
        refine lv_goto (tgt := 55) hx hb dX6_mark_150 (by decide) ?_
        exact hK55 x1 x2 (t0 + t1) (x4 + 1) σ H locs ls h hP hS (lv_sub hl [2, 3, 4, 1, 0] rfl)
      intro x1 x2 x3 x4 σ H locs ls h hP hS hl
      rw [p_X6_mark_L55] at h
      refine lv_iload hx hb dX6_mark_55 (lv_at hl 4 rfl) ?_
      refine lv_aload_n hx hb dX6_mark_57 rfl (lv_at hl 0 rfl) ?_
      refine va_get (ci := 5) (v := .int (gI σ x0 31)) (C := RX6) (T := TX6) (N := 42) hx hb hts hi_X6 hown hE.1 hP x0 (w_5 hE hk0) rfl 31 (by decide) (hts (.fieldLink RX6 185 "HemLineModel" "years" "I") (by decide +kernel)) (fun _ h9 => h9) rfl dX6_mark_58 ?_
      refine lv_icmp_ge (tgt := 153) hx hb dX6_mark_61 (by decide) (fun c1 => ?_) (fun c1 => ?_)
      · replace h := h.1 c1
        refine lv_iload_n hx hb dX6_mark_153 rfl (lv_at hl 3 rfl) ?_
        exact W.iret hx hb hr (fun t ht hW => ⟨⟨_, _, rfl, h, pw ht hP⟩, hS.F ht⟩) hS.2.2 dX6_mark_154
      · replace h := h.2 c1
        refine lv_aload_n hx hb dX6_mark_64 rfl (lv_at hl 0 rfl) ?_
        refine va_get (ci := 5) (v := va_re ad (tM x0 33)) (C := RX6) (T := TX6) (N := 42) hx hb hts hi_X6 hown hE.1 hP x0 (w_5 hE hk0) rfl 33 (by decide) (hts (.fieldLink RX6 71 "HemLineModel" "hems" "[I") (by decide +kernel)) (fun _ h9 => h9) rfl dX6_mark_65 ?_
        refine lv_bipush (v := 6) hx hb dX6_mark_68 (by decide) ?_
        refine lv_iload hx hb dX6_mark_70 (lv_at hl 4 rfl) ?_
        refine lv_imul hx hb dX6_mark_72 ?_
        refine lv_iload_n hx hb dX6_mark_73 rfl (lv_at hl 1 rfl) ?_
        refine lv_iadd hx hb dX6_mark_74 ?_
        obtain ⟨k2, e3, q4, i5, h⟩ := h
        refine r_iald hx hb hE hP e3 q4 i5 dX6_mark_75 ?_
        refine lv_aload_n hx hb dX6_mark_76 rfl (lv_at hl 0 rfl) ?_
        refine lv_iconst (v := 0) hx hb dX6_mark_77 (by decide) ?_
        refine lv_iload_n hx hb dX6_mark_78 rfl (lv_at hl 1 rfl) ?_
        refine lv_iload hx hb dX6_mark_79 (lv_at hl 4 rfl) ?_
        refine lv_aload_n hx hb dX6_mark_81 rfl (lv_at hl 0 rfl) ?_
        refine va_get (ci := 5) (v := va_re ad (tM x0 32)) (C := RX6) (T := TX6) (N := 42) hx hb hts hi_X6 hown hE.1 hP x0 (w_5 hE hk0) rfl 32 (by decide) (hts (.fieldLink RX6 68 "HemLineModel" "floods" "[I") (by decide +kernel)) (fun _ h9 => h9) rfl dX6_mark_82 ?_
        refine lv_iload hx hb dX6_mark_85 (lv_at hl 4 rfl) ?_
        obtain ⟨k6, e7, q8, i9, h⟩ := h
        refine r_iald hx hb hE hP e7 q8 i9 dX6_mark_87 ?_
        refine f_i (kV (As := [.int 0, .int x1, .int x4, .int (gR σ k6 x4.toNatClampNeg)]) (rest := [.int (gR σ k2 ((6 * x4) + x1).toNatClampNeg)]) (o := some x0) rfl ⟨hx, hb, hml, hown, hts⟩ (c_X6_hemThen l D cs ad x0 0 x1 x4 (gR σ k6 x4.toNatClampNeg) σ _ hk0) (cwV 4 hts gX6_mark_X6_hemThen rfl rfl rfl (by decide +kernel) ⟨Nat.le_of_ble_eq_true rfl, Nat.le_of_ble_eq_true rfl⟩) hE hP rfl rfl (w_5 hE hk0) h rfl hl.1 rfl (by first | exact lv_room (Nat.le_of_ble_eq_true rfl) | (refine lv_room ?_; simp [re_cat, cat_i, cat_l, cat_r])) dX6_mark_88 ⟨Nat.le_refl _, Nat.le_refl _⟩) hS (fun r11 s10 H locs h hP hS => ?_)
        refine lv_isub hx hb dX6_mark_91 ?_
        refine lv_istore (i := 5) (lv' := [(5, .int ((gR σ k2 ((6 * x4) + x1).toNatClampNeg) - r11)), (0, .ref (ad x0)), (1, .int x1), (2, .int x2), (3, .int x3), (4, .int x4)]) hx hb dX6_mark_92 hl (by decide) (by first | rfl | simp [re_cat, cat_i, cat_l, cat_r]) (fun ls hl => ?_)
        refine lv_iload_n hx hb dX6_mark_94 rfl (lv_at hl 4 rfl) ?_
        refine lv_iload_n hx hb dX6_mark_95 rfl (lv_at hl 3 rfl) ?_
        refine lv_iconst (v := 1) hx hb dX6_mark_96 (by decide) ?_
        refine lv_icmp_ne (tgt := 114) hx hb dX6_mark_97 (by decide) (fun c12 => ?_) (fun c12 => ?_)
        · replace h := h.2 c12
          refine lv_iload_n hx hb dX6_mark_114 rfl (lv_at hl 3 rfl) ?_
          refine lv_iconst (v := 2) hx hb dX6_mark_115 (by decide) ?_
          refine lv_icmp_ne (tgt := 125) hx hb dX6_mark_116 (by decide) (fun c13 => ?_) (fun c13 => ?_)
          · replace h := h.2 c13
            refine lv_iload_n hx hb dX6_mark_125 rfl (lv_at hl 3 rfl) ?_
            refine lv_iconst (v := 3) hx hb dX6_mark_126 (by decide) ?_
            refine lv_icmp_ne (tgt := 143) hx hb dX6_mark_127 (by decide) (fun c14 => ?_) (fun c14 => ?_)
            · replace h := h.2 c14
              refine lv_iload hx hb dX6_mark_143 (lv_at hl 0 rfl) ?_
              exact hB145 x1 x2 x4 x3 ((gR σ k2 ((6 * x4) + x1).toNatClampNeg) - r11) s10 H locs ls h hP hS (lv_sub hl [1, 2, 3, 5] rfl)
            · replace h := h.1 c14
              refine lv_iload hx hb dX6_mark_130 (lv_at hl 0 rfl) ?_
              refine lv_if_ge (tgt := 139) hx hb dX6_mark_132 (by decide) (fun c15 => ?_) (fun c15 => ?_)
              · replace h := h.1 c15
                refine lv_iconst (v := 0) hx hb dX6_mark_139 (by decide) ?_
                refine lv_goto (tgt := 145) hx hb dX6_mark_140 (by decide) ?_
                exact hB145 x1 x2 x4 x3 0 s10 H locs ls h hP hS (lv_sub hl [1, 2, 3, 5] rfl)
              · replace h := h.2 c15
                refine lv_iconst (v := 1) hx hb dX6_mark_135 (by decide) ?_
                refine lv_goto (tgt := 145) hx hb dX6_mark_136 (by decide) ?_
                exact hB145 x1 x2 x4 x3 1 s10 H locs ls h hP hS (lv_sub hl [1, 2, 3, 5] rfl)
          · replace h := h.1 c13
            refine lv_iload hx hb dX6_mark_119 (lv_at hl 0 rfl) ?_
            refine lv_ineg hx hb dX6_mark_121 ?_
            refine lv_goto (tgt := 145) hx hb dX6_mark_122 (by decide) ?_
            exact hB145 x1 x2 x4 x3 (-((gR σ k2 ((6 * x4) + x1).toNatClampNeg) - r11)) s10 H locs ls h hP hS (lv_sub hl [1, 2, 3, 5] rfl)
        · replace h := h.1 c12
          refine lv_iload hx hb dX6_mark_100 (lv_at hl 0 rfl) ?_
          refine lv_iconst (v := 2) hx hb dX6_mark_102 (by decide) ?_
          refine lv_icmp_lt (tgt := 110) hx hb dX6_mark_103 (by decide) (fun c16 => ?_) (fun c16 => ?_)
          · replace h := h.1 c16
            refine lv_iconst (v := 0) hx hb dX6_mark_110 (by decide) ?_
            refine lv_goto (tgt := 145) hx hb dX6_mark_111 (by decide) ?_
            exact hB145 x1 x2 x4 x3 0 s10 H locs ls h hP hS (lv_sub hl [1, 2, 3, 5] rfl)
          · replace h := h.2 c16
            refine lv_iconst (v := 1) hx hb dX6_mark_106 (by decide) ?_
            refine lv_goto (tgt := 145) hx hb dX6_mark_107 (by decide) ?_
            exact hB145 x1 x2 x4 x3 1 s10 H locs ls h hP hS (lv_sub hl [1, 2, 3, 5] rfl)
  unfold p_X6_mark at h
  refine lv_aload_n hx hb dX6_mark_0 rfl (lv_at hl 0 rfl) ?_
  refine lv_iload_n hx hb dX6_mark_1 rfl (lv_at hl 1 rfl) ?_
  refine f_i (kV (As := [.int x1]) (rest := []) (o := some x0) rfl ⟨hx, hb, hml, hown, hts⟩ (c_X6_isWoman l D cs ad x0 x1 s0 _ hk0) (cwV 1 hts gX6_mark_X6_isWoman rfl rfl rfl (by decide +kernel) ⟨Nat.le_of_ble_eq_true rfl, Nat.le_of_ble_eq_true rfl⟩) hE hP rfl rfl (w_5 hE hk0) h rfl hl.1 rfl (by first | exact lv_room (Nat.le_of_ble_eq_true rfl) | (refine lv_room ?_; simp [re_cat, cat_i, cat_l, cat_r])) dX6_mark_2 ⟨Nat.le_refl _, Nat.le_refl _⟩) hS (fun r2 s1 H locs h hP hS => ?_)
  refine lv_if_eq (tgt := 17) hx hb dX6_mark_5 (by decide) (fun c3 => ?_) (fun c3 => ?_)
  · replace h := h.1 c3
    refine lv_iconst (v := (-1)) hx hb dX6_mark_17 (by decide) ?_
    exact W.iret hx hb hr (fun t ht hW => ⟨⟨_, _, rfl, h, pw ht hP⟩, hS.F ht⟩) hS.2.2 dX6_mark_18
  · replace h := h.2 c3
    refine lv_iload_n hx hb dX6_mark_8 rfl (lv_at hl 2 rfl) ?_
    refine lv_iconst (v := 1) hx hb dX6_mark_9 (by decide) ?_
    refine lv_iconst (v := 5) hx hb dX6_mark_10 (by decide) ?_
    refine f_i (kS (As := [.int x2, .int 1, .int 5]) (rest := []) ⟨hx, hb, hml, hown, hts⟩ (c_X6_in l D cs ad x2 1 5 s1 _) (va_cwS 3 hts gX6_mark_X6_in rfl rfl rfl (by decide +kernel) ⟨Nat.le_of_ble_eq_true rfl, Nat.le_of_ble_eq_true rfl⟩) hE hP h rfl hl.1 rfl (by first | exact lv_room (Nat.le_of_ble_eq_true rfl) | (refine lv_room ?_; simp [re_cat, cat_i, cat_l, cat_r])) dX6_mark_11 ⟨Nat.le_refl _, Nat.le_refl _⟩) hS (fun r5 s4 H locs h hP hS => ?_)
    refine lv_if_ne (tgt := 19) hx hb dX6_mark_14 (by decide) (fun c6 => ?_) (fun c6 => ?_)
    · replace h := h.2 c6
      refine lv_aload_n hx hb dX6_mark_19 rfl (lv_at hl 0 rfl) ?_
      refine va_get (ci := 5) (v := va_re ad (tM x0 21)) (C := RX6) (T := TX6) (N := 42) hx hb hts hi_X6 hown hE.1 hP x0 (w_5 hE hk0) rfl 21 (by decide) (hts (.fieldLink RX6 44 "HemLineModel" "kind" "[I") (by decide +kernel)) (fun _ h9 => h9) rfl dX6_mark_20 ?_
      refine lv_iload_n hx hb dX6_mark_23 rfl (lv_at hl 1 rfl) ?_
      obtain ⟨k7, e8, q9, i10, h⟩ := h
      refine r_iald hx hb hE hP e8 q9 i10 dX6_mark_24 ?_
      refine lv_iload_n hx hb dX6_mark_25 rfl (lv_at hl 2 rfl) ?_
      refine f_i (kS (As := [.int (gR s4 k7 x1.toNatClampNeg), .int x2]) (rest := []) ⟨hx, hb, hml, hown, hts⟩ (c_X6_isOf l D cs ad (gR s4 k7 x1.toNatClampNeg) x2 s4 _) (va_cwS 2 hts gX6_mark_X6_isOf rfl rfl rfl (by decide +kernel) ⟨Nat.le_of_ble_eq_true rfl, Nat.le_of_ble_eq_true rfl⟩) hE hP h rfl hl.1 rfl (by first | exact lv_room (Nat.le_of_ble_eq_true rfl) | (refine lv_room ?_; simp [re_cat, cat_i, cat_l, cat_r])) dX6_mark_26 ⟨Nat.le_refl _, Nat.le_refl _⟩) hS (fun r12 s11 H locs h hP hS => ?_)
      refine lv_if_ne (tgt := 38) hx hb dX6_mark_29 (by decide) (fun c13 => ?_) (fun c13 => ?_)
      · replace h := h.2 c13
        refine lv_iload_n hx hb dX6_mark_38 rfl (lv_at hl 2 rfl) ?_
        refine lv_iconst (v := 5) hx hb dX6_mark_39 (by decide) ?_
        refine lv_icmp_ne (tgt := 50) hx hb dX6_mark_40 (by decide) (fun c14 => ?_) (fun c14 => ?_)
        · replace h := h.2 c14
          refine lv_iconst (v := 0) hx hb dX6_mark_50 (by decide) ?_
          refine lv_istore_n (i := 3) (lv' := [(3, .int 0), (0, .ref (ad x0)), (1, .int x1), (2, .int x2)]) hx hb dX6_mark_51 rfl hl (by decide) (by first | rfl | simp [re_cat, cat_i, cat_l, cat_r]) (fun ls hl => ?_)
          refine lv_iconst (v := 0) hx hb dX6_mark_52 (by decide) ?_
          refine lv_istore (i := 4) (lv' := [(4, .int 0), (3, .int 0), (0, .ref (ad x0)), (1, .int x1), (2, .int x2)]) hx hb dX6_mark_53 hl (by decide) (by first | rfl | simp [re_cat, cat_i, cat_l, cat_r]) (fun ls hl => ?_)
          obtain ⟨n15, h⟩ := h
          exact hB55 n15 x1 x2 0 0 s11 _ _ ls h hP hS (lv_sub hl [2, 3, 4, 1, 0] rfl)
        · replace h := h.1 c14
          refine lv_aload_n hx hb dX6_mark_43 rfl (lv_at hl 0 rfl) ?_
          refine va_get (ci := 5) (v := .int (gI s11 x0 31)) (C := RX6) (T := TX6) (N := 42) hx hb hts hi_X6 hown hE.1 hP x0 (w_5 hE hk0) rfl 31 (by decide) (hts (.fieldLink RX6 185 "HemLineModel" "years" "I") (by decide +kernel)) (fun _ h9 => h9) rfl dX6_mark_44 ?_
          refine lv_iconst (v := 2) hx hb dX6_mark_47 (by decide) ?_
          refine lv_irem hx hb dX6_mark_48 (by decide) ?_
          exact W.iret hx hb hr (fun t ht hW => ⟨⟨_, _, rfl, h, pw ht hP⟩, hS.F ht⟩) hS.2.2 dX6_mark_49
      · replace h := h.1 c13
        refine lv_aload_n hx hb dX6_mark_32 rfl (lv_at hl 0 rfl) ?_
        refine lv_iconst (v := 3) hx hb dX6_mark_33 (by decide) ?_
        refine f_i (kV (As := [.int 3]) (rest := []) (o := some x0) rfl ⟨hx, hb, hml, hown, hts⟩ (c_X6_refuse l D cs ad x0 3 s11 _ hk0) (cwV 1 hts gX6_mark_X6_refuse rfl rfl rfl (by decide +kernel) ⟨Nat.le_of_ble_eq_true rfl, Nat.le_of_ble_eq_true rfl⟩) hE hP rfl rfl (w_5 hE hk0) h rfl hl.1 rfl (by first | exact lv_room (Nat.le_of_ble_eq_true rfl) | (refine lv_room ?_; simp [re_cat, cat_i, cat_l, cat_r])) dX6_mark_34 ⟨Nat.le_refl _, Nat.le_refl _⟩) hS (fun r17 s16 H locs h hP hS => ?_)
        exact W.iret hx hb hr (fun t ht hW => ⟨⟨_, _, rfl, h, pw ht hP⟩, hS.F ht⟩) hS.2.2 dX6_mark_37
    · replace h := h.1 c6
      refine lv_iconst (v := (-1)) hx hb dX6_mark_17 (by decide) ?_
      exact W.iret hx hb hr (fun t ht hW => ⟨⟨_, _, rfl, h, pw ht hP⟩, hS.F ht⟩) hS.2.2 dX6_mark_18
def p_X6_isYear (x0 : Nat) (x1 : Int32) (s : Sg) (Q : Int32 → Sg → Prop) : Prop := p_X6_in x1 0 ((gI s x0 31) - 1) s (fun r2 s1 => (r2 = 0 ∨ r2 = 1) ∧ Q r2 s1)
set_option maxHeartbeats 4000000 in
set_option maxRecDepth 100000 in
theorem c_X6_isYear (l : Launch) (D : va_G) (cs : Cs) (ad : Nat → Nat) (x0 : Nat) (x1 : Int32) (s0 : Sg) (Q : Int32 → Sg → Prop) (hk0 : kM x0 = 5) : Met l yX6_isYear wsX6_isYear { frames := 1, cells := 0, slots := 0, locals := 22 } (Pc0 bM D cs ad [.ref (ad x0), .int x1] s0 (p_X6_isYear x0 x1 s0 Q)) (QI bM D cs ad Q) 0 0 (fAd bM ad) := by
  refine Met.ofW (cc := cX6_isYear) (maxL := 2) (ret := (some .boolean)) (by decide) rfl ?_
  intro p e s m args below meth c s₁ B0 hml hv
  obtain ⟨ha, hP, hE, h⟩ := hv
  have hx := B0.exec
  have hb := B0.bytes
  have hr := B0.returns
  have hts := atoms_spec (ws := wsX6_isYear) B0.pre
  have hown : s.vm.findClass RX6 = some m.cls := findClass_of_methodNamed B0.named
  have hlocks := B0.notSynchronized
  have hi_X6 : ∀ w ∈ u_ws RX6 TX6 42, w ∈ wsX6_isYear := by decide +kernel
  have hS : va_S (fAd bM ad) s.heap s.heap [] := va_S.rf
  have hl := lv_entry ([.ref (ad x0), .int x1]) (n := 2) (by first | exact Nat.le_of_ble_eq_true rfl | simp [lg_sl, re_cat, cat_i, cat_l, cat_r])
  rw [show entryFrame m args 2 = entryFrame m ([.ref (ad x0), .int x1] : List Value).toArray 2 by rw [ha], lg_entry_eq]
  generalize (lg_sl ([.ref (ad x0), .int x1]) ++ List.replicate (2 - (lg_sl ([.ref (ad x0), .int x1])).length) Slot.unset).toArray = ls at hl ⊢
  have hl : lv_has ls 2 [(0, .ref (ad x0)), (1, .int x1)] := by first | exact hl | simpa [lv_args, re_cat, cat_i, cat_l, cat_r] using hl
  unfold p_X6_isYear at h
  refine lv_iload_n hx hb dX6_isYear_0 rfl (lv_at hl 1 rfl) ?_
  refine lv_iconst (v := 0) hx hb dX6_isYear_1 (by decide) ?_
  refine lv_aload_n hx hb dX6_isYear_2 rfl (lv_at hl 0 rfl) ?_
  refine va_get (ci := 5) (v := .int (gI s0 x0 31)) (C := RX6) (T := TX6) (N := 42) hx hb hts hi_X6 hown hE.1 hP x0 (w_5 hE hk0) rfl 31 (by decide) (hts (.fieldLink RX6 185 "HemLineModel" "years" "I") (by decide +kernel)) (fun _ h9 => h9) rfl dX6_isYear_3 ?_
  refine lv_iconst (v := 1) hx hb dX6_isYear_6 (by decide) ?_
  refine lv_isub hx hb dX6_isYear_7 ?_
  refine f_i (kS (As := [.int x1, .int 0, .int ((gI s0 x0 31) - 1)]) (rest := []) ⟨hx, hb, hml, hown, hts⟩ (c_X6_in l D cs ad x1 0 ((gI s0 x0 31) - 1) s0 _) (va_cwS 3 hts gX6_isYear_X6_in rfl rfl rfl (by decide +kernel) ⟨Nat.le_of_ble_eq_true rfl, Nat.le_of_ble_eq_true rfl⟩) hE hP h rfl hl.1 rfl (by first | exact lv_room (Nat.le_of_ble_eq_true rfl) | (refine lv_room ?_; simp [re_cat, cat_i, cat_l, cat_r])) dX6_isYear_8 ⟨Nat.le_refl _, Nat.le_refl _⟩) hS (fun r2 s1 H locs h hP hS => ?_)
  obtain ⟨z3, h⟩ := h
  exact W.zret hx hb hr (by rcases z3 with z3 | z3 <;> rw [z3] <;> rfl) (fun t ht hW => ⟨⟨_, _, rfl, h, pw ht hP⟩, hS.F ht⟩) hS.2.2 dX6_isYear_11
def p_X6_hem (x0 : Nat) (x1 : Int32) (x2 : Int32) (s : Sg) (Q : Int32 → Sg → Prop) : Prop := p_X6_isWoman x0 x1 s (fun r2 s1 => ((r2 = 0 → Q ((-1)) s1) ∧ (¬ r2 = 0 → p_X6_isYear x0 x2 s1 (fun r5 s4 => ((r5 = 0 → Q ((-1)) s4) ∧ (¬ r5 = 0 → ∃ k7, tM x0 33 = some k7 ∧ kM k7 = 7 ∧ vp_in ((6 * x2) + x1) (lM k7) ∧ Q (gR s4 k7 ((6 * x2) + x1).toNatClampNeg) s4))))))
set_option maxHeartbeats 4000000 in
set_option maxRecDepth 100000 in
theorem c_X6_hem (l : Launch) (D : va_G) (cs : Cs) (ad : Nat → Nat) (x0 : Nat) (x1 : Int32) (x2 : Int32) (s0 : Sg) (Q : Int32 → Sg → Prop) (hk0 : kM x0 = 5) : Met l yX6_hem wsX6_hem { frames := 2, cells := 0, slots := 0, locals := 43 } (Pc0 bM D cs ad [.ref (ad x0), .int x1, .int x2] s0 (p_X6_hem x0 x1 x2 s0 Q)) (QI bM D cs ad Q) 0 0 (fAd bM ad) := by
  refine Met.ofW (cc := cX6_hem) (maxL := 3) (ret := (some .int)) (by decide) rfl ?_
  intro p e s m args below meth c s₁ B0 hml hv
  obtain ⟨ha, hP, hE, h⟩ := hv
  have hx := B0.exec
  have hb := B0.bytes
  have hr := B0.returns
  have hts := atoms_spec (ws := wsX6_hem) B0.pre
  have hown : s.vm.findClass RX6 = some m.cls := findClass_of_methodNamed B0.named
  have hlocks := B0.notSynchronized
  have hi_X6 : ∀ w ∈ u_ws RX6 TX6 42, w ∈ wsX6_hem := by decide +kernel
  have hS : va_S (fAd bM ad) s.heap s.heap [] := va_S.rf
  have hl := lv_entry ([.ref (ad x0), .int x1, .int x2]) (n := 3) (by first | exact Nat.le_of_ble_eq_true rfl | simp [lg_sl, re_cat, cat_i, cat_l, cat_r])
  rw [show entryFrame m args 3 = entryFrame m ([.ref (ad x0), .int x1, .int x2] : List Value).toArray 3 by rw [ha], lg_entry_eq]
  generalize (lg_sl ([.ref (ad x0), .int x1, .int x2]) ++ List.replicate (3 - (lg_sl ([.ref (ad x0), .int x1, .int x2])).length) Slot.unset).toArray = ls at hl ⊢
  have hl : lv_has ls 3 [(0, .ref (ad x0)), (1, .int x1), (2, .int x2)] := by first | exact hl | simpa [lv_args, re_cat, cat_i, cat_l, cat_r] using hl
  unfold p_X6_hem at h
  refine lv_aload_n hx hb dX6_hem_0 rfl (lv_at hl 0 rfl) ?_
  refine lv_iload_n hx hb dX6_hem_1 rfl (lv_at hl 1 rfl) ?_
  refine f_i (kV (As := [.int x1]) (rest := []) (o := some x0) rfl ⟨hx, hb, hml, hown, hts⟩ (c_X6_isWoman l D cs ad x0 x1 s0 _ hk0) (cwV 1 hts gX6_hem_X6_isWoman rfl rfl rfl (by decide +kernel) ⟨Nat.le_of_ble_eq_true rfl, Nat.le_of_ble_eq_true rfl⟩) hE hP rfl rfl (w_5 hE hk0) h rfl hl.1 rfl (by first | exact lv_room (Nat.le_of_ble_eq_true rfl) | (refine lv_room ?_; simp [re_cat, cat_i, cat_l, cat_r])) dX6_hem_2 ⟨Nat.le_refl _, Nat.le_refl _⟩) hS (fun r2 s1 H locs h hP hS => ?_)
  refine lv_if_eq (tgt := 30) hx hb dX6_hem_5 (by decide) (fun c3 => ?_) (fun c3 => ?_)
  · replace h := h.1 c3
    refine lv_iconst (v := (-1)) hx hb dX6_hem_30 (by decide) ?_
    exact W.iret hx hb hr (fun t ht hW => ⟨⟨_, _, rfl, h, pw ht hP⟩, hS.F ht⟩) hS.2.2 dX6_hem_31
  · replace h := h.2 c3
    refine lv_aload_n hx hb dX6_hem_8 rfl (lv_at hl 0 rfl) ?_
    refine lv_iload_n hx hb dX6_hem_9 rfl (lv_at hl 2 rfl) ?_
    refine f_i (kV (As := [.int x2]) (rest := []) (o := some x0) rfl ⟨hx, hb, hml, hown, hts⟩ (c_X6_isYear l D cs ad x0 x2 s1 _ hk0) (cwV 1 hts gX6_hem_X6_isYear rfl rfl rfl (by decide +kernel) ⟨Nat.le_of_ble_eq_true rfl, Nat.le_of_ble_eq_true rfl⟩) hE hP rfl rfl (w_5 hE hk0) h rfl hl.1 rfl (by first | exact lv_room (Nat.le_of_ble_eq_true rfl) | (refine lv_room ?_; simp [re_cat, cat_i, cat_l, cat_r])) dX6_hem_10 ⟨Nat.le_refl _, Nat.le_refl _⟩) hS (fun r5 s4 H locs h hP hS => ?_)
    refine lv_if_eq (tgt := 30) hx hb dX6_hem_13 (by decide) (fun c6 => ?_) (fun c6 => ?_)
    · replace h := h.1 c6
      refine lv_iconst (v := (-1)) hx hb dX6_hem_30 (by decide) ?_
      exact W.iret hx hb hr (fun t ht hW => ⟨⟨_, _, rfl, h, pw ht hP⟩, hS.F ht⟩) hS.2.2 dX6_hem_31
    · replace h := h.2 c6
      refine lv_aload_n hx hb dX6_hem_16 rfl (lv_at hl 0 rfl) ?_
      refine va_get (ci := 5) (v := va_re ad (tM x0 33)) (C := RX6) (T := TX6) (N := 42) hx hb hts hi_X6 hown hE.1 hP x0 (w_5 hE hk0) rfl 33 (by decide) (hts (.fieldLink RX6 71 "HemLineModel" "hems" "[I") (by decide +kernel)) (fun _ h9 => h9) rfl dX6_hem_17 ?_
      refine lv_bipush (v := 6) hx hb dX6_hem_20 (by decide) ?_
      refine lv_iload_n hx hb dX6_hem_22 rfl (lv_at hl 2 rfl) ?_
      refine lv_imul hx hb dX6_hem_23 ?_
      refine lv_iload_n hx hb dX6_hem_24 rfl (lv_at hl 1 rfl) ?_
      refine lv_iadd hx hb dX6_hem_25 ?_
      obtain ⟨k7, e8, q9, i10, h⟩ := h
      refine r_iald hx hb hE hP e8 q9 i10 dX6_hem_26 ?_
      refine lv_goto (tgt := 31) hx hb dX6_hem_27 (by decide) ?_
      exact W.iret hx hb hr (fun t ht hW => ⟨⟨_, _, rfl, h, pw ht hP⟩, hS.F ht⟩) hS.2.2 dX6_hem_31
def p_X6_would (x0 : Nat) (x1 : Int32) (x2 : Int32) (s : Sg) (Q : Int32 → Sg → Prop) : Prop := p_X6_isWoman x0 x1 s (fun r2 s1 => ((r2 = 0 → Q ((-1)) s1) ∧ (¬ r2 = 0 → p_X6_isHeight x2 s1 (fun r5 s4 => ((r5 = 0 → Q ((-1)) s4) ∧ (¬ r5 = 0 → ∃ k7, tM x0 21 = some k7 ∧ kM k7 = 7 ∧ vp_in x1 (lM k7) ∧ p_X6_hemNow x0 (gR s4 k7 x1.toNatClampNeg) x1 x2 s4 (fun r12 s11 => Q r12 s11)))))))
set_option maxHeartbeats 4000000 in
set_option maxRecDepth 100000 in
theorem c_X6_would (l : Launch) (D : va_G) (cs : Cs) (ad : Nat → Nat) (x0 : Nat) (x1 : Int32) (x2 : Int32) (s0 : Sg) (Q : Int32 → Sg → Prop) (hk0 : kM x0 = 5) : Met l yX6_would wsX6_would { frames := 3, cells := 0, slots := 0, locals := 71 } (Pc0 bM D cs ad [.ref (ad x0), .int x1, .int x2] s0 (p_X6_would x0 x1 x2 s0 Q)) (QI bM D cs ad Q) 0 0 (fAd bM ad) := by
  refine Met.ofW (cc := cX6_would) (maxL := 3) (ret := (some .int)) (by decide) rfl ?_
  intro p e s m args below meth c s₁ B0 hml hv
  obtain ⟨ha, hP, hE, h⟩ := hv
  have hx := B0.exec
  have hb := B0.bytes
  have hr := B0.returns
  have hts := atoms_spec (ws := wsX6_would) B0.pre
  have hown : s.vm.findClass RX6 = some m.cls := findClass_of_methodNamed B0.named
  have hlocks := B0.notSynchronized
  have hi_X6 : ∀ w ∈ u_ws RX6 TX6 42, w ∈ wsX6_would := by decide +kernel
  have hS : va_S (fAd bM ad) s.heap s.heap [] := va_S.rf
  have hl := lv_entry ([.ref (ad x0), .int x1, .int x2]) (n := 3) (by first | exact Nat.le_of_ble_eq_true rfl | simp [lg_sl, re_cat, cat_i, cat_l, cat_r])
  rw [show entryFrame m args 3 = entryFrame m ([.ref (ad x0), .int x1, .int x2] : List Value).toArray 3 by rw [ha], lg_entry_eq]
  generalize (lg_sl ([.ref (ad x0), .int x1, .int x2]) ++ List.replicate (3 - (lg_sl ([.ref (ad x0), .int x1, .int x2])).length) Slot.unset).toArray = ls at hl ⊢
  have hl : lv_has ls 3 [(0, .ref (ad x0)), (1, .int x1), (2, .int x2)] := by first | exact hl | simpa [lv_args, re_cat, cat_i, cat_l, cat_r] using hl
  unfold p_X6_would at h
  refine lv_aload_n hx hb dX6_would_0 rfl (lv_at hl 0 rfl) ?_
  refine lv_iload_n hx hb dX6_would_1 rfl (lv_at hl 1 rfl) ?_
  refine f_i (kV (As := [.int x1]) (rest := []) (o := some x0) rfl ⟨hx, hb, hml, hown, hts⟩ (c_X6_isWoman l D cs ad x0 x1 s0 _ hk0) (cwV 1 hts gX6_would_X6_isWoman rfl rfl rfl (by decide +kernel) ⟨Nat.le_of_ble_eq_true rfl, Nat.le_of_ble_eq_true rfl⟩) hE hP rfl rfl (w_5 hE hk0) h rfl hl.1 rfl (by first | exact lv_room (Nat.le_of_ble_eq_true rfl) | (refine lv_room ?_; simp [re_cat, cat_i, cat_l, cat_r])) dX6_would_2 ⟨Nat.le_refl _, Nat.le_refl _⟩) hS (fun r2 s1 H locs h hP hS => ?_)
  refine lv_if_eq (tgt := 30) hx hb dX6_would_5 (by decide) (fun c3 => ?_) (fun c3 => ?_)
  · replace h := h.1 c3
    refine lv_iconst (v := (-1)) hx hb dX6_would_30 (by decide) ?_
    exact W.iret hx hb hr (fun t ht hW => ⟨⟨_, _, rfl, h, pw ht hP⟩, hS.F ht⟩) hS.2.2 dX6_would_31
  · replace h := h.2 c3
    refine lv_iload_n hx hb dX6_would_8 rfl (lv_at hl 2 rfl) ?_
    refine f_i (kS (As := [.int x2]) (rest := []) ⟨hx, hb, hml, hown, hts⟩ (c_X6_isHeight l D cs ad x2 s1 _) (va_cwS 1 hts gX6_would_X6_isHeight rfl rfl rfl (by decide +kernel) ⟨Nat.le_of_ble_eq_true rfl, Nat.le_of_ble_eq_true rfl⟩) hE hP h rfl hl.1 rfl (by first | exact lv_room (Nat.le_of_ble_eq_true rfl) | (refine lv_room ?_; simp [re_cat, cat_i, cat_l, cat_r])) dX6_would_9 ⟨Nat.le_refl _, Nat.le_refl _⟩) hS (fun r5 s4 H locs h hP hS => ?_)
    refine lv_if_eq (tgt := 30) hx hb dX6_would_12 (by decide) (fun c6 => ?_) (fun c6 => ?_)
    · replace h := h.1 c6
      refine lv_iconst (v := (-1)) hx hb dX6_would_30 (by decide) ?_
      exact W.iret hx hb hr (fun t ht hW => ⟨⟨_, _, rfl, h, pw ht hP⟩, hS.F ht⟩) hS.2.2 dX6_would_31
    · replace h := h.2 c6
      refine lv_aload_n hx hb dX6_would_15 rfl (lv_at hl 0 rfl) ?_
      refine lv_aload_n hx hb dX6_would_16 rfl (lv_at hl 0 rfl) ?_
      refine va_get (ci := 5) (v := va_re ad (tM x0 21)) (C := RX6) (T := TX6) (N := 42) hx hb hts hi_X6 hown hE.1 hP x0 (w_5 hE hk0) rfl 21 (by decide) (hts (.fieldLink RX6 44 "HemLineModel" "kind" "[I") (by decide +kernel)) (fun _ h9 => h9) rfl dX6_would_17 ?_
      refine lv_iload_n hx hb dX6_would_20 rfl (lv_at hl 1 rfl) ?_
      obtain ⟨k7, e8, q9, i10, h⟩ := h
      refine r_iald hx hb hE hP e8 q9 i10 dX6_would_21 ?_
      refine lv_iload_n hx hb dX6_would_22 rfl (lv_at hl 1 rfl) ?_
      refine lv_iload_n hx hb dX6_would_23 rfl (lv_at hl 2 rfl) ?_
      refine f_i (kV (As := [.int (gR s4 k7 x1.toNatClampNeg), .int x1, .int x2]) (rest := []) (o := some x0) rfl ⟨hx, hb, hml, hown, hts⟩ (c_X6_hemNow l D cs ad x0 (gR s4 k7 x1.toNatClampNeg) x1 x2 s4 _ hk0) (cwV 3 hts gX6_would_X6_hemNow rfl rfl rfl (by decide +kernel) ⟨Nat.le_of_ble_eq_true rfl, Nat.le_of_ble_eq_true rfl⟩) hE hP rfl rfl (w_5 hE hk0) h rfl hl.1 rfl (by first | exact lv_room (Nat.le_of_ble_eq_true rfl) | (refine lv_room ?_; simp [re_cat, cat_i, cat_l, cat_r])) dX6_would_24 ⟨Nat.le_refl _, Nat.le_refl _⟩) hS (fun r12 s11 H locs h hP hS => ?_)
      refine lv_goto (tgt := 31) hx hb dX6_would_27 (by decide) ?_
      exact W.iret hx hb hr (fun t ht hW => ⟨⟨_, _, rfl, h, pw ht hP⟩, hS.F ht⟩) hS.2.2 dX6_would_31
def p_X6_flood (x0 : Nat) (x1 : Int32) (s : Sg) (Q : Int32 → Sg → Prop) : Prop := p_X6_isHeight x1 s (fun r2 s1 => ((r2 = 0 → Q ((-1)) s1) ∧ (¬ r2 = 0 → (((gI s1 x0 20) = 0 → Q ((-4)) s1) ∧ (¬ (gI s1 x0 20) = 0 → (((gI s1 x0 31) = 8 → Q ((-4)) s1) ∧ (¬ (gI s1 x0 31) = 8 → (((gI s1 x0 36) = 40 → Q ((-2)) s1) ∧ (¬ (gI s1 x0 36) = 40 → p_X6_does x0 0 x1 0 s1 (fun s7 => p_X6_manyWet x0 x1 s7 (fun r9 s8 => Q r9 s8)))))))))))
set_option maxHeartbeats 4000000 in
set_option maxRecDepth 100000 in
theorem c_X6_flood (l : Launch) (D : va_G) (cs : Cs) (ad : Nat → Nat) (x0 : Nat) (x1 : Int32) (s0 : Sg) (Q : Int32 → Sg → Prop) (hk0 : kM x0 = 5) : Met l yX6_flood wsX6_flood { frames := 5, cells := 0, slots := 0, locals := 119 } (Pc0 bM D cs ad [.ref (ad x0), .int x1] s0 (p_X6_flood x0 x1 s0 Q)) (QI bM D cs ad Q) 0 0 (fAd bM ad) := by
  refine Met.ofW (cc := cX6_flood) (maxL := 2) (ret := (some .int)) (by decide) rfl ?_
  intro p e s m args below meth c s₁ B0 hml hv
  obtain ⟨ha, hP, hE, h⟩ := hv
  have hx := B0.exec
  have hb := B0.bytes
  have hr := B0.returns
  have hts := atoms_spec (ws := wsX6_flood) B0.pre
  have hown : s.vm.findClass RX6 = some m.cls := findClass_of_methodNamed B0.named
  have hlocks := B0.notSynchronized
  have hi_X6 : ∀ w ∈ u_ws RX6 TX6 42, w ∈ wsX6_flood := by decide +kernel
  have hS : va_S (fAd bM ad) s.heap s.heap [] := va_S.rf
  have hl := lv_entry ([.ref (ad x0), .int x1]) (n := 2) (by first | exact Nat.le_of_ble_eq_true rfl | simp [lg_sl, re_cat, cat_i, cat_l, cat_r])
  rw [show entryFrame m args 2 = entryFrame m ([.ref (ad x0), .int x1] : List Value).toArray 2 by rw [ha], lg_entry_eq]
  generalize (lg_sl ([.ref (ad x0), .int x1]) ++ List.replicate (2 - (lg_sl ([.ref (ad x0), .int x1])).length) Slot.unset).toArray = ls at hl ⊢
  have hl : lv_has ls 2 [(0, .ref (ad x0)), (1, .int x1)] := by first | exact hl | simpa [lv_args, re_cat, cat_i, cat_l, cat_r] using hl
  unfold p_X6_flood at h
  refine lv_iload_n hx hb dX6_flood_0 rfl (lv_at hl 1 rfl) ?_
  refine f_i (kS (As := [.int x1]) (rest := []) ⟨hx, hb, hml, hown, hts⟩ (c_X6_isHeight l D cs ad x1 s0 _) (va_cwS 1 hts gX6_flood_X6_isHeight rfl rfl rfl (by decide +kernel) ⟨Nat.le_of_ble_eq_true rfl, Nat.le_of_ble_eq_true rfl⟩) hE hP h rfl hl.1 rfl (by first | exact lv_room (Nat.le_of_ble_eq_true rfl) | (refine lv_room ?_; simp [re_cat, cat_i, cat_l, cat_r])) dX6_flood_1 ⟨Nat.le_refl _, Nat.le_refl _⟩) hS (fun r2 s1 H locs h hP hS => ?_)
  refine lv_if_ne (tgt := 9) hx hb dX6_flood_4 (by decide) (fun c3 => ?_) (fun c3 => ?_)
  · replace h := h.2 c3
    refine lv_aload_n hx hb dX6_flood_9 rfl (lv_at hl 0 rfl) ?_
    refine va_get (ci := 5) (v := .int (gI s1 x0 20)) (C := RX6) (T := TX6) (N := 42) hx hb hts hi_X6 hown hE.1 hP x0 (w_5 hE hk0) rfl 20 (by decide) (hts (.fieldLink RX6 167 "HemLineModel" "women" "I") (by decide +kernel)) (fun _ h9 => h9) rfl dX6_flood_10 ?_
    refine lv_if_eq (tgt := 25) hx hb dX6_flood_13 (by decide) (fun c4 => ?_) (fun c4 => ?_)
    · replace h := h.1 c4
      refine lv_bipush (v := (-4)) hx hb dX6_flood_25 (by decide) ?_
      exact W.iret hx hb hr (fun t ht hW => ⟨⟨_, _, rfl, h, pw ht hP⟩, hS.F ht⟩) hS.2.2 dX6_flood_27
    · replace h := h.2 c4
      refine lv_aload_n hx hb dX6_flood_16 rfl (lv_at hl 0 rfl) ?_
      refine va_get (ci := 5) (v := .int (gI s1 x0 31)) (C := RX6) (T := TX6) (N := 42) hx hb hts hi_X6 hown hE.1 hP x0 (w_5 hE hk0) rfl 31 (by decide) (hts (.fieldLink RX6 185 "HemLineModel" "years" "I") (by decide +kernel)) (fun _ h9 => h9) rfl dX6_flood_17 ?_
      refine lv_bipush (v := 8) hx hb dX6_flood_20 (by decide) ?_
      refine lv_icmp_ne (tgt := 28) hx hb dX6_flood_22 (by decide) (fun c5 => ?_) (fun c5 => ?_)
      · replace h := h.2 c5
        refine lv_aload_n hx hb dX6_flood_28 rfl (lv_at hl 0 rfl) ?_
        refine va_get (ci := 5) (v := .int (gI s1 x0 36)) (C := RX6) (T := TX6) (N := 42) hx hb hts hi_X6 hown hE.1 hP x0 (w_5 hE hk0) rfl 36 (by decide) (hts (.fieldLink RX6 173 "HemLineModel" "deeds" "I") (by decide +kernel)) (fun _ h9 => h9) rfl dX6_flood_29 ?_
        refine lv_bipush (v := 40) hx hb dX6_flood_32 (by decide) ?_
        refine lv_icmp_ne (tgt := 40) hx hb dX6_flood_34 (by decide) (fun c6 => ?_) (fun c6 => ?_)
        · replace h := h.2 c6
          refine lv_aload_n hx hb dX6_flood_40 rfl (lv_at hl 0 rfl) ?_
          refine lv_iconst (v := 0) hx hb dX6_flood_41 (by decide) ?_
          refine lv_iload_n hx hb dX6_flood_42 rfl (lv_at hl 1 rfl) ?_
          refine lv_iconst (v := 0) hx hb dX6_flood_43 (by decide) ?_
          refine f_v (kV (As := [.int 0, .int x1, .int 0]) (rest := []) (o := some x0) rfl ⟨hx, hb, hml, hown, hts⟩ (c_X6_does l D cs ad x0 0 x1 0 s1 _ hk0) (cwV 3 hts gX6_flood_X6_does rfl rfl rfl (by decide +kernel) ⟨Nat.le_of_ble_eq_true rfl, Nat.le_of_ble_eq_true rfl⟩) hE hP rfl rfl (w_5 hE hk0) h rfl hl.1 rfl (by first | exact lv_room (Nat.le_of_ble_eq_true rfl) | (refine lv_room ?_; simp [re_cat, cat_i, cat_l, cat_r])) dX6_flood_44 ⟨Nat.le_refl _, Nat.le_refl _⟩) hS (fun s7 H locs h hP hS => ?_)
          refine lv_aload_n hx hb dX6_flood_47 rfl (lv_at hl 0 rfl) ?_
          refine lv_iload_n hx hb dX6_flood_48 rfl (lv_at hl 1 rfl) ?_
          refine f_i (kV (As := [.int x1]) (rest := []) (o := some x0) rfl ⟨hx, hb, hml, hown, hts⟩ (c_X6_manyWet l D cs ad x0 x1 s7 _ hk0) (cwV 1 hts gX6_flood_X6_manyWet rfl rfl rfl (by decide +kernel) ⟨Nat.le_of_ble_eq_true rfl, Nat.le_of_ble_eq_true rfl⟩) hE hP rfl rfl (w_5 hE hk0) h rfl hl.1 rfl (by first | exact lv_room (Nat.le_of_ble_eq_true rfl) | (refine lv_room ?_; simp [re_cat, cat_i, cat_l, cat_r])) dX6_flood_49 ⟨Nat.le_refl _, Nat.le_refl _⟩) hS (fun r9 s8 H locs h hP hS => ?_)
          exact W.iret hx hb hr (fun t ht hW => ⟨⟨_, _, rfl, h, pw ht hP⟩, hS.F ht⟩) hS.2.2 dX6_flood_52
        · replace h := h.1 c6
          refine lv_bipush (v := (-2)) hx hb dX6_flood_37 (by decide) ?_
          exact W.iret hx hb hr (fun t ht hW => ⟨⟨_, _, rfl, h, pw ht hP⟩, hS.F ht⟩) hS.2.2 dX6_flood_39
      · replace h := h.1 c5
        refine lv_bipush (v := (-4)) hx hb dX6_flood_25 (by decide) ?_
        exact W.iret hx hb hr (fun t ht hW => ⟨⟨_, _, rfl, h, pw ht hP⟩, hS.F ht⟩) hS.2.2 dX6_flood_27
  · replace h := h.1 c3
    refine lv_iconst (v := (-1)) hx hb dX6_flood_7 (by decide) ?_
    exact W.iret hx hb hr (fun t ht hW => ⟨⟨_, _, rfl, h, pw ht hP⟩, hS.F ht⟩) hS.2.2 dX6_flood_8
def p_X6_move (x0 : Nat) (x1 : Int32) (x2 : Int32) (s : Sg) (Q : Int32 → Sg → Prop) : Prop := p_X6_isWoman x0 x1 s (fun r2 s1 => ((r2 = 0 → Q ((-1)) s1) ∧ (¬ r2 = 0 → p_X6_isPlace x2 s1 (fun r5 s4 => ((r5 = 0 → Q ((-1)) s4) ∧ (¬ r5 = 0 → ∃ k7, tM x0 27 = some k7 ∧ kM k7 = 7 ∧ vp_in x1 (lM k7) ∧ (((gR s4 k7 x1.toNatClampNeg) = x2 → Q ((-4)) s4) ∧ (¬ (gR s4 k7 x1.toNatClampNeg) = x2 → (((gI s4 x0 36) = 40 → Q ((-2)) s4) ∧ (¬ (gI s4 x0 36) = 40 → p_X6_does x0 1 x1 x2 s4 (fun s13 => Q (gR s4 k7 x1.toNatClampNeg) s13)))))))))))
set_option maxHeartbeats 4000000 in
set_option maxRecDepth 100000 in
theorem c_X6_move (l : Launch) (D : va_G) (cs : Cs) (ad : Nat → Nat) (x0 : Nat) (x1 : Int32) (x2 : Int32) (s0 : Sg) (Q : Int32 → Sg → Prop) (hk0 : kM x0 = 5) : Met l yX6_move wsX6_move { frames := 5, cells := 0, slots := 0, locals := 119 } (Pc0 bM D cs ad [.ref (ad x0), .int x1, .int x2] s0 (p_X6_move x0 x1 x2 s0 Q)) (QI bM D cs ad Q) 0 0 (fAd bM ad) := by
  refine Met.ofW (cc := cX6_move) (maxL := 4) (ret := (some .int)) (by decide) rfl ?_
  intro p e s m args below meth c s₁ B0 hml hv
  obtain ⟨ha, hP, hE, h⟩ := hv
  have hx := B0.exec
  have hb := B0.bytes
  have hr := B0.returns
  have hts := atoms_spec (ws := wsX6_move) B0.pre
  have hown : s.vm.findClass RX6 = some m.cls := findClass_of_methodNamed B0.named
  have hlocks := B0.notSynchronized
  have hi_X6 : ∀ w ∈ u_ws RX6 TX6 42, w ∈ wsX6_move := by decide +kernel
  have hS : va_S (fAd bM ad) s.heap s.heap [] := va_S.rf
  have hl := lv_entry ([.ref (ad x0), .int x1, .int x2]) (n := 4) (by first | exact Nat.le_of_ble_eq_true rfl | simp [lg_sl, re_cat, cat_i, cat_l, cat_r])
  rw [show entryFrame m args 4 = entryFrame m ([.ref (ad x0), .int x1, .int x2] : List Value).toArray 4 by rw [ha], lg_entry_eq]
  generalize (lg_sl ([.ref (ad x0), .int x1, .int x2]) ++ List.replicate (4 - (lg_sl ([.ref (ad x0), .int x1, .int x2])).length) Slot.unset).toArray = ls at hl ⊢
  have hl : lv_has ls 4 [(0, .ref (ad x0)), (1, .int x1), (2, .int x2)] := by first | exact hl | simpa [lv_args, re_cat, cat_i, cat_l, cat_r] using hl
  unfold p_X6_move at h
  refine lv_aload_n hx hb dX6_move_0 rfl (lv_at hl 0 rfl) ?_
  refine lv_iload_n hx hb dX6_move_1 rfl (lv_at hl 1 rfl) ?_
  refine f_i (kV (As := [.int x1]) (rest := []) (o := some x0) rfl ⟨hx, hb, hml, hown, hts⟩ (c_X6_isWoman l D cs ad x0 x1 s0 _ hk0) (cwV 1 hts gX6_move_X6_isWoman rfl rfl rfl (by decide +kernel) ⟨Nat.le_of_ble_eq_true rfl, Nat.le_of_ble_eq_true rfl⟩) hE hP rfl rfl (w_5 hE hk0) h rfl hl.1 rfl (by first | exact lv_room (Nat.le_of_ble_eq_true rfl) | (refine lv_room ?_; simp [re_cat, cat_i, cat_l, cat_r])) dX6_move_2 ⟨Nat.le_refl _, Nat.le_refl _⟩) hS (fun r2 s1 H locs h hP hS => ?_)
  refine lv_if_eq (tgt := 15) hx hb dX6_move_5 (by decide) (fun c3 => ?_) (fun c3 => ?_)
  · replace h := h.1 c3
    refine lv_iconst (v := (-1)) hx hb dX6_move_15 (by decide) ?_
    exact W.iret hx hb hr (fun t ht hW => ⟨⟨_, _, rfl, h, pw ht hP⟩, hS.F ht⟩) hS.2.2 dX6_move_16
  · replace h := h.2 c3
    refine lv_iload_n hx hb dX6_move_8 rfl (lv_at hl 2 rfl) ?_
    refine f_i (kS (As := [.int x2]) (rest := []) ⟨hx, hb, hml, hown, hts⟩ (c_X6_isPlace l D cs ad x2 s1 _) (va_cwS 1 hts gX6_move_X6_isPlace rfl rfl rfl (by decide +kernel) ⟨Nat.le_of_ble_eq_true rfl, Nat.le_of_ble_eq_true rfl⟩) hE hP h rfl hl.1 rfl (by first | exact lv_room (Nat.le_of_ble_eq_true rfl) | (refine lv_room ?_; simp [re_cat, cat_i, cat_l, cat_r])) dX6_move_9 ⟨Nat.le_refl _, Nat.le_refl _⟩) hS (fun r5 s4 H locs h hP hS => ?_)
    refine lv_if_ne (tgt := 17) hx hb dX6_move_12 (by decide) (fun c6 => ?_) (fun c6 => ?_)
    · replace h := h.2 c6
      refine lv_aload_n hx hb dX6_move_17 rfl (lv_at hl 0 rfl) ?_
      refine va_get (ci := 5) (v := va_re ad (tM x0 27)) (C := RX6) (T := TX6) (N := 42) hx hb hts hi_X6 hown hE.1 hP x0 (w_5 hE hk0) rfl 27 (by decide) (hts (.fieldLink RX6 59 "HemLineModel" "lives" "[I") (by decide +kernel)) (fun _ h9 => h9) rfl dX6_move_18 ?_
      refine lv_iload_n hx hb dX6_move_21 rfl (lv_at hl 1 rfl) ?_
      obtain ⟨k7, e8, q9, i10, h⟩ := h
      refine r_iald hx hb hE hP e8 q9 i10 dX6_move_22 ?_
      refine lv_istore_n (i := 3) (lv' := [(3, .int (gR s4 k7 x1.toNatClampNeg)), (0, .ref (ad x0)), (1, .int x1), (2, .int x2)]) hx hb dX6_move_23 rfl hl (by decide) (by first | rfl | simp [re_cat, cat_i, cat_l, cat_r]) (fun ls hl => ?_)
      refine lv_iload_n hx hb dX6_move_24 rfl (lv_at hl 0 rfl) ?_
      refine lv_iload_n hx hb dX6_move_25 rfl (lv_at hl 3 rfl) ?_
      refine lv_icmp_ne (tgt := 32) hx hb dX6_move_26 (by decide) (fun c11 => ?_) (fun c11 => ?_)
      · replace h := h.2 c11
        refine lv_aload_n hx hb dX6_move_32 rfl (lv_at hl 1 rfl) ?_
        refine va_get (ci := 5) (v := .int (gI s4 x0 36)) (C := RX6) (T := TX6) (N := 42) hx hb hts hi_X6 hown hE.1 hP x0 (w_5 hE hk0) rfl 36 (by decide) (hts (.fieldLink RX6 173 "HemLineModel" "deeds" "I") (by decide +kernel)) (fun _ h9 => h9) rfl dX6_move_33 ?_
        refine lv_bipush (v := 40) hx hb dX6_move_36 (by decide) ?_
        refine lv_icmp_ne (tgt := 44) hx hb dX6_move_38 (by decide) (fun c12 => ?_) (fun c12 => ?_)
        · replace h := h.2 c12
          refine lv_aload_n hx hb dX6_move_44 rfl (lv_at hl 1 rfl) ?_
          refine lv_iconst (v := 1) hx hb dX6_move_45 (by decide) ?_
          refine lv_iload_n hx hb dX6_move_46 rfl (lv_at hl 2 rfl) ?_
          refine lv_iload_n hx hb dX6_move_47 rfl (lv_at hl 3 rfl) ?_
          refine f_v (kV (As := [.int 1, .int x1, .int x2]) (rest := []) (o := some x0) rfl ⟨hx, hb, hml, hown, hts⟩ (c_X6_does l D cs ad x0 1 x1 x2 s4 _ hk0) (cwV 3 hts gX6_move_X6_does rfl rfl rfl (by decide +kernel) ⟨Nat.le_of_ble_eq_true rfl, Nat.le_of_ble_eq_true rfl⟩) hE hP rfl rfl (w_5 hE hk0) h rfl hl.1 rfl (by first | exact lv_room (Nat.le_of_ble_eq_true rfl) | (refine lv_room ?_; simp [re_cat, cat_i, cat_l, cat_r])) dX6_move_48 ⟨Nat.le_refl _, Nat.le_refl _⟩) hS (fun s13 H locs h hP hS => ?_)
          refine lv_iload_n hx hb dX6_move_51 rfl (lv_at hl 0 rfl) ?_
          exact W.iret hx hb hr (fun t ht hW => ⟨⟨_, _, rfl, h, pw ht hP⟩, hS.F ht⟩) hS.2.2 dX6_move_52
        · replace h := h.1 c12
          refine lv_bipush (v := (-2)) hx hb dX6_move_41 (by decide) ?_
          exact W.iret hx hb hr (fun t ht hW => ⟨⟨_, _, rfl, h, pw ht hP⟩, hS.F ht⟩) hS.2.2 dX6_move_43
      · replace h := h.1 c11
        refine lv_bipush (v := (-4)) hx hb dX6_move_29 (by decide) ?_
        exact W.iret hx hb hr (fun t ht hW => ⟨⟨_, _, rfl, h, pw ht hP⟩, hS.F ht⟩) hS.2.2 dX6_move_31
    · replace h := h.1 c6
      refine lv_iconst (v := (-1)) hx hb dX6_move_15 (by decide) ?_
      exact W.iret hx hb hr (fun t ht hW => ⟨⟨_, _, rfl, h, pw ht hP⟩, hS.F ht⟩) hS.2.2 dX6_move_16
def p_X6_dyke (x0 : Nat) (x1 : Int32) (s : Sg) (Q : Int32 → Sg → Prop) : Prop := p_X6_isPlace x1 s (fun r2 s1 => ((r2 = 0 → Q ((-1)) s1) ∧ (¬ r2 = 0 → (((gI s1 x0 20) = 0 → Q ((-4)) s1) ∧ (¬ (gI s1 x0 20) = 0 → ∃ k5, tM x0 29 = some k5 ∧ kM k5 = 7 ∧ vp_in x1 (lM k5) ∧ (((gR s1 k5 x1.toNatClampNeg) = 9 → Q ((-4)) s1) ∧ (¬ (gR s1 k5 x1.toNatClampNeg) = 9 → (((gI s1 x0 30) = 0 → Q ((-6)) s1) ∧ (¬ (gI s1 x0 30) = 0 → (((gI s1 x0 36) = 40 → Q ((-2)) s1) ∧ (¬ (gI s1 x0 36) = 40 → p_X6_does x0 2 x1 0 s1 (fun s12 => ∃ k13, tM x0 29 = some k13 ∧ kM k13 = 7 ∧ vp_in x1 (lM k13) ∧ Q (gR s12 k13 x1.toNatClampNeg) s12))))))))))))
set_option maxHeartbeats 4000000 in
set_option maxRecDepth 100000 in
theorem c_X6_dyke (l : Launch) (D : va_G) (cs : Cs) (ad : Nat → Nat) (x0 : Nat) (x1 : Int32) (s0 : Sg) (Q : Int32 → Sg → Prop) (hk0 : kM x0 = 5) : Met l yX6_dyke wsX6_dyke { frames := 5, cells := 0, slots := 0, locals := 119 } (Pc0 bM D cs ad [.ref (ad x0), .int x1] s0 (p_X6_dyke x0 x1 s0 Q)) (QI bM D cs ad Q) 0 0 (fAd bM ad) := by
  refine Met.ofW (cc := cX6_dyke) (maxL := 2) (ret := (some .int)) (by decide) rfl ?_
  intro p e s m args below meth c s₁ B0 hml hv
  obtain ⟨ha, hP, hE, h⟩ := hv
  have hx := B0.exec
  have hb := B0.bytes
  have hr := B0.returns
  have hts := atoms_spec (ws := wsX6_dyke) B0.pre
  have hown : s.vm.findClass RX6 = some m.cls := findClass_of_methodNamed B0.named
  have hlocks := B0.notSynchronized
  have hi_X6 : ∀ w ∈ u_ws RX6 TX6 42, w ∈ wsX6_dyke := by decide +kernel
  have hS : va_S (fAd bM ad) s.heap s.heap [] := va_S.rf
  have hl := lv_entry ([.ref (ad x0), .int x1]) (n := 2) (by first | exact Nat.le_of_ble_eq_true rfl | simp [lg_sl, re_cat, cat_i, cat_l, cat_r])
  rw [show entryFrame m args 2 = entryFrame m ([.ref (ad x0), .int x1] : List Value).toArray 2 by rw [ha], lg_entry_eq]
  generalize (lg_sl ([.ref (ad x0), .int x1]) ++ List.replicate (2 - (lg_sl ([.ref (ad x0), .int x1])).length) Slot.unset).toArray = ls at hl ⊢
  have hl : lv_has ls 2 [(0, .ref (ad x0)), (1, .int x1)] := by first | exact hl | simpa [lv_args, re_cat, cat_i, cat_l, cat_r] using hl
  unfold p_X6_dyke at h
  refine lv_iload_n hx hb dX6_dyke_0 rfl (lv_at hl 1 rfl) ?_
  refine f_i (kS (As := [.int x1]) (rest := []) ⟨hx, hb, hml, hown, hts⟩ (c_X6_isPlace l D cs ad x1 s0 _) (va_cwS 1 hts gX6_dyke_X6_isPlace rfl rfl rfl (by decide +kernel) ⟨Nat.le_of_ble_eq_true rfl, Nat.le_of_ble_eq_true rfl⟩) hE hP h rfl hl.1 rfl (by first | exact lv_room (Nat.le_of_ble_eq_true rfl) | (refine lv_room ?_; simp [re_cat, cat_i, cat_l, cat_r])) dX6_dyke_1 ⟨Nat.le_refl _, Nat.le_refl _⟩) hS (fun r2 s1 H locs h hP hS => ?_)
  refine lv_if_ne (tgt := 9) hx hb dX6_dyke_4 (by decide) (fun c3 => ?_) (fun c3 => ?_)
  · replace h := h.2 c3
    refine lv_aload_n hx hb dX6_dyke_9 rfl (lv_at hl 0 rfl) ?_
    refine va_get (ci := 5) (v := .int (gI s1 x0 20)) (C := RX6) (T := TX6) (N := 42) hx hb hts hi_X6 hown hE.1 hP x0 (w_5 hE hk0) rfl 20 (by decide) (hts (.fieldLink RX6 167 "HemLineModel" "women" "I") (by decide +kernel)) (fun _ h9 => h9) rfl dX6_dyke_10 ?_
    refine lv_if_eq (tgt := 27) hx hb dX6_dyke_13 (by decide) (fun c4 => ?_) (fun c4 => ?_)
    · replace h := h.1 c4
      refine lv_bipush (v := (-4)) hx hb dX6_dyke_27 (by decide) ?_
      exact W.iret hx hb hr (fun t ht hW => ⟨⟨_, _, rfl, h, pw ht hP⟩, hS.F ht⟩) hS.2.2 dX6_dyke_29
    · replace h := h.2 c4
      refine lv_aload_n hx hb dX6_dyke_16 rfl (lv_at hl 0 rfl) ?_
      refine va_get (ci := 5) (v := va_re ad (tM x0 29)) (C := RX6) (T := TX6) (N := 42) hx hb hts hi_X6 hown hE.1 hP x0 (w_5 hE hk0) rfl 29 (by decide) (hts (.fieldLink RX6 65 "HemLineModel" "ground" "[I") (by decide +kernel)) (fun _ h9 => h9) rfl dX6_dyke_17 ?_
      refine lv_iload_n hx hb dX6_dyke_20 rfl (lv_at hl 1 rfl) ?_
      obtain ⟨k5, e6, q7, i8, h⟩ := h
      refine r_iald hx hb hE hP e6 q7 i8 dX6_dyke_21 ?_
      refine lv_bipush (v := 9) hx hb dX6_dyke_22 (by decide) ?_
      refine lv_icmp_ne (tgt := 30) hx hb dX6_dyke_24 (by decide) (fun c9 => ?_) (fun c9 => ?_)
      · replace h := h.2 c9
        refine lv_aload_n hx hb dX6_dyke_30 rfl (lv_at hl 0 rfl) ?_
        refine va_get (ci := 5) (v := .int (gI s1 x0 30)) (C := RX6) (T := TX6) (N := 42) hx hb hts hi_X6 hown hE.1 hP x0 (w_5 hE hk0) rfl 30 (by decide) (hts (.fieldLink RX6 196 "HemLineModel" "earth" "I") (by decide +kernel)) (fun _ h9 => h9) rfl dX6_dyke_31 ?_
        refine lv_if_ne (tgt := 40) hx hb dX6_dyke_34 (by decide) (fun c10 => ?_) (fun c10 => ?_)
        · replace h := h.2 c10
          refine lv_aload_n hx hb dX6_dyke_40 rfl (lv_at hl 0 rfl) ?_
          refine va_get (ci := 5) (v := .int (gI s1 x0 36)) (C := RX6) (T := TX6) (N := 42) hx hb hts hi_X6 hown hE.1 hP x0 (w_5 hE hk0) rfl 36 (by decide) (hts (.fieldLink RX6 173 "HemLineModel" "deeds" "I") (by decide +kernel)) (fun _ h9 => h9) rfl dX6_dyke_41 ?_
          refine lv_bipush (v := 40) hx hb dX6_dyke_44 (by decide) ?_
          refine lv_icmp_ne (tgt := 52) hx hb dX6_dyke_46 (by decide) (fun c11 => ?_) (fun c11 => ?_)
          · replace h := h.2 c11
            refine lv_aload_n hx hb dX6_dyke_52 rfl (lv_at hl 0 rfl) ?_
            refine lv_iconst (v := 2) hx hb dX6_dyke_53 (by decide) ?_
            refine lv_iload_n hx hb dX6_dyke_54 rfl (lv_at hl 1 rfl) ?_
            refine lv_iconst (v := 0) hx hb dX6_dyke_55 (by decide) ?_
            refine f_v (kV (As := [.int 2, .int x1, .int 0]) (rest := []) (o := some x0) rfl ⟨hx, hb, hml, hown, hts⟩ (c_X6_does l D cs ad x0 2 x1 0 s1 _ hk0) (cwV 3 hts gX6_dyke_X6_does rfl rfl rfl (by decide +kernel) ⟨Nat.le_of_ble_eq_true rfl, Nat.le_of_ble_eq_true rfl⟩) hE hP rfl rfl (w_5 hE hk0) h rfl hl.1 rfl (by first | exact lv_room (Nat.le_of_ble_eq_true rfl) | (refine lv_room ?_; simp [re_cat, cat_i, cat_l, cat_r])) dX6_dyke_56 ⟨Nat.le_refl _, Nat.le_refl _⟩) hS (fun s12 H locs h hP hS => ?_)
            refine lv_aload_n hx hb dX6_dyke_59 rfl (lv_at hl 0 rfl) ?_
            refine va_get (ci := 5) (v := va_re ad (tM x0 29)) (C := RX6) (T := TX6) (N := 42) hx hb hts hi_X6 hown hE.1 hP x0 (w_5 hE hk0) rfl 29 (by decide) (hts (.fieldLink RX6 65 "HemLineModel" "ground" "[I") (by decide +kernel)) (fun _ h9 => h9) rfl dX6_dyke_60 ?_
            refine lv_iload_n hx hb dX6_dyke_63 rfl (lv_at hl 1 rfl) ?_
            obtain ⟨k13, e14, q15, i16, h⟩ := h
            refine r_iald hx hb hE hP e14 q15 i16 dX6_dyke_64 ?_
            exact W.iret hx hb hr (fun t ht hW => ⟨⟨_, _, rfl, h, pw ht hP⟩, hS.F ht⟩) hS.2.2 dX6_dyke_65
          · replace h := h.1 c11
            refine lv_bipush (v := (-2)) hx hb dX6_dyke_49 (by decide) ?_
            exact W.iret hx hb hr (fun t ht hW => ⟨⟨_, _, rfl, h, pw ht hP⟩, hS.F ht⟩) hS.2.2 dX6_dyke_51
        · replace h := h.1 c10
          refine lv_bipush (v := (-6)) hx hb dX6_dyke_37 (by decide) ?_
          exact W.iret hx hb hr (fun t ht hW => ⟨⟨_, _, rfl, h, pw ht hP⟩, hS.F ht⟩) hS.2.2 dX6_dyke_39
      · replace h := h.1 c9
        refine lv_bipush (v := (-4)) hx hb dX6_dyke_27 (by decide) ?_
        exact W.iret hx hb hr (fun t ht hW => ⟨⟨_, _, rfl, h, pw ht hP⟩, hS.F ht⟩) hS.2.2 dX6_dyke_29
  · replace h := h.1 c3
    refine lv_iconst (v := (-1)) hx hb dX6_dyke_7 (by decide) ?_
    exact W.iret hx hb hr (fun t ht hW => ⟨⟨_, _, rfl, h, pw ht hP⟩, hS.F ht⟩) hS.2.2 dX6_dyke_8
def p_X6_tuck (x0 : Nat) (x1 : Int32) (s : Sg) (Q : Int32 → Sg → Prop) : Prop := p_X6_isWoman x0 x1 s (fun r2 s1 => ((r2 = 0 → Q ((-1)) s1) ∧ (¬ r2 = 0 → ∃ k4, tM x0 28 = some k4 ∧ kM k4 = 7 ∧ vp_in x1 (lM k4) ∧ (((gR s1 k4 x1.toNatClampNeg) = 3 → Q ((-4)) s1) ∧ (¬ (gR s1 k4 x1.toNatClampNeg) = 3 → (((gI s1 x0 36) = 40 → Q ((-2)) s1) ∧ (¬ (gI s1 x0 36) = 40 → p_X6_does x0 3 x1 0 s1 (fun s10 => ∃ k11, tM x0 28 = some k11 ∧ kM k11 = 7 ∧ vp_in x1 (lM k11) ∧ Q (gR s10 k11 x1.toNatClampNeg) s10))))))))
set_option maxHeartbeats 4000000 in
set_option maxRecDepth 100000 in
theorem c_X6_tuck (l : Launch) (D : va_G) (cs : Cs) (ad : Nat → Nat) (x0 : Nat) (x1 : Int32) (s0 : Sg) (Q : Int32 → Sg → Prop) (hk0 : kM x0 = 5) : Met l yX6_tuck wsX6_tuck { frames := 5, cells := 0, slots := 0, locals := 119 } (Pc0 bM D cs ad [.ref (ad x0), .int x1] s0 (p_X6_tuck x0 x1 s0 Q)) (QI bM D cs ad Q) 0 0 (fAd bM ad) := by
  refine Met.ofW (cc := cX6_tuck) (maxL := 2) (ret := (some .int)) (by decide) rfl ?_
  intro p e s m args below meth c s₁ B0 hml hv
  obtain ⟨ha, hP, hE, h⟩ := hv
  have hx := B0.exec
  have hb := B0.bytes
  have hr := B0.returns
  have hts := atoms_spec (ws := wsX6_tuck) B0.pre
  have hown : s.vm.findClass RX6 = some m.cls := findClass_of_methodNamed B0.named
  have hlocks := B0.notSynchronized
  have hi_X6 : ∀ w ∈ u_ws RX6 TX6 42, w ∈ wsX6_tuck := by decide +kernel
  have hS : va_S (fAd bM ad) s.heap s.heap [] := va_S.rf
  have hl := lv_entry ([.ref (ad x0), .int x1]) (n := 2) (by first | exact Nat.le_of_ble_eq_true rfl | simp [lg_sl, re_cat, cat_i, cat_l, cat_r])
  rw [show entryFrame m args 2 = entryFrame m ([.ref (ad x0), .int x1] : List Value).toArray 2 by rw [ha], lg_entry_eq]
  generalize (lg_sl ([.ref (ad x0), .int x1]) ++ List.replicate (2 - (lg_sl ([.ref (ad x0), .int x1])).length) Slot.unset).toArray = ls at hl ⊢
  have hl : lv_has ls 2 [(0, .ref (ad x0)), (1, .int x1)] := by first | exact hl | simpa [lv_args, re_cat, cat_i, cat_l, cat_r] using hl
  unfold p_X6_tuck at h
  refine lv_aload_n hx hb dX6_tuck_0 rfl (lv_at hl 0 rfl) ?_
  refine lv_iload_n hx hb dX6_tuck_1 rfl (lv_at hl 1 rfl) ?_
  refine f_i (kV (As := [.int x1]) (rest := []) (o := some x0) rfl ⟨hx, hb, hml, hown, hts⟩ (c_X6_isWoman l D cs ad x0 x1 s0 _ hk0) (cwV 1 hts gX6_tuck_X6_isWoman rfl rfl rfl (by decide +kernel) ⟨Nat.le_of_ble_eq_true rfl, Nat.le_of_ble_eq_true rfl⟩) hE hP rfl rfl (w_5 hE hk0) h rfl hl.1 rfl (by first | exact lv_room (Nat.le_of_ble_eq_true rfl) | (refine lv_room ?_; simp [re_cat, cat_i, cat_l, cat_r])) dX6_tuck_2 ⟨Nat.le_refl _, Nat.le_refl _⟩) hS (fun r2 s1 H locs h hP hS => ?_)
  refine lv_if_ne (tgt := 10) hx hb dX6_tuck_5 (by decide) (fun c3 => ?_) (fun c3 => ?_)
  · replace h := h.2 c3
    refine lv_aload_n hx hb dX6_tuck_10 rfl (lv_at hl 0 rfl) ?_
    refine va_get (ci := 5) (v := va_re ad (tM x0 28)) (C := RX6) (T := TX6) (N := 42) hx hb hts hi_X6 hown hE.1 hP x0 (w_5 hE hk0) rfl 28 (by decide) (hts (.fieldLink RX6 62 "HemLineModel" "tuck" "[I") (by decide +kernel)) (fun _ h9 => h9) rfl dX6_tuck_11 ?_
    refine lv_iload_n hx hb dX6_tuck_14 rfl (lv_at hl 1 rfl) ?_
    obtain ⟨k4, e5, q6, i7, h⟩ := h
    refine r_iald hx hb hE hP e5 q6 i7 dX6_tuck_15 ?_
    refine lv_iconst (v := 3) hx hb dX6_tuck_16 (by decide) ?_
    refine lv_icmp_ne (tgt := 23) hx hb dX6_tuck_17 (by decide) (fun c8 => ?_) (fun c8 => ?_)
    · replace h := h.2 c8
      refine lv_aload_n hx hb dX6_tuck_23 rfl (lv_at hl 0 rfl) ?_
      refine va_get (ci := 5) (v := .int (gI s1 x0 36)) (C := RX6) (T := TX6) (N := 42) hx hb hts hi_X6 hown hE.1 hP x0 (w_5 hE hk0) rfl 36 (by decide) (hts (.fieldLink RX6 173 "HemLineModel" "deeds" "I") (by decide +kernel)) (fun _ h9 => h9) rfl dX6_tuck_24 ?_
      refine lv_bipush (v := 40) hx hb dX6_tuck_27 (by decide) ?_
      refine lv_icmp_ne (tgt := 35) hx hb dX6_tuck_29 (by decide) (fun c9 => ?_) (fun c9 => ?_)
      · replace h := h.2 c9
        refine lv_aload_n hx hb dX6_tuck_35 rfl (lv_at hl 0 rfl) ?_
        refine lv_iconst (v := 3) hx hb dX6_tuck_36 (by decide) ?_
        refine lv_iload_n hx hb dX6_tuck_37 rfl (lv_at hl 1 rfl) ?_
        refine lv_iconst (v := 0) hx hb dX6_tuck_38 (by decide) ?_
        refine f_v (kV (As := [.int 3, .int x1, .int 0]) (rest := []) (o := some x0) rfl ⟨hx, hb, hml, hown, hts⟩ (c_X6_does l D cs ad x0 3 x1 0 s1 _ hk0) (cwV 3 hts gX6_tuck_X6_does rfl rfl rfl (by decide +kernel) ⟨Nat.le_of_ble_eq_true rfl, Nat.le_of_ble_eq_true rfl⟩) hE hP rfl rfl (w_5 hE hk0) h rfl hl.1 rfl (by first | exact lv_room (Nat.le_of_ble_eq_true rfl) | (refine lv_room ?_; simp [re_cat, cat_i, cat_l, cat_r])) dX6_tuck_39 ⟨Nat.le_refl _, Nat.le_refl _⟩) hS (fun s10 H locs h hP hS => ?_)
        refine lv_aload_n hx hb dX6_tuck_42 rfl (lv_at hl 0 rfl) ?_
        refine va_get (ci := 5) (v := va_re ad (tM x0 28)) (C := RX6) (T := TX6) (N := 42) hx hb hts hi_X6 hown hE.1 hP x0 (w_5 hE hk0) rfl 28 (by decide) (hts (.fieldLink RX6 62 "HemLineModel" "tuck" "[I") (by decide +kernel)) (fun _ h9 => h9) rfl dX6_tuck_43 ?_
        refine lv_iload_n hx hb dX6_tuck_46 rfl (lv_at hl 1 rfl) ?_
        obtain ⟨k11, e12, q13, i14, h⟩ := h
        refine r_iald hx hb hE hP e12 q13 i14 dX6_tuck_47 ?_
        exact W.iret hx hb hr (fun t ht hW => ⟨⟨_, _, rfl, h, pw ht hP⟩, hS.F ht⟩) hS.2.2 dX6_tuck_48
      · replace h := h.1 c9
        refine lv_bipush (v := (-2)) hx hb dX6_tuck_32 (by decide) ?_
        exact W.iret hx hb hr (fun t ht hW => ⟨⟨_, _, rfl, h, pw ht hP⟩, hS.F ht⟩) hS.2.2 dX6_tuck_34
    · replace h := h.1 c8
      refine lv_bipush (v := (-4)) hx hb dX6_tuck_20 (by decide) ?_
      exact W.iret hx hb hr (fun t ht hW => ⟨⟨_, _, rfl, h, pw ht hP⟩, hS.F ht⟩) hS.2.2 dX6_tuck_22
  · replace h := h.1 c3
    refine lv_iconst (v := (-1)) hx hb dX6_tuck_8 (by decide) ?_
    exact W.iret hx hb hr (fun t ht hW => ⟨⟨_, _, rfl, h, pw ht hP⟩, hS.F ht⟩) hS.2.2 dX6_tuck_9
def p_X6_undo (x0 : Nat) (x1 : Int32) (s : Sg) (Q : Int32 → Sg → Prop) : Prop := p_X6_in x1 0 (gI s x0 36) s (fun r2 s1 => ((r2 = 0 → Q ((-1)) s1) ∧ (¬ r2 = 0 → p_X6_goThrough x0 (setI s1 x0 36 x1) (fun s4 => Q ((gI s1 x0 36) - x1) s4))))
set_option maxHeartbeats 4000000 in
set_option maxRecDepth 100000 in
theorem c_X6_undo (l : Launch) (D : va_G) (cs : Cs) (ad : Nat → Nat) (x0 : Nat) (x1 : Int32) (s0 : Sg) (Q : Int32 → Sg → Prop) (hk0 : kM x0 = 5) : Met l yX6_undo wsX6_undo { frames := 5, cells := 0, slots := 0, locals := 117 } (Pc0 bM D cs ad [.ref (ad x0), .int x1] s0 (p_X6_undo x0 x1 s0 Q)) (QI bM D cs ad Q) 0 0 (fAd bM ad) := by
  refine Met.ofW (cc := cX6_undo) (maxL := 3) (ret := (some .int)) (by decide) rfl ?_
  intro p e s m args below meth c s₁ B0 hml hv
  obtain ⟨ha, hP, hE, h⟩ := hv
  have hx := B0.exec
  have hb := B0.bytes
  have hr := B0.returns
  have hts := atoms_spec (ws := wsX6_undo) B0.pre
  have hown : s.vm.findClass RX6 = some m.cls := findClass_of_methodNamed B0.named
  have hlocks := B0.notSynchronized
  have hi_X6 : ∀ w ∈ u_ws RX6 TX6 42, w ∈ wsX6_undo := by decide +kernel
  have hS : va_S (fAd bM ad) s.heap s.heap [] := va_S.rf
  have hl := lv_entry ([.ref (ad x0), .int x1]) (n := 3) (by first | exact Nat.le_of_ble_eq_true rfl | simp [lg_sl, re_cat, cat_i, cat_l, cat_r])
  rw [show entryFrame m args 3 = entryFrame m ([.ref (ad x0), .int x1] : List Value).toArray 3 by rw [ha], lg_entry_eq]
  generalize (lg_sl ([.ref (ad x0), .int x1]) ++ List.replicate (3 - (lg_sl ([.ref (ad x0), .int x1])).length) Slot.unset).toArray = ls at hl ⊢
  have hl : lv_has ls 3 [(0, .ref (ad x0)), (1, .int x1)] := by first | exact hl | simpa [lv_args, re_cat, cat_i, cat_l, cat_r] using hl
  unfold p_X6_undo at h
  refine lv_iload_n hx hb dX6_undo_0 rfl (lv_at hl 1 rfl) ?_
  refine lv_iconst (v := 0) hx hb dX6_undo_1 (by decide) ?_
  refine lv_aload_n hx hb dX6_undo_2 rfl (lv_at hl 0 rfl) ?_
  refine va_get (ci := 5) (v := .int (gI s0 x0 36)) (C := RX6) (T := TX6) (N := 42) hx hb hts hi_X6 hown hE.1 hP x0 (w_5 hE hk0) rfl 36 (by decide) (hts (.fieldLink RX6 173 "HemLineModel" "deeds" "I") (by decide +kernel)) (fun _ h9 => h9) rfl dX6_undo_3 ?_
  refine f_i (kS (As := [.int x1, .int 0, .int (gI s0 x0 36)]) (rest := []) ⟨hx, hb, hml, hown, hts⟩ (c_X6_in l D cs ad x1 0 (gI s0 x0 36) s0 _) (va_cwS 3 hts gX6_undo_X6_in rfl rfl rfl (by decide +kernel) ⟨Nat.le_of_ble_eq_true rfl, Nat.le_of_ble_eq_true rfl⟩) hE hP h rfl hl.1 rfl (by first | exact lv_room (Nat.le_of_ble_eq_true rfl) | (refine lv_room ?_; simp [re_cat, cat_i, cat_l, cat_r])) dX6_undo_6 ⟨Nat.le_refl _, Nat.le_refl _⟩) hS (fun r2 s1 H locs h hP hS => ?_)
  refine lv_if_ne (tgt := 14) hx hb dX6_undo_9 (by decide) (fun c3 => ?_) (fun c3 => ?_)
  · replace h := h.2 c3
    refine lv_aload_n hx hb dX6_undo_14 rfl (lv_at hl 0 rfl) ?_
    refine va_get (ci := 5) (v := .int (gI s1 x0 36)) (C := RX6) (T := TX6) (N := 42) hx hb hts hi_X6 hown hE.1 hP x0 (w_5 hE hk0) rfl 36 (by decide) (hts (.fieldLink RX6 173 "HemLineModel" "deeds" "I") (by decide +kernel)) (fun _ h9 => h9) rfl dX6_undo_15 ?_
    refine lv_iload_n hx hb dX6_undo_18 rfl (lv_at hl 1 rfl) ?_
    refine lv_isub hx hb dX6_undo_19 ?_
    refine lv_istore_n (i := 2) (lv' := [(2, .int ((gI s1 x0 36) - x1)), (0, .ref (ad x0)), (1, .int x1)]) hx hb dX6_undo_20 rfl hl (by decide) (by first | rfl | simp [re_cat, cat_i, cat_l, cat_r]) (fun ls hl => ?_)
    refine lv_aload_n hx hb dX6_undo_21 rfl (lv_at hl 1 rfl) ?_
    refine lv_iload_n hx hb dX6_undo_22 rfl (lv_at hl 2 rfl) ?_
    refine r_put (σ' := (setI s1 x0 36 x1)) (ci := 5) (v := .int x1) (ty := .int) (C := RX6) (T := TX6) (N := 42) hx hb hts hi_X6 tyX6 tyX6_ok nmX6 hown hE hP hS x0 (w_5 hE hk0) rfl 36 (by decide) (hts (.fieldLink RX6 173 "HemLineModel" "deeds" "I") (by decide +kernel)) (fun _ h9 => h9) rfl (by decide +kernel) rfl rfl (Nat.le_of_ble_eq_true rfl) dX6_undo_23 (st_5_36 hE hk0 _) (fun H locs hP hS => ?_)
    refine lv_aload_n hx hb dX6_undo_26 rfl (lv_at hl 1 rfl) ?_
    refine f_v (kV (As := []) (rest := []) (o := some x0) rfl ⟨hx, hb, hml, hown, hts⟩ (c_X6_goThrough l D cs ad x0 (setI s1 x0 36 x1) _ hk0) (cwV 0 hts gX6_undo_X6_goThrough rfl rfl rfl (by decide +kernel) ⟨Nat.le_of_ble_eq_true rfl, Nat.le_of_ble_eq_true rfl⟩) hE hP rfl rfl (w_5 hE hk0) h rfl hl.1 rfl (by first | exact lv_room (Nat.le_of_ble_eq_true rfl) | (refine lv_room ?_; simp [re_cat, cat_i, cat_l, cat_r])) dX6_undo_27 ⟨Nat.le_refl _, Nat.le_refl _⟩) hS (fun s4 H locs h hP hS => ?_)
    refine lv_iload_n hx hb dX6_undo_30 rfl (lv_at hl 0 rfl) ?_
    exact W.iret hx hb hr (fun t ht hW => ⟨⟨_, _, rfl, h, pw ht hP⟩, hS.F ht⟩) hS.2.2 dX6_undo_31
  · replace h := h.1 c3
    refine lv_iconst (v := (-1)) hx hb dX6_undo_12 (by decide) ?_
    exact W.iret hx hb hr (fun t ht hW => ⟨⟨_, _, rfl, h, pw ht hP⟩, hS.F ht⟩) hS.2.2 dX6_undo_13
def p_X6_keep_L33 (Q : Int32 → Sg → Prop)  : Nat → Nat → Int32 → Int32 → Sg → Prop
  | 0, _, _, _, _ => False
  | n + 1, x0, x1, x2, s => ((120 ≤ x2 → Q (gI s x0 36) s) ∧ (¬ 120 ≤ x2 → ∃ k2, tM x0 37 = some k2 ∧ kM k2 = 7 ∧ vp_in x2 (lM k2) ∧ ∃ k6, tM x0 39 = some k6 ∧ kM k6 = 7 ∧ vp_in ((120 * x1) + x2) (lM k6) ∧ p_X6_keep_L33 Q  n x0 x1 (x2 + 1) (setR s k6 (upd (gR s k6) ((120 * x1) + x2).toNatClampNeg (gR s k2 x2.toNatClampNeg)))))
def p_X6_keep (x0 : Nat) (x1 : Int32) (s : Sg) (Q : Int32 → Sg → Prop) : Prop := p_X6_in x1 0 2 s (fun r2 s1 => ((r2 = 0 → Q ((-1)) s1) ∧ (¬ r2 = 0 → (((gI s1 x0 20) = 0 → Q ((-4)) s1) ∧ (¬ (gI s1 x0 20) = 0 → ∃ k5, tM x0 38 = some k5 ∧ kM k5 = 7 ∧ vp_in x1 (lM k5) ∧ (∃ n9, p_X6_keep_L33 Q  n9 x0 x1 0 (setR s1 k5 (upd (gR s1 k5) x1.toNatClampNeg (gI s1 x0 36)))))))))
set_option maxHeartbeats 4000000 in
set_option maxRecDepth 100000 in
theorem c_X6_keep (l : Launch) (D : va_G) (cs : Cs) (ad : Nat → Nat) (x0 : Nat) (x1 : Int32) (s0 : Sg) (Q : Int32 → Sg → Prop) (hk0 : kM x0 = 5) : Met l yX6_keep wsX6_keep { frames := 1, cells := 0, slots := 0, locals := 22 } (Pc0 bM D cs ad [.ref (ad x0), .int x1] s0 (p_X6_keep x0 x1 s0 Q)) (QI bM D cs ad Q) 0 0 (fAd bM ad) := by
  refine Met.ofW (cc := cX6_keep) (maxL := 3) (ret := (some .int)) (by decide) rfl ?_
  intro p e s m args below meth c s₁ B0 hml hv
  obtain ⟨ha, hP, hE, h⟩ := hv
  have hx := B0.exec
  have hb := B0.bytes
  have hr := B0.returns
  have hts := atoms_spec (ws := wsX6_keep) B0.pre
  have hown : s.vm.findClass RX6 = some m.cls := findClass_of_methodNamed B0.named
  have hlocks := B0.notSynchronized
  have hi_X6 : ∀ w ∈ u_ws RX6 TX6 42, w ∈ wsX6_keep := by decide +kernel
  have hS : va_S (fAd bM ad) s.heap s.heap [] := va_S.rf
  have hl := lv_entry ([.ref (ad x0), .int x1]) (n := 3) (by first | exact Nat.le_of_ble_eq_true rfl | simp [lg_sl, re_cat, cat_i, cat_l, cat_r])
  rw [show entryFrame m args 3 = entryFrame m ([.ref (ad x0), .int x1] : List Value).toArray 3 by rw [ha], lg_entry_eq]
  generalize (lg_sl ([.ref (ad x0), .int x1]) ++ List.replicate (3 - (lg_sl ([.ref (ad x0), .int x1])).length) Slot.unset).toArray = ls at hl ⊢
  have hl : lv_has ls 3 [(0, .ref (ad x0)), (1, .int x1)] := by first | exact hl | simpa [lv_args, re_cat, cat_i, cat_l, cat_r] using hl
  have hB33 : ∀ (n33 : Nat) (x1 : Int32) (x2 : Int32) (σ : Sg) (H : Heap) (locs : List Loc) (ls : Array Slot), p_X6_keep_L33 Q  n33 x0 x1 x2 σ → va_P D vwCl (wl bM cs ad σ) H → va_S (fAd bM ad) s.heap H locs → lv_has ls 3 [(0, .ref (ad x0)), (1, .int x1), (2, .int x2)] → W p l e { frames := 1, cells := 0, slots := 0, locals := 22 } s m args below meth c H locs 0 0 (MQ below (QI bM D cs ad Q) args s 0 0 (fAd bM ad)) (F0 m 33 ls []) := by
    intro n33
    induction n33 with
    | zero =>
      intro x1 x2 σ H locs ls h
      exact h.elim
    | succ n33 ih =>
      have hK33 := ih
      intro x1 x2 σ H locs ls h hP hS hl
      rw [p_X6_keep_L33] at h
      refine lv_iload_n hx hb dX6_keep_33 rfl (lv_at hl 2 rfl) ?_
      refine lv_bipush (v := 120) hx hb dX6_keep_34 (by decide) ?_
      refine lv_icmp_ge (tgt := 62) hx hb dX6_keep_36 (by decide) (fun c1 => ?_) (fun c1 => ?_)
      · replace h := h.1 c1
        refine lv_aload_n hx hb dX6_keep_62 rfl (lv_at hl 0 rfl) ?_
        refine va_get (ci := 5) (v := .int (gI σ x0 36)) (C := RX6) (T := TX6) (N := 42) hx hb hts hi_X6 hown hE.1 hP x0 (w_5 hE hk0) rfl 36 (by decide) (hts (.fieldLink RX6 173 "HemLineModel" "deeds" "I") (by decide +kernel)) (fun _ h9 => h9) rfl dX6_keep_63 ?_
        exact W.iret hx hb hr (fun t ht hW => ⟨⟨_, _, rfl, h, pw ht hP⟩, hS.F ht⟩) hS.2.2 dX6_keep_66
      · replace h := h.2 c1
        refine lv_aload_n hx hb dX6_keep_39 rfl (lv_at hl 0 rfl) ?_
        refine va_get (ci := 5) (v := va_re ad (tM x0 39)) (C := RX6) (T := TX6) (N := 42) hx hb hts hi_X6 hown hE.1 hP x0 (w_5 hE hk0) rfl 39 (by decide) (hts (.fieldLink RX6 86 "HemLineModel" "keptDeed" "[I") (by decide +kernel)) (fun _ h9 => h9) rfl dX6_keep_40 ?_
        refine lv_bipush (v := 120) hx hb dX6_keep_43 (by decide) ?_
        refine lv_iload_n hx hb dX6_keep_45 rfl (lv_at hl 1 rfl) ?_
        refine lv_imul hx hb dX6_keep_46 ?_
        refine lv_iload_n hx hb dX6_keep_47 rfl (lv_at hl 2 rfl) ?_
        refine lv_iadd hx hb dX6_keep_48 ?_
        refine lv_aload_n hx hb dX6_keep_49 rfl (lv_at hl 0 rfl) ?_
        refine va_get (ci := 5) (v := va_re ad (tM x0 37)) (C := RX6) (T := TX6) (N := 42) hx hb hts hi_X6 hown hE.1 hP x0 (w_5 hE hk0) rfl 37 (by decide) (hts (.fieldLink RX6 80 "HemLineModel" "deed" "[I") (by decide +kernel)) (fun _ h9 => h9) rfl dX6_keep_50 ?_
        refine lv_iload_n hx hb dX6_keep_53 rfl (lv_at hl 2 rfl) ?_
        obtain ⟨k2, e3, q4, i5, h⟩ := h
        refine r_iald hx hb hE hP e3 q4 i5 dX6_keep_54 ?_
        obtain ⟨k6, e7, q8, i9, h⟩ := h
        refine r_iast hx hb hE hP hS e7 q8 i9 dX6_keep_55 (fun H locs hP hS => ?_)
        refine lv_iinc (v := x2 + 1) (lv' := [(2, .int (x2 + 1)), (0, .ref (ad x0)), (1, .int x1)]) hx hb dX6_keep_56 hl (k := 2) rfl rfl (by decide) (by first | rfl | simp [re_cat, cat_i, cat_l, cat_r]) (fun ls hl => ?_)
        refine lv_goto (tgt := 33) hx hb dX6_keep_59 (by decide) ?_
        exact ih x1 (x2 + 1) (setR σ k6 (upd (gR σ k6) ((120 * x1) + x2).toNatClampNeg (gR σ k2 x2.toNatClampNeg))) H locs ls h hP hS (lv_sub hl [1, 2, 0] rfl)
  unfold p_X6_keep at h
  refine lv_iload_n hx hb dX6_keep_0 rfl (lv_at hl 1 rfl) ?_
  refine lv_iconst (v := 0) hx hb dX6_keep_1 (by decide) ?_
  refine lv_iconst (v := 2) hx hb dX6_keep_2 (by decide) ?_
  refine f_i (kS (As := [.int x1, .int 0, .int 2]) (rest := []) ⟨hx, hb, hml, hown, hts⟩ (c_X6_in l D cs ad x1 0 2 s0 _) (va_cwS 3 hts gX6_keep_X6_in rfl rfl rfl (by decide +kernel) ⟨Nat.le_of_ble_eq_true rfl, Nat.le_of_ble_eq_true rfl⟩) hE hP h rfl hl.1 rfl (by first | exact lv_room (Nat.le_of_ble_eq_true rfl) | (refine lv_room ?_; simp [re_cat, cat_i, cat_l, cat_r])) dX6_keep_3 ⟨Nat.le_refl _, Nat.le_refl _⟩) hS (fun r2 s1 H locs h hP hS => ?_)
  refine lv_if_ne (tgt := 11) hx hb dX6_keep_6 (by decide) (fun c3 => ?_) (fun c3 => ?_)
  · replace h := h.2 c3
    refine lv_aload_n hx hb dX6_keep_11 rfl (lv_at hl 0 rfl) ?_
    refine va_get (ci := 5) (v := .int (gI s1 x0 20)) (C := RX6) (T := TX6) (N := 42) hx hb hts hi_X6 hown hE.1 hP x0 (w_5 hE hk0) rfl 20 (by decide) (hts (.fieldLink RX6 167 "HemLineModel" "women" "I") (by decide +kernel)) (fun _ h9 => h9) rfl dX6_keep_12 ?_
    refine lv_if_ne (tgt := 21) hx hb dX6_keep_15 (by decide) (fun c4 => ?_) (fun c4 => ?_)
    · replace h := h.2 c4
      refine lv_aload_n hx hb dX6_keep_21 rfl (lv_at hl 0 rfl) ?_
      refine va_get (ci := 5) (v := va_re ad (tM x0 38)) (C := RX6) (T := TX6) (N := 42) hx hb hts hi_X6 hown hE.1 hP x0 (w_5 hE hk0) rfl 38 (by decide) (hts (.fieldLink RX6 83 "HemLineModel" "keptDeeds" "[I") (by decide +kernel)) (fun _ h9 => h9) rfl dX6_keep_22 ?_
      refine lv_iload_n hx hb dX6_keep_25 rfl (lv_at hl 1 rfl) ?_
      refine lv_aload_n hx hb dX6_keep_26 rfl (lv_at hl 0 rfl) ?_
      refine va_get (ci := 5) (v := .int (gI s1 x0 36)) (C := RX6) (T := TX6) (N := 42) hx hb hts hi_X6 hown hE.1 hP x0 (w_5 hE hk0) rfl 36 (by decide) (hts (.fieldLink RX6 173 "HemLineModel" "deeds" "I") (by decide +kernel)) (fun _ h9 => h9) rfl dX6_keep_27 ?_
      obtain ⟨k5, e6, q7, i8, h⟩ := h
      refine r_iast hx hb hE hP hS e6 q7 i8 dX6_keep_30 (fun H locs hP hS => ?_)
      refine lv_iconst (v := 0) hx hb dX6_keep_31 (by decide) ?_
      refine lv_istore_n (i := 2) (lv' := [(2, .int 0), (0, .ref (ad x0)), (1, .int x1)]) hx hb dX6_keep_32 rfl hl (by decide) (by first | rfl | simp [re_cat, cat_i, cat_l, cat_r]) (fun ls hl => ?_)
      obtain ⟨n9, h⟩ := h
      exact hB33 n9 x1 0 (setR s1 k5 (upd (gR s1 k5) x1.toNatClampNeg (gI s1 x0 36))) _ _ ls h hP hS (lv_sub hl [1, 2, 0] rfl)
    · replace h := h.1 c4
      refine lv_bipush (v := (-4)) hx hb dX6_keep_18 (by decide) ?_
      exact W.iret hx hb hr (fun t ht hW => ⟨⟨_, _, rfl, h, pw ht hP⟩, hS.F ht⟩) hS.2.2 dX6_keep_20
  · replace h := h.1 c3
    refine lv_iconst (v := (-1)) hx hb dX6_keep_9 (by decide) ?_
    exact W.iret hx hb hr (fun t ht hW => ⟨⟨_, _, rfl, h, pw ht hP⟩, hS.F ht⟩) hS.2.2 dX6_keep_10
