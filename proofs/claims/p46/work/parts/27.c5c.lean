def p_X5_oneMoreAlike (x0 : Nat) (x1 : Int32) (s : Sg) (Q : Int32 → Sg → Prop) : Prop := p_X5_item (tX x0 6) x1 s (fun r2 s1 => p_X5_setItem (tX x0 6) x1 (r2 + 1) s1 (fun s3 => Q (r2 + 1) s3))
set_option maxHeartbeats 4000000 in
set_option maxRecDepth 100000 in
theorem c_X5_oneMoreAlike (l : Launch) (D : va_G) (cs : Cs) (ad : Nat → Nat) (x0 : Nat) (x1 : Int32) (s0 : Sg) (Q : Int32 → Sg → Prop) (hk0 : kX x0 = 4) : Met l yX5_oneMoreAlike wsX5_oneMoreAlike { frames := 1, cells := 0, slots := 0, locals := 22 } (Pc0 bX D cs ad [.ref (ad x0), .int x1] s0 (p_X5_oneMoreAlike x0 x1 s0 Q)) (QI bX D cs ad Q) 0 0 (fAd bX ad) := by
  refine Met.ofW (cc := cX5_oneMoreAlike) (maxL := 3) (ret := (some .int)) (by decide) rfl ?_
  intro p e s m args below meth c s₁ B0 hml hv
  obtain ⟨ha, hP, hE, h⟩ := hv
  have hx := B0.exec
  have hb := B0.bytes
  have hr := B0.returns
  have hts := atoms_spec (ws := wsX5_oneMoreAlike) B0.pre
  have hown : s.vm.findClass RX5 = some m.cls := findClass_of_methodNamed B0.named
  have hlocks := B0.notSynchronized
  have hi_X5 : ∀ w ∈ u_ws RX5 TX5 12, w ∈ wsX5_oneMoreAlike := by decide +kernel
  have hS : va_S (fAd bX ad) s.heap s.heap [] := va_S.rf
  have hl := lv_entry ([.ref (ad x0), .int x1]) (n := 3) (by first | exact Nat.le_of_ble_eq_true rfl | simp [lg_sl, re_cat, cat_i, cat_l, cat_r])
  rw [show entryFrame m args 3 = entryFrame m ([.ref (ad x0), .int x1] : List Value).toArray 3 by rw [ha], lg_entry_eq]
  generalize (lg_sl ([.ref (ad x0), .int x1]) ++ List.replicate (3 - (lg_sl ([.ref (ad x0), .int x1])).length) Slot.unset).toArray = ls at hl ⊢
  have hl : lv_has ls 3 [(0, .ref (ad x0)), (1, .int x1)] := by first | exact hl | simpa [lv_args, re_cat, cat_i, cat_l, cat_r] using hl
  unfold p_X5_oneMoreAlike at h
  refine lv_aload_n hx hb dX5_oneMoreAlike_0 rfl (lv_at hl 0 rfl) ?_
  refine va_get (ci := 4) (v := va_re ad (tX x0 6)) (C := RX5) (T := TX5) (N := 12) hx hb hts hi_X5 hown hE.1 hP x0 (w_4 hE hk0) rfl 6 (by decide) (hts (.fieldLink RX5 48 "HemLine" "tally" "[I") (by decide +kernel)) (fun _ h9 => h9) rfl dX5_oneMoreAlike_1 ?_
  refine lv_iload_n hx hb dX5_oneMoreAlike_4 rfl (lv_at hl 1 rfl) ?_
  refine f_i (kS (As := [va_re ad (tX x0 6), .int x1]) (rest := []) ⟨hx, hb, hml, hown, hts⟩ (c_X5_item l D cs ad (tX x0 6) x1 s0 _) (va_cwS 2 hts gX5_oneMoreAlike_X5_item rfl rfl rfl (by decide +kernel) ⟨Nat.le_of_ble_eq_true rfl, Nat.le_of_ble_eq_true rfl⟩) hE hP h rfl hl.1 rfl (by first | exact lv_room (Nat.le_of_ble_eq_true rfl) | (refine lv_room ?_; simp [re_cat, cat_i, cat_l, cat_r])) dX5_oneMoreAlike_5 ⟨Nat.le_refl _, Nat.le_refl _⟩) hS (fun r2 s1 H locs h hP hS => ?_)
  refine lv_iconst (v := 1) hx hb dX5_oneMoreAlike_8 (by decide) ?_
  refine lv_iadd hx hb dX5_oneMoreAlike_9 ?_
  refine lv_istore_n (i := 2) (lv' := [(2, .int (r2 + 1)), (0, .ref (ad x0)), (1, .int x1)]) hx hb dX5_oneMoreAlike_10 rfl hl (by decide) (by first | rfl | simp [re_cat, cat_i, cat_l, cat_r]) (fun ls hl => ?_)
  refine lv_aload_n hx hb dX5_oneMoreAlike_11 rfl (lv_at hl 1 rfl) ?_
  refine va_get (ci := 4) (v := va_re ad (tX x0 6)) (C := RX5) (T := TX5) (N := 12) hx hb hts hi_X5 hown hE.1 hP x0 (w_4 hE hk0) rfl 6 (by decide) (hts (.fieldLink RX5 48 "HemLine" "tally" "[I") (by decide +kernel)) (fun _ h9 => h9) rfl dX5_oneMoreAlike_12 ?_
  refine lv_iload_n hx hb dX5_oneMoreAlike_15 rfl (lv_at hl 2 rfl) ?_
  refine lv_iload_n hx hb dX5_oneMoreAlike_16 rfl (lv_at hl 0 rfl) ?_
  refine f_v (kS (As := [va_re ad (tX x0 6), .int x1, .int (r2 + 1)]) (rest := []) ⟨hx, hb, hml, hown, hts⟩ (c_X5_setItem l D cs ad (tX x0 6) x1 (r2 + 1) s1 _) (va_cwS 3 hts gX5_oneMoreAlike_X5_setItem rfl rfl rfl (by decide +kernel) ⟨Nat.le_of_ble_eq_true rfl, Nat.le_of_ble_eq_true rfl⟩) hE hP h rfl hl.1 rfl (by first | exact lv_room (Nat.le_of_ble_eq_true rfl) | (refine lv_room ?_; simp [re_cat, cat_i, cat_l, cat_r])) dX5_oneMoreAlike_17 ⟨Nat.le_refl _, Nat.le_refl _⟩) hS (fun s3 H locs h hP hS => ?_)
  refine lv_iload_n hx hb dX5_oneMoreAlike_20 rfl (lv_at hl 0 rfl) ?_
  exact W.iret hx hb hr (fun t ht hW => ⟨⟨_, _, rfl, h, pw ht hP⟩, hS.F ht⟩) hS.2.2 dX5_oneMoreAlike_21
def p_X5_greatestPartOfHeights_b63 (Q : Int32 → Sg → Prop) (K14 : Nat → Int32 → Int32 → Int32 → Int32 → Int32 → Sg → Prop) (x0 : Nat) (x1 : Int32) (x2 : Int32) (x3 : Int32) (x4 : Int32) (x5 : Int32) (s : Sg) : Prop := K14 x0 x1 x2 x3 x4 (x5 + 1) s
def p_X5_greatestPartOfHeights_L14 (Q : Int32 → Sg → Prop)  : Nat → Nat → Int32 → Int32 → Int32 → Int32 → Int32 → Sg → Prop
  | 0, _, _, _, _, _, _, _ => False
  | n + 1, x0, x1, x2, x3, x4, x5, s => ((20 < x5 → Q x4 s) ∧ (¬ 20 < x5 → p_X5_hasBit x3 x5 s (fun r3 s2 => ((r3 = 0 → p_X5_greatestPartOfHeights_b63 Q (fun y0 y1 y2 y3 y4 y5 u => p_X5_greatestPartOfHeights_L14 Q  n y0 y1 y2 y3 y4 y5 u) x0 x1 x2 x3 x4 x5 s2) ∧ (¬ r3 = 0 → ∃ k5, tX x0 3 = some k5 ∧ kX k5 = 0 ∧ p_X5_item (tX k5 5) x1 s2 (fun r9 s8 => ∃ k10, tX x0 3 = some k10 ∧ kX k10 = 0 ∧ p_X0_hemIfThen k10 x1 x2 x5 r9 s8 (fun r14 s13 => p_X5_oneMoreAlike x0 r14 s13 (fun r16 s15 => p_X5_greatestPartOfHeights_b63 Q (fun y0 y1 y2 y3 y4 y5 u => p_X5_greatestPartOfHeights_L14 Q  n y0 y1 y2 y3 y4 y5 u) x0 x1 x2 x3 ((if x4 < r16 then r16 else x4)) x5 s15))))))))
def p_X5_greatestPartOfHeights (x0 : Nat) (x1 : Int32) (x2 : Int32) (x3 : Int32) (s : Sg) (Q : Int32 → Sg → Prop) : Prop := p_J7_fill_53178 bX (tX x0 6) 0 s (fun s1 => (∃ n2, p_X5_greatestPartOfHeights_L14 Q  n2 x0 x1 x2 x3 0 0 s1))
set_option maxHeartbeats 4000000 in
set_option maxRecDepth 100000 in
theorem c_X5_greatestPartOfHeights (l : Launch) (D : va_G) (cs : Cs) (ad : Nat → Nat) (x0 : Nat) (x1 : Int32) (x2 : Int32) (x3 : Int32) (s0 : Sg) (Q : Int32 → Sg → Prop) (hk0 : kX x0 = 4) : Met l yX5_greatestPartOfHeights wsX5_greatestPartOfHeights { frames := 3, cells := 0, slots := 0, locals := 72 } (Pc0 bX D cs ad [.ref (ad x0), .int x1, .int x2, .int x3] s0 (p_X5_greatestPartOfHeights x0 x1 x2 x3 s0 Q)) (QI bX D cs ad Q) 0 0 (fAd bX ad) := by
  refine Met.ofW (cc := cX5_greatestPartOfHeights) (maxL := 6) (ret := (some .int)) (by decide) rfl ?_
  intro p e s m args below meth c s₁ B0 hml hv
  obtain ⟨ha, hP, hE, h⟩ := hv
  have hx := B0.exec
  have hb := B0.bytes
  have hr := B0.returns
  have hts := atoms_spec (ws := wsX5_greatestPartOfHeights) B0.pre
  have hown : s.vm.findClass RX5 = some m.cls := findClass_of_methodNamed B0.named
  have hlocks := B0.notSynchronized
  have hi_X0 : ∀ w ∈ u_ws RX0 TX0 15, w ∈ wsX5_greatestPartOfHeights := by decide +kernel
  have hi_X5 : ∀ w ∈ u_ws RX5 TX5 12, w ∈ wsX5_greatestPartOfHeights := by decide +kernel
  have hS : va_S (fAd bX ad) s.heap s.heap [] := va_S.rf
  have hl := lv_entry ([.ref (ad x0), .int x1, .int x2, .int x3]) (n := 6) (by first | exact Nat.le_of_ble_eq_true rfl | simp [lg_sl, re_cat, cat_i, cat_l, cat_r])
  rw [show entryFrame m args 6 = entryFrame m ([.ref (ad x0), .int x1, .int x2, .int x3] : List Value).toArray 6 by rw [ha], lg_entry_eq]
  generalize (lg_sl ([.ref (ad x0), .int x1, .int x2, .int x3]) ++ List.replicate (6 - (lg_sl ([.ref (ad x0), .int x1, .int x2, .int x3])).length) Slot.unset).toArray = ls at hl ⊢
  have hl : lv_has ls 6 [(0, .ref (ad x0)), (1, .int x1), (2, .int x2), (3, .int x3)] := by first | exact hl | simpa [lv_args, re_cat, cat_i, cat_l, cat_r] using hl
  have hB14 : ∀ (n14 : Nat) (x1 : Int32) (x2 : Int32) (x3 : Int32) (x4 : Int32) (x5 : Int32) (σ : Sg) (H : Heap) (locs : List Loc) (ls : Array Slot), p_X5_greatestPartOfHeights_L14 Q  n14 x0 x1 x2 x3 x4 x5 σ → va_P D vwCl (wl bX cs ad σ) H → va_S (fAd bX ad) s.heap H locs → lv_has ls 6 [(0, .ref (ad x0)), (1, .int x1), (2, .int x2), (3, .int x3), (4, .int x4), (5, .int x5)] → W p l e { frames := 3, cells := 0, slots := 0, locals := 72 } s m args below meth c H locs 0 0 (MQ below (QI bX D cs ad Q) args s 0 0 (fAd bX ad)) (F0 m 14 ls []) := by
    intro n14
    induction n14 with
    | zero =>
      intro x1 x2 x3 x4 x5 σ H locs ls h
      exact h.elim
    | succ n14 ih =>
      have hK14 := ih
      have hB63 : ∀ (x1 : Int32) (x2 : Int32) (x3 : Int32) (x4 : Int32) (x5 : Int32) (σ : Sg) (H : Heap) (locs : List Loc) (ls : Array Slot), p_X5_greatestPartOfHeights_b63 Q (fun y0 y1 y2 y3 y4 y5 u => p_X5_greatestPartOfHeights_L14 Q  n14 y0 y1 y2 y3 y4 y5 u) x0 x1 x2 x3 x4 x5 σ → va_P D vwCl (wl bX cs ad σ) H → va_S (fAd bX ad) s.heap H locs → lv_has ls 6 [(0, .ref (ad x0)), (1, .int x1), (2, .int x2), (3, .int x3), (4, .int x4), (5, .int x5)] → W p l e { frames := 3, cells := 0, slots := 0, locals := 72 } s m args below meth c H locs 0 0 (MQ below (QI bX D cs ad Q) args s 0 0 (fAd bX ad)) (F0 m 63 ls []) := by
        intro x1 x2 x3 x4 x5 σ H locs ls h hP hS hl
        unfold p_X5_greatestPartOfHeights_b63 at h
        refine lv_iinc (v := x5 + 1) (lv' := [(5, .int (x5 + 1)), (0, .ref (ad x0)), (1, .int x1), (2, .int x2), (3, .int x3), (4, .int x4)]) hx hb dX5_greatestPartOfHeights_63 hl (k := 5) rfl rfl (by decide) (by first | rfl | simp [re_cat, cat_i, cat_l, cat_r]) (fun ls hl => ?_)
        refine lv_goto (tgt := 14) hx hb dX5_greatestPartOfHeights_66 (by decide) ?_
        exact hK14 x1 x2 x3 x4 (x5 + 1) σ H locs ls h hP hS (lv_sub hl [1, 2, 3, 4, 5, 0] rfl)
      intro x1 x2 x3 x4 x5 σ H locs ls h hP hS hl
      rw [p_X5_greatestPartOfHeights_L14] at h
      refine lv_iload hx hb dX5_greatestPartOfHeights_14 (lv_at hl 5 rfl) ?_
      refine lv_bipush (v := 20) hx hb dX5_greatestPartOfHeights_16 (by decide) ?_
      refine lv_icmp_gt (tgt := 69) hx hb dX5_greatestPartOfHeights_18 (by decide) (fun c1 => ?_) (fun c1 => ?_)
      · replace h := h.1 c1
        refine lv_iload hx hb dX5_greatestPartOfHeights_69 (lv_at hl 4 rfl) ?_
        exact W.iret hx hb hr (fun t ht hW => ⟨⟨_, _, rfl, h, pw ht hP⟩, hS.F ht⟩) hS.2.2 dX5_greatestPartOfHeights_71
      · replace h := h.2 c1
        refine lv_iload_n hx hb dX5_greatestPartOfHeights_21 rfl (lv_at hl 3 rfl) ?_
        refine lv_iload hx hb dX5_greatestPartOfHeights_22 (lv_at hl 5 rfl) ?_
        refine f_i (kS (As := [.int x3, .int x5]) (rest := []) ⟨hx, hb, hml, hown, hts⟩ (c_X5_hasBit l D cs ad x3 x5 σ _) (va_cwS 2 hts gX5_greatestPartOfHeights_X5_hasBit rfl rfl rfl (by decide +kernel) ⟨Nat.le_of_ble_eq_true rfl, Nat.le_of_ble_eq_true rfl⟩) hE hP h rfl hl.1 rfl (by first | exact lv_room (Nat.le_of_ble_eq_true rfl) | (refine lv_room ?_; simp [re_cat, cat_i, cat_l, cat_r])) dX5_greatestPartOfHeights_24 ⟨Nat.le_refl _, Nat.le_refl _⟩) hS (fun r3 s2 H locs h hP hS => ?_)
        refine lv_if_eq (tgt := 63) hx hb dX5_greatestPartOfHeights_27 (by decide) (fun c4 => ?_) (fun c4 => ?_)
        · replace h := h.1 c4
          exact hB63 x1 x2 x3 x4 x5 s2 H locs ls h hP hS (lv_sub hl [0, 1, 2, 3, 4, 5] rfl)
        · replace h := h.2 c4
          refine lv_iload hx hb dX5_greatestPartOfHeights_30 (lv_at hl 4 rfl) ?_
          refine lv_aload_n hx hb dX5_greatestPartOfHeights_32 rfl (lv_at hl 0 rfl) ?_
          refine lv_aload_n hx hb dX5_greatestPartOfHeights_33 rfl (lv_at hl 0 rfl) ?_
          refine va_get (ci := 4) (v := va_re ad (tX x0 3)) (C := RX5) (T := TX5) (N := 12) hx hb hts hi_X5 hown hE.1 hP x0 (w_4 hE hk0) rfl 3 (by decide) (hts (.fieldLink RX5 33 "HemLine" "now" "LHemLine$Delta;") (by decide +kernel)) (fun _ h9 => h9) rfl dX5_greatestPartOfHeights_34 ?_
          refine lv_iload_n hx hb dX5_greatestPartOfHeights_37 rfl (lv_at hl 1 rfl) ?_
          refine lv_iload_n hx hb dX5_greatestPartOfHeights_38 rfl (lv_at hl 2 rfl) ?_
          refine lv_iload hx hb dX5_greatestPartOfHeights_39 (lv_at hl 5 rfl) ?_
          refine lv_aload_n hx hb dX5_greatestPartOfHeights_41 rfl (lv_at hl 0 rfl) ?_
          refine va_get (ci := 4) (v := va_re ad (tX x0 3)) (C := RX5) (T := TX5) (N := 12) hx hb hts hi_X5 hown hE.1 hP x0 (w_4 hE hk0) rfl 3 (by decide) (hts (.fieldLink RX5 33 "HemLine" "now" "LHemLine$Delta;") (by decide +kernel)) (fun _ h9 => h9) rfl dX5_greatestPartOfHeights_42 ?_
          obtain ⟨k5, e6, q7, h⟩ := h
          refine r_known (ad := ad) e6 ?_
          refine va_getN (ci := 0) (v := va_re ad (tX k5 5)) (C := RX0) (T := TX0) (N := 15) hx hb hts hi_X0 hown hE.1 hP k5 (w_0 hE q7) rfl 5 (by decide) ((hE.2.2.2.1 ("HemLine", 135, "HemLine$Delta", "kindOf", "[I", "HemLine") (by decide +kernel)).use rfl) (fun _ h9 => h9) rfl dX5_greatestPartOfHeights_45 ?_
          refine lv_iload_n hx hb dX5_greatestPartOfHeights_48 rfl (lv_at hl 1 rfl) ?_
          refine f_i (kS (As := [va_re ad (tX k5 5), .int x1]) (rest := [.int x5, .int x2, .int x1, va_re ad (tX x0 3), .ref (ad x0), .int x4]) ⟨hx, hb, hml, hown, hts⟩ (c_X5_item l D cs ad (tX k5 5) x1 s2 _) (va_cwS 2 hts gX5_greatestPartOfHeights_X5_item rfl rfl rfl (by decide +kernel) ⟨Nat.le_of_ble_eq_true rfl, Nat.le_of_ble_eq_true rfl⟩) hE hP h rfl hl.1 rfl (by first | exact lv_room (Nat.le_of_ble_eq_true rfl) | (refine lv_room ?_; simp [re_cat, cat_i, cat_l, cat_r])) dX5_greatestPartOfHeights_49 ⟨Nat.le_refl _, Nat.le_refl _⟩) hS (fun r9 s8 H locs h hP hS => ?_)
          obtain ⟨k10, e11, q12, h⟩ := h
          refine f_i (kV (As := [.int x1, .int x2, .int x5, .int r9]) (rest := [.ref (ad x0), .int x4]) e11 ⟨hx, hb, hml, hown, hts⟩ (c_X0_hemIfThen l D cs ad k10 x1 x2 x5 r9 s8 _ q12) (cwV 4 hts gX5_greatestPartOfHeights_X0_hemIfThen rfl rfl rfl (by decide +kernel) ⟨Nat.le_of_ble_eq_true rfl, Nat.le_of_ble_eq_true rfl⟩) hE hP rfl rfl (w_0 hE q12) h rfl hl.1 rfl (by first | exact lv_room (Nat.le_of_ble_eq_true rfl) | (refine lv_room ?_; simp [re_cat, cat_i, cat_l, cat_r])) dX5_greatestPartOfHeights_52 ⟨Nat.le_refl _, Nat.le_refl _⟩) hS (fun r14 s13 H locs h hP hS => ?_)
          refine f_i (kV (As := [.int r14]) (rest := [.int x4]) (o := some x0) rfl ⟨hx, hb, hml, hown, hts⟩ (c_X5_oneMoreAlike l D cs ad x0 r14 s13 _ hk0) (cwV 1 hts gX5_greatestPartOfHeights_X5_oneMoreAlike rfl rfl rfl (by decide +kernel) ⟨Nat.le_of_ble_eq_true rfl, Nat.le_of_ble_eq_true rfl⟩) hE hP rfl rfl (w_4 hE hk0) h rfl hl.1 rfl (by first | exact lv_room (Nat.le_of_ble_eq_true rfl) | (refine lv_room ?_; simp [re_cat, cat_i, cat_l, cat_r])) dX5_greatestPartOfHeights_55 ⟨Nat.le_refl _, Nat.le_refl _⟩) hS (fun r16 s15 H locs h hP hS => ?_)
          refine va_mmax hx hb (hml.trans hl.1.symm) hown (hts (.methodLink RX5 266 Lib.Math.max.name) (by decide +kernel)) (hts (.static Lib.Math.max.name) (by decide +kernel)) (hts (.initialized "java/lang/Math") (by decide +kernel)) (hts (.code Lib.Math.max.name Lib.Math.max.code 2 (some .int)) (by decide +kernel)) (Nat.le_of_ble_eq_true rfl) (by first | exact Nat.le_of_ble_eq_true rfl | (simp only [List.map, re_cat, cat_i, cat_l, cat_r, List.sum_cons, List.sum_nil]; exact Nat.le_of_ble_eq_true rfl)) (Nat.le_refl _) (Nat.le_refl _) dX5_greatestPartOfHeights_58 ?_
          refine lv_istore (i := 4) (lv' := [(4, .int ((if x4 < r16 then r16 else x4))), (0, .ref (ad x0)), (1, .int x1), (2, .int x2), (3, .int x3), (5, .int x5)]) hx hb dX5_greatestPartOfHeights_61 hl (by decide) (by first | rfl | simp [re_cat, cat_i, cat_l, cat_r]) (fun ls hl => ?_)
          exact hB63 x1 x2 x3 ((if x4 < r16 then r16 else x4)) x5 s15 H locs ls h hP hS (lv_sub hl [1, 2, 3, 4, 0, 5] rfl)
  unfold p_X5_greatestPartOfHeights at h
  refine lv_aload_n hx hb dX5_greatestPartOfHeights_0 rfl (lv_at hl 0 rfl) ?_
  refine va_get (ci := 4) (v := va_re ad (tX x0 6)) (C := RX5) (T := TX5) (N := 12) hx hb hts hi_X5 hown hE.1 hP x0 (w_4 hE hk0) rfl 6 (by decide) (hts (.fieldLink RX5 48 "HemLine" "tally" "[I") (by decide +kernel)) (fun _ h9 => h9) rfl dX5_greatestPartOfHeights_1 ?_
  refine lv_iconst (v := 0) hx hb dX5_greatestPartOfHeights_4 (by decide) ?_
  refine f_v (kS (As := [va_re ad (tX x0 6), .int 0]) (rest := []) ⟨hx, hb, hml, hown, hts⟩ (c_J7_fill_53178 l bX D cs ad (tX x0 6) 0 s0 _) (va_cwS 2 hts gX5_greatestPartOfHeights_J7_fill_53178 rfl rfl rfl (by decide +kernel) ⟨Nat.le_of_ble_eq_true rfl, Nat.le_of_ble_eq_true rfl⟩) hE hP h rfl hl.1 rfl (by first | exact lv_room (Nat.le_of_ble_eq_true rfl) | (refine lv_room ?_; simp [re_cat, cat_i, cat_l, cat_r])) dX5_greatestPartOfHeights_5 ⟨Nat.le_refl _, Nat.le_refl _⟩) hS (fun s1 H locs h hP hS => ?_)
  refine lv_iconst (v := 0) hx hb dX5_greatestPartOfHeights_8 (by decide) ?_
  refine lv_istore (i := 4) (lv' := [(4, .int 0), (0, .ref (ad x0)), (1, .int x1), (2, .int x2), (3, .int x3)]) hx hb dX5_greatestPartOfHeights_9 hl (by decide) (by first | rfl | simp [re_cat, cat_i, cat_l, cat_r]) (fun ls hl => ?_)
  refine lv_iconst (v := 0) hx hb dX5_greatestPartOfHeights_11 (by decide) ?_
  refine lv_istore (i := 5) (lv' := [(5, .int 0), (4, .int 0), (0, .ref (ad x0)), (1, .int x1), (2, .int x2), (3, .int x3)]) hx hb dX5_greatestPartOfHeights_12 hl (by decide) (by first | rfl | simp [re_cat, cat_i, cat_l, cat_r]) (fun ls hl => ?_)
  obtain ⟨n2, h⟩ := h
  exact hB14 n2 x1 x2 x3 0 0 s1 _ _ ls h hP hS (lv_sub hl [2, 3, 4, 5, 1, 0] rfl)
def p_X5_look_b91 (Q : Int32 → Sg → Prop) (K38 : Nat → Int32 → Int32 → Int32 → Int32 → Int32 → Int32 → Sg → Prop) (x0 : Nat) (x1 : Int32) (x2 : Int32) (x3 : Int32) (x4 : Int32) (x5 : Int32) (x6 : Int32) (s : Sg) : Prop := K38 x0 x1 x2 x3 x4 x5 (x6 + 1) s
def p_X5_look_b83 (Q : Int32 → Sg → Prop) (K38 : Nat → Int32 → Int32 → Int32 → Int32 → Int32 → Int32 → Sg → Prop) (x0 : Nat) (x1 : Int32) (x2 : Int32) (x3 : Int32) (x6 : Int32) (x7 : Int32) (s : Sg) : Prop := p_X5_look_b91 Q K38 x0 x1 x2 x3 x6 x7 x6 s
def p_X5_look_L38 (Q : Int32 → Sg → Prop)  : Nat → Nat → Int32 → Int32 → Int32 → Int32 → Int32 → Int32 → Sg → Prop
  | 0, _, _, _, _, _, _, _, _ => False
  | n + 1, x0, x1, x2, x3, x4, x5, x6, s => ∃ k1, tX x0 3 = some k1 ∧ kX k1 = 0 ∧ (((gI s k1 0) ≤ x6 → ((x4 = ((-9)) → Q x4 s) ∧ (¬ x4 = ((-9)) → Q x4 (setI s x0 9 x5)))) ∧ (¬ (gI s k1 0) ≤ x6 → p_X5_hasBit x1 x6 s (fun r7 s6 => ((r7 = 0 → p_X5_greatestPartOfHeights x0 x6 x2 x3 s6 (fun r10 s9 => ((x4 = ((-9)) → p_X5_look_b83 Q (fun y0 y1 y2 y3 y4 y5 y6 u => p_X5_look_L38 Q  n y0 y1 y2 y3 y4 y5 y6 u) x0 x1 x2 x3 x6 r10 s9) ∧ (¬ x4 = ((-9)) → ((x5 ≤ r10 → p_X5_look_b91 Q (fun y0 y1 y2 y3 y4 y5 y6 u => p_X5_look_L38 Q  n y0 y1 y2 y3 y4 y5 y6 u) x0 x1 x2 x3 x4 x5 x6 s9) ∧ (¬ x5 ≤ r10 → p_X5_look_b83 Q (fun y0 y1 y2 y3 y4 y5 y6 u => p_X5_look_L38 Q  n y0 y1 y2 y3 y4 y5 y6 u) x0 x1 x2 x3 x6 r10 s9)))))) ∧ (¬ r7 = 0 → p_X5_look_b91 Q (fun y0 y1 y2 y3 y4 y5 y6 u => p_X5_look_L38 Q  n y0 y1 y2 y3 y4 y5 y6 u) x0 x1 x2 x3 x4 x5 x6 s6)))))
def p_X5_look (x0 : Nat) (x1 : Int32) (x2 : Int32) (s : Sg) (Q : Int32 → Sg → Prop) : Prop := p_X5_isSet x0 x1 s (fun r2 s1 => ((r2 = 0 → Q ((-1)) s1) ∧ (¬ r2 = 0 → p_X5_isPast x0 x2 s1 (fun r5 s4 => ((r5 = 0 → Q ((-1)) s4) ∧ (¬ r5 = 0 → ∃ k7, tX x0 3 = some k7 ∧ kX k7 = 0 ∧ p_X0_knownBy k7 x1 x2 s4 (fun r11 s10 => (∃ n12, p_X5_look_L38 Q  n12 x0 x1 x2 r11 ((-9)) 0 0 s10))))))))
set_option maxHeartbeats 4000000 in
set_option maxRecDepth 100000 in
theorem c_X5_look (l : Launch) (D : va_G) (cs : Cs) (ad : Nat → Nat) (x0 : Nat) (x1 : Int32) (x2 : Int32) (s0 : Sg) (Q : Int32 → Sg → Prop) (hk0 : kX x0 = 4) : Met l yX5_look wsX5_look { frames := 6, cells := 0, slots := 0, locals := 143 } (Pc0 bX D cs ad [.ref (ad x0), .int x1, .int x2] s0 (p_X5_look x0 x1 x2 s0 Q)) (QI bX D cs ad Q) 0 0 (fAd bX ad) := by
  refine Met.ofW (cc := cX5_look) (maxL := 8) (ret := (some .int)) (by decide) rfl ?_
  intro p e s m args below meth c s₁ B0 hml hv
  obtain ⟨ha, hP, hE, h⟩ := hv
  have hx := B0.exec
  have hb := B0.bytes
  have hr := B0.returns
  have hts := atoms_spec (ws := wsX5_look) B0.pre
  have hown : s.vm.findClass RX5 = some m.cls := findClass_of_methodNamed B0.named
  have hlocks := B0.notSynchronized
  have hi_X0 : ∀ w ∈ u_ws RX0 TX0 15, w ∈ wsX5_look := by decide +kernel
  have hi_X5 : ∀ w ∈ u_ws RX5 TX5 12, w ∈ wsX5_look := by decide +kernel
  have hS : va_S (fAd bX ad) s.heap s.heap [] := va_S.rf
  have hl := lv_entry ([.ref (ad x0), .int x1, .int x2]) (n := 8) (by first | exact Nat.le_of_ble_eq_true rfl | simp [lg_sl, re_cat, cat_i, cat_l, cat_r])
  rw [show entryFrame m args 8 = entryFrame m ([.ref (ad x0), .int x1, .int x2] : List Value).toArray 8 by rw [ha], lg_entry_eq]
  generalize (lg_sl ([.ref (ad x0), .int x1, .int x2]) ++ List.replicate (8 - (lg_sl ([.ref (ad x0), .int x1, .int x2])).length) Slot.unset).toArray = ls at hl ⊢
  have hl : lv_has ls 8 [(0, .ref (ad x0)), (1, .int x1), (2, .int x2)] := by first | exact hl | simpa [lv_args, re_cat, cat_i, cat_l, cat_r] using hl
  have hB38 : ∀ (n38 : Nat) (x1 : Int32) (x2 : Int32) (x3 : Int32) (x4 : Int32) (x5 : Int32) (x6 : Int32) (σ : Sg) (H : Heap) (locs : List Loc) (ls : Array Slot), p_X5_look_L38 Q  n38 x0 x1 x2 x3 x4 x5 x6 σ → va_P D vwCl (wl bX cs ad σ) H → va_S (fAd bX ad) s.heap H locs → lv_has ls 8 [(0, .ref (ad x0)), (1, .int x1), (2, .int x2), (3, .int x3), (4, .int x4), (5, .int x5), (6, .int x6)] → W p l e { frames := 6, cells := 0, slots := 0, locals := 143 } s m args below meth c H locs 0 0 (MQ below (QI bX D cs ad Q) args s 0 0 (fAd bX ad)) (F0 m 38 ls []) := by
    intro n38
    induction n38 with
    | zero =>
      intro x1 x2 x3 x4 x5 x6 σ H locs ls h
      exact h.elim
    | succ n38 ih =>
      have hK38 := ih
      have hB91 : ∀ (x1 : Int32) (x2 : Int32) (x3 : Int32) (x4 : Int32) (x5 : Int32) (x6 : Int32) (σ : Sg) (H : Heap) (locs : List Loc) (ls : Array Slot), p_X5_look_b91 Q (fun y0 y1 y2 y3 y4 y5 y6 u => p_X5_look_L38 Q  n38 y0 y1 y2 y3 y4 y5 y6 u) x0 x1 x2 x3 x4 x5 x6 σ → va_P D vwCl (wl bX cs ad σ) H → va_S (fAd bX ad) s.heap H locs → lv_has ls 8 [(0, .ref (ad x0)), (1, .int x1), (2, .int x2), (3, .int x3), (4, .int x4), (5, .int x5), (6, .int x6)] → W p l e { frames := 6, cells := 0, slots := 0, locals := 143 } s m args below meth c H locs 0 0 (MQ below (QI bX D cs ad Q) args s 0 0 (fAd bX ad)) (F0 m 91 ls []) := by
        intro x1 x2 x3 x4 x5 x6 σ H locs ls h hP hS hl
        unfold p_X5_look_b91 at h
        refine lv_iinc (v := x6 + 1) (lv' := [(6, .int (x6 + 1)), (0, .ref (ad x0)), (1, .int x1), (2, .int x2), (3, .int x3), (4, .int x4), (5, .int x5)]) hx hb dX5_look_91 hl (k := 6) rfl rfl (by decide) (by first | rfl | simp [re_cat, cat_i, cat_l, cat_r]) (fun ls hl => ?_)
        refine lv_goto (tgt := 38) hx hb dX5_look_94 (by decide) ?_
        exact hK38 x1 x2 x3 x4 x5 (x6 + 1) σ H locs ls h hP hS (lv_sub hl [1, 2, 3, 4, 5, 6, 0] rfl)
      have hB83 : ∀ (x1 : Int32) (x2 : Int32) (x3 : Int32) (x6 : Int32) (x7 : Int32) (σ : Sg) (H : Heap) (locs : List Loc) (ls : Array Slot), p_X5_look_b83 Q (fun y0 y1 y2 y3 y4 y5 y6 u => p_X5_look_L38 Q  n38 y0 y1 y2 y3 y4 y5 y6 u) x0 x1 x2 x3 x6 x7 σ → va_P D vwCl (wl bX cs ad σ) H → va_S (fAd bX ad) s.heap H locs → lv_has ls 8 [(0, .ref (ad x0)), (1, .int x1), (2, .int x2), (3, .int x3), (6, .int x6), (7, .int x7)] → W p l e { frames := 6, cells := 0, slots := 0, locals := 143 } s m args below meth c H locs 0 0 (MQ below (QI bX D cs ad Q) args s 0 0 (fAd bX ad)) (F0 m 83 ls []) := by
        intro x1 x2 x3 x6 x7 σ H locs ls h hP hS hl
        unfold p_X5_look_b83 at h
        refine lv_iload hx hb dX5_look_83 (lv_at hl 4 rfl) ?_
        refine lv_istore (i := 4) (lv' := [(4, .int x6), (0, .ref (ad x0)), (1, .int x1), (2, .int x2), (3, .int x3), (6, .int x6), (7, .int x7)]) hx hb dX5_look_85 hl (by decide) (by first | rfl | simp [re_cat, cat_i, cat_l, cat_r]) (fun ls hl => ?_)
        refine lv_iload hx hb dX5_look_87 (lv_at hl 6 rfl) ?_
        refine lv_istore (i := 5) (lv' := [(5, .int x7), (4, .int x6), (0, .ref (ad x0)), (1, .int x1), (2, .int x2), (3, .int x3), (6, .int x6), (7, .int x7)]) hx hb dX5_look_89 hl (by decide) (by first | rfl | simp [re_cat, cat_i, cat_l, cat_r]) (fun ls hl => ?_)
        exact hB91 x1 x2 x3 x6 x7 x6 σ H locs ls h hP hS (lv_sub hl [2, 3, 4, 5, 1, 0, 6] rfl)
      intro x1 x2 x3 x4 x5 x6 σ H locs ls h hP hS hl
      rw [p_X5_look_L38] at h
      refine lv_iload hx hb dX5_look_38 (lv_at hl 6 rfl) ?_
      refine lv_aload_n hx hb dX5_look_40 rfl (lv_at hl 0 rfl) ?_
      refine va_get (ci := 4) (v := va_re ad (tX x0 3)) (C := RX5) (T := TX5) (N := 12) hx hb hts hi_X5 hown hE.1 hP x0 (w_4 hE hk0) rfl 3 (by decide) (hts (.fieldLink RX5 33 "HemLine" "now" "LHemLine$Delta;") (by decide +kernel)) (fun _ h9 => h9) rfl dX5_look_41 ?_
      obtain ⟨k1, e2, q3, h⟩ := h
      refine r_known (ad := ad) e2 ?_
      refine va_getN (ci := 0) (v := .int (gI σ k1 0)) (C := RX0) (T := TX0) (N := 15) hx hb hts hi_X0 hown hE.1 hP k1 (w_0 hE q3) rfl 0 (by decide) ((hE.2.2.2.1 ("HemLine", 126, "HemLine$Delta", "women", "I", "HemLine") (by decide +kernel)).use rfl) (fun _ h9 => h9) rfl dX5_look_44 ?_
      refine lv_icmp_ge (tgt := 97) hx hb dX5_look_47 (by decide) (fun c4 => ?_) (fun c4 => ?_)
      · replace h := h.1 c4
        refine lv_iload hx hb dX5_look_97 (lv_at hl 4 rfl) ?_
        refine lv_bipush (v := (-9)) hx hb dX5_look_99 (by decide) ?_
        refine lv_icmp_eq (tgt := 110) hx hb dX5_look_101 (by decide) (fun c5 => ?_) (fun c5 => ?_)
        · replace h := h.1 c5
          refine lv_iload hx hb dX5_look_110 (lv_at hl 4 rfl) ?_
          exact W.iret hx hb hr (fun t ht hW => ⟨⟨_, _, rfl, h, pw ht hP⟩, hS.F ht⟩) hS.2.2 dX5_look_112
        · replace h := h.2 c5
          refine lv_aload_n hx hb dX5_look_104 rfl (lv_at hl 0 rfl) ?_
          refine lv_iload hx hb dX5_look_105 (lv_at hl 5 rfl) ?_
          refine r_put (σ' := (setI σ x0 9 x5)) (ci := 4) (v := .int x5) (ty := .int) (C := RX5) (T := TX5) (N := 12) hx hb hts hi_X5 tyX5 tyX5_ok nmX5 hown hE hP hS x0 (w_4 hE hk0) rfl 9 (by decide) (hts (.fieldLink RX5 71 "HemLine" "told" "I") (by decide +kernel)) (fun _ h9 => h9) rfl (by decide +kernel) rfl rfl (Nat.le_of_ble_eq_true rfl) dX5_look_107 (st_4_9 hE hk0 _) (fun H locs hP hS => ?_)
          refine lv_iload hx hb dX5_look_110 (lv_at hl 4 rfl) ?_
          exact W.iret hx hb hr (fun t ht hW => ⟨⟨_, _, rfl, h, pw ht hP⟩, hS.F ht⟩) hS.2.2 dX5_look_112
      · replace h := h.2 c4
        refine lv_iload_n hx hb dX5_look_50 rfl (lv_at hl 1 rfl) ?_
        refine lv_iload hx hb dX5_look_51 (lv_at hl 6 rfl) ?_
        refine f_i (kS (As := [.int x1, .int x6]) (rest := []) ⟨hx, hb, hml, hown, hts⟩ (c_X5_hasBit l D cs ad x1 x6 σ _) (va_cwS 2 hts gX5_look_X5_hasBit rfl rfl rfl (by decide +kernel) ⟨Nat.le_of_ble_eq_true rfl, Nat.le_of_ble_eq_true rfl⟩) hE hP h rfl hl.1 rfl (by first | exact lv_room (Nat.le_of_ble_eq_true rfl) | (refine lv_room ?_; simp [re_cat, cat_i, cat_l, cat_r])) dX5_look_53 ⟨Nat.le_refl _, Nat.le_refl _⟩) hS (fun r7 s6 H locs h hP hS => ?_)
        refine lv_if_ne (tgt := 91) hx hb dX5_look_56 (by decide) (fun c8 => ?_) (fun c8 => ?_)
        · replace h := h.2 c8
          exact hB91 x1 x2 x3 x4 x5 x6 s6 H locs ls h hP hS (lv_sub hl [0, 1, 2, 3, 4, 5, 6] rfl)
        · replace h := h.1 c8
          refine lv_aload_n hx hb dX5_look_59 rfl (lv_at hl 0 rfl) ?_
          refine lv_iload hx hb dX5_look_60 (lv_at hl 6 rfl) ?_
          refine lv_iload_n hx hb dX5_look_62 rfl (lv_at hl 2 rfl) ?_
          refine lv_iload_n hx hb dX5_look_63 rfl (lv_at hl 3 rfl) ?_
          refine f_i (kV (As := [.int x6, .int x2, .int x3]) (rest := []) (o := some x0) rfl ⟨hx, hb, hml, hown, hts⟩ (c_X5_greatestPartOfHeights l D cs ad x0 x6 x2 x3 s6 _ hk0) (cwV 3 hts gX5_look_X5_greatestPartOfHeights rfl rfl rfl (by decide +kernel) ⟨Nat.le_of_ble_eq_true rfl, Nat.le_of_ble_eq_true rfl⟩) hE hP rfl rfl (w_4 hE hk0) h rfl hl.1 rfl (by first | exact lv_room (Nat.le_of_ble_eq_true rfl) | (refine lv_room ?_; simp [re_cat, cat_i, cat_l, cat_r])) dX5_look_64 ⟨Nat.le_refl _, Nat.le_refl _⟩) hS (fun r10 s9 H locs h hP hS => ?_)
          refine lv_istore (i := 7) (lv' := [(7, .int r10), (0, .ref (ad x0)), (1, .int x1), (2, .int x2), (3, .int x3), (4, .int x4), (5, .int x5), (6, .int x6)]) hx hb dX5_look_67 hl (by decide) (by first | rfl | simp [re_cat, cat_i, cat_l, cat_r]) (fun ls hl => ?_)
          refine lv_iload hx hb dX5_look_69 (lv_at hl 5 rfl) ?_
          refine lv_bipush (v := (-9)) hx hb dX5_look_71 (by decide) ?_
          refine lv_icmp_eq (tgt := 83) hx hb dX5_look_73 (by decide) (fun c11 => ?_) (fun c11 => ?_)
          · replace h := h.1 c11
            exact hB83 x1 x2 x3 x6 r10 s9 H locs ls h hP hS (lv_sub hl [1, 2, 3, 4, 7, 0] rfl)
          · replace h := h.2 c11
            refine lv_iload hx hb dX5_look_76 (lv_at hl 0 rfl) ?_
            refine lv_iload hx hb dX5_look_78 (lv_at hl 6 rfl) ?_
            refine lv_icmp_ge (tgt := 91) hx hb dX5_look_80 (by decide) (fun c12 => ?_) (fun c12 => ?_)
            · replace h := h.1 c12
              exact hB91 x1 x2 x3 x4 x5 x6 s9 H locs ls h hP hS (lv_sub hl [1, 2, 3, 4, 5, 6, 7] rfl)
            · replace h := h.2 c12
              exact hB83 x1 x2 x3 x6 r10 s9 H locs ls h hP hS (lv_sub hl [1, 2, 3, 4, 7, 0] rfl)
  unfold p_X5_look at h
  refine lv_aload_n hx hb dX5_look_0 rfl (lv_at hl 0 rfl) ?_
  refine lv_iload_n hx hb dX5_look_1 rfl (lv_at hl 1 rfl) ?_
  refine f_i (kV (As := [.int x1]) (rest := []) (o := some x0) rfl ⟨hx, hb, hml, hown, hts⟩ (c_X5_isSet l D cs ad x0 x1 s0 _ hk0) (cwV 1 hts gX5_look_X5_isSet rfl rfl rfl (by decide +kernel) ⟨Nat.le_of_ble_eq_true rfl, Nat.le_of_ble_eq_true rfl⟩) hE hP rfl rfl (w_4 hE hk0) h rfl hl.1 rfl (by first | exact lv_room (Nat.le_of_ble_eq_true rfl) | (refine lv_room ?_; simp [re_cat, cat_i, cat_l, cat_r])) dX5_look_2 ⟨Nat.le_refl _, Nat.le_refl _⟩) hS (fun r2 s1 H locs h hP hS => ?_)
  refine lv_if_eq (tgt := 16) hx hb dX5_look_5 (by decide) (fun c3 => ?_) (fun c3 => ?_)
  · replace h := h.1 c3
    refine lv_iconst (v := (-1)) hx hb dX5_look_16 (by decide) ?_
    exact W.iret hx hb hr (fun t ht hW => ⟨⟨_, _, rfl, h, pw ht hP⟩, hS.F ht⟩) hS.2.2 dX5_look_17
  · replace h := h.2 c3
    refine lv_aload_n hx hb dX5_look_8 rfl (lv_at hl 0 rfl) ?_
    refine lv_iload_n hx hb dX5_look_9 rfl (lv_at hl 2 rfl) ?_
    refine f_i (kV (As := [.int x2]) (rest := []) (o := some x0) rfl ⟨hx, hb, hml, hown, hts⟩ (c_X5_isPast l D cs ad x0 x2 s1 _ hk0) (cwV 1 hts gX5_look_X5_isPast rfl rfl rfl (by decide +kernel) ⟨Nat.le_of_ble_eq_true rfl, Nat.le_of_ble_eq_true rfl⟩) hE hP rfl rfl (w_4 hE hk0) h rfl hl.1 rfl (by first | exact lv_room (Nat.le_of_ble_eq_true rfl) | (refine lv_room ?_; simp [re_cat, cat_i, cat_l, cat_r])) dX5_look_10 ⟨Nat.le_refl _, Nat.le_refl _⟩) hS (fun r5 s4 H locs h hP hS => ?_)
    refine lv_if_ne (tgt := 18) hx hb dX5_look_13 (by decide) (fun c6 => ?_) (fun c6 => ?_)
    · replace h := h.2 c6
      refine lv_aload_n hx hb dX5_look_18 rfl (lv_at hl 0 rfl) ?_
      refine va_get (ci := 4) (v := va_re ad (tX x0 3)) (C := RX5) (T := TX5) (N := 12) hx hb hts hi_X5 hown hE.1 hP x0 (w_4 hE hk0) rfl 3 (by decide) (hts (.fieldLink RX5 33 "HemLine" "now" "LHemLine$Delta;") (by decide +kernel)) (fun _ h9 => h9) rfl dX5_look_19 ?_
      refine lv_iload_n hx hb dX5_look_22 rfl (lv_at hl 1 rfl) ?_
      refine lv_iload_n hx hb dX5_look_23 rfl (lv_at hl 2 rfl) ?_
      obtain ⟨k7, e8, q9, h⟩ := h
      refine f_i (kV (As := [.int x1, .int x2]) (rest := []) e8 ⟨hx, hb, hml, hown, hts⟩ (c_X0_knownBy l D cs ad k7 x1 x2 s4 _ q9) (cwV 2 hts gX5_look_X0_knownBy rfl rfl rfl (by decide +kernel) ⟨Nat.le_of_ble_eq_true rfl, Nat.le_of_ble_eq_true rfl⟩) hE hP rfl rfl (w_0 hE q9) h rfl hl.1 rfl (by first | exact lv_room (Nat.le_of_ble_eq_true rfl) | (refine lv_room ?_; simp [re_cat, cat_i, cat_l, cat_r])) dX5_look_24 ⟨Nat.le_refl _, Nat.le_refl _⟩) hS (fun r11 s10 H locs h hP hS => ?_)
      refine lv_istore_n (i := 3) (lv' := [(3, .int r11), (0, .ref (ad x0)), (1, .int x1), (2, .int x2)]) hx hb dX5_look_27 rfl hl (by decide) (by first | rfl | simp [re_cat, cat_i, cat_l, cat_r]) (fun ls hl => ?_)
      refine lv_bipush (v := (-9)) hx hb dX5_look_28 (by decide) ?_
      refine lv_istore (i := 4) (lv' := [(4, .int ((-9))), (3, .int r11), (0, .ref (ad x0)), (1, .int x1), (2, .int x2)]) hx hb dX5_look_30 hl (by decide) (by first | rfl | simp [re_cat, cat_i, cat_l, cat_r]) (fun ls hl => ?_)
      refine lv_iconst (v := 0) hx hb dX5_look_32 (by decide) ?_
      refine lv_istore (i := 5) (lv' := [(5, .int 0), (4, .int ((-9))), (3, .int r11), (0, .ref (ad x0)), (1, .int x1), (2, .int x2)]) hx hb dX5_look_33 hl (by decide) (by first | rfl | simp [re_cat, cat_i, cat_l, cat_r]) (fun ls hl => ?_)
      refine lv_iconst (v := 0) hx hb dX5_look_35 (by decide) ?_
      refine lv_istore (i := 6) (lv' := [(6, .int 0), (5, .int 0), (4, .int ((-9))), (3, .int r11), (0, .ref (ad x0)), (1, .int x1), (2, .int x2)]) hx hb dX5_look_36 hl (by decide) (by first | rfl | simp [re_cat, cat_i, cat_l, cat_r]) (fun ls hl => ?_)
      obtain ⟨n12, h⟩ := h
      exact hB38 n12 x1 x2 r11 ((-9)) 0 0 s10 _ _ ls h hP hS (lv_sub hl [4, 5, 6, 3, 2, 1, 0] rfl)
    · replace h := h.1 c6
      refine lv_iconst (v := (-1)) hx hb dX5_look_16 (by decide) ?_
      exact W.iret hx hb hr (fun t ht hW => ⟨⟨_, _, rfl, h, pw ht hP⟩, hS.F ht⟩) hS.2.2 dX5_look_17
def p_X5_looks_b72 (Q : Int32 → Sg → Prop) (K31 : Nat → Int32 → Int32 → Int32 → Int32 → Sg → Prop) (x0 : Nat) (x1 : Int32) (x2 : Int32) (x3 : Int32) (x4 : Int32) (s : Sg) : Prop := K31 x0 x1 x2 x3 (x4 + 1) s
def p_X5_looks_L31 (Q : Int32 → Sg → Prop)  : Nat → Nat → Int32 → Int32 → Int32 → Int32 → Sg → Prop
  | 0, _, _, _, _, _, _ => False
  | n + 1, x0, x1, x2, x3, x4, s => ∃ k1, tX x0 3 = some k1 ∧ kX k1 = 0 ∧ p_X0_everyone k1 s (fun r5 s4 => ((r5 ≤ x4 → p_J6_bitCount_0f7a4 bX x2 (setI s4 x0 9 x2) (fun r8 s7 => Q r8 s7)) ∧ (¬ r5 ≤ x4 → p_J6_bitCount_0f7a4 bX x4 s4 (fun r10 s9 => p_J6_bitCount_0f7a4 bX x2 s9 (fun r12 s11 => ((r12 ≤ r10 → p_X5_looks_b72 Q (fun y0 y1 y2 y3 y4 u => p_X5_looks_L31 Q  n y0 y1 y2 y3 y4 u) x0 x1 x2 x3 x4 s11) ∧ (¬ r12 ≤ r10 → ∃ k14, tX x0 3 = some k14 ∧ kX k14 = 0 ∧ p_X0_knownBy k14 x4 x1 s11 (fun r18 s17 => ((r18 = x3 → p_X5_looks_b72 Q (fun y0 y1 y2 y3 y4 u => p_X5_looks_L31 Q  n y0 y1 y2 y3 y4 u) x0 x1 x4 x3 x4 s17) ∧ (¬ r18 = x3 → p_X5_looks_b72 Q (fun y0 y1 y2 y3 y4 u => p_X5_looks_L31 Q  n y0 y1 y2 y3 y4 u) x0 x1 x2 x3 x4 s17))))))))))
def p_X5_looks (x0 : Nat) (x1 : Int32) (s : Sg) (Q : Int32 → Sg → Prop) : Prop := p_X5_isPast x0 x1 s (fun r2 s1 => ((r2 = 0 → Q ((-1)) s1) ∧ (¬ r2 = 0 → ∃ k4, tX x0 3 = some k4 ∧ kX k4 = 0 ∧ p_X0_everyone k4 s1 (fun r8 s7 => ∃ k9, tX x0 3 = some k9 ∧ kX k9 = 0 ∧ p_X0_knownBy k9 r8 x1 s7 (fun r13 s12 => (∃ n14, p_X5_looks_L31 Q  n14 x0 x1 r8 r13 0 s12))))))
set_option maxHeartbeats 4000000 in
set_option maxRecDepth 100000 in
theorem c_X5_looks (l : Launch) (D : va_G) (cs : Cs) (ad : Nat → Nat) (x0 : Nat) (x1 : Int32) (s0 : Sg) (Q : Int32 → Sg → Prop) (hk0 : kX x0 = 4) : Met l yX5_looks wsX5_looks { frames := 6, cells := 0, slots := 0, locals := 143 } (Pc0 bX D cs ad [.ref (ad x0), .int x1] s0 (p_X5_looks x0 x1 s0 Q)) (QI bX D cs ad Q) 0 0 (fAd bX ad) := by
  refine Met.ofW (cc := cX5_looks) (maxL := 5) (ret := (some .int)) (by decide) rfl ?_
  intro p e s m args below meth c s₁ B0 hml hv
  obtain ⟨ha, hP, hE, h⟩ := hv
  have hx := B0.exec
  have hb := B0.bytes
  have hr := B0.returns
  have hts := atoms_spec (ws := wsX5_looks) B0.pre
  have hown : s.vm.findClass RX5 = some m.cls := findClass_of_methodNamed B0.named
  have hlocks := B0.notSynchronized
  have hi_X5 : ∀ w ∈ u_ws RX5 TX5 12, w ∈ wsX5_looks := by decide +kernel
  have hS : va_S (fAd bX ad) s.heap s.heap [] := va_S.rf
  have hl := lv_entry ([.ref (ad x0), .int x1]) (n := 5) (by first | exact Nat.le_of_ble_eq_true rfl | simp [lg_sl, re_cat, cat_i, cat_l, cat_r])
  rw [show entryFrame m args 5 = entryFrame m ([.ref (ad x0), .int x1] : List Value).toArray 5 by rw [ha], lg_entry_eq]
  generalize (lg_sl ([.ref (ad x0), .int x1]) ++ List.replicate (5 - (lg_sl ([.ref (ad x0), .int x1])).length) Slot.unset).toArray = ls at hl ⊢
  have hl : lv_has ls 5 [(0, .ref (ad x0)), (1, .int x1)] := by first | exact hl | simpa [lv_args, re_cat, cat_i, cat_l, cat_r] using hl
  have hB31 : ∀ (n31 : Nat) (x1 : Int32) (x2 : Int32) (x3 : Int32) (x4 : Int32) (σ : Sg) (H : Heap) (locs : List Loc) (ls : Array Slot), p_X5_looks_L31 Q  n31 x0 x1 x2 x3 x4 σ → va_P D vwCl (wl bX cs ad σ) H → va_S (fAd bX ad) s.heap H locs → lv_has ls 5 [(0, .ref (ad x0)), (1, .int x1), (2, .int x2), (3, .int x3), (4, .int x4)] → W p l e { frames := 6, cells := 0, slots := 0, locals := 143 } s m args below meth c H locs 0 0 (MQ below (QI bX D cs ad Q) args s 0 0 (fAd bX ad)) (F0 m 31 ls []) := by
    intro n31
    induction n31 with
    | zero =>
      intro x1 x2 x3 x4 σ H locs ls h
      exact h.elim
    | succ n31 ih =>
      have hK31 := ih
      have hB72 : ∀ (x1 : Int32) (x2 : Int32) (x3 : Int32) (x4 : Int32) (σ : Sg) (H : Heap) (locs : List Loc) (ls : Array Slot), p_X5_looks_b72 Q (fun y0 y1 y2 y3 y4 u => p_X5_looks_L31 Q  n31 y0 y1 y2 y3 y4 u) x0 x1 x2 x3 x4 σ → va_P D vwCl (wl bX cs ad σ) H → va_S (fAd bX ad) s.heap H locs → lv_has ls 5 [(0, .ref (ad x0)), (1, .int x1), (2, .int x2), (3, .int x3), (4, .int x4)] → W p l e { frames := 6, cells := 0, slots := 0, locals := 143 } s m args below meth c H locs 0 0 (MQ below (QI bX D cs ad Q) args s 0 0 (fAd bX ad)) (F0 m 72 ls []) := by
        intro x1 x2 x3 x4 σ H locs ls h hP hS hl
        unfold p_X5_looks_b72 at h
        refine lv_iinc (v := x4 + 1) (lv' := [(4, .int (x4 + 1)), (0, .ref (ad x0)), (1, .int x1), (2, .int x2), (3, .int x3)]) hx hb dX5_looks_72 hl (k := 4) rfl rfl (by decide) (by first | rfl | simp [re_cat, cat_i, cat_l, cat_r]) (fun ls hl => ?_)
        refine lv_goto (tgt := 31) hx hb dX5_looks_75 (by decide) ?_
        exact hK31 x1 x2 x3 (x4 + 1) σ H locs ls h hP hS (lv_sub hl [1, 2, 3, 4, 0] rfl)
      intro x1 x2 x3 x4 σ H locs ls h hP hS hl
      rw [p_X5_looks_L31] at h
      refine lv_iload hx hb dX5_looks_31 (lv_at hl 4 rfl) ?_
      refine lv_aload_n hx hb dX5_looks_33 rfl (lv_at hl 0 rfl) ?_
      refine va_get (ci := 4) (v := va_re ad (tX x0 3)) (C := RX5) (T := TX5) (N := 12) hx hb hts hi_X5 hown hE.1 hP x0 (w_4 hE hk0) rfl 3 (by decide) (hts (.fieldLink RX5 33 "HemLine" "now" "LHemLine$Delta;") (by decide +kernel)) (fun _ h9 => h9) rfl dX5_looks_34 ?_
      obtain ⟨k1, e2, q3, h⟩ := h
      refine f_i (kV (As := []) (rest := [.int x4]) e2 ⟨hx, hb, hml, hown, hts⟩ (c_X0_everyone l D cs ad k1 σ _ q3) (cwV 0 hts gX5_looks_X0_everyone rfl rfl rfl (by decide +kernel) ⟨Nat.le_of_ble_eq_true rfl, Nat.le_of_ble_eq_true rfl⟩) hE hP rfl rfl (w_0 hE q3) h rfl hl.1 rfl (by first | exact lv_room (Nat.le_of_ble_eq_true rfl) | (refine lv_room ?_; simp [re_cat, cat_i, cat_l, cat_r])) dX5_looks_37 ⟨Nat.le_refl _, Nat.le_refl _⟩) hS (fun r5 s4 H locs h hP hS => ?_)
      refine lv_icmp_ge (tgt := 78) hx hb dX5_looks_40 (by decide) (fun c6 => ?_) (fun c6 => ?_)
      · replace h := h.1 c6
        refine lv_aload_n hx hb dX5_looks_78 rfl (lv_at hl 0 rfl) ?_
        refine lv_iload_n hx hb dX5_looks_79 rfl (lv_at hl 2 rfl) ?_
        refine r_put (σ' := (setI s4 x0 9 x2)) (ci := 4) (v := .int x2) (ty := .int) (C := RX5) (T := TX5) (N := 12) hx hb hts hi_X5 tyX5 tyX5_ok nmX5 hown hE hP hS x0 (w_4 hE hk0) rfl 9 (by decide) (hts (.fieldLink RX5 71 "HemLine" "told" "I") (by decide +kernel)) (fun _ h9 => h9) rfl (by decide +kernel) rfl rfl (Nat.le_of_ble_eq_true rfl) dX5_looks_80 (st_4_9 hE hk0 _) (fun H locs hP hS => ?_)
        refine lv_iload_n hx hb dX5_looks_83 rfl (lv_at hl 2 rfl) ?_
        refine f_i (kS (As := [.int x2]) (rest := []) ⟨hx, hb, hml, hown, hts⟩ (c_J6_bitCount_0f7a4 l bX D cs ad x2 (setI s4 x0 9 x2) _) (va_cwS 1 hts gX5_looks_J6_bitCount_0f7a4 rfl rfl rfl (by decide +kernel) ⟨Nat.le_of_ble_eq_true rfl, Nat.le_of_ble_eq_true rfl⟩) hE hP h rfl hl.1 rfl (by first | exact lv_room (Nat.le_of_ble_eq_true rfl) | (refine lv_room ?_; simp [re_cat, cat_i, cat_l, cat_r])) dX5_looks_84 ⟨Nat.le_refl _, Nat.le_refl _⟩) hS (fun r8 s7 H locs h hP hS => ?_)
        exact W.iret hx hb hr (fun t ht hW => ⟨⟨_, _, rfl, h, pw ht hP⟩, hS.F ht⟩) hS.2.2 dX5_looks_87
      · replace h := h.2 c6
        refine lv_iload hx hb dX5_looks_43 (lv_at hl 4 rfl) ?_
        refine f_i (kS (As := [.int x4]) (rest := []) ⟨hx, hb, hml, hown, hts⟩ (c_J6_bitCount_0f7a4 l bX D cs ad x4 s4 _) (va_cwS 1 hts gX5_looks_J6_bitCount_0f7a4 rfl rfl rfl (by decide +kernel) ⟨Nat.le_of_ble_eq_true rfl, Nat.le_of_ble_eq_true rfl⟩) hE hP h rfl hl.1 rfl (by first | exact lv_room (Nat.le_of_ble_eq_true rfl) | (refine lv_room ?_; simp [re_cat, cat_i, cat_l, cat_r])) dX5_looks_45 ⟨Nat.le_refl _, Nat.le_refl _⟩) hS (fun r10 s9 H locs h hP hS => ?_)
        refine lv_iload_n hx hb dX5_looks_48 rfl (lv_at hl 2 rfl) ?_
        refine f_i (kS (As := [.int x2]) (rest := [.int r10]) ⟨hx, hb, hml, hown, hts⟩ (c_J6_bitCount_0f7a4 l bX D cs ad x2 s9 _) (va_cwS 1 hts gX5_looks_J6_bitCount_0f7a4 rfl rfl rfl (by decide +kernel) ⟨Nat.le_of_ble_eq_true rfl, Nat.le_of_ble_eq_true rfl⟩) hE hP h rfl hl.1 rfl (by first | exact lv_room (Nat.le_of_ble_eq_true rfl) | (refine lv_room ?_; simp [re_cat, cat_i, cat_l, cat_r])) dX5_looks_49 ⟨Nat.le_refl _, Nat.le_refl _⟩) hS (fun r12 s11 H locs h hP hS => ?_)
        refine lv_icmp_ge (tgt := 72) hx hb dX5_looks_52 (by decide) (fun c13 => ?_) (fun c13 => ?_)
        · replace h := h.1 c13
          exact hB72 x1 x2 x3 x4 s11 H locs ls h hP hS (lv_sub hl [0, 1, 2, 3, 4] rfl)
        · replace h := h.2 c13
          refine lv_aload_n hx hb dX5_looks_55 rfl (lv_at hl 0 rfl) ?_
          refine va_get (ci := 4) (v := va_re ad (tX x0 3)) (C := RX5) (T := TX5) (N := 12) hx hb hts hi_X5 hown hE.1 hP x0 (w_4 hE hk0) rfl 3 (by decide) (hts (.fieldLink RX5 33 "HemLine" "now" "LHemLine$Delta;") (by decide +kernel)) (fun _ h9 => h9) rfl dX5_looks_56 ?_
          refine lv_iload hx hb dX5_looks_59 (lv_at hl 4 rfl) ?_
          refine lv_iload_n hx hb dX5_looks_61 rfl (lv_at hl 1 rfl) ?_
          obtain ⟨k14, e15, q16, h⟩ := h
          refine f_i (kV (As := [.int x4, .int x1]) (rest := []) e15 ⟨hx, hb, hml, hown, hts⟩ (c_X0_knownBy l D cs ad k14 x4 x1 s11 _ q16) (cwV 2 hts gX5_looks_X0_knownBy rfl rfl rfl (by decide +kernel) ⟨Nat.le_of_ble_eq_true rfl, Nat.le_of_ble_eq_true rfl⟩) hE hP rfl rfl (w_0 hE q16) h rfl hl.1 rfl (by first | exact lv_room (Nat.le_of_ble_eq_true rfl) | (refine lv_room ?_; simp [re_cat, cat_i, cat_l, cat_r])) dX5_looks_62 ⟨Nat.le_refl _, Nat.le_refl _⟩) hS (fun r18 s17 H locs h hP hS => ?_)
          refine lv_iload_n hx hb dX5_looks_65 rfl (lv_at hl 3 rfl) ?_
          refine lv_icmp_ne (tgt := 72) hx hb dX5_looks_66 (by decide) (fun c19 => ?_) (fun c19 => ?_)
          · replace h := h.2 c19
            exact hB72 x1 x2 x3 x4 s17 H locs ls h hP hS (lv_sub hl [0, 1, 2, 3, 4] rfl)
          · replace h := h.1 c19
            refine lv_iload hx hb dX5_looks_69 (lv_at hl 4 rfl) ?_
            refine lv_istore_n (i := 2) (lv' := [(2, .int x4), (0, .ref (ad x0)), (1, .int x1), (3, .int x3), (4, .int x4)]) hx hb dX5_looks_71 rfl hl (by decide) (by first | rfl | simp [re_cat, cat_i, cat_l, cat_r]) (fun ls hl => ?_)
            exact hB72 x1 x4 x3 x4 s17 H locs ls h hP hS (lv_sub hl [1, 2, 0, 3, 4] rfl)
  unfold p_X5_looks at h
  refine lv_aload_n hx hb dX5_looks_0 rfl (lv_at hl 0 rfl) ?_
  refine lv_iload_n hx hb dX5_looks_1 rfl (lv_at hl 1 rfl) ?_
  refine f_i (kV (As := [.int x1]) (rest := []) (o := some x0) rfl ⟨hx, hb, hml, hown, hts⟩ (c_X5_isPast l D cs ad x0 x1 s0 _ hk0) (cwV 1 hts gX5_looks_X5_isPast rfl rfl rfl (by decide +kernel) ⟨Nat.le_of_ble_eq_true rfl, Nat.le_of_ble_eq_true rfl⟩) hE hP rfl rfl (w_4 hE hk0) h rfl hl.1 rfl (by first | exact lv_room (Nat.le_of_ble_eq_true rfl) | (refine lv_room ?_; simp [re_cat, cat_i, cat_l, cat_r])) dX5_looks_2 ⟨Nat.le_refl _, Nat.le_refl _⟩) hS (fun r2 s1 H locs h hP hS => ?_)
  refine lv_if_ne (tgt := 10) hx hb dX5_looks_5 (by decide) (fun c3 => ?_) (fun c3 => ?_)
  · replace h := h.2 c3
    refine lv_aload_n hx hb dX5_looks_10 rfl (lv_at hl 0 rfl) ?_
    refine va_get (ci := 4) (v := va_re ad (tX x0 3)) (C := RX5) (T := TX5) (N := 12) hx hb hts hi_X5 hown hE.1 hP x0 (w_4 hE hk0) rfl 3 (by decide) (hts (.fieldLink RX5 33 "HemLine" "now" "LHemLine$Delta;") (by decide +kernel)) (fun _ h9 => h9) rfl dX5_looks_11 ?_
    obtain ⟨k4, e5, q6, h⟩ := h
    refine f_i (kV (As := []) (rest := []) e5 ⟨hx, hb, hml, hown, hts⟩ (c_X0_everyone l D cs ad k4 s1 _ q6) (cwV 0 hts gX5_looks_X0_everyone rfl rfl rfl (by decide +kernel) ⟨Nat.le_of_ble_eq_true rfl, Nat.le_of_ble_eq_true rfl⟩) hE hP rfl rfl (w_0 hE q6) h rfl hl.1 rfl (by first | exact lv_room (Nat.le_of_ble_eq_true rfl) | (refine lv_room ?_; simp [re_cat, cat_i, cat_l, cat_r])) dX5_looks_14 ⟨Nat.le_refl _, Nat.le_refl _⟩) hS (fun r8 s7 H locs h hP hS => ?_)
    refine lv_istore_n (i := 2) (lv' := [(2, .int r8), (0, .ref (ad x0)), (1, .int x1)]) hx hb dX5_looks_17 rfl hl (by decide) (by first | rfl | simp [re_cat, cat_i, cat_l, cat_r]) (fun ls hl => ?_)
    refine lv_aload_n hx hb dX5_looks_18 rfl (lv_at hl 1 rfl) ?_
    refine va_get (ci := 4) (v := va_re ad (tX x0 3)) (C := RX5) (T := TX5) (N := 12) hx hb hts hi_X5 hown hE.1 hP x0 (w_4 hE hk0) rfl 3 (by decide) (hts (.fieldLink RX5 33 "HemLine" "now" "LHemLine$Delta;") (by decide +kernel)) (fun _ h9 => h9) rfl dX5_looks_19 ?_
    refine lv_iload_n hx hb dX5_looks_22 rfl (lv_at hl 0 rfl) ?_
    refine lv_iload_n hx hb dX5_looks_23 rfl (lv_at hl 2 rfl) ?_
    obtain ⟨k9, e10, q11, h⟩ := h
    refine f_i (kV (As := [.int r8, .int x1]) (rest := []) e10 ⟨hx, hb, hml, hown, hts⟩ (c_X0_knownBy l D cs ad k9 r8 x1 s7 _ q11) (cwV 2 hts gX5_looks_X0_knownBy rfl rfl rfl (by decide +kernel) ⟨Nat.le_of_ble_eq_true rfl, Nat.le_of_ble_eq_true rfl⟩) hE hP rfl rfl (w_0 hE q11) h rfl hl.1 rfl (by first | exact lv_room (Nat.le_of_ble_eq_true rfl) | (refine lv_room ?_; simp [re_cat, cat_i, cat_l, cat_r])) dX5_looks_24 ⟨Nat.le_refl _, Nat.le_refl _⟩) hS (fun r13 s12 H locs h hP hS => ?_)
    refine lv_istore_n (i := 3) (lv' := [(3, .int r13), (2, .int r8), (0, .ref (ad x0)), (1, .int x1)]) hx hb dX5_looks_27 rfl hl (by decide) (by first | rfl | simp [re_cat, cat_i, cat_l, cat_r]) (fun ls hl => ?_)
    refine lv_iconst (v := 0) hx hb dX5_looks_28 (by decide) ?_
    refine lv_istore (i := 4) (lv' := [(4, .int 0), (3, .int r13), (2, .int r8), (0, .ref (ad x0)), (1, .int x1)]) hx hb dX5_looks_29 hl (by decide) (by first | rfl | simp [re_cat, cat_i, cat_l, cat_r]) (fun ls hl => ?_)
    obtain ⟨n14, h⟩ := h
    exact hB31 n14 x1 r8 r13 0 s12 _ _ ls h hP hS (lv_sub hl [3, 4, 2, 1, 0] rfl)
  · replace h := h.1 c3
    refine lv_iconst (v := (-1)) hx hb dX5_looks_8 (by decide) ?_
    exact W.iret hx hb hr (fun t ht hW => ⟨⟨_, _, rfl, h, pw ht hP⟩, hS.F ht⟩) hS.2.2 dX5_looks_9
def p_X5_line_b73 (Q : Int32 → Sg → Prop) (K35 : Nat → Int32 → Int32 → Int32 → Int32 → Int32 → Sg → Prop) (x0 : Nat) (x1 : Int32) (x2 : Int32) (x3 : Int32) (x4 : Int32) (x5 : Int32) (s : Sg) : Prop := K35 x0 x1 x2 x3 x4 (x5 + 1) s
def p_X5_line_b104 (Q : Int32 → Sg → Prop) (K17 : Nat → Int32 → Int32 → Int32 → Int32 → Sg → Prop) (x0 : Nat) (x1 : Int32) (x2 : Int32) (x3 : Int32) (x4 : Int32) (s : Sg) : Prop := K17 x0 x1 x2 x3 (x4 + 1) s
def p_X5_line_L35 (Q : Int32 → Sg → Prop) (K17 : Nat → Int32 → Int32 → Int32 → Int32 → Sg → Prop) : Nat → Nat → Int32 → Int32 → Int32 → Int32 → Int32 → Sg → Prop
  | 0, _, _, _, _, _, _, _ => False
  | n + 1, x0, x1, x2, x3, x4, x5, s => ∃ k1, tX x0 3 = some k1 ∧ kX k1 = 0 ∧ (((gI s k1 0) ≤ x5 → ∃ k5, tX x0 3 = some k5 ∧ kX k5 = 0 ∧ p_X0_hemOf k5 x4 x1 s (fun r9 s8 => ∃ k10, tX x0 3 = some k10 ∧ kX k10 = 0 ∧ p_X0_hemOf k10 x3 x1 s8 (fun r14 s13 => ((r14 ≤ r9 → p_X5_line_b104 Q K17 x0 x1 x2 x3 x4 s13) ∧ (¬ r14 ≤ r9 → p_X5_line_b104 Q K17 x0 x1 x2 x4 x4 s13))))) ∧ (¬ (gI s k1 0) ≤ x5 → ∃ k16, tX x0 3 = some k16 ∧ kX k16 = 0 ∧ p_X0_hemOf k16 x5 x1 s (fun r20 s19 => ∃ k21, tX x0 3 = some k21 ∧ kX k21 = 0 ∧ p_X0_hemOf k21 x4 x1 s19 (fun r25 s24 => ((r25 ≤ r20 → p_X5_line_b73 Q (fun y0 y1 y2 y3 y4 y5 u => p_X5_line_L35 Q K17 n y0 y1 y2 y3 y4 y5 u) x0 x1 x2 x3 x4 x5 s24) ∧ (¬ r25 ≤ r20 → p_X5_line_b73 Q (fun y0 y1 y2 y3 y4 y5 u => p_X5_line_L35 Q K17 n y0 y1 y2 y3 y4 y5 u) x0 x1 (x2 + 1) x3 x4 x5 s24))))))
def p_X5_line_L17 (Q : Int32 → Sg → Prop)  : Nat → Nat → Int32 → Int32 → Int32 → Int32 → Sg → Prop
  | 0, _, _, _, _, _, _ => False
  | n + 1, x0, x1, x2, x3, x4, s => ∃ k1, tX x0 3 = some k1 ∧ kX k1 = 0 ∧ (((gI s k1 0) ≤ x4 → Q x2 (setI s x0 9 x3)) ∧ (¬ (gI s k1 0) ≤ x4 → (∃ n5, p_X5_line_L35 Q (fun y0 y1 y2 y3 y4 u => p_X5_line_L17 Q  n y0 y1 y2 y3 y4 u) n5 x0 x1 x2 x3 x4 (x4 + 1) s)))
def p_X5_line (x0 : Nat) (x1 : Int32) (s : Sg) (Q : Int32 → Sg → Prop) : Prop := p_X5_isPast x0 x1 s (fun r2 s1 => ((r2 = 0 → Q ((-1)) s1) ∧ (¬ r2 = 0 → (∃ n4, p_X5_line_L17 Q  n4 x0 x1 0 0 0 s1))))
set_option maxHeartbeats 4000000 in
set_option maxRecDepth 100000 in
theorem c_X5_line (l : Launch) (D : va_G) (cs : Cs) (ad : Nat → Nat) (x0 : Nat) (x1 : Int32) (s0 : Sg) (Q : Int32 → Sg → Prop) (hk0 : kX x0 = 4) : Met l yX5_line wsX5_line { frames := 4, cells := 0, slots := 0, locals := 94 } (Pc0 bX D cs ad [.ref (ad x0), .int x1] s0 (p_X5_line x0 x1 s0 Q)) (QI bX D cs ad Q) 0 0 (fAd bX ad) := by
  refine Met.ofW (cc := cX5_line) (maxL := 6) (ret := (some .int)) (by decide) rfl ?_
  intro p e s m args below meth c s₁ B0 hml hv
  obtain ⟨ha, hP, hE, h⟩ := hv
  have hx := B0.exec
  have hb := B0.bytes
  have hr := B0.returns
  have hts := atoms_spec (ws := wsX5_line) B0.pre
  have hown : s.vm.findClass RX5 = some m.cls := findClass_of_methodNamed B0.named
  have hlocks := B0.notSynchronized
  have hi_X0 : ∀ w ∈ u_ws RX0 TX0 15, w ∈ wsX5_line := by decide +kernel
  have hi_X5 : ∀ w ∈ u_ws RX5 TX5 12, w ∈ wsX5_line := by decide +kernel
  have hS : va_S (fAd bX ad) s.heap s.heap [] := va_S.rf
  have hl := lv_entry ([.ref (ad x0), .int x1]) (n := 6) (by first | exact Nat.le_of_ble_eq_true rfl | simp [lg_sl, re_cat, cat_i, cat_l, cat_r])
  rw [show entryFrame m args 6 = entryFrame m ([.ref (ad x0), .int x1] : List Value).toArray 6 by rw [ha], lg_entry_eq]
  generalize (lg_sl ([.ref (ad x0), .int x1]) ++ List.replicate (6 - (lg_sl ([.ref (ad x0), .int x1])).length) Slot.unset).toArray = ls at hl ⊢
  have hl : lv_has ls 6 [(0, .ref (ad x0)), (1, .int x1)] := by first | exact hl | simpa [lv_args, re_cat, cat_i, cat_l, cat_r] using hl
  have hB17 : ∀ (n17 : Nat) (x1 : Int32) (x2 : Int32) (x3 : Int32) (x4 : Int32) (σ : Sg) (H : Heap) (locs : List Loc) (ls : Array Slot), p_X5_line_L17 Q  n17 x0 x1 x2 x3 x4 σ → va_P D vwCl (wl bX cs ad σ) H → va_S (fAd bX ad) s.heap H locs → lv_has ls 6 [(0, .ref (ad x0)), (1, .int x1), (2, .int x2), (3, .int x3), (4, .int x4)] → W p l e { frames := 4, cells := 0, slots := 0, locals := 94 } s m args below meth c H locs 0 0 (MQ below (QI bX D cs ad Q) args s 0 0 (fAd bX ad)) (F0 m 17 ls []) := by
    intro n17
    induction n17 with
    | zero =>
      intro x1 x2 x3 x4 σ H locs ls h
      exact h.elim
    | succ n17 ih =>
      have hK17 := ih
      have hB104 : ∀ (x1 : Int32) (x2 : Int32) (x3 : Int32) (x4 : Int32) (σ : Sg) (H : Heap) (locs : List Loc) (ls : Array Slot), p_X5_line_b104 Q (fun y0 y1 y2 y3 y4 u => p_X5_line_L17 Q  n17 y0 y1 y2 y3 y4 u) x0 x1 x2 x3 x4 σ → va_P D vwCl (wl bX cs ad σ) H → va_S (fAd bX ad) s.heap H locs → lv_has ls 6 [(0, .ref (ad x0)), (1, .int x1), (2, .int x2), (3, .int x3), (4, .int x4)] → W p l e { frames := 4, cells := 0, slots := 0, locals := 94 } s m args below meth c H locs 0 0 (MQ below (QI bX D cs ad Q) args s 0 0 (fAd bX ad)) (F0 m 104 ls []) := by
        intro x1 x2 x3 x4 σ H locs ls h hP hS hl
        unfold p_X5_line_b104 at h
        refine lv_iinc (v := x4 + 1) (lv' := [(4, .int (x4 + 1)), (0, .ref (ad x0)), (1, .int x1), (2, .int x2), (3, .int x3)]) hx hb dX5_line_104 hl (k := 4) rfl rfl (by decide) (by first | rfl | simp [re_cat, cat_i, cat_l, cat_r]) (fun ls hl => ?_)
        refine lv_goto (tgt := 17) hx hb dX5_line_107 (by decide) ?_
        exact hK17 x1 x2 x3 (x4 + 1) σ H locs ls h hP hS (lv_sub hl [1, 2, 3, 4, 0] rfl)
      have hB35 : ∀ (n35 : Nat) (x1 : Int32) (x2 : Int32) (x3 : Int32) (x4 : Int32) (x5 : Int32) (σ : Sg) (H : Heap) (locs : List Loc) (ls : Array Slot), p_X5_line_L35 Q (fun y0 y1 y2 y3 y4 u => p_X5_line_L17 Q  n17 y0 y1 y2 y3 y4 u) n35 x0 x1 x2 x3 x4 x5 σ → va_P D vwCl (wl bX cs ad σ) H → va_S (fAd bX ad) s.heap H locs → lv_has ls 6 [(0, .ref (ad x0)), (1, .int x1), (2, .int x2), (3, .int x3), (4, .int x4), (5, .int x5)] → W p l e { frames := 4, cells := 0, slots := 0, locals := 94 } s m args below meth c H locs 0 0 (MQ below (QI bX D cs ad Q) args s 0 0 (fAd bX ad)) (F0 m 35 ls []) := by
        intro n35
        induction n35 with
        | zero =>
          intro x1 x2 x3 x4 x5 σ H locs ls h
          exact h.elim
        | succ n35 ih =>
          have hK35 := ih
          have hB73 : ∀ (x1 : Int32) (x2 : Int32) (x3 : Int32) (x4 : Int32) (x5 : Int32) (σ : Sg) (H : Heap) (locs : List Loc) (ls : Array Slot), p_X5_line_b73 Q (fun y0 y1 y2 y3 y4 y5 u => p_X5_line_L35 Q (fun y0 y1 y2 y3 y4 u => p_X5_line_L17 Q  n17 y0 y1 y2 y3 y4 u) n35 y0 y1 y2 y3 y4 y5 u) x0 x1 x2 x3 x4 x5 σ → va_P D vwCl (wl bX cs ad σ) H → va_S (fAd bX ad) s.heap H locs → lv_has ls 6 [(0, .ref (ad x0)), (1, .int x1), (2, .int x2), (3, .int x3), (4, .int x4), (5, .int x5)] → W p l e { frames := 4, cells := 0, slots := 0, locals := 94 } s m args below meth c H locs 0 0 (MQ below (QI bX D cs ad Q) args s 0 0 (fAd bX ad)) (F0 m 73 ls []) := by
            intro x1 x2 x3 x4 x5 σ H locs ls h hP hS hl
            unfold p_X5_line_b73 at h
            refine lv_iinc (v := x5 + 1) (lv' := [(5, .int (x5 + 1)), (0, .ref (ad x0)), (1, .int x1), (2, .int x2), (3, .int x3), (4, .int x4)]) hx hb dX5_line_73 hl (k := 5) rfl rfl (by decide) (by first | rfl | simp [re_cat, cat_i, cat_l, cat_r]) (fun ls hl => ?_)
            refine lv_goto (tgt := 35) hx hb dX5_line_76 (by decide) ?_
            exact hK35 x1 x2 x3 x4 (x5 + 1) σ H locs ls h hP hS (lv_sub hl [1, 2, 3, 4, 5, 0] rfl)
          intro x1 x2 x3 x4 x5 σ H locs ls h hP hS hl
          rw [p_X5_line_L35] at h
          refine lv_iload hx hb dX5_line_35 (lv_at hl 5 rfl) ?_
          refine lv_aload_n hx hb dX5_line_37 rfl (lv_at hl 0 rfl) ?_
          refine va_get (ci := 4) (v := va_re ad (tX x0 3)) (C := RX5) (T := TX5) (N := 12) hx hb hts hi_X5 hown hE.1 hP x0 (w_4 hE hk0) rfl 3 (by decide) (hts (.fieldLink RX5 33 "HemLine" "now" "LHemLine$Delta;") (by decide +kernel)) (fun _ h9 => h9) rfl dX5_line_38 ?_
          obtain ⟨k1, e2, q3, h⟩ := h
          refine r_known (ad := ad) e2 ?_
          refine va_getN (ci := 0) (v := .int (gI σ k1 0)) (C := RX0) (T := TX0) (N := 15) hx hb hts hi_X0 hown hE.1 hP k1 (w_0 hE q3) rfl 0 (by decide) ((hE.2.2.2.1 ("HemLine", 126, "HemLine$Delta", "women", "I", "HemLine") (by decide +kernel)).use rfl) (fun _ h9 => h9) rfl dX5_line_41 ?_
          refine lv_icmp_ge (tgt := 79) hx hb dX5_line_44 (by decide) (fun c4 => ?_) (fun c4 => ?_)
          · replace h := h.1 c4
            refine lv_aload_n hx hb dX5_line_79 rfl (lv_at hl 0 rfl) ?_
            refine va_get (ci := 4) (v := va_re ad (tX x0 3)) (C := RX5) (T := TX5) (N := 12) hx hb hts hi_X5 hown hE.1 hP x0 (w_4 hE hk0) rfl 3 (by decide) (hts (.fieldLink RX5 33 "HemLine" "now" "LHemLine$Delta;") (by decide +kernel)) (fun _ h9 => h9) rfl dX5_line_80 ?_
            refine lv_iload hx hb dX5_line_83 (lv_at hl 4 rfl) ?_
            refine lv_iload_n hx hb dX5_line_85 rfl (lv_at hl 1 rfl) ?_
            obtain ⟨k5, e6, q7, h⟩ := h
            refine f_i (kV (As := [.int x4, .int x1]) (rest := []) e6 ⟨hx, hb, hml, hown, hts⟩ (c_X0_hemOf l D cs ad k5 x4 x1 σ _ q7) (cwV 2 hts gX5_line_X0_hemOf rfl rfl rfl (by decide +kernel) ⟨Nat.le_of_ble_eq_true rfl, Nat.le_of_ble_eq_true rfl⟩) hE hP rfl rfl (w_0 hE q7) h rfl hl.1 rfl (by first | exact lv_room (Nat.le_of_ble_eq_true rfl) | (refine lv_room ?_; simp [re_cat, cat_i, cat_l, cat_r])) dX5_line_86 ⟨Nat.le_refl _, Nat.le_refl _⟩) hS (fun r9 s8 H locs h hP hS => ?_)
            refine lv_aload_n hx hb dX5_line_89 rfl (lv_at hl 0 rfl) ?_
            refine va_get (ci := 4) (v := va_re ad (tX x0 3)) (C := RX5) (T := TX5) (N := 12) hx hb hts hi_X5 hown hE.1 hP x0 (w_4 hE hk0) rfl 3 (by decide) (hts (.fieldLink RX5 33 "HemLine" "now" "LHemLine$Delta;") (by decide +kernel)) (fun _ h9 => h9) rfl dX5_line_90 ?_
            refine lv_iload_n hx hb dX5_line_93 rfl (lv_at hl 3 rfl) ?_
            refine lv_iload_n hx hb dX5_line_94 rfl (lv_at hl 1 rfl) ?_
            obtain ⟨k10, e11, q12, h⟩ := h
            refine f_i (kV (As := [.int x3, .int x1]) (rest := [.int r9]) e11 ⟨hx, hb, hml, hown, hts⟩ (c_X0_hemOf l D cs ad k10 x3 x1 s8 _ q12) (cwV 2 hts gX5_line_X0_hemOf rfl rfl rfl (by decide +kernel) ⟨Nat.le_of_ble_eq_true rfl, Nat.le_of_ble_eq_true rfl⟩) hE hP rfl rfl (w_0 hE q12) h rfl hl.1 rfl (by first | exact lv_room (Nat.le_of_ble_eq_true rfl) | (refine lv_room ?_; simp [re_cat, cat_i, cat_l, cat_r])) dX5_line_95 ⟨Nat.le_refl _, Nat.le_refl _⟩) hS (fun r14 s13 H locs h hP hS => ?_)
            refine lv_icmp_ge (tgt := 104) hx hb dX5_line_98 (by decide) (fun c15 => ?_) (fun c15 => ?_)
            · replace h := h.1 c15
              exact hB104 x1 x2 x3 x4 s13 H locs ls h hP hS (lv_sub hl [0, 1, 2, 3, 4] rfl)
            · replace h := h.2 c15
              refine lv_iload hx hb dX5_line_101 (lv_at hl 4 rfl) ?_
              refine lv_istore_n (i := 3) (lv' := [(3, .int x4), (0, .ref (ad x0)), (1, .int x1), (2, .int x2), (4, .int x4), (5, .int x5)]) hx hb dX5_line_103 rfl hl (by decide) (by first | rfl | simp [re_cat, cat_i, cat_l, cat_r]) (fun ls hl => ?_)
              exact hB104 x1 x2 x4 x4 s13 H locs ls h hP hS (lv_sub hl [1, 2, 3, 0, 4] rfl)
          · replace h := h.2 c4
            refine lv_aload_n hx hb dX5_line_47 rfl (lv_at hl 0 rfl) ?_
            refine va_get (ci := 4) (v := va_re ad (tX x0 3)) (C := RX5) (T := TX5) (N := 12) hx hb hts hi_X5 hown hE.1 hP x0 (w_4 hE hk0) rfl 3 (by decide) (hts (.fieldLink RX5 33 "HemLine" "now" "LHemLine$Delta;") (by decide +kernel)) (fun _ h9 => h9) rfl dX5_line_48 ?_
            refine lv_iload hx hb dX5_line_51 (lv_at hl 5 rfl) ?_
            refine lv_iload_n hx hb dX5_line_53 rfl (lv_at hl 1 rfl) ?_
            obtain ⟨k16, e17, q18, h⟩ := h
            refine f_i (kV (As := [.int x5, .int x1]) (rest := []) e17 ⟨hx, hb, hml, hown, hts⟩ (c_X0_hemOf l D cs ad k16 x5 x1 σ _ q18) (cwV 2 hts gX5_line_X0_hemOf rfl rfl rfl (by decide +kernel) ⟨Nat.le_of_ble_eq_true rfl, Nat.le_of_ble_eq_true rfl⟩) hE hP rfl rfl (w_0 hE q18) h rfl hl.1 rfl (by first | exact lv_room (Nat.le_of_ble_eq_true rfl) | (refine lv_room ?_; simp [re_cat, cat_i, cat_l, cat_r])) dX5_line_54 ⟨Nat.le_refl _, Nat.le_refl _⟩) hS (fun r20 s19 H locs h hP hS => ?_)
            refine lv_aload_n hx hb dX5_line_57 rfl (lv_at hl 0 rfl) ?_
            refine va_get (ci := 4) (v := va_re ad (tX x0 3)) (C := RX5) (T := TX5) (N := 12) hx hb hts hi_X5 hown hE.1 hP x0 (w_4 hE hk0) rfl 3 (by decide) (hts (.fieldLink RX5 33 "HemLine" "now" "LHemLine$Delta;") (by decide +kernel)) (fun _ h9 => h9) rfl dX5_line_58 ?_
            refine lv_iload hx hb dX5_line_61 (lv_at hl 4 rfl) ?_
            refine lv_iload_n hx hb dX5_line_63 rfl (lv_at hl 1 rfl) ?_
            obtain ⟨k21, e22, q23, h⟩ := h
            refine f_i (kV (As := [.int x4, .int x1]) (rest := [.int r20]) e22 ⟨hx, hb, hml, hown, hts⟩ (c_X0_hemOf l D cs ad k21 x4 x1 s19 _ q23) (cwV 2 hts gX5_line_X0_hemOf rfl rfl rfl (by decide +kernel) ⟨Nat.le_of_ble_eq_true rfl, Nat.le_of_ble_eq_true rfl⟩) hE hP rfl rfl (w_0 hE q23) h rfl hl.1 rfl (by first | exact lv_room (Nat.le_of_ble_eq_true rfl) | (refine lv_room ?_; simp [re_cat, cat_i, cat_l, cat_r])) dX5_line_64 ⟨Nat.le_refl _, Nat.le_refl _⟩) hS (fun r25 s24 H locs h hP hS => ?_)
            refine lv_icmp_ge (tgt := 73) hx hb dX5_line_67 (by decide) (fun c26 => ?_) (fun c26 => ?_)
            · replace h := h.1 c26
              exact hB73 x1 x2 x3 x4 x5 s24 H locs ls h hP hS (lv_sub hl [0, 1, 2, 3, 4, 5] rfl)
            · replace h := h.2 c26
              refine lv_iinc (v := x2 + 1) (lv' := [(2, .int (x2 + 1)), (0, .ref (ad x0)), (1, .int x1), (3, .int x3), (4, .int x4), (5, .int x5)]) hx hb dX5_line_70 hl (k := 2) rfl rfl (by decide) (by first | rfl | simp [re_cat, cat_i, cat_l, cat_r]) (fun ls hl => ?_)
              exact hB73 x1 (x2 + 1) x3 x4 x5 s24 H locs ls h hP hS (lv_sub hl [1, 2, 0, 3, 4, 5] rfl)
      intro x1 x2 x3 x4 σ H locs ls h hP hS hl
      rw [p_X5_line_L17] at h
      refine lv_iload hx hb dX5_line_17 (lv_at hl 4 rfl) ?_
      refine lv_aload_n hx hb dX5_line_19 rfl (lv_at hl 0 rfl) ?_
      refine va_get (ci := 4) (v := va_re ad (tX x0 3)) (C := RX5) (T := TX5) (N := 12) hx hb hts hi_X5 hown hE.1 hP x0 (w_4 hE hk0) rfl 3 (by decide) (hts (.fieldLink RX5 33 "HemLine" "now" "LHemLine$Delta;") (by decide +kernel)) (fun _ h9 => h9) rfl dX5_line_20 ?_
      obtain ⟨k1, e2, q3, h⟩ := h
      refine r_known (ad := ad) e2 ?_
      refine va_getN (ci := 0) (v := .int (gI σ k1 0)) (C := RX0) (T := TX0) (N := 15) hx hb hts hi_X0 hown hE.1 hP k1 (w_0 hE q3) rfl 0 (by decide) ((hE.2.2.2.1 ("HemLine", 126, "HemLine$Delta", "women", "I", "HemLine") (by decide +kernel)).use rfl) (fun _ h9 => h9) rfl dX5_line_23 ?_
      refine lv_icmp_ge (tgt := 110) hx hb dX5_line_26 (by decide) (fun c4 => ?_) (fun c4 => ?_)
      · replace h := h.1 c4
        refine lv_aload_n hx hb dX5_line_110 rfl (lv_at hl 0 rfl) ?_
        refine lv_iload_n hx hb dX5_line_111 rfl (lv_at hl 3 rfl) ?_
        refine r_put (σ' := (setI σ x0 9 x3)) (ci := 4) (v := .int x3) (ty := .int) (C := RX5) (T := TX5) (N := 12) hx hb hts hi_X5 tyX5 tyX5_ok nmX5 hown hE hP hS x0 (w_4 hE hk0) rfl 9 (by decide) (hts (.fieldLink RX5 71 "HemLine" "told" "I") (by decide +kernel)) (fun _ h9 => h9) rfl (by decide +kernel) rfl rfl (Nat.le_of_ble_eq_true rfl) dX5_line_112 (st_4_9 hE hk0 _) (fun H locs hP hS => ?_)
        refine lv_iload_n hx hb dX5_line_115 rfl (lv_at hl 2 rfl) ?_
        exact W.iret hx hb hr (fun t ht hW => ⟨⟨_, _, rfl, h, pw ht hP⟩, hS.F ht⟩) hS.2.2 dX5_line_116
      · replace h := h.2 c4
        refine lv_iload hx hb dX5_line_29 (lv_at hl 4 rfl) ?_
        refine lv_iconst (v := 1) hx hb dX5_line_31 (by decide) ?_
        refine lv_iadd hx hb dX5_line_32 ?_
        refine lv_istore (i := 5) (lv' := [(5, .int (x4 + 1)), (0, .ref (ad x0)), (1, .int x1), (2, .int x2), (3, .int x3), (4, .int x4)]) hx hb dX5_line_33 hl (by decide) (by first | rfl | simp [re_cat, cat_i, cat_l, cat_r]) (fun ls hl => ?_)
        obtain ⟨n5, h⟩ := h
        exact hB35 n5 x1 x2 x3 x4 (x4 + 1) σ H locs ls h hP hS (lv_sub hl [1, 2, 3, 4, 5, 0] rfl)
  unfold p_X5_line at h
  refine lv_aload_n hx hb dX5_line_0 rfl (lv_at hl 0 rfl) ?_
  refine lv_iload_n hx hb dX5_line_1 rfl (lv_at hl 1 rfl) ?_
  refine f_i (kV (As := [.int x1]) (rest := []) (o := some x0) rfl ⟨hx, hb, hml, hown, hts⟩ (c_X5_isPast l D cs ad x0 x1 s0 _ hk0) (cwV 1 hts gX5_line_X5_isPast rfl rfl rfl (by decide +kernel) ⟨Nat.le_of_ble_eq_true rfl, Nat.le_of_ble_eq_true rfl⟩) hE hP rfl rfl (w_4 hE hk0) h rfl hl.1 rfl (by first | exact lv_room (Nat.le_of_ble_eq_true rfl) | (refine lv_room ?_; simp [re_cat, cat_i, cat_l, cat_r])) dX5_line_2 ⟨Nat.le_refl _, Nat.le_refl _⟩) hS (fun r2 s1 H locs h hP hS => ?_)
  refine lv_if_ne (tgt := 10) hx hb dX5_line_5 (by decide) (fun c3 => ?_) (fun c3 => ?_)
  · replace h := h.2 c3
    refine lv_iconst (v := 0) hx hb dX5_line_10 (by decide) ?_
    refine lv_istore_n (i := 2) (lv' := [(2, .int 0), (0, .ref (ad x0)), (1, .int x1)]) hx hb dX5_line_11 rfl hl (by decide) (by first | rfl | simp [re_cat, cat_i, cat_l, cat_r]) (fun ls hl => ?_)
    refine lv_iconst (v := 0) hx hb dX5_line_12 (by decide) ?_
    refine lv_istore_n (i := 3) (lv' := [(3, .int 0), (2, .int 0), (0, .ref (ad x0)), (1, .int x1)]) hx hb dX5_line_13 rfl hl (by decide) (by first | rfl | simp [re_cat, cat_i, cat_l, cat_r]) (fun ls hl => ?_)
    refine lv_iconst (v := 0) hx hb dX5_line_14 (by decide) ?_
    refine lv_istore (i := 4) (lv' := [(4, .int 0), (3, .int 0), (2, .int 0), (0, .ref (ad x0)), (1, .int x1)]) hx hb dX5_line_15 hl (by decide) (by first | rfl | simp [re_cat, cat_i, cat_l, cat_r]) (fun ls hl => ?_)
    obtain ⟨n4, h⟩ := h
    exact hB17 n4 x1 0 0 0 s1 _ _ ls h hP hS (lv_sub hl [3, 4, 2, 1, 0] rfl)
  · replace h := h.1 c3
    refine lv_iconst (v := (-1)) hx hb dX5_line_8 (by decide) ?_
    exact W.iret hx hb hr (fun t ht hW => ⟨⟨_, _, rfl, h, pw ht hP⟩, hS.F ht⟩) hS.2.2 dX5_line_9
def p_X5_pairsFit_L13 (Q : Int32 → Sg → Prop)  : Nat → Nat → Int32 → Int32 → Int32 → Int32 → Int32 → Sg → Prop
  | 0, _, _, _, _, _, _, _ => False
  | n + 1, x0, x1, x2, x3, x4, x5, s => ((x4 ≤ (x5 + 1) → Q 1 s) ∧ (¬ x4 ≤ (x5 + 1) → ∃ k2, tX x0 0 = some k2 ∧ kX k2 = 3 ∧ p_X4_cell k2 x2 x5 s (fun r6 s5 => ∃ k7, tX x0 3 = some k7 ∧ kX k7 = 0 ∧ p_X0_hemIfNow k7 x1 r6 x3 s5 (fun r11 s10 => ∃ k12, tX x0 0 = some k12 ∧ kX k12 = 3 ∧ p_X4_cell k12 x2 (x5 + 1) s10 (fun r16 s15 => ((r11 = r16 → p_X5_pairsFit_L13 Q  n x0 x1 x2 x3 x4 (x5 + 2) s15) ∧ (¬ r11 = r16 → Q 0 s15)))))))
def p_X5_pairsFit (x0 : Nat) (x1 : Int32) (x2 : Int32) (x3 : Int32) (s : Sg) (Q : Int32 → Sg → Prop) : Prop := ∃ k1, tX x0 0 = some k1 ∧ kX k1 = 3 ∧ p_X4_sizeOf k1 x2 s (fun r5 s4 => (∃ n6, p_X5_pairsFit_L13 Q  n6 x0 x1 x2 x3 r5 0 s4))
set_option maxHeartbeats 4000000 in
set_option maxRecDepth 100000 in
theorem c_X5_pairsFit (l : Launch) (D : va_G) (cs : Cs) (ad : Nat → Nat) (x0 : Nat) (x1 : Int32) (x2 : Int32) (x3 : Int32) (s0 : Sg) (Q : Int32 → Sg → Prop) (hk0 : kX x0 = 4) : Met l yX5_pairsFit wsX5_pairsFit { frames := 4, cells := 0, slots := 0, locals := 87 } (Pc0 bX D cs ad [.ref (ad x0), .int x1, .int x2, .int x3] s0 (p_X5_pairsFit x0 x1 x2 x3 s0 Q)) (QI bX D cs ad Q) 0 0 (fAd bX ad) := by
  refine Met.ofW (cc := cX5_pairsFit) (maxL := 6) (ret := (some .boolean)) (by decide) rfl ?_
  intro p e s m args below meth c s₁ B0 hml hv
  obtain ⟨ha, hP, hE, h⟩ := hv
  have hx := B0.exec
  have hb := B0.bytes
  have hr := B0.returns
  have hts := atoms_spec (ws := wsX5_pairsFit) B0.pre
  have hown : s.vm.findClass RX5 = some m.cls := findClass_of_methodNamed B0.named
  have hlocks := B0.notSynchronized
  have hi_X5 : ∀ w ∈ u_ws RX5 TX5 12, w ∈ wsX5_pairsFit := by decide +kernel
  have hS : va_S (fAd bX ad) s.heap s.heap [] := va_S.rf
  have hl := lv_entry ([.ref (ad x0), .int x1, .int x2, .int x3]) (n := 6) (by first | exact Nat.le_of_ble_eq_true rfl | simp [lg_sl, re_cat, cat_i, cat_l, cat_r])
  rw [show entryFrame m args 6 = entryFrame m ([.ref (ad x0), .int x1, .int x2, .int x3] : List Value).toArray 6 by rw [ha], lg_entry_eq]
  generalize (lg_sl ([.ref (ad x0), .int x1, .int x2, .int x3]) ++ List.replicate (6 - (lg_sl ([.ref (ad x0), .int x1, .int x2, .int x3])).length) Slot.unset).toArray = ls at hl ⊢
  have hl : lv_has ls 6 [(0, .ref (ad x0)), (1, .int x1), (2, .int x2), (3, .int x3)] := by first | exact hl | simpa [lv_args, re_cat, cat_i, cat_l, cat_r] using hl
  have hB13 : ∀ (n13 : Nat) (x1 : Int32) (x2 : Int32) (x3 : Int32) (x4 : Int32) (x5 : Int32) (σ : Sg) (H : Heap) (locs : List Loc) (ls : Array Slot), p_X5_pairsFit_L13 Q  n13 x0 x1 x2 x3 x4 x5 σ → va_P D vwCl (wl bX cs ad σ) H → va_S (fAd bX ad) s.heap H locs → lv_has ls 6 [(0, .ref (ad x0)), (1, .int x1), (2, .int x2), (3, .int x3), (4, .int x4), (5, .int x5)] → W p l e { frames := 4, cells := 0, slots := 0, locals := 87 } s m args below meth c H locs 0 0 (MQ below (QI bX D cs ad Q) args s 0 0 (fAd bX ad)) (F0 m 13 ls []) := by
    intro n13
    induction n13 with
    | zero =>
      intro x1 x2 x3 x4 x5 σ H locs ls h
      exact h.elim
    | succ n13 ih =>
      have hK13 := ih
      intro x1 x2 x3 x4 x5 σ H locs ls h hP hS hl
      rw [p_X5_pairsFit_L13] at h
      refine lv_iload hx hb dX5_pairsFit_13 (lv_at hl 5 rfl) ?_
      refine lv_iconst (v := 1) hx hb dX5_pairsFit_15 (by decide) ?_
      refine lv_iadd hx hb dX5_pairsFit_16 ?_
      refine lv_iload hx hb dX5_pairsFit_17 (lv_at hl 4 rfl) ?_
      refine lv_icmp_ge (tgt := 64) hx hb dX5_pairsFit_19 (by decide) (fun c1 => ?_) (fun c1 => ?_)
      · replace h := h.1 c1
        refine lv_iconst (v := 1) hx hb dX5_pairsFit_64 (by decide) ?_
        exact W.zret hx hb hr rfl (fun t ht hW => ⟨⟨_, _, rfl, h, pw ht hP⟩, hS.F ht⟩) hS.2.2 dX5_pairsFit_65
      · replace h := h.2 c1
        refine lv_aload_n hx hb dX5_pairsFit_22 rfl (lv_at hl 0 rfl) ?_
        refine va_get (ci := 4) (v := va_re ad (tX x0 3)) (C := RX5) (T := TX5) (N := 12) hx hb hts hi_X5 hown hE.1 hP x0 (w_4 hE hk0) rfl 3 (by decide) (hts (.fieldLink RX5 33 "HemLine" "now" "LHemLine$Delta;") (by decide +kernel)) (fun _ h9 => h9) rfl dX5_pairsFit_23 ?_
        refine lv_iload_n hx hb dX5_pairsFit_26 rfl (lv_at hl 1 rfl) ?_
        refine lv_aload_n hx hb dX5_pairsFit_27 rfl (lv_at hl 0 rfl) ?_
        refine va_get (ci := 4) (v := va_re ad (tX x0 0)) (C := RX5) (T := TX5) (N := 12) hx hb hts hi_X5 hown hE.1 hP x0 (w_4 hE hk0) rfl 0 (by decide) (hts (.fieldLink RX5 16 "HemLine" "rows" "LHemLine$Shelf;") (by decide +kernel)) (fun _ h9 => h9) rfl dX5_pairsFit_28 ?_
        refine lv_iload_n hx hb dX5_pairsFit_31 rfl (lv_at hl 2 rfl) ?_
        refine lv_iload hx hb dX5_pairsFit_32 (lv_at hl 5 rfl) ?_
        obtain ⟨k2, e3, q4, h⟩ := h
        refine f_i (kV (As := [.int x2, .int x5]) (rest := [.int x1, va_re ad (tX x0 3)]) e3 ⟨hx, hb, hml, hown, hts⟩ (c_X4_cell l D cs ad k2 x2 x5 σ _ q4) (cwV 2 hts gX5_pairsFit_X4_cell rfl rfl rfl (by decide +kernel) ⟨Nat.le_of_ble_eq_true rfl, Nat.le_of_ble_eq_true rfl⟩) hE hP rfl rfl (w_3 hE q4) h rfl hl.1 rfl (by first | exact lv_room (Nat.le_of_ble_eq_true rfl) | (refine lv_room ?_; simp [re_cat, cat_i, cat_l, cat_r])) dX5_pairsFit_34 ⟨Nat.le_refl _, Nat.le_refl _⟩) hS (fun r6 s5 H locs h hP hS => ?_)
        refine lv_iload_n hx hb dX5_pairsFit_37 rfl (lv_at hl 3 rfl) ?_
        obtain ⟨k7, e8, q9, h⟩ := h
        refine f_i (kV (As := [.int x1, .int r6, .int x3]) (rest := []) e8 ⟨hx, hb, hml, hown, hts⟩ (c_X0_hemIfNow l D cs ad k7 x1 r6 x3 s5 _ q9) (cwV 3 hts gX5_pairsFit_X0_hemIfNow rfl rfl rfl (by decide +kernel) ⟨Nat.le_of_ble_eq_true rfl, Nat.le_of_ble_eq_true rfl⟩) hE hP rfl rfl (w_0 hE q9) h rfl hl.1 rfl (by first | exact lv_room (Nat.le_of_ble_eq_true rfl) | (refine lv_room ?_; simp [re_cat, cat_i, cat_l, cat_r])) dX5_pairsFit_38 ⟨Nat.le_refl _, Nat.le_refl _⟩) hS (fun r11 s10 H locs h hP hS => ?_)
        refine lv_aload_n hx hb dX5_pairsFit_41 rfl (lv_at hl 0 rfl) ?_
        refine va_get (ci := 4) (v := va_re ad (tX x0 0)) (C := RX5) (T := TX5) (N := 12) hx hb hts hi_X5 hown hE.1 hP x0 (w_4 hE hk0) rfl 0 (by decide) (hts (.fieldLink RX5 16 "HemLine" "rows" "LHemLine$Shelf;") (by decide +kernel)) (fun _ h9 => h9) rfl dX5_pairsFit_42 ?_
        refine lv_iload_n hx hb dX5_pairsFit_45 rfl (lv_at hl 2 rfl) ?_
        refine lv_iload hx hb dX5_pairsFit_46 (lv_at hl 5 rfl) ?_
        refine lv_iconst (v := 1) hx hb dX5_pairsFit_48 (by decide) ?_
        refine lv_iadd hx hb dX5_pairsFit_49 ?_
        obtain ⟨k12, e13, q14, h⟩ := h
        refine f_i (kV (As := [.int x2, .int (x5 + 1)]) (rest := [.int r11]) e13 ⟨hx, hb, hml, hown, hts⟩ (c_X4_cell l D cs ad k12 x2 (x5 + 1) s10 _ q14) (cwV 2 hts gX5_pairsFit_X4_cell rfl rfl rfl (by decide +kernel) ⟨Nat.le_of_ble_eq_true rfl, Nat.le_of_ble_eq_true rfl⟩) hE hP rfl rfl (w_3 hE q14) h rfl hl.1 rfl (by first | exact lv_room (Nat.le_of_ble_eq_true rfl) | (refine lv_room ?_; simp [re_cat, cat_i, cat_l, cat_r])) dX5_pairsFit_50 ⟨Nat.le_refl _, Nat.le_refl _⟩) hS (fun r16 s15 H locs h hP hS => ?_)
        refine lv_icmp_eq (tgt := 58) hx hb dX5_pairsFit_53 (by decide) (fun c17 => ?_) (fun c17 => ?_)
        · replace h := h.1 c17
          refine lv_iinc (v := x5 + 2) (lv' := [(5, .int (x5 + 2)), (0, .ref (ad x0)), (1, .int x1), (2, .int x2), (3, .int x3), (4, .int x4)]) hx hb dX5_pairsFit_58 hl (k := 5) rfl rfl (by decide) (by first | rfl | simp [re_cat, cat_i, cat_l, cat_r]) (fun ls hl => ?_)
          refine lv_goto (tgt := 13) hx hb dX5_pairsFit_61 (by decide) ?_
          exact ih x1 x2 x3 x4 (x5 + 2) s15 H locs ls h hP hS (lv_sub hl [1, 2, 3, 4, 5, 0] rfl)
        · replace h := h.2 c17
          refine lv_iconst (v := 0) hx hb dX5_pairsFit_56 (by decide) ?_
          exact W.zret hx hb hr rfl (fun t ht hW => ⟨⟨_, _, rfl, h, pw ht hP⟩, hS.F ht⟩) hS.2.2 dX5_pairsFit_57
  unfold p_X5_pairsFit at h
  refine lv_aload_n hx hb dX5_pairsFit_0 rfl (lv_at hl 0 rfl) ?_
  refine va_get (ci := 4) (v := va_re ad (tX x0 0)) (C := RX5) (T := TX5) (N := 12) hx hb hts hi_X5 hown hE.1 hP x0 (w_4 hE hk0) rfl 0 (by decide) (hts (.fieldLink RX5 16 "HemLine" "rows" "LHemLine$Shelf;") (by decide +kernel)) (fun _ h9 => h9) rfl dX5_pairsFit_1 ?_
  refine lv_iload_n hx hb dX5_pairsFit_4 rfl (lv_at hl 2 rfl) ?_
  obtain ⟨k1, e2, q3, h⟩ := h
  refine f_i (kV (As := [.int x2]) (rest := []) e2 ⟨hx, hb, hml, hown, hts⟩ (c_X4_sizeOf l D cs ad k1 x2 s0 _ q3) (cwV 1 hts gX5_pairsFit_X4_sizeOf rfl rfl rfl (by decide +kernel) ⟨Nat.le_of_ble_eq_true rfl, Nat.le_of_ble_eq_true rfl⟩) hE hP rfl rfl (w_3 hE q3) h rfl hl.1 rfl (by first | exact lv_room (Nat.le_of_ble_eq_true rfl) | (refine lv_room ?_; simp [re_cat, cat_i, cat_l, cat_r])) dX5_pairsFit_5 ⟨Nat.le_refl _, Nat.le_refl _⟩) hS (fun r5 s4 H locs h hP hS => ?_)
  refine lv_istore (i := 4) (lv' := [(4, .int r5), (0, .ref (ad x0)), (1, .int x1), (2, .int x2), (3, .int x3)]) hx hb dX5_pairsFit_8 hl (by decide) (by first | rfl | simp [re_cat, cat_i, cat_l, cat_r]) (fun ls hl => ?_)
  refine lv_iconst (v := 0) hx hb dX5_pairsFit_10 (by decide) ?_
  refine lv_istore (i := 5) (lv' := [(5, .int 0), (4, .int r5), (0, .ref (ad x0)), (1, .int x1), (2, .int x2), (3, .int x3)]) hx hb dX5_pairsFit_11 hl (by decide) (by first | rfl | simp [re_cat, cat_i, cat_l, cat_r]) (fun ls hl => ?_)
  obtain ⟨n6, h⟩ := h
  exact hB13 n6 x1 x2 x3 r5 0 s4 _ _ ls h hP hS (lv_sub hl [2, 3, 4, 5, 1, 0] rfl)
def p_X5_kindsBy_b30 (Q : Int32 → Sg → Prop) (K5 : Nat → Int32 → Int32 → Int32 → Int32 → Sg → Prop) (x0 : Nat) (x1 : Int32) (x2 : Int32) (x3 : Int32) (x4 : Int32) (s : Sg) : Prop := K5 x0 x1 x2 x3 (x4 + 1) s
def p_X5_kindsBy_L5 (Q : Int32 → Sg → Prop)  : Nat → Nat → Int32 → Int32 → Int32 → Int32 → Sg → Prop
  | 0, _, _, _, _, _, _ => False
  | n + 1, x0, x1, x2, x3, x4, s => ((6 ≤ x4 → Q x3 s) ∧ (¬ 6 ≤ x4 → p_X5_pairsFit x0 x1 x2 x4 s (fun r3 s2 => ((r3 = 0 → p_X5_kindsBy_b30 Q (fun y0 y1 y2 y3 y4 u => p_X5_kindsBy_L5 Q  n y0 y1 y2 y3 y4 u) x0 x1 x2 x3 x4 s2) ∧ (¬ r3 = 0 → p_X5_kindsBy_b30 Q (fun y0 y1 y2 y3 y4 u => p_X5_kindsBy_L5 Q  n y0 y1 y2 y3 y4 u) x0 x1 x2 (x3 ||| (1 <<< (x4 &&& 31))) x4 s2)))))
def p_X5_kindsBy (x0 : Nat) (x1 : Int32) (x2 : Int32) (s : Sg) (Q : Int32 → Sg → Prop) : Prop := (∃ n1, p_X5_kindsBy_L5 Q  n1 x0 x1 x2 0 0 s)
set_option maxHeartbeats 4000000 in
set_option maxRecDepth 100000 in
theorem c_X5_kindsBy (l : Launch) (D : va_G) (cs : Cs) (ad : Nat → Nat) (x0 : Nat) (x1 : Int32) (x2 : Int32) (s0 : Sg) (Q : Int32 → Sg → Prop) (hk0 : kX x0 = 4) : Met l yX5_kindsBy wsX5_kindsBy { frames := 5, cells := 0, slots := 0, locals := 112 } (Pc0 bX D cs ad [.ref (ad x0), .int x1, .int x2] s0 (p_X5_kindsBy x0 x1 x2 s0 Q)) (QI bX D cs ad Q) 0 0 (fAd bX ad) := by
  refine Met.ofW (cc := cX5_kindsBy) (maxL := 5) (ret := (some .int)) (by decide) rfl ?_
  intro p e s m args below meth c s₁ B0 hml hv
  obtain ⟨ha, hP, hE, h⟩ := hv
  have hx := B0.exec
  have hb := B0.bytes
  have hr := B0.returns
  have hts := atoms_spec (ws := wsX5_kindsBy) B0.pre
  have hown : s.vm.findClass RX5 = some m.cls := findClass_of_methodNamed B0.named
  have hlocks := B0.notSynchronized
  have hS : va_S (fAd bX ad) s.heap s.heap [] := va_S.rf
  have hl := lv_entry ([.ref (ad x0), .int x1, .int x2]) (n := 5) (by first | exact Nat.le_of_ble_eq_true rfl | simp [lg_sl, re_cat, cat_i, cat_l, cat_r])
  rw [show entryFrame m args 5 = entryFrame m ([.ref (ad x0), .int x1, .int x2] : List Value).toArray 5 by rw [ha], lg_entry_eq]
  generalize (lg_sl ([.ref (ad x0), .int x1, .int x2]) ++ List.replicate (5 - (lg_sl ([.ref (ad x0), .int x1, .int x2])).length) Slot.unset).toArray = ls at hl ⊢
  have hl : lv_has ls 5 [(0, .ref (ad x0)), (1, .int x1), (2, .int x2)] := by first | exact hl | simpa [lv_args, re_cat, cat_i, cat_l, cat_r] using hl
  have hB5 : ∀ (n5 : Nat) (x1 : Int32) (x2 : Int32) (x3 : Int32) (x4 : Int32) (σ : Sg) (H : Heap) (locs : List Loc) (ls : Array Slot), p_X5_kindsBy_L5 Q  n5 x0 x1 x2 x3 x4 σ → va_P D vwCl (wl bX cs ad σ) H → va_S (fAd bX ad) s.heap H locs → lv_has ls 5 [(0, .ref (ad x0)), (1, .int x1), (2, .int x2), (3, .int x3), (4, .int x4)] → W p l e { frames := 5, cells := 0, slots := 0, locals := 112 } s m args below meth c H locs 0 0 (MQ below (QI bX D cs ad Q) args s 0 0 (fAd bX ad)) (F0 m 5 ls []) := by
    intro n5
    induction n5 with
    | zero =>
      intro x1 x2 x3 x4 σ H locs ls h
      exact h.elim
    | succ n5 ih =>
      have hK5 := ih
      have hB30 : ∀ (x1 : Int32) (x2 : Int32) (x3 : Int32) (x4 : Int32) (σ : Sg) (H : Heap) (locs : List Loc) (ls : Array Slot), p_X5_kindsBy_b30 Q (fun y0 y1 y2 y3 y4 u => p_X5_kindsBy_L5 Q  n5 y0 y1 y2 y3 y4 u) x0 x1 x2 x3 x4 σ → va_P D vwCl (wl bX cs ad σ) H → va_S (fAd bX ad) s.heap H locs → lv_has ls 5 [(0, .ref (ad x0)), (1, .int x1), (2, .int x2), (3, .int x3), (4, .int x4)] → W p l e { frames := 5, cells := 0, slots := 0, locals := 112 } s m args below meth c H locs 0 0 (MQ below (QI bX D cs ad Q) args s 0 0 (fAd bX ad)) (F0 m 30 ls []) := by
        intro x1 x2 x3 x4 σ H locs ls h hP hS hl
        unfold p_X5_kindsBy_b30 at h
        refine lv_iinc (v := x4 + 1) (lv' := [(4, .int (x4 + 1)), (0, .ref (ad x0)), (1, .int x1), (2, .int x2), (3, .int x3)]) hx hb dX5_kindsBy_30 hl (k := 4) rfl rfl (by decide) (by first | rfl | simp [re_cat, cat_i, cat_l, cat_r]) (fun ls hl => ?_)
        refine lv_goto (tgt := 5) hx hb dX5_kindsBy_33 (by decide) ?_
        exact hK5 x1 x2 x3 (x4 + 1) σ H locs ls h hP hS (lv_sub hl [1, 2, 3, 4, 0] rfl)
      intro x1 x2 x3 x4 σ H locs ls h hP hS hl
      rw [p_X5_kindsBy_L5] at h
      refine lv_iload hx hb dX5_kindsBy_5 (lv_at hl 4 rfl) ?_
      refine lv_bipush (v := 6) hx hb dX5_kindsBy_7 (by decide) ?_
      refine lv_icmp_ge (tgt := 36) hx hb dX5_kindsBy_9 (by decide) (fun c1 => ?_) (fun c1 => ?_)
      · replace h := h.1 c1
        refine lv_iload_n hx hb dX5_kindsBy_36 rfl (lv_at hl 3 rfl) ?_
        exact W.iret hx hb hr (fun t ht hW => ⟨⟨_, _, rfl, h, pw ht hP⟩, hS.F ht⟩) hS.2.2 dX5_kindsBy_37
      · replace h := h.2 c1
        refine lv_aload_n hx hb dX5_kindsBy_12 rfl (lv_at hl 0 rfl) ?_
        refine lv_iload_n hx hb dX5_kindsBy_13 rfl (lv_at hl 1 rfl) ?_
        refine lv_iload_n hx hb dX5_kindsBy_14 rfl (lv_at hl 2 rfl) ?_
        refine lv_iload hx hb dX5_kindsBy_15 (lv_at hl 4 rfl) ?_
        refine f_i (kV (As := [.int x1, .int x2, .int x4]) (rest := []) (o := some x0) rfl ⟨hx, hb, hml, hown, hts⟩ (c_X5_pairsFit l D cs ad x0 x1 x2 x4 σ _ hk0) (cwV 3 hts gX5_kindsBy_X5_pairsFit rfl rfl rfl (by decide +kernel) ⟨Nat.le_of_ble_eq_true rfl, Nat.le_of_ble_eq_true rfl⟩) hE hP rfl rfl (w_4 hE hk0) h rfl hl.1 rfl (by first | exact lv_room (Nat.le_of_ble_eq_true rfl) | (refine lv_room ?_; simp [re_cat, cat_i, cat_l, cat_r])) dX5_kindsBy_17 ⟨Nat.le_refl _, Nat.le_refl _⟩) hS (fun r3 s2 H locs h hP hS => ?_)
        refine lv_if_eq (tgt := 30) hx hb dX5_kindsBy_20 (by decide) (fun c4 => ?_) (fun c4 => ?_)
        · replace h := h.1 c4
          exact hB30 x1 x2 x3 x4 s2 H locs ls h hP hS (lv_sub hl [0, 1, 2, 3, 4] rfl)
        · replace h := h.2 c4
          refine lv_iload_n hx hb dX5_kindsBy_23 rfl (lv_at hl 3 rfl) ?_
          refine lv_iconst (v := 1) hx hb dX5_kindsBy_24 (by decide) ?_
          refine lv_iload hx hb dX5_kindsBy_25 (lv_at hl 4 rfl) ?_
          refine lv_ishl hx hb dX5_kindsBy_27 ?_
          refine lv_ior hx hb dX5_kindsBy_28 ?_
          refine lv_istore_n (i := 3) (lv' := [(3, .int (x3 ||| (1 <<< (x4 &&& 31)))), (0, .ref (ad x0)), (1, .int x1), (2, .int x2), (4, .int x4)]) hx hb dX5_kindsBy_29 rfl hl (by decide) (by first | rfl | simp [re_cat, cat_i, cat_l, cat_r]) (fun ls hl => ?_)
          exact hB30 x1 x2 (x3 ||| (1 <<< (x4 &&& 31))) x4 s2 H locs ls h hP hS (lv_sub hl [1, 2, 3, 0, 4] rfl)
  unfold p_X5_kindsBy at h
  refine lv_iconst (v := 0) hx hb dX5_kindsBy_0 (by decide) ?_
  refine lv_istore_n (i := 3) (lv' := [(3, .int 0), (0, .ref (ad x0)), (1, .int x1), (2, .int x2)]) hx hb dX5_kindsBy_1 rfl hl (by decide) (by first | rfl | simp [re_cat, cat_i, cat_l, cat_r]) (fun ls hl => ?_)
  refine lv_iconst (v := 0) hx hb dX5_kindsBy_2 (by decide) ?_
  refine lv_istore (i := 4) (lv' := [(4, .int 0), (3, .int 0), (0, .ref (ad x0)), (1, .int x1), (2, .int x2)]) hx hb dX5_kindsBy_3 hl (by decide) (by first | rfl | simp [re_cat, cat_i, cat_l, cat_r]) (fun ls hl => ?_)
  obtain ⟨n1, h⟩ := h
  exact hB5 n1 x1 x2 0 0 s0 _ _ ls h hP hS (lv_sub hl [2, 3, 4, 1, 0] rfl)
def p_X5_refusalOfPairs_b103 (Q : Int32 → Sg → Prop)  (x0 : Nat) (s : Sg) : Prop := p_X5_found x0 3 s (fun r2 s1 => Q r2 s1)
def p_X5_refusalOfPairs_L52 (Q : Int32 → Sg → Prop)  : Nat → Nat → Int32 → Int32 → Int32 → Sg → Prop
  | 0, _, _, _, _, _ => False
  | n + 1, x0, x2, x4, x5, s => ((x4 ≤ (x5 + 1) → Q 0 s) ∧ (¬ x4 ≤ (x5 + 1) → ∃ k2, tX x0 0 = some k2 ∧ kX k2 = 3 ∧ p_X4_cell k2 x2 (x5 + 1) s (fun r6 s5 => ∃ k7, tX x0 0 = some k7 ∧ kX k7 = 3 ∧ p_X4_cell k7 x2 x5 s5 (fun r11 s10 => p_X5_isHeight r11 s10 (fun r13 s12 => ((r13 = 0 → p_X5_refusalOfPairs_b103 Q  x0 s12) ∧ (¬ r13 = 0 → ((r6 < 0 → p_X5_refusalOfPairs_b103 Q  x0 s12) ∧ (¬ r6 < 0 → ((r6 ≤ 10 → p_X5_refusalOfPairs_L52 Q  n x0 x2 x4 (x5 + 2) s12) ∧ (¬ r6 ≤ 10 → p_X5_refusalOfPairs_b103 Q  x0 s12)))))))))))
def p_X5_refusalOfPairs (x0 : Nat) (x1 : Int32) (x2 : Int32) (s : Sg) (Q : Int32 → Sg → Prop) : Prop := p_X5_isWoman x0 x1 s (fun r2 s1 => ((r2 = 0 → Q ((-1)) s1) ∧ (¬ r2 = 0 → p_X5_refusalOfItem x0 (tX x0 0) x2 s1 (fun r5 s4 => ((r5 = 0 → ∃ k7, tX x0 0 = some k7 ∧ kX k7 = 3 ∧ p_X4_sizeOf k7 x2 s4 (fun r11 s10 => (((r11 &&& 1) = 0 → (∃ n13, p_X5_refusalOfPairs_L52 Q  n13 x0 x2 r11 0 s10)) ∧ (¬ (r11 &&& 1) = 0 → p_X5_found x0 5 s10 (fun r15 s14 => Q r15 s14))))) ∧ (¬ r5 = 0 → Q r5 s4))))))
set_option maxHeartbeats 4000000 in
set_option maxRecDepth 100000 in
theorem c_X5_refusalOfPairs (l : Launch) (D : va_G) (cs : Cs) (ad : Nat → Nat) (x0 : Nat) (x1 : Int32) (x2 : Int32) (s0 : Sg) (Q : Int32 → Sg → Prop) (hk0 : kX x0 = 4) : Met l yX5_refusalOfPairs wsX5_refusalOfPairs { frames := 4, cells := 0, slots := 0, locals := 86 } (Pc0 bX D cs ad [.ref (ad x0), .int x1, .int x2] s0 (p_X5_refusalOfPairs x0 x1 x2 s0 Q)) (QI bX D cs ad Q) 0 0 (fAd bX ad) := by
  refine Met.ofW (cc := cX5_refusalOfPairs) (maxL := 7) (ret := (some .int)) (by decide) rfl ?_
  intro p e s m args below meth c s₁ B0 hml hv
  obtain ⟨ha, hP, hE, h⟩ := hv
  have hx := B0.exec
  have hb := B0.bytes
  have hr := B0.returns
  have hts := atoms_spec (ws := wsX5_refusalOfPairs) B0.pre
  have hown : s.vm.findClass RX5 = some m.cls := findClass_of_methodNamed B0.named
  have hlocks := B0.notSynchronized
  have hi_X5 : ∀ w ∈ u_ws RX5 TX5 12, w ∈ wsX5_refusalOfPairs := by decide +kernel
  have hS : va_S (fAd bX ad) s.heap s.heap [] := va_S.rf
  have hl := lv_entry ([.ref (ad x0), .int x1, .int x2]) (n := 7) (by first | exact Nat.le_of_ble_eq_true rfl | simp [lg_sl, re_cat, cat_i, cat_l, cat_r])
  rw [show entryFrame m args 7 = entryFrame m ([.ref (ad x0), .int x1, .int x2] : List Value).toArray 7 by rw [ha], lg_entry_eq]
  generalize (lg_sl ([.ref (ad x0), .int x1, .int x2]) ++ List.replicate (7 - (lg_sl ([.ref (ad x0), .int x1, .int x2])).length) Slot.unset).toArray = ls at hl ⊢
  have hl : lv_has ls 7 [(0, .ref (ad x0)), (1, .int x1), (2, .int x2)] := by first | exact hl | simpa [lv_args, re_cat, cat_i, cat_l, cat_r] using hl
  have hB103 : ∀  (σ : Sg) (H : Heap) (locs : List Loc) (ls : Array Slot), p_X5_refusalOfPairs_b103 Q  x0 σ → va_P D vwCl (wl bX cs ad σ) H → va_S (fAd bX ad) s.heap H locs → lv_has ls 7 [(0, .ref (ad x0))] → W p l e { frames := 4, cells := 0, slots := 0, locals := 86 } s m args below meth c H locs 0 0 (MQ below (QI bX D cs ad Q) args s 0 0 (fAd bX ad)) (F0 m 103 ls []) := by
    intro  σ H locs ls h hP hS hl
    unfold p_X5_refusalOfPairs_b103 at h
    refine lv_aload_n hx hb dX5_refusalOfPairs_103 rfl (lv_at hl 0 rfl) ?_
    refine lv_iconst (v := 3) hx hb dX5_refusalOfPairs_104 (by decide) ?_
    refine f_i (kV (As := [.int 3]) (rest := []) (o := some x0) rfl ⟨hx, hb, hml, hown, hts⟩ (c_X5_found l D cs ad x0 3 σ _ hk0) (cwV 1 hts gX5_refusalOfPairs_X5_found rfl rfl rfl (by decide +kernel) ⟨Nat.le_of_ble_eq_true rfl, Nat.le_of_ble_eq_true rfl⟩) hE hP rfl rfl (w_4 hE hk0) h rfl hl.1 rfl (by first | exact lv_room (Nat.le_of_ble_eq_true rfl) | (refine lv_room ?_; simp [re_cat, cat_i, cat_l, cat_r])) dX5_refusalOfPairs_105 ⟨Nat.le_refl _, Nat.le_refl _⟩) hS (fun r2 s1 H locs h hP hS => ?_)
    exact W.iret hx hb hr (fun t ht hW => ⟨⟨_, _, rfl, h, pw ht hP⟩, hS.F ht⟩) hS.2.2 dX5_refusalOfPairs_108
  have hB52 : ∀ (n52 : Nat) (x2 : Int32) (x4 : Int32) (x5 : Int32) (σ : Sg) (H : Heap) (locs : List Loc) (ls : Array Slot), p_X5_refusalOfPairs_L52 Q  n52 x0 x2 x4 x5 σ → va_P D vwCl (wl bX cs ad σ) H → va_S (fAd bX ad) s.heap H locs → lv_has ls 7 [(0, .ref (ad x0)), (2, .int x2), (4, .int x4), (5, .int x5)] → W p l e { frames := 4, cells := 0, slots := 0, locals := 86 } s m args below meth c H locs 0 0 (MQ below (QI bX D cs ad Q) args s 0 0 (fAd bX ad)) (F0 m 52 ls []) := by
    intro n52
    induction n52 with
    | zero =>
      intro x2 x4 x5 σ H locs ls h
      exact h.elim
    | succ n52 ih =>
      have hK52 := ih
      intro x2 x4 x5 σ H locs ls h hP hS hl
      rw [p_X5_refusalOfPairs_L52] at h
      refine lv_iload hx hb dX5_refusalOfPairs_52 (lv_at hl 3 rfl) ?_
      refine lv_iconst (v := 1) hx hb dX5_refusalOfPairs_54 (by decide) ?_
      refine lv_iadd hx hb dX5_refusalOfPairs_55 ?_
      refine lv_iload hx hb dX5_refusalOfPairs_56 (lv_at hl 2 rfl) ?_
      refine lv_icmp_ge (tgt := 115) hx hb dX5_refusalOfPairs_58 (by decide) (fun c1 => ?_) (fun c1 => ?_)
      · replace h := h.1 c1
        refine lv_iconst (v := 0) hx hb dX5_refusalOfPairs_115 (by decide) ?_
        exact W.iret hx hb hr (fun t ht hW => ⟨⟨_, _, rfl, h, pw ht hP⟩, hS.F ht⟩) hS.2.2 dX5_refusalOfPairs_116
      · replace h := h.2 c1
        refine lv_aload_n hx hb dX5_refusalOfPairs_61 rfl (lv_at hl 0 rfl) ?_
        refine va_get (ci := 4) (v := va_re ad (tX x0 0)) (C := RX5) (T := TX5) (N := 12) hx hb hts hi_X5 hown hE.1 hP x0 (w_4 hE hk0) rfl 0 (by decide) (hts (.fieldLink RX5 16 "HemLine" "rows" "LHemLine$Shelf;") (by decide +kernel)) (fun _ h9 => h9) rfl dX5_refusalOfPairs_62 ?_
        refine lv_iload_n hx hb dX5_refusalOfPairs_65 rfl (lv_at hl 1 rfl) ?_
        refine lv_iload hx hb dX5_refusalOfPairs_66 (lv_at hl 3 rfl) ?_
        refine lv_iconst (v := 1) hx hb dX5_refusalOfPairs_68 (by decide) ?_
        refine lv_iadd hx hb dX5_refusalOfPairs_69 ?_
        obtain ⟨k2, e3, q4, h⟩ := h
        refine f_i (kV (As := [.int x2, .int (x5 + 1)]) (rest := []) e3 ⟨hx, hb, hml, hown, hts⟩ (c_X4_cell l D cs ad k2 x2 (x5 + 1) σ _ q4) (cwV 2 hts gX5_refusalOfPairs_X4_cell rfl rfl rfl (by decide +kernel) ⟨Nat.le_of_ble_eq_true rfl, Nat.le_of_ble_eq_true rfl⟩) hE hP rfl rfl (w_3 hE q4) h rfl hl.1 rfl (by first | exact lv_room (Nat.le_of_ble_eq_true rfl) | (refine lv_room ?_; simp [re_cat, cat_i, cat_l, cat_r])) dX5_refusalOfPairs_70 ⟨Nat.le_refl _, Nat.le_refl _⟩) hS (fun r6 s5 H locs h hP hS => ?_)
        refine lv_istore (i := 6) (lv' := [(6, .int r6), (0, .ref (ad x0)), (2, .int x2), (4, .int x4), (5, .int x5)]) hx hb dX5_refusalOfPairs_73 hl (by decide) (by first | rfl | simp [re_cat, cat_i, cat_l, cat_r]) (fun ls hl => ?_)
        refine lv_aload_n hx hb dX5_refusalOfPairs_75 rfl (lv_at hl 1 rfl) ?_
        refine va_get (ci := 4) (v := va_re ad (tX x0 0)) (C := RX5) (T := TX5) (N := 12) hx hb hts hi_X5 hown hE.1 hP x0 (w_4 hE hk0) rfl 0 (by decide) (hts (.fieldLink RX5 16 "HemLine" "rows" "LHemLine$Shelf;") (by decide +kernel)) (fun _ h9 => h9) rfl dX5_refusalOfPairs_76 ?_
        refine lv_iload_n hx hb dX5_refusalOfPairs_79 rfl (lv_at hl 2 rfl) ?_
        refine lv_iload hx hb dX5_refusalOfPairs_80 (lv_at hl 4 rfl) ?_
        obtain ⟨k7, e8, q9, h⟩ := h
        refine f_i (kV (As := [.int x2, .int x5]) (rest := []) e8 ⟨hx, hb, hml, hown, hts⟩ (c_X4_cell l D cs ad k7 x2 x5 s5 _ q9) (cwV 2 hts gX5_refusalOfPairs_X4_cell rfl rfl rfl (by decide +kernel) ⟨Nat.le_of_ble_eq_true rfl, Nat.le_of_ble_eq_true rfl⟩) hE hP rfl rfl (w_3 hE q9) h rfl hl.1 rfl (by first | exact lv_room (Nat.le_of_ble_eq_true rfl) | (refine lv_room ?_; simp [re_cat, cat_i, cat_l, cat_r])) dX5_refusalOfPairs_82 ⟨Nat.le_refl _, Nat.le_refl _⟩) hS (fun r11 s10 H locs h hP hS => ?_)
        refine f_i (kS (As := [.int r11]) (rest := []) ⟨hx, hb, hml, hown, hts⟩ (c_X5_isHeight l D cs ad r11 s10 _) (va_cwS 1 hts gX5_refusalOfPairs_X5_isHeight rfl rfl rfl (by decide +kernel) ⟨Nat.le_of_ble_eq_true rfl, Nat.le_of_ble_eq_true rfl⟩) hE hP h rfl hl.1 rfl (by first | exact lv_room (Nat.le_of_ble_eq_true rfl) | (refine lv_room ?_; simp [re_cat, cat_i, cat_l, cat_r])) dX5_refusalOfPairs_85 ⟨Nat.le_refl _, Nat.le_refl _⟩) hS (fun r13 s12 H locs h hP hS => ?_)
        refine lv_if_eq (tgt := 103) hx hb dX5_refusalOfPairs_88 (by decide) (fun c14 => ?_) (fun c14 => ?_)
        · replace h := h.1 c14
          exact hB103  s12 H locs ls h hP hS (lv_sub hl [1] rfl)
        · replace h := h.2 c14
          refine lv_iload hx hb dX5_refusalOfPairs_91 (lv_at hl 0 rfl) ?_
          refine lv_if_lt (tgt := 103) hx hb dX5_refusalOfPairs_93 (by decide) (fun c15 => ?_) (fun c15 => ?_)
          · replace h := h.1 c15
            exact hB103  s12 H locs ls h hP hS (lv_sub hl [1] rfl)
          · replace h := h.2 c15
            refine lv_iload hx hb dX5_refusalOfPairs_96 (lv_at hl 0 rfl) ?_
            refine lv_bipush (v := 10) hx hb dX5_refusalOfPairs_98 (by decide) ?_
            refine lv_icmp_le (tgt := 109) hx hb dX5_refusalOfPairs_100 (by decide) (fun c16 => ?_) (fun c16 => ?_)
            · replace h := h.1 c16
              refine lv_iinc (v := x5 + 2) (lv' := [(5, .int (x5 + 2)), (6, .int r6), (0, .ref (ad x0)), (2, .int x2), (4, .int x4)]) hx hb dX5_refusalOfPairs_109 hl (k := 4) rfl rfl (by decide) (by first | rfl | simp [re_cat, cat_i, cat_l, cat_r]) (fun ls hl => ?_)
              refine lv_goto (tgt := 52) hx hb dX5_refusalOfPairs_112 (by decide) ?_
              exact ih x2 x4 (x5 + 2) s12 H locs ls h hP hS (lv_sub hl [2, 3, 4, 0] rfl)
            · replace h := h.2 c16
              exact hB103  s12 H locs ls h hP hS (lv_sub hl [1] rfl)
  unfold p_X5_refusalOfPairs at h
  refine lv_aload_n hx hb dX5_refusalOfPairs_0 rfl (lv_at hl 0 rfl) ?_
  refine lv_iload_n hx hb dX5_refusalOfPairs_1 rfl (lv_at hl 1 rfl) ?_
  refine f_i (kV (As := [.int x1]) (rest := []) (o := some x0) rfl ⟨hx, hb, hml, hown, hts⟩ (c_X5_isWoman l D cs ad x0 x1 s0 _ hk0) (cwV 1 hts gX5_refusalOfPairs_X5_isWoman rfl rfl rfl (by decide +kernel) ⟨Nat.le_of_ble_eq_true rfl, Nat.le_of_ble_eq_true rfl⟩) hE hP rfl rfl (w_4 hE hk0) h rfl hl.1 rfl (by first | exact lv_room (Nat.le_of_ble_eq_true rfl) | (refine lv_room ?_; simp [re_cat, cat_i, cat_l, cat_r])) dX5_refusalOfPairs_2 ⟨Nat.le_refl _, Nat.le_refl _⟩) hS (fun r2 s1 H locs h hP hS => ?_)
  refine lv_if_ne (tgt := 10) hx hb dX5_refusalOfPairs_5 (by decide) (fun c3 => ?_) (fun c3 => ?_)
  · replace h := h.2 c3
    refine lv_aload_n hx hb dX5_refusalOfPairs_10 rfl (lv_at hl 0 rfl) ?_
    refine lv_aload_n hx hb dX5_refusalOfPairs_11 rfl (lv_at hl 0 rfl) ?_
    refine va_get (ci := 4) (v := va_re ad (tX x0 0)) (C := RX5) (T := TX5) (N := 12) hx hb hts hi_X5 hown hE.1 hP x0 (w_4 hE hk0) rfl 0 (by decide) (hts (.fieldLink RX5 16 "HemLine" "rows" "LHemLine$Shelf;") (by decide +kernel)) (fun _ h9 => h9) rfl dX5_refusalOfPairs_12 ?_
    refine lv_iload_n hx hb dX5_refusalOfPairs_15 rfl (lv_at hl 2 rfl) ?_
    refine f_i (kV (As := [va_re ad (tX x0 0), .int x2]) (rest := []) (o := some x0) rfl ⟨hx, hb, hml, hown, hts⟩ (c_X5_refusalOfItem l D cs ad x0 (tX x0 0) x2 s1 _ hk0) (cwV 2 hts gX5_refusalOfPairs_X5_refusalOfItem rfl rfl rfl (by decide +kernel) ⟨Nat.le_of_ble_eq_true rfl, Nat.le_of_ble_eq_true rfl⟩) hE hP rfl rfl (w_4 hE hk0) h rfl hl.1 rfl (by first | exact lv_room (Nat.le_of_ble_eq_true rfl) | (refine lv_room ?_; simp [re_cat, cat_i, cat_l, cat_r])) dX5_refusalOfPairs_16 ⟨Nat.le_refl _, Nat.le_refl _⟩) hS (fun r5 s4 H locs h hP hS => ?_)
    refine lv_istore_n (i := 3) (lv' := [(3, .int r5), (0, .ref (ad x0)), (1, .int x1), (2, .int x2)]) hx hb dX5_refusalOfPairs_19 rfl hl (by decide) (by first | rfl | simp [re_cat, cat_i, cat_l, cat_r]) (fun ls hl => ?_)
    refine lv_iload_n hx hb dX5_refusalOfPairs_20 rfl (lv_at hl 0 rfl) ?_
    refine lv_if_eq (tgt := 26) hx hb dX5_refusalOfPairs_21 (by decide) (fun c6 => ?_) (fun c6 => ?_)
    · replace h := h.1 c6
      refine lv_aload_n hx hb dX5_refusalOfPairs_26 rfl (lv_at hl 1 rfl) ?_
      refine va_get (ci := 4) (v := va_re ad (tX x0 0)) (C := RX5) (T := TX5) (N := 12) hx hb hts hi_X5 hown hE.1 hP x0 (w_4 hE hk0) rfl 0 (by decide) (hts (.fieldLink RX5 16 "HemLine" "rows" "LHemLine$Shelf;") (by decide +kernel)) (fun _ h9 => h9) rfl dX5_refusalOfPairs_27 ?_
      refine lv_iload_n hx hb dX5_refusalOfPairs_30 rfl (lv_at hl 3 rfl) ?_
      obtain ⟨k7, e8, q9, h⟩ := h
      refine f_i (kV (As := [.int x2]) (rest := []) e8 ⟨hx, hb, hml, hown, hts⟩ (c_X4_sizeOf l D cs ad k7 x2 s4 _ q9) (cwV 1 hts gX5_refusalOfPairs_X4_sizeOf rfl rfl rfl (by decide +kernel) ⟨Nat.le_of_ble_eq_true rfl, Nat.le_of_ble_eq_true rfl⟩) hE hP rfl rfl (w_3 hE q9) h rfl hl.1 rfl (by first | exact lv_room (Nat.le_of_ble_eq_true rfl) | (refine lv_room ?_; simp [re_cat, cat_i, cat_l, cat_r])) dX5_refusalOfPairs_31 ⟨Nat.le_refl _, Nat.le_refl _⟩) hS (fun r11 s10 H locs h hP hS => ?_)
      refine lv_istore (i := 4) (lv' := [(4, .int r11), (3, .int r5), (0, .ref (ad x0)), (1, .int x1), (2, .int x2)]) hx hb dX5_refusalOfPairs_34 hl (by decide) (by first | rfl | simp [re_cat, cat_i, cat_l, cat_r]) (fun ls hl => ?_)
      refine lv_iload hx hb dX5_refusalOfPairs_36 (lv_at hl 0 rfl) ?_
      refine lv_iconst (v := 1) hx hb dX5_refusalOfPairs_38 (by decide) ?_
      refine lv_iand hx hb dX5_refusalOfPairs_39 ?_
      refine lv_if_eq (tgt := 49) hx hb dX5_refusalOfPairs_40 (by decide) (fun c12 => ?_) (fun c12 => ?_)
      · replace h := h.1 c12
        refine lv_iconst (v := 0) hx hb dX5_refusalOfPairs_49 (by decide) ?_
        refine lv_istore (i := 5) (lv' := [(5, .int 0), (4, .int r11), (3, .int r5), (0, .ref (ad x0)), (1, .int x1), (2, .int x2)]) hx hb dX5_refusalOfPairs_50 hl (by decide) (by first | rfl | simp [re_cat, cat_i, cat_l, cat_r]) (fun ls hl => ?_)
        obtain ⟨n13, h⟩ := h
        exact hB52 n13 x2 r11 0 s10 _ _ ls h hP hS (lv_sub hl [3, 5, 1, 0] rfl)
      · replace h := h.2 c12
        refine lv_aload_n hx hb dX5_refusalOfPairs_43 rfl (lv_at hl 2 rfl) ?_
        refine lv_iconst (v := 5) hx hb dX5_refusalOfPairs_44 (by decide) ?_
        refine f_i (kV (As := [.int 5]) (rest := []) (o := some x0) rfl ⟨hx, hb, hml, hown, hts⟩ (c_X5_found l D cs ad x0 5 s10 _ hk0) (cwV 1 hts gX5_refusalOfPairs_X5_found rfl rfl rfl (by decide +kernel) ⟨Nat.le_of_ble_eq_true rfl, Nat.le_of_ble_eq_true rfl⟩) hE hP rfl rfl (w_4 hE hk0) h rfl hl.1 rfl (by first | exact lv_room (Nat.le_of_ble_eq_true rfl) | (refine lv_room ?_; simp [re_cat, cat_i, cat_l, cat_r])) dX5_refusalOfPairs_45 ⟨Nat.le_refl _, Nat.le_refl _⟩) hS (fun r15 s14 H locs h hP hS => ?_)
        exact W.iret hx hb hr (fun t ht hW => ⟨⟨_, _, rfl, h, pw ht hP⟩, hS.F ht⟩) hS.2.2 dX5_refusalOfPairs_48
    · replace h := h.2 c6
      refine lv_iload_n hx hb dX5_refusalOfPairs_24 rfl (lv_at hl 0 rfl) ?_
      exact W.iret hx hb hr (fun t ht hW => ⟨⟨_, _, rfl, h, pw ht hP⟩, hS.F ht⟩) hS.2.2 dX5_refusalOfPairs_25
  · replace h := h.1 c3
    refine lv_iconst (v := (-1)) hx hb dX5_refusalOfPairs_8 (by decide) ?_
    exact W.iret hx hb hr (fun t ht hW => ⟨⟨_, _, rfl, h, pw ht hP⟩, hS.F ht⟩) hS.2.2 dX5_refusalOfPairs_9
def p_X5_kinds (x0 : Nat) (x1 : Int32) (x2 : Int32) (s : Sg) (Q : Int32 → Sg → Prop) : Prop := p_X5_refusalOfPairs x0 x1 x2 s (fun r2 s1 => ((r2 = 0 → p_X5_kindsBy x0 x1 x2 s1 (fun r5 s4 => Q r5 s4)) ∧ (¬ r2 = 0 → Q r2 s1)))
set_option maxHeartbeats 4000000 in
set_option maxRecDepth 100000 in
theorem c_X5_kinds (l : Launch) (D : va_G) (cs : Cs) (ad : Nat → Nat) (x0 : Nat) (x1 : Int32) (x2 : Int32) (s0 : Sg) (Q : Int32 → Sg → Prop) (hk0 : kX x0 = 4) : Met l yX5_kinds wsX5_kinds { frames := 6, cells := 0, slots := 0, locals := 136 } (Pc0 bX D cs ad [.ref (ad x0), .int x1, .int x2] s0 (p_X5_kinds x0 x1 x2 s0 Q)) (QI bX D cs ad Q) 0 0 (fAd bX ad) := by
  refine Met.ofW (cc := cX5_kinds) (maxL := 4) (ret := (some .int)) (by decide) rfl ?_
  intro p e s m args below meth c s₁ B0 hml hv
  obtain ⟨ha, hP, hE, h⟩ := hv
  have hx := B0.exec
  have hb := B0.bytes
  have hr := B0.returns
  have hts := atoms_spec (ws := wsX5_kinds) B0.pre
  have hown : s.vm.findClass RX5 = some m.cls := findClass_of_methodNamed B0.named
  have hlocks := B0.notSynchronized
  have hS : va_S (fAd bX ad) s.heap s.heap [] := va_S.rf
  have hl := lv_entry ([.ref (ad x0), .int x1, .int x2]) (n := 4) (by first | exact Nat.le_of_ble_eq_true rfl | simp [lg_sl, re_cat, cat_i, cat_l, cat_r])
  rw [show entryFrame m args 4 = entryFrame m ([.ref (ad x0), .int x1, .int x2] : List Value).toArray 4 by rw [ha], lg_entry_eq]
  generalize (lg_sl ([.ref (ad x0), .int x1, .int x2]) ++ List.replicate (4 - (lg_sl ([.ref (ad x0), .int x1, .int x2])).length) Slot.unset).toArray = ls at hl ⊢
  have hl : lv_has ls 4 [(0, .ref (ad x0)), (1, .int x1), (2, .int x2)] := by first | exact hl | simpa [lv_args, re_cat, cat_i, cat_l, cat_r] using hl
  unfold p_X5_kinds at h
  refine lv_aload_n hx hb dX5_kinds_0 rfl (lv_at hl 0 rfl) ?_
  refine lv_iload_n hx hb dX5_kinds_1 rfl (lv_at hl 1 rfl) ?_
  refine lv_iload_n hx hb dX5_kinds_2 rfl (lv_at hl 2 rfl) ?_
  refine f_i (kV (As := [.int x1, .int x2]) (rest := []) (o := some x0) rfl ⟨hx, hb, hml, hown, hts⟩ (c_X5_refusalOfPairs l D cs ad x0 x1 x2 s0 _ hk0) (cwV 2 hts gX5_kinds_X5_refusalOfPairs rfl rfl rfl (by decide +kernel) ⟨Nat.le_of_ble_eq_true rfl, Nat.le_of_ble_eq_true rfl⟩) hE hP rfl rfl (w_4 hE hk0) h rfl hl.1 rfl (by first | exact lv_room (Nat.le_of_ble_eq_true rfl) | (refine lv_room ?_; simp [re_cat, cat_i, cat_l, cat_r])) dX5_kinds_3 ⟨Nat.le_refl _, Nat.le_refl _⟩) hS (fun r2 s1 H locs h hP hS => ?_)
  refine lv_istore_n (i := 3) (lv' := [(3, .int r2), (0, .ref (ad x0)), (1, .int x1), (2, .int x2)]) hx hb dX5_kinds_6 rfl hl (by decide) (by first | rfl | simp [re_cat, cat_i, cat_l, cat_r]) (fun ls hl => ?_)
  refine lv_iload_n hx hb dX5_kinds_7 rfl (lv_at hl 0 rfl) ?_
  refine lv_if_eq (tgt := 15) hx hb dX5_kinds_8 (by decide) (fun c3 => ?_) (fun c3 => ?_)
  · replace h := h.1 c3
    refine lv_aload_n hx hb dX5_kinds_15 rfl (lv_at hl 1 rfl) ?_
    refine lv_iload_n hx hb dX5_kinds_16 rfl (lv_at hl 2 rfl) ?_
    refine lv_iload_n hx hb dX5_kinds_17 rfl (lv_at hl 3 rfl) ?_
    refine f_i (kV (As := [.int x1, .int x2]) (rest := []) (o := some x0) rfl ⟨hx, hb, hml, hown, hts⟩ (c_X5_kindsBy l D cs ad x0 x1 x2 s1 _ hk0) (cwV 2 hts gX5_kinds_X5_kindsBy rfl rfl rfl (by decide +kernel) ⟨Nat.le_of_ble_eq_true rfl, Nat.le_of_ble_eq_true rfl⟩) hE hP rfl rfl (w_4 hE hk0) h rfl hl.1 rfl (by first | exact lv_room (Nat.le_of_ble_eq_true rfl) | (refine lv_room ?_; simp [re_cat, cat_i, cat_l, cat_r])) dX5_kinds_18 ⟨Nat.le_refl _, Nat.le_refl _⟩) hS (fun r5 s4 H locs h hP hS => ?_)
    exact W.iret hx hb hr (fun t ht hW => ⟨⟨_, _, rfl, h, pw ht hP⟩, hS.F ht⟩) hS.2.2 dX5_kinds_21
  · replace h := h.2 c3
    refine lv_iload_n hx hb dX5_kinds_11 rfl (lv_at hl 0 rfl) ?_
    refine lv_goto (tgt := 21) hx hb dX5_kinds_12 (by decide) ?_
    exact W.iret hx hb hr (fun t ht hW => ⟨⟨_, _, rfl, h, pw ht hP⟩, hS.F ht⟩) hS.2.2 dX5_kinds_21
def p_X5_greatestPartOfKinds_b52 (Q : Int32 → Sg → Prop) (K14 : Nat → Int32 → Int32 → Int32 → Int32 → Int32 → Sg → Prop) (x0 : Nat) (x1 : Int32) (x2 : Int32) (x3 : Int32) (x4 : Int32) (x5 : Int32) (s : Sg) : Prop := K14 x0 x1 x2 x3 x4 (x5 + 1) s
def p_X5_greatestPartOfKinds_L14 (Q : Int32 → Sg → Prop)  : Nat → Nat → Int32 → Int32 → Int32 → Int32 → Int32 → Sg → Prop
  | 0, _, _, _, _, _, _, _ => False
  | n + 1, x0, x1, x2, x3, x4, x5, s => ((6 ≤ x5 → Q x4 s) ∧ (¬ 6 ≤ x5 → p_X5_hasBit x3 x5 s (fun r3 s2 => ((r3 = 0 → p_X5_greatestPartOfKinds_b52 Q (fun y0 y1 y2 y3 y4 y5 u => p_X5_greatestPartOfKinds_L14 Q  n y0 y1 y2 y3 y4 y5 u) x0 x1 x2 x3 x4 x5 s2) ∧ (¬ r3 = 0 → ∃ k5, tX x0 3 = some k5 ∧ kX k5 = 0 ∧ p_X0_hemIfNow k5 x1 x2 x5 s2 (fun r9 s8 => p_X5_oneMoreAlike x0 r9 s8 (fun r11 s10 => p_X5_greatestPartOfKinds_b52 Q (fun y0 y1 y2 y3 y4 y5 u => p_X5_greatestPartOfKinds_L14 Q  n y0 y1 y2 y3 y4 y5 u) x0 x1 x2 x3 ((if x4 < r11 then r11 else x4)) x5 s10)))))))
def p_X5_greatestPartOfKinds (x0 : Nat) (x1 : Int32) (x2 : Int32) (x3 : Int32) (s : Sg) (Q : Int32 → Sg → Prop) : Prop := p_J7_fill_53178 bX (tX x0 6) 0 s (fun s1 => (∃ n2, p_X5_greatestPartOfKinds_L14 Q  n2 x0 x1 x2 x3 0 0 s1))
set_option maxHeartbeats 4000000 in
set_option maxRecDepth 100000 in
theorem c_X5_greatestPartOfKinds (l : Launch) (D : va_G) (cs : Cs) (ad : Nat → Nat) (x0 : Nat) (x1 : Int32) (x2 : Int32) (x3 : Int32) (s0 : Sg) (Q : Int32 → Sg → Prop) (hk0 : kX x0 = 4) : Met l yX5_greatestPartOfKinds wsX5_greatestPartOfKinds { frames := 4, cells := 0, slots := 0, locals := 87 } (Pc0 bX D cs ad [.ref (ad x0), .int x1, .int x2, .int x3] s0 (p_X5_greatestPartOfKinds x0 x1 x2 x3 s0 Q)) (QI bX D cs ad Q) 0 0 (fAd bX ad) := by
  refine Met.ofW (cc := cX5_greatestPartOfKinds) (maxL := 6) (ret := (some .int)) (by decide) rfl ?_
  intro p e s m args below meth c s₁ B0 hml hv
  obtain ⟨ha, hP, hE, h⟩ := hv
  have hx := B0.exec
  have hb := B0.bytes
  have hr := B0.returns
  have hts := atoms_spec (ws := wsX5_greatestPartOfKinds) B0.pre
  have hown : s.vm.findClass RX5 = some m.cls := findClass_of_methodNamed B0.named
  have hlocks := B0.notSynchronized
  have hi_X5 : ∀ w ∈ u_ws RX5 TX5 12, w ∈ wsX5_greatestPartOfKinds := by decide +kernel
  have hS : va_S (fAd bX ad) s.heap s.heap [] := va_S.rf
  have hl := lv_entry ([.ref (ad x0), .int x1, .int x2, .int x3]) (n := 6) (by first | exact Nat.le_of_ble_eq_true rfl | simp [lg_sl, re_cat, cat_i, cat_l, cat_r])
  rw [show entryFrame m args 6 = entryFrame m ([.ref (ad x0), .int x1, .int x2, .int x3] : List Value).toArray 6 by rw [ha], lg_entry_eq]
  generalize (lg_sl ([.ref (ad x0), .int x1, .int x2, .int x3]) ++ List.replicate (6 - (lg_sl ([.ref (ad x0), .int x1, .int x2, .int x3])).length) Slot.unset).toArray = ls at hl ⊢
  have hl : lv_has ls 6 [(0, .ref (ad x0)), (1, .int x1), (2, .int x2), (3, .int x3)] := by first | exact hl | simpa [lv_args, re_cat, cat_i, cat_l, cat_r] using hl
  have hB14 : ∀ (n14 : Nat) (x1 : Int32) (x2 : Int32) (x3 : Int32) (x4 : Int32) (x5 : Int32) (σ : Sg) (H : Heap) (locs : List Loc) (ls : Array Slot), p_X5_greatestPartOfKinds_L14 Q  n14 x0 x1 x2 x3 x4 x5 σ → va_P D vwCl (wl bX cs ad σ) H → va_S (fAd bX ad) s.heap H locs → lv_has ls 6 [(0, .ref (ad x0)), (1, .int x1), (2, .int x2), (3, .int x3), (4, .int x4), (5, .int x5)] → W p l e { frames := 4, cells := 0, slots := 0, locals := 87 } s m args below meth c H locs 0 0 (MQ below (QI bX D cs ad Q) args s 0 0 (fAd bX ad)) (F0 m 14 ls []) := by
    intro n14
    induction n14 with
    | zero =>
      intro x1 x2 x3 x4 x5 σ H locs ls h
      exact h.elim
    | succ n14 ih =>
      have hK14 := ih
      have hB52 : ∀ (x1 : Int32) (x2 : Int32) (x3 : Int32) (x4 : Int32) (x5 : Int32) (σ : Sg) (H : Heap) (locs : List Loc) (ls : Array Slot), p_X5_greatestPartOfKinds_b52 Q (fun y0 y1 y2 y3 y4 y5 u => p_X5_greatestPartOfKinds_L14 Q  n14 y0 y1 y2 y3 y4 y5 u) x0 x1 x2 x3 x4 x5 σ → va_P D vwCl (wl bX cs ad σ) H → va_S (fAd bX ad) s.heap H locs → lv_has ls 6 [(0, .ref (ad x0)), (1, .int x1), (2, .int x2), (3, .int x3), (4, .int x4), (5, .int x5)] → W p l e { frames := 4, cells := 0, slots := 0, locals := 87 } s m args below meth c H locs 0 0 (MQ below (QI bX D cs ad Q) args s 0 0 (fAd bX ad)) (F0 m 52 ls []) := by
        intro x1 x2 x3 x4 x5 σ H locs ls h hP hS hl
        unfold p_X5_greatestPartOfKinds_b52 at h
        refine lv_iinc (v := x5 + 1) (lv' := [(5, .int (x5 + 1)), (0, .ref (ad x0)), (1, .int x1), (2, .int x2), (3, .int x3), (4, .int x4)]) hx hb dX5_greatestPartOfKinds_52 hl (k := 5) rfl rfl (by decide) (by first | rfl | simp [re_cat, cat_i, cat_l, cat_r]) (fun ls hl => ?_)
        refine lv_goto (tgt := 14) hx hb dX5_greatestPartOfKinds_55 (by decide) ?_
        exact hK14 x1 x2 x3 x4 (x5 + 1) σ H locs ls h hP hS (lv_sub hl [1, 2, 3, 4, 5, 0] rfl)
      intro x1 x2 x3 x4 x5 σ H locs ls h hP hS hl
      rw [p_X5_greatestPartOfKinds_L14] at h
      refine lv_iload hx hb dX5_greatestPartOfKinds_14 (lv_at hl 5 rfl) ?_
      refine lv_bipush (v := 6) hx hb dX5_greatestPartOfKinds_16 (by decide) ?_
      refine lv_icmp_ge (tgt := 58) hx hb dX5_greatestPartOfKinds_18 (by decide) (fun c1 => ?_) (fun c1 => ?_)
      · replace h := h.1 c1
        refine lv_iload hx hb dX5_greatestPartOfKinds_58 (lv_at hl 4 rfl) ?_
        exact W.iret hx hb hr (fun t ht hW => ⟨⟨_, _, rfl, h, pw ht hP⟩, hS.F ht⟩) hS.2.2 dX5_greatestPartOfKinds_60
      · replace h := h.2 c1
        refine lv_iload_n hx hb dX5_greatestPartOfKinds_21 rfl (lv_at hl 3 rfl) ?_
        refine lv_iload hx hb dX5_greatestPartOfKinds_22 (lv_at hl 5 rfl) ?_
        refine f_i (kS (As := [.int x3, .int x5]) (rest := []) ⟨hx, hb, hml, hown, hts⟩ (c_X5_hasBit l D cs ad x3 x5 σ _) (va_cwS 2 hts gX5_greatestPartOfKinds_X5_hasBit rfl rfl rfl (by decide +kernel) ⟨Nat.le_of_ble_eq_true rfl, Nat.le_of_ble_eq_true rfl⟩) hE hP h rfl hl.1 rfl (by first | exact lv_room (Nat.le_of_ble_eq_true rfl) | (refine lv_room ?_; simp [re_cat, cat_i, cat_l, cat_r])) dX5_greatestPartOfKinds_24 ⟨Nat.le_refl _, Nat.le_refl _⟩) hS (fun r3 s2 H locs h hP hS => ?_)
        refine lv_if_eq (tgt := 52) hx hb dX5_greatestPartOfKinds_27 (by decide) (fun c4 => ?_) (fun c4 => ?_)
        · replace h := h.1 c4
          exact hB52 x1 x2 x3 x4 x5 s2 H locs ls h hP hS (lv_sub hl [0, 1, 2, 3, 4, 5] rfl)
        · replace h := h.2 c4
          refine lv_iload hx hb dX5_greatestPartOfKinds_30 (lv_at hl 4 rfl) ?_
          refine lv_aload_n hx hb dX5_greatestPartOfKinds_32 rfl (lv_at hl 0 rfl) ?_
          refine lv_aload_n hx hb dX5_greatestPartOfKinds_33 rfl (lv_at hl 0 rfl) ?_
          refine va_get (ci := 4) (v := va_re ad (tX x0 3)) (C := RX5) (T := TX5) (N := 12) hx hb hts hi_X5 hown hE.1 hP x0 (w_4 hE hk0) rfl 3 (by decide) (hts (.fieldLink RX5 33 "HemLine" "now" "LHemLine$Delta;") (by decide +kernel)) (fun _ h9 => h9) rfl dX5_greatestPartOfKinds_34 ?_
          refine lv_iload_n hx hb dX5_greatestPartOfKinds_37 rfl (lv_at hl 1 rfl) ?_
          refine lv_iload_n hx hb dX5_greatestPartOfKinds_38 rfl (lv_at hl 2 rfl) ?_
          refine lv_iload hx hb dX5_greatestPartOfKinds_39 (lv_at hl 5 rfl) ?_
          obtain ⟨k5, e6, q7, h⟩ := h
          refine f_i (kV (As := [.int x1, .int x2, .int x5]) (rest := [.ref (ad x0), .int x4]) e6 ⟨hx, hb, hml, hown, hts⟩ (c_X0_hemIfNow l D cs ad k5 x1 x2 x5 s2 _ q7) (cwV 3 hts gX5_greatestPartOfKinds_X0_hemIfNow rfl rfl rfl (by decide +kernel) ⟨Nat.le_of_ble_eq_true rfl, Nat.le_of_ble_eq_true rfl⟩) hE hP rfl rfl (w_0 hE q7) h rfl hl.1 rfl (by first | exact lv_room (Nat.le_of_ble_eq_true rfl) | (refine lv_room ?_; simp [re_cat, cat_i, cat_l, cat_r])) dX5_greatestPartOfKinds_41 ⟨Nat.le_refl _, Nat.le_refl _⟩) hS (fun r9 s8 H locs h hP hS => ?_)
          refine f_i (kV (As := [.int r9]) (rest := [.int x4]) (o := some x0) rfl ⟨hx, hb, hml, hown, hts⟩ (c_X5_oneMoreAlike l D cs ad x0 r9 s8 _ hk0) (cwV 1 hts gX5_greatestPartOfKinds_X5_oneMoreAlike rfl rfl rfl (by decide +kernel) ⟨Nat.le_of_ble_eq_true rfl, Nat.le_of_ble_eq_true rfl⟩) hE hP rfl rfl (w_4 hE hk0) h rfl hl.1 rfl (by first | exact lv_room (Nat.le_of_ble_eq_true rfl) | (refine lv_room ?_; simp [re_cat, cat_i, cat_l, cat_r])) dX5_greatestPartOfKinds_44 ⟨Nat.le_refl _, Nat.le_refl _⟩) hS (fun r11 s10 H locs h hP hS => ?_)
          refine va_mmax hx hb (hml.trans hl.1.symm) hown (hts (.methodLink RX5 266 Lib.Math.max.name) (by decide +kernel)) (hts (.static Lib.Math.max.name) (by decide +kernel)) (hts (.initialized "java/lang/Math") (by decide +kernel)) (hts (.code Lib.Math.max.name Lib.Math.max.code 2 (some .int)) (by decide +kernel)) (Nat.le_of_ble_eq_true rfl) (by first | exact Nat.le_of_ble_eq_true rfl | (simp only [List.map, re_cat, cat_i, cat_l, cat_r, List.sum_cons, List.sum_nil]; exact Nat.le_of_ble_eq_true rfl)) (Nat.le_refl _) (Nat.le_refl _) dX5_greatestPartOfKinds_47 ?_
          refine lv_istore (i := 4) (lv' := [(4, .int ((if x4 < r11 then r11 else x4))), (0, .ref (ad x0)), (1, .int x1), (2, .int x2), (3, .int x3), (5, .int x5)]) hx hb dX5_greatestPartOfKinds_50 hl (by decide) (by first | rfl | simp [re_cat, cat_i, cat_l, cat_r]) (fun ls hl => ?_)
          exact hB52 x1 x2 x3 ((if x4 < r11 then r11 else x4)) x5 s10 H locs ls h hP hS (lv_sub hl [1, 2, 3, 4, 0, 5] rfl)
  unfold p_X5_greatestPartOfKinds at h
  refine lv_aload_n hx hb dX5_greatestPartOfKinds_0 rfl (lv_at hl 0 rfl) ?_
  refine va_get (ci := 4) (v := va_re ad (tX x0 6)) (C := RX5) (T := TX5) (N := 12) hx hb hts hi_X5 hown hE.1 hP x0 (w_4 hE hk0) rfl 6 (by decide) (hts (.fieldLink RX5 48 "HemLine" "tally" "[I") (by decide +kernel)) (fun _ h9 => h9) rfl dX5_greatestPartOfKinds_1 ?_
  refine lv_iconst (v := 0) hx hb dX5_greatestPartOfKinds_4 (by decide) ?_
  refine f_v (kS (As := [va_re ad (tX x0 6), .int 0]) (rest := []) ⟨hx, hb, hml, hown, hts⟩ (c_J7_fill_53178 l bX D cs ad (tX x0 6) 0 s0 _) (va_cwS 2 hts gX5_greatestPartOfKinds_J7_fill_53178 rfl rfl rfl (by decide +kernel) ⟨Nat.le_of_ble_eq_true rfl, Nat.le_of_ble_eq_true rfl⟩) hE hP h rfl hl.1 rfl (by first | exact lv_room (Nat.le_of_ble_eq_true rfl) | (refine lv_room ?_; simp [re_cat, cat_i, cat_l, cat_r])) dX5_greatestPartOfKinds_5 ⟨Nat.le_refl _, Nat.le_refl _⟩) hS (fun s1 H locs h hP hS => ?_)
  refine lv_iconst (v := 0) hx hb dX5_greatestPartOfKinds_8 (by decide) ?_
  refine lv_istore (i := 4) (lv' := [(4, .int 0), (0, .ref (ad x0)), (1, .int x1), (2, .int x2), (3, .int x3)]) hx hb dX5_greatestPartOfKinds_9 hl (by decide) (by first | rfl | simp [re_cat, cat_i, cat_l, cat_r]) (fun ls hl => ?_)
  refine lv_iconst (v := 0) hx hb dX5_greatestPartOfKinds_11 (by decide) ?_
  refine lv_istore (i := 5) (lv' := [(5, .int 0), (4, .int 0), (0, .ref (ad x0)), (1, .int x1), (2, .int x2), (3, .int x3)]) hx hb dX5_greatestPartOfKinds_12 hl (by decide) (by first | rfl | simp [re_cat, cat_i, cat_l, cat_r]) (fun ls hl => ?_)
  obtain ⟨n2, h⟩ := h
  exact hB14 n2 x1 x2 x3 0 0 s1 _ _ ls h hP hS (lv_sub hl [2, 3, 4, 5, 1, 0] rfl)
def p_X5_test_b78 (Q : Int32 → Sg → Prop) (K45 : Nat → Int32 → Int32 → Int32 → Int32 → Int32 → Sg → Prop) (x0 : Nat) (x1 : Int32) (x4 : Int32) (x5 : Int32) (x6 : Int32) (x7 : Int32) (s : Sg) : Prop := K45 x0 x1 x4 x5 x6 (x7 + 1) s
def p_X5_test_L45 (Q : Int32 → Sg → Prop)  : Nat → Nat → Int32 → Int32 → Int32 → Int32 → Int32 → Sg → Prop
  | 0, _, _, _, _, _, _, _ => False
  | n + 1, x0, x1, x4, x5, x6, x7, s => ((20 < x7 → Q x5 (setI s x0 9 x6)) ∧ (¬ 20 < x7 → p_X5_greatestPartOfKinds x0 x1 x7 x4 s (fun r3 s2 => ((x6 ≤ r3 → p_X5_test_b78 Q (fun y0 y1 y4 y5 y6 y7 u => p_X5_test_L45 Q  n y0 y1 y4 y5 y6 y7 u) x0 x1 x4 x5 x6 x7 s2) ∧ (¬ x6 ≤ r3 → p_X5_test_b78 Q (fun y0 y1 y4 y5 y6 y7 u => p_X5_test_L45 Q  n y0 y1 y4 y5 y6 y7 u) x0 x1 x4 x7 r3 x7 s2)))))
def p_X5_test (x0 : Nat) (x1 : Int32) (x2 : Int32) (s : Sg) (Q : Int32 → Sg → Prop) : Prop := p_X5_refusalOfPairs x0 x1 x2 s (fun r2 s1 => ((r2 = 0 → p_X5_kindsBy x0 x1 x2 s1 (fun r5 s4 => ((r5 = 0 → Q ((-9)) s4) ∧ (¬ r5 = 0 → p_X5_greatestPartOfKinds x0 x1 0 r5 s4 (fun r8 s7 => (∃ n9, p_X5_test_L45 Q  n9 x0 x1 r5 0 r8 1 s7)))))) ∧ (¬ r2 = 0 → Q r2 s1)))
set_option maxHeartbeats 4000000 in
set_option maxRecDepth 100000 in
theorem c_X5_test (l : Launch) (D : va_G) (cs : Cs) (ad : Nat → Nat) (x0 : Nat) (x1 : Int32) (x2 : Int32) (s0 : Sg) (Q : Int32 → Sg → Prop) (hk0 : kX x0 = 4) : Met l yX5_test wsX5_test { frames := 6, cells := 0, slots := 0, locals := 136 } (Pc0 bX D cs ad [.ref (ad x0), .int x1, .int x2] s0 (p_X5_test x0 x1 x2 s0 Q)) (QI bX D cs ad Q) 0 0 (fAd bX ad) := by
  refine Met.ofW (cc := cX5_test) (maxL := 9) (ret := (some .int)) (by decide) rfl ?_
  intro p e s m args below meth c s₁ B0 hml hv
  obtain ⟨ha, hP, hE, h⟩ := hv
  have hx := B0.exec
  have hb := B0.bytes
  have hr := B0.returns
  have hts := atoms_spec (ws := wsX5_test) B0.pre
  have hown : s.vm.findClass RX5 = some m.cls := findClass_of_methodNamed B0.named
  have hlocks := B0.notSynchronized
  have hi_X5 : ∀ w ∈ u_ws RX5 TX5 12, w ∈ wsX5_test := by decide +kernel
  have hS : va_S (fAd bX ad) s.heap s.heap [] := va_S.rf
  have hl := lv_entry ([.ref (ad x0), .int x1, .int x2]) (n := 9) (by first | exact Nat.le_of_ble_eq_true rfl | simp [lg_sl, re_cat, cat_i, cat_l, cat_r])
  rw [show entryFrame m args 9 = entryFrame m ([.ref (ad x0), .int x1, .int x2] : List Value).toArray 9 by rw [ha], lg_entry_eq]
  generalize (lg_sl ([.ref (ad x0), .int x1, .int x2]) ++ List.replicate (9 - (lg_sl ([.ref (ad x0), .int x1, .int x2])).length) Slot.unset).toArray = ls at hl ⊢
  have hl : lv_has ls 9 [(0, .ref (ad x0)), (1, .int x1), (2, .int x2)] := by first | exact hl | simpa [lv_args, re_cat, cat_i, cat_l, cat_r] using hl
  have hB45 : ∀ (n45 : Nat) (x1 : Int32) (x4 : Int32) (x5 : Int32) (x6 : Int32) (x7 : Int32) (σ : Sg) (H : Heap) (locs : List Loc) (ls : Array Slot), p_X5_test_L45 Q  n45 x0 x1 x4 x5 x6 x7 σ → va_P D vwCl (wl bX cs ad σ) H → va_S (fAd bX ad) s.heap H locs → lv_has ls 9 [(0, .ref (ad x0)), (1, .int x1), (4, .int x4), (5, .int x5), (6, .int x6), (7, .int x7)] → W p l e { frames := 6, cells := 0, slots := 0, locals := 136 } s m args below meth c H locs 0 0 (MQ below (QI bX D cs ad Q) args s 0 0 (fAd bX ad)) (F0 m 45 ls []) := by
    intro n45
    induction n45 with
    | zero =>
      intro x1 x4 x5 x6 x7 σ H locs ls h
      exact h.elim
    | succ n45 ih =>
      have hK45 := ih
      have hB78 : ∀ (x1 : Int32) (x4 : Int32) (x5 : Int32) (x6 : Int32) (x7 : Int32) (σ : Sg) (H : Heap) (locs : List Loc) (ls : Array Slot), p_X5_test_b78 Q (fun y0 y1 y4 y5 y6 y7 u => p_X5_test_L45 Q  n45 y0 y1 y4 y5 y6 y7 u) x0 x1 x4 x5 x6 x7 σ → va_P D vwCl (wl bX cs ad σ) H → va_S (fAd bX ad) s.heap H locs → lv_has ls 9 [(0, .ref (ad x0)), (1, .int x1), (4, .int x4), (5, .int x5), (6, .int x6), (7, .int x7)] → W p l e { frames := 6, cells := 0, slots := 0, locals := 136 } s m args below meth c H locs 0 0 (MQ below (QI bX D cs ad Q) args s 0 0 (fAd bX ad)) (F0 m 78 ls []) := by
        intro x1 x4 x5 x6 x7 σ H locs ls h hP hS hl
        unfold p_X5_test_b78 at h
        refine lv_iinc (v := x7 + 1) (lv' := [(7, .int (x7 + 1)), (0, .ref (ad x0)), (1, .int x1), (4, .int x4), (5, .int x5), (6, .int x6)]) hx hb dX5_test_78 hl (k := 5) rfl rfl (by decide) (by first | rfl | simp [re_cat, cat_i, cat_l, cat_r]) (fun ls hl => ?_)
        refine lv_goto (tgt := 45) hx hb dX5_test_81 (by decide) ?_
        exact hK45 x1 x4 x5 x6 (x7 + 1) σ H locs ls h hP hS (lv_sub hl [1, 2, 3, 4, 5, 0] rfl)
      intro x1 x4 x5 x6 x7 σ H locs ls h hP hS hl
      rw [p_X5_test_L45] at h
      refine lv_iload hx hb dX5_test_45 (lv_at hl 5 rfl) ?_
      refine lv_bipush (v := 20) hx hb dX5_test_47 (by decide) ?_
      refine lv_icmp_gt (tgt := 84) hx hb dX5_test_49 (by decide) (fun c1 => ?_) (fun c1 => ?_)
      · replace h := h.1 c1
        refine lv_aload_n hx hb dX5_test_84 rfl (lv_at hl 0 rfl) ?_
        refine lv_iload hx hb dX5_test_85 (lv_at hl 4 rfl) ?_
        refine r_put (σ' := (setI σ x0 9 x6)) (ci := 4) (v := .int x6) (ty := .int) (C := RX5) (T := TX5) (N := 12) hx hb hts hi_X5 tyX5 tyX5_ok nmX5 hown hE hP hS x0 (w_4 hE hk0) rfl 9 (by decide) (hts (.fieldLink RX5 71 "HemLine" "told" "I") (by decide +kernel)) (fun _ h9 => h9) rfl (by decide +kernel) rfl rfl (Nat.le_of_ble_eq_true rfl) dX5_test_87 (st_4_9 hE hk0 _) (fun H locs hP hS => ?_)
        refine lv_iload hx hb dX5_test_90 (lv_at hl 3 rfl) ?_
        exact W.iret hx hb hr (fun t ht hW => ⟨⟨_, _, rfl, h, pw ht hP⟩, hS.F ht⟩) hS.2.2 dX5_test_92
      · replace h := h.2 c1
        refine lv_aload_n hx hb dX5_test_52 rfl (lv_at hl 0 rfl) ?_
        refine lv_iload_n hx hb dX5_test_53 rfl (lv_at hl 1 rfl) ?_
        refine lv_iload hx hb dX5_test_54 (lv_at hl 5 rfl) ?_
        refine lv_iload hx hb dX5_test_56 (lv_at hl 2 rfl) ?_
        refine f_i (kV (As := [.int x1, .int x7, .int x4]) (rest := []) (o := some x0) rfl ⟨hx, hb, hml, hown, hts⟩ (c_X5_greatestPartOfKinds l D cs ad x0 x1 x7 x4 σ _ hk0) (cwV 3 hts gX5_test_X5_greatestPartOfKinds rfl rfl rfl (by decide +kernel) ⟨Nat.le_of_ble_eq_true rfl, Nat.le_of_ble_eq_true rfl⟩) hE hP rfl rfl (w_4 hE hk0) h rfl hl.1 rfl (by first | exact lv_room (Nat.le_of_ble_eq_true rfl) | (refine lv_room ?_; simp [re_cat, cat_i, cat_l, cat_r])) dX5_test_58 ⟨Nat.le_refl _, Nat.le_refl _⟩) hS (fun r3 s2 H locs h hP hS => ?_)
        refine lv_istore (i := 8) (lv' := [(8, .int r3), (0, .ref (ad x0)), (1, .int x1), (4, .int x4), (5, .int x5), (6, .int x6), (7, .int x7)]) hx hb dX5_test_61 hl (by decide) (by first | rfl | simp [re_cat, cat_i, cat_l, cat_r]) (fun ls hl => ?_)
        refine lv_iload hx hb dX5_test_63 (lv_at hl 0 rfl) ?_
        refine lv_iload hx hb dX5_test_65 (lv_at hl 5 rfl) ?_
        refine lv_icmp_ge (tgt := 78) hx hb dX5_test_67 (by decide) (fun c4 => ?_) (fun c4 => ?_)
        · replace h := h.1 c4
          exact hB78 x1 x4 x5 x6 x7 s2 H locs ls h hP hS (lv_sub hl [1, 2, 3, 4, 5, 6] rfl)
        · replace h := h.2 c4
          refine lv_iload hx hb dX5_test_70 (lv_at hl 6 rfl) ?_
          refine lv_istore (i := 5) (lv' := [(5, .int x7), (8, .int r3), (0, .ref (ad x0)), (1, .int x1), (4, .int x4), (6, .int x6), (7, .int x7)]) hx hb dX5_test_72 hl (by decide) (by first | rfl | simp [re_cat, cat_i, cat_l, cat_r]) (fun ls hl => ?_)
          refine lv_iload hx hb dX5_test_74 (lv_at hl 1 rfl) ?_
          refine lv_istore (i := 6) (lv' := [(6, .int r3), (5, .int x7), (8, .int r3), (0, .ref (ad x0)), (1, .int x1), (4, .int x4), (7, .int x7)]) hx hb dX5_test_76 hl (by decide) (by first | rfl | simp [re_cat, cat_i, cat_l, cat_r]) (fun ls hl => ?_)
          exact hB78 x1 x4 x7 r3 x7 s2 H locs ls h hP hS (lv_sub hl [3, 4, 5, 1, 0, 6] rfl)
  unfold p_X5_test at h
  refine lv_aload_n hx hb dX5_test_0 rfl (lv_at hl 0 rfl) ?_
  refine lv_iload_n hx hb dX5_test_1 rfl (lv_at hl 1 rfl) ?_
  refine lv_iload_n hx hb dX5_test_2 rfl (lv_at hl 2 rfl) ?_
  refine f_i (kV (As := [.int x1, .int x2]) (rest := []) (o := some x0) rfl ⟨hx, hb, hml, hown, hts⟩ (c_X5_refusalOfPairs l D cs ad x0 x1 x2 s0 _ hk0) (cwV 2 hts gX5_test_X5_refusalOfPairs rfl rfl rfl (by decide +kernel) ⟨Nat.le_of_ble_eq_true rfl, Nat.le_of_ble_eq_true rfl⟩) hE hP rfl rfl (w_4 hE hk0) h rfl hl.1 rfl (by first | exact lv_room (Nat.le_of_ble_eq_true rfl) | (refine lv_room ?_; simp [re_cat, cat_i, cat_l, cat_r])) dX5_test_3 ⟨Nat.le_refl _, Nat.le_refl _⟩) hS (fun r2 s1 H locs h hP hS => ?_)
  refine lv_istore_n (i := 3) (lv' := [(3, .int r2), (0, .ref (ad x0)), (1, .int x1), (2, .int x2)]) hx hb dX5_test_6 rfl hl (by decide) (by first | rfl | simp [re_cat, cat_i, cat_l, cat_r]) (fun ls hl => ?_)
  refine lv_iload_n hx hb dX5_test_7 rfl (lv_at hl 0 rfl) ?_
  refine lv_if_eq (tgt := 13) hx hb dX5_test_8 (by decide) (fun c3 => ?_) (fun c3 => ?_)
  · replace h := h.1 c3
    refine lv_aload_n hx hb dX5_test_13 rfl (lv_at hl 1 rfl) ?_
    refine lv_iload_n hx hb dX5_test_14 rfl (lv_at hl 2 rfl) ?_
    refine lv_iload_n hx hb dX5_test_15 rfl (lv_at hl 3 rfl) ?_
    refine f_i (kV (As := [.int x1, .int x2]) (rest := []) (o := some x0) rfl ⟨hx, hb, hml, hown, hts⟩ (c_X5_kindsBy l D cs ad x0 x1 x2 s1 _ hk0) (cwV 2 hts gX5_test_X5_kindsBy rfl rfl rfl (by decide +kernel) ⟨Nat.le_of_ble_eq_true rfl, Nat.le_of_ble_eq_true rfl⟩) hE hP rfl rfl (w_4 hE hk0) h rfl hl.1 rfl (by first | exact lv_room (Nat.le_of_ble_eq_true rfl) | (refine lv_room ?_; simp [re_cat, cat_i, cat_l, cat_r])) dX5_test_16 ⟨Nat.le_refl _, Nat.le_refl _⟩) hS (fun r5 s4 H locs h hP hS => ?_)
    refine lv_istore (i := 4) (lv' := [(4, .int r5), (3, .int r2), (0, .ref (ad x0)), (1, .int x1), (2, .int x2)]) hx hb dX5_test_19 hl (by decide) (by first | rfl | simp [re_cat, cat_i, cat_l, cat_r]) (fun ls hl => ?_)
    refine lv_iload hx hb dX5_test_21 (lv_at hl 0 rfl) ?_
    refine lv_if_ne (tgt := 29) hx hb dX5_test_23 (by decide) (fun c6 => ?_) (fun c6 => ?_)
    · replace h := h.2 c6
      refine lv_iconst (v := 0) hx hb dX5_test_29 (by decide) ?_
      refine lv_istore (i := 5) (lv' := [(5, .int 0), (4, .int r5), (3, .int r2), (0, .ref (ad x0)), (1, .int x1), (2, .int x2)]) hx hb dX5_test_30 hl (by decide) (by first | rfl | simp [re_cat, cat_i, cat_l, cat_r]) (fun ls hl => ?_)
      refine lv_aload_n hx hb dX5_test_32 rfl (lv_at hl 3 rfl) ?_
      refine lv_iload_n hx hb dX5_test_33 rfl (lv_at hl 4 rfl) ?_
      refine lv_iconst (v := 0) hx hb dX5_test_34 (by decide) ?_
      refine lv_iload hx hb dX5_test_35 (lv_at hl 1 rfl) ?_
      refine f_i (kV (As := [.int x1, .int 0, .int r5]) (rest := []) (o := some x0) rfl ⟨hx, hb, hml, hown, hts⟩ (c_X5_greatestPartOfKinds l D cs ad x0 x1 0 r5 s4 _ hk0) (cwV 3 hts gX5_test_X5_greatestPartOfKinds rfl rfl rfl (by decide +kernel) ⟨Nat.le_of_ble_eq_true rfl, Nat.le_of_ble_eq_true rfl⟩) hE hP rfl rfl (w_4 hE hk0) h rfl hl.1 rfl (by first | exact lv_room (Nat.le_of_ble_eq_true rfl) | (refine lv_room ?_; simp [re_cat, cat_i, cat_l, cat_r])) dX5_test_37 ⟨Nat.le_refl _, Nat.le_refl _⟩) hS (fun r8 s7 H locs h hP hS => ?_)
      refine lv_istore (i := 6) (lv' := [(6, .int r8), (5, .int 0), (4, .int r5), (3, .int r2), (0, .ref (ad x0)), (1, .int x1), (2, .int x2)]) hx hb dX5_test_40 hl (by decide) (by first | rfl | simp [re_cat, cat_i, cat_l, cat_r]) (fun ls hl => ?_)
      refine lv_iconst (v := 1) hx hb dX5_test_42 (by decide) ?_
      refine lv_istore (i := 7) (lv' := [(7, .int 1), (6, .int r8), (5, .int 0), (4, .int r5), (3, .int r2), (0, .ref (ad x0)), (1, .int x1), (2, .int x2)]) hx hb dX5_test_43 hl (by decide) (by first | rfl | simp [re_cat, cat_i, cat_l, cat_r]) (fun ls hl => ?_)
      obtain ⟨n9, h⟩ := h
      exact hB45 n9 x1 r5 0 r8 1 s7 _ _ ls h hP hS (lv_sub hl [5, 6, 3, 2, 1, 0] rfl)
    · replace h := h.1 c6
      refine lv_bipush (v := (-9)) hx hb dX5_test_26 (by decide) ?_
      exact W.iret hx hb hr (fun t ht hW => ⟨⟨_, _, rfl, h, pw ht hP⟩, hS.F ht⟩) hS.2.2 dX5_test_28
  · replace h := h.2 c3
    refine lv_iload_n hx hb dX5_test_11 rfl (lv_at hl 0 rfl) ?_
    exact W.iret hx hb hr (fun t ht hW => ⟨⟨_, _, rfl, h, pw ht hP⟩, hS.F ht⟩) hS.2.2 dX5_test_12
def p_X5_hemsBeginAs_L12 (Q : Int32 → Sg → Prop)  : Nat → Nat → Int32 → Int32 → Int32 → Int32 → Sg → Prop
  | 0, _, _, _, _, _, _ => False
  | n + 1, x0, x1, x2, x3, x4, s => ((x3 ≤ x4 → Q 1 s) ∧ (¬ x3 ≤ x4 → ∃ k2, tX x0 3 = some k2 ∧ kX k2 = 0 ∧ p_X0_hemOf k2 x1 x4 s (fun r6 s5 => ∃ k7, tX x0 0 = some k7 ∧ kX k7 = 3 ∧ p_X4_cell k7 x2 x4 s5 (fun r11 s10 => ((r6 = r11 → p_X5_hemsBeginAs_L12 Q  n x0 x1 x2 x3 (x4 + 1) s10) ∧ (¬ r6 = r11 → Q 0 s10))))))
def p_X5_hemsBeginAs (x0 : Nat) (x1 : Int32) (x2 : Int32) (s : Sg) (Q : Int32 → Sg → Prop) : Prop := ∃ k1, tX x0 0 = some k1 ∧ kX k1 = 3 ∧ p_X4_sizeOf k1 x2 s (fun r5 s4 => (∃ n6, p_X5_hemsBeginAs_L12 Q  n6 x0 x1 x2 r5 0 s4))
set_option maxHeartbeats 4000000 in
set_option maxRecDepth 100000 in
theorem c_X5_hemsBeginAs (l : Launch) (D : va_G) (cs : Cs) (ad : Nat → Nat) (x0 : Nat) (x1 : Int32) (x2 : Int32) (s0 : Sg) (Q : Int32 → Sg → Prop) (hk0 : kX x0 = 4) : Met l yX5_hemsBeginAs wsX5_hemsBeginAs { frames := 4, cells := 0, slots := 0, locals := 94 } (Pc0 bX D cs ad [.ref (ad x0), .int x1, .int x2] s0 (p_X5_hemsBeginAs x0 x1 x2 s0 Q)) (QI bX D cs ad Q) 0 0 (fAd bX ad) := by
  refine Met.ofW (cc := cX5_hemsBeginAs) (maxL := 5) (ret := (some .boolean)) (by decide) rfl ?_
  intro p e s m args below meth c s₁ B0 hml hv
  obtain ⟨ha, hP, hE, h⟩ := hv
  have hx := B0.exec
  have hb := B0.bytes
  have hr := B0.returns
  have hts := atoms_spec (ws := wsX5_hemsBeginAs) B0.pre
  have hown : s.vm.findClass RX5 = some m.cls := findClass_of_methodNamed B0.named
  have hlocks := B0.notSynchronized
  have hi_X5 : ∀ w ∈ u_ws RX5 TX5 12, w ∈ wsX5_hemsBeginAs := by decide +kernel
  have hS : va_S (fAd bX ad) s.heap s.heap [] := va_S.rf
  have hl := lv_entry ([.ref (ad x0), .int x1, .int x2]) (n := 5) (by first | exact Nat.le_of_ble_eq_true rfl | simp [lg_sl, re_cat, cat_i, cat_l, cat_r])
  rw [show entryFrame m args 5 = entryFrame m ([.ref (ad x0), .int x1, .int x2] : List Value).toArray 5 by rw [ha], lg_entry_eq]
  generalize (lg_sl ([.ref (ad x0), .int x1, .int x2]) ++ List.replicate (5 - (lg_sl ([.ref (ad x0), .int x1, .int x2])).length) Slot.unset).toArray = ls at hl ⊢
  have hl : lv_has ls 5 [(0, .ref (ad x0)), (1, .int x1), (2, .int x2)] := by first | exact hl | simpa [lv_args, re_cat, cat_i, cat_l, cat_r] using hl
  have hB12 : ∀ (n12 : Nat) (x1 : Int32) (x2 : Int32) (x3 : Int32) (x4 : Int32) (σ : Sg) (H : Heap) (locs : List Loc) (ls : Array Slot), p_X5_hemsBeginAs_L12 Q  n12 x0 x1 x2 x3 x4 σ → va_P D vwCl (wl bX cs ad σ) H → va_S (fAd bX ad) s.heap H locs → lv_has ls 5 [(0, .ref (ad x0)), (1, .int x1), (2, .int x2), (3, .int x3), (4, .int x4)] → W p l e { frames := 4, cells := 0, slots := 0, locals := 94 } s m args below meth c H locs 0 0 (MQ below (QI bX D cs ad Q) args s 0 0 (fAd bX ad)) (F0 m 12 ls []) := by
    intro n12
    induction n12 with
    | zero =>
      intro x1 x2 x3 x4 σ H locs ls h
      exact h.elim
    | succ n12 ih =>
      have hK12 := ih
      intro x1 x2 x3 x4 σ H locs ls h hP hS hl
      rw [p_X5_hemsBeginAs_L12] at h
      refine lv_iload hx hb dX5_hemsBeginAs_12 (lv_at hl 4 rfl) ?_
      refine lv_iload_n hx hb dX5_hemsBeginAs_14 rfl (lv_at hl 3 rfl) ?_
      refine lv_icmp_ge (tgt := 49) hx hb dX5_hemsBeginAs_15 (by decide) (fun c1 => ?_) (fun c1 => ?_)
      · replace h := h.1 c1
        refine lv_iconst (v := 1) hx hb dX5_hemsBeginAs_49 (by decide) ?_
        exact W.zret hx hb hr rfl (fun t ht hW => ⟨⟨_, _, rfl, h, pw ht hP⟩, hS.F ht⟩) hS.2.2 dX5_hemsBeginAs_50
      · replace h := h.2 c1
        refine lv_aload_n hx hb dX5_hemsBeginAs_18 rfl (lv_at hl 0 rfl) ?_
        refine va_get (ci := 4) (v := va_re ad (tX x0 3)) (C := RX5) (T := TX5) (N := 12) hx hb hts hi_X5 hown hE.1 hP x0 (w_4 hE hk0) rfl 3 (by decide) (hts (.fieldLink RX5 33 "HemLine" "now" "LHemLine$Delta;") (by decide +kernel)) (fun _ h9 => h9) rfl dX5_hemsBeginAs_19 ?_
        refine lv_iload_n hx hb dX5_hemsBeginAs_22 rfl (lv_at hl 1 rfl) ?_
        refine lv_iload hx hb dX5_hemsBeginAs_23 (lv_at hl 4 rfl) ?_
        obtain ⟨k2, e3, q4, h⟩ := h
        refine f_i (kV (As := [.int x1, .int x4]) (rest := []) e3 ⟨hx, hb, hml, hown, hts⟩ (c_X0_hemOf l D cs ad k2 x1 x4 σ _ q4) (cwV 2 hts gX5_hemsBeginAs_X0_hemOf rfl rfl rfl (by decide +kernel) ⟨Nat.le_of_ble_eq_true rfl, Nat.le_of_ble_eq_true rfl⟩) hE hP rfl rfl (w_0 hE q4) h rfl hl.1 rfl (by first | exact lv_room (Nat.le_of_ble_eq_true rfl) | (refine lv_room ?_; simp [re_cat, cat_i, cat_l, cat_r])) dX5_hemsBeginAs_25 ⟨Nat.le_refl _, Nat.le_refl _⟩) hS (fun r6 s5 H locs h hP hS => ?_)
        refine lv_aload_n hx hb dX5_hemsBeginAs_28 rfl (lv_at hl 0 rfl) ?_
        refine va_get (ci := 4) (v := va_re ad (tX x0 0)) (C := RX5) (T := TX5) (N := 12) hx hb hts hi_X5 hown hE.1 hP x0 (w_4 hE hk0) rfl 0 (by decide) (hts (.fieldLink RX5 16 "HemLine" "rows" "LHemLine$Shelf;") (by decide +kernel)) (fun _ h9 => h9) rfl dX5_hemsBeginAs_29 ?_
        refine lv_iload_n hx hb dX5_hemsBeginAs_32 rfl (lv_at hl 2 rfl) ?_
        refine lv_iload hx hb dX5_hemsBeginAs_33 (lv_at hl 4 rfl) ?_
        obtain ⟨k7, e8, q9, h⟩ := h
        refine f_i (kV (As := [.int x2, .int x4]) (rest := [.int r6]) e8 ⟨hx, hb, hml, hown, hts⟩ (c_X4_cell l D cs ad k7 x2 x4 s5 _ q9) (cwV 2 hts gX5_hemsBeginAs_X4_cell rfl rfl rfl (by decide +kernel) ⟨Nat.le_of_ble_eq_true rfl, Nat.le_of_ble_eq_true rfl⟩) hE hP rfl rfl (w_3 hE q9) h rfl hl.1 rfl (by first | exact lv_room (Nat.le_of_ble_eq_true rfl) | (refine lv_room ?_; simp [re_cat, cat_i, cat_l, cat_r])) dX5_hemsBeginAs_35 ⟨Nat.le_refl _, Nat.le_refl _⟩) hS (fun r11 s10 H locs h hP hS => ?_)
        refine lv_icmp_eq (tgt := 43) hx hb dX5_hemsBeginAs_38 (by decide) (fun c12 => ?_) (fun c12 => ?_)
        · replace h := h.1 c12
          refine lv_iinc (v := x4 + 1) (lv' := [(4, .int (x4 + 1)), (0, .ref (ad x0)), (1, .int x1), (2, .int x2), (3, .int x3)]) hx hb dX5_hemsBeginAs_43 hl (k := 4) rfl rfl (by decide) (by first | rfl | simp [re_cat, cat_i, cat_l, cat_r]) (fun ls hl => ?_)
          refine lv_goto (tgt := 12) hx hb dX5_hemsBeginAs_46 (by decide) ?_
          exact ih x1 x2 x3 (x4 + 1) s10 H locs ls h hP hS (lv_sub hl [1, 2, 3, 4, 0] rfl)
        · replace h := h.2 c12
          refine lv_iconst (v := 0) hx hb dX5_hemsBeginAs_41 (by decide) ?_
          exact W.zret hx hb hr rfl (fun t ht hW => ⟨⟨_, _, rfl, h, pw ht hP⟩, hS.F ht⟩) hS.2.2 dX5_hemsBeginAs_42
  unfold p_X5_hemsBeginAs at h
  refine lv_aload_n hx hb dX5_hemsBeginAs_0 rfl (lv_at hl 0 rfl) ?_
  refine va_get (ci := 4) (v := va_re ad (tX x0 0)) (C := RX5) (T := TX5) (N := 12) hx hb hts hi_X5 hown hE.1 hP x0 (w_4 hE hk0) rfl 0 (by decide) (hts (.fieldLink RX5 16 "HemLine" "rows" "LHemLine$Shelf;") (by decide +kernel)) (fun _ h9 => h9) rfl dX5_hemsBeginAs_1 ?_
  refine lv_iload_n hx hb dX5_hemsBeginAs_4 rfl (lv_at hl 2 rfl) ?_
  obtain ⟨k1, e2, q3, h⟩ := h
  refine f_i (kV (As := [.int x2]) (rest := []) e2 ⟨hx, hb, hml, hown, hts⟩ (c_X4_sizeOf l D cs ad k1 x2 s0 _ q3) (cwV 1 hts gX5_hemsBeginAs_X4_sizeOf rfl rfl rfl (by decide +kernel) ⟨Nat.le_of_ble_eq_true rfl, Nat.le_of_ble_eq_true rfl⟩) hE hP rfl rfl (w_3 hE q3) h rfl hl.1 rfl (by first | exact lv_room (Nat.le_of_ble_eq_true rfl) | (refine lv_room ?_; simp [re_cat, cat_i, cat_l, cat_r])) dX5_hemsBeginAs_5 ⟨Nat.le_refl _, Nat.le_refl _⟩) hS (fun r5 s4 H locs h hP hS => ?_)
  refine lv_istore_n (i := 3) (lv' := [(3, .int r5), (0, .ref (ad x0)), (1, .int x1), (2, .int x2)]) hx hb dX5_hemsBeginAs_8 rfl hl (by decide) (by first | rfl | simp [re_cat, cat_i, cat_l, cat_r]) (fun ls hl => ?_)
  refine lv_iconst (v := 0) hx hb dX5_hemsBeginAs_9 (by decide) ?_
  refine lv_istore (i := 4) (lv' := [(4, .int 0), (3, .int r5), (0, .ref (ad x0)), (1, .int x1), (2, .int x2)]) hx hb dX5_hemsBeginAs_10 hl (by decide) (by first | rfl | simp [re_cat, cat_i, cat_l, cat_r]) (fun ls hl => ?_)
  obtain ⟨n6, h⟩ := h
  exact hB12 n6 x1 x2 r5 0 s4 _ _ ls h hP hS (lv_sub hl [2, 3, 4, 1, 0] rfl)
def p_X5_whose_b97 (Q : Int32 → Sg → Prop) (K71 : Nat → Int32 → Int32 → Int32 → Sg → Prop) (x0 : Nat) (x1 : Int32) (x2 : Int32) (x3 : Int32) (s : Sg) : Prop := K71 x0 x1 x2 (x3 + 1) s
def p_X5_whose_b127 (Q : Int32 → Sg → Prop)  (x0 : Nat) (x2 : Int32) (t1 : Int32) (s : Sg) : Prop := Q x2 (setI s x0 9 t1)
def p_X5_whose_L71 (Q : Int32 → Sg → Prop)  : Nat → Nat → Int32 → Int32 → Int32 → Sg → Prop
  | 0, _, _, _, _, _ => False
  | n + 1, x0, x1, x2, x3, s => ∃ k1, tX x0 3 = some k1 ∧ kX k1 = 0 ∧ (((gI s k1 0) ≤ x3 → ∃ k5, tX x0 0 = some k5 ∧ kX k5 = 3 ∧ p_X4_sizeOf k5 x1 s (fun r9 s8 => ∃ k10, tX x0 3 = some k10 ∧ kX k10 = 0 ∧ ((r9 = (gI s8 k10 2) → p_X5_whose_b127 Q  x0 x2 x2 s8) ∧ (¬ r9 = (gI s8 k10 2) → p_X5_whose_b127 Q  x0 x2 0 s8)))) ∧ (¬ (gI s k1 0) ≤ x3 → p_X5_hemsBeginAs x0 x3 x1 s (fun r15 s14 => ((r15 = 0 → p_X5_whose_b97 Q (fun y0 y1 y2 y3 u => p_X5_whose_L71 Q  n y0 y1 y2 y3 u) x0 x1 x2 x3 s14) ∧ (¬ r15 = 0 → p_X5_whose_b97 Q (fun y0 y1 y2 y3 u => p_X5_whose_L71 Q  n y0 y1 y2 y3 u) x0 x1 (x2 ||| (1 <<< (x3 &&& 31))) x3 s14)))))
def p_X5_whose (x0 : Nat) (x1 : Int32) (s : Sg) (Q : Int32 → Sg → Prop) : Prop := ∃ k1, tX x0 0 = some k1 ∧ kX k1 = 3 ∧ p_X4_isNumber k1 x1 s (fun r5 s4 => ((r5 = 0 → Q ((-1)) s4) ∧ (¬ r5 = 0 → ∃ k7, tX x0 3 = some k7 ∧ kX k7 = 0 ∧ (((gI s4 k7 0) = 0 → Q ((-4)) s4) ∧ (¬ (gI s4 k7 0) = 0 → ∃ k11, tX x0 0 = some k11 ∧ kX k11 = 3 ∧ p_X4_isThere k11 x1 s4 (fun r15 s14 => ((r15 = 0 → p_X5_found x0 1 s14 (fun r30 s29 => Q r30 s29)) ∧ (¬ r15 = 0 → ∃ k17, tX x0 0 = some k17 ∧ kX k17 = 3 ∧ p_X4_sizeOf k17 x1 s14 (fun r21 s20 => ∃ k22, tX x0 3 = some k22 ∧ kX k22 = 0 ∧ ((r21 ≤ (gI s20 k22 2) → (∃ n26, p_X5_whose_L71 Q  n26 x0 x1 0 0 s20)) ∧ (¬ r21 ≤ (gI s20 k22 2) → p_X5_found x0 5 s20 (fun r28 s27 => Q r28 s27))))))))))))
set_option maxHeartbeats 4000000 in
set_option maxRecDepth 100000 in
theorem c_X5_whose (l : Launch) (D : va_G) (cs : Cs) (ad : Nat → Nat) (x0 : Nat) (x1 : Int32) (s0 : Sg) (Q : Int32 → Sg → Prop) (hk0 : kX x0 = 4) : Met l yX5_whose wsX5_whose { frames := 5, cells := 0, slots := 0, locals := 118 } (Pc0 bX D cs ad [.ref (ad x0), .int x1] s0 (p_X5_whose x0 x1 s0 Q)) (QI bX D cs ad Q) 0 0 (fAd bX ad) := by
  refine Met.ofW (cc := cX5_whose) (maxL := 4) (ret := (some .int)) (by decide) rfl ?_
  intro p e s m args below meth c s₁ B0 hml hv
  obtain ⟨ha, hP, hE, h⟩ := hv
  have hx := B0.exec
  have hb := B0.bytes
  have hr := B0.returns
  have hts := atoms_spec (ws := wsX5_whose) B0.pre
  have hown : s.vm.findClass RX5 = some m.cls := findClass_of_methodNamed B0.named
  have hlocks := B0.notSynchronized
  have hi_X0 : ∀ w ∈ u_ws RX0 TX0 15, w ∈ wsX5_whose := by decide +kernel
  have hi_X5 : ∀ w ∈ u_ws RX5 TX5 12, w ∈ wsX5_whose := by decide +kernel
  have hS : va_S (fAd bX ad) s.heap s.heap [] := va_S.rf
  have hl := lv_entry ([.ref (ad x0), .int x1]) (n := 4) (by first | exact Nat.le_of_ble_eq_true rfl | simp [lg_sl, re_cat, cat_i, cat_l, cat_r])
  rw [show entryFrame m args 4 = entryFrame m ([.ref (ad x0), .int x1] : List Value).toArray 4 by rw [ha], lg_entry_eq]
  generalize (lg_sl ([.ref (ad x0), .int x1]) ++ List.replicate (4 - (lg_sl ([.ref (ad x0), .int x1])).length) Slot.unset).toArray = ls at hl ⊢
  have hl : lv_has ls 4 [(0, .ref (ad x0)), (1, .int x1)] := by first | exact hl | simpa [lv_args, re_cat, cat_i, cat_l, cat_r] using hl
  have hB127 : ∀ (x2 : Int32) (t1 : Int32) (σ : Sg) (H : Heap) (locs : List Loc) (ls : Array Slot), p_X5_whose_b127 Q  x0 x2 t1 σ → va_P D vwCl (wl bX cs ad σ) H → va_S (fAd bX ad) s.heap H locs → lv_has ls 4 [(0, .ref (ad x0)), (2, .int x2)] → W p l e { frames := 5, cells := 0, slots := 0, locals := 118 } s m args below meth c H locs 0 0 (MQ below (QI bX D cs ad Q) args s 0 0 (fAd bX ad)) (F0 m 127 ls [.int t1, .ref (ad x0)]) := by
    intro x2 t1 σ H locs ls h hP hS hl
    unfold p_X5_whose_b127 at h
    refine r_put (σ' := (setI σ x0 9 t1)) (ci := 4) (v := .int t1) (ty := .int) (C := RX5) (T := TX5) (N := 12) hx hb hts hi_X5 tyX5 tyX5_ok nmX5 hown hE hP hS x0 (w_4 hE hk0) rfl 9 (by decide) (hts (.fieldLink RX5 71 "HemLine" "told" "I") (by decide +kernel)) (fun _ h9 => h9) rfl (by decide +kernel) rfl rfl (Nat.le_of_ble_eq_true rfl) dX5_whose_127 (st_4_9 hE hk0 _) (fun H locs hP hS => ?_)
    refine lv_iload_n hx hb dX5_whose_130 rfl (lv_at hl 1 rfl) ?_
    exact W.iret hx hb hr (fun t ht hW => ⟨⟨_, _, rfl, h, pw ht hP⟩, hS.F ht⟩) hS.2.2 dX5_whose_131
  have hB71 : ∀ (n71 : Nat) (x1 : Int32) (x2 : Int32) (x3 : Int32) (σ : Sg) (H : Heap) (locs : List Loc) (ls : Array Slot), p_X5_whose_L71 Q  n71 x0 x1 x2 x3 σ → va_P D vwCl (wl bX cs ad σ) H → va_S (fAd bX ad) s.heap H locs → lv_has ls 4 [(0, .ref (ad x0)), (1, .int x1), (2, .int x2), (3, .int x3)] → W p l e { frames := 5, cells := 0, slots := 0, locals := 118 } s m args below meth c H locs 0 0 (MQ below (QI bX D cs ad Q) args s 0 0 (fAd bX ad)) (F0 m 71 ls []) := by
    intro n71
    induction n71 with
    | zero =>
      intro x1 x2 x3 σ H locs ls h
      exact h.elim
    | succ n71 ih =>
      have hK71 := ih
      have hB97 : ∀ (x1 : Int32) (x2 : Int32) (x3 : Int32) (σ : Sg) (H : Heap) (locs : List Loc) (ls : Array Slot), p_X5_whose_b97 Q (fun y0 y1 y2 y3 u => p_X5_whose_L71 Q  n71 y0 y1 y2 y3 u) x0 x1 x2 x3 σ → va_P D vwCl (wl bX cs ad σ) H → va_S (fAd bX ad) s.heap H locs → lv_has ls 4 [(0, .ref (ad x0)), (1, .int x1), (2, .int x2), (3, .int x3)] → W p l e { frames := 5, cells := 0, slots := 0, locals := 118 } s m args below meth c H locs 0 0 (MQ below (QI bX D cs ad Q) args s 0 0 (fAd bX ad)) (F0 m 97 ls []) := by
        intro x1 x2 x3 σ H locs ls h hP hS hl
        unfold p_X5_whose_b97 at h
        refine lv_iinc (v := x3 + 1) (lv' := [(3, .int (x3 + 1)), (0, .ref (ad x0)), (1, .int x1), (2, .int x2)]) hx hb dX5_whose_97 hl (k := 3) rfl rfl (by decide) (by first | rfl | simp [re_cat, cat_i, cat_l, cat_r]) (fun ls hl => ?_)
        refine lv_goto (tgt := 71) hx hb dX5_whose_100 (by decide) ?_
        exact hK71 x1 x2 (x3 + 1) σ H locs ls h hP hS (lv_sub hl [1, 2, 3, 0] rfl)
      intro x1 x2 x3 σ H locs ls h hP hS hl
      rw [p_X5_whose_L71] at h
      refine lv_iload_n hx hb dX5_whose_71 rfl (lv_at hl 3 rfl) ?_
      refine lv_aload_n hx hb dX5_whose_72 rfl (lv_at hl 0 rfl) ?_
      refine va_get (ci := 4) (v := va_re ad (tX x0 3)) (C := RX5) (T := TX5) (N := 12) hx hb hts hi_X5 hown hE.1 hP x0 (w_4 hE hk0) rfl 3 (by decide) (hts (.fieldLink RX5 33 "HemLine" "now" "LHemLine$Delta;") (by decide +kernel)) (fun _ h9 => h9) rfl dX5_whose_73 ?_
      obtain ⟨k1, e2, q3, h⟩ := h
      refine r_known (ad := ad) e2 ?_
      refine va_getN (ci := 0) (v := .int (gI σ k1 0)) (C := RX0) (T := TX0) (N := 15) hx hb hts hi_X0 hown hE.1 hP k1 (w_0 hE q3) rfl 0 (by decide) ((hE.2.2.2.1 ("HemLine", 126, "HemLine$Delta", "women", "I", "HemLine") (by decide +kernel)).use rfl) (fun _ h9 => h9) rfl dX5_whose_76 ?_
      refine lv_icmp_ge (tgt := 103) hx hb dX5_whose_79 (by decide) (fun c4 => ?_) (fun c4 => ?_)
      · replace h := h.1 c4
        refine lv_aload_n hx hb dX5_whose_103 rfl (lv_at hl 0 rfl) ?_
        refine lv_aload_n hx hb dX5_whose_104 rfl (lv_at hl 0 rfl) ?_
        refine va_get (ci := 4) (v := va_re ad (tX x0 0)) (C := RX5) (T := TX5) (N := 12) hx hb hts hi_X5 hown hE.1 hP x0 (w_4 hE hk0) rfl 0 (by decide) (hts (.fieldLink RX5 16 "HemLine" "rows" "LHemLine$Shelf;") (by decide +kernel)) (fun _ h9 => h9) rfl dX5_whose_105 ?_
        refine lv_iload_n hx hb dX5_whose_108 rfl (lv_at hl 1 rfl) ?_
        obtain ⟨k5, e6, q7, h⟩ := h
        refine f_i (kV (As := [.int x1]) (rest := [.ref (ad x0)]) e6 ⟨hx, hb, hml, hown, hts⟩ (c_X4_sizeOf l D cs ad k5 x1 σ _ q7) (cwV 1 hts gX5_whose_X4_sizeOf rfl rfl rfl (by decide +kernel) ⟨Nat.le_of_ble_eq_true rfl, Nat.le_of_ble_eq_true rfl⟩) hE hP rfl rfl (w_3 hE q7) h rfl hl.1 rfl (by first | exact lv_room (Nat.le_of_ble_eq_true rfl) | (refine lv_room ?_; simp [re_cat, cat_i, cat_l, cat_r])) dX5_whose_109 ⟨Nat.le_refl _, Nat.le_refl _⟩) hS (fun r9 s8 H locs h hP hS => ?_)
        refine lv_aload_n hx hb dX5_whose_112 rfl (lv_at hl 0 rfl) ?_
        refine va_get (ci := 4) (v := va_re ad (tX x0 3)) (C := RX5) (T := TX5) (N := 12) hx hb hts hi_X5 hown hE.1 hP x0 (w_4 hE hk0) rfl 3 (by decide) (hts (.fieldLink RX5 33 "HemLine" "now" "LHemLine$Delta;") (by decide +kernel)) (fun _ h9 => h9) rfl dX5_whose_113 ?_
        obtain ⟨k10, e11, q12, h⟩ := h
        refine r_known (ad := ad) e11 ?_
        refine va_getN (ci := 0) (v := .int (gI s8 k10 2)) (C := RX0) (T := TX0) (N := 15) hx hb hts hi_X0 hown hE.1 hP k10 (w_0 hE q12) rfl 2 (by decide) ((hE.2.2.2.1 ("HemLine", 148, "HemLine$Delta", "years", "I", "HemLine") (by decide +kernel)).use rfl) (fun _ h9 => h9) rfl dX5_whose_116 ?_
        refine lv_icmp_ne (tgt := 126) hx hb dX5_whose_119 (by decide) (fun c13 => ?_) (fun c13 => ?_)
        · replace h := h.2 c13
          refine lv_iconst (v := 0) hx hb dX5_whose_126 (by decide) ?_
          exact hB127 x2 0 s8 H locs ls h hP hS (lv_sub hl [0, 2] rfl)
        · replace h := h.1 c13
          refine lv_iload_n hx hb dX5_whose_122 rfl (lv_at hl 2 rfl) ?_
          refine lv_goto (tgt := 127) hx hb dX5_whose_123 (by decide) ?_
          exact hB127 x2 x2 s8 H locs ls h hP hS (lv_sub hl [0, 2] rfl)
      · replace h := h.2 c4
        refine lv_aload_n hx hb dX5_whose_82 rfl (lv_at hl 0 rfl) ?_
        refine lv_iload_n hx hb dX5_whose_83 rfl (lv_at hl 3 rfl) ?_
        refine lv_iload_n hx hb dX5_whose_84 rfl (lv_at hl 1 rfl) ?_
        refine f_i (kV (As := [.int x3, .int x1]) (rest := []) (o := some x0) rfl ⟨hx, hb, hml, hown, hts⟩ (c_X5_hemsBeginAs l D cs ad x0 x3 x1 σ _ hk0) (cwV 2 hts gX5_whose_X5_hemsBeginAs rfl rfl rfl (by decide +kernel) ⟨Nat.le_of_ble_eq_true rfl, Nat.le_of_ble_eq_true rfl⟩) hE hP rfl rfl (w_4 hE hk0) h rfl hl.1 rfl (by first | exact lv_room (Nat.le_of_ble_eq_true rfl) | (refine lv_room ?_; simp [re_cat, cat_i, cat_l, cat_r])) dX5_whose_85 ⟨Nat.le_refl _, Nat.le_refl _⟩) hS (fun r15 s14 H locs h hP hS => ?_)
        refine lv_if_eq (tgt := 97) hx hb dX5_whose_88 (by decide) (fun c16 => ?_) (fun c16 => ?_)
        · replace h := h.1 c16
          exact hB97 x1 x2 x3 s14 H locs ls h hP hS (lv_sub hl [0, 1, 2, 3] rfl)
        · replace h := h.2 c16
          refine lv_iload_n hx hb dX5_whose_91 rfl (lv_at hl 2 rfl) ?_
          refine lv_iconst (v := 1) hx hb dX5_whose_92 (by decide) ?_
          refine lv_iload_n hx hb dX5_whose_93 rfl (lv_at hl 3 rfl) ?_
          refine lv_ishl hx hb dX5_whose_94 ?_
          refine lv_ior hx hb dX5_whose_95 ?_
          refine lv_istore_n (i := 2) (lv' := [(2, .int (x2 ||| (1 <<< (x3 &&& 31)))), (0, .ref (ad x0)), (1, .int x1), (3, .int x3)]) hx hb dX5_whose_96 rfl hl (by decide) (by first | rfl | simp [re_cat, cat_i, cat_l, cat_r]) (fun ls hl => ?_)
          exact hB97 x1 (x2 ||| (1 <<< (x3 &&& 31))) x3 s14 H locs ls h hP hS (lv_sub hl [1, 2, 0, 3] rfl)
  unfold p_X5_whose at h
  refine lv_aload_n hx hb dX5_whose_0 rfl (lv_at hl 0 rfl) ?_
  refine va_get (ci := 4) (v := va_re ad (tX x0 0)) (C := RX5) (T := TX5) (N := 12) hx hb hts hi_X5 hown hE.1 hP x0 (w_4 hE hk0) rfl 0 (by decide) (hts (.fieldLink RX5 16 "HemLine" "rows" "LHemLine$Shelf;") (by decide +kernel)) (fun _ h9 => h9) rfl dX5_whose_1 ?_
  refine lv_iload_n hx hb dX5_whose_4 rfl (lv_at hl 1 rfl) ?_
  obtain ⟨k1, e2, q3, h⟩ := h
  refine f_i (kV (As := [.int x1]) (rest := []) e2 ⟨hx, hb, hml, hown, hts⟩ (c_X4_isNumber l D cs ad k1 x1 s0 _ q3) (cwV 1 hts gX5_whose_X4_isNumber rfl rfl rfl (by decide +kernel) ⟨Nat.le_of_ble_eq_true rfl, Nat.le_of_ble_eq_true rfl⟩) hE hP rfl rfl (w_3 hE q3) h rfl hl.1 rfl (by first | exact lv_room (Nat.le_of_ble_eq_true rfl) | (refine lv_room ?_; simp [re_cat, cat_i, cat_l, cat_r])) dX5_whose_5 ⟨Nat.le_refl _, Nat.le_refl _⟩) hS (fun r5 s4 H locs h hP hS => ?_)
  refine lv_if_ne (tgt := 13) hx hb dX5_whose_8 (by decide) (fun c6 => ?_) (fun c6 => ?_)
  · replace h := h.2 c6
    refine lv_aload_n hx hb dX5_whose_13 rfl (lv_at hl 0 rfl) ?_
    refine va_get (ci := 4) (v := va_re ad (tX x0 3)) (C := RX5) (T := TX5) (N := 12) hx hb hts hi_X5 hown hE.1 hP x0 (w_4 hE hk0) rfl 3 (by decide) (hts (.fieldLink RX5 33 "HemLine" "now" "LHemLine$Delta;") (by decide +kernel)) (fun _ h9 => h9) rfl dX5_whose_14 ?_
    obtain ⟨k7, e8, q9, h⟩ := h
    refine r_known (ad := ad) e8 ?_
    refine va_getN (ci := 0) (v := .int (gI s4 k7 0)) (C := RX0) (T := TX0) (N := 15) hx hb hts hi_X0 hown hE.1 hP k7 (w_0 hE q9) rfl 0 (by decide) ((hE.2.2.2.1 ("HemLine", 126, "HemLine$Delta", "women", "I", "HemLine") (by decide +kernel)).use rfl) (fun _ h9 => h9) rfl dX5_whose_17 ?_
    refine lv_if_ne (tgt := 26) hx hb dX5_whose_20 (by decide) (fun c10 => ?_) (fun c10 => ?_)
    · replace h := h.2 c10
      refine lv_aload_n hx hb dX5_whose_26 rfl (lv_at hl 0 rfl) ?_
      refine va_get (ci := 4) (v := va_re ad (tX x0 0)) (C := RX5) (T := TX5) (N := 12) hx hb hts hi_X5 hown hE.1 hP x0 (w_4 hE hk0) rfl 0 (by decide) (hts (.fieldLink RX5 16 "HemLine" "rows" "LHemLine$Shelf;") (by decide +kernel)) (fun _ h9 => h9) rfl dX5_whose_27 ?_
      refine lv_iload_n hx hb dX5_whose_30 rfl (lv_at hl 1 rfl) ?_
      obtain ⟨k11, e12, q13, h⟩ := h
      refine f_i (kV (As := [.int x1]) (rest := []) e12 ⟨hx, hb, hml, hown, hts⟩ (c_X4_isThere l D cs ad k11 x1 s4 _ q13) (cwV 1 hts gX5_whose_X4_isThere rfl rfl rfl (by decide +kernel) ⟨Nat.le_of_ble_eq_true rfl, Nat.le_of_ble_eq_true rfl⟩) hE hP rfl rfl (w_3 hE q13) h rfl hl.1 rfl (by first | exact lv_room (Nat.le_of_ble_eq_true rfl) | (refine lv_room ?_; simp [re_cat, cat_i, cat_l, cat_r])) dX5_whose_31 ⟨Nat.le_refl _, Nat.le_refl _⟩) hS (fun r15 s14 H locs h hP hS => ?_)
      refine lv_if_ne (tgt := 43) hx hb dX5_whose_34 (by decide) (fun c16 => ?_) (fun c16 => ?_)
      · replace h := h.2 c16
        refine lv_aload_n hx hb dX5_whose_43 rfl (lv_at hl 0 rfl) ?_
        refine va_get (ci := 4) (v := va_re ad (tX x0 0)) (C := RX5) (T := TX5) (N := 12) hx hb hts hi_X5 hown hE.1 hP x0 (w_4 hE hk0) rfl 0 (by decide) (hts (.fieldLink RX5 16 "HemLine" "rows" "LHemLine$Shelf;") (by decide +kernel)) (fun _ h9 => h9) rfl dX5_whose_44 ?_
        refine lv_iload_n hx hb dX5_whose_47 rfl (lv_at hl 1 rfl) ?_
        obtain ⟨k17, e18, q19, h⟩ := h
        refine f_i (kV (As := [.int x1]) (rest := []) e18 ⟨hx, hb, hml, hown, hts⟩ (c_X4_sizeOf l D cs ad k17 x1 s14 _ q19) (cwV 1 hts gX5_whose_X4_sizeOf rfl rfl rfl (by decide +kernel) ⟨Nat.le_of_ble_eq_true rfl, Nat.le_of_ble_eq_true rfl⟩) hE hP rfl rfl (w_3 hE q19) h rfl hl.1 rfl (by first | exact lv_room (Nat.le_of_ble_eq_true rfl) | (refine lv_room ?_; simp [re_cat, cat_i, cat_l, cat_r])) dX5_whose_48 ⟨Nat.le_refl _, Nat.le_refl _⟩) hS (fun r21 s20 H locs h hP hS => ?_)
        refine lv_aload_n hx hb dX5_whose_51 rfl (lv_at hl 0 rfl) ?_
        refine va_get (ci := 4) (v := va_re ad (tX x0 3)) (C := RX5) (T := TX5) (N := 12) hx hb hts hi_X5 hown hE.1 hP x0 (w_4 hE hk0) rfl 3 (by decide) (hts (.fieldLink RX5 33 "HemLine" "now" "LHemLine$Delta;") (by decide +kernel)) (fun _ h9 => h9) rfl dX5_whose_52 ?_
        obtain ⟨k22, e23, q24, h⟩ := h
        refine r_known (ad := ad) e23 ?_
        refine va_getN (ci := 0) (v := .int (gI s20 k22 2)) (C := RX0) (T := TX0) (N := 15) hx hb hts hi_X0 hown hE.1 hP k22 (w_0 hE q24) rfl 2 (by decide) ((hE.2.2.2.1 ("HemLine", 148, "HemLine$Delta", "years", "I", "HemLine") (by decide +kernel)).use rfl) (fun _ h9 => h9) rfl dX5_whose_55 ?_
        refine lv_icmp_le (tgt := 67) hx hb dX5_whose_58 (by decide) (fun c25 => ?_) (fun c25 => ?_)
        · replace h := h.1 c25
          refine lv_iconst (v := 0) hx hb dX5_whose_67 (by decide) ?_
          refine lv_istore_n (i := 2) (lv' := [(2, .int 0), (0, .ref (ad x0)), (1, .int x1)]) hx hb dX5_whose_68 rfl hl (by decide) (by first | rfl | simp [re_cat, cat_i, cat_l, cat_r]) (fun ls hl => ?_)
          refine lv_iconst (v := 0) hx hb dX5_whose_69 (by decide) ?_
          refine lv_istore_n (i := 3) (lv' := [(3, .int 0), (2, .int 0), (0, .ref (ad x0)), (1, .int x1)]) hx hb dX5_whose_70 rfl hl (by decide) (by first | rfl | simp [re_cat, cat_i, cat_l, cat_r]) (fun ls hl => ?_)
          obtain ⟨n26, h⟩ := h
          exact hB71 n26 x1 0 0 s20 _ _ ls h hP hS (lv_sub hl [2, 3, 1, 0] rfl)
        · replace h := h.2 c25
          refine lv_aload_n hx hb dX5_whose_61 rfl (lv_at hl 0 rfl) ?_
          refine lv_iconst (v := 5) hx hb dX5_whose_62 (by decide) ?_
          refine f_i (kV (As := [.int 5]) (rest := []) (o := some x0) rfl ⟨hx, hb, hml, hown, hts⟩ (c_X5_found l D cs ad x0 5 s20 _ hk0) (cwV 1 hts gX5_whose_X5_found rfl rfl rfl (by decide +kernel) ⟨Nat.le_of_ble_eq_true rfl, Nat.le_of_ble_eq_true rfl⟩) hE hP rfl rfl (w_4 hE hk0) h rfl hl.1 rfl (by first | exact lv_room (Nat.le_of_ble_eq_true rfl) | (refine lv_room ?_; simp [re_cat, cat_i, cat_l, cat_r])) dX5_whose_63 ⟨Nat.le_refl _, Nat.le_refl _⟩) hS (fun r28 s27 H locs h hP hS => ?_)
          exact W.iret hx hb hr (fun t ht hW => ⟨⟨_, _, rfl, h, pw ht hP⟩, hS.F ht⟩) hS.2.2 dX5_whose_66
      · replace h := h.1 c16
        refine lv_aload_n hx hb dX5_whose_37 rfl (lv_at hl 0 rfl) ?_
        refine lv_iconst (v := 1) hx hb dX5_whose_38 (by decide) ?_
        refine f_i (kV (As := [.int 1]) (rest := []) (o := some x0) rfl ⟨hx, hb, hml, hown, hts⟩ (c_X5_found l D cs ad x0 1 s14 _ hk0) (cwV 1 hts gX5_whose_X5_found rfl rfl rfl (by decide +kernel) ⟨Nat.le_of_ble_eq_true rfl, Nat.le_of_ble_eq_true rfl⟩) hE hP rfl rfl (w_4 hE hk0) h rfl hl.1 rfl (by first | exact lv_room (Nat.le_of_ble_eq_true rfl) | (refine lv_room ?_; simp [re_cat, cat_i, cat_l, cat_r])) dX5_whose_39 ⟨Nat.le_refl _, Nat.le_refl _⟩) hS (fun r30 s29 H locs h hP hS => ?_)
        exact W.iret hx hb hr (fun t ht hW => ⟨⟨_, _, rfl, h, pw ht hP⟩, hS.F ht⟩) hS.2.2 dX5_whose_42
    · replace h := h.1 c10
      refine lv_bipush (v := (-4)) hx hb dX5_whose_23 (by decide) ?_
      exact W.iret hx hb hr (fun t ht hW => ⟨⟨_, _, rfl, h, pw ht hP⟩, hS.F ht⟩) hS.2.2 dX5_whose_25
  · replace h := h.1 c6
    refine lv_iconst (v := (-1)) hx hb dX5_whose_11 (by decide) ?_
    exact W.iret hx hb hr (fun t ht hW => ⟨⟨_, _, rfl, h, pw ht hP⟩, hS.F ht⟩) hS.2.2 dX5_whose_12
def p_X5_raise_L93 (Q : Int32 → Sg → Prop)  : Nat → Nat → Int32 → Int32 → Int32 → Int32 → Int32 → Sg → Prop
  | 0, _, _, _, _, _, _, _ => False
  | n + 1, x0, x2, x3, x4, x5, x6, s => ((6 ≤ x6 → Q x4 s) ∧ (¬ 6 ≤ x6 → ∃ k2, tX x0 5 = some k2 ∧ kX k2 = 1 ∧ p_X1_fewestAt k2 x6 x5 x2 s (fun r6 s5 => ∃ k7, tX x0 0 = some k7 ∧ kX k7 = 3 ∧ p_X4_setCell k7 x3 x6 r6 s5 (fun s10 => p_X5_raise_L93 Q  n x0 x2 x3 x4 (x5 - r6) (x6 + 1) s10))))
def p_X5_raise (x0 : Nat) (x1 : Int32) (x2 : Int32) (x3 : Int32) (s : Sg) (Q : Int32 → Sg → Prop) : Prop := ((x1 < 0 → Q ((-1)) s) ∧ (¬ x1 < 0 → ((6 < x1 → Q ((-1)) s) ∧ (¬ 6 < x1 → p_X5_isHeight x2 s (fun r4 s3 => ((r4 = 0 → Q ((-1)) s3) ∧ (¬ r4 = 0 → ∃ k6, tX x0 0 = some k6 ∧ kX k6 = 3 ∧ p_X4_isNumber k6 x3 s3 (fun r10 s9 => ((r10 = 0 → Q ((-1)) s9) ∧ (¬ r10 = 0 → ∃ k12, tX x0 3 = some k12 ∧ kX k12 = 0 ∧ (((gI s9 k12 0) = 0 → Q ((-4)) s9) ∧ (¬ (gI s9 k12 0) = 0 → ∃ k16, tX x0 3 = some k16 ∧ kX k16 = 0 ∧ p_X0_room k16 s9 (fun r20 s19 => ((x1 ≤ r20 → ∃ k22, tX x0 5 = some k22 ∧ kX k22 = 1 ∧ p_X1_take k22 (tX x0 3) s19 (fun s25 => ∃ k26, tX x0 5 = some k26 ∧ kX k26 = 1 ∧ p_X1_leastWet k26 x1 x2 s25 (fun r30 s29 => ∃ k31, tX x0 0 = some k31 ∧ kX k31 = 3 ∧ p_X4_make k31 x3 6 0 s29 (fun s34 => (∃ n35, p_X5_raise_L93 Q  n35 x0 x2 x3 r30 x1 0 s34))))) ∧ (¬ x1 ≤ r20 → Q ((-4)) s19)))))))))))))))
set_option maxHeartbeats 4000000 in
set_option maxRecDepth 100000 in
theorem c_X5_raise (l : Launch) (D : va_G) (cs : Cs) (ad : Nat → Nat) (x0 : Nat) (x1 : Int32) (x2 : Int32) (x3 : Int32) (s0 : Sg) (Q : Int32 → Sg → Prop) (hk0 : kX x0 = 4) : Met l yX5_raise wsX5_raise { frames := 5, cells := 0, slots := 0, locals := 136 } (Pc0 bX D cs ad [.ref (ad x0), .int x1, .int x2, .int x3] s0 (p_X5_raise x0 x1 x2 x3 s0 Q)) (QI bX D cs ad Q) 0 0 (fAd bX ad) := by
  refine Met.ofW (cc := cX5_raise) (maxL := 8) (ret := (some .int)) (by decide) rfl ?_
  intro p e s m args below meth c s₁ B0 hml hv
  obtain ⟨ha, hP, hE, h⟩ := hv
  have hx := B0.exec
  have hb := B0.bytes
  have hr := B0.returns
  have hts := atoms_spec (ws := wsX5_raise) B0.pre
  have hown : s.vm.findClass RX5 = some m.cls := findClass_of_methodNamed B0.named
  have hlocks := B0.notSynchronized
  have hi_X0 : ∀ w ∈ u_ws RX0 TX0 15, w ∈ wsX5_raise := by decide +kernel
  have hi_X5 : ∀ w ∈ u_ws RX5 TX5 12, w ∈ wsX5_raise := by decide +kernel
  have hS : va_S (fAd bX ad) s.heap s.heap [] := va_S.rf
  have hl := lv_entry ([.ref (ad x0), .int x1, .int x2, .int x3]) (n := 8) (by first | exact Nat.le_of_ble_eq_true rfl | simp [lg_sl, re_cat, cat_i, cat_l, cat_r])
  rw [show entryFrame m args 8 = entryFrame m ([.ref (ad x0), .int x1, .int x2, .int x3] : List Value).toArray 8 by rw [ha], lg_entry_eq]
  generalize (lg_sl ([.ref (ad x0), .int x1, .int x2, .int x3]) ++ List.replicate (8 - (lg_sl ([.ref (ad x0), .int x1, .int x2, .int x3])).length) Slot.unset).toArray = ls at hl ⊢
  have hl : lv_has ls 8 [(0, .ref (ad x0)), (1, .int x1), (2, .int x2), (3, .int x3)] := by first | exact hl | simpa [lv_args, re_cat, cat_i, cat_l, cat_r] using hl
  have hB93 : ∀ (n93 : Nat) (x2 : Int32) (x3 : Int32) (x4 : Int32) (x5 : Int32) (x6 : Int32) (σ : Sg) (H : Heap) (locs : List Loc) (ls : Array Slot), p_X5_raise_L93 Q  n93 x0 x2 x3 x4 x5 x6 σ → va_P D vwCl (wl bX cs ad σ) H → va_S (fAd bX ad) s.heap H locs → lv_has ls 8 [(0, .ref (ad x0)), (2, .int x2), (3, .int x3), (4, .int x4), (5, .int x5), (6, .int x6)] → W p l e { frames := 5, cells := 0, slots := 0, locals := 136 } s m args below meth c H locs 0 0 (MQ below (QI bX D cs ad Q) args s 0 0 (fAd bX ad)) (F0 m 93 ls []) := by
    intro n93
    induction n93 with
    | zero =>
      intro x2 x3 x4 x5 x6 σ H locs ls h
      exact h.elim
    | succ n93 ih =>
      have hK93 := ih
      intro x2 x3 x4 x5 x6 σ H locs ls h hP hS hl
      rw [p_X5_raise_L93] at h
      refine lv_iload hx hb dX5_raise_93 (lv_at hl 5 rfl) ?_
      refine lv_bipush (v := 6) hx hb dX5_raise_95 (by decide) ?_
      refine lv_icmp_ge (tgt := 139) hx hb dX5_raise_97 (by decide) (fun c1 => ?_) (fun c1 => ?_)
      · replace h := h.1 c1
        refine lv_iload hx hb dX5_raise_139 (lv_at hl 3 rfl) ?_
        exact W.iret hx hb hr (fun t ht hW => ⟨⟨_, _, rfl, h, pw ht hP⟩, hS.F ht⟩) hS.2.2 dX5_raise_141
      · replace h := h.2 c1
        refine lv_aload_n hx hb dX5_raise_100 rfl (lv_at hl 0 rfl) ?_
        refine va_get (ci := 4) (v := va_re ad (tX x0 5)) (C := RX5) (T := TX5) (N := 12) hx hb hts hi_X5 hown hE.1 hP x0 (w_4 hE hk0) rfl 5 (by decide) (hts (.fieldLink RX5 44 "HemLine" "dykes" "LHemLine$Dykes;") (by decide +kernel)) (fun _ h9 => h9) rfl dX5_raise_101 ?_
        refine lv_iload hx hb dX5_raise_104 (lv_at hl 5 rfl) ?_
        refine lv_iload hx hb dX5_raise_106 (lv_at hl 4 rfl) ?_
        refine lv_iload_n hx hb dX5_raise_108 rfl (lv_at hl 1 rfl) ?_
        obtain ⟨k2, e3, q4, h⟩ := h
        refine f_i (kV (As := [.int x6, .int x5, .int x2]) (rest := []) e3 ⟨hx, hb, hml, hown, hts⟩ (c_X1_fewestAt l D cs ad k2 x6 x5 x2 σ _ q4) (cwV 3 hts gX5_raise_X1_fewestAt rfl rfl rfl (by decide +kernel) ⟨Nat.le_of_ble_eq_true rfl, Nat.le_of_ble_eq_true rfl⟩) hE hP rfl rfl (w_1 hE q4) h rfl hl.1 rfl (by first | exact lv_room (Nat.le_of_ble_eq_true rfl) | (refine lv_room ?_; simp [re_cat, cat_i, cat_l, cat_r])) dX5_raise_109 ⟨Nat.le_refl _, Nat.le_refl _⟩) hS (fun r6 s5 H locs h hP hS => ?_)
        refine lv_istore (i := 7) (lv' := [(7, .int r6), (0, .ref (ad x0)), (2, .int x2), (3, .int x3), (4, .int x4), (5, .int x5), (6, .int x6)]) hx hb dX5_raise_112 hl (by decide) (by first | rfl | simp [re_cat, cat_i, cat_l, cat_r]) (fun ls hl => ?_)
        refine lv_aload_n hx hb dX5_raise_114 rfl (lv_at hl 1 rfl) ?_
        refine va_get (ci := 4) (v := va_re ad (tX x0 0)) (C := RX5) (T := TX5) (N := 12) hx hb hts hi_X5 hown hE.1 hP x0 (w_4 hE hk0) rfl 0 (by decide) (hts (.fieldLink RX5 16 "HemLine" "rows" "LHemLine$Shelf;") (by decide +kernel)) (fun _ h9 => h9) rfl dX5_raise_115 ?_
        refine lv_iload_n hx hb dX5_raise_118 rfl (lv_at hl 3 rfl) ?_
        refine lv_iload hx hb dX5_raise_119 (lv_at hl 6 rfl) ?_
        refine lv_iload hx hb dX5_raise_121 (lv_at hl 0 rfl) ?_
        obtain ⟨k7, e8, q9, h⟩ := h
        refine f_v (kV (As := [.int x3, .int x6, .int r6]) (rest := []) e8 ⟨hx, hb, hml, hown, hts⟩ (c_X4_setCell l D cs ad k7 x3 x6 r6 s5 _ q9) (cwV 3 hts gX5_raise_X4_setCell rfl rfl rfl (by decide +kernel) ⟨Nat.le_of_ble_eq_true rfl, Nat.le_of_ble_eq_true rfl⟩) hE hP rfl rfl (w_3 hE q9) h rfl hl.1 rfl (by first | exact lv_room (Nat.le_of_ble_eq_true rfl) | (refine lv_room ?_; simp [re_cat, cat_i, cat_l, cat_r])) dX5_raise_123 ⟨Nat.le_refl _, Nat.le_refl _⟩) hS (fun s10 H locs h hP hS => ?_)
        refine lv_iload hx hb dX5_raise_126 (lv_at hl 5 rfl) ?_
        refine lv_iload hx hb dX5_raise_128 (lv_at hl 0 rfl) ?_
        refine lv_isub hx hb dX5_raise_130 ?_
        refine lv_istore (i := 5) (lv' := [(5, .int (x5 - r6)), (7, .int r6), (0, .ref (ad x0)), (2, .int x2), (3, .int x3), (4, .int x4), (6, .int x6)]) hx hb dX5_raise_131 hl (by decide) (by first | rfl | simp [re_cat, cat_i, cat_l, cat_r]) (fun ls hl => ?_)
        refine lv_iinc (v := x6 + 1) (lv' := [(6, .int (x6 + 1)), (5, .int (x5 - r6)), (7, .int r6), (0, .ref (ad x0)), (2, .int x2), (3, .int x3), (4, .int x4)]) hx hb dX5_raise_133 hl (k := 6) rfl rfl (by decide) (by first | rfl | simp [re_cat, cat_i, cat_l, cat_r]) (fun ls hl => ?_)
        refine lv_goto (tgt := 93) hx hb dX5_raise_136 (by decide) ?_
        exact ih x2 x3 x4 (x5 - r6) (x6 + 1) s10 H locs ls h hP hS (lv_sub hl [3, 4, 5, 6, 1, 0] rfl)
  unfold p_X5_raise at h
  refine lv_iload_n hx hb dX5_raise_0 rfl (lv_at hl 1 rfl) ?_
  refine lv_if_lt (tgt := 28) hx hb dX5_raise_1 (by decide) (fun c1 => ?_) (fun c1 => ?_)
  · replace h := h.1 c1
    refine lv_iconst (v := (-1)) hx hb dX5_raise_28 (by decide) ?_
    exact W.iret hx hb hr (fun t ht hW => ⟨⟨_, _, rfl, h, pw ht hP⟩, hS.F ht⟩) hS.2.2 dX5_raise_29
  · replace h := h.2 c1
    refine lv_iload_n hx hb dX5_raise_4 rfl (lv_at hl 1 rfl) ?_
    refine lv_bipush (v := 6) hx hb dX5_raise_5 (by decide) ?_
    refine lv_icmp_gt (tgt := 28) hx hb dX5_raise_7 (by decide) (fun c2 => ?_) (fun c2 => ?_)
    · replace h := h.1 c2
      refine lv_iconst (v := (-1)) hx hb dX5_raise_28 (by decide) ?_
      exact W.iret hx hb hr (fun t ht hW => ⟨⟨_, _, rfl, h, pw ht hP⟩, hS.F ht⟩) hS.2.2 dX5_raise_29
    · replace h := h.2 c2
      refine lv_iload_n hx hb dX5_raise_10 rfl (lv_at hl 2 rfl) ?_
      refine f_i (kS (As := [.int x2]) (rest := []) ⟨hx, hb, hml, hown, hts⟩ (c_X5_isHeight l D cs ad x2 s0 _) (va_cwS 1 hts gX5_raise_X5_isHeight rfl rfl rfl (by decide +kernel) ⟨Nat.le_of_ble_eq_true rfl, Nat.le_of_ble_eq_true rfl⟩) hE hP h rfl hl.1 rfl (by first | exact lv_room (Nat.le_of_ble_eq_true rfl) | (refine lv_room ?_; simp [re_cat, cat_i, cat_l, cat_r])) dX5_raise_11 ⟨Nat.le_refl _, Nat.le_refl _⟩) hS (fun r4 s3 H locs h hP hS => ?_)
      refine lv_if_eq (tgt := 28) hx hb dX5_raise_14 (by decide) (fun c5 => ?_) (fun c5 => ?_)
      · replace h := h.1 c5
        refine lv_iconst (v := (-1)) hx hb dX5_raise_28 (by decide) ?_
        exact W.iret hx hb hr (fun t ht hW => ⟨⟨_, _, rfl, h, pw ht hP⟩, hS.F ht⟩) hS.2.2 dX5_raise_29
      · replace h := h.2 c5
        refine lv_aload_n hx hb dX5_raise_17 rfl (lv_at hl 0 rfl) ?_
        refine va_get (ci := 4) (v := va_re ad (tX x0 0)) (C := RX5) (T := TX5) (N := 12) hx hb hts hi_X5 hown hE.1 hP x0 (w_4 hE hk0) rfl 0 (by decide) (hts (.fieldLink RX5 16 "HemLine" "rows" "LHemLine$Shelf;") (by decide +kernel)) (fun _ h9 => h9) rfl dX5_raise_18 ?_
        refine lv_iload_n hx hb dX5_raise_21 rfl (lv_at hl 3 rfl) ?_
        obtain ⟨k6, e7, q8, h⟩ := h
        refine f_i (kV (As := [.int x3]) (rest := []) e7 ⟨hx, hb, hml, hown, hts⟩ (c_X4_isNumber l D cs ad k6 x3 s3 _ q8) (cwV 1 hts gX5_raise_X4_isNumber rfl rfl rfl (by decide +kernel) ⟨Nat.le_of_ble_eq_true rfl, Nat.le_of_ble_eq_true rfl⟩) hE hP rfl rfl (w_3 hE q8) h rfl hl.1 rfl (by first | exact lv_room (Nat.le_of_ble_eq_true rfl) | (refine lv_room ?_; simp [re_cat, cat_i, cat_l, cat_r])) dX5_raise_22 ⟨Nat.le_refl _, Nat.le_refl _⟩) hS (fun r10 s9 H locs h hP hS => ?_)
        refine lv_if_ne (tgt := 30) hx hb dX5_raise_25 (by decide) (fun c11 => ?_) (fun c11 => ?_)
        · replace h := h.2 c11
          refine lv_aload_n hx hb dX5_raise_30 rfl (lv_at hl 0 rfl) ?_
          refine va_get (ci := 4) (v := va_re ad (tX x0 3)) (C := RX5) (T := TX5) (N := 12) hx hb hts hi_X5 hown hE.1 hP x0 (w_4 hE hk0) rfl 3 (by decide) (hts (.fieldLink RX5 33 "HemLine" "now" "LHemLine$Delta;") (by decide +kernel)) (fun _ h9 => h9) rfl dX5_raise_31 ?_
          obtain ⟨k12, e13, q14, h⟩ := h
          refine r_known (ad := ad) e13 ?_
          refine va_getN (ci := 0) (v := .int (gI s9 k12 0)) (C := RX0) (T := TX0) (N := 15) hx hb hts hi_X0 hown hE.1 hP k12 (w_0 hE q14) rfl 0 (by decide) ((hE.2.2.2.1 ("HemLine", 126, "HemLine$Delta", "women", "I", "HemLine") (by decide +kernel)).use rfl) (fun _ h9 => h9) rfl dX5_raise_34 ?_
          refine lv_if_eq (tgt := 51) hx hb dX5_raise_37 (by decide) (fun c15 => ?_) (fun c15 => ?_)
          · replace h := h.1 c15
            refine lv_bipush (v := (-4)) hx hb dX5_raise_51 (by decide) ?_
            exact W.iret hx hb hr (fun t ht hW => ⟨⟨_, _, rfl, h, pw ht hP⟩, hS.F ht⟩) hS.2.2 dX5_raise_53
          · replace h := h.2 c15
            refine lv_aload_n hx hb dX5_raise_40 rfl (lv_at hl 0 rfl) ?_
            refine va_get (ci := 4) (v := va_re ad (tX x0 3)) (C := RX5) (T := TX5) (N := 12) hx hb hts hi_X5 hown hE.1 hP x0 (w_4 hE hk0) rfl 3 (by decide) (hts (.fieldLink RX5 33 "HemLine" "now" "LHemLine$Delta;") (by decide +kernel)) (fun _ h9 => h9) rfl dX5_raise_41 ?_
            obtain ⟨k16, e17, q18, h⟩ := h
            refine f_i (kV (As := []) (rest := []) e17 ⟨hx, hb, hml, hown, hts⟩ (c_X0_room l D cs ad k16 s9 _ q18) (cwV 0 hts gX5_raise_X0_room rfl rfl rfl (by decide +kernel) ⟨Nat.le_of_ble_eq_true rfl, Nat.le_of_ble_eq_true rfl⟩) hE hP rfl rfl (w_0 hE q18) h rfl hl.1 rfl (by first | exact lv_room (Nat.le_of_ble_eq_true rfl) | (refine lv_room ?_; simp [re_cat, cat_i, cat_l, cat_r])) dX5_raise_44 ⟨Nat.le_refl _, Nat.le_refl _⟩) hS (fun r20 s19 H locs h hP hS => ?_)
            refine lv_iload_n hx hb dX5_raise_47 rfl (lv_at hl 1 rfl) ?_
            refine lv_icmp_ge (tgt := 54) hx hb dX5_raise_48 (by decide) (fun c21 => ?_) (fun c21 => ?_)
            · replace h := h.1 c21
              refine lv_aload_n hx hb dX5_raise_54 rfl (lv_at hl 0 rfl) ?_
              refine va_get (ci := 4) (v := va_re ad (tX x0 5)) (C := RX5) (T := TX5) (N := 12) hx hb hts hi_X5 hown hE.1 hP x0 (w_4 hE hk0) rfl 5 (by decide) (hts (.fieldLink RX5 44 "HemLine" "dykes" "LHemLine$Dykes;") (by decide +kernel)) (fun _ h9 => h9) rfl dX5_raise_55 ?_
              refine lv_aload_n hx hb dX5_raise_58 rfl (lv_at hl 0 rfl) ?_
              refine va_get (ci := 4) (v := va_re ad (tX x0 3)) (C := RX5) (T := TX5) (N := 12) hx hb hts hi_X5 hown hE.1 hP x0 (w_4 hE hk0) rfl 3 (by decide) (hts (.fieldLink RX5 33 "HemLine" "now" "LHemLine$Delta;") (by decide +kernel)) (fun _ h9 => h9) rfl dX5_raise_59 ?_
              obtain ⟨k22, e23, q24, h⟩ := h
              refine f_v (kV (As := [va_re ad (tX x0 3)]) (rest := []) e23 ⟨hx, hb, hml, hown, hts⟩ (c_X1_take l D cs ad k22 (tX x0 3) s19 _ q24) (cwV 1 hts gX5_raise_X1_take rfl rfl rfl (by decide +kernel) ⟨Nat.le_of_ble_eq_true rfl, Nat.le_of_ble_eq_true rfl⟩) hE hP rfl rfl (w_1 hE q24) h rfl hl.1 rfl (by first | exact lv_room (Nat.le_of_ble_eq_true rfl) | (refine lv_room ?_; simp [re_cat, cat_i, cat_l, cat_r])) dX5_raise_62 ⟨Nat.le_refl _, Nat.le_refl _⟩) hS (fun s25 H locs h hP hS => ?_)
              refine lv_aload_n hx hb dX5_raise_65 rfl (lv_at hl 0 rfl) ?_
              refine va_get (ci := 4) (v := va_re ad (tX x0 5)) (C := RX5) (T := TX5) (N := 12) hx hb hts hi_X5 hown hE.1 hP x0 (w_4 hE hk0) rfl 5 (by decide) (hts (.fieldLink RX5 44 "HemLine" "dykes" "LHemLine$Dykes;") (by decide +kernel)) (fun _ h9 => h9) rfl dX5_raise_66 ?_
              refine lv_iload_n hx hb dX5_raise_69 rfl (lv_at hl 1 rfl) ?_
              refine lv_iload_n hx hb dX5_raise_70 rfl (lv_at hl 2 rfl) ?_
              obtain ⟨k26, e27, q28, h⟩ := h
              refine f_i (kV (As := [.int x1, .int x2]) (rest := []) e27 ⟨hx, hb, hml, hown, hts⟩ (c_X1_leastWet l D cs ad k26 x1 x2 s25 _ q28) (cwV 2 hts gX5_raise_X1_leastWet rfl rfl rfl (by decide +kernel) ⟨Nat.le_of_ble_eq_true rfl, Nat.le_of_ble_eq_true rfl⟩) hE hP rfl rfl (w_1 hE q28) h rfl hl.1 rfl (by first | exact lv_room (Nat.le_of_ble_eq_true rfl) | (refine lv_room ?_; simp [re_cat, cat_i, cat_l, cat_r])) dX5_raise_71 ⟨Nat.le_refl _, Nat.le_refl _⟩) hS (fun r30 s29 H locs h hP hS => ?_)
              refine lv_istore (i := 4) (lv' := [(4, .int r30), (0, .ref (ad x0)), (1, .int x1), (2, .int x2), (3, .int x3)]) hx hb dX5_raise_74 hl (by decide) (by first | rfl | simp [re_cat, cat_i, cat_l, cat_r]) (fun ls hl => ?_)
              refine lv_aload_n hx hb dX5_raise_76 rfl (lv_at hl 1 rfl) ?_
              refine va_get (ci := 4) (v := va_re ad (tX x0 0)) (C := RX5) (T := TX5) (N := 12) hx hb hts hi_X5 hown hE.1 hP x0 (w_4 hE hk0) rfl 0 (by decide) (hts (.fieldLink RX5 16 "HemLine" "rows" "LHemLine$Shelf;") (by decide +kernel)) (fun _ h9 => h9) rfl dX5_raise_77 ?_
              refine lv_iload_n hx hb dX5_raise_80 rfl (lv_at hl 4 rfl) ?_
              refine lv_bipush (v := 6) hx hb dX5_raise_81 (by decide) ?_
              refine lv_iconst (v := 0) hx hb dX5_raise_83 (by decide) ?_
              obtain ⟨k31, e32, q33, h⟩ := h
              refine f_v (kV (As := [.int x3, .int 6, .int 0]) (rest := []) e32 ⟨hx, hb, hml, hown, hts⟩ (c_X4_make l D cs ad k31 x3 6 0 s29 _ q33) (cwV 3 hts gX5_raise_X4_make rfl rfl rfl (by decide +kernel) ⟨Nat.le_of_ble_eq_true rfl, Nat.le_of_ble_eq_true rfl⟩) hE hP rfl rfl (w_3 hE q33) h rfl hl.1 rfl (by first | exact lv_room (Nat.le_of_ble_eq_true rfl) | (refine lv_room ?_; simp [re_cat, cat_i, cat_l, cat_r])) dX5_raise_84 ⟨Nat.le_refl _, Nat.le_refl _⟩) hS (fun s34 H locs h hP hS => ?_)
              refine lv_iload_n hx hb dX5_raise_87 rfl (lv_at hl 2 rfl) ?_
              refine lv_istore (i := 5) (lv' := [(5, .int x1), (4, .int r30), (0, .ref (ad x0)), (1, .int x1), (2, .int x2), (3, .int x3)]) hx hb dX5_raise_88 hl (by decide) (by first | rfl | simp [re_cat, cat_i, cat_l, cat_r]) (fun ls hl => ?_)
              refine lv_iconst (v := 0) hx hb dX5_raise_90 (by decide) ?_
              refine lv_istore (i := 6) (lv' := [(6, .int 0), (5, .int x1), (4, .int r30), (0, .ref (ad x0)), (1, .int x1), (2, .int x2), (3, .int x3)]) hx hb dX5_raise_91 hl (by decide) (by first | rfl | simp [re_cat, cat_i, cat_l, cat_r]) (fun ls hl => ?_)
              obtain ⟨n35, h⟩ := h
              exact hB93 n35 x2 x3 r30 x1 0 s34 _ _ ls h hP hS (lv_sub hl [3, 5, 6, 2, 1, 0] rfl)
            · replace h := h.2 c21
              refine lv_bipush (v := (-4)) hx hb dX5_raise_51 (by decide) ?_
              exact W.iret hx hb hr (fun t ht hW => ⟨⟨_, _, rfl, h, pw ht hP⟩, hS.F ht⟩) hS.2.2 dX5_raise_53
        · replace h := h.1 c11
          refine lv_iconst (v := (-1)) hx hb dX5_raise_28 (by decide) ?_
          exact W.iret hx hb hr (fun t ht hW => ⟨⟨_, _, rfl, h, pw ht hP⟩, hS.F ht⟩) hS.2.2 dX5_raise_29
def p_X5_dry_L18 (Q : Int32 → Sg → Prop)  : Nat → Nat → Int32 → Int32 → Sg → Prop
  | 0, _, _, _, _ => False
  | n + 1, x0, x1, x2, s => ∃ k1, tX x0 3 = some k1 ∧ kX k1 = 0 ∧ (((gI s k1 0) ≤ x2 → Q x1 s) ∧ (¬ (gI s k1 0) ≤ x2 → ∃ k5, tX x0 3 = some k5 ∧ kX k5 = 0 ∧ p_X0_groundUnder k5 x2 s (fun r9 s8 => p_X5_dry_L18 Q  n x0 ((if r9 < x1 then r9 else x1)) (x2 + 1) s8)))
def p_X5_dry (x0 : Nat) (s : Sg) (Q : Int32 → Sg → Prop) : Prop := ∃ k1, tX x0 3 = some k1 ∧ kX k1 = 0 ∧ (((gI s k1 0) = 0 → Q ((-4)) s) ∧ (¬ (gI s k1 0) = 0 → (∃ n5, p_X5_dry_L18 Q  n5 x0 9 0 s)))
set_option maxHeartbeats 4000000 in
set_option maxRecDepth 100000 in
theorem c_X5_dry (l : Launch) (D : va_G) (cs : Cs) (ad : Nat → Nat) (x0 : Nat) (s0 : Sg) (Q : Int32 → Sg → Prop) (hk0 : kX x0 = 4) : Met l yX5_dry wsX5_dry { frames := 2, cells := 0, slots := 0, locals := 42 } (Pc0 bX D cs ad [.ref (ad x0)] s0 (p_X5_dry x0 s0 Q)) (QI bX D cs ad Q) 0 0 (fAd bX ad) := by
  refine Met.ofW (cc := cX5_dry) (maxL := 3) (ret := (some .int)) (by decide) rfl ?_
  intro p e s m args below meth c s₁ B0 hml hv
  obtain ⟨ha, hP, hE, h⟩ := hv
  have hx := B0.exec
  have hb := B0.bytes
  have hr := B0.returns
  have hts := atoms_spec (ws := wsX5_dry) B0.pre
  have hown : s.vm.findClass RX5 = some m.cls := findClass_of_methodNamed B0.named
  have hlocks := B0.notSynchronized
  have hi_X0 : ∀ w ∈ u_ws RX0 TX0 15, w ∈ wsX5_dry := by decide +kernel
  have hi_X5 : ∀ w ∈ u_ws RX5 TX5 12, w ∈ wsX5_dry := by decide +kernel
  have hS : va_S (fAd bX ad) s.heap s.heap [] := va_S.rf
  have hl := lv_entry ([.ref (ad x0)]) (n := 3) (by first | exact Nat.le_of_ble_eq_true rfl | simp [lg_sl, re_cat, cat_i, cat_l, cat_r])
  rw [show entryFrame m args 3 = entryFrame m ([.ref (ad x0)] : List Value).toArray 3 by rw [ha], lg_entry_eq]
  generalize (lg_sl ([.ref (ad x0)]) ++ List.replicate (3 - (lg_sl ([.ref (ad x0)])).length) Slot.unset).toArray = ls at hl ⊢
  have hl : lv_has ls 3 [(0, .ref (ad x0))] := by first | exact hl | simpa [lv_args, re_cat, cat_i, cat_l, cat_r] using hl
  have hB18 : ∀ (n18 : Nat) (x1 : Int32) (x2 : Int32) (σ : Sg) (H : Heap) (locs : List Loc) (ls : Array Slot), p_X5_dry_L18 Q  n18 x0 x1 x2 σ → va_P D vwCl (wl bX cs ad σ) H → va_S (fAd bX ad) s.heap H locs → lv_has ls 3 [(0, .ref (ad x0)), (1, .int x1), (2, .int x2)] → W p l e { frames := 2, cells := 0, slots := 0, locals := 42 } s m args below meth c H locs 0 0 (MQ below (QI bX D cs ad Q) args s 0 0 (fAd bX ad)) (F0 m 18 ls []) := by
    intro n18
    induction n18 with
    | zero =>
      intro x1 x2 σ H locs ls h
      exact h.elim
    | succ n18 ih =>
      have hK18 := ih
      intro x1 x2 σ H locs ls h hP hS hl
      rw [p_X5_dry_L18] at h
      refine lv_iload_n hx hb dX5_dry_18 rfl (lv_at hl 2 rfl) ?_
      refine lv_aload_n hx hb dX5_dry_19 rfl (lv_at hl 0 rfl) ?_
      refine va_get (ci := 4) (v := va_re ad (tX x0 3)) (C := RX5) (T := TX5) (N := 12) hx hb hts hi_X5 hown hE.1 hP x0 (w_4 hE hk0) rfl 3 (by decide) (hts (.fieldLink RX5 33 "HemLine" "now" "LHemLine$Delta;") (by decide +kernel)) (fun _ h9 => h9) rfl dX5_dry_20 ?_
      obtain ⟨k1, e2, q3, h⟩ := h
      refine r_known (ad := ad) e2 ?_
      refine va_getN (ci := 0) (v := .int (gI σ k1 0)) (C := RX0) (T := TX0) (N := 15) hx hb hts hi_X0 hown hE.1 hP k1 (w_0 hE q3) rfl 0 (by decide) ((hE.2.2.2.1 ("HemLine", 126, "HemLine$Delta", "women", "I", "HemLine") (by decide +kernel)).use rfl) (fun _ h9 => h9) rfl dX5_dry_23 ?_
      refine lv_icmp_ge (tgt := 48) hx hb dX5_dry_26 (by decide) (fun c4 => ?_) (fun c4 => ?_)
      · replace h := h.1 c4
        refine lv_iload_n hx hb dX5_dry_48 rfl (lv_at hl 1 rfl) ?_
        exact W.iret hx hb hr (fun t ht hW => ⟨⟨_, _, rfl, h, pw ht hP⟩, hS.F ht⟩) hS.2.2 dX5_dry_49
      · replace h := h.2 c4
        refine lv_iload_n hx hb dX5_dry_29 rfl (lv_at hl 1 rfl) ?_
        refine lv_aload_n hx hb dX5_dry_30 rfl (lv_at hl 0 rfl) ?_
        refine va_get (ci := 4) (v := va_re ad (tX x0 3)) (C := RX5) (T := TX5) (N := 12) hx hb hts hi_X5 hown hE.1 hP x0 (w_4 hE hk0) rfl 3 (by decide) (hts (.fieldLink RX5 33 "HemLine" "now" "LHemLine$Delta;") (by decide +kernel)) (fun _ h9 => h9) rfl dX5_dry_31 ?_
        refine lv_iload_n hx hb dX5_dry_34 rfl (lv_at hl 2 rfl) ?_
        obtain ⟨k5, e6, q7, h⟩ := h
        refine f_i (kV (As := [.int x2]) (rest := [.int x1]) e6 ⟨hx, hb, hml, hown, hts⟩ (c_X0_groundUnder l D cs ad k5 x2 σ _ q7) (cwV 1 hts gX5_dry_X0_groundUnder rfl rfl rfl (by decide +kernel) ⟨Nat.le_of_ble_eq_true rfl, Nat.le_of_ble_eq_true rfl⟩) hE hP rfl rfl (w_0 hE q7) h rfl hl.1 rfl (by first | exact lv_room (Nat.le_of_ble_eq_true rfl) | (refine lv_room ?_; simp [re_cat, cat_i, cat_l, cat_r])) dX5_dry_35 ⟨Nat.le_refl _, Nat.le_refl _⟩) hS (fun r9 s8 H locs h hP hS => ?_)
        refine va_mmin hx hb (hml.trans hl.1.symm) hown (hts (.methodLink RX5 261 Lib.Math.min.name) (by decide +kernel)) (hts (.static Lib.Math.min.name) (by decide +kernel)) (hts (.initialized "java/lang/Math") (by decide +kernel)) (hts (.code Lib.Math.min.name Lib.Math.min.code 2 (some .int)) (by decide +kernel)) (Nat.le_of_ble_eq_true rfl) (by first | exact Nat.le_of_ble_eq_true rfl | (simp only [List.map, re_cat, cat_i, cat_l, cat_r, List.sum_cons, List.sum_nil]; exact Nat.le_of_ble_eq_true rfl)) (Nat.le_refl _) (Nat.le_refl _) dX5_dry_38 ?_
        refine lv_istore_n (i := 1) (lv' := [(1, .int ((if r9 < x1 then r9 else x1))), (0, .ref (ad x0)), (2, .int x2)]) hx hb dX5_dry_41 rfl hl (by decide) (by first | rfl | simp [re_cat, cat_i, cat_l, cat_r]) (fun ls hl => ?_)
        refine lv_iinc (v := x2 + 1) (lv' := [(2, .int (x2 + 1)), (1, .int ((if r9 < x1 then r9 else x1))), (0, .ref (ad x0))]) hx hb dX5_dry_42 hl (k := 2) rfl rfl (by decide) (by first | rfl | simp [re_cat, cat_i, cat_l, cat_r]) (fun ls hl => ?_)
        refine lv_goto (tgt := 18) hx hb dX5_dry_45 (by decide) ?_
        exact ih ((if r9 < x1 then r9 else x1)) (x2 + 1) s8 H locs ls h hP hS (lv_sub hl [2, 1, 0] rfl)
  unfold p_X5_dry at h
  refine lv_aload_n hx hb dX5_dry_0 rfl (lv_at hl 0 rfl) ?_
  refine va_get (ci := 4) (v := va_re ad (tX x0 3)) (C := RX5) (T := TX5) (N := 12) hx hb hts hi_X5 hown hE.1 hP x0 (w_4 hE hk0) rfl 3 (by decide) (hts (.fieldLink RX5 33 "HemLine" "now" "LHemLine$Delta;") (by decide +kernel)) (fun _ h9 => h9) rfl dX5_dry_1 ?_
  obtain ⟨k1, e2, q3, h⟩ := h
  refine r_known (ad := ad) e2 ?_
  refine va_getN (ci := 0) (v := .int (gI s0 k1 0)) (C := RX0) (T := TX0) (N := 15) hx hb hts hi_X0 hown hE.1 hP k1 (w_0 hE q3) rfl 0 (by decide) ((hE.2.2.2.1 ("HemLine", 126, "HemLine$Delta", "women", "I", "HemLine") (by decide +kernel)).use rfl) (fun _ h9 => h9) rfl dX5_dry_4 ?_
  refine lv_if_ne (tgt := 13) hx hb dX5_dry_7 (by decide) (fun c4 => ?_) (fun c4 => ?_)
  · replace h := h.2 c4
    refine lv_bipush (v := 9) hx hb dX5_dry_13 (by decide) ?_
    refine lv_istore_n (i := 1) (lv' := [(1, .int 9), (0, .ref (ad x0))]) hx hb dX5_dry_15 rfl hl (by decide) (by first | rfl | simp [re_cat, cat_i, cat_l, cat_r]) (fun ls hl => ?_)
    refine lv_iconst (v := 0) hx hb dX5_dry_16 (by decide) ?_
    refine lv_istore_n (i := 2) (lv' := [(2, .int 0), (1, .int 9), (0, .ref (ad x0))]) hx hb dX5_dry_17 rfl hl (by decide) (by first | rfl | simp [re_cat, cat_i, cat_l, cat_r]) (fun ls hl => ?_)
    obtain ⟨n5, h⟩ := h
    exact hB18 n5 9 0 s0 _ _ ls h hP hS (lv_sub hl [2, 1, 0] rfl)
  · replace h := h.1 c4
    refine lv_bipush (v := (-4)) hx hb dX5_dry_10 (by decide) ?_
    exact W.iret hx hb hr (fun t ht hW => ⟨⟨_, _, rfl, h, pw ht hP⟩, hS.F ht⟩) hS.2.2 dX5_dry_12
def p_X5_least (x0 : Nat) (x1 : Int32) (x2 : Int32) (x3 : Int32) (s : Sg) (Q : Int32 → Sg → Prop) : Prop := p_X5_isWoman x0 x1 s (fun r2 s1 => ((r2 = 0 → Q ((-1)) s1) ∧ (¬ r2 = 0 → p_X5_isHeight x2 s1 (fun r5 s4 => ((r5 = 0 → Q ((-1)) s4) ∧ (¬ r5 = 0 → p_X5_isHeight x3 s4 (fun r8 s7 => ((r8 = 0 → Q ((-1)) s7) ∧ (¬ r8 = 0 → ∃ k10, tX x0 3 = some k10 ∧ kX k10 = 0 ∧ p_X0_groundUnder k10 x1 s7 (fun r14 s13 => (((r14 + ((if 0 < ((x2 - x3) - r14) then ((x2 - x3) - r14) else 0))) ≤ 9 → Q ((if 0 < ((x2 - x3) - r14) then ((x2 - x3) - r14) else 0)) s13) ∧ (¬ (r14 + ((if 0 < ((x2 - x3) - r14) then ((x2 - x3) - r14) else 0))) ≤ 9 → Q ((-9)) s13))))))))))))
set_option maxHeartbeats 4000000 in
set_option maxRecDepth 100000 in
theorem c_X5_least (l : Launch) (D : va_G) (cs : Cs) (ad : Nat → Nat) (x0 : Nat) (x1 : Int32) (x2 : Int32) (x3 : Int32) (s0 : Sg) (Q : Int32 → Sg → Prop) (hk0 : kX x0 = 4) : Met l yX5_least wsX5_least { frames := 2, cells := 0, slots := 0, locals := 42 } (Pc0 bX D cs ad [.ref (ad x0), .int x1, .int x2, .int x3] s0 (p_X5_least x0 x1 x2 x3 s0 Q)) (QI bX D cs ad Q) 0 0 (fAd bX ad) := by
  refine Met.ofW (cc := cX5_least) (maxL := 6) (ret := (some .int)) (by decide) rfl ?_
  intro p e s m args below meth c s₁ B0 hml hv
  obtain ⟨ha, hP, hE, h⟩ := hv
  have hx := B0.exec
  have hb := B0.bytes
  have hr := B0.returns
  have hts := atoms_spec (ws := wsX5_least) B0.pre
  have hown : s.vm.findClass RX5 = some m.cls := findClass_of_methodNamed B0.named
  have hlocks := B0.notSynchronized
  have hi_X5 : ∀ w ∈ u_ws RX5 TX5 12, w ∈ wsX5_least := by decide +kernel
  have hS : va_S (fAd bX ad) s.heap s.heap [] := va_S.rf
  have hl := lv_entry ([.ref (ad x0), .int x1, .int x2, .int x3]) (n := 6) (by first | exact Nat.le_of_ble_eq_true rfl | simp [lg_sl, re_cat, cat_i, cat_l, cat_r])
  rw [show entryFrame m args 6 = entryFrame m ([.ref (ad x0), .int x1, .int x2, .int x3] : List Value).toArray 6 by rw [ha], lg_entry_eq]
  generalize (lg_sl ([.ref (ad x0), .int x1, .int x2, .int x3]) ++ List.replicate (6 - (lg_sl ([.ref (ad x0), .int x1, .int x2, .int x3])).length) Slot.unset).toArray = ls at hl ⊢
  have hl : lv_has ls 6 [(0, .ref (ad x0)), (1, .int x1), (2, .int x2), (3, .int x3)] := by first | exact hl | simpa [lv_args, re_cat, cat_i, cat_l, cat_r] using hl
  unfold p_X5_least at h
  refine lv_aload_n hx hb dX5_least_0 rfl (lv_at hl 0 rfl) ?_
  refine lv_iload_n hx hb dX5_least_1 rfl (lv_at hl 1 rfl) ?_
  refine f_i (kV (As := [.int x1]) (rest := []) (o := some x0) rfl ⟨hx, hb, hml, hown, hts⟩ (c_X5_isWoman l D cs ad x0 x1 s0 _ hk0) (cwV 1 hts gX5_least_X5_isWoman rfl rfl rfl (by decide +kernel) ⟨Nat.le_of_ble_eq_true rfl, Nat.le_of_ble_eq_true rfl⟩) hE hP rfl rfl (w_4 hE hk0) h rfl hl.1 rfl (by first | exact lv_room (Nat.le_of_ble_eq_true rfl) | (refine lv_room ?_; simp [re_cat, cat_i, cat_l, cat_r])) dX5_least_2 ⟨Nat.le_refl _, Nat.le_refl _⟩) hS (fun r2 s1 H locs h hP hS => ?_)
  refine lv_if_eq (tgt := 22) hx hb dX5_least_5 (by decide) (fun c3 => ?_) (fun c3 => ?_)
  · replace h := h.1 c3
    refine lv_iconst (v := (-1)) hx hb dX5_least_22 (by decide) ?_
    exact W.iret hx hb hr (fun t ht hW => ⟨⟨_, _, rfl, h, pw ht hP⟩, hS.F ht⟩) hS.2.2 dX5_least_23
  · replace h := h.2 c3
    refine lv_iload_n hx hb dX5_least_8 rfl (lv_at hl 2 rfl) ?_
    refine f_i (kS (As := [.int x2]) (rest := []) ⟨hx, hb, hml, hown, hts⟩ (c_X5_isHeight l D cs ad x2 s1 _) (va_cwS 1 hts gX5_least_X5_isHeight rfl rfl rfl (by decide +kernel) ⟨Nat.le_of_ble_eq_true rfl, Nat.le_of_ble_eq_true rfl⟩) hE hP h rfl hl.1 rfl (by first | exact lv_room (Nat.le_of_ble_eq_true rfl) | (refine lv_room ?_; simp [re_cat, cat_i, cat_l, cat_r])) dX5_least_9 ⟨Nat.le_refl _, Nat.le_refl _⟩) hS (fun r5 s4 H locs h hP hS => ?_)
    refine lv_if_eq (tgt := 22) hx hb dX5_least_12 (by decide) (fun c6 => ?_) (fun c6 => ?_)
    · replace h := h.1 c6
      refine lv_iconst (v := (-1)) hx hb dX5_least_22 (by decide) ?_
      exact W.iret hx hb hr (fun t ht hW => ⟨⟨_, _, rfl, h, pw ht hP⟩, hS.F ht⟩) hS.2.2 dX5_least_23
    · replace h := h.2 c6
      refine lv_iload_n hx hb dX5_least_15 rfl (lv_at hl 3 rfl) ?_
      refine f_i (kS (As := [.int x3]) (rest := []) ⟨hx, hb, hml, hown, hts⟩ (c_X5_isHeight l D cs ad x3 s4 _) (va_cwS 1 hts gX5_least_X5_isHeight rfl rfl rfl (by decide +kernel) ⟨Nat.le_of_ble_eq_true rfl, Nat.le_of_ble_eq_true rfl⟩) hE hP h rfl hl.1 rfl (by first | exact lv_room (Nat.le_of_ble_eq_true rfl) | (refine lv_room ?_; simp [re_cat, cat_i, cat_l, cat_r])) dX5_least_16 ⟨Nat.le_refl _, Nat.le_refl _⟩) hS (fun r8 s7 H locs h hP hS => ?_)
      refine lv_if_ne (tgt := 24) hx hb dX5_least_19 (by decide) (fun c9 => ?_) (fun c9 => ?_)
      · replace h := h.2 c9
        refine lv_aload_n hx hb dX5_least_24 rfl (lv_at hl 0 rfl) ?_
        refine va_get (ci := 4) (v := va_re ad (tX x0 3)) (C := RX5) (T := TX5) (N := 12) hx hb hts hi_X5 hown hE.1 hP x0 (w_4 hE hk0) rfl 3 (by decide) (hts (.fieldLink RX5 33 "HemLine" "now" "LHemLine$Delta;") (by decide +kernel)) (fun _ h9 => h9) rfl dX5_least_25 ?_
        refine lv_iload_n hx hb dX5_least_28 rfl (lv_at hl 1 rfl) ?_
        obtain ⟨k10, e11, q12, h⟩ := h
        refine f_i (kV (As := [.int x1]) (rest := []) e11 ⟨hx, hb, hml, hown, hts⟩ (c_X0_groundUnder l D cs ad k10 x1 s7 _ q12) (cwV 1 hts gX5_least_X0_groundUnder rfl rfl rfl (by decide +kernel) ⟨Nat.le_of_ble_eq_true rfl, Nat.le_of_ble_eq_true rfl⟩) hE hP rfl rfl (w_0 hE q12) h rfl hl.1 rfl (by first | exact lv_room (Nat.le_of_ble_eq_true rfl) | (refine lv_room ?_; simp [re_cat, cat_i, cat_l, cat_r])) dX5_least_29 ⟨Nat.le_refl _, Nat.le_refl _⟩) hS (fun r14 s13 H locs h hP hS => ?_)
        refine lv_istore (i := 4) (lv' := [(4, .int r14), (0, .ref (ad x0)), (1, .int x1), (2, .int x2), (3, .int x3)]) hx hb dX5_least_32 hl (by decide) (by first | rfl | simp [re_cat, cat_i, cat_l, cat_r]) (fun ls hl => ?_)
        refine lv_iconst (v := 0) hx hb dX5_least_34 (by decide) ?_
        refine lv_iload_n hx hb dX5_least_35 rfl (lv_at hl 3 rfl) ?_
        refine lv_iload_n hx hb dX5_least_36 rfl (lv_at hl 4 rfl) ?_
        refine lv_isub hx hb dX5_least_37 ?_
        refine lv_iload hx hb dX5_least_38 (lv_at hl 0 rfl) ?_
        refine lv_isub hx hb dX5_least_40 ?_
        refine va_mmax hx hb (hml.trans hl.1.symm) hown (hts (.methodLink RX5 266 Lib.Math.max.name) (by decide +kernel)) (hts (.static Lib.Math.max.name) (by decide +kernel)) (hts (.initialized "java/lang/Math") (by decide +kernel)) (hts (.code Lib.Math.max.name Lib.Math.max.code 2 (some .int)) (by decide +kernel)) (Nat.le_of_ble_eq_true rfl) (by first | exact Nat.le_of_ble_eq_true rfl | (simp only [List.map, re_cat, cat_i, cat_l, cat_r, List.sum_cons, List.sum_nil]; exact Nat.le_of_ble_eq_true rfl)) (Nat.le_refl _) (Nat.le_refl _) dX5_least_41 ?_
        refine lv_istore (i := 5) (lv' := [(5, .int ((if 0 < ((x2 - x3) - r14) then ((x2 - x3) - r14) else 0))), (4, .int r14), (0, .ref (ad x0)), (1, .int x1), (2, .int x2), (3, .int x3)]) hx hb dX5_least_44 hl (by decide) (by first | rfl | simp [re_cat, cat_i, cat_l, cat_r]) (fun ls hl => ?_)
        refine lv_iload hx hb dX5_least_46 (lv_at hl 1 rfl) ?_
        refine lv_iload hx hb dX5_least_48 (lv_at hl 0 rfl) ?_
        refine lv_iadd hx hb dX5_least_50 ?_
        refine lv_bipush (v := 9) hx hb dX5_least_51 (by decide) ?_
        refine lv_icmp_le (tgt := 61) hx hb dX5_least_53 (by decide) (fun c15 => ?_) (fun c15 => ?_)
        · replace h := h.1 c15
          refine lv_iload hx hb dX5_least_61 (lv_at hl 0 rfl) ?_
          exact W.iret hx hb hr (fun t ht hW => ⟨⟨_, _, rfl, h, pw ht hP⟩, hS.F ht⟩) hS.2.2 dX5_least_63
        · replace h := h.2 c15
          refine lv_bipush (v := (-9)) hx hb dX5_least_56 (by decide) ?_
          refine lv_goto (tgt := 63) hx hb dX5_least_58 (by decide) ?_
          exact W.iret hx hb hr (fun t ht hW => ⟨⟨_, _, rfl, h, pw ht hP⟩, hS.F ht⟩) hS.2.2 dX5_least_63
      · replace h := h.1 c9
        refine lv_iconst (v := (-1)) hx hb dX5_least_22 (by decide) ?_
        exact W.iret hx hb hr (fun t ht hW => ⟨⟨_, _, rfl, h, pw ht hP⟩, hS.F ht⟩) hS.2.2 dX5_least_23
def p_X5_duel (x0 : Nat) (x1 : Int32) (x2 : Int32) (s : Sg) (Q : Int32 → Sg → Prop) : Prop := ((x1 < 0 → Q ((-1)) s) ∧ (¬ x1 < 0 → ((6 < x1 → Q ((-1)) s) ∧ (¬ 6 < x1 → p_X5_isHeight x2 s (fun r4 s3 => ((r4 = 0 → Q ((-1)) s3) ∧ (¬ r4 = 0 → ∃ k6, tX x0 3 = some k6 ∧ kX k6 = 0 ∧ (((gI s3 k6 0) = 0 → Q ((-4)) s3) ∧ (¬ (gI s3 k6 0) = 0 → ∃ k10, tX x0 5 = some k10 ∧ kX k10 = 1 ∧ p_X1_take k10 (tX x0 3) s3 (fun s13 => ∃ k14, tX x0 5 = some k14 ∧ kX k14 = 1 ∧ ∃ k17, tX x0 5 = some k17 ∧ kX k17 = 1 ∧ p_X1_playedOut 8 0 x1 x2 (tX k14 0) (tX k17 1) s13 (fun r21 s20 => Q (r21 + 100) s20)))))))))))
set_option maxHeartbeats 4000000 in
set_option maxRecDepth 100000 in
theorem c_X5_duel (l : Launch) (D : va_G) (cs : Cs) (ad : Nat → Nat) (x0 : Nat) (x1 : Int32) (x2 : Int32) (s0 : Sg) (Q : Int32 → Sg → Prop) (hk0 : kX x0 = 4) : Met l yX5_duel wsX5_duel { frames := 11, cells := 0, slots := 0, locals := 316 } (Pc0 bX D cs ad [.ref (ad x0), .int x1, .int x2] s0 (p_X5_duel x0 x1 x2 s0 Q)) (QI bX D cs ad Q) 0 0 (fAd bX ad) := by
  refine Met.ofW (cc := cX5_duel) (maxL := 3) (ret := (some .int)) (by decide) rfl ?_
  intro p e s m args below meth c s₁ B0 hml hv
  obtain ⟨ha, hP, hE, h⟩ := hv
  have hx := B0.exec
  have hb := B0.bytes
  have hr := B0.returns
  have hts := atoms_spec (ws := wsX5_duel) B0.pre
  have hown : s.vm.findClass RX5 = some m.cls := findClass_of_methodNamed B0.named
  have hlocks := B0.notSynchronized
  have hi_X0 : ∀ w ∈ u_ws RX0 TX0 15, w ∈ wsX5_duel := by decide +kernel
  have hi_X1 : ∀ w ∈ u_ws RX1 TX1 3, w ∈ wsX5_duel := by decide +kernel
  have hi_X5 : ∀ w ∈ u_ws RX5 TX5 12, w ∈ wsX5_duel := by decide +kernel
  have hS : va_S (fAd bX ad) s.heap s.heap [] := va_S.rf
  have hl := lv_entry ([.ref (ad x0), .int x1, .int x2]) (n := 3) (by first | exact Nat.le_of_ble_eq_true rfl | simp [lg_sl, re_cat, cat_i, cat_l, cat_r])
  rw [show entryFrame m args 3 = entryFrame m ([.ref (ad x0), .int x1, .int x2] : List Value).toArray 3 by rw [ha], lg_entry_eq]
  generalize (lg_sl ([.ref (ad x0), .int x1, .int x2]) ++ List.replicate (3 - (lg_sl ([.ref (ad x0), .int x1, .int x2])).length) Slot.unset).toArray = ls at hl ⊢
  have hl : lv_has ls 3 [(0, .ref (ad x0)), (1, .int x1), (2, .int x2)] := by first | exact hl | simpa [lv_args, re_cat, cat_i, cat_l, cat_r] using hl
  unfold p_X5_duel at h
  refine lv_iload_n hx hb dX5_duel_0 rfl (lv_at hl 1 rfl) ?_
  refine lv_if_lt (tgt := 17) hx hb dX5_duel_1 (by decide) (fun c1 => ?_) (fun c1 => ?_)
  · replace h := h.1 c1
    refine lv_iconst (v := (-1)) hx hb dX5_duel_17 (by decide) ?_
    exact W.iret hx hb hr (fun t ht hW => ⟨⟨_, _, rfl, h, pw ht hP⟩, hS.F ht⟩) hS.2.2 dX5_duel_18
  · replace h := h.2 c1
    refine lv_iload_n hx hb dX5_duel_4 rfl (lv_at hl 1 rfl) ?_
    refine lv_bipush (v := 6) hx hb dX5_duel_5 (by decide) ?_
    refine lv_icmp_gt (tgt := 17) hx hb dX5_duel_7 (by decide) (fun c2 => ?_) (fun c2 => ?_)
    · replace h := h.1 c2
      refine lv_iconst (v := (-1)) hx hb dX5_duel_17 (by decide) ?_
      exact W.iret hx hb hr (fun t ht hW => ⟨⟨_, _, rfl, h, pw ht hP⟩, hS.F ht⟩) hS.2.2 dX5_duel_18
    · replace h := h.2 c2
      refine lv_iload_n hx hb dX5_duel_10 rfl (lv_at hl 2 rfl) ?_
      refine f_i (kS (As := [.int x2]) (rest := []) ⟨hx, hb, hml, hown, hts⟩ (c_X5_isHeight l D cs ad x2 s0 _) (va_cwS 1 hts gX5_duel_X5_isHeight rfl rfl rfl (by decide +kernel) ⟨Nat.le_of_ble_eq_true rfl, Nat.le_of_ble_eq_true rfl⟩) hE hP h rfl hl.1 rfl (by first | exact lv_room (Nat.le_of_ble_eq_true rfl) | (refine lv_room ?_; simp [re_cat, cat_i, cat_l, cat_r])) dX5_duel_11 ⟨Nat.le_refl _, Nat.le_refl _⟩) hS (fun r4 s3 H locs h hP hS => ?_)
      refine lv_if_ne (tgt := 19) hx hb dX5_duel_14 (by decide) (fun c5 => ?_) (fun c5 => ?_)
      · replace h := h.2 c5
        refine lv_aload_n hx hb dX5_duel_19 rfl (lv_at hl 0 rfl) ?_
        refine va_get (ci := 4) (v := va_re ad (tX x0 3)) (C := RX5) (T := TX5) (N := 12) hx hb hts hi_X5 hown hE.1 hP x0 (w_4 hE hk0) rfl 3 (by decide) (hts (.fieldLink RX5 33 "HemLine" "now" "LHemLine$Delta;") (by decide +kernel)) (fun _ h9 => h9) rfl dX5_duel_20 ?_
        obtain ⟨k6, e7, q8, h⟩ := h
        refine r_known (ad := ad) e7 ?_
        refine va_getN (ci := 0) (v := .int (gI s3 k6 0)) (C := RX0) (T := TX0) (N := 15) hx hb hts hi_X0 hown hE.1 hP k6 (w_0 hE q8) rfl 0 (by decide) ((hE.2.2.2.1 ("HemLine", 126, "HemLine$Delta", "women", "I", "HemLine") (by decide +kernel)).use rfl) (fun _ h9 => h9) rfl dX5_duel_23 ?_
        refine lv_if_ne (tgt := 32) hx hb dX5_duel_26 (by decide) (fun c9 => ?_) (fun c9 => ?_)
        · replace h := h.2 c9
          refine lv_aload_n hx hb dX5_duel_32 rfl (lv_at hl 0 rfl) ?_
          refine va_get (ci := 4) (v := va_re ad (tX x0 5)) (C := RX5) (T := TX5) (N := 12) hx hb hts hi_X5 hown hE.1 hP x0 (w_4 hE hk0) rfl 5 (by decide) (hts (.fieldLink RX5 44 "HemLine" "dykes" "LHemLine$Dykes;") (by decide +kernel)) (fun _ h9 => h9) rfl dX5_duel_33 ?_
          refine lv_aload_n hx hb dX5_duel_36 rfl (lv_at hl 0 rfl) ?_
          refine va_get (ci := 4) (v := va_re ad (tX x0 3)) (C := RX5) (T := TX5) (N := 12) hx hb hts hi_X5 hown hE.1 hP x0 (w_4 hE hk0) rfl 3 (by decide) (hts (.fieldLink RX5 33 "HemLine" "now" "LHemLine$Delta;") (by decide +kernel)) (fun _ h9 => h9) rfl dX5_duel_37 ?_
          obtain ⟨k10, e11, q12, h⟩ := h
          refine f_v (kV (As := [va_re ad (tX x0 3)]) (rest := []) e11 ⟨hx, hb, hml, hown, hts⟩ (c_X1_take l D cs ad k10 (tX x0 3) s3 _ q12) (cwV 1 hts gX5_duel_X1_take rfl rfl rfl (by decide +kernel) ⟨Nat.le_of_ble_eq_true rfl, Nat.le_of_ble_eq_true rfl⟩) hE hP rfl rfl (w_1 hE q12) h rfl hl.1 rfl (by first | exact lv_room (Nat.le_of_ble_eq_true rfl) | (refine lv_room ?_; simp [re_cat, cat_i, cat_l, cat_r])) dX5_duel_40 ⟨Nat.le_refl _, Nat.le_refl _⟩) hS (fun s13 H locs h hP hS => ?_)
          refine lv_iconst (v := 0) hx hb dX5_duel_43 (by decide) ?_
          refine lv_iload_n hx hb dX5_duel_44 rfl (lv_at hl 1 rfl) ?_
          refine lv_iload_n hx hb dX5_duel_45 rfl (lv_at hl 2 rfl) ?_
          refine lv_aload_n hx hb dX5_duel_46 rfl (lv_at hl 0 rfl) ?_
          refine va_get (ci := 4) (v := va_re ad (tX x0 5)) (C := RX5) (T := TX5) (N := 12) hx hb hts hi_X5 hown hE.1 hP x0 (w_4 hE hk0) rfl 5 (by decide) (hts (.fieldLink RX5 44 "HemLine" "dykes" "LHemLine$Dykes;") (by decide +kernel)) (fun _ h9 => h9) rfl dX5_duel_47 ?_
          obtain ⟨k14, e15, q16, h⟩ := h
          refine r_known (ad := ad) e15 ?_
          refine va_getN (ci := 1) (v := va_re ad (tX k14 0)) (C := RX1) (T := TX1) (N := 3) hx hb hts hi_X1 hown hE.1 hP k14 (w_1 hE q16) rfl 0 (by decide) ((hE.2.2.2.1 ("HemLine", 269, "HemLine$Dykes", "ground", "[I", "HemLine") (by decide +kernel)).use rfl) (fun _ h9 => h9) rfl dX5_duel_50 ?_
          refine lv_aload_n hx hb dX5_duel_53 rfl (lv_at hl 0 rfl) ?_
          refine va_get (ci := 4) (v := va_re ad (tX x0 5)) (C := RX5) (T := TX5) (N := 12) hx hb hts hi_X5 hown hE.1 hP x0 (w_4 hE hk0) rfl 5 (by decide) (hts (.fieldLink RX5 44 "HemLine" "dykes" "LHemLine$Dykes;") (by decide +kernel)) (fun _ h9 => h9) rfl dX5_duel_54 ?_
          obtain ⟨k17, e18, q19, h⟩ := h
          refine r_known (ad := ad) e18 ?_
          refine va_getN (ci := 1) (v := va_re ad (tX k17 1)) (C := RX1) (T := TX1) (N := 3) hx hb hts hi_X1 hown hE.1 hP k17 (w_1 hE q19) rfl 1 (by decide) ((hE.2.2.2.1 ("HemLine", 270, "HemLine$Dykes", "folk", "[I", "HemLine") (by decide +kernel)).use rfl) (fun _ h9 => h9) rfl dX5_duel_57 ?_
          refine f_i (kN (As := [.int 0, .int x1, .int x2, va_re ad (tX k14 0), va_re ad (tX k17 1)]) (rest := []) ⟨hx, hb, hml, hown, hts⟩ (c_X1_playedOut l D cs ad 8 0 x1 x2 (tX k14 0) (tX k17 1) s13 _) ⟨va_cnB 5 hts gX5_duel_X1_playedOut_n273 rfl rfl rfl (hE.2.2.2.2 ("HemLine", 273, ⟨"HemLine$Dykes", "playedOut", "(III[I[I)I"⟩, "HemLine") (by decide +kernel)) (hts (.initialized RX1) (by decide +kernel)) (by decide +kernel) ⟨Nat.le_of_ble_eq_true rfl, Nat.le_of_ble_eq_true rfl⟩, hts (.static yX1_playedOut) (by decide +kernel), trivial⟩ hE hP h rfl hl.1 rfl (by first | exact lv_room (Nat.le_of_ble_eq_true rfl) | (refine lv_room ?_; simp [re_cat, cat_i, cat_l, cat_r])) dX5_duel_60 ⟨Nat.le_refl _, Nat.le_refl _⟩) hS (fun r21 s20 H locs h hP hS => ?_)
          refine lv_bipush (v := 100) hx hb dX5_duel_63 (by decide) ?_
          refine lv_iadd hx hb dX5_duel_65 ?_
          exact W.iret hx hb hr (fun t ht hW => ⟨⟨_, _, rfl, h, pw ht hP⟩, hS.F ht⟩) hS.2.2 dX5_duel_66
        · replace h := h.1 c9
          refine lv_bipush (v := (-4)) hx hb dX5_duel_29 (by decide) ?_
          exact W.iret hx hb hr (fun t ht hW => ⟨⟨_, _, rfl, h, pw ht hP⟩, hS.F ht⟩) hS.2.2 dX5_duel_31
      · replace h := h.1 c5
        refine lv_iconst (v := (-1)) hx hb dX5_duel_17 (by decide) ?_
        exact W.iret hx hb hr (fun t ht hW => ⟨⟨_, _, rfl, h, pw ht hP⟩, hS.F ht⟩) hS.2.2 dX5_duel_18
