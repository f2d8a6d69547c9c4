def p_X6_skip_L0 (Q : Sg → Prop)  : Nat → Nat → Sg → Prop
  | 0, _, _ => False
  | n + 1, x0, s => p_X6_here x0 s (fun r2 s1 => ((r2 = 32 → p_X6_skip_L0 Q  n x0 (setI s1 x0 18 ((gI s1 x0 18) + 1))) ∧ (¬ r2 = 32 → Q s1)))
def p_X6_skip (x0 : Nat) (s : Sg) (Q : Sg → Prop) : Prop := ∃ n, p_X6_skip_L0 Q n x0 s
set_option maxHeartbeats 4000000 in
set_option maxRecDepth 100000 in
theorem c_X6_skip (l : Launch) (D : va_G) (cs : Cs) (ad : Nat → Nat) (x0 : Nat) (s0 : Sg) (Q : Sg → Prop) (hk0 : kM x0 = 5) : Met l yX6_skip wsX6_skip { frames := 1, cells := 0, slots := 0, locals := 20 } (Pc0 bM D cs ad [.ref (ad x0)] s0 (p_X6_skip x0 s0 Q)) (QV bM D cs ad Q) 0 0 (fAd bM ad) := by
  refine Met.ofW (cc := cX6_skip) (maxL := 1) (ret := none) (by decide) rfl ?_
  intro p e s m args below meth c s₁ B0 hml hv
  obtain ⟨ha, hP, hE, h⟩ := hv
  have hx := B0.exec
  have hb := B0.bytes
  have hr := B0.returns
  have hts := atoms_spec (ws := wsX6_skip) B0.pre
  have hown : s.vm.findClass RX6 = some m.cls := findClass_of_methodNamed B0.named
  have hlocks := B0.notSynchronized
  have hi_X6 : ∀ w ∈ u_ws RX6 TX6 42, w ∈ wsX6_skip := by decide +kernel
  have hS : va_S (fAd bM ad) s.heap s.heap [] := va_S.rf
  have hl := lv_entry ([.ref (ad x0)]) (n := 1) (by first | exact Nat.le_of_ble_eq_true rfl | simp [lg_sl, re_cat, cat_i, cat_l, cat_r])
  rw [show entryFrame m args 1 = entryFrame m ([.ref (ad x0)] : List Value).toArray 1 by rw [ha], lg_entry_eq]
  generalize (lg_sl ([.ref (ad x0)]) ++ List.replicate (1 - (lg_sl ([.ref (ad x0)])).length) Slot.unset).toArray = ls at hl ⊢
  have hl : lv_has ls 1 [(0, .ref (ad x0))] := by first | exact hl | simpa [lv_args, re_cat, cat_i, cat_l, cat_r] using hl
  have hB0 : ∀ (n0 : Nat)  (σ : Sg) (H : Heap) (locs : List Loc) (ls : Array Slot), p_X6_skip_L0 Q  n0 x0 σ → va_P D vwCl (wl bM cs ad σ) H → va_S (fAd bM ad) s.heap H locs → lv_has ls 1 [(0, .ref (ad x0))] → W p l e { frames := 1, cells := 0, slots := 0, locals := 20 } s m args below meth c H locs 0 0 (MQ below (QV bM D cs ad Q) args s 0 0 (fAd bM ad)) (F0 m 0 ls []) := by
    intro n0
    induction n0 with
    | zero =>
      intro  σ H locs ls h
      exact h.elim
    | succ n0 ih =>
      have hK0 := ih
      intro  σ H locs ls h hP hS hl
      rw [p_X6_skip_L0] at h
      refine lv_aload_n hx hb dX6_skip_0 rfl (lv_at hl 0 rfl) ?_
      refine f_i (kV (As := []) (rest := []) (o := some x0) rfl ⟨hx, hb, hml, hown, hts⟩ (c_X6_here l D cs ad x0 σ _ hk0) (cwV 0 hts gX6_skip_X6_here rfl rfl rfl (by decide +kernel) ⟨Nat.le_of_ble_eq_true rfl, Nat.le_of_ble_eq_true rfl⟩) hE hP rfl rfl (w_5 hE hk0) h rfl hl.1 rfl (by first | exact lv_room (Nat.le_of_ble_eq_true rfl) | (refine lv_room ?_; simp [re_cat, cat_i, cat_l, cat_r])) dX6_skip_1 ⟨Nat.le_refl _, Nat.le_refl _⟩) hS (fun r2 s1 H locs h hP hS => ?_)
      refine lv_bipush (v := 32) hx hb dX6_skip_4 (by decide) ?_
      refine lv_icmp_ne (tgt := 22) hx hb dX6_skip_6 (by decide) (fun c3 => ?_) (fun c3 => ?_)
      · replace h := h.2 c3
        exact W.vret hx hb hr (fun t ht hW => ⟨⟨_, rfl, h, pw ht hP⟩, hS.F ht⟩) hS.2.2 dX6_skip_22
      · replace h := h.1 c3
        refine lv_aload_n hx hb dX6_skip_9 rfl (lv_at hl 0 rfl) ?_
        refine lv_dup hx hb dX6_skip_10 (by first | rfl | exact re_cat _ _) ?_
        refine va_get (ci := 5) (v := .int (gI s1 x0 18)) (C := RX6) (T := TX6) (N := 42) hx hb hts hi_X6 hown hE.1 hP x0 (w_5 hE hk0) rfl 18 (by decide) (hts (.fieldLink RX6 131 "HemLineModel" "place" "I") (by decide +kernel)) (fun _ h9 => h9) rfl dX6_skip_11 ?_
        refine lv_iconst (v := 1) hx hb dX6_skip_14 (by decide) ?_
        refine lv_iadd hx hb dX6_skip_15 ?_
        refine r_put (σ' := (setI s1 x0 18 ((gI s1 x0 18) + 1))) (ci := 5) (v := .int ((gI s1 x0 18) + 1)) (ty := .int) (C := RX6) (T := TX6) (N := 42) hx hb hts hi_X6 tyX6 tyX6_ok nmX6 hown hE hP hS x0 (w_5 hE hk0) rfl 18 (by decide) (hts (.fieldLink RX6 131 "HemLineModel" "place" "I") (by decide +kernel)) (fun _ h9 => h9) rfl (by decide +kernel) rfl rfl (Nat.le_of_ble_eq_true rfl) dX6_skip_16 (st_5_18 hE hk0 _) (fun H locs hP hS => ?_)
        refine lv_goto (tgt := 0) hx hb dX6_skip_19 (by decide) ?_
        exact ih  (setI s1 x0 18 ((gI s1 x0 18) + 1)) H locs ls h hP hS (lv_sub hl [0] rfl)
  unfold p_X6_skip at h
  obtain ⟨n, h⟩ := h
  exact hB0 n  s0 s.heap [] ls h hP hS (lv_sub hl [0] rfl)
def p_X6_figure (x0 : Nat) (x1 : Int32) (x2 : Int32) (s : Sg) (Q : Int32 → Sg → Prop) : Prop := p_X6_here x0 s (fun r2 s1 => (((gI s1 x0 19) = ((-9)) → p_X6_in r2 (48 + x1) (48 + x2) s1 (fun r5 s4 => ((r5 = 0 → Q 0 (setI s4 x0 19 (gI s4 x0 18))) ∧ (¬ r5 = 0 → Q (r2 - 48) (setI s4 x0 18 ((gI s4 x0 18) + 1)))))) ∧ (¬ (gI s1 x0 19) = ((-9)) → Q 0 s1)))
set_option maxHeartbeats 4000000 in
set_option maxRecDepth 100000 in
theorem c_X6_figure (l : Launch) (D : va_G) (cs : Cs) (ad : Nat → Nat) (x0 : Nat) (x1 : Int32) (x2 : Int32) (s0 : Sg) (Q : Int32 → Sg → Prop) (hk0 : kM x0 = 5) : Met l yX6_figure wsX6_figure { frames := 1, cells := 0, slots := 0, locals := 22 } (Pc0 bM D cs ad [.ref (ad x0), .int x1, .int x2] s0 (p_X6_figure x0 x1 x2 s0 Q)) (QI bM D cs ad Q) 0 0 (fAd bM ad) := by
  refine Met.ofW (cc := cX6_figure) (maxL := 4) (ret := (some .int)) (by decide) rfl ?_
  intro p e s m args below meth c s₁ B0 hml hv
  obtain ⟨ha, hP, hE, h⟩ := hv
  have hx := B0.exec
  have hb := B0.bytes
  have hr := B0.returns
  have hts := atoms_spec (ws := wsX6_figure) B0.pre
  have hown : s.vm.findClass RX6 = some m.cls := findClass_of_methodNamed B0.named
  have hlocks := B0.notSynchronized
  have hi_X6 : ∀ w ∈ u_ws RX6 TX6 42, w ∈ wsX6_figure := by decide +kernel
  have hS : va_S (fAd bM ad) s.heap s.heap [] := va_S.rf
  have hl := lv_entry ([.ref (ad x0), .int x1, .int x2]) (n := 4) (by first | exact Nat.le_of_ble_eq_true rfl | simp [lg_sl, re_cat, cat_i, cat_l, cat_r])
  rw [show entryFrame m args 4 = entryFrame m ([.ref (ad x0), .int x1, .int x2] : List Value).toArray 4 by rw [ha], lg_entry_eq]
  generalize (lg_sl ([.ref (ad x0), .int x1, .int x2]) ++ List.replicate (4 - (lg_sl ([.ref (ad x0), .int x1, .int x2])).length) Slot.unset).toArray = ls at hl ⊢
  have hl : lv_has ls 4 [(0, .ref (ad x0)), (1, .int x1), (2, .int x2)] := by first | exact hl | simpa [lv_args, re_cat, cat_i, cat_l, cat_r] using hl
  unfold p_X6_figure at h
  refine lv_aload_n hx hb dX6_figure_0 rfl (lv_at hl 0 rfl) ?_
  refine f_i (kV (As := []) (rest := []) (o := some x0) rfl ⟨hx, hb, hml, hown, hts⟩ (c_X6_here l D cs ad x0 s0 _ hk0) (cwV 0 hts gX6_figure_X6_here rfl rfl rfl (by decide +kernel) ⟨Nat.le_of_ble_eq_true rfl, Nat.le_of_ble_eq_true rfl⟩) hE hP rfl rfl (w_5 hE hk0) h rfl hl.1 rfl (by first | exact lv_room (Nat.le_of_ble_eq_true rfl) | (refine lv_room ?_; simp [re_cat, cat_i, cat_l, cat_r])) dX6_figure_1 ⟨Nat.le_refl _, Nat.le_refl _⟩) hS (fun r2 s1 H locs h hP hS => ?_)
  refine lv_istore_n (i := 3) (lv' := [(3, .int r2), (0, .ref (ad x0)), (1, .int x1), (2, .int x2)]) hx hb dX6_figure_4 rfl hl (by decide) (by first | rfl | simp [re_cat, cat_i, cat_l, cat_r]) (fun ls hl => ?_)
  refine lv_aload_n hx hb dX6_figure_5 rfl (lv_at hl 1 rfl) ?_
  refine va_get (ci := 5) (v := .int (gI s1 x0 19)) (C := RX6) (T := TX6) (N := 42) hx hb hts hi_X6 hown hE.1 hP x0 (w_5 hE hk0) rfl 19 (by decide) (hts (.fieldLink RX6 141 "HemLineModel" "fault" "I") (by decide +kernel)) (fun _ h9 => h9) rfl dX6_figure_6 ?_
  refine lv_bipush (v := (-9)) hx hb dX6_figure_9 (by decide) ?_
  refine lv_icmp_eq (tgt := 16) hx hb dX6_figure_11 (by decide) (fun c3 => ?_) (fun c3 => ?_)
  · replace h := h.1 c3
    refine lv_iload_n hx hb dX6_figure_16 rfl (lv_at hl 0 rfl) ?_
    refine lv_bipush (v := 48) hx hb dX6_figure_17 (by decide) ?_
    refine lv_iload_n hx hb dX6_figure_19 rfl (lv_at hl 2 rfl) ?_
    refine lv_iadd hx hb dX6_figure_20 ?_
    refine lv_bipush (v := 48) hx hb dX6_figure_21 (by decide) ?_
    refine lv_iload_n hx hb dX6_figure_23 rfl (lv_at hl 3 rfl) ?_
    refine lv_iadd hx hb dX6_figure_24 ?_
    refine f_i (kS (As := [.int r2, .int (48 + x1), .int (48 + x2)]) (rest := []) ⟨hx, hb, hml, hown, hts⟩ (c_X6_in l D cs ad r2 (48 + x1) (48 + x2) s1 _) (va_cwS 3 hts gX6_figure_X6_in rfl rfl rfl (by decide +kernel) ⟨Nat.le_of_ble_eq_true rfl, Nat.le_of_ble_eq_true rfl⟩) hE hP h rfl hl.1 rfl (by first | exact lv_room (Nat.le_of_ble_eq_true rfl) | (refine lv_room ?_; simp [re_cat, cat_i, cat_l, cat_r])) dX6_figure_25 ⟨Nat.le_refl _, Nat.le_refl _⟩) hS (fun r5 s4 H locs h hP hS => ?_)
    refine lv_if_ne (tgt := 41) hx hb dX6_figure_28 (by decide) (fun c6 => ?_) (fun c6 => ?_)
    · replace h := h.2 c6
      refine lv_aload_n hx hb dX6_figure_41 rfl (lv_at hl 1 rfl) ?_
      refine lv_dup hx hb dX6_figure_42 (by first | rfl | exact re_cat _ _) ?_
      refine va_get (ci := 5) (v := .int (gI s4 x0 18)) (C := RX6) (T := TX6) (N := 42) hx hb hts hi_X6 hown hE.1 hP x0 (w_5 hE hk0) rfl 18 (by decide) (hts (.fieldLink RX6 131 "HemLineModel" "place" "I") (by decide +kernel)) (fun _ h9 => h9) rfl dX6_figure_43 ?_
      refine lv_iconst (v := 1) hx hb dX6_figure_46 (by decide) ?_
      refine lv_iadd hx hb dX6_figure_47 ?_
      refine r_put (σ' := (setI s4 x0 18 ((gI s4 x0 18) + 1))) (ci := 5) (v := .int ((gI s4 x0 18) + 1)) (ty := .int) (C := RX6) (T := TX6) (N := 42) hx hb hts hi_X6 tyX6 tyX6_ok nmX6 hown hE hP hS x0 (w_5 hE hk0) rfl 18 (by decide) (hts (.fieldLink RX6 131 "HemLineModel" "place" "I") (by decide +kernel)) (fun _ h9 => h9) rfl (by decide +kernel) rfl rfl (Nat.le_of_ble_eq_true rfl) dX6_figure_48 (st_5_18 hE hk0 _) (fun H locs hP hS => ?_)
      refine lv_iload_n hx hb dX6_figure_51 rfl (lv_at hl 0 rfl) ?_
      refine lv_bipush (v := 48) hx hb dX6_figure_52 (by decide) ?_
      refine lv_isub hx hb dX6_figure_54 ?_
      exact W.iret hx hb hr (fun t ht hW => ⟨⟨_, _, rfl, h, pw ht hP⟩, hS.F ht⟩) hS.2.2 dX6_figure_55
    · replace h := h.1 c6
      refine lv_aload_n hx hb dX6_figure_31 rfl (lv_at hl 1 rfl) ?_
      refine lv_aload_n hx hb dX6_figure_32 rfl (lv_at hl 1 rfl) ?_
      refine va_get (ci := 5) (v := .int (gI s4 x0 18)) (C := RX6) (T := TX6) (N := 42) hx hb hts hi_X6 hown hE.1 hP x0 (w_5 hE hk0) rfl 18 (by decide) (hts (.fieldLink RX6 131 "HemLineModel" "place" "I") (by decide +kernel)) (fun _ h9 => h9) rfl dX6_figure_33 ?_
      refine r_put (σ' := (setI s4 x0 19 (gI s4 x0 18))) (ci := 5) (v := .int (gI s4 x0 18)) (ty := .int) (C := RX6) (T := TX6) (N := 42) hx hb hts hi_X6 tyX6 tyX6_ok nmX6 hown hE hP hS x0 (w_5 hE hk0) rfl 19 (by decide) (hts (.fieldLink RX6 141 "HemLineModel" "fault" "I") (by decide +kernel)) (fun _ h9 => h9) rfl (by decide +kernel) rfl rfl (Nat.le_of_ble_eq_true rfl) dX6_figure_36 (st_5_19 hE hk0 _) (fun H locs hP hS => ?_)
      refine lv_iconst (v := 0) hx hb dX6_figure_39 (by decide) ?_
      exact W.iret hx hb hr (fun t ht hW => ⟨⟨_, _, rfl, h, pw ht hP⟩, hS.F ht⟩) hS.2.2 dX6_figure_40
  · replace h := h.2 c3
    refine lv_iconst (v := 0) hx hb dX6_figure_14 (by decide) ?_
    exact W.iret hx hb hr (fun t ht hW => ⟨⟨_, _, rfl, h, pw ht hP⟩, hS.F ht⟩) hS.2.2 dX6_figure_15
def p_X6_kindBy (x0 : Int32) (s : Sg) (Q : Int32 → Sg → Prop) : Prop := ((x0 = 97 → Q 5 s) ∧ (¬ x0 = 97 → ((x0 = 98 → Q 1 s) ∧ (¬ x0 = 98 → ((x0 = 103 → Q 4 s) ∧ (¬ x0 = 103 → ((x0 = 108 → Q 2 s) ∧ (¬ x0 = 108 → ((x0 = 118 → Q 3 s) ∧ (¬ x0 = 118 → ((x0 = 119 → Q 0 s) ∧ (¬ x0 = 119 → Q ((-9)) s))))))))))))
set_option maxHeartbeats 4000000 in
set_option maxRecDepth 100000 in
theorem c_X6_kindBy (l : Launch) (D : va_G) (cs : Cs) (ad : Nat → Nat) (x0 : Int32) (s0 : Sg) (Q : Int32 → Sg → Prop) : Met l yX6_kindBy wsX6_kindBy { frames := 0, cells := 0, slots := 0, locals := 0 } (Pc0 bM D cs ad [.int x0] s0 (p_X6_kindBy x0 s0 Q)) (QI bM D cs ad Q) 0 0 (fAd bM ad) := by
  refine Met.ofW (cc := cX6_kindBy) (maxL := 1) (ret := (some .int)) (by decide) rfl ?_
  intro p e s m args below meth c s₁ B0 hml hv
  obtain ⟨ha, hP, hE, h⟩ := hv
  have hx := B0.exec
  have hb := B0.bytes
  have hr := B0.returns
  have hts := atoms_spec (ws := wsX6_kindBy) B0.pre
  have hown : s.vm.findClass RX6 = some m.cls := findClass_of_methodNamed B0.named
  have hlocks := B0.notSynchronized
  have hS : va_S (fAd bM ad) s.heap s.heap [] := va_S.rf
  have hl := lv_entry ([.int x0]) (n := 1) (by first | exact Nat.le_of_ble_eq_true rfl | simp [lg_sl, re_cat, cat_i, cat_l, cat_r])
  rw [show entryFrame m args 1 = entryFrame m ([.int x0] : List Value).toArray 1 by rw [ha], lg_entry_eq]
  generalize (lg_sl ([.int x0]) ++ List.replicate (1 - (lg_sl ([.int x0])).length) Slot.unset).toArray = ls at hl ⊢
  have hl : lv_has ls 1 [(0, .int x0)] := by first | exact hl | simpa [lv_args, re_cat, cat_i, cat_l, cat_r] using hl
  unfold p_X6_kindBy at h
  refine lv_iload_n hx hb dX6_kindBy_0 rfl (lv_at hl 0 rfl) ?_
  by_cases c2 : x0 = 97
  · replace h := h.1 c2
    refine lv_lookup (off := 69) (tgt := 70) hx hb dX6_kindBy_1 (by decide) (by rw [c2]; decide) (by decide) ?_
    refine lv_iconst (v := 5) hx hb dX6_kindBy_70 (by decide) ?_
    exact W.iret hx hb hr (fun t ht hW => ⟨⟨_, _, rfl, h, pw ht hP⟩, hS.F ht⟩) hS.2.2 dX6_kindBy_71
  replace h := h.2 c2
  by_cases c3 : x0 = 98
  · replace h := h.1 c3
    refine lv_lookup (off := 61) (tgt := 62) hx hb dX6_kindBy_1 (by decide) (by rw [c3]; decide) (by decide) ?_
    refine lv_iconst (v := 1) hx hb dX6_kindBy_62 (by decide) ?_
    exact W.iret hx hb hr (fun t ht hW => ⟨⟨_, _, rfl, h, pw ht hP⟩, hS.F ht⟩) hS.2.2 dX6_kindBy_63
  replace h := h.2 c3
  by_cases c4 : x0 = 103
  · replace h := h.1 c4
    refine lv_lookup (off := 67) (tgt := 68) hx hb dX6_kindBy_1 (by decide) (by rw [c4]; decide) (by decide) ?_
    refine lv_iconst (v := 4) hx hb dX6_kindBy_68 (by decide) ?_
    exact W.iret hx hb hr (fun t ht hW => ⟨⟨_, _, rfl, h, pw ht hP⟩, hS.F ht⟩) hS.2.2 dX6_kindBy_69
  replace h := h.2 c4
  by_cases c5 : x0 = 108
  · replace h := h.1 c5
    refine lv_lookup (off := 63) (tgt := 64) hx hb dX6_kindBy_1 (by decide) (by rw [c5]; decide) (by decide) ?_
    refine lv_iconst (v := 2) hx hb dX6_kindBy_64 (by decide) ?_
    exact W.iret hx hb hr (fun t ht hW => ⟨⟨_, _, rfl, h, pw ht hP⟩, hS.F ht⟩) hS.2.2 dX6_kindBy_65
  replace h := h.2 c5
  by_cases c6 : x0 = 118
  · replace h := h.1 c6
    refine lv_lookup (off := 65) (tgt := 66) hx hb dX6_kindBy_1 (by decide) (by rw [c6]; decide) (by decide) ?_
    refine lv_iconst (v := 3) hx hb dX6_kindBy_66 (by decide) ?_
    exact W.iret hx hb hr (fun t ht hW => ⟨⟨_, _, rfl, h, pw ht hP⟩, hS.F ht⟩) hS.2.2 dX6_kindBy_67
  replace h := h.2 c6
  by_cases c7 : x0 = 119
  · replace h := h.1 c7
    refine lv_lookup (off := 59) (tgt := 60) hx hb dX6_kindBy_1 (by decide) (by rw [c7]; decide) (by decide) ?_
    refine lv_iconst (v := 0) hx hb dX6_kindBy_60 (by decide) ?_
    exact W.iret hx hb hr (fun t ht hW => ⟨⟨_, _, rfl, h, pw ht hP⟩, hS.F ht⟩) hS.2.2 dX6_kindBy_61
  replace h := h.2 c7
  refine lv_lookup (off := 71) (tgt := 72) hx hb dX6_kindBy_1 (by decide) (by have c2 := ne_toInt (n := 97) c2 (by decide); have c3 := ne_toInt (n := 98) c3 (by decide); have c4 := ne_toInt (n := 103) c4 (by decide); have c5 := ne_toInt (n := 108) c5 (by decide); have c6 := ne_toInt (n := 118) c6 (by decide); have c7 := ne_toInt (n := 119) c7 (by decide); simp [Op.lookupswitch.offset, Ne.symm c2, c2, Ne.symm c3, c3, Ne.symm c4, c4, Ne.symm c5, c5, Ne.symm c6, c6, Ne.symm c7, c7]) (by decide) ?_
  refine lv_bipush (v := (-9)) hx hb dX6_kindBy_72 (by decide) ?_
  exact W.iret hx hb hr (fun t ht hW => ⟨⟨_, _, rfl, h, pw ht hP⟩, hS.F ht⟩) hS.2.2 dX6_kindBy_74
def p_X6_readWoman_b23 (Q : Sg → Prop)  (x0 : Nat) (s : Sg) : Prop := Q (setI s x0 19 (gI s x0 18))
def p_X6_readWoman (x0 : Nat) (s : Sg) (Q : Sg → Prop) : Prop := p_X6_here x0 s (fun r2 s1 => p_X6_kindBy r2 s1 (fun r4 s3 => ((r4 = ((-9)) → p_X6_readWoman_b23 Q  x0 s3) ∧ (¬ r4 = ((-9)) → (((gI s3 x0 12) = 6 → p_X6_readWoman_b23 Q  x0 s3) ∧ (¬ (gI s3 x0 12) = 6 → ∃ k7, tM x0 13 = some k7 ∧ kM k7 = 7 ∧ vp_in (gI (setI s3 x0 18 ((gI s3 x0 18) + 1)) x0 12) (lM k7) ∧ p_X6_figure x0 0 5 (setR (setI s3 x0 18 ((gI s3 x0 18) + 1)) k7 (upd (gR (setI s3 x0 18 ((gI s3 x0 18) + 1)) k7) (gI (setI s3 x0 18 ((gI s3 x0 18) + 1)) x0 12).toNatClampNeg r4)) (fun r12 s11 => ∃ k13, tM x0 14 = some k13 ∧ kM k13 = 7 ∧ vp_in (gI (setR (setI s3 x0 18 ((gI s3 x0 18) + 1)) k7 (upd (gR (setI s3 x0 18 ((gI s3 x0 18) + 1)) k7) (gI (setI s3 x0 18 ((gI s3 x0 18) + 1)) x0 12).toNatClampNeg r4)) x0 12) (lM k13) ∧ p_X6_figure x0 1 9 (setR s11 k13 (upd (gR s11 k13) (gI (setR (setI s3 x0 18 ((gI s3 x0 18) + 1)) k7 (upd (gR (setI s3 x0 18 ((gI s3 x0 18) + 1)) k7) (gI (setI s3 x0 18 ((gI s3 x0 18) + 1)) x0 12).toNatClampNeg r4)) x0 12).toNatClampNeg r12)) (fun r18 s17 => ∃ k19, tM x0 15 = some k19 ∧ kM k19 = 7 ∧ vp_in (gI (setR s11 k13 (upd (gR s11 k13) (gI (setR (setI s3 x0 18 ((gI s3 x0 18) + 1)) k7 (upd (gR (setI s3 x0 18 ((gI s3 x0 18) + 1)) k7) (gI (setI s3 x0 18 ((gI s3 x0 18) + 1)) x0 12).toNatClampNeg r4)) x0 12).toNatClampNeg r12)) x0 12) (lM k19) ∧ p_X6_figure x0 0 3 (setR s17 k19 (upd (gR s17 k19) (gI (setR s11 k13 (upd (gR s11 k13) (gI (setR (setI s3 x0 18 ((gI s3 x0 18) + 1)) k7 (upd (gR (setI s3 x0 18 ((gI s3 x0 18) + 1)) k7) (gI (setI s3 x0 18 ((gI s3 x0 18) + 1)) x0 12).toNatClampNeg r4)) x0 12).toNatClampNeg r12)) x0 12).toNatClampNeg r18)) (fun r24 s23 => ∃ k25, tM x0 16 = some k25 ∧ kM k25 = 7 ∧ vp_in (gI (setR s17 k19 (upd (gR s17 k19) (gI (setR s11 k13 (upd (gR s11 k13) (gI (setR (setI s3 x0 18 ((gI s3 x0 18) + 1)) k7 (upd (gR (setI s3 x0 18 ((gI s3 x0 18) + 1)) k7) (gI (setI s3 x0 18 ((gI s3 x0 18) + 1)) x0 12).toNatClampNeg r4)) x0 12).toNatClampNeg r12)) x0 12).toNatClampNeg r18)) x0 12) (lM k25) ∧ Q (setI (setR s23 k25 (upd (gR s23 k25) (gI (setR s17 k19 (upd (gR s17 k19) (gI (setR s11 k13 (upd (gR s11 k13) (gI (setR (setI s3 x0 18 ((gI s3 x0 18) + 1)) k7 (upd (gR (setI s3 x0 18 ((gI s3 x0 18) + 1)) k7) (gI (setI s3 x0 18 ((gI s3 x0 18) + 1)) x0 12).toNatClampNeg r4)) x0 12).toNatClampNeg r12)) x0 12).toNatClampNeg r18)) x0 12).toNatClampNeg r24)) x0 12 ((gI (setR s23 k25 (upd (gR s23 k25) (gI (setR s17 k19 (upd (gR s17 k19) (gI (setR s11 k13 (upd (gR s11 k13) (gI (setR (setI s3 x0 18 ((gI s3 x0 18) + 1)) k7 (upd (gR (setI s3 x0 18 ((gI s3 x0 18) + 1)) k7) (gI (setI s3 x0 18 ((gI s3 x0 18) + 1)) x0 12).toNatClampNeg r4)) x0 12).toNatClampNeg r12)) x0 12).toNatClampNeg r18)) x0 12).toNatClampNeg r24)) x0 12) + 1)))))))))))
set_option maxHeartbeats 4000000 in
set_option maxRecDepth 100000 in
theorem c_X6_readWoman (l : Launch) (D : va_G) (cs : Cs) (ad : Nat → Nat) (x0 : Nat) (s0 : Sg) (Q : Sg → Prop) (hk0 : kM x0 = 5) : Met l yX6_readWoman wsX6_readWoman { frames := 2, cells := 0, slots := 0, locals := 45 } (Pc0 bM D cs ad [.ref (ad x0)] s0 (p_X6_readWoman x0 s0 Q)) (QV bM D cs ad Q) 0 0 (fAd bM ad) := by
  refine Met.ofW (cc := cX6_readWoman) (maxL := 2) (ret := none) (by decide) rfl ?_
  intro p e s m args below meth c s₁ B0 hml hv
  obtain ⟨ha, hP, hE, h⟩ := hv
  have hx := B0.exec
  have hb := B0.bytes
  have hr := B0.returns
  have hts := atoms_spec (ws := wsX6_readWoman) B0.pre
  have hown : s.vm.findClass RX6 = some m.cls := findClass_of_methodNamed B0.named
  have hlocks := B0.notSynchronized
  have hi_X6 : ∀ w ∈ u_ws RX6 TX6 42, w ∈ wsX6_readWoman := by decide +kernel
  have hS : va_S (fAd bM ad) s.heap s.heap [] := va_S.rf
  have hl := lv_entry ([.ref (ad x0)]) (n := 2) (by first | exact Nat.le_of_ble_eq_true rfl | simp [lg_sl, re_cat, cat_i, cat_l, cat_r])
  rw [show entryFrame m args 2 = entryFrame m ([.ref (ad x0)] : List Value).toArray 2 by rw [ha], lg_entry_eq]
  generalize (lg_sl ([.ref (ad x0)]) ++ List.replicate (2 - (lg_sl ([.ref (ad x0)])).length) Slot.unset).toArray = ls at hl ⊢
  have hl : lv_has ls 2 [(0, .ref (ad x0))] := by first | exact hl | simpa [lv_args, re_cat, cat_i, cat_l, cat_r] using hl
  have hB23 : ∀  (σ : Sg) (H : Heap) (locs : List Loc) (ls : Array Slot), p_X6_readWoman_b23 Q  x0 σ → va_P D vwCl (wl bM cs ad σ) H → va_S (fAd bM ad) s.heap H locs → lv_has ls 2 [(0, .ref (ad x0))] → W p l e { frames := 2, cells := 0, slots := 0, locals := 45 } s m args below meth c H locs 0 0 (MQ below (QV bM D cs ad Q) args s 0 0 (fAd bM ad)) (F0 m 23 ls []) := by
    intro  σ H locs ls h hP hS hl
    unfold p_X6_readWoman_b23 at h
    refine lv_aload_n hx hb dX6_readWoman_23 rfl (lv_at hl 0 rfl) ?_
    refine lv_aload_n hx hb dX6_readWoman_24 rfl (lv_at hl 0 rfl) ?_
    refine va_get (ci := 5) (v := .int (gI σ x0 18)) (C := RX6) (T := TX6) (N := 42) hx hb hts hi_X6 hown hE.1 hP x0 (w_5 hE hk0) rfl 18 (by decide) (hts (.fieldLink RX6 131 "HemLineModel" "place" "I") (by decide +kernel)) (fun _ h9 => h9) rfl dX6_readWoman_25 ?_
    refine r_put (σ' := (setI σ x0 19 (gI σ x0 18))) (ci := 5) (v := .int (gI σ x0 18)) (ty := .int) (C := RX6) (T := TX6) (N := 42) hx hb hts hi_X6 tyX6 tyX6_ok nmX6 hown hE hP hS x0 (w_5 hE hk0) rfl 19 (by decide) (hts (.fieldLink RX6 141 "HemLineModel" "fault" "I") (by decide +kernel)) (fun _ h9 => h9) rfl (by decide +kernel) rfl rfl (Nat.le_of_ble_eq_true rfl) dX6_readWoman_28 (st_5_19 hE hk0 _) (fun H locs hP hS => ?_)
    exact W.vret hx hb hr (fun t ht hW => ⟨⟨_, rfl, h, pw ht hP⟩, hS.F ht⟩) hS.2.2 dX6_readWoman_31
  unfold p_X6_readWoman at h
  refine lv_aload_n hx hb dX6_readWoman_0 rfl (lv_at hl 0 rfl) ?_
  refine f_i (kV (As := []) (rest := []) (o := some x0) rfl ⟨hx, hb, hml, hown, hts⟩ (c_X6_here l D cs ad x0 s0 _ hk0) (cwV 0 hts gX6_readWoman_X6_here rfl rfl rfl (by decide +kernel) ⟨Nat.le_of_ble_eq_true rfl, Nat.le_of_ble_eq_true rfl⟩) hE hP rfl rfl (w_5 hE hk0) h rfl hl.1 rfl (by first | exact lv_room (Nat.le_of_ble_eq_true rfl) | (refine lv_room ?_; simp [re_cat, cat_i, cat_l, cat_r])) dX6_readWoman_1 ⟨Nat.le_refl _, Nat.le_refl _⟩) hS (fun r2 s1 H locs h hP hS => ?_)
  refine f_i (kS (As := [.int r2]) (rest := []) ⟨hx, hb, hml, hown, hts⟩ (c_X6_kindBy l D cs ad r2 s1 _) (va_cwS 1 hts gX6_readWoman_X6_kindBy rfl rfl rfl (by decide +kernel) ⟨Nat.le_of_ble_eq_true rfl, Nat.le_of_ble_eq_true rfl⟩) hE hP h rfl hl.1 rfl (by first | exact lv_room (Nat.le_of_ble_eq_true rfl) | (refine lv_room ?_; simp [re_cat, cat_i, cat_l, cat_r])) dX6_readWoman_4 ⟨Nat.le_refl _, Nat.le_refl _⟩) hS (fun r4 s3 H locs h hP hS => ?_)
  refine lv_istore_n (i := 1) (lv' := [(1, .int r4), (0, .ref (ad x0))]) hx hb dX6_readWoman_7 rfl hl (by decide) (by first | rfl | simp [re_cat, cat_i, cat_l, cat_r]) (fun ls hl => ?_)
  refine lv_iload_n hx hb dX6_readWoman_8 rfl (lv_at hl 0 rfl) ?_
  refine lv_bipush (v := (-9)) hx hb dX6_readWoman_9 (by decide) ?_
  refine lv_icmp_eq (tgt := 23) hx hb dX6_readWoman_11 (by decide) (fun c5 => ?_) (fun c5 => ?_)
  · replace h := h.1 c5
    exact hB23  s3 _ _ ls h hP hS (lv_sub hl [1] rfl)
  · replace h := h.2 c5
    refine lv_aload_n hx hb dX6_readWoman_14 rfl (lv_at hl 1 rfl) ?_
    refine va_get (ci := 5) (v := .int (gI s3 x0 12)) (C := RX6) (T := TX6) (N := 42) hx hb hts hi_X6 hown hE.1 hP x0 (w_5 hE hk0) rfl 12 (by decide) (hts (.fieldLink RX6 147 "HemLineModel" "draftWomen" "I") (by decide +kernel)) (fun _ h9 => h9) rfl dX6_readWoman_15 ?_
    refine lv_bipush (v := 6) hx hb dX6_readWoman_18 (by decide) ?_
    refine lv_icmp_ne (tgt := 32) hx hb dX6_readWoman_20 (by decide) (fun c6 => ?_) (fun c6 => ?_)
    · replace h := h.2 c6
      refine lv_aload_n hx hb dX6_readWoman_32 rfl (lv_at hl 1 rfl) ?_
      refine lv_dup hx hb dX6_readWoman_33 (by first | rfl | exact re_cat _ _) ?_
      refine va_get (ci := 5) (v := .int (gI s3 x0 18)) (C := RX6) (T := TX6) (N := 42) hx hb hts hi_X6 hown hE.1 hP x0 (w_5 hE hk0) rfl 18 (by decide) (hts (.fieldLink RX6 131 "HemLineModel" "place" "I") (by decide +kernel)) (fun _ h9 => h9) rfl dX6_readWoman_34 ?_
      refine lv_iconst (v := 1) hx hb dX6_readWoman_37 (by decide) ?_
      refine lv_iadd hx hb dX6_readWoman_38 ?_
      refine r_put (σ' := (setI s3 x0 18 ((gI s3 x0 18) + 1))) (ci := 5) (v := .int ((gI s3 x0 18) + 1)) (ty := .int) (C := RX6) (T := TX6) (N := 42) hx hb hts hi_X6 tyX6 tyX6_ok nmX6 hown hE hP hS x0 (w_5 hE hk0) rfl 18 (by decide) (hts (.fieldLink RX6 131 "HemLineModel" "place" "I") (by decide +kernel)) (fun _ h9 => h9) rfl (by decide +kernel) rfl rfl (Nat.le_of_ble_eq_true rfl) dX6_readWoman_39 (st_5_18 hE hk0 _) (fun H locs hP hS => ?_)
      refine lv_aload_n hx hb dX6_readWoman_42 rfl (lv_at hl 1 rfl) ?_
      refine va_get (ci := 5) (v := va_re ad (tM x0 13)) (C := RX6) (T := TX6) (N := 42) hx hb hts hi_X6 hown hE.1 hP x0 (w_5 hE hk0) rfl 13 (by decide) (hts (.fieldLink RX6 32 "HemLineModel" "draftKind" "[I") (by decide +kernel)) (fun _ h9 => h9) rfl dX6_readWoman_43 ?_
      refine lv_aload_n hx hb dX6_readWoman_46 rfl (lv_at hl 1 rfl) ?_
      refine va_get (ci := 5) (v := .int (gI (setI s3 x0 18 ((gI s3 x0 18) + 1)) x0 12)) (C := RX6) (T := TX6) (N := 42) hx hb hts hi_X6 hown hE.1 hP x0 (w_5 hE hk0) rfl 12 (by decide) (hts (.fieldLink RX6 147 "HemLineModel" "draftWomen" "I") (by decide +kernel)) (fun _ h9 => h9) rfl dX6_readWoman_47 ?_
      refine lv_iload_n hx hb dX6_readWoman_50 rfl (lv_at hl 0 rfl) ?_
      obtain ⟨k7, e8, q9, i10, h⟩ := h
      refine r_iast hx hb hE hP hS e8 q9 i10 dX6_readWoman_51 (fun H locs hP hS => ?_)
      refine lv_aload_n hx hb dX6_readWoman_52 rfl (lv_at hl 1 rfl) ?_
      refine va_get (ci := 5) (v := va_re ad (tM x0 14)) (C := RX6) (T := TX6) (N := 42) hx hb hts hi_X6 hown hE.1 hP x0 (w_5 hE hk0) rfl 14 (by decide) (hts (.fieldLink RX6 35 "HemLineModel" "draftPlace" "[I") (by decide +kernel)) (fun _ h9 => h9) rfl dX6_readWoman_53 ?_
      refine lv_aload_n hx hb dX6_readWoman_56 rfl (lv_at hl 1 rfl) ?_
      refine va_get (ci := 5) (v := .int (gI (setR (setI s3 x0 18 ((gI s3 x0 18) + 1)) k7 (upd (gR (setI s3 x0 18 ((gI s3 x0 18) + 1)) k7) (gI (setI s3 x0 18 ((gI s3 x0 18) + 1)) x0 12).toNatClampNeg r4)) x0 12)) (C := RX6) (T := TX6) (N := 42) hx hb hts hi_X6 hown hE.1 hP x0 (w_5 hE hk0) rfl 12 (by decide) (hts (.fieldLink RX6 147 "HemLineModel" "draftWomen" "I") (by decide +kernel)) (fun _ h9 => h9) rfl dX6_readWoman_57 ?_
      refine lv_aload_n hx hb dX6_readWoman_60 rfl (lv_at hl 1 rfl) ?_
      refine lv_iconst (v := 0) hx hb dX6_readWoman_61 (by decide) ?_
      refine lv_iconst (v := 5) hx hb dX6_readWoman_62 (by decide) ?_
      refine f_i (kV (As := [.int 0, .int 5]) (rest := [.int (gI (setR (setI s3 x0 18 ((gI s3 x0 18) + 1)) k7 (upd (gR (setI s3 x0 18 ((gI s3 x0 18) + 1)) k7) (gI (setI s3 x0 18 ((gI s3 x0 18) + 1)) x0 12).toNatClampNeg r4)) x0 12), va_re ad (tM x0 14)]) (o := some x0) rfl ⟨hx, hb, hml, hown, hts⟩ (c_X6_figure l D cs ad x0 0 5 (setR (setI s3 x0 18 ((gI s3 x0 18) + 1)) k7 (upd (gR (setI s3 x0 18 ((gI s3 x0 18) + 1)) k7) (gI (setI s3 x0 18 ((gI s3 x0 18) + 1)) x0 12).toNatClampNeg r4)) _ hk0) (cwV 2 hts gX6_readWoman_X6_figure rfl rfl rfl (by decide +kernel) ⟨Nat.le_of_ble_eq_true rfl, Nat.le_of_ble_eq_true rfl⟩) hE hP rfl rfl (w_5 hE hk0) h rfl hl.1 rfl (by first | exact lv_room (Nat.le_of_ble_eq_true rfl) | (refine lv_room ?_; simp [re_cat, cat_i, cat_l, cat_r])) dX6_readWoman_63 ⟨Nat.le_refl _, Nat.le_refl _⟩) hS (fun r12 s11 H locs h hP hS => ?_)
      obtain ⟨k13, e14, q15, i16, h⟩ := h
      refine r_iast hx hb hE hP hS e14 q15 i16 dX6_readWoman_66 (fun H locs hP hS => ?_)
      refine lv_aload_n hx hb dX6_readWoman_67 rfl (lv_at hl 1 rfl) ?_
      refine va_get (ci := 5) (v := va_re ad (tM x0 15)) (C := RX6) (T := TX6) (N := 42) hx hb hts hi_X6 hown hE.1 hP x0 (w_5 hE hk0) rfl 15 (by decide) (hts (.fieldLink RX6 38 "HemLineModel" "draftTall" "[I") (by decide +kernel)) (fun _ h9 => h9) rfl dX6_readWoman_68 ?_
      refine lv_aload_n hx hb dX6_readWoman_71 rfl (lv_at hl 1 rfl) ?_
      refine va_get (ci := 5) (v := .int (gI (setR s11 k13 (upd (gR s11 k13) (gI (setR (setI s3 x0 18 ((gI s3 x0 18) + 1)) k7 (upd (gR (setI s3 x0 18 ((gI s3 x0 18) + 1)) k7) (gI (setI s3 x0 18 ((gI s3 x0 18) + 1)) x0 12).toNatClampNeg r4)) x0 12).toNatClampNeg r12)) x0 12)) (C := RX6) (T := TX6) (N := 42) hx hb hts hi_X6 hown hE.1 hP x0 (w_5 hE hk0) rfl 12 (by decide) (hts (.fieldLink RX6 147 "HemLineModel" "draftWomen" "I") (by decide +kernel)) (fun _ h9 => h9) rfl dX6_readWoman_72 ?_
      refine lv_aload_n hx hb dX6_readWoman_75 rfl (lv_at hl 1 rfl) ?_
      refine lv_iconst (v := 1) hx hb dX6_readWoman_76 (by decide) ?_
      refine lv_bipush (v := 9) hx hb dX6_readWoman_77 (by decide) ?_
      refine f_i (kV (As := [.int 1, .int 9]) (rest := [.int (gI (setR s11 k13 (upd (gR s11 k13) (gI (setR (setI s3 x0 18 ((gI s3 x0 18) + 1)) k7 (upd (gR (setI s3 x0 18 ((gI s3 x0 18) + 1)) k7) (gI (setI s3 x0 18 ((gI s3 x0 18) + 1)) x0 12).toNatClampNeg r4)) x0 12).toNatClampNeg r12)) x0 12), va_re ad (tM x0 15)]) (o := some x0) rfl ⟨hx, hb, hml, hown, hts⟩ (c_X6_figure l D cs ad x0 1 9 (setR s11 k13 (upd (gR s11 k13) (gI (setR (setI s3 x0 18 ((gI s3 x0 18) + 1)) k7 (upd (gR (setI s3 x0 18 ((gI s3 x0 18) + 1)) k7) (gI (setI s3 x0 18 ((gI s3 x0 18) + 1)) x0 12).toNatClampNeg r4)) x0 12).toNatClampNeg r12)) _ hk0) (cwV 2 hts gX6_readWoman_X6_figure rfl rfl rfl (by decide +kernel) ⟨Nat.le_of_ble_eq_true rfl, Nat.le_of_ble_eq_true rfl⟩) hE hP rfl rfl (w_5 hE hk0) h rfl hl.1 rfl (by first | exact lv_room (Nat.le_of_ble_eq_true rfl) | (refine lv_room ?_; simp [re_cat, cat_i, cat_l, cat_r])) dX6_readWoman_79 ⟨Nat.le_refl _, Nat.le_refl _⟩) hS (fun r18 s17 H locs h hP hS => ?_)
      obtain ⟨k19, e20, q21, i22, h⟩ := h
      refine r_iast hx hb hE hP hS e20 q21 i22 dX6_readWoman_82 (fun H locs hP hS => ?_)
      refine lv_aload_n hx hb dX6_readWoman_83 rfl (lv_at hl 1 rfl) ?_
      refine va_get (ci := 5) (v := va_re ad (tM x0 16)) (C := RX6) (T := TX6) (N := 42) hx hb hts hi_X6 hown hE.1 hP x0 (w_5 hE hk0) rfl 16 (by decide) (hts (.fieldLink RX6 41 "HemLineModel" "draftTuck" "[I") (by decide +kernel)) (fun _ h9 => h9) rfl dX6_readWoman_84 ?_
      refine lv_aload_n hx hb dX6_readWoman_87 rfl (lv_at hl 1 rfl) ?_
      refine va_get (ci := 5) (v := .int (gI (setR s17 k19 (upd (gR s17 k19) (gI (setR s11 k13 (upd (gR s11 k13) (gI (setR (setI s3 x0 18 ((gI s3 x0 18) + 1)) k7 (upd (gR (setI s3 x0 18 ((gI s3 x0 18) + 1)) k7) (gI (setI s3 x0 18 ((gI s3 x0 18) + 1)) x0 12).toNatClampNeg r4)) x0 12).toNatClampNeg r12)) x0 12).toNatClampNeg r18)) x0 12)) (C := RX6) (T := TX6) (N := 42) hx hb hts hi_X6 hown hE.1 hP x0 (w_5 hE hk0) rfl 12 (by decide) (hts (.fieldLink RX6 147 "HemLineModel" "draftWomen" "I") (by decide +kernel)) (fun _ h9 => h9) rfl dX6_readWoman_88 ?_
      refine lv_aload_n hx hb dX6_readWoman_91 rfl (lv_at hl 1 rfl) ?_
      refine lv_iconst (v := 0) hx hb dX6_readWoman_92 (by decide) ?_
      refine lv_iconst (v := 3) hx hb dX6_readWoman_93 (by decide) ?_
      refine f_i (kV (As := [.int 0, .int 3]) (rest := [.int (gI (setR s17 k19 (upd (gR s17 k19) (gI (setR s11 k13 (upd (gR s11 k13) (gI (setR (setI s3 x0 18 ((gI s3 x0 18) + 1)) k7 (upd (gR (setI s3 x0 18 ((gI s3 x0 18) + 1)) k7) (gI (setI s3 x0 18 ((gI s3 x0 18) + 1)) x0 12).toNatClampNeg r4)) x0 12).toNatClampNeg r12)) x0 12).toNatClampNeg r18)) x0 12), va_re ad (tM x0 16)]) (o := some x0) rfl ⟨hx, hb, hml, hown, hts⟩ (c_X6_figure l D cs ad x0 0 3 (setR s17 k19 (upd (gR s17 k19) (gI (setR s11 k13 (upd (gR s11 k13) (gI (setR (setI s3 x0 18 ((gI s3 x0 18) + 1)) k7 (upd (gR (setI s3 x0 18 ((gI s3 x0 18) + 1)) k7) (gI (setI s3 x0 18 ((gI s3 x0 18) + 1)) x0 12).toNatClampNeg r4)) x0 12).toNatClampNeg r12)) x0 12).toNatClampNeg r18)) _ hk0) (cwV 2 hts gX6_readWoman_X6_figure rfl rfl rfl (by decide +kernel) ⟨Nat.le_of_ble_eq_true rfl, Nat.le_of_ble_eq_true rfl⟩) hE hP rfl rfl (w_5 hE hk0) h rfl hl.1 rfl (by first | exact lv_room (Nat.le_of_ble_eq_true rfl) | (refine lv_room ?_; simp [re_cat, cat_i, cat_l, cat_r])) dX6_readWoman_94 ⟨Nat.le_refl _, Nat.le_refl _⟩) hS (fun r24 s23 H locs h hP hS => ?_)
      obtain ⟨k25, e26, q27, i28, h⟩ := h
      refine r_iast hx hb hE hP hS e26 q27 i28 dX6_readWoman_97 (fun H locs hP hS => ?_)
      refine lv_aload_n hx hb dX6_readWoman_98 rfl (lv_at hl 1 rfl) ?_
      refine lv_dup hx hb dX6_readWoman_99 (by first | rfl | exact re_cat _ _) ?_
      refine va_get (ci := 5) (v := .int (gI (setR s23 k25 (upd (gR s23 k25) (gI (setR s17 k19 (upd (gR s17 k19) (gI (setR s11 k13 (upd (gR s11 k13) (gI (setR (setI s3 x0 18 ((gI s3 x0 18) + 1)) k7 (upd (gR (setI s3 x0 18 ((gI s3 x0 18) + 1)) k7) (gI (setI s3 x0 18 ((gI s3 x0 18) + 1)) x0 12).toNatClampNeg r4)) x0 12).toNatClampNeg r12)) x0 12).toNatClampNeg r18)) x0 12).toNatClampNeg r24)) x0 12)) (C := RX6) (T := TX6) (N := 42) hx hb hts hi_X6 hown hE.1 hP x0 (w_5 hE hk0) rfl 12 (by decide) (hts (.fieldLink RX6 147 "HemLineModel" "draftWomen" "I") (by decide +kernel)) (fun _ h9 => h9) rfl dX6_readWoman_100 ?_
      refine lv_iconst (v := 1) hx hb dX6_readWoman_103 (by decide) ?_
      refine lv_iadd hx hb dX6_readWoman_104 ?_
      refine r_put (σ' := (setI (setR s23 k25 (upd (gR s23 k25) (gI (setR s17 k19 (upd (gR s17 k19) (gI (setR s11 k13 (upd (gR s11 k13) (gI (setR (setI s3 x0 18 ((gI s3 x0 18) + 1)) k7 (upd (gR (setI s3 x0 18 ((gI s3 x0 18) + 1)) k7) (gI (setI s3 x0 18 ((gI s3 x0 18) + 1)) x0 12).toNatClampNeg r4)) x0 12).toNatClampNeg r12)) x0 12).toNatClampNeg r18)) x0 12).toNatClampNeg r24)) x0 12 ((gI (setR s23 k25 (upd (gR s23 k25) (gI (setR s17 k19 (upd (gR s17 k19) (gI (setR s11 k13 (upd (gR s11 k13) (gI (setR (setI s3 x0 18 ((gI s3 x0 18) + 1)) k7 (upd (gR (setI s3 x0 18 ((gI s3 x0 18) + 1)) k7) (gI (setI s3 x0 18 ((gI s3 x0 18) + 1)) x0 12).toNatClampNeg r4)) x0 12).toNatClampNeg r12)) x0 12).toNatClampNeg r18)) x0 12).toNatClampNeg r24)) x0 12) + 1))) (ci := 5) (v := .int ((gI (setR s23 k25 (upd (gR s23 k25) (gI (setR s17 k19 (upd (gR s17 k19) (gI (setR s11 k13 (upd (gR s11 k13) (gI (setR (setI s3 x0 18 ((gI s3 x0 18) + 1)) k7 (upd (gR (setI s3 x0 18 ((gI s3 x0 18) + 1)) k7) (gI (setI s3 x0 18 ((gI s3 x0 18) + 1)) x0 12).toNatClampNeg r4)) x0 12).toNatClampNeg r12)) x0 12).toNatClampNeg r18)) x0 12).toNatClampNeg r24)) x0 12) + 1)) (ty := .int) (C := RX6) (T := TX6) (N := 42) hx hb hts hi_X6 tyX6 tyX6_ok nmX6 hown hE hP hS x0 (w_5 hE hk0) rfl 12 (by decide) (hts (.fieldLink RX6 147 "HemLineModel" "draftWomen" "I") (by decide +kernel)) (fun _ h9 => h9) rfl (by decide +kernel) rfl rfl (Nat.le_of_ble_eq_true rfl) dX6_readWoman_105 (st_5_12 hE hk0 _) (fun H locs hP hS => ?_)
      exact W.vret hx hb hr (fun t ht hW => ⟨⟨_, rfl, h, pw ht hP⟩, hS.F ht⟩) hS.2.2 dX6_readWoman_108
    · replace h := h.1 c6
      exact hB23  s3 _ _ ls h hP hS (lv_sub hl [1] rfl)
def p_X6_read_b164 (Q : Sg → Prop) (K108 : Nat → Int32 → Int32 → Sg → Prop) (x0 : Nat) (x1 : Int32) (t0 : Int32) (s : Sg) : Prop := K108 x0 x1 t0 s
def p_X6_read_b141 (Q : Sg → Prop) (K108 : Nat → Int32 → Int32 → Sg → Prop) (x0 : Nat) (x1 : Int32) (t0 : Int32) (s : Sg) : Prop := ((t0 = 0 → K108 x0 x1 t0 s) ∧ (¬ t0 = 0 → p_X6_readWoman x0 s (fun s2 => (((gI s2 x0 19) = ((-9)) → p_X6_read_b164 Q K108 x0 x1 1 s2) ∧ (¬ (gI s2 x0 19) = ((-9)) → p_X6_read_b164 Q K108 x0 x1 0 s2)))))
def p_X6_read_b136 (Q : Sg → Prop) (K108 : Nat → Int32 → Int32 → Sg → Prop) (x0 : Nat) (x1 : Int32) (s : Sg) : Prop := p_X6_read_b141 Q K108 x0 x1 1 s
def p_X6_read_L108 (Q : Sg → Prop)  : Nat → Nat → Int32 → Int32 → Sg → Prop
  | 0, _, _, _, _ => False
  | n + 1, x0, x1, x2, s => ((x2 = 0 → Q s) ∧ (¬ x2 = 0 → p_X6_skip x0 s (fun s2 => ∃ k3, tM x0 8 = some k3 ∧ kM k3 = 7 ∧ vp_in x1 (lM k3) ∧ (((gI s2 x0 18) < (gR s2 k3 x1.toNatClampNeg) → p_X6_read_b136 Q (fun y0 y1 y2 u => p_X6_read_L108 Q  n y0 y1 y2 u) x0 x1 s2) ∧ (¬ (gI s2 x0 18) < (gR s2 k3 x1.toNatClampNeg) → (((gI s2 x0 12) = 0 → p_X6_read_b136 Q (fun y0 y1 y2 u => p_X6_read_L108 Q  n y0 y1 y2 u) x0 x1 s2) ∧ (¬ (gI s2 x0 12) = 0 → p_X6_read_b141 Q (fun y0 y1 y2 u => p_X6_read_L108 Q  n y0 y1 y2 u) x0 x1 0 s2)))))))
def p_X6_read_b107 (Q : Sg → Prop)  (x0 : Nat) (x1 : Int32) (t0 : Int32) (s : Sg) : Prop := (∃ n1, p_X6_read_L108 Q  n1 x0 x1 t0 s)
def p_X6_read_L57 (Q : Sg → Prop)  : Nat → Nat → Int32 → Int32 → Sg → Prop
  | 0, _, _, _, _ => False
  | n + 1, x0, x1, x2, s => ((6 ≤ x2 → p_X6_figure x0 0 9 s (fun r3 s2 => (((gI (setI s2 x0 11 r3) x0 19) = ((-9)) → p_X6_read_b107 Q  x0 x1 1 (setI s2 x0 11 r3)) ∧ (¬ (gI (setI s2 x0 11 r3) x0 19) = ((-9)) → p_X6_read_b107 Q  x0 x1 0 (setI s2 x0 11 r3))))) ∧ (¬ 6 ≤ x2 → p_X6_figure x0 0 9 s (fun r6 s5 => ∃ k7, tM x0 10 = some k7 ∧ kM k7 = 7 ∧ vp_in x2 (lM k7) ∧ p_X6_read_L57 Q  n x0 x1 (x2 + 1) (setR s5 k7 (upd (gR s5 k7) x2.toNatClampNeg r6)))))
def p_X6_read_b55 (Q : Sg → Prop)  (x0 : Nat) (x1 : Int32) (s : Sg) : Prop := (∃ n1, p_X6_read_L57 Q  n1 x0 x1 0 s)
def p_X6_read (x0 : Nat) (x1 : Int32) (s : Sg) (Q : Sg → Prop) : Prop := p_X6_skip x0 (setI (setI (setI (setI s x0 17 x1) x0 18 0) x0 19 ((-9))) x0 12 0) (fun s1 => p_X6_here x0 s1 (fun r3 s2 => ((r3 = 100 → p_X6_read_b55 Q  x0 x1 (setI s2 x0 18 ((gI s2 x0 18) + 1))) ∧ (¬ r3 = 100 → p_X6_read_b55 Q  x0 x1 (setI s2 x0 19 (gI s2 x0 18))))))
set_option maxHeartbeats 4000000 in
set_option maxRecDepth 100000 in
theorem c_X6_read (l : Launch) (D : va_G) (cs : Cs) (ad : Nat → Nat) (x0 : Nat) (x1 : Int32) (s0 : Sg) (Q : Sg → Prop) (hk0 : kM x0 = 5) : Met l yX6_read wsX6_read { frames := 3, cells := 0, slots := 0, locals := 66 } (Pc0 bM D cs ad [.ref (ad x0), .int x1] s0 (p_X6_read x0 x1 s0 Q)) (QV bM D cs ad Q) 0 0 (fAd bM ad) := by
  refine Met.ofW (cc := cX6_read) (maxL := 3) (ret := none) (by decide) rfl ?_
  intro p e s m args below meth c s₁ B0 hml hv
  obtain ⟨ha, hP, hE, h⟩ := hv
  have hx := B0.exec
  have hb := B0.bytes
  have hr := B0.returns
  have hts := atoms_spec (ws := wsX6_read) B0.pre
  have hown : s.vm.findClass RX6 = some m.cls := findClass_of_methodNamed B0.named
  have hlocks := B0.notSynchronized
  have hi_X6 : ∀ w ∈ u_ws RX6 TX6 42, w ∈ wsX6_read := by decide +kernel
  have hS : va_S (fAd bM ad) s.heap s.heap [] := va_S.rf
  have hl := lv_entry ([.ref (ad x0), .int x1]) (n := 3) (by first | exact Nat.le_of_ble_eq_true rfl | simp [lg_sl, re_cat, cat_i, cat_l, cat_r])
  rw [show entryFrame m args 3 = entryFrame m ([.ref (ad x0), .int x1] : List Value).toArray 3 by rw [ha], lg_entry_eq]
  generalize (lg_sl ([.ref (ad x0), .int x1]) ++ List.replicate (3 - (lg_sl ([.ref (ad x0), .int x1])).length) Slot.unset).toArray = ls at hl ⊢
  have hl : lv_has ls 3 [(0, .ref (ad x0)), (1, .int x1)] := by first | exact hl | simpa [lv_args, re_cat, cat_i, cat_l, cat_r] using hl
  have hB108 : ∀ (n108 : Nat) (x1 : Int32) (x2 : Int32) (σ : Sg) (H : Heap) (locs : List Loc) (ls : Array Slot), p_X6_read_L108 Q  n108 x0 x1 x2 σ → va_P D vwCl (wl bM cs ad σ) H → va_S (fAd bM ad) s.heap H locs → lv_has ls 3 [(0, .ref (ad x0)), (1, .int x1), (2, .int x2)] → W p l e { frames := 3, cells := 0, slots := 0, locals := 66 } s m args below meth c H locs 0 0 (MQ below (QV bM D cs ad Q) args s 0 0 (fAd bM ad)) (F0 m 108 ls []) := by
    intro n108
    induction n108 with
    | zero =>
      intro x1 x2 σ H locs ls h
      exact h.elim
    | succ n108 ih =>
      have hK108 := ih
      have hB164 : ∀ (x1 : Int32) (t0 : Int32) (σ : Sg) (H : Heap) (locs : List Loc) (ls : Array Slot), p_X6_read_b164 Q (fun y0 y1 y2 u => p_X6_read_L108 Q  n108 y0 y1 y2 u) x0 x1 t0 σ → va_P D vwCl (wl bM cs ad σ) H → va_S (fAd bM ad) s.heap H locs → lv_has ls 3 [(0, .ref (ad x0)), (1, .int x1)] → W p l e { frames := 3, cells := 0, slots := 0, locals := 66 } s m args below meth c H locs 0 0 (MQ below (QV bM D cs ad Q) args s 0 0 (fAd bM ad)) (F0 m 164 ls [.int t0]) := by
        intro x1 t0 σ H locs ls h hP hS hl
        unfold p_X6_read_b164 at h
        refine lv_istore_n (i := 2) (lv' := [(2, .int t0), (0, .ref (ad x0)), (1, .int x1)]) hx hb dX6_read_164 rfl hl (by decide) (by first | rfl | simp [re_cat, cat_i, cat_l, cat_r]) (fun ls hl => ?_)
        refine lv_goto (tgt := 108) hx hb dX6_read_165 (by decide) ?_
        exact hK108 x1 t0 σ H locs ls h hP hS (lv_sub hl [1, 2, 0] rfl)
      have hB141 : ∀ (x1 : Int32) (t0 : Int32) (σ : Sg) (H : Heap) (locs : List Loc) (ls : Array Slot), p_X6_read_b141 Q (fun y0 y1 y2 u => p_X6_read_L108 Q  n108 y0 y1 y2 u) x0 x1 t0 σ → va_P D vwCl (wl bM cs ad σ) H → va_S (fAd bM ad) s.heap H locs → lv_has ls 3 [(0, .ref (ad x0)), (1, .int x1)] → W p l e { frames := 3, cells := 0, slots := 0, locals := 66 } s m args below meth c H locs 0 0 (MQ below (QV bM D cs ad Q) args s 0 0 (fAd bM ad)) (F0 m 141 ls [.int t0]) := by
        intro x1 t0 σ H locs ls h hP hS hl
        unfold p_X6_read_b141 at h
        refine lv_istore_n (i := 2) (lv' := [(2, .int t0), (0, .ref (ad x0)), (1, .int x1)]) hx hb dX6_read_141 rfl hl (by decide) (by first | rfl | simp [re_cat, cat_i, cat_l, cat_r]) (fun ls hl => ?_)
        refine lv_iload_n hx hb dX6_read_142 rfl (lv_at hl 0 rfl) ?_
        refine lv_if_eq (tgt := 108) hx hb dX6_read_143 (by decide) (fun c1 => ?_) (fun c1 => ?_)
        · replace h := h.1 c1
          exact hK108 x1 t0 σ H locs ls h hP hS (lv_sub hl [1, 2, 0] rfl)
        · replace h := h.2 c1
          refine lv_aload_n hx hb dX6_read_146 rfl (lv_at hl 1 rfl) ?_
          refine f_v (kV (As := []) (rest := []) (o := some x0) rfl ⟨hx, hb, hml, hown, hts⟩ (c_X6_readWoman l D cs ad x0 σ _ hk0) (cwV 0 hts gX6_read_X6_readWoman rfl rfl rfl (by decide +kernel) ⟨Nat.le_of_ble_eq_true rfl, Nat.le_of_ble_eq_true rfl⟩) hE hP rfl rfl (w_5 hE hk0) h rfl hl.1 rfl (by first | exact lv_room (Nat.le_of_ble_eq_true rfl) | (refine lv_room ?_; simp [re_cat, cat_i, cat_l, cat_r])) dX6_read_147 ⟨Nat.le_refl _, Nat.le_refl _⟩) hS (fun s2 H locs h hP hS => ?_)
          refine lv_aload_n hx hb dX6_read_150 rfl (lv_at hl 1 rfl) ?_
          refine va_get (ci := 5) (v := .int (gI s2 x0 19)) (C := RX6) (T := TX6) (N := 42) hx hb hts hi_X6 hown hE.1 hP x0 (w_5 hE hk0) rfl 19 (by decide) (hts (.fieldLink RX6 141 "HemLineModel" "fault" "I") (by decide +kernel)) (fun _ h9 => h9) rfl dX6_read_151 ?_
          refine lv_bipush (v := (-9)) hx hb dX6_read_154 (by decide) ?_
          refine lv_icmp_ne (tgt := 163) hx hb dX6_read_156 (by decide) (fun c3 => ?_) (fun c3 => ?_)
          · replace h := h.2 c3
            refine lv_iconst (v := 0) hx hb dX6_read_163 (by decide) ?_
            exact hB164 x1 0 s2 H locs ls h hP hS (lv_sub hl [1, 2] rfl)
          · replace h := h.1 c3
            refine lv_iconst (v := 1) hx hb dX6_read_159 (by decide) ?_
            refine lv_goto (tgt := 164) hx hb dX6_read_160 (by decide) ?_
            exact hB164 x1 1 s2 H locs ls h hP hS (lv_sub hl [1, 2] rfl)
      have hB136 : ∀ (x1 : Int32) (σ : Sg) (H : Heap) (locs : List Loc) (ls : Array Slot), p_X6_read_b136 Q (fun y0 y1 y2 u => p_X6_read_L108 Q  n108 y0 y1 y2 u) x0 x1 σ → va_P D vwCl (wl bM cs ad σ) H → va_S (fAd bM ad) s.heap H locs → lv_has ls 3 [(0, .ref (ad x0)), (1, .int x1)] → W p l e { frames := 3, cells := 0, slots := 0, locals := 66 } s m args below meth c H locs 0 0 (MQ below (QV bM D cs ad Q) args s 0 0 (fAd bM ad)) (F0 m 136 ls []) := by
        intro x1 σ H locs ls h hP hS hl
        unfold p_X6_read_b136 at h
        refine lv_iconst (v := 1) hx hb dX6_read_136 (by decide) ?_
        refine lv_goto (tgt := 141) hx hb dX6_read_137 (by decide) ?_
        exact hB141 x1 1 σ H locs ls h hP hS (lv_sub hl [0, 1] rfl)
      intro x1 x2 σ H locs ls h hP hS hl
      rw [p_X6_read_L108] at h
      refine lv_iload_n hx hb dX6_read_108 rfl (lv_at hl 2 rfl) ?_
      refine lv_if_eq (tgt := 168) hx hb dX6_read_109 (by decide) (fun c1 => ?_) (fun c1 => ?_)
      · replace h := h.1 c1
        exact W.vret hx hb hr (fun t ht hW => ⟨⟨_, rfl, h, pw ht hP⟩, hS.F ht⟩) hS.2.2 dX6_read_168
      · replace h := h.2 c1
        refine lv_aload_n hx hb dX6_read_112 rfl (lv_at hl 0 rfl) ?_
        refine f_v (kV (As := []) (rest := []) (o := some x0) rfl ⟨hx, hb, hml, hown, hts⟩ (c_X6_skip l D cs ad x0 σ _ hk0) (cwV 0 hts gX6_read_X6_skip rfl rfl rfl (by decide +kernel) ⟨Nat.le_of_ble_eq_true rfl, Nat.le_of_ble_eq_true rfl⟩) hE hP rfl rfl (w_5 hE hk0) h rfl hl.1 rfl (by first | exact lv_room (Nat.le_of_ble_eq_true rfl) | (refine lv_room ?_; simp [re_cat, cat_i, cat_l, cat_r])) dX6_read_113 ⟨Nat.le_refl _, Nat.le_refl _⟩) hS (fun s2 H locs h hP hS => ?_)
        refine lv_aload_n hx hb dX6_read_116 rfl (lv_at hl 0 rfl) ?_
        refine va_get (ci := 5) (v := .int (gI s2 x0 18)) (C := RX6) (T := TX6) (N := 42) hx hb hts hi_X6 hown hE.1 hP x0 (w_5 hE hk0) rfl 18 (by decide) (hts (.fieldLink RX6 131 "HemLineModel" "place" "I") (by decide +kernel)) (fun _ h9 => h9) rfl dX6_read_117 ?_
        refine lv_aload_n hx hb dX6_read_120 rfl (lv_at hl 0 rfl) ?_
        refine va_get (ci := 5) (v := va_re ad (tM x0 8)) (C := RX6) (T := TX6) (N := 42) hx hb hts hi_X6 hown hE.1 hP x0 (w_5 hE hk0) rfl 8 (by decide) (hts (.fieldLink RX6 23 "HemLineModel" "textSize" "[I") (by decide +kernel)) (fun _ h9 => h9) rfl dX6_read_121 ?_
        refine lv_iload_n hx hb dX6_read_124 rfl (lv_at hl 1 rfl) ?_
        obtain ⟨k3, e4, q5, i6, h⟩ := h
        refine r_iald hx hb hE hP e4 q5 i6 dX6_read_125 ?_
        refine lv_icmp_lt (tgt := 136) hx hb dX6_read_126 (by decide) (fun c7 => ?_) (fun c7 => ?_)
        · replace h := h.1 c7
          exact hB136 x1 s2 H locs ls h hP hS (lv_sub hl [0, 1] rfl)
        · replace h := h.2 c7
          refine lv_aload_n hx hb dX6_read_129 rfl (lv_at hl 0 rfl) ?_
          refine va_get (ci := 5) (v := .int (gI s2 x0 12)) (C := RX6) (T := TX6) (N := 42) hx hb hts hi_X6 hown hE.1 hP x0 (w_5 hE hk0) rfl 12 (by decide) (hts (.fieldLink RX6 147 "HemLineModel" "draftWomen" "I") (by decide +kernel)) (fun _ h9 => h9) rfl dX6_read_130 ?_
          refine lv_if_ne (tgt := 140) hx hb dX6_read_133 (by decide) (fun c8 => ?_) (fun c8 => ?_)
          · replace h := h.2 c8
            refine lv_iconst (v := 0) hx hb dX6_read_140 (by decide) ?_
            exact hB141 x1 0 s2 H locs ls h hP hS (lv_sub hl [0, 1] rfl)
          · replace h := h.1 c8
            exact hB136 x1 s2 H locs ls h hP hS (lv_sub hl [0, 1] rfl)
  have hB107 : ∀ (x1 : Int32) (t0 : Int32) (σ : Sg) (H : Heap) (locs : List Loc) (ls : Array Slot), p_X6_read_b107 Q  x0 x1 t0 σ → va_P D vwCl (wl bM cs ad σ) H → va_S (fAd bM ad) s.heap H locs → lv_has ls 3 [(0, .ref (ad x0)), (1, .int x1)] → W p l e { frames := 3, cells := 0, slots := 0, locals := 66 } s m args below meth c H locs 0 0 (MQ below (QV bM D cs ad Q) args s 0 0 (fAd bM ad)) (F0 m 107 ls [.int t0]) := by
    intro x1 t0 σ H locs ls h hP hS hl
    unfold p_X6_read_b107 at h
    refine lv_istore_n (i := 2) (lv' := [(2, .int t0), (0, .ref (ad x0)), (1, .int x1)]) hx hb dX6_read_107 rfl hl (by decide) (by first | rfl | simp [re_cat, cat_i, cat_l, cat_r]) (fun ls hl => ?_)
    obtain ⟨n1, h⟩ := h
    exact hB108 n1 x1 t0 σ H locs ls h hP hS (lv_sub hl [1, 2, 0] rfl)
  have hB57 : ∀ (n57 : Nat) (x1 : Int32) (x2 : Int32) (σ : Sg) (H : Heap) (locs : List Loc) (ls : Array Slot), p_X6_read_L57 Q  n57 x0 x1 x2 σ → va_P D vwCl (wl bM cs ad σ) H → va_S (fAd bM ad) s.heap H locs → lv_has ls 3 [(0, .ref (ad x0)), (1, .int x1), (2, .int x2)] → W p l e { frames := 3, cells := 0, slots := 0, locals := 66 } s m args below meth c H locs 0 0 (MQ below (QV bM D cs ad Q) args s 0 0 (fAd bM ad)) (F0 m 57 ls []) := by
    intro n57
    induction n57 with
    | zero =>
      intro x1 x2 σ H locs ls h
      exact h.elim
    | succ n57 ih =>
      have hK57 := ih
      intro x1 x2 σ H locs ls h hP hS hl
      rw [p_X6_read_L57] at h
      refine lv_iload_n hx hb dX6_read_57 rfl (lv_at hl 2 rfl) ?_
      refine lv_bipush (v := 6) hx hb dX6_read_58 (by decide) ?_
      refine lv_icmp_ge (tgt := 82) hx hb dX6_read_60 (by decide) (fun c1 => ?_) (fun c1 => ?_)
      · replace h := h.1 c1
        refine lv_aload_n hx hb dX6_read_82 rfl (lv_at hl 0 rfl) ?_
        refine lv_aload_n hx hb dX6_read_83 rfl (lv_at hl 0 rfl) ?_
        refine lv_iconst (v := 0) hx hb dX6_read_84 (by decide) ?_
        refine lv_bipush (v := 9) hx hb dX6_read_85 (by decide) ?_
        refine f_i (kV (As := [.int 0, .int 9]) (rest := [.ref (ad x0)]) (o := some x0) rfl ⟨hx, hb, hml, hown, hts⟩ (c_X6_figure l D cs ad x0 0 9 σ _ hk0) (cwV 2 hts gX6_read_X6_figure rfl rfl rfl (by decide +kernel) ⟨Nat.le_of_ble_eq_true rfl, Nat.le_of_ble_eq_true rfl⟩) hE hP rfl rfl (w_5 hE hk0) h rfl hl.1 rfl (by first | exact lv_room (Nat.le_of_ble_eq_true rfl) | (refine lv_room ?_; simp [re_cat, cat_i, cat_l, cat_r])) dX6_read_87 ⟨Nat.le_refl _, Nat.le_refl _⟩) hS (fun r3 s2 H locs h hP hS => ?_)
        refine r_put (σ' := (setI s2 x0 11 r3)) (ci := 5) (v := .int r3) (ty := .int) (C := RX6) (T := TX6) (N := 42) hx hb hts hi_X6 tyX6 tyX6_ok nmX6 hown hE hP hS x0 (w_5 hE hk0) rfl 11 (by decide) (hts (.fieldLink RX6 157 "HemLineModel" "draftEarth" "I") (by decide +kernel)) (fun _ h9 => h9) rfl (by decide +kernel) rfl rfl (Nat.le_of_ble_eq_true rfl) dX6_read_90 (st_5_11 hE hk0 _) (fun H locs hP hS => ?_)
        refine lv_aload_n hx hb dX6_read_93 rfl (lv_at hl 0 rfl) ?_
        refine va_get (ci := 5) (v := .int (gI (setI s2 x0 11 r3) x0 19)) (C := RX6) (T := TX6) (N := 42) hx hb hts hi_X6 hown hE.1 hP x0 (w_5 hE hk0) rfl 19 (by decide) (hts (.fieldLink RX6 141 "HemLineModel" "fault" "I") (by decide +kernel)) (fun _ h9 => h9) rfl dX6_read_94 ?_
        refine lv_bipush (v := (-9)) hx hb dX6_read_97 (by decide) ?_
        refine lv_icmp_ne (tgt := 106) hx hb dX6_read_99 (by decide) (fun c4 => ?_) (fun c4 => ?_)
        · replace h := h.2 c4
          refine lv_iconst (v := 0) hx hb dX6_read_106 (by decide) ?_
          exact hB107 x1 0 (setI s2 x0 11 r3) H locs ls h hP hS (lv_sub hl [0, 1] rfl)
        · replace h := h.1 c4
          refine lv_iconst (v := 1) hx hb dX6_read_102 (by decide) ?_
          refine lv_goto (tgt := 107) hx hb dX6_read_103 (by decide) ?_
          exact hB107 x1 1 (setI s2 x0 11 r3) H locs ls h hP hS (lv_sub hl [0, 1] rfl)
      · replace h := h.2 c1
        refine lv_aload_n hx hb dX6_read_63 rfl (lv_at hl 0 rfl) ?_
        refine va_get (ci := 5) (v := va_re ad (tM x0 10)) (C := RX6) (T := TX6) (N := 42) hx hb hts hi_X6 hown hE.1 hP x0 (w_5 hE hk0) rfl 10 (by decide) (hts (.fieldLink RX6 29 "HemLineModel" "draftGround" "[I") (by decide +kernel)) (fun _ h9 => h9) rfl dX6_read_64 ?_
        refine lv_iload_n hx hb dX6_read_67 rfl (lv_at hl 2 rfl) ?_
        refine lv_aload_n hx hb dX6_read_68 rfl (lv_at hl 0 rfl) ?_
        refine lv_iconst (v := 0) hx hb dX6_read_69 (by decide) ?_
        refine lv_bipush (v := 9) hx hb dX6_read_70 (by decide) ?_
        refine f_i (kV (As := [.int 0, .int 9]) (rest := [.int x2, va_re ad (tM x0 10)]) (o := some x0) rfl ⟨hx, hb, hml, hown, hts⟩ (c_X6_figure l D cs ad x0 0 9 σ _ hk0) (cwV 2 hts gX6_read_X6_figure rfl rfl rfl (by decide +kernel) ⟨Nat.le_of_ble_eq_true rfl, Nat.le_of_ble_eq_true rfl⟩) hE hP rfl rfl (w_5 hE hk0) h rfl hl.1 rfl (by first | exact lv_room (Nat.le_of_ble_eq_true rfl) | (refine lv_room ?_; simp [re_cat, cat_i, cat_l, cat_r])) dX6_read_72 ⟨Nat.le_refl _, Nat.le_refl _⟩) hS (fun r6 s5 H locs h hP hS => ?_)
        obtain ⟨k7, e8, q9, i10, h⟩ := h
        refine r_iast hx hb hE hP hS e8 q9 i10 dX6_read_75 (fun H locs hP hS => ?_)
        refine lv_iinc (v := x2 + 1) (lv' := [(2, .int (x2 + 1)), (0, .ref (ad x0)), (1, .int x1)]) hx hb dX6_read_76 hl (k := 2) rfl rfl (by decide) (by first | rfl | simp [re_cat, cat_i, cat_l, cat_r]) (fun ls hl => ?_)
        refine lv_goto (tgt := 57) hx hb dX6_read_79 (by decide) ?_
        exact ih x1 (x2 + 1) (setR s5 k7 (upd (gR s5 k7) x2.toNatClampNeg r6)) H locs ls h hP hS (lv_sub hl [1, 2, 0] rfl)
  have hB55 : ∀ (x1 : Int32) (σ : Sg) (H : Heap) (locs : List Loc) (ls : Array Slot), p_X6_read_b55 Q  x0 x1 σ → va_P D vwCl (wl bM cs ad σ) H → va_S (fAd bM ad) s.heap H locs → lv_has ls 3 [(0, .ref (ad x0)), (1, .int x1)] → W p l e { frames := 3, cells := 0, slots := 0, locals := 66 } s m args below meth c H locs 0 0 (MQ below (QV bM D cs ad Q) args s 0 0 (fAd bM ad)) (F0 m 55 ls []) := by
    intro x1 σ H locs ls h hP hS hl
    unfold p_X6_read_b55 at h
    refine lv_iconst (v := 0) hx hb dX6_read_55 (by decide) ?_
    refine lv_istore_n (i := 2) (lv' := [(2, .int 0), (0, .ref (ad x0)), (1, .int x1)]) hx hb dX6_read_56 rfl hl (by decide) (by first | rfl | simp [re_cat, cat_i, cat_l, cat_r]) (fun ls hl => ?_)
    obtain ⟨n1, h⟩ := h
    exact hB57 n1 x1 0 σ H locs ls h hP hS (lv_sub hl [1, 2, 0] rfl)
  unfold p_X6_read at h
  refine lv_aload_n hx hb dX6_read_0 rfl (lv_at hl 0 rfl) ?_
  refine lv_iload_n hx hb dX6_read_1 rfl (lv_at hl 1 rfl) ?_
  refine r_put (σ' := (setI s0 x0 17 x1)) (ci := 5) (v := .int x1) (ty := .int) (C := RX6) (T := TX6) (N := 42) hx hb hts hi_X6 tyX6 tyX6_ok nmX6 hown hE hP hS x0 (w_5 hE hk0) rfl 17 (by decide) (hts (.fieldLink RX6 134 "HemLineModel" "reading" "I") (by decide +kernel)) (fun _ h9 => h9) rfl (by decide +kernel) rfl rfl (Nat.le_of_ble_eq_true rfl) dX6_read_2 (st_5_17 hE hk0 _) (fun H locs hP hS => ?_)
  refine lv_aload_n hx hb dX6_read_5 rfl (lv_at hl 0 rfl) ?_
  refine lv_iconst (v := 0) hx hb dX6_read_6 (by decide) ?_
  refine r_put (σ' := (setI (setI s0 x0 17 x1) x0 18 0)) (ci := 5) (v := .int 0) (ty := .int) (C := RX6) (T := TX6) (N := 42) hx hb hts hi_X6 tyX6 tyX6_ok nmX6 hown hE hP hS x0 (w_5 hE hk0) rfl 18 (by decide) (hts (.fieldLink RX6 131 "HemLineModel" "place" "I") (by decide +kernel)) (fun _ h9 => h9) rfl (by decide +kernel) rfl rfl (Nat.le_of_ble_eq_true rfl) dX6_read_7 (st_5_18 hE hk0 _) (fun H locs hP hS => ?_)
  refine lv_aload_n hx hb dX6_read_10 rfl (lv_at hl 0 rfl) ?_
  refine lv_bipush (v := (-9)) hx hb dX6_read_11 (by decide) ?_
  refine r_put (σ' := (setI (setI (setI s0 x0 17 x1) x0 18 0) x0 19 ((-9)))) (ci := 5) (v := .int ((-9))) (ty := .int) (C := RX6) (T := TX6) (N := 42) hx hb hts hi_X6 tyX6 tyX6_ok nmX6 hown hE hP hS x0 (w_5 hE hk0) rfl 19 (by decide) (hts (.fieldLink RX6 141 "HemLineModel" "fault" "I") (by decide +kernel)) (fun _ h9 => h9) rfl (by decide +kernel) rfl rfl (Nat.le_of_ble_eq_true rfl) dX6_read_13 (st_5_19 hE hk0 _) (fun H locs hP hS => ?_)
  refine lv_aload_n hx hb dX6_read_16 rfl (lv_at hl 0 rfl) ?_
  refine lv_iconst (v := 0) hx hb dX6_read_17 (by decide) ?_
  refine r_put (σ' := (setI (setI (setI (setI s0 x0 17 x1) x0 18 0) x0 19 ((-9))) x0 12 0)) (ci := 5) (v := .int 0) (ty := .int) (C := RX6) (T := TX6) (N := 42) hx hb hts hi_X6 tyX6 tyX6_ok nmX6 hown hE hP hS x0 (w_5 hE hk0) rfl 12 (by decide) (hts (.fieldLink RX6 147 "HemLineModel" "draftWomen" "I") (by decide +kernel)) (fun _ h9 => h9) rfl (by decide +kernel) rfl rfl (Nat.le_of_ble_eq_true rfl) dX6_read_18 (st_5_12 hE hk0 _) (fun H locs hP hS => ?_)
  refine lv_aload_n hx hb dX6_read_21 rfl (lv_at hl 0 rfl) ?_
  refine f_v (kV (As := []) (rest := []) (o := some x0) rfl ⟨hx, hb, hml, hown, hts⟩ (c_X6_skip l D cs ad x0 (setI (setI (setI (setI s0 x0 17 x1) x0 18 0) x0 19 ((-9))) x0 12 0) _ hk0) (cwV 0 hts gX6_read_X6_skip rfl rfl rfl (by decide +kernel) ⟨Nat.le_of_ble_eq_true rfl, Nat.le_of_ble_eq_true rfl⟩) hE hP rfl rfl (w_5 hE hk0) h rfl hl.1 rfl (by first | exact lv_room (Nat.le_of_ble_eq_true rfl) | (refine lv_room ?_; simp [re_cat, cat_i, cat_l, cat_r])) dX6_read_22 ⟨Nat.le_refl _, Nat.le_refl _⟩) hS (fun s1 H locs h hP hS => ?_)
  refine lv_aload_n hx hb dX6_read_25 rfl (lv_at hl 0 rfl) ?_
  refine f_i (kV (As := []) (rest := []) (o := some x0) rfl ⟨hx, hb, hml, hown, hts⟩ (c_X6_here l D cs ad x0 s1 _ hk0) (cwV 0 hts gX6_read_X6_here rfl rfl rfl (by decide +kernel) ⟨Nat.le_of_ble_eq_true rfl, Nat.le_of_ble_eq_true rfl⟩) hE hP rfl rfl (w_5 hE hk0) h rfl hl.1 rfl (by first | exact lv_room (Nat.le_of_ble_eq_true rfl) | (refine lv_room ?_; simp [re_cat, cat_i, cat_l, cat_r])) dX6_read_26 ⟨Nat.le_refl _, Nat.le_refl _⟩) hS (fun r3 s2 H locs h hP hS => ?_)
  refine lv_bipush (v := 100) hx hb dX6_read_29 (by decide) ?_
  refine lv_icmp_ne (tgt := 47) hx hb dX6_read_31 (by decide) (fun c4 => ?_) (fun c4 => ?_)
  · replace h := h.2 c4
    refine lv_aload_n hx hb dX6_read_47 rfl (lv_at hl 0 rfl) ?_
    refine lv_aload_n hx hb dX6_read_48 rfl (lv_at hl 0 rfl) ?_
    refine va_get (ci := 5) (v := .int (gI s2 x0 18)) (C := RX6) (T := TX6) (N := 42) hx hb hts hi_X6 hown hE.1 hP x0 (w_5 hE hk0) rfl 18 (by decide) (hts (.fieldLink RX6 131 "HemLineModel" "place" "I") (by decide +kernel)) (fun _ h9 => h9) rfl dX6_read_49 ?_
    refine r_put (σ' := (setI s2 x0 19 (gI s2 x0 18))) (ci := 5) (v := .int (gI s2 x0 18)) (ty := .int) (C := RX6) (T := TX6) (N := 42) hx hb hts hi_X6 tyX6 tyX6_ok nmX6 hown hE hP hS x0 (w_5 hE hk0) rfl 19 (by decide) (hts (.fieldLink RX6 141 "HemLineModel" "fault" "I") (by decide +kernel)) (fun _ h9 => h9) rfl (by decide +kernel) rfl rfl (Nat.le_of_ble_eq_true rfl) dX6_read_52 (st_5_19 hE hk0 _) (fun H locs hP hS => ?_)
    exact hB55 x1 (setI s2 x0 19 (gI s2 x0 18)) _ _ ls h hP hS (lv_sub hl [0, 1] rfl)
  · replace h := h.1 c4
    refine lv_aload_n hx hb dX6_read_34 rfl (lv_at hl 0 rfl) ?_
    refine lv_dup hx hb dX6_read_35 (by first | rfl | exact re_cat _ _) ?_
    refine va_get (ci := 5) (v := .int (gI s2 x0 18)) (C := RX6) (T := TX6) (N := 42) hx hb hts hi_X6 hown hE.1 hP x0 (w_5 hE hk0) rfl 18 (by decide) (hts (.fieldLink RX6 131 "HemLineModel" "place" "I") (by decide +kernel)) (fun _ h9 => h9) rfl dX6_read_36 ?_
    refine lv_iconst (v := 1) hx hb dX6_read_39 (by decide) ?_
    refine lv_iadd hx hb dX6_read_40 ?_
    refine r_put (σ' := (setI s2 x0 18 ((gI s2 x0 18) + 1))) (ci := 5) (v := .int ((gI s2 x0 18) + 1)) (ty := .int) (C := RX6) (T := TX6) (N := 42) hx hb hts hi_X6 tyX6 tyX6_ok nmX6 hown hE hP hS x0 (w_5 hE hk0) rfl 18 (by decide) (hts (.fieldLink RX6 131 "HemLineModel" "place" "I") (by decide +kernel)) (fun _ h9 => h9) rfl (by decide +kernel) rfl rfl (Nat.le_of_ble_eq_true rfl) dX6_read_41 (st_5_18 hE hk0 _) (fun H locs hP hS => ?_)
    refine lv_goto (tgt := 55) hx hb dX6_read_44 (by decide) ?_
    exact hB55 x1 (setI s2 x0 18 ((gI s2 x0 18) + 1)) _ _ ls h hP hS (lv_sub hl [0, 1] rfl)
def p_X6_fault (x0 : Nat) (x1 : Int32) (s : Sg) (Q : Int32 → Sg → Prop) : Prop := p_X6_isText x1 s (fun r2 s1 => ((r2 = 0 → Q ((-1)) s1) ∧ (¬ r2 = 0 → ∃ k4, tM x0 8 = some k4 ∧ kM k4 = 7 ∧ vp_in x1 (lM k4) ∧ ((0 ≤ (gR s1 k4 x1.toNatClampNeg) → p_X6_read x0 x1 s1 (fun s9 => Q (gI s9 x0 19) s9)) ∧ (¬ 0 ≤ (gR s1 k4 x1.toNatClampNeg) → p_X6_refuse x0 1 s1 (fun r11 s10 => Q r11 s10))))))
set_option maxHeartbeats 4000000 in
set_option maxRecDepth 100000 in
theorem c_X6_fault (l : Launch) (D : va_G) (cs : Cs) (ad : Nat → Nat) (x0 : Nat) (x1 : Int32) (s0 : Sg) (Q : Int32 → Sg → Prop) (hk0 : kM x0 = 5) : Met l yX6_fault wsX6_fault { frames := 4, cells := 0, slots := 0, locals := 88 } (Pc0 bM D cs ad [.ref (ad x0), .int x1] s0 (p_X6_fault x0 x1 s0 Q)) (QI bM D cs ad Q) 0 0 (fAd bM ad) := by
  refine Met.ofW (cc := cX6_fault) (maxL := 2) (ret := (some .int)) (by decide) rfl ?_
  intro p e s m args below meth c s₁ B0 hml hv
  obtain ⟨ha, hP, hE, h⟩ := hv
  have hx := B0.exec
  have hb := B0.bytes
  have hr := B0.returns
  have hts := atoms_spec (ws := wsX6_fault) B0.pre
  have hown : s.vm.findClass RX6 = some m.cls := findClass_of_methodNamed B0.named
  have hlocks := B0.notSynchronized
  have hi_X6 : ∀ w ∈ u_ws RX6 TX6 42, w ∈ wsX6_fault := by decide +kernel
  have hS : va_S (fAd bM ad) s.heap s.heap [] := va_S.rf
  have hl := lv_entry ([.ref (ad x0), .int x1]) (n := 2) (by first | exact Nat.le_of_ble_eq_true rfl | simp [lg_sl, re_cat, cat_i, cat_l, cat_r])
  rw [show entryFrame m args 2 = entryFrame m ([.ref (ad x0), .int x1] : List Value).toArray 2 by rw [ha], lg_entry_eq]
  generalize (lg_sl ([.ref (ad x0), .int x1]) ++ List.replicate (2 - (lg_sl ([.ref (ad x0), .int x1])).length) Slot.unset).toArray = ls at hl ⊢
  have hl : lv_has ls 2 [(0, .ref (ad x0)), (1, .int x1)] := by first | exact hl | simpa [lv_args, re_cat, cat_i, cat_l, cat_r] using hl
  unfold p_X6_fault at h
  refine lv_iload_n hx hb dX6_fault_0 rfl (lv_at hl 1 rfl) ?_
  refine f_i (kS (As := [.int x1]) (rest := []) ⟨hx, hb, hml, hown, hts⟩ (c_X6_isText l D cs ad x1 s0 _) (va_cwS 1 hts gX6_fault_X6_isText rfl rfl rfl (by decide +kernel) ⟨Nat.le_of_ble_eq_true rfl, Nat.le_of_ble_eq_true rfl⟩) hE hP h rfl hl.1 rfl (by first | exact lv_room (Nat.le_of_ble_eq_true rfl) | (refine lv_room ?_; simp [re_cat, cat_i, cat_l, cat_r])) dX6_fault_1 ⟨Nat.le_refl _, Nat.le_refl _⟩) hS (fun r2 s1 H locs h hP hS => ?_)
  refine lv_if_ne (tgt := 9) hx hb dX6_fault_4 (by decide) (fun c3 => ?_) (fun c3 => ?_)
  · replace h := h.2 c3
    refine lv_aload_n hx hb dX6_fault_9 rfl (lv_at hl 0 rfl) ?_
    refine va_get (ci := 5) (v := va_re ad (tM x0 8)) (C := RX6) (T := TX6) (N := 42) hx hb hts hi_X6 hown hE.1 hP x0 (w_5 hE hk0) rfl 8 (by decide) (hts (.fieldLink RX6 23 "HemLineModel" "textSize" "[I") (by decide +kernel)) (fun _ h9 => h9) rfl dX6_fault_10 ?_
    refine lv_iload_n hx hb dX6_fault_13 rfl (lv_at hl 1 rfl) ?_
    obtain ⟨k4, e5, q6, i7, h⟩ := h
    refine r_iald hx hb hE hP e5 q6 i7 dX6_fault_14 ?_
    refine lv_if_ge (tgt := 24) hx hb dX6_fault_15 (by decide) (fun c8 => ?_) (fun c8 => ?_)
    · replace h := h.1 c8
      refine lv_aload_n hx hb dX6_fault_24 rfl (lv_at hl 0 rfl) ?_
      refine lv_iload_n hx hb dX6_fault_25 rfl (lv_at hl 1 rfl) ?_
      refine f_v (kV (As := [.int x1]) (rest := []) (o := some x0) rfl ⟨hx, hb, hml, hown, hts⟩ (c_X6_read l D cs ad x0 x1 s1 _ hk0) (cwV 1 hts gX6_fault_X6_read rfl rfl rfl (by decide +kernel) ⟨Nat.le_of_ble_eq_true rfl, Nat.le_of_ble_eq_true rfl⟩) hE hP rfl rfl (w_5 hE hk0) h rfl hl.1 rfl (by first | exact lv_room (Nat.le_of_ble_eq_true rfl) | (refine lv_room ?_; simp [re_cat, cat_i, cat_l, cat_r])) dX6_fault_26 ⟨Nat.le_refl _, Nat.le_refl _⟩) hS (fun s9 H locs h hP hS => ?_)
      refine lv_aload_n hx hb dX6_fault_29 rfl (lv_at hl 0 rfl) ?_
      refine va_get (ci := 5) (v := .int (gI s9 x0 19)) (C := RX6) (T := TX6) (N := 42) hx hb hts hi_X6 hown hE.1 hP x0 (w_5 hE hk0) rfl 19 (by decide) (hts (.fieldLink RX6 141 "HemLineModel" "fault" "I") (by decide +kernel)) (fun _ h9 => h9) rfl dX6_fault_30 ?_
      exact W.iret hx hb hr (fun t ht hW => ⟨⟨_, _, rfl, h, pw ht hP⟩, hS.F ht⟩) hS.2.2 dX6_fault_33
    · replace h := h.2 c8
      refine lv_aload_n hx hb dX6_fault_18 rfl (lv_at hl 0 rfl) ?_
      refine lv_iconst (v := 1) hx hb dX6_fault_19 (by decide) ?_
      refine f_i (kV (As := [.int 1]) (rest := []) (o := some x0) rfl ⟨hx, hb, hml, hown, hts⟩ (c_X6_refuse l D cs ad x0 1 s1 _ hk0) (cwV 1 hts gX6_fault_X6_refuse rfl rfl rfl (by decide +kernel) ⟨Nat.le_of_ble_eq_true rfl, Nat.le_of_ble_eq_true rfl⟩) hE hP rfl rfl (w_5 hE hk0) h rfl hl.1 rfl (by first | exact lv_room (Nat.le_of_ble_eq_true rfl) | (refine lv_room ?_; simp [re_cat, cat_i, cat_l, cat_r])) dX6_fault_20 ⟨Nat.le_refl _, Nat.le_refl _⟩) hS (fun r11 s10 H locs h hP hS => ?_)
      exact W.iret hx hb hr (fun t ht hW => ⟨⟨_, _, rfl, h, pw ht hP⟩, hS.F ht⟩) hS.2.2 dX6_fault_23
  · replace h := h.1 c3
    refine lv_iconst (v := (-1)) hx hb dX6_fault_7 (by decide) ?_
    exact W.iret hx hb hr (fun t ht hW => ⟨⟨_, _, rfl, h, pw ht hP⟩, hS.F ht⟩) hS.2.2 dX6_fault_8
def p_X6_less (x0 : Int32) (x1 : Int32) (s : Sg) (Q : Int32 → Sg → Prop) : Prop := ((x1 ≤ x0 → Q x1 s) ∧ (¬ x1 ≤ x0 → Q x0 s))
set_option maxHeartbeats 4000000 in
set_option maxRecDepth 100000 in
theorem c_X6_less (l : Launch) (D : va_G) (cs : Cs) (ad : Nat → Nat) (x0 : Int32) (x1 : Int32) (s0 : Sg) (Q : Int32 → Sg → Prop) : Met l yX6_less wsX6_less { frames := 0, cells := 0, slots := 0, locals := 0 } (Pc0 bM D cs ad [.int x0, .int x1] s0 (p_X6_less x0 x1 s0 Q)) (QI bM D cs ad Q) 0 0 (fAd bM ad) := by
  refine Met.ofW (cc := cX6_less) (maxL := 2) (ret := (some .int)) (by decide) rfl ?_
  intro p e s m args below meth c s₁ B0 hml hv
  obtain ⟨ha, hP, hE, h⟩ := hv
  have hx := B0.exec
  have hb := B0.bytes
  have hr := B0.returns
  have hts := atoms_spec (ws := wsX6_less) B0.pre
  have hown : s.vm.findClass RX6 = some m.cls := findClass_of_methodNamed B0.named
  have hlocks := B0.notSynchronized
  have hS : va_S (fAd bM ad) s.heap s.heap [] := va_S.rf
  have hl := lv_entry ([.int x0, .int x1]) (n := 2) (by first | exact Nat.le_of_ble_eq_true rfl | simp [lg_sl, re_cat, cat_i, cat_l, cat_r])
  rw [show entryFrame m args 2 = entryFrame m ([.int x0, .int x1] : List Value).toArray 2 by rw [ha], lg_entry_eq]
  generalize (lg_sl ([.int x0, .int x1]) ++ List.replicate (2 - (lg_sl ([.int x0, .int x1])).length) Slot.unset).toArray = ls at hl ⊢
  have hl : lv_has ls 2 [(0, .int x0), (1, .int x1)] := by first | exact hl | simpa [lv_args, re_cat, cat_i, cat_l, cat_r] using hl
  unfold p_X6_less at h
  refine lv_iload_n hx hb dX6_less_0 rfl (lv_at hl 0 rfl) ?_
  refine lv_iload_n hx hb dX6_less_1 rfl (lv_at hl 1 rfl) ?_
  refine lv_icmp_ge (tgt := 9) hx hb dX6_less_2 (by decide) (fun c1 => ?_) (fun c1 => ?_)
  · replace h := h.1 c1
    refine lv_iload_n hx hb dX6_less_9 rfl (lv_at hl 1 rfl) ?_
    exact W.iret hx hb hr (fun t ht hW => ⟨⟨_, _, rfl, h, pw ht hP⟩, hS.F ht⟩) hS.2.2 dX6_less_10
  · replace h := h.2 c1
    refine lv_iload_n hx hb dX6_less_5 rfl (lv_at hl 0 rfl) ?_
    refine lv_goto (tgt := 10) hx hb dX6_less_6 (by decide) ?_
    exact W.iret hx hb hr (fun t ht hW => ⟨⟨_, _, rfl, h, pw ht hP⟩, hS.F ht⟩) hS.2.2 dX6_less_10
def p_X6_hemBy_b35 (Q : Int32 → Sg → Prop)  (x0 : Int32) (x1 : Int32) (x4 : Int32) (x5 : Int32) (x6 : Int32) (t0 : Int32) (s : Sg) : Prop := ((x0 = 1 → Q x6 s) ∧ (¬ x0 = 1 → ((x0 = 2 → Q t0 s) ∧ (¬ x0 = 2 → ((x0 = 3 → p_X6_less x5 (x1 / 2) s (fun r6 s5 => Q r6 s5)) ∧ (¬ x0 = 3 → ((x0 = 4 → Q (x6 + 1) s) ∧ (¬ x0 = 4 → ((x0 = 5 → (((x4 - x4 / 2 * 2) = 0 → Q x5 s) ∧ (¬ (x4 - x4 / 2 * 2) = 0 → Q t0 s))) ∧ (¬ x0 = 5 → Q x5 s))))))))))
def p_X6_hemBy_b19 (Q : Int32 → Sg → Prop)  (x0 : Int32) (x1 : Int32) (x2 : Int32) (x4 : Int32) (x5 : Int32) (t0 : Int32) (s : Sg) : Prop := ((x2 ≤ x5 → p_X6_hemBy_b35 Q  x0 x1 x4 x5 t0 (x5 - x2) s) ∧ (¬ x2 ≤ x5 → p_X6_hemBy_b35 Q  x0 x1 x4 x5 t0 0 s))
def p_X6_hemBy (x0 : Int32) (x1 : Int32) (x2 : Int32) (x3 : Int32) (x4 : Int32) (s : Sg) (Q : Int32 → Sg → Prop) : Prop := p_X6_less x3 x1 s (fun r2 s1 => ((2 ≤ r2 → p_X6_hemBy_b19 Q  x0 x1 x2 x4 r2 r2 s1) ∧ (¬ 2 ≤ r2 → p_X6_hemBy_b19 Q  x0 x1 x2 x4 r2 2 s1)))
set_option maxHeartbeats 4000000 in
set_option maxRecDepth 100000 in
theorem c_X6_hemBy (l : Launch) (D : va_G) (cs : Cs) (ad : Nat → Nat) (x0 : Int32) (x1 : Int32) (x2 : Int32) (x3 : Int32) (x4 : Int32) (s0 : Sg) (Q : Int32 → Sg → Prop) : Met l yX6_hemBy wsX6_hemBy { frames := 1, cells := 0, slots := 0, locals := 21 } (Pc0 bM D cs ad [.int x0, .int x1, .int x2, .int x3, .int x4] s0 (p_X6_hemBy x0 x1 x2 x3 x4 s0 Q)) (QI bM D cs ad Q) 0 0 (fAd bM ad) := by
  refine Met.ofW (cc := cX6_hemBy) (maxL := 8) (ret := (some .int)) (by decide) rfl ?_
  intro p e s m args below meth c s₁ B0 hml hv
  obtain ⟨ha, hP, hE, h⟩ := hv
  have hx := B0.exec
  have hb := B0.bytes
  have hr := B0.returns
  have hts := atoms_spec (ws := wsX6_hemBy) B0.pre
  have hown : s.vm.findClass RX6 = some m.cls := findClass_of_methodNamed B0.named
  have hlocks := B0.notSynchronized
  have hS : va_S (fAd bM ad) s.heap s.heap [] := va_S.rf
  have hl := lv_entry ([.int x0, .int x1, .int x2, .int x3, .int x4]) (n := 8) (by first | exact Nat.le_of_ble_eq_true rfl | simp [lg_sl, re_cat, cat_i, cat_l, cat_r])
  rw [show entryFrame m args 8 = entryFrame m ([.int x0, .int x1, .int x2, .int x3, .int x4] : List Value).toArray 8 by rw [ha], lg_entry_eq]
  generalize (lg_sl ([.int x0, .int x1, .int x2, .int x3, .int x4]) ++ List.replicate (8 - (lg_sl ([.int x0, .int x1, .int x2, .int x3, .int x4])).length) Slot.unset).toArray = ls at hl ⊢
  have hl : lv_has ls 8 [(0, .int x0), (1, .int x1), (2, .int x2), (3, .int x3), (4, .int x4)] := by first | exact hl | simpa [lv_args, re_cat, cat_i, cat_l, cat_r] using hl
  have hB35 : ∀ (x0 : Int32) (x1 : Int32) (x4 : Int32) (x5 : Int32) (x6 : Int32) (t0 : Int32) (σ : Sg) (H : Heap) (locs : List Loc) (ls : Array Slot), p_X6_hemBy_b35 Q  x0 x1 x4 x5 x6 t0 σ → va_P D vwCl (wl bM cs ad σ) H → va_S (fAd bM ad) s.heap H locs → lv_has ls 8 [(0, .int x0), (1, .int x1), (4, .int x4), (5, .int x5), (6, .int x6)] → W p l e { frames := 1, cells := 0, slots := 0, locals := 21 } s m args below meth c H locs 0 0 (MQ below (QI bM D cs ad Q) args s 0 0 (fAd bM ad)) (F0 m 35 ls [.int t0]) := by
    intro x0 x1 x4 x5 x6 t0 σ H locs ls h hP hS hl
    unfold p_X6_hemBy_b35 at h
    refine lv_istore (i := 7) (lv' := [(7, .int t0), (0, .int x0), (1, .int x1), (4, .int x4), (5, .int x5), (6, .int x6)]) hx hb dX6_hemBy_35 hl (by decide) (by first | rfl | simp [re_cat, cat_i, cat_l, cat_r]) (fun ls hl => ?_)
    refine lv_iload_n hx hb dX6_hemBy_37 rfl (lv_at hl 1 rfl) ?_
    by_cases c2 : x0 = 1
    · replace h := h.1 c2
      refine lv_tableIn (off := 34) (tgt := 72) hx hb dX6_hemBy_38 (by rw [c2]; decide) (by rw [c2]; decide) (by rw [c2]; decide) (by decide) ?_
      refine lv_iload hx hb dX6_hemBy_72 (lv_at hl 5 rfl) ?_
      exact W.iret hx hb hr (fun t ht hW => ⟨⟨_, _, rfl, h, pw ht hP⟩, hS.F ht⟩) hS.2.2 dX6_hemBy_74
    replace h := h.2 c2
    by_cases c3 : x0 = 2
    · replace h := h.1 c3
      refine lv_tableIn (off := 37) (tgt := 75) hx hb dX6_hemBy_38 (by rw [c3]; decide) (by rw [c3]; decide) (by rw [c3]; decide) (by decide) ?_
      refine lv_iload hx hb dX6_hemBy_75 (lv_at hl 0 rfl) ?_
      exact W.iret hx hb hr (fun t ht hW => ⟨⟨_, _, rfl, h, pw ht hP⟩, hS.F ht⟩) hS.2.2 dX6_hemBy_77
    replace h := h.2 c3
    by_cases c4 : x0 = 3
    · replace h := h.1 c4
      refine lv_tableIn (off := 40) (tgt := 78) hx hb dX6_hemBy_38 (by rw [c4]; decide) (by rw [c4]; decide) (by rw [c4]; decide) (by decide) ?_
      refine lv_iload hx hb dX6_hemBy_78 (lv_at hl 4 rfl) ?_
      refine lv_iload_n hx hb dX6_hemBy_80 rfl (lv_at hl 2 rfl) ?_
      refine lv_iconst (v := 2) hx hb dX6_hemBy_81 (by decide) ?_
      refine lv_idiv hx hb dX6_hemBy_82 (by decide) ?_
      refine f_i (kS (As := [.int x5, .int (x1 / 2)]) (rest := []) ⟨hx, hb, hml, hown, hts⟩ (c_X6_less l D cs ad x5 (x1 / 2) σ _) (va_cwS 2 hts gX6_hemBy_X6_less rfl rfl rfl (by decide +kernel) ⟨Nat.le_of_ble_eq_true rfl, Nat.le_of_ble_eq_true rfl⟩) hE hP h rfl hl.1 rfl (by first | exact lv_room (Nat.le_of_ble_eq_true rfl) | (refine lv_room ?_; simp [re_cat, cat_i, cat_l, cat_r])) dX6_hemBy_83 ⟨Nat.le_refl _, Nat.le_refl _⟩) hS (fun r6 s5 H locs h hP hS => ?_)
      exact W.iret hx hb hr (fun t ht hW => ⟨⟨_, _, rfl, h, pw ht hP⟩, hS.F ht⟩) hS.2.2 dX6_hemBy_86
    replace h := h.2 c4
    by_cases c7 : x0 = 4
    · replace h := h.1 c7
      refine lv_tableIn (off := 49) (tgt := 87) hx hb dX6_hemBy_38 (by rw [c7]; decide) (by rw [c7]; decide) (by rw [c7]; decide) (by decide) ?_
      refine lv_iload hx hb dX6_hemBy_87 (lv_at hl 5 rfl) ?_
      refine lv_iconst (v := 1) hx hb dX6_hemBy_89 (by decide) ?_
      refine lv_iadd hx hb dX6_hemBy_90 ?_
      exact W.iret hx hb hr (fun t ht hW => ⟨⟨_, _, rfl, h, pw ht hP⟩, hS.F ht⟩) hS.2.2 dX6_hemBy_91
    replace h := h.2 c7
    by_cases c8 : x0 = 5
    · replace h := h.1 c8
      refine lv_tableIn (off := 54) (tgt := 92) hx hb dX6_hemBy_38 (by rw [c8]; decide) (by rw [c8]; decide) (by rw [c8]; decide) (by decide) ?_
      refine lv_iload hx hb dX6_hemBy_92 (lv_at hl 3 rfl) ?_
      refine lv_iconst (v := 2) hx hb dX6_hemBy_94 (by decide) ?_
      refine lv_irem hx hb dX6_hemBy_95 (by decide) ?_
      refine lv_if_ne (tgt := 104) hx hb dX6_hemBy_96 (by decide) (fun c9 => ?_) (fun c9 => ?_)
      · replace h := h.2 c9
        refine lv_iload hx hb dX6_hemBy_104 (lv_at hl 0 rfl) ?_
        exact W.iret hx hb hr (fun t ht hW => ⟨⟨_, _, rfl, h, pw ht hP⟩, hS.F ht⟩) hS.2.2 dX6_hemBy_106
      · replace h := h.1 c9
        refine lv_iload hx hb dX6_hemBy_99 (lv_at hl 4 rfl) ?_
        refine lv_goto (tgt := 106) hx hb dX6_hemBy_101 (by decide) ?_
        exact W.iret hx hb hr (fun t ht hW => ⟨⟨_, _, rfl, h, pw ht hP⟩, hS.F ht⟩) hS.2.2 dX6_hemBy_106
    replace h := h.2 c8
    refine lv_tableOut (tgt := 107) hx hb dX6_hemBy_38 (by have := ne_toInt (n := 1) c2 (by decide); have := ne_toInt (n := 2) c3 (by decide); have := ne_toInt (n := 3) c4 (by decide); have := ne_toInt (n := 4) c7 (by decide); have := ne_toInt (n := 5) c8 (by decide); omega) (by decide) ?_
    refine lv_iload hx hb dX6_hemBy_107 (lv_at hl 4 rfl) ?_
    exact W.iret hx hb hr (fun t ht hW => ⟨⟨_, _, rfl, h, pw ht hP⟩, hS.F ht⟩) hS.2.2 dX6_hemBy_109
  have hB19 : ∀ (x0 : Int32) (x1 : Int32) (x2 : Int32) (x4 : Int32) (x5 : Int32) (t0 : Int32) (σ : Sg) (H : Heap) (locs : List Loc) (ls : Array Slot), p_X6_hemBy_b19 Q  x0 x1 x2 x4 x5 t0 σ → va_P D vwCl (wl bM cs ad σ) H → va_S (fAd bM ad) s.heap H locs → lv_has ls 8 [(0, .int x0), (1, .int x1), (2, .int x2), (4, .int x4), (5, .int x5)] → W p l e { frames := 1, cells := 0, slots := 0, locals := 21 } s m args below meth c H locs 0 0 (MQ below (QI bM D cs ad Q) args s 0 0 (fAd bM ad)) (F0 m 19 ls [.int t0]) := by
    intro x0 x1 x2 x4 x5 t0 σ H locs ls h hP hS hl
    unfold p_X6_hemBy_b19 at h
    refine lv_istore (i := 6) (lv' := [(6, .int t0), (0, .int x0), (1, .int x1), (2, .int x2), (4, .int x4), (5, .int x5)]) hx hb dX6_hemBy_19 hl (by decide) (by first | rfl | simp [re_cat, cat_i, cat_l, cat_r]) (fun ls hl => ?_)
    refine lv_iload hx hb dX6_hemBy_21 (lv_at hl 5 rfl) ?_
    refine lv_iload_n hx hb dX6_hemBy_23 rfl (lv_at hl 3 rfl) ?_
    refine lv_icmp_ge (tgt := 31) hx hb dX6_hemBy_24 (by decide) (fun c1 => ?_) (fun c1 => ?_)
    · replace h := h.1 c1
      refine lv_iload hx hb dX6_hemBy_31 (lv_at hl 5 rfl) ?_
      refine lv_iload_n hx hb dX6_hemBy_33 rfl (lv_at hl 3 rfl) ?_
      refine lv_isub hx hb dX6_hemBy_34 ?_
      exact hB35 x0 x1 x4 x5 t0 (x5 - x2) σ H locs ls h hP hS (lv_sub hl [1, 2, 4, 5, 0] rfl)
    · replace h := h.2 c1
      refine lv_iconst (v := 0) hx hb dX6_hemBy_27 (by decide) ?_
      refine lv_goto (tgt := 35) hx hb dX6_hemBy_28 (by decide) ?_
      exact hB35 x0 x1 x4 x5 t0 0 σ H locs ls h hP hS (lv_sub hl [1, 2, 4, 5, 0] rfl)
  unfold p_X6_hemBy at h
  refine lv_iload_n hx hb dX6_hemBy_0 rfl (lv_at hl 3 rfl) ?_
  refine lv_iload_n hx hb dX6_hemBy_1 rfl (lv_at hl 1 rfl) ?_
  refine f_i (kS (As := [.int x3, .int x1]) (rest := []) ⟨hx, hb, hml, hown, hts⟩ (c_X6_less l D cs ad x3 x1 s0 _) (va_cwS 2 hts gX6_hemBy_X6_less rfl rfl rfl (by decide +kernel) ⟨Nat.le_of_ble_eq_true rfl, Nat.le_of_ble_eq_true rfl⟩) hE hP h rfl hl.1 rfl (by first | exact lv_room (Nat.le_of_ble_eq_true rfl) | (refine lv_room ?_; simp [re_cat, cat_i, cat_l, cat_r])) dX6_hemBy_2 ⟨Nat.le_refl _, Nat.le_refl _⟩) hS (fun r2 s1 H locs h hP hS => ?_)
  refine lv_istore (i := 5) (lv' := [(5, .int r2), (0, .int x0), (1, .int x1), (2, .int x2), (3, .int x3), (4, .int x4)]) hx hb dX6_hemBy_5 hl (by decide) (by first | rfl | simp [re_cat, cat_i, cat_l, cat_r]) (fun ls hl => ?_)
  refine lv_iload hx hb dX6_hemBy_7 (lv_at hl 0 rfl) ?_
  refine lv_iconst (v := 2) hx hb dX6_hemBy_9 (by decide) ?_
  refine lv_icmp_ge (tgt := 17) hx hb dX6_hemBy_10 (by decide) (fun c3 => ?_) (fun c3 => ?_)
  · replace h := h.1 c3
    refine lv_iload hx hb dX6_hemBy_17 (lv_at hl 0 rfl) ?_
    exact hB19 x0 x1 x2 x4 r2 r2 s1 _ _ ls h hP hS (lv_sub hl [1, 2, 3, 5, 0] rfl)
  · replace h := h.2 c3
    refine lv_iconst (v := 2) hx hb dX6_hemBy_13 (by decide) ?_
    refine lv_goto (tgt := 19) hx hb dX6_hemBy_14 (by decide) ?_
    exact hB19 x0 x1 x2 x4 r2 2 s1 _ _ ls h hP hS (lv_sub hl [1, 2, 3, 5, 0] rfl)
def p_X6_wet (x0 : Int32) (x1 : Int32) (s : Sg) (Q : Int32 → Sg → Prop) : Prop := ((x0 ≤ x1 → Q 0 s) ∧ (¬ x0 ≤ x1 → Q (x0 - x1) s))
set_option maxHeartbeats 4000000 in
set_option maxRecDepth 100000 in
theorem c_X6_wet (l : Launch) (D : va_G) (cs : Cs) (ad : Nat → Nat) (x0 : Int32) (x1 : Int32) (s0 : Sg) (Q : Int32 → Sg → Prop) : Met l yX6_wet wsX6_wet { frames := 0, cells := 0, slots := 0, locals := 0 } (Pc0 bM D cs ad [.int x0, .int x1] s0 (p_X6_wet x0 x1 s0 Q)) (QI bM D cs ad Q) 0 0 (fAd bM ad) := by
  refine Met.ofW (cc := cX6_wet) (maxL := 2) (ret := (some .int)) (by decide) rfl ?_
  intro p e s m args below meth c s₁ B0 hml hv
  obtain ⟨ha, hP, hE, h⟩ := hv
  have hx := B0.exec
  have hb := B0.bytes
  have hr := B0.returns
  have hts := atoms_spec (ws := wsX6_wet) B0.pre
  have hown : s.vm.findClass RX6 = some m.cls := findClass_of_methodNamed B0.named
  have hlocks := B0.notSynchronized
  have hS : va_S (fAd bM ad) s.heap s.heap [] := va_S.rf
  have hl := lv_entry ([.int x0, .int x1]) (n := 2) (by first | exact Nat.le_of_ble_eq_true rfl | simp [lg_sl, re_cat, cat_i, cat_l, cat_r])
  rw [show entryFrame m args 2 = entryFrame m ([.int x0, .int x1] : List Value).toArray 2 by rw [ha], lg_entry_eq]
  generalize (lg_sl ([.int x0, .int x1]) ++ List.replicate (2 - (lg_sl ([.int x0, .int x1])).length) Slot.unset).toArray = ls at hl ⊢
  have hl : lv_has ls 2 [(0, .int x0), (1, .int x1)] := by first | exact hl | simpa [lv_args, re_cat, cat_i, cat_l, cat_r] using hl
  unfold p_X6_wet at h
  refine lv_iload_n hx hb dX6_wet_0 rfl (lv_at hl 0 rfl) ?_
  refine lv_iload_n hx hb dX6_wet_1 rfl (lv_at hl 1 rfl) ?_
  refine lv_icmp_le (tgt := 11) hx hb dX6_wet_2 (by decide) (fun c1 => ?_) (fun c1 => ?_)
  · replace h := h.1 c1
    refine lv_iconst (v := 0) hx hb dX6_wet_11 (by decide) ?_
    exact W.iret hx hb hr (fun t ht hW => ⟨⟨_, _, rfl, h, pw ht hP⟩, hS.F ht⟩) hS.2.2 dX6_wet_12
  · replace h := h.2 c1
    refine lv_iload_n hx hb dX6_wet_5 rfl (lv_at hl 0 rfl) ?_
    refine lv_iload_n hx hb dX6_wet_6 rfl (lv_at hl 1 rfl) ?_
    refine lv_isub hx hb dX6_wet_7 ?_
    refine lv_goto (tgt := 12) hx hb dX6_wet_8 (by decide) ?_
    exact W.iret hx hb hr (fun t ht hW => ⟨⟨_, _, rfl, h, pw ht hP⟩, hS.F ht⟩) hS.2.2 dX6_wet_12
def p_X6_hemNow (x0 : Nat) (x1 : Int32) (x2 : Int32) (x3 : Int32) (s : Sg) (Q : Int32 → Sg → Prop) : Prop := ∃ k1, tM x0 22 = some k1 ∧ kM k1 = 7 ∧ vp_in x2 (lM k1) ∧ ∃ k5, tM x0 28 = some k5 ∧ kM k5 = 7 ∧ vp_in x2 (lM k5) ∧ ∃ k9, tM x0 27 = some k9 ∧ kM k9 = 7 ∧ vp_in x2 (lM k9) ∧ ∃ k13, tM x0 29 = some k13 ∧ kM k13 = 7 ∧ vp_in (gR s k9 x2.toNatClampNeg) (lM k13) ∧ p_X6_wet x3 (gR s k13 (gR s k9 x2.toNatClampNeg).toNatClampNeg) s (fun r18 s17 => p_X6_hemBy x1 (gR s k1 x2.toNatClampNeg) (gR s k5 x2.toNatClampNeg) r18 (gI s17 x0 31) s17 (fun r20 s19 => Q r20 s19))
set_option maxHeartbeats 4000000 in
set_option maxRecDepth 100000 in
theorem c_X6_hemNow (l : Launch) (D : va_G) (cs : Cs) (ad : Nat → Nat) (x0 : Nat) (x1 : Int32) (x2 : Int32) (x3 : Int32) (s0 : Sg) (Q : Int32 → Sg → Prop) (hk0 : kM x0 = 5) : Met l yX6_hemNow wsX6_hemNow { frames := 2, cells := 0, slots := 0, locals := 48 } (Pc0 bM D cs ad [.ref (ad x0), .int x1, .int x2, .int x3] s0 (p_X6_hemNow x0 x1 x2 x3 s0 Q)) (QI bM D cs ad Q) 0 0 (fAd bM ad) := by
  refine Met.ofW (cc := cX6_hemNow) (maxL := 4) (ret := (some .int)) (by decide) rfl ?_
  intro p e s m args below meth c s₁ B0 hml hv
  obtain ⟨ha, hP, hE, h⟩ := hv
  have hx := B0.exec
  have hb := B0.bytes
  have hr := B0.returns
  have hts := atoms_spec (ws := wsX6_hemNow) B0.pre
  have hown : s.vm.findClass RX6 = some m.cls := findClass_of_methodNamed B0.named
  have hlocks := B0.notSynchronized
  have hi_X6 : ∀ w ∈ u_ws RX6 TX6 42, w ∈ wsX6_hemNow := by decide +kernel
  have hS : va_S (fAd bM ad) s.heap s.heap [] := va_S.rf
  have hl := lv_entry ([.ref (ad x0), .int x1, .int x2, .int x3]) (n := 4) (by first | exact Nat.le_of_ble_eq_true rfl | simp [lg_sl, re_cat, cat_i, cat_l, cat_r])
  rw [show entryFrame m args 4 = entryFrame m ([.ref (ad x0), .int x1, .int x2, .int x3] : List Value).toArray 4 by rw [ha], lg_entry_eq]
  generalize (lg_sl ([.ref (ad x0), .int x1, .int x2, .int x3]) ++ List.replicate (4 - (lg_sl ([.ref (ad x0), .int x1, .int x2, .int x3])).length) Slot.unset).toArray = ls at hl ⊢
  have hl : lv_has ls 4 [(0, .ref (ad x0)), (1, .int x1), (2, .int x2), (3, .int x3)] := by first | exact hl | simpa [lv_args, re_cat, cat_i, cat_l, cat_r] using hl
  unfold p_X6_hemNow at h
  refine lv_iload_n hx hb dX6_hemNow_0 rfl (lv_at hl 1 rfl) ?_
  refine lv_aload_n hx hb dX6_hemNow_1 rfl (lv_at hl 0 rfl) ?_
  refine va_get (ci := 5) (v := va_re ad (tM x0 22)) (C := RX6) (T := TX6) (N := 42) hx hb hts hi_X6 hown hE.1 hP x0 (w_5 hE hk0) rfl 22 (by decide) (hts (.fieldLink RX6 47 "HemLineModel" "tall" "[I") (by decide +kernel)) (fun _ h9 => h9) rfl dX6_hemNow_2 ?_
  refine lv_iload_n hx hb dX6_hemNow_5 rfl (lv_at hl 2 rfl) ?_
  obtain ⟨k1, e2, q3, i4, h⟩ := h
  refine r_iald hx hb hE hP e2 q3 i4 dX6_hemNow_6 ?_
  refine lv_aload_n hx hb dX6_hemNow_7 rfl (lv_at hl 0 rfl) ?_
  refine va_get (ci := 5) (v := va_re ad (tM x0 28)) (C := RX6) (T := TX6) (N := 42) hx hb hts hi_X6 hown hE.1 hP x0 (w_5 hE hk0) rfl 28 (by decide) (hts (.fieldLink RX6 62 "HemLineModel" "tuck" "[I") (by decide +kernel)) (fun _ h9 => h9) rfl dX6_hemNow_8 ?_
  refine lv_iload_n hx hb dX6_hemNow_11 rfl (lv_at hl 2 rfl) ?_
  obtain ⟨k5, e6, q7, i8, h⟩ := h
  refine r_iald hx hb hE hP e6 q7 i8 dX6_hemNow_12 ?_
  refine lv_iload_n hx hb dX6_hemNow_13 rfl (lv_at hl 3 rfl) ?_
  refine lv_aload_n hx hb dX6_hemNow_14 rfl (lv_at hl 0 rfl) ?_
  refine va_get (ci := 5) (v := va_re ad (tM x0 29)) (C := RX6) (T := TX6) (N := 42) hx hb hts hi_X6 hown hE.1 hP x0 (w_5 hE hk0) rfl 29 (by decide) (hts (.fieldLink RX6 65 "HemLineModel" "ground" "[I") (by decide +kernel)) (fun _ h9 => h9) rfl dX6_hemNow_15 ?_
  refine lv_aload_n hx hb dX6_hemNow_18 rfl (lv_at hl 0 rfl) ?_
  refine va_get (ci := 5) (v := va_re ad (tM x0 27)) (C := RX6) (T := TX6) (N := 42) hx hb hts hi_X6 hown hE.1 hP x0 (w_5 hE hk0) rfl 27 (by decide) (hts (.fieldLink RX6 59 "HemLineModel" "lives" "[I") (by decide +kernel)) (fun _ h9 => h9) rfl dX6_hemNow_19 ?_
  refine lv_iload_n hx hb dX6_hemNow_22 rfl (lv_at hl 2 rfl) ?_
  obtain ⟨k9, e10, q11, i12, h⟩ := h
  refine r_iald hx hb hE hP e10 q11 i12 dX6_hemNow_23 ?_
  obtain ⟨k13, e14, q15, i16, h⟩ := h
  refine r_iald hx hb hE hP e14 q15 i16 dX6_hemNow_24 ?_
  refine f_i (kS (As := [.int x3, .int (gR s0 k13 (gR s0 k9 x2.toNatClampNeg).toNatClampNeg)]) (rest := [.int (gR s0 k5 x2.toNatClampNeg), .int (gR s0 k1 x2.toNatClampNeg), .int x1]) ⟨hx, hb, hml, hown, hts⟩ (c_X6_wet l D cs ad x3 (gR s0 k13 (gR s0 k9 x2.toNatClampNeg).toNatClampNeg) s0 _) (va_cwS 2 hts gX6_hemNow_X6_wet rfl rfl rfl (by decide +kernel) ⟨Nat.le_of_ble_eq_true rfl, Nat.le_of_ble_eq_true rfl⟩) hE hP h rfl hl.1 rfl (by first | exact lv_room (Nat.le_of_ble_eq_true rfl) | (refine lv_room ?_; simp [re_cat, cat_i, cat_l, cat_r])) dX6_hemNow_25 ⟨Nat.le_refl _, Nat.le_refl _⟩) hS (fun r18 s17 H locs h hP hS => ?_)
  refine lv_aload_n hx hb dX6_hemNow_28 rfl (lv_at hl 0 rfl) ?_
  refine va_get (ci := 5) (v := .int (gI s17 x0 31)) (C := RX6) (T := TX6) (N := 42) hx hb hts hi_X6 hown hE.1 hP x0 (w_5 hE hk0) rfl 31 (by decide) (hts (.fieldLink RX6 185 "HemLineModel" "years" "I") (by decide +kernel)) (fun _ h9 => h9) rfl dX6_hemNow_29 ?_
  refine f_i (kS (As := [.int x1, .int (gR s0 k1 x2.toNatClampNeg), .int (gR s0 k5 x2.toNatClampNeg), .int r18, .int (gI s17 x0 31)]) (rest := []) ⟨hx, hb, hml, hown, hts⟩ (c_X6_hemBy l D cs ad x1 (gR s0 k1 x2.toNatClampNeg) (gR s0 k5 x2.toNatClampNeg) r18 (gI s17 x0 31) s17 _) (va_cwS 5 hts gX6_hemNow_X6_hemBy rfl rfl rfl (by decide +kernel) ⟨Nat.le_of_ble_eq_true rfl, Nat.le_of_ble_eq_true rfl⟩) hE hP h rfl hl.1 rfl (by first | exact lv_room (Nat.le_of_ble_eq_true rfl) | (refine lv_room ?_; simp [re_cat, cat_i, cat_l, cat_r])) dX6_hemNow_32 ⟨Nat.le_refl _, Nat.le_refl _⟩) hS (fun r20 s19 H locs h hP hS => ?_)
  exact W.iret hx hb hr (fun t ht hW => ⟨⟨_, _, rfl, h, pw ht hP⟩, hS.F ht⟩) hS.2.2 dX6_hemNow_35
def p_X6_happen_L31 (Q : Sg → Prop)  : Nat → Nat → Int32 → Int32 → Sg → Prop
  | 0, _, _, _, _ => False
  | n + 1, x0, x2, x4, s => (((gI s x0 20) ≤ x4 → ∃ k2, tM x0 32 = some k2 ∧ kM k2 = 7 ∧ vp_in (gI s x0 31) (lM k2) ∧ Q (setI (setR s k2 (upd (gR s k2) (gI s x0 31).toNatClampNeg x2)) x0 31 ((gI (setR s k2 (upd (gR s k2) (gI s x0 31).toNatClampNeg x2)) x0 31) + 1))) ∧ (¬ (gI s x0 20) ≤ x4 → ∃ k6, tM x0 21 = some k6 ∧ kM k6 = 7 ∧ vp_in x4 (lM k6) ∧ p_X6_hemNow x0 (gR s k6 x4.toNatClampNeg) x4 x2 s (fun r11 s10 => ∃ k12, tM x0 33 = some k12 ∧ kM k12 = 7 ∧ vp_in ((6 * (gI s x0 31)) + x4) (lM k12) ∧ ∃ k16, tM x0 27 = some k16 ∧ kM k16 = 7 ∧ vp_in x4 (lM k16) ∧ ∃ k20, tM x0 29 = some k20 ∧ kM k20 = 7 ∧ vp_in (gR (setR s10 k12 (upd (gR s10 k12) ((6 * (gI s x0 31)) + x4).toNatClampNeg r11)) k16 x4.toNatClampNeg) (lM k20) ∧ ∃ k24, tM x0 34 = some k24 ∧ kM k24 = 7 ∧ vp_in ((6 * (gI s x0 31)) + x4) (lM k24) ∧ ∃ k28, tM x0 28 = some k28 ∧ kM k28 = 7 ∧ vp_in x4 (lM k28) ∧ ∃ k32, tM x0 35 = some k32 ∧ kM k32 = 7 ∧ vp_in ((6 * (gI s x0 31)) + x4) (lM k32) ∧ p_X6_happen_L31 Q  n x0 x2 (x4 + 1) (setR (setR (setR s10 k12 (upd (gR s10 k12) ((6 * (gI s x0 31)) + x4).toNatClampNeg r11)) k24 (upd (gR (setR s10 k12 (upd (gR s10 k12) ((6 * (gI s x0 31)) + x4).toNatClampNeg r11)) k24) ((6 * (gI s x0 31)) + x4).toNatClampNeg (gR (setR s10 k12 (upd (gR s10 k12) ((6 * (gI s x0 31)) + x4).toNatClampNeg r11)) k20 (gR (setR s10 k12 (upd (gR s10 k12) ((6 * (gI s x0 31)) + x4).toNatClampNeg r11)) k16 x4.toNatClampNeg).toNatClampNeg))) k32 (upd (gR (setR (setR s10 k12 (upd (gR s10 k12) ((6 * (gI s x0 31)) + x4).toNatClampNeg r11)) k24 (upd (gR (setR s10 k12 (upd (gR s10 k12) ((6 * (gI s x0 31)) + x4).toNatClampNeg r11)) k24) ((6 * (gI s x0 31)) + x4).toNatClampNeg (gR (setR s10 k12 (upd (gR s10 k12) ((6 * (gI s x0 31)) + x4).toNatClampNeg r11)) k20 (gR (setR s10 k12 (upd (gR s10 k12) ((6 * (gI s x0 31)) + x4).toNatClampNeg r11)) k16 x4.toNatClampNeg).toNatClampNeg))) k32) ((6 * (gI s x0 31)) + x4).toNatClampNeg (gR (setR (setR s10 k12 (upd (gR s10 k12) ((6 * (gI s x0 31)) + x4).toNatClampNeg r11)) k24 (upd (gR (setR s10 k12 (upd (gR s10 k12) ((6 * (gI s x0 31)) + x4).toNatClampNeg r11)) k24) ((6 * (gI s x0 31)) + x4).toNatClampNeg (gR (setR s10 k12 (upd (gR s10 k12) ((6 * (gI s x0 31)) + x4).toNatClampNeg r11)) k20 (gR (setR s10 k12 (upd (gR s10 k12) ((6 * (gI s x0 31)) + x4).toNatClampNeg r11)) k16 x4.toNatClampNeg).toNatClampNeg))) k28 x4.toNatClampNeg))))))
def p_X6_happen (x0 : Nat) (x1 : Int32) (x2 : Int32) (x3 : Int32) (s : Sg) (Q : Sg → Prop) : Prop := ((x1 = 0 → (∃ n3, p_X6_happen_L31 Q  n3 x0 x2 0 s)) ∧ (¬ x1 = 0 → ((x1 = 1 → ∃ k5, tM x0 27 = some k5 ∧ kM k5 = 7 ∧ vp_in x2 (lM k5) ∧ Q (setR s k5 (upd (gR s k5) x2.toNatClampNeg x3))) ∧ (¬ x1 = 1 → ((x1 = 2 → ∃ k10, tM x0 29 = some k10 ∧ kM k10 = 7 ∧ vp_in x2 (lM k10) ∧ ∃ k14, tM x0 29 = some k14 ∧ kM k14 = 7 ∧ vp_in x2 (lM k14) ∧ Q (setI (setR s k14 (upd (gR s k14) x2.toNatClampNeg ((gR s k10 x2.toNatClampNeg) + 1))) x0 30 ((gI (setR s k14 (upd (gR s k14) x2.toNatClampNeg ((gR s k10 x2.toNatClampNeg) + 1))) x0 30) - 1))) ∧ (¬ x1 = 2 → ∃ k18, tM x0 28 = some k18 ∧ kM k18 = 7 ∧ vp_in x2 (lM k18) ∧ ∃ k22, tM x0 28 = some k22 ∧ kM k22 = 7 ∧ vp_in x2 (lM k22) ∧ Q (setR s k22 (upd (gR s k22) x2.toNatClampNeg ((gR s k18 x2.toNatClampNeg) + 1)))))))))
set_option maxHeartbeats 4000000 in
set_option maxRecDepth 100000 in
theorem c_X6_happen (l : Launch) (D : va_G) (cs : Cs) (ad : Nat → Nat) (x0 : Nat) (x1 : Int32) (x2 : Int32) (x3 : Int32) (s0 : Sg) (Q : Sg → Prop) (hk0 : kM x0 = 5) : Met l yX6_happen wsX6_happen { frames := 3, cells := 0, slots := 0, locals := 71 } (Pc0 bM D cs ad [.ref (ad x0), .int x1, .int x2, .int x3] s0 (p_X6_happen x0 x1 x2 x3 s0 Q)) (QV bM D cs ad Q) 0 0 (fAd bM ad) := by
  refine Met.ofW (cc := cX6_happen) (maxL := 6) (ret := none) (by decide) rfl ?_
  intro p e s m args below meth c s₁ B0 hml hv
  obtain ⟨ha, hP, hE, h⟩ := hv
  have hx := B0.exec
  have hb := B0.bytes
  have hr := B0.returns
  have hts := atoms_spec (ws := wsX6_happen) B0.pre
  have hown : s.vm.findClass RX6 = some m.cls := findClass_of_methodNamed B0.named
  have hlocks := B0.notSynchronized
  have hi_X6 : ∀ w ∈ u_ws RX6 TX6 42, w ∈ wsX6_happen := by decide +kernel
  have hS : va_S (fAd bM ad) s.heap s.heap [] := va_S.rf
  have hl := lv_entry ([.ref (ad x0), .int x1, .int x2, .int x3]) (n := 6) (by first | exact Nat.le_of_ble_eq_true rfl | simp [lg_sl, re_cat, cat_i, cat_l, cat_r])
  rw [show entryFrame m args 6 = entryFrame m ([.ref (ad x0), .int x1, .int x2, .int x3] : List Value).toArray 6 by rw [ha], lg_entry_eq]
  generalize (lg_sl ([.ref (ad x0), .int x1, .int x2, .int x3]) ++ List.replicate (6 - (lg_sl ([.ref (ad x0), .int x1, .int x2, .int x3])).length) Slot.unset).toArray = ls at hl ⊢
  have hl : lv_has ls 6 [(0, .ref (ad x0)), (1, .int x1), (2, .int x2), (3, .int x3)] := by first | exact hl | simpa [lv_args, re_cat, cat_i, cat_l, cat_r] using hl
  have hB31 : ∀ (n31 : Nat) (x2 : Int32) (x4 : Int32) (σ : Sg) (H : Heap) (locs : List Loc) (ls : Array Slot), p_X6_happen_L31 Q  n31 x0 x2 x4 σ → va_P D vwCl (wl bM cs ad σ) H → va_S (fAd bM ad) s.heap H locs → lv_has ls 6 [(0, .ref (ad x0)), (2, .int x2), (4, .int x4)] → W p l e { frames := 3, cells := 0, slots := 0, locals := 71 } s m args below meth c H locs 0 0 (MQ below (QV bM D cs ad Q) args s 0 0 (fAd bM ad)) (F0 m 31 ls []) := by
    intro n31
    induction n31 with
    | zero =>
      intro x2 x4 σ H locs ls h
      exact h.elim
    | succ n31 ih =>
      have hK31 := ih
      intro x2 x4 σ H locs ls h hP hS hl
      rw [p_X6_happen_L31] at h
      refine lv_iload hx hb dX6_happen_31 (lv_at hl 2 rfl) ?_
      refine lv_aload_n hx hb dX6_happen_33 rfl (lv_at hl 0 rfl) ?_
      refine va_get (ci := 5) (v := .int (gI σ x0 20)) (C := RX6) (T := TX6) (N := 42) hx hb hts hi_X6 hown hE.1 hP x0 (w_5 hE hk0) rfl 20 (by decide) (hts (.fieldLink RX6 167 "HemLineModel" "women" "I") (by decide +kernel)) (fun _ h9 => h9) rfl dX6_happen_34 ?_
      refine lv_icmp_ge (tgt := 112) hx hb dX6_happen_37 (by decide) (fun c1 => ?_) (fun c1 => ?_)
      · replace h := h.1 c1
        refine lv_aload_n hx hb dX6_happen_112 rfl (lv_at hl 0 rfl) ?_
        refine va_get (ci := 5) (v := va_re ad (tM x0 32)) (C := RX6) (T := TX6) (N := 42) hx hb hts hi_X6 hown hE.1 hP x0 (w_5 hE hk0) rfl 32 (by decide) (hts (.fieldLink RX6 68 "HemLineModel" "floods" "[I") (by decide +kernel)) (fun _ h9 => h9) rfl dX6_happen_113 ?_
        refine lv_aload_n hx hb dX6_happen_116 rfl (lv_at hl 0 rfl) ?_
        refine va_get (ci := 5) (v := .int (gI σ x0 31)) (C := RX6) (T := TX6) (N := 42) hx hb hts hi_X6 hown hE.1 hP x0 (w_5 hE hk0) rfl 31 (by decide) (hts (.fieldLink RX6 185 "HemLineModel" "years" "I") (by decide +kernel)) (fun _ h9 => h9) rfl dX6_happen_117 ?_
        refine lv_iload_n hx hb dX6_happen_120 rfl (lv_at hl 1 rfl) ?_
        obtain ⟨k2, e3, q4, i5, h⟩ := h
        refine r_iast hx hb hE hP hS e3 q4 i5 dX6_happen_121 (fun H locs hP hS => ?_)
        refine lv_aload_n hx hb dX6_happen_122 rfl (lv_at hl 0 rfl) ?_
        refine lv_dup hx hb dX6_happen_123 (by first | rfl | exact re_cat _ _) ?_
        refine va_get (ci := 5) (v := .int (gI (setR σ k2 (upd (gR σ k2) (gI σ x0 31).toNatClampNeg x2)) x0 31)) (C := RX6) (T := TX6) (N := 42) hx hb hts hi_X6 hown hE.1 hP x0 (w_5 hE hk0) rfl 31 (by decide) (hts (.fieldLink RX6 185 "HemLineModel" "years" "I") (by decide +kernel)) (fun _ h9 => h9) rfl dX6_happen_124 ?_
        refine lv_iconst (v := 1) hx hb dX6_happen_127 (by decide) ?_
        refine lv_iadd hx hb dX6_happen_128 ?_
        refine r_put (σ' := (setI (setR σ k2 (upd (gR σ k2) (gI σ x0 31).toNatClampNeg x2)) x0 31 ((gI (setR σ k2 (upd (gR σ k2) (gI σ x0 31).toNatClampNeg x2)) x0 31) + 1))) (ci := 5) (v := .int ((gI (setR σ k2 (upd (gR σ k2) (gI σ x0 31).toNatClampNeg x2)) x0 31) + 1)) (ty := .int) (C := RX6) (T := TX6) (N := 42) hx hb hts hi_X6 tyX6 tyX6_ok nmX6 hown hE hP hS x0 (w_5 hE hk0) rfl 31 (by decide) (hts (.fieldLink RX6 185 "HemLineModel" "years" "I") (by decide +kernel)) (fun _ h9 => h9) rfl (by decide +kernel) rfl rfl (Nat.le_of_ble_eq_true rfl) dX6_happen_129 (st_5_31 hE hk0 _) (fun H locs hP hS => ?_)
        refine lv_goto (tgt := 178) hx hb dX6_happen_132 (by decide) ?_
        exact W.vret hx hb hr (fun t ht hW => ⟨⟨_, rfl, h, pw ht hP⟩, hS.F ht⟩) hS.2.2 dX6_happen_178
      · replace h := h.2 c1
        refine lv_bipush (v := 6) hx hb dX6_happen_40 (by decide) ?_
        refine lv_aload_n hx hb dX6_happen_42 rfl (lv_at hl 0 rfl) ?_
        refine va_get (ci := 5) (v := .int (gI σ x0 31)) (C := RX6) (T := TX6) (N := 42) hx hb hts hi_X6 hown hE.1 hP x0 (w_5 hE hk0) rfl 31 (by decide) (hts (.fieldLink RX6 185 "HemLineModel" "years" "I") (by decide +kernel)) (fun _ h9 => h9) rfl dX6_happen_43 ?_
        refine lv_imul hx hb dX6_happen_46 ?_
        refine lv_iload hx hb dX6_happen_47 (lv_at hl 2 rfl) ?_
        refine lv_iadd hx hb dX6_happen_49 ?_
        refine lv_istore (i := 5) (lv' := [(5, .int ((6 * (gI σ x0 31)) + x4)), (0, .ref (ad x0)), (2, .int x2), (4, .int x4)]) hx hb dX6_happen_50 hl (by decide) (by first | rfl | simp [re_cat, cat_i, cat_l, cat_r]) (fun ls hl => ?_)
        refine lv_aload_n hx hb dX6_happen_52 rfl (lv_at hl 1 rfl) ?_
        refine va_get (ci := 5) (v := va_re ad (tM x0 33)) (C := RX6) (T := TX6) (N := 42) hx hb hts hi_X6 hown hE.1 hP x0 (w_5 hE hk0) rfl 33 (by decide) (hts (.fieldLink RX6 71 "HemLineModel" "hems" "[I") (by decide +kernel)) (fun _ h9 => h9) rfl dX6_happen_53 ?_
        refine lv_iload hx hb dX6_happen_56 (lv_at hl 0 rfl) ?_
        refine lv_aload_n hx hb dX6_happen_58 rfl (lv_at hl 1 rfl) ?_
        refine lv_aload_n hx hb dX6_happen_59 rfl (lv_at hl 1 rfl) ?_
        refine va_get (ci := 5) (v := va_re ad (tM x0 21)) (C := RX6) (T := TX6) (N := 42) hx hb hts hi_X6 hown hE.1 hP x0 (w_5 hE hk0) rfl 21 (by decide) (hts (.fieldLink RX6 44 "HemLineModel" "kind" "[I") (by decide +kernel)) (fun _ h9 => h9) rfl dX6_happen_60 ?_
        refine lv_iload hx hb dX6_happen_63 (lv_at hl 3 rfl) ?_
        obtain ⟨k6, e7, q8, i9, h⟩ := h
        refine r_iald hx hb hE hP e7 q8 i9 dX6_happen_65 ?_
        refine lv_iload hx hb dX6_happen_66 (lv_at hl 3 rfl) ?_
        refine lv_iload_n hx hb dX6_happen_68 rfl (lv_at hl 2 rfl) ?_
        refine f_i (kV (As := [.int (gR σ k6 x4.toNatClampNeg), .int x4, .int x2]) (rest := [.int ((6 * (gI σ x0 31)) + x4), va_re ad (tM x0 33)]) (o := some x0) rfl ⟨hx, hb, hml, hown, hts⟩ (c_X6_hemNow l D cs ad x0 (gR σ k6 x4.toNatClampNeg) x4 x2 σ _ hk0) (cwV 3 hts gX6_happen_X6_hemNow rfl rfl rfl (by decide +kernel) ⟨Nat.le_of_ble_eq_true rfl, Nat.le_of_ble_eq_true rfl⟩) hE hP rfl rfl (w_5 hE hk0) h rfl hl.1 rfl (by first | exact lv_room (Nat.le_of_ble_eq_true rfl) | (refine lv_room ?_; simp [re_cat, cat_i, cat_l, cat_r])) dX6_happen_69 ⟨Nat.le_refl _, Nat.le_refl _⟩) hS (fun r11 s10 H locs h hP hS => ?_)
        obtain ⟨k12, e13, q14, i15, h⟩ := h
        refine r_iast hx hb hE hP hS e13 q14 i15 dX6_happen_72 (fun H locs hP hS => ?_)
        refine lv_aload_n hx hb dX6_happen_73 rfl (lv_at hl 1 rfl) ?_
        refine va_get (ci := 5) (v := va_re ad (tM x0 34)) (C := RX6) (T := TX6) (N := 42) hx hb hts hi_X6 hown hE.1 hP x0 (w_5 hE hk0) rfl 34 (by decide) (hts (.fieldLink RX6 74 "HemLineModel" "thenGround" "[I") (by decide +kernel)) (fun _ h9 => h9) rfl dX6_happen_74 ?_
        refine lv_iload hx hb dX6_happen_77 (lv_at hl 0 rfl) ?_
        refine lv_aload_n hx hb dX6_happen_79 rfl (lv_at hl 1 rfl) ?_
        refine va_get (ci := 5) (v := va_re ad (tM x0 29)) (C := RX6) (T := TX6) (N := 42) hx hb hts hi_X6 hown hE.1 hP x0 (w_5 hE hk0) rfl 29 (by decide) (hts (.fieldLink RX6 65 "HemLineModel" "ground" "[I") (by decide +kernel)) (fun _ h9 => h9) rfl dX6_happen_80 ?_
        refine lv_aload_n hx hb dX6_happen_83 rfl (lv_at hl 1 rfl) ?_
        refine va_get (ci := 5) (v := va_re ad (tM x0 27)) (C := RX6) (T := TX6) (N := 42) hx hb hts hi_X6 hown hE.1 hP x0 (w_5 hE hk0) rfl 27 (by decide) (hts (.fieldLink RX6 59 "HemLineModel" "lives" "[I") (by decide +kernel)) (fun _ h9 => h9) rfl dX6_happen_84 ?_
        refine lv_iload hx hb dX6_happen_87 (lv_at hl 3 rfl) ?_
        obtain ⟨k16, e17, q18, i19, h⟩ := h
        refine r_iald hx hb hE hP e17 q18 i19 dX6_happen_89 ?_
        obtain ⟨k20, e21, q22, i23, h⟩ := h
        refine r_iald hx hb hE hP e21 q22 i23 dX6_happen_90 ?_
        obtain ⟨k24, e25, q26, i27, h⟩ := h
        refine r_iast hx hb hE hP hS e25 q26 i27 dX6_happen_91 (fun H locs hP hS => ?_)
        refine lv_aload_n hx hb dX6_happen_92 rfl (lv_at hl 1 rfl) ?_
        refine va_get (ci := 5) (v := va_re ad (tM x0 35)) (C := RX6) (T := TX6) (N := 42) hx hb hts hi_X6 hown hE.1 hP x0 (w_5 hE hk0) rfl 35 (by decide) (hts (.fieldLink RX6 77 "HemLineModel" "thenTuck" "[I") (by decide +kernel)) (fun _ h9 => h9) rfl dX6_happen_93 ?_
        refine lv_iload hx hb dX6_happen_96 (lv_at hl 0 rfl) ?_
        refine lv_aload_n hx hb dX6_happen_98 rfl (lv_at hl 1 rfl) ?_
        refine va_get (ci := 5) (v := va_re ad (tM x0 28)) (C := RX6) (T := TX6) (N := 42) hx hb hts hi_X6 hown hE.1 hP x0 (w_5 hE hk0) rfl 28 (by decide) (hts (.fieldLink RX6 62 "HemLineModel" "tuck" "[I") (by decide +kernel)) (fun _ h9 => h9) rfl dX6_happen_99 ?_
        refine lv_iload hx hb dX6_happen_102 (lv_at hl 3 rfl) ?_
        obtain ⟨k28, e29, q30, i31, h⟩ := h
        refine r_iald hx hb hE hP e29 q30 i31 dX6_happen_104 ?_
        obtain ⟨k32, e33, q34, i35, h⟩ := h
        refine r_iast hx hb hE hP hS e33 q34 i35 dX6_happen_105 (fun H locs hP hS => ?_)
        refine lv_iinc (v := x4 + 1) (lv' := [(4, .int (x4 + 1)), (5, .int ((6 * (gI σ x0 31)) + x4)), (0, .ref (ad x0)), (2, .int x2)]) hx hb dX6_happen_106 hl (k := 3) rfl rfl (by decide) (by first | rfl | simp [re_cat, cat_i, cat_l, cat_r]) (fun ls hl => ?_)
        refine lv_goto (tgt := 31) hx hb dX6_happen_109 (by decide) ?_
        exact ih x2 (x4 + 1) (setR (setR (setR s10 k12 (upd (gR s10 k12) ((6 * (gI σ x0 31)) + x4).toNatClampNeg r11)) k24 (upd (gR (setR s10 k12 (upd (gR s10 k12) ((6 * (gI σ x0 31)) + x4).toNatClampNeg r11)) k24) ((6 * (gI σ x0 31)) + x4).toNatClampNeg (gR (setR s10 k12 (upd (gR s10 k12) ((6 * (gI σ x0 31)) + x4).toNatClampNeg r11)) k20 (gR (setR s10 k12 (upd (gR s10 k12) ((6 * (gI σ x0 31)) + x4).toNatClampNeg r11)) k16 x4.toNatClampNeg).toNatClampNeg))) k32 (upd (gR (setR (setR s10 k12 (upd (gR s10 k12) ((6 * (gI σ x0 31)) + x4).toNatClampNeg r11)) k24 (upd (gR (setR s10 k12 (upd (gR s10 k12) ((6 * (gI σ x0 31)) + x4).toNatClampNeg r11)) k24) ((6 * (gI σ x0 31)) + x4).toNatClampNeg (gR (setR s10 k12 (upd (gR s10 k12) ((6 * (gI σ x0 31)) + x4).toNatClampNeg r11)) k20 (gR (setR s10 k12 (upd (gR s10 k12) ((6 * (gI σ x0 31)) + x4).toNatClampNeg r11)) k16 x4.toNatClampNeg).toNatClampNeg))) k32) ((6 * (gI σ x0 31)) + x4).toNatClampNeg (gR (setR (setR s10 k12 (upd (gR s10 k12) ((6 * (gI σ x0 31)) + x4).toNatClampNeg r11)) k24 (upd (gR (setR s10 k12 (upd (gR s10 k12) ((6 * (gI σ x0 31)) + x4).toNatClampNeg r11)) k24) ((6 * (gI σ x0 31)) + x4).toNatClampNeg (gR (setR s10 k12 (upd (gR s10 k12) ((6 * (gI σ x0 31)) + x4).toNatClampNeg r11)) k20 (gR (setR s10 k12 (upd (gR s10 k12) ((6 * (gI σ x0 31)) + x4).toNatClampNeg r11)) k16 x4.toNatClampNeg).toNatClampNeg))) k28 x4.toNatClampNeg))) H locs ls h hP hS (lv_sub hl [2, 3, 0] rfl)
  unfold p_X6_happen at h
  refine lv_iload_n hx hb dX6_happen_0 rfl (lv_at hl 1 rfl) ?_
  by_cases c2 : x1 = 0
  · replace h := h.1 c2
    refine lv_tableIn (off := 27) (tgt := 28) hx hb dX6_happen_1 (by rw [c2]; decide) (by rw [c2]; decide) (by rw [c2]; decide) (by decide) ?_
    refine lv_iconst (v := 0) hx hb dX6_happen_28 (by decide) ?_
    refine lv_istore (i := 4) (lv' := [(4, .int 0), (0, .ref (ad x0)), (1, .int x1), (2, .int x2), (3, .int x3)]) hx hb dX6_happen_29 hl (by decide) (by first | rfl | simp [re_cat, cat_i, cat_l, cat_r]) (fun ls hl => ?_)
    obtain ⟨n3, h⟩ := h
    exact hB31 n3 x2 0 s0 _ _ ls h hP hS (lv_sub hl [1, 3, 0] rfl)
  replace h := h.2 c2
  by_cases c4 : x1 = 1
  · replace h := h.1 c4
    refine lv_tableIn (off := 134) (tgt := 135) hx hb dX6_happen_1 (by rw [c4]; decide) (by rw [c4]; decide) (by rw [c4]; decide) (by decide) ?_
    refine lv_aload_n hx hb dX6_happen_135 rfl (lv_at hl 0 rfl) ?_
    refine va_get (ci := 5) (v := va_re ad (tM x0 27)) (C := RX6) (T := TX6) (N := 42) hx hb hts hi_X6 hown hE.1 hP x0 (w_5 hE hk0) rfl 27 (by decide) (hts (.fieldLink RX6 59 "HemLineModel" "lives" "[I") (by decide +kernel)) (fun _ h9 => h9) rfl dX6_happen_136 ?_
    refine lv_iload_n hx hb dX6_happen_139 rfl (lv_at hl 2 rfl) ?_
    refine lv_iload_n hx hb dX6_happen_140 rfl (lv_at hl 3 rfl) ?_
    obtain ⟨k5, e6, q7, i8, h⟩ := h
    refine r_iast hx hb hE hP hS e6 q7 i8 dX6_happen_141 (fun H locs hP hS => ?_)
    refine lv_goto (tgt := 178) hx hb dX6_happen_142 (by decide) ?_
    exact W.vret hx hb hr (fun t ht hW => ⟨⟨_, rfl, h, pw ht hP⟩, hS.F ht⟩) hS.2.2 dX6_happen_178
  replace h := h.2 c4
  by_cases c9 : x1 = 2
  · replace h := h.1 c9
    refine lv_tableIn (off := 144) (tgt := 145) hx hb dX6_happen_1 (by rw [c9]; decide) (by rw [c9]; decide) (by rw [c9]; decide) (by decide) ?_
    refine lv_aload_n hx hb dX6_happen_145 rfl (lv_at hl 0 rfl) ?_
    refine va_get (ci := 5) (v := va_re ad (tM x0 29)) (C := RX6) (T := TX6) (N := 42) hx hb hts hi_X6 hown hE.1 hP x0 (w_5 hE hk0) rfl 29 (by decide) (hts (.fieldLink RX6 65 "HemLineModel" "ground" "[I") (by decide +kernel)) (fun _ h9 => h9) rfl dX6_happen_146 ?_
    refine lv_iload_n hx hb dX6_happen_149 rfl (lv_at hl 2 rfl) ?_
    refine lv_dup2_11 hx hb dX6_happen_150 (by first | rfl | exact re_cat _ _) (by first | rfl | exact re_cat _ _) ?_
    obtain ⟨k10, e11, q12, i13, h⟩ := h
    refine r_iald hx hb hE hP e11 q12 i13 dX6_happen_151 ?_
    refine lv_iconst (v := 1) hx hb dX6_happen_152 (by decide) ?_
    refine lv_iadd hx hb dX6_happen_153 ?_
    obtain ⟨k14, e15, q16, i17, h⟩ := h
    refine r_iast hx hb hE hP hS e15 q16 i17 dX6_happen_154 (fun H locs hP hS => ?_)
    refine lv_aload_n hx hb dX6_happen_155 rfl (lv_at hl 0 rfl) ?_
    refine lv_dup hx hb dX6_happen_156 (by first | rfl | exact re_cat _ _) ?_
    refine va_get (ci := 5) (v := .int (gI (setR s0 k14 (upd (gR s0 k14) x2.toNatClampNeg ((gR s0 k10 x2.toNatClampNeg) + 1))) x0 30)) (C := RX6) (T := TX6) (N := 42) hx hb hts hi_X6 hown hE.1 hP x0 (w_5 hE hk0) rfl 30 (by decide) (hts (.fieldLink RX6 196 "HemLineModel" "earth" "I") (by decide +kernel)) (fun _ h9 => h9) rfl dX6_happen_157 ?_
    refine lv_iconst (v := 1) hx hb dX6_happen_160 (by decide) ?_
    refine lv_isub hx hb dX6_happen_161 ?_
    refine r_put (σ' := (setI (setR s0 k14 (upd (gR s0 k14) x2.toNatClampNeg ((gR s0 k10 x2.toNatClampNeg) + 1))) x0 30 ((gI (setR s0 k14 (upd (gR s0 k14) x2.toNatClampNeg ((gR s0 k10 x2.toNatClampNeg) + 1))) x0 30) - 1))) (ci := 5) (v := .int ((gI (setR s0 k14 (upd (gR s0 k14) x2.toNatClampNeg ((gR s0 k10 x2.toNatClampNeg) + 1))) x0 30) - 1)) (ty := .int) (C := RX6) (T := TX6) (N := 42) hx hb hts hi_X6 tyX6 tyX6_ok nmX6 hown hE hP hS x0 (w_5 hE hk0) rfl 30 (by decide) (hts (.fieldLink RX6 196 "HemLineModel" "earth" "I") (by decide +kernel)) (fun _ h9 => h9) rfl (by decide +kernel) rfl rfl (Nat.le_of_ble_eq_true rfl) dX6_happen_162 (st_5_30 hE hk0 _) (fun H locs hP hS => ?_)
    refine lv_goto (tgt := 178) hx hb dX6_happen_165 (by decide) ?_
    exact W.vret hx hb hr (fun t ht hW => ⟨⟨_, rfl, h, pw ht hP⟩, hS.F ht⟩) hS.2.2 dX6_happen_178
  replace h := h.2 c9
  refine lv_tableOut (tgt := 168) hx hb dX6_happen_1 (by have := ne_toInt (n := 0) c2 (by decide); have := ne_toInt (n := 1) c4 (by decide); have := ne_toInt (n := 2) c9 (by decide); omega) (by decide) ?_
  refine lv_aload_n hx hb dX6_happen_168 rfl (lv_at hl 0 rfl) ?_
  refine va_get (ci := 5) (v := va_re ad (tM x0 28)) (C := RX6) (T := TX6) (N := 42) hx hb hts hi_X6 hown hE.1 hP x0 (w_5 hE hk0) rfl 28 (by decide) (hts (.fieldLink RX6 62 "HemLineModel" "tuck" "[I") (by decide +kernel)) (fun _ h9 => h9) rfl dX6_happen_169 ?_
  refine lv_iload_n hx hb dX6_happen_172 rfl (lv_at hl 2 rfl) ?_
  refine lv_dup2_11 hx hb dX6_happen_173 (by first | rfl | exact re_cat _ _) (by first | rfl | exact re_cat _ _) ?_
  obtain ⟨k18, e19, q20, i21, h⟩ := h
  refine r_iald hx hb hE hP e19 q20 i21 dX6_happen_174 ?_
  refine lv_iconst (v := 1) hx hb dX6_happen_175 (by decide) ?_
  refine lv_iadd hx hb dX6_happen_176 ?_
  obtain ⟨k22, e23, q24, i25, h⟩ := h
  refine r_iast hx hb hE hP hS e23 q24 i25 dX6_happen_177 (fun H locs hP hS => ?_)
  exact W.vret hx hb hr (fun t ht hW => ⟨⟨_, rfl, h, pw ht hP⟩, hS.F ht⟩) hS.2.2 dX6_happen_178
def p_X6_goThrough_L65 (Q : Sg → Prop)  : Nat → Nat → Int32 → Sg → Prop
  | 0, _, _, _ => False
  | n + 1, x0, x1, s => (((gI s x0 36) ≤ x1 → Q s) ∧ (¬ (gI s x0 36) ≤ x1 → ∃ k2, tM x0 37 = some k2 ∧ kM k2 = 7 ∧ vp_in (3 * x1) (lM k2) ∧ ∃ k6, tM x0 37 = some k6 ∧ kM k6 = 7 ∧ vp_in ((3 * x1) + 1) (lM k6) ∧ ∃ k10, tM x0 37 = some k10 ∧ kM k10 = 7 ∧ vp_in ((3 * x1) + 2) (lM k10) ∧ p_X6_happen x0 (gR s k2 (3 * x1).toNatClampNeg) (gR s k6 ((3 * x1) + 1).toNatClampNeg) (gR s k10 ((3 * x1) + 2).toNatClampNeg) s (fun s14 => p_X6_goThrough_L65 Q  n x0 (x1 + 1) s14)))
def p_X6_goThrough_L2 (Q : Sg → Prop)  : Nat → Nat → Int32 → Sg → Prop
  | 0, _, _, _ => False
  | n + 1, x0, x1, s => ((6 ≤ x1 → (∃ n2, p_X6_goThrough_L65 Q  n2 x0 0 (setI (setI s x0 30 (gI s x0 26)) x0 31 0))) ∧ (¬ 6 ≤ x1 → ∃ k3, tM x0 23 = some k3 ∧ kM k3 = 7 ∧ vp_in x1 (lM k3) ∧ ∃ k7, tM x0 27 = some k7 ∧ kM k7 = 7 ∧ vp_in x1 (lM k7) ∧ ∃ k11, tM x0 24 = some k11 ∧ kM k11 = 7 ∧ vp_in x1 (lM k11) ∧ ∃ k15, tM x0 28 = some k15 ∧ kM k15 = 7 ∧ vp_in x1 (lM k15) ∧ ∃ k19, tM x0 25 = some k19 ∧ kM k19 = 7 ∧ vp_in x1 (lM k19) ∧ ∃ k23, tM x0 29 = some k23 ∧ kM k23 = 7 ∧ vp_in x1 (lM k23) ∧ p_X6_goThrough_L2 Q  n x0 (x1 + 1) (setR (setR (setR s k7 (upd (gR s k7) x1.toNatClampNeg (gR s k3 x1.toNatClampNeg))) k15 (upd (gR (setR s k7 (upd (gR s k7) x1.toNatClampNeg (gR s k3 x1.toNatClampNeg))) k15) x1.toNatClampNeg (gR (setR s k7 (upd (gR s k7) x1.toNatClampNeg (gR s k3 x1.toNatClampNeg))) k11 x1.toNatClampNeg))) k23 (upd (gR (setR (setR s k7 (upd (gR s k7) x1.toNatClampNeg (gR s k3 x1.toNatClampNeg))) k15 (upd (gR (setR s k7 (upd (gR s k7) x1.toNatClampNeg (gR s k3 x1.toNatClampNeg))) k15) x1.toNatClampNeg (gR (setR s k7 (upd (gR s k7) x1.toNatClampNeg (gR s k3 x1.toNatClampNeg))) k11 x1.toNatClampNeg))) k23) x1.toNatClampNeg (gR (setR (setR s k7 (upd (gR s k7) x1.toNatClampNeg (gR s k3 x1.toNatClampNeg))) k15 (upd (gR (setR s k7 (upd (gR s k7) x1.toNatClampNeg (gR s k3 x1.toNatClampNeg))) k15) x1.toNatClampNeg (gR (setR s k7 (upd (gR s k7) x1.toNatClampNeg (gR s k3 x1.toNatClampNeg))) k11 x1.toNatClampNeg))) k19 x1.toNatClampNeg)))))
def p_X6_goThrough (x0 : Nat) (s : Sg) (Q : Sg → Prop) : Prop := (∃ n1, p_X6_goThrough_L2 Q  n1 x0 0 s)
set_option maxHeartbeats 4000000 in
set_option maxRecDepth 100000 in
theorem c_X6_goThrough (l : Launch) (D : va_G) (cs : Cs) (ad : Nat → Nat) (x0 : Nat) (s0 : Sg) (Q : Sg → Prop) (hk0 : kM x0 = 5) : Met l yX6_goThrough wsX6_goThrough { frames := 4, cells := 0, slots := 0, locals := 96 } (Pc0 bM D cs ad [.ref (ad x0)] s0 (p_X6_goThrough x0 s0 Q)) (QV bM D cs ad Q) 0 0 (fAd bM ad) := by
  refine Met.ofW (cc := cX6_goThrough) (maxL := 2) (ret := none) (by decide) rfl ?_
  intro p e s m args below meth c s₁ B0 hml hv
  obtain ⟨ha, hP, hE, h⟩ := hv
  have hx := B0.exec
  have hb := B0.bytes
  have hr := B0.returns
  have hts := atoms_spec (ws := wsX6_goThrough) B0.pre
  have hown : s.vm.findClass RX6 = some m.cls := findClass_of_methodNamed B0.named
  have hlocks := B0.notSynchronized
  have hi_X6 : ∀ w ∈ u_ws RX6 TX6 42, w ∈ wsX6_goThrough := by decide +kernel
  have hS : va_S (fAd bM ad) s.heap s.heap [] := va_S.rf
  have hl := lv_entry ([.ref (ad x0)]) (n := 2) (by first | exact Nat.le_of_ble_eq_true rfl | simp [lg_sl, re_cat, cat_i, cat_l, cat_r])
  rw [show entryFrame m args 2 = entryFrame m ([.ref (ad x0)] : List Value).toArray 2 by rw [ha], lg_entry_eq]
  generalize (lg_sl ([.ref (ad x0)]) ++ List.replicate (2 - (lg_sl ([.ref (ad x0)])).length) Slot.unset).toArray = ls at hl ⊢
  have hl : lv_has ls 2 [(0, .ref (ad x0))] := by first | exact hl | simpa [lv_args, re_cat, cat_i, cat_l, cat_r] using hl
  have hB65 : ∀ (n65 : Nat) (x1 : Int32) (σ : Sg) (H : Heap) (locs : List Loc) (ls : Array Slot), p_X6_goThrough_L65 Q  n65 x0 x1 σ → va_P D vwCl (wl bM cs ad σ) H → va_S (fAd bM ad) s.heap H locs → lv_has ls 2 [(0, .ref (ad x0)), (1, .int x1)] → W p l e { frames := 4, cells := 0, slots := 0, locals := 96 } s m args below meth c H locs 0 0 (MQ below (QV bM D cs ad Q) args s 0 0 (fAd bM ad)) (F0 m 65 ls []) := by
    intro n65
    induction n65 with
    | zero =>
      intro x1 σ H locs ls h
      exact h.elim
    | succ n65 ih =>
      have hK65 := ih
      intro x1 σ H locs ls h hP hS hl
      rw [p_X6_goThrough_L65] at h
      refine lv_iload_n hx hb dX6_goThrough_65 rfl (lv_at hl 1 rfl) ?_
      refine lv_aload_n hx hb dX6_goThrough_66 rfl (lv_at hl 0 rfl) ?_
      refine va_get (ci := 5) (v := .int (gI σ x0 36)) (C := RX6) (T := TX6) (N := 42) hx hb hts hi_X6 hown hE.1 hP x0 (w_5 hE hk0) rfl 36 (by decide) (hts (.fieldLink RX6 173 "HemLineModel" "deeds" "I") (by decide +kernel)) (fun _ h9 => h9) rfl dX6_goThrough_67 ?_
      refine lv_icmp_ge (tgt := 111) hx hb dX6_goThrough_70 (by decide) (fun c1 => ?_) (fun c1 => ?_)
      · replace h := h.1 c1
        exact W.vret hx hb hr (fun t ht hW => ⟨⟨_, rfl, h, pw ht hP⟩, hS.F ht⟩) hS.2.2 dX6_goThrough_111
      · replace h := h.2 c1
        refine lv_aload_n hx hb dX6_goThrough_73 rfl (lv_at hl 0 rfl) ?_
        refine lv_aload_n hx hb dX6_goThrough_74 rfl (lv_at hl 0 rfl) ?_
        refine va_get (ci := 5) (v := va_re ad (tM x0 37)) (C := RX6) (T := TX6) (N := 42) hx hb hts hi_X6 hown hE.1 hP x0 (w_5 hE hk0) rfl 37 (by decide) (hts (.fieldLink RX6 80 "HemLineModel" "deed" "[I") (by decide +kernel)) (fun _ h9 => h9) rfl dX6_goThrough_75 ?_
        refine lv_iconst (v := 3) hx hb dX6_goThrough_78 (by decide) ?_
        refine lv_iload_n hx hb dX6_goThrough_79 rfl (lv_at hl 1 rfl) ?_
        refine lv_imul hx hb dX6_goThrough_80 ?_
        obtain ⟨k2, e3, q4, i5, h⟩ := h
        refine r_iald hx hb hE hP e3 q4 i5 dX6_goThrough_81 ?_
        refine lv_aload_n hx hb dX6_goThrough_82 rfl (lv_at hl 0 rfl) ?_
        refine va_get (ci := 5) (v := va_re ad (tM x0 37)) (C := RX6) (T := TX6) (N := 42) hx hb hts hi_X6 hown hE.1 hP x0 (w_5 hE hk0) rfl 37 (by decide) (hts (.fieldLink RX6 80 "HemLineModel" "deed" "[I") (by decide +kernel)) (fun _ h9 => h9) rfl dX6_goThrough_83 ?_
        refine lv_iconst (v := 3) hx hb dX6_goThrough_86 (by decide) ?_
        refine lv_iload_n hx hb dX6_goThrough_87 rfl (lv_at hl 1 rfl) ?_
        refine lv_imul hx hb dX6_goThrough_88 ?_
        refine lv_iconst (v := 1) hx hb dX6_goThrough_89 (by decide) ?_
        refine lv_iadd hx hb dX6_goThrough_90 ?_
        obtain ⟨k6, e7, q8, i9, h⟩ := h
        refine r_iald hx hb hE hP e7 q8 i9 dX6_goThrough_91 ?_
        refine lv_aload_n hx hb dX6_goThrough_92 rfl (lv_at hl 0 rfl) ?_
        refine va_get (ci := 5) (v := va_re ad (tM x0 37)) (C := RX6) (T := TX6) (N := 42) hx hb hts hi_X6 hown hE.1 hP x0 (w_5 hE hk0) rfl 37 (by decide) (hts (.fieldLink RX6 80 "HemLineModel" "deed" "[I") (by decide +kernel)) (fun _ h9 => h9) rfl dX6_goThrough_93 ?_
        refine lv_iconst (v := 3) hx hb dX6_goThrough_96 (by decide) ?_
        refine lv_iload_n hx hb dX6_goThrough_97 rfl (lv_at hl 1 rfl) ?_
        refine lv_imul hx hb dX6_goThrough_98 ?_
        refine lv_iconst (v := 2) hx hb dX6_goThrough_99 (by decide) ?_
        refine lv_iadd hx hb dX6_goThrough_100 ?_
        obtain ⟨k10, e11, q12, i13, h⟩ := h
        refine r_iald hx hb hE hP e11 q12 i13 dX6_goThrough_101 ?_
        refine f_v (kV (As := [.int (gR σ k2 (3 * x1).toNatClampNeg), .int (gR σ k6 ((3 * x1) + 1).toNatClampNeg), .int (gR σ k10 ((3 * x1) + 2).toNatClampNeg)]) (rest := []) (o := some x0) rfl ⟨hx, hb, hml, hown, hts⟩ (c_X6_happen l D cs ad x0 (gR σ k2 (3 * x1).toNatClampNeg) (gR σ k6 ((3 * x1) + 1).toNatClampNeg) (gR σ k10 ((3 * x1) + 2).toNatClampNeg) σ _ hk0) (cwV 3 hts gX6_goThrough_X6_happen rfl rfl rfl (by decide +kernel) ⟨Nat.le_of_ble_eq_true rfl, Nat.le_of_ble_eq_true rfl⟩) hE hP rfl rfl (w_5 hE hk0) h rfl hl.1 rfl (by first | exact lv_room (Nat.le_of_ble_eq_true rfl) | (refine lv_room ?_; simp [re_cat, cat_i, cat_l, cat_r])) dX6_goThrough_102 ⟨Nat.le_refl _, Nat.le_refl _⟩) hS (fun s14 H locs h hP hS => ?_)
        refine lv_iinc (v := x1 + 1) (lv' := [(1, .int (x1 + 1)), (0, .ref (ad x0))]) hx hb dX6_goThrough_105 hl (k := 1) rfl rfl (by decide) (by first | rfl | simp [re_cat, cat_i, cat_l, cat_r]) (fun ls hl => ?_)
        refine lv_goto (tgt := 65) hx hb dX6_goThrough_108 (by decide) ?_
        exact ih (x1 + 1) s14 H locs ls h hP hS (lv_sub hl [1, 0] rfl)
  have hB2 : ∀ (n2 : Nat) (x1 : Int32) (σ : Sg) (H : Heap) (locs : List Loc) (ls : Array Slot), p_X6_goThrough_L2 Q  n2 x0 x1 σ → va_P D vwCl (wl bM cs ad σ) H → va_S (fAd bM ad) s.heap H locs → lv_has ls 2 [(0, .ref (ad x0)), (1, .int x1)] → W p l e { frames := 4, cells := 0, slots := 0, locals := 96 } s m args below meth c H locs 0 0 (MQ below (QV bM D cs ad Q) args s 0 0 (fAd bM ad)) (F0 m 2 ls []) := by
    intro n2
    induction n2 with
    | zero =>
      intro x1 σ H locs ls h
      exact h.elim
    | succ n2 ih =>
      have hK2 := ih
      intro x1 σ H locs ls h hP hS hl
      rw [p_X6_goThrough_L2] at h
      refine lv_iload_n hx hb dX6_goThrough_2 rfl (lv_at hl 1 rfl) ?_
      refine lv_bipush (v := 6) hx hb dX6_goThrough_3 (by decide) ?_
      refine lv_icmp_ge (tgt := 50) hx hb dX6_goThrough_5 (by decide) (fun c1 => ?_) (fun c1 => ?_)
      · replace h := h.1 c1
        refine lv_aload_n hx hb dX6_goThrough_50 rfl (lv_at hl 0 rfl) ?_
        refine lv_aload_n hx hb dX6_goThrough_51 rfl (lv_at hl 0 rfl) ?_
        refine va_get (ci := 5) (v := .int (gI σ x0 26)) (C := RX6) (T := TX6) (N := 42) hx hb hts hi_X6 hown hE.1 hP x0 (w_5 hE hk0) rfl 26 (by decide) (hts (.fieldLink RX6 170 "HemLineModel" "firstEarth" "I") (by decide +kernel)) (fun _ h9 => h9) rfl dX6_goThrough_52 ?_
        refine r_put (σ' := (setI σ x0 30 (gI σ x0 26))) (ci := 5) (v := .int (gI σ x0 26)) (ty := .int) (C := RX6) (T := TX6) (N := 42) hx hb hts hi_X6 tyX6 tyX6_ok nmX6 hown hE hP hS x0 (w_5 hE hk0) rfl 30 (by decide) (hts (.fieldLink RX6 196 "HemLineModel" "earth" "I") (by decide +kernel)) (fun _ h9 => h9) rfl (by decide +kernel) rfl rfl (Nat.le_of_ble_eq_true rfl) dX6_goThrough_55 (st_5_30 hE hk0 _) (fun H locs hP hS => ?_)
        refine lv_aload_n hx hb dX6_goThrough_58 rfl (lv_at hl 0 rfl) ?_
        refine lv_iconst (v := 0) hx hb dX6_goThrough_59 (by decide) ?_
        refine r_put (σ' := (setI (setI σ x0 30 (gI σ x0 26)) x0 31 0)) (ci := 5) (v := .int 0) (ty := .int) (C := RX6) (T := TX6) (N := 42) hx hb hts hi_X6 tyX6 tyX6_ok nmX6 hown hE hP hS x0 (w_5 hE hk0) rfl 31 (by decide) (hts (.fieldLink RX6 185 "HemLineModel" "years" "I") (by decide +kernel)) (fun _ h9 => h9) rfl (by decide +kernel) rfl rfl (Nat.le_of_ble_eq_true rfl) dX6_goThrough_60 (st_5_31 hE hk0 _) (fun H locs hP hS => ?_)
        refine lv_iconst (v := 0) hx hb dX6_goThrough_63 (by decide) ?_
        refine lv_istore_n (i := 1) (lv' := [(1, .int 0), (0, .ref (ad x0))]) hx hb dX6_goThrough_64 rfl hl (by decide) (by first | rfl | simp [re_cat, cat_i, cat_l, cat_r]) (fun ls hl => ?_)
        obtain ⟨n2, h⟩ := h
        exact hB65 n2 0 (setI (setI σ x0 30 (gI σ x0 26)) x0 31 0) H locs ls h hP hS (lv_sub hl [1, 0] rfl)
      · replace h := h.2 c1
        refine lv_aload_n hx hb dX6_goThrough_8 rfl (lv_at hl 0 rfl) ?_
        refine va_get (ci := 5) (v := va_re ad (tM x0 27)) (C := RX6) (T := TX6) (N := 42) hx hb hts hi_X6 hown hE.1 hP x0 (w_5 hE hk0) rfl 27 (by decide) (hts (.fieldLink RX6 59 "HemLineModel" "lives" "[I") (by decide +kernel)) (fun _ h9 => h9) rfl dX6_goThrough_9 ?_
        refine lv_iload_n hx hb dX6_goThrough_12 rfl (lv_at hl 1 rfl) ?_
        refine lv_aload_n hx hb dX6_goThrough_13 rfl (lv_at hl 0 rfl) ?_
        refine va_get (ci := 5) (v := va_re ad (tM x0 23)) (C := RX6) (T := TX6) (N := 42) hx hb hts hi_X6 hown hE.1 hP x0 (w_5 hE hk0) rfl 23 (by decide) (hts (.fieldLink RX6 50 "HemLineModel" "firstPlace" "[I") (by decide +kernel)) (fun _ h9 => h9) rfl dX6_goThrough_14 ?_
        refine lv_iload_n hx hb dX6_goThrough_17 rfl (lv_at hl 1 rfl) ?_
        obtain ⟨k3, e4, q5, i6, h⟩ := h
        refine r_iald hx hb hE hP e4 q5 i6 dX6_goThrough_18 ?_
        obtain ⟨k7, e8, q9, i10, h⟩ := h
        refine r_iast hx hb hE hP hS e8 q9 i10 dX6_goThrough_19 (fun H locs hP hS => ?_)
        refine lv_aload_n hx hb dX6_goThrough_20 rfl (lv_at hl 0 rfl) ?_
        refine va_get (ci := 5) (v := va_re ad (tM x0 28)) (C := RX6) (T := TX6) (N := 42) hx hb hts hi_X6 hown hE.1 hP x0 (w_5 hE hk0) rfl 28 (by decide) (hts (.fieldLink RX6 62 "HemLineModel" "tuck" "[I") (by decide +kernel)) (fun _ h9 => h9) rfl dX6_goThrough_21 ?_
        refine lv_iload_n hx hb dX6_goThrough_24 rfl (lv_at hl 1 rfl) ?_
        refine lv_aload_n hx hb dX6_goThrough_25 rfl (lv_at hl 0 rfl) ?_
        refine va_get (ci := 5) (v := va_re ad (tM x0 24)) (C := RX6) (T := TX6) (N := 42) hx hb hts hi_X6 hown hE.1 hP x0 (w_5 hE hk0) rfl 24 (by decide) (hts (.fieldLink RX6 53 "HemLineModel" "firstTuck" "[I") (by decide +kernel)) (fun _ h9 => h9) rfl dX6_goThrough_26 ?_
        refine lv_iload_n hx hb dX6_goThrough_29 rfl (lv_at hl 1 rfl) ?_
        obtain ⟨k11, e12, q13, i14, h⟩ := h
        refine r_iald hx hb hE hP e12 q13 i14 dX6_goThrough_30 ?_
        obtain ⟨k15, e16, q17, i18, h⟩ := h
        refine r_iast hx hb hE hP hS e16 q17 i18 dX6_goThrough_31 (fun H locs hP hS => ?_)
        refine lv_aload_n hx hb dX6_goThrough_32 rfl (lv_at hl 0 rfl) ?_
        refine va_get (ci := 5) (v := va_re ad (tM x0 29)) (C := RX6) (T := TX6) (N := 42) hx hb hts hi_X6 hown hE.1 hP x0 (w_5 hE hk0) rfl 29 (by decide) (hts (.fieldLink RX6 65 "HemLineModel" "ground" "[I") (by decide +kernel)) (fun _ h9 => h9) rfl dX6_goThrough_33 ?_
        refine lv_iload_n hx hb dX6_goThrough_36 rfl (lv_at hl 1 rfl) ?_
        refine lv_aload_n hx hb dX6_goThrough_37 rfl (lv_at hl 0 rfl) ?_
        refine va_get (ci := 5) (v := va_re ad (tM x0 25)) (C := RX6) (T := TX6) (N := 42) hx hb hts hi_X6 hown hE.1 hP x0 (w_5 hE hk0) rfl 25 (by decide) (hts (.fieldLink RX6 56 "HemLineModel" "firstGround" "[I") (by decide +kernel)) (fun _ h9 => h9) rfl dX6_goThrough_38 ?_
        refine lv_iload_n hx hb dX6_goThrough_41 rfl (lv_at hl 1 rfl) ?_
        obtain ⟨k19, e20, q21, i22, h⟩ := h
        refine r_iald hx hb hE hP e20 q21 i22 dX6_goThrough_42 ?_
        obtain ⟨k23, e24, q25, i26, h⟩ := h
        refine r_iast hx hb hE hP hS e24 q25 i26 dX6_goThrough_43 (fun H locs hP hS => ?_)
        refine lv_iinc (v := x1 + 1) (lv' := [(1, .int (x1 + 1)), (0, .ref (ad x0))]) hx hb dX6_goThrough_44 hl (k := 1) rfl rfl (by decide) (by first | rfl | simp [re_cat, cat_i, cat_l, cat_r]) (fun ls hl => ?_)
        refine lv_goto (tgt := 2) hx hb dX6_goThrough_47 (by decide) ?_
        exact ih (x1 + 1) (setR (setR (setR σ k7 (upd (gR σ k7) x1.toNatClampNeg (gR σ k3 x1.toNatClampNeg))) k15 (upd (gR (setR σ k7 (upd (gR σ k7) x1.toNatClampNeg (gR σ k3 x1.toNatClampNeg))) k15) x1.toNatClampNeg (gR (setR σ k7 (upd (gR σ k7) x1.toNatClampNeg (gR σ k3 x1.toNatClampNeg))) k11 x1.toNatClampNeg))) k23 (upd (gR (setR (setR σ k7 (upd (gR σ k7) x1.toNatClampNeg (gR σ k3 x1.toNatClampNeg))) k15 (upd (gR (setR σ k7 (upd (gR σ k7) x1.toNatClampNeg (gR σ k3 x1.toNatClampNeg))) k15) x1.toNatClampNeg (gR (setR σ k7 (upd (gR σ k7) x1.toNatClampNeg (gR σ k3 x1.toNatClampNeg))) k11 x1.toNatClampNeg))) k23) x1.toNatClampNeg (gR (setR (setR σ k7 (upd (gR σ k7) x1.toNatClampNeg (gR σ k3 x1.toNatClampNeg))) k15 (upd (gR (setR σ k7 (upd (gR σ k7) x1.toNatClampNeg (gR σ k3 x1.toNatClampNeg))) k15) x1.toNatClampNeg (gR (setR σ k7 (upd (gR σ k7) x1.toNatClampNeg (gR σ k3 x1.toNatClampNeg))) k11 x1.toNatClampNeg))) k19 x1.toNatClampNeg))) H locs ls h hP hS (lv_sub hl [1, 0] rfl)
  unfold p_X6_goThrough at h
  refine lv_iconst (v := 0) hx hb dX6_goThrough_0 (by decide) ?_
  refine lv_istore_n (i := 1) (lv' := [(1, .int 0), (0, .ref (ad x0))]) hx hb dX6_goThrough_1 rfl hl (by decide) (by first | rfl | simp [re_cat, cat_i, cat_l, cat_r]) (fun ls hl => ?_)
  obtain ⟨n1, h⟩ := h
  exact hB2 n1 0 s0 _ _ ls h hP hS (lv_sub hl [1, 0] rfl)
def p_X6_delta_L142 (Q : Int32 → Sg → Prop)  : Nat → Nat → Int32 → Sg → Prop
  | 0, _, _, _ => False
  | n + 1, x0, x2, s => ((3 ≤ x2 → Q (gI s x0 20) s) ∧ (¬ 3 ≤ x2 → ∃ k2, tM x0 38 = some k2 ∧ kM k2 = 7 ∧ vp_in x2 (lM k2) ∧ p_X6_delta_L142 Q  n x0 (x2 + 1) (setR s k2 (upd (gR s k2) x2.toNatClampNeg ((-1))))))
def p_X6_delta_L51 (Q : Int32 → Sg → Prop)  : Nat → Nat → Int32 → Sg → Prop
  | 0, _, _, _ => False
  | n + 1, x0, x2, s => ((6 ≤ x2 → p_X6_goThrough x0 (setI (setI s x0 26 (gI s x0 11)) x0 36 0) (fun s2 => (∃ n3, p_X6_delta_L142 Q  n3 x0 0 s2))) ∧ (¬ 6 ≤ x2 → ∃ k4, tM x0 13 = some k4 ∧ kM k4 = 7 ∧ vp_in x2 (lM k4) ∧ ∃ k8, tM x0 21 = some k8 ∧ kM k8 = 7 ∧ vp_in x2 (lM k8) ∧ ∃ k12, tM x0 15 = some k12 ∧ kM k12 = 7 ∧ vp_in x2 (lM k12) ∧ ∃ k16, tM x0 22 = some k16 ∧ kM k16 = 7 ∧ vp_in x2 (lM k16) ∧ ∃ k20, tM x0 14 = some k20 ∧ kM k20 = 7 ∧ vp_in x2 (lM k20) ∧ ∃ k24, tM x0 23 = some k24 ∧ kM k24 = 7 ∧ vp_in x2 (lM k24) ∧ ∃ k28, tM x0 16 = some k28 ∧ kM k28 = 7 ∧ vp_in x2 (lM k28) ∧ ∃ k32, tM x0 24 = some k32 ∧ kM k32 = 7 ∧ vp_in x2 (lM k32) ∧ ∃ k36, tM x0 10 = some k36 ∧ kM k36 = 7 ∧ vp_in x2 (lM k36) ∧ ∃ k40, tM x0 25 = some k40 ∧ kM k40 = 7 ∧ vp_in x2 (lM k40) ∧ p_X6_delta_L51 Q  n x0 (x2 + 1) (setR (setR (setR (setR (setR s k8 (upd (gR s k8) x2.toNatClampNeg (gR s k4 x2.toNatClampNeg))) k16 (upd (gR (setR s k8 (upd (gR s k8) x2.toNatClampNeg (gR s k4 x2.toNatClampNeg))) k16) x2.toNatClampNeg (gR (setR s k8 (upd (gR s k8) x2.toNatClampNeg (gR s k4 x2.toNatClampNeg))) k12 x2.toNatClampNeg))) k24 (upd (gR (setR (setR s k8 (upd (gR s k8) x2.toNatClampNeg (gR s k4 x2.toNatClampNeg))) k16 (upd (gR (setR s k8 (upd (gR s k8) x2.toNatClampNeg (gR s k4 x2.toNatClampNeg))) k16) x2.toNatClampNeg (gR (setR s k8 (upd (gR s k8) x2.toNatClampNeg (gR s k4 x2.toNatClampNeg))) k12 x2.toNatClampNeg))) k24) x2.toNatClampNeg (gR (setR (setR s k8 (upd (gR s k8) x2.toNatClampNeg (gR s k4 x2.toNatClampNeg))) k16 (upd (gR (setR s k8 (upd (gR s k8) x2.toNatClampNeg (gR s k4 x2.toNatClampNeg))) k16) x2.toNatClampNeg (gR (setR s k8 (upd (gR s k8) x2.toNatClampNeg (gR s k4 x2.toNatClampNeg))) k12 x2.toNatClampNeg))) k20 x2.toNatClampNeg))) k32 (upd (gR (setR (setR (setR s k8 (upd (gR s k8) x2.toNatClampNeg (gR s k4 x2.toNatClampNeg))) k16 (upd (gR (setR s k8 (upd (gR s k8) x2.toNatClampNeg (gR s k4 x2.toNatClampNeg))) k16) x2.toNatClampNeg (gR (setR s k8 (upd (gR s k8) x2.toNatClampNeg (gR s k4 x2.toNatClampNeg))) k12 x2.toNatClampNeg))) k24 (upd (gR (setR (setR s k8 (upd (gR s k8) x2.toNatClampNeg (gR s k4 x2.toNatClampNeg))) k16 (upd (gR (setR s k8 (upd (gR s k8) x2.toNatClampNeg (gR s k4 x2.toNatClampNeg))) k16) x2.toNatClampNeg (gR (setR s k8 (upd (gR s k8) x2.toNatClampNeg (gR s k4 x2.toNatClampNeg))) k12 x2.toNatClampNeg))) k24) x2.toNatClampNeg (gR (setR (setR s k8 (upd (gR s k8) x2.toNatClampNeg (gR s k4 x2.toNatClampNeg))) k16 (upd (gR (setR s k8 (upd (gR s k8) x2.toNatClampNeg (gR s k4 x2.toNatClampNeg))) k16) x2.toNatClampNeg (gR (setR s k8 (upd (gR s k8) x2.toNatClampNeg (gR s k4 x2.toNatClampNeg))) k12 x2.toNatClampNeg))) k20 x2.toNatClampNeg))) k32) x2.toNatClampNeg (gR (setR (setR (setR s k8 (upd (gR s k8) x2.toNatClampNeg (gR s k4 x2.toNatClampNeg))) k16 (upd (gR (setR s k8 (upd (gR s k8) x2.toNatClampNeg (gR s k4 x2.toNatClampNeg))) k16) x2.toNatClampNeg (gR (setR s k8 (upd (gR s k8) x2.toNatClampNeg (gR s k4 x2.toNatClampNeg))) k12 x2.toNatClampNeg))) k24 (upd (gR (setR (setR s k8 (upd (gR s k8) x2.toNatClampNeg (gR s k4 x2.toNatClampNeg))) k16 (upd (gR (setR s k8 (upd (gR s k8) x2.toNatClampNeg (gR s k4 x2.toNatClampNeg))) k16) x2.toNatClampNeg (gR (setR s k8 (upd (gR s k8) x2.toNatClampNeg (gR s k4 x2.toNatClampNeg))) k12 x2.toNatClampNeg))) k24) x2.toNatClampNeg (gR (setR (setR s k8 (upd (gR s k8) x2.toNatClampNeg (gR s k4 x2.toNatClampNeg))) k16 (upd (gR (setR s k8 (upd (gR s k8) x2.toNatClampNeg (gR s k4 x2.toNatClampNeg))) k16) x2.toNatClampNeg (gR (setR s k8 (upd (gR s k8) x2.toNatClampNeg (gR s k4 x2.toNatClampNeg))) k12 x2.toNatClampNeg))) k20 x2.toNatClampNeg))) k28 x2.toNatClampNeg))) k40 (upd (gR (setR (setR (setR (setR s k8 (upd (gR s k8) x2.toNatClampNeg (gR s k4 x2.toNatClampNeg))) k16 (upd (gR (setR s k8 (upd (gR s k8) x2.toNatClampNeg (gR s k4 x2.toNatClampNeg))) k16) x2.toNatClampNeg (gR (setR s k8 (upd (gR s k8) x2.toNatClampNeg (gR s k4 x2.toNatClampNeg))) k12 x2.toNatClampNeg))) k24 (upd (gR (setR (setR s k8 (upd (gR s k8) x2.toNatClampNeg (gR s k4 x2.toNatClampNeg))) k16 (upd (gR (setR s k8 (upd (gR s k8) x2.toNatClampNeg (gR s k4 x2.toNatClampNeg))) k16) x2.toNatClampNeg (gR (setR s k8 (upd (gR s k8) x2.toNatClampNeg (gR s k4 x2.toNatClampNeg))) k12 x2.toNatClampNeg))) k24) x2.toNatClampNeg (gR (setR (setR s k8 (upd (gR s k8) x2.toNatClampNeg (gR s k4 x2.toNatClampNeg))) k16 (upd (gR (setR s k8 (upd (gR s k8) x2.toNatClampNeg (gR s k4 x2.toNatClampNeg))) k16) x2.toNatClampNeg (gR (setR s k8 (upd (gR s k8) x2.toNatClampNeg (gR s k4 x2.toNatClampNeg))) k12 x2.toNatClampNeg))) k20 x2.toNatClampNeg))) k32 (upd (gR (setR (setR (setR s k8 (upd (gR s k8) x2.toNatClampNeg (gR s k4 x2.toNatClampNeg))) k16 (upd (gR (setR s k8 (upd (gR s k8) x2.toNatClampNeg (gR s k4 x2.toNatClampNeg))) k16) x2.toNatClampNeg (gR (setR s k8 (upd (gR s k8) x2.toNatClampNeg (gR s k4 x2.toNatClampNeg))) k12 x2.toNatClampNeg))) k24 (upd (gR (setR (setR s k8 (upd (gR s k8) x2.toNatClampNeg (gR s k4 x2.toNatClampNeg))) k16 (upd (gR (setR s k8 (upd (gR s k8) x2.toNatClampNeg (gR s k4 x2.toNatClampNeg))) k16) x2.toNatClampNeg (gR (setR s k8 (upd (gR s k8) x2.toNatClampNeg (gR s k4 x2.toNatClampNeg))) k12 x2.toNatClampNeg))) k24) x2.toNatClampNeg (gR (setR (setR s k8 (upd (gR s k8) x2.toNatClampNeg (gR s k4 x2.toNatClampNeg))) k16 (upd (gR (setR s k8 (upd (gR s k8) x2.toNatClampNeg (gR s k4 x2.toNatClampNeg))) k16) x2.toNatClampNeg (gR (setR s k8 (upd (gR s k8) x2.toNatClampNeg (gR s k4 x2.toNatClampNeg))) k12 x2.toNatClampNeg))) k20 x2.toNatClampNeg))) k32) x2.toNatClampNeg (gR (setR (setR (setR s k8 (upd (gR s k8) x2.toNatClampNeg (gR s k4 x2.toNatClampNeg))) k16 (upd (gR (setR s k8 (upd (gR s k8) x2.toNatClampNeg (gR s k4 x2.toNatClampNeg))) k16) x2.toNatClampNeg (gR (setR s k8 (upd (gR s k8) x2.toNatClampNeg (gR s k4 x2.toNatClampNeg))) k12 x2.toNatClampNeg))) k24 (upd (gR (setR (setR s k8 (upd (gR s k8) x2.toNatClampNeg (gR s k4 x2.toNatClampNeg))) k16 (upd (gR (setR s k8 (upd (gR s k8) x2.toNatClampNeg (gR s k4 x2.toNatClampNeg))) k16) x2.toNatClampNeg (gR (setR s k8 (upd (gR s k8) x2.toNatClampNeg (gR s k4 x2.toNatClampNeg))) k12 x2.toNatClampNeg))) k24) x2.toNatClampNeg (gR (setR (setR s k8 (upd (gR s k8) x2.toNatClampNeg (gR s k4 x2.toNatClampNeg))) k16 (upd (gR (setR s k8 (upd (gR s k8) x2.toNatClampNeg (gR s k4 x2.toNatClampNeg))) k16) x2.toNatClampNeg (gR (setR s k8 (upd (gR s k8) x2.toNatClampNeg (gR s k4 x2.toNatClampNeg))) k12 x2.toNatClampNeg))) k20 x2.toNatClampNeg))) k28 x2.toNatClampNeg))) k40) x2.toNatClampNeg (gR (setR (setR (setR (setR s k8 (upd (gR s k8) x2.toNatClampNeg (gR s k4 x2.toNatClampNeg))) k16 (upd (gR (setR s k8 (upd (gR s k8) x2.toNatClampNeg (gR s k4 x2.toNatClampNeg))) k16) x2.toNatClampNeg (gR (setR s k8 (upd (gR s k8) x2.toNatClampNeg (gR s k4 x2.toNatClampNeg))) k12 x2.toNatClampNeg))) k24 (upd (gR (setR (setR s k8 (upd (gR s k8) x2.toNatClampNeg (gR s k4 x2.toNatClampNeg))) k16 (upd (gR (setR s k8 (upd (gR s k8) x2.toNatClampNeg (gR s k4 x2.toNatClampNeg))) k16) x2.toNatClampNeg (gR (setR s k8 (upd (gR s k8) x2.toNatClampNeg (gR s k4 x2.toNatClampNeg))) k12 x2.toNatClampNeg))) k24) x2.toNatClampNeg (gR (setR (setR s k8 (upd (gR s k8) x2.toNatClampNeg (gR s k4 x2.toNatClampNeg))) k16 (upd (gR (setR s k8 (upd (gR s k8) x2.toNatClampNeg (gR s k4 x2.toNatClampNeg))) k16) x2.toNatClampNeg (gR (setR s k8 (upd (gR s k8) x2.toNatClampNeg (gR s k4 x2.toNatClampNeg))) k12 x2.toNatClampNeg))) k20 x2.toNatClampNeg))) k32 (upd (gR (setR (setR (setR s k8 (upd (gR s k8) x2.toNatClampNeg (gR s k4 x2.toNatClampNeg))) k16 (upd (gR (setR s k8 (upd (gR s k8) x2.toNatClampNeg (gR s k4 x2.toNatClampNeg))) k16) x2.toNatClampNeg (gR (setR s k8 (upd (gR s k8) x2.toNatClampNeg (gR s k4 x2.toNatClampNeg))) k12 x2.toNatClampNeg))) k24 (upd (gR (setR (setR s k8 (upd (gR s k8) x2.toNatClampNeg (gR s k4 x2.toNatClampNeg))) k16 (upd (gR (setR s k8 (upd (gR s k8) x2.toNatClampNeg (gR s k4 x2.toNatClampNeg))) k16) x2.toNatClampNeg (gR (setR s k8 (upd (gR s k8) x2.toNatClampNeg (gR s k4 x2.toNatClampNeg))) k12 x2.toNatClampNeg))) k24) x2.toNatClampNeg (gR (setR (setR s k8 (upd (gR s k8) x2.toNatClampNeg (gR s k4 x2.toNatClampNeg))) k16 (upd (gR (setR s k8 (upd (gR s k8) x2.toNatClampNeg (gR s k4 x2.toNatClampNeg))) k16) x2.toNatClampNeg (gR (setR s k8 (upd (gR s k8) x2.toNatClampNeg (gR s k4 x2.toNatClampNeg))) k12 x2.toNatClampNeg))) k20 x2.toNatClampNeg))) k32) x2.toNatClampNeg (gR (setR (setR (setR s k8 (upd (gR s k8) x2.toNatClampNeg (gR s k4 x2.toNatClampNeg))) k16 (upd (gR (setR s k8 (upd (gR s k8) x2.toNatClampNeg (gR s k4 x2.toNatClampNeg))) k16) x2.toNatClampNeg (gR (setR s k8 (upd (gR s k8) x2.toNatClampNeg (gR s k4 x2.toNatClampNeg))) k12 x2.toNatClampNeg))) k24 (upd (gR (setR (setR s k8 (upd (gR s k8) x2.toNatClampNeg (gR s k4 x2.toNatClampNeg))) k16 (upd (gR (setR s k8 (upd (gR s k8) x2.toNatClampNeg (gR s k4 x2.toNatClampNeg))) k16) x2.toNatClampNeg (gR (setR s k8 (upd (gR s k8) x2.toNatClampNeg (gR s k4 x2.toNatClampNeg))) k12 x2.toNatClampNeg))) k24) x2.toNatClampNeg (gR (setR (setR s k8 (upd (gR s k8) x2.toNatClampNeg (gR s k4 x2.toNatClampNeg))) k16 (upd (gR (setR s k8 (upd (gR s k8) x2.toNatClampNeg (gR s k4 x2.toNatClampNeg))) k16) x2.toNatClampNeg (gR (setR s k8 (upd (gR s k8) x2.toNatClampNeg (gR s k4 x2.toNatClampNeg))) k12 x2.toNatClampNeg))) k20 x2.toNatClampNeg))) k28 x2.toNatClampNeg))) k36 x2.toNatClampNeg)))))
def p_X6_delta (x0 : Nat) (x1 : Int32) (s : Sg) (Q : Int32 → Sg → Prop) : Prop := p_X6_isText x1 s (fun r2 s1 => ((r2 = 0 → Q ((-1)) s1) ∧ (¬ r2 = 0 → ∃ k4, tM x0 8 = some k4 ∧ kM k4 = 7 ∧ vp_in x1 (lM k4) ∧ ((0 ≤ (gR s1 k4 x1.toNatClampNeg) → p_X6_read x0 x1 s1 (fun s9 => (((gI s9 x0 19) = ((-9)) → (∃ n11, p_X6_delta_L51 Q  n11 x0 0 (setI s9 x0 20 (gI s9 x0 12)))) ∧ (¬ (gI s9 x0 19) = ((-9)) → Q ((-4)) s9)))) ∧ (¬ 0 ≤ (gR s1 k4 x1.toNatClampNeg) → p_X6_refuse x0 1 s1 (fun r13 s12 => Q r13 s12))))))
set_option maxHeartbeats 4000000 in
set_option maxRecDepth 100000 in
theorem c_X6_delta (l : Launch) (D : va_G) (cs : Cs) (ad : Nat → Nat) (x0 : Nat) (x1 : Int32) (s0 : Sg) (Q : Int32 → Sg → Prop) (hk0 : kM x0 = 5) : Met l yX6_delta wsX6_delta { frames := 5, cells := 0, slots := 0, locals := 117 } (Pc0 bM D cs ad [.ref (ad x0), .int x1] s0 (p_X6_delta x0 x1 s0 Q)) (QI bM D cs ad Q) 0 0 (fAd bM ad) := by
  refine Met.ofW (cc := cX6_delta) (maxL := 3) (ret := (some .int)) (by decide) rfl ?_
  intro p e s m args below meth c s₁ B0 hml hv
  obtain ⟨ha, hP, hE, h⟩ := hv
  have hx := B0.exec
  have hb := B0.bytes
  have hr := B0.returns
  have hts := atoms_spec (ws := wsX6_delta) B0.pre
  have hown : s.vm.findClass RX6 = some m.cls := findClass_of_methodNamed B0.named
  have hlocks := B0.notSynchronized
  have hi_X6 : ∀ w ∈ u_ws RX6 TX6 42, w ∈ wsX6_delta := by decide +kernel
  have hS : va_S (fAd bM ad) s.heap s.heap [] := va_S.rf
  have hl := lv_entry ([.ref (ad x0), .int x1]) (n := 3) (by first | exact Nat.le_of_ble_eq_true rfl | simp [lg_sl, re_cat, cat_i, cat_l, cat_r])
  rw [show entryFrame m args 3 = entryFrame m ([.ref (ad x0), .int x1] : List Value).toArray 3 by rw [ha], lg_entry_eq]
  generalize (lg_sl ([.ref (ad x0), .int x1]) ++ List.replicate (3 - (lg_sl ([.ref (ad x0), .int x1])).length) Slot.unset).toArray = ls at hl ⊢
  have hl : lv_has ls 3 [(0, .ref (ad x0)), (1, .int x1)] := by first | exact hl | simpa [lv_args, re_cat, cat_i, cat_l, cat_r] using hl
  have hB142 : ∀ (n142 : Nat) (x2 : Int32) (σ : Sg) (H : Heap) (locs : List Loc) (ls : Array Slot), p_X6_delta_L142 Q  n142 x0 x2 σ → va_P D vwCl (wl bM cs ad σ) H → va_S (fAd bM ad) s.heap H locs → lv_has ls 3 [(0, .ref (ad x0)), (2, .int x2)] → W p l e { frames := 5, cells := 0, slots := 0, locals := 117 } s m args below meth c H locs 0 0 (MQ below (QI bM D cs ad Q) args s 0 0 (fAd bM ad)) (F0 m 142 ls []) := by
    intro n142
    induction n142 with
    | zero =>
      intro x2 σ H locs ls h
      exact h.elim
    | succ n142 ih =>
      have hK142 := ih
      intro x2 σ H locs ls h hP hS hl
      rw [p_X6_delta_L142] at h
      refine lv_iload_n hx hb dX6_delta_142 rfl (lv_at hl 1 rfl) ?_
      refine lv_iconst (v := 3) hx hb dX6_delta_143 (by decide) ?_
      refine lv_icmp_ge (tgt := 160) hx hb dX6_delta_144 (by decide) (fun c1 => ?_) (fun c1 => ?_)
      · replace h := h.1 c1
        refine lv_aload_n hx hb dX6_delta_160 rfl (lv_at hl 0 rfl) ?_
        refine va_get (ci := 5) (v := .int (gI σ x0 20)) (C := RX6) (T := TX6) (N := 42) hx hb hts hi_X6 hown hE.1 hP x0 (w_5 hE hk0) rfl 20 (by decide) (hts (.fieldLink RX6 167 "HemLineModel" "women" "I") (by decide +kernel)) (fun _ h9 => h9) rfl dX6_delta_161 ?_
        exact W.iret hx hb hr (fun t ht hW => ⟨⟨_, _, rfl, h, pw ht hP⟩, hS.F ht⟩) hS.2.2 dX6_delta_164
      · replace h := h.2 c1
        refine lv_aload_n hx hb dX6_delta_147 rfl (lv_at hl 0 rfl) ?_
        refine va_get (ci := 5) (v := va_re ad (tM x0 38)) (C := RX6) (T := TX6) (N := 42) hx hb hts hi_X6 hown hE.1 hP x0 (w_5 hE hk0) rfl 38 (by decide) (hts (.fieldLink RX6 83 "HemLineModel" "keptDeeds" "[I") (by decide +kernel)) (fun _ h9 => h9) rfl dX6_delta_148 ?_
        refine lv_iload_n hx hb dX6_delta_151 rfl (lv_at hl 1 rfl) ?_
        refine lv_iconst (v := (-1)) hx hb dX6_delta_152 (by decide) ?_
        obtain ⟨k2, e3, q4, i5, h⟩ := h
        refine r_iast hx hb hE hP hS e3 q4 i5 dX6_delta_153 (fun H locs hP hS => ?_)
        refine lv_iinc (v := x2 + 1) (lv' := [(2, .int (x2 + 1)), (0, .ref (ad x0))]) hx hb dX6_delta_154 hl (k := 1) rfl rfl (by decide) (by first | rfl | simp [re_cat, cat_i, cat_l, cat_r]) (fun ls hl => ?_)
        refine lv_goto (tgt := 142) hx hb dX6_delta_157 (by decide) ?_
        exact ih (x2 + 1) (setR σ k2 (upd (gR σ k2) x2.toNatClampNeg ((-1)))) H locs ls h hP hS (lv_sub hl [1, 0] rfl)
  have hB51 : ∀ (n51 : Nat) (x2 : Int32) (σ : Sg) (H : Heap) (locs : List Loc) (ls : Array Slot), p_X6_delta_L51 Q  n51 x0 x2 σ → va_P D vwCl (wl bM cs ad σ) H → va_S (fAd bM ad) s.heap H locs → lv_has ls 3 [(0, .ref (ad x0)), (2, .int x2)] → W p l e { frames := 5, cells := 0, slots := 0, locals := 117 } s m args below meth c H locs 0 0 (MQ below (QI bM D cs ad Q) args s 0 0 (fAd bM ad)) (F0 m 51 ls []) := by
    intro n51
    induction n51 with
    | zero =>
      intro x2 σ H locs ls h
      exact h.elim
    | succ n51 ih =>
      have hK51 := ih
      intro x2 σ H locs ls h hP hS hl
      rw [p_X6_delta_L51] at h
      refine lv_iload_n hx hb dX6_delta_51 rfl (lv_at hl 1 rfl) ?_
      refine lv_bipush (v := 6) hx hb dX6_delta_52 (by decide) ?_
      refine lv_icmp_ge (tgt := 123) hx hb dX6_delta_54 (by decide) (fun c1 => ?_) (fun c1 => ?_)
      · replace h := h.1 c1
        refine lv_aload_n hx hb dX6_delta_123 rfl (lv_at hl 0 rfl) ?_
        refine lv_aload_n hx hb dX6_delta_124 rfl (lv_at hl 0 rfl) ?_
        refine va_get (ci := 5) (v := .int (gI σ x0 11)) (C := RX6) (T := TX6) (N := 42) hx hb hts hi_X6 hown hE.1 hP x0 (w_5 hE hk0) rfl 11 (by decide) (hts (.fieldLink RX6 157 "HemLineModel" "draftEarth" "I") (by decide +kernel)) (fun _ h9 => h9) rfl dX6_delta_125 ?_
        refine r_put (σ' := (setI σ x0 26 (gI σ x0 11))) (ci := 5) (v := .int (gI σ x0 11)) (ty := .int) (C := RX6) (T := TX6) (N := 42) hx hb hts hi_X6 tyX6 tyX6_ok nmX6 hown hE hP hS x0 (w_5 hE hk0) rfl 26 (by decide) (hts (.fieldLink RX6 170 "HemLineModel" "firstEarth" "I") (by decide +kernel)) (fun _ h9 => h9) rfl (by decide +kernel) rfl rfl (Nat.le_of_ble_eq_true rfl) dX6_delta_128 (st_5_26 hE hk0 _) (fun H locs hP hS => ?_)
        refine lv_aload_n hx hb dX6_delta_131 rfl (lv_at hl 0 rfl) ?_
        refine lv_iconst (v := 0) hx hb dX6_delta_132 (by decide) ?_
        refine r_put (σ' := (setI (setI σ x0 26 (gI σ x0 11)) x0 36 0)) (ci := 5) (v := .int 0) (ty := .int) (C := RX6) (T := TX6) (N := 42) hx hb hts hi_X6 tyX6 tyX6_ok nmX6 hown hE hP hS x0 (w_5 hE hk0) rfl 36 (by decide) (hts (.fieldLink RX6 173 "HemLineModel" "deeds" "I") (by decide +kernel)) (fun _ h9 => h9) rfl (by decide +kernel) rfl rfl (Nat.le_of_ble_eq_true rfl) dX6_delta_133 (st_5_36 hE hk0 _) (fun H locs hP hS => ?_)
        refine lv_aload_n hx hb dX6_delta_136 rfl (lv_at hl 0 rfl) ?_
        refine f_v (kV (As := []) (rest := []) (o := some x0) rfl ⟨hx, hb, hml, hown, hts⟩ (c_X6_goThrough l D cs ad x0 (setI (setI σ x0 26 (gI σ x0 11)) x0 36 0) _ hk0) (cwV 0 hts gX6_delta_X6_goThrough rfl rfl rfl (by decide +kernel) ⟨Nat.le_of_ble_eq_true rfl, Nat.le_of_ble_eq_true rfl⟩) hE hP rfl rfl (w_5 hE hk0) h rfl hl.1 rfl (by first | exact lv_room (Nat.le_of_ble_eq_true rfl) | (refine lv_room ?_; simp [re_cat, cat_i, cat_l, cat_r])) dX6_delta_137 ⟨Nat.le_refl _, Nat.le_refl _⟩) hS (fun s2 H locs h hP hS => ?_)
        refine lv_iconst (v := 0) hx hb dX6_delta_140 (by decide) ?_
        refine lv_istore_n (i := 2) (lv' := [(2, .int 0), (0, .ref (ad x0))]) hx hb dX6_delta_141 rfl hl (by decide) (by first | rfl | simp [re_cat, cat_i, cat_l, cat_r]) (fun ls hl => ?_)
        obtain ⟨n3, h⟩ := h
        exact hB142 n3 0 s2 H locs ls h hP hS (lv_sub hl [1, 0] rfl)
      · replace h := h.2 c1
        refine lv_aload_n hx hb dX6_delta_57 rfl (lv_at hl 0 rfl) ?_
        refine va_get (ci := 5) (v := va_re ad (tM x0 21)) (C := RX6) (T := TX6) (N := 42) hx hb hts hi_X6 hown hE.1 hP x0 (w_5 hE hk0) rfl 21 (by decide) (hts (.fieldLink RX6 44 "HemLineModel" "kind" "[I") (by decide +kernel)) (fun _ h9 => h9) rfl dX6_delta_58 ?_
        refine lv_iload_n hx hb dX6_delta_61 rfl (lv_at hl 1 rfl) ?_
        refine lv_aload_n hx hb dX6_delta_62 rfl (lv_at hl 0 rfl) ?_
        refine va_get (ci := 5) (v := va_re ad (tM x0 13)) (C := RX6) (T := TX6) (N := 42) hx hb hts hi_X6 hown hE.1 hP x0 (w_5 hE hk0) rfl 13 (by decide) (hts (.fieldLink RX6 32 "HemLineModel" "draftKind" "[I") (by decide +kernel)) (fun _ h9 => h9) rfl dX6_delta_63 ?_
        refine lv_iload_n hx hb dX6_delta_66 rfl (lv_at hl 1 rfl) ?_
        obtain ⟨k4, e5, q6, i7, h⟩ := h
        refine r_iald hx hb hE hP e5 q6 i7 dX6_delta_67 ?_
        obtain ⟨k8, e9, q10, i11, h⟩ := h
        refine r_iast hx hb hE hP hS e9 q10 i11 dX6_delta_68 (fun H locs hP hS => ?_)
        refine lv_aload_n hx hb dX6_delta_69 rfl (lv_at hl 0 rfl) ?_
        refine va_get (ci := 5) (v := va_re ad (tM x0 22)) (C := RX6) (T := TX6) (N := 42) hx hb hts hi_X6 hown hE.1 hP x0 (w_5 hE hk0) rfl 22 (by decide) (hts (.fieldLink RX6 47 "HemLineModel" "tall" "[I") (by decide +kernel)) (fun _ h9 => h9) rfl dX6_delta_70 ?_
        refine lv_iload_n hx hb dX6_delta_73 rfl (lv_at hl 1 rfl) ?_
        refine lv_aload_n hx hb dX6_delta_74 rfl (lv_at hl 0 rfl) ?_
        refine va_get (ci := 5) (v := va_re ad (tM x0 15)) (C := RX6) (T := TX6) (N := 42) hx hb hts hi_X6 hown hE.1 hP x0 (w_5 hE hk0) rfl 15 (by decide) (hts (.fieldLink RX6 38 "HemLineModel" "draftTall" "[I") (by decide +kernel)) (fun _ h9 => h9) rfl dX6_delta_75 ?_
        refine lv_iload_n hx hb dX6_delta_78 rfl (lv_at hl 1 rfl) ?_
        obtain ⟨k12, e13, q14, i15, h⟩ := h
        refine r_iald hx hb hE hP e13 q14 i15 dX6_delta_79 ?_
        obtain ⟨k16, e17, q18, i19, h⟩ := h
        refine r_iast hx hb hE hP hS e17 q18 i19 dX6_delta_80 (fun H locs hP hS => ?_)
        refine lv_aload_n hx hb dX6_delta_81 rfl (lv_at hl 0 rfl) ?_
        refine va_get (ci := 5) (v := va_re ad (tM x0 23)) (C := RX6) (T := TX6) (N := 42) hx hb hts hi_X6 hown hE.1 hP x0 (w_5 hE hk0) rfl 23 (by decide) (hts (.fieldLink RX6 50 "HemLineModel" "firstPlace" "[I") (by decide +kernel)) (fun _ h9 => h9) rfl dX6_delta_82 ?_
        refine lv_iload_n hx hb dX6_delta_85 rfl (lv_at hl 1 rfl) ?_
        refine lv_aload_n hx hb dX6_delta_86 rfl (lv_at hl 0 rfl) ?_
        refine va_get (ci := 5) (v := va_re ad (tM x0 14)) (C := RX6) (T := TX6) (N := 42) hx hb hts hi_X6 hown hE.1 hP x0 (w_5 hE hk0) rfl 14 (by decide) (hts (.fieldLink RX6 35 "HemLineModel" "draftPlace" "[I") (by decide +kernel)) (fun _ h9 => h9) rfl dX6_delta_87 ?_
        refine lv_iload_n hx hb dX6_delta_90 rfl (lv_at hl 1 rfl) ?_
        obtain ⟨k20, e21, q22, i23, h⟩ := h
        refine r_iald hx hb hE hP e21 q22 i23 dX6_delta_91 ?_
        obtain ⟨k24, e25, q26, i27, h⟩ := h
        refine r_iast hx hb hE hP hS e25 q26 i27 dX6_delta_92 (fun H locs hP hS => ?_)
        refine lv_aload_n hx hb dX6_delta_93 rfl (lv_at hl 0 rfl) ?_
        refine va_get (ci := 5) (v := va_re ad (tM x0 24)) (C := RX6) (T := TX6) (N := 42) hx hb hts hi_X6 hown hE.1 hP x0 (w_5 hE hk0) rfl 24 (by decide) (hts (.fieldLink RX6 53 "HemLineModel" "firstTuck" "[I") (by decide +kernel)) (fun _ h9 => h9) rfl dX6_delta_94 ?_
        refine lv_iload_n hx hb dX6_delta_97 rfl (lv_at hl 1 rfl) ?_
        refine lv_aload_n hx hb dX6_delta_98 rfl (lv_at hl 0 rfl) ?_
        refine va_get (ci := 5) (v := va_re ad (tM x0 16)) (C := RX6) (T := TX6) (N := 42) hx hb hts hi_X6 hown hE.1 hP x0 (w_5 hE hk0) rfl 16 (by decide) (hts (.fieldLink RX6 41 "HemLineModel" "draftTuck" "[I") (by decide +kernel)) (fun _ h9 => h9) rfl dX6_delta_99 ?_
        refine lv_iload_n hx hb dX6_delta_102 rfl (lv_at hl 1 rfl) ?_
        obtain ⟨k28, e29, q30, i31, h⟩ := h
        refine r_iald hx hb hE hP e29 q30 i31 dX6_delta_103 ?_
        obtain ⟨k32, e33, q34, i35, h⟩ := h
        refine r_iast hx hb hE hP hS e33 q34 i35 dX6_delta_104 (fun H locs hP hS => ?_)
        refine lv_aload_n hx hb dX6_delta_105 rfl (lv_at hl 0 rfl) ?_
        refine va_get (ci := 5) (v := va_re ad (tM x0 25)) (C := RX6) (T := TX6) (N := 42) hx hb hts hi_X6 hown hE.1 hP x0 (w_5 hE hk0) rfl 25 (by decide) (hts (.fieldLink RX6 56 "HemLineModel" "firstGround" "[I") (by decide +kernel)) (fun _ h9 => h9) rfl dX6_delta_106 ?_
        refine lv_iload_n hx hb dX6_delta_109 rfl (lv_at hl 1 rfl) ?_
        refine lv_aload_n hx hb dX6_delta_110 rfl (lv_at hl 0 rfl) ?_
        refine va_get (ci := 5) (v := va_re ad (tM x0 10)) (C := RX6) (T := TX6) (N := 42) hx hb hts hi_X6 hown hE.1 hP x0 (w_5 hE hk0) rfl 10 (by decide) (hts (.fieldLink RX6 29 "HemLineModel" "draftGround" "[I") (by decide +kernel)) (fun _ h9 => h9) rfl dX6_delta_111 ?_
        refine lv_iload_n hx hb dX6_delta_114 rfl (lv_at hl 1 rfl) ?_
        obtain ⟨k36, e37, q38, i39, h⟩ := h
        refine r_iald hx hb hE hP e37 q38 i39 dX6_delta_115 ?_
        obtain ⟨k40, e41, q42, i43, h⟩ := h
        refine r_iast hx hb hE hP hS e41 q42 i43 dX6_delta_116 (fun H locs hP hS => ?_)
        refine lv_iinc (v := x2 + 1) (lv' := [(2, .int (x2 + 1)), (0, .ref (ad x0))]) hx hb dX6_delta_117 hl (k := 1) rfl rfl (by decide) (by first | rfl | simp [re_cat, cat_i, cat_l, cat_r]) (fun ls hl => ?_)
        refine lv_goto (tgt := 51) hx hb dX6_delta_120 (by decide) ?_
        exact ih (x2 + 1) (setR (setR (setR (setR (setR σ k8 (upd (gR σ k8) x2.toNatClampNeg (gR σ k4 x2.toNatClampNeg))) k16 (upd (gR (setR σ k8 (upd (gR σ k8) x2.toNatClampNeg (gR σ k4 x2.toNatClampNeg))) k16) x2.toNatClampNeg (gR (setR σ k8 (upd (gR σ k8) x2.toNatClampNeg (gR σ k4 x2.toNatClampNeg))) k12 x2.toNatClampNeg))) k24 (upd (gR (setR (setR σ k8 (upd (gR σ k8) x2.toNatClampNeg (gR σ k4 x2.toNatClampNeg))) k16 (upd (gR (setR σ k8 (upd (gR σ k8) x2.toNatClampNeg (gR σ k4 x2.toNatClampNeg))) k16) x2.toNatClampNeg (gR (setR σ k8 (upd (gR σ k8) x2.toNatClampNeg (gR σ k4 x2.toNatClampNeg))) k12 x2.toNatClampNeg))) k24) x2.toNatClampNeg (gR (setR (setR σ k8 (upd (gR σ k8) x2.toNatClampNeg (gR σ k4 x2.toNatClampNeg))) k16 (upd (gR (setR σ k8 (upd (gR σ k8) x2.toNatClampNeg (gR σ k4 x2.toNatClampNeg))) k16) x2.toNatClampNeg (gR (setR σ k8 (upd (gR σ k8) x2.toNatClampNeg (gR σ k4 x2.toNatClampNeg))) k12 x2.toNatClampNeg))) k20 x2.toNatClampNeg))) k32 (upd (gR (setR (setR (setR σ k8 (upd (gR σ k8) x2.toNatClampNeg (gR σ k4 x2.toNatClampNeg))) k16 (upd (gR (setR σ k8 (upd (gR σ k8) x2.toNatClampNeg (gR σ k4 x2.toNatClampNeg))) k16) x2.toNatClampNeg (gR (setR σ k8 (upd (gR σ k8) x2.toNatClampNeg (gR σ k4 x2.toNatClampNeg))) k12 x2.toNatClampNeg))) k24 (upd (gR (setR (setR σ k8 (upd (gR σ k8) x2.toNatClampNeg (gR σ k4 x2.toNatClampNeg))) k16 (upd (gR (setR σ k8 (upd (gR σ k8) x2.toNatClampNeg (gR σ k4 x2.toNatClampNeg))) k16) x2.toNatClampNeg (gR (setR σ k8 (upd (gR σ k8) x2.toNatClampNeg (gR σ k4 x2.toNatClampNeg))) k12 x2.toNatClampNeg))) k24) x2.toNatClampNeg (gR (setR (setR σ k8 (upd (gR σ k8) x2.toNatClampNeg (gR σ k4 x2.toNatClampNeg))) k16 (upd (gR (setR σ k8 (upd (gR σ k8) x2.toNatClampNeg (gR σ k4 x2.toNatClampNeg))) k16) x2.toNatClampNeg (gR (setR σ k8 (upd (gR σ k8) x2.toNatClampNeg (gR σ k4 x2.toNatClampNeg))) k12 x2.toNatClampNeg))) k20 x2.toNatClampNeg))) k32) x2.toNatClampNeg (gR (setR (setR (setR σ k8 (upd (gR σ k8) x2.toNatClampNeg (gR σ k4 x2.toNatClampNeg))) k16 (upd (gR (setR σ k8 (upd (gR σ k8) x2.toNatClampNeg (gR σ k4 x2.toNatClampNeg))) k16) x2.toNatClampNeg (gR (setR σ k8 (upd (gR σ k8) x2.toNatClampNeg (gR σ k4 x2.toNatClampNeg))) k12 x2.toNatClampNeg))) k24 (upd (gR (setR (setR σ k8 (upd (gR σ k8) x2.toNatClampNeg (gR σ k4 x2.toNatClampNeg))) k16 (upd (gR (setR σ k8 (upd (gR σ k8) x2.toNatClampNeg (gR σ k4 x2.toNatClampNeg))) k16) x2.toNatClampNeg (gR (setR σ k8 (upd (gR σ k8) x2.toNatClampNeg (gR σ k4 x2.toNatClampNeg))) k12 x2.toNatClampNeg))) k24) x2.toNatClampNeg (gR (setR (setR σ k8 (upd (gR σ k8) x2.toNatClampNeg (gR σ k4 x2.toNatClampNeg))) k16 (upd (gR (setR σ k8 (upd (gR σ k8) x2.toNatClampNeg (gR σ k4 x2.toNatClampNeg))) k16) x2.toNatClampNeg (gR (setR σ k8 (upd (gR σ k8) x2.toNatClampNeg (gR σ k4 x2.toNatClampNeg))) k12 x2.toNatClampNeg))) k20 x2.toNatClampNeg))) k28 x2.toNatClampNeg))) k40 (upd (gR (setR (setR (setR (setR σ k8 (upd (gR σ k8) x2.toNatClampNeg (gR σ k4 x2.toNatClampNeg))) k16 (upd (gR (setR σ k8 (upd (gR σ k8) x2.toNatClampNeg (gR σ k4 x2.toNatClampNeg))) k16) x2.toNatClampNeg (gR (setR σ k8 (upd (gR σ k8) x2.toNatClampNeg (gR σ k4 x2.toNatClampNeg))) k12 x2.toNatClampNeg))) k24 (upd (gR (setR (setR σ k8 (upd (gR σ k8) x2.toNatClampNeg (gR σ k4 x2.toNatClampNeg))) k16 (upd (gR (setR σ k8 (upd (gR σ k8) x2.toNatClampNeg (gR σ k4 x2.toNatClampNeg))) k16) x2.toNatClampNeg (gR (setR σ k8 (upd (gR σ k8) x2.toNatClampNeg (gR σ k4 x2.toNatClampNeg))) k12 x2.toNatClampNeg))) k24) x2.toNatClampNeg (gR (setR (setR σ k8 (upd (gR σ k8) x2.toNatClampNeg (gR σ k4 x2.toNatClampNeg))) k16 (upd (gR (setR σ k8 (upd (gR σ k8) x2.toNatClampNeg (gR σ k4 x2.toNatClampNeg))) k16) x2.toNatClampNeg (gR (setR σ k8 (upd (gR σ k8) x2.toNatClampNeg (gR σ k4 x2.toNatClampNeg))) k12 x2.toNatClampNeg))) k20 x2.toNatClampNeg))) k32 (upd (gR (setR (setR (setR σ k8 (upd (gR σ k8) x2.toNatClampNeg (gR σ k4 x2.toNatClampNeg))) k16 (upd (gR (setR σ k8 (upd (gR σ k8) x2.toNatClampNeg (gR σ k4 x2.toNatClampNeg))) k16) x2.toNatClampNeg (gR (setR σ k8 (upd (gR σ k8) x2.toNatClampNeg (gR σ k4 x2.toNatClampNeg))) k12 x2.toNatClampNeg))) k24 (upd (gR (setR (setR σ k8 (upd (gR σ k8) x2.toNatClampNeg (gR σ k4 x2.toNatClampNeg))) k16 (upd (gR (setR σ k8 (upd (gR σ k8) x2.toNatClampNeg (gR σ k4 x2.toNatClampNeg))) k16) x2.toNatClampNeg (gR (setR σ k8 (upd (gR σ k8) x2.toNatClampNeg (gR σ k4 x2.toNatClampNeg))) k12 x2.toNatClampNeg))) k24) x2.toNatClampNeg (gR (setR (setR σ k8 (upd (gR σ k8) x2.toNatClampNeg (gR σ k4 x2.toNatClampNeg))) k16 (upd (gR (setR σ k8 (upd (gR σ k8) x2.toNatClampNeg (gR σ k4 x2.toNatClampNeg))) k16) x2.toNatClampNeg (gR (setR σ k8 (upd (gR σ k8) x2.toNatClampNeg (gR σ k4 x2.toNatClampNeg))) k12 x2.toNatClampNeg))) k20 x2.toNatClampNeg))) k32) x2.toNatClampNeg (gR (setR (setR (setR σ k8 (upd (gR σ k8) x2.toNatClampNeg (gR σ k4 x2.toNatClampNeg))) k16 (upd (gR (setR σ k8 (upd (gR σ k8) x2.toNatClampNeg (gR σ k4 x2.toNatClampNeg))) k16) x2.toNatClampNeg (gR (setR σ k8 (upd (gR σ k8) x2.toNatClampNeg (gR σ k4 x2.toNatClampNeg))) k12 x2.toNatClampNeg))) k24 (upd (gR (setR (setR σ k8 (upd (gR σ k8) x2.toNatClampNeg (gR σ k4 x2.toNatClampNeg))) k16 (upd (gR (setR σ k8 (upd (gR σ k8) x2.toNatClampNeg (gR σ k4 x2.toNatClampNeg))) k16) x2.toNatClampNeg (gR (setR σ k8 (upd (gR σ k8) x2.toNatClampNeg (gR σ k4 x2.toNatClampNeg))) k12 x2.toNatClampNeg))) k24) x2.toNatClampNeg (gR (setR (setR σ k8 (upd (gR σ k8) x2.toNatClampNeg (gR σ k4 x2.toNatClampNeg))) k16 (upd (gR (setR σ k8 (upd (gR σ k8) x2.toNatClampNeg (gR σ k4 x2.toNatClampNeg))) k16) x2.toNatClampNeg (gR (setR σ k8 (upd (gR σ k8) x2.toNatClampNeg (gR σ k4 x2.toNatClampNeg))) k12 x2.toNatClampNeg))) k20 x2.toNatClampNeg))) k28 x2.toNatClampNeg))) k40) x2.toNatClampNeg (gR (setR (setR (setR (setR σ k8 (upd (gR σ k8) x2.toNatClampNeg (gR σ k4 x2.toNatClampNeg))) k16 (upd (gR (setR σ k8 (upd (gR σ k8) x2.toNatClampNeg (gR σ k4 x2.toNatClampNeg))) k16) x2.toNatClampNeg (gR (setR σ k8 (upd (gR σ k8) x2.toNatClampNeg (gR σ k4 x2.toNatClampNeg))) k12 x2.toNatClampNeg))) k24 (upd (gR (setR (setR σ k8 (upd (gR σ k8) x2.toNatClampNeg (gR σ k4 x2.toNatClampNeg))) k16 (upd (gR (setR σ k8 (upd (gR σ k8) x2.toNatClampNeg (gR σ k4 x2.toNatClampNeg))) k16) x2.toNatClampNeg (gR (setR σ k8 (upd (gR σ k8) x2.toNatClampNeg (gR σ k4 x2.toNatClampNeg))) k12 x2.toNatClampNeg))) k24) x2.toNatClampNeg (gR (setR (setR σ k8 (upd (gR σ k8) x2.toNatClampNeg (gR σ k4 x2.toNatClampNeg))) k16 (upd (gR (setR σ k8 (upd (gR σ k8) x2.toNatClampNeg (gR σ k4 x2.toNatClampNeg))) k16) x2.toNatClampNeg (gR (setR σ k8 (upd (gR σ k8) x2.toNatClampNeg (gR σ k4 x2.toNatClampNeg))) k12 x2.toNatClampNeg))) k20 x2.toNatClampNeg))) k32 (upd (gR (setR (setR (setR σ k8 (upd (gR σ k8) x2.toNatClampNeg (gR σ k4 x2.toNatClampNeg))) k16 (upd (gR (setR σ k8 (upd (gR σ k8) x2.toNatClampNeg (gR σ k4 x2.toNatClampNeg))) k16) x2.toNatClampNeg (gR (setR σ k8 (upd (gR σ k8) x2.toNatClampNeg (gR σ k4 x2.toNatClampNeg))) k12 x2.toNatClampNeg))) k24 (upd (gR (setR (setR σ k8 (upd (gR σ k8) x2.toNatClampNeg (gR σ k4 x2.toNatClampNeg))) k16 (upd (gR (setR σ k8 (upd (gR σ k8) x2.toNatClampNeg (gR σ k4 x2.toNatClampNeg))) k16) x2.toNatClampNeg (gR (setR σ k8 (upd (gR σ k8) x2.toNatClampNeg (gR σ k4 x2.toNatClampNeg))) k12 x2.toNatClampNeg))) k24) x2.toNatClampNeg (gR (setR (setR σ k8 (upd (gR σ k8) x2.toNatClampNeg (gR σ k4 x2.toNatClampNeg))) k16 (upd (gR (setR σ k8 (upd (gR σ k8) x2.toNatClampNeg (gR σ k4 x2.toNatClampNeg))) k16) x2.toNatClampNeg (gR (setR σ k8 (upd (gR σ k8) x2.toNatClampNeg (gR σ k4 x2.toNatClampNeg))) k12 x2.toNatClampNeg))) k20 x2.toNatClampNeg))) k32) x2.toNatClampNeg (gR (setR (setR (setR σ k8 (upd (gR σ k8) x2.toNatClampNeg (gR σ k4 x2.toNatClampNeg))) k16 (upd (gR (setR σ k8 (upd (gR σ k8) x2.toNatClampNeg (gR σ k4 x2.toNatClampNeg))) k16) x2.toNatClampNeg (gR (setR σ k8 (upd (gR σ k8) x2.toNatClampNeg (gR σ k4 x2.toNatClampNeg))) k12 x2.toNatClampNeg))) k24 (upd (gR (setR (setR σ k8 (upd (gR σ k8) x2.toNatClampNeg (gR σ k4 x2.toNatClampNeg))) k16 (upd (gR (setR σ k8 (upd (gR σ k8) x2.toNatClampNeg (gR σ k4 x2.toNatClampNeg))) k16) x2.toNatClampNeg (gR (setR σ k8 (upd (gR σ k8) x2.toNatClampNeg (gR σ k4 x2.toNatClampNeg))) k12 x2.toNatClampNeg))) k24) x2.toNatClampNeg (gR (setR (setR σ k8 (upd (gR σ k8) x2.toNatClampNeg (gR σ k4 x2.toNatClampNeg))) k16 (upd (gR (setR σ k8 (upd (gR σ k8) x2.toNatClampNeg (gR σ k4 x2.toNatClampNeg))) k16) x2.toNatClampNeg (gR (setR σ k8 (upd (gR σ k8) x2.toNatClampNeg (gR σ k4 x2.toNatClampNeg))) k12 x2.toNatClampNeg))) k20 x2.toNatClampNeg))) k28 x2.toNatClampNeg))) k36 x2.toNatClampNeg))) H locs ls h hP hS (lv_sub hl [1, 0] rfl)
  unfold p_X6_delta at h
  refine lv_iload_n hx hb dX6_delta_0 rfl (lv_at hl 1 rfl) ?_
  refine f_i (kS (As := [.int x1]) (rest := []) ⟨hx, hb, hml, hown, hts⟩ (c_X6_isText l D cs ad x1 s0 _) (va_cwS 1 hts gX6_delta_X6_isText rfl rfl rfl (by decide +kernel) ⟨Nat.le_of_ble_eq_true rfl, Nat.le_of_ble_eq_true rfl⟩) hE hP h rfl hl.1 rfl (by first | exact lv_room (Nat.le_of_ble_eq_true rfl) | (refine lv_room ?_; simp [re_cat, cat_i, cat_l, cat_r])) dX6_delta_1 ⟨Nat.le_refl _, Nat.le_refl _⟩) hS (fun r2 s1 H locs h hP hS => ?_)
  refine lv_if_ne (tgt := 9) hx hb dX6_delta_4 (by decide) (fun c3 => ?_) (fun c3 => ?_)
  · replace h := h.2 c3
    refine lv_aload_n hx hb dX6_delta_9 rfl (lv_at hl 0 rfl) ?_
    refine va_get (ci := 5) (v := va_re ad (tM x0 8)) (C := RX6) (T := TX6) (N := 42) hx hb hts hi_X6 hown hE.1 hP x0 (w_5 hE hk0) rfl 8 (by decide) (hts (.fieldLink RX6 23 "HemLineModel" "textSize" "[I") (by decide +kernel)) (fun _ h9 => h9) rfl dX6_delta_10 ?_
    refine lv_iload_n hx hb dX6_delta_13 rfl (lv_at hl 1 rfl) ?_
    obtain ⟨k4, e5, q6, i7, h⟩ := h
    refine r_iald hx hb hE hP e5 q6 i7 dX6_delta_14 ?_
    refine lv_if_ge (tgt := 24) hx hb dX6_delta_15 (by decide) (fun c8 => ?_) (fun c8 => ?_)
    · replace h := h.1 c8
      refine lv_aload_n hx hb dX6_delta_24 rfl (lv_at hl 0 rfl) ?_
      refine lv_iload_n hx hb dX6_delta_25 rfl (lv_at hl 1 rfl) ?_
      refine f_v (kV (As := [.int x1]) (rest := []) (o := some x0) rfl ⟨hx, hb, hml, hown, hts⟩ (c_X6_read l D cs ad x0 x1 s1 _ hk0) (cwV 1 hts gX6_delta_X6_read rfl rfl rfl (by decide +kernel) ⟨Nat.le_of_ble_eq_true rfl, Nat.le_of_ble_eq_true rfl⟩) hE hP rfl rfl (w_5 hE hk0) h rfl hl.1 rfl (by first | exact lv_room (Nat.le_of_ble_eq_true rfl) | (refine lv_room ?_; simp [re_cat, cat_i, cat_l, cat_r])) dX6_delta_26 ⟨Nat.le_refl _, Nat.le_refl _⟩) hS (fun s9 H locs h hP hS => ?_)
      refine lv_aload_n hx hb dX6_delta_29 rfl (lv_at hl 0 rfl) ?_
      refine va_get (ci := 5) (v := .int (gI s9 x0 19)) (C := RX6) (T := TX6) (N := 42) hx hb hts hi_X6 hown hE.1 hP x0 (w_5 hE hk0) rfl 19 (by decide) (hts (.fieldLink RX6 141 "HemLineModel" "fault" "I") (by decide +kernel)) (fun _ h9 => h9) rfl dX6_delta_30 ?_
      refine lv_bipush (v := (-9)) hx hb dX6_delta_33 (by decide) ?_
      refine lv_icmp_eq (tgt := 41) hx hb dX6_delta_35 (by decide) (fun c10 => ?_) (fun c10 => ?_)
      · replace h := h.1 c10
        refine lv_aload_n hx hb dX6_delta_41 rfl (lv_at hl 0 rfl) ?_
        refine lv_aload_n hx hb dX6_delta_42 rfl (lv_at hl 0 rfl) ?_
        refine va_get (ci := 5) (v := .int (gI s9 x0 12)) (C := RX6) (T := TX6) (N := 42) hx hb hts hi_X6 hown hE.1 hP x0 (w_5 hE hk0) rfl 12 (by decide) (hts (.fieldLink RX6 147 "HemLineModel" "draftWomen" "I") (by decide +kernel)) (fun _ h9 => h9) rfl dX6_delta_43 ?_
        refine r_put (σ' := (setI s9 x0 20 (gI s9 x0 12))) (ci := 5) (v := .int (gI s9 x0 12)) (ty := .int) (C := RX6) (T := TX6) (N := 42) hx hb hts hi_X6 tyX6 tyX6_ok nmX6 hown hE hP hS x0 (w_5 hE hk0) rfl 20 (by decide) (hts (.fieldLink RX6 167 "HemLineModel" "women" "I") (by decide +kernel)) (fun _ h9 => h9) rfl (by decide +kernel) rfl rfl (Nat.le_of_ble_eq_true rfl) dX6_delta_46 (st_5_20 hE hk0 _) (fun H locs hP hS => ?_)
        refine lv_iconst (v := 0) hx hb dX6_delta_49 (by decide) ?_
        refine lv_istore_n (i := 2) (lv' := [(2, .int 0), (0, .ref (ad x0)), (1, .int x1)]) hx hb dX6_delta_50 rfl hl (by decide) (by first | rfl | simp [re_cat, cat_i, cat_l, cat_r]) (fun ls hl => ?_)
        obtain ⟨n11, h⟩ := h
        exact hB51 n11 0 (setI s9 x0 20 (gI s9 x0 12)) _ _ ls h hP hS (lv_sub hl [1, 0] rfl)
      · replace h := h.2 c10
        refine lv_bipush (v := (-4)) hx hb dX6_delta_38 (by decide) ?_
        exact W.iret hx hb hr (fun t ht hW => ⟨⟨_, _, rfl, h, pw ht hP⟩, hS.F ht⟩) hS.2.2 dX6_delta_40
    · replace h := h.2 c8
      refine lv_aload_n hx hb dX6_delta_18 rfl (lv_at hl 0 rfl) ?_
      refine lv_iconst (v := 1) hx hb dX6_delta_19 (by decide) ?_
      refine f_i (kV (As := [.int 1]) (rest := []) (o := some x0) rfl ⟨hx, hb, hml, hown, hts⟩ (c_X6_refuse l D cs ad x0 1 s1 _ hk0) (cwV 1 hts gX6_delta_X6_refuse rfl rfl rfl (by decide +kernel) ⟨Nat.le_of_ble_eq_true rfl, Nat.le_of_ble_eq_true rfl⟩) hE hP rfl rfl (w_5 hE hk0) h rfl hl.1 rfl (by first | exact lv_room (Nat.le_of_ble_eq_true rfl) | (refine lv_room ?_; simp [re_cat, cat_i, cat_l, cat_r])) dX6_delta_20 ⟨Nat.le_refl _, Nat.le_refl _⟩) hS (fun r13 s12 H locs h hP hS => ?_)
      exact W.iret hx hb hr (fun t ht hW => ⟨⟨_, _, rfl, h, pw ht hP⟩, hS.F ht⟩) hS.2.2 dX6_delta_23
  · replace h := h.1 c3
    refine lv_iconst (v := (-1)) hx hb dX6_delta_7 (by decide) ?_
    exact W.iret hx hb hr (fun t ht hW => ⟨⟨_, _, rfl, h, pw ht hP⟩, hS.F ht⟩) hS.2.2 dX6_delta_8
def p_X6_isWoman (x0 : Nat) (x1 : Int32) (s : Sg) (Q : Int32 → Sg → Prop) : Prop := p_X6_in x1 0 ((gI s x0 20) - 1) s (fun r2 s1 => (r2 = 0 ∨ r2 = 1) ∧ Q r2 s1)
set_option maxHeartbeats 4000000 in
set_option maxRecDepth 100000 in
theorem c_X6_isWoman (l : Launch) (D : va_G) (cs : Cs) (ad : Nat → Nat) (x0 : Nat) (x1 : Int32) (s0 : Sg) (Q : Int32 → Sg → Prop) (hk0 : kM x0 = 5) : Met l yX6_isWoman wsX6_isWoman { frames := 1, cells := 0, slots := 0, locals := 22 } (Pc0 bM D cs ad [.ref (ad x0), .int x1] s0 (p_X6_isWoman x0 x1 s0 Q)) (QI bM D cs ad Q) 0 0 (fAd bM ad) := by
  refine Met.ofW (cc := cX6_isWoman) (maxL := 2) (ret := (some .boolean)) (by decide) rfl ?_
  intro p e s m args below meth c s₁ B0 hml hv
  obtain ⟨ha, hP, hE, h⟩ := hv
  have hx := B0.exec
  have hb := B0.bytes
  have hr := B0.returns
  have hts := atoms_spec (ws := wsX6_isWoman) B0.pre
  have hown : s.vm.findClass RX6 = some m.cls := findClass_of_methodNamed B0.named
  have hlocks := B0.notSynchronized
  have hi_X6 : ∀ w ∈ u_ws RX6 TX6 42, w ∈ wsX6_isWoman := by decide +kernel
  have hS : va_S (fAd bM ad) s.heap s.heap [] := va_S.rf
  have hl := lv_entry ([.ref (ad x0), .int x1]) (n := 2) (by first | exact Nat.le_of_ble_eq_true rfl | simp [lg_sl, re_cat, cat_i, cat_l, cat_r])
  rw [show entryFrame m args 2 = entryFrame m ([.ref (ad x0), .int x1] : List Value).toArray 2 by rw [ha], lg_entry_eq]
  generalize (lg_sl ([.ref (ad x0), .int x1]) ++ List.replicate (2 - (lg_sl ([.ref (ad x0), .int x1])).length) Slot.unset).toArray = ls at hl ⊢
  have hl : lv_has ls 2 [(0, .ref (ad x0)), (1, .int x1)] := by first | exact hl | simpa [lv_args, re_cat, cat_i, cat_l, cat_r] using hl
  unfold p_X6_isWoman at h
  refine lv_iload_n hx hb dX6_isWoman_0 rfl (lv_at hl 1 rfl) ?_
  refine lv_iconst (v := 0) hx hb dX6_isWoman_1 (by decide) ?_
  refine lv_aload_n hx hb dX6_isWoman_2 rfl (lv_at hl 0 rfl) ?_
  refine va_get (ci := 5) (v := .int (gI s0 x0 20)) (C := RX6) (T := TX6) (N := 42) hx hb hts hi_X6 hown hE.1 hP x0 (w_5 hE hk0) rfl 20 (by decide) (hts (.fieldLink RX6 167 "HemLineModel" "women" "I") (by decide +kernel)) (fun _ h9 => h9) rfl dX6_isWoman_3 ?_
  refine lv_iconst (v := 1) hx hb dX6_isWoman_6 (by decide) ?_
  refine lv_isub hx hb dX6_isWoman_7 ?_
  refine f_i (kS (As := [.int x1, .int 0, .int ((gI s0 x0 20) - 1)]) (rest := []) ⟨hx, hb, hml, hown, hts⟩ (c_X6_in l D cs ad x1 0 ((gI s0 x0 20) - 1) s0 _) (va_cwS 3 hts gX6_isWoman_X6_in rfl rfl rfl (by decide +kernel) ⟨Nat.le_of_ble_eq_true rfl, Nat.le_of_ble_eq_true rfl⟩) hE hP h rfl hl.1 rfl (by first | exact lv_room (Nat.le_of_ble_eq_true rfl) | (refine lv_room ?_; simp [re_cat, cat_i, cat_l, cat_r])) dX6_isWoman_8 ⟨Nat.le_refl _, Nat.le_refl _⟩) hS (fun r2 s1 H locs h hP hS => ?_)
  obtain ⟨z3, h⟩ := h
  exact W.zret hx hb hr (by rcases z3 with z3 | z3 <;> rw [z3] <;> rfl) (fun t ht hW => ⟨⟨_, _, rfl, h, pw ht hP⟩, hS.F ht⟩) hS.2.2 dX6_isWoman_11
def p_X6_isHeight (x0 : Int32) (s : Sg) (Q : Int32 → Sg → Prop) : Prop := p_X6_in x0 0 20 s (fun r2 s1 => (r2 = 0 ∨ r2 = 1) ∧ Q r2 s1)
set_option maxHeartbeats 4000000 in
set_option maxRecDepth 100000 in
theorem c_X6_isHeight (l : Launch) (D : va_G) (cs : Cs) (ad : Nat → Nat) (x0 : Int32) (s0 : Sg) (Q : Int32 → Sg → Prop) : Met l yX6_isHeight wsX6_isHeight { frames := 1, cells := 0, slots := 0, locals := 22 } (Pc0 bM D cs ad [.int x0] s0 (p_X6_isHeight x0 s0 Q)) (QI bM D cs ad Q) 0 0 (fAd bM ad) := by
  refine Met.ofW (cc := cX6_isHeight) (maxL := 1) (ret := (some .boolean)) (by decide) rfl ?_
  intro p e s m args below meth c s₁ B0 hml hv
  obtain ⟨ha, hP, hE, h⟩ := hv
  have hx := B0.exec
  have hb := B0.bytes
  have hr := B0.returns
  have hts := atoms_spec (ws := wsX6_isHeight) B0.pre
  have hown : s.vm.findClass RX6 = some m.cls := findClass_of_methodNamed B0.named
  have hlocks := B0.notSynchronized
  have hS : va_S (fAd bM ad) s.heap s.heap [] := va_S.rf
  have hl := lv_entry ([.int x0]) (n := 1) (by first | exact Nat.le_of_ble_eq_true rfl | simp [lg_sl, re_cat, cat_i, cat_l, cat_r])
  rw [show entryFrame m args 1 = entryFrame m ([.int x0] : List Value).toArray 1 by rw [ha], lg_entry_eq]
  generalize (lg_sl ([.int x0]) ++ List.replicate (1 - (lg_sl ([.int x0])).length) Slot.unset).toArray = ls at hl ⊢
  have hl : lv_has ls 1 [(0, .int x0)] := by first | exact hl | simpa [lv_args, re_cat, cat_i, cat_l, cat_r] using hl
  unfold p_X6_isHeight at h
  refine lv_iload_n hx hb dX6_isHeight_0 rfl (lv_at hl 0 rfl) ?_
  refine lv_iconst (v := 0) hx hb dX6_isHeight_1 (by decide) ?_
  refine lv_bipush (v := 20) hx hb dX6_isHeight_2 (by decide) ?_
  refine f_i (kS (As := [.int x0, .int 0, .int 20]) (rest := []) ⟨hx, hb, hml, hown, hts⟩ (c_X6_in l D cs ad x0 0 20 s0 _) (va_cwS 3 hts gX6_isHeight_X6_in rfl rfl rfl (by decide +kernel) ⟨Nat.le_of_ble_eq_true rfl, Nat.le_of_ble_eq_true rfl⟩) hE hP h rfl hl.1 rfl (by first | exact lv_room (Nat.le_of_ble_eq_true rfl) | (refine lv_room ?_; simp [re_cat, cat_i, cat_l, cat_r])) dX6_isHeight_4 ⟨Nat.le_refl _, Nat.le_refl _⟩) hS (fun r2 s1 H locs h hP hS => ?_)
  obtain ⟨z3, h⟩ := h
  exact W.zret hx hb hr (by rcases z3 with z3 | z3 <;> rw [z3] <;> rfl) (fun t ht hW => ⟨⟨_, _, rfl, h, pw ht hP⟩, hS.F ht⟩) hS.2.2 dX6_isHeight_7
def p_X6_isPlace (x0 : Int32) (s : Sg) (Q : Int32 → Sg → Prop) : Prop := p_X6_in x0 0 5 s (fun r2 s1 => (r2 = 0 ∨ r2 = 1) ∧ Q r2 s1)
set_option maxHeartbeats 4000000 in
set_option maxRecDepth 100000 in
theorem c_X6_isPlace (l : Launch) (D : va_G) (cs : Cs) (ad : Nat → Nat) (x0 : Int32) (s0 : Sg) (Q : Int32 → Sg → Prop) : Met l yX6_isPlace wsX6_isPlace { frames := 1, cells := 0, slots := 0, locals := 22 } (Pc0 bM D cs ad [.int x0] s0 (p_X6_isPlace x0 s0 Q)) (QI bM D cs ad Q) 0 0 (fAd bM ad) := by
  refine Met.ofW (cc := cX6_isPlace) (maxL := 1) (ret := (some .boolean)) (by decide) rfl ?_
  intro p e s m args below meth c s₁ B0 hml hv
  obtain ⟨ha, hP, hE, h⟩ := hv
  have hx := B0.exec
  have hb := B0.bytes
  have hr := B0.returns
  have hts := atoms_spec (ws := wsX6_isPlace) B0.pre
  have hown : s.vm.findClass RX6 = some m.cls := findClass_of_methodNamed B0.named
  have hlocks := B0.notSynchronized
  have hS : va_S (fAd bM ad) s.heap s.heap [] := va_S.rf
  have hl := lv_entry ([.int x0]) (n := 1) (by first | exact Nat.le_of_ble_eq_true rfl | simp [lg_sl, re_cat, cat_i, cat_l, cat_r])
  rw [show entryFrame m args 1 = entryFrame m ([.int x0] : List Value).toArray 1 by rw [ha], lg_entry_eq]
  generalize (lg_sl ([.int x0]) ++ List.replicate (1 - (lg_sl ([.int x0])).length) Slot.unset).toArray = ls at hl ⊢
  have hl : lv_has ls 1 [(0, .int x0)] := by first | exact hl | simpa [lv_args, re_cat, cat_i, cat_l, cat_r] using hl
  unfold p_X6_isPlace at h
  refine lv_iload_n hx hb dX6_isPlace_0 rfl (lv_at hl 0 rfl) ?_
  refine lv_iconst (v := 0) hx hb dX6_isPlace_1 (by decide) ?_
  refine lv_iconst (v := 5) hx hb dX6_isPlace_2 (by decide) ?_
  refine f_i (kS (As := [.int x0, .int 0, .int 5]) (rest := []) ⟨hx, hb, hml, hown, hts⟩ (c_X6_in l D cs ad x0 0 5 s0 _) (va_cwS 3 hts gX6_isPlace_X6_in rfl rfl rfl (by decide +kernel) ⟨Nat.le_of_ble_eq_true rfl, Nat.le_of_ble_eq_true rfl⟩) hE hP h rfl hl.1 rfl (by first | exact lv_room (Nat.le_of_ble_eq_true rfl) | (refine lv_room ?_; simp [re_cat, cat_i, cat_l, cat_r])) dX6_isPlace_3 ⟨Nat.le_refl _, Nat.le_refl _⟩) hS (fun r2 s1 H locs h hP hS => ?_)
  obtain ⟨z3, h⟩ := h
  exact W.zret hx hb hr (by rcases z3 with z3 | z3 <;> rw [z3] <;> rfl) (fun t ht hW => ⟨⟨_, _, rfl, h, pw ht hP⟩, hS.F ht⟩) hS.2.2 dX6_isPlace_6
