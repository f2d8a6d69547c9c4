def p_X6_on_L38 (Q : Int32 → Sg → Prop)  : Nat → Nat → Int32 → Int32 → Sg → Prop
  | 0, _, _, _, _ => False
  | n + 1, x0, x1, x2, s => ((120 ≤ x2 → p_X6_goThrough x0 s (fun s2 => Q (gI s2 x0 36) s2)) ∧ (¬ 120 ≤ x2 → ∃ k3, tM x0 39 = some k3 ∧ kM k3 = 7 ∧ vp_in ((120 * x1) + x2) (lM k3) ∧ ∃ k7, tM x0 37 = some k7 ∧ kM k7 = 7 ∧ vp_in x2 (lM k7) ∧ p_X6_on_L38 Q  n x0 x1 (x2 + 1) (setR s k7 (upd (gR s k7) x2.toNatClampNeg (gR s k3 ((120 * x1) + x2).toNatClampNeg)))))
def p_X6_on (x0 : Nat) (x1 : Int32) (s : Sg) (Q : Int32 → Sg → Prop) : Prop := p_X6_in x1 0 2 s (fun r2 s1 => ((r2 = 0 → Q ((-1)) s1) ∧ (¬ r2 = 0 → ∃ k4, tM x0 38 = some k4 ∧ kM k4 = 7 ∧ vp_in x1 (lM k4) ∧ ((0 ≤ (gR s1 k4 x1.toNatClampNeg) → ∃ k9, tM x0 38 = some k9 ∧ kM k9 = 7 ∧ vp_in x1 (lM k9) ∧ (∃ n13, p_X6_on_L38 Q  n13 x0 x1 0 (setI s1 x0 36 (gR s1 k9 x1.toNatClampNeg)))) ∧ (¬ 0 ≤ (gR s1 k4 x1.toNatClampNeg) → p_X6_refuse x0 1 s1 (fun r15 s14 => Q r15 s14))))))
set_option maxHeartbeats 4000000 in
set_option maxRecDepth 100000 in
theorem c_X6_on (l : Launch) (D : va_G) (cs : Cs) (ad : Nat → Nat) (x0 : Nat) (x1 : Int32) (s0 : Sg) (Q : Int32 → Sg → Prop) (hk0 : kM x0 = 5) : Met l yX6_on wsX6_on { frames := 5, cells := 0, slots := 0, locals := 117 } (Pc0 bM D cs ad [.ref (ad x0), .int x1] s0 (p_X6_on x0 x1 s0 Q)) (QI bM D cs ad Q) 0 0 (fAd bM ad) := by
  refine Met.ofW (cc := cX6_on) (maxL := 3) (ret := (some .int)) (by decide) rfl ?_
  intro p e s m args below meth c s₁ B0 hml hv
  obtain ⟨ha, hP, hE, h⟩ := hv
  have hx := B0.exec
  have hb := B0.bytes
  have hr := B0.returns
  have hts := atoms_spec (ws := wsX6_on) B0.pre
  have hown : s.vm.findClass RX6 = some m.cls := findClass_of_methodNamed B0.named
  have hlocks := B0.notSynchronized
  have hi_X6 : ∀ w ∈ u_ws RX6 TX6 42, w ∈ wsX6_on := by decide +kernel
  have hS : va_S (fAd bM ad) s.heap s.heap [] := va_S.rf
  have hl := lv_entry ([.ref (ad x0), .int x1]) (n := 3) (by first | exact Nat.le_of_ble_eq_true rfl | simp [lg_sl, re_cat, cat_i, cat_l, cat_r])
  rw [show entryFrame m args 3 = entryFrame m ([.ref (ad x0), .int x1] : List Value).toArray 3 by rw [ha], lg_entry_eq]
  generalize (lg_sl ([.ref (ad x0), .int x1]) ++ List.replicate (3 - (lg_sl ([.ref (ad x0), .int x1])).length) Slot.unset).toArray = ls at hl ⊢
  have hl : lv_has ls 3 [(0, .ref (ad x0)), (1, .int x1)] := by first | exact hl | simpa [lv_args, re_cat, cat_i, cat_l, cat_r] using hl
  have hB38 : ∀ (n38 : Nat) (x1 : Int32) (x2 : Int32) (σ : Sg) (H : Heap) (locs : List Loc) (ls : Array Slot), p_X6_on_L38 Q  n38 x0 x1 x2 σ → va_P D vwCl (wl bM cs ad σ) H → va_S (fAd bM ad) s.heap H locs → lv_has ls 3 [(0, .ref (ad x0)), (1, .int x1), (2, .int x2)] → W p l e { frames := 5, cells := 0, slots := 0, locals := 117 } s m args below meth c H locs 0 0 (MQ below (QI bM D cs ad Q) args s 0 0 (fAd bM ad)) (F0 m 38 ls []) := by
    intro n38
    induction n38 with
    | zero =>
      intro x1 x2 σ H locs ls h
      exact h.elim
    | succ n38 ih =>
      have hK38 := ih
      intro x1 x2 σ H locs ls h hP hS hl
      rw [p_X6_on_L38] at h
      refine lv_iload_n hx hb dX6_on_38 rfl (lv_at hl 2 rfl) ?_
      refine lv_bipush (v := 120) hx hb dX6_on_39 (by decide) ?_
      refine lv_icmp_ge (tgt := 67) hx hb dX6_on_41 (by decide) (fun c1 => ?_) (fun c1 => ?_)
      · replace h := h.1 c1
        refine lv_aload_n hx hb dX6_on_67 rfl (lv_at hl 0 rfl) ?_
        refine f_v (kV (As := []) (rest := []) (o := some x0) rfl ⟨hx, hb, hml, hown, hts⟩ (c_X6_goThrough l D cs ad x0 σ _ hk0) (cwV 0 hts gX6_on_X6_goThrough rfl rfl rfl (by decide +kernel) ⟨Nat.le_of_ble_eq_true rfl, Nat.le_of_ble_eq_true rfl⟩) hE hP rfl rfl (w_5 hE hk0) h rfl hl.1 rfl (by first | exact lv_room (Nat.le_of_ble_eq_true rfl) | (refine lv_room ?_; simp [re_cat, cat_i, cat_l, cat_r])) dX6_on_68 ⟨Nat.le_refl _, Nat.le_refl _⟩) hS (fun s2 H locs h hP hS => ?_)
        refine lv_aload_n hx hb dX6_on_71 rfl (lv_at hl 0 rfl) ?_
        refine va_get (ci := 5) (v := .int (gI s2 x0 36)) (C := RX6) (T := TX6) (N := 42) hx hb hts hi_X6 hown hE.1 hP x0 (w_5 hE hk0) rfl 36 (by decide) (hts (.fieldLink RX6 173 "HemLineModel" "deeds" "I") (by decide +kernel)) (fun _ h9 => h9) rfl dX6_on_72 ?_
        exact W.iret hx hb hr (fun t ht hW => ⟨⟨_, _, rfl, h, pw ht hP⟩, hS.F ht⟩) hS.2.2 dX6_on_75
      · replace h := h.2 c1
        refine lv_aload_n hx hb dX6_on_44 rfl (lv_at hl 0 rfl) ?_
        refine va_get (ci := 5) (v := va_re ad (tM x0 37)) (C := RX6) (T := TX6) (N := 42) hx hb hts hi_X6 hown hE.1 hP x0 (w_5 hE hk0) rfl 37 (by decide) (hts (.fieldLink RX6 80 "HemLineModel" "deed" "[I") (by decide +kernel)) (fun _ h9 => h9) rfl dX6_on_45 ?_
        refine lv_iload_n hx hb dX6_on_48 rfl (lv_at hl 2 rfl) ?_
        refine lv_aload_n hx hb dX6_on_49 rfl (lv_at hl 0 rfl) ?_
        refine va_get (ci := 5) (v := va_re ad (tM x0 39)) (C := RX6) (T := TX6) (N := 42) hx hb hts hi_X6 hown hE.1 hP x0 (w_5 hE hk0) rfl 39 (by decide) (hts (.fieldLink RX6 86 "HemLineModel" "keptDeed" "[I") (by decide +kernel)) (fun _ h9 => h9) rfl dX6_on_50 ?_
        refine lv_bipush (v := 120) hx hb dX6_on_53 (by decide) ?_
        refine lv_iload_n hx hb dX6_on_55 rfl (lv_at hl 1 rfl) ?_
        refine lv_imul hx hb dX6_on_56 ?_
        refine lv_iload_n hx hb dX6_on_57 rfl (lv_at hl 2 rfl) ?_
        refine lv_iadd hx hb dX6_on_58 ?_
        obtain ⟨k3, e4, q5, i6, h⟩ := h
        refine r_iald hx hb hE hP e4 q5 i6 dX6_on_59 ?_
        obtain ⟨k7, e8, q9, i10, h⟩ := h
        refine r_iast hx hb hE hP hS e8 q9 i10 dX6_on_60 (fun H locs hP hS => ?_)
        refine lv_iinc (v := x2 + 1) (lv' := [(2, .int (x2 + 1)), (0, .ref (ad x0)), (1, .int x1)]) hx hb dX6_on_61 hl (k := 2) rfl rfl (by decide) (by first | rfl | simp [re_cat, cat_i, cat_l, cat_r]) (fun ls hl => ?_)
        refine lv_goto (tgt := 38) hx hb dX6_on_64 (by decide) ?_
        exact ih x1 (x2 + 1) (setR σ k7 (upd (gR σ k7) x2.toNatClampNeg (gR σ k3 ((120 * x1) + x2).toNatClampNeg))) H locs ls h hP hS (lv_sub hl [1, 2, 0] rfl)
  unfold p_X6_on at h
  refine lv_iload_n hx hb dX6_on_0 rfl (lv_at hl 1 rfl) ?_
  refine lv_iconst (v := 0) hx hb dX6_on_1 (by decide) ?_
  refine lv_iconst (v := 2) hx hb dX6_on_2 (by decide) ?_
  refine f_i (kS (As := [.int x1, .int 0, .int 2]) (rest := []) ⟨hx, hb, hml, hown, hts⟩ (c_X6_in l D cs ad x1 0 2 s0 _) (va_cwS 3 hts gX6_on_X6_in rfl rfl rfl (by decide +kernel) ⟨Nat.le_of_ble_eq_true rfl, Nat.le_of_ble_eq_true rfl⟩) hE hP h rfl hl.1 rfl (by first | exact lv_room (Nat.le_of_ble_eq_true rfl) | (refine lv_room ?_; simp [re_cat, cat_i, cat_l, cat_r])) dX6_on_3 ⟨Nat.le_refl _, Nat.le_refl _⟩) hS (fun r2 s1 H locs h hP hS => ?_)
  refine lv_if_ne (tgt := 11) hx hb dX6_on_6 (by decide) (fun c3 => ?_) (fun c3 => ?_)
  · replace h := h.2 c3
    refine lv_aload_n hx hb dX6_on_11 rfl (lv_at hl 0 rfl) ?_
    refine va_get (ci := 5) (v := va_re ad (tM x0 38)) (C := RX6) (T := TX6) (N := 42) hx hb hts hi_X6 hown hE.1 hP x0 (w_5 hE hk0) rfl 38 (by decide) (hts (.fieldLink RX6 83 "HemLineModel" "keptDeeds" "[I") (by decide +kernel)) (fun _ h9 => h9) rfl dX6_on_12 ?_
    refine lv_iload_n hx hb dX6_on_15 rfl (lv_at hl 1 rfl) ?_
    obtain ⟨k4, e5, q6, i7, h⟩ := h
    refine r_iald hx hb hE hP e5 q6 i7 dX6_on_16 ?_
    refine lv_if_ge (tgt := 26) hx hb dX6_on_17 (by decide) (fun c8 => ?_) (fun c8 => ?_)
    · replace h := h.1 c8
      refine lv_aload_n hx hb dX6_on_26 rfl (lv_at hl 0 rfl) ?_
      refine lv_aload_n hx hb dX6_on_27 rfl (lv_at hl 0 rfl) ?_
      refine va_get (ci := 5) (v := va_re ad (tM x0 38)) (C := RX6) (T := TX6) (N := 42) hx hb hts hi_X6 hown hE.1 hP x0 (w_5 hE hk0) rfl 38 (by decide) (hts (.fieldLink RX6 83 "HemLineModel" "keptDeeds" "[I") (by decide +kernel)) (fun _ h9 => h9) rfl dX6_on_28 ?_
      refine lv_iload_n hx hb dX6_on_31 rfl (lv_at hl 1 rfl) ?_
      obtain ⟨k9, e10, q11, i12, h⟩ := h
      refine r_iald hx hb hE hP e10 q11 i12 dX6_on_32 ?_
      refine r_put (σ' := (setI s1 x0 36 (gR s1 k9 x1.toNatClampNeg))) (ci := 5) (v := .int (gR s1 k9 x1.toNatClampNeg)) (ty := .int) (C := RX6) (T := TX6) (N := 42) hx hb hts hi_X6 tyX6 tyX6_ok nmX6 hown hE hP hS x0 (w_5 hE hk0) rfl 36 (by decide) (hts (.fieldLink RX6 173 "HemLineModel" "deeds" "I") (by decide +kernel)) (fun _ h9 => h9) rfl (by decide +kernel) rfl rfl (Nat.le_of_ble_eq_true rfl) dX6_on_33 (st_5_36 hE hk0 _) (fun H locs hP hS => ?_)
      refine lv_iconst (v := 0) hx hb dX6_on_36 (by decide) ?_
      refine lv_istore_n (i := 2) (lv' := [(2, .int 0), (0, .ref (ad x0)), (1, .int x1)]) hx hb dX6_on_37 rfl hl (by decide) (by first | rfl | simp [re_cat, cat_i, cat_l, cat_r]) (fun ls hl => ?_)
      obtain ⟨n13, h⟩ := h
      exact hB38 n13 x1 0 (setI s1 x0 36 (gR s1 k9 x1.toNatClampNeg)) _ _ ls h hP hS (lv_sub hl [1, 2, 0] rfl)
    · replace h := h.2 c8
      refine lv_aload_n hx hb dX6_on_20 rfl (lv_at hl 0 rfl) ?_
      refine lv_iconst (v := 1) hx hb dX6_on_21 (by decide) ?_
      refine f_i (kV (As := [.int 1]) (rest := []) (o := some x0) rfl ⟨hx, hb, hml, hown, hts⟩ (c_X6_refuse l D cs ad x0 1 s1 _ hk0) (cwV 1 hts gX6_on_X6_refuse rfl rfl rfl (by decide +kernel) ⟨Nat.le_of_ble_eq_true rfl, Nat.le_of_ble_eq_true rfl⟩) hE hP rfl rfl (w_5 hE hk0) h rfl hl.1 rfl (by first | exact lv_room (Nat.le_of_ble_eq_true rfl) | (refine lv_room ?_; simp [re_cat, cat_i, cat_l, cat_r])) dX6_on_22 ⟨Nat.le_refl _, Nat.le_refl _⟩) hS (fun r15 s14 H locs h hP hS => ?_)
      exact W.iret hx hb hr (fun t ht hW => ⟨⟨_, _, rfl, h, pw ht hP⟩, hS.F ht⟩) hS.2.2 dX6_on_25
  · replace h := h.1 c3
    refine lv_iconst (v := (-1)) hx hb dX6_on_9 (by decide) ?_
    exact W.iret hx hb hr (fun t ht hW => ⟨⟨_, _, rfl, h, pw ht hP⟩, hS.F ht⟩) hS.2.2 dX6_on_10
def p_X6_all (x0 : Nat) (s : Sg) (Q : Int32 → Sg → Prop) : Prop := Q ((1 <<< ((gI s x0 20) &&& 31)) - 1) s
set_option maxHeartbeats 4000000 in
set_option maxRecDepth 100000 in
theorem c_X6_all (l : Launch) (D : va_G) (cs : Cs) (ad : Nat → Nat) (x0 : Nat) (s0 : Sg) (Q : Int32 → Sg → Prop) (hk0 : kM x0 = 5) : Met l yX6_all wsX6_all { frames := 0, cells := 0, slots := 0, locals := 0 } (Pc0 bM D cs ad [.ref (ad x0)] s0 (p_X6_all x0 s0 Q)) (QI bM D cs ad Q) 0 0 (fAd bM ad) := by
  refine Met.ofW (cc := cX6_all) (maxL := 1) (ret := (some .int)) (by decide) rfl ?_
  intro p e s m args below meth c s₁ B0 hml hv
  obtain ⟨ha, hP, hE, h⟩ := hv
  have hx := B0.exec
  have hb := B0.bytes
  have hr := B0.returns
  have hts := atoms_spec (ws := wsX6_all) B0.pre
  have hown : s.vm.findClass RX6 = some m.cls := findClass_of_methodNamed B0.named
  have hlocks := B0.notSynchronized
  have hi_X6 : ∀ w ∈ u_ws RX6 TX6 42, w ∈ wsX6_all := by decide +kernel
  have hS : va_S (fAd bM ad) s.heap s.heap [] := va_S.rf
  have hl := lv_entry ([.ref (ad x0)]) (n := 1) (by first | exact Nat.le_of_ble_eq_true rfl | simp [lg_sl, re_cat, cat_i, cat_l, cat_r])
  rw [show entryFrame m args 1 = entryFrame m ([.ref (ad x0)] : List Value).toArray 1 by rw [ha], lg_entry_eq]
  generalize (lg_sl ([.ref (ad x0)]) ++ List.replicate (1 - (lg_sl ([.ref (ad x0)])).length) Slot.unset).toArray = ls at hl ⊢
  have hl : lv_has ls 1 [(0, .ref (ad x0))] := by first | exact hl | simpa [lv_args, re_cat, cat_i, cat_l, cat_r] using hl
  unfold p_X6_all at h
  refine lv_iconst (v := 1) hx hb dX6_all_0 (by decide) ?_
  refine lv_aload_n hx hb dX6_all_1 rfl (lv_at hl 0 rfl) ?_
  refine va_get (ci := 5) (v := .int (gI s0 x0 20)) (C := RX6) (T := TX6) (N := 42) hx hb hts hi_X6 hown hE.1 hP x0 (w_5 hE hk0) rfl 20 (by decide) (hts (.fieldLink RX6 167 "HemLineModel" "women" "I") (by decide +kernel)) (fun _ h9 => h9) rfl dX6_all_2 ?_
  refine lv_ishl hx hb dX6_all_5 ?_
  refine lv_iconst (v := 1) hx hb dX6_all_6 (by decide) ?_
  refine lv_isub hx hb dX6_all_7 ?_
  exact W.iret hx hb hr (fun t ht hW => ⟨⟨_, _, rfl, h, pw ht hP⟩, hS.F ht⟩) hS.2.2 dX6_all_8
def p_X6_manyOf_L4 (Q : Int32 → Sg → Prop)  : Nat → Int32 → Int32 → Int32 → Sg → Prop
  | 0, _, _, _, _ => False
  | n + 1, x0, x1, x2, s => ((20 < x2 → Q x1 s) ∧ (¬ 20 < x2 → p_X6_manyOf_L4 Q  n x0 (x1 + ((x0 >>> (x2 &&& 31)) &&& 1)) (x2 + 1) s))
def p_X6_manyOf (x0 : Int32) (s : Sg) (Q : Int32 → Sg → Prop) : Prop := (∃ n1, p_X6_manyOf_L4 Q  n1 x0 0 0 s)
set_option maxHeartbeats 4000000 in
set_option maxRecDepth 100000 in
theorem c_X6_manyOf (l : Launch) (D : va_G) (cs : Cs) (ad : Nat → Nat) (x0 : Int32) (s0 : Sg) (Q : Int32 → Sg → Prop) : Met l yX6_manyOf wsX6_manyOf { frames := 0, cells := 0, slots := 0, locals := 0 } (Pc0 bM D cs ad [.int x0] s0 (p_X6_manyOf x0 s0 Q)) (QI bM D cs ad Q) 0 0 (fAd bM ad) := by
  refine Met.ofW (cc := cX6_manyOf) (maxL := 3) (ret := (some .int)) (by decide) rfl ?_
  intro p e s m args below meth c s₁ B0 hml hv
  obtain ⟨ha, hP, hE, h⟩ := hv
  have hx := B0.exec
  have hb := B0.bytes
  have hr := B0.returns
  have hts := atoms_spec (ws := wsX6_manyOf) B0.pre
  have hown : s.vm.findClass RX6 = some m.cls := findClass_of_methodNamed B0.named
  have hlocks := B0.notSynchronized
  have hS : va_S (fAd bM ad) s.heap s.heap [] := va_S.rf
  have hl := lv_entry ([.int x0]) (n := 3) (by first | exact Nat.le_of_ble_eq_true rfl | simp [lg_sl, re_cat, cat_i, cat_l, cat_r])
  rw [show entryFrame m args 3 = entryFrame m ([.int x0] : List Value).toArray 3 by rw [ha], lg_entry_eq]
  generalize (lg_sl ([.int x0]) ++ List.replicate (3 - (lg_sl ([.int x0])).length) Slot.unset).toArray = ls at hl ⊢
  have hl : lv_has ls 3 [(0, .int x0)] := by first | exact hl | simpa [lv_args, re_cat, cat_i, cat_l, cat_r] using hl
  have hB4 : ∀ (n4 : Nat) (x0 : Int32) (x1 : Int32) (x2 : Int32) (σ : Sg) (H : Heap) (locs : List Loc) (ls : Array Slot), p_X6_manyOf_L4 Q  n4 x0 x1 x2 σ → va_P D vwCl (wl bM cs ad σ) H → va_S (fAd bM ad) s.heap H locs → lv_has ls 3 [(0, .int x0), (1, .int x1), (2, .int x2)] → W p l e { frames := 0, cells := 0, slots := 0, locals := 0 } s m args below meth c H locs 0 0 (MQ below (QI bM D cs ad Q) args s 0 0 (fAd bM ad)) (F0 m 4 ls []) := by
    intro n4
    induction n4 with
    | zero =>
      intro x0 x1 x2 σ H locs ls h
      exact h.elim
    | succ n4 ih =>
      have hK4 := ih
      intro x0 x1 x2 σ H locs ls h hP hS hl
      rw [p_X6_manyOf_L4] at h
      refine lv_iload_n hx hb dX6_manyOf_4 rfl (lv_at hl 2 rfl) ?_
      refine lv_bipush (v := 20) hx hb dX6_manyOf_5 (by decide) ?_
      refine lv_icmp_gt (tgt := 24) hx hb dX6_manyOf_7 (by decide) (fun c1 => ?_) (fun c1 => ?_)
      · replace h := h.1 c1
        refine lv_iload_n hx hb dX6_manyOf_24 rfl (lv_at hl 1 rfl) ?_
        exact W.iret hx hb hr (fun t ht hW => ⟨⟨_, _, rfl, h, pw ht hP⟩, hS.F ht⟩) hS.2.2 dX6_manyOf_25
      · replace h := h.2 c1
        refine lv_iload_n hx hb dX6_manyOf_10 rfl (lv_at hl 1 rfl) ?_
        refine lv_iload_n hx hb dX6_manyOf_11 rfl (lv_at hl 0 rfl) ?_
        refine lv_iload_n hx hb dX6_manyOf_12 rfl (lv_at hl 2 rfl) ?_
        refine lv_ishr hx hb dX6_manyOf_13 ?_
        refine lv_iconst (v := 1) hx hb dX6_manyOf_14 (by decide) ?_
        refine lv_iand hx hb dX6_manyOf_15 ?_
        refine lv_iadd hx hb dX6_manyOf_16 ?_
        refine lv_istore_n (i := 1) (lv' := [(1, .int (x1 + ((x0 >>> (x2 &&& 31)) &&& 1))), (0, .int x0), (2, .int x2)]) hx hb dX6_manyOf_17 rfl hl (by decide) (by first | rfl | simp [re_cat, cat_i, cat_l, cat_r]) (fun ls hl => ?_)
        refine lv_iinc (v := x2 + 1) (lv' := [(2, .int (x2 + 1)), (1, .int (x1 + ((x0 >>> (x2 &&& 31)) &&& 1))), (0, .int x0)]) hx hb dX6_manyOf_18 hl (k := 2) rfl rfl (by decide) (by first | rfl | simp [re_cat, cat_i, cat_l, cat_r]) (fun ls hl => ?_)
        refine lv_goto (tgt := 4) hx hb dX6_manyOf_21 (by decide) ?_
        exact ih x0 (x1 + ((x0 >>> (x2 &&& 31)) &&& 1)) (x2 + 1) σ H locs ls h hP hS (lv_sub hl [2, 1, 0] rfl)
  unfold p_X6_manyOf at h
  refine lv_iconst (v := 0) hx hb dX6_manyOf_0 (by decide) ?_
  refine lv_istore_n (i := 1) (lv' := [(1, .int 0), (0, .int x0)]) hx hb dX6_manyOf_1 rfl hl (by decide) (by first | rfl | simp [re_cat, cat_i, cat_l, cat_r]) (fun ls hl => ?_)
  refine lv_iconst (v := 0) hx hb dX6_manyOf_2 (by decide) ?_
  refine lv_istore_n (i := 2) (lv' := [(2, .int 0), (1, .int 0), (0, .int x0)]) hx hb dX6_manyOf_3 rfl hl (by decide) (by first | rfl | simp [re_cat, cat_i, cat_l, cat_r]) (fun ls hl => ?_)
  obtain ⟨n1, h⟩ := h
  exact hB4 n1 x0 0 0 s0 _ _ ls h hP hS (lv_sub hl [2, 1, 0] rfl)
def p_X6_known_b77 (Q : Int32 → Sg → Prop) (K18 : Nat → Int32 → Int32 → Int32 → Int32 → Int32 → Int32 → Sg → Prop) (x0 : Nat) (x1 : Int32) (x2 : Int32) (x3 : Int32) (x4 : Int32) (x6 : Int32) (t0 : Int32) (s : Sg) : Prop := K18 x0 x1 x2 x3 x4 t0 (x6 + 1) s
def p_X6_known_b72 (Q : Int32 → Sg → Prop) (K18 : Nat → Int32 → Int32 → Int32 → Int32 → Int32 → Int32 → Sg → Prop) (x0 : Nat) (x1 : Int32) (x2 : Int32) (x3 : Int32) (x4 : Int32) (x6 : Int32) (s : Sg) : Prop := p_X6_known_b77 Q K18 x0 x1 x2 x3 x4 x6 1 s
def p_X6_known_b76 (Q : Int32 → Sg → Prop) (K18 : Nat → Int32 → Int32 → Int32 → Int32 → Int32 → Int32 → Sg → Prop) (x0 : Nat) (x1 : Int32) (x2 : Int32) (x3 : Int32) (x4 : Int32) (x6 : Int32) (s : Sg) : Prop := p_X6_known_b77 Q K18 x0 x1 x2 x3 x4 x6 0 s
def p_X6_known_b99 (Q : Int32 → Sg → Prop) (K5 : Nat → Int32 → Int32 → Int32 → Int32 → Sg → Prop) (x0 : Nat) (x1 : Int32) (x2 : Int32) (x4 : Int32) (t0 : Int32) (t1 : Int32) (s : Sg) : Prop := K5 x0 x1 x2 (t0 ||| t1) (x4 + 1) s
def p_X6_known_L18 (Q : Int32 → Sg → Prop) (K5 : Nat → Int32 → Int32 → Int32 → Int32 → Sg → Prop) : Nat → Nat → Int32 → Int32 → Int32 → Int32 → Int32 → Int32 → Sg → Prop
  | 0, _, _, _, _, _, _, _, _ => False
  | n + 1, x0, x1, x2, x3, x4, x5, x6, s => (((gI s x0 20) ≤ x6 → ((x5 = 0 → p_X6_known_b99 Q K5 x0 x1 x2 x4 x3 0 s) ∧ (¬ x5 = 0 → p_X6_known_b99 Q K5 x0 x1 x2 x4 x3 (1 <<< (x4 &&& 31)) s))) ∧ (¬ (gI s x0 20) ≤ x6 → ((x5 = 0 → p_X6_known_b76 Q (fun y0 y1 y2 y3 y4 y5 y6 u => p_X6_known_L18 Q K5 n y0 y1 y2 y3 y4 y5 y6 u) x0 x1 x2 x3 x4 x6 s) ∧ (¬ x5 = 0 → ((((x1 >>> (x6 &&& 31)) &&& 1) = 0 → p_X6_known_b72 Q (fun y0 y1 y2 y3 y4 y5 y6 u => p_X6_known_L18 Q K5 n y0 y1 y2 y3 y4 y5 y6 u) x0 x1 x2 x3 x4 x6 s) ∧ (¬ ((x1 >>> (x6 &&& 31)) &&& 1) = 0 → ∃ k5, tM x0 21 = some k5 ∧ kM k5 = 7 ∧ vp_in x6 (lM k5) ∧ p_X6_hemThen x0 (gR s k5 x6.toNatClampNeg) x6 x2 x4 s (fun r10 s9 => ∃ k11, tM x0 33 = some k11 ∧ kM k11 = 7 ∧ vp_in ((6 * x2) + x6) (lM k11) ∧ ((r10 = (gR s9 k11 ((6 * x2) + x6).toNatClampNeg) → p_X6_known_b72 Q (fun y0 y1 y2 y3 y4 y5 y6 u => p_X6_known_L18 Q K5 n y0 y1 y2 y3 y4 y5 y6 u) x0 x1 x2 x3 x4 x6 s9) ∧ (¬ r10 = (gR s9 k11 ((6 * x2) + x6).toNatClampNeg) → p_X6_known_b76 Q (fun y0 y1 y2 y3 y4 y5 y6 u => p_X6_known_L18 Q K5 n y0 y1 y2 y3 y4 y5 y6 u) x0 x1 x2 x3 x4 x6 s9)))))))))
def p_X6_known_L5 (Q : Int32 → Sg → Prop)  : Nat → Nat → Int32 → Int32 → Int32 → Int32 → Sg → Prop
  | 0, _, _, _, _, _, _ => False
  | n + 1, x0, x1, x2, x3, x4, s => ((20 < x4 → Q x3 s) ∧ (¬ 20 < x4 → (∃ n2, p_X6_known_L18 Q (fun y0 y1 y2 y3 y4 u => p_X6_known_L5 Q  n y0 y1 y2 y3 y4 u) n2 x0 x1 x2 x3 x4 1 0 s)))
def p_X6_known (x0 : Nat) (x1 : Int32) (x2 : Int32) (s : Sg) (Q : Int32 → Sg → Prop) : Prop := (∃ n1, p_X6_known_L5 Q  n1 x0 x1 x2 0 0 s)
set_option maxHeartbeats 4000000 in
set_option maxRecDepth 100000 in
theorem c_X6_known (l : Launch) (D : va_G) (cs : Cs) (ad : Nat → Nat) (x0 : Nat) (x1 : Int32) (x2 : Int32) (s0 : Sg) (Q : Int32 → Sg → Prop) (hk0 : kM x0 = 5) : Met l yX6_known wsX6_known { frames := 3, cells := 0, slots := 0, locals := 73 } (Pc0 bM D cs ad [.ref (ad x0), .int x1, .int x2] s0 (p_X6_known x0 x1 x2 s0 Q)) (QI bM D cs ad Q) 0 0 (fAd bM ad) := by
  refine Met.ofW (cc := cX6_known) (maxL := 7) (ret := (some .int)) (by decide) rfl ?_
  intro p e s m args below meth c s₁ B0 hml hv
  obtain ⟨ha, hP, hE, h⟩ := hv
  have hx := B0.exec
  have hb := B0.bytes
  have hr := B0.returns
  have hts := atoms_spec (ws := wsX6_known) B0.pre
  have hown : s.vm.findClass RX6 = some m.cls := findClass_of_methodNamed B0.named
  have hlocks := B0.notSynchronized
  have hi_X6 : ∀ w ∈ u_ws RX6 TX6 42, w ∈ wsX6_known := by decide +kernel
  have hS : va_S (fAd bM ad) s.heap s.heap [] := va_S.rf
  have hl := lv_entry ([.ref (ad x0), .int x1, .int x2]) (n := 7) (by first | exact Nat.le_of_ble_eq_true rfl | simp [lg_sl, re_cat, cat_i, cat_l, cat_r])
  rw [show entryFrame m args 7 = entryFrame m ([.ref (ad x0), .int x1, .int x2] : List Value).toArray 7 by rw [ha], lg_entry_eq]
  generalize (lg_sl ([.ref (ad x0), .int x1, .int x2]) ++ List.replicate (7 - (lg_sl ([.ref (ad x0), .int x1, .int x2])).length) Slot.unset).toArray = ls at hl ⊢
  have hl : lv_has ls 7 [(0, .ref (ad x0)), (1, .int x1), (2, .int x2)] := by first | exact hl | simpa [lv_args, re_cat, cat_i, cat_l, cat_r] using hl
  have hB5 : ∀ (n5 : Nat) (x1 : Int32) (x2 : Int32) (x3 : Int32) (x4 : Int32) (σ : Sg) (H : Heap) (locs : List Loc) (ls : Array Slot), p_X6_known_L5 Q  n5 x0 x1 x2 x3 x4 σ → va_P D vwCl (wl bM cs ad σ) H → va_S (fAd bM ad) s.heap H locs → lv_has ls 7 [(0, .ref (ad x0)), (1, .int x1), (2, .int x2), (3, .int x3), (4, .int x4)] → W p l e { frames := 3, cells := 0, slots := 0, locals := 73 } s m args below meth c H locs 0 0 (MQ below (QI bM D cs ad Q) args s 0 0 (fAd bM ad)) (F0 m 5 ls []) := by
    intro n5
    induction n5 with
    | zero =>
      intro x1 x2 x3 x4 σ H locs ls h
      exact h.elim
    | succ n5 ih =>
      have hK5 := ih
      have hB99 : ∀ (x1 : Int32) (x2 : Int32) (x4 : Int32) (t0 : Int32) (t1 : Int32) (σ : Sg) (H : Heap) (locs : List Loc) (ls : Array Slot), p_X6_known_b99 Q (fun y0 y1 y2 y3 y4 u => p_X6_known_L5 Q  n5 y0 y1 y2 y3 y4 u) x0 x1 x2 x4 t0 t1 σ → va_P D vwCl (wl bM cs ad σ) H → va_S (fAd bM ad) s.heap H locs → lv_has ls 7 [(0, .ref (ad x0)), (1, .int x1), (2, .int x2), (4, .int x4)] → W p l e { frames := 3, cells := 0, slots := 0, locals := 73 } s m args below meth c H locs 0 0 (MQ below (QI bM D cs ad Q) args s 0 0 (fAd bM ad)) (F0 m 99 ls [.int t1, .int t0]) := by
        intro x1 x2 x4 t0 t1 σ H locs ls h hP hS hl
        unfold p_X6_known_b99 at h
        refine lv_ior hx hb dX6_known_99 ?_
        refine lv_istore_n (i := 3) (lv' := [(3, .int (t0 ||| t1)), (0, .ref (ad x0)), (1, .int x1), (2, .int x2), (4, .int x4)]) hx hb dX6_known_100 rfl hl (by decide) (by first | rfl | simp [re_cat, cat_i, cat_l, cat_r]) (fun ls hl => ?_)
        refine lv_iinc (v := x4 + 1) (lv' := [(4, .int (x4 + 1)), (3, .int (t0 ||| t1)), (0, .ref (ad x0)), (1, .int x1), (2, .int x2)]) hx hb dX6_known_101 hl (k := 4) rfl rfl (by decide) (by first | rfl | simp [re_cat, cat_i, cat_l, cat_r]) (fun ls hl => ?_)
        refine lv_goto (tgt := 5) hx hb dX6_known_104 (by decide) ?_
        exact hK5 x1 x2 (t0 ||| t1) (x4 + 1) σ H locs ls h hP hS (lv_sub hl [2, 3, 4, 1, 0] rfl)
      have hB18 : ∀ (n18 : Nat) (x1 : Int32) (x2 : Int32) (x3 : Int32) (x4 : Int32) (x5 : Int32) (x6 : Int32) (σ : Sg) (H : Heap) (locs : List Loc) (ls : Array Slot), p_X6_known_L18 Q (fun y0 y1 y2 y3 y4 u => p_X6_known_L5 Q  n5 y0 y1 y2 y3 y4 u) n18 x0 x1 x2 x3 x4 x5 x6 σ → va_P D vwCl (wl bM cs ad σ) H → va_S (fAd bM ad) s.heap H locs → lv_has ls 7 [(0, .ref (ad x0)), (1, .int x1), (2, .int x2), (3, .int x3), (4, .int x4), (5, .int x5), (6, .int x6)] → W p l e { frames := 3, cells := 0, slots := 0, locals := 73 } s m args below meth c H locs 0 0 (MQ below (QI bM D cs ad Q) args s 0 0 (fAd bM ad)) (F0 m 18 ls []) := by
        intro n18
        induction n18 with
        | zero =>
          intro x1 x2 x3 x4 x5 x6 σ H locs ls h
          exact h.elim
        | succ n18 ih =>
          have hK18 := ih
          have hB77 : ∀ (x1 : Int32) (x2 : Int32) (x3 : Int32) (x4 : Int32) (x6 : Int32) (t0 : Int32) (σ : Sg) (H : Heap) (locs : List Loc) (ls : Array Slot), p_X6_known_b77 Q (fun y0 y1 y2 y3 y4 y5 y6 u => p_X6_known_L18 Q (fun y0 y1 y2 y3 y4 u => p_X6_known_L5 Q  n5 y0 y1 y2 y3 y4 u) n18 y0 y1 y2 y3 y4 y5 y6 u) x0 x1 x2 x3 x4 x6 t0 σ → va_P D vwCl (wl bM cs ad σ) H → va_S (fAd bM ad) s.heap H locs → lv_has ls 7 [(0, .ref (ad x0)), (1, .int x1), (2, .int x2), (3, .int x3), (4, .int x4), (6, .int x6)] → W p l e { frames := 3, cells := 0, slots := 0, locals := 73 } s m args below meth c H locs 0 0 (MQ below (QI bM D cs ad Q) args s 0 0 (fAd bM ad)) (F0 m 77 ls [.int t0]) := by
            intro x1 x2 x3 x4 x6 t0 σ H locs ls h hP hS hl
            unfold p_X6_known_b77 at h
            refine lv_istore (i := 5) (lv' := [(5, .int t0), (0, .ref (ad x0)), (1, .int x1), (2, .int x2), (3, .int x3), (4, .int x4), (6, .int x6)]) hx hb dX6_known_77 hl (by decide) (by first | rfl | simp [re_cat, cat_i, cat_l, cat_r]) (fun ls hl => ?_)
            refine lv_iinc (v := x6 + 1) (lv' := [(6, .int (x6 + 1)), (5, .int t0), (0, .ref (ad x0)), (1, .int x1), (2, .int x2), (3, .int x3), (4, .int x4)]) hx hb dX6_known_79 hl (k := 6) rfl rfl (by decide) (by first | rfl | simp [re_cat, cat_i, cat_l, cat_r]) (fun ls hl => ?_)
            refine lv_goto (tgt := 18) hx hb dX6_known_82 (by decide) ?_
            exact hK18 x1 x2 x3 x4 t0 (x6 + 1) σ H locs ls h hP hS (lv_sub hl [2, 3, 4, 5, 6, 1, 0] rfl)
          have hB72 : ∀ (x1 : Int32) (x2 : Int32) (x3 : Int32) (x4 : Int32) (x6 : Int32) (σ : Sg) (H : Heap) (locs : List Loc) (ls : Array Slot), p_X6_known_b72 Q (fun y0 y1 y2 y3 y4 y5 y6 u => p_X6_known_L18 Q (fun y0 y1 y2 y3 y4 u => p_X6_known_L5 Q  n5 y0 y1 y2 y3 y4 u) n18 y0 y1 y2 y3 y4 y5 y6 u) x0 x1 x2 x3 x4 x6 σ → va_P D vwCl (wl bM cs ad σ) H → va_S (fAd bM ad) s.heap H locs → lv_has ls 7 [(0, .ref (ad x0)), (1, .int x1), (2, .int x2), (3, .int x3), (4, .int x4), (6, .int x6)] → W p l e { frames := 3, cells := 0, slots := 0, locals := 73 } s m args below meth c H locs 0 0 (MQ below (QI bM D cs ad Q) args s 0 0 (fAd bM ad)) (F0 m 72 ls []) := by
            intro x1 x2 x3 x4 x6 σ H locs ls h hP hS hl
            unfold p_X6_known_b72 at h
            refine lv_iconst (v := 1) hx hb dX6_known_72 (by decide) ?_
            refine lv_goto (tgt := 77) hx hb dX6_known_73 (by decide) ?_
            exact hB77 x1 x2 x3 x4 x6 1 σ H locs ls h hP hS (lv_sub hl [0, 1, 2, 3, 4, 5] rfl)
          have hB76 : ∀ (x1 : Int32) (x2 : Int32) (x3 : Int32) (x4 : Int32) (x6 : Int32) (σ : Sg) (H : Heap) (locs : List Loc) (ls : Array Slot), p_X6_known_b76 Q (fun y0 y1 y2 y3 y4 y5 y6 u => p_X6_known_L18 Q (fun y0 y1 y2 y3 y4 u => p_X6_known_L5 Q  n5 y0 y1 y2 y3 y4 u) n18 y0 y1 y2 y3 y4 y5 y6 u) x0 x1 x2 x3 x4 x6 σ → va_P D vwCl (wl bM cs ad σ) H → va_S (fAd bM ad) s.heap H locs → lv_has ls 7 [(0, .ref (ad x0)), (1, .int x1), (2, .int x2), (3, .int x3), (4, .int x4), (6, .int x6)] → W p l e { frames := 3, cells := 0, slots := 0, locals := 73 } s m args below meth c H locs 0 0 (MQ below (QI bM D cs ad Q) args s 0 0 (fAd bM ad)) (F0 m 76 ls []) := by
            intro x1 x2 x3 x4 x6 σ H locs ls h hP hS hl
            unfold p_X6_known_b76 at h
            refine lv_iconst (v := 0) hx hb dX6_known_76 (by decide) ?_
            exact hB77 x1 x2 x3 x4 x6 0 σ H locs ls h hP hS (lv_sub hl [0, 1, 2, 3, 4, 5] rfl)
          intro x1 x2 x3 x4 x5 x6 σ H locs ls h hP hS hl
          rw [p_X6_known_L18] at h
          refine lv_iload hx hb dX6_known_18 (lv_at hl 6 rfl) ?_
          refine lv_aload_n hx hb dX6_known_20 rfl (lv_at hl 0 rfl) ?_
          refine va_get (ci := 5) (v := .int (gI σ x0 20)) (C := RX6) (T := TX6) (N := 42) hx hb hts hi_X6 hown hE.1 hP x0 (w_5 hE hk0) rfl 20 (by decide) (hts (.fieldLink RX6 167 "HemLineModel" "women" "I") (by decide +kernel)) (fun _ h9 => h9) rfl dX6_known_21 ?_
          refine lv_icmp_ge (tgt := 85) hx hb dX6_known_24 (by decide) (fun c1 => ?_) (fun c1 => ?_)
          · replace h := h.1 c1
            refine lv_iload_n hx hb dX6_known_85 rfl (lv_at hl 3 rfl) ?_
            refine lv_iload hx hb dX6_known_86 (lv_at hl 5 rfl) ?_
            refine lv_if_eq (tgt := 98) hx hb dX6_known_88 (by decide) (fun c2 => ?_) (fun c2 => ?_)
            · replace h := h.1 c2
              refine lv_iconst (v := 0) hx hb dX6_known_98 (by decide) ?_
              exact hB99 x1 x2 x4 x3 0 σ H locs ls h hP hS (lv_sub hl [0, 1, 2, 4] rfl)
            · replace h := h.2 c2
              refine lv_iconst (v := 1) hx hb dX6_known_91 (by decide) ?_
              refine lv_iload hx hb dX6_known_92 (lv_at hl 4 rfl) ?_
              refine lv_ishl hx hb dX6_known_94 ?_
              refine lv_goto (tgt := 99) hx hb dX6_known_95 (by decide) ?_
              exact hB99 x1 x2 x4 x3 (1 <<< (x4 &&& 31)) σ H locs ls h hP hS (lv_sub hl [0, 1, 2, 4] rfl)
          · replace h := h.2 c1
            refine lv_iload hx hb dX6_known_27 (lv_at hl 5 rfl) ?_
            refine lv_if_eq (tgt := 76) hx hb dX6_known_29 (by decide) (fun c3 => ?_) (fun c3 => ?_)
            · replace h := h.1 c3
              exact hB76 x1 x2 x3 x4 x6 σ H locs ls h hP hS (lv_sub hl [0, 1, 2, 3, 4, 6] rfl)
            · replace h := h.2 c3
              refine lv_iload_n hx hb dX6_known_32 rfl (lv_at hl 1 rfl) ?_
              refine lv_iload hx hb dX6_known_33 (lv_at hl 6 rfl) ?_
              refine lv_ishr hx hb dX6_known_35 ?_
              refine lv_iconst (v := 1) hx hb dX6_known_36 (by decide) ?_
              refine lv_iand hx hb dX6_known_37 ?_
              refine lv_if_eq (tgt := 72) hx hb dX6_known_38 (by decide) (fun c4 => ?_) (fun c4 => ?_)
              · replace h := h.1 c4
                exact hB72 x1 x2 x3 x4 x6 σ H locs ls h hP hS (lv_sub hl [0, 1, 2, 3, 4, 6] rfl)
              · replace h := h.2 c4
                refine lv_aload_n hx hb dX6_known_41 rfl (lv_at hl 0 rfl) ?_
                refine lv_aload_n hx hb dX6_known_42 rfl (lv_at hl 0 rfl) ?_
                refine va_get (ci := 5) (v := va_re ad (tM x0 21)) (C := RX6) (T := TX6) (N := 42) hx hb hts hi_X6 hown hE.1 hP x0 (w_5 hE hk0) rfl 21 (by decide) (hts (.fieldLink RX6 44 "HemLineModel" "kind" "[I") (by decide +kernel)) (fun _ h9 => h9) rfl dX6_known_43 ?_
                refine lv_iload hx hb dX6_known_46 (lv_at hl 6 rfl) ?_
                obtain ⟨k5, e6, q7, i8, h⟩ := h
                refine r_iald hx hb hE hP e6 q7 i8 dX6_known_48 ?_
                refine lv_iload hx hb dX6_known_49 (lv_at hl 6 rfl) ?_
                refine lv_iload_n hx hb dX6_known_51 rfl (lv_at hl 2 rfl) ?_
                refine lv_iload hx hb dX6_known_52 (lv_at hl 4 rfl) ?_
                refine f_i (kV (As := [.int (gR σ k5 x6.toNatClampNeg), .int x6, .int x2, .int x4]) (rest := []) (o := some x0) rfl ⟨hx, hb, hml, hown, hts⟩ (c_X6_hemThen l D cs ad x0 (gR σ k5 x6.toNatClampNeg) x6 x2 x4 σ _ hk0) (cwV 4 hts gX6_known_X6_hemThen rfl rfl rfl (by decide +kernel) ⟨Nat.le_of_ble_eq_true rfl, Nat.le_of_ble_eq_true rfl⟩) hE hP rfl rfl (w_5 hE hk0) h rfl hl.1 rfl (by first | exact lv_room (Nat.le_of_ble_eq_true rfl) | (refine lv_room ?_; simp [re_cat, cat_i, cat_l, cat_r])) dX6_known_54 ⟨Nat.le_refl _, Nat.le_refl _⟩) hS (fun r10 s9 H locs h hP hS => ?_)
                refine lv_aload_n hx hb dX6_known_57 rfl (lv_at hl 0 rfl) ?_
                refine va_get (ci := 5) (v := va_re ad (tM x0 33)) (C := RX6) (T := TX6) (N := 42) hx hb hts hi_X6 hown hE.1 hP x0 (w_5 hE hk0) rfl 33 (by decide) (hts (.fieldLink RX6 71 "HemLineModel" "hems" "[I") (by decide +kernel)) (fun _ h9 => h9) rfl dX6_known_58 ?_
                refine lv_bipush (v := 6) hx hb dX6_known_61 (by decide) ?_
                refine lv_iload_n hx hb dX6_known_63 rfl (lv_at hl 2 rfl) ?_
                refine lv_imul hx hb dX6_known_64 ?_
                refine lv_iload hx hb dX6_known_65 (lv_at hl 6 rfl) ?_
                refine lv_iadd hx hb dX6_known_67 ?_
                obtain ⟨k11, e12, q13, i14, h⟩ := h
                refine r_iald hx hb hE hP e12 q13 i14 dX6_known_68 ?_
                refine lv_icmp_ne (tgt := 76) hx hb dX6_known_69 (by decide) (fun c15 => ?_) (fun c15 => ?_)
                · replace h := h.2 c15
                  exact hB76 x1 x2 x3 x4 x6 s9 H locs ls h hP hS (lv_sub hl [0, 1, 2, 3, 4, 6] rfl)
                · replace h := h.1 c15
                  exact hB72 x1 x2 x3 x4 x6 s9 H locs ls h hP hS (lv_sub hl [0, 1, 2, 3, 4, 6] rfl)
      intro x1 x2 x3 x4 σ H locs ls h hP hS hl
      rw [p_X6_known_L5] at h
      refine lv_iload hx hb dX6_known_5 (lv_at hl 4 rfl) ?_
      refine lv_bipush (v := 20) hx hb dX6_known_7 (by decide) ?_
      refine lv_icmp_gt (tgt := 107) hx hb dX6_known_9 (by decide) (fun c1 => ?_) (fun c1 => ?_)
      · replace h := h.1 c1
        refine lv_iload_n hx hb dX6_known_107 rfl (lv_at hl 3 rfl) ?_
        exact W.iret hx hb hr (fun t ht hW => ⟨⟨_, _, rfl, h, pw ht hP⟩, hS.F ht⟩) hS.2.2 dX6_known_108
      · replace h := h.2 c1
        refine lv_iconst (v := 1) hx hb dX6_known_12 (by decide) ?_
        refine lv_istore (i := 5) (lv' := [(5, .int 1), (0, .ref (ad x0)), (1, .int x1), (2, .int x2), (3, .int x3), (4, .int x4)]) hx hb dX6_known_13 hl (by decide) (by first | rfl | simp [re_cat, cat_i, cat_l, cat_r]) (fun ls hl => ?_)
        refine lv_iconst (v := 0) hx hb dX6_known_15 (by decide) ?_
        refine lv_istore (i := 6) (lv' := [(6, .int 0), (5, .int 1), (0, .ref (ad x0)), (1, .int x1), (2, .int x2), (3, .int x3), (4, .int x4)]) hx hb dX6_known_16 hl (by decide) (by first | rfl | simp [re_cat, cat_i, cat_l, cat_r]) (fun ls hl => ?_)
        obtain ⟨n2, h⟩ := h
        exact hB18 n2 x1 x2 x3 x4 1 0 σ H locs ls h hP hS (lv_sub hl [2, 3, 4, 5, 6, 1, 0] rfl)
  unfold p_X6_known at h
  refine lv_iconst (v := 0) hx hb dX6_known_0 (by decide) ?_
  refine lv_istore_n (i := 3) (lv' := [(3, .int 0), (0, .ref (ad x0)), (1, .int x1), (2, .int x2)]) hx hb dX6_known_1 rfl hl (by decide) (by first | rfl | simp [re_cat, cat_i, cat_l, cat_r]) (fun ls hl => ?_)
  refine lv_iconst (v := 0) hx hb dX6_known_2 (by decide) ?_
  refine lv_istore (i := 4) (lv' := [(4, .int 0), (3, .int 0), (0, .ref (ad x0)), (1, .int x1), (2, .int x2)]) hx hb dX6_known_3 hl (by decide) (by first | rfl | simp [re_cat, cat_i, cat_l, cat_r]) (fun ls hl => ?_)
  obtain ⟨n1, h⟩ := h
  exact hB5 n1 x1 x2 0 0 s0 _ _ ls h hP hS (lv_sub hl [2, 3, 4, 1, 0] rfl)
def p_X6_know (x0 : Nat) (x1 : Int32) (x2 : Int32) (s : Sg) (Q : Int32 → Sg → Prop) : Prop := p_X6_all x0 s (fun r2 s1 => p_X6_in x1 0 r2 s1 (fun r4 s3 => ((r4 = 0 → Q ((-1)) s3) ∧ (¬ r4 = 0 → p_X6_isYear x0 x2 s3 (fun r7 s6 => ((r7 = 0 → Q ((-1)) s6) ∧ (¬ r7 = 0 → p_X6_known x0 x1 x2 s6 (fun r10 s9 => p_X6_manyOf r10 s9 (fun r12 s11 => p_X6_tellsAsked x0 r12 s11 (fun r14 s13 => Q r10 s13))))))))))
set_option maxHeartbeats 4000000 in
set_option maxRecDepth 100000 in
theorem c_X6_know (l : Launch) (D : va_G) (cs : Cs) (ad : Nat → Nat) (x0 : Nat) (x1 : Int32) (x2 : Int32) (s0 : Sg) (Q : Int32 → Sg → Prop) (hk0 : kM x0 = 5) : Met l yX6_know wsX6_know { frames := 4, cells := 0, slots := 0, locals := 99 } (Pc0 bM D cs ad [.ref (ad x0), .int x1, .int x2] s0 (p_X6_know x0 x1 x2 s0 Q)) (QI bM D cs ad Q) 0 0 (fAd bM ad) := by
  refine Met.ofW (cc := cX6_know) (maxL := 4) (ret := (some .int)) (by decide) rfl ?_
  intro p e s m args below meth c s₁ B0 hml hv
  obtain ⟨ha, hP, hE, h⟩ := hv
  have hx := B0.exec
  have hb := B0.bytes
  have hr := B0.returns
  have hts := atoms_spec (ws := wsX6_know) B0.pre
  have hown : s.vm.findClass RX6 = some m.cls := findClass_of_methodNamed B0.named
  have hlocks := B0.notSynchronized
  have hS : va_S (fAd bM ad) s.heap s.heap [] := va_S.rf
  have hl := lv_entry ([.ref (ad x0), .int x1, .int x2]) (n := 4) (by first | exact Nat.le_of_ble_eq_true rfl | simp [lg_sl, re_cat, cat_i, cat_l, cat_r])
  rw [show entryFrame m args 4 = entryFrame m ([.ref (ad x0), .int x1, .int x2] : List Value).toArray 4 by rw [ha], lg_entry_eq]
  generalize (lg_sl ([.ref (ad x0), .int x1, .int x2]) ++ List.replicate (4 - (lg_sl ([.ref (ad x0), .int x1, .int x2])).length) Slot.unset).toArray = ls at hl ⊢
  have hl : lv_has ls 4 [(0, .ref (ad x0)), (1, .int x1), (2, .int x2)] := by first | exact hl | simpa [lv_args, re_cat, cat_i, cat_l, cat_r] using hl
  unfold p_X6_know at h
  refine lv_iload_n hx hb dX6_know_0 rfl (lv_at hl 1 rfl) ?_
  refine lv_iconst (v := 0) hx hb dX6_know_1 (by decide) ?_
  refine lv_aload_n hx hb dX6_know_2 rfl (lv_at hl 0 rfl) ?_
  refine f_i (kV (As := []) (rest := [.int 0, .int x1]) (o := some x0) rfl ⟨hx, hb, hml, hown, hts⟩ (c_X6_all l D cs ad x0 s0 _ hk0) (cwV 0 hts gX6_know_X6_all rfl rfl rfl (by decide +kernel) ⟨Nat.le_of_ble_eq_true rfl, Nat.le_of_ble_eq_true rfl⟩) hE hP rfl rfl (w_5 hE hk0) h rfl hl.1 rfl (by first | exact lv_room (Nat.le_of_ble_eq_true rfl) | (refine lv_room ?_; simp [re_cat, cat_i, cat_l, cat_r])) dX6_know_3 ⟨Nat.le_refl _, Nat.le_refl _⟩) hS (fun r2 s1 H locs h hP hS => ?_)
  refine f_i (kS (As := [.int x1, .int 0, .int r2]) (rest := []) ⟨hx, hb, hml, hown, hts⟩ (c_X6_in l D cs ad x1 0 r2 s1 _) (va_cwS 3 hts gX6_know_X6_in rfl rfl rfl (by decide +kernel) ⟨Nat.le_of_ble_eq_true rfl, Nat.le_of_ble_eq_true rfl⟩) hE hP h rfl hl.1 rfl (by first | exact lv_room (Nat.le_of_ble_eq_true rfl) | (refine lv_room ?_; simp [re_cat, cat_i, cat_l, cat_r])) dX6_know_6 ⟨Nat.le_refl _, Nat.le_refl _⟩) hS (fun r4 s3 H locs h hP hS => ?_)
  refine lv_if_eq (tgt := 20) hx hb dX6_know_9 (by decide) (fun c5 => ?_) (fun c5 => ?_)
  · replace h := h.1 c5
    refine lv_iconst (v := (-1)) hx hb dX6_know_20 (by decide) ?_
    exact W.iret hx hb hr (fun t ht hW => ⟨⟨_, _, rfl, h, pw ht hP⟩, hS.F ht⟩) hS.2.2 dX6_know_21
  · replace h := h.2 c5
    refine lv_aload_n hx hb dX6_know_12 rfl (lv_at hl 0 rfl) ?_
    refine lv_iload_n hx hb dX6_know_13 rfl (lv_at hl 2 rfl) ?_
    refine f_i (kV (As := [.int x2]) (rest := []) (o := some x0) rfl ⟨hx, hb, hml, hown, hts⟩ (c_X6_isYear l D cs ad x0 x2 s3 _ hk0) (cwV 1 hts gX6_know_X6_isYear rfl rfl rfl (by decide +kernel) ⟨Nat.le_of_ble_eq_true rfl, Nat.le_of_ble_eq_true rfl⟩) hE hP rfl rfl (w_5 hE hk0) h rfl hl.1 rfl (by first | exact lv_room (Nat.le_of_ble_eq_true rfl) | (refine lv_room ?_; simp [re_cat, cat_i, cat_l, cat_r])) dX6_know_14 ⟨Nat.le_refl _, Nat.le_refl _⟩) hS (fun r7 s6 H locs h hP hS => ?_)
    refine lv_if_ne (tgt := 22) hx hb dX6_know_17 (by decide) (fun c8 => ?_) (fun c8 => ?_)
    · replace h := h.2 c8
      refine lv_aload_n hx hb dX6_know_22 rfl (lv_at hl 0 rfl) ?_
      refine lv_iload_n hx hb dX6_know_23 rfl (lv_at hl 1 rfl) ?_
      refine lv_iload_n hx hb dX6_know_24 rfl (lv_at hl 2 rfl) ?_
      refine f_i (kV (As := [.int x1, .int x2]) (rest := []) (o := some x0) rfl ⟨hx, hb, hml, hown, hts⟩ (c_X6_known l D cs ad x0 x1 x2 s6 _ hk0) (cwV 2 hts gX6_know_X6_known rfl rfl rfl (by decide +kernel) ⟨Nat.le_of_ble_eq_true rfl, Nat.le_of_ble_eq_true rfl⟩) hE hP rfl rfl (w_5 hE hk0) h rfl hl.1 rfl (by first | exact lv_room (Nat.le_of_ble_eq_true rfl) | (refine lv_room ?_; simp [re_cat, cat_i, cat_l, cat_r])) dX6_know_25 ⟨Nat.le_refl _, Nat.le_refl _⟩) hS (fun r10 s9 H locs h hP hS => ?_)
      refine lv_istore_n (i := 3) (lv' := [(3, .int r10), (0, .ref (ad x0)), (1, .int x1), (2, .int x2)]) hx hb dX6_know_28 rfl hl (by decide) (by first | rfl | simp [re_cat, cat_i, cat_l, cat_r]) (fun ls hl => ?_)
      refine lv_aload_n hx hb dX6_know_29 rfl (lv_at hl 1 rfl) ?_
      refine lv_iload_n hx hb dX6_know_30 rfl (lv_at hl 0 rfl) ?_
      refine f_i (kS (As := [.int r10]) (rest := [.ref (ad x0)]) ⟨hx, hb, hml, hown, hts⟩ (c_X6_manyOf l D cs ad r10 s9 _) (va_cwS 1 hts gX6_know_X6_manyOf rfl rfl rfl (by decide +kernel) ⟨Nat.le_of_ble_eq_true rfl, Nat.le_of_ble_eq_true rfl⟩) hE hP h rfl hl.1 rfl (by first | exact lv_room (Nat.le_of_ble_eq_true rfl) | (refine lv_room ?_; simp [re_cat, cat_i, cat_l, cat_r])) dX6_know_31 ⟨Nat.le_refl _, Nat.le_refl _⟩) hS (fun r12 s11 H locs h hP hS => ?_)
      refine f_i (kV (As := [.int r12]) (rest := []) (o := some x0) rfl ⟨hx, hb, hml, hown, hts⟩ (c_X6_tellsAsked l D cs ad x0 r12 s11 _ hk0) (cwV 1 hts gX6_know_X6_tellsAsked rfl rfl rfl (by decide +kernel) ⟨Nat.le_of_ble_eq_true rfl, Nat.le_of_ble_eq_true rfl⟩) hE hP rfl rfl (w_5 hE hk0) h rfl hl.1 rfl (by first | exact lv_room (Nat.le_of_ble_eq_true rfl) | (refine lv_room ?_; simp [re_cat, cat_i, cat_l, cat_r])) dX6_know_34 ⟨Nat.le_refl _, Nat.le_refl _⟩) hS (fun r14 s13 H locs h hP hS => ?_)
      refine lv_pop hx hb dX6_know_37 (by first | rfl | exact re_cat _ _) ?_
      refine lv_iload_n hx hb dX6_know_38 rfl (lv_at hl 0 rfl) ?_
      exact W.iret hx hb hr (fun t ht hW => ⟨⟨_, _, rfl, h, pw ht hP⟩, hS.F ht⟩) hS.2.2 dX6_know_39
    · replace h := h.1 c8
      refine lv_iconst (v := (-1)) hx hb dX6_know_20 (by decide) ?_
      exact W.iret hx hb hr (fun t ht hW => ⟨⟨_, _, rfl, h, pw ht hP⟩, hS.F ht⟩) hS.2.2 dX6_know_21
def p_X6_high_L22 (Q : Int32 → Sg → Prop)  : Nat → Int32 → Int32 → Sg → Prop
  | 0, _, _, _ => False
  | n + 1, x2, x3, s => ((((x2 >>> (x3 &&& 31)) &&& 1) = 0 → p_X6_high_L22 Q  n x2 (x3 + 1) s) ∧ (¬ ((x2 >>> (x3 &&& 31)) &&& 1) = 0 → p_X6_manyOf x2 s (fun r3 s2 => ((r3 = 1 → Q x3 s2) ∧ (¬ r3 = 1 → Q ((-9)) s2)))))
def p_X6_high (x0 : Nat) (x1 : Int32) (s : Sg) (Q : Int32 → Sg → Prop) : Prop := p_X6_isYear x0 x1 s (fun r2 s1 => ((r2 = 0 → Q ((-1)) s1) ∧ (¬ r2 = 0 → p_X6_all x0 s1 (fun r5 s4 => p_X6_known x0 r5 x1 s4 (fun r7 s6 => (∃ n8, p_X6_high_L22 Q  n8 r7 0 s6))))))
set_option maxHeartbeats 4000000 in
set_option maxRecDepth 100000 in
theorem c_X6_high (l : Launch) (D : va_G) (cs : Cs) (ad : Nat → Nat) (x0 : Nat) (x1 : Int32) (s0 : Sg) (Q : Int32 → Sg → Prop) (hk0 : kM x0 = 5) : Met l yX6_high wsX6_high { frames := 4, cells := 0, slots := 0, locals := 99 } (Pc0 bM D cs ad [.ref (ad x0), .int x1] s0 (p_X6_high x0 x1 s0 Q)) (QI bM D cs ad Q) 0 0 (fAd bM ad) := by
  refine Met.ofW (cc := cX6_high) (maxL := 4) (ret := (some .int)) (by decide) rfl ?_
  intro p e s m args below meth c s₁ B0 hml hv
  obtain ⟨ha, hP, hE, h⟩ := hv
  have hx := B0.exec
  have hb := B0.bytes
  have hr := B0.returns
  have hts := atoms_spec (ws := wsX6_high) B0.pre
  have hown : s.vm.findClass RX6 = some m.cls := findClass_of_methodNamed B0.named
  have hlocks := B0.notSynchronized
  have hS : va_S (fAd bM ad) s.heap s.heap [] := va_S.rf
  have hl := lv_entry ([.ref (ad x0), .int x1]) (n := 4) (by first | exact Nat.le_of_ble_eq_true rfl | simp [lg_sl, re_cat, cat_i, cat_l, cat_r])
  rw [show entryFrame m args 4 = entryFrame m ([.ref (ad x0), .int x1] : List Value).toArray 4 by rw [ha], lg_entry_eq]
  generalize (lg_sl ([.ref (ad x0), .int x1]) ++ List.replicate (4 - (lg_sl ([.ref (ad x0), .int x1])).length) Slot.unset).toArray = ls at hl ⊢
  have hl : lv_has ls 4 [(0, .ref (ad x0)), (1, .int x1)] := by first | exact hl | simpa [lv_args, re_cat, cat_i, cat_l, cat_r] using hl
  have hB22 : ∀ (n22 : Nat) (x2 : Int32) (x3 : Int32) (σ : Sg) (H : Heap) (locs : List Loc) (ls : Array Slot), p_X6_high_L22 Q  n22 x2 x3 σ → va_P D vwCl (wl bM cs ad σ) H → va_S (fAd bM ad) s.heap H locs → lv_has ls 4 [(2, .int x2), (3, .int x3)] → W p l e { frames := 4, cells := 0, slots := 0, locals := 99 } s m args below meth c H locs 0 0 (MQ below (QI bM D cs ad Q) args s 0 0 (fAd bM ad)) (F0 m 22 ls []) := by
    intro n22
    induction n22 with
    | zero =>
      intro x2 x3 σ H locs ls h
      exact h.elim
    | succ n22 ih =>
      have hK22 := ih
      intro x2 x3 σ H locs ls h hP hS hl
      rw [p_X6_high_L22] at h
      refine lv_iload_n hx hb dX6_high_22 rfl (lv_at hl 0 rfl) ?_
      refine lv_iload_n hx hb dX6_high_23 rfl (lv_at hl 1 rfl) ?_
      refine lv_ishr hx hb dX6_high_24 ?_
      refine lv_iconst (v := 1) hx hb dX6_high_25 (by decide) ?_
      refine lv_iand hx hb dX6_high_26 ?_
      refine lv_if_ne (tgt := 36) hx hb dX6_high_27 (by decide) (fun c1 => ?_) (fun c1 => ?_)
      · replace h := h.2 c1
        refine lv_iload_n hx hb dX6_high_36 rfl (lv_at hl 0 rfl) ?_
        refine f_i (kS (As := [.int x2]) (rest := []) ⟨hx, hb, hml, hown, hts⟩ (c_X6_manyOf l D cs ad x2 σ _) (va_cwS 1 hts gX6_high_X6_manyOf rfl rfl rfl (by decide +kernel) ⟨Nat.le_of_ble_eq_true rfl, Nat.le_of_ble_eq_true rfl⟩) hE hP h rfl hl.1 rfl (by first | exact lv_room (Nat.le_of_ble_eq_true rfl) | (refine lv_room ?_; simp [re_cat, cat_i, cat_l, cat_r])) dX6_high_37 ⟨Nat.le_refl _, Nat.le_refl _⟩) hS (fun r3 s2 H locs h hP hS => ?_)
        refine lv_iconst (v := 1) hx hb dX6_high_40 (by decide) ?_
        refine lv_icmp_ne (tgt := 48) hx hb dX6_high_41 (by decide) (fun c4 => ?_) (fun c4 => ?_)
        · replace h := h.2 c4
          refine lv_bipush (v := (-9)) hx hb dX6_high_48 (by decide) ?_
          exact W.iret hx hb hr (fun t ht hW => ⟨⟨_, _, rfl, h, pw ht hP⟩, hS.F ht⟩) hS.2.2 dX6_high_50
        · replace h := h.1 c4
          refine lv_iload_n hx hb dX6_high_44 rfl (lv_at hl 1 rfl) ?_
          refine lv_goto (tgt := 50) hx hb dX6_high_45 (by decide) ?_
          exact W.iret hx hb hr (fun t ht hW => ⟨⟨_, _, rfl, h, pw ht hP⟩, hS.F ht⟩) hS.2.2 dX6_high_50
      · replace h := h.1 c1
        refine lv_iinc (v := x3 + 1) (lv' := [(3, .int (x3 + 1)), (2, .int x2)]) hx hb dX6_high_30 hl (k := 1) rfl rfl (by decide) (by first | rfl | simp [re_cat, cat_i, cat_l, cat_r]) (fun ls hl => ?_)
        refine lv_goto (tgt := 22) hx hb dX6_high_33 (by decide) ?_
        exact ih x2 (x3 + 1) σ H locs ls h hP hS (lv_sub hl [1, 0] rfl)
  unfold p_X6_high at h
  refine lv_aload_n hx hb dX6_high_0 rfl (lv_at hl 0 rfl) ?_
  refine lv_iload_n hx hb dX6_high_1 rfl (lv_at hl 1 rfl) ?_
  refine f_i (kV (As := [.int x1]) (rest := []) (o := some x0) rfl ⟨hx, hb, hml, hown, hts⟩ (c_X6_isYear l D cs ad x0 x1 s0 _ hk0) (cwV 1 hts gX6_high_X6_isYear rfl rfl rfl (by decide +kernel) ⟨Nat.le_of_ble_eq_true rfl, Nat.le_of_ble_eq_true rfl⟩) hE hP rfl rfl (w_5 hE hk0) h rfl hl.1 rfl (by first | exact lv_room (Nat.le_of_ble_eq_true rfl) | (refine lv_room ?_; simp [re_cat, cat_i, cat_l, cat_r])) dX6_high_2 ⟨Nat.le_refl _, Nat.le_refl _⟩) hS (fun r2 s1 H locs h hP hS => ?_)
  refine lv_if_ne (tgt := 10) hx hb dX6_high_5 (by decide) (fun c3 => ?_) (fun c3 => ?_)
  · replace h := h.2 c3
    refine lv_aload_n hx hb dX6_high_10 rfl (lv_at hl 0 rfl) ?_
    refine lv_aload_n hx hb dX6_high_11 rfl (lv_at hl 0 rfl) ?_
    refine f_i (kV (As := []) (rest := [.ref (ad x0)]) (o := some x0) rfl ⟨hx, hb, hml, hown, hts⟩ (c_X6_all l D cs ad x0 s1 _ hk0) (cwV 0 hts gX6_high_X6_all rfl rfl rfl (by decide +kernel) ⟨Nat.le_of_ble_eq_true rfl, Nat.le_of_ble_eq_true rfl⟩) hE hP rfl rfl (w_5 hE hk0) h rfl hl.1 rfl (by first | exact lv_room (Nat.le_of_ble_eq_true rfl) | (refine lv_room ?_; simp [re_cat, cat_i, cat_l, cat_r])) dX6_high_12 ⟨Nat.le_refl _, Nat.le_refl _⟩) hS (fun r5 s4 H locs h hP hS => ?_)
    refine lv_iload_n hx hb dX6_high_15 rfl (lv_at hl 1 rfl) ?_
    refine f_i (kV (As := [.int r5, .int x1]) (rest := []) (o := some x0) rfl ⟨hx, hb, hml, hown, hts⟩ (c_X6_known l D cs ad x0 r5 x1 s4 _ hk0) (cwV 2 hts gX6_high_X6_known rfl rfl rfl (by decide +kernel) ⟨Nat.le_of_ble_eq_true rfl, Nat.le_of_ble_eq_true rfl⟩) hE hP rfl rfl (w_5 hE hk0) h rfl hl.1 rfl (by first | exact lv_room (Nat.le_of_ble_eq_true rfl) | (refine lv_room ?_; simp [re_cat, cat_i, cat_l, cat_r])) dX6_high_16 ⟨Nat.le_refl _, Nat.le_refl _⟩) hS (fun r7 s6 H locs h hP hS => ?_)
    refine lv_istore_n (i := 2) (lv' := [(2, .int r7), (0, .ref (ad x0)), (1, .int x1)]) hx hb dX6_high_19 rfl hl (by decide) (by first | rfl | simp [re_cat, cat_i, cat_l, cat_r]) (fun ls hl => ?_)
    refine lv_iconst (v := 0) hx hb dX6_high_20 (by decide) ?_
    refine lv_istore_n (i := 3) (lv' := [(3, .int 0), (2, .int r7), (0, .ref (ad x0)), (1, .int x1)]) hx hb dX6_high_21 rfl hl (by decide) (by first | rfl | simp [re_cat, cat_i, cat_l, cat_r]) (fun ls hl => ?_)
    obtain ⟨n8, h⟩ := h
    exact hB22 n8 r7 0 s6 _ _ ls h hP hS (lv_sub hl [1, 0] rfl)
  · replace h := h.1 c3
    refine lv_iconst (v := (-1)) hx hb dX6_high_8 (by decide) ?_
    exact W.iret hx hb hr (fun t ht hW => ⟨⟨_, _, rfl, h, pw ht hP⟩, hS.F ht⟩) hS.2.2 dX6_high_9
def p_X6_partBy_b62 (Q : Int32 → Sg → Prop) (K19 : Nat → Int32 → Int32 → Int32 → Int32 → Int32 → Int32 → Int32 → Sg → Prop) (x0 : Nat) (x1 : Int32) (x2 : Int32) (x3 : Int32) (x4 : Int32) (x5 : Int32) (x7 : Int32) (t0 : Int32) (t1 : Int32) (s : Sg) : Prop := K19 x0 x1 x2 x3 x4 x5 (t0 + t1) (x7 + 1) s
def p_X6_partBy_b61 (Q : Int32 → Sg → Prop) (K19 : Nat → Int32 → Int32 → Int32 → Int32 → Int32 → Int32 → Int32 → Sg → Prop) (x0 : Nat) (x1 : Int32) (x2 : Int32) (x3 : Int32) (x4 : Int32) (x5 : Int32) (x7 : Int32) (t0 : Int32) (s : Sg) : Prop := p_X6_partBy_b62 Q K19 x0 x1 x2 x3 x4 x5 x7 t0 0 s
def p_X6_partBy_b85 (Q : Int32 → Sg → Prop) (K6 : Nat → Int32 → Int32 → Int32 → Int32 → Int32 → Sg → Prop) (x0 : Nat) (x1 : Int32) (x2 : Int32) (x3 : Int32) (x5 : Int32) (t0 : Int32) (s : Sg) : Prop := K6 x0 x1 x2 x3 t0 (x5 + 1) s
def p_X6_partBy_L19 (Q : Int32 → Sg → Prop) (K6 : Nat → Int32 → Int32 → Int32 → Int32 → Int32 → Sg → Prop) : Nat → Nat → Int32 → Int32 → Int32 → Int32 → Int32 → Int32 → Int32 → Sg → Prop
  | 0, _, _, _, _, _, _, _, _, _ => False
  | n + 1, x0, x1, x2, x3, x4, x5, x6, x7, s => ((20 < x7 → ((x6 ≤ x4 → p_X6_partBy_b85 Q K6 x0 x1 x2 x3 x5 x4 s) ∧ (¬ x6 ≤ x4 → p_X6_partBy_b85 Q K6 x0 x1 x2 x3 x5 x6 s))) ∧ (¬ 20 < x7 → ((((x3 >>> (x7 &&& 31)) &&& 1) = 1 → ∃ k4, tM x0 21 = some k4 ∧ kM k4 = 7 ∧ vp_in x1 (lM k4) ∧ p_X6_hemThen x0 (gR s k4 x1.toNatClampNeg) x1 x2 x7 s (fun r9 s8 => ((r9 = x5 → p_X6_partBy_b62 Q (fun y0 y1 y2 y3 y4 y5 y6 y7 u => p_X6_partBy_L19 Q K6 n y0 y1 y2 y3 y4 y5 y6 y7 u) x0 x1 x2 x3 x4 x5 x7 x6 1 s8) ∧ (¬ r9 = x5 → p_X6_partBy_b61 Q (fun y0 y1 y2 y3 y4 y5 y6 y7 u => p_X6_partBy_L19 Q K6 n y0 y1 y2 y3 y4 y5 y6 y7 u) x0 x1 x2 x3 x4 x5 x7 x6 s8)))) ∧ (¬ ((x3 >>> (x7 &&& 31)) &&& 1) = 1 → p_X6_partBy_b61 Q (fun y0 y1 y2 y3 y4 y5 y6 y7 u => p_X6_partBy_L19 Q K6 n y0 y1 y2 y3 y4 y5 y6 y7 u) x0 x1 x2 x3 x4 x5 x7 x6 s))))
def p_X6_partBy_L6 (Q : Int32 → Sg → Prop)  : Nat → Nat → Int32 → Int32 → Int32 → Int32 → Int32 → Sg → Prop
  | 0, _, _, _, _, _, _, _ => False
  | n + 1, x0, x1, x2, x3, x4, x5, s => ((10 < x5 → Q x4 s) ∧ (¬ 10 < x5 → (∃ n2, p_X6_partBy_L19 Q (fun y0 y1 y2 y3 y4 y5 u => p_X6_partBy_L6 Q  n y0 y1 y2 y3 y4 y5 u) n2 x0 x1 x2 x3 x4 x5 0 0 s)))
def p_X6_partBy (x0 : Nat) (x1 : Int32) (x2 : Int32) (x3 : Int32) (s : Sg) (Q : Int32 → Sg → Prop) : Prop := (∃ n1, p_X6_partBy_L6 Q  n1 x0 x1 x2 x3 0 0 s)
set_option maxHeartbeats 4000000 in
set_option maxRecDepth 100000 in
theorem c_X6_partBy (l : Launch) (D : va_G) (cs : Cs) (ad : Nat → Nat) (x0 : Nat) (x1 : Int32) (x2 : Int32) (x3 : Int32) (s0 : Sg) (Q : Int32 → Sg → Prop) (hk0 : kM x0 = 5) : Met l yX6_partBy wsX6_partBy { frames := 3, cells := 0, slots := 0, locals := 73 } (Pc0 bM D cs ad [.ref (ad x0), .int x1, .int x2, .int x3] s0 (p_X6_partBy x0 x1 x2 x3 s0 Q)) (QI bM D cs ad Q) 0 0 (fAd bM ad) := by
  refine Met.ofW (cc := cX6_partBy) (maxL := 8) (ret := (some .int)) (by decide) rfl ?_
  intro p e s m args below meth c s₁ B0 hml hv
  obtain ⟨ha, hP, hE, h⟩ := hv
  have hx := B0.exec
  have hb := B0.bytes
  have hr := B0.returns
  have hts := atoms_spec (ws := wsX6_partBy) B0.pre
  have hown : s.vm.findClass RX6 = some m.cls := findClass_of_methodNamed B0.named
  have hlocks := B0.notSynchronized
  have hi_X6 : ∀ w ∈ u_ws RX6 TX6 42, w ∈ wsX6_partBy := by decide +kernel
  have hS : va_S (fAd bM ad) s.heap s.heap [] := va_S.rf
  have hl := lv_entry ([.ref (ad x0), .int x1, .int x2, .int x3]) (n := 8) (by first | exact Nat.le_of_ble_eq_true rfl | simp [lg_sl, re_cat, cat_i, cat_l, cat_r])
  rw [show entryFrame m args 8 = entryFrame m ([.ref (ad x0), .int x1, .int x2, .int x3] : List Value).toArray 8 by rw [ha], lg_entry_eq]
  generalize (lg_sl ([.ref (ad x0), .int x1, .int x2, .int x3]) ++ List.replicate (8 - (lg_sl ([.ref (ad x0), .int x1, .int x2, .int x3])).length) Slot.unset).toArray = ls at hl ⊢
  have hl : lv_has ls 8 [(0, .ref (ad x0)), (1, .int x1), (2, .int x2), (3, .int x3)] := by first | exact hl | simpa [lv_args, re_cat, cat_i, cat_l, cat_r] using hl
  have hB6 : ∀ (n6 : Nat) (x1 : Int32) (x2 : Int32) (x3 : Int32) (x4 : Int32) (x5 : Int32) (σ : Sg) (H : Heap) (locs : List Loc) (ls : Array Slot), p_X6_partBy_L6 Q  n6 x0 x1 x2 x3 x4 x5 σ → va_P D vwCl (wl bM cs ad σ) H → va_S (fAd bM ad) s.heap H locs → lv_has ls 8 [(0, .ref (ad x0)), (1, .int x1), (2, .int x2), (3, .int x3), (4, .int x4), (5, .int x5)] → W p l e { frames := 3, cells := 0, slots := 0, locals := 73 } s m args below meth c H locs 0 0 (MQ below (QI bM D cs ad Q) args s 0 0 (fAd bM ad)) (F0 m 6 ls []) := by
    intro n6
    induction n6 with
    | zero =>
      intro x1 x2 x3 x4 x5 σ H locs ls h
      exact h.elim
    | succ n6 ih =>
      have hK6 := ih
      have hB85 : ∀ (x1 : Int32) (x2 : Int32) (x3 : Int32) (x5 : Int32) (t0 : Int32) (σ : Sg) (H : Heap) (locs : List Loc) (ls : Array Slot), p_X6_partBy_b85 Q (fun y0 y1 y2 y3 y4 y5 u => p_X6_partBy_L6 Q  n6 y0 y1 y2 y3 y4 y5 u) x0 x1 x2 x3 x5 t0 σ → va_P D vwCl (wl bM cs ad σ) H → va_S (fAd bM ad) s.heap H locs → lv_has ls 8 [(0, .ref (ad x0)), (1, .int x1), (2, .int x2), (3, .int x3), (5, .int x5)] → W p l e { frames := 3, cells := 0, slots := 0, locals := 73 } s m args below meth c H locs 0 0 (MQ below (QI bM D cs ad Q) args s 0 0 (fAd bM ad)) (F0 m 85 ls [.int t0]) := by
        intro x1 x2 x3 x5 t0 σ H locs ls h hP hS hl
        unfold p_X6_partBy_b85 at h
        refine lv_istore (i := 4) (lv' := [(4, .int t0), (0, .ref (ad x0)), (1, .int x1), (2, .int x2), (3, .int x3), (5, .int x5)]) hx hb dX6_partBy_85 hl (by decide) (by first | rfl | simp [re_cat, cat_i, cat_l, cat_r]) (fun ls hl => ?_)
        refine lv_iinc (v := x5 + 1) (lv' := [(5, .int (x5 + 1)), (4, .int t0), (0, .ref (ad x0)), (1, .int x1), (2, .int x2), (3, .int x3)]) hx hb dX6_partBy_87 hl (k := 5) rfl rfl (by decide) (by first | rfl | simp [re_cat, cat_i, cat_l, cat_r]) (fun ls hl => ?_)
        refine lv_goto (tgt := 6) hx hb dX6_partBy_90 (by decide) ?_
        exact hK6 x1 x2 x3 t0 (x5 + 1) σ H locs ls h hP hS (lv_sub hl [2, 3, 4, 5, 1, 0] rfl)
      have hB19 : ∀ (n19 : Nat) (x1 : Int32) (x2 : Int32) (x3 : Int32) (x4 : Int32) (x5 : Int32) (x6 : Int32) (x7 : Int32) (σ : Sg) (H : Heap) (locs : List Loc) (ls : Array Slot), p_X6_partBy_L19 Q (fun y0 y1 y2 y3 y4 y5 u => p_X6_partBy_L6 Q  n6 y0 y1 y2 y3 y4 y5 u) n19 x0 x1 x2 x3 x4 x5 x6 x7 σ → va_P D vwCl (wl bM cs ad σ) H → va_S (fAd bM ad) s.heap H locs → lv_has ls 8 [(0, .ref (ad x0)), (1, .int x1), (2, .int x2), (3, .int x3), (4, .int x4), (5, .int x5), (6, .int x6), (7, .int x7)] → W p l e { frames := 3, cells := 0, slots := 0, locals := 73 } s m args below meth c H locs 0 0 (MQ below (QI bM D cs ad Q) args s 0 0 (fAd bM ad)) (F0 m 19 ls []) := by
        intro n19
        induction n19 with
        | zero =>
          intro x1 x2 x3 x4 x5 x6 x7 σ H locs ls h
          exact h.elim
        | succ n19 ih =>
          have hK19 := ih
          have hB62 : ∀ (x1 : Int32) (x2 : Int32) (x3 : Int32) (x4 : Int32) (x5 : Int32) (x7 : Int32) (t0 : Int32) (t1 : Int32) (σ : Sg) (H : Heap) (locs : List Loc) (ls : Array Slot), p_X6_partBy_b62 Q (fun y0 y1 y2 y3 y4 y5 y6 y7 u => p_X6_partBy_L19 Q (fun y0 y1 y2 y3 y4 y5 u => p_X6_partBy_L6 Q  n6 y0 y1 y2 y3 y4 y5 u) n19 y0 y1 y2 y3 y4 y5 y6 y7 u) x0 x1 x2 x3 x4 x5 x7 t0 t1 σ → va_P D vwCl (wl bM cs ad σ) H → va_S (fAd bM ad) s.heap H locs → lv_has ls 8 [(0, .ref (ad x0)), (1, .int x1), (2, .int x2), (3, .int x3), (4, .int x4), (5, .int x5), (7, .int x7)] → W p l e { frames := 3, cells := 0, slots := 0, locals := 73 } s m args below meth c H locs 0 0 (MQ below (QI bM D cs ad Q) args s 0 0 (fAd bM ad)) (F0 m 62 ls [.int t1, .int t0]) := by
            intro x1 x2 x3 x4 x5 x7 t0 t1 σ H locs ls h hP hS hl
            unfold p_X6_partBy_b62 at h
            refine lv_iadd hx hb dX6_partBy_62 ?_
            refine lv_istore (i := 6) (lv' := [(6, .int (t0 + t1)), (0, .ref (ad x0)), (1, .int x1), (2, .int x2), (3, .int x3), (4, .int x4), (5, .int x5), (7, .int x7)]) hx hb dX6_partBy_63 hl (by decide) (by first | rfl | simp [re_cat, cat_i, cat_l, cat_r]) (fun ls hl => ?_)
            refine lv_iinc (v := x7 + 1) (lv' := [(7, .int (x7 + 1)), (6, .int (t0 + t1)), (0, .ref (ad x0)), (1, .int x1), (2, .int x2), (3, .int x3), (4, .int x4), (5, .int x5)]) hx hb dX6_partBy_65 hl (k := 7) rfl rfl (by decide) (by first | rfl | simp [re_cat, cat_i, cat_l, cat_r]) (fun ls hl => ?_)
            refine lv_goto (tgt := 19) hx hb dX6_partBy_68 (by decide) ?_
            exact hK19 x1 x2 x3 x4 x5 (t0 + t1) (x7 + 1) σ H locs ls h hP hS (lv_sub hl [2, 3, 4, 5, 6, 7, 1, 0] rfl)
          have hB61 : ∀ (x1 : Int32) (x2 : Int32) (x3 : Int32) (x4 : Int32) (x5 : Int32) (x7 : Int32) (t0 : Int32) (σ : Sg) (H : Heap) (locs : List Loc) (ls : Array Slot), p_X6_partBy_b61 Q (fun y0 y1 y2 y3 y4 y5 y6 y7 u => p_X6_partBy_L19 Q (fun y0 y1 y2 y3 y4 y5 u => p_X6_partBy_L6 Q  n6 y0 y1 y2 y3 y4 y5 u) n19 y0 y1 y2 y3 y4 y5 y6 y7 u) x0 x1 x2 x3 x4 x5 x7 t0 σ → va_P D vwCl (wl bM cs ad σ) H → va_S (fAd bM ad) s.heap H locs → lv_has ls 8 [(0, .ref (ad x0)), (1, .int x1), (2, .int x2), (3, .int x3), (4, .int x4), (5, .int x5), (7, .int x7)] → W p l e { frames := 3, cells := 0, slots := 0, locals := 73 } s m args below meth c H locs 0 0 (MQ below (QI bM D cs ad Q) args s 0 0 (fAd bM ad)) (F0 m 61 ls [.int t0]) := by
            intro x1 x2 x3 x4 x5 x7 t0 σ H locs ls h hP hS hl
            unfold p_X6_partBy_b61 at h
            refine lv_iconst (v := 0) hx hb dX6_partBy_61 (by decide) ?_
            exact hB62 x1 x2 x3 x4 x5 x7 t0 0 σ H locs ls h hP hS (lv_sub hl [0, 1, 2, 3, 4, 5, 6] rfl)
          intro x1 x2 x3 x4 x5 x6 x7 σ H locs ls h hP hS hl
          rw [p_X6_partBy_L19] at h
          refine lv_iload hx hb dX6_partBy_19 (lv_at hl 7 rfl) ?_
          refine lv_bipush (v := 20) hx hb dX6_partBy_21 (by decide) ?_
          refine lv_icmp_gt (tgt := 71) hx hb dX6_partBy_23 (by decide) (fun c1 => ?_) (fun c1 => ?_)
          · replace h := h.1 c1
            refine lv_iload hx hb dX6_partBy_71 (lv_at hl 6 rfl) ?_
            refine lv_iload hx hb dX6_partBy_73 (lv_at hl 4 rfl) ?_
            refine lv_icmp_le (tgt := 83) hx hb dX6_partBy_75 (by decide) (fun c2 => ?_) (fun c2 => ?_)
            · replace h := h.1 c2
              refine lv_iload hx hb dX6_partBy_83 (lv_at hl 4 rfl) ?_
              exact hB85 x1 x2 x3 x5 x4 σ H locs ls h hP hS (lv_sub hl [0, 1, 2, 3, 5] rfl)
            · replace h := h.2 c2
              refine lv_iload hx hb dX6_partBy_78 (lv_at hl 6 rfl) ?_
              refine lv_goto (tgt := 85) hx hb dX6_partBy_80 (by decide) ?_
              exact hB85 x1 x2 x3 x5 x6 σ H locs ls h hP hS (lv_sub hl [0, 1, 2, 3, 5] rfl)
          · replace h := h.2 c1
            refine lv_iload hx hb dX6_partBy_26 (lv_at hl 6 rfl) ?_
            refine lv_iload_n hx hb dX6_partBy_28 rfl (lv_at hl 3 rfl) ?_
            refine lv_iload hx hb dX6_partBy_29 (lv_at hl 7 rfl) ?_
            refine lv_ishr hx hb dX6_partBy_31 ?_
            refine lv_iconst (v := 1) hx hb dX6_partBy_32 (by decide) ?_
            refine lv_iand hx hb dX6_partBy_33 ?_
            refine lv_iconst (v := 1) hx hb dX6_partBy_34 (by decide) ?_
            refine lv_icmp_ne (tgt := 61) hx hb dX6_partBy_35 (by decide) (fun c3 => ?_) (fun c3 => ?_)
            · replace h := h.2 c3
              exact hB61 x1 x2 x3 x4 x5 x7 x6 σ H locs ls h hP hS (lv_sub hl [0, 1, 2, 3, 4, 5, 7] rfl)
            · replace h := h.1 c3
              refine lv_aload_n hx hb dX6_partBy_38 rfl (lv_at hl 0 rfl) ?_
              refine lv_aload_n hx hb dX6_partBy_39 rfl (lv_at hl 0 rfl) ?_
              refine va_get (ci := 5) (v := va_re ad (tM x0 21)) (C := RX6) (T := TX6) (N := 42) hx hb hts hi_X6 hown hE.1 hP x0 (w_5 hE hk0) rfl 21 (by decide) (hts (.fieldLink RX6 44 "HemLineModel" "kind" "[I") (by decide +kernel)) (fun _ h9 => h9) rfl dX6_partBy_40 ?_
              refine lv_iload_n hx hb dX6_partBy_43 rfl (lv_at hl 1 rfl) ?_
              obtain ⟨k4, e5, q6, i7, h⟩ := h
              refine r_iald hx hb hE hP e5 q6 i7 dX6_partBy_44 ?_
              refine lv_iload_n hx hb dX6_partBy_45 rfl (lv_at hl 1 rfl) ?_
              refine lv_iload_n hx hb dX6_partBy_46 rfl (lv_at hl 2 rfl) ?_
              refine lv_iload hx hb dX6_partBy_47 (lv_at hl 7 rfl) ?_
              refine f_i (kV (As := [.int (gR σ k4 x1.toNatClampNeg), .int x1, .int x2, .int x7]) (rest := [.int x6]) (o := some x0) rfl ⟨hx, hb, hml, hown, hts⟩ (c_X6_hemThen l D cs ad x0 (gR σ k4 x1.toNatClampNeg) x1 x2 x7 σ _ hk0) (cwV 4 hts gX6_partBy_X6_hemThen rfl rfl rfl (by decide +kernel) ⟨Nat.le_of_ble_eq_true rfl, Nat.le_of_ble_eq_true rfl⟩) hE hP rfl rfl (w_5 hE hk0) h rfl hl.1 rfl (by first | exact lv_room (Nat.le_of_ble_eq_true rfl) | (refine lv_room ?_; simp [re_cat, cat_i, cat_l, cat_r])) dX6_partBy_49 ⟨Nat.le_refl _, Nat.le_refl _⟩) hS (fun r9 s8 H locs h hP hS => ?_)
              refine lv_iload hx hb dX6_partBy_52 (lv_at hl 5 rfl) ?_
              refine lv_icmp_ne (tgt := 61) hx hb dX6_partBy_54 (by decide) (fun c10 => ?_) (fun c10 => ?_)
              · replace h := h.2 c10
                exact hB61 x1 x2 x3 x4 x5 x7 x6 s8 H locs ls h hP hS (lv_sub hl [0, 1, 2, 3, 4, 5, 7] rfl)
              · replace h := h.1 c10
                refine lv_iconst (v := 1) hx hb dX6_partBy_57 (by decide) ?_
                refine lv_goto (tgt := 62) hx hb dX6_partBy_58 (by decide) ?_
                exact hB62 x1 x2 x3 x4 x5 x7 x6 1 s8 H locs ls h hP hS (lv_sub hl [0, 1, 2, 3, 4, 5, 7] rfl)
      intro x1 x2 x3 x4 x5 σ H locs ls h hP hS hl
      rw [p_X6_partBy_L6] at h
      refine lv_iload hx hb dX6_partBy_6 (lv_at hl 5 rfl) ?_
      refine lv_bipush (v := 10) hx hb dX6_partBy_8 (by decide) ?_
      refine lv_icmp_gt (tgt := 93) hx hb dX6_partBy_10 (by decide) (fun c1 => ?_) (fun c1 => ?_)
      · replace h := h.1 c1
        refine lv_iload hx hb dX6_partBy_93 (lv_at hl 4 rfl) ?_
        exact W.iret hx hb hr (fun t ht hW => ⟨⟨_, _, rfl, h, pw ht hP⟩, hS.F ht⟩) hS.2.2 dX6_partBy_95
      · replace h := h.2 c1
        refine lv_iconst (v := 0) hx hb dX6_partBy_13 (by decide) ?_
        refine lv_istore (i := 6) (lv' := [(6, .int 0), (0, .ref (ad x0)), (1, .int x1), (2, .int x2), (3, .int x3), (4, .int x4), (5, .int x5)]) hx hb dX6_partBy_14 hl (by decide) (by first | rfl | simp [re_cat, cat_i, cat_l, cat_r]) (fun ls hl => ?_)
        refine lv_iconst (v := 0) hx hb dX6_partBy_16 (by decide) ?_
        refine lv_istore (i := 7) (lv' := [(7, .int 0), (6, .int 0), (0, .ref (ad x0)), (1, .int x1), (2, .int x2), (3, .int x3), (4, .int x4), (5, .int x5)]) hx hb dX6_partBy_17 hl (by decide) (by first | rfl | simp [re_cat, cat_i, cat_l, cat_r]) (fun ls hl => ?_)
        obtain ⟨n2, h⟩ := h
        exact hB19 n2 x1 x2 x3 x4 x5 0 0 σ H locs ls h hP hS (lv_sub hl [2, 3, 4, 5, 6, 7, 1, 0] rfl)
  unfold p_X6_partBy at h
  refine lv_iconst (v := 0) hx hb dX6_partBy_0 (by decide) ?_
  refine lv_istore (i := 4) (lv' := [(4, .int 0), (0, .ref (ad x0)), (1, .int x1), (2, .int x2), (3, .int x3)]) hx hb dX6_partBy_1 hl (by decide) (by first | rfl | simp [re_cat, cat_i, cat_l, cat_r]) (fun ls hl => ?_)
  refine lv_iconst (v := 0) hx hb dX6_partBy_3 (by decide) ?_
  refine lv_istore (i := 5) (lv' := [(5, .int 0), (4, .int 0), (0, .ref (ad x0)), (1, .int x1), (2, .int x2), (3, .int x3)]) hx hb dX6_partBy_4 hl (by decide) (by first | rfl | simp [re_cat, cat_i, cat_l, cat_r]) (fun ls hl => ?_)
  obtain ⟨n1, h⟩ := h
  exact hB6 n1 x1 x2 x3 0 0 s0 _ _ ls h hP hS (lv_sub hl [2, 3, 4, 5, 1, 0] rfl)
def p_X6_look_b103 (Q : Int32 → Sg → Prop) (K39 : Nat → Int32 → Int32 → Int32 → Int32 → Int32 → Int32 → Sg → Prop) (x0 : Nat) (x1 : Int32) (x2 : Int32) (x3 : Int32) (x4 : Int32) (x5 : Int32) (x6 : Int32) (s : Sg) : Prop := K39 x0 x1 x2 x3 x4 x5 (x6 + 1) s
def p_X6_look_b95 (Q : Int32 → Sg → Prop) (K39 : Nat → Int32 → Int32 → Int32 → Int32 → Int32 → Int32 → Sg → Prop) (x0 : Nat) (x1 : Int32) (x2 : Int32) (x3 : Int32) (x6 : Int32) (x7 : Int32) (s : Sg) : Prop := p_X6_look_b103 Q K39 x0 x1 x2 x3 x6 x7 x6 s
def p_X6_look_b70 (Q : Int32 → Sg → Prop) (K39 : Nat → Int32 → Int32 → Int32 → Int32 → Int32 → Int32 → Sg → Prop) (x0 : Nat) (x1 : Int32) (x2 : Int32) (x3 : Int32) (x4 : Int32) (x5 : Int32) (x6 : Int32) (t0 : Int32) (s : Sg) : Prop := ((((x1 >>> (x6 &&& 31)) &&& 1) = 0 → ((x4 = ((-9)) → p_X6_look_b95 Q K39 x0 x1 x2 x3 x6 t0 s) ∧ (¬ x4 = ((-9)) → ((x5 ≤ t0 → p_X6_look_b103 Q K39 x0 x1 x2 x3 x4 x5 x6 s) ∧ (¬ x5 ≤ t0 → p_X6_look_b95 Q K39 x0 x1 x2 x3 x6 t0 s))))) ∧ (¬ ((x1 >>> (x6 &&& 31)) &&& 1) = 0 → p_X6_look_b103 Q K39 x0 x1 x2 x3 x4 x5 x6 s))
def p_X6_look_L39 (Q : Int32 → Sg → Prop)  : Nat → Nat → Int32 → Int32 → Int32 → Int32 → Int32 → Int32 → Sg → Prop
  | 0, _, _, _, _, _, _, _, _ => False
  | n + 1, x0, x1, x2, x3, x4, x5, x6, s => (((gI s x0 20) ≤ x6 → ((x4 = ((-9)) → Q x4 s) ∧ (¬ x4 = ((-9)) → Q x4 (setI s x0 0 x5)))) ∧ (¬ (gI s x0 20) ≤ x6 → ((((x1 >>> (x6 &&& 31)) &&& 1) = 1 → p_X6_look_b70 Q (fun y0 y1 y2 y3 y4 y5 y6 u => p_X6_look_L39 Q  n y0 y1 y2 y3 y4 y5 y6 u) x0 x1 x2 x3 x4 x5 x6 0 s) ∧ (¬ ((x1 >>> (x6 &&& 31)) &&& 1) = 1 → p_X6_partBy x0 x6 x2 x3 s (fun r5 s4 => p_X6_look_b70 Q (fun y0 y1 y2 y3 y4 y5 y6 u => p_X6_look_L39 Q  n y0 y1 y2 y3 y4 y5 y6 u) x0 x1 x2 x3 x4 x5 x6 r5 s4)))))
def p_X6_look (x0 : Nat) (x1 : Int32) (x2 : Int32) (s : Sg) (Q : Int32 → Sg → Prop) : Prop := p_X6_all x0 s (fun r2 s1 => p_X6_in x1 0 r2 s1 (fun r4 s3 => ((r4 = 0 → Q ((-1)) s3) ∧ (¬ r4 = 0 → p_X6_isYear x0 x2 s3 (fun r7 s6 => ((r7 = 0 → Q ((-1)) s6) ∧ (¬ r7 = 0 → p_X6_known x0 x1 x2 s6 (fun r10 s9 => (∃ n11, p_X6_look_L39 Q  n11 x0 x1 x2 r10 ((-9)) 0 0 s9)))))))))
set_option maxHeartbeats 4000000 in
set_option maxRecDepth 100000 in
theorem c_X6_look (l : Launch) (D : va_G) (cs : Cs) (ad : Nat → Nat) (x0 : Nat) (x1 : Int32) (x2 : Int32) (s0 : Sg) (Q : Int32 → Sg → Prop) (hk0 : kM x0 = 5) : Met l yX6_look wsX6_look { frames := 4, cells := 0, slots := 0, locals := 100 } (Pc0 bM D cs ad [.ref (ad x0), .int x1, .int x2] s0 (p_X6_look x0 x1 x2 s0 Q)) (QI bM D cs ad Q) 0 0 (fAd bM ad) := by
  refine Met.ofW (cc := cX6_look) (maxL := 8) (ret := (some .int)) (by decide) rfl ?_
  intro p e s m args below meth c s₁ B0 hml hv
  obtain ⟨ha, hP, hE, h⟩ := hv
  have hx := B0.exec
  have hb := B0.bytes
  have hr := B0.returns
  have hts := atoms_spec (ws := wsX6_look) B0.pre
  have hown : s.vm.findClass RX6 = some m.cls := findClass_of_methodNamed B0.named
  have hlocks := B0.notSynchronized
  have hi_X6 : ∀ w ∈ u_ws RX6 TX6 42, w ∈ wsX6_look := by decide +kernel
  have hS : va_S (fAd bM ad) s.heap s.heap [] := va_S.rf
  have hl := lv_entry ([.ref (ad x0), .int x1, .int x2]) (n := 8) (by first | exact Nat.le_of_ble_eq_true rfl | simp [lg_sl, re_cat, cat_i, cat_l, cat_r])
  rw [show entryFrame m args 8 = entryFrame m ([.ref (ad x0), .int x1, .int x2] : List Value).toArray 8 by rw [ha], lg_entry_eq]
  generalize (lg_sl ([.ref (ad x0), .int x1, .int x2]) ++ List.replicate (8 - (lg_sl ([.ref (ad x0), .int x1, .int x2])).length) Slot.unset).toArray = ls at hl ⊢
  have hl : lv_has ls 8 [(0, .ref (ad x0)), (1, .int x1), (2, .int x2)] := by first | exact hl | simpa [lv_args, re_cat, cat_i, cat_l, cat_r] using hl
  have hB39 : ∀ (n39 : Nat) (x1 : Int32) (x2 : Int32) (x3 : Int32) (x4 : Int32) (x5 : Int32) (x6 : Int32) (σ : Sg) (H : Heap) (locs : List Loc) (ls : Array Slot), p_X6_look_L39 Q  n39 x0 x1 x2 x3 x4 x5 x6 σ → va_P D vwCl (wl bM cs ad σ) H → va_S (fAd bM ad) s.heap H locs → lv_has ls 8 [(0, .ref (ad x0)), (1, .int x1), (2, .int x2), (3, .int x3), (4, .int x4), (5, .int x5), (6, .int x6)] → W p l e { frames := 4, cells := 0, slots := 0, locals := 100 } s m args below meth c H locs 0 0 (MQ below (QI bM D cs ad Q) args s 0 0 (fAd bM ad)) (F0 m 39 ls []) := by
    intro n39
    induction n39 with
    | zero =>
      intro x1 x2 x3 x4 x5 x6 σ H locs ls h
      exact h.elim
    | succ n39 ih =>
      have hK39 := ih
      have hB103 : ∀ (x1 : Int32) (x2 : Int32) (x3 : Int32) (x4 : Int32) (x5 : Int32) (x6 : Int32) (σ : Sg) (H : Heap) (locs : List Loc) (ls : Array Slot), p_X6_look_b103 Q (fun y0 y1 y2 y3 y4 y5 y6 u => p_X6_look_L39 Q  n39 y0 y1 y2 y3 y4 y5 y6 u) x0 x1 x2 x3 x4 x5 x6 σ → va_P D vwCl (wl bM cs ad σ) H → va_S (fAd bM ad) s.heap H locs → lv_has ls 8 [(0, .ref (ad x0)), (1, .int x1), (2, .int x2), (3, .int x3), (4, .int x4), (5, .int x5), (6, .int x6)] → W p l e { frames := 4, cells := 0, slots := 0, locals := 100 } s m args below meth c H locs 0 0 (MQ below (QI bM D cs ad Q) args s 0 0 (fAd bM ad)) (F0 m 103 ls []) := by
        intro x1 x2 x3 x4 x5 x6 σ H locs ls h hP hS hl
        unfold p_X6_look_b103 at h
        refine lv_iinc (v := x6 + 1) (lv' := [(6, .int (x6 + 1)), (0, .ref (ad x0)), (1, .int x1), (2, .int x2), (3, .int x3), (4, .int x4), (5, .int x5)]) hx hb dX6_look_103 hl (k := 6) rfl rfl (by decide) (by first | rfl | simp [re_cat, cat_i, cat_l, cat_r]) (fun ls hl => ?_)
        refine lv_goto (tgt := 39) hx hb dX6_look_106 (by decide) ?_
        exact hK39 x1 x2 x3 x4 x5 (x6 + 1) σ H locs ls h hP hS (lv_sub hl [1, 2, 3, 4, 5, 6, 0] rfl)
      have hB95 : ∀ (x1 : Int32) (x2 : Int32) (x3 : Int32) (x6 : Int32) (x7 : Int32) (σ : Sg) (H : Heap) (locs : List Loc) (ls : Array Slot), p_X6_look_b95 Q (fun y0 y1 y2 y3 y4 y5 y6 u => p_X6_look_L39 Q  n39 y0 y1 y2 y3 y4 y5 y6 u) x0 x1 x2 x3 x6 x7 σ → va_P D vwCl (wl bM cs ad σ) H → va_S (fAd bM ad) s.heap H locs → lv_has ls 8 [(0, .ref (ad x0)), (1, .int x1), (2, .int x2), (3, .int x3), (6, .int x6), (7, .int x7)] → W p l e { frames := 4, cells := 0, slots := 0, locals := 100 } s m args below meth c H locs 0 0 (MQ below (QI bM D cs ad Q) args s 0 0 (fAd bM ad)) (F0 m 95 ls []) := by
        intro x1 x2 x3 x6 x7 σ H locs ls h hP hS hl
        unfold p_X6_look_b95 at h
        refine lv_iload hx hb dX6_look_95 (lv_at hl 4 rfl) ?_
        refine lv_istore (i := 4) (lv' := [(4, .int x6), (0, .ref (ad x0)), (1, .int x1), (2, .int x2), (3, .int x3), (6, .int x6), (7, .int x7)]) hx hb dX6_look_97 hl (by decide) (by first | rfl | simp [re_cat, cat_i, cat_l, cat_r]) (fun ls hl => ?_)
        refine lv_iload hx hb dX6_look_99 (lv_at hl 6 rfl) ?_
        refine lv_istore (i := 5) (lv' := [(5, .int x7), (4, .int x6), (0, .ref (ad x0)), (1, .int x1), (2, .int x2), (3, .int x3), (6, .int x6), (7, .int x7)]) hx hb dX6_look_101 hl (by decide) (by first | rfl | simp [re_cat, cat_i, cat_l, cat_r]) (fun ls hl => ?_)
        exact hB103 x1 x2 x3 x6 x7 x6 σ H locs ls h hP hS (lv_sub hl [2, 3, 4, 5, 1, 0, 6] rfl)
      have hB70 : ∀ (x1 : Int32) (x2 : Int32) (x3 : Int32) (x4 : Int32) (x5 : Int32) (x6 : Int32) (t0 : Int32) (σ : Sg) (H : Heap) (locs : List Loc) (ls : Array Slot), p_X6_look_b70 Q (fun y0 y1 y2 y3 y4 y5 y6 u => p_X6_look_L39 Q  n39 y0 y1 y2 y3 y4 y5 y6 u) x0 x1 x2 x3 x4 x5 x6 t0 σ → va_P D vwCl (wl bM cs ad σ) H → va_S (fAd bM ad) s.heap H locs → lv_has ls 8 [(0, .ref (ad x0)), (1, .int x1), (2, .int x2), (3, .int x3), (4, .int x4), (5, .int x5), (6, .int x6)] → W p l e { frames := 4, cells := 0, slots := 0, locals := 100 } s m args below meth c H locs 0 0 (MQ below (QI bM D cs ad Q) args s 0 0 (fAd bM ad)) (F0 m 70 ls [.int t0]) := by
        intro x1 x2 x3 x4 x5 x6 t0 σ H locs ls h hP hS hl
        unfold p_X6_look_b70 at h
        refine lv_istore (i := 7) (lv' := [(7, .int t0), (0, .ref (ad x0)), (1, .int x1), (2, .int x2), (3, .int x3), (4, .int x4), (5, .int x5), (6, .int x6)]) hx hb dX6_look_70 hl (by decide) (by first | rfl | simp [re_cat, cat_i, cat_l, cat_r]) (fun ls hl => ?_)
        refine lv_iload_n hx hb dX6_look_72 rfl (lv_at hl 2 rfl) ?_
        refine lv_iload hx hb dX6_look_73 (lv_at hl 7 rfl) ?_
        refine lv_ishr hx hb dX6_look_75 ?_
        refine lv_iconst (v := 1) hx hb dX6_look_76 (by decide) ?_
        refine lv_iand hx hb dX6_look_77 ?_
        refine lv_if_ne (tgt := 103) hx hb dX6_look_78 (by decide) (fun c1 => ?_) (fun c1 => ?_)
        · replace h := h.2 c1
          exact hB103 x1 x2 x3 x4 x5 x6 σ H locs ls h hP hS (lv_sub hl [1, 2, 3, 4, 5, 6, 7] rfl)
        · replace h := h.1 c1
          refine lv_iload hx hb dX6_look_81 (lv_at hl 5 rfl) ?_
          refine lv_bipush (v := (-9)) hx hb dX6_look_83 (by decide) ?_
          refine lv_icmp_eq (tgt := 95) hx hb dX6_look_85 (by decide) (fun c2 => ?_) (fun c2 => ?_)
          · replace h := h.1 c2
            exact hB95 x1 x2 x3 x6 t0 σ H locs ls h hP hS (lv_sub hl [1, 2, 3, 4, 7, 0] rfl)
          · replace h := h.2 c2
            refine lv_iload hx hb dX6_look_88 (lv_at hl 0 rfl) ?_
            refine lv_iload hx hb dX6_look_90 (lv_at hl 6 rfl) ?_
            refine lv_icmp_ge (tgt := 103) hx hb dX6_look_92 (by decide) (fun c3 => ?_) (fun c3 => ?_)
            · replace h := h.1 c3
              exact hB103 x1 x2 x3 x4 x5 x6 σ H locs ls h hP hS (lv_sub hl [1, 2, 3, 4, 5, 6, 7] rfl)
            · replace h := h.2 c3
              exact hB95 x1 x2 x3 x6 t0 σ H locs ls h hP hS (lv_sub hl [1, 2, 3, 4, 7, 0] rfl)
      intro x1 x2 x3 x4 x5 x6 σ H locs ls h hP hS hl
      rw [p_X6_look_L39] at h
      refine lv_iload hx hb dX6_look_39 (lv_at hl 6 rfl) ?_
      refine lv_aload_n hx hb dX6_look_41 rfl (lv_at hl 0 rfl) ?_
      refine va_get (ci := 5) (v := .int (gI σ x0 20)) (C := RX6) (T := TX6) (N := 42) hx hb hts hi_X6 hown hE.1 hP x0 (w_5 hE hk0) rfl 20 (by decide) (hts (.fieldLink RX6 167 "HemLineModel" "women" "I") (by decide +kernel)) (fun _ h9 => h9) rfl dX6_look_42 ?_
      refine lv_icmp_ge (tgt := 109) hx hb dX6_look_45 (by decide) (fun c1 => ?_) (fun c1 => ?_)
      · replace h := h.1 c1
        refine lv_iload hx hb dX6_look_109 (lv_at hl 4 rfl) ?_
        refine lv_bipush (v := (-9)) hx hb dX6_look_111 (by decide) ?_
        refine lv_icmp_eq (tgt := 122) hx hb dX6_look_113 (by decide) (fun c2 => ?_) (fun c2 => ?_)
        · replace h := h.1 c2
          refine lv_iload hx hb dX6_look_122 (lv_at hl 4 rfl) ?_
          exact W.iret hx hb hr (fun t ht hW => ⟨⟨_, _, rfl, h, pw ht hP⟩, hS.F ht⟩) hS.2.2 dX6_look_124
        · replace h := h.2 c2
          refine lv_aload_n hx hb dX6_look_116 rfl (lv_at hl 0 rfl) ?_
          refine lv_iload hx hb dX6_look_117 (lv_at hl 5 rfl) ?_
          refine r_put (σ' := (setI σ x0 0 x5)) (ci := 5) (v := .int x5) (ty := .int) (C := RX6) (T := TX6) (N := 42) hx hb hts hi_X6 tyX6 tyX6_ok nmX6 hown hE hP hS x0 (w_5 hE hk0) rfl 0 (by decide) (hts (.fieldLink RX6 103 "HemLineModel" "asked" "I") (by decide +kernel)) (fun _ h9 => h9) rfl (by decide +kernel) rfl rfl (Nat.le_of_ble_eq_true rfl) dX6_look_119 (st_5_0 hE hk0 _) (fun H locs hP hS => ?_)
          refine lv_iload hx hb dX6_look_122 (lv_at hl 4 rfl) ?_
          exact W.iret hx hb hr (fun t ht hW => ⟨⟨_, _, rfl, h, pw ht hP⟩, hS.F ht⟩) hS.2.2 dX6_look_124
      · replace h := h.2 c1
        refine lv_iload_n hx hb dX6_look_48 rfl (lv_at hl 1 rfl) ?_
        refine lv_iload hx hb dX6_look_49 (lv_at hl 6 rfl) ?_
        refine lv_ishr hx hb dX6_look_51 ?_
        refine lv_iconst (v := 1) hx hb dX6_look_52 (by decide) ?_
        refine lv_iand hx hb dX6_look_53 ?_
        refine lv_iconst (v := 1) hx hb dX6_look_54 (by decide) ?_
        refine lv_icmp_ne (tgt := 62) hx hb dX6_look_55 (by decide) (fun c3 => ?_) (fun c3 => ?_)
        · replace h := h.2 c3
          refine lv_aload_n hx hb dX6_look_62 rfl (lv_at hl 0 rfl) ?_
          refine lv_iload hx hb dX6_look_63 (lv_at hl 6 rfl) ?_
          refine lv_iload_n hx hb dX6_look_65 rfl (lv_at hl 2 rfl) ?_
          refine lv_iload_n hx hb dX6_look_66 rfl (lv_at hl 3 rfl) ?_
          refine f_i (kV (As := [.int x6, .int x2, .int x3]) (rest := []) (o := some x0) rfl ⟨hx, hb, hml, hown, hts⟩ (c_X6_partBy l D cs ad x0 x6 x2 x3 σ _ hk0) (cwV 3 hts gX6_look_X6_partBy rfl rfl rfl (by decide +kernel) ⟨Nat.le_of_ble_eq_true rfl, Nat.le_of_ble_eq_true rfl⟩) hE hP rfl rfl (w_5 hE hk0) h rfl hl.1 rfl (by first | exact lv_room (Nat.le_of_ble_eq_true rfl) | (refine lv_room ?_; simp [re_cat, cat_i, cat_l, cat_r])) dX6_look_67 ⟨Nat.le_refl _, Nat.le_refl _⟩) hS (fun r5 s4 H locs h hP hS => ?_)
          exact hB70 x1 x2 x3 x4 x5 x6 r5 s4 H locs ls h hP hS (lv_sub hl [0, 1, 2, 3, 4, 5, 6] rfl)
        · replace h := h.1 c3
          refine lv_iconst (v := 0) hx hb dX6_look_58 (by decide) ?_
          refine lv_goto (tgt := 70) hx hb dX6_look_59 (by decide) ?_
          exact hB70 x1 x2 x3 x4 x5 x6 0 σ H locs ls h hP hS (lv_sub hl [0, 1, 2, 3, 4, 5, 6] rfl)
  unfold p_X6_look at h
  refine lv_iload_n hx hb dX6_look_0 rfl (lv_at hl 1 rfl) ?_
  refine lv_iconst (v := 0) hx hb dX6_look_1 (by decide) ?_
  refine lv_aload_n hx hb dX6_look_2 rfl (lv_at hl 0 rfl) ?_
  refine f_i (kV (As := []) (rest := [.int 0, .int x1]) (o := some x0) rfl ⟨hx, hb, hml, hown, hts⟩ (c_X6_all l D cs ad x0 s0 _ hk0) (cwV 0 hts gX6_look_X6_all rfl rfl rfl (by decide +kernel) ⟨Nat.le_of_ble_eq_true rfl, Nat.le_of_ble_eq_true rfl⟩) hE hP rfl rfl (w_5 hE hk0) h rfl hl.1 rfl (by first | exact lv_room (Nat.le_of_ble_eq_true rfl) | (refine lv_room ?_; simp [re_cat, cat_i, cat_l, cat_r])) dX6_look_3 ⟨Nat.le_refl _, Nat.le_refl _⟩) hS (fun r2 s1 H locs h hP hS => ?_)
  refine f_i (kS (As := [.int x1, .int 0, .int r2]) (rest := []) ⟨hx, hb, hml, hown, hts⟩ (c_X6_in l D cs ad x1 0 r2 s1 _) (va_cwS 3 hts gX6_look_X6_in rfl rfl rfl (by decide +kernel) ⟨Nat.le_of_ble_eq_true rfl, Nat.le_of_ble_eq_true rfl⟩) hE hP h rfl hl.1 rfl (by first | exact lv_room (Nat.le_of_ble_eq_true rfl) | (refine lv_room ?_; simp [re_cat, cat_i, cat_l, cat_r])) dX6_look_6 ⟨Nat.le_refl _, Nat.le_refl _⟩) hS (fun r4 s3 H locs h hP hS => ?_)
  refine lv_if_eq (tgt := 20) hx hb dX6_look_9 (by decide) (fun c5 => ?_) (fun c5 => ?_)
  · replace h := h.1 c5
    refine lv_iconst (v := (-1)) hx hb dX6_look_20 (by decide) ?_
    exact W.iret hx hb hr (fun t ht hW => ⟨⟨_, _, rfl, h, pw ht hP⟩, hS.F ht⟩) hS.2.2 dX6_look_21
  · replace h := h.2 c5
    refine lv_aload_n hx hb dX6_look_12 rfl (lv_at hl 0 rfl) ?_
    refine lv_iload_n hx hb dX6_look_13 rfl (lv_at hl 2 rfl) ?_
    refine f_i (kV (As := [.int x2]) (rest := []) (o := some x0) rfl ⟨hx, hb, hml, hown, hts⟩ (c_X6_isYear l D cs ad x0 x2 s3 _ hk0) (cwV 1 hts gX6_look_X6_isYear rfl rfl rfl (by decide +kernel) ⟨Nat.le_of_ble_eq_true rfl, Nat.le_of_ble_eq_true rfl⟩) hE hP rfl rfl (w_5 hE hk0) h rfl hl.1 rfl (by first | exact lv_room (Nat.le_of_ble_eq_true rfl) | (refine lv_room ?_; simp [re_cat, cat_i, cat_l, cat_r])) dX6_look_14 ⟨Nat.le_refl _, Nat.le_refl _⟩) hS (fun r7 s6 H locs h hP hS => ?_)
    refine lv_if_ne (tgt := 22) hx hb dX6_look_17 (by decide) (fun c8 => ?_) (fun c8 => ?_)
    · replace h := h.2 c8
      refine lv_aload_n hx hb dX6_look_22 rfl (lv_at hl 0 rfl) ?_
      refine lv_iload_n hx hb dX6_look_23 rfl (lv_at hl 1 rfl) ?_
      refine lv_iload_n hx hb dX6_look_24 rfl (lv_at hl 2 rfl) ?_
      refine f_i (kV (As := [.int x1, .int x2]) (rest := []) (o := some x0) rfl ⟨hx, hb, hml, hown, hts⟩ (c_X6_known l D cs ad x0 x1 x2 s6 _ hk0) (cwV 2 hts gX6_look_X6_known rfl rfl rfl (by decide +kernel) ⟨Nat.le_of_ble_eq_true rfl, Nat.le_of_ble_eq_true rfl⟩) hE hP rfl rfl (w_5 hE hk0) h rfl hl.1 rfl (by first | exact lv_room (Nat.le_of_ble_eq_true rfl) | (refine lv_room ?_; simp [re_cat, cat_i, cat_l, cat_r])) dX6_look_25 ⟨Nat.le_refl _, Nat.le_refl _⟩) hS (fun r10 s9 H locs h hP hS => ?_)
      refine lv_istore_n (i := 3) (lv' := [(3, .int r10), (0, .ref (ad x0)), (1, .int x1), (2, .int x2)]) hx hb dX6_look_28 rfl hl (by decide) (by first | rfl | simp [re_cat, cat_i, cat_l, cat_r]) (fun ls hl => ?_)
      refine lv_bipush (v := (-9)) hx hb dX6_look_29 (by decide) ?_
      refine lv_istore (i := 4) (lv' := [(4, .int ((-9))), (3, .int r10), (0, .ref (ad x0)), (1, .int x1), (2, .int x2)]) hx hb dX6_look_31 hl (by decide) (by first | rfl | simp [re_cat, cat_i, cat_l, cat_r]) (fun ls hl => ?_)
      refine lv_iconst (v := 0) hx hb dX6_look_33 (by decide) ?_
      refine lv_istore (i := 5) (lv' := [(5, .int 0), (4, .int ((-9))), (3, .int r10), (0, .ref (ad x0)), (1, .int x1), (2, .int x2)]) hx hb dX6_look_34 hl (by decide) (by first | rfl | simp [re_cat, cat_i, cat_l, cat_r]) (fun ls hl => ?_)
      refine lv_iconst (v := 0) hx hb dX6_look_36 (by decide) ?_
      refine lv_istore (i := 6) (lv' := [(6, .int 0), (5, .int 0), (4, .int ((-9))), (3, .int r10), (0, .ref (ad x0)), (1, .int x1), (2, .int x2)]) hx hb dX6_look_37 hl (by decide) (by first | rfl | simp [re_cat, cat_i, cat_l, cat_r]) (fun ls hl => ?_)
      obtain ⟨n11, h⟩ := h
      exact hB39 n11 x1 x2 r10 ((-9)) 0 0 s9 _ _ ls h hP hS (lv_sub hl [4, 5, 6, 3, 2, 1, 0] rfl)
    · replace h := h.1 c8
      refine lv_iconst (v := (-1)) hx hb dX6_look_20 (by decide) ?_
      exact W.iret hx hb hr (fun t ht hW => ⟨⟨_, _, rfl, h, pw ht hP⟩, hS.F ht⟩) hS.2.2 dX6_look_21
def p_X6_looks_b65 (Q : Int32 → Sg → Prop) (K31 : Nat → Int32 → Int32 → Int32 → Int32 → Sg → Prop) (x0 : Nat) (x1 : Int32) (x2 : Int32) (x4 : Int32) (t0 : Int32) (s : Sg) : Prop := K31 x0 x1 x2 t0 (x4 + (-1)) s
def p_X6_looks_b64 (Q : Int32 → Sg → Prop) (K31 : Nat → Int32 → Int32 → Int32 → Int32 → Sg → Prop) (x0 : Nat) (x1 : Int32) (x2 : Int32) (x3 : Int32) (x4 : Int32) (s : Sg) : Prop := p_X6_looks_b65 Q K31 x0 x1 x2 x4 x3 s
def p_X6_looks_L31 (Q : Int32 → Sg → Prop)  : Nat → Nat → Int32 → Int32 → Int32 → Int32 → Sg → Prop
  | 0, _, _, _, _, _, _ => False
  | n + 1, x0, x1, x2, x3, x4, s => ((x4 < 0 → p_X6_manyOf x3 (setI s x0 0 x3) (fun r3 s2 => Q r3 s2)) ∧ (¬ x4 < 0 → p_X6_manyOf x4 s (fun r5 s4 => p_X6_manyOf x3 s4 (fun r7 s6 => ((r7 < r5 → p_X6_looks_b64 Q (fun y0 y1 y2 y3 y4 u => p_X6_looks_L31 Q  n y0 y1 y2 y3 y4 u) x0 x1 x2 x3 x4 s6) ∧ (¬ r7 < r5 → p_X6_known x0 x4 x1 s6 (fun r10 s9 => ((r10 = x2 → p_X6_looks_b65 Q (fun y0 y1 y2 y3 y4 u => p_X6_looks_L31 Q  n y0 y1 y2 y3 y4 u) x0 x1 x2 x4 x4 s9) ∧ (¬ r10 = x2 → p_X6_looks_b64 Q (fun y0 y1 y2 y3 y4 u => p_X6_looks_L31 Q  n y0 y1 y2 y3 y4 u) x0 x1 x2 x3 x4 s9)))))))))
def p_X6_looks (x0 : Nat) (x1 : Int32) (s : Sg) (Q : Int32 → Sg → Prop) : Prop := p_X6_isYear x0 x1 s (fun r2 s1 => ((r2 = 0 → Q ((-1)) s1) ∧ (¬ r2 = 0 → p_X6_all x0 s1 (fun r5 s4 => p_X6_known x0 r5 x1 s4 (fun r7 s6 => p_X6_all x0 s6 (fun r9 s8 => p_X6_all x0 s8 (fun r11 s10 => (∃ n12, p_X6_looks_L31 Q  n12 x0 x1 r7 r9 r11 s10))))))))
set_option maxHeartbeats 4000000 in
set_option maxRecDepth 100000 in
theorem c_X6_looks (l : Launch) (D : va_G) (cs : Cs) (ad : Nat → Nat) (x0 : Nat) (x1 : Int32) (s0 : Sg) (Q : Int32 → Sg → Prop) (hk0 : kM x0 = 5) : Met l yX6_looks wsX6_looks { frames := 4, cells := 0, slots := 0, locals := 99 } (Pc0 bM D cs ad [.ref (ad x0), .int x1] s0 (p_X6_looks x0 x1 s0 Q)) (QI bM D cs ad Q) 0 0 (fAd bM ad) := by
  refine Met.ofW (cc := cX6_looks) (maxL := 5) (ret := (some .int)) (by decide) rfl ?_
  intro p e s m args below meth c s₁ B0 hml hv
  obtain ⟨ha, hP, hE, h⟩ := hv
  have hx := B0.exec
  have hb := B0.bytes
  have hr := B0.returns
  have hts := atoms_spec (ws := wsX6_looks) B0.pre
  have hown : s.vm.findClass RX6 = some m.cls := findClass_of_methodNamed B0.named
  have hlocks := B0.notSynchronized
  have hi_X6 : ∀ w ∈ u_ws RX6 TX6 42, w ∈ wsX6_looks := by decide +kernel
  have hS : va_S (fAd bM ad) s.heap s.heap [] := va_S.rf
  have hl := lv_entry ([.ref (ad x0), .int x1]) (n := 5) (by first | exact Nat.le_of_ble_eq_true rfl | simp [lg_sl, re_cat, cat_i, cat_l, cat_r])
  rw [show entryFrame m args 5 = entryFrame m ([.ref (ad x0), .int x1] : List Value).toArray 5 by rw [ha], lg_entry_eq]
  generalize (lg_sl ([.ref (ad x0), .int x1]) ++ List.replicate (5 - (lg_sl ([.ref (ad x0), .int x1])).length) Slot.unset).toArray = ls at hl ⊢
  have hl : lv_has ls 5 [(0, .ref (ad x0)), (1, .int x1)] := by first | exact hl | simpa [lv_args, re_cat, cat_i, cat_l, cat_r] using hl
  have hB31 : ∀ (n31 : Nat) (x1 : Int32) (x2 : Int32) (x3 : Int32) (x4 : Int32) (σ : Sg) (H : Heap) (locs : List Loc) (ls : Array Slot), p_X6_looks_L31 Q  n31 x0 x1 x2 x3 x4 σ → va_P D vwCl (wl bM cs ad σ) H → va_S (fAd bM ad) s.heap H locs → lv_has ls 5 [(0, .ref (ad x0)), (1, .int x1), (2, .int x2), (3, .int x3), (4, .int x4)] → W p l e { frames := 4, cells := 0, slots := 0, locals := 99 } s m args below meth c H locs 0 0 (MQ below (QI bM D cs ad Q) args s 0 0 (fAd bM ad)) (F0 m 31 ls []) := by
    intro n31
    induction n31 with
    | zero =>
      intro x1 x2 x3 x4 σ H locs ls h
      exact h.elim
    | succ n31 ih =>
      have hK31 := ih
      have hB65 : ∀ (x1 : Int32) (x2 : Int32) (x4 : Int32) (t0 : Int32) (σ : Sg) (H : Heap) (locs : List Loc) (ls : Array Slot), p_X6_looks_b65 Q (fun y0 y1 y2 y3 y4 u => p_X6_looks_L31 Q  n31 y0 y1 y2 y3 y4 u) x0 x1 x2 x4 t0 σ → va_P D vwCl (wl bM cs ad σ) H → va_S (fAd bM ad) s.heap H locs → lv_has ls 5 [(0, .ref (ad x0)), (1, .int x1), (2, .int x2), (4, .int x4)] → W p l e { frames := 4, cells := 0, slots := 0, locals := 99 } s m args below meth c H locs 0 0 (MQ below (QI bM D cs ad Q) args s 0 0 (fAd bM ad)) (F0 m 65 ls [.int t0]) := by
        intro x1 x2 x4 t0 σ H locs ls h hP hS hl
        unfold p_X6_looks_b65 at h
        refine lv_istore_n (i := 3) (lv' := [(3, .int t0), (0, .ref (ad x0)), (1, .int x1), (2, .int x2), (4, .int x4)]) hx hb dX6_looks_65 rfl hl (by decide) (by first | rfl | simp [re_cat, cat_i, cat_l, cat_r]) (fun ls hl => ?_)
        refine lv_iinc (v := x4 + (-1)) (lv' := [(4, .int (x4 + (-1))), (3, .int t0), (0, .ref (ad x0)), (1, .int x1), (2, .int x2)]) hx hb dX6_looks_66 hl (k := 4) rfl rfl (by decide) (by first | rfl | simp [re_cat, cat_i, cat_l, cat_r]) (fun ls hl => ?_)
        refine lv_goto (tgt := 31) hx hb dX6_looks_69 (by decide) ?_
        exact hK31 x1 x2 t0 (x4 + (-1)) σ H locs ls h hP hS (lv_sub hl [2, 3, 4, 1, 0] rfl)
      have hB64 : ∀ (x1 : Int32) (x2 : Int32) (x3 : Int32) (x4 : Int32) (σ : Sg) (H : Heap) (locs : List Loc) (ls : Array Slot), p_X6_looks_b64 Q (fun y0 y1 y2 y3 y4 u => p_X6_looks_L31 Q  n31 y0 y1 y2 y3 y4 u) x0 x1 x2 x3 x4 σ → va_P D vwCl (wl bM cs ad σ) H → va_S (fAd bM ad) s.heap H locs → lv_has ls 5 [(0, .ref (ad x0)), (1, .int x1), (2, .int x2), (3, .int x3), (4, .int x4)] → W p l e { frames := 4, cells := 0, slots := 0, locals := 99 } s m args below meth c H locs 0 0 (MQ below (QI bM D cs ad Q) args s 0 0 (fAd bM ad)) (F0 m 64 ls []) := by
        intro x1 x2 x3 x4 σ H locs ls h hP hS hl
        unfold p_X6_looks_b64 at h
        refine lv_iload_n hx hb dX6_looks_64 rfl (lv_at hl 3 rfl) ?_
        exact hB65 x1 x2 x4 x3 σ H locs ls h hP hS (lv_sub hl [0, 1, 2, 4] rfl)
      intro x1 x2 x3 x4 σ H locs ls h hP hS hl
      rw [p_X6_looks_L31] at h
      refine lv_iload hx hb dX6_looks_31 (lv_at hl 4 rfl) ?_
      refine lv_if_lt (tgt := 72) hx hb dX6_looks_33 (by decide) (fun c1 => ?_) (fun c1 => ?_)
      · replace h := h.1 c1
        refine lv_aload_n hx hb dX6_looks_72 rfl (lv_at hl 0 rfl) ?_
        refine lv_iload_n hx hb dX6_looks_73 rfl (lv_at hl 3 rfl) ?_
        refine r_put (σ' := (setI σ x0 0 x3)) (ci := 5) (v := .int x3) (ty := .int) (C := RX6) (T := TX6) (N := 42) hx hb hts hi_X6 tyX6 tyX6_ok nmX6 hown hE hP hS x0 (w_5 hE hk0) rfl 0 (by decide) (hts (.fieldLink RX6 103 "HemLineModel" "asked" "I") (by decide +kernel)) (fun _ h9 => h9) rfl (by decide +kernel) rfl rfl (Nat.le_of_ble_eq_true rfl) dX6_looks_74 (st_5_0 hE hk0 _) (fun H locs hP hS => ?_)
        refine lv_iload_n hx hb dX6_looks_77 rfl (lv_at hl 3 rfl) ?_
        refine f_i (kS (As := [.int x3]) (rest := []) ⟨hx, hb, hml, hown, hts⟩ (c_X6_manyOf l D cs ad x3 (setI σ x0 0 x3) _) (va_cwS 1 hts gX6_looks_X6_manyOf rfl rfl rfl (by decide +kernel) ⟨Nat.le_of_ble_eq_true rfl, Nat.le_of_ble_eq_true rfl⟩) hE hP h rfl hl.1 rfl (by first | exact lv_room (Nat.le_of_ble_eq_true rfl) | (refine lv_room ?_; simp [re_cat, cat_i, cat_l, cat_r])) dX6_looks_78 ⟨Nat.le_refl _, Nat.le_refl _⟩) hS (fun r3 s2 H locs h hP hS => ?_)
        exact W.iret hx hb hr (fun t ht hW => ⟨⟨_, _, rfl, h, pw ht hP⟩, hS.F ht⟩) hS.2.2 dX6_looks_81
      · replace h := h.2 c1
        refine lv_iload hx hb dX6_looks_36 (lv_at hl 4 rfl) ?_
        refine f_i (kS (As := [.int x4]) (rest := []) ⟨hx, hb, hml, hown, hts⟩ (c_X6_manyOf l D cs ad x4 σ _) (va_cwS 1 hts gX6_looks_X6_manyOf rfl rfl rfl (by decide +kernel) ⟨Nat.le_of_ble_eq_true rfl, Nat.le_of_ble_eq_true rfl⟩) hE hP h rfl hl.1 rfl (by first | exact lv_room (Nat.le_of_ble_eq_true rfl) | (refine lv_room ?_; simp [re_cat, cat_i, cat_l, cat_r])) dX6_looks_38 ⟨Nat.le_refl _, Nat.le_refl _⟩) hS (fun r5 s4 H locs h hP hS => ?_)
        refine lv_iload_n hx hb dX6_looks_41 rfl (lv_at hl 3 rfl) ?_
        refine f_i (kS (As := [.int x3]) (rest := [.int r5]) ⟨hx, hb, hml, hown, hts⟩ (c_X6_manyOf l D cs ad x3 s4 _) (va_cwS 1 hts gX6_looks_X6_manyOf rfl rfl rfl (by decide +kernel) ⟨Nat.le_of_ble_eq_true rfl, Nat.le_of_ble_eq_true rfl⟩) hE hP h rfl hl.1 rfl (by first | exact lv_room (Nat.le_of_ble_eq_true rfl) | (refine lv_room ?_; simp [re_cat, cat_i, cat_l, cat_r])) dX6_looks_42 ⟨Nat.le_refl _, Nat.le_refl _⟩) hS (fun r7 s6 H locs h hP hS => ?_)
        refine lv_icmp_gt (tgt := 64) hx hb dX6_looks_45 (by decide) (fun c8 => ?_) (fun c8 => ?_)
        · replace h := h.1 c8
          exact hB64 x1 x2 x3 x4 s6 H locs ls h hP hS (lv_sub hl [0, 1, 2, 3, 4] rfl)
        · replace h := h.2 c8
          refine lv_aload_n hx hb dX6_looks_48 rfl (lv_at hl 0 rfl) ?_
          refine lv_iload hx hb dX6_looks_49 (lv_at hl 4 rfl) ?_
          refine lv_iload_n hx hb dX6_looks_51 rfl (lv_at hl 1 rfl) ?_
          refine f_i (kV (As := [.int x4, .int x1]) (rest := []) (o := some x0) rfl ⟨hx, hb, hml, hown, hts⟩ (c_X6_known l D cs ad x0 x4 x1 s6 _ hk0) (cwV 2 hts gX6_looks_X6_known rfl rfl rfl (by decide +kernel) ⟨Nat.le_of_ble_eq_true rfl, Nat.le_of_ble_eq_true rfl⟩) hE hP rfl rfl (w_5 hE hk0) h rfl hl.1 rfl (by first | exact lv_room (Nat.le_of_ble_eq_true rfl) | (refine lv_room ?_; simp [re_cat, cat_i, cat_l, cat_r])) dX6_looks_52 ⟨Nat.le_refl _, Nat.le_refl _⟩) hS (fun r10 s9 H locs h hP hS => ?_)
          refine lv_iload_n hx hb dX6_looks_55 rfl (lv_at hl 2 rfl) ?_
          refine lv_icmp_ne (tgt := 64) hx hb dX6_looks_56 (by decide) (fun c11 => ?_) (fun c11 => ?_)
          · replace h := h.2 c11
            exact hB64 x1 x2 x3 x4 s9 H locs ls h hP hS (lv_sub hl [0, 1, 2, 3, 4] rfl)
          · replace h := h.1 c11
            refine lv_iload hx hb dX6_looks_59 (lv_at hl 4 rfl) ?_
            refine lv_goto (tgt := 65) hx hb dX6_looks_61 (by decide) ?_
            exact hB65 x1 x2 x4 x4 s9 H locs ls h hP hS (lv_sub hl [0, 1, 2, 4] rfl)
  unfold p_X6_looks at h
  refine lv_aload_n hx hb dX6_looks_0 rfl (lv_at hl 0 rfl) ?_
  refine lv_iload_n hx hb dX6_looks_1 rfl (lv_at hl 1 rfl) ?_
  refine f_i (kV (As := [.int x1]) (rest := []) (o := some x0) rfl ⟨hx, hb, hml, hown, hts⟩ (c_X6_isYear l D cs ad x0 x1 s0 _ hk0) (cwV 1 hts gX6_looks_X6_isYear rfl rfl rfl (by decide +kernel) ⟨Nat.le_of_ble_eq_true rfl, Nat.le_of_ble_eq_true rfl⟩) hE hP rfl rfl (w_5 hE hk0) h rfl hl.1 rfl (by first | exact lv_room (Nat.le_of_ble_eq_true rfl) | (refine lv_room ?_; simp [re_cat, cat_i, cat_l, cat_r])) dX6_looks_2 ⟨Nat.le_refl _, Nat.le_refl _⟩) hS (fun r2 s1 H locs h hP hS => ?_)
  refine lv_if_ne (tgt := 10) hx hb dX6_looks_5 (by decide) (fun c3 => ?_) (fun c3 => ?_)
  · replace h := h.2 c3
    refine lv_aload_n hx hb dX6_looks_10 rfl (lv_at hl 0 rfl) ?_
    refine lv_aload_n hx hb dX6_looks_11 rfl (lv_at hl 0 rfl) ?_
    refine f_i (kV (As := []) (rest := [.ref (ad x0)]) (o := some x0) rfl ⟨hx, hb, hml, hown, hts⟩ (c_X6_all l D cs ad x0 s1 _ hk0) (cwV 0 hts gX6_looks_X6_all rfl rfl rfl (by decide +kernel) ⟨Nat.le_of_ble_eq_true rfl, Nat.le_of_ble_eq_true rfl⟩) hE hP rfl rfl (w_5 hE hk0) h rfl hl.1 rfl (by first | exact lv_room (Nat.le_of_ble_eq_true rfl) | (refine lv_room ?_; simp [re_cat, cat_i, cat_l, cat_r])) dX6_looks_12 ⟨Nat.le_refl _, Nat.le_refl _⟩) hS (fun r5 s4 H locs h hP hS => ?_)
    refine lv_iload_n hx hb dX6_looks_15 rfl (lv_at hl 1 rfl) ?_
    refine f_i (kV (As := [.int r5, .int x1]) (rest := []) (o := some x0) rfl ⟨hx, hb, hml, hown, hts⟩ (c_X6_known l D cs ad x0 r5 x1 s4 _ hk0) (cwV 2 hts gX6_looks_X6_known rfl rfl rfl (by decide +kernel) ⟨Nat.le_of_ble_eq_true rfl, Nat.le_of_ble_eq_true rfl⟩) hE hP rfl rfl (w_5 hE hk0) h rfl hl.1 rfl (by first | exact lv_room (Nat.le_of_ble_eq_true rfl) | (refine lv_room ?_; simp [re_cat, cat_i, cat_l, cat_r])) dX6_looks_16 ⟨Nat.le_refl _, Nat.le_refl _⟩) hS (fun r7 s6 H locs h hP hS => ?_)
    refine lv_istore_n (i := 2) (lv' := [(2, .int r7), (0, .ref (ad x0)), (1, .int x1)]) hx hb dX6_looks_19 rfl hl (by decide) (by first | rfl | simp [re_cat, cat_i, cat_l, cat_r]) (fun ls hl => ?_)
    refine lv_aload_n hx hb dX6_looks_20 rfl (lv_at hl 1 rfl) ?_
    refine f_i (kV (As := []) (rest := []) (o := some x0) rfl ⟨hx, hb, hml, hown, hts⟩ (c_X6_all l D cs ad x0 s6 _ hk0) (cwV 0 hts gX6_looks_X6_all rfl rfl rfl (by decide +kernel) ⟨Nat.le_of_ble_eq_true rfl, Nat.le_of_ble_eq_true rfl⟩) hE hP rfl rfl (w_5 hE hk0) h rfl hl.1 rfl (by first | exact lv_room (Nat.le_of_ble_eq_true rfl) | (refine lv_room ?_; simp [re_cat, cat_i, cat_l, cat_r])) dX6_looks_21 ⟨Nat.le_refl _, Nat.le_refl _⟩) hS (fun r9 s8 H locs h hP hS => ?_)
    refine lv_istore_n (i := 3) (lv' := [(3, .int r9), (2, .int r7), (0, .ref (ad x0)), (1, .int x1)]) hx hb dX6_looks_24 rfl hl (by decide) (by first | rfl | simp [re_cat, cat_i, cat_l, cat_r]) (fun ls hl => ?_)
    refine lv_aload_n hx hb dX6_looks_25 rfl (lv_at hl 2 rfl) ?_
    refine f_i (kV (As := []) (rest := []) (o := some x0) rfl ⟨hx, hb, hml, hown, hts⟩ (c_X6_all l D cs ad x0 s8 _ hk0) (cwV 0 hts gX6_looks_X6_all rfl rfl rfl (by decide +kernel) ⟨Nat.le_of_ble_eq_true rfl, Nat.le_of_ble_eq_true rfl⟩) hE hP rfl rfl (w_5 hE hk0) h rfl hl.1 rfl (by first | exact lv_room (Nat.le_of_ble_eq_true rfl) | (refine lv_room ?_; simp [re_cat, cat_i, cat_l, cat_r])) dX6_looks_26 ⟨Nat.le_refl _, Nat.le_refl _⟩) hS (fun r11 s10 H locs h hP hS => ?_)
    refine lv_istore (i := 4) (lv' := [(4, .int r11), (3, .int r9), (2, .int r7), (0, .ref (ad x0)), (1, .int x1)]) hx hb dX6_looks_29 hl (by decide) (by first | rfl | simp [re_cat, cat_i, cat_l, cat_r]) (fun ls hl => ?_)
    obtain ⟨n12, h⟩ := h
    exact hB31 n12 x1 r7 r9 r11 s10 _ _ ls h hP hS (lv_sub hl [3, 4, 2, 1, 0] rfl)
  · replace h := h.1 c3
    refine lv_iconst (v := (-1)) hx hb dX6_looks_8 (by decide) ?_
    exact W.iret hx hb hr (fun t ht hW => ⟨⟨_, _, rfl, h, pw ht hP⟩, hS.F ht⟩) hS.2.2 dX6_looks_9
def p_X6_line_b69 (Q : Int32 → Sg → Prop) (K29 : Nat → Int32 → Int32 → Int32 → Int32 → Int32 → Sg → Prop) (x0 : Nat) (x1 : Int32) (x3 : Int32) (x4 : Int32) (x5 : Int32) (t0 : Int32) (t1 : Int32) (s : Sg) : Prop := K29 x0 x1 (t0 + t1) x3 x4 (x5 + 1) s
def p_X6_line_b109 (Q : Int32 → Sg → Prop) (K17 : Nat → Int32 → Int32 → Int32 → Int32 → Sg → Prop) (x0 : Nat) (x1 : Int32) (x2 : Int32) (x4 : Int32) (t0 : Int32) (s : Sg) : Prop := K17 x0 x1 x2 t0 (x4 + 1) s
def p_X6_line_L29 (Q : Int32 → Sg → Prop) (K17 : Nat → Int32 → Int32 → Int32 → Int32 → Sg → Prop) : Nat → Nat → Int32 → Int32 → Int32 → Int32 → Int32 → Sg → Prop
  | 0, _, _, _, _, _, _, _ => False
  | n + 1, x0, x1, x2, x3, x4, x5, s => ((x4 ≤ x5 → ∃ k2, tM x0 33 = some k2 ∧ kM k2 = 7 ∧ vp_in ((6 * x1) + x4) (lM k2) ∧ ∃ k6, tM x0 33 = some k6 ∧ kM k6 = 7 ∧ vp_in ((6 * x1) + x3) (lM k6) ∧ (((gR s k6 ((6 * x1) + x3).toNatClampNeg) ≤ (gR s k2 ((6 * x1) + x4).toNatClampNeg) → p_X6_line_b109 Q K17 x0 x1 x2 x4 x3 s) ∧ (¬ (gR s k6 ((6 * x1) + x3).toNatClampNeg) ≤ (gR s k2 ((6 * x1) + x4).toNatClampNeg) → p_X6_line_b109 Q K17 x0 x1 x2 x4 x4 s))) ∧ (¬ x4 ≤ x5 → ∃ k11, tM x0 33 = some k11 ∧ kM k11 = 7 ∧ vp_in ((6 * x1) + x5) (lM k11) ∧ ∃ k15, tM x0 33 = some k15 ∧ kM k15 = 7 ∧ vp_in ((6 * x1) + x4) (lM k15) ∧ (((gR s k11 ((6 * x1) + x5).toNatClampNeg) ≤ (gR s k15 ((6 * x1) + x4).toNatClampNeg) → p_X6_line_b69 Q (fun y0 y1 y2 y3 y4 y5 u => p_X6_line_L29 Q K17 n y0 y1 y2 y3 y4 y5 u) x0 x1 x3 x4 x5 x2 0 s) ∧ (¬ (gR s k11 ((6 * x1) + x5).toNatClampNeg) ≤ (gR s k15 ((6 * x1) + x4).toNatClampNeg) → p_X6_line_b69 Q (fun y0 y1 y2 y3 y4 y5 u => p_X6_line_L29 Q K17 n y0 y1 y2 y3 y4 y5 u) x0 x1 x3 x4 x5 x2 1 s))))
def p_X6_line_L17 (Q : Int32 → Sg → Prop)  : Nat → Nat → Int32 → Int32 → Int32 → Int32 → Sg → Prop
  | 0, _, _, _, _, _, _ => False
  | n + 1, x0, x1, x2, x3, x4, s => (((gI s x0 20) ≤ x4 → Q x2 (setI s x0 0 x3)) ∧ (¬ (gI s x0 20) ≤ x4 → (∃ n2, p_X6_line_L29 Q (fun y0 y1 y2 y3 y4 u => p_X6_line_L17 Q  n y0 y1 y2 y3 y4 u) n2 x0 x1 x2 x3 x4 0 s)))
def p_X6_line (x0 : Nat) (x1 : Int32) (s : Sg) (Q : Int32 → Sg → Prop) : Prop := p_X6_isYear x0 x1 s (fun r2 s1 => ((r2 = 0 → Q ((-1)) s1) ∧ (¬ r2 = 0 → (∃ n4, p_X6_line_L17 Q  n4 x0 x1 0 0 0 s1))))
set_option maxHeartbeats 4000000 in
set_option maxRecDepth 100000 in
theorem c_X6_line (l : Launch) (D : va_G) (cs : Cs) (ad : Nat → Nat) (x0 : Nat) (x1 : Int32) (s0 : Sg) (Q : Int32 → Sg → Prop) (hk0 : kM x0 = 5) : Met l yX6_line wsX6_line { frames := 2, cells := 0, slots := 0, locals := 43 } (Pc0 bM D cs ad [.ref (ad x0), .int x1] s0 (p_X6_line x0 x1 s0 Q)) (QI bM D cs ad Q) 0 0 (fAd bM ad) := by
  refine Met.ofW (cc := cX6_line) (maxL := 6) (ret := (some .int)) (by decide) rfl ?_
  intro p e s m args below meth c s₁ B0 hml hv
  obtain ⟨ha, hP, hE, h⟩ := hv
  have hx := B0.exec
  have hb := B0.bytes
  have hr := B0.returns
  have hts := atoms_spec (ws := wsX6_line) B0.pre
  have hown : s.vm.findClass RX6 = some m.cls := findClass_of_methodNamed B0.named
  have hlocks := B0.notSynchronized
  have hi_X6 : ∀ w ∈ u_ws RX6 TX6 42, w ∈ wsX6_line := by decide +kernel
  have hS : va_S (fAd bM ad) s.heap s.heap [] := va_S.rf
  have hl := lv_entry ([.ref (ad x0), .int x1]) (n := 6) (by first | exact Nat.le_of_ble_eq_true rfl | simp [lg_sl, re_cat, cat_i, cat_l, cat_r])
  rw [show entryFrame m args 6 = entryFrame m ([.ref (ad x0), .int x1] : List Value).toArray 6 by rw [ha], lg_entry_eq]
  generalize (lg_sl ([.ref (ad x0), .int x1]) ++ List.replicate (6 - (lg_sl ([.ref (ad x0), .int x1])).length) Slot.unset).toArray = ls at hl ⊢
  have hl : lv_has ls 6 [(0, .ref (ad x0)), (1, .int x1)] := by first | exact hl | simpa [lv_args, re_cat, cat_i, cat_l, cat_r] using hl
  have hB17 : ∀ (n17 : Nat) (x1 : Int32) (x2 : Int32) (x3 : Int32) (x4 : Int32) (σ : Sg) (H : Heap) (locs : List Loc) (ls : Array Slot), p_X6_line_L17 Q  n17 x0 x1 x2 x3 x4 σ → va_P D vwCl (wl bM cs ad σ) H → va_S (fAd bM ad) s.heap H locs → lv_has ls 6 [(0, .ref (ad x0)), (1, .int x1), (2, .int x2), (3, .int x3), (4, .int x4)] → W p l e { frames := 2, cells := 0, slots := 0, locals := 43 } s m args below meth c H locs 0 0 (MQ below (QI bM D cs ad Q) args s 0 0 (fAd bM ad)) (F0 m 17 ls []) := by
    intro n17
    induction n17 with
    | zero =>
      intro x1 x2 x3 x4 σ H locs ls h
      exact h.elim
    | succ n17 ih =>
      have hK17 := ih
      have hB109 : ∀ (x1 : Int32) (x2 : Int32) (x4 : Int32) (t0 : Int32) (σ : Sg) (H : Heap) (locs : List Loc) (ls : Array Slot), p_X6_line_b109 Q (fun y0 y1 y2 y3 y4 u => p_X6_line_L17 Q  n17 y0 y1 y2 y3 y4 u) x0 x1 x2 x4 t0 σ → va_P D vwCl (wl bM cs ad σ) H → va_S (fAd bM ad) s.heap H locs → lv_has ls 6 [(0, .ref (ad x0)), (1, .int x1), (2, .int x2), (4, .int x4)] → W p l e { frames := 2, cells := 0, slots := 0, locals := 43 } s m args below meth c H locs 0 0 (MQ below (QI bM D cs ad Q) args s 0 0 (fAd bM ad)) (F0 m 109 ls [.int t0]) := by
        intro x1 x2 x4 t0 σ H locs ls h hP hS hl
        unfold p_X6_line_b109 at h
        refine lv_istore_n (i := 3) (lv' := [(3, .int t0), (0, .ref (ad x0)), (1, .int x1), (2, .int x2), (4, .int x4)]) hx hb dX6_line_109 rfl hl (by decide) (by first | rfl | simp [re_cat, cat_i, cat_l, cat_r]) (fun ls hl => ?_)
        refine lv_iinc (v := x4 + 1) (lv' := [(4, .int (x4 + 1)), (3, .int t0), (0, .ref (ad x0)), (1, .int x1), (2, .int x2)]) hx hb dX6_line_110 hl (k := 4) rfl rfl (by decide) (by first | rfl | simp [re_cat, cat_i, cat_l, cat_r]) (fun ls hl => ?_)
        refine lv_goto (tgt := 17) hx hb dX6_line_113 (by decide) ?_
        exact hK17 x1 x2 t0 (x4 + 1) σ H locs ls h hP hS (lv_sub hl [2, 3, 4, 1, 0] rfl)
      have hB29 : ∀ (n29 : Nat) (x1 : Int32) (x2 : Int32) (x3 : Int32) (x4 : Int32) (x5 : Int32) (σ : Sg) (H : Heap) (locs : List Loc) (ls : Array Slot), p_X6_line_L29 Q (fun y0 y1 y2 y3 y4 u => p_X6_line_L17 Q  n17 y0 y1 y2 y3 y4 u) n29 x0 x1 x2 x3 x4 x5 σ → va_P D vwCl (wl bM cs ad σ) H → va_S (fAd bM ad) s.heap H locs → lv_has ls 6 [(0, .ref (ad x0)), (1, .int x1), (2, .int x2), (3, .int x3), (4, .int x4), (5, .int x5)] → W p l e { frames := 2, cells := 0, slots := 0, locals := 43 } s m args below meth c H locs 0 0 (MQ below (QI bM D cs ad Q) args s 0 0 (fAd bM ad)) (F0 m 29 ls []) := by
        intro n29
        induction n29 with
        | zero =>
          intro x1 x2 x3 x4 x5 σ H locs ls h
          exact h.elim
        | succ n29 ih =>
          have hK29 := ih
          have hB69 : ∀ (x1 : Int32) (x3 : Int32) (x4 : Int32) (x5 : Int32) (t0 : Int32) (t1 : Int32) (σ : Sg) (H : Heap) (locs : List Loc) (ls : Array Slot), p_X6_line_b69 Q (fun y0 y1 y2 y3 y4 y5 u => p_X6_line_L29 Q (fun y0 y1 y2 y3 y4 u => p_X6_line_L17 Q  n17 y0 y1 y2 y3 y4 u) n29 y0 y1 y2 y3 y4 y5 u) x0 x1 x3 x4 x5 t0 t1 σ → va_P D vwCl (wl bM cs ad σ) H → va_S (fAd bM ad) s.heap H locs → lv_has ls 6 [(0, .ref (ad x0)), (1, .int x1), (3, .int x3), (4, .int x4), (5, .int x5)] → W p l e { frames := 2, cells := 0, slots := 0, locals := 43 } s m args below meth c H locs 0 0 (MQ below (QI bM D cs ad Q) args s 0 0 (fAd bM ad)) (F0 m 69 ls [.int t1, .int t0]) := by
            intro x1 x3 x4 x5 t0 t1 σ H locs ls h hP hS hl
            unfold p_X6_line_b69 at h
            refine lv_iadd hx hb dX6_line_69 ?_
            refine lv_istore_n (i := 2) (lv' := [(2, .int (t0 + t1)), (0, .ref (ad x0)), (1, .int x1), (3, .int x3), (4, .int x4), (5, .int x5)]) hx hb dX6_line_70 rfl hl (by decide) (by first | rfl | simp [re_cat, cat_i, cat_l, cat_r]) (fun ls hl => ?_)
            refine lv_iinc (v := x5 + 1) (lv' := [(5, .int (x5 + 1)), (2, .int (t0 + t1)), (0, .ref (ad x0)), (1, .int x1), (3, .int x3), (4, .int x4)]) hx hb dX6_line_71 hl (k := 5) rfl rfl (by decide) (by first | rfl | simp [re_cat, cat_i, cat_l, cat_r]) (fun ls hl => ?_)
            refine lv_goto (tgt := 29) hx hb dX6_line_74 (by decide) ?_
            exact hK29 x1 (t0 + t1) x3 x4 (x5 + 1) σ H locs ls h hP hS (lv_sub hl [2, 3, 1, 4, 5, 0] rfl)
          intro x1 x2 x3 x4 x5 σ H locs ls h hP hS hl
          rw [p_X6_line_L29] at h
          refine lv_iload hx hb dX6_line_29 (lv_at hl 5 rfl) ?_
          refine lv_iload hx hb dX6_line_31 (lv_at hl 4 rfl) ?_
          refine lv_icmp_ge (tgt := 77) hx hb dX6_line_33 (by decide) (fun c1 => ?_) (fun c1 => ?_)
          · replace h := h.1 c1
            refine lv_aload_n hx hb dX6_line_77 rfl (lv_at hl 0 rfl) ?_
            refine va_get (ci := 5) (v := va_re ad (tM x0 33)) (C := RX6) (T := TX6) (N := 42) hx hb hts hi_X6 hown hE.1 hP x0 (w_5 hE hk0) rfl 33 (by decide) (hts (.fieldLink RX6 71 "HemLineModel" "hems" "[I") (by decide +kernel)) (fun _ h9 => h9) rfl dX6_line_78 ?_
            refine lv_bipush (v := 6) hx hb dX6_line_81 (by decide) ?_
            refine lv_iload_n hx hb dX6_line_83 rfl (lv_at hl 1 rfl) ?_
            refine lv_imul hx hb dX6_line_84 ?_
            refine lv_iload hx hb dX6_line_85 (lv_at hl 4 rfl) ?_
            refine lv_iadd hx hb dX6_line_87 ?_
            obtain ⟨k2, e3, q4, i5, h⟩ := h
            refine r_iald hx hb hE hP e3 q4 i5 dX6_line_88 ?_
            refine lv_aload_n hx hb dX6_line_89 rfl (lv_at hl 0 rfl) ?_
            refine va_get (ci := 5) (v := va_re ad (tM x0 33)) (C := RX6) (T := TX6) (N := 42) hx hb hts hi_X6 hown hE.1 hP x0 (w_5 hE hk0) rfl 33 (by decide) (hts (.fieldLink RX6 71 "HemLineModel" "hems" "[I") (by decide +kernel)) (fun _ h9 => h9) rfl dX6_line_90 ?_
            refine lv_bipush (v := 6) hx hb dX6_line_93 (by decide) ?_
            refine lv_iload_n hx hb dX6_line_95 rfl (lv_at hl 1 rfl) ?_
            refine lv_imul hx hb dX6_line_96 ?_
            refine lv_iload_n hx hb dX6_line_97 rfl (lv_at hl 3 rfl) ?_
            refine lv_iadd hx hb dX6_line_98 ?_
            obtain ⟨k6, e7, q8, i9, h⟩ := h
            refine r_iald hx hb hE hP e7 q8 i9 dX6_line_99 ?_
            refine lv_icmp_ge (tgt := 108) hx hb dX6_line_100 (by decide) (fun c10 => ?_) (fun c10 => ?_)
            · replace h := h.1 c10
              refine lv_iload_n hx hb dX6_line_108 rfl (lv_at hl 3 rfl) ?_
              exact hB109 x1 x2 x4 x3 σ H locs ls h hP hS (lv_sub hl [0, 1, 2, 4] rfl)
            · replace h := h.2 c10
              refine lv_iload hx hb dX6_line_103 (lv_at hl 4 rfl) ?_
              refine lv_goto (tgt := 109) hx hb dX6_line_105 (by decide) ?_
              exact hB109 x1 x2 x4 x4 σ H locs ls h hP hS (lv_sub hl [0, 1, 2, 4] rfl)
          · replace h := h.2 c1
            refine lv_iload_n hx hb dX6_line_36 rfl (lv_at hl 2 rfl) ?_
            refine lv_aload_n hx hb dX6_line_37 rfl (lv_at hl 0 rfl) ?_
            refine va_get (ci := 5) (v := va_re ad (tM x0 33)) (C := RX6) (T := TX6) (N := 42) hx hb hts hi_X6 hown hE.1 hP x0 (w_5 hE hk0) rfl 33 (by decide) (hts (.fieldLink RX6 71 "HemLineModel" "hems" "[I") (by decide +kernel)) (fun _ h9 => h9) rfl dX6_line_38 ?_
            refine lv_bipush (v := 6) hx hb dX6_line_41 (by decide) ?_
            refine lv_iload_n hx hb dX6_line_43 rfl (lv_at hl 1 rfl) ?_
            refine lv_imul hx hb dX6_line_44 ?_
            refine lv_iload hx hb dX6_line_45 (lv_at hl 5 rfl) ?_
            refine lv_iadd hx hb dX6_line_47 ?_
            obtain ⟨k11, e12, q13, i14, h⟩ := h
            refine r_iald hx hb hE hP e12 q13 i14 dX6_line_48 ?_
            refine lv_aload_n hx hb dX6_line_49 rfl (lv_at hl 0 rfl) ?_
            refine va_get (ci := 5) (v := va_re ad (tM x0 33)) (C := RX6) (T := TX6) (N := 42) hx hb hts hi_X6 hown hE.1 hP x0 (w_5 hE hk0) rfl 33 (by decide) (hts (.fieldLink RX6 71 "HemLineModel" "hems" "[I") (by decide +kernel)) (fun _ h9 => h9) rfl dX6_line_50 ?_
            refine lv_bipush (v := 6) hx hb dX6_line_53 (by decide) ?_
            refine lv_iload_n hx hb dX6_line_55 rfl (lv_at hl 1 rfl) ?_
            refine lv_imul hx hb dX6_line_56 ?_
            refine lv_iload hx hb dX6_line_57 (lv_at hl 4 rfl) ?_
            refine lv_iadd hx hb dX6_line_59 ?_
            obtain ⟨k15, e16, q17, i18, h⟩ := h
            refine r_iald hx hb hE hP e16 q17 i18 dX6_line_60 ?_
            refine lv_icmp_le (tgt := 68) hx hb dX6_line_61 (by decide) (fun c19 => ?_) (fun c19 => ?_)
            · replace h := h.1 c19
              refine lv_iconst (v := 0) hx hb dX6_line_68 (by decide) ?_
              exact hB69 x1 x3 x4 x5 x2 0 σ H locs ls h hP hS (lv_sub hl [0, 1, 3, 4, 5] rfl)
            · replace h := h.2 c19
              refine lv_iconst (v := 1) hx hb dX6_line_64 (by decide) ?_
              refine lv_goto (tgt := 69) hx hb dX6_line_65 (by decide) ?_
              exact hB69 x1 x3 x4 x5 x2 1 σ H locs ls h hP hS (lv_sub hl [0, 1, 3, 4, 5] rfl)
      intro x1 x2 x3 x4 σ H locs ls h hP hS hl
      rw [p_X6_line_L17] at h
      refine lv_iload hx hb dX6_line_17 (lv_at hl 4 rfl) ?_
      refine lv_aload_n hx hb dX6_line_19 rfl (lv_at hl 0 rfl) ?_
      refine va_get (ci := 5) (v := .int (gI σ x0 20)) (C := RX6) (T := TX6) (N := 42) hx hb hts hi_X6 hown hE.1 hP x0 (w_5 hE hk0) rfl 20 (by decide) (hts (.fieldLink RX6 167 "HemLineModel" "women" "I") (by decide +kernel)) (fun _ h9 => h9) rfl dX6_line_20 ?_
      refine lv_icmp_ge (tgt := 116) hx hb dX6_line_23 (by decide) (fun c1 => ?_) (fun c1 => ?_)
      · replace h := h.1 c1
        refine lv_aload_n hx hb dX6_line_116 rfl (lv_at hl 0 rfl) ?_
        refine lv_iload_n hx hb dX6_line_117 rfl (lv_at hl 3 rfl) ?_
        refine r_put (σ' := (setI σ x0 0 x3)) (ci := 5) (v := .int x3) (ty := .int) (C := RX6) (T := TX6) (N := 42) hx hb hts hi_X6 tyX6 tyX6_ok nmX6 hown hE hP hS x0 (w_5 hE hk0) rfl 0 (by decide) (hts (.fieldLink RX6 103 "HemLineModel" "asked" "I") (by decide +kernel)) (fun _ h9 => h9) rfl (by decide +kernel) rfl rfl (Nat.le_of_ble_eq_true rfl) dX6_line_118 (st_5_0 hE hk0 _) (fun H locs hP hS => ?_)
        refine lv_iload_n hx hb dX6_line_121 rfl (lv_at hl 2 rfl) ?_
        exact W.iret hx hb hr (fun t ht hW => ⟨⟨_, _, rfl, h, pw ht hP⟩, hS.F ht⟩) hS.2.2 dX6_line_122
      · replace h := h.2 c1
        refine lv_iconst (v := 0) hx hb dX6_line_26 (by decide) ?_
        refine lv_istore (i := 5) (lv' := [(5, .int 0), (0, .ref (ad x0)), (1, .int x1), (2, .int x2), (3, .int x3), (4, .int x4)]) hx hb dX6_line_27 hl (by decide) (by first | rfl | simp [re_cat, cat_i, cat_l, cat_r]) (fun ls hl => ?_)
        obtain ⟨n2, h⟩ := h
        exact hB29 n2 x1 x2 x3 x4 0 σ H locs ls h hP hS (lv_sub hl [1, 2, 3, 4, 5, 0] rfl)
  unfold p_X6_line at h
  refine lv_aload_n hx hb dX6_line_0 rfl (lv_at hl 0 rfl) ?_
  refine lv_iload_n hx hb dX6_line_1 rfl (lv_at hl 1 rfl) ?_
  refine f_i (kV (As := [.int x1]) (rest := []) (o := some x0) rfl ⟨hx, hb, hml, hown, hts⟩ (c_X6_isYear l D cs ad x0 x1 s0 _ hk0) (cwV 1 hts gX6_line_X6_isYear rfl rfl rfl (by decide +kernel) ⟨Nat.le_of_ble_eq_true rfl, Nat.le_of_ble_eq_true rfl⟩) hE hP rfl rfl (w_5 hE hk0) h rfl hl.1 rfl (by first | exact lv_room (Nat.le_of_ble_eq_true rfl) | (refine lv_room ?_; simp [re_cat, cat_i, cat_l, cat_r])) dX6_line_2 ⟨Nat.le_refl _, Nat.le_refl _⟩) hS (fun r2 s1 H locs h hP hS => ?_)
  refine lv_if_ne (tgt := 10) hx hb dX6_line_5 (by decide) (fun c3 => ?_) (fun c3 => ?_)
  · replace h := h.2 c3
    refine lv_iconst (v := 0) hx hb dX6_line_10 (by decide) ?_
    refine lv_istore_n (i := 2) (lv' := [(2, .int 0), (0, .ref (ad x0)), (1, .int x1)]) hx hb dX6_line_11 rfl hl (by decide) (by first | rfl | simp [re_cat, cat_i, cat_l, cat_r]) (fun ls hl => ?_)
    refine lv_iconst (v := 0) hx hb dX6_line_12 (by decide) ?_
    refine lv_istore_n (i := 3) (lv' := [(3, .int 0), (2, .int 0), (0, .ref (ad x0)), (1, .int x1)]) hx hb dX6_line_13 rfl hl (by decide) (by first | rfl | simp [re_cat, cat_i, cat_l, cat_r]) (fun ls hl => ?_)
    refine lv_iconst (v := 0) hx hb dX6_line_14 (by decide) ?_
    refine lv_istore (i := 4) (lv' := [(4, .int 0), (3, .int 0), (2, .int 0), (0, .ref (ad x0)), (1, .int x1)]) hx hb dX6_line_15 hl (by decide) (by first | rfl | simp [re_cat, cat_i, cat_l, cat_r]) (fun ls hl => ?_)
    obtain ⟨n4, h⟩ := h
    exact hB17 n4 x1 0 0 0 s1 _ _ ls h hP hS (lv_sub hl [3, 4, 2, 1, 0] rfl)
  · replace h := h.1 c3
    refine lv_iconst (v := (-1)) hx hb dX6_line_8 (by decide) ?_
    exact W.iret hx hb hr (fun t ht hW => ⟨⟨_, _, rfl, h, pw ht hP⟩, hS.F ht⟩) hS.2.2 dX6_line_9
def p_X6_judge_b108 (Q : Int32 → Sg → Prop) (K55 : Nat → Int32 → Int32 → Int32 → Sg → Prop) (x0 : Nat) (x2 : Int32) (x4 : Int32) (t0 : Int32) (s : Sg) : Prop := K55 x0 x2 t0 (x4 + 1) s
def p_X6_judge_b107 (Q : Int32 → Sg → Prop) (K55 : Nat → Int32 → Int32 → Int32 → Sg → Prop) (x0 : Nat) (x2 : Int32) (x4 : Int32) (s : Sg) : Prop := p_X6_judge_b108 Q K55 x0 x2 x4 0 s
def p_X6_judge_b97 (Q : Int32 → Sg → Prop) (K55 : Nat → Int32 → Int32 → Int32 → Sg → Prop) (x0 : Nat) (x2 : Int32) (x4 : Int32) (t0 : Int32) (t1 : Int32) (t2 : Int32) (s : Sg) : Prop := p_X6_in t0 t1 t2 s (fun r2 s1 => ((r2 = 0 → p_X6_judge_b107 Q K55 x0 x2 x4 s1) ∧ (¬ r2 = 0 → p_X6_judge_b108 Q K55 x0 x2 x4 1 s1)))
def p_X6_judge_L55 (Q : Int32 → Sg → Prop)  : Nat → Nat → Int32 → Int32 → Int32 → Sg → Prop
  | 0, _, _, _, _, _ => False
  | n + 1, x0, x2, x3, x4, s => ∃ k1, tM x0 6 = some k1 ∧ kM k1 = 7 ∧ vp_in x2 (lM k1) ∧ (((gR s k1 x2.toNatClampNeg) ≤ x4 → ((x3 = 0 → p_X6_refuse x0 3 s (fun r8 s7 => Q r8 s7)) ∧ (¬ x3 = 0 → Q 0 s))) ∧ (¬ (gR s k1 x2.toNatClampNeg) ≤ x4 → ((x3 = 0 → p_X6_judge_b107 Q (fun y0 y2 y3 y4 u => p_X6_judge_L55 Q  n y0 y2 y3 y4 u) x0 x2 x4 s) ∧ (¬ x3 = 0 → ∃ k10, tM x0 5 = some k10 ∧ kM k10 = 7 ∧ vp_in ((40 * x2) + x4) (lM k10) ∧ (((x4 - x4 / 2 * 2) = 0 → p_X6_judge_b97 Q (fun y0 y2 y3 y4 u => p_X6_judge_L55 Q  n y0 y2 y3 y4 u) x0 x2 x4 (gR s k10 ((40 * x2) + x4).toNatClampNeg) 0 20 s) ∧ (¬ (x4 - x4 / 2 * 2) = 0 → p_X6_judge_b97 Q (fun y0 y2 y3 y4 u => p_X6_judge_L55 Q  n y0 y2 y3 y4 u) x0 x2 x4 (gR s k10 ((40 * x2) + x4).toNatClampNeg) 0 10 s))))))
def p_X6_judge (x0 : Nat) (x1 : Int32) (x2 : Int32) (s : Sg) (Q : Int32 → Sg → Prop) : Prop := p_X6_isWoman x0 x1 s (fun r2 s1 => ((r2 = 0 → Q ((-1)) s1) ∧ (¬ r2 = 0 → p_X6_isRow x2 s1 (fun r5 s4 => ((r5 = 0 → Q ((-1)) s4) ∧ (¬ r5 = 0 → ∃ k7, tM x0 6 = some k7 ∧ kM k7 = 7 ∧ vp_in x2 (lM k7) ∧ ((0 ≤ (gR s4 k7 x2.toNatClampNeg) → ∃ k12, tM x0 6 = some k12 ∧ kM k12 = 7 ∧ vp_in x2 (lM k12) ∧ ((((gR s4 k12 x2.toNatClampNeg) - (gR s4 k12 x2.toNatClampNeg) / 2 * 2) = 1 → p_X6_refuse x0 5 s4 (fun r19 s18 => Q r19 s18)) ∧ (¬ ((gR s4 k12 x2.toNatClampNeg) - (gR s4 k12 x2.toNatClampNeg) / 2 * 2) = 1 → (∃ n17, p_X6_judge_L55 Q  n17 x0 x2 1 0 s4)))) ∧ (¬ 0 ≤ (gR s4 k7 x2.toNatClampNeg) → p_X6_refuse x0 1 s4 (fun r21 s20 => Q r21 s20)))))))))
set_option maxHeartbeats 4000000 in
set_option maxRecDepth 100000 in
theorem c_X6_judge (l : Launch) (D : va_G) (cs : Cs) (ad : Nat → Nat) (x0 : Nat) (x1 : Int32) (x2 : Int32) (s0 : Sg) (Q : Int32 → Sg → Prop) (hk0 : kM x0 = 5) : Met l yX6_judge wsX6_judge { frames := 2, cells := 0, slots := 0, locals := 43 } (Pc0 bM D cs ad [.ref (ad x0), .int x1, .int x2] s0 (p_X6_judge x0 x1 x2 s0 Q)) (QI bM D cs ad Q) 0 0 (fAd bM ad) := by
  refine Met.ofW (cc := cX6_judge) (maxL := 5) (ret := (some .int)) (by decide) rfl ?_
  intro p e s m args below meth c s₁ B0 hml hv
  obtain ⟨ha, hP, hE, h⟩ := hv
  have hx := B0.exec
  have hb := B0.bytes
  have hr := B0.returns
  have hts := atoms_spec (ws := wsX6_judge) B0.pre
  have hown : s.vm.findClass RX6 = some m.cls := findClass_of_methodNamed B0.named
  have hlocks := B0.notSynchronized
  have hi_X6 : ∀ w ∈ u_ws RX6 TX6 42, w ∈ wsX6_judge := by decide +kernel
  have hS : va_S (fAd bM ad) s.heap s.heap [] := va_S.rf
  have hl := lv_entry ([.ref (ad x0), .int x1, .int x2]) (n := 5) (by first | exact Nat.le_of_ble_eq_true rfl | simp [lg_sl, re_cat, cat_i, cat_l, cat_r])
  rw [show entryFrame m args 5 = entryFrame m ([.ref (ad x0), .int x1, .int x2] : List Value).toArray 5 by rw [ha], lg_entry_eq]
  generalize (lg_sl ([.ref (ad x0), .int x1, .int x2]) ++ List.replicate (5 - (lg_sl ([.ref (ad x0), .int x1, .int x2])).length) Slot.unset).toArray = ls at hl ⊢
  have hl : lv_has ls 5 [(0, .ref (ad x0)), (1, .int x1), (2, .int x2)] := by first | exact hl | simpa [lv_args, re_cat, cat_i, cat_l, cat_r] using hl
  have hB55 : ∀ (n55 : Nat) (x2 : Int32) (x3 : Int32) (x4 : Int32) (σ : Sg) (H : Heap) (locs : List Loc) (ls : Array Slot), p_X6_judge_L55 Q  n55 x0 x2 x3 x4 σ → va_P D vwCl (wl bM cs ad σ) H → va_S (fAd bM ad) s.heap H locs → lv_has ls 5 [(0, .ref (ad x0)), (2, .int x2), (3, .int x3), (4, .int x4)] → W p l e { frames := 2, cells := 0, slots := 0, locals := 43 } s m args below meth c H locs 0 0 (MQ below (QI bM D cs ad Q) args s 0 0 (fAd bM ad)) (F0 m 55 ls []) := by
    intro n55
    induction n55 with
    | zero =>
      intro x2 x3 x4 σ H locs ls h
      exact h.elim
    | succ n55 ih =>
      have hK55 := ih
      have hB108 : ∀ (x2 : Int32) (x4 : Int32) (t0 : Int32) (σ : Sg) (H : Heap) (locs : List Loc) (ls : Array Slot), p_X6_judge_b108 Q (fun y0 y2 y3 y4 u => p_X6_judge_L55 Q  n55 y0 y2 y3 y4 u) x0 x2 x4 t0 σ → va_P D vwCl (wl bM cs ad σ) H → va_S (fAd bM ad) s.heap H locs → lv_has ls 5 [(0, .ref (ad x0)), (2, .int x2), (4, .int x4)] → W p l e { frames := 2, cells := 0, slots := 0, locals := 43 } s m args below meth c H locs 0 0 (MQ below (QI bM D cs ad Q) args s 0 0 (fAd bM ad)) (F0 m 108 ls [.int t0]) := by
        intro x2 x4 t0 σ H locs ls h hP hS hl
        unfold p_X6_judge_b108 at h
        refine lv_istore_n (i := 3) (lv' := [(3, .int t0), (0, .ref (ad x0)), (2, .int x2), (4, .int x4)]) hx hb dX6_judge_108 rfl hl (by decide) (by first | rfl | simp [re_cat, cat_i, cat_l, cat_r]) (fun ls hl => ?_)
        refine lv_iinc (v := x4 + 1) (lv' := [(4, .int (x4 + 1)), (3, .int t0), (0, .ref (ad x0)), (2, .int x2)]) hx hb dX6_judge_109 hl (k := 3) rfl rfl (by decide) (by first | rfl | simp [re_cat, cat_i, cat_l, cat_r]) (fun ls hl => ?_)
        refine lv_goto (tgt := 55) hx hb dX6_judge_112 (by decide) ?_
        exact hK55 x2 t0 (x4 + 1) σ H locs ls h hP hS (lv_sub hl [2, 3, 1, 0] rfl)
      have hB107 : ∀ (x2 : Int32) (x4 : Int32) (σ : Sg) (H : Heap) (locs : List Loc) (ls : Array Slot), p_X6_judge_b107 Q (fun y0 y2 y3 y4 u => p_X6_judge_L55 Q  n55 y0 y2 y3 y4 u) x0 x2 x4 σ → va_P D vwCl (wl bM cs ad σ) H → va_S (fAd bM ad) s.heap H locs → lv_has ls 5 [(0, .ref (ad x0)), (2, .int x2), (4, .int x4)] → W p l e { frames := 2, cells := 0, slots := 0, locals := 43 } s m args below meth c H locs 0 0 (MQ below (QI bM D cs ad Q) args s 0 0 (fAd bM ad)) (F0 m 107 ls []) := by
        intro x2 x4 σ H locs ls h hP hS hl
        unfold p_X6_judge_b107 at h
        refine lv_iconst (v := 0) hx hb dX6_judge_107 (by decide) ?_
        exact hB108 x2 x4 0 σ H locs ls h hP hS (lv_sub hl [0, 1, 2] rfl)
      have hB97 : ∀ (x2 : Int32) (x4 : Int32) (t0 : Int32) (t1 : Int32) (t2 : Int32) (σ : Sg) (H : Heap) (locs : List Loc) (ls : Array Slot), p_X6_judge_b97 Q (fun y0 y2 y3 y4 u => p_X6_judge_L55 Q  n55 y0 y2 y3 y4 u) x0 x2 x4 t0 t1 t2 σ → va_P D vwCl (wl bM cs ad σ) H → va_S (fAd bM ad) s.heap H locs → lv_has ls 5 [(0, .ref (ad x0)), (2, .int x2), (4, .int x4)] → W p l e { frames := 2, cells := 0, slots := 0, locals := 43 } s m args below meth c H locs 0 0 (MQ below (QI bM D cs ad Q) args s 0 0 (fAd bM ad)) (F0 m 97 ls [.int t2, .int t1, .int t0]) := by
        intro x2 x4 t0 t1 t2 σ H locs ls h hP hS hl
        unfold p_X6_judge_b97 at h
        refine f_i (kS (As := [.int t0, .int t1, .int t2]) (rest := []) ⟨hx, hb, hml, hown, hts⟩ (c_X6_in l D cs ad t0 t1 t2 σ _) (va_cwS 3 hts gX6_judge_X6_in rfl rfl rfl (by decide +kernel) ⟨Nat.le_of_ble_eq_true rfl, Nat.le_of_ble_eq_true rfl⟩) hE hP h rfl hl.1 rfl (by first | exact lv_room (Nat.le_of_ble_eq_true rfl) | (refine lv_room ?_; simp [re_cat, cat_i, cat_l, cat_r])) dX6_judge_97 ⟨Nat.le_refl _, Nat.le_refl _⟩) hS (fun r2 s1 H locs h hP hS => ?_)
        refine lv_if_eq (tgt := 107) hx hb dX6_judge_100 (by decide) (fun c3 => ?_) (fun c3 => ?_)
        · replace h := h.1 c3
          exact hB107 x2 x4 s1 H locs ls h hP hS (lv_sub hl [0, 1, 2] rfl)
        · replace h := h.2 c3
          refine lv_iconst (v := 1) hx hb dX6_judge_103 (by decide) ?_
          refine lv_goto (tgt := 108) hx hb dX6_judge_104 (by decide) ?_
          exact hB108 x2 x4 1 s1 H locs ls h hP hS (lv_sub hl [0, 1, 2] rfl)
      intro x2 x3 x4 σ H locs ls h hP hS hl
      rw [p_X6_judge_L55] at h
      refine lv_iload hx hb dX6_judge_55 (lv_at hl 3 rfl) ?_
      refine lv_aload_n hx hb dX6_judge_57 rfl (lv_at hl 0 rfl) ?_
      refine va_get (ci := 5) (v := va_re ad (tM x0 6)) (C := RX6) (T := TX6) (N := 42) hx hb hts hi_X6 hown hE.1 hP x0 (w_5 hE hk0) rfl 6 (by decide) (hts (.fieldLink RX6 16 "HemLineModel" "rowSize" "[I") (by decide +kernel)) (fun _ h9 => h9) rfl dX6_judge_58 ?_
      refine lv_iload_n hx hb dX6_judge_61 rfl (lv_at hl 1 rfl) ?_
      obtain ⟨k1, e2, q3, i4, h⟩ := h
      refine r_iald hx hb hE hP e2 q3 i4 dX6_judge_62 ?_
      refine lv_icmp_ge (tgt := 115) hx hb dX6_judge_63 (by decide) (fun c5 => ?_) (fun c5 => ?_)
      · replace h := h.1 c5
        refine lv_iload_n hx hb dX6_judge_115 rfl (lv_at hl 2 rfl) ?_
        refine lv_if_eq (tgt := 123) hx hb dX6_judge_116 (by decide) (fun c6 => ?_) (fun c6 => ?_)
        · replace h := h.1 c6
          refine lv_aload_n hx hb dX6_judge_123 rfl (lv_at hl 0 rfl) ?_
          refine lv_iconst (v := 3) hx hb dX6_judge_124 (by decide) ?_
          refine f_i (kV (As := [.int 3]) (rest := []) (o := some x0) rfl ⟨hx, hb, hml, hown, hts⟩ (c_X6_refuse l D cs ad x0 3 σ _ hk0) (cwV 1 hts gX6_judge_X6_refuse rfl rfl rfl (by decide +kernel) ⟨Nat.le_of_ble_eq_true rfl, Nat.le_of_ble_eq_true rfl⟩) hE hP rfl rfl (w_5 hE hk0) h rfl hl.1 rfl (by first | exact lv_room (Nat.le_of_ble_eq_true rfl) | (refine lv_room ?_; simp [re_cat, cat_i, cat_l, cat_r])) dX6_judge_125 ⟨Nat.le_refl _, Nat.le_refl _⟩) hS (fun r8 s7 H locs h hP hS => ?_)
          exact W.iret hx hb hr (fun t ht hW => ⟨⟨_, _, rfl, h, pw ht hP⟩, hS.F ht⟩) hS.2.2 dX6_judge_128
        · replace h := h.2 c6
          refine lv_iconst (v := 0) hx hb dX6_judge_119 (by decide) ?_
          refine lv_goto (tgt := 128) hx hb dX6_judge_120 (by decide) ?_
          exact W.iret hx hb hr (fun t ht hW => ⟨⟨_, _, rfl, h, pw ht hP⟩, hS.F ht⟩) hS.2.2 dX6_judge_128
      · replace h := h.2 c5
        refine lv_iload_n hx hb dX6_judge_66 rfl (lv_at hl 2 rfl) ?_
        refine lv_if_eq (tgt := 107) hx hb dX6_judge_67 (by decide) (fun c9 => ?_) (fun c9 => ?_)
        · replace h := h.1 c9
          exact hB107 x2 x4 σ H locs ls h hP hS (lv_sub hl [0, 1, 3] rfl)
        · replace h := h.2 c9
          refine lv_aload_n hx hb dX6_judge_70 rfl (lv_at hl 0 rfl) ?_
          refine va_get (ci := 5) (v := va_re ad (tM x0 5)) (C := RX6) (T := TX6) (N := 42) hx hb hts hi_X6 hown hE.1 hP x0 (w_5 hE hk0) rfl 5 (by decide) (hts (.fieldLink RX6 13 "HemLineModel" "cells" "[I") (by decide +kernel)) (fun _ h9 => h9) rfl dX6_judge_71 ?_
          refine lv_bipush (v := 40) hx hb dX6_judge_74 (by decide) ?_
          refine lv_iload_n hx hb dX6_judge_76 rfl (lv_at hl 1 rfl) ?_
          refine lv_imul hx hb dX6_judge_77 ?_
          refine lv_iload hx hb dX6_judge_78 (lv_at hl 3 rfl) ?_
          refine lv_iadd hx hb dX6_judge_80 ?_
          obtain ⟨k10, e11, q12, i13, h⟩ := h
          refine r_iald hx hb hE hP e11 q12 i13 dX6_judge_81 ?_
          refine lv_iconst (v := 0) hx hb dX6_judge_82 (by decide) ?_
          refine lv_iload hx hb dX6_judge_83 (lv_at hl 3 rfl) ?_
          refine lv_iconst (v := 2) hx hb dX6_judge_85 (by decide) ?_
          refine lv_irem hx hb dX6_judge_86 (by decide) ?_
          refine lv_if_ne (tgt := 95) hx hb dX6_judge_87 (by decide) (fun c14 => ?_) (fun c14 => ?_)
          · replace h := h.2 c14
            refine lv_bipush (v := 10) hx hb dX6_judge_95 (by decide) ?_
            exact hB97 x2 x4 (gR σ k10 ((40 * x2) + x4).toNatClampNeg) 0 10 σ H locs ls h hP hS (lv_sub hl [0, 1, 3] rfl)
          · replace h := h.1 c14
            refine lv_bipush (v := 20) hx hb dX6_judge_90 (by decide) ?_
            refine lv_goto (tgt := 97) hx hb dX6_judge_92 (by decide) ?_
            exact hB97 x2 x4 (gR σ k10 ((40 * x2) + x4).toNatClampNeg) 0 20 σ H locs ls h hP hS (lv_sub hl [0, 1, 3] rfl)
  unfold p_X6_judge at h
  refine lv_aload_n hx hb dX6_judge_0 rfl (lv_at hl 0 rfl) ?_
  refine lv_iload_n hx hb dX6_judge_1 rfl (lv_at hl 1 rfl) ?_
  refine f_i (kV (As := [.int x1]) (rest := []) (o := some x0) rfl ⟨hx, hb, hml, hown, hts⟩ (c_X6_isWoman l D cs ad x0 x1 s0 _ hk0) (cwV 1 hts gX6_judge_X6_isWoman rfl rfl rfl (by decide +kernel) ⟨Nat.le_of_ble_eq_true rfl, Nat.le_of_ble_eq_true rfl⟩) hE hP rfl rfl (w_5 hE hk0) h rfl hl.1 rfl (by first | exact lv_room (Nat.le_of_ble_eq_true rfl) | (refine lv_room ?_; simp [re_cat, cat_i, cat_l, cat_r])) dX6_judge_2 ⟨Nat.le_refl _, Nat.le_refl _⟩) hS (fun r2 s1 H locs h hP hS => ?_)
  refine lv_if_eq (tgt := 15) hx hb dX6_judge_5 (by decide) (fun c3 => ?_) (fun c3 => ?_)
  · replace h := h.1 c3
    refine lv_iconst (v := (-1)) hx hb dX6_judge_15 (by decide) ?_
    exact W.iret hx hb hr (fun t ht hW => ⟨⟨_, _, rfl, h, pw ht hP⟩, hS.F ht⟩) hS.2.2 dX6_judge_16
  · replace h := h.2 c3
    refine lv_iload_n hx hb dX6_judge_8 rfl (lv_at hl 2 rfl) ?_
    refine f_i (kS (As := [.int x2]) (rest := []) ⟨hx, hb, hml, hown, hts⟩ (c_X6_isRow l D cs ad x2 s1 _) (va_cwS 1 hts gX6_judge_X6_isRow rfl rfl rfl (by decide +kernel) ⟨Nat.le_of_ble_eq_true rfl, Nat.le_of_ble_eq_true rfl⟩) hE hP h rfl hl.1 rfl (by first | exact lv_room (Nat.le_of_ble_eq_true rfl) | (refine lv_room ?_; simp [re_cat, cat_i, cat_l, cat_r])) dX6_judge_9 ⟨Nat.le_refl _, Nat.le_refl _⟩) hS (fun r5 s4 H locs h hP hS => ?_)
    refine lv_if_ne (tgt := 17) hx hb dX6_judge_12 (by decide) (fun c6 => ?_) (fun c6 => ?_)
    · replace h := h.2 c6
      refine lv_aload_n hx hb dX6_judge_17 rfl (lv_at hl 0 rfl) ?_
      refine va_get (ci := 5) (v := va_re ad (tM x0 6)) (C := RX6) (T := TX6) (N := 42) hx hb hts hi_X6 hown hE.1 hP x0 (w_5 hE hk0) rfl 6 (by decide) (hts (.fieldLink RX6 16 "HemLineModel" "rowSize" "[I") (by decide +kernel)) (fun _ h9 => h9) rfl dX6_judge_18 ?_
      refine lv_iload_n hx hb dX6_judge_21 rfl (lv_at hl 2 rfl) ?_
      obtain ⟨k7, e8, q9, i10, h⟩ := h
      refine r_iald hx hb hE hP e8 q9 i10 dX6_judge_22 ?_
      refine lv_if_ge (tgt := 32) hx hb dX6_judge_23 (by decide) (fun c11 => ?_) (fun c11 => ?_)
      · replace h := h.1 c11
        refine lv_aload_n hx hb dX6_judge_32 rfl (lv_at hl 0 rfl) ?_
        refine va_get (ci := 5) (v := va_re ad (tM x0 6)) (C := RX6) (T := TX6) (N := 42) hx hb hts hi_X6 hown hE.1 hP x0 (w_5 hE hk0) rfl 6 (by decide) (hts (.fieldLink RX6 16 "HemLineModel" "rowSize" "[I") (by decide +kernel)) (fun _ h9 => h9) rfl dX6_judge_33 ?_
        refine lv_iload_n hx hb dX6_judge_36 rfl (lv_at hl 2 rfl) ?_
        obtain ⟨k12, e13, q14, i15, h⟩ := h
        refine r_iald hx hb hE hP e13 q14 i15 dX6_judge_37 ?_
        refine lv_iconst (v := 2) hx hb dX6_judge_38 (by decide) ?_
        refine lv_irem hx hb dX6_judge_39 (by decide) ?_
        refine lv_iconst (v := 1) hx hb dX6_judge_40 (by decide) ?_
        refine lv_icmp_ne (tgt := 50) hx hb dX6_judge_41 (by decide) (fun c16 => ?_) (fun c16 => ?_)
        · replace h := h.2 c16
          refine lv_iconst (v := 1) hx hb dX6_judge_50 (by decide) ?_
          refine lv_istore_n (i := 3) (lv' := [(3, .int 1), (0, .ref (ad x0)), (1, .int x1), (2, .int x2)]) hx hb dX6_judge_51 rfl hl (by decide) (by first | rfl | simp [re_cat, cat_i, cat_l, cat_r]) (fun ls hl => ?_)
          refine lv_iconst (v := 0) hx hb dX6_judge_52 (by decide) ?_
          refine lv_istore (i := 4) (lv' := [(4, .int 0), (3, .int 1), (0, .ref (ad x0)), (1, .int x1), (2, .int x2)]) hx hb dX6_judge_53 hl (by decide) (by first | rfl | simp [re_cat, cat_i, cat_l, cat_r]) (fun ls hl => ?_)
          obtain ⟨n17, h⟩ := h
          exact hB55 n17 x2 1 0 s4 _ _ ls h hP hS (lv_sub hl [2, 4, 1, 0] rfl)
        · replace h := h.1 c16
          refine lv_aload_n hx hb dX6_judge_44 rfl (lv_at hl 0 rfl) ?_
          refine lv_iconst (v := 5) hx hb dX6_judge_45 (by decide) ?_
          refine f_i (kV (As := [.int 5]) (rest := []) (o := some x0) rfl ⟨hx, hb, hml, hown, hts⟩ (c_X6_refuse l D cs ad x0 5 s4 _ hk0) (cwV 1 hts gX6_judge_X6_refuse rfl rfl rfl (by decide +kernel) ⟨Nat.le_of_ble_eq_true rfl, Nat.le_of_ble_eq_true rfl⟩) hE hP rfl rfl (w_5 hE hk0) h rfl hl.1 rfl (by first | exact lv_room (Nat.le_of_ble_eq_true rfl) | (refine lv_room ?_; simp [re_cat, cat_i, cat_l, cat_r])) dX6_judge_46 ⟨Nat.le_refl _, Nat.le_refl _⟩) hS (fun r19 s18 H locs h hP hS => ?_)
          exact W.iret hx hb hr (fun t ht hW => ⟨⟨_, _, rfl, h, pw ht hP⟩, hS.F ht⟩) hS.2.2 dX6_judge_49
      · replace h := h.2 c11
        refine lv_aload_n hx hb dX6_judge_26 rfl (lv_at hl 0 rfl) ?_
        refine lv_iconst (v := 1) hx hb dX6_judge_27 (by decide) ?_
        refine f_i (kV (As := [.int 1]) (rest := []) (o := some x0) rfl ⟨hx, hb, hml, hown, hts⟩ (c_X6_refuse l D cs ad x0 1 s4 _ hk0) (cwV 1 hts gX6_judge_X6_refuse rfl rfl rfl (by decide +kernel) ⟨Nat.le_of_ble_eq_true rfl, Nat.le_of_ble_eq_true rfl⟩) hE hP rfl rfl (w_5 hE hk0) h rfl hl.1 rfl (by first | exact lv_room (Nat.le_of_ble_eq_true rfl) | (refine lv_room ?_; simp [re_cat, cat_i, cat_l, cat_r])) dX6_judge_28 ⟨Nat.le_refl _, Nat.le_refl _⟩) hS (fun r21 s20 H locs h hP hS => ?_)
        exact W.iret hx hb hr (fun t ht hW => ⟨⟨_, _, rfl, h, pw ht hP⟩, hS.F ht⟩) hS.2.2 dX6_judge_31
    · replace h := h.1 c6
      refine lv_iconst (v := (-1)) hx hb dX6_judge_15 (by decide) ?_
      exact W.iret hx hb hr (fun t ht hW => ⟨⟨_, _, rfl, h, pw ht hP⟩, hS.F ht⟩) hS.2.2 dX6_judge_16
def p_X6_kindsBy_b75 (Q : Int32 → Sg → Prop) (K18 : Nat → Int32 → Int32 → Int32 → Int32 → Int32 → Int32 → Sg → Prop) (x0 : Nat) (x1 : Int32) (x2 : Int32) (x3 : Int32) (x4 : Int32) (x6 : Int32) (t0 : Int32) (s : Sg) : Prop := K18 x0 x1 x2 x3 x4 t0 (x6 + 2) s
def p_X6_kindsBy_b74 (Q : Int32 → Sg → Prop) (K18 : Nat → Int32 → Int32 → Int32 → Int32 → Int32 → Int32 → Sg → Prop) (x0 : Nat) (x1 : Int32) (x2 : Int32) (x3 : Int32) (x4 : Int32) (x6 : Int32) (s : Sg) : Prop := p_X6_kindsBy_b75 Q K18 x0 x1 x2 x3 x4 x6 0 s
def p_X6_kindsBy_b97 (Q : Int32 → Sg → Prop) (K5 : Nat → Int32 → Int32 → Int32 → Int32 → Sg → Prop) (x0 : Nat) (x1 : Int32) (x2 : Int32) (x4 : Int32) (t0 : Int32) (t1 : Int32) (s : Sg) : Prop := K5 x0 x1 x2 (t0 ||| t1) (x4 + 1) s
def p_X6_kindsBy_L18 (Q : Int32 → Sg → Prop) (K5 : Nat → Int32 → Int32 → Int32 → Int32 → Sg → Prop) : Nat → Nat → Int32 → Int32 → Int32 → Int32 → Int32 → Int32 → Sg → Prop
  | 0, _, _, _, _, _, _, _, _ => False
  | n + 1, x0, x1, x2, x3, x4, x5, x6, s => ∃ k1, tM x0 6 = some k1 ∧ kM k1 = 7 ∧ vp_in x2 (lM k1) ∧ (((gR s k1 x2.toNatClampNeg) ≤ x6 → ((x5 = 0 → p_X6_kindsBy_b97 Q K5 x0 x1 x2 x4 x3 0 s) ∧ (¬ x5 = 0 → p_X6_kindsBy_b97 Q K5 x0 x1 x2 x4 x3 (1 <<< (x4 &&& 31)) s))) ∧ (¬ (gR s k1 x2.toNatClampNeg) ≤ x6 → ((x5 = 0 → p_X6_kindsBy_b74 Q (fun y0 y1 y2 y3 y4 y5 y6 u => p_X6_kindsBy_L18 Q K5 n y0 y1 y2 y3 y4 y5 y6 u) x0 x1 x2 x3 x4 x6 s) ∧ (¬ x5 = 0 → ∃ k8, tM x0 5 = some k8 ∧ kM k8 = 7 ∧ vp_in ((40 * x2) + x6) (lM k8) ∧ p_X6_hemNow x0 x4 x1 (gR s k8 ((40 * x2) + x6).toNatClampNeg) s (fun r13 s12 => ∃ k14, tM x0 5 = some k14 ∧ kM k14 = 7 ∧ vp_in (((40 * x2) + x6) + 1) (lM k14) ∧ ((r13 = (gR s12 k14 (((40 * x2) + x6) + 1).toNatClampNeg) → p_X6_kindsBy_b75 Q (fun y0 y1 y2 y3 y4 y5 y6 u => p_X6_kindsBy_L18 Q K5 n y0 y1 y2 y3 y4 y5 y6 u) x0 x1 x2 x3 x4 x6 1 s12) ∧ (¬ r13 = (gR s12 k14 (((40 * x2) + x6) + 1).toNatClampNeg) → p_X6_kindsBy_b74 Q (fun y0 y1 y2 y3 y4 y5 y6 u => p_X6_kindsBy_L18 Q K5 n y0 y1 y2 y3 y4 y5 y6 u) x0 x1 x2 x3 x4 x6 s12)))))))
def p_X6_kindsBy_L5 (Q : Int32 → Sg → Prop)  : Nat → Nat → Int32 → Int32 → Int32 → Int32 → Sg → Prop
  | 0, _, _, _, _, _, _ => False
  | n + 1, x0, x1, x2, x3, x4, s => ((6 ≤ x4 → Q x3 s) ∧ (¬ 6 ≤ x4 → (∃ n2, p_X6_kindsBy_L18 Q (fun y0 y1 y2 y3 y4 u => p_X6_kindsBy_L5 Q  n y0 y1 y2 y3 y4 u) n2 x0 x1 x2 x3 x4 1 0 s)))
def p_X6_kindsBy (x0 : Nat) (x1 : Int32) (x2 : Int32) (s : Sg) (Q : Int32 → Sg → Prop) : Prop := (∃ n1, p_X6_kindsBy_L5 Q  n1 x0 x1 x2 0 0 s)
set_option maxHeartbeats 4000000 in
set_option maxRecDepth 100000 in
theorem c_X6_kindsBy (l : Launch) (D : va_G) (cs : Cs) (ad : Nat → Nat) (x0 : Nat) (x1 : Int32) (x2 : Int32) (s0 : Sg) (Q : Int32 → Sg → Prop) (hk0 : kM x0 = 5) : Met l yX6_kindsBy wsX6_kindsBy { frames := 3, cells := 0, slots := 0, locals := 71 } (Pc0 bM D cs ad [.ref (ad x0), .int x1, .int x2] s0 (p_X6_kindsBy x0 x1 x2 s0 Q)) (QI bM D cs ad Q) 0 0 (fAd bM ad) := by
  refine Met.ofW (cc := cX6_kindsBy) (maxL := 7) (ret := (some .int)) (by decide) rfl ?_
  intro p e s m args below meth c s₁ B0 hml hv
  obtain ⟨ha, hP, hE, h⟩ := hv
  have hx := B0.exec
  have hb := B0.bytes
  have hr := B0.returns
  have hts := atoms_spec (ws := wsX6_kindsBy) B0.pre
  have hown : s.vm.findClass RX6 = some m.cls := findClass_of_methodNamed B0.named
  have hlocks := B0.notSynchronized
  have hi_X6 : ∀ w ∈ u_ws RX6 TX6 42, w ∈ wsX6_kindsBy := by decide +kernel
  have hS : va_S (fAd bM ad) s.heap s.heap [] := va_S.rf
  have hl := lv_entry ([.ref (ad x0), .int x1, .int x2]) (n := 7) (by first | exact Nat.le_of_ble_eq_true rfl | simp [lg_sl, re_cat, cat_i, cat_l, cat_r])
  rw [show entryFrame m args 7 = entryFrame m ([.ref (ad x0), .int x1, .int x2] : List Value).toArray 7 by rw [ha], lg_entry_eq]
  generalize (lg_sl ([.ref (ad x0), .int x1, .int x2]) ++ List.replicate (7 - (lg_sl ([.ref (ad x0), .int x1, .int x2])).length) Slot.unset).toArray = ls at hl ⊢
  have hl : lv_has ls 7 [(0, .ref (ad x0)), (1, .int x1), (2, .int x2)] := by first | exact hl | simpa [lv_args, re_cat, cat_i, cat_l, cat_r] using hl
  have hB5 : ∀ (n5 : Nat) (x1 : Int32) (x2 : Int32) (x3 : Int32) (x4 : Int32) (σ : Sg) (H : Heap) (locs : List Loc) (ls : Array Slot), p_X6_kindsBy_L5 Q  n5 x0 x1 x2 x3 x4 σ → va_P D vwCl (wl bM cs ad σ) H → va_S (fAd bM ad) s.heap H locs → lv_has ls 7 [(0, .ref (ad x0)), (1, .int x1), (2, .int x2), (3, .int x3), (4, .int x4)] → W p l e { frames := 3, cells := 0, slots := 0, locals := 71 } s m args below meth c H locs 0 0 (MQ below (QI bM D cs ad Q) args s 0 0 (fAd bM ad)) (F0 m 5 ls []) := by
    intro n5
    induction n5 with
    | zero =>
      intro x1 x2 x3 x4 σ H locs ls h
      exact h.elim
    | succ n5 ih =>
      have hK5 := ih
      have hB97 : ∀ (x1 : Int32) (x2 : Int32) (x4 : Int32) (t0 : Int32) (t1 : Int32) (σ : Sg) (H : Heap) (locs : List Loc) (ls : Array Slot), p_X6_kindsBy_b97 Q (fun y0 y1 y2 y3 y4 u => p_X6_kindsBy_L5 Q  n5 y0 y1 y2 y3 y4 u) x0 x1 x2 x4 t0 t1 σ → va_P D vwCl (wl bM cs ad σ) H → va_S (fAd bM ad) s.heap H locs → lv_has ls 7 [(0, .ref (ad x0)), (1, .int x1), (2, .int x2), (4, .int x4)] → W p l e { frames := 3, cells := 0, slots := 0, locals := 71 } s m args below meth c H locs 0 0 (MQ below (QI bM D cs ad Q) args s 0 0 (fAd bM ad)) (F0 m 97 ls [.int t1, .int t0]) := by
        intro x1 x2 x4 t0 t1 σ H locs ls h hP hS hl
        unfold p_X6_kindsBy_b97 at h
        refine lv_ior hx hb dX6_kindsBy_97 ?_
        refine lv_istore_n (i := 3) (lv' := [(3, .int (t0 ||| t1)), (0, .ref (ad x0)), (1, .int x1), (2, .int x2), (4, .int x4)]) hx hb dX6_kindsBy_98 rfl hl (by decide) (by first | rfl | simp [re_cat, cat_i, cat_l, cat_r]) (fun ls hl => ?_)
        refine lv_iinc (v := x4 + 1) (lv' := [(4, .int (x4 + 1)), (3, .int (t0 ||| t1)), (0, .ref (ad x0)), (1, .int x1), (2, .int x2)]) hx hb dX6_kindsBy_99 hl (k := 4) rfl rfl (by decide) (by first | rfl | simp [re_cat, cat_i, cat_l, cat_r]) (fun ls hl => ?_)
        refine lv_goto (tgt := 5) hx hb dX6_kindsBy_102 (by decide) ?_
        exact hK5 x1 x2 (t0 ||| t1) (x4 + 1) σ H locs ls h hP hS (lv_sub hl [2, 3, 4, 1, 0] rfl)
      have hB18 : ∀ (n18 : Nat) (x1 : Int32) (x2 : Int32) (x3 : Int32) (x4 : Int32) (x5 : Int32) (x6 : Int32) (σ : Sg) (H : Heap) (locs : List Loc) (ls : Array Slot), p_X6_kindsBy_L18 Q (fun y0 y1 y2 y3 y4 u => p_X6_kindsBy_L5 Q  n5 y0 y1 y2 y3 y4 u) n18 x0 x1 x2 x3 x4 x5 x6 σ → va_P D vwCl (wl bM cs ad σ) H → va_S (fAd bM ad) s.heap H locs → lv_has ls 7 [(0, .ref (ad x0)), (1, .int x1), (2, .int x2), (3, .int x3), (4, .int x4), (5, .int x5), (6, .int x6)] → W p l e { frames := 3, cells := 0, slots := 0, locals := 71 } s m args below meth c H locs 0 0 (MQ below (QI bM D cs ad Q) args s 0 0 (fAd bM ad)) (F0 m 18 ls []) := by
        intro n18
        induction n18 with
        | zero =>
          intro x1 x2 x3 x4 x5 x6 σ H locs ls h
          exact h.elim
        | succ n18 ih =>
          have hK18 := ih
          have hB75 : ∀ (x1 : Int32) (x2 : Int32) (x3 : Int32) (x4 : Int32) (x6 : Int32) (t0 : Int32) (σ : Sg) (H : Heap) (locs : List Loc) (ls : Array Slot), p_X6_kindsBy_b75 Q (fun y0 y1 y2 y3 y4 y5 y6 u => p_X6_kindsBy_L18 Q (fun y0 y1 y2 y3 y4 u => p_X6_kindsBy_L5 Q  n5 y0 y1 y2 y3 y4 u) n18 y0 y1 y2 y3 y4 y5 y6 u) x0 x1 x2 x3 x4 x6 t0 σ → va_P D vwCl (wl bM cs ad σ) H → va_S (fAd bM ad) s.heap H locs → lv_has ls 7 [(0, .ref (ad x0)), (1, .int x1), (2, .int x2), (3, .int x3), (4, .int x4), (6, .int x6)] → W p l e { frames := 3, cells := 0, slots := 0, locals := 71 } s m args below meth c H locs 0 0 (MQ below (QI bM D cs ad Q) args s 0 0 (fAd bM ad)) (F0 m 75 ls [.int t0]) := by
            intro x1 x2 x3 x4 x6 t0 σ H locs ls h hP hS hl
            unfold p_X6_kindsBy_b75 at h
            refine lv_istore (i := 5) (lv' := [(5, .int t0), (0, .ref (ad x0)), (1, .int x1), (2, .int x2), (3, .int x3), (4, .int x4), (6, .int x6)]) hx hb dX6_kindsBy_75 hl (by decide) (by first | rfl | simp [re_cat, cat_i, cat_l, cat_r]) (fun ls hl => ?_)
            refine lv_iinc (v := x6 + 2) (lv' := [(6, .int (x6 + 2)), (5, .int t0), (0, .ref (ad x0)), (1, .int x1), (2, .int x2), (3, .int x3), (4, .int x4)]) hx hb dX6_kindsBy_77 hl (k := 6) rfl rfl (by decide) (by first | rfl | simp [re_cat, cat_i, cat_l, cat_r]) (fun ls hl => ?_)
            refine lv_goto (tgt := 18) hx hb dX6_kindsBy_80 (by decide) ?_
            exact hK18 x1 x2 x3 x4 t0 (x6 + 2) σ H locs ls h hP hS (lv_sub hl [2, 3, 4, 5, 6, 1, 0] rfl)
          have hB74 : ∀ (x1 : Int32) (x2 : Int32) (x3 : Int32) (x4 : Int32) (x6 : Int32) (σ : Sg) (H : Heap) (locs : List Loc) (ls : Array Slot), p_X6_kindsBy_b74 Q (fun y0 y1 y2 y3 y4 y5 y6 u => p_X6_kindsBy_L18 Q (fun y0 y1 y2 y3 y4 u => p_X6_kindsBy_L5 Q  n5 y0 y1 y2 y3 y4 u) n18 y0 y1 y2 y3 y4 y5 y6 u) x0 x1 x2 x3 x4 x6 σ → va_P D vwCl (wl bM cs ad σ) H → va_S (fAd bM ad) s.heap H locs → lv_has ls 7 [(0, .ref (ad x0)), (1, .int x1), (2, .int x2), (3, .int x3), (4, .int x4), (6, .int x6)] → W p l e { frames := 3, cells := 0, slots := 0, locals := 71 } s m args below meth c H locs 0 0 (MQ below (QI bM D cs ad Q) args s 0 0 (fAd bM ad)) (F0 m 74 ls []) := by
            intro x1 x2 x3 x4 x6 σ H locs ls h hP hS hl
            unfold p_X6_kindsBy_b74 at h
            refine lv_iconst (v := 0) hx hb dX6_kindsBy_74 (by decide) ?_
            exact hB75 x1 x2 x3 x4 x6 0 σ H locs ls h hP hS (lv_sub hl [0, 1, 2, 3, 4, 5] rfl)
          intro x1 x2 x3 x4 x5 x6 σ H locs ls h hP hS hl
          rw [p_X6_kindsBy_L18] at h
          refine lv_iload hx hb dX6_kindsBy_18 (lv_at hl 6 rfl) ?_
          refine lv_aload_n hx hb dX6_kindsBy_20 rfl (lv_at hl 0 rfl) ?_
          refine va_get (ci := 5) (v := va_re ad (tM x0 6)) (C := RX6) (T := TX6) (N := 42) hx hb hts hi_X6 hown hE.1 hP x0 (w_5 hE hk0) rfl 6 (by decide) (hts (.fieldLink RX6 16 "HemLineModel" "rowSize" "[I") (by decide +kernel)) (fun _ h9 => h9) rfl dX6_kindsBy_21 ?_
          refine lv_iload_n hx hb dX6_kindsBy_24 rfl (lv_at hl 2 rfl) ?_
          obtain ⟨k1, e2, q3, i4, h⟩ := h
          refine r_iald hx hb hE hP e2 q3 i4 dX6_kindsBy_25 ?_
          refine lv_icmp_ge (tgt := 83) hx hb dX6_kindsBy_26 (by decide) (fun c5 => ?_) (fun c5 => ?_)
          · replace h := h.1 c5
            refine lv_iload_n hx hb dX6_kindsBy_83 rfl (lv_at hl 3 rfl) ?_
            refine lv_iload hx hb dX6_kindsBy_84 (lv_at hl 5 rfl) ?_
            refine lv_if_eq (tgt := 96) hx hb dX6_kindsBy_86 (by decide) (fun c6 => ?_) (fun c6 => ?_)
            · replace h := h.1 c6
              refine lv_iconst (v := 0) hx hb dX6_kindsBy_96 (by decide) ?_
              exact hB97 x1 x2 x4 x3 0 σ H locs ls h hP hS (lv_sub hl [0, 1, 2, 4] rfl)
            · replace h := h.2 c6
              refine lv_iconst (v := 1) hx hb dX6_kindsBy_89 (by decide) ?_
              refine lv_iload hx hb dX6_kindsBy_90 (lv_at hl 4 rfl) ?_
              refine lv_ishl hx hb dX6_kindsBy_92 ?_
              refine lv_goto (tgt := 97) hx hb dX6_kindsBy_93 (by decide) ?_
              exact hB97 x1 x2 x4 x3 (1 <<< (x4 &&& 31)) σ H locs ls h hP hS (lv_sub hl [0, 1, 2, 4] rfl)
          · replace h := h.2 c5
            refine lv_iload hx hb dX6_kindsBy_29 (lv_at hl 5 rfl) ?_
            refine lv_if_eq (tgt := 74) hx hb dX6_kindsBy_31 (by decide) (fun c7 => ?_) (fun c7 => ?_)
            · replace h := h.1 c7
              exact hB74 x1 x2 x3 x4 x6 σ H locs ls h hP hS (lv_sub hl [0, 1, 2, 3, 4, 6] rfl)
            · replace h := h.2 c7
              refine lv_aload_n hx hb dX6_kindsBy_34 rfl (lv_at hl 0 rfl) ?_
              refine lv_iload hx hb dX6_kindsBy_35 (lv_at hl 4 rfl) ?_
              refine lv_iload_n hx hb dX6_kindsBy_37 rfl (lv_at hl 1 rfl) ?_
              refine lv_aload_n hx hb dX6_kindsBy_38 rfl (lv_at hl 0 rfl) ?_
              refine va_get (ci := 5) (v := va_re ad (tM x0 5)) (C := RX6) (T := TX6) (N := 42) hx hb hts hi_X6 hown hE.1 hP x0 (w_5 hE hk0) rfl 5 (by decide) (hts (.fieldLink RX6 13 "HemLineModel" "cells" "[I") (by decide +kernel)) (fun _ h9 => h9) rfl dX6_kindsBy_39 ?_
              refine lv_bipush (v := 40) hx hb dX6_kindsBy_42 (by decide) ?_
              refine lv_iload_n hx hb dX6_kindsBy_44 rfl (lv_at hl 2 rfl) ?_
              refine lv_imul hx hb dX6_kindsBy_45 ?_
              refine lv_iload hx hb dX6_kindsBy_46 (lv_at hl 6 rfl) ?_
              refine lv_iadd hx hb dX6_kindsBy_48 ?_
              obtain ⟨k8, e9, q10, i11, h⟩ := h
              refine r_iald hx hb hE hP e9 q10 i11 dX6_kindsBy_49 ?_
              refine f_i (kV (As := [.int x4, .int x1, .int (gR σ k8 ((40 * x2) + x6).toNatClampNeg)]) (rest := []) (o := some x0) rfl ⟨hx, hb, hml, hown, hts⟩ (c_X6_hemNow l D cs ad x0 x4 x1 (gR σ k8 ((40 * x2) + x6).toNatClampNeg) σ _ hk0) (cwV 3 hts gX6_kindsBy_X6_hemNow rfl rfl rfl (by decide +kernel) ⟨Nat.le_of_ble_eq_true rfl, Nat.le_of_ble_eq_true rfl⟩) hE hP rfl rfl (w_5 hE hk0) h rfl hl.1 rfl (by first | exact lv_room (Nat.le_of_ble_eq_true rfl) | (refine lv_room ?_; simp [re_cat, cat_i, cat_l, cat_r])) dX6_kindsBy_50 ⟨Nat.le_refl _, Nat.le_refl _⟩) hS (fun r13 s12 H locs h hP hS => ?_)
              refine lv_aload_n hx hb dX6_kindsBy_53 rfl (lv_at hl 0 rfl) ?_
              refine va_get (ci := 5) (v := va_re ad (tM x0 5)) (C := RX6) (T := TX6) (N := 42) hx hb hts hi_X6 hown hE.1 hP x0 (w_5 hE hk0) rfl 5 (by decide) (hts (.fieldLink RX6 13 "HemLineModel" "cells" "[I") (by decide +kernel)) (fun _ h9 => h9) rfl dX6_kindsBy_54 ?_
              refine lv_bipush (v := 40) hx hb dX6_kindsBy_57 (by decide) ?_
              refine lv_iload_n hx hb dX6_kindsBy_59 rfl (lv_at hl 2 rfl) ?_
              refine lv_imul hx hb dX6_kindsBy_60 ?_
              refine lv_iload hx hb dX6_kindsBy_61 (lv_at hl 6 rfl) ?_
              refine lv_iadd hx hb dX6_kindsBy_63 ?_
              refine lv_iconst (v := 1) hx hb dX6_kindsBy_64 (by decide) ?_
              refine lv_iadd hx hb dX6_kindsBy_65 ?_
              obtain ⟨k14, e15, q16, i17, h⟩ := h
              refine r_iald hx hb hE hP e15 q16 i17 dX6_kindsBy_66 ?_
              refine lv_icmp_ne (tgt := 74) hx hb dX6_kindsBy_67 (by decide) (fun c18 => ?_) (fun c18 => ?_)
              · replace h := h.2 c18
                exact hB74 x1 x2 x3 x4 x6 s12 H locs ls h hP hS (lv_sub hl [0, 1, 2, 3, 4, 6] rfl)
              · replace h := h.1 c18
                refine lv_iconst (v := 1) hx hb dX6_kindsBy_70 (by decide) ?_
                refine lv_goto (tgt := 75) hx hb dX6_kindsBy_71 (by decide) ?_
                exact hB75 x1 x2 x3 x4 x6 1 s12 H locs ls h hP hS (lv_sub hl [0, 1, 2, 3, 4, 6] rfl)
      intro x1 x2 x3 x4 σ H locs ls h hP hS hl
      rw [p_X6_kindsBy_L5] at h
      refine lv_iload hx hb dX6_kindsBy_5 (lv_at hl 4 rfl) ?_
      refine lv_bipush (v := 6) hx hb dX6_kindsBy_7 (by decide) ?_
      refine lv_icmp_ge (tgt := 105) hx hb dX6_kindsBy_9 (by decide) (fun c1 => ?_) (fun c1 => ?_)
      · replace h := h.1 c1
        refine lv_iload_n hx hb dX6_kindsBy_105 rfl (lv_at hl 3 rfl) ?_
        exact W.iret hx hb hr (fun t ht hW => ⟨⟨_, _, rfl, h, pw ht hP⟩, hS.F ht⟩) hS.2.2 dX6_kindsBy_106
      · replace h := h.2 c1
        refine lv_iconst (v := 1) hx hb dX6_kindsBy_12 (by decide) ?_
        refine lv_istore (i := 5) (lv' := [(5, .int 1), (0, .ref (ad x0)), (1, .int x1), (2, .int x2), (3, .int x3), (4, .int x4)]) hx hb dX6_kindsBy_13 hl (by decide) (by first | rfl | simp [re_cat, cat_i, cat_l, cat_r]) (fun ls hl => ?_)
        refine lv_iconst (v := 0) hx hb dX6_kindsBy_15 (by decide) ?_
        refine lv_istore (i := 6) (lv' := [(6, .int 0), (5, .int 1), (0, .ref (ad x0)), (1, .int x1), (2, .int x2), (3, .int x3), (4, .int x4)]) hx hb dX6_kindsBy_16 hl (by decide) (by first | rfl | simp [re_cat, cat_i, cat_l, cat_r]) (fun ls hl => ?_)
        obtain ⟨n2, h⟩ := h
        exact hB18 n2 x1 x2 x3 x4 1 0 σ H locs ls h hP hS (lv_sub hl [2, 3, 4, 5, 6, 1, 0] rfl)
  unfold p_X6_kindsBy at h
  refine lv_iconst (v := 0) hx hb dX6_kindsBy_0 (by decide) ?_
  refine lv_istore_n (i := 3) (lv' := [(3, .int 0), (0, .ref (ad x0)), (1, .int x1), (2, .int x2)]) hx hb dX6_kindsBy_1 rfl hl (by decide) (by first | rfl | simp [re_cat, cat_i, cat_l, cat_r]) (fun ls hl => ?_)
  refine lv_iconst (v := 0) hx hb dX6_kindsBy_2 (by decide) ?_
  refine lv_istore (i := 4) (lv' := [(4, .int 0), (3, .int 0), (0, .ref (ad x0)), (1, .int x1), (2, .int x2)]) hx hb dX6_kindsBy_3 hl (by decide) (by first | rfl | simp [re_cat, cat_i, cat_l, cat_r]) (fun ls hl => ?_)
  obtain ⟨n1, h⟩ := h
  exact hB5 n1 x1 x2 0 0 s0 _ _ ls h hP hS (lv_sub hl [2, 3, 4, 1, 0] rfl)
def p_X6_kinds (x0 : Nat) (x1 : Int32) (x2 : Int32) (s : Sg) (Q : Int32 → Sg → Prop) : Prop := p_X6_judge x0 x1 x2 s (fun r2 s1 => ((0 ≤ r2 → p_X6_kindsBy x0 x1 x2 s1 (fun r5 s4 => Q r5 s4)) ∧ (¬ 0 ≤ r2 → Q r2 s1)))
set_option maxHeartbeats 4000000 in
set_option maxRecDepth 100000 in
theorem c_X6_kinds (l : Launch) (D : va_G) (cs : Cs) (ad : Nat → Nat) (x0 : Nat) (x1 : Int32) (x2 : Int32) (s0 : Sg) (Q : Int32 → Sg → Prop) (hk0 : kM x0 = 5) : Met l yX6_kinds wsX6_kinds { frames := 4, cells := 0, slots := 0, locals := 97 } (Pc0 bM D cs ad [.ref (ad x0), .int x1, .int x2] s0 (p_X6_kinds x0 x1 x2 s0 Q)) (QI bM D cs ad Q) 0 0 (fAd bM ad) := by
  refine Met.ofW (cc := cX6_kinds) (maxL := 4) (ret := (some .int)) (by decide) rfl ?_
  intro p e s m args below meth c s₁ B0 hml hv
  obtain ⟨ha, hP, hE, h⟩ := hv
  have hx := B0.exec
  have hb := B0.bytes
  have hr := B0.returns
  have hts := atoms_spec (ws := wsX6_kinds) B0.pre
  have hown : s.vm.findClass RX6 = some m.cls := findClass_of_methodNamed B0.named
  have hlocks := B0.notSynchronized
  have hS : va_S (fAd bM ad) s.heap s.heap [] := va_S.rf
  have hl := lv_entry ([.ref (ad x0), .int x1, .int x2]) (n := 4) (by first | exact Nat.le_of_ble_eq_true rfl | simp [lg_sl, re_cat, cat_i, cat_l, cat_r])
  rw [show entryFrame m args 4 = entryFrame m ([.ref (ad x0), .int x1, .int x2] : List Value).toArray 4 by rw [ha], lg_entry_eq]
  generalize (lg_sl ([.ref (ad x0), .int x1, .int x2]) ++ List.replicate (4 - (lg_sl ([.ref (ad x0), .int x1, .int x2])).length) Slot.unset).toArray = ls at hl ⊢
  have hl : lv_has ls 4 [(0, .ref (ad x0)), (1, .int x1), (2, .int x2)] := by first | exact hl | simpa [lv_args, re_cat, cat_i, cat_l, cat_r] using hl
  unfold p_X6_kinds at h
  refine lv_aload_n hx hb dX6_kinds_0 rfl (lv_at hl 0 rfl) ?_
  refine lv_iload_n hx hb dX6_kinds_1 rfl (lv_at hl 1 rfl) ?_
  refine lv_iload_n hx hb dX6_kinds_2 rfl (lv_at hl 2 rfl) ?_
  refine f_i (kV (As := [.int x1, .int x2]) (rest := []) (o := some x0) rfl ⟨hx, hb, hml, hown, hts⟩ (c_X6_judge l D cs ad x0 x1 x2 s0 _ hk0) (cwV 2 hts gX6_kinds_X6_judge rfl rfl rfl (by decide +kernel) ⟨Nat.le_of_ble_eq_true rfl, Nat.le_of_ble_eq_true rfl⟩) hE hP rfl rfl (w_5 hE hk0) h rfl hl.1 rfl (by first | exact lv_room (Nat.le_of_ble_eq_true rfl) | (refine lv_room ?_; simp [re_cat, cat_i, cat_l, cat_r])) dX6_kinds_3 ⟨Nat.le_refl _, Nat.le_refl _⟩) hS (fun r2 s1 H locs h hP hS => ?_)
  refine lv_istore_n (i := 3) (lv' := [(3, .int r2), (0, .ref (ad x0)), (1, .int x1), (2, .int x2)]) hx hb dX6_kinds_6 rfl hl (by decide) (by first | rfl | simp [re_cat, cat_i, cat_l, cat_r]) (fun ls hl => ?_)
  refine lv_iload_n hx hb dX6_kinds_7 rfl (lv_at hl 0 rfl) ?_
  refine lv_if_ge (tgt := 15) hx hb dX6_kinds_8 (by decide) (fun c3 => ?_) (fun c3 => ?_)
  · replace h := h.1 c3
    refine lv_aload_n hx hb dX6_kinds_15 rfl (lv_at hl 1 rfl) ?_
    refine lv_iload_n hx hb dX6_kinds_16 rfl (lv_at hl 2 rfl) ?_
    refine lv_iload_n hx hb dX6_kinds_17 rfl (lv_at hl 3 rfl) ?_
    refine f_i (kV (As := [.int x1, .int x2]) (rest := []) (o := some x0) rfl ⟨hx, hb, hml, hown, hts⟩ (c_X6_kindsBy l D cs ad x0 x1 x2 s1 _ hk0) (cwV 2 hts gX6_kinds_X6_kindsBy rfl rfl rfl (by decide +kernel) ⟨Nat.le_of_ble_eq_true rfl, Nat.le_of_ble_eq_true rfl⟩) hE hP rfl rfl (w_5 hE hk0) h rfl hl.1 rfl (by first | exact lv_room (Nat.le_of_ble_eq_true rfl) | (refine lv_room ?_; simp [re_cat, cat_i, cat_l, cat_r])) dX6_kinds_18 ⟨Nat.le_refl _, Nat.le_refl _⟩) hS (fun r5 s4 H locs h hP hS => ?_)
    exact W.iret hx hb hr (fun t ht hW => ⟨⟨_, _, rfl, h, pw ht hP⟩, hS.F ht⟩) hS.2.2 dX6_kinds_21
  · replace h := h.2 c3
    refine lv_iload_n hx hb dX6_kinds_11 rfl (lv_at hl 0 rfl) ?_
    refine lv_goto (tgt := 21) hx hb dX6_kinds_12 (by decide) ?_
    exact W.iret hx hb hr (fun t ht hW => ⟨⟨_, _, rfl, h, pw ht hP⟩, hS.F ht⟩) hS.2.2 dX6_kinds_21
def p_X6_test_b104 (Q : Int32 → Sg → Prop) (K65 : Nat → Int32 → Int32 → Int32 → Int32 → Int32 → Int32 → Int32 → Int32 → Int32 → Sg → Prop) (x0 : Nat) (x1 : Int32) (x4 : Int32) (x5 : Int32) (x6 : Int32) (x7 : Int32) (x8 : Int32) (x9 : Int32) (x11 : Int32) (t0 : Int32) (t1 : Int32) (s : Sg) : Prop := K65 x0 x1 x4 x5 x6 x7 x8 x9 (t0 + t1) (x11 + 1) s
def p_X6_test_b103 (Q : Int32 → Sg → Prop) (K65 : Nat → Int32 → Int32 → Int32 → Int32 → Int32 → Int32 → Int32 → Int32 → Int32 → Sg → Prop) (x0 : Nat) (x1 : Int32) (x4 : Int32) (x5 : Int32) (x6 : Int32) (x7 : Int32) (x8 : Int32) (x9 : Int32) (x11 : Int32) (t0 : Int32) (s : Sg) : Prop := p_X6_test_b104 Q K65 x0 x1 x4 x5 x6 x7 x8 x9 x11 t0 0 s
def p_X6_test_b127 (Q : Int32 → Sg → Prop) (K52 : Nat → Int32 → Int32 → Int32 → Int32 → Int32 → Int32 → Int32 → Sg → Prop) (x0 : Nat) (x1 : Int32) (x4 : Int32) (x5 : Int32) (x6 : Int32) (x7 : Int32) (x9 : Int32) (t0 : Int32) (s : Sg) : Prop := K52 x0 x1 x4 x5 x6 x7 t0 (x9 + 1) s
def p_X6_test_L65 (Q : Int32 → Sg → Prop) (K52 : Nat → Int32 → Int32 → Int32 → Int32 → Int32 → Int32 → Int32 → Sg → Prop) : Nat → Nat → Int32 → Int32 → Int32 → Int32 → Int32 → Int32 → Int32 → Int32 → Int32 → Sg → Prop
  | 0, _, _, _, _, _, _, _, _, _, _, _ => False
  | n + 1, x0, x1, x4, x5, x6, x7, x8, x9, x10, x11, s => ((6 ≤ x11 → ((x10 ≤ x8 → p_X6_test_b127 Q K52 x0 x1 x4 x5 x6 x7 x9 x8 s) ∧ (¬ x10 ≤ x8 → p_X6_test_b127 Q K52 x0 x1 x4 x5 x6 x7 x9 x10 s))) ∧ (¬ 6 ≤ x11 → ((((x4 >>> (x11 &&& 31)) &&& 1) = 1 → p_X6_hemNow x0 x11 x1 x7 s (fun r5 s4 => ((r5 = x9 → p_X6_test_b104 Q (fun y0 y1 y4 y5 y6 y7 y8 y9 y10 y11 u => p_X6_test_L65 Q K52 n y0 y1 y4 y5 y6 y7 y8 y9 y10 y11 u) x0 x1 x4 x5 x6 x7 x8 x9 x11 x10 1 s4) ∧ (¬ r5 = x9 → p_X6_test_b103 Q (fun y0 y1 y4 y5 y6 y7 y8 y9 y10 y11 u => p_X6_test_L65 Q K52 n y0 y1 y4 y5 y6 y7 y8 y9 y10 y11 u) x0 x1 x4 x5 x6 x7 x8 x9 x11 x10 s4)))) ∧ (¬ ((x4 >>> (x11 &&& 31)) &&& 1) = 1 → p_X6_test_b103 Q (fun y0 y1 y4 y5 y6 y7 y8 y9 y10 y11 u => p_X6_test_L65 Q K52 n y0 y1 y4 y5 y6 y7 y8 y9 y10 y11 u) x0 x1 x4 x5 x6 x7 x8 x9 x11 x10 s))))
def p_X6_test_b157 (Q : Int32 → Sg → Prop) (K39 : Nat → Int32 → Int32 → Int32 → Int32 → Int32 → Sg → Prop) (x0 : Nat) (x1 : Int32) (x4 : Int32) (x5 : Int32) (x6 : Int32) (x7 : Int32) (s : Sg) : Prop := K39 x0 x1 x4 x5 x6 (x7 + 1) s
def p_X6_test_b149 (Q : Int32 → Sg → Prop) (K39 : Nat → Int32 → Int32 → Int32 → Int32 → Int32 → Sg → Prop) (x0 : Nat) (x1 : Int32) (x4 : Int32) (x7 : Int32) (x8 : Int32) (s : Sg) : Prop := p_X6_test_b157 Q K39 x0 x1 x4 x7 x8 x7 s
def p_X6_test_L52 (Q : Int32 → Sg → Prop) (K39 : Nat → Int32 → Int32 → Int32 → Int32 → Int32 → Sg → Prop) : Nat → Nat → Int32 → Int32 → Int32 → Int32 → Int32 → Int32 → Int32 → Sg → Prop
  | 0, _, _, _, _, _, _, _, _, _ => False
  | n + 1, x0, x1, x4, x5, x6, x7, x8, x9, s => ((10 < x9 → ((x5 = ((-9)) → p_X6_test_b149 Q K39 x0 x1 x4 x7 x8 s) ∧ (¬ x5 = ((-9)) → ((x6 ≤ x8 → p_X6_test_b157 Q K39 x0 x1 x4 x5 x6 x7 s) ∧ (¬ x6 ≤ x8 → p_X6_test_b149 Q K39 x0 x1 x4 x7 x8 s))))) ∧ (¬ 10 < x9 → (∃ n4, p_X6_test_L65 Q (fun y0 y1 y4 y5 y6 y7 y8 y9 u => p_X6_test_L52 Q K39 n y0 y1 y4 y5 y6 y7 y8 y9 u) n4 x0 x1 x4 x5 x6 x7 x8 x9 0 0 s)))
def p_X6_test_L39 (Q : Int32 → Sg → Prop)  : Nat → Nat → Int32 → Int32 → Int32 → Int32 → Int32 → Sg → Prop
  | 0, _, _, _, _, _, _, _ => False
  | n + 1, x0, x1, x4, x5, x6, x7, s => ((20 < x7 → Q x5 (setI s x0 0 x6)) ∧ (¬ 20 < x7 → (∃ n2, p_X6_test_L52 Q (fun y0 y1 y4 y5 y6 y7 u => p_X6_test_L39 Q  n y0 y1 y4 y5 y6 y7 u) n2 x0 x1 x4 x5 x6 x7 0 0 s)))
def p_X6_test (x0 : Nat) (x1 : Int32) (x2 : Int32) (s : Sg) (Q : Int32 → Sg → Prop) : Prop := p_X6_judge x0 x1 x2 s (fun r2 s1 => ((0 ≤ r2 → p_X6_kindsBy x0 x1 x2 s1 (fun r5 s4 => ((r5 = 0 → Q ((-9)) s4) ∧ (¬ r5 = 0 → (∃ n7, p_X6_test_L39 Q  n7 x0 x1 r5 ((-9)) 0 0 s4))))) ∧ (¬ 0 ≤ r2 → Q r2 s1)))
set_option maxHeartbeats 4000000 in
set_option maxRecDepth 100000 in
theorem c_X6_test (l : Launch) (D : va_G) (cs : Cs) (ad : Nat → Nat) (x0 : Nat) (x1 : Int32) (x2 : Int32) (s0 : Sg) (Q : Int32 → Sg → Prop) (hk0 : kM x0 = 5) : Met l yX6_test wsX6_test { frames := 4, cells := 0, slots := 0, locals := 97 } (Pc0 bM D cs ad [.ref (ad x0), .int x1, .int x2] s0 (p_X6_test x0 x1 x2 s0 Q)) (QI bM D cs ad Q) 0 0 (fAd bM ad) := by
  refine Met.ofW (cc := cX6_test) (maxL := 12) (ret := (some .int)) (by decide) rfl ?_
  intro p e s m args below meth c s₁ B0 hml hv
  obtain ⟨ha, hP, hE, h⟩ := hv
  have hx := B0.exec
  have hb := B0.bytes
  have hr := B0.returns
  have hts := atoms_spec (ws := wsX6_test) B0.pre
  have hown : s.vm.findClass RX6 = some m.cls := findClass_of_methodNamed B0.named
  have hlocks := B0.notSynchronized
  have hi_X6 : ∀ w ∈ u_ws RX6 TX6 42, w ∈ wsX6_test := by decide +kernel
  have hS : va_S (fAd bM ad) s.heap s.heap [] := va_S.rf
  have hl := lv_entry ([.ref (ad x0), .int x1, .int x2]) (n := 12) (by first | exact Nat.le_of_ble_eq_true rfl | simp [lg_sl, re_cat, cat_i, cat_l, cat_r])
  rw [show entryFrame m args 12 = entryFrame m ([.ref (ad x0), .int x1, .int x2] : List Value).toArray 12 by rw [ha], lg_entry_eq]
  generalize (lg_sl ([.ref (ad x0), .int x1, .int x2]) ++ List.replicate (12 - (lg_sl ([.ref (ad x0), .int x1, .int x2])).length) Slot.unset).toArray = ls at hl ⊢
  have hl : lv_has ls 12 [(0, .ref (ad x0)), (1, .int x1), (2, .int x2)] := by first | exact hl | simpa [lv_args, re_cat, cat_i, cat_l, cat_r] using hl
  have hB39 : ∀ (n39 : Nat) (x1 : Int32) (x4 : Int32) (x5 : Int32) (x6 : Int32) (x7 : Int32) (σ : Sg) (H : Heap) (locs : List Loc) (ls : Array Slot), p_X6_test_L39 Q  n39 x0 x1 x4 x5 x6 x7 σ → va_P D vwCl (wl bM cs ad σ) H → va_S (fAd bM ad) s.heap H locs → lv_has ls 12 [(0, .ref (ad x0)), (1, .int x1), (4, .int x4), (5, .int x5), (6, .int x6), (7, .int x7)] → W p l e { frames := 4, cells := 0, slots := 0, locals := 97 } s m args below meth c H locs 0 0 (MQ below (QI bM D cs ad Q) args s 0 0 (fAd bM ad)) (F0 m 39 ls []) := by
    intro n39
    induction n39 with
    | zero =>
      intro x1 x4 x5 x6 x7 σ H locs ls h
      exact h.elim
    | succ n39 ih =>
      have hK39 := ih
      have hB157 : ∀ (x1 : Int32) (x4 : Int32) (x5 : Int32) (x6 : Int32) (x7 : Int32) (σ : Sg) (H : Heap) (locs : List Loc) (ls : Array Slot), p_X6_test_b157 Q (fun y0 y1 y4 y5 y6 y7 u => p_X6_test_L39 Q  n39 y0 y1 y4 y5 y6 y7 u) x0 x1 x4 x5 x6 x7 σ → va_P D vwCl (wl bM cs ad σ) H → va_S (fAd bM ad) s.heap H locs → lv_has ls 12 [(0, .ref (ad x0)), (1, .int x1), (4, .int x4), (5, .int x5), (6, .int x6), (7, .int x7)] → W p l e { frames := 4, cells := 0, slots := 0, locals := 97 } s m args below meth c H locs 0 0 (MQ below (QI bM D cs ad Q) args s 0 0 (fAd bM ad)) (F0 m 157 ls []) := by
        intro x1 x4 x5 x6 x7 σ H locs ls h hP hS hl
        unfold p_X6_test_b157 at h
        refine lv_iinc (v := x7 + 1) (lv' := [(7, .int (x7 + 1)), (0, .ref (ad x0)), (1, .int x1), (4, .int x4), (5, .int x5), (6, .int x6)]) hx hb dX6_test_157 hl (k := 5) rfl rfl (by decide) (by first | rfl | simp [re_cat, cat_i, cat_l, cat_r]) (fun ls hl => ?_)
        refine lv_goto (tgt := 39) hx hb dX6_test_160 (by decide) ?_
        exact hK39 x1 x4 x5 x6 (x7 + 1) σ H locs ls h hP hS (lv_sub hl [1, 2, 3, 4, 5, 0] rfl)
      have hB149 : ∀ (x1 : Int32) (x4 : Int32) (x7 : Int32) (x8 : Int32) (σ : Sg) (H : Heap) (locs : List Loc) (ls : Array Slot), p_X6_test_b149 Q (fun y0 y1 y4 y5 y6 y7 u => p_X6_test_L39 Q  n39 y0 y1 y4 y5 y6 y7 u) x0 x1 x4 x7 x8 σ → va_P D vwCl (wl bM cs ad σ) H → va_S (fAd bM ad) s.heap H locs → lv_has ls 12 [(0, .ref (ad x0)), (1, .int x1), (4, .int x4), (7, .int x7), (8, .int x8)] → W p l e { frames := 4, cells := 0, slots := 0, locals := 97 } s m args below meth c H locs 0 0 (MQ below (QI bM D cs ad Q) args s 0 0 (fAd bM ad)) (F0 m 149 ls []) := by
        intro x1 x4 x7 x8 σ H locs ls h hP hS hl
        unfold p_X6_test_b149 at h
        refine lv_iload hx hb dX6_test_149 (lv_at hl 3 rfl) ?_
        refine lv_istore (i := 5) (lv' := [(5, .int x7), (0, .ref (ad x0)), (1, .int x1), (4, .int x4), (7, .int x7), (8, .int x8)]) hx hb dX6_test_151 hl (by decide) (by first | rfl | simp [re_cat, cat_i, cat_l, cat_r]) (fun ls hl => ?_)
        refine lv_iload hx hb dX6_test_153 (lv_at hl 5 rfl) ?_
        refine lv_istore (i := 6) (lv' := [(6, .int x8), (5, .int x7), (0, .ref (ad x0)), (1, .int x1), (4, .int x4), (7, .int x7), (8, .int x8)]) hx hb dX6_test_155 hl (by decide) (by first | rfl | simp [re_cat, cat_i, cat_l, cat_r]) (fun ls hl => ?_)
        exact hB157 x1 x4 x7 x8 x7 σ H locs ls h hP hS (lv_sub hl [2, 3, 4, 1, 0, 5] rfl)
      have hB52 : ∀ (n52 : Nat) (x1 : Int32) (x4 : Int32) (x5 : Int32) (x6 : Int32) (x7 : Int32) (x8 : Int32) (x9 : Int32) (σ : Sg) (H : Heap) (locs : List Loc) (ls : Array Slot), p_X6_test_L52 Q (fun y0 y1 y4 y5 y6 y7 u => p_X6_test_L39 Q  n39 y0 y1 y4 y5 y6 y7 u) n52 x0 x1 x4 x5 x6 x7 x8 x9 σ → va_P D vwCl (wl bM cs ad σ) H → va_S (fAd bM ad) s.heap H locs → lv_has ls 12 [(0, .ref (ad x0)), (1, .int x1), (4, .int x4), (5, .int x5), (6, .int x6), (7, .int x7), (8, .int x8), (9, .int x9)] → W p l e { frames := 4, cells := 0, slots := 0, locals := 97 } s m args below meth c H locs 0 0 (MQ below (QI bM D cs ad Q) args s 0 0 (fAd bM ad)) (F0 m 52 ls []) := by
        intro n52
        induction n52 with
        | zero =>
          intro x1 x4 x5 x6 x7 x8 x9 σ H locs ls h
          exact h.elim
        | succ n52 ih =>
          have hK52 := ih
          have hB127 : ∀ (x1 : Int32) (x4 : Int32) (x5 : Int32) (x6 : Int32) (x7 : Int32) (x9 : Int32) (t0 : Int32) (σ : Sg) (H : Heap) (locs : List Loc) (ls : Array Slot), p_X6_test_b127 Q (fun y0 y1 y4 y5 y6 y7 y8 y9 u => p_X6_test_L52 Q (fun y0 y1 y4 y5 y6 y7 u => p_X6_test_L39 Q  n39 y0 y1 y4 y5 y6 y7 u) n52 y0 y1 y4 y5 y6 y7 y8 y9 u) x0 x1 x4 x5 x6 x7 x9 t0 σ → va_P D vwCl (wl bM cs ad σ) H → va_S (fAd bM ad) s.heap H locs → lv_has ls 12 [(0, .ref (ad x0)), (1, .int x1), (4, .int x4), (5, .int x5), (6, .int x6), (7, .int x7), (9, .int x9)] → W p l e { frames := 4, cells := 0, slots := 0, locals := 97 } s m args below meth c H locs 0 0 (MQ below (QI bM D cs ad Q) args s 0 0 (fAd bM ad)) (F0 m 127 ls [.int t0]) := by
            intro x1 x4 x5 x6 x7 x9 t0 σ H locs ls h hP hS hl
            unfold p_X6_test_b127 at h
            refine lv_istore (i := 8) (lv' := [(8, .int t0), (0, .ref (ad x0)), (1, .int x1), (4, .int x4), (5, .int x5), (6, .int x6), (7, .int x7), (9, .int x9)]) hx hb dX6_test_127 hl (by decide) (by first | rfl | simp [re_cat, cat_i, cat_l, cat_r]) (fun ls hl => ?_)
            refine lv_iinc (v := x9 + 1) (lv' := [(9, .int (x9 + 1)), (8, .int t0), (0, .ref (ad x0)), (1, .int x1), (4, .int x4), (5, .int x5), (6, .int x6), (7, .int x7)]) hx hb dX6_test_129 hl (k := 7) rfl rfl (by decide) (by first | rfl | simp [re_cat, cat_i, cat_l, cat_r]) (fun ls hl => ?_)
            refine lv_goto (tgt := 52) hx hb dX6_test_132 (by decide) ?_
            exact hK52 x1 x4 x5 x6 x7 t0 (x9 + 1) σ H locs ls h hP hS (lv_sub hl [2, 3, 4, 5, 6, 7, 1, 0] rfl)
          have hB65 : ∀ (n65 : Nat) (x1 : Int32) (x4 : Int32) (x5 : Int32) (x6 : Int32) (x7 : Int32) (x8 : Int32) (x9 : Int32) (x10 : Int32) (x11 : Int32) (σ : Sg) (H : Heap) (locs : List Loc) (ls : Array Slot), p_X6_test_L65 Q (fun y0 y1 y4 y5 y6 y7 y8 y9 u => p_X6_test_L52 Q (fun y0 y1 y4 y5 y6 y7 u => p_X6_test_L39 Q  n39 y0 y1 y4 y5 y6 y7 u) n52 y0 y1 y4 y5 y6 y7 y8 y9 u) n65 x0 x1 x4 x5 x6 x7 x8 x9 x10 x11 σ → va_P D vwCl (wl bM cs ad σ) H → va_S (fAd bM ad) s.heap H locs → lv_has ls 12 [(0, .ref (ad x0)), (1, .int x1), (4, .int x4), (5, .int x5), (6, .int x6), (7, .int x7), (8, .int x8), (9, .int x9), (10, .int x10), (11, .int x11)] → W p l e { frames := 4, cells := 0, slots := 0, locals := 97 } s m args below meth c H locs 0 0 (MQ below (QI bM D cs ad Q) args s 0 0 (fAd bM ad)) (F0 m 65 ls []) := by
            intro n65
            induction n65 with
            | zero =>
              intro x1 x4 x5 x6 x7 x8 x9 x10 x11 σ H locs ls h
              exact h.elim
            | succ n65 ih =>
              have hK65 := ih
              have hB104 : ∀ (x1 : Int32) (x4 : Int32) (x5 : Int32) (x6 : Int32) (x7 : Int32) (x8 : Int32) (x9 : Int32) (x11 : Int32) (t0 : Int32) (t1 : Int32) (σ : Sg) (H : Heap) (locs : List Loc) (ls : Array Slot), p_X6_test_b104 Q (fun y0 y1 y4 y5 y6 y7 y8 y9 y10 y11 u => p_X6_test_L65 Q (fun y0 y1 y4 y5 y6 y7 y8 y9 u => p_X6_test_L52 Q (fun y0 y1 y4 y5 y6 y7 u => p_X6_test_L39 Q  n39 y0 y1 y4 y5 y6 y7 u) n52 y0 y1 y4 y5 y6 y7 y8 y9 u) n65 y0 y1 y4 y5 y6 y7 y8 y9 y10 y11 u) x0 x1 x4 x5 x6 x7 x8 x9 x11 t0 t1 σ → va_P D vwCl (wl bM cs ad σ) H → va_S (fAd bM ad) s.heap H locs → lv_has ls 12 [(0, .ref (ad x0)), (1, .int x1), (4, .int x4), (5, .int x5), (6, .int x6), (7, .int x7), (8, .int x8), (9, .int x9), (11, .int x11)] → W p l e { frames := 4, cells := 0, slots := 0, locals := 97 } s m args below meth c H locs 0 0 (MQ below (QI bM D cs ad Q) args s 0 0 (fAd bM ad)) (F0 m 104 ls [.int t1, .int t0]) := by
                intro x1 x4 x5 x6 x7 x8 x9 x11 t0 t1 σ H locs ls h hP hS hl
                unfold p_X6_test_b104 at h
                refine lv_iadd hx hb dX6_test_104 ?_
                refine lv_istore (i := 10) (lv' := [(10, .int (t0 + t1)), (0, .ref (ad x0)), (1, .int x1), (4, .int x4), (5, .int x5), (6, .int x6), (7, .int x7), (8, .int x8), (9, .int x9), (11, .int x11)]) hx hb dX6_test_105 hl (by decide) (by first | rfl | simp [re_cat, cat_i, cat_l, cat_r]) (fun ls hl => ?_)
                refine lv_iinc (v := x11 + 1) (lv' := [(11, .int (x11 + 1)), (10, .int (t0 + t1)), (0, .ref (ad x0)), (1, .int x1), (4, .int x4), (5, .int x5), (6, .int x6), (7, .int x7), (8, .int x8), (9, .int x9)]) hx hb dX6_test_107 hl (k := 9) rfl rfl (by decide) (by first | rfl | simp [re_cat, cat_i, cat_l, cat_r]) (fun ls hl => ?_)
                refine lv_goto (tgt := 65) hx hb dX6_test_110 (by decide) ?_
                exact hK65 x1 x4 x5 x6 x7 x8 x9 (t0 + t1) (x11 + 1) σ H locs ls h hP hS (lv_sub hl [2, 3, 4, 5, 6, 7, 8, 9, 1, 0] rfl)
              have hB103 : ∀ (x1 : Int32) (x4 : Int32) (x5 : Int32) (x6 : Int32) (x7 : Int32) (x8 : Int32) (x9 : Int32) (x11 : Int32) (t0 : Int32) (σ : Sg) (H : Heap) (locs : List Loc) (ls : Array Slot), p_X6_test_b103 Q (fun y0 y1 y4 y5 y6 y7 y8 y9 y10 y11 u => p_X6_test_L65 Q (fun y0 y1 y4 y5 y6 y7 y8 y9 u => p_X6_test_L52 Q (fun y0 y1 y4 y5 y6 y7 u => p_X6_test_L39 Q  n39 y0 y1 y4 y5 y6 y7 u) n52 y0 y1 y4 y5 y6 y7 y8 y9 u) n65 y0 y1 y4 y5 y6 y7 y8 y9 y10 y11 u) x0 x1 x4 x5 x6 x7 x8 x9 x11 t0 σ → va_P D vwCl (wl bM cs ad σ) H → va_S (fAd bM ad) s.heap H locs → lv_has ls 12 [(0, .ref (ad x0)), (1, .int x1), (4, .int x4), (5, .int x5), (6, .int x6), (7, .int x7), (8, .int x8), (9, .int x9), (11, .int x11)] → W p l e { frames := 4, cells := 0, slots := 0, locals := 97 } s m args below meth c H locs 0 0 (MQ below (QI bM D cs ad Q) args s 0 0 (fAd bM ad)) (F0 m 103 ls [.int t0]) := by
                intro x1 x4 x5 x6 x7 x8 x9 x11 t0 σ H locs ls h hP hS hl
                unfold p_X6_test_b103 at h
                refine lv_iconst (v := 0) hx hb dX6_test_103 (by decide) ?_
                exact hB104 x1 x4 x5 x6 x7 x8 x9 x11 t0 0 σ H locs ls h hP hS (lv_sub hl [0, 1, 2, 3, 4, 5, 6, 7, 8] rfl)
              intro x1 x4 x5 x6 x7 x8 x9 x10 x11 σ H locs ls h hP hS hl
              rw [p_X6_test_L65] at h
              refine lv_iload hx hb dX6_test_65 (lv_at hl 9 rfl) ?_
              refine lv_bipush (v := 6) hx hb dX6_test_67 (by decide) ?_
              refine lv_icmp_ge (tgt := 113) hx hb dX6_test_69 (by decide) (fun c1 => ?_) (fun c1 => ?_)
              · replace h := h.1 c1
                refine lv_iload hx hb dX6_test_113 (lv_at hl 8 rfl) ?_
                refine lv_iload hx hb dX6_test_115 (lv_at hl 6 rfl) ?_
                refine lv_icmp_le (tgt := 125) hx hb dX6_test_117 (by decide) (fun c2 => ?_) (fun c2 => ?_)
                · replace h := h.1 c2
                  refine lv_iload hx hb dX6_test_125 (lv_at hl 6 rfl) ?_
                  exact hB127 x1 x4 x5 x6 x7 x9 x8 σ H locs ls h hP hS (lv_sub hl [0, 1, 2, 3, 4, 5, 7] rfl)
                · replace h := h.2 c2
                  refine lv_iload hx hb dX6_test_120 (lv_at hl 8 rfl) ?_
                  refine lv_goto (tgt := 127) hx hb dX6_test_122 (by decide) ?_
                  exact hB127 x1 x4 x5 x6 x7 x9 x10 σ H locs ls h hP hS (lv_sub hl [0, 1, 2, 3, 4, 5, 7] rfl)
              · replace h := h.2 c1
                refine lv_iload hx hb dX6_test_72 (lv_at hl 8 rfl) ?_
                refine lv_iload hx hb dX6_test_74 (lv_at hl 2 rfl) ?_
                refine lv_iload hx hb dX6_test_76 (lv_at hl 9 rfl) ?_
                refine lv_ishr hx hb dX6_test_78 ?_
                refine lv_iconst (v := 1) hx hb dX6_test_79 (by decide) ?_
                refine lv_iand hx hb dX6_test_80 ?_
                refine lv_iconst (v := 1) hx hb dX6_test_81 (by decide) ?_
                refine lv_icmp_ne (tgt := 103) hx hb dX6_test_82 (by decide) (fun c3 => ?_) (fun c3 => ?_)
                · replace h := h.2 c3
                  exact hB103 x1 x4 x5 x6 x7 x8 x9 x11 x10 σ H locs ls h hP hS (lv_sub hl [0, 1, 2, 3, 4, 5, 6, 7, 9] rfl)
                · replace h := h.1 c3
                  refine lv_aload_n hx hb dX6_test_85 rfl (lv_at hl 0 rfl) ?_
                  refine lv_iload hx hb dX6_test_86 (lv_at hl 9 rfl) ?_
                  refine lv_iload_n hx hb dX6_test_88 rfl (lv_at hl 1 rfl) ?_
                  refine lv_iload hx hb dX6_test_89 (lv_at hl 5 rfl) ?_
                  refine f_i (kV (As := [.int x11, .int x1, .int x7]) (rest := [.int x10]) (o := some x0) rfl ⟨hx, hb, hml, hown, hts⟩ (c_X6_hemNow l D cs ad x0 x11 x1 x7 σ _ hk0) (cwV 3 hts gX6_test_X6_hemNow rfl rfl rfl (by decide +kernel) ⟨Nat.le_of_ble_eq_true rfl, Nat.le_of_ble_eq_true rfl⟩) hE hP rfl rfl (w_5 hE hk0) h rfl hl.1 rfl (by first | exact lv_room (Nat.le_of_ble_eq_true rfl) | (refine lv_room ?_; simp [re_cat, cat_i, cat_l, cat_r])) dX6_test_91 ⟨Nat.le_refl _, Nat.le_refl _⟩) hS (fun r5 s4 H locs h hP hS => ?_)
                  refine lv_iload hx hb dX6_test_94 (lv_at hl 7 rfl) ?_
                  refine lv_icmp_ne (tgt := 103) hx hb dX6_test_96 (by decide) (fun c6 => ?_) (fun c6 => ?_)
                  · replace h := h.2 c6
                    exact hB103 x1 x4 x5 x6 x7 x8 x9 x11 x10 s4 H locs ls h hP hS (lv_sub hl [0, 1, 2, 3, 4, 5, 6, 7, 9] rfl)
                  · replace h := h.1 c6
                    refine lv_iconst (v := 1) hx hb dX6_test_99 (by decide) ?_
                    refine lv_goto (tgt := 104) hx hb dX6_test_100 (by decide) ?_
                    exact hB104 x1 x4 x5 x6 x7 x8 x9 x11 x10 1 s4 H locs ls h hP hS (lv_sub hl [0, 1, 2, 3, 4, 5, 6, 7, 9] rfl)
          intro x1 x4 x5 x6 x7 x8 x9 σ H locs ls h hP hS hl
          rw [p_X6_test_L52] at h
          refine lv_iload hx hb dX6_test_52 (lv_at hl 7 rfl) ?_
          refine lv_bipush (v := 10) hx hb dX6_test_54 (by decide) ?_
          refine lv_icmp_gt (tgt := 135) hx hb dX6_test_56 (by decide) (fun c1 => ?_) (fun c1 => ?_)
          · replace h := h.1 c1
            refine lv_iload hx hb dX6_test_135 (lv_at hl 3 rfl) ?_
            refine lv_bipush (v := (-9)) hx hb dX6_test_137 (by decide) ?_
            refine lv_icmp_eq (tgt := 149) hx hb dX6_test_139 (by decide) (fun c2 => ?_) (fun c2 => ?_)
            · replace h := h.1 c2
              exact hB149 x1 x4 x7 x8 σ H locs ls h hP hS (lv_sub hl [0, 1, 2, 5, 6] rfl)
            · replace h := h.2 c2
              refine lv_iload hx hb dX6_test_142 (lv_at hl 6 rfl) ?_
              refine lv_iload hx hb dX6_test_144 (lv_at hl 4 rfl) ?_
              refine lv_icmp_ge (tgt := 157) hx hb dX6_test_146 (by decide) (fun c3 => ?_) (fun c3 => ?_)
              · replace h := h.1 c3
                exact hB157 x1 x4 x5 x6 x7 σ H locs ls h hP hS (lv_sub hl [0, 1, 2, 3, 4, 5] rfl)
              · replace h := h.2 c3
                exact hB149 x1 x4 x7 x8 σ H locs ls h hP hS (lv_sub hl [0, 1, 2, 5, 6] rfl)
          · replace h := h.2 c1
            refine lv_iconst (v := 0) hx hb dX6_test_59 (by decide) ?_
            refine lv_istore (i := 10) (lv' := [(10, .int 0), (0, .ref (ad x0)), (1, .int x1), (4, .int x4), (5, .int x5), (6, .int x6), (7, .int x7), (8, .int x8), (9, .int x9)]) hx hb dX6_test_60 hl (by decide) (by first | rfl | simp [re_cat, cat_i, cat_l, cat_r]) (fun ls hl => ?_)
            refine lv_iconst (v := 0) hx hb dX6_test_62 (by decide) ?_
            refine lv_istore (i := 11) (lv' := [(11, .int 0), (10, .int 0), (0, .ref (ad x0)), (1, .int x1), (4, .int x4), (5, .int x5), (6, .int x6), (7, .int x7), (8, .int x8), (9, .int x9)]) hx hb dX6_test_63 hl (by decide) (by first | rfl | simp [re_cat, cat_i, cat_l, cat_r]) (fun ls hl => ?_)
            obtain ⟨n4, h⟩ := h
            exact hB65 n4 x1 x4 x5 x6 x7 x8 x9 0 0 σ H locs ls h hP hS (lv_sub hl [2, 3, 4, 5, 6, 7, 8, 9, 1, 0] rfl)
      intro x1 x4 x5 x6 x7 σ H locs ls h hP hS hl
      rw [p_X6_test_L39] at h
      refine lv_iload hx hb dX6_test_39 (lv_at hl 5 rfl) ?_
      refine lv_bipush (v := 20) hx hb dX6_test_41 (by decide) ?_
      refine lv_icmp_gt (tgt := 163) hx hb dX6_test_43 (by decide) (fun c1 => ?_) (fun c1 => ?_)
      · replace h := h.1 c1
        refine lv_aload_n hx hb dX6_test_163 rfl (lv_at hl 0 rfl) ?_
        refine lv_iload hx hb dX6_test_164 (lv_at hl 4 rfl) ?_
        refine r_put (σ' := (setI σ x0 0 x6)) (ci := 5) (v := .int x6) (ty := .int) (C := RX6) (T := TX6) (N := 42) hx hb hts hi_X6 tyX6 tyX6_ok nmX6 hown hE hP hS x0 (w_5 hE hk0) rfl 0 (by decide) (hts (.fieldLink RX6 103 "HemLineModel" "asked" "I") (by decide +kernel)) (fun _ h9 => h9) rfl (by decide +kernel) rfl rfl (Nat.le_of_ble_eq_true rfl) dX6_test_166 (st_5_0 hE hk0 _) (fun H locs hP hS => ?_)
        refine lv_iload hx hb dX6_test_169 (lv_at hl 3 rfl) ?_
        exact W.iret hx hb hr (fun t ht hW => ⟨⟨_, _, rfl, h, pw ht hP⟩, hS.F ht⟩) hS.2.2 dX6_test_171
      · replace h := h.2 c1
        refine lv_iconst (v := 0) hx hb dX6_test_46 (by decide) ?_
        refine lv_istore (i := 8) (lv' := [(8, .int 0), (0, .ref (ad x0)), (1, .int x1), (4, .int x4), (5, .int x5), (6, .int x6), (7, .int x7)]) hx hb dX6_test_47 hl (by decide) (by first | rfl | simp [re_cat, cat_i, cat_l, cat_r]) (fun ls hl => ?_)
        refine lv_iconst (v := 0) hx hb dX6_test_49 (by decide) ?_
        refine lv_istore (i := 9) (lv' := [(9, .int 0), (8, .int 0), (0, .ref (ad x0)), (1, .int x1), (4, .int x4), (5, .int x5), (6, .int x6), (7, .int x7)]) hx hb dX6_test_50 hl (by decide) (by first | rfl | simp [re_cat, cat_i, cat_l, cat_r]) (fun ls hl => ?_)
        obtain ⟨n2, h⟩ := h
        exact hB52 n2 x1 x4 x5 x6 x7 0 0 σ H locs ls h hP hS (lv_sub hl [2, 3, 4, 5, 6, 7, 1, 0] rfl)
  unfold p_X6_test at h
  refine lv_aload_n hx hb dX6_test_0 rfl (lv_at hl 0 rfl) ?_
  refine lv_iload_n hx hb dX6_test_1 rfl (lv_at hl 1 rfl) ?_
  refine lv_iload_n hx hb dX6_test_2 rfl (lv_at hl 2 rfl) ?_
  refine f_i (kV (As := [.int x1, .int x2]) (rest := []) (o := some x0) rfl ⟨hx, hb, hml, hown, hts⟩ (c_X6_judge l D cs ad x0 x1 x2 s0 _ hk0) (cwV 2 hts gX6_test_X6_judge rfl rfl rfl (by decide +kernel) ⟨Nat.le_of_ble_eq_true rfl, Nat.le_of_ble_eq_true rfl⟩) hE hP rfl rfl (w_5 hE hk0) h rfl hl.1 rfl (by first | exact lv_room (Nat.le_of_ble_eq_true rfl) | (refine lv_room ?_; simp [re_cat, cat_i, cat_l, cat_r])) dX6_test_3 ⟨Nat.le_refl _, Nat.le_refl _⟩) hS (fun r2 s1 H locs h hP hS => ?_)
  refine lv_istore_n (i := 3) (lv' := [(3, .int r2), (0, .ref (ad x0)), (1, .int x1), (2, .int x2)]) hx hb dX6_test_6 rfl hl (by decide) (by first | rfl | simp [re_cat, cat_i, cat_l, cat_r]) (fun ls hl => ?_)
  refine lv_iload_n hx hb dX6_test_7 rfl (lv_at hl 0 rfl) ?_
  refine lv_if_ge (tgt := 13) hx hb dX6_test_8 (by decide) (fun c3 => ?_) (fun c3 => ?_)
  · replace h := h.1 c3
    refine lv_aload_n hx hb dX6_test_13 rfl (lv_at hl 1 rfl) ?_
    refine lv_iload_n hx hb dX6_test_14 rfl (lv_at hl 2 rfl) ?_
    refine lv_iload_n hx hb dX6_test_15 rfl (lv_at hl 3 rfl) ?_
    refine f_i (kV (As := [.int x1, .int x2]) (rest := []) (o := some x0) rfl ⟨hx, hb, hml, hown, hts⟩ (c_X6_kindsBy l D cs ad x0 x1 x2 s1 _ hk0) (cwV 2 hts gX6_test_X6_kindsBy rfl rfl rfl (by decide +kernel) ⟨Nat.le_of_ble_eq_true rfl, Nat.le_of_ble_eq_true rfl⟩) hE hP rfl rfl (w_5 hE hk0) h rfl hl.1 rfl (by first | exact lv_room (Nat.le_of_ble_eq_true rfl) | (refine lv_room ?_; simp [re_cat, cat_i, cat_l, cat_r])) dX6_test_16 ⟨Nat.le_refl _, Nat.le_refl _⟩) hS (fun r5 s4 H locs h hP hS => ?_)
    refine lv_istore (i := 4) (lv' := [(4, .int r5), (3, .int r2), (0, .ref (ad x0)), (1, .int x1), (2, .int x2)]) hx hb dX6_test_19 hl (by decide) (by first | rfl | simp [re_cat, cat_i, cat_l, cat_r]) (fun ls hl => ?_)
    refine lv_iload hx hb dX6_test_21 (lv_at hl 0 rfl) ?_
    refine lv_if_ne (tgt := 29) hx hb dX6_test_23 (by decide) (fun c6 => ?_) (fun c6 => ?_)
    · replace h := h.2 c6
      refine lv_bipush (v := (-9)) hx hb dX6_test_29 (by decide) ?_
      refine lv_istore (i := 5) (lv' := [(5, .int ((-9))), (4, .int r5), (3, .int r2), (0, .ref (ad x0)), (1, .int x1), (2, .int x2)]) hx hb dX6_test_31 hl (by decide) (by first | rfl | simp [re_cat, cat_i, cat_l, cat_r]) (fun ls hl => ?_)
      refine lv_iconst (v := 0) hx hb dX6_test_33 (by decide) ?_
      refine lv_istore (i := 6) (lv' := [(6, .int 0), (5, .int ((-9))), (4, .int r5), (3, .int r2), (0, .ref (ad x0)), (1, .int x1), (2, .int x2)]) hx hb dX6_test_34 hl (by decide) (by first | rfl | simp [re_cat, cat_i, cat_l, cat_r]) (fun ls hl => ?_)
      refine lv_iconst (v := 0) hx hb dX6_test_36 (by decide) ?_
      refine lv_istore (i := 7) (lv' := [(7, .int 0), (6, .int 0), (5, .int ((-9))), (4, .int r5), (3, .int r2), (0, .ref (ad x0)), (1, .int x1), (2, .int x2)]) hx hb dX6_test_37 hl (by decide) (by first | rfl | simp [re_cat, cat_i, cat_l, cat_r]) (fun ls hl => ?_)
      obtain ⟨n7, h⟩ := h
      exact hB39 n7 x1 r5 ((-9)) 0 0 s4 _ _ ls h hP hS (lv_sub hl [5, 6, 3, 2, 1, 0] rfl)
    · replace h := h.1 c6
      refine lv_bipush (v := (-9)) hx hb dX6_test_26 (by decide) ?_
      exact W.iret hx hb hr (fun t ht hW => ⟨⟨_, _, rfl, h, pw ht hP⟩, hS.F ht⟩) hS.2.2 dX6_test_28
  · replace h := h.2 c3
    refine lv_iload_n hx hb dX6_test_11 rfl (lv_at hl 0 rfl) ?_
    exact W.iret hx hb hr (fun t ht hW => ⟨⟨_, _, rfl, h, pw ht hP⟩, hS.F ht⟩) hS.2.2 dX6_test_12
def p_X6_whose_b119 (Q : Int32 → Sg → Prop) (K71 : Nat → Int32 → Int32 → Int32 → Int32 → Int32 → Sg → Prop) (x0 : Nat) (x1 : Int32) (x2 : Int32) (x3 : Int32) (x5 : Int32) (t0 : Int32) (s : Sg) : Prop := K71 x0 x1 x2 x3 t0 (x5 + 1) s
def p_X6_whose_b118 (Q : Int32 → Sg → Prop) (K71 : Nat → Int32 → Int32 → Int32 → Int32 → Int32 → Sg → Prop) (x0 : Nat) (x1 : Int32) (x2 : Int32) (x3 : Int32) (x5 : Int32) (s : Sg) : Prop := p_X6_whose_b119 Q K71 x0 x1 x2 x3 x5 0 s
def p_X6_whose_b140 (Q : Int32 → Sg → Prop) (K57 : Nat → Int32 → Int32 → Int32 → Sg → Prop) (x0 : Nat) (x1 : Int32) (x3 : Int32) (t0 : Int32) (t1 : Int32) (s : Sg) : Prop := K57 x0 x1 (t0 ||| t1) (x3 + 1) s
def p_X6_whose_L71 (Q : Int32 → Sg → Prop) (K57 : Nat → Int32 → Int32 → Int32 → Sg → Prop) : Nat → Nat → Int32 → Int32 → Int32 → Int32 → Int32 → Sg → Prop
  | 0, _, _, _, _, _, _, _ => False
  | n + 1, x0, x1, x2, x3, x4, x5, s => ∃ k1, tM x0 6 = some k1 ∧ kM k1 = 7 ∧ vp_in x1 (lM k1) ∧ (((gR s k1 x1.toNatClampNeg) ≤ x5 → ((x4 = 0 → p_X6_whose_b140 Q K57 x0 x1 x3 x2 0 s) ∧ (¬ x4 = 0 → p_X6_whose_b140 Q K57 x0 x1 x3 x2 (1 <<< (x3 &&& 31)) s))) ∧ (¬ (gR s k1 x1.toNatClampNeg) ≤ x5 → ((x4 = 0 → p_X6_whose_b118 Q (fun y0 y1 y2 y3 y4 y5 u => p_X6_whose_L71 Q K57 n y0 y1 y2 y3 y4 y5 u) x0 x1 x2 x3 x5 s) ∧ (¬ x4 = 0 → ∃ k8, tM x0 33 = some k8 ∧ kM k8 = 7 ∧ vp_in ((6 * x5) + x3) (lM k8) ∧ ∃ k12, tM x0 5 = some k12 ∧ kM k12 = 7 ∧ vp_in ((40 * x1) + x5) (lM k12) ∧ (((gR s k8 ((6 * x5) + x3).toNatClampNeg) = (gR s k12 ((40 * x1) + x5).toNatClampNeg) → p_X6_whose_b119 Q (fun y0 y1 y2 y3 y4 y5 u => p_X6_whose_L71 Q K57 n y0 y1 y2 y3 y4 y5 u) x0 x1 x2 x3 x5 1 s) ∧ (¬ (gR s k8 ((6 * x5) + x3).toNatClampNeg) = (gR s k12 ((40 * x1) + x5).toNatClampNeg) → p_X6_whose_b118 Q (fun y0 y1 y2 y3 y4 y5 u => p_X6_whose_L71 Q K57 n y0 y1 y2 y3 y4 y5 u) x0 x1 x2 x3 x5 s))))))
def p_X6_whose_b167 (Q : Int32 → Sg → Prop)  (x0 : Nat) (x2 : Int32) (t1 : Int32) (s : Sg) : Prop := Q x2 (setI s x0 0 t1)
def p_X6_whose_L57 (Q : Int32 → Sg → Prop)  : Nat → Nat → Int32 → Int32 → Int32 → Sg → Prop
  | 0, _, _, _, _, _ => False
  | n + 1, x0, x1, x2, x3, s => (((gI s x0 20) ≤ x3 → ∃ k2, tM x0 6 = some k2 ∧ kM k2 = 7 ∧ vp_in x1 (lM k2) ∧ (((gR s k2 x1.toNatClampNeg) = (gI s x0 31) → p_X6_whose_b167 Q  x0 x2 x2 s) ∧ (¬ (gR s k2 x1.toNatClampNeg) = (gI s x0 31) → p_X6_whose_b167 Q  x0 x2 0 s))) ∧ (¬ (gI s x0 20) ≤ x3 → (∃ n7, p_X6_whose_L71 Q (fun y0 y1 y2 y3 u => p_X6_whose_L57 Q  n y0 y1 y2 y3 u) n7 x0 x1 x2 x3 1 0 s)))
def p_X6_whose (x0 : Nat) (x1 : Int32) (s : Sg) (Q : Int32 → Sg → Prop) : Prop := p_X6_isRow x1 s (fun r2 s1 => ((r2 = 0 → Q ((-1)) s1) ∧ (¬ r2 = 0 → (((gI s1 x0 20) = 0 → Q ((-4)) s1) ∧ (¬ (gI s1 x0 20) = 0 → ∃ k5, tM x0 6 = some k5 ∧ kM k5 = 7 ∧ vp_in x1 (lM k5) ∧ ((0 ≤ (gR s1 k5 x1.toNatClampNeg) → ∃ k10, tM x0 6 = some k10 ∧ kM k10 = 7 ∧ vp_in x1 (lM k10) ∧ (((gR s1 k10 x1.toNatClampNeg) ≤ (gI s1 x0 31) → (∃ n15, p_X6_whose_L57 Q  n15 x0 x1 0 0 s1)) ∧ (¬ (gR s1 k10 x1.toNatClampNeg) ≤ (gI s1 x0 31) → p_X6_refuse x0 5 s1 (fun r17 s16 => Q r17 s16)))) ∧ (¬ 0 ≤ (gR s1 k5 x1.toNatClampNeg) → p_X6_refuse x0 1 s1 (fun r19 s18 => Q r19 s18))))))))
set_option maxHeartbeats 4000000 in
set_option maxRecDepth 100000 in
theorem c_X6_whose (l : Launch) (D : va_G) (cs : Cs) (ad : Nat → Nat) (x0 : Nat) (x1 : Int32) (s0 : Sg) (Q : Int32 → Sg → Prop) (hk0 : kM x0 = 5) : Met l yX6_whose wsX6_whose { frames := 2, cells := 0, slots := 0, locals := 42 } (Pc0 bM D cs ad [.ref (ad x0), .int x1] s0 (p_X6_whose x0 x1 s0 Q)) (QI bM D cs ad Q) 0 0 (fAd bM ad) := by
  refine Met.ofW (cc := cX6_whose) (maxL := 6) (ret := (some .int)) (by decide) rfl ?_
  intro p e s m args below meth c s₁ B0 hml hv
  obtain ⟨ha, hP, hE, h⟩ := hv
  have hx := B0.exec
  have hb := B0.bytes
  have hr := B0.returns
  have hts := atoms_spec (ws := wsX6_whose) B0.pre
  have hown : s.vm.findClass RX6 = some m.cls := findClass_of_methodNamed B0.named
  have hlocks := B0.notSynchronized
  have hi_X6 : ∀ w ∈ u_ws RX6 TX6 42, w ∈ wsX6_whose := by decide +kernel
  have hS : va_S (fAd bM ad) s.heap s.heap [] := va_S.rf
  have hl := lv_entry ([.ref (ad x0), .int x1]) (n := 6) (by first | exact Nat.le_of_ble_eq_true rfl | simp [lg_sl, re_cat, cat_i, cat_l, cat_r])
  rw [show entryFrame m args 6 = entryFrame m ([.ref (ad x0), .int x1] : List Value).toArray 6 by rw [ha], lg_entry_eq]
  generalize (lg_sl ([.ref (ad x0), .int x1]) ++ List.replicate (6 - (lg_sl ([.ref (ad x0), .int x1])).length) Slot.unset).toArray = ls at hl ⊢
  have hl : lv_has ls 6 [(0, .ref (ad x0)), (1, .int x1)] := by first | exact hl | simpa [lv_args, re_cat, cat_i, cat_l, cat_r] using hl
  have hB167 : ∀ (x2 : Int32) (t1 : Int32) (σ : Sg) (H : Heap) (locs : List Loc) (ls : Array Slot), p_X6_whose_b167 Q  x0 x2 t1 σ → va_P D vwCl (wl bM cs ad σ) H → va_S (fAd bM ad) s.heap H locs → lv_has ls 6 [(0, .ref (ad x0)), (2, .int x2)] → W p l e { frames := 2, cells := 0, slots := 0, locals := 42 } s m args below meth c H locs 0 0 (MQ below (QI bM D cs ad Q) args s 0 0 (fAd bM ad)) (F0 m 167 ls [.int t1, .ref (ad x0)]) := by
    intro x2 t1 σ H locs ls h hP hS hl
    unfold p_X6_whose_b167 at h
    refine r_put (σ' := (setI σ x0 0 t1)) (ci := 5) (v := .int t1) (ty := .int) (C := RX6) (T := TX6) (N := 42) hx hb hts hi_X6 tyX6 tyX6_ok nmX6 hown hE hP hS x0 (w_5 hE hk0) rfl 0 (by decide) (hts (.fieldLink RX6 103 "HemLineModel" "asked" "I") (by decide +kernel)) (fun _ h9 => h9) rfl (by decide +kernel) rfl rfl (Nat.le_of_ble_eq_true rfl) dX6_whose_167 (st_5_0 hE hk0 _) (fun H locs hP hS => ?_)
    refine lv_iload_n hx hb dX6_whose_170 rfl (lv_at hl 1 rfl) ?_
    exact W.iret hx hb hr (fun t ht hW => ⟨⟨_, _, rfl, h, pw ht hP⟩, hS.F ht⟩) hS.2.2 dX6_whose_171
  have hB57 : ∀ (n57 : Nat) (x1 : Int32) (x2 : Int32) (x3 : Int32) (σ : Sg) (H : Heap) (locs : List Loc) (ls : Array Slot), p_X6_whose_L57 Q  n57 x0 x1 x2 x3 σ → va_P D vwCl (wl bM cs ad σ) H → va_S (fAd bM ad) s.heap H locs → lv_has ls 6 [(0, .ref (ad x0)), (1, .int x1), (2, .int x2), (3, .int x3)] → W p l e { frames := 2, cells := 0, slots := 0, locals := 42 } s m args below meth c H locs 0 0 (MQ below (QI bM D cs ad Q) args s 0 0 (fAd bM ad)) (F0 m 57 ls []) := by
    intro n57
    induction n57 with
    | zero =>
      intro x1 x2 x3 σ H locs ls h
      exact h.elim
    | succ n57 ih =>
      have hK57 := ih
      have hB140 : ∀ (x1 : Int32) (x3 : Int32) (t0 : Int32) (t1 : Int32) (σ : Sg) (H : Heap) (locs : List Loc) (ls : Array Slot), p_X6_whose_b140 Q (fun y0 y1 y2 y3 u => p_X6_whose_L57 Q  n57 y0 y1 y2 y3 u) x0 x1 x3 t0 t1 σ → va_P D vwCl (wl bM cs ad σ) H → va_S (fAd bM ad) s.heap H locs → lv_has ls 6 [(0, .ref (ad x0)), (1, .int x1), (3, .int x3)] → W p l e { frames := 2, cells := 0, slots := 0, locals := 42 } s m args below meth c H locs 0 0 (MQ below (QI bM D cs ad Q) args s 0 0 (fAd bM ad)) (F0 m 140 ls [.int t1, .int t0]) := by
        intro x1 x3 t0 t1 σ H locs ls h hP hS hl
        unfold p_X6_whose_b140 at h
        refine lv_ior hx hb dX6_whose_140 ?_
        refine lv_istore_n (i := 2) (lv' := [(2, .int (t0 ||| t1)), (0, .ref (ad x0)), (1, .int x1), (3, .int x3)]) hx hb dX6_whose_141 rfl hl (by decide) (by first | rfl | simp [re_cat, cat_i, cat_l, cat_r]) (fun ls hl => ?_)
        refine lv_iinc (v := x3 + 1) (lv' := [(3, .int (x3 + 1)), (2, .int (t0 ||| t1)), (0, .ref (ad x0)), (1, .int x1)]) hx hb dX6_whose_142 hl (k := 3) rfl rfl (by decide) (by first | rfl | simp [re_cat, cat_i, cat_l, cat_r]) (fun ls hl => ?_)
        refine lv_goto (tgt := 57) hx hb dX6_whose_145 (by decide) ?_
        exact hK57 x1 (t0 ||| t1) (x3 + 1) σ H locs ls h hP hS (lv_sub hl [2, 3, 1, 0] rfl)
      have hB71 : ∀ (n71 : Nat) (x1 : Int32) (x2 : Int32) (x3 : Int32) (x4 : Int32) (x5 : Int32) (σ : Sg) (H : Heap) (locs : List Loc) (ls : Array Slot), p_X6_whose_L71 Q (fun y0 y1 y2 y3 u => p_X6_whose_L57 Q  n57 y0 y1 y2 y3 u) n71 x0 x1 x2 x3 x4 x5 σ → va_P D vwCl (wl bM cs ad σ) H → va_S (fAd bM ad) s.heap H locs → lv_has ls 6 [(0, .ref (ad x0)), (1, .int x1), (2, .int x2), (3, .int x3), (4, .int x4), (5, .int x5)] → W p l e { frames := 2, cells := 0, slots := 0, locals := 42 } s m args below meth c H locs 0 0 (MQ below (QI bM D cs ad Q) args s 0 0 (fAd bM ad)) (F0 m 71 ls []) := by
        intro n71
        induction n71 with
        | zero =>
          intro x1 x2 x3 x4 x5 σ H locs ls h
          exact h.elim
        | succ n71 ih =>
          have hK71 := ih
          have hB119 : ∀ (x1 : Int32) (x2 : Int32) (x3 : Int32) (x5 : Int32) (t0 : Int32) (σ : Sg) (H : Heap) (locs : List Loc) (ls : Array Slot), p_X6_whose_b119 Q (fun y0 y1 y2 y3 y4 y5 u => p_X6_whose_L71 Q (fun y0 y1 y2 y3 u => p_X6_whose_L57 Q  n57 y0 y1 y2 y3 u) n71 y0 y1 y2 y3 y4 y5 u) x0 x1 x2 x3 x5 t0 σ → va_P D vwCl (wl bM cs ad σ) H → va_S (fAd bM ad) s.heap H locs → lv_has ls 6 [(0, .ref (ad x0)), (1, .int x1), (2, .int x2), (3, .int x3), (5, .int x5)] → W p l e { frames := 2, cells := 0, slots := 0, locals := 42 } s m args below meth c H locs 0 0 (MQ below (QI bM D cs ad Q) args s 0 0 (fAd bM ad)) (F0 m 119 ls [.int t0]) := by
            intro x1 x2 x3 x5 t0 σ H locs ls h hP hS hl
            unfold p_X6_whose_b119 at h
            refine lv_istore (i := 4) (lv' := [(4, .int t0), (0, .ref (ad x0)), (1, .int x1), (2, .int x2), (3, .int x3), (5, .int x5)]) hx hb dX6_whose_119 hl (by decide) (by first | rfl | simp [re_cat, cat_i, cat_l, cat_r]) (fun ls hl => ?_)
            refine lv_iinc (v := x5 + 1) (lv' := [(5, .int (x5 + 1)), (4, .int t0), (0, .ref (ad x0)), (1, .int x1), (2, .int x2), (3, .int x3)]) hx hb dX6_whose_121 hl (k := 5) rfl rfl (by decide) (by first | rfl | simp [re_cat, cat_i, cat_l, cat_r]) (fun ls hl => ?_)
            refine lv_goto (tgt := 71) hx hb dX6_whose_124 (by decide) ?_
            exact hK71 x1 x2 x3 t0 (x5 + 1) σ H locs ls h hP hS (lv_sub hl [2, 3, 4, 5, 1, 0] rfl)
          have hB118 : ∀ (x1 : Int32) (x2 : Int32) (x3 : Int32) (x5 : Int32) (σ : Sg) (H : Heap) (locs : List Loc) (ls : Array Slot), p_X6_whose_b118 Q (fun y0 y1 y2 y3 y4 y5 u => p_X6_whose_L71 Q (fun y0 y1 y2 y3 u => p_X6_whose_L57 Q  n57 y0 y1 y2 y3 u) n71 y0 y1 y2 y3 y4 y5 u) x0 x1 x2 x3 x5 σ → va_P D vwCl (wl bM cs ad σ) H → va_S (fAd bM ad) s.heap H locs → lv_has ls 6 [(0, .ref (ad x0)), (1, .int x1), (2, .int x2), (3, .int x3), (5, .int x5)] → W p l e { frames := 2, cells := 0, slots := 0, locals := 42 } s m args below meth c H locs 0 0 (MQ below (QI bM D cs ad Q) args s 0 0 (fAd bM ad)) (F0 m 118 ls []) := by
            intro x1 x2 x3 x5 σ H locs ls h hP hS hl
            unfold p_X6_whose_b118 at h
            refine lv_iconst (v := 0) hx hb dX6_whose_118 (by decide) ?_
            exact hB119 x1 x2 x3 x5 0 σ H locs ls h hP hS (lv_sub hl [0, 1, 2, 3, 4] rfl)
          intro x1 x2 x3 x4 x5 σ H locs ls h hP hS hl
          rw [p_X6_whose_L71] at h
          refine lv_iload hx hb dX6_whose_71 (lv_at hl 5 rfl) ?_
          refine lv_aload_n hx hb dX6_whose_73 rfl (lv_at hl 0 rfl) ?_
          refine va_get (ci := 5) (v := va_re ad (tM x0 6)) (C := RX6) (T := TX6) (N := 42) hx hb hts hi_X6 hown hE.1 hP x0 (w_5 hE hk0) rfl 6 (by decide) (hts (.fieldLink RX6 16 "HemLineModel" "rowSize" "[I") (by decide +kernel)) (fun _ h9 => h9) rfl dX6_whose_74 ?_
          refine lv_iload_n hx hb dX6_whose_77 rfl (lv_at hl 1 rfl) ?_
          obtain ⟨k1, e2, q3, i4, h⟩ := h
          refine r_iald hx hb hE hP e2 q3 i4 dX6_whose_78 ?_
          refine lv_icmp_ge (tgt := 127) hx hb dX6_whose_79 (by decide) (fun c5 => ?_) (fun c5 => ?_)
          · replace h := h.1 c5
            refine lv_iload_n hx hb dX6_whose_127 rfl (lv_at hl 2 rfl) ?_
            refine lv_iload hx hb dX6_whose_128 (lv_at hl 4 rfl) ?_
            refine lv_if_eq (tgt := 139) hx hb dX6_whose_130 (by decide) (fun c6 => ?_) (fun c6 => ?_)
            · replace h := h.1 c6
              refine lv_iconst (v := 0) hx hb dX6_whose_139 (by decide) ?_
              exact hB140 x1 x3 x2 0 σ H locs ls h hP hS (lv_sub hl [0, 1, 3] rfl)
            · replace h := h.2 c6
              refine lv_iconst (v := 1) hx hb dX6_whose_133 (by decide) ?_
              refine lv_iload_n hx hb dX6_whose_134 rfl (lv_at hl 3 rfl) ?_
              refine lv_ishl hx hb dX6_whose_135 ?_
              refine lv_goto (tgt := 140) hx hb dX6_whose_136 (by decide) ?_
              exact hB140 x1 x3 x2 (1 <<< (x3 &&& 31)) σ H locs ls h hP hS (lv_sub hl [0, 1, 3] rfl)
          · replace h := h.2 c5
            refine lv_iload hx hb dX6_whose_82 (lv_at hl 4 rfl) ?_
            refine lv_if_eq (tgt := 118) hx hb dX6_whose_84 (by decide) (fun c7 => ?_) (fun c7 => ?_)
            · replace h := h.1 c7
              exact hB118 x1 x2 x3 x5 σ H locs ls h hP hS (lv_sub hl [0, 1, 2, 3, 5] rfl)
            · replace h := h.2 c7
              refine lv_aload_n hx hb dX6_whose_87 rfl (lv_at hl 0 rfl) ?_
              refine va_get (ci := 5) (v := va_re ad (tM x0 33)) (C := RX6) (T := TX6) (N := 42) hx hb hts hi_X6 hown hE.1 hP x0 (w_5 hE hk0) rfl 33 (by decide) (hts (.fieldLink RX6 71 "HemLineModel" "hems" "[I") (by decide +kernel)) (fun _ h9 => h9) rfl dX6_whose_88 ?_
              refine lv_bipush (v := 6) hx hb dX6_whose_91 (by decide) ?_
              refine lv_iload hx hb dX6_whose_93 (lv_at hl 5 rfl) ?_
              refine lv_imul hx hb dX6_whose_95 ?_
              refine lv_iload_n hx hb dX6_whose_96 rfl (lv_at hl 3 rfl) ?_
              refine lv_iadd hx hb dX6_whose_97 ?_
              obtain ⟨k8, e9, q10, i11, h⟩ := h
              refine r_iald hx hb hE hP e9 q10 i11 dX6_whose_98 ?_
              refine lv_aload_n hx hb dX6_whose_99 rfl (lv_at hl 0 rfl) ?_
              refine va_get (ci := 5) (v := va_re ad (tM x0 5)) (C := RX6) (T := TX6) (N := 42) hx hb hts hi_X6 hown hE.1 hP x0 (w_5 hE hk0) rfl 5 (by decide) (hts (.fieldLink RX6 13 "HemLineModel" "cells" "[I") (by decide +kernel)) (fun _ h9 => h9) rfl dX6_whose_100 ?_
              refine lv_bipush (v := 40) hx hb dX6_whose_103 (by decide) ?_
              refine lv_iload_n hx hb dX6_whose_105 rfl (lv_at hl 1 rfl) ?_
              refine lv_imul hx hb dX6_whose_106 ?_
              refine lv_iload hx hb dX6_whose_107 (lv_at hl 5 rfl) ?_
              refine lv_iadd hx hb dX6_whose_109 ?_
              obtain ⟨k12, e13, q14, i15, h⟩ := h
              refine r_iald hx hb hE hP e13 q14 i15 dX6_whose_110 ?_
              refine lv_icmp_ne (tgt := 118) hx hb dX6_whose_111 (by decide) (fun c16 => ?_) (fun c16 => ?_)
              · replace h := h.2 c16
                exact hB118 x1 x2 x3 x5 σ H locs ls h hP hS (lv_sub hl [0, 1, 2, 3, 5] rfl)
              · replace h := h.1 c16
                refine lv_iconst (v := 1) hx hb dX6_whose_114 (by decide) ?_
                refine lv_goto (tgt := 119) hx hb dX6_whose_115 (by decide) ?_
                exact hB119 x1 x2 x3 x5 1 σ H locs ls h hP hS (lv_sub hl [0, 1, 2, 3, 5] rfl)
      intro x1 x2 x3 σ H locs ls h hP hS hl
      rw [p_X6_whose_L57] at h
      refine lv_iload_n hx hb dX6_whose_57 rfl (lv_at hl 3 rfl) ?_
      refine lv_aload_n hx hb dX6_whose_58 rfl (lv_at hl 0 rfl) ?_
      refine va_get (ci := 5) (v := .int (gI σ x0 20)) (C := RX6) (T := TX6) (N := 42) hx hb hts hi_X6 hown hE.1 hP x0 (w_5 hE hk0) rfl 20 (by decide) (hts (.fieldLink RX6 167 "HemLineModel" "women" "I") (by decide +kernel)) (fun _ h9 => h9) rfl dX6_whose_59 ?_
      refine lv_icmp_ge (tgt := 148) hx hb dX6_whose_62 (by decide) (fun c1 => ?_) (fun c1 => ?_)
      · replace h := h.1 c1
        refine lv_aload_n hx hb dX6_whose_148 rfl (lv_at hl 0 rfl) ?_
        refine lv_aload_n hx hb dX6_whose_149 rfl (lv_at hl 0 rfl) ?_
        refine va_get (ci := 5) (v := va_re ad (tM x0 6)) (C := RX6) (T := TX6) (N := 42) hx hb hts hi_X6 hown hE.1 hP x0 (w_5 hE hk0) rfl 6 (by decide) (hts (.fieldLink RX6 16 "HemLineModel" "rowSize" "[I") (by decide +kernel)) (fun _ h9 => h9) rfl dX6_whose_150 ?_
        refine lv_iload_n hx hb dX6_whose_153 rfl (lv_at hl 1 rfl) ?_
        obtain ⟨k2, e3, q4, i5, h⟩ := h
        refine r_iald hx hb hE hP e3 q4 i5 dX6_whose_154 ?_
        refine lv_aload_n hx hb dX6_whose_155 rfl (lv_at hl 0 rfl) ?_
        refine va_get (ci := 5) (v := .int (gI σ x0 31)) (C := RX6) (T := TX6) (N := 42) hx hb hts hi_X6 hown hE.1 hP x0 (w_5 hE hk0) rfl 31 (by decide) (hts (.fieldLink RX6 185 "HemLineModel" "years" "I") (by decide +kernel)) (fun _ h9 => h9) rfl dX6_whose_156 ?_
        refine lv_icmp_ne (tgt := 166) hx hb dX6_whose_159 (by decide) (fun c6 => ?_) (fun c6 => ?_)
        · replace h := h.2 c6
          refine lv_iconst (v := 0) hx hb dX6_whose_166 (by decide) ?_
          exact hB167 x2 0 σ H locs ls h hP hS (lv_sub hl [0, 2] rfl)
        · replace h := h.1 c6
          refine lv_iload_n hx hb dX6_whose_162 rfl (lv_at hl 2 rfl) ?_
          refine lv_goto (tgt := 167) hx hb dX6_whose_163 (by decide) ?_
          exact hB167 x2 x2 σ H locs ls h hP hS (lv_sub hl [0, 2] rfl)
      · replace h := h.2 c1
        refine lv_iconst (v := 1) hx hb dX6_whose_65 (by decide) ?_
        refine lv_istore (i := 4) (lv' := [(4, .int 1), (0, .ref (ad x0)), (1, .int x1), (2, .int x2), (3, .int x3)]) hx hb dX6_whose_66 hl (by decide) (by first | rfl | simp [re_cat, cat_i, cat_l, cat_r]) (fun ls hl => ?_)
        refine lv_iconst (v := 0) hx hb dX6_whose_68 (by decide) ?_
        refine lv_istore (i := 5) (lv' := [(5, .int 0), (4, .int 1), (0, .ref (ad x0)), (1, .int x1), (2, .int x2), (3, .int x3)]) hx hb dX6_whose_69 hl (by decide) (by first | rfl | simp [re_cat, cat_i, cat_l, cat_r]) (fun ls hl => ?_)
        obtain ⟨n7, h⟩ := h
        exact hB71 n7 x1 x2 x3 1 0 σ H locs ls h hP hS (lv_sub hl [2, 3, 4, 5, 1, 0] rfl)
  unfold p_X6_whose at h
  refine lv_iload_n hx hb dX6_whose_0 rfl (lv_at hl 1 rfl) ?_
  refine f_i (kS (As := [.int x1]) (rest := []) ⟨hx, hb, hml, hown, hts⟩ (c_X6_isRow l D cs ad x1 s0 _) (va_cwS 1 hts gX6_whose_X6_isRow rfl rfl rfl (by decide +kernel) ⟨Nat.le_of_ble_eq_true rfl, Nat.le_of_ble_eq_true rfl⟩) hE hP h rfl hl.1 rfl (by first | exact lv_room (Nat.le_of_ble_eq_true rfl) | (refine lv_room ?_; simp [re_cat, cat_i, cat_l, cat_r])) dX6_whose_1 ⟨Nat.le_refl _, Nat.le_refl _⟩) hS (fun r2 s1 H locs h hP hS => ?_)
  refine lv_if_ne (tgt := 9) hx hb dX6_whose_4 (by decide) (fun c3 => ?_) (fun c3 => ?_)
  · replace h := h.2 c3
    refine lv_aload_n hx hb dX6_whose_9 rfl (lv_at hl 0 rfl) ?_
    refine va_get (ci := 5) (v := .int (gI s1 x0 20)) (C := RX6) (T := TX6) (N := 42) hx hb hts hi_X6 hown hE.1 hP x0 (w_5 hE hk0) rfl 20 (by decide) (hts (.fieldLink RX6 167 "HemLineModel" "women" "I") (by decide +kernel)) (fun _ h9 => h9) rfl dX6_whose_10 ?_
    refine lv_if_ne (tgt := 19) hx hb dX6_whose_13 (by decide) (fun c4 => ?_) (fun c4 => ?_)
    · replace h := h.2 c4
      refine lv_aload_n hx hb dX6_whose_19 rfl (lv_at hl 0 rfl) ?_
      refine va_get (ci := 5) (v := va_re ad (tM x0 6)) (C := RX6) (T := TX6) (N := 42) hx hb hts hi_X6 hown hE.1 hP x0 (w_5 hE hk0) rfl 6 (by decide) (hts (.fieldLink RX6 16 "HemLineModel" "rowSize" "[I") (by decide +kernel)) (fun _ h9 => h9) rfl dX6_whose_20 ?_
      refine lv_iload_n hx hb dX6_whose_23 rfl (lv_at hl 1 rfl) ?_
      obtain ⟨k5, e6, q7, i8, h⟩ := h
      refine r_iald hx hb hE hP e6 q7 i8 dX6_whose_24 ?_
      refine lv_if_ge (tgt := 34) hx hb dX6_whose_25 (by decide) (fun c9 => ?_) (fun c9 => ?_)
      · replace h := h.1 c9
        refine lv_aload_n hx hb dX6_whose_34 rfl (lv_at hl 0 rfl) ?_
        refine va_get (ci := 5) (v := va_re ad (tM x0 6)) (C := RX6) (T := TX6) (N := 42) hx hb hts hi_X6 hown hE.1 hP x0 (w_5 hE hk0) rfl 6 (by decide) (hts (.fieldLink RX6 16 "HemLineModel" "rowSize" "[I") (by decide +kernel)) (fun _ h9 => h9) rfl dX6_whose_35 ?_
        refine lv_iload_n hx hb dX6_whose_38 rfl (lv_at hl 1 rfl) ?_
        obtain ⟨k10, e11, q12, i13, h⟩ := h
        refine r_iald hx hb hE hP e11 q12 i13 dX6_whose_39 ?_
        refine lv_aload_n hx hb dX6_whose_40 rfl (lv_at hl 0 rfl) ?_
        refine va_get (ci := 5) (v := .int (gI s1 x0 31)) (C := RX6) (T := TX6) (N := 42) hx hb hts hi_X6 hown hE.1 hP x0 (w_5 hE hk0) rfl 31 (by decide) (hts (.fieldLink RX6 185 "HemLineModel" "years" "I") (by decide +kernel)) (fun _ h9 => h9) rfl dX6_whose_41 ?_
        refine lv_icmp_le (tgt := 53) hx hb dX6_whose_44 (by decide) (fun c14 => ?_) (fun c14 => ?_)
        · replace h := h.1 c14
          refine lv_iconst (v := 0) hx hb dX6_whose_53 (by decide) ?_
          refine lv_istore_n (i := 2) (lv' := [(2, .int 0), (0, .ref (ad x0)), (1, .int x1)]) hx hb dX6_whose_54 rfl hl (by decide) (by first | rfl | simp [re_cat, cat_i, cat_l, cat_r]) (fun ls hl => ?_)
          refine lv_iconst (v := 0) hx hb dX6_whose_55 (by decide) ?_
          refine lv_istore_n (i := 3) (lv' := [(3, .int 0), (2, .int 0), (0, .ref (ad x0)), (1, .int x1)]) hx hb dX6_whose_56 rfl hl (by decide) (by first | rfl | simp [re_cat, cat_i, cat_l, cat_r]) (fun ls hl => ?_)
          obtain ⟨n15, h⟩ := h
          exact hB57 n15 x1 0 0 s1 _ _ ls h hP hS (lv_sub hl [2, 3, 1, 0] rfl)
        · replace h := h.2 c14
          refine lv_aload_n hx hb dX6_whose_47 rfl (lv_at hl 0 rfl) ?_
          refine lv_iconst (v := 5) hx hb dX6_whose_48 (by decide) ?_
          refine f_i (kV (As := [.int 5]) (rest := []) (o := some x0) rfl ⟨hx, hb, hml, hown, hts⟩ (c_X6_refuse l D cs ad x0 5 s1 _ hk0) (cwV 1 hts gX6_whose_X6_refuse rfl rfl rfl (by decide +kernel) ⟨Nat.le_of_ble_eq_true rfl, Nat.le_of_ble_eq_true rfl⟩) hE hP rfl rfl (w_5 hE hk0) h rfl hl.1 rfl (by first | exact lv_room (Nat.le_of_ble_eq_true rfl) | (refine lv_room ?_; simp [re_cat, cat_i, cat_l, cat_r])) dX6_whose_49 ⟨Nat.le_refl _, Nat.le_refl _⟩) hS (fun r17 s16 H locs h hP hS => ?_)
          exact W.iret hx hb hr (fun t ht hW => ⟨⟨_, _, rfl, h, pw ht hP⟩, hS.F ht⟩) hS.2.2 dX6_whose_52
      · replace h := h.2 c9
        refine lv_aload_n hx hb dX6_whose_28 rfl (lv_at hl 0 rfl) ?_
        refine lv_iconst (v := 1) hx hb dX6_whose_29 (by decide) ?_
        refine f_i (kV (As := [.int 1]) (rest := []) (o := some x0) rfl ⟨hx, hb, hml, hown, hts⟩ (c_X6_refuse l D cs ad x0 1 s1 _ hk0) (cwV 1 hts gX6_whose_X6_refuse rfl rfl rfl (by decide +kernel) ⟨Nat.le_of_ble_eq_true rfl, Nat.le_of_ble_eq_true rfl⟩) hE hP rfl rfl (w_5 hE hk0) h rfl hl.1 rfl (by first | exact lv_room (Nat.le_of_ble_eq_true rfl) | (refine lv_room ?_; simp [re_cat, cat_i, cat_l, cat_r])) dX6_whose_30 ⟨Nat.le_refl _, Nat.le_refl _⟩) hS (fun r19 s18 H locs h hP hS => ?_)
        exact W.iret hx hb hr (fun t ht hW => ⟨⟨_, _, rfl, h, pw ht hP⟩, hS.F ht⟩) hS.2.2 dX6_whose_33
    · replace h := h.1 c4
      refine lv_bipush (v := (-4)) hx hb dX6_whose_16 (by decide) ?_
      exact W.iret hx hb hr (fun t ht hW => ⟨⟨_, _, rfl, h, pw ht hP⟩, hS.F ht⟩) hS.2.2 dX6_whose_18
  · replace h := h.1 c3
    refine lv_iconst (v := (-1)) hx hb dX6_whose_7 (by decide) ?_
    exact W.iret hx hb hr (fun t ht hW => ⟨⟨_, _, rfl, h, pw ht hP⟩, hS.F ht⟩) hS.2.2 dX6_whose_8
def p_X6_wetAll_b63 (Q : Int32 → Sg → Prop) (K5 : Nat → Int32 → Int32 → Int32 → Int32 → Sg → Prop) (x0 : Nat) (x1 : Int32) (x2 : Int32) (x4 : Int32) (t0 : Int32) (t1 : Int32) (s : Sg) : Prop := K5 x0 x1 x2 (t0 + t1) (x4 + 1) s
def p_X6_wetAll_L5 (Q : Int32 → Sg → Prop)  : Nat → Nat → Int32 → Int32 → Int32 → Int32 → Sg → Prop
  | 0, _, _, _, _, _, _ => False
  | n + 1, x0, x1, x2, x3, x4, s => (((gI s x0 20) ≤ x4 → Q x3 s) ∧ (¬ (gI s x0 20) ≤ x4 → ∃ k2, tM x0 27 = some k2 ∧ kM k2 = 7 ∧ vp_in x4 (lM k2) ∧ ((((x2 >>> ((gR s k2 x4.toNatClampNeg) &&& 31)) &&& 1) = 1 → ∃ k7, tM x0 27 = some k7 ∧ kM k7 = 7 ∧ vp_in x4 (lM k7) ∧ ∃ k11, tM x0 29 = some k11 ∧ kM k11 = 7 ∧ vp_in (gR s k7 x4.toNatClampNeg) (lM k11) ∧ ∃ k15, tM x0 27 = some k15 ∧ kM k15 = 7 ∧ vp_in x4 (lM k15) ∧ ∃ k19, tM x0 40 = some k19 ∧ kM k19 = 7 ∧ vp_in (gR s k15 x4.toNatClampNeg) (lM k19) ∧ p_X6_wet x1 ((gR s k11 (gR s k7 x4.toNatClampNeg).toNatClampNeg) + (gR s k19 (gR s k15 x4.toNatClampNeg).toNatClampNeg)) s (fun r24 s23 => p_X6_wetAll_b63 Q (fun y0 y1 y2 y3 y4 u => p_X6_wetAll_L5 Q  n y0 y1 y2 y3 y4 u) x0 x1 x2 x4 x3 r24 s23)) ∧ (¬ ((x2 >>> ((gR s k2 x4.toNatClampNeg) &&& 31)) &&& 1) = 1 → p_X6_wetAll_b63 Q (fun y0 y1 y2 y3 y4 u => p_X6_wetAll_L5 Q  n y0 y1 y2 y3 y4 u) x0 x1 x2 x4 x3 0 s))))
def p_X6_wetAll (x0 : Nat) (x1 : Int32) (x2 : Int32) (s : Sg) (Q : Int32 → Sg → Prop) : Prop := (∃ n1, p_X6_wetAll_L5 Q  n1 x0 x1 x2 0 0 s)
set_option maxHeartbeats 4000000 in
set_option maxRecDepth 100000 in
theorem c_X6_wetAll (l : Launch) (D : va_G) (cs : Cs) (ad : Nat → Nat) (x0 : Nat) (x1 : Int32) (x2 : Int32) (s0 : Sg) (Q : Int32 → Sg → Prop) (hk0 : kM x0 = 5) : Met l yX6_wetAll wsX6_wetAll { frames := 1, cells := 0, slots := 0, locals := 21 } (Pc0 bM D cs ad [.ref (ad x0), .int x1, .int x2] s0 (p_X6_wetAll x0 x1 x2 s0 Q)) (QI bM D cs ad Q) 0 0 (fAd bM ad) := by
  refine Met.ofW (cc := cX6_wetAll) (maxL := 5) (ret := (some .int)) (by decide) rfl ?_
  intro p e s m args below meth c s₁ B0 hml hv
  obtain ⟨ha, hP, hE, h⟩ := hv
  have hx := B0.exec
  have hb := B0.bytes
  have hr := B0.returns
  have hts := atoms_spec (ws := wsX6_wetAll) B0.pre
  have hown : s.vm.findClass RX6 = some m.cls := findClass_of_methodNamed B0.named
  have hlocks := B0.notSynchronized
  have hi_X6 : ∀ w ∈ u_ws RX6 TX6 42, w ∈ wsX6_wetAll := by decide +kernel
  have hS : va_S (fAd bM ad) s.heap s.heap [] := va_S.rf
  have hl := lv_entry ([.ref (ad x0), .int x1, .int x2]) (n := 5) (by first | exact Nat.le_of_ble_eq_true rfl | simp [lg_sl, re_cat, cat_i, cat_l, cat_r])
  rw [show entryFrame m args 5 = entryFrame m ([.ref (ad x0), .int x1, .int x2] : List Value).toArray 5 by rw [ha], lg_entry_eq]
  generalize (lg_sl ([.ref (ad x0), .int x1, .int x2]) ++ List.replicate (5 - (lg_sl ([.ref (ad x0), .int x1, .int x2])).length) Slot.unset).toArray = ls at hl ⊢
  have hl : lv_has ls 5 [(0, .ref (ad x0)), (1, .int x1), (2, .int x2)] := by first | exact hl | simpa [lv_args, re_cat, cat_i, cat_l, cat_r] using hl
  have hB5 : ∀ (n5 : Nat) (x1 : Int32) (x2 : Int32) (x3 : Int32) (x4 : Int32) (σ : Sg) (H : Heap) (locs : List Loc) (ls : Array Slot), p_X6_wetAll_L5 Q  n5 x0 x1 x2 x3 x4 σ → va_P D vwCl (wl bM cs ad σ) H → va_S (fAd bM ad) s.heap H locs → lv_has ls 5 [(0, .ref (ad x0)), (1, .int x1), (2, .int x2), (3, .int x3), (4, .int x4)] → W p l e { frames := 1, cells := 0, slots := 0, locals := 21 } s m args below meth c H locs 0 0 (MQ below (QI bM D cs ad Q) args s 0 0 (fAd bM ad)) (F0 m 5 ls []) := by
    intro n5
    induction n5 with
    | zero =>
      intro x1 x2 x3 x4 σ H locs ls h
      exact h.elim
    | succ n5 ih =>
      have hK5 := ih
      have hB63 : ∀ (x1 : Int32) (x2 : Int32) (x4 : Int32) (t0 : Int32) (t1 : Int32) (σ : Sg) (H : Heap) (locs : List Loc) (ls : Array Slot), p_X6_wetAll_b63 Q (fun y0 y1 y2 y3 y4 u => p_X6_wetAll_L5 Q  n5 y0 y1 y2 y3 y4 u) x0 x1 x2 x4 t0 t1 σ → va_P D vwCl (wl bM cs ad σ) H → va_S (fAd bM ad) s.heap H locs → lv_has ls 5 [(0, .ref (ad x0)), (1, .int x1), (2, .int x2), (4, .int x4)] → W p l e { frames := 1, cells := 0, slots := 0, locals := 21 } s m args below meth c H locs 0 0 (MQ below (QI bM D cs ad Q) args s 0 0 (fAd bM ad)) (F0 m 63 ls [.int t1, .int t0]) := by
        intro x1 x2 x4 t0 t1 σ H locs ls h hP hS hl
        unfold p_X6_wetAll_b63 at h
        refine lv_iadd hx hb dX6_wetAll_63 ?_
        refine lv_istore_n (i := 3) (lv' := [(3, .int (t0 + t1)), (0, .ref (ad x0)), (1, .int x1), (2, .int x2), (4, .int x4)]) hx hb dX6_wetAll_64 rfl hl (by decide) (by first | rfl | simp [re_cat, cat_i, cat_l, cat_r]) (fun ls hl => ?_)
        refine lv_iinc (v := x4 + 1) (lv' := [(4, .int (x4 + 1)), (3, .int (t0 + t1)), (0, .ref (ad x0)), (1, .int x1), (2, .int x2)]) hx hb dX6_wetAll_65 hl (k := 4) rfl rfl (by decide) (by first | rfl | simp [re_cat, cat_i, cat_l, cat_r]) (fun ls hl => ?_)
        refine lv_goto (tgt := 5) hx hb dX6_wetAll_68 (by decide) ?_
        exact hK5 x1 x2 (t0 + t1) (x4 + 1) σ H locs ls h hP hS (lv_sub hl [2, 3, 4, 1, 0] rfl)
      intro x1 x2 x3 x4 σ H locs ls h hP hS hl
      rw [p_X6_wetAll_L5] at h
      refine lv_iload hx hb dX6_wetAll_5 (lv_at hl 4 rfl) ?_
      refine lv_aload_n hx hb dX6_wetAll_7 rfl (lv_at hl 0 rfl) ?_
      refine va_get (ci := 5) (v := .int (gI σ x0 20)) (C := RX6) (T := TX6) (N := 42) hx hb hts hi_X6 hown hE.1 hP x0 (w_5 hE hk0) rfl 20 (by decide) (hts (.fieldLink RX6 167 "HemLineModel" "women" "I") (by decide +kernel)) (fun _ h9 => h9) rfl dX6_wetAll_8 ?_
      refine lv_icmp_ge (tgt := 71) hx hb dX6_wetAll_11 (by decide) (fun c1 => ?_) (fun c1 => ?_)
      · replace h := h.1 c1
        refine lv_iload_n hx hb dX6_wetAll_71 rfl (lv_at hl 3 rfl) ?_
        exact W.iret hx hb hr (fun t ht hW => ⟨⟨_, _, rfl, h, pw ht hP⟩, hS.F ht⟩) hS.2.2 dX6_wetAll_72
      · replace h := h.2 c1
        refine lv_iload_n hx hb dX6_wetAll_14 rfl (lv_at hl 3 rfl) ?_
        refine lv_iload_n hx hb dX6_wetAll_15 rfl (lv_at hl 2 rfl) ?_
        refine lv_aload_n hx hb dX6_wetAll_16 rfl (lv_at hl 0 rfl) ?_
        refine va_get (ci := 5) (v := va_re ad (tM x0 27)) (C := RX6) (T := TX6) (N := 42) hx hb hts hi_X6 hown hE.1 hP x0 (w_5 hE hk0) rfl 27 (by decide) (hts (.fieldLink RX6 59 "HemLineModel" "lives" "[I") (by decide +kernel)) (fun _ h9 => h9) rfl dX6_wetAll_17 ?_
        refine lv_iload hx hb dX6_wetAll_20 (lv_at hl 4 rfl) ?_
        obtain ⟨k2, e3, q4, i5, h⟩ := h
        refine r_iald hx hb hE hP e3 q4 i5 dX6_wetAll_22 ?_
        refine lv_ishr hx hb dX6_wetAll_23 ?_
        refine lv_iconst (v := 1) hx hb dX6_wetAll_24 (by decide) ?_
        refine lv_iand hx hb dX6_wetAll_25 ?_
        refine lv_iconst (v := 1) hx hb dX6_wetAll_26 (by decide) ?_
        refine lv_icmp_ne (tgt := 62) hx hb dX6_wetAll_27 (by decide) (fun c6 => ?_) (fun c6 => ?_)
        · replace h := h.2 c6
          refine lv_iconst (v := 0) hx hb dX6_wetAll_62 (by decide) ?_
          exact hB63 x1 x2 x4 x3 0 σ H locs ls h hP hS (lv_sub hl [0, 1, 2, 4] rfl)
        · replace h := h.1 c6
          refine lv_iload_n hx hb dX6_wetAll_30 rfl (lv_at hl 1 rfl) ?_
          refine lv_aload_n hx hb dX6_wetAll_31 rfl (lv_at hl 0 rfl) ?_
          refine va_get (ci := 5) (v := va_re ad (tM x0 29)) (C := RX6) (T := TX6) (N := 42) hx hb hts hi_X6 hown hE.1 hP x0 (w_5 hE hk0) rfl 29 (by decide) (hts (.fieldLink RX6 65 "HemLineModel" "ground" "[I") (by decide +kernel)) (fun _ h9 => h9) rfl dX6_wetAll_32 ?_
          refine lv_aload_n hx hb dX6_wetAll_35 rfl (lv_at hl 0 rfl) ?_
          refine va_get (ci := 5) (v := va_re ad (tM x0 27)) (C := RX6) (T := TX6) (N := 42) hx hb hts hi_X6 hown hE.1 hP x0 (w_5 hE hk0) rfl 27 (by decide) (hts (.fieldLink RX6 59 "HemLineModel" "lives" "[I") (by decide +kernel)) (fun _ h9 => h9) rfl dX6_wetAll_36 ?_
          refine lv_iload hx hb dX6_wetAll_39 (lv_at hl 4 rfl) ?_
          obtain ⟨k7, e8, q9, i10, h⟩ := h
          refine r_iald hx hb hE hP e8 q9 i10 dX6_wetAll_41 ?_
          obtain ⟨k11, e12, q13, i14, h⟩ := h
          refine r_iald hx hb hE hP e12 q13 i14 dX6_wetAll_42 ?_
          refine lv_aload_n hx hb dX6_wetAll_43 rfl (lv_at hl 0 rfl) ?_
          refine va_get (ci := 5) (v := va_re ad (tM x0 40)) (C := RX6) (T := TX6) (N := 42) hx hb hts hi_X6 hown hE.1 hP x0 (w_5 hE hk0) rfl 40 (by decide) (hts (.fieldLink RX6 89 "HemLineModel" "more" "[I") (by decide +kernel)) (fun _ h9 => h9) rfl dX6_wetAll_44 ?_
          refine lv_aload_n hx hb dX6_wetAll_47 rfl (lv_at hl 0 rfl) ?_
          refine va_get (ci := 5) (v := va_re ad (tM x0 27)) (C := RX6) (T := TX6) (N := 42) hx hb hts hi_X6 hown hE.1 hP x0 (w_5 hE hk0) rfl 27 (by decide) (hts (.fieldLink RX6 59 "HemLineModel" "lives" "[I") (by decide +kernel)) (fun _ h9 => h9) rfl dX6_wetAll_48 ?_
          refine lv_iload hx hb dX6_wetAll_51 (lv_at hl 4 rfl) ?_
          obtain ⟨k15, e16, q17, i18, h⟩ := h
          refine r_iald hx hb hE hP e16 q17 i18 dX6_wetAll_53 ?_
          obtain ⟨k19, e20, q21, i22, h⟩ := h
          refine r_iald hx hb hE hP e20 q21 i22 dX6_wetAll_54 ?_
          refine lv_iadd hx hb dX6_wetAll_55 ?_
          refine f_i (kS (As := [.int x1, .int ((gR σ k11 (gR σ k7 x4.toNatClampNeg).toNatClampNeg) + (gR σ k19 (gR σ k15 x4.toNatClampNeg).toNatClampNeg))]) (rest := [.int x3]) ⟨hx, hb, hml, hown, hts⟩ (c_X6_wet l D cs ad x1 ((gR σ k11 (gR σ k7 x4.toNatClampNeg).toNatClampNeg) + (gR σ k19 (gR σ k15 x4.toNatClampNeg).toNatClampNeg)) σ _) (va_cwS 2 hts gX6_wetAll_X6_wet rfl rfl rfl (by decide +kernel) ⟨Nat.le_of_ble_eq_true rfl, Nat.le_of_ble_eq_true rfl⟩) hE hP h rfl hl.1 rfl (by first | exact lv_room (Nat.le_of_ble_eq_true rfl) | (refine lv_room ?_; simp [re_cat, cat_i, cat_l, cat_r])) dX6_wetAll_56 ⟨Nat.le_refl _, Nat.le_refl _⟩) hS (fun r24 s23 H locs h hP hS => ?_)
          refine lv_goto (tgt := 63) hx hb dX6_wetAll_59 (by decide) ?_
          exact hB63 x1 x2 x4 x3 r24 s23 H locs ls h hP hS (lv_sub hl [0, 1, 2, 4] rfl)
  unfold p_X6_wetAll at h
  refine lv_iconst (v := 0) hx hb dX6_wetAll_0 (by decide) ?_
  refine lv_istore_n (i := 3) (lv' := [(3, .int 0), (0, .ref (ad x0)), (1, .int x1), (2, .int x2)]) hx hb dX6_wetAll_1 rfl hl (by decide) (by first | rfl | simp [re_cat, cat_i, cat_l, cat_r]) (fun ls hl => ?_)
  refine lv_iconst (v := 0) hx hb dX6_wetAll_2 (by decide) ?_
  refine lv_istore (i := 4) (lv' := [(4, .int 0), (3, .int 0), (0, .ref (ad x0)), (1, .int x1), (2, .int x2)]) hx hb dX6_wetAll_3 hl (by decide) (by first | rfl | simp [re_cat, cat_i, cat_l, cat_r]) (fun ls hl => ?_)
  obtain ⟨n1, h⟩ := h
  exact hB5 n1 x1 x2 0 0 s0 _ _ ls h hP hS (lv_sub hl [2, 3, 4, 1, 0] rfl)
