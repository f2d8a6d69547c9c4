def p_X6_in (x0 : Int32) (x1 : Int32) (x2 : Int32) (s : Sg) (Q : Int32 → Sg → Prop) : Prop := ((x0 < x1 → Q 0 s) ∧ (¬ x0 < x1 → ((x2 < x0 → Q 0 s) ∧ (¬ x2 < x0 → Q 1 s))))
set_option maxHeartbeats 4000000 in
set_option maxRecDepth 100000 in
theorem c_X6_in (l : Launch) (D : va_G) (cs : Cs) (ad : Nat → Nat) (x0 : Int32) (x1 : Int32) (x2 : Int32) (s0 : Sg) (Q : Int32 → Sg → Prop) : Met l yX6_in wsX6_in { frames := 0, cells := 0, slots := 0, locals := 0 } (Pc0 bM D cs ad [.int x0, .int x1, .int x2] s0 (p_X6_in x0 x1 x2 s0 Q)) (QI bM D cs ad Q) 0 0 (fAd bM ad) := by
  refine Met.ofW (cc := cX6_in) (maxL := 3) (ret := (some .boolean)) (by decide) rfl ?_
  intro p e s m args below meth c s₁ B0 hml hv
  obtain ⟨ha, hP, hE, h⟩ := hv
  have hx := B0.exec
  have hb := B0.bytes
  have hr := B0.returns
  have hts := atoms_spec (ws := wsX6_in) B0.pre
  have hown : s.vm.findClass RX6 = some m.cls := findClass_of_methodNamed B0.named
  have hlocks := B0.notSynchronized
  have hS : va_S (fAd bM ad) s.heap s.heap [] := va_S.rf
  have hl := lv_entry ([.int x0, .int x1, .int x2]) (n := 3) (by first | exact Nat.le_of_ble_eq_true rfl | simp [lg_sl, re_cat, cat_i, cat_l, cat_r])
  rw [show entryFrame m args 3 = entryFrame m ([.int x0, .int x1, .int x2] : List Value).toArray 3 by rw [ha], lg_entry_eq]
  generalize (lg_sl ([.int x0, .int x1, .int x2]) ++ List.replicate (3 - (lg_sl ([.int x0, .int x1, .int x2])).length) Slot.unset).toArray = ls at hl ⊢
  have hl : lv_has ls 3 [(0, .int x0), (1, .int x1), (2, .int x2)] := by first | exact hl | simpa [lv_args, re_cat, cat_i, cat_l, cat_r] using hl
  unfold p_X6_in at h
  refine lv_iload_n hx hb dX6_in_0 rfl (lv_at hl 0 rfl) ?_
  refine lv_iload_n hx hb dX6_in_1 rfl (lv_at hl 1 rfl) ?_
  refine lv_icmp_lt (tgt := 14) hx hb dX6_in_2 (by decide) (fun c1 => ?_) (fun c1 => ?_)
  · replace h := h.1 c1
    refine lv_iconst (v := 0) hx hb dX6_in_14 (by decide) ?_
    exact W.zret hx hb hr rfl (fun t ht hW => ⟨⟨_, _, rfl, h, pw ht hP⟩, hS.F ht⟩) hS.2.2 dX6_in_15
  · replace h := h.2 c1
    refine lv_iload_n hx hb dX6_in_5 rfl (lv_at hl 0 rfl) ?_
    refine lv_iload_n hx hb dX6_in_6 rfl (lv_at hl 2 rfl) ?_
    refine lv_icmp_gt (tgt := 14) hx hb dX6_in_7 (by decide) (fun c2 => ?_) (fun c2 => ?_)
    · replace h := h.1 c2
      refine lv_iconst (v := 0) hx hb dX6_in_14 (by decide) ?_
      exact W.zret hx hb hr rfl (fun t ht hW => ⟨⟨_, _, rfl, h, pw ht hP⟩, hS.F ht⟩) hS.2.2 dX6_in_15
    · replace h := h.2 c2
      refine lv_iconst (v := 1) hx hb dX6_in_10 (by decide) ?_
      refine lv_goto (tgt := 15) hx hb dX6_in_11 (by decide) ?_
      exact W.zret hx hb hr rfl (fun t ht hW => ⟨⟨_, _, rfl, h, pw ht hP⟩, hS.F ht⟩) hS.2.2 dX6_in_15
def p_X6_refuse (x0 : Nat) (x1 : Int32) (s : Sg) (Q : Int32 → Sg → Prop) : Prop := ∃ k1, tM x0 4 = some k1 ∧ kM k1 = 7 ∧ vp_in x1 (lM k1) ∧ ∃ k5, tM x0 4 = some k5 ∧ kM k5 = 7 ∧ vp_in x1 (lM k5) ∧ Q ((-3)) (setR (setI s x0 3 x1) k5 (upd (gR (setI s x0 3 x1) k5) x1.toNatClampNeg ((gR (setI s x0 3 x1) k1 x1.toNatClampNeg) + 1)))
set_option maxHeartbeats 4000000 in
set_option maxRecDepth 100000 in
theorem c_X6_refuse (l : Launch) (D : va_G) (cs : Cs) (ad : Nat → Nat) (x0 : Nat) (x1 : Int32) (s0 : Sg) (Q : Int32 → Sg → Prop) (hk0 : kM x0 = 5) : Met l yX6_refuse wsX6_refuse { frames := 0, cells := 0, slots := 0, locals := 0 } (Pc0 bM D cs ad [.ref (ad x0), .int x1] s0 (p_X6_refuse x0 x1 s0 Q)) (QI bM D cs ad Q) 0 0 (fAd bM ad) := by
  refine Met.ofW (cc := cX6_refuse) (maxL := 2) (ret := (some .int)) (by decide) rfl ?_
  intro p e s m args below meth c s₁ B0 hml hv
  obtain ⟨ha, hP, hE, h⟩ := hv
  have hx := B0.exec
  have hb := B0.bytes
  have hr := B0.returns
  have hts := atoms_spec (ws := wsX6_refuse) B0.pre
  have hown : s.vm.findClass RX6 = some m.cls := findClass_of_methodNamed B0.named
  have hlocks := B0.notSynchronized
  have hi_X6 : ∀ w ∈ u_ws RX6 TX6 42, w ∈ wsX6_refuse := by decide +kernel
  have hS : va_S (fAd bM ad) s.heap s.heap [] := va_S.rf
  have hl := lv_entry ([.ref (ad x0), .int x1]) (n := 2) (by first | exact Nat.le_of_ble_eq_true rfl | simp [lg_sl, re_cat, cat_i, cat_l, cat_r])
  rw [show entryFrame m args 2 = entryFrame m ([.ref (ad x0), .int x1] : List Value).toArray 2 by rw [ha], lg_entry_eq]
  generalize (lg_sl ([.ref (ad x0), .int x1]) ++ List.replicate (2 - (lg_sl ([.ref (ad x0), .int x1])).length) Slot.unset).toArray = ls at hl ⊢
  have hl : lv_has ls 2 [(0, .ref (ad x0)), (1, .int x1)] := by first | exact hl | simpa [lv_args, re_cat, cat_i, cat_l, cat_r] using hl
  unfold p_X6_refuse at h
  refine lv_aload_n hx hb dX6_refuse_0 rfl (lv_at hl 0 rfl) ?_
  refine lv_iload_n hx hb dX6_refuse_1 rfl (lv_at hl 1 rfl) ?_
  refine r_put (σ' := (setI s0 x0 3 x1)) (ci := 5) (v := .int x1) (ty := .int) (C := RX6) (T := TX6) (N := 42) hx hb hts hi_X6 tyX6 tyX6_ok nmX6 hown hE hP hS x0 (w_5 hE hk0) rfl 3 (by decide) (hts (.fieldLink RX6 99 "HemLineModel" "latest" "I") (by decide +kernel)) (fun _ h9 => h9) rfl (by decide +kernel) rfl rfl (Nat.le_of_ble_eq_true rfl) dX6_refuse_2 (st_5_3 hE hk0 _) (fun H locs hP hS => ?_)
  refine lv_aload_n hx hb dX6_refuse_5 rfl (lv_at hl 0 rfl) ?_
  refine va_get (ci := 5) (v := va_re ad (tM x0 4)) (C := RX6) (T := TX6) (N := 42) hx hb hts hi_X6 hown hE.1 hP x0 (w_5 hE hk0) rfl 4 (by decide) (hts (.fieldLink RX6 7 "HemLineModel" "found" "[I") (by decide +kernel)) (fun _ h9 => h9) rfl dX6_refuse_6 ?_
  refine lv_iload_n hx hb dX6_refuse_9 rfl (lv_at hl 1 rfl) ?_
  refine lv_dup2_11 hx hb dX6_refuse_10 (by first | rfl | exact re_cat _ _) (by first | rfl | exact re_cat _ _) ?_
  obtain ⟨k1, e2, q3, i4, h⟩ := h
  refine r_iald hx hb hE hP e2 q3 i4 dX6_refuse_11 ?_
  refine lv_iconst (v := 1) hx hb dX6_refuse_12 (by decide) ?_
  refine lv_iadd hx hb dX6_refuse_13 ?_
  obtain ⟨k5, e6, q7, i8, h⟩ := h
  refine r_iast hx hb hE hP hS e6 q7 i8 dX6_refuse_14 (fun H locs hP hS => ?_)
  refine lv_bipush (v := (-3)) hx hb dX6_refuse_15 (by decide) ?_
  exact W.iret hx hb hr (fun t ht hW => ⟨⟨_, _, rfl, h, pw ht hP⟩, hS.F ht⟩) hS.2.2 dX6_refuse_17
def p_X6_tellsAsked (x0 : Nat) (x1 : Int32) (s : Sg) (Q : Int32 → Sg → Prop) : Prop := Q 1 (setI s x0 0 x1)
set_option maxHeartbeats 4000000 in
set_option maxRecDepth 100000 in
theorem c_X6_tellsAsked (l : Launch) (D : va_G) (cs : Cs) (ad : Nat → Nat) (x0 : Nat) (x1 : Int32) (s0 : Sg) (Q : Int32 → Sg → Prop) (hk0 : kM x0 = 5) : Met l yX6_tellsAsked wsX6_tellsAsked { frames := 0, cells := 0, slots := 0, locals := 0 } (Pc0 bM D cs ad [.ref (ad x0), .int x1] s0 (p_X6_tellsAsked x0 x1 s0 Q)) (QI bM D cs ad Q) 0 0 (fAd bM ad) := by
  refine Met.ofW (cc := cX6_tellsAsked) (maxL := 2) (ret := (some .int)) (by decide) rfl ?_
  intro p e s m args below meth c s₁ B0 hml hv
  obtain ⟨ha, hP, hE, h⟩ := hv
  have hx := B0.exec
  have hb := B0.bytes
  have hr := B0.returns
  have hts := atoms_spec (ws := wsX6_tellsAsked) B0.pre
  have hown : s.vm.findClass RX6 = some m.cls := findClass_of_methodNamed B0.named
  have hlocks := B0.notSynchronized
  have hi_X6 : ∀ w ∈ u_ws RX6 TX6 42, w ∈ wsX6_tellsAsked := by decide +kernel
  have hS : va_S (fAd bM ad) s.heap s.heap [] := va_S.rf
  have hl := lv_entry ([.ref (ad x0), .int x1]) (n := 2) (by first | exact Nat.le_of_ble_eq_true rfl | simp [lg_sl, re_cat, cat_i, cat_l, cat_r])
  rw [show entryFrame m args 2 = entryFrame m ([.ref (ad x0), .int x1] : List Value).toArray 2 by rw [ha], lg_entry_eq]
  generalize (lg_sl ([.ref (ad x0), .int x1]) ++ List.replicate (2 - (lg_sl ([.ref (ad x0), .int x1])).length) Slot.unset).toArray = ls at hl ⊢
  have hl : lv_has ls 2 [(0, .ref (ad x0)), (1, .int x1)] := by first | exact hl | simpa [lv_args, re_cat, cat_i, cat_l, cat_r] using hl
  unfold p_X6_tellsAsked at h
  refine lv_aload_n hx hb dX6_tellsAsked_0 rfl (lv_at hl 0 rfl) ?_
  refine lv_iload_n hx hb dX6_tellsAsked_1 rfl (lv_at hl 1 rfl) ?_
  refine r_put (σ' := (setI s0 x0 0 x1)) (ci := 5) (v := .int x1) (ty := .int) (C := RX6) (T := TX6) (N := 42) hx hb hts hi_X6 tyX6 tyX6_ok nmX6 hown hE hP hS x0 (w_5 hE hk0) rfl 0 (by decide) (hts (.fieldLink RX6 103 "HemLineModel" "asked" "I") (by decide +kernel)) (fun _ h9 => h9) rfl (by decide +kernel) rfl rfl (Nat.le_of_ble_eq_true rfl) dX6_tellsAsked_2 (st_5_0 hE hk0 _) (fun H locs hP hS => ?_)
  refine lv_iconst (v := 1) hx hb dX6_tellsAsked_5 (by decide) ?_
  exact W.iret hx hb hr (fun t ht hW => ⟨⟨_, _, rfl, h, pw ht hP⟩, hS.F ht⟩) hS.2.2 dX6_tellsAsked_6
def p_X6_tellPart_L6 (Q : Sg → Prop)  : Nat → Nat → Int64 → Int64 → Int64 → Int64 → Sg → Prop
  | 0, _, _, _, _, _, _ => False
  | n + 1, x0, x1, x3, x5, x7, s => (((lg_cmp x7 0) = 0 → ¬ x5 = 0 ∧ ¬ x5 = 0 ∧ Q (setJ (setJ s x0 1 (x1 / x5)) x0 2 (x3 / x5))) ∧ (¬ (lg_cmp x7 0) = 0 → ¬ x7 = 0 ∧ p_X6_tellPart_L6 Q  n x0 x1 x3 x7 (x5 - x5 / x7 * x7) s))
def p_X6_tellPart (x0 : Nat) (x1 : Int64) (x3 : Int64) (s : Sg) (Q : Sg → Prop) : Prop := (∃ n1, p_X6_tellPart_L6 Q  n1 x0 x1 x3 x1 x3 s)
set_option maxHeartbeats 4000000 in
set_option maxRecDepth 100000 in
theorem c_X6_tellPart (l : Launch) (D : va_G) (cs : Cs) (ad : Nat → Nat) (x0 : Nat) (x1 : Int64) (x3 : Int64) (s0 : Sg) (Q : Sg → Prop) (hk0 : kM x0 = 5) : Met l yX6_tellPart wsX6_tellPart { frames := 0, cells := 0, slots := 0, locals := 0 } (Pc0 bM D cs ad [.ref (ad x0), .long x1, .long x3] s0 (p_X6_tellPart x0 x1 x3 s0 Q)) (QV bM D cs ad Q) 0 0 (fAd bM ad) := by
  refine Met.ofW (cc := cX6_tellPart) (maxL := 11) (ret := none) (by decide) rfl ?_
  intro p e s m args below meth c s₁ B0 hml hv
  obtain ⟨ha, hP, hE, h⟩ := hv
  have hx := B0.exec
  have hb := B0.bytes
  have hr := B0.returns
  have hts := atoms_spec (ws := wsX6_tellPart) B0.pre
  have hown : s.vm.findClass RX6 = some m.cls := findClass_of_methodNamed B0.named
  have hlocks := B0.notSynchronized
  have hi_X6 : ∀ w ∈ u_ws RX6 TX6 42, w ∈ wsX6_tellPart := by decide +kernel
  have hS : va_S (fAd bM ad) s.heap s.heap [] := va_S.rf
  have hl := lv_entry ([.ref (ad x0), .long x1, .long x3]) (n := 11) (by first | exact Nat.le_of_ble_eq_true rfl | simp [lg_sl, re_cat, cat_i, cat_l, cat_r])
  rw [show entryFrame m args 11 = entryFrame m ([.ref (ad x0), .long x1, .long x3] : List Value).toArray 11 by rw [ha], lg_entry_eq]
  generalize (lg_sl ([.ref (ad x0), .long x1, .long x3]) ++ List.replicate (11 - (lg_sl ([.ref (ad x0), .long x1, .long x3])).length) Slot.unset).toArray = ls at hl ⊢
  have hl : lv_has ls 11 [(0, .ref (ad x0)), (1, .long x1), (3, .long x3)] := by first | exact hl | simpa [lv_args, re_cat, cat_i, cat_l, cat_r] using hl
  have hB6 : ∀ (n6 : Nat) (x1 : Int64) (x3 : Int64) (x5 : Int64) (x7 : Int64) (σ : Sg) (H : Heap) (locs : List Loc) (ls : Array Slot), p_X6_tellPart_L6 Q  n6 x0 x1 x3 x5 x7 σ → va_P D vwCl (wl bM cs ad σ) H → va_S (fAd bM ad) s.heap H locs → lv_has ls 11 [(0, .ref (ad x0)), (1, .long x1), (3, .long x3), (5, .long x5), (7, .long x7)] → W p l e { frames := 0, cells := 0, slots := 0, locals := 0 } s m args below meth c H locs 0 0 (MQ below (QV bM D cs ad Q) args s 0 0 (fAd bM ad)) (F0 m 6 ls []) := by
    intro n6
    induction n6 with
    | zero =>
      intro x1 x3 x5 x7 σ H locs ls h
      exact h.elim
    | succ n6 ih =>
      have hK6 := ih
      intro x1 x3 x5 x7 σ H locs ls h hP hS hl
      rw [p_X6_tellPart_L6] at h
      refine lv_lload hx hb dX6_tellPart_6 (lv_at hl 4 rfl) ?_
      refine lv_lconst (v := 0) hx hb dX6_tellPart_8 (by decide) ?_
      refine W.lcmp hx hb dX6_tellPart_9 ?_
      refine lv_if_eq (tgt := 31) hx hb dX6_tellPart_10 (by decide) (fun c1 => ?_) (fun c1 => ?_)
      · replace h := h.1 c1
        refine lv_aload_n hx hb dX6_tellPart_31 rfl (lv_at hl 0 rfl) ?_
        refine lv_lload_n hx hb dX6_tellPart_32 rfl (lv_at hl 1 rfl) ?_
        refine lv_lload hx hb dX6_tellPart_33 (lv_at hl 3 rfl) ?_
        obtain ⟨z2, h⟩ := h
        refine lv_ldiv hx hb dX6_tellPart_35 z2 ?_
        refine r_put (σ' := (setJ σ x0 1 (x1 / x5))) (ci := 5) (v := .long (x1 / x5)) (ty := .long) (C := RX6) (T := TX6) (N := 42) hx hb hts hi_X6 tyX6 tyX6_ok nmX6 hown hE hP hS x0 (w_5 hE hk0) rfl 1 (by decide) (hts (.fieldLink RX6 106 "HemLineModel" "up" "J") (by decide +kernel)) (fun _ h9 => h9) rfl (by decide +kernel) rfl rfl (Nat.le_of_ble_eq_true rfl) dX6_tellPart_36 (st_5_1 hE hk0 _) (fun H locs hP hS => ?_)
        refine lv_aload_n hx hb dX6_tellPart_39 rfl (lv_at hl 0 rfl) ?_
        refine lv_lload_n hx hb dX6_tellPart_40 rfl (lv_at hl 2 rfl) ?_
        refine lv_lload hx hb dX6_tellPart_41 (lv_at hl 3 rfl) ?_
        obtain ⟨z3, h⟩ := h
        refine lv_ldiv hx hb dX6_tellPart_43 z3 ?_
        refine r_put (σ' := (setJ (setJ σ x0 1 (x1 / x5)) x0 2 (x3 / x5))) (ci := 5) (v := .long (x3 / x5)) (ty := .long) (C := RX6) (T := TX6) (N := 42) hx hb hts hi_X6 tyX6 tyX6_ok nmX6 hown hE hP hS x0 (w_5 hE hk0) rfl 2 (by decide) (hts (.fieldLink RX6 95 "HemLineModel" "down" "J") (by decide +kernel)) (fun _ h9 => h9) rfl (by decide +kernel) rfl rfl (Nat.le_of_ble_eq_true rfl) dX6_tellPart_44 (st_5_2 hE hk0 _) (fun H locs hP hS => ?_)
        exact W.vret hx hb hr (fun t ht hW => ⟨⟨_, rfl, h, pw ht hP⟩, hS.F ht⟩) hS.2.2 dX6_tellPart_47
      · replace h := h.2 c1
        refine lv_lload hx hb dX6_tellPart_13 (lv_at hl 3 rfl) ?_
        refine lv_lload hx hb dX6_tellPart_15 (lv_at hl 4 rfl) ?_
        obtain ⟨z4, h⟩ := h
        refine lv_lrem hx hb dX6_tellPart_17 z4 ?_
        refine lv_lstore (i := 9) (lv' := [(9, .long (x5 - x5 / x7 * x7)), (0, .ref (ad x0)), (1, .long x1), (3, .long x3), (5, .long x5), (7, .long x7)]) hx hb dX6_tellPart_18 hl (by decide) (by first | rfl | simp [re_cat, cat_i, cat_l, cat_r]) (fun ls hl => ?_)
        refine lv_lload hx hb dX6_tellPart_20 (lv_at hl 5 rfl) ?_
        refine lv_lstore (i := 5) (lv' := [(5, .long x7), (9, .long (x5 - x5 / x7 * x7)), (0, .ref (ad x0)), (1, .long x1), (3, .long x3), (7, .long x7)]) hx hb dX6_tellPart_22 hl (by decide) (by first | rfl | simp [re_cat, cat_i, cat_l, cat_r]) (fun ls hl => ?_)
        refine lv_lload hx hb dX6_tellPart_24 (lv_at hl 1 rfl) ?_
        refine lv_lstore (i := 7) (lv' := [(7, .long (x5 - x5 / x7 * x7)), (5, .long x7), (9, .long (x5 - x5 / x7 * x7)), (0, .ref (ad x0)), (1, .long x1), (3, .long x3)]) hx hb dX6_tellPart_26 hl (by decide) (by first | rfl | simp [re_cat, cat_i, cat_l, cat_r]) (fun ls hl => ?_)
        refine lv_goto (tgt := 6) hx hb dX6_tellPart_28 (by decide) ?_
        exact ih x1 x3 x7 (x5 - x5 / x7 * x7) σ H locs ls h hP hS (lv_sub hl [3, 4, 5, 1, 0] rfl)
  unfold p_X6_tellPart at h
  refine lv_lload_n hx hb dX6_tellPart_0 rfl (lv_at hl 1 rfl) ?_
  refine lv_lstore (i := 5) (lv' := [(5, .long x1), (0, .ref (ad x0)), (1, .long x1), (3, .long x3)]) hx hb dX6_tellPart_1 hl (by decide) (by first | rfl | simp [re_cat, cat_i, cat_l, cat_r]) (fun ls hl => ?_)
  refine lv_lload_n hx hb dX6_tellPart_3 rfl (lv_at hl 3 rfl) ?_
  refine lv_lstore (i := 7) (lv' := [(7, .long x3), (5, .long x1), (0, .ref (ad x0)), (1, .long x1), (3, .long x3)]) hx hb dX6_tellPart_4 hl (by decide) (by first | rfl | simp [re_cat, cat_i, cat_l, cat_r]) (fun ls hl => ?_)
  obtain ⟨n1, h⟩ := h
  exact hB6 n1 x1 x3 x1 x3 s0 _ _ ls h hP hS (lv_sub hl [2, 3, 4, 1, 0] rfl)
def p_X6_isRow (x0 : Int32) (s : Sg) (Q : Int32 → Sg → Prop) : Prop := p_X6_in x0 0 5 s (fun r2 s1 => (r2 = 0 ∨ r2 = 1) ∧ Q r2 s1)
set_option maxHeartbeats 4000000 in
set_option maxRecDepth 100000 in
theorem c_X6_isRow (l : Launch) (D : va_G) (cs : Cs) (ad : Nat → Nat) (x0 : Int32) (s0 : Sg) (Q : Int32 → Sg → Prop) : Met l yX6_isRow wsX6_isRow { frames := 1, cells := 0, slots := 0, locals := 22 } (Pc0 bM D cs ad [.int x0] s0 (p_X6_isRow x0 s0 Q)) (QI bM D cs ad Q) 0 0 (fAd bM ad) := by
  refine Met.ofW (cc := cX6_isRow) (maxL := 1) (ret := (some .boolean)) (by decide) rfl ?_
  intro p e s m args below meth c s₁ B0 hml hv
  obtain ⟨ha, hP, hE, h⟩ := hv
  have hx := B0.exec
  have hb := B0.bytes
  have hr := B0.returns
  have hts := atoms_spec (ws := wsX6_isRow) B0.pre
  have hown : s.vm.findClass RX6 = some m.cls := findClass_of_methodNamed B0.named
  have hlocks := B0.notSynchronized
  have hS : va_S (fAd bM ad) s.heap s.heap [] := va_S.rf
  have hl := lv_entry ([.int x0]) (n := 1) (by first | exact Nat.le_of_ble_eq_true rfl | simp [lg_sl, re_cat, cat_i, cat_l, cat_r])
  rw [show entryFrame m args 1 = entryFrame m ([.int x0] : List Value).toArray 1 by rw [ha], lg_entry_eq]
  generalize (lg_sl ([.int x0]) ++ List.replicate (1 - (lg_sl ([.int x0])).length) Slot.unset).toArray = ls at hl ⊢
  have hl : lv_has ls 1 [(0, .int x0)] := by first | exact hl | simpa [lv_args, re_cat, cat_i, cat_l, cat_r] using hl
  unfold p_X6_isRow at h
  refine lv_iload_n hx hb dX6_isRow_0 rfl (lv_at hl 0 rfl) ?_
  refine lv_iconst (v := 0) hx hb dX6_isRow_1 (by decide) ?_
  refine lv_iconst (v := 5) hx hb dX6_isRow_2 (by decide) ?_
  refine f_i (kS (As := [.int x0, .int 0, .int 5]) (rest := []) ⟨hx, hb, hml, hown, hts⟩ (c_X6_in l D cs ad x0 0 5 s0 _) (va_cwS 3 hts gX6_isRow_X6_in rfl rfl rfl (by decide +kernel) ⟨Nat.le_of_ble_eq_true rfl, Nat.le_of_ble_eq_true rfl⟩) hE hP h rfl hl.1 rfl (by first | exact lv_room (Nat.le_of_ble_eq_true rfl) | (refine lv_room ?_; simp [re_cat, cat_i, cat_l, cat_r])) dX6_isRow_3 ⟨Nat.le_refl _, Nat.le_refl _⟩) hS (fun r2 s1 H locs h hP hS => ?_)
  obtain ⟨z3, h⟩ := h
  exact W.zret hx hb hr (by rcases z3 with z3 | z3 <;> rw [z3] <;> rfl) (fun t ht hW => ⟨⟨_, _, rfl, h, pw ht hP⟩, hS.F ht⟩) hS.2.2 dX6_isRow_6
def p_X6_clearRow_L9 (Q : Sg → Prop)  : Nat → Nat → Int32 → Int32 → Sg → Prop
  | 0, _, _, _, _ => False
  | n + 1, x0, x1, x3, s => ((40 ≤ x3 → Q s) ∧ (¬ 40 ≤ x3 → ∃ k2, tM x0 5 = some k2 ∧ kM k2 = 7 ∧ vp_in ((40 * x1) + x3) (lM k2) ∧ p_X6_clearRow_L9 Q  n x0 x1 (x3 + 1) (setR s k2 (upd (gR s k2) ((40 * x1) + x3).toNatClampNeg 0))))
def p_X6_clearRow (x0 : Nat) (x1 : Int32) (x2 : Int32) (s : Sg) (Q : Sg → Prop) : Prop := ∃ k1, tM x0 6 = some k1 ∧ kM k1 = 7 ∧ vp_in x1 (lM k1) ∧ (∃ n5, p_X6_clearRow_L9 Q  n5 x0 x1 0 (setR s k1 (upd (gR s k1) x1.toNatClampNeg x2)))
set_option maxHeartbeats 4000000 in
set_option maxRecDepth 100000 in
theorem c_X6_clearRow (l : Launch) (D : va_G) (cs : Cs) (ad : Nat → Nat) (x0 : Nat) (x1 : Int32) (x2 : Int32) (s0 : Sg) (Q : Sg → Prop) (hk0 : kM x0 = 5) : Met l yX6_clearRow wsX6_clearRow { frames := 0, cells := 0, slots := 0, locals := 0 } (Pc0 bM D cs ad [.ref (ad x0), .int x1, .int x2] s0 (p_X6_clearRow x0 x1 x2 s0 Q)) (QV bM D cs ad Q) 0 0 (fAd bM ad) := by
  refine Met.ofW (cc := cX6_clearRow) (maxL := 4) (ret := none) (by decide) rfl ?_
  intro p e s m args below meth c s₁ B0 hml hv
  obtain ⟨ha, hP, hE, h⟩ := hv
  have hx := B0.exec
  have hb := B0.bytes
  have hr := B0.returns
  have hts := atoms_spec (ws := wsX6_clearRow) B0.pre
  have hown : s.vm.findClass RX6 = some m.cls := findClass_of_methodNamed B0.named
  have hlocks := B0.notSynchronized
  have hi_X6 : ∀ w ∈ u_ws RX6 TX6 42, w ∈ wsX6_clearRow := by decide +kernel
  have hS : va_S (fAd bM ad) s.heap s.heap [] := va_S.rf
  have hl := lv_entry ([.ref (ad x0), .int x1, .int x2]) (n := 4) (by first | exact Nat.le_of_ble_eq_true rfl | simp [lg_sl, re_cat, cat_i, cat_l, cat_r])
  rw [show entryFrame m args 4 = entryFrame m ([.ref (ad x0), .int x1, .int x2] : List Value).toArray 4 by rw [ha], lg_entry_eq]
  generalize (lg_sl ([.ref (ad x0), .int x1, .int x2]) ++ List.replicate (4 - (lg_sl ([.ref (ad x0), .int x1, .int x2])).length) Slot.unset).toArray = ls at hl ⊢
  have hl : lv_has ls 4 [(0, .ref (ad x0)), (1, .int x1), (2, .int x2)] := by first | exact hl | simpa [lv_args, re_cat, cat_i, cat_l, cat_r] using hl
  have hB9 : ∀ (n9 : Nat) (x1 : Int32) (x3 : Int32) (σ : Sg) (H : Heap) (locs : List Loc) (ls : Array Slot), p_X6_clearRow_L9 Q  n9 x0 x1 x3 σ → va_P D vwCl (wl bM cs ad σ) H → va_S (fAd bM ad) s.heap H locs → lv_has ls 4 [(0, .ref (ad x0)), (1, .int x1), (3, .int x3)] → W p l e { frames := 0, cells := 0, slots := 0, locals := 0 } s m args below meth c H locs 0 0 (MQ below (QV bM D cs ad Q) args s 0 0 (fAd bM ad)) (F0 m 9 ls []) := by
    intro n9
    induction n9 with
    | zero =>
      intro x1 x3 σ H locs ls h
      exact h.elim
    | succ n9 ih =>
      have hK9 := ih
      intro x1 x3 σ H locs ls h hP hS hl
      rw [p_X6_clearRow_L9] at h
      refine lv_iload_n hx hb dX6_clearRow_9 rfl (lv_at hl 2 rfl) ?_
      refine lv_bipush (v := 40) hx hb dX6_clearRow_10 (by decide) ?_
      refine lv_icmp_ge (tgt := 33) hx hb dX6_clearRow_12 (by decide) (fun c1 => ?_) (fun c1 => ?_)
      · replace h := h.1 c1
        exact W.vret hx hb hr (fun t ht hW => ⟨⟨_, rfl, h, pw ht hP⟩, hS.F ht⟩) hS.2.2 dX6_clearRow_33
      · replace h := h.2 c1
        refine lv_aload_n hx hb dX6_clearRow_15 rfl (lv_at hl 0 rfl) ?_
        refine va_get (ci := 5) (v := va_re ad (tM x0 5)) (C := RX6) (T := TX6) (N := 42) hx hb hts hi_X6 hown hE.1 hP x0 (w_5 hE hk0) rfl 5 (by decide) (hts (.fieldLink RX6 13 "HemLineModel" "cells" "[I") (by decide +kernel)) (fun _ h9 => h9) rfl dX6_clearRow_16 ?_
        refine lv_bipush (v := 40) hx hb dX6_clearRow_19 (by decide) ?_
        refine lv_iload_n hx hb dX6_clearRow_21 rfl (lv_at hl 1 rfl) ?_
        refine lv_imul hx hb dX6_clearRow_22 ?_
        refine lv_iload_n hx hb dX6_clearRow_23 rfl (lv_at hl 2 rfl) ?_
        refine lv_iadd hx hb dX6_clearRow_24 ?_
        refine lv_iconst (v := 0) hx hb dX6_clearRow_25 (by decide) ?_
        obtain ⟨k2, e3, q4, i5, h⟩ := h
        refine r_iast hx hb hE hP hS e3 q4 i5 dX6_clearRow_26 (fun H locs hP hS => ?_)
        refine lv_iinc (v := x3 + 1) (lv' := [(3, .int (x3 + 1)), (0, .ref (ad x0)), (1, .int x1)]) hx hb dX6_clearRow_27 hl (k := 2) rfl rfl (by decide) (by first | rfl | simp [re_cat, cat_i, cat_l, cat_r]) (fun ls hl => ?_)
        refine lv_goto (tgt := 9) hx hb dX6_clearRow_30 (by decide) ?_
        exact ih x1 (x3 + 1) (setR σ k2 (upd (gR σ k2) ((40 * x1) + x3).toNatClampNeg 0)) H locs ls h hP hS (lv_sub hl [1, 2, 0] rfl)
  unfold p_X6_clearRow at h
  refine lv_aload_n hx hb dX6_clearRow_0 rfl (lv_at hl 0 rfl) ?_
  refine va_get (ci := 5) (v := va_re ad (tM x0 6)) (C := RX6) (T := TX6) (N := 42) hx hb hts hi_X6 hown hE.1 hP x0 (w_5 hE hk0) rfl 6 (by decide) (hts (.fieldLink RX6 16 "HemLineModel" "rowSize" "[I") (by decide +kernel)) (fun _ h9 => h9) rfl dX6_clearRow_1 ?_
  refine lv_iload_n hx hb dX6_clearRow_4 rfl (lv_at hl 1 rfl) ?_
  refine lv_iload_n hx hb dX6_clearRow_5 rfl (lv_at hl 2 rfl) ?_
  obtain ⟨k1, e2, q3, i4, h⟩ := h
  refine r_iast hx hb hE hP hS e2 q3 i4 dX6_clearRow_6 (fun H locs hP hS => ?_)
  refine lv_iconst (v := 0) hx hb dX6_clearRow_7 (by decide) ?_
  refine lv_istore_n (i := 3) (lv' := [(3, .int 0), (0, .ref (ad x0)), (1, .int x1), (2, .int x2)]) hx hb dX6_clearRow_8 rfl hl (by decide) (by first | rfl | simp [re_cat, cat_i, cat_l, cat_r]) (fun ls hl => ?_)
  obtain ⟨n5, h⟩ := h
  exact hB9 n5 x1 0 (setR s0 k1 (upd (gR s0 k1) x1.toNatClampNeg x2)) _ _ ls h hP hS (lv_sub hl [1, 2, 0] rfl)
def p_X6_row (x0 : Nat) (x1 : Int32) (x2 : Int32) (s : Sg) (Q : Int32 → Sg → Prop) : Prop := p_X6_isRow x1 s (fun r2 s1 => ((r2 = 0 → Q ((-1)) s1) ∧ (¬ r2 = 0 → ((x2 ≤ 40 → ((0 ≤ x2 → p_X6_clearRow x0 x1 x2 s1 (fun s6 => Q x2 s6)) ∧ (¬ 0 ≤ x2 → p_X6_refuse x0 5 s1 (fun r8 s7 => Q r8 s7)))) ∧ (¬ x2 ≤ 40 → Q ((-1)) s1)))))
set_option maxHeartbeats 4000000 in
set_option maxRecDepth 100000 in
theorem c_X6_row (l : Launch) (D : va_G) (cs : Cs) (ad : Nat → Nat) (x0 : Nat) (x1 : Int32) (x2 : Int32) (s0 : Sg) (Q : Int32 → Sg → Prop) (hk0 : kM x0 = 5) : Met l yX6_row wsX6_row { frames := 2, cells := 0, slots := 0, locals := 42 } (Pc0 bM D cs ad [.ref (ad x0), .int x1, .int x2] s0 (p_X6_row x0 x1 x2 s0 Q)) (QI bM D cs ad Q) 0 0 (fAd bM ad) := by
  refine Met.ofW (cc := cX6_row) (maxL := 3) (ret := (some .int)) (by decide) rfl ?_
  intro p e s m args below meth c s₁ B0 hml hv
  obtain ⟨ha, hP, hE, h⟩ := hv
  have hx := B0.exec
  have hb := B0.bytes
  have hr := B0.returns
  have hts := atoms_spec (ws := wsX6_row) B0.pre
  have hown : s.vm.findClass RX6 = some m.cls := findClass_of_methodNamed B0.named
  have hlocks := B0.notSynchronized
  have hS : va_S (fAd bM ad) s.heap s.heap [] := va_S.rf
  have hl := lv_entry ([.ref (ad x0), .int x1, .int x2]) (n := 3) (by first | exact Nat.le_of_ble_eq_true rfl | simp [lg_sl, re_cat, cat_i, cat_l, cat_r])
  rw [show entryFrame m args 3 = entryFrame m ([.ref (ad x0), .int x1, .int x2] : List Value).toArray 3 by rw [ha], lg_entry_eq]
  generalize (lg_sl ([.ref (ad x0), .int x1, .int x2]) ++ List.replicate (3 - (lg_sl ([.ref (ad x0), .int x1, .int x2])).length) Slot.unset).toArray = ls at hl ⊢
  have hl : lv_has ls 3 [(0, .ref (ad x0)), (1, .int x1), (2, .int x2)] := by first | exact hl | simpa [lv_args, re_cat, cat_i, cat_l, cat_r] using hl
  unfold p_X6_row at h
  refine lv_iload_n hx hb dX6_row_0 rfl (lv_at hl 1 rfl) ?_
  refine f_i (kS (As := [.int x1]) (rest := []) ⟨hx, hb, hml, hown, hts⟩ (c_X6_isRow l D cs ad x1 s0 _) (va_cwS 1 hts gX6_row_X6_isRow rfl rfl rfl (by decide +kernel) ⟨Nat.le_of_ble_eq_true rfl, Nat.le_of_ble_eq_true rfl⟩) hE hP h rfl hl.1 rfl (by first | exact lv_room (Nat.le_of_ble_eq_true rfl) | (refine lv_room ?_; simp [re_cat, cat_i, cat_l, cat_r])) dX6_row_1 ⟨Nat.le_refl _, Nat.le_refl _⟩) hS (fun r2 s1 H locs h hP hS => ?_)
  refine lv_if_eq (tgt := 13) hx hb dX6_row_4 (by decide) (fun c3 => ?_) (fun c3 => ?_)
  · replace h := h.1 c3
    refine lv_iconst (v := (-1)) hx hb dX6_row_13 (by decide) ?_
    exact W.iret hx hb hr (fun t ht hW => ⟨⟨_, _, rfl, h, pw ht hP⟩, hS.F ht⟩) hS.2.2 dX6_row_14
  · replace h := h.2 c3
    refine lv_iload_n hx hb dX6_row_7 rfl (lv_at hl 2 rfl) ?_
    refine lv_bipush (v := 40) hx hb dX6_row_8 (by decide) ?_
    refine lv_icmp_le (tgt := 15) hx hb dX6_row_10 (by decide) (fun c4 => ?_) (fun c4 => ?_)
    · replace h := h.1 c4
      refine lv_iload_n hx hb dX6_row_15 rfl (lv_at hl 2 rfl) ?_
      refine lv_if_ge (tgt := 25) hx hb dX6_row_16 (by decide) (fun c5 => ?_) (fun c5 => ?_)
      · replace h := h.1 c5
        refine lv_aload_n hx hb dX6_row_25 rfl (lv_at hl 0 rfl) ?_
        refine lv_iload_n hx hb dX6_row_26 rfl (lv_at hl 1 rfl) ?_
        refine lv_iload_n hx hb dX6_row_27 rfl (lv_at hl 2 rfl) ?_
        refine f_v (kV (As := [.int x1, .int x2]) (rest := []) (o := some x0) rfl ⟨hx, hb, hml, hown, hts⟩ (c_X6_clearRow l D cs ad x0 x1 x2 s1 _ hk0) (cwV 2 hts gX6_row_X6_clearRow rfl rfl rfl (by decide +kernel) ⟨Nat.le_of_ble_eq_true rfl, Nat.le_of_ble_eq_true rfl⟩) hE hP rfl rfl (w_5 hE hk0) h rfl hl.1 rfl (by first | exact lv_room (Nat.le_of_ble_eq_true rfl) | (refine lv_room ?_; simp [re_cat, cat_i, cat_l, cat_r])) dX6_row_28 ⟨Nat.le_refl _, Nat.le_refl _⟩) hS (fun s6 H locs h hP hS => ?_)
        refine lv_iload_n hx hb dX6_row_31 rfl (lv_at hl 2 rfl) ?_
        exact W.iret hx hb hr (fun t ht hW => ⟨⟨_, _, rfl, h, pw ht hP⟩, hS.F ht⟩) hS.2.2 dX6_row_32
      · replace h := h.2 c5
        refine lv_aload_n hx hb dX6_row_19 rfl (lv_at hl 0 rfl) ?_
        refine lv_iconst (v := 5) hx hb dX6_row_20 (by decide) ?_
        refine f_i (kV (As := [.int 5]) (rest := []) (o := some x0) rfl ⟨hx, hb, hml, hown, hts⟩ (c_X6_refuse l D cs ad x0 5 s1 _ hk0) (cwV 1 hts gX6_row_X6_refuse rfl rfl rfl (by decide +kernel) ⟨Nat.le_of_ble_eq_true rfl, Nat.le_of_ble_eq_true rfl⟩) hE hP rfl rfl (w_5 hE hk0) h rfl hl.1 rfl (by first | exact lv_room (Nat.le_of_ble_eq_true rfl) | (refine lv_room ?_; simp [re_cat, cat_i, cat_l, cat_r])) dX6_row_21 ⟨Nat.le_refl _, Nat.le_refl _⟩) hS (fun r8 s7 H locs h hP hS => ?_)
        exact W.iret hx hb hr (fun t ht hW => ⟨⟨_, _, rfl, h, pw ht hP⟩, hS.F ht⟩) hS.2.2 dX6_row_24
    · replace h := h.2 c4
      refine lv_iconst (v := (-1)) hx hb dX6_row_13 (by decide) ?_
      exact W.iret hx hb hr (fun t ht hW => ⟨⟨_, _, rfl, h, pw ht hP⟩, hS.F ht⟩) hS.2.2 dX6_row_14
def p_X6_lay (x0 : Nat) (x1 : Int32) (x2 : Int32) (x3 : Int32) (s : Sg) (Q : Int32 → Sg → Prop) : Prop := p_X6_isRow x1 s (fun r2 s1 => ((r2 = 0 → Q ((-1)) s1) ∧ (¬ r2 = 0 → ∃ k4, tM x0 6 = some k4 ∧ kM k4 = 7 ∧ vp_in x1 (lM k4) ∧ ((0 ≤ (gR s1 k4 x1.toNatClampNeg) → ∃ k9, tM x0 6 = some k9 ∧ kM k9 = 7 ∧ vp_in x1 (lM k9) ∧ p_X6_in x2 0 ((gR s1 k9 x1.toNatClampNeg) - 1) s1 (fun r14 s13 => ((r14 = 0 → p_X6_refuse x0 2 s13 (fun r27 s26 => Q r27 s26)) ∧ (¬ r14 = 0 → ∃ k16, tM x0 5 = some k16 ∧ kM k16 = 7 ∧ vp_in ((40 * x1) + x2) (lM k16) ∧ ∃ k20, tM x0 5 = some k20 ∧ kM k20 = 7 ∧ vp_in ((40 * x1) + x2) (lM k20) ∧ p_X6_tellsAsked x0 (gR s13 k16 ((40 * x1) + x2).toNatClampNeg) (setR s13 k20 (upd (gR s13 k20) ((40 * x1) + x2).toNatClampNeg x3)) (fun r25 s24 => Q r25 s24))))) ∧ (¬ 0 ≤ (gR s1 k4 x1.toNatClampNeg) → p_X6_refuse x0 1 s1 (fun r29 s28 => Q r29 s28))))))
set_option maxHeartbeats 4000000 in
set_option maxRecDepth 100000 in
theorem c_X6_lay (l : Launch) (D : va_G) (cs : Cs) (ad : Nat → Nat) (x0 : Nat) (x1 : Int32) (x2 : Int32) (x3 : Int32) (s0 : Sg) (Q : Int32 → Sg → Prop) (hk0 : kM x0 = 5) : Met l yX6_lay wsX6_lay { frames := 2, cells := 0, slots := 0, locals := 42 } (Pc0 bM D cs ad [.ref (ad x0), .int x1, .int x2, .int x3] s0 (p_X6_lay x0 x1 x2 x3 s0 Q)) (QI bM D cs ad Q) 0 0 (fAd bM ad) := by
  refine Met.ofW (cc := cX6_lay) (maxL := 5) (ret := (some .int)) (by decide) rfl ?_
  intro p e s m args below meth c s₁ B0 hml hv
  obtain ⟨ha, hP, hE, h⟩ := hv
  have hx := B0.exec
  have hb := B0.bytes
  have hr := B0.returns
  have hts := atoms_spec (ws := wsX6_lay) B0.pre
  have hown : s.vm.findClass RX6 = some m.cls := findClass_of_methodNamed B0.named
  have hlocks := B0.notSynchronized
  have hi_X6 : ∀ w ∈ u_ws RX6 TX6 42, w ∈ wsX6_lay := by decide +kernel
  have hS : va_S (fAd bM ad) s.heap s.heap [] := va_S.rf
  have hl := lv_entry ([.ref (ad x0), .int x1, .int x2, .int x3]) (n := 5) (by first | exact Nat.le_of_ble_eq_true rfl | simp [lg_sl, re_cat, cat_i, cat_l, cat_r])
  rw [show entryFrame m args 5 = entryFrame m ([.ref (ad x0), .int x1, .int x2, .int x3] : List Value).toArray 5 by rw [ha], lg_entry_eq]
  generalize (lg_sl ([.ref (ad x0), .int x1, .int x2, .int x3]) ++ List.replicate (5 - (lg_sl ([.ref (ad x0), .int x1, .int x2, .int x3])).length) Slot.unset).toArray = ls at hl ⊢
  have hl : lv_has ls 5 [(0, .ref (ad x0)), (1, .int x1), (2, .int x2), (3, .int x3)] := by first | exact hl | simpa [lv_args, re_cat, cat_i, cat_l, cat_r] using hl
  unfold p_X6_lay at h
  refine lv_iload_n hx hb dX6_lay_0 rfl (lv_at hl 1 rfl) ?_
  refine f_i (kS (As := [.int x1]) (rest := []) ⟨hx, hb, hml, hown, hts⟩ (c_X6_isRow l D cs ad x1 s0 _) (va_cwS 1 hts gX6_lay_X6_isRow rfl rfl rfl (by decide +kernel) ⟨Nat.le_of_ble_eq_true rfl, Nat.le_of_ble_eq_true rfl⟩) hE hP h rfl hl.1 rfl (by first | exact lv_room (Nat.le_of_ble_eq_true rfl) | (refine lv_room ?_; simp [re_cat, cat_i, cat_l, cat_r])) dX6_lay_1 ⟨Nat.le_refl _, Nat.le_refl _⟩) hS (fun r2 s1 H locs h hP hS => ?_)
  refine lv_if_ne (tgt := 9) hx hb dX6_lay_4 (by decide) (fun c3 => ?_) (fun c3 => ?_)
  · replace h := h.2 c3
    refine lv_aload_n hx hb dX6_lay_9 rfl (lv_at hl 0 rfl) ?_
    refine va_get (ci := 5) (v := va_re ad (tM x0 6)) (C := RX6) (T := TX6) (N := 42) hx hb hts hi_X6 hown hE.1 hP x0 (w_5 hE hk0) rfl 6 (by decide) (hts (.fieldLink RX6 16 "HemLineModel" "rowSize" "[I") (by decide +kernel)) (fun _ h9 => h9) rfl dX6_lay_10 ?_
    refine lv_iload_n hx hb dX6_lay_13 rfl (lv_at hl 1 rfl) ?_
    obtain ⟨k4, e5, q6, i7, h⟩ := h
    refine r_iald hx hb hE hP e5 q6 i7 dX6_lay_14 ?_
    refine lv_if_ge (tgt := 24) hx hb dX6_lay_15 (by decide) (fun c8 => ?_) (fun c8 => ?_)
    · replace h := h.1 c8
      refine lv_iload_n hx hb dX6_lay_24 rfl (lv_at hl 2 rfl) ?_
      refine lv_iconst (v := 0) hx hb dX6_lay_25 (by decide) ?_
      refine lv_aload_n hx hb dX6_lay_26 rfl (lv_at hl 0 rfl) ?_
      refine va_get (ci := 5) (v := va_re ad (tM x0 6)) (C := RX6) (T := TX6) (N := 42) hx hb hts hi_X6 hown hE.1 hP x0 (w_5 hE hk0) rfl 6 (by decide) (hts (.fieldLink RX6 16 "HemLineModel" "rowSize" "[I") (by decide +kernel)) (fun _ h9 => h9) rfl dX6_lay_27 ?_
      refine lv_iload_n hx hb dX6_lay_30 rfl (lv_at hl 1 rfl) ?_
      obtain ⟨k9, e10, q11, i12, h⟩ := h
      refine r_iald hx hb hE hP e10 q11 i12 dX6_lay_31 ?_
      refine lv_iconst (v := 1) hx hb dX6_lay_32 (by decide) ?_
      refine lv_isub hx hb dX6_lay_33 ?_
      refine f_i (kS (As := [.int x2, .int 0, .int ((gR s1 k9 x1.toNatClampNeg) - 1)]) (rest := []) ⟨hx, hb, hml, hown, hts⟩ (c_X6_in l D cs ad x2 0 ((gR s1 k9 x1.toNatClampNeg) - 1) s1 _) (va_cwS 3 hts gX6_lay_X6_in rfl rfl rfl (by decide +kernel) ⟨Nat.le_of_ble_eq_true rfl, Nat.le_of_ble_eq_true rfl⟩) hE hP h rfl hl.1 rfl (by first | exact lv_room (Nat.le_of_ble_eq_true rfl) | (refine lv_room ?_; simp [re_cat, cat_i, cat_l, cat_r])) dX6_lay_34 ⟨Nat.le_refl _, Nat.le_refl _⟩) hS (fun r14 s13 H locs h hP hS => ?_)
      refine lv_if_ne (tgt := 46) hx hb dX6_lay_37 (by decide) (fun c15 => ?_) (fun c15 => ?_)
      · replace h := h.2 c15
        refine lv_aload_n hx hb dX6_lay_46 rfl (lv_at hl 0 rfl) ?_
        refine va_get (ci := 5) (v := va_re ad (tM x0 5)) (C := RX6) (T := TX6) (N := 42) hx hb hts hi_X6 hown hE.1 hP x0 (w_5 hE hk0) rfl 5 (by decide) (hts (.fieldLink RX6 13 "HemLineModel" "cells" "[I") (by decide +kernel)) (fun _ h9 => h9) rfl dX6_lay_47 ?_
        refine lv_bipush (v := 40) hx hb dX6_lay_50 (by decide) ?_
        refine lv_iload_n hx hb dX6_lay_52 rfl (lv_at hl 1 rfl) ?_
        refine lv_imul hx hb dX6_lay_53 ?_
        refine lv_iload_n hx hb dX6_lay_54 rfl (lv_at hl 2 rfl) ?_
        refine lv_iadd hx hb dX6_lay_55 ?_
        obtain ⟨k16, e17, q18, i19, h⟩ := h
        refine r_iald hx hb hE hP e17 q18 i19 dX6_lay_56 ?_
        refine lv_istore (i := 4) (lv' := [(4, .int (gR s13 k16 ((40 * x1) + x2).toNatClampNeg)), (0, .ref (ad x0)), (1, .int x1), (2, .int x2), (3, .int x3)]) hx hb dX6_lay_57 hl (by decide) (by first | rfl | simp [re_cat, cat_i, cat_l, cat_r]) (fun ls hl => ?_)
        refine lv_aload_n hx hb dX6_lay_59 rfl (lv_at hl 1 rfl) ?_
        refine va_get (ci := 5) (v := va_re ad (tM x0 5)) (C := RX6) (T := TX6) (N := 42) hx hb hts hi_X6 hown hE.1 hP x0 (w_5 hE hk0) rfl 5 (by decide) (hts (.fieldLink RX6 13 "HemLineModel" "cells" "[I") (by decide +kernel)) (fun _ h9 => h9) rfl dX6_lay_60 ?_
        refine lv_bipush (v := 40) hx hb dX6_lay_63 (by decide) ?_
        refine lv_iload_n hx hb dX6_lay_65 rfl (lv_at hl 2 rfl) ?_
        refine lv_imul hx hb dX6_lay_66 ?_
        refine lv_iload_n hx hb dX6_lay_67 rfl (lv_at hl 3 rfl) ?_
        refine lv_iadd hx hb dX6_lay_68 ?_
        refine lv_iload_n hx hb dX6_lay_69 rfl (lv_at hl 4 rfl) ?_
        obtain ⟨k20, e21, q22, i23, h⟩ := h
        refine r_iast hx hb hE hP hS e21 q22 i23 dX6_lay_70 (fun H locs hP hS => ?_)
        refine lv_aload_n hx hb dX6_lay_71 rfl (lv_at hl 1 rfl) ?_
        refine lv_iload hx hb dX6_lay_72 (lv_at hl 0 rfl) ?_
        refine f_i (kV (As := [.int (gR s13 k16 ((40 * x1) + x2).toNatClampNeg)]) (rest := []) (o := some x0) rfl ⟨hx, hb, hml, hown, hts⟩ (c_X6_tellsAsked l D cs ad x0 (gR s13 k16 ((40 * x1) + x2).toNatClampNeg) (setR s13 k20 (upd (gR s13 k20) ((40 * x1) + x2).toNatClampNeg x3)) _ hk0) (cwV 1 hts gX6_lay_X6_tellsAsked rfl rfl rfl (by decide +kernel) ⟨Nat.le_of_ble_eq_true rfl, Nat.le_of_ble_eq_true rfl⟩) hE hP rfl rfl (w_5 hE hk0) h rfl hl.1 rfl (by first | exact lv_room (Nat.le_of_ble_eq_true rfl) | (refine lv_room ?_; simp [re_cat, cat_i, cat_l, cat_r])) dX6_lay_74 ⟨Nat.le_refl _, Nat.le_refl _⟩) hS (fun r25 s24 H locs h hP hS => ?_)
        exact W.iret hx hb hr (fun t ht hW => ⟨⟨_, _, rfl, h, pw ht hP⟩, hS.F ht⟩) hS.2.2 dX6_lay_77
      · replace h := h.1 c15
        refine lv_aload_n hx hb dX6_lay_40 rfl (lv_at hl 0 rfl) ?_
        refine lv_iconst (v := 2) hx hb dX6_lay_41 (by decide) ?_
        refine f_i (kV (As := [.int 2]) (rest := []) (o := some x0) rfl ⟨hx, hb, hml, hown, hts⟩ (c_X6_refuse l D cs ad x0 2 s13 _ hk0) (cwV 1 hts gX6_lay_X6_refuse rfl rfl rfl (by decide +kernel) ⟨Nat.le_of_ble_eq_true rfl, Nat.le_of_ble_eq_true rfl⟩) hE hP rfl rfl (w_5 hE hk0) h rfl hl.1 rfl (by first | exact lv_room (Nat.le_of_ble_eq_true rfl) | (refine lv_room ?_; simp [re_cat, cat_i, cat_l, cat_r])) dX6_lay_42 ⟨Nat.le_refl _, Nat.le_refl _⟩) hS (fun r27 s26 H locs h hP hS => ?_)
        exact W.iret hx hb hr (fun t ht hW => ⟨⟨_, _, rfl, h, pw ht hP⟩, hS.F ht⟩) hS.2.2 dX6_lay_45
    · replace h := h.2 c8
      refine lv_aload_n hx hb dX6_lay_18 rfl (lv_at hl 0 rfl) ?_
      refine lv_iconst (v := 1) hx hb dX6_lay_19 (by decide) ?_
      refine f_i (kV (As := [.int 1]) (rest := []) (o := some x0) rfl ⟨hx, hb, hml, hown, hts⟩ (c_X6_refuse l D cs ad x0 1 s1 _ hk0) (cwV 1 hts gX6_lay_X6_refuse rfl rfl rfl (by decide +kernel) ⟨Nat.le_of_ble_eq_true rfl, Nat.le_of_ble_eq_true rfl⟩) hE hP rfl rfl (w_5 hE hk0) h rfl hl.1 rfl (by first | exact lv_room (Nat.le_of_ble_eq_true rfl) | (refine lv_room ?_; simp [re_cat, cat_i, cat_l, cat_r])) dX6_lay_20 ⟨Nat.le_refl _, Nat.le_refl _⟩) hS (fun r29 s28 H locs h hP hS => ?_)
      exact W.iret hx hb hr (fun t ht hW => ⟨⟨_, _, rfl, h, pw ht hP⟩, hS.F ht⟩) hS.2.2 dX6_lay_23
  · replace h := h.1 c3
    refine lv_iconst (v := (-1)) hx hb dX6_lay_7 (by decide) ?_
    exact W.iret hx hb hr (fun t ht hW => ⟨⟨_, _, rfl, h, pw ht hP⟩, hS.F ht⟩) hS.2.2 dX6_lay_8
def p_X6_at (x0 : Nat) (x1 : Int32) (x2 : Int32) (s : Sg) (Q : Int32 → Sg → Prop) : Prop := p_X6_isRow x1 s (fun r2 s1 => ((r2 = 0 → Q ((-1)) s1) ∧ (¬ r2 = 0 → ∃ k4, tM x0 6 = some k4 ∧ kM k4 = 7 ∧ vp_in x1 (lM k4) ∧ ((0 ≤ (gR s1 k4 x1.toNatClampNeg) → ∃ k9, tM x0 6 = some k9 ∧ kM k9 = 7 ∧ vp_in x1 (lM k9) ∧ p_X6_in x2 0 ((gR s1 k9 x1.toNatClampNeg) - 1) s1 (fun r14 s13 => ((r14 = 0 → p_X6_refuse x0 2 s13 (fun r23 s22 => Q r23 s22)) ∧ (¬ r14 = 0 → ∃ k16, tM x0 5 = some k16 ∧ kM k16 = 7 ∧ vp_in ((40 * x1) + x2) (lM k16) ∧ p_X6_tellsAsked x0 (gR s13 k16 ((40 * x1) + x2).toNatClampNeg) s13 (fun r21 s20 => Q r21 s20))))) ∧ (¬ 0 ≤ (gR s1 k4 x1.toNatClampNeg) → p_X6_refuse x0 1 s1 (fun r25 s24 => Q r25 s24))))))
set_option maxHeartbeats 4000000 in
set_option maxRecDepth 100000 in
theorem c_X6_at (l : Launch) (D : va_G) (cs : Cs) (ad : Nat → Nat) (x0 : Nat) (x1 : Int32) (x2 : Int32) (s0 : Sg) (Q : Int32 → Sg → Prop) (hk0 : kM x0 = 5) : Met l yX6_at wsX6_at { frames := 2, cells := 0, slots := 0, locals := 42 } (Pc0 bM D cs ad [.ref (ad x0), .int x1, .int x2] s0 (p_X6_at x0 x1 x2 s0 Q)) (QI bM D cs ad Q) 0 0 (fAd bM ad) := by
  refine Met.ofW (cc := cX6_at) (maxL := 3) (ret := (some .int)) (by decide) rfl ?_
  intro p e s m args below meth c s₁ B0 hml hv
  obtain ⟨ha, hP, hE, h⟩ := hv
  have hx := B0.exec
  have hb := B0.bytes
  have hr := B0.returns
  have hts := atoms_spec (ws := wsX6_at) B0.pre
  have hown : s.vm.findClass RX6 = some m.cls := findClass_of_methodNamed B0.named
  have hlocks := B0.notSynchronized
  have hi_X6 : ∀ w ∈ u_ws RX6 TX6 42, w ∈ wsX6_at := by decide +kernel
  have hS : va_S (fAd bM ad) s.heap s.heap [] := va_S.rf
  have hl := lv_entry ([.ref (ad x0), .int x1, .int x2]) (n := 3) (by first | exact Nat.le_of_ble_eq_true rfl | simp [lg_sl, re_cat, cat_i, cat_l, cat_r])
  rw [show entryFrame m args 3 = entryFrame m ([.ref (ad x0), .int x1, .int x2] : List Value).toArray 3 by rw [ha], lg_entry_eq]
  generalize (lg_sl ([.ref (ad x0), .int x1, .int x2]) ++ List.replicate (3 - (lg_sl ([.ref (ad x0), .int x1, .int x2])).length) Slot.unset).toArray = ls at hl ⊢
  have hl : lv_has ls 3 [(0, .ref (ad x0)), (1, .int x1), (2, .int x2)] := by first | exact hl | simpa [lv_args, re_cat, cat_i, cat_l, cat_r] using hl
  unfold p_X6_at at h
  refine lv_iload_n hx hb dX6_at_0 rfl (lv_at hl 1 rfl) ?_
  refine f_i (kS (As := [.int x1]) (rest := []) ⟨hx, hb, hml, hown, hts⟩ (c_X6_isRow l D cs ad x1 s0 _) (va_cwS 1 hts gX6_at_X6_isRow rfl rfl rfl (by decide +kernel) ⟨Nat.le_of_ble_eq_true rfl, Nat.le_of_ble_eq_true rfl⟩) hE hP h rfl hl.1 rfl (by first | exact lv_room (Nat.le_of_ble_eq_true rfl) | (refine lv_room ?_; simp [re_cat, cat_i, cat_l, cat_r])) dX6_at_1 ⟨Nat.le_refl _, Nat.le_refl _⟩) hS (fun r2 s1 H locs h hP hS => ?_)
  refine lv_if_ne (tgt := 9) hx hb dX6_at_4 (by decide) (fun c3 => ?_) (fun c3 => ?_)
  · replace h := h.2 c3
    refine lv_aload_n hx hb dX6_at_9 rfl (lv_at hl 0 rfl) ?_
    refine va_get (ci := 5) (v := va_re ad (tM x0 6)) (C := RX6) (T := TX6) (N := 42) hx hb hts hi_X6 hown hE.1 hP x0 (w_5 hE hk0) rfl 6 (by decide) (hts (.fieldLink RX6 16 "HemLineModel" "rowSize" "[I") (by decide +kernel)) (fun _ h9 => h9) rfl dX6_at_10 ?_
    refine lv_iload_n hx hb dX6_at_13 rfl (lv_at hl 1 rfl) ?_
    obtain ⟨k4, e5, q6, i7, h⟩ := h
    refine r_iald hx hb hE hP e5 q6 i7 dX6_at_14 ?_
    refine lv_if_ge (tgt := 24) hx hb dX6_at_15 (by decide) (fun c8 => ?_) (fun c8 => ?_)
    · replace h := h.1 c8
      refine lv_iload_n hx hb dX6_at_24 rfl (lv_at hl 2 rfl) ?_
      refine lv_iconst (v := 0) hx hb dX6_at_25 (by decide) ?_
      refine lv_aload_n hx hb dX6_at_26 rfl (lv_at hl 0 rfl) ?_
      refine va_get (ci := 5) (v := va_re ad (tM x0 6)) (C := RX6) (T := TX6) (N := 42) hx hb hts hi_X6 hown hE.1 hP x0 (w_5 hE hk0) rfl 6 (by decide) (hts (.fieldLink RX6 16 "HemLineModel" "rowSize" "[I") (by decide +kernel)) (fun _ h9 => h9) rfl dX6_at_27 ?_
      refine lv_iload_n hx hb dX6_at_30 rfl (lv_at hl 1 rfl) ?_
      obtain ⟨k9, e10, q11, i12, h⟩ := h
      refine r_iald hx hb hE hP e10 q11 i12 dX6_at_31 ?_
      refine lv_iconst (v := 1) hx hb dX6_at_32 (by decide) ?_
      refine lv_isub hx hb dX6_at_33 ?_
      refine f_i (kS (As := [.int x2, .int 0, .int ((gR s1 k9 x1.toNatClampNeg) - 1)]) (rest := []) ⟨hx, hb, hml, hown, hts⟩ (c_X6_in l D cs ad x2 0 ((gR s1 k9 x1.toNatClampNeg) - 1) s1 _) (va_cwS 3 hts gX6_at_X6_in rfl rfl rfl (by decide +kernel) ⟨Nat.le_of_ble_eq_true rfl, Nat.le_of_ble_eq_true rfl⟩) hE hP h rfl hl.1 rfl (by first | exact lv_room (Nat.le_of_ble_eq_true rfl) | (refine lv_room ?_; simp [re_cat, cat_i, cat_l, cat_r])) dX6_at_34 ⟨Nat.le_refl _, Nat.le_refl _⟩) hS (fun r14 s13 H locs h hP hS => ?_)
      refine lv_if_ne (tgt := 46) hx hb dX6_at_37 (by decide) (fun c15 => ?_) (fun c15 => ?_)
      · replace h := h.2 c15
        refine lv_aload_n hx hb dX6_at_46 rfl (lv_at hl 0 rfl) ?_
        refine lv_aload_n hx hb dX6_at_47 rfl (lv_at hl 0 rfl) ?_
        refine va_get (ci := 5) (v := va_re ad (tM x0 5)) (C := RX6) (T := TX6) (N := 42) hx hb hts hi_X6 hown hE.1 hP x0 (w_5 hE hk0) rfl 5 (by decide) (hts (.fieldLink RX6 13 "HemLineModel" "cells" "[I") (by decide +kernel)) (fun _ h9 => h9) rfl dX6_at_48 ?_
        refine lv_bipush (v := 40) hx hb dX6_at_51 (by decide) ?_
        refine lv_iload_n hx hb dX6_at_53 rfl (lv_at hl 1 rfl) ?_
        refine lv_imul hx hb dX6_at_54 ?_
        refine lv_iload_n hx hb dX6_at_55 rfl (lv_at hl 2 rfl) ?_
        refine lv_iadd hx hb dX6_at_56 ?_
        obtain ⟨k16, e17, q18, i19, h⟩ := h
        refine r_iald hx hb hE hP e17 q18 i19 dX6_at_57 ?_
        refine f_i (kV (As := [.int (gR s13 k16 ((40 * x1) + x2).toNatClampNeg)]) (rest := []) (o := some x0) rfl ⟨hx, hb, hml, hown, hts⟩ (c_X6_tellsAsked l D cs ad x0 (gR s13 k16 ((40 * x1) + x2).toNatClampNeg) s13 _ hk0) (cwV 1 hts gX6_at_X6_tellsAsked rfl rfl rfl (by decide +kernel) ⟨Nat.le_of_ble_eq_true rfl, Nat.le_of_ble_eq_true rfl⟩) hE hP rfl rfl (w_5 hE hk0) h rfl hl.1 rfl (by first | exact lv_room (Nat.le_of_ble_eq_true rfl) | (refine lv_room ?_; simp [re_cat, cat_i, cat_l, cat_r])) dX6_at_58 ⟨Nat.le_refl _, Nat.le_refl _⟩) hS (fun r21 s20 H locs h hP hS => ?_)
        exact W.iret hx hb hr (fun t ht hW => ⟨⟨_, _, rfl, h, pw ht hP⟩, hS.F ht⟩) hS.2.2 dX6_at_61
      · replace h := h.1 c15
        refine lv_aload_n hx hb dX6_at_40 rfl (lv_at hl 0 rfl) ?_
        refine lv_iconst (v := 2) hx hb dX6_at_41 (by decide) ?_
        refine f_i (kV (As := [.int 2]) (rest := []) (o := some x0) rfl ⟨hx, hb, hml, hown, hts⟩ (c_X6_refuse l D cs ad x0 2 s13 _ hk0) (cwV 1 hts gX6_at_X6_refuse rfl rfl rfl (by decide +kernel) ⟨Nat.le_of_ble_eq_true rfl, Nat.le_of_ble_eq_true rfl⟩) hE hP rfl rfl (w_5 hE hk0) h rfl hl.1 rfl (by first | exact lv_room (Nat.le_of_ble_eq_true rfl) | (refine lv_room ?_; simp [re_cat, cat_i, cat_l, cat_r])) dX6_at_42 ⟨Nat.le_refl _, Nat.le_refl _⟩) hS (fun r23 s22 H locs h hP hS => ?_)
        exact W.iret hx hb hr (fun t ht hW => ⟨⟨_, _, rfl, h, pw ht hP⟩, hS.F ht⟩) hS.2.2 dX6_at_45
    · replace h := h.2 c8
      refine lv_aload_n hx hb dX6_at_18 rfl (lv_at hl 0 rfl) ?_
      refine lv_iconst (v := 1) hx hb dX6_at_19 (by decide) ?_
      refine f_i (kV (As := [.int 1]) (rest := []) (o := some x0) rfl ⟨hx, hb, hml, hown, hts⟩ (c_X6_refuse l D cs ad x0 1 s1 _ hk0) (cwV 1 hts gX6_at_X6_refuse rfl rfl rfl (by decide +kernel) ⟨Nat.le_of_ble_eq_true rfl, Nat.le_of_ble_eq_true rfl⟩) hE hP rfl rfl (w_5 hE hk0) h rfl hl.1 rfl (by first | exact lv_room (Nat.le_of_ble_eq_true rfl) | (refine lv_room ?_; simp [re_cat, cat_i, cat_l, cat_r])) dX6_at_20 ⟨Nat.le_refl _, Nat.le_refl _⟩) hS (fun r25 s24 H locs h hP hS => ?_)
      exact W.iret hx hb hr (fun t ht hW => ⟨⟨_, _, rfl, h, pw ht hP⟩, hS.F ht⟩) hS.2.2 dX6_at_23
  · replace h := h.1 c3
    refine lv_iconst (v := (-1)) hx hb dX6_at_7 (by decide) ?_
    exact W.iret hx hb hr (fun t ht hW => ⟨⟨_, _, rfl, h, pw ht hP⟩, hS.F ht⟩) hS.2.2 dX6_at_8
def p_X6_tear (x0 : Nat) (x1 : Int32) (s : Sg) (Q : Int32 → Sg → Prop) : Prop := p_X6_isRow x1 s (fun r2 s1 => ((r2 = 0 → Q ((-1)) s1) ∧ (¬ r2 = 0 → ∃ k4, tM x0 6 = some k4 ∧ kM k4 = 7 ∧ vp_in x1 (lM k4) ∧ ((0 ≤ (gR s1 k4 x1.toNatClampNeg) → ∃ k9, tM x0 6 = some k9 ∧ kM k9 = 7 ∧ vp_in x1 (lM k9) ∧ Q 1 (setR s1 k9 (upd (gR s1 k9) x1.toNatClampNeg ((-1))))) ∧ (¬ 0 ≤ (gR s1 k4 x1.toNatClampNeg) → p_X6_refuse x0 1 s1 (fun r14 s13 => Q r14 s13))))))
set_option maxHeartbeats 4000000 in
set_option maxRecDepth 100000 in
theorem c_X6_tear (l : Launch) (D : va_G) (cs : Cs) (ad : Nat → Nat) (x0 : Nat) (x1 : Int32) (s0 : Sg) (Q : Int32 → Sg → Prop) (hk0 : kM x0 = 5) : Met l yX6_tear wsX6_tear { frames := 2, cells := 0, slots := 0, locals := 42 } (Pc0 bM D cs ad [.ref (ad x0), .int x1] s0 (p_X6_tear x0 x1 s0 Q)) (QI bM D cs ad Q) 0 0 (fAd bM ad) := by
  refine Met.ofW (cc := cX6_tear) (maxL := 2) (ret := (some .int)) (by decide) rfl ?_
  intro p e s m args below meth c s₁ B0 hml hv
  obtain ⟨ha, hP, hE, h⟩ := hv
  have hx := B0.exec
  have hb := B0.bytes
  have hr := B0.returns
  have hts := atoms_spec (ws := wsX6_tear) B0.pre
  have hown : s.vm.findClass RX6 = some m.cls := findClass_of_methodNamed B0.named
  have hlocks := B0.notSynchronized
  have hi_X6 : ∀ w ∈ u_ws RX6 TX6 42, w ∈ wsX6_tear := by decide +kernel
  have hS : va_S (fAd bM ad) s.heap s.heap [] := va_S.rf
  have hl := lv_entry ([.ref (ad x0), .int x1]) (n := 2) (by first | exact Nat.le_of_ble_eq_true rfl | simp [lg_sl, re_cat, cat_i, cat_l, cat_r])
  rw [show entryFrame m args 2 = entryFrame m ([.ref (ad x0), .int x1] : List Value).toArray 2 by rw [ha], lg_entry_eq]
  generalize (lg_sl ([.ref (ad x0), .int x1]) ++ List.replicate (2 - (lg_sl ([.ref (ad x0), .int x1])).length) Slot.unset).toArray = ls at hl ⊢
  have hl : lv_has ls 2 [(0, .ref (ad x0)), (1, .int x1)] := by first | exact hl | simpa [lv_args, re_cat, cat_i, cat_l, cat_r] using hl
  unfold p_X6_tear at h
  refine lv_iload_n hx hb dX6_tear_0 rfl (lv_at hl 1 rfl) ?_
  refine f_i (kS (As := [.int x1]) (rest := []) ⟨hx, hb, hml, hown, hts⟩ (c_X6_isRow l D cs ad x1 s0 _) (va_cwS 1 hts gX6_tear_X6_isRow rfl rfl rfl (by decide +kernel) ⟨Nat.le_of_ble_eq_true rfl, Nat.le_of_ble_eq_true rfl⟩) hE hP h rfl hl.1 rfl (by first | exact lv_room (Nat.le_of_ble_eq_true rfl) | (refine lv_room ?_; simp [re_cat, cat_i, cat_l, cat_r])) dX6_tear_1 ⟨Nat.le_refl _, Nat.le_refl _⟩) hS (fun r2 s1 H locs h hP hS => ?_)
  refine lv_if_ne (tgt := 9) hx hb dX6_tear_4 (by decide) (fun c3 => ?_) (fun c3 => ?_)
  · replace h := h.2 c3
    refine lv_aload_n hx hb dX6_tear_9 rfl (lv_at hl 0 rfl) ?_
    refine va_get (ci := 5) (v := va_re ad (tM x0 6)) (C := RX6) (T := TX6) (N := 42) hx hb hts hi_X6 hown hE.1 hP x0 (w_5 hE hk0) rfl 6 (by decide) (hts (.fieldLink RX6 16 "HemLineModel" "rowSize" "[I") (by decide +kernel)) (fun _ h9 => h9) rfl dX6_tear_10 ?_
    refine lv_iload_n hx hb dX6_tear_13 rfl (lv_at hl 1 rfl) ?_
    obtain ⟨k4, e5, q6, i7, h⟩ := h
    refine r_iald hx hb hE hP e5 q6 i7 dX6_tear_14 ?_
    refine lv_if_ge (tgt := 24) hx hb dX6_tear_15 (by decide) (fun c8 => ?_) (fun c8 => ?_)
    · replace h := h.1 c8
      refine lv_aload_n hx hb dX6_tear_24 rfl (lv_at hl 0 rfl) ?_
      refine va_get (ci := 5) (v := va_re ad (tM x0 6)) (C := RX6) (T := TX6) (N := 42) hx hb hts hi_X6 hown hE.1 hP x0 (w_5 hE hk0) rfl 6 (by decide) (hts (.fieldLink RX6 16 "HemLineModel" "rowSize" "[I") (by decide +kernel)) (fun _ h9 => h9) rfl dX6_tear_25 ?_
      refine lv_iload_n hx hb dX6_tear_28 rfl (lv_at hl 1 rfl) ?_
      refine lv_iconst (v := (-1)) hx hb dX6_tear_29 (by decide) ?_
      obtain ⟨k9, e10, q11, i12, h⟩ := h
      refine r_iast hx hb hE hP hS e10 q11 i12 dX6_tear_30 (fun H locs hP hS => ?_)
      refine lv_iconst (v := 1) hx hb dX6_tear_31 (by decide) ?_
      exact W.iret hx hb hr (fun t ht hW => ⟨⟨_, _, rfl, h, pw ht hP⟩, hS.F ht⟩) hS.2.2 dX6_tear_32
    · replace h := h.2 c8
      refine lv_aload_n hx hb dX6_tear_18 rfl (lv_at hl 0 rfl) ?_
      refine lv_iconst (v := 1) hx hb dX6_tear_19 (by decide) ?_
      refine f_i (kV (As := [.int 1]) (rest := []) (o := some x0) rfl ⟨hx, hb, hml, hown, hts⟩ (c_X6_refuse l D cs ad x0 1 s1 _ hk0) (cwV 1 hts gX6_tear_X6_refuse rfl rfl rfl (by decide +kernel) ⟨Nat.le_of_ble_eq_true rfl, Nat.le_of_ble_eq_true rfl⟩) hE hP rfl rfl (w_5 hE hk0) h rfl hl.1 rfl (by first | exact lv_room (Nat.le_of_ble_eq_true rfl) | (refine lv_room ?_; simp [re_cat, cat_i, cat_l, cat_r])) dX6_tear_20 ⟨Nat.le_refl _, Nat.le_refl _⟩) hS (fun r14 s13 H locs h hP hS => ?_)
      exact W.iret hx hb hr (fun t ht hW => ⟨⟨_, _, rfl, h, pw ht hP⟩, hS.F ht⟩) hS.2.2 dX6_tear_23
  · replace h := h.1 c3
    refine lv_iconst (v := (-1)) hx hb dX6_tear_7 (by decide) ?_
    exact W.iret hx hb hr (fun t ht hW => ⟨⟨_, _, rfl, h, pw ht hP⟩, hS.F ht⟩) hS.2.2 dX6_tear_8
def p_X6_copy_b45 (Q : Int32 → Sg → Prop)  (x0 : Nat) (s : Sg) : Prop := p_X6_refuse x0 1 s (fun r2 s1 => Q r2 s1)
def p_X6_copy_b86 (Q : Int32 → Sg → Prop)  (x0 : Nat) (s : Sg) : Prop := p_X6_refuse x0 2 s (fun r2 s1 => Q r2 s1)
def p_X6_copy_L132 (Q : Int32 → Sg → Prop)  : Nat → Nat → Int32 → Int32 → Int32 → Int32 → Sg → Prop
  | 0, _, _, _, _, _, _ => False
  | n + 1, x0, x3, x4, x5, x6, s => ((x5 ≤ x6 → Q 1 s) ∧ (¬ x5 ≤ x6 → ∃ k2, tM x0 9 = some k2 ∧ kM k2 = 7 ∧ vp_in x6 (lM k2) ∧ ∃ k6, tM x0 5 = some k6 ∧ kM k6 = 7 ∧ vp_in (((40 * x3) + x4) + x6) (lM k6) ∧ p_X6_copy_L132 Q  n x0 x3 x4 x5 (x6 + 1) (setR s k6 (upd (gR s k6) (((40 * x3) + x4) + x6).toNatClampNeg (gR s k2 x6.toNatClampNeg)))))
def p_X6_copy_L95 (Q : Int32 → Sg → Prop)  : Nat → Nat → Int32 → Int32 → Int32 → Int32 → Int32 → Int32 → Sg → Prop
  | 0, _, _, _, _, _, _, _, _ => False
  | n + 1, x0, x1, x2, x3, x4, x5, x6, s => ((x5 ≤ x6 → (∃ n2, p_X6_copy_L132 Q  n2 x0 x3 x4 x5 0 s)) ∧ (¬ x5 ≤ x6 → ∃ k3, tM x0 5 = some k3 ∧ kM k3 = 7 ∧ vp_in (((40 * x1) + x2) + x6) (lM k3) ∧ ∃ k7, tM x0 9 = some k7 ∧ kM k7 = 7 ∧ vp_in x6 (lM k7) ∧ p_X6_copy_L95 Q  n x0 x1 x2 x3 x4 x5 (x6 + 1) (setR s k7 (upd (gR s k7) x6.toNatClampNeg (gR s k3 (((40 * x1) + x2) + x6).toNatClampNeg)))))
def p_X6_copy (x0 : Nat) (x1 : Int32) (x2 : Int32) (x3 : Int32) (x4 : Int32) (x5 : Int32) (s : Sg) (Q : Int32 → Sg → Prop) : Prop := p_X6_isRow x1 s (fun r2 s1 => ((r2 = 0 → Q ((-1)) s1) ∧ (¬ r2 = 0 → p_X6_isRow x3 s1 (fun r5 s4 => ((r5 = 0 → Q ((-1)) s4) ∧ (¬ r5 = 0 → ((0 ≤ x5 → ∃ k8, tM x0 6 = some k8 ∧ kM k8 = 7 ∧ vp_in x1 (lM k8) ∧ (((gR s4 k8 x1.toNatClampNeg) < 0 → p_X6_copy_b45 Q  x0 s4) ∧ (¬ (gR s4 k8 x1.toNatClampNeg) < 0 → ∃ k13, tM x0 6 = some k13 ∧ kM k13 = 7 ∧ vp_in x3 (lM k13) ∧ ((0 ≤ (gR s4 k13 x3.toNatClampNeg) → ∃ k18, tM x0 6 = some k18 ∧ kM k18 = 7 ∧ vp_in x1 (lM k18) ∧ p_X6_in x2 0 ((gR s4 k18 x1.toNatClampNeg) - x5) s4 (fun r23 s22 => ((r23 = 0 → p_X6_copy_b86 Q  x0 s22) ∧ (¬ r23 = 0 → ∃ k25, tM x0 6 = some k25 ∧ kM k25 = 7 ∧ vp_in x3 (lM k25) ∧ p_X6_in x4 0 ((gR s22 k25 x3.toNatClampNeg) - x5) s22 (fun r30 s29 => ((r30 = 0 → p_X6_copy_b86 Q  x0 s29) ∧ (¬ r30 = 0 → (∃ n32, p_X6_copy_L95 Q  n32 x0 x1 x2 x3 x4 x5 0 s29)))))))) ∧ (¬ 0 ≤ (gR s4 k13 x3.toNatClampNeg) → p_X6_copy_b45 Q  x0 s4))))) ∧ (¬ 0 ≤ x5 → p_X6_refuse x0 5 s4 (fun r34 s33 => Q r34 s33)))))))))
set_option maxHeartbeats 4000000 in
set_option maxRecDepth 100000 in
theorem c_X6_copy (l : Launch) (D : va_G) (cs : Cs) (ad : Nat → Nat) (x0 : Nat) (x1 : Int32) (x2 : Int32) (x3 : Int32) (x4 : Int32) (x5 : Int32) (s0 : Sg) (Q : Int32 → Sg → Prop) (hk0 : kM x0 = 5) : Met l yX6_copy wsX6_copy { frames := 2, cells := 0, slots := 0, locals := 42 } (Pc0 bM D cs ad [.ref (ad x0), .int x1, .int x2, .int x3, .int x4, .int x5] s0 (p_X6_copy x0 x1 x2 x3 x4 x5 s0 Q)) (QI bM D cs ad Q) 0 0 (fAd bM ad) := by
  refine Met.ofW (cc := cX6_copy) (maxL := 7) (ret := (some .int)) (by decide) rfl ?_
  intro p e s m args below meth c s₁ B0 hml hv
  obtain ⟨ha, hP, hE, h⟩ := hv
  have hx := B0.exec
  have hb := B0.bytes
  have hr := B0.returns
  have hts := atoms_spec (ws := wsX6_copy) B0.pre
  have hown : s.vm.findClass RX6 = some m.cls := findClass_of_methodNamed B0.named
  have hlocks := B0.notSynchronized
  have hi_X6 : ∀ w ∈ u_ws RX6 TX6 42, w ∈ wsX6_copy := by decide +kernel
  have hS : va_S (fAd bM ad) s.heap s.heap [] := va_S.rf
  have hl := lv_entry ([.ref (ad x0), .int x1, .int x2, .int x3, .int x4, .int x5]) (n := 7) (by first | exact Nat.le_of_ble_eq_true rfl | simp [lg_sl, re_cat, cat_i, cat_l, cat_r])
  rw [show entryFrame m args 7 = entryFrame m ([.ref (ad x0), .int x1, .int x2, .int x3, .int x4, .int x5] : List Value).toArray 7 by rw [ha], lg_entry_eq]
  generalize (lg_sl ([.ref (ad x0), .int x1, .int x2, .int x3, .int x4, .int x5]) ++ List.replicate (7 - (lg_sl ([.ref (ad x0), .int x1, .int x2, .int x3, .int x4, .int x5])).length) Slot.unset).toArray = ls at hl ⊢
  have hl : lv_has ls 7 [(0, .ref (ad x0)), (1, .int x1), (2, .int x2), (3, .int x3), (4, .int x4), (5, .int x5)] := by first | exact hl | simpa [lv_args, re_cat, cat_i, cat_l, cat_r] using hl
  have hB45 : ∀  (σ : Sg) (H : Heap) (locs : List Loc) (ls : Array Slot), p_X6_copy_b45 Q  x0 σ → va_P D vwCl (wl bM cs ad σ) H → va_S (fAd bM ad) s.heap H locs → lv_has ls 7 [(0, .ref (ad x0))] → W p l e { frames := 2, cells := 0, slots := 0, locals := 42 } s m args below meth c H locs 0 0 (MQ below (QI bM D cs ad Q) args s 0 0 (fAd bM ad)) (F0 m 45 ls []) := by
    intro  σ H locs ls h hP hS hl
    unfold p_X6_copy_b45 at h
    refine lv_aload_n hx hb dX6_copy_45 rfl (lv_at hl 0 rfl) ?_
    refine lv_iconst (v := 1) hx hb dX6_copy_46 (by decide) ?_
    refine f_i (kV (As := [.int 1]) (rest := []) (o := some x0) rfl ⟨hx, hb, hml, hown, hts⟩ (c_X6_refuse l D cs ad x0 1 σ _ hk0) (cwV 1 hts gX6_copy_X6_refuse rfl rfl rfl (by decide +kernel) ⟨Nat.le_of_ble_eq_true rfl, Nat.le_of_ble_eq_true rfl⟩) hE hP rfl rfl (w_5 hE hk0) h rfl hl.1 rfl (by first | exact lv_room (Nat.le_of_ble_eq_true rfl) | (refine lv_room ?_; simp [re_cat, cat_i, cat_l, cat_r])) dX6_copy_47 ⟨Nat.le_refl _, Nat.le_refl _⟩) hS (fun r2 s1 H locs h hP hS => ?_)
    exact W.iret hx hb hr (fun t ht hW => ⟨⟨_, _, rfl, h, pw ht hP⟩, hS.F ht⟩) hS.2.2 dX6_copy_50
  have hB86 : ∀  (σ : Sg) (H : Heap) (locs : List Loc) (ls : Array Slot), p_X6_copy_b86 Q  x0 σ → va_P D vwCl (wl bM cs ad σ) H → va_S (fAd bM ad) s.heap H locs → lv_has ls 7 [(0, .ref (ad x0))] → W p l e { frames := 2, cells := 0, slots := 0, locals := 42 } s m args below meth c H locs 0 0 (MQ below (QI bM D cs ad Q) args s 0 0 (fAd bM ad)) (F0 m 86 ls []) := by
    intro  σ H locs ls h hP hS hl
    unfold p_X6_copy_b86 at h
    refine lv_aload_n hx hb dX6_copy_86 rfl (lv_at hl 0 rfl) ?_
    refine lv_iconst (v := 2) hx hb dX6_copy_87 (by decide) ?_
    refine f_i (kV (As := [.int 2]) (rest := []) (o := some x0) rfl ⟨hx, hb, hml, hown, hts⟩ (c_X6_refuse l D cs ad x0 2 σ _ hk0) (cwV 1 hts gX6_copy_X6_refuse rfl rfl rfl (by decide +kernel) ⟨Nat.le_of_ble_eq_true rfl, Nat.le_of_ble_eq_true rfl⟩) hE hP rfl rfl (w_5 hE hk0) h rfl hl.1 rfl (by first | exact lv_room (Nat.le_of_ble_eq_true rfl) | (refine lv_room ?_; simp [re_cat, cat_i, cat_l, cat_r])) dX6_copy_88 ⟨Nat.le_refl _, Nat.le_refl _⟩) hS (fun r2 s1 H locs h hP hS => ?_)
    exact W.iret hx hb hr (fun t ht hW => ⟨⟨_, _, rfl, h, pw ht hP⟩, hS.F ht⟩) hS.2.2 dX6_copy_91
  have hB132 : ∀ (n132 : Nat) (x3 : Int32) (x4 : Int32) (x5 : Int32) (x6 : Int32) (σ : Sg) (H : Heap) (locs : List Loc) (ls : Array Slot), p_X6_copy_L132 Q  n132 x0 x3 x4 x5 x6 σ → va_P D vwCl (wl bM cs ad σ) H → va_S (fAd bM ad) s.heap H locs → lv_has ls 7 [(0, .ref (ad x0)), (3, .int x3), (4, .int x4), (5, .int x5), (6, .int x6)] → W p l e { frames := 2, cells := 0, slots := 0, locals := 42 } s m args below meth c H locs 0 0 (MQ below (QI bM D cs ad Q) args s 0 0 (fAd bM ad)) (F0 m 132 ls []) := by
    intro n132
    induction n132 with
    | zero =>
      intro x3 x4 x5 x6 σ H locs ls h
      exact h.elim
    | succ n132 ih =>
      have hK132 := ih
      intro x3 x4 x5 x6 σ H locs ls h hP hS hl
      rw [p_X6_copy_L132] at h
      refine lv_iload hx hb dX6_copy_132 (lv_at hl 4 rfl) ?_
      refine lv_iload hx hb dX6_copy_134 (lv_at hl 3 rfl) ?_
      refine lv_icmp_ge (tgt := 167) hx hb dX6_copy_136 (by decide) (fun c1 => ?_) (fun c1 => ?_)
      · replace h := h.1 c1
        refine lv_iconst (v := 1) hx hb dX6_copy_167 (by decide) ?_
        exact W.iret hx hb hr (fun t ht hW => ⟨⟨_, _, rfl, h, pw ht hP⟩, hS.F ht⟩) hS.2.2 dX6_copy_168
      · replace h := h.2 c1
        refine lv_aload_n hx hb dX6_copy_139 rfl (lv_at hl 0 rfl) ?_
        refine va_get (ci := 5) (v := va_re ad (tM x0 5)) (C := RX6) (T := TX6) (N := 42) hx hb hts hi_X6 hown hE.1 hP x0 (w_5 hE hk0) rfl 5 (by decide) (hts (.fieldLink RX6 13 "HemLineModel" "cells" "[I") (by decide +kernel)) (fun _ h9 => h9) rfl dX6_copy_140 ?_
        refine lv_bipush (v := 40) hx hb dX6_copy_143 (by decide) ?_
        refine lv_iload_n hx hb dX6_copy_145 rfl (lv_at hl 1 rfl) ?_
        refine lv_imul hx hb dX6_copy_146 ?_
        refine lv_iload hx hb dX6_copy_147 (lv_at hl 2 rfl) ?_
        refine lv_iadd hx hb dX6_copy_149 ?_
        refine lv_iload hx hb dX6_copy_150 (lv_at hl 4 rfl) ?_
        refine lv_iadd hx hb dX6_copy_152 ?_
        refine lv_aload_n hx hb dX6_copy_153 rfl (lv_at hl 0 rfl) ?_
        refine va_get (ci := 5) (v := va_re ad (tM x0 9)) (C := RX6) (T := TX6) (N := 42) hx hb hts hi_X6 hown hE.1 hP x0 (w_5 hE hk0) rfl 9 (by decide) (hts (.fieldLink RX6 26 "HemLineModel" "taken" "[I") (by decide +kernel)) (fun _ h9 => h9) rfl dX6_copy_154 ?_
        refine lv_iload hx hb dX6_copy_157 (lv_at hl 4 rfl) ?_
        obtain ⟨k2, e3, q4, i5, h⟩ := h
        refine r_iald hx hb hE hP e3 q4 i5 dX6_copy_159 ?_
        obtain ⟨k6, e7, q8, i9, h⟩ := h
        refine r_iast hx hb hE hP hS e7 q8 i9 dX6_copy_160 (fun H locs hP hS => ?_)
        refine lv_iinc (v := x6 + 1) (lv' := [(6, .int (x6 + 1)), (0, .ref (ad x0)), (3, .int x3), (4, .int x4), (5, .int x5)]) hx hb dX6_copy_161 hl (k := 4) rfl rfl (by decide) (by first | rfl | simp [re_cat, cat_i, cat_l, cat_r]) (fun ls hl => ?_)
        refine lv_goto (tgt := 132) hx hb dX6_copy_164 (by decide) ?_
        exact ih x3 x4 x5 (x6 + 1) (setR σ k6 (upd (gR σ k6) (((40 * x3) + x4) + x6).toNatClampNeg (gR σ k2 x6.toNatClampNeg))) H locs ls h hP hS (lv_sub hl [1, 2, 3, 4, 0] rfl)
  have hB95 : ∀ (n95 : Nat) (x1 : Int32) (x2 : Int32) (x3 : Int32) (x4 : Int32) (x5 : Int32) (x6 : Int32) (σ : Sg) (H : Heap) (locs : List Loc) (ls : Array Slot), p_X6_copy_L95 Q  n95 x0 x1 x2 x3 x4 x5 x6 σ → va_P D vwCl (wl bM cs ad σ) H → va_S (fAd bM ad) s.heap H locs → lv_has ls 7 [(0, .ref (ad x0)), (1, .int x1), (2, .int x2), (3, .int x3), (4, .int x4), (5, .int x5), (6, .int x6)] → W p l e { frames := 2, cells := 0, slots := 0, locals := 42 } s m args below meth c H locs 0 0 (MQ below (QI bM D cs ad Q) args s 0 0 (fAd bM ad)) (F0 m 95 ls []) := by
    intro n95
    induction n95 with
    | zero =>
      intro x1 x2 x3 x4 x5 x6 σ H locs ls h
      exact h.elim
    | succ n95 ih =>
      have hK95 := ih
      intro x1 x2 x3 x4 x5 x6 σ H locs ls h hP hS hl
      rw [p_X6_copy_L95] at h
      refine lv_iload hx hb dX6_copy_95 (lv_at hl 6 rfl) ?_
      refine lv_iload hx hb dX6_copy_97 (lv_at hl 5 rfl) ?_
      refine lv_icmp_ge (tgt := 129) hx hb dX6_copy_99 (by decide) (fun c1 => ?_) (fun c1 => ?_)
      · replace h := h.1 c1
        refine lv_iconst (v := 0) hx hb dX6_copy_129 (by decide) ?_
        refine lv_istore (i := 6) (lv' := [(6, .int 0), (0, .ref (ad x0)), (1, .int x1), (2, .int x2), (3, .int x3), (4, .int x4), (5, .int x5)]) hx hb dX6_copy_130 hl (by decide) (by first | rfl | simp [re_cat, cat_i, cat_l, cat_r]) (fun ls hl => ?_)
        obtain ⟨n2, h⟩ := h
        exact hB132 n2 x3 x4 x5 0 σ H locs ls h hP hS (lv_sub hl [1, 4, 5, 6, 0] rfl)
      · replace h := h.2 c1
        refine lv_aload_n hx hb dX6_copy_102 rfl (lv_at hl 0 rfl) ?_
        refine va_get (ci := 5) (v := va_re ad (tM x0 9)) (C := RX6) (T := TX6) (N := 42) hx hb hts hi_X6 hown hE.1 hP x0 (w_5 hE hk0) rfl 9 (by decide) (hts (.fieldLink RX6 26 "HemLineModel" "taken" "[I") (by decide +kernel)) (fun _ h9 => h9) rfl dX6_copy_103 ?_
        refine lv_iload hx hb dX6_copy_106 (lv_at hl 6 rfl) ?_
        refine lv_aload_n hx hb dX6_copy_108 rfl (lv_at hl 0 rfl) ?_
        refine va_get (ci := 5) (v := va_re ad (tM x0 5)) (C := RX6) (T := TX6) (N := 42) hx hb hts hi_X6 hown hE.1 hP x0 (w_5 hE hk0) rfl 5 (by decide) (hts (.fieldLink RX6 13 "HemLineModel" "cells" "[I") (by decide +kernel)) (fun _ h9 => h9) rfl dX6_copy_109 ?_
        refine lv_bipush (v := 40) hx hb dX6_copy_112 (by decide) ?_
        refine lv_iload_n hx hb dX6_copy_114 rfl (lv_at hl 1 rfl) ?_
        refine lv_imul hx hb dX6_copy_115 ?_
        refine lv_iload_n hx hb dX6_copy_116 rfl (lv_at hl 2 rfl) ?_
        refine lv_iadd hx hb dX6_copy_117 ?_
        refine lv_iload hx hb dX6_copy_118 (lv_at hl 6 rfl) ?_
        refine lv_iadd hx hb dX6_copy_120 ?_
        obtain ⟨k3, e4, q5, i6, h⟩ := h
        refine r_iald hx hb hE hP e4 q5 i6 dX6_copy_121 ?_
        obtain ⟨k7, e8, q9, i10, h⟩ := h
        refine r_iast hx hb hE hP hS e8 q9 i10 dX6_copy_122 (fun H locs hP hS => ?_)
        refine lv_iinc (v := x6 + 1) (lv' := [(6, .int (x6 + 1)), (0, .ref (ad x0)), (1, .int x1), (2, .int x2), (3, .int x3), (4, .int x4), (5, .int x5)]) hx hb dX6_copy_123 hl (k := 6) rfl rfl (by decide) (by first | rfl | simp [re_cat, cat_i, cat_l, cat_r]) (fun ls hl => ?_)
        refine lv_goto (tgt := 95) hx hb dX6_copy_126 (by decide) ?_
        exact ih x1 x2 x3 x4 x5 (x6 + 1) (setR σ k7 (upd (gR σ k7) x6.toNatClampNeg (gR σ k3 (((40 * x1) + x2) + x6).toNatClampNeg))) H locs ls h hP hS (lv_sub hl [1, 2, 3, 4, 5, 6, 0] rfl)
  unfold p_X6_copy at h
  refine lv_iload_n hx hb dX6_copy_0 rfl (lv_at hl 1 rfl) ?_
  refine f_i (kS (As := [.int x1]) (rest := []) ⟨hx, hb, hml, hown, hts⟩ (c_X6_isRow l D cs ad x1 s0 _) (va_cwS 1 hts gX6_copy_X6_isRow rfl rfl rfl (by decide +kernel) ⟨Nat.le_of_ble_eq_true rfl, Nat.le_of_ble_eq_true rfl⟩) hE hP h rfl hl.1 rfl (by first | exact lv_room (Nat.le_of_ble_eq_true rfl) | (refine lv_room ?_; simp [re_cat, cat_i, cat_l, cat_r])) dX6_copy_1 ⟨Nat.le_refl _, Nat.le_refl _⟩) hS (fun r2 s1 H locs h hP hS => ?_)
  refine lv_if_eq (tgt := 14) hx hb dX6_copy_4 (by decide) (fun c3 => ?_) (fun c3 => ?_)
  · replace h := h.1 c3
    refine lv_iconst (v := (-1)) hx hb dX6_copy_14 (by decide) ?_
    exact W.iret hx hb hr (fun t ht hW => ⟨⟨_, _, rfl, h, pw ht hP⟩, hS.F ht⟩) hS.2.2 dX6_copy_15
  · replace h := h.2 c3
    refine lv_iload_n hx hb dX6_copy_7 rfl (lv_at hl 3 rfl) ?_
    refine f_i (kS (As := [.int x3]) (rest := []) ⟨hx, hb, hml, hown, hts⟩ (c_X6_isRow l D cs ad x3 s1 _) (va_cwS 1 hts gX6_copy_X6_isRow rfl rfl rfl (by decide +kernel) ⟨Nat.le_of_ble_eq_true rfl, Nat.le_of_ble_eq_true rfl⟩) hE hP h rfl hl.1 rfl (by first | exact lv_room (Nat.le_of_ble_eq_true rfl) | (refine lv_room ?_; simp [re_cat, cat_i, cat_l, cat_r])) dX6_copy_8 ⟨Nat.le_refl _, Nat.le_refl _⟩) hS (fun r5 s4 H locs h hP hS => ?_)
    refine lv_if_ne (tgt := 16) hx hb dX6_copy_11 (by decide) (fun c6 => ?_) (fun c6 => ?_)
    · replace h := h.2 c6
      refine lv_iload hx hb dX6_copy_16 (lv_at hl 5 rfl) ?_
      refine lv_if_ge (tgt := 27) hx hb dX6_copy_18 (by decide) (fun c7 => ?_) (fun c7 => ?_)
      · replace h := h.1 c7
        refine lv_aload_n hx hb dX6_copy_27 rfl (lv_at hl 0 rfl) ?_
        refine va_get (ci := 5) (v := va_re ad (tM x0 6)) (C := RX6) (T := TX6) (N := 42) hx hb hts hi_X6 hown hE.1 hP x0 (w_5 hE hk0) rfl 6 (by decide) (hts (.fieldLink RX6 16 "HemLineModel" "rowSize" "[I") (by decide +kernel)) (fun _ h9 => h9) rfl dX6_copy_28 ?_
        refine lv_iload_n hx hb dX6_copy_31 rfl (lv_at hl 1 rfl) ?_
        obtain ⟨k8, e9, q10, i11, h⟩ := h
        refine r_iald hx hb hE hP e9 q10 i11 dX6_copy_32 ?_
        refine lv_if_lt (tgt := 45) hx hb dX6_copy_33 (by decide) (fun c12 => ?_) (fun c12 => ?_)
        · replace h := h.1 c12
          exact hB45  s4 _ _ ls h hP hS (lv_sub hl [0] rfl)
        · replace h := h.2 c12
          refine lv_aload_n hx hb dX6_copy_36 rfl (lv_at hl 0 rfl) ?_
          refine va_get (ci := 5) (v := va_re ad (tM x0 6)) (C := RX6) (T := TX6) (N := 42) hx hb hts hi_X6 hown hE.1 hP x0 (w_5 hE hk0) rfl 6 (by decide) (hts (.fieldLink RX6 16 "HemLineModel" "rowSize" "[I") (by decide +kernel)) (fun _ h9 => h9) rfl dX6_copy_37 ?_
          refine lv_iload_n hx hb dX6_copy_40 rfl (lv_at hl 3 rfl) ?_
          obtain ⟨k13, e14, q15, i16, h⟩ := h
          refine r_iald hx hb hE hP e14 q15 i16 dX6_copy_41 ?_
          refine lv_if_ge (tgt := 51) hx hb dX6_copy_42 (by decide) (fun c17 => ?_) (fun c17 => ?_)
          · replace h := h.1 c17
            refine lv_iload_n hx hb dX6_copy_51 rfl (lv_at hl 2 rfl) ?_
            refine lv_iconst (v := 0) hx hb dX6_copy_52 (by decide) ?_
            refine lv_aload_n hx hb dX6_copy_53 rfl (lv_at hl 0 rfl) ?_
            refine va_get (ci := 5) (v := va_re ad (tM x0 6)) (C := RX6) (T := TX6) (N := 42) hx hb hts hi_X6 hown hE.1 hP x0 (w_5 hE hk0) rfl 6 (by decide) (hts (.fieldLink RX6 16 "HemLineModel" "rowSize" "[I") (by decide +kernel)) (fun _ h9 => h9) rfl dX6_copy_54 ?_
            refine lv_iload_n hx hb dX6_copy_57 rfl (lv_at hl 1 rfl) ?_
            obtain ⟨k18, e19, q20, i21, h⟩ := h
            refine r_iald hx hb hE hP e19 q20 i21 dX6_copy_58 ?_
            refine lv_iload hx hb dX6_copy_59 (lv_at hl 5 rfl) ?_
            refine lv_isub hx hb dX6_copy_61 ?_
            refine f_i (kS (As := [.int x2, .int 0, .int ((gR s4 k18 x1.toNatClampNeg) - x5)]) (rest := []) ⟨hx, hb, hml, hown, hts⟩ (c_X6_in l D cs ad x2 0 ((gR s4 k18 x1.toNatClampNeg) - x5) s4 _) (va_cwS 3 hts gX6_copy_X6_in rfl rfl rfl (by decide +kernel) ⟨Nat.le_of_ble_eq_true rfl, Nat.le_of_ble_eq_true rfl⟩) hE hP h rfl hl.1 rfl (by first | exact lv_room (Nat.le_of_ble_eq_true rfl) | (refine lv_room ?_; simp [re_cat, cat_i, cat_l, cat_r])) dX6_copy_62 ⟨Nat.le_refl _, Nat.le_refl _⟩) hS (fun r23 s22 H locs h hP hS => ?_)
            refine lv_if_eq (tgt := 86) hx hb dX6_copy_65 (by decide) (fun c24 => ?_) (fun c24 => ?_)
            · replace h := h.1 c24
              exact hB86  s22 _ _ ls h hP hS (lv_sub hl [0] rfl)
            · replace h := h.2 c24
              refine lv_iload hx hb dX6_copy_68 (lv_at hl 4 rfl) ?_
              refine lv_iconst (v := 0) hx hb dX6_copy_70 (by decide) ?_
              refine lv_aload_n hx hb dX6_copy_71 rfl (lv_at hl 0 rfl) ?_
              refine va_get (ci := 5) (v := va_re ad (tM x0 6)) (C := RX6) (T := TX6) (N := 42) hx hb hts hi_X6 hown hE.1 hP x0 (w_5 hE hk0) rfl 6 (by decide) (hts (.fieldLink RX6 16 "HemLineModel" "rowSize" "[I") (by decide +kernel)) (fun _ h9 => h9) rfl dX6_copy_72 ?_
              refine lv_iload_n hx hb dX6_copy_75 rfl (lv_at hl 3 rfl) ?_
              obtain ⟨k25, e26, q27, i28, h⟩ := h
              refine r_iald hx hb hE hP e26 q27 i28 dX6_copy_76 ?_
              refine lv_iload hx hb dX6_copy_77 (lv_at hl 5 rfl) ?_
              refine lv_isub hx hb dX6_copy_79 ?_
              refine f_i (kS (As := [.int x4, .int 0, .int ((gR s22 k25 x3.toNatClampNeg) - x5)]) (rest := []) ⟨hx, hb, hml, hown, hts⟩ (c_X6_in l D cs ad x4 0 ((gR s22 k25 x3.toNatClampNeg) - x5) s22 _) (va_cwS 3 hts gX6_copy_X6_in rfl rfl rfl (by decide +kernel) ⟨Nat.le_of_ble_eq_true rfl, Nat.le_of_ble_eq_true rfl⟩) hE hP h rfl hl.1 rfl (by first | exact lv_room (Nat.le_of_ble_eq_true rfl) | (refine lv_room ?_; simp [re_cat, cat_i, cat_l, cat_r])) dX6_copy_80 ⟨Nat.le_refl _, Nat.le_refl _⟩) hS (fun r30 s29 H locs h hP hS => ?_)
              refine lv_if_ne (tgt := 92) hx hb dX6_copy_83 (by decide) (fun c31 => ?_) (fun c31 => ?_)
              · replace h := h.2 c31
                refine lv_iconst (v := 0) hx hb dX6_copy_92 (by decide) ?_
                refine lv_istore (i := 6) (lv' := [(6, .int 0), (0, .ref (ad x0)), (1, .int x1), (2, .int x2), (3, .int x3), (4, .int x4), (5, .int x5)]) hx hb dX6_copy_93 hl (by decide) (by first | rfl | simp [re_cat, cat_i, cat_l, cat_r]) (fun ls hl => ?_)
                obtain ⟨n32, h⟩ := h
                exact hB95 n32 x1 x2 x3 x4 x5 0 s29 _ _ ls h hP hS (lv_sub hl [1, 2, 3, 4, 5, 6, 0] rfl)
              · replace h := h.1 c31
                exact hB86  s29 _ _ ls h hP hS (lv_sub hl [0] rfl)
          · replace h := h.2 c17
            exact hB45  s4 _ _ ls h hP hS (lv_sub hl [0] rfl)
      · replace h := h.2 c7
        refine lv_aload_n hx hb dX6_copy_21 rfl (lv_at hl 0 rfl) ?_
        refine lv_iconst (v := 5) hx hb dX6_copy_22 (by decide) ?_
        refine f_i (kV (As := [.int 5]) (rest := []) (o := some x0) rfl ⟨hx, hb, hml, hown, hts⟩ (c_X6_refuse l D cs ad x0 5 s4 _ hk0) (cwV 1 hts gX6_copy_X6_refuse rfl rfl rfl (by decide +kernel) ⟨Nat.le_of_ble_eq_true rfl, Nat.le_of_ble_eq_true rfl⟩) hE hP rfl rfl (w_5 hE hk0) h rfl hl.1 rfl (by first | exact lv_room (Nat.le_of_ble_eq_true rfl) | (refine lv_room ?_; simp [re_cat, cat_i, cat_l, cat_r])) dX6_copy_23 ⟨Nat.le_refl _, Nat.le_refl _⟩) hS (fun r34 s33 H locs h hP hS => ?_)
        exact W.iret hx hb hr (fun t ht hW => ⟨⟨_, _, rfl, h, pw ht hP⟩, hS.F ht⟩) hS.2.2 dX6_copy_26
    · replace h := h.1 c6
      refine lv_iconst (v := (-1)) hx hb dX6_copy_14 (by decide) ?_
      exact W.iret hx hb hr (fun t ht hW => ⟨⟨_, _, rfl, h, pw ht hP⟩, hS.F ht⟩) hS.2.2 dX6_copy_15
def p_X6_mean_L44 (Q : Int32 → Sg → Prop)  : Nat → Nat → Int32 → Int64 → Int32 → Sg → Prop
  | 0, _, _, _, _, _ => False
  | n + 1, x0, x1, x2, x4, s => ∃ k1, tM x0 6 = some k1 ∧ kM k1 = 7 ∧ vp_in x1 (lM k1) ∧ (((gR s k1 x1.toNatClampNeg) ≤ x4 → ∃ k6, tM x0 6 = some k6 ∧ kM k6 = 7 ∧ vp_in x1 (lM k6) ∧ ¬ ((gR s k6 x1.toNatClampNeg).toInt64) = 0 ∧ p_X6_tellsAsked x0 ((x2 / ((gR s k6 x1.toNatClampNeg).toInt64)).toInt32) s (fun r12 s11 => Q r12 s11)) ∧ (¬ (gR s k1 x1.toNatClampNeg) ≤ x4 → ∃ k13, tM x0 5 = some k13 ∧ kM k13 = 7 ∧ vp_in ((40 * x1) + x4) (lM k13) ∧ p_X6_mean_L44 Q  n x0 x1 (x2 + ((gR s k13 ((40 * x1) + x4).toNatClampNeg).toInt64)) (x4 + 1) s))
def p_X6_mean (x0 : Nat) (x1 : Int32) (s : Sg) (Q : Int32 → Sg → Prop) : Prop := p_X6_isRow x1 s (fun r2 s1 => ((r2 = 0 → Q ((-1)) s1) ∧ (¬ r2 = 0 → ∃ k4, tM x0 6 = some k4 ∧ kM k4 = 7 ∧ vp_in x1 (lM k4) ∧ ((0 ≤ (gR s1 k4 x1.toNatClampNeg) → ∃ k9, tM x0 6 = some k9 ∧ kM k9 = 7 ∧ vp_in x1 (lM k9) ∧ (((gR s1 k9 x1.toNatClampNeg) = 0 → p_X6_refuse x0 4 s1 (fun r16 s15 => Q r16 s15)) ∧ (¬ (gR s1 k9 x1.toNatClampNeg) = 0 → (∃ n14, p_X6_mean_L44 Q  n14 x0 x1 0 0 s1)))) ∧ (¬ 0 ≤ (gR s1 k4 x1.toNatClampNeg) → p_X6_refuse x0 1 s1 (fun r18 s17 => Q r18 s17))))))
set_option maxHeartbeats 4000000 in
set_option maxRecDepth 100000 in
theorem c_X6_mean (l : Launch) (D : va_G) (cs : Cs) (ad : Nat → Nat) (x0 : Nat) (x1 : Int32) (s0 : Sg) (Q : Int32 → Sg → Prop) (hk0 : kM x0 = 5) : Met l yX6_mean wsX6_mean { frames := 2, cells := 0, slots := 0, locals := 42 } (Pc0 bM D cs ad [.ref (ad x0), .int x1] s0 (p_X6_mean x0 x1 s0 Q)) (QI bM D cs ad Q) 0 0 (fAd bM ad) := by
  refine Met.ofW (cc := cX6_mean) (maxL := 5) (ret := (some .int)) (by decide) rfl ?_
  intro p e s m args below meth c s₁ B0 hml hv
  obtain ⟨ha, hP, hE, h⟩ := hv
  have hx := B0.exec
  have hb := B0.bytes
  have hr := B0.returns
  have hts := atoms_spec (ws := wsX6_mean) B0.pre
  have hown : s.vm.findClass RX6 = some m.cls := findClass_of_methodNamed B0.named
  have hlocks := B0.notSynchronized
  have hi_X6 : ∀ w ∈ u_ws RX6 TX6 42, w ∈ wsX6_mean := by decide +kernel
  have hS : va_S (fAd bM ad) s.heap s.heap [] := va_S.rf
  have hl := lv_entry ([.ref (ad x0), .int x1]) (n := 5) (by first | exact Nat.le_of_ble_eq_true rfl | simp [lg_sl, re_cat, cat_i, cat_l, cat_r])
  rw [show entryFrame m args 5 = entryFrame m ([.ref (ad x0), .int x1] : List Value).toArray 5 by rw [ha], lg_entry_eq]
  generalize (lg_sl ([.ref (ad x0), .int x1]) ++ List.replicate (5 - (lg_sl ([.ref (ad x0), .int x1])).length) Slot.unset).toArray = ls at hl ⊢
  have hl : lv_has ls 5 [(0, .ref (ad x0)), (1, .int x1)] := by first | exact hl | simpa [lv_args, re_cat, cat_i, cat_l, cat_r] using hl
  have hB44 : ∀ (n44 : Nat) (x1 : Int32) (x2 : Int64) (x4 : Int32) (σ : Sg) (H : Heap) (locs : List Loc) (ls : Array Slot), p_X6_mean_L44 Q  n44 x0 x1 x2 x4 σ → va_P D vwCl (wl bM cs ad σ) H → va_S (fAd bM ad) s.heap H locs → lv_has ls 5 [(0, .ref (ad x0)), (1, .int x1), (2, .long x2), (4, .int x4)] → W p l e { frames := 2, cells := 0, slots := 0, locals := 42 } s m args below meth c H locs 0 0 (MQ below (QI bM D cs ad Q) args s 0 0 (fAd bM ad)) (F0 m 44 ls []) := by
    intro n44
    induction n44 with
    | zero =>
      intro x1 x2 x4 σ H locs ls h
      exact h.elim
    | succ n44 ih =>
      have hK44 := ih
      intro x1 x2 x4 σ H locs ls h hP hS hl
      rw [p_X6_mean_L44] at h
      refine lv_iload hx hb dX6_mean_44 (lv_at hl 3 rfl) ?_
      refine lv_aload_n hx hb dX6_mean_46 rfl (lv_at hl 0 rfl) ?_
      refine va_get (ci := 5) (v := va_re ad (tM x0 6)) (C := RX6) (T := TX6) (N := 42) hx hb hts hi_X6 hown hE.1 hP x0 (w_5 hE hk0) rfl 6 (by decide) (hts (.fieldLink RX6 16 "HemLineModel" "rowSize" "[I") (by decide +kernel)) (fun _ h9 => h9) rfl dX6_mean_47 ?_
      refine lv_iload_n hx hb dX6_mean_50 rfl (lv_at hl 1 rfl) ?_
      obtain ⟨k1, e2, q3, i4, h⟩ := h
      refine r_iald hx hb hE hP e2 q3 i4 dX6_mean_51 ?_
      refine lv_icmp_ge (tgt := 77) hx hb dX6_mean_52 (by decide) (fun c5 => ?_) (fun c5 => ?_)
      · replace h := h.1 c5
        refine lv_aload_n hx hb dX6_mean_77 rfl (lv_at hl 0 rfl) ?_
        refine lv_lload_n hx hb dX6_mean_78 rfl (lv_at hl 2 rfl) ?_
        refine lv_aload_n hx hb dX6_mean_79 rfl (lv_at hl 0 rfl) ?_
        refine va_get (ci := 5) (v := va_re ad (tM x0 6)) (C := RX6) (T := TX6) (N := 42) hx hb hts hi_X6 hown hE.1 hP x0 (w_5 hE hk0) rfl 6 (by decide) (hts (.fieldLink RX6 16 "HemLineModel" "rowSize" "[I") (by decide +kernel)) (fun _ h9 => h9) rfl dX6_mean_80 ?_
        refine lv_iload_n hx hb dX6_mean_83 rfl (lv_at hl 1 rfl) ?_
        obtain ⟨k6, e7, q8, i9, h⟩ := h
        refine r_iald hx hb hE hP e7 q8 i9 dX6_mean_84 ?_
        refine lv_i2l hx hb dX6_mean_85 rfl ?_
        obtain ⟨z10, h⟩ := h
        refine lv_ldiv hx hb dX6_mean_86 z10 ?_
        refine lv_l2i hx hb dX6_mean_87 rfl ?_
        refine f_i (kV (As := [.int ((x2 / ((gR σ k6 x1.toNatClampNeg).toInt64)).toInt32)]) (rest := []) (o := some x0) rfl ⟨hx, hb, hml, hown, hts⟩ (c_X6_tellsAsked l D cs ad x0 ((x2 / ((gR σ k6 x1.toNatClampNeg).toInt64)).toInt32) σ _ hk0) (cwV 1 hts gX6_mean_X6_tellsAsked rfl rfl rfl (by decide +kernel) ⟨Nat.le_of_ble_eq_true rfl, Nat.le_of_ble_eq_true rfl⟩) hE hP rfl rfl (w_5 hE hk0) h rfl hl.1 rfl (by first | exact lv_room (Nat.le_of_ble_eq_true rfl) | (refine lv_room ?_; simp [re_cat, cat_i, cat_l, cat_r])) dX6_mean_88 ⟨Nat.le_refl _, Nat.le_refl _⟩) hS (fun r12 s11 H locs h hP hS => ?_)
        exact W.iret hx hb hr (fun t ht hW => ⟨⟨_, _, rfl, h, pw ht hP⟩, hS.F ht⟩) hS.2.2 dX6_mean_91
      · replace h := h.2 c5
        refine lv_lload_n hx hb dX6_mean_55 rfl (lv_at hl 2 rfl) ?_
        refine lv_aload_n hx hb dX6_mean_56 rfl (lv_at hl 0 rfl) ?_
        refine va_get (ci := 5) (v := va_re ad (tM x0 5)) (C := RX6) (T := TX6) (N := 42) hx hb hts hi_X6 hown hE.1 hP x0 (w_5 hE hk0) rfl 5 (by decide) (hts (.fieldLink RX6 13 "HemLineModel" "cells" "[I") (by decide +kernel)) (fun _ h9 => h9) rfl dX6_mean_57 ?_
        refine lv_bipush (v := 40) hx hb dX6_mean_60 (by decide) ?_
        refine lv_iload_n hx hb dX6_mean_62 rfl (lv_at hl 1 rfl) ?_
        refine lv_imul hx hb dX6_mean_63 ?_
        refine lv_iload hx hb dX6_mean_64 (lv_at hl 3 rfl) ?_
        refine lv_iadd hx hb dX6_mean_66 ?_
        obtain ⟨k13, e14, q15, i16, h⟩ := h
        refine r_iald hx hb hE hP e14 q15 i16 dX6_mean_67 ?_
        refine lv_i2l hx hb dX6_mean_68 rfl ?_
        refine lv_ladd hx hb dX6_mean_69 ?_
        refine lv_lstore_n (i := 2) (lv' := [(2, .long (x2 + ((gR σ k13 ((40 * x1) + x4).toNatClampNeg).toInt64))), (0, .ref (ad x0)), (1, .int x1), (4, .int x4)]) hx hb dX6_mean_70 rfl hl (by decide) (by first | rfl | simp [re_cat, cat_i, cat_l, cat_r]) (fun ls hl => ?_)
        refine lv_iinc (v := x4 + 1) (lv' := [(4, .int (x4 + 1)), (2, .long (x2 + ((gR σ k13 ((40 * x1) + x4).toNatClampNeg).toInt64))), (0, .ref (ad x0)), (1, .int x1)]) hx hb dX6_mean_71 hl (k := 3) rfl rfl (by decide) (by first | rfl | simp [re_cat, cat_i, cat_l, cat_r]) (fun ls hl => ?_)
        refine lv_goto (tgt := 44) hx hb dX6_mean_74 (by decide) ?_
        exact ih x1 (x2 + ((gR σ k13 ((40 * x1) + x4).toNatClampNeg).toInt64)) (x4 + 1) σ H locs ls h hP hS (lv_sub hl [2, 3, 1, 0] rfl)
  unfold p_X6_mean at h
  refine lv_iload_n hx hb dX6_mean_0 rfl (lv_at hl 1 rfl) ?_
  refine f_i (kS (As := [.int x1]) (rest := []) ⟨hx, hb, hml, hown, hts⟩ (c_X6_isRow l D cs ad x1 s0 _) (va_cwS 1 hts gX6_mean_X6_isRow rfl rfl rfl (by decide +kernel) ⟨Nat.le_of_ble_eq_true rfl, Nat.le_of_ble_eq_true rfl⟩) hE hP h rfl hl.1 rfl (by first | exact lv_room (Nat.le_of_ble_eq_true rfl) | (refine lv_room ?_; simp [re_cat, cat_i, cat_l, cat_r])) dX6_mean_1 ⟨Nat.le_refl _, Nat.le_refl _⟩) hS (fun r2 s1 H locs h hP hS => ?_)
  refine lv_if_ne (tgt := 9) hx hb dX6_mean_4 (by decide) (fun c3 => ?_) (fun c3 => ?_)
  · replace h := h.2 c3
    refine lv_aload_n hx hb dX6_mean_9 rfl (lv_at hl 0 rfl) ?_
    refine va_get (ci := 5) (v := va_re ad (tM x0 6)) (C := RX6) (T := TX6) (N := 42) hx hb hts hi_X6 hown hE.1 hP x0 (w_5 hE hk0) rfl 6 (by decide) (hts (.fieldLink RX6 16 "HemLineModel" "rowSize" "[I") (by decide +kernel)) (fun _ h9 => h9) rfl dX6_mean_10 ?_
    refine lv_iload_n hx hb dX6_mean_13 rfl (lv_at hl 1 rfl) ?_
    obtain ⟨k4, e5, q6, i7, h⟩ := h
    refine r_iald hx hb hE hP e5 q6 i7 dX6_mean_14 ?_
    refine lv_if_ge (tgt := 24) hx hb dX6_mean_15 (by decide) (fun c8 => ?_) (fun c8 => ?_)
    · replace h := h.1 c8
      refine lv_aload_n hx hb dX6_mean_24 rfl (lv_at hl 0 rfl) ?_
      refine va_get (ci := 5) (v := va_re ad (tM x0 6)) (C := RX6) (T := TX6) (N := 42) hx hb hts hi_X6 hown hE.1 hP x0 (w_5 hE hk0) rfl 6 (by decide) (hts (.fieldLink RX6 16 "HemLineModel" "rowSize" "[I") (by decide +kernel)) (fun _ h9 => h9) rfl dX6_mean_25 ?_
      refine lv_iload_n hx hb dX6_mean_28 rfl (lv_at hl 1 rfl) ?_
      obtain ⟨k9, e10, q11, i12, h⟩ := h
      refine r_iald hx hb hE hP e10 q11 i12 dX6_mean_29 ?_
      refine lv_if_ne (tgt := 39) hx hb dX6_mean_30 (by decide) (fun c13 => ?_) (fun c13 => ?_)
      · replace h := h.2 c13
        refine lv_lconst (v := 0) hx hb dX6_mean_39 (by decide) ?_
        refine lv_lstore_n (i := 2) (lv' := [(2, .long 0), (0, .ref (ad x0)), (1, .int x1)]) hx hb dX6_mean_40 rfl hl (by decide) (by first | rfl | simp [re_cat, cat_i, cat_l, cat_r]) (fun ls hl => ?_)
        refine lv_iconst (v := 0) hx hb dX6_mean_41 (by decide) ?_
        refine lv_istore (i := 4) (lv' := [(4, .int 0), (2, .long 0), (0, .ref (ad x0)), (1, .int x1)]) hx hb dX6_mean_42 hl (by decide) (by first | rfl | simp [re_cat, cat_i, cat_l, cat_r]) (fun ls hl => ?_)
        obtain ⟨n14, h⟩ := h
        exact hB44 n14 x1 0 0 s1 _ _ ls h hP hS (lv_sub hl [2, 3, 1, 0] rfl)
      · replace h := h.1 c13
        refine lv_aload_n hx hb dX6_mean_33 rfl (lv_at hl 0 rfl) ?_
        refine lv_iconst (v := 4) hx hb dX6_mean_34 (by decide) ?_
        refine f_i (kV (As := [.int 4]) (rest := []) (o := some x0) rfl ⟨hx, hb, hml, hown, hts⟩ (c_X6_refuse l D cs ad x0 4 s1 _ hk0) (cwV 1 hts gX6_mean_X6_refuse rfl rfl rfl (by decide +kernel) ⟨Nat.le_of_ble_eq_true rfl, Nat.le_of_ble_eq_true rfl⟩) hE hP rfl rfl (w_5 hE hk0) h rfl hl.1 rfl (by first | exact lv_room (Nat.le_of_ble_eq_true rfl) | (refine lv_room ?_; simp [re_cat, cat_i, cat_l, cat_r])) dX6_mean_35 ⟨Nat.le_refl _, Nat.le_refl _⟩) hS (fun r16 s15 H locs h hP hS => ?_)
        exact W.iret hx hb hr (fun t ht hW => ⟨⟨_, _, rfl, h, pw ht hP⟩, hS.F ht⟩) hS.2.2 dX6_mean_38
    · replace h := h.2 c8
      refine lv_aload_n hx hb dX6_mean_18 rfl (lv_at hl 0 rfl) ?_
      refine lv_iconst (v := 1) hx hb dX6_mean_19 (by decide) ?_
      refine f_i (kV (As := [.int 1]) (rest := []) (o := some x0) rfl ⟨hx, hb, hml, hown, hts⟩ (c_X6_refuse l D cs ad x0 1 s1 _ hk0) (cwV 1 hts gX6_mean_X6_refuse rfl rfl rfl (by decide +kernel) ⟨Nat.le_of_ble_eq_true rfl, Nat.le_of_ble_eq_true rfl⟩) hE hP rfl rfl (w_5 hE hk0) h rfl hl.1 rfl (by first | exact lv_room (Nat.le_of_ble_eq_true rfl) | (refine lv_room ?_; simp [re_cat, cat_i, cat_l, cat_r])) dX6_mean_20 ⟨Nat.le_refl _, Nat.le_refl _⟩) hS (fun r18 s17 H locs h hP hS => ?_)
      exact W.iret hx hb hr (fun t ht hW => ⟨⟨_, _, rfl, h, pw ht hP⟩, hS.F ht⟩) hS.2.2 dX6_mean_23
  · replace h := h.1 c3
    refine lv_iconst (v := (-1)) hx hb dX6_mean_7 (by decide) ?_
    exact W.iret hx hb hr (fun t ht hW => ⟨⟨_, _, rfl, h, pw ht hP⟩, hS.F ht⟩) hS.2.2 dX6_mean_8
def p_X6_isText (x0 : Int32) (s : Sg) (Q : Int32 → Sg → Prop) : Prop := p_X6_in x0 0 3 s (fun r2 s1 => (r2 = 0 ∨ r2 = 1) ∧ Q r2 s1)
set_option maxHeartbeats 4000000 in
set_option maxRecDepth 100000 in
theorem c_X6_isText (l : Launch) (D : va_G) (cs : Cs) (ad : Nat → Nat) (x0 : Int32) (s0 : Sg) (Q : Int32 → Sg → Prop) : Met l yX6_isText wsX6_isText { frames := 1, cells := 0, slots := 0, locals := 22 } (Pc0 bM D cs ad [.int x0] s0 (p_X6_isText x0 s0 Q)) (QI bM D cs ad Q) 0 0 (fAd bM ad) := by
  refine Met.ofW (cc := cX6_isText) (maxL := 1) (ret := (some .boolean)) (by decide) rfl ?_
  intro p e s m args below meth c s₁ B0 hml hv
  obtain ⟨ha, hP, hE, h⟩ := hv
  have hx := B0.exec
  have hb := B0.bytes
  have hr := B0.returns
  have hts := atoms_spec (ws := wsX6_isText) B0.pre
  have hown : s.vm.findClass RX6 = some m.cls := findClass_of_methodNamed B0.named
  have hlocks := B0.notSynchronized
  have hS : va_S (fAd bM ad) s.heap s.heap [] := va_S.rf
  have hl := lv_entry ([.int x0]) (n := 1) (by first | exact Nat.le_of_ble_eq_true rfl | simp [lg_sl, re_cat, cat_i, cat_l, cat_r])
  rw [show entryFrame m args 1 = entryFrame m ([.int x0] : List Value).toArray 1 by rw [ha], lg_entry_eq]
  generalize (lg_sl ([.int x0]) ++ List.replicate (1 - (lg_sl ([.int x0])).length) Slot.unset).toArray = ls at hl ⊢
  have hl : lv_has ls 1 [(0, .int x0)] := by first | exact hl | simpa [lv_args, re_cat, cat_i, cat_l, cat_r] using hl
  unfold p_X6_isText at h
  refine lv_iload_n hx hb dX6_isText_0 rfl (lv_at hl 0 rfl) ?_
  refine lv_iconst (v := 0) hx hb dX6_isText_1 (by decide) ?_
  refine lv_iconst (v := 3) hx hb dX6_isText_2 (by decide) ?_
  refine f_i (kS (As := [.int x0, .int 0, .int 3]) (rest := []) ⟨hx, hb, hml, hown, hts⟩ (c_X6_in l D cs ad x0 0 3 s0 _) (va_cwS 3 hts gX6_isText_X6_in rfl rfl rfl (by decide +kernel) ⟨Nat.le_of_ble_eq_true rfl, Nat.le_of_ble_eq_true rfl⟩) hE hP h rfl hl.1 rfl (by first | exact lv_room (Nat.le_of_ble_eq_true rfl) | (refine lv_room ?_; simp [re_cat, cat_i, cat_l, cat_r])) dX6_isText_3 ⟨Nat.le_refl _, Nat.le_refl _⟩) hS (fun r2 s1 H locs h hP hS => ?_)
  obtain ⟨z3, h⟩ := h
  exact W.zret hx hb hr (by rcases z3 with z3 | z3 <;> rw [z3] <;> rfl) (fun t ht hW => ⟨⟨_, _, rfl, h, pw ht hP⟩, hS.F ht⟩) hS.2.2 dX6_isText_6
def p_X6_text_L34 (Q : Int32 → Sg → Prop)  : Nat → Nat → Int32 → Int32 → Int32 → Sg → Prop
  | 0, _, _, _, _, _ => False
  | n + 1, x0, x1, x2, x3, s => ((60 ≤ x3 → Q x2 s) ∧ (¬ 60 ≤ x3 → ∃ k2, tM x0 7 = some k2 ∧ kM k2 = 6 ∧ vp_in ((60 * x1) + x3) (lM k2) ∧ p_X6_text_L34 Q  n x0 x1 x2 (x3 + 1) (setR s k2 (upd (gR s k2) ((60 * x1) + x3).toNatClampNeg (vp_nar .byte 32)))))
def p_X6_text (x0 : Nat) (x1 : Int32) (x2 : Int32) (s : Sg) (Q : Int32 → Sg → Prop) : Prop := p_X6_isText x1 s (fun r2 s1 => ((r2 = 0 → Q ((-1)) s1) ∧ (¬ r2 = 0 → ((x2 ≤ 60 → ((0 ≤ x2 → ∃ k6, tM x0 8 = some k6 ∧ kM k6 = 7 ∧ vp_in x1 (lM k6) ∧ (∃ n10, p_X6_text_L34 Q  n10 x0 x1 x2 0 (setR s1 k6 (upd (gR s1 k6) x1.toNatClampNeg x2)))) ∧ (¬ 0 ≤ x2 → p_X6_refuse x0 5 s1 (fun r12 s11 => Q r12 s11)))) ∧ (¬ x2 ≤ 60 → Q ((-1)) s1)))))
set_option maxHeartbeats 4000000 in
set_option maxRecDepth 100000 in
theorem c_X6_text (l : Launch) (D : va_G) (cs : Cs) (ad : Nat → Nat) (x0 : Nat) (x1 : Int32) (x2 : Int32) (s0 : Sg) (Q : Int32 → Sg → Prop) (hk0 : kM x0 = 5) : Met l yX6_text wsX6_text { frames := 2, cells := 0, slots := 0, locals := 42 } (Pc0 bM D cs ad [.ref (ad x0), .int x1, .int x2] s0 (p_X6_text x0 x1 x2 s0 Q)) (QI bM D cs ad Q) 0 0 (fAd bM ad) := by
  refine Met.ofW (cc := cX6_text) (maxL := 4) (ret := (some .int)) (by decide) rfl ?_
  intro p e s m args below meth c s₁ B0 hml hv
  obtain ⟨ha, hP, hE, h⟩ := hv
  have hx := B0.exec
  have hb := B0.bytes
  have hr := B0.returns
  have hts := atoms_spec (ws := wsX6_text) B0.pre
  have hown : s.vm.findClass RX6 = some m.cls := findClass_of_methodNamed B0.named
  have hlocks := B0.notSynchronized
  have hi_X6 : ∀ w ∈ u_ws RX6 TX6 42, w ∈ wsX6_text := by decide +kernel
  have hS : va_S (fAd bM ad) s.heap s.heap [] := va_S.rf
  have hl := lv_entry ([.ref (ad x0), .int x1, .int x2]) (n := 4) (by first | exact Nat.le_of_ble_eq_true rfl | simp [lg_sl, re_cat, cat_i, cat_l, cat_r])
  rw [show entryFrame m args 4 = entryFrame m ([.ref (ad x0), .int x1, .int x2] : List Value).toArray 4 by rw [ha], lg_entry_eq]
  generalize (lg_sl ([.ref (ad x0), .int x1, .int x2]) ++ List.replicate (4 - (lg_sl ([.ref (ad x0), .int x1, .int x2])).length) Slot.unset).toArray = ls at hl ⊢
  have hl : lv_has ls 4 [(0, .ref (ad x0)), (1, .int x1), (2, .int x2)] := by first | exact hl | simpa [lv_args, re_cat, cat_i, cat_l, cat_r] using hl
  have hB34 : ∀ (n34 : Nat) (x1 : Int32) (x2 : Int32) (x3 : Int32) (σ : Sg) (H : Heap) (locs : List Loc) (ls : Array Slot), p_X6_text_L34 Q  n34 x0 x1 x2 x3 σ → va_P D vwCl (wl bM cs ad σ) H → va_S (fAd bM ad) s.heap H locs → lv_has ls 4 [(0, .ref (ad x0)), (1, .int x1), (2, .int x2), (3, .int x3)] → W p l e { frames := 2, cells := 0, slots := 0, locals := 42 } s m args below meth c H locs 0 0 (MQ below (QI bM D cs ad Q) args s 0 0 (fAd bM ad)) (F0 m 34 ls []) := by
    intro n34
    induction n34 with
    | zero =>
      intro x1 x2 x3 σ H locs ls h
      exact h.elim
    | succ n34 ih =>
      have hK34 := ih
      intro x1 x2 x3 σ H locs ls h hP hS hl
      rw [p_X6_text_L34] at h
      refine lv_iload_n hx hb dX6_text_34 rfl (lv_at hl 3 rfl) ?_
      refine lv_bipush (v := 60) hx hb dX6_text_35 (by decide) ?_
      refine lv_icmp_ge (tgt := 59) hx hb dX6_text_37 (by decide) (fun c1 => ?_) (fun c1 => ?_)
      · replace h := h.1 c1
        refine lv_iload_n hx hb dX6_text_59 rfl (lv_at hl 2 rfl) ?_
        exact W.iret hx hb hr (fun t ht hW => ⟨⟨_, _, rfl, h, pw ht hP⟩, hS.F ht⟩) hS.2.2 dX6_text_60
      · replace h := h.2 c1
        refine lv_aload_n hx hb dX6_text_40 rfl (lv_at hl 0 rfl) ?_
        refine va_get (ci := 5) (v := va_re ad (tM x0 7)) (C := RX6) (T := TX6) (N := 42) hx hb hts hi_X6 hown hE.1 hP x0 (w_5 hE hk0) rfl 7 (by decide) (hts (.fieldLink RX6 19 "HemLineModel" "bytes" "[B") (by decide +kernel)) (fun _ h9 => h9) rfl dX6_text_41 ?_
        refine lv_bipush (v := 60) hx hb dX6_text_44 (by decide) ?_
        refine lv_iload_n hx hb dX6_text_46 rfl (lv_at hl 1 rfl) ?_
        refine lv_imul hx hb dX6_text_47 ?_
        refine lv_iload_n hx hb dX6_text_48 rfl (lv_at hl 3 rfl) ?_
        refine lv_iadd hx hb dX6_text_49 ?_
        refine lv_bipush (v := 32) hx hb dX6_text_50 (by decide) ?_
        obtain ⟨k2, e3, q4, i5, h⟩ := h
        refine r_bast hx hb hE hP hS e3 q4 i5 dX6_text_52 (fun H locs hP hS => ?_)
        refine lv_iinc (v := x3 + 1) (lv' := [(3, .int (x3 + 1)), (0, .ref (ad x0)), (1, .int x1), (2, .int x2)]) hx hb dX6_text_53 hl (k := 3) rfl rfl (by decide) (by first | rfl | simp [re_cat, cat_i, cat_l, cat_r]) (fun ls hl => ?_)
        refine lv_goto (tgt := 34) hx hb dX6_text_56 (by decide) ?_
        exact ih x1 x2 (x3 + 1) (setR σ k2 (upd (gR σ k2) ((60 * x1) + x3).toNatClampNeg (vp_nar .byte 32))) H locs ls h hP hS (lv_sub hl [1, 2, 3, 0] rfl)
  unfold p_X6_text at h
  refine lv_iload_n hx hb dX6_text_0 rfl (lv_at hl 1 rfl) ?_
  refine f_i (kS (As := [.int x1]) (rest := []) ⟨hx, hb, hml, hown, hts⟩ (c_X6_isText l D cs ad x1 s0 _) (va_cwS 1 hts gX6_text_X6_isText rfl rfl rfl (by decide +kernel) ⟨Nat.le_of_ble_eq_true rfl, Nat.le_of_ble_eq_true rfl⟩) hE hP h rfl hl.1 rfl (by first | exact lv_room (Nat.le_of_ble_eq_true rfl) | (refine lv_room ?_; simp [re_cat, cat_i, cat_l, cat_r])) dX6_text_1 ⟨Nat.le_refl _, Nat.le_refl _⟩) hS (fun r2 s1 H locs h hP hS => ?_)
  refine lv_if_eq (tgt := 13) hx hb dX6_text_4 (by decide) (fun c3 => ?_) (fun c3 => ?_)
  · replace h := h.1 c3
    refine lv_iconst (v := (-1)) hx hb dX6_text_13 (by decide) ?_
    exact W.iret hx hb hr (fun t ht hW => ⟨⟨_, _, rfl, h, pw ht hP⟩, hS.F ht⟩) hS.2.2 dX6_text_14
  · replace h := h.2 c3
    refine lv_iload_n hx hb dX6_text_7 rfl (lv_at hl 2 rfl) ?_
    refine lv_bipush (v := 60) hx hb dX6_text_8 (by decide) ?_
    refine lv_icmp_le (tgt := 15) hx hb dX6_text_10 (by decide) (fun c4 => ?_) (fun c4 => ?_)
    · replace h := h.1 c4
      refine lv_iload_n hx hb dX6_text_15 rfl (lv_at hl 2 rfl) ?_
      refine lv_if_ge (tgt := 25) hx hb dX6_text_16 (by decide) (fun c5 => ?_) (fun c5 => ?_)
      · replace h := h.1 c5
        refine lv_aload_n hx hb dX6_text_25 rfl (lv_at hl 0 rfl) ?_
        refine va_get (ci := 5) (v := va_re ad (tM x0 8)) (C := RX6) (T := TX6) (N := 42) hx hb hts hi_X6 hown hE.1 hP x0 (w_5 hE hk0) rfl 8 (by decide) (hts (.fieldLink RX6 23 "HemLineModel" "textSize" "[I") (by decide +kernel)) (fun _ h9 => h9) rfl dX6_text_26 ?_
        refine lv_iload_n hx hb dX6_text_29 rfl (lv_at hl 1 rfl) ?_
        refine lv_iload_n hx hb dX6_text_30 rfl (lv_at hl 2 rfl) ?_
        obtain ⟨k6, e7, q8, i9, h⟩ := h
        refine r_iast hx hb hE hP hS e7 q8 i9 dX6_text_31 (fun H locs hP hS => ?_)
        refine lv_iconst (v := 0) hx hb dX6_text_32 (by decide) ?_
        refine lv_istore_n (i := 3) (lv' := [(3, .int 0), (0, .ref (ad x0)), (1, .int x1), (2, .int x2)]) hx hb dX6_text_33 rfl hl (by decide) (by first | rfl | simp [re_cat, cat_i, cat_l, cat_r]) (fun ls hl => ?_)
        obtain ⟨n10, h⟩ := h
        exact hB34 n10 x1 x2 0 (setR s1 k6 (upd (gR s1 k6) x1.toNatClampNeg x2)) _ _ ls h hP hS (lv_sub hl [1, 2, 3, 0] rfl)
      · replace h := h.2 c5
        refine lv_aload_n hx hb dX6_text_19 rfl (lv_at hl 0 rfl) ?_
        refine lv_iconst (v := 5) hx hb dX6_text_20 (by decide) ?_
        refine f_i (kV (As := [.int 5]) (rest := []) (o := some x0) rfl ⟨hx, hb, hml, hown, hts⟩ (c_X6_refuse l D cs ad x0 5 s1 _ hk0) (cwV 1 hts gX6_text_X6_refuse rfl rfl rfl (by decide +kernel) ⟨Nat.le_of_ble_eq_true rfl, Nat.le_of_ble_eq_true rfl⟩) hE hP rfl rfl (w_5 hE hk0) h rfl hl.1 rfl (by first | exact lv_room (Nat.le_of_ble_eq_true rfl) | (refine lv_room ?_; simp [re_cat, cat_i, cat_l, cat_r])) dX6_text_21 ⟨Nat.le_refl _, Nat.le_refl _⟩) hS (fun r12 s11 H locs h hP hS => ?_)
        exact W.iret hx hb hr (fun t ht hW => ⟨⟨_, _, rfl, h, pw ht hP⟩, hS.F ht⟩) hS.2.2 dX6_text_24
    · replace h := h.2 c4
      refine lv_iconst (v := (-1)) hx hb dX6_text_13 (by decide) ?_
      exact W.iret hx hb hr (fun t ht hW => ⟨⟨_, _, rfl, h, pw ht hP⟩, hS.F ht⟩) hS.2.2 dX6_text_14
def p_X6_put (x0 : Nat) (x1 : Int32) (x2 : Int32) (x3 : Int32) (s : Sg) (Q : Int32 → Sg → Prop) : Prop := p_X6_isText x1 s (fun r2 s1 => ((r2 = 0 → Q ((-1)) s1) ∧ (¬ r2 = 0 → ∃ k4, tM x0 8 = some k4 ∧ kM k4 = 7 ∧ vp_in x1 (lM k4) ∧ ((0 ≤ (gR s1 k4 x1.toNatClampNeg) → ∃ k9, tM x0 8 = some k9 ∧ kM k9 = 7 ∧ vp_in x1 (lM k9) ∧ p_X6_in x2 0 ((gR s1 k9 x1.toNatClampNeg) - 1) s1 (fun r14 s13 => ((r14 = 0 → p_X6_refuse x0 2 s13 (fun r25 s24 => Q r25 s24)) ∧ (¬ r14 = 0 → ∃ k16, tM x0 7 = some k16 ∧ kM k16 = 6 ∧ vp_in ((60 * x1) + x2) (lM k16) ∧ ∃ k20, tM x0 7 = some k20 ∧ kM k20 = 6 ∧ vp_in ((60 * x1) + x2) (lM k20) ∧ Q ((gR s13 k16 ((60 * x1) + x2).toNatClampNeg) + 1000) (setR s13 k20 (upd (gR s13 k20) ((60 * x1) + x2).toNatClampNeg (vp_nar .byte x3.toInt8.toInt32))))))) ∧ (¬ 0 ≤ (gR s1 k4 x1.toNatClampNeg) → p_X6_refuse x0 1 s1 (fun r27 s26 => Q r27 s26))))))
set_option maxHeartbeats 4000000 in
set_option maxRecDepth 100000 in
theorem c_X6_put (l : Launch) (D : va_G) (cs : Cs) (ad : Nat → Nat) (x0 : Nat) (x1 : Int32) (x2 : Int32) (x3 : Int32) (s0 : Sg) (Q : Int32 → Sg → Prop) (hk0 : kM x0 = 5) : Met l yX6_put wsX6_put { frames := 2, cells := 0, slots := 0, locals := 42 } (Pc0 bM D cs ad [.ref (ad x0), .int x1, .int x2, .int x3] s0 (p_X6_put x0 x1 x2 x3 s0 Q)) (QI bM D cs ad Q) 0 0 (fAd bM ad) := by
  refine Met.ofW (cc := cX6_put) (maxL := 5) (ret := (some .int)) (by decide) rfl ?_
  intro p e s m args below meth c s₁ B0 hml hv
  obtain ⟨ha, hP, hE, h⟩ := hv
  have hx := B0.exec
  have hb := B0.bytes
  have hr := B0.returns
  have hts := atoms_spec (ws := wsX6_put) B0.pre
  have hown : s.vm.findClass RX6 = some m.cls := findClass_of_methodNamed B0.named
  have hlocks := B0.notSynchronized
  have hi_X6 : ∀ w ∈ u_ws RX6 TX6 42, w ∈ wsX6_put := by decide +kernel
  have hS : va_S (fAd bM ad) s.heap s.heap [] := va_S.rf
  have hl := lv_entry ([.ref (ad x0), .int x1, .int x2, .int x3]) (n := 5) (by first | exact Nat.le_of_ble_eq_true rfl | simp [lg_sl, re_cat, cat_i, cat_l, cat_r])
  rw [show entryFrame m args 5 = entryFrame m ([.ref (ad x0), .int x1, .int x2, .int x3] : List Value).toArray 5 by rw [ha], lg_entry_eq]
  generalize (lg_sl ([.ref (ad x0), .int x1, .int x2, .int x3]) ++ List.replicate (5 - (lg_sl ([.ref (ad x0), .int x1, .int x2, .int x3])).length) Slot.unset).toArray = ls at hl ⊢
  have hl : lv_has ls 5 [(0, .ref (ad x0)), (1, .int x1), (2, .int x2), (3, .int x3)] := by first | exact hl | simpa [lv_args, re_cat, cat_i, cat_l, cat_r] using hl
  unfold p_X6_put at h
  refine lv_iload_n hx hb dX6_put_0 rfl (lv_at hl 1 rfl) ?_
  refine f_i (kS (As := [.int x1]) (rest := []) ⟨hx, hb, hml, hown, hts⟩ (c_X6_isText l D cs ad x1 s0 _) (va_cwS 1 hts gX6_put_X6_isText rfl rfl rfl (by decide +kernel) ⟨Nat.le_of_ble_eq_true rfl, Nat.le_of_ble_eq_true rfl⟩) hE hP h rfl hl.1 rfl (by first | exact lv_room (Nat.le_of_ble_eq_true rfl) | (refine lv_room ?_; simp [re_cat, cat_i, cat_l, cat_r])) dX6_put_1 ⟨Nat.le_refl _, Nat.le_refl _⟩) hS (fun r2 s1 H locs h hP hS => ?_)
  refine lv_if_ne (tgt := 9) hx hb dX6_put_4 (by decide) (fun c3 => ?_) (fun c3 => ?_)
  · replace h := h.2 c3
    refine lv_aload_n hx hb dX6_put_9 rfl (lv_at hl 0 rfl) ?_
    refine va_get (ci := 5) (v := va_re ad (tM x0 8)) (C := RX6) (T := TX6) (N := 42) hx hb hts hi_X6 hown hE.1 hP x0 (w_5 hE hk0) rfl 8 (by decide) (hts (.fieldLink RX6 23 "HemLineModel" "textSize" "[I") (by decide +kernel)) (fun _ h9 => h9) rfl dX6_put_10 ?_
    refine lv_iload_n hx hb dX6_put_13 rfl (lv_at hl 1 rfl) ?_
    obtain ⟨k4, e5, q6, i7, h⟩ := h
    refine r_iald hx hb hE hP e5 q6 i7 dX6_put_14 ?_
    refine lv_if_ge (tgt := 24) hx hb dX6_put_15 (by decide) (fun c8 => ?_) (fun c8 => ?_)
    · replace h := h.1 c8
      refine lv_iload_n hx hb dX6_put_24 rfl (lv_at hl 2 rfl) ?_
      refine lv_iconst (v := 0) hx hb dX6_put_25 (by decide) ?_
      refine lv_aload_n hx hb dX6_put_26 rfl (lv_at hl 0 rfl) ?_
      refine va_get (ci := 5) (v := va_re ad (tM x0 8)) (C := RX6) (T := TX6) (N := 42) hx hb hts hi_X6 hown hE.1 hP x0 (w_5 hE hk0) rfl 8 (by decide) (hts (.fieldLink RX6 23 "HemLineModel" "textSize" "[I") (by decide +kernel)) (fun _ h9 => h9) rfl dX6_put_27 ?_
      refine lv_iload_n hx hb dX6_put_30 rfl (lv_at hl 1 rfl) ?_
      obtain ⟨k9, e10, q11, i12, h⟩ := h
      refine r_iald hx hb hE hP e10 q11 i12 dX6_put_31 ?_
      refine lv_iconst (v := 1) hx hb dX6_put_32 (by decide) ?_
      refine lv_isub hx hb dX6_put_33 ?_
      refine f_i (kS (As := [.int x2, .int 0, .int ((gR s1 k9 x1.toNatClampNeg) - 1)]) (rest := []) ⟨hx, hb, hml, hown, hts⟩ (c_X6_in l D cs ad x2 0 ((gR s1 k9 x1.toNatClampNeg) - 1) s1 _) (va_cwS 3 hts gX6_put_X6_in rfl rfl rfl (by decide +kernel) ⟨Nat.le_of_ble_eq_true rfl, Nat.le_of_ble_eq_true rfl⟩) hE hP h rfl hl.1 rfl (by first | exact lv_room (Nat.le_of_ble_eq_true rfl) | (refine lv_room ?_; simp [re_cat, cat_i, cat_l, cat_r])) dX6_put_34 ⟨Nat.le_refl _, Nat.le_refl _⟩) hS (fun r14 s13 H locs h hP hS => ?_)
      refine lv_if_ne (tgt := 46) hx hb dX6_put_37 (by decide) (fun c15 => ?_) (fun c15 => ?_)
      · replace h := h.2 c15
        refine lv_aload_n hx hb dX6_put_46 rfl (lv_at hl 0 rfl) ?_
        refine va_get (ci := 5) (v := va_re ad (tM x0 7)) (C := RX6) (T := TX6) (N := 42) hx hb hts hi_X6 hown hE.1 hP x0 (w_5 hE hk0) rfl 7 (by decide) (hts (.fieldLink RX6 19 "HemLineModel" "bytes" "[B") (by decide +kernel)) (fun _ h9 => h9) rfl dX6_put_47 ?_
        refine lv_bipush (v := 60) hx hb dX6_put_50 (by decide) ?_
        refine lv_iload_n hx hb dX6_put_52 rfl (lv_at hl 1 rfl) ?_
        refine lv_imul hx hb dX6_put_53 ?_
        refine lv_iload_n hx hb dX6_put_54 rfl (lv_at hl 2 rfl) ?_
        refine lv_iadd hx hb dX6_put_55 ?_
        obtain ⟨k16, e17, q18, i19, h⟩ := h
        refine r_bald hx hb hE hP e17 q18 i19 dX6_put_56 ?_
        refine lv_istore (i := 4) (lv' := [(4, .int (gR s13 k16 ((60 * x1) + x2).toNatClampNeg)), (0, .ref (ad x0)), (1, .int x1), (2, .int x2), (3, .int x3)]) hx hb dX6_put_57 hl (by decide) (by first | rfl | simp [re_cat, cat_i, cat_l, cat_r]) (fun ls hl => ?_)
        refine lv_aload_n hx hb dX6_put_59 rfl (lv_at hl 1 rfl) ?_
        refine va_get (ci := 5) (v := va_re ad (tM x0 7)) (C := RX6) (T := TX6) (N := 42) hx hb hts hi_X6 hown hE.1 hP x0 (w_5 hE hk0) rfl 7 (by decide) (hts (.fieldLink RX6 19 "HemLineModel" "bytes" "[B") (by decide +kernel)) (fun _ h9 => h9) rfl dX6_put_60 ?_
        refine lv_bipush (v := 60) hx hb dX6_put_63 (by decide) ?_
        refine lv_iload_n hx hb dX6_put_65 rfl (lv_at hl 2 rfl) ?_
        refine lv_imul hx hb dX6_put_66 ?_
        refine lv_iload_n hx hb dX6_put_67 rfl (lv_at hl 3 rfl) ?_
        refine lv_iadd hx hb dX6_put_68 ?_
        refine lv_iload_n hx hb dX6_put_69 rfl (lv_at hl 4 rfl) ?_
        refine lv_i2b hx hb dX6_put_70 rfl ?_
        obtain ⟨k20, e21, q22, i23, h⟩ := h
        refine r_bast hx hb hE hP hS e21 q22 i23 dX6_put_71 (fun H locs hP hS => ?_)
        refine lv_iload hx hb dX6_put_72 (lv_at hl 0 rfl) ?_
        refine lv_sipush (v := 1000) hx hb dX6_put_74 (by decide) ?_
        refine lv_iadd hx hb dX6_put_77 ?_
        exact W.iret hx hb hr (fun t ht hW => ⟨⟨_, _, rfl, h, pw ht hP⟩, hS.F ht⟩) hS.2.2 dX6_put_78
      · replace h := h.1 c15
        refine lv_aload_n hx hb dX6_put_40 rfl (lv_at hl 0 rfl) ?_
        refine lv_iconst (v := 2) hx hb dX6_put_41 (by decide) ?_
        refine f_i (kV (As := [.int 2]) (rest := []) (o := some x0) rfl ⟨hx, hb, hml, hown, hts⟩ (c_X6_refuse l D cs ad x0 2 s13 _ hk0) (cwV 1 hts gX6_put_X6_refuse rfl rfl rfl (by decide +kernel) ⟨Nat.le_of_ble_eq_true rfl, Nat.le_of_ble_eq_true rfl⟩) hE hP rfl rfl (w_5 hE hk0) h rfl hl.1 rfl (by first | exact lv_room (Nat.le_of_ble_eq_true rfl) | (refine lv_room ?_; simp [re_cat, cat_i, cat_l, cat_r])) dX6_put_42 ⟨Nat.le_refl _, Nat.le_refl _⟩) hS (fun r25 s24 H locs h hP hS => ?_)
        exact W.iret hx hb hr (fun t ht hW => ⟨⟨_, _, rfl, h, pw ht hP⟩, hS.F ht⟩) hS.2.2 dX6_put_45
    · replace h := h.2 c8
      refine lv_aload_n hx hb dX6_put_18 rfl (lv_at hl 0 rfl) ?_
      refine lv_iconst (v := 1) hx hb dX6_put_19 (by decide) ?_
      refine f_i (kV (As := [.int 1]) (rest := []) (o := some x0) rfl ⟨hx, hb, hml, hown, hts⟩ (c_X6_refuse l D cs ad x0 1 s1 _ hk0) (cwV 1 hts gX6_put_X6_refuse rfl rfl rfl (by decide +kernel) ⟨Nat.le_of_ble_eq_true rfl, Nat.le_of_ble_eq_true rfl⟩) hE hP rfl rfl (w_5 hE hk0) h rfl hl.1 rfl (by first | exact lv_room (Nat.le_of_ble_eq_true rfl) | (refine lv_room ?_; simp [re_cat, cat_i, cat_l, cat_r])) dX6_put_20 ⟨Nat.le_refl _, Nat.le_refl _⟩) hS (fun r27 s26 H locs h hP hS => ?_)
      exact W.iret hx hb hr (fun t ht hW => ⟨⟨_, _, rfl, h, pw ht hP⟩, hS.F ht⟩) hS.2.2 dX6_put_23
  · replace h := h.1 c3
    refine lv_iconst (v := (-1)) hx hb dX6_put_7 (by decide) ?_
    exact W.iret hx hb hr (fun t ht hW => ⟨⟨_, _, rfl, h, pw ht hP⟩, hS.F ht⟩) hS.2.2 dX6_put_8
def p_X6_here (x0 : Nat) (s : Sg) (Q : Int32 → Sg → Prop) : Prop := ∃ k1, tM x0 8 = some k1 ∧ kM k1 = 7 ∧ vp_in (gI s x0 17) (lM k1) ∧ (((gR s k1 (gI s x0 17).toNatClampNeg) ≤ (gI s x0 18) → Q ((-9)) s) ∧ (¬ (gR s k1 (gI s x0 17).toNatClampNeg) ≤ (gI s x0 18) → ∃ k6, tM x0 7 = some k6 ∧ kM k6 = 6 ∧ vp_in ((60 * (gI s x0 17)) + (gI s x0 18)) (lM k6) ∧ Q (gR s k6 ((60 * (gI s x0 17)) + (gI s x0 18)).toNatClampNeg) s))
set_option maxHeartbeats 4000000 in
set_option maxRecDepth 100000 in
theorem c_X6_here (l : Launch) (D : va_G) (cs : Cs) (ad : Nat → Nat) (x0 : Nat) (s0 : Sg) (Q : Int32 → Sg → Prop) (hk0 : kM x0 = 5) : Met l yX6_here wsX6_here { frames := 0, cells := 0, slots := 0, locals := 0 } (Pc0 bM D cs ad [.ref (ad x0)] s0 (p_X6_here x0 s0 Q)) (QI bM D cs ad Q) 0 0 (fAd bM ad) := by
  refine Met.ofW (cc := cX6_here) (maxL := 1) (ret := (some .int)) (by decide) rfl ?_
  intro p e s m args below meth c s₁ B0 hml hv
  obtain ⟨ha, hP, hE, h⟩ := hv
  have hx := B0.exec
  have hb := B0.bytes
  have hr := B0.returns
  have hts := atoms_spec (ws := wsX6_here) B0.pre
  have hown : s.vm.findClass RX6 = some m.cls := findClass_of_methodNamed B0.named
  have hlocks := B0.notSynchronized
  have hi_X6 : ∀ w ∈ u_ws RX6 TX6 42, w ∈ wsX6_here := by decide +kernel
  have hS : va_S (fAd bM ad) s.heap s.heap [] := va_S.rf
  have hl := lv_entry ([.ref (ad x0)]) (n := 1) (by first | exact Nat.le_of_ble_eq_true rfl | simp [lg_sl, re_cat, cat_i, cat_l, cat_r])
  rw [show entryFrame m args 1 = entryFrame m ([.ref (ad x0)] : List Value).toArray 1 by rw [ha], lg_entry_eq]
  generalize (lg_sl ([.ref (ad x0)]) ++ List.replicate (1 - (lg_sl ([.ref (ad x0)])).length) Slot.unset).toArray = ls at hl ⊢
  have hl : lv_has ls 1 [(0, .ref (ad x0))] := by first | exact hl | simpa [lv_args, re_cat, cat_i, cat_l, cat_r] using hl
  unfold p_X6_here at h
  refine lv_aload_n hx hb dX6_here_0 rfl (lv_at hl 0 rfl) ?_
  refine va_get (ci := 5) (v := .int (gI s0 x0 18)) (C := RX6) (T := TX6) (N := 42) hx hb hts hi_X6 hown hE.1 hP x0 (w_5 hE hk0) rfl 18 (by decide) (hts (.fieldLink RX6 131 "HemLineModel" "place" "I") (by decide +kernel)) (fun _ h9 => h9) rfl dX6_here_1 ?_
  refine lv_aload_n hx hb dX6_here_4 rfl (lv_at hl 0 rfl) ?_
  refine va_get (ci := 5) (v := va_re ad (tM x0 8)) (C := RX6) (T := TX6) (N := 42) hx hb hts hi_X6 hown hE.1 hP x0 (w_5 hE hk0) rfl 8 (by decide) (hts (.fieldLink RX6 23 "HemLineModel" "textSize" "[I") (by decide +kernel)) (fun _ h9 => h9) rfl dX6_here_5 ?_
  refine lv_aload_n hx hb dX6_here_8 rfl (lv_at hl 0 rfl) ?_
  refine va_get (ci := 5) (v := .int (gI s0 x0 17)) (C := RX6) (T := TX6) (N := 42) hx hb hts hi_X6 hown hE.1 hP x0 (w_5 hE hk0) rfl 17 (by decide) (hts (.fieldLink RX6 134 "HemLineModel" "reading" "I") (by decide +kernel)) (fun _ h9 => h9) rfl dX6_here_9 ?_
  obtain ⟨k1, e2, q3, i4, h⟩ := h
  refine r_iald hx hb hE hP e2 q3 i4 dX6_here_12 ?_
  refine lv_icmp_ge (tgt := 36) hx hb dX6_here_13 (by decide) (fun c5 => ?_) (fun c5 => ?_)
  · replace h := h.1 c5
    refine lv_bipush (v := (-9)) hx hb dX6_here_36 (by decide) ?_
    exact W.iret hx hb hr (fun t ht hW => ⟨⟨_, _, rfl, h, pw ht hP⟩, hS.F ht⟩) hS.2.2 dX6_here_38
  · replace h := h.2 c5
    refine lv_aload_n hx hb dX6_here_16 rfl (lv_at hl 0 rfl) ?_
    refine va_get (ci := 5) (v := va_re ad (tM x0 7)) (C := RX6) (T := TX6) (N := 42) hx hb hts hi_X6 hown hE.1 hP x0 (w_5 hE hk0) rfl 7 (by decide) (hts (.fieldLink RX6 19 "HemLineModel" "bytes" "[B") (by decide +kernel)) (fun _ h9 => h9) rfl dX6_here_17 ?_
    refine lv_bipush (v := 60) hx hb dX6_here_20 (by decide) ?_
    refine lv_aload_n hx hb dX6_here_22 rfl (lv_at hl 0 rfl) ?_
    refine va_get (ci := 5) (v := .int (gI s0 x0 17)) (C := RX6) (T := TX6) (N := 42) hx hb hts hi_X6 hown hE.1 hP x0 (w_5 hE hk0) rfl 17 (by decide) (hts (.fieldLink RX6 134 "HemLineModel" "reading" "I") (by decide +kernel)) (fun _ h9 => h9) rfl dX6_here_23 ?_
    refine lv_imul hx hb dX6_here_26 ?_
    refine lv_aload_n hx hb dX6_here_27 rfl (lv_at hl 0 rfl) ?_
    refine va_get (ci := 5) (v := .int (gI s0 x0 18)) (C := RX6) (T := TX6) (N := 42) hx hb hts hi_X6 hown hE.1 hP x0 (w_5 hE hk0) rfl 18 (by decide) (hts (.fieldLink RX6 131 "HemLineModel" "place" "I") (by decide +kernel)) (fun _ h9 => h9) rfl dX6_here_28 ?_
    refine lv_iadd hx hb dX6_here_31 ?_
    obtain ⟨k6, e7, q8, i9, h⟩ := h
    refine r_bald hx hb hE hP e7 q8 i9 dX6_here_32 ?_
    refine lv_goto (tgt := 38) hx hb dX6_here_33 (by decide) ?_
    exact W.iret hx hb hr (fun t ht hW => ⟨⟨_, _, rfl, h, pw ht hP⟩, hS.F ht⟩) hS.2.2 dX6_here_38
