def p_X5_item (x0 : Option Nat) (x1 : Int32) (s : Sg) (Q : Int32 → Sg → Prop) : Prop := ((x0 = none → Q 0 s) ∧ (¬ x0 = none → ((x1 < 0 → Q 0 s) ∧ (¬ x1 < 0 → ∃ k3, x0 = some k3 ∧ (kX k3 = 7 ∨ kX k3 = 8 ∨ kX k3 = 9) ∧ (((nI (lX k3)) ≤ x1 → Q 0 s) ∧ (¬ (nI (lX k3)) ≤ x1 → ∃ k7, x0 = some k7 ∧ kX k7 = 7 ∧ vp_in x1 (lX k7) ∧ Q (gR s k7 x1.toNatClampNeg) s))))))
set_option maxHeartbeats 4000000 in
set_option maxRecDepth 100000 in
theorem c_X5_item (l : Launch) (D : va_G) (cs : Cs) (ad : Nat → Nat) (x0 : Option Nat) (x1 : Int32) (s0 : Sg) (Q : Int32 → Sg → Prop) : Met l yX5_item wsX5_item { frames := 0, cells := 0, slots := 0, locals := 0 } (Pc0 bX D cs ad [va_re ad x0, .int x1] s0 (p_X5_item x0 x1 s0 Q)) (QI bX D cs ad Q) 0 0 (fAd bX ad) := by
  refine Met.ofW (cc := cX5_item) (maxL := 2) (ret := (some .int)) (by decide) rfl ?_
  intro p e s m args below meth c s₁ B0 hml hv
  obtain ⟨ha, hP, hE, h⟩ := hv
  have hx := B0.exec
  have hb := B0.bytes
  have hr := B0.returns
  have hts := atoms_spec (ws := wsX5_item) B0.pre
  have hown : s.vm.findClass RX5 = some m.cls := findClass_of_methodNamed B0.named
  have hlocks := B0.notSynchronized
  have hS : va_S (fAd bX ad) s.heap s.heap [] := va_S.rf
  have hl := lv_entry ([va_re ad x0, .int x1]) (n := 2) (by first | exact Nat.le_of_ble_eq_true rfl | simp [lg_sl, re_cat, cat_i, cat_l, cat_r])
  rw [show entryFrame m args 2 = entryFrame m ([va_re ad x0, .int x1] : List Value).toArray 2 by rw [ha], lg_entry_eq]
  generalize (lg_sl ([va_re ad x0, .int x1]) ++ List.replicate (2 - (lg_sl ([va_re ad x0, .int x1])).length) Slot.unset).toArray = ls at hl ⊢
  have hl : lv_has ls 2 [(0, va_re ad x0), (1, .int x1)] := by first | exact hl | simpa [lv_args, re_cat, cat_i, cat_l, cat_r] using hl
  unfold p_X5_item at h
  refine r_aload_n hx hb dX5_item_0 rfl (lv_at hl 0 rfl) ?_
  refine r_ifnull (tgt := 20) hx hb dX5_item_1 (by decide) (fun c1 => ?_) (fun c1 => ?_)
  · replace h := h.1 c1
    refine lv_iconst (v := 0) hx hb dX5_item_20 (by decide) ?_
    exact W.iret hx hb hr (fun t ht hW => ⟨⟨_, _, rfl, h, pw ht hP⟩, hS.F ht⟩) hS.2.2 dX5_item_21
  · replace h := h.2 c1
    refine lv_iload_n hx hb dX5_item_4 rfl (lv_at hl 1 rfl) ?_
    refine lv_if_lt (tgt := 20) hx hb dX5_item_5 (by decide) (fun c2 => ?_) (fun c2 => ?_)
    · replace h := h.1 c2
      refine lv_iconst (v := 0) hx hb dX5_item_20 (by decide) ?_
      exact W.iret hx hb hr (fun t ht hW => ⟨⟨_, _, rfl, h, pw ht hP⟩, hS.F ht⟩) hS.2.2 dX5_item_21
    · replace h := h.2 c2
      refine lv_iload_n hx hb dX5_item_8 rfl (lv_at hl 1 rfl) ?_
      refine r_aload_n hx hb dX5_item_9 rfl (lv_at hl 0 rfl) ?_
      obtain ⟨k3, e4, q5, h⟩ := h
      refine r_alen hx hb hE hP e4 q5 dX5_item_10 ?_
      refine lv_icmp_ge (tgt := 20) hx hb dX5_item_11 (by decide) (fun c6 => ?_) (fun c6 => ?_)
      · replace h := h.1 c6
        refine lv_iconst (v := 0) hx hb dX5_item_20 (by decide) ?_
        exact W.iret hx hb hr (fun t ht hW => ⟨⟨_, _, rfl, h, pw ht hP⟩, hS.F ht⟩) hS.2.2 dX5_item_21
      · replace h := h.2 c6
        refine r_aload_n hx hb dX5_item_14 rfl (lv_at hl 0 rfl) ?_
        refine lv_iload_n hx hb dX5_item_15 rfl (lv_at hl 1 rfl) ?_
        obtain ⟨k7, e8, q9, i10, h⟩ := h
        refine r_iald hx hb hE hP e8 q9 i10 dX5_item_16 ?_
        refine lv_goto (tgt := 21) hx hb dX5_item_17 (by decide) ?_
        exact W.iret hx hb hr (fun t ht hW => ⟨⟨_, _, rfl, h, pw ht hP⟩, hS.F ht⟩) hS.2.2 dX5_item_21
def p_X5_setItem (x0 : Option Nat) (x1 : Int32) (x2 : Int32) (s : Sg) (Q : Sg → Prop) : Prop := ((x0 = none → Q s) ∧ (¬ x0 = none → ((x1 < 0 → Q s) ∧ (¬ x1 < 0 → ∃ k3, x0 = some k3 ∧ (kX k3 = 7 ∨ kX k3 = 8 ∨ kX k3 = 9) ∧ (((nI (lX k3)) ≤ x1 → Q s) ∧ (¬ (nI (lX k3)) ≤ x1 → ∃ k7, x0 = some k7 ∧ kX k7 = 7 ∧ vp_in x1 (lX k7) ∧ Q (setR s k7 (upd (gR s k7) x1.toNatClampNeg x2))))))))
set_option maxHeartbeats 4000000 in
set_option maxRecDepth 100000 in
theorem c_X5_setItem (l : Launch) (D : va_G) (cs : Cs) (ad : Nat → Nat) (x0 : Option Nat) (x1 : Int32) (x2 : Int32) (s0 : Sg) (Q : Sg → Prop) : Met l yX5_setItem wsX5_setItem { frames := 0, cells := 0, slots := 0, locals := 0 } (Pc0 bX D cs ad [va_re ad x0, .int x1, .int x2] s0 (p_X5_setItem x0 x1 x2 s0 Q)) (QV bX D cs ad Q) 0 0 (fAd bX ad) := by
  refine Met.ofW (cc := cX5_setItem) (maxL := 3) (ret := none) (by decide) rfl ?_
  intro p e s m args below meth c s₁ B0 hml hv
  obtain ⟨ha, hP, hE, h⟩ := hv
  have hx := B0.exec
  have hb := B0.bytes
  have hr := B0.returns
  have hts := atoms_spec (ws := wsX5_setItem) B0.pre
  have hown : s.vm.findClass RX5 = some m.cls := findClass_of_methodNamed B0.named
  have hlocks := B0.notSynchronized
  have hS : va_S (fAd bX ad) s.heap s.heap [] := va_S.rf
  have hl := lv_entry ([va_re ad x0, .int x1, .int x2]) (n := 3) (by first | exact Nat.le_of_ble_eq_true rfl | simp [lg_sl, re_cat, cat_i, cat_l, cat_r])
  rw [show entryFrame m args 3 = entryFrame m ([va_re ad x0, .int x1, .int x2] : List Value).toArray 3 by rw [ha], lg_entry_eq]
  generalize (lg_sl ([va_re ad x0, .int x1, .int x2]) ++ List.replicate (3 - (lg_sl ([va_re ad x0, .int x1, .int x2])).length) Slot.unset).toArray = ls at hl ⊢
  have hl : lv_has ls 3 [(0, va_re ad x0), (1, .int x1), (2, .int x2)] := by first | exact hl | simpa [lv_args, re_cat, cat_i, cat_l, cat_r] using hl
  unfold p_X5_setItem at h
  refine r_aload_n hx hb dX5_setItem_0 rfl (lv_at hl 0 rfl) ?_
  refine r_ifnull (tgt := 18) hx hb dX5_setItem_1 (by decide) (fun c1 => ?_) (fun c1 => ?_)
  · replace h := h.1 c1
    exact W.vret hx hb hr (fun t ht hW => ⟨⟨_, rfl, h, pw ht hP⟩, hS.F ht⟩) hS.2.2 dX5_setItem_18
  · replace h := h.2 c1
    refine lv_iload_n hx hb dX5_setItem_4 rfl (lv_at hl 1 rfl) ?_
    refine lv_if_lt (tgt := 18) hx hb dX5_setItem_5 (by decide) (fun c2 => ?_) (fun c2 => ?_)
    · replace h := h.1 c2
      exact W.vret hx hb hr (fun t ht hW => ⟨⟨_, rfl, h, pw ht hP⟩, hS.F ht⟩) hS.2.2 dX5_setItem_18
    · replace h := h.2 c2
      refine lv_iload_n hx hb dX5_setItem_8 rfl (lv_at hl 1 rfl) ?_
      refine r_aload_n hx hb dX5_setItem_9 rfl (lv_at hl 0 rfl) ?_
      obtain ⟨k3, e4, q5, h⟩ := h
      refine r_alen hx hb hE hP e4 q5 dX5_setItem_10 ?_
      refine lv_icmp_ge (tgt := 18) hx hb dX5_setItem_11 (by decide) (fun c6 => ?_) (fun c6 => ?_)
      · replace h := h.1 c6
        exact W.vret hx hb hr (fun t ht hW => ⟨⟨_, rfl, h, pw ht hP⟩, hS.F ht⟩) hS.2.2 dX5_setItem_18
      · replace h := h.2 c6
        refine r_aload_n hx hb dX5_setItem_14 rfl (lv_at hl 0 rfl) ?_
        refine lv_iload_n hx hb dX5_setItem_15 rfl (lv_at hl 1 rfl) ?_
        refine lv_iload_n hx hb dX5_setItem_16 rfl (lv_at hl 2 rfl) ?_
        obtain ⟨k7, e8, q9, i10, h⟩ := h
        refine r_iast hx hb hE hP hS e8 q9 i10 dX5_setItem_17 (fun H locs hP hS => ?_)
        exact W.vret hx hb hr (fun t ht hW => ⟨⟨_, rfl, h, pw ht hP⟩, hS.F ht⟩) hS.2.2 dX5_setItem_18
def p_X5_copyStretch (x0 : Option Nat) (x1 : Int32) (x2 : Option Nat) (x3 : Int32) (x4 : Int32) (s : Sg) (Q : Sg → Prop) : Prop := ((x0 = none → Q s) ∧ (¬ x0 = none → ((x2 = none → Q s) ∧ (¬ x2 = none → ((x1 < 0 → Q s) ∧ (¬ x1 < 0 → ((x3 < 0 → Q s) ∧ (¬ x3 < 0 → ((0 ≤ x4 → ∃ k6, x0 = some k6 ∧ (kX k6 = 7 ∨ kX k6 = 8 ∨ kX k6 = 9) ∧ ((((nI (lX k6)) - x1) < x4 → Q s) ∧ (¬ ((nI (lX k6)) - x1) < x4 → ∃ k10, x2 = some k10 ∧ (kX k10 = 7 ∨ kX k10 = 8 ∨ kX k10 = 9) ∧ ((((nI (lX k10)) - x3) < x4 → Q s) ∧ (¬ ((nI (lX k10)) - x3) < x4 → ∃ k14 k15, x0 = some k14 ∧ kX k14 = 7 ∧ x2 = some k15 ∧ kX k15 = 7 ∧ ¬ x1 < 0 ∧ ¬ x3 < 0 ∧ ¬ x4 < 0 ∧ x1.toNatClampNeg + x4.toNatClampNeg ≤ lX k14 ∧ x3.toNatClampNeg + x4.toNatClampNeg ≤ lX k15 ∧ Q (setR s k15 (va_cpy (gR s k14) (gR s k15) x1.toNatClampNeg x3.toNatClampNeg x4.toNatClampNeg))))))) ∧ (¬ 0 ≤ x4 → Q s))))))))))
set_option maxHeartbeats 4000000 in
set_option maxRecDepth 100000 in
theorem c_X5_copyStretch (l : Launch) (D : va_G) (cs : Cs) (ad : Nat → Nat) (x0 : Option Nat) (x1 : Int32) (x2 : Option Nat) (x3 : Int32) (x4 : Int32) (s0 : Sg) (Q : Sg → Prop) : Met l yX5_copyStretch wsX5_copyStretch { frames := 1, cells := 0, slots := 0, locals := 68 } (Pc0 bX D cs ad [va_re ad x0, .int x1, va_re ad x2, .int x3, .int x4] s0 (p_X5_copyStretch x0 x1 x2 x3 x4 s0 Q)) (QV bX D cs ad Q) 0 0 (fAd bX ad) := by
  refine Met.ofW (cc := cX5_copyStretch) (maxL := 5) (ret := none) (by decide) rfl ?_
  intro p e s m args below meth c s₁ B0 hml hv
  obtain ⟨ha, hP, hE, h⟩ := hv
  have hx := B0.exec
  have hb := B0.bytes
  have hr := B0.returns
  have hts := atoms_spec (ws := wsX5_copyStretch) B0.pre
  have hown : s.vm.findClass RX5 = some m.cls := findClass_of_methodNamed B0.named
  have hlocks := B0.notSynchronized
  have hS : va_S (fAd bX ad) s.heap s.heap [] := va_S.rf
  have hl := lv_entry ([va_re ad x0, .int x1, va_re ad x2, .int x3, .int x4]) (n := 5) (by first | exact Nat.le_of_ble_eq_true rfl | simp [lg_sl, re_cat, cat_i, cat_l, cat_r])
  rw [show entryFrame m args 5 = entryFrame m ([va_re ad x0, .int x1, va_re ad x2, .int x3, .int x4] : List Value).toArray 5 by rw [ha], lg_entry_eq]
  generalize (lg_sl ([va_re ad x0, .int x1, va_re ad x2, .int x3, .int x4]) ++ List.replicate (5 - (lg_sl ([va_re ad x0, .int x1, va_re ad x2, .int x3, .int x4])).length) Slot.unset).toArray = ls at hl ⊢
  have hl : lv_has ls 5 [(0, va_re ad x0), (1, .int x1), (2, va_re ad x2), (3, .int x3), (4, .int x4)] := by first | exact hl | simpa [lv_args, re_cat, cat_i, cat_l, cat_r] using hl
  unfold p_X5_copyStretch at h
  refine r_aload_n hx hb dX5_copyStretch_0 rfl (lv_at hl 0 rfl) ?_
  refine r_ifnull (tgt := 21) hx hb dX5_copyStretch_1 (by decide) (fun c1 => ?_) (fun c1 => ?_)
  · replace h := h.1 c1
    exact W.vret hx hb hr (fun t ht hW => ⟨⟨_, rfl, h, pw ht hP⟩, hS.F ht⟩) hS.2.2 dX5_copyStretch_21
  · replace h := h.2 c1
    refine r_aload_n hx hb dX5_copyStretch_4 rfl (lv_at hl 2 rfl) ?_
    refine r_ifnull (tgt := 21) hx hb dX5_copyStretch_5 (by decide) (fun c2 => ?_) (fun c2 => ?_)
    · replace h := h.1 c2
      exact W.vret hx hb hr (fun t ht hW => ⟨⟨_, rfl, h, pw ht hP⟩, hS.F ht⟩) hS.2.2 dX5_copyStretch_21
    · replace h := h.2 c2
      refine lv_iload_n hx hb dX5_copyStretch_8 rfl (lv_at hl 1 rfl) ?_
      refine lv_if_lt (tgt := 21) hx hb dX5_copyStretch_9 (by decide) (fun c3 => ?_) (fun c3 => ?_)
      · replace h := h.1 c3
        exact W.vret hx hb hr (fun t ht hW => ⟨⟨_, rfl, h, pw ht hP⟩, hS.F ht⟩) hS.2.2 dX5_copyStretch_21
      · replace h := h.2 c3
        refine lv_iload_n hx hb dX5_copyStretch_12 rfl (lv_at hl 3 rfl) ?_
        refine lv_if_lt (tgt := 21) hx hb dX5_copyStretch_13 (by decide) (fun c4 => ?_) (fun c4 => ?_)
        · replace h := h.1 c4
          exact W.vret hx hb hr (fun t ht hW => ⟨⟨_, rfl, h, pw ht hP⟩, hS.F ht⟩) hS.2.2 dX5_copyStretch_21
        · replace h := h.2 c4
          refine lv_iload hx hb dX5_copyStretch_16 (lv_at hl 4 rfl) ?_
          refine lv_if_ge (tgt := 22) hx hb dX5_copyStretch_18 (by decide) (fun c5 => ?_) (fun c5 => ?_)
          · replace h := h.1 c5
            refine lv_iload hx hb dX5_copyStretch_22 (lv_at hl 4 rfl) ?_
            refine r_aload_n hx hb dX5_copyStretch_24 rfl (lv_at hl 0 rfl) ?_
            obtain ⟨k6, e7, q8, h⟩ := h
            refine r_alen hx hb hE hP e7 q8 dX5_copyStretch_25 ?_
            refine lv_iload_n hx hb dX5_copyStretch_26 rfl (lv_at hl 1 rfl) ?_
            refine lv_isub hx hb dX5_copyStretch_27 ?_
            refine lv_icmp_gt (tgt := 49) hx hb dX5_copyStretch_28 (by decide) (fun c9 => ?_) (fun c9 => ?_)
            · replace h := h.1 c9
              exact W.vret hx hb hr (fun t ht hW => ⟨⟨_, rfl, h, pw ht hP⟩, hS.F ht⟩) hS.2.2 dX5_copyStretch_49
            · replace h := h.2 c9
              refine lv_iload hx hb dX5_copyStretch_31 (lv_at hl 4 rfl) ?_
              refine r_aload_n hx hb dX5_copyStretch_33 rfl (lv_at hl 2 rfl) ?_
              obtain ⟨k10, e11, q12, h⟩ := h
              refine r_alen hx hb hE hP e11 q12 dX5_copyStretch_34 ?_
              refine lv_iload_n hx hb dX5_copyStretch_35 rfl (lv_at hl 3 rfl) ?_
              refine lv_isub hx hb dX5_copyStretch_36 ?_
              refine lv_icmp_gt (tgt := 49) hx hb dX5_copyStretch_37 (by decide) (fun c13 => ?_) (fun c13 => ?_)
              · replace h := h.1 c13
                exact W.vret hx hb hr (fun t ht hW => ⟨⟨_, rfl, h, pw ht hP⟩, hS.F ht⟩) hS.2.2 dX5_copyStretch_49
              · replace h := h.2 c13
                refine r_aload_n hx hb dX5_copyStretch_40 rfl (lv_at hl 0 rfl) ?_
                refine lv_iload_n hx hb dX5_copyStretch_41 rfl (lv_at hl 1 rfl) ?_
                refine r_aload_n hx hb dX5_copyStretch_42 rfl (lv_at hl 2 rfl) ?_
                refine lv_iload_n hx hb dX5_copyStretch_43 rfl (lv_at hl 3 rfl) ?_
                refine lv_iload hx hb dX5_copyStretch_44 (lv_at hl 4 rfl) ?_
                obtain ⟨k14, k15, a16, a17, a18, a19, a20, a21, a22, a23, a24, h⟩ := h
                refine r_copy hx hb (hml.trans hl.1.symm) hown (hts (.methodLink RX5 346 arraycopyName) (by decide +kernel)) (hts (.native arraycopyName) (by decide +kernel)) (hts (.static arraycopyName) (by decide +kernel)) (hts (.initialized "java/lang/System") (by decide +kernel)) hE hP hS a16 a17 a18 a19 a20 a21 a22 a23 a24 (Nat.le_of_ble_eq_true rfl) (Nat.le_of_ble_eq_true rfl) dX5_copyStretch_46 (fun H locs hP hS => ?_)
                exact W.vret hx hb hr (fun t ht hW => ⟨⟨_, rfl, h, pw ht hP⟩, hS.F ht⟩) hS.2.2 dX5_copyStretch_49
          · replace h := h.2 c5
            exact W.vret hx hb hr (fun t ht hW => ⟨⟨_, rfl, h, pw ht hP⟩, hS.F ht⟩) hS.2.2 dX5_copyStretch_21
def p_X5_copyItems (x0 : Option Nat) (x1 : Option Nat) (s : Sg) (Q : Sg → Prop) : Prop := ((x0 = none → Q s) ∧ (¬ x0 = none → ((x1 = none → Q s) ∧ (¬ x1 = none → ∃ k3, x0 = some k3 ∧ (kX k3 = 7 ∨ kX k3 = 8 ∨ kX k3 = 9) ∧ ∃ k6, x1 = some k6 ∧ (kX k6 = 7 ∨ kX k6 = 8 ∨ kX k6 = 9) ∧ p_X5_copyStretch x0 0 x1 0 ((if (nI (lX k6)) < (nI (lX k3)) then (nI (lX k6)) else (nI (lX k3)))) s (fun s9 => Q s9)))))
set_option maxHeartbeats 4000000 in
set_option maxRecDepth 100000 in
theorem c_X5_copyItems (l : Launch) (D : va_G) (cs : Cs) (ad : Nat → Nat) (x0 : Option Nat) (x1 : Option Nat) (s0 : Sg) (Q : Sg → Prop) : Met l yX5_copyItems wsX5_copyItems { frames := 2, cells := 0, slots := 0, locals := 92 } (Pc0 bX D cs ad [va_re ad x0, va_re ad x1] s0 (p_X5_copyItems x0 x1 s0 Q)) (QV bX D cs ad Q) 0 0 (fAd bX ad) := by
  refine Met.ofW (cc := cX5_copyItems) (maxL := 2) (ret := none) (by decide) rfl ?_
  intro p e s m args below meth c s₁ B0 hml hv
  obtain ⟨ha, hP, hE, h⟩ := hv
  have hx := B0.exec
  have hb := B0.bytes
  have hr := B0.returns
  have hts := atoms_spec (ws := wsX5_copyItems) B0.pre
  have hown : s.vm.findClass RX5 = some m.cls := findClass_of_methodNamed B0.named
  have hlocks := B0.notSynchronized
  have hS : va_S (fAd bX ad) s.heap s.heap [] := va_S.rf
  have hl := lv_entry ([va_re ad x0, va_re ad x1]) (n := 2) (by first | exact Nat.le_of_ble_eq_true rfl | simp [lg_sl, re_cat, cat_i, cat_l, cat_r])
  rw [show entryFrame m args 2 = entryFrame m ([va_re ad x0, va_re ad x1] : List Value).toArray 2 by rw [ha], lg_entry_eq]
  generalize (lg_sl ([va_re ad x0, va_re ad x1]) ++ List.replicate (2 - (lg_sl ([va_re ad x0, va_re ad x1])).length) Slot.unset).toArray = ls at hl ⊢
  have hl : lv_has ls 2 [(0, va_re ad x0), (1, va_re ad x1)] := by first | exact hl | simpa [lv_args, re_cat, cat_i, cat_l, cat_r] using hl
  unfold p_X5_copyItems at h
  refine r_aload_n hx hb dX5_copyItems_0 rfl (lv_at hl 0 rfl) ?_
  refine r_ifnull (tgt := 22) hx hb dX5_copyItems_1 (by decide) (fun c1 => ?_) (fun c1 => ?_)
  · replace h := h.1 c1
    exact W.vret hx hb hr (fun t ht hW => ⟨⟨_, rfl, h, pw ht hP⟩, hS.F ht⟩) hS.2.2 dX5_copyItems_22
  · replace h := h.2 c1
    refine r_aload_n hx hb dX5_copyItems_4 rfl (lv_at hl 1 rfl) ?_
    refine r_ifnull (tgt := 22) hx hb dX5_copyItems_5 (by decide) (fun c2 => ?_) (fun c2 => ?_)
    · replace h := h.1 c2
      exact W.vret hx hb hr (fun t ht hW => ⟨⟨_, rfl, h, pw ht hP⟩, hS.F ht⟩) hS.2.2 dX5_copyItems_22
    · replace h := h.2 c2
      refine r_aload_n hx hb dX5_copyItems_8 rfl (lv_at hl 0 rfl) ?_
      refine lv_iconst (v := 0) hx hb dX5_copyItems_9 (by decide) ?_
      refine r_aload_n hx hb dX5_copyItems_10 rfl (lv_at hl 1 rfl) ?_
      refine lv_iconst (v := 0) hx hb dX5_copyItems_11 (by decide) ?_
      refine r_aload_n hx hb dX5_copyItems_12 rfl (lv_at hl 0 rfl) ?_
      obtain ⟨k3, e4, q5, h⟩ := h
      refine r_alen hx hb hE hP e4 q5 dX5_copyItems_13 ?_
      refine r_aload_n hx hb dX5_copyItems_14 rfl (lv_at hl 1 rfl) ?_
      obtain ⟨k6, e7, q8, h⟩ := h
      refine r_alen hx hb hE hP e7 q8 dX5_copyItems_15 ?_
      refine va_mmin hx hb (hml.trans hl.1.symm) hown (hts (.methodLink RX5 261 Lib.Math.min.name) (by decide +kernel)) (hts (.static Lib.Math.min.name) (by decide +kernel)) (hts (.initialized "java/lang/Math") (by decide +kernel)) (hts (.code Lib.Math.min.name Lib.Math.min.code 2 (some .int)) (by decide +kernel)) (Nat.le_of_ble_eq_true rfl) (by first | exact Nat.le_of_ble_eq_true rfl | (simp only [List.map, re_cat, cat_i, cat_l, cat_r, List.sum_cons, List.sum_nil]; exact Nat.le_of_ble_eq_true rfl)) (Nat.le_refl _) (Nat.le_refl _) dX5_copyItems_16 ?_
      refine f_v (kS (As := [va_re ad x0, .int 0, va_re ad x1, .int 0, .int ((if (nI (lX k6)) < (nI (lX k3)) then (nI (lX k6)) else (nI (lX k3))))]) (rest := []) ⟨hx, hb, hml, hown, hts⟩ (c_X5_copyStretch l D cs ad x0 0 x1 0 ((if (nI (lX k6)) < (nI (lX k3)) then (nI (lX k6)) else (nI (lX k3)))) s0 _) (va_cwS 5 hts gX5_copyItems_X5_copyStretch rfl rfl rfl (by decide +kernel) ⟨Nat.le_of_ble_eq_true rfl, Nat.le_of_ble_eq_true rfl⟩) hE hP h rfl hl.1 rfl (by first | exact lv_room (Nat.le_of_ble_eq_true rfl) | (refine lv_room ?_; simp [re_cat, cat_i, cat_l, cat_r])) dX5_copyItems_19 ⟨Nat.le_refl _, Nat.le_refl _⟩) hS (fun s9 H locs h hP hS => ?_)
      exact W.vret hx hb hr (fun t ht hW => ⟨⟨_, rfl, h, pw ht hP⟩, hS.F ht⟩) hS.2.2 dX5_copyItems_22
def p_X5_sumOf_L4 (Q : Int32 → Sg → Prop)  : Nat → Option Nat → Int32 → Int32 → Int32 → Sg → Prop
  | 0, _, _, _, _, _ => False
  | n + 1, x0, x1, x2, x3, s => ((x1 ≤ x3 → Q x2 s) ∧ (¬ x1 ≤ x3 → p_X5_item x0 x3 s (fun r3 s2 => p_X5_sumOf_L4 Q  n x0 x1 (x2 + r3) (x3 + 1) s2)))
def p_X5_sumOf (x0 : Option Nat) (x1 : Int32) (s : Sg) (Q : Int32 → Sg → Prop) : Prop := (∃ n1, p_X5_sumOf_L4 Q  n1 x0 x1 0 0 s)
set_option maxHeartbeats 4000000 in
set_option maxRecDepth 100000 in
theorem c_X5_sumOf (l : Launch) (D : va_G) (cs : Cs) (ad : Nat → Nat) (x0 : Option Nat) (x1 : Int32) (s0 : Sg) (Q : Int32 → Sg → Prop) : Met l yX5_sumOf wsX5_sumOf { frames := 1, cells := 0, slots := 0, locals := 21 } (Pc0 bX D cs ad [va_re ad x0, .int x1] s0 (p_X5_sumOf x0 x1 s0 Q)) (QI bX D cs ad Q) 0 0 (fAd bX ad) := by
  refine Met.ofW (cc := cX5_sumOf) (maxL := 4) (ret := (some .int)) (by decide) rfl ?_
  intro p e s m args below meth c s₁ B0 hml hv
  obtain ⟨ha, hP, hE, h⟩ := hv
  have hx := B0.exec
  have hb := B0.bytes
  have hr := B0.returns
  have hts := atoms_spec (ws := wsX5_sumOf) B0.pre
  have hown : s.vm.findClass RX5 = some m.cls := findClass_of_methodNamed B0.named
  have hlocks := B0.notSynchronized
  have hS : va_S (fAd bX ad) s.heap s.heap [] := va_S.rf
  have hl := lv_entry ([va_re ad x0, .int x1]) (n := 4) (by first | exact Nat.le_of_ble_eq_true rfl | simp [lg_sl, re_cat, cat_i, cat_l, cat_r])
  rw [show entryFrame m args 4 = entryFrame m ([va_re ad x0, .int x1] : List Value).toArray 4 by rw [ha], lg_entry_eq]
  generalize (lg_sl ([va_re ad x0, .int x1]) ++ List.replicate (4 - (lg_sl ([va_re ad x0, .int x1])).length) Slot.unset).toArray = ls at hl ⊢
  have hl : lv_has ls 4 [(0, va_re ad x0), (1, .int x1)] := by first | exact hl | simpa [lv_args, re_cat, cat_i, cat_l, cat_r] using hl
  have hB4 : ∀ (n4 : Nat) (x0 : Option Nat) (x1 : Int32) (x2 : Int32) (x3 : Int32) (σ : Sg) (H : Heap) (locs : List Loc) (ls : Array Slot), p_X5_sumOf_L4 Q  n4 x0 x1 x2 x3 σ → va_P D vwCl (wl bX cs ad σ) H → va_S (fAd bX ad) s.heap H locs → lv_has ls 4 [(0, va_re ad x0), (1, .int x1), (2, .int x2), (3, .int x3)] → W p l e { frames := 1, cells := 0, slots := 0, locals := 21 } s m args below meth c H locs 0 0 (MQ below (QI bX D cs ad Q) args s 0 0 (fAd bX ad)) (F0 m 4 ls []) := by
    intro n4
    induction n4 with
    | zero =>
      intro x0 x1 x2 x3 σ H locs ls h
      exact h.elim
    | succ n4 ih =>
      have hK4 := ih
      intro x0 x1 x2 x3 σ H locs ls h hP hS hl
      rw [p_X5_sumOf_L4] at h
      refine lv_iload_n hx hb dX5_sumOf_4 rfl (lv_at hl 3 rfl) ?_
      refine lv_iload_n hx hb dX5_sumOf_5 rfl (lv_at hl 1 rfl) ?_
      refine lv_icmp_ge (tgt := 23) hx hb dX5_sumOf_6 (by decide) (fun c1 => ?_) (fun c1 => ?_)
      · replace h := h.1 c1
        refine lv_iload_n hx hb dX5_sumOf_23 rfl (lv_at hl 2 rfl) ?_
        exact W.iret hx hb hr (fun t ht hW => ⟨⟨_, _, rfl, h, pw ht hP⟩, hS.F ht⟩) hS.2.2 dX5_sumOf_24
      · replace h := h.2 c1
        refine lv_iload_n hx hb dX5_sumOf_9 rfl (lv_at hl 2 rfl) ?_
        refine r_aload_n hx hb dX5_sumOf_10 rfl (lv_at hl 0 rfl) ?_
        refine lv_iload_n hx hb dX5_sumOf_11 rfl (lv_at hl 3 rfl) ?_
        refine f_i (kS (As := [va_re ad x0, .int x3]) (rest := [.int x2]) ⟨hx, hb, hml, hown, hts⟩ (c_X5_item l D cs ad x0 x3 σ _) (va_cwS 2 hts gX5_sumOf_X5_item rfl rfl rfl (by decide +kernel) ⟨Nat.le_of_ble_eq_true rfl, Nat.le_of_ble_eq_true rfl⟩) hE hP h rfl hl.1 rfl (by first | exact lv_room (Nat.le_of_ble_eq_true rfl) | (refine lv_room ?_; simp [re_cat, cat_i, cat_l, cat_r])) dX5_sumOf_12 ⟨Nat.le_refl _, Nat.le_refl _⟩) hS (fun r3 s2 H locs h hP hS => ?_)
        refine lv_iadd hx hb dX5_sumOf_15 ?_
        refine lv_istore_n (i := 2) (lv' := [(2, .int (x2 + r3)), (0, va_re ad x0), (1, .int x1), (3, .int x3)]) hx hb dX5_sumOf_16 rfl hl (by decide) (by first | rfl | simp [re_cat, cat_i, cat_l, cat_r]) (fun ls hl => ?_)
        refine lv_iinc (v := x3 + 1) (lv' := [(3, .int (x3 + 1)), (2, .int (x2 + r3)), (0, va_re ad x0), (1, .int x1)]) hx hb dX5_sumOf_17 hl (k := 3) rfl rfl (by decide) (by first | rfl | simp [re_cat, cat_i, cat_l, cat_r]) (fun ls hl => ?_)
        refine lv_goto (tgt := 4) hx hb dX5_sumOf_20 (by decide) ?_
        exact ih x0 x1 (x2 + r3) (x3 + 1) s2 H locs ls h hP hS (lv_sub hl [2, 3, 1, 0] rfl)
  unfold p_X5_sumOf at h
  refine lv_iconst (v := 0) hx hb dX5_sumOf_0 (by decide) ?_
  refine lv_istore_n (i := 2) (lv' := [(2, .int 0), (0, va_re ad x0), (1, .int x1)]) hx hb dX5_sumOf_1 rfl hl (by decide) (by first | rfl | simp [re_cat, cat_i, cat_l, cat_r]) (fun ls hl => ?_)
  refine lv_iconst (v := 0) hx hb dX5_sumOf_2 (by decide) ?_
  refine lv_istore_n (i := 3) (lv' := [(3, .int 0), (2, .int 0), (0, va_re ad x0), (1, .int x1)]) hx hb dX5_sumOf_3 rfl hl (by decide) (by first | rfl | simp [re_cat, cat_i, cat_l, cat_r]) (fun ls hl => ?_)
  obtain ⟨n1, h⟩ := h
  exact hB4 n1 x0 x1 0 0 s0 _ _ ls h hP hS (lv_sub hl [2, 3, 1, 0] rfl)
def p_X5_hasBit (x0 : Int32) (x1 : Int32) (s : Sg) (Q : Int32 → Sg → Prop) : Prop := ((((x0 >>> (x1 &&& 31)) &&& 1) = 0 → Q 0 s) ∧ (¬ ((x0 >>> (x1 &&& 31)) &&& 1) = 0 → Q 1 s))
set_option maxHeartbeats 4000000 in
set_option maxRecDepth 100000 in
theorem c_X5_hasBit (l : Launch) (D : va_G) (cs : Cs) (ad : Nat → Nat) (x0 : Int32) (x1 : Int32) (s0 : Sg) (Q : Int32 → Sg → Prop) : Met l yX5_hasBit wsX5_hasBit { frames := 0, cells := 0, slots := 0, locals := 0 } (Pc0 bX D cs ad [.int x0, .int x1] s0 (p_X5_hasBit x0 x1 s0 Q)) (QI bX D cs ad Q) 0 0 (fAd bX ad) := by
  refine Met.ofW (cc := cX5_hasBit) (maxL := 2) (ret := (some .boolean)) (by decide) rfl ?_
  intro p e s m args below meth c s₁ B0 hml hv
  obtain ⟨ha, hP, hE, h⟩ := hv
  have hx := B0.exec
  have hb := B0.bytes
  have hr := B0.returns
  have hts := atoms_spec (ws := wsX5_hasBit) B0.pre
  have hown : s.vm.findClass RX5 = some m.cls := findClass_of_methodNamed B0.named
  have hlocks := B0.notSynchronized
  have hS : va_S (fAd bX ad) s.heap s.heap [] := va_S.rf
  have hl := lv_entry ([.int x0, .int x1]) (n := 2) (by first | exact Nat.le_of_ble_eq_true rfl | simp [lg_sl, re_cat, cat_i, cat_l, cat_r])
  rw [show entryFrame m args 2 = entryFrame m ([.int x0, .int x1] : List Value).toArray 2 by rw [ha], lg_entry_eq]
  generalize (lg_sl ([.int x0, .int x1]) ++ List.replicate (2 - (lg_sl ([.int x0, .int x1])).length) Slot.unset).toArray = ls at hl ⊢
  have hl : lv_has ls 2 [(0, .int x0), (1, .int x1)] := by first | exact hl | simpa [lv_args, re_cat, cat_i, cat_l, cat_r] using hl
  unfold p_X5_hasBit at h
  refine lv_iload_n hx hb dX5_hasBit_0 rfl (lv_at hl 0 rfl) ?_
  refine lv_iload_n hx hb dX5_hasBit_1 rfl (lv_at hl 1 rfl) ?_
  refine lv_ishr hx hb dX5_hasBit_2 ?_
  refine lv_iconst (v := 1) hx hb dX5_hasBit_3 (by decide) ?_
  refine lv_iand hx hb dX5_hasBit_4 ?_
  refine lv_if_eq (tgt := 12) hx hb dX5_hasBit_5 (by decide) (fun c1 => ?_) (fun c1 => ?_)
  · replace h := h.1 c1
    refine lv_iconst (v := 0) hx hb dX5_hasBit_12 (by decide) ?_
    exact W.zret hx hb hr rfl (fun t ht hW => ⟨⟨_, _, rfl, h, pw ht hP⟩, hS.F ht⟩) hS.2.2 dX5_hasBit_13
  · replace h := h.2 c1
    refine lv_iconst (v := 1) hx hb dX5_hasBit_8 (by decide) ?_
    refine lv_goto (tgt := 13) hx hb dX5_hasBit_9 (by decide) ?_
    exact W.zret hx hb hr rfl (fun t ht hW => ⟨⟨_, _, rfl, h, pw ht hP⟩, hS.F ht⟩) hS.2.2 dX5_hasBit_13
