def p_X6_noMore_L2 (Q : Sg → Prop)  : Nat → Nat → Int32 → Sg → Prop
  | 0, _, _, _ => False
  | n + 1, x0, x1, s => ((6 ≤ x1 → Q s) ∧ (¬ 6 ≤ x1 → ∃ k2, tM x0 40 = some k2 ∧ kM k2 = 7 ∧ vp_in x1 (lM k2) ∧ p_X6_noMore_L2 Q  n x0 (x1 + 1) (setR s k2 (upd (gR s k2) x1.toNatClampNeg 0))))
def p_X6_noMore (x0 : Nat) (s : Sg) (Q : Sg → Prop) : Prop := (∃ n1, p_X6_noMore_L2 Q  n1 x0 0 s)
set_option maxHeartbeats 4000000 in
set_option maxRecDepth 100000 in
theorem c_X6_noMore (l : Launch) (D : va_G) (cs : Cs) (ad : Nat → Nat) (x0 : Nat) (s0 : Sg) (Q : Sg → Prop) (hk0 : kM x0 = 5) : Met l yX6_noMore wsX6_noMore { frames := 0, cells := 0, slots := 0, locals := 0 } (Pc0 bM D cs ad [.ref (ad x0)] s0 (p_X6_noMore x0 s0 Q)) (QV bM D cs ad Q) 0 0 (fAd bM ad) := by
  refine Met.ofW (cc := cX6_noMore) (maxL := 2) (ret := none) (by decide) rfl ?_
  intro p e s m args below meth c s₁ B0 hml hv
  obtain ⟨ha, hP, hE, h⟩ := hv
  have hx := B0.exec
  have hb := B0.bytes
  have hr := B0.returns
  have hts := atoms_spec (ws := wsX6_noMore) B0.pre
  have hown : s.vm.findClass RX6 = some m.cls := findClass_of_methodNamed B0.named
  have hlocks := B0.notSynchronized
  have hi_X6 : ∀ w ∈ u_ws RX6 TX6 42, w ∈ wsX6_noMore := by decide +kernel
  have hS : va_S (fAd bM ad) s.heap s.heap [] := va_S.rf
  have hl := lv_entry ([.ref (ad x0)]) (n := 2) (by first | exact Nat.le_of_ble_eq_true rfl | simp [lg_sl, re_cat, cat_i, cat_l, cat_r])
  rw [show entryFrame m args 2 = entryFrame m ([.ref (ad x0)] : List Value).toArray 2 by rw [ha], lg_entry_eq]
  generalize (lg_sl ([.ref (ad x0)]) ++ List.replicate (2 - (lg_sl ([.ref (ad x0)])).length) Slot.unset).toArray = ls at hl ⊢
  have hl : lv_has ls 2 [(0, .ref (ad x0))] := by first | exact hl | simpa [lv_args, re_cat, cat_i, cat_l, cat_r] using hl
  have hB2 : ∀ (n2 : Nat) (x1 : Int32) (σ : Sg) (H : Heap) (locs : List Loc) (ls : Array Slot), p_X6_noMore_L2 Q  n2 x0 x1 σ → va_P D vwCl (wl bM cs ad σ) H → va_S (fAd bM ad) s.heap H locs → lv_has ls 2 [(0, .ref (ad x0)), (1, .int x1)] → W p l e { frames := 0, cells := 0, slots := 0, locals := 0 } s m args below meth c H locs 0 0 (MQ below (QV bM D cs ad Q) args s 0 0 (fAd bM ad)) (F0 m 2 ls []) := by
    intro n2
    induction n2 with
    | zero =>
      intro x1 σ H locs ls h
      exact h.elim
    | succ n2 ih =>
      have hK2 := ih
      intro x1 σ H locs ls h hP hS hl
      rw [p_X6_noMore_L2] at h
      refine lv_iload_n hx hb dX6_noMore_2 rfl (lv_at hl 1 rfl) ?_
      refine lv_bipush (v := 6) hx hb dX6_noMore_3 (by decide) ?_
      refine lv_icmp_ge (tgt := 21) hx hb dX6_noMore_5 (by decide) (fun c1 => ?_) (fun c1 => ?_)
      · replace h := h.1 c1
        exact W.vret hx hb hr (fun t ht hW => ⟨⟨_, rfl, h, pw ht hP⟩, hS.F ht⟩) hS.2.2 dX6_noMore_21
      · replace h := h.2 c1
        refine lv_aload_n hx hb dX6_noMore_8 rfl (lv_at hl 0 rfl) ?_
        refine va_get (ci := 5) (v := va_re ad (tM x0 40)) (C := RX6) (T := TX6) (N := 42) hx hb hts hi_X6 hown hE.1 hP x0 (w_5 hE hk0) rfl 40 (by decide) (hts (.fieldLink RX6 89 "HemLineModel" "more" "[I") (by decide +kernel)) (fun _ h9 => h9) rfl dX6_noMore_9 ?_
        refine lv_iload_n hx hb dX6_noMore_12 rfl (lv_at hl 1 rfl) ?_
        refine lv_iconst (v := 0) hx hb dX6_noMore_13 (by decide) ?_
        obtain ⟨k2, e3, q4, i5, h⟩ := h
        refine r_iast hx hb hE hP hS e3 q4 i5 dX6_noMore_14 (fun H locs hP hS => ?_)
        refine lv_iinc (v := x1 + 1) (lv' := [(1, .int (x1 + 1)), (0, .ref (ad x0))]) hx hb dX6_noMore_15 hl (k := 1) rfl rfl (by decide) (by first | rfl | simp [re_cat, cat_i, cat_l, cat_r]) (fun ls hl => ?_)
        refine lv_goto (tgt := 2) hx hb dX6_noMore_18 (by decide) ?_
        exact ih (x1 + 1) (setR σ k2 (upd (gR σ k2) x1.toNatClampNeg 0)) H locs ls h hP hS (lv_sub hl [1, 0] rfl)
  unfold p_X6_noMore at h
  refine lv_iconst (v := 0) hx hb dX6_noMore_0 (by decide) ?_
  refine lv_istore_n (i := 1) (lv' := [(1, .int 0), (0, .ref (ad x0))]) hx hb dX6_noMore_1 rfl hl (by decide) (by first | rfl | simp [re_cat, cat_i, cat_l, cat_r]) (fun ls hl => ?_)
  obtain ⟨n1, h⟩ := h
  exact hB2 n1 0 s0 _ _ ls h hP hS (lv_sub hl [1, 0] rfl)
def p_X6_take_b74 (Q : Int32 → Sg → Prop) (K11 : Nat → Int32 → Int32 → Int32 → Int32 → Int32 → Sg → Prop) (x0 : Nat) (x2 : Int32) (x3 : Int32) (x4 : Int32) (x6 : Int32) (t0 : Int32) (s : Sg) : Prop := K11 x0 x2 x3 x4 t0 (x6 + (-1)) s
def p_X6_take_b73 (Q : Int32 → Sg → Prop) (K11 : Nat → Int32 → Int32 → Int32 → Int32 → Int32 → Sg → Prop) (x0 : Nat) (x2 : Int32) (x3 : Int32) (x4 : Int32) (x6 : Int32) (s : Sg) : Prop := p_X6_take_b74 Q K11 x0 x2 x3 x4 x6 0 s
def p_X6_take_L11 (Q : Int32 → Sg → Prop)  : Nat → Nat → Int32 → Int32 → Int32 → Int32 → Int32 → Sg → Prop
  | 0, _, _, _, _, _, _, _ => False
  | n + 1, x0, x2, x3, x4, x5, x6, s => ((x6 < 0 → ((x5 = 0 → Q 0 s) ∧ (¬ x5 = 0 → ((x4 = x2 → Q 1 s) ∧ (¬ x4 = x2 → Q 0 s))))) ∧ (¬ x6 < 0 → ∃ k4, tM x0 40 = some k4 ∧ kM k4 = 7 ∧ vp_in x6 (lM k4) ∧ ∃ k8, tM x0 40 = some k8 ∧ kM k8 = 7 ∧ vp_in x6 (lM k8) ∧ ((x5 = 0 → p_X6_take_b73 Q (fun y0 y2 y3 y4 y5 y6 u => p_X6_take_L11 Q  n y0 y2 y3 y4 y5 y6 u) x0 x2 (x3 / 7) (x4 + (gR (setR s k4 (upd (gR s k4) x6.toNatClampNeg (x3 - x3 / 7 * 7))) k8 x6.toNatClampNeg)) x6 (setR s k4 (upd (gR s k4) x6.toNatClampNeg (x3 - x3 / 7 * 7)))) ∧ (¬ x5 = 0 → ∃ k13, tM x0 29 = some k13 ∧ kM k13 = 7 ∧ vp_in x6 (lM k13) ∧ ∃ k17, tM x0 40 = some k17 ∧ kM k17 = 7 ∧ vp_in x6 (lM k17) ∧ ((9 < ((gR (setR s k4 (upd (gR s k4) x6.toNatClampNeg (x3 - x3 / 7 * 7))) k13 x6.toNatClampNeg) + (gR (setR s k4 (upd (gR s k4) x6.toNatClampNeg (x3 - x3 / 7 * 7))) k17 x6.toNatClampNeg)) → p_X6_take_b73 Q (fun y0 y2 y3 y4 y5 y6 u => p_X6_take_L11 Q  n y0 y2 y3 y4 y5 y6 u) x0 x2 (x3 / 7) (x4 + (gR (setR s k4 (upd (gR s k4) x6.toNatClampNeg (x3 - x3 / 7 * 7))) k8 x6.toNatClampNeg)) x6 (setR s k4 (upd (gR s k4) x6.toNatClampNeg (x3 - x3 / 7 * 7)))) ∧ (¬ 9 < ((gR (setR s k4 (upd (gR s k4) x6.toNatClampNeg (x3 - x3 / 7 * 7))) k13 x6.toNatClampNeg) + (gR (setR s k4 (upd (gR s k4) x6.toNatClampNeg (x3 - x3 / 7 * 7))) k17 x6.toNatClampNeg)) → p_X6_take_b74 Q (fun y0 y2 y3 y4 y5 y6 u => p_X6_take_L11 Q  n y0 y2 y3 y4 y5 y6 u) x0 x2 (x3 / 7) (x4 + (gR (setR s k4 (upd (gR s k4) x6.toNatClampNeg (x3 - x3 / 7 * 7))) k8 x6.toNatClampNeg)) x6 1 (setR s k4 (upd (gR s k4) x6.toNatClampNeg (x3 - x3 / 7 * 7)))))))))
def p_X6_take (x0 : Nat) (x1 : Int32) (x2 : Int32) (s : Sg) (Q : Int32 → Sg → Prop) : Prop := (∃ n1, p_X6_take_L11 Q  n1 x0 x2 x1 0 1 5 s)
set_option maxHeartbeats 4000000 in
set_option maxRecDepth 100000 in
theorem c_X6_take (l : Launch) (D : va_G) (cs : Cs) (ad : Nat → Nat) (x0 : Nat) (x1 : Int32) (x2 : Int32) (s0 : Sg) (Q : Int32 → Sg → Prop) (hk0 : kM x0 = 5) : Met l yX6_take wsX6_take { frames := 0, cells := 0, slots := 0, locals := 0 } (Pc0 bM D cs ad [.ref (ad x0), .int x1, .int x2] s0 (p_X6_take x0 x1 x2 s0 Q)) (QI bM D cs ad Q) 0 0 (fAd bM ad) := by
  refine Met.ofW (cc := cX6_take) (maxL := 7) (ret := (some .boolean)) (by decide) rfl ?_
  intro p e s m args below meth c s₁ B0 hml hv
  obtain ⟨ha, hP, hE, h⟩ := hv
  have hx := B0.exec
  have hb := B0.bytes
  have hr := B0.returns
  have hts := atoms_spec (ws := wsX6_take) B0.pre
  have hown : s.vm.findClass RX6 = some m.cls := findClass_of_methodNamed B0.named
  have hlocks := B0.notSynchronized
  have hi_X6 : ∀ w ∈ u_ws RX6 TX6 42, w ∈ wsX6_take := by decide +kernel
  have hS : va_S (fAd bM ad) s.heap s.heap [] := va_S.rf
  have hl := lv_entry ([.ref (ad x0), .int x1, .int x2]) (n := 7) (by first | exact Nat.le_of_ble_eq_true rfl | simp [lg_sl, re_cat, cat_i, cat_l, cat_r])
  rw [show entryFrame m args 7 = entryFrame m ([.ref (ad x0), .int x1, .int x2] : List Value).toArray 7 by rw [ha], lg_entry_eq]
  generalize (lg_sl ([.ref (ad x0), .int x1, .int x2]) ++ List.replicate (7 - (lg_sl ([.ref (ad x0), .int x1, .int x2])).length) Slot.unset).toArray = ls at hl ⊢
  have hl : lv_has ls 7 [(0, .ref (ad x0)), (1, .int x1), (2, .int x2)] := by first | exact hl | simpa [lv_args, re_cat, cat_i, cat_l, cat_r] using hl
  have hB11 : ∀ (n11 : Nat) (x2 : Int32) (x3 : Int32) (x4 : Int32) (x5 : Int32) (x6 : Int32) (σ : Sg) (H : Heap) (locs : List Loc) (ls : Array Slot), p_X6_take_L11 Q  n11 x0 x2 x3 x4 x5 x6 σ → va_P D vwCl (wl bM cs ad σ) H → va_S (fAd bM ad) s.heap H locs → lv_has ls 7 [(0, .ref (ad x0)), (2, .int x2), (3, .int x3), (4, .int x4), (5, .int x5), (6, .int x6)] → W p l e { frames := 0, cells := 0, slots := 0, locals := 0 } s m args below meth c H locs 0 0 (MQ below (QI bM D cs ad Q) args s 0 0 (fAd bM ad)) (F0 m 11 ls []) := by
    intro n11
    induction n11 with
    | zero =>
      intro x2 x3 x4 x5 x6 σ H locs ls h
      exact h.elim
    | succ n11 ih =>
      have hK11 := ih
      have hB74 : ∀ (x2 : Int32) (x3 : Int32) (x4 : Int32) (x6 : Int32) (t0 : Int32) (σ : Sg) (H : Heap) (locs : List Loc) (ls : Array Slot), p_X6_take_b74 Q (fun y0 y2 y3 y4 y5 y6 u => p_X6_take_L11 Q  n11 y0 y2 y3 y4 y5 y6 u) x0 x2 x3 x4 x6 t0 σ → va_P D vwCl (wl bM cs ad σ) H → va_S (fAd bM ad) s.heap H locs → lv_has ls 7 [(0, .ref (ad x0)), (2, .int x2), (3, .int x3), (4, .int x4), (6, .int x6)] → W p l e { frames := 0, cells := 0, slots := 0, locals := 0 } s m args below meth c H locs 0 0 (MQ below (QI bM D cs ad Q) args s 0 0 (fAd bM ad)) (F0 m 74 ls [.int t0]) := by
        intro x2 x3 x4 x6 t0 σ H locs ls h hP hS hl
        unfold p_X6_take_b74 at h
        refine lv_istore (i := 5) (lv' := [(5, .int t0), (0, .ref (ad x0)), (2, .int x2), (3, .int x3), (4, .int x4), (6, .int x6)]) hx hb dX6_take_74 hl (by decide) (by first | rfl | simp [re_cat, cat_i, cat_l, cat_r]) (fun ls hl => ?_)
        refine lv_iinc (v := x6 + (-1)) (lv' := [(6, .int (x6 + (-1))), (5, .int t0), (0, .ref (ad x0)), (2, .int x2), (3, .int x3), (4, .int x4)]) hx hb dX6_take_76 hl (k := 5) rfl rfl (by decide) (by first | rfl | simp [re_cat, cat_i, cat_l, cat_r]) (fun ls hl => ?_)
        refine lv_goto (tgt := 11) hx hb dX6_take_79 (by decide) ?_
        exact hK11 x2 x3 x4 t0 (x6 + (-1)) σ H locs ls h hP hS (lv_sub hl [2, 3, 4, 5, 1, 0] rfl)
      have hB73 : ∀ (x2 : Int32) (x3 : Int32) (x4 : Int32) (x6 : Int32) (σ : Sg) (H : Heap) (locs : List Loc) (ls : Array Slot), p_X6_take_b73 Q (fun y0 y2 y3 y4 y5 y6 u => p_X6_take_L11 Q  n11 y0 y2 y3 y4 y5 y6 u) x0 x2 x3 x4 x6 σ → va_P D vwCl (wl bM cs ad σ) H → va_S (fAd bM ad) s.heap H locs → lv_has ls 7 [(0, .ref (ad x0)), (2, .int x2), (3, .int x3), (4, .int x4), (6, .int x6)] → W p l e { frames := 0, cells := 0, slots := 0, locals := 0 } s m args below meth c H locs 0 0 (MQ below (QI bM D cs ad Q) args s 0 0 (fAd bM ad)) (F0 m 73 ls []) := by
        intro x2 x3 x4 x6 σ H locs ls h hP hS hl
        unfold p_X6_take_b73 at h
        refine lv_iconst (v := 0) hx hb dX6_take_73 (by decide) ?_
        exact hB74 x2 x3 x4 x6 0 σ H locs ls h hP hS (lv_sub hl [0, 1, 2, 3, 4] rfl)
      intro x2 x3 x4 x5 x6 σ H locs ls h hP hS hl
      rw [p_X6_take_L11] at h
      refine lv_iload hx hb dX6_take_11 (lv_at hl 5 rfl) ?_
      refine lv_if_lt (tgt := 82) hx hb dX6_take_13 (by decide) (fun c1 => ?_) (fun c1 => ?_)
      · replace h := h.1 c1
        refine lv_iload hx hb dX6_take_82 (lv_at hl 4 rfl) ?_
        refine lv_if_eq (tgt := 97) hx hb dX6_take_84 (by decide) (fun c2 => ?_) (fun c2 => ?_)
        · replace h := h.1 c2
          refine lv_iconst (v := 0) hx hb dX6_take_97 (by decide) ?_
          exact W.zret hx hb hr rfl (fun t ht hW => ⟨⟨_, _, rfl, h, pw ht hP⟩, hS.F ht⟩) hS.2.2 dX6_take_98
        · replace h := h.2 c2
          refine lv_iload hx hb dX6_take_87 (lv_at hl 3 rfl) ?_
          refine lv_iload_n hx hb dX6_take_89 rfl (lv_at hl 1 rfl) ?_
          refine lv_icmp_ne (tgt := 97) hx hb dX6_take_90 (by decide) (fun c3 => ?_) (fun c3 => ?_)
          · replace h := h.2 c3
            refine lv_iconst (v := 0) hx hb dX6_take_97 (by decide) ?_
            exact W.zret hx hb hr rfl (fun t ht hW => ⟨⟨_, _, rfl, h, pw ht hP⟩, hS.F ht⟩) hS.2.2 dX6_take_98
          · replace h := h.1 c3
            refine lv_iconst (v := 1) hx hb dX6_take_93 (by decide) ?_
            refine lv_goto (tgt := 98) hx hb dX6_take_94 (by decide) ?_
            exact W.zret hx hb hr rfl (fun t ht hW => ⟨⟨_, _, rfl, h, pw ht hP⟩, hS.F ht⟩) hS.2.2 dX6_take_98
      · replace h := h.2 c1
        refine lv_aload_n hx hb dX6_take_16 rfl (lv_at hl 0 rfl) ?_
        refine va_get (ci := 5) (v := va_re ad (tM x0 40)) (C := RX6) (T := TX6) (N := 42) hx hb hts hi_X6 hown hE.1 hP x0 (w_5 hE hk0) rfl 40 (by decide) (hts (.fieldLink RX6 89 "HemLineModel" "more" "[I") (by decide +kernel)) (fun _ h9 => h9) rfl dX6_take_17 ?_
        refine lv_iload hx hb dX6_take_20 (lv_at hl 5 rfl) ?_
        refine lv_iload_n hx hb dX6_take_22 rfl (lv_at hl 2 rfl) ?_
        refine lv_bipush (v := 7) hx hb dX6_take_23 (by decide) ?_
        refine lv_irem hx hb dX6_take_25 (by decide) ?_
        obtain ⟨k4, e5, q6, i7, h⟩ := h
        refine r_iast hx hb hE hP hS e5 q6 i7 dX6_take_26 (fun H locs hP hS => ?_)
        refine lv_iload_n hx hb dX6_take_27 rfl (lv_at hl 2 rfl) ?_
        refine lv_bipush (v := 7) hx hb dX6_take_28 (by decide) ?_
        refine lv_idiv hx hb dX6_take_30 (by decide) ?_
        refine lv_istore_n (i := 3) (lv' := [(3, .int (x3 / 7)), (0, .ref (ad x0)), (2, .int x2), (4, .int x4), (5, .int x5), (6, .int x6)]) hx hb dX6_take_31 rfl hl (by decide) (by first | rfl | simp [re_cat, cat_i, cat_l, cat_r]) (fun ls hl => ?_)
        refine lv_iload hx hb dX6_take_32 (lv_at hl 3 rfl) ?_
        refine lv_aload_n hx hb dX6_take_34 rfl (lv_at hl 1 rfl) ?_
        refine va_get (ci := 5) (v := va_re ad (tM x0 40)) (C := RX6) (T := TX6) (N := 42) hx hb hts hi_X6 hown hE.1 hP x0 (w_5 hE hk0) rfl 40 (by decide) (hts (.fieldLink RX6 89 "HemLineModel" "more" "[I") (by decide +kernel)) (fun _ h9 => h9) rfl dX6_take_35 ?_
        refine lv_iload hx hb dX6_take_38 (lv_at hl 5 rfl) ?_
        obtain ⟨k8, e9, q10, i11, h⟩ := h
        refine r_iald hx hb hE hP e9 q10 i11 dX6_take_40 ?_
        refine lv_iadd hx hb dX6_take_41 ?_
        refine lv_istore (i := 4) (lv' := [(4, .int (x4 + (gR (setR σ k4 (upd (gR σ k4) x6.toNatClampNeg (x3 - x3 / 7 * 7))) k8 x6.toNatClampNeg))), (3, .int (x3 / 7)), (0, .ref (ad x0)), (2, .int x2), (5, .int x5), (6, .int x6)]) hx hb dX6_take_42 hl (by decide) (by first | rfl | simp [re_cat, cat_i, cat_l, cat_r]) (fun ls hl => ?_)
        refine lv_iload hx hb dX6_take_44 (lv_at hl 4 rfl) ?_
        refine lv_if_eq (tgt := 73) hx hb dX6_take_46 (by decide) (fun c12 => ?_) (fun c12 => ?_)
        · replace h := h.1 c12
          exact hB73 x2 (x3 / 7) (x4 + (gR (setR σ k4 (upd (gR σ k4) x6.toNatClampNeg (x3 - x3 / 7 * 7))) k8 x6.toNatClampNeg)) x6 (setR σ k4 (upd (gR σ k4) x6.toNatClampNeg (x3 - x3 / 7 * 7))) H locs ls h hP hS (lv_sub hl [2, 3, 1, 0, 5] rfl)
        · replace h := h.2 c12
          refine lv_aload_n hx hb dX6_take_49 rfl (lv_at hl 2 rfl) ?_
          refine va_get (ci := 5) (v := va_re ad (tM x0 29)) (C := RX6) (T := TX6) (N := 42) hx hb hts hi_X6 hown hE.1 hP x0 (w_5 hE hk0) rfl 29 (by decide) (hts (.fieldLink RX6 65 "HemLineModel" "ground" "[I") (by decide +kernel)) (fun _ h9 => h9) rfl dX6_take_50 ?_
          refine lv_iload hx hb dX6_take_53 (lv_at hl 5 rfl) ?_
          obtain ⟨k13, e14, q15, i16, h⟩ := h
          refine r_iald hx hb hE hP e14 q15 i16 dX6_take_55 ?_
          refine lv_aload_n hx hb dX6_take_56 rfl (lv_at hl 2 rfl) ?_
          refine va_get (ci := 5) (v := va_re ad (tM x0 40)) (C := RX6) (T := TX6) (N := 42) hx hb hts hi_X6 hown hE.1 hP x0 (w_5 hE hk0) rfl 40 (by decide) (hts (.fieldLink RX6 89 "HemLineModel" "more" "[I") (by decide +kernel)) (fun _ h9 => h9) rfl dX6_take_57 ?_
          refine lv_iload hx hb dX6_take_60 (lv_at hl 5 rfl) ?_
          obtain ⟨k17, e18, q19, i20, h⟩ := h
          refine r_iald hx hb hE hP e18 q19 i20 dX6_take_62 ?_
          refine lv_iadd hx hb dX6_take_63 ?_
          refine lv_bipush (v := 9) hx hb dX6_take_64 (by decide) ?_
          refine lv_icmp_gt (tgt := 73) hx hb dX6_take_66 (by decide) (fun c21 => ?_) (fun c21 => ?_)
          · replace h := h.1 c21
            exact hB73 x2 (x3 / 7) (x4 + (gR (setR σ k4 (upd (gR σ k4) x6.toNatClampNeg (x3 - x3 / 7 * 7))) k8 x6.toNatClampNeg)) x6 (setR σ k4 (upd (gR σ k4) x6.toNatClampNeg (x3 - x3 / 7 * 7))) H locs ls h hP hS (lv_sub hl [2, 3, 1, 0, 5] rfl)
          · replace h := h.2 c21
            refine lv_iconst (v := 1) hx hb dX6_take_69 (by decide) ?_
            refine lv_goto (tgt := 74) hx hb dX6_take_70 (by decide) ?_
            exact hB74 x2 (x3 / 7) (x4 + (gR (setR σ k4 (upd (gR σ k4) x6.toNatClampNeg (x3 - x3 / 7 * 7))) k8 x6.toNatClampNeg)) x6 1 (setR σ k4 (upd (gR σ k4) x6.toNatClampNeg (x3 - x3 / 7 * 7))) H locs ls h hP hS (lv_sub hl [2, 3, 1, 0, 5] rfl)
  unfold p_X6_take at h
  refine lv_iload_n hx hb dX6_take_0 rfl (lv_at hl 1 rfl) ?_
  refine lv_istore_n (i := 3) (lv' := [(3, .int x1), (0, .ref (ad x0)), (1, .int x1), (2, .int x2)]) hx hb dX6_take_1 rfl hl (by decide) (by first | rfl | simp [re_cat, cat_i, cat_l, cat_r]) (fun ls hl => ?_)
  refine lv_iconst (v := 0) hx hb dX6_take_2 (by decide) ?_
  refine lv_istore (i := 4) (lv' := [(4, .int 0), (3, .int x1), (0, .ref (ad x0)), (1, .int x1), (2, .int x2)]) hx hb dX6_take_3 hl (by decide) (by first | rfl | simp [re_cat, cat_i, cat_l, cat_r]) (fun ls hl => ?_)
  refine lv_iconst (v := 1) hx hb dX6_take_5 (by decide) ?_
  refine lv_istore (i := 5) (lv' := [(5, .int 1), (4, .int 0), (3, .int x1), (0, .ref (ad x0)), (1, .int x1), (2, .int x2)]) hx hb dX6_take_6 hl (by decide) (by first | rfl | simp [re_cat, cat_i, cat_l, cat_r]) (fun ls hl => ?_)
  refine lv_iconst (v := 5) hx hb dX6_take_8 (by decide) ?_
  refine lv_istore (i := 6) (lv' := [(6, .int 5), (5, .int 1), (4, .int 0), (3, .int x1), (0, .ref (ad x0)), (1, .int x1), (2, .int x2)]) hx hb dX6_take_9 hl (by decide) (by first | rfl | simp [re_cat, cat_i, cat_l, cat_r]) (fun ls hl => ?_)
  obtain ⟨n1, h⟩ := h
  exact hB11 n1 x2 x1 0 1 5 s0 _ _ ls h hP hS (lv_sub hl [4, 6, 3, 2, 1, 0] rfl)
def p_X6_raise_b134 (Q : Int32 → Sg → Prop) (K86 : Nat → Int32 → Int32 → Int32 → Int32 → Int32 → Int32 → Sg → Prop) (x0 : Nat) (x1 : Int32) (x2 : Int32) (x3 : Int32) (x5 : Int32) (x6 : Int32) (x7 : Int32) (s : Sg) : Prop := K86 x0 x1 x2 x3 x5 x6 (x7 + 1) s
def p_X6_raise_b126 (Q : Int32 → Sg → Prop) (K86 : Nat → Int32 → Int32 → Int32 → Int32 → Int32 → Int32 → Sg → Prop) (x0 : Nat) (x1 : Int32) (x2 : Int32) (x3 : Int32) (x7 : Int32) (x8 : Int32) (s : Sg) : Prop := p_X6_raise_b134 Q K86 x0 x1 x2 x3 x7 x8 x7 s
def p_X6_raise_L158 (Q : Int32 → Sg → Prop)  : Nat → Nat → Int32 → Int32 → Int32 → Sg → Prop
  | 0, _, _, _, _, _ => False
  | n + 1, x0, x3, x6, x7, s => ((6 ≤ x7 → Q x6 s) ∧ (¬ 6 ≤ x7 → ∃ k2, tM x0 40 = some k2 ∧ kM k2 = 7 ∧ vp_in x7 (lM k2) ∧ ∃ k6, tM x0 5 = some k6 ∧ kM k6 = 7 ∧ vp_in ((40 * x3) + x7) (lM k6) ∧ p_X6_raise_L158 Q  n x0 x3 x6 (x7 + 1) (setR s k6 (upd (gR s k6) ((40 * x3) + x7).toNatClampNeg (gR s k2 x7.toNatClampNeg)))))
def p_X6_raise_L86 (Q : Int32 → Sg → Prop)  : Nat → Nat → Int32 → Int32 → Int32 → Int32 → Int32 → Int32 → Sg → Prop
  | 0, _, _, _, _, _, _, _, _ => False
  | n + 1, x0, x1, x2, x3, x5, x6, x7, s => ((117649 ≤ x7 → p_X6_take x0 x5 x1 s (fun r3 s2 => p_X6_clearRow x0 x3 6 s2 (fun s4 => (∃ n5, p_X6_raise_L158 Q  n5 x0 x3 x6 0 s4)))) ∧ (¬ 117649 ≤ x7 → p_X6_take x0 x7 x1 s (fun r7 s6 => ((r7 = 0 → p_X6_raise_b134 Q (fun y0 y1 y2 y3 y5 y6 y7 u => p_X6_raise_L86 Q  n y0 y1 y2 y3 y5 y6 y7 u) x0 x1 x2 x3 x5 x6 x7 s6) ∧ (¬ r7 = 0 → p_X6_wetAll x0 x2 63 s6 (fun r10 s9 => ((x5 = ((-9)) → p_X6_raise_b126 Q (fun y0 y1 y2 y3 y5 y6 y7 u => p_X6_raise_L86 Q  n y0 y1 y2 y3 y5 y6 y7 u) x0 x1 x2 x3 x7 r10 s9) ∧ (¬ x5 = ((-9)) → ((x6 ≤ r10 → p_X6_raise_b134 Q (fun y0 y1 y2 y3 y5 y6 y7 u => p_X6_raise_L86 Q  n y0 y1 y2 y3 y5 y6 y7 u) x0 x1 x2 x3 x5 x6 x7 s9) ∧ (¬ x6 ≤ r10 → p_X6_raise_b126 Q (fun y0 y1 y2 y3 y5 y6 y7 u => p_X6_raise_L86 Q  n y0 y1 y2 y3 y5 y6 y7 u) x0 x1 x2 x3 x7 r10 s9))))))))))
def p_X6_raise_L32 (Q : Int32 → Sg → Prop)  : Nat → Nat → Int32 → Int32 → Int32 → Int32 → Int32 → Sg → Prop
  | 0, _, _, _, _, _, _, _ => False
  | n + 1, x0, x1, x2, x3, x4, x5, s => ((6 ≤ x5 → (((gI s x0 20) = 0 → Q ((-4)) s) ∧ (¬ (gI s x0 20) = 0 → ((x1 ≤ x4 → (∃ n4, p_X6_raise_L86 Q  n4 x0 x1 x2 x3 ((-9)) 0 0 s)) ∧ (¬ x1 ≤ x4 → Q ((-4)) s))))) ∧ (¬ 6 ≤ x5 → ∃ k5, tM x0 29 = some k5 ∧ kM k5 = 7 ∧ vp_in x5 (lM k5) ∧ p_X6_raise_L32 Q  n x0 x1 x2 x3 (x4 + (9 - (gR s k5 x5.toNatClampNeg))) (x5 + 1) s))
def p_X6_raise (x0 : Nat) (x1 : Int32) (x2 : Int32) (x3 : Int32) (s : Sg) (Q : Int32 → Sg → Prop) : Prop := p_X6_in x1 0 6 s (fun r2 s1 => ((r2 = 0 → Q ((-1)) s1) ∧ (¬ r2 = 0 → p_X6_isHeight x2 s1 (fun r5 s4 => ((r5 = 0 → Q ((-1)) s4) ∧ (¬ r5 = 0 → p_X6_isRow x3 s4 (fun r8 s7 => ((r8 = 0 → Q ((-1)) s7) ∧ (¬ r8 = 0 → (∃ n10, p_X6_raise_L32 Q  n10 x0 x1 x2 x3 0 0 s7))))))))))
set_option maxHeartbeats 4000000 in
set_option maxRecDepth 100000 in
theorem c_X6_raise (l : Launch) (D : va_G) (cs : Cs) (ad : Nat → Nat) (x0 : Nat) (x1 : Int32) (x2 : Int32) (x3 : Int32) (s0 : Sg) (Q : Int32 → Sg → Prop) (hk0 : kM x0 = 5) : Met l yX6_raise wsX6_raise { frames := 2, cells := 0, slots := 0, locals := 45 } (Pc0 bM D cs ad [.ref (ad x0), .int x1, .int x2, .int x3] s0 (p_X6_raise x0 x1 x2 x3 s0 Q)) (QI bM D cs ad Q) 0 0 (fAd bM ad) := by
  refine Met.ofW (cc := cX6_raise) (maxL := 9) (ret := (some .int)) (by decide) rfl ?_
  intro p e s m args below meth c s₁ B0 hml hv
  obtain ⟨ha, hP, hE, h⟩ := hv
  have hx := B0.exec
  have hb := B0.bytes
  have hr := B0.returns
  have hts := atoms_spec (ws := wsX6_raise) B0.pre
  have hown : s.vm.findClass RX6 = some m.cls := findClass_of_methodNamed B0.named
  have hlocks := B0.notSynchronized
  have hi_X6 : ∀ w ∈ u_ws RX6 TX6 42, w ∈ wsX6_raise := by decide +kernel
  have hS : va_S (fAd bM ad) s.heap s.heap [] := va_S.rf
  have hl := lv_entry ([.ref (ad x0), .int x1, .int x2, .int x3]) (n := 9) (by first | exact Nat.le_of_ble_eq_true rfl | simp [lg_sl, re_cat, cat_i, cat_l, cat_r])
  rw [show entryFrame m args 9 = entryFrame m ([.ref (ad x0), .int x1, .int x2, .int x3] : List Value).toArray 9 by rw [ha], lg_entry_eq]
  generalize (lg_sl ([.ref (ad x0), .int x1, .int x2, .int x3]) ++ List.replicate (9 - (lg_sl ([.ref (ad x0), .int x1, .int x2, .int x3])).length) Slot.unset).toArray = ls at hl ⊢
  have hl : lv_has ls 9 [(0, .ref (ad x0)), (1, .int x1), (2, .int x2), (3, .int x3)] := by first | exact hl | simpa [lv_args, re_cat, cat_i, cat_l, cat_r] using hl
  have hB158 : ∀ (n158 : Nat) (x3 : Int32) (x6 : Int32) (x7 : Int32) (σ : Sg) (H : Heap) (locs : List Loc) (ls : Array Slot), p_X6_raise_L158 Q  n158 x0 x3 x6 x7 σ → va_P D vwCl (wl bM cs ad σ) H → va_S (fAd bM ad) s.heap H locs → lv_has ls 9 [(0, .ref (ad x0)), (3, .int x3), (6, .int x6), (7, .int x7)] → W p l e { frames := 2, cells := 0, slots := 0, locals := 45 } s m args below meth c H locs 0 0 (MQ below (QI bM D cs ad Q) args s 0 0 (fAd bM ad)) (F0 m 158 ls []) := by
    intro n158
    induction n158 with
    | zero =>
      intro x3 x6 x7 σ H locs ls h
      exact h.elim
    | succ n158 ih =>
      have hK158 := ih
      intro x3 x6 x7 σ H locs ls h hP hS hl
      rw [p_X6_raise_L158] at h
      refine lv_iload hx hb dX6_raise_158 (lv_at hl 3 rfl) ?_
      refine lv_bipush (v := 6) hx hb dX6_raise_160 (by decide) ?_
      refine lv_icmp_ge (tgt := 190) hx hb dX6_raise_162 (by decide) (fun c1 => ?_) (fun c1 => ?_)
      · replace h := h.1 c1
        refine lv_iload hx hb dX6_raise_190 (lv_at hl 2 rfl) ?_
        exact W.iret hx hb hr (fun t ht hW => ⟨⟨_, _, rfl, h, pw ht hP⟩, hS.F ht⟩) hS.2.2 dX6_raise_192
      · replace h := h.2 c1
        refine lv_aload_n hx hb dX6_raise_165 rfl (lv_at hl 0 rfl) ?_
        refine va_get (ci := 5) (v := va_re ad (tM x0 5)) (C := RX6) (T := TX6) (N := 42) hx hb hts hi_X6 hown hE.1 hP x0 (w_5 hE hk0) rfl 5 (by decide) (hts (.fieldLink RX6 13 "HemLineModel" "cells" "[I") (by decide +kernel)) (fun _ h9 => h9) rfl dX6_raise_166 ?_
        refine lv_bipush (v := 40) hx hb dX6_raise_169 (by decide) ?_
        refine lv_iload_n hx hb dX6_raise_171 rfl (lv_at hl 1 rfl) ?_
        refine lv_imul hx hb dX6_raise_172 ?_
        refine lv_iload hx hb dX6_raise_173 (lv_at hl 3 rfl) ?_
        refine lv_iadd hx hb dX6_raise_175 ?_
        refine lv_aload_n hx hb dX6_raise_176 rfl (lv_at hl 0 rfl) ?_
        refine va_get (ci := 5) (v := va_re ad (tM x0 40)) (C := RX6) (T := TX6) (N := 42) hx hb hts hi_X6 hown hE.1 hP x0 (w_5 hE hk0) rfl 40 (by decide) (hts (.fieldLink RX6 89 "HemLineModel" "more" "[I") (by decide +kernel)) (fun _ h9 => h9) rfl dX6_raise_177 ?_
        refine lv_iload hx hb dX6_raise_180 (lv_at hl 3 rfl) ?_
        obtain ⟨k2, e3, q4, i5, h⟩ := h
        refine r_iald hx hb hE hP e3 q4 i5 dX6_raise_182 ?_
        obtain ⟨k6, e7, q8, i9, h⟩ := h
        refine r_iast hx hb hE hP hS e7 q8 i9 dX6_raise_183 (fun H locs hP hS => ?_)
        refine lv_iinc (v := x7 + 1) (lv' := [(7, .int (x7 + 1)), (0, .ref (ad x0)), (3, .int x3), (6, .int x6)]) hx hb dX6_raise_184 hl (k := 3) rfl rfl (by decide) (by first | rfl | simp [re_cat, cat_i, cat_l, cat_r]) (fun ls hl => ?_)
        refine lv_goto (tgt := 158) hx hb dX6_raise_187 (by decide) ?_
        exact ih x3 x6 (x7 + 1) (setR σ k6 (upd (gR σ k6) ((40 * x3) + x7).toNatClampNeg (gR σ k2 x7.toNatClampNeg))) H locs ls h hP hS (lv_sub hl [1, 2, 3, 0] rfl)
  have hB86 : ∀ (n86 : Nat) (x1 : Int32) (x2 : Int32) (x3 : Int32) (x5 : Int32) (x6 : Int32) (x7 : Int32) (σ : Sg) (H : Heap) (locs : List Loc) (ls : Array Slot), p_X6_raise_L86 Q  n86 x0 x1 x2 x3 x5 x6 x7 σ → va_P D vwCl (wl bM cs ad σ) H → va_S (fAd bM ad) s.heap H locs → lv_has ls 9 [(0, .ref (ad x0)), (1, .int x1), (2, .int x2), (3, .int x3), (5, .int x5), (6, .int x6), (7, .int x7)] → W p l e { frames := 2, cells := 0, slots := 0, locals := 45 } s m args below meth c H locs 0 0 (MQ below (QI bM D cs ad Q) args s 0 0 (fAd bM ad)) (F0 m 86 ls []) := by
    intro n86
    induction n86 with
    | zero =>
      intro x1 x2 x3 x5 x6 x7 σ H locs ls h
      exact h.elim
    | succ n86 ih =>
      have hK86 := ih
      have hB134 : ∀ (x1 : Int32) (x2 : Int32) (x3 : Int32) (x5 : Int32) (x6 : Int32) (x7 : Int32) (σ : Sg) (H : Heap) (locs : List Loc) (ls : Array Slot), p_X6_raise_b134 Q (fun y0 y1 y2 y3 y5 y6 y7 u => p_X6_raise_L86 Q  n86 y0 y1 y2 y3 y5 y6 y7 u) x0 x1 x2 x3 x5 x6 x7 σ → va_P D vwCl (wl bM cs ad σ) H → va_S (fAd bM ad) s.heap H locs → lv_has ls 9 [(0, .ref (ad x0)), (1, .int x1), (2, .int x2), (3, .int x3), (5, .int x5), (6, .int x6), (7, .int x7)] → W p l e { frames := 2, cells := 0, slots := 0, locals := 45 } s m args below meth c H locs 0 0 (MQ below (QI bM D cs ad Q) args s 0 0 (fAd bM ad)) (F0 m 134 ls []) := by
        intro x1 x2 x3 x5 x6 x7 σ H locs ls h hP hS hl
        unfold p_X6_raise_b134 at h
        refine lv_iinc (v := x7 + 1) (lv' := [(7, .int (x7 + 1)), (0, .ref (ad x0)), (1, .int x1), (2, .int x2), (3, .int x3), (5, .int x5), (6, .int x6)]) hx hb dX6_raise_134 hl (k := 6) rfl rfl (by decide) (by first | rfl | simp [re_cat, cat_i, cat_l, cat_r]) (fun ls hl => ?_)
        refine lv_goto (tgt := 86) hx hb dX6_raise_137 (by decide) ?_
        exact hK86 x1 x2 x3 x5 x6 (x7 + 1) σ H locs ls h hP hS (lv_sub hl [1, 2, 3, 4, 5, 6, 0] rfl)
      have hB126 : ∀ (x1 : Int32) (x2 : Int32) (x3 : Int32) (x7 : Int32) (x8 : Int32) (σ : Sg) (H : Heap) (locs : List Loc) (ls : Array Slot), p_X6_raise_b126 Q (fun y0 y1 y2 y3 y5 y6 y7 u => p_X6_raise_L86 Q  n86 y0 y1 y2 y3 y5 y6 y7 u) x0 x1 x2 x3 x7 x8 σ → va_P D vwCl (wl bM cs ad σ) H → va_S (fAd bM ad) s.heap H locs → lv_has ls 9 [(0, .ref (ad x0)), (1, .int x1), (2, .int x2), (3, .int x3), (7, .int x7), (8, .int x8)] → W p l e { frames := 2, cells := 0, slots := 0, locals := 45 } s m args below meth c H locs 0 0 (MQ below (QI bM D cs ad Q) args s 0 0 (fAd bM ad)) (F0 m 126 ls []) := by
        intro x1 x2 x3 x7 x8 σ H locs ls h hP hS hl
        unfold p_X6_raise_b126 at h
        refine lv_iload hx hb dX6_raise_126 (lv_at hl 4 rfl) ?_
        refine lv_istore (i := 5) (lv' := [(5, .int x7), (0, .ref (ad x0)), (1, .int x1), (2, .int x2), (3, .int x3), (7, .int x7), (8, .int x8)]) hx hb dX6_raise_128 hl (by decide) (by first | rfl | simp [re_cat, cat_i, cat_l, cat_r]) (fun ls hl => ?_)
        refine lv_iload hx hb dX6_raise_130 (lv_at hl 6 rfl) ?_
        refine lv_istore (i := 6) (lv' := [(6, .int x8), (5, .int x7), (0, .ref (ad x0)), (1, .int x1), (2, .int x2), (3, .int x3), (7, .int x7), (8, .int x8)]) hx hb dX6_raise_132 hl (by decide) (by first | rfl | simp [re_cat, cat_i, cat_l, cat_r]) (fun ls hl => ?_)
        exact hB134 x1 x2 x3 x7 x8 x7 σ H locs ls h hP hS (lv_sub hl [2, 3, 4, 5, 1, 0, 6] rfl)
      intro x1 x2 x3 x5 x6 x7 σ H locs ls h hP hS hl
      rw [p_X6_raise_L86] at h
      refine lv_iload hx hb dX6_raise_86 (lv_at hl 6 rfl) ?_
      refine lv_ldc (v := 117649) hx hb hown (hts (.constant RX6 250 (117649)) (by decide +kernel)) dX6_raise_88 ?_
      refine lv_icmp_ge (tgt := 140) hx hb dX6_raise_90 (by decide) (fun c1 => ?_) (fun c1 => ?_)
      · replace h := h.1 c1
        refine lv_aload_n hx hb dX6_raise_140 rfl (lv_at hl 0 rfl) ?_
        refine lv_iload hx hb dX6_raise_141 (lv_at hl 4 rfl) ?_
        refine lv_iload_n hx hb dX6_raise_143 rfl (lv_at hl 1 rfl) ?_
        refine f_i (kV (As := [.int x5, .int x1]) (rest := []) (o := some x0) rfl ⟨hx, hb, hml, hown, hts⟩ (c_X6_take l D cs ad x0 x5 x1 σ _ hk0) (cwV 2 hts gX6_raise_X6_take rfl rfl rfl (by decide +kernel) ⟨Nat.le_of_ble_eq_true rfl, Nat.le_of_ble_eq_true rfl⟩) hE hP rfl rfl (w_5 hE hk0) h rfl hl.1 rfl (by first | exact lv_room (Nat.le_of_ble_eq_true rfl) | (refine lv_room ?_; simp [re_cat, cat_i, cat_l, cat_r])) dX6_raise_144 ⟨Nat.le_refl _, Nat.le_refl _⟩) hS (fun r3 s2 H locs h hP hS => ?_)
        refine lv_pop hx hb dX6_raise_147 (by first | rfl | exact re_cat _ _) ?_
        refine lv_aload_n hx hb dX6_raise_148 rfl (lv_at hl 0 rfl) ?_
        refine lv_iload_n hx hb dX6_raise_149 rfl (lv_at hl 3 rfl) ?_
        refine lv_bipush (v := 6) hx hb dX6_raise_150 (by decide) ?_
        refine f_v (kV (As := [.int x3, .int 6]) (rest := []) (o := some x0) rfl ⟨hx, hb, hml, hown, hts⟩ (c_X6_clearRow l D cs ad x0 x3 6 s2 _ hk0) (cwV 2 hts gX6_raise_X6_clearRow rfl rfl rfl (by decide +kernel) ⟨Nat.le_of_ble_eq_true rfl, Nat.le_of_ble_eq_true rfl⟩) hE hP rfl rfl (w_5 hE hk0) h rfl hl.1 rfl (by first | exact lv_room (Nat.le_of_ble_eq_true rfl) | (refine lv_room ?_; simp [re_cat, cat_i, cat_l, cat_r])) dX6_raise_152 ⟨Nat.le_refl _, Nat.le_refl _⟩) hS (fun s4 H locs h hP hS => ?_)
        refine lv_iconst (v := 0) hx hb dX6_raise_155 (by decide) ?_
        refine lv_istore (i := 7) (lv' := [(7, .int 0), (0, .ref (ad x0)), (1, .int x1), (2, .int x2), (3, .int x3), (5, .int x5), (6, .int x6)]) hx hb dX6_raise_156 hl (by decide) (by first | rfl | simp [re_cat, cat_i, cat_l, cat_r]) (fun ls hl => ?_)
        obtain ⟨n5, h⟩ := h
        exact hB158 n5 x3 x6 0 s4 H locs ls h hP hS (lv_sub hl [1, 4, 6, 0] rfl)
      · replace h := h.2 c1
        refine lv_aload_n hx hb dX6_raise_93 rfl (lv_at hl 0 rfl) ?_
        refine lv_iload hx hb dX6_raise_94 (lv_at hl 6 rfl) ?_
        refine lv_iload_n hx hb dX6_raise_96 rfl (lv_at hl 1 rfl) ?_
        refine f_i (kV (As := [.int x7, .int x1]) (rest := []) (o := some x0) rfl ⟨hx, hb, hml, hown, hts⟩ (c_X6_take l D cs ad x0 x7 x1 σ _ hk0) (cwV 2 hts gX6_raise_X6_take rfl rfl rfl (by decide +kernel) ⟨Nat.le_of_ble_eq_true rfl, Nat.le_of_ble_eq_true rfl⟩) hE hP rfl rfl (w_5 hE hk0) h rfl hl.1 rfl (by first | exact lv_room (Nat.le_of_ble_eq_true rfl) | (refine lv_room ?_; simp [re_cat, cat_i, cat_l, cat_r])) dX6_raise_97 ⟨Nat.le_refl _, Nat.le_refl _⟩) hS (fun r7 s6 H locs h hP hS => ?_)
        refine lv_if_eq (tgt := 134) hx hb dX6_raise_100 (by decide) (fun c8 => ?_) (fun c8 => ?_)
        · replace h := h.1 c8
          exact hB134 x1 x2 x3 x5 x6 x7 s6 H locs ls h hP hS (lv_sub hl [0, 1, 2, 3, 4, 5, 6] rfl)
        · replace h := h.2 c8
          refine lv_aload_n hx hb dX6_raise_103 rfl (lv_at hl 0 rfl) ?_
          refine lv_iload_n hx hb dX6_raise_104 rfl (lv_at hl 2 rfl) ?_
          refine lv_bipush (v := 63) hx hb dX6_raise_105 (by decide) ?_
          refine f_i (kV (As := [.int x2, .int 63]) (rest := []) (o := some x0) rfl ⟨hx, hb, hml, hown, hts⟩ (c_X6_wetAll l D cs ad x0 x2 63 s6 _ hk0) (cwV 2 hts gX6_raise_X6_wetAll rfl rfl rfl (by decide +kernel) ⟨Nat.le_of_ble_eq_true rfl, Nat.le_of_ble_eq_true rfl⟩) hE hP rfl rfl (w_5 hE hk0) h rfl hl.1 rfl (by first | exact lv_room (Nat.le_of_ble_eq_true rfl) | (refine lv_room ?_; simp [re_cat, cat_i, cat_l, cat_r])) dX6_raise_107 ⟨Nat.le_refl _, Nat.le_refl _⟩) hS (fun r10 s9 H locs h hP hS => ?_)
          refine lv_istore (i := 8) (lv' := [(8, .int r10), (0, .ref (ad x0)), (1, .int x1), (2, .int x2), (3, .int x3), (5, .int x5), (6, .int x6), (7, .int x7)]) hx hb dX6_raise_110 hl (by decide) (by first | rfl | simp [re_cat, cat_i, cat_l, cat_r]) (fun ls hl => ?_)
          refine lv_iload hx hb dX6_raise_112 (lv_at hl 5 rfl) ?_
          refine lv_bipush (v := (-9)) hx hb dX6_raise_114 (by decide) ?_
          refine lv_icmp_eq (tgt := 126) hx hb dX6_raise_116 (by decide) (fun c11 => ?_) (fun c11 => ?_)
          · replace h := h.1 c11
            exact hB126 x1 x2 x3 x7 r10 s9 H locs ls h hP hS (lv_sub hl [1, 2, 3, 4, 7, 0] rfl)
          · replace h := h.2 c11
            refine lv_iload hx hb dX6_raise_119 (lv_at hl 0 rfl) ?_
            refine lv_iload hx hb dX6_raise_121 (lv_at hl 6 rfl) ?_
            refine lv_icmp_ge (tgt := 134) hx hb dX6_raise_123 (by decide) (fun c12 => ?_) (fun c12 => ?_)
            · replace h := h.1 c12
              exact hB134 x1 x2 x3 x5 x6 x7 s9 H locs ls h hP hS (lv_sub hl [1, 2, 3, 4, 5, 6, 7] rfl)
            · replace h := h.2 c12
              exact hB126 x1 x2 x3 x7 r10 s9 H locs ls h hP hS (lv_sub hl [1, 2, 3, 4, 7, 0] rfl)
  have hB32 : ∀ (n32 : Nat) (x1 : Int32) (x2 : Int32) (x3 : Int32) (x4 : Int32) (x5 : Int32) (σ : Sg) (H : Heap) (locs : List Loc) (ls : Array Slot), p_X6_raise_L32 Q  n32 x0 x1 x2 x3 x4 x5 σ → va_P D vwCl (wl bM cs ad σ) H → va_S (fAd bM ad) s.heap H locs → lv_has ls 9 [(0, .ref (ad x0)), (1, .int x1), (2, .int x2), (3, .int x3), (4, .int x4), (5, .int x5)] → W p l e { frames := 2, cells := 0, slots := 0, locals := 45 } s m args below meth c H locs 0 0 (MQ below (QI bM D cs ad Q) args s 0 0 (fAd bM ad)) (F0 m 32 ls []) := by
    intro n32
    induction n32 with
    | zero =>
      intro x1 x2 x3 x4 x5 σ H locs ls h
      exact h.elim
    | succ n32 ih =>
      have hK32 := ih
      intro x1 x2 x3 x4 x5 σ H locs ls h hP hS hl
      rw [p_X6_raise_L32] at h
      refine lv_iload hx hb dX6_raise_32 (lv_at hl 5 rfl) ?_
      refine lv_bipush (v := 6) hx hb dX6_raise_34 (by decide) ?_
      refine lv_icmp_ge (tgt := 60) hx hb dX6_raise_36 (by decide) (fun c1 => ?_) (fun c1 => ?_)
      · replace h := h.1 c1
        refine lv_aload_n hx hb dX6_raise_60 rfl (lv_at hl 0 rfl) ?_
        refine va_get (ci := 5) (v := .int (gI σ x0 20)) (C := RX6) (T := TX6) (N := 42) hx hb hts hi_X6 hown hE.1 hP x0 (w_5 hE hk0) rfl 20 (by decide) (hts (.fieldLink RX6 167 "HemLineModel" "women" "I") (by decide +kernel)) (fun _ h9 => h9) rfl dX6_raise_61 ?_
        refine lv_if_eq (tgt := 73) hx hb dX6_raise_64 (by decide) (fun c2 => ?_) (fun c2 => ?_)
        · replace h := h.1 c2
          refine lv_bipush (v := (-4)) hx hb dX6_raise_73 (by decide) ?_
          exact W.iret hx hb hr (fun t ht hW => ⟨⟨_, _, rfl, h, pw ht hP⟩, hS.F ht⟩) hS.2.2 dX6_raise_75
        · replace h := h.2 c2
          refine lv_iload hx hb dX6_raise_67 (lv_at hl 4 rfl) ?_
          refine lv_iload_n hx hb dX6_raise_69 rfl (lv_at hl 1 rfl) ?_
          refine lv_icmp_ge (tgt := 76) hx hb dX6_raise_70 (by decide) (fun c3 => ?_) (fun c3 => ?_)
          · replace h := h.1 c3
            refine lv_bipush (v := (-9)) hx hb dX6_raise_76 (by decide) ?_
            refine lv_istore (i := 5) (lv' := [(5, .int ((-9))), (0, .ref (ad x0)), (1, .int x1), (2, .int x2), (3, .int x3), (4, .int x4)]) hx hb dX6_raise_78 hl (by decide) (by first | rfl | simp [re_cat, cat_i, cat_l, cat_r]) (fun ls hl => ?_)
            refine lv_iconst (v := 0) hx hb dX6_raise_80 (by decide) ?_
            refine lv_istore (i := 6) (lv' := [(6, .int 0), (5, .int ((-9))), (0, .ref (ad x0)), (1, .int x1), (2, .int x2), (3, .int x3), (4, .int x4)]) hx hb dX6_raise_81 hl (by decide) (by first | rfl | simp [re_cat, cat_i, cat_l, cat_r]) (fun ls hl => ?_)
            refine lv_iconst (v := 0) hx hb dX6_raise_83 (by decide) ?_
            refine lv_istore (i := 7) (lv' := [(7, .int 0), (6, .int 0), (5, .int ((-9))), (0, .ref (ad x0)), (1, .int x1), (2, .int x2), (3, .int x3), (4, .int x4)]) hx hb dX6_raise_84 hl (by decide) (by first | rfl | simp [re_cat, cat_i, cat_l, cat_r]) (fun ls hl => ?_)
            obtain ⟨n4, h⟩ := h
            exact hB86 n4 x1 x2 x3 ((-9)) 0 0 σ H locs ls h hP hS (lv_sub hl [3, 4, 5, 6, 2, 1, 0] rfl)
          · replace h := h.2 c3
            refine lv_bipush (v := (-4)) hx hb dX6_raise_73 (by decide) ?_
            exact W.iret hx hb hr (fun t ht hW => ⟨⟨_, _, rfl, h, pw ht hP⟩, hS.F ht⟩) hS.2.2 dX6_raise_75
      · replace h := h.2 c1
        refine lv_iload hx hb dX6_raise_39 (lv_at hl 4 rfl) ?_
        refine lv_bipush (v := 9) hx hb dX6_raise_41 (by decide) ?_
        refine lv_aload_n hx hb dX6_raise_43 rfl (lv_at hl 0 rfl) ?_
        refine va_get (ci := 5) (v := va_re ad (tM x0 29)) (C := RX6) (T := TX6) (N := 42) hx hb hts hi_X6 hown hE.1 hP x0 (w_5 hE hk0) rfl 29 (by decide) (hts (.fieldLink RX6 65 "HemLineModel" "ground" "[I") (by decide +kernel)) (fun _ h9 => h9) rfl dX6_raise_44 ?_
        refine lv_iload hx hb dX6_raise_47 (lv_at hl 5 rfl) ?_
        obtain ⟨k5, e6, q7, i8, h⟩ := h
        refine r_iald hx hb hE hP e6 q7 i8 dX6_raise_49 ?_
        refine lv_isub hx hb dX6_raise_50 ?_
        refine lv_iadd hx hb dX6_raise_51 ?_
        refine lv_istore (i := 4) (lv' := [(4, .int (x4 + (9 - (gR σ k5 x5.toNatClampNeg)))), (0, .ref (ad x0)), (1, .int x1), (2, .int x2), (3, .int x3), (5, .int x5)]) hx hb dX6_raise_52 hl (by decide) (by first | rfl | simp [re_cat, cat_i, cat_l, cat_r]) (fun ls hl => ?_)
        refine lv_iinc (v := x5 + 1) (lv' := [(5, .int (x5 + 1)), (4, .int (x4 + (9 - (gR σ k5 x5.toNatClampNeg)))), (0, .ref (ad x0)), (1, .int x1), (2, .int x2), (3, .int x3)]) hx hb dX6_raise_54 hl (k := 5) rfl rfl (by decide) (by first | rfl | simp [re_cat, cat_i, cat_l, cat_r]) (fun ls hl => ?_)
        refine lv_goto (tgt := 32) hx hb dX6_raise_57 (by decide) ?_
        exact ih x1 x2 x3 (x4 + (9 - (gR σ k5 x5.toNatClampNeg))) (x5 + 1) σ H locs ls h hP hS (lv_sub hl [2, 3, 4, 5, 1, 0] rfl)
  unfold p_X6_raise at h
  refine lv_iload_n hx hb dX6_raise_0 rfl (lv_at hl 1 rfl) ?_
  refine lv_iconst (v := 0) hx hb dX6_raise_1 (by decide) ?_
  refine lv_bipush (v := 6) hx hb dX6_raise_2 (by decide) ?_
  refine f_i (kS (As := [.int x1, .int 0, .int 6]) (rest := []) ⟨hx, hb, hml, hown, hts⟩ (c_X6_in l D cs ad x1 0 6 s0 _) (va_cwS 3 hts gX6_raise_X6_in rfl rfl rfl (by decide +kernel) ⟨Nat.le_of_ble_eq_true rfl, Nat.le_of_ble_eq_true rfl⟩) hE hP h rfl hl.1 rfl (by first | exact lv_room (Nat.le_of_ble_eq_true rfl) | (refine lv_room ?_; simp [re_cat, cat_i, cat_l, cat_r])) dX6_raise_4 ⟨Nat.le_refl _, Nat.le_refl _⟩) hS (fun r2 s1 H locs h hP hS => ?_)
  refine lv_if_eq (tgt := 24) hx hb dX6_raise_7 (by decide) (fun c3 => ?_) (fun c3 => ?_)
  · replace h := h.1 c3
    refine lv_iconst (v := (-1)) hx hb dX6_raise_24 (by decide) ?_
    exact W.iret hx hb hr (fun t ht hW => ⟨⟨_, _, rfl, h, pw ht hP⟩, hS.F ht⟩) hS.2.2 dX6_raise_25
  · replace h := h.2 c3
    refine lv_iload_n hx hb dX6_raise_10 rfl (lv_at hl 2 rfl) ?_
    refine f_i (kS (As := [.int x2]) (rest := []) ⟨hx, hb, hml, hown, hts⟩ (c_X6_isHeight l D cs ad x2 s1 _) (va_cwS 1 hts gX6_raise_X6_isHeight rfl rfl rfl (by decide +kernel) ⟨Nat.le_of_ble_eq_true rfl, Nat.le_of_ble_eq_true rfl⟩) hE hP h rfl hl.1 rfl (by first | exact lv_room (Nat.le_of_ble_eq_true rfl) | (refine lv_room ?_; simp [re_cat, cat_i, cat_l, cat_r])) dX6_raise_11 ⟨Nat.le_refl _, Nat.le_refl _⟩) hS (fun r5 s4 H locs h hP hS => ?_)
    refine lv_if_eq (tgt := 24) hx hb dX6_raise_14 (by decide) (fun c6 => ?_) (fun c6 => ?_)
    · replace h := h.1 c6
      refine lv_iconst (v := (-1)) hx hb dX6_raise_24 (by decide) ?_
      exact W.iret hx hb hr (fun t ht hW => ⟨⟨_, _, rfl, h, pw ht hP⟩, hS.F ht⟩) hS.2.2 dX6_raise_25
    · replace h := h.2 c6
      refine lv_iload_n hx hb dX6_raise_17 rfl (lv_at hl 3 rfl) ?_
      refine f_i (kS (As := [.int x3]) (rest := []) ⟨hx, hb, hml, hown, hts⟩ (c_X6_isRow l D cs ad x3 s4 _) (va_cwS 1 hts gX6_raise_X6_isRow rfl rfl rfl (by decide +kernel) ⟨Nat.le_of_ble_eq_true rfl, Nat.le_of_ble_eq_true rfl⟩) hE hP h rfl hl.1 rfl (by first | exact lv_room (Nat.le_of_ble_eq_true rfl) | (refine lv_room ?_; simp [re_cat, cat_i, cat_l, cat_r])) dX6_raise_18 ⟨Nat.le_refl _, Nat.le_refl _⟩) hS (fun r8 s7 H locs h hP hS => ?_)
      refine lv_if_ne (tgt := 26) hx hb dX6_raise_21 (by decide) (fun c9 => ?_) (fun c9 => ?_)
      · replace h := h.2 c9
        refine lv_iconst (v := 0) hx hb dX6_raise_26 (by decide) ?_
        refine lv_istore (i := 4) (lv' := [(4, .int 0), (0, .ref (ad x0)), (1, .int x1), (2, .int x2), (3, .int x3)]) hx hb dX6_raise_27 hl (by decide) (by first | rfl | simp [re_cat, cat_i, cat_l, cat_r]) (fun ls hl => ?_)
        refine lv_iconst (v := 0) hx hb dX6_raise_29 (by decide) ?_
        refine lv_istore (i := 5) (lv' := [(5, .int 0), (4, .int 0), (0, .ref (ad x0)), (1, .int x1), (2, .int x2), (3, .int x3)]) hx hb dX6_raise_30 hl (by decide) (by first | rfl | simp [re_cat, cat_i, cat_l, cat_r]) (fun ls hl => ?_)
        obtain ⟨n10, h⟩ := h
        exact hB32 n10 x1 x2 x3 0 0 s7 _ _ ls h hP hS (lv_sub hl [2, 3, 4, 5, 1, 0] rfl)
      · replace h := h.1 c9
        refine lv_iconst (v := (-1)) hx hb dX6_raise_24 (by decide) ?_
        exact W.iret hx hb hr (fun t ht hW => ⟨⟨_, _, rfl, h, pw ht hP⟩, hS.F ht⟩) hS.2.2 dX6_raise_25
def p_X6_dry_L15 (Q : Int32 → Sg → Prop)  : Nat → Nat → Int32 → Int32 → Sg → Prop
  | 0, _, _, _, _ => False
  | n + 1, x0, x1, x2, s => (((gI s x0 20) ≤ x2 → Q x1 s) ∧ (¬ (gI s x0 20) ≤ x2 → ∃ k2, tM x0 27 = some k2 ∧ kM k2 = 7 ∧ vp_in x2 (lM k2) ∧ ∃ k6, tM x0 29 = some k6 ∧ kM k6 = 7 ∧ vp_in (gR s k2 x2.toNatClampNeg) (lM k6) ∧ p_X6_less x1 (gR s k6 (gR s k2 x2.toNatClampNeg).toNatClampNeg) s (fun r11 s10 => p_X6_dry_L15 Q  n x0 r11 (x2 + 1) s10)))
def p_X6_dry (x0 : Nat) (s : Sg) (Q : Int32 → Sg → Prop) : Prop := (((gI s x0 20) = 0 → Q ((-4)) s) ∧ (¬ (gI s x0 20) = 0 → (∃ n2, p_X6_dry_L15 Q  n2 x0 9 0 s)))
set_option maxHeartbeats 4000000 in
set_option maxRecDepth 100000 in
theorem c_X6_dry (l : Launch) (D : va_G) (cs : Cs) (ad : Nat → Nat) (x0 : Nat) (s0 : Sg) (Q : Int32 → Sg → Prop) (hk0 : kM x0 = 5) : Met l yX6_dry wsX6_dry { frames := 1, cells := 0, slots := 0, locals := 21 } (Pc0 bM D cs ad [.ref (ad x0)] s0 (p_X6_dry x0 s0 Q)) (QI bM D cs ad Q) 0 0 (fAd bM ad) := by
  refine Met.ofW (cc := cX6_dry) (maxL := 3) (ret := (some .int)) (by decide) rfl ?_
  intro p e s m args below meth c s₁ B0 hml hv
  obtain ⟨ha, hP, hE, h⟩ := hv
  have hx := B0.exec
  have hb := B0.bytes
  have hr := B0.returns
  have hts := atoms_spec (ws := wsX6_dry) B0.pre
  have hown : s.vm.findClass RX6 = some m.cls := findClass_of_methodNamed B0.named
  have hlocks := B0.notSynchronized
  have hi_X6 : ∀ w ∈ u_ws RX6 TX6 42, w ∈ wsX6_dry := by decide +kernel
  have hS : va_S (fAd bM ad) s.heap s.heap [] := va_S.rf
  have hl := lv_entry ([.ref (ad x0)]) (n := 3) (by first | exact Nat.le_of_ble_eq_true rfl | simp [lg_sl, re_cat, cat_i, cat_l, cat_r])
  rw [show entryFrame m args 3 = entryFrame m ([.ref (ad x0)] : List Value).toArray 3 by rw [ha], lg_entry_eq]
  generalize (lg_sl ([.ref (ad x0)]) ++ List.replicate (3 - (lg_sl ([.ref (ad x0)])).length) Slot.unset).toArray = ls at hl ⊢
  have hl : lv_has ls 3 [(0, .ref (ad x0))] := by first | exact hl | simpa [lv_args, re_cat, cat_i, cat_l, cat_r] using hl
  have hB15 : ∀ (n15 : Nat) (x1 : Int32) (x2 : Int32) (σ : Sg) (H : Heap) (locs : List Loc) (ls : Array Slot), p_X6_dry_L15 Q  n15 x0 x1 x2 σ → va_P D vwCl (wl bM cs ad σ) H → va_S (fAd bM ad) s.heap H locs → lv_has ls 3 [(0, .ref (ad x0)), (1, .int x1), (2, .int x2)] → W p l e { frames := 1, cells := 0, slots := 0, locals := 21 } s m args below meth c H locs 0 0 (MQ below (QI bM D cs ad Q) args s 0 0 (fAd bM ad)) (F0 m 15 ls []) := by
    intro n15
    induction n15 with
    | zero =>
      intro x1 x2 σ H locs ls h
      exact h.elim
    | succ n15 ih =>
      have hK15 := ih
      intro x1 x2 σ H locs ls h hP hS hl
      rw [p_X6_dry_L15] at h
      refine lv_iload_n hx hb dX6_dry_15 rfl (lv_at hl 2 rfl) ?_
      refine lv_aload_n hx hb dX6_dry_16 rfl (lv_at hl 0 rfl) ?_
      refine va_get (ci := 5) (v := .int (gI σ x0 20)) (C := RX6) (T := TX6) (N := 42) hx hb hts hi_X6 hown hE.1 hP x0 (w_5 hE hk0) rfl 20 (by decide) (hts (.fieldLink RX6 167 "HemLineModel" "women" "I") (by decide +kernel)) (fun _ h9 => h9) rfl dX6_dry_17 ?_
      refine lv_icmp_ge (tgt := 45) hx hb dX6_dry_20 (by decide) (fun c1 => ?_) (fun c1 => ?_)
      · replace h := h.1 c1
        refine lv_iload_n hx hb dX6_dry_45 rfl (lv_at hl 1 rfl) ?_
        exact W.iret hx hb hr (fun t ht hW => ⟨⟨_, _, rfl, h, pw ht hP⟩, hS.F ht⟩) hS.2.2 dX6_dry_46
      · replace h := h.2 c1
        refine lv_iload_n hx hb dX6_dry_23 rfl (lv_at hl 1 rfl) ?_
        refine lv_aload_n hx hb dX6_dry_24 rfl (lv_at hl 0 rfl) ?_
        refine va_get (ci := 5) (v := va_re ad (tM x0 29)) (C := RX6) (T := TX6) (N := 42) hx hb hts hi_X6 hown hE.1 hP x0 (w_5 hE hk0) rfl 29 (by decide) (hts (.fieldLink RX6 65 "HemLineModel" "ground" "[I") (by decide +kernel)) (fun _ h9 => h9) rfl dX6_dry_25 ?_
        refine lv_aload_n hx hb dX6_dry_28 rfl (lv_at hl 0 rfl) ?_
        refine va_get (ci := 5) (v := va_re ad (tM x0 27)) (C := RX6) (T := TX6) (N := 42) hx hb hts hi_X6 hown hE.1 hP x0 (w_5 hE hk0) rfl 27 (by decide) (hts (.fieldLink RX6 59 "HemLineModel" "lives" "[I") (by decide +kernel)) (fun _ h9 => h9) rfl dX6_dry_29 ?_
        refine lv_iload_n hx hb dX6_dry_32 rfl (lv_at hl 2 rfl) ?_
        obtain ⟨k2, e3, q4, i5, h⟩ := h
        refine r_iald hx hb hE hP e3 q4 i5 dX6_dry_33 ?_
        obtain ⟨k6, e7, q8, i9, h⟩ := h
        refine r_iald hx hb hE hP e7 q8 i9 dX6_dry_34 ?_
        refine f_i (kS (As := [.int x1, .int (gR σ k6 (gR σ k2 x2.toNatClampNeg).toNatClampNeg)]) (rest := []) ⟨hx, hb, hml, hown, hts⟩ (c_X6_less l D cs ad x1 (gR σ k6 (gR σ k2 x2.toNatClampNeg).toNatClampNeg) σ _) (va_cwS 2 hts gX6_dry_X6_less rfl rfl rfl (by decide +kernel) ⟨Nat.le_of_ble_eq_true rfl, Nat.le_of_ble_eq_true rfl⟩) hE hP h rfl hl.1 rfl (by first | exact lv_room (Nat.le_of_ble_eq_true rfl) | (refine lv_room ?_; simp [re_cat, cat_i, cat_l, cat_r])) dX6_dry_35 ⟨Nat.le_refl _, Nat.le_refl _⟩) hS (fun r11 s10 H locs h hP hS => ?_)
        refine lv_istore_n (i := 1) (lv' := [(1, .int r11), (0, .ref (ad x0)), (2, .int x2)]) hx hb dX6_dry_38 rfl hl (by decide) (by first | rfl | simp [re_cat, cat_i, cat_l, cat_r]) (fun ls hl => ?_)
        refine lv_iinc (v := x2 + 1) (lv' := [(2, .int (x2 + 1)), (1, .int r11), (0, .ref (ad x0))]) hx hb dX6_dry_39 hl (k := 2) rfl rfl (by decide) (by first | rfl | simp [re_cat, cat_i, cat_l, cat_r]) (fun ls hl => ?_)
        refine lv_goto (tgt := 15) hx hb dX6_dry_42 (by decide) ?_
        exact ih r11 (x2 + 1) s10 H locs ls h hP hS (lv_sub hl [2, 1, 0] rfl)
  unfold p_X6_dry at h
  refine lv_aload_n hx hb dX6_dry_0 rfl (lv_at hl 0 rfl) ?_
  refine va_get (ci := 5) (v := .int (gI s0 x0 20)) (C := RX6) (T := TX6) (N := 42) hx hb hts hi_X6 hown hE.1 hP x0 (w_5 hE hk0) rfl 20 (by decide) (hts (.fieldLink RX6 167 "HemLineModel" "women" "I") (by decide +kernel)) (fun _ h9 => h9) rfl dX6_dry_1 ?_
  refine lv_if_ne (tgt := 10) hx hb dX6_dry_4 (by decide) (fun c1 => ?_) (fun c1 => ?_)
  · replace h := h.2 c1
    refine lv_bipush (v := 9) hx hb dX6_dry_10 (by decide) ?_
    refine lv_istore_n (i := 1) (lv' := [(1, .int 9), (0, .ref (ad x0))]) hx hb dX6_dry_12 rfl hl (by decide) (by first | rfl | simp [re_cat, cat_i, cat_l, cat_r]) (fun ls hl => ?_)
    refine lv_iconst (v := 0) hx hb dX6_dry_13 (by decide) ?_
    refine lv_istore_n (i := 2) (lv' := [(2, .int 0), (1, .int 9), (0, .ref (ad x0))]) hx hb dX6_dry_14 rfl hl (by decide) (by first | rfl | simp [re_cat, cat_i, cat_l, cat_r]) (fun ls hl => ?_)
    obtain ⟨n2, h⟩ := h
    exact hB15 n2 9 0 s0 _ _ ls h hP hS (lv_sub hl [2, 1, 0] rfl)
  · replace h := h.1 c1
    refine lv_bipush (v := (-4)) hx hb dX6_dry_7 (by decide) ?_
    exact W.iret hx hb hr (fun t ht hW => ⟨⟨_, _, rfl, h, pw ht hP⟩, hS.F ht⟩) hS.2.2 dX6_dry_9
def p_X6_least (x0 : Nat) (x1 : Int32) (x2 : Int32) (x3 : Int32) (s : Sg) (Q : Int32 → Sg → Prop) : Prop := p_X6_isWoman x0 x1 s (fun r2 s1 => ((r2 = 0 → Q ((-1)) s1) ∧ (¬ r2 = 0 → p_X6_isHeight x2 s1 (fun r5 s4 => ((r5 = 0 → Q ((-1)) s4) ∧ (¬ r5 = 0 → p_X6_isHeight x3 s4 (fun r8 s7 => ((r8 = 0 → Q ((-1)) s7) ∧ (¬ r8 = 0 → ∃ k10, tM x0 27 = some k10 ∧ kM k10 = 7 ∧ vp_in x1 (lM k10) ∧ ∃ k14, tM x0 29 = some k14 ∧ kM k14 = 7 ∧ vp_in (gR s7 k10 x1.toNatClampNeg) (lM k14) ∧ p_X6_wet (x2 - x3) (gR s7 k14 (gR s7 k10 x1.toNatClampNeg).toNatClampNeg) s7 (fun r19 s18 => ∃ k20, tM x0 27 = some k20 ∧ kM k20 = 7 ∧ vp_in x1 (lM k20) ∧ ∃ k24, tM x0 29 = some k24 ∧ kM k24 = 7 ∧ vp_in (gR s18 k20 x1.toNatClampNeg) (lM k24) ∧ ((((gR s18 k24 (gR s18 k20 x1.toNatClampNeg).toNatClampNeg) + r19) ≤ 9 → Q r19 s18) ∧ (¬ ((gR s18 k24 (gR s18 k20 x1.toNatClampNeg).toNatClampNeg) + r19) ≤ 9 → Q ((-9)) s18))))))))))))
set_option maxHeartbeats 4000000 in
set_option maxRecDepth 100000 in
theorem c_X6_least (l : Launch) (D : va_G) (cs : Cs) (ad : Nat → Nat) (x0 : Nat) (x1 : Int32) (x2 : Int32) (x3 : Int32) (s0 : Sg) (Q : Int32 → Sg → Prop) (hk0 : kM x0 = 5) : Met l yX6_least wsX6_least { frames := 2, cells := 0, slots := 0, locals := 43 } (Pc0 bM D cs ad [.ref (ad x0), .int x1, .int x2, .int x3] s0 (p_X6_least x0 x1 x2 x3 s0 Q)) (QI bM D cs ad Q) 0 0 (fAd bM ad) := by
  refine Met.ofW (cc := cX6_least) (maxL := 5) (ret := (some .int)) (by decide) rfl ?_
  intro p e s m args below meth c s₁ B0 hml hv
  obtain ⟨ha, hP, hE, h⟩ := hv
  have hx := B0.exec
  have hb := B0.bytes
  have hr := B0.returns
  have hts := atoms_spec (ws := wsX6_least) B0.pre
  have hown : s.vm.findClass RX6 = some m.cls := findClass_of_methodNamed B0.named
  have hlocks := B0.notSynchronized
  have hi_X6 : ∀ w ∈ u_ws RX6 TX6 42, w ∈ wsX6_least := by decide +kernel
  have hS : va_S (fAd bM ad) s.heap s.heap [] := va_S.rf
  have hl := lv_entry ([.ref (ad x0), .int x1, .int x2, .int x3]) (n := 5) (by first | exact Nat.le_of_ble_eq_true rfl | simp [lg_sl, re_cat, cat_i, cat_l, cat_r])
  rw [show entryFrame m args 5 = entryFrame m ([.ref (ad x0), .int x1, .int x2, .int x3] : List Value).toArray 5 by rw [ha], lg_entry_eq]
  generalize (lg_sl ([.ref (ad x0), .int x1, .int x2, .int x3]) ++ List.replicate (5 - (lg_sl ([.ref (ad x0), .int x1, .int x2, .int x3])).length) Slot.unset).toArray = ls at hl ⊢
  have hl : lv_has ls 5 [(0, .ref (ad x0)), (1, .int x1), (2, .int x2), (3, .int x3)] := by first | exact hl | simpa [lv_args, re_cat, cat_i, cat_l, cat_r] using hl
  unfold p_X6_least at h
  refine lv_aload_n hx hb dX6_least_0 rfl (lv_at hl 0 rfl) ?_
  refine lv_iload_n hx hb dX6_least_1 rfl (lv_at hl 1 rfl) ?_
  refine f_i (kV (As := [.int x1]) (rest := []) (o := some x0) rfl ⟨hx, hb, hml, hown, hts⟩ (c_X6_isWoman l D cs ad x0 x1 s0 _ hk0) (cwV 1 hts gX6_least_X6_isWoman rfl rfl rfl (by decide +kernel) ⟨Nat.le_of_ble_eq_true rfl, Nat.le_of_ble_eq_true rfl⟩) hE hP rfl rfl (w_5 hE hk0) h rfl hl.1 rfl (by first | exact lv_room (Nat.le_of_ble_eq_true rfl) | (refine lv_room ?_; simp [re_cat, cat_i, cat_l, cat_r])) dX6_least_2 ⟨Nat.le_refl _, Nat.le_refl _⟩) hS (fun r2 s1 H locs h hP hS => ?_)
  refine lv_if_eq (tgt := 22) hx hb dX6_least_5 (by decide) (fun c3 => ?_) (fun c3 => ?_)
  · replace h := h.1 c3
    refine lv_iconst (v := (-1)) hx hb dX6_least_22 (by decide) ?_
    exact W.iret hx hb hr (fun t ht hW => ⟨⟨_, _, rfl, h, pw ht hP⟩, hS.F ht⟩) hS.2.2 dX6_least_23
  · replace h := h.2 c3
    refine lv_iload_n hx hb dX6_least_8 rfl (lv_at hl 2 rfl) ?_
    refine f_i (kS (As := [.int x2]) (rest := []) ⟨hx, hb, hml, hown, hts⟩ (c_X6_isHeight l D cs ad x2 s1 _) (va_cwS 1 hts gX6_least_X6_isHeight rfl rfl rfl (by decide +kernel) ⟨Nat.le_of_ble_eq_true rfl, Nat.le_of_ble_eq_true rfl⟩) hE hP h rfl hl.1 rfl (by first | exact lv_room (Nat.le_of_ble_eq_true rfl) | (refine lv_room ?_; simp [re_cat, cat_i, cat_l, cat_r])) dX6_least_9 ⟨Nat.le_refl _, Nat.le_refl _⟩) hS (fun r5 s4 H locs h hP hS => ?_)
    refine lv_if_eq (tgt := 22) hx hb dX6_least_12 (by decide) (fun c6 => ?_) (fun c6 => ?_)
    · replace h := h.1 c6
      refine lv_iconst (v := (-1)) hx hb dX6_least_22 (by decide) ?_
      exact W.iret hx hb hr (fun t ht hW => ⟨⟨_, _, rfl, h, pw ht hP⟩, hS.F ht⟩) hS.2.2 dX6_least_23
    · replace h := h.2 c6
      refine lv_iload_n hx hb dX6_least_15 rfl (lv_at hl 3 rfl) ?_
      refine f_i (kS (As := [.int x3]) (rest := []) ⟨hx, hb, hml, hown, hts⟩ (c_X6_isHeight l D cs ad x3 s4 _) (va_cwS 1 hts gX6_least_X6_isHeight rfl rfl rfl (by decide +kernel) ⟨Nat.le_of_ble_eq_true rfl, Nat.le_of_ble_eq_true rfl⟩) hE hP h rfl hl.1 rfl (by first | exact lv_room (Nat.le_of_ble_eq_true rfl) | (refine lv_room ?_; simp [re_cat, cat_i, cat_l, cat_r])) dX6_least_16 ⟨Nat.le_refl _, Nat.le_refl _⟩) hS (fun r8 s7 H locs h hP hS => ?_)
      refine lv_if_ne (tgt := 24) hx hb dX6_least_19 (by decide) (fun c9 => ?_) (fun c9 => ?_)
      · replace h := h.2 c9
        refine lv_iload_n hx hb dX6_least_24 rfl (lv_at hl 2 rfl) ?_
        refine lv_iload_n hx hb dX6_least_25 rfl (lv_at hl 3 rfl) ?_
        refine lv_isub hx hb dX6_least_26 ?_
        refine lv_aload_n hx hb dX6_least_27 rfl (lv_at hl 0 rfl) ?_
        refine va_get (ci := 5) (v := va_re ad (tM x0 29)) (C := RX6) (T := TX6) (N := 42) hx hb hts hi_X6 hown hE.1 hP x0 (w_5 hE hk0) rfl 29 (by decide) (hts (.fieldLink RX6 65 "HemLineModel" "ground" "[I") (by decide +kernel)) (fun _ h9 => h9) rfl dX6_least_28 ?_
        refine lv_aload_n hx hb dX6_least_31 rfl (lv_at hl 0 rfl) ?_
        refine va_get (ci := 5) (v := va_re ad (tM x0 27)) (C := RX6) (T := TX6) (N := 42) hx hb hts hi_X6 hown hE.1 hP x0 (w_5 hE hk0) rfl 27 (by decide) (hts (.fieldLink RX6 59 "HemLineModel" "lives" "[I") (by decide +kernel)) (fun _ h9 => h9) rfl dX6_least_32 ?_
        refine lv_iload_n hx hb dX6_least_35 rfl (lv_at hl 1 rfl) ?_
        obtain ⟨k10, e11, q12, i13, h⟩ := h
        refine r_iald hx hb hE hP e11 q12 i13 dX6_least_36 ?_
        obtain ⟨k14, e15, q16, i17, h⟩ := h
        refine r_iald hx hb hE hP e15 q16 i17 dX6_least_37 ?_
        refine f_i (kS (As := [.int (x2 - x3), .int (gR s7 k14 (gR s7 k10 x1.toNatClampNeg).toNatClampNeg)]) (rest := []) ⟨hx, hb, hml, hown, hts⟩ (c_X6_wet l D cs ad (x2 - x3) (gR s7 k14 (gR s7 k10 x1.toNatClampNeg).toNatClampNeg) s7 _) (va_cwS 2 hts gX6_least_X6_wet rfl rfl rfl (by decide +kernel) ⟨Nat.le_of_ble_eq_true rfl, Nat.le_of_ble_eq_true rfl⟩) hE hP h rfl hl.1 rfl (by first | exact lv_room (Nat.le_of_ble_eq_true rfl) | (refine lv_room ?_; simp [re_cat, cat_i, cat_l, cat_r])) dX6_least_38 ⟨Nat.le_refl _, Nat.le_refl _⟩) hS (fun r19 s18 H locs h hP hS => ?_)
        refine lv_istore (i := 4) (lv' := [(4, .int r19), (0, .ref (ad x0)), (1, .int x1), (2, .int x2), (3, .int x3)]) hx hb dX6_least_41 hl (by decide) (by first | rfl | simp [re_cat, cat_i, cat_l, cat_r]) (fun ls hl => ?_)
        refine lv_aload_n hx hb dX6_least_43 rfl (lv_at hl 1 rfl) ?_
        refine va_get (ci := 5) (v := va_re ad (tM x0 29)) (C := RX6) (T := TX6) (N := 42) hx hb hts hi_X6 hown hE.1 hP x0 (w_5 hE hk0) rfl 29 (by decide) (hts (.fieldLink RX6 65 "HemLineModel" "ground" "[I") (by decide +kernel)) (fun _ h9 => h9) rfl dX6_least_44 ?_
        refine lv_aload_n hx hb dX6_least_47 rfl (lv_at hl 1 rfl) ?_
        refine va_get (ci := 5) (v := va_re ad (tM x0 27)) (C := RX6) (T := TX6) (N := 42) hx hb hts hi_X6 hown hE.1 hP x0 (w_5 hE hk0) rfl 27 (by decide) (hts (.fieldLink RX6 59 "HemLineModel" "lives" "[I") (by decide +kernel)) (fun _ h9 => h9) rfl dX6_least_48 ?_
        refine lv_iload_n hx hb dX6_least_51 rfl (lv_at hl 2 rfl) ?_
        obtain ⟨k20, e21, q22, i23, h⟩ := h
        refine r_iald hx hb hE hP e21 q22 i23 dX6_least_52 ?_
        obtain ⟨k24, e25, q26, i27, h⟩ := h
        refine r_iald hx hb hE hP e25 q26 i27 dX6_least_53 ?_
        refine lv_iload hx hb dX6_least_54 (lv_at hl 0 rfl) ?_
        refine lv_iadd hx hb dX6_least_56 ?_
        refine lv_bipush (v := 9) hx hb dX6_least_57 (by decide) ?_
        refine lv_icmp_le (tgt := 67) hx hb dX6_least_59 (by decide) (fun c28 => ?_) (fun c28 => ?_)
        · replace h := h.1 c28
          refine lv_iload hx hb dX6_least_67 (lv_at hl 0 rfl) ?_
          exact W.iret hx hb hr (fun t ht hW => ⟨⟨_, _, rfl, h, pw ht hP⟩, hS.F ht⟩) hS.2.2 dX6_least_69
        · replace h := h.2 c28
          refine lv_bipush (v := (-9)) hx hb dX6_least_62 (by decide) ?_
          refine lv_goto (tgt := 69) hx hb dX6_least_64 (by decide) ?_
          exact W.iret hx hb hr (fun t ht hW => ⟨⟨_, _, rfl, h, pw ht hP⟩, hS.F ht⟩) hS.2.2 dX6_least_69
      · replace h := h.1 c9
        refine lv_iconst (v := (-1)) hx hb dX6_least_22 (by decide) ?_
        exact W.iret hx hb hr (fun t ht hW => ⟨⟨_, _, rfl, h, pw ht hP⟩, hS.F ht⟩) hS.2.2 dX6_least_23
def p_X6_worthOf_b103 (Q : Int32 → Sg → Prop) (K13 : Nat → Int32 → Int32 → Int32 → Int32 → Int32 → Int32 → Sg → Prop) (x0 : Nat) (x1 : Int32) (x2 : Int32) (x3 : Int32) (x4 : Int32) (x5 : Int32) (x6 : Int32) (s : Sg) : Prop := K13 x0 x1 x2 x3 x4 x5 (x6 + 1) s
def p_X6_worthOf_b87 (Q : Int32 → Sg → Prop) (K13 : Nat → Int32 → Int32 → Int32 → Int32 → Int32 → Int32 → Sg → Prop) (x0 : Nat) (x1 : Int32) (x2 : Int32) (x3 : Int32) (x4 : Int32) (x6 : Int32) (x8 : Int32) (t0 : Int32) (s : Sg) : Prop := ∃ k1, tM x0 40 = some k1 ∧ kM k1 = 7 ∧ vp_in x8 (lM k1) ∧ ∃ k5, tM x0 40 = some k5 ∧ kM k5 = 7 ∧ vp_in x8 (lM k5) ∧ p_X6_worthOf_b103 Q K13 x0 x1 x2 x3 (x4 + 1) t0 x6 (setR s k5 (upd (gR s k5) x8.toNatClampNeg ((gR s k1 x8.toNatClampNeg) + 1)))
def p_X6_worthOf_b86 (Q : Int32 → Sg → Prop) (K13 : Nat → Int32 → Int32 → Int32 → Int32 → Int32 → Int32 → Sg → Prop) (x0 : Nat) (x1 : Int32) (x2 : Int32) (x3 : Int32) (x4 : Int32) (x6 : Int32) (x8 : Int32) (s : Sg) : Prop := p_X6_worthOf_b87 Q K13 x0 x1 x2 x3 x4 x6 x8 0 s
def p_X6_worthOf_b49 (Q : Int32 → Sg → Prop) (K13 : Nat → Int32 → Int32 → Int32 → Int32 → Int32 → Int32 → Sg → Prop) (x0 : Nat) (x1 : Int32) (x2 : Int32) (x3 : Int32) (x4 : Int32) (x5 : Int32) (x6 : Int32) (x7 : Int32) (t0 : Int32) (s : Sg) : Prop := ((3 ≤ x7 → p_X6_worthOf_b103 Q K13 x0 x1 x2 x3 x4 x5 x6 s) ∧ (¬ 3 ≤ x7 → ((x5 = 0 → p_X6_worthOf_b86 Q K13 x0 x1 x2 x3 x4 x6 t0 s) ∧ (¬ x5 = 0 → ∃ k3, tM x0 29 = some k3 ∧ kM k3 = 7 ∧ vp_in t0 (lM k3) ∧ ∃ k7, tM x0 40 = some k7 ∧ kM k7 = 7 ∧ vp_in t0 (lM k7) ∧ ((9 ≤ ((gR s k3 t0.toNatClampNeg) + (gR s k7 t0.toNatClampNeg)) → p_X6_worthOf_b86 Q K13 x0 x1 x2 x3 x4 x6 t0 s) ∧ (¬ 9 ≤ ((gR s k3 t0.toNatClampNeg) + (gR s k7 t0.toNatClampNeg)) → p_X6_worthOf_b87 Q K13 x0 x1 x2 x3 x4 x6 t0 1 s))))))
def p_X6_worthOf_L13 (Q : Int32 → Sg → Prop)  : Nat → Nat → Int32 → Int32 → Int32 → Int32 → Int32 → Int32 → Sg → Prop
  | 0, _, _, _, _, _, _, _, _ => False
  | n + 1, x0, x1, x2, x3, x4, x5, x6, s => ((x2 ≤ x6 → p_X6_less 20 (x3 + x4) s (fun r3 s2 => ((x5 = 0 → Q ((-1000000)) s2) ∧ (¬ x5 = 0 → p_X6_wetAll x0 r3 56 s2 (fun r6 s5 => p_X6_wetAll x0 r3 7 s5 (fun r8 s7 => Q (r6 - r8) s7)))))) ∧ (¬ x2 ≤ x6 → (((x6 - x6 / 2 * 2) = 0 → p_X6_worthOf_b49 Q (fun y0 y1 y2 y3 y4 y5 y6 u => p_X6_worthOf_L13 Q  n y0 y1 y2 y3 y4 y5 y6 u) x0 x1 x2 x3 x4 x5 x6 ((x1 >>> ((2 * ((x2 - 1) - x6)) &&& 31)) &&& 3) ((x1 >>> ((2 * ((x2 - 1) - x6)) &&& 31)) &&& 3) s) ∧ (¬ (x6 - x6 / 2 * 2) = 0 → p_X6_worthOf_b49 Q (fun y0 y1 y2 y3 y4 y5 y6 u => p_X6_worthOf_L13 Q  n y0 y1 y2 y3 y4 y5 y6 u) x0 x1 x2 x3 x4 x5 x6 ((x1 >>> ((2 * ((x2 - 1) - x6)) &&& 31)) &&& 3) (3 + ((x1 >>> ((2 * ((x2 - 1) - x6)) &&& 31)) &&& 3)) s))))
def p_X6_worthOf (x0 : Nat) (x1 : Int32) (x2 : Int32) (x3 : Int32) (s : Sg) (Q : Int32 → Sg → Prop) : Prop := p_X6_noMore x0 s (fun s1 => (∃ n2, p_X6_worthOf_L13 Q  n2 x0 x1 x2 x3 0 1 0 s1))
set_option maxHeartbeats 4000000 in
set_option maxRecDepth 100000 in
theorem c_X6_worthOf (l : Launch) (D : va_G) (cs : Cs) (ad : Nat → Nat) (x0 : Nat) (x1 : Int32) (x2 : Int32) (x3 : Int32) (s0 : Sg) (Q : Int32 → Sg → Prop) (hk0 : kM x0 = 5) : Met l yX6_worthOf wsX6_worthOf { frames := 2, cells := 0, slots := 0, locals := 45 } (Pc0 bM D cs ad [.ref (ad x0), .int x1, .int x2, .int x3] s0 (p_X6_worthOf x0 x1 x2 x3 s0 Q)) (QI bM D cs ad Q) 0 0 (fAd bM ad) := by
  refine Met.ofW (cc := cX6_worthOf) (maxL := 9) (ret := (some .int)) (by decide) rfl ?_
  intro p e s m args below meth c s₁ B0 hml hv
  obtain ⟨ha, hP, hE, h⟩ := hv
  have hx := B0.exec
  have hb := B0.bytes
  have hr := B0.returns
  have hts := atoms_spec (ws := wsX6_worthOf) B0.pre
  have hown : s.vm.findClass RX6 = some m.cls := findClass_of_methodNamed B0.named
  have hlocks := B0.notSynchronized
  have hi_X6 : ∀ w ∈ u_ws RX6 TX6 42, w ∈ wsX6_worthOf := by decide +kernel
  have hS : va_S (fAd bM ad) s.heap s.heap [] := va_S.rf
  have hl := lv_entry ([.ref (ad x0), .int x1, .int x2, .int x3]) (n := 9) (by first | exact Nat.le_of_ble_eq_true rfl | simp [lg_sl, re_cat, cat_i, cat_l, cat_r])
  rw [show entryFrame m args 9 = entryFrame m ([.ref (ad x0), .int x1, .int x2, .int x3] : List Value).toArray 9 by rw [ha], lg_entry_eq]
  generalize (lg_sl ([.ref (ad x0), .int x1, .int x2, .int x3]) ++ List.replicate (9 - (lg_sl ([.ref (ad x0), .int x1, .int x2, .int x3])).length) Slot.unset).toArray = ls at hl ⊢
  have hl : lv_has ls 9 [(0, .ref (ad x0)), (1, .int x1), (2, .int x2), (3, .int x3)] := by first | exact hl | simpa [lv_args, re_cat, cat_i, cat_l, cat_r] using hl
  have hB13 : ∀ (n13 : Nat) (x1 : Int32) (x2 : Int32) (x3 : Int32) (x4 : Int32) (x5 : Int32) (x6 : Int32) (σ : Sg) (H : Heap) (locs : List Loc) (ls : Array Slot), p_X6_worthOf_L13 Q  n13 x0 x1 x2 x3 x4 x5 x6 σ → va_P D vwCl (wl bM cs ad σ) H → va_S (fAd bM ad) s.heap H locs → lv_has ls 9 [(0, .ref (ad x0)), (1, .int x1), (2, .int x2), (3, .int x3), (4, .int x4), (5, .int x5), (6, .int x6)] → W p l e { frames := 2, cells := 0, slots := 0, locals := 45 } s m args below meth c H locs 0 0 (MQ below (QI bM D cs ad Q) args s 0 0 (fAd bM ad)) (F0 m 13 ls []) := by
    intro n13
    induction n13 with
    | zero =>
      intro x1 x2 x3 x4 x5 x6 σ H locs ls h
      exact h.elim
    | succ n13 ih =>
      have hK13 := ih
      have hB103 : ∀ (x1 : Int32) (x2 : Int32) (x3 : Int32) (x4 : Int32) (x5 : Int32) (x6 : Int32) (σ : Sg) (H : Heap) (locs : List Loc) (ls : Array Slot), p_X6_worthOf_b103 Q (fun y0 y1 y2 y3 y4 y5 y6 u => p_X6_worthOf_L13 Q  n13 y0 y1 y2 y3 y4 y5 y6 u) x0 x1 x2 x3 x4 x5 x6 σ → va_P D vwCl (wl bM cs ad σ) H → va_S (fAd bM ad) s.heap H locs → lv_has ls 9 [(0, .ref (ad x0)), (1, .int x1), (2, .int x2), (3, .int x3), (4, .int x4), (5, .int x5), (6, .int x6)] → W p l e { frames := 2, cells := 0, slots := 0, locals := 45 } s m args below meth c H locs 0 0 (MQ below (QI bM D cs ad Q) args s 0 0 (fAd bM ad)) (F0 m 103 ls []) := by
        intro x1 x2 x3 x4 x5 x6 σ H locs ls h hP hS hl
        unfold p_X6_worthOf_b103 at h
        refine lv_iinc (v := x6 + 1) (lv' := [(6, .int (x6 + 1)), (0, .ref (ad x0)), (1, .int x1), (2, .int x2), (3, .int x3), (4, .int x4), (5, .int x5)]) hx hb dX6_worthOf_103 hl (k := 6) rfl rfl (by decide) (by first | rfl | simp [re_cat, cat_i, cat_l, cat_r]) (fun ls hl => ?_)
        refine lv_goto (tgt := 13) hx hb dX6_worthOf_106 (by decide) ?_
        exact hK13 x1 x2 x3 x4 x5 (x6 + 1) σ H locs ls h hP hS (lv_sub hl [1, 2, 3, 4, 5, 6, 0] rfl)
      have hB87 : ∀ (x1 : Int32) (x2 : Int32) (x3 : Int32) (x4 : Int32) (x6 : Int32) (x8 : Int32) (t0 : Int32) (σ : Sg) (H : Heap) (locs : List Loc) (ls : Array Slot), p_X6_worthOf_b87 Q (fun y0 y1 y2 y3 y4 y5 y6 u => p_X6_worthOf_L13 Q  n13 y0 y1 y2 y3 y4 y5 y6 u) x0 x1 x2 x3 x4 x6 x8 t0 σ → va_P D vwCl (wl bM cs ad σ) H → va_S (fAd bM ad) s.heap H locs → lv_has ls 9 [(0, .ref (ad x0)), (1, .int x1), (2, .int x2), (3, .int x3), (4, .int x4), (6, .int x6), (8, .int x8)] → W p l e { frames := 2, cells := 0, slots := 0, locals := 45 } s m args below meth c H locs 0 0 (MQ below (QI bM D cs ad Q) args s 0 0 (fAd bM ad)) (F0 m 87 ls [.int t0]) := by
        intro x1 x2 x3 x4 x6 x8 t0 σ H locs ls h hP hS hl
        unfold p_X6_worthOf_b87 at h
        refine lv_istore (i := 5) (lv' := [(5, .int t0), (0, .ref (ad x0)), (1, .int x1), (2, .int x2), (3, .int x3), (4, .int x4), (6, .int x6), (8, .int x8)]) hx hb dX6_worthOf_87 hl (by decide) (by first | rfl | simp [re_cat, cat_i, cat_l, cat_r]) (fun ls hl => ?_)
        refine lv_aload_n hx hb dX6_worthOf_89 rfl (lv_at hl 1 rfl) ?_
        refine va_get (ci := 5) (v := va_re ad (tM x0 40)) (C := RX6) (T := TX6) (N := 42) hx hb hts hi_X6 hown hE.1 hP x0 (w_5 hE hk0) rfl 40 (by decide) (hts (.fieldLink RX6 89 "HemLineModel" "more" "[I") (by decide +kernel)) (fun _ h9 => h9) rfl dX6_worthOf_90 ?_
        refine lv_iload hx hb dX6_worthOf_93 (lv_at hl 7 rfl) ?_
        refine lv_dup2_11 hx hb dX6_worthOf_95 (by first | rfl | exact re_cat _ _) (by first | rfl | exact re_cat _ _) ?_
        obtain ⟨k1, e2, q3, i4, h⟩ := h
        refine r_iald hx hb hE hP e2 q3 i4 dX6_worthOf_96 ?_
        refine lv_iconst (v := 1) hx hb dX6_worthOf_97 (by decide) ?_
        refine lv_iadd hx hb dX6_worthOf_98 ?_
        obtain ⟨k5, e6, q7, i8, h⟩ := h
        refine r_iast hx hb hE hP hS e6 q7 i8 dX6_worthOf_99 (fun H locs hP hS => ?_)
        refine lv_iinc (v := x4 + 1) (lv' := [(4, .int (x4 + 1)), (5, .int t0), (0, .ref (ad x0)), (1, .int x1), (2, .int x2), (3, .int x3), (6, .int x6), (8, .int x8)]) hx hb dX6_worthOf_100 hl (k := 5) rfl rfl (by decide) (by first | rfl | simp [re_cat, cat_i, cat_l, cat_r]) (fun ls hl => ?_)
        exact hB103 x1 x2 x3 (x4 + 1) t0 x6 (setR σ k5 (upd (gR σ k5) x8.toNatClampNeg ((gR σ k1 x8.toNatClampNeg) + 1))) H locs ls h hP hS (lv_sub hl [2, 3, 4, 5, 0, 1, 6] rfl)
      have hB86 : ∀ (x1 : Int32) (x2 : Int32) (x3 : Int32) (x4 : Int32) (x6 : Int32) (x8 : Int32) (σ : Sg) (H : Heap) (locs : List Loc) (ls : Array Slot), p_X6_worthOf_b86 Q (fun y0 y1 y2 y3 y4 y5 y6 u => p_X6_worthOf_L13 Q  n13 y0 y1 y2 y3 y4 y5 y6 u) x0 x1 x2 x3 x4 x6 x8 σ → va_P D vwCl (wl bM cs ad σ) H → va_S (fAd bM ad) s.heap H locs → lv_has ls 9 [(0, .ref (ad x0)), (1, .int x1), (2, .int x2), (3, .int x3), (4, .int x4), (6, .int x6), (8, .int x8)] → W p l e { frames := 2, cells := 0, slots := 0, locals := 45 } s m args below meth c H locs 0 0 (MQ below (QI bM D cs ad Q) args s 0 0 (fAd bM ad)) (F0 m 86 ls []) := by
        intro x1 x2 x3 x4 x6 x8 σ H locs ls h hP hS hl
        unfold p_X6_worthOf_b86 at h
        refine lv_iconst (v := 0) hx hb dX6_worthOf_86 (by decide) ?_
        exact hB87 x1 x2 x3 x4 x6 x8 0 σ H locs ls h hP hS (lv_sub hl [0, 1, 2, 3, 4, 5, 6] rfl)
      have hB49 : ∀ (x1 : Int32) (x2 : Int32) (x3 : Int32) (x4 : Int32) (x5 : Int32) (x6 : Int32) (x7 : Int32) (t0 : Int32) (σ : Sg) (H : Heap) (locs : List Loc) (ls : Array Slot), p_X6_worthOf_b49 Q (fun y0 y1 y2 y3 y4 y5 y6 u => p_X6_worthOf_L13 Q  n13 y0 y1 y2 y3 y4 y5 y6 u) x0 x1 x2 x3 x4 x5 x6 x7 t0 σ → va_P D vwCl (wl bM cs ad σ) H → va_S (fAd bM ad) s.heap H locs → lv_has ls 9 [(0, .ref (ad x0)), (1, .int x1), (2, .int x2), (3, .int x3), (4, .int x4), (5, .int x5), (6, .int x6), (7, .int x7)] → W p l e { frames := 2, cells := 0, slots := 0, locals := 45 } s m args below meth c H locs 0 0 (MQ below (QI bM D cs ad Q) args s 0 0 (fAd bM ad)) (F0 m 49 ls [.int t0]) := by
        intro x1 x2 x3 x4 x5 x6 x7 t0 σ H locs ls h hP hS hl
        unfold p_X6_worthOf_b49 at h
        refine lv_istore (i := 8) (lv' := [(8, .int t0), (0, .ref (ad x0)), (1, .int x1), (2, .int x2), (3, .int x3), (4, .int x4), (5, .int x5), (6, .int x6), (7, .int x7)]) hx hb dX6_worthOf_49 hl (by decide) (by first | rfl | simp [re_cat, cat_i, cat_l, cat_r]) (fun ls hl => ?_)
        refine lv_iload hx hb dX6_worthOf_51 (lv_at hl 8 rfl) ?_
        refine lv_iconst (v := 3) hx hb dX6_worthOf_53 (by decide) ?_
        refine lv_icmp_ge (tgt := 103) hx hb dX6_worthOf_54 (by decide) (fun c1 => ?_) (fun c1 => ?_)
        · replace h := h.1 c1
          exact hB103 x1 x2 x3 x4 x5 x6 σ H locs ls h hP hS (lv_sub hl [1, 2, 3, 4, 5, 6, 7] rfl)
        · replace h := h.2 c1
          refine lv_iload hx hb dX6_worthOf_57 (lv_at hl 6 rfl) ?_
          refine lv_if_eq (tgt := 86) hx hb dX6_worthOf_59 (by decide) (fun c2 => ?_) (fun c2 => ?_)
          · replace h := h.1 c2
            exact hB86 x1 x2 x3 x4 x6 t0 σ H locs ls h hP hS (lv_sub hl [1, 2, 3, 4, 5, 7, 0] rfl)
          · replace h := h.2 c2
            refine lv_aload_n hx hb dX6_worthOf_62 rfl (lv_at hl 1 rfl) ?_
            refine va_get (ci := 5) (v := va_re ad (tM x0 29)) (C := RX6) (T := TX6) (N := 42) hx hb hts hi_X6 hown hE.1 hP x0 (w_5 hE hk0) rfl 29 (by decide) (hts (.fieldLink RX6 65 "HemLineModel" "ground" "[I") (by decide +kernel)) (fun _ h9 => h9) rfl dX6_worthOf_63 ?_
            refine lv_iload hx hb dX6_worthOf_66 (lv_at hl 0 rfl) ?_
            obtain ⟨k3, e4, q5, i6, h⟩ := h
            refine r_iald hx hb hE hP e4 q5 i6 dX6_worthOf_68 ?_
            refine lv_aload_n hx hb dX6_worthOf_69 rfl (lv_at hl 1 rfl) ?_
            refine va_get (ci := 5) (v := va_re ad (tM x0 40)) (C := RX6) (T := TX6) (N := 42) hx hb hts hi_X6 hown hE.1 hP x0 (w_5 hE hk0) rfl 40 (by decide) (hts (.fieldLink RX6 89 "HemLineModel" "more" "[I") (by decide +kernel)) (fun _ h9 => h9) rfl dX6_worthOf_70 ?_
            refine lv_iload hx hb dX6_worthOf_73 (lv_at hl 0 rfl) ?_
            obtain ⟨k7, e8, q9, i10, h⟩ := h
            refine r_iald hx hb hE hP e8 q9 i10 dX6_worthOf_75 ?_
            refine lv_iadd hx hb dX6_worthOf_76 ?_
            refine lv_bipush (v := 9) hx hb dX6_worthOf_77 (by decide) ?_
            refine lv_icmp_ge (tgt := 86) hx hb dX6_worthOf_79 (by decide) (fun c11 => ?_) (fun c11 => ?_)
            · replace h := h.1 c11
              exact hB86 x1 x2 x3 x4 x6 t0 σ H locs ls h hP hS (lv_sub hl [1, 2, 3, 4, 5, 7, 0] rfl)
            · replace h := h.2 c11
              refine lv_iconst (v := 1) hx hb dX6_worthOf_82 (by decide) ?_
              refine lv_goto (tgt := 87) hx hb dX6_worthOf_83 (by decide) ?_
              exact hB87 x1 x2 x3 x4 x6 t0 1 σ H locs ls h hP hS (lv_sub hl [1, 2, 3, 4, 5, 7, 0] rfl)
      intro x1 x2 x3 x4 x5 x6 σ H locs ls h hP hS hl
      rw [p_X6_worthOf_L13] at h
      refine lv_iload hx hb dX6_worthOf_13 (lv_at hl 6 rfl) ?_
      refine lv_iload_n hx hb dX6_worthOf_15 rfl (lv_at hl 2 rfl) ?_
      refine lv_icmp_ge (tgt := 109) hx hb dX6_worthOf_16 (by decide) (fun c1 => ?_) (fun c1 => ?_)
      · replace h := h.1 c1
        refine lv_bipush (v := 20) hx hb dX6_worthOf_109 (by decide) ?_
        refine lv_iload_n hx hb dX6_worthOf_111 rfl (lv_at hl 3 rfl) ?_
        refine lv_iload hx hb dX6_worthOf_112 (lv_at hl 4 rfl) ?_
        refine lv_iadd hx hb dX6_worthOf_114 ?_
        refine f_i (kS (As := [.int 20, .int (x3 + x4)]) (rest := []) ⟨hx, hb, hml, hown, hts⟩ (c_X6_less l D cs ad 20 (x3 + x4) σ _) (va_cwS 2 hts gX6_worthOf_X6_less rfl rfl rfl (by decide +kernel) ⟨Nat.le_of_ble_eq_true rfl, Nat.le_of_ble_eq_true rfl⟩) hE hP h rfl hl.1 rfl (by first | exact lv_room (Nat.le_of_ble_eq_true rfl) | (refine lv_room ?_; simp [re_cat, cat_i, cat_l, cat_r])) dX6_worthOf_115 ⟨Nat.le_refl _, Nat.le_refl _⟩) hS (fun r3 s2 H locs h hP hS => ?_)
        refine lv_istore (i := 6) (lv' := [(6, .int r3), (0, .ref (ad x0)), (1, .int x1), (2, .int x2), (3, .int x3), (4, .int x4), (5, .int x5)]) hx hb dX6_worthOf_118 hl (by decide) (by first | rfl | simp [re_cat, cat_i, cat_l, cat_r]) (fun ls hl => ?_)
        refine lv_iload hx hb dX6_worthOf_120 (lv_at hl 6 rfl) ?_
        refine lv_if_eq (tgt := 145) hx hb dX6_worthOf_122 (by decide) (fun c4 => ?_) (fun c4 => ?_)
        · replace h := h.1 c4
          refine lv_ldcw (v := (-1000000)) hx hb hown (hts (.constant RX6 260 ((-1000000))) (by decide +kernel)) dX6_worthOf_145 ?_
          exact W.iret hx hb hr (fun t ht hW => ⟨⟨_, _, rfl, h, pw ht hP⟩, hS.F ht⟩) hS.2.2 dX6_worthOf_148
        · replace h := h.2 c4
          refine lv_aload_n hx hb dX6_worthOf_125 rfl (lv_at hl 1 rfl) ?_
          refine lv_iload hx hb dX6_worthOf_126 (lv_at hl 0 rfl) ?_
          refine lv_bipush (v := 56) hx hb dX6_worthOf_128 (by decide) ?_
          refine f_i (kV (As := [.int r3, .int 56]) (rest := []) (o := some x0) rfl ⟨hx, hb, hml, hown, hts⟩ (c_X6_wetAll l D cs ad x0 r3 56 s2 _ hk0) (cwV 2 hts gX6_worthOf_X6_wetAll rfl rfl rfl (by decide +kernel) ⟨Nat.le_of_ble_eq_true rfl, Nat.le_of_ble_eq_true rfl⟩) hE hP rfl rfl (w_5 hE hk0) h rfl hl.1 rfl (by first | exact lv_room (Nat.le_of_ble_eq_true rfl) | (refine lv_room ?_; simp [re_cat, cat_i, cat_l, cat_r])) dX6_worthOf_130 ⟨Nat.le_refl _, Nat.le_refl _⟩) hS (fun r6 s5 H locs h hP hS => ?_)
          refine lv_aload_n hx hb dX6_worthOf_133 rfl (lv_at hl 1 rfl) ?_
          refine lv_iload hx hb dX6_worthOf_134 (lv_at hl 0 rfl) ?_
          refine lv_bipush (v := 7) hx hb dX6_worthOf_136 (by decide) ?_
          refine f_i (kV (As := [.int r3, .int 7]) (rest := [.int r6]) (o := some x0) rfl ⟨hx, hb, hml, hown, hts⟩ (c_X6_wetAll l D cs ad x0 r3 7 s5 _ hk0) (cwV 2 hts gX6_worthOf_X6_wetAll rfl rfl rfl (by decide +kernel) ⟨Nat.le_of_ble_eq_true rfl, Nat.le_of_ble_eq_true rfl⟩) hE hP rfl rfl (w_5 hE hk0) h rfl hl.1 rfl (by first | exact lv_room (Nat.le_of_ble_eq_true rfl) | (refine lv_room ?_; simp [re_cat, cat_i, cat_l, cat_r])) dX6_worthOf_138 ⟨Nat.le_refl _, Nat.le_refl _⟩) hS (fun r8 s7 H locs h hP hS => ?_)
          refine lv_isub hx hb dX6_worthOf_141 ?_
          refine lv_goto (tgt := 148) hx hb dX6_worthOf_142 (by decide) ?_
          exact W.iret hx hb hr (fun t ht hW => ⟨⟨_, _, rfl, h, pw ht hP⟩, hS.F ht⟩) hS.2.2 dX6_worthOf_148
      · replace h := h.2 c1
        refine lv_iload_n hx hb dX6_worthOf_19 rfl (lv_at hl 1 rfl) ?_
        refine lv_iconst (v := 2) hx hb dX6_worthOf_20 (by decide) ?_
        refine lv_iload_n hx hb dX6_worthOf_21 rfl (lv_at hl 2 rfl) ?_
        refine lv_iconst (v := 1) hx hb dX6_worthOf_22 (by decide) ?_
        refine lv_isub hx hb dX6_worthOf_23 ?_
        refine lv_iload hx hb dX6_worthOf_24 (lv_at hl 6 rfl) ?_
        refine lv_isub hx hb dX6_worthOf_26 ?_
        refine lv_imul hx hb dX6_worthOf_27 ?_
        refine lv_ishr hx hb dX6_worthOf_28 ?_
        refine lv_iconst (v := 3) hx hb dX6_worthOf_29 (by decide) ?_
        refine lv_iand hx hb dX6_worthOf_30 ?_
        refine lv_istore (i := 7) (lv' := [(7, .int ((x1 >>> ((2 * ((x2 - 1) - x6)) &&& 31)) &&& 3)), (0, .ref (ad x0)), (1, .int x1), (2, .int x2), (3, .int x3), (4, .int x4), (5, .int x5), (6, .int x6)]) hx hb dX6_worthOf_31 hl (by decide) (by first | rfl | simp [re_cat, cat_i, cat_l, cat_r]) (fun ls hl => ?_)
        refine lv_iload hx hb dX6_worthOf_33 (lv_at hl 7 rfl) ?_
        refine lv_iconst (v := 2) hx hb dX6_worthOf_35 (by decide) ?_
        refine lv_irem hx hb dX6_worthOf_36 (by decide) ?_
        refine lv_if_ne (tgt := 45) hx hb dX6_worthOf_37 (by decide) (fun c9 => ?_) (fun c9 => ?_)
        · replace h := h.2 c9
          refine lv_iconst (v := 3) hx hb dX6_worthOf_45 (by decide) ?_
          refine lv_iload hx hb dX6_worthOf_46 (lv_at hl 0 rfl) ?_
          refine lv_iadd hx hb dX6_worthOf_48 ?_
          exact hB49 x1 x2 x3 x4 x5 x6 ((x1 >>> ((2 * ((x2 - 1) - x6)) &&& 31)) &&& 3) (3 + ((x1 >>> ((2 * ((x2 - 1) - x6)) &&& 31)) &&& 3)) σ H locs ls h hP hS (lv_sub hl [1, 2, 3, 4, 5, 6, 7, 0] rfl)
        · replace h := h.1 c9
          refine lv_iload hx hb dX6_worthOf_40 (lv_at hl 0 rfl) ?_
          refine lv_goto (tgt := 49) hx hb dX6_worthOf_42 (by decide) ?_
          exact hB49 x1 x2 x3 x4 x5 x6 ((x1 >>> ((2 * ((x2 - 1) - x6)) &&& 31)) &&& 3) ((x1 >>> ((2 * ((x2 - 1) - x6)) &&& 31)) &&& 3) σ H locs ls h hP hS (lv_sub hl [1, 2, 3, 4, 5, 6, 7, 0] rfl)
  unfold p_X6_worthOf at h
  refine lv_aload_n hx hb dX6_worthOf_0 rfl (lv_at hl 0 rfl) ?_
  refine f_v (kV (As := []) (rest := []) (o := some x0) rfl ⟨hx, hb, hml, hown, hts⟩ (c_X6_noMore l D cs ad x0 s0 _ hk0) (cwV 0 hts gX6_worthOf_X6_noMore rfl rfl rfl (by decide +kernel) ⟨Nat.le_of_ble_eq_true rfl, Nat.le_of_ble_eq_true rfl⟩) hE hP rfl rfl (w_5 hE hk0) h rfl hl.1 rfl (by first | exact lv_room (Nat.le_of_ble_eq_true rfl) | (refine lv_room ?_; simp [re_cat, cat_i, cat_l, cat_r])) dX6_worthOf_1 ⟨Nat.le_refl _, Nat.le_refl _⟩) hS (fun s1 H locs h hP hS => ?_)
  refine lv_iconst (v := 0) hx hb dX6_worthOf_4 (by decide) ?_
  refine lv_istore (i := 4) (lv' := [(4, .int 0), (0, .ref (ad x0)), (1, .int x1), (2, .int x2), (3, .int x3)]) hx hb dX6_worthOf_5 hl (by decide) (by first | rfl | simp [re_cat, cat_i, cat_l, cat_r]) (fun ls hl => ?_)
  refine lv_iconst (v := 1) hx hb dX6_worthOf_7 (by decide) ?_
  refine lv_istore (i := 5) (lv' := [(5, .int 1), (4, .int 0), (0, .ref (ad x0)), (1, .int x1), (2, .int x2), (3, .int x3)]) hx hb dX6_worthOf_8 hl (by decide) (by first | rfl | simp [re_cat, cat_i, cat_l, cat_r]) (fun ls hl => ?_)
  refine lv_iconst (v := 0) hx hb dX6_worthOf_10 (by decide) ?_
  refine lv_istore (i := 6) (lv' := [(6, .int 0), (5, .int 1), (4, .int 0), (0, .ref (ad x0)), (1, .int x1), (2, .int x2), (3, .int x3)]) hx hb dX6_worthOf_11 hl (by decide) (by first | rfl | simp [re_cat, cat_i, cat_l, cat_r]) (fun ls hl => ?_)
  obtain ⟨n2, h⟩ := h
  exact hB13 n2 x1 x2 x3 0 1 0 s1 _ _ ls h hP hS (lv_sub hl [3, 4, 5, 6, 2, 1, 0] rfl)
def p_X6_duel_b166 (Q : Int32 → Sg → Prop) (K88 : Nat → Int32 → Int32 → Int32 → Int32 → Sg → Prop) (x0 : Nat) (x3 : Int32) (x4 : Int32) (x6 : Int32) (t0 : Int32) (s : Sg) : Prop := K88 x0 x3 x4 t0 (x6 + 1) s
def p_X6_duel_b164 (Q : Int32 → Sg → Prop) (K88 : Nat → Int32 → Int32 → Int32 → Int32 → Sg → Prop) (x0 : Nat) (x3 : Int32) (x4 : Int32) (x5 : Int32) (x6 : Int32) (s : Sg) : Prop := p_X6_duel_b166 Q K88 x0 x3 x4 x6 x5 s
def p_X6_duel_b144 (Q : Int32 → Sg → Prop) (K88 : Nat → Int32 → Int32 → Int32 → Int32 → Sg → Prop) (x0 : Nat) (x3 : Int32) (x4 : Int32) (x5 : Int32) (x6 : Int32) (x7 : Int32) (t0 : Int32) (s : Sg) : Prop := ((x7 = ((-1000000)) → p_X6_duel_b164 Q K88 x0 x3 x4 x5 x6 s) ∧ (¬ x7 = ((-1000000)) → ((t0 = 0 → p_X6_duel_b164 Q K88 x0 x3 x4 x5 x6 s) ∧ (¬ t0 = 0 → p_X6_duel_b166 Q K88 x0 x3 x4 x6 x7 s))))
def p_X6_duel_b139 (Q : Int32 → Sg → Prop) (K88 : Nat → Int32 → Int32 → Int32 → Int32 → Sg → Prop) (x0 : Nat) (x3 : Int32) (x4 : Int32) (x5 : Int32) (x6 : Int32) (x7 : Int32) (s : Sg) : Prop := p_X6_duel_b144 Q K88 x0 x3 x4 x5 x6 x7 1 s
def p_X6_duel_b143 (Q : Int32 → Sg → Prop) (K88 : Nat → Int32 → Int32 → Int32 → Int32 → Sg → Prop) (x0 : Nat) (x3 : Int32) (x4 : Int32) (x5 : Int32) (x6 : Int32) (x7 : Int32) (s : Sg) : Prop := p_X6_duel_b144 Q K88 x0 x3 x4 x5 x6 x7 0 s
def p_X6_duel_L88 (Q : Int32 → Sg → Prop) (K70 : Nat → Int32 → Int32 → Sg → Prop) : Nat → Nat → Int32 → Int32 → Int32 → Int32 → Sg → Prop
  | 0, _, _, _, _, _, _ => False
  | n + 1, x0, x3, x4, x5, x6, s => ((4 ≤ x6 → ∃ k2, tM x0 41 = some k2 ∧ kM k2 = 7 ∧ vp_in x4 (lM k2) ∧ K70 x0 x3 (x4 + 1) (setR s k2 (upd (gR s k2) x4.toNatClampNeg x5))) ∧ (¬ 4 ≤ x6 → ∃ k6, tM x0 41 = some k6 ∧ kM k6 = 7 ∧ vp_in ((4 * x4) + x6) (lM k6) ∧ ((x5 = ((-1000000)) → p_X6_duel_b139 Q (fun y0 y3 y4 y5 y6 u => p_X6_duel_L88 Q K70 n y0 y3 y4 y5 y6 u) x0 x3 x4 x5 x6 (gR s k6 ((4 * x4) + x6).toNatClampNeg) s) ∧ (¬ x5 = ((-1000000)) → (((x3 - x3 / 2 * 2) = 0 → (((gR s k6 ((4 * x4) + x6).toNatClampNeg) ≤ x5 → p_X6_duel_b143 Q (fun y0 y3 y4 y5 y6 u => p_X6_duel_L88 Q K70 n y0 y3 y4 y5 y6 u) x0 x3 x4 x5 x6 (gR s k6 ((4 * x4) + x6).toNatClampNeg) s) ∧ (¬ (gR s k6 ((4 * x4) + x6).toNatClampNeg) ≤ x5 → p_X6_duel_b139 Q (fun y0 y3 y4 y5 y6 u => p_X6_duel_L88 Q K70 n y0 y3 y4 y5 y6 u) x0 x3 x4 x5 x6 (gR s k6 ((4 * x4) + x6).toNatClampNeg) s))) ∧ (¬ (x3 - x3 / 2 * 2) = 0 → ((x5 ≤ (gR s k6 ((4 * x4) + x6).toNatClampNeg) → p_X6_duel_b143 Q (fun y0 y3 y4 y5 y6 u => p_X6_duel_L88 Q K70 n y0 y3 y4 y5 y6 u) x0 x3 x4 x5 x6 (gR s k6 ((4 * x4) + x6).toNatClampNeg) s) ∧ (¬ x5 ≤ (gR s k6 ((4 * x4) + x6).toNatClampNeg) → p_X6_duel_b139 Q (fun y0 y3 y4 y5 y6 u => p_X6_duel_L88 Q K70 n y0 y3 y4 y5 y6 u) x0 x3 x4 x5 x6 (gR s k6 ((4 * x4) + x6).toNatClampNeg) s))))))))
def p_X6_duel_L70 (Q : Int32 → Sg → Prop) (K63 : Nat → Int32 → Sg → Prop) : Nat → Nat → Int32 → Int32 → Sg → Prop
  | 0, _, _, _, _ => False
  | n + 1, x0, x3, x4, s => (((1 <<< ((2 * x3) &&& 31)) ≤ x4 → K63 x0 (x3 + (-1)) s) ∧ (¬ (1 <<< ((2 * x3) &&& 31)) ≤ x4 → (∃ n2, p_X6_duel_L88 Q (fun y0 y3 y4 u => p_X6_duel_L70 Q K63 n y0 y3 y4 u) n2 x0 x3 x4 ((-1000000)) 0 s)))
def p_X6_duel_L63 (Q : Int32 → Sg → Prop)  : Nat → Nat → Int32 → Sg → Prop
  | 0, _, _, _ => False
  | n + 1, x0, x3, s => ((x3 < 0 → ∃ k2, tM x0 41 = some k2 ∧ kM k2 = 7 ∧ vp_in 0 (lM k2) ∧ Q ((gR s k2 (0 : Int32).toNatClampNeg) + 100) s) ∧ (¬ x3 < 0 → (∃ n6, p_X6_duel_L70 Q (fun y0 y3 u => p_X6_duel_L63 Q  n y0 y3 u) n6 x0 x3 0 s)))
def p_X6_duel_L31 (Q : Int32 → Sg → Prop)  : Nat → Nat → Int32 → Int32 → Int32 → Sg → Prop
  | 0, _, _, _, _, _ => False
  | n + 1, x0, x1, x2, x3, s => (((1 <<< ((2 * x1) &&& 31)) ≤ x3 → (∃ n2, p_X6_duel_L63 Q  n2 x0 (x1 - 1) s)) ∧ (¬ (1 <<< ((2 * x1) &&& 31)) ≤ x3 → p_X6_worthOf x0 x3 x1 x2 s (fun r4 s3 => ∃ k5, tM x0 41 = some k5 ∧ kM k5 = 7 ∧ vp_in x3 (lM k5) ∧ p_X6_duel_L31 Q  n x0 x1 x2 (x3 + 1) (setR s3 k5 (upd (gR s3 k5) x3.toNatClampNeg r4)))))
def p_X6_duel (x0 : Nat) (x1 : Int32) (x2 : Int32) (s : Sg) (Q : Int32 → Sg → Prop) : Prop := p_X6_in x1 0 6 s (fun r2 s1 => ((r2 = 0 → Q ((-1)) s1) ∧ (¬ r2 = 0 → p_X6_isHeight x2 s1 (fun r5 s4 => ((r5 = 0 → Q ((-1)) s4) ∧ (¬ r5 = 0 → (((gI s4 x0 20) = 0 → Q ((-4)) s4) ∧ (¬ (gI s4 x0 20) = 0 → (∃ n8, p_X6_duel_L31 Q  n8 x0 x1 x2 0 s4)))))))))
set_option maxHeartbeats 4000000 in
set_option maxRecDepth 100000 in
theorem c_X6_duel (l : Launch) (D : va_G) (cs : Cs) (ad : Nat → Nat) (x0 : Nat) (x1 : Int32) (x2 : Int32) (s0 : Sg) (Q : Int32 → Sg → Prop) (hk0 : kM x0 = 5) : Met l yX6_duel wsX6_duel { frames := 3, cells := 0, slots := 0, locals := 73 } (Pc0 bM D cs ad [.ref (ad x0), .int x1, .int x2] s0 (p_X6_duel x0 x1 x2 s0 Q)) (QI bM D cs ad Q) 0 0 (fAd bM ad) := by
  refine Met.ofW (cc := cX6_duel) (maxL := 9) (ret := (some .int)) (by decide) rfl ?_
  intro p e s m args below meth c s₁ B0 hml hv
  obtain ⟨ha, hP, hE, h⟩ := hv
  have hx := B0.exec
  have hb := B0.bytes
  have hr := B0.returns
  have hts := atoms_spec (ws := wsX6_duel) B0.pre
  have hown : s.vm.findClass RX6 = some m.cls := findClass_of_methodNamed B0.named
  have hlocks := B0.notSynchronized
  have hi_X6 : ∀ w ∈ u_ws RX6 TX6 42, w ∈ wsX6_duel := by decide +kernel
  have hS : va_S (fAd bM ad) s.heap s.heap [] := va_S.rf
  have hl := lv_entry ([.ref (ad x0), .int x1, .int x2]) (n := 9) (by first | exact Nat.le_of_ble_eq_true rfl | simp [lg_sl, re_cat, cat_i, cat_l, cat_r])
  rw [show entryFrame m args 9 = entryFrame m ([.ref (ad x0), .int x1, .int x2] : List Value).toArray 9 by rw [ha], lg_entry_eq]
  generalize (lg_sl ([.ref (ad x0), .int x1, .int x2]) ++ List.replicate (9 - (lg_sl ([.ref (ad x0), .int x1, .int x2])).length) Slot.unset).toArray = ls at hl ⊢
  have hl : lv_has ls 9 [(0, .ref (ad x0)), (1, .int x1), (2, .int x2)] := by first | exact hl | simpa [lv_args, re_cat, cat_i, cat_l, cat_r] using hl
  have hB63 : ∀ (n63 : Nat) (x3 : Int32) (σ : Sg) (H : Heap) (locs : List Loc) (ls : Array Slot), p_X6_duel_L63 Q  n63 x0 x3 σ → va_P D vwCl (wl bM cs ad σ) H → va_S (fAd bM ad) s.heap H locs → lv_has ls 9 [(0, .ref (ad x0)), (3, .int x3)] → W p l e { frames := 3, cells := 0, slots := 0, locals := 73 } s m args below meth c H locs 0 0 (MQ below (QI bM D cs ad Q) args s 0 0 (fAd bM ad)) (F0 m 63 ls []) := by
    intro n63
    induction n63 with
    | zero =>
      intro x3 σ H locs ls h
      exact h.elim
    | succ n63 ih =>
      have hK63 := ih
      have hB70 : ∀ (n70 : Nat) (x3 : Int32) (x4 : Int32) (σ : Sg) (H : Heap) (locs : List Loc) (ls : Array Slot), p_X6_duel_L70 Q (fun y0 y3 u => p_X6_duel_L63 Q  n63 y0 y3 u) n70 x0 x3 x4 σ → va_P D vwCl (wl bM cs ad σ) H → va_S (fAd bM ad) s.heap H locs → lv_has ls 9 [(0, .ref (ad x0)), (3, .int x3), (4, .int x4)] → W p l e { frames := 3, cells := 0, slots := 0, locals := 73 } s m args below meth c H locs 0 0 (MQ below (QI bM D cs ad Q) args s 0 0 (fAd bM ad)) (F0 m 70 ls []) := by
        intro n70
        induction n70 with
        | zero =>
          intro x3 x4 σ H locs ls h
          exact h.elim
        | succ n70 ih =>
          have hK70 := ih
          have hB88 : ∀ (n88 : Nat) (x3 : Int32) (x4 : Int32) (x5 : Int32) (x6 : Int32) (σ : Sg) (H : Heap) (locs : List Loc) (ls : Array Slot), p_X6_duel_L88 Q (fun y0 y3 y4 u => p_X6_duel_L70 Q (fun y0 y3 u => p_X6_duel_L63 Q  n63 y0 y3 u) n70 y0 y3 y4 u) n88 x0 x3 x4 x5 x6 σ → va_P D vwCl (wl bM cs ad σ) H → va_S (fAd bM ad) s.heap H locs → lv_has ls 9 [(0, .ref (ad x0)), (3, .int x3), (4, .int x4), (5, .int x5), (6, .int x6)] → W p l e { frames := 3, cells := 0, slots := 0, locals := 73 } s m args below meth c H locs 0 0 (MQ below (QI bM D cs ad Q) args s 0 0 (fAd bM ad)) (F0 m 88 ls []) := by
            intro n88
            induction n88 with
            | zero =>
              intro x3 x4 x5 x6 σ H locs ls h
              exact h.elim
            | succ n88 ih =>
              have hK88 := ih
              have hB166 : ∀ (x3 : Int32) (x4 : Int32) (x6 : Int32) (t0 : Int32) (σ : Sg) (H : Heap) (locs : List Loc) (ls : Array Slot), p_X6_duel_b166 Q (fun y0 y3 y4 y5 y6 u => p_X6_duel_L88 Q (fun y0 y3 y4 u => p_X6_duel_L70 Q (fun y0 y3 u => p_X6_duel_L63 Q  n63 y0 y3 u) n70 y0 y3 y4 u) n88 y0 y3 y4 y5 y6 u) x0 x3 x4 x6 t0 σ → va_P D vwCl (wl bM cs ad σ) H → va_S (fAd bM ad) s.heap H locs → lv_has ls 9 [(0, .ref (ad x0)), (3, .int x3), (4, .int x4), (6, .int x6)] → W p l e { frames := 3, cells := 0, slots := 0, locals := 73 } s m args below meth c H locs 0 0 (MQ below (QI bM D cs ad Q) args s 0 0 (fAd bM ad)) (F0 m 166 ls [.int t0]) := by
                intro x3 x4 x6 t0 σ H locs ls h hP hS hl
                unfold p_X6_duel_b166 at h
                refine lv_istore (i := 5) (lv' := [(5, .int t0), (0, .ref (ad x0)), (3, .int x3), (4, .int x4), (6, .int x6)]) hx hb dX6_duel_166 hl (by decide) (by first | rfl | simp [re_cat, cat_i, cat_l, cat_r]) (fun ls hl => ?_)
                refine lv_iinc (v := x6 + 1) (lv' := [(6, .int (x6 + 1)), (5, .int t0), (0, .ref (ad x0)), (3, .int x3), (4, .int x4)]) hx hb dX6_duel_168 hl (k := 4) rfl rfl (by decide) (by first | rfl | simp [re_cat, cat_i, cat_l, cat_r]) (fun ls hl => ?_)
                refine lv_goto (tgt := 88) hx hb dX6_duel_171 (by decide) ?_
                exact hK88 x3 x4 t0 (x6 + 1) σ H locs ls h hP hS (lv_sub hl [2, 3, 4, 1, 0] rfl)
              have hB164 : ∀ (x3 : Int32) (x4 : Int32) (x5 : Int32) (x6 : Int32) (σ : Sg) (H : Heap) (locs : List Loc) (ls : Array Slot), p_X6_duel_b164 Q (fun y0 y3 y4 y5 y6 u => p_X6_duel_L88 Q (fun y0 y3 y4 u => p_X6_duel_L70 Q (fun y0 y3 u => p_X6_duel_L63 Q  n63 y0 y3 u) n70 y0 y3 y4 u) n88 y0 y3 y4 y5 y6 u) x0 x3 x4 x5 x6 σ → va_P D vwCl (wl bM cs ad σ) H → va_S (fAd bM ad) s.heap H locs → lv_has ls 9 [(0, .ref (ad x0)), (3, .int x3), (4, .int x4), (5, .int x5), (6, .int x6)] → W p l e { frames := 3, cells := 0, slots := 0, locals := 73 } s m args below meth c H locs 0 0 (MQ below (QI bM D cs ad Q) args s 0 0 (fAd bM ad)) (F0 m 164 ls []) := by
                intro x3 x4 x5 x6 σ H locs ls h hP hS hl
                unfold p_X6_duel_b164 at h
                refine lv_iload hx hb dX6_duel_164 (lv_at hl 3 rfl) ?_
                exact hB166 x3 x4 x6 x5 σ H locs ls h hP hS (lv_sub hl [0, 1, 2, 4] rfl)
              have hB144 : ∀ (x3 : Int32) (x4 : Int32) (x5 : Int32) (x6 : Int32) (x7 : Int32) (t0 : Int32) (σ : Sg) (H : Heap) (locs : List Loc) (ls : Array Slot), p_X6_duel_b144 Q (fun y0 y3 y4 y5 y6 u => p_X6_duel_L88 Q (fun y0 y3 y4 u => p_X6_duel_L70 Q (fun y0 y3 u => p_X6_duel_L63 Q  n63 y0 y3 u) n70 y0 y3 y4 u) n88 y0 y3 y4 y5 y6 u) x0 x3 x4 x5 x6 x7 t0 σ → va_P D vwCl (wl bM cs ad σ) H → va_S (fAd bM ad) s.heap H locs → lv_has ls 9 [(0, .ref (ad x0)), (3, .int x3), (4, .int x4), (5, .int x5), (6, .int x6), (7, .int x7)] → W p l e { frames := 3, cells := 0, slots := 0, locals := 73 } s m args below meth c H locs 0 0 (MQ below (QI bM D cs ad Q) args s 0 0 (fAd bM ad)) (F0 m 144 ls [.int t0]) := by
                intro x3 x4 x5 x6 x7 t0 σ H locs ls h hP hS hl
                unfold p_X6_duel_b144 at h
                refine lv_istore (i := 8) (lv' := [(8, .int t0), (0, .ref (ad x0)), (3, .int x3), (4, .int x4), (5, .int x5), (6, .int x6), (7, .int x7)]) hx hb dX6_duel_144 hl (by decide) (by first | rfl | simp [re_cat, cat_i, cat_l, cat_r]) (fun ls hl => ?_)
                refine lv_iload hx hb dX6_duel_146 (lv_at hl 6 rfl) ?_
                refine lv_ldcw (v := (-1000000)) hx hb hown (hts (.constant RX6 260 ((-1000000))) (by decide +kernel)) dX6_duel_148 ?_
                refine lv_icmp_eq (tgt := 164) hx hb dX6_duel_151 (by decide) (fun c1 => ?_) (fun c1 => ?_)
                · replace h := h.1 c1
                  exact hB164 x3 x4 x5 x6 σ H locs ls h hP hS (lv_sub hl [1, 2, 3, 4, 5] rfl)
                · replace h := h.2 c1
                  refine lv_iload hx hb dX6_duel_154 (lv_at hl 0 rfl) ?_
                  refine lv_if_eq (tgt := 164) hx hb dX6_duel_156 (by decide) (fun c2 => ?_) (fun c2 => ?_)
                  · replace h := h.1 c2
                    exact hB164 x3 x4 x5 x6 σ H locs ls h hP hS (lv_sub hl [1, 2, 3, 4, 5] rfl)
                  · replace h := h.2 c2
                    refine lv_iload hx hb dX6_duel_159 (lv_at hl 6 rfl) ?_
                    refine lv_goto (tgt := 166) hx hb dX6_duel_161 (by decide) ?_
                    exact hB166 x3 x4 x6 x7 σ H locs ls h hP hS (lv_sub hl [1, 2, 3, 5] rfl)
              have hB139 : ∀ (x3 : Int32) (x4 : Int32) (x5 : Int32) (x6 : Int32) (x7 : Int32) (σ : Sg) (H : Heap) (locs : List Loc) (ls : Array Slot), p_X6_duel_b139 Q (fun y0 y3 y4 y5 y6 u => p_X6_duel_L88 Q (fun y0 y3 y4 u => p_X6_duel_L70 Q (fun y0 y3 u => p_X6_duel_L63 Q  n63 y0 y3 u) n70 y0 y3 y4 u) n88 y0 y3 y4 y5 y6 u) x0 x3 x4 x5 x6 x7 σ → va_P D vwCl (wl bM cs ad σ) H → va_S (fAd bM ad) s.heap H locs → lv_has ls 9 [(0, .ref (ad x0)), (3, .int x3), (4, .int x4), (5, .int x5), (6, .int x6), (7, .int x7)] → W p l e { frames := 3, cells := 0, slots := 0, locals := 73 } s m args below meth c H locs 0 0 (MQ below (QI bM D cs ad Q) args s 0 0 (fAd bM ad)) (F0 m 139 ls []) := by
                intro x3 x4 x5 x6 x7 σ H locs ls h hP hS hl
                unfold p_X6_duel_b139 at h
                refine lv_iconst (v := 1) hx hb dX6_duel_139 (by decide) ?_
                refine lv_goto (tgt := 144) hx hb dX6_duel_140 (by decide) ?_
                exact hB144 x3 x4 x5 x6 x7 1 σ H locs ls h hP hS (lv_sub hl [0, 1, 2, 3, 4, 5] rfl)
              have hB143 : ∀ (x3 : Int32) (x4 : Int32) (x5 : Int32) (x6 : Int32) (x7 : Int32) (σ : Sg) (H : Heap) (locs : List Loc) (ls : Array Slot), p_X6_duel_b143 Q (fun y0 y3 y4 y5 y6 u => p_X6_duel_L88 Q (fun y0 y3 y4 u => p_X6_duel_L70 Q (fun y0 y3 u => p_X6_duel_L63 Q  n63 y0 y3 u) n70 y0 y3 y4 u) n88 y0 y3 y4 y5 y6 u) x0 x3 x4 x5 x6 x7 σ → va_P D vwCl (wl bM cs ad σ) H → va_S (fAd bM ad) s.heap H locs → lv_has ls 9 [(0, .ref (ad x0)), (3, .int x3), (4, .int x4), (5, .int x5), (6, .int x6), (7, .int x7)] → W p l e { frames := 3, cells := 0, slots := 0, locals := 73 } s m args below meth c H locs 0 0 (MQ below (QI bM D cs ad Q) args s 0 0 (fAd bM ad)) (F0 m 143 ls []) := by
                intro x3 x4 x5 x6 x7 σ H locs ls h hP hS hl
                unfold p_X6_duel_b143 at h
                refine lv_iconst (v := 0) hx hb dX6_duel_143 (by decide) ?_
                exact hB144 x3 x4 x5 x6 x7 0 σ H locs ls h hP hS (lv_sub hl [0, 1, 2, 3, 4, 5] rfl)
              intro x3 x4 x5 x6 σ H locs ls h hP hS hl
              rw [p_X6_duel_L88] at h
              refine lv_iload hx hb dX6_duel_88 (lv_at hl 4 rfl) ?_
              refine lv_iconst (v := 4) hx hb dX6_duel_90 (by decide) ?_
              refine lv_icmp_ge (tgt := 174) hx hb dX6_duel_91 (by decide) (fun c1 => ?_) (fun c1 => ?_)
              · replace h := h.1 c1
                refine lv_aload_n hx hb dX6_duel_174 rfl (lv_at hl 0 rfl) ?_
                refine va_get (ci := 5) (v := va_re ad (tM x0 41)) (C := RX6) (T := TX6) (N := 42) hx hb hts hi_X6 hown hE.1 hP x0 (w_5 hE hk0) rfl 41 (by decide) (hts (.fieldLink RX6 92 "HemLineModel" "worth" "[I") (by decide +kernel)) (fun _ h9 => h9) rfl dX6_duel_175 ?_
                refine lv_iload hx hb dX6_duel_178 (lv_at hl 2 rfl) ?_
                refine lv_iload hx hb dX6_duel_180 (lv_at hl 3 rfl) ?_
                obtain ⟨k2, e3, q4, i5, h⟩ := h
                refine r_iast hx hb hE hP hS e3 q4 i5 dX6_duel_182 (fun H locs hP hS => ?_)
                refine lv_iinc (v := x4 + 1) (lv' := [(4, .int (x4 + 1)), (0, .ref (ad x0)), (3, .int x3), (5, .int x5), (6, .int x6)]) hx hb dX6_duel_183 hl (k := 2) rfl rfl (by decide) (by first | rfl | simp [re_cat, cat_i, cat_l, cat_r]) (fun ls hl => ?_)
                refine lv_goto (tgt := 70) hx hb dX6_duel_186 (by decide) ?_
                exact hK70 x3 (x4 + 1) (setR σ k2 (upd (gR σ k2) x4.toNatClampNeg x5)) H locs ls h hP hS (lv_sub hl [1, 2, 0] rfl)
              · replace h := h.2 c1
                refine lv_aload_n hx hb dX6_duel_94 rfl (lv_at hl 0 rfl) ?_
                refine va_get (ci := 5) (v := va_re ad (tM x0 41)) (C := RX6) (T := TX6) (N := 42) hx hb hts hi_X6 hown hE.1 hP x0 (w_5 hE hk0) rfl 41 (by decide) (hts (.fieldLink RX6 92 "HemLineModel" "worth" "[I") (by decide +kernel)) (fun _ h9 => h9) rfl dX6_duel_95 ?_
                refine lv_iconst (v := 4) hx hb dX6_duel_98 (by decide) ?_
                refine lv_iload hx hb dX6_duel_99 (lv_at hl 2 rfl) ?_
                refine lv_imul hx hb dX6_duel_101 ?_
                refine lv_iload hx hb dX6_duel_102 (lv_at hl 4 rfl) ?_
                refine lv_iadd hx hb dX6_duel_104 ?_
                obtain ⟨k6, e7, q8, i9, h⟩ := h
                refine r_iald hx hb hE hP e7 q8 i9 dX6_duel_105 ?_
                refine lv_istore (i := 7) (lv' := [(7, .int (gR σ k6 ((4 * x4) + x6).toNatClampNeg)), (0, .ref (ad x0)), (3, .int x3), (4, .int x4), (5, .int x5), (6, .int x6)]) hx hb dX6_duel_106 hl (by decide) (by first | rfl | simp [re_cat, cat_i, cat_l, cat_r]) (fun ls hl => ?_)
                refine lv_iload hx hb dX6_duel_108 (lv_at hl 4 rfl) ?_
                refine lv_ldcw (v := (-1000000)) hx hb hown (hts (.constant RX6 260 ((-1000000))) (by decide +kernel)) dX6_duel_110 ?_
                refine lv_icmp_eq (tgt := 139) hx hb dX6_duel_113 (by decide) (fun c10 => ?_) (fun c10 => ?_)
                · replace h := h.1 c10
                  exact hB139 x3 x4 x5 x6 (gR σ k6 ((4 * x4) + x6).toNatClampNeg) σ H locs ls h hP hS (lv_sub hl [1, 2, 3, 4, 5, 0] rfl)
                · replace h := h.2 c10
                  refine lv_iload_n hx hb dX6_duel_116 rfl (lv_at hl 2 rfl) ?_
                  refine lv_iconst (v := 2) hx hb dX6_duel_117 (by decide) ?_
                  refine lv_irem hx hb dX6_duel_118 (by decide) ?_
                  refine lv_if_ne (tgt := 132) hx hb dX6_duel_119 (by decide) (fun c11 => ?_) (fun c11 => ?_)
                  · replace h := h.2 c11
                    refine lv_iload hx hb dX6_duel_132 (lv_at hl 0 rfl) ?_
                    refine lv_iload hx hb dX6_duel_134 (lv_at hl 4 rfl) ?_
                    refine lv_icmp_ge (tgt := 143) hx hb dX6_duel_136 (by decide) (fun c12 => ?_) (fun c12 => ?_)
                    · replace h := h.1 c12
                      exact hB143 x3 x4 x5 x6 (gR σ k6 ((4 * x4) + x6).toNatClampNeg) σ H locs ls h hP hS (lv_sub hl [1, 2, 3, 4, 5, 0] rfl)
                    · replace h := h.2 c12
                      exact hB139 x3 x4 x5 x6 (gR σ k6 ((4 * x4) + x6).toNatClampNeg) σ H locs ls h hP hS (lv_sub hl [1, 2, 3, 4, 5, 0] rfl)
                  · replace h := h.1 c11
                    refine lv_iload hx hb dX6_duel_122 (lv_at hl 0 rfl) ?_
                    refine lv_iload hx hb dX6_duel_124 (lv_at hl 4 rfl) ?_
                    refine lv_icmp_le (tgt := 143) hx hb dX6_duel_126 (by decide) (fun c13 => ?_) (fun c13 => ?_)
                    · replace h := h.1 c13
                      exact hB143 x3 x4 x5 x6 (gR σ k6 ((4 * x4) + x6).toNatClampNeg) σ H locs ls h hP hS (lv_sub hl [1, 2, 3, 4, 5, 0] rfl)
                    · replace h := h.2 c13
                      refine lv_goto (tgt := 139) hx hb dX6_duel_129 (by decide) ?_
                      exact hB139 x3 x4 x5 x6 (gR σ k6 ((4 * x4) + x6).toNatClampNeg) σ H locs ls h hP hS (lv_sub hl [1, 2, 3, 4, 5, 0] rfl)
          intro x3 x4 σ H locs ls h hP hS hl
          rw [p_X6_duel_L70] at h
          refine lv_iload hx hb dX6_duel_70 (lv_at hl 2 rfl) ?_
          refine lv_iconst (v := 1) hx hb dX6_duel_72 (by decide) ?_
          refine lv_iconst (v := 2) hx hb dX6_duel_73 (by decide) ?_
          refine lv_iload_n hx hb dX6_duel_74 rfl (lv_at hl 1 rfl) ?_
          refine lv_imul hx hb dX6_duel_75 ?_
          refine lv_ishl hx hb dX6_duel_76 ?_
          refine lv_icmp_ge (tgt := 189) hx hb dX6_duel_77 (by decide) (fun c1 => ?_) (fun c1 => ?_)
          · replace h := h.1 c1
            refine lv_iinc (v := x3 + (-1)) (lv' := [(3, .int (x3 + (-1))), (0, .ref (ad x0)), (4, .int x4)]) hx hb dX6_duel_189 hl (k := 1) rfl rfl (by decide) (by first | rfl | simp [re_cat, cat_i, cat_l, cat_r]) (fun ls hl => ?_)
            refine lv_goto (tgt := 63) hx hb dX6_duel_192 (by decide) ?_
            exact hK63 (x3 + (-1)) σ H locs ls h hP hS (lv_sub hl [1, 0] rfl)
          · replace h := h.2 c1
            refine lv_ldcw (v := (-1000000)) hx hb hown (hts (.constant RX6 260 ((-1000000))) (by decide +kernel)) dX6_duel_80 ?_
            refine lv_istore (i := 5) (lv' := [(5, .int ((-1000000))), (0, .ref (ad x0)), (3, .int x3), (4, .int x4)]) hx hb dX6_duel_83 hl (by decide) (by first | rfl | simp [re_cat, cat_i, cat_l, cat_r]) (fun ls hl => ?_)
            refine lv_iconst (v := 0) hx hb dX6_duel_85 (by decide) ?_
            refine lv_istore (i := 6) (lv' := [(6, .int 0), (5, .int ((-1000000))), (0, .ref (ad x0)), (3, .int x3), (4, .int x4)]) hx hb dX6_duel_86 hl (by decide) (by first | rfl | simp [re_cat, cat_i, cat_l, cat_r]) (fun ls hl => ?_)
            obtain ⟨n2, h⟩ := h
            exact hB88 n2 x3 x4 ((-1000000)) 0 σ H locs ls h hP hS (lv_sub hl [2, 3, 4, 1, 0] rfl)
      intro x3 σ H locs ls h hP hS hl
      rw [p_X6_duel_L63] at h
      refine lv_iload_n hx hb dX6_duel_63 rfl (lv_at hl 1 rfl) ?_
      refine lv_if_lt (tgt := 195) hx hb dX6_duel_64 (by decide) (fun c1 => ?_) (fun c1 => ?_)
      · replace h := h.1 c1
        refine lv_aload_n hx hb dX6_duel_195 rfl (lv_at hl 0 rfl) ?_
        refine va_get (ci := 5) (v := va_re ad (tM x0 41)) (C := RX6) (T := TX6) (N := 42) hx hb hts hi_X6 hown hE.1 hP x0 (w_5 hE hk0) rfl 41 (by decide) (hts (.fieldLink RX6 92 "HemLineModel" "worth" "[I") (by decide +kernel)) (fun _ h9 => h9) rfl dX6_duel_196 ?_
        refine lv_iconst (v := 0) hx hb dX6_duel_199 (by decide) ?_
        obtain ⟨k2, e3, q4, i5, h⟩ := h
        refine r_iald hx hb hE hP e3 q4 i5 dX6_duel_200 ?_
        refine lv_bipush (v := 100) hx hb dX6_duel_201 (by decide) ?_
        refine lv_iadd hx hb dX6_duel_203 ?_
        exact W.iret hx hb hr (fun t ht hW => ⟨⟨_, _, rfl, h, pw ht hP⟩, hS.F ht⟩) hS.2.2 dX6_duel_204
      · replace h := h.2 c1
        refine lv_iconst (v := 0) hx hb dX6_duel_67 (by decide) ?_
        refine lv_istore (i := 4) (lv' := [(4, .int 0), (0, .ref (ad x0)), (3, .int x3)]) hx hb dX6_duel_68 hl (by decide) (by first | rfl | simp [re_cat, cat_i, cat_l, cat_r]) (fun ls hl => ?_)
        obtain ⟨n6, h⟩ := h
        exact hB70 n6 x3 0 σ H locs ls h hP hS (lv_sub hl [1, 2, 0] rfl)
  have hB31 : ∀ (n31 : Nat) (x1 : Int32) (x2 : Int32) (x3 : Int32) (σ : Sg) (H : Heap) (locs : List Loc) (ls : Array Slot), p_X6_duel_L31 Q  n31 x0 x1 x2 x3 σ → va_P D vwCl (wl bM cs ad σ) H → va_S (fAd bM ad) s.heap H locs → lv_has ls 9 [(0, .ref (ad x0)), (1, .int x1), (2, .int x2), (3, .int x3)] → W p l e { frames := 3, cells := 0, slots := 0, locals := 73 } s m args below meth c H locs 0 0 (MQ below (QI bM D cs ad Q) args s 0 0 (fAd bM ad)) (F0 m 31 ls []) := by
    intro n31
    induction n31 with
    | zero =>
      intro x1 x2 x3 σ H locs ls h
      exact h.elim
    | succ n31 ih =>
      have hK31 := ih
      intro x1 x2 x3 σ H locs ls h hP hS hl
      rw [p_X6_duel_L31] at h
      refine lv_iload_n hx hb dX6_duel_31 rfl (lv_at hl 3 rfl) ?_
      refine lv_iconst (v := 1) hx hb dX6_duel_32 (by decide) ?_
      refine lv_iconst (v := 2) hx hb dX6_duel_33 (by decide) ?_
      refine lv_iload_n hx hb dX6_duel_34 rfl (lv_at hl 1 rfl) ?_
      refine lv_imul hx hb dX6_duel_35 ?_
      refine lv_ishl hx hb dX6_duel_36 ?_
      refine lv_icmp_ge (tgt := 59) hx hb dX6_duel_37 (by decide) (fun c1 => ?_) (fun c1 => ?_)
      · replace h := h.1 c1
        refine lv_iload_n hx hb dX6_duel_59 rfl (lv_at hl 1 rfl) ?_
        refine lv_iconst (v := 1) hx hb dX6_duel_60 (by decide) ?_
        refine lv_isub hx hb dX6_duel_61 ?_
        refine lv_istore_n (i := 3) (lv' := [(3, .int (x1 - 1)), (0, .ref (ad x0)), (1, .int x1), (2, .int x2)]) hx hb dX6_duel_62 rfl hl (by decide) (by first | rfl | simp [re_cat, cat_i, cat_l, cat_r]) (fun ls hl => ?_)
        obtain ⟨n2, h⟩ := h
        exact hB63 n2 (x1 - 1) σ H locs ls h hP hS (lv_sub hl [1, 0] rfl)
      · replace h := h.2 c1
        refine lv_aload_n hx hb dX6_duel_40 rfl (lv_at hl 0 rfl) ?_
        refine va_get (ci := 5) (v := va_re ad (tM x0 41)) (C := RX6) (T := TX6) (N := 42) hx hb hts hi_X6 hown hE.1 hP x0 (w_5 hE hk0) rfl 41 (by decide) (hts (.fieldLink RX6 92 "HemLineModel" "worth" "[I") (by decide +kernel)) (fun _ h9 => h9) rfl dX6_duel_41 ?_
        refine lv_iload_n hx hb dX6_duel_44 rfl (lv_at hl 3 rfl) ?_
        refine lv_aload_n hx hb dX6_duel_45 rfl (lv_at hl 0 rfl) ?_
        refine lv_iload_n hx hb dX6_duel_46 rfl (lv_at hl 3 rfl) ?_
        refine lv_iload_n hx hb dX6_duel_47 rfl (lv_at hl 1 rfl) ?_
        refine lv_iload_n hx hb dX6_duel_48 rfl (lv_at hl 2 rfl) ?_
        refine f_i (kV (As := [.int x3, .int x1, .int x2]) (rest := [.int x3, va_re ad (tM x0 41)]) (o := some x0) rfl ⟨hx, hb, hml, hown, hts⟩ (c_X6_worthOf l D cs ad x0 x3 x1 x2 σ _ hk0) (cwV 3 hts gX6_duel_X6_worthOf rfl rfl rfl (by decide +kernel) ⟨Nat.le_of_ble_eq_true rfl, Nat.le_of_ble_eq_true rfl⟩) hE hP rfl rfl (w_5 hE hk0) h rfl hl.1 rfl (by first | exact lv_room (Nat.le_of_ble_eq_true rfl) | (refine lv_room ?_; simp [re_cat, cat_i, cat_l, cat_r])) dX6_duel_49 ⟨Nat.le_refl _, Nat.le_refl _⟩) hS (fun r4 s3 H locs h hP hS => ?_)
        obtain ⟨k5, e6, q7, i8, h⟩ := h
        refine r_iast hx hb hE hP hS e6 q7 i8 dX6_duel_52 (fun H locs hP hS => ?_)
        refine lv_iinc (v := x3 + 1) (lv' := [(3, .int (x3 + 1)), (0, .ref (ad x0)), (1, .int x1), (2, .int x2)]) hx hb dX6_duel_53 hl (k := 3) rfl rfl (by decide) (by first | rfl | simp [re_cat, cat_i, cat_l, cat_r]) (fun ls hl => ?_)
        refine lv_goto (tgt := 31) hx hb dX6_duel_56 (by decide) ?_
        exact ih x1 x2 (x3 + 1) (setR s3 k5 (upd (gR s3 k5) x3.toNatClampNeg r4)) H locs ls h hP hS (lv_sub hl [1, 2, 3, 0] rfl)
  unfold p_X6_duel at h
  refine lv_iload_n hx hb dX6_duel_0 rfl (lv_at hl 1 rfl) ?_
  refine lv_iconst (v := 0) hx hb dX6_duel_1 (by decide) ?_
  refine lv_bipush (v := 6) hx hb dX6_duel_2 (by decide) ?_
  refine f_i (kS (As := [.int x1, .int 0, .int 6]) (rest := []) ⟨hx, hb, hml, hown, hts⟩ (c_X6_in l D cs ad x1 0 6 s0 _) (va_cwS 3 hts gX6_duel_X6_in rfl rfl rfl (by decide +kernel) ⟨Nat.le_of_ble_eq_true rfl, Nat.le_of_ble_eq_true rfl⟩) hE hP h rfl hl.1 rfl (by first | exact lv_room (Nat.le_of_ble_eq_true rfl) | (refine lv_room ?_; simp [re_cat, cat_i, cat_l, cat_r])) dX6_duel_4 ⟨Nat.le_refl _, Nat.le_refl _⟩) hS (fun r2 s1 H locs h hP hS => ?_)
  refine lv_if_eq (tgt := 17) hx hb dX6_duel_7 (by decide) (fun c3 => ?_) (fun c3 => ?_)
  · replace h := h.1 c3
    refine lv_iconst (v := (-1)) hx hb dX6_duel_17 (by decide) ?_
    exact W.iret hx hb hr (fun t ht hW => ⟨⟨_, _, rfl, h, pw ht hP⟩, hS.F ht⟩) hS.2.2 dX6_duel_18
  · replace h := h.2 c3
    refine lv_iload_n hx hb dX6_duel_10 rfl (lv_at hl 2 rfl) ?_
    refine f_i (kS (As := [.int x2]) (rest := []) ⟨hx, hb, hml, hown, hts⟩ (c_X6_isHeight l D cs ad x2 s1 _) (va_cwS 1 hts gX6_duel_X6_isHeight rfl rfl rfl (by decide +kernel) ⟨Nat.le_of_ble_eq_true rfl, Nat.le_of_ble_eq_true rfl⟩) hE hP h rfl hl.1 rfl (by first | exact lv_room (Nat.le_of_ble_eq_true rfl) | (refine lv_room ?_; simp [re_cat, cat_i, cat_l, cat_r])) dX6_duel_11 ⟨Nat.le_refl _, Nat.le_refl _⟩) hS (fun r5 s4 H locs h hP hS => ?_)
    refine lv_if_ne (tgt := 19) hx hb dX6_duel_14 (by decide) (fun c6 => ?_) (fun c6 => ?_)
    · replace h := h.2 c6
      refine lv_aload_n hx hb dX6_duel_19 rfl (lv_at hl 0 rfl) ?_
      refine va_get (ci := 5) (v := .int (gI s4 x0 20)) (C := RX6) (T := TX6) (N := 42) hx hb hts hi_X6 hown hE.1 hP x0 (w_5 hE hk0) rfl 20 (by decide) (hts (.fieldLink RX6 167 "HemLineModel" "women" "I") (by decide +kernel)) (fun _ h9 => h9) rfl dX6_duel_20 ?_
      refine lv_if_ne (tgt := 29) hx hb dX6_duel_23 (by decide) (fun c7 => ?_) (fun c7 => ?_)
      · replace h := h.2 c7
        refine lv_iconst (v := 0) hx hb dX6_duel_29 (by decide) ?_
        refine lv_istore_n (i := 3) (lv' := [(3, .int 0), (0, .ref (ad x0)), (1, .int x1), (2, .int x2)]) hx hb dX6_duel_30 rfl hl (by decide) (by first | rfl | simp [re_cat, cat_i, cat_l, cat_r]) (fun ls hl => ?_)
        obtain ⟨n8, h⟩ := h
        exact hB31 n8 x1 x2 0 s4 _ _ ls h hP hS (lv_sub hl [1, 2, 3, 0] rfl)
      · replace h := h.1 c7
        refine lv_bipush (v := (-4)) hx hb dX6_duel_26 (by decide) ?_
        exact W.iret hx hb hr (fun t ht hW => ⟨⟨_, _, rfl, h, pw ht hP⟩, hS.F ht⟩) hS.2.2 dX6_duel_28
    · replace h := h.1 c6
      refine lv_iconst (v := (-1)) hx hb dX6_duel_17 (by decide) ?_
      exact W.iret hx hb hr (fun t ht hW => ⟨⟨_, _, rfl, h, pw ht hP⟩, hS.F ht⟩) hS.2.2 dX6_duel_18
def p_X6_odds_b61 (Q : Int32 → Sg → Prop) (K33 : Nat → Int32 → Int32 → Int32 → Sg → Prop) (x0 : Nat) (x1 : Int32) (x3 : Int32) (t0 : Int32) (t1 : Int32) (s : Sg) : Prop := K33 x0 x1 (t0 + t1) (x3 + 1) s
def p_X6_odds_L33 (Q : Int32 → Sg → Prop)  : Nat → Nat → Int32 → Int32 → Int32 → Sg → Prop
  | 0, _, _, _, _, _ => False
  | n + 1, x0, x1, x2, x3, s => (((gI s x0 31) ≤ x3 → p_X6_tellPart x0 x2.toInt64 ((gI s x0 31).toInt64) s (fun s2 => Q 1 s2)) ∧ (¬ (gI s x0 31) ≤ x3 → ∃ k3, tM x0 32 = some k3 ∧ kM k3 = 7 ∧ vp_in x3 (lM k3) ∧ p_X6_manyWet x0 (gR s k3 x3.toNatClampNeg) s (fun r8 s7 => ((r8 < x1 → p_X6_odds_b61 Q (fun y0 y1 y2 y3 u => p_X6_odds_L33 Q  n y0 y1 y2 y3 u) x0 x1 x3 x2 0 s7) ∧ (¬ r8 < x1 → p_X6_odds_b61 Q (fun y0 y1 y2 y3 u => p_X6_odds_L33 Q  n y0 y1 y2 y3 u) x0 x1 x3 x2 1 s7)))))
def p_X6_odds (x0 : Nat) (x1 : Int32) (s : Sg) (Q : Int32 → Sg → Prop) : Prop := p_X6_in x1 0 6 s (fun r2 s1 => ((r2 = 0 → Q ((-1)) s1) ∧ (¬ r2 = 0 → (((gI s1 x0 20) = 0 → Q ((-4)) s1) ∧ (¬ (gI s1 x0 20) = 0 → (((gI s1 x0 31) = 0 → Q ((-4)) s1) ∧ (¬ (gI s1 x0 31) = 0 → (∃ n6, p_X6_odds_L33 Q  n6 x0 x1 0 0 s1))))))))
set_option maxHeartbeats 4000000 in
set_option maxRecDepth 100000 in
theorem c_X6_odds (l : Launch) (D : va_G) (cs : Cs) (ad : Nat → Nat) (x0 : Nat) (x1 : Int32) (s0 : Sg) (Q : Int32 → Sg → Prop) (hk0 : kM x0 = 5) : Met l yX6_odds wsX6_odds { frames := 2, cells := 0, slots := 0, locals := 44 } (Pc0 bM D cs ad [.ref (ad x0), .int x1] s0 (p_X6_odds x0 x1 s0 Q)) (QI bM D cs ad Q) 0 0 (fAd bM ad) := by
  refine Met.ofW (cc := cX6_odds) (maxL := 4) (ret := (some .int)) (by decide) rfl ?_
  intro p e s m args below meth c s₁ B0 hml hv
  obtain ⟨ha, hP, hE, h⟩ := hv
  have hx := B0.exec
  have hb := B0.bytes
  have hr := B0.returns
  have hts := atoms_spec (ws := wsX6_odds) B0.pre
  have hown : s.vm.findClass RX6 = some m.cls := findClass_of_methodNamed B0.named
  have hlocks := B0.notSynchronized
  have hi_X6 : ∀ w ∈ u_ws RX6 TX6 42, w ∈ wsX6_odds := by decide +kernel
  have hS : va_S (fAd bM ad) s.heap s.heap [] := va_S.rf
  have hl := lv_entry ([.ref (ad x0), .int x1]) (n := 4) (by first | exact Nat.le_of_ble_eq_true rfl | simp [lg_sl, re_cat, cat_i, cat_l, cat_r])
  rw [show entryFrame m args 4 = entryFrame m ([.ref (ad x0), .int x1] : List Value).toArray 4 by rw [ha], lg_entry_eq]
  generalize (lg_sl ([.ref (ad x0), .int x1]) ++ List.replicate (4 - (lg_sl ([.ref (ad x0), .int x1])).length) Slot.unset).toArray = ls at hl ⊢
  have hl : lv_has ls 4 [(0, .ref (ad x0)), (1, .int x1)] := by first | exact hl | simpa [lv_args, re_cat, cat_i, cat_l, cat_r] using hl
  have hB33 : ∀ (n33 : Nat) (x1 : Int32) (x2 : Int32) (x3 : Int32) (σ : Sg) (H : Heap) (locs : List Loc) (ls : Array Slot), p_X6_odds_L33 Q  n33 x0 x1 x2 x3 σ → va_P D vwCl (wl bM cs ad σ) H → va_S (fAd bM ad) s.heap H locs → lv_has ls 4 [(0, .ref (ad x0)), (1, .int x1), (2, .int x2), (3, .int x3)] → W p l e { frames := 2, cells := 0, slots := 0, locals := 44 } s m args below meth c H locs 0 0 (MQ below (QI bM D cs ad Q) args s 0 0 (fAd bM ad)) (F0 m 33 ls []) := by
    intro n33
    induction n33 with
    | zero =>
      intro x1 x2 x3 σ H locs ls h
      exact h.elim
    | succ n33 ih =>
      have hK33 := ih
      have hB61 : ∀ (x1 : Int32) (x3 : Int32) (t0 : Int32) (t1 : Int32) (σ : Sg) (H : Heap) (locs : List Loc) (ls : Array Slot), p_X6_odds_b61 Q (fun y0 y1 y2 y3 u => p_X6_odds_L33 Q  n33 y0 y1 y2 y3 u) x0 x1 x3 t0 t1 σ → va_P D vwCl (wl bM cs ad σ) H → va_S (fAd bM ad) s.heap H locs → lv_has ls 4 [(0, .ref (ad x0)), (1, .int x1), (3, .int x3)] → W p l e { frames := 2, cells := 0, slots := 0, locals := 44 } s m args below meth c H locs 0 0 (MQ below (QI bM D cs ad Q) args s 0 0 (fAd bM ad)) (F0 m 61 ls [.int t1, .int t0]) := by
        intro x1 x3 t0 t1 σ H locs ls h hP hS hl
        unfold p_X6_odds_b61 at h
        refine lv_iadd hx hb dX6_odds_61 ?_
        refine lv_istore_n (i := 2) (lv' := [(2, .int (t0 + t1)), (0, .ref (ad x0)), (1, .int x1), (3, .int x3)]) hx hb dX6_odds_62 rfl hl (by decide) (by first | rfl | simp [re_cat, cat_i, cat_l, cat_r]) (fun ls hl => ?_)
        refine lv_iinc (v := x3 + 1) (lv' := [(3, .int (x3 + 1)), (2, .int (t0 + t1)), (0, .ref (ad x0)), (1, .int x1)]) hx hb dX6_odds_63 hl (k := 3) rfl rfl (by decide) (by first | rfl | simp [re_cat, cat_i, cat_l, cat_r]) (fun ls hl => ?_)
        refine lv_goto (tgt := 33) hx hb dX6_odds_66 (by decide) ?_
        exact hK33 x1 (t0 + t1) (x3 + 1) σ H locs ls h hP hS (lv_sub hl [2, 3, 1, 0] rfl)
      intro x1 x2 x3 σ H locs ls h hP hS hl
      rw [p_X6_odds_L33] at h
      refine lv_iload_n hx hb dX6_odds_33 rfl (lv_at hl 3 rfl) ?_
      refine lv_aload_n hx hb dX6_odds_34 rfl (lv_at hl 0 rfl) ?_
      refine va_get (ci := 5) (v := .int (gI σ x0 31)) (C := RX6) (T := TX6) (N := 42) hx hb hts hi_X6 hown hE.1 hP x0 (w_5 hE hk0) rfl 31 (by decide) (hts (.fieldLink RX6 185 "HemLineModel" "years" "I") (by decide +kernel)) (fun _ h9 => h9) rfl dX6_odds_35 ?_
      refine lv_icmp_ge (tgt := 69) hx hb dX6_odds_38 (by decide) (fun c1 => ?_) (fun c1 => ?_)
      · replace h := h.1 c1
        refine lv_aload_n hx hb dX6_odds_69 rfl (lv_at hl 0 rfl) ?_
        refine lv_iload_n hx hb dX6_odds_70 rfl (lv_at hl 2 rfl) ?_
        refine lv_i2l hx hb dX6_odds_71 rfl ?_
        refine lv_aload_n hx hb dX6_odds_72 rfl (lv_at hl 0 rfl) ?_
        refine va_get (ci := 5) (v := .int (gI σ x0 31)) (C := RX6) (T := TX6) (N := 42) hx hb hts hi_X6 hown hE.1 hP x0 (w_5 hE hk0) rfl 31 (by decide) (hts (.fieldLink RX6 185 "HemLineModel" "years" "I") (by decide +kernel)) (fun _ h9 => h9) rfl dX6_odds_73 ?_
        refine lv_i2l hx hb dX6_odds_76 rfl ?_
        refine f_v (kV (As := [.long (x2.toInt64), .long ((gI σ x0 31).toInt64)]) (rest := []) (o := some x0) rfl ⟨hx, hb, hml, hown, hts⟩ (c_X6_tellPart l D cs ad x0 x2.toInt64 ((gI σ x0 31).toInt64) σ _ hk0) (cwV 2 hts gX6_odds_X6_tellPart rfl rfl rfl (by decide +kernel) ⟨Nat.le_of_ble_eq_true rfl, Nat.le_of_ble_eq_true rfl⟩) hE hP rfl rfl (w_5 hE hk0) h rfl hl.1 rfl (by first | exact lv_room (Nat.le_of_ble_eq_true rfl) | (refine lv_room ?_; simp [re_cat, cat_i, cat_l, cat_r])) dX6_odds_77 ⟨Nat.le_refl _, Nat.le_refl _⟩) hS (fun s2 H locs h hP hS => ?_)
        refine lv_iconst (v := 1) hx hb dX6_odds_80 (by decide) ?_
        exact W.iret hx hb hr (fun t ht hW => ⟨⟨_, _, rfl, h, pw ht hP⟩, hS.F ht⟩) hS.2.2 dX6_odds_81
      · replace h := h.2 c1
        refine lv_iload_n hx hb dX6_odds_41 rfl (lv_at hl 2 rfl) ?_
        refine lv_aload_n hx hb dX6_odds_42 rfl (lv_at hl 0 rfl) ?_
        refine lv_aload_n hx hb dX6_odds_43 rfl (lv_at hl 0 rfl) ?_
        refine va_get (ci := 5) (v := va_re ad (tM x0 32)) (C := RX6) (T := TX6) (N := 42) hx hb hts hi_X6 hown hE.1 hP x0 (w_5 hE hk0) rfl 32 (by decide) (hts (.fieldLink RX6 68 "HemLineModel" "floods" "[I") (by decide +kernel)) (fun _ h9 => h9) rfl dX6_odds_44 ?_
        refine lv_iload_n hx hb dX6_odds_47 rfl (lv_at hl 3 rfl) ?_
        obtain ⟨k3, e4, q5, i6, h⟩ := h
        refine r_iald hx hb hE hP e4 q5 i6 dX6_odds_48 ?_
        refine f_i (kV (As := [.int (gR σ k3 x3.toNatClampNeg)]) (rest := [.int x2]) (o := some x0) rfl ⟨hx, hb, hml, hown, hts⟩ (c_X6_manyWet l D cs ad x0 (gR σ k3 x3.toNatClampNeg) σ _ hk0) (cwV 1 hts gX6_odds_X6_manyWet rfl rfl rfl (by decide +kernel) ⟨Nat.le_of_ble_eq_true rfl, Nat.le_of_ble_eq_true rfl⟩) hE hP rfl rfl (w_5 hE hk0) h rfl hl.1 rfl (by first | exact lv_room (Nat.le_of_ble_eq_true rfl) | (refine lv_room ?_; simp [re_cat, cat_i, cat_l, cat_r])) dX6_odds_49 ⟨Nat.le_refl _, Nat.le_refl _⟩) hS (fun r8 s7 H locs h hP hS => ?_)
        refine lv_iload_n hx hb dX6_odds_52 rfl (lv_at hl 1 rfl) ?_
        refine lv_icmp_lt (tgt := 60) hx hb dX6_odds_53 (by decide) (fun c9 => ?_) (fun c9 => ?_)
        · replace h := h.1 c9
          refine lv_iconst (v := 0) hx hb dX6_odds_60 (by decide) ?_
          exact hB61 x1 x3 x2 0 s7 H locs ls h hP hS (lv_sub hl [0, 1, 3] rfl)
        · replace h := h.2 c9
          refine lv_iconst (v := 1) hx hb dX6_odds_56 (by decide) ?_
          refine lv_goto (tgt := 61) hx hb dX6_odds_57 (by decide) ?_
          exact hB61 x1 x3 x2 1 s7 H locs ls h hP hS (lv_sub hl [0, 1, 3] rfl)
  unfold p_X6_odds at h
  refine lv_iload_n hx hb dX6_odds_0 rfl (lv_at hl 1 rfl) ?_
  refine lv_iconst (v := 0) hx hb dX6_odds_1 (by decide) ?_
  refine lv_bipush (v := 6) hx hb dX6_odds_2 (by decide) ?_
  refine f_i (kS (As := [.int x1, .int 0, .int 6]) (rest := []) ⟨hx, hb, hml, hown, hts⟩ (c_X6_in l D cs ad x1 0 6 s0 _) (va_cwS 3 hts gX6_odds_X6_in rfl rfl rfl (by decide +kernel) ⟨Nat.le_of_ble_eq_true rfl, Nat.le_of_ble_eq_true rfl⟩) hE hP h rfl hl.1 rfl (by first | exact lv_room (Nat.le_of_ble_eq_true rfl) | (refine lv_room ?_; simp [re_cat, cat_i, cat_l, cat_r])) dX6_odds_4 ⟨Nat.le_refl _, Nat.le_refl _⟩) hS (fun r2 s1 H locs h hP hS => ?_)
  refine lv_if_ne (tgt := 12) hx hb dX6_odds_7 (by decide) (fun c3 => ?_) (fun c3 => ?_)
  · replace h := h.2 c3
    refine lv_aload_n hx hb dX6_odds_12 rfl (lv_at hl 0 rfl) ?_
    refine va_get (ci := 5) (v := .int (gI s1 x0 20)) (C := RX6) (T := TX6) (N := 42) hx hb hts hi_X6 hown hE.1 hP x0 (w_5 hE hk0) rfl 20 (by decide) (hts (.fieldLink RX6 167 "HemLineModel" "women" "I") (by decide +kernel)) (fun _ h9 => h9) rfl dX6_odds_13 ?_
    refine lv_if_eq (tgt := 26) hx hb dX6_odds_16 (by decide) (fun c4 => ?_) (fun c4 => ?_)
    · replace h := h.1 c4
      refine lv_bipush (v := (-4)) hx hb dX6_odds_26 (by decide) ?_
      exact W.iret hx hb hr (fun t ht hW => ⟨⟨_, _, rfl, h, pw ht hP⟩, hS.F ht⟩) hS.2.2 dX6_odds_28
    · replace h := h.2 c4
      refine lv_aload_n hx hb dX6_odds_19 rfl (lv_at hl 0 rfl) ?_
      refine va_get (ci := 5) (v := .int (gI s1 x0 31)) (C := RX6) (T := TX6) (N := 42) hx hb hts hi_X6 hown hE.1 hP x0 (w_5 hE hk0) rfl 31 (by decide) (hts (.fieldLink RX6 185 "HemLineModel" "years" "I") (by decide +kernel)) (fun _ h9 => h9) rfl dX6_odds_20 ?_
      refine lv_if_ne (tgt := 29) hx hb dX6_odds_23 (by decide) (fun c5 => ?_) (fun c5 => ?_)
      · replace h := h.2 c5
        refine lv_iconst (v := 0) hx hb dX6_odds_29 (by decide) ?_
        refine lv_istore_n (i := 2) (lv' := [(2, .int 0), (0, .ref (ad x0)), (1, .int x1)]) hx hb dX6_odds_30 rfl hl (by decide) (by first | rfl | simp [re_cat, cat_i, cat_l, cat_r]) (fun ls hl => ?_)
        refine lv_iconst (v := 0) hx hb dX6_odds_31 (by decide) ?_
        refine lv_istore_n (i := 3) (lv' := [(3, .int 0), (2, .int 0), (0, .ref (ad x0)), (1, .int x1)]) hx hb dX6_odds_32 rfl hl (by decide) (by first | rfl | simp [re_cat, cat_i, cat_l, cat_r]) (fun ls hl => ?_)
        obtain ⟨n6, h⟩ := h
        exact hB33 n6 x1 0 0 s1 _ _ ls h hP hS (lv_sub hl [2, 3, 1, 0] rfl)
      · replace h := h.1 c5
        refine lv_bipush (v := (-4)) hx hb dX6_odds_26 (by decide) ?_
        exact W.iret hx hb hr (fun t ht hW => ⟨⟨_, _, rfl, h, pw ht hP⟩, hS.F ht⟩) hS.2.2 dX6_odds_28
  · replace h := h.1 c3
    refine lv_iconst (v := (-1)) hx hb dX6_odds_10 (by decide) ?_
    exact W.iret hx hb hr (fun t ht hW => ⟨⟨_, _, rfl, h, pw ht hP⟩, hS.F ht⟩) hS.2.2 dX6_odds_11
def p_X6_mid_L25 (Q : Int32 → Sg → Prop)  : Nat → Nat → Int32 → Int32 → Sg → Prop
  | 0, _, _, _, _ => False
  | n + 1, x0, x1, x2, s => (((gI s x0 31) ≤ x2 → p_X6_tellPart x0 x1.toInt64 ((gI s x0 31).toInt64) s (fun s2 => Q 1 s2)) ∧ (¬ (gI s x0 31) ≤ x2 → ∃ k3, tM x0 32 = some k3 ∧ kM k3 = 7 ∧ vp_in x2 (lM k3) ∧ p_X6_wetAll x0 (gR s k3 x2.toNatClampNeg) 63 s (fun r8 s7 => p_X6_mid_L25 Q  n x0 (x1 + r8) (x2 + 1) s7)))
def p_X6_mid (x0 : Nat) (s : Sg) (Q : Int32 → Sg → Prop) : Prop := (((gI s x0 20) = 0 → Q ((-4)) s) ∧ (¬ (gI s x0 20) = 0 → (((gI s x0 31) = 0 → Q ((-4)) s) ∧ (¬ (gI s x0 31) = 0 → p_X6_noMore x0 s (fun s3 => (∃ n4, p_X6_mid_L25 Q  n4 x0 0 0 s3))))))
set_option maxHeartbeats 4000000 in
set_option maxRecDepth 100000 in
theorem c_X6_mid (l : Launch) (D : va_G) (cs : Cs) (ad : Nat → Nat) (x0 : Nat) (s0 : Sg) (Q : Int32 → Sg → Prop) (hk0 : kM x0 = 5) : Met l yX6_mid wsX6_mid { frames := 2, cells := 0, slots := 0, locals := 45 } (Pc0 bM D cs ad [.ref (ad x0)] s0 (p_X6_mid x0 s0 Q)) (QI bM D cs ad Q) 0 0 (fAd bM ad) := by
  refine Met.ofW (cc := cX6_mid) (maxL := 3) (ret := (some .int)) (by decide) rfl ?_
  intro p e s m args below meth c s₁ B0 hml hv
  obtain ⟨ha, hP, hE, h⟩ := hv
  have hx := B0.exec
  have hb := B0.bytes
  have hr := B0.returns
  have hts := atoms_spec (ws := wsX6_mid) B0.pre
  have hown : s.vm.findClass RX6 = some m.cls := findClass_of_methodNamed B0.named
  have hlocks := B0.notSynchronized
  have hi_X6 : ∀ w ∈ u_ws RX6 TX6 42, w ∈ wsX6_mid := by decide +kernel
  have hS : va_S (fAd bM ad) s.heap s.heap [] := va_S.rf
  have hl := lv_entry ([.ref (ad x0)]) (n := 3) (by first | exact Nat.le_of_ble_eq_true rfl | simp [lg_sl, re_cat, cat_i, cat_l, cat_r])
  rw [show entryFrame m args 3 = entryFrame m ([.ref (ad x0)] : List Value).toArray 3 by rw [ha], lg_entry_eq]
  generalize (lg_sl ([.ref (ad x0)]) ++ List.replicate (3 - (lg_sl ([.ref (ad x0)])).length) Slot.unset).toArray = ls at hl ⊢
  have hl : lv_has ls 3 [(0, .ref (ad x0))] := by first | exact hl | simpa [lv_args, re_cat, cat_i, cat_l, cat_r] using hl
  have hB25 : ∀ (n25 : Nat) (x1 : Int32) (x2 : Int32) (σ : Sg) (H : Heap) (locs : List Loc) (ls : Array Slot), p_X6_mid_L25 Q  n25 x0 x1 x2 σ → va_P D vwCl (wl bM cs ad σ) H → va_S (fAd bM ad) s.heap H locs → lv_has ls 3 [(0, .ref (ad x0)), (1, .int x1), (2, .int x2)] → W p l e { frames := 2, cells := 0, slots := 0, locals := 45 } s m args below meth c H locs 0 0 (MQ below (QI bM D cs ad Q) args s 0 0 (fAd bM ad)) (F0 m 25 ls []) := by
    intro n25
    induction n25 with
    | zero =>
      intro x1 x2 σ H locs ls h
      exact h.elim
    | succ n25 ih =>
      have hK25 := ih
      intro x1 x2 σ H locs ls h hP hS hl
      rw [p_X6_mid_L25] at h
      refine lv_iload_n hx hb dX6_mid_25 rfl (lv_at hl 2 rfl) ?_
      refine lv_aload_n hx hb dX6_mid_26 rfl (lv_at hl 0 rfl) ?_
      refine va_get (ci := 5) (v := .int (gI σ x0 31)) (C := RX6) (T := TX6) (N := 42) hx hb hts hi_X6 hown hE.1 hP x0 (w_5 hE hk0) rfl 31 (by decide) (hts (.fieldLink RX6 185 "HemLineModel" "years" "I") (by decide +kernel)) (fun _ h9 => h9) rfl dX6_mid_27 ?_
      refine lv_icmp_ge (tgt := 54) hx hb dX6_mid_30 (by decide) (fun c1 => ?_) (fun c1 => ?_)
      · replace h := h.1 c1
        refine lv_aload_n hx hb dX6_mid_54 rfl (lv_at hl 0 rfl) ?_
        refine lv_iload_n hx hb dX6_mid_55 rfl (lv_at hl 1 rfl) ?_
        refine lv_i2l hx hb dX6_mid_56 rfl ?_
        refine lv_aload_n hx hb dX6_mid_57 rfl (lv_at hl 0 rfl) ?_
        refine va_get (ci := 5) (v := .int (gI σ x0 31)) (C := RX6) (T := TX6) (N := 42) hx hb hts hi_X6 hown hE.1 hP x0 (w_5 hE hk0) rfl 31 (by decide) (hts (.fieldLink RX6 185 "HemLineModel" "years" "I") (by decide +kernel)) (fun _ h9 => h9) rfl dX6_mid_58 ?_
        refine lv_i2l hx hb dX6_mid_61 rfl ?_
        refine f_v (kV (As := [.long (x1.toInt64), .long ((gI σ x0 31).toInt64)]) (rest := []) (o := some x0) rfl ⟨hx, hb, hml, hown, hts⟩ (c_X6_tellPart l D cs ad x0 x1.toInt64 ((gI σ x0 31).toInt64) σ _ hk0) (cwV 2 hts gX6_mid_X6_tellPart rfl rfl rfl (by decide +kernel) ⟨Nat.le_of_ble_eq_true rfl, Nat.le_of_ble_eq_true rfl⟩) hE hP rfl rfl (w_5 hE hk0) h rfl hl.1 rfl (by first | exact lv_room (Nat.le_of_ble_eq_true rfl) | (refine lv_room ?_; simp [re_cat, cat_i, cat_l, cat_r])) dX6_mid_62 ⟨Nat.le_refl _, Nat.le_refl _⟩) hS (fun s2 H locs h hP hS => ?_)
        refine lv_iconst (v := 1) hx hb dX6_mid_65 (by decide) ?_
        exact W.iret hx hb hr (fun t ht hW => ⟨⟨_, _, rfl, h, pw ht hP⟩, hS.F ht⟩) hS.2.2 dX6_mid_66
      · replace h := h.2 c1
        refine lv_iload_n hx hb dX6_mid_33 rfl (lv_at hl 1 rfl) ?_
        refine lv_aload_n hx hb dX6_mid_34 rfl (lv_at hl 0 rfl) ?_
        refine lv_aload_n hx hb dX6_mid_35 rfl (lv_at hl 0 rfl) ?_
        refine va_get (ci := 5) (v := va_re ad (tM x0 32)) (C := RX6) (T := TX6) (N := 42) hx hb hts hi_X6 hown hE.1 hP x0 (w_5 hE hk0) rfl 32 (by decide) (hts (.fieldLink RX6 68 "HemLineModel" "floods" "[I") (by decide +kernel)) (fun _ h9 => h9) rfl dX6_mid_36 ?_
        refine lv_iload_n hx hb dX6_mid_39 rfl (lv_at hl 2 rfl) ?_
        obtain ⟨k3, e4, q5, i6, h⟩ := h
        refine r_iald hx hb hE hP e4 q5 i6 dX6_mid_40 ?_
        refine lv_bipush (v := 63) hx hb dX6_mid_41 (by decide) ?_
        refine f_i (kV (As := [.int (gR σ k3 x2.toNatClampNeg), .int 63]) (rest := [.int x1]) (o := some x0) rfl ⟨hx, hb, hml, hown, hts⟩ (c_X6_wetAll l D cs ad x0 (gR σ k3 x2.toNatClampNeg) 63 σ _ hk0) (cwV 2 hts gX6_mid_X6_wetAll rfl rfl rfl (by decide +kernel) ⟨Nat.le_of_ble_eq_true rfl, Nat.le_of_ble_eq_true rfl⟩) hE hP rfl rfl (w_5 hE hk0) h rfl hl.1 rfl (by first | exact lv_room (Nat.le_of_ble_eq_true rfl) | (refine lv_room ?_; simp [re_cat, cat_i, cat_l, cat_r])) dX6_mid_43 ⟨Nat.le_refl _, Nat.le_refl _⟩) hS (fun r8 s7 H locs h hP hS => ?_)
        refine lv_iadd hx hb dX6_mid_46 ?_
        refine lv_istore_n (i := 1) (lv' := [(1, .int (x1 + r8)), (0, .ref (ad x0)), (2, .int x2)]) hx hb dX6_mid_47 rfl hl (by decide) (by first | rfl | simp [re_cat, cat_i, cat_l, cat_r]) (fun ls hl => ?_)
        refine lv_iinc (v := x2 + 1) (lv' := [(2, .int (x2 + 1)), (1, .int (x1 + r8)), (0, .ref (ad x0))]) hx hb dX6_mid_48 hl (k := 2) rfl rfl (by decide) (by first | rfl | simp [re_cat, cat_i, cat_l, cat_r]) (fun ls hl => ?_)
        refine lv_goto (tgt := 25) hx hb dX6_mid_51 (by decide) ?_
        exact ih (x1 + r8) (x2 + 1) s7 H locs ls h hP hS (lv_sub hl [2, 1, 0] rfl)
  unfold p_X6_mid at h
  refine lv_aload_n hx hb dX6_mid_0 rfl (lv_at hl 0 rfl) ?_
  refine va_get (ci := 5) (v := .int (gI s0 x0 20)) (C := RX6) (T := TX6) (N := 42) hx hb hts hi_X6 hown hE.1 hP x0 (w_5 hE hk0) rfl 20 (by decide) (hts (.fieldLink RX6 167 "HemLineModel" "women" "I") (by decide +kernel)) (fun _ h9 => h9) rfl dX6_mid_1 ?_
  refine lv_if_eq (tgt := 14) hx hb dX6_mid_4 (by decide) (fun c1 => ?_) (fun c1 => ?_)
  · replace h := h.1 c1
    refine lv_bipush (v := (-4)) hx hb dX6_mid_14 (by decide) ?_
    exact W.iret hx hb hr (fun t ht hW => ⟨⟨_, _, rfl, h, pw ht hP⟩, hS.F ht⟩) hS.2.2 dX6_mid_16
  · replace h := h.2 c1
    refine lv_aload_n hx hb dX6_mid_7 rfl (lv_at hl 0 rfl) ?_
    refine va_get (ci := 5) (v := .int (gI s0 x0 31)) (C := RX6) (T := TX6) (N := 42) hx hb hts hi_X6 hown hE.1 hP x0 (w_5 hE hk0) rfl 31 (by decide) (hts (.fieldLink RX6 185 "HemLineModel" "years" "I") (by decide +kernel)) (fun _ h9 => h9) rfl dX6_mid_8 ?_
    refine lv_if_ne (tgt := 17) hx hb dX6_mid_11 (by decide) (fun c2 => ?_) (fun c2 => ?_)
    · replace h := h.2 c2
      refine lv_aload_n hx hb dX6_mid_17 rfl (lv_at hl 0 rfl) ?_
      refine f_v (kV (As := []) (rest := []) (o := some x0) rfl ⟨hx, hb, hml, hown, hts⟩ (c_X6_noMore l D cs ad x0 s0 _ hk0) (cwV 0 hts gX6_mid_X6_noMore rfl rfl rfl (by decide +kernel) ⟨Nat.le_of_ble_eq_true rfl, Nat.le_of_ble_eq_true rfl⟩) hE hP rfl rfl (w_5 hE hk0) h rfl hl.1 rfl (by first | exact lv_room (Nat.le_of_ble_eq_true rfl) | (refine lv_room ?_; simp [re_cat, cat_i, cat_l, cat_r])) dX6_mid_18 ⟨Nat.le_refl _, Nat.le_refl _⟩) hS (fun s3 H locs h hP hS => ?_)
      refine lv_iconst (v := 0) hx hb dX6_mid_21 (by decide) ?_
      refine lv_istore_n (i := 1) (lv' := [(1, .int 0), (0, .ref (ad x0))]) hx hb dX6_mid_22 rfl hl (by decide) (by first | rfl | simp [re_cat, cat_i, cat_l, cat_r]) (fun ls hl => ?_)
      refine lv_iconst (v := 0) hx hb dX6_mid_23 (by decide) ?_
      refine lv_istore_n (i := 2) (lv' := [(2, .int 0), (1, .int 0), (0, .ref (ad x0))]) hx hb dX6_mid_24 rfl hl (by decide) (by first | rfl | simp [re_cat, cat_i, cat_l, cat_r]) (fun ls hl => ?_)
      obtain ⟨n4, h⟩ := h
      exact hB25 n4 0 0 s3 _ _ ls h hP hS (lv_sub hl [2, 1, 0] rfl)
    · replace h := h.1 c2
      refine lv_bipush (v := (-4)) hx hb dX6_mid_14 (by decide) ?_
      exact W.iret hx hb hr (fun t ht hW => ⟨⟨_, _, rfl, h, pw ht hP⟩, hS.F ht⟩) hS.2.2 dX6_mid_16
def p_X6_lots_b134 (Q : Int32 → Sg → Prop) (K53 : Nat → Int32 → Int64 → Int32 → Sg → Prop) (x0 : Nat) (x1 : Int32) (x3 : Int64) (x5 : Int32) (s : Sg) : Prop := K53 x0 x1 x3 (x5 + 1) s
def p_X6_lots_b107 (Q : Int32 → Sg → Prop) (K53 : Nat → Int32 → Int64 → Int32 → Sg → Prop) (x0 : Nat) (x1 : Int32) (x3 : Int64) (x5 : Int32) (s : Sg) : Prop := ¬ ((gI s x0 20).toInt64) = 0 ∧ p_X6_does x0 1 (((x3 / 8) - (x3 / 8) / ((gI s x0 20).toInt64) * ((gI s x0 20).toInt64)).toInt32) (((x3 / 64) - (x3 / 64) / 6 * 6).toInt32) s (fun s2 => p_X6_lots_b134 Q K53 x0 x1 x3 x5 s2)
def p_X6_lots_L53 (Q : Int32 → Sg → Prop)  : Nat → Nat → Int32 → Int64 → Int32 → Sg → Prop
  | 0, _, _, _, _, _ => False
  | n + 1, x0, x1, x3, x5, s => ((x1 ≤ x5 → Q (gI s x0 31) s) ∧ (¬ x1 ≤ x5 → (((lg_cmp (((48271 * x3) - (48271 * x3) / 2147483647 * 2147483647) - ((48271 * x3) - (48271 * x3) / 2147483647 * 2147483647) / 4 * 4) 0) = 0 → ((8 ≤ (gI s x0 31) → p_X6_lots_b107 Q (fun y0 y1 y3 y5 u => p_X6_lots_L53 Q  n y0 y1 y3 y5 u) x0 x1 ((48271 * x3) - (48271 * x3) / 2147483647 * 2147483647) x5 s) ∧ (¬ 8 ≤ (gI s x0 31) → p_X6_does x0 0 (((((48271 * x3) - (48271 * x3) / 2147483647 * 2147483647) / 8) - (((48271 * x3) - (48271 * x3) / 2147483647 * 2147483647) / 8) / 21 * 21).toInt32) 0 s (fun s4 => p_X6_lots_b134 Q (fun y0 y1 y3 y5 u => p_X6_lots_L53 Q  n y0 y1 y3 y5 u) x0 x1 ((48271 * x3) - (48271 * x3) / 2147483647 * 2147483647) x5 s4)))) ∧ (¬ (lg_cmp (((48271 * x3) - (48271 * x3) / 2147483647 * 2147483647) - ((48271 * x3) - (48271 * x3) / 2147483647 * 2147483647) / 4 * 4) 0) = 0 → p_X6_lots_b107 Q (fun y0 y1 y3 y5 u => p_X6_lots_L53 Q  n y0 y1 y3 y5 u) x0 x1 ((48271 * x3) - (48271 * x3) / 2147483647 * 2147483647) x5 s))))
def p_X6_lots (x0 : Nat) (x1 : Int32) (x2 : Int32) (s : Sg) (Q : Int32 → Sg → Prop) : Prop := p_X6_in x1 1 20 s (fun r2 s1 => ((r2 = 0 → Q ((-1)) s1) ∧ (¬ r2 = 0 → p_X6_in x2 1 2147483646 s1 (fun r5 s4 => ((r5 = 0 → Q ((-1)) s4) ∧ (¬ r5 = 0 → (((gI s4 x0 20) = 0 → Q ((-4)) s4) ∧ (¬ (gI s4 x0 20) = 0 → ((((gI s4 x0 36) + x1) ≤ 40 → (∃ n9, p_X6_lots_L53 Q  n9 x0 x1 x2.toInt64 0 s4)) ∧ (¬ ((gI s4 x0 36) + x1) ≤ 40 → Q ((-2)) s4))))))))))
set_option maxHeartbeats 4000000 in
set_option maxRecDepth 100000 in
theorem c_X6_lots (l : Launch) (D : va_G) (cs : Cs) (ad : Nat → Nat) (x0 : Nat) (x1 : Int32) (x2 : Int32) (s0 : Sg) (Q : Int32 → Sg → Prop) (hk0 : kM x0 = 5) : Met l yX6_lots wsX6_lots { frames := 5, cells := 0, slots := 0, locals := 119 } (Pc0 bM D cs ad [.ref (ad x0), .int x1, .int x2] s0 (p_X6_lots x0 x1 x2 s0 Q)) (QI bM D cs ad Q) 0 0 (fAd bM ad) := by
  refine Met.ofW (cc := cX6_lots) (maxL := 6) (ret := (some .int)) (by decide) rfl ?_
  intro p e s m args below meth c s₁ B0 hml hv
  obtain ⟨ha, hP, hE, h⟩ := hv
  have hx := B0.exec
  have hb := B0.bytes
  have hr := B0.returns
  have hts := atoms_spec (ws := wsX6_lots) B0.pre
  have hown : s.vm.findClass RX6 = some m.cls := findClass_of_methodNamed B0.named
  have hlocks := B0.notSynchronized
  have hi_X6 : ∀ w ∈ u_ws RX6 TX6 42, w ∈ wsX6_lots := by decide +kernel
  have hS : va_S (fAd bM ad) s.heap s.heap [] := va_S.rf
  have hl := lv_entry ([.ref (ad x0), .int x1, .int x2]) (n := 6) (by first | exact Nat.le_of_ble_eq_true rfl | simp [lg_sl, re_cat, cat_i, cat_l, cat_r])
  rw [show entryFrame m args 6 = entryFrame m ([.ref (ad x0), .int x1, .int x2] : List Value).toArray 6 by rw [ha], lg_entry_eq]
  generalize (lg_sl ([.ref (ad x0), .int x1, .int x2]) ++ List.replicate (6 - (lg_sl ([.ref (ad x0), .int x1, .int x2])).length) Slot.unset).toArray = ls at hl ⊢
  have hl : lv_has ls 6 [(0, .ref (ad x0)), (1, .int x1), (2, .int x2)] := by first | exact hl | simpa [lv_args, re_cat, cat_i, cat_l, cat_r] using hl
  have hB53 : ∀ (n53 : Nat) (x1 : Int32) (x3 : Int64) (x5 : Int32) (σ : Sg) (H : Heap) (locs : List Loc) (ls : Array Slot), p_X6_lots_L53 Q  n53 x0 x1 x3 x5 σ → va_P D vwCl (wl bM cs ad σ) H → va_S (fAd bM ad) s.heap H locs → lv_has ls 6 [(0, .ref (ad x0)), (1, .int x1), (3, .long x3), (5, .int x5)] → W p l e { frames := 5, cells := 0, slots := 0, locals := 119 } s m args below meth c H locs 0 0 (MQ below (QI bM D cs ad Q) args s 0 0 (fAd bM ad)) (F0 m 53 ls []) := by
    intro n53
    induction n53 with
    | zero =>
      intro x1 x3 x5 σ H locs ls h
      exact h.elim
    | succ n53 ih =>
      have hK53 := ih
      have hB134 : ∀ (x1 : Int32) (x3 : Int64) (x5 : Int32) (σ : Sg) (H : Heap) (locs : List Loc) (ls : Array Slot), p_X6_lots_b134 Q (fun y0 y1 y3 y5 u => p_X6_lots_L53 Q  n53 y0 y1 y3 y5 u) x0 x1 x3 x5 σ → va_P D vwCl (wl bM cs ad σ) H → va_S (fAd bM ad) s.heap H locs → lv_has ls 6 [(0, .ref (ad x0)), (1, .int x1), (3, .long x3), (5, .int x5)] → W p l e { frames := 5, cells := 0, slots := 0, locals := 119 } s m args below meth c H locs 0 0 (MQ below (QI bM D cs ad Q) args s 0 0 (fAd bM ad)) (F0 m 134 ls []) := by
        intro x1 x3 x5 σ H locs ls h hP hS hl
        unfold p_X6_lots_b134 at h
        refine lv_iinc (v := x5 + 1) (lv' := [(5, .int (x5 + 1)), (0, .ref (ad x0)), (1, .int x1), (3, .long x3)]) hx hb dX6_lots_134 hl (k := 3) rfl rfl (by decide) (by first | rfl | simp [re_cat, cat_i, cat_l, cat_r]) (fun ls hl => ?_)
        refine lv_goto (tgt := 53) hx hb dX6_lots_137 (by decide) ?_
        exact hK53 x1 x3 (x5 + 1) σ H locs ls h hP hS (lv_sub hl [1, 2, 3, 0] rfl)
      have hB107 : ∀ (x1 : Int32) (x3 : Int64) (x5 : Int32) (σ : Sg) (H : Heap) (locs : List Loc) (ls : Array Slot), p_X6_lots_b107 Q (fun y0 y1 y3 y5 u => p_X6_lots_L53 Q  n53 y0 y1 y3 y5 u) x0 x1 x3 x5 σ → va_P D vwCl (wl bM cs ad σ) H → va_S (fAd bM ad) s.heap H locs → lv_has ls 6 [(0, .ref (ad x0)), (1, .int x1), (3, .long x3), (5, .int x5)] → W p l e { frames := 5, cells := 0, slots := 0, locals := 119 } s m args below meth c H locs 0 0 (MQ below (QI bM D cs ad Q) args s 0 0 (fAd bM ad)) (F0 m 107 ls []) := by
        intro x1 x3 x5 σ H locs ls h hP hS hl
        unfold p_X6_lots_b107 at h
        refine lv_aload_n hx hb dX6_lots_107 rfl (lv_at hl 0 rfl) ?_
        refine lv_iconst (v := 1) hx hb dX6_lots_108 (by decide) ?_
        refine lv_lload_n hx hb dX6_lots_109 rfl (lv_at hl 2 rfl) ?_
        refine lv_ldc2 (v := 8) hx hb hown (hts (.constantLong RX6 275 (8)) (by decide +kernel)) dX6_lots_110 ?_
        refine lv_ldiv hx hb dX6_lots_113 (by decide) ?_
        refine lv_aload_n hx hb dX6_lots_114 rfl (lv_at hl 0 rfl) ?_
        refine va_get (ci := 5) (v := .int (gI σ x0 20)) (C := RX6) (T := TX6) (N := 42) hx hb hts hi_X6 hown hE.1 hP x0 (w_5 hE hk0) rfl 20 (by decide) (hts (.fieldLink RX6 167 "HemLineModel" "women" "I") (by decide +kernel)) (fun _ h9 => h9) rfl dX6_lots_115 ?_
        refine lv_i2l hx hb dX6_lots_118 rfl ?_
        obtain ⟨z1, h⟩ := h
        refine lv_lrem hx hb dX6_lots_119 z1 ?_
        refine lv_l2i hx hb dX6_lots_120 rfl ?_
        refine lv_lload_n hx hb dX6_lots_121 rfl (lv_at hl 2 rfl) ?_
        refine lv_ldc2 (v := 64) hx hb hown (hts (.constantLong RX6 279 (64)) (by decide +kernel)) dX6_lots_122 ?_
        refine lv_ldiv hx hb dX6_lots_125 (by decide) ?_
        refine lv_ldc2 (v := 6) hx hb hown (hts (.constantLong RX6 281 (6)) (by decide +kernel)) dX6_lots_126 ?_
        refine lv_lrem hx hb dX6_lots_129 (by decide) ?_
        refine lv_l2i hx hb dX6_lots_130 rfl ?_
        refine f_v (kV (As := [.int 1, .int (((x3 / 8) - (x3 / 8) / ((gI σ x0 20).toInt64) * ((gI σ x0 20).toInt64)).toInt32), .int (((x3 / 64) - (x3 / 64) / 6 * 6).toInt32)]) (rest := []) (o := some x0) rfl ⟨hx, hb, hml, hown, hts⟩ (c_X6_does l D cs ad x0 1 (((x3 / 8) - (x3 / 8) / ((gI σ x0 20).toInt64) * ((gI σ x0 20).toInt64)).toInt32) (((x3 / 64) - (x3 / 64) / 6 * 6).toInt32) σ _ hk0) (cwV 3 hts gX6_lots_X6_does rfl rfl rfl (by decide +kernel) ⟨Nat.le_of_ble_eq_true rfl, Nat.le_of_ble_eq_true rfl⟩) hE hP rfl rfl (w_5 hE hk0) h rfl hl.1 rfl (by first | exact lv_room (Nat.le_of_ble_eq_true rfl) | (refine lv_room ?_; simp [re_cat, cat_i, cat_l, cat_r])) dX6_lots_131 ⟨Nat.le_refl _, Nat.le_refl _⟩) hS (fun s2 H locs h hP hS => ?_)
        exact hB134 x1 x3 x5 s2 H locs ls h hP hS (lv_sub hl [0, 1, 2, 3] rfl)
      intro x1 x3 x5 σ H locs ls h hP hS hl
      rw [p_X6_lots_L53] at h
      refine lv_iload hx hb dX6_lots_53 (lv_at hl 3 rfl) ?_
      refine lv_iload_n hx hb dX6_lots_55 rfl (lv_at hl 1 rfl) ?_
      refine lv_icmp_ge (tgt := 140) hx hb dX6_lots_56 (by decide) (fun c1 => ?_) (fun c1 => ?_)
      · replace h := h.1 c1
        refine lv_aload_n hx hb dX6_lots_140 rfl (lv_at hl 0 rfl) ?_
        refine va_get (ci := 5) (v := .int (gI σ x0 31)) (C := RX6) (T := TX6) (N := 42) hx hb hts hi_X6 hown hE.1 hP x0 (w_5 hE hk0) rfl 31 (by decide) (hts (.fieldLink RX6 185 "HemLineModel" "years" "I") (by decide +kernel)) (fun _ h9 => h9) rfl dX6_lots_141 ?_
        exact W.iret hx hb hr (fun t ht hW => ⟨⟨_, _, rfl, h, pw ht hP⟩, hS.F ht⟩) hS.2.2 dX6_lots_144
      · replace h := h.2 c1
        refine lv_ldc2 (v := 48271) hx hb hown (hts (.constantLong RX6 269 (48271)) (by decide +kernel)) dX6_lots_59 ?_
        refine lv_lload_n hx hb dX6_lots_62 rfl (lv_at hl 2 rfl) ?_
        refine lv_lmul hx hb dX6_lots_63 ?_
        refine lv_ldc2 (v := 2147483647) hx hb hown (hts (.constantLong RX6 271 (2147483647)) (by decide +kernel)) dX6_lots_64 ?_
        refine lv_lrem hx hb dX6_lots_67 (by decide) ?_
        refine lv_lstore_n (i := 3) (lv' := [(3, .long ((48271 * x3) - (48271 * x3) / 2147483647 * 2147483647)), (0, .ref (ad x0)), (1, .int x1), (5, .int x5)]) hx hb dX6_lots_68 rfl hl (by decide) (by first | rfl | simp [re_cat, cat_i, cat_l, cat_r]) (fun ls hl => ?_)
        refine lv_lload_n hx hb dX6_lots_69 rfl (lv_at hl 0 rfl) ?_
        refine lv_ldc2 (v := 4) hx hb hown (hts (.constantLong RX6 273 (4)) (by decide +kernel)) dX6_lots_70 ?_
        refine lv_lrem hx hb dX6_lots_73 (by decide) ?_
        refine lv_lconst (v := 0) hx hb dX6_lots_74 (by decide) ?_
        refine W.lcmp hx hb dX6_lots_75 ?_
        refine lv_if_ne (tgt := 107) hx hb dX6_lots_76 (by decide) (fun c2 => ?_) (fun c2 => ?_)
        · replace h := h.2 c2
          exact hB107 x1 ((48271 * x3) - (48271 * x3) / 2147483647 * 2147483647) x5 σ H locs ls h hP hS (lv_sub hl [1, 2, 0, 3] rfl)
        · replace h := h.1 c2
          refine lv_aload_n hx hb dX6_lots_79 rfl (lv_at hl 1 rfl) ?_
          refine va_get (ci := 5) (v := .int (gI σ x0 31)) (C := RX6) (T := TX6) (N := 42) hx hb hts hi_X6 hown hE.1 hP x0 (w_5 hE hk0) rfl 31 (by decide) (hts (.fieldLink RX6 185 "HemLineModel" "years" "I") (by decide +kernel)) (fun _ h9 => h9) rfl dX6_lots_80 ?_
          refine lv_bipush (v := 8) hx hb dX6_lots_83 (by decide) ?_
          refine lv_icmp_ge (tgt := 107) hx hb dX6_lots_85 (by decide) (fun c3 => ?_) (fun c3 => ?_)
          · replace h := h.1 c3
            exact hB107 x1 ((48271 * x3) - (48271 * x3) / 2147483647 * 2147483647) x5 σ H locs ls h hP hS (lv_sub hl [1, 2, 0, 3] rfl)
          · replace h := h.2 c3
            refine lv_aload_n hx hb dX6_lots_88 rfl (lv_at hl 1 rfl) ?_
            refine lv_iconst (v := 0) hx hb dX6_lots_89 (by decide) ?_
            refine lv_lload_n hx hb dX6_lots_90 rfl (lv_at hl 0 rfl) ?_
            refine lv_ldc2 (v := 8) hx hb hown (hts (.constantLong RX6 275 (8)) (by decide +kernel)) dX6_lots_91 ?_
            refine lv_ldiv hx hb dX6_lots_94 (by decide) ?_
            refine lv_ldc2 (v := 21) hx hb hown (hts (.constantLong RX6 277 (21)) (by decide +kernel)) dX6_lots_95 ?_
            refine lv_lrem hx hb dX6_lots_98 (by decide) ?_
            refine lv_l2i hx hb dX6_lots_99 rfl ?_
            refine lv_iconst (v := 0) hx hb dX6_lots_100 (by decide) ?_
            refine f_v (kV (As := [.int 0, .int (((((48271 * x3) - (48271 * x3) / 2147483647 * 2147483647) / 8) - (((48271 * x3) - (48271 * x3) / 2147483647 * 2147483647) / 8) / 21 * 21).toInt32), .int 0]) (rest := []) (o := some x0) rfl ⟨hx, hb, hml, hown, hts⟩ (c_X6_does l D cs ad x0 0 (((((48271 * x3) - (48271 * x3) / 2147483647 * 2147483647) / 8) - (((48271 * x3) - (48271 * x3) / 2147483647 * 2147483647) / 8) / 21 * 21).toInt32) 0 σ _ hk0) (cwV 3 hts gX6_lots_X6_does rfl rfl rfl (by decide +kernel) ⟨Nat.le_of_ble_eq_true rfl, Nat.le_of_ble_eq_true rfl⟩) hE hP rfl rfl (w_5 hE hk0) h rfl hl.1 rfl (by first | exact lv_room (Nat.le_of_ble_eq_true rfl) | (refine lv_room ?_; simp [re_cat, cat_i, cat_l, cat_r])) dX6_lots_101 ⟨Nat.le_refl _, Nat.le_refl _⟩) hS (fun s4 H locs h hP hS => ?_)
            refine lv_goto (tgt := 134) hx hb dX6_lots_104 (by decide) ?_
            exact hB134 x1 ((48271 * x3) - (48271 * x3) / 2147483647 * 2147483647) x5 s4 H locs ls h hP hS (lv_sub hl [1, 2, 0, 3] rfl)
  unfold p_X6_lots at h
  refine lv_iload_n hx hb dX6_lots_0 rfl (lv_at hl 1 rfl) ?_
  refine lv_iconst (v := 1) hx hb dX6_lots_1 (by decide) ?_
  refine lv_bipush (v := 20) hx hb dX6_lots_2 (by decide) ?_
  refine f_i (kS (As := [.int x1, .int 1, .int 20]) (rest := []) ⟨hx, hb, hml, hown, hts⟩ (c_X6_in l D cs ad x1 1 20 s0 _) (va_cwS 3 hts gX6_lots_X6_in rfl rfl rfl (by decide +kernel) ⟨Nat.le_of_ble_eq_true rfl, Nat.le_of_ble_eq_true rfl⟩) hE hP h rfl hl.1 rfl (by first | exact lv_room (Nat.le_of_ble_eq_true rfl) | (refine lv_room ?_; simp [re_cat, cat_i, cat_l, cat_r])) dX6_lots_4 ⟨Nat.le_refl _, Nat.le_refl _⟩) hS (fun r2 s1 H locs h hP hS => ?_)
  refine lv_if_eq (tgt := 21) hx hb dX6_lots_7 (by decide) (fun c3 => ?_) (fun c3 => ?_)
  · replace h := h.1 c3
    refine lv_iconst (v := (-1)) hx hb dX6_lots_21 (by decide) ?_
    exact W.iret hx hb hr (fun t ht hW => ⟨⟨_, _, rfl, h, pw ht hP⟩, hS.F ht⟩) hS.2.2 dX6_lots_22
  · replace h := h.2 c3
    refine lv_iload_n hx hb dX6_lots_10 rfl (lv_at hl 2 rfl) ?_
    refine lv_iconst (v := 1) hx hb dX6_lots_11 (by decide) ?_
    refine lv_ldcw (v := 2147483646) hx hb hown (hts (.constant RX6 268 (2147483646)) (by decide +kernel)) dX6_lots_12 ?_
    refine f_i (kS (As := [.int x2, .int 1, .int 2147483646]) (rest := []) ⟨hx, hb, hml, hown, hts⟩ (c_X6_in l D cs ad x2 1 2147483646 s1 _) (va_cwS 3 hts gX6_lots_X6_in rfl rfl rfl (by decide +kernel) ⟨Nat.le_of_ble_eq_true rfl, Nat.le_of_ble_eq_true rfl⟩) hE hP h rfl hl.1 rfl (by first | exact lv_room (Nat.le_of_ble_eq_true rfl) | (refine lv_room ?_; simp [re_cat, cat_i, cat_l, cat_r])) dX6_lots_15 ⟨Nat.le_refl _, Nat.le_refl _⟩) hS (fun r5 s4 H locs h hP hS => ?_)
    refine lv_if_ne (tgt := 23) hx hb dX6_lots_18 (by decide) (fun c6 => ?_) (fun c6 => ?_)
    · replace h := h.2 c6
      refine lv_aload_n hx hb dX6_lots_23 rfl (lv_at hl 0 rfl) ?_
      refine va_get (ci := 5) (v := .int (gI s4 x0 20)) (C := RX6) (T := TX6) (N := 42) hx hb hts hi_X6 hown hE.1 hP x0 (w_5 hE hk0) rfl 20 (by decide) (hts (.fieldLink RX6 167 "HemLineModel" "women" "I") (by decide +kernel)) (fun _ h9 => h9) rfl dX6_lots_24 ?_
      refine lv_if_ne (tgt := 33) hx hb dX6_lots_27 (by decide) (fun c7 => ?_) (fun c7 => ?_)
      · replace h := h.2 c7
        refine lv_aload_n hx hb dX6_lots_33 rfl (lv_at hl 0 rfl) ?_
        refine va_get (ci := 5) (v := .int (gI s4 x0 36)) (C := RX6) (T := TX6) (N := 42) hx hb hts hi_X6 hown hE.1 hP x0 (w_5 hE hk0) rfl 36 (by decide) (hts (.fieldLink RX6 173 "HemLineModel" "deeds" "I") (by decide +kernel)) (fun _ h9 => h9) rfl dX6_lots_34 ?_
        refine lv_iload_n hx hb dX6_lots_37 rfl (lv_at hl 1 rfl) ?_
        refine lv_iadd hx hb dX6_lots_38 ?_
        refine lv_bipush (v := 40) hx hb dX6_lots_39 (by decide) ?_
        refine lv_icmp_le (tgt := 47) hx hb dX6_lots_41 (by decide) (fun c8 => ?_) (fun c8 => ?_)
        · replace h := h.1 c8
          refine lv_iload_n hx hb dX6_lots_47 rfl (lv_at hl 2 rfl) ?_
          refine lv_i2l hx hb dX6_lots_48 rfl ?_
          refine lv_lstore_n (i := 3) (lv' := [(3, .long (x2.toInt64)), (0, .ref (ad x0)), (1, .int x1), (2, .int x2)]) hx hb dX6_lots_49 rfl hl (by decide) (by first | rfl | simp [re_cat, cat_i, cat_l, cat_r]) (fun ls hl => ?_)
          refine lv_iconst (v := 0) hx hb dX6_lots_50 (by decide) ?_
          refine lv_istore (i := 5) (lv' := [(5, .int 0), (3, .long (x2.toInt64)), (0, .ref (ad x0)), (1, .int x1), (2, .int x2)]) hx hb dX6_lots_51 hl (by decide) (by first | rfl | simp [re_cat, cat_i, cat_l, cat_r]) (fun ls hl => ?_)
          obtain ⟨n9, h⟩ := h
          exact hB53 n9 x1 x2.toInt64 0 s4 _ _ ls h hP hS (lv_sub hl [2, 3, 1, 0] rfl)
        · replace h := h.2 c8
          refine lv_bipush (v := (-2)) hx hb dX6_lots_44 (by decide) ?_
          exact W.iret hx hb hr (fun t ht hW => ⟨⟨_, _, rfl, h, pw ht hP⟩, hS.F ht⟩) hS.2.2 dX6_lots_46
      · replace h := h.1 c7
        refine lv_bipush (v := (-4)) hx hb dX6_lots_30 (by decide) ?_
        exact W.iret hx hb hr (fun t ht hW => ⟨⟨_, _, rfl, h, pw ht hP⟩, hS.F ht⟩) hS.2.2 dX6_lots_32
    · replace h := h.1 c6
      refine lv_iconst (v := (-1)) hx hb dX6_lots_21 (by decide) ?_
      exact W.iret hx hb hr (fun t ht hW => ⟨⟨_, _, rfl, h, pw ht hP⟩, hS.F ht⟩) hS.2.2 dX6_lots_22
def p_X6_asked (x0 : Nat) (s : Sg) (Q : Int32 → Sg → Prop) : Prop := Q (gI s x0 0) s
set_option maxHeartbeats 4000000 in
set_option maxRecDepth 100000 in
theorem c_X6_asked (l : Launch) (D : va_G) (cs : Cs) (ad : Nat → Nat) (x0 : Nat) (s0 : Sg) (Q : Int32 → Sg → Prop) (hk0 : kM x0 = 5) : Met l yX6_asked wsX6_asked { frames := 0, cells := 0, slots := 0, locals := 0 } (Pc0 bM D cs ad [.ref (ad x0)] s0 (p_X6_asked x0 s0 Q)) (QI bM D cs ad Q) 0 0 (fAd bM ad) := by
  refine Met.ofW (cc := cX6_asked) (maxL := 1) (ret := (some .int)) (by decide) rfl ?_
  intro p e s m args below meth c s₁ B0 hml hv
  obtain ⟨ha, hP, hE, h⟩ := hv
  have hx := B0.exec
  have hb := B0.bytes
  have hr := B0.returns
  have hts := atoms_spec (ws := wsX6_asked) B0.pre
  have hown : s.vm.findClass RX6 = some m.cls := findClass_of_methodNamed B0.named
  have hlocks := B0.notSynchronized
  have hi_X6 : ∀ w ∈ u_ws RX6 TX6 42, w ∈ wsX6_asked := by decide +kernel
  have hS : va_S (fAd bM ad) s.heap s.heap [] := va_S.rf
  have hl := lv_entry ([.ref (ad x0)]) (n := 1) (by first | exact Nat.le_of_ble_eq_true rfl | simp [lg_sl, re_cat, cat_i, cat_l, cat_r])
  rw [show entryFrame m args 1 = entryFrame m ([.ref (ad x0)] : List Value).toArray 1 by rw [ha], lg_entry_eq]
  generalize (lg_sl ([.ref (ad x0)]) ++ List.replicate (1 - (lg_sl ([.ref (ad x0)])).length) Slot.unset).toArray = ls at hl ⊢
  have hl : lv_has ls 1 [(0, .ref (ad x0))] := by first | exact hl | simpa [lv_args, re_cat, cat_i, cat_l, cat_r] using hl
  unfold p_X6_asked at h
  refine lv_aload_n hx hb dX6_asked_0 rfl (lv_at hl 0 rfl) ?_
  refine va_get (ci := 5) (v := .int (gI s0 x0 0)) (C := RX6) (T := TX6) (N := 42) hx hb hts hi_X6 hown hE.1 hP x0 (w_5 hE hk0) rfl 0 (by decide) (hts (.fieldLink RX6 103 "HemLineModel" "asked" "I") (by decide +kernel)) (fun _ h9 => h9) rfl dX6_asked_1 ?_
  exact W.iret hx hb hr (fun t ht hW => ⟨⟨_, _, rfl, h, pw ht hP⟩, hS.F ht⟩) hS.2.2 dX6_asked_4
def p_X6_upper (x0 : Nat) (s : Sg) (Q : Int64 → Sg → Prop) : Prop := Q (gJ s x0 1) s
set_option maxHeartbeats 4000000 in
set_option maxRecDepth 100000 in
theorem c_X6_upper (l : Launch) (D : va_G) (cs : Cs) (ad : Nat → Nat) (x0 : Nat) (s0 : Sg) (Q : Int64 → Sg → Prop) (hk0 : kM x0 = 5) : Met l yX6_upper wsX6_upper { frames := 0, cells := 0, slots := 0, locals := 0 } (Pc0 bM D cs ad [.ref (ad x0)] s0 (p_X6_upper x0 s0 Q)) (QL bM D cs ad Q) 0 0 (fAd bM ad) := by
  refine Met.ofW (cc := cX6_upper) (maxL := 1) (ret := (some .long)) (by decide) rfl ?_
  intro p e s m args below meth c s₁ B0 hml hv
  obtain ⟨ha, hP, hE, h⟩ := hv
  have hx := B0.exec
  have hb := B0.bytes
  have hr := B0.returns
  have hts := atoms_spec (ws := wsX6_upper) B0.pre
  have hown : s.vm.findClass RX6 = some m.cls := findClass_of_methodNamed B0.named
  have hlocks := B0.notSynchronized
  have hi_X6 : ∀ w ∈ u_ws RX6 TX6 42, w ∈ wsX6_upper := by decide +kernel
  have hS : va_S (fAd bM ad) s.heap s.heap [] := va_S.rf
  have hl := lv_entry ([.ref (ad x0)]) (n := 1) (by first | exact Nat.le_of_ble_eq_true rfl | simp [lg_sl, re_cat, cat_i, cat_l, cat_r])
  rw [show entryFrame m args 1 = entryFrame m ([.ref (ad x0)] : List Value).toArray 1 by rw [ha], lg_entry_eq]
  generalize (lg_sl ([.ref (ad x0)]) ++ List.replicate (1 - (lg_sl ([.ref (ad x0)])).length) Slot.unset).toArray = ls at hl ⊢
  have hl : lv_has ls 1 [(0, .ref (ad x0))] := by first | exact hl | simpa [lv_args, re_cat, cat_i, cat_l, cat_r] using hl
  unfold p_X6_upper at h
  refine lv_aload_n hx hb dX6_upper_0 rfl (lv_at hl 0 rfl) ?_
  refine va_get (ci := 5) (v := .long (gJ s0 x0 1)) (C := RX6) (T := TX6) (N := 42) hx hb hts hi_X6 hown hE.1 hP x0 (w_5 hE hk0) rfl 1 (by decide) (hts (.fieldLink RX6 106 "HemLineModel" "up" "J") (by decide +kernel)) (fun _ h9 => h9) rfl dX6_upper_1 ?_
  exact W.lret hx hb hr (fun t ht hW => ⟨⟨_, _, rfl, h, pw ht hP⟩, hS.F ht⟩) hS.2.2 dX6_upper_4
def p_X6_lower (x0 : Nat) (s : Sg) (Q : Int64 → Sg → Prop) : Prop := Q (gJ s x0 2) s
set_option maxHeartbeats 4000000 in
set_option maxRecDepth 100000 in
theorem c_X6_lower (l : Launch) (D : va_G) (cs : Cs) (ad : Nat → Nat) (x0 : Nat) (s0 : Sg) (Q : Int64 → Sg → Prop) (hk0 : kM x0 = 5) : Met l yX6_lower wsX6_lower { frames := 0, cells := 0, slots := 0, locals := 0 } (Pc0 bM D cs ad [.ref (ad x0)] s0 (p_X6_lower x0 s0 Q)) (QL bM D cs ad Q) 0 0 (fAd bM ad) := by
  refine Met.ofW (cc := cX6_lower) (maxL := 1) (ret := (some .long)) (by decide) rfl ?_
  intro p e s m args below meth c s₁ B0 hml hv
  obtain ⟨ha, hP, hE, h⟩ := hv
  have hx := B0.exec
  have hb := B0.bytes
  have hr := B0.returns
  have hts := atoms_spec (ws := wsX6_lower) B0.pre
  have hown : s.vm.findClass RX6 = some m.cls := findClass_of_methodNamed B0.named
  have hlocks := B0.notSynchronized
  have hi_X6 : ∀ w ∈ u_ws RX6 TX6 42, w ∈ wsX6_lower := by decide +kernel
  have hS : va_S (fAd bM ad) s.heap s.heap [] := va_S.rf
  have hl := lv_entry ([.ref (ad x0)]) (n := 1) (by first | exact Nat.le_of_ble_eq_true rfl | simp [lg_sl, re_cat, cat_i, cat_l, cat_r])
  rw [show entryFrame m args 1 = entryFrame m ([.ref (ad x0)] : List Value).toArray 1 by rw [ha], lg_entry_eq]
  generalize (lg_sl ([.ref (ad x0)]) ++ List.replicate (1 - (lg_sl ([.ref (ad x0)])).length) Slot.unset).toArray = ls at hl ⊢
  have hl : lv_has ls 1 [(0, .ref (ad x0))] := by first | exact hl | simpa [lv_args, re_cat, cat_i, cat_l, cat_r] using hl
  unfold p_X6_lower at h
  refine lv_aload_n hx hb dX6_lower_0 rfl (lv_at hl 0 rfl) ?_
  refine va_get (ci := 5) (v := .long (gJ s0 x0 2)) (C := RX6) (T := TX6) (N := 42) hx hb hts hi_X6 hown hE.1 hP x0 (w_5 hE hk0) rfl 2 (by decide) (hts (.fieldLink RX6 95 "HemLineModel" "down" "J") (by decide +kernel)) (fun _ h9 => h9) rfl dX6_lower_1 ?_
  exact W.lret hx hb hr (fun t ht hW => ⟨⟨_, _, rfl, h, pw ht hP⟩, hS.F ht⟩) hS.2.2 dX6_lower_4
def p_X6_count_L82 (Q : Int32 → Sg → Prop)  : Nat → Nat → Int32 → Int32 → Sg → Prop
  | 0, _, _, _, _ => False
  | n + 1, x0, x2, x3, s => ((6 ≤ x3 → Q x2 s) ∧ (¬ 6 ≤ x3 → ∃ k2, tM x0 29 = some k2 ∧ kM k2 = 7 ∧ vp_in x3 (lM k2) ∧ p_X6_count_L82 Q  n x0 (x2 + (gR s k2 x3.toNatClampNeg)) (x3 + 1) s))
def p_X6_count_L107 (Q : Int32 → Sg → Prop)  : Nat → Nat → Int32 → Int32 → Sg → Prop
  | 0, _, _, _, _ => False
  | n + 1, x0, x2, x3, s => (((gI s x0 20) ≤ x3 → Q x2 s) ∧ (¬ (gI s x0 20) ≤ x3 → ∃ k2, tM x0 28 = some k2 ∧ kM k2 = 7 ∧ vp_in x3 (lM k2) ∧ p_X6_count_L107 Q  n x0 (x2 + (gR s k2 x3.toNatClampNeg)) (x3 + 1) s))
def p_X6_count_b184 (Q : Int32 → Sg → Prop) (K157 : Nat → Int32 → Int32 → Sg → Prop) (x0 : Nat) (x3 : Int32) (t0 : Int32) (t1 : Int32) (s : Sg) : Prop := K157 x0 (t0 + t1) (x3 + 1) s
def p_X6_count_L157 (Q : Int32 → Sg → Prop)  : Nat → Nat → Int32 → Int32 → Sg → Prop
  | 0, _, _, _, _ => False
  | n + 1, x0, x2, x3, s => (((gI s x0 20) ≤ x3 → Q x2 s) ∧ (¬ (gI s x0 20) ≤ x3 → ∃ k2, tM x0 21 = some k2 ∧ kM k2 = 7 ∧ vp_in x3 (lM k2) ∧ p_X6_isOf (gR s k2 x3.toNatClampNeg) 1 s (fun r7 s6 => ((r7 = 0 → p_X6_count_b184 Q (fun y0 y2 y3 u => p_X6_count_L157 Q  n y0 y2 y3 u) x0 x3 x2 0 s6) ∧ (¬ r7 = 0 → p_X6_count_b184 Q (fun y0 y2 y3 u => p_X6_count_L157 Q  n y0 y2 y3 u) x0 x3 x2 1 s6)))))
def p_X6_count_b217 (Q : Int32 → Sg → Prop) (K196 : Nat → Int32 → Int32 → Sg → Prop) (x0 : Nat) (x3 : Int32) (t0 : Int32) (t1 : Int32) (s : Sg) : Prop := K196 x0 (t0 + t1) (x3 + 1) s
def p_X6_count_L196 (Q : Int32 → Sg → Prop)  : Nat → Nat → Int32 → Int32 → Sg → Prop
  | 0, _, _, _, _ => False
  | n + 1, x0, x2, x3, s => ((6 ≤ x3 → Q x2 s) ∧ (¬ 6 ≤ x3 → ∃ k2, tM x0 6 = some k2 ∧ kM k2 = 7 ∧ vp_in x3 (lM k2) ∧ ((0 ≤ (gR s k2 x3.toNatClampNeg) → p_X6_count_b217 Q (fun y0 y2 y3 u => p_X6_count_L196 Q  n y0 y2 y3 u) x0 x3 x2 1 s) ∧ (¬ 0 ≤ (gR s k2 x3.toNatClampNeg) → p_X6_count_b217 Q (fun y0 y2 y3 u => p_X6_count_L196 Q  n y0 y2 y3 u) x0 x3 x2 0 s))))
def p_X6_count_b249 (Q : Int32 → Sg → Prop) (K229 : Nat → Int32 → Int32 → Sg → Prop) (x0 : Nat) (x3 : Int32) (t0 : Int32) (t1 : Int32) (s : Sg) : Prop := K229 x0 (t0 + t1) (x3 + 1) s
def p_X6_count_L229 (Q : Int32 → Sg → Prop)  : Nat → Nat → Int32 → Int32 → Sg → Prop
  | 0, _, _, _, _ => False
  | n + 1, x0, x2, x3, s => ((4 ≤ x3 → Q x2 s) ∧ (¬ 4 ≤ x3 → ∃ k2, tM x0 8 = some k2 ∧ kM k2 = 7 ∧ vp_in x3 (lM k2) ∧ ((0 ≤ (gR s k2 x3.toNatClampNeg) → p_X6_count_b249 Q (fun y0 y2 y3 u => p_X6_count_L229 Q  n y0 y2 y3 u) x0 x3 x2 1 s) ∧ (¬ 0 ≤ (gR s k2 x3.toNatClampNeg) → p_X6_count_b249 Q (fun y0 y2 y3 u => p_X6_count_L229 Q  n y0 y2 y3 u) x0 x3 x2 0 s))))
def p_X6_count_b281 (Q : Int32 → Sg → Prop) (K261 : Nat → Int32 → Int32 → Sg → Prop) (x0 : Nat) (x3 : Int32) (t0 : Int32) (t1 : Int32) (s : Sg) : Prop := K261 x0 (t0 + t1) (x3 + 1) s
def p_X6_count_L261 (Q : Int32 → Sg → Prop)  : Nat → Nat → Int32 → Int32 → Sg → Prop
  | 0, _, _, _, _ => False
  | n + 1, x0, x2, x3, s => ((3 ≤ x3 → Q x2 s) ∧ (¬ 3 ≤ x3 → ∃ k2, tM x0 38 = some k2 ∧ kM k2 = 7 ∧ vp_in x3 (lM k2) ∧ ((0 ≤ (gR s k2 x3.toNatClampNeg) → p_X6_count_b281 Q (fun y0 y2 y3 u => p_X6_count_L261 Q  n y0 y2 y3 u) x0 x3 x2 1 s) ∧ (¬ 0 ≤ (gR s k2 x3.toNatClampNeg) → p_X6_count_b281 Q (fun y0 y2 y3 u => p_X6_count_L261 Q  n y0 y2 y3 u) x0 x3 x2 0 s))))
def p_X6_count (x0 : Nat) (x1 : Int32) (s : Sg) (Q : Int32 → Sg → Prop) : Prop := ((x1 = 0 → Q (gI s x0 20) s) ∧ (¬ x1 = 0 → ((x1 = 1 → Q (gI s x0 31) s) ∧ (¬ x1 = 1 → ((x1 = 2 → Q (gI s x0 36) s) ∧ (¬ x1 = 2 → ((x1 = 3 → Q (gI s x0 30) s) ∧ (¬ x1 = 3 → ((x1 = 4 → (∃ n7, p_X6_count_L82 Q  n7 x0 0 0 s)) ∧ (¬ x1 = 4 → ((x1 = 5 → (∃ n9, p_X6_count_L107 Q  n9 x0 0 0 s)) ∧ (¬ x1 = 5 → ((x1 = 6 → (((gI s x0 31) = 0 → Q 0 s) ∧ (¬ (gI s x0 31) = 0 → ∃ k12, tM x0 32 = some k12 ∧ kM k12 = 7 ∧ vp_in ((gI s x0 31) - 1) (lM k12) ∧ Q (gR s k12 ((gI s x0 31) - 1).toNatClampNeg) s))) ∧ (¬ x1 = 6 → ((x1 = 7 → (∃ n17, p_X6_count_L157 Q  n17 x0 0 0 s)) ∧ (¬ x1 = 7 → ((x1 = 8 → (∃ n19, p_X6_count_L196 Q  n19 x0 0 0 s)) ∧ (¬ x1 = 8 → ((x1 = 9 → (∃ n21, p_X6_count_L229 Q  n21 x0 0 0 s)) ∧ (¬ x1 = 9 → ((x1 = 10 → (∃ n23, p_X6_count_L261 Q  n23 x0 0 0 s)) ∧ (¬ x1 = 10 → Q ((-1)) s))))))))))))))))))))))
set_option maxHeartbeats 4000000 in
set_option maxRecDepth 100000 in
theorem c_X6_count (l : Launch) (D : va_G) (cs : Cs) (ad : Nat → Nat) (x0 : Nat) (x1 : Int32) (s0 : Sg) (Q : Int32 → Sg → Prop) (hk0 : kM x0 = 5) : Met l yX6_count wsX6_count { frames := 1, cells := 0, slots := 0, locals := 21 } (Pc0 bM D cs ad [.ref (ad x0), .int x1] s0 (p_X6_count x0 x1 s0 Q)) (QI bM D cs ad Q) 0 0 (fAd bM ad) := by
  refine Met.ofW (cc := cX6_count) (maxL := 4) (ret := (some .int)) (by decide) rfl ?_
  intro p e s m args below meth c s₁ B0 hml hv
  obtain ⟨ha, hP, hE, h⟩ := hv
  have hx := B0.exec
  have hb := B0.bytes
  have hr := B0.returns
  have hts := atoms_spec (ws := wsX6_count) B0.pre
  have hown : s.vm.findClass RX6 = some m.cls := findClass_of_methodNamed B0.named
  have hlocks := B0.notSynchronized
  have hi_X6 : ∀ w ∈ u_ws RX6 TX6 42, w ∈ wsX6_count := by decide +kernel
  have hS : va_S (fAd bM ad) s.heap s.heap [] := va_S.rf
  have hl := lv_entry ([.ref (ad x0), .int x1]) (n := 4) (by first | exact Nat.le_of_ble_eq_true rfl | simp [lg_sl, re_cat, cat_i, cat_l, cat_r])
  rw [show entryFrame m args 4 = entryFrame m ([.ref (ad x0), .int x1] : List Value).toArray 4 by rw [ha], lg_entry_eq]
  generalize (lg_sl ([.ref (ad x0), .int x1]) ++ List.replicate (4 - (lg_sl ([.ref (ad x0), .int x1])).length) Slot.unset).toArray = ls at hl ⊢
  have hl : lv_has ls 4 [(0, .ref (ad x0)), (1, .int x1)] := by first | exact hl | simpa [lv_args, re_cat, cat_i, cat_l, cat_r] using hl
  have hB82 : ∀ (n82 : Nat) (x2 : Int32) (x3 : Int32) (σ : Sg) (H : Heap) (locs : List Loc) (ls : Array Slot), p_X6_count_L82 Q  n82 x0 x2 x3 σ → va_P D vwCl (wl bM cs ad σ) H → va_S (fAd bM ad) s.heap H locs → lv_has ls 4 [(0, .ref (ad x0)), (2, .int x2), (3, .int x3)] → W p l e { frames := 1, cells := 0, slots := 0, locals := 21 } s m args below meth c H locs 0 0 (MQ below (QI bM D cs ad Q) args s 0 0 (fAd bM ad)) (F0 m 82 ls []) := by
    intro n82
    induction n82 with
    | zero =>
      intro x2 x3 σ H locs ls h
      exact h.elim
    | succ n82 ih =>
      have hK82 := ih
      intro x2 x3 σ H locs ls h hP hS hl
      rw [p_X6_count_L82] at h
      refine lv_iload_n hx hb dX6_count_82 rfl (lv_at hl 2 rfl) ?_
      refine lv_bipush (v := 6) hx hb dX6_count_83 (by decide) ?_
      refine lv_icmp_ge (tgt := 103) hx hb dX6_count_85 (by decide) (fun c1 => ?_) (fun c1 => ?_)
      · replace h := h.1 c1
        refine lv_iload_n hx hb dX6_count_103 rfl (lv_at hl 1 rfl) ?_
        exact W.iret hx hb hr (fun t ht hW => ⟨⟨_, _, rfl, h, pw ht hP⟩, hS.F ht⟩) hS.2.2 dX6_count_104
      · replace h := h.2 c1
        refine lv_iload_n hx hb dX6_count_88 rfl (lv_at hl 1 rfl) ?_
        refine lv_aload_n hx hb dX6_count_89 rfl (lv_at hl 0 rfl) ?_
        refine va_get (ci := 5) (v := va_re ad (tM x0 29)) (C := RX6) (T := TX6) (N := 42) hx hb hts hi_X6 hown hE.1 hP x0 (w_5 hE hk0) rfl 29 (by decide) (hts (.fieldLink RX6 65 "HemLineModel" "ground" "[I") (by decide +kernel)) (fun _ h9 => h9) rfl dX6_count_90 ?_
        refine lv_iload_n hx hb dX6_count_93 rfl (lv_at hl 2 rfl) ?_
        obtain ⟨k2, e3, q4, i5, h⟩ := h
        refine r_iald hx hb hE hP e3 q4 i5 dX6_count_94 ?_
        refine lv_iadd hx hb dX6_count_95 ?_
        refine lv_istore_n (i := 2) (lv' := [(2, .int (x2 + (gR σ k2 x3.toNatClampNeg))), (0, .ref (ad x0)), (3, .int x3)]) hx hb dX6_count_96 rfl hl (by decide) (by first | rfl | simp [re_cat, cat_i, cat_l, cat_r]) (fun ls hl => ?_)
        refine lv_iinc (v := x3 + 1) (lv' := [(3, .int (x3 + 1)), (2, .int (x2 + (gR σ k2 x3.toNatClampNeg))), (0, .ref (ad x0))]) hx hb dX6_count_97 hl (k := 2) rfl rfl (by decide) (by first | rfl | simp [re_cat, cat_i, cat_l, cat_r]) (fun ls hl => ?_)
        refine lv_goto (tgt := 82) hx hb dX6_count_100 (by decide) ?_
        exact ih (x2 + (gR σ k2 x3.toNatClampNeg)) (x3 + 1) σ H locs ls h hP hS (lv_sub hl [2, 1, 0] rfl)
  have hB107 : ∀ (n107 : Nat) (x2 : Int32) (x3 : Int32) (σ : Sg) (H : Heap) (locs : List Loc) (ls : Array Slot), p_X6_count_L107 Q  n107 x0 x2 x3 σ → va_P D vwCl (wl bM cs ad σ) H → va_S (fAd bM ad) s.heap H locs → lv_has ls 4 [(0, .ref (ad x0)), (2, .int x2), (3, .int x3)] → W p l e { frames := 1, cells := 0, slots := 0, locals := 21 } s m args below meth c H locs 0 0 (MQ below (QI bM D cs ad Q) args s 0 0 (fAd bM ad)) (F0 m 107 ls []) := by
    intro n107
    induction n107 with
    | zero =>
      intro x2 x3 σ H locs ls h
      exact h.elim
    | succ n107 ih =>
      have hK107 := ih
      intro x2 x3 σ H locs ls h hP hS hl
      rw [p_X6_count_L107] at h
      refine lv_iload_n hx hb dX6_count_107 rfl (lv_at hl 2 rfl) ?_
      refine lv_aload_n hx hb dX6_count_108 rfl (lv_at hl 0 rfl) ?_
      refine va_get (ci := 5) (v := .int (gI σ x0 20)) (C := RX6) (T := TX6) (N := 42) hx hb hts hi_X6 hown hE.1 hP x0 (w_5 hE hk0) rfl 20 (by decide) (hts (.fieldLink RX6 167 "HemLineModel" "women" "I") (by decide +kernel)) (fun _ h9 => h9) rfl dX6_count_109 ?_
      refine lv_icmp_ge (tgt := 130) hx hb dX6_count_112 (by decide) (fun c1 => ?_) (fun c1 => ?_)
      · replace h := h.1 c1
        refine lv_iload_n hx hb dX6_count_130 rfl (lv_at hl 1 rfl) ?_
        exact W.iret hx hb hr (fun t ht hW => ⟨⟨_, _, rfl, h, pw ht hP⟩, hS.F ht⟩) hS.2.2 dX6_count_131
      · replace h := h.2 c1
        refine lv_iload_n hx hb dX6_count_115 rfl (lv_at hl 1 rfl) ?_
        refine lv_aload_n hx hb dX6_count_116 rfl (lv_at hl 0 rfl) ?_
        refine va_get (ci := 5) (v := va_re ad (tM x0 28)) (C := RX6) (T := TX6) (N := 42) hx hb hts hi_X6 hown hE.1 hP x0 (w_5 hE hk0) rfl 28 (by decide) (hts (.fieldLink RX6 62 "HemLineModel" "tuck" "[I") (by decide +kernel)) (fun _ h9 => h9) rfl dX6_count_117 ?_
        refine lv_iload_n hx hb dX6_count_120 rfl (lv_at hl 2 rfl) ?_
        obtain ⟨k2, e3, q4, i5, h⟩ := h
        refine r_iald hx hb hE hP e3 q4 i5 dX6_count_121 ?_
        refine lv_iadd hx hb dX6_count_122 ?_
        refine lv_istore_n (i := 2) (lv' := [(2, .int (x2 + (gR σ k2 x3.toNatClampNeg))), (0, .ref (ad x0)), (3, .int x3)]) hx hb dX6_count_123 rfl hl (by decide) (by first | rfl | simp [re_cat, cat_i, cat_l, cat_r]) (fun ls hl => ?_)
        refine lv_iinc (v := x3 + 1) (lv' := [(3, .int (x3 + 1)), (2, .int (x2 + (gR σ k2 x3.toNatClampNeg))), (0, .ref (ad x0))]) hx hb dX6_count_124 hl (k := 2) rfl rfl (by decide) (by first | rfl | simp [re_cat, cat_i, cat_l, cat_r]) (fun ls hl => ?_)
        refine lv_goto (tgt := 107) hx hb dX6_count_127 (by decide) ?_
        exact ih (x2 + (gR σ k2 x3.toNatClampNeg)) (x3 + 1) σ H locs ls h hP hS (lv_sub hl [2, 1, 0] rfl)
  have hB157 : ∀ (n157 : Nat) (x2 : Int32) (x3 : Int32) (σ : Sg) (H : Heap) (locs : List Loc) (ls : Array Slot), p_X6_count_L157 Q  n157 x0 x2 x3 σ → va_P D vwCl (wl bM cs ad σ) H → va_S (fAd bM ad) s.heap H locs → lv_has ls 4 [(0, .ref (ad x0)), (2, .int x2), (3, .int x3)] → W p l e { frames := 1, cells := 0, slots := 0, locals := 21 } s m args below meth c H locs 0 0 (MQ below (QI bM D cs ad Q) args s 0 0 (fAd bM ad)) (F0 m 157 ls []) := by
    intro n157
    induction n157 with
    | zero =>
      intro x2 x3 σ H locs ls h
      exact h.elim
    | succ n157 ih =>
      have hK157 := ih
      have hB184 : ∀ (x3 : Int32) (t0 : Int32) (t1 : Int32) (σ : Sg) (H : Heap) (locs : List Loc) (ls : Array Slot), p_X6_count_b184 Q (fun y0 y2 y3 u => p_X6_count_L157 Q  n157 y0 y2 y3 u) x0 x3 t0 t1 σ → va_P D vwCl (wl bM cs ad σ) H → va_S (fAd bM ad) s.heap H locs → lv_has ls 4 [(0, .ref (ad x0)), (3, .int x3)] → W p l e { frames := 1, cells := 0, slots := 0, locals := 21 } s m args below meth c H locs 0 0 (MQ below (QI bM D cs ad Q) args s 0 0 (fAd bM ad)) (F0 m 184 ls [.int t1, .int t0]) := by
        intro x3 t0 t1 σ H locs ls h hP hS hl
        unfold p_X6_count_b184 at h
        refine lv_iadd hx hb dX6_count_184 ?_
        refine lv_istore_n (i := 2) (lv' := [(2, .int (t0 + t1)), (0, .ref (ad x0)), (3, .int x3)]) hx hb dX6_count_185 rfl hl (by decide) (by first | rfl | simp [re_cat, cat_i, cat_l, cat_r]) (fun ls hl => ?_)
        refine lv_iinc (v := x3 + 1) (lv' := [(3, .int (x3 + 1)), (2, .int (t0 + t1)), (0, .ref (ad x0))]) hx hb dX6_count_186 hl (k := 2) rfl rfl (by decide) (by first | rfl | simp [re_cat, cat_i, cat_l, cat_r]) (fun ls hl => ?_)
        refine lv_goto (tgt := 157) hx hb dX6_count_189 (by decide) ?_
        exact hK157 (t0 + t1) (x3 + 1) σ H locs ls h hP hS (lv_sub hl [2, 1, 0] rfl)
      intro x2 x3 σ H locs ls h hP hS hl
      rw [p_X6_count_L157] at h
      refine lv_iload_n hx hb dX6_count_157 rfl (lv_at hl 2 rfl) ?_
      refine lv_aload_n hx hb dX6_count_158 rfl (lv_at hl 0 rfl) ?_
      refine va_get (ci := 5) (v := .int (gI σ x0 20)) (C := RX6) (T := TX6) (N := 42) hx hb hts hi_X6 hown hE.1 hP x0 (w_5 hE hk0) rfl 20 (by decide) (hts (.fieldLink RX6 167 "HemLineModel" "women" "I") (by decide +kernel)) (fun _ h9 => h9) rfl dX6_count_159 ?_
      refine lv_icmp_ge (tgt := 192) hx hb dX6_count_162 (by decide) (fun c1 => ?_) (fun c1 => ?_)
      · replace h := h.1 c1
        refine lv_iload_n hx hb dX6_count_192 rfl (lv_at hl 1 rfl) ?_
        exact W.iret hx hb hr (fun t ht hW => ⟨⟨_, _, rfl, h, pw ht hP⟩, hS.F ht⟩) hS.2.2 dX6_count_193
      · replace h := h.2 c1
        refine lv_iload_n hx hb dX6_count_165 rfl (lv_at hl 1 rfl) ?_
        refine lv_aload_n hx hb dX6_count_166 rfl (lv_at hl 0 rfl) ?_
        refine va_get (ci := 5) (v := va_re ad (tM x0 21)) (C := RX6) (T := TX6) (N := 42) hx hb hts hi_X6 hown hE.1 hP x0 (w_5 hE hk0) rfl 21 (by decide) (hts (.fieldLink RX6 44 "HemLineModel" "kind" "[I") (by decide +kernel)) (fun _ h9 => h9) rfl dX6_count_167 ?_
        refine lv_iload_n hx hb dX6_count_170 rfl (lv_at hl 2 rfl) ?_
        obtain ⟨k2, e3, q4, i5, h⟩ := h
        refine r_iald hx hb hE hP e3 q4 i5 dX6_count_171 ?_
        refine lv_iconst (v := 1) hx hb dX6_count_172 (by decide) ?_
        refine f_i (kS (As := [.int (gR σ k2 x3.toNatClampNeg), .int 1]) (rest := [.int x2]) ⟨hx, hb, hml, hown, hts⟩ (c_X6_isOf l D cs ad (gR σ k2 x3.toNatClampNeg) 1 σ _) (va_cwS 2 hts gX6_count_X6_isOf rfl rfl rfl (by decide +kernel) ⟨Nat.le_of_ble_eq_true rfl, Nat.le_of_ble_eq_true rfl⟩) hE hP h rfl hl.1 rfl (by first | exact lv_room (Nat.le_of_ble_eq_true rfl) | (refine lv_room ?_; simp [re_cat, cat_i, cat_l, cat_r])) dX6_count_173 ⟨Nat.le_refl _, Nat.le_refl _⟩) hS (fun r7 s6 H locs h hP hS => ?_)
        refine lv_if_eq (tgt := 183) hx hb dX6_count_176 (by decide) (fun c8 => ?_) (fun c8 => ?_)
        · replace h := h.1 c8
          refine lv_iconst (v := 0) hx hb dX6_count_183 (by decide) ?_
          exact hB184 x3 x2 0 s6 H locs ls h hP hS (lv_sub hl [0, 2] rfl)
        · replace h := h.2 c8
          refine lv_iconst (v := 1) hx hb dX6_count_179 (by decide) ?_
          refine lv_goto (tgt := 184) hx hb dX6_count_180 (by decide) ?_
          exact hB184 x3 x2 1 s6 H locs ls h hP hS (lv_sub hl [0, 2] rfl)
  have hB196 : ∀ (n196 : Nat) (x2 : Int32) (x3 : Int32) (σ : Sg) (H : Heap) (locs : List Loc) (ls : Array Slot), p_X6_count_L196 Q  n196 x0 x2 x3 σ → va_P D vwCl (wl bM cs ad σ) H → va_S (fAd bM ad) s.heap H locs → lv_has ls 4 [(0, .ref (ad x0)), (2, .int x2), (3, .int x3)] → W p l e { frames := 1, cells := 0, slots := 0, locals := 21 } s m args below meth c H locs 0 0 (MQ below (QI bM D cs ad Q) args s 0 0 (fAd bM ad)) (F0 m 196 ls []) := by
    intro n196
    induction n196 with
    | zero =>
      intro x2 x3 σ H locs ls h
      exact h.elim
    | succ n196 ih =>
      have hK196 := ih
      have hB217 : ∀ (x3 : Int32) (t0 : Int32) (t1 : Int32) (σ : Sg) (H : Heap) (locs : List Loc) (ls : Array Slot), p_X6_count_b217 Q (fun y0 y2 y3 u => p_X6_count_L196 Q  n196 y0 y2 y3 u) x0 x3 t0 t1 σ → va_P D vwCl (wl bM cs ad σ) H → va_S (fAd bM ad) s.heap H locs → lv_has ls 4 [(0, .ref (ad x0)), (3, .int x3)] → W p l e { frames := 1, cells := 0, slots := 0, locals := 21 } s m args below meth c H locs 0 0 (MQ below (QI bM D cs ad Q) args s 0 0 (fAd bM ad)) (F0 m 217 ls [.int t1, .int t0]) := by
        intro x3 t0 t1 σ H locs ls h hP hS hl
        unfold p_X6_count_b217 at h
        refine lv_iadd hx hb dX6_count_217 ?_
        refine lv_istore_n (i := 2) (lv' := [(2, .int (t0 + t1)), (0, .ref (ad x0)), (3, .int x3)]) hx hb dX6_count_218 rfl hl (by decide) (by first | rfl | simp [re_cat, cat_i, cat_l, cat_r]) (fun ls hl => ?_)
        refine lv_iinc (v := x3 + 1) (lv' := [(3, .int (x3 + 1)), (2, .int (t0 + t1)), (0, .ref (ad x0))]) hx hb dX6_count_219 hl (k := 2) rfl rfl (by decide) (by first | rfl | simp [re_cat, cat_i, cat_l, cat_r]) (fun ls hl => ?_)
        refine lv_goto (tgt := 196) hx hb dX6_count_222 (by decide) ?_
        exact hK196 (t0 + t1) (x3 + 1) σ H locs ls h hP hS (lv_sub hl [2, 1, 0] rfl)
      intro x2 x3 σ H locs ls h hP hS hl
      rw [p_X6_count_L196] at h
      refine lv_iload_n hx hb dX6_count_196 rfl (lv_at hl 2 rfl) ?_
      refine lv_bipush (v := 6) hx hb dX6_count_197 (by decide) ?_
      refine lv_icmp_ge (tgt := 225) hx hb dX6_count_199 (by decide) (fun c1 => ?_) (fun c1 => ?_)
      · replace h := h.1 c1
        refine lv_iload_n hx hb dX6_count_225 rfl (lv_at hl 1 rfl) ?_
        exact W.iret hx hb hr (fun t ht hW => ⟨⟨_, _, rfl, h, pw ht hP⟩, hS.F ht⟩) hS.2.2 dX6_count_226
      · replace h := h.2 c1
        refine lv_iload_n hx hb dX6_count_202 rfl (lv_at hl 1 rfl) ?_
        refine lv_aload_n hx hb dX6_count_203 rfl (lv_at hl 0 rfl) ?_
        refine va_get (ci := 5) (v := va_re ad (tM x0 6)) (C := RX6) (T := TX6) (N := 42) hx hb hts hi_X6 hown hE.1 hP x0 (w_5 hE hk0) rfl 6 (by decide) (hts (.fieldLink RX6 16 "HemLineModel" "rowSize" "[I") (by decide +kernel)) (fun _ h9 => h9) rfl dX6_count_204 ?_
        refine lv_iload_n hx hb dX6_count_207 rfl (lv_at hl 2 rfl) ?_
        obtain ⟨k2, e3, q4, i5, h⟩ := h
        refine r_iald hx hb hE hP e3 q4 i5 dX6_count_208 ?_
        refine lv_if_ge (tgt := 216) hx hb dX6_count_209 (by decide) (fun c6 => ?_) (fun c6 => ?_)
        · replace h := h.1 c6
          refine lv_iconst (v := 1) hx hb dX6_count_216 (by decide) ?_
          exact hB217 x3 x2 1 σ H locs ls h hP hS (lv_sub hl [0, 2] rfl)
        · replace h := h.2 c6
          refine lv_iconst (v := 0) hx hb dX6_count_212 (by decide) ?_
          refine lv_goto (tgt := 217) hx hb dX6_count_213 (by decide) ?_
          exact hB217 x3 x2 0 σ H locs ls h hP hS (lv_sub hl [0, 2] rfl)
  have hB229 : ∀ (n229 : Nat) (x2 : Int32) (x3 : Int32) (σ : Sg) (H : Heap) (locs : List Loc) (ls : Array Slot), p_X6_count_L229 Q  n229 x0 x2 x3 σ → va_P D vwCl (wl bM cs ad σ) H → va_S (fAd bM ad) s.heap H locs → lv_has ls 4 [(0, .ref (ad x0)), (2, .int x2), (3, .int x3)] → W p l e { frames := 1, cells := 0, slots := 0, locals := 21 } s m args below meth c H locs 0 0 (MQ below (QI bM D cs ad Q) args s 0 0 (fAd bM ad)) (F0 m 229 ls []) := by
    intro n229
    induction n229 with
    | zero =>
      intro x2 x3 σ H locs ls h
      exact h.elim
    | succ n229 ih =>
      have hK229 := ih
      have hB249 : ∀ (x3 : Int32) (t0 : Int32) (t1 : Int32) (σ : Sg) (H : Heap) (locs : List Loc) (ls : Array Slot), p_X6_count_b249 Q (fun y0 y2 y3 u => p_X6_count_L229 Q  n229 y0 y2 y3 u) x0 x3 t0 t1 σ → va_P D vwCl (wl bM cs ad σ) H → va_S (fAd bM ad) s.heap H locs → lv_has ls 4 [(0, .ref (ad x0)), (3, .int x3)] → W p l e { frames := 1, cells := 0, slots := 0, locals := 21 } s m args below meth c H locs 0 0 (MQ below (QI bM D cs ad Q) args s 0 0 (fAd bM ad)) (F0 m 249 ls [.int t1, .int t0]) := by
        intro x3 t0 t1 σ H locs ls h hP hS hl
        unfold p_X6_count_b249 at h
        refine lv_iadd hx hb dX6_count_249 ?_
        refine lv_istore_n (i := 2) (lv' := [(2, .int (t0 + t1)), (0, .ref (ad x0)), (3, .int x3)]) hx hb dX6_count_250 rfl hl (by decide) (by first | rfl | simp [re_cat, cat_i, cat_l, cat_r]) (fun ls hl => ?_)
        refine lv_iinc (v := x3 + 1) (lv' := [(3, .int (x3 + 1)), (2, .int (t0 + t1)), (0, .ref (ad x0))]) hx hb dX6_count_251 hl (k := 2) rfl rfl (by decide) (by first | rfl | simp [re_cat, cat_i, cat_l, cat_r]) (fun ls hl => ?_)
        refine lv_goto (tgt := 229) hx hb dX6_count_254 (by decide) ?_
        exact hK229 (t0 + t1) (x3 + 1) σ H locs ls h hP hS (lv_sub hl [2, 1, 0] rfl)
      intro x2 x3 σ H locs ls h hP hS hl
      rw [p_X6_count_L229] at h
      refine lv_iload_n hx hb dX6_count_229 rfl (lv_at hl 2 rfl) ?_
      refine lv_iconst (v := 4) hx hb dX6_count_230 (by decide) ?_
      refine lv_icmp_ge (tgt := 257) hx hb dX6_count_231 (by decide) (fun c1 => ?_) (fun c1 => ?_)
      · replace h := h.1 c1
        refine lv_iload_n hx hb dX6_count_257 rfl (lv_at hl 1 rfl) ?_
        exact W.iret hx hb hr (fun t ht hW => ⟨⟨_, _, rfl, h, pw ht hP⟩, hS.F ht⟩) hS.2.2 dX6_count_258
      · replace h := h.2 c1
        refine lv_iload_n hx hb dX6_count_234 rfl (lv_at hl 1 rfl) ?_
        refine lv_aload_n hx hb dX6_count_235 rfl (lv_at hl 0 rfl) ?_
        refine va_get (ci := 5) (v := va_re ad (tM x0 8)) (C := RX6) (T := TX6) (N := 42) hx hb hts hi_X6 hown hE.1 hP x0 (w_5 hE hk0) rfl 8 (by decide) (hts (.fieldLink RX6 23 "HemLineModel" "textSize" "[I") (by decide +kernel)) (fun _ h9 => h9) rfl dX6_count_236 ?_
        refine lv_iload_n hx hb dX6_count_239 rfl (lv_at hl 2 rfl) ?_
        obtain ⟨k2, e3, q4, i5, h⟩ := h
        refine r_iald hx hb hE hP e3 q4 i5 dX6_count_240 ?_
        refine lv_if_ge (tgt := 248) hx hb dX6_count_241 (by decide) (fun c6 => ?_) (fun c6 => ?_)
        · replace h := h.1 c6
          refine lv_iconst (v := 1) hx hb dX6_count_248 (by decide) ?_
          exact hB249 x3 x2 1 σ H locs ls h hP hS (lv_sub hl [0, 2] rfl)
        · replace h := h.2 c6
          refine lv_iconst (v := 0) hx hb dX6_count_244 (by decide) ?_
          refine lv_goto (tgt := 249) hx hb dX6_count_245 (by decide) ?_
          exact hB249 x3 x2 0 σ H locs ls h hP hS (lv_sub hl [0, 2] rfl)
  have hB261 : ∀ (n261 : Nat) (x2 : Int32) (x3 : Int32) (σ : Sg) (H : Heap) (locs : List Loc) (ls : Array Slot), p_X6_count_L261 Q  n261 x0 x2 x3 σ → va_P D vwCl (wl bM cs ad σ) H → va_S (fAd bM ad) s.heap H locs → lv_has ls 4 [(0, .ref (ad x0)), (2, .int x2), (3, .int x3)] → W p l e { frames := 1, cells := 0, slots := 0, locals := 21 } s m args below meth c H locs 0 0 (MQ below (QI bM D cs ad Q) args s 0 0 (fAd bM ad)) (F0 m 261 ls []) := by
    intro n261
    induction n261 with
    | zero =>
      intro x2 x3 σ H locs ls h
      exact h.elim
    | succ n261 ih =>
      have hK261 := ih
      have hB281 : ∀ (x3 : Int32) (t0 : Int32) (t1 : Int32) (σ : Sg) (H : Heap) (locs : List Loc) (ls : Array Slot), p_X6_count_b281 Q (fun y0 y2 y3 u => p_X6_count_L261 Q  n261 y0 y2 y3 u) x0 x3 t0 t1 σ → va_P D vwCl (wl bM cs ad σ) H → va_S (fAd bM ad) s.heap H locs → lv_has ls 4 [(0, .ref (ad x0)), (3, .int x3)] → W p l e { frames := 1, cells := 0, slots := 0, locals := 21 } s m args below meth c H locs 0 0 (MQ below (QI bM D cs ad Q) args s 0 0 (fAd bM ad)) (F0 m 281 ls [.int t1, .int t0]) := by
        intro x3 t0 t1 σ H locs ls h hP hS hl
        unfold p_X6_count_b281 at h
        refine lv_iadd hx hb dX6_count_281 ?_
        refine lv_istore_n (i := 2) (lv' := [(2, .int (t0 + t1)), (0, .ref (ad x0)), (3, .int x3)]) hx hb dX6_count_282 rfl hl (by decide) (by first | rfl | simp [re_cat, cat_i, cat_l, cat_r]) (fun ls hl => ?_)
        refine lv_iinc (v := x3 + 1) (lv' := [(3, .int (x3 + 1)), (2, .int (t0 + t1)), (0, .ref (ad x0))]) hx hb dX6_count_283 hl (k := 2) rfl rfl (by decide) (by first | rfl | simp [re_cat, cat_i, cat_l, cat_r]) (fun ls hl => ?_)
        refine lv_goto (tgt := 261) hx hb dX6_count_286 (by decide) ?_
        exact hK261 (t0 + t1) (x3 + 1) σ H locs ls h hP hS (lv_sub hl [2, 1, 0] rfl)
      intro x2 x3 σ H locs ls h hP hS hl
      rw [p_X6_count_L261] at h
      refine lv_iload_n hx hb dX6_count_261 rfl (lv_at hl 2 rfl) ?_
      refine lv_iconst (v := 3) hx hb dX6_count_262 (by decide) ?_
      refine lv_icmp_ge (tgt := 289) hx hb dX6_count_263 (by decide) (fun c1 => ?_) (fun c1 => ?_)
      · replace h := h.1 c1
        refine lv_iload_n hx hb dX6_count_289 rfl (lv_at hl 1 rfl) ?_
        exact W.iret hx hb hr (fun t ht hW => ⟨⟨_, _, rfl, h, pw ht hP⟩, hS.F ht⟩) hS.2.2 dX6_count_290
      · replace h := h.2 c1
        refine lv_iload_n hx hb dX6_count_266 rfl (lv_at hl 1 rfl) ?_
        refine lv_aload_n hx hb dX6_count_267 rfl (lv_at hl 0 rfl) ?_
        refine va_get (ci := 5) (v := va_re ad (tM x0 38)) (C := RX6) (T := TX6) (N := 42) hx hb hts hi_X6 hown hE.1 hP x0 (w_5 hE hk0) rfl 38 (by decide) (hts (.fieldLink RX6 83 "HemLineModel" "keptDeeds" "[I") (by decide +kernel)) (fun _ h9 => h9) rfl dX6_count_268 ?_
        refine lv_iload_n hx hb dX6_count_271 rfl (lv_at hl 2 rfl) ?_
        obtain ⟨k2, e3, q4, i5, h⟩ := h
        refine r_iald hx hb hE hP e3 q4 i5 dX6_count_272 ?_
        refine lv_if_ge (tgt := 280) hx hb dX6_count_273 (by decide) (fun c6 => ?_) (fun c6 => ?_)
        · replace h := h.1 c6
          refine lv_iconst (v := 1) hx hb dX6_count_280 (by decide) ?_
          exact hB281 x3 x2 1 σ H locs ls h hP hS (lv_sub hl [0, 2] rfl)
        · replace h := h.2 c6
          refine lv_iconst (v := 0) hx hb dX6_count_276 (by decide) ?_
          refine lv_goto (tgt := 281) hx hb dX6_count_277 (by decide) ?_
          exact hB281 x3 x2 0 σ H locs ls h hP hS (lv_sub hl [0, 2] rfl)
  unfold p_X6_count at h
  refine lv_iconst (v := 0) hx hb dX6_count_0 (by decide) ?_
  refine lv_istore_n (i := 2) (lv' := [(2, .int 0), (0, .ref (ad x0)), (1, .int x1)]) hx hb dX6_count_1 rfl hl (by decide) (by first | rfl | simp [re_cat, cat_i, cat_l, cat_r]) (fun ls hl => ?_)
  refine lv_iload_n hx hb dX6_count_2 rfl (lv_at hl 2 rfl) ?_
  by_cases c2 : x1 = 0
  · replace h := h.1 c2
    refine lv_tableIn (off := 57) (tgt := 60) hx hb dX6_count_3 (by rw [c2]; decide) (by rw [c2]; decide) (by rw [c2]; decide) (by decide) ?_
    refine lv_aload_n hx hb dX6_count_60 rfl (lv_at hl 1 rfl) ?_
    refine va_get (ci := 5) (v := .int (gI s0 x0 20)) (C := RX6) (T := TX6) (N := 42) hx hb hts hi_X6 hown hE.1 hP x0 (w_5 hE hk0) rfl 20 (by decide) (hts (.fieldLink RX6 167 "HemLineModel" "women" "I") (by decide +kernel)) (fun _ h9 => h9) rfl dX6_count_61 ?_
    exact W.iret hx hb hr (fun t ht hW => ⟨⟨_, _, rfl, h, pw ht hP⟩, hS.F ht⟩) hS.2.2 dX6_count_64
  replace h := h.2 c2
  by_cases c3 : x1 = 1
  · replace h := h.1 c3
    refine lv_tableIn (off := 62) (tgt := 65) hx hb dX6_count_3 (by rw [c3]; decide) (by rw [c3]; decide) (by rw [c3]; decide) (by decide) ?_
    refine lv_aload_n hx hb dX6_count_65 rfl (lv_at hl 1 rfl) ?_
    refine va_get (ci := 5) (v := .int (gI s0 x0 31)) (C := RX6) (T := TX6) (N := 42) hx hb hts hi_X6 hown hE.1 hP x0 (w_5 hE hk0) rfl 31 (by decide) (hts (.fieldLink RX6 185 "HemLineModel" "years" "I") (by decide +kernel)) (fun _ h9 => h9) rfl dX6_count_66 ?_
    exact W.iret hx hb hr (fun t ht hW => ⟨⟨_, _, rfl, h, pw ht hP⟩, hS.F ht⟩) hS.2.2 dX6_count_69
  replace h := h.2 c3
  by_cases c4 : x1 = 2
  · replace h := h.1 c4
    refine lv_tableIn (off := 67) (tgt := 70) hx hb dX6_count_3 (by rw [c4]; decide) (by rw [c4]; decide) (by rw [c4]; decide) (by decide) ?_
    refine lv_aload_n hx hb dX6_count_70 rfl (lv_at hl 1 rfl) ?_
    refine va_get (ci := 5) (v := .int (gI s0 x0 36)) (C := RX6) (T := TX6) (N := 42) hx hb hts hi_X6 hown hE.1 hP x0 (w_5 hE hk0) rfl 36 (by decide) (hts (.fieldLink RX6 173 "HemLineModel" "deeds" "I") (by decide +kernel)) (fun _ h9 => h9) rfl dX6_count_71 ?_
    exact W.iret hx hb hr (fun t ht hW => ⟨⟨_, _, rfl, h, pw ht hP⟩, hS.F ht⟩) hS.2.2 dX6_count_74
  replace h := h.2 c4
  by_cases c5 : x1 = 3
  · replace h := h.1 c5
    refine lv_tableIn (off := 72) (tgt := 75) hx hb dX6_count_3 (by rw [c5]; decide) (by rw [c5]; decide) (by rw [c5]; decide) (by decide) ?_
    refine lv_aload_n hx hb dX6_count_75 rfl (lv_at hl 1 rfl) ?_
    refine va_get (ci := 5) (v := .int (gI s0 x0 30)) (C := RX6) (T := TX6) (N := 42) hx hb hts hi_X6 hown hE.1 hP x0 (w_5 hE hk0) rfl 30 (by decide) (hts (.fieldLink RX6 196 "HemLineModel" "earth" "I") (by decide +kernel)) (fun _ h9 => h9) rfl dX6_count_76 ?_
    exact W.iret hx hb hr (fun t ht hW => ⟨⟨_, _, rfl, h, pw ht hP⟩, hS.F ht⟩) hS.2.2 dX6_count_79
  replace h := h.2 c5
  by_cases c6 : x1 = 4
  · replace h := h.1 c6
    refine lv_tableIn (off := 77) (tgt := 80) hx hb dX6_count_3 (by rw [c6]; decide) (by rw [c6]; decide) (by rw [c6]; decide) (by decide) ?_
    refine lv_iconst (v := 0) hx hb dX6_count_80 (by decide) ?_
    refine lv_istore_n (i := 3) (lv' := [(3, .int 0), (2, .int 0), (0, .ref (ad x0)), (1, .int x1)]) hx hb dX6_count_81 rfl hl (by decide) (by first | rfl | simp [re_cat, cat_i, cat_l, cat_r]) (fun ls hl => ?_)
    obtain ⟨n7, h⟩ := h
    exact hB82 n7 0 0 s0 _ _ ls h hP hS (lv_sub hl [2, 1, 0] rfl)
  replace h := h.2 c6
  by_cases c8 : x1 = 5
  · replace h := h.1 c8
    refine lv_tableIn (off := 102) (tgt := 105) hx hb dX6_count_3 (by rw [c8]; decide) (by rw [c8]; decide) (by rw [c8]; decide) (by decide) ?_
    refine lv_iconst (v := 0) hx hb dX6_count_105 (by decide) ?_
    refine lv_istore_n (i := 3) (lv' := [(3, .int 0), (2, .int 0), (0, .ref (ad x0)), (1, .int x1)]) hx hb dX6_count_106 rfl hl (by decide) (by first | rfl | simp [re_cat, cat_i, cat_l, cat_r]) (fun ls hl => ?_)
    obtain ⟨n9, h⟩ := h
    exact hB107 n9 0 0 s0 _ _ ls h hP hS (lv_sub hl [2, 1, 0] rfl)
  replace h := h.2 c8
  by_cases c10 : x1 = 6
  · replace h := h.1 c10
    refine lv_tableIn (off := 129) (tgt := 132) hx hb dX6_count_3 (by rw [c10]; decide) (by rw [c10]; decide) (by rw [c10]; decide) (by decide) ?_
    refine lv_aload_n hx hb dX6_count_132 rfl (lv_at hl 1 rfl) ?_
    refine va_get (ci := 5) (v := .int (gI s0 x0 31)) (C := RX6) (T := TX6) (N := 42) hx hb hts hi_X6 hown hE.1 hP x0 (w_5 hE hk0) rfl 31 (by decide) (hts (.fieldLink RX6 185 "HemLineModel" "years" "I") (by decide +kernel)) (fun _ h9 => h9) rfl dX6_count_133 ?_
    refine lv_if_ne (tgt := 143) hx hb dX6_count_136 (by decide) (fun c11 => ?_) (fun c11 => ?_)
    · replace h := h.2 c11
      refine lv_aload_n hx hb dX6_count_143 rfl (lv_at hl 1 rfl) ?_
      refine va_get (ci := 5) (v := va_re ad (tM x0 32)) (C := RX6) (T := TX6) (N := 42) hx hb hts hi_X6 hown hE.1 hP x0 (w_5 hE hk0) rfl 32 (by decide) (hts (.fieldLink RX6 68 "HemLineModel" "floods" "[I") (by decide +kernel)) (fun _ h9 => h9) rfl dX6_count_144 ?_
      refine lv_aload_n hx hb dX6_count_147 rfl (lv_at hl 1 rfl) ?_
      refine va_get (ci := 5) (v := .int (gI s0 x0 31)) (C := RX6) (T := TX6) (N := 42) hx hb hts hi_X6 hown hE.1 hP x0 (w_5 hE hk0) rfl 31 (by decide) (hts (.fieldLink RX6 185 "HemLineModel" "years" "I") (by decide +kernel)) (fun _ h9 => h9) rfl dX6_count_148 ?_
      refine lv_iconst (v := 1) hx hb dX6_count_151 (by decide) ?_
      refine lv_isub hx hb dX6_count_152 ?_
      obtain ⟨k12, e13, q14, i15, h⟩ := h
      refine r_iald hx hb hE hP e13 q14 i15 dX6_count_153 ?_
      exact W.iret hx hb hr (fun t ht hW => ⟨⟨_, _, rfl, h, pw ht hP⟩, hS.F ht⟩) hS.2.2 dX6_count_154
    · replace h := h.1 c11
      refine lv_iconst (v := 0) hx hb dX6_count_139 (by decide) ?_
      refine lv_goto (tgt := 154) hx hb dX6_count_140 (by decide) ?_
      exact W.iret hx hb hr (fun t ht hW => ⟨⟨_, _, rfl, h, pw ht hP⟩, hS.F ht⟩) hS.2.2 dX6_count_154
  replace h := h.2 c10
  by_cases c16 : x1 = 7
  · replace h := h.1 c16
    refine lv_tableIn (off := 152) (tgt := 155) hx hb dX6_count_3 (by rw [c16]; decide) (by rw [c16]; decide) (by rw [c16]; decide) (by decide) ?_
    refine lv_iconst (v := 0) hx hb dX6_count_155 (by decide) ?_
    refine lv_istore_n (i := 3) (lv' := [(3, .int 0), (2, .int 0), (0, .ref (ad x0)), (1, .int x1)]) hx hb dX6_count_156 rfl hl (by decide) (by first | rfl | simp [re_cat, cat_i, cat_l, cat_r]) (fun ls hl => ?_)
    obtain ⟨n17, h⟩ := h
    exact hB157 n17 0 0 s0 _ _ ls h hP hS (lv_sub hl [2, 1, 0] rfl)
  replace h := h.2 c16
  by_cases c18 : x1 = 8
  · replace h := h.1 c18
    refine lv_tableIn (off := 191) (tgt := 194) hx hb dX6_count_3 (by rw [c18]; decide) (by rw [c18]; decide) (by rw [c18]; decide) (by decide) ?_
    refine lv_iconst (v := 0) hx hb dX6_count_194 (by decide) ?_
    refine lv_istore_n (i := 3) (lv' := [(3, .int 0), (2, .int 0), (0, .ref (ad x0)), (1, .int x1)]) hx hb dX6_count_195 rfl hl (by decide) (by first | rfl | simp [re_cat, cat_i, cat_l, cat_r]) (fun ls hl => ?_)
    obtain ⟨n19, h⟩ := h
    exact hB196 n19 0 0 s0 _ _ ls h hP hS (lv_sub hl [2, 1, 0] rfl)
  replace h := h.2 c18
  by_cases c20 : x1 = 9
  · replace h := h.1 c20
    refine lv_tableIn (off := 224) (tgt := 227) hx hb dX6_count_3 (by rw [c20]; decide) (by rw [c20]; decide) (by rw [c20]; decide) (by decide) ?_
    refine lv_iconst (v := 0) hx hb dX6_count_227 (by decide) ?_
    refine lv_istore_n (i := 3) (lv' := [(3, .int 0), (2, .int 0), (0, .ref (ad x0)), (1, .int x1)]) hx hb dX6_count_228 rfl hl (by decide) (by first | rfl | simp [re_cat, cat_i, cat_l, cat_r]) (fun ls hl => ?_)
    obtain ⟨n21, h⟩ := h
    exact hB229 n21 0 0 s0 _ _ ls h hP hS (lv_sub hl [2, 1, 0] rfl)
  replace h := h.2 c20
  by_cases c22 : x1 = 10
  · replace h := h.1 c22
    refine lv_tableIn (off := 256) (tgt := 259) hx hb dX6_count_3 (by rw [c22]; decide) (by rw [c22]; decide) (by rw [c22]; decide) (by decide) ?_
    refine lv_iconst (v := 0) hx hb dX6_count_259 (by decide) ?_
    refine lv_istore_n (i := 3) (lv' := [(3, .int 0), (2, .int 0), (0, .ref (ad x0)), (1, .int x1)]) hx hb dX6_count_260 rfl hl (by decide) (by first | rfl | simp [re_cat, cat_i, cat_l, cat_r]) (fun ls hl => ?_)
    obtain ⟨n23, h⟩ := h
    exact hB261 n23 0 0 s0 _ _ ls h hP hS (lv_sub hl [2, 1, 0] rfl)
  replace h := h.2 c22
  refine lv_tableOut (tgt := 291) hx hb dX6_count_3 (by have := ne_toInt (n := 0) c2 (by decide); have := ne_toInt (n := 1) c3 (by decide); have := ne_toInt (n := 2) c4 (by decide); have := ne_toInt (n := 3) c5 (by decide); have := ne_toInt (n := 4) c6 (by decide); have := ne_toInt (n := 5) c8 (by decide); have := ne_toInt (n := 6) c10 (by decide); have := ne_toInt (n := 7) c16 (by decide); have := ne_toInt (n := 8) c18 (by decide); have := ne_toInt (n := 9) c20 (by decide); have := ne_toInt (n := 10) c22 (by decide); omega) (by decide) ?_
  refine lv_iconst (v := (-1)) hx hb dX6_count_291 (by decide) ?_
  exact W.iret hx hb hr (fun t ht hW => ⟨⟨_, _, rfl, h, pw ht hP⟩, hS.F ht⟩) hS.2.2 dX6_count_292
def p_X6_finding (x0 : Nat) (s : Sg) (Q : Int32 → Sg → Prop) : Prop := Q (gI s x0 3) s
set_option maxHeartbeats 4000000 in
set_option maxRecDepth 100000 in
theorem c_X6_finding (l : Launch) (D : va_G) (cs : Cs) (ad : Nat → Nat) (x0 : Nat) (s0 : Sg) (Q : Int32 → Sg → Prop) (hk0 : kM x0 = 5) : Met l yX6_finding wsX6_finding { frames := 0, cells := 0, slots := 0, locals := 0 } (Pc0 bM D cs ad [.ref (ad x0)] s0 (p_X6_finding x0 s0 Q)) (QI bM D cs ad Q) 0 0 (fAd bM ad) := by
  refine Met.ofW (cc := cX6_finding) (maxL := 1) (ret := (some .int)) (by decide) rfl ?_
  intro p e s m args below meth c s₁ B0 hml hv
  obtain ⟨ha, hP, hE, h⟩ := hv
  have hx := B0.exec
  have hb := B0.bytes
  have hr := B0.returns
  have hts := atoms_spec (ws := wsX6_finding) B0.pre
  have hown : s.vm.findClass RX6 = some m.cls := findClass_of_methodNamed B0.named
  have hlocks := B0.notSynchronized
  have hi_X6 : ∀ w ∈ u_ws RX6 TX6 42, w ∈ wsX6_finding := by decide +kernel
  have hS : va_S (fAd bM ad) s.heap s.heap [] := va_S.rf
  have hl := lv_entry ([.ref (ad x0)]) (n := 1) (by first | exact Nat.le_of_ble_eq_true rfl | simp [lg_sl, re_cat, cat_i, cat_l, cat_r])
  rw [show entryFrame m args 1 = entryFrame m ([.ref (ad x0)] : List Value).toArray 1 by rw [ha], lg_entry_eq]
  generalize (lg_sl ([.ref (ad x0)]) ++ List.replicate (1 - (lg_sl ([.ref (ad x0)])).length) Slot.unset).toArray = ls at hl ⊢
  have hl : lv_has ls 1 [(0, .ref (ad x0))] := by first | exact hl | simpa [lv_args, re_cat, cat_i, cat_l, cat_r] using hl
  unfold p_X6_finding at h
  refine lv_aload_n hx hb dX6_finding_0 rfl (lv_at hl 0 rfl) ?_
  refine va_get (ci := 5) (v := .int (gI s0 x0 3)) (C := RX6) (T := TX6) (N := 42) hx hb hts hi_X6 hown hE.1 hP x0 (w_5 hE hk0) rfl 3 (by decide) (hts (.fieldLink RX6 99 "HemLineModel" "latest" "I") (by decide +kernel)) (fun _ h9 => h9) rfl dX6_finding_1 ?_
  exact W.iret hx hb hr (fun t ht hW => ⟨⟨_, _, rfl, h, pw ht hP⟩, hS.F ht⟩) hS.2.2 dX6_finding_4
def p_X6_findings (x0 : Nat) (x1 : Int32) (s : Sg) (Q : Int32 → Sg → Prop) : Prop := p_X6_in x1 1 5 s (fun r2 s1 => ((r2 = 0 → Q ((-1)) s1) ∧ (¬ r2 = 0 → ∃ k4, tM x0 4 = some k4 ∧ kM k4 = 7 ∧ vp_in x1 (lM k4) ∧ Q (gR s1 k4 x1.toNatClampNeg) s1)))
set_option maxHeartbeats 4000000 in
set_option maxRecDepth 100000 in
theorem c_X6_findings (l : Launch) (D : va_G) (cs : Cs) (ad : Nat → Nat) (x0 : Nat) (x1 : Int32) (s0 : Sg) (Q : Int32 → Sg → Prop) (hk0 : kM x0 = 5) : Met l yX6_findings wsX6_findings { frames := 1, cells := 0, slots := 0, locals := 22 } (Pc0 bM D cs ad [.ref (ad x0), .int x1] s0 (p_X6_findings x0 x1 s0 Q)) (QI bM D cs ad Q) 0 0 (fAd bM ad) := by
  refine Met.ofW (cc := cX6_findings) (maxL := 2) (ret := (some .int)) (by decide) rfl ?_
  intro p e s m args below meth c s₁ B0 hml hv
  obtain ⟨ha, hP, hE, h⟩ := hv
  have hx := B0.exec
  have hb := B0.bytes
  have hr := B0.returns
  have hts := atoms_spec (ws := wsX6_findings) B0.pre
  have hown : s.vm.findClass RX6 = some m.cls := findClass_of_methodNamed B0.named
  have hlocks := B0.notSynchronized
  have hi_X6 : ∀ w ∈ u_ws RX6 TX6 42, w ∈ wsX6_findings := by decide +kernel
  have hS : va_S (fAd bM ad) s.heap s.heap [] := va_S.rf
  have hl := lv_entry ([.ref (ad x0), .int x1]) (n := 2) (by first | exact Nat.le_of_ble_eq_true rfl | simp [lg_sl, re_cat, cat_i, cat_l, cat_r])
  rw [show entryFrame m args 2 = entryFrame m ([.ref (ad x0), .int x1] : List Value).toArray 2 by rw [ha], lg_entry_eq]
  generalize (lg_sl ([.ref (ad x0), .int x1]) ++ List.replicate (2 - (lg_sl ([.ref (ad x0), .int x1])).length) Slot.unset).toArray = ls at hl ⊢
  have hl : lv_has ls 2 [(0, .ref (ad x0)), (1, .int x1)] := by first | exact hl | simpa [lv_args, re_cat, cat_i, cat_l, cat_r] using hl
  unfold p_X6_findings at h
  refine lv_iload_n hx hb dX6_findings_0 rfl (lv_at hl 1 rfl) ?_
  refine lv_iconst (v := 1) hx hb dX6_findings_1 (by decide) ?_
  refine lv_iconst (v := 5) hx hb dX6_findings_2 (by decide) ?_
  refine f_i (kS (As := [.int x1, .int 1, .int 5]) (rest := []) ⟨hx, hb, hml, hown, hts⟩ (c_X6_in l D cs ad x1 1 5 s0 _) (va_cwS 3 hts gX6_findings_X6_in rfl rfl rfl (by decide +kernel) ⟨Nat.le_of_ble_eq_true rfl, Nat.le_of_ble_eq_true rfl⟩) hE hP h rfl hl.1 rfl (by first | exact lv_room (Nat.le_of_ble_eq_true rfl) | (refine lv_room ?_; simp [re_cat, cat_i, cat_l, cat_r])) dX6_findings_3 ⟨Nat.le_refl _, Nat.le_refl _⟩) hS (fun r2 s1 H locs h hP hS => ?_)
  refine lv_if_eq (tgt := 18) hx hb dX6_findings_6 (by decide) (fun c3 => ?_) (fun c3 => ?_)
  · replace h := h.1 c3
    refine lv_iconst (v := (-1)) hx hb dX6_findings_18 (by decide) ?_
    exact W.iret hx hb hr (fun t ht hW => ⟨⟨_, _, rfl, h, pw ht hP⟩, hS.F ht⟩) hS.2.2 dX6_findings_19
  · replace h := h.2 c3
    refine lv_aload_n hx hb dX6_findings_9 rfl (lv_at hl 0 rfl) ?_
    refine va_get (ci := 5) (v := va_re ad (tM x0 4)) (C := RX6) (T := TX6) (N := 42) hx hb hts hi_X6 hown hE.1 hP x0 (w_5 hE hk0) rfl 4 (by decide) (hts (.fieldLink RX6 7 "HemLineModel" "found" "[I") (by decide +kernel)) (fun _ h9 => h9) rfl dX6_findings_10 ?_
    refine lv_iload_n hx hb dX6_findings_13 rfl (lv_at hl 1 rfl) ?_
    obtain ⟨k4, e5, q6, i7, h⟩ := h
    refine r_iald hx hb hE hP e5 q6 i7 dX6_findings_14 ?_
    refine lv_goto (tgt := 19) hx hb dX6_findings_15 (by decide) ?_
    exact W.iret hx hb hr (fun t ht hW => ⟨⟨_, _, rfl, h, pw ht hP⟩, hS.F ht⟩) hS.2.2 dX6_findings_19
def p_X6_digest_L102 (Q : Int64 → Sg → Prop) (K61 : Nat → Int64 → Int32 → Sg → Prop) : Nat → Nat → Int64 → Int32 → Int32 → Sg → Prop
  | 0, _, _, _, _, _ => False
  | n + 1, x0, x1, x3, x4, s => (((gI s x0 31) ≤ x4 → K61 x0 x1 (x3 + 1) s) ∧ (¬ (gI s x0 31) ≤ x4 → ∃ k2, tM x0 33 = some k2 ∧ kM k2 = 7 ∧ vp_in ((6 * x4) + x3) (lM k2) ∧ p_X6_digest_L102 Q K61 n x0 ((31 * x1) + ((gR s k2 ((6 * x4) + x3).toNatClampNeg).toInt64)) x3 (x4 + 1) s))
def p_X6_digest_L72 (Q : Int64 → Sg → Prop) (K61 : Nat → Int64 → Int32 → Sg → Prop) : Nat → Nat → Int64 → Int32 → Int32 → Sg → Prop
  | 0, _, _, _, _, _ => False
  | n + 1, x0, x1, x3, x4, s => ((5 < x4 → (∃ n2, p_X6_digest_L102 Q K61 n2 x0 x1 x3 0 s)) ∧ (¬ 5 < x4 → p_X6_ofWoman x0 x3 x4 s (fun r4 s3 => p_X6_digest_L72 Q K61 n x0 ((31 * x1) + r4.toInt64) x3 (x4 + 1) s3)))
def p_X6_digest_L195 (Q : Int64 → Sg → Prop) (K172 : Nat → Int64 → Int32 → Sg → Prop) : Nat → Nat → Int64 → Int32 → Int32 → Sg → Prop
  | 0, _, _, _, _, _ => False
  | n + 1, x0, x1, x3, x4, s => ∃ k1, tM x0 6 = some k1 ∧ kM k1 = 7 ∧ vp_in x3 (lM k1) ∧ (((gR s k1 x3.toNatClampNeg) ≤ x4 → K172 x0 x1 (x3 + 1) s) ∧ (¬ (gR s k1 x3.toNatClampNeg) ≤ x4 → ∃ k6, tM x0 5 = some k6 ∧ kM k6 = 7 ∧ vp_in ((40 * x3) + x4) (lM k6) ∧ p_X6_digest_L195 Q K172 n x0 ((31 * x1) + ((gR s k6 ((40 * x3) + x4).toNatClampNeg).toInt64)) x3 (x4 + 1) s))
def p_X6_digest_L262 (Q : Int64 → Sg → Prop) (K240 : Nat → Int64 → Int32 → Sg → Prop) : Nat → Nat → Int64 → Int32 → Int32 → Sg → Prop
  | 0, _, _, _, _, _ => False
  | n + 1, x0, x1, x3, x4, s => ∃ k1, tM x0 8 = some k1 ∧ kM k1 = 7 ∧ vp_in x3 (lM k1) ∧ (((gR s k1 x3.toNatClampNeg) ≤ x4 → K240 x0 x1 (x3 + 1) s) ∧ (¬ (gR s k1 x3.toNatClampNeg) ≤ x4 → ∃ k6, tM x0 7 = some k6 ∧ kM k6 = 6 ∧ vp_in ((60 * x3) + x4) (lM k6) ∧ p_X6_digest_L262 Q K240 n x0 ((31 * x1) + ((gR s k6 ((60 * x3) + x4).toNatClampNeg).toInt64)) x3 (x4 + 1) s))
def p_X6_digest_L240 (Q : Int64 → Sg → Prop)  : Nat → Nat → Int64 → Int32 → Sg → Prop
  | 0, _, _, _, _ => False
  | n + 1, x0, x1, x3, s => ((4 ≤ x3 → Q x1 s) ∧ (¬ 4 ≤ x3 → ∃ k2, tM x0 8 = some k2 ∧ kM k2 = 7 ∧ vp_in x3 (lM k2) ∧ (∃ n6, p_X6_digest_L262 Q (fun y0 y1 y3 u => p_X6_digest_L240 Q  n y0 y1 y3 u) n6 x0 ((31 * x1) + ((gR s k2 x3.toNatClampNeg).toInt64)) x3 0 s)))
def p_X6_digest_L172 (Q : Int64 → Sg → Prop)  : Nat → Nat → Int64 → Int32 → Sg → Prop
  | 0, _, _, _, _ => False
  | n + 1, x0, x1, x3, s => ((6 ≤ x3 → (∃ n2, p_X6_digest_L240 Q  n2 x0 x1 0 s)) ∧ (¬ 6 ≤ x3 → ∃ k3, tM x0 6 = some k3 ∧ kM k3 = 7 ∧ vp_in x3 (lM k3) ∧ (∃ n7, p_X6_digest_L195 Q (fun y0 y1 y3 u => p_X6_digest_L172 Q  n y0 y1 y3 u) n7 x0 ((31 * x1) + ((gR s k3 x3.toNatClampNeg).toInt64)) x3 0 s)))
def p_X6_digest_L145 (Q : Int64 → Sg → Prop)  : Nat → Nat → Int64 → Int32 → Sg → Prop
  | 0, _, _, _, _ => False
  | n + 1, x0, x1, x3, s => ((3 ≤ x3 → (∃ n2, p_X6_digest_L172 Q  n2 x0 x1 0 s)) ∧ (¬ 3 ≤ x3 → ∃ k3, tM x0 38 = some k3 ∧ kM k3 = 7 ∧ vp_in x3 (lM k3) ∧ p_X6_digest_L145 Q  n x0 ((31 * x1) + ((gR s k3 x3.toNatClampNeg).toInt64)) (x3 + 1) s))
def p_X6_digest_L61 (Q : Int64 → Sg → Prop)  : Nat → Nat → Int64 → Int32 → Sg → Prop
  | 0, _, _, _, _ => False
  | n + 1, x0, x1, x3, s => (((gI s x0 20) ≤ x3 → (∃ n2, p_X6_digest_L145 Q  n2 x0 x1 0 s)) ∧ (¬ (gI s x0 20) ≤ x3 → (∃ n3, p_X6_digest_L72 Q (fun y0 y1 y3 u => p_X6_digest_L61 Q  n y0 y1 y3 u) n3 x0 x1 x3 0 s)))
def p_X6_digest_L33 (Q : Int64 → Sg → Prop)  : Nat → Nat → Int64 → Int32 → Sg → Prop
  | 0, _, _, _, _ => False
  | n + 1, x0, x1, x3, s => ((6 ≤ x3 → (∃ n2, p_X6_digest_L61 Q  n2 x0 x1 0 s)) ∧ (¬ 6 ≤ x3 → ∃ k3, tM x0 29 = some k3 ∧ kM k3 = 7 ∧ vp_in x3 (lM k3) ∧ p_X6_digest_L33 Q  n x0 ((31 * x1) + ((gR s k3 x3.toNatClampNeg).toInt64)) (x3 + 1) s))
def p_X6_digest_L6 (Q : Int64 → Sg → Prop)  : Nat → Nat → Int64 → Int32 → Sg → Prop
  | 0, _, _, _, _ => False
  | n + 1, x0, x1, x3, s => ((10 < x3 → (∃ n2, p_X6_digest_L33 Q  n2 x0 x1 0 s)) ∧ (¬ 10 < x3 → p_X6_count x0 x3 s (fun r4 s3 => p_X6_digest_L6 Q  n x0 ((31 * x1) + r4.toInt64) (x3 + 1) s3)))
def p_X6_digest (x0 : Nat) (s : Sg) (Q : Int64 → Sg → Prop) : Prop := (∃ n1, p_X6_digest_L6 Q  n1 x0 17 0 s)
set_option maxHeartbeats 4000000 in
set_option maxRecDepth 100000 in
theorem c_X6_digest (l : Launch) (D : va_G) (cs : Cs) (ad : Nat → Nat) (x0 : Nat) (s0 : Sg) (Q : Int64 → Sg → Prop) (hk0 : kM x0 = 5) : Met l yX6_digest wsX6_digest { frames := 2, cells := 0, slots := 0, locals := 44 } (Pc0 bM D cs ad [.ref (ad x0)] s0 (p_X6_digest x0 s0 Q)) (QL bM D cs ad Q) 0 0 (fAd bM ad) := by
  refine Met.ofW (cc := cX6_digest) (maxL := 5) (ret := (some .long)) (by decide) rfl ?_
  intro p e s m args below meth c s₁ B0 hml hv
  obtain ⟨ha, hP, hE, h⟩ := hv
  have hx := B0.exec
  have hb := B0.bytes
  have hr := B0.returns
  have hts := atoms_spec (ws := wsX6_digest) B0.pre
  have hown : s.vm.findClass RX6 = some m.cls := findClass_of_methodNamed B0.named
  have hlocks := B0.notSynchronized
  have hi_X6 : ∀ w ∈ u_ws RX6 TX6 42, w ∈ wsX6_digest := by decide +kernel
  have hS : va_S (fAd bM ad) s.heap s.heap [] := va_S.rf
  have hl := lv_entry ([.ref (ad x0)]) (n := 5) (by first | exact Nat.le_of_ble_eq_true rfl | simp [lg_sl, re_cat, cat_i, cat_l, cat_r])
  rw [show entryFrame m args 5 = entryFrame m ([.ref (ad x0)] : List Value).toArray 5 by rw [ha], lg_entry_eq]
  generalize (lg_sl ([.ref (ad x0)]) ++ List.replicate (5 - (lg_sl ([.ref (ad x0)])).length) Slot.unset).toArray = ls at hl ⊢
  have hl : lv_has ls 5 [(0, .ref (ad x0))] := by first | exact hl | simpa [lv_args, re_cat, cat_i, cat_l, cat_r] using hl
  have hB240 : ∀ (n240 : Nat) (x1 : Int64) (x3 : Int32) (σ : Sg) (H : Heap) (locs : List Loc) (ls : Array Slot), p_X6_digest_L240 Q  n240 x0 x1 x3 σ → va_P D vwCl (wl bM cs ad σ) H → va_S (fAd bM ad) s.heap H locs → lv_has ls 5 [(0, .ref (ad x0)), (1, .long x1), (3, .int x3)] → W p l e { frames := 2, cells := 0, slots := 0, locals := 44 } s m args below meth c H locs 0 0 (MQ below (QL bM D cs ad Q) args s 0 0 (fAd bM ad)) (F0 m 240 ls []) := by
    intro n240
    induction n240 with
    | zero =>
      intro x1 x3 σ H locs ls h
      exact h.elim
    | succ n240 ih =>
      have hK240 := ih
      have hB262 : ∀ (n262 : Nat) (x1 : Int64) (x3 : Int32) (x4 : Int32) (σ : Sg) (H : Heap) (locs : List Loc) (ls : Array Slot), p_X6_digest_L262 Q (fun y0 y1 y3 u => p_X6_digest_L240 Q  n240 y0 y1 y3 u) n262 x0 x1 x3 x4 σ → va_P D vwCl (wl bM cs ad σ) H → va_S (fAd bM ad) s.heap H locs → lv_has ls 5 [(0, .ref (ad x0)), (1, .long x1), (3, .int x3), (4, .int x4)] → W p l e { frames := 2, cells := 0, slots := 0, locals := 44 } s m args below meth c H locs 0 0 (MQ below (QL bM D cs ad Q) args s 0 0 (fAd bM ad)) (F0 m 262 ls []) := by
        intro n262
        induction n262 with
        | zero =>
          intro x1 x3 x4 σ H locs ls h
          exact h.elim
        | succ n262 ih =>
          have hK262 := ih
          intro x1 x3 x4 σ H locs ls h hP hS hl
          rw [p_X6_digest_L262] at h
          refine lv_iload hx hb dX6_digest_262 (lv_at hl 3 rfl) ?_
          refine lv_aload_n hx hb dX6_digest_264 rfl (lv_at hl 0 rfl) ?_
          refine va_get (ci := 5) (v := va_re ad (tM x0 8)) (C := RX6) (T := TX6) (N := 42) hx hb hts hi_X6 hown hE.1 hP x0 (w_5 hE hk0) rfl 8 (by decide) (hts (.fieldLink RX6 23 "HemLineModel" "textSize" "[I") (by decide +kernel)) (fun _ h9 => h9) rfl dX6_digest_265 ?_
          refine lv_iload_n hx hb dX6_digest_268 rfl (lv_at hl 2 rfl) ?_
          obtain ⟨k1, e2, q3, i4, h⟩ := h
          refine r_iald hx hb hE hP e2 q3 i4 dX6_digest_269 ?_
          refine lv_icmp_ge (tgt := 299) hx hb dX6_digest_270 (by decide) (fun c5 => ?_) (fun c5 => ?_)
          · replace h := h.1 c5
            refine lv_iinc (v := x3 + 1) (lv' := [(3, .int (x3 + 1)), (0, .ref (ad x0)), (1, .long x1), (4, .int x4)]) hx hb dX6_digest_299 hl (k := 2) rfl rfl (by decide) (by first | rfl | simp [re_cat, cat_i, cat_l, cat_r]) (fun ls hl => ?_)
            refine lv_goto (tgt := 240) hx hb dX6_digest_302 (by decide) ?_
            exact hK240 x1 (x3 + 1) σ H locs ls h hP hS (lv_sub hl [1, 2, 0] rfl)
          · replace h := h.2 c5
            refine lv_ldc2 (v := 31) hx hb hown (hts (.constantLong RX6 285 (31)) (by decide +kernel)) dX6_digest_273 ?_
            refine lv_lload_n hx hb dX6_digest_276 rfl (lv_at hl 1 rfl) ?_
            refine lv_lmul hx hb dX6_digest_277 ?_
            refine lv_aload_n hx hb dX6_digest_278 rfl (lv_at hl 0 rfl) ?_
            refine va_get (ci := 5) (v := va_re ad (tM x0 7)) (C := RX6) (T := TX6) (N := 42) hx hb hts hi_X6 hown hE.1 hP x0 (w_5 hE hk0) rfl 7 (by decide) (hts (.fieldLink RX6 19 "HemLineModel" "bytes" "[B") (by decide +kernel)) (fun _ h9 => h9) rfl dX6_digest_279 ?_
            refine lv_bipush (v := 60) hx hb dX6_digest_282 (by decide) ?_
            refine lv_iload_n hx hb dX6_digest_284 rfl (lv_at hl 2 rfl) ?_
            refine lv_imul hx hb dX6_digest_285 ?_
            refine lv_iload hx hb dX6_digest_286 (lv_at hl 3 rfl) ?_
            refine lv_iadd hx hb dX6_digest_288 ?_
            obtain ⟨k6, e7, q8, i9, h⟩ := h
            refine r_bald hx hb hE hP e7 q8 i9 dX6_digest_289 ?_
            refine lv_i2l hx hb dX6_digest_290 rfl ?_
            refine lv_ladd hx hb dX6_digest_291 ?_
            refine lv_lstore_n (i := 1) (lv' := [(1, .long ((31 * x1) + ((gR σ k6 ((60 * x3) + x4).toNatClampNeg).toInt64))), (0, .ref (ad x0)), (3, .int x3), (4, .int x4)]) hx hb dX6_digest_292 rfl hl (by decide) (by first | rfl | simp [re_cat, cat_i, cat_l, cat_r]) (fun ls hl => ?_)
            refine lv_iinc (v := x4 + 1) (lv' := [(4, .int (x4 + 1)), (1, .long ((31 * x1) + ((gR σ k6 ((60 * x3) + x4).toNatClampNeg).toInt64))), (0, .ref (ad x0)), (3, .int x3)]) hx hb dX6_digest_293 hl (k := 3) rfl rfl (by decide) (by first | rfl | simp [re_cat, cat_i, cat_l, cat_r]) (fun ls hl => ?_)
            refine lv_goto (tgt := 262) hx hb dX6_digest_296 (by decide) ?_
            exact ih ((31 * x1) + ((gR σ k6 ((60 * x3) + x4).toNatClampNeg).toInt64)) x3 (x4 + 1) σ H locs ls h hP hS (lv_sub hl [2, 1, 3, 0] rfl)
      intro x1 x3 σ H locs ls h hP hS hl
      rw [p_X6_digest_L240] at h
      refine lv_iload_n hx hb dX6_digest_240 rfl (lv_at hl 2 rfl) ?_
      refine lv_iconst (v := 4) hx hb dX6_digest_241 (by decide) ?_
      refine lv_icmp_ge (tgt := 305) hx hb dX6_digest_242 (by decide) (fun c1 => ?_) (fun c1 => ?_)
      · replace h := h.1 c1
        refine lv_lload_n hx hb dX6_digest_305 rfl (lv_at hl 1 rfl) ?_
        exact W.lret hx hb hr (fun t ht hW => ⟨⟨_, _, rfl, h, pw ht hP⟩, hS.F ht⟩) hS.2.2 dX6_digest_306
      · replace h := h.2 c1
        refine lv_ldc2 (v := 31) hx hb hown (hts (.constantLong RX6 285 (31)) (by decide +kernel)) dX6_digest_245 ?_
        refine lv_lload_n hx hb dX6_digest_248 rfl (lv_at hl 1 rfl) ?_
        refine lv_lmul hx hb dX6_digest_249 ?_
        refine lv_aload_n hx hb dX6_digest_250 rfl (lv_at hl 0 rfl) ?_
        refine va_get (ci := 5) (v := va_re ad (tM x0 8)) (C := RX6) (T := TX6) (N := 42) hx hb hts hi_X6 hown hE.1 hP x0 (w_5 hE hk0) rfl 8 (by decide) (hts (.fieldLink RX6 23 "HemLineModel" "textSize" "[I") (by decide +kernel)) (fun _ h9 => h9) rfl dX6_digest_251 ?_
        refine lv_iload_n hx hb dX6_digest_254 rfl (lv_at hl 2 rfl) ?_
        obtain ⟨k2, e3, q4, i5, h⟩ := h
        refine r_iald hx hb hE hP e3 q4 i5 dX6_digest_255 ?_
        refine lv_i2l hx hb dX6_digest_256 rfl ?_
        refine lv_ladd hx hb dX6_digest_257 ?_
        refine lv_lstore_n (i := 1) (lv' := [(1, .long ((31 * x1) + ((gR σ k2 x3.toNatClampNeg).toInt64))), (0, .ref (ad x0)), (3, .int x3)]) hx hb dX6_digest_258 rfl hl (by decide) (by first | rfl | simp [re_cat, cat_i, cat_l, cat_r]) (fun ls hl => ?_)
        refine lv_iconst (v := 0) hx hb dX6_digest_259 (by decide) ?_
        refine lv_istore (i := 4) (lv' := [(4, .int 0), (1, .long ((31 * x1) + ((gR σ k2 x3.toNatClampNeg).toInt64))), (0, .ref (ad x0)), (3, .int x3)]) hx hb dX6_digest_260 hl (by decide) (by first | rfl | simp [re_cat, cat_i, cat_l, cat_r]) (fun ls hl => ?_)
        obtain ⟨n6, h⟩ := h
        exact hB262 n6 ((31 * x1) + ((gR σ k2 x3.toNatClampNeg).toInt64)) x3 0 σ H locs ls h hP hS (lv_sub hl [2, 1, 3, 0] rfl)
  have hB172 : ∀ (n172 : Nat) (x1 : Int64) (x3 : Int32) (σ : Sg) (H : Heap) (locs : List Loc) (ls : Array Slot), p_X6_digest_L172 Q  n172 x0 x1 x3 σ → va_P D vwCl (wl bM cs ad σ) H → va_S (fAd bM ad) s.heap H locs → lv_has ls 5 [(0, .ref (ad x0)), (1, .long x1), (3, .int x3)] → W p l e { frames := 2, cells := 0, slots := 0, locals := 44 } s m args below meth c H locs 0 0 (MQ below (QL bM D cs ad Q) args s 0 0 (fAd bM ad)) (F0 m 172 ls []) := by
    intro n172
    induction n172 with
    | zero =>
      intro x1 x3 σ H locs ls h
      exact h.elim
    | succ n172 ih =>
      have hK172 := ih
      have hB195 : ∀ (n195 : Nat) (x1 : Int64) (x3 : Int32) (x4 : Int32) (σ : Sg) (H : Heap) (locs : List Loc) (ls : Array Slot), p_X6_digest_L195 Q (fun y0 y1 y3 u => p_X6_digest_L172 Q  n172 y0 y1 y3 u) n195 x0 x1 x3 x4 σ → va_P D vwCl (wl bM cs ad σ) H → va_S (fAd bM ad) s.heap H locs → lv_has ls 5 [(0, .ref (ad x0)), (1, .long x1), (3, .int x3), (4, .int x4)] → W p l e { frames := 2, cells := 0, slots := 0, locals := 44 } s m args below meth c H locs 0 0 (MQ below (QL bM D cs ad Q) args s 0 0 (fAd bM ad)) (F0 m 195 ls []) := by
        intro n195
        induction n195 with
        | zero =>
          intro x1 x3 x4 σ H locs ls h
          exact h.elim
        | succ n195 ih =>
          have hK195 := ih
          intro x1 x3 x4 σ H locs ls h hP hS hl
          rw [p_X6_digest_L195] at h
          refine lv_iload hx hb dX6_digest_195 (lv_at hl 3 rfl) ?_
          refine lv_aload_n hx hb dX6_digest_197 rfl (lv_at hl 0 rfl) ?_
          refine va_get (ci := 5) (v := va_re ad (tM x0 6)) (C := RX6) (T := TX6) (N := 42) hx hb hts hi_X6 hown hE.1 hP x0 (w_5 hE hk0) rfl 6 (by decide) (hts (.fieldLink RX6 16 "HemLineModel" "rowSize" "[I") (by decide +kernel)) (fun _ h9 => h9) rfl dX6_digest_198 ?_
          refine lv_iload_n hx hb dX6_digest_201 rfl (lv_at hl 2 rfl) ?_
          obtain ⟨k1, e2, q3, i4, h⟩ := h
          refine r_iald hx hb hE hP e2 q3 i4 dX6_digest_202 ?_
          refine lv_icmp_ge (tgt := 232) hx hb dX6_digest_203 (by decide) (fun c5 => ?_) (fun c5 => ?_)
          · replace h := h.1 c5
            refine lv_iinc (v := x3 + 1) (lv' := [(3, .int (x3 + 1)), (0, .ref (ad x0)), (1, .long x1), (4, .int x4)]) hx hb dX6_digest_232 hl (k := 2) rfl rfl (by decide) (by first | rfl | simp [re_cat, cat_i, cat_l, cat_r]) (fun ls hl => ?_)
            refine lv_goto (tgt := 172) hx hb dX6_digest_235 (by decide) ?_
            exact hK172 x1 (x3 + 1) σ H locs ls h hP hS (lv_sub hl [1, 2, 0] rfl)
          · replace h := h.2 c5
            refine lv_ldc2 (v := 31) hx hb hown (hts (.constantLong RX6 285 (31)) (by decide +kernel)) dX6_digest_206 ?_
            refine lv_lload_n hx hb dX6_digest_209 rfl (lv_at hl 1 rfl) ?_
            refine lv_lmul hx hb dX6_digest_210 ?_
            refine lv_aload_n hx hb dX6_digest_211 rfl (lv_at hl 0 rfl) ?_
            refine va_get (ci := 5) (v := va_re ad (tM x0 5)) (C := RX6) (T := TX6) (N := 42) hx hb hts hi_X6 hown hE.1 hP x0 (w_5 hE hk0) rfl 5 (by decide) (hts (.fieldLink RX6 13 "HemLineModel" "cells" "[I") (by decide +kernel)) (fun _ h9 => h9) rfl dX6_digest_212 ?_
            refine lv_bipush (v := 40) hx hb dX6_digest_215 (by decide) ?_
            refine lv_iload_n hx hb dX6_digest_217 rfl (lv_at hl 2 rfl) ?_
            refine lv_imul hx hb dX6_digest_218 ?_
            refine lv_iload hx hb dX6_digest_219 (lv_at hl 3 rfl) ?_
            refine lv_iadd hx hb dX6_digest_221 ?_
            obtain ⟨k6, e7, q8, i9, h⟩ := h
            refine r_iald hx hb hE hP e7 q8 i9 dX6_digest_222 ?_
            refine lv_i2l hx hb dX6_digest_223 rfl ?_
            refine lv_ladd hx hb dX6_digest_224 ?_
            refine lv_lstore_n (i := 1) (lv' := [(1, .long ((31 * x1) + ((gR σ k6 ((40 * x3) + x4).toNatClampNeg).toInt64))), (0, .ref (ad x0)), (3, .int x3), (4, .int x4)]) hx hb dX6_digest_225 rfl hl (by decide) (by first | rfl | simp [re_cat, cat_i, cat_l, cat_r]) (fun ls hl => ?_)
            refine lv_iinc (v := x4 + 1) (lv' := [(4, .int (x4 + 1)), (1, .long ((31 * x1) + ((gR σ k6 ((40 * x3) + x4).toNatClampNeg).toInt64))), (0, .ref (ad x0)), (3, .int x3)]) hx hb dX6_digest_226 hl (k := 3) rfl rfl (by decide) (by first | rfl | simp [re_cat, cat_i, cat_l, cat_r]) (fun ls hl => ?_)
            refine lv_goto (tgt := 195) hx hb dX6_digest_229 (by decide) ?_
            exact ih ((31 * x1) + ((gR σ k6 ((40 * x3) + x4).toNatClampNeg).toInt64)) x3 (x4 + 1) σ H locs ls h hP hS (lv_sub hl [2, 1, 3, 0] rfl)
      intro x1 x3 σ H locs ls h hP hS hl
      rw [p_X6_digest_L172] at h
      refine lv_iload_n hx hb dX6_digest_172 rfl (lv_at hl 2 rfl) ?_
      refine lv_bipush (v := 6) hx hb dX6_digest_173 (by decide) ?_
      refine lv_icmp_ge (tgt := 238) hx hb dX6_digest_175 (by decide) (fun c1 => ?_) (fun c1 => ?_)
      · replace h := h.1 c1
        refine lv_iconst (v := 0) hx hb dX6_digest_238 (by decide) ?_
        refine lv_istore_n (i := 3) (lv' := [(3, .int 0), (0, .ref (ad x0)), (1, .long x1)]) hx hb dX6_digest_239 rfl hl (by decide) (by first | rfl | simp [re_cat, cat_i, cat_l, cat_r]) (fun ls hl => ?_)
        obtain ⟨n2, h⟩ := h
        exact hB240 n2 x1 0 σ H locs ls h hP hS (lv_sub hl [1, 2, 0] rfl)
      · replace h := h.2 c1
        refine lv_ldc2 (v := 31) hx hb hown (hts (.constantLong RX6 285 (31)) (by decide +kernel)) dX6_digest_178 ?_
        refine lv_lload_n hx hb dX6_digest_181 rfl (lv_at hl 1 rfl) ?_
        refine lv_lmul hx hb dX6_digest_182 ?_
        refine lv_aload_n hx hb dX6_digest_183 rfl (lv_at hl 0 rfl) ?_
        refine va_get (ci := 5) (v := va_re ad (tM x0 6)) (C := RX6) (T := TX6) (N := 42) hx hb hts hi_X6 hown hE.1 hP x0 (w_5 hE hk0) rfl 6 (by decide) (hts (.fieldLink RX6 16 "HemLineModel" "rowSize" "[I") (by decide +kernel)) (fun _ h9 => h9) rfl dX6_digest_184 ?_
        refine lv_iload_n hx hb dX6_digest_187 rfl (lv_at hl 2 rfl) ?_
        obtain ⟨k3, e4, q5, i6, h⟩ := h
        refine r_iald hx hb hE hP e4 q5 i6 dX6_digest_188 ?_
        refine lv_i2l hx hb dX6_digest_189 rfl ?_
        refine lv_ladd hx hb dX6_digest_190 ?_
        refine lv_lstore_n (i := 1) (lv' := [(1, .long ((31 * x1) + ((gR σ k3 x3.toNatClampNeg).toInt64))), (0, .ref (ad x0)), (3, .int x3)]) hx hb dX6_digest_191 rfl hl (by decide) (by first | rfl | simp [re_cat, cat_i, cat_l, cat_r]) (fun ls hl => ?_)
        refine lv_iconst (v := 0) hx hb dX6_digest_192 (by decide) ?_
        refine lv_istore (i := 4) (lv' := [(4, .int 0), (1, .long ((31 * x1) + ((gR σ k3 x3.toNatClampNeg).toInt64))), (0, .ref (ad x0)), (3, .int x3)]) hx hb dX6_digest_193 hl (by decide) (by first | rfl | simp [re_cat, cat_i, cat_l, cat_r]) (fun ls hl => ?_)
        obtain ⟨n7, h⟩ := h
        exact hB195 n7 ((31 * x1) + ((gR σ k3 x3.toNatClampNeg).toInt64)) x3 0 σ H locs ls h hP hS (lv_sub hl [2, 1, 3, 0] rfl)
  have hB145 : ∀ (n145 : Nat) (x1 : Int64) (x3 : Int32) (σ : Sg) (H : Heap) (locs : List Loc) (ls : Array Slot), p_X6_digest_L145 Q  n145 x0 x1 x3 σ → va_P D vwCl (wl bM cs ad σ) H → va_S (fAd bM ad) s.heap H locs → lv_has ls 5 [(0, .ref (ad x0)), (1, .long x1), (3, .int x3)] → W p l e { frames := 2, cells := 0, slots := 0, locals := 44 } s m args below meth c H locs 0 0 (MQ below (QL bM D cs ad Q) args s 0 0 (fAd bM ad)) (F0 m 145 ls []) := by
    intro n145
    induction n145 with
    | zero =>
      intro x1 x3 σ H locs ls h
      exact h.elim
    | succ n145 ih =>
      have hK145 := ih
      intro x1 x3 σ H locs ls h hP hS hl
      rw [p_X6_digest_L145] at h
      refine lv_iload_n hx hb dX6_digest_145 rfl (lv_at hl 2 rfl) ?_
      refine lv_iconst (v := 3) hx hb dX6_digest_146 (by decide) ?_
      refine lv_icmp_ge (tgt := 170) hx hb dX6_digest_147 (by decide) (fun c1 => ?_) (fun c1 => ?_)
      · replace h := h.1 c1
        refine lv_iconst (v := 0) hx hb dX6_digest_170 (by decide) ?_
        refine lv_istore_n (i := 3) (lv' := [(3, .int 0), (0, .ref (ad x0)), (1, .long x1)]) hx hb dX6_digest_171 rfl hl (by decide) (by first | rfl | simp [re_cat, cat_i, cat_l, cat_r]) (fun ls hl => ?_)
        obtain ⟨n2, h⟩ := h
        exact hB172 n2 x1 0 σ H locs ls h hP hS (lv_sub hl [1, 2, 0] rfl)
      · replace h := h.2 c1
        refine lv_ldc2 (v := 31) hx hb hown (hts (.constantLong RX6 285 (31)) (by decide +kernel)) dX6_digest_150 ?_
        refine lv_lload_n hx hb dX6_digest_153 rfl (lv_at hl 1 rfl) ?_
        refine lv_lmul hx hb dX6_digest_154 ?_
        refine lv_aload_n hx hb dX6_digest_155 rfl (lv_at hl 0 rfl) ?_
        refine va_get (ci := 5) (v := va_re ad (tM x0 38)) (C := RX6) (T := TX6) (N := 42) hx hb hts hi_X6 hown hE.1 hP x0 (w_5 hE hk0) rfl 38 (by decide) (hts (.fieldLink RX6 83 "HemLineModel" "keptDeeds" "[I") (by decide +kernel)) (fun _ h9 => h9) rfl dX6_digest_156 ?_
        refine lv_iload_n hx hb dX6_digest_159 rfl (lv_at hl 2 rfl) ?_
        obtain ⟨k3, e4, q5, i6, h⟩ := h
        refine r_iald hx hb hE hP e4 q5 i6 dX6_digest_160 ?_
        refine lv_i2l hx hb dX6_digest_161 rfl ?_
        refine lv_ladd hx hb dX6_digest_162 ?_
        refine lv_lstore_n (i := 1) (lv' := [(1, .long ((31 * x1) + ((gR σ k3 x3.toNatClampNeg).toInt64))), (0, .ref (ad x0)), (3, .int x3)]) hx hb dX6_digest_163 rfl hl (by decide) (by first | rfl | simp [re_cat, cat_i, cat_l, cat_r]) (fun ls hl => ?_)
        refine lv_iinc (v := x3 + 1) (lv' := [(3, .int (x3 + 1)), (1, .long ((31 * x1) + ((gR σ k3 x3.toNatClampNeg).toInt64))), (0, .ref (ad x0))]) hx hb dX6_digest_164 hl (k := 2) rfl rfl (by decide) (by first | rfl | simp [re_cat, cat_i, cat_l, cat_r]) (fun ls hl => ?_)
        refine lv_goto (tgt := 145) hx hb dX6_digest_167 (by decide) ?_
        exact ih ((31 * x1) + ((gR σ k3 x3.toNatClampNeg).toInt64)) (x3 + 1) σ H locs ls h hP hS (lv_sub hl [2, 1, 0] rfl)
  have hB61 : ∀ (n61 : Nat) (x1 : Int64) (x3 : Int32) (σ : Sg) (H : Heap) (locs : List Loc) (ls : Array Slot), p_X6_digest_L61 Q  n61 x0 x1 x3 σ → va_P D vwCl (wl bM cs ad σ) H → va_S (fAd bM ad) s.heap H locs → lv_has ls 5 [(0, .ref (ad x0)), (1, .long x1), (3, .int x3)] → W p l e { frames := 2, cells := 0, slots := 0, locals := 44 } s m args below meth c H locs 0 0 (MQ below (QL bM D cs ad Q) args s 0 0 (fAd bM ad)) (F0 m 61 ls []) := by
    intro n61
    induction n61 with
    | zero =>
      intro x1 x3 σ H locs ls h
      exact h.elim
    | succ n61 ih =>
      have hK61 := ih
      have hB102 : ∀ (n102 : Nat) (x1 : Int64) (x3 : Int32) (x4 : Int32) (σ : Sg) (H : Heap) (locs : List Loc) (ls : Array Slot), p_X6_digest_L102 Q (fun y0 y1 y3 u => p_X6_digest_L61 Q  n61 y0 y1 y3 u) n102 x0 x1 x3 x4 σ → va_P D vwCl (wl bM cs ad σ) H → va_S (fAd bM ad) s.heap H locs → lv_has ls 5 [(0, .ref (ad x0)), (1, .long x1), (3, .int x3), (4, .int x4)] → W p l e { frames := 2, cells := 0, slots := 0, locals := 44 } s m args below meth c H locs 0 0 (MQ below (QL bM D cs ad Q) args s 0 0 (fAd bM ad)) (F0 m 102 ls []) := by
        intro n102
        induction n102 with
        | zero =>
          intro x1 x3 x4 σ H locs ls h
          exact h.elim
        | succ n102 ih =>
          have hK102 := ih
          intro x1 x3 x4 σ H locs ls h hP hS hl
          rw [p_X6_digest_L102] at h
          refine lv_iload hx hb dX6_digest_102 (lv_at hl 3 rfl) ?_
          refine lv_aload_n hx hb dX6_digest_104 rfl (lv_at hl 0 rfl) ?_
          refine va_get (ci := 5) (v := .int (gI σ x0 31)) (C := RX6) (T := TX6) (N := 42) hx hb hts hi_X6 hown hE.1 hP x0 (w_5 hE hk0) rfl 31 (by decide) (hts (.fieldLink RX6 185 "HemLineModel" "years" "I") (by decide +kernel)) (fun _ h9 => h9) rfl dX6_digest_105 ?_
          refine lv_icmp_ge (tgt := 137) hx hb dX6_digest_108 (by decide) (fun c1 => ?_) (fun c1 => ?_)
          · replace h := h.1 c1
            refine lv_iinc (v := x3 + 1) (lv' := [(3, .int (x3 + 1)), (0, .ref (ad x0)), (1, .long x1), (4, .int x4)]) hx hb dX6_digest_137 hl (k := 2) rfl rfl (by decide) (by first | rfl | simp [re_cat, cat_i, cat_l, cat_r]) (fun ls hl => ?_)
            refine lv_goto (tgt := 61) hx hb dX6_digest_140 (by decide) ?_
            exact hK61 x1 (x3 + 1) σ H locs ls h hP hS (lv_sub hl [1, 2, 0] rfl)
          · replace h := h.2 c1
            refine lv_ldc2 (v := 31) hx hb hown (hts (.constantLong RX6 285 (31)) (by decide +kernel)) dX6_digest_111 ?_
            refine lv_lload_n hx hb dX6_digest_114 rfl (lv_at hl 1 rfl) ?_
            refine lv_lmul hx hb dX6_digest_115 ?_
            refine lv_aload_n hx hb dX6_digest_116 rfl (lv_at hl 0 rfl) ?_
            refine va_get (ci := 5) (v := va_re ad (tM x0 33)) (C := RX6) (T := TX6) (N := 42) hx hb hts hi_X6 hown hE.1 hP x0 (w_5 hE hk0) rfl 33 (by decide) (hts (.fieldLink RX6 71 "HemLineModel" "hems" "[I") (by decide +kernel)) (fun _ h9 => h9) rfl dX6_digest_117 ?_
            refine lv_bipush (v := 6) hx hb dX6_digest_120 (by decide) ?_
            refine lv_iload hx hb dX6_digest_122 (lv_at hl 3 rfl) ?_
            refine lv_imul hx hb dX6_digest_124 ?_
            refine lv_iload_n hx hb dX6_digest_125 rfl (lv_at hl 2 rfl) ?_
            refine lv_iadd hx hb dX6_digest_126 ?_
            obtain ⟨k2, e3, q4, i5, h⟩ := h
            refine r_iald hx hb hE hP e3 q4 i5 dX6_digest_127 ?_
            refine lv_i2l hx hb dX6_digest_128 rfl ?_
            refine lv_ladd hx hb dX6_digest_129 ?_
            refine lv_lstore_n (i := 1) (lv' := [(1, .long ((31 * x1) + ((gR σ k2 ((6 * x4) + x3).toNatClampNeg).toInt64))), (0, .ref (ad x0)), (3, .int x3), (4, .int x4)]) hx hb dX6_digest_130 rfl hl (by decide) (by first | rfl | simp [re_cat, cat_i, cat_l, cat_r]) (fun ls hl => ?_)
            refine lv_iinc (v := x4 + 1) (lv' := [(4, .int (x4 + 1)), (1, .long ((31 * x1) + ((gR σ k2 ((6 * x4) + x3).toNatClampNeg).toInt64))), (0, .ref (ad x0)), (3, .int x3)]) hx hb dX6_digest_131 hl (k := 3) rfl rfl (by decide) (by first | rfl | simp [re_cat, cat_i, cat_l, cat_r]) (fun ls hl => ?_)
            refine lv_goto (tgt := 102) hx hb dX6_digest_134 (by decide) ?_
            exact ih ((31 * x1) + ((gR σ k2 ((6 * x4) + x3).toNatClampNeg).toInt64)) x3 (x4 + 1) σ H locs ls h hP hS (lv_sub hl [2, 1, 3, 0] rfl)
      have hB72 : ∀ (n72 : Nat) (x1 : Int64) (x3 : Int32) (x4 : Int32) (σ : Sg) (H : Heap) (locs : List Loc) (ls : Array Slot), p_X6_digest_L72 Q (fun y0 y1 y3 u => p_X6_digest_L61 Q  n61 y0 y1 y3 u) n72 x0 x1 x3 x4 σ → va_P D vwCl (wl bM cs ad σ) H → va_S (fAd bM ad) s.heap H locs → lv_has ls 5 [(0, .ref (ad x0)), (1, .long x1), (3, .int x3), (4, .int x4)] → W p l e { frames := 2, cells := 0, slots := 0, locals := 44 } s m args below meth c H locs 0 0 (MQ below (QL bM D cs ad Q) args s 0 0 (fAd bM ad)) (F0 m 72 ls []) := by
        intro n72
        induction n72 with
        | zero =>
          intro x1 x3 x4 σ H locs ls h
          exact h.elim
        | succ n72 ih =>
          have hK72 := ih
          intro x1 x3 x4 σ H locs ls h hP hS hl
          rw [p_X6_digest_L72] at h
          refine lv_iload hx hb dX6_digest_72 (lv_at hl 3 rfl) ?_
          refine lv_iconst (v := 5) hx hb dX6_digest_74 (by decide) ?_
          refine lv_icmp_gt (tgt := 99) hx hb dX6_digest_75 (by decide) (fun c1 => ?_) (fun c1 => ?_)
          · replace h := h.1 c1
            refine lv_iconst (v := 0) hx hb dX6_digest_99 (by decide) ?_
            refine lv_istore (i := 4) (lv' := [(4, .int 0), (0, .ref (ad x0)), (1, .long x1), (3, .int x3)]) hx hb dX6_digest_100 hl (by decide) (by first | rfl | simp [re_cat, cat_i, cat_l, cat_r]) (fun ls hl => ?_)
            obtain ⟨n2, h⟩ := h
            exact hB102 n2 x1 x3 0 σ H locs ls h hP hS (lv_sub hl [1, 2, 3, 0] rfl)
          · replace h := h.2 c1
            refine lv_ldc2 (v := 31) hx hb hown (hts (.constantLong RX6 285 (31)) (by decide +kernel)) dX6_digest_78 ?_
            refine lv_lload_n hx hb dX6_digest_81 rfl (lv_at hl 1 rfl) ?_
            refine lv_lmul hx hb dX6_digest_82 ?_
            refine lv_aload_n hx hb dX6_digest_83 rfl (lv_at hl 0 rfl) ?_
            refine lv_iload_n hx hb dX6_digest_84 rfl (lv_at hl 2 rfl) ?_
            refine lv_iload hx hb dX6_digest_85 (lv_at hl 3 rfl) ?_
            refine f_i (kV (As := [.int x3, .int x4]) (rest := [.long (31 * x1)]) (o := some x0) rfl ⟨hx, hb, hml, hown, hts⟩ (c_X6_ofWoman l D cs ad x0 x3 x4 σ _ hk0) (cwV 2 hts gX6_digest_X6_ofWoman rfl rfl rfl (by decide +kernel) ⟨Nat.le_of_ble_eq_true rfl, Nat.le_of_ble_eq_true rfl⟩) hE hP rfl rfl (w_5 hE hk0) h rfl hl.1 rfl (by first | exact lv_room (Nat.le_of_ble_eq_true rfl) | (refine lv_room ?_; simp [re_cat, cat_i, cat_l, cat_r])) dX6_digest_87 ⟨Nat.le_refl _, Nat.le_refl _⟩) hS (fun r4 s3 H locs h hP hS => ?_)
            refine lv_i2l hx hb dX6_digest_90 rfl ?_
            refine lv_ladd hx hb dX6_digest_91 ?_
            refine lv_lstore_n (i := 1) (lv' := [(1, .long ((31 * x1) + r4.toInt64)), (0, .ref (ad x0)), (3, .int x3), (4, .int x4)]) hx hb dX6_digest_92 rfl hl (by decide) (by first | rfl | simp [re_cat, cat_i, cat_l, cat_r]) (fun ls hl => ?_)
            refine lv_iinc (v := x4 + 1) (lv' := [(4, .int (x4 + 1)), (1, .long ((31 * x1) + r4.toInt64)), (0, .ref (ad x0)), (3, .int x3)]) hx hb dX6_digest_93 hl (k := 3) rfl rfl (by decide) (by first | rfl | simp [re_cat, cat_i, cat_l, cat_r]) (fun ls hl => ?_)
            refine lv_goto (tgt := 72) hx hb dX6_digest_96 (by decide) ?_
            exact ih ((31 * x1) + r4.toInt64) x3 (x4 + 1) s3 H locs ls h hP hS (lv_sub hl [2, 1, 3, 0] rfl)
      intro x1 x3 σ H locs ls h hP hS hl
      rw [p_X6_digest_L61] at h
      refine lv_iload_n hx hb dX6_digest_61 rfl (lv_at hl 2 rfl) ?_
      refine lv_aload_n hx hb dX6_digest_62 rfl (lv_at hl 0 rfl) ?_
      refine va_get (ci := 5) (v := .int (gI σ x0 20)) (C := RX6) (T := TX6) (N := 42) hx hb hts hi_X6 hown hE.1 hP x0 (w_5 hE hk0) rfl 20 (by decide) (hts (.fieldLink RX6 167 "HemLineModel" "women" "I") (by decide +kernel)) (fun _ h9 => h9) rfl dX6_digest_63 ?_
      refine lv_icmp_ge (tgt := 143) hx hb dX6_digest_66 (by decide) (fun c1 => ?_) (fun c1 => ?_)
      · replace h := h.1 c1
        refine lv_iconst (v := 0) hx hb dX6_digest_143 (by decide) ?_
        refine lv_istore_n (i := 3) (lv' := [(3, .int 0), (0, .ref (ad x0)), (1, .long x1)]) hx hb dX6_digest_144 rfl hl (by decide) (by first | rfl | simp [re_cat, cat_i, cat_l, cat_r]) (fun ls hl => ?_)
        obtain ⟨n2, h⟩ := h
        exact hB145 n2 x1 0 σ H locs ls h hP hS (lv_sub hl [1, 2, 0] rfl)
      · replace h := h.2 c1
        refine lv_iconst (v := 0) hx hb dX6_digest_69 (by decide) ?_
        refine lv_istore (i := 4) (lv' := [(4, .int 0), (0, .ref (ad x0)), (1, .long x1), (3, .int x3)]) hx hb dX6_digest_70 hl (by decide) (by first | rfl | simp [re_cat, cat_i, cat_l, cat_r]) (fun ls hl => ?_)
        obtain ⟨n3, h⟩ := h
        exact hB72 n3 x1 x3 0 σ H locs ls h hP hS (lv_sub hl [1, 2, 3, 0] rfl)
  have hB33 : ∀ (n33 : Nat) (x1 : Int64) (x3 : Int32) (σ : Sg) (H : Heap) (locs : List Loc) (ls : Array Slot), p_X6_digest_L33 Q  n33 x0 x1 x3 σ → va_P D vwCl (wl bM cs ad σ) H → va_S (fAd bM ad) s.heap H locs → lv_has ls 5 [(0, .ref (ad x0)), (1, .long x1), (3, .int x3)] → W p l e { frames := 2, cells := 0, slots := 0, locals := 44 } s m args below meth c H locs 0 0 (MQ below (QL bM D cs ad Q) args s 0 0 (fAd bM ad)) (F0 m 33 ls []) := by
    intro n33
    induction n33 with
    | zero =>
      intro x1 x3 σ H locs ls h
      exact h.elim
    | succ n33 ih =>
      have hK33 := ih
      intro x1 x3 σ H locs ls h hP hS hl
      rw [p_X6_digest_L33] at h
      refine lv_iload_n hx hb dX6_digest_33 rfl (lv_at hl 2 rfl) ?_
      refine lv_bipush (v := 6) hx hb dX6_digest_34 (by decide) ?_
      refine lv_icmp_ge (tgt := 59) hx hb dX6_digest_36 (by decide) (fun c1 => ?_) (fun c1 => ?_)
      · replace h := h.1 c1
        refine lv_iconst (v := 0) hx hb dX6_digest_59 (by decide) ?_
        refine lv_istore_n (i := 3) (lv' := [(3, .int 0), (0, .ref (ad x0)), (1, .long x1)]) hx hb dX6_digest_60 rfl hl (by decide) (by first | rfl | simp [re_cat, cat_i, cat_l, cat_r]) (fun ls hl => ?_)
        obtain ⟨n2, h⟩ := h
        exact hB61 n2 x1 0 σ H locs ls h hP hS (lv_sub hl [1, 2, 0] rfl)
      · replace h := h.2 c1
        refine lv_ldc2 (v := 31) hx hb hown (hts (.constantLong RX6 285 (31)) (by decide +kernel)) dX6_digest_39 ?_
        refine lv_lload_n hx hb dX6_digest_42 rfl (lv_at hl 1 rfl) ?_
        refine lv_lmul hx hb dX6_digest_43 ?_
        refine lv_aload_n hx hb dX6_digest_44 rfl (lv_at hl 0 rfl) ?_
        refine va_get (ci := 5) (v := va_re ad (tM x0 29)) (C := RX6) (T := TX6) (N := 42) hx hb hts hi_X6 hown hE.1 hP x0 (w_5 hE hk0) rfl 29 (by decide) (hts (.fieldLink RX6 65 "HemLineModel" "ground" "[I") (by decide +kernel)) (fun _ h9 => h9) rfl dX6_digest_45 ?_
        refine lv_iload_n hx hb dX6_digest_48 rfl (lv_at hl 2 rfl) ?_
        obtain ⟨k3, e4, q5, i6, h⟩ := h
        refine r_iald hx hb hE hP e4 q5 i6 dX6_digest_49 ?_
        refine lv_i2l hx hb dX6_digest_50 rfl ?_
        refine lv_ladd hx hb dX6_digest_51 ?_
        refine lv_lstore_n (i := 1) (lv' := [(1, .long ((31 * x1) + ((gR σ k3 x3.toNatClampNeg).toInt64))), (0, .ref (ad x0)), (3, .int x3)]) hx hb dX6_digest_52 rfl hl (by decide) (by first | rfl | simp [re_cat, cat_i, cat_l, cat_r]) (fun ls hl => ?_)
        refine lv_iinc (v := x3 + 1) (lv' := [(3, .int (x3 + 1)), (1, .long ((31 * x1) + ((gR σ k3 x3.toNatClampNeg).toInt64))), (0, .ref (ad x0))]) hx hb dX6_digest_53 hl (k := 2) rfl rfl (by decide) (by first | rfl | simp [re_cat, cat_i, cat_l, cat_r]) (fun ls hl => ?_)
        refine lv_goto (tgt := 33) hx hb dX6_digest_56 (by decide) ?_
        exact ih ((31 * x1) + ((gR σ k3 x3.toNatClampNeg).toInt64)) (x3 + 1) σ H locs ls h hP hS (lv_sub hl [2, 1, 0] rfl)
  have hB6 : ∀ (n6 : Nat) (x1 : Int64) (x3 : Int32) (σ : Sg) (H : Heap) (locs : List Loc) (ls : Array Slot), p_X6_digest_L6 Q  n6 x0 x1 x3 σ → va_P D vwCl (wl bM cs ad σ) H → va_S (fAd bM ad) s.heap H locs → lv_has ls 5 [(0, .ref (ad x0)), (1, .long x1), (3, .int x3)] → W p l e { frames := 2, cells := 0, slots := 0, locals := 44 } s m args below meth c H locs 0 0 (MQ below (QL bM D cs ad Q) args s 0 0 (fAd bM ad)) (F0 m 6 ls []) := by
    intro n6
    induction n6 with
    | zero =>
      intro x1 x3 σ H locs ls h
      exact h.elim
    | succ n6 ih =>
      have hK6 := ih
      intro x1 x3 σ H locs ls h hP hS hl
      rw [p_X6_digest_L6] at h
      refine lv_iload_n hx hb dX6_digest_6 rfl (lv_at hl 2 rfl) ?_
      refine lv_bipush (v := 10) hx hb dX6_digest_7 (by decide) ?_
      refine lv_icmp_gt (tgt := 31) hx hb dX6_digest_9 (by decide) (fun c1 => ?_) (fun c1 => ?_)
      · replace h := h.1 c1
        refine lv_iconst (v := 0) hx hb dX6_digest_31 (by decide) ?_
        refine lv_istore_n (i := 3) (lv' := [(3, .int 0), (0, .ref (ad x0)), (1, .long x1)]) hx hb dX6_digest_32 rfl hl (by decide) (by first | rfl | simp [re_cat, cat_i, cat_l, cat_r]) (fun ls hl => ?_)
        obtain ⟨n2, h⟩ := h
        exact hB33 n2 x1 0 σ H locs ls h hP hS (lv_sub hl [1, 2, 0] rfl)
      · replace h := h.2 c1
        refine lv_ldc2 (v := 31) hx hb hown (hts (.constantLong RX6 285 (31)) (by decide +kernel)) dX6_digest_12 ?_
        refine lv_lload_n hx hb dX6_digest_15 rfl (lv_at hl 1 rfl) ?_
        refine lv_lmul hx hb dX6_digest_16 ?_
        refine lv_aload_n hx hb dX6_digest_17 rfl (lv_at hl 0 rfl) ?_
        refine lv_iload_n hx hb dX6_digest_18 rfl (lv_at hl 2 rfl) ?_
        refine f_i (kV (As := [.int x3]) (rest := [.long (31 * x1)]) (o := some x0) rfl ⟨hx, hb, hml, hown, hts⟩ (c_X6_count l D cs ad x0 x3 σ _ hk0) (cwV 1 hts gX6_digest_X6_count rfl rfl rfl (by decide +kernel) ⟨Nat.le_of_ble_eq_true rfl, Nat.le_of_ble_eq_true rfl⟩) hE hP rfl rfl (w_5 hE hk0) h rfl hl.1 rfl (by first | exact lv_room (Nat.le_of_ble_eq_true rfl) | (refine lv_room ?_; simp [re_cat, cat_i, cat_l, cat_r])) dX6_digest_19 ⟨Nat.le_refl _, Nat.le_refl _⟩) hS (fun r4 s3 H locs h hP hS => ?_)
        refine lv_i2l hx hb dX6_digest_22 rfl ?_
        refine lv_ladd hx hb dX6_digest_23 ?_
        refine lv_lstore_n (i := 1) (lv' := [(1, .long ((31 * x1) + r4.toInt64)), (0, .ref (ad x0)), (3, .int x3)]) hx hb dX6_digest_24 rfl hl (by decide) (by first | rfl | simp [re_cat, cat_i, cat_l, cat_r]) (fun ls hl => ?_)
        refine lv_iinc (v := x3 + 1) (lv' := [(3, .int (x3 + 1)), (1, .long ((31 * x1) + r4.toInt64)), (0, .ref (ad x0))]) hx hb dX6_digest_25 hl (k := 2) rfl rfl (by decide) (by first | rfl | simp [re_cat, cat_i, cat_l, cat_r]) (fun ls hl => ?_)
        refine lv_goto (tgt := 6) hx hb dX6_digest_28 (by decide) ?_
        exact ih ((31 * x1) + r4.toInt64) (x3 + 1) s3 H locs ls h hP hS (lv_sub hl [2, 1, 0] rfl)
  unfold p_X6_digest at h
  refine lv_ldc2 (v := 17) hx hb hown (hts (.constantLong RX6 283 (17)) (by decide +kernel)) dX6_digest_0 ?_
  refine lv_lstore_n (i := 1) (lv' := [(1, .long 17), (0, .ref (ad x0))]) hx hb dX6_digest_3 rfl hl (by decide) (by first | rfl | simp [re_cat, cat_i, cat_l, cat_r]) (fun ls hl => ?_)
  refine lv_iconst (v := 0) hx hb dX6_digest_4 (by decide) ?_
  refine lv_istore_n (i := 3) (lv' := [(3, .int 0), (1, .long 17), (0, .ref (ad x0))]) hx hb dX6_digest_5 rfl hl (by decide) (by first | rfl | simp [re_cat, cat_i, cat_l, cat_r]) (fun ls hl => ?_)
  obtain ⟨n1, h⟩ := h
  exact hB6 n1 17 0 s0 _ _ ls h hP hS (lv_sub hl [2, 1, 0] rfl)
