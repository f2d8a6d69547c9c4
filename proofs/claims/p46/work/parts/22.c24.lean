def p_X2_isOf_b40 (Q : Int32 → Sg → Prop)   (s : Sg) : Prop := Q 1 s
def p_X2_isOf_b56 (Q : Int32 → Sg → Prop)   (s : Sg) : Prop := Q 1 s
def p_X2_isOf (x0 : Int32) (x1 : Int32) (s : Sg) (Q : Int32 → Sg → Prop) : Prop := ((x1 = 0 → Q 1 s) ∧ (¬ x1 = 0 → ((x1 = 1 → ((x0 = 1 → p_X2_isOf_b40 Q  s) ∧ (¬ x0 = 1 → ((x0 = 4 → p_X2_isOf_b40 Q  s) ∧ (¬ x0 = 4 → Q 0 s))))) ∧ (¬ x1 = 1 → ((x1 = 2 → ((x0 = 2 → p_X2_isOf_b56 Q  s) ∧ (¬ x0 = 2 → ((x0 = 5 → p_X2_isOf_b56 Q  s) ∧ (¬ x0 = 5 → Q 0 s))))) ∧ (¬ x1 = 2 → ((x0 = x1 → Q 1 s) ∧ (¬ x0 = x1 → Q 0 s))))))))
set_option maxHeartbeats 4000000 in
set_option maxRecDepth 100000 in
theorem c_X2_isOf (l : Launch) (D : va_G) (cs : Cs) (ad : Nat → Nat) (x0 : Int32) (x1 : Int32) (s0 : Sg) (Q : Int32 → Sg → Prop) : Met l yX2_isOf wsX2_isOf { frames := 0, cells := 0, slots := 0, locals := 0 } (Pc0 bX D cs ad [.int x0, .int x1] s0 (p_X2_isOf x0 x1 s0 Q)) (QI bX D cs ad Q) 0 0 (fAd bX ad) := by
  refine Met.ofW (cc := cX2_isOf) (maxL := 2) (ret := (some .boolean)) (by decide) rfl ?_
  intro p e s m args below meth c s₁ B0 hml hv
  obtain ⟨ha, hP, hE, h⟩ := hv
  have hx := B0.exec
  have hb := B0.bytes
  have hr := B0.returns
  have hts := atoms_spec (ws := wsX2_isOf) B0.pre
  have hown : s.vm.findClass RX2 = some m.cls := findClass_of_methodNamed B0.named
  have hlocks := B0.notSynchronized
  have hS : va_S (fAd bX ad) s.heap s.heap [] := va_S.rf
  have hl := lv_entry ([.int x0, .int x1]) (n := 2) (by first | exact Nat.le_of_ble_eq_true rfl | simp [lg_sl, re_cat, cat_i, cat_l, cat_r])
  rw [show entryFrame m args 2 = entryFrame m ([.int x0, .int x1] : List Value).toArray 2 by rw [ha], lg_entry_eq]
  generalize (lg_sl ([.int x0, .int x1]) ++ List.replicate (2 - (lg_sl ([.int x0, .int x1])).length) Slot.unset).toArray = ls at hl ⊢
  have hl : lv_has ls 2 [(0, .int x0), (1, .int x1)] := by first | exact hl | simpa [lv_args, re_cat, cat_i, cat_l, cat_r] using hl
  have hB40 : ∀  (σ : Sg) (H : Heap) (locs : List Loc) (ls : Array Slot), p_X2_isOf_b40 Q   σ → va_P D vwCl (wl bX cs ad σ) H → va_S (fAd bX ad) s.heap H locs → lv_has ls 2 [] → W p l e { frames := 0, cells := 0, slots := 0, locals := 0 } s m args below meth c H locs 0 0 (MQ below (QI bX D cs ad Q) args s 0 0 (fAd bX ad)) (F0 m 40 ls []) := by
    intro  σ H locs ls h hP hS hl
    unfold p_X2_isOf_b40 at h
    refine lv_iconst (v := 1) hx hb dX2_isOf_40 (by decide) ?_
    refine lv_goto (tgt := 45) hx hb dX2_isOf_41 (by decide) ?_
    exact W.zret hx hb hr rfl (fun t ht hW => ⟨⟨_, _, rfl, h, pw ht hP⟩, hS.F ht⟩) hS.2.2 dX2_isOf_45
  have hB56 : ∀  (σ : Sg) (H : Heap) (locs : List Loc) (ls : Array Slot), p_X2_isOf_b56 Q   σ → va_P D vwCl (wl bX cs ad σ) H → va_S (fAd bX ad) s.heap H locs → lv_has ls 2 [] → W p l e { frames := 0, cells := 0, slots := 0, locals := 0 } s m args below meth c H locs 0 0 (MQ below (QI bX D cs ad Q) args s 0 0 (fAd bX ad)) (F0 m 56 ls []) := by
    intro  σ H locs ls h hP hS hl
    unfold p_X2_isOf_b56 at h
    refine lv_iconst (v := 1) hx hb dX2_isOf_56 (by decide) ?_
    refine lv_goto (tgt := 61) hx hb dX2_isOf_57 (by decide) ?_
    exact W.zret hx hb hr rfl (fun t ht hW => ⟨⟨_, _, rfl, h, pw ht hP⟩, hS.F ht⟩) hS.2.2 dX2_isOf_61
  unfold p_X2_isOf at h
  refine lv_iload_n hx hb dX2_isOf_0 rfl (lv_at hl 1 rfl) ?_
  by_cases c2 : x1 = 0
  · replace h := h.1 c2
    refine lv_tableIn (off := 27) (tgt := 28) hx hb dX2_isOf_1 (by rw [c2]; decide) (by rw [c2]; decide) (by rw [c2]; decide) (by decide) ?_
    refine lv_iconst (v := 1) hx hb dX2_isOf_28 (by decide) ?_
    exact W.zret hx hb hr rfl (fun t ht hW => ⟨⟨_, _, rfl, h, pw ht hP⟩, hS.F ht⟩) hS.2.2 dX2_isOf_29
  replace h := h.2 c2
  by_cases c3 : x1 = 1
  · replace h := h.1 c3
    refine lv_tableIn (off := 29) (tgt := 30) hx hb dX2_isOf_1 (by rw [c3]; decide) (by rw [c3]; decide) (by rw [c3]; decide) (by decide) ?_
    refine lv_iload_n hx hb dX2_isOf_30 rfl (lv_at hl 0 rfl) ?_
    refine lv_iconst (v := 1) hx hb dX2_isOf_31 (by decide) ?_
    refine lv_icmp_eq (tgt := 40) hx hb dX2_isOf_32 (by decide) (fun c4 => ?_) (fun c4 => ?_)
    · replace h := h.1 c4
      exact hB40  s0 _ _ ls h hP hS (lv_sub hl [] rfl)
    · replace h := h.2 c4
      refine lv_iload_n hx hb dX2_isOf_35 rfl (lv_at hl 0 rfl) ?_
      refine lv_iconst (v := 4) hx hb dX2_isOf_36 (by decide) ?_
      refine lv_icmp_ne (tgt := 44) hx hb dX2_isOf_37 (by decide) (fun c5 => ?_) (fun c5 => ?_)
      · replace h := h.2 c5
        refine lv_iconst (v := 0) hx hb dX2_isOf_44 (by decide) ?_
        exact W.zret hx hb hr rfl (fun t ht hW => ⟨⟨_, _, rfl, h, pw ht hP⟩, hS.F ht⟩) hS.2.2 dX2_isOf_45
      · replace h := h.1 c5
        exact hB40  s0 _ _ ls h hP hS (lv_sub hl [] rfl)
  replace h := h.2 c3
  by_cases c6 : x1 = 2
  · replace h := h.1 c6
    refine lv_tableIn (off := 45) (tgt := 46) hx hb dX2_isOf_1 (by rw [c6]; decide) (by rw [c6]; decide) (by rw [c6]; decide) (by decide) ?_
    refine lv_iload_n hx hb dX2_isOf_46 rfl (lv_at hl 0 rfl) ?_
    refine lv_iconst (v := 2) hx hb dX2_isOf_47 (by decide) ?_
    refine lv_icmp_eq (tgt := 56) hx hb dX2_isOf_48 (by decide) (fun c7 => ?_) (fun c7 => ?_)
    · replace h := h.1 c7
      exact hB56  s0 _ _ ls h hP hS (lv_sub hl [] rfl)
    · replace h := h.2 c7
      refine lv_iload_n hx hb dX2_isOf_51 rfl (lv_at hl 0 rfl) ?_
      refine lv_iconst (v := 5) hx hb dX2_isOf_52 (by decide) ?_
      refine lv_icmp_ne (tgt := 60) hx hb dX2_isOf_53 (by decide) (fun c8 => ?_) (fun c8 => ?_)
      · replace h := h.2 c8
        refine lv_iconst (v := 0) hx hb dX2_isOf_60 (by decide) ?_
        exact W.zret hx hb hr rfl (fun t ht hW => ⟨⟨_, _, rfl, h, pw ht hP⟩, hS.F ht⟩) hS.2.2 dX2_isOf_61
      · replace h := h.1 c8
        exact hB56  s0 _ _ ls h hP hS (lv_sub hl [] rfl)
  replace h := h.2 c6
  refine lv_tableOut (tgt := 62) hx hb dX2_isOf_1 (by have := ne_toInt (n := 0) c2 (by decide); have := ne_toInt (n := 1) c3 (by decide); have := ne_toInt (n := 2) c6 (by decide); omega) (by decide) ?_
  refine lv_iload_n hx hb dX2_isOf_62 rfl (lv_at hl 0 rfl) ?_
  refine lv_iload_n hx hb dX2_isOf_63 rfl (lv_at hl 1 rfl) ?_
  refine lv_icmp_ne (tgt := 71) hx hb dX2_isOf_64 (by decide) (fun c9 => ?_) (fun c9 => ?_)
  · replace h := h.2 c9
    refine lv_iconst (v := 0) hx hb dX2_isOf_71 (by decide) ?_
    exact W.zret hx hb hr rfl (fun t ht hW => ⟨⟨_, _, rfl, h, pw ht hP⟩, hS.F ht⟩) hS.2.2 dX2_isOf_72
  · replace h := h.1 c9
    refine lv_iconst (v := 1) hx hb dX2_isOf_67 (by decide) ?_
    refine lv_goto (tgt := 72) hx hb dX2_isOf_68 (by decide) ?_
    exact W.zret hx hb hr rfl (fun t ht hW => ⟨⟨_, _, rfl, h, pw ht hP⟩, hS.F ht⟩) hS.2.2 dX2_isOf_72
def p_X2_hemBy (x0 : Int32) (x1 : Int32) (x2 : Int32) (x3 : Int32) (x4 : Int32) (s : Sg) (Q : Int32 → Sg → Prop) : Prop := ((x0 = 1 → Q ((if 2 < ((if x2 < x1 then x2 else x1)) then ((if x2 < x1 then x2 else x1)) else 2)) s) ∧ (¬ x0 = 1 → ((x0 = 2 → Q ((if 0 < (((if x2 < x1 then x2 else x1)) - x3) then (((if x2 < x1 then x2 else x1)) - x3) else 0)) s) ∧ (¬ x0 = 2 → ((x0 = 3 → Q ((if (x2 / 2) < ((if x2 < x1 then x2 else x1)) then (x2 / 2) else ((if x2 < x1 then x2 else x1)))) s) ∧ (¬ x0 = 3 → ((x0 = 4 → Q (((if 2 < ((if x2 < x1 then x2 else x1)) then ((if x2 < x1 then x2 else x1)) else 2)) + 1) s) ∧ (¬ x0 = 4 → ((x0 = 5 → (((x4 &&& 1) = 0 → Q ((if x2 < x1 then x2 else x1)) s) ∧ (¬ (x4 &&& 1) = 0 → Q ((if 0 < (((if x2 < x1 then x2 else x1)) - x3) then (((if x2 < x1 then x2 else x1)) - x3) else 0)) s))) ∧ (¬ x0 = 5 → Q ((if x2 < x1 then x2 else x1)) s))))))))))
set_option maxHeartbeats 4000000 in
set_option maxRecDepth 100000 in
theorem c_X2_hemBy (l : Launch) (D : va_G) (cs : Cs) (ad : Nat → Nat) (x0 : Int32) (x1 : Int32) (x2 : Int32) (x3 : Int32) (x4 : Int32) (s0 : Sg) (Q : Int32 → Sg → Prop) : Met l yX2_hemBy wsX2_hemBy { frames := 1, cells := 0, slots := 0, locals := 21 } (Pc0 bX D cs ad [.int x0, .int x1, .int x2, .int x3, .int x4] s0 (p_X2_hemBy x0 x1 x2 x3 x4 s0 Q)) (QI bX D cs ad Q) 0 0 (fAd bX ad) := by
  refine Met.ofW (cc := cX2_hemBy) (maxL := 6) (ret := (some .int)) (by decide) rfl ?_
  intro p e s m args below meth c s₁ B0 hml hv
  obtain ⟨ha, hP, hE, h⟩ := hv
  have hx := B0.exec
  have hb := B0.bytes
  have hr := B0.returns
  have hts := atoms_spec (ws := wsX2_hemBy) B0.pre
  have hown : s.vm.findClass RX2 = some m.cls := findClass_of_methodNamed B0.named
  have hlocks := B0.notSynchronized
  have hS : va_S (fAd bX ad) s.heap s.heap [] := va_S.rf
  have hl := lv_entry ([.int x0, .int x1, .int x2, .int x3, .int x4]) (n := 6) (by first | exact Nat.le_of_ble_eq_true rfl | simp [lg_sl, re_cat, cat_i, cat_l, cat_r])
  rw [show entryFrame m args 6 = entryFrame m ([.int x0, .int x1, .int x2, .int x3, .int x4] : List Value).toArray 6 by rw [ha], lg_entry_eq]
  generalize (lg_sl ([.int x0, .int x1, .int x2, .int x3, .int x4]) ++ List.replicate (6 - (lg_sl ([.int x0, .int x1, .int x2, .int x3, .int x4])).length) Slot.unset).toArray = ls at hl ⊢
  have hl : lv_has ls 6 [(0, .int x0), (1, .int x1), (2, .int x2), (3, .int x3), (4, .int x4)] := by first | exact hl | simpa [lv_args, re_cat, cat_i, cat_l, cat_r] using hl
  unfold p_X2_hemBy at h
  refine lv_iload_n hx hb dX2_hemBy_0 rfl (lv_at hl 1 rfl) ?_
  refine lv_iload_n hx hb dX2_hemBy_1 rfl (lv_at hl 2 rfl) ?_
  refine va_mmin hx hb (hml.trans hl.1.symm) hown (hts (.methodLink RX2 9 Lib.Math.min.name) (by decide +kernel)) (hts (.static Lib.Math.min.name) (by decide +kernel)) (hts (.initialized "java/lang/Math") (by decide +kernel)) (hts (.code Lib.Math.min.name Lib.Math.min.code 2 (some .int)) (by decide +kernel)) (Nat.le_of_ble_eq_true rfl) (by first | exact Nat.le_of_ble_eq_true rfl | (simp only [List.map, re_cat, cat_i, cat_l, cat_r, List.sum_cons, List.sum_nil]; exact Nat.le_of_ble_eq_true rfl)) (Nat.le_refl _) (Nat.le_refl _) dX2_hemBy_2 ?_
  refine lv_istore (i := 5) (lv' := [(5, .int ((if x2 < x1 then x2 else x1))), (0, .int x0), (1, .int x1), (2, .int x2), (3, .int x3), (4, .int x4)]) hx hb dX2_hemBy_5 hl (by decide) (by first | rfl | simp [re_cat, cat_i, cat_l, cat_r]) (fun ls hl => ?_)
  refine lv_iload_n hx hb dX2_hemBy_7 rfl (lv_at hl 1 rfl) ?_
  by_cases c2 : x0 = 1
  · replace h := h.1 c2
    refine lv_tableIn (off := 36) (tgt := 44) hx hb dX2_hemBy_8 (by rw [c2]; decide) (by rw [c2]; decide) (by rw [c2]; decide) (by decide) ?_
    refine lv_iconst (v := 2) hx hb dX2_hemBy_44 (by decide) ?_
    refine lv_iload hx hb dX2_hemBy_45 (lv_at hl 0 rfl) ?_
    refine va_mmax hx hb (hml.trans hl.1.symm) hown (hts (.methodLink RX2 17 Lib.Math.max.name) (by decide +kernel)) (hts (.static Lib.Math.max.name) (by decide +kernel)) (hts (.initialized "java/lang/Math") (by decide +kernel)) (hts (.code Lib.Math.max.name Lib.Math.max.code 2 (some .int)) (by decide +kernel)) (Nat.le_of_ble_eq_true rfl) (by first | exact Nat.le_of_ble_eq_true rfl | (simp only [List.map, re_cat, cat_i, cat_l, cat_r, List.sum_cons, List.sum_nil]; exact Nat.le_of_ble_eq_true rfl)) (Nat.le_refl _) (Nat.le_refl _) dX2_hemBy_47 ?_
    exact W.iret hx hb hr (fun t ht hW => ⟨⟨_, _, rfl, h, pw ht hP⟩, hS.F ht⟩) hS.2.2 dX2_hemBy_50
  replace h := h.2 c2
  by_cases c3 : x0 = 2
  · replace h := h.1 c3
    refine lv_tableIn (off := 52) (tgt := 60) hx hb dX2_hemBy_8 (by rw [c3]; decide) (by rw [c3]; decide) (by rw [c3]; decide) (by decide) ?_
    refine lv_iconst (v := 0) hx hb dX2_hemBy_60 (by decide) ?_
    refine lv_iload hx hb dX2_hemBy_61 (lv_at hl 0 rfl) ?_
    refine lv_iload_n hx hb dX2_hemBy_63 rfl (lv_at hl 4 rfl) ?_
    refine lv_isub hx hb dX2_hemBy_64 ?_
    refine va_mmax hx hb (hml.trans hl.1.symm) hown (hts (.methodLink RX2 17 Lib.Math.max.name) (by decide +kernel)) (hts (.static Lib.Math.max.name) (by decide +kernel)) (hts (.initialized "java/lang/Math") (by decide +kernel)) (hts (.code Lib.Math.max.name Lib.Math.max.code 2 (some .int)) (by decide +kernel)) (Nat.le_of_ble_eq_true rfl) (by first | exact Nat.le_of_ble_eq_true rfl | (simp only [List.map, re_cat, cat_i, cat_l, cat_r, List.sum_cons, List.sum_nil]; exact Nat.le_of_ble_eq_true rfl)) (Nat.le_refl _) (Nat.le_refl _) dX2_hemBy_65 ?_
    exact W.iret hx hb hr (fun t ht hW => ⟨⟨_, _, rfl, h, pw ht hP⟩, hS.F ht⟩) hS.2.2 dX2_hemBy_68
  replace h := h.2 c3
  by_cases c4 : x0 = 3
  · replace h := h.1 c4
    refine lv_tableIn (off := 82) (tgt := 90) hx hb dX2_hemBy_8 (by rw [c4]; decide) (by rw [c4]; decide) (by rw [c4]; decide) (by decide) ?_
    refine lv_iload hx hb dX2_hemBy_90 (lv_at hl 0 rfl) ?_
    refine lv_iload_n hx hb dX2_hemBy_92 rfl (lv_at hl 3 rfl) ?_
    refine lv_iconst (v := 2) hx hb dX2_hemBy_93 (by decide) ?_
    refine lv_idiv hx hb dX2_hemBy_94 (by decide) ?_
    refine va_mmin hx hb (hml.trans hl.1.symm) hown (hts (.methodLink RX2 9 Lib.Math.min.name) (by decide +kernel)) (hts (.static Lib.Math.min.name) (by decide +kernel)) (hts (.initialized "java/lang/Math") (by decide +kernel)) (hts (.code Lib.Math.min.name Lib.Math.min.code 2 (some .int)) (by decide +kernel)) (Nat.le_of_ble_eq_true rfl) (by first | exact Nat.le_of_ble_eq_true rfl | (simp only [List.map, re_cat, cat_i, cat_l, cat_r, List.sum_cons, List.sum_nil]; exact Nat.le_of_ble_eq_true rfl)) (Nat.le_refl _) (Nat.le_refl _) dX2_hemBy_95 ?_
    exact W.iret hx hb hr (fun t ht hW => ⟨⟨_, _, rfl, h, pw ht hP⟩, hS.F ht⟩) hS.2.2 dX2_hemBy_98
  replace h := h.2 c4
  by_cases c5 : x0 = 4
  · replace h := h.1 c5
    refine lv_tableIn (off := 43) (tgt := 51) hx hb dX2_hemBy_8 (by rw [c5]; decide) (by rw [c5]; decide) (by rw [c5]; decide) (by decide) ?_
    refine lv_iconst (v := 2) hx hb dX2_hemBy_51 (by decide) ?_
    refine lv_iload hx hb dX2_hemBy_52 (lv_at hl 0 rfl) ?_
    refine va_mmax hx hb (hml.trans hl.1.symm) hown (hts (.methodLink RX2 17 Lib.Math.max.name) (by decide +kernel)) (hts (.static Lib.Math.max.name) (by decide +kernel)) (hts (.initialized "java/lang/Math") (by decide +kernel)) (hts (.code Lib.Math.max.name Lib.Math.max.code 2 (some .int)) (by decide +kernel)) (Nat.le_of_ble_eq_true rfl) (by first | exact Nat.le_of_ble_eq_true rfl | (simp only [List.map, re_cat, cat_i, cat_l, cat_r, List.sum_cons, List.sum_nil]; exact Nat.le_of_ble_eq_true rfl)) (Nat.le_refl _) (Nat.le_refl _) dX2_hemBy_54 ?_
    refine lv_iconst (v := 1) hx hb dX2_hemBy_57 (by decide) ?_
    refine lv_iadd hx hb dX2_hemBy_58 ?_
    exact W.iret hx hb hr (fun t ht hW => ⟨⟨_, _, rfl, h, pw ht hP⟩, hS.F ht⟩) hS.2.2 dX2_hemBy_59
  replace h := h.2 c5
  by_cases c6 : x0 = 5
  · replace h := h.1 c6
    refine lv_tableIn (off := 61) (tgt := 69) hx hb dX2_hemBy_8 (by rw [c6]; decide) (by rw [c6]; decide) (by rw [c6]; decide) (by decide) ?_
    refine lv_iload hx hb dX2_hemBy_69 (lv_at hl 5 rfl) ?_
    refine lv_iconst (v := 1) hx hb dX2_hemBy_71 (by decide) ?_
    refine lv_iand hx hb dX2_hemBy_72 ?_
    refine lv_if_ne (tgt := 81) hx hb dX2_hemBy_73 (by decide) (fun c7 => ?_) (fun c7 => ?_)
    · replace h := h.2 c7
      refine lv_iconst (v := 0) hx hb dX2_hemBy_81 (by decide) ?_
      refine lv_iload hx hb dX2_hemBy_82 (lv_at hl 0 rfl) ?_
      refine lv_iload_n hx hb dX2_hemBy_84 rfl (lv_at hl 4 rfl) ?_
      refine lv_isub hx hb dX2_hemBy_85 ?_
      refine va_mmax hx hb (hml.trans hl.1.symm) hown (hts (.methodLink RX2 17 Lib.Math.max.name) (by decide +kernel)) (hts (.static Lib.Math.max.name) (by decide +kernel)) (hts (.initialized "java/lang/Math") (by decide +kernel)) (hts (.code Lib.Math.max.name Lib.Math.max.code 2 (some .int)) (by decide +kernel)) (Nat.le_of_ble_eq_true rfl) (by first | exact Nat.le_of_ble_eq_true rfl | (simp only [List.map, re_cat, cat_i, cat_l, cat_r, List.sum_cons, List.sum_nil]; exact Nat.le_of_ble_eq_true rfl)) (Nat.le_refl _) (Nat.le_refl _) dX2_hemBy_86 ?_
      exact W.iret hx hb hr (fun t ht hW => ⟨⟨_, _, rfl, h, pw ht hP⟩, hS.F ht⟩) hS.2.2 dX2_hemBy_89
    · replace h := h.1 c7
      refine lv_iload hx hb dX2_hemBy_76 (lv_at hl 0 rfl) ?_
      refine lv_goto (tgt := 89) hx hb dX2_hemBy_78 (by decide) ?_
      exact W.iret hx hb hr (fun t ht hW => ⟨⟨_, _, rfl, h, pw ht hP⟩, hS.F ht⟩) hS.2.2 dX2_hemBy_89
  replace h := h.2 c6
  refine lv_tableOut (tgt := 99) hx hb dX2_hemBy_8 (by have := ne_toInt (n := 1) c2 (by decide); have := ne_toInt (n := 2) c3 (by decide); have := ne_toInt (n := 3) c4 (by decide); have := ne_toInt (n := 4) c5 (by decide); have := ne_toInt (n := 5) c6 (by decide); omega) (by decide) ?_
  refine lv_iload hx hb dX2_hemBy_99 (lv_at hl 0 rfl) ?_
  exact W.iret hx hb hr (fun t ht hW => ⟨⟨_, _, rfl, h, pw ht hP⟩, hS.F ht⟩) hS.2.2 dX2_hemBy_101
def p_X2_byLetter (x0 : Int32) (s : Sg) (Q : Int32 → Sg → Prop) : Prop := ((x0 = 97 → Q 5 s) ∧ (¬ x0 = 97 → ((x0 = 98 → Q 1 s) ∧ (¬ x0 = 98 → ((x0 = 103 → Q 4 s) ∧ (¬ x0 = 103 → ((x0 = 108 → Q 2 s) ∧ (¬ x0 = 108 → ((x0 = 118 → Q 3 s) ∧ (¬ x0 = 118 → ((x0 = 119 → Q 0 s) ∧ (¬ x0 = 119 → Q ((-9)) s))))))))))))
set_option maxHeartbeats 4000000 in
set_option maxRecDepth 100000 in
theorem c_X2_byLetter (l : Launch) (D : va_G) (cs : Cs) (ad : Nat → Nat) (x0 : Int32) (s0 : Sg) (Q : Int32 → Sg → Prop) : Met l yX2_byLetter wsX2_byLetter { frames := 0, cells := 0, slots := 0, locals := 0 } (Pc0 bX D cs ad [.int x0] s0 (p_X2_byLetter x0 s0 Q)) (QI bX D cs ad Q) 0 0 (fAd bX ad) := by
  refine Met.ofW (cc := cX2_byLetter) (maxL := 1) (ret := (some .int)) (by decide) rfl ?_
  intro p e s m args below meth c s₁ B0 hml hv
  obtain ⟨ha, hP, hE, h⟩ := hv
  have hx := B0.exec
  have hb := B0.bytes
  have hr := B0.returns
  have hts := atoms_spec (ws := wsX2_byLetter) B0.pre
  have hown : s.vm.findClass RX2 = some m.cls := findClass_of_methodNamed B0.named
  have hlocks := B0.notSynchronized
  have hS : va_S (fAd bX ad) s.heap s.heap [] := va_S.rf
  have hl := lv_entry ([.int x0]) (n := 1) (by first | exact Nat.le_of_ble_eq_true rfl | simp [lg_sl, re_cat, cat_i, cat_l, cat_r])
  rw [show entryFrame m args 1 = entryFrame m ([.int x0] : List Value).toArray 1 by rw [ha], lg_entry_eq]
  generalize (lg_sl ([.int x0]) ++ List.replicate (1 - (lg_sl ([.int x0])).length) Slot.unset).toArray = ls at hl ⊢
  have hl : lv_has ls 1 [(0, .int x0)] := by first | exact hl | simpa [lv_args, re_cat, cat_i, cat_l, cat_r] using hl
  unfold p_X2_byLetter at h
  refine lv_iload_n hx hb dX2_byLetter_0 rfl (lv_at hl 0 rfl) ?_
  by_cases c2 : x0 = 97
  · replace h := h.1 c2
    refine lv_lookup (off := 69) (tgt := 70) hx hb dX2_byLetter_1 (by decide) (by rw [c2]; decide) (by decide) ?_
    refine lv_iconst (v := 5) hx hb dX2_byLetter_70 (by decide) ?_
    exact W.iret hx hb hr (fun t ht hW => ⟨⟨_, _, rfl, h, pw ht hP⟩, hS.F ht⟩) hS.2.2 dX2_byLetter_71
  replace h := h.2 c2
  by_cases c3 : x0 = 98
  · replace h := h.1 c3
    refine lv_lookup (off := 61) (tgt := 62) hx hb dX2_byLetter_1 (by decide) (by rw [c3]; decide) (by decide) ?_
    refine lv_iconst (v := 1) hx hb dX2_byLetter_62 (by decide) ?_
    exact W.iret hx hb hr (fun t ht hW => ⟨⟨_, _, rfl, h, pw ht hP⟩, hS.F ht⟩) hS.2.2 dX2_byLetter_63
  replace h := h.2 c3
  by_cases c4 : x0 = 103
  · replace h := h.1 c4
    refine lv_lookup (off := 67) (tgt := 68) hx hb dX2_byLetter_1 (by decide) (by rw [c4]; decide) (by decide) ?_
    refine lv_iconst (v := 4) hx hb dX2_byLetter_68 (by decide) ?_
    exact W.iret hx hb hr (fun t ht hW => ⟨⟨_, _, rfl, h, pw ht hP⟩, hS.F ht⟩) hS.2.2 dX2_byLetter_69
  replace h := h.2 c4
  by_cases c5 : x0 = 108
  · replace h := h.1 c5
    refine lv_lookup (off := 63) (tgt := 64) hx hb dX2_byLetter_1 (by decide) (by rw [c5]; decide) (by decide) ?_
    refine lv_iconst (v := 2) hx hb dX2_byLetter_64 (by decide) ?_
    exact W.iret hx hb hr (fun t ht hW => ⟨⟨_, _, rfl, h, pw ht hP⟩, hS.F ht⟩) hS.2.2 dX2_byLetter_65
  replace h := h.2 c5
  by_cases c6 : x0 = 118
  · replace h := h.1 c6
    refine lv_lookup (off := 65) (tgt := 66) hx hb dX2_byLetter_1 (by decide) (by rw [c6]; decide) (by decide) ?_
    refine lv_iconst (v := 3) hx hb dX2_byLetter_66 (by decide) ?_
    exact W.iret hx hb hr (fun t ht hW => ⟨⟨_, _, rfl, h, pw ht hP⟩, hS.F ht⟩) hS.2.2 dX2_byLetter_67
  replace h := h.2 c6
  by_cases c7 : x0 = 119
  · replace h := h.1 c7
    refine lv_lookup (off := 59) (tgt := 60) hx hb dX2_byLetter_1 (by decide) (by rw [c7]; decide) (by decide) ?_
    refine lv_iconst (v := 0) hx hb dX2_byLetter_60 (by decide) ?_
    exact W.iret hx hb hr (fun t ht hW => ⟨⟨_, _, rfl, h, pw ht hP⟩, hS.F ht⟩) hS.2.2 dX2_byLetter_61
  replace h := h.2 c7
  refine lv_lookup (off := 71) (tgt := 72) hx hb dX2_byLetter_1 (by decide) (by have c2 := ne_toInt (n := 97) c2 (by decide); have c3 := ne_toInt (n := 98) c3 (by decide); have c4 := ne_toInt (n := 103) c4 (by decide); have c5 := ne_toInt (n := 108) c5 (by decide); have c6 := ne_toInt (n := 118) c6 (by decide); have c7 := ne_toInt (n := 119) c7 (by decide); simp [Op.lookupswitch.offset, Ne.symm c2, c2, Ne.symm c3, c3, Ne.symm c4, c4, Ne.symm c5, c5, Ne.symm c6, c6, Ne.symm c7, c7]) (by decide) ?_
  refine lv_bipush (v := (-9)) hx hb dX2_byLetter_72 (by decide) ?_
  exact W.iret hx hb hr (fun t ht hW => ⟨⟨_, _, rfl, h, pw ht hP⟩, hS.F ht⟩) hS.2.2 dX2_byLetter_74
def p_X2_markOf (x0 : Int32) (x1 : Int32) (s : Sg) (Q : Int32 → Sg → Prop) : Prop := ((x0 = 1 → ((x1 < 2 → Q 0 s) ∧ (¬ x1 < 2 → Q 1 s))) ∧ (¬ x0 = 1 → ((x0 = 2 → Q (-x1) s) ∧ (¬ x0 = 2 → ((x0 = 3 → ((0 ≤ x1 → Q 0 s) ∧ (¬ 0 ≤ x1 → Q 1 s))) ∧ (¬ x0 = 3 → ((x0 = 4 → Q x1 s) ∧ (¬ x0 = 4 → Q 0 s))))))))
set_option maxHeartbeats 4000000 in
set_option maxRecDepth 100000 in
theorem c_X2_markOf (l : Launch) (D : va_G) (cs : Cs) (ad : Nat → Nat) (x0 : Int32) (x1 : Int32) (s0 : Sg) (Q : Int32 → Sg → Prop) : Met l yX2_markOf wsX2_markOf { frames := 0, cells := 0, slots := 0, locals := 0 } (Pc0 bX D cs ad [.int x0, .int x1] s0 (p_X2_markOf x0 x1 s0 Q)) (QI bX D cs ad Q) 0 0 (fAd bX ad) := by
  refine Met.ofW (cc := cX2_markOf) (maxL := 2) (ret := (some .int)) (by decide) rfl ?_
  intro p e s m args below meth c s₁ B0 hml hv
  obtain ⟨ha, hP, hE, h⟩ := hv
  have hx := B0.exec
  have hb := B0.bytes
  have hr := B0.returns
  have hts := atoms_spec (ws := wsX2_markOf) B0.pre
  have hown : s.vm.findClass RX2 = some m.cls := findClass_of_methodNamed B0.named
  have hlocks := B0.notSynchronized
  have hS : va_S (fAd bX ad) s.heap s.heap [] := va_S.rf
  have hl := lv_entry ([.int x0, .int x1]) (n := 2) (by first | exact Nat.le_of_ble_eq_true rfl | simp [lg_sl, re_cat, cat_i, cat_l, cat_r])
  rw [show entryFrame m args 2 = entryFrame m ([.int x0, .int x1] : List Value).toArray 2 by rw [ha], lg_entry_eq]
  generalize (lg_sl ([.int x0, .int x1]) ++ List.replicate (2 - (lg_sl ([.int x0, .int x1])).length) Slot.unset).toArray = ls at hl ⊢
  have hl : lv_has ls 2 [(0, .int x0), (1, .int x1)] := by first | exact hl | simpa [lv_args, re_cat, cat_i, cat_l, cat_r] using hl
  unfold p_X2_markOf at h
  refine lv_iload_n hx hb dX2_markOf_0 rfl (lv_at hl 0 rfl) ?_
  by_cases c2 : x0 = 1
  · replace h := h.1 c2
    refine lv_tableIn (off := 31) (tgt := 32) hx hb dX2_markOf_1 (by rw [c2]; decide) (by rw [c2]; decide) (by rw [c2]; decide) (by decide) ?_
    refine lv_iload_n hx hb dX2_markOf_32 rfl (lv_at hl 1 rfl) ?_
    refine lv_iconst (v := 2) hx hb dX2_markOf_33 (by decide) ?_
    refine lv_icmp_lt (tgt := 41) hx hb dX2_markOf_34 (by decide) (fun c3 => ?_) (fun c3 => ?_)
    · replace h := h.1 c3
      refine lv_iconst (v := 0) hx hb dX2_markOf_41 (by decide) ?_
      exact W.iret hx hb hr (fun t ht hW => ⟨⟨_, _, rfl, h, pw ht hP⟩, hS.F ht⟩) hS.2.2 dX2_markOf_42
    · replace h := h.2 c3
      refine lv_iconst (v := 1) hx hb dX2_markOf_37 (by decide) ?_
      refine lv_goto (tgt := 42) hx hb dX2_markOf_38 (by decide) ?_
      exact W.iret hx hb hr (fun t ht hW => ⟨⟨_, _, rfl, h, pw ht hP⟩, hS.F ht⟩) hS.2.2 dX2_markOf_42
  replace h := h.2 c2
  by_cases c4 : x0 = 2
  · replace h := h.1 c4
    refine lv_tableIn (off := 42) (tgt := 43) hx hb dX2_markOf_1 (by rw [c4]; decide) (by rw [c4]; decide) (by rw [c4]; decide) (by decide) ?_
    refine lv_iload_n hx hb dX2_markOf_43 rfl (lv_at hl 1 rfl) ?_
    refine lv_ineg hx hb dX2_markOf_44 ?_
    exact W.iret hx hb hr (fun t ht hW => ⟨⟨_, _, rfl, h, pw ht hP⟩, hS.F ht⟩) hS.2.2 dX2_markOf_45
  replace h := h.2 c4
  by_cases c5 : x0 = 3
  · replace h := h.1 c5
    refine lv_tableIn (off := 45) (tgt := 46) hx hb dX2_markOf_1 (by rw [c5]; decide) (by rw [c5]; decide) (by rw [c5]; decide) (by decide) ?_
    refine lv_iload_n hx hb dX2_markOf_46 rfl (lv_at hl 1 rfl) ?_
    refine lv_if_ge (tgt := 54) hx hb dX2_markOf_47 (by decide) (fun c6 => ?_) (fun c6 => ?_)
    · replace h := h.1 c6
      refine lv_iconst (v := 0) hx hb dX2_markOf_54 (by decide) ?_
      exact W.iret hx hb hr (fun t ht hW => ⟨⟨_, _, rfl, h, pw ht hP⟩, hS.F ht⟩) hS.2.2 dX2_markOf_55
    · replace h := h.2 c6
      refine lv_iconst (v := 1) hx hb dX2_markOf_50 (by decide) ?_
      refine lv_goto (tgt := 55) hx hb dX2_markOf_51 (by decide) ?_
      exact W.iret hx hb hr (fun t ht hW => ⟨⟨_, _, rfl, h, pw ht hP⟩, hS.F ht⟩) hS.2.2 dX2_markOf_55
  replace h := h.2 c5
  by_cases c7 : x0 = 4
  · replace h := h.1 c7
    refine lv_tableIn (off := 55) (tgt := 56) hx hb dX2_markOf_1 (by rw [c7]; decide) (by rw [c7]; decide) (by rw [c7]; decide) (by decide) ?_
    refine lv_iload_n hx hb dX2_markOf_56 rfl (lv_at hl 1 rfl) ?_
    exact W.iret hx hb hr (fun t ht hW => ⟨⟨_, _, rfl, h, pw ht hP⟩, hS.F ht⟩) hS.2.2 dX2_markOf_57
  replace h := h.2 c7
  refine lv_tableOut (tgt := 58) hx hb dX2_markOf_1 (by have := ne_toInt (n := 1) c2 (by decide); have := ne_toInt (n := 2) c4 (by decide); have := ne_toInt (n := 3) c5 (by decide); have := ne_toInt (n := 4) c7 (by decide); omega) (by decide) ?_
  refine lv_iconst (v := 0) hx hb dX2_markOf_58 (by decide) ?_
  exact W.iret hx hb hr (fun t ht hW => ⟨⟨_, _, rfl, h, pw ht hP⟩, hS.F ht⟩) hS.2.2 dX2_markOf_59
def p_X4_isNumber (x0 : Nat) (x1 : Int32) (s : Sg) (Q : Int32 → Sg → Prop) : Prop := ((x1 < 0 → Q 0 s) ∧ (¬ x1 < 0 → ∃ k2, tX x0 0 = some k2 ∧ (kX k2 = 7 ∨ kX k2 = 8 ∨ kX k2 = 9) ∧ (((nI (lX k2)) ≤ x1 → Q 0 s) ∧ (¬ (nI (lX k2)) ≤ x1 → ∃ k6, tX x0 1 = some k6 ∧ (kX k6 = 7 ∨ kX k6 = 8 ∨ kX k6 = 9) ∧ (((nI (lX k6)) ≤ x1 → Q 0 s) ∧ (¬ (nI (lX k6)) ≤ x1 → Q 1 s))))))
set_option maxHeartbeats 4000000 in
set_option maxRecDepth 100000 in
theorem c_X4_isNumber (l : Launch) (D : va_G) (cs : Cs) (ad : Nat → Nat) (x0 : Nat) (x1 : Int32) (s0 : Sg) (Q : Int32 → Sg → Prop) (hk0 : kX x0 = 3) : Met l yX4_isNumber wsX4_isNumber { frames := 0, cells := 0, slots := 0, locals := 0 } (Pc0 bX D cs ad [.ref (ad x0), .int x1] s0 (p_X4_isNumber x0 x1 s0 Q)) (QI bX D cs ad Q) 0 0 (fAd bX ad) := by
  refine Met.ofW (cc := cX4_isNumber) (maxL := 2) (ret := (some .boolean)) (by decide) rfl ?_
  intro p e s m args below meth c s₁ B0 hml hv
  obtain ⟨ha, hP, hE, h⟩ := hv
  have hx := B0.exec
  have hb := B0.bytes
  have hr := B0.returns
  have hts := atoms_spec (ws := wsX4_isNumber) B0.pre
  have hown : s.vm.findClass RX4 = some m.cls := findClass_of_methodNamed B0.named
  have hlocks := B0.notSynchronized
  have hi_X4 : ∀ w ∈ u_ws RX4 TX4 2, w ∈ wsX4_isNumber := by decide +kernel
  have hS : va_S (fAd bX ad) s.heap s.heap [] := va_S.rf
  have hl := lv_entry ([.ref (ad x0), .int x1]) (n := 2) (by first | exact Nat.le_of_ble_eq_true rfl | simp [lg_sl, re_cat, cat_i, cat_l, cat_r])
  rw [show entryFrame m args 2 = entryFrame m ([.ref (ad x0), .int x1] : List Value).toArray 2 by rw [ha], lg_entry_eq]
  generalize (lg_sl ([.ref (ad x0), .int x1]) ++ List.replicate (2 - (lg_sl ([.ref (ad x0), .int x1])).length) Slot.unset).toArray = ls at hl ⊢
  have hl : lv_has ls 2 [(0, .ref (ad x0)), (1, .int x1)] := by first | exact hl | simpa [lv_args, re_cat, cat_i, cat_l, cat_r] using hl
  unfold p_X4_isNumber at h
  refine lv_iload_n hx hb dX4_isNumber_0 rfl (lv_at hl 1 rfl) ?_
  refine lv_if_lt (tgt := 26) hx hb dX4_isNumber_1 (by decide) (fun c1 => ?_) (fun c1 => ?_)
  · replace h := h.1 c1
    refine lv_iconst (v := 0) hx hb dX4_isNumber_26 (by decide) ?_
    exact W.zret hx hb hr rfl (fun t ht hW => ⟨⟨_, _, rfl, h, pw ht hP⟩, hS.F ht⟩) hS.2.2 dX4_isNumber_27
  · replace h := h.2 c1
    refine lv_iload_n hx hb dX4_isNumber_4 rfl (lv_at hl 1 rfl) ?_
    refine lv_aload_n hx hb dX4_isNumber_5 rfl (lv_at hl 0 rfl) ?_
    refine va_get (ci := 3) (v := va_re ad (tX x0 0)) (C := RX4) (T := TX4) (N := 2) hx hb hts hi_X4 hown hE.1 hP x0 (w_3 hE hk0) rfl 0 (by decide) (hts (.fieldLink RX4 9 "HemLine$Shelf" "sizes" "[I") (by decide +kernel)) (fun _ h9 => h9) rfl dX4_isNumber_6 ?_
    obtain ⟨k2, e3, q4, h⟩ := h
    refine r_alen hx hb hE hP e3 q4 dX4_isNumber_9 ?_
    refine lv_icmp_ge (tgt := 26) hx hb dX4_isNumber_10 (by decide) (fun c5 => ?_) (fun c5 => ?_)
    · replace h := h.1 c5
      refine lv_iconst (v := 0) hx hb dX4_isNumber_26 (by decide) ?_
      exact W.zret hx hb hr rfl (fun t ht hW => ⟨⟨_, _, rfl, h, pw ht hP⟩, hS.F ht⟩) hS.2.2 dX4_isNumber_27
    · replace h := h.2 c5
      refine lv_iload_n hx hb dX4_isNumber_13 rfl (lv_at hl 1 rfl) ?_
      refine lv_aload_n hx hb dX4_isNumber_14 rfl (lv_at hl 0 rfl) ?_
      refine va_get (ci := 3) (v := va_re ad (tX x0 1)) (C := RX4) (T := TX4) (N := 2) hx hb hts hi_X4 hown hE.1 hP x0 (w_3 hE hk0) rfl 1 (by decide) (hts (.fieldLink RX4 15 "HemLine$Shelf" "cells" "[[I") (by decide +kernel)) (fun _ h9 => h9) rfl dX4_isNumber_15 ?_
      obtain ⟨k6, e7, q8, h⟩ := h
      refine r_alen hx hb hE hP e7 q8 dX4_isNumber_18 ?_
      refine lv_icmp_ge (tgt := 26) hx hb dX4_isNumber_19 (by decide) (fun c9 => ?_) (fun c9 => ?_)
      · replace h := h.1 c9
        refine lv_iconst (v := 0) hx hb dX4_isNumber_26 (by decide) ?_
        exact W.zret hx hb hr rfl (fun t ht hW => ⟨⟨_, _, rfl, h, pw ht hP⟩, hS.F ht⟩) hS.2.2 dX4_isNumber_27
      · replace h := h.2 c9
        refine lv_iconst (v := 1) hx hb dX4_isNumber_22 (by decide) ?_
        refine lv_goto (tgt := 27) hx hb dX4_isNumber_23 (by decide) ?_
        exact W.zret hx hb hr rfl (fun t ht hW => ⟨⟨_, _, rfl, h, pw ht hP⟩, hS.F ht⟩) hS.2.2 dX4_isNumber_27
def p_X4_sizeOf (x0 : Nat) (x1 : Int32) (s : Sg) (Q : Int32 → Sg → Prop) : Prop := p_X4_isNumber x0 x1 s (fun r2 s1 => ((r2 = 0 → Q ((-1)) s1) ∧ (¬ r2 = 0 → ∃ k4, tX x0 0 = some k4 ∧ kX k4 = 7 ∧ vp_in x1 (lX k4) ∧ Q (gR s1 k4 x1.toNatClampNeg) s1)))
set_option maxHeartbeats 4000000 in
set_option maxRecDepth 100000 in
theorem c_X4_sizeOf (l : Launch) (D : va_G) (cs : Cs) (ad : Nat → Nat) (x0 : Nat) (x1 : Int32) (s0 : Sg) (Q : Int32 → Sg → Prop) (hk0 : kX x0 = 3) : Met l yX4_sizeOf wsX4_sizeOf { frames := 1, cells := 0, slots := 0, locals := 21 } (Pc0 bX D cs ad [.ref (ad x0), .int x1] s0 (p_X4_sizeOf x0 x1 s0 Q)) (QI bX D cs ad Q) 0 0 (fAd bX ad) := by
  refine Met.ofW (cc := cX4_sizeOf) (maxL := 2) (ret := (some .int)) (by decide) rfl ?_
  intro p e s m args below meth c s₁ B0 hml hv
  obtain ⟨ha, hP, hE, h⟩ := hv
  have hx := B0.exec
  have hb := B0.bytes
  have hr := B0.returns
  have hts := atoms_spec (ws := wsX4_sizeOf) B0.pre
  have hown : s.vm.findClass RX4 = some m.cls := findClass_of_methodNamed B0.named
  have hlocks := B0.notSynchronized
  have hi_X4 : ∀ w ∈ u_ws RX4 TX4 2, w ∈ wsX4_sizeOf := by decide +kernel
  have hS : va_S (fAd bX ad) s.heap s.heap [] := va_S.rf
  have hl := lv_entry ([.ref (ad x0), .int x1]) (n := 2) (by first | exact Nat.le_of_ble_eq_true rfl | simp [lg_sl, re_cat, cat_i, cat_l, cat_r])
  rw [show entryFrame m args 2 = entryFrame m ([.ref (ad x0), .int x1] : List Value).toArray 2 by rw [ha], lg_entry_eq]
  generalize (lg_sl ([.ref (ad x0), .int x1]) ++ List.replicate (2 - (lg_sl ([.ref (ad x0), .int x1])).length) Slot.unset).toArray = ls at hl ⊢
  have hl : lv_has ls 2 [(0, .ref (ad x0)), (1, .int x1)] := by first | exact hl | simpa [lv_args, re_cat, cat_i, cat_l, cat_r] using hl
  unfold p_X4_sizeOf at h
  refine lv_aload_n hx hb dX4_sizeOf_0 rfl (lv_at hl 0 rfl) ?_
  refine lv_iload_n hx hb dX4_sizeOf_1 rfl (lv_at hl 1 rfl) ?_
  refine f_i (kV (As := [.int x1]) (rest := []) (o := some x0) rfl ⟨hx, hb, hml, hown, hts⟩ (c_X4_isNumber l D cs ad x0 x1 s0 _ hk0) (cwV 1 hts gX4_sizeOf_X4_isNumber rfl rfl rfl (by decide +kernel) ⟨Nat.le_of_ble_eq_true rfl, Nat.le_of_ble_eq_true rfl⟩) hE hP rfl rfl (w_3 hE hk0) h rfl hl.1 rfl (by first | exact lv_room (Nat.le_of_ble_eq_true rfl) | (refine lv_room ?_; simp [re_cat, cat_i, cat_l, cat_r])) dX4_sizeOf_2 ⟨Nat.le_refl _, Nat.le_refl _⟩) hS (fun r2 s1 H locs h hP hS => ?_)
  refine lv_if_eq (tgt := 17) hx hb dX4_sizeOf_5 (by decide) (fun c3 => ?_) (fun c3 => ?_)
  · replace h := h.1 c3
    refine lv_iconst (v := (-1)) hx hb dX4_sizeOf_17 (by decide) ?_
    exact W.iret hx hb hr (fun t ht hW => ⟨⟨_, _, rfl, h, pw ht hP⟩, hS.F ht⟩) hS.2.2 dX4_sizeOf_18
  · replace h := h.2 c3
    refine lv_aload_n hx hb dX4_sizeOf_8 rfl (lv_at hl 0 rfl) ?_
    refine va_get (ci := 3) (v := va_re ad (tX x0 0)) (C := RX4) (T := TX4) (N := 2) hx hb hts hi_X4 hown hE.1 hP x0 (w_3 hE hk0) rfl 0 (by decide) (hts (.fieldLink RX4 9 "HemLine$Shelf" "sizes" "[I") (by decide +kernel)) (fun _ h9 => h9) rfl dX4_sizeOf_9 ?_
    refine lv_iload_n hx hb dX4_sizeOf_12 rfl (lv_at hl 1 rfl) ?_
    obtain ⟨k4, e5, q6, i7, h⟩ := h
    refine r_iald hx hb hE hP e5 q6 i7 dX4_sizeOf_13 ?_
    refine lv_goto (tgt := 18) hx hb dX4_sizeOf_14 (by decide) ?_
    exact W.iret hx hb hr (fun t ht hW => ⟨⟨_, _, rfl, h, pw ht hP⟩, hS.F ht⟩) hS.2.2 dX4_sizeOf_18
def p_X4_cellsOf (x0 : Nat) (x1 : Int32) (s : Sg) (Q : Option Nat → Sg → Prop) : Prop := p_X4_isNumber x0 x1 s (fun r2 s1 => ((r2 = 0 → Q none s1) ∧ (¬ r2 = 0 → ∃ k4, tX x0 1 = some k4 ∧ (kX k4 = 8 ∨ kX k4 = 9) ∧ vp_in x1 (lX k4) ∧ Q (tX k4 x1.toNatClampNeg) s1)))
set_option maxHeartbeats 4000000 in
set_option maxRecDepth 100000 in
theorem c_X4_cellsOf (l : Launch) (D : va_G) (cs : Cs) (ad : Nat → Nat) (x0 : Nat) (x1 : Int32) (s0 : Sg) (Q : Option Nat → Sg → Prop) (hk0 : kX x0 = 3) : Met l yX4_cellsOf wsX4_cellsOf { frames := 1, cells := 0, slots := 0, locals := 21 } (Pc0 bX D cs ad [.ref (ad x0), .int x1] s0 (p_X4_cellsOf x0 x1 s0 Q)) (QE bX D cs ad Q) 0 0 (fAd bX ad) := by
  refine Met.ofW (cc := cX4_cellsOf) (maxL := 2) (ret := (some (.array .int))) (by decide) rfl ?_
  intro p e s m args below meth c s₁ B0 hml hv
  obtain ⟨ha, hP, hE, h⟩ := hv
  have hx := B0.exec
  have hb := B0.bytes
  have hr := B0.returns
  have hts := atoms_spec (ws := wsX4_cellsOf) B0.pre
  have hown : s.vm.findClass RX4 = some m.cls := findClass_of_methodNamed B0.named
  have hlocks := B0.notSynchronized
  have hi_X4 : ∀ w ∈ u_ws RX4 TX4 2, w ∈ wsX4_cellsOf := by decide +kernel
  have hS : va_S (fAd bX ad) s.heap s.heap [] := va_S.rf
  have hl := lv_entry ([.ref (ad x0), .int x1]) (n := 2) (by first | exact Nat.le_of_ble_eq_true rfl | simp [lg_sl, re_cat, cat_i, cat_l, cat_r])
  rw [show entryFrame m args 2 = entryFrame m ([.ref (ad x0), .int x1] : List Value).toArray 2 by rw [ha], lg_entry_eq]
  generalize (lg_sl ([.ref (ad x0), .int x1]) ++ List.replicate (2 - (lg_sl ([.ref (ad x0), .int x1])).length) Slot.unset).toArray = ls at hl ⊢
  have hl : lv_has ls 2 [(0, .ref (ad x0)), (1, .int x1)] := by first | exact hl | simpa [lv_args, re_cat, cat_i, cat_l, cat_r] using hl
  unfold p_X4_cellsOf at h
  refine lv_aload_n hx hb dX4_cellsOf_0 rfl (lv_at hl 0 rfl) ?_
  refine lv_iload_n hx hb dX4_cellsOf_1 rfl (lv_at hl 1 rfl) ?_
  refine f_i (kV (As := [.int x1]) (rest := []) (o := some x0) rfl ⟨hx, hb, hml, hown, hts⟩ (c_X4_isNumber l D cs ad x0 x1 s0 _ hk0) (cwV 1 hts gX4_cellsOf_X4_isNumber rfl rfl rfl (by decide +kernel) ⟨Nat.le_of_ble_eq_true rfl, Nat.le_of_ble_eq_true rfl⟩) hE hP rfl rfl (w_3 hE hk0) h rfl hl.1 rfl (by first | exact lv_room (Nat.le_of_ble_eq_true rfl) | (refine lv_room ?_; simp [re_cat, cat_i, cat_l, cat_r])) dX4_cellsOf_2 ⟨Nat.le_refl _, Nat.le_refl _⟩) hS (fun r2 s1 H locs h hP hS => ?_)
  refine lv_if_eq (tgt := 17) hx hb dX4_cellsOf_5 (by decide) (fun c3 => ?_) (fun c3 => ?_)
  · replace h := h.1 c3
    refine r_null (ad := ad) hx hb dX4_cellsOf_17 ?_
    exact W.aret hx hb hr (Or.inr ⟨_, rfl⟩) (va_re_or _ _) (fun t ht hW => ⟨⟨_, _, rfl, h, pw ht hP⟩, hS.F ht⟩) hS.2.2 dX4_cellsOf_18
  · replace h := h.2 c3
    refine lv_aload_n hx hb dX4_cellsOf_8 rfl (lv_at hl 0 rfl) ?_
    refine va_get (ci := 3) (v := va_re ad (tX x0 1)) (C := RX4) (T := TX4) (N := 2) hx hb hts hi_X4 hown hE.1 hP x0 (w_3 hE hk0) rfl 1 (by decide) (hts (.fieldLink RX4 15 "HemLine$Shelf" "cells" "[[I") (by decide +kernel)) (fun _ h9 => h9) rfl dX4_cellsOf_9 ?_
    refine lv_iload_n hx hb dX4_cellsOf_12 rfl (lv_at hl 1 rfl) ?_
    obtain ⟨k4, e5, q6, i7, h⟩ := h
    refine r_aald hx hb hE hP e5 q6 i7 dX4_cellsOf_13 ?_
    refine lv_goto (tgt := 18) hx hb dX4_cellsOf_14 (by decide) ?_
    exact W.aret hx hb hr (Or.inr ⟨_, rfl⟩) (va_re_or _ _) (fun t ht hW => ⟨⟨_, _, rfl, h, pw ht hP⟩, hS.F ht⟩) hS.2.2 dX4_cellsOf_18
def p_X4_isThere (x0 : Nat) (x1 : Int32) (s : Sg) (Q : Int32 → Sg → Prop) : Prop := p_X4_sizeOf x0 x1 s (fun r2 s1 => ((r2 = ((-1)) → Q 0 s1) ∧ (¬ r2 = ((-1)) → Q 1 s1)))
set_option maxHeartbeats 4000000 in
set_option maxRecDepth 100000 in
theorem c_X4_isThere (l : Launch) (D : va_G) (cs : Cs) (ad : Nat → Nat) (x0 : Nat) (x1 : Int32) (s0 : Sg) (Q : Int32 → Sg → Prop) (hk0 : kX x0 = 3) : Met l yX4_isThere wsX4_isThere { frames := 2, cells := 0, slots := 0, locals := 42 } (Pc0 bX D cs ad [.ref (ad x0), .int x1] s0 (p_X4_isThere x0 x1 s0 Q)) (QI bX D cs ad Q) 0 0 (fAd bX ad) := by
  refine Met.ofW (cc := cX4_isThere) (maxL := 2) (ret := (some .boolean)) (by decide) rfl ?_
  intro p e s m args below meth c s₁ B0 hml hv
  obtain ⟨ha, hP, hE, h⟩ := hv
  have hx := B0.exec
  have hb := B0.bytes
  have hr := B0.returns
  have hts := atoms_spec (ws := wsX4_isThere) B0.pre
  have hown : s.vm.findClass RX4 = some m.cls := findClass_of_methodNamed B0.named
  have hlocks := B0.notSynchronized
  have hS : va_S (fAd bX ad) s.heap s.heap [] := va_S.rf
  have hl := lv_entry ([.ref (ad x0), .int x1]) (n := 2) (by first | exact Nat.le_of_ble_eq_true rfl | simp [lg_sl, re_cat, cat_i, cat_l, cat_r])
  rw [show entryFrame m args 2 = entryFrame m ([.ref (ad x0), .int x1] : List Value).toArray 2 by rw [ha], lg_entry_eq]
  generalize (lg_sl ([.ref (ad x0), .int x1]) ++ List.replicate (2 - (lg_sl ([.ref (ad x0), .int x1])).length) Slot.unset).toArray = ls at hl ⊢
  have hl : lv_has ls 2 [(0, .ref (ad x0)), (1, .int x1)] := by first | exact hl | simpa [lv_args, re_cat, cat_i, cat_l, cat_r] using hl
  unfold p_X4_isThere at h
  refine lv_aload_n hx hb dX4_isThere_0 rfl (lv_at hl 0 rfl) ?_
  refine lv_iload_n hx hb dX4_isThere_1 rfl (lv_at hl 1 rfl) ?_
  refine f_i (kV (As := [.int x1]) (rest := []) (o := some x0) rfl ⟨hx, hb, hml, hown, hts⟩ (c_X4_sizeOf l D cs ad x0 x1 s0 _ hk0) (cwV 1 hts gX4_isThere_X4_sizeOf rfl rfl rfl (by decide +kernel) ⟨Nat.le_of_ble_eq_true rfl, Nat.le_of_ble_eq_true rfl⟩) hE hP rfl rfl (w_3 hE hk0) h rfl hl.1 rfl (by first | exact lv_room (Nat.le_of_ble_eq_true rfl) | (refine lv_room ?_; simp [re_cat, cat_i, cat_l, cat_r])) dX4_isThere_2 ⟨Nat.le_refl _, Nat.le_refl _⟩) hS (fun r2 s1 H locs h hP hS => ?_)
  refine lv_iconst (v := (-1)) hx hb dX4_isThere_5 (by decide) ?_
  refine lv_icmp_eq (tgt := 13) hx hb dX4_isThere_6 (by decide) (fun c3 => ?_) (fun c3 => ?_)
  · replace h := h.1 c3
    refine lv_iconst (v := 0) hx hb dX4_isThere_13 (by decide) ?_
    exact W.zret hx hb hr rfl (fun t ht hW => ⟨⟨_, _, rfl, h, pw ht hP⟩, hS.F ht⟩) hS.2.2 dX4_isThere_14
  · replace h := h.2 c3
    refine lv_iconst (v := 1) hx hb dX4_isThere_9 (by decide) ?_
    refine lv_goto (tgt := 14) hx hb dX4_isThere_10 (by decide) ?_
    exact W.zret hx hb hr rfl (fun t ht hW => ⟨⟨_, _, rfl, h, pw ht hP⟩, hS.F ht⟩) hS.2.2 dX4_isThere_14
def p_X4_isCell (x0 : Nat) (x1 : Int32) (x2 : Int32) (s : Sg) (Q : Int32 → Sg → Prop) : Prop := ((x2 < 0 → Q 0 s) ∧ (¬ x2 < 0 → p_X4_sizeOf x0 x1 s (fun r3 s2 => ((r3 ≤ x2 → Q 0 s2) ∧ (¬ r3 ≤ x2 → Q 1 s2)))))
set_option maxHeartbeats 4000000 in
set_option maxRecDepth 100000 in
theorem c_X4_isCell (l : Launch) (D : va_G) (cs : Cs) (ad : Nat → Nat) (x0 : Nat) (x1 : Int32) (x2 : Int32) (s0 : Sg) (Q : Int32 → Sg → Prop) (hk0 : kX x0 = 3) : Met l yX4_isCell wsX4_isCell { frames := 2, cells := 0, slots := 0, locals := 42 } (Pc0 bX D cs ad [.ref (ad x0), .int x1, .int x2] s0 (p_X4_isCell x0 x1 x2 s0 Q)) (QI bX D cs ad Q) 0 0 (fAd bX ad) := by
  refine Met.ofW (cc := cX4_isCell) (maxL := 3) (ret := (some .boolean)) (by decide) rfl ?_
  intro p e s m args below meth c s₁ B0 hml hv
  obtain ⟨ha, hP, hE, h⟩ := hv
  have hx := B0.exec
  have hb := B0.bytes
  have hr := B0.returns
  have hts := atoms_spec (ws := wsX4_isCell) B0.pre
  have hown : s.vm.findClass RX4 = some m.cls := findClass_of_methodNamed B0.named
  have hlocks := B0.notSynchronized
  have hS : va_S (fAd bX ad) s.heap s.heap [] := va_S.rf
  have hl := lv_entry ([.ref (ad x0), .int x1, .int x2]) (n := 3) (by first | exact Nat.le_of_ble_eq_true rfl | simp [lg_sl, re_cat, cat_i, cat_l, cat_r])
  rw [show entryFrame m args 3 = entryFrame m ([.ref (ad x0), .int x1, .int x2] : List Value).toArray 3 by rw [ha], lg_entry_eq]
  generalize (lg_sl ([.ref (ad x0), .int x1, .int x2]) ++ List.replicate (3 - (lg_sl ([.ref (ad x0), .int x1, .int x2])).length) Slot.unset).toArray = ls at hl ⊢
  have hl : lv_has ls 3 [(0, .ref (ad x0)), (1, .int x1), (2, .int x2)] := by first | exact hl | simpa [lv_args, re_cat, cat_i, cat_l, cat_r] using hl
  unfold p_X4_isCell at h
  refine lv_iload_n hx hb dX4_isCell_0 rfl (lv_at hl 2 rfl) ?_
  refine lv_if_lt (tgt := 17) hx hb dX4_isCell_1 (by decide) (fun c1 => ?_) (fun c1 => ?_)
  · replace h := h.1 c1
    refine lv_iconst (v := 0) hx hb dX4_isCell_17 (by decide) ?_
    exact W.zret hx hb hr rfl (fun t ht hW => ⟨⟨_, _, rfl, h, pw ht hP⟩, hS.F ht⟩) hS.2.2 dX4_isCell_18
  · replace h := h.2 c1
    refine lv_iload_n hx hb dX4_isCell_4 rfl (lv_at hl 2 rfl) ?_
    refine lv_aload_n hx hb dX4_isCell_5 rfl (lv_at hl 0 rfl) ?_
    refine lv_iload_n hx hb dX4_isCell_6 rfl (lv_at hl 1 rfl) ?_
    refine f_i (kV (As := [.int x1]) (rest := [.int x2]) (o := some x0) rfl ⟨hx, hb, hml, hown, hts⟩ (c_X4_sizeOf l D cs ad x0 x1 s0 _ hk0) (cwV 1 hts gX4_isCell_X4_sizeOf rfl rfl rfl (by decide +kernel) ⟨Nat.le_of_ble_eq_true rfl, Nat.le_of_ble_eq_true rfl⟩) hE hP rfl rfl (w_3 hE hk0) h rfl hl.1 rfl (by first | exact lv_room (Nat.le_of_ble_eq_true rfl) | (refine lv_room ?_; simp [re_cat, cat_i, cat_l, cat_r])) dX4_isCell_7 ⟨Nat.le_refl _, Nat.le_refl _⟩) hS (fun r3 s2 H locs h hP hS => ?_)
    refine lv_icmp_ge (tgt := 17) hx hb dX4_isCell_10 (by decide) (fun c4 => ?_) (fun c4 => ?_)
    · replace h := h.1 c4
      refine lv_iconst (v := 0) hx hb dX4_isCell_17 (by decide) ?_
      exact W.zret hx hb hr rfl (fun t ht hW => ⟨⟨_, _, rfl, h, pw ht hP⟩, hS.F ht⟩) hS.2.2 dX4_isCell_18
    · replace h := h.2 c4
      refine lv_iconst (v := 1) hx hb dX4_isCell_13 (by decide) ?_
      refine lv_goto (tgt := 18) hx hb dX4_isCell_14 (by decide) ?_
      exact W.zret hx hb hr rfl (fun t ht hW => ⟨⟨_, _, rfl, h, pw ht hP⟩, hS.F ht⟩) hS.2.2 dX4_isCell_18
def p_X4_hasStretch (x0 : Nat) (x1 : Int32) (x2 : Int32) (x3 : Int32) (s : Sg) (Q : Int32 → Sg → Prop) : Prop := ((x2 < 0 → Q 0 s) ∧ (¬ x2 < 0 → p_X4_sizeOf x0 x1 s (fun r3 s2 => ((r3 < x2 → Q 0 s2) ∧ (¬ r3 < x2 → ((x3 < 0 → Q 0 s2) ∧ (¬ x3 < 0 → p_X4_sizeOf x0 x1 s2 (fun r7 s6 => (((r7 - x2) < x3 → Q 0 s6) ∧ (¬ (r7 - x2) < x3 → Q 1 s6))))))))))
set_option maxHeartbeats 4000000 in
set_option maxRecDepth 100000 in
theorem c_X4_hasStretch (l : Launch) (D : va_G) (cs : Cs) (ad : Nat → Nat) (x0 : Nat) (x1 : Int32) (x2 : Int32) (x3 : Int32) (s0 : Sg) (Q : Int32 → Sg → Prop) (hk0 : kX x0 = 3) : Met l yX4_hasStretch wsX4_hasStretch { frames := 2, cells := 0, slots := 0, locals := 42 } (Pc0 bX D cs ad [.ref (ad x0), .int x1, .int x2, .int x3] s0 (p_X4_hasStretch x0 x1 x2 x3 s0 Q)) (QI bX D cs ad Q) 0 0 (fAd bX ad) := by
  refine Met.ofW (cc := cX4_hasStretch) (maxL := 4) (ret := (some .boolean)) (by decide) rfl ?_
  intro p e s m args below meth c s₁ B0 hml hv
  obtain ⟨ha, hP, hE, h⟩ := hv
  have hx := B0.exec
  have hb := B0.bytes
  have hr := B0.returns
  have hts := atoms_spec (ws := wsX4_hasStretch) B0.pre
  have hown : s.vm.findClass RX4 = some m.cls := findClass_of_methodNamed B0.named
  have hlocks := B0.notSynchronized
  have hS : va_S (fAd bX ad) s.heap s.heap [] := va_S.rf
  have hl := lv_entry ([.ref (ad x0), .int x1, .int x2, .int x3]) (n := 4) (by first | exact Nat.le_of_ble_eq_true rfl | simp [lg_sl, re_cat, cat_i, cat_l, cat_r])
  rw [show entryFrame m args 4 = entryFrame m ([.ref (ad x0), .int x1, .int x2, .int x3] : List Value).toArray 4 by rw [ha], lg_entry_eq]
  generalize (lg_sl ([.ref (ad x0), .int x1, .int x2, .int x3]) ++ List.replicate (4 - (lg_sl ([.ref (ad x0), .int x1, .int x2, .int x3])).length) Slot.unset).toArray = ls at hl ⊢
  have hl : lv_has ls 4 [(0, .ref (ad x0)), (1, .int x1), (2, .int x2), (3, .int x3)] := by first | exact hl | simpa [lv_args, re_cat, cat_i, cat_l, cat_r] using hl
  unfold p_X4_hasStretch at h
  refine lv_iload_n hx hb dX4_hasStretch_0 rfl (lv_at hl 2 rfl) ?_
  refine lv_if_lt (tgt := 32) hx hb dX4_hasStretch_1 (by decide) (fun c1 => ?_) (fun c1 => ?_)
  · replace h := h.1 c1
    refine lv_iconst (v := 0) hx hb dX4_hasStretch_32 (by decide) ?_
    exact W.zret hx hb hr rfl (fun t ht hW => ⟨⟨_, _, rfl, h, pw ht hP⟩, hS.F ht⟩) hS.2.2 dX4_hasStretch_33
  · replace h := h.2 c1
    refine lv_iload_n hx hb dX4_hasStretch_4 rfl (lv_at hl 2 rfl) ?_
    refine lv_aload_n hx hb dX4_hasStretch_5 rfl (lv_at hl 0 rfl) ?_
    refine lv_iload_n hx hb dX4_hasStretch_6 rfl (lv_at hl 1 rfl) ?_
    refine f_i (kV (As := [.int x1]) (rest := [.int x2]) (o := some x0) rfl ⟨hx, hb, hml, hown, hts⟩ (c_X4_sizeOf l D cs ad x0 x1 s0 _ hk0) (cwV 1 hts gX4_hasStretch_X4_sizeOf rfl rfl rfl (by decide +kernel) ⟨Nat.le_of_ble_eq_true rfl, Nat.le_of_ble_eq_true rfl⟩) hE hP rfl rfl (w_3 hE hk0) h rfl hl.1 rfl (by first | exact lv_room (Nat.le_of_ble_eq_true rfl) | (refine lv_room ?_; simp [re_cat, cat_i, cat_l, cat_r])) dX4_hasStretch_7 ⟨Nat.le_refl _, Nat.le_refl _⟩) hS (fun r3 s2 H locs h hP hS => ?_)
    refine lv_icmp_gt (tgt := 32) hx hb dX4_hasStretch_10 (by decide) (fun c4 => ?_) (fun c4 => ?_)
    · replace h := h.1 c4
      refine lv_iconst (v := 0) hx hb dX4_hasStretch_32 (by decide) ?_
      exact W.zret hx hb hr rfl (fun t ht hW => ⟨⟨_, _, rfl, h, pw ht hP⟩, hS.F ht⟩) hS.2.2 dX4_hasStretch_33
    · replace h := h.2 c4
      refine lv_iload_n hx hb dX4_hasStretch_13 rfl (lv_at hl 3 rfl) ?_
      refine lv_if_lt (tgt := 32) hx hb dX4_hasStretch_14 (by decide) (fun c5 => ?_) (fun c5 => ?_)
      · replace h := h.1 c5
        refine lv_iconst (v := 0) hx hb dX4_hasStretch_32 (by decide) ?_
        exact W.zret hx hb hr rfl (fun t ht hW => ⟨⟨_, _, rfl, h, pw ht hP⟩, hS.F ht⟩) hS.2.2 dX4_hasStretch_33
      · replace h := h.2 c5
        refine lv_iload_n hx hb dX4_hasStretch_17 rfl (lv_at hl 3 rfl) ?_
        refine lv_aload_n hx hb dX4_hasStretch_18 rfl (lv_at hl 0 rfl) ?_
        refine lv_iload_n hx hb dX4_hasStretch_19 rfl (lv_at hl 1 rfl) ?_
        refine f_i (kV (As := [.int x1]) (rest := [.int x3]) (o := some x0) rfl ⟨hx, hb, hml, hown, hts⟩ (c_X4_sizeOf l D cs ad x0 x1 s2 _ hk0) (cwV 1 hts gX4_hasStretch_X4_sizeOf rfl rfl rfl (by decide +kernel) ⟨Nat.le_of_ble_eq_true rfl, Nat.le_of_ble_eq_true rfl⟩) hE hP rfl rfl (w_3 hE hk0) h rfl hl.1 rfl (by first | exact lv_room (Nat.le_of_ble_eq_true rfl) | (refine lv_room ?_; simp [re_cat, cat_i, cat_l, cat_r])) dX4_hasStretch_20 ⟨Nat.le_refl _, Nat.le_refl _⟩) hS (fun r7 s6 H locs h hP hS => ?_)
        refine lv_iload_n hx hb dX4_hasStretch_23 rfl (lv_at hl 2 rfl) ?_
        refine lv_isub hx hb dX4_hasStretch_24 ?_
        refine lv_icmp_gt (tgt := 32) hx hb dX4_hasStretch_25 (by decide) (fun c8 => ?_) (fun c8 => ?_)
        · replace h := h.1 c8
          refine lv_iconst (v := 0) hx hb dX4_hasStretch_32 (by decide) ?_
          exact W.zret hx hb hr rfl (fun t ht hW => ⟨⟨_, _, rfl, h, pw ht hP⟩, hS.F ht⟩) hS.2.2 dX4_hasStretch_33
        · replace h := h.2 c8
          refine lv_iconst (v := 1) hx hb dX4_hasStretch_28 (by decide) ?_
          refine lv_goto (tgt := 33) hx hb dX4_hasStretch_29 (by decide) ?_
          exact W.zret hx hb hr rfl (fun t ht hW => ⟨⟨_, _, rfl, h, pw ht hP⟩, hS.F ht⟩) hS.2.2 dX4_hasStretch_33
def p_X4_cell (x0 : Nat) (x1 : Int32) (x2 : Int32) (s : Sg) (Q : Int32 → Sg → Prop) : Prop := p_X4_isCell x0 x1 x2 s (fun r2 s1 => ((r2 = 0 → Q 0 s1) ∧ (¬ r2 = 0 → p_X4_cellsOf x0 x1 s1 (fun r5 s4 => p_X5_item r5 x2 s4 (fun r7 s6 => Q r7 s6)))))
set_option maxHeartbeats 4000000 in
set_option maxRecDepth 100000 in
theorem c_X4_cell (l : Launch) (D : va_G) (cs : Cs) (ad : Nat → Nat) (x0 : Nat) (x1 : Int32) (x2 : Int32) (s0 : Sg) (Q : Int32 → Sg → Prop) (hk0 : kX x0 = 3) : Met l yX4_cell wsX4_cell { frames := 3, cells := 0, slots := 0, locals := 64 } (Pc0 bX D cs ad [.ref (ad x0), .int x1, .int x2] s0 (p_X4_cell x0 x1 x2 s0 Q)) (QI bX D cs ad Q) 0 0 (fAd bX ad) := by
  refine Met.ofW (cc := cX4_cell) (maxL := 3) (ret := (some .int)) (by decide) rfl ?_
  intro p e s m args below meth c s₁ B0 hml hv
  obtain ⟨ha, hP, hE, h⟩ := hv
  have hx := B0.exec
  have hb := B0.bytes
  have hr := B0.returns
  have hts := atoms_spec (ws := wsX4_cell) B0.pre
  have hown : s.vm.findClass RX4 = some m.cls := findClass_of_methodNamed B0.named
  have hlocks := B0.notSynchronized
  have hS : va_S (fAd bX ad) s.heap s.heap [] := va_S.rf
  have hl := lv_entry ([.ref (ad x0), .int x1, .int x2]) (n := 3) (by first | exact Nat.le_of_ble_eq_true rfl | simp [lg_sl, re_cat, cat_i, cat_l, cat_r])
  rw [show entryFrame m args 3 = entryFrame m ([.ref (ad x0), .int x1, .int x2] : List Value).toArray 3 by rw [ha], lg_entry_eq]
  generalize (lg_sl ([.ref (ad x0), .int x1, .int x2]) ++ List.replicate (3 - (lg_sl ([.ref (ad x0), .int x1, .int x2])).length) Slot.unset).toArray = ls at hl ⊢
  have hl : lv_has ls 3 [(0, .ref (ad x0)), (1, .int x1), (2, .int x2)] := by first | exact hl | simpa [lv_args, re_cat, cat_i, cat_l, cat_r] using hl
  unfold p_X4_cell at h
  refine lv_aload_n hx hb dX4_cell_0 rfl (lv_at hl 0 rfl) ?_
  refine lv_iload_n hx hb dX4_cell_1 rfl (lv_at hl 1 rfl) ?_
  refine lv_iload_n hx hb dX4_cell_2 rfl (lv_at hl 2 rfl) ?_
  refine f_i (kV (As := [.int x1, .int x2]) (rest := []) (o := some x0) rfl ⟨hx, hb, hml, hown, hts⟩ (c_X4_isCell l D cs ad x0 x1 x2 s0 _ hk0) (cwV 2 hts gX4_cell_X4_isCell rfl rfl rfl (by decide +kernel) ⟨Nat.le_of_ble_eq_true rfl, Nat.le_of_ble_eq_true rfl⟩) hE hP rfl rfl (w_3 hE hk0) h rfl hl.1 rfl (by first | exact lv_room (Nat.le_of_ble_eq_true rfl) | (refine lv_room ?_; simp [re_cat, cat_i, cat_l, cat_r])) dX4_cell_3 ⟨Nat.le_refl _, Nat.le_refl _⟩) hS (fun r2 s1 H locs h hP hS => ?_)
  refine lv_if_eq (tgt := 21) hx hb dX4_cell_6 (by decide) (fun c3 => ?_) (fun c3 => ?_)
  · replace h := h.1 c3
    refine lv_iconst (v := 0) hx hb dX4_cell_21 (by decide) ?_
    exact W.iret hx hb hr (fun t ht hW => ⟨⟨_, _, rfl, h, pw ht hP⟩, hS.F ht⟩) hS.2.2 dX4_cell_22
  · replace h := h.2 c3
    refine lv_aload_n hx hb dX4_cell_9 rfl (lv_at hl 0 rfl) ?_
    refine lv_iload_n hx hb dX4_cell_10 rfl (lv_at hl 1 rfl) ?_
    refine f_e (kV (As := [.int x1]) (rest := []) (o := some x0) rfl ⟨hx, hb, hml, hown, hts⟩ (c_X4_cellsOf l D cs ad x0 x1 s1 _ hk0) (cwV 1 hts gX4_cell_X4_cellsOf rfl rfl rfl (by decide +kernel) ⟨Nat.le_of_ble_eq_true rfl, Nat.le_of_ble_eq_true rfl⟩) hE hP rfl rfl (w_3 hE hk0) h rfl hl.1 rfl (by first | exact lv_room (Nat.le_of_ble_eq_true rfl) | (refine lv_room ?_; simp [re_cat, cat_i, cat_l, cat_r])) dX4_cell_11 ⟨Nat.le_refl _, Nat.le_refl _⟩) hS (fun r5 s4 H locs h hP hS => ?_)
    refine lv_iload_n hx hb dX4_cell_14 rfl (lv_at hl 2 rfl) ?_
    refine f_i (kN (As := [va_re ad r5, .int x2]) (rest := []) ⟨hx, hb, hml, hown, hts⟩ (c_X5_item l D cs ad r5 x2 s4 _) ⟨va_cnB 2 hts gX4_cell_X5_item_n41 rfl rfl rfl (hE.2.2.2.2 ("HemLine$Shelf", 41, ⟨"HemLine", "item", "([II)I"⟩, "HemLine") (by decide +kernel)) (hts (.initialized RX5) (by decide +kernel)) (by decide +kernel) ⟨Nat.le_of_ble_eq_true rfl, Nat.le_of_ble_eq_true rfl⟩, hts (.static yX5_item) (by decide +kernel), trivial⟩ hE hP h rfl hl.1 rfl (by first | exact lv_room (Nat.le_of_ble_eq_true rfl) | (refine lv_room ?_; simp [re_cat, cat_i, cat_l, cat_r])) dX4_cell_15 ⟨Nat.le_refl _, Nat.le_refl _⟩) hS (fun r7 s6 H locs h hP hS => ?_)
    refine lv_goto (tgt := 22) hx hb dX4_cell_18 (by decide) ?_
    exact W.iret hx hb hr (fun t ht hW => ⟨⟨_, _, rfl, h, pw ht hP⟩, hS.F ht⟩) hS.2.2 dX4_cell_22
def p_X4_setCell (x0 : Nat) (x1 : Int32) (x2 : Int32) (x3 : Int32) (s : Sg) (Q : Sg → Prop) : Prop := p_X4_isCell x0 x1 x2 s (fun r2 s1 => ((r2 = 0 → Q s1) ∧ (¬ r2 = 0 → p_X4_cellsOf x0 x1 s1 (fun r5 s4 => p_X5_setItem r5 x2 x3 s4 (fun s6 => Q s6)))))
set_option maxHeartbeats 4000000 in
set_option maxRecDepth 100000 in
theorem c_X4_setCell (l : Launch) (D : va_G) (cs : Cs) (ad : Nat → Nat) (x0 : Nat) (x1 : Int32) (x2 : Int32) (x3 : Int32) (s0 : Sg) (Q : Sg → Prop) (hk0 : kX x0 = 3) : Met l yX4_setCell wsX4_setCell { frames := 3, cells := 0, slots := 0, locals := 64 } (Pc0 bX D cs ad [.ref (ad x0), .int x1, .int x2, .int x3] s0 (p_X4_setCell x0 x1 x2 x3 s0 Q)) (QV bX D cs ad Q) 0 0 (fAd bX ad) := by
  refine Met.ofW (cc := cX4_setCell) (maxL := 4) (ret := none) (by decide) rfl ?_
  intro p e s m args below meth c s₁ B0 hml hv
  obtain ⟨ha, hP, hE, h⟩ := hv
  have hx := B0.exec
  have hb := B0.bytes
  have hr := B0.returns
  have hts := atoms_spec (ws := wsX4_setCell) B0.pre
  have hown : s.vm.findClass RX4 = some m.cls := findClass_of_methodNamed B0.named
  have hlocks := B0.notSynchronized
  have hS : va_S (fAd bX ad) s.heap s.heap [] := va_S.rf
  have hl := lv_entry ([.ref (ad x0), .int x1, .int x2, .int x3]) (n := 4) (by first | exact Nat.le_of_ble_eq_true rfl | simp [lg_sl, re_cat, cat_i, cat_l, cat_r])
  rw [show entryFrame m args 4 = entryFrame m ([.ref (ad x0), .int x1, .int x2, .int x3] : List Value).toArray 4 by rw [ha], lg_entry_eq]
  generalize (lg_sl ([.ref (ad x0), .int x1, .int x2, .int x3]) ++ List.replicate (4 - (lg_sl ([.ref (ad x0), .int x1, .int x2, .int x3])).length) Slot.unset).toArray = ls at hl ⊢
  have hl : lv_has ls 4 [(0, .ref (ad x0)), (1, .int x1), (2, .int x2), (3, .int x3)] := by first | exact hl | simpa [lv_args, re_cat, cat_i, cat_l, cat_r] using hl
  unfold p_X4_setCell at h
  refine lv_aload_n hx hb dX4_setCell_0 rfl (lv_at hl 0 rfl) ?_
  refine lv_iload_n hx hb dX4_setCell_1 rfl (lv_at hl 1 rfl) ?_
  refine lv_iload_n hx hb dX4_setCell_2 rfl (lv_at hl 2 rfl) ?_
  refine f_i (kV (As := [.int x1, .int x2]) (rest := []) (o := some x0) rfl ⟨hx, hb, hml, hown, hts⟩ (c_X4_isCell l D cs ad x0 x1 x2 s0 _ hk0) (cwV 2 hts gX4_setCell_X4_isCell rfl rfl rfl (by decide +kernel) ⟨Nat.le_of_ble_eq_true rfl, Nat.le_of_ble_eq_true rfl⟩) hE hP rfl rfl (w_3 hE hk0) h rfl hl.1 rfl (by first | exact lv_room (Nat.le_of_ble_eq_true rfl) | (refine lv_room ?_; simp [re_cat, cat_i, cat_l, cat_r])) dX4_setCell_3 ⟨Nat.le_refl _, Nat.le_refl _⟩) hS (fun r2 s1 H locs h hP hS => ?_)
  refine lv_if_eq (tgt := 19) hx hb dX4_setCell_6 (by decide) (fun c3 => ?_) (fun c3 => ?_)
  · replace h := h.1 c3
    exact W.vret hx hb hr (fun t ht hW => ⟨⟨_, rfl, h, pw ht hP⟩, hS.F ht⟩) hS.2.2 dX4_setCell_19
  · replace h := h.2 c3
    refine lv_aload_n hx hb dX4_setCell_9 rfl (lv_at hl 0 rfl) ?_
    refine lv_iload_n hx hb dX4_setCell_10 rfl (lv_at hl 1 rfl) ?_
    refine f_e (kV (As := [.int x1]) (rest := []) (o := some x0) rfl ⟨hx, hb, hml, hown, hts⟩ (c_X4_cellsOf l D cs ad x0 x1 s1 _ hk0) (cwV 1 hts gX4_setCell_X4_cellsOf rfl rfl rfl (by decide +kernel) ⟨Nat.le_of_ble_eq_true rfl, Nat.le_of_ble_eq_true rfl⟩) hE hP rfl rfl (w_3 hE hk0) h rfl hl.1 rfl (by first | exact lv_room (Nat.le_of_ble_eq_true rfl) | (refine lv_room ?_; simp [re_cat, cat_i, cat_l, cat_r])) dX4_setCell_11 ⟨Nat.le_refl _, Nat.le_refl _⟩) hS (fun r5 s4 H locs h hP hS => ?_)
    refine lv_iload_n hx hb dX4_setCell_14 rfl (lv_at hl 2 rfl) ?_
    refine lv_iload_n hx hb dX4_setCell_15 rfl (lv_at hl 3 rfl) ?_
    refine f_v (kN (As := [va_re ad r5, .int x2, .int x3]) (rest := []) ⟨hx, hb, hml, hown, hts⟩ (c_X5_setItem l D cs ad r5 x2 x3 s4 _) ⟨va_cnB 3 hts gX4_setCell_X5_setItem_n45 rfl rfl rfl (hE.2.2.2.2 ("HemLine$Shelf", 45, ⟨"HemLine", "setItem", "([III)V"⟩, "HemLine") (by decide +kernel)) (hts (.initialized RX5) (by decide +kernel)) (by decide +kernel) ⟨Nat.le_of_ble_eq_true rfl, Nat.le_of_ble_eq_true rfl⟩, hts (.static yX5_setItem) (by decide +kernel), trivial⟩ hE hP h rfl hl.1 rfl (by first | exact lv_room (Nat.le_of_ble_eq_true rfl) | (refine lv_room ?_; simp [re_cat, cat_i, cat_l, cat_r])) dX4_setCell_16 ⟨Nat.le_refl _, Nat.le_refl _⟩) hS (fun s6 H locs h hP hS => ?_)
    exact W.vret hx hb hr (fun t ht hW => ⟨⟨_, rfl, h, pw ht hP⟩, hS.F ht⟩) hS.2.2 dX4_setCell_19
def p_X4_make (x0 : Nat) (x1 : Int32) (x2 : Int32) (x3 : Int32) (s : Sg) (Q : Sg → Prop) : Prop := p_X4_cellsOf x0 x1 s (fun r2 s1 => ((r2 = none → Q s1) ∧ (¬ r2 = none → ((x2 < 0 → Q s1) ∧ (¬ x2 < 0 → ∃ k5, r2 = some k5 ∧ (kX k5 = 7 ∨ kX k5 = 8 ∨ kX k5 = 9) ∧ (((nI (lX k5)) < x2 → Q s1) ∧ (¬ (nI (lX k5)) < x2 → p_X5_setItem (tX x0 0) x1 x2 s1 (fun s9 => p_J7_fill_53178 bX r2 x3 s9 (fun s10 => Q s10)))))))))
set_option maxHeartbeats 4000000 in
set_option maxRecDepth 100000 in
theorem c_X4_make (l : Launch) (D : va_G) (cs : Cs) (ad : Nat → Nat) (x0 : Nat) (x1 : Int32) (x2 : Int32) (x3 : Int32) (s0 : Sg) (Q : Sg → Prop) (hk0 : kX x0 = 3) : Met l yX4_make wsX4_make { frames := 2, cells := 0, slots := 0, locals := 42 } (Pc0 bX D cs ad [.ref (ad x0), .int x1, .int x2, .int x3] s0 (p_X4_make x0 x1 x2 x3 s0 Q)) (QV bX D cs ad Q) 0 0 (fAd bX ad) := by
  refine Met.ofW (cc := cX4_make) (maxL := 5) (ret := none) (by decide) rfl ?_
  intro p e s m args below meth c s₁ B0 hml hv
  obtain ⟨ha, hP, hE, h⟩ := hv
  have hx := B0.exec
  have hb := B0.bytes
  have hr := B0.returns
  have hts := atoms_spec (ws := wsX4_make) B0.pre
  have hown : s.vm.findClass RX4 = some m.cls := findClass_of_methodNamed B0.named
  have hlocks := B0.notSynchronized
  have hi_X4 : ∀ w ∈ u_ws RX4 TX4 2, w ∈ wsX4_make := by decide +kernel
  have hS : va_S (fAd bX ad) s.heap s.heap [] := va_S.rf
  have hl := lv_entry ([.ref (ad x0), .int x1, .int x2, .int x3]) (n := 5) (by first | exact Nat.le_of_ble_eq_true rfl | simp [lg_sl, re_cat, cat_i, cat_l, cat_r])
  rw [show entryFrame m args 5 = entryFrame m ([.ref (ad x0), .int x1, .int x2, .int x3] : List Value).toArray 5 by rw [ha], lg_entry_eq]
  generalize (lg_sl ([.ref (ad x0), .int x1, .int x2, .int x3]) ++ List.replicate (5 - (lg_sl ([.ref (ad x0), .int x1, .int x2, .int x3])).length) Slot.unset).toArray = ls at hl ⊢
  have hl : lv_has ls 5 [(0, .ref (ad x0)), (1, .int x1), (2, .int x2), (3, .int x3)] := by first | exact hl | simpa [lv_args, re_cat, cat_i, cat_l, cat_r] using hl
  unfold p_X4_make at h
  refine lv_aload_n hx hb dX4_make_0 rfl (lv_at hl 0 rfl) ?_
  refine lv_iload_n hx hb dX4_make_1 rfl (lv_at hl 1 rfl) ?_
  refine f_e (kV (As := [.int x1]) (rest := []) (o := some x0) rfl ⟨hx, hb, hml, hown, hts⟩ (c_X4_cellsOf l D cs ad x0 x1 s0 _ hk0) (cwV 1 hts gX4_make_X4_cellsOf rfl rfl rfl (by decide +kernel) ⟨Nat.le_of_ble_eq_true rfl, Nat.le_of_ble_eq_true rfl⟩) hE hP rfl rfl (w_3 hE hk0) h rfl hl.1 rfl (by first | exact lv_room (Nat.le_of_ble_eq_true rfl) | (refine lv_room ?_; simp [re_cat, cat_i, cat_l, cat_r])) dX4_make_2 ⟨Nat.le_refl _, Nat.le_refl _⟩) hS (fun r2 s1 H locs h hP hS => ?_)
  refine r_astore (i := 4) (lv' := [(4, va_re ad r2), (0, .ref (ad x0)), (1, .int x1), (2, .int x2), (3, .int x3)]) hx hb dX4_make_5 hl (by decide) (by first | rfl | simp [re_cat, cat_i, cat_l, cat_r]) (fun ls hl => ?_)
  refine r_aload hx hb dX4_make_7 (lv_at hl 0 rfl) ?_
  refine r_ifnull (tgt := 38) hx hb dX4_make_9 (by decide) (fun c3 => ?_) (fun c3 => ?_)
  · replace h := h.1 c3
    exact W.vret hx hb hr (fun t ht hW => ⟨⟨_, rfl, h, pw ht hP⟩, hS.F ht⟩) hS.2.2 dX4_make_38
  · replace h := h.2 c3
    refine lv_iload_n hx hb dX4_make_12 rfl (lv_at hl 3 rfl) ?_
    refine lv_if_lt (tgt := 38) hx hb dX4_make_13 (by decide) (fun c4 => ?_) (fun c4 => ?_)
    · replace h := h.1 c4
      exact W.vret hx hb hr (fun t ht hW => ⟨⟨_, rfl, h, pw ht hP⟩, hS.F ht⟩) hS.2.2 dX4_make_38
    · replace h := h.2 c4
      refine lv_iload_n hx hb dX4_make_16 rfl (lv_at hl 3 rfl) ?_
      refine r_aload hx hb dX4_make_17 (lv_at hl 0 rfl) ?_
      obtain ⟨k5, e6, q7, h⟩ := h
      refine r_alen hx hb hE hP e6 q7 dX4_make_19 ?_
      refine lv_icmp_gt (tgt := 38) hx hb dX4_make_20 (by decide) (fun c8 => ?_) (fun c8 => ?_)
      · replace h := h.1 c8
        exact W.vret hx hb hr (fun t ht hW => ⟨⟨_, rfl, h, pw ht hP⟩, hS.F ht⟩) hS.2.2 dX4_make_38
      · replace h := h.2 c8
        refine lv_aload_n hx hb dX4_make_23 rfl (lv_at hl 1 rfl) ?_
        refine va_get (ci := 3) (v := va_re ad (tX x0 0)) (C := RX4) (T := TX4) (N := 2) hx hb hts hi_X4 hown hE.1 hP x0 (w_3 hE hk0) rfl 0 (by decide) (hts (.fieldLink RX4 9 "HemLine$Shelf" "sizes" "[I") (by decide +kernel)) (fun _ h9 => h9) rfl dX4_make_24 ?_
        refine lv_iload_n hx hb dX4_make_27 rfl (lv_at hl 2 rfl) ?_
        refine lv_iload_n hx hb dX4_make_28 rfl (lv_at hl 3 rfl) ?_
        refine f_v (kN (As := [va_re ad (tX x0 0), .int x1, .int x2]) (rest := []) ⟨hx, hb, hml, hown, hts⟩ (c_X5_setItem l D cs ad (tX x0 0) x1 x2 s1 _) ⟨va_cnB 3 hts gX4_make_X5_setItem_n45 rfl rfl rfl (hE.2.2.2.2 ("HemLine$Shelf", 45, ⟨"HemLine", "setItem", "([III)V"⟩, "HemLine") (by decide +kernel)) (hts (.initialized RX5) (by decide +kernel)) (by decide +kernel) ⟨Nat.le_of_ble_eq_true rfl, Nat.le_of_ble_eq_true rfl⟩, hts (.static yX5_setItem) (by decide +kernel), trivial⟩ hE hP h rfl hl.1 rfl (by first | exact lv_room (Nat.le_of_ble_eq_true rfl) | (refine lv_room ?_; simp [re_cat, cat_i, cat_l, cat_r])) dX4_make_29 ⟨Nat.le_refl _, Nat.le_refl _⟩) hS (fun s9 H locs h hP hS => ?_)
        refine r_aload hx hb dX4_make_32 (lv_at hl 0 rfl) ?_
        refine lv_iload_n hx hb dX4_make_34 rfl (lv_at hl 4 rfl) ?_
        refine f_v (kS (As := [va_re ad r2, .int x3]) (rest := []) ⟨hx, hb, hml, hown, hts⟩ (c_J7_fill_53178 l bX D cs ad r2 x3 s9 _) (va_cwS 2 hts gX4_make_J7_fill_53178 rfl rfl rfl (by decide +kernel) ⟨Nat.le_of_ble_eq_true rfl, Nat.le_of_ble_eq_true rfl⟩) hE hP h rfl hl.1 rfl (by first | exact lv_room (Nat.le_of_ble_eq_true rfl) | (refine lv_room ?_; simp [re_cat, cat_i, cat_l, cat_r])) dX4_make_35 ⟨Nat.le_refl _, Nat.le_refl _⟩) hS (fun s10 H locs h hP hS => ?_)
        exact W.vret hx hb hr (fun t ht hW => ⟨⟨_, rfl, h, pw ht hP⟩, hS.F ht⟩) hS.2.2 dX4_make_38
def p_X4_remove (x0 : Nat) (x1 : Int32) (s : Sg) (Q : Sg → Prop) : Prop := p_X5_setItem (tX x0 0) x1 ((-1)) s (fun s1 => Q s1)
set_option maxHeartbeats 4000000 in
set_option maxRecDepth 100000 in
theorem c_X4_remove (l : Launch) (D : va_G) (cs : Cs) (ad : Nat → Nat) (x0 : Nat) (x1 : Int32) (s0 : Sg) (Q : Sg → Prop) (hk0 : kX x0 = 3) : Met l yX4_remove wsX4_remove { frames := 1, cells := 0, slots := 0, locals := 22 } (Pc0 bX D cs ad [.ref (ad x0), .int x1] s0 (p_X4_remove x0 x1 s0 Q)) (QV bX D cs ad Q) 0 0 (fAd bX ad) := by
  refine Met.ofW (cc := cX4_remove) (maxL := 2) (ret := none) (by decide) rfl ?_
  intro p e s m args below meth c s₁ B0 hml hv
  obtain ⟨ha, hP, hE, h⟩ := hv
  have hx := B0.exec
  have hb := B0.bytes
  have hr := B0.returns
  have hts := atoms_spec (ws := wsX4_remove) B0.pre
  have hown : s.vm.findClass RX4 = some m.cls := findClass_of_methodNamed B0.named
  have hlocks := B0.notSynchronized
  have hi_X4 : ∀ w ∈ u_ws RX4 TX4 2, w ∈ wsX4_remove := by decide +kernel
  have hS : va_S (fAd bX ad) s.heap s.heap [] := va_S.rf
  have hl := lv_entry ([.ref (ad x0), .int x1]) (n := 2) (by first | exact Nat.le_of_ble_eq_true rfl | simp [lg_sl, re_cat, cat_i, cat_l, cat_r])
  rw [show entryFrame m args 2 = entryFrame m ([.ref (ad x0), .int x1] : List Value).toArray 2 by rw [ha], lg_entry_eq]
  generalize (lg_sl ([.ref (ad x0), .int x1]) ++ List.replicate (2 - (lg_sl ([.ref (ad x0), .int x1])).length) Slot.unset).toArray = ls at hl ⊢
  have hl : lv_has ls 2 [(0, .ref (ad x0)), (1, .int x1)] := by first | exact hl | simpa [lv_args, re_cat, cat_i, cat_l, cat_r] using hl
  unfold p_X4_remove at h
  refine lv_aload_n hx hb dX4_remove_0 rfl (lv_at hl 0 rfl) ?_
  refine va_get (ci := 3) (v := va_re ad (tX x0 0)) (C := RX4) (T := TX4) (N := 2) hx hb hts hi_X4 hown hE.1 hP x0 (w_3 hE hk0) rfl 0 (by decide) (hts (.fieldLink RX4 9 "HemLine$Shelf" "sizes" "[I") (by decide +kernel)) (fun _ h9 => h9) rfl dX4_remove_1 ?_
  refine lv_iload_n hx hb dX4_remove_4 rfl (lv_at hl 1 rfl) ?_
  refine lv_iconst (v := (-1)) hx hb dX4_remove_5 (by decide) ?_
  refine f_v (kN (As := [va_re ad (tX x0 0), .int x1, .int ((-1))]) (rest := []) ⟨hx, hb, hml, hown, hts⟩ (c_X5_setItem l D cs ad (tX x0 0) x1 ((-1)) s0 _) ⟨va_cnB 3 hts gX4_remove_X5_setItem_n45 rfl rfl rfl (hE.2.2.2.2 ("HemLine$Shelf", 45, ⟨"HemLine", "setItem", "([III)V"⟩, "HemLine") (by decide +kernel)) (hts (.initialized RX5) (by decide +kernel)) (by decide +kernel) ⟨Nat.le_of_ble_eq_true rfl, Nat.le_of_ble_eq_true rfl⟩, hts (.static yX5_setItem) (by decide +kernel), trivial⟩ hE hP h rfl hl.1 rfl (by first | exact lv_room (Nat.le_of_ble_eq_true rfl) | (refine lv_room ?_; simp [re_cat, cat_i, cat_l, cat_r])) dX4_remove_6 ⟨Nat.le_refl _, Nat.le_refl _⟩) hS (fun s1 H locs h hP hS => ?_)
  exact W.vret hx hb hr (fun t ht hW => ⟨⟨_, rfl, h, pw ht hP⟩, hS.F ht⟩) hS.2.2 dX4_remove_9
def p_X4_copyCells (x0 : Nat) (x1 : Int32) (x2 : Int32) (x3 : Int32) (x4 : Int32) (x5 : Int32) (s : Sg) (Q : Sg → Prop) : Prop := p_X4_hasStretch x0 x1 x2 x5 s (fun r2 s1 => ((r2 = 0 → Q s1) ∧ (¬ r2 = 0 → p_X4_hasStretch x0 x3 x4 x5 s1 (fun r5 s4 => ((r5 = 0 → Q s4) ∧ (¬ r5 = 0 → p_X4_cellsOf x0 x1 s4 (fun r8 s7 => p_X4_cellsOf x0 x3 s7 (fun r10 s9 => p_X5_copyStretch r8 x2 r10 x4 x5 s9 (fun s11 => Q s11)))))))))
set_option maxHeartbeats 4000000 in
set_option maxRecDepth 100000 in
theorem c_X4_copyCells (l : Launch) (D : va_G) (cs : Cs) (ad : Nat → Nat) (x0 : Nat) (x1 : Int32) (x2 : Int32) (x3 : Int32) (x4 : Int32) (x5 : Int32) (s0 : Sg) (Q : Sg → Prop) (hk0 : kX x0 = 3) : Met l yX4_copyCells wsX4_copyCells { frames := 3, cells := 0, slots := 0, locals := 92 } (Pc0 bX D cs ad [.ref (ad x0), .int x1, .int x2, .int x3, .int x4, .int x5] s0 (p_X4_copyCells x0 x1 x2 x3 x4 x5 s0 Q)) (QV bX D cs ad Q) 0 0 (fAd bX ad) := by
  refine Met.ofW (cc := cX4_copyCells) (maxL := 6) (ret := none) (by decide) rfl ?_
  intro p e s m args below meth c s₁ B0 hml hv
  obtain ⟨ha, hP, hE, h⟩ := hv
  have hx := B0.exec
  have hb := B0.bytes
  have hr := B0.returns
  have hts := atoms_spec (ws := wsX4_copyCells) B0.pre
  have hown : s.vm.findClass RX4 = some m.cls := findClass_of_methodNamed B0.named
  have hlocks := B0.notSynchronized
  have hS : va_S (fAd bX ad) s.heap s.heap [] := va_S.rf
  have hl := lv_entry ([.ref (ad x0), .int x1, .int x2, .int x3, .int x4, .int x5]) (n := 6) (by first | exact Nat.le_of_ble_eq_true rfl | simp [lg_sl, re_cat, cat_i, cat_l, cat_r])
  rw [show entryFrame m args 6 = entryFrame m ([.ref (ad x0), .int x1, .int x2, .int x3, .int x4, .int x5] : List Value).toArray 6 by rw [ha], lg_entry_eq]
  generalize (lg_sl ([.ref (ad x0), .int x1, .int x2, .int x3, .int x4, .int x5]) ++ List.replicate (6 - (lg_sl ([.ref (ad x0), .int x1, .int x2, .int x3, .int x4, .int x5])).length) Slot.unset).toArray = ls at hl ⊢
  have hl : lv_has ls 6 [(0, .ref (ad x0)), (1, .int x1), (2, .int x2), (3, .int x3), (4, .int x4), (5, .int x5)] := by first | exact hl | simpa [lv_args, re_cat, cat_i, cat_l, cat_r] using hl
  unfold p_X4_copyCells at h
  refine lv_aload_n hx hb dX4_copyCells_0 rfl (lv_at hl 0 rfl) ?_
  refine lv_iload_n hx hb dX4_copyCells_1 rfl (lv_at hl 1 rfl) ?_
  refine lv_iload_n hx hb dX4_copyCells_2 rfl (lv_at hl 2 rfl) ?_
  refine lv_iload hx hb dX4_copyCells_3 (lv_at hl 5 rfl) ?_
  refine f_i (kV (As := [.int x1, .int x2, .int x5]) (rest := []) (o := some x0) rfl ⟨hx, hb, hml, hown, hts⟩ (c_X4_hasStretch l D cs ad x0 x1 x2 x5 s0 _ hk0) (cwV 3 hts gX4_copyCells_X4_hasStretch rfl rfl rfl (by decide +kernel) ⟨Nat.le_of_ble_eq_true rfl, Nat.le_of_ble_eq_true rfl⟩) hE hP rfl rfl (w_3 hE hk0) h rfl hl.1 rfl (by first | exact lv_room (Nat.le_of_ble_eq_true rfl) | (refine lv_room ?_; simp [re_cat, cat_i, cat_l, cat_r])) dX4_copyCells_5 ⟨Nat.le_refl _, Nat.le_refl _⟩) hS (fun r2 s1 H locs h hP hS => ?_)
  refine lv_if_eq (tgt := 41) hx hb dX4_copyCells_8 (by decide) (fun c3 => ?_) (fun c3 => ?_)
  · replace h := h.1 c3
    exact W.vret hx hb hr (fun t ht hW => ⟨⟨_, rfl, h, pw ht hP⟩, hS.F ht⟩) hS.2.2 dX4_copyCells_41
  · replace h := h.2 c3
    refine lv_aload_n hx hb dX4_copyCells_11 rfl (lv_at hl 0 rfl) ?_
    refine lv_iload_n hx hb dX4_copyCells_12 rfl (lv_at hl 3 rfl) ?_
    refine lv_iload hx hb dX4_copyCells_13 (lv_at hl 4 rfl) ?_
    refine lv_iload hx hb dX4_copyCells_15 (lv_at hl 5 rfl) ?_
    refine f_i (kV (As := [.int x3, .int x4, .int x5]) (rest := []) (o := some x0) rfl ⟨hx, hb, hml, hown, hts⟩ (c_X4_hasStretch l D cs ad x0 x3 x4 x5 s1 _ hk0) (cwV 3 hts gX4_copyCells_X4_hasStretch rfl rfl rfl (by decide +kernel) ⟨Nat.le_of_ble_eq_true rfl, Nat.le_of_ble_eq_true rfl⟩) hE hP rfl rfl (w_3 hE hk0) h rfl hl.1 rfl (by first | exact lv_room (Nat.le_of_ble_eq_true rfl) | (refine lv_room ?_; simp [re_cat, cat_i, cat_l, cat_r])) dX4_copyCells_17 ⟨Nat.le_refl _, Nat.le_refl _⟩) hS (fun r5 s4 H locs h hP hS => ?_)
    refine lv_if_eq (tgt := 41) hx hb dX4_copyCells_20 (by decide) (fun c6 => ?_) (fun c6 => ?_)
    · replace h := h.1 c6
      exact W.vret hx hb hr (fun t ht hW => ⟨⟨_, rfl, h, pw ht hP⟩, hS.F ht⟩) hS.2.2 dX4_copyCells_41
    · replace h := h.2 c6
      refine lv_aload_n hx hb dX4_copyCells_23 rfl (lv_at hl 0 rfl) ?_
      refine lv_iload_n hx hb dX4_copyCells_24 rfl (lv_at hl 1 rfl) ?_
      refine f_e (kV (As := [.int x1]) (rest := []) (o := some x0) rfl ⟨hx, hb, hml, hown, hts⟩ (c_X4_cellsOf l D cs ad x0 x1 s4 _ hk0) (cwV 1 hts gX4_copyCells_X4_cellsOf rfl rfl rfl (by decide +kernel) ⟨Nat.le_of_ble_eq_true rfl, Nat.le_of_ble_eq_true rfl⟩) hE hP rfl rfl (w_3 hE hk0) h rfl hl.1 rfl (by first | exact lv_room (Nat.le_of_ble_eq_true rfl) | (refine lv_room ?_; simp [re_cat, cat_i, cat_l, cat_r])) dX4_copyCells_25 ⟨Nat.le_refl _, Nat.le_refl _⟩) hS (fun r8 s7 H locs h hP hS => ?_)
      refine lv_iload_n hx hb dX4_copyCells_28 rfl (lv_at hl 2 rfl) ?_
      refine lv_aload_n hx hb dX4_copyCells_29 rfl (lv_at hl 0 rfl) ?_
      refine lv_iload_n hx hb dX4_copyCells_30 rfl (lv_at hl 3 rfl) ?_
      refine f_e (kV (As := [.int x3]) (rest := [.int x2, va_re ad r8]) (o := some x0) rfl ⟨hx, hb, hml, hown, hts⟩ (c_X4_cellsOf l D cs ad x0 x3 s7 _ hk0) (cwV 1 hts gX4_copyCells_X4_cellsOf rfl rfl rfl (by decide +kernel) ⟨Nat.le_of_ble_eq_true rfl, Nat.le_of_ble_eq_true rfl⟩) hE hP rfl rfl (w_3 hE hk0) h rfl hl.1 rfl (by first | exact lv_room (Nat.le_of_ble_eq_true rfl) | (refine lv_room ?_; simp [re_cat, cat_i, cat_l, cat_r])) dX4_copyCells_31 ⟨Nat.le_refl _, Nat.le_refl _⟩) hS (fun r10 s9 H locs h hP hS => ?_)
      refine lv_iload hx hb dX4_copyCells_34 (lv_at hl 4 rfl) ?_
      refine lv_iload hx hb dX4_copyCells_36 (lv_at hl 5 rfl) ?_
      refine f_v (kN (As := [va_re ad r8, .int x2, va_re ad r10, .int x4, .int x5]) (rest := []) ⟨hx, hb, hml, hown, hts⟩ (c_X5_copyStretch l D cs ad r8 x2 r10 x4 x5 s9 _) ⟨va_cnB 5 hts gX4_copyCells_X5_copyStretch_n53 rfl rfl rfl (hE.2.2.2.2 ("HemLine$Shelf", 53, ⟨"HemLine", "copyStretch", "([II[III)V"⟩, "HemLine") (by decide +kernel)) (hts (.initialized RX5) (by decide +kernel)) (by decide +kernel) ⟨Nat.le_of_ble_eq_true rfl, Nat.le_of_ble_eq_true rfl⟩, hts (.static yX5_copyStretch) (by decide +kernel), trivial⟩ hE hP h rfl hl.1 rfl (by first | exact lv_room (Nat.le_of_ble_eq_true rfl) | (refine lv_room ?_; simp [re_cat, cat_i, cat_l, cat_r])) dX4_copyCells_38 ⟨Nat.le_refl _, Nat.le_refl _⟩) hS (fun s11 H locs h hP hS => ?_)
      exact W.vret hx hb hr (fun t ht hW => ⟨⟨_, rfl, h, pw ht hP⟩, hS.F ht⟩) hS.2.2 dX4_copyCells_41
def p_X4_howMany_b24 (Q : Int32 → Sg → Prop) (K4 : Nat → Int32 → Int32 → Sg → Prop) (x0 : Nat) (x1 : Int32) (x2 : Int32) (s : Sg) : Prop := K4 x0 x1 (x2 + 1) s
def p_X4_howMany_L4 (Q : Int32 → Sg → Prop)  : Nat → Nat → Int32 → Int32 → Sg → Prop
  | 0, _, _, _, _ => False
  | n + 1, x0, x1, x2, s => ∃ k1, tX x0 0 = some k1 ∧ (kX k1 = 7 ∨ kX k1 = 8 ∨ kX k1 = 9) ∧ (((nI (lX k1)) ≤ x2 → Q x1 s) ∧ (¬ (nI (lX k1)) ≤ x2 → p_X4_isThere x0 x2 s (fun r6 s5 => ((r6 = 0 → p_X4_howMany_b24 Q (fun y0 y1 y2 u => p_X4_howMany_L4 Q  n y0 y1 y2 u) x0 x1 x2 s5) ∧ (¬ r6 = 0 → p_X4_howMany_b24 Q (fun y0 y1 y2 u => p_X4_howMany_L4 Q  n y0 y1 y2 u) x0 (x1 + 1) x2 s5)))))
def p_X4_howMany (x0 : Nat) (s : Sg) (Q : Int32 → Sg → Prop) : Prop := (∃ n1, p_X4_howMany_L4 Q  n1 x0 0 0 s)
set_option maxHeartbeats 4000000 in
set_option maxRecDepth 100000 in
theorem c_X4_howMany (l : Launch) (D : va_G) (cs : Cs) (ad : Nat → Nat) (x0 : Nat) (s0 : Sg) (Q : Int32 → Sg → Prop) (hk0 : kX x0 = 3) : Met l yX4_howMany wsX4_howMany { frames := 3, cells := 0, slots := 0, locals := 63 } (Pc0 bX D cs ad [.ref (ad x0)] s0 (p_X4_howMany x0 s0 Q)) (QI bX D cs ad Q) 0 0 (fAd bX ad) := by
  refine Met.ofW (cc := cX4_howMany) (maxL := 3) (ret := (some .int)) (by decide) rfl ?_
  intro p e s m args below meth c s₁ B0 hml hv
  obtain ⟨ha, hP, hE, h⟩ := hv
  have hx := B0.exec
  have hb := B0.bytes
  have hr := B0.returns
  have hts := atoms_spec (ws := wsX4_howMany) B0.pre
  have hown : s.vm.findClass RX4 = some m.cls := findClass_of_methodNamed B0.named
  have hlocks := B0.notSynchronized
  have hi_X4 : ∀ w ∈ u_ws RX4 TX4 2, w ∈ wsX4_howMany := by decide +kernel
  have hS : va_S (fAd bX ad) s.heap s.heap [] := va_S.rf
  have hl := lv_entry ([.ref (ad x0)]) (n := 3) (by first | exact Nat.le_of_ble_eq_true rfl | simp [lg_sl, re_cat, cat_i, cat_l, cat_r])
  rw [show entryFrame m args 3 = entryFrame m ([.ref (ad x0)] : List Value).toArray 3 by rw [ha], lg_entry_eq]
  generalize (lg_sl ([.ref (ad x0)]) ++ List.replicate (3 - (lg_sl ([.ref (ad x0)])).length) Slot.unset).toArray = ls at hl ⊢
  have hl : lv_has ls 3 [(0, .ref (ad x0))] := by first | exact hl | simpa [lv_args, re_cat, cat_i, cat_l, cat_r] using hl
  have hB4 : ∀ (n4 : Nat) (x1 : Int32) (x2 : Int32) (σ : Sg) (H : Heap) (locs : List Loc) (ls : Array Slot), p_X4_howMany_L4 Q  n4 x0 x1 x2 σ → va_P D vwCl (wl bX cs ad σ) H → va_S (fAd bX ad) s.heap H locs → lv_has ls 3 [(0, .ref (ad x0)), (1, .int x1), (2, .int x2)] → W p l e { frames := 3, cells := 0, slots := 0, locals := 63 } s m args below meth c H locs 0 0 (MQ below (QI bX D cs ad Q) args s 0 0 (fAd bX ad)) (F0 m 4 ls []) := by
    intro n4
    induction n4 with
    | zero =>
      intro x1 x2 σ H locs ls h
      exact h.elim
    | succ n4 ih =>
      have hK4 := ih
      have hB24 : ∀ (x1 : Int32) (x2 : Int32) (σ : Sg) (H : Heap) (locs : List Loc) (ls : Array Slot), p_X4_howMany_b24 Q (fun y0 y1 y2 u => p_X4_howMany_L4 Q  n4 y0 y1 y2 u) x0 x1 x2 σ → va_P D vwCl (wl bX cs ad σ) H → va_S (fAd bX ad) s.heap H locs → lv_has ls 3 [(0, .ref (ad x0)), (1, .int x1), (2, .int x2)] → W p l e { frames := 3, cells := 0, slots := 0, locals := 63 } s m args below meth c H locs 0 0 (MQ below (QI bX D cs ad Q) args s 0 0 (fAd bX ad)) (F0 m 24 ls []) := by
        intro x1 x2 σ H locs ls h hP hS hl
        unfold p_X4_howMany_b24 at h
        refine lv_iinc (v := x2 + 1) (lv' := [(2, .int (x2 + 1)), (0, .ref (ad x0)), (1, .int x1)]) hx hb dX4_howMany_24 hl (k := 2) rfl rfl (by decide) (by first | rfl | simp [re_cat, cat_i, cat_l, cat_r]) (fun ls hl => ?_)
        refine lv_goto (tgt := 4) hx hb dX4_howMany_27 (by decide) ?_
        exact hK4 x1 (x2 + 1) σ H locs ls h hP hS (lv_sub hl [1, 2, 0] rfl)
      intro x1 x2 σ H locs ls h hP hS hl
      rw [p_X4_howMany_L4] at h
      refine lv_iload_n hx hb dX4_howMany_4 rfl (lv_at hl 2 rfl) ?_
      refine lv_aload_n hx hb dX4_howMany_5 rfl (lv_at hl 0 rfl) ?_
      refine va_get (ci := 3) (v := va_re ad (tX x0 0)) (C := RX4) (T := TX4) (N := 2) hx hb hts hi_X4 hown hE.1 hP x0 (w_3 hE hk0) rfl 0 (by decide) (hts (.fieldLink RX4 9 "HemLine$Shelf" "sizes" "[I") (by decide +kernel)) (fun _ h9 => h9) rfl dX4_howMany_6 ?_
      obtain ⟨k1, e2, q3, h⟩ := h
      refine r_alen hx hb hE hP e2 q3 dX4_howMany_9 ?_
      refine lv_icmp_ge (tgt := 30) hx hb dX4_howMany_10 (by decide) (fun c4 => ?_) (fun c4 => ?_)
      · replace h := h.1 c4
        refine lv_iload_n hx hb dX4_howMany_30 rfl (lv_at hl 1 rfl) ?_
        exact W.iret hx hb hr (fun t ht hW => ⟨⟨_, _, rfl, h, pw ht hP⟩, hS.F ht⟩) hS.2.2 dX4_howMany_31
      · replace h := h.2 c4
        refine lv_aload_n hx hb dX4_howMany_13 rfl (lv_at hl 0 rfl) ?_
        refine lv_iload_n hx hb dX4_howMany_14 rfl (lv_at hl 2 rfl) ?_
        refine f_i (kV (As := [.int x2]) (rest := []) (o := some x0) rfl ⟨hx, hb, hml, hown, hts⟩ (c_X4_isThere l D cs ad x0 x2 σ _ hk0) (cwV 1 hts gX4_howMany_X4_isThere rfl rfl rfl (by decide +kernel) ⟨Nat.le_of_ble_eq_true rfl, Nat.le_of_ble_eq_true rfl⟩) hE hP rfl rfl (w_3 hE hk0) h rfl hl.1 rfl (by first | exact lv_room (Nat.le_of_ble_eq_true rfl) | (refine lv_room ?_; simp [re_cat, cat_i, cat_l, cat_r])) dX4_howMany_15 ⟨Nat.le_refl _, Nat.le_refl _⟩) hS (fun r6 s5 H locs h hP hS => ?_)
        refine lv_if_eq (tgt := 24) hx hb dX4_howMany_18 (by decide) (fun c7 => ?_) (fun c7 => ?_)
        · replace h := h.1 c7
          exact hB24 x1 x2 s5 H locs ls h hP hS (lv_sub hl [0, 1, 2] rfl)
        · replace h := h.2 c7
          refine lv_iinc (v := x1 + 1) (lv' := [(1, .int (x1 + 1)), (0, .ref (ad x0)), (2, .int x2)]) hx hb dX4_howMany_21 hl (k := 1) rfl rfl (by decide) (by first | rfl | simp [re_cat, cat_i, cat_l, cat_r]) (fun ls hl => ?_)
          exact hB24 (x1 + 1) x2 s5 H locs ls h hP hS (lv_sub hl [1, 0, 2] rfl)
  unfold p_X4_howMany at h
  refine lv_iconst (v := 0) hx hb dX4_howMany_0 (by decide) ?_
  refine lv_istore_n (i := 1) (lv' := [(1, .int 0), (0, .ref (ad x0))]) hx hb dX4_howMany_1 rfl hl (by decide) (by first | rfl | simp [re_cat, cat_i, cat_l, cat_r]) (fun ls hl => ?_)
  refine lv_iconst (v := 0) hx hb dX4_howMany_2 (by decide) ?_
  refine lv_istore_n (i := 2) (lv' := [(2, .int 0), (1, .int 0), (0, .ref (ad x0))]) hx hb dX4_howMany_3 rfl hl (by decide) (by first | rfl | simp [re_cat, cat_i, cat_l, cat_r]) (fun ls hl => ?_)
  obtain ⟨n1, h⟩ := h
  exact hB4 n1 0 0 s0 _ _ ls h hP hS (lv_sub hl [2, 1, 0] rfl)
