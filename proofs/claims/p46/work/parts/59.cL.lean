set_option maxRecDepth 100000 in
def p_L_low (x0 : Int32) (x1 : Int32) (s : Sg) (Q : Int32 → Sg → Prop) : Prop := ¬ x1 = 0 ∧ Q ((x0 &&& 2147483647) - (x0 &&& 2147483647) / x1 * x1) s
set_option maxHeartbeats 4000000 in
set_option maxRecDepth 100000 in
theorem c_L_low (l : Launch) (D : va_G) (cs : Cs) (ad : Nat → Nat) (x0 : Int32) (x1 : Int32) (s0 : Sg) (Q : Int32 → Sg → Prop) : Met l yL_low wsL_low { frames := 0, cells := 0, slots := 0, locals := 0 } (Pc0 bX D cs ad [.int x0, .int x1] s0 (p_L_low x0 x1 s0 Q)) (QI bX D cs ad Q) 0 0 (fAd bX ad) := by
  refine Met.ofW (cc := cL_low) (maxL := 2) (ret := (some .int)) (by decide) rfl ?_
  intro p e s m args below meth c s₁ B0 hml hv
  obtain ⟨ha, hP, hE, h⟩ := hv
  have hx := B0.exec
  have hb := B0.bytes
  have hr := B0.returns
  have hts := atoms_spec (ws := wsL_low) B0.pre
  have hown : s.vm.findClass RL = some m.cls := findClass_of_methodNamed B0.named
  have hlocks := B0.notSynchronized
  have hS : va_S (fAd bX ad) s.heap s.heap [] := va_S.rf
  have hl := lv_entry ([.int x0, .int x1]) (n := 2) (by first | exact Nat.le_of_ble_eq_true rfl | simp [lg_sl, re_cat, cat_i, cat_l, cat_r])
  rw [show entryFrame m args 2 = entryFrame m ([.int x0, .int x1] : List Value).toArray 2 by rw [ha], lg_entry_eq]
  generalize (lg_sl ([.int x0, .int x1]) ++ List.replicate (2 - (lg_sl ([.int x0, .int x1])).length) Slot.unset).toArray = ls at hl ⊢
  have hl : lv_has ls 2 [(0, .int x0), (1, .int x1)] := by first | exact hl | simpa [lv_args, re_cat, cat_i, cat_l, cat_r] using hl
  unfold p_L_low at h
  refine lv_iload_n hx hb dL_low_0 rfl (lv_at hl 0 rfl) ?_
  refine lv_ldc (v := 2147483647) hx hb hown (hts (.constant RL 8 (2147483647)) (by decide +kernel)) dL_low_1 ?_
  refine lv_iand hx hb dL_low_3 ?_
  refine lv_iload_n hx hb dL_low_4 rfl (lv_at hl 1 rfl) ?_
  obtain ⟨z1, h⟩ := h
  refine lv_irem hx hb dL_low_5 z1 ?_
  exact W.iret hx hb hr (fun t ht hW => ⟨⟨_, _, rfl, h, pw ht hP⟩, hS.F ht⟩) hS.2.2 dL_low_6
set_option maxRecDepth 100000 in
def p_L_delta (x0 : Option Nat) (s : Sg) (Q : Int32 → Sg → Prop) : Prop := ∃ k1, x0 = some k1 ∧ kX k1 = 4 ∧ p_X5_text k1 0 32 s (fun r5 s4 => ((r5 = 32 → ∃ k7, x0 = some k7 ∧ kX k7 = 4 ∧ p_X5_put k7 0 0 100 s4 (fun r11 s10 => ((r11 = 1032 → ∃ k13, x0 = some k13 ∧ kX k13 = 4 ∧ p_X5_put k13 0 1 51 s10 (fun r17 s16 => ((r17 = 1032 → ∃ k19, x0 = some k19 ∧ kX k19 = 4 ∧ p_X5_put k19 0 2 52 s16 (fun r23 s22 => ((r23 = 1032 → ∃ k25, x0 = some k25 ∧ kX k25 = 4 ∧ p_X5_put k25 0 3 53 s22 (fun r29 s28 => ((r29 = 1032 → ∃ k31, x0 = some k31 ∧ kX k31 = 4 ∧ p_X5_put k31 0 4 48 s28 (fun r35 s34 => ((r35 = 1032 → ∃ k37, x0 = some k37 ∧ kX k37 = 4 ∧ p_X5_put k37 0 5 48 s34 (fun r41 s40 => ((r41 = 1032 → ∃ k43, x0 = some k43 ∧ kX k43 = 4 ∧ p_X5_put k43 0 6 48 s40 (fun r47 s46 => ((r47 = 1032 → ∃ k49, x0 = some k49 ∧ kX k49 = 4 ∧ p_X5_put k49 0 7 50 s46 (fun r53 s52 => ((r53 = 1032 → ∃ k55, x0 = some k55 ∧ kX k55 = 4 ∧ p_X5_put k55 0 8 32 s52 (fun r59 s58 => ((r59 = 1032 → ∃ k61, x0 = some k61 ∧ kX k61 = 4 ∧ p_X5_put k61 0 9 98 s58 (fun r65 s64 => ((r65 = 1032 → ∃ k67, x0 = some k67 ∧ kX k67 = 4 ∧ p_X5_put k67 0 10 48 s64 (fun r71 s70 => ((r71 = 1032 → ∃ k73, x0 = some k73 ∧ kX k73 = 4 ∧ p_X5_put k73 0 11 53 s70 (fun r77 s76 => ((r77 = 1032 → ∃ k79, x0 = some k79 ∧ kX k79 = 4 ∧ p_X5_put k79 0 12 49 s76 (fun r83 s82 => ((r83 = 1032 → ∃ k85, x0 = some k85 ∧ kX k85 = 4 ∧ p_X5_put k85 0 13 32 s82 (fun r89 s88 => ((r89 = 1032 → ∃ k91, x0 = some k91 ∧ kX k91 = 4 ∧ p_X5_put k91 0 14 108 s88 (fun r95 s94 => ((r95 = 1032 → ∃ k97, x0 = some k97 ∧ kX k97 = 4 ∧ p_X5_put k97 0 15 49 s94 (fun r101 s100 => ((r101 = 1032 → ∃ k103, x0 = some k103 ∧ kX k103 = 4 ∧ p_X5_put k103 0 16 57 s100 (fun r107 s106 => ((r107 = 1032 → ∃ k109, x0 = some k109 ∧ kX k109 = 4 ∧ p_X5_put k109 0 17 50 s106 (fun r113 s112 => ((r113 = 1032 → ∃ k115, x0 = some k115 ∧ kX k115 = 4 ∧ p_X5_put k115 0 18 32 s112 (fun r119 s118 => ((r119 = 1032 → ∃ k121, x0 = some k121 ∧ kX k121 = 4 ∧ p_X5_put k121 0 19 103 s118 (fun r125 s124 => ((r125 = 1032 → ∃ k127, x0 = some k127 ∧ kX k127 = 4 ∧ p_X5_put k127 0 20 51 s124 (fun r131 s130 => ((r131 = 1032 → ∃ k133, x0 = some k133 ∧ kX k133 = 4 ∧ p_X5_put k133 0 21 51 s130 (fun r137 s136 => ((r137 = 1032 → ∃ k139, x0 = some k139 ∧ kX k139 = 4 ∧ p_X5_put k139 0 22 48 s136 (fun r143 s142 => ((r143 = 1032 → ∃ k145, x0 = some k145 ∧ kX k145 = 4 ∧ p_X5_put k145 0 23 118 s142 (fun r149 s148 => ((r149 = 1032 → ∃ k151, x0 = some k151 ∧ kX k151 = 4 ∧ p_X5_put k151 0 24 51 s148 (fun r155 s154 => ((r155 = 1032 → ∃ k157, x0 = some k157 ∧ kX k157 = 4 ∧ p_X5_put k157 0 25 56 s154 (fun r161 s160 => ((r161 = 1032 → ∃ k163, x0 = some k163 ∧ kX k163 = 4 ∧ p_X5_put k163 0 26 48 s160 (fun r167 s166 => ((r167 = 1032 → ∃ k169, x0 = some k169 ∧ kX k169 = 4 ∧ p_X5_put k169 0 27 32 s166 (fun r173 s172 => ((r173 = 1032 → ∃ k175, x0 = some k175 ∧ kX k175 = 4 ∧ p_X5_put k175 0 28 97 s172 (fun r179 s178 => ((r179 = 1032 → ∃ k181, x0 = some k181 ∧ kX k181 = 4 ∧ p_X5_put k181 0 29 49 s178 (fun r185 s184 => ((r185 = 1032 → ∃ k187, x0 = some k187 ∧ kX k187 = 4 ∧ p_X5_put k187 0 30 53 s184 (fun r191 s190 => ((r191 = 1032 → ∃ k193, x0 = some k193 ∧ kX k193 = 4 ∧ p_X5_put k193 0 31 51 s190 (fun r197 s196 => ((r197 = 1032 → ∃ k199, x0 = some k199 ∧ kX k199 = 4 ∧ p_X5_delta k199 0 s196 (fun r203 s202 => ((r203 = 5 → Q 1 s202) ∧ (¬ r203 = 5 → Q 0 s202)))) ∧ (¬ r197 = 1032 → Q 0 s196)))) ∧ (¬ r191 = 1032 → Q 0 s190)))) ∧ (¬ r185 = 1032 → Q 0 s184)))) ∧ (¬ r179 = 1032 → Q 0 s178)))) ∧ (¬ r173 = 1032 → Q 0 s172)))) ∧ (¬ r167 = 1032 → Q 0 s166)))) ∧ (¬ r161 = 1032 → Q 0 s160)))) ∧ (¬ r155 = 1032 → Q 0 s154)))) ∧ (¬ r149 = 1032 → Q 0 s148)))) ∧ (¬ r143 = 1032 → Q 0 s142)))) ∧ (¬ r137 = 1032 → Q 0 s136)))) ∧ (¬ r131 = 1032 → Q 0 s130)))) ∧ (¬ r125 = 1032 → Q 0 s124)))) ∧ (¬ r119 = 1032 → Q 0 s118)))) ∧ (¬ r113 = 1032 → Q 0 s112)))) ∧ (¬ r107 = 1032 → Q 0 s106)))) ∧ (¬ r101 = 1032 → Q 0 s100)))) ∧ (¬ r95 = 1032 → Q 0 s94)))) ∧ (¬ r89 = 1032 → Q 0 s88)))) ∧ (¬ r83 = 1032 → Q 0 s82)))) ∧ (¬ r77 = 1032 → Q 0 s76)))) ∧ (¬ r71 = 1032 → Q 0 s70)))) ∧ (¬ r65 = 1032 → Q 0 s64)))) ∧ (¬ r59 = 1032 → Q 0 s58)))) ∧ (¬ r53 = 1032 → Q 0 s52)))) ∧ (¬ r47 = 1032 → Q 0 s46)))) ∧ (¬ r41 = 1032 → Q 0 s40)))) ∧ (¬ r35 = 1032 → Q 0 s34)))) ∧ (¬ r29 = 1032 → Q 0 s28)))) ∧ (¬ r23 = 1032 → Q 0 s22)))) ∧ (¬ r17 = 1032 → Q 0 s16)))) ∧ (¬ r11 = 1032 → Q 0 s10)))) ∧ (¬ r5 = 32 → Q 0 s4)))
set_option maxHeartbeats 4000000 in
set_option maxRecDepth 100000 in
theorem c_L_delta (l : Launch) (D : va_G) (cs : Cs) (ad : Nat → Nat) (x0 : Option Nat) (s0 : Sg) (Q : Int32 → Sg → Prop) : Met l yL_delta wsL_delta { frames := 7, cells := 0, slots := 0, locals := 158 } (Pc0 bX D cs ad [va_re ad x0] s0 (p_L_delta x0 s0 Q)) (QI bX D cs ad Q) 0 0 (fAd bX ad) := by
  refine Met.ofW (cc := cL_delta) (maxL := 1) (ret := (some .boolean)) (by decide) rfl ?_
  intro p e s m args below meth c s₁ B0 hml hv
  obtain ⟨ha, hP, hE, h⟩ := hv
  have hx := B0.exec
  have hb := B0.bytes
  have hr := B0.returns
  have hts := atoms_spec (ws := wsL_delta) B0.pre
  have hown : s.vm.findClass RL = some m.cls := findClass_of_methodNamed B0.named
  have hlocks := B0.notSynchronized
  have hS : va_S (fAd bX ad) s.heap s.heap [] := va_S.rf
  have hl := lv_entry ([va_re ad x0]) (n := 1) (by first | exact Nat.le_of_ble_eq_true rfl | simp [lg_sl, re_cat, cat_i, cat_l, cat_r])
  rw [show entryFrame m args 1 = entryFrame m ([va_re ad x0] : List Value).toArray 1 by rw [ha], lg_entry_eq]
  generalize (lg_sl ([va_re ad x0]) ++ List.replicate (1 - (lg_sl ([va_re ad x0])).length) Slot.unset).toArray = ls at hl ⊢
  have hl : lv_has ls 1 [(0, va_re ad x0)] := by first | exact hl | simpa [lv_args, re_cat, cat_i, cat_l, cat_r] using hl
  unfold p_L_delta at h
  refine r_aload_n hx hb dL_delta_0 rfl (lv_at hl 0 rfl) ?_
  refine lv_iconst (v := 0) hx hb dL_delta_1 (by decide) ?_
  refine lv_bipush (v := 32) hx hb dL_delta_2 (by decide) ?_
  obtain ⟨k1, e2, q3, h⟩ := h
  refine f_i (kV (As := [.int 0, .int 32]) (rest := []) e2 ⟨hx, hb, hml, hown, hts⟩ (c_X5_text l D cs ad k1 0 32 s0 _ q3) (cwV 2 hts gL_delta_X5_text rfl rfl rfl (by decide +kernel) ⟨Nat.le_of_ble_eq_true rfl, Nat.le_of_ble_eq_true rfl⟩) hE hP rfl rfl (w_4 hE q3) h rfl hl.1 rfl (by first | exact lv_room (Nat.le_of_ble_eq_true rfl) | (refine lv_room ?_; simp [re_cat, cat_i, cat_l, cat_r])) dL_delta_4 ⟨Nat.le_refl _, Nat.le_refl _⟩) hS (fun r5 s4 H locs h hP hS => ?_)
  refine lv_bipush (v := 32) hx hb dL_delta_7 (by decide) ?_
  refine lv_icmp_ne (tgt := 499) hx hb dL_delta_9 (by decide) (fun c6 => ?_) (fun c6 => ?_)
  · replace h := h.2 c6
    refine lv_iconst (v := 0) hx hb dL_delta_499 (by decide) ?_
    exact W.zret hx hb hr rfl (fun t ht hW => ⟨⟨_, _, rfl, h, pw ht hP⟩, hS.F ht⟩) hS.2.2 dL_delta_500
  · replace h := h.1 c6
    refine r_aload_n hx hb dL_delta_12 rfl (lv_at hl 0 rfl) ?_
    refine lv_iconst (v := 0) hx hb dL_delta_13 (by decide) ?_
    refine lv_iconst (v := 0) hx hb dL_delta_14 (by decide) ?_
    refine lv_bipush (v := 100) hx hb dL_delta_15 (by decide) ?_
    obtain ⟨k7, e8, q9, h⟩ := h
    refine f_i (kV (As := [.int 0, .int 0, .int 100]) (rest := []) e8 ⟨hx, hb, hml, hown, hts⟩ (c_X5_put l D cs ad k7 0 0 100 s4 _ q9) (cwV 3 hts gL_delta_X5_put rfl rfl rfl (by decide +kernel) ⟨Nat.le_of_ble_eq_true rfl, Nat.le_of_ble_eq_true rfl⟩) hE hP rfl rfl (w_4 hE q9) h rfl hl.1 rfl (by first | exact lv_room (Nat.le_of_ble_eq_true rfl) | (refine lv_room ?_; simp [re_cat, cat_i, cat_l, cat_r])) dL_delta_17 ⟨Nat.le_refl _, Nat.le_refl _⟩) hS (fun r11 s10 H locs h hP hS => ?_)
    refine lv_sipush (v := 1032) hx hb dL_delta_20 (by decide) ?_
    refine lv_icmp_ne (tgt := 499) hx hb dL_delta_23 (by decide) (fun c12 => ?_) (fun c12 => ?_)
    · replace h := h.2 c12
      refine lv_iconst (v := 0) hx hb dL_delta_499 (by decide) ?_
      exact W.zret hx hb hr rfl (fun t ht hW => ⟨⟨_, _, rfl, h, pw ht hP⟩, hS.F ht⟩) hS.2.2 dL_delta_500
    · replace h := h.1 c12
      refine r_aload_n hx hb dL_delta_26 rfl (lv_at hl 0 rfl) ?_
      refine lv_iconst (v := 0) hx hb dL_delta_27 (by decide) ?_
      refine lv_iconst (v := 1) hx hb dL_delta_28 (by decide) ?_
      refine lv_bipush (v := 51) hx hb dL_delta_29 (by decide) ?_
      obtain ⟨k13, e14, q15, h⟩ := h
      refine f_i (kV (As := [.int 0, .int 1, .int 51]) (rest := []) e14 ⟨hx, hb, hml, hown, hts⟩ (c_X5_put l D cs ad k13 0 1 51 s10 _ q15) (cwV 3 hts gL_delta_X5_put rfl rfl rfl (by decide +kernel) ⟨Nat.le_of_ble_eq_true rfl, Nat.le_of_ble_eq_true rfl⟩) hE hP rfl rfl (w_4 hE q15) h rfl hl.1 rfl (by first | exact lv_room (Nat.le_of_ble_eq_true rfl) | (refine lv_room ?_; simp [re_cat, cat_i, cat_l, cat_r])) dL_delta_31 ⟨Nat.le_refl _, Nat.le_refl _⟩) hS (fun r17 s16 H locs h hP hS => ?_)
      refine lv_sipush (v := 1032) hx hb dL_delta_34 (by decide) ?_
      refine lv_icmp_ne (tgt := 499) hx hb dL_delta_37 (by decide) (fun c18 => ?_) (fun c18 => ?_)
      · replace h := h.2 c18
        refine lv_iconst (v := 0) hx hb dL_delta_499 (by decide) ?_
        exact W.zret hx hb hr rfl (fun t ht hW => ⟨⟨_, _, rfl, h, pw ht hP⟩, hS.F ht⟩) hS.2.2 dL_delta_500
      · replace h := h.1 c18
        refine r_aload_n hx hb dL_delta_40 rfl (lv_at hl 0 rfl) ?_
        refine lv_iconst (v := 0) hx hb dL_delta_41 (by decide) ?_
        refine lv_iconst (v := 2) hx hb dL_delta_42 (by decide) ?_
        refine lv_bipush (v := 52) hx hb dL_delta_43 (by decide) ?_
        obtain ⟨k19, e20, q21, h⟩ := h
        refine f_i (kV (As := [.int 0, .int 2, .int 52]) (rest := []) e20 ⟨hx, hb, hml, hown, hts⟩ (c_X5_put l D cs ad k19 0 2 52 s16 _ q21) (cwV 3 hts gL_delta_X5_put rfl rfl rfl (by decide +kernel) ⟨Nat.le_of_ble_eq_true rfl, Nat.le_of_ble_eq_true rfl⟩) hE hP rfl rfl (w_4 hE q21) h rfl hl.1 rfl (by first | exact lv_room (Nat.le_of_ble_eq_true rfl) | (refine lv_room ?_; simp [re_cat, cat_i, cat_l, cat_r])) dL_delta_45 ⟨Nat.le_refl _, Nat.le_refl _⟩) hS (fun r23 s22 H locs h hP hS => ?_)
        refine lv_sipush (v := 1032) hx hb dL_delta_48 (by decide) ?_
        refine lv_icmp_ne (tgt := 499) hx hb dL_delta_51 (by decide) (fun c24 => ?_) (fun c24 => ?_)
        · replace h := h.2 c24
          refine lv_iconst (v := 0) hx hb dL_delta_499 (by decide) ?_
          exact W.zret hx hb hr rfl (fun t ht hW => ⟨⟨_, _, rfl, h, pw ht hP⟩, hS.F ht⟩) hS.2.2 dL_delta_500
        · replace h := h.1 c24
          refine r_aload_n hx hb dL_delta_54 rfl (lv_at hl 0 rfl) ?_
          refine lv_iconst (v := 0) hx hb dL_delta_55 (by decide) ?_
          refine lv_iconst (v := 3) hx hb dL_delta_56 (by decide) ?_
          refine lv_bipush (v := 53) hx hb dL_delta_57 (by decide) ?_
          obtain ⟨k25, e26, q27, h⟩ := h
          refine f_i (kV (As := [.int 0, .int 3, .int 53]) (rest := []) e26 ⟨hx, hb, hml, hown, hts⟩ (c_X5_put l D cs ad k25 0 3 53 s22 _ q27) (cwV 3 hts gL_delta_X5_put rfl rfl rfl (by decide +kernel) ⟨Nat.le_of_ble_eq_true rfl, Nat.le_of_ble_eq_true rfl⟩) hE hP rfl rfl (w_4 hE q27) h rfl hl.1 rfl (by first | exact lv_room (Nat.le_of_ble_eq_true rfl) | (refine lv_room ?_; simp [re_cat, cat_i, cat_l, cat_r])) dL_delta_59 ⟨Nat.le_refl _, Nat.le_refl _⟩) hS (fun r29 s28 H locs h hP hS => ?_)
          refine lv_sipush (v := 1032) hx hb dL_delta_62 (by decide) ?_
          refine lv_icmp_ne (tgt := 499) hx hb dL_delta_65 (by decide) (fun c30 => ?_) (fun c30 => ?_)
          · replace h := h.2 c30
            refine lv_iconst (v := 0) hx hb dL_delta_499 (by decide) ?_
            exact W.zret hx hb hr rfl (fun t ht hW => ⟨⟨_, _, rfl, h, pw ht hP⟩, hS.F ht⟩) hS.2.2 dL_delta_500
          · replace h := h.1 c30
            refine r_aload_n hx hb dL_delta_68 rfl (lv_at hl 0 rfl) ?_
            refine lv_iconst (v := 0) hx hb dL_delta_69 (by decide) ?_
            refine lv_iconst (v := 4) hx hb dL_delta_70 (by decide) ?_
            refine lv_bipush (v := 48) hx hb dL_delta_71 (by decide) ?_
            obtain ⟨k31, e32, q33, h⟩ := h
            refine f_i (kV (As := [.int 0, .int 4, .int 48]) (rest := []) e32 ⟨hx, hb, hml, hown, hts⟩ (c_X5_put l D cs ad k31 0 4 48 s28 _ q33) (cwV 3 hts gL_delta_X5_put rfl rfl rfl (by decide +kernel) ⟨Nat.le_of_ble_eq_true rfl, Nat.le_of_ble_eq_true rfl⟩) hE hP rfl rfl (w_4 hE q33) h rfl hl.1 rfl (by first | exact lv_room (Nat.le_of_ble_eq_true rfl) | (refine lv_room ?_; simp [re_cat, cat_i, cat_l, cat_r])) dL_delta_73 ⟨Nat.le_refl _, Nat.le_refl _⟩) hS (fun r35 s34 H locs h hP hS => ?_)
            refine lv_sipush (v := 1032) hx hb dL_delta_76 (by decide) ?_
            refine lv_icmp_ne (tgt := 499) hx hb dL_delta_79 (by decide) (fun c36 => ?_) (fun c36 => ?_)
            · replace h := h.2 c36
              refine lv_iconst (v := 0) hx hb dL_delta_499 (by decide) ?_
              exact W.zret hx hb hr rfl (fun t ht hW => ⟨⟨_, _, rfl, h, pw ht hP⟩, hS.F ht⟩) hS.2.2 dL_delta_500
            · replace h := h.1 c36
              refine r_aload_n hx hb dL_delta_82 rfl (lv_at hl 0 rfl) ?_
              refine lv_iconst (v := 0) hx hb dL_delta_83 (by decide) ?_
              refine lv_iconst (v := 5) hx hb dL_delta_84 (by decide) ?_
              refine lv_bipush (v := 48) hx hb dL_delta_85 (by decide) ?_
              obtain ⟨k37, e38, q39, h⟩ := h
              refine f_i (kV (As := [.int 0, .int 5, .int 48]) (rest := []) e38 ⟨hx, hb, hml, hown, hts⟩ (c_X5_put l D cs ad k37 0 5 48 s34 _ q39) (cwV 3 hts gL_delta_X5_put rfl rfl rfl (by decide +kernel) ⟨Nat.le_of_ble_eq_true rfl, Nat.le_of_ble_eq_true rfl⟩) hE hP rfl rfl (w_4 hE q39) h rfl hl.1 rfl (by first | exact lv_room (Nat.le_of_ble_eq_true rfl) | (refine lv_room ?_; simp [re_cat, cat_i, cat_l, cat_r])) dL_delta_87 ⟨Nat.le_refl _, Nat.le_refl _⟩) hS (fun r41 s40 H locs h hP hS => ?_)
              refine lv_sipush (v := 1032) hx hb dL_delta_90 (by decide) ?_
              refine lv_icmp_ne (tgt := 499) hx hb dL_delta_93 (by decide) (fun c42 => ?_) (fun c42 => ?_)
              · replace h := h.2 c42
                refine lv_iconst (v := 0) hx hb dL_delta_499 (by decide) ?_
                exact W.zret hx hb hr rfl (fun t ht hW => ⟨⟨_, _, rfl, h, pw ht hP⟩, hS.F ht⟩) hS.2.2 dL_delta_500
              · replace h := h.1 c42
                refine r_aload_n hx hb dL_delta_96 rfl (lv_at hl 0 rfl) ?_
                refine lv_iconst (v := 0) hx hb dL_delta_97 (by decide) ?_
                refine lv_bipush (v := 6) hx hb dL_delta_98 (by decide) ?_
                refine lv_bipush (v := 48) hx hb dL_delta_100 (by decide) ?_
                obtain ⟨k43, e44, q45, h⟩ := h
                refine f_i (kV (As := [.int 0, .int 6, .int 48]) (rest := []) e44 ⟨hx, hb, hml, hown, hts⟩ (c_X5_put l D cs ad k43 0 6 48 s40 _ q45) (cwV 3 hts gL_delta_X5_put rfl rfl rfl (by decide +kernel) ⟨Nat.le_of_ble_eq_true rfl, Nat.le_of_ble_eq_true rfl⟩) hE hP rfl rfl (w_4 hE q45) h rfl hl.1 rfl (by first | exact lv_room (Nat.le_of_ble_eq_true rfl) | (refine lv_room ?_; simp [re_cat, cat_i, cat_l, cat_r])) dL_delta_102 ⟨Nat.le_refl _, Nat.le_refl _⟩) hS (fun r47 s46 H locs h hP hS => ?_)
                refine lv_sipush (v := 1032) hx hb dL_delta_105 (by decide) ?_
                refine lv_icmp_ne (tgt := 499) hx hb dL_delta_108 (by decide) (fun c48 => ?_) (fun c48 => ?_)
                · replace h := h.2 c48
                  refine lv_iconst (v := 0) hx hb dL_delta_499 (by decide) ?_
                  exact W.zret hx hb hr rfl (fun t ht hW => ⟨⟨_, _, rfl, h, pw ht hP⟩, hS.F ht⟩) hS.2.2 dL_delta_500
                · replace h := h.1 c48
                  refine r_aload_n hx hb dL_delta_111 rfl (lv_at hl 0 rfl) ?_
                  refine lv_iconst (v := 0) hx hb dL_delta_112 (by decide) ?_
                  refine lv_bipush (v := 7) hx hb dL_delta_113 (by decide) ?_
                  refine lv_bipush (v := 50) hx hb dL_delta_115 (by decide) ?_
                  obtain ⟨k49, e50, q51, h⟩ := h
                  refine f_i (kV (As := [.int 0, .int 7, .int 50]) (rest := []) e50 ⟨hx, hb, hml, hown, hts⟩ (c_X5_put l D cs ad k49 0 7 50 s46 _ q51) (cwV 3 hts gL_delta_X5_put rfl rfl rfl (by decide +kernel) ⟨Nat.le_of_ble_eq_true rfl, Nat.le_of_ble_eq_true rfl⟩) hE hP rfl rfl (w_4 hE q51) h rfl hl.1 rfl (by first | exact lv_room (Nat.le_of_ble_eq_true rfl) | (refine lv_room ?_; simp [re_cat, cat_i, cat_l, cat_r])) dL_delta_117 ⟨Nat.le_refl _, Nat.le_refl _⟩) hS (fun r53 s52 H locs h hP hS => ?_)
                  refine lv_sipush (v := 1032) hx hb dL_delta_120 (by decide) ?_
                  refine lv_icmp_ne (tgt := 499) hx hb dL_delta_123 (by decide) (fun c54 => ?_) (fun c54 => ?_)
                  · replace h := h.2 c54
                    refine lv_iconst (v := 0) hx hb dL_delta_499 (by decide) ?_
                    exact W.zret hx hb hr rfl (fun t ht hW => ⟨⟨_, _, rfl, h, pw ht hP⟩, hS.F ht⟩) hS.2.2 dL_delta_500
                  · replace h := h.1 c54
                    refine r_aload_n hx hb dL_delta_126 rfl (lv_at hl 0 rfl) ?_
                    refine lv_iconst (v := 0) hx hb dL_delta_127 (by decide) ?_
                    refine lv_bipush (v := 8) hx hb dL_delta_128 (by decide) ?_
                    refine lv_bipush (v := 32) hx hb dL_delta_130 (by decide) ?_
                    obtain ⟨k55, e56, q57, h⟩ := h
                    refine f_i (kV (As := [.int 0, .int 8, .int 32]) (rest := []) e56 ⟨hx, hb, hml, hown, hts⟩ (c_X5_put l D cs ad k55 0 8 32 s52 _ q57) (cwV 3 hts gL_delta_X5_put rfl rfl rfl (by decide +kernel) ⟨Nat.le_of_ble_eq_true rfl, Nat.le_of_ble_eq_true rfl⟩) hE hP rfl rfl (w_4 hE q57) h rfl hl.1 rfl (by first | exact lv_room (Nat.le_of_ble_eq_true rfl) | (refine lv_room ?_; simp [re_cat, cat_i, cat_l, cat_r])) dL_delta_132 ⟨Nat.le_refl _, Nat.le_refl _⟩) hS (fun r59 s58 H locs h hP hS => ?_)
                    refine lv_sipush (v := 1032) hx hb dL_delta_135 (by decide) ?_
                    refine lv_icmp_ne (tgt := 499) hx hb dL_delta_138 (by decide) (fun c60 => ?_) (fun c60 => ?_)
                    · replace h := h.2 c60
                      refine lv_iconst (v := 0) hx hb dL_delta_499 (by decide) ?_
                      exact W.zret hx hb hr rfl (fun t ht hW => ⟨⟨_, _, rfl, h, pw ht hP⟩, hS.F ht⟩) hS.2.2 dL_delta_500
                    · replace h := h.1 c60
                      refine r_aload_n hx hb dL_delta_141 rfl (lv_at hl 0 rfl) ?_
                      refine lv_iconst (v := 0) hx hb dL_delta_142 (by decide) ?_
                      refine lv_bipush (v := 9) hx hb dL_delta_143 (by decide) ?_
                      refine lv_bipush (v := 98) hx hb dL_delta_145 (by decide) ?_
                      obtain ⟨k61, e62, q63, h⟩ := h
                      refine f_i (kV (As := [.int 0, .int 9, .int 98]) (rest := []) e62 ⟨hx, hb, hml, hown, hts⟩ (c_X5_put l D cs ad k61 0 9 98 s58 _ q63) (cwV 3 hts gL_delta_X5_put rfl rfl rfl (by decide +kernel) ⟨Nat.le_of_ble_eq_true rfl, Nat.le_of_ble_eq_true rfl⟩) hE hP rfl rfl (w_4 hE q63) h rfl hl.1 rfl (by first | exact lv_room (Nat.le_of_ble_eq_true rfl) | (refine lv_room ?_; simp [re_cat, cat_i, cat_l, cat_r])) dL_delta_147 ⟨Nat.le_refl _, Nat.le_refl _⟩) hS (fun r65 s64 H locs h hP hS => ?_)
                      refine lv_sipush (v := 1032) hx hb dL_delta_150 (by decide) ?_
                      refine lv_icmp_ne (tgt := 499) hx hb dL_delta_153 (by decide) (fun c66 => ?_) (fun c66 => ?_)
                      · replace h := h.2 c66
                        refine lv_iconst (v := 0) hx hb dL_delta_499 (by decide) ?_
                        exact W.zret hx hb hr rfl (fun t ht hW => ⟨⟨_, _, rfl, h, pw ht hP⟩, hS.F ht⟩) hS.2.2 dL_delta_500
                      · replace h := h.1 c66
                        refine r_aload_n hx hb dL_delta_156 rfl (lv_at hl 0 rfl) ?_
                        refine lv_iconst (v := 0) hx hb dL_delta_157 (by decide) ?_
                        refine lv_bipush (v := 10) hx hb dL_delta_158 (by decide) ?_
                        refine lv_bipush (v := 48) hx hb dL_delta_160 (by decide) ?_
                        obtain ⟨k67, e68, q69, h⟩ := h
                        refine f_i (kV (As := [.int 0, .int 10, .int 48]) (rest := []) e68 ⟨hx, hb, hml, hown, hts⟩ (c_X5_put l D cs ad k67 0 10 48 s64 _ q69) (cwV 3 hts gL_delta_X5_put rfl rfl rfl (by decide +kernel) ⟨Nat.le_of_ble_eq_true rfl, Nat.le_of_ble_eq_true rfl⟩) hE hP rfl rfl (w_4 hE q69) h rfl hl.1 rfl (by first | exact lv_room (Nat.le_of_ble_eq_true rfl) | (refine lv_room ?_; simp [re_cat, cat_i, cat_l, cat_r])) dL_delta_162 ⟨Nat.le_refl _, Nat.le_refl _⟩) hS (fun r71 s70 H locs h hP hS => ?_)
                        refine lv_sipush (v := 1032) hx hb dL_delta_165 (by decide) ?_
                        refine lv_icmp_ne (tgt := 499) hx hb dL_delta_168 (by decide) (fun c72 => ?_) (fun c72 => ?_)
                        · replace h := h.2 c72
                          refine lv_iconst (v := 0) hx hb dL_delta_499 (by decide) ?_
                          exact W.zret hx hb hr rfl (fun t ht hW => ⟨⟨_, _, rfl, h, pw ht hP⟩, hS.F ht⟩) hS.2.2 dL_delta_500
                        · replace h := h.1 c72
                          refine r_aload_n hx hb dL_delta_171 rfl (lv_at hl 0 rfl) ?_
                          refine lv_iconst (v := 0) hx hb dL_delta_172 (by decide) ?_
                          refine lv_bipush (v := 11) hx hb dL_delta_173 (by decide) ?_
                          refine lv_bipush (v := 53) hx hb dL_delta_175 (by decide) ?_
                          obtain ⟨k73, e74, q75, h⟩ := h
                          refine f_i (kV (As := [.int 0, .int 11, .int 53]) (rest := []) e74 ⟨hx, hb, hml, hown, hts⟩ (c_X5_put l D cs ad k73 0 11 53 s70 _ q75) (cwV 3 hts gL_delta_X5_put rfl rfl rfl (by decide +kernel) ⟨Nat.le_of_ble_eq_true rfl, Nat.le_of_ble_eq_true rfl⟩) hE hP rfl rfl (w_4 hE q75) h rfl hl.1 rfl (by first | exact lv_room (Nat.le_of_ble_eq_true rfl) | (refine lv_room ?_; simp [re_cat, cat_i, cat_l, cat_r])) dL_delta_177 ⟨Nat.le_refl _, Nat.le_refl _⟩) hS (fun r77 s76 H locs h hP hS => ?_)
                          refine lv_sipush (v := 1032) hx hb dL_delta_180 (by decide) ?_
                          refine lv_icmp_ne (tgt := 499) hx hb dL_delta_183 (by decide) (fun c78 => ?_) (fun c78 => ?_)
                          · replace h := h.2 c78
                            refine lv_iconst (v := 0) hx hb dL_delta_499 (by decide) ?_
                            exact W.zret hx hb hr rfl (fun t ht hW => ⟨⟨_, _, rfl, h, pw ht hP⟩, hS.F ht⟩) hS.2.2 dL_delta_500
                          · replace h := h.1 c78
                            refine r_aload_n hx hb dL_delta_186 rfl (lv_at hl 0 rfl) ?_
                            refine lv_iconst (v := 0) hx hb dL_delta_187 (by decide) ?_
                            refine lv_bipush (v := 12) hx hb dL_delta_188 (by decide) ?_
                            refine lv_bipush (v := 49) hx hb dL_delta_190 (by decide) ?_
                            obtain ⟨k79, e80, q81, h⟩ := h
                            refine f_i (kV (As := [.int 0, .int 12, .int 49]) (rest := []) e80 ⟨hx, hb, hml, hown, hts⟩ (c_X5_put l D cs ad k79 0 12 49 s76 _ q81) (cwV 3 hts gL_delta_X5_put rfl rfl rfl (by decide +kernel) ⟨Nat.le_of_ble_eq_true rfl, Nat.le_of_ble_eq_true rfl⟩) hE hP rfl rfl (w_4 hE q81) h rfl hl.1 rfl (by first | exact lv_room (Nat.le_of_ble_eq_true rfl) | (refine lv_room ?_; simp [re_cat, cat_i, cat_l, cat_r])) dL_delta_192 ⟨Nat.le_refl _, Nat.le_refl _⟩) hS (fun r83 s82 H locs h hP hS => ?_)
                            refine lv_sipush (v := 1032) hx hb dL_delta_195 (by decide) ?_
                            refine lv_icmp_ne (tgt := 499) hx hb dL_delta_198 (by decide) (fun c84 => ?_) (fun c84 => ?_)
                            · replace h := h.2 c84
                              refine lv_iconst (v := 0) hx hb dL_delta_499 (by decide) ?_
                              exact W.zret hx hb hr rfl (fun t ht hW => ⟨⟨_, _, rfl, h, pw ht hP⟩, hS.F ht⟩) hS.2.2 dL_delta_500
                            · replace h := h.1 c84
                              refine r_aload_n hx hb dL_delta_201 rfl (lv_at hl 0 rfl) ?_
                              refine lv_iconst (v := 0) hx hb dL_delta_202 (by decide) ?_
                              refine lv_bipush (v := 13) hx hb dL_delta_203 (by decide) ?_
                              refine lv_bipush (v := 32) hx hb dL_delta_205 (by decide) ?_
                              obtain ⟨k85, e86, q87, h⟩ := h
                              refine f_i (kV (As := [.int 0, .int 13, .int 32]) (rest := []) e86 ⟨hx, hb, hml, hown, hts⟩ (c_X5_put l D cs ad k85 0 13 32 s82 _ q87) (cwV 3 hts gL_delta_X5_put rfl rfl rfl (by decide +kernel) ⟨Nat.le_of_ble_eq_true rfl, Nat.le_of_ble_eq_true rfl⟩) hE hP rfl rfl (w_4 hE q87) h rfl hl.1 rfl (by first | exact lv_room (Nat.le_of_ble_eq_true rfl) | (refine lv_room ?_; simp [re_cat, cat_i, cat_l, cat_r])) dL_delta_207 ⟨Nat.le_refl _, Nat.le_refl _⟩) hS (fun r89 s88 H locs h hP hS => ?_)
                              refine lv_sipush (v := 1032) hx hb dL_delta_210 (by decide) ?_
                              refine lv_icmp_ne (tgt := 499) hx hb dL_delta_213 (by decide) (fun c90 => ?_) (fun c90 => ?_)
                              · replace h := h.2 c90
                                refine lv_iconst (v := 0) hx hb dL_delta_499 (by decide) ?_
                                exact W.zret hx hb hr rfl (fun t ht hW => ⟨⟨_, _, rfl, h, pw ht hP⟩, hS.F ht⟩) hS.2.2 dL_delta_500
                              · replace h := h.1 c90
                                refine r_aload_n hx hb dL_delta_216 rfl (lv_at hl 0 rfl) ?_
                                refine lv_iconst (v := 0) hx hb dL_delta_217 (by decide) ?_
                                refine lv_bipush (v := 14) hx hb dL_delta_218 (by decide) ?_
                                refine lv_bipush (v := 108) hx hb dL_delta_220 (by decide) ?_
                                obtain ⟨k91, e92, q93, h⟩ := h
                                refine f_i (kV (As := [.int 0, .int 14, .int 108]) (rest := []) e92 ⟨hx, hb, hml, hown, hts⟩ (c_X5_put l D cs ad k91 0 14 108 s88 _ q93) (cwV 3 hts gL_delta_X5_put rfl rfl rfl (by decide +kernel) ⟨Nat.le_of_ble_eq_true rfl, Nat.le_of_ble_eq_true rfl⟩) hE hP rfl rfl (w_4 hE q93) h rfl hl.1 rfl (by first | exact lv_room (Nat.le_of_ble_eq_true rfl) | (refine lv_room ?_; simp [re_cat, cat_i, cat_l, cat_r])) dL_delta_222 ⟨Nat.le_refl _, Nat.le_refl _⟩) hS (fun r95 s94 H locs h hP hS => ?_)
                                refine lv_sipush (v := 1032) hx hb dL_delta_225 (by decide) ?_
                                refine lv_icmp_ne (tgt := 499) hx hb dL_delta_228 (by decide) (fun c96 => ?_) (fun c96 => ?_)
                                · replace h := h.2 c96
                                  refine lv_iconst (v := 0) hx hb dL_delta_499 (by decide) ?_
                                  exact W.zret hx hb hr rfl (fun t ht hW => ⟨⟨_, _, rfl, h, pw ht hP⟩, hS.F ht⟩) hS.2.2 dL_delta_500
                                · replace h := h.1 c96
                                  refine r_aload_n hx hb dL_delta_231 rfl (lv_at hl 0 rfl) ?_
                                  refine lv_iconst (v := 0) hx hb dL_delta_232 (by decide) ?_
                                  refine lv_bipush (v := 15) hx hb dL_delta_233 (by decide) ?_
                                  refine lv_bipush (v := 49) hx hb dL_delta_235 (by decide) ?_
                                  obtain ⟨k97, e98, q99, h⟩ := h
                                  refine f_i (kV (As := [.int 0, .int 15, .int 49]) (rest := []) e98 ⟨hx, hb, hml, hown, hts⟩ (c_X5_put l D cs ad k97 0 15 49 s94 _ q99) (cwV 3 hts gL_delta_X5_put rfl rfl rfl (by decide +kernel) ⟨Nat.le_of_ble_eq_true rfl, Nat.le_of_ble_eq_true rfl⟩) hE hP rfl rfl (w_4 hE q99) h rfl hl.1 rfl (by first | exact lv_room (Nat.le_of_ble_eq_true rfl) | (refine lv_room ?_; simp [re_cat, cat_i, cat_l, cat_r])) dL_delta_237 ⟨Nat.le_refl _, Nat.le_refl _⟩) hS (fun r101 s100 H locs h hP hS => ?_)
                                  refine lv_sipush (v := 1032) hx hb dL_delta_240 (by decide) ?_
                                  refine lv_icmp_ne (tgt := 499) hx hb dL_delta_243 (by decide) (fun c102 => ?_) (fun c102 => ?_)
                                  · replace h := h.2 c102
                                    refine lv_iconst (v := 0) hx hb dL_delta_499 (by decide) ?_
                                    exact W.zret hx hb hr rfl (fun t ht hW => ⟨⟨_, _, rfl, h, pw ht hP⟩, hS.F ht⟩) hS.2.2 dL_delta_500
                                  · replace h := h.1 c102
                                    refine r_aload_n hx hb dL_delta_246 rfl (lv_at hl 0 rfl) ?_
                                    refine lv_iconst (v := 0) hx hb dL_delta_247 (by decide) ?_
                                    refine lv_bipush (v := 16) hx hb dL_delta_248 (by decide) ?_
                                    refine lv_bipush (v := 57) hx hb dL_delta_250 (by decide) ?_
                                    obtain ⟨k103, e104, q105, h⟩ := h
                                    refine f_i (kV (As := [.int 0, .int 16, .int 57]) (rest := []) e104 ⟨hx, hb, hml, hown, hts⟩ (c_X5_put l D cs ad k103 0 16 57 s100 _ q105) (cwV 3 hts gL_delta_X5_put rfl rfl rfl (by decide +kernel) ⟨Nat.le_of_ble_eq_true rfl, Nat.le_of_ble_eq_true rfl⟩) hE hP rfl rfl (w_4 hE q105) h rfl hl.1 rfl (by first | exact lv_room (Nat.le_of_ble_eq_true rfl) | (refine lv_room ?_; simp [re_cat, cat_i, cat_l, cat_r])) dL_delta_252 ⟨Nat.le_refl _, Nat.le_refl _⟩) hS (fun r107 s106 H locs h hP hS => ?_)
                                    refine lv_sipush (v := 1032) hx hb dL_delta_255 (by decide) ?_
                                    refine lv_icmp_ne (tgt := 499) hx hb dL_delta_258 (by decide) (fun c108 => ?_) (fun c108 => ?_)
                                    · replace h := h.2 c108
                                      refine lv_iconst (v := 0) hx hb dL_delta_499 (by decide) ?_
                                      exact W.zret hx hb hr rfl (fun t ht hW => ⟨⟨_, _, rfl, h, pw ht hP⟩, hS.F ht⟩) hS.2.2 dL_delta_500
                                    · replace h := h.1 c108
                                      refine r_aload_n hx hb dL_delta_261 rfl (lv_at hl 0 rfl) ?_
                                      refine lv_iconst (v := 0) hx hb dL_delta_262 (by decide) ?_
                                      refine lv_bipush (v := 17) hx hb dL_delta_263 (by decide) ?_
                                      refine lv_bipush (v := 50) hx hb dL_delta_265 (by decide) ?_
                                      obtain ⟨k109, e110, q111, h⟩ := h
                                      refine f_i (kV (As := [.int 0, .int 17, .int 50]) (rest := []) e110 ⟨hx, hb, hml, hown, hts⟩ (c_X5_put l D cs ad k109 0 17 50 s106 _ q111) (cwV 3 hts gL_delta_X5_put rfl rfl rfl (by decide +kernel) ⟨Nat.le_of_ble_eq_true rfl, Nat.le_of_ble_eq_true rfl⟩) hE hP rfl rfl (w_4 hE q111) h rfl hl.1 rfl (by first | exact lv_room (Nat.le_of_ble_eq_true rfl) | (refine lv_room ?_; simp [re_cat, cat_i, cat_l, cat_r])) dL_delta_267 ⟨Nat.le_refl _, Nat.le_refl _⟩) hS (fun r113 s112 H locs h hP hS => ?_)
                                      refine lv_sipush (v := 1032) hx hb dL_delta_270 (by decide) ?_
                                      refine lv_icmp_ne (tgt := 499) hx hb dL_delta_273 (by decide) (fun c114 => ?_) (fun c114 => ?_)
                                      · replace h := h.2 c114
                                        refine lv_iconst (v := 0) hx hb dL_delta_499 (by decide) ?_
                                        exact W.zret hx hb hr rfl (fun t ht hW => ⟨⟨_, _, rfl, h, pw ht hP⟩, hS.F ht⟩) hS.2.2 dL_delta_500
                                      · replace h := h.1 c114
                                        refine r_aload_n hx hb dL_delta_276 rfl (lv_at hl 0 rfl) ?_
                                        refine lv_iconst (v := 0) hx hb dL_delta_277 (by decide) ?_
                                        refine lv_bipush (v := 18) hx hb dL_delta_278 (by decide) ?_
                                        refine lv_bipush (v := 32) hx hb dL_delta_280 (by decide) ?_
                                        obtain ⟨k115, e116, q117, h⟩ := h
                                        refine f_i (kV (As := [.int 0, .int 18, .int 32]) (rest := []) e116 ⟨hx, hb, hml, hown, hts⟩ (c_X5_put l D cs ad k115 0 18 32 s112 _ q117) (cwV 3 hts gL_delta_X5_put rfl rfl rfl (by decide +kernel) ⟨Nat.le_of_ble_eq_true rfl, Nat.le_of_ble_eq_true rfl⟩) hE hP rfl rfl (w_4 hE q117) h rfl hl.1 rfl (by first | exact lv_room (Nat.le_of_ble_eq_true rfl) | (refine lv_room ?_; simp [re_cat, cat_i, cat_l, cat_r])) dL_delta_282 ⟨Nat.le_refl _, Nat.le_refl _⟩) hS (fun r119 s118 H locs h hP hS => ?_)
                                        refine lv_sipush (v := 1032) hx hb dL_delta_285 (by decide) ?_
                                        refine lv_icmp_ne (tgt := 499) hx hb dL_delta_288 (by decide) (fun c120 => ?_) (fun c120 => ?_)
                                        · replace h := h.2 c120
                                          refine lv_iconst (v := 0) hx hb dL_delta_499 (by decide) ?_
                                          exact W.zret hx hb hr rfl (fun t ht hW => ⟨⟨_, _, rfl, h, pw ht hP⟩, hS.F ht⟩) hS.2.2 dL_delta_500
                                        · replace h := h.1 c120
                                          refine r_aload_n hx hb dL_delta_291 rfl (lv_at hl 0 rfl) ?_
                                          refine lv_iconst (v := 0) hx hb dL_delta_292 (by decide) ?_
                                          refine lv_bipush (v := 19) hx hb dL_delta_293 (by decide) ?_
                                          refine lv_bipush (v := 103) hx hb dL_delta_295 (by decide) ?_
                                          obtain ⟨k121, e122, q123, h⟩ := h
                                          refine f_i (kV (As := [.int 0, .int 19, .int 103]) (rest := []) e122 ⟨hx, hb, hml, hown, hts⟩ (c_X5_put l D cs ad k121 0 19 103 s118 _ q123) (cwV 3 hts gL_delta_X5_put rfl rfl rfl (by decide +kernel) ⟨Nat.le_of_ble_eq_true rfl, Nat.le_of_ble_eq_true rfl⟩) hE hP rfl rfl (w_4 hE q123) h rfl hl.1 rfl (by first | exact lv_room (Nat.le_of_ble_eq_true rfl) | (refine lv_room ?_; simp [re_cat, cat_i, cat_l, cat_r])) dL_delta_297 ⟨Nat.le_refl _, Nat.le_refl _⟩) hS (fun r125 s124 H locs h hP hS => ?_)
                                          refine lv_sipush (v := 1032) hx hb dL_delta_300 (by decide) ?_
                                          refine lv_icmp_ne (tgt := 499) hx hb dL_delta_303 (by decide) (fun c126 => ?_) (fun c126 => ?_)
                                          · replace h := h.2 c126
                                            refine lv_iconst (v := 0) hx hb dL_delta_499 (by decide) ?_
                                            exact W.zret hx hb hr rfl (fun t ht hW => ⟨⟨_, _, rfl, h, pw ht hP⟩, hS.F ht⟩) hS.2.2 dL_delta_500
                                          · replace h := h.1 c126
                                            refine r_aload_n hx hb dL_delta_306 rfl (lv_at hl 0 rfl) ?_
                                            refine lv_iconst (v := 0) hx hb dL_delta_307 (by decide) ?_
                                            refine lv_bipush (v := 20) hx hb dL_delta_308 (by decide) ?_
                                            refine lv_bipush (v := 51) hx hb dL_delta_310 (by decide) ?_
                                            obtain ⟨k127, e128, q129, h⟩ := h
                                            refine f_i (kV (As := [.int 0, .int 20, .int 51]) (rest := []) e128 ⟨hx, hb, hml, hown, hts⟩ (c_X5_put l D cs ad k127 0 20 51 s124 _ q129) (cwV 3 hts gL_delta_X5_put rfl rfl rfl (by decide +kernel) ⟨Nat.le_of_ble_eq_true rfl, Nat.le_of_ble_eq_true rfl⟩) hE hP rfl rfl (w_4 hE q129) h rfl hl.1 rfl (by first | exact lv_room (Nat.le_of_ble_eq_true rfl) | (refine lv_room ?_; simp [re_cat, cat_i, cat_l, cat_r])) dL_delta_312 ⟨Nat.le_refl _, Nat.le_refl _⟩) hS (fun r131 s130 H locs h hP hS => ?_)
                                            refine lv_sipush (v := 1032) hx hb dL_delta_315 (by decide) ?_
                                            refine lv_icmp_ne (tgt := 499) hx hb dL_delta_318 (by decide) (fun c132 => ?_) (fun c132 => ?_)
                                            · replace h := h.2 c132
                                              refine lv_iconst (v := 0) hx hb dL_delta_499 (by decide) ?_
                                              exact W.zret hx hb hr rfl (fun t ht hW => ⟨⟨_, _, rfl, h, pw ht hP⟩, hS.F ht⟩) hS.2.2 dL_delta_500
                                            · replace h := h.1 c132
                                              refine r_aload_n hx hb dL_delta_321 rfl (lv_at hl 0 rfl) ?_
                                              refine lv_iconst (v := 0) hx hb dL_delta_322 (by decide) ?_
                                              refine lv_bipush (v := 21) hx hb dL_delta_323 (by decide) ?_
                                              refine lv_bipush (v := 51) hx hb dL_delta_325 (by decide) ?_
                                              obtain ⟨k133, e134, q135, h⟩ := h
                                              refine f_i (kV (As := [.int 0, .int 21, .int 51]) (rest := []) e134 ⟨hx, hb, hml, hown, hts⟩ (c_X5_put l D cs ad k133 0 21 51 s130 _ q135) (cwV 3 hts gL_delta_X5_put rfl rfl rfl (by decide +kernel) ⟨Nat.le_of_ble_eq_true rfl, Nat.le_of_ble_eq_true rfl⟩) hE hP rfl rfl (w_4 hE q135) h rfl hl.1 rfl (by first | exact lv_room (Nat.le_of_ble_eq_true rfl) | (refine lv_room ?_; simp [re_cat, cat_i, cat_l, cat_r])) dL_delta_327 ⟨Nat.le_refl _, Nat.le_refl _⟩) hS (fun r137 s136 H locs h hP hS => ?_)
                                              refine lv_sipush (v := 1032) hx hb dL_delta_330 (by decide) ?_
                                              refine lv_icmp_ne (tgt := 499) hx hb dL_delta_333 (by decide) (fun c138 => ?_) (fun c138 => ?_)
                                              · replace h := h.2 c138
                                                refine lv_iconst (v := 0) hx hb dL_delta_499 (by decide) ?_
                                                exact W.zret hx hb hr rfl (fun t ht hW => ⟨⟨_, _, rfl, h, pw ht hP⟩, hS.F ht⟩) hS.2.2 dL_delta_500
                                              · replace h := h.1 c138
                                                refine r_aload_n hx hb dL_delta_336 rfl (lv_at hl 0 rfl) ?_
                                                refine lv_iconst (v := 0) hx hb dL_delta_337 (by decide) ?_
                                                refine lv_bipush (v := 22) hx hb dL_delta_338 (by decide) ?_
                                                refine lv_bipush (v := 48) hx hb dL_delta_340 (by decide) ?_
                                                obtain ⟨k139, e140, q141, h⟩ := h
                                                refine f_i (kV (As := [.int 0, .int 22, .int 48]) (rest := []) e140 ⟨hx, hb, hml, hown, hts⟩ (c_X5_put l D cs ad k139 0 22 48 s136 _ q141) (cwV 3 hts gL_delta_X5_put rfl rfl rfl (by decide +kernel) ⟨Nat.le_of_ble_eq_true rfl, Nat.le_of_ble_eq_true rfl⟩) hE hP rfl rfl (w_4 hE q141) h rfl hl.1 rfl (by first | exact lv_room (Nat.le_of_ble_eq_true rfl) | (refine lv_room ?_; simp [re_cat, cat_i, cat_l, cat_r])) dL_delta_342 ⟨Nat.le_refl _, Nat.le_refl _⟩) hS (fun r143 s142 H locs h hP hS => ?_)
                                                refine lv_sipush (v := 1032) hx hb dL_delta_345 (by decide) ?_
                                                refine lv_icmp_ne (tgt := 499) hx hb dL_delta_348 (by decide) (fun c144 => ?_) (fun c144 => ?_)
                                                · replace h := h.2 c144
                                                  refine lv_iconst (v := 0) hx hb dL_delta_499 (by decide) ?_
                                                  exact W.zret hx hb hr rfl (fun t ht hW => ⟨⟨_, _, rfl, h, pw ht hP⟩, hS.F ht⟩) hS.2.2 dL_delta_500
                                                · replace h := h.1 c144
                                                  refine r_aload_n hx hb dL_delta_351 rfl (lv_at hl 0 rfl) ?_
                                                  refine lv_iconst (v := 0) hx hb dL_delta_352 (by decide) ?_
                                                  refine lv_bipush (v := 23) hx hb dL_delta_353 (by decide) ?_
                                                  refine lv_bipush (v := 118) hx hb dL_delta_355 (by decide) ?_
                                                  obtain ⟨k145, e146, q147, h⟩ := h
                                                  refine f_i (kV (As := [.int 0, .int 23, .int 118]) (rest := []) e146 ⟨hx, hb, hml, hown, hts⟩ (c_X5_put l D cs ad k145 0 23 118 s142 _ q147) (cwV 3 hts gL_delta_X5_put rfl rfl rfl (by decide +kernel) ⟨Nat.le_of_ble_eq_true rfl, Nat.le_of_ble_eq_true rfl⟩) hE hP rfl rfl (w_4 hE q147) h rfl hl.1 rfl (by first | exact lv_room (Nat.le_of_ble_eq_true rfl) | (refine lv_room ?_; simp [re_cat, cat_i, cat_l, cat_r])) dL_delta_357 ⟨Nat.le_refl _, Nat.le_refl _⟩) hS (fun r149 s148 H locs h hP hS => ?_)
                                                  refine lv_sipush (v := 1032) hx hb dL_delta_360 (by decide) ?_
                                                  refine lv_icmp_ne (tgt := 499) hx hb dL_delta_363 (by decide) (fun c150 => ?_) (fun c150 => ?_)
                                                  · replace h := h.2 c150
                                                    refine lv_iconst (v := 0) hx hb dL_delta_499 (by decide) ?_
                                                    exact W.zret hx hb hr rfl (fun t ht hW => ⟨⟨_, _, rfl, h, pw ht hP⟩, hS.F ht⟩) hS.2.2 dL_delta_500
                                                  · replace h := h.1 c150
                                                    refine r_aload_n hx hb dL_delta_366 rfl (lv_at hl 0 rfl) ?_
                                                    refine lv_iconst (v := 0) hx hb dL_delta_367 (by decide) ?_
                                                    refine lv_bipush (v := 24) hx hb dL_delta_368 (by decide) ?_
                                                    refine lv_bipush (v := 51) hx hb dL_delta_370 (by decide) ?_
                                                    obtain ⟨k151, e152, q153, h⟩ := h
                                                    refine f_i (kV (As := [.int 0, .int 24, .int 51]) (rest := []) e152 ⟨hx, hb, hml, hown, hts⟩ (c_X5_put l D cs ad k151 0 24 51 s148 _ q153) (cwV 3 hts gL_delta_X5_put rfl rfl rfl (by decide +kernel) ⟨Nat.le_of_ble_eq_true rfl, Nat.le_of_ble_eq_true rfl⟩) hE hP rfl rfl (w_4 hE q153) h rfl hl.1 rfl (by first | exact lv_room (Nat.le_of_ble_eq_true rfl) | (refine lv_room ?_; simp [re_cat, cat_i, cat_l, cat_r])) dL_delta_372 ⟨Nat.le_refl _, Nat.le_refl _⟩) hS (fun r155 s154 H locs h hP hS => ?_)
                                                    refine lv_sipush (v := 1032) hx hb dL_delta_375 (by decide) ?_
                                                    refine lv_icmp_ne (tgt := 499) hx hb dL_delta_378 (by decide) (fun c156 => ?_) (fun c156 => ?_)
                                                    · replace h := h.2 c156
                                                      refine lv_iconst (v := 0) hx hb dL_delta_499 (by decide) ?_
                                                      exact W.zret hx hb hr rfl (fun t ht hW => ⟨⟨_, _, rfl, h, pw ht hP⟩, hS.F ht⟩) hS.2.2 dL_delta_500
                                                    · replace h := h.1 c156
                                                      refine r_aload_n hx hb dL_delta_381 rfl (lv_at hl 0 rfl) ?_
                                                      refine lv_iconst (v := 0) hx hb dL_delta_382 (by decide) ?_
                                                      refine lv_bipush (v := 25) hx hb dL_delta_383 (by decide) ?_
                                                      refine lv_bipush (v := 56) hx hb dL_delta_385 (by decide) ?_
                                                      obtain ⟨k157, e158, q159, h⟩ := h
                                                      refine f_i (kV (As := [.int 0, .int 25, .int 56]) (rest := []) e158 ⟨hx, hb, hml, hown, hts⟩ (c_X5_put l D cs ad k157 0 25 56 s154 _ q159) (cwV 3 hts gL_delta_X5_put rfl rfl rfl (by decide +kernel) ⟨Nat.le_of_ble_eq_true rfl, Nat.le_of_ble_eq_true rfl⟩) hE hP rfl rfl (w_4 hE q159) h rfl hl.1 rfl (by first | exact lv_room (Nat.le_of_ble_eq_true rfl) | (refine lv_room ?_; simp [re_cat, cat_i, cat_l, cat_r])) dL_delta_387 ⟨Nat.le_refl _, Nat.le_refl _⟩) hS (fun r161 s160 H locs h hP hS => ?_)
                                                      refine lv_sipush (v := 1032) hx hb dL_delta_390 (by decide) ?_
                                                      refine lv_icmp_ne (tgt := 499) hx hb dL_delta_393 (by decide) (fun c162 => ?_) (fun c162 => ?_)
                                                      · replace h := h.2 c162
                                                        refine lv_iconst (v := 0) hx hb dL_delta_499 (by decide) ?_
                                                        exact W.zret hx hb hr rfl (fun t ht hW => ⟨⟨_, _, rfl, h, pw ht hP⟩, hS.F ht⟩) hS.2.2 dL_delta_500
                                                      · replace h := h.1 c162
                                                        refine r_aload_n hx hb dL_delta_396 rfl (lv_at hl 0 rfl) ?_
                                                        refine lv_iconst (v := 0) hx hb dL_delta_397 (by decide) ?_
                                                        refine lv_bipush (v := 26) hx hb dL_delta_398 (by decide) ?_
                                                        refine lv_bipush (v := 48) hx hb dL_delta_400 (by decide) ?_
                                                        obtain ⟨k163, e164, q165, h⟩ := h
                                                        refine f_i (kV (As := [.int 0, .int 26, .int 48]) (rest := []) e164 ⟨hx, hb, hml, hown, hts⟩ (c_X5_put l D cs ad k163 0 26 48 s160 _ q165) (cwV 3 hts gL_delta_X5_put rfl rfl rfl (by decide +kernel) ⟨Nat.le_of_ble_eq_true rfl, Nat.le_of_ble_eq_true rfl⟩) hE hP rfl rfl (w_4 hE q165) h rfl hl.1 rfl (by first | exact lv_room (Nat.le_of_ble_eq_true rfl) | (refine lv_room ?_; simp [re_cat, cat_i, cat_l, cat_r])) dL_delta_402 ⟨Nat.le_refl _, Nat.le_refl _⟩) hS (fun r167 s166 H locs h hP hS => ?_)
                                                        refine lv_sipush (v := 1032) hx hb dL_delta_405 (by decide) ?_
                                                        refine lv_icmp_ne (tgt := 499) hx hb dL_delta_408 (by decide) (fun c168 => ?_) (fun c168 => ?_)
                                                        · replace h := h.2 c168
                                                          refine lv_iconst (v := 0) hx hb dL_delta_499 (by decide) ?_
                                                          exact W.zret hx hb hr rfl (fun t ht hW => ⟨⟨_, _, rfl, h, pw ht hP⟩, hS.F ht⟩) hS.2.2 dL_delta_500
                                                        · replace h := h.1 c168
                                                          refine r_aload_n hx hb dL_delta_411 rfl (lv_at hl 0 rfl) ?_
                                                          refine lv_iconst (v := 0) hx hb dL_delta_412 (by decide) ?_
                                                          refine lv_bipush (v := 27) hx hb dL_delta_413 (by decide) ?_
                                                          refine lv_bipush (v := 32) hx hb dL_delta_415 (by decide) ?_
                                                          obtain ⟨k169, e170, q171, h⟩ := h
                                                          refine f_i (kV (As := [.int 0, .int 27, .int 32]) (rest := []) e170 ⟨hx, hb, hml, hown, hts⟩ (c_X5_put l D cs ad k169 0 27 32 s166 _ q171) (cwV 3 hts gL_delta_X5_put rfl rfl rfl (by decide +kernel) ⟨Nat.le_of_ble_eq_true rfl, Nat.le_of_ble_eq_true rfl⟩) hE hP rfl rfl (w_4 hE q171) h rfl hl.1 rfl (by first | exact lv_room (Nat.le_of_ble_eq_true rfl) | (refine lv_room ?_; simp [re_cat, cat_i, cat_l, cat_r])) dL_delta_417 ⟨Nat.le_refl _, Nat.le_refl _⟩) hS (fun r173 s172 H locs h hP hS => ?_)
                                                          refine lv_sipush (v := 1032) hx hb dL_delta_420 (by decide) ?_
                                                          refine lv_icmp_ne (tgt := 499) hx hb dL_delta_423 (by decide) (fun c174 => ?_) (fun c174 => ?_)
                                                          · replace h := h.2 c174
                                                            refine lv_iconst (v := 0) hx hb dL_delta_499 (by decide) ?_
                                                            exact W.zret hx hb hr rfl (fun t ht hW => ⟨⟨_, _, rfl, h, pw ht hP⟩, hS.F ht⟩) hS.2.2 dL_delta_500
                                                          · replace h := h.1 c174
                                                            refine r_aload_n hx hb dL_delta_426 rfl (lv_at hl 0 rfl) ?_
                                                            refine lv_iconst (v := 0) hx hb dL_delta_427 (by decide) ?_
                                                            refine lv_bipush (v := 28) hx hb dL_delta_428 (by decide) ?_
                                                            refine lv_bipush (v := 97) hx hb dL_delta_430 (by decide) ?_
                                                            obtain ⟨k175, e176, q177, h⟩ := h
                                                            refine f_i (kV (As := [.int 0, .int 28, .int 97]) (rest := []) e176 ⟨hx, hb, hml, hown, hts⟩ (c_X5_put l D cs ad k175 0 28 97 s172 _ q177) (cwV 3 hts gL_delta_X5_put rfl rfl rfl (by decide +kernel) ⟨Nat.le_of_ble_eq_true rfl, Nat.le_of_ble_eq_true rfl⟩) hE hP rfl rfl (w_4 hE q177) h rfl hl.1 rfl (by first | exact lv_room (Nat.le_of_ble_eq_true rfl) | (refine lv_room ?_; simp [re_cat, cat_i, cat_l, cat_r])) dL_delta_432 ⟨Nat.le_refl _, Nat.le_refl _⟩) hS (fun r179 s178 H locs h hP hS => ?_)
                                                            refine lv_sipush (v := 1032) hx hb dL_delta_435 (by decide) ?_
                                                            refine lv_icmp_ne (tgt := 499) hx hb dL_delta_438 (by decide) (fun c180 => ?_) (fun c180 => ?_)
                                                            · replace h := h.2 c180
                                                              refine lv_iconst (v := 0) hx hb dL_delta_499 (by decide) ?_
                                                              exact W.zret hx hb hr rfl (fun t ht hW => ⟨⟨_, _, rfl, h, pw ht hP⟩, hS.F ht⟩) hS.2.2 dL_delta_500
                                                            · replace h := h.1 c180
                                                              refine r_aload_n hx hb dL_delta_441 rfl (lv_at hl 0 rfl) ?_
                                                              refine lv_iconst (v := 0) hx hb dL_delta_442 (by decide) ?_
                                                              refine lv_bipush (v := 29) hx hb dL_delta_443 (by decide) ?_
                                                              refine lv_bipush (v := 49) hx hb dL_delta_445 (by decide) ?_
                                                              obtain ⟨k181, e182, q183, h⟩ := h
                                                              refine f_i (kV (As := [.int 0, .int 29, .int 49]) (rest := []) e182 ⟨hx, hb, hml, hown, hts⟩ (c_X5_put l D cs ad k181 0 29 49 s178 _ q183) (cwV 3 hts gL_delta_X5_put rfl rfl rfl (by decide +kernel) ⟨Nat.le_of_ble_eq_true rfl, Nat.le_of_ble_eq_true rfl⟩) hE hP rfl rfl (w_4 hE q183) h rfl hl.1 rfl (by first | exact lv_room (Nat.le_of_ble_eq_true rfl) | (refine lv_room ?_; simp [re_cat, cat_i, cat_l, cat_r])) dL_delta_447 ⟨Nat.le_refl _, Nat.le_refl _⟩) hS (fun r185 s184 H locs h hP hS => ?_)
                                                              refine lv_sipush (v := 1032) hx hb dL_delta_450 (by decide) ?_
                                                              refine lv_icmp_ne (tgt := 499) hx hb dL_delta_453 (by decide) (fun c186 => ?_) (fun c186 => ?_)
                                                              · replace h := h.2 c186
                                                                refine lv_iconst (v := 0) hx hb dL_delta_499 (by decide) ?_
                                                                exact W.zret hx hb hr rfl (fun t ht hW => ⟨⟨_, _, rfl, h, pw ht hP⟩, hS.F ht⟩) hS.2.2 dL_delta_500
                                                              · replace h := h.1 c186
                                                                refine r_aload_n hx hb dL_delta_456 rfl (lv_at hl 0 rfl) ?_
                                                                refine lv_iconst (v := 0) hx hb dL_delta_457 (by decide) ?_
                                                                refine lv_bipush (v := 30) hx hb dL_delta_458 (by decide) ?_
                                                                refine lv_bipush (v := 53) hx hb dL_delta_460 (by decide) ?_
                                                                obtain ⟨k187, e188, q189, h⟩ := h
                                                                refine f_i (kV (As := [.int 0, .int 30, .int 53]) (rest := []) e188 ⟨hx, hb, hml, hown, hts⟩ (c_X5_put l D cs ad k187 0 30 53 s184 _ q189) (cwV 3 hts gL_delta_X5_put rfl rfl rfl (by decide +kernel) ⟨Nat.le_of_ble_eq_true rfl, Nat.le_of_ble_eq_true rfl⟩) hE hP rfl rfl (w_4 hE q189) h rfl hl.1 rfl (by first | exact lv_room (Nat.le_of_ble_eq_true rfl) | (refine lv_room ?_; simp [re_cat, cat_i, cat_l, cat_r])) dL_delta_462 ⟨Nat.le_refl _, Nat.le_refl _⟩) hS (fun r191 s190 H locs h hP hS => ?_)
                                                                refine lv_sipush (v := 1032) hx hb dL_delta_465 (by decide) ?_
                                                                refine lv_icmp_ne (tgt := 499) hx hb dL_delta_468 (by decide) (fun c192 => ?_) (fun c192 => ?_)
                                                                · replace h := h.2 c192
                                                                  refine lv_iconst (v := 0) hx hb dL_delta_499 (by decide) ?_
                                                                  exact W.zret hx hb hr rfl (fun t ht hW => ⟨⟨_, _, rfl, h, pw ht hP⟩, hS.F ht⟩) hS.2.2 dL_delta_500
                                                                · replace h := h.1 c192
                                                                  refine r_aload_n hx hb dL_delta_471 rfl (lv_at hl 0 rfl) ?_
                                                                  refine lv_iconst (v := 0) hx hb dL_delta_472 (by decide) ?_
                                                                  refine lv_bipush (v := 31) hx hb dL_delta_473 (by decide) ?_
                                                                  refine lv_bipush (v := 51) hx hb dL_delta_475 (by decide) ?_
                                                                  obtain ⟨k193, e194, q195, h⟩ := h
                                                                  refine f_i (kV (As := [.int 0, .int 31, .int 51]) (rest := []) e194 ⟨hx, hb, hml, hown, hts⟩ (c_X5_put l D cs ad k193 0 31 51 s190 _ q195) (cwV 3 hts gL_delta_X5_put rfl rfl rfl (by decide +kernel) ⟨Nat.le_of_ble_eq_true rfl, Nat.le_of_ble_eq_true rfl⟩) hE hP rfl rfl (w_4 hE q195) h rfl hl.1 rfl (by first | exact lv_room (Nat.le_of_ble_eq_true rfl) | (refine lv_room ?_; simp [re_cat, cat_i, cat_l, cat_r])) dL_delta_477 ⟨Nat.le_refl _, Nat.le_refl _⟩) hS (fun r197 s196 H locs h hP hS => ?_)
                                                                  refine lv_sipush (v := 1032) hx hb dL_delta_480 (by decide) ?_
                                                                  refine lv_icmp_ne (tgt := 499) hx hb dL_delta_483 (by decide) (fun c198 => ?_) (fun c198 => ?_)
                                                                  · replace h := h.2 c198
                                                                    refine lv_iconst (v := 0) hx hb dL_delta_499 (by decide) ?_
                                                                    exact W.zret hx hb hr rfl (fun t ht hW => ⟨⟨_, _, rfl, h, pw ht hP⟩, hS.F ht⟩) hS.2.2 dL_delta_500
                                                                  · replace h := h.1 c198
                                                                    refine r_aload_n hx hb dL_delta_486 rfl (lv_at hl 0 rfl) ?_
                                                                    refine lv_iconst (v := 0) hx hb dL_delta_487 (by decide) ?_
                                                                    obtain ⟨k199, e200, q201, h⟩ := h
                                                                    refine f_i (kV (As := [.int 0]) (rest := []) e200 ⟨hx, hb, hml, hown, hts⟩ (c_X5_delta l D cs ad k199 0 s196 _ q201) (cwV 1 hts gL_delta_X5_delta rfl rfl rfl (by decide +kernel) ⟨Nat.le_of_ble_eq_true rfl, Nat.le_of_ble_eq_true rfl⟩) hE hP rfl rfl (w_4 hE q201) h rfl hl.1 rfl (by first | exact lv_room (Nat.le_of_ble_eq_true rfl) | (refine lv_room ?_; simp [re_cat, cat_i, cat_l, cat_r])) dL_delta_488 ⟨Nat.le_refl _, Nat.le_refl _⟩) hS (fun r203 s202 H locs h hP hS => ?_)
                                                                    refine lv_iconst (v := 5) hx hb dL_delta_491 (by decide) ?_
                                                                    refine lv_icmp_ne (tgt := 499) hx hb dL_delta_492 (by decide) (fun c204 => ?_) (fun c204 => ?_)
                                                                    · replace h := h.2 c204
                                                                      refine lv_iconst (v := 0) hx hb dL_delta_499 (by decide) ?_
                                                                      exact W.zret hx hb hr rfl (fun t ht hW => ⟨⟨_, _, rfl, h, pw ht hP⟩, hS.F ht⟩) hS.2.2 dL_delta_500
                                                                    · replace h := h.1 c204
                                                                      refine lv_iconst (v := 1) hx hb dL_delta_495 (by decide) ?_
                                                                      refine lv_goto (tgt := 500) hx hb dL_delta_496 (by decide) ?_
                                                                      exact W.zret hx hb hr rfl (fun t ht hW => ⟨⟨_, _, rfl, h, pw ht hP⟩, hS.F ht⟩) hS.2.2 dL_delta_500
set_option maxRecDepth 100000 in
def p_L_refused_b17 (Q : Int32 → Sg → Prop)  (x0 : Option Nat) (t0 : Int32) (s : Sg) : Prop := ∃ k1, x0 = some k1 ∧ kX k1 = 4 ∧ p_X5_row k1 t0 0 s (fun r5 s4 => ((r5 = ((-1)) → ∃ k7, x0 = some k7 ∧ kX k7 = 4 ∧ p_X5_lay k7 t0 0 0 s4 (fun r11 s10 => ((r11 = ((-1)) → ∃ k13, x0 = some k13 ∧ kX k13 = 4 ∧ p_X5_at k13 t0 0 s10 (fun r17 s16 => ((r17 = ((-1)) → ∃ k19, x0 = some k19 ∧ kX k19 = 4 ∧ p_X5_tear k19 t0 s16 (fun r23 s22 => ((r23 = ((-1)) → ∃ k25, x0 = some k25 ∧ kX k25 = 4 ∧ p_X5_copy k25 0 0 t0 0 0 s22 (fun r29 s28 => ((r29 = ((-1)) → ∃ k31, x0 = some k31 ∧ kX k31 = 4 ∧ p_X5_mean k31 t0 s28 (fun r35 s34 => ((r35 = ((-1)) → ∃ k37, x0 = some k37 ∧ kX k37 = 4 ∧ p_X5_text k37 t0 0 s34 (fun r41 s40 => ((r41 = ((-1)) → ∃ k43, x0 = some k43 ∧ kX k43 = 4 ∧ p_X5_put k43 t0 0 0 s40 (fun r47 s46 => ((r47 = ((-1)) → ∃ k49, x0 = some k49 ∧ kX k49 = 4 ∧ p_X5_fault k49 t0 s46 (fun r53 s52 => ((r53 = ((-1)) → ∃ k55, x0 = some k55 ∧ kX k55 = 4 ∧ p_X5_delta k55 t0 s52 (fun r59 s58 => ((r59 = ((-1)) → ∃ k61, x0 = some k61 ∧ kX k61 = 4 ∧ p_X5_woman k61 t0 0 s58 (fun r65 s64 => ((r65 = ((-1)) → ∃ k67, x0 = some k67 ∧ kX k67 = 4 ∧ p_X5_mark k67 t0 1 s64 (fun r71 s70 => ((r71 = ((-1)) → ∃ k73, x0 = some k73 ∧ kX k73 = 4 ∧ p_X5_hem k73 t0 0 s70 (fun r77 s76 => ((r77 = ((-1)) → ∃ k79, x0 = some k79 ∧ kX k79 = 4 ∧ p_X5_would k79 0 t0 s76 (fun r83 s82 => ((r83 = ((-1)) → ∃ k85, x0 = some k85 ∧ kX k85 = 4 ∧ p_X5_flood k85 t0 s82 (fun r89 s88 => ((r89 = ((-1)) → ∃ k91, x0 = some k91 ∧ kX k91 = 4 ∧ p_X5_move k91 0 t0 s88 (fun r95 s94 => ((r95 = ((-1)) → ∃ k97, x0 = some k97 ∧ kX k97 = 4 ∧ p_X5_dyke k97 t0 s94 (fun r101 s100 => ((r101 = ((-1)) → ∃ k103, x0 = some k103 ∧ kX k103 = 4 ∧ p_X5_tuck k103 t0 s100 (fun r107 s106 => ((r107 = ((-1)) → ∃ k109, x0 = some k109 ∧ kX k109 = 4 ∧ p_X5_undo k109 t0 s106 (fun r113 s112 => ((r113 = ((-1)) → ∃ k115, x0 = some k115 ∧ kX k115 = 4 ∧ p_X5_keep k115 t0 s112 (fun r119 s118 => ((r119 = ((-1)) → ∃ k121, x0 = some k121 ∧ kX k121 = 4 ∧ p_X5_on k121 t0 s118 (fun r125 s124 => ((r125 = ((-1)) → ∃ k127, x0 = some k127 ∧ kX k127 = 4 ∧ p_X5_know k127 t0 0 s124 (fun r131 s130 => ((r131 = ((-1)) → ∃ k133, x0 = some k133 ∧ kX k133 = 4 ∧ p_X5_high k133 t0 s130 (fun r137 s136 => ((r137 = ((-1)) → ∃ k139, x0 = some k139 ∧ kX k139 = 4 ∧ p_X5_look k139 t0 0 s136 (fun r143 s142 => ((r143 = ((-1)) → ∃ k145, x0 = some k145 ∧ kX k145 = 4 ∧ p_X5_looks k145 t0 s142 (fun r149 s148 => ((r149 = ((-1)) → ∃ k151, x0 = some k151 ∧ kX k151 = 4 ∧ p_X5_line k151 t0 s148 (fun r155 s154 => ((r155 = ((-1)) → ∃ k157, x0 = some k157 ∧ kX k157 = 4 ∧ p_X5_kinds k157 t0 0 s154 (fun r161 s160 => ((r161 = ((-1)) → ∃ k163, x0 = some k163 ∧ kX k163 = 4 ∧ p_X5_test k163 0 t0 s160 (fun r167 s166 => ((r167 = ((-1)) → ∃ k169, x0 = some k169 ∧ kX k169 = 4 ∧ p_X5_whose k169 t0 s166 (fun r173 s172 => ((r173 = ((-1)) → ∃ k175, x0 = some k175 ∧ kX k175 = 4 ∧ p_X5_raise k175 t0 0 0 s172 (fun r179 s178 => ((r179 = ((-1)) → ∃ k181, x0 = some k181 ∧ kX k181 = 4 ∧ p_X5_least k181 0 0 t0 s178 (fun r185 s184 => ((r185 = ((-1)) → ∃ k187, x0 = some k187 ∧ kX k187 = 4 ∧ p_X5_duel k187 t0 0 s184 (fun r191 s190 => ((r191 = ((-1)) → ∃ k193, x0 = some k193 ∧ kX k193 = 4 ∧ p_X5_odds k193 t0 s190 (fun r197 s196 => ((r197 = ((-1)) → ∃ k199, x0 = some k199 ∧ kX k199 = 4 ∧ p_X5_lots k199 t0 1 s196 (fun r203 s202 => ((r203 = ((-1)) → ∃ k205, x0 = some k205 ∧ kX k205 = 4 ∧ p_X5_count k205 t0 s202 (fun r209 s208 => ((r209 = ((-1)) → ∃ k211, x0 = some k211 ∧ kX k211 = 4 ∧ p_X5_findings k211 t0 s208 (fun r215 s214 => ((r215 = ((-1)) → Q 1 s214) ∧ (¬ r215 = ((-1)) → Q 0 s214)))) ∧ (¬ r209 = ((-1)) → Q 0 s208)))) ∧ (¬ r203 = ((-1)) → Q 0 s202)))) ∧ (¬ r197 = ((-1)) → Q 0 s196)))) ∧ (¬ r191 = ((-1)) → Q 0 s190)))) ∧ (¬ r185 = ((-1)) → Q 0 s184)))) ∧ (¬ r179 = ((-1)) → Q 0 s178)))) ∧ (¬ r173 = ((-1)) → Q 0 s172)))) ∧ (¬ r167 = ((-1)) → Q 0 s166)))) ∧ (¬ r161 = ((-1)) → Q 0 s160)))) ∧ (¬ r155 = ((-1)) → Q 0 s154)))) ∧ (¬ r149 = ((-1)) → Q 0 s148)))) ∧ (¬ r143 = ((-1)) → Q 0 s142)))) ∧ (¬ r137 = ((-1)) → Q 0 s136)))) ∧ (¬ r131 = ((-1)) → Q 0 s130)))) ∧ (¬ r125 = ((-1)) → Q 0 s124)))) ∧ (¬ r119 = ((-1)) → Q 0 s118)))) ∧ (¬ r113 = ((-1)) → Q 0 s112)))) ∧ (¬ r107 = ((-1)) → Q 0 s106)))) ∧ (¬ r101 = ((-1)) → Q 0 s100)))) ∧ (¬ r95 = ((-1)) → Q 0 s94)))) ∧ (¬ r89 = ((-1)) → Q 0 s88)))) ∧ (¬ r83 = ((-1)) → Q 0 s82)))) ∧ (¬ r77 = ((-1)) → Q 0 s76)))) ∧ (¬ r71 = ((-1)) → Q 0 s70)))) ∧ (¬ r65 = ((-1)) → Q 0 s64)))) ∧ (¬ r59 = ((-1)) → Q 0 s58)))) ∧ (¬ r53 = ((-1)) → Q 0 s52)))) ∧ (¬ r47 = ((-1)) → Q 0 s46)))) ∧ (¬ r41 = ((-1)) → Q 0 s40)))) ∧ (¬ r35 = ((-1)) → Q 0 s34)))) ∧ (¬ r29 = ((-1)) → Q 0 s28)))) ∧ (¬ r23 = ((-1)) → Q 0 s22)))) ∧ (¬ r17 = ((-1)) → Q 0 s16)))) ∧ (¬ r11 = ((-1)) → Q 0 s10)))) ∧ (¬ r5 = ((-1)) → Q 0 s4)))
set_option maxRecDepth 100000 in
def p_L_refused (x0 : Option Nat) (x1 : Int32) (s : Sg) (Q : Int32 → Sg → Prop) : Prop := ((0 ≤ x1 → p_L_refused_b17 Q  x0 (x1 + 1000) s) ∧ (¬ 0 ≤ x1 → p_L_refused_b17 Q  x0 (x1 - 999) s))
set_option maxHeartbeats 4000000 in
set_option maxRecDepth 100000 in
theorem c_L_refused (l : Launch) (D : va_G) (cs : Cs) (ad : Nat → Nat) (x0 : Option Nat) (x1 : Int32) (s0 : Sg) (Q : Int32 → Sg → Prop) : Met l yL_refused wsL_refused { frames := 12, cells := 0, slots := 0, locals := 338 } (Pc0 bX D cs ad [va_re ad x0, .int x1] s0 (p_L_refused x0 x1 s0 Q)) (QI bX D cs ad Q) 0 0 (fAd bX ad) := by
  refine Met.ofW (cc := cL_refused) (maxL := 3) (ret := (some .boolean)) (by decide) rfl ?_
  intro p e s m args below meth c s₁ B0 hml hv
  obtain ⟨ha, hP, hE, h⟩ := hv
  have hx := B0.exec
  have hb := B0.bytes
  have hr := B0.returns
  have hts := atoms_spec (ws := wsL_refused) B0.pre
  have hown : s.vm.findClass RL = some m.cls := findClass_of_methodNamed B0.named
  have hlocks := B0.notSynchronized
  have hS : va_S (fAd bX ad) s.heap s.heap [] := va_S.rf
  have hl := lv_entry ([va_re ad x0, .int x1]) (n := 3) (by first | exact Nat.le_of_ble_eq_true rfl | simp [lg_sl, re_cat, cat_i, cat_l, cat_r])
  rw [show entryFrame m args 3 = entryFrame m ([va_re ad x0, .int x1] : List Value).toArray 3 by rw [ha], lg_entry_eq]
  generalize (lg_sl ([va_re ad x0, .int x1]) ++ List.replicate (3 - (lg_sl ([va_re ad x0, .int x1])).length) Slot.unset).toArray = ls at hl ⊢
  have hl : lv_has ls 3 [(0, va_re ad x0), (1, .int x1)] := by first | exact hl | simpa [lv_args, re_cat, cat_i, cat_l, cat_r] using hl
  have hB17 : ∀ (x0 : Option Nat) (t0 : Int32) (σ : Sg) (H : Heap) (locs : List Loc) (ls : Array Slot), p_L_refused_b17 Q  x0 t0 σ → va_P D vwCl (wl bX cs ad σ) H → va_S (fAd bX ad) s.heap H locs → lv_has ls 3 [(0, va_re ad x0)] → W p l e { frames := 12, cells := 0, slots := 0, locals := 338 } s m args below meth c H locs 0 0 (MQ below (QI bX D cs ad Q) args s 0 0 (fAd bX ad)) (F0 m 17 ls [.int t0]) := by
    intro x0 t0 σ H locs ls h hP hS hl
    unfold p_L_refused_b17 at h
    refine lv_istore_n (i := 2) (lv' := [(2, .int t0), (0, va_re ad x0)]) hx hb dL_refused_17 rfl hl (by decide) (by first | rfl | simp [re_cat, cat_i, cat_l, cat_r]) (fun ls hl => ?_)
    refine r_aload_n hx hb dL_refused_18 rfl (lv_at hl 1 rfl) ?_
    refine lv_iload_n hx hb dL_refused_19 rfl (lv_at hl 0 rfl) ?_
    refine lv_iconst (v := 0) hx hb dL_refused_20 (by decide) ?_
    obtain ⟨k1, e2, q3, h⟩ := h
    refine f_i (kV (As := [.int t0, .int 0]) (rest := []) e2 ⟨hx, hb, hml, hown, hts⟩ (c_X5_row l D cs ad k1 t0 0 σ _ q3) (cwV 2 hts gL_refused_X5_row rfl rfl rfl (by decide +kernel) ⟨Nat.le_of_ble_eq_true rfl, Nat.le_of_ble_eq_true rfl⟩) hE hP rfl rfl (w_4 hE q3) h rfl hl.1 rfl (by first | exact lv_room (Nat.le_of_ble_eq_true rfl) | (refine lv_room ?_; simp [re_cat, cat_i, cat_l, cat_r])) dL_refused_21 ⟨Nat.le_refl _, Nat.le_refl _⟩) hS (fun r5 s4 H locs h hP hS => ?_)
    refine lv_iconst (v := (-1)) hx hb dL_refused_24 (by decide) ?_
    refine lv_icmp_ne (tgt := 372) hx hb dL_refused_25 (by decide) (fun c6 => ?_) (fun c6 => ?_)
    · replace h := h.2 c6
      refine lv_iconst (v := 0) hx hb dL_refused_372 (by decide) ?_
      exact W.zret hx hb hr rfl (fun t ht hW => ⟨⟨_, _, rfl, h, pw ht hP⟩, hS.F ht⟩) hS.2.2 dL_refused_373
    · replace h := h.1 c6
      refine r_aload_n hx hb dL_refused_28 rfl (lv_at hl 1 rfl) ?_
      refine lv_iload_n hx hb dL_refused_29 rfl (lv_at hl 0 rfl) ?_
      refine lv_iconst (v := 0) hx hb dL_refused_30 (by decide) ?_
      refine lv_iconst (v := 0) hx hb dL_refused_31 (by decide) ?_
      obtain ⟨k7, e8, q9, h⟩ := h
      refine f_i (kV (As := [.int t0, .int 0, .int 0]) (rest := []) e8 ⟨hx, hb, hml, hown, hts⟩ (c_X5_lay l D cs ad k7 t0 0 0 s4 _ q9) (cwV 3 hts gL_refused_X5_lay rfl rfl rfl (by decide +kernel) ⟨Nat.le_of_ble_eq_true rfl, Nat.le_of_ble_eq_true rfl⟩) hE hP rfl rfl (w_4 hE q9) h rfl hl.1 rfl (by first | exact lv_room (Nat.le_of_ble_eq_true rfl) | (refine lv_room ?_; simp [re_cat, cat_i, cat_l, cat_r])) dL_refused_32 ⟨Nat.le_refl _, Nat.le_refl _⟩) hS (fun r11 s10 H locs h hP hS => ?_)
      refine lv_iconst (v := (-1)) hx hb dL_refused_35 (by decide) ?_
      refine lv_icmp_ne (tgt := 372) hx hb dL_refused_36 (by decide) (fun c12 => ?_) (fun c12 => ?_)
      · replace h := h.2 c12
        refine lv_iconst (v := 0) hx hb dL_refused_372 (by decide) ?_
        exact W.zret hx hb hr rfl (fun t ht hW => ⟨⟨_, _, rfl, h, pw ht hP⟩, hS.F ht⟩) hS.2.2 dL_refused_373
      · replace h := h.1 c12
        refine r_aload_n hx hb dL_refused_39 rfl (lv_at hl 1 rfl) ?_
        refine lv_iload_n hx hb dL_refused_40 rfl (lv_at hl 0 rfl) ?_
        refine lv_iconst (v := 0) hx hb dL_refused_41 (by decide) ?_
        obtain ⟨k13, e14, q15, h⟩ := h
        refine f_i (kV (As := [.int t0, .int 0]) (rest := []) e14 ⟨hx, hb, hml, hown, hts⟩ (c_X5_at l D cs ad k13 t0 0 s10 _ q15) (cwV 2 hts gL_refused_X5_at rfl rfl rfl (by decide +kernel) ⟨Nat.le_of_ble_eq_true rfl, Nat.le_of_ble_eq_true rfl⟩) hE hP rfl rfl (w_4 hE q15) h rfl hl.1 rfl (by first | exact lv_room (Nat.le_of_ble_eq_true rfl) | (refine lv_room ?_; simp [re_cat, cat_i, cat_l, cat_r])) dL_refused_42 ⟨Nat.le_refl _, Nat.le_refl _⟩) hS (fun r17 s16 H locs h hP hS => ?_)
        refine lv_iconst (v := (-1)) hx hb dL_refused_45 (by decide) ?_
        refine lv_icmp_ne (tgt := 372) hx hb dL_refused_46 (by decide) (fun c18 => ?_) (fun c18 => ?_)
        · replace h := h.2 c18
          refine lv_iconst (v := 0) hx hb dL_refused_372 (by decide) ?_
          exact W.zret hx hb hr rfl (fun t ht hW => ⟨⟨_, _, rfl, h, pw ht hP⟩, hS.F ht⟩) hS.2.2 dL_refused_373
        · replace h := h.1 c18
          refine r_aload_n hx hb dL_refused_49 rfl (lv_at hl 1 rfl) ?_
          refine lv_iload_n hx hb dL_refused_50 rfl (lv_at hl 0 rfl) ?_
          obtain ⟨k19, e20, q21, h⟩ := h
          refine f_i (kV (As := [.int t0]) (rest := []) e20 ⟨hx, hb, hml, hown, hts⟩ (c_X5_tear l D cs ad k19 t0 s16 _ q21) (cwV 1 hts gL_refused_X5_tear rfl rfl rfl (by decide +kernel) ⟨Nat.le_of_ble_eq_true rfl, Nat.le_of_ble_eq_true rfl⟩) hE hP rfl rfl (w_4 hE q21) h rfl hl.1 rfl (by first | exact lv_room (Nat.le_of_ble_eq_true rfl) | (refine lv_room ?_; simp [re_cat, cat_i, cat_l, cat_r])) dL_refused_51 ⟨Nat.le_refl _, Nat.le_refl _⟩) hS (fun r23 s22 H locs h hP hS => ?_)
          refine lv_iconst (v := (-1)) hx hb dL_refused_54 (by decide) ?_
          refine lv_icmp_ne (tgt := 372) hx hb dL_refused_55 (by decide) (fun c24 => ?_) (fun c24 => ?_)
          · replace h := h.2 c24
            refine lv_iconst (v := 0) hx hb dL_refused_372 (by decide) ?_
            exact W.zret hx hb hr rfl (fun t ht hW => ⟨⟨_, _, rfl, h, pw ht hP⟩, hS.F ht⟩) hS.2.2 dL_refused_373
          · replace h := h.1 c24
            refine r_aload_n hx hb dL_refused_58 rfl (lv_at hl 1 rfl) ?_
            refine lv_iconst (v := 0) hx hb dL_refused_59 (by decide) ?_
            refine lv_iconst (v := 0) hx hb dL_refused_60 (by decide) ?_
            refine lv_iload_n hx hb dL_refused_61 rfl (lv_at hl 0 rfl) ?_
            refine lv_iconst (v := 0) hx hb dL_refused_62 (by decide) ?_
            refine lv_iconst (v := 0) hx hb dL_refused_63 (by decide) ?_
            obtain ⟨k25, e26, q27, h⟩ := h
            refine f_i (kV (As := [.int 0, .int 0, .int t0, .int 0, .int 0]) (rest := []) e26 ⟨hx, hb, hml, hown, hts⟩ (c_X5_copy l D cs ad k25 0 0 t0 0 0 s22 _ q27) (cwV 5 hts gL_refused_X5_copy rfl rfl rfl (by decide +kernel) ⟨Nat.le_of_ble_eq_true rfl, Nat.le_of_ble_eq_true rfl⟩) hE hP rfl rfl (w_4 hE q27) h rfl hl.1 rfl (by first | exact lv_room (Nat.le_of_ble_eq_true rfl) | (refine lv_room ?_; simp [re_cat, cat_i, cat_l, cat_r])) dL_refused_64 ⟨Nat.le_refl _, Nat.le_refl _⟩) hS (fun r29 s28 H locs h hP hS => ?_)
            refine lv_iconst (v := (-1)) hx hb dL_refused_67 (by decide) ?_
            refine lv_icmp_ne (tgt := 372) hx hb dL_refused_68 (by decide) (fun c30 => ?_) (fun c30 => ?_)
            · replace h := h.2 c30
              refine lv_iconst (v := 0) hx hb dL_refused_372 (by decide) ?_
              exact W.zret hx hb hr rfl (fun t ht hW => ⟨⟨_, _, rfl, h, pw ht hP⟩, hS.F ht⟩) hS.2.2 dL_refused_373
            · replace h := h.1 c30
              refine r_aload_n hx hb dL_refused_71 rfl (lv_at hl 1 rfl) ?_
              refine lv_iload_n hx hb dL_refused_72 rfl (lv_at hl 0 rfl) ?_
              obtain ⟨k31, e32, q33, h⟩ := h
              refine f_i (kV (As := [.int t0]) (rest := []) e32 ⟨hx, hb, hml, hown, hts⟩ (c_X5_mean l D cs ad k31 t0 s28 _ q33) (cwV 1 hts gL_refused_X5_mean rfl rfl rfl (by decide +kernel) ⟨Nat.le_of_ble_eq_true rfl, Nat.le_of_ble_eq_true rfl⟩) hE hP rfl rfl (w_4 hE q33) h rfl hl.1 rfl (by first | exact lv_room (Nat.le_of_ble_eq_true rfl) | (refine lv_room ?_; simp [re_cat, cat_i, cat_l, cat_r])) dL_refused_73 ⟨Nat.le_refl _, Nat.le_refl _⟩) hS (fun r35 s34 H locs h hP hS => ?_)
              refine lv_iconst (v := (-1)) hx hb dL_refused_76 (by decide) ?_
              refine lv_icmp_ne (tgt := 372) hx hb dL_refused_77 (by decide) (fun c36 => ?_) (fun c36 => ?_)
              · replace h := h.2 c36
                refine lv_iconst (v := 0) hx hb dL_refused_372 (by decide) ?_
                exact W.zret hx hb hr rfl (fun t ht hW => ⟨⟨_, _, rfl, h, pw ht hP⟩, hS.F ht⟩) hS.2.2 dL_refused_373
              · replace h := h.1 c36
                refine r_aload_n hx hb dL_refused_80 rfl (lv_at hl 1 rfl) ?_
                refine lv_iload_n hx hb dL_refused_81 rfl (lv_at hl 0 rfl) ?_
                refine lv_iconst (v := 0) hx hb dL_refused_82 (by decide) ?_
                obtain ⟨k37, e38, q39, h⟩ := h
                refine f_i (kV (As := [.int t0, .int 0]) (rest := []) e38 ⟨hx, hb, hml, hown, hts⟩ (c_X5_text l D cs ad k37 t0 0 s34 _ q39) (cwV 2 hts gL_refused_X5_text rfl rfl rfl (by decide +kernel) ⟨Nat.le_of_ble_eq_true rfl, Nat.le_of_ble_eq_true rfl⟩) hE hP rfl rfl (w_4 hE q39) h rfl hl.1 rfl (by first | exact lv_room (Nat.le_of_ble_eq_true rfl) | (refine lv_room ?_; simp [re_cat, cat_i, cat_l, cat_r])) dL_refused_83 ⟨Nat.le_refl _, Nat.le_refl _⟩) hS (fun r41 s40 H locs h hP hS => ?_)
                refine lv_iconst (v := (-1)) hx hb dL_refused_86 (by decide) ?_
                refine lv_icmp_ne (tgt := 372) hx hb dL_refused_87 (by decide) (fun c42 => ?_) (fun c42 => ?_)
                · replace h := h.2 c42
                  refine lv_iconst (v := 0) hx hb dL_refused_372 (by decide) ?_
                  exact W.zret hx hb hr rfl (fun t ht hW => ⟨⟨_, _, rfl, h, pw ht hP⟩, hS.F ht⟩) hS.2.2 dL_refused_373
                · replace h := h.1 c42
                  refine r_aload_n hx hb dL_refused_90 rfl (lv_at hl 1 rfl) ?_
                  refine lv_iload_n hx hb dL_refused_91 rfl (lv_at hl 0 rfl) ?_
                  refine lv_iconst (v := 0) hx hb dL_refused_92 (by decide) ?_
                  refine lv_iconst (v := 0) hx hb dL_refused_93 (by decide) ?_
                  obtain ⟨k43, e44, q45, h⟩ := h
                  refine f_i (kV (As := [.int t0, .int 0, .int 0]) (rest := []) e44 ⟨hx, hb, hml, hown, hts⟩ (c_X5_put l D cs ad k43 t0 0 0 s40 _ q45) (cwV 3 hts gL_refused_X5_put rfl rfl rfl (by decide +kernel) ⟨Nat.le_of_ble_eq_true rfl, Nat.le_of_ble_eq_true rfl⟩) hE hP rfl rfl (w_4 hE q45) h rfl hl.1 rfl (by first | exact lv_room (Nat.le_of_ble_eq_true rfl) | (refine lv_room ?_; simp [re_cat, cat_i, cat_l, cat_r])) dL_refused_94 ⟨Nat.le_refl _, Nat.le_refl _⟩) hS (fun r47 s46 H locs h hP hS => ?_)
                  refine lv_iconst (v := (-1)) hx hb dL_refused_97 (by decide) ?_
                  refine lv_icmp_ne (tgt := 372) hx hb dL_refused_98 (by decide) (fun c48 => ?_) (fun c48 => ?_)
                  · replace h := h.2 c48
                    refine lv_iconst (v := 0) hx hb dL_refused_372 (by decide) ?_
                    exact W.zret hx hb hr rfl (fun t ht hW => ⟨⟨_, _, rfl, h, pw ht hP⟩, hS.F ht⟩) hS.2.2 dL_refused_373
                  · replace h := h.1 c48
                    refine r_aload_n hx hb dL_refused_101 rfl (lv_at hl 1 rfl) ?_
                    refine lv_iload_n hx hb dL_refused_102 rfl (lv_at hl 0 rfl) ?_
                    obtain ⟨k49, e50, q51, h⟩ := h
                    refine f_i (kV (As := [.int t0]) (rest := []) e50 ⟨hx, hb, hml, hown, hts⟩ (c_X5_fault l D cs ad k49 t0 s46 _ q51) (cwV 1 hts gL_refused_X5_fault rfl rfl rfl (by decide +kernel) ⟨Nat.le_of_ble_eq_true rfl, Nat.le_of_ble_eq_true rfl⟩) hE hP rfl rfl (w_4 hE q51) h rfl hl.1 rfl (by first | exact lv_room (Nat.le_of_ble_eq_true rfl) | (refine lv_room ?_; simp [re_cat, cat_i, cat_l, cat_r])) dL_refused_103 ⟨Nat.le_refl _, Nat.le_refl _⟩) hS (fun r53 s52 H locs h hP hS => ?_)
                    refine lv_iconst (v := (-1)) hx hb dL_refused_106 (by decide) ?_
                    refine lv_icmp_ne (tgt := 372) hx hb dL_refused_107 (by decide) (fun c54 => ?_) (fun c54 => ?_)
                    · replace h := h.2 c54
                      refine lv_iconst (v := 0) hx hb dL_refused_372 (by decide) ?_
                      exact W.zret hx hb hr rfl (fun t ht hW => ⟨⟨_, _, rfl, h, pw ht hP⟩, hS.F ht⟩) hS.2.2 dL_refused_373
                    · replace h := h.1 c54
                      refine r_aload_n hx hb dL_refused_110 rfl (lv_at hl 1 rfl) ?_
                      refine lv_iload_n hx hb dL_refused_111 rfl (lv_at hl 0 rfl) ?_
                      obtain ⟨k55, e56, q57, h⟩ := h
                      refine f_i (kV (As := [.int t0]) (rest := []) e56 ⟨hx, hb, hml, hown, hts⟩ (c_X5_delta l D cs ad k55 t0 s52 _ q57) (cwV 1 hts gL_refused_X5_delta rfl rfl rfl (by decide +kernel) ⟨Nat.le_of_ble_eq_true rfl, Nat.le_of_ble_eq_true rfl⟩) hE hP rfl rfl (w_4 hE q57) h rfl hl.1 rfl (by first | exact lv_room (Nat.le_of_ble_eq_true rfl) | (refine lv_room ?_; simp [re_cat, cat_i, cat_l, cat_r])) dL_refused_112 ⟨Nat.le_refl _, Nat.le_refl _⟩) hS (fun r59 s58 H locs h hP hS => ?_)
                      refine lv_iconst (v := (-1)) hx hb dL_refused_115 (by decide) ?_
                      refine lv_icmp_ne (tgt := 372) hx hb dL_refused_116 (by decide) (fun c60 => ?_) (fun c60 => ?_)
                      · replace h := h.2 c60
                        refine lv_iconst (v := 0) hx hb dL_refused_372 (by decide) ?_
                        exact W.zret hx hb hr rfl (fun t ht hW => ⟨⟨_, _, rfl, h, pw ht hP⟩, hS.F ht⟩) hS.2.2 dL_refused_373
                      · replace h := h.1 c60
                        refine r_aload_n hx hb dL_refused_119 rfl (lv_at hl 1 rfl) ?_
                        refine lv_iload_n hx hb dL_refused_120 rfl (lv_at hl 0 rfl) ?_
                        refine lv_iconst (v := 0) hx hb dL_refused_121 (by decide) ?_
                        obtain ⟨k61, e62, q63, h⟩ := h
                        refine f_i (kV (As := [.int t0, .int 0]) (rest := []) e62 ⟨hx, hb, hml, hown, hts⟩ (c_X5_woman l D cs ad k61 t0 0 s58 _ q63) (cwV 2 hts gL_refused_X5_woman rfl rfl rfl (by decide +kernel) ⟨Nat.le_of_ble_eq_true rfl, Nat.le_of_ble_eq_true rfl⟩) hE hP rfl rfl (w_4 hE q63) h rfl hl.1 rfl (by first | exact lv_room (Nat.le_of_ble_eq_true rfl) | (refine lv_room ?_; simp [re_cat, cat_i, cat_l, cat_r])) dL_refused_122 ⟨Nat.le_refl _, Nat.le_refl _⟩) hS (fun r65 s64 H locs h hP hS => ?_)
                        refine lv_iconst (v := (-1)) hx hb dL_refused_125 (by decide) ?_
                        refine lv_icmp_ne (tgt := 372) hx hb dL_refused_126 (by decide) (fun c66 => ?_) (fun c66 => ?_)
                        · replace h := h.2 c66
                          refine lv_iconst (v := 0) hx hb dL_refused_372 (by decide) ?_
                          exact W.zret hx hb hr rfl (fun t ht hW => ⟨⟨_, _, rfl, h, pw ht hP⟩, hS.F ht⟩) hS.2.2 dL_refused_373
                        · replace h := h.1 c66
                          refine r_aload_n hx hb dL_refused_129 rfl (lv_at hl 1 rfl) ?_
                          refine lv_iload_n hx hb dL_refused_130 rfl (lv_at hl 0 rfl) ?_
                          refine lv_iconst (v := 1) hx hb dL_refused_131 (by decide) ?_
                          obtain ⟨k67, e68, q69, h⟩ := h
                          refine f_i (kV (As := [.int t0, .int 1]) (rest := []) e68 ⟨hx, hb, hml, hown, hts⟩ (c_X5_mark l D cs ad k67 t0 1 s64 _ q69) (cwV 2 hts gL_refused_X5_mark rfl rfl rfl (by decide +kernel) ⟨Nat.le_of_ble_eq_true rfl, Nat.le_of_ble_eq_true rfl⟩) hE hP rfl rfl (w_4 hE q69) h rfl hl.1 rfl (by first | exact lv_room (Nat.le_of_ble_eq_true rfl) | (refine lv_room ?_; simp [re_cat, cat_i, cat_l, cat_r])) dL_refused_132 ⟨Nat.le_refl _, Nat.le_refl _⟩) hS (fun r71 s70 H locs h hP hS => ?_)
                          refine lv_iconst (v := (-1)) hx hb dL_refused_135 (by decide) ?_
                          refine lv_icmp_ne (tgt := 372) hx hb dL_refused_136 (by decide) (fun c72 => ?_) (fun c72 => ?_)
                          · replace h := h.2 c72
                            refine lv_iconst (v := 0) hx hb dL_refused_372 (by decide) ?_
                            exact W.zret hx hb hr rfl (fun t ht hW => ⟨⟨_, _, rfl, h, pw ht hP⟩, hS.F ht⟩) hS.2.2 dL_refused_373
                          · replace h := h.1 c72
                            refine r_aload_n hx hb dL_refused_139 rfl (lv_at hl 1 rfl) ?_
                            refine lv_iload_n hx hb dL_refused_140 rfl (lv_at hl 0 rfl) ?_
                            refine lv_iconst (v := 0) hx hb dL_refused_141 (by decide) ?_
                            obtain ⟨k73, e74, q75, h⟩ := h
                            refine f_i (kV (As := [.int t0, .int 0]) (rest := []) e74 ⟨hx, hb, hml, hown, hts⟩ (c_X5_hem l D cs ad k73 t0 0 s70 _ q75) (cwV 2 hts gL_refused_X5_hem rfl rfl rfl (by decide +kernel) ⟨Nat.le_of_ble_eq_true rfl, Nat.le_of_ble_eq_true rfl⟩) hE hP rfl rfl (w_4 hE q75) h rfl hl.1 rfl (by first | exact lv_room (Nat.le_of_ble_eq_true rfl) | (refine lv_room ?_; simp [re_cat, cat_i, cat_l, cat_r])) dL_refused_142 ⟨Nat.le_refl _, Nat.le_refl _⟩) hS (fun r77 s76 H locs h hP hS => ?_)
                            refine lv_iconst (v := (-1)) hx hb dL_refused_145 (by decide) ?_
                            refine lv_icmp_ne (tgt := 372) hx hb dL_refused_146 (by decide) (fun c78 => ?_) (fun c78 => ?_)
                            · replace h := h.2 c78
                              refine lv_iconst (v := 0) hx hb dL_refused_372 (by decide) ?_
                              exact W.zret hx hb hr rfl (fun t ht hW => ⟨⟨_, _, rfl, h, pw ht hP⟩, hS.F ht⟩) hS.2.2 dL_refused_373
                            · replace h := h.1 c78
                              refine r_aload_n hx hb dL_refused_149 rfl (lv_at hl 1 rfl) ?_
                              refine lv_iconst (v := 0) hx hb dL_refused_150 (by decide) ?_
                              refine lv_iload_n hx hb dL_refused_151 rfl (lv_at hl 0 rfl) ?_
                              obtain ⟨k79, e80, q81, h⟩ := h
                              refine f_i (kV (As := [.int 0, .int t0]) (rest := []) e80 ⟨hx, hb, hml, hown, hts⟩ (c_X5_would l D cs ad k79 0 t0 s76 _ q81) (cwV 2 hts gL_refused_X5_would rfl rfl rfl (by decide +kernel) ⟨Nat.le_of_ble_eq_true rfl, Nat.le_of_ble_eq_true rfl⟩) hE hP rfl rfl (w_4 hE q81) h rfl hl.1 rfl (by first | exact lv_room (Nat.le_of_ble_eq_true rfl) | (refine lv_room ?_; simp [re_cat, cat_i, cat_l, cat_r])) dL_refused_152 ⟨Nat.le_refl _, Nat.le_refl _⟩) hS (fun r83 s82 H locs h hP hS => ?_)
                              refine lv_iconst (v := (-1)) hx hb dL_refused_155 (by decide) ?_
                              refine lv_icmp_ne (tgt := 372) hx hb dL_refused_156 (by decide) (fun c84 => ?_) (fun c84 => ?_)
                              · replace h := h.2 c84
                                refine lv_iconst (v := 0) hx hb dL_refused_372 (by decide) ?_
                                exact W.zret hx hb hr rfl (fun t ht hW => ⟨⟨_, _, rfl, h, pw ht hP⟩, hS.F ht⟩) hS.2.2 dL_refused_373
                              · replace h := h.1 c84
                                refine r_aload_n hx hb dL_refused_159 rfl (lv_at hl 1 rfl) ?_
                                refine lv_iload_n hx hb dL_refused_160 rfl (lv_at hl 0 rfl) ?_
                                obtain ⟨k85, e86, q87, h⟩ := h
                                refine f_i (kV (As := [.int t0]) (rest := []) e86 ⟨hx, hb, hml, hown, hts⟩ (c_X5_flood l D cs ad k85 t0 s82 _ q87) (cwV 1 hts gL_refused_X5_flood rfl rfl rfl (by decide +kernel) ⟨Nat.le_of_ble_eq_true rfl, Nat.le_of_ble_eq_true rfl⟩) hE hP rfl rfl (w_4 hE q87) h rfl hl.1 rfl (by first | exact lv_room (Nat.le_of_ble_eq_true rfl) | (refine lv_room ?_; simp [re_cat, cat_i, cat_l, cat_r])) dL_refused_161 ⟨Nat.le_refl _, Nat.le_refl _⟩) hS (fun r89 s88 H locs h hP hS => ?_)
                                refine lv_iconst (v := (-1)) hx hb dL_refused_164 (by decide) ?_
                                refine lv_icmp_ne (tgt := 372) hx hb dL_refused_165 (by decide) (fun c90 => ?_) (fun c90 => ?_)
                                · replace h := h.2 c90
                                  refine lv_iconst (v := 0) hx hb dL_refused_372 (by decide) ?_
                                  exact W.zret hx hb hr rfl (fun t ht hW => ⟨⟨_, _, rfl, h, pw ht hP⟩, hS.F ht⟩) hS.2.2 dL_refused_373
                                · replace h := h.1 c90
                                  refine r_aload_n hx hb dL_refused_168 rfl (lv_at hl 1 rfl) ?_
                                  refine lv_iconst (v := 0) hx hb dL_refused_169 (by decide) ?_
                                  refine lv_iload_n hx hb dL_refused_170 rfl (lv_at hl 0 rfl) ?_
                                  obtain ⟨k91, e92, q93, h⟩ := h
                                  refine f_i (kV (As := [.int 0, .int t0]) (rest := []) e92 ⟨hx, hb, hml, hown, hts⟩ (c_X5_move l D cs ad k91 0 t0 s88 _ q93) (cwV 2 hts gL_refused_X5_move rfl rfl rfl (by decide +kernel) ⟨Nat.le_of_ble_eq_true rfl, Nat.le_of_ble_eq_true rfl⟩) hE hP rfl rfl (w_4 hE q93) h rfl hl.1 rfl (by first | exact lv_room (Nat.le_of_ble_eq_true rfl) | (refine lv_room ?_; simp [re_cat, cat_i, cat_l, cat_r])) dL_refused_171 ⟨Nat.le_refl _, Nat.le_refl _⟩) hS (fun r95 s94 H locs h hP hS => ?_)
                                  refine lv_iconst (v := (-1)) hx hb dL_refused_174 (by decide) ?_
                                  refine lv_icmp_ne (tgt := 372) hx hb dL_refused_175 (by decide) (fun c96 => ?_) (fun c96 => ?_)
                                  · replace h := h.2 c96
                                    refine lv_iconst (v := 0) hx hb dL_refused_372 (by decide) ?_
                                    exact W.zret hx hb hr rfl (fun t ht hW => ⟨⟨_, _, rfl, h, pw ht hP⟩, hS.F ht⟩) hS.2.2 dL_refused_373
                                  · replace h := h.1 c96
                                    refine r_aload_n hx hb dL_refused_178 rfl (lv_at hl 1 rfl) ?_
                                    refine lv_iload_n hx hb dL_refused_179 rfl (lv_at hl 0 rfl) ?_
                                    obtain ⟨k97, e98, q99, h⟩ := h
                                    refine f_i (kV (As := [.int t0]) (rest := []) e98 ⟨hx, hb, hml, hown, hts⟩ (c_X5_dyke l D cs ad k97 t0 s94 _ q99) (cwV 1 hts gL_refused_X5_dyke rfl rfl rfl (by decide +kernel) ⟨Nat.le_of_ble_eq_true rfl, Nat.le_of_ble_eq_true rfl⟩) hE hP rfl rfl (w_4 hE q99) h rfl hl.1 rfl (by first | exact lv_room (Nat.le_of_ble_eq_true rfl) | (refine lv_room ?_; simp [re_cat, cat_i, cat_l, cat_r])) dL_refused_180 ⟨Nat.le_refl _, Nat.le_refl _⟩) hS (fun r101 s100 H locs h hP hS => ?_)
                                    refine lv_iconst (v := (-1)) hx hb dL_refused_183 (by decide) ?_
                                    refine lv_icmp_ne (tgt := 372) hx hb dL_refused_184 (by decide) (fun c102 => ?_) (fun c102 => ?_)
                                    · replace h := h.2 c102
                                      refine lv_iconst (v := 0) hx hb dL_refused_372 (by decide) ?_
                                      exact W.zret hx hb hr rfl (fun t ht hW => ⟨⟨_, _, rfl, h, pw ht hP⟩, hS.F ht⟩) hS.2.2 dL_refused_373
                                    · replace h := h.1 c102
                                      refine r_aload_n hx hb dL_refused_187 rfl (lv_at hl 1 rfl) ?_
                                      refine lv_iload_n hx hb dL_refused_188 rfl (lv_at hl 0 rfl) ?_
                                      obtain ⟨k103, e104, q105, h⟩ := h
                                      refine f_i (kV (As := [.int t0]) (rest := []) e104 ⟨hx, hb, hml, hown, hts⟩ (c_X5_tuck l D cs ad k103 t0 s100 _ q105) (cwV 1 hts gL_refused_X5_tuck rfl rfl rfl (by decide +kernel) ⟨Nat.le_of_ble_eq_true rfl, Nat.le_of_ble_eq_true rfl⟩) hE hP rfl rfl (w_4 hE q105) h rfl hl.1 rfl (by first | exact lv_room (Nat.le_of_ble_eq_true rfl) | (refine lv_room ?_; simp [re_cat, cat_i, cat_l, cat_r])) dL_refused_189 ⟨Nat.le_refl _, Nat.le_refl _⟩) hS (fun r107 s106 H locs h hP hS => ?_)
                                      refine lv_iconst (v := (-1)) hx hb dL_refused_192 (by decide) ?_
                                      refine lv_icmp_ne (tgt := 372) hx hb dL_refused_193 (by decide) (fun c108 => ?_) (fun c108 => ?_)
                                      · replace h := h.2 c108
                                        refine lv_iconst (v := 0) hx hb dL_refused_372 (by decide) ?_
                                        exact W.zret hx hb hr rfl (fun t ht hW => ⟨⟨_, _, rfl, h, pw ht hP⟩, hS.F ht⟩) hS.2.2 dL_refused_373
                                      · replace h := h.1 c108
                                        refine r_aload_n hx hb dL_refused_196 rfl (lv_at hl 1 rfl) ?_
                                        refine lv_iload_n hx hb dL_refused_197 rfl (lv_at hl 0 rfl) ?_
                                        obtain ⟨k109, e110, q111, h⟩ := h
                                        refine f_i (kV (As := [.int t0]) (rest := []) e110 ⟨hx, hb, hml, hown, hts⟩ (c_X5_undo l D cs ad k109 t0 s106 _ q111) (cwV 1 hts gL_refused_X5_undo rfl rfl rfl (by decide +kernel) ⟨Nat.le_of_ble_eq_true rfl, Nat.le_of_ble_eq_true rfl⟩) hE hP rfl rfl (w_4 hE q111) h rfl hl.1 rfl (by first | exact lv_room (Nat.le_of_ble_eq_true rfl) | (refine lv_room ?_; simp [re_cat, cat_i, cat_l, cat_r])) dL_refused_198 ⟨Nat.le_refl _, Nat.le_refl _⟩) hS (fun r113 s112 H locs h hP hS => ?_)
                                        refine lv_iconst (v := (-1)) hx hb dL_refused_201 (by decide) ?_
                                        refine lv_icmp_ne (tgt := 372) hx hb dL_refused_202 (by decide) (fun c114 => ?_) (fun c114 => ?_)
                                        · replace h := h.2 c114
                                          refine lv_iconst (v := 0) hx hb dL_refused_372 (by decide) ?_
                                          exact W.zret hx hb hr rfl (fun t ht hW => ⟨⟨_, _, rfl, h, pw ht hP⟩, hS.F ht⟩) hS.2.2 dL_refused_373
                                        · replace h := h.1 c114
                                          refine r_aload_n hx hb dL_refused_205 rfl (lv_at hl 1 rfl) ?_
                                          refine lv_iload_n hx hb dL_refused_206 rfl (lv_at hl 0 rfl) ?_
                                          obtain ⟨k115, e116, q117, h⟩ := h
                                          refine f_i (kV (As := [.int t0]) (rest := []) e116 ⟨hx, hb, hml, hown, hts⟩ (c_X5_keep l D cs ad k115 t0 s112 _ q117) (cwV 1 hts gL_refused_X5_keep rfl rfl rfl (by decide +kernel) ⟨Nat.le_of_ble_eq_true rfl, Nat.le_of_ble_eq_true rfl⟩) hE hP rfl rfl (w_4 hE q117) h rfl hl.1 rfl (by first | exact lv_room (Nat.le_of_ble_eq_true rfl) | (refine lv_room ?_; simp [re_cat, cat_i, cat_l, cat_r])) dL_refused_207 ⟨Nat.le_refl _, Nat.le_refl _⟩) hS (fun r119 s118 H locs h hP hS => ?_)
                                          refine lv_iconst (v := (-1)) hx hb dL_refused_210 (by decide) ?_
                                          refine lv_icmp_ne (tgt := 372) hx hb dL_refused_211 (by decide) (fun c120 => ?_) (fun c120 => ?_)
                                          · replace h := h.2 c120
                                            refine lv_iconst (v := 0) hx hb dL_refused_372 (by decide) ?_
                                            exact W.zret hx hb hr rfl (fun t ht hW => ⟨⟨_, _, rfl, h, pw ht hP⟩, hS.F ht⟩) hS.2.2 dL_refused_373
                                          · replace h := h.1 c120
                                            refine r_aload_n hx hb dL_refused_214 rfl (lv_at hl 1 rfl) ?_
                                            refine lv_iload_n hx hb dL_refused_215 rfl (lv_at hl 0 rfl) ?_
                                            obtain ⟨k121, e122, q123, h⟩ := h
                                            refine f_i (kV (As := [.int t0]) (rest := []) e122 ⟨hx, hb, hml, hown, hts⟩ (c_X5_on l D cs ad k121 t0 s118 _ q123) (cwV 1 hts gL_refused_X5_on rfl rfl rfl (by decide +kernel) ⟨Nat.le_of_ble_eq_true rfl, Nat.le_of_ble_eq_true rfl⟩) hE hP rfl rfl (w_4 hE q123) h rfl hl.1 rfl (by first | exact lv_room (Nat.le_of_ble_eq_true rfl) | (refine lv_room ?_; simp [re_cat, cat_i, cat_l, cat_r])) dL_refused_216 ⟨Nat.le_refl _, Nat.le_refl _⟩) hS (fun r125 s124 H locs h hP hS => ?_)
                                            refine lv_iconst (v := (-1)) hx hb dL_refused_219 (by decide) ?_
                                            refine lv_icmp_ne (tgt := 372) hx hb dL_refused_220 (by decide) (fun c126 => ?_) (fun c126 => ?_)
                                            · replace h := h.2 c126
                                              refine lv_iconst (v := 0) hx hb dL_refused_372 (by decide) ?_
                                              exact W.zret hx hb hr rfl (fun t ht hW => ⟨⟨_, _, rfl, h, pw ht hP⟩, hS.F ht⟩) hS.2.2 dL_refused_373
                                            · replace h := h.1 c126
                                              refine r_aload_n hx hb dL_refused_223 rfl (lv_at hl 1 rfl) ?_
                                              refine lv_iload_n hx hb dL_refused_224 rfl (lv_at hl 0 rfl) ?_
                                              refine lv_iconst (v := 0) hx hb dL_refused_225 (by decide) ?_
                                              obtain ⟨k127, e128, q129, h⟩ := h
                                              refine f_i (kV (As := [.int t0, .int 0]) (rest := []) e128 ⟨hx, hb, hml, hown, hts⟩ (c_X5_know l D cs ad k127 t0 0 s124 _ q129) (cwV 2 hts gL_refused_X5_know rfl rfl rfl (by decide +kernel) ⟨Nat.le_of_ble_eq_true rfl, Nat.le_of_ble_eq_true rfl⟩) hE hP rfl rfl (w_4 hE q129) h rfl hl.1 rfl (by first | exact lv_room (Nat.le_of_ble_eq_true rfl) | (refine lv_room ?_; simp [re_cat, cat_i, cat_l, cat_r])) dL_refused_226 ⟨Nat.le_refl _, Nat.le_refl _⟩) hS (fun r131 s130 H locs h hP hS => ?_)
                                              refine lv_iconst (v := (-1)) hx hb dL_refused_229 (by decide) ?_
                                              refine lv_icmp_ne (tgt := 372) hx hb dL_refused_230 (by decide) (fun c132 => ?_) (fun c132 => ?_)
                                              · replace h := h.2 c132
                                                refine lv_iconst (v := 0) hx hb dL_refused_372 (by decide) ?_
                                                exact W.zret hx hb hr rfl (fun t ht hW => ⟨⟨_, _, rfl, h, pw ht hP⟩, hS.F ht⟩) hS.2.2 dL_refused_373
                                              · replace h := h.1 c132
                                                refine r_aload_n hx hb dL_refused_233 rfl (lv_at hl 1 rfl) ?_
                                                refine lv_iload_n hx hb dL_refused_234 rfl (lv_at hl 0 rfl) ?_
                                                obtain ⟨k133, e134, q135, h⟩ := h
                                                refine f_i (kV (As := [.int t0]) (rest := []) e134 ⟨hx, hb, hml, hown, hts⟩ (c_X5_high l D cs ad k133 t0 s130 _ q135) (cwV 1 hts gL_refused_X5_high rfl rfl rfl (by decide +kernel) ⟨Nat.le_of_ble_eq_true rfl, Nat.le_of_ble_eq_true rfl⟩) hE hP rfl rfl (w_4 hE q135) h rfl hl.1 rfl (by first | exact lv_room (Nat.le_of_ble_eq_true rfl) | (refine lv_room ?_; simp [re_cat, cat_i, cat_l, cat_r])) dL_refused_235 ⟨Nat.le_refl _, Nat.le_refl _⟩) hS (fun r137 s136 H locs h hP hS => ?_)
                                                refine lv_iconst (v := (-1)) hx hb dL_refused_238 (by decide) ?_
                                                refine lv_icmp_ne (tgt := 372) hx hb dL_refused_239 (by decide) (fun c138 => ?_) (fun c138 => ?_)
                                                · replace h := h.2 c138
                                                  refine lv_iconst (v := 0) hx hb dL_refused_372 (by decide) ?_
                                                  exact W.zret hx hb hr rfl (fun t ht hW => ⟨⟨_, _, rfl, h, pw ht hP⟩, hS.F ht⟩) hS.2.2 dL_refused_373
                                                · replace h := h.1 c138
                                                  refine r_aload_n hx hb dL_refused_242 rfl (lv_at hl 1 rfl) ?_
                                                  refine lv_iload_n hx hb dL_refused_243 rfl (lv_at hl 0 rfl) ?_
                                                  refine lv_iconst (v := 0) hx hb dL_refused_244 (by decide) ?_
                                                  obtain ⟨k139, e140, q141, h⟩ := h
                                                  refine f_i (kV (As := [.int t0, .int 0]) (rest := []) e140 ⟨hx, hb, hml, hown, hts⟩ (c_X5_look l D cs ad k139 t0 0 s136 _ q141) (cwV 2 hts gL_refused_X5_look rfl rfl rfl (by decide +kernel) ⟨Nat.le_of_ble_eq_true rfl, Nat.le_of_ble_eq_true rfl⟩) hE hP rfl rfl (w_4 hE q141) h rfl hl.1 rfl (by first | exact lv_room (Nat.le_of_ble_eq_true rfl) | (refine lv_room ?_; simp [re_cat, cat_i, cat_l, cat_r])) dL_refused_245 ⟨Nat.le_refl _, Nat.le_refl _⟩) hS (fun r143 s142 H locs h hP hS => ?_)
                                                  refine lv_iconst (v := (-1)) hx hb dL_refused_248 (by decide) ?_
                                                  refine lv_icmp_ne (tgt := 372) hx hb dL_refused_249 (by decide) (fun c144 => ?_) (fun c144 => ?_)
                                                  · replace h := h.2 c144
                                                    refine lv_iconst (v := 0) hx hb dL_refused_372 (by decide) ?_
                                                    exact W.zret hx hb hr rfl (fun t ht hW => ⟨⟨_, _, rfl, h, pw ht hP⟩, hS.F ht⟩) hS.2.2 dL_refused_373
                                                  · replace h := h.1 c144
                                                    refine r_aload_n hx hb dL_refused_252 rfl (lv_at hl 1 rfl) ?_
                                                    refine lv_iload_n hx hb dL_refused_253 rfl (lv_at hl 0 rfl) ?_
                                                    obtain ⟨k145, e146, q147, h⟩ := h
                                                    refine f_i (kV (As := [.int t0]) (rest := []) e146 ⟨hx, hb, hml, hown, hts⟩ (c_X5_looks l D cs ad k145 t0 s142 _ q147) (cwV 1 hts gL_refused_X5_looks rfl rfl rfl (by decide +kernel) ⟨Nat.le_of_ble_eq_true rfl, Nat.le_of_ble_eq_true rfl⟩) hE hP rfl rfl (w_4 hE q147) h rfl hl.1 rfl (by first | exact lv_room (Nat.le_of_ble_eq_true rfl) | (refine lv_room ?_; simp [re_cat, cat_i, cat_l, cat_r])) dL_refused_254 ⟨Nat.le_refl _, Nat.le_refl _⟩) hS (fun r149 s148 H locs h hP hS => ?_)
                                                    refine lv_iconst (v := (-1)) hx hb dL_refused_257 (by decide) ?_
                                                    refine lv_icmp_ne (tgt := 372) hx hb dL_refused_258 (by decide) (fun c150 => ?_) (fun c150 => ?_)
                                                    · replace h := h.2 c150
                                                      refine lv_iconst (v := 0) hx hb dL_refused_372 (by decide) ?_
                                                      exact W.zret hx hb hr rfl (fun t ht hW => ⟨⟨_, _, rfl, h, pw ht hP⟩, hS.F ht⟩) hS.2.2 dL_refused_373
                                                    · replace h := h.1 c150
                                                      refine r_aload_n hx hb dL_refused_261 rfl (lv_at hl 1 rfl) ?_
                                                      refine lv_iload_n hx hb dL_refused_262 rfl (lv_at hl 0 rfl) ?_
                                                      obtain ⟨k151, e152, q153, h⟩ := h
                                                      refine f_i (kV (As := [.int t0]) (rest := []) e152 ⟨hx, hb, hml, hown, hts⟩ (c_X5_line l D cs ad k151 t0 s148 _ q153) (cwV 1 hts gL_refused_X5_line rfl rfl rfl (by decide +kernel) ⟨Nat.le_of_ble_eq_true rfl, Nat.le_of_ble_eq_true rfl⟩) hE hP rfl rfl (w_4 hE q153) h rfl hl.1 rfl (by first | exact lv_room (Nat.le_of_ble_eq_true rfl) | (refine lv_room ?_; simp [re_cat, cat_i, cat_l, cat_r])) dL_refused_263 ⟨Nat.le_refl _, Nat.le_refl _⟩) hS (fun r155 s154 H locs h hP hS => ?_)
                                                      refine lv_iconst (v := (-1)) hx hb dL_refused_266 (by decide) ?_
                                                      refine lv_icmp_ne (tgt := 372) hx hb dL_refused_267 (by decide) (fun c156 => ?_) (fun c156 => ?_)
                                                      · replace h := h.2 c156
                                                        refine lv_iconst (v := 0) hx hb dL_refused_372 (by decide) ?_
                                                        exact W.zret hx hb hr rfl (fun t ht hW => ⟨⟨_, _, rfl, h, pw ht hP⟩, hS.F ht⟩) hS.2.2 dL_refused_373
                                                      · replace h := h.1 c156
                                                        refine r_aload_n hx hb dL_refused_270 rfl (lv_at hl 1 rfl) ?_
                                                        refine lv_iload_n hx hb dL_refused_271 rfl (lv_at hl 0 rfl) ?_
                                                        refine lv_iconst (v := 0) hx hb dL_refused_272 (by decide) ?_
                                                        obtain ⟨k157, e158, q159, h⟩ := h
                                                        refine f_i (kV (As := [.int t0, .int 0]) (rest := []) e158 ⟨hx, hb, hml, hown, hts⟩ (c_X5_kinds l D cs ad k157 t0 0 s154 _ q159) (cwV 2 hts gL_refused_X5_kinds rfl rfl rfl (by decide +kernel) ⟨Nat.le_of_ble_eq_true rfl, Nat.le_of_ble_eq_true rfl⟩) hE hP rfl rfl (w_4 hE q159) h rfl hl.1 rfl (by first | exact lv_room (Nat.le_of_ble_eq_true rfl) | (refine lv_room ?_; simp [re_cat, cat_i, cat_l, cat_r])) dL_refused_273 ⟨Nat.le_refl _, Nat.le_refl _⟩) hS (fun r161 s160 H locs h hP hS => ?_)
                                                        refine lv_iconst (v := (-1)) hx hb dL_refused_276 (by decide) ?_
                                                        refine lv_icmp_ne (tgt := 372) hx hb dL_refused_277 (by decide) (fun c162 => ?_) (fun c162 => ?_)
                                                        · replace h := h.2 c162
                                                          refine lv_iconst (v := 0) hx hb dL_refused_372 (by decide) ?_
                                                          exact W.zret hx hb hr rfl (fun t ht hW => ⟨⟨_, _, rfl, h, pw ht hP⟩, hS.F ht⟩) hS.2.2 dL_refused_373
                                                        · replace h := h.1 c162
                                                          refine r_aload_n hx hb dL_refused_280 rfl (lv_at hl 1 rfl) ?_
                                                          refine lv_iconst (v := 0) hx hb dL_refused_281 (by decide) ?_
                                                          refine lv_iload_n hx hb dL_refused_282 rfl (lv_at hl 0 rfl) ?_
                                                          obtain ⟨k163, e164, q165, h⟩ := h
                                                          refine f_i (kV (As := [.int 0, .int t0]) (rest := []) e164 ⟨hx, hb, hml, hown, hts⟩ (c_X5_test l D cs ad k163 0 t0 s160 _ q165) (cwV 2 hts gL_refused_X5_test rfl rfl rfl (by decide +kernel) ⟨Nat.le_of_ble_eq_true rfl, Nat.le_of_ble_eq_true rfl⟩) hE hP rfl rfl (w_4 hE q165) h rfl hl.1 rfl (by first | exact lv_room (Nat.le_of_ble_eq_true rfl) | (refine lv_room ?_; simp [re_cat, cat_i, cat_l, cat_r])) dL_refused_283 ⟨Nat.le_refl _, Nat.le_refl _⟩) hS (fun r167 s166 H locs h hP hS => ?_)
                                                          refine lv_iconst (v := (-1)) hx hb dL_refused_286 (by decide) ?_
                                                          refine lv_icmp_ne (tgt := 372) hx hb dL_refused_287 (by decide) (fun c168 => ?_) (fun c168 => ?_)
                                                          · replace h := h.2 c168
                                                            refine lv_iconst (v := 0) hx hb dL_refused_372 (by decide) ?_
                                                            exact W.zret hx hb hr rfl (fun t ht hW => ⟨⟨_, _, rfl, h, pw ht hP⟩, hS.F ht⟩) hS.2.2 dL_refused_373
                                                          · replace h := h.1 c168
                                                            refine r_aload_n hx hb dL_refused_290 rfl (lv_at hl 1 rfl) ?_
                                                            refine lv_iload_n hx hb dL_refused_291 rfl (lv_at hl 0 rfl) ?_
                                                            obtain ⟨k169, e170, q171, h⟩ := h
                                                            refine f_i (kV (As := [.int t0]) (rest := []) e170 ⟨hx, hb, hml, hown, hts⟩ (c_X5_whose l D cs ad k169 t0 s166 _ q171) (cwV 1 hts gL_refused_X5_whose rfl rfl rfl (by decide +kernel) ⟨Nat.le_of_ble_eq_true rfl, Nat.le_of_ble_eq_true rfl⟩) hE hP rfl rfl (w_4 hE q171) h rfl hl.1 rfl (by first | exact lv_room (Nat.le_of_ble_eq_true rfl) | (refine lv_room ?_; simp [re_cat, cat_i, cat_l, cat_r])) dL_refused_292 ⟨Nat.le_refl _, Nat.le_refl _⟩) hS (fun r173 s172 H locs h hP hS => ?_)
                                                            refine lv_iconst (v := (-1)) hx hb dL_refused_295 (by decide) ?_
                                                            refine lv_icmp_ne (tgt := 372) hx hb dL_refused_296 (by decide) (fun c174 => ?_) (fun c174 => ?_)
                                                            · replace h := h.2 c174
                                                              refine lv_iconst (v := 0) hx hb dL_refused_372 (by decide) ?_
                                                              exact W.zret hx hb hr rfl (fun t ht hW => ⟨⟨_, _, rfl, h, pw ht hP⟩, hS.F ht⟩) hS.2.2 dL_refused_373
                                                            · replace h := h.1 c174
                                                              refine r_aload_n hx hb dL_refused_299 rfl (lv_at hl 1 rfl) ?_
                                                              refine lv_iload_n hx hb dL_refused_300 rfl (lv_at hl 0 rfl) ?_
                                                              refine lv_iconst (v := 0) hx hb dL_refused_301 (by decide) ?_
                                                              refine lv_iconst (v := 0) hx hb dL_refused_302 (by decide) ?_
                                                              obtain ⟨k175, e176, q177, h⟩ := h
                                                              refine f_i (kV (As := [.int t0, .int 0, .int 0]) (rest := []) e176 ⟨hx, hb, hml, hown, hts⟩ (c_X5_raise l D cs ad k175 t0 0 0 s172 _ q177) (cwV 3 hts gL_refused_X5_raise rfl rfl rfl (by decide +kernel) ⟨Nat.le_of_ble_eq_true rfl, Nat.le_of_ble_eq_true rfl⟩) hE hP rfl rfl (w_4 hE q177) h rfl hl.1 rfl (by first | exact lv_room (Nat.le_of_ble_eq_true rfl) | (refine lv_room ?_; simp [re_cat, cat_i, cat_l, cat_r])) dL_refused_303 ⟨Nat.le_refl _, Nat.le_refl _⟩) hS (fun r179 s178 H locs h hP hS => ?_)
                                                              refine lv_iconst (v := (-1)) hx hb dL_refused_306 (by decide) ?_
                                                              refine lv_icmp_ne (tgt := 372) hx hb dL_refused_307 (by decide) (fun c180 => ?_) (fun c180 => ?_)
                                                              · replace h := h.2 c180
                                                                refine lv_iconst (v := 0) hx hb dL_refused_372 (by decide) ?_
                                                                exact W.zret hx hb hr rfl (fun t ht hW => ⟨⟨_, _, rfl, h, pw ht hP⟩, hS.F ht⟩) hS.2.2 dL_refused_373
                                                              · replace h := h.1 c180
                                                                refine r_aload_n hx hb dL_refused_310 rfl (lv_at hl 1 rfl) ?_
                                                                refine lv_iconst (v := 0) hx hb dL_refused_311 (by decide) ?_
                                                                refine lv_iconst (v := 0) hx hb dL_refused_312 (by decide) ?_
                                                                refine lv_iload_n hx hb dL_refused_313 rfl (lv_at hl 0 rfl) ?_
                                                                obtain ⟨k181, e182, q183, h⟩ := h
                                                                refine f_i (kV (As := [.int 0, .int 0, .int t0]) (rest := []) e182 ⟨hx, hb, hml, hown, hts⟩ (c_X5_least l D cs ad k181 0 0 t0 s178 _ q183) (cwV 3 hts gL_refused_X5_least rfl rfl rfl (by decide +kernel) ⟨Nat.le_of_ble_eq_true rfl, Nat.le_of_ble_eq_true rfl⟩) hE hP rfl rfl (w_4 hE q183) h rfl hl.1 rfl (by first | exact lv_room (Nat.le_of_ble_eq_true rfl) | (refine lv_room ?_; simp [re_cat, cat_i, cat_l, cat_r])) dL_refused_314 ⟨Nat.le_refl _, Nat.le_refl _⟩) hS (fun r185 s184 H locs h hP hS => ?_)
                                                                refine lv_iconst (v := (-1)) hx hb dL_refused_317 (by decide) ?_
                                                                refine lv_icmp_ne (tgt := 372) hx hb dL_refused_318 (by decide) (fun c186 => ?_) (fun c186 => ?_)
                                                                · replace h := h.2 c186
                                                                  refine lv_iconst (v := 0) hx hb dL_refused_372 (by decide) ?_
                                                                  exact W.zret hx hb hr rfl (fun t ht hW => ⟨⟨_, _, rfl, h, pw ht hP⟩, hS.F ht⟩) hS.2.2 dL_refused_373
                                                                · replace h := h.1 c186
                                                                  refine r_aload_n hx hb dL_refused_321 rfl (lv_at hl 1 rfl) ?_
                                                                  refine lv_iload_n hx hb dL_refused_322 rfl (lv_at hl 0 rfl) ?_
                                                                  refine lv_iconst (v := 0) hx hb dL_refused_323 (by decide) ?_
                                                                  obtain ⟨k187, e188, q189, h⟩ := h
                                                                  refine f_i (kV (As := [.int t0, .int 0]) (rest := []) e188 ⟨hx, hb, hml, hown, hts⟩ (c_X5_duel l D cs ad k187 t0 0 s184 _ q189) (cwV 2 hts gL_refused_X5_duel rfl rfl rfl (by decide +kernel) ⟨Nat.le_of_ble_eq_true rfl, Nat.le_of_ble_eq_true rfl⟩) hE hP rfl rfl (w_4 hE q189) h rfl hl.1 rfl (by first | exact lv_room (Nat.le_of_ble_eq_true rfl) | (refine lv_room ?_; simp [re_cat, cat_i, cat_l, cat_r])) dL_refused_324 ⟨Nat.le_refl _, Nat.le_refl _⟩) hS (fun r191 s190 H locs h hP hS => ?_)
                                                                  refine lv_iconst (v := (-1)) hx hb dL_refused_327 (by decide) ?_
                                                                  refine lv_icmp_ne (tgt := 372) hx hb dL_refused_328 (by decide) (fun c192 => ?_) (fun c192 => ?_)
                                                                  · replace h := h.2 c192
                                                                    refine lv_iconst (v := 0) hx hb dL_refused_372 (by decide) ?_
                                                                    exact W.zret hx hb hr rfl (fun t ht hW => ⟨⟨_, _, rfl, h, pw ht hP⟩, hS.F ht⟩) hS.2.2 dL_refused_373
                                                                  · replace h := h.1 c192
                                                                    refine r_aload_n hx hb dL_refused_331 rfl (lv_at hl 1 rfl) ?_
                                                                    refine lv_iload_n hx hb dL_refused_332 rfl (lv_at hl 0 rfl) ?_
                                                                    obtain ⟨k193, e194, q195, h⟩ := h
                                                                    refine f_i (kV (As := [.int t0]) (rest := []) e194 ⟨hx, hb, hml, hown, hts⟩ (c_X5_odds l D cs ad k193 t0 s190 _ q195) (cwV 1 hts gL_refused_X5_odds rfl rfl rfl (by decide +kernel) ⟨Nat.le_of_ble_eq_true rfl, Nat.le_of_ble_eq_true rfl⟩) hE hP rfl rfl (w_4 hE q195) h rfl hl.1 rfl (by first | exact lv_room (Nat.le_of_ble_eq_true rfl) | (refine lv_room ?_; simp [re_cat, cat_i, cat_l, cat_r])) dL_refused_333 ⟨Nat.le_refl _, Nat.le_refl _⟩) hS (fun r197 s196 H locs h hP hS => ?_)
                                                                    refine lv_iconst (v := (-1)) hx hb dL_refused_336 (by decide) ?_
                                                                    refine lv_icmp_ne (tgt := 372) hx hb dL_refused_337 (by decide) (fun c198 => ?_) (fun c198 => ?_)
                                                                    · replace h := h.2 c198
                                                                      refine lv_iconst (v := 0) hx hb dL_refused_372 (by decide) ?_
                                                                      exact W.zret hx hb hr rfl (fun t ht hW => ⟨⟨_, _, rfl, h, pw ht hP⟩, hS.F ht⟩) hS.2.2 dL_refused_373
                                                                    · replace h := h.1 c198
                                                                      refine r_aload_n hx hb dL_refused_340 rfl (lv_at hl 1 rfl) ?_
                                                                      refine lv_iload_n hx hb dL_refused_341 rfl (lv_at hl 0 rfl) ?_
                                                                      refine lv_iconst (v := 1) hx hb dL_refused_342 (by decide) ?_
                                                                      obtain ⟨k199, e200, q201, h⟩ := h
                                                                      refine f_i (kV (As := [.int t0, .int 1]) (rest := []) e200 ⟨hx, hb, hml, hown, hts⟩ (c_X5_lots l D cs ad k199 t0 1 s196 _ q201) (cwV 2 hts gL_refused_X5_lots rfl rfl rfl (by decide +kernel) ⟨Nat.le_of_ble_eq_true rfl, Nat.le_of_ble_eq_true rfl⟩) hE hP rfl rfl (w_4 hE q201) h rfl hl.1 rfl (by first | exact lv_room (Nat.le_of_ble_eq_true rfl) | (refine lv_room ?_; simp [re_cat, cat_i, cat_l, cat_r])) dL_refused_343 ⟨Nat.le_refl _, Nat.le_refl _⟩) hS (fun r203 s202 H locs h hP hS => ?_)
                                                                      refine lv_iconst (v := (-1)) hx hb dL_refused_346 (by decide) ?_
                                                                      refine lv_icmp_ne (tgt := 372) hx hb dL_refused_347 (by decide) (fun c204 => ?_) (fun c204 => ?_)
                                                                      · replace h := h.2 c204
                                                                        refine lv_iconst (v := 0) hx hb dL_refused_372 (by decide) ?_
                                                                        exact W.zret hx hb hr rfl (fun t ht hW => ⟨⟨_, _, rfl, h, pw ht hP⟩, hS.F ht⟩) hS.2.2 dL_refused_373
                                                                      · replace h := h.1 c204
                                                                        refine r_aload_n hx hb dL_refused_350 rfl (lv_at hl 1 rfl) ?_
                                                                        refine lv_iload_n hx hb dL_refused_351 rfl (lv_at hl 0 rfl) ?_
                                                                        obtain ⟨k205, e206, q207, h⟩ := h
                                                                        refine f_i (kV (As := [.int t0]) (rest := []) e206 ⟨hx, hb, hml, hown, hts⟩ (c_X5_count l D cs ad k205 t0 s202 _ q207) (cwV 1 hts gL_refused_X5_count rfl rfl rfl (by decide +kernel) ⟨Nat.le_of_ble_eq_true rfl, Nat.le_of_ble_eq_true rfl⟩) hE hP rfl rfl (w_4 hE q207) h rfl hl.1 rfl (by first | exact lv_room (Nat.le_of_ble_eq_true rfl) | (refine lv_room ?_; simp [re_cat, cat_i, cat_l, cat_r])) dL_refused_352 ⟨Nat.le_refl _, Nat.le_refl _⟩) hS (fun r209 s208 H locs h hP hS => ?_)
                                                                        refine lv_iconst (v := (-1)) hx hb dL_refused_355 (by decide) ?_
                                                                        refine lv_icmp_ne (tgt := 372) hx hb dL_refused_356 (by decide) (fun c210 => ?_) (fun c210 => ?_)
                                                                        · replace h := h.2 c210
                                                                          refine lv_iconst (v := 0) hx hb dL_refused_372 (by decide) ?_
                                                                          exact W.zret hx hb hr rfl (fun t ht hW => ⟨⟨_, _, rfl, h, pw ht hP⟩, hS.F ht⟩) hS.2.2 dL_refused_373
                                                                        · replace h := h.1 c210
                                                                          refine r_aload_n hx hb dL_refused_359 rfl (lv_at hl 1 rfl) ?_
                                                                          refine lv_iload_n hx hb dL_refused_360 rfl (lv_at hl 0 rfl) ?_
                                                                          obtain ⟨k211, e212, q213, h⟩ := h
                                                                          refine f_i (kV (As := [.int t0]) (rest := []) e212 ⟨hx, hb, hml, hown, hts⟩ (c_X5_findings l D cs ad k211 t0 s208 _ q213) (cwV 1 hts gL_refused_X5_findings rfl rfl rfl (by decide +kernel) ⟨Nat.le_of_ble_eq_true rfl, Nat.le_of_ble_eq_true rfl⟩) hE hP rfl rfl (w_4 hE q213) h rfl hl.1 rfl (by first | exact lv_room (Nat.le_of_ble_eq_true rfl) | (refine lv_room ?_; simp [re_cat, cat_i, cat_l, cat_r])) dL_refused_361 ⟨Nat.le_refl _, Nat.le_refl _⟩) hS (fun r215 s214 H locs h hP hS => ?_)
                                                                          refine lv_iconst (v := (-1)) hx hb dL_refused_364 (by decide) ?_
                                                                          refine lv_icmp_ne (tgt := 372) hx hb dL_refused_365 (by decide) (fun c216 => ?_) (fun c216 => ?_)
                                                                          · replace h := h.2 c216
                                                                            refine lv_iconst (v := 0) hx hb dL_refused_372 (by decide) ?_
                                                                            exact W.zret hx hb hr rfl (fun t ht hW => ⟨⟨_, _, rfl, h, pw ht hP⟩, hS.F ht⟩) hS.2.2 dL_refused_373
                                                                          · replace h := h.1 c216
                                                                            refine lv_iconst (v := 1) hx hb dL_refused_368 (by decide) ?_
                                                                            refine lv_goto (tgt := 373) hx hb dL_refused_369 (by decide) ?_
                                                                            exact W.zret hx hb hr rfl (fun t ht hW => ⟨⟨_, _, rfl, h, pw ht hP⟩, hS.F ht⟩) hS.2.2 dL_refused_373
  unfold p_L_refused at h
  refine lv_iload_n hx hb dL_refused_0 rfl (lv_at hl 1 rfl) ?_
  refine lv_if_ge (tgt := 12) hx hb dL_refused_1 (by decide) (fun c1 => ?_) (fun c1 => ?_)
  · replace h := h.1 c1
    refine lv_iload_n hx hb dL_refused_12 rfl (lv_at hl 1 rfl) ?_
    refine lv_sipush (v := 1000) hx hb dL_refused_13 (by decide) ?_
    refine lv_iadd hx hb dL_refused_16 ?_
    exact hB17 x0 (x1 + 1000) s0 _ _ ls h hP hS (lv_sub hl [0] rfl)
  · replace h := h.2 c1
    refine lv_iload_n hx hb dL_refused_4 rfl (lv_at hl 1 rfl) ?_
    refine lv_sipush (v := 999) hx hb dL_refused_5 (by decide) ?_
    refine lv_isub hx hb dL_refused_8 ?_
    refine lv_goto (tgt := 17) hx hb dL_refused_9 (by decide) ?_
    exact hB17 x0 (x1 - 999) s0 _ _ ls h hP hS (lv_sub hl [0] rfl)
set_option maxRecDepth 100000 in
def p_L_turn_b84 (Q : Int32 → Sg → Prop)  (x0 : Option Nat) (x2 : Int32) (s : Sg) : Prop := p_L_low x2 21 s (fun r2 s1 => ∃ k3, x0 = some k3 ∧ kX k3 = 4 ∧ p_X5_flood k3 r2 s1 (fun r7 s6 => Q r7 s6))
set_option maxRecDepth 100000 in
def p_L_turn (x0 : Option Nat) (x1 : Int32) (s : Sg) (Q : Int32 → Sg → Prop) : Prop := (((x1 &&& 15) = 0 → p_L_turn_b84 Q  x0 (x1 >>> (4 &&& 31)) s) ∧ (¬ (x1 &&& 15) = 0 → (((x1 &&& 15) = 1 → p_L_turn_b84 Q  x0 (x1 >>> (4 &&& 31)) s) ∧ (¬ (x1 &&& 15) = 1 → (((x1 &&& 15) = 2 → p_L_low (x1 >>> (4 &&& 31)) 5 s (fun r6 s5 => p_L_low ((x1 >>> (4 &&& 31)) >>> (3 &&& 31)) 6 s5 (fun r8 s7 => ∃ k9, x0 = some k9 ∧ kX k9 = 4 ∧ p_X5_move k9 r6 r8 s7 (fun r13 s12 => Q r13 s12)))) ∧ (¬ (x1 &&& 15) = 2 → (((x1 &&& 15) = 3 → p_L_low (x1 >>> (4 &&& 31)) 6 s (fun r16 s15 => ∃ k17, x0 = some k17 ∧ kX k17 = 4 ∧ p_X5_dyke k17 r16 s15 (fun r21 s20 => Q r21 s20))) ∧ (¬ (x1 &&& 15) = 3 → (((x1 &&& 15) = 4 → p_L_low (x1 >>> (4 &&& 31)) 5 s (fun r24 s23 => ∃ k25, x0 = some k25 ∧ kX k25 = 4 ∧ p_X5_tuck k25 r24 s23 (fun r29 s28 => Q r29 s28))) ∧ (¬ (x1 &&& 15) = 4 → (((x1 &&& 15) = 5 → ∃ k31, x0 = some k31 ∧ kX k31 = 4 ∧ p_X5_count k31 2 s (fun r35 s34 => p_L_low (x1 >>> (4 &&& 31)) 4 s34 (fun r37 s36 => ∃ k38, x0 = some k38 ∧ kX k38 = 4 ∧ p_X5_undo k38 (r35 - r37) s36 (fun r42 s41 => Q r42 s41)))) ∧ (¬ (x1 &&& 15) = 5 → (((x1 &&& 15) = 6 → ((((x1 >>> (4 &&& 31)) &&& 1) = 0 → ∃ k50, x0 = some k50 ∧ kX k50 = 4 ∧ p_X5_keep k50 (((x1 >>> (4 &&& 31)) >>> (1 &&& 31)) &&& 1) s (fun r54 s53 => Q r54 s53)) ∧ (¬ ((x1 >>> (4 &&& 31)) &&& 1) = 0 → ∃ k45, x0 = some k45 ∧ kX k45 = 4 ∧ p_X5_on k45 (((x1 >>> (4 &&& 31)) >>> (1 &&& 31)) &&& 1) s (fun r49 s48 => Q r49 s48)))) ∧ (¬ (x1 &&& 15) = 6 → (((x1 &&& 15) = 7 → ((((x1 >>> (4 &&& 31)) &&& 7) = 0 → p_L_delta x0 s (fun r65 s64 => ((r65 = 0 → Q 0 s64) ∧ (¬ r65 = 0 → Q 1 s64)))) ∧ (¬ ((x1 >>> (4 &&& 31)) &&& 7) = 0 → p_L_low ((x1 >>> (4 &&& 31)) >>> (4 &&& 31)) 5 s (fun r58 s57 => ∃ k59, x0 = some k59 ∧ kX k59 = 4 ∧ p_X5_row k59 (((x1 >>> (4 &&& 31)) >>> (3 &&& 31)) &&& 1) r58 s57 (fun r63 s62 => Q r63 s62))))) ∧ (¬ (x1 &&& 15) = 7 → (((x1 &&& 15) = 8 → p_L_low ((x1 >>> (4 &&& 31)) >>> (3 &&& 31)) 11 s (fun r69 s68 => ∃ k70, x0 = some k70 ∧ kX k70 = 4 ∧ p_X5_lay k70 ((x1 >>> (4 &&& 31)) &&& 1) (((x1 >>> (4 &&& 31)) >>> (1 &&& 31)) &&& 3) r69 s68 (fun r74 s73 => Q r74 s73))) ∧ (¬ (x1 &&& 15) = 8 → (((x1 &&& 15) = 9 → p_L_low (x1 >>> (4 &&& 31)) 5 s (fun r77 s76 => p_L_low ((x1 >>> (4 &&& 31)) >>> (3 &&& 31)) 5 s76 (fun r79 s78 => ∃ k80, x0 = some k80 ∧ kX k80 = 4 ∧ p_X5_mark k80 r77 (1 + r79) s78 (fun r84 s83 => Q r84 s83)))) ∧ (¬ (x1 &&& 15) = 9 → (((x1 &&& 15) = 10 → ((((x1 >>> (4 &&& 31)) &&& 1) = 0 → p_L_low ((x1 >>> (4 &&& 31)) >>> (1 &&& 31)) 32 s (fun r95 s94 => ∃ k96, x0 = some k96 ∧ kX k96 = 4 ∧ p_X5_know k96 r95 (((x1 >>> (4 &&& 31)) >>> (6 &&& 31)) &&& 3) s94 (fun r100 s99 => Q r100 s99))) ∧ (¬ ((x1 >>> (4 &&& 31)) &&& 1) = 0 → p_L_low ((x1 >>> (4 &&& 31)) >>> (1 &&& 31)) 32 s (fun r88 s87 => ∃ k89, x0 = some k89 ∧ kX k89 = 4 ∧ p_X5_look k89 r88 (((x1 >>> (4 &&& 31)) >>> (6 &&& 31)) &&& 3) s87 (fun r93 s92 => Q r93 s92))))) ∧ (¬ (x1 &&& 15) = 10 → (((x1 &&& 15) = 11 → ((((x1 >>> (4 &&& 31)) &&& 1) = 0 → ∃ k108, x0 = some k108 ∧ kX k108 = 4 ∧ p_X5_looks k108 (((x1 >>> (4 &&& 31)) >>> (1 &&& 31)) &&& 3) s (fun r112 s111 => Q r112 s111)) ∧ (¬ ((x1 >>> (4 &&& 31)) &&& 1) = 0 → ∃ k103, x0 = some k103 ∧ kX k103 = 4 ∧ p_X5_line k103 (((x1 >>> (4 &&& 31)) >>> (1 &&& 31)) &&& 3) s (fun r107 s106 => Q r107 s106)))) ∧ (¬ (x1 &&& 15) = 11 → (((x1 &&& 15) = 12 → ((((x1 >>> (4 &&& 31)) &&& 1) = 0 → p_L_low ((x1 >>> (4 &&& 31)) >>> (1 &&& 31)) 5 s (fun r123 s122 => ∃ k124, x0 = some k124 ∧ kX k124 = 4 ∧ p_X5_kinds k124 r123 (((x1 >>> (4 &&& 31)) >>> (4 &&& 31)) &&& 1) s122 (fun r128 s127 => Q r128 s127))) ∧ (¬ ((x1 >>> (4 &&& 31)) &&& 1) = 0 → p_L_low ((x1 >>> (4 &&& 31)) >>> (1 &&& 31)) 5 s (fun r116 s115 => ∃ k117, x0 = some k117 ∧ kX k117 = 4 ∧ p_X5_test k117 r116 (((x1 >>> (4 &&& 31)) >>> (4 &&& 31)) &&& 1) s115 (fun r121 s120 => Q r121 s120))))) ∧ (¬ (x1 &&& 15) = 12 → (((x1 &&& 15) = 13 → ((((x1 >>> (4 &&& 31)) &&& 1) = 0 → ∃ k140, x0 = some k140 ∧ kX k140 = 4 ∧ p_X5_whose k140 (((x1 >>> (4 &&& 31)) >>> (1 &&& 31)) &&& 1) s (fun r144 s143 => Q r144 s143)) ∧ (¬ ((x1 >>> (4 &&& 31)) &&& 1) = 0 → p_L_low ((x1 >>> (4 &&& 31)) >>> (1 &&& 31)) 3 s (fun r132 s131 => p_L_low ((x1 >>> (4 &&& 31)) >>> (3 &&& 31)) 21 s131 (fun r134 s133 => ∃ k135, x0 = some k135 ∧ kX k135 = 4 ∧ p_X5_duel k135 r132 r134 s133 (fun r139 s138 => Q r139 s138)))))) ∧ (¬ (x1 &&& 15) = 13 → (((x1 &&& 15) = 14 → ((((x1 >>> (4 &&& 31)) &&& 1) = 0 → p_L_low ((x1 >>> (4 &&& 31)) >>> (1 &&& 31)) 7 s (fun r153 s152 => ∃ k154, x0 = some k154 ∧ kX k154 = 4 ∧ p_X5_odds k154 r153 s152 (fun r158 s157 => Q r158 s157))) ∧ (¬ ((x1 >>> (4 &&& 31)) &&& 1) = 0 → ∃ k147, x0 = some k147 ∧ kX k147 = 4 ∧ p_X5_mid k147 s (fun r151 s150 => Q r151 s150)))) ∧ (¬ (x1 &&& 15) = 14 → ((((x1 >>> (4 &&& 31)) &&& 1) = 0 → p_L_low ((x1 >>> (4 &&& 31)) >>> (1 &&& 31)) 3 s (fun r172 s171 => ∃ k173, x0 = some k173 ∧ kX k173 = 4 ∧ p_X5_lots k173 (1 + r172) ((1 : Int32) + ((x1 >>> (4 &&& 31)) >>> (3 &&& 31))) s171 (fun r177 s176 => Q r177 s176))) ∧ (¬ ((x1 >>> (4 &&& 31)) &&& 1) = 0 → p_L_low ((x1 >>> (4 &&& 31)) >>> (1 &&& 31)) 5 s (fun r161 s160 => p_L_low ((x1 >>> (4 &&& 31)) >>> (4 &&& 31)) 21 s160 (fun r163 s162 => p_L_low ((x1 >>> (4 &&& 31)) >>> (9 &&& 31)) 6 s162 (fun r165 s164 => ∃ k166, x0 = some k166 ∧ kX k166 = 4 ∧ p_X5_least k166 r161 r163 r165 s164 (fun r170 s169 => Q r170 s169))))))))))))))))))))))))))))))))))))
set_option maxHeartbeats 4000000 in
set_option maxRecDepth 100000 in
theorem c_L_turn (l : Launch) (D : va_G) (cs : Cs) (ad : Nat → Nat) (x0 : Option Nat) (x1 : Int32) (s0 : Sg) (Q : Int32 → Sg → Prop) : Met l yL_turn wsL_turn { frames := 12, cells := 0, slots := 0, locals := 338 } (Pc0 bX D cs ad [va_re ad x0, .int x1] s0 (p_L_turn x0 x1 s0 Q)) (QI bX D cs ad Q) 0 0 (fAd bX ad) := by
  refine Met.ofW (cc := cL_turn) (maxL := 3) (ret := (some .int)) (by decide) rfl ?_
  intro p e s m args below meth c s₁ B0 hml hv
  obtain ⟨ha, hP, hE, h⟩ := hv
  have hx := B0.exec
  have hb := B0.bytes
  have hr := B0.returns
  have hts := atoms_spec (ws := wsL_turn) B0.pre
  have hown : s.vm.findClass RL = some m.cls := findClass_of_methodNamed B0.named
  have hlocks := B0.notSynchronized
  have hS : va_S (fAd bX ad) s.heap s.heap [] := va_S.rf
  have hl := lv_entry ([va_re ad x0, .int x1]) (n := 3) (by first | exact Nat.le_of_ble_eq_true rfl | simp [lg_sl, re_cat, cat_i, cat_l, cat_r])
  rw [show entryFrame m args 3 = entryFrame m ([va_re ad x0, .int x1] : List Value).toArray 3 by rw [ha], lg_entry_eq]
  generalize (lg_sl ([va_re ad x0, .int x1]) ++ List.replicate (3 - (lg_sl ([va_re ad x0, .int x1])).length) Slot.unset).toArray = ls at hl ⊢
  have hl : lv_has ls 3 [(0, va_re ad x0), (1, .int x1)] := by first | exact hl | simpa [lv_args, re_cat, cat_i, cat_l, cat_r] using hl
  have hB84 : ∀ (x0 : Option Nat) (x2 : Int32) (σ : Sg) (H : Heap) (locs : List Loc) (ls : Array Slot), p_L_turn_b84 Q  x0 x2 σ → va_P D vwCl (wl bX cs ad σ) H → va_S (fAd bX ad) s.heap H locs → lv_has ls 3 [(0, va_re ad x0), (2, .int x2)] → W p l e { frames := 12, cells := 0, slots := 0, locals := 338 } s m args below meth c H locs 0 0 (MQ below (QI bX D cs ad Q) args s 0 0 (fAd bX ad)) (F0 m 84 ls []) := by
    intro x0 x2 σ H locs ls h hP hS hl
    unfold p_L_turn_b84 at h
    refine r_aload_n hx hb dL_turn_84 rfl (lv_at hl 0 rfl) ?_
    refine lv_iload_n hx hb dL_turn_85 rfl (lv_at hl 1 rfl) ?_
    refine lv_bipush (v := 21) hx hb dL_turn_86 (by decide) ?_
    refine f_i (kS (As := [.int x2, .int 21]) (rest := [va_re ad x0]) ⟨hx, hb, hml, hown, hts⟩ (c_L_low l D cs ad x2 21 σ _) (va_cwS 2 hts gL_turn_L_low rfl rfl rfl (by decide +kernel) ⟨Nat.le_of_ble_eq_true rfl, Nat.le_of_ble_eq_true rfl⟩) hE hP h rfl hl.1 rfl (by first | exact lv_room (Nat.le_of_ble_eq_true rfl) | (refine lv_room ?_; simp [re_cat, cat_i, cat_l, cat_r])) dL_turn_88 ⟨Nat.le_refl _, Nat.le_refl _⟩) hS (fun r2 s1 H locs h hP hS => ?_)
    obtain ⟨k3, e4, q5, h⟩ := h
    refine f_i (kV (As := [.int r2]) (rest := []) e4 ⟨hx, hb, hml, hown, hts⟩ (c_X5_flood l D cs ad k3 r2 s1 _ q5) (cwV 1 hts gL_turn_X5_flood rfl rfl rfl (by decide +kernel) ⟨Nat.le_of_ble_eq_true rfl, Nat.le_of_ble_eq_true rfl⟩) hE hP rfl rfl (w_4 hE q5) h rfl hl.1 rfl (by first | exact lv_room (Nat.le_of_ble_eq_true rfl) | (refine lv_room ?_; simp [re_cat, cat_i, cat_l, cat_r])) dL_turn_91 ⟨Nat.le_refl _, Nat.le_refl _⟩) hS (fun r7 s6 H locs h hP hS => ?_)
    exact W.iret hx hb hr (fun t ht hW => ⟨⟨_, _, rfl, h, pw ht hP⟩, hS.F ht⟩) hS.2.2 dL_turn_94
  unfold p_L_turn at h
  refine lv_iload_n hx hb dL_turn_0 rfl (lv_at hl 1 rfl) ?_
  refine lv_iconst (v := 4) hx hb dL_turn_1 (by decide) ?_
  refine lv_ishr hx hb dL_turn_2 ?_
  refine lv_istore_n (i := 2) (lv' := [(2, .int (x1 >>> (4 &&& 31))), (0, va_re ad x0), (1, .int x1)]) hx hb dL_turn_3 rfl hl (by decide) (by first | rfl | simp [re_cat, cat_i, cat_l, cat_r]) (fun ls hl => ?_)
  refine lv_iload_n hx hb dL_turn_4 rfl (lv_at hl 2 rfl) ?_
  refine lv_bipush (v := 15) hx hb dL_turn_5 (by decide) ?_
  refine lv_iand hx hb dL_turn_7 ?_
  generalize hvv1 : x1 &&& 15 = v1 at h ⊢
  by_cases c2 : v1 = 0
  · replace h := h.1 c2
    refine lv_tableIn (off := 76) (tgt := 84) hx hb dL_turn_8 (by rw [c2]; decide) (by rw [c2]; decide) (by rw [c2]; decide) (by decide) ?_
    exact hB84 x0 (x1 >>> (4 &&& 31)) s0 _ _ ls h hP hS (lv_sub hl [1, 0] rfl)
  replace h := h.2 c2
  by_cases c3 : v1 = 1
  · replace h := h.1 c3
    refine lv_tableIn (off := 76) (tgt := 84) hx hb dL_turn_8 (by rw [c3]; decide) (by rw [c3]; decide) (by rw [c3]; decide) (by decide) ?_
    exact hB84 x0 (x1 >>> (4 &&& 31)) s0 _ _ ls h hP hS (lv_sub hl [1, 0] rfl)
  replace h := h.2 c3
  by_cases c4 : v1 = 2
  · replace h := h.1 c4
    refine lv_tableIn (off := 87) (tgt := 95) hx hb dL_turn_8 (by rw [c4]; decide) (by rw [c4]; decide) (by rw [c4]; decide) (by decide) ?_
    refine r_aload_n hx hb dL_turn_95 rfl (lv_at hl 1 rfl) ?_
    refine lv_iload_n hx hb dL_turn_96 rfl (lv_at hl 0 rfl) ?_
    refine lv_iconst (v := 5) hx hb dL_turn_97 (by decide) ?_
    refine f_i (kS (As := [.int (x1 >>> (4 &&& 31)), .int 5]) (rest := [va_re ad x0]) ⟨hx, hb, hml, hown, hts⟩ (c_L_low l D cs ad (x1 >>> (4 &&& 31)) 5 s0 _) (va_cwS 2 hts gL_turn_L_low rfl rfl rfl (by decide +kernel) ⟨Nat.le_of_ble_eq_true rfl, Nat.le_of_ble_eq_true rfl⟩) hE hP h rfl hl.1 rfl (by first | exact lv_room (Nat.le_of_ble_eq_true rfl) | (refine lv_room ?_; simp [re_cat, cat_i, cat_l, cat_r])) dL_turn_98 ⟨Nat.le_refl _, Nat.le_refl _⟩) hS (fun r6 s5 H locs h hP hS => ?_)
    refine lv_iload_n hx hb dL_turn_101 rfl (lv_at hl 0 rfl) ?_
    refine lv_iconst (v := 3) hx hb dL_turn_102 (by decide) ?_
    refine lv_ishr hx hb dL_turn_103 ?_
    refine lv_bipush (v := 6) hx hb dL_turn_104 (by decide) ?_
    refine f_i (kS (As := [.int ((x1 >>> (4 &&& 31)) >>> (3 &&& 31)), .int 6]) (rest := [.int r6, va_re ad x0]) ⟨hx, hb, hml, hown, hts⟩ (c_L_low l D cs ad ((x1 >>> (4 &&& 31)) >>> (3 &&& 31)) 6 s5 _) (va_cwS 2 hts gL_turn_L_low rfl rfl rfl (by decide +kernel) ⟨Nat.le_of_ble_eq_true rfl, Nat.le_of_ble_eq_true rfl⟩) hE hP h rfl hl.1 rfl (by first | exact lv_room (Nat.le_of_ble_eq_true rfl) | (refine lv_room ?_; simp [re_cat, cat_i, cat_l, cat_r])) dL_turn_106 ⟨Nat.le_refl _, Nat.le_refl _⟩) hS (fun r8 s7 H locs h hP hS => ?_)
    obtain ⟨k9, e10, q11, h⟩ := h
    refine f_i (kV (As := [.int r6, .int r8]) (rest := []) e10 ⟨hx, hb, hml, hown, hts⟩ (c_X5_move l D cs ad k9 r6 r8 s7 _ q11) (cwV 2 hts gL_turn_X5_move rfl rfl rfl (by decide +kernel) ⟨Nat.le_of_ble_eq_true rfl, Nat.le_of_ble_eq_true rfl⟩) hE hP rfl rfl (w_4 hE q11) h rfl hl.1 rfl (by first | exact lv_room (Nat.le_of_ble_eq_true rfl) | (refine lv_room ?_; simp [re_cat, cat_i, cat_l, cat_r])) dL_turn_109 ⟨Nat.le_refl _, Nat.le_refl _⟩) hS (fun r13 s12 H locs h hP hS => ?_)
    exact W.iret hx hb hr (fun t ht hW => ⟨⟨_, _, rfl, h, pw ht hP⟩, hS.F ht⟩) hS.2.2 dL_turn_112
  replace h := h.2 c4
  by_cases c14 : v1 = 3
  · replace h := h.1 c14
    refine lv_tableIn (off := 105) (tgt := 113) hx hb dL_turn_8 (by rw [c14]; decide) (by rw [c14]; decide) (by rw [c14]; decide) (by decide) ?_
    refine r_aload_n hx hb dL_turn_113 rfl (lv_at hl 1 rfl) ?_
    refine lv_iload_n hx hb dL_turn_114 rfl (lv_at hl 0 rfl) ?_
    refine lv_bipush (v := 6) hx hb dL_turn_115 (by decide) ?_
    refine f_i (kS (As := [.int (x1 >>> (4 &&& 31)), .int 6]) (rest := [va_re ad x0]) ⟨hx, hb, hml, hown, hts⟩ (c_L_low l D cs ad (x1 >>> (4 &&& 31)) 6 s0 _) (va_cwS 2 hts gL_turn_L_low rfl rfl rfl (by decide +kernel) ⟨Nat.le_of_ble_eq_true rfl, Nat.le_of_ble_eq_true rfl⟩) hE hP h rfl hl.1 rfl (by first | exact lv_room (Nat.le_of_ble_eq_true rfl) | (refine lv_room ?_; simp [re_cat, cat_i, cat_l, cat_r])) dL_turn_117 ⟨Nat.le_refl _, Nat.le_refl _⟩) hS (fun r16 s15 H locs h hP hS => ?_)
    obtain ⟨k17, e18, q19, h⟩ := h
    refine f_i (kV (As := [.int r16]) (rest := []) e18 ⟨hx, hb, hml, hown, hts⟩ (c_X5_dyke l D cs ad k17 r16 s15 _ q19) (cwV 1 hts gL_turn_X5_dyke rfl rfl rfl (by decide +kernel) ⟨Nat.le_of_ble_eq_true rfl, Nat.le_of_ble_eq_true rfl⟩) hE hP rfl rfl (w_4 hE q19) h rfl hl.1 rfl (by first | exact lv_room (Nat.le_of_ble_eq_true rfl) | (refine lv_room ?_; simp [re_cat, cat_i, cat_l, cat_r])) dL_turn_120 ⟨Nat.le_refl _, Nat.le_refl _⟩) hS (fun r21 s20 H locs h hP hS => ?_)
    exact W.iret hx hb hr (fun t ht hW => ⟨⟨_, _, rfl, h, pw ht hP⟩, hS.F ht⟩) hS.2.2 dL_turn_123
  replace h := h.2 c14
  by_cases c22 : v1 = 4
  · replace h := h.1 c22
    refine lv_tableIn (off := 116) (tgt := 124) hx hb dL_turn_8 (by rw [c22]; decide) (by rw [c22]; decide) (by rw [c22]; decide) (by decide) ?_
    refine r_aload_n hx hb dL_turn_124 rfl (lv_at hl 1 rfl) ?_
    refine lv_iload_n hx hb dL_turn_125 rfl (lv_at hl 0 rfl) ?_
    refine lv_iconst (v := 5) hx hb dL_turn_126 (by decide) ?_
    refine f_i (kS (As := [.int (x1 >>> (4 &&& 31)), .int 5]) (rest := [va_re ad x0]) ⟨hx, hb, hml, hown, hts⟩ (c_L_low l D cs ad (x1 >>> (4 &&& 31)) 5 s0 _) (va_cwS 2 hts gL_turn_L_low rfl rfl rfl (by decide +kernel) ⟨Nat.le_of_ble_eq_true rfl, Nat.le_of_ble_eq_true rfl⟩) hE hP h rfl hl.1 rfl (by first | exact lv_room (Nat.le_of_ble_eq_true rfl) | (refine lv_room ?_; simp [re_cat, cat_i, cat_l, cat_r])) dL_turn_127 ⟨Nat.le_refl _, Nat.le_refl _⟩) hS (fun r24 s23 H locs h hP hS => ?_)
    obtain ⟨k25, e26, q27, h⟩ := h
    refine f_i (kV (As := [.int r24]) (rest := []) e26 ⟨hx, hb, hml, hown, hts⟩ (c_X5_tuck l D cs ad k25 r24 s23 _ q27) (cwV 1 hts gL_turn_X5_tuck rfl rfl rfl (by decide +kernel) ⟨Nat.le_of_ble_eq_true rfl, Nat.le_of_ble_eq_true rfl⟩) hE hP rfl rfl (w_4 hE q27) h rfl hl.1 rfl (by first | exact lv_room (Nat.le_of_ble_eq_true rfl) | (refine lv_room ?_; simp [re_cat, cat_i, cat_l, cat_r])) dL_turn_130 ⟨Nat.le_refl _, Nat.le_refl _⟩) hS (fun r29 s28 H locs h hP hS => ?_)
    exact W.iret hx hb hr (fun t ht hW => ⟨⟨_, _, rfl, h, pw ht hP⟩, hS.F ht⟩) hS.2.2 dL_turn_133
  replace h := h.2 c22
  by_cases c30 : v1 = 5
  · replace h := h.1 c30
    refine lv_tableIn (off := 126) (tgt := 134) hx hb dL_turn_8 (by rw [c30]; decide) (by rw [c30]; decide) (by rw [c30]; decide) (by decide) ?_
    refine r_aload_n hx hb dL_turn_134 rfl (lv_at hl 1 rfl) ?_
    refine r_aload_n hx hb dL_turn_135 rfl (lv_at hl 1 rfl) ?_
    refine lv_iconst (v := 2) hx hb dL_turn_136 (by decide) ?_
    obtain ⟨k31, e32, q33, h⟩ := h
    refine f_i (kV (As := [.int 2]) (rest := [va_re ad x0]) e32 ⟨hx, hb, hml, hown, hts⟩ (c_X5_count l D cs ad k31 2 s0 _ q33) (cwV 1 hts gL_turn_X5_count rfl rfl rfl (by decide +kernel) ⟨Nat.le_of_ble_eq_true rfl, Nat.le_of_ble_eq_true rfl⟩) hE hP rfl rfl (w_4 hE q33) h rfl hl.1 rfl (by first | exact lv_room (Nat.le_of_ble_eq_true rfl) | (refine lv_room ?_; simp [re_cat, cat_i, cat_l, cat_r])) dL_turn_137 ⟨Nat.le_refl _, Nat.le_refl _⟩) hS (fun r35 s34 H locs h hP hS => ?_)
    refine lv_iload_n hx hb dL_turn_140 rfl (lv_at hl 0 rfl) ?_
    refine lv_iconst (v := 4) hx hb dL_turn_141 (by decide) ?_
    refine f_i (kS (As := [.int (x1 >>> (4 &&& 31)), .int 4]) (rest := [.int r35, va_re ad x0]) ⟨hx, hb, hml, hown, hts⟩ (c_L_low l D cs ad (x1 >>> (4 &&& 31)) 4 s34 _) (va_cwS 2 hts gL_turn_L_low rfl rfl rfl (by decide +kernel) ⟨Nat.le_of_ble_eq_true rfl, Nat.le_of_ble_eq_true rfl⟩) hE hP h rfl hl.1 rfl (by first | exact lv_room (Nat.le_of_ble_eq_true rfl) | (refine lv_room ?_; simp [re_cat, cat_i, cat_l, cat_r])) dL_turn_142 ⟨Nat.le_refl _, Nat.le_refl _⟩) hS (fun r37 s36 H locs h hP hS => ?_)
    refine lv_isub hx hb dL_turn_145 ?_
    obtain ⟨k38, e39, q40, h⟩ := h
    refine f_i (kV (As := [.int (r35 - r37)]) (rest := []) e39 ⟨hx, hb, hml, hown, hts⟩ (c_X5_undo l D cs ad k38 (r35 - r37) s36 _ q40) (cwV 1 hts gL_turn_X5_undo rfl rfl rfl (by decide +kernel) ⟨Nat.le_of_ble_eq_true rfl, Nat.le_of_ble_eq_true rfl⟩) hE hP rfl rfl (w_4 hE q40) h rfl hl.1 rfl (by first | exact lv_room (Nat.le_of_ble_eq_true rfl) | (refine lv_room ?_; simp [re_cat, cat_i, cat_l, cat_r])) dL_turn_146 ⟨Nat.le_refl _, Nat.le_refl _⟩) hS (fun r42 s41 H locs h hP hS => ?_)
    exact W.iret hx hb hr (fun t ht hW => ⟨⟨_, _, rfl, h, pw ht hP⟩, hS.F ht⟩) hS.2.2 dL_turn_149
  replace h := h.2 c30
  by_cases c43 : v1 = 6
  · replace h := h.1 c43
    refine lv_tableIn (off := 142) (tgt := 150) hx hb dL_turn_8 (by rw [c43]; decide) (by rw [c43]; decide) (by rw [c43]; decide) (by decide) ?_
    refine lv_iload_n hx hb dL_turn_150 rfl (lv_at hl 0 rfl) ?_
    refine lv_iconst (v := 1) hx hb dL_turn_151 (by decide) ?_
    refine lv_iand hx hb dL_turn_152 ?_
    refine lv_if_ne (tgt := 168) hx hb dL_turn_153 (by decide) (fun c44 => ?_) (fun c44 => ?_)
    · replace h := h.2 c44
      refine r_aload_n hx hb dL_turn_168 rfl (lv_at hl 1 rfl) ?_
      refine lv_iload_n hx hb dL_turn_169 rfl (lv_at hl 0 rfl) ?_
      refine lv_iconst (v := 1) hx hb dL_turn_170 (by decide) ?_
      refine lv_ishr hx hb dL_turn_171 ?_
      refine lv_iconst (v := 1) hx hb dL_turn_172 (by decide) ?_
      refine lv_iand hx hb dL_turn_173 ?_
      obtain ⟨k45, e46, q47, h⟩ := h
      refine f_i (kV (As := [.int (((x1 >>> (4 &&& 31)) >>> (1 &&& 31)) &&& 1)]) (rest := []) e46 ⟨hx, hb, hml, hown, hts⟩ (c_X5_on l D cs ad k45 (((x1 >>> (4 &&& 31)) >>> (1 &&& 31)) &&& 1) s0 _ q47) (cwV 1 hts gL_turn_X5_on rfl rfl rfl (by decide +kernel) ⟨Nat.le_of_ble_eq_true rfl, Nat.le_of_ble_eq_true rfl⟩) hE hP rfl rfl (w_4 hE q47) h rfl hl.1 rfl (by first | exact lv_room (Nat.le_of_ble_eq_true rfl) | (refine lv_room ?_; simp [re_cat, cat_i, cat_l, cat_r])) dL_turn_174 ⟨Nat.le_refl _, Nat.le_refl _⟩) hS (fun r49 s48 H locs h hP hS => ?_)
      exact W.iret hx hb hr (fun t ht hW => ⟨⟨_, _, rfl, h, pw ht hP⟩, hS.F ht⟩) hS.2.2 dL_turn_177
    · replace h := h.1 c44
      refine r_aload_n hx hb dL_turn_156 rfl (lv_at hl 1 rfl) ?_
      refine lv_iload_n hx hb dL_turn_157 rfl (lv_at hl 0 rfl) ?_
      refine lv_iconst (v := 1) hx hb dL_turn_158 (by decide) ?_
      refine lv_ishr hx hb dL_turn_159 ?_
      refine lv_iconst (v := 1) hx hb dL_turn_160 (by decide) ?_
      refine lv_iand hx hb dL_turn_161 ?_
      obtain ⟨k50, e51, q52, h⟩ := h
      refine f_i (kV (As := [.int (((x1 >>> (4 &&& 31)) >>> (1 &&& 31)) &&& 1)]) (rest := []) e51 ⟨hx, hb, hml, hown, hts⟩ (c_X5_keep l D cs ad k50 (((x1 >>> (4 &&& 31)) >>> (1 &&& 31)) &&& 1) s0 _ q52) (cwV 1 hts gL_turn_X5_keep rfl rfl rfl (by decide +kernel) ⟨Nat.le_of_ble_eq_true rfl, Nat.le_of_ble_eq_true rfl⟩) hE hP rfl rfl (w_4 hE q52) h rfl hl.1 rfl (by first | exact lv_room (Nat.le_of_ble_eq_true rfl) | (refine lv_room ?_; simp [re_cat, cat_i, cat_l, cat_r])) dL_turn_162 ⟨Nat.le_refl _, Nat.le_refl _⟩) hS (fun r54 s53 H locs h hP hS => ?_)
      refine lv_goto (tgt := 177) hx hb dL_turn_165 (by decide) ?_
      exact W.iret hx hb hr (fun t ht hW => ⟨⟨_, _, rfl, h, pw ht hP⟩, hS.F ht⟩) hS.2.2 dL_turn_177
  replace h := h.2 c43
  by_cases c55 : v1 = 7
  · replace h := h.1 c55
    refine lv_tableIn (off := 170) (tgt := 178) hx hb dL_turn_8 (by rw [c55]; decide) (by rw [c55]; decide) (by rw [c55]; decide) (by decide) ?_
    refine lv_iload_n hx hb dL_turn_178 rfl (lv_at hl 0 rfl) ?_
    refine lv_bipush (v := 7) hx hb dL_turn_179 (by decide) ?_
    refine lv_iand hx hb dL_turn_181 ?_
    refine lv_if_ne (tgt := 200) hx hb dL_turn_182 (by decide) (fun c56 => ?_) (fun c56 => ?_)
    · replace h := h.2 c56
      refine r_aload_n hx hb dL_turn_200 rfl (lv_at hl 1 rfl) ?_
      refine lv_iload_n hx hb dL_turn_201 rfl (lv_at hl 0 rfl) ?_
      refine lv_iconst (v := 3) hx hb dL_turn_202 (by decide) ?_
      refine lv_ishr hx hb dL_turn_203 ?_
      refine lv_iconst (v := 1) hx hb dL_turn_204 (by decide) ?_
      refine lv_iand hx hb dL_turn_205 ?_
      refine lv_iload_n hx hb dL_turn_206 rfl (lv_at hl 0 rfl) ?_
      refine lv_iconst (v := 4) hx hb dL_turn_207 (by decide) ?_
      refine lv_ishr hx hb dL_turn_208 ?_
      refine lv_iconst (v := 5) hx hb dL_turn_209 (by decide) ?_
      refine f_i (kS (As := [.int ((x1 >>> (4 &&& 31)) >>> (4 &&& 31)), .int 5]) (rest := [.int (((x1 >>> (4 &&& 31)) >>> (3 &&& 31)) &&& 1), va_re ad x0]) ⟨hx, hb, hml, hown, hts⟩ (c_L_low l D cs ad ((x1 >>> (4 &&& 31)) >>> (4 &&& 31)) 5 s0 _) (va_cwS 2 hts gL_turn_L_low rfl rfl rfl (by decide +kernel) ⟨Nat.le_of_ble_eq_true rfl, Nat.le_of_ble_eq_true rfl⟩) hE hP h rfl hl.1 rfl (by first | exact lv_room (Nat.le_of_ble_eq_true rfl) | (refine lv_room ?_; simp [re_cat, cat_i, cat_l, cat_r])) dL_turn_210 ⟨Nat.le_refl _, Nat.le_refl _⟩) hS (fun r58 s57 H locs h hP hS => ?_)
      obtain ⟨k59, e60, q61, h⟩ := h
      refine f_i (kV (As := [.int (((x1 >>> (4 &&& 31)) >>> (3 &&& 31)) &&& 1), .int r58]) (rest := []) e60 ⟨hx, hb, hml, hown, hts⟩ (c_X5_row l D cs ad k59 (((x1 >>> (4 &&& 31)) >>> (3 &&& 31)) &&& 1) r58 s57 _ q61) (cwV 2 hts gL_turn_X5_row rfl rfl rfl (by decide +kernel) ⟨Nat.le_of_ble_eq_true rfl, Nat.le_of_ble_eq_true rfl⟩) hE hP rfl rfl (w_4 hE q61) h rfl hl.1 rfl (by first | exact lv_room (Nat.le_of_ble_eq_true rfl) | (refine lv_room ?_; simp [re_cat, cat_i, cat_l, cat_r])) dL_turn_213 ⟨Nat.le_refl _, Nat.le_refl _⟩) hS (fun r63 s62 H locs h hP hS => ?_)
      exact W.iret hx hb hr (fun t ht hW => ⟨⟨_, _, rfl, h, pw ht hP⟩, hS.F ht⟩) hS.2.2 dL_turn_216
    · replace h := h.1 c56
      refine r_aload_n hx hb dL_turn_185 rfl (lv_at hl 1 rfl) ?_
      refine f_i (kS (As := [va_re ad x0]) (rest := []) ⟨hx, hb, hml, hown, hts⟩ (c_L_delta l D cs ad x0 s0 _) (va_cwS 1 hts gL_turn_L_delta rfl rfl rfl (by decide +kernel) ⟨Nat.le_of_ble_eq_true rfl, Nat.le_of_ble_eq_true rfl⟩) hE hP h rfl hl.1 rfl (by first | exact lv_room (Nat.le_of_ble_eq_true rfl) | (refine lv_room ?_; simp [re_cat, cat_i, cat_l, cat_r])) dL_turn_186 ⟨Nat.le_refl _, Nat.le_refl _⟩) hS (fun r65 s64 H locs h hP hS => ?_)
      refine lv_if_eq (tgt := 196) hx hb dL_turn_189 (by decide) (fun c66 => ?_) (fun c66 => ?_)
      · replace h := h.1 c66
        refine lv_iconst (v := 0) hx hb dL_turn_196 (by decide) ?_
        refine lv_goto (tgt := 216) hx hb dL_turn_197 (by decide) ?_
        exact W.iret hx hb hr (fun t ht hW => ⟨⟨_, _, rfl, h, pw ht hP⟩, hS.F ht⟩) hS.2.2 dL_turn_216
      · replace h := h.2 c66
        refine lv_iconst (v := 1) hx hb dL_turn_192 (by decide) ?_
        refine lv_goto (tgt := 216) hx hb dL_turn_193 (by decide) ?_
        exact W.iret hx hb hr (fun t ht hW => ⟨⟨_, _, rfl, h, pw ht hP⟩, hS.F ht⟩) hS.2.2 dL_turn_216
  replace h := h.2 c55
  by_cases c67 : v1 = 8
  · replace h := h.1 c67
    refine lv_tableIn (off := 209) (tgt := 217) hx hb dL_turn_8 (by rw [c67]; decide) (by rw [c67]; decide) (by rw [c67]; decide) (by decide) ?_
    refine r_aload_n hx hb dL_turn_217 rfl (lv_at hl 1 rfl) ?_
    refine lv_iload_n hx hb dL_turn_218 rfl (lv_at hl 0 rfl) ?_
    refine lv_iconst (v := 1) hx hb dL_turn_219 (by decide) ?_
    refine lv_iand hx hb dL_turn_220 ?_
    refine lv_iload_n hx hb dL_turn_221 rfl (lv_at hl 0 rfl) ?_
    refine lv_iconst (v := 1) hx hb dL_turn_222 (by decide) ?_
    refine lv_ishr hx hb dL_turn_223 ?_
    refine lv_iconst (v := 3) hx hb dL_turn_224 (by decide) ?_
    refine lv_iand hx hb dL_turn_225 ?_
    refine lv_iload_n hx hb dL_turn_226 rfl (lv_at hl 0 rfl) ?_
    refine lv_iconst (v := 3) hx hb dL_turn_227 (by decide) ?_
    refine lv_ishr hx hb dL_turn_228 ?_
    refine lv_bipush (v := 11) hx hb dL_turn_229 (by decide) ?_
    refine f_i (kS (As := [.int ((x1 >>> (4 &&& 31)) >>> (3 &&& 31)), .int 11]) (rest := [.int (((x1 >>> (4 &&& 31)) >>> (1 &&& 31)) &&& 3), .int ((x1 >>> (4 &&& 31)) &&& 1), va_re ad x0]) ⟨hx, hb, hml, hown, hts⟩ (c_L_low l D cs ad ((x1 >>> (4 &&& 31)) >>> (3 &&& 31)) 11 s0 _) (va_cwS 2 hts gL_turn_L_low rfl rfl rfl (by decide +kernel) ⟨Nat.le_of_ble_eq_true rfl, Nat.le_of_ble_eq_true rfl⟩) hE hP h rfl hl.1 rfl (by first | exact lv_room (Nat.le_of_ble_eq_true rfl) | (refine lv_room ?_; simp [re_cat, cat_i, cat_l, cat_r])) dL_turn_231 ⟨Nat.le_refl _, Nat.le_refl _⟩) hS (fun r69 s68 H locs h hP hS => ?_)
    obtain ⟨k70, e71, q72, h⟩ := h
    refine f_i (kV (As := [.int ((x1 >>> (4 &&& 31)) &&& 1), .int (((x1 >>> (4 &&& 31)) >>> (1 &&& 31)) &&& 3), .int r69]) (rest := []) e71 ⟨hx, hb, hml, hown, hts⟩ (c_X5_lay l D cs ad k70 ((x1 >>> (4 &&& 31)) &&& 1) (((x1 >>> (4 &&& 31)) >>> (1 &&& 31)) &&& 3) r69 s68 _ q72) (cwV 3 hts gL_turn_X5_lay rfl rfl rfl (by decide +kernel) ⟨Nat.le_of_ble_eq_true rfl, Nat.le_of_ble_eq_true rfl⟩) hE hP rfl rfl (w_4 hE q72) h rfl hl.1 rfl (by first | exact lv_room (Nat.le_of_ble_eq_true rfl) | (refine lv_room ?_; simp [re_cat, cat_i, cat_l, cat_r])) dL_turn_234 ⟨Nat.le_refl _, Nat.le_refl _⟩) hS (fun r74 s73 H locs h hP hS => ?_)
    exact W.iret hx hb hr (fun t ht hW => ⟨⟨_, _, rfl, h, pw ht hP⟩, hS.F ht⟩) hS.2.2 dL_turn_237
  replace h := h.2 c67
  by_cases c75 : v1 = 9
  · replace h := h.1 c75
    refine lv_tableIn (off := 230) (tgt := 238) hx hb dL_turn_8 (by rw [c75]; decide) (by rw [c75]; decide) (by rw [c75]; decide) (by decide) ?_
    refine r_aload_n hx hb dL_turn_238 rfl (lv_at hl 1 rfl) ?_
    refine lv_iload_n hx hb dL_turn_239 rfl (lv_at hl 0 rfl) ?_
    refine lv_iconst (v := 5) hx hb dL_turn_240 (by decide) ?_
    refine f_i (kS (As := [.int (x1 >>> (4 &&& 31)), .int 5]) (rest := [va_re ad x0]) ⟨hx, hb, hml, hown, hts⟩ (c_L_low l D cs ad (x1 >>> (4 &&& 31)) 5 s0 _) (va_cwS 2 hts gL_turn_L_low rfl rfl rfl (by decide +kernel) ⟨Nat.le_of_ble_eq_true rfl, Nat.le_of_ble_eq_true rfl⟩) hE hP h rfl hl.1 rfl (by first | exact lv_room (Nat.le_of_ble_eq_true rfl) | (refine lv_room ?_; simp [re_cat, cat_i, cat_l, cat_r])) dL_turn_241 ⟨Nat.le_refl _, Nat.le_refl _⟩) hS (fun r77 s76 H locs h hP hS => ?_)
    refine lv_iconst (v := 1) hx hb dL_turn_244 (by decide) ?_
    refine lv_iload_n hx hb dL_turn_245 rfl (lv_at hl 0 rfl) ?_
    refine lv_iconst (v := 3) hx hb dL_turn_246 (by decide) ?_
    refine lv_ishr hx hb dL_turn_247 ?_
    refine lv_iconst (v := 5) hx hb dL_turn_248 (by decide) ?_
    refine f_i (kS (As := [.int ((x1 >>> (4 &&& 31)) >>> (3 &&& 31)), .int 5]) (rest := [.int 1, .int r77, va_re ad x0]) ⟨hx, hb, hml, hown, hts⟩ (c_L_low l D cs ad ((x1 >>> (4 &&& 31)) >>> (3 &&& 31)) 5 s76 _) (va_cwS 2 hts gL_turn_L_low rfl rfl rfl (by decide +kernel) ⟨Nat.le_of_ble_eq_true rfl, Nat.le_of_ble_eq_true rfl⟩) hE hP h rfl hl.1 rfl (by first | exact lv_room (Nat.le_of_ble_eq_true rfl) | (refine lv_room ?_; simp [re_cat, cat_i, cat_l, cat_r])) dL_turn_249 ⟨Nat.le_refl _, Nat.le_refl _⟩) hS (fun r79 s78 H locs h hP hS => ?_)
    refine lv_iadd hx hb dL_turn_252 ?_
    obtain ⟨k80, e81, q82, h⟩ := h
    refine f_i (kV (As := [.int r77, .int (1 + r79)]) (rest := []) e81 ⟨hx, hb, hml, hown, hts⟩ (c_X5_mark l D cs ad k80 r77 (1 + r79) s78 _ q82) (cwV 2 hts gL_turn_X5_mark rfl rfl rfl (by decide +kernel) ⟨Nat.le_of_ble_eq_true rfl, Nat.le_of_ble_eq_true rfl⟩) hE hP rfl rfl (w_4 hE q82) h rfl hl.1 rfl (by first | exact lv_room (Nat.le_of_ble_eq_true rfl) | (refine lv_room ?_; simp [re_cat, cat_i, cat_l, cat_r])) dL_turn_253 ⟨Nat.le_refl _, Nat.le_refl _⟩) hS (fun r84 s83 H locs h hP hS => ?_)
    exact W.iret hx hb hr (fun t ht hW => ⟨⟨_, _, rfl, h, pw ht hP⟩, hS.F ht⟩) hS.2.2 dL_turn_256
  replace h := h.2 c75
  by_cases c85 : v1 = 10
  · replace h := h.1 c85
    refine lv_tableIn (off := 249) (tgt := 257) hx hb dL_turn_8 (by rw [c85]; decide) (by rw [c85]; decide) (by rw [c85]; decide) (by decide) ?_
    refine lv_iload_n hx hb dL_turn_257 rfl (lv_at hl 0 rfl) ?_
    refine lv_iconst (v := 1) hx hb dL_turn_258 (by decide) ?_
    refine lv_iand hx hb dL_turn_259 ?_
    refine lv_if_ne (tgt := 284) hx hb dL_turn_260 (by decide) (fun c86 => ?_) (fun c86 => ?_)
    · replace h := h.2 c86
      refine r_aload_n hx hb dL_turn_284 rfl (lv_at hl 1 rfl) ?_
      refine lv_iload_n hx hb dL_turn_285 rfl (lv_at hl 0 rfl) ?_
      refine lv_iconst (v := 1) hx hb dL_turn_286 (by decide) ?_
      refine lv_ishr hx hb dL_turn_287 ?_
      refine lv_bipush (v := 32) hx hb dL_turn_288 (by decide) ?_
      refine f_i (kS (As := [.int ((x1 >>> (4 &&& 31)) >>> (1 &&& 31)), .int 32]) (rest := [va_re ad x0]) ⟨hx, hb, hml, hown, hts⟩ (c_L_low l D cs ad ((x1 >>> (4 &&& 31)) >>> (1 &&& 31)) 32 s0 _) (va_cwS 2 hts gL_turn_L_low rfl rfl rfl (by decide +kernel) ⟨Nat.le_of_ble_eq_true rfl, Nat.le_of_ble_eq_true rfl⟩) hE hP h rfl hl.1 rfl (by first | exact lv_room (Nat.le_of_ble_eq_true rfl) | (refine lv_room ?_; simp [re_cat, cat_i, cat_l, cat_r])) dL_turn_290 ⟨Nat.le_refl _, Nat.le_refl _⟩) hS (fun r88 s87 H locs h hP hS => ?_)
      refine lv_iload_n hx hb dL_turn_293 rfl (lv_at hl 0 rfl) ?_
      refine lv_bipush (v := 6) hx hb dL_turn_294 (by decide) ?_
      refine lv_ishr hx hb dL_turn_296 ?_
      refine lv_iconst (v := 3) hx hb dL_turn_297 (by decide) ?_
      refine lv_iand hx hb dL_turn_298 ?_
      obtain ⟨k89, e90, q91, h⟩ := h
      refine f_i (kV (As := [.int r88, .int (((x1 >>> (4 &&& 31)) >>> (6 &&& 31)) &&& 3)]) (rest := []) e90 ⟨hx, hb, hml, hown, hts⟩ (c_X5_look l D cs ad k89 r88 (((x1 >>> (4 &&& 31)) >>> (6 &&& 31)) &&& 3) s87 _ q91) (cwV 2 hts gL_turn_X5_look rfl rfl rfl (by decide +kernel) ⟨Nat.le_of_ble_eq_true rfl, Nat.le_of_ble_eq_true rfl⟩) hE hP rfl rfl (w_4 hE q91) h rfl hl.1 rfl (by first | exact lv_room (Nat.le_of_ble_eq_true rfl) | (refine lv_room ?_; simp [re_cat, cat_i, cat_l, cat_r])) dL_turn_299 ⟨Nat.le_refl _, Nat.le_refl _⟩) hS (fun r93 s92 H locs h hP hS => ?_)
      exact W.iret hx hb hr (fun t ht hW => ⟨⟨_, _, rfl, h, pw ht hP⟩, hS.F ht⟩) hS.2.2 dL_turn_302
    · replace h := h.1 c86
      refine r_aload_n hx hb dL_turn_263 rfl (lv_at hl 1 rfl) ?_
      refine lv_iload_n hx hb dL_turn_264 rfl (lv_at hl 0 rfl) ?_
      refine lv_iconst (v := 1) hx hb dL_turn_265 (by decide) ?_
      refine lv_ishr hx hb dL_turn_266 ?_
      refine lv_bipush (v := 32) hx hb dL_turn_267 (by decide) ?_
      refine f_i (kS (As := [.int ((x1 >>> (4 &&& 31)) >>> (1 &&& 31)), .int 32]) (rest := [va_re ad x0]) ⟨hx, hb, hml, hown, hts⟩ (c_L_low l D cs ad ((x1 >>> (4 &&& 31)) >>> (1 &&& 31)) 32 s0 _) (va_cwS 2 hts gL_turn_L_low rfl rfl rfl (by decide +kernel) ⟨Nat.le_of_ble_eq_true rfl, Nat.le_of_ble_eq_true rfl⟩) hE hP h rfl hl.1 rfl (by first | exact lv_room (Nat.le_of_ble_eq_true rfl) | (refine lv_room ?_; simp [re_cat, cat_i, cat_l, cat_r])) dL_turn_269 ⟨Nat.le_refl _, Nat.le_refl _⟩) hS (fun r95 s94 H locs h hP hS => ?_)
      refine lv_iload_n hx hb dL_turn_272 rfl (lv_at hl 0 rfl) ?_
      refine lv_bipush (v := 6) hx hb dL_turn_273 (by decide) ?_
      refine lv_ishr hx hb dL_turn_275 ?_
      refine lv_iconst (v := 3) hx hb dL_turn_276 (by decide) ?_
      refine lv_iand hx hb dL_turn_277 ?_
      obtain ⟨k96, e97, q98, h⟩ := h
      refine f_i (kV (As := [.int r95, .int (((x1 >>> (4 &&& 31)) >>> (6 &&& 31)) &&& 3)]) (rest := []) e97 ⟨hx, hb, hml, hown, hts⟩ (c_X5_know l D cs ad k96 r95 (((x1 >>> (4 &&& 31)) >>> (6 &&& 31)) &&& 3) s94 _ q98) (cwV 2 hts gL_turn_X5_know rfl rfl rfl (by decide +kernel) ⟨Nat.le_of_ble_eq_true rfl, Nat.le_of_ble_eq_true rfl⟩) hE hP rfl rfl (w_4 hE q98) h rfl hl.1 rfl (by first | exact lv_room (Nat.le_of_ble_eq_true rfl) | (refine lv_room ?_; simp [re_cat, cat_i, cat_l, cat_r])) dL_turn_278 ⟨Nat.le_refl _, Nat.le_refl _⟩) hS (fun r100 s99 H locs h hP hS => ?_)
      refine lv_goto (tgt := 302) hx hb dL_turn_281 (by decide) ?_
      exact W.iret hx hb hr (fun t ht hW => ⟨⟨_, _, rfl, h, pw ht hP⟩, hS.F ht⟩) hS.2.2 dL_turn_302
  replace h := h.2 c85
  by_cases c101 : v1 = 11
  · replace h := h.1 c101
    refine lv_tableIn (off := 295) (tgt := 303) hx hb dL_turn_8 (by rw [c101]; decide) (by rw [c101]; decide) (by rw [c101]; decide) (by decide) ?_
    refine lv_iload_n hx hb dL_turn_303 rfl (lv_at hl 0 rfl) ?_
    refine lv_iconst (v := 1) hx hb dL_turn_304 (by decide) ?_
    refine lv_iand hx hb dL_turn_305 ?_
    refine lv_if_ne (tgt := 321) hx hb dL_turn_306 (by decide) (fun c102 => ?_) (fun c102 => ?_)
    · replace h := h.2 c102
      refine r_aload_n hx hb dL_turn_321 rfl (lv_at hl 1 rfl) ?_
      refine lv_iload_n hx hb dL_turn_322 rfl (lv_at hl 0 rfl) ?_
      refine lv_iconst (v := 1) hx hb dL_turn_323 (by decide) ?_
      refine lv_ishr hx hb dL_turn_324 ?_
      refine lv_iconst (v := 3) hx hb dL_turn_325 (by decide) ?_
      refine lv_iand hx hb dL_turn_326 ?_
      obtain ⟨k103, e104, q105, h⟩ := h
      refine f_i (kV (As := [.int (((x1 >>> (4 &&& 31)) >>> (1 &&& 31)) &&& 3)]) (rest := []) e104 ⟨hx, hb, hml, hown, hts⟩ (c_X5_line l D cs ad k103 (((x1 >>> (4 &&& 31)) >>> (1 &&& 31)) &&& 3) s0 _ q105) (cwV 1 hts gL_turn_X5_line rfl rfl rfl (by decide +kernel) ⟨Nat.le_of_ble_eq_true rfl, Nat.le_of_ble_eq_true rfl⟩) hE hP rfl rfl (w_4 hE q105) h rfl hl.1 rfl (by first | exact lv_room (Nat.le_of_ble_eq_true rfl) | (refine lv_room ?_; simp [re_cat, cat_i, cat_l, cat_r])) dL_turn_327 ⟨Nat.le_refl _, Nat.le_refl _⟩) hS (fun r107 s106 H locs h hP hS => ?_)
      exact W.iret hx hb hr (fun t ht hW => ⟨⟨_, _, rfl, h, pw ht hP⟩, hS.F ht⟩) hS.2.2 dL_turn_330
    · replace h := h.1 c102
      refine r_aload_n hx hb dL_turn_309 rfl (lv_at hl 1 rfl) ?_
      refine lv_iload_n hx hb dL_turn_310 rfl (lv_at hl 0 rfl) ?_
      refine lv_iconst (v := 1) hx hb dL_turn_311 (by decide) ?_
      refine lv_ishr hx hb dL_turn_312 ?_
      refine lv_iconst (v := 3) hx hb dL_turn_313 (by decide) ?_
      refine lv_iand hx hb dL_turn_314 ?_
      obtain ⟨k108, e109, q110, h⟩ := h
      refine f_i (kV (As := [.int (((x1 >>> (4 &&& 31)) >>> (1 &&& 31)) &&& 3)]) (rest := []) e109 ⟨hx, hb, hml, hown, hts⟩ (c_X5_looks l D cs ad k108 (((x1 >>> (4 &&& 31)) >>> (1 &&& 31)) &&& 3) s0 _ q110) (cwV 1 hts gL_turn_X5_looks rfl rfl rfl (by decide +kernel) ⟨Nat.le_of_ble_eq_true rfl, Nat.le_of_ble_eq_true rfl⟩) hE hP rfl rfl (w_4 hE q110) h rfl hl.1 rfl (by first | exact lv_room (Nat.le_of_ble_eq_true rfl) | (refine lv_room ?_; simp [re_cat, cat_i, cat_l, cat_r])) dL_turn_315 ⟨Nat.le_refl _, Nat.le_refl _⟩) hS (fun r112 s111 H locs h hP hS => ?_)
      refine lv_goto (tgt := 330) hx hb dL_turn_318 (by decide) ?_
      exact W.iret hx hb hr (fun t ht hW => ⟨⟨_, _, rfl, h, pw ht hP⟩, hS.F ht⟩) hS.2.2 dL_turn_330
  replace h := h.2 c101
  by_cases c113 : v1 = 12
  · replace h := h.1 c113
    refine lv_tableIn (off := 323) (tgt := 331) hx hb dL_turn_8 (by rw [c113]; decide) (by rw [c113]; decide) (by rw [c113]; decide) (by decide) ?_
    refine lv_iload_n hx hb dL_turn_331 rfl (lv_at hl 0 rfl) ?_
    refine lv_iconst (v := 1) hx hb dL_turn_332 (by decide) ?_
    refine lv_iand hx hb dL_turn_333 ?_
    refine lv_if_ne (tgt := 356) hx hb dL_turn_334 (by decide) (fun c114 => ?_) (fun c114 => ?_)
    · replace h := h.2 c114
      refine r_aload_n hx hb dL_turn_356 rfl (lv_at hl 1 rfl) ?_
      refine lv_iload_n hx hb dL_turn_357 rfl (lv_at hl 0 rfl) ?_
      refine lv_iconst (v := 1) hx hb dL_turn_358 (by decide) ?_
      refine lv_ishr hx hb dL_turn_359 ?_
      refine lv_iconst (v := 5) hx hb dL_turn_360 (by decide) ?_
      refine f_i (kS (As := [.int ((x1 >>> (4 &&& 31)) >>> (1 &&& 31)), .int 5]) (rest := [va_re ad x0]) ⟨hx, hb, hml, hown, hts⟩ (c_L_low l D cs ad ((x1 >>> (4 &&& 31)) >>> (1 &&& 31)) 5 s0 _) (va_cwS 2 hts gL_turn_L_low rfl rfl rfl (by decide +kernel) ⟨Nat.le_of_ble_eq_true rfl, Nat.le_of_ble_eq_true rfl⟩) hE hP h rfl hl.1 rfl (by first | exact lv_room (Nat.le_of_ble_eq_true rfl) | (refine lv_room ?_; simp [re_cat, cat_i, cat_l, cat_r])) dL_turn_361 ⟨Nat.le_refl _, Nat.le_refl _⟩) hS (fun r116 s115 H locs h hP hS => ?_)
      refine lv_iload_n hx hb dL_turn_364 rfl (lv_at hl 0 rfl) ?_
      refine lv_iconst (v := 4) hx hb dL_turn_365 (by decide) ?_
      refine lv_ishr hx hb dL_turn_366 ?_
      refine lv_iconst (v := 1) hx hb dL_turn_367 (by decide) ?_
      refine lv_iand hx hb dL_turn_368 ?_
      obtain ⟨k117, e118, q119, h⟩ := h
      refine f_i (kV (As := [.int r116, .int (((x1 >>> (4 &&& 31)) >>> (4 &&& 31)) &&& 1)]) (rest := []) e118 ⟨hx, hb, hml, hown, hts⟩ (c_X5_test l D cs ad k117 r116 (((x1 >>> (4 &&& 31)) >>> (4 &&& 31)) &&& 1) s115 _ q119) (cwV 2 hts gL_turn_X5_test rfl rfl rfl (by decide +kernel) ⟨Nat.le_of_ble_eq_true rfl, Nat.le_of_ble_eq_true rfl⟩) hE hP rfl rfl (w_4 hE q119) h rfl hl.1 rfl (by first | exact lv_room (Nat.le_of_ble_eq_true rfl) | (refine lv_room ?_; simp [re_cat, cat_i, cat_l, cat_r])) dL_turn_369 ⟨Nat.le_refl _, Nat.le_refl _⟩) hS (fun r121 s120 H locs h hP hS => ?_)
      exact W.iret hx hb hr (fun t ht hW => ⟨⟨_, _, rfl, h, pw ht hP⟩, hS.F ht⟩) hS.2.2 dL_turn_372
    · replace h := h.1 c114
      refine r_aload_n hx hb dL_turn_337 rfl (lv_at hl 1 rfl) ?_
      refine lv_iload_n hx hb dL_turn_338 rfl (lv_at hl 0 rfl) ?_
      refine lv_iconst (v := 1) hx hb dL_turn_339 (by decide) ?_
      refine lv_ishr hx hb dL_turn_340 ?_
      refine lv_iconst (v := 5) hx hb dL_turn_341 (by decide) ?_
      refine f_i (kS (As := [.int ((x1 >>> (4 &&& 31)) >>> (1 &&& 31)), .int 5]) (rest := [va_re ad x0]) ⟨hx, hb, hml, hown, hts⟩ (c_L_low l D cs ad ((x1 >>> (4 &&& 31)) >>> (1 &&& 31)) 5 s0 _) (va_cwS 2 hts gL_turn_L_low rfl rfl rfl (by decide +kernel) ⟨Nat.le_of_ble_eq_true rfl, Nat.le_of_ble_eq_true rfl⟩) hE hP h rfl hl.1 rfl (by first | exact lv_room (Nat.le_of_ble_eq_true rfl) | (refine lv_room ?_; simp [re_cat, cat_i, cat_l, cat_r])) dL_turn_342 ⟨Nat.le_refl _, Nat.le_refl _⟩) hS (fun r123 s122 H locs h hP hS => ?_)
      refine lv_iload_n hx hb dL_turn_345 rfl (lv_at hl 0 rfl) ?_
      refine lv_iconst (v := 4) hx hb dL_turn_346 (by decide) ?_
      refine lv_ishr hx hb dL_turn_347 ?_
      refine lv_iconst (v := 1) hx hb dL_turn_348 (by decide) ?_
      refine lv_iand hx hb dL_turn_349 ?_
      obtain ⟨k124, e125, q126, h⟩ := h
      refine f_i (kV (As := [.int r123, .int (((x1 >>> (4 &&& 31)) >>> (4 &&& 31)) &&& 1)]) (rest := []) e125 ⟨hx, hb, hml, hown, hts⟩ (c_X5_kinds l D cs ad k124 r123 (((x1 >>> (4 &&& 31)) >>> (4 &&& 31)) &&& 1) s122 _ q126) (cwV 2 hts gL_turn_X5_kinds rfl rfl rfl (by decide +kernel) ⟨Nat.le_of_ble_eq_true rfl, Nat.le_of_ble_eq_true rfl⟩) hE hP rfl rfl (w_4 hE q126) h rfl hl.1 rfl (by first | exact lv_room (Nat.le_of_ble_eq_true rfl) | (refine lv_room ?_; simp [re_cat, cat_i, cat_l, cat_r])) dL_turn_350 ⟨Nat.le_refl _, Nat.le_refl _⟩) hS (fun r128 s127 H locs h hP hS => ?_)
      refine lv_goto (tgt := 372) hx hb dL_turn_353 (by decide) ?_
      exact W.iret hx hb hr (fun t ht hW => ⟨⟨_, _, rfl, h, pw ht hP⟩, hS.F ht⟩) hS.2.2 dL_turn_372
  replace h := h.2 c113
  by_cases c129 : v1 = 13
  · replace h := h.1 c129
    refine lv_tableIn (off := 365) (tgt := 373) hx hb dL_turn_8 (by rw [c129]; decide) (by rw [c129]; decide) (by rw [c129]; decide) (by decide) ?_
    refine lv_iload_n hx hb dL_turn_373 rfl (lv_at hl 0 rfl) ?_
    refine lv_iconst (v := 1) hx hb dL_turn_374 (by decide) ?_
    refine lv_iand hx hb dL_turn_375 ?_
    refine lv_if_ne (tgt := 391) hx hb dL_turn_376 (by decide) (fun c130 => ?_) (fun c130 => ?_)
    · replace h := h.2 c130
      refine r_aload_n hx hb dL_turn_391 rfl (lv_at hl 1 rfl) ?_
      refine lv_iload_n hx hb dL_turn_392 rfl (lv_at hl 0 rfl) ?_
      refine lv_iconst (v := 1) hx hb dL_turn_393 (by decide) ?_
      refine lv_ishr hx hb dL_turn_394 ?_
      refine lv_iconst (v := 3) hx hb dL_turn_395 (by decide) ?_
      refine f_i (kS (As := [.int ((x1 >>> (4 &&& 31)) >>> (1 &&& 31)), .int 3]) (rest := [va_re ad x0]) ⟨hx, hb, hml, hown, hts⟩ (c_L_low l D cs ad ((x1 >>> (4 &&& 31)) >>> (1 &&& 31)) 3 s0 _) (va_cwS 2 hts gL_turn_L_low rfl rfl rfl (by decide +kernel) ⟨Nat.le_of_ble_eq_true rfl, Nat.le_of_ble_eq_true rfl⟩) hE hP h rfl hl.1 rfl (by first | exact lv_room (Nat.le_of_ble_eq_true rfl) | (refine lv_room ?_; simp [re_cat, cat_i, cat_l, cat_r])) dL_turn_396 ⟨Nat.le_refl _, Nat.le_refl _⟩) hS (fun r132 s131 H locs h hP hS => ?_)
      refine lv_iload_n hx hb dL_turn_399 rfl (lv_at hl 0 rfl) ?_
      refine lv_iconst (v := 3) hx hb dL_turn_400 (by decide) ?_
      refine lv_ishr hx hb dL_turn_401 ?_
      refine lv_bipush (v := 21) hx hb dL_turn_402 (by decide) ?_
      refine f_i (kS (As := [.int ((x1 >>> (4 &&& 31)) >>> (3 &&& 31)), .int 21]) (rest := [.int r132, va_re ad x0]) ⟨hx, hb, hml, hown, hts⟩ (c_L_low l D cs ad ((x1 >>> (4 &&& 31)) >>> (3 &&& 31)) 21 s131 _) (va_cwS 2 hts gL_turn_L_low rfl rfl rfl (by decide +kernel) ⟨Nat.le_of_ble_eq_true rfl, Nat.le_of_ble_eq_true rfl⟩) hE hP h rfl hl.1 rfl (by first | exact lv_room (Nat.le_of_ble_eq_true rfl) | (refine lv_room ?_; simp [re_cat, cat_i, cat_l, cat_r])) dL_turn_404 ⟨Nat.le_refl _, Nat.le_refl _⟩) hS (fun r134 s133 H locs h hP hS => ?_)
      obtain ⟨k135, e136, q137, h⟩ := h
      refine f_i (kV (As := [.int r132, .int r134]) (rest := []) e136 ⟨hx, hb, hml, hown, hts⟩ (c_X5_duel l D cs ad k135 r132 r134 s133 _ q137) (cwV 2 hts gL_turn_X5_duel rfl rfl rfl (by decide +kernel) ⟨Nat.le_of_ble_eq_true rfl, Nat.le_of_ble_eq_true rfl⟩) hE hP rfl rfl (w_4 hE q137) h rfl hl.1 rfl (by first | exact lv_room (Nat.le_of_ble_eq_true rfl) | (refine lv_room ?_; simp [re_cat, cat_i, cat_l, cat_r])) dL_turn_407 ⟨Nat.le_refl _, Nat.le_refl _⟩) hS (fun r139 s138 H locs h hP hS => ?_)
      exact W.iret hx hb hr (fun t ht hW => ⟨⟨_, _, rfl, h, pw ht hP⟩, hS.F ht⟩) hS.2.2 dL_turn_410
    · replace h := h.1 c130
      refine r_aload_n hx hb dL_turn_379 rfl (lv_at hl 1 rfl) ?_
      refine lv_iload_n hx hb dL_turn_380 rfl (lv_at hl 0 rfl) ?_
      refine lv_iconst (v := 1) hx hb dL_turn_381 (by decide) ?_
      refine lv_ishr hx hb dL_turn_382 ?_
      refine lv_iconst (v := 1) hx hb dL_turn_383 (by decide) ?_
      refine lv_iand hx hb dL_turn_384 ?_
      obtain ⟨k140, e141, q142, h⟩ := h
      refine f_i (kV (As := [.int (((x1 >>> (4 &&& 31)) >>> (1 &&& 31)) &&& 1)]) (rest := []) e141 ⟨hx, hb, hml, hown, hts⟩ (c_X5_whose l D cs ad k140 (((x1 >>> (4 &&& 31)) >>> (1 &&& 31)) &&& 1) s0 _ q142) (cwV 1 hts gL_turn_X5_whose rfl rfl rfl (by decide +kernel) ⟨Nat.le_of_ble_eq_true rfl, Nat.le_of_ble_eq_true rfl⟩) hE hP rfl rfl (w_4 hE q142) h rfl hl.1 rfl (by first | exact lv_room (Nat.le_of_ble_eq_true rfl) | (refine lv_room ?_; simp [re_cat, cat_i, cat_l, cat_r])) dL_turn_385 ⟨Nat.le_refl _, Nat.le_refl _⟩) hS (fun r144 s143 H locs h hP hS => ?_)
      refine lv_goto (tgt := 410) hx hb dL_turn_388 (by decide) ?_
      exact W.iret hx hb hr (fun t ht hW => ⟨⟨_, _, rfl, h, pw ht hP⟩, hS.F ht⟩) hS.2.2 dL_turn_410
  replace h := h.2 c129
  by_cases c145 : v1 = 14
  · replace h := h.1 c145
    refine lv_tableIn (off := 403) (tgt := 411) hx hb dL_turn_8 (by rw [c145]; decide) (by rw [c145]; decide) (by rw [c145]; decide) (by decide) ?_
    refine lv_iload_n hx hb dL_turn_411 rfl (lv_at hl 0 rfl) ?_
    refine lv_iconst (v := 1) hx hb dL_turn_412 (by decide) ?_
    refine lv_iand hx hb dL_turn_413 ?_
    refine lv_if_ne (tgt := 432) hx hb dL_turn_414 (by decide) (fun c146 => ?_) (fun c146 => ?_)
    · replace h := h.2 c146
      refine r_aload_n hx hb dL_turn_432 rfl (lv_at hl 1 rfl) ?_
      obtain ⟨k147, e148, q149, h⟩ := h
      refine f_i (kV (As := []) (rest := []) e148 ⟨hx, hb, hml, hown, hts⟩ (c_X5_mid l D cs ad k147 s0 _ q149) (cwV 0 hts gL_turn_X5_mid rfl rfl rfl (by decide +kernel) ⟨Nat.le_of_ble_eq_true rfl, Nat.le_of_ble_eq_true rfl⟩) hE hP rfl rfl (w_4 hE q149) h rfl hl.1 rfl (by first | exact lv_room (Nat.le_of_ble_eq_true rfl) | (refine lv_room ?_; simp [re_cat, cat_i, cat_l, cat_r])) dL_turn_433 ⟨Nat.le_refl _, Nat.le_refl _⟩) hS (fun r151 s150 H locs h hP hS => ?_)
      exact W.iret hx hb hr (fun t ht hW => ⟨⟨_, _, rfl, h, pw ht hP⟩, hS.F ht⟩) hS.2.2 dL_turn_436
    · replace h := h.1 c146
      refine r_aload_n hx hb dL_turn_417 rfl (lv_at hl 1 rfl) ?_
      refine lv_iload_n hx hb dL_turn_418 rfl (lv_at hl 0 rfl) ?_
      refine lv_iconst (v := 1) hx hb dL_turn_419 (by decide) ?_
      refine lv_ishr hx hb dL_turn_420 ?_
      refine lv_bipush (v := 7) hx hb dL_turn_421 (by decide) ?_
      refine f_i (kS (As := [.int ((x1 >>> (4 &&& 31)) >>> (1 &&& 31)), .int 7]) (rest := [va_re ad x0]) ⟨hx, hb, hml, hown, hts⟩ (c_L_low l D cs ad ((x1 >>> (4 &&& 31)) >>> (1 &&& 31)) 7 s0 _) (va_cwS 2 hts gL_turn_L_low rfl rfl rfl (by decide +kernel) ⟨Nat.le_of_ble_eq_true rfl, Nat.le_of_ble_eq_true rfl⟩) hE hP h rfl hl.1 rfl (by first | exact lv_room (Nat.le_of_ble_eq_true rfl) | (refine lv_room ?_; simp [re_cat, cat_i, cat_l, cat_r])) dL_turn_423 ⟨Nat.le_refl _, Nat.le_refl _⟩) hS (fun r153 s152 H locs h hP hS => ?_)
      obtain ⟨k154, e155, q156, h⟩ := h
      refine f_i (kV (As := [.int r153]) (rest := []) e155 ⟨hx, hb, hml, hown, hts⟩ (c_X5_odds l D cs ad k154 r153 s152 _ q156) (cwV 1 hts gL_turn_X5_odds rfl rfl rfl (by decide +kernel) ⟨Nat.le_of_ble_eq_true rfl, Nat.le_of_ble_eq_true rfl⟩) hE hP rfl rfl (w_4 hE q156) h rfl hl.1 rfl (by first | exact lv_room (Nat.le_of_ble_eq_true rfl) | (refine lv_room ?_; simp [re_cat, cat_i, cat_l, cat_r])) dL_turn_426 ⟨Nat.le_refl _, Nat.le_refl _⟩) hS (fun r158 s157 H locs h hP hS => ?_)
      refine lv_goto (tgt := 436) hx hb dL_turn_429 (by decide) ?_
      exact W.iret hx hb hr (fun t ht hW => ⟨⟨_, _, rfl, h, pw ht hP⟩, hS.F ht⟩) hS.2.2 dL_turn_436
  replace h := h.2 c145
  refine lv_tableOut (tgt := 437) hx hb dL_turn_8 (by have := ne_toInt (n := 0) c2 (by decide); have := ne_toInt (n := 1) c3 (by decide); have := ne_toInt (n := 2) c4 (by decide); have := ne_toInt (n := 3) c14 (by decide); have := ne_toInt (n := 4) c22 (by decide); have := ne_toInt (n := 5) c30 (by decide); have := ne_toInt (n := 6) c43 (by decide); have := ne_toInt (n := 7) c55 (by decide); have := ne_toInt (n := 8) c67 (by decide); have := ne_toInt (n := 9) c75 (by decide); have := ne_toInt (n := 10) c85 (by decide); have := ne_toInt (n := 11) c101 (by decide); have := ne_toInt (n := 12) c113 (by decide); have := ne_toInt (n := 13) c129 (by decide); have := ne_toInt (n := 14) c145 (by decide); omega) (by decide) ?_
  refine lv_iload_n hx hb dL_turn_437 rfl (lv_at hl 0 rfl) ?_
  refine lv_iconst (v := 1) hx hb dL_turn_438 (by decide) ?_
  refine lv_iand hx hb dL_turn_439 ?_
  refine lv_if_ne (tgt := 464) hx hb dL_turn_440 (by decide) (fun c159 => ?_) (fun c159 => ?_)
  · replace h := h.2 c159
    refine r_aload_n hx hb dL_turn_464 rfl (lv_at hl 1 rfl) ?_
    refine lv_iload_n hx hb dL_turn_465 rfl (lv_at hl 0 rfl) ?_
    refine lv_iconst (v := 1) hx hb dL_turn_466 (by decide) ?_
    refine lv_ishr hx hb dL_turn_467 ?_
    refine lv_iconst (v := 5) hx hb dL_turn_468 (by decide) ?_
    refine f_i (kS (As := [.int ((x1 >>> (4 &&& 31)) >>> (1 &&& 31)), .int 5]) (rest := [va_re ad x0]) ⟨hx, hb, hml, hown, hts⟩ (c_L_low l D cs ad ((x1 >>> (4 &&& 31)) >>> (1 &&& 31)) 5 s0 _) (va_cwS 2 hts gL_turn_L_low rfl rfl rfl (by decide +kernel) ⟨Nat.le_of_ble_eq_true rfl, Nat.le_of_ble_eq_true rfl⟩) hE hP h rfl hl.1 rfl (by first | exact lv_room (Nat.le_of_ble_eq_true rfl) | (refine lv_room ?_; simp [re_cat, cat_i, cat_l, cat_r])) dL_turn_469 ⟨Nat.le_refl _, Nat.le_refl _⟩) hS (fun r161 s160 H locs h hP hS => ?_)
    refine lv_iload_n hx hb dL_turn_472 rfl (lv_at hl 0 rfl) ?_
    refine lv_iconst (v := 4) hx hb dL_turn_473 (by decide) ?_
    refine lv_ishr hx hb dL_turn_474 ?_
    refine lv_bipush (v := 21) hx hb dL_turn_475 (by decide) ?_
    refine f_i (kS (As := [.int ((x1 >>> (4 &&& 31)) >>> (4 &&& 31)), .int 21]) (rest := [.int r161, va_re ad x0]) ⟨hx, hb, hml, hown, hts⟩ (c_L_low l D cs ad ((x1 >>> (4 &&& 31)) >>> (4 &&& 31)) 21 s160 _) (va_cwS 2 hts gL_turn_L_low rfl rfl rfl (by decide +kernel) ⟨Nat.le_of_ble_eq_true rfl, Nat.le_of_ble_eq_true rfl⟩) hE hP h rfl hl.1 rfl (by first | exact lv_room (Nat.le_of_ble_eq_true rfl) | (refine lv_room ?_; simp [re_cat, cat_i, cat_l, cat_r])) dL_turn_477 ⟨Nat.le_refl _, Nat.le_refl _⟩) hS (fun r163 s162 H locs h hP hS => ?_)
    refine lv_iload_n hx hb dL_turn_480 rfl (lv_at hl 0 rfl) ?_
    refine lv_bipush (v := 9) hx hb dL_turn_481 (by decide) ?_
    refine lv_ishr hx hb dL_turn_483 ?_
    refine lv_bipush (v := 6) hx hb dL_turn_484 (by decide) ?_
    refine f_i (kS (As := [.int ((x1 >>> (4 &&& 31)) >>> (9 &&& 31)), .int 6]) (rest := [.int r163, .int r161, va_re ad x0]) ⟨hx, hb, hml, hown, hts⟩ (c_L_low l D cs ad ((x1 >>> (4 &&& 31)) >>> (9 &&& 31)) 6 s162 _) (va_cwS 2 hts gL_turn_L_low rfl rfl rfl (by decide +kernel) ⟨Nat.le_of_ble_eq_true rfl, Nat.le_of_ble_eq_true rfl⟩) hE hP h rfl hl.1 rfl (by first | exact lv_room (Nat.le_of_ble_eq_true rfl) | (refine lv_room ?_; simp [re_cat, cat_i, cat_l, cat_r])) dL_turn_486 ⟨Nat.le_refl _, Nat.le_refl _⟩) hS (fun r165 s164 H locs h hP hS => ?_)
    obtain ⟨k166, e167, q168, h⟩ := h
    refine f_i (kV (As := [.int r161, .int r163, .int r165]) (rest := []) e167 ⟨hx, hb, hml, hown, hts⟩ (c_X5_least l D cs ad k166 r161 r163 r165 s164 _ q168) (cwV 3 hts gL_turn_X5_least rfl rfl rfl (by decide +kernel) ⟨Nat.le_of_ble_eq_true rfl, Nat.le_of_ble_eq_true rfl⟩) hE hP rfl rfl (w_4 hE q168) h rfl hl.1 rfl (by first | exact lv_room (Nat.le_of_ble_eq_true rfl) | (refine lv_room ?_; simp [re_cat, cat_i, cat_l, cat_r])) dL_turn_489 ⟨Nat.le_refl _, Nat.le_refl _⟩) hS (fun r170 s169 H locs h hP hS => ?_)
    exact W.iret hx hb hr (fun t ht hW => ⟨⟨_, _, rfl, h, pw ht hP⟩, hS.F ht⟩) hS.2.2 dL_turn_492
  · replace h := h.1 c159
    refine r_aload_n hx hb dL_turn_443 rfl (lv_at hl 1 rfl) ?_
    refine lv_iconst (v := 1) hx hb dL_turn_444 (by decide) ?_
    refine lv_iload_n hx hb dL_turn_445 rfl (lv_at hl 0 rfl) ?_
    refine lv_iconst (v := 1) hx hb dL_turn_446 (by decide) ?_
    refine lv_ishr hx hb dL_turn_447 ?_
    refine lv_iconst (v := 3) hx hb dL_turn_448 (by decide) ?_
    refine f_i (kS (As := [.int ((x1 >>> (4 &&& 31)) >>> (1 &&& 31)), .int 3]) (rest := [.int 1, va_re ad x0]) ⟨hx, hb, hml, hown, hts⟩ (c_L_low l D cs ad ((x1 >>> (4 &&& 31)) >>> (1 &&& 31)) 3 s0 _) (va_cwS 2 hts gL_turn_L_low rfl rfl rfl (by decide +kernel) ⟨Nat.le_of_ble_eq_true rfl, Nat.le_of_ble_eq_true rfl⟩) hE hP h rfl hl.1 rfl (by first | exact lv_room (Nat.le_of_ble_eq_true rfl) | (refine lv_room ?_; simp [re_cat, cat_i, cat_l, cat_r])) dL_turn_449 ⟨Nat.le_refl _, Nat.le_refl _⟩) hS (fun r172 s171 H locs h hP hS => ?_)
    refine lv_iadd hx hb dL_turn_452 ?_
    refine lv_iconst (v := 1) hx hb dL_turn_453 (by decide) ?_
    refine lv_iload_n hx hb dL_turn_454 rfl (lv_at hl 0 rfl) ?_
    refine lv_iconst (v := 3) hx hb dL_turn_455 (by decide) ?_
    refine lv_ishr hx hb dL_turn_456 ?_
    refine lv_iadd hx hb dL_turn_457 ?_
    obtain ⟨k173, e174, q175, h⟩ := h
    refine f_i (kV (As := [.int (1 + r172), .int ((1 : Int32) + ((x1 >>> (4 &&& 31)) >>> (3 &&& 31)))]) (rest := []) e174 ⟨hx, hb, hml, hown, hts⟩ (c_X5_lots l D cs ad k173 (1 + r172) ((1 : Int32) + ((x1 >>> (4 &&& 31)) >>> (3 &&& 31))) s171 _ q175) (cwV 2 hts gL_turn_X5_lots rfl rfl rfl (by decide +kernel) ⟨Nat.le_of_ble_eq_true rfl, Nat.le_of_ble_eq_true rfl⟩) hE hP rfl rfl (w_4 hE q175) h rfl hl.1 rfl (by first | exact lv_room (Nat.le_of_ble_eq_true rfl) | (refine lv_room ?_; simp [re_cat, cat_i, cat_l, cat_r])) dL_turn_458 ⟨Nat.le_refl _, Nat.le_refl _⟩) hS (fun r177 s176 H locs h hP hS => ?_)
    refine lv_goto (tgt := 492) hx hb dL_turn_461 (by decide) ?_
    exact W.iret hx hb hr (fun t ht hW => ⟨⟨_, _, rfl, h, pw ht hP⟩, hS.F ht⟩) hS.2.2 dL_turn_492
