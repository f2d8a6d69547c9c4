def lwU (z : Int32) (σX σY : Sg) (K : Sg → Sg → Prop) : Prop := p_X5_count 0 2 σY (fun r1 σY => ((36 ≤ r1 → K σX σY) ∧ (¬ 36 ≤ r1 → p_X5_digest 0 σY (fun r2 σY => p_X5_flood 0 (lowV (z >>> (5 &&& 31)) 21) σY (fun r3 σY => p_X5_tuck 0 (lowV (z >>> (8 &&& 31)) 5) σY (fun r4 σY => p_X5_dyke 0 (lowV (z >>> (10 &&& 31)) 6) σY (fun r5 σY => p_X5_undo 0 r1 σY (fun r6 σY => p_X5_count 0 2 σY (fun r7 σY => ((r6 = (r7 - r1) → lwR z r1 r2 σX σY K) ∧ (¬ r6 = (r7 - r1) → p_X5_count 0 2 σY (fun r8 σY => r8 = r1 ∧ lwR z r1 r2 σX σY K))))))))))))
set_option maxHeartbeats 4000000 in
set_option maxRecDepth 100000 in
theorem law_U {p : Program} {l : Launch} {e : Env} {s : State} {m : MethodId} {below : List Frame} {meth : Method} {c : Code} {D : va_G} {cs : Cs} {adX adY : Nat → Nat} {b L : Nat} {xs : Nat → Int32} (hL : L ≤ 260) (hx : p.tables.exec = Jvm.exec) (hb : c.code = code) (hml : c.maxLocals = 9) (hown : s.vm.findClass RL = some m.cls) (hts : ∀ w ∈ wsL_law, w.before #[Value.ref b] s = true) (hXs : va_X b L xs s s.heap) (hbl : b < s.heap.size) (hEX : Ev bX D cs adX s) (hEY : Ev bX D cs adY s) (hgX : ∀ q, fAd bX adX q → fNw s q) (hgY : ∀ q, fAd bX adY q → fNw s q) (hapX : apt adX adY) {Q : State → Prop} {j : Nat} {z : Int32} (K : Sg → Sg → Prop) (σX σY : Sg) (H : Heap) (locs : List Loc) (ls : Array Slot) (h : lwU z σX σY K) (hPX : va_P D vwCl (wl bX cs adX σX) H) (hPY : va_P D vwCl (wl bX cs adY σY) H) (hS : va_S (fNw s) s.heap H locs) (hl : lv_has ls 9 [(0, .ref b), (1, .ref (adX 0)), (2, .ref (adY 0)), (3, .int 1), (4, .int (nI j)), (5, .int z)]) (kk : ∀ (σX σY : Sg) (H : Heap) (locs : List Loc) (ls : Array Slot), K σX σY → va_P D vwCl (wl bX cs adX σX) H → va_P D vwCl (wl bX cs adY σY) H → va_S (fNw s) s.heap H locs → lv_has ls 9 [(0, .ref b), (1, .ref (adX 0)), (2, .ref (adY 0)), (3, .int 1), (4, .int (nI j))] → W p l e room_1 s m #[Value.ref b] below meth c H locs 600000 7302250 Q (F0 m 282 ls [])) : W p l e room_1 s m #[Value.ref b] below meth c H locs 600000 7302250 Q (F0 m 99 ls []) := by
  have hbA : ¬ (fNw s) b := Nat.not_le.mpr hbl
  have hapY := apt_sym hapX
  have hgXY : ∀ q, fXY adX adY q → fNw s q := fun q h => h.elim (hgX q) (hgY q)
  unfold lwU at h
  refine lv_aload_n hx hb dL_law_99 rfl (lv_at hl 2 rfl) ?_
  refine lv_iconst (v := 2) hx hb dL_law_100 (by decide) ?_
  refine l2_i (kV (As := [.int 2]) (rest := []) (o := some 0) rfl ⟨hx, hb, hml, hown, hts⟩ (c_X5_count l D cs adY 0 2 σY _ rfl) (cwV 1 hts gL_law_X5_count rfl rfl rfl (by decide +kernel) ⟨Nat.le_of_ble_eq_true rfl, Nat.le_of_ble_eq_true rfl⟩) hEY hPY rfl rfl (w_4 hEY rfl) h rfl hl.1 rfl (lv_room (Nat.le_of_ble_eq_true rfl)) dL_law_101 ⟨Nat.le_refl _, Nat.le_refl _⟩) hS hgY hapY hPX (fun r1 σY H locs h hPY hPX hS => ?_)
  refine lv_istore (i := 6) (lv' := [(6, .int r1), (0, .ref b), (1, .ref (adX 0)), (2, .ref (adY 0)), (3, .int 1), (4, .int (nI j)), (5, .int z)]) hx hb dL_law_104 hl (by decide) (by first | rfl | simp [cat_i, cat_l, cat_r]) (fun ls hl => ?_)
  refine lv_iload hx hb dL_law_106 (lv_at hl 0 rfl) ?_
  refine lv_bipush (v := 36) hx hb dL_law_108 (by decide) ?_
  refine lv_icmp_ge (tgt := 282) hx hb dL_law_110 (by decide) (fun c1 => ?_) (fun c1 => ?_)
  · replace h := h.1 c1
    exact kk σX σY H locs ls h hPX hPY hS (lv_sub hl [1, 2, 3, 4, 5] rfl)
  · replace h := h.2 c1
    refine lv_iload_n hx hb dL_law_113 rfl (lv_at hl 4 rfl) ?_
    refine lv_if_eq (tgt := 282) hx hb dL_law_114 (by decide) (fun c1 => absurd c1 (by decide)) (fun _ => ?_)
    refine lv_aload_n hx hb dL_law_117 rfl (lv_at hl 3 rfl) ?_
    refine l2_l (kV (As := []) (rest := []) (o := some 0) rfl ⟨hx, hb, hml, hown, hts⟩ (c_X5_digest l D cs adY 0  σY _ rfl) (cwV 0 hts gL_law_X5_digest rfl rfl rfl (by decide +kernel) ⟨Nat.le_of_ble_eq_true rfl, Nat.le_of_ble_eq_true rfl⟩) hEY hPY rfl rfl (w_4 hEY rfl) h rfl hl.1 rfl (lv_room (Nat.le_of_ble_eq_true rfl)) dL_law_118 ⟨Nat.le_refl _, Nat.le_refl _⟩) hS hgY hapY hPX (fun r2 σY H locs h hPY hPX hS => ?_)
    refine lv_lstore (i := 7) (lv' := [(7, .long r2), (6, .int r1), (0, .ref b), (1, .ref (adX 0)), (2, .ref (adY 0)), (3, .int 1), (4, .int (nI j)), (5, .int z)]) hx hb dL_law_121 hl (by decide) (by first | rfl | simp [cat_i, cat_l, cat_r]) (fun ls hl => ?_)
    refine lv_aload_n hx hb dL_law_123 rfl (lv_at hl 4 rfl) ?_
    refine lv_iload hx hb dL_law_124 (lv_at hl 7 rfl) ?_
    refine lv_iconst (v := 5) hx hb dL_law_126 (by decide) ?_
    refine lv_ishr hx hb dL_law_127 ?_
    refine lv_bipush (v := 21) hx hb dL_law_128 (by decide) ?_
    refine l2_i (kS (As := [.int (z >>> (5 &&& 31)), .int 21]) (rest := [.ref (adY 0)]) ⟨hx, hb, hml, hown, hts⟩ (c_L_low l D cs adX (z >>> (5 &&& 31)) 21 σX (fun r u => r = lowV (z >>> (5 &&& 31)) 21 ∧ u = σX)) (va_cwS 2 hts gL_law_L_low rfl rfl rfl (by decide +kernel) ⟨Nat.le_of_ble_eq_true rfl, Nat.le_of_ble_eq_true rfl⟩) hEX hPX (low_i (by decide) ⟨rfl, rfl⟩) rfl hl.1 rfl (lv_room (Nat.le_of_ble_eq_true rfl)) dL_law_130 ⟨Nat.le_refl _, Nat.le_refl _⟩) hS hgX hapX hPY (fun r u H locs hq hPX hPY hS => ?_)
    obtain ⟨er, eu⟩ := hq
    rw [eu] at hPX
    rw [er]
    clear er eu
    refine l2_i (kV (As := [.int (lowV (z >>> (5 &&& 31)) 21)]) (rest := []) (o := some 0) rfl ⟨hx, hb, hml, hown, hts⟩ (c_X5_flood l D cs adY 0 (lowV (z >>> (5 &&& 31)) 21) σY _ rfl) (cwV 1 hts gL_law_X5_flood rfl rfl rfl (by decide +kernel) ⟨Nat.le_of_ble_eq_true rfl, Nat.le_of_ble_eq_true rfl⟩) hEY hPY rfl rfl (w_4 hEY rfl) h rfl hl.1 rfl (lv_room (Nat.le_of_ble_eq_true rfl)) dL_law_133 ⟨Nat.le_refl _, Nat.le_refl _⟩) hS hgY hapY hPX (fun r3 σY H locs h hPY hPX hS => ?_)
    refine lv_pop hx hb dL_law_136 rfl ?_
    refine lv_aload_n hx hb dL_law_137 rfl (lv_at hl 4 rfl) ?_
    refine lv_iload hx hb dL_law_138 (lv_at hl 7 rfl) ?_
    refine lv_bipush (v := 8) hx hb dL_law_140 (by decide) ?_
    refine lv_ishr hx hb dL_law_142 ?_
    refine lv_iconst (v := 5) hx hb dL_law_143 (by decide) ?_
    refine l2_i (kS (As := [.int (z >>> (8 &&& 31)), .int 5]) (rest := [.ref (adY 0)]) ⟨hx, hb, hml, hown, hts⟩ (c_L_low l D cs adX (z >>> (8 &&& 31)) 5 σX (fun r u => r = lowV (z >>> (8 &&& 31)) 5 ∧ u = σX)) (va_cwS 2 hts gL_law_L_low rfl rfl rfl (by decide +kernel) ⟨Nat.le_of_ble_eq_true rfl, Nat.le_of_ble_eq_true rfl⟩) hEX hPX (low_i (by decide) ⟨rfl, rfl⟩) rfl hl.1 rfl (lv_room (Nat.le_of_ble_eq_true rfl)) dL_law_144 ⟨Nat.le_refl _, Nat.le_refl _⟩) hS hgX hapX hPY (fun r u H locs hq hPX hPY hS => ?_)
    obtain ⟨er, eu⟩ := hq
    rw [eu] at hPX
    rw [er]
    clear er eu
    refine l2_i (kV (As := [.int (lowV (z >>> (8 &&& 31)) 5)]) (rest := []) (o := some 0) rfl ⟨hx, hb, hml, hown, hts⟩ (c_X5_tuck l D cs adY 0 (lowV (z >>> (8 &&& 31)) 5) σY _ rfl) (cwV 1 hts gL_law_X5_tuck rfl rfl rfl (by decide +kernel) ⟨Nat.le_of_ble_eq_true rfl, Nat.le_of_ble_eq_true rfl⟩) hEY hPY rfl rfl (w_4 hEY rfl) h rfl hl.1 rfl (lv_room (Nat.le_of_ble_eq_true rfl)) dL_law_147 ⟨Nat.le_refl _, Nat.le_refl _⟩) hS hgY hapY hPX (fun r4 σY H locs h hPY hPX hS => ?_)
    refine lv_pop hx hb dL_law_150 rfl ?_
    refine lv_aload_n hx hb dL_law_151 rfl (lv_at hl 4 rfl) ?_
    refine lv_iload hx hb dL_law_152 (lv_at hl 7 rfl) ?_
    refine lv_bipush (v := 10) hx hb dL_law_154 (by decide) ?_
    refine lv_ishr hx hb dL_law_156 ?_
    refine lv_bipush (v := 6) hx hb dL_law_157 (by decide) ?_
    refine l2_i (kS (As := [.int (z >>> (10 &&& 31)), .int 6]) (rest := [.ref (adY 0)]) ⟨hx, hb, hml, hown, hts⟩ (c_L_low l D cs adX (z >>> (10 &&& 31)) 6 σX (fun r u => r = lowV (z >>> (10 &&& 31)) 6 ∧ u = σX)) (va_cwS 2 hts gL_law_L_low rfl rfl rfl (by decide +kernel) ⟨Nat.le_of_ble_eq_true rfl, Nat.le_of_ble_eq_true rfl⟩) hEX hPX (low_i (by decide) ⟨rfl, rfl⟩) rfl hl.1 rfl (lv_room (Nat.le_of_ble_eq_true rfl)) dL_law_159 ⟨Nat.le_refl _, Nat.le_refl _⟩) hS hgX hapX hPY (fun r u H locs hq hPX hPY hS => ?_)
    obtain ⟨er, eu⟩ := hq
    rw [eu] at hPX
    rw [er]
    clear er eu
    refine l2_i (kV (As := [.int (lowV (z >>> (10 &&& 31)) 6)]) (rest := []) (o := some 0) rfl ⟨hx, hb, hml, hown, hts⟩ (c_X5_dyke l D cs adY 0 (lowV (z >>> (10 &&& 31)) 6) σY _ rfl) (cwV 1 hts gL_law_X5_dyke rfl rfl rfl (by decide +kernel) ⟨Nat.le_of_ble_eq_true rfl, Nat.le_of_ble_eq_true rfl⟩) hEY hPY rfl rfl (w_4 hEY rfl) h rfl hl.1 rfl (lv_room (Nat.le_of_ble_eq_true rfl)) dL_law_162 ⟨Nat.le_refl _, Nat.le_refl _⟩) hS hgY hapY hPX (fun r5 σY H locs h hPY hPX hS => ?_)
    refine lv_pop hx hb dL_law_165 rfl ?_
    refine lv_aload_n hx hb dL_law_166 rfl (lv_at hl 4 rfl) ?_
    refine lv_iload hx hb dL_law_167 (lv_at hl 1 rfl) ?_
    refine l2_i (kV (As := [.int r1]) (rest := []) (o := some 0) rfl ⟨hx, hb, hml, hown, hts⟩ (c_X5_undo l D cs adY 0 r1 σY _ rfl) (cwV 1 hts gL_law_X5_undo rfl rfl rfl (by decide +kernel) ⟨Nat.le_of_ble_eq_true rfl, Nat.le_of_ble_eq_true rfl⟩) hEY hPY rfl rfl (w_4 hEY rfl) h rfl hl.1 rfl (lv_room (Nat.le_of_ble_eq_true rfl)) dL_law_169 ⟨Nat.le_refl _, Nat.le_refl _⟩) hS hgY hapY hPX (fun r6 σY H locs h hPY hPX hS => ?_)
    refine lv_aload_n hx hb dL_law_172 rfl (lv_at hl 4 rfl) ?_
    refine lv_iconst (v := 2) hx hb dL_law_173 (by decide) ?_
    refine l2_i (kV (As := [.int 2]) (rest := [.int r6]) (o := some 0) rfl ⟨hx, hb, hml, hown, hts⟩ (c_X5_count l D cs adY 0 2 σY _ rfl) (cwV 1 hts gL_law_X5_count rfl rfl rfl (by decide +kernel) ⟨Nat.le_of_ble_eq_true rfl, Nat.le_of_ble_eq_true rfl⟩) hEY hPY rfl rfl (w_4 hEY rfl) h rfl hl.1 rfl (lv_room (Nat.le_of_ble_eq_true rfl)) dL_law_174 ⟨Nat.le_refl _, Nat.le_refl _⟩) hS hgY hapY hPX (fun r7 σY H locs h hPY hPX hS => ?_)
    refine lv_iload hx hb dL_law_177 (lv_at hl 1 rfl) ?_
    refine lv_isub hx hb dL_law_179 ?_
    refine lv_icmp_eq (tgt := 193) hx hb dL_law_180 (by decide) (fun c1 => ?_) (fun c1 => ?_)
    · replace h := h.1 c1
      exact law_R hL hx hb hml hown hts hXs hbl hEX hEY hgX hgY hapX K σX σY H locs ls h hPX hPY hS (lv_sub hl [2, 3, 4, 5, 6, 7, 1, 0] rfl) kk
    · replace h := h.2 c1
      refine lv_aload_n hx hb dL_law_183 rfl (lv_at hl 4 rfl) ?_
      refine lv_iconst (v := 2) hx hb dL_law_184 (by decide) ?_
      refine l2_i (kV (As := [.int 2]) (rest := []) (o := some 0) rfl ⟨hx, hb, hml, hown, hts⟩ (c_X5_count l D cs adY 0 2 σY _ rfl) (cwV 1 hts gL_law_X5_count rfl rfl rfl (by decide +kernel) ⟨Nat.le_of_ble_eq_true rfl, Nat.le_of_ble_eq_true rfl⟩) hEY hPY rfl rfl (w_4 hEY rfl) h rfl hl.1 rfl (lv_room (Nat.le_of_ble_eq_true rfl)) dL_law_185 ⟨Nat.le_refl _, Nat.le_refl _⟩) hS hgY hapY hPX (fun r8 σY H locs h hPY hPX hS => ?_)
      refine lv_iload hx hb dL_law_188 (lv_at hl 1 rfl) ?_
      obtain ⟨e9, h⟩ := h
      refine lv_icmp_ne (tgt := 197) hx hb dL_law_190 (by decide) (fun c1 => absurd e9 c1) (fun _ => ?_)
      exact law_R hL hx hb hml hown hts hXs hbl hEX hEY hgX hgY hapX K σX σY H locs ls h hPX hPY hS (lv_sub hl [2, 3, 4, 5, 6, 7, 1, 0] rfl) kk
