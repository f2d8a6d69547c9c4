def lwV (z : Int32) (σX σY : Sg) (K : Sg → Sg → Prop) : Prop := p_L_refused (some 0) (z >>> (6 &&& 31)) σY (fun r2 σY => ¬ r2 = 0 ∧ ∃ Q1 Q2 : Int32 → Sg → Prop, p_L_turn (some 0) z σX Q1 ∧ p_L_turn (some 0) z σY Q2 ∧ ∀ r4 σX r5 σY, Q1 r4 σX → Q2 r5 σY → r4 = r5 ∧ pSame σX σY (fun σX σY => lwU z σX σY K))
set_option maxHeartbeats 4000000 in
set_option maxRecDepth 100000 in
theorem law_V {p : Program} {l : Launch} {e : Env} {s : State} {m : MethodId} {below : List Frame} {meth : Method} {c : Code} {D : va_G} {cs : Cs} {adX adY : Nat → Nat} {b L : Nat} {xs : Nat → Int32} (hL : L ≤ 260) (hx : p.tables.exec = Jvm.exec) (hb : c.code = code) (hml : c.maxLocals = 9) (hown : s.vm.findClass RL = some m.cls) (hts : ∀ w ∈ wsL_law, w.before #[Value.ref b] s = true) (hXs : va_X b L xs s s.heap) (hbl : b < s.heap.size) (hEX : Ev bX D cs adX s) (hEY : Ev bX D cs adY s) (hgX : ∀ q, fAd bX adX q → fNw s q) (hgY : ∀ q, fAd bX adY q → fNw s q) (hapX : apt adX adY) {Q : State → Prop} {j : Nat} (hj21 : j < 21) (K : Sg → Sg → Prop) (σX σY : Sg) (H : Heap) (locs : List Loc) (ls : Array Slot) (h0 : ∀ z, lwV z σX σY K) (hPX : va_P D vwCl (wl bX cs adX σX) H) (hPY : va_P D vwCl (wl bX cs adY σY) H) (hS : va_S (fNw s) s.heap H locs) (hl : lv_has ls 9 [(0, .ref b), (1, .ref (adX 0)), (2, .ref (adY 0)), (3, .int 1), (4, .int (nI j))]) (kk : ∀ (σX σY : Sg) (H : Heap) (locs : List Loc) (ls : Array Slot), K σX σY → va_P D vwCl (wl bX cs adX σX) H → va_P D vwCl (wl bX cs adY σY) H → va_S (fNw s) s.heap H locs → lv_has ls 9 [(0, .ref b), (1, .ref (adX 0)), (2, .ref (adY 0)), (3, .int 1), (4, .int (nI j))] → W p l e room_1 s m #[Value.ref b] below meth c H locs 600000 7302250 Q (F0 m 282 ls [])) : W p l e room_1 s m #[Value.ref b] below meth c H locs 600000 7302250 Q (F0 m 50 ls []) := by
  have hbA : ¬ (fNw s) b := Nat.not_le.mpr hbl
  have hapY := apt_sym hapX
  have hgXY : ∀ q, fXY adX adY q → fNw s q := fun q h => h.elim (hgX q) (hgY q)
  refine lv_aload_n hx hb dL_law_50 rfl (lv_at hl 0 rfl) ?_
  refine lv_iload hx hb dL_law_51 (lv_at hl 4 rfl) ?_
  refine va_calli (va_runS (As := [.ref b, .int (nI j)]) (rest := []) ⟨hx, hb, hml, hown, hts⟩ (c_L_cell l b L xs hL j hj21) (va_cwS 2 hts gL_law_L_cell rfl rfl rfl (by decide +kernel) ⟨Nat.le_of_ble_eq_true rfl, Nat.le_of_ble_eq_true rfl⟩) ⟨pcX_blind, fun U hU hW => ⟨rfl, va_X.moved hW.alike (hXs.kept (by rw [hU]; exact hS.2.1 b hbl hbA))⟩⟩ rfl rfl hl.1 rfl (lv_room (Nat.le_of_ble_eq_true rfl)) dL_law_53 ⟨Nat.le_refl _, Nat.le_refl _⟩) hS (fun q _ h => h.elim) (fun q h => h.elim) (fun z1 u t H1 locs1 ht _ _ _ _ hk hS1 => ?_)
  replace hPX := hPX.kept (H1 := H1) (fun k x hx => hk x.1 ((hPX k x hx).lt) (fun h => h))
  replace hPY := hPY.kept (H1 := H1) (fun k x hx => hk x.1 ((hPY k x hx).lt) (fun h => h))
  clear hS
  have hS := hS1
  have h := h0 z1
  unfold lwV at h
  refine lv_istore (i := 5) (lv' := [(5, .int z1), (0, .ref b), (1, .ref (adX 0)), (2, .ref (adY 0)), (3, .int 1), (4, .int (nI j))]) hx hb dL_law_56 hl (by decide) (by first | rfl | simp [cat_i, cat_l, cat_r]) (fun ls hl => ?_)
  refine lv_aload_n hx hb dL_law_58 rfl (lv_at hl 3 rfl) ?_
  refine lv_iload hx hb dL_law_59 (lv_at hl 0 rfl) ?_
  refine lv_bipush (v := 6) hx hb dL_law_61 (by decide) ?_
  refine lv_ishr hx hb dL_law_63 ?_
  refine l2_i (kS (As := [va_re adY (some 0), .int (z1 >>> (6 &&& 31))]) (rest := []) ⟨hx, hb, hml, hown, hts⟩ (c_L_refused l D cs adY (some 0) (z1 >>> (6 &&& 31)) σY _) (va_cwS 2 hts gL_law_L_refused rfl rfl rfl (by decide +kernel) ⟨Nat.le_of_ble_eq_true rfl, Nat.le_of_ble_eq_true rfl⟩) hEY hPY h rfl hl.1 rfl (lv_room (Nat.le_of_ble_eq_true rfl)) dL_law_64 ⟨Nat.le_refl _, Nat.le_refl _⟩) hS hgY hapY hPX (fun r2 σY H locs h hPY hPX hS => ?_)
  obtain ⟨e3, h⟩ := h
  refine lv_if_eq (tgt := 97) hx hb dL_law_67 (by decide) (fun c1 => absurd c1 e3) (fun _ => ?_)
  refine lv_aload_n hx hb dL_law_70 rfl (lv_at hl 2 rfl) ?_
  refine lv_iload hx hb dL_law_71 (lv_at hl 0 rfl) ?_
  obtain ⟨Q1, Q2, h1, h2, h⟩ := h
  refine l2_i (kS (As := [va_re adX (some 0), .int z1]) (rest := []) ⟨hx, hb, hml, hown, hts⟩ (c_L_turn l D cs adX (some 0) z1 σX _) (va_cwS 2 hts gL_law_L_turn rfl rfl rfl (by decide +kernel) ⟨Nat.le_of_ble_eq_true rfl, Nat.le_of_ble_eq_true rfl⟩) hEX hPX h1 rfl hl.1 rfl (lv_room (Nat.le_of_ble_eq_true rfl)) dL_law_73 ⟨Nat.le_refl _, Nat.le_refl _⟩) hS hgX hapX hPY (fun r4 σX H locs h1 hPX hPY hS => ?_)
  refine lv_aload_n hx hb dL_law_76 rfl (lv_at hl 3 rfl) ?_
  refine lv_iload hx hb dL_law_77 (lv_at hl 0 rfl) ?_
  refine l2_i (kS (As := [va_re adY (some 0), .int z1]) (rest := [.int r4]) ⟨hx, hb, hml, hown, hts⟩ (c_L_turn l D cs adY (some 0) z1 σY _) (va_cwS 2 hts gL_law_L_turn rfl rfl rfl (by decide +kernel) ⟨Nat.le_of_ble_eq_true rfl, Nat.le_of_ble_eq_true rfl⟩) hEY hPY h2 rfl hl.1 rfl (lv_room (Nat.le_of_ble_eq_true rfl)) dL_law_79 ⟨Nat.le_refl _, Nat.le_refl _⟩) hS hgY hapY hPX (fun r5 σY H locs h2 hPY hPX hS => ?_)
  replace h := h _ _ _ _ h1 h2
  obtain ⟨e6, h⟩ := h
  refine lv_icmp_ne (tgt := 97) hx hb dL_law_82 (by decide) (fun c1 => absurd e6 c1) (fun _ => ?_)
  refine lv_aload_n hx hb dL_law_85 rfl (lv_at hl 2 rfl) ?_
  refine lv_aload_n hx hb dL_law_86 rfl (lv_at hl 3 rfl) ?_
  refine va_calli (va_runS (As := [.ref (adX 0), .ref (adY 0)]) (rest := []) ⟨hx, hb, hml, hown, hts⟩ (c_L_same l D cs adX adY σX σY _) (va_cwS 2 hts gL_law_L_same rfl rfl rfl (by decide +kernel) ⟨Nat.le_of_ble_eq_true rfl, Nat.le_of_ble_eq_true rfl⟩) ⟨pcW_blind, fun U hU hW => ⟨rfl, by rw [hU]; exact hPX, by rw [hU]; exact hPY, hEX.warm hW, hEY.warm hW, hapX, h⟩⟩ rfl rfl hl.1 rfl (lv_room (Nat.le_of_ble_eq_true rfl)) dL_law_87 ⟨Nat.le_refl _, Nat.le_refl _⟩) hS (fun q _ h => hgXY q h) hgXY (fun r u t H locs ht _ hq hB _ _ hS => ?_)
  obtain ⟨σX, σY⟩ := u
  obtain ⟨er, h⟩ := hq
  subst er
  obtain ⟨hPX, hPY⟩ := hB
  rw [ht] at hPX hPY
  have h := h
  refine lv_if_eq (tgt := 97) hx hb dL_law_90 (by decide) (fun c1 => absurd c1 (by decide)) (fun _ => ?_)
  refine lv_iconst (v := 1) hx hb dL_law_93 (by decide) ?_
  refine lv_goto (tgt := 98) hx hb dL_law_94 (by decide) ?_
  refine lv_istore_n (i := 3) (lv' := [(3, .int 1), (5, .int z1), (0, .ref b), (1, .ref (adX 0)), (2, .ref (adY 0)), (4, .int (nI j))]) hx hb dL_law_98 rfl hl (by decide) (by first | rfl | simp [cat_i, cat_l, cat_r]) (fun ls hl => ?_)
  exact law_U hL hx hb hml hown hts hXs hbl hEX hEY hgX hgY hapX K σX σY H locs ls h hPX hPY hS (lv_sub hl [2, 3, 4, 0, 5, 1] rfl) kk
set_option maxHeartbeats 4000000 in
set_option maxRecDepth 100000 in
theorem law_loop {p : Program} {l : Launch} {e : Env} {s : State} {m : MethodId} {below : List Frame} {meth : Method} {c : Code} {D : va_G} {cs : Cs} {adX adY : Nat → Nat} {b L : Nat} {xs : Nat → Int32} (hL : L ≤ 260) (hx : p.tables.exec = Jvm.exec) (hb : c.code = code) (hml : c.maxLocals = 9) (hown : s.vm.findClass RL = some m.cls) (hts : ∀ w ∈ wsL_law, w.before #[Value.ref b] s = true) (hXs : va_X b L xs s s.heap) (hbl : b < s.heap.size) (hEX : Ev bX D cs adX s) (hEY : Ev bX D cs adY s) (hgX : ∀ q, fAd bX adX q → fNw s q) (hgY : ∀ q, fAd bX adY q → fNw s q) (hapX : apt adX adY) (hr : meth.sig.returnType = ret) (hlocks : meth.locks = false) (K : Sg → Sg → Prop) (hK : ∀ z σX σY, K σX σY → lwV z σX σY K) (hE : ∀ σX σY, K σX σY → ∃ Q1 Q2 : Int32 → Sg → Prop, p_X5_dry 0 σX Q1 ∧ p_X5_dry 0 σY Q2 ∧ ∀ r1 σX r2 σY, Q1 r1 σX → Q2 r2 σY → r1 = r2) : ∀ (n j : Nat), j + n = 20 → ∀ (σX σY : Sg) (H : Heap) (locs : List Loc) (ls : Array Slot), K σX σY → va_P D vwCl (wl bX cs adX σX) H → va_P D vwCl (wl bX cs adY σY) H → va_S (fNw s) s.heap H locs → lv_has ls 9 [(0, .ref b), (1, .ref (adX 0)), (2, .ref (adY 0)), (3, .int 1), (4, .int (nI j))] → W p l e room_1 s m #[Value.ref b] below meth c H locs 600000 7302250 (lw_Z below #[Value.ref b] s) (F0 m 39 ls []) := by
  intro n
  induction n with
  | zero =>
    intro j hj σX σY H locs ls hk hPX hPY hS hl
    have ej : j = 20 := by omega
    subst ej
    have hapY := apt_sym hapX
    have h := hE σX σY hk
    refine lv_iload hx hb dL_law_39 (lv_at hl 4 rfl) ?_
    refine lv_bipush (v := 20) hx hb dL_law_41 (by decide) ?_
    refine lv_icmp_ge (tgt := 288) hx hb dL_law_43 (by decide) (fun _ => ?_) (fun c1 => absurd (by decide) c1)
    refine lv_iload_n hx hb dL_law_288 rfl (lv_at hl 3 rfl) ?_
    refine lv_if_eq (tgt := 307) hx hb dL_law_289 (by decide) (fun c1 => absurd c1 (by decide)) (fun _ => ?_)
    refine lv_aload_n hx hb dL_law_292 rfl (lv_at hl 1 rfl) ?_
    obtain ⟨Q1, Q2, h1, h2, h⟩ := h
    refine l2_i (kV (As := []) (rest := []) (o := some 0) rfl ⟨hx, hb, hml, hown, hts⟩ (c_X5_dry l D cs adX 0  σX _ rfl) (cwV 0 hts gL_law_X5_dry rfl rfl rfl (by decide +kernel) ⟨Nat.le_of_ble_eq_true rfl, Nat.le_of_ble_eq_true rfl⟩) hEX hPX rfl rfl (w_4 hEX rfl) h1 rfl hl.1 rfl (lv_room (Nat.le_of_ble_eq_true rfl)) dL_law_293 ⟨Nat.le_refl _, Nat.le_refl _⟩) hS hgX hapX hPY (fun r1 σX H locs h1 hPX hPY hS => ?_)
    refine lv_aload_n hx hb dL_law_296 rfl (lv_at hl 2 rfl) ?_
    refine l2_i (kV (As := []) (rest := [.int r1]) (o := some 0) rfl ⟨hx, hb, hml, hown, hts⟩ (c_X5_dry l D cs adY 0  σY _ rfl) (cwV 0 hts gL_law_X5_dry rfl rfl rfl (by decide +kernel) ⟨Nat.le_of_ble_eq_true rfl, Nat.le_of_ble_eq_true rfl⟩) hEY hPY rfl rfl (w_4 hEY rfl) h2 rfl hl.1 rfl (lv_room (Nat.le_of_ble_eq_true rfl)) dL_law_297 ⟨Nat.le_refl _, Nat.le_refl _⟩) hS hgY hapY hPX (fun r2 σY H locs h2 hPY hPX hS => ?_)
    replace h := h _ _ _ _ h1 h2
    refine lv_icmp_ne (tgt := 307) hx hb dL_law_300 (by decide) (fun c1 => absurd h c1) (fun _ => ?_)
    refine lv_iconst (v := 1) hx hb dL_law_303 (by decide) ?_
    refine lv_goto (tgt := 308) hx hb dL_law_304 (by decide) ?_
    refine va_forget (fun q hq => hS.2.2 q hq) ?_
    exact lw_ret hx hb hr hlocks dL_law_308
  | succ n ih =>
    intro j hj σX σY H locs ls hk hPX hPY hS hl
    refine lv_iload hx hb dL_law_39 (lv_at hl 4 rfl) ?_
    refine lv_bipush (v := 20) hx hb dL_law_41 (by decide) ?_
    refine lv_icmp_ge (tgt := 288) hx hb dL_law_43 (by decide) (fun c1 => absurd c1 (nI_ge (b := 20) (by omega) (by decide))) (fun _ => ?_)
    refine lv_iload_n hx hb dL_law_46 rfl (lv_at hl 3 rfl) ?_
    refine lv_if_eq (tgt := 288) hx hb dL_law_47 (by decide) (fun c1 => absurd c1 (by decide)) (fun _ => ?_)
    refine law_V hL hx hb hml hown hts hXs hbl hEX hEY hgX hgY hapX (by omega) K σX σY H locs ls (fun z => hK z σX σY hk) hPX hPY hS hl (fun σX σY H locs ls hk hPX hPY hS hl => ?_)
    refine lv_iinc (v := nI (j + 1)) (lv' := [(4, .int (nI (j + 1))), (0, .ref b), (1, .ref (adX 0)), (2, .ref (adY 0)), (3, .int 1)]) hx hb dL_law_282 hl (k := 4) rfl (nI_add j 1) (by decide) rfl (fun ls hl => ?_)
    refine lv_goto (tgt := 39) hx hb dL_law_285 (by decide) ?_
    exact ih (j + 1) (by omega) σX σY H locs ls hk hPX hPY hS (lv_sub hl [1, 2, 3, 4, 0] rfl)
