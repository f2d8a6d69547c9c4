def lwR (z n : Int32) (d : Int64) (σX σY : Sg) (K : Sg → Sg → Prop) : Prop := p_X5_digest 0 σY (fun r1 σY => r1 = d ∧ pSame σX σY (fun σX σY => p_X5_keep 0 2 σY (fun r3 σY => r3 = n ∧ p_X5_lots 0 2 ((1 : Int32) + ((z >>> (3 &&& 31)) &&& 268435455)) σY (fun r5 σY => ¬ r5 < 0 ∧ p_X5_on 0 2 σY (fun r7 σY => r7 = n ∧ p_X5_keep 0 2 σX (fun r9 σX => r9 = n ∧ pSame σX σY (fun σX σY => K σX σY)))))))
set_option maxHeartbeats 4000000 in
set_option maxRecDepth 100000 in
theorem law_R {p : Program} {l : Launch} {e : Env} {s : State} {m : MethodId} {below : List Frame} {meth : Method} {c : Code} {D : va_G} {cs : Cs} {adX adY : Nat → Nat} {b L : Nat} {xs : Nat → Int32} (hL : L ≤ 260) (hx : p.tables.exec = Jvm.exec) (hb : c.code = code) (hml : c.maxLocals = 9) (hown : s.vm.findClass RL = some m.cls) (hts : ∀ w ∈ wsL_law, w.before #[Value.ref b] s = true) (hXs : va_X b L xs s s.heap) (hbl : b < s.heap.size) (hEX : Ev bX D cs adX s) (hEY : Ev bX D cs adY s) (hgX : ∀ q, fAd bX adX q → fNw s q) (hgY : ∀ q, fAd bX adY q → fNw s q) (hapX : apt adX adY) {Q : State → Prop} {j : Nat} {z n : Int32} {d : Int64} (K : Sg → Sg → Prop) (σX σY : Sg) (H : Heap) (locs : List Loc) (ls : Array Slot) (h : lwR z n d σX σY K) (hPX : va_P D vwCl (wl bX cs adX σX) H) (hPY : va_P D vwCl (wl bX cs adY σY) H) (hS : va_S (fNw s) s.heap H locs) (hl : lv_has ls 9 [(0, .ref b), (1, .ref (adX 0)), (2, .ref (adY 0)), (3, .int 1), (4, .int (nI j)), (5, .int z), (6, .int n), (7, .long d)]) (kk : ∀ (σX σY : Sg) (H : Heap) (locs : List Loc) (ls : Array Slot), K σX σY → va_P D vwCl (wl bX cs adX σX) H → va_P D vwCl (wl bX cs adY σY) H → va_S (fNw s) s.heap H locs → lv_has ls 9 [(0, .ref b), (1, .ref (adX 0)), (2, .ref (adY 0)), (3, .int 1), (4, .int (nI j))] → W p l e room_1 s m #[Value.ref b] below meth c H locs 600000 7302250 Q (F0 m 282 ls [])) : W p l e room_1 s m #[Value.ref b] below meth c H locs 600000 7302250 Q (F0 m 193 ls []) := by
  have hbA : ¬ (fNw s) b := Nat.not_le.mpr hbl
  have hapY := apt_sym hapX
  have hgXY : ∀ q, fXY adX adY q → fNw s q := fun q h => h.elim (hgX q) (hgY q)
  unfold lwR at h
  refine lv_iconst (v := 1) hx hb dL_law_193 (by decide) ?_
  refine lv_goto (tgt := 198) hx hb dL_law_194 (by decide) ?_
  refine lv_istore_n (i := 3) (lv' := [(3, .int 1), (0, .ref b), (1, .ref (adX 0)), (2, .ref (adY 0)), (4, .int (nI j)), (5, .int z), (6, .int n), (7, .long d)]) hx hb dL_law_198 rfl hl (by decide) (by first | rfl | simp [cat_i, cat_l, cat_r]) (fun ls hl => ?_)
  refine lv_iload_n hx hb dL_law_199 rfl (lv_at hl 0 rfl) ?_
  refine lv_if_eq (tgt := 280) hx hb dL_law_200 (by decide) (fun c1 => absurd c1 (by decide)) (fun _ => ?_)
  refine lv_aload_n hx hb dL_law_203 rfl (lv_at hl 3 rfl) ?_
  refine l2_l (kV (As := []) (rest := []) (o := some 0) rfl ⟨hx, hb, hml, hown, hts⟩ (c_X5_digest l D cs adY 0  σY _ rfl) (cwV 0 hts gL_law_X5_digest rfl rfl rfl (by decide +kernel) ⟨Nat.le_of_ble_eq_true rfl, Nat.le_of_ble_eq_true rfl⟩) hEY hPY rfl rfl (w_4 hEY rfl) h rfl hl.1 rfl (lv_room (Nat.le_of_ble_eq_true rfl)) dL_law_204 ⟨Nat.le_refl _, Nat.le_refl _⟩) hS hgY hapY hPX (fun r1 σY H locs h hPY hPX hS => ?_)
  refine lv_lload hx hb dL_law_207 (lv_at hl 7 rfl) ?_
  refine W.lcmp hx hb dL_law_209 ?_
  obtain ⟨e2, h⟩ := h
  refine lv_if_ne (tgt := 280) hx hb dL_law_210 (by decide) (fun c1 => absurd (by rw [e2]; exact lg_self _) c1) (fun _ => ?_)
  refine lv_aload_n hx hb dL_law_213 rfl (lv_at hl 2 rfl) ?_
  refine lv_aload_n hx hb dL_law_214 rfl (lv_at hl 3 rfl) ?_
  refine va_calli (va_runS (As := [.ref (adX 0), .ref (adY 0)]) (rest := []) ⟨hx, hb, hml, hown, hts⟩ (c_L_same l D cs adX adY σX σY _) (va_cwS 2 hts gL_law_L_same rfl rfl rfl (by decide +kernel) ⟨Nat.le_of_ble_eq_true rfl, Nat.le_of_ble_eq_true rfl⟩) ⟨pcW_blind, fun U hU hW => ⟨rfl, by rw [hU]; exact hPX, by rw [hU]; exact hPY, hEX.warm hW, hEY.warm hW, hapX, h⟩⟩ rfl rfl hl.1 rfl (lv_room (Nat.le_of_ble_eq_true rfl)) dL_law_215 ⟨Nat.le_refl _, Nat.le_refl _⟩) hS (fun q _ h => hgXY q h) hgXY (fun r u t H locs ht _ hq hB _ _ hS => ?_)
  obtain ⟨σX, σY⟩ := u
  obtain ⟨er, h⟩ := hq
  subst er
  obtain ⟨hPX, hPY⟩ := hB
  rw [ht] at hPX hPY
  have h := h
  refine lv_if_eq (tgt := 280) hx hb dL_law_218 (by decide) (fun c1 => absurd c1 (by decide)) (fun _ => ?_)
  refine lv_aload_n hx hb dL_law_221 rfl (lv_at hl 3 rfl) ?_
  refine lv_iconst (v := 2) hx hb dL_law_222 (by decide) ?_
  refine l2_i (kV (As := [.int 2]) (rest := []) (o := some 0) rfl ⟨hx, hb, hml, hown, hts⟩ (c_X5_keep l D cs adY 0 2 σY _ rfl) (cwV 1 hts gL_law_X5_keep rfl rfl rfl (by decide +kernel) ⟨Nat.le_of_ble_eq_true rfl, Nat.le_of_ble_eq_true rfl⟩) hEY hPY rfl rfl (w_4 hEY rfl) h rfl hl.1 rfl (lv_room (Nat.le_of_ble_eq_true rfl)) dL_law_223 ⟨Nat.le_refl _, Nat.le_refl _⟩) hS hgY hapY hPX (fun r3 σY H locs h hPY hPX hS => ?_)
  refine lv_iload hx hb dL_law_226 (lv_at hl 6 rfl) ?_
  obtain ⟨e4, h⟩ := h
  refine lv_icmp_ne (tgt := 280) hx hb dL_law_228 (by decide) (fun c1 => absurd e4 c1) (fun _ => ?_)
  refine lv_aload_n hx hb dL_law_231 rfl (lv_at hl 3 rfl) ?_
  refine lv_iconst (v := 2) hx hb dL_law_232 (by decide) ?_
  refine lv_iconst (v := 1) hx hb dL_law_233 (by decide) ?_
  refine lv_iload hx hb dL_law_234 (lv_at hl 5 rfl) ?_
  refine lv_iconst (v := 3) hx hb dL_law_236 (by decide) ?_
  refine lv_ishr hx hb dL_law_237 ?_
  refine lv_ldc (v := 268435455) hx hb hown (hts (.constant RL 168 (268435455)) (by decide +kernel)) dL_law_238 ?_
  refine lv_iand hx hb dL_law_240 ?_
  refine lv_iadd hx hb dL_law_241 ?_
  refine l2_i (kV (As := [.int 2, .int ((1 : Int32) + ((z >>> (3 &&& 31)) &&& 268435455))]) (rest := []) (o := some 0) rfl ⟨hx, hb, hml, hown, hts⟩ (c_X5_lots l D cs adY 0 2 ((1 : Int32) + ((z >>> (3 &&& 31)) &&& 268435455)) σY _ rfl) (cwV 2 hts gL_law_X5_lots rfl rfl rfl (by decide +kernel) ⟨Nat.le_of_ble_eq_true rfl, Nat.le_of_ble_eq_true rfl⟩) hEY hPY rfl rfl (w_4 hEY rfl) h rfl hl.1 rfl (lv_room (Nat.le_of_ble_eq_true rfl)) dL_law_242 ⟨Nat.le_refl _, Nat.le_refl _⟩) hS hgY hapY hPX (fun r5 σY H locs h hPY hPX hS => ?_)
  obtain ⟨e6, h⟩ := h
  refine lv_if_lt (tgt := 280) hx hb dL_law_245 (by decide) (fun c1 => absurd c1 e6) (fun _ => ?_)
  refine lv_aload_n hx hb dL_law_248 rfl (lv_at hl 3 rfl) ?_
  refine lv_iconst (v := 2) hx hb dL_law_249 (by decide) ?_
  refine l2_i (kV (As := [.int 2]) (rest := []) (o := some 0) rfl ⟨hx, hb, hml, hown, hts⟩ (c_X5_on l D cs adY 0 2 σY _ rfl) (cwV 1 hts gL_law_X5_on rfl rfl rfl (by decide +kernel) ⟨Nat.le_of_ble_eq_true rfl, Nat.le_of_ble_eq_true rfl⟩) hEY hPY rfl rfl (w_4 hEY rfl) h rfl hl.1 rfl (lv_room (Nat.le_of_ble_eq_true rfl)) dL_law_250 ⟨Nat.le_refl _, Nat.le_refl _⟩) hS hgY hapY hPX (fun r7 σY H locs h hPY hPX hS => ?_)
  refine lv_iload hx hb dL_law_253 (lv_at hl 6 rfl) ?_
  obtain ⟨e8, h⟩ := h
  refine lv_icmp_ne (tgt := 280) hx hb dL_law_255 (by decide) (fun c1 => absurd e8 c1) (fun _ => ?_)
  refine lv_aload_n hx hb dL_law_258 rfl (lv_at hl 2 rfl) ?_
  refine lv_iconst (v := 2) hx hb dL_law_259 (by decide) ?_
  refine l2_i (kV (As := [.int 2]) (rest := []) (o := some 0) rfl ⟨hx, hb, hml, hown, hts⟩ (c_X5_keep l D cs adX 0 2 σX _ rfl) (cwV 1 hts gL_law_X5_keep rfl rfl rfl (by decide +kernel) ⟨Nat.le_of_ble_eq_true rfl, Nat.le_of_ble_eq_true rfl⟩) hEX hPX rfl rfl (w_4 hEX rfl) h rfl hl.1 rfl (lv_room (Nat.le_of_ble_eq_true rfl)) dL_law_260 ⟨Nat.le_refl _, Nat.le_refl _⟩) hS hgX hapX hPY (fun r9 σX H locs h hPX hPY hS => ?_)
  refine lv_iload hx hb dL_law_263 (lv_at hl 6 rfl) ?_
  obtain ⟨e10, h⟩ := h
  refine lv_icmp_ne (tgt := 280) hx hb dL_law_265 (by decide) (fun c1 => absurd e10 c1) (fun _ => ?_)
  refine lv_aload_n hx hb dL_law_268 rfl (lv_at hl 2 rfl) ?_
  refine lv_aload_n hx hb dL_law_269 rfl (lv_at hl 3 rfl) ?_
  refine va_calli (va_runS (As := [.ref (adX 0), .ref (adY 0)]) (rest := []) ⟨hx, hb, hml, hown, hts⟩ (c_L_same l D cs adX adY σX σY _) (va_cwS 2 hts gL_law_L_same rfl rfl rfl (by decide +kernel) ⟨Nat.le_of_ble_eq_true rfl, Nat.le_of_ble_eq_true rfl⟩) ⟨pcW_blind, fun U hU hW => ⟨rfl, by rw [hU]; exact hPX, by rw [hU]; exact hPY, hEX.warm hW, hEY.warm hW, hapX, h⟩⟩ rfl rfl hl.1 rfl (lv_room (Nat.le_of_ble_eq_true rfl)) dL_law_270 ⟨Nat.le_refl _, Nat.le_refl _⟩) hS (fun q _ h => hgXY q h) hgXY (fun r u t H locs ht _ hq hB _ _ hS => ?_)
  obtain ⟨σX, σY⟩ := u
  obtain ⟨er, h⟩ := hq
  subst er
  obtain ⟨hPX, hPY⟩ := hB
  rw [ht] at hPX hPY
  have h := h
  refine lv_if_eq (tgt := 280) hx hb dL_law_273 (by decide) (fun c1 => absurd c1 (by decide)) (fun _ => ?_)
  refine lv_iconst (v := 1) hx hb dL_law_276 (by decide) ?_
  refine lv_goto (tgt := 281) hx hb dL_law_277 (by decide) ?_
  refine lv_istore_n (i := 3) (lv' := [(3, .int 1), (0, .ref b), (1, .ref (adX 0)), (2, .ref (adY 0)), (4, .int (nI j)), (5, .int z), (6, .int n), (7, .long d)]) hx hb dL_law_281 rfl hl (by decide) (by first | rfl | simp [cat_i, cat_l, cat_r]) (fun ls hl => ?_)
  exact kk σX σY H locs ls h hPX hPY hS (lv_sub hl [1, 2, 3, 0, 4] rfl)
