set_option maxHeartbeats 4000000 in
set_option maxRecDepth 100000 in
theorem lc_0 {p : Program} {l : Launch} {e : Env} {s : State} {m : MethodId} {below : List Frame} {meth : Method} {c : Code} {D : va_G} {cs : Cs} {adX adM : Nat → Nat} {b L : Nat} {xs : Nat → Int32} (hx : p.tables.exec = Jvm.exec) (hb : c.code = code) (hml : c.maxLocals = 4) (hown : s.vm.findClass RL = some m.cls) (hts : ∀ w ∈ wsL_law, w.before #[Value.ref b] s = true) (hXs : va_X b L xs s s.heap) (hbl : b < s.heap.size) (hEX : Ev bX D cs adX s) (hEM : Ev bM D cs adM s) (hgX : ∀ k, k < 85 → s.heap.size ≤ adX k) (hgM : ∀ k, k < 29 → s.heap.size ≤ adM k) (hap : apt adX adM) {Q : State → Prop} {x3 : Int32} (hin1 : vp_in (x3 + 1) L) (hin2 : vp_in (x3 + 2) L) (hin3 : vp_in (x3 + 3) L) (hin4 : vp_in (x3 + 4) L) (hin5 : vp_in (x3 + 5) L) (K : Sg → Sg → Prop) (σX σM : Sg) (H : Heap) (locs : List Loc) (ls : Array Slot) (h : lw_0 (xs (x3 + 1).toNatClampNeg) (xs (x3 + 2).toNatClampNeg) (xs (x3 + 3).toNatClampNeg) (xs (x3 + 4).toNatClampNeg) (xs (x3 + 5).toNatClampNeg) σX σM K) (hPX : va_P D vwCl (wl bX cs adX σX) H) (hPM : va_P D vwCl (wl bM cs adM σM) H) (hS : va_S (fNw s) s.heap H locs) (hl : lv_has ls 4 [(0, .ref b), (1, .ref (adX 0)), (2, .ref (adM 0)), (3, .int x3)]) (kk : ∀ (σX σM : Sg) (H : Heap) (locs : List Loc) (ls : Array Slot), K σX σM → va_P D vwCl (wl bX cs adX σX) H → va_P D vwCl (wl bM cs adM σM) H → va_S (fNw s) s.heap H locs → lv_has ls 4 [(0, .ref b), (1, .ref (adX 0)), (2, .ref (adM 0)), (3, .int x3)] → W p l e room_1 s m #[Value.ref b] below meth c H locs 600000 7302250 Q (F0 m 1402 ls [])) : W p l e room_1 s m #[Value.ref b] below meth c H locs 600000 7302250 Q (F0 m 220 ls []) := by
  have hbA : ¬ (fNw s) b := Nat.not_le.mpr hbl
  have hap2 : ∀ i j, i < bM.1 → j < bX.1 → adM i ≠ adX j := fun i j hi hj q => hap j i hj hi q.symm
  unfold lw_0 at h
  refine lv_aload_n hx hb dL_law_220 rfl (lv_at hl 1 rfl) ?_
  refine lv_aload_n hx hb dL_law_221 rfl (lv_at hl 0 rfl) ?_
  refine lv_iload_n hx hb dL_law_222 rfl (lv_at hl 3 rfl) ?_
  refine lv_iconst (v := 1) hx hb dL_law_223 (by decide) ?_
  refine lv_iadd hx hb dL_law_224 ?_
  refine va_sld hx hb hXs hbl hbA hS hin1 dL_law_225 ?_
  refine lv_aload_n hx hb dL_law_226 rfl (lv_at hl 0 rfl) ?_
  refine lv_iload_n hx hb dL_law_227 rfl (lv_at hl 3 rfl) ?_
  refine lv_iconst (v := 2) hx hb dL_law_228 (by decide) ?_
  refine lv_iadd hx hb dL_law_229 ?_
  refine va_sld hx hb hXs hbl hbA hS hin2 dL_law_230 ?_
  refine lw_i (B := bX) (B2 := bM) (σ2 := σM) (kV (As := [.int (xs (x3 + 1).toNatClampNeg), .int (xs (x3 + 2).toNatClampNeg)]) (rest := []) (o := some 0) rfl ⟨hx, hb, hml, hown, hts⟩ (c_X5_row l D cs adX 0 (xs (x3 + 1).toNatClampNeg) (xs (x3 + 2).toNatClampNeg) σX _ rfl) (cwV 2 hts gL_law_X5_row rfl rfl rfl (by decide +kernel) ⟨Nat.le_of_ble_eq_true rfl, Nat.le_of_ble_eq_true rfl⟩) hEX hPX rfl rfl (w_4 hEX rfl) h rfl hl.1 rfl (lv_room (Nat.le_of_ble_eq_true rfl)) dL_law_231 ⟨Nat.le_refl _, Nat.le_refl _⟩) hS hgX hap hPM (fun rX σX H locs h hPX hPM hS => ?_)
  refine lv_aload_n hx hb dL_law_234 rfl (lv_at hl 2 rfl) ?_
  refine lv_aload_n hx hb dL_law_235 rfl (lv_at hl 0 rfl) ?_
  refine lv_iload_n hx hb dL_law_236 rfl (lv_at hl 3 rfl) ?_
  refine lv_iconst (v := 1) hx hb dL_law_237 (by decide) ?_
  refine lv_iadd hx hb dL_law_238 ?_
  refine va_sld hx hb hXs hbl hbA hS hin1 dL_law_239 ?_
  refine lv_aload_n hx hb dL_law_240 rfl (lv_at hl 0 rfl) ?_
  refine lv_iload_n hx hb dL_law_241 rfl (lv_at hl 3 rfl) ?_
  refine lv_iconst (v := 2) hx hb dL_law_242 (by decide) ?_
  refine lv_iadd hx hb dL_law_243 ?_
  refine va_sld hx hb hXs hbl hbA hS hin2 dL_law_244 ?_
  refine lw_i (B := bM) (B2 := bX) (σ2 := σX) (kV (As := [.int (xs (x3 + 1).toNatClampNeg), .int (xs (x3 + 2).toNatClampNeg)]) (rest := [.int rX]) (o := some 0) rfl ⟨hx, hb, hml, hown, hts⟩ (c_X6_row l D cs adM 0 (xs (x3 + 1).toNatClampNeg) (xs (x3 + 2).toNatClampNeg) σM _ rfl) (cwV 2 hts gL_law_X6_row rfl rfl rfl (by decide +kernel) ⟨Nat.le_of_ble_eq_true rfl, Nat.le_of_ble_eq_true rfl⟩) hEM hPM rfl rfl (w_5 hEM rfl) h rfl hl.1 rfl (lv_room (Nat.le_of_ble_eq_true rfl)) dL_law_245 ⟨Nat.le_refl _, Nat.le_refl _⟩) hS hgM hap2 hPX (fun rM σM H locs h hPM hPX hS => ?_)
  obtain ⟨he, h⟩ := h
  refine lv_icmp_eq (tgt := 1402) hx hb dL_law_248 (by decide) (fun _ => ?_) (fun c1 => ?_)
  · exact kk σX σM H locs ls h hPX hPM hS hl
  · exact absurd he c1
set_option maxHeartbeats 4000000 in
set_option maxRecDepth 100000 in
theorem lc_1 {p : Program} {l : Launch} {e : Env} {s : State} {m : MethodId} {below : List Frame} {meth : Method} {c : Code} {D : va_G} {cs : Cs} {adX adM : Nat → Nat} {b L : Nat} {xs : Nat → Int32} (hx : p.tables.exec = Jvm.exec) (hb : c.code = code) (hml : c.maxLocals = 4) (hown : s.vm.findClass RL = some m.cls) (hts : ∀ w ∈ wsL_law, w.before #[Value.ref b] s = true) (hXs : va_X b L xs s s.heap) (hbl : b < s.heap.size) (hEX : Ev bX D cs adX s) (hEM : Ev bM D cs adM s) (hgX : ∀ k, k < 85 → s.heap.size ≤ adX k) (hgM : ∀ k, k < 29 → s.heap.size ≤ adM k) (hap : apt adX adM) {Q : State → Prop} {x3 : Int32} (hin1 : vp_in (x3 + 1) L) (hin2 : vp_in (x3 + 2) L) (hin3 : vp_in (x3 + 3) L) (hin4 : vp_in (x3 + 4) L) (hin5 : vp_in (x3 + 5) L) (K : Sg → Sg → Prop) (σX σM : Sg) (H : Heap) (locs : List Loc) (ls : Array Slot) (h : lw_1 (xs (x3 + 1).toNatClampNeg) (xs (x3 + 2).toNatClampNeg) (xs (x3 + 3).toNatClampNeg) (xs (x3 + 4).toNatClampNeg) (xs (x3 + 5).toNatClampNeg) σX σM K) (hPX : va_P D vwCl (wl bX cs adX σX) H) (hPM : va_P D vwCl (wl bM cs adM σM) H) (hS : va_S (fNw s) s.heap H locs) (hl : lv_has ls 4 [(0, .ref b), (1, .ref (adX 0)), (2, .ref (adM 0)), (3, .int x3)]) (kk : ∀ (σX σM : Sg) (H : Heap) (locs : List Loc) (ls : Array Slot), K σX σM → va_P D vwCl (wl bX cs adX σX) H → va_P D vwCl (wl bM cs adM σM) H → va_S (fNw s) s.heap H locs → lv_has ls 4 [(0, .ref b), (1, .ref (adX 0)), (2, .ref (adM 0)), (3, .int x3)] → W p l e room_1 s m #[Value.ref b] below meth c H locs 600000 7302250 Q (F0 m 1402 ls [])) : W p l e room_1 s m #[Value.ref b] below meth c H locs 600000 7302250 Q (F0 m 253 ls []) := by
  have hbA : ¬ (fNw s) b := Nat.not_le.mpr hbl
  have hap2 : ∀ i j, i < bM.1 → j < bX.1 → adM i ≠ adX j := fun i j hi hj q => hap j i hj hi q.symm
  unfold lw_1 at h
  refine lv_aload_n hx hb dL_law_253 rfl (lv_at hl 1 rfl) ?_
  refine lv_aload_n hx hb dL_law_254 rfl (lv_at hl 0 rfl) ?_
  refine lv_iload_n hx hb dL_law_255 rfl (lv_at hl 3 rfl) ?_
  refine lv_iconst (v := 1) hx hb dL_law_256 (by decide) ?_
  refine lv_iadd hx hb dL_law_257 ?_
  refine va_sld hx hb hXs hbl hbA hS hin1 dL_law_258 ?_
  refine lv_aload_n hx hb dL_law_259 rfl (lv_at hl 0 rfl) ?_
  refine lv_iload_n hx hb dL_law_260 rfl (lv_at hl 3 rfl) ?_
  refine lv_iconst (v := 2) hx hb dL_law_261 (by decide) ?_
  refine lv_iadd hx hb dL_law_262 ?_
  refine va_sld hx hb hXs hbl hbA hS hin2 dL_law_263 ?_
  refine lv_aload_n hx hb dL_law_264 rfl (lv_at hl 0 rfl) ?_
  refine lv_iload_n hx hb dL_law_265 rfl (lv_at hl 3 rfl) ?_
  refine lv_iconst (v := 3) hx hb dL_law_266 (by decide) ?_
  refine lv_iadd hx hb dL_law_267 ?_
  refine va_sld hx hb hXs hbl hbA hS hin3 dL_law_268 ?_
  refine lw_i (B := bX) (B2 := bM) (σ2 := σM) (kV (As := [.int (xs (x3 + 1).toNatClampNeg), .int (xs (x3 + 2).toNatClampNeg), .int (xs (x3 + 3).toNatClampNeg)]) (rest := []) (o := some 0) rfl ⟨hx, hb, hml, hown, hts⟩ (c_X5_lay l D cs adX 0 (xs (x3 + 1).toNatClampNeg) (xs (x3 + 2).toNatClampNeg) (xs (x3 + 3).toNatClampNeg) σX _ rfl) (cwV 3 hts gL_law_X5_lay rfl rfl rfl (by decide +kernel) ⟨Nat.le_of_ble_eq_true rfl, Nat.le_of_ble_eq_true rfl⟩) hEX hPX rfl rfl (w_4 hEX rfl) h rfl hl.1 rfl (lv_room (Nat.le_of_ble_eq_true rfl)) dL_law_269 ⟨Nat.le_refl _, Nat.le_refl _⟩) hS hgX hap hPM (fun rX σX H locs h hPX hPM hS => ?_)
  refine lv_aload_n hx hb dL_law_272 rfl (lv_at hl 2 rfl) ?_
  refine lv_aload_n hx hb dL_law_273 rfl (lv_at hl 0 rfl) ?_
  refine lv_iload_n hx hb dL_law_274 rfl (lv_at hl 3 rfl) ?_
  refine lv_iconst (v := 1) hx hb dL_law_275 (by decide) ?_
  refine lv_iadd hx hb dL_law_276 ?_
  refine va_sld hx hb hXs hbl hbA hS hin1 dL_law_277 ?_
  refine lv_aload_n hx hb dL_law_278 rfl (lv_at hl 0 rfl) ?_
  refine lv_iload_n hx hb dL_law_279 rfl (lv_at hl 3 rfl) ?_
  refine lv_iconst (v := 2) hx hb dL_law_280 (by decide) ?_
  refine lv_iadd hx hb dL_law_281 ?_
  refine va_sld hx hb hXs hbl hbA hS hin2 dL_law_282 ?_
  refine lv_aload_n hx hb dL_law_283 rfl (lv_at hl 0 rfl) ?_
  refine lv_iload_n hx hb dL_law_284 rfl (lv_at hl 3 rfl) ?_
  refine lv_iconst (v := 3) hx hb dL_law_285 (by decide) ?_
  refine lv_iadd hx hb dL_law_286 ?_
  refine va_sld hx hb hXs hbl hbA hS hin3 dL_law_287 ?_
  refine lw_i (B := bM) (B2 := bX) (σ2 := σX) (kV (As := [.int (xs (x3 + 1).toNatClampNeg), .int (xs (x3 + 2).toNatClampNeg), .int (xs (x3 + 3).toNatClampNeg)]) (rest := [.int rX]) (o := some 0) rfl ⟨hx, hb, hml, hown, hts⟩ (c_X6_lay l D cs adM 0 (xs (x3 + 1).toNatClampNeg) (xs (x3 + 2).toNatClampNeg) (xs (x3 + 3).toNatClampNeg) σM _ rfl) (cwV 3 hts gL_law_X6_lay rfl rfl rfl (by decide +kernel) ⟨Nat.le_of_ble_eq_true rfl, Nat.le_of_ble_eq_true rfl⟩) hEM hPM rfl rfl (w_5 hEM rfl) h rfl hl.1 rfl (lv_room (Nat.le_of_ble_eq_true rfl)) dL_law_288 ⟨Nat.le_refl _, Nat.le_refl _⟩) hS hgM hap2 hPX (fun rM σM H locs h hPM hPX hS => ?_)
  obtain ⟨he, h⟩ := h
  refine lv_icmp_eq (tgt := 1402) hx hb dL_law_291 (by decide) (fun _ => ?_) (fun c1 => ?_)
  · exact kk σX σM H locs ls h hPX hPM hS hl
  · exact absurd he c1
set_option maxHeartbeats 4000000 in
set_option maxRecDepth 100000 in
theorem lc_2 {p : Program} {l : Launch} {e : Env} {s : State} {m : MethodId} {below : List Frame} {meth : Method} {c : Code} {D : va_G} {cs : Cs} {adX adM : Nat → Nat} {b L : Nat} {xs : Nat → Int32} (hx : p.tables.exec = Jvm.exec) (hb : c.code = code) (hml : c.maxLocals = 4) (hown : s.vm.findClass RL = some m.cls) (hts : ∀ w ∈ wsL_law, w.before #[Value.ref b] s = true) (hXs : va_X b L xs s s.heap) (hbl : b < s.heap.size) (hEX : Ev bX D cs adX s) (hEM : Ev bM D cs adM s) (hgX : ∀ k, k < 85 → s.heap.size ≤ adX k) (hgM : ∀ k, k < 29 → s.heap.size ≤ adM k) (hap : apt adX adM) {Q : State → Prop} {x3 : Int32} (hin1 : vp_in (x3 + 1) L) (hin2 : vp_in (x3 + 2) L) (hin3 : vp_in (x3 + 3) L) (hin4 : vp_in (x3 + 4) L) (hin5 : vp_in (x3 + 5) L) (K : Sg → Sg → Prop) (σX σM : Sg) (H : Heap) (locs : List Loc) (ls : Array Slot) (h : lw_2 (xs (x3 + 1).toNatClampNeg) (xs (x3 + 2).toNatClampNeg) (xs (x3 + 3).toNatClampNeg) (xs (x3 + 4).toNatClampNeg) (xs (x3 + 5).toNatClampNeg) σX σM K) (hPX : va_P D vwCl (wl bX cs adX σX) H) (hPM : va_P D vwCl (wl bM cs adM σM) H) (hS : va_S (fNw s) s.heap H locs) (hl : lv_has ls 4 [(0, .ref b), (1, .ref (adX 0)), (2, .ref (adM 0)), (3, .int x3)]) (kk : ∀ (σX σM : Sg) (H : Heap) (locs : List Loc) (ls : Array Slot), K σX σM → va_P D vwCl (wl bX cs adX σX) H → va_P D vwCl (wl bM cs adM σM) H → va_S (fNw s) s.heap H locs → lv_has ls 4 [(0, .ref b), (1, .ref (adX 0)), (2, .ref (adM 0)), (3, .int x3)] → W p l e room_1 s m #[Value.ref b] below meth c H locs 600000 7302250 Q (F0 m 1402 ls [])) : W p l e room_1 s m #[Value.ref b] below meth c H locs 600000 7302250 Q (F0 m 296 ls []) := by
  have hbA : ¬ (fNw s) b := Nat.not_le.mpr hbl
  have hap2 : ∀ i j, i < bM.1 → j < bX.1 → adM i ≠ adX j := fun i j hi hj q => hap j i hj hi q.symm
  unfold lw_2 at h
  refine lv_aload_n hx hb dL_law_296 rfl (lv_at hl 1 rfl) ?_
  refine lv_aload_n hx hb dL_law_297 rfl (lv_at hl 0 rfl) ?_
  refine lv_iload_n hx hb dL_law_298 rfl (lv_at hl 3 rfl) ?_
  refine lv_iconst (v := 1) hx hb dL_law_299 (by decide) ?_
  refine lv_iadd hx hb dL_law_300 ?_
  refine va_sld hx hb hXs hbl hbA hS hin1 dL_law_301 ?_
  refine lv_aload_n hx hb dL_law_302 rfl (lv_at hl 0 rfl) ?_
  refine lv_iload_n hx hb dL_law_303 rfl (lv_at hl 3 rfl) ?_
  refine lv_iconst (v := 2) hx hb dL_law_304 (by decide) ?_
  refine lv_iadd hx hb dL_law_305 ?_
  refine va_sld hx hb hXs hbl hbA hS hin2 dL_law_306 ?_
  refine lw_i (B := bX) (B2 := bM) (σ2 := σM) (kV (As := [.int (xs (x3 + 1).toNatClampNeg), .int (xs (x3 + 2).toNatClampNeg)]) (rest := []) (o := some 0) rfl ⟨hx, hb, hml, hown, hts⟩ (c_X5_at l D cs adX 0 (xs (x3 + 1).toNatClampNeg) (xs (x3 + 2).toNatClampNeg) σX _ rfl) (cwV 2 hts gL_law_X5_at rfl rfl rfl (by decide +kernel) ⟨Nat.le_of_ble_eq_true rfl, Nat.le_of_ble_eq_true rfl⟩) hEX hPX rfl rfl (w_4 hEX rfl) h rfl hl.1 rfl (lv_room (Nat.le_of_ble_eq_true rfl)) dL_law_307 ⟨Nat.le_refl _, Nat.le_refl _⟩) hS hgX hap hPM (fun rX σX H locs h hPX hPM hS => ?_)
  refine lv_aload_n hx hb dL_law_310 rfl (lv_at hl 2 rfl) ?_
  refine lv_aload_n hx hb dL_law_311 rfl (lv_at hl 0 rfl) ?_
  refine lv_iload_n hx hb dL_law_312 rfl (lv_at hl 3 rfl) ?_
  refine lv_iconst (v := 1) hx hb dL_law_313 (by decide) ?_
  refine lv_iadd hx hb dL_law_314 ?_
  refine va_sld hx hb hXs hbl hbA hS hin1 dL_law_315 ?_
  refine lv_aload_n hx hb dL_law_316 rfl (lv_at hl 0 rfl) ?_
  refine lv_iload_n hx hb dL_law_317 rfl (lv_at hl 3 rfl) ?_
  refine lv_iconst (v := 2) hx hb dL_law_318 (by decide) ?_
  refine lv_iadd hx hb dL_law_319 ?_
  refine va_sld hx hb hXs hbl hbA hS hin2 dL_law_320 ?_
  refine lw_i (B := bM) (B2 := bX) (σ2 := σX) (kV (As := [.int (xs (x3 + 1).toNatClampNeg), .int (xs (x3 + 2).toNatClampNeg)]) (rest := [.int rX]) (o := some 0) rfl ⟨hx, hb, hml, hown, hts⟩ (c_X6_at l D cs adM 0 (xs (x3 + 1).toNatClampNeg) (xs (x3 + 2).toNatClampNeg) σM _ rfl) (cwV 2 hts gL_law_X6_at rfl rfl rfl (by decide +kernel) ⟨Nat.le_of_ble_eq_true rfl, Nat.le_of_ble_eq_true rfl⟩) hEM hPM rfl rfl (w_5 hEM rfl) h rfl hl.1 rfl (lv_room (Nat.le_of_ble_eq_true rfl)) dL_law_321 ⟨Nat.le_refl _, Nat.le_refl _⟩) hS hgM hap2 hPX (fun rM σM H locs h hPM hPX hS => ?_)
  obtain ⟨he, h⟩ := h
  refine lv_icmp_eq (tgt := 1402) hx hb dL_law_324 (by decide) (fun _ => ?_) (fun c1 => ?_)
  · exact kk σX σM H locs ls h hPX hPM hS hl
  · exact absurd he c1
set_option maxHeartbeats 4000000 in
set_option maxRecDepth 100000 in
theorem lc_3 {p : Program} {l : Launch} {e : Env} {s : State} {m : MethodId} {below : List Frame} {meth : Method} {c : Code} {D : va_G} {cs : Cs} {adX adM : Nat → Nat} {b L : Nat} {xs : Nat → Int32} (hx : p.tables.exec = Jvm.exec) (hb : c.code = code) (hml : c.maxLocals = 4) (hown : s.vm.findClass RL = some m.cls) (hts : ∀ w ∈ wsL_law, w.before #[Value.ref b] s = true) (hXs : va_X b L xs s s.heap) (hbl : b < s.heap.size) (hEX : Ev bX D cs adX s) (hEM : Ev bM D cs adM s) (hgX : ∀ k, k < 85 → s.heap.size ≤ adX k) (hgM : ∀ k, k < 29 → s.heap.size ≤ adM k) (hap : apt adX adM) {Q : State → Prop} {x3 : Int32} (hin1 : vp_in (x3 + 1) L) (hin2 : vp_in (x3 + 2) L) (hin3 : vp_in (x3 + 3) L) (hin4 : vp_in (x3 + 4) L) (hin5 : vp_in (x3 + 5) L) (K : Sg → Sg → Prop) (σX σM : Sg) (H : Heap) (locs : List Loc) (ls : Array Slot) (h : lw_3 (xs (x3 + 1).toNatClampNeg) (xs (x3 + 2).toNatClampNeg) (xs (x3 + 3).toNatClampNeg) (xs (x3 + 4).toNatClampNeg) (xs (x3 + 5).toNatClampNeg) σX σM K) (hPX : va_P D vwCl (wl bX cs adX σX) H) (hPM : va_P D vwCl (wl bM cs adM σM) H) (hS : va_S (fNw s) s.heap H locs) (hl : lv_has ls 4 [(0, .ref b), (1, .ref (adX 0)), (2, .ref (adM 0)), (3, .int x3)]) (kk : ∀ (σX σM : Sg) (H : Heap) (locs : List Loc) (ls : Array Slot), K σX σM → va_P D vwCl (wl bX cs adX σX) H → va_P D vwCl (wl bM cs adM σM) H → va_S (fNw s) s.heap H locs → lv_has ls 4 [(0, .ref b), (1, .ref (adX 0)), (2, .ref (adM 0)), (3, .int x3)] → W p l e room_1 s m #[Value.ref b] below meth c H locs 600000 7302250 Q (F0 m 1402 ls [])) : W p l e room_1 s m #[Value.ref b] below meth c H locs 600000 7302250 Q (F0 m 329 ls []) := by
  have hbA : ¬ (fNw s) b := Nat.not_le.mpr hbl
  have hap2 : ∀ i j, i < bM.1 → j < bX.1 → adM i ≠ adX j := fun i j hi hj q => hap j i hj hi q.symm
  unfold lw_3 at h
  refine lv_aload_n hx hb dL_law_329 rfl (lv_at hl 1 rfl) ?_
  refine lv_aload_n hx hb dL_law_330 rfl (lv_at hl 0 rfl) ?_
  refine lv_iload_n hx hb dL_law_331 rfl (lv_at hl 3 rfl) ?_
  refine lv_iconst (v := 1) hx hb dL_law_332 (by decide) ?_
  refine lv_iadd hx hb dL_law_333 ?_
  refine va_sld hx hb hXs hbl hbA hS hin1 dL_law_334 ?_
  refine lw_i (B := bX) (B2 := bM) (σ2 := σM) (kV (As := [.int (xs (x3 + 1).toNatClampNeg)]) (rest := []) (o := some 0) rfl ⟨hx, hb, hml, hown, hts⟩ (c_X5_tear l D cs adX 0 (xs (x3 + 1).toNatClampNeg) σX _ rfl) (cwV 1 hts gL_law_X5_tear rfl rfl rfl (by decide +kernel) ⟨Nat.le_of_ble_eq_true rfl, Nat.le_of_ble_eq_true rfl⟩) hEX hPX rfl rfl (w_4 hEX rfl) h rfl hl.1 rfl (lv_room (Nat.le_of_ble_eq_true rfl)) dL_law_335 ⟨Nat.le_refl _, Nat.le_refl _⟩) hS hgX hap hPM (fun rX σX H locs h hPX hPM hS => ?_)
  refine lv_aload_n hx hb dL_law_338 rfl (lv_at hl 2 rfl) ?_
  refine lv_aload_n hx hb dL_law_339 rfl (lv_at hl 0 rfl) ?_
  refine lv_iload_n hx hb dL_law_340 rfl (lv_at hl 3 rfl) ?_
  refine lv_iconst (v := 1) hx hb dL_law_341 (by decide) ?_
  refine lv_iadd hx hb dL_law_342 ?_
  refine va_sld hx hb hXs hbl hbA hS hin1 dL_law_343 ?_
  refine lw_i (B := bM) (B2 := bX) (σ2 := σX) (kV (As := [.int (xs (x3 + 1).toNatClampNeg)]) (rest := [.int rX]) (o := some 0) rfl ⟨hx, hb, hml, hown, hts⟩ (c_X6_tear l D cs adM 0 (xs (x3 + 1).toNatClampNeg) σM _ rfl) (cwV 1 hts gL_law_X6_tear rfl rfl rfl (by decide +kernel) ⟨Nat.le_of_ble_eq_true rfl, Nat.le_of_ble_eq_true rfl⟩) hEM hPM rfl rfl (w_5 hEM rfl) h rfl hl.1 rfl (lv_room (Nat.le_of_ble_eq_true rfl)) dL_law_344 ⟨Nat.le_refl _, Nat.le_refl _⟩) hS hgM hap2 hPX (fun rM σM H locs h hPM hPX hS => ?_)
  obtain ⟨he, h⟩ := h
  refine lv_icmp_eq (tgt := 1402) hx hb dL_law_347 (by decide) (fun _ => ?_) (fun c1 => ?_)
  · exact kk σX σM H locs ls h hPX hPM hS hl
  · exact absurd he c1
set_option maxHeartbeats 4000000 in
set_option maxRecDepth 100000 in
theorem lc_4 {p : Program} {l : Launch} {e : Env} {s : State} {m : MethodId} {below : List Frame} {meth : Method} {c : Code} {D : va_G} {cs : Cs} {adX adM : Nat → Nat} {b L : Nat} {xs : Nat → Int32} (hx : p.tables.exec = Jvm.exec) (hb : c.code = code) (hml : c.maxLocals = 4) (hown : s.vm.findClass RL = some m.cls) (hts : ∀ w ∈ wsL_law, w.before #[Value.ref b] s = true) (hXs : va_X b L xs s s.heap) (hbl : b < s.heap.size) (hEX : Ev bX D cs adX s) (hEM : Ev bM D cs adM s) (hgX : ∀ k, k < 85 → s.heap.size ≤ adX k) (hgM : ∀ k, k < 29 → s.heap.size ≤ adM k) (hap : apt adX adM) {Q : State → Prop} {x3 : Int32} (hin1 : vp_in (x3 + 1) L) (hin2 : vp_in (x3 + 2) L) (hin3 : vp_in (x3 + 3) L) (hin4 : vp_in (x3 + 4) L) (hin5 : vp_in (x3 + 5) L) (K : Sg → Sg → Prop) (σX σM : Sg) (H : Heap) (locs : List Loc) (ls : Array Slot) (h : lw_4 (xs (x3 + 1).toNatClampNeg) (xs (x3 + 2).toNatClampNeg) (xs (x3 + 3).toNatClampNeg) (xs (x3 + 4).toNatClampNeg) (xs (x3 + 5).toNatClampNeg) σX σM K) (hPX : va_P D vwCl (wl bX cs adX σX) H) (hPM : va_P D vwCl (wl bM cs adM σM) H) (hS : va_S (fNw s) s.heap H locs) (hl : lv_has ls 4 [(0, .ref b), (1, .ref (adX 0)), (2, .ref (adM 0)), (3, .int x3)]) (kk : ∀ (σX σM : Sg) (H : Heap) (locs : List Loc) (ls : Array Slot), K σX σM → va_P D vwCl (wl bX cs adX σX) H → va_P D vwCl (wl bM cs adM σM) H → va_S (fNw s) s.heap H locs → lv_has ls 4 [(0, .ref b), (1, .ref (adX 0)), (2, .ref (adM 0)), (3, .int x3)] → W p l e room_1 s m #[Value.ref b] below meth c H locs 600000 7302250 Q (F0 m 1402 ls [])) : W p l e room_1 s m #[Value.ref b] below meth c H locs 600000 7302250 Q (F0 m 352 ls []) := by
  have hbA : ¬ (fNw s) b := Nat.not_le.mpr hbl
  have hap2 : ∀ i j, i < bM.1 → j < bX.1 → adM i ≠ adX j := fun i j hi hj q => hap j i hj hi q.symm
  unfold lw_4 at h
  refine lv_aload_n hx hb dL_law_352 rfl (lv_at hl 1 rfl) ?_
  refine lv_aload_n hx hb dL_law_353 rfl (lv_at hl 0 rfl) ?_
  refine lv_iload_n hx hb dL_law_354 rfl (lv_at hl 3 rfl) ?_
  refine lv_iconst (v := 1) hx hb dL_law_355 (by decide) ?_
  refine lv_iadd hx hb dL_law_356 ?_
  refine va_sld hx hb hXs hbl hbA hS hin1 dL_law_357 ?_
  refine lv_aload_n hx hb dL_law_358 rfl (lv_at hl 0 rfl) ?_
  refine lv_iload_n hx hb dL_law_359 rfl (lv_at hl 3 rfl) ?_
  refine lv_iconst (v := 2) hx hb dL_law_360 (by decide) ?_
  refine lv_iadd hx hb dL_law_361 ?_
  refine va_sld hx hb hXs hbl hbA hS hin2 dL_law_362 ?_
  refine lv_aload_n hx hb dL_law_363 rfl (lv_at hl 0 rfl) ?_
  refine lv_iload_n hx hb dL_law_364 rfl (lv_at hl 3 rfl) ?_
  refine lv_iconst (v := 3) hx hb dL_law_365 (by decide) ?_
  refine lv_iadd hx hb dL_law_366 ?_
  refine va_sld hx hb hXs hbl hbA hS hin3 dL_law_367 ?_
  refine lv_aload_n hx hb dL_law_368 rfl (lv_at hl 0 rfl) ?_
  refine lv_iload_n hx hb dL_law_369 rfl (lv_at hl 3 rfl) ?_
  refine lv_iconst (v := 4) hx hb dL_law_370 (by decide) ?_
  refine lv_iadd hx hb dL_law_371 ?_
  refine va_sld hx hb hXs hbl hbA hS hin4 dL_law_372 ?_
  refine lv_aload_n hx hb dL_law_373 rfl (lv_at hl 0 rfl) ?_
  refine lv_iload_n hx hb dL_law_374 rfl (lv_at hl 3 rfl) ?_
  refine lv_iconst (v := 5) hx hb dL_law_375 (by decide) ?_
  refine lv_iadd hx hb dL_law_376 ?_
  refine va_sld hx hb hXs hbl hbA hS hin5 dL_law_377 ?_
  refine lw_i (B := bX) (B2 := bM) (σ2 := σM) (kV (As := [.int (xs (x3 + 1).toNatClampNeg), .int (xs (x3 + 2).toNatClampNeg), .int (xs (x3 + 3).toNatClampNeg), .int (xs (x3 + 4).toNatClampNeg), .int (xs (x3 + 5).toNatClampNeg)]) (rest := []) (o := some 0) rfl ⟨hx, hb, hml, hown, hts⟩ (c_X5_copy l D cs adX 0 (xs (x3 + 1).toNatClampNeg) (xs (x3 + 2).toNatClampNeg) (xs (x3 + 3).toNatClampNeg) (xs (x3 + 4).toNatClampNeg) (xs (x3 + 5).toNatClampNeg) σX _ rfl) (cwV 5 hts gL_law_X5_copy rfl rfl rfl (by decide +kernel) ⟨Nat.le_of_ble_eq_true rfl, Nat.le_of_ble_eq_true rfl⟩) hEX hPX rfl rfl (w_4 hEX rfl) h rfl hl.1 rfl (lv_room (Nat.le_of_ble_eq_true rfl)) dL_law_378 ⟨Nat.le_refl _, Nat.le_refl _⟩) hS hgX hap hPM (fun rX σX H locs h hPX hPM hS => ?_)
  refine lv_aload_n hx hb dL_law_381 rfl (lv_at hl 2 rfl) ?_
  refine lv_aload_n hx hb dL_law_382 rfl (lv_at hl 0 rfl) ?_
  refine lv_iload_n hx hb dL_law_383 rfl (lv_at hl 3 rfl) ?_
  refine lv_iconst (v := 1) hx hb dL_law_384 (by decide) ?_
  refine lv_iadd hx hb dL_law_385 ?_
  refine va_sld hx hb hXs hbl hbA hS hin1 dL_law_386 ?_
  refine lv_aload_n hx hb dL_law_387 rfl (lv_at hl 0 rfl) ?_
  refine lv_iload_n hx hb dL_law_388 rfl (lv_at hl 3 rfl) ?_
  refine lv_iconst (v := 2) hx hb dL_law_389 (by decide) ?_
  refine lv_iadd hx hb dL_law_390 ?_
  refine va_sld hx hb hXs hbl hbA hS hin2 dL_law_391 ?_
  refine lv_aload_n hx hb dL_law_392 rfl (lv_at hl 0 rfl) ?_
  refine lv_iload_n hx hb dL_law_393 rfl (lv_at hl 3 rfl) ?_
  refine lv_iconst (v := 3) hx hb dL_law_394 (by decide) ?_
  refine lv_iadd hx hb dL_law_395 ?_
  refine va_sld hx hb hXs hbl hbA hS hin3 dL_law_396 ?_
  refine lv_aload_n hx hb dL_law_397 rfl (lv_at hl 0 rfl) ?_
  refine lv_iload_n hx hb dL_law_398 rfl (lv_at hl 3 rfl) ?_
  refine lv_iconst (v := 4) hx hb dL_law_399 (by decide) ?_
  refine lv_iadd hx hb dL_law_400 ?_
  refine va_sld hx hb hXs hbl hbA hS hin4 dL_law_401 ?_
  refine lv_aload_n hx hb dL_law_402 rfl (lv_at hl 0 rfl) ?_
  refine lv_iload_n hx hb dL_law_403 rfl (lv_at hl 3 rfl) ?_
  refine lv_iconst (v := 5) hx hb dL_law_404 (by decide) ?_
  refine lv_iadd hx hb dL_law_405 ?_
  refine va_sld hx hb hXs hbl hbA hS hin5 dL_law_406 ?_
  refine lw_i (B := bM) (B2 := bX) (σ2 := σX) (kV (As := [.int (xs (x3 + 1).toNatClampNeg), .int (xs (x3 + 2).toNatClampNeg), .int (xs (x3 + 3).toNatClampNeg), .int (xs (x3 + 4).toNatClampNeg), .int (xs (x3 + 5).toNatClampNeg)]) (rest := [.int rX]) (o := some 0) rfl ⟨hx, hb, hml, hown, hts⟩ (c_X6_copy l D cs adM 0 (xs (x3 + 1).toNatClampNeg) (xs (x3 + 2).toNatClampNeg) (xs (x3 + 3).toNatClampNeg) (xs (x3 + 4).toNatClampNeg) (xs (x3 + 5).toNatClampNeg) σM _ rfl) (cwV 5 hts gL_law_X6_copy rfl rfl rfl (by decide +kernel) ⟨Nat.le_of_ble_eq_true rfl, Nat.le_of_ble_eq_true rfl⟩) hEM hPM rfl rfl (w_5 hEM rfl) h rfl hl.1 rfl (lv_room (Nat.le_of_ble_eq_true rfl)) dL_law_407 ⟨Nat.le_refl _, Nat.le_refl _⟩) hS hgM hap2 hPX (fun rM σM H locs h hPM hPX hS => ?_)
  obtain ⟨he, h⟩ := h
  refine lv_icmp_eq (tgt := 1402) hx hb dL_law_410 (by decide) (fun _ => ?_) (fun c1 => ?_)
  · exact kk σX σM H locs ls h hPX hPM hS hl
  · exact absurd he c1
set_option maxHeartbeats 4000000 in
set_option maxRecDepth 100000 in
theorem lc_5 {p : Program} {l : Launch} {e : Env} {s : State} {m : MethodId} {below : List Frame} {meth : Method} {c : Code} {D : va_G} {cs : Cs} {adX adM : Nat → Nat} {b L : Nat} {xs : Nat → Int32} (hx : p.tables.exec = Jvm.exec) (hb : c.code = code) (hml : c.maxLocals = 4) (hown : s.vm.findClass RL = some m.cls) (hts : ∀ w ∈ wsL_law, w.before #[Value.ref b] s = true) (hXs : va_X b L xs s s.heap) (hbl : b < s.heap.size) (hEX : Ev bX D cs adX s) (hEM : Ev bM D cs adM s) (hgX : ∀ k, k < 85 → s.heap.size ≤ adX k) (hgM : ∀ k, k < 29 → s.heap.size ≤ adM k) (hap : apt adX adM) {Q : State → Prop} {x3 : Int32} (hin1 : vp_in (x3 + 1) L) (hin2 : vp_in (x3 + 2) L) (hin3 : vp_in (x3 + 3) L) (hin4 : vp_in (x3 + 4) L) (hin5 : vp_in (x3 + 5) L) (K : Sg → Sg → Prop) (σX σM : Sg) (H : Heap) (locs : List Loc) (ls : Array Slot) (h : lw_5 (xs (x3 + 1).toNatClampNeg) (xs (x3 + 2).toNatClampNeg) (xs (x3 + 3).toNatClampNeg) (xs (x3 + 4).toNatClampNeg) (xs (x3 + 5).toNatClampNeg) σX σM K) (hPX : va_P D vwCl (wl bX cs adX σX) H) (hPM : va_P D vwCl (wl bM cs adM σM) H) (hS : va_S (fNw s) s.heap H locs) (hl : lv_has ls 4 [(0, .ref b), (1, .ref (adX 0)), (2, .ref (adM 0)), (3, .int x3)]) (kk : ∀ (σX σM : Sg) (H : Heap) (locs : List Loc) (ls : Array Slot), K σX σM → va_P D vwCl (wl bX cs adX σX) H → va_P D vwCl (wl bM cs adM σM) H → va_S (fNw s) s.heap H locs → lv_has ls 4 [(0, .ref b), (1, .ref (adX 0)), (2, .ref (adM 0)), (3, .int x3)] → W p l e room_1 s m #[Value.ref b] below meth c H locs 600000 7302250 Q (F0 m 1402 ls [])) : W p l e room_1 s m #[Value.ref b] below meth c H locs 600000 7302250 Q (F0 m 415 ls []) := by
  have hbA : ¬ (fNw s) b := Nat.not_le.mpr hbl
  have hap2 : ∀ i j, i < bM.1 → j < bX.1 → adM i ≠ adX j := fun i j hi hj q => hap j i hj hi q.symm
  unfold lw_5 at h
  refine lv_aload_n hx hb dL_law_415 rfl (lv_at hl 1 rfl) ?_
  refine lv_aload_n hx hb dL_law_416 rfl (lv_at hl 0 rfl) ?_
  refine lv_iload_n hx hb dL_law_417 rfl (lv_at hl 3 rfl) ?_
  refine lv_iconst (v := 1) hx hb dL_law_418 (by decide) ?_
  refine lv_iadd hx hb dL_law_419 ?_
  refine va_sld hx hb hXs hbl hbA hS hin1 dL_law_420 ?_
  refine lw_i (B := bX) (B2 := bM) (σ2 := σM) (kV (As := [.int (xs (x3 + 1).toNatClampNeg)]) (rest := []) (o := some 0) rfl ⟨hx, hb, hml, hown, hts⟩ (c_X5_mean l D cs adX 0 (xs (x3 + 1).toNatClampNeg) σX _ rfl) (cwV 1 hts gL_law_X5_mean rfl rfl rfl (by decide +kernel) ⟨Nat.le_of_ble_eq_true rfl, Nat.le_of_ble_eq_true rfl⟩) hEX hPX rfl rfl (w_4 hEX rfl) h rfl hl.1 rfl (lv_room (Nat.le_of_ble_eq_true rfl)) dL_law_421 ⟨Nat.le_refl _, Nat.le_refl _⟩) hS hgX hap hPM (fun rX σX H locs h hPX hPM hS => ?_)
  refine lv_aload_n hx hb dL_law_424 rfl (lv_at hl 2 rfl) ?_
  refine lv_aload_n hx hb dL_law_425 rfl (lv_at hl 0 rfl) ?_
  refine lv_iload_n hx hb dL_law_426 rfl (lv_at hl 3 rfl) ?_
  refine lv_iconst (v := 1) hx hb dL_law_427 (by decide) ?_
  refine lv_iadd hx hb dL_law_428 ?_
  refine va_sld hx hb hXs hbl hbA hS hin1 dL_law_429 ?_
  refine lw_i (B := bM) (B2 := bX) (σ2 := σX) (kV (As := [.int (xs (x3 + 1).toNatClampNeg)]) (rest := [.int rX]) (o := some 0) rfl ⟨hx, hb, hml, hown, hts⟩ (c_X6_mean l D cs adM 0 (xs (x3 + 1).toNatClampNeg) σM _ rfl) (cwV 1 hts gL_law_X6_mean rfl rfl rfl (by decide +kernel) ⟨Nat.le_of_ble_eq_true rfl, Nat.le_of_ble_eq_true rfl⟩) hEM hPM rfl rfl (w_5 hEM rfl) h rfl hl.1 rfl (lv_room (Nat.le_of_ble_eq_true rfl)) dL_law_430 ⟨Nat.le_refl _, Nat.le_refl _⟩) hS hgM hap2 hPX (fun rM σM H locs h hPM hPX hS => ?_)
  obtain ⟨he, h⟩ := h
  refine lv_icmp_eq (tgt := 1402) hx hb dL_law_433 (by decide) (fun _ => ?_) (fun c1 => ?_)
  · exact kk σX σM H locs ls h hPX hPM hS hl
  · exact absurd he c1
set_option maxHeartbeats 4000000 in
set_option maxRecDepth 100000 in
theorem lc_6 {p : Program} {l : Launch} {e : Env} {s : State} {m : MethodId} {below : List Frame} {meth : Method} {c : Code} {D : va_G} {cs : Cs} {adX adM : Nat → Nat} {b L : Nat} {xs : Nat → Int32} (hx : p.tables.exec = Jvm.exec) (hb : c.code = code) (hml : c.maxLocals = 4) (hown : s.vm.findClass RL = some m.cls) (hts : ∀ w ∈ wsL_law, w.before #[Value.ref b] s = true) (hXs : va_X b L xs s s.heap) (hbl : b < s.heap.size) (hEX : Ev bX D cs adX s) (hEM : Ev bM D cs adM s) (hgX : ∀ k, k < 85 → s.heap.size ≤ adX k) (hgM : ∀ k, k < 29 → s.heap.size ≤ adM k) (hap : apt adX adM) {Q : State → Prop} {x3 : Int32} (hin1 : vp_in (x3 + 1) L) (hin2 : vp_in (x3 + 2) L) (hin3 : vp_in (x3 + 3) L) (hin4 : vp_in (x3 + 4) L) (hin5 : vp_in (x3 + 5) L) (K : Sg → Sg → Prop) (σX σM : Sg) (H : Heap) (locs : List Loc) (ls : Array Slot) (h : lw_6 (xs (x3 + 1).toNatClampNeg) (xs (x3 + 2).toNatClampNeg) (xs (x3 + 3).toNatClampNeg) (xs (x3 + 4).toNatClampNeg) (xs (x3 + 5).toNatClampNeg) σX σM K) (hPX : va_P D vwCl (wl bX cs adX σX) H) (hPM : va_P D vwCl (wl bM cs adM σM) H) (hS : va_S (fNw s) s.heap H locs) (hl : lv_has ls 4 [(0, .ref b), (1, .ref (adX 0)), (2, .ref (adM 0)), (3, .int x3)]) (kk : ∀ (σX σM : Sg) (H : Heap) (locs : List Loc) (ls : Array Slot), K σX σM → va_P D vwCl (wl bX cs adX σX) H → va_P D vwCl (wl bM cs adM σM) H → va_S (fNw s) s.heap H locs → lv_has ls 4 [(0, .ref b), (1, .ref (adX 0)), (2, .ref (adM 0)), (3, .int x3)] → W p l e room_1 s m #[Value.ref b] below meth c H locs 600000 7302250 Q (F0 m 1402 ls [])) : W p l e room_1 s m #[Value.ref b] below meth c H locs 600000 7302250 Q (F0 m 438 ls []) := by
  have hbA : ¬ (fNw s) b := Nat.not_le.mpr hbl
  have hap2 : ∀ i j, i < bM.1 → j < bX.1 → adM i ≠ adX j := fun i j hi hj q => hap j i hj hi q.symm
  unfold lw_6 at h
  refine lv_aload_n hx hb dL_law_438 rfl (lv_at hl 1 rfl) ?_
  refine lv_aload_n hx hb dL_law_439 rfl (lv_at hl 0 rfl) ?_
  refine lv_iload_n hx hb dL_law_440 rfl (lv_at hl 3 rfl) ?_
  refine lv_iconst (v := 1) hx hb dL_law_441 (by decide) ?_
  refine lv_iadd hx hb dL_law_442 ?_
  refine va_sld hx hb hXs hbl hbA hS hin1 dL_law_443 ?_
  refine lv_aload_n hx hb dL_law_444 rfl (lv_at hl 0 rfl) ?_
  refine lv_iload_n hx hb dL_law_445 rfl (lv_at hl 3 rfl) ?_
  refine lv_iconst (v := 2) hx hb dL_law_446 (by decide) ?_
  refine lv_iadd hx hb dL_law_447 ?_
  refine va_sld hx hb hXs hbl hbA hS hin2 dL_law_448 ?_
  refine lw_i (B := bX) (B2 := bM) (σ2 := σM) (kV (As := [.int (xs (x3 + 1).toNatClampNeg), .int (xs (x3 + 2).toNatClampNeg)]) (rest := []) (o := some 0) rfl ⟨hx, hb, hml, hown, hts⟩ (c_X5_text l D cs adX 0 (xs (x3 + 1).toNatClampNeg) (xs (x3 + 2).toNatClampNeg) σX _ rfl) (cwV 2 hts gL_law_X5_text rfl rfl rfl (by decide +kernel) ⟨Nat.le_of_ble_eq_true rfl, Nat.le_of_ble_eq_true rfl⟩) hEX hPX rfl rfl (w_4 hEX rfl) h rfl hl.1 rfl (lv_room (Nat.le_of_ble_eq_true rfl)) dL_law_449 ⟨Nat.le_refl _, Nat.le_refl _⟩) hS hgX hap hPM (fun rX σX H locs h hPX hPM hS => ?_)
  refine lv_aload_n hx hb dL_law_452 rfl (lv_at hl 2 rfl) ?_
  refine lv_aload_n hx hb dL_law_453 rfl (lv_at hl 0 rfl) ?_
  refine lv_iload_n hx hb dL_law_454 rfl (lv_at hl 3 rfl) ?_
  refine lv_iconst (v := 1) hx hb dL_law_455 (by decide) ?_
  refine lv_iadd hx hb dL_law_456 ?_
  refine va_sld hx hb hXs hbl hbA hS hin1 dL_law_457 ?_
  refine lv_aload_n hx hb dL_law_458 rfl (lv_at hl 0 rfl) ?_
  refine lv_iload_n hx hb dL_law_459 rfl (lv_at hl 3 rfl) ?_
  refine lv_iconst (v := 2) hx hb dL_law_460 (by decide) ?_
  refine lv_iadd hx hb dL_law_461 ?_
  refine va_sld hx hb hXs hbl hbA hS hin2 dL_law_462 ?_
  refine lw_i (B := bM) (B2 := bX) (σ2 := σX) (kV (As := [.int (xs (x3 + 1).toNatClampNeg), .int (xs (x3 + 2).toNatClampNeg)]) (rest := [.int rX]) (o := some 0) rfl ⟨hx, hb, hml, hown, hts⟩ (c_X6_text l D cs adM 0 (xs (x3 + 1).toNatClampNeg) (xs (x3 + 2).toNatClampNeg) σM _ rfl) (cwV 2 hts gL_law_X6_text rfl rfl rfl (by decide +kernel) ⟨Nat.le_of_ble_eq_true rfl, Nat.le_of_ble_eq_true rfl⟩) hEM hPM rfl rfl (w_5 hEM rfl) h rfl hl.1 rfl (lv_room (Nat.le_of_ble_eq_true rfl)) dL_law_463 ⟨Nat.le_refl _, Nat.le_refl _⟩) hS hgM hap2 hPX (fun rM σM H locs h hPM hPX hS => ?_)
  obtain ⟨he, h⟩ := h
  refine lv_icmp_eq (tgt := 1402) hx hb dL_law_466 (by decide) (fun _ => ?_) (fun c1 => ?_)
  · exact kk σX σM H locs ls h hPX hPM hS hl
  · exact absurd he c1
set_option maxHeartbeats 4000000 in
set_option maxRecDepth 100000 in
theorem lc_7 {p : Program} {l : Launch} {e : Env} {s : State} {m : MethodId} {below : List Frame} {meth : Method} {c : Code} {D : va_G} {cs : Cs} {adX adM : Nat → Nat} {b L : Nat} {xs : Nat → Int32} (hx : p.tables.exec = Jvm.exec) (hb : c.code = code) (hml : c.maxLocals = 4) (hown : s.vm.findClass RL = some m.cls) (hts : ∀ w ∈ wsL_law, w.before #[Value.ref b] s = true) (hXs : va_X b L xs s s.heap) (hbl : b < s.heap.size) (hEX : Ev bX D cs adX s) (hEM : Ev bM D cs adM s) (hgX : ∀ k, k < 85 → s.heap.size ≤ adX k) (hgM : ∀ k, k < 29 → s.heap.size ≤ adM k) (hap : apt adX adM) {Q : State → Prop} {x3 : Int32} (hin1 : vp_in (x3 + 1) L) (hin2 : vp_in (x3 + 2) L) (hin3 : vp_in (x3 + 3) L) (hin4 : vp_in (x3 + 4) L) (hin5 : vp_in (x3 + 5) L) (K : Sg → Sg → Prop) (σX σM : Sg) (H : Heap) (locs : List Loc) (ls : Array Slot) (h : lw_7 (xs (x3 + 1).toNatClampNeg) (xs (x3 + 2).toNatClampNeg) (xs (x3 + 3).toNatClampNeg) (xs (x3 + 4).toNatClampNeg) (xs (x3 + 5).toNatClampNeg) σX σM K) (hPX : va_P D vwCl (wl bX cs adX σX) H) (hPM : va_P D vwCl (wl bM cs adM σM) H) (hS : va_S (fNw s) s.heap H locs) (hl : lv_has ls 4 [(0, .ref b), (1, .ref (adX 0)), (2, .ref (adM 0)), (3, .int x3)]) (kk : ∀ (σX σM : Sg) (H : Heap) (locs : List Loc) (ls : Array Slot), K σX σM → va_P D vwCl (wl bX cs adX σX) H → va_P D vwCl (wl bM cs adM σM) H → va_S (fNw s) s.heap H locs → lv_has ls 4 [(0, .ref b), (1, .ref (adX 0)), (2, .ref (adM 0)), (3, .int x3)] → W p l e room_1 s m #[Value.ref b] below meth c H locs 600000 7302250 Q (F0 m 1402 ls [])) : W p l e room_1 s m #[Value.ref b] below meth c H locs 600000 7302250 Q (F0 m 471 ls []) := by
  have hbA : ¬ (fNw s) b := Nat.not_le.mpr hbl
  have hap2 : ∀ i j, i < bM.1 → j < bX.1 → adM i ≠ adX j := fun i j hi hj q => hap j i hj hi q.symm
  unfold lw_7 at h
  refine lv_aload_n hx hb dL_law_471 rfl (lv_at hl 1 rfl) ?_
  refine lv_aload_n hx hb dL_law_472 rfl (lv_at hl 0 rfl) ?_
  refine lv_iload_n hx hb dL_law_473 rfl (lv_at hl 3 rfl) ?_
  refine lv_iconst (v := 1) hx hb dL_law_474 (by decide) ?_
  refine lv_iadd hx hb dL_law_475 ?_
  refine va_sld hx hb hXs hbl hbA hS hin1 dL_law_476 ?_
  refine lv_aload_n hx hb dL_law_477 rfl (lv_at hl 0 rfl) ?_
  refine lv_iload_n hx hb dL_law_478 rfl (lv_at hl 3 rfl) ?_
  refine lv_iconst (v := 2) hx hb dL_law_479 (by decide) ?_
  refine lv_iadd hx hb dL_law_480 ?_
  refine va_sld hx hb hXs hbl hbA hS hin2 dL_law_481 ?_
  refine lv_aload_n hx hb dL_law_482 rfl (lv_at hl 0 rfl) ?_
  refine lv_iload_n hx hb dL_law_483 rfl (lv_at hl 3 rfl) ?_
  refine lv_iconst (v := 3) hx hb dL_law_484 (by decide) ?_
  refine lv_iadd hx hb dL_law_485 ?_
  refine va_sld hx hb hXs hbl hbA hS hin3 dL_law_486 ?_
  refine lw_i (B := bX) (B2 := bM) (σ2 := σM) (kV (As := [.int (xs (x3 + 1).toNatClampNeg), .int (xs (x3 + 2).toNatClampNeg), .int (xs (x3 + 3).toNatClampNeg)]) (rest := []) (o := some 0) rfl ⟨hx, hb, hml, hown, hts⟩ (c_X5_put l D cs adX 0 (xs (x3 + 1).toNatClampNeg) (xs (x3 + 2).toNatClampNeg) (xs (x3 + 3).toNatClampNeg) σX _ rfl) (cwV 3 hts gL_law_X5_put rfl rfl rfl (by decide +kernel) ⟨Nat.le_of_ble_eq_true rfl, Nat.le_of_ble_eq_true rfl⟩) hEX hPX rfl rfl (w_4 hEX rfl) h rfl hl.1 rfl (lv_room (Nat.le_of_ble_eq_true rfl)) dL_law_487 ⟨Nat.le_refl _, Nat.le_refl _⟩) hS hgX hap hPM (fun rX σX H locs h hPX hPM hS => ?_)
  refine lv_aload_n hx hb dL_law_490 rfl (lv_at hl 2 rfl) ?_
  refine lv_aload_n hx hb dL_law_491 rfl (lv_at hl 0 rfl) ?_
  refine lv_iload_n hx hb dL_law_492 rfl (lv_at hl 3 rfl) ?_
  refine lv_iconst (v := 1) hx hb dL_law_493 (by decide) ?_
  refine lv_iadd hx hb dL_law_494 ?_
  refine va_sld hx hb hXs hbl hbA hS hin1 dL_law_495 ?_
  refine lv_aload_n hx hb dL_law_496 rfl (lv_at hl 0 rfl) ?_
  refine lv_iload_n hx hb dL_law_497 rfl (lv_at hl 3 rfl) ?_
  refine lv_iconst (v := 2) hx hb dL_law_498 (by decide) ?_
  refine lv_iadd hx hb dL_law_499 ?_
  refine va_sld hx hb hXs hbl hbA hS hin2 dL_law_500 ?_
  refine lv_aload_n hx hb dL_law_501 rfl (lv_at hl 0 rfl) ?_
  refine lv_iload_n hx hb dL_law_502 rfl (lv_at hl 3 rfl) ?_
  refine lv_iconst (v := 3) hx hb dL_law_503 (by decide) ?_
  refine lv_iadd hx hb dL_law_504 ?_
  refine va_sld hx hb hXs hbl hbA hS hin3 dL_law_505 ?_
  refine lw_i (B := bM) (B2 := bX) (σ2 := σX) (kV (As := [.int (xs (x3 + 1).toNatClampNeg), .int (xs (x3 + 2).toNatClampNeg), .int (xs (x3 + 3).toNatClampNeg)]) (rest := [.int rX]) (o := some 0) rfl ⟨hx, hb, hml, hown, hts⟩ (c_X6_put l D cs adM 0 (xs (x3 + 1).toNatClampNeg) (xs (x3 + 2).toNatClampNeg) (xs (x3 + 3).toNatClampNeg) σM _ rfl) (cwV 3 hts gL_law_X6_put rfl rfl rfl (by decide +kernel) ⟨Nat.le_of_ble_eq_true rfl, Nat.le_of_ble_eq_true rfl⟩) hEM hPM rfl rfl (w_5 hEM rfl) h rfl hl.1 rfl (lv_room (Nat.le_of_ble_eq_true rfl)) dL_law_506 ⟨Nat.le_refl _, Nat.le_refl _⟩) hS hgM hap2 hPX (fun rM σM H locs h hPM hPX hS => ?_)
  obtain ⟨he, h⟩ := h
  refine lv_icmp_eq (tgt := 1402) hx hb dL_law_509 (by decide) (fun _ => ?_) (fun c1 => ?_)
  · exact kk σX σM H locs ls h hPX hPM hS hl
  · exact absurd he c1
set_option maxHeartbeats 4000000 in
set_option maxRecDepth 100000 in
theorem lc_8 {p : Program} {l : Launch} {e : Env} {s : State} {m : MethodId} {below : List Frame} {meth : Method} {c : Code} {D : va_G} {cs : Cs} {adX adM : Nat → Nat} {b L : Nat} {xs : Nat → Int32} (hx : p.tables.exec = Jvm.exec) (hb : c.code = code) (hml : c.maxLocals = 4) (hown : s.vm.findClass RL = some m.cls) (hts : ∀ w ∈ wsL_law, w.before #[Value.ref b] s = true) (hXs : va_X b L xs s s.heap) (hbl : b < s.heap.size) (hEX : Ev bX D cs adX s) (hEM : Ev bM D cs adM s) (hgX : ∀ k, k < 85 → s.heap.size ≤ adX k) (hgM : ∀ k, k < 29 → s.heap.size ≤ adM k) (hap : apt adX adM) {Q : State → Prop} {x3 : Int32} (hin1 : vp_in (x3 + 1) L) (hin2 : vp_in (x3 + 2) L) (hin3 : vp_in (x3 + 3) L) (hin4 : vp_in (x3 + 4) L) (hin5 : vp_in (x3 + 5) L) (K : Sg → Sg → Prop) (σX σM : Sg) (H : Heap) (locs : List Loc) (ls : Array Slot) (h : lw_8 (xs (x3 + 1).toNatClampNeg) (xs (x3 + 2).toNatClampNeg) (xs (x3 + 3).toNatClampNeg) (xs (x3 + 4).toNatClampNeg) (xs (x3 + 5).toNatClampNeg) σX σM K) (hPX : va_P D vwCl (wl bX cs adX σX) H) (hPM : va_P D vwCl (wl bM cs adM σM) H) (hS : va_S (fNw s) s.heap H locs) (hl : lv_has ls 4 [(0, .ref b), (1, .ref (adX 0)), (2, .ref (adM 0)), (3, .int x3)]) (kk : ∀ (σX σM : Sg) (H : Heap) (locs : List Loc) (ls : Array Slot), K σX σM → va_P D vwCl (wl bX cs adX σX) H → va_P D vwCl (wl bM cs adM σM) H → va_S (fNw s) s.heap H locs → lv_has ls 4 [(0, .ref b), (1, .ref (adX 0)), (2, .ref (adM 0)), (3, .int x3)] → W p l e room_1 s m #[Value.ref b] below meth c H locs 600000 7302250 Q (F0 m 1402 ls [])) : W p l e room_1 s m #[Value.ref b] below meth c H locs 600000 7302250 Q (F0 m 514 ls []) := by
  have hbA : ¬ (fNw s) b := Nat.not_le.mpr hbl
  have hap2 : ∀ i j, i < bM.1 → j < bX.1 → adM i ≠ adX j := fun i j hi hj q => hap j i hj hi q.symm
  unfold lw_8 at h
  refine lv_aload_n hx hb dL_law_514 rfl (lv_at hl 1 rfl) ?_
  refine lv_aload_n hx hb dL_law_515 rfl (lv_at hl 0 rfl) ?_
  refine lv_iload_n hx hb dL_law_516 rfl (lv_at hl 3 rfl) ?_
  refine lv_iconst (v := 1) hx hb dL_law_517 (by decide) ?_
  refine lv_iadd hx hb dL_law_518 ?_
  refine va_sld hx hb hXs hbl hbA hS hin1 dL_law_519 ?_
  refine lw_i (B := bX) (B2 := bM) (σ2 := σM) (kV (As := [.int (xs (x3 + 1).toNatClampNeg)]) (rest := []) (o := some 0) rfl ⟨hx, hb, hml, hown, hts⟩ (c_X5_fault l D cs adX 0 (xs (x3 + 1).toNatClampNeg) σX _ rfl) (cwV 1 hts gL_law_X5_fault rfl rfl rfl (by decide +kernel) ⟨Nat.le_of_ble_eq_true rfl, Nat.le_of_ble_eq_true rfl⟩) hEX hPX rfl rfl (w_4 hEX rfl) h rfl hl.1 rfl (lv_room (Nat.le_of_ble_eq_true rfl)) dL_law_520 ⟨Nat.le_refl _, Nat.le_refl _⟩) hS hgX hap hPM (fun rX σX H locs h hPX hPM hS => ?_)
  refine lv_aload_n hx hb dL_law_523 rfl (lv_at hl 2 rfl) ?_
  refine lv_aload_n hx hb dL_law_524 rfl (lv_at hl 0 rfl) ?_
  refine lv_iload_n hx hb dL_law_525 rfl (lv_at hl 3 rfl) ?_
  refine lv_iconst (v := 1) hx hb dL_law_526 (by decide) ?_
  refine lv_iadd hx hb dL_law_527 ?_
  refine va_sld hx hb hXs hbl hbA hS hin1 dL_law_528 ?_
  refine lw_i (B := bM) (B2 := bX) (σ2 := σX) (kV (As := [.int (xs (x3 + 1).toNatClampNeg)]) (rest := [.int rX]) (o := some 0) rfl ⟨hx, hb, hml, hown, hts⟩ (c_X6_fault l D cs adM 0 (xs (x3 + 1).toNatClampNeg) σM _ rfl) (cwV 1 hts gL_law_X6_fault rfl rfl rfl (by decide +kernel) ⟨Nat.le_of_ble_eq_true rfl, Nat.le_of_ble_eq_true rfl⟩) hEM hPM rfl rfl (w_5 hEM rfl) h rfl hl.1 rfl (lv_room (Nat.le_of_ble_eq_true rfl)) dL_law_529 ⟨Nat.le_refl _, Nat.le_refl _⟩) hS hgM hap2 hPX (fun rM σM H locs h hPM hPX hS => ?_)
  obtain ⟨he, h⟩ := h
  refine lv_icmp_eq (tgt := 1402) hx hb dL_law_532 (by decide) (fun _ => ?_) (fun c1 => ?_)
  · exact kk σX σM H locs ls h hPX hPM hS hl
  · exact absurd he c1
set_option maxHeartbeats 4000000 in
set_option maxRecDepth 100000 in
theorem lc_9 {p : Program} {l : Launch} {e : Env} {s : State} {m : MethodId} {below : List Frame} {meth : Method} {c : Code} {D : va_G} {cs : Cs} {adX adM : Nat → Nat} {b L : Nat} {xs : Nat → Int32} (hx : p.tables.exec = Jvm.exec) (hb : c.code = code) (hml : c.maxLocals = 4) (hown : s.vm.findClass RL = some m.cls) (hts : ∀ w ∈ wsL_law, w.before #[Value.ref b] s = true) (hXs : va_X b L xs s s.heap) (hbl : b < s.heap.size) (hEX : Ev bX D cs adX s) (hEM : Ev bM D cs adM s) (hgX : ∀ k, k < 85 → s.heap.size ≤ adX k) (hgM : ∀ k, k < 29 → s.heap.size ≤ adM k) (hap : apt adX adM) {Q : State → Prop} {x3 : Int32} (hin1 : vp_in (x3 + 1) L) (hin2 : vp_in (x3 + 2) L) (hin3 : vp_in (x3 + 3) L) (hin4 : vp_in (x3 + 4) L) (hin5 : vp_in (x3 + 5) L) (K : Sg → Sg → Prop) (σX σM : Sg) (H : Heap) (locs : List Loc) (ls : Array Slot) (h : lw_9 (xs (x3 + 1).toNatClampNeg) (xs (x3 + 2).toNatClampNeg) (xs (x3 + 3).toNatClampNeg) (xs (x3 + 4).toNatClampNeg) (xs (x3 + 5).toNatClampNeg) σX σM K) (hPX : va_P D vwCl (wl bX cs adX σX) H) (hPM : va_P D vwCl (wl bM cs adM σM) H) (hS : va_S (fNw s) s.heap H locs) (hl : lv_has ls 4 [(0, .ref b), (1, .ref (adX 0)), (2, .ref (adM 0)), (3, .int x3)]) (kk : ∀ (σX σM : Sg) (H : Heap) (locs : List Loc) (ls : Array Slot), K σX σM → va_P D vwCl (wl bX cs adX σX) H → va_P D vwCl (wl bM cs adM σM) H → va_S (fNw s) s.heap H locs → lv_has ls 4 [(0, .ref b), (1, .ref (adX 0)), (2, .ref (adM 0)), (3, .int x3)] → W p l e room_1 s m #[Value.ref b] below meth c H locs 600000 7302250 Q (F0 m 1402 ls [])) : W p l e room_1 s m #[Value.ref b] below meth c H locs 600000 7302250 Q (F0 m 537 ls []) := by
  have hbA : ¬ (fNw s) b := Nat.not_le.mpr hbl
  have hap2 : ∀ i j, i < bM.1 → j < bX.1 → adM i ≠ adX j := fun i j hi hj q => hap j i hj hi q.symm
  unfold lw_9 at h
  refine lv_aload_n hx hb dL_law_537 rfl (lv_at hl 1 rfl) ?_
  refine lv_aload_n hx hb dL_law_538 rfl (lv_at hl 0 rfl) ?_
  refine lv_iload_n hx hb dL_law_539 rfl (lv_at hl 3 rfl) ?_
  refine lv_iconst (v := 1) hx hb dL_law_540 (by decide) ?_
  refine lv_iadd hx hb dL_law_541 ?_
  refine va_sld hx hb hXs hbl hbA hS hin1 dL_law_542 ?_
  refine lw_i (B := bX) (B2 := bM) (σ2 := σM) (kV (As := [.int (xs (x3 + 1).toNatClampNeg)]) (rest := []) (o := some 0) rfl ⟨hx, hb, hml, hown, hts⟩ (c_X5_delta l D cs adX 0 (xs (x3 + 1).toNatClampNeg) σX _ rfl) (cwV 1 hts gL_law_X5_delta rfl rfl rfl (by decide +kernel) ⟨Nat.le_of_ble_eq_true rfl, Nat.le_of_ble_eq_true rfl⟩) hEX hPX rfl rfl (w_4 hEX rfl) h rfl hl.1 rfl (lv_room (Nat.le_of_ble_eq_true rfl)) dL_law_543 ⟨Nat.le_refl _, Nat.le_refl _⟩) hS hgX hap hPM (fun rX σX H locs h hPX hPM hS => ?_)
  refine lv_aload_n hx hb dL_law_546 rfl (lv_at hl 2 rfl) ?_
  refine lv_aload_n hx hb dL_law_547 rfl (lv_at hl 0 rfl) ?_
  refine lv_iload_n hx hb dL_law_548 rfl (lv_at hl 3 rfl) ?_
  refine lv_iconst (v := 1) hx hb dL_law_549 (by decide) ?_
  refine lv_iadd hx hb dL_law_550 ?_
  refine va_sld hx hb hXs hbl hbA hS hin1 dL_law_551 ?_
  refine lw_i (B := bM) (B2 := bX) (σ2 := σX) (kV (As := [.int (xs (x3 + 1).toNatClampNeg)]) (rest := [.int rX]) (o := some 0) rfl ⟨hx, hb, hml, hown, hts⟩ (c_X6_delta l D cs adM 0 (xs (x3 + 1).toNatClampNeg) σM _ rfl) (cwV 1 hts gL_law_X6_delta rfl rfl rfl (by decide +kernel) ⟨Nat.le_of_ble_eq_true rfl, Nat.le_of_ble_eq_true rfl⟩) hEM hPM rfl rfl (w_5 hEM rfl) h rfl hl.1 rfl (lv_room (Nat.le_of_ble_eq_true rfl)) dL_law_552 ⟨Nat.le_refl _, Nat.le_refl _⟩) hS hgM hap2 hPX (fun rM σM H locs h hPM hPX hS => ?_)
  obtain ⟨he, h⟩ := h
  refine lv_icmp_eq (tgt := 1402) hx hb dL_law_555 (by decide) (fun _ => ?_) (fun c1 => ?_)
  · exact kk σX σM H locs ls h hPX hPM hS hl
  · exact absurd he c1
set_option maxHeartbeats 4000000 in
set_option maxRecDepth 100000 in
theorem lc_10 {p : Program} {l : Launch} {e : Env} {s : State} {m : MethodId} {below : List Frame} {meth : Method} {c : Code} {D : va_G} {cs : Cs} {adX adM : Nat → Nat} {b L : Nat} {xs : Nat → Int32} (hx : p.tables.exec = Jvm.exec) (hb : c.code = code) (hml : c.maxLocals = 4) (hown : s.vm.findClass RL = some m.cls) (hts : ∀ w ∈ wsL_law, w.before #[Value.ref b] s = true) (hXs : va_X b L xs s s.heap) (hbl : b < s.heap.size) (hEX : Ev bX D cs adX s) (hEM : Ev bM D cs adM s) (hgX : ∀ k, k < 85 → s.heap.size ≤ adX k) (hgM : ∀ k, k < 29 → s.heap.size ≤ adM k) (hap : apt adX adM) {Q : State → Prop} {x3 : Int32} (hin1 : vp_in (x3 + 1) L) (hin2 : vp_in (x3 + 2) L) (hin3 : vp_in (x3 + 3) L) (hin4 : vp_in (x3 + 4) L) (hin5 : vp_in (x3 + 5) L) (K : Sg → Sg → Prop) (σX σM : Sg) (H : Heap) (locs : List Loc) (ls : Array Slot) (h : lw_10 (xs (x3 + 1).toNatClampNeg) (xs (x3 + 2).toNatClampNeg) (xs (x3 + 3).toNatClampNeg) (xs (x3 + 4).toNatClampNeg) (xs (x3 + 5).toNatClampNeg) σX σM K) (hPX : va_P D vwCl (wl bX cs adX σX) H) (hPM : va_P D vwCl (wl bM cs adM σM) H) (hS : va_S (fNw s) s.heap H locs) (hl : lv_has ls 4 [(0, .ref b), (1, .ref (adX 0)), (2, .ref (adM 0)), (3, .int x3)]) (kk : ∀ (σX σM : Sg) (H : Heap) (locs : List Loc) (ls : Array Slot), K σX σM → va_P D vwCl (wl bX cs adX σX) H → va_P D vwCl (wl bM cs adM σM) H → va_S (fNw s) s.heap H locs → lv_has ls 4 [(0, .ref b), (1, .ref (adX 0)), (2, .ref (adM 0)), (3, .int x3)] → W p l e room_1 s m #[Value.ref b] below meth c H locs 600000 7302250 Q (F0 m 1402 ls [])) : W p l e room_1 s m #[Value.ref b] below meth c H locs 600000 7302250 Q (F0 m 560 ls []) := by
  have hbA : ¬ (fNw s) b := Nat.not_le.mpr hbl
  have hap2 : ∀ i j, i < bM.1 → j < bX.1 → adM i ≠ adX j := fun i j hi hj q => hap j i hj hi q.symm
  unfold lw_10 at h
  refine lv_aload_n hx hb dL_law_560 rfl (lv_at hl 1 rfl) ?_
  refine lv_aload_n hx hb dL_law_561 rfl (lv_at hl 0 rfl) ?_
  refine lv_iload_n hx hb dL_law_562 rfl (lv_at hl 3 rfl) ?_
  refine lv_iconst (v := 1) hx hb dL_law_563 (by decide) ?_
  refine lv_iadd hx hb dL_law_564 ?_
  refine va_sld hx hb hXs hbl hbA hS hin1 dL_law_565 ?_
  refine lv_aload_n hx hb dL_law_566 rfl (lv_at hl 0 rfl) ?_
  refine lv_iload_n hx hb dL_law_567 rfl (lv_at hl 3 rfl) ?_
  refine lv_iconst (v := 2) hx hb dL_law_568 (by decide) ?_
  refine lv_iadd hx hb dL_law_569 ?_
  refine va_sld hx hb hXs hbl hbA hS hin2 dL_law_570 ?_
  refine lw_i (B := bX) (B2 := bM) (σ2 := σM) (kV (As := [.int (xs (x3 + 1).toNatClampNeg), .int (xs (x3 + 2).toNatClampNeg)]) (rest := []) (o := some 0) rfl ⟨hx, hb, hml, hown, hts⟩ (c_X5_woman l D cs adX 0 (xs (x3 + 1).toNatClampNeg) (xs (x3 + 2).toNatClampNeg) σX _ rfl) (cwV 2 hts gL_law_X5_woman rfl rfl rfl (by decide +kernel) ⟨Nat.le_of_ble_eq_true rfl, Nat.le_of_ble_eq_true rfl⟩) hEX hPX rfl rfl (w_4 hEX rfl) h rfl hl.1 rfl (lv_room (Nat.le_of_ble_eq_true rfl)) dL_law_571 ⟨Nat.le_refl _, Nat.le_refl _⟩) hS hgX hap hPM (fun rX σX H locs h hPX hPM hS => ?_)
  refine lv_aload_n hx hb dL_law_574 rfl (lv_at hl 2 rfl) ?_
  refine lv_aload_n hx hb dL_law_575 rfl (lv_at hl 0 rfl) ?_
  refine lv_iload_n hx hb dL_law_576 rfl (lv_at hl 3 rfl) ?_
  refine lv_iconst (v := 1) hx hb dL_law_577 (by decide) ?_
  refine lv_iadd hx hb dL_law_578 ?_
  refine va_sld hx hb hXs hbl hbA hS hin1 dL_law_579 ?_
  refine lv_aload_n hx hb dL_law_580 rfl (lv_at hl 0 rfl) ?_
  refine lv_iload_n hx hb dL_law_581 rfl (lv_at hl 3 rfl) ?_
  refine lv_iconst (v := 2) hx hb dL_law_582 (by decide) ?_
  refine lv_iadd hx hb dL_law_583 ?_
  refine va_sld hx hb hXs hbl hbA hS hin2 dL_law_584 ?_
  refine lw_i (B := bM) (B2 := bX) (σ2 := σX) (kV (As := [.int (xs (x3 + 1).toNatClampNeg), .int (xs (x3 + 2).toNatClampNeg)]) (rest := [.int rX]) (o := some 0) rfl ⟨hx, hb, hml, hown, hts⟩ (c_X6_woman l D cs adM 0 (xs (x3 + 1).toNatClampNeg) (xs (x3 + 2).toNatClampNeg) σM _ rfl) (cwV 2 hts gL_law_X6_woman rfl rfl rfl (by decide +kernel) ⟨Nat.le_of_ble_eq_true rfl, Nat.le_of_ble_eq_true rfl⟩) hEM hPM rfl rfl (w_5 hEM rfl) h rfl hl.1 rfl (lv_room (Nat.le_of_ble_eq_true rfl)) dL_law_585 ⟨Nat.le_refl _, Nat.le_refl _⟩) hS hgM hap2 hPX (fun rM σM H locs h hPM hPX hS => ?_)
  obtain ⟨he, h⟩ := h
  refine lv_icmp_eq (tgt := 1402) hx hb dL_law_588 (by decide) (fun _ => ?_) (fun c1 => ?_)
  · exact kk σX σM H locs ls h hPX hPM hS hl
  · exact absurd he c1
set_option maxHeartbeats 4000000 in
set_option maxRecDepth 100000 in
theorem lc_11 {p : Program} {l : Launch} {e : Env} {s : State} {m : MethodId} {below : List Frame} {meth : Method} {c : Code} {D : va_G} {cs : Cs} {adX adM : Nat → Nat} {b L : Nat} {xs : Nat → Int32} (hx : p.tables.exec = Jvm.exec) (hb : c.code = code) (hml : c.maxLocals = 4) (hown : s.vm.findClass RL = some m.cls) (hts : ∀ w ∈ wsL_law, w.before #[Value.ref b] s = true) (hXs : va_X b L xs s s.heap) (hbl : b < s.heap.size) (hEX : Ev bX D cs adX s) (hEM : Ev bM D cs adM s) (hgX : ∀ k, k < 85 → s.heap.size ≤ adX k) (hgM : ∀ k, k < 29 → s.heap.size ≤ adM k) (hap : apt adX adM) {Q : State → Prop} {x3 : Int32} (hin1 : vp_in (x3 + 1) L) (hin2 : vp_in (x3 + 2) L) (hin3 : vp_in (x3 + 3) L) (hin4 : vp_in (x3 + 4) L) (hin5 : vp_in (x3 + 5) L) (K : Sg → Sg → Prop) (σX σM : Sg) (H : Heap) (locs : List Loc) (ls : Array Slot) (h : lw_11 (xs (x3 + 1).toNatClampNeg) (xs (x3 + 2).toNatClampNeg) (xs (x3 + 3).toNatClampNeg) (xs (x3 + 4).toNatClampNeg) (xs (x3 + 5).toNatClampNeg) σX σM K) (hPX : va_P D vwCl (wl bX cs adX σX) H) (hPM : va_P D vwCl (wl bM cs adM σM) H) (hS : va_S (fNw s) s.heap H locs) (hl : lv_has ls 4 [(0, .ref b), (1, .ref (adX 0)), (2, .ref (adM 0)), (3, .int x3)]) (kk : ∀ (σX σM : Sg) (H : Heap) (locs : List Loc) (ls : Array Slot), K σX σM → va_P D vwCl (wl bX cs adX σX) H → va_P D vwCl (wl bM cs adM σM) H → va_S (fNw s) s.heap H locs → lv_has ls 4 [(0, .ref b), (1, .ref (adX 0)), (2, .ref (adM 0)), (3, .int x3)] → W p l e room_1 s m #[Value.ref b] below meth c H locs 600000 7302250 Q (F0 m 1402 ls [])) : W p l e room_1 s m #[Value.ref b] below meth c H locs 600000 7302250 Q (F0 m 593 ls []) := by
  have hbA : ¬ (fNw s) b := Nat.not_le.mpr hbl
  have hap2 : ∀ i j, i < bM.1 → j < bX.1 → adM i ≠ adX j := fun i j hi hj q => hap j i hj hi q.symm
  unfold lw_11 at h
  refine lv_aload_n hx hb dL_law_593 rfl (lv_at hl 1 rfl) ?_
  refine lv_aload_n hx hb dL_law_594 rfl (lv_at hl 0 rfl) ?_
  refine lv_iload_n hx hb dL_law_595 rfl (lv_at hl 3 rfl) ?_
  refine lv_iconst (v := 1) hx hb dL_law_596 (by decide) ?_
  refine lv_iadd hx hb dL_law_597 ?_
  refine va_sld hx hb hXs hbl hbA hS hin1 dL_law_598 ?_
  refine lv_aload_n hx hb dL_law_599 rfl (lv_at hl 0 rfl) ?_
  refine lv_iload_n hx hb dL_law_600 rfl (lv_at hl 3 rfl) ?_
  refine lv_iconst (v := 2) hx hb dL_law_601 (by decide) ?_
  refine lv_iadd hx hb dL_law_602 ?_
  refine va_sld hx hb hXs hbl hbA hS hin2 dL_law_603 ?_
  refine lw_i (B := bX) (B2 := bM) (σ2 := σM) (kV (As := [.int (xs (x3 + 1).toNatClampNeg), .int (xs (x3 + 2).toNatClampNeg)]) (rest := []) (o := some 0) rfl ⟨hx, hb, hml, hown, hts⟩ (c_X5_mark l D cs adX 0 (xs (x3 + 1).toNatClampNeg) (xs (x3 + 2).toNatClampNeg) σX _ rfl) (cwV 2 hts gL_law_X5_mark rfl rfl rfl (by decide +kernel) ⟨Nat.le_of_ble_eq_true rfl, Nat.le_of_ble_eq_true rfl⟩) hEX hPX rfl rfl (w_4 hEX rfl) h rfl hl.1 rfl (lv_room (Nat.le_of_ble_eq_true rfl)) dL_law_604 ⟨Nat.le_refl _, Nat.le_refl _⟩) hS hgX hap hPM (fun rX σX H locs h hPX hPM hS => ?_)
  refine lv_aload_n hx hb dL_law_607 rfl (lv_at hl 2 rfl) ?_
  refine lv_aload_n hx hb dL_law_608 rfl (lv_at hl 0 rfl) ?_
  refine lv_iload_n hx hb dL_law_609 rfl (lv_at hl 3 rfl) ?_
  refine lv_iconst (v := 1) hx hb dL_law_610 (by decide) ?_
  refine lv_iadd hx hb dL_law_611 ?_
  refine va_sld hx hb hXs hbl hbA hS hin1 dL_law_612 ?_
  refine lv_aload_n hx hb dL_law_613 rfl (lv_at hl 0 rfl) ?_
  refine lv_iload_n hx hb dL_law_614 rfl (lv_at hl 3 rfl) ?_
  refine lv_iconst (v := 2) hx hb dL_law_615 (by decide) ?_
  refine lv_iadd hx hb dL_law_616 ?_
  refine va_sld hx hb hXs hbl hbA hS hin2 dL_law_617 ?_
  refine lw_i (B := bM) (B2 := bX) (σ2 := σX) (kV (As := [.int (xs (x3 + 1).toNatClampNeg), .int (xs (x3 + 2).toNatClampNeg)]) (rest := [.int rX]) (o := some 0) rfl ⟨hx, hb, hml, hown, hts⟩ (c_X6_mark l D cs adM 0 (xs (x3 + 1).toNatClampNeg) (xs (x3 + 2).toNatClampNeg) σM _ rfl) (cwV 2 hts gL_law_X6_mark rfl rfl rfl (by decide +kernel) ⟨Nat.le_of_ble_eq_true rfl, Nat.le_of_ble_eq_true rfl⟩) hEM hPM rfl rfl (w_5 hEM rfl) h rfl hl.1 rfl (lv_room (Nat.le_of_ble_eq_true rfl)) dL_law_618 ⟨Nat.le_refl _, Nat.le_refl _⟩) hS hgM hap2 hPX (fun rM σM H locs h hPM hPX hS => ?_)
  obtain ⟨he, h⟩ := h
  refine lv_icmp_eq (tgt := 1402) hx hb dL_law_621 (by decide) (fun _ => ?_) (fun c1 => ?_)
  · exact kk σX σM H locs ls h hPX hPM hS hl
  · exact absurd he c1
set_option maxHeartbeats 4000000 in
set_option maxRecDepth 100000 in
theorem lc_12 {p : Program} {l : Launch} {e : Env} {s : State} {m : MethodId} {below : List Frame} {meth : Method} {c : Code} {D : va_G} {cs : Cs} {adX adM : Nat → Nat} {b L : Nat} {xs : Nat → Int32} (hx : p.tables.exec = Jvm.exec) (hb : c.code = code) (hml : c.maxLocals = 4) (hown : s.vm.findClass RL = some m.cls) (hts : ∀ w ∈ wsL_law, w.before #[Value.ref b] s = true) (hXs : va_X b L xs s s.heap) (hbl : b < s.heap.size) (hEX : Ev bX D cs adX s) (hEM : Ev bM D cs adM s) (hgX : ∀ k, k < 85 → s.heap.size ≤ adX k) (hgM : ∀ k, k < 29 → s.heap.size ≤ adM k) (hap : apt adX adM) {Q : State → Prop} {x3 : Int32} (hin1 : vp_in (x3 + 1) L) (hin2 : vp_in (x3 + 2) L) (hin3 : vp_in (x3 + 3) L) (hin4 : vp_in (x3 + 4) L) (hin5 : vp_in (x3 + 5) L) (K : Sg → Sg → Prop) (σX σM : Sg) (H : Heap) (locs : List Loc) (ls : Array Slot) (h : lw_12 (xs (x3 + 1).toNatClampNeg) (xs (x3 + 2).toNatClampNeg) (xs (x3 + 3).toNatClampNeg) (xs (x3 + 4).toNatClampNeg) (xs (x3 + 5).toNatClampNeg) σX σM K) (hPX : va_P D vwCl (wl bX cs adX σX) H) (hPM : va_P D vwCl (wl bM cs adM σM) H) (hS : va_S (fNw s) s.heap H locs) (hl : lv_has ls 4 [(0, .ref b), (1, .ref (adX 0)), (2, .ref (adM 0)), (3, .int x3)]) (kk : ∀ (σX σM : Sg) (H : Heap) (locs : List Loc) (ls : Array Slot), K σX σM → va_P D vwCl (wl bX cs adX σX) H → va_P D vwCl (wl bM cs adM σM) H → va_S (fNw s) s.heap H locs → lv_has ls 4 [(0, .ref b), (1, .ref (adX 0)), (2, .ref (adM 0)), (3, .int x3)] → W p l e room_1 s m #[Value.ref b] below meth c H locs 600000 7302250 Q (F0 m 1402 ls [])) : W p l e room_1 s m #[Value.ref b] below meth c H locs 600000 7302250 Q (F0 m 626 ls []) := by
  have hbA : ¬ (fNw s) b := Nat.not_le.mpr hbl
  have hap2 : ∀ i j, i < bM.1 → j < bX.1 → adM i ≠ adX j := fun i j hi hj q => hap j i hj hi q.symm
  unfold lw_12 at h
  refine lv_aload_n hx hb dL_law_626 rfl (lv_at hl 1 rfl) ?_
  refine lv_aload_n hx hb dL_law_627 rfl (lv_at hl 0 rfl) ?_
  refine lv_iload_n hx hb dL_law_628 rfl (lv_at hl 3 rfl) ?_
  refine lv_iconst (v := 1) hx hb dL_law_629 (by decide) ?_
  refine lv_iadd hx hb dL_law_630 ?_
  refine va_sld hx hb hXs hbl hbA hS hin1 dL_law_631 ?_
  refine lv_aload_n hx hb dL_law_632 rfl (lv_at hl 0 rfl) ?_
  refine lv_iload_n hx hb dL_law_633 rfl (lv_at hl 3 rfl) ?_
  refine lv_iconst (v := 2) hx hb dL_law_634 (by decide) ?_
  refine lv_iadd hx hb dL_law_635 ?_
  refine va_sld hx hb hXs hbl hbA hS hin2 dL_law_636 ?_
  refine lw_i (B := bX) (B2 := bM) (σ2 := σM) (kV (As := [.int (xs (x3 + 1).toNatClampNeg), .int (xs (x3 + 2).toNatClampNeg)]) (rest := []) (o := some 0) rfl ⟨hx, hb, hml, hown, hts⟩ (c_X5_hem l D cs adX 0 (xs (x3 + 1).toNatClampNeg) (xs (x3 + 2).toNatClampNeg) σX _ rfl) (cwV 2 hts gL_law_X5_hem rfl rfl rfl (by decide +kernel) ⟨Nat.le_of_ble_eq_true rfl, Nat.le_of_ble_eq_true rfl⟩) hEX hPX rfl rfl (w_4 hEX rfl) h rfl hl.1 rfl (lv_room (Nat.le_of_ble_eq_true rfl)) dL_law_637 ⟨Nat.le_refl _, Nat.le_refl _⟩) hS hgX hap hPM (fun rX σX H locs h hPX hPM hS => ?_)
  refine lv_aload_n hx hb dL_law_640 rfl (lv_at hl 2 rfl) ?_
  refine lv_aload_n hx hb dL_law_641 rfl (lv_at hl 0 rfl) ?_
  refine lv_iload_n hx hb dL_law_642 rfl (lv_at hl 3 rfl) ?_
  refine lv_iconst (v := 1) hx hb dL_law_643 (by decide) ?_
  refine lv_iadd hx hb dL_law_644 ?_
  refine va_sld hx hb hXs hbl hbA hS hin1 dL_law_645 ?_
  refine lv_aload_n hx hb dL_law_646 rfl (lv_at hl 0 rfl) ?_
  refine lv_iload_n hx hb dL_law_647 rfl (lv_at hl 3 rfl) ?_
  refine lv_iconst (v := 2) hx hb dL_law_648 (by decide) ?_
  refine lv_iadd hx hb dL_law_649 ?_
  refine va_sld hx hb hXs hbl hbA hS hin2 dL_law_650 ?_
  refine lw_i (B := bM) (B2 := bX) (σ2 := σX) (kV (As := [.int (xs (x3 + 1).toNatClampNeg), .int (xs (x3 + 2).toNatClampNeg)]) (rest := [.int rX]) (o := some 0) rfl ⟨hx, hb, hml, hown, hts⟩ (c_X6_hem l D cs adM 0 (xs (x3 + 1).toNatClampNeg) (xs (x3 + 2).toNatClampNeg) σM _ rfl) (cwV 2 hts gL_law_X6_hem rfl rfl rfl (by decide +kernel) ⟨Nat.le_of_ble_eq_true rfl, Nat.le_of_ble_eq_true rfl⟩) hEM hPM rfl rfl (w_5 hEM rfl) h rfl hl.1 rfl (lv_room (Nat.le_of_ble_eq_true rfl)) dL_law_651 ⟨Nat.le_refl _, Nat.le_refl _⟩) hS hgM hap2 hPX (fun rM σM H locs h hPM hPX hS => ?_)
  obtain ⟨he, h⟩ := h
  refine lv_icmp_eq (tgt := 1402) hx hb dL_law_654 (by decide) (fun _ => ?_) (fun c1 => ?_)
  · exact kk σX σM H locs ls h hPX hPM hS hl
  · exact absurd he c1
set_option maxHeartbeats 4000000 in
set_option maxRecDepth 100000 in
theorem lc_13 {p : Program} {l : Launch} {e : Env} {s : State} {m : MethodId} {below : List Frame} {meth : Method} {c : Code} {D : va_G} {cs : Cs} {adX adM : Nat → Nat} {b L : Nat} {xs : Nat → Int32} (hx : p.tables.exec = Jvm.exec) (hb : c.code = code) (hml : c.maxLocals = 4) (hown : s.vm.findClass RL = some m.cls) (hts : ∀ w ∈ wsL_law, w.before #[Value.ref b] s = true) (hXs : va_X b L xs s s.heap) (hbl : b < s.heap.size) (hEX : Ev bX D cs adX s) (hEM : Ev bM D cs adM s) (hgX : ∀ k, k < 85 → s.heap.size ≤ adX k) (hgM : ∀ k, k < 29 → s.heap.size ≤ adM k) (hap : apt adX adM) {Q : State → Prop} {x3 : Int32} (hin1 : vp_in (x3 + 1) L) (hin2 : vp_in (x3 + 2) L) (hin3 : vp_in (x3 + 3) L) (hin4 : vp_in (x3 + 4) L) (hin5 : vp_in (x3 + 5) L) (K : Sg → Sg → Prop) (σX σM : Sg) (H : Heap) (locs : List Loc) (ls : Array Slot) (h : lw_13 (xs (x3 + 1).toNatClampNeg) (xs (x3 + 2).toNatClampNeg) (xs (x3 + 3).toNatClampNeg) (xs (x3 + 4).toNatClampNeg) (xs (x3 + 5).toNatClampNeg) σX σM K) (hPX : va_P D vwCl (wl bX cs adX σX) H) (hPM : va_P D vwCl (wl bM cs adM σM) H) (hS : va_S (fNw s) s.heap H locs) (hl : lv_has ls 4 [(0, .ref b), (1, .ref (adX 0)), (2, .ref (adM 0)), (3, .int x3)]) (kk : ∀ (σX σM : Sg) (H : Heap) (locs : List Loc) (ls : Array Slot), K σX σM → va_P D vwCl (wl bX cs adX σX) H → va_P D vwCl (wl bM cs adM σM) H → va_S (fNw s) s.heap H locs → lv_has ls 4 [(0, .ref b), (1, .ref (adX 0)), (2, .ref (adM 0)), (3, .int x3)] → W p l e room_1 s m #[Value.ref b] below meth c H locs 600000 7302250 Q (F0 m 1402 ls [])) : W p l e room_1 s m #[Value.ref b] below meth c H locs 600000 7302250 Q (F0 m 659 ls []) := by
  have hbA : ¬ (fNw s) b := Nat.not_le.mpr hbl
  have hap2 : ∀ i j, i < bM.1 → j < bX.1 → adM i ≠ adX j := fun i j hi hj q => hap j i hj hi q.symm
  unfold lw_13 at h
  refine lv_aload_n hx hb dL_law_659 rfl (lv_at hl 1 rfl) ?_
  refine lv_aload_n hx hb dL_law_660 rfl (lv_at hl 0 rfl) ?_
  refine lv_iload_n hx hb dL_law_661 rfl (lv_at hl 3 rfl) ?_
  refine lv_iconst (v := 1) hx hb dL_law_662 (by decide) ?_
  refine lv_iadd hx hb dL_law_663 ?_
  refine va_sld hx hb hXs hbl hbA hS hin1 dL_law_664 ?_
  refine lv_aload_n hx hb dL_law_665 rfl (lv_at hl 0 rfl) ?_
  refine lv_iload_n hx hb dL_law_666 rfl (lv_at hl 3 rfl) ?_
  refine lv_iconst (v := 2) hx hb dL_law_667 (by decide) ?_
  refine lv_iadd hx hb dL_law_668 ?_
  refine va_sld hx hb hXs hbl hbA hS hin2 dL_law_669 ?_
  refine lw_i (B := bX) (B2 := bM) (σ2 := σM) (kV (As := [.int (xs (x3 + 1).toNatClampNeg), .int (xs (x3 + 2).toNatClampNeg)]) (rest := []) (o := some 0) rfl ⟨hx, hb, hml, hown, hts⟩ (c_X5_would l D cs adX 0 (xs (x3 + 1).toNatClampNeg) (xs (x3 + 2).toNatClampNeg) σX _ rfl) (cwV 2 hts gL_law_X5_would rfl rfl rfl (by decide +kernel) ⟨Nat.le_of_ble_eq_true rfl, Nat.le_of_ble_eq_true rfl⟩) hEX hPX rfl rfl (w_4 hEX rfl) h rfl hl.1 rfl (lv_room (Nat.le_of_ble_eq_true rfl)) dL_law_670 ⟨Nat.le_refl _, Nat.le_refl _⟩) hS hgX hap hPM (fun rX σX H locs h hPX hPM hS => ?_)
  refine lv_aload_n hx hb dL_law_673 rfl (lv_at hl 2 rfl) ?_
  refine lv_aload_n hx hb dL_law_674 rfl (lv_at hl 0 rfl) ?_
  refine lv_iload_n hx hb dL_law_675 rfl (lv_at hl 3 rfl) ?_
  refine lv_iconst (v := 1) hx hb dL_law_676 (by decide) ?_
  refine lv_iadd hx hb dL_law_677 ?_
  refine va_sld hx hb hXs hbl hbA hS hin1 dL_law_678 ?_
  refine lv_aload_n hx hb dL_law_679 rfl (lv_at hl 0 rfl) ?_
  refine lv_iload_n hx hb dL_law_680 rfl (lv_at hl 3 rfl) ?_
  refine lv_iconst (v := 2) hx hb dL_law_681 (by decide) ?_
  refine lv_iadd hx hb dL_law_682 ?_
  refine va_sld hx hb hXs hbl hbA hS hin2 dL_law_683 ?_
  refine lw_i (B := bM) (B2 := bX) (σ2 := σX) (kV (As := [.int (xs (x3 + 1).toNatClampNeg), .int (xs (x3 + 2).toNatClampNeg)]) (rest := [.int rX]) (o := some 0) rfl ⟨hx, hb, hml, hown, hts⟩ (c_X6_would l D cs adM 0 (xs (x3 + 1).toNatClampNeg) (xs (x3 + 2).toNatClampNeg) σM _ rfl) (cwV 2 hts gL_law_X6_would rfl rfl rfl (by decide +kernel) ⟨Nat.le_of_ble_eq_true rfl, Nat.le_of_ble_eq_true rfl⟩) hEM hPM rfl rfl (w_5 hEM rfl) h rfl hl.1 rfl (lv_room (Nat.le_of_ble_eq_true rfl)) dL_law_684 ⟨Nat.le_refl _, Nat.le_refl _⟩) hS hgM hap2 hPX (fun rM σM H locs h hPM hPX hS => ?_)
  obtain ⟨he, h⟩ := h
  refine lv_icmp_eq (tgt := 1402) hx hb dL_law_687 (by decide) (fun _ => ?_) (fun c1 => ?_)
  · exact kk σX σM H locs ls h hPX hPM hS hl
  · exact absurd he c1
set_option maxHeartbeats 4000000 in
set_option maxRecDepth 100000 in
theorem lc_14 {p : Program} {l : Launch} {e : Env} {s : State} {m : MethodId} {below : List Frame} {meth : Method} {c : Code} {D : va_G} {cs : Cs} {adX adM : Nat → Nat} {b L : Nat} {xs : Nat → Int32} (hx : p.tables.exec = Jvm.exec) (hb : c.code = code) (hml : c.maxLocals = 4) (hown : s.vm.findClass RL = some m.cls) (hts : ∀ w ∈ wsL_law, w.before #[Value.ref b] s = true) (hXs : va_X b L xs s s.heap) (hbl : b < s.heap.size) (hEX : Ev bX D cs adX s) (hEM : Ev bM D cs adM s) (hgX : ∀ k, k < 85 → s.heap.size ≤ adX k) (hgM : ∀ k, k < 29 → s.heap.size ≤ adM k) (hap : apt adX adM) {Q : State → Prop} {x3 : Int32} (hin1 : vp_in (x3 + 1) L) (hin2 : vp_in (x3 + 2) L) (hin3 : vp_in (x3 + 3) L) (hin4 : vp_in (x3 + 4) L) (hin5 : vp_in (x3 + 5) L) (K : Sg → Sg → Prop) (σX σM : Sg) (H : Heap) (locs : List Loc) (ls : Array Slot) (h : lw_14 (xs (x3 + 1).toNatClampNeg) (xs (x3 + 2).toNatClampNeg) (xs (x3 + 3).toNatClampNeg) (xs (x3 + 4).toNatClampNeg) (xs (x3 + 5).toNatClampNeg) σX σM K) (hPX : va_P D vwCl (wl bX cs adX σX) H) (hPM : va_P D vwCl (wl bM cs adM σM) H) (hS : va_S (fNw s) s.heap H locs) (hl : lv_has ls 4 [(0, .ref b), (1, .ref (adX 0)), (2, .ref (adM 0)), (3, .int x3)]) (kk : ∀ (σX σM : Sg) (H : Heap) (locs : List Loc) (ls : Array Slot), K σX σM → va_P D vwCl (wl bX cs adX σX) H → va_P D vwCl (wl bM cs adM σM) H → va_S (fNw s) s.heap H locs → lv_has ls 4 [(0, .ref b), (1, .ref (adX 0)), (2, .ref (adM 0)), (3, .int x3)] → W p l e room_1 s m #[Value.ref b] below meth c H locs 600000 7302250 Q (F0 m 1402 ls [])) : W p l e room_1 s m #[Value.ref b] below meth c H locs 600000 7302250 Q (F0 m 692 ls []) := by
  have hbA : ¬ (fNw s) b := Nat.not_le.mpr hbl
  have hap2 : ∀ i j, i < bM.1 → j < bX.1 → adM i ≠ adX j := fun i j hi hj q => hap j i hj hi q.symm
  unfold lw_14 at h
  refine lv_aload_n hx hb dL_law_692 rfl (lv_at hl 1 rfl) ?_
  refine lv_aload_n hx hb dL_law_693 rfl (lv_at hl 0 rfl) ?_
  refine lv_iload_n hx hb dL_law_694 rfl (lv_at hl 3 rfl) ?_
  refine lv_iconst (v := 1) hx hb dL_law_695 (by decide) ?_
  refine lv_iadd hx hb dL_law_696 ?_
  refine va_sld hx hb hXs hbl hbA hS hin1 dL_law_697 ?_
  refine lw_i (B := bX) (B2 := bM) (σ2 := σM) (kV (As := [.int (xs (x3 + 1).toNatClampNeg)]) (rest := []) (o := some 0) rfl ⟨hx, hb, hml, hown, hts⟩ (c_X5_flood l D cs adX 0 (xs (x3 + 1).toNatClampNeg) σX _ rfl) (cwV 1 hts gL_law_X5_flood rfl rfl rfl (by decide +kernel) ⟨Nat.le_of_ble_eq_true rfl, Nat.le_of_ble_eq_true rfl⟩) hEX hPX rfl rfl (w_4 hEX rfl) h rfl hl.1 rfl (lv_room (Nat.le_of_ble_eq_true rfl)) dL_law_698 ⟨Nat.le_refl _, Nat.le_refl _⟩) hS hgX hap hPM (fun rX σX H locs h hPX hPM hS => ?_)
  refine lv_aload_n hx hb dL_law_701 rfl (lv_at hl 2 rfl) ?_
  refine lv_aload_n hx hb dL_law_702 rfl (lv_at hl 0 rfl) ?_
  refine lv_iload_n hx hb dL_law_703 rfl (lv_at hl 3 rfl) ?_
  refine lv_iconst (v := 1) hx hb dL_law_704 (by decide) ?_
  refine lv_iadd hx hb dL_law_705 ?_
  refine va_sld hx hb hXs hbl hbA hS hin1 dL_law_706 ?_
  refine lw_i (B := bM) (B2 := bX) (σ2 := σX) (kV (As := [.int (xs (x3 + 1).toNatClampNeg)]) (rest := [.int rX]) (o := some 0) rfl ⟨hx, hb, hml, hown, hts⟩ (c_X6_flood l D cs adM 0 (xs (x3 + 1).toNatClampNeg) σM _ rfl) (cwV 1 hts gL_law_X6_flood rfl rfl rfl (by decide +kernel) ⟨Nat.le_of_ble_eq_true rfl, Nat.le_of_ble_eq_true rfl⟩) hEM hPM rfl rfl (w_5 hEM rfl) h rfl hl.1 rfl (lv_room (Nat.le_of_ble_eq_true rfl)) dL_law_707 ⟨Nat.le_refl _, Nat.le_refl _⟩) hS hgM hap2 hPX (fun rM σM H locs h hPM hPX hS => ?_)
  obtain ⟨he, h⟩ := h
  refine lv_icmp_eq (tgt := 1402) hx hb dL_law_710 (by decide) (fun _ => ?_) (fun c1 => ?_)
  · exact kk σX σM H locs ls h hPX hPM hS hl
  · exact absurd he c1
set_option maxHeartbeats 4000000 in
set_option maxRecDepth 100000 in
theorem lc_15 {p : Program} {l : Launch} {e : Env} {s : State} {m : MethodId} {below : List Frame} {meth : Method} {c : Code} {D : va_G} {cs : Cs} {adX adM : Nat → Nat} {b L : Nat} {xs : Nat → Int32} (hx : p.tables.exec = Jvm.exec) (hb : c.code = code) (hml : c.maxLocals = 4) (hown : s.vm.findClass RL = some m.cls) (hts : ∀ w ∈ wsL_law, w.before #[Value.ref b] s = true) (hXs : va_X b L xs s s.heap) (hbl : b < s.heap.size) (hEX : Ev bX D cs adX s) (hEM : Ev bM D cs adM s) (hgX : ∀ k, k < 85 → s.heap.size ≤ adX k) (hgM : ∀ k, k < 29 → s.heap.size ≤ adM k) (hap : apt adX adM) {Q : State → Prop} {x3 : Int32} (hin1 : vp_in (x3 + 1) L) (hin2 : vp_in (x3 + 2) L) (hin3 : vp_in (x3 + 3) L) (hin4 : vp_in (x3 + 4) L) (hin5 : vp_in (x3 + 5) L) (K : Sg → Sg → Prop) (σX σM : Sg) (H : Heap) (locs : List Loc) (ls : Array Slot) (h : lw_15 (xs (x3 + 1).toNatClampNeg) (xs (x3 + 2).toNatClampNeg) (xs (x3 + 3).toNatClampNeg) (xs (x3 + 4).toNatClampNeg) (xs (x3 + 5).toNatClampNeg) σX σM K) (hPX : va_P D vwCl (wl bX cs adX σX) H) (hPM : va_P D vwCl (wl bM cs adM σM) H) (hS : va_S (fNw s) s.heap H locs) (hl : lv_has ls 4 [(0, .ref b), (1, .ref (adX 0)), (2, .ref (adM 0)), (3, .int x3)]) (kk : ∀ (σX σM : Sg) (H : Heap) (locs : List Loc) (ls : Array Slot), K σX σM → va_P D vwCl (wl bX cs adX σX) H → va_P D vwCl (wl bM cs adM σM) H → va_S (fNw s) s.heap H locs → lv_has ls 4 [(0, .ref b), (1, .ref (adX 0)), (2, .ref (adM 0)), (3, .int x3)] → W p l e room_1 s m #[Value.ref b] below meth c H locs 600000 7302250 Q (F0 m 1402 ls [])) : W p l e room_1 s m #[Value.ref b] below meth c H locs 600000 7302250 Q (F0 m 715 ls []) := by
  have hbA : ¬ (fNw s) b := Nat.not_le.mpr hbl
  have hap2 : ∀ i j, i < bM.1 → j < bX.1 → adM i ≠ adX j := fun i j hi hj q => hap j i hj hi q.symm
  unfold lw_15 at h
  refine lv_aload_n hx hb dL_law_715 rfl (lv_at hl 1 rfl) ?_
  refine lv_aload_n hx hb dL_law_716 rfl (lv_at hl 0 rfl) ?_
  refine lv_iload_n hx hb dL_law_717 rfl (lv_at hl 3 rfl) ?_
  refine lv_iconst (v := 1) hx hb dL_law_718 (by decide) ?_
  refine lv_iadd hx hb dL_law_719 ?_
  refine va_sld hx hb hXs hbl hbA hS hin1 dL_law_720 ?_
  refine lv_aload_n hx hb dL_law_721 rfl (lv_at hl 0 rfl) ?_
  refine lv_iload_n hx hb dL_law_722 rfl (lv_at hl 3 rfl) ?_
  refine lv_iconst (v := 2) hx hb dL_law_723 (by decide) ?_
  refine lv_iadd hx hb dL_law_724 ?_
  refine va_sld hx hb hXs hbl hbA hS hin2 dL_law_725 ?_
  refine lw_i (B := bX) (B2 := bM) (σ2 := σM) (kV (As := [.int (xs (x3 + 1).toNatClampNeg), .int (xs (x3 + 2).toNatClampNeg)]) (rest := []) (o := some 0) rfl ⟨hx, hb, hml, hown, hts⟩ (c_X5_move l D cs adX 0 (xs (x3 + 1).toNatClampNeg) (xs (x3 + 2).toNatClampNeg) σX _ rfl) (cwV 2 hts gL_law_X5_move rfl rfl rfl (by decide +kernel) ⟨Nat.le_of_ble_eq_true rfl, Nat.le_of_ble_eq_true rfl⟩) hEX hPX rfl rfl (w_4 hEX rfl) h rfl hl.1 rfl (lv_room (Nat.le_of_ble_eq_true rfl)) dL_law_726 ⟨Nat.le_refl _, Nat.le_refl _⟩) hS hgX hap hPM (fun rX σX H locs h hPX hPM hS => ?_)
  refine lv_aload_n hx hb dL_law_729 rfl (lv_at hl 2 rfl) ?_
  refine lv_aload_n hx hb dL_law_730 rfl (lv_at hl 0 rfl) ?_
  refine lv_iload_n hx hb dL_law_731 rfl (lv_at hl 3 rfl) ?_
  refine lv_iconst (v := 1) hx hb dL_law_732 (by decide) ?_
  refine lv_iadd hx hb dL_law_733 ?_
  refine va_sld hx hb hXs hbl hbA hS hin1 dL_law_734 ?_
  refine lv_aload_n hx hb dL_law_735 rfl (lv_at hl 0 rfl) ?_
  refine lv_iload_n hx hb dL_law_736 rfl (lv_at hl 3 rfl) ?_
  refine lv_iconst (v := 2) hx hb dL_law_737 (by decide) ?_
  refine lv_iadd hx hb dL_law_738 ?_
  refine va_sld hx hb hXs hbl hbA hS hin2 dL_law_739 ?_
  refine lw_i (B := bM) (B2 := bX) (σ2 := σX) (kV (As := [.int (xs (x3 + 1).toNatClampNeg), .int (xs (x3 + 2).toNatClampNeg)]) (rest := [.int rX]) (o := some 0) rfl ⟨hx, hb, hml, hown, hts⟩ (c_X6_move l D cs adM 0 (xs (x3 + 1).toNatClampNeg) (xs (x3 + 2).toNatClampNeg) σM _ rfl) (cwV 2 hts gL_law_X6_move rfl rfl rfl (by decide +kernel) ⟨Nat.le_of_ble_eq_true rfl, Nat.le_of_ble_eq_true rfl⟩) hEM hPM rfl rfl (w_5 hEM rfl) h rfl hl.1 rfl (lv_room (Nat.le_of_ble_eq_true rfl)) dL_law_740 ⟨Nat.le_refl _, Nat.le_refl _⟩) hS hgM hap2 hPX (fun rM σM H locs h hPM hPX hS => ?_)
  obtain ⟨he, h⟩ := h
  refine lv_icmp_eq (tgt := 1402) hx hb dL_law_743 (by decide) (fun _ => ?_) (fun c1 => ?_)
  · exact kk σX σM H locs ls h hPX hPM hS hl
  · exact absurd he c1
set_option maxHeartbeats 4000000 in
set_option maxRecDepth 100000 in
theorem lc_16 {p : Program} {l : Launch} {e : Env} {s : State} {m : MethodId} {below : List Frame} {meth : Method} {c : Code} {D : va_G} {cs : Cs} {adX adM : Nat → Nat} {b L : Nat} {xs : Nat → Int32} (hx : p.tables.exec = Jvm.exec) (hb : c.code = code) (hml : c.maxLocals = 4) (hown : s.vm.findClass RL = some m.cls) (hts : ∀ w ∈ wsL_law, w.before #[Value.ref b] s = true) (hXs : va_X b L xs s s.heap) (hbl : b < s.heap.size) (hEX : Ev bX D cs adX s) (hEM : Ev bM D cs adM s) (hgX : ∀ k, k < 85 → s.heap.size ≤ adX k) (hgM : ∀ k, k < 29 → s.heap.size ≤ adM k) (hap : apt adX adM) {Q : State → Prop} {x3 : Int32} (hin1 : vp_in (x3 + 1) L) (hin2 : vp_in (x3 + 2) L) (hin3 : vp_in (x3 + 3) L) (hin4 : vp_in (x3 + 4) L) (hin5 : vp_in (x3 + 5) L) (K : Sg → Sg → Prop) (σX σM : Sg) (H : Heap) (locs : List Loc) (ls : Array Slot) (h : lw_16 (xs (x3 + 1).toNatClampNeg) (xs (x3 + 2).toNatClampNeg) (xs (x3 + 3).toNatClampNeg) (xs (x3 + 4).toNatClampNeg) (xs (x3 + 5).toNatClampNeg) σX σM K) (hPX : va_P D vwCl (wl bX cs adX σX) H) (hPM : va_P D vwCl (wl bM cs adM σM) H) (hS : va_S (fNw s) s.heap H locs) (hl : lv_has ls 4 [(0, .ref b), (1, .ref (adX 0)), (2, .ref (adM 0)), (3, .int x3)]) (kk : ∀ (σX σM : Sg) (H : Heap) (locs : List Loc) (ls : Array Slot), K σX σM → va_P D vwCl (wl bX cs adX σX) H → va_P D vwCl (wl bM cs adM σM) H → va_S (fNw s) s.heap H locs → lv_has ls 4 [(0, .ref b), (1, .ref (adX 0)), (2, .ref (adM 0)), (3, .int x3)] → W p l e room_1 s m #[Value.ref b] below meth c H locs 600000 7302250 Q (F0 m 1402 ls [])) : W p l e room_1 s m #[Value.ref b] below meth c H locs 600000 7302250 Q (F0 m 748 ls []) := by
  have hbA : ¬ (fNw s) b := Nat.not_le.mpr hbl
  have hap2 : ∀ i j, i < bM.1 → j < bX.1 → adM i ≠ adX j := fun i j hi hj q => hap j i hj hi q.symm
  unfold lw_16 at h
  refine lv_aload_n hx hb dL_law_748 rfl (lv_at hl 1 rfl) ?_
  refine lv_aload_n hx hb dL_law_749 rfl (lv_at hl 0 rfl) ?_
  refine lv_iload_n hx hb dL_law_750 rfl (lv_at hl 3 rfl) ?_
  refine lv_iconst (v := 1) hx hb dL_law_751 (by decide) ?_
  refine lv_iadd hx hb dL_law_752 ?_
  refine va_sld hx hb hXs hbl hbA hS hin1 dL_law_753 ?_
  refine lw_i (B := bX) (B2 := bM) (σ2 := σM) (kV (As := [.int (xs (x3 + 1).toNatClampNeg)]) (rest := []) (o := some 0) rfl ⟨hx, hb, hml, hown, hts⟩ (c_X5_dyke l D cs adX 0 (xs (x3 + 1).toNatClampNeg) σX _ rfl) (cwV 1 hts gL_law_X5_dyke rfl rfl rfl (by decide +kernel) ⟨Nat.le_of_ble_eq_true rfl, Nat.le_of_ble_eq_true rfl⟩) hEX hPX rfl rfl (w_4 hEX rfl) h rfl hl.1 rfl (lv_room (Nat.le_of_ble_eq_true rfl)) dL_law_754 ⟨Nat.le_refl _, Nat.le_refl _⟩) hS hgX hap hPM (fun rX σX H locs h hPX hPM hS => ?_)
  refine lv_aload_n hx hb dL_law_757 rfl (lv_at hl 2 rfl) ?_
  refine lv_aload_n hx hb dL_law_758 rfl (lv_at hl 0 rfl) ?_
  refine lv_iload_n hx hb dL_law_759 rfl (lv_at hl 3 rfl) ?_
  refine lv_iconst (v := 1) hx hb dL_law_760 (by decide) ?_
  refine lv_iadd hx hb dL_law_761 ?_
  refine va_sld hx hb hXs hbl hbA hS hin1 dL_law_762 ?_
  refine lw_i (B := bM) (B2 := bX) (σ2 := σX) (kV (As := [.int (xs (x3 + 1).toNatClampNeg)]) (rest := [.int rX]) (o := some 0) rfl ⟨hx, hb, hml, hown, hts⟩ (c_X6_dyke l D cs adM 0 (xs (x3 + 1).toNatClampNeg) σM _ rfl) (cwV 1 hts gL_law_X6_dyke rfl rfl rfl (by decide +kernel) ⟨Nat.le_of_ble_eq_true rfl, Nat.le_of_ble_eq_true rfl⟩) hEM hPM rfl rfl (w_5 hEM rfl) h rfl hl.1 rfl (lv_room (Nat.le_of_ble_eq_true rfl)) dL_law_763 ⟨Nat.le_refl _, Nat.le_refl _⟩) hS hgM hap2 hPX (fun rM σM H locs h hPM hPX hS => ?_)
  obtain ⟨he, h⟩ := h
  refine lv_icmp_eq (tgt := 1402) hx hb dL_law_766 (by decide) (fun _ => ?_) (fun c1 => ?_)
  · exact kk σX σM H locs ls h hPX hPM hS hl
  · exact absurd he c1
set_option maxHeartbeats 4000000 in
set_option maxRecDepth 100000 in
theorem lc_17 {p : Program} {l : Launch} {e : Env} {s : State} {m : MethodId} {below : List Frame} {meth : Method} {c : Code} {D : va_G} {cs : Cs} {adX adM : Nat → Nat} {b L : Nat} {xs : Nat → Int32} (hx : p.tables.exec = Jvm.exec) (hb : c.code = code) (hml : c.maxLocals = 4) (hown : s.vm.findClass RL = some m.cls) (hts : ∀ w ∈ wsL_law, w.before #[Value.ref b] s = true) (hXs : va_X b L xs s s.heap) (hbl : b < s.heap.size) (hEX : Ev bX D cs adX s) (hEM : Ev bM D cs adM s) (hgX : ∀ k, k < 85 → s.heap.size ≤ adX k) (hgM : ∀ k, k < 29 → s.heap.size ≤ adM k) (hap : apt adX adM) {Q : State → Prop} {x3 : Int32} (hin1 : vp_in (x3 + 1) L) (hin2 : vp_in (x3 + 2) L) (hin3 : vp_in (x3 + 3) L) (hin4 : vp_in (x3 + 4) L) (hin5 : vp_in (x3 + 5) L) (K : Sg → Sg → Prop) (σX σM : Sg) (H : Heap) (locs : List Loc) (ls : Array Slot) (h : lw_17 (xs (x3 + 1).toNatClampNeg) (xs (x3 + 2).toNatClampNeg) (xs (x3 + 3).toNatClampNeg) (xs (x3 + 4).toNatClampNeg) (xs (x3 + 5).toNatClampNeg) σX σM K) (hPX : va_P D vwCl (wl bX cs adX σX) H) (hPM : va_P D vwCl (wl bM cs adM σM) H) (hS : va_S (fNw s) s.heap H locs) (hl : lv_has ls 4 [(0, .ref b), (1, .ref (adX 0)), (2, .ref (adM 0)), (3, .int x3)]) (kk : ∀ (σX σM : Sg) (H : Heap) (locs : List Loc) (ls : Array Slot), K σX σM → va_P D vwCl (wl bX cs adX σX) H → va_P D vwCl (wl bM cs adM σM) H → va_S (fNw s) s.heap H locs → lv_has ls 4 [(0, .ref b), (1, .ref (adX 0)), (2, .ref (adM 0)), (3, .int x3)] → W p l e room_1 s m #[Value.ref b] below meth c H locs 600000 7302250 Q (F0 m 1402 ls [])) : W p l e room_1 s m #[Value.ref b] below meth c H locs 600000 7302250 Q (F0 m 771 ls []) := by
  have hbA : ¬ (fNw s) b := Nat.not_le.mpr hbl
  have hap2 : ∀ i j, i < bM.1 → j < bX.1 → adM i ≠ adX j := fun i j hi hj q => hap j i hj hi q.symm
  unfold lw_17 at h
  refine lv_aload_n hx hb dL_law_771 rfl (lv_at hl 1 rfl) ?_
  refine lv_aload_n hx hb dL_law_772 rfl (lv_at hl 0 rfl) ?_
  refine lv_iload_n hx hb dL_law_773 rfl (lv_at hl 3 rfl) ?_
  refine lv_iconst (v := 1) hx hb dL_law_774 (by decide) ?_
  refine lv_iadd hx hb dL_law_775 ?_
  refine va_sld hx hb hXs hbl hbA hS hin1 dL_law_776 ?_
  refine lw_i (B := bX) (B2 := bM) (σ2 := σM) (kV (As := [.int (xs (x3 + 1).toNatClampNeg)]) (rest := []) (o := some 0) rfl ⟨hx, hb, hml, hown, hts⟩ (c_X5_tuck l D cs adX 0 (xs (x3 + 1).toNatClampNeg) σX _ rfl) (cwV 1 hts gL_law_X5_tuck rfl rfl rfl (by decide +kernel) ⟨Nat.le_of_ble_eq_true rfl, Nat.le_of_ble_eq_true rfl⟩) hEX hPX rfl rfl (w_4 hEX rfl) h rfl hl.1 rfl (lv_room (Nat.le_of_ble_eq_true rfl)) dL_law_777 ⟨Nat.le_refl _, Nat.le_refl _⟩) hS hgX hap hPM (fun rX σX H locs h hPX hPM hS => ?_)
  refine lv_aload_n hx hb dL_law_780 rfl (lv_at hl 2 rfl) ?_
  refine lv_aload_n hx hb dL_law_781 rfl (lv_at hl 0 rfl) ?_
  refine lv_iload_n hx hb dL_law_782 rfl (lv_at hl 3 rfl) ?_
  refine lv_iconst (v := 1) hx hb dL_law_783 (by decide) ?_
  refine lv_iadd hx hb dL_law_784 ?_
  refine va_sld hx hb hXs hbl hbA hS hin1 dL_law_785 ?_
  refine lw_i (B := bM) (B2 := bX) (σ2 := σX) (kV (As := [.int (xs (x3 + 1).toNatClampNeg)]) (rest := [.int rX]) (o := some 0) rfl ⟨hx, hb, hml, hown, hts⟩ (c_X6_tuck l D cs adM 0 (xs (x3 + 1).toNatClampNeg) σM _ rfl) (cwV 1 hts gL_law_X6_tuck rfl rfl rfl (by decide +kernel) ⟨Nat.le_of_ble_eq_true rfl, Nat.le_of_ble_eq_true rfl⟩) hEM hPM rfl rfl (w_5 hEM rfl) h rfl hl.1 rfl (lv_room (Nat.le_of_ble_eq_true rfl)) dL_law_786 ⟨Nat.le_refl _, Nat.le_refl _⟩) hS hgM hap2 hPX (fun rM σM H locs h hPM hPX hS => ?_)
  obtain ⟨he, h⟩ := h
  refine lv_icmp_eq (tgt := 1402) hx hb dL_law_789 (by decide) (fun _ => ?_) (fun c1 => ?_)
  · exact kk σX σM H locs ls h hPX hPM hS hl
  · exact absurd he c1
set_option maxHeartbeats 4000000 in
set_option maxRecDepth 100000 in
theorem lc_18 {p : Program} {l : Launch} {e : Env} {s : State} {m : MethodId} {below : List Frame} {meth : Method} {c : Code} {D : va_G} {cs : Cs} {adX adM : Nat → Nat} {b L : Nat} {xs : Nat → Int32} (hx : p.tables.exec = Jvm.exec) (hb : c.code = code) (hml : c.maxLocals = 4) (hown : s.vm.findClass RL = some m.cls) (hts : ∀ w ∈ wsL_law, w.before #[Value.ref b] s = true) (hXs : va_X b L xs s s.heap) (hbl : b < s.heap.size) (hEX : Ev bX D cs adX s) (hEM : Ev bM D cs adM s) (hgX : ∀ k, k < 85 → s.heap.size ≤ adX k) (hgM : ∀ k, k < 29 → s.heap.size ≤ adM k) (hap : apt adX adM) {Q : State → Prop} {x3 : Int32} (hin1 : vp_in (x3 + 1) L) (hin2 : vp_in (x3 + 2) L) (hin3 : vp_in (x3 + 3) L) (hin4 : vp_in (x3 + 4) L) (hin5 : vp_in (x3 + 5) L) (K : Sg → Sg → Prop) (σX σM : Sg) (H : Heap) (locs : List Loc) (ls : Array Slot) (h : lw_18 (xs (x3 + 1).toNatClampNeg) (xs (x3 + 2).toNatClampNeg) (xs (x3 + 3).toNatClampNeg) (xs (x3 + 4).toNatClampNeg) (xs (x3 + 5).toNatClampNeg) σX σM K) (hPX : va_P D vwCl (wl bX cs adX σX) H) (hPM : va_P D vwCl (wl bM cs adM σM) H) (hS : va_S (fNw s) s.heap H locs) (hl : lv_has ls 4 [(0, .ref b), (1, .ref (adX 0)), (2, .ref (adM 0)), (3, .int x3)]) (kk : ∀ (σX σM : Sg) (H : Heap) (locs : List Loc) (ls : Array Slot), K σX σM → va_P D vwCl (wl bX cs adX σX) H → va_P D vwCl (wl bM cs adM σM) H → va_S (fNw s) s.heap H locs → lv_has ls 4 [(0, .ref b), (1, .ref (adX 0)), (2, .ref (adM 0)), (3, .int x3)] → W p l e room_1 s m #[Value.ref b] below meth c H locs 600000 7302250 Q (F0 m 1402 ls [])) : W p l e room_1 s m #[Value.ref b] below meth c H locs 600000 7302250 Q (F0 m 794 ls []) := by
  have hbA : ¬ (fNw s) b := Nat.not_le.mpr hbl
  have hap2 : ∀ i j, i < bM.1 → j < bX.1 → adM i ≠ adX j := fun i j hi hj q => hap j i hj hi q.symm
  unfold lw_18 at h
  refine lv_aload_n hx hb dL_law_794 rfl (lv_at hl 1 rfl) ?_
  refine lv_aload_n hx hb dL_law_795 rfl (lv_at hl 0 rfl) ?_
  refine lv_iload_n hx hb dL_law_796 rfl (lv_at hl 3 rfl) ?_
  refine lv_iconst (v := 1) hx hb dL_law_797 (by decide) ?_
  refine lv_iadd hx hb dL_law_798 ?_
  refine va_sld hx hb hXs hbl hbA hS hin1 dL_law_799 ?_
  refine lw_i (B := bX) (B2 := bM) (σ2 := σM) (kV (As := [.int (xs (x3 + 1).toNatClampNeg)]) (rest := []) (o := some 0) rfl ⟨hx, hb, hml, hown, hts⟩ (c_X5_undo l D cs adX 0 (xs (x3 + 1).toNatClampNeg) σX _ rfl) (cwV 1 hts gL_law_X5_undo rfl rfl rfl (by decide +kernel) ⟨Nat.le_of_ble_eq_true rfl, Nat.le_of_ble_eq_true rfl⟩) hEX hPX rfl rfl (w_4 hEX rfl) h rfl hl.1 rfl (lv_room (Nat.le_of_ble_eq_true rfl)) dL_law_800 ⟨Nat.le_refl _, Nat.le_refl _⟩) hS hgX hap hPM (fun rX σX H locs h hPX hPM hS => ?_)
  refine lv_aload_n hx hb dL_law_803 rfl (lv_at hl 2 rfl) ?_
  refine lv_aload_n hx hb dL_law_804 rfl (lv_at hl 0 rfl) ?_
  refine lv_iload_n hx hb dL_law_805 rfl (lv_at hl 3 rfl) ?_
  refine lv_iconst (v := 1) hx hb dL_law_806 (by decide) ?_
  refine lv_iadd hx hb dL_law_807 ?_
  refine va_sld hx hb hXs hbl hbA hS hin1 dL_law_808 ?_
  refine lw_i (B := bM) (B2 := bX) (σ2 := σX) (kV (As := [.int (xs (x3 + 1).toNatClampNeg)]) (rest := [.int rX]) (o := some 0) rfl ⟨hx, hb, hml, hown, hts⟩ (c_X6_undo l D cs adM 0 (xs (x3 + 1).toNatClampNeg) σM _ rfl) (cwV 1 hts gL_law_X6_undo rfl rfl rfl (by decide +kernel) ⟨Nat.le_of_ble_eq_true rfl, Nat.le_of_ble_eq_true rfl⟩) hEM hPM rfl rfl (w_5 hEM rfl) h rfl hl.1 rfl (lv_room (Nat.le_of_ble_eq_true rfl)) dL_law_809 ⟨Nat.le_refl _, Nat.le_refl _⟩) hS hgM hap2 hPX (fun rM σM H locs h hPM hPX hS => ?_)
  obtain ⟨he, h⟩ := h
  refine lv_icmp_eq (tgt := 1402) hx hb dL_law_812 (by decide) (fun _ => ?_) (fun c1 => ?_)
  · exact kk σX σM H locs ls h hPX hPM hS hl
  · exact absurd he c1
set_option maxHeartbeats 4000000 in
set_option maxRecDepth 100000 in
theorem lc_19 {p : Program} {l : Launch} {e : Env} {s : State} {m : MethodId} {below : List Frame} {meth : Method} {c : Code} {D : va_G} {cs : Cs} {adX adM : Nat → Nat} {b L : Nat} {xs : Nat → Int32} (hx : p.tables.exec = Jvm.exec) (hb : c.code = code) (hml : c.maxLocals = 4) (hown : s.vm.findClass RL = some m.cls) (hts : ∀ w ∈ wsL_law, w.before #[Value.ref b] s = true) (hXs : va_X b L xs s s.heap) (hbl : b < s.heap.size) (hEX : Ev bX D cs adX s) (hEM : Ev bM D cs adM s) (hgX : ∀ k, k < 85 → s.heap.size ≤ adX k) (hgM : ∀ k, k < 29 → s.heap.size ≤ adM k) (hap : apt adX adM) {Q : State → Prop} {x3 : Int32} (hin1 : vp_in (x3 + 1) L) (hin2 : vp_in (x3 + 2) L) (hin3 : vp_in (x3 + 3) L) (hin4 : vp_in (x3 + 4) L) (hin5 : vp_in (x3 + 5) L) (K : Sg → Sg → Prop) (σX σM : Sg) (H : Heap) (locs : List Loc) (ls : Array Slot) (h : lw_19 (xs (x3 + 1).toNatClampNeg) (xs (x3 + 2).toNatClampNeg) (xs (x3 + 3).toNatClampNeg) (xs (x3 + 4).toNatClampNeg) (xs (x3 + 5).toNatClampNeg) σX σM K) (hPX : va_P D vwCl (wl bX cs adX σX) H) (hPM : va_P D vwCl (wl bM cs adM σM) H) (hS : va_S (fNw s) s.heap H locs) (hl : lv_has ls 4 [(0, .ref b), (1, .ref (adX 0)), (2, .ref (adM 0)), (3, .int x3)]) (kk : ∀ (σX σM : Sg) (H : Heap) (locs : List Loc) (ls : Array Slot), K σX σM → va_P D vwCl (wl bX cs adX σX) H → va_P D vwCl (wl bM cs adM σM) H → va_S (fNw s) s.heap H locs → lv_has ls 4 [(0, .ref b), (1, .ref (adX 0)), (2, .ref (adM 0)), (3, .int x3)] → W p l e room_1 s m #[Value.ref b] below meth c H locs 600000 7302250 Q (F0 m 1402 ls [])) : W p l e room_1 s m #[Value.ref b] below meth c H locs 600000 7302250 Q (F0 m 817 ls []) := by
  have hbA : ¬ (fNw s) b := Nat.not_le.mpr hbl
  have hap2 : ∀ i j, i < bM.1 → j < bX.1 → adM i ≠ adX j := fun i j hi hj q => hap j i hj hi q.symm
  unfold lw_19 at h
  refine lv_aload_n hx hb dL_law_817 rfl (lv_at hl 1 rfl) ?_
  refine lv_aload_n hx hb dL_law_818 rfl (lv_at hl 0 rfl) ?_
  refine lv_iload_n hx hb dL_law_819 rfl (lv_at hl 3 rfl) ?_
  refine lv_iconst (v := 1) hx hb dL_law_820 (by decide) ?_
  refine lv_iadd hx hb dL_law_821 ?_
  refine va_sld hx hb hXs hbl hbA hS hin1 dL_law_822 ?_
  refine lw_i (B := bX) (B2 := bM) (σ2 := σM) (kV (As := [.int (xs (x3 + 1).toNatClampNeg)]) (rest := []) (o := some 0) rfl ⟨hx, hb, hml, hown, hts⟩ (c_X5_keep l D cs adX 0 (xs (x3 + 1).toNatClampNeg) σX _ rfl) (cwV 1 hts gL_law_X5_keep rfl rfl rfl (by decide +kernel) ⟨Nat.le_of_ble_eq_true rfl, Nat.le_of_ble_eq_true rfl⟩) hEX hPX rfl rfl (w_4 hEX rfl) h rfl hl.1 rfl (lv_room (Nat.le_of_ble_eq_true rfl)) dL_law_823 ⟨Nat.le_refl _, Nat.le_refl _⟩) hS hgX hap hPM (fun rX σX H locs h hPX hPM hS => ?_)
  refine lv_aload_n hx hb dL_law_826 rfl (lv_at hl 2 rfl) ?_
  refine lv_aload_n hx hb dL_law_827 rfl (lv_at hl 0 rfl) ?_
  refine lv_iload_n hx hb dL_law_828 rfl (lv_at hl 3 rfl) ?_
  refine lv_iconst (v := 1) hx hb dL_law_829 (by decide) ?_
  refine lv_iadd hx hb dL_law_830 ?_
  refine va_sld hx hb hXs hbl hbA hS hin1 dL_law_831 ?_
  refine lw_i (B := bM) (B2 := bX) (σ2 := σX) (kV (As := [.int (xs (x3 + 1).toNatClampNeg)]) (rest := [.int rX]) (o := some 0) rfl ⟨hx, hb, hml, hown, hts⟩ (c_X6_keep l D cs adM 0 (xs (x3 + 1).toNatClampNeg) σM _ rfl) (cwV 1 hts gL_law_X6_keep rfl rfl rfl (by decide +kernel) ⟨Nat.le_of_ble_eq_true rfl, Nat.le_of_ble_eq_true rfl⟩) hEM hPM rfl rfl (w_5 hEM rfl) h rfl hl.1 rfl (lv_room (Nat.le_of_ble_eq_true rfl)) dL_law_832 ⟨Nat.le_refl _, Nat.le_refl _⟩) hS hgM hap2 hPX (fun rM σM H locs h hPM hPX hS => ?_)
  obtain ⟨he, h⟩ := h
  refine lv_icmp_eq (tgt := 1402) hx hb dL_law_835 (by decide) (fun _ => ?_) (fun c1 => ?_)
  · exact kk σX σM H locs ls h hPX hPM hS hl
  · exact absurd he c1
set_option maxHeartbeats 4000000 in
set_option maxRecDepth 100000 in
theorem lc_20 {p : Program} {l : Launch} {e : Env} {s : State} {m : MethodId} {below : List Frame} {meth : Method} {c : Code} {D : va_G} {cs : Cs} {adX adM : Nat → Nat} {b L : Nat} {xs : Nat → Int32} (hx : p.tables.exec = Jvm.exec) (hb : c.code = code) (hml : c.maxLocals = 4) (hown : s.vm.findClass RL = some m.cls) (hts : ∀ w ∈ wsL_law, w.before #[Value.ref b] s = true) (hXs : va_X b L xs s s.heap) (hbl : b < s.heap.size) (hEX : Ev bX D cs adX s) (hEM : Ev bM D cs adM s) (hgX : ∀ k, k < 85 → s.heap.size ≤ adX k) (hgM : ∀ k, k < 29 → s.heap.size ≤ adM k) (hap : apt adX adM) {Q : State → Prop} {x3 : Int32} (hin1 : vp_in (x3 + 1) L) (hin2 : vp_in (x3 + 2) L) (hin3 : vp_in (x3 + 3) L) (hin4 : vp_in (x3 + 4) L) (hin5 : vp_in (x3 + 5) L) (K : Sg → Sg → Prop) (σX σM : Sg) (H : Heap) (locs : List Loc) (ls : Array Slot) (h : lw_20 (xs (x3 + 1).toNatClampNeg) (xs (x3 + 2).toNatClampNeg) (xs (x3 + 3).toNatClampNeg) (xs (x3 + 4).toNatClampNeg) (xs (x3 + 5).toNatClampNeg) σX σM K) (hPX : va_P D vwCl (wl bX cs adX σX) H) (hPM : va_P D vwCl (wl bM cs adM σM) H) (hS : va_S (fNw s) s.heap H locs) (hl : lv_has ls 4 [(0, .ref b), (1, .ref (adX 0)), (2, .ref (adM 0)), (3, .int x3)]) (kk : ∀ (σX σM : Sg) (H : Heap) (locs : List Loc) (ls : Array Slot), K σX σM → va_P D vwCl (wl bX cs adX σX) H → va_P D vwCl (wl bM cs adM σM) H → va_S (fNw s) s.heap H locs → lv_has ls 4 [(0, .ref b), (1, .ref (adX 0)), (2, .ref (adM 0)), (3, .int x3)] → W p l e room_1 s m #[Value.ref b] below meth c H locs 600000 7302250 Q (F0 m 1402 ls [])) : W p l e room_1 s m #[Value.ref b] below meth c H locs 600000 7302250 Q (F0 m 840 ls []) := by
  have hbA : ¬ (fNw s) b := Nat.not_le.mpr hbl
  have hap2 : ∀ i j, i < bM.1 → j < bX.1 → adM i ≠ adX j := fun i j hi hj q => hap j i hj hi q.symm
  unfold lw_20 at h
  refine lv_aload_n hx hb dL_law_840 rfl (lv_at hl 1 rfl) ?_
  refine lv_aload_n hx hb dL_law_841 rfl (lv_at hl 0 rfl) ?_
  refine lv_iload_n hx hb dL_law_842 rfl (lv_at hl 3 rfl) ?_
  refine lv_iconst (v := 1) hx hb dL_law_843 (by decide) ?_
  refine lv_iadd hx hb dL_law_844 ?_
  refine va_sld hx hb hXs hbl hbA hS hin1 dL_law_845 ?_
  refine lw_i (B := bX) (B2 := bM) (σ2 := σM) (kV (As := [.int (xs (x3 + 1).toNatClampNeg)]) (rest := []) (o := some 0) rfl ⟨hx, hb, hml, hown, hts⟩ (c_X5_on l D cs adX 0 (xs (x3 + 1).toNatClampNeg) σX _ rfl) (cwV 1 hts gL_law_X5_on rfl rfl rfl (by decide +kernel) ⟨Nat.le_of_ble_eq_true rfl, Nat.le_of_ble_eq_true rfl⟩) hEX hPX rfl rfl (w_4 hEX rfl) h rfl hl.1 rfl (lv_room (Nat.le_of_ble_eq_true rfl)) dL_law_846 ⟨Nat.le_refl _, Nat.le_refl _⟩) hS hgX hap hPM (fun rX σX H locs h hPX hPM hS => ?_)
  refine lv_aload_n hx hb dL_law_849 rfl (lv_at hl 2 rfl) ?_
  refine lv_aload_n hx hb dL_law_850 rfl (lv_at hl 0 rfl) ?_
  refine lv_iload_n hx hb dL_law_851 rfl (lv_at hl 3 rfl) ?_
  refine lv_iconst (v := 1) hx hb dL_law_852 (by decide) ?_
  refine lv_iadd hx hb dL_law_853 ?_
  refine va_sld hx hb hXs hbl hbA hS hin1 dL_law_854 ?_
  refine lw_i (B := bM) (B2 := bX) (σ2 := σX) (kV (As := [.int (xs (x3 + 1).toNatClampNeg)]) (rest := [.int rX]) (o := some 0) rfl ⟨hx, hb, hml, hown, hts⟩ (c_X6_on l D cs adM 0 (xs (x3 + 1).toNatClampNeg) σM _ rfl) (cwV 1 hts gL_law_X6_on rfl rfl rfl (by decide +kernel) ⟨Nat.le_of_ble_eq_true rfl, Nat.le_of_ble_eq_true rfl⟩) hEM hPM rfl rfl (w_5 hEM rfl) h rfl hl.1 rfl (lv_room (Nat.le_of_ble_eq_true rfl)) dL_law_855 ⟨Nat.le_refl _, Nat.le_refl _⟩) hS hgM hap2 hPX (fun rM σM H locs h hPM hPX hS => ?_)
  obtain ⟨he, h⟩ := h
  refine lv_icmp_eq (tgt := 1402) hx hb dL_law_858 (by decide) (fun _ => ?_) (fun c1 => ?_)
  · exact kk σX σM H locs ls h hPX hPM hS hl
  · exact absurd he c1
