/-! the script's reader, the two objects side by side -/
def lowV (v n : Int32) : Int32 := (v &&& 2147483647) - (v &&& 2147483647) / n * n
theorem low_i {x y : Int32} {s : Sg} {Q : Int32 → Sg → Prop} (h : ¬ y = 0) (q : Q (lowV x y) s) : p_L_low x y s Q := by
  unfold p_L_low
  exact ⟨h, q⟩
abbrev PcX (b L : Nat) (xs : Nat → Int32) (av : List Value) : Array Value → State → Prop := va_Pc av (fun U => va_X b L xs U U.heap)
theorem pcX_blind {b L : Nat} {xs : Nat → Int32} {av : List Value} : FrameBlind (PcX b L xs av) := fun a _ g mk h => ⟨h.1, va_X.moved (Vm.Alike.refl _) h.2⟩
set_option maxHeartbeats 4000000 in
set_option maxRecDepth 100000 in
theorem c_L_cell (l : Launch) (b L : Nat) (xs : Nat → Int32) (hL : L ≤ 260) (k : Nat) (hk : k < 21) : Met l yL_cell wsL_cell { frames := 0, cells := 0, slots := 0, locals := 0 } (PcX b L xs [.ref b, .int (nI k)]) (va_Qi (fun _ (_ : Unit) => True) (fun _ _ => True) (fun _ => False)) 0 0 (fun _ => False) := by
  refine Met.ofW (cc := cL_cell) (maxL := 2) (ret := (some .int)) (by decide) rfl ?_
  intro p e s m args below meth c s₁ B0 hml hv
  obtain ⟨ha, hX⟩ := hv
  have hx := B0.exec
  have hb := B0.bytes
  have hr := B0.returns
  have hts := atoms_spec (ws := wsL_cell) B0.pre
  have hown : s.vm.findClass RL = some m.cls := findClass_of_methodNamed B0.named
  have hS : va_S (fun _ => False) s.heap s.heap [] := va_S.rf
  have hbl : b < s.heap.size := by
    obtain ⟨scr, h1, _⟩ := hX
    exact (Array.getElem?_eq_some_iff.mp h1).1
  have hl := lv_entry ([.ref b, .int (nI k)]) (n := 2) (by first | exact Nat.le_of_ble_eq_true rfl | simp [lg_sl, re_cat, cat_i, cat_l, cat_r])
  rw [show entryFrame m args 2 = entryFrame m ([.ref b, .int (nI k)] : List Value).toArray 2 by rw [ha], lg_entry_eq]
  generalize (lg_sl ([.ref b, .int (nI k)]) ++ List.replicate (2 - (lg_sl ([.ref b, .int (nI k)])).length) Slot.unset).toArray = ls at hl ⊢
  have hl : lv_has ls 2 [(0, .ref b), (1, .int (nI k))] := by first | exact hl | simpa [lv_args, re_cat, cat_i, cat_l, cat_r] using hl
  refine lv_iload_n hx hb dL_cell_0 rfl (lv_at hl 1 rfl) ?_
  refine lv_aload_n hx hb dL_cell_1 rfl (lv_at hl 0 rfl) ?_
  refine va_slen hx hb hX hbl (fun h => h) hS dL_cell_2 ?_
  refine lv_icmp_ge (tgt := 12) hx hb dL_cell_3 (by decide) (fun c1 => ?_) (fun c1 => ?_)
  · refine lv_ldc (v := 747796405) hx hb hown (hts (.constant RL 7 (747796405)) (by decide +kernel)) dL_cell_12 ?_
    refine lv_iload_n hx hb dL_cell_14 rfl (lv_at hl 1 rfl) ?_
    refine lv_iconst (v := 1) hx hb dL_cell_15 (by decide) ?_
    refine lv_iadd hx hb dL_cell_16 ?_
    refine lv_imul hx hb dL_cell_17 ?_
    exact W.iret hx hb hr (fun t ht hW => ⟨⟨_, (), rfl, trivial, trivial⟩, hS.F ht⟩) hS.2.2 dL_cell_18
  · have hkL : k < L := by
      apply Nat.lt_of_not_le
      intro q
      exact c1 (nI_le q (by omega))
    refine lv_aload_n hx hb dL_cell_6 rfl (lv_at hl 0 rfl) ?_
    refine lv_iload_n hx hb dL_cell_7 rfl (lv_at hl 1 rfl) ?_
    refine va_sld hx hb hX hbl (fun h => h) hS (vp_in_nI hkL (by omega)) dL_cell_8 ?_
    refine lv_goto (tgt := 18) hx hb dL_cell_9 (by decide) ?_
    exact W.iret hx hb hr (fun t ht hW => ⟨⟨_, (), rfl, trivial, trivial⟩, hS.F ht⟩) hS.2.2 dL_cell_18
/-- the law's frame: all cells that are new -/
abbrev fNw (s : State) : Nat → Prop := fun q => s.heap.size ≤ q
def apt (adX adY : Nat → Nat) : Prop := ∀ i j, i < 85 → j < 85 → adX i ≠ adY j
theorem apt_sym {adX adY : Nat → Nat} (h : apt adX adY) : apt adY adX := fun i j hi hj e => h j i hj hi e.symm
theorem lg_self (x : Int64) : lg_cmp x x = 0 := by simp [lg_cmp]
section LWB
variable {p : Program} {l : Launch} {e : Env} {R : Room} {s : State} {m : MethodId} {args : Array Value} {below : List Frame} {meth : Method} {c : Code} {H : Heap} {locs : List Loc} {cells slots : Nat} {Q : State → Prop}
variable {pc : Nat} {ls : Array Slot} {rest st0 : List Value} {D : va_G} {cs : Cs} {ad ad2 : Nat → Nat} {σ σ2 : Sg} {a : Array Value} {A : Nat → Prop} {H0 : Heap}
theorem l2_keep {H1 : Heap} (hap : apt ad ad2) (hP : va_P D vwCl (wl bX cs ad2 σ2) H) (hk : ∀ q : Nat, q < H.size → ¬ fAd bX ad q → H1[q]? = H[q]?) : va_P D vwCl (wl bX cs ad2 σ2) H1 :=
  hP.kept (fun k x hx => hk x.1 ((hP k x hx).lt) (fun h => by
    obtain ⟨i, hi, e1⟩ := h
    obtain ⟨hj, e2⟩ := wl_of hx
    rw [e2] at e1
    exact hap i k hi hj e1.symm))
theorem l2_i {Q1 : Int32 → Sg → Prop} (hr : va_Run p l e R s m args below meth c H locs cells slots 0 0 (F0 m pc ls st0) rest (QI bX D cs ad Q1 a) (fAd bX ad)) (hS : va_S A H0 H locs) (hge : ∀ q, fAd bX ad q → A q) (hap : apt ad ad2) (hP2 : va_P D vwCl (wl bX cs ad2 σ2) H)
    (kk : ∀ (r : Int32) (u : Sg) (H1 : Heap) (locs1 : List Loc), Q1 r u → va_P D vwCl (wl bX cs ad u) H1 → va_P D vwCl (wl bX cs ad2 σ2) H1 → va_S A H0 H1 locs1 → W p l e R s m args below meth c H1 locs1 cells slots Q (F0 m (pc + 3) ls (.int r :: rest))) : W p l e R s m args below meth c H locs cells slots Q (F0 m pc ls st0) :=
  va_calli hr hS (fun q _ h => hge q h) hge (fun r u t H1 locs1 ht _ hq hB _ hk hS1 => kk r u H1 locs1 hq (by rw [← ht]; exact hB) (l2_keep hap hP2 hk) hS1)
theorem l2_l {Q1 : Int64 → Sg → Prop} (hr : va_Run p l e R s m args below meth c H locs cells slots 0 0 (F0 m pc ls st0) rest (QL bX D cs ad Q1 a) (fAd bX ad)) (hS : va_S A H0 H locs) (hge : ∀ q, fAd bX ad q → A q) (hap : apt ad ad2) (hP2 : va_P D vwCl (wl bX cs ad2 σ2) H)
    (kk : ∀ (r : Int64) (u : Sg) (H1 : Heap) (locs1 : List Loc), Q1 r u → va_P D vwCl (wl bX cs ad u) H1 → va_P D vwCl (wl bX cs ad2 σ2) H1 → va_S A H0 H1 locs1 → W p l e R s m args below meth c H1 locs1 cells slots Q (F0 m (pc + 3) ls (.long r :: rest))) : W p l e R s m args below meth c H locs cells slots Q (F0 m pc ls st0) :=
  va_calll hr hS (fun q _ h => hge q h) hge (fun r u t H1 locs1 ht _ hq hB _ hk hS1 => kk r u H1 locs1 hq (by rw [← ht]; exact hB) (l2_keep hap hP2 hk) hS1)
end LWB
def pSame (σX σY : Sg) (K : Sg → Sg → Prop) : Prop := p_X5_digest 0 σX (fun r1 σX => p_X5_digest 0 σY (fun r2 σY => r1 = r2 ∧ p_X5_asked 0 σX (fun r4 σX => p_X5_asked 0 σY (fun r5 σY => r4 = r5 ∧ p_X5_upper 0 σX (fun r7 σX => p_X5_upper 0 σY (fun r8 σY => r7 = r8 ∧ p_X5_lower 0 σX (fun r10 σX => p_X5_lower 0 σY (fun r11 σY => r10 = r11 ∧ p_X5_finding 0 σX (fun r13 σX => p_X5_finding 0 σY (fun r14 σY => r13 = r14 ∧ K σX σY))))))))))
abbrev PcW (D : va_G) (cs : Cs) (adX adY : Nat → Nat) (X Y : Sg) (P : Prop) : Array Value → State → Prop := va_Pc [.ref (adX 0), .ref (adY 0)] (fun U => va_P D vwCl (wl bX cs adX X) U.heap ∧ va_P D vwCl (wl bX cs adY Y) U.heap ∧ Ev bX D cs adX U ∧ Ev bX D cs adY U ∧ apt adX adY ∧ P)
theorem pcW_blind {D : va_G} {cs : Cs} {adX adY : Nat → Nat} {X Y : Sg} {P : Prop} : FrameBlind (PcW D cs adX adY X Y P) := fun a _ g mk h => ⟨h.1, h.2.1, h.2.2.1, h.2.2.2.1.call g mk a, h.2.2.2.2.1.call g mk a, h.2.2.2.2.2⟩
abbrev fXY (adX adY : Nat → Nat) : Nat → Prop := fun q => fAd bX adX q ∨ fAd bX adY q
set_option maxHeartbeats 4000000 in
set_option maxRecDepth 100000 in
theorem c_L_same (l : Launch) (D : va_G) (cs : Cs) (adX adY : Nat → Nat) (σX σY : Sg) (K : Sg → Sg → Prop) : Met l yL_same wsL_same { frames := 8, cells := 0, slots := 0, locals := 186 } (PcW D cs adX adY σX σY (pSame σX σY K)) (va_Qi (fun r (u : Sg × Sg) => r = 1 ∧ K u.1 u.2) (fun (u : Sg × Sg) (t : State) => va_P D vwCl (wl bX cs adX u.1) t.heap ∧ va_P D vwCl (wl bX cs adY u.2) t.heap) (fXY adX adY)) 0 0 (fXY adX adY) := by
  refine Met.ofW (cc := cL_same) (maxL := 2) (ret := (some .boolean)) (by decide) rfl ?_
  intro p e s m args below meth c s₁ B0 hml hv
  obtain ⟨ha, hPX, hPY, hEX, hEY, hapX, h⟩ := hv
  have hapY := apt_sym hapX
  have hx := B0.exec
  have hb := B0.bytes
  have hr := B0.returns
  have hts := atoms_spec (ws := wsL_same) B0.pre
  have hown : s.vm.findClass RL = some m.cls := findClass_of_methodNamed B0.named
  have hS : va_S (fXY adX adY) s.heap s.heap [] := va_S.rf
  have hgX : ∀ q, fAd bX adX q → fXY adX adY q := fun q h => Or.inl h
  have hgY : ∀ q, fAd bX adY q → fXY adX adY q := fun q h => Or.inr h
  have hl := lv_entry ([.ref (adX 0), .ref (adY 0)]) (n := 2) (by first | exact Nat.le_of_ble_eq_true rfl | simp [lg_sl, re_cat, cat_i, cat_l, cat_r])
  rw [show entryFrame m args 2 = entryFrame m ([.ref (adX 0), .ref (adY 0)] : List Value).toArray 2 by rw [ha], lg_entry_eq]
  generalize (lg_sl ([.ref (adX 0), .ref (adY 0)]) ++ List.replicate (2 - (lg_sl ([.ref (adX 0), .ref (adY 0)])).length) Slot.unset).toArray = ls at hl ⊢
  have hl : lv_has ls 2 [(0, .ref (adX 0)), (1, .ref (adY 0))] := by first | exact hl | simpa [lv_args, re_cat, cat_i, cat_l, cat_r] using hl
  unfold pSame at h
  refine lv_aload_n hx hb dL_same_0 rfl (lv_at hl 0 rfl) ?_
  refine l2_l (kV (As := []) (rest := []) (o := some 0) rfl ⟨hx, hb, hml, hown, hts⟩ (c_X5_digest l D cs adX 0  σX _ rfl) (cwV 0 hts gL_same_X5_digest rfl rfl rfl (by decide +kernel) ⟨Nat.le_of_ble_eq_true rfl, Nat.le_of_ble_eq_true rfl⟩) hEX hPX rfl rfl (w_4 hEX rfl) h rfl hl.1 rfl (lv_room (Nat.le_of_ble_eq_true rfl)) dL_same_1 ⟨Nat.le_refl _, Nat.le_refl _⟩) hS hgX hapX hPY (fun r1 σX H locs h hPX hPY hS => ?_)
  refine lv_aload_n hx hb dL_same_4 rfl (lv_at hl 1 rfl) ?_
  refine l2_l (kV (As := []) (rest := [.long r1]) (o := some 0) rfl ⟨hx, hb, hml, hown, hts⟩ (c_X5_digest l D cs adY 0  σY _ rfl) (cwV 0 hts gL_same_X5_digest rfl rfl rfl (by decide +kernel) ⟨Nat.le_of_ble_eq_true rfl, Nat.le_of_ble_eq_true rfl⟩) hEY hPY rfl rfl (w_4 hEY rfl) h rfl hl.1 rfl (lv_room (Nat.le_of_ble_eq_true rfl)) dL_same_5 ⟨Nat.le_refl _, Nat.le_refl _⟩) hS hgY hapY hPX (fun r2 σY H locs h hPY hPX hS => ?_)
  refine W.lcmp hx hb dL_same_8 ?_
  obtain ⟨e3, h⟩ := h
  refine lv_if_ne (tgt := 62) hx hb dL_same_9 (by decide) (fun c1 => absurd (by rw [e3]; exact lg_self _) c1) (fun _ => ?_)
  refine lv_aload_n hx hb dL_same_12 rfl (lv_at hl 0 rfl) ?_
  refine l2_i (kV (As := []) (rest := []) (o := some 0) rfl ⟨hx, hb, hml, hown, hts⟩ (c_X5_asked l D cs adX 0  σX _ rfl) (cwV 0 hts gL_same_X5_asked rfl rfl rfl (by decide +kernel) ⟨Nat.le_of_ble_eq_true rfl, Nat.le_of_ble_eq_true rfl⟩) hEX hPX rfl rfl (w_4 hEX rfl) h rfl hl.1 rfl (lv_room (Nat.le_of_ble_eq_true rfl)) dL_same_13 ⟨Nat.le_refl _, Nat.le_refl _⟩) hS hgX hapX hPY (fun r4 σX H locs h hPX hPY hS => ?_)
  refine lv_aload_n hx hb dL_same_16 rfl (lv_at hl 1 rfl) ?_
  refine l2_i (kV (As := []) (rest := [.int r4]) (o := some 0) rfl ⟨hx, hb, hml, hown, hts⟩ (c_X5_asked l D cs adY 0  σY _ rfl) (cwV 0 hts gL_same_X5_asked rfl rfl rfl (by decide +kernel) ⟨Nat.le_of_ble_eq_true rfl, Nat.le_of_ble_eq_true rfl⟩) hEY hPY rfl rfl (w_4 hEY rfl) h rfl hl.1 rfl (lv_room (Nat.le_of_ble_eq_true rfl)) dL_same_17 ⟨Nat.le_refl _, Nat.le_refl _⟩) hS hgY hapY hPX (fun r5 σY H locs h hPY hPX hS => ?_)
  obtain ⟨e6, h⟩ := h
  refine lv_icmp_ne (tgt := 62) hx hb dL_same_20 (by decide) (fun c1 => absurd e6 c1) (fun _ => ?_)
  refine lv_aload_n hx hb dL_same_23 rfl (lv_at hl 0 rfl) ?_
  refine l2_l (kV (As := []) (rest := []) (o := some 0) rfl ⟨hx, hb, hml, hown, hts⟩ (c_X5_upper l D cs adX 0  σX _ rfl) (cwV 0 hts gL_same_X5_upper rfl rfl rfl (by decide +kernel) ⟨Nat.le_of_ble_eq_true rfl, Nat.le_of_ble_eq_true rfl⟩) hEX hPX rfl rfl (w_4 hEX rfl) h rfl hl.1 rfl (lv_room (Nat.le_of_ble_eq_true rfl)) dL_same_24 ⟨Nat.le_refl _, Nat.le_refl _⟩) hS hgX hapX hPY (fun r7 σX H locs h hPX hPY hS => ?_)
  refine lv_aload_n hx hb dL_same_27 rfl (lv_at hl 1 rfl) ?_
  refine l2_l (kV (As := []) (rest := [.long r7]) (o := some 0) rfl ⟨hx, hb, hml, hown, hts⟩ (c_X5_upper l D cs adY 0  σY _ rfl) (cwV 0 hts gL_same_X5_upper rfl rfl rfl (by decide +kernel) ⟨Nat.le_of_ble_eq_true rfl, Nat.le_of_ble_eq_true rfl⟩) hEY hPY rfl rfl (w_4 hEY rfl) h rfl hl.1 rfl (lv_room (Nat.le_of_ble_eq_true rfl)) dL_same_28 ⟨Nat.le_refl _, Nat.le_refl _⟩) hS hgY hapY hPX (fun r8 σY H locs h hPY hPX hS => ?_)
  refine W.lcmp hx hb dL_same_31 ?_
  obtain ⟨e9, h⟩ := h
  refine lv_if_ne (tgt := 62) hx hb dL_same_32 (by decide) (fun c1 => absurd (by rw [e9]; exact lg_self _) c1) (fun _ => ?_)
  refine lv_aload_n hx hb dL_same_35 rfl (lv_at hl 0 rfl) ?_
  refine l2_l (kV (As := []) (rest := []) (o := some 0) rfl ⟨hx, hb, hml, hown, hts⟩ (c_X5_lower l D cs adX 0  σX _ rfl) (cwV 0 hts gL_same_X5_lower rfl rfl rfl (by decide +kernel) ⟨Nat.le_of_ble_eq_true rfl, Nat.le_of_ble_eq_true rfl⟩) hEX hPX rfl rfl (w_4 hEX rfl) h rfl hl.1 rfl (lv_room (Nat.le_of_ble_eq_true rfl)) dL_same_36 ⟨Nat.le_refl _, Nat.le_refl _⟩) hS hgX hapX hPY (fun r10 σX H locs h hPX hPY hS => ?_)
  refine lv_aload_n hx hb dL_same_39 rfl (lv_at hl 1 rfl) ?_
  refine l2_l (kV (As := []) (rest := [.long r10]) (o := some 0) rfl ⟨hx, hb, hml, hown, hts⟩ (c_X5_lower l D cs adY 0  σY _ rfl) (cwV 0 hts gL_same_X5_lower rfl rfl rfl (by decide +kernel) ⟨Nat.le_of_ble_eq_true rfl, Nat.le_of_ble_eq_true rfl⟩) hEY hPY rfl rfl (w_4 hEY rfl) h rfl hl.1 rfl (lv_room (Nat.le_of_ble_eq_true rfl)) dL_same_40 ⟨Nat.le_refl _, Nat.le_refl _⟩) hS hgY hapY hPX (fun r11 σY H locs h hPY hPX hS => ?_)
  refine W.lcmp hx hb dL_same_43 ?_
  obtain ⟨e12, h⟩ := h
  refine lv_if_ne (tgt := 62) hx hb dL_same_44 (by decide) (fun c1 => absurd (by rw [e12]; exact lg_self _) c1) (fun _ => ?_)
  refine lv_aload_n hx hb dL_same_47 rfl (lv_at hl 0 rfl) ?_
  refine l2_i (kV (As := []) (rest := []) (o := some 0) rfl ⟨hx, hb, hml, hown, hts⟩ (c_X5_finding l D cs adX 0  σX _ rfl) (cwV 0 hts gL_same_X5_finding rfl rfl rfl (by decide +kernel) ⟨Nat.le_of_ble_eq_true rfl, Nat.le_of_ble_eq_true rfl⟩) hEX hPX rfl rfl (w_4 hEX rfl) h rfl hl.1 rfl (lv_room (Nat.le_of_ble_eq_true rfl)) dL_same_48 ⟨Nat.le_refl _, Nat.le_refl _⟩) hS hgX hapX hPY (fun r13 σX H locs h hPX hPY hS => ?_)
  refine lv_aload_n hx hb dL_same_51 rfl (lv_at hl 1 rfl) ?_
  refine l2_i (kV (As := []) (rest := [.int r13]) (o := some 0) rfl ⟨hx, hb, hml, hown, hts⟩ (c_X5_finding l D cs adY 0  σY _ rfl) (cwV 0 hts gL_same_X5_finding rfl rfl rfl (by decide +kernel) ⟨Nat.le_of_ble_eq_true rfl, Nat.le_of_ble_eq_true rfl⟩) hEY hPY rfl rfl (w_4 hEY rfl) h rfl hl.1 rfl (lv_room (Nat.le_of_ble_eq_true rfl)) dL_same_52 ⟨Nat.le_refl _, Nat.le_refl _⟩) hS hgY hapY hPX (fun r14 σY H locs h hPY hPX hS => ?_)
  obtain ⟨e15, h⟩ := h
  refine lv_icmp_ne (tgt := 62) hx hb dL_same_55 (by decide) (fun c1 => absurd e15 c1) (fun _ => ?_)
  refine lv_iconst (v := 1) hx hb dL_same_58 (by decide) ?_
  refine lv_goto (tgt := 63) hx hb dL_same_59 (by decide) ?_
  exact W.zret hx hb hr rfl (fun t ht hW => ⟨⟨_, (σX, σY), rfl, ⟨rfl, h⟩, pw ht hPX, pw ht hPY⟩, hS.F ht⟩) hS.2.2 dL_same_63
