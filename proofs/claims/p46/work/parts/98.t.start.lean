def sM0 : Sg := (fun _ _ => 0, fun k j => if k = 0 ∧ j = 2 then 1 else 0, fun k => if k = 25 then upd (upd (upd (fun _ => 0) ((0 : Int32).toNatClampNeg) ((-1))) ((1 : Int32).toNatClampNeg) ((-1))) ((2 : Int32).toNatClampNeg) ((-1)) else if k = 5 then upd (upd (upd (upd (fun _ => 0) ((0 : Int32).toNatClampNeg) ((-1))) ((1 : Int32).toNatClampNeg) ((-1))) ((2 : Int32).toNatClampNeg) ((-1))) ((3 : Int32).toNatClampNeg) ((-1)) else if k = 3 then upd (upd (upd (upd (upd (upd (fun _ => 0) ((0 : Int32).toNatClampNeg) ((-1))) ((1 : Int32).toNatClampNeg) ((-1))) ((2 : Int32).toNatClampNeg) ((-1))) ((3 : Int32).toNatClampNeg) ((-1))) ((4 : Int32).toNatClampNeg) ((-1))) ((5 : Int32).toNatClampNeg) ((-1)) else fun _ => 0, none)
/-! the start: both objects new -/
theorem z0R (f g : Nat → Int32) {k : Nat} (h2 : k ≠ 2) (h11 : k ≠ 11) : gR (sX0 f g) k = fun _ => 0 := by
  show (if k = 2 then f else if k = 11 then g else fun _ => 0) = _
  rw [if_neg h2, if_neg h11]
theorem m0R {k : Nat} (h3 : k ≠ 3) (h5 : k ≠ 5) (h25 : k ≠ 25) : gR sM0 k = fun _ => 0 := by
  unfold sM0 gR
  simp only []
  rw [if_neg h25, if_neg h5, if_neg h3]
theorem m0_3 : ∀ k, k < 6 → gR sM0 3 k = -1 := by
  intro k hk
  rcases (show k = 0 ∨ k = 1 ∨ k = 2 ∨ k = 3 ∨ k = 4 ∨ k = 5 by omega) with rfl | rfl | rfl | rfl | rfl | rfl <;> rfl
theorem m0_5 : ∀ k, k < 4 → gR sM0 5 k = -1 := by
  intro k hk
  rcases (show k = 0 ∨ k = 1 ∨ k = 2 ∨ k = 3 by omega) with rfl | rfl | rfl | rfl <;> rfl
theorem m0_25 : ∀ k, k < 3 → gR sM0 25 k = -1 := by
  intro k hk
  rcases (show k = 0 ∨ k = 1 ∨ k = 2 by omega) with rfl | rfl | rfl <;> rfl
theorem Inv_0 (f g : Nat → Int32) (hf : ∀ i, i < 6 → f i = -1) (hg : ∀ i, i < 4 → g i = -1) : Inv (sX0 f g) sM0 := by
  refine ⟨⟨rfl, fun k _ => ?_⟩, ⟨rfl, rfl, rfl⟩, fun k hk => ?_, fun k hk => ?_, fun k i hk hi => ?_, ?_⟩
  · rw [z0R f g (by decide) (by decide), m0R (by decide) (by decide) (by decide)]
  · have e : gR (sX0 f g) (1 + 1) k = -1 := hf k hk
    rw [e, m0_3 k hk]
    refine ⟨Or.inl rfl, rfl, fun i _ => ?_⟩
    rw [z0R f g (by omega) (by omega), m0R (by decide) (by decide) (by decide)]
  · have e : gR (sX0 f g) (10 + 1) k = -1 := hg k hk
    rw [e, m0_5 k hk]
    refine ⟨Or.inl rfl, rfl, fun i _ => ?_⟩
    rw [z0R f g (by omega) (by omega), m0R (by decide) (by decide) (by decide)]
  · rw [z0R f g (by omega) (by omega)]
    show -128 ≤ (0 : Int32).toInt ∧ (0 : Int32).toInt ≤ 127
    decide
  · refine ⟨(fun _ => 0, fun _ _ => 0), fun _ => (0, 0, 0), 0, ⟨Nat.zero_le _, Nat.zero_le _, Nat.zero_le _, fun _ _ => Nat.zero_le _, fun i hi => absurd hi (Nat.not_lt_zero i), fun y hy => absurd hy (Nat.not_lt_zero y), fun i y hi => absurd hi (Nat.not_lt_zero i)⟩, rfl, Nat.zero_le _, fun k hk => absurd hk (Nat.not_lt_zero k), ⟨⟨fun j _ => rfl, fun c hc i _ => ?_⟩, rfl, fun k hk => absurd hk (Nat.not_lt_zero k)⟩, ⟨⟨rfl, rfl, rfl, fun c hc i _ => ?_, fun i y hi => absurd hi (Nat.not_lt_zero i)⟩, rfl, fun k hk => absurd hk (Nat.not_lt_zero k), rfl, rfl, fun i _ => ?_, fun i hi => absurd hi (Nat.not_lt_zero i)⟩, fun k hk => Or.inl ⟨m0_25 k hk, rfl⟩⟩
    · rw [z0R f g (by omega) (by omega)]; rfl
    · rw [m0R (by have := mno_rg c hc; omega) (by have := mno_rg c hc; omega) (by have := mno_rg c hc; omega)]; rfl
    · rw [m0R (by decide) (by decide) (by decide)]; rfl
theorem ty_int {t : FieldType} {b : Nat} {s : State} (h : (Cond.arrayClass t).before #[Value.ref b] s = true) (hr : ∀ cA, s.vm.findClass ("[" ++ t.toString) = some cA → va_RA s cA t) : ∃ cA, ArrOfT s cA t ∧ va_RA s cA t := by
  obtain ⟨cA, kA, comp, h1, h2, h3⟩ := Cond.arrayClass_spec h
  exact ⟨cA, fun n z => ⟨(fun k h => by cases h), kA, h2, comp, h3⟩, hr cA h1⟩
def wsN : List Cond := [Cond.arrayOver (.object "HemLine$Delta"), Cond.arrayOver (.array .int)]
def wsF : List Cond := nwF.map (fun q => Cond.fieldLinkNest q.1 q.2.1 q.2.2.1 q.2.2.2.1 q.2.2.2.2.1 q.2.2.2.2.2)
def wsM : List Cond := nwM.map (fun q => Cond.methodLinkNest q.1 q.2.1 q.2.2.1 q.2.2.2)
theorem wsN_in : ∀ w ∈ wsN, w ∈ lw_tbl := fun w h => of_decide_eq_true (List.all_eq_true.mp (show wsN.all (fun w => decide (w ∈ lw_tbl)) = true by decide +kernel) w h)
theorem wsF_in : ∀ w ∈ wsF, w ∈ lw_tbl := fun w h => of_decide_eq_true (List.all_eq_true.mp (show wsF.all (fun w => decide (w ∈ lw_tbl)) = true by decide +kernel) w h)
theorem wsM_in : ∀ w ∈ wsM, w ∈ lw_tbl := fun w h => of_decide_eq_true (List.all_eq_true.mp (show wsM.all (fun w => decide (w ∈ lw_tbl)) = true by decide +kernel) w h)
set_option maxHeartbeats 4000000 in
set_option maxRecDepth 100000 in
theorem whole_start {p : Program} {e : Env} {s : State} {m : MethodId} {below : List Frame} {meth : Method} {c : Code} (l : Launch) (hflags : l.flags = flags0) {b L : Nat} {xs : Nat → Int32} (hL : L ≤ 260) (C0 : lw_At p s m meth c b L xs) : W p l e room_1 s m #[Value.ref b] below meth c s.heap [] 0 0 (lw_Z below #[Value.ref b] s) (entryFrame m ([Value.ref b] : List Value).toArray 9) := by
  obtain ⟨hx, hb, hr, hml, hown0, hts0, hX, hbl, hlocks, hgv⟩ := id C0
  have hown : s.vm.findClass RL = some m.cls := hown0
  have hts : ∀ w ∈ wsL_law, w.before #[Value.ref b] s = true := fun w h => hts0 w (wsL_law_in w h)
  have hA : ∀ q : Nat, s.heap.size ≤ q → fNw s q := fun _ h => h
  have hi_0 : ∀ w ∈ u_ws RX0 TX0 15, w ∈ wsL_law := by decide +kernel
  have hi_1 : ∀ w ∈ u_ws RX1 TX1 3, w ∈ wsL_law := by decide +kernel
  have hi_3 : ∀ w ∈ u_ws RX3 TX3 4, w ∈ wsL_law := by decide +kernel
  have hi_4 : ∀ w ∈ u_ws RX4 TX4 2, w ∈ wsL_law := by decide +kernel
  have hi_5 : ∀ w ∈ u_ws RX5 TX5 12, w ∈ wsL_law := by decide +kernel
  obtain ⟨c0, i0, k0⟩ := u_known (C := RX0) (T := TX0) (N := 15) (n := 15) hts hi_0 (hts (.instantiable RX0 15) (by decide +kernel))
  obtain ⟨c1, i1, k1⟩ := u_known (C := RX1) (T := TX1) (N := 3) (n := 3) hts hi_1 (hts (.instantiable RX1 3) (by decide +kernel))
  obtain ⟨c2, i2, k2⟩ := u_known (C := RX3) (T := TX3) (N := 4) (n := 4) hts hi_3 (hts (.instantiable RX3 4) (by decide +kernel))
  obtain ⟨c3, i3, k3⟩ := u_known (C := RX4) (T := TX4) (N := 2) (n := 2) hts hi_4 (hts (.instantiable RX4 2) (by decide +kernel))
  obtain ⟨c4, i4, k4⟩ := u_known (C := RX5) (T := TX5) (N := 12) (n := 12) hts hi_5 (hts (.instantiable RX5 12) (by decide +kernel))
  obtain ⟨a0, r0, q0⟩ := ty_int (hts (.arrayClass .int) (by decide +kernel)) (fun _ h => h)
  have hao := hts0 (.arrayOver (.object "HemLine$Delta")) (wsN_in _ List.mem_cons_self)
  have haa := hts0 (.arrayOver (.array .int)) (wsN_in _ (List.mem_cons_of_mem _ List.mem_cons_self))
  obtain ⟨a2, r2, q2⟩ : ∃ cA, ArrOfT s cA (.object "HemLine$Delta") ∧ va_RA s cA (.object "HemLine$Delta") := by
    obtain ⟨comp, cA, kA, f1, f2, f3, f4, f5⟩ := Cond.arrayOver_spec hao
    exact ⟨cA, fun n z => ⟨(fun k h => by cases h), kA, f3, comp, f4⟩, kA, comp, f3, f4, f1, f5⟩
  obtain ⟨a3, r3, q3⟩ : ∃ cA, ArrOfT s cA (.array .int) ∧ va_RA s cA (.array .int) := by
    obtain ⟨comp, cA, kA, f1, f2, f3, f4, f5⟩ := arrayOverA_spec haa
    exact ⟨cA, fun n z => ⟨(fun k h => by cases h), kA, f3, comp, f4⟩, f5⟩
  obtain ⟨D, hKc⟩ : ∃ D : va_G, ∀ (k : Nat) (q : vw_C), vwCl[k]? = some q → u_Kn s q.1 q.2.1 q.2.2 (D.1 k) (D.2 k) := by
    refine ⟨(fun k => if k = 0 then c0 else if k = 1 then c1 else if k = 2 then c2 else if k = 3 then c3 else c4, fun k => if k = 0 then i0 else if k = 1 then i1 else if k = 2 then i2 else if k = 3 then i3 else i4), ?_⟩
    intro k q hq
    match k, hq with
    | 0, hq => cases hq; exact k0
    | 1, hq => cases hq; exact k1
    | 2, hq => cases hq; exact k2
    | 3, hq => cases hq; exact k3
    | 4, hq => cases hq; exact k4
    | k + 5, hq => simp [vwCl] at hq
  have hNW : NW s := by
    exact ⟨fun q hq => va_Nw.of rfl (hts0 _ (wsF_in _ (List.mem_map.mpr ⟨q, hq, rfl⟩))), fun q hq => va_Nw.of rfl (hts0 _ (wsM_in _ (List.mem_map.mpr ⟨q, hq, rfl⟩)))⟩
  obtain ⟨cs, hcs⟩ : ∃ cs : Cs, cs = (a0, a0, a2, a3) := ⟨_, rfl⟩
  have hE : Kc D cs s := by
    subst hcs
    refine ⟨⟨hKc, fun k q hq => ?_⟩, hNW, va_AO.of hao, ao_alike (Vm.Alike.refl _) haa⟩
    match k, hq with
    | 0, hq => cases hq; exact ⟨r0, q0⟩
    | 1, hq => cases hq; exact ⟨r0, q0⟩
    | 2, hq => cases hq; exact ⟨r2, q2⟩
    | 3, hq => cases hq; exact ⟨r3, q3⟩
    | k + 4, hq => simp [tyL] at hq
  clear k0 k1 k2 k3 k4 r0 r2 r3 q0 q2 q3 hKc hNW
  have hS : va_S (fNw s) s.heap s.heap [] := va_S.rf
  have hP : va_P D vwCl [] s.heap := fun k q h => by simp at h
  have hD : va_D (fNw s) [] := ⟨fun i j p q h => by simp at h, fun k q h => by simp at h⟩
  have hl := lv_entry ([.ref b]) (n := 9) (Nat.le_of_ble_eq_true rfl)
  rw [lg_entry_eq]
  generalize (lg_sl ([.ref b]) ++ List.replicate (9 - (lg_sl ([.ref b])).length) Slot.unset).toArray = ls at hl ⊢
  have hl : lv_has ls 9 [(0, .ref b)] := hl
  refine va_new (ci := 4) (fs := [.null, .null, .null, .null, .null, .null, .null, .null, .int 0, .int 0, .long 0, .long 0]) (C := RX5) (T := TX5) (N := 12) hx hb hts hi_5 tyX5 tyX5_ok hown (hts (.classLink RL 10 RX5) (by decide +kernel)) (hts (.instantiable RX5 12) (by decide +kernel)) (hts (.initialized RX5) (by decide +kernel)) hE.1 hP hD hS hA rfl (fun j hj => nj_X5 j hj) (Nat.le_of_ble_eq_true rfl) (Nat.le_of_ble_eq_true rfl) dL_law_0 (fun g0 H hP hD hS => ?_)
  have hP : va_P D vwCl [(g0, .inr (4, [.null, .null, .null, .null, .null, .null, .null, .null, .int 0, .int 0, .long 0, .long 0]))] H := hP
  have hD : va_D (fNw s) [(g0, .inr (4, [.null, .null, .null, .null, .null, .null, .null, .null, .int 0, .int 0, .long 0, .long 0]))] := hD
  refine W.widen (k := 1) (n := 12) (Nat.le_refl _) (Nat.le_refl _) ?_
  refine lv_dup hx hb dL_law_3 rfl ?_
  have hFc := va_free (wc := [(g0, .inr (4, [.null, .null, .null, .null, .null, .null, .null, .null, .int 0, .int 0, .long 0, .long 0]))]) hD hS hA [0] rfl
  refine va_callv (va_runI (As := []) (rest := [.ref g0]) ⟨hx, hb, hml, hown, hts⟩ (i_X5 l D cs g0 H.size) (cwI 0 hts gL_law_X5_init rfl rfl rfl (hts (.initialized RX5) (by decide +kernel)) (hts (.methodLink RL 151 yX5_init) (by decide +kernel)) (hts (.instanceMethod yX5_init) (by decide +kernel)) rfl (by decide +kernel) ⟨Nat.le_of_ble_eq_true rfl, Nat.le_of_ble_eq_true rfl⟩) ⟨pcC_blind, fun U hU hW => ⟨rfl, by rw [hU], by rw [hU]; exact hP, hE.warm hW, hD.weaken (fun _ _ _ _ => trivial)⟩⟩ rfl rfl hl.1 rfl (lv_room (Nat.le_of_ble_eq_true rfl)) dL_law_4 ⟨Nat.le_of_ble_eq_true rfl, Nat.le_of_ble_eq_true rfl⟩) hS (fun q _ h => hFc q h) hFc (fun u t H1 locs ht hvm hw hB hz1 hk1 hS => ?_)
  obtain ⟨hPX, hDX⟩ := hB
  rw [ht] at hPX
  have hw : u.1 0 = g0 ∧ (∀ i, i < 6 → u.2.1 i = -1) ∧ (∀ i, i < 4 → u.2.2 i = -1) := hw
  have hDX : va_D (fNw s) (wl bX cs u.1 (sX0 u.2.1 u.2.2)) := ⟨hDX.1, fun k q h => hFc _ (hDX.2 k q h)⟩
  refine W.widen (k := 85) (n := 1949) (Nat.le_refl _) (Nat.le_refl _) ?_
  refine lv_astore_n (lv' := [(1, .ref g0), (0, .ref b)]) hx hb dL_law_7 rfl hl (by decide) rfl (fun ls hl => ?_)
  refine va_new (ci := 4) (fs := [.null, .null, .null, .null, .null, .null, .null, .null, .int 0, .int 0, .long 0, .long 0]) (C := RX5) (T := TX5) (N := 12) hx hb hts hi_5 tyX5 tyX5_ok hown (hts (.classLink RL 10 RX5) (by decide +kernel)) (hts (.instantiable RX5 12) (by decide +kernel)) (hts (.initialized RX5) (by decide +kernel)) hE.1 hPX hDX hS hA rfl (fun j hj => nj_X5 j hj) (Nat.le_of_ble_eq_true rfl) (Nat.le_of_ble_eq_true rfl) dL_law_8 (fun g1 H hP hD hS => ?_)
  have lenX : (wl bX cs u.1 (sX0 u.2.1 u.2.2)).length = 85 := wl_len _ _ _ _
  have hPX : va_P D vwCl (wl bX cs u.1 (sX0 u.2.1 u.2.2)) H := fun k q h => hP k q (by rw [List.getElem?_append_left (List.getElem?_eq_some_iff.mp h).1]; exact h)
  have hPc : va_P D vwCl [(g1, .inr (4, [.null, .null, .null, .null, .null, .null, .null, .null, .int 0, .int 0, .long 0, .long 0]))] H := fun k q h => hP (85 + k) q (by rw [List.getElem?_append_right (by rw [lenX]; omega), lenX, Nat.add_sub_cancel_left]; exact h)
  have hg1 : fNw s g1 := hD.2 85 (g1, _) (by rw [List.getElem?_append_right (by rw [lenX]; omega), lenX]; rfl)
  have hDc : va_D (fun _ => True) [(g1, .inr (4, [.null, .null, .null, .null, .null, .null, .null, .null, .int 0, .int 0, .long 0, .long 0]))] := d_one trivial
  have hne : ∀ (k : Nat) (q : Nat × va_E), (wl bX cs u.1 (sX0 u.2.1 u.2.2))[k]? = some q → q.1 ≠ g1 := fun k q h e1 => by
    have hk := (List.getElem?_eq_some_iff.mp h).1
    have := hD.1 k 85 q (g1, _) (by rw [List.getElem?_append_left hk]; exact h) (by rw [List.getElem?_append_right (by rw [lenX]; omega), lenX]; rfl) e1
    omega
  have hFc : ∀ q, va_A [(g1, (.inr (4, [.null, .null, .null, .null, .null, .null, .null, .null, .int 0, .int 0, .long 0, .long 0]) : va_E))] H.size q → fNw s q := fun q h => by
    rcases h with ⟨k, e1, h⟩ | h
    · have hk := (List.getElem?_eq_some_iff.mp h).1
      have : k = 0 := by simp at hk; exact hk
      subst this
      cases h
      exact hg1
    · exact Nat.le_trans hS.1 h
  clear hP hD
  have ltX : ∀ (k : Nat) (q : Nat × va_E), (wl bX cs u.1 (sX0 u.2.1 u.2.2))[k]? = some q → q.1 < H.size := fun k q h => (hPX k q h).lt
  refine W.widen (k := 86) (n := 1961) (Nat.le_refl _) (Nat.le_refl _) ?_
  refine lv_dup hx hb dL_law_11 rfl ?_
  refine va_callv (va_runI (As := []) (rest := [.ref g1]) ⟨hx, hb, hml, hown, hts⟩ (i_X5 l D cs g1 H.size) (cwI 0 hts gL_law_X5_init rfl rfl rfl (hts (.initialized RX5) (by decide +kernel)) (hts (.methodLink RL 151 yX5_init) (by decide +kernel)) (hts (.instanceMethod yX5_init) (by decide +kernel)) rfl (by decide +kernel) ⟨Nat.le_of_ble_eq_true rfl, Nat.le_of_ble_eq_true rfl⟩) ⟨pcC_blind, fun U hU hW => ⟨rfl, by rw [hU], by rw [hU]; exact hPc, hE.warm hW, hDc⟩⟩ rfl rfl hl.1 rfl (lv_room (Nat.le_of_ble_eq_true rfl)) dL_law_12 ⟨Nat.le_of_ble_eq_true rfl, Nat.le_of_ble_eq_true rfl⟩) hS (fun q _ h => hFc q h) hFc (fun v t H2 locs ht2 hvm2 hw2 hB hz2 hk2 hS => ?_)
  obtain ⟨hPY, hDY⟩ := hB
  rw [ht2] at hPY
  have hw2 : v.1 0 = g1 ∧ (∀ i, i < 6 → v.2.1 i = -1) ∧ (∀ i, i < 4 → v.2.2 i = -1) := hw2
  have hPX : va_P D vwCl (wl bX cs u.1 (sX0 u.2.1 u.2.2)) H2 := hPX.kept (fun k q h => hk2 q.1 (hPX k q h).lt (fun z => by
    rcases z with ⟨k2, e1, z⟩ | z
    · have hk := (List.getElem?_eq_some_iff.mp z).1
      have : k2 = 0 := by simp at hk; exact hk
      subst this
      cases z
      exact hne k q h rfl
    · exact absurd (hPX k q h).lt (Nat.not_lt.mpr z)))
  refine W.widen (k := 600000) (n := 7302250) (Nat.le_of_ble_eq_true rfl) (Nat.le_of_ble_eq_true rfl) ?_
  refine lv_astore_n (lv' := [(2, .ref g1), (1, .ref g0), (0, .ref b)]) hx hb dL_law_15 rfl hl (by decide) rfl (fun ls hl => ?_)
  have atX : ∀ k, k < 85 → (wl bX cs u.1 (sX0 u.2.1 u.2.2))[k]? = some (u.1 k, cellOf bX cs u.1 (sX0 u.2.1 u.2.2) k) := fun k hk => wl_at _ _ _ _ hk
  have atY : ∀ k, k < 85 → (wl bX cs v.1 (sX0 v.2.1 v.2.2))[k]? = some (v.1 k, cellOf bX cs v.1 (sX0 v.2.1 v.2.2) k) := fun k hk => wl_at _ _ _ _ hk
  have hapX : apt u.1 v.1 := fun i j hi hj e1 => by
    have z := hDY.2 j _ (atY j hj)
    rcases z with ⟨k2, e2, z⟩ | z
    · have hk := (List.getElem?_eq_some_iff.mp z).1
      have : k2 = 0 := by simp at hk; exact hk
      subst this
      have e3 : g1 = v.1 j := by cases z; rfl
      exact hne i _ (atX i hi) (e1.trans e3.symm)
    · have lt2 := ltX i _ (atX i hi)
      have e2 : u.1 i = v.1 j := e1
      have z2 : H.size ≤ v.1 j := z
      have l2 : u.1 i < H.size := lt2
      omega
  rw [← hw.1, ← hw2.1] at hl
  have hEX : Ev bX D cs u.1 s := hE.ev (fun i j hi hj e1 => hDX.1 i j _ _ (atX i hi) (atX j hj) e1) kX_lt
  have hEY : Ev bX D cs v.1 s := hE.ev (fun i j hi hj e1 => hDY.1 i j _ _ (atY i hi) (atY j hj) e1) kX_lt
  have hgX : ∀ q, fAd bX u.1 q → fNw s q := fun q ⟨k, hk, e1⟩ => by rw [e1]; exact hDX.2 k _ (atX k hk)
  have hgY : ∀ q, fAd bX v.1 q → fNw s q := fun q ⟨k, hk, e1⟩ => by rw [e1]; exact hFc _ (hDY.2 k _ (atY k hk))
  have hapY := apt_sym hapX
  have iX := Inv_0 u.2.1 u.2.2 hw.2.1 hw.2.2
  have iY := Inv_0 v.2.1 v.2.2 hw2.2.1 hw2.2.2
  generalize u.1 = adX at *
  generalize v.1 = adY at *
  generalize sX0 u.2.1 u.2.2 = σX at *
  generalize sX0 v.2.1 v.2.2 = σY at *
  refine lv_aload_n hx hb dL_law_16 rfl (lv_at hl 1 rfl) ?_
  refine l2_i (kS (As := [va_re adX (some 0)]) (rest := []) ⟨hx, hb, hml, hown, hts⟩ (c_L_delta l D cs adX (some 0) σX (fun r X' => r = 1 ∧ ∀ R : Int32 → Sg → Prop, (∀ M', gI M' 0 20 = 5 → Inv X' M' → R 5 M') → p_X6_delta 0 0 (eM sM0) R)) (va_cwS 1 hts gL_law_L_delta rfl rfl rfl (by decide +kernel) ⟨Nat.le_of_ble_eq_true rfl, Nat.le_of_ble_eq_true rfl⟩) hEX hPX (xl_delta iX (fun X' hX => ⟨rfl, hX⟩)) rfl hl.1 rfl (lv_room (Nat.le_of_ble_eq_true rfl)) dL_law_17 ⟨Nat.le_refl _, Nat.le_refl _⟩) hS hgX hapX hPY (fun r1 σX H locs h1 hPX hPY hS => ?_)
  obtain ⟨er, h1⟩ := h1
  subst er
  refine lv_if_eq (tgt := 34) hx hb dL_law_20 (by decide) (fun c1 => absurd c1 (by decide)) (fun _ => ?_)
  refine lv_aload_n hx hb dL_law_23 rfl (lv_at hl 0 rfl) ?_
  refine l2_i (kS (As := [va_re adY (some 0)]) (rest := []) ⟨hx, hb, hml, hown, hts⟩ (c_L_delta l D cs adY (some 0) σY (fun r X' => r = 1 ∧ ∀ R : Int32 → Sg → Prop, (∀ M', gI M' 0 20 = 5 → Inv X' M' → R 5 M') → p_X6_delta 0 0 (eM sM0) R)) (va_cwS 1 hts gL_law_L_delta rfl rfl rfl (by decide +kernel) ⟨Nat.le_of_ble_eq_true rfl, Nat.le_of_ble_eq_true rfl⟩) hEY hPY (xl_delta iY (fun X' hX => ⟨rfl, hX⟩)) rfl hl.1 rfl (lv_room (Nat.le_of_ble_eq_true rfl)) dL_law_24 ⟨Nat.le_refl _, Nat.le_refl _⟩) hS hgY hapY hPX (fun r2 σY H locs h2 hPY hPX hS => ?_)
  obtain ⟨er, h2⟩ := h2
  subst er
  refine lv_if_eq (tgt := 34) hx hb dL_law_27 (by decide) (fun c1 => absurd c1 (by decide)) (fun _ => ?_)
  refine lv_iconst (v := 1) hx hb dL_law_30 (by decide) ?_
  refine lv_goto (tgt := 35) hx hb dL_law_31 (by decide) ?_
  refine lv_istore_n (lv' := [(3, .int 1), (2, .ref (adY 0)), (1, .ref (adX 0)), (0, .ref b)]) hx hb dL_law_35 rfl hl (by decide) rfl (fun ls hl => ?_)
  refine lv_iconst (v := 0) hx hb dL_law_36 (by decide) ?_
  refine lv_istore (lv' := [(4, .int 0), (3, .int 1), (2, .ref (adY 0)), (1, .ref (adX 0)), (0, .ref b)]) hx hb dL_law_37 hl (by decide) rfl (fun ls hl => ?_)
  have hJ : J σX σY := d_p_X6_delta (h1 (fun _ M' => gI M' 0 20 = 5 ∧ Inv σX M') (fun M' a b => ⟨a, b⟩)) (h2 (fun _ M' => gI M' 0 20 = 5 ∧ Inv σY M') (fun M' a b => ⟨a, b⟩)) (fun _ M' a b => ⟨M', a.2, b.2, by rw [a.1]; decide⟩)
  exact law_loop hL hx hb hml hown hts hX hbl hEX hEY hgX hgY hapX hr hlocks J lwV_i dry_i 20 0 rfl σX σY H locs ls hJ hPX hPY hS (lv_sub hl [4, 3, 2, 1, 0] rfl)
