abbrev tyL (cs : Cs) : List (ClassId × FieldType) := [(cs.1, .int), (cs.2.1, .int), (cs.2.2.1, .object "HemLine$Delta"), (cs.2.2.2, .array .int)]
/-- what a constructor knows of the machine -/
def Kc (D : va_G) (cs : Cs) (U : State) : Prop := va_K D vwCl (tyL cs) U ∧ NW U ∧ va_AO "HemLine$Delta" U ∧ (Cond.arrayOver (.array .int)).before #[] U = true
theorem ao_alike {a a' : Array Value} {U U' : State} (hal : U.vm.Alike U'.vm) (h : (Cond.arrayOver (.array .int)).before a U = true) : (Cond.arrayOver (.array .int)).before a' U' = true := by
  simp only [Cond.before, Cond.holds, Cond.value] at h ⊢
  rw [hal.findClass]
  cases hf : U.vm.findClass (FieldType.array .int).toString with
  | none => rw [hf] at h; simp at h
  | some comp =>
    rw [hf] at h
    simp only [Option.bind_some] at h ⊢
    rw [hal.findIdx_congr _ (fun _ _ _ _ => rfl)]
    generalize hF : (Array.findIdx? _ U.vm.classes) = fi at h ⊢
    cases fi with
    | none => simp at h
    | some c =>
      simp only [Option.bind_some] at h ⊢
      cases hk : U.vm.classes[c]? with
      | none => rw [hk] at h; simp at h
      | some k =>
        obtain ⟨k', hk', ek⟩ := hal.2.2 _ _ hk
        rw [hk] at h
        rw [hk', hal.findClass]
        have ekind : k'.kind = k.kind := by rw [ek]
        simp only [Option.map_some] at h ⊢
        rw [ekind]
        exact h
theorem Kc.warm {D : va_G} {cs : Cs} {s U : State} (h : Kc D cs s) (hW : s.WarmedH U.vm) : Kc D cs U := ⟨va_K.moved hW.alike h.1, ⟨fun q hq => va_Nw.warmF hW (h.2.1.1 q hq), fun q hq => va_Nw.warmM hW (h.2.1.2 q hq)⟩, va_AO.moved hW.alike h.2.2.1, ao_alike hW.alike h.2.2.2⟩
theorem Kc.call {D : va_G} {cs : Cs} {U : State} (h : Kc D cs U) (g : JFrame) (mk : MethodId) (a : Array Value) : Kc D cs (U.calling g mk a) := ⟨va_K.moved (u := U) (U := U.calling g mk a) (Vm.Alike.refl U.vm) h.1, ⟨fun q hq => va_Nw.same rfl (u := U) (U := U.calling g mk a) rfl (h.2.1.1 q hq), fun q hq => va_Nw.same rfl (u := U) (U := U.calling g mk a) rfl (h.2.1.2 q hq)⟩, va_AO.moved (Vm.Alike.refl U.vm) h.2.2.1, ao_alike (Vm.Alike.refl U.vm) h.2.2.2⟩
theorem Kc.ev {B : Cf} {D : va_G} {cs : Cs} {ad : Nat → Nat} {U : State} (h : Kc D cs U) (hj : adI B ad) (hB : ∀ k, B.2.1 k ≠ 99 → k < B.1) : Ev B D cs ad U := ⟨h.1, hj, hB, h.2.1⟩
/-- a constructor's start -/
abbrev PcC (D : va_G) (cs : Cs) (av : List Value) (w : va_W) (sz : Nat) : Array Value → State → Prop := va_Pc av (fun U => U.heap.size = sz ∧ va_P D vwCl w U.heap ∧ Kc D cs U ∧ va_D (fun _ => True) w)
theorem pcC_blind {D : va_G} {cs : Cs} {av : List Value} {w : va_W} {sz : Nat} : FrameBlind (PcC D cs av w sz) := fun a _ g mk h => ⟨h.1, h.2.1, h.2.2.1, h.2.2.2.1.call g mk a, h.2.2.2.2⟩
section CTR
variable {p : Program} {l : Launch} {e : Env} {R : Room} {s : State} {m : MethodId} {args : Array Value} {below : List Frame} {meth : Method} {c : Code} {H : Heap} {locs : List Loc} {cells slots : Nat} {Q : State → Prop}
variable {cc : ByteArray} {pc : Nat} {ls : Array Slot} {rest : List Value} {D : va_G} {cs : Cs} {A : Nat → Prop} {ws : va_W} {H0 : Heap}
theorem n_int (hexec : p.tables.exec = Jvm.exec) (hb : c.code = cc) (harr : (Cond.arrayClass .int).before args s = true) (hK : va_K D vwCl (tyL cs) s) (hP : va_P D vwCl ws H) (hD : va_D A ws) (hS : va_S A H0 H locs) (hA : ∀ q, H0.size ≤ q → A q)
    {n : Int32} {N' : Nat} (hn : ¬ n < 0) (hN : n.toNatClampNeg = N') (hbytes : N' * componentBytes .int ≤ 536870912) (hcells : cells + 1 ≤ R.cells) (hslots : slots + N' ≤ R.slots) (hdg : decode cc pc = .ok (.newarray .int, 2))
    (kk : ∀ (q : Nat) (H1 : Heap), va_P D vwCl (ws ++ [(q, .inl (cs.1, N', .inl (fun _ => 0)))]) H1 → va_D A (ws ++ [(q, .inl (cs.1, N', .inl (fun _ => 0)))]) → va_S A H0 H1 locs →
      W p l e R s m args below meth c H1 locs (cells + 1) (slots + N') Q (F0 m (pc + 2) ls (.ref q :: rest))) : W p l e R s m args below meth c H locs cells slots Q (F0 m pc ls (.int n :: rest)) := by
  refine va_newa (atype := .int) hexec hb harr rfl hK hP hD hS hA (a0 := (N', .inl (fun _ => 0))) (fun cA => rfl) hn hN hbytes hcells hslots hdg (fun q cA H1 hK1 hP1 hD1 hS1 => ?_)
  have e1 : cA = cs.1 := Option.some.inj (((hK1.2 4 _ rfl).2).symm.trans ((hK.2 0 _ rfl).2))
  subst e1
  exact kk q H1 hP1 hD1 hS1
theorem n_delta (hexec : p.tables.exec = Jvm.exec) (hb : c.code = cc) {own : String} {index : Nat} (hown : s.vm.findClass own = some m.cls) (hclink : (Cond.classLink own index "HemLine$Delta").before args s = true) (hK : Kc D cs s) (hP : va_P D vwCl ws H) (hD : va_D A ws) (hS : va_S A H0 H locs) (hA : ∀ q, H0.size ≤ q → A q)
    {n : Int32} {N' : Nat} (hn : ¬ n < 0) (hN : n.toNatClampNeg = N') (hbytes : N' * 4 ≤ 536870912) (hcells : cells + 1 ≤ R.cells) (hslots : slots + N' ≤ R.slots) (hdg : decode cc pc = .ok (.anewarray index, 3))
    (kk : ∀ (q : Nat) (H1 : Heap), va_P D vwCl (ws ++ [(q, .inl (cs.2.2.1, N', .inr (.inr (.inr (.inr (fun _ => none))))))]) H1 → va_D A (ws ++ [(q, .inl (cs.2.2.1, N', .inr (.inr (.inr (.inr (fun _ => none))))))]) → va_S A H0 H1 locs →
      W p l e R s m args below meth c H1 locs (cells + 1) (slots + N') Q (F0 m (pc + 3) ls (.ref q :: rest))) : W p l e R s m args below meth c H locs cells slots Q (F0 m pc ls (.int n :: rest)) := by
  refine va_newq hexec hb hown hclink hK.2.2.1 hK.1 hP hD hS hA hn hN hbytes hcells hslots hdg (fun q cA H1 hK1 hP1 hD1 hS1 => ?_)
  have e1 : cA = cs.2.2.1 := by
    obtain ⟨_, _, _, _, _, f1⟩ := (hK1.2 4 _ rfl).2
    obtain ⟨_, _, _, _, _, f2⟩ := (hK.1.2 2 _ rfl).2
    exact Option.some.inj (f1.symm.trans f2)
  subst e1
  exact kk q H1 hP1 hD1 hS1
theorem vr_pl {L : List Nat} {f : Nat → va_E} {v : va_E} : va_pl L (vr_up f L v) = L.map (fun a => (a, v)) := List.map_congr_left (fun a ha => by rw [vr_up_in ha])
theorem n_grid (hexec : p.tables.exec = Jvm.exec) (hb : c.code = cc) {own : String} {index : Nat} (hown : s.vm.findClass own = some m.cls) (hclink : (Cond.classLink own index "[[I").before args s = true) (harr : (Cond.arrayClass .int).before args s = true) (hK : Kc D cs s) (hP : va_P D vwCl ws H) (hD : va_D A ws) (hS : va_S A H0 H locs) (hA : ∀ q, H0.size ≤ q → A q)
    {n k : Int32} {N' K' : Nat} (hn : ¬ n < 0) (hk : ¬ k < 0) (hN : n.toNatClampNeg = N') (hM : k.toNatClampNeg = K') (hb1 : N' * 4 ≤ 536870912) (hb2 : K' * componentBytes .int ≤ 536870912) (hb3 : K' ≤ 536870912) (hcells : cells + (1 + N') ≤ R.cells) (hslots : slots + (N' + N' * K') ≤ R.slots) (hdg : decode cc pc = .ok (.multianewarray index 2, 4))
    (kk : ∀ (q : Nat) (r : Nat → Nat) (H1 : Heap), va_P D vwCl ((ws ++ [(q, .inl (cs.2.2.2, N', .inr (.inr (.inr (.inr (fun i => if i < N' then some (r i) else none))))))]) ++ ((List.range N').map r).map (fun a => (a, .inl (cs.1, K', .inl (fun _ => 0))))) H1 → va_D A ((ws ++ [(q, .inl (cs.2.2.2, N', .inr (.inr (.inr (.inr (fun i => if i < N' then some (r i) else none))))))]) ++ ((List.range N').map r).map (fun a => (a, .inl (cs.1, K', .inl (fun _ => 0))))) → va_S A H0 H1 locs →
      W p l e R s m args below meth c H1 locs (cells + 1 + N') (slots + N' + N' * K') Q (F0 m (pc + 4) ls (.ref q :: rest))) : W p l e R s m args below meth c H locs cells slots Q (F0 m pc ls (.int k :: .int n :: rest)) := by
  refine va_mna (X := ws) (L := []) (f := fun _ => .inr (0, [])) (ty := .int) (cy := cs.1) (z := (K', .inl (fun _ => 0))) hexec hb hown hclink (ao_alike (Vm.Alike.refl _) hK.2.2.2) harr ((hK.1.2 0 _ rfl).2) hK.1 (by rw [show va_pl [] (fun _ => (.inr (0, []) : va_E)) = [] from rfl, List.append_nil]; exact hP) (by rw [show va_pl [] (fun _ => (.inr (0, []) : va_E)) = [] from rfl, List.append_nil]; exact hD) hS hA hn hk hN hM hb1 hb2 hb3 rfl rfl hcells hslots (fun c => by
    show ({ cls := c, slots := Array.replicate K' (.int 0), vm := .none } : Cell) = _
    rw [arrV_new]
    rfl) hdg (fun q r cA H1 _ _ hK1 hP1 hD1 hS1 => ?_)
  have e1 : cA = cs.2.2.2 := Option.some.inj (((hK1.2 4 _ rfl).2).symm.trans ((hK.1.2 3 _ rfl).2))
  subst e1
  rw [List.nil_append, vr_pl] at hP1 hD1
  exact kk q r H1 hP1 hD1 hS1
end CTR
theorem nj_X0 : ∀ j, j < 15 → defaultValue (tyX0 j) = vp_V [.int 0, .int 0, .int 0, .int 0, .null, .null, .null, .null, .null, .null, .null, .null, .null, .null, .null] j := by
  intro j hj
  have h : ∀ j : Fin 15, defaultValue (tyX0 j.1) = vp_V [.int 0, .int 0, .int 0, .int 0, .null, .null, .null, .null, .null, .null, .null, .null, .null, .null, .null] j.1 := by decide +kernel
  exact h ⟨j, hj⟩
theorem nj_X1 : ∀ j, j < 3 → defaultValue (tyX1 j) = vp_V [.null, .null, .null] j := by
  intro j hj
  have h : ∀ j : Fin 3, defaultValue (tyX1 j.1) = vp_V [.null, .null, .null] j.1 := by decide +kernel
  exact h ⟨j, hj⟩
theorem nj_X3 : ∀ j, j < 4 → defaultValue (tyX3 j) = vp_V [.null, .null, .int 0, .int 0] j := by
  intro j hj
  have h : ∀ j : Fin 4, defaultValue (tyX3 j.1) = vp_V [.null, .null, .int 0, .int 0] j.1 := by decide +kernel
  exact h ⟨j, hj⟩
theorem nj_X4 : ∀ j, j < 2 → defaultValue (tyX4 j) = vp_V [.null, .null] j := by
  intro j hj
  have h : ∀ j : Fin 2, defaultValue (tyX4 j.1) = vp_V [.null, .null] j.1 := by decide +kernel
  exact h ⟨j, hj⟩
theorem nj_X5 : ∀ j, j < 12 → defaultValue (tyX5 j) = vp_V [.null, .null, .null, .null, .null, .null, .null, .null, .int 0, .int 0, .long 0, .long 0] j := by
  intro j hj
  have h : ∀ j : Fin 12, defaultValue (tyX5 j.1) = vp_V [.null, .null, .null, .null, .null, .null, .null, .null, .int 0, .int 0, .long 0, .long 0] j.1 := by decide +kernel
  exact h ⟨j, hj⟩
set_option maxHeartbeats 4000000 in
set_option maxRecDepth 100000 in
theorem i_X0 (l : Launch) (D : va_G) (cs : Cs) (h0 : Nat) (sz : Nat) : Met l yX0_init wsX0_init ({ frames := 1, cells := 11, slots := 254, locals := 12 }) (PcC D cs [.ref h0] [(h0, .inr (0, [.int 0, .int 0, .int 0, .int 0, .null, .null, .null, .null, .null, .null, .null, .null, .null, .null, .null]))] sz) (va_Qv (fun u : Nat → Nat => True) (fun (u : Nat → Nat) (t : State) => va_P D vwCl ([(h0, .inr (0, [.int 0, .int 0, .int 0, .int 0, .ref (u 1), .ref (u 2), .ref (u 3), .ref (u 4), .ref (u 5), .ref (u 6), .ref (u 7), .ref (u 8), .ref (u 9), .ref (u 10), .ref (u 11)])), ((u 1), .inl (cs.1, 6, .inl (fun _ => 0))), ((u 2), .inl (cs.1, 6, .inl (fun _ => 0))), ((u 3), .inl (cs.1, 6, .inl (fun _ => 0))), ((u 4), .inl (cs.1, 6, .inl (fun _ => 0))), ((u 5), .inl (cs.1, 6, .inl (fun _ => 0))), ((u 6), .inl (cs.1, 8, .inl (fun _ => 0))), ((u 7), .inl (cs.1, 48, .inl (fun _ => 0))), ((u 8), .inl (cs.1, 48, .inl (fun _ => 0))), ((u 9), .inl (cs.1, 40, .inl (fun _ => 0))), ((u 10), .inl (cs.1, 40, .inl (fun _ => 0))), ((u 11), .inl (cs.1, 40, .inl (fun _ => 0)))]) t.heap ∧ va_D (va_A [(h0, .inr (0, [.int 0, .int 0, .int 0, .int 0, .null, .null, .null, .null, .null, .null, .null, .null, .null, .null, .null]))] sz) ([(h0, .inr (0, [.int 0, .int 0, .int 0, .int 0, .ref (u 1), .ref (u 2), .ref (u 3), .ref (u 4), .ref (u 5), .ref (u 6), .ref (u 7), .ref (u 8), .ref (u 9), .ref (u 10), .ref (u 11)])), ((u 1), .inl (cs.1, 6, .inl (fun _ => 0))), ((u 2), .inl (cs.1, 6, .inl (fun _ => 0))), ((u 3), .inl (cs.1, 6, .inl (fun _ => 0))), ((u 4), .inl (cs.1, 6, .inl (fun _ => 0))), ((u 5), .inl (cs.1, 6, .inl (fun _ => 0))), ((u 6), .inl (cs.1, 8, .inl (fun _ => 0))), ((u 7), .inl (cs.1, 48, .inl (fun _ => 0))), ((u 8), .inl (cs.1, 48, .inl (fun _ => 0))), ((u 9), .inl (cs.1, 40, .inl (fun _ => 0))), ((u 10), .inl (cs.1, 40, .inl (fun _ => 0))), ((u 11), .inl (cs.1, 40, .inl (fun _ => 0)))])) (va_A [(h0, .inr (0, [.int 0, .int 0, .int 0, .int 0, .null, .null, .null, .null, .null, .null, .null, .null, .null, .null, .null]))] sz)) 11 254 (va_A [(h0, .inr (0, [.int 0, .int 0, .int 0, .int 0, .null, .null, .null, .null, .null, .null, .null, .null, .null, .null, .null]))] sz) := by
  refine Met.ofW (cc := cX0_init) (maxL := 1) (ret := none) (by decide) rfl ?_
  intro p e s m args below meth c s₁ B0 hml hv
  obtain ⟨ha, hsz, hP, hE, hD0⟩ := hv
  have hx := B0.exec
  have hb := B0.bytes
  have hr := B0.returns
  have hts := atoms_spec (ws := wsX0_init) B0.pre
  have hown : s.vm.findClass RX0 = some m.cls := findClass_of_methodNamed B0.named
  have hlocks := B0.notSynchronized
  have hin : meth.name = "<init>" := (name_of_methodNamed B0.named B0.method).1
  subst hsz
  have hD := hD0.self (sz := s.heap.size)
  generalize hAe : va_A [(h0, .inr (0, [.int 0, .int 0, .int 0, .int 0, .null, .null, .null, .null, .null, .null, .null, .null, .null, .null, .null]))] s.heap.size = A at hD ⊢
  have hA : ∀ q : Nat, s.heap.size ≤ q → A q := fun q h => by rw [← hAe]; exact Or.inr h
  have hS : va_S A s.heap s.heap [] := va_S.rf
  have hi_X0 : ∀ w ∈ u_ws RX0 TX0 15, w ∈ wsX0_init := by decide +kernel
  have hl := lv_entry ([.ref h0]) (n := 1) (Nat.le_of_ble_eq_true rfl)
  rw [show entryFrame m args 1 = entryFrame m ([.ref h0] : List Value).toArray 1 by rw [ha], lg_entry_eq]
  generalize (lg_sl ([.ref h0]) ++ List.replicate (1 - (lg_sl ([.ref h0])).length) Slot.unset).toArray = ls at hl ⊢
  have hl : lv_has ls 1 [(0, .ref h0)] := hl
  refine lv_aload_n hx hb dX0_init_0 rfl (lv_at hl 0 rfl) ?_
  refine W.objInit hx hb hown (hts (.methodLink RX0 3 objectInit) (by decide +kernel)) (hts (.instanceMethod objectInit) (by decide +kernel)) (hts (.code objectInit ⟨#[0xb1]⟩ 1 none) (by decide +kernel)) rfl (by rw [hml]; exact hl.1) rfl dX0_init_1 (Nat.le_of_ble_eq_true rfl) (Nat.le_of_ble_eq_true rfl) ?_
  refine W.eq (g2 := F0 m 4 ls []) rfl ?_
  refine lv_aload_n hx hb dX0_init_4 rfl (lv_at hl 0 rfl) ?_
  refine lv_bipush (v := 6) hx hb dX0_init_5 (by decide) ?_
  refine n_int (N' := 6) hx hb (hts (.arrayClass .int) (by decide +kernel)) hE.1 hP hD hS hA (by decide) (by decide) (Nat.le_of_ble_eq_true rfl) (Nat.le_of_ble_eq_true rfl) (Nat.le_of_ble_eq_true rfl) dX0_init_7 (fun q1 H hP hD hS => ?_)
  have hP : va_P D vwCl [(h0, .inr (0, [.int 0, .int 0, .int 0, .int 0, .null, .null, .null, .null, .null, .null, .null, .null, .null, .null, .null])), (q1, .inl (cs.1, 6, .inl (fun _ => 0)))] H := hP
  have hD : va_D A [(h0, .inr (0, [.int 0, .int 0, .int 0, .int 0, .null, .null, .null, .null, .null, .null, .null, .null, .null, .null, .null])), (q1, .inl (cs.1, 6, .inl (fun _ => 0)))] := hD
  refine W.widen (k := 1) (n := 6) (Nat.le_refl _) (Nat.le_refl _) ?_
  refine va_putF (D := D) (ci := 0) (v := .ref q1) (ty := .array .int) (C := RX0) (T := TX0) (N := 15) hx hb hts hi_X0 tyX0 tyX0_ok nmX0 hown hE.1 hP hD hS 0 rfl rfl 4 (by decide) (hts (.fieldLink RX0 9 "HemLine$Delta" "ground" "[I") (by decide +kernel)) (fun _ h9 => h9) rfl hin rfl (by decide +kernel) rfl rfl (Nat.le_of_ble_eq_true rfl) dX0_init_9 (fun H locs hP hD hS => ?_)
  have hP : va_P D vwCl [(h0, .inr (0, [.int 0, .int 0, .int 0, .int 0, .ref q1, .null, .null, .null, .null, .null, .null, .null, .null, .null, .null])), (q1, .inl (cs.1, 6, .inl (fun _ => 0)))] H := hP
  have hD : va_D A [(h0, .inr (0, [.int 0, .int 0, .int 0, .int 0, .ref q1, .null, .null, .null, .null, .null, .null, .null, .null, .null, .null])), (q1, .inl (cs.1, 6, .inl (fun _ => 0)))] := hD
  refine lv_aload_n hx hb dX0_init_12 rfl (lv_at hl 0 rfl) ?_
  refine lv_bipush (v := 6) hx hb dX0_init_13 (by decide) ?_
  refine n_int (N' := 6) hx hb (hts (.arrayClass .int) (by decide +kernel)) hE.1 hP hD hS hA (by decide) (by decide) (Nat.le_of_ble_eq_true rfl) (Nat.le_of_ble_eq_true rfl) (Nat.le_of_ble_eq_true rfl) dX0_init_15 (fun q2 H hP hD hS => ?_)
  have hP : va_P D vwCl [(h0, .inr (0, [.int 0, .int 0, .int 0, .int 0, .ref q1, .null, .null, .null, .null, .null, .null, .null, .null, .null, .null])), (q1, .inl (cs.1, 6, .inl (fun _ => 0))), (q2, .inl (cs.1, 6, .inl (fun _ => 0)))] H := hP
  have hD : va_D A [(h0, .inr (0, [.int 0, .int 0, .int 0, .int 0, .ref q1, .null, .null, .null, .null, .null, .null, .null, .null, .null, .null])), (q1, .inl (cs.1, 6, .inl (fun _ => 0))), (q2, .inl (cs.1, 6, .inl (fun _ => 0)))] := hD
  refine W.widen (k := 2) (n := 12) (Nat.le_refl _) (Nat.le_refl _) ?_
  refine va_putF (D := D) (ci := 0) (v := .ref q2) (ty := .array .int) (C := RX0) (T := TX0) (N := 15) hx hb hts hi_X0 tyX0 tyX0_ok nmX0 hown hE.1 hP hD hS 0 rfl rfl 5 (by decide) (hts (.fieldLink RX0 15 "HemLine$Delta" "kindOf" "[I") (by decide +kernel)) (fun _ h9 => h9) rfl hin rfl (by decide +kernel) rfl rfl (Nat.le_of_ble_eq_true rfl) dX0_init_17 (fun H locs hP hD hS => ?_)
  have hP : va_P D vwCl [(h0, .inr (0, [.int 0, .int 0, .int 0, .int 0, .ref q1, .ref q2, .null, .null, .null, .null, .null, .null, .null, .null, .null])), (q1, .inl (cs.1, 6, .inl (fun _ => 0))), (q2, .inl (cs.1, 6, .inl (fun _ => 0)))] H := hP
  have hD : va_D A [(h0, .inr (0, [.int 0, .int 0, .int 0, .int 0, .ref q1, .ref q2, .null, .null, .null, .null, .null, .null, .null, .null, .null])), (q1, .inl (cs.1, 6, .inl (fun _ => 0))), (q2, .inl (cs.1, 6, .inl (fun _ => 0)))] := hD
  refine lv_aload_n hx hb dX0_init_20 rfl (lv_at hl 0 rfl) ?_
  refine lv_bipush (v := 6) hx hb dX0_init_21 (by decide) ?_
  refine n_int (N' := 6) hx hb (hts (.arrayClass .int) (by decide +kernel)) hE.1 hP hD hS hA (by decide) (by decide) (Nat.le_of_ble_eq_true rfl) (Nat.le_of_ble_eq_true rfl) (Nat.le_of_ble_eq_true rfl) dX0_init_23 (fun q3 H hP hD hS => ?_)
  have hP : va_P D vwCl [(h0, .inr (0, [.int 0, .int 0, .int 0, .int 0, .ref q1, .ref q2, .null, .null, .null, .null, .null, .null, .null, .null, .null])), (q1, .inl (cs.1, 6, .inl (fun _ => 0))), (q2, .inl (cs.1, 6, .inl (fun _ => 0))), (q3, .inl (cs.1, 6, .inl (fun _ => 0)))] H := hP
  have hD : va_D A [(h0, .inr (0, [.int 0, .int 0, .int 0, .int 0, .ref q1, .ref q2, .null, .null, .null, .null, .null, .null, .null, .null, .null])), (q1, .inl (cs.1, 6, .inl (fun _ => 0))), (q2, .inl (cs.1, 6, .inl (fun _ => 0))), (q3, .inl (cs.1, 6, .inl (fun _ => 0)))] := hD
  refine W.widen (k := 3) (n := 18) (Nat.le_refl _) (Nat.le_refl _) ?_
  refine va_putF (D := D) (ci := 0) (v := .ref q3) (ty := .array .int) (C := RX0) (T := TX0) (N := 15) hx hb hts hi_X0 tyX0 tyX0_ok nmX0 hown hE.1 hP hD hS 0 rfl rfl 6 (by decide) (hts (.fieldLink RX0 18 "HemLine$Delta" "placeOf" "[I") (by decide +kernel)) (fun _ h9 => h9) rfl hin rfl (by decide +kernel) rfl rfl (Nat.le_of_ble_eq_true rfl) dX0_init_25 (fun H locs hP hD hS => ?_)
  have hP : va_P D vwCl [(h0, .inr (0, [.int 0, .int 0, .int 0, .int 0, .ref q1, .ref q2, .ref q3, .null, .null, .null, .null, .null, .null, .null, .null])), (q1, .inl (cs.1, 6, .inl (fun _ => 0))), (q2, .inl (cs.1, 6, .inl (fun _ => 0))), (q3, .inl (cs.1, 6, .inl (fun _ => 0)))] H := hP
  have hD : va_D A [(h0, .inr (0, [.int 0, .int 0, .int 0, .int 0, .ref q1, .ref q2, .ref q3, .null, .null, .null, .null, .null, .null, .null, .null])), (q1, .inl (cs.1, 6, .inl (fun _ => 0))), (q2, .inl (cs.1, 6, .inl (fun _ => 0))), (q3, .inl (cs.1, 6, .inl (fun _ => 0)))] := hD
  refine lv_aload_n hx hb dX0_init_28 rfl (lv_at hl 0 rfl) ?_
  refine lv_bipush (v := 6) hx hb dX0_init_29 (by decide) ?_
  refine n_int (N' := 6) hx hb (hts (.arrayClass .int) (by decide +kernel)) hE.1 hP hD hS hA (by decide) (by decide) (Nat.le_of_ble_eq_true rfl) (Nat.le_of_ble_eq_true rfl) (Nat.le_of_ble_eq_true rfl) dX0_init_31 (fun q4 H hP hD hS => ?_)
  have hP : va_P D vwCl [(h0, .inr (0, [.int 0, .int 0, .int 0, .int 0, .ref q1, .ref q2, .ref q3, .null, .null, .null, .null, .null, .null, .null, .null])), (q1, .inl (cs.1, 6, .inl (fun _ => 0))), (q2, .inl (cs.1, 6, .inl (fun _ => 0))), (q3, .inl (cs.1, 6, .inl (fun _ => 0))), (q4, .inl (cs.1, 6, .inl (fun _ => 0)))] H := hP
  have hD : va_D A [(h0, .inr (0, [.int 0, .int 0, .int 0, .int 0, .ref q1, .ref q2, .ref q3, .null, .null, .null, .null, .null, .null, .null, .null])), (q1, .inl (cs.1, 6, .inl (fun _ => 0))), (q2, .inl (cs.1, 6, .inl (fun _ => 0))), (q3, .inl (cs.1, 6, .inl (fun _ => 0))), (q4, .inl (cs.1, 6, .inl (fun _ => 0)))] := hD
  refine W.widen (k := 4) (n := 24) (Nat.le_refl _) (Nat.le_refl _) ?_
  refine va_putF (D := D) (ci := 0) (v := .ref q4) (ty := .array .int) (C := RX0) (T := TX0) (N := 15) hx hb hts hi_X0 tyX0 tyX0_ok nmX0 hown hE.1 hP hD hS 0 rfl rfl 7 (by decide) (hts (.fieldLink RX0 21 "HemLine$Delta" "tallOf" "[I") (by decide +kernel)) (fun _ h9 => h9) rfl hin rfl (by decide +kernel) rfl rfl (Nat.le_of_ble_eq_true rfl) dX0_init_33 (fun H locs hP hD hS => ?_)
  have hP : va_P D vwCl [(h0, .inr (0, [.int 0, .int 0, .int 0, .int 0, .ref q1, .ref q2, .ref q3, .ref q4, .null, .null, .null, .null, .null, .null, .null])), (q1, .inl (cs.1, 6, .inl (fun _ => 0))), (q2, .inl (cs.1, 6, .inl (fun _ => 0))), (q3, .inl (cs.1, 6, .inl (fun _ => 0))), (q4, .inl (cs.1, 6, .inl (fun _ => 0)))] H := hP
  have hD : va_D A [(h0, .inr (0, [.int 0, .int 0, .int 0, .int 0, .ref q1, .ref q2, .ref q3, .ref q4, .null, .null, .null, .null, .null, .null, .null])), (q1, .inl (cs.1, 6, .inl (fun _ => 0))), (q2, .inl (cs.1, 6, .inl (fun _ => 0))), (q3, .inl (cs.1, 6, .inl (fun _ => 0))), (q4, .inl (cs.1, 6, .inl (fun _ => 0)))] := hD
  refine lv_aload_n hx hb dX0_init_36 rfl (lv_at hl 0 rfl) ?_
  refine lv_bipush (v := 6) hx hb dX0_init_37 (by decide) ?_
  refine n_int (N' := 6) hx hb (hts (.arrayClass .int) (by decide +kernel)) hE.1 hP hD hS hA (by decide) (by decide) (Nat.le_of_ble_eq_true rfl) (Nat.le_of_ble_eq_true rfl) (Nat.le_of_ble_eq_true rfl) dX0_init_39 (fun q5 H hP hD hS => ?_)
  have hP : va_P D vwCl [(h0, .inr (0, [.int 0, .int 0, .int 0, .int 0, .ref q1, .ref q2, .ref q3, .ref q4, .null, .null, .null, .null, .null, .null, .null])), (q1, .inl (cs.1, 6, .inl (fun _ => 0))), (q2, .inl (cs.1, 6, .inl (fun _ => 0))), (q3, .inl (cs.1, 6, .inl (fun _ => 0))), (q4, .inl (cs.1, 6, .inl (fun _ => 0))), (q5, .inl (cs.1, 6, .inl (fun _ => 0)))] H := hP
  have hD : va_D A [(h0, .inr (0, [.int 0, .int 0, .int 0, .int 0, .ref q1, .ref q2, .ref q3, .ref q4, .null, .null, .null, .null, .null, .null, .null])), (q1, .inl (cs.1, 6, .inl (fun _ => 0))), (q2, .inl (cs.1, 6, .inl (fun _ => 0))), (q3, .inl (cs.1, 6, .inl (fun _ => 0))), (q4, .inl (cs.1, 6, .inl (fun _ => 0))), (q5, .inl (cs.1, 6, .inl (fun _ => 0)))] := hD
  refine W.widen (k := 5) (n := 30) (Nat.le_refl _) (Nat.le_refl _) ?_
  refine va_putF (D := D) (ci := 0) (v := .ref q5) (ty := .array .int) (C := RX0) (T := TX0) (N := 15) hx hb hts hi_X0 tyX0 tyX0_ok nmX0 hown hE.1 hP hD hS 0 rfl rfl 8 (by decide) (hts (.fieldLink RX0 24 "HemLine$Delta" "tuckOf" "[I") (by decide +kernel)) (fun _ h9 => h9) rfl hin rfl (by decide +kernel) rfl rfl (Nat.le_of_ble_eq_true rfl) dX0_init_41 (fun H locs hP hD hS => ?_)
  have hP : va_P D vwCl [(h0, .inr (0, [.int 0, .int 0, .int 0, .int 0, .ref q1, .ref q2, .ref q3, .ref q4, .ref q5, .null, .null, .null, .null, .null, .null])), (q1, .inl (cs.1, 6, .inl (fun _ => 0))), (q2, .inl (cs.1, 6, .inl (fun _ => 0))), (q3, .inl (cs.1, 6, .inl (fun _ => 0))), (q4, .inl (cs.1, 6, .inl (fun _ => 0))), (q5, .inl (cs.1, 6, .inl (fun _ => 0)))] H := hP
  have hD : va_D A [(h0, .inr (0, [.int 0, .int 0, .int 0, .int 0, .ref q1, .ref q2, .ref q3, .ref q4, .ref q5, .null, .null, .null, .null, .null, .null])), (q1, .inl (cs.1, 6, .inl (fun _ => 0))), (q2, .inl (cs.1, 6, .inl (fun _ => 0))), (q3, .inl (cs.1, 6, .inl (fun _ => 0))), (q4, .inl (cs.1, 6, .inl (fun _ => 0))), (q5, .inl (cs.1, 6, .inl (fun _ => 0)))] := hD
  refine lv_aload_n hx hb dX0_init_44 rfl (lv_at hl 0 rfl) ?_
  refine lv_bipush (v := 8) hx hb dX0_init_45 (by decide) ?_
  refine n_int (N' := 8) hx hb (hts (.arrayClass .int) (by decide +kernel)) hE.1 hP hD hS hA (by decide) (by decide) (Nat.le_of_ble_eq_true rfl) (Nat.le_of_ble_eq_true rfl) (Nat.le_of_ble_eq_true rfl) dX0_init_47 (fun q6 H hP hD hS => ?_)
  have hP : va_P D vwCl [(h0, .inr (0, [.int 0, .int 0, .int 0, .int 0, .ref q1, .ref q2, .ref q3, .ref q4, .ref q5, .null, .null, .null, .null, .null, .null])), (q1, .inl (cs.1, 6, .inl (fun _ => 0))), (q2, .inl (cs.1, 6, .inl (fun _ => 0))), (q3, .inl (cs.1, 6, .inl (fun _ => 0))), (q4, .inl (cs.1, 6, .inl (fun _ => 0))), (q5, .inl (cs.1, 6, .inl (fun _ => 0))), (q6, .inl (cs.1, 8, .inl (fun _ => 0)))] H := hP
  have hD : va_D A [(h0, .inr (0, [.int 0, .int 0, .int 0, .int 0, .ref q1, .ref q2, .ref q3, .ref q4, .ref q5, .null, .null, .null, .null, .null, .null])), (q1, .inl (cs.1, 6, .inl (fun _ => 0))), (q2, .inl (cs.1, 6, .inl (fun _ => 0))), (q3, .inl (cs.1, 6, .inl (fun _ => 0))), (q4, .inl (cs.1, 6, .inl (fun _ => 0))), (q5, .inl (cs.1, 6, .inl (fun _ => 0))), (q6, .inl (cs.1, 8, .inl (fun _ => 0)))] := hD
  refine W.widen (k := 6) (n := 38) (Nat.le_refl _) (Nat.le_refl _) ?_
  refine va_putF (D := D) (ci := 0) (v := .ref q6) (ty := .array .int) (C := RX0) (T := TX0) (N := 15) hx hb hts hi_X0 tyX0 tyX0_ok nmX0 hown hE.1 hP hD hS 0 rfl rfl 9 (by decide) (hts (.fieldLink RX0 27 "HemLine$Delta" "heightOf" "[I") (by decide +kernel)) (fun _ h9 => h9) rfl hin rfl (by decide +kernel) rfl rfl (Nat.le_of_ble_eq_true rfl) dX0_init_49 (fun H locs hP hD hS => ?_)
  have hP : va_P D vwCl [(h0, .inr (0, [.int 0, .int 0, .int 0, .int 0, .ref q1, .ref q2, .ref q3, .ref q4, .ref q5, .ref q6, .null, .null, .null, .null, .null])), (q1, .inl (cs.1, 6, .inl (fun _ => 0))), (q2, .inl (cs.1, 6, .inl (fun _ => 0))), (q3, .inl (cs.1, 6, .inl (fun _ => 0))), (q4, .inl (cs.1, 6, .inl (fun _ => 0))), (q5, .inl (cs.1, 6, .inl (fun _ => 0))), (q6, .inl (cs.1, 8, .inl (fun _ => 0)))] H := hP
  have hD : va_D A [(h0, .inr (0, [.int 0, .int 0, .int 0, .int 0, .ref q1, .ref q2, .ref q3, .ref q4, .ref q5, .ref q6, .null, .null, .null, .null, .null])), (q1, .inl (cs.1, 6, .inl (fun _ => 0))), (q2, .inl (cs.1, 6, .inl (fun _ => 0))), (q3, .inl (cs.1, 6, .inl (fun _ => 0))), (q4, .inl (cs.1, 6, .inl (fun _ => 0))), (q5, .inl (cs.1, 6, .inl (fun _ => 0))), (q6, .inl (cs.1, 8, .inl (fun _ => 0)))] := hD
  refine lv_aload_n hx hb dX0_init_52 rfl (lv_at hl 0 rfl) ?_
  refine lv_bipush (v := 48) hx hb dX0_init_53 (by decide) ?_
  refine n_int (N' := 48) hx hb (hts (.arrayClass .int) (by decide +kernel)) hE.1 hP hD hS hA (by decide) (by decide) (Nat.le_of_ble_eq_true rfl) (Nat.le_of_ble_eq_true rfl) (Nat.le_of_ble_eq_true rfl) dX0_init_55 (fun q7 H hP hD hS => ?_)
  have hP : va_P D vwCl [(h0, .inr (0, [.int 0, .int 0, .int 0, .int 0, .ref q1, .ref q2, .ref q3, .ref q4, .ref q5, .ref q6, .null, .null, .null, .null, .null])), (q1, .inl (cs.1, 6, .inl (fun _ => 0))), (q2, .inl (cs.1, 6, .inl (fun _ => 0))), (q3, .inl (cs.1, 6, .inl (fun _ => 0))), (q4, .inl (cs.1, 6, .inl (fun _ => 0))), (q5, .inl (cs.1, 6, .inl (fun _ => 0))), (q6, .inl (cs.1, 8, .inl (fun _ => 0))), (q7, .inl (cs.1, 48, .inl (fun _ => 0)))] H := hP
  have hD : va_D A [(h0, .inr (0, [.int 0, .int 0, .int 0, .int 0, .ref q1, .ref q2, .ref q3, .ref q4, .ref q5, .ref q6, .null, .null, .null, .null, .null])), (q1, .inl (cs.1, 6, .inl (fun _ => 0))), (q2, .inl (cs.1, 6, .inl (fun _ => 0))), (q3, .inl (cs.1, 6, .inl (fun _ => 0))), (q4, .inl (cs.1, 6, .inl (fun _ => 0))), (q5, .inl (cs.1, 6, .inl (fun _ => 0))), (q6, .inl (cs.1, 8, .inl (fun _ => 0))), (q7, .inl (cs.1, 48, .inl (fun _ => 0)))] := hD
  refine W.widen (k := 7) (n := 86) (Nat.le_refl _) (Nat.le_refl _) ?_
  refine va_putF (D := D) (ci := 0) (v := .ref q7) (ty := .array .int) (C := RX0) (T := TX0) (N := 15) hx hb hts hi_X0 tyX0 tyX0_ok nmX0 hown hE.1 hP hD hS 0 rfl rfl 10 (by decide) (hts (.fieldLink RX0 30 "HemLine$Delta" "groundThen" "[I") (by decide +kernel)) (fun _ h9 => h9) rfl hin rfl (by decide +kernel) rfl rfl (Nat.le_of_ble_eq_true rfl) dX0_init_57 (fun H locs hP hD hS => ?_)
  have hP : va_P D vwCl [(h0, .inr (0, [.int 0, .int 0, .int 0, .int 0, .ref q1, .ref q2, .ref q3, .ref q4, .ref q5, .ref q6, .ref q7, .null, .null, .null, .null])), (q1, .inl (cs.1, 6, .inl (fun _ => 0))), (q2, .inl (cs.1, 6, .inl (fun _ => 0))), (q3, .inl (cs.1, 6, .inl (fun _ => 0))), (q4, .inl (cs.1, 6, .inl (fun _ => 0))), (q5, .inl (cs.1, 6, .inl (fun _ => 0))), (q6, .inl (cs.1, 8, .inl (fun _ => 0))), (q7, .inl (cs.1, 48, .inl (fun _ => 0)))] H := hP
  have hD : va_D A [(h0, .inr (0, [.int 0, .int 0, .int 0, .int 0, .ref q1, .ref q2, .ref q3, .ref q4, .ref q5, .ref q6, .ref q7, .null, .null, .null, .null])), (q1, .inl (cs.1, 6, .inl (fun _ => 0))), (q2, .inl (cs.1, 6, .inl (fun _ => 0))), (q3, .inl (cs.1, 6, .inl (fun _ => 0))), (q4, .inl (cs.1, 6, .inl (fun _ => 0))), (q5, .inl (cs.1, 6, .inl (fun _ => 0))), (q6, .inl (cs.1, 8, .inl (fun _ => 0))), (q7, .inl (cs.1, 48, .inl (fun _ => 0)))] := hD
  refine lv_aload_n hx hb dX0_init_60 rfl (lv_at hl 0 rfl) ?_
  refine lv_bipush (v := 48) hx hb dX0_init_61 (by decide) ?_
  refine n_int (N' := 48) hx hb (hts (.arrayClass .int) (by decide +kernel)) hE.1 hP hD hS hA (by decide) (by decide) (Nat.le_of_ble_eq_true rfl) (Nat.le_of_ble_eq_true rfl) (Nat.le_of_ble_eq_true rfl) dX0_init_63 (fun q8 H hP hD hS => ?_)
  have hP : va_P D vwCl [(h0, .inr (0, [.int 0, .int 0, .int 0, .int 0, .ref q1, .ref q2, .ref q3, .ref q4, .ref q5, .ref q6, .ref q7, .null, .null, .null, .null])), (q1, .inl (cs.1, 6, .inl (fun _ => 0))), (q2, .inl (cs.1, 6, .inl (fun _ => 0))), (q3, .inl (cs.1, 6, .inl (fun _ => 0))), (q4, .inl (cs.1, 6, .inl (fun _ => 0))), (q5, .inl (cs.1, 6, .inl (fun _ => 0))), (q6, .inl (cs.1, 8, .inl (fun _ => 0))), (q7, .inl (cs.1, 48, .inl (fun _ => 0))), (q8, .inl (cs.1, 48, .inl (fun _ => 0)))] H := hP
  have hD : va_D A [(h0, .inr (0, [.int 0, .int 0, .int 0, .int 0, .ref q1, .ref q2, .ref q3, .ref q4, .ref q5, .ref q6, .ref q7, .null, .null, .null, .null])), (q1, .inl (cs.1, 6, .inl (fun _ => 0))), (q2, .inl (cs.1, 6, .inl (fun _ => 0))), (q3, .inl (cs.1, 6, .inl (fun _ => 0))), (q4, .inl (cs.1, 6, .inl (fun _ => 0))), (q5, .inl (cs.1, 6, .inl (fun _ => 0))), (q6, .inl (cs.1, 8, .inl (fun _ => 0))), (q7, .inl (cs.1, 48, .inl (fun _ => 0))), (q8, .inl (cs.1, 48, .inl (fun _ => 0)))] := hD
  refine W.widen (k := 8) (n := 134) (Nat.le_refl _) (Nat.le_refl _) ?_
  refine va_putF (D := D) (ci := 0) (v := .ref q8) (ty := .array .int) (C := RX0) (T := TX0) (N := 15) hx hb hts hi_X0 tyX0 tyX0_ok nmX0 hown hE.1 hP hD hS 0 rfl rfl 11 (by decide) (hts (.fieldLink RX0 33 "HemLine$Delta" "tuckThen" "[I") (by decide +kernel)) (fun _ h9 => h9) rfl hin rfl (by decide +kernel) rfl rfl (Nat.le_of_ble_eq_true rfl) dX0_init_65 (fun H locs hP hD hS => ?_)
  have hP : va_P D vwCl [(h0, .inr (0, [.int 0, .int 0, .int 0, .int 0, .ref q1, .ref q2, .ref q3, .ref q4, .ref q5, .ref q6, .ref q7, .ref q8, .null, .null, .null])), (q1, .inl (cs.1, 6, .inl (fun _ => 0))), (q2, .inl (cs.1, 6, .inl (fun _ => 0))), (q3, .inl (cs.1, 6, .inl (fun _ => 0))), (q4, .inl (cs.1, 6, .inl (fun _ => 0))), (q5, .inl (cs.1, 6, .inl (fun _ => 0))), (q6, .inl (cs.1, 8, .inl (fun _ => 0))), (q7, .inl (cs.1, 48, .inl (fun _ => 0))), (q8, .inl (cs.1, 48, .inl (fun _ => 0)))] H := hP
  have hD : va_D A [(h0, .inr (0, [.int 0, .int 0, .int 0, .int 0, .ref q1, .ref q2, .ref q3, .ref q4, .ref q5, .ref q6, .ref q7, .ref q8, .null, .null, .null])), (q1, .inl (cs.1, 6, .inl (fun _ => 0))), (q2, .inl (cs.1, 6, .inl (fun _ => 0))), (q3, .inl (cs.1, 6, .inl (fun _ => 0))), (q4, .inl (cs.1, 6, .inl (fun _ => 0))), (q5, .inl (cs.1, 6, .inl (fun _ => 0))), (q6, .inl (cs.1, 8, .inl (fun _ => 0))), (q7, .inl (cs.1, 48, .inl (fun _ => 0))), (q8, .inl (cs.1, 48, .inl (fun _ => 0)))] := hD
  refine lv_aload_n hx hb dX0_init_68 rfl (lv_at hl 0 rfl) ?_
  refine lv_bipush (v := 40) hx hb dX0_init_69 (by decide) ?_
  refine n_int (N' := 40) hx hb (hts (.arrayClass .int) (by decide +kernel)) hE.1 hP hD hS hA (by decide) (by decide) (Nat.le_of_ble_eq_true rfl) (Nat.le_of_ble_eq_true rfl) (Nat.le_of_ble_eq_true rfl) dX0_init_71 (fun q9 H hP hD hS => ?_)
  have hP : va_P D vwCl [(h0, .inr (0, [.int 0, .int 0, .int 0, .int 0, .ref q1, .ref q2, .ref q3, .ref q4, .ref q5, .ref q6, .ref q7, .ref q8, .null, .null, .null])), (q1, .inl (cs.1, 6, .inl (fun _ => 0))), (q2, .inl (cs.1, 6, .inl (fun _ => 0))), (q3, .inl (cs.1, 6, .inl (fun _ => 0))), (q4, .inl (cs.1, 6, .inl (fun _ => 0))), (q5, .inl (cs.1, 6, .inl (fun _ => 0))), (q6, .inl (cs.1, 8, .inl (fun _ => 0))), (q7, .inl (cs.1, 48, .inl (fun _ => 0))), (q8, .inl (cs.1, 48, .inl (fun _ => 0))), (q9, .inl (cs.1, 40, .inl (fun _ => 0)))] H := hP
  have hD : va_D A [(h0, .inr (0, [.int 0, .int 0, .int 0, .int 0, .ref q1, .ref q2, .ref q3, .ref q4, .ref q5, .ref q6, .ref q7, .ref q8, .null, .null, .null])), (q1, .inl (cs.1, 6, .inl (fun _ => 0))), (q2, .inl (cs.1, 6, .inl (fun _ => 0))), (q3, .inl (cs.1, 6, .inl (fun _ => 0))), (q4, .inl (cs.1, 6, .inl (fun _ => 0))), (q5, .inl (cs.1, 6, .inl (fun _ => 0))), (q6, .inl (cs.1, 8, .inl (fun _ => 0))), (q7, .inl (cs.1, 48, .inl (fun _ => 0))), (q8, .inl (cs.1, 48, .inl (fun _ => 0))), (q9, .inl (cs.1, 40, .inl (fun _ => 0)))] := hD
  refine W.widen (k := 9) (n := 174) (Nat.le_refl _) (Nat.le_refl _) ?_
  refine va_putF (D := D) (ci := 0) (v := .ref q9) (ty := .array .int) (C := RX0) (T := TX0) (N := 15) hx hb hts hi_X0 tyX0 tyX0_ok nmX0 hown hE.1 hP hD hS 0 rfl rfl 12 (by decide) (hts (.fieldLink RX0 36 "HemLine$Delta" "deedDone" "[I") (by decide +kernel)) (fun _ h9 => h9) rfl hin rfl (by decide +kernel) rfl rfl (Nat.le_of_ble_eq_true rfl) dX0_init_73 (fun H locs hP hD hS => ?_)
  have hP : va_P D vwCl [(h0, .inr (0, [.int 0, .int 0, .int 0, .int 0, .ref q1, .ref q2, .ref q3, .ref q4, .ref q5, .ref q6, .ref q7, .ref q8, .ref q9, .null, .null])), (q1, .inl (cs.1, 6, .inl (fun _ => 0))), (q2, .inl (cs.1, 6, .inl (fun _ => 0))), (q3, .inl (cs.1, 6, .inl (fun _ => 0))), (q4, .inl (cs.1, 6, .inl (fun _ => 0))), (q5, .inl (cs.1, 6, .inl (fun _ => 0))), (q6, .inl (cs.1, 8, .inl (fun _ => 0))), (q7, .inl (cs.1, 48, .inl (fun _ => 0))), (q8, .inl (cs.1, 48, .inl (fun _ => 0))), (q9, .inl (cs.1, 40, .inl (fun _ => 0)))] H := hP
  have hD : va_D A [(h0, .inr (0, [.int 0, .int 0, .int 0, .int 0, .ref q1, .ref q2, .ref q3, .ref q4, .ref q5, .ref q6, .ref q7, .ref q8, .ref q9, .null, .null])), (q1, .inl (cs.1, 6, .inl (fun _ => 0))), (q2, .inl (cs.1, 6, .inl (fun _ => 0))), (q3, .inl (cs.1, 6, .inl (fun _ => 0))), (q4, .inl (cs.1, 6, .inl (fun _ => 0))), (q5, .inl (cs.1, 6, .inl (fun _ => 0))), (q6, .inl (cs.1, 8, .inl (fun _ => 0))), (q7, .inl (cs.1, 48, .inl (fun _ => 0))), (q8, .inl (cs.1, 48, .inl (fun _ => 0))), (q9, .inl (cs.1, 40, .inl (fun _ => 0)))] := hD
  refine lv_aload_n hx hb dX0_init_76 rfl (lv_at hl 0 rfl) ?_
  refine lv_bipush (v := 40) hx hb dX0_init_77 (by decide) ?_
  refine n_int (N' := 40) hx hb (hts (.arrayClass .int) (by decide +kernel)) hE.1 hP hD hS hA (by decide) (by decide) (Nat.le_of_ble_eq_true rfl) (Nat.le_of_ble_eq_true rfl) (Nat.le_of_ble_eq_true rfl) dX0_init_79 (fun q10 H hP hD hS => ?_)
  have hP : va_P D vwCl [(h0, .inr (0, [.int 0, .int 0, .int 0, .int 0, .ref q1, .ref q2, .ref q3, .ref q4, .ref q5, .ref q6, .ref q7, .ref q8, .ref q9, .null, .null])), (q1, .inl (cs.1, 6, .inl (fun _ => 0))), (q2, .inl (cs.1, 6, .inl (fun _ => 0))), (q3, .inl (cs.1, 6, .inl (fun _ => 0))), (q4, .inl (cs.1, 6, .inl (fun _ => 0))), (q5, .inl (cs.1, 6, .inl (fun _ => 0))), (q6, .inl (cs.1, 8, .inl (fun _ => 0))), (q7, .inl (cs.1, 48, .inl (fun _ => 0))), (q8, .inl (cs.1, 48, .inl (fun _ => 0))), (q9, .inl (cs.1, 40, .inl (fun _ => 0))), (q10, .inl (cs.1, 40, .inl (fun _ => 0)))] H := hP
  have hD : va_D A [(h0, .inr (0, [.int 0, .int 0, .int 0, .int 0, .ref q1, .ref q2, .ref q3, .ref q4, .ref q5, .ref q6, .ref q7, .ref q8, .ref q9, .null, .null])), (q1, .inl (cs.1, 6, .inl (fun _ => 0))), (q2, .inl (cs.1, 6, .inl (fun _ => 0))), (q3, .inl (cs.1, 6, .inl (fun _ => 0))), (q4, .inl (cs.1, 6, .inl (fun _ => 0))), (q5, .inl (cs.1, 6, .inl (fun _ => 0))), (q6, .inl (cs.1, 8, .inl (fun _ => 0))), (q7, .inl (cs.1, 48, .inl (fun _ => 0))), (q8, .inl (cs.1, 48, .inl (fun _ => 0))), (q9, .inl (cs.1, 40, .inl (fun _ => 0))), (q10, .inl (cs.1, 40, .inl (fun _ => 0)))] := hD
  refine W.widen (k := 10) (n := 214) (Nat.le_refl _) (Nat.le_refl _) ?_
  refine va_putF (D := D) (ci := 0) (v := .ref q10) (ty := .array .int) (C := RX0) (T := TX0) (N := 15) hx hb hts hi_X0 tyX0 tyX0_ok nmX0 hown hE.1 hP hD hS 0 rfl rfl 13 (by decide) (hts (.fieldLink RX0 39 "HemLine$Delta" "deedTo" "[I") (by decide +kernel)) (fun _ h9 => h9) rfl hin rfl (by decide +kernel) rfl rfl (Nat.le_of_ble_eq_true rfl) dX0_init_81 (fun H locs hP hD hS => ?_)
  have hP : va_P D vwCl [(h0, .inr (0, [.int 0, .int 0, .int 0, .int 0, .ref q1, .ref q2, .ref q3, .ref q4, .ref q5, .ref q6, .ref q7, .ref q8, .ref q9, .ref q10, .null])), (q1, .inl (cs.1, 6, .inl (fun _ => 0))), (q2, .inl (cs.1, 6, .inl (fun _ => 0))), (q3, .inl (cs.1, 6, .inl (fun _ => 0))), (q4, .inl (cs.1, 6, .inl (fun _ => 0))), (q5, .inl (cs.1, 6, .inl (fun _ => 0))), (q6, .inl (cs.1, 8, .inl (fun _ => 0))), (q7, .inl (cs.1, 48, .inl (fun _ => 0))), (q8, .inl (cs.1, 48, .inl (fun _ => 0))), (q9, .inl (cs.1, 40, .inl (fun _ => 0))), (q10, .inl (cs.1, 40, .inl (fun _ => 0)))] H := hP
  have hD : va_D A [(h0, .inr (0, [.int 0, .int 0, .int 0, .int 0, .ref q1, .ref q2, .ref q3, .ref q4, .ref q5, .ref q6, .ref q7, .ref q8, .ref q9, .ref q10, .null])), (q1, .inl (cs.1, 6, .inl (fun _ => 0))), (q2, .inl (cs.1, 6, .inl (fun _ => 0))), (q3, .inl (cs.1, 6, .inl (fun _ => 0))), (q4, .inl (cs.1, 6, .inl (fun _ => 0))), (q5, .inl (cs.1, 6, .inl (fun _ => 0))), (q6, .inl (cs.1, 8, .inl (fun _ => 0))), (q7, .inl (cs.1, 48, .inl (fun _ => 0))), (q8, .inl (cs.1, 48, .inl (fun _ => 0))), (q9, .inl (cs.1, 40, .inl (fun _ => 0))), (q10, .inl (cs.1, 40, .inl (fun _ => 0)))] := hD
  refine lv_aload_n hx hb dX0_init_84 rfl (lv_at hl 0 rfl) ?_
  refine lv_bipush (v := 40) hx hb dX0_init_85 (by decide) ?_
  refine n_int (N' := 40) hx hb (hts (.arrayClass .int) (by decide +kernel)) hE.1 hP hD hS hA (by decide) (by decide) (Nat.le_of_ble_eq_true rfl) (Nat.le_of_ble_eq_true rfl) (Nat.le_of_ble_eq_true rfl) dX0_init_87 (fun q11 H hP hD hS => ?_)
  have hP : va_P D vwCl [(h0, .inr (0, [.int 0, .int 0, .int 0, .int 0, .ref q1, .ref q2, .ref q3, .ref q4, .ref q5, .ref q6, .ref q7, .ref q8, .ref q9, .ref q10, .null])), (q1, .inl (cs.1, 6, .inl (fun _ => 0))), (q2, .inl (cs.1, 6, .inl (fun _ => 0))), (q3, .inl (cs.1, 6, .inl (fun _ => 0))), (q4, .inl (cs.1, 6, .inl (fun _ => 0))), (q5, .inl (cs.1, 6, .inl (fun _ => 0))), (q6, .inl (cs.1, 8, .inl (fun _ => 0))), (q7, .inl (cs.1, 48, .inl (fun _ => 0))), (q8, .inl (cs.1, 48, .inl (fun _ => 0))), (q9, .inl (cs.1, 40, .inl (fun _ => 0))), (q10, .inl (cs.1, 40, .inl (fun _ => 0))), (q11, .inl (cs.1, 40, .inl (fun _ => 0)))] H := hP
  have hD : va_D A [(h0, .inr (0, [.int 0, .int 0, .int 0, .int 0, .ref q1, .ref q2, .ref q3, .ref q4, .ref q5, .ref q6, .ref q7, .ref q8, .ref q9, .ref q10, .null])), (q1, .inl (cs.1, 6, .inl (fun _ => 0))), (q2, .inl (cs.1, 6, .inl (fun _ => 0))), (q3, .inl (cs.1, 6, .inl (fun _ => 0))), (q4, .inl (cs.1, 6, .inl (fun _ => 0))), (q5, .inl (cs.1, 6, .inl (fun _ => 0))), (q6, .inl (cs.1, 8, .inl (fun _ => 0))), (q7, .inl (cs.1, 48, .inl (fun _ => 0))), (q8, .inl (cs.1, 48, .inl (fun _ => 0))), (q9, .inl (cs.1, 40, .inl (fun _ => 0))), (q10, .inl (cs.1, 40, .inl (fun _ => 0))), (q11, .inl (cs.1, 40, .inl (fun _ => 0)))] := hD
  refine W.widen (k := 11) (n := 254) (Nat.le_refl _) (Nat.le_refl _) ?_
  refine va_putF (D := D) (ci := 0) (v := .ref q11) (ty := .array .int) (C := RX0) (T := TX0) (N := 15) hx hb hts hi_X0 tyX0 tyX0_ok nmX0 hown hE.1 hP hD hS 0 rfl rfl 14 (by decide) (hts (.fieldLink RX0 42 "HemLine$Delta" "deedWas" "[I") (by decide +kernel)) (fun _ h9 => h9) rfl hin rfl (by decide +kernel) rfl rfl (Nat.le_of_ble_eq_true rfl) dX0_init_89 (fun H locs hP hD hS => ?_)
  have hP : va_P D vwCl [(h0, .inr (0, [.int 0, .int 0, .int 0, .int 0, .ref q1, .ref q2, .ref q3, .ref q4, .ref q5, .ref q6, .ref q7, .ref q8, .ref q9, .ref q10, .ref q11])), (q1, .inl (cs.1, 6, .inl (fun _ => 0))), (q2, .inl (cs.1, 6, .inl (fun _ => 0))), (q3, .inl (cs.1, 6, .inl (fun _ => 0))), (q4, .inl (cs.1, 6, .inl (fun _ => 0))), (q5, .inl (cs.1, 6, .inl (fun _ => 0))), (q6, .inl (cs.1, 8, .inl (fun _ => 0))), (q7, .inl (cs.1, 48, .inl (fun _ => 0))), (q8, .inl (cs.1, 48, .inl (fun _ => 0))), (q9, .inl (cs.1, 40, .inl (fun _ => 0))), (q10, .inl (cs.1, 40, .inl (fun _ => 0))), (q11, .inl (cs.1, 40, .inl (fun _ => 0)))] H := hP
  have hD : va_D A [(h0, .inr (0, [.int 0, .int 0, .int 0, .int 0, .ref q1, .ref q2, .ref q3, .ref q4, .ref q5, .ref q6, .ref q7, .ref q8, .ref q9, .ref q10, .ref q11])), (q1, .inl (cs.1, 6, .inl (fun _ => 0))), (q2, .inl (cs.1, 6, .inl (fun _ => 0))), (q3, .inl (cs.1, 6, .inl (fun _ => 0))), (q4, .inl (cs.1, 6, .inl (fun _ => 0))), (q5, .inl (cs.1, 6, .inl (fun _ => 0))), (q6, .inl (cs.1, 8, .inl (fun _ => 0))), (q7, .inl (cs.1, 48, .inl (fun _ => 0))), (q8, .inl (cs.1, 48, .inl (fun _ => 0))), (q9, .inl (cs.1, 40, .inl (fun _ => 0))), (q10, .inl (cs.1, 40, .inl (fun _ => 0))), (q11, .inl (cs.1, 40, .inl (fun _ => 0)))] := hD
  exact W.vret hx hb hr (fun t ht hW => ⟨⟨(fun k => ([h0, q1, q2, q3, q4, q5, q6, q7, q8, q9, q10, q11] : List Nat).getD k 0), rfl, trivial, pw ht (hP), hD⟩, hS.F ht⟩) hS.2.2 dX0_init_92
set_option maxHeartbeats 4000000 in
set_option maxRecDepth 100000 in
theorem i_X1 (l : Launch) (D : va_G) (cs : Cs) (h0 : Nat) (sz : Nat) : Met l yX1_init wsX1_init ({ frames := 1, cells := 3, slots := 61, locals := 12 }) (PcC D cs [.ref h0] [(h0, .inr (1, [.null, .null, .null]))] sz) (va_Qv (fun u : Nat → Nat => True) (fun (u : Nat → Nat) (t : State) => va_P D vwCl ([(h0, .inr (1, [.ref (u 1), .ref (u 2), .ref (u 3)])), ((u 1), .inl (cs.1, 6, .inl (fun _ => 0))), ((u 2), .inl (cs.1, 6, .inl (fun _ => 0))), ((u 3), .inl (cs.1, 49, .inl (fun _ => 0)))]) t.heap ∧ va_D (va_A [(h0, .inr (1, [.null, .null, .null]))] sz) ([(h0, .inr (1, [.ref (u 1), .ref (u 2), .ref (u 3)])), ((u 1), .inl (cs.1, 6, .inl (fun _ => 0))), ((u 2), .inl (cs.1, 6, .inl (fun _ => 0))), ((u 3), .inl (cs.1, 49, .inl (fun _ => 0)))])) (va_A [(h0, .inr (1, [.null, .null, .null]))] sz)) 3 61 (va_A [(h0, .inr (1, [.null, .null, .null]))] sz) := by
  refine Met.ofW (cc := cX1_init) (maxL := 1) (ret := none) (by decide) rfl ?_
  intro p e s m args below meth c s₁ B0 hml hv
  obtain ⟨ha, hsz, hP, hE, hD0⟩ := hv
  have hx := B0.exec
  have hb := B0.bytes
  have hr := B0.returns
  have hts := atoms_spec (ws := wsX1_init) B0.pre
  have hown : s.vm.findClass RX1 = some m.cls := findClass_of_methodNamed B0.named
  have hlocks := B0.notSynchronized
  have hin : meth.name = "<init>" := (name_of_methodNamed B0.named B0.method).1
  subst hsz
  have hD := hD0.self (sz := s.heap.size)
  generalize hAe : va_A [(h0, .inr (1, [.null, .null, .null]))] s.heap.size = A at hD ⊢
  have hA : ∀ q : Nat, s.heap.size ≤ q → A q := fun q h => by rw [← hAe]; exact Or.inr h
  have hS : va_S A s.heap s.heap [] := va_S.rf
  have hi_X1 : ∀ w ∈ u_ws RX1 TX1 3, w ∈ wsX1_init := by decide +kernel
  have hl := lv_entry ([.ref h0]) (n := 1) (Nat.le_of_ble_eq_true rfl)
  rw [show entryFrame m args 1 = entryFrame m ([.ref h0] : List Value).toArray 1 by rw [ha], lg_entry_eq]
  generalize (lg_sl ([.ref h0]) ++ List.replicate (1 - (lg_sl ([.ref h0])).length) Slot.unset).toArray = ls at hl ⊢
  have hl : lv_has ls 1 [(0, .ref h0)] := hl
  refine lv_aload_n hx hb dX1_init_0 rfl (lv_at hl 0 rfl) ?_
  refine W.objInit hx hb hown (hts (.methodLink RX1 3 objectInit) (by decide +kernel)) (hts (.instanceMethod objectInit) (by decide +kernel)) (hts (.code objectInit ⟨#[0xb1]⟩ 1 none) (by decide +kernel)) rfl (by rw [hml]; exact hl.1) rfl dX1_init_1 (Nat.le_of_ble_eq_true rfl) (Nat.le_of_ble_eq_true rfl) ?_
  refine W.eq (g2 := F0 m 4 ls []) rfl ?_
  refine lv_aload_n hx hb dX1_init_4 rfl (lv_at hl 0 rfl) ?_
  refine lv_bipush (v := 6) hx hb dX1_init_5 (by decide) ?_
  refine n_int (N' := 6) hx hb (hts (.arrayClass .int) (by decide +kernel)) hE.1 hP hD hS hA (by decide) (by decide) (Nat.le_of_ble_eq_true rfl) (Nat.le_of_ble_eq_true rfl) (Nat.le_of_ble_eq_true rfl) dX1_init_7 (fun q1 H hP hD hS => ?_)
  have hP : va_P D vwCl [(h0, .inr (1, [.null, .null, .null])), (q1, .inl (cs.1, 6, .inl (fun _ => 0)))] H := hP
  have hD : va_D A [(h0, .inr (1, [.null, .null, .null])), (q1, .inl (cs.1, 6, .inl (fun _ => 0)))] := hD
  refine W.widen (k := 1) (n := 6) (Nat.le_refl _) (Nat.le_refl _) ?_
  refine va_putF (D := D) (ci := 1) (v := .ref q1) (ty := .array .int) (C := RX1) (T := TX1) (N := 3) hx hb hts hi_X1 tyX1 tyX1_ok nmX1 hown hE.1 hP hD hS 0 rfl rfl 0 (by decide) (hts (.fieldLink RX1 9 "HemLine$Dykes" "ground" "[I") (by decide +kernel)) (fun _ h9 => h9) rfl hin rfl (by decide +kernel) rfl rfl (Nat.le_of_ble_eq_true rfl) dX1_init_9 (fun H locs hP hD hS => ?_)
  have hP : va_P D vwCl [(h0, .inr (1, [.ref q1, .null, .null])), (q1, .inl (cs.1, 6, .inl (fun _ => 0)))] H := hP
  have hD : va_D A [(h0, .inr (1, [.ref q1, .null, .null])), (q1, .inl (cs.1, 6, .inl (fun _ => 0)))] := hD
  refine lv_aload_n hx hb dX1_init_12 rfl (lv_at hl 0 rfl) ?_
  refine lv_bipush (v := 6) hx hb dX1_init_13 (by decide) ?_
  refine n_int (N' := 6) hx hb (hts (.arrayClass .int) (by decide +kernel)) hE.1 hP hD hS hA (by decide) (by decide) (Nat.le_of_ble_eq_true rfl) (Nat.le_of_ble_eq_true rfl) (Nat.le_of_ble_eq_true rfl) dX1_init_15 (fun q2 H hP hD hS => ?_)
  have hP : va_P D vwCl [(h0, .inr (1, [.ref q1, .null, .null])), (q1, .inl (cs.1, 6, .inl (fun _ => 0))), (q2, .inl (cs.1, 6, .inl (fun _ => 0)))] H := hP
  have hD : va_D A [(h0, .inr (1, [.ref q1, .null, .null])), (q1, .inl (cs.1, 6, .inl (fun _ => 0))), (q2, .inl (cs.1, 6, .inl (fun _ => 0)))] := hD
  refine W.widen (k := 2) (n := 12) (Nat.le_refl _) (Nat.le_refl _) ?_
  refine va_putF (D := D) (ci := 1) (v := .ref q2) (ty := .array .int) (C := RX1) (T := TX1) (N := 3) hx hb hts hi_X1 tyX1 tyX1_ok nmX1 hown hE.1 hP hD hS 0 rfl rfl 1 (by decide) (hts (.fieldLink RX1 15 "HemLine$Dykes" "folk" "[I") (by decide +kernel)) (fun _ h9 => h9) rfl hin rfl (by decide +kernel) rfl rfl (Nat.le_of_ble_eq_true rfl) dX1_init_17 (fun H locs hP hD hS => ?_)
  have hP : va_P D vwCl [(h0, .inr (1, [.ref q1, .ref q2, .null])), (q1, .inl (cs.1, 6, .inl (fun _ => 0))), (q2, .inl (cs.1, 6, .inl (fun _ => 0)))] H := hP
  have hD : va_D A [(h0, .inr (1, [.ref q1, .ref q2, .null])), (q1, .inl (cs.1, 6, .inl (fun _ => 0))), (q2, .inl (cs.1, 6, .inl (fun _ => 0)))] := hD
  refine lv_aload_n hx hb dX1_init_20 rfl (lv_at hl 0 rfl) ?_
  refine lv_bipush (v := 49) hx hb dX1_init_21 (by decide) ?_
  refine n_int (N' := 49) hx hb (hts (.arrayClass .int) (by decide +kernel)) hE.1 hP hD hS hA (by decide) (by decide) (Nat.le_of_ble_eq_true rfl) (Nat.le_of_ble_eq_true rfl) (Nat.le_of_ble_eq_true rfl) dX1_init_23 (fun q3 H hP hD hS => ?_)
  have hP : va_P D vwCl [(h0, .inr (1, [.ref q1, .ref q2, .null])), (q1, .inl (cs.1, 6, .inl (fun _ => 0))), (q2, .inl (cs.1, 6, .inl (fun _ => 0))), (q3, .inl (cs.1, 49, .inl (fun _ => 0)))] H := hP
  have hD : va_D A [(h0, .inr (1, [.ref q1, .ref q2, .null])), (q1, .inl (cs.1, 6, .inl (fun _ => 0))), (q2, .inl (cs.1, 6, .inl (fun _ => 0))), (q3, .inl (cs.1, 49, .inl (fun _ => 0)))] := hD
  refine W.widen (k := 3) (n := 61) (Nat.le_refl _) (Nat.le_refl _) ?_
  refine va_putF (D := D) (ci := 1) (v := .ref q3) (ty := .array .int) (C := RX1) (T := TX1) (N := 3) hx hb hts hi_X1 tyX1 tyX1_ok nmX1 hown hE.1 hP hD hS 0 rfl rfl 2 (by decide) (hts (.fieldLink RX1 18 "HemLine$Dykes" "leastFrom" "[I") (by decide +kernel)) (fun _ h9 => h9) rfl hin rfl (by decide +kernel) rfl rfl (Nat.le_of_ble_eq_true rfl) dX1_init_25 (fun H locs hP hD hS => ?_)
  have hP : va_P D vwCl [(h0, .inr (1, [.ref q1, .ref q2, .ref q3])), (q1, .inl (cs.1, 6, .inl (fun _ => 0))), (q2, .inl (cs.1, 6, .inl (fun _ => 0))), (q3, .inl (cs.1, 49, .inl (fun _ => 0)))] H := hP
  have hD : va_D A [(h0, .inr (1, [.ref q1, .ref q2, .ref q3])), (q1, .inl (cs.1, 6, .inl (fun _ => 0))), (q2, .inl (cs.1, 6, .inl (fun _ => 0))), (q3, .inl (cs.1, 49, .inl (fun _ => 0)))] := hD
  exact W.vret hx hb hr (fun t ht hW => ⟨⟨(fun k => ([h0, q1, q2, q3] : List Nat).getD k 0), rfl, trivial, pw ht (hP), hD⟩, hS.F ht⟩) hS.2.2 dX1_init_28
set_option maxHeartbeats 4000000 in
set_option maxRecDepth 100000 in
theorem i_X3 (l : Launch) (D : va_G) (cs : Cs) (h0 : Nat) (sz : Nat) : Met l yX3_init wsX3_init ({ frames := 2, cells := 12, slots := 269, locals := 32 }) (PcC D cs [.ref h0] [(h0, .inr (2, [.null, .null, .int 0, .int 0]))] sz) (va_Qv (fun u : Nat → Nat => True) (fun (u : Nat → Nat) (t : State) => va_P D vwCl ([(h0, .inr (2, [.ref (u 0), .null, .int 0, .int 0])), ((u 0), .inr (0, [.int 0, .int 0, .int 0, .int 0, .ref (u 1), .ref (u 2), .ref (u 3), .ref (u 4), .ref (u 5), .ref (u 6), .ref (u 7), .ref (u 8), .ref (u 9), .ref (u 10), .ref (u 11)])), ((u 1), .inl (cs.1, 6, .inl (fun _ => 0))), ((u 2), .inl (cs.1, 6, .inl (fun _ => 0))), ((u 3), .inl (cs.1, 6, .inl (fun _ => 0))), ((u 4), .inl (cs.1, 6, .inl (fun _ => 0))), ((u 5), .inl (cs.1, 6, .inl (fun _ => 0))), ((u 6), .inl (cs.1, 8, .inl (fun _ => 0))), ((u 7), .inl (cs.1, 48, .inl (fun _ => 0))), ((u 8), .inl (cs.1, 48, .inl (fun _ => 0))), ((u 9), .inl (cs.1, 40, .inl (fun _ => 0))), ((u 10), .inl (cs.1, 40, .inl (fun _ => 0))), ((u 11), .inl (cs.1, 40, .inl (fun _ => 0)))]) t.heap ∧ va_D (va_A [(h0, .inr (2, [.null, .null, .int 0, .int 0]))] sz) ([(h0, .inr (2, [.ref (u 0), .null, .int 0, .int 0])), ((u 0), .inr (0, [.int 0, .int 0, .int 0, .int 0, .ref (u 1), .ref (u 2), .ref (u 3), .ref (u 4), .ref (u 5), .ref (u 6), .ref (u 7), .ref (u 8), .ref (u 9), .ref (u 10), .ref (u 11)])), ((u 1), .inl (cs.1, 6, .inl (fun _ => 0))), ((u 2), .inl (cs.1, 6, .inl (fun _ => 0))), ((u 3), .inl (cs.1, 6, .inl (fun _ => 0))), ((u 4), .inl (cs.1, 6, .inl (fun _ => 0))), ((u 5), .inl (cs.1, 6, .inl (fun _ => 0))), ((u 6), .inl (cs.1, 8, .inl (fun _ => 0))), ((u 7), .inl (cs.1, 48, .inl (fun _ => 0))), ((u 8), .inl (cs.1, 48, .inl (fun _ => 0))), ((u 9), .inl (cs.1, 40, .inl (fun _ => 0))), ((u 10), .inl (cs.1, 40, .inl (fun _ => 0))), ((u 11), .inl (cs.1, 40, .inl (fun _ => 0)))])) (va_A [(h0, .inr (2, [.null, .null, .int 0, .int 0]))] sz)) 12 269 (va_A [(h0, .inr (2, [.null, .null, .int 0, .int 0]))] sz) := by
  refine Met.ofW (cc := cX3_init) (maxL := 1) (ret := none) (by decide) rfl ?_
  intro p e s m args below meth c s₁ B0 hml hv
  obtain ⟨ha, hsz, hP, hE, hD0⟩ := hv
  have hx := B0.exec
  have hb := B0.bytes
  have hr := B0.returns
  have hts := atoms_spec (ws := wsX3_init) B0.pre
  have hown : s.vm.findClass RX3 = some m.cls := findClass_of_methodNamed B0.named
  have hlocks := B0.notSynchronized
  have hin : meth.name = "<init>" := (name_of_methodNamed B0.named B0.method).1
  subst hsz
  have hD := hD0.self (sz := s.heap.size)
  generalize hAe : va_A [(h0, .inr (2, [.null, .null, .int 0, .int 0]))] s.heap.size = A at hD ⊢
  have hA : ∀ q : Nat, s.heap.size ≤ q → A q := fun q h => by rw [← hAe]; exact Or.inr h
  have hS : va_S A s.heap s.heap [] := va_S.rf
  have hi_X0 : ∀ w ∈ u_ws RX0 TX0 15, w ∈ wsX3_init := by decide +kernel
  have hi_X3 : ∀ w ∈ u_ws RX3 TX3 4, w ∈ wsX3_init := by decide +kernel
  have hl := lv_entry ([.ref h0]) (n := 1) (Nat.le_of_ble_eq_true rfl)
  rw [show entryFrame m args 1 = entryFrame m ([.ref h0] : List Value).toArray 1 by rw [ha], lg_entry_eq]
  generalize (lg_sl ([.ref h0]) ++ List.replicate (1 - (lg_sl ([.ref h0])).length) Slot.unset).toArray = ls at hl ⊢
  have hl : lv_has ls 1 [(0, .ref h0)] := hl
  refine lv_aload_n hx hb dX3_init_0 rfl (lv_at hl 0 rfl) ?_
  refine W.objInit hx hb hown (hts (.methodLink RX3 3 objectInit) (by decide +kernel)) (hts (.instanceMethod objectInit) (by decide +kernel)) (hts (.code objectInit ⟨#[0xb1]⟩ 1 none) (by decide +kernel)) rfl (by rw [hml]; exact hl.1) rfl dX3_init_1 (Nat.le_of_ble_eq_true rfl) (Nat.le_of_ble_eq_true rfl) ?_
  refine W.eq (g2 := F0 m 4 ls []) rfl ?_
  refine lv_aload_n hx hb dX3_init_4 rfl (lv_at hl 0 rfl) ?_
  refine va_new (ci := 0) (fs := [.int 0, .int 0, .int 0, .int 0, .null, .null, .null, .null, .null, .null, .null, .null, .null, .null, .null]) (C := RX0) (T := TX0) (N := 15) hx hb hts hi_X0 tyX0 tyX0_ok hown (hts (.classLink RX3 9 RX0) (by decide +kernel)) (hts (.instantiable RX0 15) (by decide +kernel)) (hts (.initialized RX0) (by decide +kernel)) hE.1 hP hD hS hA rfl (fun j hj => nj_X0 j hj) (Nat.le_of_ble_eq_true rfl) (Nat.le_of_ble_eq_true rfl) dX3_init_5 (fun q1 H hP hD hS => ?_)
  have hP : va_P D vwCl [(h0, .inr (2, [.null, .null, .int 0, .int 0])), (q1, .inr (0, [.int 0, .int 0, .int 0, .int 0, .null, .null, .null, .null, .null, .null, .null, .null, .null, .null, .null]))] H := hP
  have hD : va_D A [(h0, .inr (2, [.null, .null, .int 0, .int 0])), (q1, .inr (0, [.int 0, .int 0, .int 0, .int 0, .null, .null, .null, .null, .null, .null, .null, .null, .null, .null, .null]))] := hD
  refine W.widen (k := 1) (n := 15) (Nat.le_refl _) (Nat.le_refl _) ?_
  refine lv_dup hx hb dX3_init_8 rfl ?_
  have hPc := hP.sub (ws' := [(q1, .inr (0, [.int 0, .int 0, .int 0, .int 0, .null, .null, .null, .null, .null, .null, .null, .null, .null, .null, .null]))]) [1] rfl
  have hDc := hD.sub (ws' := [(q1, .inr (0, [.int 0, .int 0, .int 0, .int 0, .null, .null, .null, .null, .null, .null, .null, .null, .null, .null, .null]))]) [1] (by decide) rfl
  have hFc := va_free (wc := [(q1, .inr (0, [.int 0, .int 0, .int 0, .int 0, .null, .null, .null, .null, .null, .null, .null, .null, .null, .null, .null]))]) hD hS hA [1] rfl
  refine va_callv (va_runIN (As := []) (rest := [.ref q1, .ref h0]) ⟨hx, hb, hml, hown, hts⟩ (i_X0 l D cs q1 H.size) ⟨va_cnB 0 hts gX3_init_X0_init_n11 rfl rfl rfl (hE.2.1.2 ("HemLine$Reader", 11, ⟨"HemLine$Delta", "<init>", "()V"⟩, "HemLine") (by decide +kernel)) (hts (.initialized RX0) (by decide +kernel)) (by decide +kernel) ⟨Nat.le_of_ble_eq_true rfl, Nat.le_of_ble_eq_true rfl⟩, rfl, hts (.instanceMethod yX0_init) (by decide +kernel)⟩ ⟨pcC_blind, fun U hU hW => ⟨rfl, by rw [hU], by rw [hU]; exact hPc, hE.warm hW, hDc.weaken (fun _ _ _ _ => trivial)⟩⟩ rfl rfl hl.1 rfl (lv_room (Nat.le_of_ble_eq_true rfl)) dX3_init_9 ⟨Nat.le_of_ble_eq_true rfl, Nat.le_of_ble_eq_true rfl⟩) hS (fun q _ h => hFc q h) hFc (fun u2 t H1 locs ht hvm hw2 hB hz1 hk1 hS => ?_)
  obtain ⟨hP1, hD1⟩ := hB
  rw [ht] at hP1
  obtain ⟨hP, hD⟩ := va_join (wr := [(h0, .inr (2, [.null, .null, .int 0, .int 0]))]) (w1 := [(q1, .inr (0, [.int 0, .int 0, .int 0, .int 0, .ref (u2 1), .ref (u2 2), .ref (u2 3), .ref (u2 4), .ref (u2 5), .ref (u2 6), .ref (u2 7), .ref (u2 8), .ref (u2 9), .ref (u2 10), .ref (u2 11)])), ((u2 1), .inl (cs.1, 6, .inl (fun _ => 0))), ((u2 2), .inl (cs.1, 6, .inl (fun _ => 0))), ((u2 3), .inl (cs.1, 6, .inl (fun _ => 0))), ((u2 4), .inl (cs.1, 6, .inl (fun _ => 0))), ((u2 5), .inl (cs.1, 6, .inl (fun _ => 0))), ((u2 6), .inl (cs.1, 8, .inl (fun _ => 0))), ((u2 7), .inl (cs.1, 48, .inl (fun _ => 0))), ((u2 8), .inl (cs.1, 48, .inl (fun _ => 0))), ((u2 9), .inl (cs.1, 40, .inl (fun _ => 0))), ((u2 10), .inl (cs.1, 40, .inl (fun _ => 0))), ((u2 11), .inl (cs.1, 40, .inl (fun _ => 0)))]) hP hD [1] [0] rfl rfl (by decide) (by decide) hk1 hFc hP1 hD1
  generalize H1 = H at hP hS ⊢
  have hP : va_P D vwCl [(h0, .inr (2, [.null, .null, .int 0, .int 0])), (q1, .inr (0, [.int 0, .int 0, .int 0, .int 0, .ref (u2 1), .ref (u2 2), .ref (u2 3), .ref (u2 4), .ref (u2 5), .ref (u2 6), .ref (u2 7), .ref (u2 8), .ref (u2 9), .ref (u2 10), .ref (u2 11)])), ((u2 1), .inl (cs.1, 6, .inl (fun _ => 0))), ((u2 2), .inl (cs.1, 6, .inl (fun _ => 0))), ((u2 3), .inl (cs.1, 6, .inl (fun _ => 0))), ((u2 4), .inl (cs.1, 6, .inl (fun _ => 0))), ((u2 5), .inl (cs.1, 6, .inl (fun _ => 0))), ((u2 6), .inl (cs.1, 8, .inl (fun _ => 0))), ((u2 7), .inl (cs.1, 48, .inl (fun _ => 0))), ((u2 8), .inl (cs.1, 48, .inl (fun _ => 0))), ((u2 9), .inl (cs.1, 40, .inl (fun _ => 0))), ((u2 10), .inl (cs.1, 40, .inl (fun _ => 0))), ((u2 11), .inl (cs.1, 40, .inl (fun _ => 0)))] H := hP
  have hD : va_D A [(h0, .inr (2, [.null, .null, .int 0, .int 0])), (q1, .inr (0, [.int 0, .int 0, .int 0, .int 0, .ref (u2 1), .ref (u2 2), .ref (u2 3), .ref (u2 4), .ref (u2 5), .ref (u2 6), .ref (u2 7), .ref (u2 8), .ref (u2 9), .ref (u2 10), .ref (u2 11)])), ((u2 1), .inl (cs.1, 6, .inl (fun _ => 0))), ((u2 2), .inl (cs.1, 6, .inl (fun _ => 0))), ((u2 3), .inl (cs.1, 6, .inl (fun _ => 0))), ((u2 4), .inl (cs.1, 6, .inl (fun _ => 0))), ((u2 5), .inl (cs.1, 6, .inl (fun _ => 0))), ((u2 6), .inl (cs.1, 8, .inl (fun _ => 0))), ((u2 7), .inl (cs.1, 48, .inl (fun _ => 0))), ((u2 8), .inl (cs.1, 48, .inl (fun _ => 0))), ((u2 9), .inl (cs.1, 40, .inl (fun _ => 0))), ((u2 10), .inl (cs.1, 40, .inl (fun _ => 0))), ((u2 11), .inl (cs.1, 40, .inl (fun _ => 0)))] := hD
  refine W.widen (k := 12) (n := 269) (Nat.le_refl _) (Nat.le_refl _) ?_
  refine va_putF (D := D) (ci := 2) (v := .ref q1) (ty := .object "HemLine$Delta") (C := RX3) (T := TX3) (N := 4) hx hb hts hi_X3 tyX3 tyX3_ok nmX3 hown hE.1 hP hD hS 0 rfl rfl 0 (by decide) (hts (.fieldLink RX3 12 "HemLine$Reader" "draft" "LHemLine$Delta;") (by decide +kernel)) (fun _ h9 => h9) rfl hin rfl (by decide +kernel) rfl rfl (Nat.le_of_ble_eq_true rfl) dX3_init_12 (fun H locs hP hD hS => ?_)
  have hP : va_P D vwCl [(h0, .inr (2, [.ref q1, .null, .int 0, .int 0])), (q1, .inr (0, [.int 0, .int 0, .int 0, .int 0, .ref (u2 1), .ref (u2 2), .ref (u2 3), .ref (u2 4), .ref (u2 5), .ref (u2 6), .ref (u2 7), .ref (u2 8), .ref (u2 9), .ref (u2 10), .ref (u2 11)])), ((u2 1), .inl (cs.1, 6, .inl (fun _ => 0))), ((u2 2), .inl (cs.1, 6, .inl (fun _ => 0))), ((u2 3), .inl (cs.1, 6, .inl (fun _ => 0))), ((u2 4), .inl (cs.1, 6, .inl (fun _ => 0))), ((u2 5), .inl (cs.1, 6, .inl (fun _ => 0))), ((u2 6), .inl (cs.1, 8, .inl (fun _ => 0))), ((u2 7), .inl (cs.1, 48, .inl (fun _ => 0))), ((u2 8), .inl (cs.1, 48, .inl (fun _ => 0))), ((u2 9), .inl (cs.1, 40, .inl (fun _ => 0))), ((u2 10), .inl (cs.1, 40, .inl (fun _ => 0))), ((u2 11), .inl (cs.1, 40, .inl (fun _ => 0)))] H := hP
  have hD : va_D A [(h0, .inr (2, [.ref q1, .null, .int 0, .int 0])), (q1, .inr (0, [.int 0, .int 0, .int 0, .int 0, .ref (u2 1), .ref (u2 2), .ref (u2 3), .ref (u2 4), .ref (u2 5), .ref (u2 6), .ref (u2 7), .ref (u2 8), .ref (u2 9), .ref (u2 10), .ref (u2 11)])), ((u2 1), .inl (cs.1, 6, .inl (fun _ => 0))), ((u2 2), .inl (cs.1, 6, .inl (fun _ => 0))), ((u2 3), .inl (cs.1, 6, .inl (fun _ => 0))), ((u2 4), .inl (cs.1, 6, .inl (fun _ => 0))), ((u2 5), .inl (cs.1, 6, .inl (fun _ => 0))), ((u2 6), .inl (cs.1, 8, .inl (fun _ => 0))), ((u2 7), .inl (cs.1, 48, .inl (fun _ => 0))), ((u2 8), .inl (cs.1, 48, .inl (fun _ => 0))), ((u2 9), .inl (cs.1, 40, .inl (fun _ => 0))), ((u2 10), .inl (cs.1, 40, .inl (fun _ => 0))), ((u2 11), .inl (cs.1, 40, .inl (fun _ => 0)))] := hD
  exact W.vret hx hb hr (fun t ht hW => ⟨⟨(fun k => ([q1, (u2 1), (u2 2), (u2 3), (u2 4), (u2 5), (u2 6), (u2 7), (u2 8), (u2 9), (u2 10), (u2 11)] : List Nat).getD k 0), rfl, trivial, pw ht (hP), hD⟩, hS.F ht⟩) hS.2.2 dX3_init_15
abbrev b1 (N : Nat) : Cf := (1, fun k => if k = 0 then 7 else 99, fun _ => N, fun _ _ => none)
theorem b1_lt (N : Nat) : ∀ k, (b1 N).2.1 k ≠ 99 → k < (b1 N).1 := fun k h => by
  have h1 : (if k = 0 then 7 else 99) ≠ 99 := h
  by_cases q : k = 0
  · subst q; exact Nat.one_pos
  · rw [if_neg q] at h1; exact absurd rfl h1
def s1 (f : Nat → Int32) : Sg := (fun _ _ => 0, fun _ _ => 0, fun _ => f, none)
def fl1 (N : Nat) (f : Nat → Int32) : Nat → Int32 := fun i => if i < N then -1 else f i
theorem wl_b1 (N : Nat) (cs : Cs) (a1 : Nat) (σ : Sg) : wl (b1 N) cs (fun _ => a1) σ = [(a1, .inl (cs.1, N, .inl (gR σ 0)))] := rfl
theorem d_one {A : Nat → Prop} {a : Nat} {e : va_E} (h : A a) : va_D A [(a, e)] := by
  refine ⟨fun i j p q hi hj _ => ?_, fun k q hk => ?_⟩
  · have h1 : i < 1 := (List.getElem?_eq_some_iff.mp hi).1
    have h2 : j < 1 := (List.getElem?_eq_some_iff.mp hj).1
    omega
  · have h1 : k < 1 := (List.getElem?_eq_some_iff.mp hk).1
    rw [show k = 0 by omega] at hk
    cases hk
    exact h
theorem fill_L (N : Nat) (hN : N < 2147483648) (f : Nat → Int32) (Q : Sg → Prop) : ∀ (n i : Nat) (s : Sg), i + n = N → (∀ j, j < i → gR s 0 j = -1) → (∀ j, i ≤ j → gR s 0 j = f j) → (∀ s', gR s' 0 = fl1 N f → Q s') → p_J7_fill_53178_L5 (b1 N) Q (n + 1) (some 0) (-1) (nI i) (nI N) s := by
  intro n
  induction n with
  | zero =>
    intro i s hi h1 h2 hQ
    unfold p_J7_fill_53178_L5
    refine ⟨fun _ => hQ s (funext fun j => ?_), fun h => absurd (nI_le (by omega) (by omega)) h⟩
    unfold fl1
    by_cases hj : j < N
    · rw [if_pos hj]; exact h1 j (by omega)
    · rw [if_neg hj]; exact h2 j (by omega)
  | succ n ih =>
    intro i s hi h1 h2 hQ
    unfold p_J7_fill_53178_L5
    refine ⟨fun h => absurd h (nI_ge (by omega) (by omega)), fun _ => ⟨0, rfl, rfl, vp_in_nI (show i < N by omega) (by omega), ?_⟩⟩
    rw [← nI_succ, nI_clamp (show i < 2 ^ 31 by omega)]
    refine ih (i + 1) _ (by omega) (fun j hj => ?_) (fun j hj => ?_) hQ
    · show (if (0 : Nat) = 0 then upd (gR s 0) i (-1) else s.2.2.1 0) j = -1
      rw [if_pos rfl]
      by_cases e : j = i
      · subst e; exact pk_us
      · rw [pk_un e]; exact h1 j (by omega)
    · show (if (0 : Nat) = 0 then upd (gR s 0) i (-1) else s.2.2.1 0) j = f j
      rw [if_pos rfl, pk_un (by omega)]
      exact h2 j (by omega)
theorem fill_1 (N : Nat) (hN : N < 2147483648) (f : Nat → Int32) : p_J7_fill_53178 (b1 N) (some 0) (-1) (s1 f) (fun σ => gR σ 0 = fl1 N f) := by
  unfold p_J7_fill_53178
  exact ⟨0, rfl, Or.inl rfl, N + 1, fill_L N hN f _ N 0 (s1 f) (by omega) (fun j hj => absurd hj (Nat.not_lt_zero j)) (fun _ _ => rfl) (fun _ h => h)⟩
set_option maxHeartbeats 4000000 in
set_option maxRecDepth 100000 in
theorem i_X4 (l : Launch) (D : va_G) (cs : Cs) (h0 a1 a2 N : Nat) (hN : N < 2147483648) (f : Nat → Int32) (sz : Nat) : Met l yX4_init wsX4_init ({ frames := 1, cells := 0, slots := 0, locals := 23 }) (PcC D cs [.ref h0, .ref a1, .ref a2] [(h0, .inr (3, [.null, .null])), (a1, .inl (cs.1, N, .inl (f)))] sz) (va_Qv (fun u : Nat → Int32 => ∀ i, i < N → u i = -1) (fun (u : Nat → Int32) (t : State) => va_P D vwCl ([(h0, .inr (3, [.ref a1, .ref a2])), (a1, .inl (cs.1, N, .inl (u)))]) t.heap ∧ va_D (va_A [(h0, .inr (3, [.null, .null])), (a1, .inl (cs.1, N, .inl (f)))] sz) ([(h0, .inr (3, [.ref a1, .ref a2])), (a1, .inl (cs.1, N, .inl (u)))])) (va_A [(h0, .inr (3, [.null, .null])), (a1, .inl (cs.1, N, .inl (f)))] sz)) 0 0 (va_A [(h0, .inr (3, [.null, .null])), (a1, .inl (cs.1, N, .inl (f)))] sz) := by
  refine Met.ofW (cc := cX4_init) (maxL := 3) (ret := none) (by decide) rfl ?_
  intro p e s m args below meth c s₁ B0 hml hv
  obtain ⟨ha, hsz, hP, hE, hD0⟩ := hv
  have hx := B0.exec
  have hb := B0.bytes
  have hr := B0.returns
  have hts := atoms_spec (ws := wsX4_init) B0.pre
  have hown : s.vm.findClass RX4 = some m.cls := findClass_of_methodNamed B0.named
  have hlocks := B0.notSynchronized
  have hin : meth.name = "<init>" := (name_of_methodNamed B0.named B0.method).1
  subst hsz
  have hD := hD0.self (sz := s.heap.size)
  generalize hAe : va_A [(h0, .inr (3, [.null, .null])), (a1, .inl (cs.1, N, .inl (f)))] s.heap.size = A at hD ⊢
  have hA : ∀ q : Nat, s.heap.size ≤ q → A q := fun q h => by rw [← hAe]; exact Or.inr h
  have hS : va_S A s.heap s.heap [] := va_S.rf
  have hi_X4 : ∀ w ∈ u_ws RX4 TX4 2, w ∈ wsX4_init := by decide +kernel
  have hl := lv_entry ([.ref h0, .ref a1, .ref a2]) (n := 3) (Nat.le_of_ble_eq_true rfl)
  rw [show entryFrame m args 3 = entryFrame m ([.ref h0, .ref a1, .ref a2] : List Value).toArray 3 by rw [ha], lg_entry_eq]
  generalize (lg_sl ([.ref h0, .ref a1, .ref a2]) ++ List.replicate (3 - (lg_sl ([.ref h0, .ref a1, .ref a2])).length) Slot.unset).toArray = ls at hl ⊢
  have hl : lv_has ls 3 [(0, .ref h0), (1, .ref a1), (2, .ref a2)] := hl
  refine lv_aload_n hx hb dX4_init_0 rfl (lv_at hl 0 rfl) ?_
  refine W.objInit hx hb hown (hts (.methodLink RX4 3 objectInit) (by decide +kernel)) (hts (.instanceMethod objectInit) (by decide +kernel)) (hts (.code objectInit ⟨#[0xb1]⟩ 1 none) (by decide +kernel)) rfl (by rw [hml]; exact hl.1) rfl dX4_init_1 (Nat.le_of_ble_eq_true rfl) (Nat.le_of_ble_eq_true rfl) ?_
  refine W.eq (g2 := F0 m 4 ls []) rfl ?_
  refine lv_aload_n hx hb dX4_init_4 rfl (lv_at hl 0 rfl) ?_
  refine lv_aload_n hx hb dX4_init_5 rfl (lv_at hl 1 rfl) ?_
  refine va_putF (D := D) (ci := 3) (v := .ref a1) (ty := .array .int) (C := RX4) (T := TX4) (N := 2) hx hb hts hi_X4 tyX4 tyX4_ok nmX4 hown hE.1 hP hD hS 0 rfl rfl 0 (by decide) (hts (.fieldLink RX4 9 "HemLine$Shelf" "sizes" "[I") (by decide +kernel)) (fun _ h9 => h9) rfl hin rfl (by decide +kernel) rfl rfl (Nat.le_of_ble_eq_true rfl) dX4_init_6 (fun H locs hP hD hS => ?_)
  have hP : va_P D vwCl [(h0, .inr (3, [.ref a1, .null])), (a1, .inl (cs.1, N, .inl (f)))] H := hP
  have hD : va_D A [(h0, .inr (3, [.ref a1, .null])), (a1, .inl (cs.1, N, .inl (f)))] := hD
  refine lv_aload_n hx hb dX4_init_9 rfl (lv_at hl 0 rfl) ?_
  refine lv_aload_n hx hb dX4_init_10 rfl (lv_at hl 2 rfl) ?_
  refine va_putF (D := D) (ci := 3) (v := .ref a2) (ty := .array (.array .int)) (C := RX4) (T := TX4) (N := 2) hx hb hts hi_X4 tyX4 tyX4_ok nmX4 hown hE.1 hP hD hS 0 rfl rfl 1 (by decide) (hts (.fieldLink RX4 15 "HemLine$Shelf" "cells" "[[I") (by decide +kernel)) (fun _ h9 => h9) rfl hin rfl (by decide +kernel) rfl rfl (Nat.le_of_ble_eq_true rfl) dX4_init_11 (fun H locs hP hD hS => ?_)
  have hP : va_P D vwCl [(h0, .inr (3, [.ref a1, .ref a2])), (a1, .inl (cs.1, N, .inl (f)))] H := hP
  have hD : va_D A [(h0, .inr (3, [.ref a1, .ref a2])), (a1, .inl (cs.1, N, .inl (f)))] := hD
  refine lv_aload_n hx hb dX4_init_14 rfl (lv_at hl 1 rfl) ?_
  refine lv_iconst (v := (-1)) hx hb dX4_init_15 (by decide) ?_
  have hPc := hP.sub (ws' := [(a1, .inl (cs.1, N, .inl (f)))]) [1] rfl
  have hPf : va_P D vwCl (wl (b1 N) cs (fun _ => a1) (s1 f)) H := by rw [wl_b1]; exact hPc
  have hEf : Ev (b1 N) D cs (fun _ => a1) s := hE.ev (fun i j hi hj _ => by have h1 : i < 1 := hi; have h2 : j < 1 := hj; omega) (b1_lt N)
  have hFa : A a1 := hD.2 1 _ rfl
  have hF1 : ∀ q, fAd (b1 N) (fun _ => a1) q → A q := fun q h => by obtain ⟨k, hk, rfl⟩ := h; exact hFa
  have hFc := va_free (wc := [(a1, .inl (cs.1, N, .inl (f)))]) hD hS hA [1] rfl
  refine va_callv (va_runS (As := [va_re (fun _ => a1) (some 0), .int (-1)]) (rest := []) ⟨hx, hb, hml, hown, hts⟩ (c_J7_fill_53178 l (b1 N) D cs (fun _ => a1) (some 0) (-1) (s1 f) (fun σ => gR σ 0 = fl1 N f)) (va_cwS 2 hts gX4_init_J7_fill_53178 rfl rfl rfl (by decide +kernel) ⟨Nat.le_of_ble_eq_true rfl, Nat.le_of_ble_eq_true rfl⟩) ⟨pc_blind, pc_of hPf hEf (fill_1 N hN f)⟩ rfl rfl hl.1 rfl (lv_room (Nat.le_of_ble_eq_true rfl)) dX4_init_16 ⟨Nat.le_refl _, Nat.le_refl _⟩) hS (fun q _ h => hF1 q h) hF1 (fun u t H1 locs ht hvm hw hB hz1 hk1 hS => ?_)
  rw [ht] at hB
  rw [wl_b1, hw] at hB
  have hk2 : ∀ q : Nat, q < H.size → ¬ va_A [(a1, .inl (cs.1, N, .inl (f)))] (H.size) q → H1[q]? = H[q]? := fun q h1 h2 => hk1 q h1 (fun ⟨k, hk, e1⟩ => h2 (by subst e1; exact Or.inl ⟨0, _, rfl⟩))
  obtain ⟨hP, hD⟩ := va_join (wr := [(h0, .inr (3, [.ref a1, .ref a2]))]) (w1 := [(a1, .inl (cs.1, N, .inl (fl1 N f)))]) hP hD [1] [0] rfl rfl (by decide) (by decide) hk2 hFc hB (d_one (Or.inl ⟨0, _, rfl⟩))
  exact W.vret hx hb hr (fun t ht hW => ⟨⟨(fl1 N f), rfl, fun i hi => if_pos hi, pw ht hP, hD⟩, hS.F ht⟩) hS.2.2 dX4_init_19
