set_option maxHeartbeats 4000000 in
set_option maxRecDepth 100000 in
theorem lc_21 {p : Program} {l : Launch} {e : Env} {s : State} {m : MethodId} {below : List Frame} {meth : Method} {c : Code} {D : va_G} {cs : Cs} {adX adM : Nat → Nat} {b L : Nat} {xs : Nat → Int32} (hx : p.tables.exec = Jvm.exec) (hb : c.code = code) (hml : c.maxLocals = 4) (hown : s.vm.findClass RL = some m.cls) (hts : ∀ w ∈ wsL_law, w.before #[Value.ref b] s = true) (hXs : va_X b L xs s s.heap) (hbl : b < s.heap.size) (hEX : Ev bX D cs adX s) (hEM : Ev bM D cs adM s) (hgX : ∀ k, k < 85 → s.heap.size ≤ adX k) (hgM : ∀ k, k < 29 → s.heap.size ≤ adM k) (hap : apt adX adM) {Q : State → Prop} {x3 : Int32} (hin1 : vp_in (x3 + 1) L) (hin2 : vp_in (x3 + 2) L) (hin3 : vp_in (x3 + 3) L) (hin4 : vp_in (x3 + 4) L) (hin5 : vp_in (x3 + 5) L) (K : Sg → Sg → Prop) (σX σM : Sg) (H : Heap) (locs : List Loc) (ls : Array Slot) (h : lw_21 (xs (x3 + 1).toNatClampNeg) (xs (x3 + 2).toNatClampNeg) (xs (x3 + 3).toNatClampNeg) (xs (x3 + 4).toNatClampNeg) (xs (x3 + 5).toNatClampNeg) σX σM K) (hPX : va_P D vwCl (wl bX cs adX σX) H) (hPM : va_P D vwCl (wl bM cs adM σM) H) (hS : va_S (fNw s) s.heap H locs) (hl : lv_has ls 4 [(0, .ref b), (1, .ref (adX 0)), (2, .ref (adM 0)), (3, .int x3)]) (kk : ∀ (σX σM : Sg) (H : Heap) (locs : List Loc) (ls : Array Slot), K σX σM → va_P D vwCl (wl bX cs adX σX) H → va_P D vwCl (wl bM cs adM σM) H → va_S (fNw s) s.heap H locs → lv_has ls 4 [(0, .ref b), (1, .ref (adX 0)), (2, .ref (adM 0)), (3, .int x3)] → W p l e room_1 s m #[Value.ref b] below meth c H locs 600000 7302250 Q (F0 m 1402 ls [])) : W p l e room_1 s m #[Value.ref b] below meth c H locs 600000 7302250 Q (F0 m 863 ls []) := by
  have hbA : ¬ (fNw s) b := Nat.not_le.mpr hbl
  have hap2 : ∀ i j, i < bM.1 → j < bX.1 → adM i ≠ adX j := fun i j hi hj q => hap j i hj hi q.symm
  unfold lw_21 at h
  refine lv_aload_n hx hb dL_law_863 rfl (lv_at hl 1 rfl) ?_
  refine lv_aload_n hx hb dL_law_864 rfl (lv_at hl 0 rfl) ?_
  refine lv_iload_n hx hb dL_law_865 rfl (lv_at hl 3 rfl) ?_
  refine lv_iconst (v := 1) hx hb dL_law_866 (by decide) ?_
  refine lv_iadd hx hb dL_law_867 ?_
  refine va_sld hx hb hXs hbl hbA hS hin1 dL_law_868 ?_
  refine lv_aload_n hx hb dL_law_869 rfl (lv_at hl 0 rfl) ?_
  refine lv_iload_n hx hb dL_law_870 rfl (lv_at hl 3 rfl) ?_
  refine lv_iconst (v := 2) hx hb dL_law_871 (by decide) ?_
  refine lv_iadd hx hb dL_law_872 ?_
  refine va_sld hx hb hXs hbl hbA hS hin2 dL_law_873 ?_
  refine lw_i (B := bX) (B2 := bM) (σ2 := σM) (kV (As := [.int (xs (x3 + 1).toNatClampNeg), .int (xs (x3 + 2).toNatClampNeg)]) (rest := []) (o := some 0) rfl ⟨hx, hb, hml, hown, hts⟩ (c_X5_know l D cs adX 0 (xs (x3 + 1).toNatClampNeg) (xs (x3 + 2).toNatClampNeg) σX _ rfl) (cwV 2 hts gL_law_X5_know rfl rfl rfl (by decide +kernel) ⟨Nat.le_of_ble_eq_true rfl, Nat.le_of_ble_eq_true rfl⟩) hEX hPX rfl rfl (w_4 hEX rfl) h rfl hl.1 rfl (lv_room (Nat.le_of_ble_eq_true rfl)) dL_law_874 ⟨Nat.le_refl _, Nat.le_refl _⟩) hS hgX hap hPM (fun rX σX H locs h hPX hPM hS => ?_)
  refine lv_aload_n hx hb dL_law_877 rfl (lv_at hl 2 rfl) ?_
  refine lv_aload_n hx hb dL_law_878 rfl (lv_at hl 0 rfl) ?_
  refine lv_iload_n hx hb dL_law_879 rfl (lv_at hl 3 rfl) ?_
  refine lv_iconst (v := 1) hx hb dL_law_880 (by decide) ?_
  refine lv_iadd hx hb dL_law_881 ?_
  refine va_sld hx hb hXs hbl hbA hS hin1 dL_law_882 ?_
  refine lv_aload_n hx hb dL_law_883 rfl (lv_at hl 0 rfl) ?_
  refine lv_iload_n hx hb dL_law_884 rfl (lv_at hl 3 rfl) ?_
  refine lv_iconst (v := 2) hx hb dL_law_885 (by decide) ?_
  refine lv_iadd hx hb dL_law_886 ?_
  refine va_sld hx hb hXs hbl hbA hS hin2 dL_law_887 ?_
  refine lw_i (B := bM) (B2 := bX) (σ2 := σX) (kV (As := [.int (xs (x3 + 1).toNatClampNeg), .int (xs (x3 + 2).toNatClampNeg)]) (rest := [.int rX]) (o := some 0) rfl ⟨hx, hb, hml, hown, hts⟩ (c_X6_know l D cs adM 0 (xs (x3 + 1).toNatClampNeg) (xs (x3 + 2).toNatClampNeg) σM _ rfl) (cwV 2 hts gL_law_X6_know rfl rfl rfl (by decide +kernel) ⟨Nat.le_of_ble_eq_true rfl, Nat.le_of_ble_eq_true rfl⟩) hEM hPM rfl rfl (w_5 hEM rfl) h rfl hl.1 rfl (lv_room (Nat.le_of_ble_eq_true rfl)) dL_law_888 ⟨Nat.le_refl _, Nat.le_refl _⟩) hS hgM hap2 hPX (fun rM σM H locs h hPM hPX hS => ?_)
  obtain ⟨he, h⟩ := h
  refine lv_icmp_eq (tgt := 1402) hx hb dL_law_891 (by decide) (fun _ => ?_) (fun c1 => ?_)
  · exact kk σX σM H locs ls h hPX hPM hS hl
  · exact absurd he c1
set_option maxHeartbeats 4000000 in
set_option maxRecDepth 100000 in
theorem lc_22 {p : Program} {l : Launch} {e : Env} {s : State} {m : MethodId} {below : List Frame} {meth : Method} {c : Code} {D : va_G} {cs : Cs} {adX adM : Nat → Nat} {b L : Nat} {xs : Nat → Int32} (hx : p.tables.exec = Jvm.exec) (hb : c.code = code) (hml : c.maxLocals = 4) (hown : s.vm.findClass RL = some m.cls) (hts : ∀ w ∈ wsL_law, w.before #[Value.ref b] s = true) (hXs : va_X b L xs s s.heap) (hbl : b < s.heap.size) (hEX : Ev bX D cs adX s) (hEM : Ev bM D cs adM s) (hgX : ∀ k, k < 85 → s.heap.size ≤ adX k) (hgM : ∀ k, k < 29 → s.heap.size ≤ adM k) (hap : apt adX adM) {Q : State → Prop} {x3 : Int32} (hin1 : vp_in (x3 + 1) L) (hin2 : vp_in (x3 + 2) L) (hin3 : vp_in (x3 + 3) L) (hin4 : vp_in (x3 + 4) L) (hin5 : vp_in (x3 + 5) L) (K : Sg → Sg → Prop) (σX σM : Sg) (H : Heap) (locs : List Loc) (ls : Array Slot) (h : lw_22 (xs (x3 + 1).toNatClampNeg) (xs (x3 + 2).toNatClampNeg) (xs (x3 + 3).toNatClampNeg) (xs (x3 + 4).toNatClampNeg) (xs (x3 + 5).toNatClampNeg) σX σM K) (hPX : va_P D vwCl (wl bX cs adX σX) H) (hPM : va_P D vwCl (wl bM cs adM σM) H) (hS : va_S (fNw s) s.heap H locs) (hl : lv_has ls 4 [(0, .ref b), (1, .ref (adX 0)), (2, .ref (adM 0)), (3, .int x3)]) (kk : ∀ (σX σM : Sg) (H : Heap) (locs : List Loc) (ls : Array Slot), K σX σM → va_P D vwCl (wl bX cs adX σX) H → va_P D vwCl (wl bM cs adM σM) H → va_S (fNw s) s.heap H locs → lv_has ls 4 [(0, .ref b), (1, .ref (adX 0)), (2, .ref (adM 0)), (3, .int x3)] → W p l e room_1 s m #[Value.ref b] below meth c H locs 600000 7302250 Q (F0 m 1402 ls [])) : W p l e room_1 s m #[Value.ref b] below meth c H locs 600000 7302250 Q (F0 m 896 ls []) := by
  have hbA : ¬ (fNw s) b := Nat.not_le.mpr hbl
  have hap2 : ∀ i j, i < bM.1 → j < bX.1 → adM i ≠ adX j := fun i j hi hj q => hap j i hj hi q.symm
  unfold lw_22 at h
  refine lv_aload_n hx hb dL_law_896 rfl (lv_at hl 1 rfl) ?_
  refine lv_aload_n hx hb dL_law_897 rfl (lv_at hl 0 rfl) ?_
  refine lv_iload_n hx hb dL_law_898 rfl (lv_at hl 3 rfl) ?_
  refine lv_iconst (v := 1) hx hb dL_law_899 (by decide) ?_
  refine lv_iadd hx hb dL_law_900 ?_
  refine va_sld hx hb hXs hbl hbA hS hin1 dL_law_901 ?_
  refine lw_i (B := bX) (B2 := bM) (σ2 := σM) (kV (As := [.int (xs (x3 + 1).toNatClampNeg)]) (rest := []) (o := some 0) rfl ⟨hx, hb, hml, hown, hts⟩ (c_X5_high l D cs adX 0 (xs (x3 + 1).toNatClampNeg) σX _ rfl) (cwV 1 hts gL_law_X5_high rfl rfl rfl (by decide +kernel) ⟨Nat.le_of_ble_eq_true rfl, Nat.le_of_ble_eq_true rfl⟩) hEX hPX rfl rfl (w_4 hEX rfl) h rfl hl.1 rfl (lv_room (Nat.le_of_ble_eq_true rfl)) dL_law_902 ⟨Nat.le_refl _, Nat.le_refl _⟩) hS hgX hap hPM (fun rX σX H locs h hPX hPM hS => ?_)
  refine lv_aload_n hx hb dL_law_905 rfl (lv_at hl 2 rfl) ?_
  refine lv_aload_n hx hb dL_law_906 rfl (lv_at hl 0 rfl) ?_
  refine lv_iload_n hx hb dL_law_907 rfl (lv_at hl 3 rfl) ?_
  refine lv_iconst (v := 1) hx hb dL_law_908 (by decide) ?_
  refine lv_iadd hx hb dL_law_909 ?_
  refine va_sld hx hb hXs hbl hbA hS hin1 dL_law_910 ?_
  refine lw_i (B := bM) (B2 := bX) (σ2 := σX) (kV (As := [.int (xs (x3 + 1).toNatClampNeg)]) (rest := [.int rX]) (o := some 0) rfl ⟨hx, hb, hml, hown, hts⟩ (c_X6_high l D cs adM 0 (xs (x3 + 1).toNatClampNeg) σM _ rfl) (cwV 1 hts gL_law_X6_high rfl rfl rfl (by decide +kernel) ⟨Nat.le_of_ble_eq_true rfl, Nat.le_of_ble_eq_true rfl⟩) hEM hPM rfl rfl (w_5 hEM rfl) h rfl hl.1 rfl (lv_room (Nat.le_of_ble_eq_true rfl)) dL_law_911 ⟨Nat.le_refl _, Nat.le_refl _⟩) hS hgM hap2 hPX (fun rM σM H locs h hPM hPX hS => ?_)
  obtain ⟨he, h⟩ := h
  refine lv_icmp_eq (tgt := 1402) hx hb dL_law_914 (by decide) (fun _ => ?_) (fun c1 => ?_)
  · exact kk σX σM H locs ls h hPX hPM hS hl
  · exact absurd he c1
set_option maxHeartbeats 4000000 in
set_option maxRecDepth 100000 in
theorem lc_23 {p : Program} {l : Launch} {e : Env} {s : State} {m : MethodId} {below : List Frame} {meth : Method} {c : Code} {D : va_G} {cs : Cs} {adX adM : Nat → Nat} {b L : Nat} {xs : Nat → Int32} (hx : p.tables.exec = Jvm.exec) (hb : c.code = code) (hml : c.maxLocals = 4) (hown : s.vm.findClass RL = some m.cls) (hts : ∀ w ∈ wsL_law, w.before #[Value.ref b] s = true) (hXs : va_X b L xs s s.heap) (hbl : b < s.heap.size) (hEX : Ev bX D cs adX s) (hEM : Ev bM D cs adM s) (hgX : ∀ k, k < 85 → s.heap.size ≤ adX k) (hgM : ∀ k, k < 29 → s.heap.size ≤ adM k) (hap : apt adX adM) {Q : State → Prop} {x3 : Int32} (hin1 : vp_in (x3 + 1) L) (hin2 : vp_in (x3 + 2) L) (hin3 : vp_in (x3 + 3) L) (hin4 : vp_in (x3 + 4) L) (hin5 : vp_in (x3 + 5) L) (K : Sg → Sg → Prop) (σX σM : Sg) (H : Heap) (locs : List Loc) (ls : Array Slot) (h : lw_23 (xs (x3 + 1).toNatClampNeg) (xs (x3 + 2).toNatClampNeg) (xs (x3 + 3).toNatClampNeg) (xs (x3 + 4).toNatClampNeg) (xs (x3 + 5).toNatClampNeg) σX σM K) (hPX : va_P D vwCl (wl bX cs adX σX) H) (hPM : va_P D vwCl (wl bM cs adM σM) H) (hS : va_S (fNw s) s.heap H locs) (hl : lv_has ls 4 [(0, .ref b), (1, .ref (adX 0)), (2, .ref (adM 0)), (3, .int x3)]) (kk : ∀ (σX σM : Sg) (H : Heap) (locs : List Loc) (ls : Array Slot), K σX σM → va_P D vwCl (wl bX cs adX σX) H → va_P D vwCl (wl bM cs adM σM) H → va_S (fNw s) s.heap H locs → lv_has ls 4 [(0, .ref b), (1, .ref (adX 0)), (2, .ref (adM 0)), (3, .int x3)] → W p l e room_1 s m #[Value.ref b] below meth c H locs 600000 7302250 Q (F0 m 1402 ls [])) : W p l e room_1 s m #[Value.ref b] below meth c H locs 600000 7302250 Q (F0 m 919 ls []) := by
  have hbA : ¬ (fNw s) b := Nat.not_le.mpr hbl
  have hap2 : ∀ i j, i < bM.1 → j < bX.1 → adM i ≠ adX j := fun i j hi hj q => hap j i hj hi q.symm
  unfold lw_23 at h
  refine lv_aload_n hx hb dL_law_919 rfl (lv_at hl 1 rfl) ?_
  refine lv_aload_n hx hb dL_law_920 rfl (lv_at hl 0 rfl) ?_
  refine lv_iload_n hx hb dL_law_921 rfl (lv_at hl 3 rfl) ?_
  refine lv_iconst (v := 1) hx hb dL_law_922 (by decide) ?_
  refine lv_iadd hx hb dL_law_923 ?_
  refine va_sld hx hb hXs hbl hbA hS hin1 dL_law_924 ?_
  refine lv_aload_n hx hb dL_law_925 rfl (lv_at hl 0 rfl) ?_
  refine lv_iload_n hx hb dL_law_926 rfl (lv_at hl 3 rfl) ?_
  refine lv_iconst (v := 2) hx hb dL_law_927 (by decide) ?_
  refine lv_iadd hx hb dL_law_928 ?_
  refine va_sld hx hb hXs hbl hbA hS hin2 dL_law_929 ?_
  refine lw_i (B := bX) (B2 := bM) (σ2 := σM) (kV (As := [.int (xs (x3 + 1).toNatClampNeg), .int (xs (x3 + 2).toNatClampNeg)]) (rest := []) (o := some 0) rfl ⟨hx, hb, hml, hown, hts⟩ (c_X5_look l D cs adX 0 (xs (x3 + 1).toNatClampNeg) (xs (x3 + 2).toNatClampNeg) σX _ rfl) (cwV 2 hts gL_law_X5_look rfl rfl rfl (by decide +kernel) ⟨Nat.le_of_ble_eq_true rfl, Nat.le_of_ble_eq_true rfl⟩) hEX hPX rfl rfl (w_4 hEX rfl) h rfl hl.1 rfl (lv_room (Nat.le_of_ble_eq_true rfl)) dL_law_930 ⟨Nat.le_refl _, Nat.le_refl _⟩) hS hgX hap hPM (fun rX σX H locs h hPX hPM hS => ?_)
  refine lv_aload_n hx hb dL_law_933 rfl (lv_at hl 2 rfl) ?_
  refine lv_aload_n hx hb dL_law_934 rfl (lv_at hl 0 rfl) ?_
  refine lv_iload_n hx hb dL_law_935 rfl (lv_at hl 3 rfl) ?_
  refine lv_iconst (v := 1) hx hb dL_law_936 (by decide) ?_
  refine lv_iadd hx hb dL_law_937 ?_
  refine va_sld hx hb hXs hbl hbA hS hin1 dL_law_938 ?_
  refine lv_aload_n hx hb dL_law_939 rfl (lv_at hl 0 rfl) ?_
  refine lv_iload_n hx hb dL_law_940 rfl (lv_at hl 3 rfl) ?_
  refine lv_iconst (v := 2) hx hb dL_law_941 (by decide) ?_
  refine lv_iadd hx hb dL_law_942 ?_
  refine va_sld hx hb hXs hbl hbA hS hin2 dL_law_943 ?_
  refine lw_i (B := bM) (B2 := bX) (σ2 := σX) (kV (As := [.int (xs (x3 + 1).toNatClampNeg), .int (xs (x3 + 2).toNatClampNeg)]) (rest := [.int rX]) (o := some 0) rfl ⟨hx, hb, hml, hown, hts⟩ (c_X6_look l D cs adM 0 (xs (x3 + 1).toNatClampNeg) (xs (x3 + 2).toNatClampNeg) σM _ rfl) (cwV 2 hts gL_law_X6_look rfl rfl rfl (by decide +kernel) ⟨Nat.le_of_ble_eq_true rfl, Nat.le_of_ble_eq_true rfl⟩) hEM hPM rfl rfl (w_5 hEM rfl) h rfl hl.1 rfl (lv_room (Nat.le_of_ble_eq_true rfl)) dL_law_944 ⟨Nat.le_refl _, Nat.le_refl _⟩) hS hgM hap2 hPX (fun rM σM H locs h hPM hPX hS => ?_)
  obtain ⟨he, h⟩ := h
  refine lv_icmp_eq (tgt := 1402) hx hb dL_law_947 (by decide) (fun _ => ?_) (fun c1 => ?_)
  · exact kk σX σM H locs ls h hPX hPM hS hl
  · exact absurd he c1
set_option maxHeartbeats 4000000 in
set_option maxRecDepth 100000 in
theorem lc_24 {p : Program} {l : Launch} {e : Env} {s : State} {m : MethodId} {below : List Frame} {meth : Method} {c : Code} {D : va_G} {cs : Cs} {adX adM : Nat → Nat} {b L : Nat} {xs : Nat → Int32} (hx : p.tables.exec = Jvm.exec) (hb : c.code = code) (hml : c.maxLocals = 4) (hown : s.vm.findClass RL = some m.cls) (hts : ∀ w ∈ wsL_law, w.before #[Value.ref b] s = true) (hXs : va_X b L xs s s.heap) (hbl : b < s.heap.size) (hEX : Ev bX D cs adX s) (hEM : Ev bM D cs adM s) (hgX : ∀ k, k < 85 → s.heap.size ≤ adX k) (hgM : ∀ k, k < 29 → s.heap.size ≤ adM k) (hap : apt adX adM) {Q : State → Prop} {x3 : Int32} (hin1 : vp_in (x3 + 1) L) (hin2 : vp_in (x3 + 2) L) (hin3 : vp_in (x3 + 3) L) (hin4 : vp_in (x3 + 4) L) (hin5 : vp_in (x3 + 5) L) (K : Sg → Sg → Prop) (σX σM : Sg) (H : Heap) (locs : List Loc) (ls : Array Slot) (h : lw_24 (xs (x3 + 1).toNatClampNeg) (xs (x3 + 2).toNatClampNeg) (xs (x3 + 3).toNatClampNeg) (xs (x3 + 4).toNatClampNeg) (xs (x3 + 5).toNatClampNeg) σX σM K) (hPX : va_P D vwCl (wl bX cs adX σX) H) (hPM : va_P D vwCl (wl bM cs adM σM) H) (hS : va_S (fNw s) s.heap H locs) (hl : lv_has ls 4 [(0, .ref b), (1, .ref (adX 0)), (2, .ref (adM 0)), (3, .int x3)]) (kk : ∀ (σX σM : Sg) (H : Heap) (locs : List Loc) (ls : Array Slot), K σX σM → va_P D vwCl (wl bX cs adX σX) H → va_P D vwCl (wl bM cs adM σM) H → va_S (fNw s) s.heap H locs → lv_has ls 4 [(0, .ref b), (1, .ref (adX 0)), (2, .ref (adM 0)), (3, .int x3)] → W p l e room_1 s m #[Value.ref b] below meth c H locs 600000 7302250 Q (F0 m 1402 ls [])) : W p l e room_1 s m #[Value.ref b] below meth c H locs 600000 7302250 Q (F0 m 952 ls []) := by
  have hbA : ¬ (fNw s) b := Nat.not_le.mpr hbl
  have hap2 : ∀ i j, i < bM.1 → j < bX.1 → adM i ≠ adX j := fun i j hi hj q => hap j i hj hi q.symm
  unfold lw_24 at h
  refine lv_aload_n hx hb dL_law_952 rfl (lv_at hl 1 rfl) ?_
  refine lv_aload_n hx hb dL_law_953 rfl (lv_at hl 0 rfl) ?_
  refine lv_iload_n hx hb dL_law_954 rfl (lv_at hl 3 rfl) ?_
  refine lv_iconst (v := 1) hx hb dL_law_955 (by decide) ?_
  refine lv_iadd hx hb dL_law_956 ?_
  refine va_sld hx hb hXs hbl hbA hS hin1 dL_law_957 ?_
  refine lw_i (B := bX) (B2 := bM) (σ2 := σM) (kV (As := [.int (xs (x3 + 1).toNatClampNeg)]) (rest := []) (o := some 0) rfl ⟨hx, hb, hml, hown, hts⟩ (c_X5_looks l D cs adX 0 (xs (x3 + 1).toNatClampNeg) σX _ rfl) (cwV 1 hts gL_law_X5_looks rfl rfl rfl (by decide +kernel) ⟨Nat.le_of_ble_eq_true rfl, Nat.le_of_ble_eq_true rfl⟩) hEX hPX rfl rfl (w_4 hEX rfl) h rfl hl.1 rfl (lv_room (Nat.le_of_ble_eq_true rfl)) dL_law_958 ⟨Nat.le_refl _, Nat.le_refl _⟩) hS hgX hap hPM (fun rX σX H locs h hPX hPM hS => ?_)
  refine lv_aload_n hx hb dL_law_961 rfl (lv_at hl 2 rfl) ?_
  refine lv_aload_n hx hb dL_law_962 rfl (lv_at hl 0 rfl) ?_
  refine lv_iload_n hx hb dL_law_963 rfl (lv_at hl 3 rfl) ?_
  refine lv_iconst (v := 1) hx hb dL_law_964 (by decide) ?_
  refine lv_iadd hx hb dL_law_965 ?_
  refine va_sld hx hb hXs hbl hbA hS hin1 dL_law_966 ?_
  refine lw_i (B := bM) (B2 := bX) (σ2 := σX) (kV (As := [.int (xs (x3 + 1).toNatClampNeg)]) (rest := [.int rX]) (o := some 0) rfl ⟨hx, hb, hml, hown, hts⟩ (c_X6_looks l D cs adM 0 (xs (x3 + 1).toNatClampNeg) σM _ rfl) (cwV 1 hts gL_law_X6_looks rfl rfl rfl (by decide +kernel) ⟨Nat.le_of_ble_eq_true rfl, Nat.le_of_ble_eq_true rfl⟩) hEM hPM rfl rfl (w_5 hEM rfl) h rfl hl.1 rfl (lv_room (Nat.le_of_ble_eq_true rfl)) dL_law_967 ⟨Nat.le_refl _, Nat.le_refl _⟩) hS hgM hap2 hPX (fun rM σM H locs h hPM hPX hS => ?_)
  obtain ⟨he, h⟩ := h
  refine lv_icmp_eq (tgt := 1402) hx hb dL_law_970 (by decide) (fun _ => ?_) (fun c1 => ?_)
  · exact kk σX σM H locs ls h hPX hPM hS hl
  · exact absurd he c1
set_option maxHeartbeats 4000000 in
set_option maxRecDepth 100000 in
theorem lc_25 {p : Program} {l : Launch} {e : Env} {s : State} {m : MethodId} {below : List Frame} {meth : Method} {c : Code} {D : va_G} {cs : Cs} {adX adM : Nat → Nat} {b L : Nat} {xs : Nat → Int32} (hx : p.tables.exec = Jvm.exec) (hb : c.code = code) (hml : c.maxLocals = 4) (hown : s.vm.findClass RL = some m.cls) (hts : ∀ w ∈ wsL_law, w.before #[Value.ref b] s = true) (hXs : va_X b L xs s s.heap) (hbl : b < s.heap.size) (hEX : Ev bX D cs adX s) (hEM : Ev bM D cs adM s) (hgX : ∀ k, k < 85 → s.heap.size ≤ adX k) (hgM : ∀ k, k < 29 → s.heap.size ≤ adM k) (hap : apt adX adM) {Q : State → Prop} {x3 : Int32} (hin1 : vp_in (x3 + 1) L) (hin2 : vp_in (x3 + 2) L) (hin3 : vp_in (x3 + 3) L) (hin4 : vp_in (x3 + 4) L) (hin5 : vp_in (x3 + 5) L) (K : Sg → Sg → Prop) (σX σM : Sg) (H : Heap) (locs : List Loc) (ls : Array Slot) (h : lw_25 (xs (x3 + 1).toNatClampNeg) (xs (x3 + 2).toNatClampNeg) (xs (x3 + 3).toNatClampNeg) (xs (x3 + 4).toNatClampNeg) (xs (x3 + 5).toNatClampNeg) σX σM K) (hPX : va_P D vwCl (wl bX cs adX σX) H) (hPM : va_P D vwCl (wl bM cs adM σM) H) (hS : va_S (fNw s) s.heap H locs) (hl : lv_has ls 4 [(0, .ref b), (1, .ref (adX 0)), (2, .ref (adM 0)), (3, .int x3)]) (kk : ∀ (σX σM : Sg) (H : Heap) (locs : List Loc) (ls : Array Slot), K σX σM → va_P D vwCl (wl bX cs adX σX) H → va_P D vwCl (wl bM cs adM σM) H → va_S (fNw s) s.heap H locs → lv_has ls 4 [(0, .ref b), (1, .ref (adX 0)), (2, .ref (adM 0)), (3, .int x3)] → W p l e room_1 s m #[Value.ref b] below meth c H locs 600000 7302250 Q (F0 m 1402 ls [])) : W p l e room_1 s m #[Value.ref b] below meth c H locs 600000 7302250 Q (F0 m 975 ls []) := by
  have hbA : ¬ (fNw s) b := Nat.not_le.mpr hbl
  have hap2 : ∀ i j, i < bM.1 → j < bX.1 → adM i ≠ adX j := fun i j hi hj q => hap j i hj hi q.symm
  unfold lw_25 at h
  refine lv_aload_n hx hb dL_law_975 rfl (lv_at hl 1 rfl) ?_
  refine lv_aload_n hx hb dL_law_976 rfl (lv_at hl 0 rfl) ?_
  refine lv_iload_n hx hb dL_law_977 rfl (lv_at hl 3 rfl) ?_
  refine lv_iconst (v := 1) hx hb dL_law_978 (by decide) ?_
  refine lv_iadd hx hb dL_law_979 ?_
  refine va_sld hx hb hXs hbl hbA hS hin1 dL_law_980 ?_
  refine lw_i (B := bX) (B2 := bM) (σ2 := σM) (kV (As := [.int (xs (x3 + 1).toNatClampNeg)]) (rest := []) (o := some 0) rfl ⟨hx, hb, hml, hown, hts⟩ (c_X5_line l D cs adX 0 (xs (x3 + 1).toNatClampNeg) σX _ rfl) (cwV 1 hts gL_law_X5_line rfl rfl rfl (by decide +kernel) ⟨Nat.le_of_ble_eq_true rfl, Nat.le_of_ble_eq_true rfl⟩) hEX hPX rfl rfl (w_4 hEX rfl) h rfl hl.1 rfl (lv_room (Nat.le_of_ble_eq_true rfl)) dL_law_981 ⟨Nat.le_refl _, Nat.le_refl _⟩) hS hgX hap hPM (fun rX σX H locs h hPX hPM hS => ?_)
  refine lv_aload_n hx hb dL_law_984 rfl (lv_at hl 2 rfl) ?_
  refine lv_aload_n hx hb dL_law_985 rfl (lv_at hl 0 rfl) ?_
  refine lv_iload_n hx hb dL_law_986 rfl (lv_at hl 3 rfl) ?_
  refine lv_iconst (v := 1) hx hb dL_law_987 (by decide) ?_
  refine lv_iadd hx hb dL_law_988 ?_
  refine va_sld hx hb hXs hbl hbA hS hin1 dL_law_989 ?_
  refine lw_i (B := bM) (B2 := bX) (σ2 := σX) (kV (As := [.int (xs (x3 + 1).toNatClampNeg)]) (rest := [.int rX]) (o := some 0) rfl ⟨hx, hb, hml, hown, hts⟩ (c_X6_line l D cs adM 0 (xs (x3 + 1).toNatClampNeg) σM _ rfl) (cwV 1 hts gL_law_X6_line rfl rfl rfl (by decide +kernel) ⟨Nat.le_of_ble_eq_true rfl, Nat.le_of_ble_eq_true rfl⟩) hEM hPM rfl rfl (w_5 hEM rfl) h rfl hl.1 rfl (lv_room (Nat.le_of_ble_eq_true rfl)) dL_law_990 ⟨Nat.le_refl _, Nat.le_refl _⟩) hS hgM hap2 hPX (fun rM σM H locs h hPM hPX hS => ?_)
  obtain ⟨he, h⟩ := h
  refine lv_icmp_eq (tgt := 1402) hx hb dL_law_993 (by decide) (fun _ => ?_) (fun c1 => ?_)
  · exact kk σX σM H locs ls h hPX hPM hS hl
  · exact absurd he c1
set_option maxHeartbeats 4000000 in
set_option maxRecDepth 100000 in
theorem lc_26 {p : Program} {l : Launch} {e : Env} {s : State} {m : MethodId} {below : List Frame} {meth : Method} {c : Code} {D : va_G} {cs : Cs} {adX adM : Nat → Nat} {b L : Nat} {xs : Nat → Int32} (hx : p.tables.exec = Jvm.exec) (hb : c.code = code) (hml : c.maxLocals = 4) (hown : s.vm.findClass RL = some m.cls) (hts : ∀ w ∈ wsL_law, w.before #[Value.ref b] s = true) (hXs : va_X b L xs s s.heap) (hbl : b < s.heap.size) (hEX : Ev bX D cs adX s) (hEM : Ev bM D cs adM s) (hgX : ∀ k, k < 85 → s.heap.size ≤ adX k) (hgM : ∀ k, k < 29 → s.heap.size ≤ adM k) (hap : apt adX adM) {Q : State → Prop} {x3 : Int32} (hin1 : vp_in (x3 + 1) L) (hin2 : vp_in (x3 + 2) L) (hin3 : vp_in (x3 + 3) L) (hin4 : vp_in (x3 + 4) L) (hin5 : vp_in (x3 + 5) L) (K : Sg → Sg → Prop) (σX σM : Sg) (H : Heap) (locs : List Loc) (ls : Array Slot) (h : lw_26 (xs (x3 + 1).toNatClampNeg) (xs (x3 + 2).toNatClampNeg) (xs (x3 + 3).toNatClampNeg) (xs (x3 + 4).toNatClampNeg) (xs (x3 + 5).toNatClampNeg) σX σM K) (hPX : va_P D vwCl (wl bX cs adX σX) H) (hPM : va_P D vwCl (wl bM cs adM σM) H) (hS : va_S (fNw s) s.heap H locs) (hl : lv_has ls 4 [(0, .ref b), (1, .ref (adX 0)), (2, .ref (adM 0)), (3, .int x3)]) (kk : ∀ (σX σM : Sg) (H : Heap) (locs : List Loc) (ls : Array Slot), K σX σM → va_P D vwCl (wl bX cs adX σX) H → va_P D vwCl (wl bM cs adM σM) H → va_S (fNw s) s.heap H locs → lv_has ls 4 [(0, .ref b), (1, .ref (adX 0)), (2, .ref (adM 0)), (3, .int x3)] → W p l e room_1 s m #[Value.ref b] below meth c H locs 600000 7302250 Q (F0 m 1402 ls [])) : W p l e room_1 s m #[Value.ref b] below meth c H locs 600000 7302250 Q (F0 m 998 ls []) := by
  have hbA : ¬ (fNw s) b := Nat.not_le.mpr hbl
  have hap2 : ∀ i j, i < bM.1 → j < bX.1 → adM i ≠ adX j := fun i j hi hj q => hap j i hj hi q.symm
  unfold lw_26 at h
  refine lv_aload_n hx hb dL_law_998 rfl (lv_at hl 1 rfl) ?_
  refine lv_aload_n hx hb dL_law_999 rfl (lv_at hl 0 rfl) ?_
  refine lv_iload_n hx hb dL_law_1000 rfl (lv_at hl 3 rfl) ?_
  refine lv_iconst (v := 1) hx hb dL_law_1001 (by decide) ?_
  refine lv_iadd hx hb dL_law_1002 ?_
  refine va_sld hx hb hXs hbl hbA hS hin1 dL_law_1003 ?_
  refine lv_aload_n hx hb dL_law_1004 rfl (lv_at hl 0 rfl) ?_
  refine lv_iload_n hx hb dL_law_1005 rfl (lv_at hl 3 rfl) ?_
  refine lv_iconst (v := 2) hx hb dL_law_1006 (by decide) ?_
  refine lv_iadd hx hb dL_law_1007 ?_
  refine va_sld hx hb hXs hbl hbA hS hin2 dL_law_1008 ?_
  refine lw_i (B := bX) (B2 := bM) (σ2 := σM) (kV (As := [.int (xs (x3 + 1).toNatClampNeg), .int (xs (x3 + 2).toNatClampNeg)]) (rest := []) (o := some 0) rfl ⟨hx, hb, hml, hown, hts⟩ (c_X5_kinds l D cs adX 0 (xs (x3 + 1).toNatClampNeg) (xs (x3 + 2).toNatClampNeg) σX _ rfl) (cwV 2 hts gL_law_X5_kinds rfl rfl rfl (by decide +kernel) ⟨Nat.le_of_ble_eq_true rfl, Nat.le_of_ble_eq_true rfl⟩) hEX hPX rfl rfl (w_4 hEX rfl) h rfl hl.1 rfl (lv_room (Nat.le_of_ble_eq_true rfl)) dL_law_1009 ⟨Nat.le_refl _, Nat.le_refl _⟩) hS hgX hap hPM (fun rX σX H locs h hPX hPM hS => ?_)
  refine lv_aload_n hx hb dL_law_1012 rfl (lv_at hl 2 rfl) ?_
  refine lv_aload_n hx hb dL_law_1013 rfl (lv_at hl 0 rfl) ?_
  refine lv_iload_n hx hb dL_law_1014 rfl (lv_at hl 3 rfl) ?_
  refine lv_iconst (v := 1) hx hb dL_law_1015 (by decide) ?_
  refine lv_iadd hx hb dL_law_1016 ?_
  refine va_sld hx hb hXs hbl hbA hS hin1 dL_law_1017 ?_
  refine lv_aload_n hx hb dL_law_1018 rfl (lv_at hl 0 rfl) ?_
  refine lv_iload_n hx hb dL_law_1019 rfl (lv_at hl 3 rfl) ?_
  refine lv_iconst (v := 2) hx hb dL_law_1020 (by decide) ?_
  refine lv_iadd hx hb dL_law_1021 ?_
  refine va_sld hx hb hXs hbl hbA hS hin2 dL_law_1022 ?_
  refine lw_i (B := bM) (B2 := bX) (σ2 := σX) (kV (As := [.int (xs (x3 + 1).toNatClampNeg), .int (xs (x3 + 2).toNatClampNeg)]) (rest := [.int rX]) (o := some 0) rfl ⟨hx, hb, hml, hown, hts⟩ (c_X6_kinds l D cs adM 0 (xs (x3 + 1).toNatClampNeg) (xs (x3 + 2).toNatClampNeg) σM _ rfl) (cwV 2 hts gL_law_X6_kinds rfl rfl rfl (by decide +kernel) ⟨Nat.le_of_ble_eq_true rfl, Nat.le_of_ble_eq_true rfl⟩) hEM hPM rfl rfl (w_5 hEM rfl) h rfl hl.1 rfl (lv_room (Nat.le_of_ble_eq_true rfl)) dL_law_1023 ⟨Nat.le_refl _, Nat.le_refl _⟩) hS hgM hap2 hPX (fun rM σM H locs h hPM hPX hS => ?_)
  obtain ⟨he, h⟩ := h
  refine lv_icmp_eq (tgt := 1402) hx hb dL_law_1026 (by decide) (fun _ => ?_) (fun c1 => ?_)
  · exact kk σX σM H locs ls h hPX hPM hS hl
  · exact absurd he c1
set_option maxHeartbeats 4000000 in
set_option maxRecDepth 100000 in
theorem lc_27 {p : Program} {l : Launch} {e : Env} {s : State} {m : MethodId} {below : List Frame} {meth : Method} {c : Code} {D : va_G} {cs : Cs} {adX adM : Nat → Nat} {b L : Nat} {xs : Nat → Int32} (hx : p.tables.exec = Jvm.exec) (hb : c.code = code) (hml : c.maxLocals = 4) (hown : s.vm.findClass RL = some m.cls) (hts : ∀ w ∈ wsL_law, w.before #[Value.ref b] s = true) (hXs : va_X b L xs s s.heap) (hbl : b < s.heap.size) (hEX : Ev bX D cs adX s) (hEM : Ev bM D cs adM s) (hgX : ∀ k, k < 85 → s.heap.size ≤ adX k) (hgM : ∀ k, k < 29 → s.heap.size ≤ adM k) (hap : apt adX adM) {Q : State → Prop} {x3 : Int32} (hin1 : vp_in (x3 + 1) L) (hin2 : vp_in (x3 + 2) L) (hin3 : vp_in (x3 + 3) L) (hin4 : vp_in (x3 + 4) L) (hin5 : vp_in (x3 + 5) L) (K : Sg → Sg → Prop) (σX σM : Sg) (H : Heap) (locs : List Loc) (ls : Array Slot) (h : lw_27 (xs (x3 + 1).toNatClampNeg) (xs (x3 + 2).toNatClampNeg) (xs (x3 + 3).toNatClampNeg) (xs (x3 + 4).toNatClampNeg) (xs (x3 + 5).toNatClampNeg) σX σM K) (hPX : va_P D vwCl (wl bX cs adX σX) H) (hPM : va_P D vwCl (wl bM cs adM σM) H) (hS : va_S (fNw s) s.heap H locs) (hl : lv_has ls 4 [(0, .ref b), (1, .ref (adX 0)), (2, .ref (adM 0)), (3, .int x3)]) (kk : ∀ (σX σM : Sg) (H : Heap) (locs : List Loc) (ls : Array Slot), K σX σM → va_P D vwCl (wl bX cs adX σX) H → va_P D vwCl (wl bM cs adM σM) H → va_S (fNw s) s.heap H locs → lv_has ls 4 [(0, .ref b), (1, .ref (adX 0)), (2, .ref (adM 0)), (3, .int x3)] → W p l e room_1 s m #[Value.ref b] below meth c H locs 600000 7302250 Q (F0 m 1402 ls [])) : W p l e room_1 s m #[Value.ref b] below meth c H locs 600000 7302250 Q (F0 m 1031 ls []) := by
  have hbA : ¬ (fNw s) b := Nat.not_le.mpr hbl
  have hap2 : ∀ i j, i < bM.1 → j < bX.1 → adM i ≠ adX j := fun i j hi hj q => hap j i hj hi q.symm
  unfold lw_27 at h
  refine lv_aload_n hx hb dL_law_1031 rfl (lv_at hl 1 rfl) ?_
  refine lv_aload_n hx hb dL_law_1032 rfl (lv_at hl 0 rfl) ?_
  refine lv_iload_n hx hb dL_law_1033 rfl (lv_at hl 3 rfl) ?_
  refine lv_iconst (v := 1) hx hb dL_law_1034 (by decide) ?_
  refine lv_iadd hx hb dL_law_1035 ?_
  refine va_sld hx hb hXs hbl hbA hS hin1 dL_law_1036 ?_
  refine lv_aload_n hx hb dL_law_1037 rfl (lv_at hl 0 rfl) ?_
  refine lv_iload_n hx hb dL_law_1038 rfl (lv_at hl 3 rfl) ?_
  refine lv_iconst (v := 2) hx hb dL_law_1039 (by decide) ?_
  refine lv_iadd hx hb dL_law_1040 ?_
  refine va_sld hx hb hXs hbl hbA hS hin2 dL_law_1041 ?_
  refine lw_i (B := bX) (B2 := bM) (σ2 := σM) (kV (As := [.int (xs (x3 + 1).toNatClampNeg), .int (xs (x3 + 2).toNatClampNeg)]) (rest := []) (o := some 0) rfl ⟨hx, hb, hml, hown, hts⟩ (c_X5_test l D cs adX 0 (xs (x3 + 1).toNatClampNeg) (xs (x3 + 2).toNatClampNeg) σX _ rfl) (cwV 2 hts gL_law_X5_test rfl rfl rfl (by decide +kernel) ⟨Nat.le_of_ble_eq_true rfl, Nat.le_of_ble_eq_true rfl⟩) hEX hPX rfl rfl (w_4 hEX rfl) h rfl hl.1 rfl (lv_room (Nat.le_of_ble_eq_true rfl)) dL_law_1042 ⟨Nat.le_refl _, Nat.le_refl _⟩) hS hgX hap hPM (fun rX σX H locs h hPX hPM hS => ?_)
  refine lv_aload_n hx hb dL_law_1045 rfl (lv_at hl 2 rfl) ?_
  refine lv_aload_n hx hb dL_law_1046 rfl (lv_at hl 0 rfl) ?_
  refine lv_iload_n hx hb dL_law_1047 rfl (lv_at hl 3 rfl) ?_
  refine lv_iconst (v := 1) hx hb dL_law_1048 (by decide) ?_
  refine lv_iadd hx hb dL_law_1049 ?_
  refine va_sld hx hb hXs hbl hbA hS hin1 dL_law_1050 ?_
  refine lv_aload_n hx hb dL_law_1051 rfl (lv_at hl 0 rfl) ?_
  refine lv_iload_n hx hb dL_law_1052 rfl (lv_at hl 3 rfl) ?_
  refine lv_iconst (v := 2) hx hb dL_law_1053 (by decide) ?_
  refine lv_iadd hx hb dL_law_1054 ?_
  refine va_sld hx hb hXs hbl hbA hS hin2 dL_law_1055 ?_
  refine lw_i (B := bM) (B2 := bX) (σ2 := σX) (kV (As := [.int (xs (x3 + 1).toNatClampNeg), .int (xs (x3 + 2).toNatClampNeg)]) (rest := [.int rX]) (o := some 0) rfl ⟨hx, hb, hml, hown, hts⟩ (c_X6_test l D cs adM 0 (xs (x3 + 1).toNatClampNeg) (xs (x3 + 2).toNatClampNeg) σM _ rfl) (cwV 2 hts gL_law_X6_test rfl rfl rfl (by decide +kernel) ⟨Nat.le_of_ble_eq_true rfl, Nat.le_of_ble_eq_true rfl⟩) hEM hPM rfl rfl (w_5 hEM rfl) h rfl hl.1 rfl (lv_room (Nat.le_of_ble_eq_true rfl)) dL_law_1056 ⟨Nat.le_refl _, Nat.le_refl _⟩) hS hgM hap2 hPX (fun rM σM H locs h hPM hPX hS => ?_)
  obtain ⟨he, h⟩ := h
  refine lv_icmp_eq (tgt := 1402) hx hb dL_law_1059 (by decide) (fun _ => ?_) (fun c1 => ?_)
  · exact kk σX σM H locs ls h hPX hPM hS hl
  · exact absurd he c1
set_option maxHeartbeats 4000000 in
set_option maxRecDepth 100000 in
theorem lc_28 {p : Program} {l : Launch} {e : Env} {s : State} {m : MethodId} {below : List Frame} {meth : Method} {c : Code} {D : va_G} {cs : Cs} {adX adM : Nat → Nat} {b L : Nat} {xs : Nat → Int32} (hx : p.tables.exec = Jvm.exec) (hb : c.code = code) (hml : c.maxLocals = 4) (hown : s.vm.findClass RL = some m.cls) (hts : ∀ w ∈ wsL_law, w.before #[Value.ref b] s = true) (hXs : va_X b L xs s s.heap) (hbl : b < s.heap.size) (hEX : Ev bX D cs adX s) (hEM : Ev bM D cs adM s) (hgX : ∀ k, k < 85 → s.heap.size ≤ adX k) (hgM : ∀ k, k < 29 → s.heap.size ≤ adM k) (hap : apt adX adM) {Q : State → Prop} {x3 : Int32} (hin1 : vp_in (x3 + 1) L) (hin2 : vp_in (x3 + 2) L) (hin3 : vp_in (x3 + 3) L) (hin4 : vp_in (x3 + 4) L) (hin5 : vp_in (x3 + 5) L) (K : Sg → Sg → Prop) (σX σM : Sg) (H : Heap) (locs : List Loc) (ls : Array Slot) (h : lw_28 (xs (x3 + 1).toNatClampNeg) (xs (x3 + 2).toNatClampNeg) (xs (x3 + 3).toNatClampNeg) (xs (x3 + 4).toNatClampNeg) (xs (x3 + 5).toNatClampNeg) σX σM K) (hPX : va_P D vwCl (wl bX cs adX σX) H) (hPM : va_P D vwCl (wl bM cs adM σM) H) (hS : va_S (fNw s) s.heap H locs) (hl : lv_has ls 4 [(0, .ref b), (1, .ref (adX 0)), (2, .ref (adM 0)), (3, .int x3)]) (kk : ∀ (σX σM : Sg) (H : Heap) (locs : List Loc) (ls : Array Slot), K σX σM → va_P D vwCl (wl bX cs adX σX) H → va_P D vwCl (wl bM cs adM σM) H → va_S (fNw s) s.heap H locs → lv_has ls 4 [(0, .ref b), (1, .ref (adX 0)), (2, .ref (adM 0)), (3, .int x3)] → W p l e room_1 s m #[Value.ref b] below meth c H locs 600000 7302250 Q (F0 m 1402 ls [])) : W p l e room_1 s m #[Value.ref b] below meth c H locs 600000 7302250 Q (F0 m 1064 ls []) := by
  have hbA : ¬ (fNw s) b := Nat.not_le.mpr hbl
  have hap2 : ∀ i j, i < bM.1 → j < bX.1 → adM i ≠ adX j := fun i j hi hj q => hap j i hj hi q.symm
  unfold lw_28 at h
  refine lv_aload_n hx hb dL_law_1064 rfl (lv_at hl 1 rfl) ?_
  refine lv_aload_n hx hb dL_law_1065 rfl (lv_at hl 0 rfl) ?_
  refine lv_iload_n hx hb dL_law_1066 rfl (lv_at hl 3 rfl) ?_
  refine lv_iconst (v := 1) hx hb dL_law_1067 (by decide) ?_
  refine lv_iadd hx hb dL_law_1068 ?_
  refine va_sld hx hb hXs hbl hbA hS hin1 dL_law_1069 ?_
  refine lw_i (B := bX) (B2 := bM) (σ2 := σM) (kV (As := [.int (xs (x3 + 1).toNatClampNeg)]) (rest := []) (o := some 0) rfl ⟨hx, hb, hml, hown, hts⟩ (c_X5_whose l D cs adX 0 (xs (x3 + 1).toNatClampNeg) σX _ rfl) (cwV 1 hts gL_law_X5_whose rfl rfl rfl (by decide +kernel) ⟨Nat.le_of_ble_eq_true rfl, Nat.le_of_ble_eq_true rfl⟩) hEX hPX rfl rfl (w_4 hEX rfl) h rfl hl.1 rfl (lv_room (Nat.le_of_ble_eq_true rfl)) dL_law_1070 ⟨Nat.le_refl _, Nat.le_refl _⟩) hS hgX hap hPM (fun rX σX H locs h hPX hPM hS => ?_)
  refine lv_aload_n hx hb dL_law_1073 rfl (lv_at hl 2 rfl) ?_
  refine lv_aload_n hx hb dL_law_1074 rfl (lv_at hl 0 rfl) ?_
  refine lv_iload_n hx hb dL_law_1075 rfl (lv_at hl 3 rfl) ?_
  refine lv_iconst (v := 1) hx hb dL_law_1076 (by decide) ?_
  refine lv_iadd hx hb dL_law_1077 ?_
  refine va_sld hx hb hXs hbl hbA hS hin1 dL_law_1078 ?_
  refine lw_i (B := bM) (B2 := bX) (σ2 := σX) (kV (As := [.int (xs (x3 + 1).toNatClampNeg)]) (rest := [.int rX]) (o := some 0) rfl ⟨hx, hb, hml, hown, hts⟩ (c_X6_whose l D cs adM 0 (xs (x3 + 1).toNatClampNeg) σM _ rfl) (cwV 1 hts gL_law_X6_whose rfl rfl rfl (by decide +kernel) ⟨Nat.le_of_ble_eq_true rfl, Nat.le_of_ble_eq_true rfl⟩) hEM hPM rfl rfl (w_5 hEM rfl) h rfl hl.1 rfl (lv_room (Nat.le_of_ble_eq_true rfl)) dL_law_1079 ⟨Nat.le_refl _, Nat.le_refl _⟩) hS hgM hap2 hPX (fun rM σM H locs h hPM hPX hS => ?_)
  obtain ⟨he, h⟩ := h
  refine lv_icmp_eq (tgt := 1402) hx hb dL_law_1082 (by decide) (fun _ => ?_) (fun c1 => ?_)
  · exact kk σX σM H locs ls h hPX hPM hS hl
  · exact absurd he c1
set_option maxHeartbeats 4000000 in
set_option maxRecDepth 100000 in
theorem lc_29 {p : Program} {l : Launch} {e : Env} {s : State} {m : MethodId} {below : List Frame} {meth : Method} {c : Code} {D : va_G} {cs : Cs} {adX adM : Nat → Nat} {b L : Nat} {xs : Nat → Int32} (hx : p.tables.exec = Jvm.exec) (hb : c.code = code) (hml : c.maxLocals = 4) (hown : s.vm.findClass RL = some m.cls) (hts : ∀ w ∈ wsL_law, w.before #[Value.ref b] s = true) (hXs : va_X b L xs s s.heap) (hbl : b < s.heap.size) (hEX : Ev bX D cs adX s) (hEM : Ev bM D cs adM s) (hgX : ∀ k, k < 85 → s.heap.size ≤ adX k) (hgM : ∀ k, k < 29 → s.heap.size ≤ adM k) (hap : apt adX adM) {Q : State → Prop} {x3 : Int32} (hin1 : vp_in (x3 + 1) L) (hin2 : vp_in (x3 + 2) L) (hin3 : vp_in (x3 + 3) L) (hin4 : vp_in (x3 + 4) L) (hin5 : vp_in (x3 + 5) L) (K : Sg → Sg → Prop) (σX σM : Sg) (H : Heap) (locs : List Loc) (ls : Array Slot) (h : lw_29 (xs (x3 + 1).toNatClampNeg) (xs (x3 + 2).toNatClampNeg) (xs (x3 + 3).toNatClampNeg) (xs (x3 + 4).toNatClampNeg) (xs (x3 + 5).toNatClampNeg) σX σM K) (hPX : va_P D vwCl (wl bX cs adX σX) H) (hPM : va_P D vwCl (wl bM cs adM σM) H) (hS : va_S (fNw s) s.heap H locs) (hl : lv_has ls 4 [(0, .ref b), (1, .ref (adX 0)), (2, .ref (adM 0)), (3, .int x3)]) (kk : ∀ (σX σM : Sg) (H : Heap) (locs : List Loc) (ls : Array Slot), K σX σM → va_P D vwCl (wl bX cs adX σX) H → va_P D vwCl (wl bM cs adM σM) H → va_S (fNw s) s.heap H locs → lv_has ls 4 [(0, .ref b), (1, .ref (adX 0)), (2, .ref (adM 0)), (3, .int x3)] → W p l e room_1 s m #[Value.ref b] below meth c H locs 600000 7302250 Q (F0 m 1402 ls [])) : W p l e room_1 s m #[Value.ref b] below meth c H locs 600000 7302250 Q (F0 m 1087 ls []) := by
  have hbA : ¬ (fNw s) b := Nat.not_le.mpr hbl
  have hap2 : ∀ i j, i < bM.1 → j < bX.1 → adM i ≠ adX j := fun i j hi hj q => hap j i hj hi q.symm
  unfold lw_29 at h
  refine lv_aload_n hx hb dL_law_1087 rfl (lv_at hl 1 rfl) ?_
  refine lv_aload_n hx hb dL_law_1088 rfl (lv_at hl 0 rfl) ?_
  refine lv_iload_n hx hb dL_law_1089 rfl (lv_at hl 3 rfl) ?_
  refine lv_iconst (v := 1) hx hb dL_law_1090 (by decide) ?_
  refine lv_iadd hx hb dL_law_1091 ?_
  refine va_sld hx hb hXs hbl hbA hS hin1 dL_law_1092 ?_
  refine lv_aload_n hx hb dL_law_1093 rfl (lv_at hl 0 rfl) ?_
  refine lv_iload_n hx hb dL_law_1094 rfl (lv_at hl 3 rfl) ?_
  refine lv_iconst (v := 2) hx hb dL_law_1095 (by decide) ?_
  refine lv_iadd hx hb dL_law_1096 ?_
  refine va_sld hx hb hXs hbl hbA hS hin2 dL_law_1097 ?_
  refine lv_aload_n hx hb dL_law_1098 rfl (lv_at hl 0 rfl) ?_
  refine lv_iload_n hx hb dL_law_1099 rfl (lv_at hl 3 rfl) ?_
  refine lv_iconst (v := 3) hx hb dL_law_1100 (by decide) ?_
  refine lv_iadd hx hb dL_law_1101 ?_
  refine va_sld hx hb hXs hbl hbA hS hin3 dL_law_1102 ?_
  refine lw_i (B := bX) (B2 := bM) (σ2 := σM) (kV (As := [.int (xs (x3 + 1).toNatClampNeg), .int (xs (x3 + 2).toNatClampNeg), .int (xs (x3 + 3).toNatClampNeg)]) (rest := []) (o := some 0) rfl ⟨hx, hb, hml, hown, hts⟩ (c_X5_raise l D cs adX 0 (xs (x3 + 1).toNatClampNeg) (xs (x3 + 2).toNatClampNeg) (xs (x3 + 3).toNatClampNeg) σX _ rfl) (cwV 3 hts gL_law_X5_raise rfl rfl rfl (by decide +kernel) ⟨Nat.le_of_ble_eq_true rfl, Nat.le_of_ble_eq_true rfl⟩) hEX hPX rfl rfl (w_4 hEX rfl) h rfl hl.1 rfl (lv_room (Nat.le_of_ble_eq_true rfl)) dL_law_1103 ⟨Nat.le_refl _, Nat.le_refl _⟩) hS hgX hap hPM (fun rX σX H locs h hPX hPM hS => ?_)
  refine lv_aload_n hx hb dL_law_1106 rfl (lv_at hl 2 rfl) ?_
  refine lv_aload_n hx hb dL_law_1107 rfl (lv_at hl 0 rfl) ?_
  refine lv_iload_n hx hb dL_law_1108 rfl (lv_at hl 3 rfl) ?_
  refine lv_iconst (v := 1) hx hb dL_law_1109 (by decide) ?_
  refine lv_iadd hx hb dL_law_1110 ?_
  refine va_sld hx hb hXs hbl hbA hS hin1 dL_law_1111 ?_
  refine lv_aload_n hx hb dL_law_1112 rfl (lv_at hl 0 rfl) ?_
  refine lv_iload_n hx hb dL_law_1113 rfl (lv_at hl 3 rfl) ?_
  refine lv_iconst (v := 2) hx hb dL_law_1114 (by decide) ?_
  refine lv_iadd hx hb dL_law_1115 ?_
  refine va_sld hx hb hXs hbl hbA hS hin2 dL_law_1116 ?_
  refine lv_aload_n hx hb dL_law_1117 rfl (lv_at hl 0 rfl) ?_
  refine lv_iload_n hx hb dL_law_1118 rfl (lv_at hl 3 rfl) ?_
  refine lv_iconst (v := 3) hx hb dL_law_1119 (by decide) ?_
  refine lv_iadd hx hb dL_law_1120 ?_
  refine va_sld hx hb hXs hbl hbA hS hin3 dL_law_1121 ?_
  refine lw_i (B := bM) (B2 := bX) (σ2 := σX) (kV (As := [.int (xs (x3 + 1).toNatClampNeg), .int (xs (x3 + 2).toNatClampNeg), .int (xs (x3 + 3).toNatClampNeg)]) (rest := [.int rX]) (o := some 0) rfl ⟨hx, hb, hml, hown, hts⟩ (c_X6_raise l D cs adM 0 (xs (x3 + 1).toNatClampNeg) (xs (x3 + 2).toNatClampNeg) (xs (x3 + 3).toNatClampNeg) σM _ rfl) (cwV 3 hts gL_law_X6_raise rfl rfl rfl (by decide +kernel) ⟨Nat.le_of_ble_eq_true rfl, Nat.le_of_ble_eq_true rfl⟩) hEM hPM rfl rfl (w_5 hEM rfl) h rfl hl.1 rfl (lv_room (Nat.le_of_ble_eq_true rfl)) dL_law_1122 ⟨Nat.le_refl _, Nat.le_refl _⟩) hS hgM hap2 hPX (fun rM σM H locs h hPM hPX hS => ?_)
  obtain ⟨he, h⟩ := h
  refine lv_icmp_eq (tgt := 1402) hx hb dL_law_1125 (by decide) (fun _ => ?_) (fun c1 => ?_)
  · exact kk σX σM H locs ls h hPX hPM hS hl
  · exact absurd he c1
set_option maxHeartbeats 4000000 in
set_option maxRecDepth 100000 in
theorem lc_30 {p : Program} {l : Launch} {e : Env} {s : State} {m : MethodId} {below : List Frame} {meth : Method} {c : Code} {D : va_G} {cs : Cs} {adX adM : Nat → Nat} {b L : Nat} {xs : Nat → Int32} (hx : p.tables.exec = Jvm.exec) (hb : c.code = code) (hml : c.maxLocals = 4) (hown : s.vm.findClass RL = some m.cls) (hts : ∀ w ∈ wsL_law, w.before #[Value.ref b] s = true) (hXs : va_X b L xs s s.heap) (hbl : b < s.heap.size) (hEX : Ev bX D cs adX s) (hEM : Ev bM D cs adM s) (hgX : ∀ k, k < 85 → s.heap.size ≤ adX k) (hgM : ∀ k, k < 29 → s.heap.size ≤ adM k) (hap : apt adX adM) {Q : State → Prop} {x3 : Int32} (hin1 : vp_in (x3 + 1) L) (hin2 : vp_in (x3 + 2) L) (hin3 : vp_in (x3 + 3) L) (hin4 : vp_in (x3 + 4) L) (hin5 : vp_in (x3 + 5) L) (K : Sg → Sg → Prop) (σX σM : Sg) (H : Heap) (locs : List Loc) (ls : Array Slot) (h : lw_30 (xs (x3 + 1).toNatClampNeg) (xs (x3 + 2).toNatClampNeg) (xs (x3 + 3).toNatClampNeg) (xs (x3 + 4).toNatClampNeg) (xs (x3 + 5).toNatClampNeg) σX σM K) (hPX : va_P D vwCl (wl bX cs adX σX) H) (hPM : va_P D vwCl (wl bM cs adM σM) H) (hS : va_S (fNw s) s.heap H locs) (hl : lv_has ls 4 [(0, .ref b), (1, .ref (adX 0)), (2, .ref (adM 0)), (3, .int x3)]) (kk : ∀ (σX σM : Sg) (H : Heap) (locs : List Loc) (ls : Array Slot), K σX σM → va_P D vwCl (wl bX cs adX σX) H → va_P D vwCl (wl bM cs adM σM) H → va_S (fNw s) s.heap H locs → lv_has ls 4 [(0, .ref b), (1, .ref (adX 0)), (2, .ref (adM 0)), (3, .int x3)] → W p l e room_1 s m #[Value.ref b] below meth c H locs 600000 7302250 Q (F0 m 1402 ls [])) : W p l e room_1 s m #[Value.ref b] below meth c H locs 600000 7302250 Q (F0 m 1130 ls []) := by
  have hbA : ¬ (fNw s) b := Nat.not_le.mpr hbl
  have hap2 : ∀ i j, i < bM.1 → j < bX.1 → adM i ≠ adX j := fun i j hi hj q => hap j i hj hi q.symm
  unfold lw_30 at h
  refine lv_aload_n hx hb dL_law_1130 rfl (lv_at hl 1 rfl) ?_
  refine lw_i (B := bX) (B2 := bM) (σ2 := σM) (kV (As := []) (rest := []) (o := some 0) rfl ⟨hx, hb, hml, hown, hts⟩ (c_X5_dry l D cs adX 0  σX _ rfl) (cwV 0 hts gL_law_X5_dry rfl rfl rfl (by decide +kernel) ⟨Nat.le_of_ble_eq_true rfl, Nat.le_of_ble_eq_true rfl⟩) hEX hPX rfl rfl (w_4 hEX rfl) h rfl hl.1 rfl (lv_room (Nat.le_of_ble_eq_true rfl)) dL_law_1131 ⟨Nat.le_refl _, Nat.le_refl _⟩) hS hgX hap hPM (fun rX σX H locs h hPX hPM hS => ?_)
  refine lv_aload_n hx hb dL_law_1134 rfl (lv_at hl 2 rfl) ?_
  refine lw_i (B := bM) (B2 := bX) (σ2 := σX) (kV (As := []) (rest := [.int rX]) (o := some 0) rfl ⟨hx, hb, hml, hown, hts⟩ (c_X6_dry l D cs adM 0  σM _ rfl) (cwV 0 hts gL_law_X6_dry rfl rfl rfl (by decide +kernel) ⟨Nat.le_of_ble_eq_true rfl, Nat.le_of_ble_eq_true rfl⟩) hEM hPM rfl rfl (w_5 hEM rfl) h rfl hl.1 rfl (lv_room (Nat.le_of_ble_eq_true rfl)) dL_law_1135 ⟨Nat.le_refl _, Nat.le_refl _⟩) hS hgM hap2 hPX (fun rM σM H locs h hPM hPX hS => ?_)
  obtain ⟨he, h⟩ := h
  refine lv_icmp_eq (tgt := 1402) hx hb dL_law_1138 (by decide) (fun _ => ?_) (fun c1 => ?_)
  · exact kk σX σM H locs ls h hPX hPM hS hl
  · exact absurd he c1
set_option maxHeartbeats 4000000 in
set_option maxRecDepth 100000 in
theorem lc_31 {p : Program} {l : Launch} {e : Env} {s : State} {m : MethodId} {below : List Frame} {meth : Method} {c : Code} {D : va_G} {cs : Cs} {adX adM : Nat → Nat} {b L : Nat} {xs : Nat → Int32} (hx : p.tables.exec = Jvm.exec) (hb : c.code = code) (hml : c.maxLocals = 4) (hown : s.vm.findClass RL = some m.cls) (hts : ∀ w ∈ wsL_law, w.before #[Value.ref b] s = true) (hXs : va_X b L xs s s.heap) (hbl : b < s.heap.size) (hEX : Ev bX D cs adX s) (hEM : Ev bM D cs adM s) (hgX : ∀ k, k < 85 → s.heap.size ≤ adX k) (hgM : ∀ k, k < 29 → s.heap.size ≤ adM k) (hap : apt adX adM) {Q : State → Prop} {x3 : Int32} (hin1 : vp_in (x3 + 1) L) (hin2 : vp_in (x3 + 2) L) (hin3 : vp_in (x3 + 3) L) (hin4 : vp_in (x3 + 4) L) (hin5 : vp_in (x3 + 5) L) (K : Sg → Sg → Prop) (σX σM : Sg) (H : Heap) (locs : List Loc) (ls : Array Slot) (h : lw_31 (xs (x3 + 1).toNatClampNeg) (xs (x3 + 2).toNatClampNeg) (xs (x3 + 3).toNatClampNeg) (xs (x3 + 4).toNatClampNeg) (xs (x3 + 5).toNatClampNeg) σX σM K) (hPX : va_P D vwCl (wl bX cs adX σX) H) (hPM : va_P D vwCl (wl bM cs adM σM) H) (hS : va_S (fNw s) s.heap H locs) (hl : lv_has ls 4 [(0, .ref b), (1, .ref (adX 0)), (2, .ref (adM 0)), (3, .int x3)]) (kk : ∀ (σX σM : Sg) (H : Heap) (locs : List Loc) (ls : Array Slot), K σX σM → va_P D vwCl (wl bX cs adX σX) H → va_P D vwCl (wl bM cs adM σM) H → va_S (fNw s) s.heap H locs → lv_has ls 4 [(0, .ref b), (1, .ref (adX 0)), (2, .ref (adM 0)), (3, .int x3)] → W p l e room_1 s m #[Value.ref b] below meth c H locs 600000 7302250 Q (F0 m 1402 ls [])) : W p l e room_1 s m #[Value.ref b] below meth c H locs 600000 7302250 Q (F0 m 1143 ls []) := by
  have hbA : ¬ (fNw s) b := Nat.not_le.mpr hbl
  have hap2 : ∀ i j, i < bM.1 → j < bX.1 → adM i ≠ adX j := fun i j hi hj q => hap j i hj hi q.symm
  unfold lw_31 at h
  refine lv_aload_n hx hb dL_law_1143 rfl (lv_at hl 1 rfl) ?_
  refine lv_aload_n hx hb dL_law_1144 rfl (lv_at hl 0 rfl) ?_
  refine lv_iload_n hx hb dL_law_1145 rfl (lv_at hl 3 rfl) ?_
  refine lv_iconst (v := 1) hx hb dL_law_1146 (by decide) ?_
  refine lv_iadd hx hb dL_law_1147 ?_
  refine va_sld hx hb hXs hbl hbA hS hin1 dL_law_1148 ?_
  refine lv_aload_n hx hb dL_law_1149 rfl (lv_at hl 0 rfl) ?_
  refine lv_iload_n hx hb dL_law_1150 rfl (lv_at hl 3 rfl) ?_
  refine lv_iconst (v := 2) hx hb dL_law_1151 (by decide) ?_
  refine lv_iadd hx hb dL_law_1152 ?_
  refine va_sld hx hb hXs hbl hbA hS hin2 dL_law_1153 ?_
  refine lv_aload_n hx hb dL_law_1154 rfl (lv_at hl 0 rfl) ?_
  refine lv_iload_n hx hb dL_law_1155 rfl (lv_at hl 3 rfl) ?_
  refine lv_iconst (v := 3) hx hb dL_law_1156 (by decide) ?_
  refine lv_iadd hx hb dL_law_1157 ?_
  refine va_sld hx hb hXs hbl hbA hS hin3 dL_law_1158 ?_
  refine lw_i (B := bX) (B2 := bM) (σ2 := σM) (kV (As := [.int (xs (x3 + 1).toNatClampNeg), .int (xs (x3 + 2).toNatClampNeg), .int (xs (x3 + 3).toNatClampNeg)]) (rest := []) (o := some 0) rfl ⟨hx, hb, hml, hown, hts⟩ (c_X5_least l D cs adX 0 (xs (x3 + 1).toNatClampNeg) (xs (x3 + 2).toNatClampNeg) (xs (x3 + 3).toNatClampNeg) σX _ rfl) (cwV 3 hts gL_law_X5_least rfl rfl rfl (by decide +kernel) ⟨Nat.le_of_ble_eq_true rfl, Nat.le_of_ble_eq_true rfl⟩) hEX hPX rfl rfl (w_4 hEX rfl) h rfl hl.1 rfl (lv_room (Nat.le_of_ble_eq_true rfl)) dL_law_1159 ⟨Nat.le_refl _, Nat.le_refl _⟩) hS hgX hap hPM (fun rX σX H locs h hPX hPM hS => ?_)
  refine lv_aload_n hx hb dL_law_1162 rfl (lv_at hl 2 rfl) ?_
  refine lv_aload_n hx hb dL_law_1163 rfl (lv_at hl 0 rfl) ?_
  refine lv_iload_n hx hb dL_law_1164 rfl (lv_at hl 3 rfl) ?_
  refine lv_iconst (v := 1) hx hb dL_law_1165 (by decide) ?_
  refine lv_iadd hx hb dL_law_1166 ?_
  refine va_sld hx hb hXs hbl hbA hS hin1 dL_law_1167 ?_
  refine lv_aload_n hx hb dL_law_1168 rfl (lv_at hl 0 rfl) ?_
  refine lv_iload_n hx hb dL_law_1169 rfl (lv_at hl 3 rfl) ?_
  refine lv_iconst (v := 2) hx hb dL_law_1170 (by decide) ?_
  refine lv_iadd hx hb dL_law_1171 ?_
  refine va_sld hx hb hXs hbl hbA hS hin2 dL_law_1172 ?_
  refine lv_aload_n hx hb dL_law_1173 rfl (lv_at hl 0 rfl) ?_
  refine lv_iload_n hx hb dL_law_1174 rfl (lv_at hl 3 rfl) ?_
  refine lv_iconst (v := 3) hx hb dL_law_1175 (by decide) ?_
  refine lv_iadd hx hb dL_law_1176 ?_
  refine va_sld hx hb hXs hbl hbA hS hin3 dL_law_1177 ?_
  refine lw_i (B := bM) (B2 := bX) (σ2 := σX) (kV (As := [.int (xs (x3 + 1).toNatClampNeg), .int (xs (x3 + 2).toNatClampNeg), .int (xs (x3 + 3).toNatClampNeg)]) (rest := [.int rX]) (o := some 0) rfl ⟨hx, hb, hml, hown, hts⟩ (c_X6_least l D cs adM 0 (xs (x3 + 1).toNatClampNeg) (xs (x3 + 2).toNatClampNeg) (xs (x3 + 3).toNatClampNeg) σM _ rfl) (cwV 3 hts gL_law_X6_least rfl rfl rfl (by decide +kernel) ⟨Nat.le_of_ble_eq_true rfl, Nat.le_of_ble_eq_true rfl⟩) hEM hPM rfl rfl (w_5 hEM rfl) h rfl hl.1 rfl (lv_room (Nat.le_of_ble_eq_true rfl)) dL_law_1178 ⟨Nat.le_refl _, Nat.le_refl _⟩) hS hgM hap2 hPX (fun rM σM H locs h hPM hPX hS => ?_)
  obtain ⟨he, h⟩ := h
  refine lv_icmp_eq (tgt := 1402) hx hb dL_law_1181 (by decide) (fun _ => ?_) (fun c1 => ?_)
  · exact kk σX σM H locs ls h hPX hPM hS hl
  · exact absurd he c1
set_option maxHeartbeats 4000000 in
set_option maxRecDepth 100000 in
theorem lc_32 {p : Program} {l : Launch} {e : Env} {s : State} {m : MethodId} {below : List Frame} {meth : Method} {c : Code} {D : va_G} {cs : Cs} {adX adM : Nat → Nat} {b L : Nat} {xs : Nat → Int32} (hx : p.tables.exec = Jvm.exec) (hb : c.code = code) (hml : c.maxLocals = 4) (hown : s.vm.findClass RL = some m.cls) (hts : ∀ w ∈ wsL_law, w.before #[Value.ref b] s = true) (hXs : va_X b L xs s s.heap) (hbl : b < s.heap.size) (hEX : Ev bX D cs adX s) (hEM : Ev bM D cs adM s) (hgX : ∀ k, k < 85 → s.heap.size ≤ adX k) (hgM : ∀ k, k < 29 → s.heap.size ≤ adM k) (hap : apt adX adM) {Q : State → Prop} {x3 : Int32} (hin1 : vp_in (x3 + 1) L) (hin2 : vp_in (x3 + 2) L) (hin3 : vp_in (x3 + 3) L) (hin4 : vp_in (x3 + 4) L) (hin5 : vp_in (x3 + 5) L) (K : Sg → Sg → Prop) (σX σM : Sg) (H : Heap) (locs : List Loc) (ls : Array Slot) (h : lw_32 (xs (x3 + 1).toNatClampNeg) (xs (x3 + 2).toNatClampNeg) (xs (x3 + 3).toNatClampNeg) (xs (x3 + 4).toNatClampNeg) (xs (x3 + 5).toNatClampNeg) σX σM K) (hPX : va_P D vwCl (wl bX cs adX σX) H) (hPM : va_P D vwCl (wl bM cs adM σM) H) (hS : va_S (fNw s) s.heap H locs) (hl : lv_has ls 4 [(0, .ref b), (1, .ref (adX 0)), (2, .ref (adM 0)), (3, .int x3)]) (kk : ∀ (σX σM : Sg) (H : Heap) (locs : List Loc) (ls : Array Slot), K σX σM → va_P D vwCl (wl bX cs adX σX) H → va_P D vwCl (wl bM cs adM σM) H → va_S (fNw s) s.heap H locs → lv_has ls 4 [(0, .ref b), (1, .ref (adX 0)), (2, .ref (adM 0)), (3, .int x3)] → W p l e room_1 s m #[Value.ref b] below meth c H locs 600000 7302250 Q (F0 m 1402 ls [])) : W p l e room_1 s m #[Value.ref b] below meth c H locs 600000 7302250 Q (F0 m 1186 ls []) := by
  have hbA : ¬ (fNw s) b := Nat.not_le.mpr hbl
  have hap2 : ∀ i j, i < bM.1 → j < bX.1 → adM i ≠ adX j := fun i j hi hj q => hap j i hj hi q.symm
  unfold lw_32 at h
  refine lv_aload_n hx hb dL_law_1186 rfl (lv_at hl 1 rfl) ?_
  refine lv_aload_n hx hb dL_law_1187 rfl (lv_at hl 0 rfl) ?_
  refine lv_iload_n hx hb dL_law_1188 rfl (lv_at hl 3 rfl) ?_
  refine lv_iconst (v := 1) hx hb dL_law_1189 (by decide) ?_
  refine lv_iadd hx hb dL_law_1190 ?_
  refine va_sld hx hb hXs hbl hbA hS hin1 dL_law_1191 ?_
  refine lv_aload_n hx hb dL_law_1192 rfl (lv_at hl 0 rfl) ?_
  refine lv_iload_n hx hb dL_law_1193 rfl (lv_at hl 3 rfl) ?_
  refine lv_iconst (v := 2) hx hb dL_law_1194 (by decide) ?_
  refine lv_iadd hx hb dL_law_1195 ?_
  refine va_sld hx hb hXs hbl hbA hS hin2 dL_law_1196 ?_
  refine lw_i (B := bX) (B2 := bM) (σ2 := σM) (kV (As := [.int (xs (x3 + 1).toNatClampNeg), .int (xs (x3 + 2).toNatClampNeg)]) (rest := []) (o := some 0) rfl ⟨hx, hb, hml, hown, hts⟩ (c_X5_duel l D cs adX 0 (xs (x3 + 1).toNatClampNeg) (xs (x3 + 2).toNatClampNeg) σX _ rfl) (cwV 2 hts gL_law_X5_duel rfl rfl rfl (by decide +kernel) ⟨Nat.le_of_ble_eq_true rfl, Nat.le_of_ble_eq_true rfl⟩) hEX hPX rfl rfl (w_4 hEX rfl) h rfl hl.1 rfl (lv_room (Nat.le_of_ble_eq_true rfl)) dL_law_1197 ⟨Nat.le_refl _, Nat.le_refl _⟩) hS hgX hap hPM (fun rX σX H locs h hPX hPM hS => ?_)
  refine lv_aload_n hx hb dL_law_1200 rfl (lv_at hl 2 rfl) ?_
  refine lv_aload_n hx hb dL_law_1201 rfl (lv_at hl 0 rfl) ?_
  refine lv_iload_n hx hb dL_law_1202 rfl (lv_at hl 3 rfl) ?_
  refine lv_iconst (v := 1) hx hb dL_law_1203 (by decide) ?_
  refine lv_iadd hx hb dL_law_1204 ?_
  refine va_sld hx hb hXs hbl hbA hS hin1 dL_law_1205 ?_
  refine lv_aload_n hx hb dL_law_1206 rfl (lv_at hl 0 rfl) ?_
  refine lv_iload_n hx hb dL_law_1207 rfl (lv_at hl 3 rfl) ?_
  refine lv_iconst (v := 2) hx hb dL_law_1208 (by decide) ?_
  refine lv_iadd hx hb dL_law_1209 ?_
  refine va_sld hx hb hXs hbl hbA hS hin2 dL_law_1210 ?_
  refine lw_i (B := bM) (B2 := bX) (σ2 := σX) (kV (As := [.int (xs (x3 + 1).toNatClampNeg), .int (xs (x3 + 2).toNatClampNeg)]) (rest := [.int rX]) (o := some 0) rfl ⟨hx, hb, hml, hown, hts⟩ (c_X6_duel l D cs adM 0 (xs (x3 + 1).toNatClampNeg) (xs (x3 + 2).toNatClampNeg) σM _ rfl) (cwV 2 hts gL_law_X6_duel rfl rfl rfl (by decide +kernel) ⟨Nat.le_of_ble_eq_true rfl, Nat.le_of_ble_eq_true rfl⟩) hEM hPM rfl rfl (w_5 hEM rfl) h rfl hl.1 rfl (lv_room (Nat.le_of_ble_eq_true rfl)) dL_law_1211 ⟨Nat.le_refl _, Nat.le_refl _⟩) hS hgM hap2 hPX (fun rM σM H locs h hPM hPX hS => ?_)
  obtain ⟨he, h⟩ := h
  refine lv_icmp_eq (tgt := 1402) hx hb dL_law_1214 (by decide) (fun _ => ?_) (fun c1 => ?_)
  · exact kk σX σM H locs ls h hPX hPM hS hl
  · exact absurd he c1
set_option maxHeartbeats 4000000 in
set_option maxRecDepth 100000 in
theorem lc_33 {p : Program} {l : Launch} {e : Env} {s : State} {m : MethodId} {below : List Frame} {meth : Method} {c : Code} {D : va_G} {cs : Cs} {adX adM : Nat → Nat} {b L : Nat} {xs : Nat → Int32} (hx : p.tables.exec = Jvm.exec) (hb : c.code = code) (hml : c.maxLocals = 4) (hown : s.vm.findClass RL = some m.cls) (hts : ∀ w ∈ wsL_law, w.before #[Value.ref b] s = true) (hXs : va_X b L xs s s.heap) (hbl : b < s.heap.size) (hEX : Ev bX D cs adX s) (hEM : Ev bM D cs adM s) (hgX : ∀ k, k < 85 → s.heap.size ≤ adX k) (hgM : ∀ k, k < 29 → s.heap.size ≤ adM k) (hap : apt adX adM) {Q : State → Prop} {x3 : Int32} (hin1 : vp_in (x3 + 1) L) (hin2 : vp_in (x3 + 2) L) (hin3 : vp_in (x3 + 3) L) (hin4 : vp_in (x3 + 4) L) (hin5 : vp_in (x3 + 5) L) (K : Sg → Sg → Prop) (σX σM : Sg) (H : Heap) (locs : List Loc) (ls : Array Slot) (h : lw_33 (xs (x3 + 1).toNatClampNeg) (xs (x3 + 2).toNatClampNeg) (xs (x3 + 3).toNatClampNeg) (xs (x3 + 4).toNatClampNeg) (xs (x3 + 5).toNatClampNeg) σX σM K) (hPX : va_P D vwCl (wl bX cs adX σX) H) (hPM : va_P D vwCl (wl bM cs adM σM) H) (hS : va_S (fNw s) s.heap H locs) (hl : lv_has ls 4 [(0, .ref b), (1, .ref (adX 0)), (2, .ref (adM 0)), (3, .int x3)]) (kk : ∀ (σX σM : Sg) (H : Heap) (locs : List Loc) (ls : Array Slot), K σX σM → va_P D vwCl (wl bX cs adX σX) H → va_P D vwCl (wl bM cs adM σM) H → va_S (fNw s) s.heap H locs → lv_has ls 4 [(0, .ref b), (1, .ref (adX 0)), (2, .ref (adM 0)), (3, .int x3)] → W p l e room_1 s m #[Value.ref b] below meth c H locs 600000 7302250 Q (F0 m 1402 ls [])) : W p l e room_1 s m #[Value.ref b] below meth c H locs 600000 7302250 Q (F0 m 1219 ls []) := by
  have hbA : ¬ (fNw s) b := Nat.not_le.mpr hbl
  have hap2 : ∀ i j, i < bM.1 → j < bX.1 → adM i ≠ adX j := fun i j hi hj q => hap j i hj hi q.symm
  unfold lw_33 at h
  refine lv_aload_n hx hb dL_law_1219 rfl (lv_at hl 1 rfl) ?_
  refine lv_aload_n hx hb dL_law_1220 rfl (lv_at hl 0 rfl) ?_
  refine lv_iload_n hx hb dL_law_1221 rfl (lv_at hl 3 rfl) ?_
  refine lv_iconst (v := 1) hx hb dL_law_1222 (by decide) ?_
  refine lv_iadd hx hb dL_law_1223 ?_
  refine va_sld hx hb hXs hbl hbA hS hin1 dL_law_1224 ?_
  refine lw_i (B := bX) (B2 := bM) (σ2 := σM) (kV (As := [.int (xs (x3 + 1).toNatClampNeg)]) (rest := []) (o := some 0) rfl ⟨hx, hb, hml, hown, hts⟩ (c_X5_odds l D cs adX 0 (xs (x3 + 1).toNatClampNeg) σX _ rfl) (cwV 1 hts gL_law_X5_odds rfl rfl rfl (by decide +kernel) ⟨Nat.le_of_ble_eq_true rfl, Nat.le_of_ble_eq_true rfl⟩) hEX hPX rfl rfl (w_4 hEX rfl) h rfl hl.1 rfl (lv_room (Nat.le_of_ble_eq_true rfl)) dL_law_1225 ⟨Nat.le_refl _, Nat.le_refl _⟩) hS hgX hap hPM (fun rX σX H locs h hPX hPM hS => ?_)
  refine lv_aload_n hx hb dL_law_1228 rfl (lv_at hl 2 rfl) ?_
  refine lv_aload_n hx hb dL_law_1229 rfl (lv_at hl 0 rfl) ?_
  refine lv_iload_n hx hb dL_law_1230 rfl (lv_at hl 3 rfl) ?_
  refine lv_iconst (v := 1) hx hb dL_law_1231 (by decide) ?_
  refine lv_iadd hx hb dL_law_1232 ?_
  refine va_sld hx hb hXs hbl hbA hS hin1 dL_law_1233 ?_
  refine lw_i (B := bM) (B2 := bX) (σ2 := σX) (kV (As := [.int (xs (x3 + 1).toNatClampNeg)]) (rest := [.int rX]) (o := some 0) rfl ⟨hx, hb, hml, hown, hts⟩ (c_X6_odds l D cs adM 0 (xs (x3 + 1).toNatClampNeg) σM _ rfl) (cwV 1 hts gL_law_X6_odds rfl rfl rfl (by decide +kernel) ⟨Nat.le_of_ble_eq_true rfl, Nat.le_of_ble_eq_true rfl⟩) hEM hPM rfl rfl (w_5 hEM rfl) h rfl hl.1 rfl (lv_room (Nat.le_of_ble_eq_true rfl)) dL_law_1234 ⟨Nat.le_refl _, Nat.le_refl _⟩) hS hgM hap2 hPX (fun rM σM H locs h hPM hPX hS => ?_)
  obtain ⟨he, h⟩ := h
  refine lv_icmp_eq (tgt := 1402) hx hb dL_law_1237 (by decide) (fun _ => ?_) (fun c1 => ?_)
  · exact kk σX σM H locs ls h hPX hPM hS hl
  · exact absurd he c1
set_option maxHeartbeats 4000000 in
set_option maxRecDepth 100000 in
theorem lc_34 {p : Program} {l : Launch} {e : Env} {s : State} {m : MethodId} {below : List Frame} {meth : Method} {c : Code} {D : va_G} {cs : Cs} {adX adM : Nat → Nat} {b L : Nat} {xs : Nat → Int32} (hx : p.tables.exec = Jvm.exec) (hb : c.code = code) (hml : c.maxLocals = 4) (hown : s.vm.findClass RL = some m.cls) (hts : ∀ w ∈ wsL_law, w.before #[Value.ref b] s = true) (hXs : va_X b L xs s s.heap) (hbl : b < s.heap.size) (hEX : Ev bX D cs adX s) (hEM : Ev bM D cs adM s) (hgX : ∀ k, k < 85 → s.heap.size ≤ adX k) (hgM : ∀ k, k < 29 → s.heap.size ≤ adM k) (hap : apt adX adM) {Q : State → Prop} {x3 : Int32} (hin1 : vp_in (x3 + 1) L) (hin2 : vp_in (x3 + 2) L) (hin3 : vp_in (x3 + 3) L) (hin4 : vp_in (x3 + 4) L) (hin5 : vp_in (x3 + 5) L) (K : Sg → Sg → Prop) (σX σM : Sg) (H : Heap) (locs : List Loc) (ls : Array Slot) (h : lw_34 (xs (x3 + 1).toNatClampNeg) (xs (x3 + 2).toNatClampNeg) (xs (x3 + 3).toNatClampNeg) (xs (x3 + 4).toNatClampNeg) (xs (x3 + 5).toNatClampNeg) σX σM K) (hPX : va_P D vwCl (wl bX cs adX σX) H) (hPM : va_P D vwCl (wl bM cs adM σM) H) (hS : va_S (fNw s) s.heap H locs) (hl : lv_has ls 4 [(0, .ref b), (1, .ref (adX 0)), (2, .ref (adM 0)), (3, .int x3)]) (kk : ∀ (σX σM : Sg) (H : Heap) (locs : List Loc) (ls : Array Slot), K σX σM → va_P D vwCl (wl bX cs adX σX) H → va_P D vwCl (wl bM cs adM σM) H → va_S (fNw s) s.heap H locs → lv_has ls 4 [(0, .ref b), (1, .ref (adX 0)), (2, .ref (adM 0)), (3, .int x3)] → W p l e room_1 s m #[Value.ref b] below meth c H locs 600000 7302250 Q (F0 m 1402 ls [])) : W p l e room_1 s m #[Value.ref b] below meth c H locs 600000 7302250 Q (F0 m 1242 ls []) := by
  have hbA : ¬ (fNw s) b := Nat.not_le.mpr hbl
  have hap2 : ∀ i j, i < bM.1 → j < bX.1 → adM i ≠ adX j := fun i j hi hj q => hap j i hj hi q.symm
  unfold lw_34 at h
  refine lv_aload_n hx hb dL_law_1242 rfl (lv_at hl 1 rfl) ?_
  refine lw_i (B := bX) (B2 := bM) (σ2 := σM) (kV (As := []) (rest := []) (o := some 0) rfl ⟨hx, hb, hml, hown, hts⟩ (c_X5_mid l D cs adX 0  σX _ rfl) (cwV 0 hts gL_law_X5_mid rfl rfl rfl (by decide +kernel) ⟨Nat.le_of_ble_eq_true rfl, Nat.le_of_ble_eq_true rfl⟩) hEX hPX rfl rfl (w_4 hEX rfl) h rfl hl.1 rfl (lv_room (Nat.le_of_ble_eq_true rfl)) dL_law_1243 ⟨Nat.le_refl _, Nat.le_refl _⟩) hS hgX hap hPM (fun rX σX H locs h hPX hPM hS => ?_)
  refine lv_aload_n hx hb dL_law_1246 rfl (lv_at hl 2 rfl) ?_
  refine lw_i (B := bM) (B2 := bX) (σ2 := σX) (kV (As := []) (rest := [.int rX]) (o := some 0) rfl ⟨hx, hb, hml, hown, hts⟩ (c_X6_mid l D cs adM 0  σM _ rfl) (cwV 0 hts gL_law_X6_mid rfl rfl rfl (by decide +kernel) ⟨Nat.le_of_ble_eq_true rfl, Nat.le_of_ble_eq_true rfl⟩) hEM hPM rfl rfl (w_5 hEM rfl) h rfl hl.1 rfl (lv_room (Nat.le_of_ble_eq_true rfl)) dL_law_1247 ⟨Nat.le_refl _, Nat.le_refl _⟩) hS hgM hap2 hPX (fun rM σM H locs h hPM hPX hS => ?_)
  obtain ⟨he, h⟩ := h
  refine lv_icmp_eq (tgt := 1402) hx hb dL_law_1250 (by decide) (fun _ => ?_) (fun c1 => ?_)
  · exact kk σX σM H locs ls h hPX hPM hS hl
  · exact absurd he c1
set_option maxHeartbeats 4000000 in
set_option maxRecDepth 100000 in
theorem lc_35 {p : Program} {l : Launch} {e : Env} {s : State} {m : MethodId} {below : List Frame} {meth : Method} {c : Code} {D : va_G} {cs : Cs} {adX adM : Nat → Nat} {b L : Nat} {xs : Nat → Int32} (hx : p.tables.exec = Jvm.exec) (hb : c.code = code) (hml : c.maxLocals = 4) (hown : s.vm.findClass RL = some m.cls) (hts : ∀ w ∈ wsL_law, w.before #[Value.ref b] s = true) (hXs : va_X b L xs s s.heap) (hbl : b < s.heap.size) (hEX : Ev bX D cs adX s) (hEM : Ev bM D cs adM s) (hgX : ∀ k, k < 85 → s.heap.size ≤ adX k) (hgM : ∀ k, k < 29 → s.heap.size ≤ adM k) (hap : apt adX adM) {Q : State → Prop} {x3 : Int32} (hin1 : vp_in (x3 + 1) L) (hin2 : vp_in (x3 + 2) L) (hin3 : vp_in (x3 + 3) L) (hin4 : vp_in (x3 + 4) L) (hin5 : vp_in (x3 + 5) L) (K : Sg → Sg → Prop) (σX σM : Sg) (H : Heap) (locs : List Loc) (ls : Array Slot) (h : lw_35 (xs (x3 + 1).toNatClampNeg) (xs (x3 + 2).toNatClampNeg) (xs (x3 + 3).toNatClampNeg) (xs (x3 + 4).toNatClampNeg) (xs (x3 + 5).toNatClampNeg) σX σM K) (hPX : va_P D vwCl (wl bX cs adX σX) H) (hPM : va_P D vwCl (wl bM cs adM σM) H) (hS : va_S (fNw s) s.heap H locs) (hl : lv_has ls 4 [(0, .ref b), (1, .ref (adX 0)), (2, .ref (adM 0)), (3, .int x3)]) (kk : ∀ (σX σM : Sg) (H : Heap) (locs : List Loc) (ls : Array Slot), K σX σM → va_P D vwCl (wl bX cs adX σX) H → va_P D vwCl (wl bM cs adM σM) H → va_S (fNw s) s.heap H locs → lv_has ls 4 [(0, .ref b), (1, .ref (adX 0)), (2, .ref (adM 0)), (3, .int x3)] → W p l e room_1 s m #[Value.ref b] below meth c H locs 600000 7302250 Q (F0 m 1402 ls [])) : W p l e room_1 s m #[Value.ref b] below meth c H locs 600000 7302250 Q (F0 m 1255 ls []) := by
  have hbA : ¬ (fNw s) b := Nat.not_le.mpr hbl
  have hap2 : ∀ i j, i < bM.1 → j < bX.1 → adM i ≠ adX j := fun i j hi hj q => hap j i hj hi q.symm
  unfold lw_35 at h
  refine lv_aload_n hx hb dL_law_1255 rfl (lv_at hl 1 rfl) ?_
  refine lv_aload_n hx hb dL_law_1256 rfl (lv_at hl 0 rfl) ?_
  refine lv_iload_n hx hb dL_law_1257 rfl (lv_at hl 3 rfl) ?_
  refine lv_iconst (v := 1) hx hb dL_law_1258 (by decide) ?_
  refine lv_iadd hx hb dL_law_1259 ?_
  refine va_sld hx hb hXs hbl hbA hS hin1 dL_law_1260 ?_
  refine lv_aload_n hx hb dL_law_1261 rfl (lv_at hl 0 rfl) ?_
  refine lv_iload_n hx hb dL_law_1262 rfl (lv_at hl 3 rfl) ?_
  refine lv_iconst (v := 2) hx hb dL_law_1263 (by decide) ?_
  refine lv_iadd hx hb dL_law_1264 ?_
  refine va_sld hx hb hXs hbl hbA hS hin2 dL_law_1265 ?_
  refine lw_i (B := bX) (B2 := bM) (σ2 := σM) (kV (As := [.int (xs (x3 + 1).toNatClampNeg), .int (xs (x3 + 2).toNatClampNeg)]) (rest := []) (o := some 0) rfl ⟨hx, hb, hml, hown, hts⟩ (c_X5_lots l D cs adX 0 (xs (x3 + 1).toNatClampNeg) (xs (x3 + 2).toNatClampNeg) σX _ rfl) (cwV 2 hts gL_law_X5_lots rfl rfl rfl (by decide +kernel) ⟨Nat.le_of_ble_eq_true rfl, Nat.le_of_ble_eq_true rfl⟩) hEX hPX rfl rfl (w_4 hEX rfl) h rfl hl.1 rfl (lv_room (Nat.le_of_ble_eq_true rfl)) dL_law_1266 ⟨Nat.le_refl _, Nat.le_refl _⟩) hS hgX hap hPM (fun rX σX H locs h hPX hPM hS => ?_)
  refine lv_aload_n hx hb dL_law_1269 rfl (lv_at hl 2 rfl) ?_
  refine lv_aload_n hx hb dL_law_1270 rfl (lv_at hl 0 rfl) ?_
  refine lv_iload_n hx hb dL_law_1271 rfl (lv_at hl 3 rfl) ?_
  refine lv_iconst (v := 1) hx hb dL_law_1272 (by decide) ?_
  refine lv_iadd hx hb dL_law_1273 ?_
  refine va_sld hx hb hXs hbl hbA hS hin1 dL_law_1274 ?_
  refine lv_aload_n hx hb dL_law_1275 rfl (lv_at hl 0 rfl) ?_
  refine lv_iload_n hx hb dL_law_1276 rfl (lv_at hl 3 rfl) ?_
  refine lv_iconst (v := 2) hx hb dL_law_1277 (by decide) ?_
  refine lv_iadd hx hb dL_law_1278 ?_
  refine va_sld hx hb hXs hbl hbA hS hin2 dL_law_1279 ?_
  refine lw_i (B := bM) (B2 := bX) (σ2 := σX) (kV (As := [.int (xs (x3 + 1).toNatClampNeg), .int (xs (x3 + 2).toNatClampNeg)]) (rest := [.int rX]) (o := some 0) rfl ⟨hx, hb, hml, hown, hts⟩ (c_X6_lots l D cs adM 0 (xs (x3 + 1).toNatClampNeg) (xs (x3 + 2).toNatClampNeg) σM _ rfl) (cwV 2 hts gL_law_X6_lots rfl rfl rfl (by decide +kernel) ⟨Nat.le_of_ble_eq_true rfl, Nat.le_of_ble_eq_true rfl⟩) hEM hPM rfl rfl (w_5 hEM rfl) h rfl hl.1 rfl (lv_room (Nat.le_of_ble_eq_true rfl)) dL_law_1280 ⟨Nat.le_refl _, Nat.le_refl _⟩) hS hgM hap2 hPX (fun rM σM H locs h hPM hPX hS => ?_)
  obtain ⟨he, h⟩ := h
  refine lv_icmp_eq (tgt := 1402) hx hb dL_law_1283 (by decide) (fun _ => ?_) (fun c1 => ?_)
  · exact kk σX σM H locs ls h hPX hPM hS hl
  · exact absurd he c1
set_option maxHeartbeats 4000000 in
set_option maxRecDepth 100000 in
theorem lc_36 {p : Program} {l : Launch} {e : Env} {s : State} {m : MethodId} {below : List Frame} {meth : Method} {c : Code} {D : va_G} {cs : Cs} {adX adM : Nat → Nat} {b L : Nat} {xs : Nat → Int32} (hx : p.tables.exec = Jvm.exec) (hb : c.code = code) (hml : c.maxLocals = 4) (hown : s.vm.findClass RL = some m.cls) (hts : ∀ w ∈ wsL_law, w.before #[Value.ref b] s = true) (hXs : va_X b L xs s s.heap) (hbl : b < s.heap.size) (hEX : Ev bX D cs adX s) (hEM : Ev bM D cs adM s) (hgX : ∀ k, k < 85 → s.heap.size ≤ adX k) (hgM : ∀ k, k < 29 → s.heap.size ≤ adM k) (hap : apt adX adM) {Q : State → Prop} {x3 : Int32} (hin1 : vp_in (x3 + 1) L) (hin2 : vp_in (x3 + 2) L) (hin3 : vp_in (x3 + 3) L) (hin4 : vp_in (x3 + 4) L) (hin5 : vp_in (x3 + 5) L) (K : Sg → Sg → Prop) (σX σM : Sg) (H : Heap) (locs : List Loc) (ls : Array Slot) (h : lw_36 (xs (x3 + 1).toNatClampNeg) (xs (x3 + 2).toNatClampNeg) (xs (x3 + 3).toNatClampNeg) (xs (x3 + 4).toNatClampNeg) (xs (x3 + 5).toNatClampNeg) σX σM K) (hPX : va_P D vwCl (wl bX cs adX σX) H) (hPM : va_P D vwCl (wl bM cs adM σM) H) (hS : va_S (fNw s) s.heap H locs) (hl : lv_has ls 4 [(0, .ref b), (1, .ref (adX 0)), (2, .ref (adM 0)), (3, .int x3)]) (kk : ∀ (σX σM : Sg) (H : Heap) (locs : List Loc) (ls : Array Slot), K σX σM → va_P D vwCl (wl bX cs adX σX) H → va_P D vwCl (wl bM cs adM σM) H → va_S (fNw s) s.heap H locs → lv_has ls 4 [(0, .ref b), (1, .ref (adX 0)), (2, .ref (adM 0)), (3, .int x3)] → W p l e room_1 s m #[Value.ref b] below meth c H locs 600000 7302250 Q (F0 m 1402 ls [])) : W p l e room_1 s m #[Value.ref b] below meth c H locs 600000 7302250 Q (F0 m 1288 ls []) := by
  have hbA : ¬ (fNw s) b := Nat.not_le.mpr hbl
  have hap2 : ∀ i j, i < bM.1 → j < bX.1 → adM i ≠ adX j := fun i j hi hj q => hap j i hj hi q.symm
  unfold lw_36 at h
  refine lv_aload_n hx hb dL_law_1288 rfl (lv_at hl 1 rfl) ?_
  refine lw_i (B := bX) (B2 := bM) (σ2 := σM) (kV (As := []) (rest := []) (o := some 0) rfl ⟨hx, hb, hml, hown, hts⟩ (c_X5_asked l D cs adX 0  σX _ rfl) (cwV 0 hts gL_law_X5_asked rfl rfl rfl (by decide +kernel) ⟨Nat.le_of_ble_eq_true rfl, Nat.le_of_ble_eq_true rfl⟩) hEX hPX rfl rfl (w_4 hEX rfl) h rfl hl.1 rfl (lv_room (Nat.le_of_ble_eq_true rfl)) dL_law_1289 ⟨Nat.le_refl _, Nat.le_refl _⟩) hS hgX hap hPM (fun rX σX H locs h hPX hPM hS => ?_)
  refine lv_aload_n hx hb dL_law_1292 rfl (lv_at hl 2 rfl) ?_
  refine lw_i (B := bM) (B2 := bX) (σ2 := σX) (kV (As := []) (rest := [.int rX]) (o := some 0) rfl ⟨hx, hb, hml, hown, hts⟩ (c_X6_asked l D cs adM 0  σM _ rfl) (cwV 0 hts gL_law_X6_asked rfl rfl rfl (by decide +kernel) ⟨Nat.le_of_ble_eq_true rfl, Nat.le_of_ble_eq_true rfl⟩) hEM hPM rfl rfl (w_5 hEM rfl) h rfl hl.1 rfl (lv_room (Nat.le_of_ble_eq_true rfl)) dL_law_1293 ⟨Nat.le_refl _, Nat.le_refl _⟩) hS hgM hap2 hPX (fun rM σM H locs h hPM hPX hS => ?_)
  obtain ⟨he, h⟩ := h
  refine lv_icmp_eq (tgt := 1402) hx hb dL_law_1296 (by decide) (fun _ => ?_) (fun c1 => ?_)
  · exact kk σX σM H locs ls h hPX hPM hS hl
  · exact absurd he c1
set_option maxHeartbeats 4000000 in
set_option maxRecDepth 100000 in
theorem lc_37 {p : Program} {l : Launch} {e : Env} {s : State} {m : MethodId} {below : List Frame} {meth : Method} {c : Code} {D : va_G} {cs : Cs} {adX adM : Nat → Nat} {b L : Nat} {xs : Nat → Int32} (hx : p.tables.exec = Jvm.exec) (hb : c.code = code) (hml : c.maxLocals = 4) (hown : s.vm.findClass RL = some m.cls) (hts : ∀ w ∈ wsL_law, w.before #[Value.ref b] s = true) (hXs : va_X b L xs s s.heap) (hbl : b < s.heap.size) (hEX : Ev bX D cs adX s) (hEM : Ev bM D cs adM s) (hgX : ∀ k, k < 85 → s.heap.size ≤ adX k) (hgM : ∀ k, k < 29 → s.heap.size ≤ adM k) (hap : apt adX adM) {Q : State → Prop} {x3 : Int32} (hin1 : vp_in (x3 + 1) L) (hin2 : vp_in (x3 + 2) L) (hin3 : vp_in (x3 + 3) L) (hin4 : vp_in (x3 + 4) L) (hin5 : vp_in (x3 + 5) L) (K : Sg → Sg → Prop) (σX σM : Sg) (H : Heap) (locs : List Loc) (ls : Array Slot) (h : lw_37 (xs (x3 + 1).toNatClampNeg) (xs (x3 + 2).toNatClampNeg) (xs (x3 + 3).toNatClampNeg) (xs (x3 + 4).toNatClampNeg) (xs (x3 + 5).toNatClampNeg) σX σM K) (hPX : va_P D vwCl (wl bX cs adX σX) H) (hPM : va_P D vwCl (wl bM cs adM σM) H) (hS : va_S (fNw s) s.heap H locs) (hl : lv_has ls 4 [(0, .ref b), (1, .ref (adX 0)), (2, .ref (adM 0)), (3, .int x3)]) (kk : ∀ (σX σM : Sg) (H : Heap) (locs : List Loc) (ls : Array Slot), K σX σM → va_P D vwCl (wl bX cs adX σX) H → va_P D vwCl (wl bM cs adM σM) H → va_S (fNw s) s.heap H locs → lv_has ls 4 [(0, .ref b), (1, .ref (adX 0)), (2, .ref (adM 0)), (3, .int x3)] → W p l e room_1 s m #[Value.ref b] below meth c H locs 600000 7302250 Q (F0 m 1402 ls [])) : W p l e room_1 s m #[Value.ref b] below meth c H locs 600000 7302250 Q (F0 m 1301 ls []) := by
  have hbA : ¬ (fNw s) b := Nat.not_le.mpr hbl
  have hap2 : ∀ i j, i < bM.1 → j < bX.1 → adM i ≠ adX j := fun i j hi hj q => hap j i hj hi q.symm
  unfold lw_37 at h
  refine lv_aload_n hx hb dL_law_1301 rfl (lv_at hl 1 rfl) ?_
  refine lw_l (B := bX) (B2 := bM) (σ2 := σM) (kV (As := []) (rest := []) (o := some 0) rfl ⟨hx, hb, hml, hown, hts⟩ (c_X5_upper l D cs adX 0  σX _ rfl) (cwV 0 hts gL_law_X5_upper rfl rfl rfl (by decide +kernel) ⟨Nat.le_of_ble_eq_true rfl, Nat.le_of_ble_eq_true rfl⟩) hEX hPX rfl rfl (w_4 hEX rfl) h rfl hl.1 rfl (lv_room (Nat.le_of_ble_eq_true rfl)) dL_law_1302 ⟨Nat.le_refl _, Nat.le_refl _⟩) hS hgX hap hPM (fun rX σX H locs h hPX hPM hS => ?_)
  refine lv_aload_n hx hb dL_law_1305 rfl (lv_at hl 2 rfl) ?_
  refine lw_l (B := bM) (B2 := bX) (σ2 := σX) (kV (As := []) (rest := [.long rX]) (o := some 0) rfl ⟨hx, hb, hml, hown, hts⟩ (c_X6_upper l D cs adM 0  σM _ rfl) (cwV 0 hts gL_law_X6_upper rfl rfl rfl (by decide +kernel) ⟨Nat.le_of_ble_eq_true rfl, Nat.le_of_ble_eq_true rfl⟩) hEM hPM rfl rfl (w_5 hEM rfl) h rfl hl.1 rfl (lv_room (Nat.le_of_ble_eq_true rfl)) dL_law_1306 ⟨Nat.le_refl _, Nat.le_refl _⟩) hS hgM hap2 hPX (fun rM σM H locs h hPM hPX hS => ?_)
  refine W.lcmp hx hb dL_law_1309 ?_
  obtain ⟨he, h⟩ := h
  refine lv_if_eq (tgt := 1402) hx hb dL_law_1310 (by decide) (fun _ => ?_) (fun c1 => ?_)
  · exact kk σX σM H locs ls h hPX hPM hS hl
  · exact absurd (by rw [he]; exact lg_self _) c1
set_option maxHeartbeats 4000000 in
set_option maxRecDepth 100000 in
theorem lc_38 {p : Program} {l : Launch} {e : Env} {s : State} {m : MethodId} {below : List Frame} {meth : Method} {c : Code} {D : va_G} {cs : Cs} {adX adM : Nat → Nat} {b L : Nat} {xs : Nat → Int32} (hx : p.tables.exec = Jvm.exec) (hb : c.code = code) (hml : c.maxLocals = 4) (hown : s.vm.findClass RL = some m.cls) (hts : ∀ w ∈ wsL_law, w.before #[Value.ref b] s = true) (hXs : va_X b L xs s s.heap) (hbl : b < s.heap.size) (hEX : Ev bX D cs adX s) (hEM : Ev bM D cs adM s) (hgX : ∀ k, k < 85 → s.heap.size ≤ adX k) (hgM : ∀ k, k < 29 → s.heap.size ≤ adM k) (hap : apt adX adM) {Q : State → Prop} {x3 : Int32} (hin1 : vp_in (x3 + 1) L) (hin2 : vp_in (x3 + 2) L) (hin3 : vp_in (x3 + 3) L) (hin4 : vp_in (x3 + 4) L) (hin5 : vp_in (x3 + 5) L) (K : Sg → Sg → Prop) (σX σM : Sg) (H : Heap) (locs : List Loc) (ls : Array Slot) (h : lw_38 (xs (x3 + 1).toNatClampNeg) (xs (x3 + 2).toNatClampNeg) (xs (x3 + 3).toNatClampNeg) (xs (x3 + 4).toNatClampNeg) (xs (x3 + 5).toNatClampNeg) σX σM K) (hPX : va_P D vwCl (wl bX cs adX σX) H) (hPM : va_P D vwCl (wl bM cs adM σM) H) (hS : va_S (fNw s) s.heap H locs) (hl : lv_has ls 4 [(0, .ref b), (1, .ref (adX 0)), (2, .ref (adM 0)), (3, .int x3)]) (kk : ∀ (σX σM : Sg) (H : Heap) (locs : List Loc) (ls : Array Slot), K σX σM → va_P D vwCl (wl bX cs adX σX) H → va_P D vwCl (wl bM cs adM σM) H → va_S (fNw s) s.heap H locs → lv_has ls 4 [(0, .ref b), (1, .ref (adX 0)), (2, .ref (adM 0)), (3, .int x3)] → W p l e room_1 s m #[Value.ref b] below meth c H locs 600000 7302250 Q (F0 m 1402 ls [])) : W p l e room_1 s m #[Value.ref b] below meth c H locs 600000 7302250 Q (F0 m 1315 ls []) := by
  have hbA : ¬ (fNw s) b := Nat.not_le.mpr hbl
  have hap2 : ∀ i j, i < bM.1 → j < bX.1 → adM i ≠ adX j := fun i j hi hj q => hap j i hj hi q.symm
  unfold lw_38 at h
  refine lv_aload_n hx hb dL_law_1315 rfl (lv_at hl 1 rfl) ?_
  refine lw_l (B := bX) (B2 := bM) (σ2 := σM) (kV (As := []) (rest := []) (o := some 0) rfl ⟨hx, hb, hml, hown, hts⟩ (c_X5_lower l D cs adX 0  σX _ rfl) (cwV 0 hts gL_law_X5_lower rfl rfl rfl (by decide +kernel) ⟨Nat.le_of_ble_eq_true rfl, Nat.le_of_ble_eq_true rfl⟩) hEX hPX rfl rfl (w_4 hEX rfl) h rfl hl.1 rfl (lv_room (Nat.le_of_ble_eq_true rfl)) dL_law_1316 ⟨Nat.le_refl _, Nat.le_refl _⟩) hS hgX hap hPM (fun rX σX H locs h hPX hPM hS => ?_)
  refine lv_aload_n hx hb dL_law_1319 rfl (lv_at hl 2 rfl) ?_
  refine lw_l (B := bM) (B2 := bX) (σ2 := σX) (kV (As := []) (rest := [.long rX]) (o := some 0) rfl ⟨hx, hb, hml, hown, hts⟩ (c_X6_lower l D cs adM 0  σM _ rfl) (cwV 0 hts gL_law_X6_lower rfl rfl rfl (by decide +kernel) ⟨Nat.le_of_ble_eq_true rfl, Nat.le_of_ble_eq_true rfl⟩) hEM hPM rfl rfl (w_5 hEM rfl) h rfl hl.1 rfl (lv_room (Nat.le_of_ble_eq_true rfl)) dL_law_1320 ⟨Nat.le_refl _, Nat.le_refl _⟩) hS hgM hap2 hPX (fun rM σM H locs h hPM hPX hS => ?_)
  refine W.lcmp hx hb dL_law_1323 ?_
  obtain ⟨he, h⟩ := h
  refine lv_if_eq (tgt := 1402) hx hb dL_law_1324 (by decide) (fun _ => ?_) (fun c1 => ?_)
  · exact kk σX σM H locs ls h hPX hPM hS hl
  · exact absurd (by rw [he]; exact lg_self _) c1
set_option maxHeartbeats 4000000 in
set_option maxRecDepth 100000 in
theorem lc_39 {p : Program} {l : Launch} {e : Env} {s : State} {m : MethodId} {below : List Frame} {meth : Method} {c : Code} {D : va_G} {cs : Cs} {adX adM : Nat → Nat} {b L : Nat} {xs : Nat → Int32} (hx : p.tables.exec = Jvm.exec) (hb : c.code = code) (hml : c.maxLocals = 4) (hown : s.vm.findClass RL = some m.cls) (hts : ∀ w ∈ wsL_law, w.before #[Value.ref b] s = true) (hXs : va_X b L xs s s.heap) (hbl : b < s.heap.size) (hEX : Ev bX D cs adX s) (hEM : Ev bM D cs adM s) (hgX : ∀ k, k < 85 → s.heap.size ≤ adX k) (hgM : ∀ k, k < 29 → s.heap.size ≤ adM k) (hap : apt adX adM) {Q : State → Prop} {x3 : Int32} (hin1 : vp_in (x3 + 1) L) (hin2 : vp_in (x3 + 2) L) (hin3 : vp_in (x3 + 3) L) (hin4 : vp_in (x3 + 4) L) (hin5 : vp_in (x3 + 5) L) (K : Sg → Sg → Prop) (σX σM : Sg) (H : Heap) (locs : List Loc) (ls : Array Slot) (h : lw_39 (xs (x3 + 1).toNatClampNeg) (xs (x3 + 2).toNatClampNeg) (xs (x3 + 3).toNatClampNeg) (xs (x3 + 4).toNatClampNeg) (xs (x3 + 5).toNatClampNeg) σX σM K) (hPX : va_P D vwCl (wl bX cs adX σX) H) (hPM : va_P D vwCl (wl bM cs adM σM) H) (hS : va_S (fNw s) s.heap H locs) (hl : lv_has ls 4 [(0, .ref b), (1, .ref (adX 0)), (2, .ref (adM 0)), (3, .int x3)]) (kk : ∀ (σX σM : Sg) (H : Heap) (locs : List Loc) (ls : Array Slot), K σX σM → va_P D vwCl (wl bX cs adX σX) H → va_P D vwCl (wl bM cs adM σM) H → va_S (fNw s) s.heap H locs → lv_has ls 4 [(0, .ref b), (1, .ref (adX 0)), (2, .ref (adM 0)), (3, .int x3)] → W p l e room_1 s m #[Value.ref b] below meth c H locs 600000 7302250 Q (F0 m 1402 ls [])) : W p l e room_1 s m #[Value.ref b] below meth c H locs 600000 7302250 Q (F0 m 1329 ls []) := by
  have hbA : ¬ (fNw s) b := Nat.not_le.mpr hbl
  have hap2 : ∀ i j, i < bM.1 → j < bX.1 → adM i ≠ adX j := fun i j hi hj q => hap j i hj hi q.symm
  unfold lw_39 at h
  refine lv_aload_n hx hb dL_law_1329 rfl (lv_at hl 1 rfl) ?_
  refine lv_aload_n hx hb dL_law_1330 rfl (lv_at hl 0 rfl) ?_
  refine lv_iload_n hx hb dL_law_1331 rfl (lv_at hl 3 rfl) ?_
  refine lv_iconst (v := 1) hx hb dL_law_1332 (by decide) ?_
  refine lv_iadd hx hb dL_law_1333 ?_
  refine va_sld hx hb hXs hbl hbA hS hin1 dL_law_1334 ?_
  refine lw_i (B := bX) (B2 := bM) (σ2 := σM) (kV (As := [.int (xs (x3 + 1).toNatClampNeg)]) (rest := []) (o := some 0) rfl ⟨hx, hb, hml, hown, hts⟩ (c_X5_count l D cs adX 0 (xs (x3 + 1).toNatClampNeg) σX _ rfl) (cwV 1 hts gL_law_X5_count rfl rfl rfl (by decide +kernel) ⟨Nat.le_of_ble_eq_true rfl, Nat.le_of_ble_eq_true rfl⟩) hEX hPX rfl rfl (w_4 hEX rfl) h rfl hl.1 rfl (lv_room (Nat.le_of_ble_eq_true rfl)) dL_law_1335 ⟨Nat.le_refl _, Nat.le_refl _⟩) hS hgX hap hPM (fun rX σX H locs h hPX hPM hS => ?_)
  refine lv_aload_n hx hb dL_law_1338 rfl (lv_at hl 2 rfl) ?_
  refine lv_aload_n hx hb dL_law_1339 rfl (lv_at hl 0 rfl) ?_
  refine lv_iload_n hx hb dL_law_1340 rfl (lv_at hl 3 rfl) ?_
  refine lv_iconst (v := 1) hx hb dL_law_1341 (by decide) ?_
  refine lv_iadd hx hb dL_law_1342 ?_
  refine va_sld hx hb hXs hbl hbA hS hin1 dL_law_1343 ?_
  refine lw_i (B := bM) (B2 := bX) (σ2 := σX) (kV (As := [.int (xs (x3 + 1).toNatClampNeg)]) (rest := [.int rX]) (o := some 0) rfl ⟨hx, hb, hml, hown, hts⟩ (c_X6_count l D cs adM 0 (xs (x3 + 1).toNatClampNeg) σM _ rfl) (cwV 1 hts gL_law_X6_count rfl rfl rfl (by decide +kernel) ⟨Nat.le_of_ble_eq_true rfl, Nat.le_of_ble_eq_true rfl⟩) hEM hPM rfl rfl (w_5 hEM rfl) h rfl hl.1 rfl (lv_room (Nat.le_of_ble_eq_true rfl)) dL_law_1344 ⟨Nat.le_refl _, Nat.le_refl _⟩) hS hgM hap2 hPX (fun rM σM H locs h hPM hPX hS => ?_)
  obtain ⟨he, h⟩ := h
  refine lv_icmp_eq (tgt := 1402) hx hb dL_law_1347 (by decide) (fun _ => ?_) (fun c1 => ?_)
  · exact kk σX σM H locs ls h hPX hPM hS hl
  · exact absurd he c1
set_option maxHeartbeats 4000000 in
set_option maxRecDepth 100000 in
theorem lc_40 {p : Program} {l : Launch} {e : Env} {s : State} {m : MethodId} {below : List Frame} {meth : Method} {c : Code} {D : va_G} {cs : Cs} {adX adM : Nat → Nat} {b L : Nat} {xs : Nat → Int32} (hx : p.tables.exec = Jvm.exec) (hb : c.code = code) (hml : c.maxLocals = 4) (hown : s.vm.findClass RL = some m.cls) (hts : ∀ w ∈ wsL_law, w.before #[Value.ref b] s = true) (hXs : va_X b L xs s s.heap) (hbl : b < s.heap.size) (hEX : Ev bX D cs adX s) (hEM : Ev bM D cs adM s) (hgX : ∀ k, k < 85 → s.heap.size ≤ adX k) (hgM : ∀ k, k < 29 → s.heap.size ≤ adM k) (hap : apt adX adM) {Q : State → Prop} {x3 : Int32} (hin1 : vp_in (x3 + 1) L) (hin2 : vp_in (x3 + 2) L) (hin3 : vp_in (x3 + 3) L) (hin4 : vp_in (x3 + 4) L) (hin5 : vp_in (x3 + 5) L) (K : Sg → Sg → Prop) (σX σM : Sg) (H : Heap) (locs : List Loc) (ls : Array Slot) (h : lw_40 (xs (x3 + 1).toNatClampNeg) (xs (x3 + 2).toNatClampNeg) (xs (x3 + 3).toNatClampNeg) (xs (x3 + 4).toNatClampNeg) (xs (x3 + 5).toNatClampNeg) σX σM K) (hPX : va_P D vwCl (wl bX cs adX σX) H) (hPM : va_P D vwCl (wl bM cs adM σM) H) (hS : va_S (fNw s) s.heap H locs) (hl : lv_has ls 4 [(0, .ref b), (1, .ref (adX 0)), (2, .ref (adM 0)), (3, .int x3)]) (kk : ∀ (σX σM : Sg) (H : Heap) (locs : List Loc) (ls : Array Slot), K σX σM → va_P D vwCl (wl bX cs adX σX) H → va_P D vwCl (wl bM cs adM σM) H → va_S (fNw s) s.heap H locs → lv_has ls 4 [(0, .ref b), (1, .ref (adX 0)), (2, .ref (adM 0)), (3, .int x3)] → W p l e room_1 s m #[Value.ref b] below meth c H locs 600000 7302250 Q (F0 m 1402 ls [])) : W p l e room_1 s m #[Value.ref b] below meth c H locs 600000 7302250 Q (F0 m 1352 ls []) := by
  have hbA : ¬ (fNw s) b := Nat.not_le.mpr hbl
  have hap2 : ∀ i j, i < bM.1 → j < bX.1 → adM i ≠ adX j := fun i j hi hj q => hap j i hj hi q.symm
  unfold lw_40 at h
  refine lv_aload_n hx hb dL_law_1352 rfl (lv_at hl 1 rfl) ?_
  refine lw_i (B := bX) (B2 := bM) (σ2 := σM) (kV (As := []) (rest := []) (o := some 0) rfl ⟨hx, hb, hml, hown, hts⟩ (c_X5_finding l D cs adX 0  σX _ rfl) (cwV 0 hts gL_law_X5_finding rfl rfl rfl (by decide +kernel) ⟨Nat.le_of_ble_eq_true rfl, Nat.le_of_ble_eq_true rfl⟩) hEX hPX rfl rfl (w_4 hEX rfl) h rfl hl.1 rfl (lv_room (Nat.le_of_ble_eq_true rfl)) dL_law_1353 ⟨Nat.le_refl _, Nat.le_refl _⟩) hS hgX hap hPM (fun rX σX H locs h hPX hPM hS => ?_)
  refine lv_aload_n hx hb dL_law_1356 rfl (lv_at hl 2 rfl) ?_
  refine lw_i (B := bM) (B2 := bX) (σ2 := σX) (kV (As := []) (rest := [.int rX]) (o := some 0) rfl ⟨hx, hb, hml, hown, hts⟩ (c_X6_finding l D cs adM 0  σM _ rfl) (cwV 0 hts gL_law_X6_finding rfl rfl rfl (by decide +kernel) ⟨Nat.le_of_ble_eq_true rfl, Nat.le_of_ble_eq_true rfl⟩) hEM hPM rfl rfl (w_5 hEM rfl) h rfl hl.1 rfl (lv_room (Nat.le_of_ble_eq_true rfl)) dL_law_1357 ⟨Nat.le_refl _, Nat.le_refl _⟩) hS hgM hap2 hPX (fun rM σM H locs h hPM hPX hS => ?_)
  obtain ⟨he, h⟩ := h
  refine lv_icmp_eq (tgt := 1402) hx hb dL_law_1360 (by decide) (fun _ => ?_) (fun c1 => ?_)
  · exact kk σX σM H locs ls h hPX hPM hS hl
  · exact absurd he c1
set_option maxHeartbeats 4000000 in
set_option maxRecDepth 100000 in
theorem lc_41 {p : Program} {l : Launch} {e : Env} {s : State} {m : MethodId} {below : List Frame} {meth : Method} {c : Code} {D : va_G} {cs : Cs} {adX adM : Nat → Nat} {b L : Nat} {xs : Nat → Int32} (hx : p.tables.exec = Jvm.exec) (hb : c.code = code) (hml : c.maxLocals = 4) (hown : s.vm.findClass RL = some m.cls) (hts : ∀ w ∈ wsL_law, w.before #[Value.ref b] s = true) (hXs : va_X b L xs s s.heap) (hbl : b < s.heap.size) (hEX : Ev bX D cs adX s) (hEM : Ev bM D cs adM s) (hgX : ∀ k, k < 85 → s.heap.size ≤ adX k) (hgM : ∀ k, k < 29 → s.heap.size ≤ adM k) (hap : apt adX adM) {Q : State → Prop} {x3 : Int32} (hin1 : vp_in (x3 + 1) L) (hin2 : vp_in (x3 + 2) L) (hin3 : vp_in (x3 + 3) L) (hin4 : vp_in (x3 + 4) L) (hin5 : vp_in (x3 + 5) L) (K : Sg → Sg → Prop) (σX σM : Sg) (H : Heap) (locs : List Loc) (ls : Array Slot) (h : lw_41 (xs (x3 + 1).toNatClampNeg) (xs (x3 + 2).toNatClampNeg) (xs (x3 + 3).toNatClampNeg) (xs (x3 + 4).toNatClampNeg) (xs (x3 + 5).toNatClampNeg) σX σM K) (hPX : va_P D vwCl (wl bX cs adX σX) H) (hPM : va_P D vwCl (wl bM cs adM σM) H) (hS : va_S (fNw s) s.heap H locs) (hl : lv_has ls 4 [(0, .ref b), (1, .ref (adX 0)), (2, .ref (adM 0)), (3, .int x3)]) (kk : ∀ (σX σM : Sg) (H : Heap) (locs : List Loc) (ls : Array Slot), K σX σM → va_P D vwCl (wl bX cs adX σX) H → va_P D vwCl (wl bM cs adM σM) H → va_S (fNw s) s.heap H locs → lv_has ls 4 [(0, .ref b), (1, .ref (adX 0)), (2, .ref (adM 0)), (3, .int x3)] → W p l e room_1 s m #[Value.ref b] below meth c H locs 600000 7302250 Q (F0 m 1402 ls [])) : W p l e room_1 s m #[Value.ref b] below meth c H locs 600000 7302250 Q (F0 m 1365 ls []) := by
  have hbA : ¬ (fNw s) b := Nat.not_le.mpr hbl
  have hap2 : ∀ i j, i < bM.1 → j < bX.1 → adM i ≠ adX j := fun i j hi hj q => hap j i hj hi q.symm
  unfold lw_41 at h
  refine lv_aload_n hx hb dL_law_1365 rfl (lv_at hl 1 rfl) ?_
  refine lv_aload_n hx hb dL_law_1366 rfl (lv_at hl 0 rfl) ?_
  refine lv_iload_n hx hb dL_law_1367 rfl (lv_at hl 3 rfl) ?_
  refine lv_iconst (v := 1) hx hb dL_law_1368 (by decide) ?_
  refine lv_iadd hx hb dL_law_1369 ?_
  refine va_sld hx hb hXs hbl hbA hS hin1 dL_law_1370 ?_
  refine lw_i (B := bX) (B2 := bM) (σ2 := σM) (kV (As := [.int (xs (x3 + 1).toNatClampNeg)]) (rest := []) (o := some 0) rfl ⟨hx, hb, hml, hown, hts⟩ (c_X5_findings l D cs adX 0 (xs (x3 + 1).toNatClampNeg) σX _ rfl) (cwV 1 hts gL_law_X5_findings rfl rfl rfl (by decide +kernel) ⟨Nat.le_of_ble_eq_true rfl, Nat.le_of_ble_eq_true rfl⟩) hEX hPX rfl rfl (w_4 hEX rfl) h rfl hl.1 rfl (lv_room (Nat.le_of_ble_eq_true rfl)) dL_law_1371 ⟨Nat.le_refl _, Nat.le_refl _⟩) hS hgX hap hPM (fun rX σX H locs h hPX hPM hS => ?_)
  refine lv_aload_n hx hb dL_law_1374 rfl (lv_at hl 2 rfl) ?_
  refine lv_aload_n hx hb dL_law_1375 rfl (lv_at hl 0 rfl) ?_
  refine lv_iload_n hx hb dL_law_1376 rfl (lv_at hl 3 rfl) ?_
  refine lv_iconst (v := 1) hx hb dL_law_1377 (by decide) ?_
  refine lv_iadd hx hb dL_law_1378 ?_
  refine va_sld hx hb hXs hbl hbA hS hin1 dL_law_1379 ?_
  refine lw_i (B := bM) (B2 := bX) (σ2 := σX) (kV (As := [.int (xs (x3 + 1).toNatClampNeg)]) (rest := [.int rX]) (o := some 0) rfl ⟨hx, hb, hml, hown, hts⟩ (c_X6_findings l D cs adM 0 (xs (x3 + 1).toNatClampNeg) σM _ rfl) (cwV 1 hts gL_law_X6_findings rfl rfl rfl (by decide +kernel) ⟨Nat.le_of_ble_eq_true rfl, Nat.le_of_ble_eq_true rfl⟩) hEM hPM rfl rfl (w_5 hEM rfl) h rfl hl.1 rfl (lv_room (Nat.le_of_ble_eq_true rfl)) dL_law_1380 ⟨Nat.le_refl _, Nat.le_refl _⟩) hS hgM hap2 hPX (fun rM σM H locs h hPM hPX hS => ?_)
  obtain ⟨he, h⟩ := h
  refine lv_icmp_eq (tgt := 1402) hx hb dL_law_1383 (by decide) (fun _ => ?_) (fun c1 => ?_)
  · exact kk σX σM H locs ls h hPX hPM hS hl
  · exact absurd he c1
set_option maxHeartbeats 4000000 in
set_option maxRecDepth 100000 in
theorem lc_42 {p : Program} {l : Launch} {e : Env} {s : State} {m : MethodId} {below : List Frame} {meth : Method} {c : Code} {D : va_G} {cs : Cs} {adX adM : Nat → Nat} {b L : Nat} {xs : Nat → Int32} (hx : p.tables.exec = Jvm.exec) (hb : c.code = code) (hml : c.maxLocals = 4) (hown : s.vm.findClass RL = some m.cls) (hts : ∀ w ∈ wsL_law, w.before #[Value.ref b] s = true) (hXs : va_X b L xs s s.heap) (hbl : b < s.heap.size) (hEX : Ev bX D cs adX s) (hEM : Ev bM D cs adM s) (hgX : ∀ k, k < 85 → s.heap.size ≤ adX k) (hgM : ∀ k, k < 29 → s.heap.size ≤ adM k) (hap : apt adX adM) {Q : State → Prop} {x3 : Int32} (hin1 : vp_in (x3 + 1) L) (hin2 : vp_in (x3 + 2) L) (hin3 : vp_in (x3 + 3) L) (hin4 : vp_in (x3 + 4) L) (hin5 : vp_in (x3 + 5) L) (K : Sg → Sg → Prop) (σX σM : Sg) (H : Heap) (locs : List Loc) (ls : Array Slot) (h : lw_42 (xs (x3 + 1).toNatClampNeg) (xs (x3 + 2).toNatClampNeg) (xs (x3 + 3).toNatClampNeg) (xs (x3 + 4).toNatClampNeg) (xs (x3 + 5).toNatClampNeg) σX σM K) (hPX : va_P D vwCl (wl bX cs adX σX) H) (hPM : va_P D vwCl (wl bM cs adM σM) H) (hS : va_S (fNw s) s.heap H locs) (hl : lv_has ls 4 [(0, .ref b), (1, .ref (adX 0)), (2, .ref (adM 0)), (3, .int x3)]) (kk : ∀ (σX σM : Sg) (H : Heap) (locs : List Loc) (ls : Array Slot), K σX σM → va_P D vwCl (wl bX cs adX σX) H → va_P D vwCl (wl bM cs adM σM) H → va_S (fNw s) s.heap H locs → lv_has ls 4 [(0, .ref b), (1, .ref (adX 0)), (2, .ref (adM 0)), (3, .int x3)] → W p l e room_1 s m #[Value.ref b] below meth c H locs 600000 7302250 Q (F0 m 1402 ls [])) : W p l e room_1 s m #[Value.ref b] below meth c H locs 600000 7302250 Q (F0 m 1388 ls []) := by
  have hbA : ¬ (fNw s) b := Nat.not_le.mpr hbl
  have hap2 : ∀ i j, i < bM.1 → j < bX.1 → adM i ≠ adX j := fun i j hi hj q => hap j i hj hi q.symm
  unfold lw_42 at h
  refine lv_aload_n hx hb dL_law_1388 rfl (lv_at hl 1 rfl) ?_
  refine lw_l (B := bX) (B2 := bM) (σ2 := σM) (kV (As := []) (rest := []) (o := some 0) rfl ⟨hx, hb, hml, hown, hts⟩ (c_X5_digest l D cs adX 0  σX _ rfl) (cwV 0 hts gL_law_X5_digest rfl rfl rfl (by decide +kernel) ⟨Nat.le_of_ble_eq_true rfl, Nat.le_of_ble_eq_true rfl⟩) hEX hPX rfl rfl (w_4 hEX rfl) h rfl hl.1 rfl (lv_room (Nat.le_of_ble_eq_true rfl)) dL_law_1389 ⟨Nat.le_refl _, Nat.le_refl _⟩) hS hgX hap hPM (fun rX σX H locs h hPX hPM hS => ?_)
  refine lv_aload_n hx hb dL_law_1392 rfl (lv_at hl 2 rfl) ?_
  refine lw_l (B := bM) (B2 := bX) (σ2 := σX) (kV (As := []) (rest := [.long rX]) (o := some 0) rfl ⟨hx, hb, hml, hown, hts⟩ (c_X6_digest l D cs adM 0  σM _ rfl) (cwV 0 hts gL_law_X6_digest rfl rfl rfl (by decide +kernel) ⟨Nat.le_of_ble_eq_true rfl, Nat.le_of_ble_eq_true rfl⟩) hEM hPM rfl rfl (w_5 hEM rfl) h rfl hl.1 rfl (lv_room (Nat.le_of_ble_eq_true rfl)) dL_law_1393 ⟨Nat.le_refl _, Nat.le_refl _⟩) hS hgM hap2 hPX (fun rM σM H locs h hPM hPX hS => ?_)
  refine W.lcmp hx hb dL_law_1396 ?_
  obtain ⟨he, h⟩ := h
  refine lv_if_eq (tgt := 1402) hx hb dL_law_1397 (by decide) (fun _ => ?_) (fun c1 => ?_)
  · exact kk σX σM H locs ls h hPX hPM hS hl
  · exact absurd (by rw [he]; exact lg_self _) c1
