set_option maxHeartbeats 4000000 in
set_option maxRecDepth 100000 in
theorem law_loop {p : Program} {l : Launch} {e : Env} {s : State} {m : MethodId} {below : List Frame} {meth : Method} {c : Code} {D : va_G} {cs : Cs} {adX adM : Nat → Nat} {b L : Nat} {xs : Nat → Int32} (hL : L ≤ 3072) (hx : p.tables.exec = Jvm.exec) (hb : c.code = code) (hml : c.maxLocals = 4) (hown : s.vm.findClass RL = some m.cls) (hts : ∀ w ∈ wsL_law, w.before #[Value.ref b] s = true) (hXs : va_X b L xs s s.heap) (hbl : b < s.heap.size) (hEX : Ev bX D cs adX s) (hEM : Ev bM D cs adM s) (hgX : ∀ k, k < 85 → s.heap.size ≤ adX k) (hgM : ∀ k, k < 29 → s.heap.size ≤ adM k) (hap : apt adX adM) (hr : meth.sig.returnType = ret) (hlocks : meth.locks = false) (K : Sg → Sg → Prop) (hK : ∀ (v0 v1 v2 v3 v4 v5 : Int32) (σX σM : Sg), K σX σM → lwStep (v0 &&& 63) v1 v2 v3 v4 v5 σX σM K) : ∀ (n j : Nat) (x3 : Int32), j ≤ L → L < j + n → x3 = nI j → ∀ (σX σM : Sg) (H : Heap) (locs : List Loc) (ls : Array Slot), K σX σM → va_P D vwCl (wl bX cs adX σX) H → va_P D vwCl (wl bM cs adM σM) H → va_S (fNw s) s.heap H locs → lv_has ls 4 [(0, .ref b), (1, .ref (adX 0)), (2, .ref (adM 0)), (3, .int x3)] → W p l e room_1 s m #[Value.ref b] below meth c H locs 600000 7302250 (lw_Z below #[Value.ref b] s) (F0 m 18 ls []) := by
  intro n
  induction n with
  | zero =>
    intro j x3 h1 h2
    exact absurd h2 (by omega)
  | succ n ih =>
    intro j x3 h1 h2 ex σX σM H locs ls hk hPX hPM hS hl
    have hbA : ¬ (fNw s) b := Nat.not_le.mpr hbl
    refine lv_iload_n hx hb dL_law_18 rfl (lv_at hl 3 rfl) ?_
    refine lv_aload_n hx hb dL_law_19 rfl (lv_at hl 0 rfl) ?_
    refine va_slen hx hb hXs hbl hbA hS dL_law_20 ?_
    refine lv_bipush (v := 6) hx hb dL_law_21 (by decide) ?_
    refine lv_isub hx hb dL_law_23 ?_
    refine lv_icmp_gt (tgt := 1408) hx hb dL_law_24 (by decide) (fun c1 => ?_) (fun c1 => ?_)
    · refine lv_iconst (v := 1) hx hb dL_law_1408 (by decide) ?_
      refine va_forget (fun q hq => hS.2.2 q hq) ?_
      exact lw_ret hx hb hr hlocks dL_law_1409
    · have hj : j + 6 ≤ L := by
        rw [ex] at c1
        have e1 : (Int32.ofNat L - 6).toInt = (L : Int) - 6 := by
          have := pk_sub_toInt (a := L) (b := 6) (by omega) (by omega)
          exact this
        have e2 : (nI j).toInt = (j : Int) := nI_toInt (by omega)
        rw [Int32.lt_iff_toInt_lt, e1, e2] at c1
        omega
      have hin : ∀ k : Nat, k < 6 → vp_in (x3 + nI k) L := fun k hk => by
        rw [ex, nI_add]
        exact vp_in_nI (by omega) (by omega)
      have hin0 : vp_in x3 L := by rw [ex]; exact vp_in_nI (by omega) (by omega)
      have hin1 : vp_in (x3 + 1) L := hin 1 (by omega)
      have hin2 : vp_in (x3 + 2) L := hin 2 (by omega)
      have hin3 : vp_in (x3 + 3) L := hin 3 (by omega)
      have hin4 : vp_in (x3 + 4) L := hin 4 (by omega)
      have hin5 : vp_in (x3 + 5) L := hin 5 (by omega)
      have kk : ∀ (σX σM : Sg) (H : Heap) (locs : List Loc) (ls : Array Slot), K σX σM → va_P D vwCl (wl bX cs adX σX) H → va_P D vwCl (wl bM cs adM σM) H → va_S (fNw s) s.heap H locs → lv_has ls 4 [(0, .ref b), (1, .ref (adX 0)), (2, .ref (adM 0)), (3, .int x3)] → W p l e room_1 s m #[Value.ref b] below meth c H locs 600000 7302250 (lw_Z below #[Value.ref b] s) (F0 m 1402 ls []) := by
        intro σX σM H locs ls hk hPX hPM hS hl
        refine lv_iinc (v := x3 + 6) (lv' := [(3, .int (x3 + 6)), (0, .ref b), (1, .ref (adX 0)), (2, .ref (adM 0))]) hx hb dL_law_1402 hl (k := 3) rfl rfl (by decide) rfl (fun ls hl => ?_)
        refine lv_goto (tgt := 18) hx hb dL_law_1405 (by decide) ?_
        exact ih (j + 6) (x3 + 6) hj (by omega) (by rw [ex]; exact nI_add j 6) σX σM H locs ls hk hPX hPM hS (lv_sub hl [1, 2, 3, 0] rfl)
      refine lv_aload_n hx hb dL_law_27 rfl (lv_at hl 0 rfl) ?_
      refine lv_iload_n hx hb dL_law_28 rfl (lv_at hl 3 rfl) ?_
      refine va_sld hx hb hXs hbl hbA hS hin0 dL_law_29 ?_
      refine lv_bipush (v := 63) hx hb dL_law_30 (by decide) ?_
      refine lv_iand hx hb dL_law_32 ?_
      have h := hK (xs x3.toNatClampNeg) (xs (x3 + 1).toNatClampNeg) (xs (x3 + 2).toNatClampNeg) (xs (x3 + 3).toNatClampNeg) (xs (x3 + 4).toNatClampNeg) (xs (x3 + 5).toNatClampNeg) σX σM hk
      generalize hv0 : xs x3.toNatClampNeg &&& 63 = v0 at h ⊢
      unfold lwStep at h
      by_cases z0 : v0 = 0
      · replace h := h.1 z0
        refine lv_tableIn (off := 187) (tgt := 220) hx hb dL_law_33 (by rw [z0]; decide) (by rw [z0]; decide) (by rw [z0]; decide) (by decide) ?_
        exact lc_0 hx hb hml hown hts hXs hbl hEX hEM hgX hgM hap hin1 hin2 hin3 hin4 hin5 K σX σM H locs ls h hPX hPM hS hl kk
      replace h := h.2 z0
      by_cases z1 : v0 = 1
      · replace h := h.1 z1
        refine lv_tableIn (off := 220) (tgt := 253) hx hb dL_law_33 (by rw [z1]; decide) (by rw [z1]; decide) (by rw [z1]; decide) (by decide) ?_
        exact lc_1 hx hb hml hown hts hXs hbl hEX hEM hgX hgM hap hin1 hin2 hin3 hin4 hin5 K σX σM H locs ls h hPX hPM hS hl kk
      replace h := h.2 z1
      by_cases z2 : v0 = 2
      · replace h := h.1 z2
        refine lv_tableIn (off := 263) (tgt := 296) hx hb dL_law_33 (by rw [z2]; decide) (by rw [z2]; decide) (by rw [z2]; decide) (by decide) ?_
        exact lc_2 hx hb hml hown hts hXs hbl hEX hEM hgX hgM hap hin1 hin2 hin3 hin4 hin5 K σX σM H locs ls h hPX hPM hS hl kk
      replace h := h.2 z2
      by_cases z3 : v0 = 3
      · replace h := h.1 z3
        refine lv_tableIn (off := 296) (tgt := 329) hx hb dL_law_33 (by rw [z3]; decide) (by rw [z3]; decide) (by rw [z3]; decide) (by decide) ?_
        exact lc_3 hx hb hml hown hts hXs hbl hEX hEM hgX hgM hap hin1 hin2 hin3 hin4 hin5 K σX σM H locs ls h hPX hPM hS hl kk
      replace h := h.2 z3
      by_cases z4 : v0 = 4
      · replace h := h.1 z4
        refine lv_tableIn (off := 319) (tgt := 352) hx hb dL_law_33 (by rw [z4]; decide) (by rw [z4]; decide) (by rw [z4]; decide) (by decide) ?_
        exact lc_4 hx hb hml hown hts hXs hbl hEX hEM hgX hgM hap hin1 hin2 hin3 hin4 hin5 K σX σM H locs ls h hPX hPM hS hl kk
      replace h := h.2 z4
      by_cases z5 : v0 = 5
      · replace h := h.1 z5
        refine lv_tableIn (off := 382) (tgt := 415) hx hb dL_law_33 (by rw [z5]; decide) (by rw [z5]; decide) (by rw [z5]; decide) (by decide) ?_
        exact lc_5 hx hb hml hown hts hXs hbl hEX hEM hgX hgM hap hin1 hin2 hin3 hin4 hin5 K σX σM H locs ls h hPX hPM hS hl kk
      replace h := h.2 z5
      by_cases z6 : v0 = 6
      · replace h := h.1 z6
        refine lv_tableIn (off := 405) (tgt := 438) hx hb dL_law_33 (by rw [z6]; decide) (by rw [z6]; decide) (by rw [z6]; decide) (by decide) ?_
        exact lc_6 hx hb hml hown hts hXs hbl hEX hEM hgX hgM hap hin1 hin2 hin3 hin4 hin5 K σX σM H locs ls h hPX hPM hS hl kk
      replace h := h.2 z6
      by_cases z7 : v0 = 7
      · replace h := h.1 z7
        refine lv_tableIn (off := 438) (tgt := 471) hx hb dL_law_33 (by rw [z7]; decide) (by rw [z7]; decide) (by rw [z7]; decide) (by decide) ?_
        exact lc_7 hx hb hml hown hts hXs hbl hEX hEM hgX hgM hap hin1 hin2 hin3 hin4 hin5 K σX σM H locs ls h hPX hPM hS hl kk
      replace h := h.2 z7
      by_cases z8 : v0 = 8
      · replace h := h.1 z8
        refine lv_tableIn (off := 481) (tgt := 514) hx hb dL_law_33 (by rw [z8]; decide) (by rw [z8]; decide) (by rw [z8]; decide) (by decide) ?_
        exact lc_8 hx hb hml hown hts hXs hbl hEX hEM hgX hgM hap hin1 hin2 hin3 hin4 hin5 K σX σM H locs ls h hPX hPM hS hl kk
      replace h := h.2 z8
      by_cases z9 : v0 = 9
      · replace h := h.1 z9
        refine lv_tableIn (off := 504) (tgt := 537) hx hb dL_law_33 (by rw [z9]; decide) (by rw [z9]; decide) (by rw [z9]; decide) (by decide) ?_
        exact lc_9 hx hb hml hown hts hXs hbl hEX hEM hgX hgM hap hin1 hin2 hin3 hin4 hin5 K σX σM H locs ls h hPX hPM hS hl kk
      replace h := h.2 z9
      by_cases z10 : v0 = 10
      · replace h := h.1 z10
        refine lv_tableIn (off := 527) (tgt := 560) hx hb dL_law_33 (by rw [z10]; decide) (by rw [z10]; decide) (by rw [z10]; decide) (by decide) ?_
        exact lc_10 hx hb hml hown hts hXs hbl hEX hEM hgX hgM hap hin1 hin2 hin3 hin4 hin5 K σX σM H locs ls h hPX hPM hS hl kk
      replace h := h.2 z10
      by_cases z11 : v0 = 11
      · replace h := h.1 z11
        refine lv_tableIn (off := 560) (tgt := 593) hx hb dL_law_33 (by rw [z11]; decide) (by rw [z11]; decide) (by rw [z11]; decide) (by decide) ?_
        exact lc_11 hx hb hml hown hts hXs hbl hEX hEM hgX hgM hap hin1 hin2 hin3 hin4 hin5 K σX σM H locs ls h hPX hPM hS hl kk
      replace h := h.2 z11
      by_cases z12 : v0 = 12
      · replace h := h.1 z12
        refine lv_tableIn (off := 593) (tgt := 626) hx hb dL_law_33 (by rw [z12]; decide) (by rw [z12]; decide) (by rw [z12]; decide) (by decide) ?_
        exact lc_12 hx hb hml hown hts hXs hbl hEX hEM hgX hgM hap hin1 hin2 hin3 hin4 hin5 K σX σM H locs ls h hPX hPM hS hl kk
      replace h := h.2 z12
      by_cases z13 : v0 = 13
      · replace h := h.1 z13
        refine lv_tableIn (off := 626) (tgt := 659) hx hb dL_law_33 (by rw [z13]; decide) (by rw [z13]; decide) (by rw [z13]; decide) (by decide) ?_
        exact lc_13 hx hb hml hown hts hXs hbl hEX hEM hgX hgM hap hin1 hin2 hin3 hin4 hin5 K σX σM H locs ls h hPX hPM hS hl kk
      replace h := h.2 z13
      by_cases z14 : v0 = 14
      · replace h := h.1 z14
        refine lv_tableIn (off := 659) (tgt := 692) hx hb dL_law_33 (by rw [z14]; decide) (by rw [z14]; decide) (by rw [z14]; decide) (by decide) ?_
        exact lc_14 hx hb hml hown hts hXs hbl hEX hEM hgX hgM hap hin1 hin2 hin3 hin4 hin5 K σX σM H locs ls h hPX hPM hS hl kk
      replace h := h.2 z14
      by_cases z15 : v0 = 15
      · replace h := h.1 z15
        refine lv_tableIn (off := 682) (tgt := 715) hx hb dL_law_33 (by rw [z15]; decide) (by rw [z15]; decide) (by rw [z15]; decide) (by decide) ?_
        exact lc_15 hx hb hml hown hts hXs hbl hEX hEM hgX hgM hap hin1 hin2 hin3 hin4 hin5 K σX σM H locs ls h hPX hPM hS hl kk
      replace h := h.2 z15
      by_cases z16 : v0 = 16
      · replace h := h.1 z16
        refine lv_tableIn (off := 715) (tgt := 748) hx hb dL_law_33 (by rw [z16]; decide) (by rw [z16]; decide) (by rw [z16]; decide) (by decide) ?_
        exact lc_16 hx hb hml hown hts hXs hbl hEX hEM hgX hgM hap hin1 hin2 hin3 hin4 hin5 K σX σM H locs ls h hPX hPM hS hl kk
      replace h := h.2 z16
      by_cases z17 : v0 = 17
      · replace h := h.1 z17
        refine lv_tableIn (off := 738) (tgt := 771) hx hb dL_law_33 (by rw [z17]; decide) (by rw [z17]; decide) (by rw [z17]; decide) (by decide) ?_
        exact lc_17 hx hb hml hown hts hXs hbl hEX hEM hgX hgM hap hin1 hin2 hin3 hin4 hin5 K σX σM H locs ls h hPX hPM hS hl kk
      replace h := h.2 z17
      by_cases z18 : v0 = 18
      · replace h := h.1 z18
        refine lv_tableIn (off := 761) (tgt := 794) hx hb dL_law_33 (by rw [z18]; decide) (by rw [z18]; decide) (by rw [z18]; decide) (by decide) ?_
        exact lc_18 hx hb hml hown hts hXs hbl hEX hEM hgX hgM hap hin1 hin2 hin3 hin4 hin5 K σX σM H locs ls h hPX hPM hS hl kk
      replace h := h.2 z18
      by_cases z19 : v0 = 19
      · replace h := h.1 z19
        refine lv_tableIn (off := 784) (tgt := 817) hx hb dL_law_33 (by rw [z19]; decide) (by rw [z19]; decide) (by rw [z19]; decide) (by decide) ?_
        exact lc_19 hx hb hml hown hts hXs hbl hEX hEM hgX hgM hap hin1 hin2 hin3 hin4 hin5 K σX σM H locs ls h hPX hPM hS hl kk
      replace h := h.2 z19
      by_cases z20 : v0 = 20
      · replace h := h.1 z20
        refine lv_tableIn (off := 807) (tgt := 840) hx hb dL_law_33 (by rw [z20]; decide) (by rw [z20]; decide) (by rw [z20]; decide) (by decide) ?_
        exact lc_20 hx hb hml hown hts hXs hbl hEX hEM hgX hgM hap hin1 hin2 hin3 hin4 hin5 K σX σM H locs ls h hPX hPM hS hl kk
      replace h := h.2 z20
      by_cases z21 : v0 = 21
      · replace h := h.1 z21
        refine lv_tableIn (off := 830) (tgt := 863) hx hb dL_law_33 (by rw [z21]; decide) (by rw [z21]; decide) (by rw [z21]; decide) (by decide) ?_
        exact lc_21 hx hb hml hown hts hXs hbl hEX hEM hgX hgM hap hin1 hin2 hin3 hin4 hin5 K σX σM H locs ls h hPX hPM hS hl kk
      replace h := h.2 z21
      by_cases z22 : v0 = 22
      · replace h := h.1 z22
        refine lv_tableIn (off := 863) (tgt := 896) hx hb dL_law_33 (by rw [z22]; decide) (by rw [z22]; decide) (by rw [z22]; decide) (by decide) ?_
        exact lc_22 hx hb hml hown hts hXs hbl hEX hEM hgX hgM hap hin1 hin2 hin3 hin4 hin5 K σX σM H locs ls h hPX hPM hS hl kk
      replace h := h.2 z22
      by_cases z23 : v0 = 23
      · replace h := h.1 z23
        refine lv_tableIn (off := 886) (tgt := 919) hx hb dL_law_33 (by rw [z23]; decide) (by rw [z23]; decide) (by rw [z23]; decide) (by decide) ?_
        exact lc_23 hx hb hml hown hts hXs hbl hEX hEM hgX hgM hap hin1 hin2 hin3 hin4 hin5 K σX σM H locs ls h hPX hPM hS hl kk
      replace h := h.2 z23
      by_cases z24 : v0 = 24
      · replace h := h.1 z24
        refine lv_tableIn (off := 919) (tgt := 952) hx hb dL_law_33 (by rw [z24]; decide) (by rw [z24]; decide) (by rw [z24]; decide) (by decide) ?_
        exact lc_24 hx hb hml hown hts hXs hbl hEX hEM hgX hgM hap hin1 hin2 hin3 hin4 hin5 K σX σM H locs ls h hPX hPM hS hl kk
      replace h := h.2 z24
      by_cases z25 : v0 = 25
      · replace h := h.1 z25
        refine lv_tableIn (off := 942) (tgt := 975) hx hb dL_law_33 (by rw [z25]; decide) (by rw [z25]; decide) (by rw [z25]; decide) (by decide) ?_
        exact lc_25 hx hb hml hown hts hXs hbl hEX hEM hgX hgM hap hin1 hin2 hin3 hin4 hin5 K σX σM H locs ls h hPX hPM hS hl kk
      replace h := h.2 z25
      by_cases z26 : v0 = 26
      · replace h := h.1 z26
        refine lv_tableIn (off := 965) (tgt := 998) hx hb dL_law_33 (by rw [z26]; decide) (by rw [z26]; decide) (by rw [z26]; decide) (by decide) ?_
        exact lc_26 hx hb hml hown hts hXs hbl hEX hEM hgX hgM hap hin1 hin2 hin3 hin4 hin5 K σX σM H locs ls h hPX hPM hS hl kk
      replace h := h.2 z26
      by_cases z27 : v0 = 27
      · replace h := h.1 z27
        refine lv_tableIn (off := 998) (tgt := 1031) hx hb dL_law_33 (by rw [z27]; decide) (by rw [z27]; decide) (by rw [z27]; decide) (by decide) ?_
        exact lc_27 hx hb hml hown hts hXs hbl hEX hEM hgX hgM hap hin1 hin2 hin3 hin4 hin5 K σX σM H locs ls h hPX hPM hS hl kk
      replace h := h.2 z27
      by_cases z28 : v0 = 28
      · replace h := h.1 z28
        refine lv_tableIn (off := 1031) (tgt := 1064) hx hb dL_law_33 (by rw [z28]; decide) (by rw [z28]; decide) (by rw [z28]; decide) (by decide) ?_
        exact lc_28 hx hb hml hown hts hXs hbl hEX hEM hgX hgM hap hin1 hin2 hin3 hin4 hin5 K σX σM H locs ls h hPX hPM hS hl kk
      replace h := h.2 z28
      by_cases z29 : v0 = 29
      · replace h := h.1 z29
        refine lv_tableIn (off := 1054) (tgt := 1087) hx hb dL_law_33 (by rw [z29]; decide) (by rw [z29]; decide) (by rw [z29]; decide) (by decide) ?_
        exact lc_29 hx hb hml hown hts hXs hbl hEX hEM hgX hgM hap hin1 hin2 hin3 hin4 hin5 K σX σM H locs ls h hPX hPM hS hl kk
      replace h := h.2 z29
      by_cases z30 : v0 = 30
      · replace h := h.1 z30
        refine lv_tableIn (off := 1097) (tgt := 1130) hx hb dL_law_33 (by rw [z30]; decide) (by rw [z30]; decide) (by rw [z30]; decide) (by decide) ?_
        exact lc_30 hx hb hml hown hts hXs hbl hEX hEM hgX hgM hap hin1 hin2 hin3 hin4 hin5 K σX σM H locs ls h hPX hPM hS hl kk
      replace h := h.2 z30
      by_cases z31 : v0 = 31
      · replace h := h.1 z31
        refine lv_tableIn (off := 1110) (tgt := 1143) hx hb dL_law_33 (by rw [z31]; decide) (by rw [z31]; decide) (by rw [z31]; decide) (by decide) ?_
        exact lc_31 hx hb hml hown hts hXs hbl hEX hEM hgX hgM hap hin1 hin2 hin3 hin4 hin5 K σX σM H locs ls h hPX hPM hS hl kk
      replace h := h.2 z31
      by_cases z32 : v0 = 32
      · replace h := h.1 z32
        refine lv_tableIn (off := 1153) (tgt := 1186) hx hb dL_law_33 (by rw [z32]; decide) (by rw [z32]; decide) (by rw [z32]; decide) (by decide) ?_
        exact lc_32 hx hb hml hown hts hXs hbl hEX hEM hgX hgM hap hin1 hin2 hin3 hin4 hin5 K σX σM H locs ls h hPX hPM hS hl kk
      replace h := h.2 z32
      by_cases z33 : v0 = 33
      · replace h := h.1 z33
        refine lv_tableIn (off := 1186) (tgt := 1219) hx hb dL_law_33 (by rw [z33]; decide) (by rw [z33]; decide) (by rw [z33]; decide) (by decide) ?_
        exact lc_33 hx hb hml hown hts hXs hbl hEX hEM hgX hgM hap hin1 hin2 hin3 hin4 hin5 K σX σM H locs ls h hPX hPM hS hl kk
      replace h := h.2 z33
      by_cases z34 : v0 = 34
      · replace h := h.1 z34
        refine lv_tableIn (off := 1209) (tgt := 1242) hx hb dL_law_33 (by rw [z34]; decide) (by rw [z34]; decide) (by rw [z34]; decide) (by decide) ?_
        exact lc_34 hx hb hml hown hts hXs hbl hEX hEM hgX hgM hap hin1 hin2 hin3 hin4 hin5 K σX σM H locs ls h hPX hPM hS hl kk
      replace h := h.2 z34
      by_cases z35 : v0 = 35
      · replace h := h.1 z35
        refine lv_tableIn (off := 1222) (tgt := 1255) hx hb dL_law_33 (by rw [z35]; decide) (by rw [z35]; decide) (by rw [z35]; decide) (by decide) ?_
        exact lc_35 hx hb hml hown hts hXs hbl hEX hEM hgX hgM hap hin1 hin2 hin3 hin4 hin5 K σX σM H locs ls h hPX hPM hS hl kk
      replace h := h.2 z35
      by_cases z36 : v0 = 36
      · replace h := h.1 z36
        refine lv_tableIn (off := 1255) (tgt := 1288) hx hb dL_law_33 (by rw [z36]; decide) (by rw [z36]; decide) (by rw [z36]; decide) (by decide) ?_
        exact lc_36 hx hb hml hown hts hXs hbl hEX hEM hgX hgM hap hin1 hin2 hin3 hin4 hin5 K σX σM H locs ls h hPX hPM hS hl kk
      replace h := h.2 z36
      by_cases z37 : v0 = 37
      · replace h := h.1 z37
        refine lv_tableIn (off := 1268) (tgt := 1301) hx hb dL_law_33 (by rw [z37]; decide) (by rw [z37]; decide) (by rw [z37]; decide) (by decide) ?_
        exact lc_37 hx hb hml hown hts hXs hbl hEX hEM hgX hgM hap hin1 hin2 hin3 hin4 hin5 K σX σM H locs ls h hPX hPM hS hl kk
      replace h := h.2 z37
      by_cases z38 : v0 = 38
      · replace h := h.1 z38
        refine lv_tableIn (off := 1282) (tgt := 1315) hx hb dL_law_33 (by rw [z38]; decide) (by rw [z38]; decide) (by rw [z38]; decide) (by decide) ?_
        exact lc_38 hx hb hml hown hts hXs hbl hEX hEM hgX hgM hap hin1 hin2 hin3 hin4 hin5 K σX σM H locs ls h hPX hPM hS hl kk
      replace h := h.2 z38
      by_cases z39 : v0 = 39
      · replace h := h.1 z39
        refine lv_tableIn (off := 1296) (tgt := 1329) hx hb dL_law_33 (by rw [z39]; decide) (by rw [z39]; decide) (by rw [z39]; decide) (by decide) ?_
        exact lc_39 hx hb hml hown hts hXs hbl hEX hEM hgX hgM hap hin1 hin2 hin3 hin4 hin5 K σX σM H locs ls h hPX hPM hS hl kk
      replace h := h.2 z39
      by_cases z40 : v0 = 40
      · replace h := h.1 z40
        refine lv_tableIn (off := 1319) (tgt := 1352) hx hb dL_law_33 (by rw [z40]; decide) (by rw [z40]; decide) (by rw [z40]; decide) (by decide) ?_
        exact lc_40 hx hb hml hown hts hXs hbl hEX hEM hgX hgM hap hin1 hin2 hin3 hin4 hin5 K σX σM H locs ls h hPX hPM hS hl kk
      replace h := h.2 z40
      by_cases z41 : v0 = 41
      · replace h := h.1 z41
        refine lv_tableIn (off := 1332) (tgt := 1365) hx hb dL_law_33 (by rw [z41]; decide) (by rw [z41]; decide) (by rw [z41]; decide) (by decide) ?_
        exact lc_41 hx hb hml hown hts hXs hbl hEX hEM hgX hgM hap hin1 hin2 hin3 hin4 hin5 K σX σM H locs ls h hPX hPM hS hl kk
      replace h := h.2 z41
      by_cases z42 : v0 = 42
      · replace h := h.1 z42
        refine lv_tableIn (off := 1355) (tgt := 1388) hx hb dL_law_33 (by rw [z42]; decide) (by rw [z42]; decide) (by rw [z42]; decide) (by decide) ?_
        exact lc_42 hx hb hml hown hts hXs hbl hEX hEM hgX hgM hap hin1 hin2 hin3 hin4 hin5 K σX σM H locs ls h hPX hPM hS hl kk
      replace h := h.2 z42
      refine lv_tableOut (tgt := 1402) hx hb dL_law_33 (by have := ne_toInt (n := 0) z0 (by decide); have := ne_toInt (n := 1) z1 (by decide); have := ne_toInt (n := 2) z2 (by decide); have := ne_toInt (n := 3) z3 (by decide); have := ne_toInt (n := 4) z4 (by decide); have := ne_toInt (n := 5) z5 (by decide); have := ne_toInt (n := 6) z6 (by decide); have := ne_toInt (n := 7) z7 (by decide); have := ne_toInt (n := 8) z8 (by decide); have := ne_toInt (n := 9) z9 (by decide); have := ne_toInt (n := 10) z10 (by decide); have := ne_toInt (n := 11) z11 (by decide); have := ne_toInt (n := 12) z12 (by decide); have := ne_toInt (n := 13) z13 (by decide); have := ne_toInt (n := 14) z14 (by decide); have := ne_toInt (n := 15) z15 (by decide); have := ne_toInt (n := 16) z16 (by decide); have := ne_toInt (n := 17) z17 (by decide); have := ne_toInt (n := 18) z18 (by decide); have := ne_toInt (n := 19) z19 (by decide); have := ne_toInt (n := 20) z20 (by decide); have := ne_toInt (n := 21) z21 (by decide); have := ne_toInt (n := 22) z22 (by decide); have := ne_toInt (n := 23) z23 (by decide); have := ne_toInt (n := 24) z24 (by decide); have := ne_toInt (n := 25) z25 (by decide); have := ne_toInt (n := 26) z26 (by decide); have := ne_toInt (n := 27) z27 (by decide); have := ne_toInt (n := 28) z28 (by decide); have := ne_toInt (n := 29) z29 (by decide); have := ne_toInt (n := 30) z30 (by decide); have := ne_toInt (n := 31) z31 (by decide); have := ne_toInt (n := 32) z32 (by decide); have := ne_toInt (n := 33) z33 (by decide); have := ne_toInt (n := 34) z34 (by decide); have := ne_toInt (n := 35) z35 (by decide); have := ne_toInt (n := 36) z36 (by decide); have := ne_toInt (n := 37) z37 (by decide); have := ne_toInt (n := 38) z38 (by decide); have := ne_toInt (n := 39) z39 (by decide); have := ne_toInt (n := 40) z40 (by decide); have := ne_toInt (n := 41) z41 (by decide); have := ne_toInt (n := 42) z42 (by decide); omega) (by decide) ?_
      exact kk σX σM H locs ls h hPX hPM hS hl
