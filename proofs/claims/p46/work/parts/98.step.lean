/-! one turn of the loop: the two stay alike -/
def J (X Y : Sg) : Prop := ∃ M, Inv X M ∧ Inv Y M ∧ gI M 0 20 ≠ 0
section STP
variable {X Y M : Sg}
theorem dg_eq {F F' : Ds} {q q' : Nat → Dd} {N N' : Nat} (hX : Inv X M) (hY : Inv Y M) (hC : IC X M F q N) (hC' : IC Y M F' q' N') : dgV X M (rp F q N).1 (rp F q N).2 N = dgV Y M (rp F' q' N').1 (rp F' q' N').2 N' :=
  d_p_X6_digest (Q1 := fun u _ => u = dgV X M (rp F q N).1 (rp F q N).2 N) (Q2 := fun u _ => u = dgV Y M (rp F' q' N').1 (rp F' q' N').2 N') rfl (m_digest hX hC rfl) (m_digest hY hC' rfl) (fun u _ _ a b => a.symm.trans b)
theorem pS {K : Sg → Sg → Prop} (hX : Inv X M) (hY : Inv Y M) (k : K X Y) : pSame X Y K := by
  obtain ⟨F, q, N, hC⟩ := hX.2.2.2.2.2
  obtain ⟨F', q', N', hC'⟩ := hY.2.2.2.2.2
  unfold pSame
  refine x_digest hX hC (x_digest hY hC' ⟨dg_eq hX hY hC hC', ?_⟩)
  unfold p_X5_asked p_X5_upper p_X5_lower p_X5_finding
  exact ⟨hX.2.1.1.trans hY.2.1.1.symm, hX.2.1.2.1.trans hY.2.1.2.1.symm, hX.2.1.2.2.trans hY.2.1.2.2.symm, hX.1.1.trans hY.1.1.symm, k⟩
theorem women {F : Ds} {q : Nat → Dd} {N : Nat} (hC : IC X M F q N) (hw : gI M 0 20 ≠ 0) : F.1 0 ≠ 0 := fun z => hw (by
  rw [(IC_now hC).2.1.1, rp_w, z]
  rfl)
theorem lwR_i {F : Ds} {q : Nat → Dd} {N : Nat} {z n : Int32} {d : Int64} (hX : Inv X M) (hY : Inv Y M) (hC : IC Y M F q N) (hw : gI M 0 20 ≠ 0) (en : n = nI N) (hN : N < 36) (ed : dgV Y M (rp F q N).1 (rp F q N).2 N = d) : lwR z n d X Y J := by
  have hwF := women hC hw
  unfold lwR
  refine x_digest hY hC ⟨ed, pS hX hY ?_⟩
  obtain ⟨FX, qX, NX, hCX⟩ := hX.2.2.2.2.2
  have hwX := women hCX hw
  have eN : NX = N := nI_inj (by have := hCX.2.2.1; omega) (by omega) ((IC_now hCX).2.2.2.2.symm.trans (IC_now hC).2.2.2.2)
  subst eN
  refine x_keepE hC hwF (fun Y1 hR1 ho1 => ⟨en.symm, ?_⟩)
  obtain ⟨hY1, hC1⟩ := Inv_kept hY hC hwF hR1 ho1
  obtain ⟨j, hj, ej⟩ := pk_andE (z >>> (3 &&& 31)) (m := 268435455) 28 (by decide)
  have p28 : 2 ^ 28 = 268435456 := rfl
  rw [ej, show (1 : Int32) + nI j = nI (1 + j) from nI_add 1 j]
  refine x_lots2 hC.1 hwF hC.2.2.2.1 (by omega) hC1.2.2.2.2.1 (by omega) (by omega) (fun t Y2 ht ho2 => ⟨ht, ?_⟩)
  have hR2 : RD Y2 73 F q NX := RD_s hR1 (fun c c1 c2 => ho2.1 c (by omega)) (fun j => ho2.2.1 73 j (by decide))
  refine x_on2 hC.1 hwF hC.2.2.2.1 (by omega) hR2 (fun Y3 hR3 ho3 => ⟨en.symm, ?_⟩)
  obtain ⟨hY3, hC3⟩ := Inv_back hY1 hC1 hR3 (outD_tr ho2 ho3)
  refine x_keepE hCX hwX (fun X1 hRX hoX => ⟨en.symm, ?_⟩)
  obtain ⟨hX1, hCX1⟩ := Inv_kept hX hCX hwX hRX hoX
  exact pS hX1 hY3 ⟨keepM M NX, hX1, hY3, hw⟩
theorem lwU_i (hX : Inv X M) (hY : Inv Y M) (hw : gI M 0 20 ≠ 0) (z : Int32) : lwU z X Y J := by
  obtain ⟨F, q, N, hC⟩ := hY.2.2.2.2.2
  have hn := (IC_now hC).2.2.2.2
  have hN40 := hC.2.2.1
  unfold lwU
  refine x_count2 hY ?_
  rw [hn]
  refine br_le (a := 36) (b := N) rfl rfl (by decide) (by omega) (fun _ => ⟨M, hX, hY, hw⟩) (fun hN => ?_)
  refine x_digest hY hC (x_flood hC.1 (GN_0 hC) _ (fun _ Y1 g1 => x_tuck hC.1 g1 _ (fun _ Y2 g2 => x_dyke hC.1 g2 _ (fun _ Y3 g3 => x_undoN hC.1 g3 rfl (fun m Y4 hR ho => ?_)))))
  obtain ⟨hY4, hC4⟩ := Inv_back hY hC hR ho
  have R := lwR_i (z := z) hX hY4 hC4 hw rfl hN (dg_eq hY4 hY hC4 hC)
  exact x_count2 hY4 ⟨fun _ => R, fun _ => x_count2 hY4 ⟨hn, R⟩⟩
theorem lwV_i (z : Int32) (X Y : Sg) (h : J X Y) : lwV z X Y J := by
  obtain ⟨M, hX, hY, hw⟩ := h
  unfold lwV
  refine rf_all hY ⟨by decide, _, _, tnX hX z, tnX hY z, fun r4 X' r5 Y' h1 h2 => ?_⟩
  exact d_T6 hw h1 h2 (fun v M' hw' a b => ⟨a.1.trans b.1.symm, pS a.2 b.2 (lwU_i a.2 b.2 hw' z)⟩)
theorem dry_i (X Y : Sg) (h : J X Y) : ∃ Q1 Q2 : Int32 → Sg → Prop, p_X5_dry 0 X Q1 ∧ p_X5_dry 0 Y Q2 ∧ ∀ r1 X' r2 Y', Q1 r1 X' → Q2 r2 Y' → r1 = r2 := by
  obtain ⟨M, hX, hY, hw⟩ := h
  exact ⟨_, _, st_dry hX, st_dry hY, fun r1 X' r2 Y' h1 h2 => d_p_X6_dry rfl h1 h2 (fun v M' _ a b => a.1.trans b.1.symm)⟩
end STP
