/-! sets as bits; how many; what fits -/
theorem andL {a c m d : Nat} (ha : a < 256) (hm : m < 256) : (a + 256 * c) &&& (m + 256 * d) = (a &&& m) + 256 * (c &&& d) := by
  have hx : a &&& m < 256 := Nat.lt_of_le_of_lt Nat.and_le_left ha
  apply Nat.eq_of_testBit_eq
  intro i
  rw [Nat.testBit_and, Nat.add_comm a, Nat.add_comm m, Nat.add_comm (a &&& m), show (256 : Nat) = 2 ^ 8 from rfl, Nat.testBit_two_pow_mul_add c ha, Nat.testBit_two_pow_mul_add d hm, Nat.testBit_two_pow_mul_add (c &&& d) hx]
  by_cases h : i < 8
  · rw [if_pos h, if_pos h, if_pos h, Nat.testBit_and]
  · rw [if_neg h, if_neg h, if_neg h, Nat.testBit_and]
def bcU (b : Nat) : Nat := b - (b / 2 &&& 85)
def bcV (b : Nat) : Nat := (b &&& 51) + (b / 4 &&& 51)
def bcW (b : Nat) : Nat := (b + b / 16) &&& 15
theorem bc_u : ∀ b, b < 256 → ∀ t, t < 2 → (b / 2 + 128 * t) &&& 85 = b / 2 &&& 85 := by decide +kernel
theorem bc_u2 : ∀ b, b < 256 → b / 2 &&& 21845 = b / 2 &&& 85 := by decide +kernel
theorem bc_v : ∀ b, b < 256 → ∀ t, t < 4 → (b / 4 + 64 * t) &&& 51 = b / 4 &&& 51 := by decide +kernel
theorem bc_v2 : ∀ b, b < 256 → b &&& 13107 = b &&& 51 ∧ b / 4 &&& 13107 = b / 4 &&& 51 := by decide +kernel
theorem bc_w : ∀ b, b < 103 → ∀ t, t < 5 → (b + b / 16 + 16 * t) &&& 15 = bcW b := by decide +kernel
theorem bc_w2 : ∀ b, b < 103 → (b + b / 16) &&& 3855 = bcW b := by decide +kernel
theorem bc_b : ∀ b, b < 256 → bcU b < 256 ∧ bcV (bcU b) < 103 ∧ bcV (bcU b) % 16 < 5 ∧ bcW (bcV (bcU b)) = ct b.testBit 8 := by decide +kernel
theorem bc_half {b c : Nat} : (b + 256 * c) / 2 = (b / 2 + 128 * (c % 2)) + 256 * (c / 2) := by omega
theorem bc_quart {b c : Nat} : (b + 256 * c) / 4 = (b / 4 + 64 * (c % 4)) + 256 * (c / 4) := by omega
theorem bc_16 {b c : Nat} : (b + 256 * c) / 16 = (b / 16 + 16 * (c % 16)) + 256 * (c / 16) := by omega
theorem bc_1 {b0 b1 b2 : Nat} (h0 : b0 < 256) (h1 : b1 < 256) (h2 : b2 < 256) : (b0 + 256 * (b1 + 256 * b2)) - ((b0 + 256 * (b1 + 256 * b2)) / 2 &&& 1431655765) = bcU b0 + 256 * (bcU b1 + 256 * bcU b2) := by
  have e : (b0 + 256 * (b1 + 256 * b2)) / 2 &&& 1431655765 = (b0 / 2 &&& 85) + 256 * ((b1 / 2 &&& 85) + 256 * (b2 / 2 &&& 85)) := by
    rw [bc_half, show (1431655765 : Nat) = 85 + 256 * (85 + 256 * 21845) from rfl, andL (by omega) (by decide), bc_half, andL (by omega) (by decide), bc_u b0 h0 _ (by omega), bc_u b1 h1 _ (by omega), bc_u2 b2 h2]
  have l0 : (b0 / 2 &&& 85) ≤ b0 / 2 := Nat.and_le_left
  have l1 : (b1 / 2 &&& 85) ≤ b1 / 2 := Nat.and_le_left
  have l2 : (b2 / 2 &&& 85) ≤ b2 / 2 := Nat.and_le_left
  rw [e]
  unfold bcU
  omega
theorem bc_2 {b0 b1 b2 : Nat} (h0 : b0 < 256) (h1 : b1 < 256) (h2 : b2 < 256) : ((b0 + 256 * (b1 + 256 * b2)) &&& 858993459) + ((b0 + 256 * (b1 + 256 * b2)) / 4 &&& 858993459) = bcV b0 + 256 * (bcV b1 + 256 * bcV b2) := by
  have e1 : (b0 + 256 * (b1 + 256 * b2)) &&& 858993459 = (b0 &&& 51) + 256 * ((b1 &&& 51) + 256 * (b2 &&& 51)) := by
    rw [show (858993459 : Nat) = 51 + 256 * (51 + 256 * 13107) from rfl, andL h0 (by decide), andL h1 (by decide), (bc_v2 b2 h2).1]
  have e2 : (b0 + 256 * (b1 + 256 * b2)) / 4 &&& 858993459 = (b0 / 4 &&& 51) + 256 * ((b1 / 4 &&& 51) + 256 * (b2 / 4 &&& 51)) := by
    rw [bc_quart, show (858993459 : Nat) = 51 + 256 * (51 + 256 * 13107) from rfl, andL (by omega) (by decide), bc_quart, andL (by omega) (by decide), bc_v b0 h0 _ (by omega), bc_v b1 h1 _ (by omega), (bc_v2 b2 h2).2]
  rw [e1, e2]
  unfold bcV
  omega
theorem bc_3 {b0 b1 b2 : Nat} (h0 : b0 < 103) (h1 : b1 < 103) (h2 : b2 < 103) (g1 : b1 % 16 < 5) (g2 : b2 % 16 < 5) : ((b0 + 256 * (b1 + 256 * b2)) + (b0 + 256 * (b1 + 256 * b2)) / 16) &&& 252645135 = bcW b0 + 256 * (bcW b1 + 256 * bcW b2) := by
  have e : (b0 + 256 * (b1 + 256 * b2)) + (b0 + 256 * (b1 + 256 * b2)) / 16 = (b0 + b0 / 16 + 16 * (b1 % 16)) + 256 * ((b1 + b1 / 16 + 16 * (b2 % 16)) + 256 * (b2 + b2 / 16)) := by omega
  rw [e, show (252645135 : Nat) = 15 + 256 * (15 + 256 * 3855) from rfl, andL (by omega) (by decide), andL (by omega) (by decide), bc_w b0 h0 _ g1, bc_w b1 h1 _ g2, bc_w2 b2 h2]
theorem ct_split (p : Nat → Bool) (m : Nat) : ∀ n, ct p (m + n) = ct p m + ct (fun k => p (m + k)) n
  | 0 => rfl
  | n + 1 => by
    have h := ct_split p m n
    show ct p (m + n) + (if p (m + n) then 1 else 0) = ct p m + (ct (fun k => p (m + k)) n + (if p (m + n) then 1 else 0))
    omega
theorem ct_byte {b0 c m : Nat} (h0 : b0 < 256) : ct (b0 + 256 * c).testBit (8 + m) = ct b0.testBit 8 + ct c.testBit m := by
  rw [ct_split]
  congr 1
  · refine ct_cong (fun i hi => ?_)
    rw [Nat.add_comm, show (256 : Nat) = 2 ^ 8 from rfl, Nat.testBit_two_pow_mul_add c h0, if_pos hi]
  · refine ct_cong (fun i hi => ?_)
    rw [Nat.add_comm b0, show (256 : Nat) = 2 ^ 8 from rfl, Nat.testBit_two_pow_mul_add c h0, if_neg (by omega), Nat.add_sub_cancel_left]
theorem ct_hi {n : Nat} (h : n < 2 ^ 21) : ct n.testBit 24 = ct n.testBit 21 := by
  have z : ∀ i, 21 ≤ i → n.testBit i = false := fun i hi => Nat.testBit_lt_two_pow (Nat.lt_of_lt_of_le h (Nat.pow_le_pow_right (by decide) hi))
  show ct n.testBit 21 + (if n.testBit 21 then 1 else 0) + (if n.testBit 22 then 1 else 0) + (if n.testBit 23 then 1 else 0) = _
  rw [z 21 (by decide), z 22 (by decide), z 23 (by decide)]
  rfl
theorem ct_3 {b0 b1 b2 : Nat} (h0 : b0 < 256) (h1 : b1 < 256) : ct (b0 + 256 * (b1 + 256 * b2)).testBit 24 = ct b0.testBit 8 + (ct b1.testBit 8 + ct b2.testBit 8) := by
  rw [show 24 = 8 + (8 + 8) from rfl, ct_byte h0, ct_byte h1]
theorem bc_5 {w0 w1 w2 : Nat} (h0 : w0 ≤ 8) (h1 : w1 ≤ 8) (h2 : w2 ≤ 8) : ((w0 + 256 * (w1 + 256 * w2) + (w0 + 256 * (w1 + 256 * w2)) / 256) + (w0 + 256 * (w1 + 256 * w2) + (w0 + 256 * (w1 + 256 * w2)) / 256) / 65536) % 64 = w0 + (w1 + w2) := by
  have e1 : (w0 + 256 * (w1 + 256 * w2)) / 256 = w1 + 256 * w2 := by omega
  rw [e1]
  have e2 : (w0 + 256 * (w1 + 256 * w2) + (w1 + 256 * w2)) / 65536 = w2 := by omega
  rw [e2]
  omega
theorem bc_all {n : Nat} (h : n < 2 ^ 21) : ∃ n1 n2 n3, n - (n / 2 &&& 1431655765) = n1 ∧ (n1 &&& 858993459) + (n1 / 4 &&& 858993459) = n2 ∧ (n2 + n2 / 16) &&& 252645135 = n3 ∧ ((n3 + n3 / 256) + (n3 + n3 / 256) / 65536) % 64 = ct n.testBit 21 ∧ n1 < 2 ^ 24 ∧ n2 < 2 ^ 24 ∧ n3 < 2 ^ 24 := by
  have hn : n = n % 256 + 256 * ((n / 256) % 256 + 256 * (n / 65536)) := by omega
  have c := bc_b (n % 256) (by omega)
  have d := bc_b (n / 256 % 256) (by omega)
  have e := bc_b (n / 65536) (by omega)
  have l0 := ct_le (n % 256).testBit 8
  have l1 := ct_le (n / 256 % 256).testBit 8
  have l2 := ct_le (n / 65536).testBit 8
  have s1 := bc_1 (b0 := n % 256) (b1 := n / 256 % 256) (b2 := n / 65536) (by omega) (by omega) (by omega)
  have s2 := bc_2 c.1 d.1 e.1
  have s3 := bc_3 c.2.1 d.2.1 e.2.1 d.2.2.1 e.2.2.1
  have s4 : ct n.testBit 21 = ct (n % 256).testBit 8 + (ct (n / 256 % 256).testBit 8 + ct (n / 65536).testBit 8) := by
    have := ct_3 (b0 := n % 256) (b1 := n / 256 % 256) (b2 := n / 65536) (by omega) (by omega)
    rw [← hn] at this
    rw [← ct_hi h]
    exact this
  rw [← hn] at s1
  refine ⟨_, _, _, s1, s2, s3, ?_, by omega, by omega, ?_⟩
  · rw [c.2.2.2, d.2.2.2, e.2.2.2, s4]
    exact bc_5 l0 l1 l2
  · rw [c.2.2.2, d.2.2.2, e.2.2.2]
    omega
theorem ush {n k : Nat} (hn : n < 2 ^ 32) (s : Int32) (hs : ((s.toUInt32 &&& Int32.toUInt32 31).toBitVec % 32).toNat = k) : ((nI n).toUInt32 >>> (s.toUInt32 &&& Int32.toUInt32 31)).toInt32 = nI (n / 2 ^ k) := pk_ushrN hn s k hs
theorem e_bitCount {B : Cf} {n : Nat} {s : Sg} {Q : Int32 → Sg → Prop} (h : n < 2 ^ 21) (hQ : Q (nI (ct n.testBit 21)) s) : p_J6_bitCount_0f7a4 B (nI n) s Q := by
  obtain ⟨n1, n2, n3, h1, h2, h3, h4, g1, g2, g3⟩ := bc_all h
  have m1 : (n / 2 &&& 1431655765) ≤ n := Nat.le_trans Nat.and_le_left (Nat.div_le_self n 2)
  have e1 : nI n - (((nI n).toUInt32 >>> ((1 : Int32).toUInt32 &&& Int32.toUInt32 31)).toInt32 &&& 1431655765) = nI n1 := by
    rw [ush (k := 1) (by omega) 1 (by decide), show (1431655765 : Int32) = nI 1431655765 from rfl, nI_and, pk_sub m1, h1]
  have e2 : (nI n1 &&& 858993459) + (((nI n1).toUInt32 >>> ((2 : Int32).toUInt32 &&& Int32.toUInt32 31)).toInt32 &&& 858993459) = nI n2 := by
    rw [ush (k := 2) (by omega) 2 (by decide), show (858993459 : Int32) = nI 858993459 from rfl, nI_and, nI_and, nI_add, h2]
  have e3 : (nI n2 + ((nI n2).toUInt32 >>> ((4 : Int32).toUInt32 &&& Int32.toUInt32 31)).toInt32) &&& 252645135 = nI n3 := by
    rw [ush (k := 4) (by omega) 4 (by decide), show (252645135 : Int32) = nI 252645135 from rfl, nI_add, nI_and, h3]
  have e4 : nI n3 + ((nI n3).toUInt32 >>> ((8 : Int32).toUInt32 &&& Int32.toUInt32 31)).toInt32 = nI (n3 + n3 / 256) := by
    rw [ush (k := 8) (by omega) 8 (by decide), nI_add]
  have e5 : (nI (n3 + n3 / 256) + ((nI (n3 + n3 / 256)).toUInt32 >>> ((16 : Int32).toUInt32 &&& Int32.toUInt32 31)).toInt32) &&& 63 = nI (ct n.testBit 21) := by
    rw [ush (k := 16) (by omega) 16 (by decide), show (63 : Int32) = nI 63 from rfl, nI_add, nI_and, show (63 : Nat) = 2 ^ 6 - 1 from rfl, Nat.and_two_pow_sub_one_eq_mod]
    exact congrArg nI h4
  unfold p_J6_bitCount_0f7a4
  rw [e1, e2, e3, e4, e5]
  exact hQ
theorem m_manyOf {n : Nat} {s : Sg} {Q : Int32 → Sg → Prop} (h : n < 2 ^ 31) (hQ : Q (nI (ct n.testBit 21)) s) : p_X6_manyOf (nI n) s Q := by
  unfold p_X6_manyOf
  refine ⟨22, ?_⟩
  refine lp_up (fun f k (_ : Unit) => p_X6_manyOf_L4 Q f (nI n) (nI (ct n.testBit k)) (nI k) s) (fun _ _ => True) 21 (fun _ x => x) (fun _ => True) (fun f _ _ _ => ?_) (fun f k _ hk _ hx => ?_) (fun _ _ _ _ => trivial) 21 0 () (by decide) trivial trivial
  · unfold p_X6_manyOf_L4
    exact br_t (by decide) hQ
  · unfold p_X6_manyOf_L4
    refine br_f (nI_nlt (b := k) (a := 20) (by omega) (by decide)) ?_
    rw [bit_of h (show k < 31 by omega), nI_add, nI_1]
    exact hx
def al (p : Nat → Bool) : Nat → Bool
  | 0 => true
  | n + 1 => al p n && p n
theorem al_iff {p : Nat → Bool} : ∀ {n : Nat}, al p n = true ↔ ∀ i, i < n → p i = true
  | 0 => ⟨fun _ i hi => absurd hi (Nat.not_lt_zero i), fun _ => rfl⟩
  | n + 1 => by
    unfold al
    rw [Bool.and_eq_true, al_iff]
    constructor
    · intro ⟨h1, h2⟩ i hi
      by_cases e : i = n
      · rw [e]; exact h2
      · exact h1 i (by omega)
    · intro h
      exact ⟨fun i hi => h i (by omega), h n (by omega)⟩
def fitB (a : Nat → Nat → Nat) (i y f : Nat) : Bool := hT a i y f (a 1 i) == hO a i y
def knB (n : Nat → Nat) (a : Nat → Nat → Nat) (set y f : Nat) : Bool := al (fun i => !set.testBit i || fitB a i y f) (n 0)
def knN (n : Nat → Nat) (a : Nat → Nat → Nat) (set y : Nat) : Nat := bs (knB n a set y) 21
theorem knN_lt (n : Nat → Nat) (a : Nat → Nat → Nat) (set y : Nat) : knN n a set y < 2 ^ 21 := bs_lt _ 21
theorem orr (p : Nat → Bool) {k : Nat} (hk : k < 31) : nI (bs p k) ||| ((1 : Int32) <<< (nI k &&& 31)) = nI (bs p k + 2 ^ k) := by
  rw [sh_1 k hk, nI_or, bs_or]
theorem bs_s (p : Nat → Bool) (n : Nat) : bs p (n + 1) = bs p n + (if p n then 2 ^ n else 0) := rfl
section KNW
variable {s : Sg} {d : Nat} {n : Nat → Nat} {a : Nat → Nat → Nat} {Q : Int32 → Sg → Prop}
theorem e_fitting (hd : isD d) (hv : VD s d n a) (hb : BV n a) {i y : Nat} (hi : i < n 0) (hy : y < n 2) (h : Q (nI (bs (fitB a i y) 21)) s) : p_X0_fittingHeights d (nI i) (nI y) s Q := by
  have b0 := hb.1
  have cc := hb.2.2.2.2.1 i hi
  have ho : hO a i y ≤ 10 := hemN_le cc.2.2.2.1
  unfold p_X0_fittingHeights
  refine e_hemOf hd hv hb hi hy ⟨22, ?_⟩
  refine lp_up (fun m f (_ : Unit) => p_X0_fittingHeights_L13 Q m d (nI i) (nI y) (nI (hO a i y)) (nI (bs (fitB a i y) f)) (nI f) s) (fun _ _ => True) 21 (fun _ x => x) (fun _ => True) (fun m _ _ _ => ?_) (fun m f _ hf _ hx => ?_) (fun _ _ _ _ => trivial) 21 0 () (by decide) trivial trivial
  · unfold p_X0_fittingHeights_L13
    exact br_t (by decide) h
  · unfold p_X0_fittingHeights_L13 p_X0_fittingHeights_b49
    refine br_f (nI_nlt (b := f) (a := 20) (by omega) (by decide)) (d_item hd 1 (by decide) rfl (show i < 6 by omega) ?_)
    rw [hv.2 1 (by decide) i hi]
    refine e_hemIfThen hd hv hb hi hy (by omega) cc.1 ?_
    have ht : hT a i y f (a 1 i) ≤ 10 := hemN_le cc.2.2.2.1
    rw [orr _ (show f < 31 by omega), nI_1]
    rw [bs_s] at hx
    refine br_eq rfl rfl (by omega) (by omega) (fun c => ?_) (fun c => ?_)
    · rw [show fitB a i y f = true by unfold fitB; rw [c]; simp, if_pos rfl] at hx
      exact hx
    · rw [show fitB a i y f = false by unfold fitB; simpa using c, if_neg (by decide), Nat.add_zero] at hx
      exact hx
theorem e_knownBy (hd : isD d) (hv : VD s d n a) (hb : BV n a) {set y : Nat} (hs : set < 2 ^ 31) (hy : y < n 2) (h : Q (nI (knN n a set y)) s) : p_X0_knownBy d (nI set) (nI y) s Q := by
  have b0 := hb.1
  unfold p_X0_knownBy
  refine ⟨n 0 + 1, ?_⟩
  have e0 : (2097151 : Int32) = nI (bs (fun f => al (fun i => !set.testBit i || fitB a i y f) 0) 21) := by
    show (2097151 : Int32) = nI (bs (fun _ => true) 21)
    decide
  rw [e0]
  refine lp_up (fun m i (_ : Unit) => p_X0_knownBy_L6 Q m d (nI set) (nI y) (nI (bs (fun f => al (fun i => !set.testBit i || fitB a i y f) i) 21)) (nI i) s) (fun _ _ => True) (n 0) (fun _ x => x) (fun _ => True) (fun m _ _ _ => ?_) (fun m i _ hi _ hx => ?_) (fun _ _ _ _ => trivial) (n 0) 0 () (by omega) trivial trivial
  · unfold p_X0_knownBy_L6
    rw [hv.1 0 (by decide)]
    exact br_t (nI_le (Nat.le_refl _) (by omega)) h
  · unfold p_X0_knownBy_L6 p_X0_knownBy_b34 p_X5_hasBit
    rw [hv.1 0 (by decide), bit_of hs (show i < 31 by omega), nI_1]
    refine br_f (lt_w b0 hi) ?_
    have hx' : p_X0_knownBy_L6 Q m d (nI set) (nI y) (nI (bs (fun f => al (fun i => !set.testBit i || fitB a i y f) i && (!set.testBit i || fitB a i y f)) 21)) (nI (i + 1)) s := hx
    by_cases c : set.testBit i = true
    · rw [if_pos c]
      refine br_f (by decide) (br_f (by decide) (e_fitting hd hv hb hi hy ?_))
      rw [nI_and, bs_and]
      rw [c] at hx'
      exact hx'
    · rw [if_neg c]
      refine br_t (by decide) (br_t rfl ?_)
      have c' : set.testBit i = false := by simpa using c
      rw [c'] at hx'
      simpa using hx'
theorem m_known {M : Sg} (hv : VM M n a) (hb : BV n a) {set y : Nat} (hs : set < 2 ^ 31) (hy : y < n 2) (h : Q (nI (knN n a set y)) M) : p_X6_known 0 (nI set) (nI y) M Q := by
  have b0 := hb.1
  unfold p_X6_known
  refine ⟨22, ?_⟩
  refine lp_up (fun m f (_ : Unit) => p_X6_known_L5 Q m 0 (nI set) (nI y) (nI (bs (knB n a set y) f)) (nI f) M) (fun _ _ => True) 21 (fun _ x => x) (fun _ => True) (fun m _ _ _ => ?_) (fun m f _ hf _ hx => ?_) (fun _ _ _ _ => trivial) 21 0 () (by decide) trivial trivial
  · unfold p_X6_known_L5
    exact br_t (by decide) h
  · unfold p_X6_known_L5
    refine br_f (nI_nlt (b := f) (a := 20) (by omega) (by decide)) ⟨n 0 + 1, ?_⟩
    refine lp_up (fun m' i (_ : Unit) => p_X6_known_L18 Q (fun y0 y1 y2 y3 y4 u => p_X6_known_L5 Q m y0 y1 y2 y3 y4 u) m' 0 (nI set) (nI y) (nI (bs (knB n a set y) f)) (nI f) (if al (fun i => !set.testBit i || fitB a i y f) i then 1 else 0) (nI i) M) (fun _ _ => True) (n 0) (fun _ x => x) (fun _ => True) (fun m' _ _ _ => ?_) (fun m' i _ hi _ hz => ?_) (fun _ _ _ _ => trivial) (n 0) 0 () (by omega) trivial trivial
    · unfold p_X6_known_L18 p_X6_known_b99
      rw [hv.1, orr _ (show f < 31 by omega), nI_1]
      refine br_t (nI_le (Nat.le_refl _) (by omega)) ?_
      rw [bs_s] at hx
      by_cases c : al (fun i => !set.testBit i || fitB a i y f) (n 0) = true
      · rw [if_pos c]
        rw [show knB n a set y f = true from c, if_pos rfl] at hx
        exact br_f (by decide) hx
      · rw [if_neg c]
        rw [show knB n a set y f = false by unfold knB; simpa using c, if_neg (by decide), Nat.add_zero] at hx
        refine br_t rfl ?_
        rw [show (0 : Int32) = nI 0 from rfl, nI_or, Nat.or_zero]
        exact hx
    · obtain ⟨c1, c2, c3, c4, c5⟩ := hb.2.2.2.2.1 i hi
      have e1 : gR M 12 i = nI (a 1 i) := hv.2.2.2.1 1 (by decide) i hi
      have ho : hO a i y ≤ 10 := hemN_le c4
      have ht : hT a i y f (a 1 i) ≤ 10 := hemN_le c4
      unfold p_X6_known_L18 p_X6_known_b76 p_X6_known_b72 p_X6_known_b77
      rw [hv.1, bit_of hs (show i < 31 by omega), ex6, m_cl (show i < 100000 by omega), m_cl (show y * 6 + i < 100000 by have := hb.2.2.1; omega), nI_1]
      refine br_f (lt_w b0 hi) ?_
      have hz' : p_X6_known_L18 Q (fun y0 y1 y2 y3 y4 u => p_X6_known_L5 Q m y0 y1 y2 y3 y4 u) m' 0 (nI set) (nI y) (nI (bs (knB n a set y) f)) (nI f) (if al (fun i => !set.testBit i || fitB a i y f) i && (!set.testBit i || fitB a i y f) then 1 else 0) (nI (i + 1)) M := hz
      by_cases c : al (fun i => !set.testBit i || fitB a i y f) i = true
      · rw [if_pos c]
        rw [c, Bool.true_and] at hz'
        refine br_f (by decide) ?_
        by_cases cs : set.testBit i = true
        · rw [if_pos cs]
          rw [cs] at hz'
          refine br_f (by decide) ⟨12, rfl, rfl, vp_in_nI (show i < 6 by omega) (by decide), ?_⟩
          rw [e1]
          refine m_hemThen hv hb hi hy (by omega) c1 ⟨21, rfl, rfl, m_in (N := 48) rfl rfl (by have := hb.2.2.1; omega) (by decide), ?_⟩
          rw [hv.2.2.2.2 i y hi hy]
          refine br_eq rfl rfl (by omega) (by omega) (fun c => ?_) (fun c => ?_)
          · rw [show fitB a i y f = true by unfold fitB; rw [c]; simp] at hz'
            exact hz'
          · rw [show fitB a i y f = false by unfold fitB; simpa using c] at hz'
            exact hz'
        · rw [if_neg cs]
          rw [show set.testBit i = false by simpa using cs] at hz'
          exact br_t (by decide) hz'
      · rw [if_neg c]
        rw [show al (fun i => !set.testBit i || fitB a i y f) i = false by simpa using c, Bool.false_and] at hz'
        exact br_t rfl hz'
end KNW
