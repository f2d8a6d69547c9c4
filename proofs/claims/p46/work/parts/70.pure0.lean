/-! layer 2: what the methods' preconditions come to, over numbers -/
theorem gR_I (s : Sg) (k j : Nat) (v : Int32) (a : Nat) : gR (setI s k j v) a = gR s a := rfl
theorem gR_J (s : Sg) (k j : Nat) (v : Int64) (a : Nat) : gR (setJ s k j v) a = gR s a := rfl
theorem gR_T (s : Sg) (o : Option Nat) (a : Nat) : gR (setT s o) a = gR s a := rfl
theorem gI_R (s : Sg) (k : Nat) (f : Nat → Int32) (a b : Nat) : gI (setR s k f) a b = gI s a b := rfl
theorem gI_J (s : Sg) (k j : Nat) (v : Int64) (a b : Nat) : gI (setJ s k j v) a b = gI s a b := rfl
theorem gI_T (s : Sg) (o : Option Nat) (a b : Nat) : gI (setT s o) a b = gI s a b := rfl
theorem gJ_R (s : Sg) (k : Nat) (f : Nat → Int32) (a b : Nat) : gJ (setR s k f) a b = gJ s a b := rfl
theorem gJ_I (s : Sg) (k j : Nat) (v : Int32) (a b : Nat) : gJ (setI s k j v) a b = gJ s a b := rfl
theorem gJ_T (s : Sg) (o : Option Nat) (a b : Nat) : gJ (setT s o) a b = gJ s a b := rfl
theorem gT_R (s : Sg) (k : Nat) (f : Nat → Int32) : gT (setR s k f) = gT s := rfl
theorem gT_I (s : Sg) (k j : Nat) (v : Int32) : gT (setI s k j v) = gT s := rfl
theorem gT_J (s : Sg) (k j : Nat) (v : Int64) : gT (setJ s k j v) = gT s := rfl
theorem gT_T (s : Sg) (o : Option Nat) : gT (setT s o) = o := rfl
theorem gR_same (s : Sg) (k : Nat) (f : Nat → Int32) : gR (setR s k f) k = f := by simp [gR, setR]
theorem gR_ne (s : Sg) {k a : Nat} (f : Nat → Int32) (h : a ≠ k) : gR (setR s k f) a = gR s a := by simp [gR, setR, h]
theorem gR_if (s : Sg) (k a : Nat) (f : Nat → Int32) : gR (setR s k f) a = if a = k then f else gR s a := rfl
theorem gI_same (s : Sg) (k j : Nat) (v : Int32) : gI (setI s k j v) k j = v := by simp [gI, setI]
theorem gI_ne (s : Sg) {k j a b : Nat} (v : Int32) (h : ¬ (a = k ∧ b = j)) : gI (setI s k j v) a b = gI s a b := by simp only [gI, setI, if_neg h]
theorem gI_if (s : Sg) (k j a b : Nat) (v : Int32) : gI (setI s k j v) a b = if a = k ∧ b = j then v else gI s a b := rfl
theorem gJ_if (s : Sg) (k j a b : Nat) (v : Int64) : gJ (setJ s k j v) a b = if a = k ∧ b = j then v else gJ s a b := rfl
theorem upd_s (f : Nat → Int32) (k : Nat) (x : Int32) : upd f k x k = x := pk_us
theorem upd_n (f : Nat → Int32) {k j : Nat} (x : Int32) (h : j ≠ k) : upd f k x j = f j := pk_un h
theorem upd_if (f : Nat → Int32) (k j : Nat) (x : Int32) : upd f k x j = if j = k then x else f j := by
  by_cases h : j = k
  · subst h; rw [upd_s, if_pos rfl]
  · rw [upd_n f x h, if_neg h]
theorem ex_some {k : Nat} {P : Nat → Prop} (h : P k) : ∃ j, (some k : Option Nat) = some j ∧ P j := ⟨k, rfl, h⟩
/-- an int by its number -/
theorem nI_small (x : Int32) (h : 0 ≤ x.toInt) : ∃ n : Nat, n < 2 ^ 31 ∧ x = nI n := nI_of (by
  intro q
  rw [Int32.lt_iff_toInt_lt] at q
  have : (0 : Int32).toInt = 0 := rfl
  omega)
theorem nI_inj {a b : Nat} (ha : a < 2 ^ 31) (hb : b < 2 ^ 31) (h : nI a = nI b) : a = b := (nI_eq ha hb).mp h
theorem lX_lt : ∀ k, lX k < 100 := by
  intro k
  by_cases h : k < 85
  · have h2 : ∀ k, k < 85 → lX k < 100 := by decide +kernel
    exact h2 k h
  · have e : lX k = 0 := by unfold lX; rw [List.getD_eq_getElem?_getD, List.getElem?_eq_none (by show 85 ≤ k; omega)]; rfl
    omega
theorem kX_ne {k : Nat} (c : Nat) (h : kX k = c) (hc : c < 99) : k < 85 := kX_lt k (by omega)
/-! the class's helpers over arrays -/
theorem e_item {k : Nat} {x : Int32} {j : Nat} {s : Sg} {Q : Int32 → Sg → Prop} {o : Option Nat} (ho : o = some k) (hk : kX k = 7) (hx : x = nI j) (hj : j < lX k) (h : Q (gR s k j) s) : p_X5_item o x s Q := by
  subst ho hx
  have hl := lX_lt k
  unfold p_X5_item
  refine ⟨(fun q => by cases q), fun _ => ⟨fun q => absurd q (nI_pos (by omega)), fun _ => ⟨k, rfl, Or.inl hk, fun q => absurd q (nI_ge hj (by omega)), fun _ => ⟨k, rfl, hk, vp_in_nI hj (by omega), ?_⟩⟩⟩⟩
  rw [nI_clamp (by omega)]
  exact h
theorem e_setItem {k : Nat} {x v : Int32} {j : Nat} {s : Sg} {Q : Sg → Prop} {o : Option Nat} (ho : o = some k) (hk : kX k = 7) (hx : x = nI j) (hj : j < lX k) (h : Q (setR s k (upd (gR s k) j v))) : p_X5_setItem o x v s Q := by
  subst ho hx
  have hl := lX_lt k
  unfold p_X5_setItem
  refine ⟨(fun q => by cases q), fun _ => ⟨fun q => absurd q (nI_pos (by omega)), fun _ => ⟨k, rfl, Or.inl hk, fun q => absurd q (nI_ge hj (by omega)), fun _ => ⟨k, rfl, hk, vp_in_nI hj (by omega), ?_⟩⟩⟩⟩
  rw [nI_clamp (by omega)]
  exact h
theorem e_copyStretch {k k2 i j n : Nat} {x y z : Int32} {s : Sg} {Q : Sg → Prop} {o o2 : Option Nat} (ho : o = some k) (ho2 : o2 = some k2) (hk : kX k = 7) (hk2 : kX k2 = 7) (hx : x = nI i) (hy : y = nI j) (hz : z = nI n) (h1 : i + n ≤ lX k) (h2 : j + n ≤ lX k2) (h : Q (setR s k2 (va_cpy (gR s k) (gR s k2) i j n))) : p_X5_copyStretch o x o2 y z s Q := by
  subst ho ho2 hx hy hz
  have l1 := lX_lt k
  have l2 := lX_lt k2
  have f1 : ¬ nI (lX k) - nI i < nI n := fun q => by
    rw [pk_sub (by omega)] at q
    have := (nI_ltI (by omega) (by omega)).mp q
    omega
  have f2 : ¬ nI (lX k2) - nI j < nI n := fun q => by
    rw [pk_sub (by omega)] at q
    have := (nI_ltI (by omega) (by omega)).mp q
    omega
  have f0 : (0 : Int32) ≤ nI n := by
    have := nI_le (Nat.zero_le n) (show n < 2 ^ 31 by omega)
    rwa [nI_0] at this
  unfold p_X5_copyStretch
  refine br_f (fun q => by cases q) (br_f (fun q => by cases q) (br_f (nI_pos (by omega)) (br_f (nI_pos (by omega)) (br_t f0 ⟨k, rfl, Or.inl hk, br_f f1 ⟨k2, rfl, Or.inl hk2, br_f f2 ⟨k, k2, rfl, hk, rfl, hk2, nI_pos (by omega), nI_pos (by omega), nI_pos (by omega), ?_, ?_, ?_⟩⟩⟩))))
  · rw [nI_clamp (by omega), nI_clamp (by omega)]; exact h1
  · rw [nI_clamp (by omega), nI_clamp (by omega)]; exact h2
  · rw [nI_clamp (by omega), nI_clamp (by omega), nI_clamp (by omega)]; exact h
theorem e_copyItems {k k2 : Nat} {s : Sg} {Q : Sg → Prop} {o o2 : Option Nat} (ho : o = some k) (ho2 : o2 = some k2) (hk : kX k = 7) (hk2 : kX k2 = 7) (hl : lX k = lX k2) (h : Q (setR s k2 (va_cpy (gR s k) (gR s k2) 0 0 (lX k)))) : p_X5_copyItems o o2 s Q := by
  subst ho ho2
  unfold p_X5_copyItems
  have e : (if nI (lX k2) < nI (lX k) then nI (lX k2) else nI (lX k)) = nI (lX k) := by rw [hl]; simp
  refine br_f (fun q => by cases q) (br_f (fun q => by cases q) ⟨k, rfl, Or.inl hk, k2, rfl, Or.inl hk2, ?_⟩)
  rw [e]
  exact e_copyStretch rfl rfl hk hk2 nI_0.symm nI_0.symm rfl (by omega) (by omega) h
theorem e_fill_L (B : Cf) (k : Nat) (v : Int32) (N : Nat) (hk : B.2.1 k = 7) (hl : B.2.2.1 k = N) (hN : N < 2147483648) (f : Nat → Int32) (s0 : Sg) (Q : Sg → Prop) (hQ : Q (setR s0 k (fun i => if i < N then v else f i))) : ∀ (n i : Nat), i + n = N → p_J7_fill_53178_L5 B Q (n + 1) (some k) v (nI i) (nI N) (setR s0 k (fun j => if j < i then v else f j)) := by
  intro n
  induction n with
  | zero =>
    intro i hi
    unfold p_J7_fill_53178_L5
    refine ⟨fun _ => ?_, fun h => absurd (nI_le (by omega) (by omega)) h⟩
    rw [show i = N by omega]
    exact hQ
  | succ n ih =>
    intro i hi
    unfold p_J7_fill_53178_L5
    refine ⟨fun h => absurd h (nI_ge (by omega) (by omega)), fun _ => ⟨k, rfl, hk, by rw [hl]; exact vp_in_nI (show i < N by omega) (by omega), ?_⟩⟩
    rw [← nI_succ, nI_clamp (show i < 2 ^ 31 by omega), gR_same]
    have e : setR (setR s0 k (fun j => if j < i then v else f j)) k (upd (fun j => if j < i then v else f j) i v) = setR s0 k (fun j => if j < i + 1 then v else f j) := by
      have e1 : upd (fun j => if j < i then v else f j) i v = (fun j => if j < i + 1 then v else f j) := by
        funext j
        rw [upd_if]
        by_cases h1 : j = i
        · rw [if_pos h1, if_pos (by omega)]
        · by_cases h2 : j < i
          · rw [if_neg h1, if_pos h2, if_pos (by omega)]
          · rw [if_neg h1, if_neg h2, if_neg (by omega)]
      rw [e1]
      unfold setR
      refine congrArg (fun x => (s0.1, s0.2.1, x, s0.2.2.2)) (funext fun a => ?_)
      by_cases ha : a = k
      · simp [ha]
      · simp [ha]
    rw [e]
    exact ih (i + 1) (by omega)
theorem setR_self (s : Sg) (k : Nat) : setR s k (gR s k) = s := by
  unfold setR gR
  refine (congrArg (fun x => (s.1, s.2.1, x, s.2.2.2)) (funext fun a => ?_)).trans rfl
  by_cases ha : a = k
  · simp [ha]
  · simp [ha]
theorem e_fill {B : Cf} {k : Nat} {v : Int32} {s : Sg} {Q : Sg → Prop} {o : Option Nat} (ho : o = some k) (hk : B.2.1 k = 7) (hN : B.2.2.1 k < 2147483648) (h : Q (setR s k (fun i => if i < B.2.2.1 k then v else gR s k i))) : p_J7_fill_53178 B o v s Q := by
  subst ho
  unfold p_J7_fill_53178
  refine ⟨k, rfl, Or.inl hk, B.2.2.1 k + 1, ?_⟩
  have := e_fill_L B k v (B.2.2.1 k) hk rfl hN (gR s k) s Q h (B.2.2.1 k) 0 (by omega)
  have e : (fun j => if j < 0 then v else gR s k j) = gR s k := funext fun j => if_neg (Nat.not_lt_zero j)
  rw [e, setR_self] at this
  exact this
/-! loops that count up: r steps from i on -/
def itr {α : Type} (step : Nat → α → α) : Nat → Nat → α → α
  | _, 0, x => x
  | i, r + 1, x => itr step (i + 1) r (step i x)
theorem itr_succ {α : Type} (step : Nat → α → α) (r i : Nat) (x : α) : itr step i (r + 1) x = step (i + r) (itr step i r x) := by
  induction r generalizing i x with
  | zero => rfl
  | succ r ih =>
    show itr step (i + 1) (r + 1) (step i x) = _
    rw [ih (i + 1) (step i x)]
    show step (i + 1 + r) _ = step (i + (r + 1)) _
    rw [show i + 1 + r = i + (r + 1) by omega]
    rfl
theorem itr_cong {α : Type} {f g : Nat → α → α} (r i : Nat) (x : α) (h : ∀ j y, i ≤ j → j < i + r → f j y = g j y) : itr f i r x = itr g i r x := by
  induction r generalizing i x with
  | zero => rfl
  | succ r ih =>
    show itr f (i + 1) r (f i x) = itr g (i + 1) r (g i x)
    rw [h i x (Nat.le_refl i) (by omega)]
    exact ih (i + 1) _ (fun j y h1 h2 => h j y (by omega) (by omega))
/-- an invariant of a run -/
theorem itr_inv {α : Type} {step : Nat → α → α} (P : Nat → α → Prop) (r i : Nat) (x : α) (h0 : P i x) (hs : ∀ j y, i ≤ j → j < i + r → P j y → P (j + 1) (step j y)) : P (i + r) (itr step i r x) := by
  induction r generalizing i x with
  | zero => exact h0
  | succ r ih =>
    have := ih (i + 1) (step i x) (hs i x (Nat.le_refl i) (by omega) h0) (fun j y h1 h2 h3 => hs j y (by omega) (by omega) h3)
    rw [show i + (r + 1) = i + 1 + r by omega]
    exact this
/-- a loop's precondition: with invariant I, state x: P fuel place state -/
theorem lp_up {α : Type} (P : Nat → Nat → α → Prop) (I : Nat → α → Prop) (w : Nat) (step : Nat → α → α) (fin : α → Prop) (hexit : ∀ n x, I w x → fin x → P (n + 1) w x) (hstep : ∀ n i x, i < w → I i x → P n (i + 1) (step i x) → P (n + 1) i x) (hI : ∀ i x, i < w → I i x → I (i + 1) (step i x)) :
    ∀ r i x, i + r = w → I i x → fin (itr step i r x) → P (r + 1) i x := by
  intro r
  induction r with
  | zero =>
    intro i x hi h h2
    rw [show i = w by omega] at h ⊢
    exact hexit 0 x h h2
  | succ r ih =>
    intro i x hi h h2
    exact hstep (r + 1) i x (by omega) h (ih (i + 1) (step i x) (by omega) (hI i x (by omega) h) h2)
/-- sets as bits -/
def bs (p : Nat → Bool) : Nat → Nat
  | 0 => 0
  | n + 1 => bs p n + (if p n then 2 ^ n else 0)
theorem bs_lt (p : Nat → Bool) : ∀ n, bs p n < 2 ^ n
  | 0 => Nat.one_pos
  | n + 1 => by
    have := bs_lt p n
    unfold bs
    rw [Nat.pow_succ]
    split <;> omega
theorem bs_test (p : Nat → Bool) : ∀ n i, (bs p n).testBit i = (decide (i < n) && p i)
  | 0, i => by simp [bs]
  | n + 1, i => by
    have ih := bs_test p n
    have hl := bs_lt p n
    unfold bs
    by_cases hp : p n = true
    · rw [if_pos hp, Nat.add_comm]
      by_cases h : i = n
      · subst h
        rw [Nat.testBit_two_pow_add_eq, Nat.testBit_lt_two_pow hl]
        simp [hp]
      · by_cases h2 : i < n
        · rw [Nat.testBit_two_pow_add_gt h2, ih]
          simp [h2, show i < n + 1 by omega]
        · have e : (2 ^ n + bs p n).testBit i = false := Nat.testBit_lt_two_pow (by
            have : 2 ^ (n + 1) ≤ 2 ^ i := Nat.pow_le_pow_right (by decide) (by omega)
            rw [Nat.pow_succ] at this
            omega)
          rw [e]
          simp [show ¬ i < n + 1 by omega]
    · rw [if_neg hp, Nat.add_zero, ih]
      by_cases h : i = n
      · subst h; simp [hp]
      · by_cases h2 : i < n
        · simp [h2, show i < n + 1 by omega]
        · simp [h2, show ¬ i < n + 1 by omega]
theorem bs_cong {p q : Nat → Bool} : ∀ {n : Nat}, (∀ i, i < n → p i = q i) → bs p n = bs q n
  | 0, _ => rfl
  | n + 1, h => by
    unfold bs
    rw [bs_cong (fun i hi => h i (by omega)), h n (by omega)]
theorem bs_or (p : Nat → Bool) (n : Nat) : bs p n ||| 2 ^ n = bs p n + 2 ^ n := by
  have h := Nat.two_pow_add_eq_or_of_lt (bs_lt p n) 1
  rw [Nat.mul_one] at h
  rw [Nat.or_comm, ← h, Nat.add_comm]
theorem bs_and (p q : Nat → Bool) (n : Nat) : bs p n &&& bs q n = bs (fun i => p i && q i) n := by
  apply Nat.eq_of_testBit_eq
  intro i
  rw [Nat.testBit_and, bs_test, bs_test, bs_test]
  by_cases h : i < n <;> simp [h]
/-- how many -/
def ct (p : Nat → Bool) : Nat → Nat
  | 0 => 0
  | n + 1 => ct p n + (if p n then 1 else 0)
theorem ct_le (p : Nat → Bool) : ∀ n, ct p n ≤ n
  | 0 => Nat.le_refl 0
  | n + 1 => by
    have := ct_le p n
    unfold ct
    split <;> omega
theorem ct_cong {p q : Nat → Bool} : ∀ {n : Nat}, (∀ i, i < n → p i = q i) → ct p n = ct q n
  | 0, _ => rfl
  | n + 1, h => by
    unfold ct
    rw [ct_cong (fun i hi => h i (by omega)), h n (by omega)]
theorem nI_and (a b : Nat) : nI a &&& nI b = nI (a &&& b) := by
  apply Int32.toBitVec_inj.mp
  show (BitVec.ofNat 32 a) &&& (BitVec.ofNat 32 b) = BitVec.ofNat 32 (a &&& b)
  apply BitVec.eq_of_toNat_eq
  simp [BitVec.toNat_and, BitVec.toNat_ofNat, Nat.and_mod_two_pow]
theorem nI_or (a b : Nat) : nI a ||| nI b = nI (a ||| b) := by
  apply Int32.toBitVec_inj.mp
  show (BitVec.ofNat 32 a) ||| (BitVec.ofNat 32 b) = BitVec.ofNat 32 (a ||| b)
  apply BitVec.eq_of_toNat_eq
  simp [BitVec.toNat_or, BitVec.toNat_ofNat, Nat.or_mod_two_pow]
theorem sh_and : ∀ l, l < 32 → (nI l &&& 31) = nI l := by decide +kernel
theorem sh_1 : ∀ l, l < 31 → (1 : Int32) <<< (nI l &&& 31) = nI (2 ^ l) := by decide +kernel
theorem sh_sm : ∀ l, l < 32 → ((nI l &&& 31).toBitVec.smod 32).toNat = l := by decide +kernel
/-- a bit of a set -/
theorem bit_of {n l : Nat} (hn : n < 2 ^ 31) (hl : l < 31) : (nI n >>> (nI l &&& 31)) &&& 1 = nI (if n.testBit l then 1 else 0) := by
  rw [pk_shrN hn _ l (sh_sm l (by omega)), show (1 : Int32) = nI 1 from rfl, nI_and]
  congr 1
  rw [Nat.and_one_is_mod, Nat.testBit_eq_decide_div_mod_eq]
  have := Nat.mod_two_eq_zero_or_one (n / 2 ^ l)
  rcases this with h | h <;> simp [h]
