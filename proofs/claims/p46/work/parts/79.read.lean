/-! a text is read: what comes of it -/
def byt (T : Nat → Int32) : Prop := ∀ i, i < 60 → -128 ≤ (T i).toInt ∧ (T i).toInt ≤ 127
def fg (T : Nat → Int32) (n lo hi p : Nat) : Option Nat := if p < n ∧ 48 + (lo : Int) ≤ (T p).toInt ∧ (T p).toInt ≤ 48 + (hi : Int) then some ((T p).toInt - 48).toNat else none
def sk (T : Nat → Int32) (n : Nat) : Nat → Nat → Nat
  | 0, p => p
  | f + 1, p => if p < n ∧ T p = 32 then sk T n f (p + 1) else p
def skp (T : Nat → Int32) (n p : Nat) : Nat := sk T n 60 p
def lf (T : Nat → Int32) (n p : Nat) : Nat → Nat × Bool × (Nat → Nat)
  | 0 => (p, true, fun _ => 0)
  | i + 1 => if (lf T n p i).2.1 then (match fg T n 0 9 (lf T n p i).1 with | some v => ((lf T n p i).1 + 1, true, fu (lf T n p i).2.2 i v) | none => ((lf T n p i).1, false, (lf T n p i).2.2)) else ((lf T n p i).1, false, (lf T n p i).2.2)
def lett (c : Int32) : Option Nat := if c = 97 then some 5 else if c = 98 then some 1 else if c = 103 then some 4 else if c = 108 then some 2 else if c = 118 then some 3 else if c = 119 then some 0 else none
def letp (T : Nat → Int32) (n p : Nat) : Option Nat := if p < n then lett (T p) else none
/-- the women from p on, i of them before -/
def wm (T : Nat → Int32) (n : Nat) : Nat → Nat → Nat → (Nat → Nat → Nat) → Option Nat × Nat × (Nat → Nat → Nat)
  | 0, i, p, a => (if p < n then some p else none, i, a)
  | f + 1, i, p, a => if p < n ∨ i = 0 then
      (match letp T n p with
      | none => (some p, i, a)
      | some k => match fg T n 0 5 (p + 1) with
        | none => (some (p + 1), i, a)
        | some pl => match fg T n 1 9 (p + 2) with
          | none => (some (p + 2), i, a)
          | some ta => match fg T n 0 3 (p + 3) with
            | none => (some (p + 3), i, a)
            | some tu => wm T n f (i + 1) (skp T n (p + 4)) (fuu (fuu (fuu (fuu a 1 i k) 2 i pl) 3 i ta) 4 i tu))
    else (none, i, a)
def rd (T : Nat → Int32) (n : Nat) : Option Nat × Ds :=
  let p := skp T n 0
  if p < n ∧ T p = 100 then
    (let L := lf T n (p + 1) 7
     if L.2.1 then (let w := wm T n 6 0 (skp T n L.1) (fun c j => if c = 0 then L.2.2 j else 0)
        (w.1, (fun j => if j = 0 then w.2.1 else if j = 1 then L.2.2 6 else 0), w.2.2))
     else (some L.1, (fun _ => 0), fun _ _ => 0))
  else (some p, (fun _ => 0), fun _ _ => 0)
theorem fg_some {T : Nat → Int32} {n lo hi p v : Nat} (h : fg T n lo hi p = some v) : p < n ∧ lo ≤ v ∧ v ≤ hi ∧ (T p).toInt = 48 + (v : Int) := by
  unfold fg at h
  by_cases c : p < n ∧ 48 + (lo : Int) ≤ (T p).toInt ∧ (T p).toInt ≤ 48 + (hi : Int)
  · rw [if_pos c] at h
    have := Option.some.inj h
    omega
  · rw [if_neg c] at h
    cases h
theorem fg_none {T : Nat → Int32} {n lo hi p : Nat} (h : fg T n lo hi p = none) : ¬ (p < n ∧ 48 + (lo : Int) ≤ (T p).toInt ∧ (T p).toInt ≤ 48 + (hi : Int)) := fun c => by
  unfold fg at h
  rw [if_pos c] at h
  cases h
theorem sk_le {T : Nat → Int32} {n : Nat} : ∀ f p, p ≤ n → p ≤ sk T n f p ∧ sk T n f p ≤ n
  | 0, p, h => ⟨Nat.le_refl p, h⟩
  | f + 1, p, h => by
    unfold sk
    by_cases c : p < n ∧ T p = 32
    · rw [if_pos c]
      have := sk_le (T := T) f (p + 1) (show p + 1 ≤ n by omega)
      omega
    · rw [if_neg c]
      exact ⟨Nat.le_refl p, h⟩
theorem sk_more {T : Nat → Int32} {n : Nat} : ∀ f g p, n - p ≤ f → f ≤ g → sk T n g p = sk T n f p
  | 0, 0, p, _, _ => rfl
  | 0, g + 1, p, h, _ => by
    unfold sk
    rw [if_neg (by omega)]
  | f + 1, 0, p, _, h => by omega
  | f + 1, g + 1, p, h, h2 => by
    unfold sk
    by_cases c : p < n ∧ T p = 32
    · rw [if_pos c, if_pos c]
      exact sk_more f g (p + 1) (by omega) (by omega)
    · rw [if_neg c, if_neg c]
theorem skp_le {T : Nat → Int32} {n p : Nat} (h : p ≤ n) : p ≤ skp T n p ∧ skp T n p ≤ n := sk_le 60 p h
theorem lf_le {T : Nat → Int32} {n p : Nat} (h : p ≤ n) : ∀ i, (lf T n p i).1 ≤ n
  | 0 => h
  | i + 1 => by
    have ih := lf_le (T := T) h i
    unfold lf
    by_cases c : (lf T n p i).2.1 = true
    · rw [if_pos c]
      cases e : fg T n 0 9 (lf T n p i).1 with
      | none => exact ih
      | some v => have := (fg_some e).1; show (lf T n p i).1 + 1 ≤ n; omega
    · rw [if_neg c]; exact ih
theorem lf_9 {T : Nat → Int32} {n p : Nat} : ∀ i j, (lf T n p i).2.2 j ≤ 9
  | 0, j => Nat.zero_le 9
  | i + 1, j => by
    have ih := lf_9 (T := T) (n := n) (p := p) i
    unfold lf
    by_cases c : (lf T n p i).2.1 = true
    · rw [if_pos c]
      cases e : fg T n 0 9 (lf T n p i).1 with
      | none => exact ih j
      | some v =>
        have := (fg_some e).2.2.1
        show fu (lf T n p i).2.2 i v j ≤ 9
        unfold fu
        split
        · exact this
        · exact ih j
    · rw [if_neg c]; exact ih j
theorem lf_succ (T : Nat → Int32) (n p i : Nat) : lf T n p (i + 1) = (if (lf T n p i).2.1 then (match fg T n 0 9 (lf T n p i).1 with | some v => ((lf T n p i).1 + 1, true, fu (lf T n p i).2.2 i v) | none => ((lf T n p i).1, false, (lf T n p i).2.2)) else ((lf T n p i).1, false, (lf T n p i).2.2)) := rfl
/-- once it fails it stays -/
theorem lf_stay {T : Nat → Int32} {n p i : Nat} (h : (lf T n p i).2.1 = false) : ∀ k, (lf T n p (i + k)).1 = (lf T n p i).1 ∧ (lf T n p (i + k)).2.1 = false
  | 0 => ⟨rfl, h⟩
  | k + 1 => by
    have ih := lf_stay h k
    have e := lf_succ T n p (i + k)
    rw [ih.2] at e
    rw [show i + (k + 1) = i + k + 1 from rfl, e]
    exact ⟨ih.1, rfl⟩
theorem lett_5 {c : Int32} {k : Nat} (h : lett c = some k) : k ≤ 5 := by
  unfold lett at h
  repeat' split at h
  all_goals first | (have := Option.some.inj h; omega) | cases h
/-- what is read keeps its bounds -/
def wmB (i : Nat) (a : Nat → Nat → Nat) : Prop := (∀ p, p < 6 → a 0 p ≤ 9) ∧ ∀ j, j < i → a 1 j ≤ 5 ∧ a 2 j ≤ 5 ∧ 1 ≤ a 3 j ∧ a 3 j ≤ 9 ∧ a 4 j ≤ 3
theorem wmB_step {i k pl ta tu : Nat} {a : Nat → Nat → Nat} (h : wmB i a) (h1 : k ≤ 5) (h2 : pl ≤ 5) (h3 : 1 ≤ ta) (h4 : ta ≤ 9) (h5 : tu ≤ 3) : wmB (i + 1) (fuu (fuu (fuu (fuu a 1 i k) 2 i pl) 3 i ta) 4 i tu) := by
  refine ⟨fun p hp => by simpa [fuu] using h.1 p hp, fun j hj => ?_⟩
  by_cases e : j = i
  · subst e
    simp [fuu]
    omega
  · simpa [fuu, e] using h.2 j (by omega)
theorem wm_B {T : Nat → Int32} {n : Nat} : ∀ f i p a, i + f = 6 → wmB i a → wmB (wm T n f i p a).2.1 (wm T n f i p a).2.2 ∧ (wm T n f i p a).2.1 ≤ 6 ∧ (i ≤ (wm T n f i p a).2.1 ∧ ((wm T n f i p a).1 = none → 0 < (wm T n f i p a).2.1))
  | 0, i, p, a, hi, h => ⟨h, by show i ≤ 6; omega, Nat.le_refl i, fun _ => by show 0 < i; omega⟩
  | f + 1, i, p, a, hi, h => by
    unfold wm
    by_cases c : p < n ∨ i = 0
    · rw [if_pos c]
      cases e1 : letp T n p with
      | none => exact ⟨h, by show i ≤ 6; omega, Nat.le_refl i, fun q => by cases q⟩
      | some k =>
        cases e2 : fg T n 0 5 (p + 1) with
        | none => exact ⟨h, by show i ≤ 6; omega, Nat.le_refl i, fun q => by cases q⟩
        | some pl =>
          cases e3 : fg T n 1 9 (p + 2) with
          | none => exact ⟨h, by show i ≤ 6; omega, Nat.le_refl i, fun q => by cases q⟩
          | some ta =>
            cases e4 : fg T n 0 3 (p + 3) with
            | none => exact ⟨h, by show i ≤ 6; omega, Nat.le_refl i, fun q => by cases q⟩
            | some tu =>
              have hk : k ≤ 5 := by
                unfold letp at e1
                split at e1
                · exact lett_5 e1
                · cases e1
              have := wm_B f (i + 1) (skp T n (p + 4)) _ (by omega) (wmB_step h hk (fg_some e2).2.2.1 (fg_some e3).2.1 (fg_some e3).2.2.1 (fg_some e4).2.2.1) (T := T) (n := n)
              exact ⟨this.1, this.2.1, Nat.le_trans (Nat.le_succ i) this.2.2.1, this.2.2.2⟩
    · rw [if_neg c]
      exact ⟨h, by show i ≤ 6; omega, Nat.le_refl i, fun _ => by show 0 < i; omega⟩
theorem rd_B {T : Nat → Int32} {n : Nat} (h : (rd T n).1 = none) : BV (rd T n).2.1 (rd T n).2.2 ∧ (rd T n).2.1 2 = 0 ∧ 0 < (rd T n).2.1 0 := by
  unfold rd at h ⊢
  by_cases c : skp T n 0 < n ∧ T (skp T n 0) = 100
  · simp only [if_pos c] at h ⊢
    by_cases c2 : (lf T n (skp T n 0 + 1) 7).2.1 = true
    · simp only [if_pos c2] at h ⊢
      have w := wm_B (T := T) (n := n) 6 0 (skp T n (lf T n (skp T n 0 + 1) 7).1) (fun c j => if c = 0 then (lf T n (skp T n 0 + 1) 7).2.2 j else 0) (by omega) ⟨fun p _ => lf_9 7 p, fun j hj => absurd hj (Nat.not_lt_zero j)⟩
      exact ⟨⟨w.2.1, lf_9 7 6, Nat.zero_le 8, w.1.1, w.1.2, fun y hy => absurd hy (Nat.not_lt_zero y), fun i y _ hy => absurd hy (Nat.not_lt_zero y)⟩, rfl, w.2.2.2 h⟩
    · simp only [if_neg c2] at h
      cases h
  · simp only [if_neg c] at h
    cases h
