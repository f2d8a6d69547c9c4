/-! raise: the least WET, and the first of the ways to it; levels j from the last place on: place 5 - j -/
def mnT (h : Nat → Nat) (n : Nat) : Nat := itr (fun x b => min b (h x)) 0 n 1000000
theorem mnT_s (h : Nat → Nat) (n : Nat) : mnT h (n + 1) = min (mnT h n) (h n) := by
  unfold mnT
  rw [itr_succ, Nat.zero_add]
theorem mnT_le {h : Nat → Nat} {x : Nat} : ∀ {n : Nat}, x < n → mnT h n ≤ h x := by
  intro n
  induction n with
  | zero => intro hx; omega
  | succ n ih =>
    intro hx
    rw [mnT_s]
    by_cases e : x = n
    · subst e; omega
    · have := ih (by omega); omega
theorem mnT_max (h : Nat → Nat) : ∀ n, mnT h n ≤ 1000000 := by
  intro n
  induction n with
  | zero => exact Nat.le_refl _
  | succ n ih => rw [mnT_s]; omega
theorem mnT_at {h : Nat → Nat} : ∀ {n : Nat}, mnT h n < 1000000 → ∃ x, x < n ∧ h x = mnT h n := by
  intro n
  induction n with
  | zero => intro q; exact absurd q (Nat.lt_irrefl _)
  | succ n ih =>
    intro q
    rw [mnT_s] at q ⊢
    by_cases e : h n ≤ mnT h n
    · exact ⟨n, by omega, by omega⟩
    · obtain ⟨x, hx, e2⟩ := ih (by omega)
      exact ⟨x, by omega, by omega⟩
def wyN (g c : Nat → Nat) (f p : Nat) (L : Nat → Nat) (left x : Nat) : Nat := if g p + x ≤ 9 then min 1000000 (c p * (f - (g p + x)) + L (left - x)) else 1000000
def LsN (g c : Nat → Nat) (f : Nat) : Nat → Nat → Nat
  | 0, left => if left = 0 then 0 else 1000000
  | r + 1, left => mnT (wyN g c f (5 - r) (LsN g c f r) left) (left + 1)
theorem LsN_max (g c : Nat → Nat) (f r left : Nat) : LsN g c f r left ≤ 1000000 := by
  cases r with
  | zero => show (if left = 0 then 0 else 1000000) ≤ _; split <;> omega
  | succ r => exact mnT_max _ _
def feN (g : Nat → Nat) : Nat → (Nat → Nat) → Prop
  | 0, _ => True
  | r + 1, m => g (5 - r) + m r ≤ 9 ∧ feN g r m
def suN : Nat → (Nat → Nat) → Nat
  | 0, _ => 0
  | r + 1, m => suN r m + m r
def ttN (g c : Nat → Nat) (f : Nat) : Nat → (Nat → Nat) → Nat
  | 0, _ => 0
  | r + 1, m => c (5 - r) * (f - (g (5 - r) + m r)) + ttN g c f r m
def cdN : Nat → (Nat → Nat) → Nat
  | 0, _ => 0
  | r + 1, m => cdN r m + m r * 7 ^ r
def dgN (v j : Nat) : Nat := v / 7 ^ j % 7
theorem feN_c {g m m' : Nat → Nat} : ∀ {r : Nat}, (∀ j, j < r → m j = m' j) → feN g r m → feN g r m' := by
  intro r
  induction r with
  | zero => intro _ _; trivial
  | succ r ih => intro h q; exact ⟨by rw [← h r (by omega)]; exact q.1, ih (fun j hj => h j (by omega)) q.2⟩
theorem suN_c {m m' : Nat → Nat} : ∀ {r : Nat}, (∀ j, j < r → m j = m' j) → suN r m = suN r m' := by
  intro r
  induction r with
  | zero => intro _; rfl
  | succ r ih => intro h; show suN r m + m r = suN r m' + m' r; rw [ih (fun j hj => h j (by omega)), h r (by omega)]
theorem ttN_c {g c : Nat → Nat} {f : Nat} {m m' : Nat → Nat} : ∀ {r : Nat}, (∀ j, j < r → m j = m' j) → ttN g c f r m = ttN g c f r m' := by
  intro r
  induction r with
  | zero => intro _; rfl
  | succ r ih =>
    intro h
    show c (5 - r) * (f - (g (5 - r) + m r)) + ttN g c f r m = c (5 - r) * (f - (g (5 - r) + m' r)) + ttN g c f r m'
    rw [ih (fun j hj => h j (by omega)), h r (by omega)]
theorem cdN_c {m m' : Nat → Nat} : ∀ {r : Nat}, (∀ j, j < r → m j = m' j) → cdN r m = cdN r m' := by
  intro r
  induction r with
  | zero => intro _; rfl
  | succ r ih => intro h; show cdN r m + m r * 7 ^ r = cdN r m' + m' r * 7 ^ r; rw [ih (fun j hj => h j (by omega)), h r (by omega)]
theorem cdN_lt {m : Nat → Nat} : ∀ {r : Nat}, (∀ j, j < r → m j ≤ 6) → cdN r m < 7 ^ r := by
  intro r
  induction r with
  | zero => intro _; exact Nat.one_pos
  | succ r ih =>
    intro h
    have h1 := ih (fun j hj => h j (by omega))
    have h2 := Nat.mul_le_mul_right (7 ^ r) (h r (by omega))
    show cdN r m + m r * 7 ^ r < 7 ^ (r + 1)
    rw [Nat.pow_succ]
    omega
theorem LsN_le {g c : Nat → Nat} {f : Nat} {m : Nat → Nat} : ∀ {r : Nat}, feN g r m → LsN g c f r (suN r m) ≤ ttN g c f r m := by
  intro r
  induction r with
  | zero => intro _; exact Nat.le_refl _
  | succ r ih =>
    intro h
    have h1 : mnT (wyN g c f (5 - r) (LsN g c f r) (suN r m + m r)) (suN r m + m r + 1) ≤ wyN g c f (5 - r) (LsN g c f r) (suN r m + m r) (m r) := mnT_le (by omega)
    have h2 := ih h.2
    have h3 : wyN g c f (5 - r) (LsN g c f r) (suN r m + m r) (m r) = min 1000000 (c (5 - r) * (f - (g (5 - r) + m r)) + LsN g c f r (suN r m + m r - m r)) := if_pos h.1
    rw [Nat.add_sub_cancel] at h3
    show mnT (wyN g c f (5 - r) (LsN g c f r) (suN r m + m r)) (suN r m + m r + 1) ≤ c (5 - r) * (f - (g (5 - r) + m r)) + ttN g c f r m
    omega
def fwN (p : Nat → Bool) : Nat → Nat → Nat
  | 0, _ => 0
  | r + 1, i => if p i then i else fwN p r (i + 1)
theorem fwN_at {p : Nat → Bool} {x : Nat} (hp : p x = true) : ∀ r i, i ≤ x → x < i + r → p (fwN p r i) = true ∧ i ≤ fwN p r i ∧ fwN p r i ≤ x ∧ ∀ y, i ≤ y → y < fwN p r i → p y = false := by
  intro r
  induction r with
  | zero => intro i h1 h2; omega
  | succ r ih =>
    intro i h1 h2
    unfold fwN
    cases e : p i with
    | true => exact ⟨e, Nat.le_refl _, h1, fun y h3 h4 => absurd h4 (by simp; omega)⟩
    | false =>
      have ne : i ≠ x := fun q => by rw [q, hp] at e; exact Bool.noConfusion e
      obtain ⟨a1, a2, a3, a4⟩ := ih (i + 1) (by omega) (by omega)
      rw [if_neg Bool.false_ne_true]
      refine ⟨a1, by omega, a3, fun y h3 h4 => ?_⟩
      by_cases q : y = i
      · rw [q]; exact e
      · exact a4 y (by omega) h4
theorem fwN_lt (p : Nat → Bool) : ∀ r i, fwN p r i = 0 ∨ fwN p r i < i + r := by
  intro r
  induction r with
  | zero => intro i; exact Or.inl rfl
  | succ r ih =>
    intro i
    unfold fwN
    split
    · exact Or.inr (by omega)
    · rcases ih (i + 1) with h | h
      · exact Or.inl h
      · exact Or.inr (by omega)
def fsN (g c : Nat → Nat) (f r left : Nat) : Nat := fwN (fun x => wyN g c f (5 - r) (LsN g c f r) left x == LsN g c f (r + 1) left) (left + 1) 0
theorem fsN_le (g c : Nat → Nat) (f r left : Nat) : fsN g c f r left ≤ left := by
  rcases fwN_lt (fun x => wyN g c f (5 - r) (LsN g c f r) left x == LsN g c f (r + 1) left) (left + 1) 0 with h | h
  · show fwN _ _ _ ≤ _; omega
  · show fwN _ _ _ ≤ _; omega
def gdN (g c : Nat → Nat) (f : Nat) : Nat → Nat → Nat → Nat
  | 0, _, _ => 0
  | r + 1, left, j => if j = r then fsN g c f r left else gdN g c f r (left - fsN g c f r left) j
theorem gdN_ok {g c : Nat → Nat} {f : Nat} : ∀ r left, left ≤ 6 → LsN g c f r left < 1000000 → feN g r (gdN g c f r left) ∧ suN r (gdN g c f r left) = left ∧ ttN g c f r (gdN g c f r left) = LsN g c f r left ∧ (∀ j, j < r → gdN g c f r left j ≤ 6) ∧ ∀ m, (∀ j, j < r → m j ≤ 6) → feN g r m → suN r m = left → ttN g c f r m = LsN g c f r left → cdN r (gdN g c f r left) ≤ cdN r m := by
  intro r
  induction r with
  | zero =>
    intro left h6 hL
    have h0 : left = 0 := by
      by_cases e : left = 0
      · exact e
      · exact absurd (show LsN g c f 0 left = 1000000 from if_neg e) (by omega)
    subst h0
    exact ⟨trivial, rfl, rfl, fun j hj => absurd hj (Nat.not_lt_zero j), fun m _ _ _ _ => Nat.le_refl _⟩
  | succ r ih =>
    intro left h6 hL
    obtain ⟨x0, hx0, e0⟩ := mnT_at (h := wyN g c f (5 - r) (LsN g c f r) left) (n := left + 1) hL
    have e0 : wyN g c f (5 - r) (LsN g c f r) left x0 = LsN g c f (r + 1) left := e0
    obtain ⟨a1, a2, a3, a4⟩ := fwN_at (p := fun x => wyN g c f (5 - r) (LsN g c f r) left x == LsN g c f (r + 1) left) (x := x0) (by simp [e0]) (left + 1) 0 (Nat.zero_le _) (by omega)
    have hxl := fsN_le g c f r left
    have a1 : (wyN g c f (5 - r) (LsN g c f r) left (fsN g c f r left) == LsN g c f (r + 1) left) = true := a1
    have a4 : ∀ y, y < fsN g c f r left → wyN g c f (5 - r) (LsN g c f r) left y ≠ LsN g c f (r + 1) left := fun y hy q => by
      have := a4 y (Nat.zero_le _) hy
      simp [q] at this
    have e1 : wyN g c f (5 - r) (LsN g c f r) left (fsN g c f r left) = LsN g c f (r + 1) left := by simpa using a1
    have er : ∀ j, j < r → gdN g c f (r + 1) left j = gdN g c f r (left - fsN g c f r left) j := fun j hj => by
      show (if j = r then _ else _) = _
      exact if_neg (by omega)
    have er2 : gdN g c f (r + 1) left r = fsN g c f r left := by
      show (if r = r then _ else _) = _
      exact if_pos rfl
    generalize hG : gdN g c f (r + 1) left = G at er er2 ⊢
    generalize hx : fsN g c f r left = x at *
    have h9 : g (5 - r) + x ≤ 9 := by
      by_cases q : g (5 - r) + x ≤ 9
      · exact q
      · have : wyN g c f (5 - r) (LsN g c f r) left x = 1000000 := if_neg q
        omega
    have e2 : wyN g c f (5 - r) (LsN g c f r) left x = min 1000000 (c (5 - r) * (f - (g (5 - r) + x)) + LsN g c f r (left - x)) := if_pos h9
    obtain ⟨b1, b2, b3, b4, b5⟩ := ih (left - x) (by omega) (by omega)
    refine ⟨⟨by rw [er2]; exact h9, feN_c (fun j hj => (er j hj).symm) b1⟩, ?_, ?_, fun j hj => ?_, fun m hm hf hs ht => ?_⟩
    · show suN r G + G r = left
      rw [suN_c er, b2, er2]
      omega
    · show c (5 - r) * (f - (g (5 - r) + G r)) + ttN g c f r G = _
      rw [ttN_c er, b3, er2]
      omega
    · by_cases q : j = r
      · rw [q, er2]; omega
      · rw [er j (by omega)]; exact b4 j (by omega)
    · show cdN r G + G r * 7 ^ r ≤ cdN r m + m r * 7 ^ r
      rw [cdN_c er, er2]
      have hs : suN r m + m r = left := hs
      have ht : c (5 - r) * (f - (g (5 - r) + m r)) + ttN g c f r m = LsN g c f (r + 1) left := ht
      have hl := LsN_le (c := c) (f := f) hf.2
      have hw : LsN g c f (r + 1) left ≤ wyN g c f (5 - r) (LsN g c f r) left (m r) := mnT_le (by omega)
      have hw2 : wyN g c f (5 - r) (LsN g c f r) left (m r) = min 1000000 (c (5 - r) * (f - (g (5 - r) + m r)) + LsN g c f r (left - m r)) := if_pos hf.1
      rw [show suN r m = left - m r by omega] at hl
      have hxm : x ≤ m r := by
        by_cases q : m r < x
        · exact absurd (show wyN g c f (5 - r) (LsN g c f r) left (m r) = LsN g c f (r + 1) left by omega) (a4 _ q)
        · omega
      by_cases q : x = m r
      · rw [q] at e2 b5 ⊢
        have := b5 m (fun j hj => hm j (by omega)) hf.2 (by omega) (by rw [q] at e1; omega)
        omega
      · have h1 := cdN_lt b4
        have h2 := Nat.mul_le_mul_right (7 ^ r) (show x + 1 ≤ m r by omega)
        rw [Nat.add_mul] at h2
        omega
theorem dg_cd {m : Nat → Nat} (h : ∀ j, j < 6 → m j ≤ 6) : ∀ j, j < 6 → dgN (cdN 6 m) j = m j := by
  have e : cdN 6 m = m 0 + m 1 * 7 + m 2 * 49 + m 3 * 343 + m 4 * 2401 + m 5 * 16807 := by
    show 0 + m 0 * 7 ^ 0 + m 1 * 7 ^ 1 + m 2 * 7 ^ 2 + m 3 * 7 ^ 3 + m 4 * 7 ^ 4 + m 5 * 7 ^ 5 = _
    omega
  have h0 := h 0 (by decide)
  have h1 := h 1 (by decide)
  have h2 := h 2 (by decide)
  have h3 := h 3 (by decide)
  have h4 := h 4 (by decide)
  have h5 := h 5 (by decide)
  intro j hj
  rw [e]
  unfold dgN
  rcases (show j = 0 ∨ j = 1 ∨ j = 2 ∨ j = 3 ∨ j = 4 ∨ j = 5 by omega) with rfl | rfl | rfl | rfl | rfl | rfl <;> simp only [Nat.reducePow] <;> omega
theorem cd_dg {v : Nat} (h : v < 117649) : cdN 6 (dgN v) = v := by
  show 0 + v / 7 ^ 0 % 7 * 7 ^ 0 + v / 7 ^ 1 % 7 * 7 ^ 1 + v / 7 ^ 2 % 7 * 7 ^ 2 + v / 7 ^ 3 % 7 * 7 ^ 3 + v / 7 ^ 4 % 7 * 7 ^ 4 + v / 7 ^ 5 % 7 * 7 ^ 5 = v
  simp only [Nat.reducePow]
  omega
def okR (g : Nat → Nat) (n v : Nat) : Prop := feN g 6 (dgN v) ∧ suN 6 (dgN v) = n
theorem raise_ok {g c : Nat → Nat} {f n b : Nat} (hn : n ≤ 6) (hb : b < 117649) (hok : okR g n b) (hT : ttN g c f 6 (dgN b) < 1000000) (hmin : ∀ w, w < 117649 → okR g n w → ttN g c f 6 (dgN b) ≤ ttN g c f 6 (dgN w) ∧ (w < b → ttN g c f 6 (dgN b) < ttN g c f 6 (dgN w))) : LsN g c f 6 n = ttN g c f 6 (dgN b) ∧ ∀ j, j < 6 → gdN g c f 6 n j = dgN b j := by
  have h1 := LsN_le (c := c) (f := f) hok.1
  rw [hok.2] at h1
  obtain ⟨b1, b2, b3, b4, b5⟩ := gdN_ok (g := g) (c := c) (f := f) 6 n hn (by omega)
  have hd := dg_cd b4
  have hv := cdN_lt b4
  have hv : cdN 6 (gdN g c f 6 n) < 117649 := hv
  have e1 : ttN g c f 6 (dgN (cdN 6 (gdN g c f 6 n))) = LsN g c f 6 n := by rw [ttN_c hd, b3]
  obtain ⟨c1, c2⟩ := hmin _ hv ⟨feN_c (fun j hj => (hd j hj).symm) b1, by rw [suN_c hd, b2]⟩
  have e2 : LsN g c f 6 n = ttN g c f 6 (dgN b) := by omega
  have h2 := b5 (dgN b) (fun j _ => by have := Nat.mod_lt (b / 7 ^ j) (show 0 < 7 by decide); unfold dgN; omega) hok.1 hok.2 e2.symm
  rw [cd_dg hb] at h2
  have e3 : cdN 6 (gdN g c f 6 n) = b := by
    by_cases q : cdN 6 (gdN g c f 6 n) < b
    · have := c2 q; omega
    · omega
  exact ⟨e2, fun j hj => by rw [← hd j hj, e3]⟩
theorem okR_ex {g : Nat → Nat} {n : Nat} (hn : n ≤ 6) (hg : ∀ p, p < 6 → g p ≤ 9) (hr : n + (g 0 + g 1 + g 2 + g 3 + g 4 + g 5) ≤ 54) : ∃ v, v < 117649 ∧ okR g n v := by
  have h0 := hg 0 (by decide)
  have h1 := hg 1 (by decide)
  have h2 := hg 2 (by decide)
  have h3 := hg 3 (by decide)
  have h4 := hg 4 (by decide)
  have h5 := hg 5 (by decide)
  obtain ⟨x0, x1, x2, x3, x4, x5, y0, y1, y2, y3, y4, y5, e⟩ : ∃ x0 x1 x2 x3 x4 x5 : Nat, g 0 + x0 ≤ 9 ∧ g 1 + x1 ≤ 9 ∧ g 2 + x2 ≤ 9 ∧ g 3 + x3 ≤ 9 ∧ g 4 + x4 ≤ 9 ∧ g 5 + x5 ≤ 9 ∧ x5 + x4 + x3 + x2 + x1 + x0 = n := by
    refine ⟨min n (9 - g 0), min (n - min n (9 - g 0)) (9 - g 1), min (n - min n (9 - g 0) - (9 - g 1)) (9 - g 2), min (n - (9 - g 0) - (9 - g 1) - (9 - g 2)) (9 - g 3), min (n - (9 - g 0) - (9 - g 1) - (9 - g 2) - (9 - g 3)) (9 - g 4), min (n - (9 - g 0) - (9 - g 1) - (9 - g 2) - (9 - g 3) - (9 - g 4)) (9 - g 5), ?_, ?_, ?_, ?_, ?_, ?_, ?_⟩ <;> omega
  have hm : ∀ j, j < 6 → (fun j => if j = 0 then x5 else if j = 1 then x4 else if j = 2 then x3 else if j = 3 then x2 else if j = 4 then x1 else x0) j ≤ 6 := fun j hj => by
    show (if j = 0 then x5 else if j = 1 then x4 else if j = 2 then x3 else if j = 3 then x2 else if j = 4 then x1 else x0) ≤ 6
    repeat' split
    all_goals omega
  have hd := dg_cd hm
  refine ⟨_, cdN_lt hm, feN_c (fun j hj => (hd j hj).symm) ⟨y0, y1, y2, y3, y4, y5, trivial⟩, ?_⟩
  rw [suN_c hd]
  show 0 + x5 + x4 + x3 + x2 + x1 + x0 = n
  omega
