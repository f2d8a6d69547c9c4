/-! numbers that are tested: ok x w: x is one of the first w -/
def ok (x : Int32) (w : Nat) : Prop := ∃ k, k < w ∧ x = nI k
theorem ok_lt0 {x : Int32} {w : Nat} (hw : w < 2 ^ 31) (h : ok x w) : ¬ x < 0 := by
  obtain ⟨k, hk, rfl⟩ := h
  exact nI_pos (by omega)
theorem ok_le {x : Int32} {w : Nat} (hw : w < 2 ^ 31) (h : ok x w) : ¬ nI w ≤ x := by
  obtain ⟨k, hk, rfl⟩ := h
  exact nI_ge hk (by omega)
theorem nok {x : Int32} {w : Nat} (h : ¬ ok x w) (h0 : ¬ x < 0) : nI w ≤ x := by
  obtain ⟨k, hk, rfl⟩ := nI_of h0
  exact nI_le (by
    apply Decidable.byContradiction
    intro q
    exact h ⟨k, by omega, rfl⟩) (by omega)
/-- below 0, or as much as w: else in it -/
theorem g_ge {x : Int32} {w : Nat} {A B C : Prop} (hw : w < 2 ^ 31) (ht : ok x w → C) (hf : ¬ ok x w → A) (hf2 : ¬ ok x w → B) : (x < 0 → A) ∧ (¬ x < 0 → (nI w ≤ x → B) ∧ (¬ nI w ≤ x → C)) :=
  ⟨fun q => hf (fun o => ok_lt0 hw o q), fun q => ⟨fun q2 => hf2 (fun o => ok_le hw o q2), fun q2 => ht (Classical.byContradiction fun o => q2 (nok o q))⟩⟩
theorem nI_sub1 (w : Nat) (hw : w < 2 ^ 31) (x : Int32) (h0 : ¬ x < 0) : (nI w - 1 < x) ↔ nI w ≤ x := by
  obtain ⟨k, hk, rfl⟩ := nI_of h0
  by_cases hz : w = 0
  · subst hz
    constructor
    · intro _; exact nI_le (Nat.zero_le k) hk
    · intro _
      rw [Int32.lt_iff_toInt_lt, show (nI 0 - 1 : Int32) = -1 from rfl, nI_toInt hk]
      have : (-1 : Int32).toInt = -1 := rfl
      omega
  · rw [show nI w - 1 = nI (w - 1) from pk_sub (b := 1) (by omega)]
    constructor
    · intro q
      have := (nI_ltI (by omega) hk).mp q
      exact nI_le (by omega) hk
    · intro q
      refine (nI_ltI (by omega) hk).mpr ?_
      apply Decidable.byContradiction
      intro z
      exact nI_ge (show k < w by omega) hw q
/-- the model's test of the same -/
theorem m_in_t {x hi : Int32} {w : Nat} {s : Sg} {Q : Int32 → Sg → Prop} (hw : w < 2 ^ 31) (he : hi = nI w - 1) (ht : ok x w → Q 1 s) (hf : ¬ ok x w → Q 0 s) : p_X6_in x 0 hi s Q := by
  subst he
  refine ⟨fun q => hf (fun o => ok_lt0 hw o q), fun q => ⟨fun q2 => hf (fun o => ok_le hw o ((nI_sub1 w hw x q).mp q2)), fun q2 => ht (Classical.byContradiction fun o => q2 ((nI_sub1 w hw x q).mpr (nok o q)))⟩⟩
/-! a shelf of the class: h its number, m items, w cells each -/
def isS (h m w : Nat) : Prop := (h = 1 ∧ m = 6 ∧ w = 40) ∨ (h = 10 ∧ m = 4 ∧ w = 60)
theorem S_t0 {h m w : Nat} (i : isS h m w) : tX h 0 = some (h + 1) := by rcases i with ⟨rfl, rfl, rfl⟩ | ⟨rfl, rfl, rfl⟩ <;> rfl
theorem S_t1 {h m w : Nat} (i : isS h m w) : tX h 1 = some (h + 2) := by rcases i with ⟨rfl, rfl, rfl⟩ | ⟨rfl, rfl, rfl⟩ <;> rfl
theorem S_k1 {h m w : Nat} (i : isS h m w) : kX (h + 1) = 7 := by rcases i with ⟨rfl, rfl, rfl⟩ | ⟨rfl, rfl, rfl⟩ <;> rfl
theorem S_k2 {h m w : Nat} (i : isS h m w) : kX (h + 2) = 9 := by rcases i with ⟨rfl, rfl, rfl⟩ | ⟨rfl, rfl, rfl⟩ <;> rfl
theorem S_l1 {h m w : Nat} (i : isS h m w) : lX (h + 1) = m := by rcases i with ⟨rfl, rfl, rfl⟩ | ⟨rfl, rfl, rfl⟩ <;> rfl
theorem S_l2 {h m w : Nat} (i : isS h m w) : lX (h + 2) = m := by rcases i with ⟨rfl, rfl, rfl⟩ | ⟨rfl, rfl, rfl⟩ <;> rfl
theorem S_c {h m w : Nat} (i : isS h m w) : ∀ k, k < m → tX (h + 2) k = some (h + 3 + k) := by rcases i with ⟨rfl, rfl, rfl⟩ | ⟨rfl, rfl, rfl⟩ <;> decide +kernel
theorem S_kc {h m w : Nat} (i : isS h m w) : ∀ k, k < m → kX (h + 3 + k) = 7 := by rcases i with ⟨rfl, rfl, rfl⟩ | ⟨rfl, rfl, rfl⟩ <;> decide +kernel
theorem S_lc {h m w : Nat} (i : isS h m w) : ∀ k, k < m → lX (h + 3 + k) = w := by rcases i with ⟨rfl, rfl, rfl⟩ | ⟨rfl, rfl, rfl⟩ <;> decide +kernel
theorem S_m {h m w : Nat} (i : isS h m w) : m ≤ 6 ∧ w ≤ 60 ∧ 4 ≤ m ∧ 40 ≤ w := by rcases i with ⟨rfl, rfl, rfl⟩ | ⟨rfl, rfl, rfl⟩ <;> decide
theorem S_h {h m w : Nat} (i : isS h m w) : kX h = 3 := by rcases i with ⟨rfl, rfl, rfl⟩ | ⟨rfl, rfl, rfl⟩ <;> rfl
/-- the size of an item: missing, or at most w -/
def szOk (w : Nat) (z : Int32) : Prop := z = -1 ∨ ∃ n, n ≤ w ∧ z = nI n
def SH (s : Sg) (h m w : Nat) : Prop := ∀ k, k < m → szOk w (gR s (h + 1) k)
section SHL
variable {s : Sg} {h m w : Nat}
theorem s_isNumber (i : isS h m w) {x : Int32} {Q : Int32 → Sg → Prop} (ht : ok x m → Q 1 s) (hf : ¬ ok x m → Q 0 s) : p_X4_isNumber h x s Q := by
  have hm := (S_m i).1
  have hq := g_ge (A := Q 0 s) (B := Q 0 s) (C := Q 1 s) (show m < 2 ^ 31 by omega) ht hf hf
  unfold p_X4_isNumber
  refine ⟨hq.1, fun q => ⟨h + 1, S_t0 i, Or.inl (S_k1 i), ?_⟩⟩
  rw [S_l1 i]
  refine ⟨(hq.2 q).1, fun q2 => ⟨h + 2, S_t1 i, Or.inr (Or.inr (S_k2 i)), ?_⟩⟩
  rw [S_l2 i]
  exact ⟨fun q3 => absurd q3 q2, (hq.2 q).2⟩
theorem s_sizeOf (i : isS h m w) {x : Int32} {k : Nat} {Q : Int32 → Sg → Prop} (hx : x = nI k) (hk : k < m) (hQ : Q (gR s (h + 1) k) s) : p_X4_sizeOf h x s Q := by
  have hm := (S_m i).1
  unfold p_X4_sizeOf
  refine s_isNumber i (fun _ => br_f (by decide) ⟨h + 1, S_t0 i, S_k1 i, ?_, ?_⟩) (fun q => absurd ⟨k, hk, hx⟩ q)
  · rw [hx, S_l1 i]; exact vp_in_nI hk (by omega)
  · rw [hx, nI_clamp (by omega)]; exact hQ
theorem s_sizeNo (i : isS h m w) {x : Int32} {Q : Int32 → Sg → Prop} (hx : ¬ ok x m) (hQ : Q (-1) s) : p_X4_sizeOf h x s Q := by
  unfold p_X4_sizeOf
  exact s_isNumber i (fun q => absurd q hx) (fun _ => br_t rfl hQ)
theorem s_cellsOf (i : isS h m w) {x : Int32} {k : Nat} {Q : Option Nat → Sg → Prop} (hx : x = nI k) (hk : k < m) (hQ : Q (some (h + 3 + k)) s) : p_X4_cellsOf h x s Q := by
  have hm := (S_m i).1
  unfold p_X4_cellsOf
  refine s_isNumber i (fun _ => br_f (by decide) ⟨h + 2, S_t1 i, Or.inr (S_k2 i), ?_, ?_⟩) (fun q => absurd ⟨k, hk, hx⟩ q)
  · rw [hx, S_l2 i]; exact vp_in_nI hk (by omega)
  · rw [hx, nI_clamp (by omega), S_c i k hk]; exact hQ
theorem s_isThere (i : isS h m w) {x : Int32} {k : Nat} {Q : Int32 → Sg → Prop} (hx : x = nI k) (hk : k < m) (ht : ¬ gR s (h + 1) k = -1 → Q 1 s) (hf : gR s (h + 1) k = -1 → Q 0 s) : p_X4_isThere h x s Q := by
  unfold p_X4_isThere
  exact s_sizeOf i hx hk ⟨hf, ht⟩
theorem s_isCell (i : isS h m w) {x y : Int32} {k n : Nat} {Q : Int32 → Sg → Prop} (hx : x = nI k) (hk : k < m) (hn : n ≤ w) (hz : gR s (h + 1) k = nI n) (ht : ok y n → Q 1 s) (hf : ¬ ok y n → Q 0 s) : p_X4_isCell h x y s Q := by
  have hw := (S_m i).2.1
  have hq := g_ge (A := Q 0 s) (B := Q 0 s) (C := Q 1 s) (show n < 2 ^ 31 by omega) ht hf hf
  unfold p_X4_isCell
  refine ⟨hq.1, fun q => s_sizeOf i hx hk ?_⟩
  rw [hz]
  exact hq.2 q
theorem s_cell (i : isS h m w) {x y : Int32} {k n j : Nat} {Q : Int32 → Sg → Prop} (hx : x = nI k) (hk : k < m) (hn : n ≤ w) (hz : gR s (h + 1) k = nI n) (hy : y = nI j) (hj : j < n) (hQ : Q (gR s (h + 3 + k) j) s) : p_X4_cell h x y s Q := by
  have hm := S_m i
  unfold p_X4_cell
  exact s_isCell i hx hk hn hz (fun _ => br_f (by decide) (s_cellsOf i hx hk (e_item rfl (S_kc i k hk) hy (by rw [S_lc i k hk]; omega) hQ))) (fun q => absurd ⟨j, hj, hy⟩ q)
theorem s_setCell (i : isS h m w) {x y v : Int32} {k n j : Nat} {Q : Sg → Prop} (hx : x = nI k) (hk : k < m) (hn : n ≤ w) (hz : gR s (h + 1) k = nI n) (hy : y = nI j) (hj : j < n) (hQ : Q (setR s (h + 3 + k) (upd (gR s (h + 3 + k)) j v))) : p_X4_setCell h x y v s Q := by
  have hm := S_m i
  unfold p_X4_setCell
  exact s_isCell i hx hk hn hz (fun _ => br_f (by decide) (s_cellsOf i hx hk (e_setItem rfl (S_kc i k hk) hy (by rw [S_lc i k hk]; omega) hQ))) (fun q => absurd ⟨j, hj, hy⟩ q)
theorem s_make (i : isS h m w) {x y v : Int32} {k n : Nat} {Q : Sg → Prop} (hx : x = nI k) (hk : k < m) (hn : n ≤ w) (hy : y = nI n) (hQ : ∀ s', gI s' = gI s → gJ s' = gJ s → gT s' = gT s → (∀ c, c ≠ h + 1 → c ≠ h + 3 + k → gR s' c = gR s c) → gR s' (h + 1) = upd (gR s (h + 1)) k (nI n) → (∀ j, j < w → gR s' (h + 3 + k) j = v) → Q s') : p_X4_make h x y v s Q := by
  have hm := S_m i
  have hc := S_lc i k hk
  have hb : bX.2.1 (h + 3 + k) = 7 := S_kc i k hk
  have hb2 : bX.2.2.1 (h + 3 + k) = w := hc
  unfold p_X4_make
  refine s_cellsOf i hx hk (br_f (fun q => by cases q) (br_f (by rw [hy]; exact nI_pos (by omega)) ⟨h + 3 + k, rfl, Or.inl (S_kc i k hk), br_f ?_ ?_⟩))
  · rw [hc, hy]
    intro q
    have := (nI_ltI (by omega) (by omega)).mp q
    omega
  · refine e_setItem (S_t0 i) (S_k1 i) hx (by rw [S_l1 i]; exact hk) ?_
    refine e_fill rfl hb (by rw [hb2]; omega) (hQ _ rfl rfl rfl (fun c h1 h2 => ?_) ?_ (fun j hj => ?_))
    · rw [gR_ne _ _ h2, gR_ne _ _ h1]
    · rw [gR_ne _ _ (by omega), gR_same, hy]
    · rw [gR_same, if_pos (by rw [hb2]; exact hj)]
theorem s_remove (i : isS h m w) {x : Int32} {k : Nat} {Q : Sg → Prop} (hx : x = nI k) (hk : k < m) (hQ : Q (setR s (h + 1) (upd (gR s (h + 1)) k (-1)))) : p_X4_remove h x s Q := by
  have hm := S_m i
  unfold p_X4_remove
  exact e_setItem (S_t0 i) (S_k1 i) hx (by rw [S_l1 i]; exact hk) hQ
/-- a stretch of c cells from y on -/
theorem s_hasStretch (i : isS h m w) {x y : Int32} {k n c : Nat} {z : Int32} {Q : Int32 → Sg → Prop} (hx : x = nI k) (hk : k < m) (hn : n ≤ w) (hz : gR s (h + 1) k = nI n) (hc : c < 2 ^ 31) (hzc : z = nI c) (ht : (∃ j, j + c ≤ n ∧ y = nI j) → Q 1 s) (hf : ¬ (∃ j, j + c ≤ n ∧ y = nI j) → Q 0 s) : p_X4_hasStretch h x y z s Q := by
  have hm := S_m i
  subst hzc
  unfold p_X4_hasStretch
  refine ⟨fun q => hf (fun ⟨j, h1, h2⟩ => nI_pos (by omega) (h2 ▸ q)), fun q => s_sizeOf i hx hk ?_⟩
  obtain ⟨j, hj, rfl⟩ := nI_of q
  rw [hz]
  refine ⟨fun q2 => hf (fun ⟨j', h1, h2⟩ => ?_), fun q2 => br_f (nI_pos hc) (s_sizeOf i hx hk ?_)⟩
  · have := nI_inj hj (by omega) h2
    have := (nI_ltI (by omega) hj).mp q2
    omega
  · have hjn : j ≤ n := by
      apply Decidable.byContradiction
      intro z
      exact q2 ((nI_ltI (by omega) hj).mpr (by omega))
    rw [hz, pk_sub hjn]
    refine ⟨fun q3 => hf (fun ⟨j', h1, h2⟩ => ?_), fun q3 => ht ⟨j, ?_, rfl⟩⟩
    · have := nI_inj hj (by omega) h2
      have := (nI_ltI (by omega) hc).mp q3
      omega
    · apply Decidable.byContradiction
      intro z
      exact q3 ((nI_ltI (by omega) hc).mpr (by omega))
theorem s_copyCells (i : isS h m w) {x y x2 y2 : Int32} {k k2 n n2 c j j2 : Nat} {z : Int32} {Q : Sg → Prop} (hx : x = nI k) (hk : k < m) (hn : n ≤ w) (hz : gR s (h + 1) k = nI n) (hx2 : x2 = nI k2) (hk2 : k2 < m) (hn2 : n2 ≤ w) (hz2 : gR s (h + 1) k2 = nI n2) (hzc : z = nI c) (hy : y = nI j) (hj : j + c ≤ n) (hy2 : y2 = nI j2) (hj2 : j2 + c ≤ n2) (hQ : Q (setR s (h + 3 + k2) (va_cpy (gR s (h + 3 + k)) (gR s (h + 3 + k2)) j j2 c))) : p_X4_copyCells h x y x2 y2 z s Q := by
  have hm := S_m i
  unfold p_X4_copyCells
  refine s_hasStretch i hx hk hn hz (by omega) hzc (fun _ => br_f (by decide) ?_) (fun q => absurd ⟨j, hj, hy⟩ q)
  refine s_hasStretch i hx2 hk2 hn2 hz2 (by omega) hzc (fun _ => br_f (by decide) ?_) (fun q => absurd ⟨j2, hj2, hy2⟩ q)
  exact s_cellsOf i hx hk (s_cellsOf i hx2 hk2 (e_copyStretch rfl rfl (S_kc i k hk) (S_kc i k2 hk2) hy hy2 hzc (by rw [S_lc i k hk]; omega) (by rw [S_lc i k2 hk2]; omega) hQ))
/-- how many are there -/
theorem s_howMany (i : isS h m w) {Q : Int32 → Sg → Prop} (hQ : Q (nI (itr (fun k x => x + if gR s (h + 1) k = -1 then 0 else 1) 0 m 0)) s) : p_X4_howMany h s Q := by
  have hm := S_m i
  unfold p_X4_howMany
  refine ⟨m + 1, ?_⟩
  refine lp_up (fun f k x => p_X4_howMany_L4 Q f h (nI x) (nI k) s) (fun _ _ => True) m (fun k x => x + if gR s (h + 1) k = -1 then 0 else 1) (fun x => Q (nI x) s) (fun f x _ hx => ?_) (fun f k x hk _ hx => ?_) (fun _ _ _ _ => trivial) m 0 0 (by omega) trivial hQ
  · unfold p_X4_howMany_L4
    refine ⟨h + 1, S_t0 i, Or.inl (S_k1 i), br_t ?_ hx⟩
    rw [S_l1 i]; exact nI_le (Nat.le_refl _) (by omega)
  · unfold p_X4_howMany_L4 p_X4_howMany_b24
    refine ⟨h + 1, S_t0 i, Or.inl (S_k1 i), br_f ?_ ?_⟩
    · rw [S_l1 i]; exact nI_ge hk (by omega)
    · refine s_isThere i rfl hk (fun q => br_f (by decide) ?_) (fun q => br_t rfl ?_)
      · rw [if_neg q] at hx
        rw [nI_1, nI_1]; exact hx
      · rw [if_pos q] at hx
        rw [nI_1]; exact hx
end SHL
