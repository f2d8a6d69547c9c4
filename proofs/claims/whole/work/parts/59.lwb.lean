theorem lg_self (x : Int64) : lg_cmp x x = 0 := by simp [lg_cmp]
/-- the law's frame: all cells that are new -/
abbrev fNw (s : State) : Nat → Prop := fun q => s.heap.size ≤ q
def apt (adX adM : Nat → Nat) : Prop := ∀ i j, i < 85 → j < 29 → adX i ≠ adM j
section LWB
variable {p : Program} {l : Launch} {e : Env} {R : Room} {s : State} {m : MethodId} {args : Array Value} {below : List Frame} {meth : Method} {c : Code} {H : Heap} {locs : List Loc} {cells slots : Nat} {Q : State → Prop}
variable {pc : Nat} {ls : Array Slot} {rest st0 : List Value} {B B2 : Cf} {D : va_G} {cs : Cs} {ad ad2 : Nat → Nat} {σ σ2 : Sg} {a : Array Value}
theorem lw_keep {H1 : Heap} (hap : ∀ i j, i < B.1 → j < B2.1 → ad i ≠ ad2 j) (hP : va_P D vwCl (wl B2 cs ad2 σ2) H) (hk : ∀ q : Nat, q < H.size → ¬ fAd B ad q → H1[q]? = H[q]?) : va_P D vwCl (wl B2 cs ad2 σ2) H1 :=
  hP.kept (fun k x hx => hk x.1 ((hP k x hx).lt) (fun h => by
    obtain ⟨i, hi, e1⟩ := h
    obtain ⟨hj, e2⟩ := wl_of hx
    rw [e2] at e1
    exact hap i k hi hj e1.symm))
theorem lw_i {Q1 : Int32 → Sg → Prop} (hr : va_Run p l e R s m args below meth c H locs cells slots 0 0 (F0 m pc ls st0) rest (QI B D cs ad Q1 a) (fAd B ad)) (hS : va_S (fNw s) s.heap H locs) (hge : ∀ k, k < B.1 → s.heap.size ≤ ad k) (hap : ∀ i j, i < B.1 → j < B2.1 → ad i ≠ ad2 j) (hP2 : va_P D vwCl (wl B2 cs ad2 σ2) H)
    (kk : ∀ (r : Int32) (u : Sg) (H1 : Heap) (locs1 : List Loc), Q1 r u → va_P D vwCl (wl B cs ad u) H1 → va_P D vwCl (wl B2 cs ad2 σ2) H1 → va_S (fNw s) s.heap H1 locs1 → W p l e R s m args below meth c H1 locs1 cells slots Q (F0 m (pc + 3) ls (.int r :: rest))) : W p l e R s m args below meth c H locs cells slots Q (F0 m pc ls st0) :=
  va_calli hr hS (fun q _ h => by obtain ⟨k, hk, rfl⟩ := h; exact hge k hk) (fun q h => by obtain ⟨k, hk, rfl⟩ := h; exact hge k hk) (fun r u t H1 locs1 ht _ hq hB _ hk hS1 => kk r u H1 locs1 hq (by rw [← ht]; exact hB) (lw_keep hap hP2 hk) hS1)
theorem lw_l {Q1 : Int64 → Sg → Prop} (hr : va_Run p l e R s m args below meth c H locs cells slots 0 0 (F0 m pc ls st0) rest (QL B D cs ad Q1 a) (fAd B ad)) (hS : va_S (fNw s) s.heap H locs) (hge : ∀ k, k < B.1 → s.heap.size ≤ ad k) (hap : ∀ i j, i < B.1 → j < B2.1 → ad i ≠ ad2 j) (hP2 : va_P D vwCl (wl B2 cs ad2 σ2) H)
    (kk : ∀ (r : Int64) (u : Sg) (H1 : Heap) (locs1 : List Loc), Q1 r u → va_P D vwCl (wl B cs ad u) H1 → va_P D vwCl (wl B2 cs ad2 σ2) H1 → va_S (fNw s) s.heap H1 locs1 → W p l e R s m args below meth c H1 locs1 cells slots Q (F0 m (pc + 3) ls (.long r :: rest))) : W p l e R s m args below meth c H locs cells slots Q (F0 m pc ls st0) :=
  va_calll hr hS (fun q _ h => by obtain ⟨k, hk, rfl⟩ := h; exact hge k hk) (fun q h => by obtain ⟨k, hk, rfl⟩ := h; exact hge k hk) (fun r u t H1 locs1 ht _ hq hB _ hk hS1 => kk r u H1 locs1 hq (by rw [← ht]; exact hB) (lw_keep hap hP2 hk) hS1)
end LWB
def lw_0 (v1 v2 v3 v4 v5 : Int32) (σX σM : Sg) (K : Sg → Sg → Prop) : Prop := p_X5_row 0 v1 v2 σX (fun rX sX => p_X6_row 0 v1 v2 σM (fun rM sM => rX = rM ∧ K sX sM))
def lw_1 (v1 v2 v3 v4 v5 : Int32) (σX σM : Sg) (K : Sg → Sg → Prop) : Prop := p_X5_lay 0 v1 v2 v3 σX (fun rX sX => p_X6_lay 0 v1 v2 v3 σM (fun rM sM => rX = rM ∧ K sX sM))
def lw_2 (v1 v2 v3 v4 v5 : Int32) (σX σM : Sg) (K : Sg → Sg → Prop) : Prop := p_X5_at 0 v1 v2 σX (fun rX sX => p_X6_at 0 v1 v2 σM (fun rM sM => rX = rM ∧ K sX sM))
def lw_3 (v1 v2 v3 v4 v5 : Int32) (σX σM : Sg) (K : Sg → Sg → Prop) : Prop := p_X5_tear 0 v1 σX (fun rX sX => p_X6_tear 0 v1 σM (fun rM sM => rX = rM ∧ K sX sM))
def lw_4 (v1 v2 v3 v4 v5 : Int32) (σX σM : Sg) (K : Sg → Sg → Prop) : Prop := p_X5_copy 0 v1 v2 v3 v4 v5 σX (fun rX sX => p_X6_copy 0 v1 v2 v3 v4 v5 σM (fun rM sM => rX = rM ∧ K sX sM))
def lw_5 (v1 v2 v3 v4 v5 : Int32) (σX σM : Sg) (K : Sg → Sg → Prop) : Prop := p_X5_mean 0 v1 σX (fun rX sX => p_X6_mean 0 v1 σM (fun rM sM => rX = rM ∧ K sX sM))
def lw_6 (v1 v2 v3 v4 v5 : Int32) (σX σM : Sg) (K : Sg → Sg → Prop) : Prop := p_X5_text 0 v1 v2 σX (fun rX sX => p_X6_text 0 v1 v2 σM (fun rM sM => rX = rM ∧ K sX sM))
def lw_7 (v1 v2 v3 v4 v5 : Int32) (σX σM : Sg) (K : Sg → Sg → Prop) : Prop := p_X5_put 0 v1 v2 v3 σX (fun rX sX => p_X6_put 0 v1 v2 v3 σM (fun rM sM => rX = rM ∧ K sX sM))
def lw_8 (v1 v2 v3 v4 v5 : Int32) (σX σM : Sg) (K : Sg → Sg → Prop) : Prop := p_X5_fault 0 v1 σX (fun rX sX => p_X6_fault 0 v1 σM (fun rM sM => rX = rM ∧ K sX sM))
def lw_9 (v1 v2 v3 v4 v5 : Int32) (σX σM : Sg) (K : Sg → Sg → Prop) : Prop := p_X5_delta 0 v1 σX (fun rX sX => p_X6_delta 0 v1 σM (fun rM sM => rX = rM ∧ K sX sM))
def lw_10 (v1 v2 v3 v4 v5 : Int32) (σX σM : Sg) (K : Sg → Sg → Prop) : Prop := p_X5_woman 0 v1 v2 σX (fun rX sX => p_X6_woman 0 v1 v2 σM (fun rM sM => rX = rM ∧ K sX sM))
def lw_11 (v1 v2 v3 v4 v5 : Int32) (σX σM : Sg) (K : Sg → Sg → Prop) : Prop := p_X5_mark 0 v1 v2 σX (fun rX sX => p_X6_mark 0 v1 v2 σM (fun rM sM => rX = rM ∧ K sX sM))
def lw_12 (v1 v2 v3 v4 v5 : Int32) (σX σM : Sg) (K : Sg → Sg → Prop) : Prop := p_X5_hem 0 v1 v2 σX (fun rX sX => p_X6_hem 0 v1 v2 σM (fun rM sM => rX = rM ∧ K sX sM))
def lw_13 (v1 v2 v3 v4 v5 : Int32) (σX σM : Sg) (K : Sg → Sg → Prop) : Prop := p_X5_would 0 v1 v2 σX (fun rX sX => p_X6_would 0 v1 v2 σM (fun rM sM => rX = rM ∧ K sX sM))
def lw_14 (v1 v2 v3 v4 v5 : Int32) (σX σM : Sg) (K : Sg → Sg → Prop) : Prop := p_X5_flood 0 v1 σX (fun rX sX => p_X6_flood 0 v1 σM (fun rM sM => rX = rM ∧ K sX sM))
def lw_15 (v1 v2 v3 v4 v5 : Int32) (σX σM : Sg) (K : Sg → Sg → Prop) : Prop := p_X5_move 0 v1 v2 σX (fun rX sX => p_X6_move 0 v1 v2 σM (fun rM sM => rX = rM ∧ K sX sM))
def lw_16 (v1 v2 v3 v4 v5 : Int32) (σX σM : Sg) (K : Sg → Sg → Prop) : Prop := p_X5_dyke 0 v1 σX (fun rX sX => p_X6_dyke 0 v1 σM (fun rM sM => rX = rM ∧ K sX sM))
def lw_17 (v1 v2 v3 v4 v5 : Int32) (σX σM : Sg) (K : Sg → Sg → Prop) : Prop := p_X5_tuck 0 v1 σX (fun rX sX => p_X6_tuck 0 v1 σM (fun rM sM => rX = rM ∧ K sX sM))
def lw_18 (v1 v2 v3 v4 v5 : Int32) (σX σM : Sg) (K : Sg → Sg → Prop) : Prop := p_X5_undo 0 v1 σX (fun rX sX => p_X6_undo 0 v1 σM (fun rM sM => rX = rM ∧ K sX sM))
def lw_19 (v1 v2 v3 v4 v5 : Int32) (σX σM : Sg) (K : Sg → Sg → Prop) : Prop := p_X5_keep 0 v1 σX (fun rX sX => p_X6_keep 0 v1 σM (fun rM sM => rX = rM ∧ K sX sM))
def lw_20 (v1 v2 v3 v4 v5 : Int32) (σX σM : Sg) (K : Sg → Sg → Prop) : Prop := p_X5_on 0 v1 σX (fun rX sX => p_X6_on 0 v1 σM (fun rM sM => rX = rM ∧ K sX sM))
def lw_21 (v1 v2 v3 v4 v5 : Int32) (σX σM : Sg) (K : Sg → Sg → Prop) : Prop := p_X5_know 0 v1 v2 σX (fun rX sX => p_X6_know 0 v1 v2 σM (fun rM sM => rX = rM ∧ K sX sM))
def lw_22 (v1 v2 v3 v4 v5 : Int32) (σX σM : Sg) (K : Sg → Sg → Prop) : Prop := p_X5_high 0 v1 σX (fun rX sX => p_X6_high 0 v1 σM (fun rM sM => rX = rM ∧ K sX sM))
def lw_23 (v1 v2 v3 v4 v5 : Int32) (σX σM : Sg) (K : Sg → Sg → Prop) : Prop := p_X5_look 0 v1 v2 σX (fun rX sX => p_X6_look 0 v1 v2 σM (fun rM sM => rX = rM ∧ K sX sM))
def lw_24 (v1 v2 v3 v4 v5 : Int32) (σX σM : Sg) (K : Sg → Sg → Prop) : Prop := p_X5_looks 0 v1 σX (fun rX sX => p_X6_looks 0 v1 σM (fun rM sM => rX = rM ∧ K sX sM))
def lw_25 (v1 v2 v3 v4 v5 : Int32) (σX σM : Sg) (K : Sg → Sg → Prop) : Prop := p_X5_line 0 v1 σX (fun rX sX => p_X6_line 0 v1 σM (fun rM sM => rX = rM ∧ K sX sM))
def lw_26 (v1 v2 v3 v4 v5 : Int32) (σX σM : Sg) (K : Sg → Sg → Prop) : Prop := p_X5_kinds 0 v1 v2 σX (fun rX sX => p_X6_kinds 0 v1 v2 σM (fun rM sM => rX = rM ∧ K sX sM))
def lw_27 (v1 v2 v3 v4 v5 : Int32) (σX σM : Sg) (K : Sg → Sg → Prop) : Prop := p_X5_test 0 v1 v2 σX (fun rX sX => p_X6_test 0 v1 v2 σM (fun rM sM => rX = rM ∧ K sX sM))
def lw_28 (v1 v2 v3 v4 v5 : Int32) (σX σM : Sg) (K : Sg → Sg → Prop) : Prop := p_X5_whose 0 v1 σX (fun rX sX => p_X6_whose 0 v1 σM (fun rM sM => rX = rM ∧ K sX sM))
def lw_29 (v1 v2 v3 v4 v5 : Int32) (σX σM : Sg) (K : Sg → Sg → Prop) : Prop := p_X5_raise 0 v1 v2 v3 σX (fun rX sX => p_X6_raise 0 v1 v2 v3 σM (fun rM sM => rX = rM ∧ K sX sM))
def lw_30 (v1 v2 v3 v4 v5 : Int32) (σX σM : Sg) (K : Sg → Sg → Prop) : Prop := p_X5_dry 0  σX (fun rX sX => p_X6_dry 0  σM (fun rM sM => rX = rM ∧ K sX sM))
def lw_31 (v1 v2 v3 v4 v5 : Int32) (σX σM : Sg) (K : Sg → Sg → Prop) : Prop := p_X5_least 0 v1 v2 v3 σX (fun rX sX => p_X6_least 0 v1 v2 v3 σM (fun rM sM => rX = rM ∧ K sX sM))
def lw_32 (v1 v2 v3 v4 v5 : Int32) (σX σM : Sg) (K : Sg → Sg → Prop) : Prop := p_X5_duel 0 v1 v2 σX (fun rX sX => p_X6_duel 0 v1 v2 σM (fun rM sM => rX = rM ∧ K sX sM))
def lw_33 (v1 v2 v3 v4 v5 : Int32) (σX σM : Sg) (K : Sg → Sg → Prop) : Prop := p_X5_odds 0 v1 σX (fun rX sX => p_X6_odds 0 v1 σM (fun rM sM => rX = rM ∧ K sX sM))
def lw_34 (v1 v2 v3 v4 v5 : Int32) (σX σM : Sg) (K : Sg → Sg → Prop) : Prop := p_X5_mid 0  σX (fun rX sX => p_X6_mid 0  σM (fun rM sM => rX = rM ∧ K sX sM))
def lw_35 (v1 v2 v3 v4 v5 : Int32) (σX σM : Sg) (K : Sg → Sg → Prop) : Prop := p_X5_lots 0 v1 v2 σX (fun rX sX => p_X6_lots 0 v1 v2 σM (fun rM sM => rX = rM ∧ K sX sM))
def lw_36 (v1 v2 v3 v4 v5 : Int32) (σX σM : Sg) (K : Sg → Sg → Prop) : Prop := p_X5_asked 0  σX (fun rX sX => p_X6_asked 0  σM (fun rM sM => rX = rM ∧ K sX sM))
def lw_37 (v1 v2 v3 v4 v5 : Int32) (σX σM : Sg) (K : Sg → Sg → Prop) : Prop := p_X5_upper 0  σX (fun rX sX => p_X6_upper 0  σM (fun rM sM => rX = rM ∧ K sX sM))
def lw_38 (v1 v2 v3 v4 v5 : Int32) (σX σM : Sg) (K : Sg → Sg → Prop) : Prop := p_X5_lower 0  σX (fun rX sX => p_X6_lower 0  σM (fun rM sM => rX = rM ∧ K sX sM))
def lw_39 (v1 v2 v3 v4 v5 : Int32) (σX σM : Sg) (K : Sg → Sg → Prop) : Prop := p_X5_count 0 v1 σX (fun rX sX => p_X6_count 0 v1 σM (fun rM sM => rX = rM ∧ K sX sM))
def lw_40 (v1 v2 v3 v4 v5 : Int32) (σX σM : Sg) (K : Sg → Sg → Prop) : Prop := p_X5_finding 0  σX (fun rX sX => p_X6_finding 0  σM (fun rM sM => rX = rM ∧ K sX sM))
def lw_41 (v1 v2 v3 v4 v5 : Int32) (σX σM : Sg) (K : Sg → Sg → Prop) : Prop := p_X5_findings 0 v1 σX (fun rX sX => p_X6_findings 0 v1 σM (fun rM sM => rX = rM ∧ K sX sM))
def lw_42 (v1 v2 v3 v4 v5 : Int32) (σX σM : Sg) (K : Sg → Sg → Prop) : Prop := p_X5_digest 0  σX (fun rX sX => p_X6_digest 0  σM (fun rM sM => rX = rM ∧ K sX sM))
def lwStep (v0 v1 v2 v3 v4 v5 : Int32) (σX σM : Sg) (K : Sg → Sg → Prop) : Prop := ((v0 = 0 → lw_0 v1 v2 v3 v4 v5 σX σM K) ∧ (¬ v0 = 0 → ((v0 = 1 → lw_1 v1 v2 v3 v4 v5 σX σM K) ∧ (¬ v0 = 1 → ((v0 = 2 → lw_2 v1 v2 v3 v4 v5 σX σM K) ∧ (¬ v0 = 2 → ((v0 = 3 → lw_3 v1 v2 v3 v4 v5 σX σM K) ∧ (¬ v0 = 3 → ((v0 = 4 → lw_4 v1 v2 v3 v4 v5 σX σM K) ∧ (¬ v0 = 4 → ((v0 = 5 → lw_5 v1 v2 v3 v4 v5 σX σM K) ∧ (¬ v0 = 5 → ((v0 = 6 → lw_6 v1 v2 v3 v4 v5 σX σM K) ∧ (¬ v0 = 6 → ((v0 = 7 → lw_7 v1 v2 v3 v4 v5 σX σM K) ∧ (¬ v0 = 7 → ((v0 = 8 → lw_8 v1 v2 v3 v4 v5 σX σM K) ∧ (¬ v0 = 8 → ((v0 = 9 → lw_9 v1 v2 v3 v4 v5 σX σM K) ∧ (¬ v0 = 9 → ((v0 = 10 → lw_10 v1 v2 v3 v4 v5 σX σM K) ∧ (¬ v0 = 10 → ((v0 = 11 → lw_11 v1 v2 v3 v4 v5 σX σM K) ∧ (¬ v0 = 11 → ((v0 = 12 → lw_12 v1 v2 v3 v4 v5 σX σM K) ∧ (¬ v0 = 12 → ((v0 = 13 → lw_13 v1 v2 v3 v4 v5 σX σM K) ∧ (¬ v0 = 13 → ((v0 = 14 → lw_14 v1 v2 v3 v4 v5 σX σM K) ∧ (¬ v0 = 14 → ((v0 = 15 → lw_15 v1 v2 v3 v4 v5 σX σM K) ∧ (¬ v0 = 15 → ((v0 = 16 → lw_16 v1 v2 v3 v4 v5 σX σM K) ∧ (¬ v0 = 16 → ((v0 = 17 → lw_17 v1 v2 v3 v4 v5 σX σM K) ∧ (¬ v0 = 17 → ((v0 = 18 → lw_18 v1 v2 v3 v4 v5 σX σM K) ∧ (¬ v0 = 18 → ((v0 = 19 → lw_19 v1 v2 v3 v4 v5 σX σM K) ∧ (¬ v0 = 19 → ((v0 = 20 → lw_20 v1 v2 v3 v4 v5 σX σM K) ∧ (¬ v0 = 20 → ((v0 = 21 → lw_21 v1 v2 v3 v4 v5 σX σM K) ∧ (¬ v0 = 21 → ((v0 = 22 → lw_22 v1 v2 v3 v4 v5 σX σM K) ∧ (¬ v0 = 22 → ((v0 = 23 → lw_23 v1 v2 v3 v4 v5 σX σM K) ∧ (¬ v0 = 23 → ((v0 = 24 → lw_24 v1 v2 v3 v4 v5 σX σM K) ∧ (¬ v0 = 24 → ((v0 = 25 → lw_25 v1 v2 v3 v4 v5 σX σM K) ∧ (¬ v0 = 25 → ((v0 = 26 → lw_26 v1 v2 v3 v4 v5 σX σM K) ∧ (¬ v0 = 26 → ((v0 = 27 → lw_27 v1 v2 v3 v4 v5 σX σM K) ∧ (¬ v0 = 27 → ((v0 = 28 → lw_28 v1 v2 v3 v4 v5 σX σM K) ∧ (¬ v0 = 28 → ((v0 = 29 → lw_29 v1 v2 v3 v4 v5 σX σM K) ∧ (¬ v0 = 29 → ((v0 = 30 → lw_30 v1 v2 v3 v4 v5 σX σM K) ∧ (¬ v0 = 30 → ((v0 = 31 → lw_31 v1 v2 v3 v4 v5 σX σM K) ∧ (¬ v0 = 31 → ((v0 = 32 → lw_32 v1 v2 v3 v4 v5 σX σM K) ∧ (¬ v0 = 32 → ((v0 = 33 → lw_33 v1 v2 v3 v4 v5 σX σM K) ∧ (¬ v0 = 33 → ((v0 = 34 → lw_34 v1 v2 v3 v4 v5 σX σM K) ∧ (¬ v0 = 34 → ((v0 = 35 → lw_35 v1 v2 v3 v4 v5 σX σM K) ∧ (¬ v0 = 35 → ((v0 = 36 → lw_36 v1 v2 v3 v4 v5 σX σM K) ∧ (¬ v0 = 36 → ((v0 = 37 → lw_37 v1 v2 v3 v4 v5 σX σM K) ∧ (¬ v0 = 37 → ((v0 = 38 → lw_38 v1 v2 v3 v4 v5 σX σM K) ∧ (¬ v0 = 38 → ((v0 = 39 → lw_39 v1 v2 v3 v4 v5 σX σM K) ∧ (¬ v0 = 39 → ((v0 = 40 → lw_40 v1 v2 v3 v4 v5 σX σM K) ∧ (¬ v0 = 40 → ((v0 = 41 → lw_41 v1 v2 v3 v4 v5 σX σM K) ∧ (¬ v0 = 41 → ((v0 = 42 → lw_42 v1 v2 v3 v4 v5 σX σM K) ∧ (¬ v0 = 42 → K σX σM))))))))))))))))))))))))))))))))))))))))))))))))))))))))))))))))))))))))))))))))))))))
