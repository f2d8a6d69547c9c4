/-! the canonical world: every object and array has a number; ad: its address. What they hold by number: gI (an int field), gJ (a long field), gR (an array of ints or bytes), gT (the one reference that changes) -/
abbrev Sg : Type := (Nat → Nat → Int32) × (Nat → Nat → Int64) × (Nat → Nat → Int32) × Option Nat
def gI (s : Sg) (k j : Nat) : Int32 := s.1 k j
def gJ (s : Sg) (k j : Nat) : Int64 := s.2.1 k j
def gR (s : Sg) (k : Nat) : Nat → Int32 := s.2.2.1 k
def gT (s : Sg) : Option Nat := s.2.2.2
def setI (s : Sg) (k j : Nat) (v : Int32) : Sg := (fun a b => if a = k ∧ b = j then v else s.1 a b, s.2)
def setJ (s : Sg) (k j : Nat) (v : Int64) : Sg := (s.1, fun a b => if a = k ∧ b = j then v else s.2.1 a b, s.2.2)
def setR (s : Sg) (k : Nat) (f : Nat → Int32) : Sg := (s.1, s.2.1, fun a => if a = k then f else s.2.2.1 a, s.2.2.2)
def setT (s : Sg) (o : Option Nat) : Sg := (s.1, s.2.1, s.2.2.1, o)
/-- how many; the kind of each (0 Delta, 1 Dykes, 2 Reader, 3 Shelf, 4 HemLine, 5 the model, 6 bytes, 7 ints, 8 Delta[], 9 int[][], 99 none); an array's length; what a reference's field (or place) holds -/
abbrev Cf : Type := Nat × (Nat → Nat) × (Nat → Nat) × (Nat → Nat → Option Nat)
abbrev Cs : Type := ClassId × ClassId × ClassId × ClassId
def fo0 (t : Nat → Nat → Option Nat) (ad : Nat → Nat) (s : Sg) (k : Nat) : List Value := [.int (gI s k 0), .int (gI s k 1), .int (gI s k 2), .int (gI s k 3), va_re ad (t k 4), va_re ad (t k 5), va_re ad (t k 6), va_re ad (t k 7), va_re ad (t k 8), va_re ad (t k 9), va_re ad (t k 10), va_re ad (t k 11), va_re ad (t k 12), va_re ad (t k 13), va_re ad (t k 14)]
def fo1 (t : Nat → Nat → Option Nat) (ad : Nat → Nat) (s : Sg) (k : Nat) : List Value := [va_re ad (t k 0), va_re ad (t k 1), va_re ad (t k 2)]
def fo2 (t : Nat → Nat → Option Nat) (ad : Nat → Nat) (s : Sg) (k : Nat) : List Value := [va_re ad (t k 0), va_re ad (gT s), .int (gI s k 2), .int (gI s k 3)]
def fo3 (t : Nat → Nat → Option Nat) (ad : Nat → Nat) (s : Sg) (k : Nat) : List Value := [va_re ad (t k 0), va_re ad (t k 1)]
def fo4 (t : Nat → Nat → Option Nat) (ad : Nat → Nat) (s : Sg) (k : Nat) : List Value := [va_re ad (t k 0), va_re ad (t k 1), va_re ad (t k 2), va_re ad (t k 3), va_re ad (t k 4), va_re ad (t k 5), va_re ad (t k 6), va_re ad (t k 7), .int (gI s k 8), .int (gI s k 9), .long (gJ s k 10), .long (gJ s k 11)]
def cellOf (B : Cf) (cs : Cs) (ad : Nat → Nat) (s : Sg) (k : Nat) : va_E := if B.2.1 k = 0 then .inr (0, fo0 B.2.2.2 ad s k) else if B.2.1 k = 1 then .inr (1, fo1 B.2.2.2 ad s k) else if B.2.1 k = 2 then .inr (2, fo2 B.2.2.2 ad s k) else if B.2.1 k = 3 then .inr (3, fo3 B.2.2.2 ad s k) else if B.2.1 k = 4 then .inr (4, fo4 B.2.2.2 ad s k) else if B.2.1 k = 6 then .inl (cs.2.1, B.2.2.1 k, .inl (gR s k)) else if B.2.1 k = 7 then .inl (cs.1, B.2.2.1 k, .inl (gR s k)) else if B.2.1 k = 8 then .inl (cs.2.2.1, B.2.2.1 k, .inr (.inr (.inr (.inr (fun i => (B.2.2.2 k i).map ad))))) else .inl (cs.2.2.2, B.2.2.1 k, .inr (.inr (.inr (.inr (fun i => (B.2.2.2 k i).map ad)))))
def wl (B : Cf) (cs : Cs) (ad : Nat → Nat) (s : Sg) : va_W := (List.range B.1).map (fun k => (ad k, cellOf B cs ad s k))
theorem wl_at (B : Cf) (cs : Cs) (ad : Nat → Nat) (s : Sg) {k : Nat} (h : k < B.1) : (wl B cs ad s)[k]? = some (ad k, cellOf B cs ad s k) := by
  unfold wl
  rw [List.getElem?_map, List.getElem?_range h]
  rfl
theorem wl_of {B : Cf} {cs : Cs} {ad : Nat → Nat} {s : Sg} {k : Nat} {q : Nat × va_E} (h : (wl B cs ad s)[k]? = some q) : k < B.1 ∧ q = (ad k, cellOf B cs ad s k) := by
  have hk : k < B.1 := by
    have := (List.getElem?_eq_some_iff.mp h).1
    unfold wl at this
    rwa [List.length_map, List.length_range] at this
  rw [wl_at B cs ad s hk] at h
  exact ⟨hk, (Option.some.inj h).symm⟩
theorem wl_len (B : Cf) (cs : Cs) (ad : Nat → Nat) (s : Sg) : (wl B cs ad s).length = B.1 := by
  unfold wl
  rw [List.length_map, List.length_range]
theorem wl_set {B : Cf} {cs : Cs} {ad : Nat → Nat} {s s' : Sg} {k : Nat} {e : va_E} (h : k < B.1) (h1 : cellOf B cs ad s' k = e) (h2 : ∀ j, j ≠ k → cellOf B cs ad s' j = cellOf B cs ad s j) : (wl B cs ad s).set k (ad k, e) = wl B cs ad s' := by
  apply List.ext_getElem?
  intro j
  rw [List.getElem?_set]
  by_cases hj : k = j
  · subst hj
    rw [if_pos rfl, if_pos (by rw [wl_len]; exact h), wl_at _ _ _ _ h, h1]
  · rw [if_neg hj]
    by_cases hb : j < B.1
    · rw [wl_at _ _ _ _ hb, wl_at _ _ _ _ hb, h2 j (fun e => hj e.symm)]
    · rw [List.getElem?_eq_none (by rw [wl_len]; omega), List.getElem?_eq_none (by rw [wl_len]; omega)]
/-- the addresses of a world -/
def fAd (B : Cf) (ad : Nat → Nat) : Nat → Prop := fun q => ∃ k, k < B.1 ∧ q = ad k
def adI (B : Cf) (ad : Nat → Nat) : Prop := ∀ i j, i < B.1 → j < B.1 → ad i = ad j → i = j
theorem wl_D {B : Cf} {cs : Cs} {ad : Nat → Nat} {s : Sg} (h : adI B ad) : va_D (fAd B ad) (wl B cs ad s) := by
  refine ⟨fun i j p q hi hj e => ?_, fun k q hk => ?_⟩
  · obtain ⟨a1, rfl⟩ := wl_of hi
    obtain ⟨a2, rfl⟩ := wl_of hj
    exact h i j a1 a2 e
  · obtain ⟨a1, rfl⟩ := wl_of hk
    exact ⟨k, a1, rfl⟩
def nwF : List (String × Nat × String × String × String × String) := [("HemLine", 112, "HemLine$Reader", "draft", "LHemLine$Delta;", "HemLine"), ("HemLine", 126, "HemLine$Delta", "women", "I", "HemLine"), ("HemLine", 135, "HemLine$Delta", "kindOf", "[I", "HemLine"), ("HemLine", 148, "HemLine$Delta", "years", "I", "HemLine"), ("HemLine", 170, "HemLine$Delta", "deeds", "I", "HemLine"), ("HemLine", 182, "HemLine$Delta", "placeOf", "[I", "HemLine"), ("HemLine", 189, "HemLine$Delta", "ground", "[I", "HemLine"), ("HemLine", 192, "HemLine$Delta", "earth", "I", "HemLine"), ("HemLine", 198, "HemLine$Delta", "tuckOf", "[I", "HemLine"), ("HemLine", 222, "HemLine$Delta", "heightOf", "[I", "HemLine"), ("HemLine", 269, "HemLine$Dykes", "ground", "[I", "HemLine"), ("HemLine", 270, "HemLine$Dykes", "folk", "[I", "HemLine"), ("HemLine", 359, "HemLine$Delta", "tallOf", "[I", "HemLine"), ("HemLine", 393, "HemLine$Shelf", "sizes", "[I", "HemLine"), ("HemLine$Dykes", 27, "HemLine$Delta", "ground", "[I", "HemLine"), ("HemLine$Dykes", 34, "HemLine$Delta", "women", "I", "HemLine"), ("HemLine$Dykes", 38, "HemLine$Delta", "placeOf", "[I", "HemLine"), ("HemLine$Reader", 42, "HemLine$Delta", "women", "I", "HemLine"), ("HemLine$Reader", 57, "HemLine$Delta", "ground", "[I", "HemLine"), ("HemLine$Reader", 64, "HemLine$Delta", "earth", "I", "HemLine")]
def nwM : List (String × Nat × MethodName × String) := [("HemLine", 25, ⟨"HemLine$Reader", "<init>", "()V"⟩, "HemLine"), ("HemLine", 273, ⟨"HemLine$Dykes", "playedOut", "(III[I[I)I"⟩, "HemLine"), ("HemLine", 32, ⟨"HemLine$Delta", "<init>", "()V"⟩, "HemLine"), ("HemLine", 43, ⟨"HemLine$Dykes", "<init>", "()V"⟩, "HemLine"), ("HemLine$Delta", 110, ⟨"HemLine", "hasBit", "(II)Z"⟩, "HemLine"), ("HemLine$Delta", 64, ⟨"HemLine", "copyItems", "([I[I)V"⟩, "HemLine"), ("HemLine$Delta", 68, ⟨"HemLine", "setItem", "([III)V"⟩, "HemLine"), ("HemLine$Delta", 72, ⟨"HemLine", "item", "([II)I"⟩, "HemLine"), ("HemLine$Delta", 95, ⟨"HemLine", "sumOf", "([II)I"⟩, "HemLine"), ("HemLine$Dykes", 30, ⟨"HemLine", "copyItems", "([I[I)V"⟩, "HemLine"), ("HemLine$Dykes", 41, ⟨"HemLine", "item", "([II)I"⟩, "HemLine"), ("HemLine$Dykes", 45, ⟨"HemLine", "setItem", "([III)V"⟩, "HemLine"), ("HemLine$Reader", 11, ⟨"HemLine$Delta", "<init>", "()V"⟩, "HemLine"), ("HemLine$Reader", 45, ⟨"HemLine", "item", "([II)I"⟩, "HemLine"), ("HemLine$Reader", 60, ⟨"HemLine", "setItem", "([III)V"⟩, "HemLine"), ("HemLine$Shelf", 41, ⟨"HemLine", "item", "([II)I"⟩, "HemLine"), ("HemLine$Shelf", 45, ⟨"HemLine", "setItem", "([III)V"⟩, "HemLine"), ("HemLine$Shelf", 53, ⟨"HemLine", "copyStretch", "([II[III)V"⟩, "HemLine")]
def NW (U : State) : Prop := (∀ q ∈ nwF, va_Nw (.fieldLinkNest q.1 q.2.1 q.2.2.1 q.2.2.2.1 q.2.2.2.2.1 q.2.2.2.2.2) U) ∧ ∀ q ∈ nwM, va_Nw (.methodLinkNest q.1 q.2.1 q.2.2.1 q.2.2.2) U
/-- what a method knows of the machine and the addresses, beside what the cells hold -/
def Ev (B : Cf) (D : va_G) (cs : Cs) (ad : Nat → Nat) (U : State) : Prop := va_K D vwCl [(cs.1, .int), (cs.2.1, .int), (cs.2.2.1, .object "HemLine$Delta"), (cs.2.2.2, .array .int)] U ∧ adI B ad ∧ (∀ k, B.2.1 k ≠ 99 → k < B.1) ∧ NW U
theorem Ev.warm {B : Cf} {D : va_G} {cs : Cs} {ad : Nat → Nat} {s U : State} (h : Ev B D cs ad s) (hW : s.WarmedH U.vm) : Ev B D cs ad U := ⟨va_K.moved hW.alike h.1, h.2.1, h.2.2.1, fun q hq => va_Nw.warmF hW (h.2.2.2.1 q hq), fun q hq => va_Nw.warmM hW (h.2.2.2.2 q hq)⟩
theorem Ev.call {B : Cf} {D : va_G} {cs : Cs} {ad : Nat → Nat} {U : State} (h : Ev B D cs ad U) (g : JFrame) (mk : MethodId) (a : Array Value) : Ev B D cs ad (U.calling g mk a) := ⟨va_K.moved (u := U) (U := U.calling g mk a) (Vm.Alike.refl U.vm) h.1, h.2.1, h.2.2.1, fun q hq => va_Nw.same rfl (u := U) (U := U.calling g mk a) rfl (h.2.2.2.1 q hq), fun q hq => va_Nw.same rfl (u := U) (U := U.calling g mk a) rfl (h.2.2.2.2 q hq)⟩
abbrev Pc0 (B : Cf) (D : va_G) (cs : Cs) (ad : Nat → Nat) (av : List Value) (σ : Sg) (P : Prop) : Array Value → State → Prop := va_Pc av (fun U => va_P D vwCl (wl B cs ad σ) U.heap ∧ Ev B D cs ad U ∧ P)
abbrev QI (B : Cf) (D : va_G) (cs : Cs) (ad : Nat → Nat) (Q : Int32 → Sg → Prop) : Array Value → State → Outcome → State → Prop := va_Qi Q (fun (u : Sg) (t : State) => va_P D vwCl (wl B cs ad u) t.heap) (fAd B ad)
abbrev QL (B : Cf) (D : va_G) (cs : Cs) (ad : Nat → Nat) (Q : Int64 → Sg → Prop) : Array Value → State → Outcome → State → Prop := va_Ql Q (fun (u : Sg) (t : State) => va_P D vwCl (wl B cs ad u) t.heap) (fAd B ad)
abbrev QV (B : Cf) (D : va_G) (cs : Cs) (ad : Nat → Nat) (Q : Sg → Prop) : Array Value → State → Outcome → State → Prop := va_Qv Q (fun (u : Sg) (t : State) => va_P D vwCl (wl B cs ad u) t.heap) (fAd B ad)
abbrev QE (B : Cf) (D : va_G) (cs : Cs) (ad : Nat → Nat) (Q : Option Nat → Sg → Prop) : Array Value → State → Outcome → State → Prop := va_Qe ad Q (fun (u : Sg) (t : State) => va_P D vwCl (wl B cs ad u) t.heap) (fAd B ad)
theorem pc_blind {B : Cf} {D : va_G} {cs : Cs} {ad : Nat → Nat} {av : List Value} {σ : Sg} {P : Prop} : FrameBlind (Pc0 B D cs ad av σ P) := fun a _ g mk h => ⟨h.1, h.2.1, h.2.2.1.call g mk a, h.2.2.2⟩
theorem pc_of {B : Cf} {D : va_G} {cs : Cs} {ad : Nat → Nat} {av : List Value} {σ : Sg} {P : Prop} {s : State} {H : Heap} (hP : va_P D vwCl (wl B cs ad σ) H) (hE : Ev B D cs ad s) (h : P) : ∀ U : State, U.heap = H → s.WarmedH U.vm → Pc0 B D cs ad av σ P av.toArray U := fun U hU hW => ⟨rfl, by rw [hU]; exact hP, hE.warm hW, h⟩
theorem re_cat (ad : Nat → Nat) (o : Option Nat) : (va_re ad o).category = 1 := by cases o <;> rfl
theorem kne {B : Cf} {k c : Nat} (h : B.2.1 k = c) (hc : c ≠ 99) : B.2.1 k ≠ 99 := by rw [h]; exact hc
theorem w_0 {B : Cf} {D : va_G} {cs : Cs} {ad : Nat → Nat} {U : State} {σ : Sg} {k : Nat} (hE : Ev B D cs ad U) (hk : B.2.1 k = 0) : (wl B cs ad σ)[k]? = some (ad k, .inr (0, fo0 B.2.2.2 ad σ k)) := by rw [wl_at _ _ _ _ (hE.2.2.1 k (kne hk (by decide)))]; simp [cellOf, hk]
theorem w_1 {B : Cf} {D : va_G} {cs : Cs} {ad : Nat → Nat} {U : State} {σ : Sg} {k : Nat} (hE : Ev B D cs ad U) (hk : B.2.1 k = 1) : (wl B cs ad σ)[k]? = some (ad k, .inr (1, fo1 B.2.2.2 ad σ k)) := by rw [wl_at _ _ _ _ (hE.2.2.1 k (kne hk (by decide)))]; simp [cellOf, hk]
theorem w_2 {B : Cf} {D : va_G} {cs : Cs} {ad : Nat → Nat} {U : State} {σ : Sg} {k : Nat} (hE : Ev B D cs ad U) (hk : B.2.1 k = 2) : (wl B cs ad σ)[k]? = some (ad k, .inr (2, fo2 B.2.2.2 ad σ k)) := by rw [wl_at _ _ _ _ (hE.2.2.1 k (kne hk (by decide)))]; simp [cellOf, hk]
theorem w_3 {B : Cf} {D : va_G} {cs : Cs} {ad : Nat → Nat} {U : State} {σ : Sg} {k : Nat} (hE : Ev B D cs ad U) (hk : B.2.1 k = 3) : (wl B cs ad σ)[k]? = some (ad k, .inr (3, fo3 B.2.2.2 ad σ k)) := by rw [wl_at _ _ _ _ (hE.2.2.1 k (kne hk (by decide)))]; simp [cellOf, hk]
theorem w_4 {B : Cf} {D : va_G} {cs : Cs} {ad : Nat → Nat} {U : State} {σ : Sg} {k : Nat} (hE : Ev B D cs ad U) (hk : B.2.1 k = 4) : (wl B cs ad σ)[k]? = some (ad k, .inr (4, fo4 B.2.2.2 ad σ k)) := by rw [wl_at _ _ _ _ (hE.2.2.1 k (kne hk (by decide)))]; simp [cellOf, hk]
theorem w_6 {B : Cf} {D : va_G} {cs : Cs} {ad : Nat → Nat} {U : State} {σ : Sg} {k : Nat} (hE : Ev B D cs ad U) (hk : B.2.1 k = 6) : (wl B cs ad σ)[k]? = some (ad k, .inl (cs.2.1, B.2.2.1 k, .inl (gR σ k))) := by rw [wl_at _ _ _ _ (hE.2.2.1 k (kne hk (by decide)))]; simp [cellOf, hk]
theorem w_7 {B : Cf} {D : va_G} {cs : Cs} {ad : Nat → Nat} {U : State} {σ : Sg} {k : Nat} (hE : Ev B D cs ad U) (hk : B.2.1 k = 7) : (wl B cs ad σ)[k]? = some (ad k, .inl (cs.1, B.2.2.1 k, .inl (gR σ k))) := by rw [wl_at _ _ _ _ (hE.2.2.1 k (kne hk (by decide)))]; simp [cellOf, hk]
theorem w_8 {B : Cf} {D : va_G} {cs : Cs} {ad : Nat → Nat} {U : State} {σ : Sg} {k : Nat} (hE : Ev B D cs ad U) (hk : B.2.1 k = 8) : (wl B cs ad σ)[k]? = some (ad k, .inl (cs.2.2.1, B.2.2.1 k, .inr (.inr (.inr (.inr (fun i => (B.2.2.2 k i).map ad)))))) := by rw [wl_at _ _ _ _ (hE.2.2.1 k (kne hk (by decide)))]; simp [cellOf, hk]
theorem w_9 {B : Cf} {D : va_G} {cs : Cs} {ad : Nat → Nat} {U : State} {σ : Sg} {k : Nat} (hE : Ev B D cs ad U) (hk : B.2.1 k = 9) : (wl B cs ad σ)[k]? = some (ad k, .inl (cs.2.2.2, B.2.2.1 k, .inr (.inr (.inr (.inr (fun i => (B.2.2.2 k i).map ad)))))) := by rw [wl_at _ _ _ _ (hE.2.2.1 k (kne hk (by decide)))]; simp [cellOf, hk]
theorem cI_ne (B : Cf) (cs : Cs) (ad : Nat → Nat) (s : Sg) (k i : Nat) (v : Int32) : ∀ j, j ≠ k → cellOf B cs ad (setI s k i v) j = cellOf B cs ad s j := fun j hj => by simp [cellOf, fo0, fo1, fo2, fo3, fo4, gI, gJ, gR, gT, setI, hj]
theorem cJ_ne (B : Cf) (cs : Cs) (ad : Nat → Nat) (s : Sg) (k i : Nat) (v : Int64) : ∀ j, j ≠ k → cellOf B cs ad (setJ s k i v) j = cellOf B cs ad s j := fun j hj => by simp [cellOf, fo0, fo1, fo2, fo3, fo4, gI, gJ, gR, gT, setJ, hj]
theorem cR_ne (B : Cf) (cs : Cs) (ad : Nat → Nat) (s : Sg) (k : Nat) (v : Nat → Int32) : ∀ j, j ≠ k → cellOf B cs ad (setR s k v) j = cellOf B cs ad s j := fun j hj => by simp [cellOf, fo0, fo1, fo2, fo3, fo4, gI, gJ, gR, gT, setR, hj]
theorem st_0_0 {B : Cf} {D : va_G} {cs : Cs} {ad : Nat → Nat} {U : State} {σ : Sg} {k : Nat} (hE : Ev B D cs ad U) (hk : B.2.1 k = 0) (v : Int32) : (wl B cs ad σ).set k (ad k, .inr (0, (fo0 B.2.2.2 ad σ k).set 0 (.int v))) = wl B cs ad (setI σ k 0 v) := wl_set (hE.2.2.1 k (kne hk (by decide))) (by simp [cellOf, hk, fo0, gI, gJ, gR, gT, setI]) (cI_ne B cs ad σ k 0 v)
theorem st_0_1 {B : Cf} {D : va_G} {cs : Cs} {ad : Nat → Nat} {U : State} {σ : Sg} {k : Nat} (hE : Ev B D cs ad U) (hk : B.2.1 k = 0) (v : Int32) : (wl B cs ad σ).set k (ad k, .inr (0, (fo0 B.2.2.2 ad σ k).set 1 (.int v))) = wl B cs ad (setI σ k 1 v) := wl_set (hE.2.2.1 k (kne hk (by decide))) (by simp [cellOf, hk, fo0, gI, gJ, gR, gT, setI]) (cI_ne B cs ad σ k 1 v)
theorem st_0_2 {B : Cf} {D : va_G} {cs : Cs} {ad : Nat → Nat} {U : State} {σ : Sg} {k : Nat} (hE : Ev B D cs ad U) (hk : B.2.1 k = 0) (v : Int32) : (wl B cs ad σ).set k (ad k, .inr (0, (fo0 B.2.2.2 ad σ k).set 2 (.int v))) = wl B cs ad (setI σ k 2 v) := wl_set (hE.2.2.1 k (kne hk (by decide))) (by simp [cellOf, hk, fo0, gI, gJ, gR, gT, setI]) (cI_ne B cs ad σ k 2 v)
theorem st_0_3 {B : Cf} {D : va_G} {cs : Cs} {ad : Nat → Nat} {U : State} {σ : Sg} {k : Nat} (hE : Ev B D cs ad U) (hk : B.2.1 k = 0) (v : Int32) : (wl B cs ad σ).set k (ad k, .inr (0, (fo0 B.2.2.2 ad σ k).set 3 (.int v))) = wl B cs ad (setI σ k 3 v) := wl_set (hE.2.2.1 k (kne hk (by decide))) (by simp [cellOf, hk, fo0, gI, gJ, gR, gT, setI]) (cI_ne B cs ad σ k 3 v)
theorem st_2_2 {B : Cf} {D : va_G} {cs : Cs} {ad : Nat → Nat} {U : State} {σ : Sg} {k : Nat} (hE : Ev B D cs ad U) (hk : B.2.1 k = 2) (v : Int32) : (wl B cs ad σ).set k (ad k, .inr (2, (fo2 B.2.2.2 ad σ k).set 2 (.int v))) = wl B cs ad (setI σ k 2 v) := wl_set (hE.2.2.1 k (kne hk (by decide))) (by simp [cellOf, hk, fo2, gI, gJ, gR, gT, setI]) (cI_ne B cs ad σ k 2 v)
theorem st_2_3 {B : Cf} {D : va_G} {cs : Cs} {ad : Nat → Nat} {U : State} {σ : Sg} {k : Nat} (hE : Ev B D cs ad U) (hk : B.2.1 k = 2) (v : Int32) : (wl B cs ad σ).set k (ad k, .inr (2, (fo2 B.2.2.2 ad σ k).set 3 (.int v))) = wl B cs ad (setI σ k 3 v) := wl_set (hE.2.2.1 k (kne hk (by decide))) (by simp [cellOf, hk, fo2, gI, gJ, gR, gT, setI]) (cI_ne B cs ad σ k 3 v)
theorem st_4_8 {B : Cf} {D : va_G} {cs : Cs} {ad : Nat → Nat} {U : State} {σ : Sg} {k : Nat} (hE : Ev B D cs ad U) (hk : B.2.1 k = 4) (v : Int32) : (wl B cs ad σ).set k (ad k, .inr (4, (fo4 B.2.2.2 ad σ k).set 8 (.int v))) = wl B cs ad (setI σ k 8 v) := wl_set (hE.2.2.1 k (kne hk (by decide))) (by simp [cellOf, hk, fo4, gI, gJ, gR, gT, setI]) (cI_ne B cs ad σ k 8 v)
theorem st_4_9 {B : Cf} {D : va_G} {cs : Cs} {ad : Nat → Nat} {U : State} {σ : Sg} {k : Nat} (hE : Ev B D cs ad U) (hk : B.2.1 k = 4) (v : Int32) : (wl B cs ad σ).set k (ad k, .inr (4, (fo4 B.2.2.2 ad σ k).set 9 (.int v))) = wl B cs ad (setI σ k 9 v) := wl_set (hE.2.2.1 k (kne hk (by decide))) (by simp [cellOf, hk, fo4, gI, gJ, gR, gT, setI]) (cI_ne B cs ad σ k 9 v)
theorem st_4_10 {B : Cf} {D : va_G} {cs : Cs} {ad : Nat → Nat} {U : State} {σ : Sg} {k : Nat} (hE : Ev B D cs ad U) (hk : B.2.1 k = 4) (v : Int64) : (wl B cs ad σ).set k (ad k, .inr (4, (fo4 B.2.2.2 ad σ k).set 10 (.long v))) = wl B cs ad (setJ σ k 10 v) := wl_set (hE.2.2.1 k (kne hk (by decide))) (by simp [cellOf, hk, fo4, gI, gJ, gR, gT, setJ]) (cJ_ne B cs ad σ k 10 v)
theorem st_4_11 {B : Cf} {D : va_G} {cs : Cs} {ad : Nat → Nat} {U : State} {σ : Sg} {k : Nat} (hE : Ev B D cs ad U) (hk : B.2.1 k = 4) (v : Int64) : (wl B cs ad σ).set k (ad k, .inr (4, (fo4 B.2.2.2 ad σ k).set 11 (.long v))) = wl B cs ad (setJ σ k 11 v) := wl_set (hE.2.2.1 k (kne hk (by decide))) (by simp [cellOf, hk, fo4, gI, gJ, gR, gT, setJ]) (cJ_ne B cs ad σ k 11 v)
/-- the one Reader of a world -/
def oneR (B : Cf) : Prop := ∀ j k, B.2.1 j = 2 → B.2.1 k = 2 → j = k
theorem st_2_1 {B : Cf} {D : va_G} {cs : Cs} {ad : Nat → Nat} {U : State} {σ : Sg} {k : Nat} (hE : Ev B D cs ad U) (h1 : oneR B) (hk : B.2.1 k = 2) (v : Option Nat) : (wl B cs ad σ).set k (ad k, .inr (2, (fo2 B.2.2.2 ad σ k).set 1 (va_re ad v))) = wl B cs ad (setT σ v) := wl_set (hE.2.2.1 k (kne hk (by decide))) (by simp [cellOf, hk, fo2, gI, gJ, gR, gT, setT]) (fun j hj => by have h2 : B.2.1 j ≠ 2 := fun e => hj (h1 j k e hk); simp [cellOf, h2, fo0, fo1, fo2, fo3, fo4, gI, gJ, gR, gT, setT])
theorem st_6 {B : Cf} {D : va_G} {cs : Cs} {ad : Nat → Nat} {U : State} {σ : Sg} {k : Nat} (hE : Ev B D cs ad U) (hk : B.2.1 k = 6) (f : Nat → Int32) : (wl B cs ad σ).set k (ad k, .inl (cs.2.1, B.2.2.1 k, .inl f)) = wl B cs ad (setR σ k f) := wl_set (hE.2.2.1 k (kne hk (by decide))) (by simp [cellOf, hk, gR, setR]) (cR_ne B cs ad σ k f)
theorem st_7 {B : Cf} {D : va_G} {cs : Cs} {ad : Nat → Nat} {U : State} {σ : Sg} {k : Nat} (hE : Ev B D cs ad U) (hk : B.2.1 k = 7) (f : Nat → Int32) : (wl B cs ad σ).set k (ad k, .inl (cs.1, B.2.2.1 k, .inl f)) = wl B cs ad (setR σ k f) := wl_set (hE.2.2.1 k (kne hk (by decide))) (by simp [cellOf, hk, gR, setR]) (cR_ne B cs ad σ k f)
section RWS
variable {p : Program} {l : Launch} {e : Env} {R : Room} {s : State} {m : MethodId} {args : Array Value} {below : List Frame} {meth : Method} {c : Code} {H : Heap} {locs : List Loc} {cells slots : Nat} {Q : State → Prop}
variable {cc : ByteArray} {pc : Nat} {ls : Array Slot} {rest : List Value} {B : Cf} {D : va_G} {cs : Cs} {ad : Nat → Nat} {σ : Sg} {H0 : Heap} {k : Nat} {o : Option Nat}
theorem r_aload_n (hexec : p.tables.exec = Jvm.exec) (hb : c.code = cc) {k : Fin 4} {i : Nat} (hdg : decode cc pc = .ok (.aload_n k, 1)) (hi : (k : Nat) = i) (hl : ls[i]? = some (.val (va_re ad o)))
    (kk : W p l e R s m args below meth c H locs cells slots Q (F0 m (pc + 1) ls (va_re ad o :: rest))) : W p l e R s m args below meth c H locs cells slots Q (F0 m pc ls rest) := by
  cases o with
  | none => exact lv_aload_nN hexec hb hdg hi hl kk
  | some x => exact lv_aload_n hexec hb hdg hi hl kk
theorem r_aload (hexec : p.tables.exec = Jvm.exec) (hb : c.code = cc) {i : Nat} (hdg : decode cc pc = .ok (.aload i, 2)) (hl : ls[i]? = some (.val (va_re ad o)))
    (kk : W p l e R s m args below meth c H locs cells slots Q (F0 m (pc + 2) ls (va_re ad o :: rest))) : W p l e R s m args below meth c H locs cells slots Q (F0 m pc ls rest) := by
  cases o with
  | none => exact lv_aloadN hexec hb hdg hl kk
  | some x => exact lv_aload hexec hb hdg hl kk
theorem r_astore_n (hexec : p.tables.exec = Jvm.exec) (hb : c.code = cc) {k : Fin 4} {i nL : Nat} {lv lv' : List (Nat × Value)} (hdg : decode cc pc = .ok (.astore_n k, 1)) (hi : (k : Nat) = i) (h : lv_has ls nL lv) (hn : i < nL) (hl : (i, va_re ad o) :: lv.filter (fun q => !(q.1 == i) && !(q.1 + 1 == i && q.2.category == 2)) = lv')
    (kk : ∀ ls' : Array Slot, lv_has ls' nL lv' → W p l e R s m args below meth c H locs cells slots Q (F0 m (pc + 1) ls' rest)) : W p l e R s m args below meth c H locs cells slots Q (F0 m pc ls (va_re ad o :: rest)) := by
  cases o with
  | none => exact lv_astore_nN hexec hb hdg hi h hn hl kk
  | some x => exact lv_astore_n hexec hb hdg hi h hn hl kk
theorem r_astore (hexec : p.tables.exec = Jvm.exec) (hb : c.code = cc) {i nL : Nat} {lv lv' : List (Nat × Value)} (hdg : decode cc pc = .ok (.astore i, 2)) (h : lv_has ls nL lv) (hn : i < nL) (hl : (i, va_re ad o) :: lv.filter (fun q => !(q.1 == i) && !(q.1 + 1 == i && q.2.category == 2)) = lv')
    (kk : ∀ ls' : Array Slot, lv_has ls' nL lv' → W p l e R s m args below meth c H locs cells slots Q (F0 m (pc + 2) ls' rest)) : W p l e R s m args below meth c H locs cells slots Q (F0 m pc ls (va_re ad o :: rest)) := by
  cases o with
  | none => exact lv_astoreN hexec hb hdg h hn hl kk
  | some x => exact lv_astore hexec hb hdg h hn hl kk
theorem r_null (hexec : p.tables.exec = Jvm.exec) (hb : c.code = cc) (hdg : decode cc pc = .ok (.aconst_null, 1)) (kk : W p l e R s m args below meth c H locs cells slots Q (F0 m (pc + 1) ls (va_re ad none :: rest))) : W p l e R s m args below meth c H locs cells slots Q (F0 m pc ls rest) := lv_null hexec hb hdg kk
theorem r_ifnull (hexec : p.tables.exec = Jvm.exec) (hb : c.code = cc) {off : Int} {tgt : Nat} (hdg : decode cc pc = .ok (.ifnull off, 3)) (ht : (pc : Int) + off = (tgt : Int)) (kt : o = none → W p l e R s m args below meth c H locs cells slots Q (F0 m tgt ls rest)) (kf : ¬ o = none → W p l e R s m args below meth c H locs cells slots Q (F0 m (pc + 3) ls rest)) : W p l e R s m args below meth c H locs cells slots Q (F0 m pc ls (va_re ad o :: rest)) := by
  cases o with
  | none => exact lv_ifnullN hexec hb hdg ht (kt rfl)
  | some x => exact lv_ifnull hexec hb hdg (kf (fun h => by cases h))
theorem r_ifnonnull (hexec : p.tables.exec = Jvm.exec) (hb : c.code = cc) {off : Int} {tgt : Nat} (hdg : decode cc pc = .ok (.ifnonnull off, 3)) (ht : (pc : Int) + off = (tgt : Int)) (kt : ¬ o = none → W p l e R s m args below meth c H locs cells slots Q (F0 m tgt ls rest)) (kf : o = none → W p l e R s m args below meth c H locs cells slots Q (F0 m (pc + 3) ls rest)) : W p l e R s m args below meth c H locs cells slots Q (F0 m pc ls (va_re ad o :: rest)) := by
  cases o with
  | none => exact lv_ifnonnullN hexec hb hdg (kf rfl)
  | some x => exact lv_ifnonnull hexec hb hdg ht (kt (fun h => by cases h))
/-- a reference that is known, as its address -/
theorem r_known (ho : o = some k) (kk : W p l e R s m args below meth c H locs cells slots Q (F0 m pc ls (.ref (ad k) :: rest))) : W p l e R s m args below meth c H locs cells slots Q (F0 m pc ls (va_re ad o :: rest)) := by subst ho; exact kk
theorem r_known2 {x : Value} (ho : o = some k) (kk : W p l e R s m args below meth c H locs cells slots Q (F0 m pc ls (x :: .ref (ad k) :: rest))) : W p l e R s m args below meth c H locs cells slots Q (F0 m pc ls (x :: va_re ad o :: rest)) := by subst ho; exact kk
theorem r_iald (hexec : p.tables.exec = Jvm.exec) (hb : c.code = cc) (hE : Ev B D cs ad s) (hP : va_P D vwCl (wl B cs ad σ) H) (ho : o = some k) (hk : B.2.1 k = 7) {i : Int32} (hin : vp_in i (B.2.2.1 k)) (hdg : decode cc pc = .ok (.iaload, 1))
    (kk : W p l e R s m args below meth c H locs cells slots Q (F0 m (pc + 1) ls (.int (gR σ k i.toNatClampNeg) :: rest))) : W p l e R s m args below meth c H locs cells slots Q (F0 m pc ls (.int i :: va_re ad o :: rest)) := by
  subst ho
  exact va_iald hexec hb hE.1 hP k 0 (w_7 hE hk) rfl hin hdg kk
theorem r_iast (hexec : p.tables.exec = Jvm.exec) (hb : c.code = cc) (hE : Ev B D cs ad s) (hP : va_P D vwCl (wl B cs ad σ) H) (hS : va_S (fAd B ad) H0 H locs) (ho : o = some k) (hk : B.2.1 k = 7) {i x : Int32} (hin : vp_in i (B.2.2.1 k)) (hdg : decode cc pc = .ok (.iastore, 1))
    (kk : ∀ (H1 : Heap) (locs1 : List Loc), va_P D vwCl (wl B cs ad (setR σ k (upd (gR σ k) i.toNatClampNeg x))) H1 → va_S (fAd B ad) H0 H1 locs1 → W p l e R s m args below meth c H1 locs1 cells slots Q (F0 m (pc + 1) ls rest)) : W p l e R s m args below meth c H locs cells slots Q (F0 m pc ls (.int x :: .int i :: va_re ad o :: rest)) := by
  subst ho
  exact va_iast hexec hb hE.1 hP (wl_D hE.2.1) hS k 0 (w_7 hE hk) rfl hin hdg (fun H1 locs1 hP1 _ hS1 => kk H1 locs1 (by rw [← st_7 hE hk]; exact hP1) hS1)
theorem r_alen (hexec : p.tables.exec = Jvm.exec) (hb : c.code = cc) (hE : Ev B D cs ad s) (hP : va_P D vwCl (wl B cs ad σ) H) (ho : o = some k) (hk : B.2.1 k = 7 ∨ B.2.1 k = 8 ∨ B.2.1 k = 9) (hdg : decode cc pc = .ok (.arraylength, 1))
    (kk : W p l e R s m args below meth c H locs cells slots Q (F0 m (pc + 1) ls (.int (nI (B.2.2.1 k)) :: rest))) : W p l e R s m args below meth c H locs cells slots Q (F0 m pc ls (va_re ad o :: rest)) := by
  subst ho
  rcases hk with hk | hk | hk
  · exact va_alen hexec hb hE.1 hP k 0 (w_7 hE hk) rfl rfl hdg kk
  · exact va_alen hexec hb hE.1 hP k 2 (w_8 hE hk) rfl rfl hdg kk
  · exact va_alen hexec hb hE.1 hP k 3 (w_9 hE hk) rfl rfl hdg kk
theorem r_aald (hexec : p.tables.exec = Jvm.exec) (hb : c.code = cc) (hE : Ev B D cs ad s) (hP : va_P D vwCl (wl B cs ad σ) H) (ho : o = some k) (hk : B.2.1 k = 8 ∨ B.2.1 k = 9) {i : Int32} (hin : vp_in i (B.2.2.1 k)) (hdg : decode cc pc = .ok (.aaload, 1))
    (kk : W p l e R s m args below meth c H locs cells slots Q (F0 m (pc + 1) ls (va_re ad (B.2.2.2 k i.toNatClampNeg) :: rest))) : W p l e R s m args below meth c H locs cells slots Q (F0 m pc ls (.int i :: va_re ad o :: rest)) := by
  subst ho
  have hlt : i.toNatClampNeg < B.2.2.1 k := Nat.not_le.mp fun q => hin (Or.inr q)
  rcases hk with hk | hk
  · exact va_aldq hexec hb hE.1 hP k 2 (w_8 hE hk) rfl hin hdg kk
  · exact W.aald (v := va_re ad (B.2.2.2 k i.toNatClampNeg)) (ty := .array .int) hexec hb (hP k _ (w_9 hE hk)) ((hE.1.2 3 _ rfl).1 (B.2.2.1 k) (fun j => va_rf ((B.2.2.2 k j).map ad))) rfl (fun q => by cases q) (by show ¬ (i < 0 ∨ (arrV _ _ _).slots.size ≤ _); rw [arrV_size]; exact hin) (by show (arrV _ _ _).slots[_]? = _; rw [arrV_read _ _ hlt]; rfl) rfl rfl hdg kk
/-- the same array of ints from one place to another, or to another array -/
theorem r_copy {sp dp n : Int32} {o2 : Option Nat} {k2 : Nat} {own : String} {index : Nat} (hexec : p.tables.exec = Jvm.exec) (hb : c.code = cc) (hml : c.maxLocals = ls.size) (hown : s.vm.findClass own = some m.cls) (hlink : (Cond.methodLink own index arraycopyName).before args s = true) (hnat : (Cond.native arraycopyName).before args s = true) (hstat : (Cond.static arraycopyName).before args s = true) (hini : (Cond.initialized "java/lang/System").before args s = true)
    (hE : Ev B D cs ad s) (hP : va_P D vwCl (wl B cs ad σ) H) (hS : va_S (fAd B ad) H0 H locs) (ho : o = some k) (hk : B.2.1 k = 7) (ho2 : o2 = some k2) (hk2 : B.2.1 k2 = 7) (h1 : ¬ sp < 0) (h2 : ¬ dp < 0) (h3 : ¬ n < 0) (h4 : sp.toNatClampNeg + n.toNatClampNeg ≤ B.2.2.1 k) (h5 : dp.toNatClampNeg + n.toNatClampNeg ≤ B.2.2.1 k2)
    (hframes : 1 ≤ R.frames) (hlocals : (rest.map fun v => v.category).sum + (nativeFrameWords "java/lang/System" "arraycopy" 5 + 11) ≤ R.locals) (hdg : decode cc pc = .ok (.invokestatic index, 3))
    (kk : ∀ (H1 : Heap) (locs1 : List Loc), va_P D vwCl (wl B cs ad (setR σ k2 (va_cpy (gR σ k) (gR σ k2) sp.toNatClampNeg dp.toNatClampNeg n.toNatClampNeg))) H1 → va_S (fAd B ad) H0 H1 locs1 → W p l e R s m args below meth c H1 locs1 cells slots Q (F0 m (pc + 3) ls rest)) : W p l e R s m args below meth c H locs cells slots Q (F0 m pc ls (.int n :: .int dp :: va_re ad o2 :: .int sp :: va_re ad o :: rest)) := by
  subst ho
  subst ho2
  exact va_copyi hexec hb hml hown hlink hnat hstat hini hE.1 hP (wl_D hE.2.1) hS k k2 0 0 (w_7 hE hk) (w_7 hE hk2) rfl rfl rfl h1 h2 h3 h4 h5 (fun _ _ => rfl) hframes hlocals hdg (fun H1 locs1 hP1 _ hS1 => kk H1 locs1 (by rw [← st_7 hE hk2]; exact hP1) hS1)
/-- a field is written: by va_put, and what the world is then -/
theorem r_put {own ref C : String} {T : u_T} {N ci index : Nat} {Ts : List Cond} {σ' : Sg} (hexec : p.tables.exec = Jvm.exec) (hb : c.code = cc) (hts : ∀ w ∈ Ts, w.before args s = true) (hin : ∀ w ∈ u_ws C T N, w ∈ Ts) (ty0 : Nat → FieldType) (hty : ∀ k, k < N → parseFieldDescriptor (T k).2.2.1 = some (ty0 k)) (hnm : ∀ a, a < N → ∀ b, b < N → a ≠ b → (T a).2.1 ≠ (T b).2.1) (hown : s.vm.findClass own = some m.cls) (hE : Ev B D cs ad s) (hP : va_P D vwCl (wl B cs ad σ) H) (hS0 : va_S (fAd B ad) H0 H locs) (k0 : Nat) {fs : List Value} (he : (wl B cs ad σ)[k0]? = some (ad k0, .inr (ci, fs))) (hc : vwCl[ci]? = some (C, T, N)) (k : Nat) (hk : k < N) (hlink : (Cond.fieldLink own index ref (T k).2.1 (T k).2.2.1).before args s = true) (hsame : ∀ x, s.fieldFound? (T k).1 (T k).2.1 (T k).2.2.1 = some x → s.fieldFound? ref (T k).2.1 (T k).2.2.1 = some x) (hfin : (T k).2.2.2 = false) {ty : FieldType} {v : Value} (hd : parseFieldDescriptor (T k).2.2.1 = some ty) (hn : narrow ty v = v) (hfit : fits ty v = true) (hl : k < fs.length) (hdg : decode cc pc = .ok (.putfield index, 3))
    (hset : (wl B cs ad σ).set k0 (ad k0, .inr (ci, fs.set k v)) = wl B cs ad σ')
    (kk : ∀ (H1 : Heap) (locs1 : List Loc), va_P D vwCl (wl B cs ad σ') H1 → va_S (fAd B ad) H0 H1 locs1 → W p l e R s m args below meth c H1 locs1 cells slots Q (F0 m (pc + 3) ls rest)) : W p l e R s m args below meth c H locs cells slots Q (F0 m pc ls (v :: .ref (ad k0) :: rest)) :=
  va_put hexec hb hts hin ty0 hty hnm hown hE.1 hP (wl_D hE.2.1) hS0 k0 he hc k hk hlink hsame hfin hd hn hfit hl hdg (fun H1 locs1 hP1 _ hS1 => kk H1 locs1 (by rw [← hset]; exact hP1) hS1)
/-- the same, a nest mate's -/
theorem r_putN {own ref C host : String} {T : u_T} {N ci index : Nat} {Ts : List Cond} {σ' : Sg} (hexec : p.tables.exec = Jvm.exec) (hb : c.code = cc) (hts : ∀ w ∈ Ts, w.before args s = true) (hin : ∀ w ∈ u_ws C T N, w ∈ Ts) (ty0 : Nat → FieldType) (hty : ∀ k, k < N → parseFieldDescriptor (T k).2.2.1 = some (ty0 k)) (hnm : ∀ a, a < N → ∀ b, b < N → a ≠ b → (T a).2.1 ≠ (T b).2.1) (hown : s.vm.findClass own = some m.cls) (hE : Ev B D cs ad s) (hP : va_P D vwCl (wl B cs ad σ) H) (hS0 : va_S (fAd B ad) H0 H locs) (k0 : Nat) {fs : List Value} (he : (wl B cs ad σ)[k0]? = some (ad k0, .inr (ci, fs))) (hc : vwCl[ci]? = some (C, T, N)) (k : Nat) (hk : k < N) (hlink : (Cond.fieldLinkNest own index ref (T k).2.1 (T k).2.2.1 host).before args s = true) (hsame : ∀ x, s.fieldFound? (T k).1 (T k).2.1 (T k).2.2.1 = some x → s.fieldFound? ref (T k).2.1 (T k).2.2.1 = some x) (hfin : (T k).2.2.2 = false) {ty : FieldType} {v : Value} (hd : parseFieldDescriptor (T k).2.2.1 = some ty) (hn : narrow ty v = v) (hfit : fits ty v = true) (hl : k < fs.length) (hdg : decode cc pc = .ok (.putfield index, 3))
    (hset : (wl B cs ad σ).set k0 (ad k0, .inr (ci, fs.set k v)) = wl B cs ad σ')
    (kk : ∀ (H1 : Heap) (locs1 : List Loc), va_P D vwCl (wl B cs ad σ') H1 → va_S (fAd B ad) H0 H1 locs1 → W p l e R s m args below meth c H1 locs1 cells slots Q (F0 m (pc + 3) ls rest)) : W p l e R s m args below meth c H locs cells slots Q (F0 m pc ls (v :: .ref (ad k0) :: rest)) :=
  va_putN hexec hb hts hin ty0 hty hnm hown hE.1 hP (wl_D hE.2.1) hS0 k0 he hc k hk hlink hsame hfin hd hn hfit hl hdg (fun H1 locs1 hP1 _ hS1 => kk H1 locs1 (by rw [← hset]; exact hP1) hS1)
end RWS
theorem cat_i (x : Int32) : (Value.int x).category = 1 := rfl
theorem cat_l (x : Int64) : (Value.long x).category = 2 := rfl
theorem cat_r (x : Nat) : (Value.ref x).category = 1 := rfl
theorem pw {D : va_G} {w : va_W} {t : State} {H : Heap} (ht : t.heap = H) (hP : va_P D vwCl w H) : va_P D vwCl w t.heap := by rw [ht]; exact hP
theorem ne_toInt {x v : Int32} {n : Int} (h : ¬ x = v) (hv : v.toInt = n) : x.toInt ≠ n := fun q => h (Int32.toInt_inj.mp (q.trans hv.symm))
section CLS
variable {p : Program} {l : Launch} {e : Env} {R : Room} {s : State} {m : MethodId} {args : Array Value} {below : List Frame} {meth : Method} {c : Code} {H : Heap} {locs : List Loc} {cells slots : Nat} {Q : State → Prop}
variable {cc : ByteArray} {pc : Nat} {ls : Array Slot} {rest st0 : List Value} {B : Cf} {D : va_G} {cs : Cs} {ad : Nat → Nat} {σ : Sg} {H0 : Heap} {a0 : Nat} {o : Option Nat} {a : Array Value}
theorem f_i {Q1 : Int32 → Sg → Prop} (hr : va_Run p l e R s m args below meth c H locs cells slots 0 0 (F0 m pc ls st0) rest (QI B D cs ad Q1 a) (fAd B ad)) (hS : va_S (fAd B ad) H0 H locs)
    (kk : ∀ (r : Int32) (u : Sg) (H1 : Heap) (locs1 : List Loc), Q1 r u → va_P D vwCl (wl B cs ad u) H1 → va_S (fAd B ad) H0 H1 locs1 → W p l e R s m args below meth c H1 locs1 cells slots Q (F0 m (pc + 3) ls (.int r :: rest))) : W p l e R s m args below meth c H locs cells slots Q (F0 m pc ls st0) :=
  va_calli hr hS (fun _ _ h => h) (fun _ h => h) (fun r u t H1 locs1 ht _ hq hB _ _ hS1 => kk r u H1 locs1 hq (by rw [← ht]; exact hB) hS1)
theorem f_l {Q1 : Int64 → Sg → Prop} (hr : va_Run p l e R s m args below meth c H locs cells slots 0 0 (F0 m pc ls st0) rest (QL B D cs ad Q1 a) (fAd B ad)) (hS : va_S (fAd B ad) H0 H locs)
    (kk : ∀ (r : Int64) (u : Sg) (H1 : Heap) (locs1 : List Loc), Q1 r u → va_P D vwCl (wl B cs ad u) H1 → va_S (fAd B ad) H0 H1 locs1 → W p l e R s m args below meth c H1 locs1 cells slots Q (F0 m (pc + 3) ls (.long r :: rest))) : W p l e R s m args below meth c H locs cells slots Q (F0 m pc ls st0) :=
  va_calll hr hS (fun _ _ h => h) (fun _ h => h) (fun r u t H1 locs1 ht _ hq hB _ _ hS1 => kk r u H1 locs1 hq (by rw [← ht]; exact hB) hS1)
theorem f_v {Q1 : Sg → Prop} (hr : va_Run p l e R s m args below meth c H locs cells slots 0 0 (F0 m pc ls st0) rest (QV B D cs ad Q1 a) (fAd B ad)) (hS : va_S (fAd B ad) H0 H locs)
    (kk : ∀ (u : Sg) (H1 : Heap) (locs1 : List Loc), Q1 u → va_P D vwCl (wl B cs ad u) H1 → va_S (fAd B ad) H0 H1 locs1 → W p l e R s m args below meth c H1 locs1 cells slots Q (F0 m (pc + 3) ls rest)) : W p l e R s m args below meth c H locs cells slots Q (F0 m pc ls st0) :=
  va_callv hr hS (fun _ _ h => h) (fun _ h => h) (fun u t H1 locs1 ht _ hq hB _ _ hS1 => kk u H1 locs1 hq (by rw [← ht]; exact hB) hS1)
theorem f_e {Q1 : Option Nat → Sg → Prop} (hr : va_Run p l e R s m args below meth c H locs cells slots 0 0 (F0 m pc ls st0) rest (QE B D cs ad Q1 a) (fAd B ad)) (hS : va_S (fAd B ad) H0 H locs)
    (kk : ∀ (r : Option Nat) (u : Sg) (H1 : Heap) (locs1 : List Loc), Q1 r u → va_P D vwCl (wl B cs ad u) H1 → va_S (fAd B ad) H0 H1 locs1 → W p l e R s m args below meth c H1 locs1 cells slots Q (F0 m (pc + 3) ls (va_re ad r :: rest))) : W p l e R s m args below meth c H locs cells slots Q (F0 m pc ls st0) :=
  va_calle hr hS (fun _ _ h => h) (fun _ h => h) (fun r u t H1 locs1 ht _ hq hB _ _ hS1 => kk r u H1 locs1 hq (by rw [← ht]; exact hB) hS1)
variable {y : MethodName} {bytes : ByteArray} {maxL nL n index : Nat} {ret : Option FieldType} {ws : List Cond} {rm : Room} {Qc : Array Value → State → Outcome → State → Prop} {Ts : List Cond} {own C host : String} {As : List Value} {P : Prop}
theorem kV (ho : o = some a0) (S : CallFix p m c cc nL s args Ts own) (hM : Met l y ws rm (Pc0 B D cs ad (.ref (ad a0) :: As) σ P) Qc 0 0 (fAd B ad)) (cw : CallW R s args own C index y bytes maxL ret ws rm 0 0 n) (hE : Ev B D cs ad s) (hP : va_P D vwCl (wl B cs ad σ) H) {ci : Nat} {fs : List Value} {q : vw_C} (hc : vwCl[ci]? = some q) (hq : q.1 = C) (he : (wl B cs ad σ)[a0]? = some (ad a0, .inr (ci, fs))) (h : P)
    (hn : As.length = n) (hsize : ls.size = nL) (hst : st0 = As.reverse ++ va_re ad o :: rest) (hW : 2 * (F0 m pc ls st0).monitorRoom + (rest.map fun v => v.category).sum ≤ 8) (hdg : decode cc pc = .ok (.invokevirtual index, 3)) (hf : cells + 0 ≤ R.cells ∧ slots + 0 ≤ R.slots) :
    va_Run p l e R s m args below meth c H locs cells slots 0 0 (F0 m pc ls st0) rest (Qc (Value.ref (ad a0) :: As).toArray) (fAd B ad) := by
  subst ho
  subst hq
  exact va_runV S hM cw ⟨pc_blind, va_recv hE.1 hP hc he, pc_of hP hE h⟩ rfl hn hsize hst hW hdg hf
theorem kS (S : CallFix p m c cc nL s args Ts own) (hM : Met l y ws rm (Pc0 B D cs ad As σ P) Qc 0 0 (fAd B ad)) (cw : CallB R s args own index y bytes maxL ret ws rm 0 0 n ∧ (Cond.static y).before args s = true) (hE : Ev B D cs ad s) (hP : va_P D vwCl (wl B cs ad σ) H) (h : P)
    (hn : As.length = n) (hsize : ls.size = nL) (hst : st0 = As.reverse ++ rest) (hW : 2 * (F0 m pc ls st0).monitorRoom + (rest.map fun v => v.category).sum ≤ 8) (hdg : decode cc pc = .ok (.invokestatic index, 3)) (hf : cells + 0 ≤ R.cells ∧ slots + 0 ≤ R.slots) :
    va_Run p l e R s m args below meth c H locs cells slots 0 0 (F0 m pc ls st0) rest (Qc As.toArray) (fAd B ad) :=
  va_runS S hM cw ⟨pc_blind, pc_of hP hE h⟩ rfl hn hsize hst hW hdg hf
theorem kN (S : CallFix p m c cc nL s args Ts own) (hM : Met l y ws rm (Pc0 B D cs ad As σ P) Qc 0 0 (fAd B ad)) (cw : va_CN R s args own index y host bytes maxL ret ws rm 0 0 n ∧ (Cond.static y).before args s = true ∧ True) (hE : Ev B D cs ad s) (hP : va_P D vwCl (wl B cs ad σ) H) (h : P)
    (hn : As.length = n) (hsize : ls.size = nL) (hst : st0 = As.reverse ++ rest) (hW : 2 * (F0 m pc ls st0).monitorRoom + (rest.map fun v => v.category).sum ≤ 8) (hdg : decode cc pc = .ok (.invokestatic index, 3)) (hf : cells + 0 ≤ R.cells ∧ slots + 0 ≤ R.slots) :
    va_Run p l e R s m args below meth c H locs cells slots 0 0 (F0 m pc ls st0) rest (Qc As.toArray) (fAd B ad) :=
  va_runSN S hM cw ⟨pc_blind, pc_of hP hE h⟩ rfl hn hsize hst hW hdg hf
end CLS
def kX (k : Nat) : Nat := ([4, 3, 7, 9, 7, 7, 7, 7, 7, 7, 3, 7, 9, 7, 7, 7, 7, 2, 8, 1, 7, 7, 7, 7, 7, 0, 7, 7, 7, 7, 7, 7, 7, 7, 7, 7, 7, 0, 7, 7, 7, 7, 7, 7, 7, 7, 7, 7, 7, 0, 7, 7, 7, 7, 7, 7, 7, 7, 7, 7, 7, 0, 7, 7, 7, 7, 7, 7, 7, 7, 7, 7, 7, 0, 7, 7, 7, 7, 7, 7, 7, 7, 7, 7, 7] : List Nat).getD k 99
def lX (k : Nat) : Nat := ([0, 0, 6, 6, 40, 40, 40, 40, 40, 40, 0, 4, 4, 60, 60, 60, 60, 0, 3, 0, 6, 6, 49, 11, 6, 0, 6, 6, 6, 6, 6, 8, 48, 48, 40, 40, 40, 0, 6, 6, 6, 6, 6, 8, 48, 48, 40, 40, 40, 0, 6, 6, 6, 6, 6, 8, 48, 48, 40, 40, 40, 0, 6, 6, 6, 6, 6, 8, 48, 48, 40, 40, 40, 0, 6, 6, 6, 6, 6, 8, 48, 48, 40, 40, 40] : List Nat).getD k 0
def tX (k j : Nat) : Option Nat := (([[1, 10, 17, 25, 18, 19, 23, 24], [2, 3], [], [4, 5, 6, 7, 8, 9], [], [], [], [], [], [], [11, 12], [], [13, 14, 15, 16], [], [], [], [], [37], [49, 61, 73], [20, 21, 22], [], [], [], [], [], [0, 0, 0, 0, 26, 27, 28, 29, 30, 31, 32, 33, 34, 35, 36], [], [], [], [], [], [], [], [], [], [], [], [0, 0, 0, 0, 38, 39, 40, 41, 42, 43, 44, 45, 46, 47, 48], [], [], [], [], [], [], [], [], [], [], [], [0, 0, 0, 0, 50, 51, 52, 53, 54, 55, 56, 57, 58, 59, 60], [], [], [], [], [], [], [], [], [], [], [], [0, 0, 0, 0, 62, 63, 64, 65, 66, 67, 68, 69, 70, 71, 72], [], [], [], [], [], [], [], [], [], [], [], [0, 0, 0, 0, 74, 75, 76, 77, 78, 79, 80, 81, 82, 83, 84], [], [], [], [], [], [], [], [], [], [], []] : List (List Nat)).getD k [])[j]?
abbrev bX : Cf := (85, kX, lX, tX)
theorem kX_lt : ∀ k, kX k ≠ 99 → k < 85 := fun k h => by
  apply Nat.lt_of_not_le
  intro q
  exact h (by unfold kX; rw [List.getD_eq_getElem?_getD, List.getElem?_eq_none q]; rfl)
theorem kX_2 : ∀ k, k < 85 → kX k = 2 → k = 17 := by decide +kernel
theorem oneX : oneR bX := fun j k hj hk => by
  have h1 := kX_2 j (kX_lt j (fun q => by rw [show kX j = 2 from hj] at q; cases q)) hj
  have h2 := kX_2 k (kX_lt k (fun q => by rw [show kX k = 2 from hk] at q; cases q)) hk
  rw [h1, h2]
def kM (k : Nat) : Nat := ([5, 7, 7, 7, 6, 7, 7, 7, 7, 7, 7, 7, 7, 7, 7, 7, 7, 7, 7, 7, 7, 7, 7, 7, 7, 7, 7, 7, 7] : List Nat).getD k 99
def lM (k : Nat) : Nat := ([0, 6, 240, 6, 240, 4, 40, 6, 6, 6, 6, 6, 6, 6, 6, 6, 6, 6, 6, 6, 8, 48, 48, 48, 120, 3, 360, 6, 4096] : List Nat).getD k 0
def tM (k j : Nat) : Option Nat := (([[0, 0, 0, 0, 1, 2, 3, 4, 5, 6, 7, 0, 0, 8, 9, 10, 11, 0, 0, 0, 0, 12, 13, 14, 15, 16, 0, 17, 18, 19, 0, 0, 20, 21, 22, 23, 0, 24, 25, 26, 27, 28], [], [], [], [], [], [], [], [], [], [], [], [], [], [], [], [], [], [], [], [], [], [], [], [], [], [], [], []] : List (List Nat)).getD k [])[j]?
abbrev bM : Cf := (29, kM, lM, tM)
theorem kM_lt : ∀ k, kM k ≠ 99 → k < 29 := fun k h => by
  apply Nat.lt_of_not_le
  intro q
  exact h (by unfold kM; rw [List.getD_eq_getElem?_getD, List.getElem?_eq_none q]; rfl)
