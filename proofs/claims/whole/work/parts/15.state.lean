/-! THE STATE: what class and reference both hold, as rows of ints and what each text says -/
abbrev zSt : Type := Nat → Nat → Int32
def aS (A : zSt) : Nat := (A 0 0).toNatClampNeg
def aN (A : zSt) : Nat := (A 0 1).toNatClampNeg
def aM (A : zSt) : Nat := (A 0 2).toNatClampNeg
def aT (A : zSt) : Nat := (A 0 3).toNatClampNeg
def aW (A : zSt) : Nat := (A 0 4).toNatClampNeg
def aZ (A : zSt) : Nat := (A 0 5).toNatClampNeg
def aI (A : zSt) : Nat := (A 0 7).toNatClampNeg
def aK (A : zSt) (s : Nat) : Nat := (A 1 s).toNatClampNeg
def aQ (A : zSt) (q : Nat) : Nat := (A 6 q).toNatClampNeg
def nI99 (x : Int32) (m : Nat) : Prop := ∃ k, k ≤ m ∧ x = nI k
/-- a sleeper's row is right -/
def okP (k more pic : Int32) (dull : Nat → Int32) : Prop := nI99 k 5 ∧ nI99 more 9 ∧ nI99 pic 65535 ∧ ∀ c, c < 16 → nI99 (dull c) 99
def okI (A : zSt) : Prop := A 0 6 = 0 ∨ (A 0 6 = 1 ∧ A 0 7 = nI (aI A) ∧ aI A ≤ aS A ∧ nI99 (A 0 8) 999 ∧ nI99 (A 0 9) 999 ∧ (∃ w, w < aT A ∧ A 0 10 = nI w) ∧ ∀ s, s < aI A → okP (A 1 s) (A 2 s) (A 4 s) (A (20 + s)))
def okQ (A : zSt) : Prop := ∀ q, q < 4 → (A 5 q = -1 ∨ A 5 q = 0 ∨ A 5 q = 1 ∨ A 5 q = 2) ∧ A 6 q = nI (aQ A q) ∧ aQ A q ≤ 40
def okA (A : zSt) : Prop := (A 0 0 = nI (aS A) ∧ aS A ≤ 6) ∧ (A 0 1 = nI (aN A) ∧ aN A ≤ 999) ∧ (A 0 2 = nI (aM A) ∧ aM A ≤ 999) ∧ (A 0 3 = nI (aT A) ∧ 1 ≤ aT A ∧ aT A ≤ 6) ∧ (A 0 4 = nI (aW A) ∧ aW A < aT A) ∧ (A 0 5 = nI (aZ A) ∧ aZ A ≤ 160) ∧ (∀ s, s < aS A → okP (A 1 s) (A 2 s) (A 3 s) (A (10 + s))) ∧ okI A ∧ okQ A
theorem nI99.c {x : Int32} {m : Nat} (h : nI99 x m) (hm : m < 2 ^ 31) : x = nI x.toNatClampNeg ∧ x.toNatClampNeg ≤ m := by
  obtain ⟨k, hk, rfl⟩ := h
  rw [nI_clamp (by omega)]
  exact ⟨rfl, hk⟩
theorem nI99.ge {x : Int32} {m : Nat} (h : nI99 x m) (hm : m < 2 ^ 31) : 0 ≤ x.toInt ∧ x.toInt ≤ m := by
  obtain ⟨k, hk, rfl⟩ := h
  rw [nI_toInt (by omega)]
  omega
/-- class rows -/
def cA1 (g : xG) (A : zSt) : Prop := g 0 9 = A 0 0 ∧ g 0 10 = A 0 1 ∧ g 0 11 = A 0 2 ∧ g 0 12 = A 0 3 ∧ g 0 13 = A 0 4
def cAI (g : xG) (A : zSt) : Prop := (A 0 6 = 0 → g 46 0 = -1) ∧ (A 0 6 ≠ 0 → (g 46 0 = A 0 7 ∧ g 46 1 = A 0 8 ∧ g 46 2 = A 0 9 ∧ g 46 3 = A 0 10) ∧ ∀ s, s < aI A → pnA g (48 + 3 * s) (aK A s) (A 2 s) (A 4 s) (A (20 + s)))
def cAQ (g : xG) (A : zSt) : Prop := ∀ q, q < 4 → g (72 + 2 * q) 0 = A 5 q ∧ g (72 + 2 * q) 1 = A 6 q ∧ ∀ j, j < 40 → g (72 + 2 * q + 1) j = A (40 + q) j
def cAP (g : xG) (A : zSt) : Prop := ∀ s, s < aS A → pnA g (9 + 3 * s) (aK A s) (A 2 s) (A 3 s) (A (10 + s))
def cAT (g : xG) (n : Nat) (A : zSt) (Λ : Nat → xL) : Prop := ∀ t, t < aT A → g 66 t = nI t ∧ lwA g n (fTX t) (Λ t)
def cAB (g : xG) (A : zSt) : Prop := g 67 0 = A 0 5 ∧ ∀ j, j < aZ A → g 68 j = A 30 j
def cA (g : xG) (n : Nat) (A : zSt) (Λ : Nat → xL) : Prop := n = 106 + 4 * aT A ∧ cA1 g A ∧ cAP g A ∧ cAT g n A Λ ∧ cAB g A ∧ cAI g A ∧ cAQ g A
/-- the class's scratch -/
def sX (j : Nat) : Prop := (28 ≤ j ∧ j < 46) ∨ j = 80 ∨ j = 81 ∨ (9 ≤ j ∧ j < 27 ∧ j % 3 = 2) ∨ (48 ≤ j ∧ j < 66 ∧ j % 3 = 2) ∨ j = 85 ∨ (110 ≤ j ∧ (j - 110) % 4 = 3)
theorem pnA.fr {g g1 : xG} {q k : Nat} {more pic : Int32} {dull : Nat → Int32} (h : pnA g q k more pic dull) (e1 : g1 q = g q) (e2 : g1 (q + 1) = g (q + 1)) : pnA g1 q k more pic dull := by
  obtain ⟨a, b, c, d, e⟩ := h
  exact ⟨by rw [e1]; exact a, by rw [e1]; exact b, by rw [e1]; exact c, fun c hc => by rw [e2]; exact d c hc, e⟩
theorem fTX_v (t : Nat) : (t = 0 ∧ fTX t = 82) ∨ (1 ≤ t ∧ fTX t = 106 + 4 * t) := by
  unfold fTX
  split
  · exact Or.inl ⟨by assumption, rfl⟩
  · exact Or.inr ⟨by omega, rfl⟩
theorem cA.keep {g g1 : xG} {n : Nat} {A : zSt} {Λ : Nat → xL} (C : cA g n A Λ) (O : okA A) (hf : fr sX g g1) : cA g1 n A Λ := by
  obtain ⟨c0, c1, cp, ct, cb, ci, cq⟩ := C
  have hS := O.1.2
  have hT := O.2.2.2.1.2.2
  refine ⟨c0, ?_, ?_, ?_, ?_, ?_, ?_⟩
  · unfold cA1; rw [hf 0 (by unfold sX; omega)]; exact c1
  · intro s hs
    exact (cp s hs).fr (hf _ (by unfold sX; omega)) (hf _ (by unfold sX; omega))
  · intro t ht
    have hv := fTX_v t
    refine ⟨by rw [hf 66 (by unfold sX; omega)]; exact (ct t ht).1, (ct t ht).2.keep hf ?_ ?_⟩
    · unfold sX; omega
    · unfold sX; omega
  · refine ⟨by rw [hf 67 (by unfold sX; omega)]; exact cb.1, fun j hj => by rw [hf 68 (by unfold sX; omega)]; exact cb.2 j hj⟩
  · refine ⟨fun z => by rw [hf 46 (by unfold sX; omega)]; exact ci.1 z, fun z => ⟨by rw [hf 46 (by unfold sX; omega)]; exact (ci.2 z).1, fun s hs => ?_⟩⟩
    rcases O.2.2.2.2.2.2.2.1 with h | h
    · exact absurd h z
    · have h6 := h.2.2.1
      exact ((ci.2 z).2 s hs).fr (hf _ (by unfold sX; omega)) (hf _ (by unfold sX; omega))
  · intro q hq
    refine ⟨by rw [hf _ (by unfold sX; omega)]; exact (cq q hq).1, by rw [hf _ (by unfold sX; omega)]; exact (cq q hq).2.1, fun j hj => by rw [hf _ (by unfold sX; omega)]; exact (cq q hq).2.2 j hj⟩
theorem cA.n110 {g : xG} {n : Nat} {A : zSt} {Λ : Nat → xL} (C : cA g n A Λ) (O : okA A) : 110 ≤ n := by
  have h := C.1
  have h2 := O.2.2.2.1.2.1
  omega
theorem okA.k6 {A : zSt} (O : okA A) {s : Nat} (hs : s < aS A) : aK A s < 6 := by
  have h := (O.2.2.2.2.2.2.1 s hs).1.c (by decide)
  exact Nat.lt_succ_of_le h.2
theorem cA.S {g : xG} {n : Nat} {A : zSt} {Λ : Nat → xL} (C : cA g n A Λ) (O : okA A) : g 0 9 = nI (aS A) := C.2.1.1.trans O.1.1
theorem cA.N {g : xG} {n : Nat} {A : zSt} {Λ : Nat → xL} (C : cA g n A Λ) (O : okA A) : g 0 10 = nI (aN A) := C.2.1.2.1.trans O.2.1.1
theorem cA.M {g : xG} {n : Nat} {A : zSt} {Λ : Nat → xL} (C : cA g n A Λ) (O : okA A) : g 0 11 = nI (aM A) := C.2.1.2.2.1.trans O.2.2.1.1
theorem cA.T {g : xG} {n : Nat} {A : zSt} {Λ : Nat → xL} (C : cA g n A Λ) (O : okA A) : g 0 12 = nI (aT A) := C.2.1.2.2.2.1.trans O.2.2.2.1.1
theorem cA.W {g : xG} {n : Nat} {A : zSt} {Λ : Nat → xL} (C : cA g n A Λ) (O : okA A) : g 0 13 = nI (aW A) := C.2.1.2.2.2.2.trans O.2.2.2.2.1.1
theorem cA.Z {g : xG} {n : Nat} {A : zSt} {Λ : Nat → xL} (C : cA g n A Λ) (O : okA A) : g 67 0 = nI (aZ A) := C.2.2.2.2.1.1.trans O.2.2.2.2.2.1.1
theorem cA.txt {g : xG} {n : Nat} {A : zSt} {Λ : Nat → xL} (C : cA g n A Λ) {t : Nat} (ht : t < aT A) : lwA g n (fTX t) (Λ t) := (C.2.2.2.1 t ht).2
theorem cA.t66 {g : xG} {n : Nat} {A : zSt} {Λ : Nat → xL} (C : cA g n A Λ) (O : okA A) {t : Nat} (ht : t < aT A) : (g 66 t).toNatClampNeg = t := by
  rw [(C.2.2.2.1 t ht).1]
  exact nI_clamp (by have := O.2.2.2.1.2.2; omega)
theorem cA.pane {g : xG} {n : Nat} {A : zSt} {Λ : Nat → xL} (C : cA g n A Λ) {s : Nat} (hs : s < aS A) : pnA g (9 + 3 * s) (aK A s) (A 2 s) (A 3 s) (A (10 + s)) := C.2.2.1 s hs
theorem cA.qs {g : xG} {n : Nat} {A : zSt} {Λ : Nat → xL} (C : cA g n A Λ) {q : Nat} (hq : q < 4) : g (72 + 2 * q) 0 = A 5 q := (C.2.2.2.2.2.2 q hq).1
theorem cA.qz {g : xG} {n : Nat} {A : zSt} {Λ : Nat → xL} (C : cA g n A Λ) (O : okA A) {q : Nat} (hq : q < 4) : g (72 + 2 * q) 1 = nI (aQ A q) := (C.2.2.2.2.2.2 q hq).2.1.trans (O.2.2.2.2.2.2.2.2 q hq).2.1
theorem cA.qn {g : xG} {n : Nat} {A : zSt} {Λ : Nat → xL} (C : cA g n A Λ) {q : Nat} (hq : q < 4) {j : Nat} (hj : j < 40) : g (72 + 2 * q + 1) j = A (40 + q) j := (C.2.2.2.2.2.2 q hq).2.2 j hj
theorem fX_s {q s t : Nat} (hs : s < 6) (hq : q = 9 + 3 * s ∨ q = 28 + 3 * s ∨ q = 48 + 3 * s) (j : Nat) (h : fX q (fTX t) j) : sX j := by
  have hv := fTX_v t
  unfold fX at h
  unfold sX
  omega
theorem fXd_s {q s t : Nat} (hs : s < 6) (hq : q = 28 + 3 * s) (j : Nat) (h : fXd q (fTX t) j) : sX j := by
  have hv := fTX_v t
  unfold fXd at h
  unfold sX
  omega
/-- whether s is a sleeper -/
abbrev isSl (A : zSt) (s : Int32) : Prop := 0 ≤ s ∧ s ≤ nI (aS A) - 1
theorem m1_toInt {k : Nat} (h : k < 2 ^ 30) : (nI k - 1 : Int32).toInt = (k : Int) - 1 := pk_sub_toInt (a := k) (b := 1) h (by omega)
theorem le_m1 {s : Int32} {k : Nat} (hk : k < 2 ^ 30) (h1 : 0 ≤ s) (h2 : s ≤ nI k - 1) : ∃ j, j < k ∧ s = nI j := by
  have h1' := (i32_le _ _).mp h1
  have h2' := (i32_le _ _).mp h2
  rw [m1_toInt hk] at h2'
  have h0 : (0 : Int32).toInt = 0 := rfl
  rw [h0] at h1'
  obtain ⟨j, hj, e⟩ := nI_of2 (x := s) (M := nI k) (n := k) (nI_toInt (by omega)) (fun h => absurd ((i32_lt _ _).mp h) (by rw [h0]; omega)) ((i32_le _ _).mpr (by rw [nI_toInt (by omega)]; omega))
  refine ⟨j, ?_, e⟩
  rw [e, nI_toInt (by omega)] at h2'
  omega
theorem isSl_of {A : zSt} {s : Int32} (O : okA A) (h : isSl A s) : ∃ k, k < aS A ∧ s = nI k := le_m1 (by have := O.1.2; omega) h.1 h.2
theorem isSl_k {A : zSt} {k : Nat} (O : okA A) (h : k < aS A) : isSl A (nI k) := by
  have h6 := O.1.2
  refine ⟨nI_le (a := 0) (Nat.zero_le _) (by omega), (i32_le _ _).mpr ?_⟩
  rw [m1_toInt (by omega), nI_toInt (by omega)]
  omega
