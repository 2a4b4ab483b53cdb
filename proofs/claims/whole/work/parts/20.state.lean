/-! HOW THE STATE CHANGES -/
theorem cAP.keep {g g1 : xG} {A A1 : zSt} (h : cAP g A) (hS : aS A ≤ 6) (e0 : A1 0 0 = A 0 0) (eg : ∀ q, 9 ≤ q → q < 27 → q % 3 ≠ 2 → g1 q = g q) (ea : ∀ s, s < aS A → A1 1 s = A 1 s ∧ A1 2 s = A 2 s ∧ A1 3 s = A 3 s ∧ A1 (10 + s) = A (10 + s)) : cAP g1 A1 := by
  intro s hs
  have hs' : s < aS A := by unfold aS at hs ⊢; rw [e0] at hs; exact hs
  obtain ⟨a, b, c, d⟩ := ea s hs'
  rw [show aK A1 s = aK A s by unfold aK; rw [a], b, c, d]
  exact (h s hs').fr (eg _ (by omega) (by omega) (by omega)) (eg _ (by omega) (by omega) (by omega))
theorem cAT.keep {g g1 : xG} {n : Nat} {A A1 : zSt} {Λ : Nat → xL} (h : cAT g n A Λ) (e0 : A1 0 3 = A 0 3) (e66 : g1 66 = g 66) (et : ∀ q, 83 ≤ q → (q < 85 ∨ 110 ≤ q) → q % 4 ≠ 1 → g1 q = g q) : cAT g1 n A1 Λ := by
  intro t ht
  have ht' : t < aT A := by unfold aT at ht ⊢; rw [e0] at ht; exact ht
  obtain ⟨a, b, c, d⟩ := h t ht'
  have hv := fTX_v t
  exact ⟨by rw [e66]; exact a, b, c, by rw [et _ (by omega) (by omega) (by omega), et _ (by omega) (by omega) (by omega)]; exact d⟩
theorem cAB.keep {g g1 : xG} {A A1 : zSt} (h : cAB g A) (e0 : A1 0 5 = A 0 5) (e67 : g1 67 = g 67) (e68 : g1 68 = g 68) (e30 : A1 30 = A 30) : cAB g1 A1 := by
  refine ⟨by rw [e67, e0]; exact h.1, fun j hj => ?_⟩
  rw [e68, e30]
  exact h.2 j (by unfold aZ at hj ⊢; rw [e0] at hj; exact hj)
theorem cAI.keep {g g1 : xG} {A A1 : zSt} (h : cAI g A) (O : okA A) (e0 : ∀ j, 6 ≤ j → j ≤ 10 → A1 0 j = A 0 j) (e46 : g1 46 = g 46) (eg : ∀ q, 48 ≤ q → q < 66 → q % 3 ≠ 2 → g1 q = g q) (ea : A 0 6 ≠ 0 → ∀ s, s < aI A → A1 1 s = A 1 s ∧ A1 2 s = A 2 s ∧ A1 4 s = A 4 s ∧ A1 (20 + s) = A (20 + s)) : cAI g1 A1 := by
  have e6 := e0 6 (by omega) (by omega)
  have e7 := e0 7 (by omega) (by omega)
  refine ⟨fun z => by rw [e46]; exact h.1 (e6 ▸ z), fun z => ?_⟩
  have z' : A 0 6 ≠ 0 := e6 ▸ z
  have hI : aI A ≤ 6 := by
    rcases O.2.2.2.2.2.2.2.1 with w | w
    · exact absurd w z'
    · have := O.1.2; have := w.2.2.1; omega
  refine ⟨by rw [e46, e7, e0 8 (by omega) (by omega), e0 9 (by omega) (by omega), e0 10 (by omega) (by omega)]; exact (h.2 z').1, fun s hs => ?_⟩
  have hs' : s < aI A := by unfold aI at hs ⊢; rw [e7] at hs; exact hs
  obtain ⟨a, b, c, d⟩ := ea z' s hs'
  rw [show aK A1 s = aK A s by unfold aK; rw [a], b, c, d]
  exact ((h.2 z').2 s hs').fr (eg _ (by omega) (by omega) (by omega)) (eg _ (by omega) (by omega) (by omega))
theorem cAQ.keep {g g1 : xG} {A A1 : zSt} (h : cAQ g A) (eg : ∀ q, 72 ≤ q → q < 80 → g1 q = g q) (e5 : A1 5 = A 5) (e6 : A1 6 = A 6) (e40 : ∀ q, q < 4 → A1 (40 + q) = A (40 + q)) : cAQ g1 A1 := by
  intro q hq
  rw [eg _ (by omega) (by omega), eg _ (by omega) (by omega), e5, e6, e40 q hq]
  exact h q hq
theorem okI.keep {A A1 : zSt} (h : okI A) (e0 : ∀ j, 6 ≤ j → j ≤ 10 → A1 0 j = A 0 j) (eS : aS A ≤ aS A1) (eT : aT A ≤ aT A1) (ea : A 0 6 ≠ 0 → ∀ s, s < aI A → A1 1 s = A 1 s ∧ A1 2 s = A 2 s ∧ A1 4 s = A 4 s ∧ A1 (20 + s) = A (20 + s)) : okI A1 := by
  have e6 := e0 6 (by omega) (by omega)
  have e7 := e0 7 (by omega) (by omega)
  have eI : aI A1 = aI A := by unfold aI; rw [e7]
  rcases h with h | ⟨h1, h2, h3, h4, h5, ⟨w, hw, h6⟩, h7⟩
  · exact Or.inl (e6.trans h)
  · have z : A 0 6 ≠ 0 := by rw [h1]; decide
    refine Or.inr ⟨e6.trans h1, by rw [e7, eI]; exact h2, by rw [eI]; omega, by rw [e0 8 (by omega) (by omega)]; exact h4, by rw [e0 9 (by omega) (by omega)]; exact h5, ⟨w, by omega, by rw [e0 10 (by omega) (by omega)]; exact h6⟩, fun s hs => ?_⟩
    rw [eI] at hs
    obtain ⟨a, b, c, d⟩ := ea z s hs
    rw [a, b, c, d]
    exact h7 s hs
theorem okQ.keep {A A1 : zSt} (h : okQ A) (e5 : A1 5 = A 5) (e6 : A1 6 = A 6) : okQ A1 := by
  intro q hq
  rw [e5, e6, show aQ A1 q = aQ A q by unfold aQ; rw [e6]]
  exact h q hq
theorem fr_n {X : Nat → Prop} {g g1 : xG} (h : fr X g g1) {q : Nat} (hq : ¬ X q) : g1 q = g q := h q hq
/-- night, minutes, law -/
theorem cA.num {g : xG} {n : Nat} {A : zSt} {Λ : Nat → xL} (C : cA g n A Λ) (O : okA A) {j : Nat} (hj : j = 1 ∨ j = 2 ∨ j = 4) (x : Int32) : cA (gs g 0 (9 + j) x) n (gs A 0 j x) Λ := by
  have ea : ∀ q, q ≠ 0 → gs A 0 j x q = A q := fun q h => gs_n A j x h
  have eg : ∀ q, q ≠ 0 → gs g 0 (9 + j) x q = g q := fun q h => gs_n g (9 + j) x h
  have e0 : ∀ i, i ≠ j → gs A 0 j x 0 i = A 0 i := fun i h => by rw [gs_s, upd_n _ _ h]
  obtain ⟨c0, ⟨c1, c2, c3, c4, c5⟩, cp, ct, cb, ci, cq⟩ := C
  refine ⟨by unfold aT; rw [e0 3 (by omega)]; exact c0, ?_, cp.keep O.1.2 (e0 0 (by omega)) (fun q a _ _ => eg q (by omega)) (fun s _ => ⟨by rw [ea 1 (by omega)], by rw [ea 2 (by omega)], by rw [ea 3 (by omega)], ea _ (by omega)⟩), ct.keep (e0 3 (by omega)) (eg _ (by omega)) (fun q a _ _ => eg q (by omega)), cb.keep (e0 5 (by omega)) (eg _ (by omega)) (eg _ (by omega)) (ea _ (by omega)), ci.keep O (fun i a _ => e0 i (by omega)) (eg _ (by omega)) (fun q a _ _ => eg q (by omega)) (fun _ s _ => ⟨by rw [ea 1 (by omega)], by rw [ea 2 (by omega)], by rw [ea 4 (by omega)], ea _ (by omega)⟩), cq.keep (fun q a _ => eg q (by omega)) (ea _ (by omega)) (ea _ (by omega)) (fun q _ => ea _ (by omega))⟩
  unfold cA1
  rw [gs_s, gs_s]
  rcases hj with rfl | rfl | rfl
  · exact ⟨c1, rfl, c3, c4, c5⟩
  · exact ⟨c1, c2, rfl, c4, c5⟩
  · exact ⟨c1, c2, c3, c4, rfl⟩
theorem okA.num {A : zSt} (O : okA A) {j : Nat} (x : Int32) (h : (j = 1 ∧ nI99 x 999) ∨ (j = 2 ∧ nI99 x 999) ∨ (j = 4 ∧ ∃ w, w < aT A ∧ x = nI w)) : okA (gs A 0 j x) := by
  have ea : ∀ q, q ≠ 0 → gs A 0 j x q = A q := fun q h => gs_n A j x h
  have e0 : ∀ i, i ≠ j → gs A 0 j x 0 i = A 0 i := fun i h => by rw [gs_s, upd_n _ _ h]
  have ej : gs A 0 j x 0 j = x := by rw [gs_s, upd_s]
  have eS : aS (gs A 0 j x) = aS A := by unfold aS; rw [e0 0 (by omega)]
  have eT : aT (gs A 0 j x) = aT A := by unfold aT; rw [e0 3 (by omega)]
  obtain ⟨o1, o2, o3, o4, o5, o6, o7, o8, o9⟩ := O
  refine ⟨by rw [eS, e0 0 (by omega)]; exact o1, ?_, ?_, by rw [eT, e0 3 (by omega)]; exact o4, ?_, by unfold aZ; rw [e0 5 (by omega)]; exact o6, ?_, okI.keep o8 (fun i _ _ => e0 i (by omega)) (by rw [eS]; omega) (by rw [eT]; omega) (fun _ s _ => ⟨by rw [ea 1 (by omega)], by rw [ea 2 (by omega)], by rw [ea 4 (by omega)], ea _ (by omega)⟩), okQ.keep o9 (ea _ (by omega)) (ea _ (by omega))⟩
  · by_cases h1 : j = 1
    · subst h1
      rcases h with h | h | h
      · unfold aN; rw [ej]; exact h.2.c (by decide)
      · omega
      · omega
    · unfold aN; rw [e0 1 (by omega)]; exact o2
  · by_cases h1 : j = 2
    · subst h1
      rcases h with h | h | h
      · omega
      · unfold aM; rw [ej]; exact h.2.c (by decide)
      · omega
    · unfold aM; rw [e0 2 (by omega)]; exact o3
  · by_cases h1 : j = 4
    · subst h1
      rcases h with h | h | ⟨_, w, hw, e⟩
      · omega
      · omega
      · rw [eT]; unfold aW; rw [ej, e, nI_clamp (by omega)]; exact ⟨rfl, hw⟩
    · rw [eT]; unfold aW; rw [e0 4 (by omega)]; exact o5
  · intro s hs
    rw [eS] at hs
    rw [ea 1 (by omega), ea 2 (by omega), ea 3 (by omega), ea (10 + s) (by omega)]
    exact o7 s hs
/-- one pane's cells -/
theorem cA.rowD {g g1 : xG} {n : Nat} {A : zSt} {Λ : Nat → xL} (C : cA g n A Λ) (O : okA A) {s t : Nat} (hs : s < aS A) (hf : fr (fXd (9 + 3 * s) (fTX t)) g g1) {d : Nat → Int32} (B : pnA g1 (9 + 3 * s) (aK A s) (A 2 s) (A 3 s) d) : cA g1 n (va_up A (10 + s) d) Λ := by
  have ea : ∀ q, q ≠ 10 + s → va_up A (10 + s) d q = A q := fun q h => va_up_n A d h
  have hv := fTX_v t
  have hS := O.1.2
  have eg : ∀ q, ¬ (q = 9 + 3 * s + 1 ∨ q = 9 + 3 * s + 2 ∨ q = fTX t + 3) → g1 q = g q := fun q h => hf q h
  obtain ⟨c0, c1, cp, ct, cb, ci, cq⟩ := C
  refine ⟨by unfold aT; rw [ea 0 (by omega)]; exact c0, by unfold cA1; rw [eg 0 (by omega), ea 0 (by omega)]; exact c1, ?_, ct.keep (by rw [ea 0 (by omega)]) (eg _ (by omega)) (fun q a b c => eg q (by omega)), cb.keep (by rw [ea 0 (by omega)]) (eg _ (by omega)) (eg _ (by omega)) (ea _ (by omega)), ci.keep O (fun i _ _ => by rw [ea 0 (by omega)]) (eg _ (by omega)) (fun q a b _ => eg q (by omega)) (fun _ i hi => ⟨by rw [ea 1 (by omega)], by rw [ea 2 (by omega)], by rw [ea 4 (by omega)], ea _ (by omega)⟩), cq.keep (fun q a b => eg q (by omega)) (ea _ (by omega)) (ea _ (by omega)) (fun q _ => ea _ (by omega))⟩
  intro i hi
  have hi' : i < aS A := by unfold aS at hi ⊢; rw [ea 0 (by omega)] at hi; exact hi
  by_cases his : i = s
  · subst his
    rw [show aK (va_up A (10 + i) d) i = aK A i by unfold aK; rw [ea 1 (by omega)], ea 2 (by omega), ea 3 (by omega), va_up_s]
    exact B
  · rw [show aK (va_up A (10 + s) d) i = aK A i by unfold aK; rw [ea 1 (by omega)], ea 2 (by omega), ea 3 (by omega), ea (10 + i) (by omega)]
    exact (cp i hi').fr (eg _ (by omega)) (eg _ (by omega))
theorem okA.rowD {A : zSt} (O : okA A) {s : Nat} (hs : s < aS A) {d : Nat → Int32} (h : ∀ c, c < 16 → nI99 (d c) 99) : okA (va_up A (10 + s) d) := by
  have ea : ∀ q, q ≠ 10 + s → va_up A (10 + s) d q = A q := fun q h => va_up_n A d h
  have hS := O.1.2
  have e0 := ea 0 (by omega)
  have eS : aS (va_up A (10 + s) d) = aS A := by unfold aS; rw [e0]
  have eT : aT (va_up A (10 + s) d) = aT A := by unfold aT; rw [e0]
  obtain ⟨o1, o2, o3, o4, o5, o6, o7, o8, o9⟩ := O
  refine ⟨by rw [eS, e0]; exact o1, by unfold aN; rw [e0]; exact o2, by unfold aM; rw [e0]; exact o3, by rw [eT, e0]; exact o4, by rw [eT]; unfold aW; rw [e0]; exact o5, by unfold aZ; rw [e0]; exact o6, ?_, okI.keep o8 (fun i _ _ => by rw [e0]) (by rw [eS]; omega) (by rw [eT]; omega) (fun z i hi => ?_), okQ.keep o9 (ea _ (by omega)) (ea _ (by omega))⟩
  · intro i hi
    rw [eS] at hi
    rw [ea 1 (by omega), ea 2 (by omega), ea 3 (by omega)]
    by_cases his : i = s
    · subst his
      rw [va_up_s]
      exact ⟨(o7 i hi).1, (o7 i hi).2.1, (o7 i hi).2.2.1, h⟩
    · rw [ea (10 + i) (by omega)]
      exact o7 i hi
  · exact ⟨by rw [ea 1 (by omega)], by rw [ea 2 (by omega)], by rw [ea 4 (by omega)], ea _ (by omega)⟩
