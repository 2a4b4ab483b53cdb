theorem cA.pic {g : xG} {n : Nat} {A : zSt} {Λ : Nat → xL} (C : cA g n A Λ) (O : okA A) {s : Nat} (hs : s < aS A) (x : Int32) : cA (gs g (9 + 3 * s) 2 x) n (gs A 3 s x) Λ := by
  have ea : ∀ q, q ≠ 3 → gs A 3 s x q = A q := fun q h => gs_n A s x h
  have eg : ∀ q, q ≠ 9 + 3 * s → gs g (9 + 3 * s) 2 x q = g q := fun q h => gs_n g 2 x h
  have hS := O.1.2
  obtain ⟨c0, c1, cp, ct, cb, ci, cq⟩ := C
  refine ⟨by unfold aT; rw [ea 0 (by omega)]; exact c0, by unfold cA1; rw [eg 0 (by omega), ea 0 (by omega)]; exact c1, ?_, ct.keep (by rw [ea 0 (by omega)]) (eg _ (by omega)) (fun q a b c => eg q (by omega)), cb.keep (by rw [ea 0 (by omega)]) (eg _ (by omega)) (eg _ (by omega)) (ea _ (by omega)), ci.keep O (fun i _ _ => by rw [ea 0 (by omega)]) (eg _ (by omega)) (fun q a b _ => eg q (by omega)) (fun _ i hi => ⟨by rw [ea 1 (by omega)], by rw [ea 2 (by omega)], by rw [ea 4 (by omega)], ea _ (by omega)⟩), cq.keep (fun q a b => eg q (by omega)) (ea _ (by omega)) (ea _ (by omega)) (fun q _ => ea _ (by omega))⟩
  intro i hi
  have hi' : i < aS A := by unfold aS at hi ⊢; rw [ea 0 (by omega)] at hi; exact hi
  rw [show aK (gs A 3 s x) i = aK A i by unfold aK; rw [ea 1 (by omega)], ea 2 (by omega), ea (10 + i) (by omega)]
  obtain ⟨p1, p2, p3, p4, p5⟩ := cp i hi'
  by_cases his : i = s
  · subst his
    rw [gs_s A, upd_s]
    exact ⟨by rw [gs_s, upd_n _ _ (by omega)]; exact p1, by rw [gs_s, upd_n _ _ (by omega)]; exact p2, by rw [gs_s, upd_s], fun c hc => by rw [eg _ (by omega)]; exact p4 c hc, p5⟩
  · rw [gs_s A, upd_n _ _ his]
    exact (cp i hi').fr (eg _ (by omega)) (eg _ (by omega))
theorem okA.pic {A : zSt} (O : okA A) {s : Nat} {x : Int32} (h : nI99 x 65535) : okA (gs A 3 s x) := by
  have ea : ∀ q, q ≠ 3 → gs A 3 s x q = A q := fun q h => gs_n A s x h
  have e0 := ea 0 (by omega)
  have eS : aS (gs A 3 s x) = aS A := by unfold aS; rw [e0]
  have eT : aT (gs A 3 s x) = aT A := by unfold aT; rw [e0]
  obtain ⟨o1, o2, o3, o4, o5, o6, o7, o8, o9⟩ := O
  refine ⟨by rw [eS, e0]; exact o1, by unfold aN; rw [e0]; exact o2, by unfold aM; rw [e0]; exact o3, by rw [eT, e0]; exact o4, by rw [eT]; unfold aW; rw [e0]; exact o5, by unfold aZ; rw [e0]; exact o6, ?_, okI.keep o8 (fun i _ _ => by rw [e0]) (by rw [eS]; omega) (by rw [eT]; omega) (fun z i hi => ⟨by rw [ea 1 (by omega)], by rw [ea 2 (by omega)], by rw [ea 4 (by omega)], ea _ (by omega)⟩), okQ.keep o9 (ea _ (by omega)) (ea _ (by omega))⟩
  intro i hi
  rw [eS] at hi
  rw [ea 1 (by omega), ea 2 (by omega), ea (10 + i) (by omega)]
  by_cases his : i = s
  · subst his
    rw [gs_s, upd_s]
    exact ⟨(o7 i hi).1, (o7 i hi).2.1, h, (o7 i hi).2.2.2⟩
  · rw [gs_s, upd_n _ _ his]
    exact o7 i hi
/-- one more sleeper -/
def stSl (A : zSt) (k more pic dl : Int32) : zSt := fun q => if q = 0 then upd (A 0) 0 (nI (aS A + 1)) else if q = 1 then upd (A 1) (aS A) k else if q = 2 then upd (A 2) (aS A) more else if q = 3 then upd (A 3) (aS A) pic else if q = 10 + aS A then fun _ => dl else A q
theorem stSl_S {A : zSt} (O : okA A) (k more pic dl : Int32) : aS (stSl A k more pic dl) = aS A + 1 := by
  have h := O.1.2
  show (upd (A 0) 0 (nI (aS A + 1)) 0).toNatClampNeg = aS A + 1
  rw [upd_s]
  exact nI_clamp (by omega)
theorem cA.slp {g g1 : xG} {n : Nat} {A : zSt} {Λ : Nat → xL} (C : cA g n A Λ) (O : okA A) (hS : aS A < 6) {k : Nat} {more pic dl : Int32} (hf : fr (fun j => j = 0 ∨ j = 9 + 3 * aS A ∨ j = 9 + 3 * aS A + 1) g g1) (e0 : g1 0 = upd (g 0) 9 (nI (aS A + 1))) (B : pnA g1 (9 + 3 * aS A) k more pic fun _ => dl) : cA g1 n (stSl A (nI k) more pic dl) Λ := by
  have hk := B.2.2.2.2
  have ea : ∀ q, 4 ≤ q → q ≠ 10 + aS A → stSl A (nI k) more pic dl q = A q := fun q h1 h2 => by unfold stSl; rw [if_neg (by omega), if_neg (by omega), if_neg (by omega), if_neg (by omega), if_neg h2]
  have a0 : stSl A (nI k) more pic dl 0 = upd (A 0) 0 (nI (aS A + 1)) := if_pos rfl
  have a1 : stSl A (nI k) more pic dl 1 = upd (A 1) (aS A) (nI k) := rfl
  have a2 : stSl A (nI k) more pic dl 2 = upd (A 2) (aS A) more := rfl
  have a3 : stSl A (nI k) more pic dl 3 = upd (A 3) (aS A) pic := rfl
  have a10 : stSl A (nI k) more pic dl (10 + aS A) = fun _ => dl := by unfold stSl; rw [if_neg (by omega), if_neg (by omega), if_neg (by omega), if_neg (by omega), if_pos rfl]
  have eg : ∀ q, ¬ (q = 0 ∨ q = 9 + 3 * aS A ∨ q = 9 + 3 * aS A + 1) → g1 q = g q := fun q h => hf q h
  have eS := stSl_S O (nI k) more pic dl
  have hI6 : A 0 6 ≠ 0 → aI A ≤ aS A := fun z => by
    rcases O.2.2.2.2.2.2.2.1 with w | w
    · exact absurd w z
    · exact w.2.2.1
  obtain ⟨c0, ⟨c1, c2, c3, c4, c5⟩, cp, ct, cb, ci, cq⟩ := C
  refine ⟨by unfold aT; rw [a0]; exact c0, ?_, ?_, ct.keep (by rw [a0]; rfl) (eg _ (by omega)) (fun q a b c => eg q (by omega)), cb.keep (by rw [a0]; rfl) (eg _ (by omega)) (eg _ (by omega)) (ea _ (by omega) (by omega)), ci.keep O (fun i h _ => by rw [a0, upd_n _ _ (by omega)]) (eg _ (by omega)) (fun q a b _ => eg q (by omega)) (fun z i hi => ?_), cq.keep (fun q a b => eg q (by omega)) (ea _ (by omega) (by omega)) (ea _ (by omega) (by omega)) (fun q _ => ea _ (by omega) (by omega))⟩
  · unfold cA1
    rw [e0, a0]
    exact ⟨rfl, c2, c3, c4, c5⟩
  · intro i hi
    rw [eS] at hi
    by_cases his : i = aS A
    · subst his
      rw [show aK (stSl A (nI k) more pic dl) (aS A) = k by unfold aK; rw [a1, upd_s]; exact nI_clamp (by omega), a2, a3, a10, upd_s, upd_s]
      exact B
    · rw [show aK (stSl A (nI k) more pic dl) i = aK A i by unfold aK; rw [a1, upd_n _ _ his], a2, a3, upd_n _ _ his, upd_n _ _ his, ea (10 + i) (by omega) (by omega)]
      exact (cp i (by omega)).fr (eg _ (by omega)) (eg _ (by omega))
  · have h6 := hI6 z
    exact ⟨by rw [a1, upd_n _ _ (by omega)], by rw [a2, upd_n _ _ (by omega)], by rw [ea 4 (by omega) (by omega)], ea _ (by omega) (by omega)⟩
theorem okA.slp {A : zSt} (O : okA A) (hS : aS A < 6) {k more pic dl : Int32} (h1 : nI99 k 5) (h2 : nI99 more 9) (h3 : nI99 pic 65535) (h4 : nI99 dl 99) : okA (stSl A k more pic dl) := by
  have ea : ∀ q, 4 ≤ q → q ≠ 10 + aS A → stSl A k more pic dl q = A q := fun q h1 h2 => by unfold stSl; rw [if_neg (by omega), if_neg (by omega), if_neg (by omega), if_neg (by omega), if_neg h2]
  have a0 : stSl A k more pic dl 0 = upd (A 0) 0 (nI (aS A + 1)) := if_pos rfl
  have a1 : stSl A k more pic dl 1 = upd (A 1) (aS A) k := rfl
  have a2 : stSl A k more pic dl 2 = upd (A 2) (aS A) more := rfl
  have a3 : stSl A k more pic dl 3 = upd (A 3) (aS A) pic := rfl
  have a10 : stSl A k more pic dl (10 + aS A) = fun _ => dl := by unfold stSl; rw [if_neg (by omega), if_neg (by omega), if_neg (by omega), if_neg (by omega), if_pos rfl]
  have eS := stSl_S O k more pic dl
  have eT : aT (stSl A k more pic dl) = aT A := by unfold aT; rw [a0]; rfl
  have hI6 : A 0 6 ≠ 0 → aI A ≤ aS A := fun z => by
    rcases O.2.2.2.2.2.2.2.1 with w | w
    · exact absurd w z
    · exact w.2.2.1
  obtain ⟨o1, o2, o3, o4, o5, o6, o7, o8, o9⟩ := O
  refine ⟨by rw [eS, a0, upd_s]; exact ⟨rfl, by omega⟩, by unfold aN; rw [a0]; exact o2, by unfold aM; rw [a0]; exact o3, by rw [eT, a0]; exact o4, by rw [eT]; unfold aW; rw [a0]; exact o5, by unfold aZ; rw [a0]; exact o6, ?_, okI.keep o8 (fun i h _ => by rw [a0, upd_n _ _ (by omega)]) (by rw [eS]; omega) (by rw [eT]; omega) (fun z i hi => ?_), okQ.keep o9 (ea _ (by omega) (by omega)) (ea _ (by omega) (by omega))⟩
  · intro i hi
    rw [eS] at hi
    by_cases his : i = aS A
    · subst his
      rw [a1, a2, a3, a10, upd_s, upd_s, upd_s]
      exact ⟨h1, h2, h3, fun _ _ => h4⟩
    · rw [a1, a2, a3, upd_n _ _ his, upd_n _ _ his, upd_n _ _ his, ea (10 + i) (by omega) (by omega)]
      exact o7 i (by omega)
  · have h6 := hI6 z
    exact ⟨by rw [a1, upd_n _ _ (by omega)], by rw [a2, upd_n _ _ (by omega)], by rw [ea 4 (by omega) (by omega)], ea _ (by omega) (by omega)⟩
/-- one more byte on the tape -/
def stTp (A : zSt) (b : Int32) : zSt := gs (gs A 30 (aZ A) b) 0 5 (nI (aZ A + 1))
theorem stTp_Z {A : zSt} (O : okA A) (b : Int32) : aZ (stTp A b) = aZ A + 1 := by
  unfold aZ stTp
  rw [gs_s, upd_s]
  exact nI_clamp (by have := O.2.2.2.2.2.1.2; unfold aZ at this ⊢; omega)
theorem cA.tap {g g1 : xG} {n : Nat} {A : zSt} {Λ : Nat → xL} (C : cA g n A Λ) (O : okA A) (b : Int32) (hg : g1 = gs (gs g 68 (aZ A) b) 67 0 (nI (aZ A + 1))) : cA g1 n (stTp A b) Λ := by
  have a30 : stTp A b 30 = upd (A 30) (aZ A) b := by unfold stTp; rw [gs_n _ _ _ (by omega), gs_s]
  have a0 : stTp A b 0 = upd (A 0) 5 (nI (aZ A + 1)) := by unfold stTp; rw [gs_s, gs_n _ _ _ (by omega)]
  have ea : ∀ q, q ≠ 0 → q ≠ 30 → stTp A b q = A q := fun q h1 h2 => by unfold stTp; rw [gs_n _ _ _ h1, gs_n _ _ _ h2]
  have eg : ∀ q, q ≠ 67 → q ≠ 68 → g1 q = g q := fun q h1 h2 => by rw [hg, gs_n _ _ _ h1, gs_n _ _ _ h2]
  obtain ⟨c0, c1, cp, ct, cb, ci, cq⟩ := C
  refine ⟨by unfold aT; rw [a0]; exact c0, by unfold cA1; rw [eg 0 (by omega) (by omega), a0]; exact c1, cp.keep O.1.2 (by rw [a0]; rfl) (fun q a b _ => eg q (by omega) (by omega)) (fun s _ => ⟨by rw [ea 1 (by omega) (by omega)], by rw [ea 2 (by omega) (by omega)], by rw [ea 3 (by omega) (by omega)], ea _ (by omega) (by have := O.1.2; omega)⟩), ct.keep (by rw [a0]; rfl) (eg _ (by omega) (by omega)) (fun q a b c => eg q (by omega) (by omega)), ?_, ci.keep O (fun i h _ => by rw [a0, upd_n _ _ (by omega)]) (eg _ (by omega) (by omega)) (fun q a b _ => eg q (by omega) (by omega)) (fun z i hi => ⟨by rw [ea 1 (by omega) (by omega)], by rw [ea 2 (by omega) (by omega)], by rw [ea 4 (by omega) (by omega)], ea _ (by omega) (by rcases O.2.2.2.2.2.2.2.1 with w | w; exact absurd w z; have := w.2.2.1; have := O.1.2; omega)⟩), cq.keep (fun q a b => eg q (by omega) (by omega)) (ea _ (by omega) (by omega)) (ea _ (by omega) (by omega)) (fun q _ => ea _ (by omega) (by omega))⟩
  refine ⟨by rw [hg, gs_s, upd_s, a0, upd_s], fun j hj => ?_⟩
  rw [stTp_Z O] at hj
  rw [hg, gs_n _ _ _ (by omega), gs_s, a30]
  by_cases hjz : j = aZ A
  · subst hjz; rw [upd_s, upd_s]
  · rw [upd_n _ _ hjz, upd_n _ _ hjz]; exact cb.2 j (by omega)
theorem okA.tap {A : zSt} (O : okA A) (b : Int32) (h : aZ A < 160) : okA (stTp A b) := by
  have a0 : stTp A b 0 = upd (A 0) 5 (nI (aZ A + 1)) := by unfold stTp; rw [gs_s, gs_n _ _ _ (by omega)]
  have ea : ∀ q, q ≠ 0 → q ≠ 30 → stTp A b q = A q := fun q h1 h2 => by unfold stTp; rw [gs_n _ _ _ h1, gs_n _ _ _ h2]
  have eZ := stTp_Z O b
  have eS : aS (stTp A b) = aS A := by unfold aS; rw [a0]; rfl
  have eT : aT (stTp A b) = aT A := by unfold aT; rw [a0]; rfl
  have hI6 : A 0 6 ≠ 0 → aI A ≤ aS A := fun z => by
    rcases O.2.2.2.2.2.2.2.1 with w | w
    · exact absurd w z
    · exact w.2.2.1
  obtain ⟨o1, o2, o3, o4, o5, o6, o7, o8, o9⟩ := O
  refine ⟨by rw [eS, a0]; exact o1, by unfold aN; rw [a0]; exact o2, by unfold aM; rw [a0]; exact o3, by rw [eT, a0]; exact o4, by rw [eT]; unfold aW; rw [a0]; exact o5, by rw [eZ, a0, upd_s]; exact ⟨rfl, by omega⟩, fun s hs => ?_, okI.keep o8 (fun i h _ => by rw [a0, upd_n _ _ (by omega)]) (by rw [eS]; omega) (by rw [eT]; omega) (fun z i hi => ⟨by rw [ea 1 (by omega) (by omega)], by rw [ea 2 (by omega) (by omega)], by rw [ea 4 (by omega) (by omega)], ea _ (by omega) (by have := hI6 z; omega)⟩), okQ.keep o9 (ea _ (by omega) (by omega)) (ea _ (by omega) (by omega))⟩
  rw [eS] at hs
  rw [ea 1 (by omega) (by omega), ea 2 (by omega) (by omega), ea 3 (by omega) (by omega), ea (10 + s) (by omega) (by omega)]
  exact o7 s hs
/-- a sheet is made anew or written -/
def stQ (A : zSt) (q : Nat) (sort size : Int32) (r : Nat → Int32) : zSt := fun j => if j = 5 then upd (A 5) q sort else if j = 6 then upd (A 6) q size else if j = 40 + q then r else A j
theorem cA.sht {g g1 : xG} {n : Nat} {A : zSt} {Λ : Nat → xL} (C : cA g n A Λ) (O : okA A) {q : Nat} (hq : q < 4) {sort size : Int32} {r : Nat → Int32} (hf : fr (fun j => j = 72 + 2 * q ∨ j = 72 + 2 * q + 1) g g1) (h1 : g1 (72 + 2 * q) 0 = sort) (h2 : g1 (72 + 2 * q) 1 = size) (h3 : ∀ j, j < 40 → g1 (72 + 2 * q + 1) j = r j) : cA g1 n (stQ A q sort size r) Λ := by
  have ea : ∀ j, j ≠ 5 → j ≠ 6 → j ≠ 40 + q → stQ A q sort size r j = A j := fun j a b c => by unfold stQ; rw [if_neg a, if_neg b, if_neg c]
  have eg : ∀ j, ¬ (j = 72 + 2 * q ∨ j = 72 + 2 * q + 1) → g1 j = g j := fun j h => hf j h
  have hS := O.1.2
  have e0 := ea 0 (by omega) (by omega) (by omega)
  obtain ⟨c0, c1, cp, ct, cb, ci, cq⟩ := C
  refine ⟨by unfold aT; rw [e0]; exact c0, by unfold cA1; rw [eg 0 (by omega), e0]; exact c1, cp.keep O.1.2 (by rw [e0]) (fun q a b _ => eg q (by omega)) (fun s _ => ⟨by rw [ea 1 (by omega) (by omega) (by omega)], by rw [ea 2 (by omega) (by omega) (by omega)], by rw [ea 3 (by omega) (by omega) (by omega)], ea _ (by omega) (by omega) (by omega)⟩), ct.keep (by rw [e0]) (eg _ (by omega)) (fun j a b c => eg j (by omega)), cb.keep (by rw [e0]) (eg _ (by omega)) (eg _ (by omega)) (ea _ (by omega) (by omega) (by omega)), ci.keep O (fun i h _ => by rw [e0]) (eg _ (by omega)) (fun j a b _ => eg j (by omega)) (fun z i hi => ⟨by rw [ea 1 (by omega) (by omega) (by omega)], by rw [ea 2 (by omega) (by omega) (by omega)], by rw [ea 4 (by omega) (by omega) (by omega)], ea _ (by omega) (by omega) (by rcases O.2.2.2.2.2.2.2.1 with w | w; exact absurd w z; have := w.2.2.1; omega)⟩), fun i hi => ?_⟩
  by_cases hiq : i = q
  · subst hiq
    refine ⟨h1.trans (upd_s _ _ _).symm, h2.trans (upd_s _ _ _).symm, fun j hj => (h3 j hj).trans ?_⟩
    unfold stQ
    rw [if_neg (by omega), if_neg (by omega), if_pos rfl]
  · rw [eg _ (by omega), eg _ (by omega), ea (40 + i) (by omega) (by omega) (by omega)]
    exact ⟨(cq i hi).1.trans (upd_n _ _ hiq).symm, (cq i hi).2.1.trans (upd_n _ _ hiq).symm, (cq i hi).2.2⟩
theorem okA.sht {A : zSt} (O : okA A) {q : Nat} (hq : q < 4) {sort size : Int32} {r : Nat → Int32} (h1 : sort = -1 ∨ sort = 0 ∨ sort = 1 ∨ sort = 2) (h2 : nI99 size 40) : okA (stQ A q sort size r) := by
  have ea : ∀ j, j ≠ 5 → j ≠ 6 → j ≠ 40 + q → stQ A q sort size r j = A j := fun j a b c => by unfold stQ; rw [if_neg a, if_neg b, if_neg c]
  have hS := O.1.2
  have e0 := ea 0 (by omega) (by omega) (by omega)
  have eS : aS (stQ A q sort size r) = aS A := by unfold aS; rw [e0]
  have eT : aT (stQ A q sort size r) = aT A := by unfold aT; rw [e0]
  have hI6 : A 0 6 ≠ 0 → aI A ≤ aS A := fun z => by
    rcases O.2.2.2.2.2.2.2.1 with w | w
    · exact absurd w z
    · exact w.2.2.1
  obtain ⟨o1, o2, o3, o4, o5, o6, o7, o8, o9⟩ := O
  refine ⟨by rw [eS, e0]; exact o1, by unfold aN; rw [e0]; exact o2, by unfold aM; rw [e0]; exact o3, by rw [eT, e0]; exact o4, by rw [eT]; unfold aW; rw [e0]; exact o5, by unfold aZ; rw [e0]; exact o6, fun s hs => ?_, okI.keep o8 (fun i h _ => by rw [e0]) (by rw [eS]; omega) (by rw [eT]; omega) (fun z i hi => ⟨by rw [ea 1 (by omega) (by omega) (by omega)], by rw [ea 2 (by omega) (by omega) (by omega)], by rw [ea 4 (by omega) (by omega) (by omega)], ea _ (by omega) (by omega) (by have := hI6 z; omega)⟩), fun i hi => ?_⟩
  · rw [eS] at hs
    rw [ea 1 (by omega) (by omega) (by omega), ea 2 (by omega) (by omega) (by omega), ea 3 (by omega) (by omega) (by omega), ea (10 + s) (by omega) (by omega) (by omega)]
    exact o7 s hs
  · have a5 : stQ A q sort size r 5 = upd (A 5) q sort := rfl
    have a6 : stQ A q sort size r 6 = upd (A 6) q size := rfl
    rw [show aQ (stQ A q sort size r) i = (upd (A 6) q size i).toNatClampNeg from rfl, a5, a6]
    by_cases hiq : i = q
    · subst hiq
      rw [upd_s, upd_s]
      exact ⟨h1, (h2.c (by decide)).1, (h2.c (by decide)).2⟩
    · rw [upd_n _ _ hiq, upd_n _ _ hiq]
      exact o9 i hi
