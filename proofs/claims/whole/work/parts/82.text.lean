/-! TEXT: what it answers and leaves -/
def waA (A : zSt) : Bool × Nat × List (List Int32) := waF (A 30) (aZ A) 3 0 0
def rText (A : zSt) : Int32 × zSt := if aT A = 6 then (-4, A) else if (waA A).1 = true then (nI (aT A), gs (gs A 0 5 0) 0 3 (nI (aT A + 1))) else (-100 - nI (stP (A 30) (aZ A) (waA A).2.1), gs A 0 5 0)
def saidL (Ds : List (List Int32)) : xL := fun p nm => vlD (Ds.getD p []) nm
def txL (A : zSt) (Λ : Nat → xL) : Nat → xL := if aT A = 6 then Λ else if (waA A).1 = true then (fun t => if t = aT A then saidL (waA A).2.2 else Λ t) else Λ
theorem okA.tx {A A1 : zSt} (O : okA A) (eA : ∀ q, q ≠ 0 → A1 q = A q) (e0 : ∀ j, j ≠ 3 → j ≠ 5 → A1 0 j = A 0 j) (e5 : A1 0 5 = 0) (e3 : A1 0 3 = A 0 3 ∨ (A1 0 3 = nI (aT A + 1) ∧ aT A < 6)) : okA A1 := by
  obtain ⟨o0, o1, o2, o3, o4, o5, o6, o7, o8⟩ := O
  have eS : aS A1 = aS A := by unfold aS; rw [e0 0 (by decide) (by decide)]
  have eN : aN A1 = aN A := by unfold aN; rw [e0 1 (by decide) (by decide)]
  have eM : aM A1 = aM A := by unfold aM; rw [e0 2 (by decide) (by decide)]
  have eW : aW A1 = aW A := by unfold aW; rw [e0 4 (by decide) (by decide)]
  have eI : aI A1 = aI A := by unfold aI; rw [e0 7 (by decide) (by decide)]
  have eZ : aZ A1 = 0 := by unfold aZ; rw [e5]; rfl
  have eT : A1 0 3 = nI (aT A1) ∧ aT A ≤ aT A1 ∧ aT A1 ≤ 6 := by
    rcases e3 with e3 | ⟨e3, h6⟩
    · have eT : aT A1 = aT A := by unfold aT; rw [e3]
      rw [eT, e3]
      exact ⟨o3.1, Nat.le_refl _, o3.2.2⟩
    · have eT : aT A1 = aT A + 1 := by show (A1 0 3).toNatClampNeg = _; rw [e3, nI_clamp (by omega)]
      rw [eT, e3]
      exact ⟨rfl, Nat.le_succ _, h6⟩
  refine ⟨?_, ?_, ?_, ⟨eT.1, Nat.le_trans o3.2.1 eT.2.1, eT.2.2⟩, ?_, ?_, fun s hs => ?_, ?_, fun q hq => ?_⟩
  · rw [e0 0 (by decide) (by decide), eS]; exact o0
  · rw [e0 1 (by decide) (by decide), eN]; exact o1
  · rw [e0 2 (by decide) (by decide), eM]; exact o2
  · rw [e0 4 (by decide) (by decide), eW]; exact ⟨o4.1, Nat.lt_of_lt_of_le o4.2 eT.2.1⟩
  · rw [e5, eZ]; exact ⟨rfl, by decide⟩
  · rw [eS] at hs
    rw [eA 1 (by decide), eA 2 (by decide), eA 3 (by decide), eA (10 + s) (by omega)]
    exact o6 s hs
  · rcases o7 with h | ⟨a, b, c, d, f, ⟨w, hw, ew⟩, k⟩
    · exact Or.inl ((e0 6 (by decide) (by decide)).trans h)
    · refine Or.inr ⟨(e0 6 (by decide) (by decide)).trans a, ?_, ?_, ?_, ?_, ⟨w, Nat.lt_of_lt_of_le hw eT.2.1, (e0 10 (by decide) (by decide)).trans ew⟩, fun s hs => ?_⟩
      · rw [e0 7 (by decide) (by decide), eI]; exact b
      · rw [eI, eS]; exact c
      · rw [e0 8 (by decide) (by decide)]; exact d
      · rw [e0 9 (by decide) (by decide)]; exact f
      · rw [eI] at hs
        rw [eA 1 (by decide), eA 2 (by decide), eA 4 (by decide), eA (20 + s) (by omega)]
        exact k s hs
  · have h := o8 q hq
    unfold aQ at h ⊢
    rw [eA 5 (by decide), eA 6 (by decide)]
    exact h
theorem rText_ok {A : zSt} (O : okA A) : okA (rText A).2 := by
  have hT := O.2.2.2.1.2.2
  unfold rText
  by_cases h6 : aT A = 6
  · rw [if_pos h6]; exact O
  · rw [if_neg h6]
    by_cases hw : (waA A).1 = true
    · rw [if_pos hw]
      exact O.tx (fun q hq => by show gs (gs A 0 5 0) 0 3 (nI (aT A + 1)) q = A q; rw [gs_n _ _ _ hq, gs_n _ _ _ hq]) (fun j h3 h5 => by show gs (gs A 0 5 0) 0 3 (nI (aT A + 1)) 0 j = A 0 j; rw [gs_s, upd_n _ _ h3, gs_s, upd_n _ _ h5]) (by show gs (gs A 0 5 0) 0 3 (nI (aT A + 1)) 0 5 = 0; rw [gs_s, upd_n _ _ (by decide), gs_s, upd_s]) (Or.inr ⟨by show gs (gs A 0 5 0) 0 3 (nI (aT A + 1)) 0 3 = nI (aT A + 1); rw [gs_s, upd_s], by omega⟩)
    · rw [if_neg hw]
      exact O.tx (fun q hq => by show gs A 0 5 0 q = A q; rw [gs_n _ _ _ hq]) (fun j h3 h5 => by show gs A 0 5 0 0 j = A 0 j; rw [gs_s, upd_n _ _ h5]) (by show gs A 0 5 0 0 5 = 0; rw [gs_s, upd_s]) (Or.inl (by show gs A 0 5 0 0 3 = _; rw [gs_s, upd_n _ _ (by decide)]))
/-! the reference's -/
theorem mRun_row {nm mc mc' : Nat → Int32} (k : Nat) : ∀ (i : Nat) (s : List Int32), (∀ j, j < i + k → mc j = mc' j) → mRun mc nm k i s = mRun mc' nm k i s := by
  induction k with
  | zero => intro i s _; rfl
  | succ k ih =>
    intro i s h
    have e : mc i = mc' i := h i (by omega)
    have h2 : ∀ s1, mRun mc nm k (i + 1) s1 = mRun mc' nm k (i + 1) s1 := fun s1 => ih (i + 1) s1 (fun j hj => h j (by omega))
    have e2 : mRun mc nm (k + 1) i s = (mStep (mc i) nm s).bind (mRun mc nm k (i + 1)) := rfl
    have e3 : mRun mc' nm (k + 1) i s = (mStep (mc' i) nm s).bind (mRun mc' nm k (i + 1)) := rfl
    rw [e2, e3, e, show mRun mc nm k (i + 1) = mRun mc' nm k (i + 1) from funext h2]
theorem mlR.cg {mc mc' ms ms' : Nat → Int32} {L : xL} (h : mlR mc ms L) (hc : ∀ k, k < 160 → mc k = mc' k) (hs : ∀ k, k < 4 → ms' k = ms k) : mlR mc' ms' L := by
  obtain ⟨b, h0, hm, h3, hb, hr⟩ := h
  refine ⟨b, h0, hm, h3, fun p hp => (hs p hp).trans (hb p hp), fun p hp nm => ?_⟩
  have m0 := hm 0 (by decide)
  have m1 := hm 1 (by decide)
  have m2 := hm 2 (by decide)
  have h9 : b (p + 1) ≤ b 3 := by
    match p, hp with
    | 0, _ => exact Nat.le_trans m1 m2
    | 1, _ => exact m2
    | 2, _ => exact Nat.le_refl _
  rw [← hr p hp nm]
  exact (mRun_row _ _ _ (fun j hj => hc j (by have := hm p hp; omega))).symm
def bnd3 (D0 D1 D2 : List Int32) (p : Nat) : Nat := match p with | 0 => 0 | 1 => D0.length | 2 => (D1 ++ D0).length | _ => (D2 ++ (D1 ++ D0)).length
theorem mlR_of {w ms : Nat → Int32} {D0 D1 D2 : List Int32} {top : Nat} (hr : lRow ((D2 ++ (D1 ++ D0)).map tqO) top w) (h160 : (D2 ++ (D1 ++ D0)).length ≤ 160) (s0 : ms 0 = 0) (s1 : ms 1 = nI D0.length) (s2 : ms 2 = nI (D1 ++ D0).length) (s3 : ms 3 = nI (D2 ++ (D1 ++ D0)).length) (h0 : WFm 0 D0 ∧ oklO D0) (h1 : WFm 0 D1 ∧ oklO D1) (h2 : WFm 0 D2 ∧ oklO D2) : mlR w ms (saidL [D0, D1, D2]) := by
  have l1 : (D1 ++ D0).length = D1.length + D0.length := List.length_append
  have l2 : (D2 ++ (D1 ++ D0)).length = D2.length + (D1.length + D0.length) := by rw [List.length_append, l1]
  refine ⟨bnd3 D0 D1 D2, rfl, fun p hp => ?_, h160, fun p hp => ?_, fun p hp nm => ?_⟩
  · match p, hp with
    | 0, _ => exact Nat.zero_le _
    | 1, _ => show D0.length ≤ (D1 ++ D0).length; omega
    | 2, _ => show (D1 ++ D0).length ≤ (D2 ++ (D1 ++ D0)).length; omega
  · match p, hp with
    | 0, _ => exact s0
    | 1, _ => exact s1
    | 2, _ => exact s2
    | 3, _ => exact s3
  · match p, hp with
    | 0, _ =>
      have h9 := run_m (w := w) (nm := nm) (top := top) D0 (D2 ++ D1) [] [] _ (by rw [List.append_nil, List.append_assoc]; exact hr) h0.2 (vlD_of h0.1 nm)
      exact h9
    | 1, _ =>
      have h9 := run_m (w := w) (nm := nm) (top := top) D1 D2 D0 [] _ hr h1.2 (vlD_of h1.1 nm)
      show mRun w nm ((D1 ++ D0).length - D0.length) D0.length [] = _
      rw [show (D1 ++ D0).length - D0.length = D1.length by omega]
      exact h9
    | 2, _ =>
      have h9 := run_m (w := w) (nm := nm) (top := top) D2 [] (D1 ++ D0) [] _ hr h2.2 (vlD_of h2.1 nm)
      show mRun w nm ((D2 ++ (D1 ++ D0)).length - (D1 ++ D0).length) (D1 ++ D0).length [] = _
      rw [show (D2 ++ (D1 ++ D0)).length - (D1 ++ D0).length = D2.length by omega]
      exact h9
theorem mA.tx {g g1 : xG} {A A1 : zSt} {Λ Λ1 : Nat → xL} (C : mA g A Λ) (h1 : mA1 g1 A1) (hf : ∀ j, 87 ≤ j → j < 102 → j ≠ 92 → j ≠ 93 → g1 j = g j) (e0 : A1 0 0 = A 0 0) (e6 : ∀ j, 6 ≤ j → j ≤ 10 → A1 0 j = A 0 j) (eA : ∀ q, q ≠ 0 → A1 q = A q) (e5 : A1 0 5 = 0) (hT : mAT g1 A1 Λ1) : mA g1 A1 Λ1 :=
  ⟨h1, C.2.1.k (fun j a b => hf j a (by omega) (by omega) (by omega)) e0 (fun s _ => ⟨congrFun (eA 1 (by decide)) s, congrFun (eA 2 (by decide)) s, congrFun (eA 3 (by decide)) s, eA (10 + s) (by omega)⟩), hT, fun j hj => absurd hj (by unfold aZ; rw [e5]; exact Nat.not_lt_zero _), C.2.2.2.2.1.k (fun j a b => hf j (by omega) (by omega) (by omega) (by omega)) e6 (fun _ s _ => ⟨congrFun (eA 4 (by decide)) s, eA (20 + s) (by omega)⟩), C.2.2.2.2.2.1.k (fun j a b => hf j (by omega) (by omega) (by omega) (by omega)) (eA 5 (by decide)) (eA 6 (by decide)) (fun q _ => eA (40 + q) (by omega)), fun j hj => by rw [hf 101 (by decide) (by decide) (by decide) (by decide)]; exact C.2.2.2.2.2.2 j hj⟩
def fT (t : Nat) (g g1 : xG) : Prop := (∀ j, j ≠ 86 → j ≠ 92 → j ≠ 93 → j ≠ 102 → g1 j = g j) ∧ (∀ k, ¬ eX 21 k → g1 86 k = g 86 k) ∧ (∀ k, k < 200 * t → g1 92 k = g 92 k) ∧ ∀ k, k < 4 * t → g1 93 k = g 93 k
theorem fT.rf {t : Nat} {g : xG} : fT t g g := ⟨fun _ _ _ _ _ => rfl, fun _ _ => rfl, fun _ _ => rfl, fun _ _ => rfl⟩
theorem fT.tr {t : Nat} {g g1 g2 : xG} (h : fT t g g1) (h2 : fT t g1 g2) : fT t g g2 := ⟨fun j a b c d => (h2.1 j a b c d).trans (h.1 j a b c d), fun k a => (h2.2.1 k a).trans (h.2.1 k a), fun k a => (h2.2.2.1 k a).trans (h.2.2.1 k a), fun k a => (h2.2.2.2 k a).trans (h.2.2.2 k a)⟩
theorem fe.fT {t : Nat} {g g1 : xG} (h : fe 21 t g g1) : fT t g g1 := ⟨fun j a b _ d => h.1 j a b d, h.2.1, h.2.2, fun k _ => by rw [h.1 93 (by decide) (by decide) (by decide)]⟩
theorem fT.g86 {t : Nat} {g g1 : xG} (h : fT t g g1) {k : Nat} (hk : 21 ≤ k ∧ k < 30) (x : Int32) : fT t g (gs g1 86 k x) := h.tr (fe.fT (fe.rf.g86 hk x))
theorem fT.g93 {t : Nat} {g g1 : xG} (h : fT t g g1) {k : Nat} (hk : 4 * t ≤ k) (x : Int32) : fT t g (gs g1 93 k x) := ⟨fun j a b c d => by rw [gs_n _ _ _ c]; exact h.1 j a b c d, fun j hj => by rw [gs_n _ _ _ (by decide)]; exact h.2.1 j hj, fun j hj => by rw [gs_n _ _ _ (by decide)]; exact h.2.2.1 j hj, fun j hj => by rw [gs_s, upd_n _ _ (by omega)]; exact h.2.2.2 j hj⟩
/-- behind a text that is not read, behind one that is -/
theorem mA.txF {g g1 : xG} {A : zSt} {Λ : Nat → xL} (C : mA g A Λ) (hf : fT (aT A) g g1) : mA (gs g1 86 8 0) (gs A 0 5 0) Λ := by
  have h8 : ∀ k, k ≠ 8 → gs g1 86 8 0 86 k = g1 86 k := fun k hk => by rw [gs_s, upd_n _ _ hk]
  have hn : ∀ j, j ≠ 86 → gs g1 86 8 0 j = g1 j := fun j hj => gs_n _ _ _ hj
  have a0 : ∀ j, j ≠ 5 → gs A 0 5 0 0 j = A 0 j := fun j hj => by rw [gs_s, upd_n _ _ hj]
  obtain ⟨c1, c2, c3, c4, c5, c6, c7⟩ := C.1
  refine C.tx ?_ (fun j a b c d => (hn j (by omega)).trans (hf.1 j (by omega) c d (by omega))) (a0 0 (by decide)) (fun j a b => a0 j (by omega)) (fun q hq => gs_n _ _ _ hq) (by rw [gs_s, upd_s]) ?_
  · have e : ∀ k, k < 21 → k ≠ 8 → gs g1 86 8 0 86 k = g 86 k := fun k hk h9 => (h8 k h9).trans (hf.2.1 k (by unfold eX; omega))
    unfold mA1
    rw [e 0 (by decide) (by decide), e 5 (by decide) (by decide), e 6 (by decide) (by decide), e 11 (by decide) (by decide), e 12 (by decide) (by decide), e 13 (by decide) (by decide), a0 0 (by decide), a0 1 (by decide), a0 2 (by decide), a0 3 (by decide), a0 4 (by decide), a0 6 (by decide)]
    exact ⟨c1, c2, c3, c4, c5, by rw [gs_s, upd_s, gs_s, upd_s], c7⟩
  · intro t ht
    have ht' : t < aT A := by unfold aT at ht ⊢; rw [a0 3 (by decide)] at ht; exact ht
    refine (C.2.2.1 t ht').cg (fun k hk => ?_) (fun k hk => ?_)
    · show g 92 (200 * t + k) = gs g1 86 8 0 92 (200 * t + k)
      rw [hn 92 (by decide), hf.2.2.1 _ (by omega)]
    · show gs g1 86 8 0 93 (4 * t + k) = g 93 (4 * t + k)
      rw [hn 93 (by decide), hf.2.2.2 _ (by omega)]
theorem mA.txS {g g1 : xG} {A : zSt} {Λ : Nat → xL} (C : mA g A Λ) (hT5 : aT A ≤ 5) (hf : fT (aT A) g g1) {L : xL} (hL : mlR (fun k => g1 92 (200 * aT A + k)) (fun k => g1 93 (4 * aT A + k)) L) : mA (gs (gs g1 86 8 0) 86 11 (nI (aT A + 1))) (gs (gs A 0 5 0) 0 3 (nI (aT A + 1))) (fun t => if t = aT A then L else Λ t) := by
  have h8 : ∀ k, k ≠ 8 → k ≠ 11 → gs (gs g1 86 8 0) 86 11 (nI (aT A + 1)) 86 k = g1 86 k := fun k hk h9 => by rw [gs_s, upd_n _ _ h9, gs_s, upd_n _ _ hk]
  have hn : ∀ j, j ≠ 86 → gs (gs g1 86 8 0) 86 11 (nI (aT A + 1)) j = g1 j := fun j hj => by rw [gs_n _ _ _ hj, gs_n _ _ _ hj]
  have a0 : ∀ j, j ≠ 5 → j ≠ 3 → gs (gs A 0 5 0) 0 3 (nI (aT A + 1)) 0 j = A 0 j := fun j hj h3 => by rw [gs_s, upd_n _ _ h3, gs_s, upd_n _ _ hj]
  obtain ⟨c1, c2, c3, c4, c5, c6, c7⟩ := C.1
  refine C.tx ?_ (fun j a b c d => (hn j (by omega)).trans (hf.1 j (by omega) c d (by omega))) (a0 0 (by decide) (by decide)) (fun j a b => a0 j (by omega) (by omega)) (fun q hq => by rw [gs_n _ _ _ hq, gs_n _ _ _ hq]) (by rw [gs_s, upd_n _ _ (by decide), gs_s, upd_s]) ?_
  · have e : ∀ k, k < 21 → k ≠ 8 → k ≠ 11 → gs (gs g1 86 8 0) 86 11 (nI (aT A + 1)) 86 k = g 86 k := fun k hk h9 h7 => (h8 k h9 h7).trans (hf.2.1 k (by unfold eX; omega))
    unfold mA1
    rw [e 0 (by decide) (by decide) (by decide), e 5 (by decide) (by decide) (by decide), e 6 (by decide) (by decide) (by decide), e 12 (by decide) (by decide) (by decide), e 13 (by decide) (by decide) (by decide), a0 0 (by decide) (by decide), a0 1 (by decide) (by decide), a0 2 (by decide) (by decide), a0 4 (by decide) (by decide), a0 6 (by decide) (by decide)]
    exact ⟨c1, c2, c3, by rw [gs_s, upd_s, gs_s, upd_s], c5, by rw [gs_s, upd_n _ _ (by decide), gs_s, upd_s, gs_s, upd_n _ _ (by decide), gs_s, upd_s], c7⟩
  · intro t ht
    have ht' : t < aT A + 1 := by
      have e : aT (gs (gs A 0 5 0) 0 3 (nI (aT A + 1))) = aT A + 1 := by
        show (gs (gs A 0 5 0) 0 3 (nI (aT A + 1)) 0 3).toNatClampNeg = _
        rw [gs_s, upd_s, nI_clamp (by omega)]
      rw [e] at ht
      exact ht
    by_cases et : t = aT A
    · rw [et]
      show mlR _ _ (if aT A = aT A then L else Λ (aT A))
      rw [if_pos rfl]
      refine hL.cg (fun k hk => ?_) (fun k hk => ?_)
      · show g1 92 _ = gs (gs g1 86 8 0) 86 11 (nI (aT A + 1)) 92 _
        rw [hn 92 (by decide)]
      · show gs (gs g1 86 8 0) 86 11 (nI (aT A + 1)) 93 _ = g1 93 _
        rw [hn 93 (by decide)]
    · show mlR _ _ (if t = aT A then L else Λ t)
      rw [if_neg et]
      refine (C.2.2.1 t (by omega)).cg (fun k hk => ?_) (fun k hk => ?_)
      · show g 92 (200 * t + k) = gs (gs g1 86 8 0) 86 11 (nI (aT A + 1)) 92 (200 * t + k)
        rw [hn 92 (by decide), hf.2.2.1 _ (by omega)]
      · show gs (gs g1 86 8 0) 86 11 (nI (aT A + 1)) 93 (4 * t + k) = g 93 (4 * t + k)
        rw [hn 93 (by decide), hf.2.2.2 _ (by omega)]
