/-! TEXT of the class: what it leaves -/
theorem cA.txG {g g1 : xG} {n n1 : Nat} {A A1 : zSt} {Λ Λ1 : Nat → xL} (C : cA g n A Λ) (O : okA A) (hn1 : n1 = 106 + 4 * aT A1) (h1 : cA1 g1 A1) (hf : ∀ j, 9 ≤ j → j < 80 → j ≠ 66 → j ≠ 67 → j ≠ 69 → j ≠ 70 → g1 j = g j) (e0 : A1 0 0 = A 0 0) (e6 : ∀ j, 6 ≤ j → j ≤ 10 → A1 0 j = A 0 j) (eA : ∀ q, q ≠ 0 → A1 q = A q) (e5 : A1 0 5 = 0) (h67 : g1 67 0 = 0) (hT : cAT g1 n1 A1 Λ1) : cA g1 n1 A1 Λ1 :=
  ⟨hn1, h1, C.2.2.1.keep O.1.2 e0 (fun q a b _ => hf q a (by omega) (by omega) (by omega) (by omega) (by omega)) (fun s _ => ⟨congrFun (eA 1 (by decide)) s, congrFun (eA 2 (by decide)) s, congrFun (eA 3 (by decide)) s, eA (10 + s) (by omega)⟩), hT, ⟨by rw [h67, e5], fun j hj => absurd hj (by unfold aZ; rw [e5]; exact Nat.not_lt_zero _)⟩, C.2.2.2.2.2.1.keep O e6 (hf 46 (by decide) (by decide) (by decide) (by decide) (by decide) (by decide)) (fun q a b _ => hf q (by omega) (by omega) (by omega) (by omega) (by omega) (by omega)) (fun _ s _ => ⟨congrFun (eA 1 (by decide)) s, congrFun (eA 2 (by decide)) s, congrFun (eA 4 (by decide)) s, eA (20 + s) (by omega)⟩), C.2.2.2.2.2.2.keep (fun q a b => hf q (by omega) (by omega) (by omega) (by omega) (by omega) (by omega)) (eA 5 (by decide)) (eA 6 (by decide)) (fun q _ => eA (40 + q) (by omega))⟩
theorem cA.txF {g g1 : xG} {n : Nat} {A : zSt} {Λ : Nat → xL} (C : cA g n A Λ) (O : okA A) (hf : fr rX g g1) : cA (gs g1 67 0 0) n (gs A 0 5 0) Λ := by
  have hn : ∀ j, ¬ rX j → gs g1 67 0 0 j = g j := fun j hj => by
    have h9 : j ≠ 67 := fun e => hj (Or.inl e)
    rw [gs_n _ _ _ h9]
    exact hf j hj
  have a0 : ∀ j, j ≠ 5 → gs A 0 5 0 0 j = A 0 j := fun j hj => by rw [gs_s, upd_n _ _ hj]
  have eT : aT (gs A 0 5 0) = aT A := by unfold aT; rw [a0 3 (by decide)]
  refine C.txG O (by rw [eT]; exact C.1) ?_ (fun j a b c d e f => hn j (by unfold rX; omega)) (a0 0 (by decide)) (fun j a b => a0 j (by omega)) (fun q hq => gs_n _ _ _ hq) (by rw [gs_s, upd_s]) (by rw [gs_s, upd_s]) ?_
  · unfold cA1
    rw [hn 0 (by unfold rX; omega), a0 0 (by decide), a0 1 (by decide), a0 2 (by decide), a0 3 (by decide), a0 4 (by decide)]
    exact C.2.1
  · exact C.2.2.2.1.keep (a0 3 (by decide)) (hn 66 (by unfold rX; omega)) (fun q a b _ => hn q (by unfold rX; omega))
/-- with the new text -/
def nwG (g : xG) (n m t : Nat) (r' : Nat → Int32) : xG := fun j => if j = n + 1 then upd r' 1000000 (nI m) else if j = n + 2 then g 70 else if j = n + 3 then (fun _ => 0) else if j = 66 then upd (g 66) t (nI t) else g j
theorem nwG_n {g : xG} {n m t : Nat} {r' : Nat → Int32} {j : Nat} (h1 : j ≠ n + 1) (h2 : j ≠ n + 2) (h3 : j ≠ n + 3) (h4 : j ≠ 66) : nwG g n m t r' j = g j := by
  unfold nwG
  rw [if_neg h1, if_neg h2, if_neg h3, if_neg h4]
theorem nwG_1 {g : xG} {n m t : Nat} {r' : Nat → Int32} : nwG g n m t r' (n + 1) = upd r' 1000000 (nI m) := if_pos rfl
theorem nwG_2 {g : xG} {n m t : Nat} {r' : Nat → Int32} : nwG g n m t r' (n + 2) = g 70 := by
  unfold nwG
  rw [if_neg (by omega), if_pos rfl]
theorem nwG_3 {g : xG} {n m t : Nat} {r' : Nat → Int32} : nwG g n m t r' (n + 3) = fun _ => 0 := by
  unfold nwG
  rw [if_neg (by omega), if_neg (by omega), if_pos rfl]
theorem nwG_66 {g : xG} {n m t : Nat} {r' : Nat → Int32} (hn : 110 ≤ n) : nwG g n m t r' 66 = upd (g 66) t (nI t) := by
  unfold nwG
  rw [if_neg (by omega), if_neg (by omega), if_neg (by omega), if_pos rfl]
theorem nwG_same {g : xG} {n m t : Nat} {r' : Nat → Int32} (hn : n = 106 + 4 * t) (h1 : 1 ≤ t) (h6 : t < 6) (hm : m ≤ 160) (q : Nat) : sameE (va_up (hpW g n m r').2 66 (.inr (.inl (4, 6, va_up (fun j => if j < 6 then some (fTX ((g 66) j).toNatClampNeg) else none) (nI t).toNatClampNeg (some n)))) q) (fh (nwG g n m t r') q) := by
  have hT : fTX t = n := by unfold fTX; rw [if_neg (by omega), hn]
  have hS := fTn_k t
  rw [hT] at hS
  dsimp only [hpW]
  by_cases e66 : q = 66
  · rw [e66, va_up_s]
    refine Or.inl ?_
    show _ = fc 66 (nwG g n m t r' 66)
    rw [nwG_66 (by omega)]
    show _ = Sum.inr (Sum.inl (4, 6, fun j => if j < 6 then some (fTX ((upd (g 66) t (nI t)) j).toNatClampNeg) else none))
    have hfun : va_up (fun j => if j < 6 then some (fTX ((g 66) j).toNatClampNeg) else none) (nI t).toNatClampNeg (some n) = fun j => if j < 6 then some (fTX ((upd (g 66) t (nI t)) j).toNatClampNeg) else none := by
      rw [nI_clamp (by omega)]
      funext j
      by_cases ej : j = t
      · rw [ej, va_up_s, if_pos h6, upd_s, nI_clamp (by omega), hT]
      · rw [va_up_n _ _ ej, upd_n _ _ ej]
    rw [hfun]
  · rw [va_up_n _ _ e66]
    by_cases en : q = n
    · rw [en, va_up_s]
      refine Or.inl ?_
      exact (hS.2.1 _).symm
    · rw [va_up_n _ _ en]
      by_cases e3 : q = n + 3
      · rw [e3, va_up_s]
        refine Or.inl ?_
        show _ = fc (n + 3) (nwG g n m t r' (n + 3))
        rw [nwG_3]
        exact (hS.2.2.2.2 _).symm
      · rw [va_up_n _ _ e3]
        by_cases e2 : q = n + 2
        · rw [e2, va_up_s]
          refine Or.inl ?_
          show _ = fc (n + 2) (nwG g n m t r' (n + 2))
          rw [nwG_2]
          exact (hS.2.2.2.1 _).symm
        · rw [va_up_n _ _ e2]
          by_cases e1 : q = n + 1
          · rw [e1, va_up_s]
            refine Or.inr ⟨m, r', upd r' 1000000 (nI m), rfl, ?_, fun j hj => (upd_n _ _ (by omega)).symm⟩
            show fc (n + 1) (nwG g n m t r' (n + 1)) = _
            rw [nwG_1, hS.2.2.1, upd_s, nI_clamp (by omega)]
          · rw [va_up_n _ _ e1, va_up_n _ _ en]
            refine Or.inl ?_
            show fc q (g q) = fc q (nwG g n m t r' q)
            rw [nwG_n e1 e2 e3 e66]
theorem lRow_cg {s : List Int32} {top : Nat} {w w' : Nat → Int32} (h : lRow s top w) (e : ∀ j, j < top → w' j = w j) : lRow s top w' := ⟨h.1, fun j hj => by rw [e _ (by omega)]; exact h.2 j hj⟩
theorem lwR_of {w te : Nat → Int32} {D0 D1 D2 : List Int32} (hr : lRow (D2 ++ (D1 ++ D0)) (D2 ++ (D1 ++ D0)).length w) (h160 : (D2 ++ (D1 ++ D0)).length ≤ 160) (hl : (w 1000000).toNatClampNeg = (D2 ++ (D1 ++ D0)).length) (s1 : te 0 = nI D0.length) (s2 : te 1 = nI (D1 ++ D0).length) (s3 : te 2 = nI (D2 ++ (D1 ++ D0)).length) (h0 : WFm 0 D0) (h1 : WFm 0 D1) (h2 : WFm 0 D2) : lwR w te (saidL [D0, D1, D2]) := by
  have l1 : (D1 ++ D0).length = D1.length + D0.length := List.length_append
  have l2 : (D2 ++ (D1 ++ D0)).length = D2.length + (D1.length + D0.length) := by rw [List.length_append, l1]
  refine ⟨bnd3 D0 D1 D2, rfl, fun p hp => ?_, h160, hl, fun p hp nm => ?_⟩
  · match p, hp with
    | 0, _ => exact ⟨Nat.zero_le _, s1⟩
    | 1, _ => exact ⟨by show D0.length ≤ (D1 ++ D0).length; omega, s2⟩
    | 2, _ => exact ⟨by show (D1 ++ D0).length ≤ (D2 ++ (D1 ++ D0)).length; omega, s3⟩
  · match p, hp with
    | 0, _ =>
      have h9 := run_l (w := w) (nm := nm) D0 (D2 ++ D1) [] [] (by rw [List.append_nil, List.append_assoc]; exact hr)
      exact h9.trans (vlD_of h0 nm)
    | 1, _ =>
      have h9 := run_l (w := w) (nm := nm) D1 D2 D0 [] hr
      show lRun w nm ((D1 ++ D0).length - D0.length) D0.length [] = _
      rw [show (D1 ++ D0).length - D0.length = D1.length by omega]
      exact h9.trans (vlD_of h1 nm)
    | 2, _ =>
      have h9 := run_l (w := w) (nm := nm) D2 [] (D1 ++ D0) [] hr
      show lRun w nm ((D2 ++ (D1 ++ D0)).length - (D1 ++ D0).length) (D1 ++ D0).length [] = _
      rw [show (D2 ++ (D1 ++ D0)).length - (D1 ++ D0).length = D2.length by omega]
      exact h9.trans (vlD_of h2 nm)
theorem cA.txS {g gR : xG} {n m : Nat} {A : zSt} {Λ : Nat → xL} (C : cA g n A Λ) (O : okA A) (h6 : aT A < 6) (hf : fr rX g gR) {r' : Nat → Int32} {L : xL} (hL : lwR (upd r' 1000000 (nI m)) (gR 70) L) : cA (gs (nwG (gs gR 67 0 0) n m (aT A) r') 0 12 (nI (aT A + 1))) (n + 4) (gs (gs A 0 5 0) 0 3 (nI (aT A + 1))) (fun t => if t = aT A then L else Λ t) := by
  have hn4 := C.1
  have hT1 := O.2.2.2.1.2.1
  obtain ⟨G, hG⟩ : ∃ G, G = gs (nwG (gs gR 67 0 0) n m (aT A) r') 0 12 (nI (aT A + 1)) := ⟨_, rfl⟩
  have a0 : ∀ j, j ≠ 5 → j ≠ 3 → gs (gs A 0 5 0) 0 3 (nI (aT A + 1)) 0 j = A 0 j := fun j hj h3 => by rw [gs_s, upd_n _ _ h3, gs_s, upd_n _ _ hj]
  have a3 : gs (gs A 0 5 0) 0 3 (nI (aT A + 1)) 0 3 = nI (aT A + 1) := by rw [gs_s, upd_s]
  have eT : aT (gs (gs A 0 5 0) 0 3 (nI (aT A + 1))) = aT A + 1 := by show (gs (gs A 0 5 0) 0 3 (nI (aT A + 1)) 0 3).toNatClampNeg = _; rw [a3, nI_clamp (by omega)]
  have hq : ∀ j, j ≠ 0 → j ≠ n + 1 → j ≠ n + 2 → j ≠ n + 3 → j ≠ 66 → ¬ rX j → G j = g j := fun j b c d e f k => by
    have h9 : j ≠ 67 := fun y => k (Or.inl y)
    rw [hG, gs_n _ _ _ b, nwG_n c d e f, gs_n _ _ _ h9]
    exact hf j k
  have hz : ∀ k, k ≠ 12 → G 0 k = g 0 k := fun k hk => by
    rw [hG, gs_s, upd_n _ _ hk, nwG_n (by omega) (by omega) (by omega) (by omega), gs_n _ _ _ (by omega), hf 0 (by unfold rX; omega)]
  have h12 : G 0 12 = nI (aT A + 1) := by rw [hG, gs_s, upd_s]
  have h66 : G 66 = upd (g 66) (aT A) (nI (aT A)) := by
    rw [hG, gs_n _ _ _ (by omega), nwG_66 (by omega), gs_n _ _ _ (by omega), hf 66 (by unfold rX; omega)]
  have hk1 : G (n + 1) = upd r' 1000000 (nI m) := by rw [hG, gs_n _ _ _ (by omega), nwG_1]
  have hk2 : G (n + 2) = gR 70 := by rw [hG, gs_n _ _ _ (by omega), nwG_2, gs_n _ _ _ (by decide)]
  rw [← hG]
  refine C.txG O (by rw [eT]; omega) ?_ (fun j a b c d e f => hq j (by omega) (by omega) (by omega) (by omega) c (by unfold rX; omega)) (a0 0 (by decide) (by decide)) (fun j a b => a0 j (by omega) (by omega)) (fun q hq => by rw [gs_n _ _ _ hq, gs_n _ _ _ hq]) (by rw [gs_s, upd_n _ _ (by decide), gs_s, upd_s]) (by rw [hG, gs_n _ _ _ (by decide), nwG_n (by omega) (by omega) (by omega) (by decide), gs_s, upd_s]) ?_
  · obtain ⟨c1, c2, c3, c4, c5⟩ := C.2.1
    unfold cA1
    rw [hz 9 (by decide), hz 10 (by decide), hz 11 (by decide), h12, hz 13 (by decide), a0 0 (by decide) (by decide), a0 1 (by decide) (by decide), a0 2 (by decide) (by decide), a3, a0 4 (by decide) (by decide)]
    exact ⟨c1, c2, c3, rfl, c5⟩
  · intro t ht
    rw [eT] at ht
    by_cases et : t = aT A
    · have hTn : fTX t = n := by unfold fTX; rw [et, if_neg (by omega), hn4]
      show G 66 t = nI t ∧ lwA G (n + 4) (fTX t) (if t = aT A then L else Λ t)
      rw [if_pos et, hTn]
      refine ⟨by rw [h66, et, upd_s], ?_, by omega, ?_⟩
      · have h9 := fTn_k t
        rw [hTn] at h9
        exact h9
      · rw [hk1, hk2]; exact hL
    · obtain ⟨b1, b2, b3, b4⟩ := C.2.2.2.1 t (by omega)
      have hv := fTX_v t
      show G 66 t = nI t ∧ lwA G (n + 4) (fTX t) (if t = aT A then L else Λ t)
      rw [if_neg et]
      refine ⟨by rw [h66, upd_n _ _ et]; exact b1, b2, by omega, ?_⟩
      rw [hq (fTX t + 1) (by omega) (by omega) (by omega) (by omega) (by omega) (by unfold rX; omega), hq (fTX t + 2) (by omega) (by omega) (by omega) (by omega) (by omega) (by unfold rX; omega)]
      exact b4
def qT (P : Int32 → xG → Nat → Prop) : Option Value → xH → Prop := fun v h1 => ∃ v1 g1 n1, v = some (.int v1) ∧ h1 = (n1, fh g1) ∧ P v1 g1 n1
