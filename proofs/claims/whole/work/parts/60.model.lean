/-! HOW THE REFERENCE'S STATE CHANGES -/
theorem mA.slp {g g1 : xG} {A : zSt} {Λ : Nat → xL} (C : mA g A Λ) (O : okA A) {k more pic dl : Int32} (e86 : g1 86 0 = nI (aS A + 1) ∧ ∀ j, 1 ≤ j → j < 33 → g1 86 j = g 86 j) (e87 : g1 87 = upd (g 87) (aS A) k) (e88 : g1 88 = upd (g 88) (aS A) more) (e90 : g1 90 = upd (g 90) (aS A) pic) (e89 : ∀ c, c < 16 → g1 89 (16 * aS A + c) = dl) (e89' : ∀ j, j < 16 * aS A → g1 89 j = g 89 j) (eg : ∀ j, 91 ≤ j → j < 103 → g1 j = g j) : mA g1 (stSl A k more pic dl) Λ := by
  have ea : ∀ q, 4 ≤ q → q ≠ 10 + aS A → stSl A k more pic dl q = A q := fun q h1 h2 => by unfold stSl; rw [if_neg (by omega), if_neg (by omega), if_neg (by omega), if_neg (by omega), if_neg h2]
  have a0 : stSl A k more pic dl 0 = upd (A 0) 0 (nI (aS A + 1)) := if_pos rfl
  have a1 : stSl A k more pic dl 1 = upd (A 1) (aS A) k := rfl
  have a2 : stSl A k more pic dl 2 = upd (A 2) (aS A) more := rfl
  have a3 : stSl A k more pic dl 3 = upd (A 3) (aS A) pic := rfl
  have a10 : stSl A k more pic dl (10 + aS A) = fun _ => dl := by unfold stSl; rw [if_neg (by omega), if_neg (by omega), if_neg (by omega), if_neg (by omega), if_pos rfl]
  have eS := stSl_S O k more pic dl
  have hS6 := O.1.2
  have hI6 : A 0 6 ≠ 0 → aI A ≤ aS A := fun z => by
    rcases O.2.2.2.2.2.2.2.1 with w | w
    · exact absurd w z
    · exact w.2.2.1
  obtain ⟨c1, cp, ct, cb, ci, cq, cw⟩ := id C
  refine C.up ?_ (fun s hs => ?_) ⟨by rw [a0]; rfl, eg _ (by omega) (by omega), eg _ (by omega) (by omega)⟩ (cb.k (by rw [a0]; rfl) (eg _ (by omega) (by omega)) (ea _ (by omega) (by omega))) (ci.k (fun q a b => eg q (by omega) (by omega)) (fun i a b => by rw [a0, upd_n _ _ (by omega)]) (fun z s hs => ⟨by rw [ea 4 (by omega) (by omega)], ea _ (by omega) (by omega)⟩)) (cq.k (fun q a b => eg q (by omega) (by omega)) (ea _ (by omega) (by omega)) (ea _ (by omega) (by omega)) (fun q _ => ea _ (by omega) (by omega))) (eg _ (by omega) (by omega))
  · obtain ⟨-, a5, a6, a11, a12, a8, a13⟩ := c1
    have e := e86.2
    unfold mA1
    rw [a0]
    exact ⟨e86.1, (e 5 (by omega) (by omega)).trans a5, (e 6 (by omega) (by omega)).trans a6, (e 11 (by omega) (by omega)).trans a11, (e 12 (by omega) (by omega)).trans a12, (e 8 (by omega) (by omega)).trans a8, (e 13 (by omega) (by omega)).trans a13⟩
  · rw [eS] at hs
    by_cases his : s = aS A
    · subst his
      exact ⟨by rw [e87, a1, upd_s, upd_s], by rw [e88, a2, upd_s, upd_s], by rw [e90, a3, upd_s, upd_s], fun c hc => by rw [a10]; exact e89 c hc⟩
    · obtain ⟨a, b, c, d⟩ := cp s (by omega)
      exact ⟨by rw [e87, a1, upd_n _ _ his, upd_n _ _ his]; exact a, by rw [e88, a2, upd_n _ _ his, upd_n _ _ his]; exact b, by rw [e90, a3, upd_n _ _ his, upd_n _ _ his]; exact c, fun i hi => by rw [e89' _ (by omega), ea (10 + s) (by omega) (by omega)]; exact d i hi⟩
theorem mA.tap {g g1 : xG} {A : zSt} {Λ : Nat → xL} (C : mA g A Λ) (O : okA A) (b : Int32) (hg : g1 = gs (gs g 91 (aZ A) b) 86 8 (nI (aZ A + 1))) : mA g1 (stTp A b) Λ := by
  have ea : ∀ q, q ≠ 30 → q ≠ 0 → stTp A b q = A q := fun q h1 h2 => by unfold stTp; rw [gs_n _ _ _ h2, gs_n _ _ _ h1]
  have a0 : stTp A b 0 = upd (A 0) 5 (nI (aZ A + 1)) := by unfold stTp; rw [gs_s, gs_n _ _ _ (by omega)]
  have a30 : stTp A b 30 = upd (A 30) (aZ A) b := by unfold stTp; rw [gs_n _ _ _ (by omega), gs_s]
  have eg : ∀ q, q ≠ 91 → q ≠ 86 → g1 q = g q := fun q h1 h2 => by rw [hg, gs_n _ _ _ h2, gs_n _ _ _ h1]
  have e86 : g1 86 = upd (g 86) 8 (nI (aZ A + 1)) := by rw [hg, gs_s, gs_n _ _ _ (by omega)]
  have e91 : g1 91 = upd (g 91) (aZ A) b := by rw [hg, gs_n _ _ _ (by omega), gs_s]
  have eZ := stTp_Z O b
  have hS6 := O.1.2
  have hI6 : A 0 6 ≠ 0 → aI A ≤ 6 := fun z => by
    rcases O.2.2.2.2.2.2.2.1 with w | w
    · exact absurd w z
    · have := w.2.2.1; omega
  have ei : ∀ i, i ≠ 5 → stTp A b 0 i = A 0 i := fun i h => by rw [a0, upd_n _ _ h]
  obtain ⟨c1, cp, ct, cb, ci, cq, cw⟩ := id C
  refine C.up ?_ (cp.k (fun q a b => eg q (by omega) (by omega)) (ei 0 (by omega)) (fun s hs => ⟨by rw [ea 1 (by omega) (by omega)], by rw [ea 2 (by omega) (by omega)], by rw [ea 3 (by omega) (by omega)], ea _ (by omega) (by omega)⟩)) ⟨ei 3 (by omega), eg _ (by omega) (by omega), eg _ (by omega) (by omega)⟩ (fun j hj => ?_) (ci.k (fun q a b => eg q (by omega) (by omega)) (fun i a b => ei i (by omega)) (fun z s hs => ⟨by rw [ea 4 (by omega) (by omega)], ea _ (by have := hI6 z; omega) (by omega)⟩)) (cq.k (fun q a b => eg q (by omega) (by omega)) (ea _ (by omega) (by omega)) (ea _ (by omega) (by omega)) (fun q _ => ea _ (by omega) (by omega))) (eg _ (by omega) (by omega))
  · obtain ⟨a0', a5, a6, a11, a12, a8, a13⟩ := c1
    unfold mA1
    rw [e86, a0]
    exact ⟨a0', a5, a6, a11, a12, rfl, a13⟩
  · rw [eZ] at hj
    rw [e91, a30]
    by_cases h : j = aZ A
    · subst h; rw [upd_s, upd_s]
    · rw [upd_n _ _ h, upd_n _ _ h]; exact cb j (by omega)
theorem mA.sht {g g1 : xG} {A : zSt} {Λ : Nat → xL} (C : mA g A Λ) {q : Nat} {sort size : Int32} {r : Nat → Int32} (h1 : g1 97 q = sort) (h2 : g1 98 q = size) (h3 : ∀ j, j < 40 → g1 99 (40 * q + j) = r j) (hQ : ∀ p, p < 4 → p ≠ q → g1 97 p = g 97 p ∧ g1 98 p = g 98 p ∧ ∀ j, j < 40 → g1 99 (40 * p + j) = g 99 (40 * p + j)) (e86 : ∀ k, k < 33 → g1 86 k = g 86 k) (eg : ∀ j, 87 ≤ j → j < 103 → ¬ (97 ≤ j ∧ j < 100) → g1 j = g j) (O : okA A) : mA g1 (stQ A q sort size r) Λ := by
  have ea : ∀ j, j < 40 → j ≠ 5 → j ≠ 6 → stQ A q sort size r j = A j := fun j a b c => by unfold stQ; rw [if_neg b, if_neg c, if_neg (by omega)]
  have hS6 := O.1.2
  have hI6 : A 0 6 ≠ 0 → aI A ≤ aS A := fun z => by
    rcases O.2.2.2.2.2.2.2.1 with w | w
    · exact absurd w z
    · exact w.2.2.1
  have a0 := ea 0 (by omega) (by omega) (by omega)
  obtain ⟨c1, cp, ct, cb, ci, cq, cw⟩ := id C
  refine C.up ?_ (cp.k (fun q a b => eg q (by omega) (by omega) (by omega)) (by rw [a0]) (fun s hs => ⟨by rw [ea 1 (by omega) (by omega) (by omega)], by rw [ea 2 (by omega) (by omega) (by omega)], by rw [ea 3 (by omega) (by omega) (by omega)], ea _ (by omega) (by omega) (by omega)⟩)) ⟨by rw [a0], eg _ (by omega) (by omega) (by omega), eg _ (by omega) (by omega) (by omega)⟩ (cb.k (by rw [a0]) (eg _ (by omega) (by omega) (by omega)) (ea _ (by omega) (by omega) (by omega))) (ci.k (fun q a b => eg q (by omega) (by omega) (by omega)) (fun i a b => by rw [a0]) (fun z s hs => ⟨by rw [ea 4 (by omega) (by omega) (by omega)], ea _ (by have := hI6 z; omega) (by omega) (by omega)⟩)) (fun p hp => ?_) (eg _ (by omega) (by omega) (by omega))
  · obtain ⟨b0, b5, b6, b11, b12, b8, b13⟩ := c1
    unfold mA1
    rw [a0]
    exact ⟨(e86 0 (by omega)).trans b0, (e86 5 (by omega)).trans b5, (e86 6 (by omega)).trans b6, (e86 11 (by omega)).trans b11, (e86 12 (by omega)).trans b12, (e86 8 (by omega)).trans b8, (e86 13 (by omega)).trans b13⟩
  · have s5 : stQ A q sort size r 5 = upd (A 5) q sort := rfl
    have s6 : stQ A q sort size r 6 = upd (A 6) q size := rfl
    rw [s5, s6]
    by_cases e : p = q
    · subst e
      refine ⟨by rw [upd_s]; exact h1, by rw [upd_s]; exact h2, fun j hj => ?_⟩
      rw [show stQ A p sort size r (40 + p) = r from by unfold stQ; rw [if_neg (by omega), if_neg (by omega), if_pos rfl]]
      exact h3 j hj
    · obtain ⟨x1, x2, x3⟩ := hQ p hp e
      obtain ⟨y1, y2, y3⟩ := cq p hp
      refine ⟨by rw [upd_n _ _ e]; exact x1.trans y1, by rw [upd_n _ _ e]; exact x2.trans y2, fun j hj => ?_⟩
      rw [show stQ A q sort size r (40 + p) = A (40 + p) from by unfold stQ; rw [if_neg (by omega), if_neg (by omega), if_neg (by omega)]]
      exact (x3 j hj).trans (y3 j hj)
/-- the night, cell by cell -/
def slB (A : zSt) (Λ : Nat → xL) (i c : Nat) : zSt := va_up (slA A Λ i) (10 + i) (nightR (Λ (aW A)) (aK A i) (A 2 i) (A 3 i) (A (10 + i)) (nI (aN A)) c)
theorem slB_lo (A : zSt) (Λ : Nat → xL) (i c q : Nat) (h : q < 10 ∨ 10 + i < q) : slB A Λ i c q = A q := by
  unfold slB
  rw [va_up_n _ _ (by omega)]
  exact slA_lo A Λ i q (by omega)
theorem slB_0 (A : zSt) (Λ : Nat → xL) (i : Nat) : slB A Λ i 0 = slA A Λ i := by
  funext q
  by_cases h : q = 10 + i
  · subst h
    unfold slB
    rw [va_up_s, slA_lo A Λ i _ (by omega)]
    funext c
    exact if_neg (Nat.not_lt_zero c)
  · exact va_up_n _ _ h
theorem slB_16 (A : zSt) (Λ : Nat → xL) (i : Nat) : slB A Λ i 16 = slA A Λ (i + 1) := rfl
theorem slB_ok {A : zSt} (Λ : Nat → xL) (O : okA A) {i : Nat} (hi : i < aS A) (c : Nat) : okA (slB A Λ i c) := by
  have e := slA_lo A Λ i
  have hS : aS (slA A Λ i) = aS A := by unfold aS; rw [e 0 (by omega)]
  exact (slA_ok Λ O i (Nat.le_of_lt hi)).rowD (by omega) (fun j hj => okP_night (Λ (aW A)) (nI (aN A)) (O.2.2.2.2.2.2.1 i hi) c j hj)
theorem slB_use {g1 : xG} {A : zSt} {Λ : Nat → xL} (O : okA A) {i : Nat} (hi : i < aS A) {c : Nat} (C1 : mA g1 (slB A Λ i c) Λ) : g1 86 0 = nI (aS A) ∧ g1 86 5 = nI (aN A) ∧ (c < 16 → g1 89 (16 * i + c) = A (10 + i) c) ∧ i < aS (slB A Λ i c) ∧ aW (slB A Λ i c) = aW A ∧ aK (slB A Λ i c) i = aK A i ∧ slB A Λ i c 2 = A 2 ∧ slB A Λ i c 3 = A 3 := by
  have e := slB_lo A Λ i c
  have e0 := e 0 (by omega)
  have hS : aS (slB A Λ i c) = aS A := by unfold aS; rw [e0]
  refine ⟨?_, ?_, fun hc => ?_, by rw [hS]; exact hi, by unfold aW; rw [e0], by unfold aK; rw [e 1 (by omega)], e 2 (by omega), e 3 (by omega)⟩
  · rw [C1.1.1, e0]; exact O.1.1
  · rw [C1.1.2.1, e0]; exact O.2.1.1
  · rw [C1.du (by rw [hS]; exact hi) hc]
    unfold slB
    rw [va_up_s]
    exact if_neg (Nat.lt_irrefl c)
theorem slB_step {g1 : xG} {A : zSt} {Λ : Nat → xL} (O : okA A) {i : Nat} (hi : i < aS A) {c : Nat} (hc : c < 16) (C1 : mA g1 (slB A Λ i c) Λ) : mA (gs g1 89 (16 * i + c) (min99 (A (10 + i) c + dlrF (Λ (aW A)) (aK A i) (A 2 i) (A 3 i) c (A (10 + i) c) (nI (aN A))))) (slB A Λ i (c + 1)) Λ := by
  have h := C1.cell (slB_ok Λ O hi c) (slB_use O hi C1).2.2.2.1 hc (min99 (A (10 + i) c + dlrF (Λ (aW A)) (aK A i) (A 2 i) (A 3 i) c (A (10 + i) c) (nI (aN A))))
  rw [show slB A Λ i (c + 1) = va_up (slB A Λ i c) (10 + i) (upd (slB A Λ i c (10 + i)) c (min99 (A (10 + i) c + dlrF (Λ (aW A)) (aK A i) (A 2 i) (A 3 i) c (A (10 + i) c) (nI (aN A))))) from ?_]
  · exact h
  · funext q
    by_cases hq : q = 10 + i
    · subst hq
      unfold slB
      rw [va_up_s, va_up_s, va_up_s]
      funext j
      by_cases hj : j = c
      · subst hj
        rw [upd_s]
        exact if_pos (Nat.lt_succ_self j)
      · rw [upd_n _ _ hj]
        unfold nightR
        by_cases hlt : j < c
        · rw [if_pos hlt, if_pos (by omega)]
        · rw [if_neg hlt, if_neg (by omega)]
    · rw [va_up_n _ _ hq]
      unfold slB
      rw [va_up_n _ _ hq, va_up_n _ _ hq]
theorem rFeed_no {A : zSt} {n a b c d e : Int32} (h : ¬ ((1 ≤ n ∧ n ≤ 5) ∧ byF a ∧ byF b ∧ byF c ∧ byF d ∧ byF e)) : rFeed A n a b c d e = (-2, A) := by
  unfold rFeed
  by_cases h1 : byF a
  · rw [if_pos h1]
    by_cases h2 : byF b
    · rw [if_pos h2]
      by_cases h3 : byF c
      · rw [if_pos h3]
        by_cases h4 : byF d
        · rw [if_pos h4]
          by_cases h5 : byF e
          · rw [if_pos h5]
            by_cases h6 : n < 1
            · rw [if_pos h6]
            · rw [if_neg h6]
              by_cases h7 : n > 5
              · rw [if_pos h7]
              · refine absurd ⟨⟨?_, ?_⟩, h1, h2, h3, h4, h5⟩ h
                · exact (i32_le _ _).mpr (Int.not_lt.mp (fun z => h6 ((i32_lt _ _).mpr z)))
                · exact (i32_le _ _).mpr (Int.not_lt.mp (fun z => h7 ((i32_lt _ _).mpr z)))
          · rw [if_neg h5]
        · rw [if_neg h4]
      · rw [if_neg h3]
    · rw [if_neg h2]
  · rw [if_neg h1]
theorem in15 {n : Int32} (h : 1 ≤ n ∧ n ≤ 5) : ¬ n < 1 ∧ ¬ n > 5 := ⟨fun z => absurd ((i32_lt _ _).mp z) (Int.not_lt.mpr ((i32_le _ _).mp h.1)), fun z => absurd ((i32_lt _ _).mp z) (Int.not_lt.mpr ((i32_le _ _).mp h.2))⟩
set_option maxHeartbeats 4000000 in
set_option maxRecDepth 100000 in
theorem c_X12_sheet (l : Launch) (d : Nat) (n : Nat) (hn : 110 ≤ n) (g : xG) (A : zSt) (Λ : Nat → xL) (O : okA A) (C : mA g A Λ) (q sort n1 : Int32)  : xC l yX12_sheet cX12_sheet 5 (some .int) (xR (d + 2) 0 0) [.ref 86, .int q, .int sort, .int n1] (n, fh g) (qI n fun v g1 => v = (rSheet A q sort n1).1 ∧ mA g1 (rSheet A q sort n1).2 Λ ∧ fr mX g g1) := by
  refine xC_of false (by decide +kernel) (fun z => by cases z) (Nat.le_of_ble_eq_true rfl) ?_
  have hS6 := O.1.2
  have hW := O.W
  have hT6 := O.2.2.2.1.2.2
  have hN9 := O.2.1.2
  show xJ l (RX12, 5, (some .int), false, (xR (d + 2) 0 0), none) cX12_sheet _ 0 0 0 [(0, .ref 86), (1, .int q), (2, .int sort), (3, .int n1)] [] (n, fh g)
  refine xj_iload_n (n := 1) (i := 1) 1 rfl rfl dX12_sheet_0 ?_
  refine xj_iconst (v := 0) (by decide) dX12_sheet_1 ?_
  refine xj_iconst (v := 3) (by decide) dX12_sheet_2 ?_
  refine xj_callS ks_X12_93 (c_X12_in l (d + 1) q 0 3 _) (As := [.int q, .int 0, .int 3]) (st := []) rfl rfl (xRm_of (by omega) (by decide) (by omega) (by omega)) (Nat.le_of_ble_eq_true rfl) dX12_sheet_3 (yk_p (kc := 0) (ks := 0) ?_)
  refine xj_if_eq (tgt := 29) (by decide) dX12_sheet_6 (fun zc6 => ?_) (fun zc6 => ?_)
  · have zp6 : ¬ (0 ≤ q ∧ q ≤ 3) := bI_0.mp zc6
    refine xj_bipush (v := (-2)) (by decide) dX12_sheet_29 ?_
    have er : rSheet A q sort n1 = ((-2), A) := by unfold rSheet; rw [if_neg zp6]; all_goals (rfl)
    exact xj_ireturn rfl (nr_i _) (Nat.zero_le _) (Nat.zero_le _) dX12_sheet_31 (qI_e (by rw [er]; exact ⟨rfl, C, fr.rf⟩))
  · have zp6 : 0 ≤ q ∧ q ≤ 3 := bI_n0.mp zc6
    obtain ⟨kq, hkq, rfl⟩ := nI_bnd (m := 3) (by decide) zp6.1 zp6.2
    have hk4_kq : kq < 4 := by omega
    refine xj_iload_n (n := 2) (i := 2) 2 rfl rfl dX12_sheet_9 ?_
    refine xj_iconst (v := (-1)) (by decide) dX12_sheet_10 ?_
    refine xj_iconst (v := 2) (by decide) dX12_sheet_11 ?_
    refine xj_callS ks_X12_93 (c_X12_in l (d + 1) sort (-1) 2 _) (As := [.int sort, .int (-1), .int 2]) (st := []) rfl rfl (xRm_of (by omega) (by decide) (by omega) (by omega)) (Nat.le_of_ble_eq_true rfl) dX12_sheet_12 (yk_p (kc := 0) (ks := 0) ?_)
    refine xj_if_eq (tgt := 29) (by decide) dX12_sheet_15 (fun zc15 => ?_) (fun zc15 => ?_)
    · have zp15 : ¬ ((-1) ≤ sort ∧ sort ≤ 2) := bI_0.mp zc15
      have hs1 : ¬ sort = -1 := fun z => zp15 (by rw [z]; decide)
      have hs2 : ¬ (0 ≤ sort ∧ sort ≤ 2) := fun z => zp15 ⟨(i32_le _ _).mpr (by have a := (i32_le _ _).mp z.1; have e0 : (0 : Int32).toInt = 0 := rfl; have e1 : (-1 : Int32).toInt = -1 := rfl; omega), z.2⟩
      refine xj_bipush (v := (-2)) (by decide) dX12_sheet_29 ?_
      have er : rSheet A (nI kq) sort n1 = ((-2), A) := by unfold rSheet; (try simp only [nI_clamp (show kq < 2147483648 by omega)]); rw [if_pos zp6, if_neg hs1, if_neg hs2]; all_goals (rfl)
      exact xj_ireturn rfl (nr_i _) (Nat.zero_le _) (Nat.zero_le _) dX12_sheet_31 (qI_e (by rw [er]; exact ⟨rfl, C, fr.rf⟩))
    · have zp15 : (-1) ≤ sort ∧ sort ≤ 2 := bI_n0.mp zc15
      refine xj_iload_n (n := 2) (i := 2) 2 rfl rfl dX12_sheet_18 ?_
      refine xj_iconst (v := (-1)) (by decide) dX12_sheet_19 ?_
      refine xj_icmp_eq (tgt := 32) (by decide) dX12_sheet_20 (fun zc20 => ?_) (fun zc20 => ?_)
      · refine xj_iload_n (n := 2) (i := 2) 2 rfl rfl dX12_sheet_32 ?_
        refine xj_iconst (v := (-1)) (by decide) dX12_sheet_33 ?_
        refine xj_icmp_eq (tgt := 44) (by decide) dX12_sheet_34 (fun zc34 => ?_) (fun zc34 => ?_)
        · refine xj_aload_n (n := 0) (i := 0) 0 rfl rfl dX12_sheet_44 ?_
          refine yj_getf (v := .ref 97) fl_X12_44_12 (by omega) (fq_86 g) rfl dX12_sheet_45 ?_
          refine xj_iload_n (n := 1) (i := 1) 1 rfl rfl dX12_sheet_48 ?_
          refine xj_iload_n (n := 2) (i := 2) 2 rfl rfl dX12_sheet_49 ?_
          refine yj_iastN kq (by omega) fA_97 rfl (by omega) (by decide) dX12_sheet_50 ?_
          obtain ⟨zg1, ezg1⟩ : ∃ z, z = gs g 97 kq sort := ⟨_, rfl⟩
          rw [← ezg1]
          refine xj_aload_n (n := 0) (i := 0) 0 rfl rfl dX12_sheet_51 ?_
          refine yj_getf (v := .ref 98) fl_X12_47_12 (by omega) (fq_86 zg1) rfl dX12_sheet_52 ?_
          refine xj_iload_n (n := 1) (i := 1) 1 rfl rfl dX12_sheet_55 ?_
          refine xj_iload_n (n := 2) (i := 2) 2 rfl rfl dX12_sheet_56 ?_
          refine xj_iconst (v := (-1)) (by decide) dX12_sheet_57 ?_
          refine xj_icmp_ne (tgt := 65) (by decide) dX12_sheet_58 (fun zc58 => ?_) (fun zc58 => ?_)
          · exact absurd zc58 (fun z => z zc20)
          · refine xj_iconst (v := 0) (by decide) dX12_sheet_61 ?_
            refine xj_goto (tgt := 66) (by decide) dX12_sheet_62 ?_
            refine yj_iastN kq (by omega) fA_98 rfl (by omega) (by decide) dX12_sheet_66 ?_
            obtain ⟨zg2, ezg2⟩ : ∃ z, z = gs zg1 98 kq 0 := ⟨_, rfl⟩
            rw [← ezg2]
            refine xj_iconst (v := 0) (by decide) dX12_sheet_67 ?_
            refine xj_istore (i := 4) (lv1 := [(4, .int 0), (0, .ref 86), (1, .int (nI kq)), (2, .int sort), (3, .int n1)]) rfl (Nat.le_of_ble_eq_true rfl) dX12_sheet_68 ?_
            have key : ∀ i, i ≤ 40 → ∀ (g1 : xG), fr (fun j => j = 99) zg2 g1 → (∀ j, j < i → g1 99 (40 * kq + j) = 0) → (∀ p, p < 4 → p ≠ kq → ∀ j, j < 40 → g1 99 (40 * p + j) = g 99 (40 * p + j)) → xJ l (RX12, 5, (some .int), false, (xR (d + 2) 0 0), none) cX12_sheet (qI n fun v g1 => v = (rSheet A (nI kq) sort n1).1 ∧ mA g1 (rSheet A (nI kq) sort n1).2 Λ ∧ fr mX g g1) 0 0 70 [(4, .int (nI i)), (0, .ref 86), (1, .int (nI kq)), (2, .int sort), (3, .int n1)] [] (n, fh g1) := by
              refine x_loop 40 _ ?_ ?_
              · intro g1 hf hz hy
                refine xj_iload (i := 4) 0 rfl dX12_sheet_70 ?_
                refine xj_bipush (v := 40) (by decide) dX12_sheet_72 ?_
                refine xj_icmp_ge (tgt := 96) (by decide) dX12_sheet_74 (fun zc74 => ?_) (fun zc74 => ?_)
                · refine xj_iconst (v := 1) (by decide) dX12_sheet_96 ?_
                  have er : rSheet A (nI kq) sort n1 = (1, stQ A kq sort 0 (fun _ => 0)) := by unfold rSheet; (try simp only [nI_clamp (show kq < 2147483648 by omega)]); rw [if_pos zp6, if_pos zc20]; all_goals (rfl)
                  exact xj_ireturn rfl (nr_i _) (Nat.zero_le _) (Nat.zero_le _) dX12_sheet_97 (qI_e (by rw [er]; exact ⟨rfl, (C.sht (g1 := g1) (by rw [hf 97 (by decide), ezg2, gs_n _ _ _ (by decide), ezg1, gs_s, upd_s]) (by rw [hf 98 (by decide), ezg2, gs_s, upd_s]) hz (fun p hp hne => ⟨by rw [hf 97 (by decide), ezg2, gs_n _ _ _ (by decide), ezg1, gs_s, upd_n _ _ hne], by rw [hf 98 (by decide), ezg2, gs_s, upd_n _ _ hne, ezg1, gs_n _ _ _ (by decide)], hy p hp hne⟩) (fun k hk => by rw [hf 86 (by decide), ezg2, gs_n _ _ _ (by decide), ezg1, gs_n _ _ _ (by decide)]) (fun j a b c => by rw [hf j (by omega), ezg2, gs_n _ _ _ (by omega), ezg1, gs_n _ _ _ (by omega)]) O), (fun j hj => by unfold mX at hj; rw [hf j (by omega), ezg2, gs_n _ _ _ (by omega), ezg1, gs_n _ _ _ (by omega)])⟩))
                · exact absurd (nI_le (Nat.le_refl _) (by decide)) zc74
              · intro i hi ih g1 hf hz hy
                refine xj_iload (i := 4) 0 rfl dX12_sheet_70 ?_
                refine xj_bipush (v := 40) (by decide) dX12_sheet_72 ?_
                refine xj_icmp_ge (tgt := 96) (by decide) dX12_sheet_74 (fun zc74 => ?_) (fun zc74 => ?_)
                · exact absurd zc74 (nI_ge hi (by decide))
                · refine xj_aload_n (n := 0) (i := 0) 1 rfl rfl dX12_sheet_77 ?_
                  refine yj_getf (v := .ref 99) fl_X12_50_12 (by omega) (fq_86 g1) rfl dX12_sheet_78 ?_
                  refine xj_bipush (v := 40) (by decide) dX12_sheet_81 ?_
                  refine xj_iload_n (n := 1) (i := 1) 2 rfl rfl dX12_sheet_83 ?_
                  refine xj_imul dX12_sheet_84 ?_
                  refine xj_top (pk_mul 40 kq) ?_
                  refine xj_iload (i := 4) 0 rfl dX12_sheet_85 ?_
                  refine xj_iadd dX12_sheet_87 ?_
                  refine xj_top (nI_add _ _) ?_
                  refine xj_iconst (v := 0) (by decide) dX12_sheet_88 ?_
                  refine yj_iastN ((40 * kq) + i) (by omega) fA_99 rfl (by omega) (by decide) dX12_sheet_89 ?_
                  obtain ⟨zg3, ezg3⟩ : ∃ z, z = gs g1 99 ((40 * kq) + i) 0 := ⟨_, rfl⟩
                  rw [← ezg3]
                  refine xj_iinc (n := 1) (i := 4) (v := nI (i + 1)) (lv1 := [(4, .int (nI (i + 1))), (0, .ref 86), (1, .int (nI kq)), (2, .int sort), (3, .int n1)]) 0 rfl (nI_1 i) rfl (Nat.le_of_ble_eq_true rfl) dX12_sheet_90 ?_
                  refine xj_goto (tgt := 70) (by decide) dX12_sheet_93 ?_
                  refine xj_sub (lv' := [(4, .int (nI (i + 1))), (0, .ref 86), (1, .int (nI kq)), (2, .int sort), (3, .int n1)]) [0, 1, 2, 3, 4] rfl ?_
                  refine ih zg3 (by rw [ezg3]; exact hf.gs rfl _ _) (fun j hj => ?_) (fun p hp hne j hj => ?_)
                  · rw [ezg3, gs_s]; by_cases e : j = i; (subst e; rw [upd_s]); (rw [upd_n _ _ (by omega)]; exact hz j (by omega))
                  · rw [ezg3, gs_s, upd_n _ _ (by omega)]; exact hy p hp hne j hj
            refine xj_sub (lv' := [(4, .int 0), (0, .ref 86), (1, .int (nI kq)), (2, .int sort), (3, .int n1)]) [0, 1, 2, 3, 4] rfl ?_
            exact key 0 (Nat.zero_le _) zg2 fr.rf (fun j hj => absurd hj (Nat.not_lt_zero j)) (fun p _ _ j _ => by rw [ezg2, gs_n _ _ _ (by decide), ezg1, gs_n _ _ _ (by decide)])
        · exact absurd zc20 zc34
      · have hs2 : 0 ≤ sort ∧ sort ≤ 2 := ⟨(i32_le _ _).mpr (by have a := (i32_le _ _).mp zp15.1; have e0 : (0 : Int32).toInt = 0 := rfl; have e1 : (-1 : Int32).toInt = -1 := rfl; have b : sort.toInt ≠ -1 := fun z => zc20 (Int32.toInt_inj.mp (z.trans rfl)); omega), zp15.2⟩
        refine xj_iload_n (n := 3) (i := 3) 3 rfl rfl dX12_sheet_23 ?_
        refine xj_bipush (v := 40) (by decide) dX12_sheet_24 ?_
        refine xj_icmp_le (tgt := 32) (by decide) dX12_sheet_26 (fun zc26 => ?_) (fun zc26 => ?_)
        · refine xj_iload_n (n := 2) (i := 2) 2 rfl rfl dX12_sheet_32 ?_
          refine xj_iconst (v := (-1)) (by decide) dX12_sheet_33 ?_
          refine xj_icmp_eq (tgt := 44) (by decide) dX12_sheet_34 (fun zc34 => ?_) (fun zc34 => ?_)
          · exact absurd zc34 zc20
          · refine xj_iload_n (n := 3) (i := 3) 3 rfl rfl dX12_sheet_37 ?_
            refine xj_if_ge (tgt := 44) (by decide) dX12_sheet_38 (fun zc38 => ?_) (fun zc38 => ?_)
            · refine xj_aload_n (n := 0) (i := 0) 0 rfl rfl dX12_sheet_44 ?_
              refine yj_getf (v := .ref 97) fl_X12_44_12 (by omega) (fq_86 g) rfl dX12_sheet_45 ?_
              refine xj_iload_n (n := 1) (i := 1) 1 rfl rfl dX12_sheet_48 ?_
              refine xj_iload_n (n := 2) (i := 2) 2 rfl rfl dX12_sheet_49 ?_
              refine yj_iastN kq (by omega) fA_97 rfl (by omega) (by decide) dX12_sheet_50 ?_
              obtain ⟨zg4, ezg4⟩ : ∃ z, z = gs g 97 kq sort := ⟨_, rfl⟩
              rw [← ezg4]
              refine xj_aload_n (n := 0) (i := 0) 0 rfl rfl dX12_sheet_51 ?_
              refine yj_getf (v := .ref 98) fl_X12_47_12 (by omega) (fq_86 zg4) rfl dX12_sheet_52 ?_
              refine xj_iload_n (n := 1) (i := 1) 1 rfl rfl dX12_sheet_55 ?_
              refine xj_iload_n (n := 2) (i := 2) 2 rfl rfl dX12_sheet_56 ?_
              refine xj_iconst (v := (-1)) (by decide) dX12_sheet_57 ?_
              refine xj_icmp_ne (tgt := 65) (by decide) dX12_sheet_58 (fun zc58 => ?_) (fun zc58 => ?_)
              · refine xj_iload_n (n := 3) (i := 3) 3 rfl rfl dX12_sheet_65 ?_
                refine yj_iastN kq (by omega) fA_98 rfl (by omega) (by decide) dX12_sheet_66 ?_
                obtain ⟨zg5, ezg5⟩ : ∃ z, z = gs zg4 98 kq n1 := ⟨_, rfl⟩
                rw [← ezg5]
                refine xj_iconst (v := 0) (by decide) dX12_sheet_67 ?_
                refine xj_istore (i := 4) (lv1 := [(4, .int 0), (0, .ref 86), (1, .int (nI kq)), (2, .int sort), (3, .int n1)]) rfl (Nat.le_of_ble_eq_true rfl) dX12_sheet_68 ?_
                have key : ∀ i, i ≤ 40 → ∀ (g1 : xG), fr (fun j => j = 99) zg5 g1 → (∀ j, j < i → g1 99 (40 * kq + j) = 0) → (∀ p, p < 4 → p ≠ kq → ∀ j, j < 40 → g1 99 (40 * p + j) = g 99 (40 * p + j)) → xJ l (RX12, 5, (some .int), false, (xR (d + 2) 0 0), none) cX12_sheet (qI n fun v g1 => v = (rSheet A (nI kq) sort n1).1 ∧ mA g1 (rSheet A (nI kq) sort n1).2 Λ ∧ fr mX g g1) 0 0 70 [(4, .int (nI i)), (0, .ref 86), (1, .int (nI kq)), (2, .int sort), (3, .int n1)] [] (n, fh g1) := by
                  refine x_loop 40 _ ?_ ?_
                  · intro g1 hf hz hy
                    refine xj_iload (i := 4) 0 rfl dX12_sheet_70 ?_
                    refine xj_bipush (v := 40) (by decide) dX12_sheet_72 ?_
                    refine xj_icmp_ge (tgt := 96) (by decide) dX12_sheet_74 (fun zc74 => ?_) (fun zc74 => ?_)
                    · refine xj_iconst (v := 1) (by decide) dX12_sheet_96 ?_
                      have er : rSheet A (nI kq) sort n1 = (1, stQ A kq sort n1 (fun _ => 0)) := by unfold rSheet; (try simp only [nI_clamp (show kq < 2147483648 by omega)]); rw [if_pos zp6, if_neg zc20, if_pos hs2, if_pos zc26, if_pos zc38]; all_goals (rfl)
                      exact xj_ireturn rfl (nr_i _) (Nat.zero_le _) (Nat.zero_le _) dX12_sheet_97 (qI_e (by rw [er]; exact ⟨rfl, (C.sht (g1 := g1) (by rw [hf 97 (by decide), ezg5, gs_n _ _ _ (by decide), ezg4, gs_s, upd_s]) (by rw [hf 98 (by decide), ezg5, gs_s, upd_s]) hz (fun p hp hne => ⟨by rw [hf 97 (by decide), ezg5, gs_n _ _ _ (by decide), ezg4, gs_s, upd_n _ _ hne], by rw [hf 98 (by decide), ezg5, gs_s, upd_n _ _ hne, ezg4, gs_n _ _ _ (by decide)], hy p hp hne⟩) (fun k hk => by rw [hf 86 (by decide), ezg5, gs_n _ _ _ (by decide), ezg4, gs_n _ _ _ (by decide)]) (fun j a b c => by rw [hf j (by omega), ezg5, gs_n _ _ _ (by omega), ezg4, gs_n _ _ _ (by omega)]) O), (fun j hj => by unfold mX at hj; rw [hf j (by omega), ezg5, gs_n _ _ _ (by omega), ezg4, gs_n _ _ _ (by omega)])⟩))
                    · exact absurd (nI_le (Nat.le_refl _) (by decide)) zc74
                  · intro i hi ih g1 hf hz hy
                    refine xj_iload (i := 4) 0 rfl dX12_sheet_70 ?_
                    refine xj_bipush (v := 40) (by decide) dX12_sheet_72 ?_
                    refine xj_icmp_ge (tgt := 96) (by decide) dX12_sheet_74 (fun zc74 => ?_) (fun zc74 => ?_)
                    · exact absurd zc74 (nI_ge hi (by decide))
                    · refine xj_aload_n (n := 0) (i := 0) 1 rfl rfl dX12_sheet_77 ?_
                      refine yj_getf (v := .ref 99) fl_X12_50_12 (by omega) (fq_86 g1) rfl dX12_sheet_78 ?_
                      refine xj_bipush (v := 40) (by decide) dX12_sheet_81 ?_
                      refine xj_iload_n (n := 1) (i := 1) 2 rfl rfl dX12_sheet_83 ?_
                      refine xj_imul dX12_sheet_84 ?_
                      refine xj_top (pk_mul 40 kq) ?_
                      refine xj_iload (i := 4) 0 rfl dX12_sheet_85 ?_
                      refine xj_iadd dX12_sheet_87 ?_
                      refine xj_top (nI_add _ _) ?_
                      refine xj_iconst (v := 0) (by decide) dX12_sheet_88 ?_
                      refine yj_iastN ((40 * kq) + i) (by omega) fA_99 rfl (by omega) (by decide) dX12_sheet_89 ?_
                      obtain ⟨zg6, ezg6⟩ : ∃ z, z = gs g1 99 ((40 * kq) + i) 0 := ⟨_, rfl⟩
                      rw [← ezg6]
                      refine xj_iinc (n := 1) (i := 4) (v := nI (i + 1)) (lv1 := [(4, .int (nI (i + 1))), (0, .ref 86), (1, .int (nI kq)), (2, .int sort), (3, .int n1)]) 0 rfl (nI_1 i) rfl (Nat.le_of_ble_eq_true rfl) dX12_sheet_90 ?_
                      refine xj_goto (tgt := 70) (by decide) dX12_sheet_93 ?_
                      refine xj_sub (lv' := [(4, .int (nI (i + 1))), (0, .ref 86), (1, .int (nI kq)), (2, .int sort), (3, .int n1)]) [0, 1, 2, 3, 4] rfl ?_
                      refine ih zg6 (by rw [ezg6]; exact hf.gs rfl _ _) (fun j hj => ?_) (fun p hp hne j hj => ?_)
                      · rw [ezg6, gs_s]; by_cases e : j = i; (subst e; rw [upd_s]); (rw [upd_n _ _ (by omega)]; exact hz j (by omega))
                      · rw [ezg6, gs_s, upd_n _ _ (by omega)]; exact hy p hp hne j hj
                refine xj_sub (lv' := [(4, .int 0), (0, .ref 86), (1, .int (nI kq)), (2, .int sort), (3, .int n1)]) [0, 1, 2, 3, 4] rfl ?_
                exact key 0 (Nat.zero_le _) zg5 fr.rf (fun j hj => absurd hj (Nat.not_lt_zero j)) (fun p _ _ j _ => by rw [ezg5, gs_n _ _ _ (by decide), ezg4, gs_n _ _ _ (by decide)])
              · exact absurd zc58 zc20
            · refine xj_bipush (v := (-14)) (by decide) dX12_sheet_41 ?_
              have er : rSheet A (nI kq) sort n1 = ((-14), A) := by unfold rSheet; (try simp only [nI_clamp (show kq < 2147483648 by omega)]); rw [if_pos zp6, if_neg zc20, if_pos hs2, if_pos zc26, if_neg zc38]; all_goals (rfl)
              exact xj_ireturn rfl (nr_i _) (Nat.zero_le _) (Nat.zero_le _) dX12_sheet_43 (qI_e (by rw [er]; exact ⟨rfl, C, fr.rf⟩))
        · refine xj_bipush (v := (-2)) (by decide) dX12_sheet_29 ?_
          have er : rSheet A (nI kq) sort n1 = ((-2), A) := by unfold rSheet; (try simp only [nI_clamp (show kq < 2147483648 by omega)]); rw [if_pos zp6, if_neg zc20, if_pos hs2, if_neg zc26]; all_goals (rfl)
          exact xj_ireturn rfl (nr_i _) (Nat.zero_le _) (Nat.zero_le _) dX12_sheet_31 (qI_e (by rw [er]; exact ⟨rfl, C, fr.rf⟩))
set_option maxHeartbeats 4000000 in
set_option maxRecDepth 100000 in
theorem c_X12_cell (l : Launch) (d : Nat) (n : Nat) (hn : 110 ≤ n) (g : xG) (A : zSt) (Λ : Nat → xL) (O : okA A) (C : mA g A Λ) (q i w : Int32)  : xC l yX12_cell cX12_cell 4 (some .int) (xR (d + 2) 0 0) [.ref 86, .int q, .int i, .int w] (n, fh g) (qI n fun v g1 => v = (rCell A q i w).1 ∧ mA g1 (rCell A q i w).2 Λ ∧ fr mX g g1) := by
  refine xC_of false (by decide +kernel) (fun z => by cases z) (Nat.le_of_ble_eq_true rfl) ?_
  have hS6 := O.1.2
  have hW := O.W
  have hT6 := O.2.2.2.1.2.2
  have hN9 := O.2.1.2
  show xJ l (RX12, 4, (some .int), false, (xR (d + 2) 0 0), none) cX12_cell _ 0 0 0 [(0, .ref 86), (1, .int q), (2, .int i), (3, .int w)] [] (n, fh g)
  refine xj_iload_n (n := 1) (i := 1) 1 rfl rfl dX12_cell_0 ?_
  refine xj_iconst (v := 0) (by decide) dX12_cell_1 ?_
  refine xj_iconst (v := 3) (by decide) dX12_cell_2 ?_
  refine xj_callS ks_X12_93 (c_X12_in l (d + 1) q 0 3 _) (As := [.int q, .int 0, .int 3]) (st := []) rfl rfl (xRm_of (by omega) (by decide) (by omega) (by omega)) (Nat.le_of_ble_eq_true rfl) dX12_cell_3 (yk_p (kc := 0) (ks := 0) ?_)
  refine xj_if_ne (tgt := 12) (by decide) dX12_cell_6 (fun zc6 => ?_) (fun zc6 => ?_)
  · have zp6 : 0 ≤ q ∧ q ≤ 3 := bI_n0.mp zc6
    obtain ⟨kq, hkq, rfl⟩ := nI_bnd (m := 3) (by decide) zp6.1 zp6.2
    have hk4_kq : kq < 4 := by omega
    have hz40 := (O.2.2.2.2.2.2.2.2 kq hk4_kq).2.2
    refine xj_aload_n (n := 0) (i := 0) 0 rfl rfl dX12_cell_12 ?_
    refine yj_getf (v := .ref 97) fl_X12_44_12 (by omega) (fq_86 g) rfl dX12_cell_13 ?_
    refine xj_iload_n (n := 1) (i := 1) 1 rfl rfl dX12_cell_16 ?_
    refine yj_ialdN kq (by omega) fA_97 rfl (by omega) (by decide) dX12_cell_17 ?_
    refine xj_top (C.qs hk4_kq) ?_
    refine xj_iconst (v := (-1)) (by decide) dX12_cell_18 ?_
    refine xj_icmp_ne (tgt := 25) (by decide) dX12_cell_19 (fun zc19 => ?_) (fun zc19 => ?_)
    · refine xj_iload_n (n := 2) (i := 2) 2 rfl rfl dX12_cell_25 ?_
      refine xj_iconst (v := 0) (by decide) dX12_cell_26 ?_
      refine xj_aload_n (n := 0) (i := 0) 0 rfl rfl dX12_cell_27 ?_
      refine yj_getf (v := .ref 98) fl_X12_47_12 (by omega) (fq_86 g) rfl dX12_cell_28 ?_
      refine xj_iload_n (n := 1) (i := 1) 1 rfl rfl dX12_cell_31 ?_
      refine yj_ialdN kq (by omega) fA_98 rfl (by omega) (by decide) dX12_cell_32 ?_
      refine xj_top (C.qz O hk4_kq) ?_
      refine xj_iconst (v := 1) (by decide) dX12_cell_33 ?_
      refine xj_isub dX12_cell_34 ?_
      refine xj_callS ks_X12_93 (c_X12_in l (d + 1) i 0 ((nI (aQ A kq)) - 1) _) (As := [.int i, .int 0, .int ((nI (aQ A kq)) - 1)]) (st := []) rfl rfl (xRm_of (by omega) (by decide) (by omega) (by omega)) (Nat.le_of_ble_eq_true rfl) dX12_cell_35 (yk_p (kc := 0) (ks := 0) ?_)
      refine xj_if_ne (tgt := 44) (by decide) dX12_cell_38 (fun zc38 => ?_) (fun zc38 => ?_)
      · have zp38 : 0 ≤ i ∧ i ≤ ((nI (aQ A kq)) - 1) := bI_n0.mp zc38
        obtain ⟨ki, hki, rfl⟩ := le_m1 (by omega) zp38.1 zp38.2
        refine xj_aload_n (n := 0) (i := 0) 0 rfl rfl dX12_cell_44 ?_
        refine yj_getf (v := .ref 99) fl_X12_50_12 (by omega) (fq_86 g) rfl dX12_cell_45 ?_
        refine xj_bipush (v := 40) (by decide) dX12_cell_48 ?_
        refine xj_iload_n (n := 1) (i := 1) 1 rfl rfl dX12_cell_50 ?_
        refine xj_imul dX12_cell_51 ?_
        refine xj_top (pk_mul 40 kq) ?_
        refine xj_iload_n (n := 2) (i := 2) 2 rfl rfl dX12_cell_52 ?_
        refine xj_iadd dX12_cell_53 ?_
        refine xj_top (nI_add _ _) ?_
        refine xj_aload_n (n := 0) (i := 0) 0 rfl rfl dX12_cell_54 ?_
        refine yj_getf (v := .ref 97) fl_X12_44_12 (by omega) (fq_86 g) rfl dX12_cell_55 ?_
        refine xj_iload_n (n := 1) (i := 1) 1 rfl rfl dX12_cell_58 ?_
        refine yj_ialdN kq (by omega) fA_97 rfl (by omega) (by decide) dX12_cell_59 ?_
        refine xj_top (C.qs hk4_kq) ?_
        refine xj_if_ne (tgt := 68) (by decide) dX12_cell_60 (fun zc60 => ?_) (fun zc60 => ?_)
        · refine xj_aload_n (n := 0) (i := 0) 0 rfl rfl dX12_cell_68 ?_
          refine yj_getf (v := .ref 97) fl_X12_44_12 (by omega) (fq_86 g) rfl dX12_cell_69 ?_
          refine xj_iload_n (n := 1) (i := 1) 1 rfl rfl dX12_cell_72 ?_
          refine yj_ialdN kq (by omega) fA_97 rfl (by omega) (by decide) dX12_cell_73 ?_
          refine xj_top (C.qs hk4_kq) ?_
          refine xj_iconst (v := 1) (by decide) dX12_cell_74 ?_
          refine xj_icmp_ne (tgt := 83) (by decide) dX12_cell_75 (fun zc75 => ?_) (fun zc75 => ?_)
          · refine xj_iload_n (n := 3) (i := 3) 3 rfl rfl dX12_cell_83 ?_
            refine yj_iastN ((40 * kq) + ki) (by omega) fA_99 rfl (by omega) (by decide) dX12_cell_84 ?_
            obtain ⟨zg1, ezg1⟩ : ∃ z, z = gs g 99 ((40 * kq) + ki) w := ⟨_, rfl⟩
            rw [← ezg1]
            have hw9 : wrF (A 5 kq) w = w := by unfold wrF; rw [if_neg zc60, if_neg zc75]
            have hcq := C.2.2.2.2.2.1 kq hk4_kq
            refine xj_iconst (v := 1) (by decide) dX12_cell_85 ?_
            have er : rCell A (nI kq) (nI ki) w = (1, stQ A kq (A 5 kq) (A 6 kq) (upd (A (40 + kq)) ki (wrF (A 5 kq) w))) := by unfold rCell; (try simp only [nI_clamp (show kq < 2147483648 by omega), nI_clamp (show ki < 2147483648 by omega)]); rw [if_pos zp6, if_neg zc19, if_pos zp38]; all_goals (rfl)
            exact xj_ireturn rfl (nr_i _) (Nat.zero_le _) (Nat.zero_le _) dX12_cell_86 (qI_e (by rw [er]; exact ⟨rfl, (by rw [hw9]; exact C.sht (by rw [ezg1, gs_n _ _ _ (by decide)]; exact hcq.1) (by rw [ezg1, gs_n _ _ _ (by decide)]; exact hcq.2.1) (fun j hj => by rw [ezg1, gs_s]; by_cases hji : j = ki; (subst hji; rw [upd_s, upd_s]); (rw [upd_n _ _ (by omega), upd_n _ _ hji]; exact hcq.2.2 j hj)) (fun p hp hne => ⟨by rw [ezg1, gs_n _ _ _ (by decide)], by rw [ezg1, gs_n _ _ _ (by decide)], fun j hj => by rw [ezg1, gs_s, upd_n _ _ (by omega)]⟩) (fun k hk => by rw [ezg1, gs_n _ _ _ (by decide)]) (fun j a b c => by rw [ezg1, gs_n _ _ _ (by omega)]) O), (by rw [ezg1]; exact fr.rf.gs (mX_i (by omega)) _ _)⟩))
          · refine xj_iload_n (n := 3) (i := 3) 3 rfl rfl dX12_cell_78 ?_
            refine xj_i2s dX12_cell_79 ?_
            refine xj_goto (tgt := 84) (by decide) dX12_cell_80 ?_
            refine xj_topi (fun zv2 ezv2 => ?_)
            refine yj_iastN ((40 * kq) + ki) (by omega) fA_99 rfl (by omega) (by decide) dX12_cell_84 ?_
            obtain ⟨zg3, ezg3⟩ : ∃ z, z = gs g 99 ((40 * kq) + ki) zv2 := ⟨_, rfl⟩
            rw [← ezg3]
            have hw9 : wrF (A 5 kq) w = zv2 := by unfold wrF; rw [ezv2, if_neg zc60, if_pos zc75]
            have hcq := C.2.2.2.2.2.1 kq hk4_kq
            refine xj_iconst (v := 1) (by decide) dX12_cell_85 ?_
            have er : rCell A (nI kq) (nI ki) w = (1, stQ A kq (A 5 kq) (A 6 kq) (upd (A (40 + kq)) ki (wrF (A 5 kq) w))) := by unfold rCell; (try simp only [nI_clamp (show kq < 2147483648 by omega), nI_clamp (show ki < 2147483648 by omega)]); rw [if_pos zp6, if_neg zc19, if_pos zp38]; all_goals (rfl)
            exact xj_ireturn rfl (nr_i _) (Nat.zero_le _) (Nat.zero_le _) dX12_cell_86 (qI_e (by rw [er]; exact ⟨rfl, (by rw [hw9]; exact C.sht (by rw [ezg3, gs_n _ _ _ (by decide)]; exact hcq.1) (by rw [ezg3, gs_n _ _ _ (by decide)]; exact hcq.2.1) (fun j hj => by rw [ezg3, gs_s]; by_cases hji : j = ki; (subst hji; rw [upd_s, upd_s]); (rw [upd_n _ _ (by omega), upd_n _ _ hji]; exact hcq.2.2 j hj)) (fun p hp hne => ⟨by rw [ezg3, gs_n _ _ _ (by decide)], by rw [ezg3, gs_n _ _ _ (by decide)], fun j hj => by rw [ezg3, gs_s, upd_n _ _ (by omega)]⟩) (fun k hk => by rw [ezg3, gs_n _ _ _ (by decide)]) (fun j a b c => by rw [ezg3, gs_n _ _ _ (by omega)]) O), (by rw [ezg3]; exact fr.rf.gs (mX_i (by omega)) _ _)⟩))
        · refine xj_iload_n (n := 3) (i := 3) 3 rfl rfl dX12_cell_63 ?_
          refine xj_i2b dX12_cell_64 ?_
          refine xj_goto (tgt := 84) (by decide) dX12_cell_65 ?_
          refine xj_topi (fun zv4 ezv4 => ?_)
          refine yj_iastN ((40 * kq) + ki) (by omega) fA_99 rfl (by omega) (by decide) dX12_cell_84 ?_
          obtain ⟨zg5, ezg5⟩ : ∃ z, z = gs g 99 ((40 * kq) + ki) zv4 := ⟨_, rfl⟩
          rw [← ezg5]
          have hw9 : wrF (A 5 kq) w = zv4 := by unfold wrF; rw [ezv4, if_pos zc60]
          have hcq := C.2.2.2.2.2.1 kq hk4_kq
          refine xj_iconst (v := 1) (by decide) dX12_cell_85 ?_
          have er : rCell A (nI kq) (nI ki) w = (1, stQ A kq (A 5 kq) (A 6 kq) (upd (A (40 + kq)) ki (wrF (A 5 kq) w))) := by unfold rCell; (try simp only [nI_clamp (show kq < 2147483648 by omega), nI_clamp (show ki < 2147483648 by omega)]); rw [if_pos zp6, if_neg zc19, if_pos zp38]; all_goals (rfl)
          exact xj_ireturn rfl (nr_i _) (Nat.zero_le _) (Nat.zero_le _) dX12_cell_86 (qI_e (by rw [er]; exact ⟨rfl, (by rw [hw9]; exact C.sht (by rw [ezg5, gs_n _ _ _ (by decide)]; exact hcq.1) (by rw [ezg5, gs_n _ _ _ (by decide)]; exact hcq.2.1) (fun j hj => by rw [ezg5, gs_s]; by_cases hji : j = ki; (subst hji; rw [upd_s, upd_s]); (rw [upd_n _ _ (by omega), upd_n _ _ hji]; exact hcq.2.2 j hj)) (fun p hp hne => ⟨by rw [ezg5, gs_n _ _ _ (by decide)], by rw [ezg5, gs_n _ _ _ (by decide)], fun j hj => by rw [ezg5, gs_s, upd_n _ _ (by omega)]⟩) (fun k hk => by rw [ezg5, gs_n _ _ _ (by decide)]) (fun j a b c => by rw [ezg5, gs_n _ _ _ (by omega)]) O), (by rw [ezg5]; exact fr.rf.gs (mX_i (by omega)) _ _)⟩))
      · have zp38 : ¬ (0 ≤ i ∧ i ≤ ((nI (aQ A kq)) - 1)) := bI_0.mp zc38
        refine xj_bipush (v := (-12)) (by decide) dX12_cell_41 ?_
        have er : rCell A (nI kq) i w = ((-12), A) := by unfold rCell; (try simp only [nI_clamp (show kq < 2147483648 by omega)]); rw [if_pos zp6, if_neg zc19, if_neg zp38]; all_goals (rfl)
        exact xj_ireturn rfl (nr_i _) (Nat.zero_le _) (Nat.zero_le _) dX12_cell_43 (qI_e (by rw [er]; exact ⟨rfl, C, fr.rf⟩))
    · refine xj_bipush (v := (-11)) (by decide) dX12_cell_22 ?_
      have er : rCell A (nI kq) i w = ((-11), A) := by unfold rCell; (try simp only [nI_clamp (show kq < 2147483648 by omega)]); rw [if_pos zp6, if_pos zc19]; all_goals (rfl)
      exact xj_ireturn rfl (nr_i _) (Nat.zero_le _) (Nat.zero_le _) dX12_cell_24 (qI_e (by rw [er]; exact ⟨rfl, C, fr.rf⟩))
  · have zp6 : ¬ (0 ≤ q ∧ q ≤ 3) := bI_0.mp zc6
    refine xj_bipush (v := (-2)) (by decide) dX12_cell_9 ?_
    have er : rCell A q i w = ((-2), A) := by unfold rCell; rw [if_neg zp6]; all_goals (rfl)
    exact xj_ireturn rfl (nr_i _) (Nat.zero_le _) (Nat.zero_le _) dX12_cell_11 (qI_e (by rw [er]; exact ⟨rfl, C, fr.rf⟩))
set_option maxHeartbeats 4000000 in
set_option maxRecDepth 100000 in
theorem c_X12_sleeper (l : Launch) (d : Nat) (n : Nat) (hn : 110 ≤ n) (g : xG) (A : zSt) (Λ : Nat → xL) (O : okA A) (C : mA g A Λ) (km pic dl : Int32)  : xC l yX12_sleeper cX12_sleeper 5 (some .int) (xR (d + 2) 0 0) [.ref 86, .int km, .int pic, .int dl] (n, fh g) (qI n fun v g1 => v = (rSleeper A km pic dl).1 ∧ mA g1 (rSleeper A km pic dl).2 Λ ∧ fr mX g g1) := by
  refine xC_of false (by decide +kernel) (fun z => by cases z) (Nat.le_of_ble_eq_true rfl) ?_
  have hS6 := O.1.2
  have hW := O.W
  have hT6 := O.2.2.2.1.2.2
  have hN9 := O.2.1.2
  show xJ l (RX12, 5, (some .int), false, (xR (d + 2) 0 0), none) cX12_sleeper _ 0 0 0 [(0, .ref 86), (1, .int km), (2, .int pic), (3, .int dl)] [] (n, fh g)
  refine xj_iload_n (n := 1) (i := 1) 1 rfl rfl dX12_sleeper_0 ?_
  refine xj_iconst (v := 0) (by decide) dX12_sleeper_1 ?_
  refine xj_bipush (v := 59) (by decide) dX12_sleeper_2 ?_
  refine xj_callS ks_X12_93 (c_X12_in l (d + 1) km 0 59 _) (As := [.int km, .int 0, .int 59]) (st := []) rfl rfl (xRm_of (by omega) (by decide) (by omega) (by omega)) (Nat.le_of_ble_eq_true rfl) dX12_sleeper_4 (yk_p (kc := 0) (ks := 0) ?_)
  refine xj_if_eq (tgt := 30) (by decide) dX12_sleeper_7 (fun zc7 => ?_) (fun zc7 => ?_)
  · have zp7 : ¬ (0 ≤ km ∧ km ≤ 59) := bI_0.mp zc7
    refine xj_bipush (v := (-2)) (by decide) dX12_sleeper_30 ?_
    have er : rSleeper A km pic dl = ((-2), A) := by unfold rSleeper; rw [if_neg zp7]; all_goals (rfl)
    exact xj_ireturn rfl (nr_i _) (Nat.zero_le _) (Nat.zero_le _) dX12_sleeper_32 (qI_e (by rw [er]; exact ⟨rfl, C, fr.rf⟩))
  · have zp7 : 0 ≤ km ∧ km ≤ 59 := bI_n0.mp zc7
    obtain ⟨kkm, hkkm, rfl⟩ := nI_bnd (m := 59) (by decide) zp7.1 zp7.2
    refine xj_iload_n (n := 2) (i := 2) 2 rfl rfl dX12_sleeper_10 ?_
    refine xj_iconst (v := 0) (by decide) dX12_sleeper_11 ?_
    refine xj_ldc cn_X12_186 dX12_sleeper_12 ?_
    refine xj_callS ks_X12_93 (c_X12_in l (d + 1) pic 0 65535 _) (As := [.int pic, .int 0, .int 65535]) (st := []) rfl rfl (xRm_of (by omega) (by decide) (by omega) (by omega)) (Nat.le_of_ble_eq_true rfl) dX12_sleeper_14 (yk_p (kc := 0) (ks := 0) ?_)
    refine xj_if_eq (tgt := 30) (by decide) dX12_sleeper_17 (fun zc17 => ?_) (fun zc17 => ?_)
    · have zp17 : ¬ (0 ≤ pic ∧ pic ≤ 65535) := bI_0.mp zc17
      refine xj_bipush (v := (-2)) (by decide) dX12_sleeper_30 ?_
      have er : rSleeper A (nI kkm) pic dl = ((-2), A) := by unfold rSleeper; (try simp only [nI_clamp (show kkm < 2147483648 by omega)]); rw [if_pos zp7, if_neg zp17]; all_goals (rfl)
      exact xj_ireturn rfl (nr_i _) (Nat.zero_le _) (Nat.zero_le _) dX12_sleeper_32 (qI_e (by rw [er]; exact ⟨rfl, C, fr.rf⟩))
    · have zp17 : 0 ≤ pic ∧ pic ≤ 65535 := bI_n0.mp zc17
      obtain ⟨kpic, hkpic, rfl⟩ := nI_bnd (m := 65535) (by decide) zp17.1 zp17.2
      refine xj_iload_n (n := 3) (i := 3) 3 rfl rfl dX12_sleeper_20 ?_
      refine xj_iconst (v := 0) (by decide) dX12_sleeper_21 ?_
      refine xj_bipush (v := 99) (by decide) dX12_sleeper_22 ?_
      refine xj_callS ks_X12_93 (c_X12_in l (d + 1) dl 0 99 _) (As := [.int dl, .int 0, .int 99]) (st := []) rfl rfl (xRm_of (by omega) (by decide) (by omega) (by omega)) (Nat.le_of_ble_eq_true rfl) dX12_sleeper_24 (yk_p (kc := 0) (ks := 0) ?_)
      refine xj_if_ne (tgt := 33) (by decide) dX12_sleeper_27 (fun zc27 => ?_) (fun zc27 => ?_)
      · have zp27 : 0 ≤ dl ∧ dl ≤ 99 := bI_n0.mp zc27
        obtain ⟨kdl, hkdl, rfl⟩ := nI_bnd (m := 99) (by decide) zp27.1 zp27.2
        refine xj_aload_n (n := 0) (i := 0) 0 rfl rfl dX12_sleeper_33 ?_
        refine yj_getf (v := .int (nI (aS A))) fl_X12_90_12 (by omega) (fq_86 g) (congrArg (fun z => some (Value.int z)) (C.S O)) dX12_sleeper_34 ?_
        refine xj_bipush (v := 6) (by decide) dX12_sleeper_37 ?_
        refine xj_icmp_ne (tgt := 45) (by decide) dX12_sleeper_39 (fun zc39 => ?_) (fun zc39 => ?_)
        · have hS7 : aS A < 6 := by have h := mt (nI_eq (b := 6) (by omega) (by decide)).mpr zc39; omega
          have hS8 : nI (aS A) < 6 := nI_lt hS7 (by decide)
          refine xj_aload_n (n := 0) (i := 0) 0 rfl rfl dX12_sleeper_45 ?_
          refine yj_getf (v := .ref 87) fl_X12_7_12 (by omega) (fq_86 g) rfl dX12_sleeper_46 ?_
          refine xj_aload_n (n := 0) (i := 0) 0 rfl rfl dX12_sleeper_49 ?_
          refine yj_getf (v := .int (nI (aS A))) fl_X12_90_12 (by omega) (fq_86 g) (congrArg (fun z => some (Value.int z)) (C.S O)) dX12_sleeper_50 ?_
          refine xj_iload_n (n := 1) (i := 1) 1 rfl rfl dX12_sleeper_53 ?_
          refine xj_bipush (v := 10) (by decide) dX12_sleeper_54 ?_
          refine xj_idiv (by decide) dX12_sleeper_56 ?_
          refine xj_topi (fun zv1 ezv1 => ?_)
          refine yj_iastN (aS A) (by omega) fA_87 rfl (by omega) (by decide) dX12_sleeper_57 ?_
          obtain ⟨zg2, ezg2⟩ : ∃ z, z = gs g 87 (aS A) zv1 := ⟨_, rfl⟩
          rw [← ezg2]
          refine xj_aload_n (n := 0) (i := 0) 0 rfl rfl dX12_sleeper_58 ?_
          refine yj_getf (v := .ref 88) fl_X12_13_12 (by omega) (fq_86 zg2) rfl dX12_sleeper_59 ?_
          refine xj_aload_n (n := 0) (i := 0) 0 rfl rfl dX12_sleeper_62 ?_
          refine yj_getf (v := .int (nI (aS A))) fl_X12_90_12 (by omega) (fq_86 zg2) (congrArg (fun z => some (Value.int z)) (by rw [ezg2, gs_n _ _ _ (by decide)]; exact C.S O)) dX12_sleeper_63 ?_
          refine xj_iload_n (n := 1) (i := 1) 1 rfl rfl dX12_sleeper_66 ?_
          refine xj_bipush (v := 10) (by decide) dX12_sleeper_67 ?_
          refine xj_irem (by decide) dX12_sleeper_69 ?_
          refine xj_topi (fun zv3 ezv3 => ?_)
          refine yj_iastN (aS A) (by omega) fA_88 rfl (by omega) (by decide) dX12_sleeper_70 ?_
          obtain ⟨zg4, ezg4⟩ : ∃ z, z = gs zg2 88 (aS A) zv3 := ⟨_, rfl⟩
          rw [← ezg4]
          refine xj_aload_n (n := 0) (i := 0) 0 rfl rfl dX12_sleeper_71 ?_
          refine yj_getf (v := .ref 90) fl_X12_19_12 (by omega) (fq_86 zg4) rfl dX12_sleeper_72 ?_
          refine xj_aload_n (n := 0) (i := 0) 0 rfl rfl dX12_sleeper_75 ?_
          refine yj_getf (v := .int (nI (aS A))) fl_X12_90_12 (by omega) (fq_86 zg4) (congrArg (fun z => some (Value.int z)) (by rw [ezg4, gs_n _ _ _ (by decide), ezg2, gs_n _ _ _ (by decide)]; exact C.S O)) dX12_sleeper_76 ?_
          refine xj_iload_n (n := 2) (i := 2) 2 rfl rfl dX12_sleeper_79 ?_
          refine yj_iastN (aS A) (by omega) fA_90 rfl (by omega) (by decide) dX12_sleeper_80 ?_
          obtain ⟨zg5, ezg5⟩ : ∃ z, z = gs zg4 90 (aS A) (nI kpic) := ⟨_, rfl⟩
          rw [← ezg5]
          refine xj_iconst (v := 0) (by decide) dX12_sleeper_81 ?_
          refine xj_istore (i := 4) (lv1 := [(4, .int 0), (0, .ref 86), (1, .int (nI kkm)), (2, .int (nI kpic)), (3, .int (nI kdl))]) rfl (Nat.le_of_ble_eq_true rfl) dX12_sleeper_82 ?_
          have key : ∀ i, i ≤ 16 → ∀ (g1 : xG), fr (fun j => j = 89) zg5 g1 → (∀ j, j < i → g1 89 (16 * aS A + j) = nI kdl) → (∀ j, j < 16 * aS A → g1 89 j = g 89 j) → xJ l (RX12, 5, (some .int), false, (xR (d + 2) 0 0), none) cX12_sleeper (qI n fun v g1 => v = (rSleeper A (nI kkm) (nI kpic) (nI kdl)).1 ∧ mA g1 (rSleeper A (nI kkm) (nI kpic) (nI kdl)).2 Λ ∧ fr mX g g1) 0 0 84 [(4, .int (nI i)), (0, .ref 86), (1, .int (nI kkm)), (2, .int (nI kpic)), (3, .int (nI kdl))] [] (n, fh g1) := by
            refine x_loop 16 _ ?_ ?_
            · intro g1 hf hz hy
              refine xj_iload (i := 4) 0 rfl dX12_sleeper_84 ?_
              refine xj_bipush (v := 16) (by decide) dX12_sleeper_86 ?_
              refine xj_icmp_ge (tgt := 113) (by decide) dX12_sleeper_88 (fun zc88 => ?_) (fun zc88 => ?_)
              · refine xj_aload_n (n := 0) (i := 0) 1 rfl rfl dX12_sleeper_113 ?_
                refine xj_dup rfl dX12_sleeper_114 ?_
                refine yj_getf (v := .int (nI (aS A))) fl_X12_90_12 (by omega) (fq_86 g1) (congrArg (fun z => some (Value.int z)) (by rw [hf 86 (by decide), ezg5, gs_n _ _ _ (by decide), ezg4, gs_n _ _ _ (by decide), ezg2, gs_n _ _ _ (by decide)]; exact C.S O)) dX12_sleeper_115 ?_
                refine xj_iconst (v := 1) (by decide) dX12_sleeper_118 ?_
                refine xj_iadd dX12_sleeper_119 ?_
                refine xj_top (nI_add (aS A) 1) ?_
                refine yj_puti fl_X12_90_12 (by omega) fS_86_0 (fi_i _) dX12_sleeper_120 ?_
                obtain ⟨zg6, ezg6⟩ : ∃ z, z = gs g1 86 0 (nI ((aS A) + 1)) := ⟨_, rfl⟩
                rw [← ezg6]
                refine xj_aload_n (n := 0) (i := 0) 1 rfl rfl dX12_sleeper_123 ?_
                refine yj_getf (v := .int (nI ((aS A) + 1))) fl_X12_90_12 (by omega) (fq_86 zg6) (congrArg (fun z => some (Value.int z)) (by rw [ezg6, gs_s, upd_s])) dX12_sleeper_124 ?_
                refine xj_iconst (v := 1) (by decide) dX12_sleeper_127 ?_
                refine xj_isub dX12_sleeper_128 ?_
                refine xj_top (nI_pred _) ?_
                have er : rSleeper A (nI kkm) (nI kpic) (nI kdl) = ((nI (aS A)), stSl A (nI (kkm / 10)) (nI (kkm % 10)) (nI kpic) (nI kdl)) := by unfold rSleeper; (try simp only [nI_clamp (show kkm < 2147483648 by omega), nI_clamp (show kpic < 2147483648 by omega), nI_clamp (show kdl < 2147483648 by omega)]); rw [if_pos zp7, if_pos zp17, if_pos zp27, if_pos hS8]; all_goals (rfl)
                exact xj_ireturn rfl (nr_i _) (Nat.zero_le _) (Nat.zero_le _) dX12_sleeper_129 (qI_e (by rw [er]; exact ⟨rfl, (C.slp O ⟨by rw [ezg6, gs_s, upd_s], fun j h1 h2 => by rw [ezg6, gs_s, upd_n _ _ (by omega), hf 86 (by decide), ezg5, gs_n _ _ _ (by decide), ezg4, gs_n _ _ _ (by decide), ezg2, gs_n _ _ _ (by decide)]⟩ (by rw [ezg6, gs_n _ _ _ (by decide), hf 87 (by decide), ezg5, gs_n _ _ _ (by decide), ezg4, gs_n _ _ _ (by decide), ezg2, gs_s, ezv1, pk_d10 (by omega)]) (by rw [ezg6, gs_n _ _ _ (by decide), hf 88 (by decide), ezg5, gs_n _ _ _ (by decide), ezg4, gs_s, ezg2, gs_n _ _ _ (by decide), ezv3, pk_r10 (by omega)]) (by rw [ezg6, gs_n _ _ _ (by decide), hf 90 (by decide), ezg5, gs_s, ezg4, gs_n _ _ _ (by decide), ezg2, gs_n _ _ _ (by decide)]) (fun i hi => by rw [ezg6, gs_n _ _ _ (by decide)]; exact hz i hi) (fun j hj => by rw [ezg6, gs_n _ _ _ (by decide)]; exact hy j hj) (fun j h1 h2 => by rw [ezg6, gs_n _ _ _ (by omega), hf j (by omega), ezg5, gs_n _ _ _ (by omega), ezg4, gs_n _ _ _ (by omega), ezg2, gs_n _ _ _ (by omega)])), (fun j hj => by unfold mX at hj; rw [ezg6, gs_n _ _ _ (by omega), hf j (by omega), ezg5, gs_n _ _ _ (by omega), ezg4, gs_n _ _ _ (by omega), ezg2, gs_n _ _ _ (by omega)])⟩))
              · exact absurd (nI_le (Nat.le_refl _) (by decide)) zc88
            · intro i hi ih g1 hf hz hy
              refine xj_iload (i := 4) 0 rfl dX12_sleeper_84 ?_
              refine xj_bipush (v := 16) (by decide) dX12_sleeper_86 ?_
              refine xj_icmp_ge (tgt := 113) (by decide) dX12_sleeper_88 (fun zc88 => ?_) (fun zc88 => ?_)
              · exact absurd zc88 (nI_ge hi (by decide))
              · refine xj_aload_n (n := 0) (i := 0) 1 rfl rfl dX12_sleeper_91 ?_
                refine yj_getf (v := .ref 89) fl_X12_16_12 (by omega) (fq_86 g1) rfl dX12_sleeper_92 ?_
                refine xj_bipush (v := 16) (by decide) dX12_sleeper_95 ?_
                refine xj_aload_n (n := 0) (i := 0) 1 rfl rfl dX12_sleeper_97 ?_
                refine yj_getf (v := .int (nI (aS A))) fl_X12_90_12 (by omega) (fq_86 g1) (congrArg (fun z => some (Value.int z)) (by rw [hf 86 (by decide), ezg5, gs_n _ _ _ (by decide), ezg4, gs_n _ _ _ (by decide), ezg2, gs_n _ _ _ (by decide)]; exact C.S O)) dX12_sleeper_98 ?_
                refine xj_imul dX12_sleeper_101 ?_
                refine xj_top (pk_mul 16 (aS A)) ?_
                refine xj_iload (i := 4) 0 rfl dX12_sleeper_102 ?_
                refine xj_iadd dX12_sleeper_104 ?_
                refine xj_top (nI_add _ _) ?_
                refine xj_iload_n (n := 3) (i := 3) 4 rfl rfl dX12_sleeper_105 ?_
                refine yj_iastN ((16 * (aS A)) + i) (by omega) fA_89 rfl (by omega) (by decide) dX12_sleeper_106 ?_
                obtain ⟨zg7, ezg7⟩ : ∃ z, z = gs g1 89 ((16 * (aS A)) + i) (nI kdl) := ⟨_, rfl⟩
                rw [← ezg7]
                refine xj_iinc (n := 1) (i := 4) (v := nI (i + 1)) (lv1 := [(4, .int (nI (i + 1))), (0, .ref 86), (1, .int (nI kkm)), (2, .int (nI kpic)), (3, .int (nI kdl))]) 0 rfl (nI_1 i) rfl (Nat.le_of_ble_eq_true rfl) dX12_sleeper_107 ?_
                refine xj_goto (tgt := 84) (by decide) dX12_sleeper_110 ?_
                refine xj_sub (lv' := [(4, .int (nI (i + 1))), (0, .ref 86), (1, .int (nI kkm)), (2, .int (nI kpic)), (3, .int (nI kdl))]) [0, 1, 2, 3, 4] rfl ?_
                refine ih zg7 (by rw [ezg7]; exact hf.gs rfl _ _) (fun j hj => ?_) (fun j hj => ?_)
                · rw [ezg7, gs_s]; by_cases e : j = i; (subst e; rw [upd_s]); (rw [upd_n _ _ (by omega)]; exact hz j (by omega))
                · rw [ezg7, gs_s, upd_n _ _ (by omega)]; exact hy j hj
          refine xj_sub (lv' := [(4, .int 0), (0, .ref 86), (1, .int (nI kkm)), (2, .int (nI kpic)), (3, .int (nI kdl))]) [0, 1, 2, 3, 4] rfl ?_
          exact key 0 (Nat.zero_le _) zg5 fr.rf (fun j hj => absurd hj (Nat.not_lt_zero j)) (fun j _ => by rw [ezg5, gs_n _ _ _ (by decide), ezg4, gs_n _ _ _ (by decide), ezg2, gs_n _ _ _ (by decide)])
        · have hS8 : ¬ nI (aS A) < 6 := fun z => by have h1 := (nI_ltI (b := 6) (by omega) (by decide)).mp z; have h2 := (nI_eq (b := 6) (by omega) (by decide)).mp zc39; omega
          refine xj_bipush (v := (-4)) (by decide) dX12_sleeper_42 ?_
          have er : rSleeper A (nI kkm) (nI kpic) (nI kdl) = ((-4), A) := by unfold rSleeper; (try simp only [nI_clamp (show kkm < 2147483648 by omega), nI_clamp (show kpic < 2147483648 by omega), nI_clamp (show kdl < 2147483648 by omega)]); rw [if_pos zp7, if_pos zp17, if_pos zp27, if_neg hS8]; all_goals (rfl)
          exact xj_ireturn rfl (nr_i _) (Nat.zero_le _) (Nat.zero_le _) dX12_sleeper_44 (qI_e (by rw [er]; exact ⟨rfl, C, fr.rf⟩))
      · have zp27 : ¬ (0 ≤ dl ∧ dl ≤ 99) := bI_0.mp zc27
        refine xj_bipush (v := (-2)) (by decide) dX12_sleeper_30 ?_
        have er : rSleeper A (nI kkm) (nI kpic) dl = ((-2), A) := by unfold rSleeper; (try simp only [nI_clamp (show kkm < 2147483648 by omega), nI_clamp (show kpic < 2147483648 by omega)]); rw [if_pos zp7, if_pos zp17, if_neg zp27]; all_goals (rfl)
        exact xj_ireturn rfl (nr_i _) (Nat.zero_le _) (Nat.zero_le _) dX12_sleeper_32 (qI_e (by rw [er]; exact ⟨rfl, C, fr.rf⟩))
set_option maxHeartbeats 4000000 in
set_option maxRecDepth 100000 in
theorem c_X12_feed (l : Launch) (d : Nat) (n : Nat) (hn : 110 ≤ n) (g : xG) (A : zSt) (Λ : Nat → xL) (O : okA A) (C : mA g A Λ) (n1 a b c e f : Int32)  : xC l yX12_feed cX12_feed 8 (some .int) (xR (d + 2) 0 0) [.ref 86, .int n1, .int a, .int b, .int c, .int e, .int f] (n, fh g) (qI n fun v g1 => v = (rFeed A n1 a b c e f).1 ∧ mA g1 (rFeed A n1 a b c e f).2 Λ ∧ fr mX g g1) := by
  refine xC_of false (by decide +kernel) (fun z => by cases z) (Nat.le_of_ble_eq_true rfl) ?_
  have hS6 := O.1.2
  have hW := O.W
  have hT6 := O.2.2.2.1.2.2
  have hN9 := O.2.1.2
  show xJ l (RX12, 8, (some .int), false, (xR (d + 2) 0 0), none) cX12_feed _ 0 0 0 [(0, .ref 86), (1, .int n1), (2, .int a), (3, .int b), (4, .int c), (5, .int e), (6, .int f)] [] (n, fh g)
  refine xj_iload_n (n := 1) (i := 1) 1 rfl rfl dX12_feed_0 ?_
  refine xj_iconst (v := 1) (by decide) dX12_feed_1 ?_
  refine xj_iconst (v := 5) (by decide) dX12_feed_2 ?_
  refine xj_callS ks_X12_93 (c_X12_in l (d + 1) n1 1 5 _) (As := [.int n1, .int 1, .int 5]) (st := []) rfl rfl (xRm_of (by omega) (by decide) (by omega) (by omega)) (Nat.le_of_ble_eq_true rfl) dX12_feed_3 (yk_p (kc := 0) (ks := 0) ?_)
  refine xj_if_eq (tgt := 47) (by decide) dX12_feed_6 (fun zc6 => ?_) (fun zc6 => ?_)
  · have zp6 : ¬ (1 ≤ n1 ∧ n1 ≤ 5) := bI_0.mp zc6
    refine xj_bipush (v := (-2)) (by decide) dX12_feed_47 ?_
    have er : rFeed A n1 a b c e f = (-2, A) := rFeed_no (fun z => zp6 z.1)
    exact xj_ireturn rfl (nr_i _) (Nat.zero_le _) (Nat.zero_le _) dX12_feed_49 (qI_e (by rw [er]; exact ⟨rfl, C, fr.rf⟩))
  · have zp6 : 1 ≤ n1 ∧ n1 ≤ 5 := bI_n0.mp zc6
    refine xj_iload_n (n := 2) (i := 2) 2 rfl rfl dX12_feed_9 ?_
    refine xj_callS ks_X12_106 (c_X12_isByte l (d + 0) a _) (As := [.int a]) (st := []) rfl rfl (xRm_of (by omega) (by decide) (by omega) (by omega)) (Nat.le_of_ble_eq_true rfl) dX12_feed_10 (yk_p (kc := 0) (ks := 0) ?_)
    refine xj_if_eq (tgt := 47) (by decide) dX12_feed_13 (fun zc13 => ?_) (fun zc13 => ?_)
    · have zp13 : ¬ (0 ≤ a ∧ a ≤ 255) := bI_0.mp zc13
      refine xj_bipush (v := (-2)) (by decide) dX12_feed_47 ?_
      have er : rFeed A n1 a b c e f = (-2, A) := rFeed_no (fun z => zp13 z.2.1)
      exact xj_ireturn rfl (nr_i _) (Nat.zero_le _) (Nat.zero_le _) dX12_feed_49 (qI_e (by rw [er]; exact ⟨rfl, C, fr.rf⟩))
    · have zp13 : 0 ≤ a ∧ a ≤ 255 := bI_n0.mp zc13
      refine xj_iload_n (n := 3) (i := 3) 3 rfl rfl dX12_feed_16 ?_
      refine xj_callS ks_X12_106 (c_X12_isByte l (d + 0) b _) (As := [.int b]) (st := []) rfl rfl (xRm_of (by omega) (by decide) (by omega) (by omega)) (Nat.le_of_ble_eq_true rfl) dX12_feed_17 (yk_p (kc := 0) (ks := 0) ?_)
      refine xj_if_eq (tgt := 47) (by decide) dX12_feed_20 (fun zc20 => ?_) (fun zc20 => ?_)
      · have zp20 : ¬ (0 ≤ b ∧ b ≤ 255) := bI_0.mp zc20
        refine xj_bipush (v := (-2)) (by decide) dX12_feed_47 ?_
        have er : rFeed A n1 a b c e f = (-2, A) := rFeed_no (fun z => zp20 z.2.2.1)
        exact xj_ireturn rfl (nr_i _) (Nat.zero_le _) (Nat.zero_le _) dX12_feed_49 (qI_e (by rw [er]; exact ⟨rfl, C, fr.rf⟩))
      · have zp20 : 0 ≤ b ∧ b ≤ 255 := bI_n0.mp zc20
        refine xj_iload (i := 4) 4 rfl dX12_feed_23 ?_
        refine xj_callS ks_X12_106 (c_X12_isByte l (d + 0) c _) (As := [.int c]) (st := []) rfl rfl (xRm_of (by omega) (by decide) (by omega) (by omega)) (Nat.le_of_ble_eq_true rfl) dX12_feed_25 (yk_p (kc := 0) (ks := 0) ?_)
        refine xj_if_eq (tgt := 47) (by decide) dX12_feed_28 (fun zc28 => ?_) (fun zc28 => ?_)
        · have zp28 : ¬ (0 ≤ c ∧ c ≤ 255) := bI_0.mp zc28
          refine xj_bipush (v := (-2)) (by decide) dX12_feed_47 ?_
          have er : rFeed A n1 a b c e f = (-2, A) := rFeed_no (fun z => zp28 z.2.2.2.1)
          exact xj_ireturn rfl (nr_i _) (Nat.zero_le _) (Nat.zero_le _) dX12_feed_49 (qI_e (by rw [er]; exact ⟨rfl, C, fr.rf⟩))
        · have zp28 : 0 ≤ c ∧ c ≤ 255 := bI_n0.mp zc28
          refine xj_iload (i := 5) 5 rfl dX12_feed_31 ?_
          refine xj_callS ks_X12_106 (c_X12_isByte l (d + 0) e _) (As := [.int e]) (st := []) rfl rfl (xRm_of (by omega) (by decide) (by omega) (by omega)) (Nat.le_of_ble_eq_true rfl) dX12_feed_33 (yk_p (kc := 0) (ks := 0) ?_)
          refine xj_if_eq (tgt := 47) (by decide) dX12_feed_36 (fun zc36 => ?_) (fun zc36 => ?_)
          · have zp36 : ¬ (0 ≤ e ∧ e ≤ 255) := bI_0.mp zc36
            refine xj_bipush (v := (-2)) (by decide) dX12_feed_47 ?_
            have er : rFeed A n1 a b c e f = (-2, A) := rFeed_no (fun z => zp36 z.2.2.2.2.1)
            exact xj_ireturn rfl (nr_i _) (Nat.zero_le _) (Nat.zero_le _) dX12_feed_49 (qI_e (by rw [er]; exact ⟨rfl, C, fr.rf⟩))
          · have zp36 : 0 ≤ e ∧ e ≤ 255 := bI_n0.mp zc36
            refine xj_iload (i := 6) 6 rfl dX12_feed_39 ?_
            refine xj_callS ks_X12_106 (c_X12_isByte l (d + 0) f _) (As := [.int f]) (st := []) rfl rfl (xRm_of (by omega) (by decide) (by omega) (by omega)) (Nat.le_of_ble_eq_true rfl) dX12_feed_41 (yk_p (kc := 0) (ks := 0) ?_)
            refine xj_if_ne (tgt := 50) (by decide) dX12_feed_44 (fun zc44 => ?_) (fun zc44 => ?_)
            · have zp44 : 0 ≤ f ∧ f ≤ 255 := bI_n0.mp zc44
              have hin := in15 zp6
              rcases feed_n hin.1 hin.2 with rfl | rfl | rfl | rfl | rfl
              · refine xj_aload_n (n := 0) (i := 0) 0 rfl rfl dX12_feed_50 ?_
                refine yj_getf (v := .int (nI (aZ A))) fl_X12_83_12 (by omega) (fq_86 g) (congrArg (fun z => some (Value.int z)) (C.Z O)) dX12_feed_51 ?_
                refine xj_iload_n (n := 1) (i := 1) 1 rfl rfl dX12_feed_54 ?_
                refine xj_iadd dX12_feed_55 ?_
                refine xj_top (nI_add _ _) ?_
                refine xj_sipush (v := 160) (by decide) dX12_feed_56 ?_
                refine xj_icmp_le (tgt := 65) (by decide) dX12_feed_59 (fun zc59 => ?_) (fun zc59 => ?_)
                · have hz9 : aZ A + 1 ≤ 160 := (nI_leI (b := 160) (by have := O.2.2.2.2.2.1.2; omega) (by decide)).mp zc59
                  have hZ0 : aZ A = aZ A + 0 := rfl
                  refine xj_iconst (v := 0) (by decide) dX12_feed_65 ?_
                  refine xj_top (show (0 : Int32) = nI 0 from rfl) ?_
                  refine xj_istore (i := 7) (lv1 := [(7, .int (nI 0)), (0, .ref 86), (1, .int (nI 1)), (2, .int a), (3, .int b), (4, .int c), (5, .int e), (6, .int f)]) rfl (Nat.le_of_ble_eq_true rfl) dX12_feed_66 ?_
                  refine xj_iload (i := 7) 0 rfl dX12_feed_68 ?_
                  refine xj_iload_n (n := 1) (i := 1) 2 rfl rfl dX12_feed_70 ?_
                  refine xj_icmp_ge (tgt := 142) (by decide) dX12_feed_71 (fun zc71 => ?_) (fun zc71 => ?_)
                  · exact absurd zc71 (by decide)
                  · refine xj_aload_n (n := 0) (i := 0) 1 rfl rfl dX12_feed_74 ?_
                    refine yj_getf (v := .ref 91) fl_X12_26_12 (by omega) (fq_86 g) rfl dX12_feed_75 ?_
                    refine xj_aload_n (n := 0) (i := 0) 1 rfl rfl dX12_feed_78 ?_
                    refine yj_getf (v := .int (nI (aZ A))) fl_X12_83_12 (by omega) (fq_86 g) (congrArg (fun z => some (Value.int z)) (C.Z O)) dX12_feed_79 ?_
                    refine xj_iload (i := 7) 0 rfl dX12_feed_82 ?_
                    refine xj_if_ne (tgt := 91) (by decide) dX12_feed_84 (fun zc84 => ?_) (fun zc84 => ?_)
                    · exact absurd zc84 (fun z => z rfl)
                    · refine xj_iload_n (n := 2) (i := 2) 3 rfl rfl dX12_feed_87 ?_
                      refine xj_goto (tgt := 125) (by decide) dX12_feed_88 ?_
                      refine yj_iastN (aZ A) (by omega) fA_91 rfl (by omega) (by decide) dX12_feed_125 ?_
                      obtain ⟨zg1, ezg1⟩ : ∃ z, z = gs g 91 (aZ A) a := ⟨_, rfl⟩
                      rw [← ezg1]
                      refine xj_aload_n (n := 0) (i := 0) 1 rfl rfl dX12_feed_126 ?_
                      refine xj_dup rfl dX12_feed_127 ?_
                      refine yj_getf (v := .int (nI (aZ A))) fl_X12_83_12 (by omega) (fq_86 zg1) (congrArg (fun z => some (Value.int z)) (by rw [ezg1, gs_n _ _ _ (by decide)]; exact C.Z O)) dX12_feed_128 ?_
                      refine xj_iconst (v := 1) (by decide) dX12_feed_131 ?_
                      refine xj_iadd dX12_feed_132 ?_
                      refine xj_top (nI_add (aZ A) 1) ?_
                      refine yj_puti fl_X12_83_12 (by omega) fS_86_8 (fi_i _) dX12_feed_133 ?_
                      obtain ⟨zg2, ezg2⟩ : ∃ z, z = gs zg1 86 8 (nI ((aZ A) + 1)) := ⟨_, rfl⟩
                      rw [← ezg2]
                      have Czg2 : mA zg2 (stTp A a) Λ := C.tap O a (by rw [ezg2, ezg1])
                      have Ozg2 := okA.tap O a (by omega)
                      have hZ1 := stTp_Z2 O hZ0 a
                      refine xj_iinc (n := 1) (i := 7) (v := nI 1) (lv1 := [(7, .int (nI 1)), (0, .ref 86), (1, .int (nI 1)), (2, .int a), (3, .int b), (4, .int c), (5, .int e), (6, .int f)]) 0 rfl (nI_1 0) rfl (Nat.le_of_ble_eq_true rfl) dX12_feed_136 ?_
                      refine xj_goto (tgt := 68) (by decide) dX12_feed_139 ?_
                      refine xj_iload (i := 7) 0 rfl dX12_feed_68 ?_
                      refine xj_iload_n (n := 1) (i := 1) 2 rfl rfl dX12_feed_70 ?_
                      refine xj_icmp_ge (tgt := 142) (by decide) dX12_feed_71 (fun zc71 => ?_) (fun zc71 => ?_)
                      · refine xj_aload_n (n := 0) (i := 0) 1 rfl rfl dX12_feed_142 ?_
                        refine yj_getf (v := .int (nI (aZ (stTp A a)))) fl_X12_83_12 (by omega) (fq_86 zg2) (congrArg (fun z => some (Value.int z)) (Czg2.Z Ozg2)) dX12_feed_143 ?_
                        have er : rFeed A (nI 1) a b c e f = ((nI (aZ (stTp A a))), (stTp A a)) := by unfold rFeed; (try simp only [nI_clamp (show 1 < 2147483648 by omega)]); rw [if_pos zp13, if_pos zp20, if_pos zp28, if_pos zp36, if_pos zp44, if_neg hin.1, if_neg hin.2, if_pos zc59]; all_goals ((first | rfl | (rw [nI_clamp (by decide)]; rfl)))
                        exact xj_ireturn rfl (nr_i _) (Nat.zero_le _) (Nat.zero_le _) dX12_feed_146 (qI_e (by rw [er]; exact ⟨rfl, Czg2, (fun j hj => by unfold mX at hj; rw [ezg2, gs_n _ _ _ (by omega), ezg1, gs_n _ _ _ (by omega)])⟩))
                      · exact absurd (by decide) zc71
                · refine xj_bipush (v := (-4)) (by decide) dX12_feed_62 ?_
                  have er : rFeed A (nI 1) a b c e f = ((-4), A) := by unfold rFeed; (try simp only [nI_clamp (show 1 < 2147483648 by omega)]); rw [if_pos zp13, if_pos zp20, if_pos zp28, if_pos zp36, if_pos zp44, if_neg hin.1, if_neg hin.2, if_neg zc59]; all_goals (rfl)
                  exact xj_ireturn rfl (nr_i _) (Nat.zero_le _) (Nat.zero_le _) dX12_feed_64 (qI_e (by rw [er]; exact ⟨rfl, C, fr.rf⟩))
              · refine xj_aload_n (n := 0) (i := 0) 0 rfl rfl dX12_feed_50 ?_
                refine yj_getf (v := .int (nI (aZ A))) fl_X12_83_12 (by omega) (fq_86 g) (congrArg (fun z => some (Value.int z)) (C.Z O)) dX12_feed_51 ?_
                refine xj_iload_n (n := 1) (i := 1) 1 rfl rfl dX12_feed_54 ?_
                refine xj_iadd dX12_feed_55 ?_
                refine xj_top (nI_add _ _) ?_
                refine xj_sipush (v := 160) (by decide) dX12_feed_56 ?_
                refine xj_icmp_le (tgt := 65) (by decide) dX12_feed_59 (fun zc59 => ?_) (fun zc59 => ?_)
                · have hz9 : aZ A + 2 ≤ 160 := (nI_leI (b := 160) (by have := O.2.2.2.2.2.1.2; omega) (by decide)).mp zc59
                  have hZ0 : aZ A = aZ A + 0 := rfl
                  refine xj_iconst (v := 0) (by decide) dX12_feed_65 ?_
                  refine xj_top (show (0 : Int32) = nI 0 from rfl) ?_
                  refine xj_istore (i := 7) (lv1 := [(7, .int (nI 0)), (0, .ref 86), (1, .int (nI 2)), (2, .int a), (3, .int b), (4, .int c), (5, .int e), (6, .int f)]) rfl (Nat.le_of_ble_eq_true rfl) dX12_feed_66 ?_
                  refine xj_iload (i := 7) 0 rfl dX12_feed_68 ?_
                  refine xj_iload_n (n := 1) (i := 1) 2 rfl rfl dX12_feed_70 ?_
                  refine xj_icmp_ge (tgt := 142) (by decide) dX12_feed_71 (fun zc71 => ?_) (fun zc71 => ?_)
                  · exact absurd zc71 (by decide)
                  · refine xj_aload_n (n := 0) (i := 0) 1 rfl rfl dX12_feed_74 ?_
                    refine yj_getf (v := .ref 91) fl_X12_26_12 (by omega) (fq_86 g) rfl dX12_feed_75 ?_
                    refine xj_aload_n (n := 0) (i := 0) 1 rfl rfl dX12_feed_78 ?_
                    refine yj_getf (v := .int (nI (aZ A))) fl_X12_83_12 (by omega) (fq_86 g) (congrArg (fun z => some (Value.int z)) (C.Z O)) dX12_feed_79 ?_
                    refine xj_iload (i := 7) 0 rfl dX12_feed_82 ?_
                    refine xj_if_ne (tgt := 91) (by decide) dX12_feed_84 (fun zc84 => ?_) (fun zc84 => ?_)
                    · exact absurd zc84 (fun z => z rfl)
                    · refine xj_iload_n (n := 2) (i := 2) 3 rfl rfl dX12_feed_87 ?_
                      refine xj_goto (tgt := 125) (by decide) dX12_feed_88 ?_
                      refine yj_iastN (aZ A) (by omega) fA_91 rfl (by omega) (by decide) dX12_feed_125 ?_
                      obtain ⟨zg3, ezg3⟩ : ∃ z, z = gs g 91 (aZ A) a := ⟨_, rfl⟩
                      rw [← ezg3]
                      refine xj_aload_n (n := 0) (i := 0) 1 rfl rfl dX12_feed_126 ?_
                      refine xj_dup rfl dX12_feed_127 ?_
                      refine yj_getf (v := .int (nI (aZ A))) fl_X12_83_12 (by omega) (fq_86 zg3) (congrArg (fun z => some (Value.int z)) (by rw [ezg3, gs_n _ _ _ (by decide)]; exact C.Z O)) dX12_feed_128 ?_
                      refine xj_iconst (v := 1) (by decide) dX12_feed_131 ?_
                      refine xj_iadd dX12_feed_132 ?_
                      refine xj_top (nI_add (aZ A) 1) ?_
                      refine yj_puti fl_X12_83_12 (by omega) fS_86_8 (fi_i _) dX12_feed_133 ?_
                      obtain ⟨zg4, ezg4⟩ : ∃ z, z = gs zg3 86 8 (nI ((aZ A) + 1)) := ⟨_, rfl⟩
                      rw [← ezg4]
                      have Czg4 : mA zg4 (stTp A a) Λ := C.tap O a (by rw [ezg4, ezg3])
                      have Ozg4 := okA.tap O a (by omega)
                      have hZ1 := stTp_Z2 O hZ0 a
                      refine xj_iinc (n := 1) (i := 7) (v := nI 1) (lv1 := [(7, .int (nI 1)), (0, .ref 86), (1, .int (nI 2)), (2, .int a), (3, .int b), (4, .int c), (5, .int e), (6, .int f)]) 0 rfl (nI_1 0) rfl (Nat.le_of_ble_eq_true rfl) dX12_feed_136 ?_
                      refine xj_goto (tgt := 68) (by decide) dX12_feed_139 ?_
                      refine xj_iload (i := 7) 0 rfl dX12_feed_68 ?_
                      refine xj_iload_n (n := 1) (i := 1) 2 rfl rfl dX12_feed_70 ?_
                      refine xj_icmp_ge (tgt := 142) (by decide) dX12_feed_71 (fun zc71 => ?_) (fun zc71 => ?_)
                      · exact absurd zc71 (by decide)
                      · refine xj_aload_n (n := 0) (i := 0) 1 rfl rfl dX12_feed_74 ?_
                        refine yj_getf (v := .ref 91) fl_X12_26_12 (by omega) (fq_86 zg4) rfl dX12_feed_75 ?_
                        refine xj_aload_n (n := 0) (i := 0) 1 rfl rfl dX12_feed_78 ?_
                        refine yj_getf (v := .int (nI (aZ (stTp A a)))) fl_X12_83_12 (by omega) (fq_86 zg4) (congrArg (fun z => some (Value.int z)) (Czg4.Z Ozg4)) dX12_feed_79 ?_
                        refine xj_iload (i := 7) 0 rfl dX12_feed_82 ?_
                        refine xj_if_ne (tgt := 91) (by decide) dX12_feed_84 (fun zc84 => ?_) (fun zc84 => ?_)
                        · refine xj_iload (i := 7) 0 rfl dX12_feed_91 ?_
                          refine xj_iconst (v := 1) (by decide) dX12_feed_93 ?_
                          refine xj_icmp_ne (tgt := 101) (by decide) dX12_feed_94 (fun zc94 => ?_) (fun zc94 => ?_)
                          · exact absurd zc94 (fun z => z rfl)
                          · refine xj_iload_n (n := 3) (i := 3) 4 rfl rfl dX12_feed_97 ?_
                            refine xj_goto (tgt := 125) (by decide) dX12_feed_98 ?_
                            refine yj_iastN (aZ (stTp A a)) (by omega) fA_91 rfl (by omega) (by decide) dX12_feed_125 ?_
                            obtain ⟨zg5, ezg5⟩ : ∃ z, z = gs zg4 91 (aZ (stTp A a)) b := ⟨_, rfl⟩
                            rw [← ezg5]
                            refine xj_aload_n (n := 0) (i := 0) 1 rfl rfl dX12_feed_126 ?_
                            refine xj_dup rfl dX12_feed_127 ?_
                            refine yj_getf (v := .int (nI (aZ (stTp A a)))) fl_X12_83_12 (by omega) (fq_86 zg5) (congrArg (fun z => some (Value.int z)) (by rw [ezg5, gs_n _ _ _ (by decide)]; exact Czg4.Z Ozg4)) dX12_feed_128 ?_
                            refine xj_iconst (v := 1) (by decide) dX12_feed_131 ?_
                            refine xj_iadd dX12_feed_132 ?_
                            refine xj_top (nI_add (aZ (stTp A a)) 1) ?_
                            refine yj_puti fl_X12_83_12 (by omega) fS_86_8 (fi_i _) dX12_feed_133 ?_
                            obtain ⟨zg6, ezg6⟩ : ∃ z, z = gs zg5 86 8 (nI ((aZ (stTp A a)) + 1)) := ⟨_, rfl⟩
                            rw [← ezg6]
                            have Czg6 : mA zg6 (stTp (stTp A a) b) Λ := Czg4.tap Ozg4 b (by rw [ezg6, ezg5])
                            have Ozg6 := okA.tap Ozg4 b (by omega)
                            have hZ2 := stTp_Z2 Ozg4 hZ1 b
                            refine xj_iinc (n := 1) (i := 7) (v := nI 2) (lv1 := [(7, .int (nI 2)), (0, .ref 86), (1, .int (nI 2)), (2, .int a), (3, .int b), (4, .int c), (5, .int e), (6, .int f)]) 0 rfl (nI_1 1) rfl (Nat.le_of_ble_eq_true rfl) dX12_feed_136 ?_
                            refine xj_goto (tgt := 68) (by decide) dX12_feed_139 ?_
                            refine xj_iload (i := 7) 0 rfl dX12_feed_68 ?_
                            refine xj_iload_n (n := 1) (i := 1) 2 rfl rfl dX12_feed_70 ?_
                            refine xj_icmp_ge (tgt := 142) (by decide) dX12_feed_71 (fun zc71 => ?_) (fun zc71 => ?_)
                            · refine xj_aload_n (n := 0) (i := 0) 1 rfl rfl dX12_feed_142 ?_
                              refine yj_getf (v := .int (nI (aZ (stTp (stTp A a) b)))) fl_X12_83_12 (by omega) (fq_86 zg6) (congrArg (fun z => some (Value.int z)) (Czg6.Z Ozg6)) dX12_feed_143 ?_
                              have er : rFeed A (nI 2) a b c e f = ((nI (aZ (stTp (stTp A a) b))), (stTp (stTp A a) b)) := by unfold rFeed; (try simp only [nI_clamp (show 2 < 2147483648 by omega)]); rw [if_pos zp13, if_pos zp20, if_pos zp28, if_pos zp36, if_pos zp44, if_neg hin.1, if_neg hin.2, if_pos zc59]; all_goals ((first | rfl | (rw [nI_clamp (by decide)]; rfl)))
                              exact xj_ireturn rfl (nr_i _) (Nat.zero_le _) (Nat.zero_le _) dX12_feed_146 (qI_e (by rw [er]; exact ⟨rfl, Czg6, (fun j hj => by unfold mX at hj; rw [ezg6, gs_n _ _ _ (by omega), ezg5, gs_n _ _ _ (by omega), ezg4, gs_n _ _ _ (by omega), ezg3, gs_n _ _ _ (by omega)])⟩))
                            · exact absurd (by decide) zc71
                        · exact absurd zc84 (by decide)
                · refine xj_bipush (v := (-4)) (by decide) dX12_feed_62 ?_
                  have er : rFeed A (nI 2) a b c e f = ((-4), A) := by unfold rFeed; (try simp only [nI_clamp (show 2 < 2147483648 by omega)]); rw [if_pos zp13, if_pos zp20, if_pos zp28, if_pos zp36, if_pos zp44, if_neg hin.1, if_neg hin.2, if_neg zc59]; all_goals (rfl)
                  exact xj_ireturn rfl (nr_i _) (Nat.zero_le _) (Nat.zero_le _) dX12_feed_64 (qI_e (by rw [er]; exact ⟨rfl, C, fr.rf⟩))
              · refine xj_aload_n (n := 0) (i := 0) 0 rfl rfl dX12_feed_50 ?_
                refine yj_getf (v := .int (nI (aZ A))) fl_X12_83_12 (by omega) (fq_86 g) (congrArg (fun z => some (Value.int z)) (C.Z O)) dX12_feed_51 ?_
                refine xj_iload_n (n := 1) (i := 1) 1 rfl rfl dX12_feed_54 ?_
                refine xj_iadd dX12_feed_55 ?_
                refine xj_top (nI_add _ _) ?_
                refine xj_sipush (v := 160) (by decide) dX12_feed_56 ?_
                refine xj_icmp_le (tgt := 65) (by decide) dX12_feed_59 (fun zc59 => ?_) (fun zc59 => ?_)
                · have hz9 : aZ A + 3 ≤ 160 := (nI_leI (b := 160) (by have := O.2.2.2.2.2.1.2; omega) (by decide)).mp zc59
                  have hZ0 : aZ A = aZ A + 0 := rfl
                  refine xj_iconst (v := 0) (by decide) dX12_feed_65 ?_
                  refine xj_top (show (0 : Int32) = nI 0 from rfl) ?_
                  refine xj_istore (i := 7) (lv1 := [(7, .int (nI 0)), (0, .ref 86), (1, .int (nI 3)), (2, .int a), (3, .int b), (4, .int c), (5, .int e), (6, .int f)]) rfl (Nat.le_of_ble_eq_true rfl) dX12_feed_66 ?_
                  refine xj_iload (i := 7) 0 rfl dX12_feed_68 ?_
                  refine xj_iload_n (n := 1) (i := 1) 2 rfl rfl dX12_feed_70 ?_
                  refine xj_icmp_ge (tgt := 142) (by decide) dX12_feed_71 (fun zc71 => ?_) (fun zc71 => ?_)
                  · exact absurd zc71 (by decide)
                  · refine xj_aload_n (n := 0) (i := 0) 1 rfl rfl dX12_feed_74 ?_
                    refine yj_getf (v := .ref 91) fl_X12_26_12 (by omega) (fq_86 g) rfl dX12_feed_75 ?_
                    refine xj_aload_n (n := 0) (i := 0) 1 rfl rfl dX12_feed_78 ?_
                    refine yj_getf (v := .int (nI (aZ A))) fl_X12_83_12 (by omega) (fq_86 g) (congrArg (fun z => some (Value.int z)) (C.Z O)) dX12_feed_79 ?_
                    refine xj_iload (i := 7) 0 rfl dX12_feed_82 ?_
                    refine xj_if_ne (tgt := 91) (by decide) dX12_feed_84 (fun zc84 => ?_) (fun zc84 => ?_)
                    · exact absurd zc84 (fun z => z rfl)
                    · refine xj_iload_n (n := 2) (i := 2) 3 rfl rfl dX12_feed_87 ?_
                      refine xj_goto (tgt := 125) (by decide) dX12_feed_88 ?_
                      refine yj_iastN (aZ A) (by omega) fA_91 rfl (by omega) (by decide) dX12_feed_125 ?_
                      obtain ⟨zg7, ezg7⟩ : ∃ z, z = gs g 91 (aZ A) a := ⟨_, rfl⟩
                      rw [← ezg7]
                      refine xj_aload_n (n := 0) (i := 0) 1 rfl rfl dX12_feed_126 ?_
                      refine xj_dup rfl dX12_feed_127 ?_
                      refine yj_getf (v := .int (nI (aZ A))) fl_X12_83_12 (by omega) (fq_86 zg7) (congrArg (fun z => some (Value.int z)) (by rw [ezg7, gs_n _ _ _ (by decide)]; exact C.Z O)) dX12_feed_128 ?_
                      refine xj_iconst (v := 1) (by decide) dX12_feed_131 ?_
                      refine xj_iadd dX12_feed_132 ?_
                      refine xj_top (nI_add (aZ A) 1) ?_
                      refine yj_puti fl_X12_83_12 (by omega) fS_86_8 (fi_i _) dX12_feed_133 ?_
                      obtain ⟨zg8, ezg8⟩ : ∃ z, z = gs zg7 86 8 (nI ((aZ A) + 1)) := ⟨_, rfl⟩
                      rw [← ezg8]
                      have Czg8 : mA zg8 (stTp A a) Λ := C.tap O a (by rw [ezg8, ezg7])
                      have Ozg8 := okA.tap O a (by omega)
                      have hZ1 := stTp_Z2 O hZ0 a
                      refine xj_iinc (n := 1) (i := 7) (v := nI 1) (lv1 := [(7, .int (nI 1)), (0, .ref 86), (1, .int (nI 3)), (2, .int a), (3, .int b), (4, .int c), (5, .int e), (6, .int f)]) 0 rfl (nI_1 0) rfl (Nat.le_of_ble_eq_true rfl) dX12_feed_136 ?_
                      refine xj_goto (tgt := 68) (by decide) dX12_feed_139 ?_
                      refine xj_iload (i := 7) 0 rfl dX12_feed_68 ?_
                      refine xj_iload_n (n := 1) (i := 1) 2 rfl rfl dX12_feed_70 ?_
                      refine xj_icmp_ge (tgt := 142) (by decide) dX12_feed_71 (fun zc71 => ?_) (fun zc71 => ?_)
                      · exact absurd zc71 (by decide)
                      · refine xj_aload_n (n := 0) (i := 0) 1 rfl rfl dX12_feed_74 ?_
                        refine yj_getf (v := .ref 91) fl_X12_26_12 (by omega) (fq_86 zg8) rfl dX12_feed_75 ?_
                        refine xj_aload_n (n := 0) (i := 0) 1 rfl rfl dX12_feed_78 ?_
                        refine yj_getf (v := .int (nI (aZ (stTp A a)))) fl_X12_83_12 (by omega) (fq_86 zg8) (congrArg (fun z => some (Value.int z)) (Czg8.Z Ozg8)) dX12_feed_79 ?_
                        refine xj_iload (i := 7) 0 rfl dX12_feed_82 ?_
                        refine xj_if_ne (tgt := 91) (by decide) dX12_feed_84 (fun zc84 => ?_) (fun zc84 => ?_)
                        · refine xj_iload (i := 7) 0 rfl dX12_feed_91 ?_
                          refine xj_iconst (v := 1) (by decide) dX12_feed_93 ?_
                          refine xj_icmp_ne (tgt := 101) (by decide) dX12_feed_94 (fun zc94 => ?_) (fun zc94 => ?_)
                          · exact absurd zc94 (fun z => z rfl)
                          · refine xj_iload_n (n := 3) (i := 3) 4 rfl rfl dX12_feed_97 ?_
                            refine xj_goto (tgt := 125) (by decide) dX12_feed_98 ?_
                            refine yj_iastN (aZ (stTp A a)) (by omega) fA_91 rfl (by omega) (by decide) dX12_feed_125 ?_
                            obtain ⟨zg9, ezg9⟩ : ∃ z, z = gs zg8 91 (aZ (stTp A a)) b := ⟨_, rfl⟩
                            rw [← ezg9]
                            refine xj_aload_n (n := 0) (i := 0) 1 rfl rfl dX12_feed_126 ?_
                            refine xj_dup rfl dX12_feed_127 ?_
                            refine yj_getf (v := .int (nI (aZ (stTp A a)))) fl_X12_83_12 (by omega) (fq_86 zg9) (congrArg (fun z => some (Value.int z)) (by rw [ezg9, gs_n _ _ _ (by decide)]; exact Czg8.Z Ozg8)) dX12_feed_128 ?_
                            refine xj_iconst (v := 1) (by decide) dX12_feed_131 ?_
                            refine xj_iadd dX12_feed_132 ?_
                            refine xj_top (nI_add (aZ (stTp A a)) 1) ?_
                            refine yj_puti fl_X12_83_12 (by omega) fS_86_8 (fi_i _) dX12_feed_133 ?_
                            obtain ⟨zg10, ezg10⟩ : ∃ z, z = gs zg9 86 8 (nI ((aZ (stTp A a)) + 1)) := ⟨_, rfl⟩
                            rw [← ezg10]
                            have Czg10 : mA zg10 (stTp (stTp A a) b) Λ := Czg8.tap Ozg8 b (by rw [ezg10, ezg9])
                            have Ozg10 := okA.tap Ozg8 b (by omega)
                            have hZ2 := stTp_Z2 Ozg8 hZ1 b
                            refine xj_iinc (n := 1) (i := 7) (v := nI 2) (lv1 := [(7, .int (nI 2)), (0, .ref 86), (1, .int (nI 3)), (2, .int a), (3, .int b), (4, .int c), (5, .int e), (6, .int f)]) 0 rfl (nI_1 1) rfl (Nat.le_of_ble_eq_true rfl) dX12_feed_136 ?_
                            refine xj_goto (tgt := 68) (by decide) dX12_feed_139 ?_
                            refine xj_iload (i := 7) 0 rfl dX12_feed_68 ?_
                            refine xj_iload_n (n := 1) (i := 1) 2 rfl rfl dX12_feed_70 ?_
                            refine xj_icmp_ge (tgt := 142) (by decide) dX12_feed_71 (fun zc71 => ?_) (fun zc71 => ?_)
                            · exact absurd zc71 (by decide)
                            · refine xj_aload_n (n := 0) (i := 0) 1 rfl rfl dX12_feed_74 ?_
                              refine yj_getf (v := .ref 91) fl_X12_26_12 (by omega) (fq_86 zg10) rfl dX12_feed_75 ?_
                              refine xj_aload_n (n := 0) (i := 0) 1 rfl rfl dX12_feed_78 ?_
                              refine yj_getf (v := .int (nI (aZ (stTp (stTp A a) b)))) fl_X12_83_12 (by omega) (fq_86 zg10) (congrArg (fun z => some (Value.int z)) (Czg10.Z Ozg10)) dX12_feed_79 ?_
                              refine xj_iload (i := 7) 0 rfl dX12_feed_82 ?_
                              refine xj_if_ne (tgt := 91) (by decide) dX12_feed_84 (fun zc84 => ?_) (fun zc84 => ?_)
                              · refine xj_iload (i := 7) 0 rfl dX12_feed_91 ?_
                                refine xj_iconst (v := 1) (by decide) dX12_feed_93 ?_
                                refine xj_icmp_ne (tgt := 101) (by decide) dX12_feed_94 (fun zc94 => ?_) (fun zc94 => ?_)
                                · refine xj_iload (i := 7) 0 rfl dX12_feed_101 ?_
                                  refine xj_iconst (v := 2) (by decide) dX12_feed_103 ?_
                                  refine xj_icmp_ne (tgt := 112) (by decide) dX12_feed_104 (fun zc104 => ?_) (fun zc104 => ?_)
                                  · exact absurd zc104 (fun z => z rfl)
                                  · refine xj_iload (i := 4) 5 rfl dX12_feed_107 ?_
                                    refine xj_goto (tgt := 125) (by decide) dX12_feed_109 ?_
                                    refine yj_iastN (aZ (stTp (stTp A a) b)) (by omega) fA_91 rfl (by omega) (by decide) dX12_feed_125 ?_
                                    obtain ⟨zg11, ezg11⟩ : ∃ z, z = gs zg10 91 (aZ (stTp (stTp A a) b)) c := ⟨_, rfl⟩
                                    rw [← ezg11]
                                    refine xj_aload_n (n := 0) (i := 0) 1 rfl rfl dX12_feed_126 ?_
                                    refine xj_dup rfl dX12_feed_127 ?_
                                    refine yj_getf (v := .int (nI (aZ (stTp (stTp A a) b)))) fl_X12_83_12 (by omega) (fq_86 zg11) (congrArg (fun z => some (Value.int z)) (by rw [ezg11, gs_n _ _ _ (by decide)]; exact Czg10.Z Ozg10)) dX12_feed_128 ?_
                                    refine xj_iconst (v := 1) (by decide) dX12_feed_131 ?_
                                    refine xj_iadd dX12_feed_132 ?_
                                    refine xj_top (nI_add (aZ (stTp (stTp A a) b)) 1) ?_
                                    refine yj_puti fl_X12_83_12 (by omega) fS_86_8 (fi_i _) dX12_feed_133 ?_
                                    obtain ⟨zg12, ezg12⟩ : ∃ z, z = gs zg11 86 8 (nI ((aZ (stTp (stTp A a) b)) + 1)) := ⟨_, rfl⟩
                                    rw [← ezg12]
                                    have Czg12 : mA zg12 (stTp (stTp (stTp A a) b) c) Λ := Czg10.tap Ozg10 c (by rw [ezg12, ezg11])
                                    have Ozg12 := okA.tap Ozg10 c (by omega)
                                    have hZ3 := stTp_Z2 Ozg10 hZ2 c
                                    refine xj_iinc (n := 1) (i := 7) (v := nI 3) (lv1 := [(7, .int (nI 3)), (0, .ref 86), (1, .int (nI 3)), (2, .int a), (3, .int b), (4, .int c), (5, .int e), (6, .int f)]) 0 rfl (nI_1 2) rfl (Nat.le_of_ble_eq_true rfl) dX12_feed_136 ?_
                                    refine xj_goto (tgt := 68) (by decide) dX12_feed_139 ?_
                                    refine xj_iload (i := 7) 0 rfl dX12_feed_68 ?_
                                    refine xj_iload_n (n := 1) (i := 1) 2 rfl rfl dX12_feed_70 ?_
                                    refine xj_icmp_ge (tgt := 142) (by decide) dX12_feed_71 (fun zc71 => ?_) (fun zc71 => ?_)
                                    · refine xj_aload_n (n := 0) (i := 0) 1 rfl rfl dX12_feed_142 ?_
                                      refine yj_getf (v := .int (nI (aZ (stTp (stTp (stTp A a) b) c)))) fl_X12_83_12 (by omega) (fq_86 zg12) (congrArg (fun z => some (Value.int z)) (Czg12.Z Ozg12)) dX12_feed_143 ?_
                                      have er : rFeed A (nI 3) a b c e f = ((nI (aZ (stTp (stTp (stTp A a) b) c))), (stTp (stTp (stTp A a) b) c)) := by unfold rFeed; (try simp only [nI_clamp (show 3 < 2147483648 by omega)]); rw [if_pos zp13, if_pos zp20, if_pos zp28, if_pos zp36, if_pos zp44, if_neg hin.1, if_neg hin.2, if_pos zc59]; all_goals ((first | rfl | (rw [nI_clamp (by decide)]; rfl)))
                                      exact xj_ireturn rfl (nr_i _) (Nat.zero_le _) (Nat.zero_le _) dX12_feed_146 (qI_e (by rw [er]; exact ⟨rfl, Czg12, (fun j hj => by unfold mX at hj; rw [ezg12, gs_n _ _ _ (by omega), ezg11, gs_n _ _ _ (by omega), ezg10, gs_n _ _ _ (by omega), ezg9, gs_n _ _ _ (by omega), ezg8, gs_n _ _ _ (by omega), ezg7, gs_n _ _ _ (by omega)])⟩))
                                    · exact absurd (by decide) zc71
                                · exact absurd zc94 (by decide)
                              · exact absurd zc84 (by decide)
                        · exact absurd zc84 (by decide)
                · refine xj_bipush (v := (-4)) (by decide) dX12_feed_62 ?_
                  have er : rFeed A (nI 3) a b c e f = ((-4), A) := by unfold rFeed; (try simp only [nI_clamp (show 3 < 2147483648 by omega)]); rw [if_pos zp13, if_pos zp20, if_pos zp28, if_pos zp36, if_pos zp44, if_neg hin.1, if_neg hin.2, if_neg zc59]; all_goals (rfl)
                  exact xj_ireturn rfl (nr_i _) (Nat.zero_le _) (Nat.zero_le _) dX12_feed_64 (qI_e (by rw [er]; exact ⟨rfl, C, fr.rf⟩))
              · refine xj_aload_n (n := 0) (i := 0) 0 rfl rfl dX12_feed_50 ?_
                refine yj_getf (v := .int (nI (aZ A))) fl_X12_83_12 (by omega) (fq_86 g) (congrArg (fun z => some (Value.int z)) (C.Z O)) dX12_feed_51 ?_
                refine xj_iload_n (n := 1) (i := 1) 1 rfl rfl dX12_feed_54 ?_
                refine xj_iadd dX12_feed_55 ?_
                refine xj_top (nI_add _ _) ?_
                refine xj_sipush (v := 160) (by decide) dX12_feed_56 ?_
                refine xj_icmp_le (tgt := 65) (by decide) dX12_feed_59 (fun zc59 => ?_) (fun zc59 => ?_)
                · have hz9 : aZ A + 4 ≤ 160 := (nI_leI (b := 160) (by have := O.2.2.2.2.2.1.2; omega) (by decide)).mp zc59
                  have hZ0 : aZ A = aZ A + 0 := rfl
                  refine xj_iconst (v := 0) (by decide) dX12_feed_65 ?_
                  refine xj_top (show (0 : Int32) = nI 0 from rfl) ?_
                  refine xj_istore (i := 7) (lv1 := [(7, .int (nI 0)), (0, .ref 86), (1, .int (nI 4)), (2, .int a), (3, .int b), (4, .int c), (5, .int e), (6, .int f)]) rfl (Nat.le_of_ble_eq_true rfl) dX12_feed_66 ?_
                  refine xj_iload (i := 7) 0 rfl dX12_feed_68 ?_
                  refine xj_iload_n (n := 1) (i := 1) 2 rfl rfl dX12_feed_70 ?_
                  refine xj_icmp_ge (tgt := 142) (by decide) dX12_feed_71 (fun zc71 => ?_) (fun zc71 => ?_)
                  · exact absurd zc71 (by decide)
                  · refine xj_aload_n (n := 0) (i := 0) 1 rfl rfl dX12_feed_74 ?_
                    refine yj_getf (v := .ref 91) fl_X12_26_12 (by omega) (fq_86 g) rfl dX12_feed_75 ?_
                    refine xj_aload_n (n := 0) (i := 0) 1 rfl rfl dX12_feed_78 ?_
                    refine yj_getf (v := .int (nI (aZ A))) fl_X12_83_12 (by omega) (fq_86 g) (congrArg (fun z => some (Value.int z)) (C.Z O)) dX12_feed_79 ?_
                    refine xj_iload (i := 7) 0 rfl dX12_feed_82 ?_
                    refine xj_if_ne (tgt := 91) (by decide) dX12_feed_84 (fun zc84 => ?_) (fun zc84 => ?_)
                    · exact absurd zc84 (fun z => z rfl)
                    · refine xj_iload_n (n := 2) (i := 2) 3 rfl rfl dX12_feed_87 ?_
                      refine xj_goto (tgt := 125) (by decide) dX12_feed_88 ?_
                      refine yj_iastN (aZ A) (by omega) fA_91 rfl (by omega) (by decide) dX12_feed_125 ?_
                      obtain ⟨zg13, ezg13⟩ : ∃ z, z = gs g 91 (aZ A) a := ⟨_, rfl⟩
                      rw [← ezg13]
                      refine xj_aload_n (n := 0) (i := 0) 1 rfl rfl dX12_feed_126 ?_
                      refine xj_dup rfl dX12_feed_127 ?_
                      refine yj_getf (v := .int (nI (aZ A))) fl_X12_83_12 (by omega) (fq_86 zg13) (congrArg (fun z => some (Value.int z)) (by rw [ezg13, gs_n _ _ _ (by decide)]; exact C.Z O)) dX12_feed_128 ?_
                      refine xj_iconst (v := 1) (by decide) dX12_feed_131 ?_
                      refine xj_iadd dX12_feed_132 ?_
                      refine xj_top (nI_add (aZ A) 1) ?_
                      refine yj_puti fl_X12_83_12 (by omega) fS_86_8 (fi_i _) dX12_feed_133 ?_
                      obtain ⟨zg14, ezg14⟩ : ∃ z, z = gs zg13 86 8 (nI ((aZ A) + 1)) := ⟨_, rfl⟩
                      rw [← ezg14]
                      have Czg14 : mA zg14 (stTp A a) Λ := C.tap O a (by rw [ezg14, ezg13])
                      have Ozg14 := okA.tap O a (by omega)
                      have hZ1 := stTp_Z2 O hZ0 a
                      refine xj_iinc (n := 1) (i := 7) (v := nI 1) (lv1 := [(7, .int (nI 1)), (0, .ref 86), (1, .int (nI 4)), (2, .int a), (3, .int b), (4, .int c), (5, .int e), (6, .int f)]) 0 rfl (nI_1 0) rfl (Nat.le_of_ble_eq_true rfl) dX12_feed_136 ?_
                      refine xj_goto (tgt := 68) (by decide) dX12_feed_139 ?_
                      refine xj_iload (i := 7) 0 rfl dX12_feed_68 ?_
                      refine xj_iload_n (n := 1) (i := 1) 2 rfl rfl dX12_feed_70 ?_
                      refine xj_icmp_ge (tgt := 142) (by decide) dX12_feed_71 (fun zc71 => ?_) (fun zc71 => ?_)
                      · exact absurd zc71 (by decide)
                      · refine xj_aload_n (n := 0) (i := 0) 1 rfl rfl dX12_feed_74 ?_
                        refine yj_getf (v := .ref 91) fl_X12_26_12 (by omega) (fq_86 zg14) rfl dX12_feed_75 ?_
                        refine xj_aload_n (n := 0) (i := 0) 1 rfl rfl dX12_feed_78 ?_
                        refine yj_getf (v := .int (nI (aZ (stTp A a)))) fl_X12_83_12 (by omega) (fq_86 zg14) (congrArg (fun z => some (Value.int z)) (Czg14.Z Ozg14)) dX12_feed_79 ?_
                        refine xj_iload (i := 7) 0 rfl dX12_feed_82 ?_
                        refine xj_if_ne (tgt := 91) (by decide) dX12_feed_84 (fun zc84 => ?_) (fun zc84 => ?_)
                        · refine xj_iload (i := 7) 0 rfl dX12_feed_91 ?_
                          refine xj_iconst (v := 1) (by decide) dX12_feed_93 ?_
                          refine xj_icmp_ne (tgt := 101) (by decide) dX12_feed_94 (fun zc94 => ?_) (fun zc94 => ?_)
                          · exact absurd zc94 (fun z => z rfl)
                          · refine xj_iload_n (n := 3) (i := 3) 4 rfl rfl dX12_feed_97 ?_
                            refine xj_goto (tgt := 125) (by decide) dX12_feed_98 ?_
                            refine yj_iastN (aZ (stTp A a)) (by omega) fA_91 rfl (by omega) (by decide) dX12_feed_125 ?_
                            obtain ⟨zg15, ezg15⟩ : ∃ z, z = gs zg14 91 (aZ (stTp A a)) b := ⟨_, rfl⟩
                            rw [← ezg15]
                            refine xj_aload_n (n := 0) (i := 0) 1 rfl rfl dX12_feed_126 ?_
                            refine xj_dup rfl dX12_feed_127 ?_
                            refine yj_getf (v := .int (nI (aZ (stTp A a)))) fl_X12_83_12 (by omega) (fq_86 zg15) (congrArg (fun z => some (Value.int z)) (by rw [ezg15, gs_n _ _ _ (by decide)]; exact Czg14.Z Ozg14)) dX12_feed_128 ?_
                            refine xj_iconst (v := 1) (by decide) dX12_feed_131 ?_
                            refine xj_iadd dX12_feed_132 ?_
                            refine xj_top (nI_add (aZ (stTp A a)) 1) ?_
                            refine yj_puti fl_X12_83_12 (by omega) fS_86_8 (fi_i _) dX12_feed_133 ?_
                            obtain ⟨zg16, ezg16⟩ : ∃ z, z = gs zg15 86 8 (nI ((aZ (stTp A a)) + 1)) := ⟨_, rfl⟩
                            rw [← ezg16]
                            have Czg16 : mA zg16 (stTp (stTp A a) b) Λ := Czg14.tap Ozg14 b (by rw [ezg16, ezg15])
                            have Ozg16 := okA.tap Ozg14 b (by omega)
                            have hZ2 := stTp_Z2 Ozg14 hZ1 b
                            refine xj_iinc (n := 1) (i := 7) (v := nI 2) (lv1 := [(7, .int (nI 2)), (0, .ref 86), (1, .int (nI 4)), (2, .int a), (3, .int b), (4, .int c), (5, .int e), (6, .int f)]) 0 rfl (nI_1 1) rfl (Nat.le_of_ble_eq_true rfl) dX12_feed_136 ?_
                            refine xj_goto (tgt := 68) (by decide) dX12_feed_139 ?_
                            refine xj_iload (i := 7) 0 rfl dX12_feed_68 ?_
                            refine xj_iload_n (n := 1) (i := 1) 2 rfl rfl dX12_feed_70 ?_
                            refine xj_icmp_ge (tgt := 142) (by decide) dX12_feed_71 (fun zc71 => ?_) (fun zc71 => ?_)
                            · exact absurd zc71 (by decide)
                            · refine xj_aload_n (n := 0) (i := 0) 1 rfl rfl dX12_feed_74 ?_
                              refine yj_getf (v := .ref 91) fl_X12_26_12 (by omega) (fq_86 zg16) rfl dX12_feed_75 ?_
                              refine xj_aload_n (n := 0) (i := 0) 1 rfl rfl dX12_feed_78 ?_
                              refine yj_getf (v := .int (nI (aZ (stTp (stTp A a) b)))) fl_X12_83_12 (by omega) (fq_86 zg16) (congrArg (fun z => some (Value.int z)) (Czg16.Z Ozg16)) dX12_feed_79 ?_
                              refine xj_iload (i := 7) 0 rfl dX12_feed_82 ?_
                              refine xj_if_ne (tgt := 91) (by decide) dX12_feed_84 (fun zc84 => ?_) (fun zc84 => ?_)
                              · refine xj_iload (i := 7) 0 rfl dX12_feed_91 ?_
                                refine xj_iconst (v := 1) (by decide) dX12_feed_93 ?_
                                refine xj_icmp_ne (tgt := 101) (by decide) dX12_feed_94 (fun zc94 => ?_) (fun zc94 => ?_)
                                · refine xj_iload (i := 7) 0 rfl dX12_feed_101 ?_
                                  refine xj_iconst (v := 2) (by decide) dX12_feed_103 ?_
                                  refine xj_icmp_ne (tgt := 112) (by decide) dX12_feed_104 (fun zc104 => ?_) (fun zc104 => ?_)
                                  · exact absurd zc104 (fun z => z rfl)
                                  · refine xj_iload (i := 4) 5 rfl dX12_feed_107 ?_
                                    refine xj_goto (tgt := 125) (by decide) dX12_feed_109 ?_
                                    refine yj_iastN (aZ (stTp (stTp A a) b)) (by omega) fA_91 rfl (by omega) (by decide) dX12_feed_125 ?_
                                    obtain ⟨zg17, ezg17⟩ : ∃ z, z = gs zg16 91 (aZ (stTp (stTp A a) b)) c := ⟨_, rfl⟩
                                    rw [← ezg17]
                                    refine xj_aload_n (n := 0) (i := 0) 1 rfl rfl dX12_feed_126 ?_
                                    refine xj_dup rfl dX12_feed_127 ?_
                                    refine yj_getf (v := .int (nI (aZ (stTp (stTp A a) b)))) fl_X12_83_12 (by omega) (fq_86 zg17) (congrArg (fun z => some (Value.int z)) (by rw [ezg17, gs_n _ _ _ (by decide)]; exact Czg16.Z Ozg16)) dX12_feed_128 ?_
                                    refine xj_iconst (v := 1) (by decide) dX12_feed_131 ?_
                                    refine xj_iadd dX12_feed_132 ?_
                                    refine xj_top (nI_add (aZ (stTp (stTp A a) b)) 1) ?_
                                    refine yj_puti fl_X12_83_12 (by omega) fS_86_8 (fi_i _) dX12_feed_133 ?_
                                    obtain ⟨zg18, ezg18⟩ : ∃ z, z = gs zg17 86 8 (nI ((aZ (stTp (stTp A a) b)) + 1)) := ⟨_, rfl⟩
                                    rw [← ezg18]
                                    have Czg18 : mA zg18 (stTp (stTp (stTp A a) b) c) Λ := Czg16.tap Ozg16 c (by rw [ezg18, ezg17])
                                    have Ozg18 := okA.tap Ozg16 c (by omega)
                                    have hZ3 := stTp_Z2 Ozg16 hZ2 c
                                    refine xj_iinc (n := 1) (i := 7) (v := nI 3) (lv1 := [(7, .int (nI 3)), (0, .ref 86), (1, .int (nI 4)), (2, .int a), (3, .int b), (4, .int c), (5, .int e), (6, .int f)]) 0 rfl (nI_1 2) rfl (Nat.le_of_ble_eq_true rfl) dX12_feed_136 ?_
                                    refine xj_goto (tgt := 68) (by decide) dX12_feed_139 ?_
                                    refine xj_iload (i := 7) 0 rfl dX12_feed_68 ?_
                                    refine xj_iload_n (n := 1) (i := 1) 2 rfl rfl dX12_feed_70 ?_
                                    refine xj_icmp_ge (tgt := 142) (by decide) dX12_feed_71 (fun zc71 => ?_) (fun zc71 => ?_)
                                    · exact absurd zc71 (by decide)
                                    · refine xj_aload_n (n := 0) (i := 0) 1 rfl rfl dX12_feed_74 ?_
                                      refine yj_getf (v := .ref 91) fl_X12_26_12 (by omega) (fq_86 zg18) rfl dX12_feed_75 ?_
                                      refine xj_aload_n (n := 0) (i := 0) 1 rfl rfl dX12_feed_78 ?_
                                      refine yj_getf (v := .int (nI (aZ (stTp (stTp (stTp A a) b) c)))) fl_X12_83_12 (by omega) (fq_86 zg18) (congrArg (fun z => some (Value.int z)) (Czg18.Z Ozg18)) dX12_feed_79 ?_
                                      refine xj_iload (i := 7) 0 rfl dX12_feed_82 ?_
                                      refine xj_if_ne (tgt := 91) (by decide) dX12_feed_84 (fun zc84 => ?_) (fun zc84 => ?_)
                                      · refine xj_iload (i := 7) 0 rfl dX12_feed_91 ?_
                                        refine xj_iconst (v := 1) (by decide) dX12_feed_93 ?_
                                        refine xj_icmp_ne (tgt := 101) (by decide) dX12_feed_94 (fun zc94 => ?_) (fun zc94 => ?_)
                                        · refine xj_iload (i := 7) 0 rfl dX12_feed_101 ?_
                                          refine xj_iconst (v := 2) (by decide) dX12_feed_103 ?_
                                          refine xj_icmp_ne (tgt := 112) (by decide) dX12_feed_104 (fun zc104 => ?_) (fun zc104 => ?_)
                                          · refine xj_iload (i := 7) 0 rfl dX12_feed_112 ?_
                                            refine xj_iconst (v := 3) (by decide) dX12_feed_114 ?_
                                            refine xj_icmp_ne (tgt := 123) (by decide) dX12_feed_115 (fun zc115 => ?_) (fun zc115 => ?_)
                                            · exact absurd zc115 (fun z => z rfl)
                                            · refine xj_iload (i := 5) 6 rfl dX12_feed_118 ?_
                                              refine xj_goto (tgt := 125) (by decide) dX12_feed_120 ?_
                                              refine yj_iastN (aZ (stTp (stTp (stTp A a) b) c)) (by omega) fA_91 rfl (by omega) (by decide) dX12_feed_125 ?_
                                              obtain ⟨zg19, ezg19⟩ : ∃ z, z = gs zg18 91 (aZ (stTp (stTp (stTp A a) b) c)) e := ⟨_, rfl⟩
                                              rw [← ezg19]
                                              refine xj_aload_n (n := 0) (i := 0) 1 rfl rfl dX12_feed_126 ?_
                                              refine xj_dup rfl dX12_feed_127 ?_
                                              refine yj_getf (v := .int (nI (aZ (stTp (stTp (stTp A a) b) c)))) fl_X12_83_12 (by omega) (fq_86 zg19) (congrArg (fun z => some (Value.int z)) (by rw [ezg19, gs_n _ _ _ (by decide)]; exact Czg18.Z Ozg18)) dX12_feed_128 ?_
                                              refine xj_iconst (v := 1) (by decide) dX12_feed_131 ?_
                                              refine xj_iadd dX12_feed_132 ?_
                                              refine xj_top (nI_add (aZ (stTp (stTp (stTp A a) b) c)) 1) ?_
                                              refine yj_puti fl_X12_83_12 (by omega) fS_86_8 (fi_i _) dX12_feed_133 ?_
                                              obtain ⟨zg20, ezg20⟩ : ∃ z, z = gs zg19 86 8 (nI ((aZ (stTp (stTp (stTp A a) b) c)) + 1)) := ⟨_, rfl⟩
                                              rw [← ezg20]
                                              have Czg20 : mA zg20 (stTp (stTp (stTp (stTp A a) b) c) e) Λ := Czg18.tap Ozg18 e (by rw [ezg20, ezg19])
                                              have Ozg20 := okA.tap Ozg18 e (by omega)
                                              have hZ4 := stTp_Z2 Ozg18 hZ3 e
                                              refine xj_iinc (n := 1) (i := 7) (v := nI 4) (lv1 := [(7, .int (nI 4)), (0, .ref 86), (1, .int (nI 4)), (2, .int a), (3, .int b), (4, .int c), (5, .int e), (6, .int f)]) 0 rfl (nI_1 3) rfl (Nat.le_of_ble_eq_true rfl) dX12_feed_136 ?_
                                              refine xj_goto (tgt := 68) (by decide) dX12_feed_139 ?_
                                              refine xj_iload (i := 7) 0 rfl dX12_feed_68 ?_
                                              refine xj_iload_n (n := 1) (i := 1) 2 rfl rfl dX12_feed_70 ?_
                                              refine xj_icmp_ge (tgt := 142) (by decide) dX12_feed_71 (fun zc71 => ?_) (fun zc71 => ?_)
                                              · refine xj_aload_n (n := 0) (i := 0) 1 rfl rfl dX12_feed_142 ?_
                                                refine yj_getf (v := .int (nI (aZ (stTp (stTp (stTp (stTp A a) b) c) e)))) fl_X12_83_12 (by omega) (fq_86 zg20) (congrArg (fun z => some (Value.int z)) (Czg20.Z Ozg20)) dX12_feed_143 ?_
                                                have er : rFeed A (nI 4) a b c e f = ((nI (aZ (stTp (stTp (stTp (stTp A a) b) c) e))), (stTp (stTp (stTp (stTp A a) b) c) e)) := by unfold rFeed; (try simp only [nI_clamp (show 4 < 2147483648 by omega)]); rw [if_pos zp13, if_pos zp20, if_pos zp28, if_pos zp36, if_pos zp44, if_neg hin.1, if_neg hin.2, if_pos zc59]; all_goals ((first | rfl | (rw [nI_clamp (by decide)]; rfl)))
                                                exact xj_ireturn rfl (nr_i _) (Nat.zero_le _) (Nat.zero_le _) dX12_feed_146 (qI_e (by rw [er]; exact ⟨rfl, Czg20, (fun j hj => by unfold mX at hj; rw [ezg20, gs_n _ _ _ (by omega), ezg19, gs_n _ _ _ (by omega), ezg18, gs_n _ _ _ (by omega), ezg17, gs_n _ _ _ (by omega), ezg16, gs_n _ _ _ (by omega), ezg15, gs_n _ _ _ (by omega), ezg14, gs_n _ _ _ (by omega), ezg13, gs_n _ _ _ (by omega)])⟩))
                                              · exact absurd (by decide) zc71
                                          · exact absurd zc104 (by decide)
                                        · exact absurd zc94 (by decide)
                                      · exact absurd zc84 (by decide)
                                · exact absurd zc94 (by decide)
                              · exact absurd zc84 (by decide)
                        · exact absurd zc84 (by decide)
                · refine xj_bipush (v := (-4)) (by decide) dX12_feed_62 ?_
                  have er : rFeed A (nI 4) a b c e f = ((-4), A) := by unfold rFeed; (try simp only [nI_clamp (show 4 < 2147483648 by omega)]); rw [if_pos zp13, if_pos zp20, if_pos zp28, if_pos zp36, if_pos zp44, if_neg hin.1, if_neg hin.2, if_neg zc59]; all_goals (rfl)
                  exact xj_ireturn rfl (nr_i _) (Nat.zero_le _) (Nat.zero_le _) dX12_feed_64 (qI_e (by rw [er]; exact ⟨rfl, C, fr.rf⟩))
              · refine xj_aload_n (n := 0) (i := 0) 0 rfl rfl dX12_feed_50 ?_
                refine yj_getf (v := .int (nI (aZ A))) fl_X12_83_12 (by omega) (fq_86 g) (congrArg (fun z => some (Value.int z)) (C.Z O)) dX12_feed_51 ?_
                refine xj_iload_n (n := 1) (i := 1) 1 rfl rfl dX12_feed_54 ?_
                refine xj_iadd dX12_feed_55 ?_
                refine xj_top (nI_add _ _) ?_
                refine xj_sipush (v := 160) (by decide) dX12_feed_56 ?_
                refine xj_icmp_le (tgt := 65) (by decide) dX12_feed_59 (fun zc59 => ?_) (fun zc59 => ?_)
                · have hz9 : aZ A + 5 ≤ 160 := (nI_leI (b := 160) (by have := O.2.2.2.2.2.1.2; omega) (by decide)).mp zc59
                  have hZ0 : aZ A = aZ A + 0 := rfl
                  refine xj_iconst (v := 0) (by decide) dX12_feed_65 ?_
                  refine xj_top (show (0 : Int32) = nI 0 from rfl) ?_
                  refine xj_istore (i := 7) (lv1 := [(7, .int (nI 0)), (0, .ref 86), (1, .int (nI 5)), (2, .int a), (3, .int b), (4, .int c), (5, .int e), (6, .int f)]) rfl (Nat.le_of_ble_eq_true rfl) dX12_feed_66 ?_
                  refine xj_iload (i := 7) 0 rfl dX12_feed_68 ?_
                  refine xj_iload_n (n := 1) (i := 1) 2 rfl rfl dX12_feed_70 ?_
                  refine xj_icmp_ge (tgt := 142) (by decide) dX12_feed_71 (fun zc71 => ?_) (fun zc71 => ?_)
                  · exact absurd zc71 (by decide)
                  · refine xj_aload_n (n := 0) (i := 0) 1 rfl rfl dX12_feed_74 ?_
                    refine yj_getf (v := .ref 91) fl_X12_26_12 (by omega) (fq_86 g) rfl dX12_feed_75 ?_
                    refine xj_aload_n (n := 0) (i := 0) 1 rfl rfl dX12_feed_78 ?_
                    refine yj_getf (v := .int (nI (aZ A))) fl_X12_83_12 (by omega) (fq_86 g) (congrArg (fun z => some (Value.int z)) (C.Z O)) dX12_feed_79 ?_
                    refine xj_iload (i := 7) 0 rfl dX12_feed_82 ?_
                    refine xj_if_ne (tgt := 91) (by decide) dX12_feed_84 (fun zc84 => ?_) (fun zc84 => ?_)
                    · exact absurd zc84 (fun z => z rfl)
                    · refine xj_iload_n (n := 2) (i := 2) 3 rfl rfl dX12_feed_87 ?_
                      refine xj_goto (tgt := 125) (by decide) dX12_feed_88 ?_
                      refine yj_iastN (aZ A) (by omega) fA_91 rfl (by omega) (by decide) dX12_feed_125 ?_
                      obtain ⟨zg21, ezg21⟩ : ∃ z, z = gs g 91 (aZ A) a := ⟨_, rfl⟩
                      rw [← ezg21]
                      refine xj_aload_n (n := 0) (i := 0) 1 rfl rfl dX12_feed_126 ?_
                      refine xj_dup rfl dX12_feed_127 ?_
                      refine yj_getf (v := .int (nI (aZ A))) fl_X12_83_12 (by omega) (fq_86 zg21) (congrArg (fun z => some (Value.int z)) (by rw [ezg21, gs_n _ _ _ (by decide)]; exact C.Z O)) dX12_feed_128 ?_
                      refine xj_iconst (v := 1) (by decide) dX12_feed_131 ?_
                      refine xj_iadd dX12_feed_132 ?_
                      refine xj_top (nI_add (aZ A) 1) ?_
                      refine yj_puti fl_X12_83_12 (by omega) fS_86_8 (fi_i _) dX12_feed_133 ?_
                      obtain ⟨zg22, ezg22⟩ : ∃ z, z = gs zg21 86 8 (nI ((aZ A) + 1)) := ⟨_, rfl⟩
                      rw [← ezg22]
                      have Czg22 : mA zg22 (stTp A a) Λ := C.tap O a (by rw [ezg22, ezg21])
                      have Ozg22 := okA.tap O a (by omega)
                      have hZ1 := stTp_Z2 O hZ0 a
                      refine xj_iinc (n := 1) (i := 7) (v := nI 1) (lv1 := [(7, .int (nI 1)), (0, .ref 86), (1, .int (nI 5)), (2, .int a), (3, .int b), (4, .int c), (5, .int e), (6, .int f)]) 0 rfl (nI_1 0) rfl (Nat.le_of_ble_eq_true rfl) dX12_feed_136 ?_
                      refine xj_goto (tgt := 68) (by decide) dX12_feed_139 ?_
                      refine xj_iload (i := 7) 0 rfl dX12_feed_68 ?_
                      refine xj_iload_n (n := 1) (i := 1) 2 rfl rfl dX12_feed_70 ?_
                      refine xj_icmp_ge (tgt := 142) (by decide) dX12_feed_71 (fun zc71 => ?_) (fun zc71 => ?_)
                      · exact absurd zc71 (by decide)
                      · refine xj_aload_n (n := 0) (i := 0) 1 rfl rfl dX12_feed_74 ?_
                        refine yj_getf (v := .ref 91) fl_X12_26_12 (by omega) (fq_86 zg22) rfl dX12_feed_75 ?_
                        refine xj_aload_n (n := 0) (i := 0) 1 rfl rfl dX12_feed_78 ?_
                        refine yj_getf (v := .int (nI (aZ (stTp A a)))) fl_X12_83_12 (by omega) (fq_86 zg22) (congrArg (fun z => some (Value.int z)) (Czg22.Z Ozg22)) dX12_feed_79 ?_
                        refine xj_iload (i := 7) 0 rfl dX12_feed_82 ?_
                        refine xj_if_ne (tgt := 91) (by decide) dX12_feed_84 (fun zc84 => ?_) (fun zc84 => ?_)
                        · refine xj_iload (i := 7) 0 rfl dX12_feed_91 ?_
                          refine xj_iconst (v := 1) (by decide) dX12_feed_93 ?_
                          refine xj_icmp_ne (tgt := 101) (by decide) dX12_feed_94 (fun zc94 => ?_) (fun zc94 => ?_)
                          · exact absurd zc94 (fun z => z rfl)
                          · refine xj_iload_n (n := 3) (i := 3) 4 rfl rfl dX12_feed_97 ?_
                            refine xj_goto (tgt := 125) (by decide) dX12_feed_98 ?_
                            refine yj_iastN (aZ (stTp A a)) (by omega) fA_91 rfl (by omega) (by decide) dX12_feed_125 ?_
                            obtain ⟨zg23, ezg23⟩ : ∃ z, z = gs zg22 91 (aZ (stTp A a)) b := ⟨_, rfl⟩
                            rw [← ezg23]
                            refine xj_aload_n (n := 0) (i := 0) 1 rfl rfl dX12_feed_126 ?_
                            refine xj_dup rfl dX12_feed_127 ?_
                            refine yj_getf (v := .int (nI (aZ (stTp A a)))) fl_X12_83_12 (by omega) (fq_86 zg23) (congrArg (fun z => some (Value.int z)) (by rw [ezg23, gs_n _ _ _ (by decide)]; exact Czg22.Z Ozg22)) dX12_feed_128 ?_
                            refine xj_iconst (v := 1) (by decide) dX12_feed_131 ?_
                            refine xj_iadd dX12_feed_132 ?_
                            refine xj_top (nI_add (aZ (stTp A a)) 1) ?_
                            refine yj_puti fl_X12_83_12 (by omega) fS_86_8 (fi_i _) dX12_feed_133 ?_
                            obtain ⟨zg24, ezg24⟩ : ∃ z, z = gs zg23 86 8 (nI ((aZ (stTp A a)) + 1)) := ⟨_, rfl⟩
                            rw [← ezg24]
                            have Czg24 : mA zg24 (stTp (stTp A a) b) Λ := Czg22.tap Ozg22 b (by rw [ezg24, ezg23])
                            have Ozg24 := okA.tap Ozg22 b (by omega)
                            have hZ2 := stTp_Z2 Ozg22 hZ1 b
                            refine xj_iinc (n := 1) (i := 7) (v := nI 2) (lv1 := [(7, .int (nI 2)), (0, .ref 86), (1, .int (nI 5)), (2, .int a), (3, .int b), (4, .int c), (5, .int e), (6, .int f)]) 0 rfl (nI_1 1) rfl (Nat.le_of_ble_eq_true rfl) dX12_feed_136 ?_
                            refine xj_goto (tgt := 68) (by decide) dX12_feed_139 ?_
                            refine xj_iload (i := 7) 0 rfl dX12_feed_68 ?_
                            refine xj_iload_n (n := 1) (i := 1) 2 rfl rfl dX12_feed_70 ?_
                            refine xj_icmp_ge (tgt := 142) (by decide) dX12_feed_71 (fun zc71 => ?_) (fun zc71 => ?_)
                            · exact absurd zc71 (by decide)
                            · refine xj_aload_n (n := 0) (i := 0) 1 rfl rfl dX12_feed_74 ?_
                              refine yj_getf (v := .ref 91) fl_X12_26_12 (by omega) (fq_86 zg24) rfl dX12_feed_75 ?_
                              refine xj_aload_n (n := 0) (i := 0) 1 rfl rfl dX12_feed_78 ?_
                              refine yj_getf (v := .int (nI (aZ (stTp (stTp A a) b)))) fl_X12_83_12 (by omega) (fq_86 zg24) (congrArg (fun z => some (Value.int z)) (Czg24.Z Ozg24)) dX12_feed_79 ?_
                              refine xj_iload (i := 7) 0 rfl dX12_feed_82 ?_
                              refine xj_if_ne (tgt := 91) (by decide) dX12_feed_84 (fun zc84 => ?_) (fun zc84 => ?_)
                              · refine xj_iload (i := 7) 0 rfl dX12_feed_91 ?_
                                refine xj_iconst (v := 1) (by decide) dX12_feed_93 ?_
                                refine xj_icmp_ne (tgt := 101) (by decide) dX12_feed_94 (fun zc94 => ?_) (fun zc94 => ?_)
                                · refine xj_iload (i := 7) 0 rfl dX12_feed_101 ?_
                                  refine xj_iconst (v := 2) (by decide) dX12_feed_103 ?_
                                  refine xj_icmp_ne (tgt := 112) (by decide) dX12_feed_104 (fun zc104 => ?_) (fun zc104 => ?_)
                                  · exact absurd zc104 (fun z => z rfl)
                                  · refine xj_iload (i := 4) 5 rfl dX12_feed_107 ?_
                                    refine xj_goto (tgt := 125) (by decide) dX12_feed_109 ?_
                                    refine yj_iastN (aZ (stTp (stTp A a) b)) (by omega) fA_91 rfl (by omega) (by decide) dX12_feed_125 ?_
                                    obtain ⟨zg25, ezg25⟩ : ∃ z, z = gs zg24 91 (aZ (stTp (stTp A a) b)) c := ⟨_, rfl⟩
                                    rw [← ezg25]
                                    refine xj_aload_n (n := 0) (i := 0) 1 rfl rfl dX12_feed_126 ?_
                                    refine xj_dup rfl dX12_feed_127 ?_
                                    refine yj_getf (v := .int (nI (aZ (stTp (stTp A a) b)))) fl_X12_83_12 (by omega) (fq_86 zg25) (congrArg (fun z => some (Value.int z)) (by rw [ezg25, gs_n _ _ _ (by decide)]; exact Czg24.Z Ozg24)) dX12_feed_128 ?_
                                    refine xj_iconst (v := 1) (by decide) dX12_feed_131 ?_
                                    refine xj_iadd dX12_feed_132 ?_
                                    refine xj_top (nI_add (aZ (stTp (stTp A a) b)) 1) ?_
                                    refine yj_puti fl_X12_83_12 (by omega) fS_86_8 (fi_i _) dX12_feed_133 ?_
                                    obtain ⟨zg26, ezg26⟩ : ∃ z, z = gs zg25 86 8 (nI ((aZ (stTp (stTp A a) b)) + 1)) := ⟨_, rfl⟩
                                    rw [← ezg26]
                                    have Czg26 : mA zg26 (stTp (stTp (stTp A a) b) c) Λ := Czg24.tap Ozg24 c (by rw [ezg26, ezg25])
                                    have Ozg26 := okA.tap Ozg24 c (by omega)
                                    have hZ3 := stTp_Z2 Ozg24 hZ2 c
                                    refine xj_iinc (n := 1) (i := 7) (v := nI 3) (lv1 := [(7, .int (nI 3)), (0, .ref 86), (1, .int (nI 5)), (2, .int a), (3, .int b), (4, .int c), (5, .int e), (6, .int f)]) 0 rfl (nI_1 2) rfl (Nat.le_of_ble_eq_true rfl) dX12_feed_136 ?_
                                    refine xj_goto (tgt := 68) (by decide) dX12_feed_139 ?_
                                    refine xj_iload (i := 7) 0 rfl dX12_feed_68 ?_
                                    refine xj_iload_n (n := 1) (i := 1) 2 rfl rfl dX12_feed_70 ?_
                                    refine xj_icmp_ge (tgt := 142) (by decide) dX12_feed_71 (fun zc71 => ?_) (fun zc71 => ?_)
                                    · exact absurd zc71 (by decide)
                                    · refine xj_aload_n (n := 0) (i := 0) 1 rfl rfl dX12_feed_74 ?_
                                      refine yj_getf (v := .ref 91) fl_X12_26_12 (by omega) (fq_86 zg26) rfl dX12_feed_75 ?_
                                      refine xj_aload_n (n := 0) (i := 0) 1 rfl rfl dX12_feed_78 ?_
                                      refine yj_getf (v := .int (nI (aZ (stTp (stTp (stTp A a) b) c)))) fl_X12_83_12 (by omega) (fq_86 zg26) (congrArg (fun z => some (Value.int z)) (Czg26.Z Ozg26)) dX12_feed_79 ?_
                                      refine xj_iload (i := 7) 0 rfl dX12_feed_82 ?_
                                      refine xj_if_ne (tgt := 91) (by decide) dX12_feed_84 (fun zc84 => ?_) (fun zc84 => ?_)
                                      · refine xj_iload (i := 7) 0 rfl dX12_feed_91 ?_
                                        refine xj_iconst (v := 1) (by decide) dX12_feed_93 ?_
                                        refine xj_icmp_ne (tgt := 101) (by decide) dX12_feed_94 (fun zc94 => ?_) (fun zc94 => ?_)
                                        · refine xj_iload (i := 7) 0 rfl dX12_feed_101 ?_
                                          refine xj_iconst (v := 2) (by decide) dX12_feed_103 ?_
                                          refine xj_icmp_ne (tgt := 112) (by decide) dX12_feed_104 (fun zc104 => ?_) (fun zc104 => ?_)
                                          · refine xj_iload (i := 7) 0 rfl dX12_feed_112 ?_
                                            refine xj_iconst (v := 3) (by decide) dX12_feed_114 ?_
                                            refine xj_icmp_ne (tgt := 123) (by decide) dX12_feed_115 (fun zc115 => ?_) (fun zc115 => ?_)
                                            · exact absurd zc115 (fun z => z rfl)
                                            · refine xj_iload (i := 5) 6 rfl dX12_feed_118 ?_
                                              refine xj_goto (tgt := 125) (by decide) dX12_feed_120 ?_
                                              refine yj_iastN (aZ (stTp (stTp (stTp A a) b) c)) (by omega) fA_91 rfl (by omega) (by decide) dX12_feed_125 ?_
                                              obtain ⟨zg27, ezg27⟩ : ∃ z, z = gs zg26 91 (aZ (stTp (stTp (stTp A a) b) c)) e := ⟨_, rfl⟩
                                              rw [← ezg27]
                                              refine xj_aload_n (n := 0) (i := 0) 1 rfl rfl dX12_feed_126 ?_
                                              refine xj_dup rfl dX12_feed_127 ?_
                                              refine yj_getf (v := .int (nI (aZ (stTp (stTp (stTp A a) b) c)))) fl_X12_83_12 (by omega) (fq_86 zg27) (congrArg (fun z => some (Value.int z)) (by rw [ezg27, gs_n _ _ _ (by decide)]; exact Czg26.Z Ozg26)) dX12_feed_128 ?_
                                              refine xj_iconst (v := 1) (by decide) dX12_feed_131 ?_
                                              refine xj_iadd dX12_feed_132 ?_
                                              refine xj_top (nI_add (aZ (stTp (stTp (stTp A a) b) c)) 1) ?_
                                              refine yj_puti fl_X12_83_12 (by omega) fS_86_8 (fi_i _) dX12_feed_133 ?_
                                              obtain ⟨zg28, ezg28⟩ : ∃ z, z = gs zg27 86 8 (nI ((aZ (stTp (stTp (stTp A a) b) c)) + 1)) := ⟨_, rfl⟩
                                              rw [← ezg28]
                                              have Czg28 : mA zg28 (stTp (stTp (stTp (stTp A a) b) c) e) Λ := Czg26.tap Ozg26 e (by rw [ezg28, ezg27])
                                              have Ozg28 := okA.tap Ozg26 e (by omega)
                                              have hZ4 := stTp_Z2 Ozg26 hZ3 e
                                              refine xj_iinc (n := 1) (i := 7) (v := nI 4) (lv1 := [(7, .int (nI 4)), (0, .ref 86), (1, .int (nI 5)), (2, .int a), (3, .int b), (4, .int c), (5, .int e), (6, .int f)]) 0 rfl (nI_1 3) rfl (Nat.le_of_ble_eq_true rfl) dX12_feed_136 ?_
                                              refine xj_goto (tgt := 68) (by decide) dX12_feed_139 ?_
                                              refine xj_iload (i := 7) 0 rfl dX12_feed_68 ?_
                                              refine xj_iload_n (n := 1) (i := 1) 2 rfl rfl dX12_feed_70 ?_
                                              refine xj_icmp_ge (tgt := 142) (by decide) dX12_feed_71 (fun zc71 => ?_) (fun zc71 => ?_)
                                              · exact absurd zc71 (by decide)
                                              · refine xj_aload_n (n := 0) (i := 0) 1 rfl rfl dX12_feed_74 ?_
                                                refine yj_getf (v := .ref 91) fl_X12_26_12 (by omega) (fq_86 zg28) rfl dX12_feed_75 ?_
                                                refine xj_aload_n (n := 0) (i := 0) 1 rfl rfl dX12_feed_78 ?_
                                                refine yj_getf (v := .int (nI (aZ (stTp (stTp (stTp (stTp A a) b) c) e)))) fl_X12_83_12 (by omega) (fq_86 zg28) (congrArg (fun z => some (Value.int z)) (Czg28.Z Ozg28)) dX12_feed_79 ?_
                                                refine xj_iload (i := 7) 0 rfl dX12_feed_82 ?_
                                                refine xj_if_ne (tgt := 91) (by decide) dX12_feed_84 (fun zc84 => ?_) (fun zc84 => ?_)
                                                · refine xj_iload (i := 7) 0 rfl dX12_feed_91 ?_
                                                  refine xj_iconst (v := 1) (by decide) dX12_feed_93 ?_
                                                  refine xj_icmp_ne (tgt := 101) (by decide) dX12_feed_94 (fun zc94 => ?_) (fun zc94 => ?_)
                                                  · refine xj_iload (i := 7) 0 rfl dX12_feed_101 ?_
                                                    refine xj_iconst (v := 2) (by decide) dX12_feed_103 ?_
                                                    refine xj_icmp_ne (tgt := 112) (by decide) dX12_feed_104 (fun zc104 => ?_) (fun zc104 => ?_)
                                                    · refine xj_iload (i := 7) 0 rfl dX12_feed_112 ?_
                                                      refine xj_iconst (v := 3) (by decide) dX12_feed_114 ?_
                                                      refine xj_icmp_ne (tgt := 123) (by decide) dX12_feed_115 (fun zc115 => ?_) (fun zc115 => ?_)
                                                      · refine xj_iload (i := 6) 7 rfl dX12_feed_123 ?_
                                                        refine yj_iastN (aZ (stTp (stTp (stTp (stTp A a) b) c) e)) (by omega) fA_91 rfl (by omega) (by decide) dX12_feed_125 ?_
                                                        obtain ⟨zg29, ezg29⟩ : ∃ z, z = gs zg28 91 (aZ (stTp (stTp (stTp (stTp A a) b) c) e)) f := ⟨_, rfl⟩
                                                        rw [← ezg29]
                                                        refine xj_aload_n (n := 0) (i := 0) 1 rfl rfl dX12_feed_126 ?_
                                                        refine xj_dup rfl dX12_feed_127 ?_
                                                        refine yj_getf (v := .int (nI (aZ (stTp (stTp (stTp (stTp A a) b) c) e)))) fl_X12_83_12 (by omega) (fq_86 zg29) (congrArg (fun z => some (Value.int z)) (by rw [ezg29, gs_n _ _ _ (by decide)]; exact Czg28.Z Ozg28)) dX12_feed_128 ?_
                                                        refine xj_iconst (v := 1) (by decide) dX12_feed_131 ?_
                                                        refine xj_iadd dX12_feed_132 ?_
                                                        refine xj_top (nI_add (aZ (stTp (stTp (stTp (stTp A a) b) c) e)) 1) ?_
                                                        refine yj_puti fl_X12_83_12 (by omega) fS_86_8 (fi_i _) dX12_feed_133 ?_
                                                        obtain ⟨zg30, ezg30⟩ : ∃ z, z = gs zg29 86 8 (nI ((aZ (stTp (stTp (stTp (stTp A a) b) c) e)) + 1)) := ⟨_, rfl⟩
                                                        rw [← ezg30]
                                                        have Czg30 : mA zg30 (stTp (stTp (stTp (stTp (stTp A a) b) c) e) f) Λ := Czg28.tap Ozg28 f (by rw [ezg30, ezg29])
                                                        have Ozg30 := okA.tap Ozg28 f (by omega)
                                                        have hZ5 := stTp_Z2 Ozg28 hZ4 f
                                                        refine xj_iinc (n := 1) (i := 7) (v := nI 5) (lv1 := [(7, .int (nI 5)), (0, .ref 86), (1, .int (nI 5)), (2, .int a), (3, .int b), (4, .int c), (5, .int e), (6, .int f)]) 0 rfl (nI_1 4) rfl (Nat.le_of_ble_eq_true rfl) dX12_feed_136 ?_
                                                        refine xj_goto (tgt := 68) (by decide) dX12_feed_139 ?_
                                                        refine xj_iload (i := 7) 0 rfl dX12_feed_68 ?_
                                                        refine xj_iload_n (n := 1) (i := 1) 2 rfl rfl dX12_feed_70 ?_
                                                        refine xj_icmp_ge (tgt := 142) (by decide) dX12_feed_71 (fun zc71 => ?_) (fun zc71 => ?_)
                                                        · refine xj_aload_n (n := 0) (i := 0) 1 rfl rfl dX12_feed_142 ?_
                                                          refine yj_getf (v := .int (nI (aZ (stTp (stTp (stTp (stTp (stTp A a) b) c) e) f)))) fl_X12_83_12 (by omega) (fq_86 zg30) (congrArg (fun z => some (Value.int z)) (Czg30.Z Ozg30)) dX12_feed_143 ?_
                                                          have er : rFeed A (nI 5) a b c e f = ((nI (aZ (stTp (stTp (stTp (stTp (stTp A a) b) c) e) f))), (stTp (stTp (stTp (stTp (stTp A a) b) c) e) f)) := by unfold rFeed; (try simp only [nI_clamp (show 5 < 2147483648 by omega)]); rw [if_pos zp13, if_pos zp20, if_pos zp28, if_pos zp36, if_pos zp44, if_neg hin.1, if_neg hin.2, if_pos zc59]; all_goals ((first | rfl | (rw [nI_clamp (by decide)]; rfl)))
                                                          exact xj_ireturn rfl (nr_i _) (Nat.zero_le _) (Nat.zero_le _) dX12_feed_146 (qI_e (by rw [er]; exact ⟨rfl, Czg30, (fun j hj => by unfold mX at hj; rw [ezg30, gs_n _ _ _ (by omega), ezg29, gs_n _ _ _ (by omega), ezg28, gs_n _ _ _ (by omega), ezg27, gs_n _ _ _ (by omega), ezg26, gs_n _ _ _ (by omega), ezg25, gs_n _ _ _ (by omega), ezg24, gs_n _ _ _ (by omega), ezg23, gs_n _ _ _ (by omega), ezg22, gs_n _ _ _ (by omega), ezg21, gs_n _ _ _ (by omega)])⟩))
                                                        · exact absurd (by decide) zc71
                                                      · exact absurd zc115 (by decide)
                                                    · exact absurd zc104 (by decide)
                                                  · exact absurd zc94 (by decide)
                                                · exact absurd zc84 (by decide)
                                          · exact absurd zc104 (by decide)
                                        · exact absurd zc94 (by decide)
                                      · exact absurd zc84 (by decide)
                                · exact absurd zc94 (by decide)
                              · exact absurd zc84 (by decide)
                        · exact absurd zc84 (by decide)
                · refine xj_bipush (v := (-4)) (by decide) dX12_feed_62 ?_
                  have er : rFeed A (nI 5) a b c e f = ((-4), A) := by unfold rFeed; (try simp only [nI_clamp (show 5 < 2147483648 by omega)]); rw [if_pos zp13, if_pos zp20, if_pos zp28, if_pos zp36, if_pos zp44, if_neg hin.1, if_neg hin.2, if_neg zc59]; all_goals (rfl)
                  exact xj_ireturn rfl (nr_i _) (Nat.zero_le _) (Nat.zero_le _) dX12_feed_64 (qI_e (by rw [er]; exact ⟨rfl, C, fr.rf⟩))
            · have zp44 : ¬ (0 ≤ f ∧ f ≤ 255) := bI_0.mp zc44
              refine xj_bipush (v := (-2)) (by decide) dX12_feed_47 ?_
              have er : rFeed A n1 a b c e f = (-2, A) := rFeed_no (fun z => zp44 z.2.2.2.2.2)
              exact xj_ireturn rfl (nr_i _) (Nat.zero_le _) (Nat.zero_le _) dX12_feed_49 (qI_e (by rw [er]; exact ⟨rfl, C, fr.rf⟩))
set_option maxHeartbeats 4000000 in
set_option maxRecDepth 100000 in
theorem c_X12_sleep (l : Launch) (d : Nat) (n : Nat) (hn : 110 ≤ n) (g : xG) (A : zSt) (Λ : Nat → xL) (O : okA A) (C : mA g A Λ)  : xC l yX12_sleep cX12_sleep 4 (some .int) (xR (d + 5) 0 0) [.ref 86] (n, fh g) (qI n fun v g1 => v = (rSleep A Λ).1 ∧ mA g1 (rSleep A Λ).2 Λ ∧ fr mX g g1) := by
  refine xC_of false (by decide +kernel) (fun z => by cases z) (Nat.le_of_ble_eq_true rfl) ?_
  have hS6 := O.1.2
  have hW := O.W
  have hT6 := O.2.2.2.1.2.2
  have hN9 := O.2.1.2
  show xJ l (RX12, 4, (some .int), false, (xR (d + 5) 0 0), none) cX12_sleep _ 0 0 0 [(0, .ref 86)] [] (n, fh g)
  refine xj_aload_n (n := 0) (i := 0) 0 rfl rfl dX12_sleep_0 ?_
  refine yj_getf (v := .int (nI (aN A))) fl_X12_97_12 (by omega) (fq_86 g) (congrArg (fun z => some (Value.int z)) (C.N O)) dX12_sleep_1 ?_
  refine xj_sipush (v := 999) (by decide) dX12_sleep_4 ?_
  refine xj_icmp_ne (tgt := 13) (by decide) dX12_sleep_7 (fun zc7 => ?_) (fun zc7 => ?_)
  · have hN8 : nI (aN A) < 999 := nI_lt (b := 999) (by have h : ¬ aN A = 999 := fun z => zc7 (by rw [z]; rfl); omega) (by decide)
    refine xj_iconst (v := 0) (by decide) dX12_sleep_13 ?_
    refine xj_istore_n (n := 1) (i := 1) (lv1 := [(1, .int 0), (0, .ref 86)]) rfl rfl (Nat.le_of_ble_eq_true rfl) dX12_sleep_14 ?_
    have key : ∀ i, i ≤ aS A → ∀ (g1 : xG), mA g1 (slA A Λ i) Λ → fr mX g g1 → xJ l (RX12, 4, (some .int), false, (xR (d + 5) 0 0), none) cX12_sleep (qI n fun v g1 => v = (rSleep A Λ).1 ∧ mA g1 (rSleep A Λ).2 Λ ∧ fr mX g g1) 0 0 15 [(1, .int (nI i)), (0, .ref 86)] [] (n, fh g1) := by
      refine x_loop (aS A) _ ?_ ?_
      · intro g1 C1 hf
        have hS0 := slA_lo A Λ (aS A) 0 (Or.inl (by decide))
        have U : g1 86 0 = nI (aS A) ∧ g1 86 5 = nI (aN A) := ⟨by rw [C1.1.1, hS0]; exact O.1.1, by rw [C1.1.2.1, hS0]; exact O.2.1.1⟩
        refine xj_iload_n (n := 1) (i := 1) 0 rfl rfl dX12_sleep_15 ?_
        refine xj_aload_n (n := 0) (i := 0) 1 rfl rfl dX12_sleep_16 ?_
        refine yj_getf (v := .int (nI (aS A))) fl_X12_90_12 (by omega) (fq_86 g1) (congrArg (fun z => some (Value.int z)) U.1) dX12_sleep_17 ?_
        refine xj_icmp_ge (tgt := 85) (by decide) dX12_sleep_20 (fun zc20 => ?_) (fun zc20 => ?_)
        · refine xj_aload_n (n := 0) (i := 0) 1 rfl rfl dX12_sleep_85 ?_
          refine xj_dup rfl dX12_sleep_86 ?_
          refine yj_getf (v := .int (nI (aN A))) fl_X12_97_12 (by omega) (fq_86 g1) (congrArg (fun z => some (Value.int z)) U.2) dX12_sleep_87 ?_
          refine xj_iconst (v := 1) (by decide) dX12_sleep_90 ?_
          refine xj_iadd dX12_sleep_91 ?_
          refine xj_top (nI_add (aN A) 1) ?_
          refine yj_puti fl_X12_97_12 (by omega) fS_86_5 (fi_i _) dX12_sleep_92 ?_
          obtain ⟨zg1, ezg1⟩ : ∃ z, z = gs g1 86 5 (nI ((aN A) + 1)) := ⟨_, rfl⟩
          rw [← ezg1]
          refine xj_aload_n (n := 0) (i := 0) 1 rfl rfl dX12_sleep_95 ?_
          refine yj_getf (v := .int (nI ((aN A) + 1))) fl_X12_97_12 (by omega) (fq_86 zg1) (congrArg (fun z => some (Value.int z)) (by rw [ezg1, gs_s, upd_s])) dX12_sleep_96 ?_
          have er : rSleep A Λ = ((nI ((aN A) + 1)), gs (slA A Λ (aS A)) 0 1 (nI (aN A + 1))) := by unfold rSleep; rw [if_pos hN8]; all_goals (rfl)
          exact xj_ireturn rfl (nr_i _) (Nat.zero_le _) (Nat.zero_le _) dX12_sleep_99 (qI_e (by rw [er]; exact ⟨rfl, (by rw [ezg1]; exact C1.num (Or.inl ⟨rfl, rfl⟩) _), (by rw [ezg1]; exact hf.gs (mX_i (by omega)) _ _)⟩))
        · exact absurd (nI_le (Nat.le_refl _) (by omega)) zc20
      · intro i hi ih g1 C1 hf
        have hS0 := slA_lo A Λ i 0 (Or.inl (by decide))
        have U : g1 86 0 = nI (aS A) ∧ g1 86 5 = nI (aN A) := ⟨by rw [C1.1.1, hS0]; exact O.1.1, by rw [C1.1.2.1, hS0]; exact O.2.1.1⟩
        have hs6_i : i < 6 := by omega
        refine xj_iload_n (n := 1) (i := 1) 0 rfl rfl dX12_sleep_15 ?_
        refine xj_aload_n (n := 0) (i := 0) 1 rfl rfl dX12_sleep_16 ?_
        refine yj_getf (v := .int (nI (aS A))) fl_X12_90_12 (by omega) (fq_86 g1) (congrArg (fun z => some (Value.int z)) U.1) dX12_sleep_17 ?_
        refine xj_icmp_ge (tgt := 85) (by decide) dX12_sleep_20 (fun zc20 => ?_) (fun zc20 => ?_)
        · exact absurd zc20 (nI_ge hi (by omega))
        · refine xj_iconst (v := 0) (by decide) dX12_sleep_23 ?_
          refine xj_istore_n (n := 2) (i := 2) (lv1 := [(2, .int 0), (1, .int (nI i)), (0, .ref 86)]) rfl rfl (Nat.le_of_ble_eq_true rfl) dX12_sleep_24 ?_
          have key2 : ∀ j, j ≤ 16 → ∀ (g2 : xG), mA g2 (slB A Λ i j) Λ → fr mX g g2 → xJ l (RX12, 4, (some .int), false, (xR (d + 5) 0 0), none) cX12_sleep (qI n fun v g1 => v = (rSleep A Λ).1 ∧ mA g1 (rSleep A Λ).2 Λ ∧ fr mX g g1) 0 0 25 [(2, .int (nI j)), (1, .int (nI i)), (0, .ref 86)] [] (n, fh g2) := by
            refine x_loop 16 _ ?_ ?_
            · intro g2 C2 hf2
              refine xj_iload_n (n := 2) (i := 2) 0 rfl rfl dX12_sleep_25 ?_
              refine xj_bipush (v := 16) (by decide) dX12_sleep_26 ?_
              refine xj_icmp_ge (tgt := 79) (by decide) dX12_sleep_28 (fun zc28 => ?_) (fun zc28 => ?_)
              · refine xj_iinc (n := 1) (i := 1) (v := nI (i + 1)) (lv1 := [(1, .int (nI (i + 1))), (2, .int (nI 16)), (0, .ref 86)]) 1 rfl (nI_1 i) rfl (Nat.le_of_ble_eq_true rfl) dX12_sleep_79 ?_
                refine xj_goto (tgt := 15) (by decide) dX12_sleep_82 ?_
                refine xj_sub (lv' := [(1, .int (nI (i + 1))), (0, .ref 86)]) [0, 2] rfl ?_
                exact ih g2 (by rw [← slB_16]; exact C2) hf2
              · exact absurd (nI_le (Nat.le_refl _) (by decide)) zc28
            · intro j hi2 ih2 g2 C2 hf2
              have V := slB_use O hi C2
              refine xj_iload_n (n := 2) (i := 2) 0 rfl rfl dX12_sleep_25 ?_
              refine xj_bipush (v := 16) (by decide) dX12_sleep_26 ?_
              refine xj_icmp_ge (tgt := 79) (by decide) dX12_sleep_28 (fun zc28 => ?_) (fun zc28 => ?_)
              · exact absurd zc28 (nI_ge hi2 (by decide))
              · refine xj_bipush (v := 16) (by decide) dX12_sleep_31 ?_
                refine xj_iload_n (n := 1) (i := 1) 1 rfl rfl dX12_sleep_33 ?_
                refine xj_imul dX12_sleep_34 ?_
                refine xj_top (pk_mul 16 i) ?_
                refine xj_iload_n (n := 2) (i := 2) 0 rfl rfl dX12_sleep_35 ?_
                refine xj_iadd dX12_sleep_36 ?_
                refine xj_top (nI_add _ _) ?_
                refine xj_istore_n (n := 3) (i := 3) (lv1 := [(3, .int (nI ((16 * i) + j))), (2, .int (nI j)), (1, .int (nI i)), (0, .ref 86)]) rfl rfl (Nat.le_of_ble_eq_true rfl) dX12_sleep_37 ?_
                refine xj_aload_n (n := 0) (i := 0) 3 rfl rfl dX12_sleep_38 ?_
                refine yj_getf (v := .ref 89) fl_X12_16_12 (by omega) (fq_86 g2) rfl dX12_sleep_39 ?_
                refine xj_iload_n (n := 3) (i := 3) 0 rfl rfl dX12_sleep_42 ?_
                refine xj_aload_n (n := 0) (i := 0) 3 rfl rfl dX12_sleep_43 ?_
                refine yj_getf (v := .ref 89) fl_X12_16_12 (by omega) (fq_86 g2) rfl dX12_sleep_44 ?_
                refine xj_iload_n (n := 3) (i := 3) 0 rfl rfl dX12_sleep_47 ?_
                refine yj_ialdN ((16 * i) + j) (by omega) fA_89 rfl (by omega) (by decide) dX12_sleep_48 ?_
                refine xj_top (V.2.2.1 hi2) ?_
                refine xj_aload_n (n := 0) (i := 0) 3 rfl rfl dX12_sleep_49 ?_
                refine xj_iload_n (n := 1) (i := 1) 2 rfl rfl dX12_sleep_50 ?_
                refine xj_iload_n (n := 2) (i := 2) 1 rfl rfl dX12_sleep_51 ?_
                refine xj_aload_n (n := 0) (i := 0) 3 rfl rfl dX12_sleep_52 ?_
                refine yj_getf (v := .ref 89) fl_X12_16_12 (by omega) (fq_86 g2) rfl dX12_sleep_53 ?_
                refine xj_iload_n (n := 3) (i := 3) 0 rfl rfl dX12_sleep_56 ?_
                refine yj_ialdN ((16 * i) + j) (by omega) fA_89 rfl (by omega) (by decide) dX12_sleep_57 ?_
                refine xj_top (V.2.2.1 hi2) ?_
                refine xj_aload_n (n := 0) (i := 0) 3 rfl rfl dX12_sleep_58 ?_
                refine yj_getf (v := .int (nI (aN A))) fl_X12_97_12 (by omega) (fq_86 g2) (congrArg (fun z => some (Value.int z)) (show g2 86 0 = nI (aS A) ∧ g2 86 5 = nI (aN A) from ⟨V.1, V.2.1⟩).2) dX12_sleep_59 ?_
                refine xj_callV kv_X12_218 (c_X12_dullerOf l (d + 1) n hn g2 (slB A Λ i j) Λ (slB_ok Λ O hi j) C2 i j V.2.2.2.1 (by omega) (A (10 + i) j) (nI (aN A))) (As := [.int (nI i), .int (nI j), .int (A (10 + i) j), .int (nI (aN A))]) (st := [.int (A (10 + i) j), .int (nI ((16 * i) + j)), .ref 89]) (by omega) (fq_86 g2) (ci := 12) rfl rfl rfl rfl (xRm_of (by omega) (by decide) (by omega) (by omega)) (Nat.le_of_ble_eq_true rfl) dX12_sleep_62 (yk_i (kc := 0) (ks := 0) fun zv2 zg3 hzg3 => ?_)
                obtain ⟨hv9, hfn9⟩ := hzg3
                rw [V.2.2.2.2.1, V.2.2.2.2.2.1, V.2.2.2.2.2.2.1, V.2.2.2.2.2.2.2] at hv9
                have C3 := C2.keep (fm.of hfn9 sN_m)
                refine xj_iadd dX12_sleep_65 ?_
                refine xj_iconst (v := 0) (by decide) dX12_sleep_66 ?_
                refine xj_bipush (v := 99) (by decide) dX12_sleep_67 ?_
                refine xj_callS ks_X12_173 (c_X12_within l (d + 4) ((A (10 + i) j) + zv2) 0 99 _) (As := [.int ((A (10 + i) j) + zv2), .int 0, .int 99]) (st := [.int (nI ((16 * i) + j)), .ref 89]) rfl rfl (xRm_of (by omega) (by decide) (by omega) (by omega)) (Nat.le_of_ble_eq_true rfl) dX12_sleep_69 (yk_p (kc := 0) (ks := 0) ?_)
                refine xj_topi (fun zv4 ezv4 => ?_)
                refine yj_iastN ((16 * i) + j) (by omega) fA_89 rfl (by omega) (by decide) dX12_sleep_72 ?_
                obtain ⟨zg5, ezg5⟩ : ∃ z, z = gs zg3 89 ((16 * i) + j) zv4 := ⟨_, rfl⟩
                rw [← ezg5]
                refine xj_iinc (n := 1) (i := 2) (v := nI (j + 1)) (lv1 := [(2, .int (nI (j + 1))), (3, .int (nI ((16 * i) + j))), (1, .int (nI i)), (0, .ref 86)]) 1 rfl (nI_1 j) rfl (Nat.le_of_ble_eq_true rfl) dX12_sleep_73 ?_
                refine xj_goto (tgt := 25) (by decide) dX12_sleep_76 ?_
                refine xj_sub (lv' := [(2, .int (nI (j + 1))), (1, .int (nI i)), (0, .ref 86)]) [0, 2, 3] rfl ?_
                have hz9 : zv4 = min99 (A (10 + i) j + dlrF (Λ (aW A)) (aK A i) (A 2 i) (A 3 i) j (A (10 + i) j) (nI (aN A))) := by rw [ezv4, hv9]; exact wi_99 (m := 208) (by decide) (dlr_n O hi j (nI (aN A)) (O.dl hi hi2))
                exact ih2 zg5 (by rw [ezg5, hz9]; exact slB_step O hi hi2 C3) (by rw [ezg5]; exact (hf2.tr (fm.of hfn9 sN_m).fr).gs (mX_i (by omega)) _ _)
          refine xj_sub (lv' := [(2, .int 0), (1, .int (nI i)), (0, .ref 86)]) [0, 1, 2] rfl ?_
          exact key2 0 (Nat.zero_le _) g1 (by rw [slB_0]; exact C1) hf
    refine xj_sub (lv' := [(1, .int 0), (0, .ref 86)]) [0, 1] rfl ?_
    exact key 0 (Nat.zero_le _) g C fr.rf
  · have hN8 : ¬ nI (aN A) < 999 := fun z => by have h1 := (nI_ltI (b := 999) (by omega) (by decide)).mp z; have h2 := (nI_eq (b := 999) (by omega) (by decide)).mp zc7; omega
    refine xj_bipush (v := (-3)) (by decide) dX12_sleep_10 ?_
    have er : rSleep A Λ = ((-3), A) := by unfold rSleep; rw [if_neg hN8]; all_goals (rfl)
    exact xj_ireturn rfl (nr_i _) (Nat.zero_le _) (Nat.zero_le _) dX12_sleep_12 (qI_e (by rw [er]; exact ⟨rfl, C, fr.rf⟩))
