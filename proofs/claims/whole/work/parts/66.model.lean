/-! WHAT EACH CALL LEAVES IS RIGHT -/
theorem nI99_of {x M : Int32} {m : Nat} (hM : M.toInt = m) (h : 0 ≤ x ∧ x ≤ M) : nI99 x m := by
  obtain ⟨k, hk, e⟩ := nI_bnd hM h.1 h.2
  exact ⟨k, hk, e⟩
theorem rHours_ok {A : zSt} (O : okA A) (n : Int32) : okA (rHours A n).2 := by
  unfold rHours
  by_cases h : 0 ≤ n ∧ n ≤ 999
  · rw [if_pos h]; exact O.num _ (Or.inr (Or.inl ⟨rfl, nI99_of (by decide) h⟩))
  · rw [if_neg h]; exact O
theorem rForce_ok {A : zSt} (O : okA A) (t : Int32) : okA (rForce A t).2 := by
  unfold rForce
  by_cases h : 0 ≤ t ∧ t ≤ nI (aT A) - 1
  · rw [if_pos h]
    have hT := O.2.2.2.1.2.2
    obtain ⟨k, hk, e⟩ := le_m1 (by omega) h.1 h.2
    exact O.num _ (Or.inr (Or.inr ⟨rfl, k, hk, e⟩))
  · rw [if_neg h]; exact O
theorem upd_99 {A : zSt} {s : Nat} (O : okA A) (hs : s < aS A) (k : Nat) {x : Int32} (hx : nI99 x 99) : ∀ c, c < 16 → nI99 (upd (A (10 + s)) k x c) 99 := fun c hc => by
  by_cases e : c = k
  · subst e; rw [upd_s]; exact hx
  · rw [upd_n _ _ e]; exact O.dl hs hc
theorem rClean_ok {A : zSt} (Λ : Nat → xL) (O : okA A) (s c : Int32) : okA (rClean A Λ s c).2 := by
  unfold rClean
  by_cases h : isSl A s
  · rw [if_pos h]
    split
    · split
      · obtain ⟨k, hk, rfl⟩ := isSl_of O h
        have hS := O.1.2
        rw [nI_clamp (by omega)]
        exact O.rowD hk (upd_99 O hk _ ⟨0, by omega, rfl⟩)
      · exact O
    · exact O
  · rw [if_neg h]; exact O
theorem rPut_ok {A : zSt} (O : okA A) (s what v : Int32) : okA (rPut A s what v).2 := by
  unfold rPut
  by_cases h : isSl A s
  · rw [if_pos h]
    obtain ⟨k, hk, rfl⟩ := isSl_of O h
    have hS := O.1.2
    rw [nI_clamp (by omega)]
    split
    · split
      · split
        · rename_i h3
          exact O.pic (nI99_of (by decide) h3)
        · exact O
      · split
        · rename_i h3
          exact O.rowD hk (upd_99 O hk _ (nI99_of (by decide) h3))
        · exact O
    · exact O
  · rw [if_neg h]; exact O
theorem rSheet_ok {A : zSt} (O : okA A) (q sort n : Int32) : okA (rSheet A q sort n).2 := by
  unfold rSheet
  by_cases h : 0 ≤ q ∧ q ≤ 3
  · rw [if_pos h]
    obtain ⟨k, hk, rfl⟩ := nI_bnd (m := 3) (by decide) h.1 h.2
    rw [nI_clamp (by omega)]
    by_cases h1 : sort = -1
    · rw [if_pos h1]; exact O.sht (by omega) (Or.inl h1) ⟨0, by omega, rfl⟩
    · rw [if_neg h1]
      by_cases h2 : 0 ≤ sort ∧ sort ≤ 2
      · rw [if_pos h2]
        by_cases h3 : n ≤ 40
        · rw [if_pos h3]
          by_cases h4 : n ≥ 0
          · rw [if_pos h4]
            refine O.sht (by omega) (Or.inr ?_) (nI99_of (by decide) ⟨h4, h3⟩)
            obtain ⟨j, hj, rfl⟩ := nI_bnd (m := 2) (by decide) h2.1 h2.2
            rcases (show j = 0 ∨ j = 1 ∨ j = 2 by omega) with rfl | rfl | rfl
            · exact Or.inl rfl
            · exact Or.inr (Or.inl rfl)
            · exact Or.inr (Or.inr rfl)
          · rw [if_neg h4]; exact O
        · rw [if_neg h3]; exact O
      · rw [if_neg h2]; exact O
  · rw [if_neg h]; exact O
theorem sht_same {A : zSt} (O : okA A) {q : Nat} (hq : q < 4) (r : Nat → Int32) : okA (stQ A q (A 5 q) (A 6 q) r) := by
  have h := O.2.2.2.2.2.2.2.2 q hq
  exact O.sht hq h.1 ⟨aQ A q, h.2.2, h.2.1⟩
theorem rCell_ok {A : zSt} (O : okA A) (q i v : Int32) : okA (rCell A q i v).2 := by
  unfold rCell
  by_cases h : 0 ≤ q ∧ q ≤ 3
  · rw [if_pos h]
    obtain ⟨k, hk, rfl⟩ := nI_bnd (m := 3) (by decide) h.1 h.2
    rw [nI_clamp (by omega)]
    split
    · exact O
    · split
      · exact sht_same O (by omega) _
      · exact O
  · rw [if_neg h]; exact O
theorem tap_ok : ∀ (L : List Int32) (A : zSt), okA A → aZ A + L.length ≤ 160 → okA (L.foldl stTp A)
  | [], A, O, _ => O
  | b :: L, A, O, h => by
    rw [List.length_cons] at h
    exact tap_ok L (stTp A b) (O.tap b (by omega)) (by rw [stTp_Z O]; omega)
theorem rFeed_ok {A : zSt} (O : okA A) (n a b c d e : Int32) : okA (rFeed A n a b c d e).2 := by
  unfold rFeed
  split
  · split
    · split
      · split
        · split
          · split
            · exact O
            · split
              · exact O
              · split
                · rename_i h1 h2 h3
                  refine tap_ok _ A O ?_
                  have hZ := O.2.2.2.2.2.1.2
                  rcases feed_n h1 h2 with rfl | rfl | rfl | rfl | rfl <;>
                  · rw [nI_clamp (by decide)] at h3 ⊢
                    have h4 := (nI_leI (b := 160) (by omega) (by decide)).mp h3
                    simp only [List.take, List.length_cons, List.length_nil]
                    omega
                · exact O
          · exact O
        · exact O
      · exact O
    · exact O
  · exact O
theorem rSleep_ok {A : zSt} (Λ : Nat → xL) (O : okA A) : okA (rSleep A Λ).2 := by
  unfold rSleep
  by_cases h : nI (aN A) < 999
  · rw [if_pos h]
    have hN := O.2.1.2
    have h2 : aN A < 999 := (nI_ltI (b := 999) (by omega) (by decide)).mp h
    exact (slA_ok Λ O _ (Nat.le_refl _)).num _ (Or.inl ⟨rfl, aN A + 1, by omega, rfl⟩)
  · rw [if_neg h]; exact O
theorem rImage_ok {A : zSt} (O : okA A) : okA (rImage A).2 := O.img
theorem rBack_ok {A : zSt} (O : okA A) : okA (rBack A).2 := by
  unfold rBack
  by_cases h : A 0 6 = 0
  · rw [if_pos h]; exact O
  · rw [if_neg h]; exact O.bck (O.2.2.2.2.2.2.2.1.resolve_left h).1
theorem rCopy_ok {A : zSt} (O : okA A) (q i o j n : Int32) : okA (rCopy A q i o j n).2 := by
  unfold rCopy
  split
  · by_cases h : 0 ≤ o ∧ o ≤ 3
    · rw [if_pos h]
      obtain ⟨k, hk, rfl⟩ := nI_bnd (m := 3) (by decide) h.1 h.2
      rw [nI_clamp (n := k) (by omega)]
      split
      · exact O
      · split
        · exact O
        · split
          · split
            · split
              · exact sht_same O (by omega) _
              · exact O
            · exact O
          · exact O
    · rw [if_neg h]; exact O
  · exact O
theorem sbyF_ok (q : Nat) (x : Nat → Int32) (z : Nat) (fr : Int32) : ∀ (k i : Nat) (m : Int32) (A : zSt), okA A → okA (sbyF q x z fr k i m A).2
  | 0, _, _, _, O => O
  | k + 1, i, m, A, O => by
    unfold sbyF
    split
    · exact sbyF_ok q x z fr k (i + 1) _ _ (rSl_ok O _ _ _)
    · exact O
theorem rSlBy_ok {A : zSt} (O : okA A) (q sort fr n : Int32) : okA (rSlBy A q sort fr n).2 := by
  unfold rSlBy
  split
  · split
    · split
      · split
        · exact O
        · split
          · exact sbyF_ok _ _ _ _ _ _ _ _ O
          · exact O
      · exact O
    · exact O
  · exact O
theorem rFilm_ok {A : zSt} (Λ : Nat → xL) (O : okA A) (q s n : Int32) : okA (rFilm A Λ q s n).2 := by
  unfold rFilm
  by_cases h : 0 ≤ q ∧ q ≤ 3
  · rw [if_pos h]
    obtain ⟨k, hk, rfl⟩ := nI_bnd (m := 3) (by decide) h.1 h.2
    rw [nI_clamp (n := k) (by omega)]
    split
    · by_cases h3 : 0 ≤ n ∧ n ≤ 20
      · rw [if_pos h3]
        exact O.sht (by omega) (Or.inr (Or.inr (Or.inr rfl))) (nI99_le (nI99_of (m := 20) (by decide) h3) (by omega))
      · rw [if_neg h3]; exact O
    · exact O
  · rw [if_neg h]; exact O
theorem mA.q40 {g : xG} {A : zSt} {Λ : Nat → xL} {q : Nat} {so sz : Int32} {r r' : Nat → Int32} (C : mA g (stQ A q so sz r) Λ) (hq : q < 4) (h : ∀ j, j < 40 → r j = r' j) (O : okA (stQ A q so sz r)) : mA g (stQ A q so sz r') Λ := by
  obtain ⟨c1, cp, ct, cb, ci, cq, cw⟩ := C
  have e : ∀ j, j ≠ 40 + q → stQ A q so sz r' j = stQ A q so sz r j := fun j hj => by
    unfold stQ
    by_cases h5 : j = 5
    · rw [if_pos h5, if_pos h5]
    · rw [if_neg h5, if_neg h5]
      by_cases h6 : j = 6
      · rw [if_pos h6, if_pos h6]
      · rw [if_neg h6, if_neg h6, if_neg hj, if_neg hj]
  have e0 := e 0 (by omega)
  refine ⟨by unfold mA1; rw [e0]; exact c1, ?_, ?_, ?_, ?_, fun p hp => ?_, cw⟩
  · intro s hs
    have hs' : s < aS (stQ A q so sz r) := by unfold aS at hs ⊢; rw [← e0]; exact hs
    rw [e 1 (by omega), e 2 (by omega), e 3 (by omega)]
    obtain ⟨x1, x2, x3, x4⟩ := cp s hs'
    refine ⟨x1, x2, x3, fun c hc => (x4 c hc).trans ?_⟩
    by_cases z : 10 + s = 40 + q
    · exact absurd hs' (by have := O.1.2; omega)
    · rw [e _ z]
  · intro t ht
    exact ct t (by unfold aT at ht ⊢; rw [← e0]; exact ht)
  · intro j hj
    rw [e 30 (by omega)]
    exact cb j (by unfold aZ at hj ⊢; rw [← e0]; exact hj)
  · intro z1
    rw [e0] at z1
    obtain ⟨h1, h2⟩ := ci z1
    rw [e0]
    refine ⟨h1, fun s hs => ?_⟩
    have hs' : s < aI (stQ A q so sz r) := by unfold aI at hs ⊢; rw [← e0]; exact hs
    rw [e 4 (by omega)]
    obtain ⟨x1, x2⟩ := h2 s hs'
    refine ⟨x1, fun c hc => (x2 c hc).trans ?_⟩
    by_cases z : 20 + s = 40 + q
    · exact absurd hs' (by have hI : aI (stQ A q so sz r) ≤ 6 := by { have := O.1.2; rcases O.2.2.2.2.2.2.2.1 with w | w; exact absurd w z1; have := w.2.2.1; omega }; omega)
    · rw [e _ z]
  · obtain ⟨x1, x2, x3⟩ := cq p hp
    rw [e 5 (by omega), e 6 (by omega)]
    refine ⟨x1, x2, fun j hj => (x3 j hj).trans ?_⟩
    by_cases hpq : p = q
    · subst hpq
      rw [stQ_r, stQ_r]
      exact h j hj
    · rw [e _ (by omega)]
set_option maxHeartbeats 4000000 in
set_option maxRecDepth 100000 in
theorem c_X12_film (l : Launch) (d : Nat) (n : Nat) (hn : 110 ≤ n) (g : xG) (A : zSt) (Λ : Nat → xL) (O : okA A) (C : mA g A Λ) (q s n1 : Int32)  : xC l yX12_film cX12_film 5 (some .int) (xR (d + 5) 0 0) [.ref 86, .int q, .int s, .int n1] (n, fh g) (qI n fun v g1 => v = (rFilm A Λ q s n1).1 ∧ mA g1 (rFilm A Λ q s n1).2 Λ ∧ fr mX g g1) := by
  refine xC_of false (by decide +kernel) (fun z => by cases z) (Nat.le_of_ble_eq_true rfl) ?_
  have hS6 := O.1.2
  have hW := O.W
  have hT6 := O.2.2.2.1.2.2
  have hN9 := O.2.1.2
  show xJ l (RX12, 5, (some .int), false, (xR (d + 5) 0 0), none) cX12_film _ 0 0 0 [(0, .ref 86), (1, .int q), (2, .int s), (3, .int n1)] [] (n, fh g)
  refine xj_iload_n (n := 1) (i := 1) 1 rfl rfl dX12_film_0 ?_
  refine xj_iconst (v := 0) (by decide) dX12_film_1 ?_
  refine xj_iconst (v := 3) (by decide) dX12_film_2 ?_
  refine xj_callS ks_X12_93 (c_X12_in l (d + 4) q 0 3 _) (As := [.int q, .int 0, .int 3]) (st := []) rfl rfl (xRm_of (by omega) (by decide) (by omega) (by omega)) (Nat.le_of_ble_eq_true rfl) dX12_film_3 (yk_p (kc := 0) (ks := 0) ?_)
  refine xj_if_ne (tgt := 12) (by decide) dX12_film_6 (fun zc6 => ?_) (fun zc6 => ?_)
  · have zp6 : 0 ≤ q ∧ q ≤ 3 := bI_n0.mp zc6
    obtain ⟨kq, hkq, rfl⟩ := nI_bnd (m := 3) (by decide) zp6.1 zp6.2
    have hk4_kq : kq < 4 := by omega
    refine xj_aload_n (n := 0) (i := 0) 0 rfl rfl dX12_film_12 ?_
    refine xj_iload_n (n := 2) (i := 2) 2 rfl rfl dX12_film_13 ?_
    refine xj_callV kv_X12_176 (c_X12_isSleeper l (d + 3) n hn g A Λ O C s) (As := [.int s]) (st := []) (by omega) (fq_86 g) (ci := 12) rfl rfl rfl rfl (xRm_of (by omega) (by decide) (by omega) (by omega)) (Nat.le_of_ble_eq_true rfl) dX12_film_14 (yk_p (kc := 0) (ks := 0) ?_)
    refine xj_if_ne (tgt := 23) (by decide) dX12_film_17 (fun zc17 => ?_) (fun zc17 => ?_)
    · have zp17 : isSl A s := bI_n0.mp zc17
      obtain ⟨ks, hks, rfl⟩ := isSl_of O zp17
      have hs6_ks : ks < 6 := by omega
      refine xj_iload_n (n := 3) (i := 3) 3 rfl rfl dX12_film_23 ?_
      refine xj_iconst (v := 0) (by decide) dX12_film_24 ?_
      refine xj_bipush (v := 20) (by decide) dX12_film_25 ?_
      refine xj_callS ks_X12_93 (c_X12_in l (d + 4) n1 0 20 _) (As := [.int n1, .int 0, .int 20]) (st := []) rfl rfl (xRm_of (by omega) (by decide) (by omega) (by omega)) (Nat.le_of_ble_eq_true rfl) dX12_film_27 (yk_p (kc := 0) (ks := 0) ?_)
      refine xj_if_ne (tgt := 36) (by decide) dX12_film_30 (fun zc30 => ?_) (fun zc30 => ?_)
      · have zp30 : 0 ≤ n1 ∧ n1 ≤ 20 := bI_n0.mp zc30
        obtain ⟨kn1, hkn1, rfl⟩ := nI_bnd (m := 20) (by decide) zp30.1 zp30.2
        refine xj_aload_n (n := 0) (i := 0) 0 rfl rfl dX12_film_36 ?_
        refine yj_getf (v := .ref 97) fl_X12_44_12 (by omega) (fq_86 g) rfl dX12_film_37 ?_
        refine xj_iload_n (n := 1) (i := 1) 1 rfl rfl dX12_film_40 ?_
        refine xj_iconst (v := 2) (by decide) dX12_film_41 ?_
        refine yj_iastN kq (by omega) fA_97 rfl (by omega) (by decide) dX12_film_42 ?_
        obtain ⟨zg1, ezg1⟩ : ∃ z, z = gs g 97 kq 2 := ⟨_, rfl⟩
        rw [← ezg1]
        refine xj_aload_n (n := 0) (i := 0) 0 rfl rfl dX12_film_43 ?_
        refine yj_getf (v := .ref 98) fl_X12_47_12 (by omega) (fq_86 zg1) rfl dX12_film_44 ?_
        refine xj_iload_n (n := 1) (i := 1) 1 rfl rfl dX12_film_47 ?_
        refine xj_iload_n (n := 3) (i := 3) 3 rfl rfl dX12_film_48 ?_
        refine yj_iastN kq (by omega) fA_98 rfl (by omega) (by decide) dX12_film_49 ?_
        obtain ⟨zg2, ezg2⟩ : ∃ z, z = gs zg1 98 kq (nI kn1) := ⟨_, rfl⟩
        rw [← ezg2]
        have C2 : mA zg2 (stQ A kq 2 (nI kn1) (A (40 + kq))) Λ := C.sht (by rw [ezg2, gs_n _ _ _ (by decide), ezg1, gs_s, upd_s]) (by rw [ezg2, gs_s, upd_s]) (fun j hj => by rw [ezg2, gs_n _ _ _ (by decide), ezg1, gs_n _ _ _ (by decide)]; exact C.qn hk4_kq hj) (fun p hp hne => ⟨by rw [ezg2, gs_n _ _ _ (by decide), ezg1, gs_s, upd_n _ _ hne], by rw [ezg2, gs_s, upd_n _ _ hne, ezg1, gs_n _ _ _ (by decide)], fun j hj => by rw [ezg2, gs_n _ _ _ (by decide), ezg1, gs_n _ _ _ (by decide)]⟩) (fun k hk => by rw [ezg2, gs_n _ _ _ (by decide), ezg1, gs_n _ _ _ (by decide)]) (fun j x y z => by rw [ezg2, gs_n _ _ _ (by omega), ezg1, gs_n _ _ _ (by omega)]) O
        have hok : ∀ r, okA (stQ A kq 2 (nI kn1) r) := fun r => O.sht hk4_kq (Or.inr (Or.inr (Or.inr rfl))) ⟨kn1, by omega, rfl⟩
        have hf2 : fr mX g zg2 := by rw [ezg2, ezg1]; exact (fr.rf.gs (mX_i (by omega)) _ _).gs (mX_i (by omega)) _ _
        have hu := fun r => stQ_use A kq 2 (nI kn1) r hs6_ks
        refine xj_aload_n (n := 0) (i := 0) 0 rfl rfl dX12_film_50 ?_
        refine xj_iload_n (n := 2) (i := 2) 2 rfl rfl dX12_film_51 ?_
        refine xj_callV kv_X12_225 (c_X12_rowOf l (d + 3) n hn zg2 (stQ A kq 2 (nI kn1) (A (40 + kq))) Λ (hok _) C2 ks (by rw [(hu _).2.2.2.2.2.2]; exact hks)) (As := [.int (nI ks)]) (st := []) (by omega) (fq_86 zg2) (ci := 12) rfl rfl rfl rfl (xRm_of (by omega) (by decide) (by omega) (by omega)) (Nat.le_of_ble_eq_true rfl) dX12_film_52 (yk_v (kc := 0) (ks := 0) fun zg3 hzg3 => ?_)
        obtain ⟨R3, hx3⟩ := hzg3
        rw [(hu _).2.2.2.2.2.1, (hu _).2.1] at R3
        have C3 := C2.keep hx3
        have hf3 := hf2.tr hx3.fr
        refine xj_iconst (v := 0) (by decide) dX12_film_55 ?_
        refine xj_istore (i := 4) (lv1 := [(4, .int 0), (0, .ref 86), (1, .int (nI kq)), (2, .int (nI ks)), (3, .int (nI kn1))]) rfl (Nat.le_of_ble_eq_true rfl) dX12_film_56 ?_
        have key : ∀ i, i ≤ 40 → ∀ (g1 : xG) (r : Nat → Int32), mA g1 (stQ A kq 2 (nI kn1) r) Λ → fr mX g g1 → (i ≤ kn1 → rwA g1 (rwP A Λ ks i) (aN A + i)) → (∀ j, j < i → r j = if j < kn1 then rsP A Λ ks j else 0) → xJ l (RX12, 5, (some .int), false, (xR (d + 5) 0 0), none) cX12_film (qI n fun v g1 => v = (rFilm A Λ (nI kq) (nI ks) (nI kn1)).1 ∧ mA g1 (rFilm A Λ (nI kq) (nI ks) (nI kn1)).2 Λ ∧ fr mX g g1) 0 0 58 [(4, .int (nI i)), (0, .ref 86), (1, .int (nI kq)), (2, .int (nI ks)), (3, .int (nI kn1))] [] (n, fh g1) := by
          refine x_loop 40 _ ?_ ?_
          · intro g1 r C1 hf hR hr
            refine xj_iload (i := 4) 0 rfl dX12_film_58 ?_
            refine xj_bipush (v := 40) (by decide) dX12_film_60 ?_
            refine xj_icmp_ge (tgt := 119) (by decide) dX12_film_62 (fun zc62 => ?_) (fun zc62 => ?_)
            · refine xj_iload_n (n := 3) (i := 3) 4 rfl rfl dX12_film_119 ?_
              have er : rFilm A Λ (nI kq) (nI ks) (nI kn1) = ((nI kn1), (stQ A kq 2 (nI kn1) (fun j => if j < kn1 then rsP A Λ ks j else 0))) := by unfold rFilm; (try simp only [nI_clamp (show kq < 2147483648 by omega), nI_clamp (show ks < 2147483648 by omega), nI_clamp (show kn1 < 2147483648 by omega)]); rw [if_pos zp6, if_pos zp17, if_pos zp30]; all_goals (rfl)
              exact xj_ireturn rfl (nr_i _) (Nat.zero_le _) (Nat.zero_le _) dX12_film_120 (qI_e (by rw [er]; exact ⟨rfl, (C1.q40 hk4_kq (fun j hj => hr j hj) (hok r)), hf⟩))
            · exact absurd (nI_le (Nat.le_refl _) (by decide)) zc62
          · intro i hi ih g1 r C1 hf hR hr
            refine xj_iload (i := 4) 0 rfl dX12_film_58 ?_
            refine xj_bipush (v := 40) (by decide) dX12_film_60 ?_
            refine xj_icmp_ge (tgt := 119) (by decide) dX12_film_62 (fun zc62 => ?_) (fun zc62 => ?_)
            · exact absurd zc62 (nI_ge hi (by decide))
            · refine xj_aload_n (n := 0) (i := 0) 1 rfl rfl dX12_film_65 ?_
              refine yj_getf (v := .ref 99) fl_X12_50_12 (by omega) (fq_86 g1) rfl dX12_film_66 ?_
              refine xj_bipush (v := 40) (by decide) dX12_film_69 ?_
              refine xj_iload_n (n := 1) (i := 1) 2 rfl rfl dX12_film_71 ?_
              refine xj_imul dX12_film_72 ?_
              refine xj_top (pk_mul 40 kq) ?_
              refine xj_iload (i := 4) 0 rfl dX12_film_73 ?_
              refine xj_iadd dX12_film_75 ?_
              refine xj_top (nI_add _ _) ?_
              refine xj_iconst (v := 0) (by decide) dX12_film_76 ?_
              refine yj_iastN ((40 * kq) + i) (by omega) fA_99 rfl (by omega) (by decide) dX12_film_77 ?_
              obtain ⟨zg4, ezg4⟩ : ∃ z, z = gs g1 99 ((40 * kq) + i) 0 := ⟨_, rfl⟩
              rw [← ezg4]
              have C4 : mA zg4 (stQ A kq 2 (nI kn1) (upd r i 0)) Λ := by rw [ezg4]; exact C1.qset (hok r) hk4_kq hi 0
              have hf4 : fr mX g zg4 := by rw [ezg4]; exact hf.gs (mX_i (by omega)) _ _
              refine xj_iload (i := 4) 0 rfl dX12_film_78 ?_
              refine xj_iload_n (n := 3) (i := 3) 4 rfl rfl dX12_film_80 ?_
              refine xj_icmp_ge (tgt := 113) (by decide) dX12_film_81 (fun zc81 => ?_) (fun zc81 => ?_)
              · have hge : ¬ i < kn1 := fun z => absurd ((nI_leI (by omega) (by omega)).mp zc81) (by omega)
                refine xj_iinc (n := 1) (i := 4) (v := nI (i + 1)) (lv1 := [(4, .int (nI (i + 1))), (0, .ref 86), (1, .int (nI kq)), (2, .int (nI ks)), (3, .int (nI kn1))]) 0 rfl (nI_1 i) rfl (Nat.le_of_ble_eq_true rfl) dX12_film_113 ?_
                refine xj_goto (tgt := 58) (by decide) dX12_film_116 ?_
                refine xj_sub (lv' := [(4, .int (nI (i + 1))), (0, .ref 86), (1, .int (nI kq)), (2, .int (nI ks)), (3, .int (nI kn1))]) [0, 1, 2, 3, 4] rfl ?_
                refine ih zg4 (upd r i 0) C4 hf4 (fun h => absurd h (by omega)) (fun j hj => ?_)
                by_cases e : j = i
                · subst e; rw [upd_s, if_neg hge]
                · rw [upd_n _ _ e]; exact hr j (by omega)
              · have hlt : i < kn1 := Nat.lt_of_not_le (fun z => zc81 (nI_le z (by omega)))
                have R4 : rwA zg4 (rwP A Λ ks i) (aN A + i) := by rw [ezg4]; exact (hR (by omega)).gn (by decide) (by decide) _ _
                refine xj_aload_n (n := 0) (i := 0) 1 rfl rfl dX12_film_84 ?_
                refine yj_getf (v := .ref 99) fl_X12_50_12 (by omega) (fq_86 zg4) rfl dX12_film_85 ?_
                refine xj_bipush (v := 40) (by decide) dX12_film_88 ?_
                refine xj_iload_n (n := 1) (i := 1) 2 rfl rfl dX12_film_90 ?_
                refine xj_imul dX12_film_91 ?_
                refine xj_top (pk_mul 40 kq) ?_
                refine xj_iload (i := 4) 0 rfl dX12_film_92 ?_
                refine xj_iadd dX12_film_94 ?_
                refine xj_top (nI_add _ _) ?_
                refine xj_aload_n (n := 0) (i := 0) 1 rfl rfl dX12_film_95 ?_
                refine xj_iload_n (n := 2) (i := 2) 3 rfl rfl dX12_film_96 ?_
                refine xj_callV kv_X12_231 (c_X12_rowClear l (d + 0) n hn zg4 (stQ A kq 2 (nI kn1) (upd r i 0)) Λ (hok _) C4 ks (by rw [(hu _).2.2.2.2.2.2]; exact hks) (rwP A Λ ks i) (aN A + i) R4) (As := [.int (nI ks)]) (st := [.int (nI ((40 * kq) + i)), .ref 99]) (by omega) (fq_86 zg4) (ci := 12) rfl rfl rfl rfl (xRm_of (by omega) (by decide) (by omega) (by omega)) (Nat.le_of_ble_eq_true rfl) dX12_film_97 (yk_i (kc := 0) (ks := 0) fun zv5 zg6 hzg6 => ?_)
                obtain ⟨hv5, hfn5⟩ := hzg6
                rw [(hu _).1, (hu _).2.2.1, (hu _).2.2.2.1, (hu _).2.2.2.2.1] at hv5
                have C5 := C4.keep (fm.of hfn5 sN_m)
                have R5 := R4.keep hfn5
                have hf5 := hf4.tr (fm.of hfn5 sN_m).fr
                refine xj_aload_n (n := 0) (i := 0) 1 rfl rfl dX12_film_100 ?_
                refine yj_getf (v := .ref 90) fl_X12_19_12 (by omega) (fq_86 zg6) rfl dX12_film_101 ?_
                refine xj_iload_n (n := 2) (i := 2) 3 rfl rfl dX12_film_104 ?_
                refine yj_ialdN ks (by omega) fA_90 rfl (by omega) (by decide) dX12_film_105 ?_
                refine xj_top ((C5.pi (by rw [(hu _).2.2.2.2.2.2]; exact hks)).trans (by rw [(hu _).2.2.2.2.1])) ?_
                refine xj_iand dX12_film_106 ?_
                refine xj_topi (fun zv7 ezv7 => ?_)
                refine yj_iastN ((40 * kq) + i) (by omega) fA_99 rfl (by omega) (by decide) dX12_film_107 ?_
                obtain ⟨zg8, ezg8⟩ : ∃ z, z = gs zg6 99 ((40 * kq) + i) zv7 := ⟨_, rfl⟩
                rw [← ezg8]
                have hz9 : zv7 = rsP A Λ ks i := by rw [ezv7, hv5]; rfl
                have C6 : mA zg8 (stQ A kq 2 (nI kn1) (upd r i (rsP A Λ ks i))) Λ := by rw [ezg8, hz9]; have h := C5.qset (hok _) hk4_kq hi (rsP A Λ ks i); rw [upd_up] at h; exact h
                have R6 : rwA zg8 (rwP A Λ ks i) (aN A + i) := by rw [ezg8]; exact R5.gn (by decide) (by decide) _ _
                have hf6 : fr mX g zg8 := by rw [ezg8]; exact hf5.gs (mX_i (by omega)) _ _
                refine xj_aload_n (n := 0) (i := 0) 1 rfl rfl dX12_film_108 ?_
                refine xj_iload_n (n := 2) (i := 2) 3 rfl rfl dX12_film_109 ?_
                refine xj_callV kv_X12_228 (c_X12_rowNight l (d + 0) n hn zg8 (stQ A kq 2 (nI kn1) (upd r i (rsP A Λ ks i))) Λ (hok _) C6 ks (by rw [(hu _).2.2.2.2.2.2]; exact hks) (rwP A Λ ks i) (aN A + i) R6) (As := [.int (nI ks)]) (st := []) (by omega) (fq_86 zg8) (ci := 12) rfl rfl rfl rfl (xRm_of (by omega) (by decide) (by omega) (by omega)) (Nat.le_of_ble_eq_true rfl) dX12_film_110 (yk_v (kc := 0) (ks := 0) fun zg9 hzg9 => ?_)
                obtain ⟨R7, hx7⟩ := hzg9
                rw [(hu _).1, (hu _).2.2.1, (hu _).2.2.2.1, (hu _).2.2.2.2.1] at R7
                have C7 := C6.keep hx7
                have hf7 := hf6.tr hx7.fr
                refine xj_iinc (n := 1) (i := 4) (v := nI (i + 1)) (lv1 := [(4, .int (nI (i + 1))), (0, .ref 86), (1, .int (nI kq)), (2, .int (nI ks)), (3, .int (nI kn1))]) 0 rfl (nI_1 i) rfl (Nat.le_of_ble_eq_true rfl) dX12_film_113 ?_
                refine xj_goto (tgt := 58) (by decide) dX12_film_116 ?_
                refine xj_sub (lv' := [(4, .int (nI (i + 1))), (0, .ref 86), (1, .int (nI kq)), (2, .int (nI ks)), (3, .int (nI kn1))]) [0, 1, 2, 3, 4] rfl ?_
                refine ih zg9 (upd r i (rsP A Λ ks i)) C7 hf7 (fun _ => R7) (fun j hj => ?_)
                by_cases e : j = i
                · subst e; rw [upd_s, if_pos hlt]
                · rw [upd_n _ _ e]; exact hr j (by omega)
        refine xj_sub (lv' := [(4, .int 0), (0, .ref 86), (1, .int (nI kq)), (2, .int (nI ks)), (3, .int (nI kn1))]) [0, 1, 2, 3, 4] rfl ?_
        exact key 0 (Nat.zero_le _) zg3 (A (40 + kq)) C3 hf3 (fun _ => R3) (fun j hj => absurd hj (Nat.not_lt_zero j))
      · have zp30 : ¬ (0 ≤ n1 ∧ n1 ≤ 20) := bI_0.mp zc30
        refine xj_bipush (v := (-7)) (by decide) dX12_film_33 ?_
        have er : rFilm A Λ (nI kq) (nI ks) n1 = ((-7), A) := by unfold rFilm; (try simp only [nI_clamp (show kq < 2147483648 by omega), nI_clamp (show ks < 2147483648 by omega)]); rw [if_pos zp6, if_pos zp17, if_neg zp30]; all_goals (rfl)
        exact xj_ireturn rfl (nr_i _) (Nat.zero_le _) (Nat.zero_le _) dX12_film_35 (qI_e (by rw [er]; exact ⟨rfl, C, fr.rf⟩))
    · have zp17 : ¬ (isSl A s) := bI_0.mp zc17
      refine xj_bipush (v := (-5)) (by decide) dX12_film_20 ?_
      have er : rFilm A Λ (nI kq) s n1 = ((-5), A) := by unfold rFilm; (try simp only [nI_clamp (show kq < 2147483648 by omega)]); rw [if_pos zp6, if_neg zp17]; all_goals (rfl)
      exact xj_ireturn rfl (nr_i _) (Nat.zero_le _) (Nat.zero_le _) dX12_film_22 (qI_e (by rw [er]; exact ⟨rfl, C, fr.rf⟩))
  · have zp6 : ¬ (0 ≤ q ∧ q ≤ 3) := bI_0.mp zc6
    refine xj_bipush (v := (-2)) (by decide) dX12_film_9 ?_
    have er : rFilm A Λ q s n1 = ((-2), A) := by unfold rFilm; rw [if_neg zp6]; all_goals (rfl)
    exact xj_ireturn rfl (nr_i _) (Nat.zero_le _) (Nat.zero_le _) dX12_film_11 (qI_e (by rw [er]; exact ⟨rfl, C, fr.rf⟩))
