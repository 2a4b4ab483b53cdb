theorem jo_q {x y : Int32} {k : Nat} (h : x = nI k) (hk : k < 2147483648) : x.toNatClampNeg = k := by rw [h]; exact nI_clamp hk
theorem m3_3 (i : Nat) : m3F i + 3 = nI i := by unfold m3F; exact Int32.sub_add_cancel _ _
theorem l16 (k : Nat) : (16 : Int64) * lN k = lN (16 * k) := by rw [show (16 : Int64) = lN 16 from rfl, lN_mul]
theorem wi_95 {k : Nat} (h : k ≤ 95) : wiF (nI k) 0 95 = nI k := by
  unfold wiF
  rw [if_neg (nI_pos (by omega)), if_neg (show ¬ (95 : Int32) < nI k from nI_nlt (a := 95) (b := k) h (by decide))]
/-- the state with flies on it -/
def flA (A : zSt) (sd f : Nat) : zSt := fun q => if 10 ≤ q ∧ q < 16 then flR A sd f (q - 10) else A q
theorem flA_n (A : zSt) (sd f : Nat) {q : Nat} (h : ¬ (10 ≤ q ∧ q < 16)) : flA A sd f q = A q := if_neg h
theorem flA_d (A : zSt) (sd f : Nat) {s : Nat} (h : s < 6) : flA A sd f (10 + s) = flR A sd f s := by
  unfold flA
  rw [if_pos (by omega), show 10 + s - 10 = s by omega]
theorem flA_0 (A : zSt) (sd : Nat) : flA A sd 0 = A := by
  funext q
  by_cases h : 10 ≤ q ∧ q < 16
  · unfold flA
    rw [if_pos h]
    show A (10 + (q - 10)) = A q
    rw [show 10 + (q - 10) = q by omega]
  · exact flA_n _ _ _ h
theorem flR_n {A : zSt} (O : okA A) (sd : Nat) : ∀ f s, s < aS A → ∀ c, c < 16 → nI99 (flR A sd f s c) 99
  | 0, s, hs, c, hc => O.dl hs hc
  | f + 1, s, hs, c, hc => by
    have ih := flR_n O sd f s hs
    unfold flR
    by_cases h : s = flP A sd f / 16
    · rw [if_pos h]
      by_cases hcc : c = flP A sd f % 16
      · subst hcc
        rw [upd_s]
        exact min99_n (a := 99 + 20) (by decide) (nI99_add (ih _ (Nat.mod_lt _ (by decide))) ⟨20, by omega, rfl⟩)
      · rw [upd_n _ _ hcc]
        exact ih c hc
    · rw [if_neg h]
      exact ih c hc
theorem okA.dul {A A1 : zSt} (O : okA A) (ea : ∀ q, ¬ (10 ≤ q ∧ q < 16) → A1 q = A q) (h : ∀ s, s < aS A → ∀ c, c < 16 → nI99 (A1 (10 + s) c) 99) : okA A1 := by
  have e0 := ea 0 (by omega)
  have eS : aS A1 = aS A := by unfold aS; rw [e0]
  have eT : aT A1 = aT A := by unfold aT; rw [e0]
  have hS := O.1.2
  obtain ⟨o1, o2, o3, o4, o5, o6, o7, o8, o9⟩ := O
  refine ⟨by rw [eS, e0]; exact o1, by unfold aN; rw [e0]; exact o2, by unfold aM; rw [e0]; exact o3, by rw [eT, e0]; exact o4, by rw [eT]; unfold aW; rw [e0]; exact o5, by unfold aZ; rw [e0]; exact o6, fun i hi => ?_, okI.keep o8 (fun i _ _ => by rw [e0]) (by rw [eS]; omega) (by rw [eT]; omega) (fun z i hi => ⟨by rw [ea 1 (by omega)], by rw [ea 2 (by omega)], by rw [ea 4 (by omega)], ea _ (by omega)⟩), okQ.keep o9 (ea _ (by omega)) (ea _ (by omega))⟩
  rw [eS] at hi
  rw [ea 1 (by omega), ea 2 (by omega), ea 3 (by omega)]
  exact ⟨(o7 i hi).1, (o7 i hi).2.1, (o7 i hi).2.2.1, h i hi⟩
theorem flA_ok {A : zSt} (O : okA A) (sd f : Nat) : okA (flA A sd f) := O.dul (fun q h => flA_n A sd f h) (fun s hs c hc => by have hS := O.1.2; rw [flA_d A sd f (by omega)]; exact flR_n O sd f s hs c hc)
theorem flA_S (A : zSt) (sd f : Nat) : aS (flA A sd f) = aS A := by unfold aS; rw [flA_n A sd f (q := 0) (by omega)]
theorem fl_sum {A : zSt} (Λ : Nat → xL) (O : okA A) (sd : Nat) {f fl : Nat} (h : f = fl ∨ aS A = 0) : sumF (fun s => onesF (seP (flA A sd f) Λ s)) (aS (flA A sd f)) = sbF A Λ sd fl := by
  have hS := O.1.2
  rw [flA_S]
  unfold sbF
  rcases h with rfl | h
  · refine sumF_congr (fun s hs => ?_)
    have e0 := flA_n A sd f (q := 0) (by omega)
    show onesF (seP (flA A sd f) Λ s) = onesF (sbS A Λ sd f s)
    unfold seP clP sbS
    rw [flA_d A sd f (by omega), flA_n A sd f (q := 2) (by omega), flA_n A sd f (q := 3) (by omega), show aW (flA A sd f) = aW A from by unfold aW; rw [e0], show aN (flA A sd f) = aN A from by unfold aN; rw [e0], show aK (flA A sd f) s = aK A s from by unfold aK; rw [flA_n A sd f (q := 1) (by omega)]]
  · simp only [h, sumF]
theorem fl_use {g2 : xG} {A : zSt} {Λ : Nat → xL} (O : okA A) {sd f : Nat} (C2 : mA g2 (flA A sd f) Λ) : g2 86 0 = nI (aS A) ∧ ∀ p, p < 16 * aS A → g2 89 p = flR A sd f (p / 16) (p % 16) := by
  have hS := O.1.2
  refine ⟨by rw [C2.1.1, flA_n A sd f (q := 0) (by omega)]; exact O.1.1, fun p hp => ?_⟩
  have h := C2.du (s := p / 16) (c := p % 16) (by rw [flA_S]; omega) (Nat.mod_lt _ (by decide))
  rw [show 16 * (p / 16) + p % 16 = p by omega, flA_d A sd f (by omega)] at h
  exact h
theorem fl_step {g2 : xG} {A : zSt} {Λ : Nat → xL} (O : okA A) {sd f : Nat} (C2 : mA g2 (flA A sd f) Λ) (hp : flP A sd f < 16 * aS A) : mA (gs g2 89 (flP A sd f) (min99 (flR A sd f (flP A sd f / 16) (flP A sd f % 16) + 20))) (flA A sd (f + 1)) Λ := by
  have hS := O.1.2
  have h := C2.cell (flA_ok O sd f) (s := flP A sd f / 16) (c := flP A sd f % 16) (by rw [flA_S]; omega) (Nat.mod_lt _ (by decide)) (min99 (flR A sd f (flP A sd f / 16) (flP A sd f % 16) + 20))
  rw [show 16 * (flP A sd f / 16) + flP A sd f % 16 = flP A sd f by omega, flA_d A sd f (s := flP A sd f / 16) (by omega)] at h
  rw [show flA A sd (f + 1) = va_up (flA A sd f) (10 + flP A sd f / 16) (upd (flR A sd f (flP A sd f / 16)) (flP A sd f % 16) (min99 (flR A sd f (flP A sd f / 16) (flP A sd f % 16) + 20))) from ?_]
  · exact h
  · funext q
    by_cases hq : q = 10 + flP A sd f / 16
    · subst hq
      rw [va_up_s, flA_d A sd (f + 1) (by omega)]
      exact if_pos rfl
    · rw [va_up_n _ _ hq]
      unfold flA
      by_cases h6 : 10 ≤ q ∧ q < 16
      · rw [if_pos h6, if_pos h6]
        exact if_neg (by omega)
      · rw [if_neg h6, if_neg h6]
theorem mA.fl_back {g2 g3 : xG} {A : zSt} {Λ : Nat → xL} (O : okA A) {sd f : Nat} (C2 : mA g2 (flA A sd f) Λ) (hf : fr (fun j => j = 89) g2 g3) (h : ∀ s, s < aS A → ∀ c, c < 16 → g3 89 (16 * s + c) = A (10 + s) c) : mA g3 A Λ := C2.dul (fun j a _ _ => hf j a) (fun q hq => (flA_n A sd f hq).symm) (by rw [flA_S]; exact O.1.2) (fun s hs c hc => h s (by rw [flA_S] at hs; exact hs) c hc)
theorem vOdds_no {A : zSt} {Λ : Nat → xL} {sd sds fl mn part : Int32} (h : ¬ ((0 ≤ sd ∧ sd ≤ 99999) ∧ (1 ≤ sds ∧ sds ≤ 40) ∧ (0 ≤ fl ∧ fl ≤ 99) ∧ (0 ≤ mn ∧ mn ≤ 96) ∧ (0 ≤ part ∧ part ≤ 1))) : vOdds A Λ sd sds fl mn part = -4611686018427387904 := by
  unfold vOdds
  by_cases h1 : 0 ≤ sd ∧ sd ≤ 99999
  · rw [if_pos h1]
    by_cases h6 : sds < 1
    · rw [if_pos h6]
    · rw [if_neg h6]
      by_cases h7 : sds > 40
      · rw [if_pos h7]
      · rw [if_neg h7]
        by_cases h2 : 0 ≤ fl ∧ fl ≤ 99
        · rw [if_pos h2]
          by_cases h3 : 0 ≤ mn ∧ mn ≤ 96
          · rw [if_pos h3]
            by_cases h4 : 0 ≤ part ∧ part ≤ 1
            · exact absurd ⟨h1, ⟨nlt_le h6, nlt_le h7⟩, h2, h3, h4⟩ h
            · rw [if_neg h4]
          · rw [if_neg h3]
        · rw [if_neg h2]
  · rw [if_neg h1]
set_option maxHeartbeats 4000000 in
set_option maxRecDepth 100000 in
theorem c_X12_joins (l : Launch) (d : Nat) (n : Nat) (hn : 110 ≤ n) (g : xG) (A : zSt) (Λ : Nat → xL) (O : okA A) (C : mA g A Λ) (w what : Int32)  : xC l yX12_joins cX12_joins 12 (some .int) (xR (d + 5) 0 0) [.ref 86, .int w, .int what] (n, fh g) (qI n fun v g1 => v = vJoins A Λ w what ∧ fr sN g g1) := by
  refine xC_of false (by decide +kernel) (fun z => by cases z) (Nat.le_of_ble_eq_true rfl) ?_
  have hS6 := O.1.2
  have hW := O.W
  have hT6 := O.2.2.2.1.2.2
  have hN9 := O.2.1.2
  show xJ l (RX12, 12, (some .int), false, (xR (d + 5) 0 0), none) cX12_joins _ 0 0 0 [(0, .ref 86), (1, .int w), (2, .int what)] [] (n, fh g)
  refine xj_iload_n (n := 1) (i := 1) 1 rfl rfl dX12_joins_0 ?_
  refine xj_iconst (v := 0) (by decide) dX12_joins_1 ?_
  refine xj_bipush (v := 55) (by decide) dX12_joins_2 ?_
  refine xj_callS ks_X12_93 (c_X12_in l (d + 4) w 0 55 _) (As := [.int w, .int 0, .int 55]) (st := []) rfl rfl (xRm_of (by omega) (by decide) (by omega) (by omega)) (Nat.le_of_ble_eq_true rfl) dX12_joins_4 (yk_p (kc := 0) (ks := 0) ?_)
  refine xj_if_eq (tgt := 36) (by decide) dX12_joins_7 (fun zc7 => ?_) (fun zc7 => ?_)
  · have zp7 : ¬ (0 ≤ w ∧ w ≤ 55) := bI_0.mp zc7
    refine xj_iconst (v := 0) (by decide) dX12_joins_36 ?_
    refine xj_istore_n (n := 3) (i := 3) (lv1 := [(3, .int 0), (0, .ref 86), (1, .int w), (2, .int what)]) rfl rfl (Nat.le_of_ble_eq_true rfl) dX12_joins_37 ?_
    refine xj_iload_n (n := 3) (i := 3) 0 rfl rfl dX12_joins_38 ?_
    refine xj_if_eq (tgt := 53) (by decide) dX12_joins_39 (fun zc39 => ?_) (fun zc39 => ?_)
    · refine xj_bipush (v := (-5)) (by decide) dX12_joins_53 ?_
      exact xj_ireturn rfl (nr_i _) (Nat.zero_le _) (Nat.zero_le _) dX12_joins_55 (qI_e ⟨by show _ = joF A Λ (w / 10) (w - w / 10 * 10) what; exact (jo_out Λ _ O zp7).symm, fr.rf⟩)
    · exact absurd (by decide) zc39
  · have zp7 : 0 ≤ w ∧ w ≤ 55 := bI_n0.mp zc7
    refine xj_aload_n (n := 0) (i := 0) 0 rfl rfl dX12_joins_10 ?_
    refine xj_iload_n (n := 1) (i := 1) 1 rfl rfl dX12_joins_11 ?_
    refine xj_bipush (v := 10) (by decide) dX12_joins_12 ?_
    refine xj_idiv (by decide) dX12_joins_14 ?_
    refine xj_callV kv_X12_176 (c_X12_isSleeper l (d + 3) n hn g A Λ O C (w / 10)) (As := [.int (w / 10)]) (st := []) (by omega) (fq_86 g) (ci := 12) rfl rfl rfl rfl (xRm_of (by omega) (by decide) (by omega) (by omega)) (Nat.le_of_ble_eq_true rfl) dX12_joins_15 (yk_p (kc := 0) (ks := 0) ?_)
    refine xj_if_eq (tgt := 36) (by decide) dX12_joins_18 (fun zc18 => ?_) (fun zc18 => ?_)
    · have zp18 : ¬ (isSl A (w / 10)) := bI_0.mp zc18
      refine xj_iconst (v := 0) (by decide) dX12_joins_36 ?_
      refine xj_istore_n (n := 3) (i := 3) (lv1 := [(3, .int 0), (0, .ref 86), (1, .int w), (2, .int what)]) rfl rfl (Nat.le_of_ble_eq_true rfl) dX12_joins_37 ?_
      refine xj_iload_n (n := 3) (i := 3) 0 rfl rfl dX12_joins_38 ?_
      refine xj_if_eq (tgt := 53) (by decide) dX12_joins_39 (fun zc39 => ?_) (fun zc39 => ?_)
      · refine xj_bipush (v := (-5)) (by decide) dX12_joins_53 ?_
        exact xj_ireturn rfl (nr_i _) (Nat.zero_le _) (Nat.zero_le _) dX12_joins_55 (qI_e ⟨by show _ = joF A Λ (w / 10) (w - w / 10 * 10) _; unfold joF; rw [if_neg zp18]; all_goals rfl, fr.rf⟩)
      · exact absurd (by decide) zc39
    · have zp18 : isSl A (w / 10) := bI_n0.mp zc18
      obtain ⟨ka, hka, eka⟩ := isSl_of O zp18
      have hs6_ka : ka < 6 := by omega
      refine xj_aload_n (n := 0) (i := 0) 0 rfl rfl dX12_joins_21 ?_
      refine xj_iload_n (n := 1) (i := 1) 1 rfl rfl dX12_joins_22 ?_
      refine xj_bipush (v := 10) (by decide) dX12_joins_23 ?_
      refine xj_irem (by decide) dX12_joins_25 ?_
      refine xj_callV kv_X12_176 (c_X12_isSleeper l (d + 3) n hn g A Λ O C (w - w / 10 * 10)) (As := [.int (w - w / 10 * 10)]) (st := []) (by omega) (fq_86 g) (ci := 12) rfl rfl rfl rfl (xRm_of (by omega) (by decide) (by omega) (by omega)) (Nat.le_of_ble_eq_true rfl) dX12_joins_26 (yk_p (kc := 0) (ks := 0) ?_)
      refine xj_if_eq (tgt := 36) (by decide) dX12_joins_29 (fun zc29 => ?_) (fun zc29 => ?_)
      · have zp29 : ¬ (isSl A (w - w / 10 * 10)) := bI_0.mp zc29
        refine xj_iconst (v := 0) (by decide) dX12_joins_36 ?_
        refine xj_istore_n (n := 3) (i := 3) (lv1 := [(3, .int 0), (0, .ref 86), (1, .int w), (2, .int what)]) rfl rfl (Nat.le_of_ble_eq_true rfl) dX12_joins_37 ?_
        refine xj_iload_n (n := 3) (i := 3) 0 rfl rfl dX12_joins_38 ?_
        refine xj_if_eq (tgt := 53) (by decide) dX12_joins_39 (fun zc39 => ?_) (fun zc39 => ?_)
        · refine xj_bipush (v := (-5)) (by decide) dX12_joins_53 ?_
          exact xj_ireturn rfl (nr_i _) (Nat.zero_le _) (Nat.zero_le _) dX12_joins_55 (qI_e ⟨by show _ = joF A Λ (w / 10) (w - w / 10 * 10) _; unfold joF; rw [if_pos zp18, if_neg zp29]; all_goals rfl, fr.rf⟩)
        · exact absurd (by decide) zc39
      · have zp29 : isSl A (w - w / 10 * 10) := bI_n0.mp zc29
        obtain ⟨kb, hkb, ekb⟩ := isSl_of O zp29
        have hs6_kb : kb < 6 := by omega
        refine xj_iconst (v := 1) (by decide) dX12_joins_32 ?_
        refine xj_goto (tgt := 37) (by decide) dX12_joins_33 ?_
        refine xj_istore_n (n := 3) (i := 3) (lv1 := [(3, .int 1), (0, .ref 86), (1, .int w), (2, .int what)]) rfl rfl (Nat.le_of_ble_eq_true rfl) dX12_joins_37 ?_
        refine xj_iload_n (n := 3) (i := 3) 0 rfl rfl dX12_joins_38 ?_
        refine xj_if_eq (tgt := 53) (by decide) dX12_joins_39 (fun zc39 => ?_) (fun zc39 => ?_)
        · exact absurd zc39 (by decide)
        · refine xj_iload_n (n := 1) (i := 1) 2 rfl rfl dX12_joins_42 ?_
          refine xj_bipush (v := 10) (by decide) dX12_joins_43 ?_
          refine xj_idiv (by decide) dX12_joins_45 ?_
          refine xj_top (show (w / 10) = nI ka from eka) ?_
          refine xj_iload_n (n := 1) (i := 1) 2 rfl rfl dX12_joins_46 ?_
          refine xj_bipush (v := 10) (by decide) dX12_joins_47 ?_
          refine xj_irem (by decide) dX12_joins_49 ?_
          refine xj_top (show (w - w / 10 * 10) = nI kb from ekb) ?_
          refine xj_icmp_ne (tgt := 56) (by decide) dX12_joins_50 (fun zc50 => ?_) (fun zc50 => ?_)
          · refine xj_iload_n (n := 2) (i := 2) 3 rfl rfl dX12_joins_56 ?_
            refine xj_iconst (v := 0) (by decide) dX12_joins_57 ?_
            refine xj_iconst (v := 1) (by decide) dX12_joins_58 ?_
            refine xj_callS ks_X12_93 (c_X12_in l (d + 4) what 0 1 _) (As := [.int what, .int 0, .int 1]) (st := []) rfl rfl (xRm_of (by omega) (by decide) (by omega) (by omega)) (Nat.le_of_ble_eq_true rfl) dX12_joins_59 (yk_p (kc := 0) (ks := 0) ?_)
            refine xj_if_ne (tgt := 68) (by decide) dX12_joins_62 (fun zc62 => ?_) (fun zc62 => ?_)
            · have zp62 : 0 ≤ what ∧ what ≤ 1 := bI_n0.mp zc62
              obtain ⟨kwhat, hkwhat, rfl⟩ := nI_bnd (m := 1) (by decide) zp62.1 zp62.2
              refine xj_iload_n (n := 1) (i := 1) 2 rfl rfl dX12_joins_68 ?_
              refine xj_bipush (v := 10) (by decide) dX12_joins_69 ?_
              refine xj_idiv (by decide) dX12_joins_71 ?_
              refine xj_top (show (w / 10) = nI ka from eka) ?_
              refine xj_istore (i := 4) (lv1 := [(4, .int (nI ka)), (3, .int 1), (0, .ref 86), (1, .int w), (2, .int (nI kwhat))]) rfl (Nat.le_of_ble_eq_true rfl) dX12_joins_72 ?_
              refine xj_iload_n (n := 1) (i := 1) 3 rfl rfl dX12_joins_74 ?_
              refine xj_bipush (v := 10) (by decide) dX12_joins_75 ?_
              refine xj_irem (by decide) dX12_joins_77 ?_
              refine xj_top (show (w - w / 10 * 10) = nI kb from ekb) ?_
              refine xj_istore (i := 5) (lv1 := [(5, .int (nI kb)), (4, .int (nI ka)), (3, .int 1), (0, .ref 86), (1, .int w), (2, .int (nI kwhat))]) rfl (Nat.le_of_ble_eq_true rfl) dX12_joins_78 ?_
              refine xj_aload_n (n := 0) (i := 0) 3 rfl rfl dX12_joins_80 ?_
              refine xj_iload (i := 4) 1 rfl dX12_joins_81 ?_
              refine xj_callV kv_X12_200 (c_X12_clearSet l (d + 0) n hn g A Λ O C ka hka) (As := [.int (nI ka)]) (st := []) (by omega) (fq_86 g) (ci := 12) rfl rfl rfl rfl (xRm_of (by omega) (by decide) (by omega) (by omega)) (Nat.le_of_ble_eq_true rfl) dX12_joins_83 (yk_i (kc := 0) (ks := 0) fun zv1 zg2 hzg2 => ?_)
              obtain ⟨hvzv1, hfnzg2⟩ := hzg2
              have hxzg2 := hfnzg2
              have Czg2 := C.keep (fm.of hxzg2 sN_m)
              refine xj_top (show zv1 = clP A Λ ka from hvzv1) ?_
              refine xj_istore (i := 6) (lv1 := [(6, .int (clP A Λ ka)), (5, .int (nI kb)), (4, .int (nI ka)), (3, .int 1), (0, .ref 86), (1, .int w), (2, .int (nI kwhat))]) rfl (Nat.le_of_ble_eq_true rfl) dX12_joins_86 ?_
              refine xj_aload_n (n := 0) (i := 0) 4 rfl rfl dX12_joins_88 ?_
              refine xj_iload (i := 5) 1 rfl dX12_joins_89 ?_
              refine xj_callV kv_X12_200 (c_X12_clearSet l (d + 0) n hn zg2 A Λ O Czg2 kb hkb) (As := [.int (nI kb)]) (st := []) (by omega) (fq_86 zg2) (ci := 12) rfl rfl rfl rfl (xRm_of (by omega) (by decide) (by omega) (by omega)) (Nat.le_of_ble_eq_true rfl) dX12_joins_91 (yk_i (kc := 0) (ks := 0) fun zv3 zg4 hzg4 => ?_)
              obtain ⟨hvzv3, hfnzg4⟩ := hzg4
              have hxzg4 := hfnzg4
              have Czg4 := Czg2.keep (fm.of hxzg4 sN_m)
              refine xj_top (show zv3 = clP A Λ kb from hvzv3) ?_
              refine xj_istore (i := 7) (lv1 := [(7, .int (clP A Λ kb)), (6, .int (clP A Λ ka)), (5, .int (nI kb)), (4, .int (nI ka)), (3, .int 1), (0, .ref 86), (1, .int w), (2, .int (nI kwhat))]) rfl (Nat.le_of_ble_eq_true rfl) dX12_joins_94 ?_
              refine xj_iconst (v := 0) (by decide) dX12_joins_96 ?_
              refine xj_istore (i := 8) (lv1 := [(8, .int 0), (7, .int (clP A Λ kb)), (6, .int (clP A Λ ka)), (5, .int (nI kb)), (4, .int (nI ka)), (3, .int 1), (0, .ref 86), (1, .int w), (2, .int (nI kwhat))]) rfl (Nat.le_of_ble_eq_true rfl) dX12_joins_97 ?_
              refine xj_iconst (v := (-1)) (by decide) dX12_joins_99 ?_
              refine xj_istore (i := 9) (lv1 := [(9, .int (-1)), (8, .int 0), (7, .int (clP A Λ kb)), (6, .int (clP A Λ ka)), (5, .int (nI kb)), (4, .int (nI ka)), (3, .int 1), (0, .ref 86), (1, .int w), (2, .int (nI kwhat))]) rfl (Nat.le_of_ble_eq_true rfl) dX12_joins_100 ?_
              refine xj_bipush (v := (-3)) (by decide) dX12_joins_102 ?_
              refine xj_istore (i := 10) (lv1 := [(10, .int (-3)), (9, .int (-1)), (8, .int 0), (7, .int (clP A Λ kb)), (6, .int (clP A Λ ka)), (5, .int (nI kb)), (4, .int (nI ka)), (3, .int 1), (0, .ref 86), (1, .int w), (2, .int (nI kwhat))]) rfl (Nat.le_of_ble_eq_true rfl) dX12_joins_104 ?_
              refine xj_sub (lv' := [(10, .int (-3)), (8, .int 0), (9, .int (-1)), (6, .int (clP A Λ ka)), (7, .int (clP A Λ kb)), (0, .ref 86), (1, .int w), (2, .int (nI kwhat)), (4, .int (nI ka)), (5, .int (nI kb))]) [0, 2, 1, 4, 3, 8, 9, 10, 6, 5] rfl ?_
              rw [show (-3 : Int32) = m3F 0 from by decide]
              have key : ∀ i, i ≤ 7 → ∀ (g1 : xG), fr sN g g1 → xJ l (RX12, 12, (some .int), false, (xR (d + 5) 0 0), none) cX12_joins (qI n fun v g1 => v = vJoins A Λ w (nI kwhat) ∧ fr sN g g1) 0 0 106 [(10, .int (m3F i)), (8, .int (cnF (mvB A Λ ka kb) (7 * i))), (9, .int (fiG (mvB A Λ ka kb) mvV (7 * i))), (6, .int (clP A Λ ka)), (7, .int (clP A Λ kb)), (0, .ref 86), (1, .int w), (2, .int (nI kwhat)), (4, .int (nI ka)), (5, .int (nI kb))] [] (n, fh g1) := by
                refine x_loop 7 _ ?_ ?_
                · intro g1 hf
                  refine xj_iload (i := 10) 0 rfl dX12_joins_106 ?_
                  refine xj_iconst (v := 3) (by decide) dX12_joins_108 ?_
                  refine xj_icmp_gt (tgt := 180) (by decide) dX12_joins_109 (fun zc109 => ?_) (fun zc109 => ?_)
                  · refine xj_iload_n (n := 2) (i := 2) 7 rfl rfl dX12_joins_180 ?_
                    refine xj_if_ne (tgt := 189) (by decide) dX12_joins_181 (fun zc181 => ?_) (fun zc181 => ?_)
                    · refine xj_iload (i := 9) 2 rfl dX12_joins_189 ?_
                      exact xj_ireturn rfl (nr_i _) (Nat.zero_le _) (Nat.zero_le _) dX12_joins_191 (qI_e ⟨by show _ = joF A Λ (w / 10) (w - w / 10 * 10) _; unfold joF; rw [if_pos zp18, if_pos zp29, if_neg (fun z => zc50 (eka.symm.trans (z.trans ekb))), if_pos zp62, if_neg zc181]; rw [jo_q (y := 0) eka (by omega), jo_q (y := 0) ekb (by omega)]; all_goals rfl, hf⟩)
                    · refine xj_iload (i := 8) 1 rfl dX12_joins_184 ?_
                      refine xj_goto (tgt := 191) (by decide) dX12_joins_186 ?_
                      exact xj_ireturn rfl (nr_i _) (Nat.zero_le _) (Nat.zero_le _) dX12_joins_191 (qI_e ⟨by show _ = joF A Λ (w / 10) (w - w / 10 * 10) _; unfold joF; rw [if_pos zp18, if_pos zp29, if_neg (fun z => zc50 (eka.symm.trans (z.trans ekb))), if_pos zp62, if_pos zc181]; rw [jo_q (y := 0) eka (by omega), jo_q (y := 0) ekb (by omega)]; all_goals rfl, hf⟩)
                  · exact absurd (by decide) zc109
                · intro i hi ih g1 hf
                  refine xj_iload (i := 10) 0 rfl dX12_joins_106 ?_
                  refine xj_iconst (v := 3) (by decide) dX12_joins_108 ?_
                  refine xj_icmp_gt (tgt := 180) (by decide) dX12_joins_109 (fun zc109 => ?_) (fun zc109 => ?_)
                  · exact absurd zc109 (m3_n hi)
                  · refine xj_bipush (v := (-3)) (by decide) dX12_joins_112 ?_
                    refine xj_istore (i := 11) (lv1 := [(11, .int (-3)), (10, .int (m3F i)), (8, .int (cnF (mvB A Λ ka kb) (7 * i))), (9, .int (fiG (mvB A Λ ka kb) mvV (7 * i))), (6, .int (clP A Λ ka)), (7, .int (clP A Λ kb)), (0, .ref 86), (1, .int w), (2, .int (nI kwhat)), (4, .int (nI ka)), (5, .int (nI kb))]) rfl (Nat.le_of_ble_eq_true rfl) dX12_joins_114 ?_
                    refine xj_sub (lv' := [(11, .int (-3)), (10, .int (m3F i)), (8, .int (cnF (mvB A Λ ka kb) (7 * i))), (9, .int (fiG (mvB A Λ ka kb) mvV (7 * i))), (6, .int (clP A Λ ka)), (7, .int (clP A Λ kb)), (0, .ref 86), (1, .int w), (2, .int (nI kwhat)), (4, .int (nI ka)), (5, .int (nI kb))]) [0, 1, 2, 3, 4, 5, 6, 7, 8, 9, 10] rfl ?_
                    rw [show (-3 : Int32) = m3F 0 from by decide]
                    have key2 : ∀ j, j ≤ 7 → ∀ (g2 : xG), fr sN g g2 → xJ l (RX12, 12, (some .int), false, (xR (d + 5) 0 0), none) cX12_joins (qI n fun v g1 => v = vJoins A Λ w (nI kwhat) ∧ fr sN g g1) 0 0 116 [(11, .int (m3F j)), (10, .int (m3F i)), (8, .int (cnF (mvB A Λ ka kb) (7 * i + j))), (9, .int (fiG (mvB A Λ ka kb) mvV (7 * i + j))), (6, .int (clP A Λ ka)), (7, .int (clP A Λ kb)), (0, .ref 86), (1, .int w), (2, .int (nI kwhat)), (4, .int (nI ka)), (5, .int (nI kb))] [] (n, fh g2) := by
                      refine x_loop 7 _ ?_ ?_
                      · intro g2 hf2
                        refine xj_iload (i := 11) 0 rfl dX12_joins_116 ?_
                        refine xj_iconst (v := 3) (by decide) dX12_joins_118 ?_
                        refine xj_icmp_gt (tgt := 174) (by decide) dX12_joins_119 (fun zc119 => ?_) (fun zc119 => ?_)
                        · obtain ⟨zv5, ezv5⟩ : ∃ z : Int32, z = (m3F i) + Int32.ofInt (1) := ⟨_, rfl⟩
                          refine xj_iinc (i := 10) (v := zv5) (lv1 := [(10, .int zv5), (11, .int (m3F 7)), (8, .int (cnF (mvB A Λ ka kb) (7 * i + 7))), (9, .int (fiG (mvB A Λ ka kb) mvV (7 * i + 7))), (6, .int (clP A Λ ka)), (7, .int (clP A Λ kb)), (0, .ref 86), (1, .int w), (2, .int (nI kwhat)), (4, .int (nI ka)), (5, .int (nI kb))]) 1 rfl ezv5.symm rfl (Nat.le_of_ble_eq_true rfl) dX12_joins_174 ?_
                          refine xj_goto (tgt := 106) (by decide) dX12_joins_177 ?_
                          refine xj_sub (lv' := [(10, .int zv5), (8, .int (cnF (mvB A Λ ka kb) (7 * i + 7))), (9, .int (fiG (mvB A Λ ka kb) mvV (7 * i + 7))), (6, .int (clP A Λ ka)), (7, .int (clP A Λ kb)), (0, .ref 86), (1, .int w), (2, .int (nI kwhat)), (4, .int (nI ka)), (5, .int (nI kb))]) [0, 2, 3, 4, 5, 6, 7, 8, 9, 10] rfl ?_
                          rw [show zv5 = m3F (i + 1) from by rw [ezv5]; exact m3_s i]
                          exact ih g2 hf2
                        · exact absurd (by decide) zc119
                      · intro j hi2 ih2 g2 hf2
                        have hm := mv_e (i := i) hi2
                        refine xj_iload (i := 11) 0 rfl dX12_joins_116 ?_
                        refine xj_iconst (v := 3) (by decide) dX12_joins_118 ?_
                        refine xj_icmp_gt (tgt := 174) (by decide) dX12_joins_119 (fun zc119 => ?_) (fun zc119 => ?_)
                        · exact absurd zc119 (m3_n hi2)
                        · refine xj_aload_n (n := 0) (i := 0) 6 rfl rfl dX12_joins_122 ?_
                          refine xj_iload (i := 4) 9 rfl dX12_joins_123 ?_
                          refine xj_iload (i := 5) 10 rfl dX12_joins_125 ?_
                          refine xj_iload (i := 6) 4 rfl dX12_joins_127 ?_
                          refine xj_iload (i := 7) 5 rfl dX12_joins_129 ?_
                          refine xj_iload (i := 10) 1 rfl dX12_joins_131 ?_
                          refine xj_iload (i := 11) 0 rfl dX12_joins_133 ?_
                          refine xj_callV kv_X12_256 (c_X12_isLike l (d + 2) n hn g2 A Λ O (C.keep (fm.of hf2 sN_m)) ka kb hka hkb (clP A Λ ka) (clP A Λ kb) (m3F i) (m3F j)) (As := [.int (nI ka), .int (nI kb), .int (clP A Λ ka), .int (clP A Λ kb), .int (m3F i), .int (m3F j)]) (st := []) (by omega) (fq_86 g2) (ci := 12) rfl rfl rfl rfl (xRm_of (by omega) (by decide) (by omega) (by omega)) (Nat.le_of_ble_eq_true rfl) dX12_joins_135 (yk_p (kc := 0) (ks := 0) ?_)
                          refine xj_if_eq (tgt := 168) (by decide) dX12_joins_138 (fun zc138 => ?_) (fun zc138 => ?_)
                          · have hob : ¬ (mvB A Λ ka kb) (7 * i + j) = true := by unfold mvB; rw [hm.1, hm.2]; exact bI_0.mp zc138
                            obtain ⟨zv6, ezv6⟩ : ∃ z : Int32, z = (m3F j) + Int32.ofInt (1) := ⟨_, rfl⟩
                            refine xj_iinc (i := 11) (v := zv6) (lv1 := [(11, .int zv6), (10, .int (m3F i)), (8, .int (cnF (mvB A Λ ka kb) (7 * i + j))), (9, .int (fiG (mvB A Λ ka kb) mvV (7 * i + j))), (6, .int (clP A Λ ka)), (7, .int (clP A Λ kb)), (0, .ref 86), (1, .int w), (2, .int (nI kwhat)), (4, .int (nI ka)), (5, .int (nI kb))]) 0 rfl ezv6.symm rfl (Nat.le_of_ble_eq_true rfl) dX12_joins_168 ?_
                            refine xj_goto (tgt := 116) (by decide) dX12_joins_171 ?_
                            refine xj_sub (lv' := [(11, .int zv6), (10, .int (m3F i)), (8, .int (cnF (mvB A Λ ka kb) (7 * i + j))), (9, .int (fiG (mvB A Λ ka kb) mvV (7 * i + j))), (6, .int (clP A Λ ka)), (7, .int (clP A Λ kb)), (0, .ref 86), (1, .int w), (2, .int (nI kwhat)), (4, .int (nI ka)), (5, .int (nI kb))]) [0, 1, 2, 3, 4, 5, 6, 7, 8, 9, 10] rfl ?_
                            have h9 := ih2 g2 hf2
                            rw [show cnF (mvB A Λ ka kb) (7 * i + (j + 1)) = cnF (mvB A Λ ka kb) (7 * i + j) from if_neg hob, show fiG (mvB A Λ ka kb) mvV (7 * i + (j + 1)) = fiG (mvB A Λ ka kb) mvV (7 * i + j) from if_neg hob, show m3F (j + 1) = zv6 from by rw [ezv6]; exact (m3_s j).symm] at h9
                            exact h9
                          · have hob : (mvB A Λ ka kb) (7 * i + j) = true := by have h := bI_n0.mp zc138; unfold mvB; rw [hm.1, hm.2]; exact h
                            refine xj_iload (i := 8) 2 rfl dX12_joins_141 ?_
                            refine xj_if_ne (tgt := 161) (by decide) dX12_joins_143 (fun zc143 => ?_) (fun zc143 => ?_)
                            · have hcf := cn_fi2 (mvB A Λ ka kb) (7 * i + j) (by omega)
                              refine xj_iload (i := 9) 3 rfl dX12_joins_161 ?_
                              refine xj_istore (i := 9) (lv1 := [(9, .int (fiG (mvB A Λ ka kb) mvV (7 * i + j))), (11, .int (m3F j)), (10, .int (m3F i)), (8, .int (cnF (mvB A Λ ka kb) (7 * i + j))), (6, .int (clP A Λ ka)), (7, .int (clP A Λ kb)), (0, .ref 86), (1, .int w), (2, .int (nI kwhat)), (4, .int (nI ka)), (5, .int (nI kb))]) rfl (Nat.le_of_ble_eq_true rfl) dX12_joins_163 ?_
                              obtain ⟨zv7, ezv7⟩ : ∃ z : Int32, z = (cnF (mvB A Λ ka kb) (7 * i + j)) + Int32.ofInt (1) := ⟨_, rfl⟩
                              refine xj_iinc (i := 8) (v := zv7) (lv1 := [(8, .int zv7), (9, .int (fiG (mvB A Λ ka kb) mvV (7 * i + j))), (11, .int (m3F j)), (10, .int (m3F i)), (6, .int (clP A Λ ka)), (7, .int (clP A Λ kb)), (0, .ref 86), (1, .int w), (2, .int (nI kwhat)), (4, .int (nI ka)), (5, .int (nI kb))]) 3 rfl ezv7.symm rfl (Nat.le_of_ble_eq_true rfl) dX12_joins_165 ?_
                              obtain ⟨zv8, ezv8⟩ : ∃ z : Int32, z = (m3F j) + Int32.ofInt (1) := ⟨_, rfl⟩
                              refine xj_iinc (i := 11) (v := zv8) (lv1 := [(11, .int zv8), (8, .int zv7), (9, .int (fiG (mvB A Λ ka kb) mvV (7 * i + j))), (10, .int (m3F i)), (6, .int (clP A Λ ka)), (7, .int (clP A Λ kb)), (0, .ref 86), (1, .int w), (2, .int (nI kwhat)), (4, .int (nI ka)), (5, .int (nI kb))]) 2 rfl ezv8.symm rfl (Nat.le_of_ble_eq_true rfl) dX12_joins_168 ?_
                              refine xj_goto (tgt := 116) (by decide) dX12_joins_171 ?_
                              refine xj_sub (lv' := [(11, .int zv8), (10, .int (m3F i)), (8, .int zv7), (9, .int (fiG (mvB A Λ ka kb) mvV (7 * i + j))), (6, .int (clP A Λ ka)), (7, .int (clP A Λ kb)), (0, .ref 86), (1, .int w), (2, .int (nI kwhat)), (4, .int (nI ka)), (5, .int (nI kb))]) [0, 3, 1, 2, 4, 5, 6, 7, 8, 9, 10] rfl ?_
                              have h9 := ih2 g2 hf2
                              rw [show cnF (mvB A Λ ka kb) (7 * i + (j + 1)) = zv7 from (if_pos hob).trans ezv7.symm, show fiG (mvB A Λ ka kb) mvV (7 * i + (j + 1)) = (fiG (mvB A Λ ka kb) mvV (7 * i + j)) from (if_pos hob).trans (if_neg (fun z => zc143 (hcf.mpr z))), show m3F (j + 1) = zv8 from by rw [ezv8]; exact (m3_s j).symm] at h9
                              exact h9
                            · have hcf := cn_fi2 (mvB A Λ ka kb) (7 * i + j) (by omega)
                              refine xj_bipush (v := 10) (by decide) dX12_joins_146 ?_
                              refine xj_iload (i := 10) 1 rfl dX12_joins_148 ?_
                              refine xj_iconst (v := 3) (by decide) dX12_joins_150 ?_
                              refine xj_iadd dX12_joins_151 ?_
                              refine xj_imul dX12_joins_152 ?_
                              refine xj_iload (i := 11) 0 rfl dX12_joins_153 ?_
                              refine xj_iadd dX12_joins_155 ?_
                              refine xj_iconst (v := 3) (by decide) dX12_joins_156 ?_
                              refine xj_iadd dX12_joins_157 ?_
                              refine xj_goto (tgt := 163) (by decide) dX12_joins_158 ?_
                              refine xj_topi (fun zv9 ezv9 => ?_)
                              refine xj_istore (i := 9) (lv1 := [(9, .int zv9), (11, .int (m3F j)), (10, .int (m3F i)), (8, .int (cnF (mvB A Λ ka kb) (7 * i + j))), (6, .int (clP A Λ ka)), (7, .int (clP A Λ kb)), (0, .ref 86), (1, .int w), (2, .int (nI kwhat)), (4, .int (nI ka)), (5, .int (nI kb))]) rfl (Nat.le_of_ble_eq_true rfl) dX12_joins_163 ?_
                              obtain ⟨zv10, ezv10⟩ : ∃ z : Int32, z = (cnF (mvB A Λ ka kb) (7 * i + j)) + Int32.ofInt (1) := ⟨_, rfl⟩
                              refine xj_iinc (i := 8) (v := zv10) (lv1 := [(8, .int zv10), (9, .int zv9), (11, .int (m3F j)), (10, .int (m3F i)), (6, .int (clP A Λ ka)), (7, .int (clP A Λ kb)), (0, .ref 86), (1, .int w), (2, .int (nI kwhat)), (4, .int (nI ka)), (5, .int (nI kb))]) 3 rfl ezv10.symm rfl (Nat.le_of_ble_eq_true rfl) dX12_joins_165 ?_
                              obtain ⟨zv11, ezv11⟩ : ∃ z : Int32, z = (m3F j) + Int32.ofInt (1) := ⟨_, rfl⟩
                              refine xj_iinc (i := 11) (v := zv11) (lv1 := [(11, .int zv11), (8, .int zv10), (9, .int zv9), (10, .int (m3F i)), (6, .int (clP A Λ ka)), (7, .int (clP A Λ kb)), (0, .ref 86), (1, .int w), (2, .int (nI kwhat)), (4, .int (nI ka)), (5, .int (nI kb))]) 2 rfl ezv11.symm rfl (Nat.le_of_ble_eq_true rfl) dX12_joins_168 ?_
                              refine xj_goto (tgt := 116) (by decide) dX12_joins_171 ?_
                              refine xj_sub (lv' := [(11, .int zv11), (10, .int (m3F i)), (8, .int zv10), (9, .int zv9), (6, .int (clP A Λ ka)), (7, .int (clP A Λ kb)), (0, .ref 86), (1, .int w), (2, .int (nI kwhat)), (4, .int (nI ka)), (5, .int (nI kb))]) [0, 3, 1, 2, 4, 5, 6, 7, 8, 9, 10] rfl ?_
                              have h9 := ih2 g2 hf2
                              rw [show cnF (mvB A Λ ka kb) (7 * i + (j + 1)) = zv10 from (if_pos hob).trans ezv10.symm, show fiG (mvB A Λ ka kb) mvV (7 * i + (j + 1)) = zv9 from ((if_pos hob).trans (if_pos (hcf.mp zc143))).trans (show mvV (7 * i + j) = zv9 from by unfold mvV; rw [hm.1, hm.2, ezv9, m3_3]; exact (jo_v i j).symm), show m3F (j + 1) = zv11 from by rw [ezv11]; exact (m3_s j).symm] at h9
                              exact h9
                    refine xj_sub (lv' := [(11, .int (m3F 0)), (10, .int (m3F i)), (8, .int (cnF (mvB A Λ ka kb) (7 * i))), (9, .int (fiG (mvB A Λ ka kb) mvV (7 * i))), (6, .int (clP A Λ ka)), (7, .int (clP A Λ kb)), (0, .ref 86), (1, .int w), (2, .int (nI kwhat)), (4, .int (nI ka)), (5, .int (nI kb))]) [0, 1, 2, 3, 4, 5, 6, 7, 8, 9, 10] rfl ?_
                    exact key2 0 (Nat.zero_le _) g1 hf
              refine xj_sub (lv' := [(10, .int (m3F 0)), (8, .int 0), (9, .int (-1)), (6, .int (clP A Λ ka)), (7, .int (clP A Λ kb)), (0, .ref 86), (1, .int w), (2, .int (nI kwhat)), (4, .int (nI ka)), (5, .int (nI kb))]) [0, 1, 2, 3, 4, 5, 6, 7, 8, 9] rfl ?_
              exact key 0 (Nat.zero_le _) zg4 (hxzg2.tr hxzg4)
            · have zp62 : ¬ (0 ≤ what ∧ what ≤ 1) := bI_0.mp zc62
              refine xj_bipush (v := (-7)) (by decide) dX12_joins_65 ?_
              exact xj_ireturn rfl (nr_i _) (Nat.zero_le _) (Nat.zero_le _) dX12_joins_67 (qI_e ⟨by show _ = joF A Λ (w / 10) (w - w / 10 * 10) _; unfold joF; rw [if_pos zp18, if_pos zp29, if_neg (fun z => zc50 (eka.symm.trans (z.trans ekb))), if_neg zp62]; all_goals rfl, fr.rf⟩)
          · refine xj_bipush (v := (-5)) (by decide) dX12_joins_53 ?_
            exact xj_ireturn rfl (nr_i _) (Nat.zero_le _) (Nat.zero_le _) dX12_joins_55 (qI_e ⟨by show _ = joF A Λ (w / 10) (w - w / 10 * 10) _; unfold joF; rw [if_pos zp18, if_pos zp29, if_pos (eka.trans (zc50.trans ekb.symm))]; all_goals rfl, fr.rf⟩)
set_option maxHeartbeats 4000000 in
set_option maxRecDepth 100000 in
theorem c_X12_seenBy (l : Launch) (d : Nat) (n : Nat) (hn : 110 ≤ n) (g : xG) (A : zSt) (Λ : Nat → xL) (O : okA A) (C : mA g A Λ) (sd fl : Nat) (hsd : sd ≤ 200000) (hfl : fl ≤ 99)  : xC l yX12_seenBy cX12_seenBy 7 (some .int) (xR (d + 7) 0 0) [.ref 86, .int (nI sd), .int (nI fl)] (n, fh g) (qI n fun v g1 => v = sbF A Λ sd fl ∧ mA g1 A Λ ∧ fr mX g g1) := by
  refine xC_of false (by decide +kernel) (fun z => by cases z) (Nat.le_of_ble_eq_true rfl) ?_
  have hS6 := O.1.2
  have hW := O.W
  have hT6 := O.2.2.2.1.2.2
  have hN9 := O.2.1.2
  show xJ l (RX12, 7, (some .int), false, (xR (d + 7) 0 0), none) cX12_seenBy _ 0 0 0 [(0, .ref 86), (1, .int (nI sd)), (2, .int (nI fl))] [] (n, fh g)
  refine xj_iload_n (n := 1) (i := 1) 1 rfl rfl dX12_seenBy_0 ?_
  refine xj_i2l dX12_seenBy_1 ?_
  refine xj_lconst (v := 1) (by decide) dX12_seenBy_2 ?_
  refine xj_ladd dX12_seenBy_3 ?_
  refine xj_topl (show (((nI sd).toInt64) + 1) = lN (ltN sd 0) from (by rw [nI_l (by omega)]; exact lN_1 sd)) ?_
  refine xj_lstore_n (n := 3) (i := 3) (lv1 := [(3, .long (lN (ltN sd 0))), (0, .ref 86), (1, .int (nI sd)), (2, .int (nI fl))]) rfl rfl (Nat.le_of_ble_eq_true rfl) dX12_seenBy_4 ?_
  refine xj_iconst (v := 0) (by decide) dX12_seenBy_5 ?_
  refine xj_istore (i := 5) (lv1 := [(5, .int 0), (3, .long (lN (ltN sd 0))), (0, .ref 86), (1, .int (nI sd)), (2, .int (nI fl))]) rfl (Nat.le_of_ble_eq_true rfl) dX12_seenBy_6 ?_
  have key : ∀ i, i ≤ 96 → ∀ (g1 : xG), fm g g1 → (∀ j, j < i → g1 109 j = g 89 j) → xJ l (RX12, 7, (some .int), false, (xR (d + 7) 0 0), none) cX12_seenBy (qI n fun v g1 => v = sbF A Λ sd fl ∧ mA g1 A Λ ∧ fr mX g g1) 0 0 8 [(5, .int (nI i)), (3, .long (lN (ltN sd 0))), (0, .ref 86), (1, .int (nI sd)), (2, .int (nI fl))] [] (n, fh g1) := by
    refine x_loop 96 _ ?_ ?_
    · intro g1 hf hz
      refine xj_iload (i := 5) 0 rfl dX12_seenBy_8 ?_
      refine xj_bipush (v := 96) (by decide) dX12_seenBy_10 ?_
      refine xj_icmp_ge (tgt := 35) (by decide) dX12_seenBy_12 (fun zc12 => ?_) (fun zc12 => ?_)
      · refine xj_iconst (v := 0) (by decide) dX12_seenBy_35 ?_
        refine xj_istore (i := 5) (lv1 := [(5, .int 0), (3, .long (lN (ltN sd 0))), (0, .ref 86), (1, .int (nI sd)), (2, .int (nI fl))]) rfl (Nat.le_of_ble_eq_true rfl) dX12_seenBy_36 ?_
        have key2 : ∀ i, i ≤ fl → ∀ (g2 : xG), mA g2 (flA A sd i) Λ → fr mX g g2 → g2 109 = g1 109 → xJ l (RX12, 7, (some .int), false, (xR (d + 7) 0 0), none) cX12_seenBy (qI n fun v g1 => v = sbF A Λ sd fl ∧ mA g1 A Λ ∧ fr mX g g1) 0 0 38 [(5, .int (nI i)), (3, .long (lN (ltN sd i))), (0, .ref 86), (1, .int (nI sd)), (2, .int (nI fl))] [] (n, fh g2) := by
          refine x_loop fl _ ?_ ?_
          · intro g2 C2 hf2 hk
            have U := fl_use O C2
            refine xj_iload (i := 5) 0 rfl dX12_seenBy_38 ?_
            refine xj_iload_n (n := 2) (i := 2) 4 rfl rfl dX12_seenBy_40 ?_
            refine xj_icmp_ge (tgt := 110) (by decide) dX12_seenBy_41 (fun zc41 => ?_) (fun zc41 => ?_)
            · refine xj_aload_n (n := 0) (i := 0) 2 rfl rfl dX12_seenBy_110 ?_
              refine xj_callV kv_X12_215 (c_X12_seenMany l (d + 0) n hn g2 (flA A sd fl) Λ (flA_ok O sd fl) C2) (As := []) (st := []) (by omega) (fq_86 g2) (ci := 12) rfl rfl rfl rfl (xRm_of (by omega) (by decide) (by omega) (by omega)) (Nat.le_of_ble_eq_true rfl) dX12_seenBy_111 (yk_i (kc := 0) (ks := 0) fun zv1 zg2 hzg2 => ?_)
              obtain ⟨hv9, hfn9⟩ := hzg2
              rw [fl_sum Λ O sd (fl := fl) (Or.inl rfl)] at hv9
              subst hv9
              have C3 := C2.keep (fm.of hfn9 sN_m)
              have hf3 := hf2.tr (fm.of hfn9 sN_m).fr
              refine xj_topi (fun zv3 ezv3 => ?_)
              refine xj_istore (i := 5) (lv1 := [(5, .int zv3), (3, .long (lN (ltN sd fl))), (0, .ref 86), (1, .int (nI sd)), (2, .int (nI fl))]) rfl (Nat.le_of_ble_eq_true rfl) dX12_seenBy_114 ?_
              refine xj_iconst (v := 0) (by decide) dX12_seenBy_116 ?_
              refine xj_istore (i := 6) (lv1 := [(6, .int 0), (5, .int zv3), (3, .long (lN (ltN sd fl))), (0, .ref 86), (1, .int (nI sd)), (2, .int (nI fl))]) rfl (Nat.le_of_ble_eq_true rfl) dX12_seenBy_117 ?_
              have key4 : ∀ k, k ≤ 96 → ∀ (g4 : xG), fr (fun j => j = 89) zg2 g4 → (∀ j, j < k → g4 89 j = g 89 j) → xJ l (RX12, 7, (some .int), false, (xR (d + 7) 0 0), none) cX12_seenBy (qI n fun v g1 => v = sbF A Λ sd fl ∧ mA g1 A Λ ∧ fr mX g g1) 0 0 119 [(6, .int (nI k)), (5, .int zv3), (0, .ref 86), (1, .int (nI sd)), (2, .int (nI fl))] [] (n, fh g4) := by
                refine x_loop 96 _ ?_ ?_
                · intro g4 hf4 hz4
                  refine xj_iload (i := 6) 0 rfl dX12_seenBy_119 ?_
                  refine xj_bipush (v := 96) (by decide) dX12_seenBy_121 ?_
                  refine xj_icmp_ge (tgt := 146) (by decide) dX12_seenBy_123 (fun zc123 => ?_) (fun zc123 => ?_)
                  · refine xj_iload (i := 5) 1 rfl dX12_seenBy_146 ?_
                    exact xj_ireturn rfl (nr_i _) (Nat.zero_le _) (Nat.zero_le _) dX12_seenBy_148 (qI_e ⟨ezv3, mA.fl_back O C3 hf4 (fun s hs c hc => by have hS := O.1.2; rw [hz4 _ (by omega)]; exact C.du hs hc), hf3.tr (hf4.mono (fun j hj => by subst hj; exact mX_i (by omega)))⟩)
                  · exact absurd (nI_le (Nat.le_refl _) (by decide)) zc123
                · intro k hi4 ih4 g4 hf4 hz4
                  refine xj_iload (i := 6) 0 rfl dX12_seenBy_119 ?_
                  refine xj_bipush (v := 96) (by decide) dX12_seenBy_121 ?_
                  refine xj_icmp_ge (tgt := 146) (by decide) dX12_seenBy_123 (fun zc123 => ?_) (fun zc123 => ?_)
                  · exact absurd zc123 (nI_ge hi4 (by decide))
                  · refine xj_aload_n (n := 0) (i := 0) 2 rfl rfl dX12_seenBy_126 ?_
                    refine yj_getf (v := .ref 89) fl_X12_16_12 (by omega) (fq_86 g4) rfl dX12_seenBy_127 ?_
                    refine xj_iload (i := 6) 0 rfl dX12_seenBy_130 ?_
                    refine xj_aload_n (n := 0) (i := 0) 2 rfl rfl dX12_seenBy_132 ?_
                    refine yj_getf (v := .ref 109) fl_X12_80_12 (by omega) (fq_86 g4) rfl dX12_seenBy_133 ?_
                    refine xj_iload (i := 6) 0 rfl dX12_seenBy_136 ?_
                    refine yj_ialdN k (by omega) fA_109 rfl (by omega) (by decide) dX12_seenBy_138 ?_
                    refine xj_topi (fun zv4 ezv4 => ?_)
                    refine yj_iastN k (by omega) fA_89 rfl (by omega) (by decide) dX12_seenBy_139 ?_
                    obtain ⟨zg5, ezg5⟩ : ∃ z, z = gs g4 89 k zv4 := ⟨_, rfl⟩
                    rw [← ezg5]
                    refine xj_iinc (n := 1) (i := 6) (v := nI (k + 1)) (lv1 := [(6, .int (nI (k + 1))), (5, .int zv3), (0, .ref 86), (1, .int (nI sd)), (2, .int (nI fl))]) 0 rfl (nI_1 k) rfl (Nat.le_of_ble_eq_true rfl) dX12_seenBy_140 ?_
                    refine xj_goto (tgt := 119) (by decide) dX12_seenBy_143 ?_
                    refine xj_sub (lv' := [(6, .int (nI (k + 1))), (5, .int zv3), (0, .ref 86), (1, .int (nI sd)), (2, .int (nI fl))]) [0, 1, 2, 3, 4] rfl ?_
                    refine ih4 zg5 (by rw [ezg5]; exact hf4.gs rfl _ _) (fun j hj => ?_)
                    rw [ezg5, gs_s]; by_cases e : j = k; (subst e; rw [upd_s, ezv4, hf4 109 (by decide), hfn9 109 (by unfold sN; omega), hk]; exact hz j hi4); (rw [upd_n _ _ e]; exact hz4 j (by omega))
              refine xj_sub (lv' := [(6, .int 0), (5, .int zv3), (0, .ref 86), (1, .int (nI sd)), (2, .int (nI fl))]) [0, 1, 3, 4, 5] rfl ?_
              exact key4 0 (Nat.zero_le _) zg2 fr.rf (fun j hj => absurd hj (Nat.not_lt_zero j))
            · exact absurd (nI_le (Nat.le_refl _) (by omega)) zc41
          · intro i hi ih g2 C2 hf2 hk
            have U := fl_use O C2
            refine xj_iload (i := 5) 0 rfl dX12_seenBy_38 ?_
            refine xj_iload_n (n := 2) (i := 2) 4 rfl rfl dX12_seenBy_40 ?_
            refine xj_icmp_ge (tgt := 110) (by decide) dX12_seenBy_41 (fun zc41 => ?_) (fun zc41 => ?_)
            · exact absurd zc41 (nI_ge hi (by omega))
            · refine xj_aload_n (n := 0) (i := 0) 2 rfl rfl dX12_seenBy_44 ?_
              refine yj_getf (v := .int (nI (aS A))) fl_X12_90_12 (by omega) (fq_86 g2) (congrArg (fun z => some (Value.int z)) U.1) dX12_seenBy_45 ?_
              refine xj_if_le (tgt := 110) (by decide) dX12_seenBy_48 (fun zc48 => ?_) (fun zc48 => ?_)
              · have hS0 : aS A = 0 := Nat.eq_zero_of_le_zero ((nI_leI (b := 0) (by omega) (by decide)).mp zc48)
                refine xj_aload_n (n := 0) (i := 0) 2 rfl rfl dX12_seenBy_110 ?_
                refine xj_callV kv_X12_215 (c_X12_seenMany l (d + 0) n hn g2 (flA A sd i) Λ (flA_ok O sd i) C2) (As := []) (st := []) (by omega) (fq_86 g2) (ci := 12) rfl rfl rfl rfl (xRm_of (by omega) (by decide) (by omega) (by omega)) (Nat.le_of_ble_eq_true rfl) dX12_seenBy_111 (yk_i (kc := 0) (ks := 0) fun zv6 zg7 hzg7 => ?_)
                obtain ⟨hv9, hfn9⟩ := hzg7
                rw [fl_sum Λ O sd (fl := fl) (Or.inr hS0)] at hv9
                subst hv9
                have C3 := C2.keep (fm.of hfn9 sN_m)
                have hf3 := hf2.tr (fm.of hfn9 sN_m).fr
                refine xj_topi (fun zv8 ezv8 => ?_)
                refine xj_istore (i := 5) (lv1 := [(5, .int zv8), (3, .long (lN (ltN sd i))), (0, .ref 86), (1, .int (nI sd)), (2, .int (nI fl))]) rfl (Nat.le_of_ble_eq_true rfl) dX12_seenBy_114 ?_
                refine xj_iconst (v := 0) (by decide) dX12_seenBy_116 ?_
                refine xj_istore (i := 6) (lv1 := [(6, .int 0), (5, .int zv8), (3, .long (lN (ltN sd i))), (0, .ref 86), (1, .int (nI sd)), (2, .int (nI fl))]) rfl (Nat.le_of_ble_eq_true rfl) dX12_seenBy_117 ?_
                have key4 : ∀ k, k ≤ 96 → ∀ (g4 : xG), fr (fun j => j = 89) zg7 g4 → (∀ j, j < k → g4 89 j = g 89 j) → xJ l (RX12, 7, (some .int), false, (xR (d + 7) 0 0), none) cX12_seenBy (qI n fun v g1 => v = sbF A Λ sd fl ∧ mA g1 A Λ ∧ fr mX g g1) 0 0 119 [(6, .int (nI k)), (5, .int zv8), (0, .ref 86), (1, .int (nI sd)), (2, .int (nI fl))] [] (n, fh g4) := by
                  refine x_loop 96 _ ?_ ?_
                  · intro g4 hf4 hz4
                    refine xj_iload (i := 6) 0 rfl dX12_seenBy_119 ?_
                    refine xj_bipush (v := 96) (by decide) dX12_seenBy_121 ?_
                    refine xj_icmp_ge (tgt := 146) (by decide) dX12_seenBy_123 (fun zc123 => ?_) (fun zc123 => ?_)
                    · refine xj_iload (i := 5) 1 rfl dX12_seenBy_146 ?_
                      exact xj_ireturn rfl (nr_i _) (Nat.zero_le _) (Nat.zero_le _) dX12_seenBy_148 (qI_e ⟨ezv8, mA.fl_back O C3 hf4 (fun s hs c hc => by have hS := O.1.2; rw [hz4 _ (by omega)]; exact C.du hs hc), hf3.tr (hf4.mono (fun j hj => by subst hj; exact mX_i (by omega)))⟩)
                    · exact absurd (nI_le (Nat.le_refl _) (by decide)) zc123
                  · intro k hi4 ih4 g4 hf4 hz4
                    refine xj_iload (i := 6) 0 rfl dX12_seenBy_119 ?_
                    refine xj_bipush (v := 96) (by decide) dX12_seenBy_121 ?_
                    refine xj_icmp_ge (tgt := 146) (by decide) dX12_seenBy_123 (fun zc123 => ?_) (fun zc123 => ?_)
                    · exact absurd zc123 (nI_ge hi4 (by decide))
                    · refine xj_aload_n (n := 0) (i := 0) 2 rfl rfl dX12_seenBy_126 ?_
                      refine yj_getf (v := .ref 89) fl_X12_16_12 (by omega) (fq_86 g4) rfl dX12_seenBy_127 ?_
                      refine xj_iload (i := 6) 0 rfl dX12_seenBy_130 ?_
                      refine xj_aload_n (n := 0) (i := 0) 2 rfl rfl dX12_seenBy_132 ?_
                      refine yj_getf (v := .ref 109) fl_X12_80_12 (by omega) (fq_86 g4) rfl dX12_seenBy_133 ?_
                      refine xj_iload (i := 6) 0 rfl dX12_seenBy_136 ?_
                      refine yj_ialdN k (by omega) fA_109 rfl (by omega) (by decide) dX12_seenBy_138 ?_
                      refine xj_topi (fun zv9 ezv9 => ?_)
                      refine yj_iastN k (by omega) fA_89 rfl (by omega) (by decide) dX12_seenBy_139 ?_
                      obtain ⟨zg10, ezg10⟩ : ∃ z, z = gs g4 89 k zv9 := ⟨_, rfl⟩
                      rw [← ezg10]
                      refine xj_iinc (n := 1) (i := 6) (v := nI (k + 1)) (lv1 := [(6, .int (nI (k + 1))), (5, .int zv8), (0, .ref 86), (1, .int (nI sd)), (2, .int (nI fl))]) 0 rfl (nI_1 k) rfl (Nat.le_of_ble_eq_true rfl) dX12_seenBy_140 ?_
                      refine xj_goto (tgt := 119) (by decide) dX12_seenBy_143 ?_
                      refine xj_sub (lv' := [(6, .int (nI (k + 1))), (5, .int zv8), (0, .ref 86), (1, .int (nI sd)), (2, .int (nI fl))]) [0, 1, 2, 3, 4] rfl ?_
                      refine ih4 zg10 (by rw [ezg10]; exact hf4.gs rfl _ _) (fun j hj => ?_)
                      rw [ezg10, gs_s]; by_cases e : j = k; (subst e; rw [upd_s, ezv9, hf4 109 (by decide), hfn9 109 (by unfold sN; omega), hk]; exact hz j hi4); (rw [upd_n _ _ e]; exact hz4 j (by omega))
                refine xj_sub (lv' := [(6, .int 0), (5, .int zv8), (0, .ref 86), (1, .int (nI sd)), (2, .int (nI fl))]) [0, 1, 3, 4, 5] rfl ?_
                exact key4 0 (Nat.zero_le _) zg7 fr.rf (fun j hj => absurd hj (Nat.not_lt_zero j))
              · have hS0 : 0 < aS A := Nat.pos_of_ne_zero (fun e => zc48 (by rw [e]; decide))
                have hpl : flP A sd i < 16 * aS A := Nat.mod_lt _ (by omega)
                refine xj_lload_n (n := 3) (i := 3) 1 rfl rfl dX12_seenBy_51 ?_
                refine xj_ldc2 cn_X12_269 dX12_seenBy_52 ?_
                refine xj_lmul dX12_seenBy_55 ?_
                refine xj_ldc2 cn_X12_271 dX12_seenBy_56 ?_
                refine xj_lrem (by decide) dX12_seenBy_59 ?_
                refine xj_topl (show (((lN (ltN sd i)) * 48271) - ((lN (ltN sd i)) * 48271) / 2147483647 * 2147483647) = lN (ltN sd (i + 1)) from (ltN_s hsd i)) ?_
                refine xj_lstore_n (n := 3) (i := 3) (lv1 := [(3, .long (lN (ltN sd (i + 1)))), (5, .int (nI i)), (0, .ref 86), (1, .int (nI sd)), (2, .int (nI fl))]) rfl rfl (Nat.le_of_ble_eq_true rfl) dX12_seenBy_60 ?_
                refine xj_lload_n (n := 3) (i := 3) 0 rfl rfl dX12_seenBy_61 ?_
                refine xj_ldc2 cn_X12_273 dX12_seenBy_62 ?_
                refine xj_aload_n (n := 0) (i := 0) 2 rfl rfl dX12_seenBy_65 ?_
                refine yj_getf (v := .int (nI (aS A))) fl_X12_90_12 (by omega) (fq_86 g2) (congrArg (fun z => some (Value.int z)) U.1) dX12_seenBy_66 ?_
                refine xj_i2l dX12_seenBy_69 ?_
                refine xj_topl (show ((nI (aS A)).toInt64) = lN (aS A) from (nI_l (by omega))) ?_
                refine xj_lmul dX12_seenBy_70 ?_
                refine xj_topl (show (16 * (lN (aS A))) = lN (16 * aS A) from (l16 _)) ?_
                refine xj_lrem (fun z => by have h := (pk_lEQ (b := 0) (by omega) (by omega)).mp z; omega) dX12_seenBy_71 ?_
                refine xj_topl (show ((lN (ltN sd (i + 1))) - (lN (ltN sd (i + 1))) / (lN (16 * aS A)) * (lN (16 * aS A))) = lN (flP A sd i) from (pk_lRem (a := ltN sd (i + 1)) (b := 16 * aS A) (by have h := ltN_lt hsd (i + 1); omega) (by omega) (by omega))) ?_
                refine xj_l2i dX12_seenBy_72 ?_
                refine xj_top (show ((lN (flP A sd i)).toInt32) = nI (flP A sd i) from (lN_i _)) ?_
                refine xj_iconst (v := 0) (by decide) dX12_seenBy_73 ?_
                refine xj_bipush (v := 95) (by decide) dX12_seenBy_74 ?_
                refine xj_callS ks_X12_173 (c_X12_within l (d + 6) (nI (flP A sd i)) 0 95 _) (As := [.int (nI (flP A sd i)), .int 0, .int 95]) (st := []) rfl rfl (xRm_of (by omega) (by decide) (by omega) (by omega)) (Nat.le_of_ble_eq_true rfl) dX12_seenBy_76 (yk_p (kc := 0) (ks := 0) ?_)
                refine xj_top (show (wiF (nI (flP A sd i)) 0 95) = nI (flP A sd i) from (wi_95 (by omega))) ?_
                refine xj_istore (i := 6) (lv1 := [(6, .int (nI (flP A sd i))), (3, .long (lN (ltN sd (i + 1)))), (5, .int (nI i)), (0, .ref 86), (1, .int (nI sd)), (2, .int (nI fl))]) rfl (Nat.le_of_ble_eq_true rfl) dX12_seenBy_79 ?_
                refine xj_aload_n (n := 0) (i := 0) 3 rfl rfl dX12_seenBy_81 ?_
                refine yj_getf (v := .ref 89) fl_X12_16_12 (by omega) (fq_86 g2) rfl dX12_seenBy_82 ?_
                refine xj_iload (i := 6) 0 rfl dX12_seenBy_85 ?_
                refine xj_aload_n (n := 0) (i := 0) 3 rfl rfl dX12_seenBy_87 ?_
                refine yj_getf (v := .ref 89) fl_X12_16_12 (by omega) (fq_86 g2) rfl dX12_seenBy_88 ?_
                refine xj_iload (i := 6) 0 rfl dX12_seenBy_91 ?_
                refine yj_ialdN (flP A sd i) (by omega) fA_89 rfl (by omega) (by decide) dX12_seenBy_93 ?_
                refine xj_top (U.2 _ hpl) ?_
                refine xj_bipush (v := 20) (by decide) dX12_seenBy_94 ?_
                refine xj_iadd dX12_seenBy_96 ?_
                refine xj_iconst (v := 0) (by decide) dX12_seenBy_97 ?_
                refine xj_bipush (v := 99) (by decide) dX12_seenBy_98 ?_
                refine xj_callS ks_X12_173 (c_X12_within l (d + 6) ((flR A sd i (flP A sd i / 16) (flP A sd i % 16)) + 20) 0 99 _) (As := [.int ((flR A sd i (flP A sd i / 16) (flP A sd i % 16)) + 20), .int 0, .int 99]) (st := [.int (nI (flP A sd i)), .ref 89]) rfl rfl (xRm_of (by omega) (by decide) (by omega) (by omega)) (Nat.le_of_ble_eq_true rfl) dX12_seenBy_100 (yk_p (kc := 0) (ks := 0) ?_)
                refine xj_topi (fun zv11 ezv11 => ?_)
                refine yj_iastN (flP A sd i) (by omega) fA_89 rfl (by omega) (by decide) dX12_seenBy_103 ?_
                obtain ⟨zg12, ezg12⟩ : ∃ z, z = gs g2 89 (flP A sd i) zv11 := ⟨_, rfl⟩
                rw [← ezg12]
                refine xj_iinc (n := 1) (i := 5) (v := nI (i + 1)) (lv1 := [(5, .int (nI (i + 1))), (6, .int (nI (flP A sd i))), (3, .long (lN (ltN sd (i + 1)))), (0, .ref 86), (1, .int (nI sd)), (2, .int (nI fl))]) 2 rfl (nI_1 i) rfl (Nat.le_of_ble_eq_true rfl) dX12_seenBy_104 ?_
                refine xj_goto (tgt := 38) (by decide) dX12_seenBy_107 ?_
                refine xj_sub (lv' := [(5, .int (nI (i + 1))), (3, .long (lN (ltN sd (i + 1)))), (0, .ref 86), (1, .int (nI sd)), (2, .int (nI fl))]) [0, 2, 3, 4, 5] rfl ?_
                have hz9 : zv11 = min99 (flR A sd i (flP A sd i / 16) (flP A sd i % 16) + 20) := by rw [ezv11]; exact wi_99 (m := 99 + 20) (by decide) (nI99_add (flR_n O sd i _ (by omega) _ (Nat.mod_lt _ (by decide))) ⟨20, by omega, rfl⟩)
                exact ih zg12 (by rw [ezg12, hz9]; exact fl_step O C2 hpl) (by rw [ezg12]; exact hf2.gs (mX_i (by omega)) _ _) (by rw [ezg12, gs_n _ _ _ (by decide)]; exact hk)
        refine xj_sub (lv' := [(5, .int 0), (3, .long (lN (ltN sd 0))), (0, .ref 86), (1, .int (nI sd)), (2, .int (nI fl))]) [0, 1, 2, 3, 4] rfl ?_
        exact key2 0 (Nat.zero_le _) g1 (by rw [flA_0]; exact C.keep hf) hf.fr rfl
      · exact absurd (nI_le (Nat.le_refl _) (by decide)) zc12
    · intro i hi ih g1 hf hz
      refine xj_iload (i := 5) 0 rfl dX12_seenBy_8 ?_
      refine xj_bipush (v := 96) (by decide) dX12_seenBy_10 ?_
      refine xj_icmp_ge (tgt := 35) (by decide) dX12_seenBy_12 (fun zc12 => ?_) (fun zc12 => ?_)
      · exact absurd zc12 (nI_ge hi (by decide))
      · refine xj_aload_n (n := 0) (i := 0) 2 rfl rfl dX12_seenBy_15 ?_
        refine yj_getf (v := .ref 109) fl_X12_80_12 (by omega) (fq_86 g1) rfl dX12_seenBy_16 ?_
        refine xj_iload (i := 5) 0 rfl dX12_seenBy_19 ?_
        refine xj_aload_n (n := 0) (i := 0) 2 rfl rfl dX12_seenBy_21 ?_
        refine yj_getf (v := .ref 89) fl_X12_16_12 (by omega) (fq_86 g1) rfl dX12_seenBy_22 ?_
        refine xj_iload (i := 5) 0 rfl dX12_seenBy_25 ?_
        refine yj_ialdN i (by omega) fA_89 rfl (by omega) (by decide) dX12_seenBy_27 ?_
        refine xj_topi (fun zv13 ezv13 => ?_)
        refine yj_iastN i (by omega) fA_109 rfl (by omega) (by decide) dX12_seenBy_28 ?_
        obtain ⟨zg14, ezg14⟩ : ∃ z, z = gs g1 109 i zv13 := ⟨_, rfl⟩
        rw [← ezg14]
        have hxzg14 : fm g zg14 := by rw [ezg14]; exact hf.gS (by unfold sM; omega) _ _
        have Czg14 := C.keep hxzg14
        refine xj_iinc (n := 1) (i := 5) (v := nI (i + 1)) (lv1 := [(5, .int (nI (i + 1))), (3, .long (lN (ltN sd 0))), (0, .ref 86), (1, .int (nI sd)), (2, .int (nI fl))]) 0 rfl (nI_1 i) rfl (Nat.le_of_ble_eq_true rfl) dX12_seenBy_29 ?_
        refine xj_goto (tgt := 8) (by decide) dX12_seenBy_32 ?_
        refine xj_sub (lv' := [(5, .int (nI (i + 1))), (3, .long (lN (ltN sd 0))), (0, .ref 86), (1, .int (nI sd)), (2, .int (nI fl))]) [0, 1, 2, 3, 4] rfl ?_
        refine ih zg14 (by rw [ezg14]; exact hf.gS (by unfold sM; omega) _ _) (fun j hj => ?_)
        rw [ezg14, gs_s]; by_cases e : j = i; (subst e; rw [upd_s, ezv13, hf.1 89 (by decide) (by unfold sM; omega)]); (rw [upd_n _ _ e]; exact hz j (by omega))
  refine xj_sub (lv' := [(5, .int 0), (3, .long (lN (ltN sd 0))), (0, .ref 86), (1, .int (nI sd)), (2, .int (nI fl))]) [0, 1, 2, 3, 4] rfl ?_
  exact key 0 (Nat.zero_le _) g fm.rf (fun j hj => absurd hj (Nat.not_lt_zero j))
set_option maxHeartbeats 4000000 in
set_option maxRecDepth 100000 in
theorem c_X12_drawn (l : Launch) (d : Nat) (n : Nat) (hn : 110 ≤ n) (g : xG) (A : zSt) (Λ : Nat → xL) (O : okA A) (C : mA g A Λ) (sd fl : Int32)  : xC l yX12_drawn cX12_drawn 3 (some .int) (xR (d + 8) 0 0) [.ref 86, .int sd, .int fl] (n, fh g) (qI n fun v g1 => v = vDrawn A Λ sd fl ∧ mA g1 A Λ ∧ fr mX g g1) := by
  refine xC_of false (by decide +kernel) (fun z => by cases z) (Nat.le_of_ble_eq_true rfl) ?_
  have hS6 := O.1.2
  have hW := O.W
  have hT6 := O.2.2.2.1.2.2
  have hN9 := O.2.1.2
  show xJ l (RX12, 3, (some .int), false, (xR (d + 8) 0 0), none) cX12_drawn _ 0 0 0 [(0, .ref 86), (1, .int sd), (2, .int fl)] [] (n, fh g)
  refine xj_iload_n (n := 1) (i := 1) 1 rfl rfl dX12_drawn_0 ?_
  refine xj_iconst (v := 0) (by decide) dX12_drawn_1 ?_
  refine xj_ldcw cn_X12_275 dX12_drawn_2 ?_
  refine xj_callS ks_X12_93 (c_X12_in l (d + 7) sd 0 99999 _) (As := [.int sd, .int 0, .int 99999]) (st := []) rfl rfl (xRm_of (by omega) (by decide) (by omega) (by omega)) (Nat.le_of_ble_eq_true rfl) dX12_drawn_5 (yk_p (kc := 0) (ks := 0) ?_)
  refine xj_if_eq (tgt := 30) (by decide) dX12_drawn_8 (fun zc8 => ?_) (fun zc8 => ?_)
  · have zp8 : ¬ (0 ≤ sd ∧ sd ≤ 99999) := bI_0.mp zc8
    refine xj_bipush (v := (-2)) (by decide) dX12_drawn_30 ?_
    exact xj_ireturn rfl (nr_i _) (Nat.zero_le _) (Nat.zero_le _) dX12_drawn_32 (qI_e ⟨by unfold vDrawn; rw [if_neg zp8]; all_goals (rfl), C, fr.rf⟩)
  · have zp8 : 0 ≤ sd ∧ sd ≤ 99999 := bI_n0.mp zc8
    obtain ⟨ksd, hksd, rfl⟩ := nI_bnd (m := 99999) (by decide) zp8.1 zp8.2
    refine xj_iload_n (n := 2) (i := 2) 2 rfl rfl dX12_drawn_11 ?_
    refine xj_iconst (v := 0) (by decide) dX12_drawn_12 ?_
    refine xj_bipush (v := 99) (by decide) dX12_drawn_13 ?_
    refine xj_callS ks_X12_93 (c_X12_in l (d + 7) fl 0 99 _) (As := [.int fl, .int 0, .int 99]) (st := []) rfl rfl (xRm_of (by omega) (by decide) (by omega) (by omega)) (Nat.le_of_ble_eq_true rfl) dX12_drawn_15 (yk_p (kc := 0) (ks := 0) ?_)
    refine xj_if_eq (tgt := 30) (by decide) dX12_drawn_18 (fun zc18 => ?_) (fun zc18 => ?_)
    · have zp18 : ¬ (0 ≤ fl ∧ fl ≤ 99) := bI_0.mp zc18
      refine xj_bipush (v := (-2)) (by decide) dX12_drawn_30 ?_
      exact xj_ireturn rfl (nr_i _) (Nat.zero_le _) (Nat.zero_le _) dX12_drawn_32 (qI_e ⟨by unfold vDrawn; (try simp only [nI_clamp (show ksd < 2147483648 by omega)]); rw [if_pos zp8, if_neg zp18]; all_goals (rfl), C, fr.rf⟩)
    · have zp18 : 0 ≤ fl ∧ fl ≤ 99 := bI_n0.mp zc18
      obtain ⟨kfl, hkfl, rfl⟩ := nI_bnd (m := 99) (by decide) zp18.1 zp18.2
      refine xj_aload_n (n := 0) (i := 0) 0 rfl rfl dX12_drawn_21 ?_
      refine xj_iload_n (n := 1) (i := 1) 1 rfl rfl dX12_drawn_22 ?_
      refine xj_iload_n (n := 2) (i := 2) 2 rfl rfl dX12_drawn_23 ?_
      refine xj_callV kv_X12_276 (c_X12_seenBy l (d + 0) n hn g A Λ O C ksd kfl (by omega) (by omega)) (As := [.int (nI ksd), .int (nI kfl)]) (st := []) (by omega) (fq_86 g) (ci := 12) rfl rfl rfl rfl (xRm_of (by omega) (by decide) (by omega) (by omega)) (Nat.le_of_ble_eq_true rfl) dX12_drawn_24 (yk_i (kc := 0) (ks := 0) fun zv1 zg2 hzg2 => ?_)
      obtain ⟨hvzv1, Czg2, hxzg2⟩ := hzg2
      refine xj_goto (tgt := 32) (by decide) dX12_drawn_27 ?_
      exact xj_ireturn rfl (nr_i _) (Nat.zero_le _) (Nat.zero_le _) dX12_drawn_32 (qI_e ⟨by unfold vDrawn; (try simp only [nI_clamp (show ksd < 2147483648 by omega), nI_clamp (show kfl < 2147483648 by omega)]); rw [if_pos zp8, if_pos zp18]; all_goals (exact hvzv1), Czg2, hxzg2⟩)
set_option maxHeartbeats 4000000 in
set_option maxRecDepth 100000 in
theorem c_X12_lowest (l : Launch) (d : Nat) (a b part : Nat) (hb0 : 0 < b) (hb : b ≤ 40) (ha : a ≤ 40) (hp : part ≤ 1) (h : xH)  : xC l yX12_lowest cX12_lowest 11 (some .long) (xR (d + 0) 0 0) [.long (lN a), .long (lN b), .int (nI part)] h (qPL (odV part a b) h) := by
  refine xC_of false (by decide +kernel) (fun z => by cases z) (Nat.le_of_ble_eq_true rfl) ?_
  show xJ l (RX12, 11, (some .long), false, (xR (d + 0) 0 0), none) cX12_lowest _ 0 0 0 [(0, .long (lN a)), (2, .long (lN b)), (4, .int (nI part))] [] h
  refine xj_lload_n (n := 0) (i := 0) 0 rfl rfl dX12_lowest_0 ?_
  refine xj_lconst (v := 0) (by decide) dX12_lowest_1 ?_
  refine xj_lcmp dX12_lowest_2 ?_
  refine xj_if_ne (tgt := 10) (by decide) dX12_lowest_3 (fun zc3 => ?_) (fun zc3 => ?_)
  · have ha0 : 0 < a := Nat.pos_of_ne_zero (fun e => zc3 ((lg_cmp_eq _ _).mpr (by rw [e]; rfl)))
    refine xj_lload_n (n := 0) (i := 0) 0 rfl rfl dX12_lowest_10 ?_
    refine xj_lstore (i := 5) (lv1 := [(5, .long (lN a)), (0, .long (lN a)), (2, .long (lN b)), (4, .int (nI part))]) rfl (Nat.le_of_ble_eq_true rfl) dX12_lowest_11 ?_
    refine xj_lload_n (n := 2) (i := 2) 2 rfl rfl dX12_lowest_13 ?_
    refine xj_lstore (i := 7) (lv1 := [(7, .long (lN b)), (5, .long (lN a)), (0, .long (lN a)), (2, .long (lN b)), (4, .int (nI part))]) rfl (Nat.le_of_ble_eq_true rfl) dX12_lowest_14 ?_
    have key : ∀ y, y ≤ 40 → ∀ x, 0 < x → x ≤ 40 → Nat.gcd x y = Nat.gcd a b → xJ l (RX12, 11, (some .long), false, (xR (d + 0) 0 0), none) cX12_lowest (qPL (odV part a b) h) 0 0 16 [(7, .long (lN y)), (5, .long (lN x)), (0, .long (lN a)), (2, .long (lN b)), (4, .int (nI part))] [] h := by
      intro y
      induction y using Nat.strongRecOn with
      | ind y ih =>
        intro hy40 x hx hx40 hg
        refine xj_lload (i := 7) 0 rfl dX12_lowest_16 ?_
        refine xj_lconst (v := 0) (by decide) dX12_lowest_18 ?_
        refine xj_lcmp dX12_lowest_19 ?_
        refine xj_if_eq (tgt := 41) (by decide) dX12_lowest_20 (fun zc20 => ?_) (fun zc20 => ?_)
        · have hy0 : y = 0 := (pk_lEQ (b := 0) (by omega) (by decide)).mp ((lg_cmp_eq _ _).mp zc20)
          rw [hy0, Nat.gcd_zero_right] at hg
          refine xj_iload (i := 4) 4 rfl dX12_lowest_41 ?_
          refine xj_if_ne (tgt := 50) (by decide) dX12_lowest_43 (fun zc43 => ?_) (fun zc43 => ?_)
          · have hwh : (if part = 0 then a else b) = b := if_neg (fun e => zc43 (by rw [e]; rfl))
            refine xj_lload_n (n := 2) (i := 2) 3 rfl rfl dX12_lowest_50 ?_
            refine xj_lload (i := 5) 1 rfl dX12_lowest_51 ?_
            refine xj_ldiv (fun z => by have h := (pk_lEQ (b := 0) (by omega) (by omega)).mp z; omega) dX12_lowest_53 ?_
            exact xj_lreturn rfl (Nat.zero_le _) (Nat.zero_le _) dX12_lowest_54 (qPL_e (by unfold odV; rw [hwh, ← hg]; exact pk_lDiv (by omega) hx (by omega)))
          · have hwh : (if part = 0 then a else b) = a := if_pos ((nI_eq (b := 0) (by omega) (by omega)).mp zc43)
            refine xj_lload_n (n := 0) (i := 0) 2 rfl rfl dX12_lowest_46 ?_
            refine xj_goto (tgt := 51) (by decide) dX12_lowest_47 ?_
            refine xj_lload (i := 5) 1 rfl dX12_lowest_51 ?_
            refine xj_ldiv (fun z => by have h := (pk_lEQ (b := 0) (by omega) (by omega)).mp z; omega) dX12_lowest_53 ?_
            exact xj_lreturn rfl (Nat.zero_le _) (Nat.zero_le _) dX12_lowest_54 (qPL_e (by unfold odV; rw [hwh, ← hg]; exact pk_lDiv (by omega) hx (by omega)))
        · have hy0 : 0 < y := Nat.pos_of_ne_zero (fun e => zc20 ((lg_cmp_eq _ _).mpr (by rw [e]; rfl)))
          refine xj_lload (i := 5) 1 rfl dX12_lowest_23 ?_
          refine xj_lload (i := 7) 0 rfl dX12_lowest_25 ?_
          refine xj_lrem (fun z => by have h := (pk_lEQ (b := 0) (by omega) (by omega)).mp z; omega) dX12_lowest_27 ?_
          refine xj_topl (show ((lN x) - (lN x) / (lN y) * (lN y)) = lN (x % y) from (pk_lRem (by omega) hy0 (by omega))) ?_
          refine xj_lstore (i := 9) (lv1 := [(9, .long (lN (x % y))), (7, .long (lN y)), (5, .long (lN x)), (0, .long (lN a)), (2, .long (lN b)), (4, .int (nI part))]) rfl (Nat.le_of_ble_eq_true rfl) dX12_lowest_28 ?_
          refine xj_lload (i := 7) 1 rfl dX12_lowest_30 ?_
          refine xj_lstore (i := 5) (lv1 := [(5, .long (lN y)), (9, .long (lN (x % y))), (7, .long (lN y)), (0, .long (lN a)), (2, .long (lN b)), (4, .int (nI part))]) rfl (Nat.le_of_ble_eq_true rfl) dX12_lowest_32 ?_
          refine xj_lload (i := 9) 1 rfl dX12_lowest_34 ?_
          refine xj_lstore (i := 7) (lv1 := [(7, .long (lN (x % y))), (5, .long (lN y)), (9, .long (lN (x % y))), (0, .long (lN a)), (2, .long (lN b)), (4, .int (nI part))]) rfl (Nat.le_of_ble_eq_true rfl) dX12_lowest_36 ?_
          refine xj_goto (tgt := 16) (by decide) dX12_lowest_38 ?_
          refine xj_sub (lv' := [(7, .long (lN (x % y))), (5, .long (lN y)), (0, .long (lN a)), (2, .long (lN b)), (4, .int (nI part))]) [0, 1, 3, 4, 5] rfl ?_
          exact ih (x % y) (Nat.mod_lt x hy0) (by have hm := Nat.mod_lt x hy0; omega) y hy0 hy40 (by rw [Nat.gcd_comm y, ← Nat.gcd_rec, Nat.gcd_comm y]; exact hg)
    refine xj_sub (lv' := [(7, .long (lN b)), (5, .long (lN a)), (0, .long (lN a)), (2, .long (lN b)), (4, .int (nI part))]) [0, 1, 2, 3, 4] rfl ?_
    exact key b hb a ha0 ha rfl
  · have ha0 : a = 0 := (pk_lEQ (b := 0) (by omega) (by decide)).mp ((lg_cmp_eq _ _).mp zc3)
    refine xj_iload (i := 4) 2 rfl dX12_lowest_6 ?_
    refine xj_i2l dX12_lowest_8 ?_
    exact xj_lreturn rfl (Nat.zero_le _) (Nat.zero_le _) dX12_lowest_9 (qPL_e (by rw [nI_l (by omega)]; unfold odV; rw [ha0, Nat.gcd_zero_left]; rcases (show part = 0 ∨ part = 1 by omega) with rfl | rfl; (rw [if_pos rfl, Nat.zero_div]); (rw [if_neg (by decide), Nat.div_self hb0])))
set_option maxHeartbeats 4000000 in
set_option maxRecDepth 100000 in
theorem c_X12_odds (l : Launch) (d : Nat) (n : Nat) (hn : 110 ≤ n) (g : xG) (A : zSt) (Λ : Nat → xL) (O : okA A) (C : mA g A Λ) (sd sds fl mn part : Int32)  : xC l yX12_odds cX12_odds 10 (some .long) (xR (d + 8) 0 0) [.ref 86, .int sd, .int sds, .int fl, .int mn, .int part] (n, fh g) (qL n fun v g1 => v = vOdds A Λ sd sds fl mn part ∧ mA g1 A Λ ∧ fr mX g g1) := by
  refine xC_of false (by decide +kernel) (fun z => by cases z) (Nat.le_of_ble_eq_true rfl) ?_
  have hS6 := O.1.2
  have hW := O.W
  have hT6 := O.2.2.2.1.2.2
  have hN9 := O.2.1.2
  show xJ l (RX12, 10, (some .long), false, (xR (d + 8) 0 0), none) cX12_odds _ 0 0 0 [(0, .ref 86), (1, .int sd), (2, .int sds), (3, .int fl), (4, .int mn), (5, .int part)] [] (n, fh g)
  refine xj_iload_n (n := 1) (i := 1) 1 rfl rfl dX12_odds_0 ?_
  refine xj_iconst (v := 0) (by decide) dX12_odds_1 ?_
  refine xj_ldcw cn_X12_275 dX12_odds_2 ?_
  refine xj_callS ks_X12_93 (c_X12_in l (d + 7) sd 0 99999 _) (As := [.int sd, .int 0, .int 99999]) (st := []) rfl rfl (xRm_of (by omega) (by decide) (by omega) (by omega)) (Nat.le_of_ble_eq_true rfl) dX12_odds_5 (yk_p (kc := 0) (ks := 0) ?_)
  refine xj_if_eq (tgt := 56) (by decide) dX12_odds_8 (fun zc8 => ?_) (fun zc8 => ?_)
  · have zp8 : ¬ (0 ≤ sd ∧ sd ≤ 99999) := bI_0.mp zc8
    refine xj_iconst (v := 0) (by decide) dX12_odds_56 ?_
    refine xj_istore (i := 6) (lv1 := [(6, .int 0), (0, .ref 86), (1, .int sd), (2, .int sds), (3, .int fl), (4, .int mn), (5, .int part)]) rfl (Nat.le_of_ble_eq_true rfl) dX12_odds_57 ?_
    refine xj_iload (i := 6) 0 rfl dX12_odds_59 ?_
    refine xj_if_ne (tgt := 68) (by decide) dX12_odds_61 (fun zc61 => ?_) (fun zc61 => ?_)
    · exact absurd zc61 (fun z => z rfl)
    · refine xj_ldc2 cn_X12_279 dX12_odds_64 ?_
      exact xj_lreturn rfl (Nat.zero_le _) (Nat.zero_le _) dX12_odds_67 (qL_e ⟨(vOdds_no (fun z => zp8 z.1)).symm, C, fr.rf⟩)
  · have zp8 : 0 ≤ sd ∧ sd ≤ 99999 := bI_n0.mp zc8
    obtain ⟨ksd, hksd, rfl⟩ := nI_bnd (m := 99999) (by decide) zp8.1 zp8.2
    refine xj_iload_n (n := 2) (i := 2) 2 rfl rfl dX12_odds_11 ?_
    refine xj_iconst (v := 1) (by decide) dX12_odds_12 ?_
    refine xj_bipush (v := 40) (by decide) dX12_odds_13 ?_
    refine xj_callS ks_X12_93 (c_X12_in l (d + 7) sds 1 40 _) (As := [.int sds, .int 1, .int 40]) (st := []) rfl rfl (xRm_of (by omega) (by decide) (by omega) (by omega)) (Nat.le_of_ble_eq_true rfl) dX12_odds_15 (yk_p (kc := 0) (ks := 0) ?_)
    refine xj_if_eq (tgt := 56) (by decide) dX12_odds_18 (fun zc18 => ?_) (fun zc18 => ?_)
    · have zp18 : ¬ (1 ≤ sds ∧ sds ≤ 40) := bI_0.mp zc18
      refine xj_iconst (v := 0) (by decide) dX12_odds_56 ?_
      refine xj_istore (i := 6) (lv1 := [(6, .int 0), (0, .ref 86), (1, .int (nI ksd)), (2, .int sds), (3, .int fl), (4, .int mn), (5, .int part)]) rfl (Nat.le_of_ble_eq_true rfl) dX12_odds_57 ?_
      refine xj_iload (i := 6) 0 rfl dX12_odds_59 ?_
      refine xj_if_ne (tgt := 68) (by decide) dX12_odds_61 (fun zc61 => ?_) (fun zc61 => ?_)
      · exact absurd zc61 (fun z => z rfl)
      · refine xj_ldc2 cn_X12_279 dX12_odds_64 ?_
        exact xj_lreturn rfl (Nat.zero_le _) (Nat.zero_le _) dX12_odds_67 (qL_e ⟨(vOdds_no (fun z => zp18 z.2.1)).symm, C, fr.rf⟩)
    · have zp18 : 1 ≤ sds ∧ sds ≤ 40 := bI_n0.mp zc18
      refine xj_iload_n (n := 3) (i := 3) 3 rfl rfl dX12_odds_21 ?_
      refine xj_iconst (v := 0) (by decide) dX12_odds_22 ?_
      refine xj_bipush (v := 99) (by decide) dX12_odds_23 ?_
      refine xj_callS ks_X12_93 (c_X12_in l (d + 7) fl 0 99 _) (As := [.int fl, .int 0, .int 99]) (st := []) rfl rfl (xRm_of (by omega) (by decide) (by omega) (by omega)) (Nat.le_of_ble_eq_true rfl) dX12_odds_25 (yk_p (kc := 0) (ks := 0) ?_)
      refine xj_if_eq (tgt := 56) (by decide) dX12_odds_28 (fun zc28 => ?_) (fun zc28 => ?_)
      · have zp28 : ¬ (0 ≤ fl ∧ fl ≤ 99) := bI_0.mp zc28
        refine xj_iconst (v := 0) (by decide) dX12_odds_56 ?_
        refine xj_istore (i := 6) (lv1 := [(6, .int 0), (0, .ref 86), (1, .int (nI ksd)), (2, .int sds), (3, .int fl), (4, .int mn), (5, .int part)]) rfl (Nat.le_of_ble_eq_true rfl) dX12_odds_57 ?_
        refine xj_iload (i := 6) 0 rfl dX12_odds_59 ?_
        refine xj_if_ne (tgt := 68) (by decide) dX12_odds_61 (fun zc61 => ?_) (fun zc61 => ?_)
        · exact absurd zc61 (fun z => z rfl)
        · refine xj_ldc2 cn_X12_279 dX12_odds_64 ?_
          exact xj_lreturn rfl (Nat.zero_le _) (Nat.zero_le _) dX12_odds_67 (qL_e ⟨(vOdds_no (fun z => zp28 z.2.2.1)).symm, C, fr.rf⟩)
      · have zp28 : 0 ≤ fl ∧ fl ≤ 99 := bI_n0.mp zc28
        obtain ⟨kfl, hkfl, rfl⟩ := nI_bnd (m := 99) (by decide) zp28.1 zp28.2
        refine xj_iload (i := 4) 4 rfl dX12_odds_31 ?_
        refine xj_iconst (v := 0) (by decide) dX12_odds_33 ?_
        refine xj_bipush (v := 96) (by decide) dX12_odds_34 ?_
        refine xj_callS ks_X12_93 (c_X12_in l (d + 7) mn 0 96 _) (As := [.int mn, .int 0, .int 96]) (st := []) rfl rfl (xRm_of (by omega) (by decide) (by omega) (by omega)) (Nat.le_of_ble_eq_true rfl) dX12_odds_36 (yk_p (kc := 0) (ks := 0) ?_)
        refine xj_if_eq (tgt := 56) (by decide) dX12_odds_39 (fun zc39 => ?_) (fun zc39 => ?_)
        · have zp39 : ¬ (0 ≤ mn ∧ mn ≤ 96) := bI_0.mp zc39
          refine xj_iconst (v := 0) (by decide) dX12_odds_56 ?_
          refine xj_istore (i := 6) (lv1 := [(6, .int 0), (0, .ref 86), (1, .int (nI ksd)), (2, .int sds), (3, .int (nI kfl)), (4, .int mn), (5, .int part)]) rfl (Nat.le_of_ble_eq_true rfl) dX12_odds_57 ?_
          refine xj_iload (i := 6) 0 rfl dX12_odds_59 ?_
          refine xj_if_ne (tgt := 68) (by decide) dX12_odds_61 (fun zc61 => ?_) (fun zc61 => ?_)
          · exact absurd zc61 (fun z => z rfl)
          · refine xj_ldc2 cn_X12_279 dX12_odds_64 ?_
            exact xj_lreturn rfl (Nat.zero_le _) (Nat.zero_le _) dX12_odds_67 (qL_e ⟨(vOdds_no (fun z => zp39 z.2.2.2.1)).symm, C, fr.rf⟩)
        · have zp39 : 0 ≤ mn ∧ mn ≤ 96 := bI_n0.mp zc39
          refine xj_iload (i := 5) 5 rfl dX12_odds_42 ?_
          refine xj_iconst (v := 0) (by decide) dX12_odds_44 ?_
          refine xj_iconst (v := 1) (by decide) dX12_odds_45 ?_
          refine xj_callS ks_X12_93 (c_X12_in l (d + 7) part 0 1 _) (As := [.int part, .int 0, .int 1]) (st := []) rfl rfl (xRm_of (by omega) (by decide) (by omega) (by omega)) (Nat.le_of_ble_eq_true rfl) dX12_odds_46 (yk_p (kc := 0) (ks := 0) ?_)
          refine xj_if_eq (tgt := 56) (by decide) dX12_odds_49 (fun zc49 => ?_) (fun zc49 => ?_)
          · have zp49 : ¬ (0 ≤ part ∧ part ≤ 1) := bI_0.mp zc49
            refine xj_iconst (v := 0) (by decide) dX12_odds_56 ?_
            refine xj_istore (i := 6) (lv1 := [(6, .int 0), (0, .ref 86), (1, .int (nI ksd)), (2, .int sds), (3, .int (nI kfl)), (4, .int mn), (5, .int part)]) rfl (Nat.le_of_ble_eq_true rfl) dX12_odds_57 ?_
            refine xj_iload (i := 6) 0 rfl dX12_odds_59 ?_
            refine xj_if_ne (tgt := 68) (by decide) dX12_odds_61 (fun zc61 => ?_) (fun zc61 => ?_)
            · exact absurd zc61 (fun z => z rfl)
            · refine xj_ldc2 cn_X12_279 dX12_odds_64 ?_
              exact xj_lreturn rfl (Nat.zero_le _) (Nat.zero_le _) dX12_odds_67 (qL_e ⟨(vOdds_no (fun z => zp49 z.2.2.2.2)).symm, C, fr.rf⟩)
          · have zp49 : 0 ≤ part ∧ part ≤ 1 := bI_n0.mp zc49
            obtain ⟨kpart, hkpart, rfl⟩ := nI_bnd (m := 1) (by decide) zp49.1 zp49.2
            refine xj_iconst (v := 1) (by decide) dX12_odds_52 ?_
            refine xj_goto (tgt := 57) (by decide) dX12_odds_53 ?_
            refine xj_istore (i := 6) (lv1 := [(6, .int 1), (0, .ref 86), (1, .int (nI ksd)), (2, .int sds), (3, .int (nI kfl)), (4, .int mn), (5, .int (nI kpart))]) rfl (Nat.le_of_ble_eq_true rfl) dX12_odds_57 ?_
            refine xj_iload (i := 6) 0 rfl dX12_odds_59 ?_
            refine xj_if_ne (tgt := 68) (by decide) dX12_odds_61 (fun zc61 => ?_) (fun zc61 => ?_)
            · obtain ⟨ksds, hksds1, hksds, rfl⟩ := sds_n (le_nlt zp18.1) (le_nlt zp18.2)
              refine xj_lconst (v := 0) (by decide) dX12_odds_68 ?_
              refine xj_topl (show 0 = lN 0 from rfl) ?_
              refine xj_lstore (i := 7) (lv1 := [(7, .long (lN 0)), (6, .int 1), (0, .ref 86), (1, .int (nI ksd)), (2, .int (nI ksds)), (3, .int (nI kfl)), (4, .int mn), (5, .int (nI kpart))]) rfl (Nat.le_of_ble_eq_true rfl) dX12_odds_69 ?_
              refine xj_iconst (v := 0) (by decide) dX12_odds_71 ?_
              refine xj_istore (i := 9) (lv1 := [(9, .int 0), (7, .long (lN 0)), (6, .int 1), (0, .ref 86), (1, .int (nI ksd)), (2, .int (nI ksds)), (3, .int (nI kfl)), (4, .int mn), (5, .int (nI kpart))]) rfl (Nat.le_of_ble_eq_true rfl) dX12_odds_72 ?_
              have key : ∀ i, i ≤ ksds → ∀ (g1 : xG), mA g1 A Λ → fr mX g g1 → xJ l (RX12, 10, (some .long), false, (xR (d + 8) 0 0), none) cX12_odds (qL n fun v g1 => v = vOdds A Λ (nI ksd) (nI ksds) (nI kfl) mn (nI kpart) ∧ mA g1 A Λ ∧ fr mX g g1) 0 0 74 [(9, .int (nI i)), (7, .long (lN (cnN (odB A Λ ksd kfl mn) i))), (0, .ref 86), (1, .int (nI ksd)), (2, .int (nI ksds)), (3, .int (nI kfl)), (4, .int mn), (5, .int (nI kpart))] [] (n, fh g1) := by
                refine x_loop ksds _ ?_ ?_
                · intro g1 C1 hf
                  have hg40 := cnN_le (odB A Λ ksd kfl mn) ksds
                  refine xj_iload (i := 9) 0 rfl dX12_odds_74 ?_
                  refine xj_iload_n (n := 2) (i := 2) 4 rfl rfl dX12_odds_76 ?_
                  refine xj_icmp_ge (tgt := 110) (by decide) dX12_odds_77 (fun zc77 => ?_) (fun zc77 => ?_)
                  · refine xj_lload (i := 7) 1 rfl dX12_odds_110 ?_
                    refine xj_iload_n (n := 2) (i := 2) 4 rfl rfl dX12_odds_112 ?_
                    refine xj_i2l dX12_odds_113 ?_
                    refine xj_topl (show ((nI ksds).toInt64) = lN ksds from (nI_l (by omega))) ?_
                    refine xj_iload (i := 5) 7 rfl dX12_odds_114 ?_
                    refine xj_callS ks_X12_281 (c_X12_lowest l (d + 7) (cnN (odB A Λ ksd kfl mn) ksds) ksds kpart hksds1 hksds (by omega) (by omega) _) (As := [.long (lN (cnN (odB A Λ ksd kfl mn) ksds)), .long (lN ksds), .int (nI kpart)]) (st := []) rfl rfl (xRm_of (by omega) (by decide) (by omega) (by omega)) (Nat.le_of_ble_eq_true rfl) dX12_odds_116 (yk_pl (kc := 0) (ks := 0) ?_)
                    exact xj_lreturn rfl (Nat.zero_le _) (Nat.zero_le _) dX12_odds_119 (qL_e ⟨by unfold vOdds; (try simp only [nI_clamp (show ksd < 2147483648 by omega), nI_clamp (show kfl < 2147483648 by omega), nI_clamp (show kpart < 2147483648 by omega), nI_clamp (show ksds < 2147483648 by omega)]); rw [if_pos zp8, if_neg (le_nlt zp18.1), if_neg (le_nlt zp18.2), if_pos zp28, if_pos zp39, if_pos zp49]; all_goals (rfl), C1, hf⟩)
                  · exact absurd (nI_le (Nat.le_refl _) (by omega)) zc77
                · intro i hi ih g1 C1 hf
                  refine xj_iload (i := 9) 0 rfl dX12_odds_74 ?_
                  refine xj_iload_n (n := 2) (i := 2) 4 rfl rfl dX12_odds_76 ?_
                  refine xj_icmp_ge (tgt := 110) (by decide) dX12_odds_77 (fun zc77 => ?_) (fun zc77 => ?_)
                  · exact absurd zc77 (nI_ge hi (by omega))
                  · refine xj_lload (i := 7) 1 rfl dX12_odds_80 ?_
                    refine xj_aload_n (n := 0) (i := 0) 2 rfl rfl dX12_odds_82 ?_
                    refine xj_iload_n (n := 1) (i := 1) 3 rfl rfl dX12_odds_83 ?_
                    refine xj_iload (i := 9) 0 rfl dX12_odds_84 ?_
                    refine xj_iadd dX12_odds_86 ?_
                    refine xj_top (nI_add _ _) ?_
                    refine xj_iload_n (n := 3) (i := 3) 5 rfl rfl dX12_odds_87 ?_
                    refine xj_callV kv_X12_276 (c_X12_seenBy l (d + 0) n hn g1 A Λ O C1 (ksd + i) kfl (by omega) (by omega)) (As := [.int (nI (ksd + i)), .int (nI kfl)]) (st := [.long (lN (cnN (odB A Λ ksd kfl mn) i))]) (by omega) (fq_86 g1) (ci := 12) rfl rfl rfl rfl (xRm_of (by omega) (by decide) (by omega) (by omega)) (Nat.le_of_ble_eq_true rfl) dX12_odds_88 (yk_i (kc := 0) (ks := 0) fun zv1 zg2 hzg2 => ?_)
                    obtain ⟨hvzv1, Czg2, hxzg2⟩ := hzg2
                    refine xj_iload (i := 4) 6 rfl dX12_odds_91 ?_
                    refine xj_icmp_lt (tgt := 100) (by decide) dX12_odds_93 (fun zc93 => ?_) (fun zc93 => ?_)
                    · have hob : ¬ (odB A Λ ksd kfl mn) i = true := fun y => of_decide_eq_true y (by rw [← hvzv1]; exact zc93)
                      refine xj_lconst (v := 0) (by decide) dX12_odds_100 ?_
                      refine xj_ladd dX12_odds_101 ?_
                      refine xj_topl (show ((lN (cnN (odB A Λ ksd kfl mn) i)) + 0) = lN (cnN (odB A Λ ksd kfl mn) i) from (Int64.add_zero _)) ?_
                      refine xj_lstore (i := 7) (lv1 := [(7, .long (lN (cnN (odB A Λ ksd kfl mn) i))), (9, .int (nI i)), (0, .ref 86), (1, .int (nI ksd)), (2, .int (nI ksds)), (3, .int (nI kfl)), (4, .int mn), (5, .int (nI kpart))]) rfl (Nat.le_of_ble_eq_true rfl) dX12_odds_102 ?_
                      refine xj_iinc (n := 1) (i := 9) (v := nI (i + 1)) (lv1 := [(9, .int (nI (i + 1))), (7, .long (lN (cnN (odB A Λ ksd kfl mn) i))), (0, .ref 86), (1, .int (nI ksd)), (2, .int (nI ksds)), (3, .int (nI kfl)), (4, .int mn), (5, .int (nI kpart))]) 1 rfl (nI_1 i) rfl (Nat.le_of_ble_eq_true rfl) dX12_odds_104 ?_
                      refine xj_goto (tgt := 74) (by decide) dX12_odds_107 ?_
                      refine xj_sub (lv' := [(9, .int (nI (i + 1))), (7, .long (lN (cnN (odB A Λ ksd kfl mn) i))), (0, .ref 86), (1, .int (nI ksd)), (2, .int (nI ksds)), (3, .int (nI kfl)), (4, .int mn), (5, .int (nI kpart))]) [0, 1, 2, 3, 4, 5, 6, 7] rfl ?_
                      have h9 := ih zg2 Czg2 (hf.tr hxzg2)
                      rw [show cnN (odB A Λ ksd kfl mn) (i + 1) = cnN (odB A Λ ksd kfl mn) i from if_neg hob] at h9
                      exact h9
                    · have hob : (odB A Λ ksd kfl mn) i = true := decide_eq_true (fun y => zc93 (by rw [hvzv1]; exact y))
                      refine xj_lconst (v := 1) (by decide) dX12_odds_96 ?_
                      refine xj_goto (tgt := 101) (by decide) dX12_odds_97 ?_
                      refine xj_ladd dX12_odds_101 ?_
                      refine xj_topl (show ((lN (cnN (odB A Λ ksd kfl mn) i)) + 1) = lN (cnN (odB A Λ ksd kfl mn) i + 1) from (lN_1 _)) ?_
                      refine xj_lstore (i := 7) (lv1 := [(7, .long (lN (cnN (odB A Λ ksd kfl mn) i + 1))), (9, .int (nI i)), (0, .ref 86), (1, .int (nI ksd)), (2, .int (nI ksds)), (3, .int (nI kfl)), (4, .int mn), (5, .int (nI kpart))]) rfl (Nat.le_of_ble_eq_true rfl) dX12_odds_102 ?_
                      refine xj_iinc (n := 1) (i := 9) (v := nI (i + 1)) (lv1 := [(9, .int (nI (i + 1))), (7, .long (lN (cnN (odB A Λ ksd kfl mn) i + 1))), (0, .ref 86), (1, .int (nI ksd)), (2, .int (nI ksds)), (3, .int (nI kfl)), (4, .int mn), (5, .int (nI kpart))]) 1 rfl (nI_1 i) rfl (Nat.le_of_ble_eq_true rfl) dX12_odds_104 ?_
                      refine xj_goto (tgt := 74) (by decide) dX12_odds_107 ?_
                      refine xj_sub (lv' := [(9, .int (nI (i + 1))), (7, .long (lN (cnN (odB A Λ ksd kfl mn) i + 1))), (0, .ref 86), (1, .int (nI ksd)), (2, .int (nI ksds)), (3, .int (nI kfl)), (4, .int mn), (5, .int (nI kpart))]) [0, 1, 2, 3, 4, 5, 6, 7] rfl ?_
                      have h9 := ih zg2 Czg2 (hf.tr hxzg2)
                      rw [show cnN (odB A Λ ksd kfl mn) (i + 1) = cnN (odB A Λ ksd kfl mn) i + 1 from if_pos hob] at h9
                      exact h9
              refine xj_sub (lv' := [(9, .int 0), (7, .long (lN 0)), (0, .ref 86), (1, .int (nI ksd)), (2, .int (nI ksds)), (3, .int (nI kfl)), (4, .int mn), (5, .int (nI kpart))]) [0, 1, 3, 4, 5, 6, 7, 8] rfl ?_
              exact key 0 (Nat.zero_le _) g C fr.rf
            · exact absurd zc61 (by decide)
