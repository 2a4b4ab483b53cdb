theorem mAP.k {g g1 : xG} {A A1 : zSt} (h : mAP g A) (eg : ∀ j, 87 ≤ j → j < 91 → g1 j = g j) (e0 : A1 0 0 = A 0 0) (ea : ∀ s, s < aS A → A1 1 s = A 1 s ∧ A1 2 s = A 2 s ∧ A1 3 s = A 3 s ∧ A1 (10 + s) = A (10 + s)) : mAP g1 A1 := by
  intro s hs
  have hs' : s < aS A := by unfold aS at hs ⊢; rw [← e0]; exact hs
  obtain ⟨a, b, c, d⟩ := ea s hs'
  rw [eg 87 (by omega) (by omega), eg 88 (by omega) (by omega), eg 89 (by omega) (by omega), eg 90 (by omega) (by omega), a, b, c, d]
  exact h s hs'
theorem mAI.k {g g1 : xG} {A A1 : zSt} (h : mAI g A) (eg : ∀ j, 94 ≤ j → j < 97 → g1 j = g j) (e0 : ∀ j, 6 ≤ j → j ≤ 10 → A1 0 j = A 0 j) (ea : A 0 6 ≠ 0 → ∀ s, s < aI A → A1 4 s = A 4 s ∧ A1 (20 + s) = A (20 + s)) : mAI g1 A1 := by
  intro z
  rw [e0 6 (by omega) (by omega)] at z
  obtain ⟨h1, h2⟩ := h z
  refine ⟨?_, fun s hs => ?_⟩
  · rw [eg 96 (by omega) (by omega), e0 7 (by omega) (by omega), e0 8 (by omega) (by omega), e0 9 (by omega) (by omega), e0 10 (by omega) (by omega)]
    exact h1
  · have hs' : s < aI A := by unfold aI at hs ⊢; rw [← e0 7 (by omega) (by omega)]; exact hs
    obtain ⟨a, b⟩ := ea z s hs'
    rw [eg 94 (by omega) (by omega), eg 95 (by omega) (by omega), a, b]
    exact h2 s hs'
theorem mAQ.k {g g1 : xG} {A A1 : zSt} (h : mAQ g A) (eg : ∀ j, 97 ≤ j → j < 100 → g1 j = g j) (e5 : A1 5 = A 5) (e6 : A1 6 = A 6) (e40 : ∀ q, q < 4 → A1 (40 + q) = A (40 + q)) : mAQ g1 A1 := by
  intro q hq
  rw [eg 97 (by omega) (by omega), eg 98 (by omega) (by omega), eg 99 (by omega) (by omega), e5, e6, e40 q hq]
  exact h q hq
theorem mA.up {g g1 : xG} {A A1 : zSt} {Λ : Nat → xL} (C : mA g A Λ) (h1 : mA1 g1 A1) (hP : mAP g1 A1) (hT : A1 0 3 = A 0 3 ∧ g1 92 = g 92 ∧ g1 93 = g 93) (hB : mAB g1 A1) (hI : mAI g1 A1) (hQ : mAQ g1 A1) (hW : g1 101 = g 101) : mA g1 A1 Λ := by
  refine ⟨h1, hP, fun t ht => ?_, hB, hI, hQ, fun j hj => by rw [hW]; exact C.2.2.2.2.2.2 j hj⟩
  rw [hT.2.1, hT.2.2]
  exact C.2.2.1 t (by unfold aT at ht ⊢; rw [← hT.1]; exact ht)
theorem mAB.k {g g1 : xG} {A A1 : zSt} (h : mAB g A) (e0 : A1 0 5 = A 0 5) (eg : g1 91 = g 91) (ea : A1 30 = A 30) : mAB g1 A1 := by
  intro j hj
  rw [eg, ea]
  exact h j (by unfold aZ at hj ⊢; rw [← e0]; exact hj)
/-- night, minutes, law -/
theorem mA.num {g : xG} {A : zSt} {Λ : Nat → xL} (C : mA g A Λ) {j f : Nat} (hj : j = 1 ∧ f = 5 ∨ j = 2 ∧ f = 6 ∨ j = 4 ∧ f = 12) (x : Int32) : mA (gs g 86 f x) (gs A 0 j x) Λ := by
  have ea : ∀ q, q ≠ 0 → gs A 0 j x q = A q := fun q h => gs_n A j x h
  have eg : ∀ q, q ≠ 86 → gs g 86 f x q = g q := fun q h => gs_n g f x h
  have e0 : ∀ i, i ≠ j → gs A 0 j x 0 i = A 0 i := fun i h => by rw [gs_s, upd_n _ _ h]
  obtain ⟨c1, cp, ct, cb, ci, cq, cw⟩ := id C
  refine C.up ?_ (cp.k (fun q a b => eg q (by omega)) (e0 0 (by omega)) (fun s _ => ⟨by rw [ea 1 (by omega)], by rw [ea 2 (by omega)], by rw [ea 3 (by omega)], ea _ (by omega)⟩)) ⟨e0 3 (by omega), eg _ (by omega), eg _ (by omega)⟩ (cb.k (e0 5 (by omega)) (eg _ (by omega)) (ea _ (by omega))) (ci.k (fun q a b => eg q (by omega)) (fun i a b => e0 i (by omega)) (fun _ s _ => ⟨by rw [ea 4 (by omega)], ea _ (by omega)⟩)) (cq.k (fun q a b => eg q (by omega)) (ea _ (by omega)) (ea _ (by omega)) (fun q _ => ea _ (by omega))) (eg _ (by omega))
  obtain ⟨a0, a5, a6, a11, a12, a8, a13⟩ := c1
  unfold mA1
  rw [gs_s, gs_s]
  rcases hj with ⟨rfl, rfl⟩ | ⟨rfl, rfl⟩ | ⟨rfl, rfl⟩
  · exact ⟨a0, rfl, a6, a11, a12, a8, a13⟩
  · exact ⟨a0, a5, rfl, a11, a12, a8, a13⟩
  · exact ⟨a0, a5, a6, a11, rfl, a8, a13⟩
/-- how dull all cells are -/
theorem mA.dul {g g1 : xG} {A A1 : zSt} {Λ : Nat → xL} (C : mA g A Λ) (eg : ∀ j, j ≠ 89 → 86 ≤ j → j < 103 → g1 j = g j) (ea : ∀ q, ¬ (10 ≤ q ∧ q < 16) → A1 q = A q) (hS : aS A ≤ 6) (h : ∀ s, s < aS A → ∀ c, c < 16 → g1 89 (16 * s + c) = A1 (10 + s) c) : mA g1 A1 Λ := by
  obtain ⟨c1, cp, ct, cb, ci, cq, cw⟩ := id C
  have e0 := ea 0 (by omega)
  refine C.up ?_ (fun s hs => ?_) ⟨by rw [e0], eg _ (by omega) (by omega) (by omega), eg _ (by omega) (by omega) (by omega)⟩ (cb.k (by rw [e0]) (eg _ (by omega) (by omega) (by omega)) (ea _ (by omega))) (ci.k (fun q a b => eg q (by omega) (by omega) (by omega)) (fun i a b => by rw [e0]) (fun _ s _ => ⟨by rw [ea 4 (by omega)], ea _ (by omega)⟩)) (cq.k (fun q a b => eg q (by omega) (by omega) (by omega)) (ea _ (by omega)) (ea _ (by omega)) (fun q _ => ea _ (by omega))) (eg _ (by omega) (by omega) (by omega))
  · unfold mA1
    rw [eg 86 (by omega) (by omega) (by omega), e0]
    exact c1
  · have hs' : s < aS A := by unfold aS at hs ⊢; rw [← e0]; exact hs
    obtain ⟨a, b, c, d⟩ := cp s hs'
    refine ⟨?_, ?_, ?_, h s hs'⟩
    · rw [eg 87 (by omega) (by omega) (by omega), ea 1 (by omega)]; exact a
    · rw [eg 88 (by omega) (by omega) (by omega), ea 2 (by omega)]; exact b
    · rw [eg 90 (by omega) (by omega) (by omega), ea 3 (by omega)]; exact c
theorem mA.cell {g : xG} {A : zSt} {Λ : Nat → xL} (C : mA g A Λ) (O : okA A) {s c : Nat} (hs : s < aS A) (hc : c < 16) (x : Int32) : mA (gs g 89 (16 * s + c) x) (va_up A (10 + s) (upd (A (10 + s)) c x)) Λ := by
  have hS := O.1.2
  refine C.dul (fun j a _ _ => gs_n _ _ _ a) (fun q h => va_up_n _ _ (by omega)) hS (fun s' hs' c' hc' => ?_)
  rw [gs_s]
  by_cases es : s' = s
  · subst es
    rw [va_up_s]
    by_cases ec : c' = c
    · subst ec; rw [upd_s, upd_s]
    · rw [upd_n _ _ (by omega), upd_n _ _ ec]; exact C.du hs hc'
  · rw [upd_n _ _ (by omega), va_up_n _ _ (by omega)]; exact C.du hs' hc'
theorem mA.pic {g : xG} {A : zSt} {Λ : Nat → xL} (C : mA g A Λ) {s : Nat} (x : Int32) : mA (gs g 90 s x) (gs A 3 s x) Λ := by
  have ea : ∀ q, q ≠ 3 → gs A 3 s x q = A q := fun q h => gs_n A s x h
  have eg : ∀ q, q ≠ 90 → gs g 90 s x q = g q := fun q h => gs_n g s x h
  obtain ⟨c1, cp, ct, cb, ci, cq, cw⟩ := id C
  have e0 := ea 0 (by omega)
  refine C.up ?_ (fun s' hs => ?_) ⟨by rw [e0], eg _ (by omega), eg _ (by omega)⟩ (cb.k (by rw [e0]) (eg _ (by omega)) (ea _ (by omega))) (ci.k (fun q a b => eg q (by omega)) (fun i a b => by rw [e0]) (fun _ s _ => ⟨by rw [ea 4 (by omega)], ea _ (by omega)⟩)) (cq.k (fun q a b => eg q (by omega)) (ea _ (by omega)) (ea _ (by omega)) (fun q _ => ea _ (by omega))) (eg _ (by omega))
  · unfold mA1
    rw [eg 86 (by omega), e0]
    exact c1
  · have hs' : s' < aS A := by unfold aS at hs ⊢; rw [← e0]; exact hs
    obtain ⟨a, b, c, d⟩ := cp s' hs'
    rw [eg 87 (by omega), eg 88 (by omega), eg 89 (by omega), ea 1 (by omega), ea 2 (by omega), ea (10 + s') (by omega), gs_s, gs_s]
    refine ⟨a, b, ?_, d⟩
    by_cases e : s' = s
    · subst e; rw [upd_s, upd_s]
    · rw [upd_n _ _ e, upd_n _ _ e]; exact c
theorem mX_i {q : Nat} (h : 86 ≤ q ∧ q < 110) : mX q := h
set_option maxHeartbeats 4000000 in
set_option maxRecDepth 100000 in
theorem c_X12_count (l : Launch) (d : Nat) (n : Nat) (hn : 110 ≤ n) (g : xG) (A : zSt) (Λ : Nat → xL) (O : okA A) (C : mA g A Λ) (what : Int32)  : xC l yX12_count cX12_count 2 (some .int) (xR (d + 0) 0 0) [.ref 86, .int what] (n, fh g) (qI n fun v g1 => v = vCount A what ∧ fr sN g g1) := by
  refine xC_of false (by decide +kernel) (fun z => by cases z) (Nat.le_of_ble_eq_true rfl) ?_
  have hS6 := O.1.2
  have hW := O.W
  have hT6 := O.2.2.2.1.2.2
  have hN9 := O.2.1.2
  show xJ l (RX12, 2, (some .int), false, (xR (d + 0) 0 0), none) cX12_count _ 0 0 0 [(0, .ref 86), (1, .int what)] [] (n, fh g)
  refine xj_iload_n (n := 1) (i := 1) 1 rfl rfl dX12_count_0 ?_
  by_cases zs1_0 : what = 0
  · refine xj_top zs1_0 ?_
    refine xj_tableIn (off := 39) (tgt := 40) dX12_count_1 (by decide) (by decide) rfl (by decide) ?_
    refine xj_aload_n (n := 0) (i := 0) 0 rfl rfl dX12_count_40 ?_
    refine yj_getf (v := .int (nI (aS A))) fl_X12_90_12 (by omega) (fq_86 g) (congrArg (fun z => some (Value.int z)) (C.S O)) dX12_count_41 ?_
    exact xj_ireturn rfl (nr_i _) (Nat.zero_le _) (Nat.zero_le _) dX12_count_44 (qI_e ⟨by unfold vCount; rw [if_pos zs1_0]; all_goals (exact O.1.1.symm), fr.rf⟩)
  by_cases zs1_1 : what = 1
  · refine xj_top zs1_1 ?_
    refine xj_tableIn (off := 44) (tgt := 45) dX12_count_1 (by decide) (by decide) rfl (by decide) ?_
    refine xj_aload_n (n := 0) (i := 0) 0 rfl rfl dX12_count_45 ?_
    refine yj_getf (v := .int (nI (aN A))) fl_X12_97_12 (by omega) (fq_86 g) (congrArg (fun z => some (Value.int z)) (C.N O)) dX12_count_46 ?_
    exact xj_ireturn rfl (nr_i _) (Nat.zero_le _) (Nat.zero_le _) dX12_count_49 (qI_e ⟨by unfold vCount; rw [if_neg zs1_0, if_pos zs1_1]; all_goals (exact O.2.1.1.symm), fr.rf⟩)
  by_cases zs1_2 : what = 2
  · refine xj_top zs1_2 ?_
    refine xj_tableIn (off := 49) (tgt := 50) dX12_count_1 (by decide) (by decide) rfl (by decide) ?_
    refine xj_aload_n (n := 0) (i := 0) 0 rfl rfl dX12_count_50 ?_
    refine yj_getf (v := .int (nI (aM A))) fl_X12_22_12 (by omega) (fq_86 g) (congrArg (fun z => some (Value.int z)) (C.M O)) dX12_count_51 ?_
    exact xj_ireturn rfl (nr_i _) (Nat.zero_le _) (Nat.zero_le _) dX12_count_54 (qI_e ⟨by unfold vCount; rw [if_neg zs1_0, if_neg zs1_1, if_pos zs1_2]; all_goals (exact O.2.2.1.1.symm), fr.rf⟩)
  by_cases zs1_3 : what = 3
  · refine xj_top zs1_3 ?_
    refine xj_tableIn (off := 54) (tgt := 55) dX12_count_1 (by decide) (by decide) rfl (by decide) ?_
    refine xj_aload_n (n := 0) (i := 0) 0 rfl rfl dX12_count_55 ?_
    refine yj_getf (v := .int (nI (aT A))) fl_X12_100_12 (by omega) (fq_86 g) (congrArg (fun z => some (Value.int z)) (C.T O)) dX12_count_56 ?_
    exact xj_ireturn rfl (nr_i _) (Nat.zero_le _) (Nat.zero_le _) dX12_count_59 (qI_e ⟨by unfold vCount; rw [if_neg zs1_0, if_neg zs1_1, if_neg zs1_2, if_pos zs1_3]; all_goals (exact O.2.2.2.1.1.symm), fr.rf⟩)
  by_cases zs1_4 : what = 4
  · refine xj_top zs1_4 ?_
    refine xj_tableIn (off := 59) (tgt := 60) dX12_count_1 (by decide) (by decide) rfl (by decide) ?_
    refine xj_aload_n (n := 0) (i := 0) 0 rfl rfl dX12_count_60 ?_
    refine yj_getf (v := .int (nI (aW A))) fl_X12_103_12 (by omega) (fq_86 g) (congrArg (fun z => some (Value.int z)) (C.W O)) dX12_count_61 ?_
    exact xj_ireturn rfl (nr_i _) (Nat.zero_le _) (Nat.zero_le _) dX12_count_64 (qI_e ⟨by unfold vCount; rw [if_neg zs1_0, if_neg zs1_1, if_neg zs1_2, if_neg zs1_3, if_pos zs1_4]; all_goals (exact O.2.2.2.2.1.1.symm), fr.rf⟩)
  by_cases zs1_5 : what = 5
  · refine xj_top zs1_5 ?_
    refine xj_tableIn (off := 64) (tgt := 65) dX12_count_1 (by decide) (by decide) rfl (by decide) ?_
    refine xj_aload_n (n := 0) (i := 0) 0 rfl rfl dX12_count_65 ?_
    refine yj_getf (v := .int (nI (aZ A))) fl_X12_83_12 (by omega) (fq_86 g) (congrArg (fun z => some (Value.int z)) (C.Z O)) dX12_count_66 ?_
    exact xj_ireturn rfl (nr_i _) (Nat.zero_le _) (Nat.zero_le _) dX12_count_69 (qI_e ⟨by unfold vCount; rw [if_neg zs1_0, if_neg zs1_1, if_neg zs1_2, if_neg zs1_3, if_neg zs1_4, if_pos zs1_5]; all_goals (exact O.2.2.2.2.2.1.1.symm), fr.rf⟩)
  have zo1_0 : what.toInt ≠ 0 := fun e => zs1_0 (Int32.toInt_inj.mp (e.trans rfl))
  have zo1_1 : what.toInt ≠ 1 := fun e => zs1_1 (Int32.toInt_inj.mp (e.trans rfl))
  have zo1_2 : what.toInt ≠ 2 := fun e => zs1_2 (Int32.toInt_inj.mp (e.trans rfl))
  have zo1_3 : what.toInt ≠ 3 := fun e => zs1_3 (Int32.toInt_inj.mp (e.trans rfl))
  have zo1_4 : what.toInt ≠ 4 := fun e => zs1_4 (Int32.toInt_inj.mp (e.trans rfl))
  have zo1_5 : what.toInt ≠ 5 := fun e => zs1_5 (Int32.toInt_inj.mp (e.trans rfl))
  refine xj_tableOut (tgt := 70) dX12_count_1 (by omega) (by decide) ?_
  refine xj_bipush (v := (-2)) (by decide) dX12_count_70 ?_
  exact xj_ireturn rfl (nr_i _) (Nat.zero_le _) (Nat.zero_le _) dX12_count_72 (qI_e ⟨by unfold vCount; rw [if_neg zs1_0, if_neg zs1_1, if_neg zs1_2, if_neg zs1_3, if_neg zs1_4, if_neg zs1_5]; all_goals (rfl), fr.rf⟩)
set_option maxHeartbeats 4000000 in
set_option maxRecDepth 100000 in
theorem c_X12_hours (l : Launch) (d : Nat) (n : Nat) (hn : 110 ≤ n) (g : xG) (A : zSt) (Λ : Nat → xL) (O : okA A) (C : mA g A Λ) (n1 : Int32)  : xC l yX12_hours cX12_hours 3 (some .int) (xR (d + 1) 0 0) [.ref 86, .int n1] (n, fh g) (qI n fun v g1 => v = (rHours A n1).1 ∧ mA g1 (rHours A n1).2 Λ ∧ fr mX g g1) := by
  refine xC_of false (by decide +kernel) (fun z => by cases z) (Nat.le_of_ble_eq_true rfl) ?_
  have hS6 := O.1.2
  have hW := O.W
  have hT6 := O.2.2.2.1.2.2
  have hN9 := O.2.1.2
  show xJ l (RX12, 3, (some .int), false, (xR (d + 1) 0 0), none) cX12_hours _ 0 0 0 [(0, .ref 86), (1, .int n1)] [] (n, fh g)
  refine xj_iload_n (n := 1) (i := 1) 1 rfl rfl dX12_hours_0 ?_
  refine xj_iconst (v := 0) (by decide) dX12_hours_1 ?_
  refine xj_sipush (v := 999) (by decide) dX12_hours_2 ?_
  refine xj_callS ks_X12_93 (c_X12_in l (d + 0) n1 0 999 _) (As := [.int n1, .int 0, .int 999]) (st := []) rfl rfl (xRm_of (by omega) (by decide) (by omega) (by omega)) (Nat.le_of_ble_eq_true rfl) dX12_hours_5 (yk_p (kc := 0) (ks := 0) ?_)
  refine xj_if_ne (tgt := 14) (by decide) dX12_hours_8 (fun zc8 => ?_) (fun zc8 => ?_)
  · have zp8 : 0 ≤ n1 ∧ n1 ≤ 999 := bI_n0.mp zc8
    obtain ⟨kn1, hkn1, rfl⟩ := nI_bnd (m := 999) (by decide) zp8.1 zp8.2
    refine xj_aload_n (n := 0) (i := 0) 0 rfl rfl dX12_hours_14 ?_
    refine yj_getf (v := .int (nI (aM A))) fl_X12_22_12 (by omega) (fq_86 g) (congrArg (fun z => some (Value.int z)) (C.M O)) dX12_hours_15 ?_
    refine xj_istore_n (n := 2) (i := 2) (lv1 := [(2, .int (nI (aM A))), (0, .ref 86), (1, .int (nI kn1))]) rfl rfl (Nat.le_of_ble_eq_true rfl) dX12_hours_18 ?_
    refine xj_aload_n (n := 0) (i := 0) 1 rfl rfl dX12_hours_19 ?_
    refine xj_iload_n (n := 1) (i := 1) 2 rfl rfl dX12_hours_20 ?_
    refine yj_puti fl_X12_22_12 (by omega) fS_86_6 (fi_i _) dX12_hours_21 ?_
    obtain ⟨zg1, ezg1⟩ : ∃ z, z = gs g 86 6 (nI kn1) := ⟨_, rfl⟩
    rw [← ezg1]
    refine xj_iload_n (n := 2) (i := 2) 0 rfl rfl dX12_hours_24 ?_
    have er : rHours A (nI kn1) = ((nI (aM A)), gs A 0 2 (nI kn1)) := by unfold rHours; (try simp only [nI_clamp (show kn1 < 2147483648 by omega)]); rw [if_pos zp8]; all_goals (rfl)
    exact xj_ireturn rfl (nr_i _) (Nat.zero_le _) (Nat.zero_le _) dX12_hours_25 (qI_e (by rw [er]; exact ⟨rfl, (by rw [ezg1]; exact C.num (Or.inr (Or.inl ⟨rfl, rfl⟩)) _), (by rw [ezg1]; exact fr.rf.gs (mX_i (by omega)) _ _)⟩))
  · have zp8 : ¬ (0 ≤ n1 ∧ n1 ≤ 999) := bI_0.mp zc8
    refine xj_bipush (v := (-2)) (by decide) dX12_hours_11 ?_
    have er : rHours A n1 = ((-2), A) := by unfold rHours; rw [if_neg zp8]; all_goals (rfl)
    exact xj_ireturn rfl (nr_i _) (Nat.zero_le _) (Nat.zero_le _) dX12_hours_13 (qI_e (by rw [er]; exact ⟨rfl, C, fr.rf⟩))
set_option maxHeartbeats 4000000 in
set_option maxRecDepth 100000 in
theorem c_X12_force (l : Launch) (d : Nat) (n : Nat) (hn : 110 ≤ n) (g : xG) (A : zSt) (Λ : Nat → xL) (O : okA A) (C : mA g A Λ) (t : Int32)  : xC l yX12_force cX12_force 3 (some .int) (xR (d + 1) 0 0) [.ref 86, .int t] (n, fh g) (qI n fun v g1 => v = (rForce A t).1 ∧ mA g1 (rForce A t).2 Λ ∧ fr mX g g1) := by
  refine xC_of false (by decide +kernel) (fun z => by cases z) (Nat.le_of_ble_eq_true rfl) ?_
  have hS6 := O.1.2
  have hW := O.W
  have hT6 := O.2.2.2.1.2.2
  have hN9 := O.2.1.2
  show xJ l (RX12, 3, (some .int), false, (xR (d + 1) 0 0), none) cX12_force _ 0 0 0 [(0, .ref 86), (1, .int t)] [] (n, fh g)
  refine xj_iload_n (n := 1) (i := 1) 1 rfl rfl dX12_force_0 ?_
  refine xj_iconst (v := 0) (by decide) dX12_force_1 ?_
  refine xj_aload_n (n := 0) (i := 0) 0 rfl rfl dX12_force_2 ?_
  refine yj_getf (v := .int (nI (aT A))) fl_X12_100_12 (by omega) (fq_86 g) (congrArg (fun z => some (Value.int z)) (C.T O)) dX12_force_3 ?_
  refine xj_iconst (v := 1) (by decide) dX12_force_6 ?_
  refine xj_isub dX12_force_7 ?_
  refine xj_callS ks_X12_93 (c_X12_in l (d + 0) t 0 ((nI (aT A)) - 1) _) (As := [.int t, .int 0, .int ((nI (aT A)) - 1)]) (st := []) rfl rfl (xRm_of (by omega) (by decide) (by omega) (by omega)) (Nat.le_of_ble_eq_true rfl) dX12_force_8 (yk_p (kc := 0) (ks := 0) ?_)
  refine xj_if_ne (tgt := 17) (by decide) dX12_force_11 (fun zc11 => ?_) (fun zc11 => ?_)
  · have zp11 : 0 ≤ t ∧ t ≤ ((nI (aT A)) - 1) := bI_n0.mp zc11
    obtain ⟨kt, hkt, rfl⟩ := le_m1 (by omega) zp11.1 zp11.2
    refine xj_aload_n (n := 0) (i := 0) 0 rfl rfl dX12_force_17 ?_
    refine yj_getf (v := .int (nI (aW A))) fl_X12_103_12 (by omega) (fq_86 g) (congrArg (fun z => some (Value.int z)) (C.W O)) dX12_force_18 ?_
    refine xj_istore_n (n := 2) (i := 2) (lv1 := [(2, .int (nI (aW A))), (0, .ref 86), (1, .int (nI kt))]) rfl rfl (Nat.le_of_ble_eq_true rfl) dX12_force_21 ?_
    refine xj_aload_n (n := 0) (i := 0) 1 rfl rfl dX12_force_22 ?_
    refine xj_iload_n (n := 1) (i := 1) 2 rfl rfl dX12_force_23 ?_
    refine yj_puti fl_X12_103_12 (by omega) fS_86_12 (fi_i _) dX12_force_24 ?_
    obtain ⟨zg1, ezg1⟩ : ∃ z, z = gs g 86 12 (nI kt) := ⟨_, rfl⟩
    rw [← ezg1]
    refine xj_iload_n (n := 2) (i := 2) 0 rfl rfl dX12_force_27 ?_
    have er : rForce A (nI kt) = ((nI (aW A)), gs A 0 4 (nI kt)) := by unfold rForce; (try simp only [nI_clamp (show kt < 2147483648 by omega)]); rw [if_pos zp11]; all_goals (rfl)
    exact xj_ireturn rfl (nr_i _) (Nat.zero_le _) (Nat.zero_le _) dX12_force_28 (qI_e (by rw [er]; exact ⟨rfl, (by rw [ezg1]; exact C.num (Or.inr (Or.inr ⟨rfl, rfl⟩)) _), (by rw [ezg1]; exact fr.rf.gs (mX_i (by omega)) _ _)⟩))
  · have zp11 : ¬ (0 ≤ t ∧ t ≤ ((nI (aT A)) - 1)) := bI_0.mp zc11
    refine xj_bipush (v := (-2)) (by decide) dX12_force_14 ?_
    have er : rForce A t = ((-2), A) := by unfold rForce; rw [if_neg zp11]; all_goals (rfl)
    exact xj_ireturn rfl (nr_i _) (Nat.zero_le _) (Nat.zero_le _) dX12_force_16 (qI_e (by rw [er]; exact ⟨rfl, C, fr.rf⟩))
set_option maxHeartbeats 4000000 in
set_option maxRecDepth 100000 in
theorem c_X12_asks (l : Launch) (d : Nat) (n : Nat) (hn : 110 ≤ n) (g : xG) (A : zSt) (Λ : Nat → xL) (O : okA A) (C : mA g A Λ) (part s cell : Int32)  : xC l yX12_asks cX12_asks 4 (some .int) (xR (d + 3) 0 0) [.ref 86, .int part, .int s, .int cell] (n, fh g) (qI n fun v g1 => v = vAsks A Λ part s cell ∧ fr sN g g1) := by
  refine xC_of false (by decide +kernel) (fun z => by cases z) (Nat.le_of_ble_eq_true rfl) ?_
  have hS6 := O.1.2
  have hW := O.W
  have hT6 := O.2.2.2.1.2.2
  have hN9 := O.2.1.2
  show xJ l (RX12, 4, (some .int), false, (xR (d + 3) 0 0), none) cX12_asks _ 0 0 0 [(0, .ref 86), (1, .int part), (2, .int s), (3, .int cell)] [] (n, fh g)
  refine xj_iload_n (n := 1) (i := 1) 1 rfl rfl dX12_asks_0 ?_
  refine xj_iconst (v := 0) (by decide) dX12_asks_1 ?_
  refine xj_iconst (v := 2) (by decide) dX12_asks_2 ?_
  refine xj_callS ks_X12_93 (c_X12_in l (d + 2) part 0 2 _) (As := [.int part, .int 0, .int 2]) (st := []) rfl rfl (xRm_of (by omega) (by decide) (by omega) (by omega)) (Nat.le_of_ble_eq_true rfl) dX12_asks_3 (yk_p (kc := 0) (ks := 0) ?_)
  refine xj_if_eq (tgt := 49) (by decide) dX12_asks_6 (fun zc6 => ?_) (fun zc6 => ?_)
  · have zp6 : ¬ (0 ≤ part ∧ part ≤ 2) := bI_0.mp zc6
    refine xj_bipush (v := (-2)) (by decide) dX12_asks_49 ?_
    exact xj_ireturn rfl (nr_i _) (Nat.zero_le _) (Nat.zero_le _) dX12_asks_51 (qI_e ⟨by unfold vAsks; rw [if_neg zp6]; all_goals (rfl), fr.rf⟩)
  · have zp6 : 0 ≤ part ∧ part ≤ 2 := bI_n0.mp zc6
    obtain ⟨kpart, hkpart, rfl⟩ := nI_bnd (m := 2) (by decide) zp6.1 zp6.2
    refine xj_aload_n (n := 0) (i := 0) 0 rfl rfl dX12_asks_9 ?_
    refine xj_iload_n (n := 2) (i := 2) 2 rfl rfl dX12_asks_10 ?_
    refine xj_callV kv_X12_176 (c_X12_isSleeper l (d + 1) n hn g A Λ O C s) (As := [.int s]) (st := []) (by omega) (fq_86 g) (ci := 12) rfl rfl rfl rfl (xRm_of (by omega) (by decide) (by omega) (by omega)) (Nat.le_of_ble_eq_true rfl) dX12_asks_11 (yk_p (kc := 0) (ks := 0) ?_)
    refine xj_if_eq (tgt := 49) (by decide) dX12_asks_14 (fun zc14 => ?_) (fun zc14 => ?_)
    · have zp14 : ¬ (isSl A s) := bI_0.mp zc14
      refine xj_bipush (v := (-2)) (by decide) dX12_asks_49 ?_
      exact xj_ireturn rfl (nr_i _) (Nat.zero_le _) (Nat.zero_le _) dX12_asks_51 (qI_e ⟨by unfold vAsks; (try simp only [nI_clamp (show kpart < 2147483648 by omega)]); rw [if_pos zp6, if_neg zp14]; all_goals (rfl), fr.rf⟩)
    · have zp14 : isSl A s := bI_n0.mp zc14
      obtain ⟨ks, hks, rfl⟩ := isSl_of O zp14
      have hs6_ks : ks < 6 := by omega
      refine xj_iload_n (n := 3) (i := 3) 3 rfl rfl dX12_asks_17 ?_
      refine xj_callS ks_X12_179 (c_X12_isCell l (d + 1) cell _) (As := [.int cell]) (st := []) rfl rfl (xRm_of (by omega) (by decide) (by omega) (by omega)) (Nat.le_of_ble_eq_true rfl) dX12_asks_18 (yk_p (kc := 0) (ks := 0) ?_)
      refine xj_if_eq (tgt := 49) (by decide) dX12_asks_21 (fun zc21 => ?_) (fun zc21 => ?_)
      · have zp21 : ¬ (0 ≤ cell ∧ cell ≤ 15) := bI_0.mp zc21
        refine xj_bipush (v := (-2)) (by decide) dX12_asks_49 ?_
        exact xj_ireturn rfl (nr_i _) (Nat.zero_le _) (Nat.zero_le _) dX12_asks_51 (qI_e ⟨by unfold vAsks; (try simp only [nI_clamp (show kpart < 2147483648 by omega), nI_clamp (show ks < 2147483648 by omega)]); rw [if_pos zp6, if_pos zp14, if_neg zp21]; all_goals (rfl), fr.rf⟩)
      · have zp21 : 0 ≤ cell ∧ cell ≤ 15 := bI_n0.mp zc21
        obtain ⟨kcell, hkcell, rfl⟩ := nI_bnd (m := 15) (by decide) zp21.1 zp21.2
        refine xj_aload_n (n := 0) (i := 0) 0 rfl rfl dX12_asks_24 ?_
        refine xj_iload_n (n := 1) (i := 1) 1 rfl rfl dX12_asks_25 ?_
        refine xj_iload_n (n := 2) (i := 2) 2 rfl rfl dX12_asks_26 ?_
        refine xj_iload_n (n := 3) (i := 3) 3 rfl rfl dX12_asks_27 ?_
        refine xj_aload_n (n := 0) (i := 0) 0 rfl rfl dX12_asks_28 ?_
        refine yj_getf (v := .ref 89) fl_X12_16_12 (by omega) (fq_86 g) rfl dX12_asks_29 ?_
        refine xj_bipush (v := 16) (by decide) dX12_asks_32 ?_
        refine xj_iload_n (n := 2) (i := 2) 2 rfl rfl dX12_asks_34 ?_
        refine xj_imul dX12_asks_35 ?_
        refine xj_top (pk_mul 16 ks) ?_
        refine xj_iload_n (n := 3) (i := 3) 3 rfl rfl dX12_asks_36 ?_
        refine xj_iadd dX12_asks_37 ?_
        refine xj_top (nI_add _ _) ?_
        refine yj_ialdN ((16 * ks) + kcell) (by omega) fA_89 rfl (by omega) (by decide) dX12_asks_38 ?_
        refine xj_top (C.du hks (by omega)) ?_
        refine xj_aload_n (n := 0) (i := 0) 0 rfl rfl dX12_asks_39 ?_
        refine yj_getf (v := .int (nI (aN A))) fl_X12_97_12 (by omega) (fq_86 g) (congrArg (fun z => some (Value.int z)) (C.N O)) dX12_asks_40 ?_
        refine xj_callV kv_X12_182 (c_X12_asksOf l (d + 0) n hn g A Λ O C kpart (by omega) ks kcell hks (by omega) (A (10 + ks) kcell) (nI (aN A))) (As := [.int (nI kpart), .int (nI ks), .int (nI kcell), .int (A (10 + ks) kcell), .int (nI (aN A))]) (st := []) (by omega) (fq_86 g) (ci := 12) rfl rfl rfl rfl (xRm_of (by omega) (by decide) (by omega) (by omega)) (Nat.le_of_ble_eq_true rfl) dX12_asks_43 (yk_i (kc := 0) (ks := 0) fun zv1 zg2 hzg2 => ?_)
        obtain ⟨hvzv1, hfnzg2⟩ := hzg2
        have hxzg2 := hfnzg2
        have Czg2 := C.keep (fm.of hxzg2 sN_m)
        refine xj_goto (tgt := 51) (by decide) dX12_asks_46 ?_
        exact xj_ireturn rfl (nr_i _) (Nat.zero_le _) (Nat.zero_le _) dX12_asks_51 (qI_e ⟨by unfold vAsks; (try simp only [nI_clamp (show kpart < 2147483648 by omega), nI_clamp (show ks < 2147483648 by omega), nI_clamp (show kcell < 2147483648 by omega)]); rw [if_pos zp6, if_pos zp14, if_pos zp21]; all_goals (exact hvzv1), hxzg2⟩)
set_option maxHeartbeats 4000000 in
set_option maxRecDepth 100000 in
theorem c_X12_told (l : Launch) (d : Nat) (n : Nat) (hn : 110 ≤ n) (g : xG) (A : zSt) (Λ : Nat → xL) (O : okA A) (C : mA g A Λ) (s what : Int32)  : xC l yX12_told cX12_told 3 (some .int) (xR (d + 2) 0 0) [.ref 86, .int s, .int what] (n, fh g) (qI n fun v g1 => v = vTold A s what ∧ fr sN g g1) := by
  refine xC_of false (by decide +kernel) (fun z => by cases z) (Nat.le_of_ble_eq_true rfl) ?_
  have hS6 := O.1.2
  have hW := O.W
  have hT6 := O.2.2.2.1.2.2
  have hN9 := O.2.1.2
  show xJ l (RX12, 3, (some .int), false, (xR (d + 2) 0 0), none) cX12_told _ 0 0 0 [(0, .ref 86), (1, .int s), (2, .int what)] [] (n, fh g)
  refine xj_aload_n (n := 0) (i := 0) 0 rfl rfl dX12_told_0 ?_
  refine xj_iload_n (n := 1) (i := 1) 1 rfl rfl dX12_told_1 ?_
  refine xj_callV kv_X12_176 (c_X12_isSleeper l (d + 0) n hn g A Λ O C s) (As := [.int s]) (st := []) (by omega) (fq_86 g) (ci := 12) rfl rfl rfl rfl (xRm_of (by omega) (by decide) (by omega) (by omega)) (Nat.le_of_ble_eq_true rfl) dX12_told_2 (yk_p (kc := 0) (ks := 0) ?_)
  refine xj_if_ne (tgt := 11) (by decide) dX12_told_5 (fun zc5 => ?_) (fun zc5 => ?_)
  · have zp5 : isSl A s := bI_n0.mp zc5
    obtain ⟨ks, hks, rfl⟩ := isSl_of O zp5
    have hs6_ks : ks < 6 := by omega
    refine xj_iload_n (n := 2) (i := 2) 2 rfl rfl dX12_told_11 ?_
    refine xj_iconst (v := 0) (by decide) dX12_told_12 ?_
    refine xj_bipush (v := 15) (by decide) dX12_told_13 ?_
    refine xj_callS ks_X12_93 (c_X12_in l (d + 1) what 0 15 _) (As := [.int what, .int 0, .int 15]) (st := []) rfl rfl (xRm_of (by omega) (by decide) (by omega) (by omega)) (Nat.le_of_ble_eq_true rfl) dX12_told_15 (yk_p (kc := 0) (ks := 0) ?_)
    refine xj_if_eq (tgt := 33) (by decide) dX12_told_18 (fun zc18 => ?_) (fun zc18 => ?_)
    · have zp18 : ¬ (0 ≤ what ∧ what ≤ 15) := bI_0.mp zc18
      refine xj_iload_n (n := 2) (i := 2) 2 rfl rfl dX12_told_33 ?_
      by_cases zs34_0 : what = 16
      · refine xj_top zs34_0 ?_
        refine xj_tableIn (off := 30) (tgt := 64) dX12_told_34 (by decide) (by decide) rfl (by decide) ?_
        refine xj_aload_n (n := 0) (i := 0) 0 rfl rfl dX12_told_64 ?_
        refine yj_getf (v := .ref 90) fl_X12_19_12 (by omega) (fq_86 g) rfl dX12_told_65 ?_
        refine xj_iload_n (n := 1) (i := 1) 1 rfl rfl dX12_told_68 ?_
        refine yj_ialdN ks (by omega) fA_90 rfl (by omega) (by decide) dX12_told_69 ?_
        refine xj_top (C.pi hks) ?_
        exact xj_ireturn rfl (nr_i _) (Nat.zero_le _) (Nat.zero_le _) dX12_told_70 (qI_e ⟨by unfold vTold; (try simp only [nI_clamp (show ks < 2147483648 by omega)]); rw [if_pos zp5, if_neg zp18, if_pos zs34_0]; all_goals (rfl), fr.rf⟩)
      by_cases zs34_1 : what = 17
      · refine xj_top zs34_1 ?_
        refine xj_tableIn (off := 37) (tgt := 71) dX12_told_34 (by decide) (by decide) rfl (by decide) ?_
        refine xj_aload_n (n := 0) (i := 0) 0 rfl rfl dX12_told_71 ?_
        refine yj_getf (v := .ref 87) fl_X12_7_12 (by omega) (fq_86 g) rfl dX12_told_72 ?_
        refine xj_iload_n (n := 1) (i := 1) 1 rfl rfl dX12_told_75 ?_
        refine yj_ialdN ks (by omega) fA_87 rfl (by omega) (by decide) dX12_told_76 ?_
        refine xj_top (C.k O hks) ?_
        exact xj_ireturn rfl (nr_i _) (Nat.zero_le _) (Nat.zero_le _) dX12_told_77 (qI_e ⟨by unfold vTold; (try simp only [nI_clamp (show ks < 2147483648 by omega)]); rw [if_pos zp5, if_neg zp18, if_neg zs34_0, if_pos zs34_1]; all_goals (exact (O.K hks).symm), fr.rf⟩)
      by_cases zs34_2 : what = 18
      · refine xj_top zs34_2 ?_
        refine xj_tableIn (off := 44) (tgt := 78) dX12_told_34 (by decide) (by decide) rfl (by decide) ?_
        refine xj_aload_n (n := 0) (i := 0) 0 rfl rfl dX12_told_78 ?_
        refine yj_getf (v := .ref 88) fl_X12_13_12 (by omega) (fq_86 g) rfl dX12_told_79 ?_
        refine xj_iload_n (n := 1) (i := 1) 1 rfl rfl dX12_told_82 ?_
        refine yj_ialdN ks (by omega) fA_88 rfl (by omega) (by decide) dX12_told_83 ?_
        refine xj_top (C.mo hks) ?_
        exact xj_ireturn rfl (nr_i _) (Nat.zero_le _) (Nat.zero_le _) dX12_told_84 (qI_e ⟨by unfold vTold; (try simp only [nI_clamp (show ks < 2147483648 by omega)]); rw [if_pos zp5, if_neg zp18, if_neg zs34_0, if_neg zs34_1, if_pos zs34_2]; all_goals (rfl), fr.rf⟩)
      by_cases zs34_3 : what = 19
      · refine xj_top zs34_3 ?_
        refine xj_tableIn (off := 51) (tgt := 85) dX12_told_34 (by decide) (by decide) rfl (by decide) ?_
        refine xj_aload_n (n := 0) (i := 0) 0 rfl rfl dX12_told_85 ?_
        refine xj_iload_n (n := 1) (i := 1) 1 rfl rfl dX12_told_86 ?_
        refine xj_callV kv_X12_187 (c_X12_dullAll l (d + 0) n hn g A Λ O C ks hks) (As := [.int (nI ks)]) (st := []) (by omega) (fq_86 g) (ci := 12) rfl rfl rfl rfl (xRm_of (by omega) (by decide) (by omega) (by omega)) (Nat.le_of_ble_eq_true rfl) dX12_told_87 (yk_p (kc := 0) (ks := 0) ?_)
        exact xj_ireturn rfl (nr_i _) (Nat.zero_le _) (Nat.zero_le _) dX12_told_90 (qI_e ⟨by unfold vTold; (try simp only [nI_clamp (show ks < 2147483648 by omega)]); rw [if_pos zp5, if_neg zp18, if_neg zs34_0, if_neg zs34_1, if_neg zs34_2, if_pos zs34_3]; all_goals (rfl), fr.rf⟩)
      have zo34_0 : what.toInt ≠ 16 := fun e => zs34_0 (Int32.toInt_inj.mp (e.trans rfl))
      have zo34_1 : what.toInt ≠ 17 := fun e => zs34_1 (Int32.toInt_inj.mp (e.trans rfl))
      have zo34_2 : what.toInt ≠ 18 := fun e => zs34_2 (Int32.toInt_inj.mp (e.trans rfl))
      have zo34_3 : what.toInt ≠ 19 := fun e => zs34_3 (Int32.toInt_inj.mp (e.trans rfl))
      refine xj_tableOut (tgt := 91) dX12_told_34 (by omega) (by decide) ?_
      refine xj_bipush (v := (-7)) (by decide) dX12_told_91 ?_
      exact xj_ireturn rfl (nr_i _) (Nat.zero_le _) (Nat.zero_le _) dX12_told_93 (qI_e ⟨by unfold vTold; (try simp only [nI_clamp (show ks < 2147483648 by omega)]); rw [if_pos zp5, if_neg zp18, if_neg zs34_0, if_neg zs34_1, if_neg zs34_2, if_neg zs34_3]; all_goals (rfl), fr.rf⟩)
    · have zp18 : 0 ≤ what ∧ what ≤ 15 := bI_n0.mp zc18
      obtain ⟨kwhat, hkwhat, rfl⟩ := nI_bnd (m := 15) (by decide) zp18.1 zp18.2
      refine xj_aload_n (n := 0) (i := 0) 0 rfl rfl dX12_told_21 ?_
      refine yj_getf (v := .ref 89) fl_X12_16_12 (by omega) (fq_86 g) rfl dX12_told_22 ?_
      refine xj_bipush (v := 16) (by decide) dX12_told_25 ?_
      refine xj_iload_n (n := 1) (i := 1) 1 rfl rfl dX12_told_27 ?_
      refine xj_imul dX12_told_28 ?_
      refine xj_top (pk_mul 16 ks) ?_
      refine xj_iload_n (n := 2) (i := 2) 2 rfl rfl dX12_told_29 ?_
      refine xj_iadd dX12_told_30 ?_
      refine xj_top (nI_add _ _) ?_
      refine yj_ialdN ((16 * ks) + kwhat) (by omega) fA_89 rfl (by omega) (by decide) dX12_told_31 ?_
      refine xj_top (C.du hks (by omega)) ?_
      exact xj_ireturn rfl (nr_i _) (Nat.zero_le _) (Nat.zero_le _) dX12_told_32 (qI_e ⟨by unfold vTold; (try simp only [nI_clamp (show ks < 2147483648 by omega), nI_clamp (show kwhat < 2147483648 by omega)]); rw [if_pos zp5, if_pos zp18]; all_goals (rfl), fr.rf⟩)
  · have zp5 : ¬ (isSl A s) := bI_0.mp zc5
    refine xj_bipush (v := (-5)) (by decide) dX12_told_8 ?_
    exact xj_ireturn rfl (nr_i _) (Nat.zero_le _) (Nat.zero_le _) dX12_told_10 (qI_e ⟨by unfold vTold; rw [if_neg zp5]; all_goals (rfl), fr.rf⟩)
set_option maxHeartbeats 4000000 in
set_option maxRecDepth 100000 in
theorem c_X12_view (l : Launch) (d : Nat) (n : Nat) (hn : 110 ≤ n) (g : xG) (A : zSt) (Λ : Nat → xL) (O : okA A) (C : mA g A Λ) (s what : Int32)  : xC l yX12_view cX12_view 3 (some .int) (xR (d + 6) 0 0) [.ref 86, .int s, .int what] (n, fh g) (qI n fun v g1 => v = vView A Λ s what ∧ fr sN g g1) := by
  refine xC_of false (by decide +kernel) (fun z => by cases z) (Nat.le_of_ble_eq_true rfl) ?_
  have hS6 := O.1.2
  have hW := O.W
  have hT6 := O.2.2.2.1.2.2
  have hN9 := O.2.1.2
  show xJ l (RX12, 3, (some .int), false, (xR (d + 6) 0 0), none) cX12_view _ 0 0 0 [(0, .ref 86), (1, .int s), (2, .int what)] [] (n, fh g)
  refine xj_aload_n (n := 0) (i := 0) 0 rfl rfl dX12_view_0 ?_
  refine xj_iload_n (n := 1) (i := 1) 1 rfl rfl dX12_view_1 ?_
  refine xj_callV kv_X12_176 (c_X12_isSleeper l (d + 4) n hn g A Λ O C s) (As := [.int s]) (st := []) (by omega) (fq_86 g) (ci := 12) rfl rfl rfl rfl (xRm_of (by omega) (by decide) (by omega) (by omega)) (Nat.le_of_ble_eq_true rfl) dX12_view_2 (yk_p (kc := 0) (ks := 0) ?_)
  refine xj_if_ne (tgt := 11) (by decide) dX12_view_5 (fun zc5 => ?_) (fun zc5 => ?_)
  · have zp5 : isSl A s := bI_n0.mp zc5
    obtain ⟨ks, hks, rfl⟩ := isSl_of O zp5
    have hs6_ks : ks < 6 := by omega
    refine xj_iload_n (n := 2) (i := 2) 2 rfl rfl dX12_view_11 ?_
    refine xj_iconst (v := 0) (by decide) dX12_view_12 ?_
    refine xj_iconst (v := 3) (by decide) dX12_view_13 ?_
    refine xj_callS ks_X12_93 (c_X12_in l (d + 5) what 0 3 _) (As := [.int what, .int 0, .int 3]) (st := []) rfl rfl (xRm_of (by omega) (by decide) (by omega) (by omega)) (Nat.le_of_ble_eq_true rfl) dX12_view_14 (yk_p (kc := 0) (ks := 0) ?_)
    refine xj_if_ne (tgt := 23) (by decide) dX12_view_17 (fun zc17 => ?_) (fun zc17 => ?_)
    · have zp17 : 0 ≤ what ∧ what ≤ 3 := bI_n0.mp zc17
      refine xj_iload_n (n := 2) (i := 2) 2 rfl rfl dX12_view_23 ?_
      refine xj_if_ne (tgt := 35) (by decide) dX12_view_24 (fun zc24 => ?_) (fun zc24 => ?_)
      · refine xj_iload_n (n := 2) (i := 2) 2 rfl rfl dX12_view_35 ?_
        refine xj_iconst (v := 1) (by decide) dX12_view_36 ?_
        refine xj_icmp_ne (tgt := 48) (by decide) dX12_view_37 (fun zc37 => ?_) (fun zc37 => ?_)
        · refine xj_iload_n (n := 2) (i := 2) 2 rfl rfl dX12_view_48 ?_
          refine xj_iconst (v := 2) (by decide) dX12_view_49 ?_
          refine xj_icmp_ne (tgt := 64) (by decide) dX12_view_50 (fun zc50 => ?_) (fun zc50 => ?_)
          · have hw3 : what = 3 := by obtain ⟨k, hk, rfl⟩ := nI_bnd (m := 3) (by decide) zp17.1 zp17.2; rcases (show k = 0 ∨ k = 1 ∨ k = 2 ∨ k = 3 by omega) with rfl | rfl | rfl | rfl; exact absurd rfl zc24; exact absurd rfl zc37; exact absurd rfl zc50; rfl
            refine xj_aload_n (n := 0) (i := 0) 0 rfl rfl dX12_view_64 ?_
            refine xj_iload_n (n := 1) (i := 1) 1 rfl rfl dX12_view_65 ?_
            refine xj_callV kv_X12_212 (c_X12_costAll l (d + 1) n hn g A Λ O C ks hks) (As := [.int (nI ks)]) (st := []) (by omega) (fq_86 g) (ci := 12) rfl rfl rfl rfl (xRm_of (by omega) (by decide) (by omega) (by omega)) (Nat.le_of_ble_eq_true rfl) dX12_view_66 (yk_i (kc := 0) (ks := 0) fun zv1 zg2 hzg2 => ?_)
            obtain ⟨hvzv1, hfnzg2⟩ := hzg2
            have hxzg2 := hfnzg2
            have Czg2 := C.keep (fm.of hxzg2 sN_m)
            refine xj_top (show zv1 = coS A Λ ks 65535 from hvzv1) ?_
            exact xj_ireturn rfl (nr_i _) (Nat.zero_le _) (Nat.zero_le _) dX12_view_69 (qI_e ⟨by unfold vView; (try simp only [nI_clamp (show ks < 2147483648 by omega)]); rw [if_pos zp5, if_neg zc24, if_neg zc37, if_neg zc50, if_pos hw3]; all_goals (rfl), hxzg2⟩)
          · refine xj_aload_n (n := 0) (i := 0) 0 rfl rfl dX12_view_53 ?_
            refine xj_iload_n (n := 1) (i := 1) 1 rfl rfl dX12_view_54 ?_
            refine xj_callV kv_X12_206 (c_X12_seenSet l (d + 0) n hn g A Λ O C ks hks) (As := [.int (nI ks)]) (st := []) (by omega) (fq_86 g) (ci := 12) rfl rfl rfl rfl (xRm_of (by omega) (by decide) (by omega) (by omega)) (Nat.le_of_ble_eq_true rfl) dX12_view_55 (yk_i (kc := 0) (ks := 0) fun zv3 zg4 hzg4 => ?_)
            obtain ⟨hvzv3, hfnzg4⟩ := hzg4
            have hxzg4 := hfnzg4
            have Czg4 := C.keep (fm.of hxzg4 sN_m)
            refine xj_top (show zv3 = seP A Λ ks from hvzv3) ?_
            refine xj_callS ks_X12_209 (c_X12_ones l (d + 5) (seP A Λ ks) _) (As := [.int (seP A Λ ks)]) (st := []) rfl rfl (xRm_of (by omega) (by decide) (by omega) (by omega)) (Nat.le_of_ble_eq_true rfl) dX12_view_58 (yk_p (kc := 0) (ks := 0) ?_)
            refine xj_goto (tgt := 69) (by decide) dX12_view_61 ?_
            exact xj_ireturn rfl (nr_i _) (Nat.zero_le _) (Nat.zero_le _) dX12_view_69 (qI_e ⟨by unfold vView; (try simp only [nI_clamp (show ks < 2147483648 by omega)]); rw [if_pos zp5, if_neg zc24, if_neg zc37, if_pos zc50]; all_goals (rfl), hxzg4⟩)
        · refine xj_aload_n (n := 0) (i := 0) 0 rfl rfl dX12_view_40 ?_
          refine xj_iload_n (n := 1) (i := 1) 1 rfl rfl dX12_view_41 ?_
          refine xj_callV kv_X12_206 (c_X12_seenSet l (d + 0) n hn g A Λ O C ks hks) (As := [.int (nI ks)]) (st := []) (by omega) (fq_86 g) (ci := 12) rfl rfl rfl rfl (xRm_of (by omega) (by decide) (by omega) (by omega)) (Nat.le_of_ble_eq_true rfl) dX12_view_42 (yk_i (kc := 0) (ks := 0) fun zv5 zg6 hzg6 => ?_)
          obtain ⟨hvzv5, hfnzg6⟩ := hzg6
          have hxzg6 := hfnzg6
          have Czg6 := C.keep (fm.of hxzg6 sN_m)
          refine xj_top (show zv5 = seP A Λ ks from hvzv5) ?_
          refine xj_goto (tgt := 69) (by decide) dX12_view_45 ?_
          exact xj_ireturn rfl (nr_i _) (Nat.zero_le _) (Nat.zero_le _) dX12_view_69 (qI_e ⟨by unfold vView; (try simp only [nI_clamp (show ks < 2147483648 by omega)]); rw [if_pos zp5, if_neg zc24, if_pos zc37]; all_goals (rfl), hxzg6⟩)
      · refine xj_aload_n (n := 0) (i := 0) 0 rfl rfl dX12_view_27 ?_
        refine xj_iload_n (n := 1) (i := 1) 1 rfl rfl dX12_view_28 ?_
        refine xj_callV kv_X12_200 (c_X12_clearSet l (d + 1) n hn g A Λ O C ks hks) (As := [.int (nI ks)]) (st := []) (by omega) (fq_86 g) (ci := 12) rfl rfl rfl rfl (xRm_of (by omega) (by decide) (by omega) (by omega)) (Nat.le_of_ble_eq_true rfl) dX12_view_29 (yk_i (kc := 0) (ks := 0) fun zv7 zg8 hzg8 => ?_)
        obtain ⟨hvzv7, hfnzg8⟩ := hzg8
        have hxzg8 := hfnzg8
        have Czg8 := C.keep (fm.of hxzg8 sN_m)
        refine xj_top (show zv7 = clP A Λ ks from hvzv7) ?_
        refine xj_goto (tgt := 69) (by decide) dX12_view_32 ?_
        exact xj_ireturn rfl (nr_i _) (Nat.zero_le _) (Nat.zero_le _) dX12_view_69 (qI_e ⟨by unfold vView; (try simp only [nI_clamp (show ks < 2147483648 by omega)]); rw [if_pos zp5, if_pos zc24]; all_goals (rfl), hxzg8⟩)
    · have zp17 : ¬ (0 ≤ what ∧ what ≤ 3) := bI_0.mp zc17
      have hw0 : ¬ what = 0 := fun z => zp17 (by rw [z]; decide)
      have hw1 : ¬ what = 1 := fun z => zp17 (by rw [z]; decide)
      have hw2 : ¬ what = 2 := fun z => zp17 (by rw [z]; decide)
      have hw3 : ¬ what = 3 := fun z => zp17 (by rw [z]; decide)
      refine xj_bipush (v := (-7)) (by decide) dX12_view_20 ?_
      exact xj_ireturn rfl (nr_i _) (Nat.zero_le _) (Nat.zero_le _) dX12_view_22 (qI_e ⟨by unfold vView; (try simp only [nI_clamp (show ks < 2147483648 by omega)]); rw [if_pos zp5, if_neg hw0, if_neg hw1, if_neg hw2, if_neg hw3]; all_goals (rfl), fr.rf⟩)
  · have zp5 : ¬ (isSl A s) := bI_0.mp zc5
    refine xj_bipush (v := (-5)) (by decide) dX12_view_8 ?_
    exact xj_ireturn rfl (nr_i _) (Nat.zero_le _) (Nat.zero_le _) dX12_view_10 (qI_e ⟨by unfold vView; rw [if_neg zp5]; all_goals (rfl), fr.rf⟩)
set_option maxHeartbeats 4000000 in
set_option maxRecDepth 100000 in
theorem c_X12_all (l : Launch) (d : Nat) (n : Nat) (hn : 110 ≤ n) (g : xG) (A : zSt) (Λ : Nat → xL) (O : okA A) (C : mA g A Λ) (what : Int32)  : xC l yX12_all cX12_all 6 (some .int) (xR (d + 7) 0 0) [.ref 86, .int what] (n, fh g) (qI n fun v g1 => v = vAll A Λ what ∧ fr sN g g1) := by
  refine xC_of false (by decide +kernel) (fun z => by cases z) (Nat.le_of_ble_eq_true rfl) ?_
  have hS6 := O.1.2
  have hW := O.W
  have hT6 := O.2.2.2.1.2.2
  have hN9 := O.2.1.2
  show xJ l (RX12, 6, (some .int), false, (xR (d + 7) 0 0), none) cX12_all _ 0 0 0 [(0, .ref 86), (1, .int what)] [] (n, fh g)
  refine xj_iload_n (n := 1) (i := 1) 1 rfl rfl dX12_all_0 ?_
  refine xj_iconst (v := 0) (by decide) dX12_all_1 ?_
  refine xj_iconst (v := 2) (by decide) dX12_all_2 ?_
  refine xj_callS ks_X12_93 (c_X12_in l (d + 6) what 0 2 _) (As := [.int what, .int 0, .int 2]) (st := []) rfl rfl (xRm_of (by omega) (by decide) (by omega) (by omega)) (Nat.le_of_ble_eq_true rfl) dX12_all_3 (yk_p (kc := 0) (ks := 0) ?_)
  refine xj_if_ne (tgt := 12) (by decide) dX12_all_6 (fun zc6 => ?_) (fun zc6 => ?_)
  · have zp6 : 0 ≤ what ∧ what ≤ 2 := bI_n0.mp zc6
    obtain ⟨kwhat, hkwhat, rfl⟩ := nI_bnd (m := 2) (by decide) zp6.1 zp6.2
    refine xj_iload_n (n := 1) (i := 1) 1 rfl rfl dX12_all_12 ?_
    refine xj_iconst (v := 2) (by decide) dX12_all_13 ?_
    refine xj_icmp_ne (tgt := 22) (by decide) dX12_all_14 (fun zc14 => ?_) (fun zc14 => ?_)
    · refine xj_iconst (v := 0) (by decide) dX12_all_22 ?_
      refine xj_istore_n (n := 2) (i := 2) (lv1 := [(2, .int 0), (0, .ref 86), (1, .int (nI kwhat))]) rfl rfl (Nat.le_of_ble_eq_true rfl) dX12_all_23 ?_
      refine xj_aload_n (n := 0) (i := 0) 1 rfl rfl dX12_all_24 ?_
      refine yj_getf (v := .int (nI (aS A))) fl_X12_90_12 (by omega) (fq_86 g) (congrArg (fun z => some (Value.int z)) (C.S O)) dX12_all_25 ?_
      refine xj_if_ne (tgt := 35) (by decide) dX12_all_28 (fun zc28 => ?_) (fun zc28 => ?_)
      · refine xj_ldc cn_X12_186 dX12_all_35 ?_
        refine xj_istore_n (n := 3) (i := 3) (lv1 := [(3, .int 65535), (2, .int 0), (0, .ref 86), (1, .int (nI kwhat))]) rfl rfl (Nat.le_of_ble_eq_true rfl) dX12_all_37 ?_
        refine xj_iconst (v := 0) (by decide) dX12_all_38 ?_
        refine xj_istore (i := 4) (lv1 := [(4, .int 0), (3, .int 65535), (2, .int 0), (0, .ref 86), (1, .int (nI kwhat))]) rfl (Nat.le_of_ble_eq_true rfl) dX12_all_39 ?_
        have hz0 : (if aS A = 0 then (0 : Int32) else 65535) = 65535 := if_neg (fun e => zc28 (by rw [e]; rfl))
        have key : ∀ i, i ≤ aS A → ∀ (g1 : xG), fr sN g g1 → xJ l (RX12, 6, (some .int), false, (xR (d + 7) 0 0), none) cX12_all (qI n fun v g1 => v = vAll A Λ (nI kwhat) ∧ fr sN g g1) 0 0 41 [(4, .int (nI i)), (2, .int (orF (seP A Λ) i)), (3, .int (andF 65535 (seP A Λ) i)), (0, .ref 86), (1, .int (nI kwhat))] [] (n, fh g1) := by
          refine x_loop (aS A) _ ?_ ?_
          · intro g1 hf
            refine xj_iload (i := 4) 0 rfl dX12_all_41 ?_
            refine xj_aload_n (n := 0) (i := 0) 3 rfl rfl dX12_all_43 ?_
            refine yj_getf (v := .int (nI (aS A))) fl_X12_90_12 (by omega) (fq_86 g1) (congrArg (fun z => some (Value.int z)) ((C.keep (fm.of hf sN_m)).S O)) dX12_all_44 ?_
            refine xj_icmp_ge (tgt := 74) (by decide) dX12_all_47 (fun zc47 => ?_) (fun zc47 => ?_)
            · refine xj_iload_n (n := 1) (i := 1) 4 rfl rfl dX12_all_74 ?_
              refine xj_if_ne (tgt := 82) (by decide) dX12_all_75 (fun zc75 => ?_) (fun zc75 => ?_)
              · have hw1 : nI kwhat = 1 := by rcases (show kwhat = 0 ∨ kwhat = 1 ∨ kwhat = 2 by omega) with h | h | h; exact absurd (by rw [h]; rfl) zc75; (rw [h]; rfl); exact absurd (by rw [h]; rfl) zc14
                refine xj_iload_n (n := 3) (i := 3) 2 rfl rfl dX12_all_82 ?_
                exact xj_ireturn rfl (nr_i _) (Nat.zero_le _) (Nat.zero_le _) dX12_all_83 (qI_e ⟨by unfold vAll; (try simp only [nI_clamp (show kwhat < 2147483648 by omega)]); rw [if_pos zp6, if_neg zc75, if_pos hw1]; all_goals (rw [hz0]), hf⟩)
              · refine xj_iload_n (n := 2) (i := 2) 1 rfl rfl dX12_all_78 ?_
                refine xj_goto (tgt := 83) (by decide) dX12_all_79 ?_
                exact xj_ireturn rfl (nr_i _) (Nat.zero_le _) (Nat.zero_le _) dX12_all_83 (qI_e ⟨by unfold vAll; (try simp only [nI_clamp (show kwhat < 2147483648 by omega)]); rw [if_pos zp6, if_pos zc75]; all_goals (rfl), hf⟩)
            · exact absurd (nI_le (Nat.le_refl _) (by omega)) zc47
          · intro i hi ih g1 hf
            have hs6_i : i < 6 := by omega
            refine xj_iload (i := 4) 0 rfl dX12_all_41 ?_
            refine xj_aload_n (n := 0) (i := 0) 3 rfl rfl dX12_all_43 ?_
            refine yj_getf (v := .int (nI (aS A))) fl_X12_90_12 (by omega) (fq_86 g1) (congrArg (fun z => some (Value.int z)) ((C.keep (fm.of hf sN_m)).S O)) dX12_all_44 ?_
            refine xj_icmp_ge (tgt := 74) (by decide) dX12_all_47 (fun zc47 => ?_) (fun zc47 => ?_)
            · exact absurd zc47 (nI_ge hi (by omega))
            · refine xj_aload_n (n := 0) (i := 0) 3 rfl rfl dX12_all_50 ?_
              refine xj_iload (i := 4) 0 rfl dX12_all_51 ?_
              refine xj_callV kv_X12_206 (c_X12_seenSet l (d + 1) n hn g1 A Λ O (C.keep (fm.of hf sN_m)) i hi) (As := [.int (nI i)]) (st := []) (by omega) (fq_86 g1) (ci := 12) rfl rfl rfl rfl (xRm_of (by omega) (by decide) (by omega) (by omega)) (Nat.le_of_ble_eq_true rfl) dX12_all_53 (yk_i (kc := 0) (ks := 0) fun zv1 zg2 hzg2 => ?_)
              obtain ⟨hvzv1, hfnzg2⟩ := hzg2
              have hxzg2 := hfnzg2
              have Czg2 := (C.keep (fm.of hf sN_m)).keep (fm.of hxzg2 sN_m)
              refine xj_top (show zv1 = seP A Λ i from hvzv1) ?_
              refine xj_istore (i := 5) (lv1 := [(5, .int (seP A Λ i)), (4, .int (nI i)), (2, .int (orF (seP A Λ) i)), (3, .int (andF 65535 (seP A Λ) i)), (0, .ref 86), (1, .int (nI kwhat))]) rfl (Nat.le_of_ble_eq_true rfl) dX12_all_56 ?_
              refine xj_iload_n (n := 2) (i := 2) 2 rfl rfl dX12_all_58 ?_
              refine xj_iload (i := 5) 0 rfl dX12_all_59 ?_
              refine xj_ior dX12_all_61 ?_
              refine xj_topi (fun zv3 ezv3 => ?_)
              refine xj_istore_n (n := 2) (i := 2) (lv1 := [(2, .int zv3), (5, .int (seP A Λ i)), (4, .int (nI i)), (3, .int (andF 65535 (seP A Λ) i)), (0, .ref 86), (1, .int (nI kwhat))]) rfl rfl (Nat.le_of_ble_eq_true rfl) dX12_all_62 ?_
              refine xj_iload_n (n := 3) (i := 3) 3 rfl rfl dX12_all_63 ?_
              refine xj_iload (i := 5) 1 rfl dX12_all_64 ?_
              refine xj_iand dX12_all_66 ?_
              refine xj_topi (fun zv4 ezv4 => ?_)
              refine xj_istore_n (n := 3) (i := 3) (lv1 := [(3, .int zv4), (2, .int zv3), (5, .int (seP A Λ i)), (4, .int (nI i)), (0, .ref 86), (1, .int (nI kwhat))]) rfl rfl (Nat.le_of_ble_eq_true rfl) dX12_all_67 ?_
              refine xj_iinc (n := 1) (i := 4) (v := nI (i + 1)) (lv1 := [(4, .int (nI (i + 1))), (3, .int zv4), (2, .int zv3), (5, .int (seP A Λ i)), (0, .ref 86), (1, .int (nI kwhat))]) 3 rfl (nI_1 i) rfl (Nat.le_of_ble_eq_true rfl) dX12_all_68 ?_
              refine xj_goto (tgt := 41) (by decide) dX12_all_71 ?_
              refine xj_sub (lv' := [(4, .int (nI (i + 1))), (2, .int zv3), (3, .int zv4), (0, .ref 86), (1, .int (nI kwhat))]) [0, 2, 1, 4, 5] rfl ?_
              have h9 := ih zg2 (hf.tr hxzg2)
              rw [show orF (seP A Λ) (i + 1) = zv3 from ezv3.symm, show andF 65535 (seP A Λ) (i + 1) = zv4 from ezv4.symm] at h9
              exact h9
        refine xj_sub (lv' := [(4, .int 0), (2, .int 0), (3, .int 65535), (0, .ref 86), (1, .int (nI kwhat))]) [0, 2, 1, 3, 4] rfl ?_
        exact key 0 (Nat.zero_le _) g fr.rf
      · refine xj_iconst (v := 0) (by decide) dX12_all_31 ?_
        refine xj_goto (tgt := 37) (by decide) dX12_all_32 ?_
        refine xj_istore_n (n := 3) (i := 3) (lv1 := [(3, .int 0), (2, .int 0), (0, .ref 86), (1, .int (nI kwhat))]) rfl rfl (Nat.le_of_ble_eq_true rfl) dX12_all_37 ?_
        refine xj_iconst (v := 0) (by decide) dX12_all_38 ?_
        refine xj_istore (i := 4) (lv1 := [(4, .int 0), (3, .int 0), (2, .int 0), (0, .ref 86), (1, .int (nI kwhat))]) rfl (Nat.le_of_ble_eq_true rfl) dX12_all_39 ?_
        have hz0 : (if aS A = 0 then (0 : Int32) else 65535) = 0 := if_pos ((nI_eq (b := 0) (by omega) (by omega)).mp zc28)
        have key : ∀ i, i ≤ aS A → ∀ (g1 : xG), fr sN g g1 → xJ l (RX12, 6, (some .int), false, (xR (d + 7) 0 0), none) cX12_all (qI n fun v g1 => v = vAll A Λ (nI kwhat) ∧ fr sN g g1) 0 0 41 [(4, .int (nI i)), (2, .int (orF (seP A Λ) i)), (3, .int (andF 0 (seP A Λ) i)), (0, .ref 86), (1, .int (nI kwhat))] [] (n, fh g1) := by
          refine x_loop (aS A) _ ?_ ?_
          · intro g1 hf
            refine xj_iload (i := 4) 0 rfl dX12_all_41 ?_
            refine xj_aload_n (n := 0) (i := 0) 3 rfl rfl dX12_all_43 ?_
            refine yj_getf (v := .int (nI (aS A))) fl_X12_90_12 (by omega) (fq_86 g1) (congrArg (fun z => some (Value.int z)) ((C.keep (fm.of hf sN_m)).S O)) dX12_all_44 ?_
            refine xj_icmp_ge (tgt := 74) (by decide) dX12_all_47 (fun zc47 => ?_) (fun zc47 => ?_)
            · refine xj_iload_n (n := 1) (i := 1) 4 rfl rfl dX12_all_74 ?_
              refine xj_if_ne (tgt := 82) (by decide) dX12_all_75 (fun zc75 => ?_) (fun zc75 => ?_)
              · have hw1 : nI kwhat = 1 := by rcases (show kwhat = 0 ∨ kwhat = 1 ∨ kwhat = 2 by omega) with h | h | h; exact absurd (by rw [h]; rfl) zc75; (rw [h]; rfl); exact absurd (by rw [h]; rfl) zc14
                refine xj_iload_n (n := 3) (i := 3) 2 rfl rfl dX12_all_82 ?_
                exact xj_ireturn rfl (nr_i _) (Nat.zero_le _) (Nat.zero_le _) dX12_all_83 (qI_e ⟨by unfold vAll; (try simp only [nI_clamp (show kwhat < 2147483648 by omega)]); rw [if_pos zp6, if_neg zc75, if_pos hw1]; all_goals (rw [hz0]), hf⟩)
              · refine xj_iload_n (n := 2) (i := 2) 1 rfl rfl dX12_all_78 ?_
                refine xj_goto (tgt := 83) (by decide) dX12_all_79 ?_
                exact xj_ireturn rfl (nr_i _) (Nat.zero_le _) (Nat.zero_le _) dX12_all_83 (qI_e ⟨by unfold vAll; (try simp only [nI_clamp (show kwhat < 2147483648 by omega)]); rw [if_pos zp6, if_pos zc75]; all_goals (rfl), hf⟩)
            · exact absurd (nI_le (Nat.le_refl _) (by omega)) zc47
          · intro i hi ih g1 hf
            have hs6_i : i < 6 := by omega
            refine xj_iload (i := 4) 0 rfl dX12_all_41 ?_
            refine xj_aload_n (n := 0) (i := 0) 3 rfl rfl dX12_all_43 ?_
            refine yj_getf (v := .int (nI (aS A))) fl_X12_90_12 (by omega) (fq_86 g1) (congrArg (fun z => some (Value.int z)) ((C.keep (fm.of hf sN_m)).S O)) dX12_all_44 ?_
            refine xj_icmp_ge (tgt := 74) (by decide) dX12_all_47 (fun zc47 => ?_) (fun zc47 => ?_)
            · exact absurd zc47 (nI_ge hi (by omega))
            · refine xj_aload_n (n := 0) (i := 0) 3 rfl rfl dX12_all_50 ?_
              refine xj_iload (i := 4) 0 rfl dX12_all_51 ?_
              refine xj_callV kv_X12_206 (c_X12_seenSet l (d + 1) n hn g1 A Λ O (C.keep (fm.of hf sN_m)) i hi) (As := [.int (nI i)]) (st := []) (by omega) (fq_86 g1) (ci := 12) rfl rfl rfl rfl (xRm_of (by omega) (by decide) (by omega) (by omega)) (Nat.le_of_ble_eq_true rfl) dX12_all_53 (yk_i (kc := 0) (ks := 0) fun zv5 zg6 hzg6 => ?_)
              obtain ⟨hvzv5, hfnzg6⟩ := hzg6
              have hxzg6 := hfnzg6
              have Czg6 := (C.keep (fm.of hf sN_m)).keep (fm.of hxzg6 sN_m)
              refine xj_top (show zv5 = seP A Λ i from hvzv5) ?_
              refine xj_istore (i := 5) (lv1 := [(5, .int (seP A Λ i)), (4, .int (nI i)), (2, .int (orF (seP A Λ) i)), (3, .int (andF 0 (seP A Λ) i)), (0, .ref 86), (1, .int (nI kwhat))]) rfl (Nat.le_of_ble_eq_true rfl) dX12_all_56 ?_
              refine xj_iload_n (n := 2) (i := 2) 2 rfl rfl dX12_all_58 ?_
              refine xj_iload (i := 5) 0 rfl dX12_all_59 ?_
              refine xj_ior dX12_all_61 ?_
              refine xj_topi (fun zv7 ezv7 => ?_)
              refine xj_istore_n (n := 2) (i := 2) (lv1 := [(2, .int zv7), (5, .int (seP A Λ i)), (4, .int (nI i)), (3, .int (andF 0 (seP A Λ) i)), (0, .ref 86), (1, .int (nI kwhat))]) rfl rfl (Nat.le_of_ble_eq_true rfl) dX12_all_62 ?_
              refine xj_iload_n (n := 3) (i := 3) 3 rfl rfl dX12_all_63 ?_
              refine xj_iload (i := 5) 1 rfl dX12_all_64 ?_
              refine xj_iand dX12_all_66 ?_
              refine xj_topi (fun zv8 ezv8 => ?_)
              refine xj_istore_n (n := 3) (i := 3) (lv1 := [(3, .int zv8), (2, .int zv7), (5, .int (seP A Λ i)), (4, .int (nI i)), (0, .ref 86), (1, .int (nI kwhat))]) rfl rfl (Nat.le_of_ble_eq_true rfl) dX12_all_67 ?_
              refine xj_iinc (n := 1) (i := 4) (v := nI (i + 1)) (lv1 := [(4, .int (nI (i + 1))), (3, .int zv8), (2, .int zv7), (5, .int (seP A Λ i)), (0, .ref 86), (1, .int (nI kwhat))]) 3 rfl (nI_1 i) rfl (Nat.le_of_ble_eq_true rfl) dX12_all_68 ?_
              refine xj_goto (tgt := 41) (by decide) dX12_all_71 ?_
              refine xj_sub (lv' := [(4, .int (nI (i + 1))), (2, .int zv7), (3, .int zv8), (0, .ref 86), (1, .int (nI kwhat))]) [0, 2, 1, 4, 5] rfl ?_
              have h9 := ih zg6 (hf.tr hxzg6)
              rw [show orF (seP A Λ) (i + 1) = zv7 from ezv7.symm, show andF 0 (seP A Λ) (i + 1) = zv8 from ezv8.symm] at h9
              exact h9
        refine xj_sub (lv' := [(4, .int 0), (2, .int 0), (3, .int 0), (0, .ref 86), (1, .int (nI kwhat))]) [0, 2, 1, 3, 4] rfl ?_
        exact key 0 (Nat.zero_le _) g fr.rf
    · have hw0 : ¬ nI kwhat = 0 := fun z => by rw [z] at zc14; exact absurd zc14 (by decide)
      have hw1 : ¬ nI kwhat = 1 := fun z => by rw [z] at zc14; exact absurd zc14 (by decide)
      refine xj_aload_n (n := 0) (i := 0) 0 rfl rfl dX12_all_17 ?_
      refine xj_callV kv_X12_215 (c_X12_seenMany l (d + 0) n hn g A Λ O C) (As := []) (st := []) (by omega) (fq_86 g) (ci := 12) rfl rfl rfl rfl (xRm_of (by omega) (by decide) (by omega) (by omega)) (Nat.le_of_ble_eq_true rfl) dX12_all_18 (yk_i (kc := 0) (ks := 0) fun zv9 zg10 hzg10 => ?_)
      obtain ⟨hvzv9, hfnzg10⟩ := hzg10
      have hxzg10 := hfnzg10
      have Czg10 := C.keep (fm.of hxzg10 sN_m)
      exact xj_ireturn rfl (nr_i _) (Nat.zero_le _) (Nat.zero_le _) dX12_all_21 (qI_e ⟨by unfold vAll; (try simp only [nI_clamp (show kwhat < 2147483648 by omega)]); rw [if_pos zp6, if_neg hw0, if_neg hw1]; all_goals (exact hvzv9), hxzg10⟩)
  · have zp6 : ¬ (0 ≤ what ∧ what ≤ 2) := bI_0.mp zc6
    refine xj_bipush (v := (-2)) (by decide) dX12_all_9 ?_
    exact xj_ireturn rfl (nr_i _) (Nat.zero_le _) (Nat.zero_le _) dX12_all_11 (qI_e ⟨by unfold vAll; rw [if_neg zp6]; all_goals (rfl), fr.rf⟩)
set_option maxHeartbeats 4000000 in
set_option maxRecDepth 100000 in
theorem c_X12_clean (l : Launch) (d : Nat) (n : Nat) (hn : 110 ≤ n) (g : xG) (A : zSt) (Λ : Nat → xL) (O : okA A) (C : mA g A Λ) (s c : Int32)  : xC l yX12_clean cX12_clean 4 (some .int) (xR (d + 4) 0 0) [.ref 86, .int s, .int c] (n, fh g) (qI n fun v g1 => v = (rClean A Λ s c).1 ∧ mA g1 (rClean A Λ s c).2 Λ ∧ fr mX g g1) := by
  refine xC_of false (by decide +kernel) (fun z => by cases z) (Nat.le_of_ble_eq_true rfl) ?_
  have hS6 := O.1.2
  have hW := O.W
  have hT6 := O.2.2.2.1.2.2
  have hN9 := O.2.1.2
  show xJ l (RX12, 4, (some .int), false, (xR (d + 4) 0 0), none) cX12_clean _ 0 0 0 [(0, .ref 86), (1, .int s), (2, .int c)] [] (n, fh g)
  refine xj_aload_n (n := 0) (i := 0) 0 rfl rfl dX12_clean_0 ?_
  refine xj_iload_n (n := 1) (i := 1) 1 rfl rfl dX12_clean_1 ?_
  refine xj_callV kv_X12_176 (c_X12_isSleeper l (d + 2) n hn g A Λ O C s) (As := [.int s]) (st := []) (by omega) (fq_86 g) (ci := 12) rfl rfl rfl rfl (xRm_of (by omega) (by decide) (by omega) (by omega)) (Nat.le_of_ble_eq_true rfl) dX12_clean_2 (yk_p (kc := 0) (ks := 0) ?_)
  refine xj_if_ne (tgt := 11) (by decide) dX12_clean_5 (fun zc5 => ?_) (fun zc5 => ?_)
  · have zp5 : isSl A s := bI_n0.mp zc5
    obtain ⟨ks, hks, rfl⟩ := isSl_of O zp5
    have hs6_ks : ks < 6 := by omega
    refine xj_iload_n (n := 2) (i := 2) 2 rfl rfl dX12_clean_11 ?_
    refine xj_callS ks_X12_179 (c_X12_isCell l (d + 2) c _) (As := [.int c]) (st := []) rfl rfl (xRm_of (by omega) (by decide) (by omega) (by omega)) (Nat.le_of_ble_eq_true rfl) dX12_clean_12 (yk_p (kc := 0) (ks := 0) ?_)
    refine xj_if_ne (tgt := 21) (by decide) dX12_clean_15 (fun zc15 => ?_) (fun zc15 => ?_)
    · have zp15 : 0 ≤ c ∧ c ≤ 15 := bI_n0.mp zc15
      obtain ⟨kc, hkc, rfl⟩ := nI_bnd (m := 15) (by decide) zp15.1 zp15.2
      refine xj_aload_n (n := 0) (i := 0) 0 rfl rfl dX12_clean_21 ?_
      refine xj_iload_n (n := 1) (i := 1) 1 rfl rfl dX12_clean_22 ?_
      refine xj_iload_n (n := 2) (i := 2) 2 rfl rfl dX12_clean_23 ?_
      refine xj_callV kv_X12_203 (c_X12_costOf l (d + 0) n hn g A Λ O C ks kc hks (by omega)) (As := [.int (nI ks), .int (nI kc)]) (st := []) (by omega) (fq_86 g) (ci := 12) rfl rfl rfl rfl (xRm_of (by omega) (by decide) (by omega) (by omega)) (Nat.le_of_ble_eq_true rfl) dX12_clean_24 (yk_i (kc := 0) (ks := 0) fun zv1 zg2 hzg2 => ?_)
      obtain ⟨hvzv1, hfnzg2⟩ := hzg2
      have hxzg2 := hfnzg2
      have Czg2 := C.keep (fm.of hxzg2 sN_m)
      refine xj_top (show zv1 = coP A Λ ks kc from hvzv1) ?_
      refine xj_istore_n (n := 3) (i := 3) (lv1 := [(3, .int (coP A Λ ks kc)), (0, .ref 86), (1, .int (nI ks)), (2, .int (nI kc))]) rfl rfl (Nat.le_of_ble_eq_true rfl) dX12_clean_27 ?_
      refine xj_iload_n (n := 3) (i := 3) 0 rfl rfl dX12_clean_28 ?_
      refine xj_aload_n (n := 0) (i := 0) 1 rfl rfl dX12_clean_29 ?_
      refine yj_getf (v := .int (nI (aM A))) fl_X12_22_12 (by omega) (fq_86 zg2) (congrArg (fun z => some (Value.int z)) (Czg2.M O)) dX12_clean_30 ?_
      refine xj_icmp_le (tgt := 39) (by decide) dX12_clean_33 (fun zc33 => ?_) (fun zc33 => ?_)
      · refine xj_aload_n (n := 0) (i := 0) 1 rfl rfl dX12_clean_39 ?_
        refine yj_getf (v := .ref 89) fl_X12_16_12 (by omega) (fq_86 zg2) rfl dX12_clean_40 ?_
        refine xj_bipush (v := 16) (by decide) dX12_clean_43 ?_
        refine xj_iload_n (n := 1) (i := 1) 2 rfl rfl dX12_clean_45 ?_
        refine xj_imul dX12_clean_46 ?_
        refine xj_top (pk_mul 16 ks) ?_
        refine xj_iload_n (n := 2) (i := 2) 3 rfl rfl dX12_clean_47 ?_
        refine xj_iadd dX12_clean_48 ?_
        refine xj_top (nI_add _ _) ?_
        refine xj_iconst (v := 0) (by decide) dX12_clean_49 ?_
        refine yj_iastN ((16 * ks) + kc) (by omega) fA_89 rfl (by omega) (by decide) dX12_clean_50 ?_
        obtain ⟨zg3, ezg3⟩ : ∃ z, z = gs zg2 89 ((16 * ks) + kc) 0 := ⟨_, rfl⟩
        rw [← ezg3]
        refine xj_iload_n (n := 3) (i := 3) 0 rfl rfl dX12_clean_51 ?_
        have er : rClean A Λ (nI ks) (nI kc) = ((coP A Λ ks kc), va_up A (10 + ks) (upd (A (10 + ks)) kc 0)) := by unfold rClean; (try simp only [nI_clamp (show ks < 2147483648 by omega), nI_clamp (show kc < 2147483648 by omega)]); rw [if_pos zp5, if_pos zp15, if_pos zc33]; all_goals (rfl)
        exact xj_ireturn rfl (nr_i _) (Nat.zero_le _) (Nat.zero_le _) dX12_clean_52 (qI_e (by rw [er]; exact ⟨rfl, (by rw [ezg3]; exact Czg2.cell O hks (by omega) _), (by rw [ezg3]; exact ((fm.of hxzg2 sN_m).fr).gs (mX_i (by omega)) _ _)⟩))
      · refine xj_bipush (v := (-3)) (by decide) dX12_clean_36 ?_
        have er : rClean A Λ (nI ks) (nI kc) = ((-3), A) := by unfold rClean; (try simp only [nI_clamp (show ks < 2147483648 by omega), nI_clamp (show kc < 2147483648 by omega)]); rw [if_pos zp5, if_pos zp15, if_neg zc33]; all_goals (rfl)
        exact xj_ireturn rfl (nr_i _) (Nat.zero_le _) (Nat.zero_le _) dX12_clean_38 (qI_e (by rw [er]; exact ⟨rfl, Czg2, (fm.of hxzg2 sN_m).fr⟩))
    · have zp15 : ¬ (0 ≤ c ∧ c ≤ 15) := bI_0.mp zc15
      refine xj_bipush (v := (-7)) (by decide) dX12_clean_18 ?_
      have er : rClean A Λ (nI ks) c = ((-7), A) := by unfold rClean; (try simp only [nI_clamp (show ks < 2147483648 by omega)]); rw [if_pos zp5, if_neg zp15]; all_goals (rfl)
      exact xj_ireturn rfl (nr_i _) (Nat.zero_le _) (Nat.zero_le _) dX12_clean_20 (qI_e (by rw [er]; exact ⟨rfl, C, fr.rf⟩))
  · have zp5 : ¬ (isSl A s) := bI_0.mp zc5
    refine xj_bipush (v := (-5)) (by decide) dX12_clean_8 ?_
    have er : rClean A Λ s c = ((-5), A) := by unfold rClean; rw [if_neg zp5]; all_goals (rfl)
    exact xj_ireturn rfl (nr_i _) (Nat.zero_le _) (Nat.zero_le _) dX12_clean_10 (qI_e (by rw [er]; exact ⟨rfl, C, fr.rf⟩))
set_option maxHeartbeats 4000000 in
set_option maxRecDepth 100000 in
theorem c_X12_put (l : Launch) (d : Nat) (n : Nat) (hn : 110 ≤ n) (g : xG) (A : zSt) (Λ : Nat → xL) (O : okA A) (C : mA g A Λ) (s what w : Int32)  : xC l yX12_put cX12_put 5 (some .int) (xR (d + 2) 0 0) [.ref 86, .int s, .int what, .int w] (n, fh g) (qI n fun v g1 => v = (rPut A s what w).1 ∧ mA g1 (rPut A s what w).2 Λ ∧ fr mX g g1) := by
  refine xC_of false (by decide +kernel) (fun z => by cases z) (Nat.le_of_ble_eq_true rfl) ?_
  have hS6 := O.1.2
  have hW := O.W
  have hT6 := O.2.2.2.1.2.2
  have hN9 := O.2.1.2
  show xJ l (RX12, 5, (some .int), false, (xR (d + 2) 0 0), none) cX12_put _ 0 0 0 [(0, .ref 86), (1, .int s), (2, .int what), (3, .int w)] [] (n, fh g)
  refine xj_aload_n (n := 0) (i := 0) 0 rfl rfl dX12_put_0 ?_
  refine xj_iload_n (n := 1) (i := 1) 1 rfl rfl dX12_put_1 ?_
  refine xj_callV kv_X12_176 (c_X12_isSleeper l (d + 0) n hn g A Λ O C s) (As := [.int s]) (st := []) (by omega) (fq_86 g) (ci := 12) rfl rfl rfl rfl (xRm_of (by omega) (by decide) (by omega) (by omega)) (Nat.le_of_ble_eq_true rfl) dX12_put_2 (yk_p (kc := 0) (ks := 0) ?_)
  refine xj_if_ne (tgt := 11) (by decide) dX12_put_5 (fun zc5 => ?_) (fun zc5 => ?_)
  · have zp5 : isSl A s := bI_n0.mp zc5
    obtain ⟨ks, hks, rfl⟩ := isSl_of O zp5
    have hs6_ks : ks < 6 := by omega
    refine xj_iload_n (n := 2) (i := 2) 2 rfl rfl dX12_put_11 ?_
    refine xj_iconst (v := 0) (by decide) dX12_put_12 ?_
    refine xj_bipush (v := 16) (by decide) dX12_put_13 ?_
    refine xj_callS ks_X12_93 (c_X12_in l (d + 1) what 0 16 _) (As := [.int what, .int 0, .int 16]) (st := []) rfl rfl (xRm_of (by omega) (by decide) (by omega) (by omega)) (Nat.le_of_ble_eq_true rfl) dX12_put_15 (yk_p (kc := 0) (ks := 0) ?_)
    refine xj_if_eq (tgt := 42) (by decide) dX12_put_18 (fun zc18 => ?_) (fun zc18 => ?_)
    · have zp18 : ¬ (0 ≤ what ∧ what ≤ 16) := bI_0.mp zc18
      refine xj_bipush (v := (-7)) (by decide) dX12_put_42 ?_
      have er : rPut A (nI ks) what w = ((-7), A) := by unfold rPut; (try simp only [nI_clamp (show ks < 2147483648 by omega)]); rw [if_pos zp5, if_neg zp18]; all_goals (rfl)
      exact xj_ireturn rfl (nr_i _) (Nat.zero_le _) (Nat.zero_le _) dX12_put_44 (qI_e (by rw [er]; exact ⟨rfl, C, fr.rf⟩))
    · have zp18 : 0 ≤ what ∧ what ≤ 16 := bI_n0.mp zc18
      obtain ⟨kwhat, hkwhat, rfl⟩ := nI_bnd (m := 16) (by decide) zp18.1 zp18.2
      refine xj_iload_n (n := 3) (i := 3) 3 rfl rfl dX12_put_21 ?_
      refine xj_iconst (v := 0) (by decide) dX12_put_22 ?_
      refine xj_iload_n (n := 2) (i := 2) 2 rfl rfl dX12_put_23 ?_
      refine xj_bipush (v := 16) (by decide) dX12_put_24 ?_
      refine xj_icmp_ne (tgt := 34) (by decide) dX12_put_26 (fun zc26 => ?_) (fun zc26 => ?_)
      · have hw16 : kwhat < 16 := Nat.lt_of_le_of_ne hkwhat (fun z => zc26 (by rw [z]; rfl))
        refine xj_bipush (v := 99) (by decide) dX12_put_34 ?_
        refine xj_callS ks_X12_93 (c_X12_in l (d + 1) w 0 99 _) (As := [.int w, .int 0, .int 99]) (st := []) rfl rfl (xRm_of (by omega) (by decide) (by omega) (by omega)) (Nat.le_of_ble_eq_true rfl) dX12_put_36 (yk_p (kc := 0) (ks := 0) ?_)
        refine xj_if_ne (tgt := 45) (by decide) dX12_put_39 (fun zc39 => ?_) (fun zc39 => ?_)
        · have zp39 : 0 ≤ w ∧ w ≤ 99 := bI_n0.mp zc39
          obtain ⟨kw, hkw, rfl⟩ := nI_bnd (m := 99) (by decide) zp39.1 zp39.2
          refine xj_iload_n (n := 2) (i := 2) 2 rfl rfl dX12_put_45 ?_
          refine xj_bipush (v := 16) (by decide) dX12_put_46 ?_
          refine xj_icmp_ne (tgt := 60) (by decide) dX12_put_48 (fun zc48 => ?_) (fun zc48 => ?_)
          · refine xj_aload_n (n := 0) (i := 0) 0 rfl rfl dX12_put_60 ?_
            refine yj_getf (v := .ref 89) fl_X12_16_12 (by omega) (fq_86 g) rfl dX12_put_61 ?_
            refine xj_bipush (v := 16) (by decide) dX12_put_64 ?_
            refine xj_iload_n (n := 1) (i := 1) 1 rfl rfl dX12_put_66 ?_
            refine xj_imul dX12_put_67 ?_
            refine xj_top (pk_mul 16 ks) ?_
            refine xj_iload_n (n := 2) (i := 2) 2 rfl rfl dX12_put_68 ?_
            refine xj_iadd dX12_put_69 ?_
            refine xj_top (nI_add _ _) ?_
            refine yj_ialdN ((16 * ks) + kwhat) (by omega) fA_89 rfl (by omega) (by decide) dX12_put_70 ?_
            refine xj_top (C.du hks (by omega)) ?_
            refine xj_topi (fun zv1 ezv1 => ?_)
            refine xj_istore (i := 4) (lv1 := [(4, .int zv1), (0, .ref 86), (1, .int (nI ks)), (2, .int (nI kwhat)), (3, .int (nI kw))]) rfl (Nat.le_of_ble_eq_true rfl) dX12_put_71 ?_
            refine xj_iload_n (n := 2) (i := 2) 3 rfl rfl dX12_put_73 ?_
            refine xj_bipush (v := 16) (by decide) dX12_put_74 ?_
            refine xj_icmp_ne (tgt := 89) (by decide) dX12_put_76 (fun zc76 => ?_) (fun zc76 => ?_)
            · refine xj_aload_n (n := 0) (i := 0) 1 rfl rfl dX12_put_89 ?_
              refine yj_getf (v := .ref 89) fl_X12_16_12 (by omega) (fq_86 g) rfl dX12_put_90 ?_
              refine xj_bipush (v := 16) (by decide) dX12_put_93 ?_
              refine xj_iload_n (n := 1) (i := 1) 2 rfl rfl dX12_put_95 ?_
              refine xj_imul dX12_put_96 ?_
              refine xj_top (pk_mul 16 ks) ?_
              refine xj_iload_n (n := 2) (i := 2) 3 rfl rfl dX12_put_97 ?_
              refine xj_iadd dX12_put_98 ?_
              refine xj_top (nI_add _ _) ?_
              refine xj_iload_n (n := 3) (i := 3) 4 rfl rfl dX12_put_99 ?_
              refine yj_iastN ((16 * ks) + kwhat) (by omega) fA_89 rfl (by omega) (by decide) dX12_put_100 ?_
              obtain ⟨zg2, ezg2⟩ : ∃ z, z = gs g 89 ((16 * ks) + kwhat) (nI kw) := ⟨_, rfl⟩
              rw [← ezg2]
              refine xj_iload (i := 4) 0 rfl dX12_put_101 ?_
              have er : rPut A (nI ks) (nI kwhat) (nI kw) = (zv1, va_up A (10 + ks) (upd (A (10 + ks)) kwhat (nI kw))) := by unfold rPut; (try simp only [nI_clamp (show ks < 2147483648 by omega), nI_clamp (show kwhat < 2147483648 by omega), nI_clamp (show kw < 2147483648 by omega)]); rw [if_pos zp5, if_pos zp18, if_neg zc26, if_pos zp39]; all_goals (rw [ezv1])
              exact xj_ireturn rfl (nr_i _) (Nat.zero_le _) (Nat.zero_le _) dX12_put_103 (qI_e (by rw [er]; exact ⟨rfl, (by rw [ezg2]; exact C.cell O hks (by omega) _), (by rw [ezg2]; exact fr.rf.gs (mX_i (by omega)) _ _)⟩))
            · exact absurd zc76 zc26
          · exact absurd zc48 zc26
        · have zp39 : ¬ (0 ≤ w ∧ w ≤ 99) := bI_0.mp zc39
          refine xj_bipush (v := (-7)) (by decide) dX12_put_42 ?_
          have er : rPut A (nI ks) (nI kwhat) w = ((-7), A) := by unfold rPut; (try simp only [nI_clamp (show ks < 2147483648 by omega), nI_clamp (show kwhat < 2147483648 by omega)]); rw [if_pos zp5, if_pos zp18, if_neg zc26, if_neg zp39]; all_goals (rfl)
          exact xj_ireturn rfl (nr_i _) (Nat.zero_le _) (Nat.zero_le _) dX12_put_44 (qI_e (by rw [er]; exact ⟨rfl, C, fr.rf⟩))
      · refine xj_ldc cn_X12_186 dX12_put_29 ?_
        refine xj_goto (tgt := 36) (by decide) dX12_put_31 ?_
        refine xj_callS ks_X12_93 (c_X12_in l (d + 1) w 0 65535 _) (As := [.int w, .int 0, .int 65535]) (st := []) rfl rfl (xRm_of (by omega) (by decide) (by omega) (by omega)) (Nat.le_of_ble_eq_true rfl) dX12_put_36 (yk_p (kc := 0) (ks := 0) ?_)
        refine xj_if_ne (tgt := 45) (by decide) dX12_put_39 (fun zc39 => ?_) (fun zc39 => ?_)
        · have zp39 : 0 ≤ w ∧ w ≤ 65535 := bI_n0.mp zc39
          obtain ⟨kw, hkw, rfl⟩ := nI_bnd (m := 65535) (by decide) zp39.1 zp39.2
          refine xj_iload_n (n := 2) (i := 2) 2 rfl rfl dX12_put_45 ?_
          refine xj_bipush (v := 16) (by decide) dX12_put_46 ?_
          refine xj_icmp_ne (tgt := 60) (by decide) dX12_put_48 (fun zc48 => ?_) (fun zc48 => ?_)
          · exact absurd zc48 (fun z => z zc26)
          · refine xj_aload_n (n := 0) (i := 0) 0 rfl rfl dX12_put_51 ?_
            refine yj_getf (v := .ref 90) fl_X12_19_12 (by omega) (fq_86 g) rfl dX12_put_52 ?_
            refine xj_iload_n (n := 1) (i := 1) 1 rfl rfl dX12_put_55 ?_
            refine yj_ialdN ks (by omega) fA_90 rfl (by omega) (by decide) dX12_put_56 ?_
            refine xj_top (C.pi hks) ?_
            refine xj_goto (tgt := 71) (by decide) dX12_put_57 ?_
            refine xj_topi (fun zv3 ezv3 => ?_)
            refine xj_istore (i := 4) (lv1 := [(4, .int zv3), (0, .ref 86), (1, .int (nI ks)), (2, .int (nI kwhat)), (3, .int (nI kw))]) rfl (Nat.le_of_ble_eq_true rfl) dX12_put_71 ?_
            refine xj_iload_n (n := 2) (i := 2) 3 rfl rfl dX12_put_73 ?_
            refine xj_bipush (v := 16) (by decide) dX12_put_74 ?_
            refine xj_icmp_ne (tgt := 89) (by decide) dX12_put_76 (fun zc76 => ?_) (fun zc76 => ?_)
            · exact absurd zc76 (fun z => z zc26)
            · refine xj_aload_n (n := 0) (i := 0) 1 rfl rfl dX12_put_79 ?_
              refine yj_getf (v := .ref 90) fl_X12_19_12 (by omega) (fq_86 g) rfl dX12_put_80 ?_
              refine xj_iload_n (n := 1) (i := 1) 2 rfl rfl dX12_put_83 ?_
              refine xj_iload_n (n := 3) (i := 3) 4 rfl rfl dX12_put_84 ?_
              refine yj_iastN ks (by omega) fA_90 rfl (by omega) (by decide) dX12_put_85 ?_
              obtain ⟨zg4, ezg4⟩ : ∃ z, z = gs g 90 ks (nI kw) := ⟨_, rfl⟩
              rw [← ezg4]
              refine xj_goto (tgt := 101) (by decide) dX12_put_86 ?_
              refine xj_iload (i := 4) 0 rfl dX12_put_101 ?_
              have er : rPut A (nI ks) (nI kwhat) (nI kw) = (zv3, gs A 3 ks (nI kw)) := by unfold rPut; (try simp only [nI_clamp (show ks < 2147483648 by omega), nI_clamp (show kwhat < 2147483648 by omega), nI_clamp (show kw < 2147483648 by omega)]); rw [if_pos zp5, if_pos zp18, if_pos zc26, if_pos zp39]; all_goals (rw [ezv3])
              exact xj_ireturn rfl (nr_i _) (Nat.zero_le _) (Nat.zero_le _) dX12_put_103 (qI_e (by rw [er]; exact ⟨rfl, (by rw [ezg4]; exact C.pic _), (by rw [ezg4]; exact fr.rf.gs (mX_i (by omega)) _ _)⟩))
        · have zp39 : ¬ (0 ≤ w ∧ w ≤ 65535) := bI_0.mp zc39
          refine xj_bipush (v := (-7)) (by decide) dX12_put_42 ?_
          have er : rPut A (nI ks) (nI kwhat) w = ((-7), A) := by unfold rPut; (try simp only [nI_clamp (show ks < 2147483648 by omega), nI_clamp (show kwhat < 2147483648 by omega)]); rw [if_pos zp5, if_pos zp18, if_pos zc26, if_neg zp39]; all_goals (rfl)
          exact xj_ireturn rfl (nr_i _) (Nat.zero_le _) (Nat.zero_le _) dX12_put_44 (qI_e (by rw [er]; exact ⟨rfl, C, fr.rf⟩))
  · have zp5 : ¬ (isSl A s) := bI_0.mp zc5
    refine xj_bipush (v := (-5)) (by decide) dX12_put_8 ?_
    have er : rPut A s what w = ((-5), A) := by unfold rPut; rw [if_neg zp5]; all_goals (rfl)
    exact xj_ireturn rfl (nr_i _) (Nat.zero_le _) (Nat.zero_le _) dX12_put_10 (qI_e (by rw [er]; exact ⟨rfl, C, fr.rf⟩))
