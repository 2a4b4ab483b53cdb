/-- in thought, with any kind, any addition, any text -/
def rsG (L : xL) (k : Nat) (more pic : Int32) (d0 : Nat → Int32) (N i : Nat) : Int32 := clearS L k more pic (rowT L k more pic d0 N i) (nI (N + i)) &&& pic
def foF (A : zSt) (Λ : Nat → xL) (q s k : Nat) (more : Int32) (t : Nat) : Int32 := firstF (fun i => decide (¬ rsG (Λ t) k more (A 3 s) (A (10 + s)) (aN A) i = A (40 + q) i)) (aQ A q) 0
theorem refF_0 {A : zSt} {q s : Int32} (O : okA A) (h : refF A q s = 0) : ∃ kq ks, kq < 4 ∧ ks < aS A ∧ q = nI kq ∧ s = nI ks ∧ aQ A kq ≤ 20 := by
  unfold refF at h
  by_cases h1 : 0 ≤ q ∧ q ≤ 3
  · rw [if_pos h1] at h
    obtain ⟨kq, hkq, rfl⟩ := nI_bnd (m := 3) (by decide) h1.1 h1.2
    rw [nI_clamp (show kq < 2147483648 by omega)] at h
    by_cases h2 : A 5 kq = -1
    · rw [if_pos h2] at h; exact absurd h (by decide)
    · rw [if_neg h2] at h
      by_cases h3 : nI (aQ A kq) ≤ 20
      · rw [if_pos h3] at h
        by_cases h4 : isSl A s
        · obtain ⟨ks, hks, rfl⟩ := isSl_of O h4
          have hz := (O.2.2.2.2.2.2.2.2 kq (by omega)).2.2
          exact ⟨kq, ks, by omega, hks, rfl, rfl, (nI_leI (b := 20) (by omega) (by decide)).mp h3⟩
        · rw [if_neg h4] at h; exact absurd h (by decide)
      · rw [if_neg h3] at h; exact absurd h (by decide)
  · rw [if_neg h1] at h; exact absurd h (by decide)
def vJudge (A : zSt) (Λ : Nat → xL) (q s : Int32) : Int32 := if refF A q s = 0 then foF A Λ q.toNatClampNeg s.toNatClampNeg (aK A s.toNatClampNeg) (A 2 s.toNatClampNeg) (aW A) else refF A q s
def vLaws (A : zSt) (Λ : Nat → xL) (q s : Int32) : Int32 := if refF A q s = 0 then setF (fun t => decide (foF A Λ q.toNatClampNeg s.toNatClampNeg (aK A s.toNatClampNeg) (A 2 s.toNatClampNeg) t = -1)) (aT A) else refF A q s
set_option maxHeartbeats 4000000 in
set_option maxRecDepth 100000 in
theorem c_X11_firstOtherwise (l : Launch) (d : Nat) (n : Nat) (g : xG) (A : zSt) (Λ : Nat → xL) (O : okA A) (C : cA g n A Λ) (q s t k : Nat) (hq : q < 4) (hs : s < aS A) (ht : t < aT A) (more : Int32) (B : pnA g (28 + 3 * s) k more (A 3 s) (A (10 + s)))  : xC l yX11_firstOtherwise cX11_firstOtherwise 5 (some .int) (xR (d + 6) 0 0) [.ref 0, .ref (72 + 2 * q), .ref (28 + 3 * s), .ref (fTX t)] (n, fh g) (qI n fun v g1 => v = foF A Λ q s k more t ∧ fr sX g g1) := by
  refine xC_of false (by decide +kernel) (fun z => by cases z) (Nat.le_of_ble_eq_true rfl) ?_
  have hn := C.n110 O
  have hS6 := O.1.2
  have hW := O.W
  have hT6 := O.2.2.2.1.2.2
  have hN9 := O.2.1.2
  have hs6_s : s < 6 := by omega
  have hz40 := (O.2.2.2.2.2.2.2.2 q hq).2.2
  show xJ l (RX11, 5, (some .int), false, (xR (d + 6) 0 0), none) cX11_firstOtherwise _ 0 0 0 [(0, .ref 0), (1, .ref (72 + 2 * q)), (2, .ref (28 + 3 * s)), (3, .ref (fTX t))] [] (n, fh g)
  refine xj_iconst (v := 0) (by decide) dX11_firstOtherwise_0 ?_
  refine xj_istore (i := 4) (lv1 := [(4, .int 0), (0, .ref 0), (1, .ref (72 + 2 * q)), (2, .ref (28 + 3 * s)), (3, .ref (fTX t))]) rfl (Nat.le_of_ble_eq_true rfl) dX11_firstOtherwise_1 ?_
  have key : ∀ i, i ≤ aQ A q → ∀ (g1 : xG), fr sX g g1 → pnA g1 (28 + 3 * s) k more (A 3 s) (rowT (Λ t) k more (A 3 s) (A (10 + s)) (aN A) i) → foF A Λ q s k more t = firstF (fun i => decide (¬ rsG (Λ t) k more (A 3 s) (A (10 + s)) (aN A) i = A (40 + q) i)) (aQ A q - i) i → xJ l (RX11, 5, (some .int), false, (xR (d + 6) 0 0), none) cX11_firstOtherwise (qI n fun v g1 => v = foF A Λ q s k more t ∧ fr sX g g1) 0 0 3 [(4, .int (nI i)), (0, .ref 0), (1, .ref (72 + 2 * q)), (2, .ref (28 + 3 * s)), (3, .ref (fTX t))] [] (n, fh g1) := by
    refine x_loop (aQ A q) _ ?_ ?_
    · intro g1 hf B1 hz
      refine xj_iload (i := 4) 0 rfl dX11_firstOtherwise_3 ?_
      refine xj_aload_n (n := 1) (i := 1) 2 rfl rfl dX11_firstOtherwise_5 ?_
      refine yj_getf (v := .int (nI (aQ A q))) fl_X11_229_8 (by omega) ((fSt_q hq).2.1 (g1 (72 + 2 * q))) (congrArg (fun z => some (Value.int z)) ((C.keep O hf).qz O hq)) dX11_firstOtherwise_6 ?_
      refine xj_icmp_ge (tgt := 55) (by decide) dX11_firstOtherwise_9 (fun zc9 => ?_) (fun zc9 => ?_)
      · refine xj_iconst (v := (-1)) (by decide) dX11_firstOtherwise_55 ?_
        exact xj_ireturn rfl (nr_i _) (Nat.zero_le _) (Nat.zero_le _) dX11_firstOtherwise_56 (qI_e ⟨by rw [hz, Nat.sub_self]; rfl, hf⟩)
      · exact absurd (nI_le (Nat.le_refl _) (by omega)) zc9
    · intro i hi ih g1 hf B1 hz
      have hstep : firstF (fun i => decide (¬ rsG (Λ t) k more (A 3 s) (A (10 + s)) (aN A) i = A (40 + q) i)) (aQ A q - i) i = if decide (¬ rsG (Λ t) k more (A 3 s) (A (10 + s)) (aN A) i = A (40 + q) i) = true then nI i else firstF (fun i => decide (¬ rsG (Λ t) k more (A 3 s) (A (10 + s)) (aN A) i = A (40 + q) i)) (aQ A q - (i + 1)) (i + 1) := by rw [show aQ A q - i = aQ A q - (i + 1) + 1 by omega]; rfl
      refine xj_iload (i := 4) 0 rfl dX11_firstOtherwise_3 ?_
      refine xj_aload_n (n := 1) (i := 1) 2 rfl rfl dX11_firstOtherwise_5 ?_
      refine yj_getf (v := .int (nI (aQ A q))) fl_X11_229_8 (by omega) ((fSt_q hq).2.1 (g1 (72 + 2 * q))) (congrArg (fun z => some (Value.int z)) ((C.keep O hf).qz O hq)) dX11_firstOtherwise_6 ?_
      refine xj_icmp_ge (tgt := 55) (by decide) dX11_firstOtherwise_9 (fun zc9 => ?_) (fun zc9 => ?_)
      · exact absurd zc9 (nI_ge hi (by omega))
      · refine xj_aload_n (n := 2) (i := 2) 3 rfl rfl dX11_firstOtherwise_12 ?_
        refine xj_aload_n (n := 3) (i := 3) 4 rfl rfl dX11_firstOtherwise_13 ?_
        refine xj_aload_n (n := 0) (i := 0) 1 rfl rfl dX11_firstOtherwise_14 ?_
        refine yj_getf (v := .int (nI (aN A))) fl_X11_84_11 (by omega) (fq_0 g1) (congrArg (fun z => some (Value.int z)) ((C.keep O hf).N O)) dX11_firstOtherwise_15 ?_
        refine xj_iload (i := 4) 0 rfl dX11_firstOtherwise_18 ?_
        refine xj_iadd dX11_firstOtherwise_20 ?_
        refine xj_top (nI_add _ _) ?_
        refine xj_callV kv_X11_164 (c_X7_seenCells l (d + 0) n hn g1 (28 + 3 * s) (fTX t) k more (A 3 s) (rowT (Λ t) k more (A 3 s) (A (10 + s)) (aN A) i) (Λ t) (fPn_t hs6_s) B1 ((C.keep O hf).txt ht) (nI ((aN A) + i))) (As := [.ref (fTX t), .int (nI ((aN A) + i))]) (st := []) (by omega) ((fPn_t hs6_s).2.2.1 _) (ci := 7) rfl rfl rfl rfl (xRm_of (by omega) (by decide) (by omega) (by omega)) (Nat.le_of_ble_eq_true rfl) dX11_firstOtherwise_21 (yk_i (kc := 0) (ks := 0) fun zv1 zg2 hzg2 => ?_)
        obtain ⟨hvzv1, hfzg2⟩ := hzg2
        have hxzg2 := hfzg2.mono (fX_s (t := t) hs6_s (Or.inr (Or.inl rfl)))
        have Czg2 := (C.keep O hf).keep O hxzg2
        have Bzg2 := B1.keep (fPn_t hs6_s) ((C.keep O hf).txt ht).1 hfzg2
        refine xj_aload_n (n := 1) (i := 1) 2 rfl rfl dX11_firstOtherwise_24 ?_
        refine yj_getf (v := .ref ((72 + 2 * q) + 1)) fl_X11_261_8 (by omega) ((fSt_q hq).2.1 (zg2 (72 + 2 * q))) rfl dX11_firstOtherwise_25 ?_
        refine xj_iload (i := 4) 0 rfl dX11_firstOtherwise_28 ?_
        refine yj_ialdN i (by omega) (fSt_q hq).2.2 rfl (by omega) (by decide) dX11_firstOtherwise_30 ?_
        refine xj_top (Czg2.qn hq (by omega)) ?_
        refine xj_icmp_eq (tgt := 37) (by decide) dX11_firstOtherwise_31 (fun zc31 => ?_) (fun zc31 => ?_)
        · refine xj_aload_n (n := 2) (i := 2) 3 rfl rfl dX11_firstOtherwise_37 ?_
          refine xj_aload_n (n := 3) (i := 3) 4 rfl rfl dX11_firstOtherwise_38 ?_
          refine xj_aload_n (n := 0) (i := 0) 1 rfl rfl dX11_firstOtherwise_39 ?_
          refine yj_getf (v := .int (nI (aN A))) fl_X11_84_11 (by omega) (fq_0 zg2) (congrArg (fun z => some (Value.int z)) (Czg2.N O)) dX11_firstOtherwise_40 ?_
          refine xj_iload (i := 4) 0 rfl dX11_firstOtherwise_43 ?_
          refine xj_iadd dX11_firstOtherwise_45 ?_
          refine xj_top (nI_add _ _) ?_
          refine xj_callV kv_X11_177 (c_X7_passNight l (d + 1) n hn zg2 (28 + 3 * s) (fTX t) k more (A 3 s) (rowT (Λ t) k more (A 3 s) (A (10 + s)) (aN A) i) (Λ t) (fPn_t hs6_s) Bzg2 (Czg2.txt ht) (nI ((aN A) + i))) (As := [.ref (fTX t), .int (nI ((aN A) + i))]) (st := []) (by omega) ((fPn_t hs6_s).2.2.1 _) (ci := 7) rfl rfl rfl rfl (xRm_of (by omega) (by decide) (by omega) (by omega)) (Nat.le_of_ble_eq_true rfl) dX11_firstOtherwise_46 (yk_v (kc := 0) (ks := 0) fun zg3 hzg3 => ?_)
          obtain ⟨hfzg3, Bzg3⟩ := hzg3
          have hxzg3 := hfzg3.mono (fXd_s (t := t) hs6_s rfl)
          have Czg3 := Czg2.keep O hxzg3
          refine xj_iinc (n := 1) (i := 4) (v := nI (i + 1)) (lv1 := [(4, .int (nI (i + 1))), (0, .ref 0), (1, .ref (72 + 2 * q)), (2, .ref (28 + 3 * s)), (3, .ref (fTX t))]) 0 rfl (nI_1 i) rfl (Nat.le_of_ble_eq_true rfl) dX11_firstOtherwise_49 ?_
          refine xj_goto (tgt := 3) (by decide) dX11_firstOtherwise_52 ?_
          refine xj_sub (lv' := [(4, .int (nI (i + 1))), (0, .ref 0), (1, .ref (72 + 2 * q)), (2, .ref (28 + 3 * s)), (3, .ref (fTX t))]) [0, 1, 2, 3, 4] rfl ?_
          exact ih zg3 ((hf.tr hxzg2).tr hxzg3) Bzg3 (by rw [hz, hstep, if_neg (fun z => of_decide_eq_true (p := ¬ rsG (Λ t) k more (A 3 s) (A (10 + s)) (aN A) i = A (40 + q) i) z (hvzv1.symm.trans zc31))])
        · refine xj_iload (i := 4) 0 rfl dX11_firstOtherwise_34 ?_
          exact xj_ireturn rfl (nr_i _) (Nat.zero_le _) (Nat.zero_le _) dX11_firstOtherwise_36 (qI_e ⟨by rw [hz, hstep, if_pos (decide_eq_true (p := ¬ rsG (Λ t) k more (A 3 s) (A (10 + s)) (aN A) i = A (40 + q) i) (fun z => zc31 (hvzv1.trans z)))], (hf.tr hxzg2)⟩)
  refine xj_sub (lv' := [(4, .int 0), (0, .ref 0), (1, .ref (72 + 2 * q)), (2, .ref (28 + 3 * s)), (3, .ref (fTX t))]) [0, 1, 2, 3, 4] rfl ?_
  exact key 0 (Nat.zero_le _) g fr.rf B rfl
set_option maxHeartbeats 4000000 in
set_option maxRecDepth 100000 in
theorem c_X11_judge (l : Launch) (d : Nat) (n : Nat) (g : xG) (A : zSt) (Λ : Nat → xL) (O : okA A) (C : cA g n A Λ) (q s : Int32)  : xC l yX11_judge cX11_judge 4 (some .int) (xR (d + 7) 0 0) [.ref 0, .int q, .int s] (n, fh g) (qI n fun v g1 => v = vJudge A Λ q s ∧ fr sX g g1) := by
  refine xC_of false (by decide +kernel) (fun z => by cases z) (Nat.le_of_ble_eq_true rfl) ?_
  have hn := C.n110 O
  have hS6 := O.1.2
  have hW := O.W
  have hT6 := O.2.2.2.1.2.2
  have hN9 := O.2.1.2
  show xJ l (RX11, 4, (some .int), false, (xR (d + 7) 0 0), none) cX11_judge _ 0 0 0 [(0, .ref 0), (1, .int q), (2, .int s)] [] (n, fh g)
  refine xj_aload_n (n := 0) (i := 0) 0 rfl rfl dX11_judge_0 ?_
  refine xj_iload_n (n := 1) (i := 1) 1 rfl rfl dX11_judge_1 ?_
  refine xj_iload_n (n := 2) (i := 2) 2 rfl rfl dX11_judge_2 ?_
  refine xj_callV kv_X11_211 (c_X11_refusalOf l (d + 4) n g A Λ O C q s) (As := [.int q, .int s]) (st := []) (by omega) (fq_0 g) (ci := 11) rfl rfl rfl rfl (xRm_of (by omega) (by decide) (by omega) (by omega)) (Nat.le_of_ble_eq_true rfl) dX11_judge_3 (yk_p (kc := 0) (ks := 0) ?_)
  refine xj_istore_n (n := 3) (i := 3) (lv1 := [(3, .int (refF A q s)), (0, .ref 0), (1, .int q), (2, .int s)]) rfl rfl (Nat.le_of_ble_eq_true rfl) dX11_judge_6 ?_
  refine xj_iload_n (n := 3) (i := 3) 0 rfl rfl dX11_judge_7 ?_
  refine xj_if_eq (tgt := 13) (by decide) dX11_judge_8 (fun zc8 => ?_) (fun zc8 => ?_)
  · obtain ⟨kq, ks, hk4_kq, hks, rfl, rfl, hz20⟩ := refF_0 O zc8
    have hs6_ks : ks < 6 := by omega
    refine xj_aload_n (n := 0) (i := 0) 1 rfl rfl dX11_judge_13 ?_
    refine xj_aload_n (n := 0) (i := 0) 1 rfl rfl dX11_judge_14 ?_
    refine yj_getf (v := .ref 71) fl_X11_69_11 (by omega) (fq_0 g) rfl dX11_judge_15 ?_
    refine xj_iload_n (n := 1) (i := 1) 2 rfl rfl dX11_judge_18 ?_
    refine yj_aaldN (m := 4) (a := 72 + 2 * kq) kq (by omega) (fq_71 g) (by decide) (by decide) rfl (by omega) (by decide) (if_pos (by omega)) dX11_judge_19 ?_
    refine xj_aload_n (n := 0) (i := 0) 1 rfl rfl dX11_judge_20 ?_
    refine xj_iload_n (n := 2) (i := 2) 3 rfl rfl dX11_judge_21 ?_
    refine xj_callV kv_X11_184 (c_X11_inThought l (d + 4) n g A Λ O C ks hks) (As := [.int (nI ks)]) (st := [.ref (72 + 2 * kq), .ref 0]) (by omega) (fq_0 g) (ci := 11) rfl rfl rfl rfl (xRm_of (by omega) (by decide) (by omega) (by omega)) (Nat.le_of_ble_eq_true rfl) dX11_judge_22 (yk_r (kc := 0) (ks := 0) fun zv1 zg2 hzg2 => ?_)
    obtain ⟨hvzv1, hxzg2, Bzg2⟩ := hzg2
    subst hvzv1
    have Czg2 := C.keep O hxzg2
    refine xj_aload_n (n := 0) (i := 0) 1 rfl rfl dX11_judge_25 ?_
    refine yj_getf (v := .ref 66) fl_X11_55_11 (by omega) (fq_0 zg2) rfl dX11_judge_26 ?_
    refine xj_aload_n (n := 0) (i := 0) 1 rfl rfl dX11_judge_29 ?_
    refine yj_getf (v := .int (nI (aW A))) fl_X11_93_11 (by omega) (fq_0 zg2) (congrArg (fun z => some (Value.int z)) (Czg2.W O)) dX11_judge_30 ?_
    refine yj_aaldN (m := 6) (a := fTX (aW A)) (aW A) (by omega) (fq_66 zg2) (by decide) (by decide) rfl (by omega) (by decide) (Czg2.tx O hW) dX11_judge_33 ?_
    refine xj_callV kv_X11_214 (c_X11_firstOtherwise l (d + 0) n zg2 A Λ O Czg2 kq ks (aW A) (aK A ks) hk4_kq hks hW (A 2 ks) Bzg2) (As := [.ref (72 + 2 * kq), .ref (28 + 3 * ks), .ref (fTX (aW A))]) (st := []) (by omega) (fq_0 zg2) (ci := 11) rfl rfl rfl rfl (xRm_of (by omega) (by decide) (by omega) (by omega)) (Nat.le_of_ble_eq_true rfl) dX11_judge_34 (yk_i (kc := 0) (ks := 0) fun zv3 zg4 hzg4 => ?_)
    obtain ⟨hvzv3, hxzg4⟩ := hzg4
    have Czg4 := Czg2.keep O hxzg4
    exact xj_ireturn rfl (nr_i _) (Nat.zero_le _) (Nat.zero_le _) dX11_judge_37 (qI_e ⟨by unfold vJudge; (try simp only [nI_clamp (show kq < 2147483648 by omega), nI_clamp (show ks < 2147483648 by omega)]); rw [if_pos zc8]; all_goals (exact hvzv3), (hxzg2.tr hxzg4)⟩)
  · refine xj_iload_n (n := 3) (i := 3) 0 rfl rfl dX11_judge_11 ?_
    exact xj_ireturn rfl (nr_i _) (Nat.zero_le _) (Nat.zero_le _) dX11_judge_12 (qI_e ⟨by unfold vJudge; rw [if_neg zc8]; all_goals (rfl), fr.rf⟩)
set_option maxHeartbeats 4000000 in
set_option maxRecDepth 100000 in
theorem c_X11_laws (l : Launch) (d : Nat) (n : Nat) (g : xG) (A : zSt) (Λ : Nat → xL) (O : okA A) (C : cA g n A Λ) (q s : Int32)  : xC l yX11_laws cX11_laws 6 (some .int) (xR (d + 7) 0 0) [.ref 0, .int q, .int s] (n, fh g) (qI n fun v g1 => v = vLaws A Λ q s ∧ fr sX g g1) := by
  refine xC_of false (by decide +kernel) (fun z => by cases z) (Nat.le_of_ble_eq_true rfl) ?_
  have hn := C.n110 O
  have hS6 := O.1.2
  have hW := O.W
  have hT6 := O.2.2.2.1.2.2
  have hN9 := O.2.1.2
  show xJ l (RX11, 6, (some .int), false, (xR (d + 7) 0 0), none) cX11_laws _ 0 0 0 [(0, .ref 0), (1, .int q), (2, .int s)] [] (n, fh g)
  refine xj_aload_n (n := 0) (i := 0) 0 rfl rfl dX11_laws_0 ?_
  refine xj_iload_n (n := 1) (i := 1) 1 rfl rfl dX11_laws_1 ?_
  refine xj_iload_n (n := 2) (i := 2) 2 rfl rfl dX11_laws_2 ?_
  refine xj_callV kv_X11_211 (c_X11_refusalOf l (d + 4) n g A Λ O C q s) (As := [.int q, .int s]) (st := []) (by omega) (fq_0 g) (ci := 11) rfl rfl rfl rfl (xRm_of (by omega) (by decide) (by omega) (by omega)) (Nat.le_of_ble_eq_true rfl) dX11_laws_3 (yk_p (kc := 0) (ks := 0) ?_)
  refine xj_istore_n (n := 3) (i := 3) (lv1 := [(3, .int (refF A q s)), (0, .ref 0), (1, .int q), (2, .int s)]) rfl rfl (Nat.le_of_ble_eq_true rfl) dX11_laws_6 ?_
  refine xj_iload_n (n := 3) (i := 3) 0 rfl rfl dX11_laws_7 ?_
  refine xj_if_eq (tgt := 13) (by decide) dX11_laws_8 (fun zc8 => ?_) (fun zc8 => ?_)
  · obtain ⟨kq, ks, hk4_kq, hks, rfl, rfl, hz20⟩ := refF_0 O zc8
    have hs6_ks : ks < 6 := by omega
    refine xj_iconst (v := 0) (by decide) dX11_laws_13 ?_
    refine xj_istore (i := 4) (lv1 := [(4, .int 0), (3, .int (refF A (nI kq) (nI ks))), (0, .ref 0), (1, .int (nI kq)), (2, .int (nI ks))]) rfl (Nat.le_of_ble_eq_true rfl) dX11_laws_14 ?_
    refine xj_iconst (v := 0) (by decide) dX11_laws_16 ?_
    refine xj_istore (i := 5) (lv1 := [(5, .int 0), (4, .int 0), (3, .int (refF A (nI kq) (nI ks))), (0, .ref 0), (1, .int (nI kq)), (2, .int (nI ks))]) rfl (Nat.le_of_ble_eq_true rfl) dX11_laws_17 ?_
    have key : ∀ i, i ≤ aT A → ∀ (g1 : xG), fr sX g g1 → xJ l (RX11, 6, (some .int), false, (xR (d + 7) 0 0), none) cX11_laws (qI n fun v g1 => v = vLaws A Λ (nI kq) (nI ks) ∧ fr sX g g1) 0 0 19 [(5, .int (nI i)), (4, .int (setF (fun t => decide (foF A Λ kq ks (aK A ks) (A 2 ks) t = -1)) i)), (0, .ref 0), (1, .int (nI kq)), (2, .int (nI ks))] [] (n, fh g1) := by
      refine x_loop (aT A) _ ?_ ?_
      · intro g1 hf
        refine xj_iload (i := 5) 0 rfl dX11_laws_19 ?_
        refine xj_aload_n (n := 0) (i := 0) 2 rfl rfl dX11_laws_21 ?_
        refine yj_getf (v := .int (nI (aT A))) fl_X11_90_11 (by omega) (fq_0 g1) (congrArg (fun z => some (Value.int z)) ((C.keep O hf).T O)) dX11_laws_22 ?_
        refine xj_icmp_ge (tgt := 69) (by decide) dX11_laws_25 (fun zc25 => ?_) (fun zc25 => ?_)
        · refine xj_iload (i := 4) 1 rfl dX11_laws_69 ?_
          exact xj_ireturn rfl (nr_i _) (Nat.zero_le _) (Nat.zero_le _) dX11_laws_71 (qI_e ⟨by unfold vLaws; (try simp only [nI_clamp (show kq < 2147483648 by omega), nI_clamp (show ks < 2147483648 by omega)]); rw [if_pos zc8]; all_goals (rfl), hf⟩)
        · exact absurd (nI_le (Nat.le_refl _) (by omega)) zc25
      · intro i hi ih g1 hf
        refine xj_iload (i := 5) 0 rfl dX11_laws_19 ?_
        refine xj_aload_n (n := 0) (i := 0) 2 rfl rfl dX11_laws_21 ?_
        refine yj_getf (v := .int (nI (aT A))) fl_X11_90_11 (by omega) (fq_0 g1) (congrArg (fun z => some (Value.int z)) ((C.keep O hf).T O)) dX11_laws_22 ?_
        refine xj_icmp_ge (tgt := 69) (by decide) dX11_laws_25 (fun zc25 => ?_) (fun zc25 => ?_)
        · exact absurd zc25 (nI_ge hi (by omega))
        · refine xj_aload_n (n := 0) (i := 0) 2 rfl rfl dX11_laws_28 ?_
          refine xj_aload_n (n := 0) (i := 0) 2 rfl rfl dX11_laws_29 ?_
          refine yj_getf (v := .ref 71) fl_X11_69_11 (by omega) (fq_0 g1) rfl dX11_laws_30 ?_
          refine xj_iload_n (n := 1) (i := 1) 3 rfl rfl dX11_laws_33 ?_
          refine yj_aaldN (m := 4) (a := 72 + 2 * kq) kq (by omega) (fq_71 g1) (by decide) (by decide) rfl (by omega) (by decide) (if_pos (by omega)) dX11_laws_34 ?_
          refine xj_aload_n (n := 0) (i := 0) 2 rfl rfl dX11_laws_35 ?_
          refine xj_iload_n (n := 2) (i := 2) 4 rfl rfl dX11_laws_36 ?_
          refine xj_callV kv_X11_184 (c_X11_inThought l (d + 4) n g1 A Λ O (C.keep O hf) ks hks) (As := [.int (nI ks)]) (st := [.ref (72 + 2 * kq), .ref 0]) (by omega) (fq_0 g1) (ci := 11) rfl rfl rfl rfl (xRm_of (by omega) (by decide) (by omega) (by omega)) (Nat.le_of_ble_eq_true rfl) dX11_laws_37 (yk_r (kc := 0) (ks := 0) fun zv1 zg2 hzg2 => ?_)
          obtain ⟨hvzv1, hxzg2, Bzg2⟩ := hzg2
          subst hvzv1
          have Czg2 := (C.keep O hf).keep O hxzg2
          refine xj_aload_n (n := 0) (i := 0) 2 rfl rfl dX11_laws_40 ?_
          refine yj_getf (v := .ref 66) fl_X11_55_11 (by omega) (fq_0 zg2) rfl dX11_laws_41 ?_
          refine xj_iload (i := 5) 0 rfl dX11_laws_44 ?_
          refine yj_aaldN (m := 6) (a := fTX i) i (by omega) (fq_66 zg2) (by decide) (by decide) rfl (by omega) (by decide) (Czg2.tx O hi) dX11_laws_46 ?_
          refine xj_callV kv_X11_214 (c_X11_firstOtherwise l (d + 0) n zg2 A Λ O Czg2 kq ks i (aK A ks) hk4_kq hks hi (A 2 ks) Bzg2) (As := [.ref (72 + 2 * kq), .ref (28 + 3 * ks), .ref (fTX i)]) (st := []) (by omega) (fq_0 zg2) (ci := 11) rfl rfl rfl rfl (xRm_of (by omega) (by decide) (by omega) (by omega)) (Nat.le_of_ble_eq_true rfl) dX11_laws_47 (yk_i (kc := 0) (ks := 0) fun zv3 zg4 hzg4 => ?_)
          obtain ⟨hvzv3, hxzg4⟩ := hzg4
          have Czg4 := Czg2.keep O hxzg4
          refine xj_iconst (v := (-1)) (by decide) dX11_laws_50 ?_
          refine xj_icmp_ne (tgt := 63) (by decide) dX11_laws_51 (fun zc51 => ?_) (fun zc51 => ?_)
          · have hcl : ¬ decide (foF A Λ kq ks (aK A ks) (A 2 ks) i = -1) = true := fun z => zc51 (hvzv3.trans (of_decide_eq_true z))
            refine xj_iinc (n := 1) (i := 5) (v := nI (i + 1)) (lv1 := [(5, .int (nI (i + 1))), (4, .int (setF (fun t => decide (foF A Λ kq ks (aK A ks) (A 2 ks) t = -1)) i)), (0, .ref 0), (1, .int (nI kq)), (2, .int (nI ks))]) 0 rfl (nI_1 i) rfl (Nat.le_of_ble_eq_true rfl) dX11_laws_63 ?_
            refine xj_goto (tgt := 19) (by decide) dX11_laws_66 ?_
            refine xj_sub (lv' := [(5, .int (nI (i + 1))), (4, .int (setF (fun t => decide (foF A Λ kq ks (aK A ks) (A 2 ks) t = -1)) i)), (0, .ref 0), (1, .int (nI kq)), (2, .int (nI ks))]) [0, 1, 2, 3, 4] rfl ?_
            have h9 := ih zg4 ((hf.tr hxzg2).tr hxzg4)
            rw [show setF (fun t => decide (foF A Λ kq ks (aK A ks) (A 2 ks) t = -1)) (i + 1) = setF (fun t => decide (foF A Λ kq ks (aK A ks) (A 2 ks) t = -1)) i from if_neg hcl] at h9
            exact h9
          · have hcl : decide (foF A Λ kq ks (aK A ks) (A 2 ks) i = -1) = true := decide_eq_true (hvzv3.symm.trans zc51)
            refine xj_iload (i := 4) 1 rfl dX11_laws_54 ?_
            refine xj_iconst (v := 1) (by decide) dX11_laws_56 ?_
            refine xj_iload (i := 5) 0 rfl dX11_laws_57 ?_
            refine xj_ishl dX11_laws_59 ?_
            refine xj_ior dX11_laws_60 ?_
            refine xj_topi (fun zv5 ezv5 => ?_)
            refine xj_istore (i := 4) (lv1 := [(4, .int zv5), (5, .int (nI i)), (0, .ref 0), (1, .int (nI kq)), (2, .int (nI ks))]) rfl (Nat.le_of_ble_eq_true rfl) dX11_laws_61 ?_
            refine xj_iinc (n := 1) (i := 5) (v := nI (i + 1)) (lv1 := [(5, .int (nI (i + 1))), (4, .int zv5), (0, .ref 0), (1, .int (nI kq)), (2, .int (nI ks))]) 1 rfl (nI_1 i) rfl (Nat.le_of_ble_eq_true rfl) dX11_laws_63 ?_
            refine xj_goto (tgt := 19) (by decide) dX11_laws_66 ?_
            refine xj_sub (lv' := [(5, .int (nI (i + 1))), (4, .int zv5), (0, .ref 0), (1, .int (nI kq)), (2, .int (nI ks))]) [0, 1, 2, 3, 4] rfl ?_
            have h9 := ih zg4 ((hf.tr hxzg2).tr hxzg4)
            rw [show setF (fun t => decide (foF A Λ kq ks (aK A ks) (A 2 ks) t = -1)) (i + 1) = zv5 from (if_pos hcl).trans ezv5.symm] at h9
            exact h9
    refine xj_sub (lv' := [(5, .int 0), (4, .int 0), (0, .ref 0), (1, .int (nI kq)), (2, .int (nI ks))]) [0, 1, 3, 4, 5] rfl ?_
    exact key 0 (Nat.zero_le _) g fr.rf
  · refine xj_iload_n (n := 3) (i := 3) 0 rfl rfl dX11_laws_11 ?_
    exact xj_ireturn rfl (nr_i _) (Nat.zero_le _) (Nat.zero_le _) dX11_laws_12 (qI_e ⟨by unfold vLaws; rw [if_neg zc8]; all_goals (rfl), fr.rf⟩)
