set_option maxHeartbeats 4000000 in
set_option maxRecDepth 100000 in
theorem c_X11_best (l : Launch) (d : Nat) (n : Nat) (g : xG) (A : zSt) (Λ : Nat → xL) (O : okA A) (C : cA g n A Λ) (s what : Int32)  : xC l yX11_best cX11_best 4 (some .int) (xR (d + 7) 0 0) [.ref 0, .int s, .int what] (n, fh g) (qI n fun v g1 => v = vBest A Λ s what ∧ fr sX g g1) := by
  refine xC_of false (by decide +kernel) (fun z => by cases z) (Nat.le_of_ble_eq_true rfl) ?_
  have hn := C.n110 O
  have hS6 := O.1.2
  have hW := O.W
  have hT6 := O.2.2.2.1.2.2
  have hN9 := O.2.1.2
  show xJ l (RX11, 4, (some .int), false, (xR (d + 7) 0 0), none) cX11_best _ 0 0 0 [(0, .ref 0), (1, .int s), (2, .int what)] [] (n, fh g)
  refine xj_aload_n (n := 0) (i := 0) 0 rfl rfl dX11_best_0 ?_
  refine xj_iload_n (n := 1) (i := 1) 1 rfl rfl dX11_best_1 ?_
  refine xj_callV kv_X11_125 (c_X11_isSleeper l (d + 5) n g A Λ O C s) (As := [.int s]) (st := []) (by omega) (fq_0 g) (ci := 11) rfl rfl rfl rfl (xRm_of (by omega) (by decide) (by omega) (by omega)) (Nat.le_of_ble_eq_true rfl) dX11_best_2 (yk_p (kc := 0) (ks := 0) ?_)
  refine xj_if_ne (tgt := 11) (by decide) dX11_best_5 (fun zc5 => ?_) (fun zc5 => ?_)
  · have zp5 : isSl A s := bI_n0.mp zc5
    obtain ⟨ks, hks, rfl⟩ := isSl_of O zp5
    have hs6_ks : ks < 6 := by omega
    refine xj_iload_n (n := 2) (i := 2) 2 rfl rfl dX11_best_11 ?_
    refine xj_iconst (v := 2) (by decide) dX11_best_12 ?_
    refine xj_callS ks_X11_107 (c_X11_within l (d + 6) what 2 _) (As := [.int what, .int 2]) (st := []) rfl rfl (xRm_of (by omega) (by decide) (by omega) (by omega)) (Nat.le_of_ble_eq_true rfl) dX11_best_13 (yk_p (kc := 0) (ks := 0) ?_)
    refine xj_if_ne (tgt := 22) (by decide) dX11_best_16 (fun zc16 => ?_) (fun zc16 => ?_)
    · have zp16 : 0 ≤ what ∧ what ≤ 2 := bI_n0.mp zc16
      obtain ⟨kwhat, hkwhat, rfl⟩ := nI_bnd (m := 2) (by decide) zp16.1 zp16.2
      refine xj_aload_n (n := 0) (i := 0) 0 rfl rfl dX11_best_22 ?_
      refine xj_iload_n (n := 1) (i := 1) 1 rfl rfl dX11_best_23 ?_
      refine xj_callV kv_X11_188 (c_X11_worthCleaning l (d + 0) n g A Λ O C ks hks) (As := [.int (nI ks)]) (st := []) (by omega) (fq_0 g) (ci := 11) rfl rfl rfl rfl (xRm_of (by omega) (by decide) (by omega) (by omega)) (Nat.le_of_ble_eq_true rfl) dX11_best_24 (yk_i (kc := 0) (ks := 0) fun zv1 zg2 hzg2 => ?_)
      obtain ⟨hvzv1, hxzg2⟩ := hzg2
      have Czg2 := C.keep O hxzg2
      refine xj_top (show zv1 = wcP A Λ ks from hvzv1) ?_
      refine xj_istore_n (n := 3) (i := 3) (lv1 := [(3, .int (wcP A Λ ks)), (0, .ref 0), (1, .int (nI ks)), (2, .int (nI kwhat))]) rfl rfl (Nat.le_of_ble_eq_true rfl) dX11_best_27 ?_
      refine xj_iload_n (n := 2) (i := 2) 3 rfl rfl dX11_best_28 ?_
      refine xj_if_ne (tgt := 34) (by decide) dX11_best_29 (fun zc29 => ?_) (fun zc29 => ?_)
      · refine xj_iload_n (n := 2) (i := 2) 3 rfl rfl dX11_best_34 ?_
        refine xj_iconst (v := 1) (by decide) dX11_best_35 ?_
        refine xj_icmp_ne (tgt := 46) (by decide) dX11_best_36 (fun zc36 => ?_) (fun zc36 => ?_)
        · refine xj_aload_n (n := 0) (i := 0) 1 rfl rfl dX11_best_46 ?_
          refine yj_getf (v := .ref 8) fl_X11_37_11 (by omega) (fq_0 zg2) rfl dX11_best_47 ?_
          refine xj_iload_n (n := 1) (i := 1) 2 rfl rfl dX11_best_50 ?_
          refine yj_aaldN (m := 6) (a := 9 + 3 * ks) ks (by omega) (fq_8 zg2) (by decide) (by decide) rfl (by omega) (by decide) (if_pos (by omega)) dX11_best_51 ?_
          refine xj_aload_n (n := 0) (i := 0) 1 rfl rfl dX11_best_52 ?_
          refine yj_getf (v := .ref 66) fl_X11_55_11 (by omega) (fq_0 zg2) rfl dX11_best_53 ?_
          refine xj_aload_n (n := 0) (i := 0) 1 rfl rfl dX11_best_56 ?_
          refine yj_getf (v := .int (nI (aW A))) fl_X11_93_11 (by omega) (fq_0 zg2) (congrArg (fun z => some (Value.int z)) (Czg2.W O)) dX11_best_57 ?_
          refine yj_aaldN (m := 6) (a := fTX (aW A)) (aW A) (by omega) (fq_66 zg2) (by decide) (by decide) rfl (by omega) (by decide) (Czg2.tx O hW) dX11_best_60 ?_
          refine xj_iload_n (n := 3) (i := 3) 0 rfl rfl dX11_best_61 ?_
          refine xj_aload_n (n := 0) (i := 0) 1 rfl rfl dX11_best_62 ?_
          refine yj_getf (v := .int (nI (aN A))) fl_X11_84_11 (by omega) (fq_0 zg2) (congrArg (fun z => some (Value.int z)) (Czg2.N O)) dX11_best_63 ?_
          refine xj_callV kv_X11_173 (c_X7_costOf l (d + 2) n hn zg2 (9 + 3 * ks) (fTX (aW A)) (aK A ks) (A 2 ks) (A 3 ks) (A (10 + ks)) (Λ (aW A)) (fPn_r hs6_ks) (Czg2.pane hks) (Czg2.txt hW) (wcP A Λ ks) (nI (aN A))) (As := [.ref (fTX (aW A)), .int (wcP A Λ ks), .int (nI (aN A))]) (st := []) (by omega) ((fPn_r hs6_ks).2.2.1 _) (ci := 7) rfl rfl rfl rfl (xRm_of (by omega) (by decide) (by omega) (by omega)) (Nat.le_of_ble_eq_true rfl) dX11_best_66 (yk_i (kc := 0) (ks := 0) fun zv3 zg4 hzg4 => ?_)
          obtain ⟨hvzv3, hfzg4⟩ := hzg4
          have hxzg4 := hfzg4.mono (fX_s (t := (aW A)) hs6_ks (Or.inl rfl))
          have Czg4 := Czg2.keep O hxzg4
          exact xj_ireturn rfl (nr_i _) (Nat.zero_le _) (Nat.zero_le _) dX11_best_69 (qI_e ⟨by unfold vBest; (try simp only [nI_clamp (show ks < 2147483648 by omega), nI_clamp (show kwhat < 2147483648 by omega)]); rw [if_pos zp5, if_pos zp16, if_neg zc29, if_neg zc36]; all_goals (exact hvzv3), (hxzg2.tr hxzg4)⟩)
        · refine xj_iload_n (n := 3) (i := 3) 0 rfl rfl dX11_best_39 ?_
          obtain ⟨mz, hmz, emz⟩ := wcP_n A Λ ks
          refine xj_top (show (wcP A Λ ks) = nI mz from emz) ?_
          refine xj_callS ks_X11_167 (c_J6_bitCount_0f7a4 l (d + 6) mz hmz _) (As := [.int (nI mz)]) (st := []) rfl rfl (xRm_of (by omega) (by decide) (by omega) (by omega)) (Nat.le_of_ble_eq_true rfl) dX11_best_40 (yk_p (kc := 0) (ks := 0) ?_)
          refine xj_goto (tgt := 69) (by decide) dX11_best_43 ?_
          exact xj_ireturn rfl (nr_i _) (Nat.zero_le _) (Nat.zero_le _) dX11_best_69 (qI_e ⟨by unfold vBest; (try simp only [nI_clamp (show ks < 2147483648 by omega), nI_clamp (show kwhat < 2147483648 by omega)]); rw [if_pos zp5, if_pos zp16, if_neg zc29, if_pos zc36]; all_goals (exact congrArg onesF emz.symm), hxzg2⟩)
      · refine xj_iload_n (n := 3) (i := 3) 0 rfl rfl dX11_best_32 ?_
        exact xj_ireturn rfl (nr_i _) (Nat.zero_le _) (Nat.zero_le _) dX11_best_33 (qI_e ⟨by unfold vBest; (try simp only [nI_clamp (show ks < 2147483648 by omega), nI_clamp (show kwhat < 2147483648 by omega)]); rw [if_pos zp5, if_pos zp16, if_pos zc29]; all_goals (rfl), hxzg2⟩)
    · have zp16 : ¬ (0 ≤ what ∧ what ≤ 2) := bI_0.mp zc16
      refine xj_bipush (v := (-7)) (by decide) dX11_best_19 ?_
      exact xj_ireturn rfl (nr_i _) (Nat.zero_le _) (Nat.zero_le _) dX11_best_21 (qI_e ⟨by unfold vBest; (try simp only [nI_clamp (show ks < 2147483648 by omega)]); rw [if_pos zp5, if_neg zp16]; all_goals (rfl), fr.rf⟩)
  · have zp5 : ¬ (isSl A s) := bI_0.mp zc5
    refine xj_bipush (v := (-5)) (by decide) dX11_best_8 ?_
    exact xj_ireturn rfl (nr_i _) (Nat.zero_le _) (Nat.zero_le _) dX11_best_10 (qI_e ⟨by unfold vBest; rw [if_neg zp5]; all_goals (rfl), fr.rf⟩)
set_option maxHeartbeats 4000000 in
set_option maxRecDepth 100000 in
theorem c_X11_whom (l : Launch) (d : Nat) (n : Nat) (g : xG) (A : zSt) (Λ : Nat → xL) (O : okA A) (C : cA g n A Λ) (what : Int32)  : xC l yX11_whom cX11_whom 6 (some .int) (xR (d + 7) 0 0) [.ref 0, .int what] (n, fh g) (qI n fun v g1 => v = vWhom A Λ what ∧ fr sX g g1) := by
  refine xC_of false (by decide +kernel) (fun z => by cases z) (Nat.le_of_ble_eq_true rfl) ?_
  have hn := C.n110 O
  have hS6 := O.1.2
  have hW := O.W
  have hT6 := O.2.2.2.1.2.2
  have hN9 := O.2.1.2
  show xJ l (RX11, 6, (some .int), false, (xR (d + 7) 0 0), none) cX11_whom _ 0 0 0 [(0, .ref 0), (1, .int what)] [] (n, fh g)
  refine xj_iload_n (n := 1) (i := 1) 1 rfl rfl dX11_whom_0 ?_
  refine xj_iconst (v := 1) (by decide) dX11_whom_1 ?_
  refine xj_callS ks_X11_107 (c_X11_within l (d + 6) what 1 _) (As := [.int what, .int 1]) (st := []) rfl rfl (xRm_of (by omega) (by decide) (by omega) (by omega)) (Nat.le_of_ble_eq_true rfl) dX11_whom_2 (yk_p (kc := 0) (ks := 0) ?_)
  refine xj_if_ne (tgt := 11) (by decide) dX11_whom_5 (fun zc5 => ?_) (fun zc5 => ?_)
  · have zp5 : 0 ≤ what ∧ what ≤ 1 := bI_n0.mp zc5
    obtain ⟨kwhat, hkwhat, rfl⟩ := nI_bnd (m := 1) (by decide) zp5.1 zp5.2
    refine xj_iconst (v := (-1)) (by decide) dX11_whom_11 ?_
    refine xj_istore_n (n := 2) (i := 2) (lv1 := [(2, .int (-1)), (0, .ref 0), (1, .int (nI kwhat))]) rfl rfl (Nat.le_of_ble_eq_true rfl) dX11_whom_12 ?_
    refine xj_iconst (v := (-1)) (by decide) dX11_whom_13 ?_
    refine xj_istore_n (n := 3) (i := 3) (lv1 := [(3, .int (-1)), (2, .int (-1)), (0, .ref 0), (1, .int (nI kwhat))]) rfl rfl (Nat.le_of_ble_eq_true rfl) dX11_whom_14 ?_
    refine xj_iconst (v := 0) (by decide) dX11_whom_15 ?_
    refine xj_istore (i := 4) (lv1 := [(4, .int 0), (3, .int (-1)), (2, .int (-1)), (0, .ref 0), (1, .int (nI kwhat))]) rfl (Nat.le_of_ble_eq_true rfl) dX11_whom_16 ?_
    have key : ∀ i, i ≤ aS A → ∀ (g1 : xG), fr sX g g1 → xJ l (RX11, 6, (some .int), false, (xR (d + 7) 0 0), none) cX11_whom (qI n fun v g1 => v = vWhom A Λ (nI kwhat) ∧ fr sX g g1) 0 0 18 [(4, .int (nI i)), (2, .int ((whF (fun s => onesF (wcP A Λ s)) i).1)), (3, .int ((whF (fun s => onesF (wcP A Λ s)) i).2)), (0, .ref 0), (1, .int (nI kwhat))] [] (n, fh g1) := by
      refine x_loop (aS A) _ ?_ ?_
      · intro g1 hf
        refine xj_iload (i := 4) 0 rfl dX11_whom_18 ?_
        refine xj_aload_n (n := 0) (i := 0) 3 rfl rfl dX11_whom_20 ?_
        refine yj_getf (v := .int (nI (aS A))) fl_X11_80_11 (by omega) (fq_0 g1) (congrArg (fun z => some (Value.int z)) ((C.keep O hf).S O)) dX11_whom_21 ?_
        refine xj_icmp_ge (tgt := 56) (by decide) dX11_whom_24 (fun zc24 => ?_) (fun zc24 => ?_)
        · refine xj_iload_n (n := 1) (i := 1) 4 rfl rfl dX11_whom_56 ?_
          refine xj_if_ne (tgt := 64) (by decide) dX11_whom_57 (fun zc57 => ?_) (fun zc57 => ?_)
          · refine xj_iconst (v := 0) (by decide) dX11_whom_64 ?_
            refine xj_iload_n (n := 3) (i := 3) 2 rfl rfl dX11_whom_65 ?_
            refine xj_mmax xw673 xw498 xw74 xw499 (Nat.le_of_ble_eq_true rfl) ⟨by show 1 ≤ _; simp only [xR]; omega, by show 21 ≤ _; simp only [xR]; omega, by show _ ≤ _; simp only [xR]; omega, by show _ ≤ _; simp only [xR]; omega⟩ dX11_whom_66 ?_
            exact xj_ireturn rfl (nr_i _) (Nat.zero_le _) (Nat.zero_le _) dX11_whom_69 (qI_e ⟨by unfold vWhom; (try simp only [nI_clamp (show kwhat < 2147483648 by omega)]); rw [if_pos zp5, if_neg zc57]; all_goals (rfl), hf⟩)
          · refine xj_iload_n (n := 2) (i := 2) 1 rfl rfl dX11_whom_60 ?_
            refine xj_goto (tgt := 69) (by decide) dX11_whom_61 ?_
            exact xj_ireturn rfl (nr_i _) (Nat.zero_le _) (Nat.zero_le _) dX11_whom_69 (qI_e ⟨by unfold vWhom; (try simp only [nI_clamp (show kwhat < 2147483648 by omega)]); rw [if_pos zp5, if_pos zc57]; all_goals (rfl), hf⟩)
        · exact absurd (nI_le (Nat.le_refl _) (by omega)) zc24
      · intro i hi ih g1 hf
        refine xj_iload (i := 4) 0 rfl dX11_whom_18 ?_
        refine xj_aload_n (n := 0) (i := 0) 3 rfl rfl dX11_whom_20 ?_
        refine yj_getf (v := .int (nI (aS A))) fl_X11_80_11 (by omega) (fq_0 g1) (congrArg (fun z => some (Value.int z)) ((C.keep O hf).S O)) dX11_whom_21 ?_
        refine xj_icmp_ge (tgt := 56) (by decide) dX11_whom_24 (fun zc24 => ?_) (fun zc24 => ?_)
        · exact absurd zc24 (nI_ge hi (by omega))
        · refine xj_aload_n (n := 0) (i := 0) 3 rfl rfl dX11_whom_27 ?_
          refine xj_iload (i := 4) 0 rfl dX11_whom_28 ?_
          refine xj_callV kv_X11_188 (c_X11_worthCleaning l (d + 0) n g1 A Λ O (C.keep O hf) i hi) (As := [.int (nI i)]) (st := []) (by omega) (fq_0 g1) (ci := 11) rfl rfl rfl rfl (xRm_of (by omega) (by decide) (by omega) (by omega)) (Nat.le_of_ble_eq_true rfl) dX11_whom_30 (yk_i (kc := 0) (ks := 0) fun zv1 zg2 hzg2 => ?_)
          obtain ⟨hvzv1, hxzg2⟩ := hzg2
          have Czg2 := (C.keep O hf).keep O hxzg2
          refine xj_top (show zv1 = wcP A Λ i from hvzv1) ?_
          obtain ⟨mz, hmz, emz⟩ := wcP_n A Λ i
          refine xj_top (show (wcP A Λ i) = nI mz from emz) ?_
          refine xj_callS ks_X11_167 (c_J6_bitCount_0f7a4 l (d + 6) mz hmz _) (As := [.int (nI mz)]) (st := []) rfl rfl (xRm_of (by omega) (by decide) (by omega) (by omega)) (Nat.le_of_ble_eq_true rfl) dX11_whom_33 (yk_p (kc := 0) (ks := 0) ?_)
          refine xj_topi (fun zv3 ezv3 => ?_)
          refine xj_istore (i := 5) (lv1 := [(5, .int zv3), (4, .int (nI i)), (2, .int ((whF (fun s => onesF (wcP A Λ s)) i).1)), (3, .int ((whF (fun s => onesF (wcP A Λ s)) i).2)), (0, .ref 0), (1, .int (nI kwhat))]) rfl (Nat.le_of_ble_eq_true rfl) dX11_whom_36 ?_
          refine xj_iload (i := 5) 0 rfl dX11_whom_38 ?_
          refine xj_iload_n (n := 3) (i := 3) 3 rfl rfl dX11_whom_40 ?_
          refine xj_icmp_le (tgt := 50) (by decide) dX11_whom_41 (fun zc41 => ?_) (fun zc41 => ?_)
          · have ho : zv3 = onesF (wcP A Λ i) := ezv3.trans (congrArg onesF emz.symm)
            have hc9 : ¬ (whF (fun s => onesF (wcP A Λ s)) i).2 < onesF (wcP A Λ i) := fun y => by rw [← ho] at y; have z1 := (i32_lt _ _).mp y; have z2 := (i32_le _ _).mp zc41; omega
            refine xj_iinc (n := 1) (i := 4) (v := nI (i + 1)) (lv1 := [(4, .int (nI (i + 1))), (5, .int zv3), (2, .int ((whF (fun s => onesF (wcP A Λ s)) i).1)), (3, .int ((whF (fun s => onesF (wcP A Λ s)) i).2)), (0, .ref 0), (1, .int (nI kwhat))]) 1 rfl (nI_1 i) rfl (Nat.le_of_ble_eq_true rfl) dX11_whom_50 ?_
            refine xj_goto (tgt := 18) (by decide) dX11_whom_53 ?_
            refine xj_sub (lv' := [(4, .int (nI (i + 1))), (2, .int ((whF (fun s => onesF (wcP A Λ s)) i).1)), (3, .int ((whF (fun s => onesF (wcP A Λ s)) i).2)), (0, .ref 0), (1, .int (nI kwhat))]) [0, 2, 3, 4, 5] rfl ?_
            have h9 := ih zg2 (hf.tr hxzg2)
            rw [show whF (fun s => onesF (wcP A Λ s)) (i + 1) = _ from if_neg hc9] at h9
            exact h9
          · have ho : zv3 = onesF (wcP A Λ i) := ezv3.trans (congrArg onesF emz.symm)
            have hc9 : (whF (fun s => onesF (wcP A Λ s)) i).2 < onesF (wcP A Λ i) := by rw [← ho]; exact (i32_lt _ _).mpr (Int.lt_of_not_ge (fun y => zc41 ((i32_le _ _).mpr y)))
            refine xj_iload (i := 4) 1 rfl dX11_whom_44 ?_
            refine xj_istore_n (n := 2) (i := 2) (lv1 := [(2, .int (nI i)), (5, .int zv3), (4, .int (nI i)), (3, .int ((whF (fun s => onesF (wcP A Λ s)) i).2)), (0, .ref 0), (1, .int (nI kwhat))]) rfl rfl (Nat.le_of_ble_eq_true rfl) dX11_whom_46 ?_
            refine xj_iload (i := 5) 1 rfl dX11_whom_47 ?_
            refine xj_istore_n (n := 3) (i := 3) (lv1 := [(3, .int zv3), (2, .int (nI i)), (5, .int zv3), (4, .int (nI i)), (0, .ref 0), (1, .int (nI kwhat))]) rfl rfl (Nat.le_of_ble_eq_true rfl) dX11_whom_49 ?_
            refine xj_iinc (n := 1) (i := 4) (v := nI (i + 1)) (lv1 := [(4, .int (nI (i + 1))), (3, .int zv3), (2, .int (nI i)), (5, .int zv3), (0, .ref 0), (1, .int (nI kwhat))]) 3 rfl (nI_1 i) rfl (Nat.le_of_ble_eq_true rfl) dX11_whom_50 ?_
            refine xj_goto (tgt := 18) (by decide) dX11_whom_53 ?_
            refine xj_sub (lv' := [(4, .int (nI (i + 1))), (2, .int (nI i)), (3, .int zv3), (0, .ref 0), (1, .int (nI kwhat))]) [0, 2, 1, 4, 5] rfl ?_
            have h9 := ih zg2 (hf.tr hxzg2)
            rw [show whF (fun s => onesF (wcP A Λ s)) (i + 1) = _ from if_pos hc9] at h9
            rw [ho]
            exact h9
    refine xj_sub (lv' := [(4, .int 0), (2, .int (-1)), (3, .int (-1)), (0, .ref 0), (1, .int (nI kwhat))]) [0, 2, 1, 3, 4] rfl ?_
    exact key 0 (Nat.zero_le _) g fr.rf
  · have zp5 : ¬ (0 ≤ what ∧ what ≤ 1) := bI_0.mp zc5
    refine xj_bipush (v := (-2)) (by decide) dX11_whom_8 ?_
    exact xj_ireturn rfl (nr_i _) (Nat.zero_le _) (Nat.zero_le _) dX11_whom_10 (qI_e ⟨by unfold vWhom; rw [if_neg zp5]; all_goals (rfl), fr.rf⟩)
/-- behind how many nights a cleaning is enough: the rows when it is cleaned each n nights -/
def ofT (L : xL) (k : Nat) (more pic : Int32) (N n : Nat) (d0 : Nat → Int32) : Nat → Nat → Int32
  | 0 => d0
  | i + 1 => nightR L k more pic (if i % n = 0 then fun _ => 0 else ofT L k more pic N n d0 i) (nI (N + i)) 16
def ofB (A : zSt) (Λ : Nat → xL) (s n i : Nat) : Bool := decide (clearS (Λ (aW A)) (aK A s) (A 2 s) (A 3 s) (ofT (Λ (aW A)) (aK A s) (A 2 s) (A 3 s) (aN A) n (A (10 + s)) (i + 1)) (nI (aN A + i + 1)) &&& A 3 s = A 3 s)
/-- all of i.. m more -/
def allF (f : Nat → Bool) : Nat → Nat → Bool
  | 0, _ => true
  | m + 1, i => if f i = true then allF f m (i + 1) else false
def ofE (A : zSt) (Λ : Nat → xL) (s n : Nat) : Bool := allF (ofB A Λ s n) 20 0
/-- the last of m, m-1 .. 1 that is so; -1: none -/
def lastF (f : Nat → Bool) : Nat → Int32
  | 0 => -1
  | m + 1 => if f (m + 1) = true then nI (m + 1) else lastF f m
def vOften (A : zSt) (Λ : Nat → xL) (s : Int32) : Int32 := if isSl A s then lastF (ofE A Λ s.toNatClampNeg) 9 else -5
