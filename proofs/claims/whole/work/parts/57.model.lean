theorem orF_and (f : Nat → Int32) (m : Int32) : ∀ n, orF f n &&& m = orF (fun i => f i &&& m) n
  | 0 => Int32.zero_and
  | n + 1 => by
    show (orF f n ||| f n) &&& m = orF (fun i => f i &&& m) n ||| (f n &&& m)
    rw [← orF_and f m n]
    apply Int32.toBitVec_inj.mp
    show (_ ||| _) &&& _ = (_ &&& _) ||| (_ &&& _)
    have hb : ∀ a b c : Bool, ((a || b) && c) = ((a && c) || (b && c)) := by decide
    refine BitVec.eq_of_getLsbD_eq fun i hi => ?_
    rw [BitVec.getLsbD_and, BitVec.getLsbD_or, BitVec.getLsbD_or, BitVec.getLsbD_and, BitVec.getLsbD_and]
    exact hb _ _ _
set_option maxHeartbeats 4000000 in
set_option maxRecDepth 100000 in
theorem c_X12_run (l : Launch) (d : Nat) (n : Nat) (hn : 110 ≤ n) (g : xG) (A : zSt) (Λ : Nat → xL) (O : okA A) (C : mA g A Λ) (s n1 what : Int32)  : xC l yX12_run cX12_run 6 (some .int) (xR (d + 6) 0 0) [.ref 86, .int s, .int n1, .int what] (n, fh g) (qI n fun v g1 => v = vRun A Λ s n1 what ∧ fm g g1) := by
  refine xC_of false (by decide +kernel) (fun z => by cases z) (Nat.le_of_ble_eq_true rfl) ?_
  have hS6 := O.1.2
  have hW := O.W
  have hT6 := O.2.2.2.1.2.2
  have hN9 := O.2.1.2
  show xJ l (RX12, 6, (some .int), false, (xR (d + 6) 0 0), none) cX12_run _ 0 0 0 [(0, .ref 86), (1, .int s), (2, .int n1), (3, .int what)] [] (n, fh g)
  refine xj_aload_n (n := 0) (i := 0) 0 rfl rfl dX12_run_0 ?_
  refine xj_iload_n (n := 1) (i := 1) 1 rfl rfl dX12_run_1 ?_
  refine xj_callV kv_X12_176 (c_X12_isSleeper l (d + 4) n hn g A Λ O C s) (As := [.int s]) (st := []) (by omega) (fq_86 g) (ci := 12) rfl rfl rfl rfl (xRm_of (by omega) (by decide) (by omega) (by omega)) (Nat.le_of_ble_eq_true rfl) dX12_run_2 (yk_p (kc := 0) (ks := 0) ?_)
  refine xj_if_ne (tgt := 11) (by decide) dX12_run_5 (fun zc5 => ?_) (fun zc5 => ?_)
  · have zp5 : isSl A s := bI_n0.mp zc5
    obtain ⟨ks, hks, rfl⟩ := isSl_of O zp5
    have hs6_ks : ks < 6 := by omega
    refine xj_iload_n (n := 2) (i := 2) 2 rfl rfl dX12_run_11 ?_
    refine xj_iconst (v := 0) (by decide) dX12_run_12 ?_
    refine xj_bipush (v := 40) (by decide) dX12_run_13 ?_
    refine xj_callS ks_X12_93 (c_X12_in l (d + 5) n1 0 40 _) (As := [.int n1, .int 0, .int 40]) (st := []) rfl rfl (xRm_of (by omega) (by decide) (by omega) (by omega)) (Nat.le_of_ble_eq_true rfl) dX12_run_15 (yk_p (kc := 0) (ks := 0) ?_)
    refine xj_if_eq (tgt := 30) (by decide) dX12_run_18 (fun zc18 => ?_) (fun zc18 => ?_)
    · have zp18 : ¬ (0 ≤ n1 ∧ n1 ≤ 40) := bI_0.mp zc18
      refine xj_bipush (v := (-7)) (by decide) dX12_run_30 ?_
      exact xj_ireturn rfl (nr_i _) (Nat.zero_le _) (Nat.zero_le _) dX12_run_32 (qI_e ⟨by unfold vRun; (try simp only [nI_clamp (show ks < 2147483648 by omega)]); rw [if_pos zp5, if_neg zp18]; all_goals (rfl), fm.rf⟩)
    · have zp18 : 0 ≤ n1 ∧ n1 ≤ 40 := bI_n0.mp zc18
      obtain ⟨kn1, hkn1, rfl⟩ := nI_bnd (m := 40) (by decide) zp18.1 zp18.2
      refine xj_iload_n (n := 3) (i := 3) 3 rfl rfl dX12_run_21 ?_
      refine xj_iconst (v := 0) (by decide) dX12_run_22 ?_
      refine xj_iconst (v := 1) (by decide) dX12_run_23 ?_
      refine xj_callS ks_X12_93 (c_X12_in l (d + 5) what 0 1 _) (As := [.int what, .int 0, .int 1]) (st := []) rfl rfl (xRm_of (by omega) (by decide) (by omega) (by omega)) (Nat.le_of_ble_eq_true rfl) dX12_run_24 (yk_p (kc := 0) (ks := 0) ?_)
      refine xj_if_ne (tgt := 33) (by decide) dX12_run_27 (fun zc27 => ?_) (fun zc27 => ?_)
      · have zp27 : 0 ≤ what ∧ what ≤ 1 := bI_n0.mp zc27
        obtain ⟨kwhat, hkwhat, rfl⟩ := nI_bnd (m := 1) (by decide) zp27.1 zp27.2
        refine xj_aload_n (n := 0) (i := 0) 0 rfl rfl dX12_run_33 ?_
        refine xj_iload_n (n := 1) (i := 1) 1 rfl rfl dX12_run_34 ?_
        refine xj_callV kv_X12_225 (c_X12_rowOf l (d + 4) n hn g A Λ O C ks hks) (As := [.int (nI ks)]) (st := []) (by omega) (fq_86 g) (ci := 12) rfl rfl rfl rfl (xRm_of (by omega) (by decide) (by omega) (by omega)) (Nat.le_of_ble_eq_true rfl) dX12_run_35 (yk_v (kc := 0) (ks := 0) fun zg1 hzg1 => ?_)
        obtain ⟨Rzg1, hxzg1⟩ := hzg1
        have Czg1 := C.keep hxzg1
        refine xj_iconst (v := 0) (by decide) dX12_run_38 ?_
        refine xj_istore (i := 4) (lv1 := [(4, .int 0), (0, .ref 86), (1, .int (nI ks)), (2, .int (nI kn1)), (3, .int (nI kwhat))]) rfl (Nat.le_of_ble_eq_true rfl) dX12_run_39 ?_
        have key : ∀ i, i ≤ kn1 → ∀ (g1 : xG), fm g g1 → rwA g1 (rwP A Λ ks i) (aN A + i) → xJ l (RX12, 6, (some .int), false, (xR (d + 6) 0 0), none) cX12_run (qI n fun v g1 => v = vRun A Λ (nI ks) (nI kn1) (nI kwhat) ∧ fm g g1) 0 0 41 [(4, .int (nI i)), (0, .ref 86), (1, .int (nI ks)), (2, .int (nI kn1)), (3, .int (nI kwhat))] [] (n, fh g1) := by
          refine x_loop kn1 _ ?_ ?_
          · intro g1 hf R
            refine xj_iload (i := 4) 0 rfl dX12_run_41 ?_
            refine xj_iload_n (n := 2) (i := 2) 3 rfl rfl dX12_run_43 ?_
            refine xj_icmp_ge (tgt := 58) (by decide) dX12_run_44 (fun zc44 => ?_) (fun zc44 => ?_)
            · refine xj_iconst (v := 0) (by decide) dX12_run_58 ?_
              refine xj_istore (i := 4) (lv1 := [(4, .int 0), (0, .ref 86), (1, .int (nI ks)), (2, .int (nI kn1)), (3, .int (nI kwhat))]) rfl (Nat.le_of_ble_eq_true rfl) dX12_run_59 ?_
              refine xj_iconst (v := 0) (by decide) dX12_run_61 ?_
              refine xj_istore (i := 5) (lv1 := [(5, .int 0), (4, .int 0), (0, .ref 86), (1, .int (nI ks)), (2, .int (nI kn1)), (3, .int (nI kwhat))]) rfl (Nat.le_of_ble_eq_true rfl) dX12_run_62 ?_
              have key2 : ∀ i, i ≤ 16 → ∀ (_ : True), xJ l (RX12, 6, (some .int), false, (xR (d + 6) 0 0), none) cX12_run (qI n fun v g1 => v = vRun A Λ (nI ks) (nI kn1) (nI kwhat) ∧ fm g g1) 0 0 64 [(5, .int (nI i)), (4, .int (sumF (rwP A Λ ks kn1) i)), (0, .ref 86), (1, .int (nI ks)), (2, .int (nI kn1)), (3, .int (nI kwhat))] [] (n, fh g1) := by
                refine x_loop 16 _ ?_ ?_
                · intro _
                  refine xj_iload (i := 5) 0 rfl dX12_run_64 ?_
                  refine xj_bipush (v := 16) (by decide) dX12_run_66 ?_
                  refine xj_icmp_ge (tgt := 89) (by decide) dX12_run_68 (fun zc68 => ?_) (fun zc68 => ?_)
                  · refine xj_iload_n (n := 3) (i := 3) 5 rfl rfl dX12_run_89 ?_
                    refine xj_if_ne (tgt := 108) (by decide) dX12_run_90 (fun zc90 => ?_) (fun zc90 => ?_)
                    · refine xj_iload (i := 4) 1 rfl dX12_run_108 ?_
                      exact xj_ireturn rfl (nr_i _) (Nat.zero_le _) (Nat.zero_le _) dX12_run_110 (qI_e ⟨by unfold vRun; (try simp only [nI_clamp (show ks < 2147483648 by omega), nI_clamp (show kn1 < 2147483648 by omega), nI_clamp (show kwhat < 2147483648 by omega)]); rw [if_pos zp5, if_pos zp18, if_pos zp27, if_neg zc90]; all_goals (rfl), hf⟩)
                    · refine xj_aload_n (n := 0) (i := 0) 2 rfl rfl dX12_run_93 ?_
                      refine xj_iload_n (n := 1) (i := 1) 3 rfl rfl dX12_run_94 ?_
                      refine xj_callV kv_X12_231 (c_X12_rowClear l (d + 1) n hn g1 A Λ O (C.keep hf) ks hks (rwP A Λ ks kn1) (aN A + kn1) R) (As := [.int (nI ks)]) (st := []) (by omega) (fq_86 g1) (ci := 12) rfl rfl rfl rfl (xRm_of (by omega) (by decide) (by omega) (by omega)) (Nat.le_of_ble_eq_true rfl) dX12_run_95 (yk_i (kc := 0) (ks := 0) fun zv2 zg3 hzg3 => ?_)
                      obtain ⟨hvzv2, hfnzg3⟩ := hzg3
                      have hxzg3 := fm.of hfnzg3 sN_m
                      have Rzg3 := R.keep hfnzg3
                      have Czg3 := (C.keep hf).keep hxzg3
                      refine xj_aload_n (n := 0) (i := 0) 2 rfl rfl dX12_run_98 ?_
                      refine yj_getf (v := .ref 90) fl_X12_19_12 (by omega) (fq_86 zg3) rfl dX12_run_99 ?_
                      refine xj_iload_n (n := 1) (i := 1) 3 rfl rfl dX12_run_102 ?_
                      refine yj_ialdN ks (by omega) fA_90 rfl (by omega) (by decide) dX12_run_103 ?_
                      refine xj_top (Czg3.pi hks) ?_
                      refine xj_iand dX12_run_104 ?_
                      refine xj_goto (tgt := 110) (by decide) dX12_run_105 ?_
                      exact xj_ireturn rfl (nr_i _) (Nat.zero_le _) (Nat.zero_le _) dX12_run_110 (qI_e ⟨by unfold vRun; (try simp only [nI_clamp (show ks < 2147483648 by omega), nI_clamp (show kn1 < 2147483648 by omega), nI_clamp (show kwhat < 2147483648 by omega)]); rw [if_pos zp5, if_pos zp18, if_pos zp27, if_pos zc90]; all_goals (rw [hvzv2]; rfl), (hf.tr hxzg3)⟩)
                  · exact absurd (nI_le (Nat.le_refl _) (by decide)) zc68
                · intro i hi ih _
                  refine xj_iload (i := 5) 0 rfl dX12_run_64 ?_
                  refine xj_bipush (v := 16) (by decide) dX12_run_66 ?_
                  refine xj_icmp_ge (tgt := 89) (by decide) dX12_run_68 (fun zc68 => ?_) (fun zc68 => ?_)
                  · exact absurd zc68 (nI_ge hi (by decide))
                  · refine xj_iload (i := 4) 1 rfl dX12_run_71 ?_
                    refine xj_aload_n (n := 0) (i := 0) 2 rfl rfl dX12_run_73 ?_
                    refine yj_getf (v := .ref 105) fl_X12_68_12 (by omega) (fq_86 g1) rfl dX12_run_74 ?_
                    refine xj_iload (i := 5) 0 rfl dX12_run_77 ?_
                    refine yj_ialdN i (by omega) fA_105 rfl (by omega) (by decide) dX12_run_79 ?_
                    refine xj_top (R.1 i (by omega)).1 ?_
                    refine xj_iadd dX12_run_80 ?_
                    refine xj_topi (fun zv4 ezv4 => ?_)
                    refine xj_istore (i := 4) (lv1 := [(4, .int zv4), (5, .int (nI i)), (0, .ref 86), (1, .int (nI ks)), (2, .int (nI kn1)), (3, .int (nI kwhat))]) rfl (Nat.le_of_ble_eq_true rfl) dX12_run_81 ?_
                    refine xj_iinc (n := 1) (i := 5) (v := nI (i + 1)) (lv1 := [(5, .int (nI (i + 1))), (4, .int zv4), (0, .ref 86), (1, .int (nI ks)), (2, .int (nI kn1)), (3, .int (nI kwhat))]) 1 rfl (nI_1 i) rfl (Nat.le_of_ble_eq_true rfl) dX12_run_83 ?_
                    refine xj_goto (tgt := 64) (by decide) dX12_run_86 ?_
                    refine xj_sub (lv' := [(5, .int (nI (i + 1))), (4, .int zv4), (0, .ref 86), (1, .int (nI ks)), (2, .int (nI kn1)), (3, .int (nI kwhat))]) [0, 1, 2, 3, 4, 5] rfl ?_
                    have h9 := ih True.intro
                    rw [show sumF (rwP A Λ ks kn1) (i + 1) = zv4 from ezv4.symm] at h9
                    exact h9
              refine xj_sub (lv' := [(5, .int 0), (4, .int 0), (0, .ref 86), (1, .int (nI ks)), (2, .int (nI kn1)), (3, .int (nI kwhat))]) [0, 1, 2, 3, 4, 5] rfl ?_
              exact key2 0 (Nat.zero_le _) True.intro
            · exact absurd (nI_le (Nat.le_refl _) (by omega)) zc44
          · intro i hi ih g1 hf R
            refine xj_iload (i := 4) 0 rfl dX12_run_41 ?_
            refine xj_iload_n (n := 2) (i := 2) 3 rfl rfl dX12_run_43 ?_
            refine xj_icmp_ge (tgt := 58) (by decide) dX12_run_44 (fun zc44 => ?_) (fun zc44 => ?_)
            · exact absurd zc44 (nI_ge hi (by omega))
            · refine xj_aload_n (n := 0) (i := 0) 1 rfl rfl dX12_run_47 ?_
              refine xj_iload_n (n := 1) (i := 1) 2 rfl rfl dX12_run_48 ?_
              refine xj_callV kv_X12_228 (c_X12_rowNight l (d + 1) n hn g1 A Λ O (C.keep hf) ks hks (rwP A Λ ks i) (aN A + i) R) (As := [.int (nI ks)]) (st := []) (by omega) (fq_86 g1) (ci := 12) rfl rfl rfl rfl (xRm_of (by omega) (by decide) (by omega) (by omega)) (Nat.le_of_ble_eq_true rfl) dX12_run_49 (yk_v (kc := 0) (ks := 0) fun zg5 hzg5 => ?_)
              obtain ⟨Rzg5, hxzg5⟩ := hzg5
              have Czg5 := (C.keep hf).keep hxzg5
              refine xj_iinc (n := 1) (i := 4) (v := nI (i + 1)) (lv1 := [(4, .int (nI (i + 1))), (0, .ref 86), (1, .int (nI ks)), (2, .int (nI kn1)), (3, .int (nI kwhat))]) 0 rfl (nI_1 i) rfl (Nat.le_of_ble_eq_true rfl) dX12_run_52 ?_
              refine xj_goto (tgt := 41) (by decide) dX12_run_55 ?_
              refine xj_sub (lv' := [(4, .int (nI (i + 1))), (0, .ref 86), (1, .int (nI ks)), (2, .int (nI kn1)), (3, .int (nI kwhat))]) [0, 1, 2, 3, 4] rfl ?_
              exact ih zg5 (hf.tr hxzg5) Rzg5
        refine xj_sub (lv' := [(4, .int 0), (0, .ref 86), (1, .int (nI ks)), (2, .int (nI kn1)), (3, .int (nI kwhat))]) [0, 1, 2, 3, 4] rfl ?_
        exact key 0 (Nat.zero_le _) zg1 hxzg1 Rzg1
      · have zp27 : ¬ (0 ≤ what ∧ what ≤ 1) := bI_0.mp zc27
        refine xj_bipush (v := (-7)) (by decide) dX12_run_30 ?_
        exact xj_ireturn rfl (nr_i _) (Nat.zero_le _) (Nat.zero_le _) dX12_run_32 (qI_e ⟨by unfold vRun; (try simp only [nI_clamp (show ks < 2147483648 by omega), nI_clamp (show kn1 < 2147483648 by omega)]); rw [if_pos zp5, if_pos zp18, if_neg zp27]; all_goals (rfl), fm.rf⟩)
  · have zp5 : ¬ (isSl A s) := bI_0.mp zc5
    refine xj_bipush (v := (-5)) (by decide) dX12_run_8 ?_
    exact xj_ireturn rfl (nr_i _) (Nat.zero_le _) (Nat.zero_le _) dX12_run_10 (qI_e ⟨by unfold vRun; rw [if_neg zp5]; all_goals (rfl), fm.rf⟩)
set_option maxHeartbeats 4000000 in
set_option maxRecDepth 100000 in
theorem c_X12_blind (l : Launch) (d : Nat) (n : Nat) (hn : 110 ≤ n) (g : xG) (A : zSt) (Λ : Nat → xL) (O : okA A) (C : mA g A Λ) (s : Int32)  : xC l yX12_blind cX12_blind 3 (some .int) (xR (d + 6) 0 0) [.ref 86, .int s] (n, fh g) (qI n fun v g1 => v = vBlind A Λ s ∧ fm g g1) := by
  refine xC_of false (by decide +kernel) (fun z => by cases z) (Nat.le_of_ble_eq_true rfl) ?_
  have hS6 := O.1.2
  have hW := O.W
  have hT6 := O.2.2.2.1.2.2
  have hN9 := O.2.1.2
  show xJ l (RX12, 3, (some .int), false, (xR (d + 6) 0 0), none) cX12_blind _ 0 0 0 [(0, .ref 86), (1, .int s)] [] (n, fh g)
  refine xj_aload_n (n := 0) (i := 0) 0 rfl rfl dX12_blind_0 ?_
  refine xj_iload_n (n := 1) (i := 1) 1 rfl rfl dX12_blind_1 ?_
  refine xj_callV kv_X12_176 (c_X12_isSleeper l (d + 4) n hn g A Λ O C s) (As := [.int s]) (st := []) (by omega) (fq_86 g) (ci := 12) rfl rfl rfl rfl (xRm_of (by omega) (by decide) (by omega) (by omega)) (Nat.le_of_ble_eq_true rfl) dX12_blind_2 (yk_p (kc := 0) (ks := 0) ?_)
  refine xj_if_ne (tgt := 11) (by decide) dX12_blind_5 (fun zc5 => ?_) (fun zc5 => ?_)
  · have zp5 : isSl A s := bI_n0.mp zc5
    obtain ⟨ks, hks, rfl⟩ := isSl_of O zp5
    have hs6_ks : ks < 6 := by omega
    refine xj_aload_n (n := 0) (i := 0) 0 rfl rfl dX12_blind_11 ?_
    refine xj_iload_n (n := 1) (i := 1) 1 rfl rfl dX12_blind_12 ?_
    refine xj_callV kv_X12_225 (c_X12_rowOf l (d + 4) n hn g A Λ O C ks hks) (As := [.int (nI ks)]) (st := []) (by omega) (fq_86 g) (ci := 12) rfl rfl rfl rfl (xRm_of (by omega) (by decide) (by omega) (by omega)) (Nat.le_of_ble_eq_true rfl) dX12_blind_13 (yk_v (kc := 0) (ks := 0) fun zg1 hzg1 => ?_)
    obtain ⟨Rzg1, hxzg1⟩ := hzg1
    have Czg1 := C.keep hxzg1
    refine xj_iconst (v := 0) (by decide) dX12_blind_16 ?_
    refine xj_istore_n (n := 2) (i := 2) (lv1 := [(2, .int 0), (0, .ref 86), (1, .int (nI ks))]) rfl rfl (Nat.le_of_ble_eq_true rfl) dX12_blind_17 ?_
    have key : ∀ i, i ≤ 41 → ∀ (g1 : xG), fm g g1 → rwA g1 (rwP A Λ ks i) (aN A + i) → vBlind A Λ (nI ks) = firstF (fun i => decide (rsP A Λ ks i = 0)) (41 - i) i → xJ l (RX12, 3, (some .int), false, (xR (d + 6) 0 0), none) cX12_blind (qI n fun v g1 => v = vBlind A Λ (nI ks) ∧ fm g g1) 0 0 18 [(2, .int (nI i)), (0, .ref 86), (1, .int (nI ks))] [] (n, fh g1) := by
      refine x_loop 41 _ ?_ ?_
      · intro g1 hf R hz
        refine xj_iload_n (n := 2) (i := 2) 0 rfl rfl dX12_blind_18 ?_
        refine xj_bipush (v := 40) (by decide) dX12_blind_19 ?_
        refine xj_icmp_gt (tgt := 52) (by decide) dX12_blind_21 (fun zc21 => ?_) (fun zc21 => ?_)
        · refine xj_iconst (v := (-1)) (by decide) dX12_blind_52 ?_
          exact xj_ireturn rfl (nr_i _) (Nat.zero_le _) (Nat.zero_le _) dX12_blind_53 (qI_e ⟨by rw [hz]; rfl, hf⟩)
        · exact absurd (nI_lt (a := 40) (b := 41) (Nat.lt_succ_self _) (by decide)) zc21
      · intro i hi ih g1 hf R hz
        have hstep : firstF (fun i => decide (rsP A Λ ks i = 0)) (41 - i) i = if decide (rsP A Λ ks i = 0) = true then nI i else firstF (fun i => decide (rsP A Λ ks i = 0)) (41 - (i + 1)) (i + 1) := by rw [show 41 - i = 41 - (i + 1) + 1 by omega]; rfl
        refine xj_iload_n (n := 2) (i := 2) 0 rfl rfl dX12_blind_18 ?_
        refine xj_bipush (v := 40) (by decide) dX12_blind_19 ?_
        refine xj_icmp_gt (tgt := 52) (by decide) dX12_blind_21 (fun zc21 => ?_) (fun zc21 => ?_)
        · exact absurd zc21 (nI_nlt (b := i) (a := 40) (Nat.le_of_lt_succ hi) (by decide))
        · refine xj_aload_n (n := 0) (i := 0) 1 rfl rfl dX12_blind_24 ?_
          refine xj_iload_n (n := 1) (i := 1) 2 rfl rfl dX12_blind_25 ?_
          refine xj_callV kv_X12_231 (c_X12_rowClear l (d + 1) n hn g1 A Λ O (C.keep hf) ks hks (rwP A Λ ks i) (aN A + i) R) (As := [.int (nI ks)]) (st := []) (by omega) (fq_86 g1) (ci := 12) rfl rfl rfl rfl (xRm_of (by omega) (by decide) (by omega) (by omega)) (Nat.le_of_ble_eq_true rfl) dX12_blind_26 (yk_i (kc := 0) (ks := 0) fun zv2 zg3 hzg3 => ?_)
          obtain ⟨hvzv2, hfnzg3⟩ := hzg3
          have hxzg3 := fm.of hfnzg3 sN_m
          have Rzg3 := R.keep hfnzg3
          have Czg3 := (C.keep hf).keep hxzg3
          refine xj_aload_n (n := 0) (i := 0) 1 rfl rfl dX12_blind_29 ?_
          refine yj_getf (v := .ref 90) fl_X12_19_12 (by omega) (fq_86 zg3) rfl dX12_blind_30 ?_
          refine xj_iload_n (n := 1) (i := 1) 2 rfl rfl dX12_blind_33 ?_
          refine yj_ialdN ks (by omega) fA_90 rfl (by omega) (by decide) dX12_blind_34 ?_
          refine xj_top (Czg3.pi hks) ?_
          refine xj_iand dX12_blind_35 ?_
          refine xj_if_ne (tgt := 41) (by decide) dX12_blind_36 (fun zc36 => ?_) (fun zc36 => ?_)
          · have hrs : zv2 &&& A 3 ks = rsP A Λ ks i := by rw [hvzv2]; rfl
            refine xj_aload_n (n := 0) (i := 0) 1 rfl rfl dX12_blind_41 ?_
            refine xj_iload_n (n := 1) (i := 1) 2 rfl rfl dX12_blind_42 ?_
            refine xj_callV kv_X12_228 (c_X12_rowNight l (d + 1) n hn zg3 A Λ O Czg3 ks hks (rwP A Λ ks i) (aN A + i) Rzg3) (As := [.int (nI ks)]) (st := []) (by omega) (fq_86 zg3) (ci := 12) rfl rfl rfl rfl (xRm_of (by omega) (by decide) (by omega) (by omega)) (Nat.le_of_ble_eq_true rfl) dX12_blind_43 (yk_v (kc := 0) (ks := 0) fun zg4 hzg4 => ?_)
            obtain ⟨Rzg4, hxzg4⟩ := hzg4
            have Czg4 := Czg3.keep hxzg4
            refine xj_iinc (n := 1) (i := 2) (v := nI (i + 1)) (lv1 := [(2, .int (nI (i + 1))), (0, .ref 86), (1, .int (nI ks))]) 0 rfl (nI_1 i) rfl (Nat.le_of_ble_eq_true rfl) dX12_blind_46 ?_
            refine xj_goto (tgt := 18) (by decide) dX12_blind_49 ?_
            refine xj_sub (lv' := [(2, .int (nI (i + 1))), (0, .ref 86), (1, .int (nI ks))]) [0, 1, 2] rfl ?_
            exact ih zg4 ((hf.tr hxzg3).tr hxzg4) Rzg4 (by rw [hz, hstep, if_neg (fun z => zc36 (hrs.trans (of_decide_eq_true (p := rsP A Λ ks i = 0) z)))])
          · have hrs : zv2 &&& A 3 ks = rsP A Λ ks i := by rw [hvzv2]; rfl
            refine xj_iload_n (n := 2) (i := 2) 0 rfl rfl dX12_blind_39 ?_
            exact xj_ireturn rfl (nr_i _) (Nat.zero_le _) (Nat.zero_le _) dX12_blind_40 (qI_e ⟨by rw [hz, hstep, if_pos (decide_eq_true (p := rsP A Λ ks i = 0) (hrs.symm.trans zc36))], (hf.tr hxzg3)⟩)
    refine xj_sub (lv' := [(2, .int 0), (0, .ref 86), (1, .int (nI ks))]) [0, 1, 2] rfl ?_
    exact key 0 (Nat.zero_le _) zg1 hxzg1 Rzg1 (by unfold vBlind; rw [if_pos zp5, nI_clamp (by omega)])
  · have zp5 : ¬ (isSl A s) := bI_0.mp zc5
    refine xj_bipush (v := (-5)) (by decide) dX12_blind_8 ?_
    exact xj_ireturn rfl (nr_i _) (Nat.zero_le _) (Nat.zero_le _) dX12_blind_10 (qI_e ⟨by unfold vBlind; rw [if_neg zp5]; all_goals (rfl), fm.rf⟩)
set_option maxHeartbeats 4000000 in
set_option maxRecDepth 100000 in
theorem c_X12_toldWrong (l : Launch) (d : Nat) (n : Nat) (hn : 110 ≤ n) (g : xG) (A : zSt) (Λ : Nat → xL) (O : okA A) (C : mA g A Λ) (q s : Int32)  : xC l yX12_toldWrong cX12_toldWrong 3 (some .int) (xR (d + 2) 0 0) [.ref 86, .int q, .int s] (n, fh g) (qP (refF A q s) (n, fh g)) := by
  refine xC_of false (by decide +kernel) (fun z => by cases z) (Nat.le_of_ble_eq_true rfl) ?_
  have hS6 := O.1.2
  have hW := O.W
  have hT6 := O.2.2.2.1.2.2
  have hN9 := O.2.1.2
  show xJ l (RX12, 3, (some .int), false, (xR (d + 2) 0 0), none) cX12_toldWrong _ 0 0 0 [(0, .ref 86), (1, .int q), (2, .int s)] [] (n, fh g)
  refine xj_iload_n (n := 1) (i := 1) 1 rfl rfl dX12_toldWrong_0 ?_
  refine xj_iconst (v := 0) (by decide) dX12_toldWrong_1 ?_
  refine xj_iconst (v := 3) (by decide) dX12_toldWrong_2 ?_
  refine xj_callS ks_X12_93 (c_X12_in l (d + 1) q 0 3 _) (As := [.int q, .int 0, .int 3]) (st := []) rfl rfl (xRm_of (by omega) (by decide) (by omega) (by omega)) (Nat.le_of_ble_eq_true rfl) dX12_toldWrong_3 (yk_p (kc := 0) (ks := 0) ?_)
  refine xj_if_ne (tgt := 12) (by decide) dX12_toldWrong_6 (fun zc6 => ?_) (fun zc6 => ?_)
  · have zp6 : 0 ≤ q ∧ q ≤ 3 := bI_n0.mp zc6
    obtain ⟨kq, hkq, rfl⟩ := nI_bnd (m := 3) (by decide) zp6.1 zp6.2
    have hk4_kq : kq < 4 := by omega
    refine xj_aload_n (n := 0) (i := 0) 0 rfl rfl dX12_toldWrong_12 ?_
    refine yj_getf (v := .ref 97) fl_X12_44_12 (by omega) (fq_86 g) rfl dX12_toldWrong_13 ?_
    refine xj_iload_n (n := 1) (i := 1) 1 rfl rfl dX12_toldWrong_16 ?_
    refine yj_ialdN kq (by omega) fA_97 rfl (by omega) (by decide) dX12_toldWrong_17 ?_
    refine xj_top (C.qs hk4_kq) ?_
    refine xj_iconst (v := (-1)) (by decide) dX12_toldWrong_18 ?_
    refine xj_icmp_ne (tgt := 25) (by decide) dX12_toldWrong_19 (fun zc19 => ?_) (fun zc19 => ?_)
    · refine xj_aload_n (n := 0) (i := 0) 0 rfl rfl dX12_toldWrong_25 ?_
      refine yj_getf (v := .ref 98) fl_X12_47_12 (by omega) (fq_86 g) rfl dX12_toldWrong_26 ?_
      refine xj_iload_n (n := 1) (i := 1) 1 rfl rfl dX12_toldWrong_29 ?_
      refine yj_ialdN kq (by omega) fA_98 rfl (by omega) (by decide) dX12_toldWrong_30 ?_
      refine xj_top (C.qz O hk4_kq) ?_
      refine xj_bipush (v := 20) (by decide) dX12_toldWrong_31 ?_
      refine xj_icmp_le (tgt := 41) (by decide) dX12_toldWrong_33 (fun zc33 => ?_) (fun zc33 => ?_)
      · have h20 : nI (aQ A kq) ≤ 20 := zc33
        refine xj_aload_n (n := 0) (i := 0) 0 rfl rfl dX12_toldWrong_41 ?_
        refine xj_iload_n (n := 2) (i := 2) 2 rfl rfl dX12_toldWrong_42 ?_
        refine xj_callV kv_X12_176 (c_X12_isSleeper l (d + 0) n hn g A Λ O C s) (As := [.int s]) (st := []) (by omega) (fq_86 g) (ci := 12) rfl rfl rfl rfl (xRm_of (by omega) (by decide) (by omega) (by omega)) (Nat.le_of_ble_eq_true rfl) dX12_toldWrong_43 (yk_p (kc := 0) (ks := 0) ?_)
        refine xj_if_eq (tgt := 53) (by decide) dX12_toldWrong_46 (fun zc46 => ?_) (fun zc46 => ?_)
        · have zp46 : ¬ (isSl A s) := bI_0.mp zc46
          refine xj_bipush (v := (-5)) (by decide) dX12_toldWrong_53 ?_
          exact xj_ireturn rfl (nr_i _) (Nat.zero_le _) (Nat.zero_le _) dX12_toldWrong_55 (qP_e ((by unfold refF; (try simp only [nI_clamp (show kq < 2147483648 by omega)]); rw [if_pos zp6, if_neg zc19, if_pos h20, if_neg zp46]; all_goals (rfl) : refF A (nI kq) s = _)).symm)
        · have zp46 : isSl A s := bI_n0.mp zc46
          refine xj_iconst (v := 0) (by decide) dX12_toldWrong_49 ?_
          refine xj_goto (tgt := 55) (by decide) dX12_toldWrong_50 ?_
          exact xj_ireturn rfl (nr_i _) (Nat.zero_le _) (Nat.zero_le _) dX12_toldWrong_55 (qP_e ((by unfold refF; (try simp only [nI_clamp (show kq < 2147483648 by omega)]); rw [if_pos zp6, if_neg zc19, if_pos h20, if_pos zp46]; all_goals (rfl) : refF A (nI kq) s = _)).symm)
      · have h20 : ¬ nI (aQ A kq) ≤ 20 := zc33
        refine xj_bipush (v := (-2)) (by decide) dX12_toldWrong_36 ?_
        refine xj_goto (tgt := 55) (by decide) dX12_toldWrong_38 ?_
        exact xj_ireturn rfl (nr_i _) (Nat.zero_le _) (Nat.zero_le _) dX12_toldWrong_55 (qP_e ((by unfold refF; (try simp only [nI_clamp (show kq < 2147483648 by omega)]); rw [if_pos zp6, if_neg zc19, if_neg h20]; all_goals (rfl) : refF A (nI kq) s = _)).symm)
    · refine xj_bipush (v := (-11)) (by decide) dX12_toldWrong_22 ?_
      exact xj_ireturn rfl (nr_i _) (Nat.zero_le _) (Nat.zero_le _) dX12_toldWrong_24 (qP_e ((by unfold refF; (try simp only [nI_clamp (show kq < 2147483648 by omega)]); rw [if_pos zp6, if_pos zc19]; all_goals (rfl) : refF A (nI kq) s = _)).symm)
  · have zp6 : ¬ (0 ≤ q ∧ q ≤ 3) := bI_0.mp zc6
    refine xj_bipush (v := (-2)) (by decide) dX12_toldWrong_9 ?_
    exact xj_ireturn rfl (nr_i _) (Nat.zero_le _) (Nat.zero_le _) dX12_toldWrong_11 (qP_e ((by unfold refF; rw [if_neg zp6]; all_goals (rfl) : refF A q s = _)).symm)
set_option maxHeartbeats 4000000 in
set_option maxRecDepth 100000 in
theorem c_X12_unlike (l : Launch) (d : Nat) (n : Nat) (hn : 110 ≤ n) (g : xG) (A : zSt) (Λ : Nat → xL) (O : okA A) (C : mA g A Λ) (q s : Nat) (hq : q < 4) (hs : s < aS A)  : xC l yX12_unlike cX12_unlike 4 (some .int) (xR (d + 6) 0 0) [.ref 86, .int (nI q), .int (nI s)] (n, fh g) (qI n fun v g1 => v = foF A Λ q s (aK A s) (A 2 s) (aW A) ∧ fm g g1) := by
  refine xC_of false (by decide +kernel) (fun z => by cases z) (Nat.le_of_ble_eq_true rfl) ?_
  have hS6 := O.1.2
  have hW := O.W
  have hT6 := O.2.2.2.1.2.2
  have hN9 := O.2.1.2
  have hs6_s : s < 6 := by omega
  have hz40 := (O.2.2.2.2.2.2.2.2 q hq).2.2
  show xJ l (RX12, 4, (some .int), false, (xR (d + 6) 0 0), none) cX12_unlike _ 0 0 0 [(0, .ref 86), (1, .int (nI q)), (2, .int (nI s))] [] (n, fh g)
  refine xj_aload_n (n := 0) (i := 0) 0 rfl rfl dX12_unlike_0 ?_
  refine xj_iload_n (n := 2) (i := 2) 2 rfl rfl dX12_unlike_1 ?_
  refine xj_callV kv_X12_225 (c_X12_rowOf l (d + 4) n hn g A Λ O C s hs) (As := [.int (nI s)]) (st := []) (by omega) (fq_86 g) (ci := 12) rfl rfl rfl rfl (xRm_of (by omega) (by decide) (by omega) (by omega)) (Nat.le_of_ble_eq_true rfl) dX12_unlike_2 (yk_v (kc := 0) (ks := 0) fun zg1 hzg1 => ?_)
  obtain ⟨Rzg1, hxzg1⟩ := hzg1
  have Czg1 := C.keep hxzg1
  refine xj_iconst (v := 0) (by decide) dX12_unlike_5 ?_
  refine xj_istore_n (n := 3) (i := 3) (lv1 := [(3, .int 0), (0, .ref 86), (1, .int (nI q)), (2, .int (nI s))]) rfl rfl (Nat.le_of_ble_eq_true rfl) dX12_unlike_6 ?_
  have key : ∀ i, i ≤ aQ A q → ∀ (g1 : xG), fm g g1 → rwA g1 (rwP A Λ s i) (aN A + i) → (foF A Λ q s (aK A s) (A 2 s) (aW A)) = firstF (fun i => decide (¬ rsP A Λ s i = A (40 + q) i)) (aQ A q - i) i → xJ l (RX12, 4, (some .int), false, (xR (d + 6) 0 0), none) cX12_unlike (qI n fun v g1 => v = foF A Λ q s (aK A s) (A 2 s) (aW A) ∧ fm g g1) 0 0 7 [(3, .int (nI i)), (0, .ref 86), (1, .int (nI q)), (2, .int (nI s))] [] (n, fh g1) := by
    refine x_loop (aQ A q) _ ?_ ?_
    · intro g1 hf R hz
      refine xj_iload_n (n := 3) (i := 3) 0 rfl rfl dX12_unlike_7 ?_
      refine xj_aload_n (n := 0) (i := 0) 1 rfl rfl dX12_unlike_8 ?_
      refine yj_getf (v := .ref 98) fl_X12_47_12 (by omega) (fq_86 g1) rfl dX12_unlike_9 ?_
      refine xj_iload_n (n := 1) (i := 1) 2 rfl rfl dX12_unlike_12 ?_
      refine yj_ialdN q (by omega) fA_98 rfl (by omega) (by decide) dX12_unlike_13 ?_
      refine xj_top ((C.keep hf).qz O hq) ?_
      refine xj_icmp_ge (tgt := 56) (by decide) dX12_unlike_14 (fun zc14 => ?_) (fun zc14 => ?_)
      · refine xj_iconst (v := (-1)) (by decide) dX12_unlike_56 ?_
        exact xj_ireturn rfl (nr_i _) (Nat.zero_le _) (Nat.zero_le _) dX12_unlike_57 (qI_e ⟨by rw [hz, Nat.sub_self]; rfl, hf⟩)
      · exact absurd (nI_le (Nat.le_refl _) (by omega)) zc14
    · intro i hi ih g1 hf R hz
      have hstep : firstF (fun i => decide (¬ rsP A Λ s i = A (40 + q) i)) (aQ A q - i) i = if decide (¬ rsP A Λ s i = A (40 + q) i) = true then nI i else firstF (fun i => decide (¬ rsP A Λ s i = A (40 + q) i)) (aQ A q - (i + 1)) (i + 1) := by rw [show aQ A q - i = aQ A q - (i + 1) + 1 by omega]; rfl
      refine xj_iload_n (n := 3) (i := 3) 0 rfl rfl dX12_unlike_7 ?_
      refine xj_aload_n (n := 0) (i := 0) 1 rfl rfl dX12_unlike_8 ?_
      refine yj_getf (v := .ref 98) fl_X12_47_12 (by omega) (fq_86 g1) rfl dX12_unlike_9 ?_
      refine xj_iload_n (n := 1) (i := 1) 2 rfl rfl dX12_unlike_12 ?_
      refine yj_ialdN q (by omega) fA_98 rfl (by omega) (by decide) dX12_unlike_13 ?_
      refine xj_top ((C.keep hf).qz O hq) ?_
      refine xj_icmp_ge (tgt := 56) (by decide) dX12_unlike_14 (fun zc14 => ?_) (fun zc14 => ?_)
      · exact absurd zc14 (nI_ge hi (by omega))
      · refine xj_aload_n (n := 0) (i := 0) 1 rfl rfl dX12_unlike_17 ?_
        refine yj_getf (v := .ref 99) fl_X12_50_12 (by omega) (fq_86 g1) rfl dX12_unlike_18 ?_
        refine xj_bipush (v := 40) (by decide) dX12_unlike_21 ?_
        refine xj_iload_n (n := 1) (i := 1) 2 rfl rfl dX12_unlike_23 ?_
        refine xj_imul dX12_unlike_24 ?_
        refine xj_top (pk_mul 40 q) ?_
        refine xj_iload_n (n := 3) (i := 3) 0 rfl rfl dX12_unlike_25 ?_
        refine xj_iadd dX12_unlike_26 ?_
        refine xj_top (nI_add _ _) ?_
        refine yj_ialdN ((40 * q) + i) (by omega) fA_99 rfl (by omega) (by decide) dX12_unlike_27 ?_
        refine xj_top ((C.keep hf).qn hq (by omega)) ?_
        refine xj_aload_n (n := 0) (i := 0) 1 rfl rfl dX12_unlike_28 ?_
        refine xj_iload_n (n := 2) (i := 2) 3 rfl rfl dX12_unlike_29 ?_
        refine xj_callV kv_X12_231 (c_X12_rowClear l (d + 1) n hn g1 A Λ O (C.keep hf) s hs (rwP A Λ s i) (aN A + i) R) (As := [.int (nI s)]) (st := [.int (A (40 + q) i)]) (by omega) (fq_86 g1) (ci := 12) rfl rfl rfl rfl (xRm_of (by omega) (by decide) (by omega) (by omega)) (Nat.le_of_ble_eq_true rfl) dX12_unlike_30 (yk_i (kc := 0) (ks := 0) fun zv2 zg3 hzg3 => ?_)
        obtain ⟨hvzv2, hfnzg3⟩ := hzg3
        have hxzg3 := fm.of hfnzg3 sN_m
        have Rzg3 := R.keep hfnzg3
        have Czg3 := (C.keep hf).keep hxzg3
        refine xj_aload_n (n := 0) (i := 0) 1 rfl rfl dX12_unlike_33 ?_
        refine yj_getf (v := .ref 90) fl_X12_19_12 (by omega) (fq_86 zg3) rfl dX12_unlike_34 ?_
        refine xj_iload_n (n := 2) (i := 2) 3 rfl rfl dX12_unlike_37 ?_
        refine yj_ialdN s (by omega) fA_90 rfl (by omega) (by decide) dX12_unlike_38 ?_
        refine xj_top (Czg3.pi hs) ?_
        refine xj_iand dX12_unlike_39 ?_
        refine xj_icmp_eq (tgt := 45) (by decide) dX12_unlike_40 (fun zc40 => ?_) (fun zc40 => ?_)
        · have hrs : zv2 &&& A 3 s = rsP A Λ s i := by rw [hvzv2]; rfl
          refine xj_aload_n (n := 0) (i := 0) 1 rfl rfl dX12_unlike_45 ?_
          refine xj_iload_n (n := 2) (i := 2) 3 rfl rfl dX12_unlike_46 ?_
          refine xj_callV kv_X12_228 (c_X12_rowNight l (d + 1) n hn zg3 A Λ O Czg3 s hs (rwP A Λ s i) (aN A + i) Rzg3) (As := [.int (nI s)]) (st := []) (by omega) (fq_86 zg3) (ci := 12) rfl rfl rfl rfl (xRm_of (by omega) (by decide) (by omega) (by omega)) (Nat.le_of_ble_eq_true rfl) dX12_unlike_47 (yk_v (kc := 0) (ks := 0) fun zg4 hzg4 => ?_)
          obtain ⟨Rzg4, hxzg4⟩ := hzg4
          have Czg4 := Czg3.keep hxzg4
          refine xj_iinc (n := 1) (i := 3) (v := nI (i + 1)) (lv1 := [(3, .int (nI (i + 1))), (0, .ref 86), (1, .int (nI q)), (2, .int (nI s))]) 0 rfl (nI_1 i) rfl (Nat.le_of_ble_eq_true rfl) dX12_unlike_50 ?_
          refine xj_goto (tgt := 7) (by decide) dX12_unlike_53 ?_
          refine xj_sub (lv' := [(3, .int (nI (i + 1))), (0, .ref 86), (1, .int (nI q)), (2, .int (nI s))]) [0, 1, 2, 3] rfl ?_
          exact ih zg4 ((hf.tr hxzg3).tr hxzg4) Rzg4 (by rw [hz, hstep, if_neg (fun z => of_decide_eq_true (p := ¬ rsP A Λ s i = A (40 + q) i) z (hrs.symm.trans zc40.symm))])
        · have hrs : zv2 &&& A 3 s = rsP A Λ s i := by rw [hvzv2]; rfl
          refine xj_iload_n (n := 3) (i := 3) 0 rfl rfl dX12_unlike_43 ?_
          exact xj_ireturn rfl (nr_i _) (Nat.zero_le _) (Nat.zero_le _) dX12_unlike_44 (qI_e ⟨by rw [hz, hstep, if_pos (decide_eq_true (p := ¬ rsP A Λ s i = A (40 + q) i) (fun z => zc40 (z.symm.trans hrs.symm)))], (hf.tr hxzg3)⟩)
  refine xj_sub (lv' := [(3, .int 0), (0, .ref 86), (1, .int (nI q)), (2, .int (nI s))]) [0, 1, 2, 3] rfl ?_
  exact key 0 (Nat.zero_le _) zg1 hxzg1 Rzg1 rfl
set_option maxHeartbeats 4000000 in
set_option maxRecDepth 100000 in
theorem c_X12_judge (l : Launch) (d : Nat) (n : Nat) (hn : 110 ≤ n) (g : xG) (A : zSt) (Λ : Nat → xL) (O : okA A) (C : mA g A Λ) (q s : Int32)  : xC l yX12_judge cX12_judge 4 (some .int) (xR (d + 7) 0 0) [.ref 86, .int q, .int s] (n, fh g) (qI n fun v g1 => v = vJudge A Λ q s ∧ fm g g1) := by
  refine xC_of false (by decide +kernel) (fun z => by cases z) (Nat.le_of_ble_eq_true rfl) ?_
  have hS6 := O.1.2
  have hW := O.W
  have hT6 := O.2.2.2.1.2.2
  have hN9 := O.2.1.2
  show xJ l (RX12, 4, (some .int), false, (xR (d + 7) 0 0), none) cX12_judge _ 0 0 0 [(0, .ref 86), (1, .int q), (2, .int s)] [] (n, fh g)
  refine xj_aload_n (n := 0) (i := 0) 0 rfl rfl dX12_judge_0 ?_
  refine xj_iload_n (n := 1) (i := 1) 1 rfl rfl dX12_judge_1 ?_
  refine xj_iload_n (n := 2) (i := 2) 2 rfl rfl dX12_judge_2 ?_
  refine xj_callV kv_X12_260 (c_X12_toldWrong l (d + 4) n hn g A Λ O C q s) (As := [.int q, .int s]) (st := []) (by omega) (fq_86 g) (ci := 12) rfl rfl rfl rfl (xRm_of (by omega) (by decide) (by omega) (by omega)) (Nat.le_of_ble_eq_true rfl) dX12_judge_3 (yk_p (kc := 0) (ks := 0) ?_)
  refine xj_istore_n (n := 3) (i := 3) (lv1 := [(3, .int (refF A q s)), (0, .ref 86), (1, .int q), (2, .int s)]) rfl rfl (Nat.le_of_ble_eq_true rfl) dX12_judge_6 ?_
  refine xj_iload_n (n := 3) (i := 3) 0 rfl rfl dX12_judge_7 ?_
  refine xj_if_ne (tgt := 20) (by decide) dX12_judge_8 (fun zc8 => ?_) (fun zc8 => ?_)
  · refine xj_iload_n (n := 3) (i := 3) 0 rfl rfl dX12_judge_20 ?_
    exact xj_ireturn rfl (nr_i _) (Nat.zero_le _) (Nat.zero_le _) dX12_judge_21 (qI_e ⟨by unfold vJudge; rw [if_neg zc8]; all_goals (rfl), fm.rf⟩)
  · obtain ⟨kq, ks, hk4_kq, hks, rfl, rfl, hz20⟩ := refF_0 O zc8
    have hs6_ks : ks < 6 := by omega
    refine xj_aload_n (n := 0) (i := 0) 1 rfl rfl dX12_judge_11 ?_
    refine xj_iload_n (n := 1) (i := 1) 2 rfl rfl dX12_judge_12 ?_
    refine xj_iload_n (n := 2) (i := 2) 3 rfl rfl dX12_judge_13 ?_
    refine xj_callV kv_X12_263 (c_X12_unlike l (d + 0) n hn g A Λ O C kq ks hk4_kq hks) (As := [.int (nI kq), .int (nI ks)]) (st := []) (by omega) (fq_86 g) (ci := 12) rfl rfl rfl rfl (xRm_of (by omega) (by decide) (by omega) (by omega)) (Nat.le_of_ble_eq_true rfl) dX12_judge_14 (yk_i (kc := 0) (ks := 0) fun zv1 zg2 hzg2 => ?_)
    obtain ⟨hvzv1, hfnzg2⟩ := hzg2
    have hxzg2 := hfnzg2
    have Czg2 := C.keep hxzg2
    refine xj_goto (tgt := 21) (by decide) dX12_judge_17 ?_
    exact xj_ireturn rfl (nr_i _) (Nat.zero_le _) (Nat.zero_le _) dX12_judge_21 (qI_e ⟨by unfold vJudge; (try simp only [nI_clamp (show kq < 2147483648 by omega), nI_clamp (show ks < 2147483648 by omega)]); rw [if_pos zc8]; all_goals (exact hvzv1), hxzg2⟩)
set_option maxHeartbeats 4000000 in
set_option maxRecDepth 100000 in
theorem c_X12_guess (l : Launch) (d : Nat) (n : Nat) (hn : 110 ≤ n) (g : xG) (A : zSt) (Λ : Nat → xL) (O : okA A) (C : mA g A Λ) (q s what : Int32)  : xC l yX12_guess cX12_guess 8 (some .int) (xR (d + 6) 0 0) [.ref 86, .int q, .int s, .int what] (n, fh g) (qI n fun v g1 => v = vGuess A Λ q s what ∧ fm g g1) := by
  refine xC_of false (by decide +kernel) (fun z => by cases z) (Nat.le_of_ble_eq_true rfl) ?_
  have hS6 := O.1.2
  have hW := O.W
  have hT6 := O.2.2.2.1.2.2
  have hN9 := O.2.1.2
  show xJ l (RX12, 8, (some .int), false, (xR (d + 6) 0 0), none) cX12_guess _ 0 0 0 [(0, .ref 86), (1, .int q), (2, .int s), (3, .int what)] [] (n, fh g)
  refine xj_aload_n (n := 0) (i := 0) 0 rfl rfl dX12_guess_0 ?_
  refine xj_iload_n (n := 1) (i := 1) 1 rfl rfl dX12_guess_1 ?_
  refine xj_iload_n (n := 2) (i := 2) 2 rfl rfl dX12_guess_2 ?_
  refine xj_callV kv_X12_260 (c_X12_toldWrong l (d + 3) n hn g A Λ O C q s) (As := [.int q, .int s]) (st := []) (by omega) (fq_86 g) (ci := 12) rfl rfl rfl rfl (xRm_of (by omega) (by decide) (by omega) (by omega)) (Nat.le_of_ble_eq_true rfl) dX12_guess_3 (yk_p (kc := 0) (ks := 0) ?_)
  refine xj_istore (i := 4) (lv1 := [(4, .int (refF A q s)), (0, .ref 86), (1, .int q), (2, .int s), (3, .int what)]) rfl (Nat.le_of_ble_eq_true rfl) dX12_guess_6 ?_
  refine xj_iload (i := 4) 0 rfl dX12_guess_8 ?_
  refine xj_if_eq (tgt := 16) (by decide) dX12_guess_10 (fun zc10 => ?_) (fun zc10 => ?_)
  · obtain ⟨kq, ks, hk4_kq, hks, rfl, rfl, hz20⟩ := refF_0 O zc10
    have hs6_ks : ks < 6 := by omega
    refine xj_iload_n (n := 3) (i := 3) 4 rfl rfl dX12_guess_16 ?_
    refine xj_iconst (v := 0) (by decide) dX12_guess_17 ?_
    refine xj_iconst (v := 1) (by decide) dX12_guess_18 ?_
    refine xj_callS ks_X12_93 (c_X12_in l (d + 5) what 0 1 _) (As := [.int what, .int 0, .int 1]) (st := []) rfl rfl (xRm_of (by omega) (by decide) (by omega) (by omega)) (Nat.le_of_ble_eq_true rfl) dX12_guess_19 (yk_p (kc := 0) (ks := 0) ?_)
    refine xj_if_ne (tgt := 28) (by decide) dX12_guess_22 (fun zc22 => ?_) (fun zc22 => ?_)
    · have zp22 : 0 ≤ what ∧ what ≤ 1 := bI_n0.mp zc22
      obtain ⟨kwhat, hkwhat, rfl⟩ := nI_bnd (m := 1) (by decide) zp22.1 zp22.2
      refine xj_iconst (v := 0) (by decide) dX12_guess_28 ?_
      refine xj_istore (i := 5) (lv1 := [(5, .int 0), (4, .int (refF A (nI kq) (nI ks))), (0, .ref 86), (1, .int (nI kq)), (2, .int (nI ks)), (3, .int (nI kwhat))]) rfl (Nat.le_of_ble_eq_true rfl) dX12_guess_29 ?_
      refine xj_iconst (v := 0) (by decide) dX12_guess_31 ?_
      refine xj_istore (i := 6) (lv1 := [(6, .int 0), (5, .int 0), (4, .int (refF A (nI kq) (nI ks))), (0, .ref 86), (1, .int (nI kq)), (2, .int (nI ks)), (3, .int (nI kwhat))]) rfl (Nat.le_of_ble_eq_true rfl) dX12_guess_32 ?_
      refine xj_aload_n (n := 0) (i := 0) 3 rfl rfl dX12_guess_34 ?_
      refine xj_iload_n (n := 2) (i := 2) 5 rfl rfl dX12_guess_35 ?_
      refine xj_callV kv_X12_225 (c_X12_rowOf l (d + 4) n hn g A Λ O C ks hks) (As := [.int (nI ks)]) (st := []) (by omega) (fq_86 g) (ci := 12) rfl rfl rfl rfl (xRm_of (by omega) (by decide) (by omega) (by omega)) (Nat.le_of_ble_eq_true rfl) dX12_guess_36 (yk_v (kc := 0) (ks := 0) fun zg1 hzg1 => ?_)
      obtain ⟨Rzg1, hxzg1⟩ := hzg1
      have Czg1 := C.keep hxzg1
      refine xj_iconst (v := 0) (by decide) dX12_guess_39 ?_
      refine xj_istore (i := 7) (lv1 := [(7, .int 0), (6, .int 0), (5, .int 0), (4, .int (refF A (nI kq) (nI ks))), (0, .ref 86), (1, .int (nI kq)), (2, .int (nI ks)), (3, .int (nI kwhat))]) rfl (Nat.le_of_ble_eq_true rfl) dX12_guess_40 ?_
      have hz40 := (O.2.2.2.2.2.2.2.2 kq hk4_kq).2.2
      have key : ∀ i, i ≤ aQ A kq → ∀ (g1 : xG), fm g g1 → rwA g1 (rwP A Λ ks i) (aN A + i) → xJ l (RX12, 8, (some .int), false, (xR (d + 6) 0 0), none) cX12_guess (qI n fun v g1 => v = vGuess A Λ (nI kq) (nI ks) (nI kwhat) ∧ fm g g1) 0 0 42 [(7, .int (nI i)), (5, .int (orF (fun i => A (40 + kq) i &&& 65535) i)), (6, .int (orF (clT A Λ ks) i)), (0, .ref 86), (1, .int (nI kq)), (2, .int (nI ks)), (3, .int (nI kwhat))] [] (n, fh g1) := by
        refine x_loop (aQ A kq) _ ?_ ?_
        · intro g1 hf R
          refine xj_iload (i := 7) 0 rfl dX12_guess_42 ?_
          refine xj_aload_n (n := 0) (i := 0) 3 rfl rfl dX12_guess_44 ?_
          refine yj_getf (v := .ref 98) fl_X12_47_12 (by omega) (fq_86 g1) rfl dX12_guess_45 ?_
          refine xj_iload_n (n := 1) (i := 1) 4 rfl rfl dX12_guess_48 ?_
          refine yj_ialdN kq (by omega) fA_98 rfl (by omega) (by decide) dX12_guess_49 ?_
          refine xj_top ((C.keep hf).qz O hk4_kq) ?_
          refine xj_icmp_ge (tgt := 94) (by decide) dX12_guess_50 (fun zc50 => ?_) (fun zc50 => ?_)
          · refine xj_iload_n (n := 3) (i := 3) 6 rfl rfl dX12_guess_94 ?_
            refine xj_if_ne (tgt := 103) (by decide) dX12_guess_95 (fun zc95 => ?_) (fun zc95 => ?_)
            · refine xj_ldc cn_X12_186 dX12_guess_103 ?_
              refine xj_iload (i := 6) 2 rfl dX12_guess_105 ?_
              refine xj_iconst (v := (-1)) (by decide) dX12_guess_107 ?_
              refine xj_ixor dX12_guess_108 ?_
              refine xj_iand dX12_guess_109 ?_
              exact xj_ireturn rfl (nr_i _) (Nat.zero_le _) (Nat.zero_le _) dX12_guess_110 (qI_e ⟨by unfold vGuess; (try simp only [nI_clamp (show kq < 2147483648 by omega), nI_clamp (show ks < 2147483648 by omega), nI_clamp (show kwhat < 2147483648 by omega)]); rw [if_pos zc10, if_pos zp22, if_neg zc95]; all_goals (rfl), hf⟩)
            · refine xj_iload (i := 5) 1 rfl dX12_guess_98 ?_
              refine xj_goto (tgt := 110) (by decide) dX12_guess_100 ?_
              exact xj_ireturn rfl (nr_i _) (Nat.zero_le _) (Nat.zero_le _) dX12_guess_110 (qI_e ⟨by unfold vGuess; (try simp only [nI_clamp (show kq < 2147483648 by omega), nI_clamp (show ks < 2147483648 by omega), nI_clamp (show kwhat < 2147483648 by omega)]); rw [if_pos zc10, if_pos zp22, if_pos zc95]; all_goals (exact (orF_and _ _ _).symm), hf⟩)
          · exact absurd (nI_le (Nat.le_refl _) (by omega)) zc50
        · intro i hi ih g1 hf R
          refine xj_iload (i := 7) 0 rfl dX12_guess_42 ?_
          refine xj_aload_n (n := 0) (i := 0) 3 rfl rfl dX12_guess_44 ?_
          refine yj_getf (v := .ref 98) fl_X12_47_12 (by omega) (fq_86 g1) rfl dX12_guess_45 ?_
          refine xj_iload_n (n := 1) (i := 1) 4 rfl rfl dX12_guess_48 ?_
          refine yj_ialdN kq (by omega) fA_98 rfl (by omega) (by decide) dX12_guess_49 ?_
          refine xj_top ((C.keep hf).qz O hk4_kq) ?_
          refine xj_icmp_ge (tgt := 94) (by decide) dX12_guess_50 (fun zc50 => ?_) (fun zc50 => ?_)
          · exact absurd zc50 (nI_ge hi (by omega))
          · refine xj_iload (i := 5) 1 rfl dX12_guess_53 ?_
            refine xj_aload_n (n := 0) (i := 0) 3 rfl rfl dX12_guess_55 ?_
            refine yj_getf (v := .ref 99) fl_X12_50_12 (by omega) (fq_86 g1) rfl dX12_guess_56 ?_
            refine xj_bipush (v := 40) (by decide) dX12_guess_59 ?_
            refine xj_iload_n (n := 1) (i := 1) 4 rfl rfl dX12_guess_61 ?_
            refine xj_imul dX12_guess_62 ?_
            refine xj_top (pk_mul 40 kq) ?_
            refine xj_iload (i := 7) 0 rfl dX12_guess_63 ?_
            refine xj_iadd dX12_guess_65 ?_
            refine xj_top (nI_add _ _) ?_
            refine yj_ialdN ((40 * kq) + i) (by omega) fA_99 rfl (by omega) (by decide) dX12_guess_66 ?_
            refine xj_top ((C.keep hf).qn hk4_kq (by omega)) ?_
            refine xj_ldc cn_X12_186 dX12_guess_67 ?_
            refine xj_iand dX12_guess_69 ?_
            refine xj_ior dX12_guess_70 ?_
            refine xj_topi (fun zv2 ezv2 => ?_)
            refine xj_istore (i := 5) (lv1 := [(5, .int zv2), (7, .int (nI i)), (6, .int (orF (clT A Λ ks) i)), (0, .ref 86), (1, .int (nI kq)), (2, .int (nI ks)), (3, .int (nI kwhat))]) rfl (Nat.le_of_ble_eq_true rfl) dX12_guess_71 ?_
            refine xj_iload (i := 6) 2 rfl dX12_guess_73 ?_
            refine xj_aload_n (n := 0) (i := 0) 3 rfl rfl dX12_guess_75 ?_
            refine xj_iload_n (n := 2) (i := 2) 5 rfl rfl dX12_guess_76 ?_
            refine xj_callV kv_X12_231 (c_X12_rowClear l (d + 1) n hn g1 A Λ O (C.keep hf) ks hks (rwP A Λ ks i) (aN A + i) R) (As := [.int (nI ks)]) (st := [.int (orF (clT A Λ ks) i)]) (by omega) (fq_86 g1) (ci := 12) rfl rfl rfl rfl (xRm_of (by omega) (by decide) (by omega) (by omega)) (Nat.le_of_ble_eq_true rfl) dX12_guess_77 (yk_i (kc := 0) (ks := 0) fun zv3 zg4 hzg4 => ?_)
            obtain ⟨hvzv3, hfnzg4⟩ := hzg4
            have hxzg4 := fm.of hfnzg4 sN_m
            have Rzg4 := R.keep hfnzg4
            have Czg4 := (C.keep hf).keep hxzg4
            refine xj_ior dX12_guess_80 ?_
            refine xj_topi (fun zv5 ezv5 => ?_)
            refine xj_istore (i := 6) (lv1 := [(6, .int zv5), (5, .int zv2), (7, .int (nI i)), (0, .ref 86), (1, .int (nI kq)), (2, .int (nI ks)), (3, .int (nI kwhat))]) rfl (Nat.le_of_ble_eq_true rfl) dX12_guess_81 ?_
            refine xj_aload_n (n := 0) (i := 0) 3 rfl rfl dX12_guess_83 ?_
            refine xj_iload_n (n := 2) (i := 2) 5 rfl rfl dX12_guess_84 ?_
            refine xj_callV kv_X12_228 (c_X12_rowNight l (d + 1) n hn zg4 A Λ O Czg4 ks hks (rwP A Λ ks i) (aN A + i) Rzg4) (As := [.int (nI ks)]) (st := []) (by omega) (fq_86 zg4) (ci := 12) rfl rfl rfl rfl (xRm_of (by omega) (by decide) (by omega) (by omega)) (Nat.le_of_ble_eq_true rfl) dX12_guess_85 (yk_v (kc := 0) (ks := 0) fun zg6 hzg6 => ?_)
            obtain ⟨Rzg6, hxzg6⟩ := hzg6
            have Czg6 := Czg4.keep hxzg6
            refine xj_iinc (n := 1) (i := 7) (v := nI (i + 1)) (lv1 := [(7, .int (nI (i + 1))), (6, .int zv5), (5, .int zv2), (0, .ref 86), (1, .int (nI kq)), (2, .int (nI ks)), (3, .int (nI kwhat))]) 2 rfl (nI_1 i) rfl (Nat.le_of_ble_eq_true rfl) dX12_guess_88 ?_
            refine xj_goto (tgt := 42) (by decide) dX12_guess_91 ?_
            refine xj_sub (lv' := [(7, .int (nI (i + 1))), (5, .int zv2), (6, .int zv5), (0, .ref 86), (1, .int (nI kq)), (2, .int (nI ks)), (3, .int (nI kwhat))]) [0, 2, 1, 3, 4, 5, 6] rfl ?_
            have h9 := ih zg6 ((hf.tr hxzg4).tr hxzg6) Rzg6
            rw [show orF (fun i => A (40 + kq) i &&& 65535) (i + 1) = zv2 from ezv2.symm, show orF (clT A Λ ks) (i + 1) = zv5 from by rw [ezv5, hvzv3]; rfl] at h9
            exact h9
      refine xj_sub (lv' := [(7, .int 0), (5, .int 0), (6, .int 0), (0, .ref 86), (1, .int (nI kq)), (2, .int (nI ks)), (3, .int (nI kwhat))]) [0, 2, 1, 4, 5, 6, 7] rfl ?_
      exact key 0 (Nat.zero_le _) zg1 hxzg1 Rzg1
    · have zp22 : ¬ (0 ≤ what ∧ what ≤ 1) := bI_0.mp zc22
      refine xj_bipush (v := (-7)) (by decide) dX12_guess_25 ?_
      exact xj_ireturn rfl (nr_i _) (Nat.zero_le _) (Nat.zero_le _) dX12_guess_27 (qI_e ⟨by unfold vGuess; (try simp only [nI_clamp (show kq < 2147483648 by omega), nI_clamp (show ks < 2147483648 by omega)]); rw [if_pos zc10, if_neg zp22]; all_goals (rfl), fm.rf⟩)
  · refine xj_iload (i := 4) 0 rfl dX12_guess_13 ?_
    exact xj_ireturn rfl (nr_i _) (Nat.zero_le _) (Nat.zero_le _) dX12_guess_15 (qI_e ⟨by unfold vGuess; rw [if_neg zc10]; all_goals (rfl), fm.rf⟩)
