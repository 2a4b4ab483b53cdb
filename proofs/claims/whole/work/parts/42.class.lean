def ltN (sd : Nat) : Nat → Nat
  | 0 => sd + 1
  | i + 1 => ltN sd i * 48271 % 2147483647
def flP (A : zSt) (sd i : Nat) : Nat := ltN sd (i + 1) % (16 * aS A)
def flR (A : zSt) (sd : Nat) : Nat → Nat → Nat → Int32
  | 0 => fun s => A (10 + s)
  | i + 1 => fun s => if s = flP A sd i / 16 then upd (flR A sd i s) (flP A sd i % 16) (min99 (flR A sd i s (flP A sd i % 16) + 20)) else flR A sd i s
def sbS (A : zSt) (Λ : Nat → xL) (sd fl s : Nat) : Int32 := clearS (Λ (aW A)) (aK A s) (A 2 s) (A 3 s) (flR A sd fl s) (nI (aN A)) &&& A 3 s
def sbF (A : zSt) (Λ : Nat → xL) (sd fl : Nat) : Int32 := sumF (fun s => onesF (sbS A Λ sd fl s)) (aS A)
theorem ltN_lt {sd : Nat} (h : sd ≤ 200000) : ∀ i, ltN sd i < 2147483647
  | 0 => by show sd + 1 < _; omega
  | i + 1 => Nat.mod_lt _ (by decide)
theorem ltN_s {sd : Nat} (h : sd ≤ 200000) (i : Nat) : lN (ltN sd i) * 48271 - lN (ltN sd i) * 48271 / 2147483647 * 2147483647 = lN (ltN sd (i + 1)) := by
  have h1 := ltN_lt h i
  rw [show (48271 : Int64) = lN 48271 from rfl, show (2147483647 : Int64) = lN 2147483647 from rfl, lN_mul]
  exact pk_lRem (by omega) (by omega) (by omega)
theorem sbS_n {A : zSt} {Λ : Nat → xL} {s : Nat} (O : okA A) (hs : s < aS A) (sd fl : Nat) : ∃ m, m < 65536 ∧ sbS A Λ sd fl s = nI m := by
  obtain ⟨a, ha, e⟩ := setF_n (fun c => clearF (Λ (aW A)) (aK A s) (A 2 s) (A 3 s) c (flR A sd fl s c) (nI (aN A))) (n := 16) (Nat.le_refl _)
  obtain ⟨b, hb, e2⟩ := (O.2.2.2.2.2.2.1 s hs).2.2.1
  have h1 : clearS (Λ (aW A)) (aK A s) (A 2 s) (A 3 s) (flR A sd fl s) (nI (aN A)) = nI a := e
  unfold sbS
  rw [h1, e2, nI_and]
  exact ⟨_, Nat.lt_of_le_of_lt Nat.and_le_left ha, rfl⟩
set_option maxHeartbeats 4000000 in
set_option maxRecDepth 100000 in
theorem c_X11_seenBehindFlies (l : Launch) (d : Nat) (n : Nat) (g : xG) (A : zSt) (Λ : Nat → xL) (O : okA A) (C : cA g n A Λ) (sd fl : Nat) (hsd : sd ≤ 200000) (hfl : fl ≤ 99)  : xC l yX11_seenBehindFlies cX11_seenBehindFlies 7 (some .int) (xR (d + 6) 0 0) [.ref 0, .int (nI sd), .int (nI fl)] (n, fh g) (qI n fun v g1 => v = sbF A Λ sd fl ∧ fr sX g g1) := by
  refine xC_of false (by decide +kernel) (fun z => by cases z) (Nat.le_of_ble_eq_true rfl) ?_
  have hn := C.n110 O
  have hS6 := O.1.2
  have hW := O.W
  have hT6 := O.2.2.2.1.2.2
  have hN9 := O.2.1.2
  show xJ l (RX11, 7, (some .int), false, (xR (d + 6) 0 0), none) cX11_seenBehindFlies _ 0 0 0 [(0, .ref 0), (1, .int (nI sd)), (2, .int (nI fl))] [] (n, fh g)
  refine xj_aload_n (n := 0) (i := 0) 0 rfl rfl dX11_seenBehindFlies_0 ?_
  refine yj_getf (v := .int (nI (aS A))) fl_X11_80_11 (by omega) (fq_0 g) (congrArg (fun z => some (Value.int z)) (C.S O)) dX11_seenBehindFlies_1 ?_
  refine xj_if_ne (tgt := 9) (by decide) dX11_seenBehindFlies_4 (fun zc4 => ?_) (fun zc4 => ?_)
  · have hS0 : 0 < aS A := Nat.pos_of_ne_zero (fun e => zc4 (by rw [e]; rfl))
    refine xj_iconst (v := 0) (by decide) dX11_seenBehindFlies_9 ?_
    refine xj_istore_n (n := 3) (i := 3) (lv1 := [(3, .int 0), (0, .ref 0), (1, .int (nI sd)), (2, .int (nI fl))]) rfl rfl (Nat.le_of_ble_eq_true rfl) dX11_seenBehindFlies_10 ?_
    have key : ∀ i, i ≤ aS A → ∀ (g1 : xG), fr sX g g1 → (∀ s, s < i → pnA g1 (28 + 3 * s) (aK A s) (A 2 s) (A 3 s) (A (10 + s))) → xJ l (RX11, 7, (some .int), false, (xR (d + 6) 0 0), none) cX11_seenBehindFlies (qI n fun v g1 => v = sbF A Λ sd fl ∧ fr sX g g1) 0 0 11 [(3, .int (nI i)), (0, .ref 0), (1, .int (nI sd)), (2, .int (nI fl))] [] (n, fh g1) := by
      refine x_loop (aS A) _ ?_ ?_
      · intro g1 hf hP
        refine xj_iload_n (n := 3) (i := 3) 0 rfl rfl dX11_seenBehindFlies_11 ?_
        refine xj_aload_n (n := 0) (i := 0) 1 rfl rfl dX11_seenBehindFlies_12 ?_
        refine yj_getf (v := .int (nI (aS A))) fl_X11_80_11 (by omega) (fq_0 g1) (congrArg (fun z => some (Value.int z)) ((C.keep O hf).S O)) dX11_seenBehindFlies_13 ?_
        refine xj_icmp_ge (tgt := 40) (by decide) dX11_seenBehindFlies_16 (fun zc16 => ?_) (fun zc16 => ?_)
        · refine xj_iload_n (n := 1) (i := 1) 2 rfl rfl dX11_seenBehindFlies_40 ?_
          refine xj_i2l dX11_seenBehindFlies_41 ?_
          refine xj_lconst (v := 1) (by decide) dX11_seenBehindFlies_42 ?_
          refine xj_ladd dX11_seenBehindFlies_43 ?_
          refine xj_topl (show (((nI sd).toInt64) + 1) = lN (ltN sd 0) from (by rw [nI_l (by omega)]; exact lN_1 sd)) ?_
          refine xj_lstore_n (n := 3) (i := 3) (lv1 := [(3, .long (lN (ltN sd 0))), (0, .ref 0), (1, .int (nI sd)), (2, .int (nI fl))]) rfl rfl (Nat.le_of_ble_eq_true rfl) dX11_seenBehindFlies_44 ?_
          refine xj_iconst (v := 0) (by decide) dX11_seenBehindFlies_45 ?_
          refine xj_istore (i := 5) (lv1 := [(5, .int 0), (3, .long (lN (ltN sd 0))), (0, .ref 0), (1, .int (nI sd)), (2, .int (nI fl))]) rfl (Nat.le_of_ble_eq_true rfl) dX11_seenBehindFlies_46 ?_
          have key2 : ∀ i, i ≤ fl → ∀ (g1 : xG), fr sX g g1 → (∀ s, s < aS A → pnA g1 (28 + 3 * s) (aK A s) (A 2 s) (A 3 s) (flR A sd i s)) → xJ l (RX11, 7, (some .int), false, (xR (d + 6) 0 0), none) cX11_seenBehindFlies (qI n fun v g1 => v = sbF A Λ sd fl ∧ fr sX g g1) 0 0 48 [(5, .int (nI i)), (3, .long (lN (ltN sd i))), (0, .ref 0), (1, .int (nI sd)), (2, .int (nI fl))] [] (n, fh g1) := by
            refine x_loop fl _ ?_ ?_
            · intro g1 hf hB
              refine xj_iload (i := 5) 0 rfl dX11_seenBehindFlies_48 ?_
              refine xj_iload_n (n := 2) (i := 2) 4 rfl rfl dX11_seenBehindFlies_50 ?_
              refine xj_icmp_ge (tgt := 103) (by decide) dX11_seenBehindFlies_51 (fun zc51 => ?_) (fun zc51 => ?_)
              · refine xj_iconst (v := 0) (by decide) dX11_seenBehindFlies_103 ?_
                refine xj_istore (i := 5) (lv1 := [(5, .int 0), (3, .long (lN (ltN sd fl))), (0, .ref 0), (1, .int (nI sd)), (2, .int (nI fl))]) rfl (Nat.le_of_ble_eq_true rfl) dX11_seenBehindFlies_104 ?_
                refine xj_iconst (v := 0) (by decide) dX11_seenBehindFlies_106 ?_
                refine xj_istore (i := 6) (lv1 := [(6, .int 0), (5, .int 0), (3, .long (lN (ltN sd fl))), (0, .ref 0), (1, .int (nI sd)), (2, .int (nI fl))]) rfl (Nat.le_of_ble_eq_true rfl) dX11_seenBehindFlies_107 ?_
                have key3 : ∀ i, i ≤ aS A → ∀ (g1 : xG), fr sX g g1 → (∀ s, s < aS A → pnA g1 (28 + 3 * s) (aK A s) (A 2 s) (A 3 s) (flR A sd fl s)) → xJ l (RX11, 7, (some .int), false, (xR (d + 6) 0 0), none) cX11_seenBehindFlies (qI n fun v g1 => v = sbF A Λ sd fl ∧ fr sX g g1) 0 0 109 [(6, .int (nI i)), (5, .int (sumF (fun s => onesF (sbS A Λ sd fl s)) i)), (0, .ref 0), (1, .int (nI sd)), (2, .int (nI fl))] [] (n, fh g1) := by
                  refine x_loop (aS A) _ ?_ ?_
                  · intro g1 hf hB
                    refine xj_iload (i := 6) 0 rfl dX11_seenBehindFlies_109 ?_
                    refine xj_aload_n (n := 0) (i := 0) 2 rfl rfl dX11_seenBehindFlies_111 ?_
                    refine yj_getf (v := .int (nI (aS A))) fl_X11_80_11 (by omega) (fq_0 g1) (congrArg (fun z => some (Value.int z)) ((C.keep O hf).S O)) dX11_seenBehindFlies_112 ?_
                    refine xj_icmp_ge (tgt := 155) (by decide) dX11_seenBehindFlies_115 (fun zc115 => ?_) (fun zc115 => ?_)
                    · refine xj_iload (i := 5) 1 rfl dX11_seenBehindFlies_155 ?_
                      exact xj_ireturn rfl (nr_i _) (Nat.zero_le _) (Nat.zero_le _) dX11_seenBehindFlies_157 (qI_e ⟨rfl, hf⟩)
                    · exact absurd (nI_le (Nat.le_refl _) (by omega)) zc115
                  · intro i hi ih g1 hf hB
                    have hs6_i : i < 6 := by omega
                    refine xj_iload (i := 6) 0 rfl dX11_seenBehindFlies_109 ?_
                    refine xj_aload_n (n := 0) (i := 0) 2 rfl rfl dX11_seenBehindFlies_111 ?_
                    refine yj_getf (v := .int (nI (aS A))) fl_X11_80_11 (by omega) (fq_0 g1) (congrArg (fun z => some (Value.int z)) ((C.keep O hf).S O)) dX11_seenBehindFlies_112 ?_
                    refine xj_icmp_ge (tgt := 155) (by decide) dX11_seenBehindFlies_115 (fun zc115 => ?_) (fun zc115 => ?_)
                    · exact absurd zc115 (nI_ge hi (by omega))
                    · refine xj_iload (i := 5) 1 rfl dX11_seenBehindFlies_118 ?_
                      refine xj_aload_n (n := 0) (i := 0) 2 rfl rfl dX11_seenBehindFlies_120 ?_
                      refine yj_getf (v := .ref 27) fl_X11_41_11 (by omega) (fq_0 g1) rfl dX11_seenBehindFlies_121 ?_
                      refine xj_iload (i := 6) 0 rfl dX11_seenBehindFlies_124 ?_
                      refine yj_aaldN (m := 6) (a := 28 + 3 * i) i (by omega) (fq_27 g1) (by decide) (by decide) rfl (by omega) (by decide) (if_pos (by omega)) dX11_seenBehindFlies_126 ?_
                      refine xj_aload_n (n := 0) (i := 0) 2 rfl rfl dX11_seenBehindFlies_127 ?_
                      refine yj_getf (v := .ref 66) fl_X11_55_11 (by omega) (fq_0 g1) rfl dX11_seenBehindFlies_128 ?_
                      refine xj_aload_n (n := 0) (i := 0) 2 rfl rfl dX11_seenBehindFlies_131 ?_
                      refine yj_getf (v := .int (nI (aW A))) fl_X11_93_11 (by omega) (fq_0 g1) (congrArg (fun z => some (Value.int z)) ((C.keep O hf).W O)) dX11_seenBehindFlies_132 ?_
                      refine yj_aaldN (m := 6) (a := fTX (aW A)) (aW A) (by omega) (fq_66 g1) (by decide) (by decide) rfl (by omega) (by decide) ((C.keep O hf).tx O hW) dX11_seenBehindFlies_135 ?_
                      refine xj_aload_n (n := 0) (i := 0) 2 rfl rfl dX11_seenBehindFlies_136 ?_
                      refine yj_getf (v := .int (nI (aN A))) fl_X11_84_11 (by omega) (fq_0 g1) (congrArg (fun z => some (Value.int z)) ((C.keep O hf).N O)) dX11_seenBehindFlies_137 ?_
                      refine xj_callV kv_X11_164 (c_X7_seenCells l (d + 0) n hn g1 (28 + 3 * i) (fTX (aW A)) (aK A i) (A 2 i) (A 3 i) (flR A sd fl i) (Λ (aW A)) (fPn_t hs6_i) (hB i hi) ((C.keep O hf).txt hW) (nI (aN A))) (As := [.ref (fTX (aW A)), .int (nI (aN A))]) (st := [.int (sumF (fun s => onesF (sbS A Λ sd fl s)) i)]) (by omega) ((fPn_t hs6_i).2.2.1 _) (ci := 7) rfl rfl rfl rfl (xRm_of (by omega) (by decide) (by omega) (by omega)) (Nat.le_of_ble_eq_true rfl) dX11_seenBehindFlies_140 (yk_i (kc := 0) (ks := 0) fun zv1 zg2 hzg2 => ?_)
                      obtain ⟨hvzv1, hfzg2⟩ := hzg2
                      have hxzg2 := hfzg2.mono (fX_s (t := (aW A)) hs6_i (Or.inr (Or.inl rfl)))
                      have Czg2 := (C.keep O hf).keep O hxzg2
                      have Bzg2 := (hB i hi).keep (fPn_t hs6_i) ((C.keep O hf).txt hW).1 hfzg2
                      obtain ⟨mz, hmz, emz⟩ := sbS_n (Λ := Λ) O hi sd fl
                      refine xj_top (show zv1 = nI mz from hvzv1.trans emz) ?_
                      refine xj_callS ks_X11_167 (c_J6_bitCount_0f7a4 l (d + 5) mz hmz _) (As := [.int (nI mz)]) (st := [.int (sumF (fun s => onesF (sbS A Λ sd fl s)) i)]) rfl rfl (xRm_of (by omega) (by decide) (by omega) (by omega)) (Nat.le_of_ble_eq_true rfl) dX11_seenBehindFlies_143 (yk_p (kc := 0) (ks := 0) ?_)
                      refine xj_iadd dX11_seenBehindFlies_146 ?_
                      refine xj_topi (fun zv3 ezv3 => ?_)
                      refine xj_istore (i := 5) (lv1 := [(5, .int zv3), (6, .int (nI i)), (0, .ref 0), (1, .int (nI sd)), (2, .int (nI fl))]) rfl (Nat.le_of_ble_eq_true rfl) dX11_seenBehindFlies_147 ?_
                      refine xj_iinc (n := 1) (i := 6) (v := nI (i + 1)) (lv1 := [(6, .int (nI (i + 1))), (5, .int zv3), (0, .ref 0), (1, .int (nI sd)), (2, .int (nI fl))]) 1 rfl (nI_1 i) rfl (Nat.le_of_ble_eq_true rfl) dX11_seenBehindFlies_149 ?_
                      refine xj_goto (tgt := 109) (by decide) dX11_seenBehindFlies_152 ?_
                      refine xj_sub (lv' := [(6, .int (nI (i + 1))), (5, .int zv3), (0, .ref 0), (1, .int (nI sd)), (2, .int (nI fl))]) [0, 1, 2, 3, 4] rfl ?_
                      have h9 := ih zg2 (hf.tr hxzg2) (fun s hs => (hB s hs).fr (hfzg2 _ (by have hv := fTX_v (aW A); unfold fX; omega)) (hfzg2 _ (by have hv := fTX_v (aW A); unfold fX; omega)))
                      rw [show sumF (fun s => onesF (sbS A Λ sd fl s)) (i + 1) = zv3 from by rw [ezv3, ← emz]; rfl] at h9
                      exact h9
                refine xj_sub (lv' := [(6, .int 0), (5, .int 0), (0, .ref 0), (1, .int (nI sd)), (2, .int (nI fl))]) [0, 1, 3, 4, 5] rfl ?_
                exact key3 0 (Nat.zero_le _) g1 hf hB
              · exact absurd (nI_le (Nat.le_refl _) (by omega)) zc51
            · intro i hi ih g1 hf hB
              have hpl : flP A sd i < 16 * aS A := Nat.mod_lt _ (by omega)
              obtain ⟨ps, hps⟩ : ∃ z, z = flP A sd i / 16 := ⟨_, rfl⟩
              obtain ⟨pq, hpq⟩ : ∃ z, z = flP A sd i % 16 := ⟨_, rfl⟩
              have hps9 : ps < aS A := by omega
              have hps6 : ps < 6 := by omega
              have hpq9 : pq < 16 := by omega
              refine xj_iload (i := 5) 0 rfl dX11_seenBehindFlies_48 ?_
              refine xj_iload_n (n := 2) (i := 2) 4 rfl rfl dX11_seenBehindFlies_50 ?_
              refine xj_icmp_ge (tgt := 103) (by decide) dX11_seenBehindFlies_51 (fun zc51 => ?_) (fun zc51 => ?_)
              · exact absurd zc51 (nI_ge hi (by omega))
              · refine xj_lload_n (n := 3) (i := 3) 1 rfl rfl dX11_seenBehindFlies_54 ?_
                refine xj_ldc2 cn_X11_293 dX11_seenBehindFlies_55 ?_
                refine xj_lmul dX11_seenBehindFlies_58 ?_
                refine xj_ldc2 cn_X11_295 dX11_seenBehindFlies_59 ?_
                refine xj_lrem (by decide) dX11_seenBehindFlies_62 ?_
                refine xj_topl (show (((lN (ltN sd i)) * 48271) - ((lN (ltN sd i)) * 48271) / 2147483647 * 2147483647) = lN (ltN sd (i + 1)) from (ltN_s hsd i)) ?_
                refine xj_lstore_n (n := 3) (i := 3) (lv1 := [(3, .long (lN (ltN sd (i + 1)))), (5, .int (nI i)), (0, .ref 0), (1, .int (nI sd)), (2, .int (nI fl))]) rfl rfl (Nat.le_of_ble_eq_true rfl) dX11_seenBehindFlies_63 ?_
                refine xj_lload_n (n := 3) (i := 3) 0 rfl rfl dX11_seenBehindFlies_64 ?_
                refine xj_bipush (v := 16) (by decide) dX11_seenBehindFlies_65 ?_
                refine xj_aload_n (n := 0) (i := 0) 2 rfl rfl dX11_seenBehindFlies_67 ?_
                refine yj_getf (v := .int (nI (aS A))) fl_X11_80_11 (by omega) (fq_0 g1) (congrArg (fun z => some (Value.int z)) ((C.keep O hf).S O)) dX11_seenBehindFlies_68 ?_
                refine xj_imul dX11_seenBehindFlies_71 ?_
                refine xj_top (show (16 * (nI (aS A))) = nI (16 * aS A) from (pk_mul 16 (aS A))) ?_
                refine xj_i2l dX11_seenBehindFlies_72 ?_
                refine xj_topl (show ((nI (16 * aS A)).toInt64) = lN (16 * aS A) from (nI_l (by omega))) ?_
                refine xj_lrem (fun z => by have h := (pk_lEQ (b := 0) (by omega) (by omega)).mp z; omega) dX11_seenBehindFlies_73 ?_
                refine xj_topl (show ((lN (ltN sd (i + 1))) - (lN (ltN sd (i + 1))) / (lN (16 * aS A)) * (lN (16 * aS A))) = lN (flP A sd i) from (pk_lRem (a := ltN sd (i + 1)) (b := 16 * aS A) (by have h := ltN_lt hsd (i + 1); omega) (by omega) (by omega))) ?_
                refine xj_l2i dX11_seenBehindFlies_74 ?_
                refine xj_top (show ((lN (flP A sd i)).toInt32) = nI (flP A sd i) from (lN_i _)) ?_
                refine xj_istore (i := 6) (lv1 := [(6, .int (nI (flP A sd i))), (3, .long (lN (ltN sd (i + 1)))), (5, .int (nI i)), (0, .ref 0), (1, .int (nI sd)), (2, .int (nI fl))]) rfl (Nat.le_of_ble_eq_true rfl) dX11_seenBehindFlies_75 ?_
                refine xj_aload_n (n := 0) (i := 0) 3 rfl rfl dX11_seenBehindFlies_77 ?_
                refine yj_getf (v := .ref 27) fl_X11_41_11 (by omega) (fq_0 g1) rfl dX11_seenBehindFlies_78 ?_
                refine xj_iload (i := 6) 0 rfl dX11_seenBehindFlies_81 ?_
                refine xj_bipush (v := 16) (by decide) dX11_seenBehindFlies_83 ?_
                refine xj_idiv (by decide) dX11_seenBehindFlies_85 ?_
                refine xj_top (show ((nI (flP A sd i)) / 16) = nI ps from (by rw [hps]; exact pk_div (d := 16) (by omega) (by omega) (by omega))) ?_
                refine yj_aaldN (m := 6) (a := 28 + 3 * ps) ps (by omega) (fq_27 g1) (by decide) (by decide) rfl (by omega) (by decide) (if_pos (by omega)) dX11_seenBehindFlies_86 ?_
                refine xj_iload (i := 6) 0 rfl dX11_seenBehindFlies_87 ?_
                refine xj_bipush (v := 16) (by decide) dX11_seenBehindFlies_89 ?_
                refine xj_irem (by decide) dX11_seenBehindFlies_91 ?_
                refine xj_top (show ((nI (flP A sd i)) - (nI (flP A sd i)) / 16 * 16) = nI pq from (by rw [hpq]; exact pk_rem (d := 16) (by omega) (by omega) (by omega))) ?_
                refine xj_bipush (v := 20) (by decide) dX11_seenBehindFlies_92 ?_
                refine xj_callV kv_X11_297 (c_X7_dullMore l (d + 4) n hn g1 (28 + 3 * ps) (fTX (aW A)) (aK A ps) (A 2 ps) (A 3 ps) (flR A sd i ps) (Λ (aW A)) (fPn_t hps6) (hB ps hps9) ((C.keep O hf).txt hW) pq 20 hpq9) (As := [.int (nI pq), .int 20]) (st := []) (by omega) ((fPn_t hps6).2.2.1 _) (ci := 7) rfl rfl rfl rfl (xRm_of (by omega) (by decide) (by omega) (by omega)) (Nat.le_of_ble_eq_true rfl) dX11_seenBehindFlies_94 (yk_v (kc := 0) (ks := 0) fun zg4 hzg4 => ?_)
                have hgd := hzg4
                refine xj_iinc (n := 1) (i := 5) (v := nI (i + 1)) (lv1 := [(5, .int (nI (i + 1))), (6, .int (nI (flP A sd i))), (3, .long (lN (ltN sd (i + 1)))), (0, .ref 0), (1, .int (nI sd)), (2, .int (nI fl))]) 2 rfl (nI_1 i) rfl (Nat.le_of_ble_eq_true rfl) dX11_seenBehindFlies_97 ?_
                refine xj_goto (tgt := 48) (by decide) dX11_seenBehindFlies_100 ?_
                refine xj_sub (lv' := [(5, .int (nI (i + 1))), (3, .long (lN (ltN sd (i + 1)))), (0, .ref 0), (1, .int (nI sd)), (2, .int (nI fl))]) [0, 2, 3, 4, 5] rfl ?_
                refine ih zg4 (by rw [hgd]; exact hf.gs (by unfold sX; omega) _ _) (fun s hs => ?_)
                have hfs : flR A sd (i + 1) s = if s = flP A sd i / 16 then upd (flR A sd i s) (flP A sd i % 16) (min99 (flR A sd i s (flP A sd i % 16) + 20)) else flR A sd i s := rfl
                rw [hgd, hfs, ← hps, ← hpq]
                by_cases e : s = ps
                · subst e; rw [if_pos rfl, (hB s hs).2.2.2.1 pq hpq9]; exact (hB s hs).setD pq _
                · rw [if_neg e]; exact (hB s hs).fr (gs_n _ _ _ (by omega)) (gs_n _ _ _ (by omega))
          refine xj_sub (lv' := [(5, .int 0), (3, .long (lN (ltN sd 0))), (0, .ref 0), (1, .int (nI sd)), (2, .int (nI fl))]) [0, 1, 2, 3, 4] rfl ?_
          exact key2 0 (Nat.zero_le _) g1 hf hP
        · exact absurd (nI_le (Nat.le_refl _) (by omega)) zc16
      · intro i hi ih g1 hf hP
        have hs6_i : i < 6 := by omega
        refine xj_iload_n (n := 3) (i := 3) 0 rfl rfl dX11_seenBehindFlies_11 ?_
        refine xj_aload_n (n := 0) (i := 0) 1 rfl rfl dX11_seenBehindFlies_12 ?_
        refine yj_getf (v := .int (nI (aS A))) fl_X11_80_11 (by omega) (fq_0 g1) (congrArg (fun z => some (Value.int z)) ((C.keep O hf).S O)) dX11_seenBehindFlies_13 ?_
        refine xj_icmp_ge (tgt := 40) (by decide) dX11_seenBehindFlies_16 (fun zc16 => ?_) (fun zc16 => ?_)
        · exact absurd zc16 (nI_ge hi (by omega))
        · refine xj_aload_n (n := 0) (i := 0) 1 rfl rfl dX11_seenBehindFlies_19 ?_
          refine yj_getf (v := .ref 27) fl_X11_41_11 (by omega) (fq_0 g1) rfl dX11_seenBehindFlies_20 ?_
          refine xj_iload_n (n := 3) (i := 3) 0 rfl rfl dX11_seenBehindFlies_23 ?_
          refine yj_aaldN (m := 6) (a := 28 + 3 * i) i (by omega) (fq_27 g1) (by decide) (by decide) rfl (by omega) (by decide) (if_pos (by omega)) dX11_seenBehindFlies_24 ?_
          refine xj_aload_n (n := 0) (i := 0) 1 rfl rfl dX11_seenBehindFlies_25 ?_
          refine yj_getf (v := .ref 8) fl_X11_37_11 (by omega) (fq_0 g1) rfl dX11_seenBehindFlies_26 ?_
          refine xj_iload_n (n := 3) (i := 3) 0 rfl rfl dX11_seenBehindFlies_29 ?_
          refine yj_aaldN (m := 6) (a := 9 + 3 * i) i (by omega) (fq_8 g1) (by decide) (by decide) rfl (by omega) (by decide) (if_pos (by omega)) dX11_seenBehindFlies_30 ?_
          refine xj_callV kv_X11_247 (c_X7_takeAfter l (d + 4) n hn g1 (28 + 3 * i) (fPn_t hs6_i) (9 + 3 * i) (aK A i) (A 2 i) (A 3 i) (A (10 + i)) (fPn_r hs6_i) ((C.keep O hf).pane hi) ⟨by omega, by omega, by omega⟩) (As := [.ref (9 + 3 * i)]) (st := []) (by omega) ((fPn_t hs6_i).2.2.1 _) (ci := 7) rfl rfl rfl rfl (xRm_of (by omega) (by decide) (by omega) (by omega)) (Nat.le_of_ble_eq_true rfl) dX11_seenBehindFlies_31 (yk_v (kc := 0) (ks := 0) fun zg5 hzg5 => ?_)
          obtain ⟨hfa, Ba⟩ := hzg5
          refine xj_iinc (n := 1) (i := 3) (v := nI (i + 1)) (lv1 := [(3, .int (nI (i + 1))), (0, .ref 0), (1, .int (nI sd)), (2, .int (nI fl))]) 0 rfl (nI_1 i) rfl (Nat.le_of_ble_eq_true rfl) dX11_seenBehindFlies_34 ?_
          refine xj_goto (tgt := 11) (by decide) dX11_seenBehindFlies_37 ?_
          refine xj_sub (lv' := [(3, .int (nI (i + 1))), (0, .ref 0), (1, .int (nI sd)), (2, .int (nI fl))]) [0, 1, 2, 3] rfl ?_
          refine ih zg5 (hf.tr (hfa.mono (fun j hj => by unfold sX; omega))) (fun s hs => ?_)
          by_cases e : s = i
          · subst e; exact Ba
          · exact (hP s (by omega)).fr (hfa _ (by omega)) (hfa _ (by omega))
    refine xj_sub (lv' := [(3, .int 0), (0, .ref 0), (1, .int (nI sd)), (2, .int (nI fl))]) [0, 1, 2, 3] rfl ?_
    exact key 0 (Nat.zero_le _) g fr.rf (fun s hs => absurd hs (Nat.not_lt_zero s))
  · refine xj_iconst (v := 0) (by decide) dX11_seenBehindFlies_7 ?_
    exact xj_ireturn rfl (nr_i _) (Nat.zero_le _) (Nat.zero_le _) dX11_seenBehindFlies_8 (qI_e ⟨by unfold sbF; rw [show aS A = 0 from (nI_eq (b := 0) (by omega) (by omega)).mp zc4]; rfl, fr.rf⟩)
