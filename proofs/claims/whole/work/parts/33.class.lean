def scF (n i : Nat) : Nat := if i % n = 0 then n else i % n
theorem scF_step {n : Nat} (hn : 1 ≤ n) (i : Nat) : nI (i % n) + 1 = nI (scF n (i + 1)) := by
  rw [nI_1]
  congr 1
  have hlt := Nat.mod_lt i (show 0 < n by omega)
  have e : i + 1 = n * (i / n) + (i % n + 1) := by have := Nat.div_add_mod i n; omega
  unfold scF
  by_cases h : i % n + 1 = n
  · have e1 : (i + 1) % n = 0 := by rw [e, Nat.mul_add_mod, h, Nat.mod_self]
    rw [if_pos e1]
    exact h
  · have e1 : (i + 1) % n = i % n + 1 := by rw [e, Nat.mul_add_mod, Nat.mod_eq_of_lt (by omega)]
    rw [if_neg (by omega), e1]
set_option maxHeartbeats 4000000 in
set_option maxRecDepth 100000 in
theorem c_X11_isOftenEnough (l : Launch) (d : Nat) (n : Nat) (g : xG) (A : zSt) (Λ : Nat → xL) (O : okA A) (C : cA g n A Λ) (s n1 : Nat) (hs : s < aS A) (hn1 : 1 ≤ n1 ∧ n1 ≤ 9)  : xC l yX11_isOftenEnough cX11_isOftenEnough 6 (some .boolean) (xR (d + 6) 0 0) [.ref 0, .int (nI s), .int (nI n1)] (n, fh g) (qI n fun v g1 => v = bI (ofE A Λ s n1 = true) ∧ fr sX g g1) := by
  refine xC_of false (by decide +kernel) (fun z => by cases z) (Nat.le_of_ble_eq_true rfl) ?_
  have hn := C.n110 O
  have hS6 := O.1.2
  have hW := O.W
  have hT6 := O.2.2.2.1.2.2
  have hs6_s : s < 6 := by omega
  have hN9 := O.2.1.2
  show xJ l (RX11, 6, (some .boolean), false, (xR (d + 6) 0 0), none) cX11_isOftenEnough _ 0 0 0 [(0, .ref 0), (1, .int (nI s)), (2, .int (nI n1))] [] (n, fh g)
  refine xj_aload_n (n := 0) (i := 0) 0 rfl rfl dX11_isOftenEnough_0 ?_
  refine xj_iload_n (n := 1) (i := 1) 1 rfl rfl dX11_isOftenEnough_1 ?_
  refine xj_callV kv_X11_184 (c_X11_inThought l (d + 3) n g A Λ O C s hs) (As := [.int (nI s)]) (st := []) (by omega) (fq_0 g) (ci := 11) rfl rfl rfl rfl (xRm_of (by omega) (by decide) (by omega) (by omega)) (Nat.le_of_ble_eq_true rfl) dX11_isOftenEnough_2 (yk_r (kc := 0) (ks := 0) fun zv1 zg2 hzg2 => ?_)
  obtain ⟨hvzv1, hxzg2, Bzg2⟩ := hzg2
  subst hvzv1
  have Czg2 := C.keep O hxzg2
  refine xj_astore_n (n := 3) (i := 3) (lv1 := [(3, .ref (28 + 3 * s)), (0, .ref 0), (1, .int (nI s)), (2, .int (nI n1))]) rfl rfl (Nat.le_of_ble_eq_true rfl) dX11_isOftenEnough_5 ?_
  refine xj_iload_n (n := 2) (i := 2) 3 rfl rfl dX11_isOftenEnough_6 ?_
  refine xj_istore (i := 4) (lv1 := [(4, .int (nI n1)), (3, .ref (28 + 3 * s)), (0, .ref 0), (1, .int (nI s)), (2, .int (nI n1))]) rfl (Nat.le_of_ble_eq_true rfl) dX11_isOftenEnough_7 ?_
  refine xj_iconst (v := 0) (by decide) dX11_isOftenEnough_9 ?_
  refine xj_istore (i := 5) (lv1 := [(5, .int 0), (4, .int (nI n1)), (3, .ref (28 + 3 * s)), (0, .ref 0), (1, .int (nI s)), (2, .int (nI n1))]) rfl (Nat.le_of_ble_eq_true rfl) dX11_isOftenEnough_10 ?_
  have h00 : scF n1 0 = n1 := by unfold scF; rw [if_pos (Nat.zero_mod _)]
  have key : ∀ i, i ≤ 20 → ∀ (g1 : xG), fr sX g g1 → pnA g1 (28 + 3 * s) (aK A s) (A 2 s) (A 3 s) (ofT (Λ (aW A)) (aK A s) (A 2 s) (A 3 s) (aN A) n1 (A (10 + s)) i) → ofE A Λ s n1 = allF (ofB A Λ s n1) (20 - i) i → xJ l (RX11, 6, (some .boolean), false, (xR (d + 6) 0 0), none) cX11_isOftenEnough (qI n fun v g1 => v = bI (ofE A Λ s n1 = true) ∧ fr sX g g1) 0 0 12 [(5, .int (nI i)), (4, .int (nI (scF n1 i))), (3, .ref (28 + 3 * s)), (0, .ref 0), (1, .int (nI s)), (2, .int (nI n1))] [] (n, fh g1) := by
    refine x_loop 20 _ ?_ ?_
    · intro g1 hf B hz
      refine xj_iload (i := 5) 0 rfl dX11_isOftenEnough_12 ?_
      refine xj_bipush (v := 20) (by decide) dX11_isOftenEnough_14 ?_
      refine xj_icmp_ge (tgt := 93) (by decide) dX11_isOftenEnough_16 (fun zc16 => ?_) (fun zc16 => ?_)
      · refine xj_iconst (v := 1) (by decide) dX11_isOftenEnough_93 ?_
        exact xj_ireturn rfl nr_b1 (Nat.zero_le _) (Nat.zero_le _) dX11_isOftenEnough_94 (qI_e ⟨by rw [hz, Nat.sub_self]; exact (bI_t rfl).symm, hf⟩)
      · exact absurd (nI_le (Nat.le_refl _) (by decide)) zc16
    · intro i hi ih g1 hf B hz
      have hstep : allF (ofB A Λ s n1) (20 - i) i = if ofB A Λ s n1 i = true then allF (ofB A Λ s n1) (20 - (i + 1)) (i + 1) else false := by rw [show 20 - i = 20 - (i + 1) + 1 by omega]; rfl
      refine xj_iload (i := 5) 0 rfl dX11_isOftenEnough_12 ?_
      refine xj_bipush (v := 20) (by decide) dX11_isOftenEnough_14 ?_
      refine xj_icmp_ge (tgt := 93) (by decide) dX11_isOftenEnough_16 (fun zc16 => ?_) (fun zc16 => ?_)
      · exact absurd zc16 (nI_ge hi (by decide))
      · refine xj_iload (i := 4) 1 rfl dX11_isOftenEnough_19 ?_
        refine xj_iload_n (n := 2) (i := 2) 5 rfl rfl dX11_isOftenEnough_21 ?_
        refine xj_icmp_ne (tgt := 33) (by decide) dX11_isOftenEnough_22 (fun zc22 => ?_) (fun zc22 => ?_)
        · have hnz : ¬ i % n1 = 0 := fun e => zc22 (by unfold scF; rw [if_pos e])
          refine xj_aload_n (n := 3) (i := 3) 2 rfl rfl dX11_isOftenEnough_33 ?_
          refine xj_aload_n (n := 0) (i := 0) 3 rfl rfl dX11_isOftenEnough_34 ?_
          refine yj_getf (v := .ref 66) fl_X11_55_11 (by omega) (fq_0 g1) rfl dX11_isOftenEnough_35 ?_
          refine xj_aload_n (n := 0) (i := 0) 3 rfl rfl dX11_isOftenEnough_38 ?_
          refine yj_getf (v := .int (nI (aW A))) fl_X11_93_11 (by omega) (fq_0 g1) (congrArg (fun z => some (Value.int z)) ((C.keep O hf).W O)) dX11_isOftenEnough_39 ?_
          refine yj_aaldN (m := 6) (a := fTX (aW A)) (aW A) (by omega) (fq_66 g1) (by decide) (by decide) rfl (by omega) (by decide) ((C.keep O hf).tx O hW) dX11_isOftenEnough_42 ?_
          refine xj_aload_n (n := 0) (i := 0) 3 rfl rfl dX11_isOftenEnough_43 ?_
          refine yj_getf (v := .int (nI (aN A))) fl_X11_84_11 (by omega) (fq_0 g1) (congrArg (fun z => some (Value.int z)) ((C.keep O hf).N O)) dX11_isOftenEnough_44 ?_
          refine xj_iload (i := 5) 0 rfl dX11_isOftenEnough_47 ?_
          refine xj_iadd dX11_isOftenEnough_49 ?_
          refine xj_top (nI_add _ _) ?_
          refine xj_callV kv_X11_177 (c_X7_passNight l (d + 1) n hn g1 (28 + 3 * s) (fTX (aW A)) (aK A s) (A 2 s) (A 3 s) (ofT (Λ (aW A)) (aK A s) (A 2 s) (A 3 s) (aN A) n1 (A (10 + s)) i) (Λ (aW A)) (fPn_t hs6_s) B ((C.keep O hf).txt hW) (nI ((aN A) + i))) (As := [.ref (fTX (aW A)), .int (nI ((aN A) + i))]) (st := []) (by omega) ((fPn_t hs6_s).2.2.1 _) (ci := 7) rfl rfl rfl rfl (xRm_of (by omega) (by decide) (by omega) (by omega)) (Nat.le_of_ble_eq_true rfl) dX11_isOftenEnough_50 (yk_v (kc := 0) (ks := 0) fun zg3 hzg3 => ?_)
          obtain ⟨hfzg3, Bzg3⟩ := hzg3
          have hxzg3 := hfzg3.mono (fXd_s (t := (aW A)) hs6_s rfl)
          have Czg3 := (C.keep O hf).keep O hxzg3
          refine xj_iinc (n := 1) (i := 4) (v := nI ((scF n1 i) + 1)) (lv1 := [(4, .int (nI ((scF n1 i) + 1))), (5, .int (nI i)), (3, .ref (28 + 3 * s)), (0, .ref 0), (1, .int (nI s)), (2, .int (nI n1))]) 1 rfl (nI_1 (scF n1 i)) rfl (Nat.le_of_ble_eq_true rfl) dX11_isOftenEnough_53 ?_
          have B9 : pnA zg3 (28 + 3 * s) (aK A s) (A 2 s) (A 3 s) (ofT (Λ (aW A)) (aK A s) (A 2 s) (A 3 s) (aN A) n1 (A (10 + s)) (i + 1)) := by have h := Bzg3; unfold ofT; rw [if_neg hnz]; exact h
          refine xj_aload_n (n := 3) (i := 3) 2 rfl rfl dX11_isOftenEnough_56 ?_
          refine xj_aload_n (n := 0) (i := 0) 3 rfl rfl dX11_isOftenEnough_57 ?_
          refine yj_getf (v := .ref 66) fl_X11_55_11 (by omega) (fq_0 zg3) rfl dX11_isOftenEnough_58 ?_
          refine xj_aload_n (n := 0) (i := 0) 3 rfl rfl dX11_isOftenEnough_61 ?_
          refine yj_getf (v := .int (nI (aW A))) fl_X11_93_11 (by omega) (fq_0 zg3) (congrArg (fun z => some (Value.int z)) (Czg3.W O)) dX11_isOftenEnough_62 ?_
          refine yj_aaldN (m := 6) (a := fTX (aW A)) (aW A) (by omega) (fq_66 zg3) (by decide) (by decide) rfl (by omega) (by decide) (Czg3.tx O hW) dX11_isOftenEnough_65 ?_
          refine xj_aload_n (n := 0) (i := 0) 3 rfl rfl dX11_isOftenEnough_66 ?_
          refine yj_getf (v := .int (nI (aN A))) fl_X11_84_11 (by omega) (fq_0 zg3) (congrArg (fun z => some (Value.int z)) (Czg3.N O)) dX11_isOftenEnough_67 ?_
          refine xj_iload (i := 5) 1 rfl dX11_isOftenEnough_70 ?_
          refine xj_iadd dX11_isOftenEnough_72 ?_
          refine xj_top (nI_add _ _) ?_
          refine xj_iconst (v := 1) (by decide) dX11_isOftenEnough_73 ?_
          refine xj_iadd dX11_isOftenEnough_74 ?_
          refine xj_top (nI_1 _) ?_
          refine xj_callV kv_X11_164 (c_X7_seenCells l (d + 0) n hn zg3 (28 + 3 * s) (fTX (aW A)) (aK A s) (A 2 s) (A 3 s) (ofT (Λ (aW A)) (aK A s) (A 2 s) (A 3 s) (aN A) n1 (A (10 + s)) (i + 1)) (Λ (aW A)) (fPn_t hs6_s) B9 (Czg3.txt hW) (nI (aN A + i + 1))) (As := [.ref (fTX (aW A)), .int (nI (aN A + i + 1))]) (st := []) (by omega) ((fPn_t hs6_s).2.2.1 _) (ci := 7) rfl rfl rfl rfl (xRm_of (by omega) (by decide) (by omega) (by omega)) (Nat.le_of_ble_eq_true rfl) dX11_isOftenEnough_75 (yk_i (kc := 0) (ks := 0) fun zv4 zg5 hzg5 => ?_)
          obtain ⟨hvzv4, hfzg5⟩ := hzg5
          have hxzg5 := hfzg5.mono (fX_s (t := (aW A)) hs6_s (Or.inr (Or.inl rfl)))
          have Czg5 := Czg3.keep O hxzg5
          have Bzg5 := B9.keep (fPn_t hs6_s) (Czg3.txt hW).1 hfzg5
          refine xj_aload_n (n := 3) (i := 3) 2 rfl rfl dX11_isOftenEnough_78 ?_
          refine yj_getf (v := .int ((A 3 s))) fl_X11_144_7 (by omega) ((fPn_t hs6_s).2.2.1 (zg5 (28 + 3 * s))) (congrArg (fun z => some (Value.int z)) Bzg5.2.2.1) dX11_isOftenEnough_79 ?_
          refine xj_icmp_eq (tgt := 87) (by decide) dX11_isOftenEnough_82 (fun zc82 => ?_) (fun zc82 => ?_)
          · have hob : ofB A Λ s n1 i = true := decide_eq_true (hvzv4.symm.trans zc82)
            refine xj_iinc (n := 1) (i := 5) (v := nI (i + 1)) (lv1 := [(5, .int (nI (i + 1))), (4, .int (nI ((scF n1 i) + 1))), (3, .ref (28 + 3 * s)), (0, .ref 0), (1, .int (nI s)), (2, .int (nI n1))]) 1 rfl (nI_1 i) rfl (Nat.le_of_ble_eq_true rfl) dX11_isOftenEnough_87 ?_
            refine xj_goto (tgt := 12) (by decide) dX11_isOftenEnough_90 ?_
            refine xj_sub (lv' := [(5, .int (nI (i + 1))), (4, .int (nI ((scF n1 i) + 1))), (3, .ref (28 + 3 * s)), (0, .ref 0), (1, .int (nI s)), (2, .int (nI n1))]) [0, 1, 2, 3, 4, 5] rfl ?_
            rw [show (nI ((scF n1 i) + 1)) = nI (scF n1 (i + 1)) from by rw [show scF n1 i = i % n1 from if_neg hnz, ← nI_1]; exact scF_step hn1.1 i]
            exact ih zg5 ((hf.tr hxzg3).tr hxzg5) Bzg5 (by rw [hz, hstep, if_pos hob])
          · have hob : ¬ ofB A Λ s n1 i = true := fun z => zc82 (hvzv4.trans (of_decide_eq_true z))
            refine xj_iconst (v := 0) (by decide) dX11_isOftenEnough_85 ?_
            exact xj_ireturn rfl nr_b0 (Nat.zero_le _) (Nat.zero_le _) dX11_isOftenEnough_86 (qI_e ⟨by rw [hz, hstep, if_neg hob]; exact (bI_f (by decide)).symm, ((hf.tr hxzg3).tr hxzg5)⟩)
        · have hnz : i % n1 = 0 := Decidable.byContradiction fun e => by have h1 := (nI_eq (by have := Nat.mod_lt i (show 0 < n1 by omega); unfold scF; split <;> omega) (by omega)).mp zc22; unfold scF at h1; rw [if_neg e] at h1; have := Nat.mod_lt i (show 0 < n1 by omega); omega
          refine xj_aload_n (n := 3) (i := 3) 2 rfl rfl dX11_isOftenEnough_25 ?_
          refine xj_iconst (v := 0) (by decide) dX11_isOftenEnough_26 ?_
          refine xj_callV kv_X11_147 (c_X7_dullAll l (d + 5) n hn g1 (28 + 3 * s) (fPn_t hs6_s) 0) (As := [.int 0]) (st := []) (by omega) ((fPn_t hs6_s).2.2.1 _) (ci := 7) rfl rfl rfl rfl (xRm_of (by omega) (by decide) (by omega) (by omega)) (Nat.le_of_ble_eq_true rfl) dX11_isOftenEnough_27 (yk_v (kc := 0) (ks := 0) fun zg6 hzg6 => ?_)
          obtain ⟨hfd, hB0⟩ := hzg6
          have hxzg6 : fr sX g1 zg6 := hfd.mono (fun j hj => by unfold sX; omega)
          have Czg6 := C.keep O (hf.tr hxzg6)
          have Bzg6 : pnA zg6 (28 + 3 * s) (aK A s) (A 2 s) (A 3 s) (fun _ => 0) := ⟨by rw [hfd _ (by omega)]; exact B.1, by rw [hfd _ (by omega)]; exact B.2.1, by rw [hfd _ (by omega)]; exact B.2.2.1, hB0, B.2.2.2.2⟩
          refine xj_iconst (v := 0) (by decide) dX11_isOftenEnough_30 ?_
          refine xj_istore (i := 4) (lv1 := [(4, .int 0), (5, .int (nI i)), (3, .ref (28 + 3 * s)), (0, .ref 0), (1, .int (nI s)), (2, .int (nI n1))]) rfl (Nat.le_of_ble_eq_true rfl) dX11_isOftenEnough_31 ?_
          refine xj_aload_n (n := 3) (i := 3) 2 rfl rfl dX11_isOftenEnough_33 ?_
          refine xj_aload_n (n := 0) (i := 0) 3 rfl rfl dX11_isOftenEnough_34 ?_
          refine yj_getf (v := .ref 66) fl_X11_55_11 (by omega) (fq_0 zg6) rfl dX11_isOftenEnough_35 ?_
          refine xj_aload_n (n := 0) (i := 0) 3 rfl rfl dX11_isOftenEnough_38 ?_
          refine yj_getf (v := .int (nI (aW A))) fl_X11_93_11 (by omega) (fq_0 zg6) (congrArg (fun z => some (Value.int z)) (Czg6.W O)) dX11_isOftenEnough_39 ?_
          refine yj_aaldN (m := 6) (a := fTX (aW A)) (aW A) (by omega) (fq_66 zg6) (by decide) (by decide) rfl (by omega) (by decide) (Czg6.tx O hW) dX11_isOftenEnough_42 ?_
          refine xj_aload_n (n := 0) (i := 0) 3 rfl rfl dX11_isOftenEnough_43 ?_
          refine yj_getf (v := .int (nI (aN A))) fl_X11_84_11 (by omega) (fq_0 zg6) (congrArg (fun z => some (Value.int z)) (Czg6.N O)) dX11_isOftenEnough_44 ?_
          refine xj_iload (i := 5) 1 rfl dX11_isOftenEnough_47 ?_
          refine xj_iadd dX11_isOftenEnough_49 ?_
          refine xj_top (nI_add _ _) ?_
          refine xj_callV kv_X11_177 (c_X7_passNight l (d + 1) n hn zg6 (28 + 3 * s) (fTX (aW A)) (aK A s) (A 2 s) (A 3 s) (fun _ => 0) (Λ (aW A)) (fPn_t hs6_s) Bzg6 (Czg6.txt hW) (nI ((aN A) + i))) (As := [.ref (fTX (aW A)), .int (nI ((aN A) + i))]) (st := []) (by omega) ((fPn_t hs6_s).2.2.1 _) (ci := 7) rfl rfl rfl rfl (xRm_of (by omega) (by decide) (by omega) (by omega)) (Nat.le_of_ble_eq_true rfl) dX11_isOftenEnough_50 (yk_v (kc := 0) (ks := 0) fun zg7 hzg7 => ?_)
          obtain ⟨hfzg7, Bzg7⟩ := hzg7
          have hxzg7 := hfzg7.mono (fXd_s (t := (aW A)) hs6_s rfl)
          have Czg7 := Czg6.keep O hxzg7
          obtain ⟨zv8, ezv8⟩ : ∃ z : Int32, z = 0 + Int32.ofInt (1) := ⟨_, rfl⟩
          refine xj_iinc (i := 4) (v := zv8) (lv1 := [(4, .int zv8), (5, .int (nI i)), (3, .ref (28 + 3 * s)), (0, .ref 0), (1, .int (nI s)), (2, .int (nI n1))]) 0 rfl ezv8.symm rfl (Nat.le_of_ble_eq_true rfl) dX11_isOftenEnough_53 ?_
          have B9 : pnA zg7 (28 + 3 * s) (aK A s) (A 2 s) (A 3 s) (ofT (Λ (aW A)) (aK A s) (A 2 s) (A 3 s) (aN A) n1 (A (10 + s)) (i + 1)) := by have h := Bzg7; unfold ofT; rw [if_pos hnz]; exact h
          refine xj_aload_n (n := 3) (i := 3) 2 rfl rfl dX11_isOftenEnough_56 ?_
          refine xj_aload_n (n := 0) (i := 0) 3 rfl rfl dX11_isOftenEnough_57 ?_
          refine yj_getf (v := .ref 66) fl_X11_55_11 (by omega) (fq_0 zg7) rfl dX11_isOftenEnough_58 ?_
          refine xj_aload_n (n := 0) (i := 0) 3 rfl rfl dX11_isOftenEnough_61 ?_
          refine yj_getf (v := .int (nI (aW A))) fl_X11_93_11 (by omega) (fq_0 zg7) (congrArg (fun z => some (Value.int z)) (Czg7.W O)) dX11_isOftenEnough_62 ?_
          refine yj_aaldN (m := 6) (a := fTX (aW A)) (aW A) (by omega) (fq_66 zg7) (by decide) (by decide) rfl (by omega) (by decide) (Czg7.tx O hW) dX11_isOftenEnough_65 ?_
          refine xj_aload_n (n := 0) (i := 0) 3 rfl rfl dX11_isOftenEnough_66 ?_
          refine yj_getf (v := .int (nI (aN A))) fl_X11_84_11 (by omega) (fq_0 zg7) (congrArg (fun z => some (Value.int z)) (Czg7.N O)) dX11_isOftenEnough_67 ?_
          refine xj_iload (i := 5) 1 rfl dX11_isOftenEnough_70 ?_
          refine xj_iadd dX11_isOftenEnough_72 ?_
          refine xj_top (nI_add _ _) ?_
          refine xj_iconst (v := 1) (by decide) dX11_isOftenEnough_73 ?_
          refine xj_iadd dX11_isOftenEnough_74 ?_
          refine xj_top (nI_1 _) ?_
          refine xj_callV kv_X11_164 (c_X7_seenCells l (d + 0) n hn zg7 (28 + 3 * s) (fTX (aW A)) (aK A s) (A 2 s) (A 3 s) (ofT (Λ (aW A)) (aK A s) (A 2 s) (A 3 s) (aN A) n1 (A (10 + s)) (i + 1)) (Λ (aW A)) (fPn_t hs6_s) B9 (Czg7.txt hW) (nI (aN A + i + 1))) (As := [.ref (fTX (aW A)), .int (nI (aN A + i + 1))]) (st := []) (by omega) ((fPn_t hs6_s).2.2.1 _) (ci := 7) rfl rfl rfl rfl (xRm_of (by omega) (by decide) (by omega) (by omega)) (Nat.le_of_ble_eq_true rfl) dX11_isOftenEnough_75 (yk_i (kc := 0) (ks := 0) fun zv9 zg10 hzg10 => ?_)
          obtain ⟨hvzv9, hfzg10⟩ := hzg10
          have hxzg10 := hfzg10.mono (fX_s (t := (aW A)) hs6_s (Or.inr (Or.inl rfl)))
          have Czg10 := Czg7.keep O hxzg10
          have Bzg10 := B9.keep (fPn_t hs6_s) (Czg7.txt hW).1 hfzg10
          refine xj_aload_n (n := 3) (i := 3) 2 rfl rfl dX11_isOftenEnough_78 ?_
          refine yj_getf (v := .int ((A 3 s))) fl_X11_144_7 (by omega) ((fPn_t hs6_s).2.2.1 (zg10 (28 + 3 * s))) (congrArg (fun z => some (Value.int z)) Bzg10.2.2.1) dX11_isOftenEnough_79 ?_
          refine xj_icmp_eq (tgt := 87) (by decide) dX11_isOftenEnough_82 (fun zc82 => ?_) (fun zc82 => ?_)
          · have hob : ofB A Λ s n1 i = true := decide_eq_true (hvzv9.symm.trans zc82)
            refine xj_iinc (n := 1) (i := 5) (v := nI (i + 1)) (lv1 := [(5, .int (nI (i + 1))), (4, .int zv8), (3, .ref (28 + 3 * s)), (0, .ref 0), (1, .int (nI s)), (2, .int (nI n1))]) 1 rfl (nI_1 i) rfl (Nat.le_of_ble_eq_true rfl) dX11_isOftenEnough_87 ?_
            refine xj_goto (tgt := 12) (by decide) dX11_isOftenEnough_90 ?_
            refine xj_sub (lv' := [(5, .int (nI (i + 1))), (4, .int zv8), (3, .ref (28 + 3 * s)), (0, .ref 0), (1, .int (nI s)), (2, .int (nI n1))]) [0, 1, 2, 3, 4, 5] rfl ?_
            rw [show zv8 = nI (scF n1 (i + 1)) from by rw [ezv8, ← scF_step hn1.1 i, hnz]; rfl]
            exact ih zg10 (((hf.tr hxzg6).tr hxzg7).tr hxzg10) Bzg10 (by rw [hz, hstep, if_pos hob])
          · have hob : ¬ ofB A Λ s n1 i = true := fun z => zc82 (hvzv9.trans (of_decide_eq_true z))
            refine xj_iconst (v := 0) (by decide) dX11_isOftenEnough_85 ?_
            exact xj_ireturn rfl nr_b0 (Nat.zero_le _) (Nat.zero_le _) dX11_isOftenEnough_86 (qI_e ⟨by rw [hz, hstep, if_neg hob]; exact (bI_f (by decide)).symm, (((hf.tr hxzg6).tr hxzg7).tr hxzg10)⟩)
  refine xj_sub (lv' := [(5, .int 0), (4, .int (nI n1)), (3, .ref (28 + 3 * s)), (0, .ref 0), (1, .int (nI s)), (2, .int (nI n1))]) [0, 1, 2, 3, 4, 5] rfl ?_
  exact key 0 (Nat.zero_le _) zg2 hxzg2 Bzg2 rfl
