def clT (A : zSt) (Λ : Nat → xL) (s i : Nat) : Int32 := clearS (Λ (aW A)) (aK A s) (A 2 s) (A 3 s) (rwP A Λ s i) (nI (aN A + i))
def vGuess (A : zSt) (Λ : Nat → xL) (q s what : Int32) : Int32 := if refF A q s = 0 then if 0 ≤ what ∧ what ≤ 1 then if what = 0 then orF (A (40 + q.toNatClampNeg)) (aQ A q.toNatClampNeg) &&& 65535 else 65535 &&& (orF (clT A Λ s.toNatClampNeg) (aQ A q.toNatClampNeg) ^^^ (-1)) else -7 else refF A q s
def vKinds (A : zSt) (Λ : Nat → xL) (q s sort : Int32) : Int32 := if refF A q s = 0 then if 0 ≤ sort ∧ sort ≤ 1 then if sort = 0 then setF (fun k => decide (foF A Λ q.toNatClampNeg s.toNatClampNeg k (A 2 s.toNatClampNeg) (aW A) = -1)) 6 else setF (fun m => decide (foF A Λ q.toNatClampNeg s.toNatClampNeg (aK A s.toNatClampNeg) (nI m) (aW A) = -1)) 10 else -7 else refF A q s
theorem pnA.setK {g : xG} {q k k2 : Nat} {more pic : Int32} {d : Nat → Int32} (h : pnA g q k more pic d) (hk : k2 < 6) : pnA (gs g q 0 (nI k2)) q k2 more pic d := by
  obtain ⟨a, b, c, e, _⟩ := h
  exact ⟨by rw [gs_s, upd_s], by rw [gs_s, upd_n _ _ (by decide)]; exact b, by rw [gs_s, upd_n _ _ (by decide)]; exact c, fun j hj => by rw [gs_n _ _ _ (by omega)]; exact e j hj, hk⟩
theorem pnA.setM {g : xG} {q k : Nat} {more m2 pic : Int32} {d : Nat → Int32} (h : pnA g q k more pic d) : pnA (gs g q 1 m2) q k m2 pic d := by
  obtain ⟨a, b, c, e, f⟩ := h
  exact ⟨by rw [gs_s, upd_n _ _ (by decide)]; exact a, by rw [gs_s, upd_s], by rw [gs_s, upd_n _ _ (by decide)]; exact c, fun j hj => by rw [gs_n _ _ _ (by omega)]; exact e j hj, f⟩
set_option maxHeartbeats 4000000 in
set_option maxRecDepth 100000 in
theorem c_X11_guess (l : Launch) (d : Nat) (n : Nat) (g : xG) (A : zSt) (Λ : Nat → xL) (O : okA A) (C : cA g n A Λ) (q s what : Int32)  : xC l yX11_guess cX11_guess 8 (some .int) (xR (d + 6) 0 0) [.ref 0, .int q, .int s, .int what] (n, fh g) (qI n fun v g1 => v = vGuess A Λ q s what ∧ fr sX g g1) := by
  refine xC_of false (by decide +kernel) (fun z => by cases z) (Nat.le_of_ble_eq_true rfl) ?_
  have hn := C.n110 O
  have hS6 := O.1.2
  have hW := O.W
  have hT6 := O.2.2.2.1.2.2
  have hN9 := O.2.1.2
  show xJ l (RX11, 8, (some .int), false, (xR (d + 6) 0 0), none) cX11_guess _ 0 0 0 [(0, .ref 0), (1, .int q), (2, .int s), (3, .int what)] [] (n, fh g)
  refine xj_aload_n (n := 0) (i := 0) 0 rfl rfl dX11_guess_0 ?_
  refine xj_iload_n (n := 1) (i := 1) 1 rfl rfl dX11_guess_1 ?_
  refine xj_iload_n (n := 2) (i := 2) 2 rfl rfl dX11_guess_2 ?_
  refine xj_callV kv_X11_211 (c_X11_refusalOf l (d + 3) n g A Λ O C q s) (As := [.int q, .int s]) (st := []) (by omega) (fq_0 g) (ci := 11) rfl rfl rfl rfl (xRm_of (by omega) (by decide) (by omega) (by omega)) (Nat.le_of_ble_eq_true rfl) dX11_guess_3 (yk_p (kc := 0) (ks := 0) ?_)
  refine xj_istore (i := 4) (lv1 := [(4, .int (refF A q s)), (0, .ref 0), (1, .int q), (2, .int s), (3, .int what)]) rfl (Nat.le_of_ble_eq_true rfl) dX11_guess_6 ?_
  refine xj_iload (i := 4) 0 rfl dX11_guess_8 ?_
  refine xj_if_eq (tgt := 16) (by decide) dX11_guess_10 (fun zc10 => ?_) (fun zc10 => ?_)
  · obtain ⟨kq, ks, hk4_kq, hks, rfl, rfl, hz20⟩ := refF_0 O zc10
    have hs6_ks : ks < 6 := by omega
    refine xj_iload_n (n := 3) (i := 3) 4 rfl rfl dX11_guess_16 ?_
    refine xj_iconst (v := 1) (by decide) dX11_guess_17 ?_
    refine xj_callS ks_X11_107 (c_X11_within l (d + 5) what 1 _) (As := [.int what, .int 1]) (st := []) rfl rfl (xRm_of (by omega) (by decide) (by omega) (by omega)) (Nat.le_of_ble_eq_true rfl) dX11_guess_18 (yk_p (kc := 0) (ks := 0) ?_)
    refine xj_if_ne (tgt := 27) (by decide) dX11_guess_21 (fun zc21 => ?_) (fun zc21 => ?_)
    · have zp21 : 0 ≤ what ∧ what ≤ 1 := bI_n0.mp zc21
      obtain ⟨kwhat, hkwhat, rfl⟩ := nI_bnd (m := 1) (by decide) zp21.1 zp21.2
      refine xj_iload_n (n := 3) (i := 3) 4 rfl rfl dX11_guess_27 ?_
      refine xj_if_ne (tgt := 44) (by decide) dX11_guess_28 (fun zc28 => ?_) (fun zc28 => ?_)
      · refine xj_iconst (v := 0) (by decide) dX11_guess_44 ?_
        refine xj_istore (i := 5) (lv1 := [(5, .int 0), (4, .int (refF A (nI kq) (nI ks))), (0, .ref 0), (1, .int (nI kq)), (2, .int (nI ks)), (3, .int (nI kwhat))]) rfl (Nat.le_of_ble_eq_true rfl) dX11_guess_45 ?_
        refine xj_aload_n (n := 0) (i := 0) 2 rfl rfl dX11_guess_47 ?_
        refine xj_iload_n (n := 2) (i := 2) 4 rfl rfl dX11_guess_48 ?_
        refine xj_callV kv_X11_184 (c_X11_inThought l (d + 3) n g A Λ O C ks hks) (As := [.int (nI ks)]) (st := []) (by omega) (fq_0 g) (ci := 11) rfl rfl rfl rfl (xRm_of (by omega) (by decide) (by omega) (by omega)) (Nat.le_of_ble_eq_true rfl) dX11_guess_49 (yk_r (kc := 0) (ks := 0) fun zv1 zg2 hzg2 => ?_)
        obtain ⟨hvzv1, hxzg2, Bzg2⟩ := hzg2
        subst hvzv1
        have Czg2 := C.keep O hxzg2
        refine xj_astore (i := 6) (lv1 := [(6, .ref (28 + 3 * ks)), (5, .int 0), (4, .int (refF A (nI kq) (nI ks))), (0, .ref 0), (1, .int (nI kq)), (2, .int (nI ks)), (3, .int (nI kwhat))]) rfl (Nat.le_of_ble_eq_true rfl) dX11_guess_52 ?_
        refine xj_iconst (v := 0) (by decide) dX11_guess_54 ?_
        refine xj_istore (i := 7) (lv1 := [(7, .int 0), (6, .ref (28 + 3 * ks)), (5, .int 0), (4, .int (refF A (nI kq) (nI ks))), (0, .ref 0), (1, .int (nI kq)), (2, .int (nI ks)), (3, .int (nI kwhat))]) rfl (Nat.le_of_ble_eq_true rfl) dX11_guess_55 ?_
        have key : ∀ i, i ≤ aQ A kq → ∀ (g1 : xG), fr sX g g1 → pnA g1 (28 + 3 * ks) (aK A ks) (A 2 ks) (A 3 ks) (rwP A Λ ks i) → xJ l (RX11, 8, (some .int), false, (xR (d + 6) 0 0), none) cX11_guess (qI n fun v g1 => v = vGuess A Λ (nI kq) (nI ks) (nI kwhat) ∧ fr sX g g1) 0 0 57 [(7, .int (nI i)), (5, .int (orF (clT A Λ ks) i)), (6, .ref (28 + 3 * ks)), (0, .ref 0), (1, .int (nI kq)), (2, .int (nI ks)), (3, .int (nI kwhat))] [] (n, fh g1) := by
          refine x_loop (aQ A kq) _ ?_ ?_
          · intro g1 hf B
            refine xj_iload (i := 7) 0 rfl dX11_guess_57 ?_
            refine xj_aload_n (n := 0) (i := 0) 3 rfl rfl dX11_guess_59 ?_
            refine yj_getf (v := .ref 71) fl_X11_69_11 (by omega) (fq_0 g1) rfl dX11_guess_60 ?_
            refine xj_iload_n (n := 1) (i := 1) 4 rfl rfl dX11_guess_63 ?_
            refine yj_aaldN (m := 4) (a := 72 + 2 * kq) kq (by omega) (fq_71 g1) (by decide) (by decide) rfl (by omega) (by decide) (if_pos (by omega)) dX11_guess_64 ?_
            refine yj_getf (v := .int (nI (aQ A kq))) fl_X11_229_8 (by omega) ((fSt_q hk4_kq).2.1 (g1 (72 + 2 * kq))) (congrArg (fun z => some (Value.int z)) ((C.keep O hf).qz O hk4_kq)) dX11_guess_65 ?_
            refine xj_icmp_ge (tgt := 124) (by decide) dX11_guess_68 (fun zc68 => ?_) (fun zc68 => ?_)
            · refine xj_ldc cn_X11_136 dX11_guess_124 ?_
              refine xj_iload (i := 5) 1 rfl dX11_guess_126 ?_
              refine xj_iconst (v := (-1)) (by decide) dX11_guess_128 ?_
              refine xj_ixor dX11_guess_129 ?_
              refine xj_iand dX11_guess_130 ?_
              exact xj_ireturn rfl (nr_i _) (Nat.zero_le _) (Nat.zero_le _) dX11_guess_131 (qI_e ⟨by unfold vGuess; (try simp only [nI_clamp (show kq < 2147483648 by omega), nI_clamp (show ks < 2147483648 by omega), nI_clamp (show kwhat < 2147483648 by omega)]); rw [if_pos zc10, if_pos zp21, if_neg zc28]; all_goals (rfl), hf⟩)
            · exact absurd (nI_le (Nat.le_refl _) (by omega)) zc68
          · intro i hi ih g1 hf B
            refine xj_iload (i := 7) 0 rfl dX11_guess_57 ?_
            refine xj_aload_n (n := 0) (i := 0) 3 rfl rfl dX11_guess_59 ?_
            refine yj_getf (v := .ref 71) fl_X11_69_11 (by omega) (fq_0 g1) rfl dX11_guess_60 ?_
            refine xj_iload_n (n := 1) (i := 1) 4 rfl rfl dX11_guess_63 ?_
            refine yj_aaldN (m := 4) (a := 72 + 2 * kq) kq (by omega) (fq_71 g1) (by decide) (by decide) rfl (by omega) (by decide) (if_pos (by omega)) dX11_guess_64 ?_
            refine yj_getf (v := .int (nI (aQ A kq))) fl_X11_229_8 (by omega) ((fSt_q hk4_kq).2.1 (g1 (72 + 2 * kq))) (congrArg (fun z => some (Value.int z)) ((C.keep O hf).qz O hk4_kq)) dX11_guess_65 ?_
            refine xj_icmp_ge (tgt := 124) (by decide) dX11_guess_68 (fun zc68 => ?_) (fun zc68 => ?_)
            · exact absurd zc68 (nI_ge hi (by omega))
            · refine xj_iload (i := 5) 1 rfl dX11_guess_71 ?_
              refine xj_aload (i := 6) 2 rfl dX11_guess_73 ?_
              refine xj_aload_n (n := 0) (i := 0) 3 rfl rfl dX11_guess_75 ?_
              refine yj_getf (v := .ref 66) fl_X11_55_11 (by omega) (fq_0 g1) rfl dX11_guess_76 ?_
              refine xj_aload_n (n := 0) (i := 0) 3 rfl rfl dX11_guess_79 ?_
              refine yj_getf (v := .int (nI (aW A))) fl_X11_93_11 (by omega) (fq_0 g1) (congrArg (fun z => some (Value.int z)) ((C.keep O hf).W O)) dX11_guess_80 ?_
              refine yj_aaldN (m := 6) (a := fTX (aW A)) (aW A) (by omega) (fq_66 g1) (by decide) (by decide) rfl (by omega) (by decide) ((C.keep O hf).tx O hW) dX11_guess_83 ?_
              refine xj_aload_n (n := 0) (i := 0) 3 rfl rfl dX11_guess_84 ?_
              refine yj_getf (v := .int (nI (aN A))) fl_X11_84_11 (by omega) (fq_0 g1) (congrArg (fun z => some (Value.int z)) ((C.keep O hf).N O)) dX11_guess_85 ?_
              refine xj_iload (i := 7) 0 rfl dX11_guess_88 ?_
              refine xj_iadd dX11_guess_90 ?_
              refine xj_top (nI_add _ _) ?_
              refine xj_callV kv_X11_160 (c_X7_clearCells l (d + 1) n hn g1 (28 + 3 * ks) (fTX (aW A)) (aK A ks) (A 2 ks) (A 3 ks) (rwP A Λ ks i) (Λ (aW A)) (fPn_t hs6_ks) B ((C.keep O hf).txt hW) (nI ((aN A) + i))) (As := [.ref (fTX (aW A)), .int (nI ((aN A) + i))]) (st := [.int (orF (clT A Λ ks) i)]) (by omega) ((fPn_t hs6_ks).2.2.1 _) (ci := 7) rfl rfl rfl rfl (xRm_of (by omega) (by decide) (by omega) (by omega)) (Nat.le_of_ble_eq_true rfl) dX11_guess_91 (yk_i (kc := 0) (ks := 0) fun zv3 zg4 hzg4 => ?_)
              obtain ⟨hvzv3, hfzg4⟩ := hzg4
              have hxzg4 := hfzg4.mono (fX_s (t := (aW A)) hs6_ks (Or.inr (Or.inl rfl)))
              have Czg4 := (C.keep O hf).keep O hxzg4
              have Bzg4 := B.keep (fPn_t hs6_ks) ((C.keep O hf).txt hW).1 hfzg4
              refine xj_ior dX11_guess_94 ?_
              refine xj_topi (fun zv5 ezv5 => ?_)
              refine xj_istore (i := 5) (lv1 := [(5, .int zv5), (7, .int (nI i)), (6, .ref (28 + 3 * ks)), (0, .ref 0), (1, .int (nI kq)), (2, .int (nI ks)), (3, .int (nI kwhat))]) rfl (Nat.le_of_ble_eq_true rfl) dX11_guess_95 ?_
              refine xj_aload (i := 6) 2 rfl dX11_guess_97 ?_
              refine xj_aload_n (n := 0) (i := 0) 3 rfl rfl dX11_guess_99 ?_
              refine yj_getf (v := .ref 66) fl_X11_55_11 (by omega) (fq_0 zg4) rfl dX11_guess_100 ?_
              refine xj_aload_n (n := 0) (i := 0) 3 rfl rfl dX11_guess_103 ?_
              refine yj_getf (v := .int (nI (aW A))) fl_X11_93_11 (by omega) (fq_0 zg4) (congrArg (fun z => some (Value.int z)) (Czg4.W O)) dX11_guess_104 ?_
              refine yj_aaldN (m := 6) (a := fTX (aW A)) (aW A) (by omega) (fq_66 zg4) (by decide) (by decide) rfl (by omega) (by decide) (Czg4.tx O hW) dX11_guess_107 ?_
              refine xj_aload_n (n := 0) (i := 0) 3 rfl rfl dX11_guess_108 ?_
              refine yj_getf (v := .int (nI (aN A))) fl_X11_84_11 (by omega) (fq_0 zg4) (congrArg (fun z => some (Value.int z)) (Czg4.N O)) dX11_guess_109 ?_
              refine xj_iload (i := 7) 1 rfl dX11_guess_112 ?_
              refine xj_iadd dX11_guess_114 ?_
              refine xj_top (nI_add _ _) ?_
              refine xj_callV kv_X11_177 (c_X7_passNight l (d + 1) n hn zg4 (28 + 3 * ks) (fTX (aW A)) (aK A ks) (A 2 ks) (A 3 ks) (rwP A Λ ks i) (Λ (aW A)) (fPn_t hs6_ks) Bzg4 (Czg4.txt hW) (nI ((aN A) + i))) (As := [.ref (fTX (aW A)), .int (nI ((aN A) + i))]) (st := []) (by omega) ((fPn_t hs6_ks).2.2.1 _) (ci := 7) rfl rfl rfl rfl (xRm_of (by omega) (by decide) (by omega) (by omega)) (Nat.le_of_ble_eq_true rfl) dX11_guess_115 (yk_v (kc := 0) (ks := 0) fun zg6 hzg6 => ?_)
              obtain ⟨hfzg6, Bzg6⟩ := hzg6
              have hxzg6 := hfzg6.mono (fXd_s (t := (aW A)) hs6_ks rfl)
              have Czg6 := Czg4.keep O hxzg6
              refine xj_iinc (n := 1) (i := 7) (v := nI (i + 1)) (lv1 := [(7, .int (nI (i + 1))), (5, .int zv5), (6, .ref (28 + 3 * ks)), (0, .ref 0), (1, .int (nI kq)), (2, .int (nI ks)), (3, .int (nI kwhat))]) 1 rfl (nI_1 i) rfl (Nat.le_of_ble_eq_true rfl) dX11_guess_118 ?_
              refine xj_goto (tgt := 57) (by decide) dX11_guess_121 ?_
              refine xj_sub (lv' := [(7, .int (nI (i + 1))), (5, .int zv5), (6, .ref (28 + 3 * ks)), (0, .ref 0), (1, .int (nI kq)), (2, .int (nI ks)), (3, .int (nI kwhat))]) [0, 1, 2, 3, 4, 5, 6] rfl ?_
              have h9 := ih zg6 ((hf.tr hxzg4).tr hxzg6) Bzg6
              rw [show orF (clT A Λ ks) (i + 1) = zv5 from by rw [ezv5, hvzv3]; rfl] at h9
              exact h9
        refine xj_sub (lv' := [(7, .int 0), (5, .int 0), (6, .ref (28 + 3 * ks)), (0, .ref 0), (1, .int (nI kq)), (2, .int (nI ks)), (3, .int (nI kwhat))]) [0, 2, 1, 4, 5, 6, 7] rfl ?_
        exact key 0 (Nat.zero_le _) zg2 hxzg2 Bzg2
      · refine xj_aload_n (n := 0) (i := 0) 1 rfl rfl dX11_guess_31 ?_
        refine yj_getf (v := .ref 71) fl_X11_69_11 (by omega) (fq_0 g) rfl dX11_guess_32 ?_
        refine xj_iload_n (n := 1) (i := 1) 2 rfl rfl dX11_guess_35 ?_
        refine yj_aaldN (m := 4) (a := 72 + 2 * kq) kq (by omega) (fq_71 g) (by decide) (by decide) rfl (by omega) (by decide) (if_pos (by omega)) dX11_guess_36 ?_
        refine xj_callV kv_X11_226 (c_X8_anyBits l (d + 5) n hn g (72 + 2 * kq) (fSt_q hk4_kq) (aQ A kq) (by omega) (C.qz O hk4_kq)) (As := []) (st := []) (by omega) ((fSt_q hk4_kq).2.1 _) (ci := 8) rfl rfl rfl rfl (xRm_of (by omega) (by decide) (by omega) (by omega)) (Nat.le_of_ble_eq_true rfl) dX11_guess_37 (yk_p (kc := 0) (ks := 0) ?_)
        refine xj_top (show (orF (g (72 + 2 * kq + 1)) (aQ A kq)) = orF (A (40 + kq)) (aQ A kq) from (orF_congr (fun j hj => C.qn hk4_kq (by omega)))) ?_
        refine xj_ldc cn_X11_136 dX11_guess_40 ?_
        refine xj_iand dX11_guess_42 ?_
        exact xj_ireturn rfl (nr_i _) (Nat.zero_le _) (Nat.zero_le _) dX11_guess_43 (qI_e ⟨by unfold vGuess; (try simp only [nI_clamp (show kq < 2147483648 by omega), nI_clamp (show ks < 2147483648 by omega), nI_clamp (show kwhat < 2147483648 by omega)]); rw [if_pos zc10, if_pos zp21, if_pos zc28]; all_goals (rfl), fr.rf⟩)
    · have zp21 : ¬ (0 ≤ what ∧ what ≤ 1) := bI_0.mp zc21
      refine xj_bipush (v := (-7)) (by decide) dX11_guess_24 ?_
      exact xj_ireturn rfl (nr_i _) (Nat.zero_le _) (Nat.zero_le _) dX11_guess_26 (qI_e ⟨by unfold vGuess; (try simp only [nI_clamp (show kq < 2147483648 by omega), nI_clamp (show ks < 2147483648 by omega)]); rw [if_pos zc10, if_neg zp21]; all_goals (rfl), fr.rf⟩)
  · refine xj_iload (i := 4) 0 rfl dX11_guess_13 ?_
    exact xj_ireturn rfl (nr_i _) (Nat.zero_le _) (Nat.zero_le _) dX11_guess_15 (qI_e ⟨by unfold vGuess; rw [if_neg zc10]; all_goals (rfl), fr.rf⟩)
set_option maxHeartbeats 4000000 in
set_option maxRecDepth 100000 in
theorem c_X11_kinds (l : Launch) (d : Nat) (n : Nat) (g : xG) (A : zSt) (Λ : Nat → xL) (O : okA A) (C : cA g n A Λ) (q s sort : Int32)  : xC l yX11_kinds cX11_kinds 9 (some .int) (xR (d + 7) 0 0) [.ref 0, .int q, .int s, .int sort] (n, fh g) (qI n fun v g1 => v = vKinds A Λ q s sort ∧ fr sX g g1) := by
  refine xC_of false (by decide +kernel) (fun z => by cases z) (Nat.le_of_ble_eq_true rfl) ?_
  have hn := C.n110 O
  have hS6 := O.1.2
  have hW := O.W
  have hT6 := O.2.2.2.1.2.2
  have hN9 := O.2.1.2
  show xJ l (RX11, 9, (some .int), false, (xR (d + 7) 0 0), none) cX11_kinds _ 0 0 0 [(0, .ref 0), (1, .int q), (2, .int s), (3, .int sort)] [] (n, fh g)
  refine xj_aload_n (n := 0) (i := 0) 0 rfl rfl dX11_kinds_0 ?_
  refine xj_iload_n (n := 1) (i := 1) 1 rfl rfl dX11_kinds_1 ?_
  refine xj_iload_n (n := 2) (i := 2) 2 rfl rfl dX11_kinds_2 ?_
  refine xj_callV kv_X11_211 (c_X11_refusalOf l (d + 4) n g A Λ O C q s) (As := [.int q, .int s]) (st := []) (by omega) (fq_0 g) (ci := 11) rfl rfl rfl rfl (xRm_of (by omega) (by decide) (by omega) (by omega)) (Nat.le_of_ble_eq_true rfl) dX11_kinds_3 (yk_p (kc := 0) (ks := 0) ?_)
  refine xj_istore (i := 4) (lv1 := [(4, .int (refF A q s)), (0, .ref 0), (1, .int q), (2, .int s), (3, .int sort)]) rfl (Nat.le_of_ble_eq_true rfl) dX11_kinds_6 ?_
  refine xj_iload (i := 4) 0 rfl dX11_kinds_8 ?_
  refine xj_if_eq (tgt := 16) (by decide) dX11_kinds_10 (fun zc10 => ?_) (fun zc10 => ?_)
  · obtain ⟨kq, ks, hk4_kq, hks, rfl, rfl, hz20⟩ := refF_0 O zc10
    have hs6_ks : ks < 6 := by omega
    refine xj_iload_n (n := 3) (i := 3) 4 rfl rfl dX11_kinds_16 ?_
    refine xj_iconst (v := 1) (by decide) dX11_kinds_17 ?_
    refine xj_callS ks_X11_107 (c_X11_within l (d + 6) sort 1 _) (As := [.int sort, .int 1]) (st := []) rfl rfl (xRm_of (by omega) (by decide) (by omega) (by omega)) (Nat.le_of_ble_eq_true rfl) dX11_kinds_18 (yk_p (kc := 0) (ks := 0) ?_)
    refine xj_if_ne (tgt := 27) (by decide) dX11_kinds_21 (fun zc21 => ?_) (fun zc21 => ?_)
    · have zp21 : 0 ≤ sort ∧ sort ≤ 1 := bI_n0.mp zc21
      obtain ⟨ksort, hksort, rfl⟩ := nI_bnd (m := 1) (by decide) zp21.1 zp21.2
      refine xj_iconst (v := 0) (by decide) dX11_kinds_27 ?_
      refine xj_istore (i := 5) (lv1 := [(5, .int 0), (4, .int (refF A (nI kq) (nI ks))), (0, .ref 0), (1, .int (nI kq)), (2, .int (nI ks)), (3, .int (nI ksort))]) rfl (Nat.le_of_ble_eq_true rfl) dX11_kinds_28 ?_
      refine xj_iload_n (n := 3) (i := 3) 5 rfl rfl dX11_kinds_30 ?_
      refine xj_if_ne (tgt := 39) (by decide) dX11_kinds_31 (fun zc31 => ?_) (fun zc31 => ?_)
      · refine xj_bipush (v := 10) (by decide) dX11_kinds_39 ?_
        refine xj_istore (i := 6) (lv1 := [(6, .int 10), (5, .int 0), (4, .int (refF A (nI kq) (nI ks))), (0, .ref 0), (1, .int (nI kq)), (2, .int (nI ks)), (3, .int (nI ksort))]) rfl (Nat.le_of_ble_eq_true rfl) dX11_kinds_41 ?_
        refine xj_iconst (v := 0) (by decide) dX11_kinds_43 ?_
        refine xj_istore (i := 7) (lv1 := [(7, .int 0), (6, .int 10), (5, .int 0), (4, .int (refF A (nI kq) (nI ks))), (0, .ref 0), (1, .int (nI kq)), (2, .int (nI ks)), (3, .int (nI ksort))]) rfl (Nat.le_of_ble_eq_true rfl) dX11_kinds_44 ?_
        have key : ∀ i, i ≤ 10 → ∀ (g1 : xG), fr sX g g1 → xJ l (RX11, 9, (some .int), false, (xR (d + 7) 0 0), none) cX11_kinds (qI n fun v g1 => v = vKinds A Λ (nI kq) (nI ks) (nI ksort) ∧ fr sX g g1) 0 0 46 [(7, .int (nI i)), (5, .int (setF (fun m => decide (foF A Λ kq ks (aK A ks) (nI m) (aW A) = -1)) i)), (6, .int 10), (0, .ref 0), (1, .int (nI kq)), (2, .int (nI ks)), (3, .int (nI ksort))] [] (n, fh g1) := by
          refine x_loop 10 _ ?_ ?_
          · intro g1 hf
            refine xj_iload (i := 7) 0 rfl dX11_kinds_46 ?_
            refine xj_iload (i := 6) 2 rfl dX11_kinds_48 ?_
            refine xj_icmp_ge (tgt := 126) (by decide) dX11_kinds_50 (fun zc50 => ?_) (fun zc50 => ?_)
            · refine xj_iload (i := 5) 1 rfl dX11_kinds_126 ?_
              exact xj_ireturn rfl (nr_i _) (Nat.zero_le _) (Nat.zero_le _) dX11_kinds_128 (qI_e ⟨by unfold vKinds; (try simp only [nI_clamp (show kq < 2147483648 by omega), nI_clamp (show ks < 2147483648 by omega), nI_clamp (show ksort < 2147483648 by omega)]); rw [if_pos zc10, if_pos zp21, if_neg zc31]; all_goals (rfl), hf⟩)
            · exact absurd (nI_le (Nat.le_refl _) (by decide)) zc50
          · intro i hi ih g1 hf
            refine xj_iload (i := 7) 0 rfl dX11_kinds_46 ?_
            refine xj_iload (i := 6) 2 rfl dX11_kinds_48 ?_
            refine xj_icmp_ge (tgt := 126) (by decide) dX11_kinds_50 (fun zc50 => ?_) (fun zc50 => ?_)
            · exact absurd zc50 (nI_ge hi (by decide))
            · refine xj_aload_n (n := 0) (i := 0) 3 rfl rfl dX11_kinds_53 ?_
              refine xj_iload_n (n := 2) (i := 2) 5 rfl rfl dX11_kinds_54 ?_
              refine xj_callV kv_X11_184 (c_X11_inThought l (d + 4) n g1 A Λ O (C.keep O hf) ks hks) (As := [.int (nI ks)]) (st := []) (by omega) (fq_0 g1) (ci := 11) rfl rfl rfl rfl (xRm_of (by omega) (by decide) (by omega) (by omega)) (Nat.le_of_ble_eq_true rfl) dX11_kinds_55 (yk_r (kc := 0) (ks := 0) fun zv1 zg2 hzg2 => ?_)
              obtain ⟨hvzv1, hxzg2, Bzg2⟩ := hzg2
              subst hvzv1
              have Czg2 := (C.keep O hf).keep O hxzg2
              refine xj_astore (i := 8) (lv1 := [(8, .ref (28 + 3 * ks)), (7, .int (nI i)), (5, .int (setF (fun m => decide (foF A Λ kq ks (aK A ks) (nI m) (aW A) = -1)) i)), (6, .int 10), (0, .ref 0), (1, .int (nI kq)), (2, .int (nI ks)), (3, .int (nI ksort))]) rfl (Nat.le_of_ble_eq_true rfl) dX11_kinds_58 ?_
              refine xj_iload_n (n := 3) (i := 3) 7 rfl rfl dX11_kinds_60 ?_
              refine xj_if_ne (tgt := 79) (by decide) dX11_kinds_61 (fun zc61 => ?_) (fun zc61 => ?_)
              · refine xj_aload (i := 8) 0 rfl dX11_kinds_79 ?_
                refine xj_iload (i := 7) 1 rfl dX11_kinds_81 ?_
                refine yj_puti fl_X11_141_7 (by omega) (fPn_S (fPn_t hs6_ks) 1 (by decide)) (fi_i _) dX11_kinds_83 ?_
                obtain ⟨zg3, ezg3⟩ : ∃ z, z = gs zg2 (28 + 3 * ks) 1 (nI i) := ⟨_, rfl⟩
                rw [← ezg3]
                have hxzg3 : fr sX g zg3 := by rw [ezg3]; exact (hf.tr hxzg2).gs (by unfold sX; omega) _ _
                have Czg3 := C.keep O hxzg3
                have Bzg3 := Bzg2.setM (m2 := nI i)
                rw [← ezg3] at Bzg3
                refine xj_aload_n (n := 0) (i := 0) 4 rfl rfl dX11_kinds_86 ?_
                refine xj_aload_n (n := 0) (i := 0) 4 rfl rfl dX11_kinds_87 ?_
                refine yj_getf (v := .ref 71) fl_X11_69_11 (by omega) (fq_0 zg3) rfl dX11_kinds_88 ?_
                refine xj_iload_n (n := 1) (i := 1) 5 rfl rfl dX11_kinds_91 ?_
                refine yj_aaldN (m := 4) (a := 72 + 2 * kq) kq (by omega) (fq_71 zg3) (by decide) (by decide) rfl (by omega) (by decide) (if_pos (by omega)) dX11_kinds_92 ?_
                refine xj_aload (i := 8) 0 rfl dX11_kinds_93 ?_
                refine xj_aload_n (n := 0) (i := 0) 4 rfl rfl dX11_kinds_95 ?_
                refine yj_getf (v := .ref 66) fl_X11_55_11 (by omega) (fq_0 zg3) rfl dX11_kinds_96 ?_
                refine xj_aload_n (n := 0) (i := 0) 4 rfl rfl dX11_kinds_99 ?_
                refine yj_getf (v := .int (nI (aW A))) fl_X11_93_11 (by omega) (fq_0 zg3) (congrArg (fun z => some (Value.int z)) (Czg3.W O)) dX11_kinds_100 ?_
                refine yj_aaldN (m := 6) (a := fTX (aW A)) (aW A) (by omega) (fq_66 zg3) (by decide) (by decide) rfl (by omega) (by decide) (Czg3.tx O hW) dX11_kinds_103 ?_
                refine xj_callV kv_X11_214 (c_X11_firstOtherwise l (d + 0) n zg3 A Λ O Czg3 kq ks (aW A) (aK A ks) hk4_kq hks hW (nI i) Bzg3) (As := [.ref (72 + 2 * kq), .ref (28 + 3 * ks), .ref (fTX (aW A))]) (st := []) (by omega) (fq_0 zg3) (ci := 11) rfl rfl rfl rfl (xRm_of (by omega) (by decide) (by omega) (by omega)) (Nat.le_of_ble_eq_true rfl) dX11_kinds_104 (yk_i (kc := 0) (ks := 0) fun zv4 zg5 hzg5 => ?_)
                obtain ⟨hvzv4, hxzg5⟩ := hzg5
                have Czg5 := Czg3.keep O hxzg5
                refine xj_iconst (v := (-1)) (by decide) dX11_kinds_107 ?_
                refine xj_icmp_ne (tgt := 120) (by decide) dX11_kinds_108 (fun zc108 => ?_) (fun zc108 => ?_)
                · have hcl : ¬ decide (foF A Λ kq ks (aK A ks) (nI i) (aW A) = -1) = true := fun z => zc108 (hvzv4.trans (of_decide_eq_true z))
                  refine xj_iinc (n := 1) (i := 7) (v := nI (i + 1)) (lv1 := [(7, .int (nI (i + 1))), (8, .ref (28 + 3 * ks)), (5, .int (setF (fun m => decide (foF A Λ kq ks (aK A ks) (nI m) (aW A) = -1)) i)), (6, .int 10), (0, .ref 0), (1, .int (nI kq)), (2, .int (nI ks)), (3, .int (nI ksort))]) 1 rfl (nI_1 i) rfl (Nat.le_of_ble_eq_true rfl) dX11_kinds_120 ?_
                  refine xj_goto (tgt := 46) (by decide) dX11_kinds_123 ?_
                  refine xj_sub (lv' := [(7, .int (nI (i + 1))), (5, .int (setF (fun m => decide (foF A Λ kq ks (aK A ks) (nI m) (aW A) = -1)) i)), (6, .int 10), (0, .ref 0), (1, .int (nI kq)), (2, .int (nI ks)), (3, .int (nI ksort))]) [0, 2, 3, 4, 5, 6, 7] rfl ?_
                  have h9 := ih zg5 (hxzg3.tr hxzg5)
                  rw [show setF (fun m => decide (foF A Λ kq ks (aK A ks) (nI m) (aW A) = -1)) (i + 1) = setF (fun m => decide (foF A Λ kq ks (aK A ks) (nI m) (aW A) = -1)) i from if_neg hcl] at h9
                  exact h9
                · have hcl : decide (foF A Λ kq ks (aK A ks) (nI i) (aW A) = -1) = true := decide_eq_true (hvzv4.symm.trans zc108)
                  refine xj_iload (i := 5) 2 rfl dX11_kinds_111 ?_
                  refine xj_iconst (v := 1) (by decide) dX11_kinds_113 ?_
                  refine xj_iload (i := 7) 1 rfl dX11_kinds_114 ?_
                  refine xj_ishl dX11_kinds_116 ?_
                  refine xj_ior dX11_kinds_117 ?_
                  refine xj_topi (fun zv6 ezv6 => ?_)
                  refine xj_istore (i := 5) (lv1 := [(5, .int zv6), (8, .ref (28 + 3 * ks)), (7, .int (nI i)), (6, .int 10), (0, .ref 0), (1, .int (nI kq)), (2, .int (nI ks)), (3, .int (nI ksort))]) rfl (Nat.le_of_ble_eq_true rfl) dX11_kinds_118 ?_
                  refine xj_iinc (n := 1) (i := 7) (v := nI (i + 1)) (lv1 := [(7, .int (nI (i + 1))), (5, .int zv6), (8, .ref (28 + 3 * ks)), (6, .int 10), (0, .ref 0), (1, .int (nI kq)), (2, .int (nI ks)), (3, .int (nI ksort))]) 2 rfl (nI_1 i) rfl (Nat.le_of_ble_eq_true rfl) dX11_kinds_120 ?_
                  refine xj_goto (tgt := 46) (by decide) dX11_kinds_123 ?_
                  refine xj_sub (lv' := [(7, .int (nI (i + 1))), (5, .int zv6), (6, .int 10), (0, .ref 0), (1, .int (nI kq)), (2, .int (nI ks)), (3, .int (nI ksort))]) [0, 1, 3, 4, 5, 6, 7] rfl ?_
                  have h9 := ih zg5 (hxzg3.tr hxzg5)
                  rw [show setF (fun m => decide (foF A Λ kq ks (aK A ks) (nI m) (aW A) = -1)) (i + 1) = zv6 from (if_pos hcl).trans ezv6.symm] at h9
                  exact h9
              · exact absurd zc61 zc31
        refine xj_sub (lv' := [(7, .int 0), (5, .int 0), (6, .int 10), (0, .ref 0), (1, .int (nI kq)), (2, .int (nI ks)), (3, .int (nI ksort))]) [0, 2, 1, 4, 5, 6, 7] rfl ?_
        exact key 0 (Nat.zero_le _) g fr.rf
      · refine xj_bipush (v := 6) (by decide) dX11_kinds_34 ?_
        refine xj_goto (tgt := 41) (by decide) dX11_kinds_36 ?_
        refine xj_istore (i := 6) (lv1 := [(6, .int 6), (5, .int 0), (4, .int (refF A (nI kq) (nI ks))), (0, .ref 0), (1, .int (nI kq)), (2, .int (nI ks)), (3, .int (nI ksort))]) rfl (Nat.le_of_ble_eq_true rfl) dX11_kinds_41 ?_
        refine xj_iconst (v := 0) (by decide) dX11_kinds_43 ?_
        refine xj_istore (i := 7) (lv1 := [(7, .int 0), (6, .int 6), (5, .int 0), (4, .int (refF A (nI kq) (nI ks))), (0, .ref 0), (1, .int (nI kq)), (2, .int (nI ks)), (3, .int (nI ksort))]) rfl (Nat.le_of_ble_eq_true rfl) dX11_kinds_44 ?_
        have key : ∀ i, i ≤ 6 → ∀ (g1 : xG), fr sX g g1 → xJ l (RX11, 9, (some .int), false, (xR (d + 7) 0 0), none) cX11_kinds (qI n fun v g1 => v = vKinds A Λ (nI kq) (nI ks) (nI ksort) ∧ fr sX g g1) 0 0 46 [(7, .int (nI i)), (5, .int (setF (fun k => decide (foF A Λ kq ks k (A 2 ks) (aW A) = -1)) i)), (6, .int 6), (0, .ref 0), (1, .int (nI kq)), (2, .int (nI ks)), (3, .int (nI ksort))] [] (n, fh g1) := by
          refine x_loop 6 _ ?_ ?_
          · intro g1 hf
            refine xj_iload (i := 7) 0 rfl dX11_kinds_46 ?_
            refine xj_iload (i := 6) 2 rfl dX11_kinds_48 ?_
            refine xj_icmp_ge (tgt := 126) (by decide) dX11_kinds_50 (fun zc50 => ?_) (fun zc50 => ?_)
            · refine xj_iload (i := 5) 1 rfl dX11_kinds_126 ?_
              exact xj_ireturn rfl (nr_i _) (Nat.zero_le _) (Nat.zero_le _) dX11_kinds_128 (qI_e ⟨by unfold vKinds; (try simp only [nI_clamp (show kq < 2147483648 by omega), nI_clamp (show ks < 2147483648 by omega), nI_clamp (show ksort < 2147483648 by omega)]); rw [if_pos zc10, if_pos zp21, if_pos zc31]; all_goals (rfl), hf⟩)
            · exact absurd (nI_le (Nat.le_refl _) (by decide)) zc50
          · intro i hi ih g1 hf
            refine xj_iload (i := 7) 0 rfl dX11_kinds_46 ?_
            refine xj_iload (i := 6) 2 rfl dX11_kinds_48 ?_
            refine xj_icmp_ge (tgt := 126) (by decide) dX11_kinds_50 (fun zc50 => ?_) (fun zc50 => ?_)
            · exact absurd zc50 (nI_ge hi (by decide))
            · refine xj_aload_n (n := 0) (i := 0) 3 rfl rfl dX11_kinds_53 ?_
              refine xj_iload_n (n := 2) (i := 2) 5 rfl rfl dX11_kinds_54 ?_
              refine xj_callV kv_X11_184 (c_X11_inThought l (d + 4) n g1 A Λ O (C.keep O hf) ks hks) (As := [.int (nI ks)]) (st := []) (by omega) (fq_0 g1) (ci := 11) rfl rfl rfl rfl (xRm_of (by omega) (by decide) (by omega) (by omega)) (Nat.le_of_ble_eq_true rfl) dX11_kinds_55 (yk_r (kc := 0) (ks := 0) fun zv7 zg8 hzg8 => ?_)
              obtain ⟨hvzv7, hxzg8, Bzg8⟩ := hzg8
              subst hvzv7
              have Czg8 := (C.keep O hf).keep O hxzg8
              refine xj_astore (i := 8) (lv1 := [(8, .ref (28 + 3 * ks)), (7, .int (nI i)), (5, .int (setF (fun k => decide (foF A Λ kq ks k (A 2 ks) (aW A) = -1)) i)), (6, .int 6), (0, .ref 0), (1, .int (nI kq)), (2, .int (nI ks)), (3, .int (nI ksort))]) rfl (Nat.le_of_ble_eq_true rfl) dX11_kinds_58 ?_
              refine xj_iload_n (n := 3) (i := 3) 7 rfl rfl dX11_kinds_60 ?_
              refine xj_if_ne (tgt := 79) (by decide) dX11_kinds_61 (fun zc61 => ?_) (fun zc61 => ?_)
              · exact absurd zc61 (fun z => z zc31)
              · refine xj_aload (i := 8) 0 rfl dX11_kinds_64 ?_
                refine xj_aload_n (n := 0) (i := 0) 4 rfl rfl dX11_kinds_66 ?_
                refine yj_getf (v := .ref 1) fl_X11_29_11 (by omega) (fq_0 zg8) rfl dX11_kinds_67 ?_
                refine xj_iload (i := 7) 1 rfl dX11_kinds_70 ?_
                refine yj_aaldN (m := 6) (a := 2 + i) i (by omega) (fq_1 zg8) (by decide) (by decide) rfl (by omega) (by decide) (if_pos (by omega)) dX11_kinds_72 ?_
                refine yj_putk fl_X11_137_7 (by omega) (fPn_t hs6_ks) (by omega) dX11_kinds_73 ?_
                obtain ⟨zg9, ezg9⟩ : ∃ z, z = gs zg8 (28 + 3 * ks) 0 (nI i) := ⟨_, rfl⟩
                rw [← ezg9]
                refine xj_goto (tgt := 86) (by decide) dX11_kinds_76 ?_
                have hxzg9 : fr sX g zg9 := by rw [ezg9]; exact (hf.tr hxzg8).gs (by unfold sX; omega) _ _
                have Czg9 := C.keep O hxzg9
                have Bzg9 := Bzg8.setK (k2 := i) (by omega)
                rw [← ezg9] at Bzg9
                refine xj_aload_n (n := 0) (i := 0) 4 rfl rfl dX11_kinds_86 ?_
                refine xj_aload_n (n := 0) (i := 0) 4 rfl rfl dX11_kinds_87 ?_
                refine yj_getf (v := .ref 71) fl_X11_69_11 (by omega) (fq_0 zg9) rfl dX11_kinds_88 ?_
                refine xj_iload_n (n := 1) (i := 1) 5 rfl rfl dX11_kinds_91 ?_
                refine yj_aaldN (m := 4) (a := 72 + 2 * kq) kq (by omega) (fq_71 zg9) (by decide) (by decide) rfl (by omega) (by decide) (if_pos (by omega)) dX11_kinds_92 ?_
                refine xj_aload (i := 8) 0 rfl dX11_kinds_93 ?_
                refine xj_aload_n (n := 0) (i := 0) 4 rfl rfl dX11_kinds_95 ?_
                refine yj_getf (v := .ref 66) fl_X11_55_11 (by omega) (fq_0 zg9) rfl dX11_kinds_96 ?_
                refine xj_aload_n (n := 0) (i := 0) 4 rfl rfl dX11_kinds_99 ?_
                refine yj_getf (v := .int (nI (aW A))) fl_X11_93_11 (by omega) (fq_0 zg9) (congrArg (fun z => some (Value.int z)) (Czg9.W O)) dX11_kinds_100 ?_
                refine yj_aaldN (m := 6) (a := fTX (aW A)) (aW A) (by omega) (fq_66 zg9) (by decide) (by decide) rfl (by omega) (by decide) (Czg9.tx O hW) dX11_kinds_103 ?_
                refine xj_callV kv_X11_214 (c_X11_firstOtherwise l (d + 0) n zg9 A Λ O Czg9 kq ks (aW A) i hk4_kq hks hW (A 2 ks) Bzg9) (As := [.ref (72 + 2 * kq), .ref (28 + 3 * ks), .ref (fTX (aW A))]) (st := []) (by omega) (fq_0 zg9) (ci := 11) rfl rfl rfl rfl (xRm_of (by omega) (by decide) (by omega) (by omega)) (Nat.le_of_ble_eq_true rfl) dX11_kinds_104 (yk_i (kc := 0) (ks := 0) fun zv10 zg11 hzg11 => ?_)
                obtain ⟨hvzv10, hxzg11⟩ := hzg11
                have Czg11 := Czg9.keep O hxzg11
                refine xj_iconst (v := (-1)) (by decide) dX11_kinds_107 ?_
                refine xj_icmp_ne (tgt := 120) (by decide) dX11_kinds_108 (fun zc108 => ?_) (fun zc108 => ?_)
                · have hcl : ¬ decide (foF A Λ kq ks i (A 2 ks) (aW A) = -1) = true := fun z => zc108 (hvzv10.trans (of_decide_eq_true z))
                  refine xj_iinc (n := 1) (i := 7) (v := nI (i + 1)) (lv1 := [(7, .int (nI (i + 1))), (8, .ref (28 + 3 * ks)), (5, .int (setF (fun k => decide (foF A Λ kq ks k (A 2 ks) (aW A) = -1)) i)), (6, .int 6), (0, .ref 0), (1, .int (nI kq)), (2, .int (nI ks)), (3, .int (nI ksort))]) 1 rfl (nI_1 i) rfl (Nat.le_of_ble_eq_true rfl) dX11_kinds_120 ?_
                  refine xj_goto (tgt := 46) (by decide) dX11_kinds_123 ?_
                  refine xj_sub (lv' := [(7, .int (nI (i + 1))), (5, .int (setF (fun k => decide (foF A Λ kq ks k (A 2 ks) (aW A) = -1)) i)), (6, .int 6), (0, .ref 0), (1, .int (nI kq)), (2, .int (nI ks)), (3, .int (nI ksort))]) [0, 2, 3, 4, 5, 6, 7] rfl ?_
                  have h9 := ih zg11 (hxzg9.tr hxzg11)
                  rw [show setF (fun k => decide (foF A Λ kq ks k (A 2 ks) (aW A) = -1)) (i + 1) = setF (fun k => decide (foF A Λ kq ks k (A 2 ks) (aW A) = -1)) i from if_neg hcl] at h9
                  exact h9
                · have hcl : decide (foF A Λ kq ks i (A 2 ks) (aW A) = -1) = true := decide_eq_true (hvzv10.symm.trans zc108)
                  refine xj_iload (i := 5) 2 rfl dX11_kinds_111 ?_
                  refine xj_iconst (v := 1) (by decide) dX11_kinds_113 ?_
                  refine xj_iload (i := 7) 1 rfl dX11_kinds_114 ?_
                  refine xj_ishl dX11_kinds_116 ?_
                  refine xj_ior dX11_kinds_117 ?_
                  refine xj_topi (fun zv12 ezv12 => ?_)
                  refine xj_istore (i := 5) (lv1 := [(5, .int zv12), (8, .ref (28 + 3 * ks)), (7, .int (nI i)), (6, .int 6), (0, .ref 0), (1, .int (nI kq)), (2, .int (nI ks)), (3, .int (nI ksort))]) rfl (Nat.le_of_ble_eq_true rfl) dX11_kinds_118 ?_
                  refine xj_iinc (n := 1) (i := 7) (v := nI (i + 1)) (lv1 := [(7, .int (nI (i + 1))), (5, .int zv12), (8, .ref (28 + 3 * ks)), (6, .int 6), (0, .ref 0), (1, .int (nI kq)), (2, .int (nI ks)), (3, .int (nI ksort))]) 2 rfl (nI_1 i) rfl (Nat.le_of_ble_eq_true rfl) dX11_kinds_120 ?_
                  refine xj_goto (tgt := 46) (by decide) dX11_kinds_123 ?_
                  refine xj_sub (lv' := [(7, .int (nI (i + 1))), (5, .int zv12), (6, .int 6), (0, .ref 0), (1, .int (nI kq)), (2, .int (nI ks)), (3, .int (nI ksort))]) [0, 1, 3, 4, 5, 6, 7] rfl ?_
                  have h9 := ih zg11 (hxzg9.tr hxzg11)
                  rw [show setF (fun k => decide (foF A Λ kq ks k (A 2 ks) (aW A) = -1)) (i + 1) = zv12 from (if_pos hcl).trans ezv12.symm] at h9
                  exact h9
        refine xj_sub (lv' := [(7, .int 0), (5, .int 0), (6, .int 6), (0, .ref 0), (1, .int (nI kq)), (2, .int (nI ks)), (3, .int (nI ksort))]) [0, 2, 1, 4, 5, 6, 7] rfl ?_
        exact key 0 (Nat.zero_le _) g fr.rf
    · have zp21 : ¬ (0 ≤ sort ∧ sort ≤ 1) := bI_0.mp zc21
      refine xj_bipush (v := (-7)) (by decide) dX11_kinds_24 ?_
      exact xj_ireturn rfl (nr_i _) (Nat.zero_le _) (Nat.zero_le _) dX11_kinds_26 (qI_e ⟨by unfold vKinds; (try simp only [nI_clamp (show kq < 2147483648 by omega), nI_clamp (show ks < 2147483648 by omega)]); rw [if_pos zc10, if_neg zp21]; all_goals (rfl), fr.rf⟩)
  · refine xj_iload (i := 4) 0 rfl dX11_kinds_13 ?_
    exact xj_ireturn rfl (nr_i _) (Nat.zero_le _) (Nat.zero_le _) dX11_kinds_15 (qI_e ⟨by unfold vKinds; rw [if_neg zc10]; all_goals (rfl), fr.rf⟩)
