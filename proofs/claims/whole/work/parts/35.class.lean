/-- one cell in thought, night for night -/
def ceT (L : xL) (k : Nat) (more pic : Int32) (c : Nat) (x0 : Int32) (N : Nat) : Nat → Int32
  | 0 => x0
  | i + 1 => min99 (ceT L k more pic c x0 N i + dlrF L k more pic c (ceT L k more pic c x0 N i) (nI (N + i)))
abbrev ceP (A : zSt) (Λ : Nat → xL) (s c : Nat) (x0 : Int32) (i : Nat) : Int32 := ceT (Λ (aW A)) (aK A s) (A 2 s) (A 3 s) c x0 (aN A) i
def raB (A : zSt) (Λ : Nat → xL) (q s c : Nat) (x0 : Int32) (i : Nat) : Bool := decide (bI (hasF (A 3 s) (nI c) = true ∧ clearF (Λ (aW A)) (aK A s) (A 2 s) (A 3 s) c (ceP A Λ s c x0 i) (nI (aN A + i)) = true) = bI (hasF (A (40 + q) i) (nI c) = true))
def raF (A : zSt) (Λ : Nat → xL) (q s c : Nat) (x0 : Int32) : Bool := allF (raB A Λ q s c x0) (aQ A q) 0
set_option maxHeartbeats 4000000 in
set_option maxRecDepth 100000 in
theorem c_X11_isRightAt (l : Launch) (d : Nat) (n : Nat) (g : xG) (A : zSt) (Λ : Nat → xL) (O : okA A) (C : cA g n A Λ) (q s c : Nat) (hq : q < 4) (hs : s < aS A) (hc : c < 16) (d0 : Nat → Int32) (B : pnA g (28 + 3 * s) (aK A s) (A 2 s) (A 3 s) d0)  : xC l yX11_isRightAt cX11_isRightAt 6 (some .boolean) (xR (d + 6) 0 0) [.ref 0, .ref (72 + 2 * q), .ref (28 + 3 * s), .int (nI c)] (n, fh g) (qI n fun v g1 => v = bI (raF A Λ q s c (d0 c) = true) ∧ fr sX g g1 ∧ ∃ d1 : Nat → Int32, (∀ j, j ≠ c → d1 j = d0 j) ∧ pnA g1 (28 + 3 * s) (aK A s) (A 2 s) (A 3 s) d1) := by
  refine xC_of false (by decide +kernel) (fun z => by cases z) (Nat.le_of_ble_eq_true rfl) ?_
  have hn := C.n110 O
  have hS6 := O.1.2
  have hW := O.W
  have hT6 := O.2.2.2.1.2.2
  have hN9 := O.2.1.2
  have hs6_s : s < 6 := by omega
  have hz40 := (O.2.2.2.2.2.2.2.2 q hq).2.2
  show xJ l (RX11, 6, (some .boolean), false, (xR (d + 6) 0 0), none) cX11_isRightAt _ 0 0 0 [(0, .ref 0), (1, .ref (72 + 2 * q)), (2, .ref (28 + 3 * s)), (3, .int (nI c))] [] (n, fh g)
  refine xj_iconst (v := 0) (by decide) dX11_isRightAt_0 ?_
  refine xj_istore (i := 4) (lv1 := [(4, .int 0), (0, .ref 0), (1, .ref (72 + 2 * q)), (2, .ref (28 + 3 * s)), (3, .int (nI c))]) rfl (Nat.le_of_ble_eq_true rfl) dX11_isRightAt_1 ?_
  have key : ∀ i, i ≤ aQ A q → ∀ (g1 : xG) (d1 : Nat → Int32), fr sX g g1 → (∀ j, j ≠ c → d1 j = d0 j) → d1 c = ceP A Λ s c (d0 c) i → pnA g1 (28 + 3 * s) (aK A s) (A 2 s) (A 3 s) d1 → raF A Λ q s c (d0 c) = allF (raB A Λ q s c (d0 c)) (aQ A q - i) i → xJ l (RX11, 6, (some .boolean), false, (xR (d + 6) 0 0), none) cX11_isRightAt (qI n fun v g1 => v = bI (raF A Λ q s c (d0 c) = true) ∧ fr sX g g1 ∧ ∃ d1 : Nat → Int32, (∀ j, j ≠ c → d1 j = d0 j) ∧ pnA g1 (28 + 3 * s) (aK A s) (A 2 s) (A 3 s) d1) 0 0 3 [(4, .int (nI i)), (0, .ref 0), (1, .ref (72 + 2 * q)), (2, .ref (28 + 3 * s)), (3, .int (nI c))] [] (n, fh g1) := by
    refine x_loop (aQ A q) _ ?_ ?_
    · intro g1 d1 hf hd1 hdc B1 hz
      refine xj_iload (i := 4) 0 rfl dX11_isRightAt_3 ?_
      refine xj_aload_n (n := 1) (i := 1) 2 rfl rfl dX11_isRightAt_5 ?_
      refine yj_getf (v := .int (nI (aQ A q))) fl_X11_229_8 (by omega) ((fSt_q hq).2.1 (g1 (72 + 2 * q))) (congrArg (fun z => some (Value.int z)) ((C.keep O hf).qz O hq)) dX11_isRightAt_6 ?_
      refine xj_icmp_ge (tgt := 99) (by decide) dX11_isRightAt_9 (fun zc9 => ?_) (fun zc9 => ?_)
      · refine xj_iconst (v := 1) (by decide) dX11_isRightAt_99 ?_
        exact xj_ireturn rfl nr_b1 (Nat.zero_le _) (Nat.zero_le _) dX11_isRightAt_100 (qI_e ⟨by rw [hz, Nat.sub_self]; exact (bI_t rfl).symm, hf, d1, hd1, B1⟩)
      · exact absurd (nI_le (Nat.le_refl _) (by omega)) zc9
    · intro i hi ih g1 d1 hf hd1 hdc B1 hz
      have hstep : allF (raB A Λ q s c (d0 c)) (aQ A q - i) i = if raB A Λ q s c (d0 c) i = true then allF (raB A Λ q s c (d0 c)) (aQ A q - (i + 1)) (i + 1) else false := by rw [show aQ A q - i = aQ A q - (i + 1) + 1 by omega]; rfl
      refine xj_iload (i := 4) 0 rfl dX11_isRightAt_3 ?_
      refine xj_aload_n (n := 1) (i := 1) 2 rfl rfl dX11_isRightAt_5 ?_
      refine yj_getf (v := .int (nI (aQ A q))) fl_X11_229_8 (by omega) ((fSt_q hq).2.1 (g1 (72 + 2 * q))) (congrArg (fun z => some (Value.int z)) ((C.keep O hf).qz O hq)) dX11_isRightAt_6 ?_
      refine xj_icmp_ge (tgt := 99) (by decide) dX11_isRightAt_9 (fun zc9 => ?_) (fun zc9 => ?_)
      · exact absurd zc9 (nI_ge hi (by omega))
      · refine xj_aload_n (n := 2) (i := 2) 3 rfl rfl dX11_isRightAt_12 ?_
        refine yj_getf (v := .int ((A 3 s))) fl_X11_144_7 (by omega) ((fPn_t hs6_s).2.2.1 (g1 (28 + 3 * s))) (congrArg (fun z => some (Value.int z)) B1.2.2.1) dX11_isRightAt_13 ?_
        refine xj_iload_n (n := 3) (i := 3) 4 rfl rfl dX11_isRightAt_16 ?_
        refine xj_callS ks_X11_281 (c_X11_has l (d + 5) ((A 3 s)) (nI c) _) (As := [.int ((A 3 s)), .int (nI c)]) (st := []) rfl rfl (xRm_of (by omega) (by decide) (by omega) (by omega)) (Nat.le_of_ble_eq_true rfl) dX11_isRightAt_17 (yk_p (kc := 0) (ks := 0) ?_)
        refine xj_if_eq (tgt := 51) (by decide) dX11_isRightAt_20 (fun zc20 => ?_) (fun zc20 => ?_)
        · have hh : ¬ hasF (A 3 s) (nI c) = true := bI_0.mp zc20
          refine xj_iconst (v := 0) (by decide) dX11_isRightAt_51 ?_
          refine xj_top (show (0 : Int32) = bI (hasF (A 3 s) (nI c) = true ∧ clearF (Λ (aW A)) (aK A s) (A 2 s) (A 3 s) c (ceP A Λ s c (d0 c) i) (nI (aN A + i)) = true) from (bI_f (fun z => hh z.1)).symm) ?_
          refine xj_topi (fun zv1 ezv1 => ?_)
          refine xj_istore (i := 5) (lv1 := [(5, .int zv1), (4, .int (nI i)), (0, .ref 0), (1, .ref (72 + 2 * q)), (2, .ref (28 + 3 * s)), (3, .int (nI c))]) rfl (Nat.le_of_ble_eq_true rfl) dX11_isRightAt_52 ?_
          refine xj_iload (i := 5) 0 rfl dX11_isRightAt_54 ?_
          refine xj_aload_n (n := 1) (i := 1) 3 rfl rfl dX11_isRightAt_56 ?_
          refine yj_getf (v := .ref ((72 + 2 * q) + 1)) fl_X11_261_8 (by omega) ((fSt_q hq).2.1 (g1 (72 + 2 * q))) rfl dX11_isRightAt_57 ?_
          refine xj_iload (i := 4) 1 rfl dX11_isRightAt_60 ?_
          refine yj_ialdN i (by omega) (fSt_q hq).2.2 rfl (by omega) (by decide) dX11_isRightAt_62 ?_
          refine xj_top ((C.keep O hf).qn hq (by omega)) ?_
          refine xj_iload_n (n := 3) (i := 3) 5 rfl rfl dX11_isRightAt_63 ?_
          refine xj_callS ks_X11_281 (c_X11_has l (d + 5) (A (40 + q) i) (nI c) _) (As := [.int (A (40 + q) i), .int (nI c)]) (st := [.int zv1]) rfl rfl (xRm_of (by omega) (by decide) (by omega) (by omega)) (Nat.le_of_ble_eq_true rfl) dX11_isRightAt_64 (yk_p (kc := 0) (ks := 0) ?_)
          refine xj_icmp_eq (tgt := 72) (by decide) dX11_isRightAt_67 (fun zc67 => ?_) (fun zc67 => ?_)
          · have hob : raB A Λ q s c (d0 c) i = true := decide_eq_true (by rw [ezv1] at zc67; exact zc67)
            refine xj_aload_n (n := 2) (i := 2) 4 rfl rfl dX11_isRightAt_72 ?_
            refine xj_aload_n (n := 0) (i := 0) 2 rfl rfl dX11_isRightAt_73 ?_
            refine yj_getf (v := .ref 66) fl_X11_55_11 (by omega) (fq_0 g1) rfl dX11_isRightAt_74 ?_
            refine xj_aload_n (n := 0) (i := 0) 2 rfl rfl dX11_isRightAt_77 ?_
            refine yj_getf (v := .int (nI (aW A))) fl_X11_93_11 (by omega) (fq_0 g1) (congrArg (fun z => some (Value.int z)) ((C.keep O hf).W O)) dX11_isRightAt_78 ?_
            refine yj_aaldN (m := 6) (a := fTX (aW A)) (aW A) (by omega) (fq_66 g1) (by decide) (by decide) rfl (by omega) (by decide) ((C.keep O hf).tx O hW) dX11_isRightAt_81 ?_
            refine xj_iload_n (n := 3) (i := 3) 5 rfl rfl dX11_isRightAt_82 ?_
            refine xj_aload_n (n := 0) (i := 0) 2 rfl rfl dX11_isRightAt_83 ?_
            refine yj_getf (v := .int (nI (aN A))) fl_X11_84_11 (by omega) (fq_0 g1) (congrArg (fun z => some (Value.int z)) ((C.keep O hf).N O)) dX11_isRightAt_84 ?_
            refine xj_iload (i := 4) 1 rfl dX11_isRightAt_87 ?_
            refine xj_iadd dX11_isRightAt_89 ?_
            refine xj_top (nI_add _ _) ?_
            refine xj_callV kv_X11_289 (c_X7_passNightAt l (d + 2) n hn g1 (28 + 3 * s) (fTX (aW A)) (aK A s) (A 2 s) (A 3 s) d1 (Λ (aW A)) (fPn_t hs6_s) B1 ((C.keep O hf).txt hW) c (nI ((aN A) + i)) (by omega)) (As := [.ref (fTX (aW A)), .int (nI c), .int (nI ((aN A) + i))]) (st := []) (by omega) ((fPn_t hs6_s).2.2.1 _) (ci := 7) rfl rfl rfl rfl (xRm_of (by omega) (by decide) (by omega) (by omega)) (Nat.le_of_ble_eq_true rfl) dX11_isRightAt_90 (yk_v (kc := 0) (ks := 0) fun zg2 hzg2 => ?_)
            obtain ⟨hfzg2, Bzg2⟩ := hzg2
            have hxzg2 := hfzg2.mono (fXd_s (t := (aW A)) hs6_s rfl)
            have Czg2 := (C.keep O hf).keep O hxzg2
            refine xj_iinc (n := 1) (i := 4) (v := nI (i + 1)) (lv1 := [(4, .int (nI (i + 1))), (5, .int zv1), (0, .ref 0), (1, .ref (72 + 2 * q)), (2, .ref (28 + 3 * s)), (3, .int (nI c))]) 1 rfl (nI_1 i) rfl (Nat.le_of_ble_eq_true rfl) dX11_isRightAt_93 ?_
            refine xj_goto (tgt := 3) (by decide) dX11_isRightAt_96 ?_
            refine xj_sub (lv' := [(4, .int (nI (i + 1))), (0, .ref 0), (1, .ref (72 + 2 * q)), (2, .ref (28 + 3 * s)), (3, .int (nI c))]) [0, 2, 3, 4, 5] rfl ?_
            exact ih zg2 _ (hf.tr hxzg2) (fun j hj => (upd_n _ _ hj).trans (hd1 j hj)) (by rw [upd_s, hdc]; rfl) Bzg2 (by rw [hz, hstep, if_pos hob])
          · have hob : ¬ raB A Λ q s c (d0 c) i = true := fun y => zc67 (by rw [ezv1]; exact of_decide_eq_true y)
            refine xj_iconst (v := 0) (by decide) dX11_isRightAt_70 ?_
            exact xj_ireturn rfl nr_b0 (Nat.zero_le _) (Nat.zero_le _) dX11_isRightAt_71 (qI_e ⟨by rw [hz, hstep, if_neg hob]; exact (bI_f (by decide)).symm, hf, d1, hd1, B1⟩)
        · have hh : hasF (A 3 s) (nI c) = true := bI_n0.mp zc20
          refine xj_aload_n (n := 2) (i := 2) 3 rfl rfl dX11_isRightAt_23 ?_
          refine xj_aload_n (n := 0) (i := 0) 1 rfl rfl dX11_isRightAt_24 ?_
          refine yj_getf (v := .ref 66) fl_X11_55_11 (by omega) (fq_0 g1) rfl dX11_isRightAt_25 ?_
          refine xj_aload_n (n := 0) (i := 0) 1 rfl rfl dX11_isRightAt_28 ?_
          refine yj_getf (v := .int (nI (aW A))) fl_X11_93_11 (by omega) (fq_0 g1) (congrArg (fun z => some (Value.int z)) ((C.keep O hf).W O)) dX11_isRightAt_29 ?_
          refine yj_aaldN (m := 6) (a := fTX (aW A)) (aW A) (by omega) (fq_66 g1) (by decide) (by decide) rfl (by omega) (by decide) ((C.keep O hf).tx O hW) dX11_isRightAt_32 ?_
          refine xj_iload_n (n := 3) (i := 3) 4 rfl rfl dX11_isRightAt_33 ?_
          refine xj_aload_n (n := 0) (i := 0) 1 rfl rfl dX11_isRightAt_34 ?_
          refine yj_getf (v := .int (nI (aN A))) fl_X11_84_11 (by omega) (fq_0 g1) (congrArg (fun z => some (Value.int z)) ((C.keep O hf).N O)) dX11_isRightAt_35 ?_
          refine xj_iload (i := 4) 0 rfl dX11_isRightAt_38 ?_
          refine xj_iadd dX11_isRightAt_40 ?_
          refine xj_top (nI_add _ _) ?_
          refine xj_callV kv_X11_285 (c_X7_isClear l (d + 2) n hn g1 (28 + 3 * s) (fTX (aW A)) (aK A s) (A 2 s) (A 3 s) d1 (Λ (aW A)) (fPn_t hs6_s) B1 ((C.keep O hf).txt hW) c (nI ((aN A) + i)) (by omega)) (As := [.ref (fTX (aW A)), .int (nI c), .int (nI ((aN A) + i))]) (st := []) (by omega) ((fPn_t hs6_s).2.2.1 _) (ci := 7) rfl rfl rfl rfl (xRm_of (by omega) (by decide) (by omega) (by omega)) (Nat.le_of_ble_eq_true rfl) dX11_isRightAt_41 (yk_i (kc := 0) (ks := 0) fun zv3 zg4 hzg4 => ?_)
          obtain ⟨hvzv3, hfzg4⟩ := hzg4
          have hxzg4 := hfzg4.mono (fX_s (t := (aW A)) hs6_s (Or.inr (Or.inl rfl)))
          have Czg4 := (C.keep O hf).keep O hxzg4
          have Bzg4 := B1.keep (fPn_t hs6_s) ((C.keep O hf).txt hW).1 hfzg4
          refine xj_if_eq (tgt := 51) (by decide) dX11_isRightAt_44 (fun zc44 => ?_) (fun zc44 => ?_)
          · have hcl : ¬ clearF (Λ (aW A)) (aK A s) (A 2 s) (A 3 s) c (ceP A Λ s c (d0 c) i) (nI (aN A + i)) = true := by have h := bI_0.mp (hvzv3.symm.trans zc44); rw [hdc] at h; exact h
            refine xj_iconst (v := 0) (by decide) dX11_isRightAt_51 ?_
            refine xj_top (show (0 : Int32) = bI (hasF (A 3 s) (nI c) = true ∧ clearF (Λ (aW A)) (aK A s) (A 2 s) (A 3 s) c (ceP A Λ s c (d0 c) i) (nI (aN A + i)) = true) from (bI_f (fun z => hcl z.2)).symm) ?_
            refine xj_topi (fun zv5 ezv5 => ?_)
            refine xj_istore (i := 5) (lv1 := [(5, .int zv5), (4, .int (nI i)), (0, .ref 0), (1, .ref (72 + 2 * q)), (2, .ref (28 + 3 * s)), (3, .int (nI c))]) rfl (Nat.le_of_ble_eq_true rfl) dX11_isRightAt_52 ?_
            refine xj_iload (i := 5) 0 rfl dX11_isRightAt_54 ?_
            refine xj_aload_n (n := 1) (i := 1) 3 rfl rfl dX11_isRightAt_56 ?_
            refine yj_getf (v := .ref ((72 + 2 * q) + 1)) fl_X11_261_8 (by omega) ((fSt_q hq).2.1 (zg4 (72 + 2 * q))) rfl dX11_isRightAt_57 ?_
            refine xj_iload (i := 4) 1 rfl dX11_isRightAt_60 ?_
            refine yj_ialdN i (by omega) (fSt_q hq).2.2 rfl (by omega) (by decide) dX11_isRightAt_62 ?_
            refine xj_top (Czg4.qn hq (by omega)) ?_
            refine xj_iload_n (n := 3) (i := 3) 5 rfl rfl dX11_isRightAt_63 ?_
            refine xj_callS ks_X11_281 (c_X11_has l (d + 5) (A (40 + q) i) (nI c) _) (As := [.int (A (40 + q) i), .int (nI c)]) (st := [.int zv5]) rfl rfl (xRm_of (by omega) (by decide) (by omega) (by omega)) (Nat.le_of_ble_eq_true rfl) dX11_isRightAt_64 (yk_p (kc := 0) (ks := 0) ?_)
            refine xj_icmp_eq (tgt := 72) (by decide) dX11_isRightAt_67 (fun zc67 => ?_) (fun zc67 => ?_)
            · have hob : raB A Λ q s c (d0 c) i = true := decide_eq_true (by rw [ezv5] at zc67; exact zc67)
              refine xj_aload_n (n := 2) (i := 2) 4 rfl rfl dX11_isRightAt_72 ?_
              refine xj_aload_n (n := 0) (i := 0) 2 rfl rfl dX11_isRightAt_73 ?_
              refine yj_getf (v := .ref 66) fl_X11_55_11 (by omega) (fq_0 zg4) rfl dX11_isRightAt_74 ?_
              refine xj_aload_n (n := 0) (i := 0) 2 rfl rfl dX11_isRightAt_77 ?_
              refine yj_getf (v := .int (nI (aW A))) fl_X11_93_11 (by omega) (fq_0 zg4) (congrArg (fun z => some (Value.int z)) (Czg4.W O)) dX11_isRightAt_78 ?_
              refine yj_aaldN (m := 6) (a := fTX (aW A)) (aW A) (by omega) (fq_66 zg4) (by decide) (by decide) rfl (by omega) (by decide) (Czg4.tx O hW) dX11_isRightAt_81 ?_
              refine xj_iload_n (n := 3) (i := 3) 5 rfl rfl dX11_isRightAt_82 ?_
              refine xj_aload_n (n := 0) (i := 0) 2 rfl rfl dX11_isRightAt_83 ?_
              refine yj_getf (v := .int (nI (aN A))) fl_X11_84_11 (by omega) (fq_0 zg4) (congrArg (fun z => some (Value.int z)) (Czg4.N O)) dX11_isRightAt_84 ?_
              refine xj_iload (i := 4) 1 rfl dX11_isRightAt_87 ?_
              refine xj_iadd dX11_isRightAt_89 ?_
              refine xj_top (nI_add _ _) ?_
              refine xj_callV kv_X11_289 (c_X7_passNightAt l (d + 2) n hn zg4 (28 + 3 * s) (fTX (aW A)) (aK A s) (A 2 s) (A 3 s) d1 (Λ (aW A)) (fPn_t hs6_s) Bzg4 (Czg4.txt hW) c (nI ((aN A) + i)) (by omega)) (As := [.ref (fTX (aW A)), .int (nI c), .int (nI ((aN A) + i))]) (st := []) (by omega) ((fPn_t hs6_s).2.2.1 _) (ci := 7) rfl rfl rfl rfl (xRm_of (by omega) (by decide) (by omega) (by omega)) (Nat.le_of_ble_eq_true rfl) dX11_isRightAt_90 (yk_v (kc := 0) (ks := 0) fun zg6 hzg6 => ?_)
              obtain ⟨hfzg6, Bzg6⟩ := hzg6
              have hxzg6 := hfzg6.mono (fXd_s (t := (aW A)) hs6_s rfl)
              have Czg6 := Czg4.keep O hxzg6
              refine xj_iinc (n := 1) (i := 4) (v := nI (i + 1)) (lv1 := [(4, .int (nI (i + 1))), (5, .int zv5), (0, .ref 0), (1, .ref (72 + 2 * q)), (2, .ref (28 + 3 * s)), (3, .int (nI c))]) 1 rfl (nI_1 i) rfl (Nat.le_of_ble_eq_true rfl) dX11_isRightAt_93 ?_
              refine xj_goto (tgt := 3) (by decide) dX11_isRightAt_96 ?_
              refine xj_sub (lv' := [(4, .int (nI (i + 1))), (0, .ref 0), (1, .ref (72 + 2 * q)), (2, .ref (28 + 3 * s)), (3, .int (nI c))]) [0, 2, 3, 4, 5] rfl ?_
              exact ih zg6 _ ((hf.tr hxzg4).tr hxzg6) (fun j hj => (upd_n _ _ hj).trans (hd1 j hj)) (by rw [upd_s, hdc]; rfl) Bzg6 (by rw [hz, hstep, if_pos hob])
            · have hob : ¬ raB A Λ q s c (d0 c) i = true := fun y => zc67 (by rw [ezv5]; exact of_decide_eq_true y)
              refine xj_iconst (v := 0) (by decide) dX11_isRightAt_70 ?_
              exact xj_ireturn rfl nr_b0 (Nat.zero_le _) (Nat.zero_le _) dX11_isRightAt_71 (qI_e ⟨by rw [hz, hstep, if_neg hob]; exact (bI_f (by decide)).symm, (hf.tr hxzg4), d1, hd1, Bzg4⟩)
          · have hcl : clearF (Λ (aW A)) (aK A s) (A 2 s) (A 3 s) c (ceP A Λ s c (d0 c) i) (nI (aN A + i)) = true := by have h := bI_n0.mp (fun z => zc44 (hvzv3.trans z)); rw [hdc] at h; exact h
            refine xj_iconst (v := 1) (by decide) dX11_isRightAt_47 ?_
            refine xj_goto (tgt := 52) (by decide) dX11_isRightAt_48 ?_
            refine xj_top (show (1 : Int32) = bI (hasF (A 3 s) (nI c) = true ∧ clearF (Λ (aW A)) (aK A s) (A 2 s) (A 3 s) c (ceP A Λ s c (d0 c) i) (nI (aN A + i)) = true) from (bI_t ⟨hh, hcl⟩).symm) ?_
            refine xj_topi (fun zv7 ezv7 => ?_)
            refine xj_istore (i := 5) (lv1 := [(5, .int zv7), (4, .int (nI i)), (0, .ref 0), (1, .ref (72 + 2 * q)), (2, .ref (28 + 3 * s)), (3, .int (nI c))]) rfl (Nat.le_of_ble_eq_true rfl) dX11_isRightAt_52 ?_
            refine xj_iload (i := 5) 0 rfl dX11_isRightAt_54 ?_
            refine xj_aload_n (n := 1) (i := 1) 3 rfl rfl dX11_isRightAt_56 ?_
            refine yj_getf (v := .ref ((72 + 2 * q) + 1)) fl_X11_261_8 (by omega) ((fSt_q hq).2.1 (zg4 (72 + 2 * q))) rfl dX11_isRightAt_57 ?_
            refine xj_iload (i := 4) 1 rfl dX11_isRightAt_60 ?_
            refine yj_ialdN i (by omega) (fSt_q hq).2.2 rfl (by omega) (by decide) dX11_isRightAt_62 ?_
            refine xj_top (Czg4.qn hq (by omega)) ?_
            refine xj_iload_n (n := 3) (i := 3) 5 rfl rfl dX11_isRightAt_63 ?_
            refine xj_callS ks_X11_281 (c_X11_has l (d + 5) (A (40 + q) i) (nI c) _) (As := [.int (A (40 + q) i), .int (nI c)]) (st := [.int zv7]) rfl rfl (xRm_of (by omega) (by decide) (by omega) (by omega)) (Nat.le_of_ble_eq_true rfl) dX11_isRightAt_64 (yk_p (kc := 0) (ks := 0) ?_)
            refine xj_icmp_eq (tgt := 72) (by decide) dX11_isRightAt_67 (fun zc67 => ?_) (fun zc67 => ?_)
            · have hob : raB A Λ q s c (d0 c) i = true := decide_eq_true (by rw [ezv7] at zc67; exact zc67)
              refine xj_aload_n (n := 2) (i := 2) 4 rfl rfl dX11_isRightAt_72 ?_
              refine xj_aload_n (n := 0) (i := 0) 2 rfl rfl dX11_isRightAt_73 ?_
              refine yj_getf (v := .ref 66) fl_X11_55_11 (by omega) (fq_0 zg4) rfl dX11_isRightAt_74 ?_
              refine xj_aload_n (n := 0) (i := 0) 2 rfl rfl dX11_isRightAt_77 ?_
              refine yj_getf (v := .int (nI (aW A))) fl_X11_93_11 (by omega) (fq_0 zg4) (congrArg (fun z => some (Value.int z)) (Czg4.W O)) dX11_isRightAt_78 ?_
              refine yj_aaldN (m := 6) (a := fTX (aW A)) (aW A) (by omega) (fq_66 zg4) (by decide) (by decide) rfl (by omega) (by decide) (Czg4.tx O hW) dX11_isRightAt_81 ?_
              refine xj_iload_n (n := 3) (i := 3) 5 rfl rfl dX11_isRightAt_82 ?_
              refine xj_aload_n (n := 0) (i := 0) 2 rfl rfl dX11_isRightAt_83 ?_
              refine yj_getf (v := .int (nI (aN A))) fl_X11_84_11 (by omega) (fq_0 zg4) (congrArg (fun z => some (Value.int z)) (Czg4.N O)) dX11_isRightAt_84 ?_
              refine xj_iload (i := 4) 1 rfl dX11_isRightAt_87 ?_
              refine xj_iadd dX11_isRightAt_89 ?_
              refine xj_top (nI_add _ _) ?_
              refine xj_callV kv_X11_289 (c_X7_passNightAt l (d + 2) n hn zg4 (28 + 3 * s) (fTX (aW A)) (aK A s) (A 2 s) (A 3 s) d1 (Λ (aW A)) (fPn_t hs6_s) Bzg4 (Czg4.txt hW) c (nI ((aN A) + i)) (by omega)) (As := [.ref (fTX (aW A)), .int (nI c), .int (nI ((aN A) + i))]) (st := []) (by omega) ((fPn_t hs6_s).2.2.1 _) (ci := 7) rfl rfl rfl rfl (xRm_of (by omega) (by decide) (by omega) (by omega)) (Nat.le_of_ble_eq_true rfl) dX11_isRightAt_90 (yk_v (kc := 0) (ks := 0) fun zg8 hzg8 => ?_)
              obtain ⟨hfzg8, Bzg8⟩ := hzg8
              have hxzg8 := hfzg8.mono (fXd_s (t := (aW A)) hs6_s rfl)
              have Czg8 := Czg4.keep O hxzg8
              refine xj_iinc (n := 1) (i := 4) (v := nI (i + 1)) (lv1 := [(4, .int (nI (i + 1))), (5, .int zv7), (0, .ref 0), (1, .ref (72 + 2 * q)), (2, .ref (28 + 3 * s)), (3, .int (nI c))]) 1 rfl (nI_1 i) rfl (Nat.le_of_ble_eq_true rfl) dX11_isRightAt_93 ?_
              refine xj_goto (tgt := 3) (by decide) dX11_isRightAt_96 ?_
              refine xj_sub (lv' := [(4, .int (nI (i + 1))), (0, .ref 0), (1, .ref (72 + 2 * q)), (2, .ref (28 + 3 * s)), (3, .int (nI c))]) [0, 2, 3, 4, 5] rfl ?_
              exact ih zg8 _ ((hf.tr hxzg4).tr hxzg8) (fun j hj => (upd_n _ _ hj).trans (hd1 j hj)) (by rw [upd_s, hdc]; rfl) Bzg8 (by rw [hz, hstep, if_pos hob])
            · have hob : ¬ raB A Λ q s c (d0 c) i = true := fun y => zc67 (by rw [ezv7]; exact of_decide_eq_true y)
              refine xj_iconst (v := 0) (by decide) dX11_isRightAt_70 ?_
              exact xj_ireturn rfl nr_b0 (Nat.zero_le _) (Nat.zero_le _) dX11_isRightAt_71 (qI_e ⟨by rw [hz, hstep, if_neg hob]; exact (bI_f (by decide)).symm, (hf.tr hxzg4), d1, hd1, Bzg4⟩)
  refine xj_sub (lv' := [(4, .int 0), (0, .ref 0), (1, .ref (72 + 2 * q)), (2, .ref (28 + 3 * s)), (3, .int (nI c))]) [0, 1, 2, 3, 4] rfl ?_
  exact key 0 (Nat.zero_le _) g d0 fr.rf (fun _ _ => rfl) rfl B rfl
