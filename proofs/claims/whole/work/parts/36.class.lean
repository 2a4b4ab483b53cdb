def reB (A : zSt) (Λ : Nat → xL) (q s c j : Nat) : Bool := decide (j = c ∨ raF A Λ q s j (A (10 + s) j) = true)
def reF (A : zSt) (Λ : Nat → xL) (q s c : Nat) : Bool := decide (orF (A (40 + q)) (aQ A q) &&& (-65536) = 0 ∧ allF (reB A Λ q s c) 16 0 = true)
set_option maxHeartbeats 4000000 in
set_option maxRecDepth 100000 in
theorem c_X11_isRightElsewhere (l : Launch) (d : Nat) (n : Nat) (g : xG) (A : zSt) (Λ : Nat → xL) (O : okA A) (C : cA g n A Λ) (q s c : Nat) (hq : q < 4) (hs : s < aS A) (hc : c < 16)  : xC l yX11_isRightElsewhere cX11_isRightElsewhere 6 (some .boolean) (xR (d + 7) 0 0) [.ref 0, .ref (72 + 2 * q), .int (nI s), .int (nI c)] (n, fh g) (qI n fun v g1 => v = bI (reF A Λ q s c = true) ∧ fr sX g g1) := by
  refine xC_of false (by decide +kernel) (fun z => by cases z) (Nat.le_of_ble_eq_true rfl) ?_
  have hn := C.n110 O
  have hS6 := O.1.2
  have hW := O.W
  have hT6 := O.2.2.2.1.2.2
  have hN9 := O.2.1.2
  have hs6_s : s < 6 := by omega
  have hz40 := (O.2.2.2.2.2.2.2.2 q hq).2.2
  show xJ l (RX11, 6, (some .boolean), false, (xR (d + 7) 0 0), none) cX11_isRightElsewhere _ 0 0 0 [(0, .ref 0), (1, .ref (72 + 2 * q)), (2, .int (nI s)), (3, .int (nI c))] [] (n, fh g)
  refine xj_aload_n (n := 1) (i := 1) 1 rfl rfl dX11_isRightElsewhere_0 ?_
  refine xj_callV kv_X11_226 (c_X8_anyBits l (d + 6) n hn g (72 + 2 * q) (fSt_q hq) (aQ A q) (by omega) (C.qz O hq)) (As := []) (st := []) (by omega) ((fSt_q hq).2.1 _) (ci := 8) rfl rfl rfl rfl (xRm_of (by omega) (by decide) (by omega) (by omega)) (Nat.le_of_ble_eq_true rfl) dX11_isRightElsewhere_1 (yk_p (kc := 0) (ks := 0) ?_)
  refine xj_top (show (orF (g (72 + 2 * q + 1)) (aQ A q)) = orF (A (40 + q)) (aQ A q) from (orF_congr (fun j hj => C.qn hq (by omega)))) ?_
  refine xj_ldcw cn_X11_284 dX11_isRightElsewhere_4 ?_
  refine xj_iand dX11_isRightElsewhere_7 ?_
  refine xj_if_eq (tgt := 13) (by decide) dX11_isRightElsewhere_8 (fun zc8 => ?_) (fun zc8 => ?_)
  · refine xj_aload_n (n := 0) (i := 0) 0 rfl rfl dX11_isRightElsewhere_13 ?_
    refine xj_iload_n (n := 2) (i := 2) 2 rfl rfl dX11_isRightElsewhere_14 ?_
    refine xj_callV kv_X11_184 (c_X11_inThought l (d + 4) n g A Λ O C s hs) (As := [.int (nI s)]) (st := []) (by omega) (fq_0 g) (ci := 11) rfl rfl rfl rfl (xRm_of (by omega) (by decide) (by omega) (by omega)) (Nat.le_of_ble_eq_true rfl) dX11_isRightElsewhere_15 (yk_r (kc := 0) (ks := 0) fun zv1 zg2 hzg2 => ?_)
    obtain ⟨hvzv1, hxzg2, Bzg2⟩ := hzg2
    subst hvzv1
    have Czg2 := C.keep O hxzg2
    refine xj_astore (i := 4) (lv1 := [(4, .ref (28 + 3 * s)), (0, .ref 0), (1, .ref (72 + 2 * q)), (2, .int (nI s)), (3, .int (nI c))]) rfl (Nat.le_of_ble_eq_true rfl) dX11_isRightElsewhere_18 ?_
    refine xj_iconst (v := 0) (by decide) dX11_isRightElsewhere_20 ?_
    refine xj_istore (i := 5) (lv1 := [(5, .int 0), (4, .ref (28 + 3 * s)), (0, .ref 0), (1, .ref (72 + 2 * q)), (2, .int (nI s)), (3, .int (nI c))]) rfl (Nat.le_of_ble_eq_true rfl) dX11_isRightElsewhere_21 ?_
    have key : ∀ i, i ≤ 16 → ∀ (g1 : xG) (d1 : Nat → Int32), fr sX g g1 → (∀ k, i ≤ k → d1 k = A (10 + s) k) → pnA g1 (28 + 3 * s) (aK A s) (A 2 s) (A 3 s) d1 → allF (reB A Λ q s c) 16 0 = allF (reB A Λ q s c) (16 - i) i → xJ l (RX11, 6, (some .boolean), false, (xR (d + 7) 0 0), none) cX11_isRightElsewhere (qI n fun v g1 => v = bI (reF A Λ q s c = true) ∧ fr sX g g1) 0 0 23 [(5, .int (nI i)), (4, .ref (28 + 3 * s)), (0, .ref 0), (1, .ref (72 + 2 * q)), (2, .int (nI s)), (3, .int (nI c))] [] (n, fh g1) := by
      refine x_loop 16 _ ?_ ?_
      · intro g1 d1 hf hd1 B1 hz
        refine xj_iload (i := 5) 0 rfl dX11_isRightElsewhere_23 ?_
        refine xj_bipush (v := 16) (by decide) dX11_isRightElsewhere_25 ?_
        refine xj_icmp_ge (tgt := 56) (by decide) dX11_isRightElsewhere_27 (fun zc27 => ?_) (fun zc27 => ?_)
        · refine xj_iconst (v := 1) (by decide) dX11_isRightElsewhere_56 ?_
          exact xj_ireturn rfl nr_b1 (Nat.zero_le _) (Nat.zero_le _) dX11_isRightElsewhere_57 (qI_e ⟨(bI_t (decide_eq_true ⟨zc8, by rw [hz, Nat.sub_self]; rfl⟩)).symm, hf⟩)
        · exact absurd (nI_le (Nat.le_refl _) (by decide)) zc27
      · intro i hi ih g1 d1 hf hd1 B1 hz
        have hstep : allF (reB A Λ q s c) (16 - i) i = if reB A Λ q s c i = true then allF (reB A Λ q s c) (16 - (i + 1)) (i + 1) else false := by rw [show 16 - i = 16 - (i + 1) + 1 by omega]; rfl
        refine xj_iload (i := 5) 0 rfl dX11_isRightElsewhere_23 ?_
        refine xj_bipush (v := 16) (by decide) dX11_isRightElsewhere_25 ?_
        refine xj_icmp_ge (tgt := 56) (by decide) dX11_isRightElsewhere_27 (fun zc27 => ?_) (fun zc27 => ?_)
        · exact absurd zc27 (nI_ge hi (by decide))
        · refine xj_iload (i := 5) 0 rfl dX11_isRightElsewhere_30 ?_
          refine xj_iload_n (n := 3) (i := 3) 5 rfl rfl dX11_isRightElsewhere_32 ?_
          refine xj_icmp_eq (tgt := 50) (by decide) dX11_isRightElsewhere_33 (fun zc33 => ?_) (fun zc33 => ?_)
          · have hob : reB A Λ q s c i = true := decide_eq_true (Or.inl ((nI_eq (by omega) (by omega)).mp zc33))
            refine xj_iinc (n := 1) (i := 5) (v := nI (i + 1)) (lv1 := [(5, .int (nI (i + 1))), (4, .ref (28 + 3 * s)), (0, .ref 0), (1, .ref (72 + 2 * q)), (2, .int (nI s)), (3, .int (nI c))]) 0 rfl (nI_1 i) rfl (Nat.le_of_ble_eq_true rfl) dX11_isRightElsewhere_50 ?_
            refine xj_goto (tgt := 23) (by decide) dX11_isRightElsewhere_53 ?_
            refine xj_sub (lv' := [(5, .int (nI (i + 1))), (4, .ref (28 + 3 * s)), (0, .ref 0), (1, .ref (72 + 2 * q)), (2, .int (nI s)), (3, .int (nI c))]) [0, 1, 2, 3, 4, 5] rfl ?_
            exact ih g1 d1 hf (fun k hk => hd1 k (by omega)) B1 (by rw [hz, hstep, if_pos hob])
          · refine xj_aload_n (n := 0) (i := 0) 2 rfl rfl dX11_isRightElsewhere_36 ?_
            refine xj_aload_n (n := 1) (i := 1) 3 rfl rfl dX11_isRightElsewhere_37 ?_
            refine xj_aload (i := 4) 1 rfl dX11_isRightElsewhere_38 ?_
            refine xj_iload (i := 5) 0 rfl dX11_isRightElsewhere_40 ?_
            refine xj_callV kv_X11_222 (c_X11_isRightAt l (d + 0) n g1 A Λ O (C.keep O hf) q s i hq hs (by omega) d1 B1) (As := [.ref (72 + 2 * q), .ref (28 + 3 * s), .int (nI i)]) (st := []) (by omega) (fq_0 g1) (ci := 11) rfl rfl rfl rfl (xRm_of (by omega) (by decide) (by omega) (by omega)) (Nat.le_of_ble_eq_true rfl) dX11_isRightElsewhere_42 (yk_i (kc := 0) (ks := 0) fun zv3 zg4 hzg4 => ?_)
            obtain ⟨hvzv3, hxzg4, dnzg4, hdnzg4, Bzg4⟩ := hzg4
            have Czg4 := (C.keep O hf).keep O hxzg4
            refine xj_if_ne (tgt := 50) (by decide) dX11_isRightElsewhere_45 (fun zc45 => ?_) (fun zc45 => ?_)
            · have hra : raF A Λ q s i (d1 i) = true := bI_n0.mp (fun z => zc45 (hvzv3.trans z))
              have hob : reB A Λ q s c i = true := decide_eq_true (Or.inr (by rw [← hd1 i (Nat.le_refl _)]; exact hra))
              refine xj_iinc (n := 1) (i := 5) (v := nI (i + 1)) (lv1 := [(5, .int (nI (i + 1))), (4, .ref (28 + 3 * s)), (0, .ref 0), (1, .ref (72 + 2 * q)), (2, .int (nI s)), (3, .int (nI c))]) 0 rfl (nI_1 i) rfl (Nat.le_of_ble_eq_true rfl) dX11_isRightElsewhere_50 ?_
              refine xj_goto (tgt := 23) (by decide) dX11_isRightElsewhere_53 ?_
              refine xj_sub (lv' := [(5, .int (nI (i + 1))), (4, .ref (28 + 3 * s)), (0, .ref 0), (1, .ref (72 + 2 * q)), (2, .int (nI s)), (3, .int (nI c))]) [0, 1, 2, 3, 4, 5] rfl ?_
              exact ih zg4 dnzg4 (hf.tr hxzg4) (fun k hk => (hdnzg4 k (by omega)).trans (hd1 k (by omega))) Bzg4 (by rw [hz, hstep, if_pos hob])
            · have hra : ¬ raF A Λ q s i (d1 i) = true := bI_0.mp (hvzv3.symm.trans zc45)
              have hob : ¬ reB A Λ q s c i = true := fun y => by rcases of_decide_eq_true y with h | h; exact zc33 (by rw [h]); exact hra (by rw [hd1 i (Nat.le_refl _)]; exact h)
              refine xj_iconst (v := 0) (by decide) dX11_isRightElsewhere_48 ?_
              exact xj_ireturn rfl nr_b0 (Nat.zero_le _) (Nat.zero_le _) dX11_isRightElsewhere_49 (qI_e ⟨(bI_f (fun z => by have h := (of_decide_eq_true z).2; rw [hz, hstep, if_neg hob] at h; exact absurd h (by decide))).symm, (hf.tr hxzg4)⟩)
    refine xj_sub (lv' := [(5, .int 0), (4, .ref (28 + 3 * s)), (0, .ref 0), (1, .ref (72 + 2 * q)), (2, .int (nI s)), (3, .int (nI c))]) [0, 1, 2, 3, 4, 5] rfl ?_
    exact key 0 (Nat.zero_le _) zg2 _ hxzg2 (fun _ _ => rfl) Bzg2 rfl
  · refine xj_iconst (v := 0) (by decide) dX11_isRightElsewhere_11 ?_
    exact xj_ireturn rfl nr_b0 (Nat.zero_le _) (Nat.zero_le _) dX11_isRightElsewhere_12 (qI_e ⟨(bI_f (fun z => zc8 (of_decide_eq_true z).1)).symm, fr.rf⟩)
