set_option maxHeartbeats 4000000 in
set_option maxRecDepth 100000 in
theorem c_X11_often (l : Launch) (d : Nat) (n : Nat) (g : xG) (A : zSt) (Λ : Nat → xL) (O : okA A) (C : cA g n A Λ) (s : Int32)  : xC l yX11_often cX11_often 3 (some .int) (xR (d + 7) 0 0) [.ref 0, .int s] (n, fh g) (qI n fun v g1 => v = vOften A Λ s ∧ fr sX g g1) := by
  refine xC_of false (by decide +kernel) (fun z => by cases z) (Nat.le_of_ble_eq_true rfl) ?_
  have hn := C.n110 O
  have hS6 := O.1.2
  have hW := O.W
  have hT6 := O.2.2.2.1.2.2
  have hN9 := O.2.1.2
  show xJ l (RX11, 3, (some .int), false, (xR (d + 7) 0 0), none) cX11_often _ 0 0 0 [(0, .ref 0), (1, .int s)] [] (n, fh g)
  refine xj_aload_n (n := 0) (i := 0) 0 rfl rfl dX11_often_0 ?_
  refine xj_iload_n (n := 1) (i := 1) 1 rfl rfl dX11_often_1 ?_
  refine xj_callV kv_X11_125 (c_X11_isSleeper l (d + 5) n g A Λ O C s) (As := [.int s]) (st := []) (by omega) (fq_0 g) (ci := 11) rfl rfl rfl rfl (xRm_of (by omega) (by decide) (by omega) (by omega)) (Nat.le_of_ble_eq_true rfl) dX11_often_2 (yk_p (kc := 0) (ks := 0) ?_)
  refine xj_if_ne (tgt := 11) (by decide) dX11_often_5 (fun zc5 => ?_) (fun zc5 => ?_)
  · have zp5 : isSl A s := bI_n0.mp zc5
    obtain ⟨ks, hks, rfl⟩ := isSl_of O zp5
    have hs6_ks : ks < 6 := by omega
    refine xj_bipush (v := 9) (by decide) dX11_often_11 ?_
    refine xj_istore_n (n := 2) (i := 2) (lv1 := [(2, .int 9), (0, .ref 0), (1, .int (nI ks))]) rfl rfl (Nat.le_of_ble_eq_true rfl) dX11_often_13 ?_
    have key : ∀ i, i ≤ 9 → ∀ (g1 : xG), fr sX g g1 → vOften A Λ (nI ks) = lastF (ofE A Λ ks) (9 - i) → xJ l (RX11, 3, (some .int), false, (xR (d + 7) 0 0), none) cX11_often (qI n fun v g1 => v = vOften A Λ (nI ks) ∧ fr sX g g1) 0 0 14 [(2, .int (nI (9 - i))), (0, .ref 0), (1, .int (nI ks))] [] (n, fh g1) := by
      refine x_loop 9 _ ?_ ?_
      · intro g1 hf hz
        refine xj_iload_n (n := 2) (i := 2) 0 rfl rfl dX11_often_14 ?_
        refine xj_iconst (v := 1) (by decide) dX11_often_15 ?_
        refine xj_icmp_lt (tgt := 36) (by decide) dX11_often_16 (fun zc16 => ?_) (fun zc16 => ?_)
        · refine xj_iconst (v := (-1)) (by decide) dX11_often_36 ?_
          exact xj_ireturn rfl (nr_i _) (Nat.zero_le _) (Nat.zero_le _) dX11_often_37 (qI_e ⟨by rw [hz]; rfl, hf⟩)
        · exact absurd (by decide) zc16
      · intro i hi ih g1 hf hz
        have hstep : lastF (ofE A Λ ks) (9 - i) = if ofE A Λ ks (9 - i) = true then nI (9 - i) else lastF (ofE A Λ ks) (9 - (i + 1)) := by rw [show 9 - i = 9 - (i + 1) + 1 by omega]; rfl
        refine xj_iload_n (n := 2) (i := 2) 0 rfl rfl dX11_often_14 ?_
        refine xj_iconst (v := 1) (by decide) dX11_often_15 ?_
        refine xj_icmp_lt (tgt := 36) (by decide) dX11_often_16 (fun zc16 => ?_) (fun zc16 => ?_)
        · exact absurd zc16 (nI_nlt (a := 9 - i) (b := 1) (by omega) (by omega))
        · refine xj_aload_n (n := 0) (i := 0) 1 rfl rfl dX11_often_19 ?_
          refine xj_iload_n (n := 1) (i := 1) 2 rfl rfl dX11_often_20 ?_
          refine xj_iload_n (n := 2) (i := 2) 0 rfl rfl dX11_often_21 ?_
          refine xj_callV kv_X11_204 (c_X11_isOftenEnough l (d + 0) n g1 A Λ O (C.keep O hf) ks (9 - i) hks (by omega)) (As := [.int (nI ks), .int (nI (9 - i))]) (st := []) (by omega) (fq_0 g1) (ci := 11) rfl rfl rfl rfl (xRm_of (by omega) (by decide) (by omega) (by omega)) (Nat.le_of_ble_eq_true rfl) dX11_often_22 (yk_i (kc := 0) (ks := 0) fun zv1 zg2 hzg2 => ?_)
          obtain ⟨hvzv1, hxzg2⟩ := hzg2
          have Czg2 := (C.keep O hf).keep O hxzg2
          refine xj_if_eq (tgt := 30) (by decide) dX11_often_25 (fun zc25 => ?_) (fun zc25 => ?_)
          · have hob : ¬ ofE A Λ ks (9 - i) = true := bI_0.mp (hvzv1.symm.trans zc25)
            obtain ⟨zv3, ezv3⟩ : ∃ z : Int32, z = (nI (9 - i)) + Int32.ofInt (-1) := ⟨_, rfl⟩
            refine xj_iinc (i := 2) (v := zv3) (lv1 := [(2, .int zv3), (0, .ref 0), (1, .int (nI ks))]) 0 rfl ezv3.symm rfl (Nat.le_of_ble_eq_true rfl) dX11_often_30 ?_
            refine xj_goto (tgt := 14) (by decide) dX11_often_33 ?_
            refine xj_sub (lv' := [(2, .int zv3), (0, .ref 0), (1, .int (nI ks))]) [0, 1, 2] rfl ?_
            rw [show zv3 = nI (9 - (i + 1)) from by rw [ezv3, show 9 - i = 9 - (i + 1) + 1 by omega]; exact pk_m1 _]
            exact ih zg2 (hf.tr hxzg2) (by rw [hz, hstep, if_neg hob])
          · have hob : ofE A Λ ks (9 - i) = true := bI_n0.mp (fun z => zc25 (hvzv1.trans z))
            refine xj_iload_n (n := 2) (i := 2) 0 rfl rfl dX11_often_28 ?_
            exact xj_ireturn rfl (nr_i _) (Nat.zero_le _) (Nat.zero_le _) dX11_often_29 (qI_e ⟨by rw [hz, hstep, if_pos hob], (hf.tr hxzg2)⟩)
    refine xj_sub (lv' := [(2, .int 9), (0, .ref 0), (1, .int (nI ks))]) [0, 1, 2] rfl ?_
    exact key 0 (Nat.zero_le _) g fr.rf (by unfold vOften; rw [if_pos zp5, nI_clamp (by omega)])
  · have zp5 : ¬ (isSl A s) := bI_0.mp zc5
    refine xj_bipush (v := (-5)) (by decide) dX11_often_8 ?_
    exact xj_ireturn rfl (nr_i _) (Nat.zero_le _) (Nat.zero_le _) dX11_often_10 (qI_e ⟨by unfold vOften; rw [if_neg zp5]; all_goals (rfl), fr.rf⟩)
