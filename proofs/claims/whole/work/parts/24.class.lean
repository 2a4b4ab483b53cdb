theorem pk_r10 {k : Nat} (h : k < 2 ^ 31) : nI k - nI k / 10 * 10 = nI (k % 10) := pk_rem (a := k) (d := 10) h (by omega) (by omega)
theorem pk_d10 {k : Nat} (h : k < 2 ^ 31) : nI k / 10 = nI (k / 10) := pk_div (a := k) (d := 10) h (by omega) (by omega)
set_option maxHeartbeats 4000000 in
set_option maxRecDepth 100000 in
theorem c_X11_sleeper (l : Launch) (d : Nat) (n : Nat) (g : xG) (A : zSt) (Λ : Nat → xL) (O : okA A) (C : cA g n A Λ) (km pic dl : Int32)  : xC l yX11_sleeper cX11_sleeper 5 (some .int) (xR (d + 2) 0 0) [.ref 0, .int km, .int pic, .int dl] (n, fh g) (qI n fun v g1 => v = (rSleeper A km pic dl).1 ∧ cA g1 n (rSleeper A km pic dl).2 Λ ∧ fr cX g g1) := by
  refine xC_of false (by decide +kernel) (fun z => by cases z) (Nat.le_of_ble_eq_true rfl) ?_
  have hn := C.n110 O
  have hS6 := O.1.2
  have hW := O.W
  have hT6 := O.2.2.2.1.2.2
  have hN9 := O.2.1.2
  show xJ l (RX11, 5, (some .int), false, (xR (d + 2) 0 0), none) cX11_sleeper _ 0 0 0 [(0, .ref 0), (1, .int km), (2, .int pic), (3, .int dl)] [] (n, fh g)
  refine xj_iload_n (n := 1) (i := 1) 1 rfl rfl dX11_sleeper_0 ?_
  refine xj_bipush (v := 59) (by decide) dX11_sleeper_1 ?_
  refine xj_callS ks_X11_107 (c_X11_within l (d + 1) km 59 _) (As := [.int km, .int 59]) (st := []) rfl rfl (xRm_of (by omega) (by decide) (by omega) (by omega)) (Nat.le_of_ble_eq_true rfl) dX11_sleeper_3 (yk_p (kc := 0) (ks := 0) ?_)
  refine xj_if_eq (tgt := 27) (by decide) dX11_sleeper_6 (fun zc6 => ?_) (fun zc6 => ?_)
  · have zp6 : ¬ (0 ≤ km ∧ km ≤ 59) := bI_0.mp zc6
    refine xj_bipush (v := (-2)) (by decide) dX11_sleeper_27 ?_
    have er : rSleeper A km pic dl = ((-2), A) := by unfold rSleeper; rw [if_neg zp6]; all_goals (rfl)
    exact xj_ireturn rfl (nr_i _) (Nat.zero_le _) (Nat.zero_le _) dX11_sleeper_29 (qI_e (by rw [er]; exact ⟨rfl, C, fr.rf⟩))
  · have zp6 : 0 ≤ km ∧ km ≤ 59 := bI_n0.mp zc6
    obtain ⟨kkm, hkkm, rfl⟩ := nI_bnd (m := 59) (by decide) zp6.1 zp6.2
    refine xj_iload_n (n := 2) (i := 2) 2 rfl rfl dX11_sleeper_9 ?_
    refine xj_ldc cn_X11_136 dX11_sleeper_10 ?_
    refine xj_callS ks_X11_107 (c_X11_within l (d + 1) pic 65535 _) (As := [.int pic, .int 65535]) (st := []) rfl rfl (xRm_of (by omega) (by decide) (by omega) (by omega)) (Nat.le_of_ble_eq_true rfl) dX11_sleeper_12 (yk_p (kc := 0) (ks := 0) ?_)
    refine xj_if_eq (tgt := 27) (by decide) dX11_sleeper_15 (fun zc15 => ?_) (fun zc15 => ?_)
    · have zp15 : ¬ (0 ≤ pic ∧ pic ≤ 65535) := bI_0.mp zc15
      refine xj_bipush (v := (-2)) (by decide) dX11_sleeper_27 ?_
      have er : rSleeper A (nI kkm) pic dl = ((-2), A) := by unfold rSleeper; (try simp only [nI_clamp (show kkm < 2147483648 by omega)]); rw [if_pos zp6, if_neg zp15]; all_goals (rfl)
      exact xj_ireturn rfl (nr_i _) (Nat.zero_le _) (Nat.zero_le _) dX11_sleeper_29 (qI_e (by rw [er]; exact ⟨rfl, C, fr.rf⟩))
    · have zp15 : 0 ≤ pic ∧ pic ≤ 65535 := bI_n0.mp zc15
      obtain ⟨kpic, hkpic, rfl⟩ := nI_bnd (m := 65535) (by decide) zp15.1 zp15.2
      refine xj_iload_n (n := 3) (i := 3) 3 rfl rfl dX11_sleeper_18 ?_
      refine xj_bipush (v := 99) (by decide) dX11_sleeper_19 ?_
      refine xj_callS ks_X11_107 (c_X11_within l (d + 1) dl 99 _) (As := [.int dl, .int 99]) (st := []) rfl rfl (xRm_of (by omega) (by decide) (by omega) (by omega)) (Nat.le_of_ble_eq_true rfl) dX11_sleeper_21 (yk_p (kc := 0) (ks := 0) ?_)
      refine xj_if_ne (tgt := 30) (by decide) dX11_sleeper_24 (fun zc24 => ?_) (fun zc24 => ?_)
      · have zp24 : 0 ≤ dl ∧ dl ≤ 99 := bI_n0.mp zc24
        obtain ⟨kdl, hkdl, rfl⟩ := nI_bnd (m := 99) (by decide) zp24.1 zp24.2
        refine xj_aload_n (n := 0) (i := 0) 0 rfl rfl dX11_sleeper_30 ?_
        refine yj_getf (v := .int (nI (aS A))) fl_X11_80_11 (by omega) (fq_0 g) (congrArg (fun z => some (Value.int z)) (C.S O)) dX11_sleeper_31 ?_
        refine xj_bipush (v := 6) (by decide) dX11_sleeper_34 ?_
        refine xj_icmp_lt (tgt := 42) (by decide) dX11_sleeper_36 (fun zc36 => ?_) (fun zc36 => ?_)
        · have hS7 : aS A < 6 := (nI_ltI (b := 6) (by omega) (by decide)).mp zc36
          refine xj_aload_n (n := 0) (i := 0) 0 rfl rfl dX11_sleeper_42 ?_
          refine yj_getf (v := .ref 8) fl_X11_37_11 (by omega) (fq_0 g) rfl dX11_sleeper_43 ?_
          refine xj_aload_n (n := 0) (i := 0) 0 rfl rfl dX11_sleeper_46 ?_
          refine yj_getf (v := .int (nI (aS A))) fl_X11_80_11 (by omega) (fq_0 g) (congrArg (fun z => some (Value.int z)) (C.S O)) dX11_sleeper_47 ?_
          refine yj_aaldN (m := 6) (a := 9 + 3 * (aS A)) (aS A) (by omega) (fq_8 g) (by decide) (by decide) rfl (by omega) (by decide) (if_pos (by omega)) dX11_sleeper_50 ?_
          refine xj_astore (i := 4) (lv1 := [(4, .ref (9 + 3 * (aS A))), (0, .ref 0), (1, .int (nI kkm)), (2, .int (nI kpic)), (3, .int (nI kdl))]) rfl (Nat.le_of_ble_eq_true rfl) dX11_sleeper_51 ?_
          refine xj_aload (i := 4) 0 rfl dX11_sleeper_53 ?_
          refine xj_aload_n (n := 0) (i := 0) 1 rfl rfl dX11_sleeper_55 ?_
          refine yj_getf (v := .ref 1) fl_X11_29_11 (by omega) (fq_0 g) rfl dX11_sleeper_56 ?_
          refine xj_iload_n (n := 1) (i := 1) 2 rfl rfl dX11_sleeper_59 ?_
          refine xj_bipush (v := 10) (by decide) dX11_sleeper_60 ?_
          refine xj_idiv (by decide) dX11_sleeper_62 ?_
          refine yj_aaldN (m := 6) (a := 2 + (kkm / 10)) (kkm / 10) (by omega) (fq_1 g) (by decide) (by decide) (pk_d10 (by omega)) (by omega) (by decide) (if_pos (by omega)) dX11_sleeper_63 ?_
          refine yj_putk fl_X11_137_7 (by omega) (fPn_r hS7) (by omega) dX11_sleeper_64 ?_
          obtain ⟨zg1, ezg1⟩ : ∃ z, z = gs g (9 + 3 * (aS A)) 0 (nI (kkm / 10)) := ⟨_, rfl⟩
          rw [← ezg1]
          refine xj_aload (i := 4) 0 rfl dX11_sleeper_67 ?_
          refine xj_iload_n (n := 1) (i := 1) 2 rfl rfl dX11_sleeper_69 ?_
          refine xj_bipush (v := 10) (by decide) dX11_sleeper_70 ?_
          refine xj_irem (by decide) dX11_sleeper_72 ?_
          refine xj_topi (fun zv2 ezv2 => ?_)
          refine yj_puti fl_X11_141_7 (by omega) (fPn_S (fPn_r hS7) 1 (by decide)) (fi_i _) dX11_sleeper_73 ?_
          obtain ⟨zg3, ezg3⟩ : ∃ z, z = gs zg1 (9 + 3 * (aS A)) 1 zv2 := ⟨_, rfl⟩
          rw [← ezg3]
          refine xj_aload (i := 4) 0 rfl dX11_sleeper_76 ?_
          refine xj_iload_n (n := 2) (i := 2) 3 rfl rfl dX11_sleeper_78 ?_
          refine yj_puti fl_X11_144_7 (by omega) (fPn_S (fPn_r hS7) 2 (by decide)) (fi_i _) dX11_sleeper_79 ?_
          obtain ⟨zg4, ezg4⟩ : ∃ z, z = gs zg3 (9 + 3 * (aS A)) 2 (nI kpic) := ⟨_, rfl⟩
          rw [← ezg4]
          refine xj_aload (i := 4) 0 rfl dX11_sleeper_82 ?_
          refine xj_iload_n (n := 3) (i := 3) 4 rfl rfl dX11_sleeper_84 ?_
          refine xj_callV kv_X11_147 (c_X7_dullAll l (d + 1) n hn zg4 (9 + 3 * aS A) (fPn_r hS7) (nI kdl)) (As := [.int (nI kdl)]) (st := []) (by omega) ((fPn_r hS7).2.2.1 _) (ci := 7) rfl rfl rfl rfl (xRm_of (by omega) (by decide) (by omega) (by omega)) (Nat.le_of_ble_eq_true rfl) dX11_sleeper_85 (yk_v (kc := 0) (ks := 0) fun zg5 hzg5 => ?_)
          obtain ⟨hfd, hB⟩ := hzg5
          have h0 : zg5 0 = g 0 := by rw [hfd 0 (by omega), ezg4, ezg3, ezg1, gs_n _ _ _ (by omega), gs_n _ _ _ (by omega), gs_n _ _ _ (by omega)]
          refine xj_aload_n (n := 0) (i := 0) 1 rfl rfl dX11_sleeper_88 ?_
          refine xj_dup rfl dX11_sleeper_89 ?_
          refine yj_getf (v := .int (nI (aS A))) fl_X11_80_11 (by omega) (fq_0 zg5) (congrArg (fun z => some (Value.int z)) ((congrFun h0 9).trans (C.S O))) dX11_sleeper_90 ?_
          refine xj_iconst (v := 1) (by decide) dX11_sleeper_93 ?_
          refine xj_iadd dX11_sleeper_94 ?_
          refine xj_topi (fun zv6 ezv6 => ?_)
          refine yj_puti fl_X11_80_11 (by omega) fS_0_9 (fi_i _) dX11_sleeper_95 ?_
          obtain ⟨zg7, ezg7⟩ : ∃ z, z = gs zg5 0 9 zv6 := ⟨_, rfl⟩
          rw [← ezg7]
          have h5 : zg7 = gs zg5 0 9 (nI (aS A + 1)) := by rw [ezg7, ezv6, nI_1]
          refine xj_aload_n (n := 0) (i := 0) 1 rfl rfl dX11_sleeper_98 ?_
          refine yj_getf (v := .int (nI (aS A + 1))) fl_X11_80_11 (by omega) (fq_0 zg7) (congrArg (fun z => some (Value.int z)) (by rw [h5, gs_s, upd_s])) dX11_sleeper_99 ?_
          refine xj_iconst (v := 1) (by decide) dX11_sleeper_102 ?_
          refine xj_isub dX11_sleeper_103 ?_
          refine xj_top (nI_pred _) ?_
          have hq0 : zg5 (9 + 3 * aS A) = upd (upd (upd (g (9 + 3 * aS A)) 0 (nI (kkm / 10))) 1 (nI (kkm % 10))) 2 (nI kpic) := by rw [hfd _ (by omega), ezg4, ezg3, ezg1, gs_s, gs_s, gs_s, ezv2, pk_r10 (by omega)]
          have hfr : fr (fun j => j = 0 ∨ j = 9 + 3 * aS A ∨ j = 9 + 3 * aS A + 1) g zg7 := by
            have w1 : fr (fun j => j = 0 ∨ j = 9 + 3 * aS A ∨ j = 9 + 3 * aS A + 1) g zg4 := by rw [ezg4, ezg3, ezg1]; exact ((fr.rf.gs (Or.inr (Or.inl rfl)) _ _).gs (Or.inr (Or.inl rfl)) _ _).gs (Or.inr (Or.inl rfl)) _ _
            rw [h5]; exact (w1.tr (hfd.mono fun j hj => Or.inr (Or.inr hj))).gs (Or.inl rfl) _ _
          have hB2 : pnA zg7 (9 + 3 * aS A) (kkm / 10) (nI (kkm % 10)) (nI kpic) fun _ => nI kdl := by
            rw [h5]
            refine ⟨by rw [gs_n _ _ _ (by omega), hq0]; rfl, by rw [gs_n _ _ _ (by omega), hq0]; rfl, by rw [gs_n _ _ _ (by omega), hq0]; rfl, fun c hc => by rw [gs_n _ _ _ (by omega)]; exact hB c hc, by omega⟩
          have h00 : zg7 0 = upd (g 0) 9 (nI (aS A + 1)) := by rw [h5, gs_s, h0]
          have er : rSleeper A (nI kkm) (nI kpic) (nI kdl) = ((nI (aS A)), stSl A (nI (kkm / 10)) (nI (kkm % 10)) (nI kpic) (nI kdl)) := by unfold rSleeper; (try simp only [nI_clamp (show kkm < 2147483648 by omega), nI_clamp (show kpic < 2147483648 by omega), nI_clamp (show kdl < 2147483648 by omega)]); rw [if_pos zp6, if_pos zp15, if_pos zp24, if_pos zc36]; all_goals (rfl)
          exact xj_ireturn rfl (nr_i _) (Nat.zero_le _) (Nat.zero_le _) dX11_sleeper_104 (qI_e (by rw [er]; exact ⟨rfl, (C.slp O hS7 hfr h00 hB2), (hfr.mono (fun j hj => cX_lt (by omega)))⟩))
        · refine xj_bipush (v := (-4)) (by decide) dX11_sleeper_39 ?_
          have er : rSleeper A (nI kkm) (nI kpic) (nI kdl) = ((-4), A) := by unfold rSleeper; (try simp only [nI_clamp (show kkm < 2147483648 by omega), nI_clamp (show kpic < 2147483648 by omega), nI_clamp (show kdl < 2147483648 by omega)]); rw [if_pos zp6, if_pos zp15, if_pos zp24, if_neg zc36]; all_goals (rfl)
          exact xj_ireturn rfl (nr_i _) (Nat.zero_le _) (Nat.zero_le _) dX11_sleeper_41 (qI_e (by rw [er]; exact ⟨rfl, C, fr.rf⟩))
      · have zp24 : ¬ (0 ≤ dl ∧ dl ≤ 99) := bI_0.mp zc24
        refine xj_bipush (v := (-2)) (by decide) dX11_sleeper_27 ?_
        have er : rSleeper A (nI kkm) (nI kpic) dl = ((-2), A) := by unfold rSleeper; (try simp only [nI_clamp (show kkm < 2147483648 by omega), nI_clamp (show kpic < 2147483648 by omega)]); rw [if_pos zp6, if_pos zp15, if_neg zp24]; all_goals (rfl)
        exact xj_ireturn rfl (nr_i _) (Nat.zero_le _) (Nat.zero_le _) dX11_sleeper_29 (qI_e (by rw [er]; exact ⟨rfl, C, fr.rf⟩))
set_option maxHeartbeats 4000000 in
set_option maxRecDepth 100000 in
theorem c_X9_add (l : Launch) (d : Nat) (n : Nat) (g : xG) (A : zSt) (Λ : Nat → xL) (O : okA A) (C : cA g n A Λ) (b : Int32) (hz : aZ A < 160)  : xC l yX9_add cX9_add 2 none (xR (d + 0) 0 0) [.ref 67, .int b] (n, fh g) (qV n fun g1 => cA g1 n (stTp A b) Λ ∧ fr cX g g1) := by
  refine xC_of false (by decide +kernel) (fun z => by cases z) (Nat.le_of_ble_eq_true rfl) ?_
  have hn := C.n110 O
  show xJ l (RX9, 2, none, false, (xR (d + 0) 0 0), none) cX9_add _ 0 0 0 [(0, .ref 67), (1, .int b)] [] (n, fh g)
  refine xj_aload_n (n := 0) (i := 0) 0 rfl rfl dX9_add_0 ?_
  refine yj_getf (v := .int (nI (aZ A))) fl_X9_9_9 (by omega) (fq_67 g) (congrArg (fun z => some (Value.int z)) (C.Z O)) dX9_add_1 ?_
  refine xj_sipush (v := 160) (by decide) dX9_add_4 ?_
  refine xj_icmp_ge (tgt := 30) (by decide) dX9_add_7 (fun zc7 => ?_) (fun zc7 => ?_)
  · exact absurd zc7 (nI_ge hz (by decide))
  · refine xj_aload_n (n := 0) (i := 0) 0 rfl rfl dX9_add_10 ?_
    refine yj_getf (v := .ref 68) fl_X9_18_9 (by omega) (fq_67 g) rfl dX9_add_11 ?_
    refine xj_aload_n (n := 0) (i := 0) 0 rfl rfl dX9_add_14 ?_
    refine yj_getf (v := .int (nI (aZ A))) fl_X9_9_9 (by omega) (fq_67 g) (congrArg (fun z => some (Value.int z)) (C.Z O)) dX9_add_15 ?_
    refine xj_iload_n (n := 1) (i := 1) 1 rfl rfl dX9_add_18 ?_
    refine yj_iastN (aZ A) (by omega) fA_68 rfl (by omega) (by decide) dX9_add_19 ?_
    obtain ⟨zg1, ezg1⟩ : ∃ z, z = gs g 68 (aZ A) b := ⟨_, rfl⟩
    rw [← ezg1]
    have h6 : zg1 67 0 = nI (aZ A) := by rw [ezg1, gs_n _ _ _ (by omega)]; exact C.Z O
    refine xj_aload_n (n := 0) (i := 0) 0 rfl rfl dX9_add_20 ?_
    refine xj_dup rfl dX9_add_21 ?_
    refine yj_getf (v := .int (nI (aZ A))) fl_X9_9_9 (by omega) (fq_67 zg1) (congrArg (fun z => some (Value.int z)) h6) dX9_add_22 ?_
    refine xj_iconst (v := 1) (by decide) dX9_add_25 ?_
    refine xj_iadd dX9_add_26 ?_
    refine xj_topi (fun zv2 ezv2 => ?_)
    refine yj_puti fl_X9_9_9 (by omega) fS_67_0 (fi_i _) dX9_add_27 ?_
    obtain ⟨zg3, ezg3⟩ : ∃ z, z = gs zg1 67 0 zv2 := ⟨_, rfl⟩
    rw [← ezg3]
    exact xj_return rfl (Nat.zero_le _) (Nat.zero_le _) dX9_add_30 (qV_e ⟨C.tap O b (by rw [ezg3, ezg1, ezv2, nI_1]), by rw [ezg3, ezg1]; exact (fr.rf.gs (cX_lt (by omega)) _ _).gs (cX_lt (by omega)) _ _⟩)
def rSheet (A : zSt) (q sort n : Int32) : Int32 × zSt := if 0 ≤ q ∧ q ≤ 3 then if sort = -1 then (1, stQ A q.toNatClampNeg sort 0 fun _ => 0) else if 0 ≤ sort ∧ sort ≤ 2 then if n ≤ 40 then if n ≥ 0 then (1, stQ A q.toNatClampNeg sort n fun _ => 0) else (-14, A) else (-2, A) else (-2, A) else (-2, A)
def rCell (A : zSt) (q i v : Int32) : Int32 × zSt := if 0 ≤ q ∧ q ≤ 3 then if A 5 q.toNatClampNeg = -1 then (-11, A) else if 0 ≤ i ∧ i ≤ nI (aQ A q.toNatClampNeg) - 1 then (1, stQ A q.toNatClampNeg (A 5 q.toNatClampNeg) (A 6 q.toNatClampNeg) (upd (A (40 + q.toNatClampNeg)) i.toNatClampNeg (wrF (A 5 q.toNatClampNeg) v))) else (-12, A) else (-2, A)
def refF (A : zSt) (q s : Int32) : Int32 := if 0 ≤ q ∧ q ≤ 3 then if A 5 q.toNatClampNeg = -1 then -11 else if nI (aQ A q.toNatClampNeg) ≤ 20 then if isSl A s then 0 else -5 else -2 else -2
set_option maxHeartbeats 4000000 in
set_option maxRecDepth 100000 in
theorem c_X11_refusalOf (l : Launch) (d : Nat) (n : Nat) (g : xG) (A : zSt) (Λ : Nat → xL) (O : okA A) (C : cA g n A Λ) (q s : Int32)  : xC l yX11_refusalOf cX11_refusalOf 3 (some .int) (xR (d + 2) 0 0) [.ref 0, .int q, .int s] (n, fh g) (qP (refF A q s) (n, fh g)) := by
  refine xC_of false (by decide +kernel) (fun z => by cases z) (Nat.le_of_ble_eq_true rfl) ?_
  have hn := C.n110 O
  have hS6 := O.1.2
  have hW := O.W
  have hT6 := O.2.2.2.1.2.2
  have hN9 := O.2.1.2
  show xJ l (RX11, 3, (some .int), false, (xR (d + 2) 0 0), none) cX11_refusalOf _ 0 0 0 [(0, .ref 0), (1, .int q), (2, .int s)] [] (n, fh g)
  refine xj_iload_n (n := 1) (i := 1) 1 rfl rfl dX11_refusalOf_0 ?_
  refine xj_callS ks_X11_230 (c_X11_isSheet l (d + 0) q _) (As := [.int q]) (st := []) rfl rfl (xRm_of (by omega) (by decide) (by omega) (by omega)) (Nat.le_of_ble_eq_true rfl) dX11_refusalOf_1 (yk_p (kc := 0) (ks := 0) ?_)
  refine xj_if_ne (tgt := 10) (by decide) dX11_refusalOf_4 (fun zc4 => ?_) (fun zc4 => ?_)
  · have zp4 : 0 ≤ q ∧ q ≤ 3 := bI_n0.mp zc4
    obtain ⟨kq, hkq, rfl⟩ := nI_bnd (m := 3) (by decide) zp4.1 zp4.2
    have hk4_kq : kq < 4 := by omega
    refine xj_aload_n (n := 0) (i := 0) 0 rfl rfl dX11_refusalOf_10 ?_
    refine yj_getf (v := .ref 71) fl_X11_69_11 (by omega) (fq_0 g) rfl dX11_refusalOf_11 ?_
    refine xj_iload_n (n := 1) (i := 1) 1 rfl rfl dX11_refusalOf_14 ?_
    refine yj_aaldN (m := 4) (a := 72 + 2 * kq) kq (by omega) (fq_71 g) (by decide) (by decide) rfl (by omega) (by decide) (if_pos (by omega)) dX11_refusalOf_15 ?_
    refine yj_getf (v := .int (A 5 kq)) fl_X11_255_8 (by omega) ((fSt_q hk4_kq).2.1 (g (72 + 2 * kq))) (congrArg (fun z => some (Value.int z)) (C.qs hk4_kq)) dX11_refusalOf_16 ?_
    refine xj_iconst (v := (-1)) (by decide) dX11_refusalOf_19 ?_
    refine xj_icmp_ne (tgt := 26) (by decide) dX11_refusalOf_20 (fun zc20 => ?_) (fun zc20 => ?_)
    · refine xj_aload_n (n := 0) (i := 0) 0 rfl rfl dX11_refusalOf_26 ?_
      refine yj_getf (v := .ref 71) fl_X11_69_11 (by omega) (fq_0 g) rfl dX11_refusalOf_27 ?_
      refine xj_iload_n (n := 1) (i := 1) 1 rfl rfl dX11_refusalOf_30 ?_
      refine yj_aaldN (m := 4) (a := 72 + 2 * kq) kq (by omega) (fq_71 g) (by decide) (by decide) rfl (by omega) (by decide) (if_pos (by omega)) dX11_refusalOf_31 ?_
      refine yj_getf (v := .int (nI (aQ A kq))) fl_X11_229_8 (by omega) ((fSt_q hk4_kq).2.1 (g (72 + 2 * kq))) (congrArg (fun z => some (Value.int z)) (C.qz O hk4_kq)) dX11_refusalOf_32 ?_
      refine xj_bipush (v := 20) (by decide) dX11_refusalOf_35 ?_
      refine xj_icmp_le (tgt := 43) (by decide) dX11_refusalOf_37 (fun zc37 => ?_) (fun zc37 => ?_)
      · refine xj_aload_n (n := 0) (i := 0) 0 rfl rfl dX11_refusalOf_43 ?_
        refine xj_iload_n (n := 2) (i := 2) 2 rfl rfl dX11_refusalOf_44 ?_
        refine xj_callV kv_X11_125 (c_X11_isSleeper l (d + 0) n g A Λ O C s) (As := [.int s]) (st := []) (by omega) (fq_0 g) (ci := 11) rfl rfl rfl rfl (xRm_of (by omega) (by decide) (by omega) (by omega)) (Nat.le_of_ble_eq_true rfl) dX11_refusalOf_45 (yk_p (kc := 0) (ks := 0) ?_)
        refine xj_if_eq (tgt := 55) (by decide) dX11_refusalOf_48 (fun zc48 => ?_) (fun zc48 => ?_)
        · have zp48 : ¬ (isSl A s) := bI_0.mp zc48
          refine xj_bipush (v := (-5)) (by decide) dX11_refusalOf_55 ?_
          exact xj_ireturn rfl (nr_i _) (Nat.zero_le _) (Nat.zero_le _) dX11_refusalOf_57 (qP_e ((by unfold refF; (try simp only [nI_clamp (show kq < 2147483648 by omega)]); rw [if_pos zp4, if_neg zc20, if_pos zc37, if_neg zp48]; all_goals (rfl) : refF A (nI kq) s = _)).symm)
        · have zp48 : isSl A s := bI_n0.mp zc48
          refine xj_iconst (v := 0) (by decide) dX11_refusalOf_51 ?_
          refine xj_goto (tgt := 57) (by decide) dX11_refusalOf_52 ?_
          exact xj_ireturn rfl (nr_i _) (Nat.zero_le _) (Nat.zero_le _) dX11_refusalOf_57 (qP_e ((by unfold refF; (try simp only [nI_clamp (show kq < 2147483648 by omega)]); rw [if_pos zp4, if_neg zc20, if_pos zc37, if_pos zp48]; all_goals (rfl) : refF A (nI kq) s = _)).symm)
      · refine xj_bipush (v := (-2)) (by decide) dX11_refusalOf_40 ?_
        exact xj_ireturn rfl (nr_i _) (Nat.zero_le _) (Nat.zero_le _) dX11_refusalOf_42 (qP_e ((by unfold refF; (try simp only [nI_clamp (show kq < 2147483648 by omega)]); rw [if_pos zp4, if_neg zc20, if_neg zc37]; all_goals (rfl) : refF A (nI kq) s = _)).symm)
    · refine xj_bipush (v := (-11)) (by decide) dX11_refusalOf_23 ?_
      exact xj_ireturn rfl (nr_i _) (Nat.zero_le _) (Nat.zero_le _) dX11_refusalOf_25 (qP_e ((by unfold refF; (try simp only [nI_clamp (show kq < 2147483648 by omega)]); rw [if_pos zp4, if_pos zc20]; all_goals (rfl) : refF A (nI kq) s = _)).symm)
  · have zp4 : ¬ (0 ≤ q ∧ q ≤ 3) := bI_0.mp zc4
    refine xj_bipush (v := (-2)) (by decide) dX11_refusalOf_7 ?_
    exact xj_ireturn rfl (nr_i _) (Nat.zero_le _) (Nat.zero_le _) dX11_refusalOf_9 (qP_e ((by unfold refF; rw [if_neg zp4]; all_goals (rfl) : refF A q s = _)).symm)
set_option maxHeartbeats 4000000 in
set_option maxRecDepth 100000 in
theorem c_X11_cell (l : Launch) (d : Nat) (n : Nat) (g : xG) (A : zSt) (Λ : Nat → xL) (O : okA A) (C : cA g n A Λ) (q i w : Int32)  : xC l yX11_cell cX11_cell 4 (some .int) (xR (d + 2) 0 0) [.ref 0, .int q, .int i, .int w] (n, fh g) (qI n fun v g1 => v = (rCell A q i w).1 ∧ cA g1 n (rCell A q i w).2 Λ ∧ fr cX g g1) := by
  refine xC_of false (by decide +kernel) (fun z => by cases z) (Nat.le_of_ble_eq_true rfl) ?_
  have hn := C.n110 O
  have hS6 := O.1.2
  have hW := O.W
  have hT6 := O.2.2.2.1.2.2
  have hN9 := O.2.1.2
  show xJ l (RX11, 4, (some .int), false, (xR (d + 2) 0 0), none) cX11_cell _ 0 0 0 [(0, .ref 0), (1, .int q), (2, .int i), (3, .int w)] [] (n, fh g)
  refine xj_iload_n (n := 1) (i := 1) 1 rfl rfl dX11_cell_0 ?_
  refine xj_callS ks_X11_230 (c_X11_isSheet l (d + 0) q _) (As := [.int q]) (st := []) rfl rfl (xRm_of (by omega) (by decide) (by omega) (by omega)) (Nat.le_of_ble_eq_true rfl) dX11_cell_1 (yk_p (kc := 0) (ks := 0) ?_)
  refine xj_if_ne (tgt := 10) (by decide) dX11_cell_4 (fun zc4 => ?_) (fun zc4 => ?_)
  · have zp4 : 0 ≤ q ∧ q ≤ 3 := bI_n0.mp zc4
    obtain ⟨kq, hkq, rfl⟩ := nI_bnd (m := 3) (by decide) zp4.1 zp4.2
    have hk4_kq : kq < 4 := by omega
    refine xj_aload_n (n := 0) (i := 0) 0 rfl rfl dX11_cell_10 ?_
    refine yj_getf (v := .ref 71) fl_X11_69_11 (by omega) (fq_0 g) rfl dX11_cell_11 ?_
    refine xj_iload_n (n := 1) (i := 1) 1 rfl rfl dX11_cell_14 ?_
    refine yj_aaldN (m := 4) (a := 72 + 2 * kq) kq (by omega) (fq_71 g) (by decide) (by decide) rfl (by omega) (by decide) (if_pos (by omega)) dX11_cell_15 ?_
    refine yj_getf (v := .int (A 5 kq)) fl_X11_255_8 (by omega) ((fSt_q hk4_kq).2.1 (g (72 + 2 * kq))) (congrArg (fun z => some (Value.int z)) (C.qs hk4_kq)) dX11_cell_16 ?_
    refine xj_iconst (v := (-1)) (by decide) dX11_cell_19 ?_
    refine xj_icmp_ne (tgt := 26) (by decide) dX11_cell_20 (fun zc20 => ?_) (fun zc20 => ?_)
    · have hzq := (O.2.2.2.2.2.2.2.2 kq hk4_kq).2.2
      refine xj_iload_n (n := 2) (i := 2) 2 rfl rfl dX11_cell_26 ?_
      refine xj_aload_n (n := 0) (i := 0) 0 rfl rfl dX11_cell_27 ?_
      refine yj_getf (v := .ref 71) fl_X11_69_11 (by omega) (fq_0 g) rfl dX11_cell_28 ?_
      refine xj_iload_n (n := 1) (i := 1) 1 rfl rfl dX11_cell_31 ?_
      refine yj_aaldN (m := 4) (a := 72 + 2 * kq) kq (by omega) (fq_71 g) (by decide) (by decide) rfl (by omega) (by decide) (if_pos (by omega)) dX11_cell_32 ?_
      refine yj_getf (v := .int (nI (aQ A kq))) fl_X11_229_8 (by omega) ((fSt_q hk4_kq).2.1 (g (72 + 2 * kq))) (congrArg (fun z => some (Value.int z)) (C.qz O hk4_kq)) dX11_cell_33 ?_
      refine xj_iconst (v := 1) (by decide) dX11_cell_36 ?_
      refine xj_isub dX11_cell_37 ?_
      refine xj_callS ks_X11_107 (c_X11_within l (d + 1) i ((nI (aQ A kq)) - 1) _) (As := [.int i, .int ((nI (aQ A kq)) - 1)]) (st := []) rfl rfl (xRm_of (by omega) (by decide) (by omega) (by omega)) (Nat.le_of_ble_eq_true rfl) dX11_cell_38 (yk_p (kc := 0) (ks := 0) ?_)
      refine xj_if_ne (tgt := 47) (by decide) dX11_cell_41 (fun zc41 => ?_) (fun zc41 => ?_)
      · have zp41 : 0 ≤ i ∧ i ≤ ((nI (aQ A kq)) - 1) := bI_n0.mp zc41
        obtain ⟨ki, hki, rfl⟩ := le_m1 (by omega) zp41.1 zp41.2
        refine xj_aload_n (n := 0) (i := 0) 0 rfl rfl dX11_cell_47 ?_
        refine yj_getf (v := .ref 71) fl_X11_69_11 (by omega) (fq_0 g) rfl dX11_cell_48 ?_
        refine xj_iload_n (n := 1) (i := 1) 1 rfl rfl dX11_cell_51 ?_
        refine yj_aaldN (m := 4) (a := 72 + 2 * kq) kq (by omega) (fq_71 g) (by decide) (by decide) rfl (by omega) (by decide) (if_pos (by omega)) dX11_cell_52 ?_
        refine xj_iload_n (n := 2) (i := 2) 2 rfl rfl dX11_cell_53 ?_
        refine xj_iload_n (n := 3) (i := 3) 3 rfl rfl dX11_cell_54 ?_
        refine xj_callV kv_X11_237 (c_X8_write l (d + 1) n hn g (72 + 2 * kq) (fSt_q hk4_kq) (A 5 kq) w ki (by have := (O.2.2.2.2.2.2.2.2 kq hk4_kq).2.2; omega) (C.qs hk4_kq)) (As := [.int (nI ki), .int w]) (st := []) (by omega) ((fSt_q hk4_kq).2.1 _) (ci := 8) rfl rfl rfl rfl (xRm_of (by omega) (by decide) (by omega) (by omega)) (Nat.le_of_ble_eq_true rfl) dX11_cell_55 (yk_v (kc := 0) (ks := 0) fun zg1 hzg1 => ?_)
        have hw9 := hzg1
        have hcq := C.2.2.2.2.2.2 kq hk4_kq
        refine xj_iconst (v := 1) (by decide) dX11_cell_58 ?_
        have er : rCell A (nI kq) (nI ki) w = (1, stQ A kq (A 5 kq) (A 6 kq) (upd (A (40 + kq)) ki (wrF (A 5 kq) w))) := by unfold rCell; (try simp only [nI_clamp (show kq < 2147483648 by omega), nI_clamp (show ki < 2147483648 by omega)]); rw [if_pos zp4, if_neg zc20, if_pos zp41]; all_goals (rfl)
        exact xj_ireturn rfl (nr_i _) (Nat.zero_le _) (Nat.zero_le _) dX11_cell_59 (qI_e (by rw [er]; exact ⟨rfl, (by rw [hw9]; exact C.sht O hk4_kq (fr.rf.gs (Or.inr rfl) _ _) (by rw [gs_n _ _ _ (by omega)]; exact hcq.1) (by rw [gs_n _ _ _ (by omega)]; exact hcq.2.1) (fun j hj => by rw [gs_s]; by_cases hji : j = ki; (subst hji; rw [upd_s, upd_s]); (rw [upd_n _ _ hji, upd_n _ _ hji]; exact hcq.2.2 j hj))), (by rw [hw9]; exact fr.rf.gs (cX_lt (by omega)) _ _)⟩))
      · have zp41 : ¬ (0 ≤ i ∧ i ≤ ((nI (aQ A kq)) - 1)) := bI_0.mp zc41
        refine xj_bipush (v := (-12)) (by decide) dX11_cell_44 ?_
        have er : rCell A (nI kq) i w = ((-12), A) := by unfold rCell; (try simp only [nI_clamp (show kq < 2147483648 by omega)]); rw [if_pos zp4, if_neg zc20, if_neg zp41]; all_goals (rfl)
        exact xj_ireturn rfl (nr_i _) (Nat.zero_le _) (Nat.zero_le _) dX11_cell_46 (qI_e (by rw [er]; exact ⟨rfl, C, fr.rf⟩))
    · refine xj_bipush (v := (-11)) (by decide) dX11_cell_23 ?_
      have er : rCell A (nI kq) i w = ((-11), A) := by unfold rCell; (try simp only [nI_clamp (show kq < 2147483648 by omega)]); rw [if_pos zp4, if_pos zc20]; all_goals (rfl)
      exact xj_ireturn rfl (nr_i _) (Nat.zero_le _) (Nat.zero_le _) dX11_cell_25 (qI_e (by rw [er]; exact ⟨rfl, C, fr.rf⟩))
  · have zp4 : ¬ (0 ≤ q ∧ q ≤ 3) := bI_0.mp zc4
    refine xj_bipush (v := (-2)) (by decide) dX11_cell_7 ?_
    have er : rCell A q i w = ((-2), A) := by unfold rCell; rw [if_neg zp4]; all_goals (rfl)
    exact xj_ireturn rfl (nr_i _) (Nat.zero_le _) (Nat.zero_le _) dX11_cell_9 (qI_e (by rw [er]; exact ⟨rfl, C, fr.rf⟩))
