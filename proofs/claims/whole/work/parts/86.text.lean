theorem rX_c (j : Nat) (h : rX j) : cX j := by
  unfold rX at h
  unfold cX
  omega
set_option maxHeartbeats 4000000 in
set_option maxRecDepth 100000 in
theorem c_X11_text (l : Launch) (d : Nat) (n : Nat) (hnx : n + 4 ≤ xN) (g : xG) (A : zSt) (Λ : Nat → xL) (O : okA A) (C : cA g n A Λ)  : xC l yX11_text cX11_text 2 (some .int) (xR (d + 62) 4 210) [.ref 0] (n, fh g) (qT fun v g1 n1 => v = (rText A).1 ∧ cA g1 n1 (rText A).2 (txL A Λ) ∧ fr cX g g1) := by
  refine xC_of false (by decide +kernel) (fun z => by cases z) (Nat.le_of_ble_eq_true rfl) ?_
  have hn := C.n110 O
  have hn4 := C.1
  have hT1 := O.2.2.2.1.2
  have hz := O.2.2.2.2.2.1.2
  have h12 := C.T O
  obtain ⟨b, hb⟩ : ∃ b, g 68 = b := ⟨_, rfl⟩
  have hcg : ∀ j, j < aZ A → b j = A 30 j := fun j hj => by rw [← hb]; exact C.2.2.2.2.1.2 j hj
  have hwa : waF b (aZ A) 3 0 0 = waA A := waF_cg hcg 3 0 0
  show xJ l (RX11, 2, (some .int), false, (xR (d + 62) 4 210), none) cX11_text _ 0 0 0 [(0, .ref 0)] [] (n, fh g)
  refine xj_aload_n (n := 0) (i := 0) 0 rfl rfl dX11_text_0 ?_
  refine yj_getf (v := .int (nI (aT A))) fl_X11_90_11 (by omega) (fq_0 g) (congrArg (fun z => some (Value.int z)) h12) dX11_text_1 ?_
  refine xj_bipush (v := 6) (by decide) dX11_text_4 ?_
  refine xj_icmp_lt (tgt := 12) (by decide) dX11_text_6 (fun zc6 => ?_) (fun zc6 => ?_)
  · have h6 : aT A < 6 := (nI_ltI (b := 6) (by omega) (by decide)).mp zc6
    refine xj_aload_n (n := 0) (i := 0) 0 rfl rfl dX11_text_12 ?_
    refine yj_getf (v := .ref 67) fl_X11_62_11 (by omega) (fq_0 g) rfl dX11_text_13 ?_
    refine xj_callV kv_X11_114 (c_X9_readWhole l (d + 0) n hn g b (aZ A) hz hb (C.Z O)) (As := []) (st := []) (by omega) (fq_67 g) (ci := 9) rfl rfl rfl rfl (xRm_of (by omega) (by decide) (by omega) (by omega)) (Nat.le_of_ble_eq_true rfl) dX11_text_16 (yk_i (kc := 0) (ks := 0) fun zv1 zg2 hzg2 => ?_)
    obtain ⟨hfR, h0R, h1R, hvR, hwR⟩ := hzg2
    rw [hwa] at h1R hvR hwR
    have h12R : zg2 0 12 = nI (aT A) := by rw [hfR 0 (by unfold rX; omega)]; exact h12
    by_cases hok : (waA A).1 = true
    · rw [hvR, bI_t hok]
      have hr : rText A = (nI (aT A), gs (gs A 0 5 0) 0 3 (nI (aT A + 1))) := by show (if aT A = 6 then _ else if (waA A).1 = true then _ else _) = _; rw [if_neg (by omega), if_pos hok]
      have hl : txL A Λ = fun t => if t = aT A then saidL (waA A).2.2 else Λ t := by show (if aT A = 6 then Λ else if (waA A).1 = true then (fun t => if t = aT A then saidL (waA A).2.2 else Λ t) else Λ) = _; rw [if_neg (by omega), if_pos hok]
      obtain ⟨D0, D1, D2, hDs, hW0, hW1, hW2, hlen, hcc, hlr, he0, he1, he2⟩ := hwR hok
      refine xj_istore_n (n := 1) (i := 1) (lv1 := [(1, .int 1), (0, .ref 0)]) rfl rfl (Nat.le_of_ble_eq_true rfl) dX11_text_19 ?_
      refine xj_aload_n (n := 0) (i := 0) 1 rfl rfl dX11_text_20 ?_
      refine yj_getf (v := .ref 67) fl_X11_62_11 (by omega) (fq_0 zg2) rfl dX11_text_21 ?_
      refine xj_iconst (v := 0) (by decide) dX11_text_24 ?_
      refine yj_puti fl_X11_104_9 (by omega) fS_67_0 (fi_i _) dX11_text_25 ?_
      obtain ⟨zg3, ezg3⟩ : ∃ x9, x9 = gs zg2 67 0 0 := ⟨_, rfl⟩
      rw [← ezg3]
      have h12S : zg3 0 12 = nI (aT A) := by rw [ezg3, gs_n _ _ _ (by decide)]; exact h12R
      have hccS : zg3 67 5 = nI (D2 ++ (D1 ++ D0)).length := by rw [ezg3, gs_s, upd_n _ _ (by decide)]; exact hcc
      refine xj_iload_n (n := 1) (i := 1) 0 rfl rfl dX11_text_28 ?_
      refine xj_if_ne (tgt := 43) (by decide) dX11_text_29 (fun zc29 => ?_) (fun zc29 => ?_)
      · refine xj_aload_n (n := 0) (i := 0) 1 rfl rfl dX11_text_43 ?_
        refine yj_getf (v := .ref 66) fl_X11_55_11 (by omega) (fq_0 zg3) rfl dX11_text_44 ?_
        refine xj_aload_n (n := 0) (i := 0) 1 rfl rfl dX11_text_47 ?_
        refine yj_getf (v := .int (nI (aT A))) fl_X11_90_11 (by omega) (fq_0 zg3) (congrArg (fun z => some (Value.int z)) h12S) dX11_text_48 ?_
        refine xj_aload_n (n := 0) (i := 0) 1 rfl rfl dX11_text_51 ?_
        refine yj_getf (v := .ref 67) fl_X11_62_11 (by omega) (fq_0 zg3) rfl dX11_text_52 ?_
        refine xj_callV kv_X11_121 (c_X9_written l (d + 58) n hn zg3 hnx (D2 ++ (D1 ++ D0)).length hlen hccS) (As := []) (st := [.int (nI (aT A)), .ref 66]) (by omega) (fq_67 zg3) (ci := 9) rfl rfl rfl rfl (xRm_of (by omega) (by decide) (by omega) (by omega)) (Nat.le_of_ble_eq_true rfl) dX11_text_55 (fun v h1 hp => ?_)
        obtain ⟨r', hrr, rfl, rfl⟩ := hp
        refine xj_aast (q := 66) (t := 4) (n := 6) (a := n) (ci := 10) (i := nI (aT A)) (by show 66 < n + 4; omega) ((va_up_n _ _ (by omega)).trans ((va_up_n _ _ (by omega)).trans ((va_up_n _ _ (by omega)).trans ((va_up_n _ _ (by omega)).trans ((va_up_n _ _ (by omega)).trans (fq_66 zg3)))))) (by decide) (by decide) (nI_in h6 (by decide)) (by show n < n + 4; omega) (va_up_s _ _ _) rfl (Or.inl rfl) dX11_text_58 ?_
        obtain ⟨G, eG⟩ : ∃ G, G = nwG zg3 n (D2 ++ (D1 ++ D0)).length (aT A) r' := ⟨_, rfl⟩
        refine xj_rows (h' := (n + 4, fh G)) rfl (fun q _ => by rw [eG]; exact nwG_same hn4 hT1.1 h6 hlen q) ?_
        have h12G : G 0 12 = nI (aT A) := by rw [eG, nwG_n (by omega) (by omega) (by omega) (by omega)]; exact h12S
        refine xj_aload_n (n := 0) (i := 0) 1 rfl rfl dX11_text_59 ?_
        refine xj_dup rfl dX11_text_60 ?_
        refine yj_getf (v := .int (nI (aT A))) fl_X11_90_11 (by omega) (fq_0 G) (congrArg (fun z => some (Value.int z)) h12G) dX11_text_61 ?_
        refine xj_iconst (v := 1) (by decide) dX11_text_64 ?_
        refine xj_iadd dX11_text_65 ?_
        refine xj_top (nI_1 _) ?_
        refine yj_puti fl_X11_90_11 (by omega) fS_0_12 (fi_i _) dX11_text_66 ?_
        obtain ⟨zg4, ezg4⟩ : ∃ x9, x9 = gs G 0 12 (nI (aT A + 1)) := ⟨_, rfl⟩
        rw [← ezg4]
        have h12H : zg4 0 12 = nI (aT A + 1) := by rw [ezg4, gs_s, upd_s]
        refine xj_aload_n (n := 0) (i := 0) 1 rfl rfl dX11_text_69 ?_
        refine yj_getf (v := .int (nI (aT A + 1))) fl_X11_90_11 (by omega) (fq_0 zg4) (congrArg (fun z => some (Value.int z)) h12H) dX11_text_70 ?_
        refine xj_iconst (v := 1) (by decide) dX11_text_73 ?_
        refine xj_isub dX11_text_74 ?_
        refine xj_ireturn rfl (nr_i _) (by show 0 + 4 ≤ 4; omega) (by show 0 + 210 ≤ 210; omega) dX11_text_75 ⟨_, _, _, rfl, rfl, by rw [hr]; exact nI_k1, by rw [hr, hl, ezg4, eG, ezg3, hDs]; exact C.txS O h6 hfR (lwR_of (lRow_cg hlr (fun j hj => by rw [upd_n _ _ (by omega), hrr j hj, ezg3, gs_n _ _ _ (by decide)])) hlen (by rw [upd_s, nI_clamp (by omega)]) he0 he1 he2 hW0 hW1 hW2), ?_⟩
        intro j hj
        rw [ezg4, gs_n _ _ _ (fun e => hj (by rw [e]; unfold cX; omega)), eG, nwG_n (fun e => hj (by unfold cX; omega)) (fun e => hj (by unfold cX; omega)) (fun e => hj (by unfold cX; omega)) (fun e => hj (by unfold cX; omega)), ezg3, gs_n _ _ _ (fun e => hj (by unfold cX; omega))]
        exact hfR j (fun y => hj (rX_c j y))
      · exact absurd zc29 (by decide)
    · rw [hvR, bI_f hok]
      have hr : rText A = (-100 - nI (stP (A 30) (aZ A) (waA A).2.1), gs A 0 5 0) := by show (if aT A = 6 then _ else if (waA A).1 = true then _ else (-100 - nI (stP (A 30) (aZ A) (waA A).2.1), gs A 0 5 0)) = _; rw [if_neg (by omega), if_neg hok]
      have hl : txL A Λ = Λ := by show (if aT A = 6 then Λ else if (waA A).1 = true then _ else Λ) = _; rw [if_neg (by omega), if_neg hok]
      refine xj_istore_n (n := 1) (i := 1) (lv1 := [(1, .int 0), (0, .ref 0)]) rfl rfl (Nat.le_of_ble_eq_true rfl) dX11_text_19 ?_
      refine xj_aload_n (n := 0) (i := 0) 1 rfl rfl dX11_text_20 ?_
      refine yj_getf (v := .ref 67) fl_X11_62_11 (by omega) (fq_0 zg2) rfl dX11_text_21 ?_
      refine xj_iconst (v := 0) (by decide) dX11_text_24 ?_
      refine yj_puti fl_X11_104_9 (by omega) fS_67_0 (fi_i _) dX11_text_25 ?_
      obtain ⟨zg5, ezg5⟩ : ∃ x9, x9 = gs zg2 67 0 0 := ⟨_, rfl⟩
      rw [← ezg5]
      have h12S : zg5 0 12 = nI (aT A) := by rw [ezg5, gs_n _ _ _ (by decide)]; exact h12R
      have h1S : zg5 67 1 = nI (stP b (aZ A) (waA A).2.1) := by rw [ezg5, gs_s, upd_n _ _ (by decide)]; exact h1R
      refine xj_iload_n (n := 1) (i := 1) 0 rfl rfl dX11_text_28 ?_
      refine xj_if_ne (tgt := 43) (by decide) dX11_text_29 (fun zc29 => ?_) (fun zc29 => ?_)
      · exact absurd zc29 (fun z => z rfl)
      · refine xj_bipush (v := (-100)) (by decide) dX11_text_32 ?_
        refine xj_aload_n (n := 0) (i := 0) 1 rfl rfl dX11_text_34 ?_
        refine yj_getf (v := .ref 67) fl_X11_62_11 (by omega) (fq_0 zg5) rfl dX11_text_35 ?_
        refine yj_getf (v := .int (nI (stP b (aZ A) (waA A).2.1))) fl_X11_118_9 (by omega) (fq_67 zg5) (congrArg (fun z => some (Value.int z)) h1S) dX11_text_38 ?_
        refine xj_isub dX11_text_41 ?_
        exact xj_ireturn rfl (nr_i _) (Nat.zero_le _) (Nat.zero_le _) dX11_text_42 (⟨_, _, _, rfl, rfl, by rw [hr]; show _ = -100 - nI (stP (A 30) (aZ A) (waA A).2.1); rw [← (tk_cg hcg _).1], by rw [hr, hl, ezg5]; exact C.txF O hfR, by rw [ezg5]; exact (hfR.mono rX_c).gs (by unfold cX; omega) 0 0⟩)
  · have h6 : aT A = 6 := by have h9 := mt (nI_lt (a := aT A) (b := 6) · (by decide)) zc6; omega
    have hr : rText A = (-4, A) := if_pos h6
    have hl : txL A Λ = Λ := if_pos h6
    refine xj_bipush (v := (-4)) (by decide) dX11_text_9 ?_
    exact xj_ireturn rfl (nr_i _) (Nat.zero_le _) (Nat.zero_le _) dX11_text_11 (⟨_, _, _, rfl, rfl, by rw [hr], by rw [hr, hl]; exact C, fr.rf⟩)
