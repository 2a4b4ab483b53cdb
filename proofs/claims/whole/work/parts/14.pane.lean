set_option maxHeartbeats 4000000 in
set_option maxRecDepth 100000 in
theorem c_X7_dullMore (l : Launch) (d : Nat) (n : Nat) (hn : 110 ≤ n) (g : xG) (q t k : Nat) (more pic : Int32) (dull : Nat → Int32) (L : xL) (hp : fPn q) (A : pnA g q k more pic dull) (hL : lwA g n t L) (c : Nat) (by_ : Int32) (hc : c < 16) : xC l yX7_dullMore cX7_dullMore 3 none (xR (d + 1) 0 0) [.ref q, .int (nI c), .int by_] (n, fh g) (qV n fun g1 => g1 = gs g (q + 1) c (min99 (g (q + 1) c + by_))) := by
  refine xC_of false (by decide +kernel) (fun z => by cases z) (Nat.le_of_ble_eq_true rfl) ?_
  have hq1 := hp.1
  have hq2 := hp.2.1
  have hT := hL.1
  have hlo := hT.lo
  have htn := hL.2.1
  have hk6 := A.2.2.2.2
  show xJ l (RX7, 3, none, false, (xR (d + 1) 0 0), none) cX7_dullMore _ 0 0 0 [(0, .ref q), (1, .int (nI c)), (2, .int by_)] [] (n, fh g)
  refine xj_aload_n (n := 0) (i := 0) 0 rfl rfl dX7_dullMore_0 ?_
  refine yj_getf (v := .ref (q + 1)) fl_X7_18_7 (by omega) (hp.2.2.1 (g q)) rfl dX7_dullMore_1 ?_
  refine xj_iload_n (n := 1) (i := 1) 1 rfl rfl dX7_dullMore_4 ?_
  refine xj_bipush (v := 99) (by decide) dX7_dullMore_5 ?_
  refine xj_aload_n (n := 0) (i := 0) 0 rfl rfl dX7_dullMore_7 ?_
  refine yj_getf (v := .ref (q + 1)) fl_X7_18_7 (by omega) (hp.2.2.1 (g q)) rfl dX7_dullMore_8 ?_
  refine xj_iload_n (n := 1) (i := 1) 1 rfl rfl dX7_dullMore_11 ?_
  refine yj_ialdN c (by omega) hp.2.2.2.1 rfl (by omega) (by decide) dX7_dullMore_12 ?_
  refine xj_iload_n (n := 2) (i := 2) 2 rfl rfl dX7_dullMore_13 ?_
  refine xj_iadd dX7_dullMore_14 ?_
  refine xj_mmin xw496 xw460 xw74 xw461 (Nat.le_of_ble_eq_true rfl) ⟨by show 1 ≤ _; simp only [xR]; omega, by show 21 ≤ _; simp only [xR]; omega, by show _ ≤ _; simp only [xR]; omega, by show _ ≤ _; simp only [xR]; omega⟩ dX7_dullMore_15 ?_
  refine xj_topi (fun zv1 ezv1 => ?_)
  refine yj_iastN c (by omega) hp.2.2.2.1 rfl (by omega) (by decide) dX7_dullMore_18 ?_
  obtain ⟨zg2, ezg2⟩ : ∃ z, z = gs g (q + 1) c zv1 := ⟨_, rfl⟩
  rw [← ezg2]
  exact xj_return rfl (Nat.zero_le _) (Nat.zero_le _) dX7_dullMore_19 (qV_e (by rw [ezg2, ezv1]; rfl))
set_option maxHeartbeats 4000000 in
set_option maxRecDepth 100000 in
theorem c_X7_passNightAt (l : Launch) (d : Nat) (n : Nat) (hn : 110 ≤ n) (g : xG) (q t k : Nat) (more pic : Int32) (dull : Nat → Int32) (L : xL) (hp : fPn q) (A : pnA g q k more pic dull) (hL : lwA g n t L) (c : Nat) (night : Int32) (hc : c < 16) : xC l yX7_passNightAt cX7_passNightAt 4 none (xR (d + 3) 0 0) [.ref q, .ref t, .int (nI c), .int night] (n, fh g) (qV n fun g1 => fr (fXd q t) g g1 ∧ pnA g1 q k more pic (upd dull c (min99 (dull c + dlrF L k more pic c (dull c) night)))) := by
  refine xC_of false (by decide +kernel) (fun z => by cases z) (Nat.le_of_ble_eq_true rfl) ?_
  have hq1 := hp.1
  have hq2 := hp.2.1
  have hT := hL.1
  have hlo := hT.lo
  have htn := hL.2.1
  have hk6 := A.2.2.2.2
  show xJ l (RX7, 4, none, false, (xR (d + 3) 0 0), none) cX7_passNightAt _ 0 0 0 [(0, .ref q), (1, .ref t), (2, .int (nI c)), (3, .int night)] [] (n, fh g)
  refine xj_aload_n (n := 0) (i := 0) 0 rfl rfl dX7_passNightAt_0 ?_
  refine xj_iload_n (n := 2) (i := 2) 2 rfl rfl dX7_passNightAt_1 ?_
  refine xj_aload_n (n := 0) (i := 0) 0 rfl rfl dX7_passNightAt_2 ?_
  refine yj_getf (v := .ref (2 + k)) fl_X7_25_7 (by omega) (hp.2.2.1 (g q)) (congrArg (fun z => some (Value.ref (2 + z))) A.k) dX7_passNightAt_3 ?_
  refine xj_aload_n (n := 0) (i := 0) 0 rfl rfl dX7_passNightAt_6 ?_
  refine xj_aload_n (n := 1) (i := 1) 1 rfl rfl dX7_passNightAt_7 ?_
  refine xj_iconst (v := 0) (by decide) dX7_passNightAt_8 ?_
  refine xj_iload_n (n := 2) (i := 2) 2 rfl rfl dX7_passNightAt_9 ?_
  refine xj_iload_n (n := 3) (i := 3) 3 rfl rfl dX7_passNightAt_10 ?_
  refine xj_callV kv_X7_50 (c_X7_said l (d + 0) n hn g q t k more pic dull L hp A hL 0 c night (by omega) (by omega)) (As := [.ref t, .int 0, .int (nI c), .int night]) (st := [.ref (2 + k), .int (nI c), .ref q]) (by omega) (hp.2.2.1 _) (ci := 7) rfl rfl rfl rfl (xRm_of (by omega) (by decide) (by omega) (by omega)) (Nat.le_of_ble_eq_true rfl) dX7_passNightAt_11 (yk_i (kc := 0) (ks := 0) fun zv1 zg2 hzg2 => ?_)
  obtain ⟨hvzv1, hfzg2⟩ := hzg2
  have Azg2 := A.keep hp hL.1 hfzg2
  have Lzg2 := hL.fx hp hfzg2
  refine xj_iload_n (n := 2) (i := 2) 2 rfl rfl dX7_passNightAt_14 ?_
  refine xj_aload_n (n := 0) (i := 0) 0 rfl rfl dX7_passNightAt_15 ?_
  refine yj_getf (v := .int (zg2 q 1)) fl_X7_9_7 (by omega) (hp.2.2.1 (zg2 q)) rfl dX7_passNightAt_16 ?_
  refine xj_iload_n (n := 3) (i := 3) 3 rfl rfl dX7_passNightAt_19 ?_
  refine yj_dullerBy (own2 := 0) k zv1 (nI c) (zg2 q 1) night hk6 hn rfl rfl rfl rfl (Nat.le_of_ble_eq_true rfl) dX7_passNightAt_20 ?_
  refine xj_callV kv_X7_83 (c_X7_dullMore l (d + 1) n hn zg2 q t k more pic dull L hp Azg2 Lzg2 c (kDull k zv1 (nI c) (zg2 q 1) night) hc) (As := [.int (nI c), .int (kDull k zv1 (nI c) (zg2 q 1) night)]) (st := []) (by omega) (hp.2.2.1 _) (ci := 7) rfl rfl rfl rfl (xRm_of (by omega) (by decide) (by omega) (by omega)) (Nat.le_of_ble_eq_true rfl) dX7_passNightAt_23 (yk_v (kc := 0) (ks := 0) fun zg3 hzg3 => ?_)
  have egd := hzg3
  refine xj_return rfl (Nat.zero_le _) (Nat.zero_le _) dX7_passNightAt_26 (qV_e ⟨?_, ?_⟩)
  · rw [egd]; exact (hfzg2.mono fX_d).gs (Or.inl rfl) _ _
  · have B := Azg2
    rw [egd]
    refine ⟨by rw [gs_n _ _ _ (by omega)]; exact B.1, by rw [gs_n _ _ _ (by omega)]; exact B.2.1, by rw [gs_n _ _ _ (by omega)]; exact B.2.2.1, fun j hj => ?_, hk6⟩
    rw [gs_s]
    by_cases hjc : j = c
    · subst hjc; rw [upd_s, upd_s, B.2.2.2.1 j hj, hvzv1, B.2.1]; rfl
    · rw [upd_n _ _ hjc, upd_n _ _ hjc]; exact B.2.2.2.1 j hj
set_option maxHeartbeats 4000000 in
set_option maxRecDepth 100000 in
theorem c_X7_passNight (l : Launch) (d : Nat) (n : Nat) (hn : 110 ≤ n) (g : xG) (q t k : Nat) (more pic : Int32) (dull : Nat → Int32) (L : xL) (hp : fPn q) (A : pnA g q k more pic dull) (hL : lwA g n t L) (night : Int32) : xC l yX7_passNight cX7_passNight 4 none (xR (d + 4) 0 0) [.ref q, .ref t, .int night] (n, fh g) (qV n fun g1 => fr (fXd q t) g g1 ∧ pnA g1 q k more pic (nightR L k more pic dull night 16)) := by
  refine xC_of false (by decide +kernel) (fun z => by cases z) (Nat.le_of_ble_eq_true rfl) ?_
  have hq1 := hp.1
  have hq2 := hp.2.1
  have hT := hL.1
  have hlo := hT.lo
  have htn := hL.2.1
  have hk6 := A.2.2.2.2
  have key : ∀ i, i ≤ 16 → ∀ (g1 : xG), fr (fXd q t) g g1 → pnA g1 q k more pic (nightR L k more pic dull night i) → xJ l (RX7, 4, none, false, (xR (d + 4) 0 0), none) cX7_passNight (qV n fun g1 => fr (fXd q t) g g1 ∧ pnA g1 q k more pic (nightR L k more pic dull night 16)) 0 0 2 [(3, .int (nI i)), (0, .ref q), (1, .ref t), (2, .int night)] [] (n, fh g1) := by
    refine x_loop 16 _ ?_ ?_
    · intro g1 hf B
      refine xj_iload_n (n := 3) (i := 3) 0 rfl rfl dX7_passNight_2 ?_
      refine xj_bipush (v := 16) (by decide) dX7_passNight_3 ?_
      refine xj_icmp_ge (tgt := 21) (by decide) dX7_passNight_5 (fun zc5 => ?_) (fun zc5 => ?_)
      · exact xj_return rfl (Nat.zero_le _) (Nat.zero_le _) dX7_passNight_21 (qV_e ⟨hf, B⟩)
      · exact absurd (nI_le (Nat.le_refl _) (by decide)) zc5
    · intro i hi ih g1 hf B
      refine xj_iload_n (n := 3) (i := 3) 0 rfl rfl dX7_passNight_2 ?_
      refine xj_bipush (v := 16) (by decide) dX7_passNight_3 ?_
      refine xj_icmp_ge (tgt := 21) (by decide) dX7_passNight_5 (fun zc5 => ?_) (fun zc5 => ?_)
      · exact absurd zc5 (nI_ge hi (by decide))
      · refine xj_aload_n (n := 0) (i := 0) 1 rfl rfl dX7_passNight_8 ?_
        refine xj_aload_n (n := 1) (i := 1) 2 rfl rfl dX7_passNight_9 ?_
        refine xj_iload_n (n := 3) (i := 3) 0 rfl rfl dX7_passNight_10 ?_
        refine xj_iload_n (n := 2) (i := 2) 3 rfl rfl dX7_passNight_11 ?_
        refine xj_callV kv_X7_87 (c_X7_passNightAt l (d + 0) n hn g1 q t k more pic (nightR L k more pic dull night i) L hp B (hL.fxd hp hf) i night (by omega)) (As := [.ref t, .int (nI i), .int night]) (st := []) (by omega) (hp.2.2.1 _) (ci := 7) rfl rfl rfl rfl (xRm_of (by omega) (by decide) (by omega) (by omega)) (Nat.le_of_ble_eq_true rfl) dX7_passNight_12 (yk_v (kc := 0) (ks := 0) fun zg1 hzg1 => ?_)
        obtain ⟨hf2, B2⟩ := hzg1
        refine xj_iinc (n := 1) (i := 3) (v := nI (i + 1)) (lv1 := [(3, .int (nI (i + 1))), (0, .ref q), (1, .ref t), (2, .int night)]) 0 rfl (nI_1 i) rfl (Nat.le_of_ble_eq_true rfl) dX7_passNight_15 ?_
        refine xj_goto (tgt := 2) (by decide) dX7_passNight_18 ?_
        refine xj_sub (lv' := [(3, .int (nI (i + 1))), (0, .ref q), (1, .ref t), (2, .int night)]) [0, 1, 2, 3] rfl ?_
        refine ih zg1 (hf.tr hf2) (B2.to fun j hj => ?_)
        unfold nightR
        by_cases hji : j = i
        · subst hji; rw [upd_s, if_neg (Nat.lt_irrefl j), if_pos (Nat.lt_succ_self j)]
        · rw [upd_n _ _ hji]; by_cases hlt : j < i
          · rw [if_pos hlt, if_pos (by omega)]
          · rw [if_neg hlt, if_neg (by omega)]
  show xJ l (RX7, 4, none, false, (xR (d + 4) 0 0), none) cX7_passNight _ 0 0 0 [(0, .ref q), (1, .ref t), (2, .int night)] [] (n, fh g)
  refine xj_iconst (v := 0) (by decide) dX7_passNight_0 ?_
  refine xj_istore_n (n := 3) (i := 3) (lv1 := [(3, .int 0), (0, .ref q), (1, .ref t), (2, .int night)]) rfl rfl (Nat.le_of_ble_eq_true rfl) dX7_passNight_1 ?_
  refine xj_sub (lv' := [(3, .int 0), (0, .ref q), (1, .ref t), (2, .int night)]) [0, 1, 2, 3] rfl ?_
  exact key 0 (Nat.zero_le _) g fr.rf (A.to fun j hj => by unfold nightR; rw [if_neg (Nat.not_lt_zero j)])
set_option maxHeartbeats 4000000 in
set_option maxRecDepth 100000 in
theorem c_X7_dullAll (l : Launch) (d : Nat) (n : Nat) (hn : 110 ≤ n) (g : xG) (q : Nat) (hp : fPn q) (to : Int32) : xC l yX7_dullAll cX7_dullAll 3 none (xR (d + 0) 0 0) [.ref q, .int to] (n, fh g) (qV n fun g1 => fr (fun j => j = q + 1) g g1 ∧ ∀ c, c < 16 → g1 (q + 1) c = to) := by
  refine xC_of false (by decide +kernel) (fun z => by cases z) (Nat.le_of_ble_eq_true rfl) ?_
  have hq1 := hp.1
  have hq2 := hp.2.1
  have key : ∀ i, i ≤ 16 → ∀ (g1 : xG), fr (fun j => j = q + 1) g g1 → (∀ c, c < i → g1 (q + 1) c = to) → xJ l (RX7, 3, none, false, (xR (d + 0) 0 0), none) cX7_dullAll (qV n fun g1 => fr (fun j => j = q + 1) g g1 ∧ ∀ c, c < 16 → g1 (q + 1) c = to) 0 0 2 [(2, .int (nI i)), (0, .ref q), (1, .int to)] [] (n, fh g1) := by
    refine x_loop 16 _ ?_ ?_
    · intro g1 hf hB
      refine xj_iload_n (n := 2) (i := 2) 0 rfl rfl dX7_dullAll_2 ?_
      refine xj_bipush (v := 16) (by decide) dX7_dullAll_3 ?_
      refine xj_icmp_ge (tgt := 21) (by decide) dX7_dullAll_5 (fun zc5 => ?_) (fun zc5 => ?_)
      · exact xj_return rfl (Nat.zero_le _) (Nat.zero_le _) dX7_dullAll_21 (qV_e ⟨hf, hB⟩)
      · exact absurd (nI_le (Nat.le_refl _) (by decide)) zc5
    · intro i hi ih g1 hf hB
      refine xj_iload_n (n := 2) (i := 2) 0 rfl rfl dX7_dullAll_2 ?_
      refine xj_bipush (v := 16) (by decide) dX7_dullAll_3 ?_
      refine xj_icmp_ge (tgt := 21) (by decide) dX7_dullAll_5 (fun zc5 => ?_) (fun zc5 => ?_)
      · exact absurd zc5 (nI_ge hi (by decide))
      · refine xj_aload_n (n := 0) (i := 0) 1 rfl rfl dX7_dullAll_8 ?_
        refine yj_getf (v := .ref (q + 1)) fl_X7_18_7 (by omega) (hp.2.2.1 (g1 q)) rfl dX7_dullAll_9 ?_
        refine xj_iload_n (n := 2) (i := 2) 0 rfl rfl dX7_dullAll_12 ?_
        refine xj_iload_n (n := 1) (i := 1) 2 rfl rfl dX7_dullAll_13 ?_
        refine yj_iastN i (by omega) hp.2.2.2.1 rfl (by omega) (by decide) dX7_dullAll_14 ?_
        obtain ⟨zg1, ezg1⟩ : ∃ z, z = gs g1 (q + 1) i to := ⟨_, rfl⟩
        rw [← ezg1]
        refine xj_iinc (n := 1) (i := 2) (v := nI (i + 1)) (lv1 := [(2, .int (nI (i + 1))), (0, .ref q), (1, .int to)]) 0 rfl (nI_1 i) rfl (Nat.le_of_ble_eq_true rfl) dX7_dullAll_15 ?_
        refine xj_goto (tgt := 2) (by decide) dX7_dullAll_18 ?_
        refine xj_sub (lv' := [(2, .int (nI (i + 1))), (0, .ref q), (1, .int to)]) [0, 1, 2] rfl ?_
        refine ih zg1 (by rw [ezg1]; exact hf.gs rfl _ _) (fun j hj => ?_)
        rw [ezg1, gs_s]
        by_cases hji : j = i
        · subst hji; exact upd_s _ _ _
        · rw [upd_n _ _ hji]; exact hB j (by omega)
  show xJ l (RX7, 3, none, false, (xR (d + 0) 0 0), none) cX7_dullAll _ 0 0 0 [(0, .ref q), (1, .int to)] [] (n, fh g)
  refine xj_iconst (v := 0) (by decide) dX7_dullAll_0 ?_
  refine xj_istore_n (n := 2) (i := 2) (lv1 := [(2, .int 0), (0, .ref q), (1, .int to)]) rfl rfl (Nat.le_of_ble_eq_true rfl) dX7_dullAll_1 ?_
  refine xj_sub (lv' := [(2, .int 0), (0, .ref q), (1, .int to)]) [0, 1, 2] rfl ?_
  exact key 0 (Nat.zero_le _) g fr.rf (fun j hj => absurd hj (Nat.not_lt_zero j))
set_option maxHeartbeats 4000000 in
set_option maxRecDepth 100000 in
theorem c_X7_dullTogether (l : Launch) (d : Nat) (n : Nat) (hn : 110 ≤ n) (g : xG) (q : Nat) (hp : fPn q) (dull : Nat → Int32) (hd : ∀ c, c < 16 → g (q + 1) c = dull c) : xC l yX7_dullTogether cX7_dullTogether 3 (some .int) (xR (d + 0) 0 0) [.ref q] (n, fh g) (qI n fun v g1 => v = sumF dull 16 ∧ g1 = g) := by
  refine xC_of false (by decide +kernel) (fun z => by cases z) (Nat.le_of_ble_eq_true rfl) ?_
  have hq1 := hp.1
  have hq2 := hp.2.1
  have key : ∀ i, i ≤ 16 → ∀ (g1 : xG), g1 = g → xJ l (RX7, 3, (some .int), false, (xR (d + 0) 0 0), none) cX7_dullTogether (qI n fun v g1 => v = sumF dull 16 ∧ g1 = g) 0 0 4 [(2, .int (nI i)), (1, .int (sumF dull i)), (0, .ref q)] [] (n, fh g1) := by
    refine x_loop 16 _ ?_ ?_
    · intro g1 hf
      refine xj_iload_n (n := 2) (i := 2) 0 rfl rfl dX7_dullTogether_4 ?_
      refine xj_bipush (v := 16) (by decide) dX7_dullTogether_5 ?_
      refine xj_icmp_ge (tgt := 25) (by decide) dX7_dullTogether_7 (fun zc7 => ?_) (fun zc7 => ?_)
      · refine xj_iload_n (n := 1) (i := 1) 1 rfl rfl dX7_dullTogether_25 ?_
        exact xj_ireturn rfl (nr_i _) (Nat.zero_le _) (Nat.zero_le _) dX7_dullTogether_26 (qI_e ⟨rfl, hf⟩)
      · exact absurd (nI_le (Nat.le_refl _) (by decide)) zc7
    · intro i hi ih g1 hf
      refine xj_iload_n (n := 2) (i := 2) 0 rfl rfl dX7_dullTogether_4 ?_
      refine xj_bipush (v := 16) (by decide) dX7_dullTogether_5 ?_
      refine xj_icmp_ge (tgt := 25) (by decide) dX7_dullTogether_7 (fun zc7 => ?_) (fun zc7 => ?_)
      · exact absurd zc7 (nI_ge hi (by decide))
      · refine xj_iload_n (n := 1) (i := 1) 1 rfl rfl dX7_dullTogether_10 ?_
        refine xj_aload_n (n := 0) (i := 0) 2 rfl rfl dX7_dullTogether_11 ?_
        refine yj_getf (v := .ref (q + 1)) fl_X7_18_7 (by omega) (hp.2.2.1 (g1 q)) rfl dX7_dullTogether_12 ?_
        refine xj_iload_n (n := 2) (i := 2) 0 rfl rfl dX7_dullTogether_15 ?_
        refine yj_ialdN i (by omega) hp.2.2.2.1 rfl (by omega) (by decide) dX7_dullTogether_16 ?_
        refine xj_iadd dX7_dullTogether_17 ?_
        refine xj_topi (fun zv1 ezv1 => ?_)
        refine xj_istore_n (n := 1) (i := 1) (lv1 := [(1, .int zv1), (2, .int (nI i)), (0, .ref q)]) rfl rfl (Nat.le_of_ble_eq_true rfl) dX7_dullTogether_18 ?_
        refine xj_iinc (n := 1) (i := 2) (v := nI (i + 1)) (lv1 := [(2, .int (nI (i + 1))), (1, .int zv1), (0, .ref q)]) 1 rfl (nI_1 i) rfl (Nat.le_of_ble_eq_true rfl) dX7_dullTogether_19 ?_
        refine xj_goto (tgt := 4) (by decide) dX7_dullTogether_22 ?_
        refine xj_sub (lv' := [(2, .int (nI (i + 1))), (1, .int zv1), (0, .ref q)]) [0, 1, 2] rfl ?_
        have h9 := ih g1 hf
        rw [show sumF dull (i + 1) = zv1 from by rw [ezv1, hf, hd i hi]; rfl] at h9
        exact h9
  show xJ l (RX7, 3, (some .int), false, (xR (d + 0) 0 0), none) cX7_dullTogether _ 0 0 0 [(0, .ref q)] [] (n, fh g)
  refine xj_iconst (v := 0) (by decide) dX7_dullTogether_0 ?_
  refine xj_istore_n (n := 1) (i := 1) (lv1 := [(1, .int 0), (0, .ref q)]) rfl rfl (Nat.le_of_ble_eq_true rfl) dX7_dullTogether_1 ?_
  refine xj_iconst (v := 0) (by decide) dX7_dullTogether_2 ?_
  refine xj_istore_n (n := 2) (i := 2) (lv1 := [(2, .int 0), (1, .int 0), (0, .ref q)]) rfl rfl (Nat.le_of_ble_eq_true rfl) dX7_dullTogether_3 ?_
  refine xj_sub (lv' := [(2, .int 0), (1, .int 0), (0, .ref q)]) [0, 1, 2] rfl ?_
  exact key 0 (Nat.zero_le _) g rfl
set_option maxHeartbeats 4000000 in
set_option maxRecDepth 100000 in
theorem c_X7_takeAfter (l : Launch) (d : Nat) (n : Nat) (hn : 110 ≤ n) (g : xG) (q : Nat) (hp : fPn q) (o k : Nat) (more pic : Int32) (dull : Nat → Int32) (ho : fPn o) (A : pnA g o k more pic dull) (hne : o ≠ q ∧ o ≠ q + 1 ∧ o + 1 ≠ q) : xC l yX7_takeAfter cX7_takeAfter 2 none (xR (d + 1) 0 0) [.ref q, .ref o] (n, fh g) (qV n fun g1 => fr (fun j => j = q ∨ j = q + 1) g g1 ∧ pnA g1 q k more pic dull) := by
  refine xC_of false (by decide +kernel) (fun z => by cases z) (Nat.le_of_ble_eq_true rfl) ?_
  have hq1 := hp.1
  obtain ⟨hne1, hne2, hne3⟩ := hne
  have hk6 := A.2.2.2.2
  have ho1 := ho.1
  have hq2 := hp.2.1
  show xJ l (RX7, 2, none, false, (xR (d + 1) 0 0), none) cX7_takeAfter _ 0 0 0 [(0, .ref q), (1, .ref o)] [] (n, fh g)
  refine xj_aload_n (n := 0) (i := 0) 0 rfl rfl dX7_takeAfter_0 ?_
  refine xj_aload_n (n := 1) (i := 1) 1 rfl rfl dX7_takeAfter_1 ?_
  refine yj_getf (v := .ref (2 + k)) fl_X7_25_7 (by omega) (ho.2.2.1 (g o)) (congrArg (fun z => some (Value.ref (2 + z))) A.k) dX7_takeAfter_2 ?_
  refine yj_putk fl_X7_25_7 (by omega) hp (by omega) dX7_takeAfter_5 ?_
  obtain ⟨zg1, ezg1⟩ : ∃ z, z = gs g q 0 (nI k) := ⟨_, rfl⟩
  rw [← ezg1]
  refine xj_aload_n (n := 0) (i := 0) 0 rfl rfl dX7_takeAfter_8 ?_
  refine xj_aload_n (n := 1) (i := 1) 1 rfl rfl dX7_takeAfter_9 ?_
  refine yj_getf (v := .int (zg1 o 1)) fl_X7_9_7 (by omega) (ho.2.2.1 (zg1 o)) rfl dX7_takeAfter_10 ?_
  refine xj_topi (fun zv2 ezv2 => ?_)
  refine yj_puti fl_X7_9_7 (by omega) (fPn_S hp 1 (by decide)) (fi_i _) dX7_takeAfter_13 ?_
  obtain ⟨zg3, ezg3⟩ : ∃ z, z = gs zg1 q 1 zv2 := ⟨_, rfl⟩
  rw [← ezg3]
  refine xj_aload_n (n := 0) (i := 0) 0 rfl rfl dX7_takeAfter_16 ?_
  refine xj_aload_n (n := 1) (i := 1) 1 rfl rfl dX7_takeAfter_17 ?_
  refine yj_getf (v := .int (zg3 o 2)) fl_X7_15_7 (by omega) (ho.2.2.1 (zg3 o)) rfl dX7_takeAfter_18 ?_
  refine xj_topi (fun zv4 ezv4 => ?_)
  refine yj_puti fl_X7_15_7 (by omega) (fPn_S hp 2 (by decide)) (fi_i _) dX7_takeAfter_21 ?_
  obtain ⟨zg5, ezg5⟩ : ∃ z, z = gs zg3 q 2 zv4 := ⟨_, rfl⟩
  rw [← ezg5]
  refine xj_aload_n (n := 1) (i := 1) 1 rfl rfl dX7_takeAfter_24 ?_
  refine yj_getf (v := .ref (o + 1)) fl_X7_18_7 (by omega) (ho.2.2.1 (zg5 o)) rfl dX7_takeAfter_25 ?_
  refine xj_iconst (v := 0) (by decide) dX7_takeAfter_28 ?_
  refine xj_aload_n (n := 0) (i := 0) 0 rfl rfl dX7_takeAfter_29 ?_
  refine yj_getf (v := .ref (q + 1)) fl_X7_18_7 (by omega) (hp.2.2.1 (zg5 q)) rfl dX7_takeAfter_30 ?_
  refine xj_iconst (v := 0) (by decide) dX7_takeAfter_33 ?_
  refine xj_bipush (v := 16) (by decide) dX7_takeAfter_34 ?_
  refine yj_copy 0 0 16 xw650 xwz_n xwz_s xwz_i (by omega) ho.2.2.2.1 (by omega) hp.2.2.2.1 rfl rfl rfl (by decide) (by decide) (by decide) (by decide) (Nat.le_of_ble_eq_true rfl) ⟨by show 1 ≤ d + 1; omega, by show 40 ≤ 40 * (d + 1); omega⟩ dX7_takeAfter_36 ?_
  obtain ⟨zg6, ezg6⟩ : ∃ z, z = va_up zg5 (q + 1) (va_cpy (zg5 (o + 1)) (zg5 (q + 1)) 0 0 16) := ⟨_, rfl⟩
  rw [← ezg6]
  refine xj_return rfl (Nat.zero_le _) (Nat.zero_le _) dX7_takeAfter_39 (qV_e ⟨?_, ?_⟩)
  · rw [ezg6]
    intro j hj
    rw [va_up_n _ _ (fun e => hj (Or.inr e)), ezg5, ezg3, ezg1, gs_n _ _ _ (fun e => hj (Or.inl e)), gs_n _ _ _ (fun e => hj (Or.inl e)), gs_n _ _ _ (fun e => hj (Or.inl e))]
  · have hv1 : zv2 = more := by rw [ezv2, ezg1, gs_n _ _ _ hne1]; exact A.2.1
    have hv2 : zv4 = pic := by rw [ezv4, ezg3, ezg1, gs_n _ _ _ hne1, gs_n _ _ _ hne1]; exact A.2.2.1
    have hq0 : zg6 q = upd (upd (upd (g q) 0 (nI k)) 1 more) 2 pic := by rw [ezg6, va_up_n _ _ (by omega), ezg5, ezg3, ezg1, gs_s, gs_s, gs_s, hv1, hv2]
    refine ⟨by rw [hq0]; rfl, by rw [hq0]; rfl, by rw [hq0]; rfl, fun c hc => ?_, hk6⟩
    rw [ezg6, va_up_s]
    unfold va_cpy
    rw [if_pos ⟨Nat.zero_le _, by omega⟩, Nat.zero_add, Nat.sub_zero, ezg5, ezg3, ezg1, gs_n _ _ _ (by omega), gs_n _ _ _ (by omega), gs_n _ _ _ (by omega)]
    exact A.2.2.2.1 c hc
