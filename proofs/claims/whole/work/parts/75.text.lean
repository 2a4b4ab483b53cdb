/-! A TEXT: three parts -/
def paF (b : Nat → Int32) (z p i : Nat) : mR := if tkP b z i = nI (256 + p) then rnM b z (true, true, [], 0, []) (nxP b z i) else (false, i, [])
def waF (b : Nat → Int32) (z : Nat) : Nat → Nat → Nat → Bool × Nat × List (List Int32)
  | 0, _, i => (decide (tkP b z i = 0), i, [])
  | k + 1, p, i => if (paF b z p i).1 = true then ((waF b z k (p + 1) (nxP b z (paF b z p i).2.1)).1, (waF b z k (p + 1) (nxP b z (paF b z p i).2.1)).2.1, (paF b z p i).2.2 :: (waF b z k (p + 1) (nxP b z (paF b z p i).2.1)).2.2) else (false, (paF b z p i).2.1, [])
theorem waF_s {b : Nat → Int32} {z k p i j : Nat} {D : List Int32} {r : Bool × Nat × List (List Int32)} (h : paF b z p i = (true, j, D)) (h2 : waF b z k (p + 1) (nxP b z j) = r) : waF b z (k + 1) p i = (r.1, r.2.1, D :: r.2.2) := by
  show (if (paF b z p i).1 = true then _ else _) = _
  rw [h, if_pos rfl, h2]
theorem waF_f {b : Nat → Int32} {z k p i j : Nat} (h : paF b z p i = (false, j, [])) : waF b z (k + 1) p i = (false, j, []) := by
  show (if (paF b z p i).1 = true then _ else _) = _
  rw [h, if_neg Bool.false_ne_true]
theorem tpA.g70 {g : xG} {z : Nat} {b : Nat → Int32} {i : Nat} {C : List Int32} (h : tpA g z b i C) (k : Nat) (x : Int32) : tpA (gs g 70 k x) z b i C := by
  obtain ⟨a, c, e, f, m, o, q, s⟩ := h
  have r : ∀ j, j ≠ 70 → gs g 70 k x j = g j := fun j hj => gs_n _ _ _ hj
  exact ⟨by rw [r 67 (by decide)]; exact a, by rw [r 68 (by decide)]; exact c, by rw [r 67 (by decide)]; exact e, by rw [r 67 (by decide)]; exact f, by rw [r 67 (by decide)]; exact m, fun y => by rw [r 67 (by decide)]; exact o y, by rw [r 67 (by decide)]; exact q, by rw [r 69 (by decide)]; exact s⟩
def rX (j : Nat) : Prop := j = 67 ∨ j = 69 ∨ j = 70
theorem rX_2 (j : Nat) (h : j = 67 ∨ j = 69) : rX j := h.elim Or.inl (fun e => Or.inr (Or.inl e))
/-- three parts that stand: where their codes end -/
def woR (g : xG) (L : List (List Int32)) : Prop := ∃ D0 D1 D2, L = [D0, D1, D2] ∧ WFm 0 D0 ∧ WFm 0 D1 ∧ WFm 0 D2 ∧ (D2 ++ (D1 ++ D0)).length ≤ 160 ∧ g 67 5 = nI (D2 ++ (D1 ++ D0)).length ∧ lRow (D2 ++ (D1 ++ D0)) (D2 ++ (D1 ++ D0)).length (g 69) ∧ g 70 0 = nI D0.length ∧ g 70 1 = nI (D1 ++ D0).length ∧ g 70 2 = nI (D2 ++ (D1 ++ D0)).length
set_option maxHeartbeats 4000000 in
set_option maxRecDepth 100000 in
theorem c_X9_readPart (l : Launch) (d : Nat) (n : Nat) (hn : 110 ≤ n) (g : xG) (p : Nat) (hp : p < 3) (z : Nat) (b : Nat → Int32) (i : Nat) (C : List Int32) (hz : z ≤ 160) (hi : i ≤ z) (hC : C.length ≤ i) (Tp : tpA g z b i C)  : xC l yX9_readPart cX9_readPart 2 (some .boolean) (xR (d + 60) 0 0) [.ref 67, .int (nI p)] (n, fh g) (qI n fun v g1 => fr rX g g1 ∧ ((v = 1 ∧ ∃ j D, paF b z p i = (true, j, D) ∧ (i < j ∧ j ≤ z ∧ D.length + i ≤ j ∧ WFm 0 D) ∧ tpA g1 z b (nxP b z j) (D ++ C) ∧ g1 70 = upd (g 70) p (nI (D ++ C).length)) ∨ (v = 0 ∧ ∃ j E, paF b z p i = (false, j, []) ∧ j ≤ z ∧ tpA g1 z b j E))) := by
  refine xC_of false (by decide +kernel) (fun z => by cases z) (Nat.le_of_ble_eq_true rfl) ?_
  show xJ l (RX9, 2, (some .boolean), false, (xR (d + 60) 0 0), none) cX9_readPart _ 0 0 0 [(0, .ref 67), (1, .int (nI p))] [] (n, fh g)
  refine xj_aload_n (n := 0) (i := 0) 0 rfl rfl dX9_readPart_0 ?_
  refine yj_getf (v := .int (tkP b z i)) fl_X9_34_9 (by omega) (fq_67 g) (congrArg (fun z => some (Value.int z)) Tp.2.2.2.2.1) dX9_readPart_1 ?_
  refine xj_sipush (v := 256) (by decide) dX9_readPart_4 ?_
  refine xj_iload_n (n := 1) (i := 1) 1 rfl rfl dX9_readPart_7 ?_
  refine xj_iadd dX9_readPart_8 ?_
  refine xj_top (show (256 + (nI p)) = nI (256 + p) from (nI_add 256 p)) ?_
  refine xj_icmp_eq (tgt := 14) (by decide) dX9_readPart_9 (fun zc9 => ?_) (fun zc9 => ?_)
  · have hnx := (nxP_b b hi).2.2 (by rw [zc9]; exact nI_ne0 (by omega) (by omega))
    have hpa : paF b z p i = rnM b z (true, true, [], 0, []) (nxP b z i) := if_pos zc9
    refine xj_aload_n (n := 0) (i := 0) 0 rfl rfl dX9_readPart_14 ?_
    refine xj_callV kv_X9_40 (c_X9_step l d n hn g b z hz Tp.2.1 Tp.1 (nxP b z i) (nxP_b b hi).2.1 Tp.2.2.2.1) (As := []) (st := []) (by omega) (fq_67 g) (ci := 9) rfl rfl rfl rfl (xRm_of (by omega) (by decide) (by omega) (by omega)) (Nat.le_of_ble_eq_true rfl) dX9_readPart_15 (yk_v (kc := 0) (ks := 0) fun zg1 hzg1 => ?_)
    obtain ⟨hqzg1, h1zg1, h6zg1, h7zg1, h8zg1⟩ := hzg1
    have Tzg1 := Tp.st hqzg1 h1zg1 h6zg1 h7zg1 h8zg1
    have hrzg1 := fr.tr (fr.rf : fr rX g g) (hqzg1.fr.mono rX_2)
    refine xj_aload_n (n := 0) (i := 0) 0 rfl rfl dX9_readPart_18 ?_
    refine xj_iconst (v := 0) (by decide) dX9_readPart_19 ?_
    refine xj_top (show 0 = nI 0 from rfl) ?_
    have hlCa : (C).length ≤ (nxP b z i) := by omega
    refine xj_callV kv_X9_63 ((g_all l 5 0 rfl).1 d n hn zg1 z b (nxP b z i) C hz (nxP_b b hi).2.1 hlCa Tzg1) (As := [.int (nI 0)]) (st := []) (by omega) (fq_67 zg1) (ci := 9) rfl rfl rfl rfl (xRm_of (by omega) (by decide) (by omega) (by omega)) (Nat.le_of_ble_eq_true rfl) dX9_readPart_20 (yk_i (kc := 0) (ks := 0) fun zv2 zg3 hzg3 => ?_)
    obtain ⟨hfa, hca⟩ := hzg3
    rcases hca with ⟨rfl, ja, Da, Ra, Ta⟩ | ⟨rfl, ja, Ea, Na, hja, hEa, Ta⟩
    · have hRa := Ra.1
      have hLa := hRa.1.2.2.1
      have hJa := hRa.1.1
      have hZa := hRa.1.2.1
      have hr9 : fr rX g zg3 := fr.tr hrzg1 (hfa.mono rX_2)
      refine xj_if_eq (tgt := 35) (by decide) dX9_readPart_23 (fun zc23 => ?_) (fun zc23 => ?_)
      · exact absurd zc23 (by decide)
      · refine xj_aload_n (n := 0) (i := 0) 0 rfl rfl dX9_readPart_26 ?_
        refine yj_getf (v := .int (tkP b z ja)) fl_X9_34_9 (by omega) (fq_67 zg3) (congrArg (fun z => some (Value.int z)) Ta.2.2.2.2.1) dX9_readPart_27 ?_
        refine xj_bipush (v := 59) (by decide) dX9_readPart_30 ?_
        refine xj_icmp_eq (tgt := 37) (by decide) dX9_readPart_32 (fun zc32 => ?_) (fun zc32 => ?_)
        · have hpk := hpa.trans (rlT_ok Ra.1 zc32)
          have hf70 : zg3 70 = g 70 := by rw [hfa 70 (by omega), hqzg1.1 70 (by decide)]
          refine xj_aload_n (n := 0) (i := 0) 0 rfl rfl dX9_readPart_37 ?_
          refine yj_getf (v := .ref 70) fl_X9_25_9 (by omega) (fq_67 zg3) rfl dX9_readPart_38 ?_
          refine xj_iload_n (n := 1) (i := 1) 1 rfl rfl dX9_readPart_41 ?_
          refine xj_aload_n (n := 0) (i := 0) 0 rfl rfl dX9_readPart_42 ?_
          refine yj_getf (v := .int (nI ((Da ++ C)).length)) fl_X9_28_9 (by omega) (fq_67 zg3) (congrArg (fun z => some (Value.int z)) Ta.2.2.2.2.2.2.1) dX9_readPart_43 ?_
          refine yj_iastN p (by omega) fA_70 rfl (by omega) (by decide) dX9_readPart_46 ?_
          obtain ⟨zg4, ezg4⟩ : ∃ x9, x9 = gs zg3 70 p (nI ((Da ++ C)).length) := ⟨_, rfl⟩
          rw [← ezg4]
          have Tzg4 : tpA zg4 z b ja (Da ++ C) := by rw [ezg4]; exact Ta.g70 _ _
          have hrzg4 : fr rX g zg4 := by rw [ezg4]; exact hr9.gs (Or.inr (Or.inr rfl)) _ _
          refine xj_aload_n (n := 0) (i := 0) 0 rfl rfl dX9_readPart_47 ?_
          refine xj_callV kv_X9_40 (c_X9_step l d n hn zg4 b z hz Tzg4.2.1 Tzg4.1 (nxP b z ja) (nxP_b b hRa.1.2.1).2.1 Tzg4.2.2.2.1) (As := []) (st := []) (by omega) (fq_67 zg4) (ci := 9) rfl rfl rfl rfl (xRm_of (by omega) (by decide) (by omega) (by omega)) (Nat.le_of_ble_eq_true rfl) dX9_readPart_48 (yk_v (kc := 0) (ks := 0) fun zg5 hzg5 => ?_)
          obtain ⟨hqzg5, h1zg5, h6zg5, h7zg5, h8zg5⟩ := hzg5
          have Tzg5 := Tzg4.st hqzg5 h1zg5 h6zg5 h7zg5 h8zg5
          have hrzg5 := fr.tr hrzg4 (hqzg5.fr.mono rX_2)
          have h70 : zg5 70 = upd (g 70) p (nI (Da ++ C).length) := by rw [hqzg5.1 70 (by decide), ezg4, gs_s, hf70]
          refine xj_iconst (v := 1) (by decide) dX9_readPart_51 ?_
          exact xj_ireturn rfl nr_b1 (Nat.zero_le _) (Nat.zero_le _) dX9_readPart_52 (qI_e ⟨hrzg5, Or.inl ⟨rfl, ja, Da, hpk, ⟨by omega, hZa, by omega, by have w := hRa.1.2.2.2; exact w⟩, Tzg5, h70⟩⟩)
        · refine xj_iconst (v := 0) (by decide) dX9_readPart_35 ?_
          exact xj_ireturn rfl nr_b0 (Nat.zero_le _) (Nat.zero_le _) dX9_readPart_36 (qI_e ⟨hr9, Or.inr ⟨rfl, ja, _, hpa.trans (rlT_no Ra.1 Ra.2.1 ⟨Ra.2.2.2, Ra.2.2.1⟩ zc32), hZa, Ta⟩⟩)
    · skip
      have hr9 : fr rX g zg3 := fr.tr hrzg1 (hfa.mono rX_2)
      refine xj_if_eq (tgt := 35) (by decide) dX9_readPart_23 (fun zc23 => ?_) (fun zc23 => ?_)
      · refine xj_iconst (v := 0) (by decide) dX9_readPart_35 ?_
        exact xj_ireturn rfl nr_b0 (Nat.zero_le _) (Nat.zero_le _) dX9_readPart_36 (qI_e ⟨hr9, Or.inr ⟨rfl, ja, _, hpa.trans (flT Na), hja, Ta⟩⟩)
      · exact absurd (by decide) zc23
  · refine xj_iconst (v := 0) (by decide) dX9_readPart_12 ?_
    exact xj_ireturn rfl nr_b0 (Nat.zero_le _) (Nat.zero_le _) dX9_readPart_13 (qI_e ⟨(fr.rf : fr rX g g), Or.inr ⟨rfl, i, C, if_neg zc9, hi, Tp⟩⟩)
set_option maxHeartbeats 4000000 in
set_option maxRecDepth 100000 in
theorem c_X9_readWhole (l : Launch) (d : Nat) (n : Nat) (hn : 110 ≤ n) (g : xG) (b : Nat → Int32) (z : Nat) (hz : z ≤ 160) (hb : g 68 = b) (h0 : g 67 0 = nI z)  : xC l yX9_readWhole cX9_readWhole 2 (some .boolean) (xR (d + 61) 0 0) [.ref 67] (n, fh g) (qI n fun v g1 => fr rX g g1 ∧ g1 67 0 = nI z ∧ g1 67 1 = nI (stP b z (waF b z 3 0 0).2.1) ∧ v = bI ((waF b z 3 0 0).1 = true) ∧ ((waF b z 3 0 0).1 = true → woR g1 (waF b z 3 0 0).2.2)) := by
  refine xC_of false (by decide +kernel) (fun z => by cases z) (Nat.le_of_ble_eq_true rfl) ?_
  show xJ l (RX9, 2, (some .boolean), false, (xR (d + 61) 0 0), none) cX9_readWhole _ 0 0 0 [(0, .ref 67)] [] (n, fh g)
  refine xj_aload_n (n := 0) (i := 0) 0 rfl rfl dX9_readWhole_0 ?_
  refine xj_iconst (v := 0) (by decide) dX9_readWhole_1 ?_
  refine yj_puti fl_X9_28_9 (by omega) fS_67_5 (fi_i _) dX9_readWhole_2 ?_
  obtain ⟨zg1, ezg1⟩ : ∃ x9, x9 = gs g 67 5 0 := ⟨_, rfl⟩
  rw [← ezg1]
  have t0zg1 : zg1 67 0 = nI z := by rw [ezg1, gs_s, upd_n _ _ (by decide)]; exact h0
  have t5zg1 : zg1 67 5 = 0 := by rw [ezg1, gs_s, upd_s]
  have r68zg1 : zg1 68 = b := by rw [ezg1, gs_n _ _ _ (by decide)]; exact hb
  refine xj_aload_n (n := 0) (i := 0) 0 rfl rfl dX9_readWhole_5 ?_
  refine xj_iconst (v := 0) (by decide) dX9_readWhole_6 ?_
  refine yj_puti fl_X9_31_9 (by omega) fS_67_6 (fi_i _) dX9_readWhole_7 ?_
  obtain ⟨zg2, ezg2⟩ : ∃ x9, x9 = gs zg1 67 6 0 := ⟨_, rfl⟩
  rw [← ezg2]
  have t0zg2 : zg2 67 0 = nI z := by rw [ezg2, gs_s, upd_n _ _ (by decide)]; exact t0zg1
  have t5zg2 : zg2 67 5 = 0 := by rw [ezg2, gs_s, upd_n _ _ (by decide)]; exact t5zg1
  have t6zg2 : zg2 67 6 = 0 := by rw [ezg2, gs_s, upd_s]
  have r68zg2 : zg2 68 = b := by rw [ezg2, gs_n _ _ _ (by decide)]; exact r68zg1
  have hfr : fr rX g zg2 := by rw [ezg2, ezg1]; exact (fr.rf.gs (Or.inl rfl) _ _).gs (Or.inl rfl) _ _
  have hsz := t0zg2
  have hnxt := t6zg2
  have hcc := t5zg2
  have hrow := r68zg2
  refine xj_aload_n (n := 0) (i := 0) 0 rfl rfl dX9_readWhole_10 ?_
  refine xj_callV kv_X9_40 (c_X9_step l d n hn zg2 b z hz hrow hsz 0 (Nat.zero_le z) hnxt) (As := []) (st := []) (by omega) (fq_67 zg2) (ci := 9) rfl rfl rfl rfl (xRm_of (by omega) (by decide) (by omega) (by omega)) (Nat.le_of_ble_eq_true rfl) dX9_readWhole_11 (yk_v (kc := 0) (ks := 0) fun zg3 hzg3 => ?_)
  obtain ⟨hqzg3, h1zg3, h6zg3, h7zg3, h8zg3⟩ := hzg3
  have Tzg3 : tpA zg3 z b 0 [] := ⟨(hqzg3.2 0 (by unfold tX; omega)).trans hsz, (hqzg3.1 68 (by decide)).trans hrow, h1zg3, h6zg3, h7zg3, h8zg3, (hqzg3.2 5 (by unfold tX; omega)).trans hcc, lRow_0 _⟩
  have hrzg3 := hfr.tr (hqzg3.fr.mono rX_2)
  refine xj_iconst (v := 0) (by decide) dX9_readWhole_14 ?_
  refine xj_top (show 0 = nI 0 from rfl) ?_
  refine xj_istore_n (n := 1) (i := 1) (lv1 := [(1, .int (nI 0)), (0, .ref 67)]) rfl rfl (Nat.le_of_ble_eq_true rfl) dX9_readWhole_15 ?_
  refine xj_iload_n (n := 1) (i := 1) 0 rfl rfl dX9_readWhole_16 ?_
  refine xj_iconst (v := 3) (by decide) dX9_readWhole_17 ?_
  refine xj_icmp_ge (tgt := 37) (by decide) dX9_readWhole_18 (fun zc18 => ?_) (fun zc18 => ?_)
  · exact absurd zc18 (by decide)
  · refine xj_aload_n (n := 0) (i := 0) 1 rfl rfl dX9_readWhole_21 ?_
    refine xj_iload_n (n := 1) (i := 1) 0 rfl rfl dX9_readWhole_22 ?_
    have hlCa : (([] : List Int32) : List Int32).length ≤ 0 := Nat.le_refl 0
    refine xj_callV kv_X9_43 (c_X9_readPart l d n hn zg3 0 (by decide) z b 0 ([] : List Int32) hz (Nat.zero_le z) hlCa Tzg3) (As := [.int (nI 0)]) (st := []) (by omega) (fq_67 zg3) (ci := 9) rfl rfl rfl rfl (xRm_of (by omega) (by decide) (by omega) (by omega)) (Nat.le_of_ble_eq_true rfl) dX9_readWhole_23 (yk_i (kc := 0) (ks := 0) fun zv4 zg5 hzg5 => ?_)
    obtain ⟨hfa, hca⟩ := hzg5
    rcases hca with ⟨rfl, ja, Da, ea, ⟨hJa, hZa, hLa, hWa⟩, Ta, h70a⟩ | ⟨rfl, ja, Ea, ea, hja, Ta⟩
    · have hnza := nxP_b b hZa
      rw [show Da ++ [] = Da from List.append_nil _] at Ta h70a
      refine xj_if_ne (tgt := 31) (by decide) dX9_readWhole_26 (fun zc26 => ?_) (fun zc26 => ?_)
      · refine xj_iinc (n := 1) (i := 1) (v := nI 1) (lv1 := [(1, .int (nI 1)), (0, .ref 67)]) 0 rfl (nI_1 0) rfl (Nat.le_of_ble_eq_true rfl) dX9_readWhole_31 ?_
        refine xj_goto (tgt := 16) (by decide) dX9_readWhole_34 ?_
        refine xj_iload_n (n := 1) (i := 1) 0 rfl rfl dX9_readWhole_16 ?_
        refine xj_iconst (v := 3) (by decide) dX9_readWhole_17 ?_
        refine xj_icmp_ge (tgt := 37) (by decide) dX9_readWhole_18 (fun zc18 => ?_) (fun zc18 => ?_)
        · exact absurd zc18 (by decide)
        · refine xj_aload_n (n := 0) (i := 0) 1 rfl rfl dX9_readWhole_21 ?_
          refine xj_iload_n (n := 1) (i := 1) 0 rfl rfl dX9_readWhole_22 ?_
          have hlCb : (Da : List Int32).length ≤ (nxP b z ja) := by omega
          refine xj_callV kv_X9_43 (c_X9_readPart l d n hn zg5 1 (by decide) z b (nxP b z ja) Da hz hnza.2.1 hlCb Ta) (As := [.int (nI 1)]) (st := []) (by omega) (fq_67 zg5) (ci := 9) rfl rfl rfl rfl (xRm_of (by omega) (by decide) (by omega) (by omega)) (Nat.le_of_ble_eq_true rfl) dX9_readWhole_23 (yk_i (kc := 0) (ks := 0) fun zv6 zg7 hzg7 => ?_)
          obtain ⟨hfb, hcb⟩ := hzg7
          rcases hcb with ⟨rfl, jb, Db, eb, ⟨hJb, hZb, hLb, hWb⟩, Tb, h70b⟩ | ⟨rfl, jb, Eb, eb, hjb, Tb⟩
          · have hnzb := nxP_b b hZb
            refine xj_if_ne (tgt := 31) (by decide) dX9_readWhole_26 (fun zc26 => ?_) (fun zc26 => ?_)
            · refine xj_iinc (n := 1) (i := 1) (v := nI 2) (lv1 := [(1, .int (nI 2)), (0, .ref 67)]) 0 rfl (nI_1 1) rfl (Nat.le_of_ble_eq_true rfl) dX9_readWhole_31 ?_
              refine xj_goto (tgt := 16) (by decide) dX9_readWhole_34 ?_
              refine xj_iload_n (n := 1) (i := 1) 0 rfl rfl dX9_readWhole_16 ?_
              refine xj_iconst (v := 3) (by decide) dX9_readWhole_17 ?_
              refine xj_icmp_ge (tgt := 37) (by decide) dX9_readWhole_18 (fun zc18 => ?_) (fun zc18 => ?_)
              · exact absurd zc18 (by decide)
              · refine xj_aload_n (n := 0) (i := 0) 1 rfl rfl dX9_readWhole_21 ?_
                refine xj_iload_n (n := 1) (i := 1) 0 rfl rfl dX9_readWhole_22 ?_
                have hlCc : ((Db ++ Da) : List Int32).length ≤ (nxP b z jb) := by simp only [List.length_append, List.length_cons]; omega
                refine xj_callV kv_X9_43 (c_X9_readPart l d n hn zg7 2 (by decide) z b (nxP b z jb) (Db ++ Da) hz hnzb.2.1 hlCc Tb) (As := [.int (nI 2)]) (st := []) (by omega) (fq_67 zg7) (ci := 9) rfl rfl rfl rfl (xRm_of (by omega) (by decide) (by omega) (by omega)) (Nat.le_of_ble_eq_true rfl) dX9_readWhole_23 (yk_i (kc := 0) (ks := 0) fun zv8 zg9 hzg9 => ?_)
                obtain ⟨hfc, hcc⟩ := hzg9
                rcases hcc with ⟨rfl, jc, Dc, ec, ⟨hJc, hZc, hLc, hWc⟩, Tc, h70c⟩ | ⟨rfl, jc, Ec, ec, hjc, Tc⟩
                · have hnzc := nxP_b b hZc
                  refine xj_if_ne (tgt := 31) (by decide) dX9_readWhole_26 (fun zc26 => ?_) (fun zc26 => ?_)
                  · refine xj_iinc (n := 1) (i := 1) (v := nI 3) (lv1 := [(1, .int (nI 3)), (0, .ref 67)]) 0 rfl (nI_1 2) rfl (Nat.le_of_ble_eq_true rfl) dX9_readWhole_31 ?_
                    refine xj_goto (tgt := 16) (by decide) dX9_readWhole_34 ?_
                    refine xj_iload_n (n := 1) (i := 1) 0 rfl rfl dX9_readWhole_16 ?_
                    refine xj_iconst (v := 3) (by decide) dX9_readWhole_17 ?_
                    refine xj_icmp_ge (tgt := 37) (by decide) dX9_readWhole_18 (fun zc18 => ?_) (fun zc18 => ?_)
                    · have hlen : (Dc ++ (Db ++ Da)).length ≤ 160 := by simp only [List.length_append, List.length_cons]; omega
                      have h700 : zg9 70 0 = nI Da.length := by rw [h70c, upd_n _ _ (by decide), h70b, upd_n _ _ (by decide), h70a, upd_s]
                      have h701 : zg9 70 1 = nI (Db ++ Da).length := by rw [h70c, upd_n _ _ (by decide), h70b, upd_s]
                      have h702 : zg9 70 2 = nI (Dc ++ (Db ++ Da)).length := by rw [h70c, upd_s]
                      refine xj_aload_n (n := 0) (i := 0) 1 rfl rfl dX9_readWhole_37 ?_
                      refine yj_getf (v := .int (tkP b z (nxP b z jc))) fl_X9_34_9 (by omega) (fq_67 zg9) (congrArg (fun z => some (Value.int z)) Tc.2.2.2.2.1) dX9_readWhole_38 ?_
                      refine xj_if_ne (tgt := 48) (by decide) dX9_readWhole_41 (fun zc41 => ?_) (fun zc41 => ?_)
                      · have hW : waF b z 3 0 0 = (false, nxP b z jc, [Da, Db, Dc]) := waF_s ea (waF_s eb (waF_s ec (show waF b z 0 3 (nxP b z jc) = (false, nxP b z jc, []) from by show (decide (tkP b z (nxP b z jc) = 0), _, _) = _; rw [decide_eq_false zc41])))
                        refine xj_iconst (v := 0) (by decide) dX9_readWhole_48 ?_
                        exact xj_ireturn rfl nr_b0 (Nat.zero_le _) (Nat.zero_le _) dX9_readWhole_49 (qI_e ⟨(fr.tr (fr.tr (fr.tr hrzg3 hfa) hfb) hfc), Tc.1, by rw [hW]; exact Tc.2.2.1, by rw [hW]; rfl, fun y => by rw [hW] at y; cases y⟩)
                      · have hW : waF b z 3 0 0 = (true, nxP b z jc, [Da, Db, Dc]) := waF_s ea (waF_s eb (waF_s ec (show waF b z 0 3 (nxP b z jc) = (true, nxP b z jc, []) from by show (decide (tkP b z (nxP b z jc) = 0), _, _) = _; rw [decide_eq_true zc41])))
                        refine xj_iconst (v := 1) (by decide) dX9_readWhole_44 ?_
                        refine xj_goto (tgt := 49) (by decide) dX9_readWhole_45 ?_
                        exact xj_ireturn rfl nr_b1 (Nat.zero_le _) (Nat.zero_le _) dX9_readWhole_49 (qI_e ⟨(fr.tr (fr.tr (fr.tr hrzg3 hfa) hfb) hfc), Tc.1, by rw [hW]; exact Tc.2.2.1, by rw [hW]; rfl, fun _ => by rw [hW]; exact ⟨Da, Db, Dc, rfl, hWa, hWb, hWc, hlen, Tc.2.2.2.2.2.2.1, Tc.2.2.2.2.2.2.2, h700, h701, h702⟩⟩)
                    · exact absurd (by decide) zc18
                  · exact absurd zc26 (by decide)
                · have hW : waF b z 3 0 0 = (false, jc, [Da, Db]) := waF_s ea (waF_s eb (waF_f ec))
                  refine xj_if_ne (tgt := 31) (by decide) dX9_readWhole_26 (fun zc26 => ?_) (fun zc26 => ?_)
                  · exact absurd zc26 (fun z => z rfl)
                  · refine xj_iconst (v := 0) (by decide) dX9_readWhole_29 ?_
                    exact xj_ireturn rfl nr_b0 (Nat.zero_le _) (Nat.zero_le _) dX9_readWhole_30 (qI_e ⟨(fr.tr (fr.tr (fr.tr hrzg3 hfa) hfb) hfc), Tc.1, by rw [hW]; exact Tc.2.2.1, by rw [hW]; rfl, fun y => by rw [hW] at y; cases y⟩)
            · exact absurd zc26 (by decide)
          · have hW : waF b z 3 0 0 = (false, jb, [Da]) := waF_s ea (waF_f eb)
            refine xj_if_ne (tgt := 31) (by decide) dX9_readWhole_26 (fun zc26 => ?_) (fun zc26 => ?_)
            · exact absurd zc26 (fun z => z rfl)
            · refine xj_iconst (v := 0) (by decide) dX9_readWhole_29 ?_
              exact xj_ireturn rfl nr_b0 (Nat.zero_le _) (Nat.zero_le _) dX9_readWhole_30 (qI_e ⟨(fr.tr (fr.tr hrzg3 hfa) hfb), Tb.1, by rw [hW]; exact Tb.2.2.1, by rw [hW]; rfl, fun y => by rw [hW] at y; cases y⟩)
      · exact absurd zc26 (by decide)
    · have hW : waF b z 3 0 0 = (false, ja, []) := waF_f ea
      refine xj_if_ne (tgt := 31) (by decide) dX9_readWhole_26 (fun zc26 => ?_) (fun zc26 => ?_)
      · exact absurd zc26 (fun z => z rfl)
      · refine xj_iconst (v := 0) (by decide) dX9_readWhole_29 ?_
        exact xj_ireturn rfl nr_b0 (Nat.zero_le _) (Nat.zero_le _) dX9_readWhole_30 (qI_e ⟨(fr.tr hrzg3 hfa), Ta.1, by rw [hW]; exact Ta.2.2.1, by rw [hW]; rfl, fun y => by rw [hW] at y; cases y⟩)
