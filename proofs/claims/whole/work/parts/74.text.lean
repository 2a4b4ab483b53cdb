set_option maxHeartbeats 4000000 in
set_option maxRecDepth 100000 in
theorem c_X9_readTerm (l : Launch) (d : Nat) (n : Nat) (hn : 110 ≤ n) (g : xG) (k o : Nat) (ho : o + k = 5) (gO : gPr l yX9_readOne cX9_readOne 3 (8 * k + 8) o (okO o) (noO o)) (z : Nat) (b : Nat → Int32) (i : Nat) (C : List Int32) (hz : z ≤ 160) (hi : i ≤ z) (hC : C.length ≤ i) (Tp : tpA g z b i C)  : xC l yX9_readTerm cX9_readTerm 4 (some .boolean) (xR (d + (8 * k + 9)) 0 0) [.ref 67, .int (nI o)] (n, fh g) (rPo n g z b i C (okT o b z i) (noT o b z i)) := by
  refine xC_of false (by decide +kernel) (fun z => by cases z) (Nat.le_of_ble_eq_true rfl) ?_
  show xJ l (RX9, 4, (some .boolean), false, (xR (d + (8 * k + 9)) 0 0), none) cX9_readTerm _ 0 0 0 [(0, .ref 67), (1, .int (nI o))] [] (n, fh g)
  refine xj_aload_n (n := 0) (i := 0) 0 rfl rfl dX9_readTerm_0 ?_
  refine xj_iload_n (n := 1) (i := 1) 1 rfl rfl dX9_readTerm_1 ?_
  have hlCa : (C).length ≤ i := by omega
  refine xj_callV kv_X9_82 (gO d n hn g z b i C hz hi hlCa Tp) (As := [.int (nI o)]) (st := []) (by omega) (fq_67 g) (ci := 9) rfl rfl rfl rfl (xRm_of (by omega) (by decide) (by omega) (by omega)) (Nat.le_of_ble_eq_true rfl) dX9_readTerm_2 (yk_i (kc := 0) (ks := 0) fun zv1 zg2 hzg2 => ?_)
  obtain ⟨hfa, hca⟩ := hzg2
  rcases hca with ⟨rfl, ja, Da, Ra, Ta⟩ | ⟨rfl, ja, Ea, Na, hja, hEa, Ta⟩
  · have hRa := (show (_ ∧ _) from Ra)
    have hLa := hRa.1.2.2.1
    have hJa := hRa.1.1
    have hZa := hRa.1.2.1
    refine xj_istore_n (n := 2) (i := 2) (lv1 := [(2, .int 1), (0, .ref 67), (1, .int (nI o))]) rfl rfl (Nat.le_of_ble_eq_true rfl) dX9_readTerm_5 ?_
    refine xj_iconst (v := 0) (by decide) dX9_readTerm_6 ?_
    refine xj_istore_n (n := 3) (i := 3) (lv1 := [(3, .int 0), (2, .int 1), (0, .ref 67), (1, .int (nI o))]) rfl rfl (Nat.le_of_ble_eq_true rfl) dX9_readTerm_7 ?_
    have key : ∀ (m c j : Nat) (D : List Int32) (g1 : xG), z - j ≤ m → c < j → (rlS b z 6 o i j D) → fr (fun j => j = 67 ∨ j = 69) g g1 → tpA g1 z b j (D ++ C) → xJ l (RX9, 4, (some .boolean), false, (xR (d + (8 * k + 9)) 0 0), none) cX9_readTerm (rPo n g z b i C (okT o b z i) (noT o b z i)) 0 0 8 [(3, .int (nI c)), (2, .int 1), (0, .ref 67), (1, .int (nI o))] [] (n, fh g1) := by
      intro m
      induction m using Nat.strongRecOn with
      | ind m ihm =>
        intro c j D g1 hm hcj R hf T1
        have hR1 := R
        have hL1 := hR1.1.2.2.1
        have hJ1 := hR1.1.1
        have hZ1 := hR1.1.2.1
        have hjz := hR1.1.2.1
        have hjL := hR1.1.2.2.1
        have hji := hR1.1.1
        refine xj_iload_n (n := 3) (i := 3) 0 rfl rfl dX9_readTerm_8 ?_
        refine xj_sipush (v := 160) (by decide) dX9_readTerm_9 ?_
        refine xj_icmp_ge (tgt := 50) (by decide) dX9_readTerm_12 (fun zc12 => ?_) (fun zc12 => ?_)
        · exact absurd zc12 (nI_ge (a := c) (b := 160) (by omega) (by decide))
        · refine xj_iload_n (n := 2) (i := 2) 1 rfl rfl dX9_readTerm_15 ?_
          refine xj_if_eq (tgt := 50) (by decide) dX9_readTerm_16 (fun zc16 => ?_) (fun zc16 => ?_)
          · exact absurd zc16 (by decide)
          · refine xj_aload_n (n := 0) (i := 0) 2 rfl rfl dX9_readTerm_19 ?_
            refine yj_getf (v := .int (tkP b z j)) fl_X9_34_9 (by omega) (fq_67 g1) (congrArg (fun z => some (Value.int z)) T1.2.2.2.2.1) dX9_readTerm_20 ?_
            refine xj_bipush (v := 42) (by decide) dX9_readTerm_23 ?_
            refine xj_icmp_ne (tgt := 50) (by decide) dX9_readTerm_25 (fun zc25 => ?_) (fun zc25 => ?_)
            · refine xj_iload_n (n := 2) (i := 2) 1 rfl rfl dX9_readTerm_50 ?_
              exact xj_ireturn rfl nr_b1 (Nat.zero_le _) (Nat.zero_le _) dX9_readTerm_51 (qI_e ⟨hf, Or.inl ⟨rfl, j, D, ⟨R, zc25⟩, T1⟩⟩)
            · have hnx := (nxP_b b hjz).2.2 (by rw [zc25]; decide)
              have hnz := (nxP_b b hjz).2.1
              refine xj_aload_n (n := 0) (i := 0) 2 rfl rfl dX9_readTerm_28 ?_
              refine xj_callV kv_X9_40 (c_X9_step l d n hn g1 b z hz T1.2.1 T1.1 (nxP b z j) (nxP_b b hjz).2.1 T1.2.2.2.1) (As := []) (st := []) (by omega) (fq_67 g1) (ci := 9) rfl rfl rfl rfl (xRm_of (by omega) (by decide) (by omega) (by omega)) (Nat.le_of_ble_eq_true rfl) dX9_readTerm_29 (yk_v (kc := 0) (ks := 0) fun zg3 hzg3 => ?_)
              obtain ⟨hqzg3, h1zg3, h6zg3, h7zg3, h8zg3⟩ := hzg3
              have Tzg3 := T1.st hqzg3 h1zg3 h6zg3 h7zg3 h8zg3
              have hrzg3 := fr.tr hf hqzg3.fr
              refine xj_aload_n (n := 0) (i := 0) 2 rfl rfl dX9_readTerm_32 ?_
              refine xj_iload_n (n := 1) (i := 1) 3 rfl rfl dX9_readTerm_33 ?_
              have hlCc : ((D ++ C)).length ≤ (nxP b z j) := by simp only [List.length_append, List.length_cons]; omega
              refine xj_callV kv_X9_82 (gO d n hn zg3 z b (nxP b z j) (D ++ C) hz (nxP_b b hjz).2.1 hlCc Tzg3) (As := [.int (nI o)]) (st := []) (by omega) (fq_67 zg3) (ci := 9) rfl rfl rfl rfl (xRm_of (by omega) (by decide) (by omega) (by omega)) (Nat.le_of_ble_eq_true rfl) dX9_readTerm_34 (yk_i (kc := 0) (ks := 0) fun zv4 zg5 hzg5 => ?_)
              obtain ⟨hfc, hcc⟩ := hzg5
              rcases hcc with ⟨rfl, jc, Dc, Rc, Tc⟩ | ⟨rfl, jc, Ec, Nc, hjc, hEc, Tc⟩
              · have hRc := (show (_ ∧ _) from Rc)
                have hLc := hRc.1.2.2.1
                have hJc := hRc.1.1
                have hZc := hRc.1.2.1
                refine xj_istore_n (n := 2) (i := 2) (lv1 := [(2, .int 1), (3, .int (nI c)), (0, .ref 67), (1, .int (nI o))]) rfl rfl (Nat.le_of_ble_eq_true rfl) dX9_readTerm_37 ?_
                refine xj_aload_n (n := 0) (i := 0) 2 rfl rfl dX9_readTerm_38 ?_
                refine xj_bipush (v := (-42)) (by decide) dX9_readTerm_39 ?_
                refine xj_callV kv_X9_69 (c_X9_write l d n hn zg5 (Dc ++ (D ++ C)).length (by simp only [List.length_append, List.length_cons]; omega) (-42) Tc.2.2.2.2.2.2.1) (As := [.int (-42)]) (st := []) (by omega) (fq_67 zg5) (ci := 9) rfl rfl rfl rfl (xRm_of (by omega) (by decide) (by omega) (by omega)) (Nat.le_of_ble_eq_true rfl) dX9_readTerm_41 (yk_v (kc := 0) (ks := 0) fun zg6 hzg6 => ?_)
                have Tzg6 : tpA zg6 z b jc ((-42) :: (Dc ++ (D ++ C))) := by rw [hzg6]; exact Tc.wr _
                have hrzg6 := fr.tr (fr.tr hrzg3 hfc) (show fr (fun j => j = 67 ∨ j = 69) zg5 zg6 from by rw [hzg6]; exact (fr.rf.gs (Or.inr rfl) _ _).gs (Or.inl rfl) _ _)
                refine xj_iinc (n := 1) (i := 3) (v := nI (c + 1)) (lv1 := [(3, .int (nI (c + 1))), (2, .int 1), (0, .ref 67), (1, .int (nI o))]) 1 rfl (nI_1 c) rfl (Nat.le_of_ble_eq_true rfl) dX9_readTerm_44 ?_
                refine xj_goto (tgt := 8) (by decide) dX9_readTerm_47 ?_
                refine xj_sub (lv' := [(3, .int (nI (c + 1))), (2, .int 1), (0, .ref 67), (1, .int (nI o))]) [0, 1, 2, 3] rfl ?_
                exact ihm (z - jc) (by omega) (c + 1) jc (-42 :: (Dc ++ D)) zg6 (Nat.le_refl _) (by omega) (rlS_mul R zc25 Rc) hrzg6 (by rw [show (-42 :: (Dc ++ D)) ++ C = -42 :: (Dc ++ (D ++ C)) from by simp]; exact Tzg6)
              · simp only [List.length_append] at hEc
                refine xj_istore_n (n := 2) (i := 2) (lv1 := [(2, .int 0), (3, .int (nI c)), (0, .ref 67), (1, .int (nI o))]) rfl rfl (Nat.le_of_ble_eq_true rfl) dX9_readTerm_37 ?_
                refine xj_aload_n (n := 0) (i := 0) 2 rfl rfl dX9_readTerm_38 ?_
                refine xj_bipush (v := (-42)) (by decide) dX9_readTerm_39 ?_
                refine xj_callV kv_X9_69 (c_X9_write l d n hn zg5 Ec.length (by omega) (-42) Tc.2.2.2.2.2.2.1) (As := [.int (-42)]) (st := []) (by omega) (fq_67 zg5) (ci := 9) rfl rfl rfl rfl (xRm_of (by omega) (by decide) (by omega) (by omega)) (Nat.le_of_ble_eq_true rfl) dX9_readTerm_41 (yk_v (kc := 0) (ks := 0) fun zg7 hzg7 => ?_)
                have Tzg7 : tpA zg7 z b jc ((-42) :: Ec) := by rw [hzg7]; exact Tc.wr _
                have hrzg7 := fr.tr (fr.tr hrzg3 hfc) (show fr (fun j => j = 67 ∨ j = 69) zg5 zg7 from by rw [hzg7]; exact (fr.rf.gs (Or.inr rfl) _ _).gs (Or.inl rfl) _ _)
                refine xj_iinc (n := 1) (i := 3) (v := nI (c + 1)) (lv1 := [(3, .int (nI (c + 1))), (2, .int 0), (0, .ref 67), (1, .int (nI o))]) 1 rfl (nI_1 c) rfl (Nat.le_of_ble_eq_true rfl) dX9_readTerm_44 ?_
                refine xj_goto (tgt := 8) (by decide) dX9_readTerm_47 ?_
                refine xj_iload_n (n := 3) (i := 3) 0 rfl rfl dX9_readTerm_8 ?_
                refine xj_sipush (v := 160) (by decide) dX9_readTerm_9 ?_
                refine xj_icmp_ge (tgt := 50) (by decide) dX9_readTerm_12 (fun zc12 => ?_) (fun zc12 => ?_)
                · refine xj_iload_n (n := 2) (i := 2) 1 rfl rfl dX9_readTerm_50 ?_
                  exact xj_ireturn rfl nr_b0 (Nat.zero_le _) (Nat.zero_le _) dX9_readTerm_51 (qI_e ⟨hrzg7, Or.inr ⟨rfl, jc, ((-42) :: Ec), (flS_mul R zc25 Nc), hjc, (by simp only [List.length_append, List.length_cons]; omega), Tzg7⟩⟩)
                · refine xj_iload_n (n := 2) (i := 2) 1 rfl rfl dX9_readTerm_15 ?_
                  refine xj_if_eq (tgt := 50) (by decide) dX9_readTerm_16 (fun zc16 => ?_) (fun zc16 => ?_)
                  · refine xj_iload_n (n := 2) (i := 2) 1 rfl rfl dX9_readTerm_50 ?_
                    exact xj_ireturn rfl nr_b0 (Nat.zero_le _) (Nat.zero_le _) dX9_readTerm_51 (qI_e ⟨hrzg7, Or.inr ⟨rfl, jc, ((-42) :: Ec), (flS_mul R zc25 Nc), hjc, (by simp only [List.length_append, List.length_cons]; omega), Tzg7⟩⟩)
                  · exact absurd (by decide) zc16
    refine xj_sub (lv' := [(3, .int 0), (2, .int 1), (0, .ref 67), (1, .int (nI o))]) [0, 1, 2, 3] rfl ?_
    exact key (z - ja) 0 ja Da zg2 (Nat.le_refl _) (by omega) (rlS_one Ra) (fr.tr fr.rf hfa) Ta
  · skip
    refine xj_istore_n (n := 2) (i := 2) (lv1 := [(2, .int 0), (0, .ref 67), (1, .int (nI o))]) rfl rfl (Nat.le_of_ble_eq_true rfl) dX9_readTerm_5 ?_
    refine xj_iconst (v := 0) (by decide) dX9_readTerm_6 ?_
    refine xj_istore_n (n := 3) (i := 3) (lv1 := [(3, .int 0), (2, .int 0), (0, .ref 67), (1, .int (nI o))]) rfl rfl (Nat.le_of_ble_eq_true rfl) dX9_readTerm_7 ?_
    refine xj_iload_n (n := 3) (i := 3) 0 rfl rfl dX9_readTerm_8 ?_
    refine xj_sipush (v := 160) (by decide) dX9_readTerm_9 ?_
    refine xj_icmp_ge (tgt := 50) (by decide) dX9_readTerm_12 (fun zc12 => ?_) (fun zc12 => ?_)
    · exact absurd zc12 (by decide)
    · refine xj_iload_n (n := 2) (i := 2) 1 rfl rfl dX9_readTerm_15 ?_
      refine xj_if_eq (tgt := 50) (by decide) dX9_readTerm_16 (fun zc16 => ?_) (fun zc16 => ?_)
      · refine xj_iload_n (n := 2) (i := 2) 1 rfl rfl dX9_readTerm_50 ?_
        exact xj_ireturn rfl nr_b0 (Nat.zero_le _) (Nat.zero_le _) dX9_readTerm_51 (qI_e ⟨(fr.tr fr.rf hfa), Or.inr ⟨rfl, ja, Ea, (flS_one Na), hja, (by omega), Ta⟩⟩)
      · exact absurd (by decide) zc16
set_option maxHeartbeats 4000000 in
set_option maxRecDepth 100000 in
theorem c_X9_readSum (l : Launch) (d : Nat) (n : Nat) (hn : 110 ≤ n) (g : xG) (k o : Nat) (ho : o + k = 5) (gT : gPr l yX9_readTerm cX9_readTerm 4 (8 * k + 9) o (okT o) (noT o)) (z : Nat) (b : Nat → Int32) (i : Nat) (C : List Int32) (hz : z ≤ 160) (hi : i ≤ z) (hC : C.length ≤ i) (Tp : tpA g z b i C)  : xC l yX9_readSum cX9_readSum 5 (some .boolean) (xR (d + (8 * k + 10)) 0 0) [.ref 67, .int (nI o)] (n, fh g) (rPo n g z b i C (okS o b z i) (noU o b z i)) := by
  refine xC_of false (by decide +kernel) (fun z => by cases z) (Nat.le_of_ble_eq_true rfl) ?_
  show xJ l (RX9, 5, (some .boolean), false, (xR (d + (8 * k + 10)) 0 0), none) cX9_readSum _ 0 0 0 [(0, .ref 67), (1, .int (nI o))] [] (n, fh g)
  refine xj_aload_n (n := 0) (i := 0) 0 rfl rfl dX9_readSum_0 ?_
  refine xj_iload_n (n := 1) (i := 1) 1 rfl rfl dX9_readSum_1 ?_
  have hlCa : (C).length ≤ i := by omega
  refine xj_callV kv_X9_79 (gT d n hn g z b i C hz hi hlCa Tp) (As := [.int (nI o)]) (st := []) (by omega) (fq_67 g) (ci := 9) rfl rfl rfl rfl (xRm_of (by omega) (by decide) (by omega) (by omega)) (Nat.le_of_ble_eq_true rfl) dX9_readSum_2 (yk_i (kc := 0) (ks := 0) fun zv1 zg2 hzg2 => ?_)
  obtain ⟨hfa, hca⟩ := hzg2
  rcases hca with ⟨rfl, ja, Da, Ra, Ta⟩ | ⟨rfl, ja, Ea, Na, hja, hEa, Ta⟩
  · have hRa := Ra.1
    have hLa := hRa.1.2.2.1
    have hJa := hRa.1.1
    have hZa := hRa.1.2.1
    refine xj_istore_n (n := 2) (i := 2) (lv1 := [(2, .int 1), (0, .ref 67), (1, .int (nI o))]) rfl rfl (Nat.le_of_ble_eq_true rfl) dX9_readSum_5 ?_
    refine xj_iconst (v := 0) (by decide) dX9_readSum_6 ?_
    refine xj_istore_n (n := 3) (i := 3) (lv1 := [(3, .int 0), (2, .int 1), (0, .ref 67), (1, .int (nI o))]) rfl rfl (Nat.le_of_ble_eq_true rfl) dX9_readSum_7 ?_
    have key : ∀ (m c j : Nat) (D : List Int32) (g1 : xG), z - j ≤ m → c < j → (rlS b z 5 o i j D ∧ ¬ tkP b z j = 42) → fr (fun j => j = 67 ∨ j = 69) g g1 → tpA g1 z b j (D ++ C) → xJ l (RX9, 5, (some .boolean), false, (xR (d + (8 * k + 10)) 0 0), none) cX9_readSum (rPo n g z b i C (okS o b z i) (noU o b z i)) 0 0 8 [(3, .int (nI c)), (2, .int 1), (0, .ref 67), (1, .int (nI o))] [] (n, fh g1) := by
      intro m
      induction m using Nat.strongRecOn with
      | ind m ihm =>
        intro c j D g1 hm hcj R hf T1
        have hR1 := R.1
        have hL1 := hR1.1.2.2.1
        have hJ1 := hR1.1.1
        have hZ1 := hR1.1.2.1
        have hjz := hR1.1.2.1
        have hjL := hR1.1.2.2.1
        have hji := hR1.1.1
        refine xj_iload_n (n := 3) (i := 3) 0 rfl rfl dX9_readSum_8 ?_
        refine xj_sipush (v := 160) (by decide) dX9_readSum_9 ?_
        refine xj_icmp_ge (tgt := 66) (by decide) dX9_readSum_12 (fun zc12 => ?_) (fun zc12 => ?_)
        · exact absurd zc12 (nI_ge (a := c) (b := 160) (by omega) (by decide))
        · refine xj_iload_n (n := 2) (i := 2) 1 rfl rfl dX9_readSum_15 ?_
          refine xj_if_eq (tgt := 66) (by decide) dX9_readSum_16 (fun zc16 => ?_) (fun zc16 => ?_)
          · exact absurd zc16 (by decide)
          · refine xj_aload_n (n := 0) (i := 0) 2 rfl rfl dX9_readSum_19 ?_
            refine yj_getf (v := .int (tkP b z j)) fl_X9_34_9 (by omega) (fq_67 g1) (congrArg (fun z => some (Value.int z)) T1.2.2.2.2.1) dX9_readSum_20 ?_
            refine xj_bipush (v := 43) (by decide) dX9_readSum_23 ?_
            refine xj_icmp_eq (tgt := 37) (by decide) dX9_readSum_25 (fun zc25 => ?_) (fun zc25 => ?_)
            · have htk : tkP b z j = 43 ∨ tkP b z j = 45 := Or.inl zc25
              have hnx := (nxP_b b hjz).2.2 (by rw [zc25]; decide)
              have hnz := (nxP_b b hjz).2.1
              refine xj_aload_n (n := 0) (i := 0) 2 rfl rfl dX9_readSum_37 ?_
              refine yj_getf (v := .int (tkP b z j)) fl_X9_34_9 (by omega) (fq_67 g1) (congrArg (fun z => some (Value.int z)) T1.2.2.2.2.1) dX9_readSum_38 ?_
              refine xj_istore (i := 4) (lv1 := [(4, .int (tkP b z j)), (3, .int (nI c)), (2, .int 1), (0, .ref 67), (1, .int (nI o))]) rfl (Nat.le_of_ble_eq_true rfl) dX9_readSum_41 ?_
              refine xj_aload_n (n := 0) (i := 0) 3 rfl rfl dX9_readSum_43 ?_
              refine xj_callV kv_X9_40 (c_X9_step l d n hn g1 b z hz T1.2.1 T1.1 (nxP b z j) (nxP_b b hjz).2.1 T1.2.2.2.1) (As := []) (st := []) (by omega) (fq_67 g1) (ci := 9) rfl rfl rfl rfl (xRm_of (by omega) (by decide) (by omega) (by omega)) (Nat.le_of_ble_eq_true rfl) dX9_readSum_44 (yk_v (kc := 0) (ks := 0) fun zg3 hzg3 => ?_)
              obtain ⟨hqzg3, h1zg3, h6zg3, h7zg3, h8zg3⟩ := hzg3
              have Tzg3 := T1.st hqzg3 h1zg3 h6zg3 h7zg3 h8zg3
              have hrzg3 := fr.tr hf hqzg3.fr
              refine xj_aload_n (n := 0) (i := 0) 3 rfl rfl dX9_readSum_47 ?_
              refine xj_iload_n (n := 1) (i := 1) 4 rfl rfl dX9_readSum_48 ?_
              have hlCc : ((D ++ C)).length ≤ (nxP b z j) := by simp only [List.length_append, List.length_cons]; omega
              refine xj_callV kv_X9_79 (gT d n hn zg3 z b (nxP b z j) (D ++ C) hz (nxP_b b hjz).2.1 hlCc Tzg3) (As := [.int (nI o)]) (st := []) (by omega) (fq_67 zg3) (ci := 9) rfl rfl rfl rfl (xRm_of (by omega) (by decide) (by omega) (by omega)) (Nat.le_of_ble_eq_true rfl) dX9_readSum_49 (yk_i (kc := 0) (ks := 0) fun zv4 zg5 hzg5 => ?_)
              obtain ⟨hfc, hcc⟩ := hzg5
              rcases hcc with ⟨rfl, jc, Dc, Rc, Tc⟩ | ⟨rfl, jc, Ec, Nc, hjc, hEc, Tc⟩
              · have hRc := Rc.1
                have hLc := hRc.1.2.2.1
                have hJc := hRc.1.1
                have hZc := hRc.1.2.1
                refine xj_istore_n (n := 2) (i := 2) (lv1 := [(2, .int 1), (4, .int (tkP b z j)), (3, .int (nI c)), (0, .ref 67), (1, .int (nI o))]) rfl rfl (Nat.le_of_ble_eq_true rfl) dX9_readSum_52 ?_
                refine xj_aload_n (n := 0) (i := 0) 3 rfl rfl dX9_readSum_53 ?_
                refine xj_iload (i := 4) 1 rfl dX9_readSum_54 ?_
                refine xj_ineg dX9_readSum_56 ?_
                refine xj_callV kv_X9_69 (c_X9_write l d n hn zg5 (Dc ++ (D ++ C)).length (by simp only [List.length_append, List.length_cons]; omega) (-(tkP b z j)) Tc.2.2.2.2.2.2.1) (As := [.int (-(tkP b z j))]) (st := []) (by omega) (fq_67 zg5) (ci := 9) rfl rfl rfl rfl (xRm_of (by omega) (by decide) (by omega) (by omega)) (Nat.le_of_ble_eq_true rfl) dX9_readSum_57 (yk_v (kc := 0) (ks := 0) fun zg6 hzg6 => ?_)
                have Tzg6 : tpA zg6 z b jc ((-(tkP b z j)) :: (Dc ++ (D ++ C))) := by rw [hzg6]; exact Tc.wr _
                have hrzg6 := fr.tr (fr.tr hrzg3 hfc) (show fr (fun j => j = 67 ∨ j = 69) zg5 zg6 from by rw [hzg6]; exact (fr.rf.gs (Or.inr rfl) _ _).gs (Or.inl rfl) _ _)
                refine xj_iinc (n := 1) (i := 3) (v := nI (c + 1)) (lv1 := [(3, .int (nI (c + 1))), (2, .int 1), (4, .int (tkP b z j)), (0, .ref 67), (1, .int (nI o))]) 2 rfl (nI_1 c) rfl (Nat.le_of_ble_eq_true rfl) dX9_readSum_60 ?_
                refine xj_goto (tgt := 8) (by decide) dX9_readSum_63 ?_
                refine xj_sub (lv' := [(3, .int (nI (c + 1))), (2, .int 1), (0, .ref 67), (1, .int (nI o))]) [0, 1, 3, 4] rfl ?_
                exact ihm (z - jc) (by omega) (c + 1) jc (-tkP b z j :: (Dc ++ D)) zg6 (Nat.le_refl _) (by omega) (⟨rlS_add R.1 htk Rc.1, Rc.2⟩) hrzg6 (by rw [show (-tkP b z j :: (Dc ++ D)) ++ C = -tkP b z j :: (Dc ++ (D ++ C)) from by simp]; exact Tzg6)
              · simp only [List.length_append] at hEc
                refine xj_istore_n (n := 2) (i := 2) (lv1 := [(2, .int 0), (4, .int (tkP b z j)), (3, .int (nI c)), (0, .ref 67), (1, .int (nI o))]) rfl rfl (Nat.le_of_ble_eq_true rfl) dX9_readSum_52 ?_
                refine xj_aload_n (n := 0) (i := 0) 3 rfl rfl dX9_readSum_53 ?_
                refine xj_iload (i := 4) 1 rfl dX9_readSum_54 ?_
                refine xj_ineg dX9_readSum_56 ?_
                refine xj_callV kv_X9_69 (c_X9_write l d n hn zg5 Ec.length (by omega) (-(tkP b z j)) Tc.2.2.2.2.2.2.1) (As := [.int (-(tkP b z j))]) (st := []) (by omega) (fq_67 zg5) (ci := 9) rfl rfl rfl rfl (xRm_of (by omega) (by decide) (by omega) (by omega)) (Nat.le_of_ble_eq_true rfl) dX9_readSum_57 (yk_v (kc := 0) (ks := 0) fun zg7 hzg7 => ?_)
                have Tzg7 : tpA zg7 z b jc ((-(tkP b z j)) :: Ec) := by rw [hzg7]; exact Tc.wr _
                have hrzg7 := fr.tr (fr.tr hrzg3 hfc) (show fr (fun j => j = 67 ∨ j = 69) zg5 zg7 from by rw [hzg7]; exact (fr.rf.gs (Or.inr rfl) _ _).gs (Or.inl rfl) _ _)
                refine xj_iinc (n := 1) (i := 3) (v := nI (c + 1)) (lv1 := [(3, .int (nI (c + 1))), (2, .int 0), (4, .int (tkP b z j)), (0, .ref 67), (1, .int (nI o))]) 2 rfl (nI_1 c) rfl (Nat.le_of_ble_eq_true rfl) dX9_readSum_60 ?_
                refine xj_goto (tgt := 8) (by decide) dX9_readSum_63 ?_
                refine xj_iload_n (n := 3) (i := 3) 0 rfl rfl dX9_readSum_8 ?_
                refine xj_sipush (v := 160) (by decide) dX9_readSum_9 ?_
                refine xj_icmp_ge (tgt := 66) (by decide) dX9_readSum_12 (fun zc12 => ?_) (fun zc12 => ?_)
                · refine xj_iload_n (n := 2) (i := 2) 1 rfl rfl dX9_readSum_66 ?_
                  exact xj_ireturn rfl nr_b0 (Nat.zero_le _) (Nat.zero_le _) dX9_readSum_67 (qI_e ⟨hrzg7, Or.inr ⟨rfl, jc, ((-(tkP b z j)) :: Ec), (flS_add R.1 htk Nc), hjc, (by simp only [List.length_append, List.length_cons]; omega), Tzg7⟩⟩)
                · refine xj_iload_n (n := 2) (i := 2) 1 rfl rfl dX9_readSum_15 ?_
                  refine xj_if_eq (tgt := 66) (by decide) dX9_readSum_16 (fun zc16 => ?_) (fun zc16 => ?_)
                  · refine xj_iload_n (n := 2) (i := 2) 1 rfl rfl dX9_readSum_66 ?_
                    exact xj_ireturn rfl nr_b0 (Nat.zero_le _) (Nat.zero_le _) dX9_readSum_67 (qI_e ⟨hrzg7, Or.inr ⟨rfl, jc, ((-(tkP b z j)) :: Ec), (flS_add R.1 htk Nc), hjc, (by simp only [List.length_append, List.length_cons]; omega), Tzg7⟩⟩)
                  · exact absurd (by decide) zc16
            · refine xj_aload_n (n := 0) (i := 0) 2 rfl rfl dX9_readSum_28 ?_
              refine yj_getf (v := .int (tkP b z j)) fl_X9_34_9 (by omega) (fq_67 g1) (congrArg (fun z => some (Value.int z)) T1.2.2.2.2.1) dX9_readSum_29 ?_
              refine xj_bipush (v := 45) (by decide) dX9_readSum_32 ?_
              refine xj_icmp_ne (tgt := 66) (by decide) dX9_readSum_34 (fun zc34 => ?_) (fun zc34 => ?_)
              · refine xj_iload_n (n := 2) (i := 2) 1 rfl rfl dX9_readSum_66 ?_
                exact xj_ireturn rfl nr_b1 (Nat.zero_le _) (Nat.zero_le _) dX9_readSum_67 (qI_e ⟨hf, Or.inl ⟨rfl, j, D, ⟨R.1, R.2, zc25, zc34⟩, T1⟩⟩)
              · have htk : tkP b z j = 43 ∨ tkP b z j = 45 := Or.inr zc34
                have hnx := (nxP_b b hjz).2.2 (by rw [zc34]; decide)
                have hnz := (nxP_b b hjz).2.1
                refine xj_aload_n (n := 0) (i := 0) 2 rfl rfl dX9_readSum_37 ?_
                refine yj_getf (v := .int (tkP b z j)) fl_X9_34_9 (by omega) (fq_67 g1) (congrArg (fun z => some (Value.int z)) T1.2.2.2.2.1) dX9_readSum_38 ?_
                refine xj_istore (i := 4) (lv1 := [(4, .int (tkP b z j)), (3, .int (nI c)), (2, .int 1), (0, .ref 67), (1, .int (nI o))]) rfl (Nat.le_of_ble_eq_true rfl) dX9_readSum_41 ?_
                refine xj_aload_n (n := 0) (i := 0) 3 rfl rfl dX9_readSum_43 ?_
                refine xj_callV kv_X9_40 (c_X9_step l d n hn g1 b z hz T1.2.1 T1.1 (nxP b z j) (nxP_b b hjz).2.1 T1.2.2.2.1) (As := []) (st := []) (by omega) (fq_67 g1) (ci := 9) rfl rfl rfl rfl (xRm_of (by omega) (by decide) (by omega) (by omega)) (Nat.le_of_ble_eq_true rfl) dX9_readSum_44 (yk_v (kc := 0) (ks := 0) fun zg8 hzg8 => ?_)
                obtain ⟨hqzg8, h1zg8, h6zg8, h7zg8, h8zg8⟩ := hzg8
                have Tzg8 := T1.st hqzg8 h1zg8 h6zg8 h7zg8 h8zg8
                have hrzg8 := fr.tr hf hqzg8.fr
                refine xj_aload_n (n := 0) (i := 0) 3 rfl rfl dX9_readSum_47 ?_
                refine xj_iload_n (n := 1) (i := 1) 4 rfl rfl dX9_readSum_48 ?_
                have hlCc : ((D ++ C)).length ≤ (nxP b z j) := by simp only [List.length_append, List.length_cons]; omega
                refine xj_callV kv_X9_79 (gT d n hn zg8 z b (nxP b z j) (D ++ C) hz (nxP_b b hjz).2.1 hlCc Tzg8) (As := [.int (nI o)]) (st := []) (by omega) (fq_67 zg8) (ci := 9) rfl rfl rfl rfl (xRm_of (by omega) (by decide) (by omega) (by omega)) (Nat.le_of_ble_eq_true rfl) dX9_readSum_49 (yk_i (kc := 0) (ks := 0) fun zv9 zg10 hzg10 => ?_)
                obtain ⟨hfc, hcc⟩ := hzg10
                rcases hcc with ⟨rfl, jc, Dc, Rc, Tc⟩ | ⟨rfl, jc, Ec, Nc, hjc, hEc, Tc⟩
                · have hRc := Rc.1
                  have hLc := hRc.1.2.2.1
                  have hJc := hRc.1.1
                  have hZc := hRc.1.2.1
                  refine xj_istore_n (n := 2) (i := 2) (lv1 := [(2, .int 1), (4, .int (tkP b z j)), (3, .int (nI c)), (0, .ref 67), (1, .int (nI o))]) rfl rfl (Nat.le_of_ble_eq_true rfl) dX9_readSum_52 ?_
                  refine xj_aload_n (n := 0) (i := 0) 3 rfl rfl dX9_readSum_53 ?_
                  refine xj_iload (i := 4) 1 rfl dX9_readSum_54 ?_
                  refine xj_ineg dX9_readSum_56 ?_
                  refine xj_callV kv_X9_69 (c_X9_write l d n hn zg10 (Dc ++ (D ++ C)).length (by simp only [List.length_append, List.length_cons]; omega) (-(tkP b z j)) Tc.2.2.2.2.2.2.1) (As := [.int (-(tkP b z j))]) (st := []) (by omega) (fq_67 zg10) (ci := 9) rfl rfl rfl rfl (xRm_of (by omega) (by decide) (by omega) (by omega)) (Nat.le_of_ble_eq_true rfl) dX9_readSum_57 (yk_v (kc := 0) (ks := 0) fun zg11 hzg11 => ?_)
                  have Tzg11 : tpA zg11 z b jc ((-(tkP b z j)) :: (Dc ++ (D ++ C))) := by rw [hzg11]; exact Tc.wr _
                  have hrzg11 := fr.tr (fr.tr hrzg8 hfc) (show fr (fun j => j = 67 ∨ j = 69) zg10 zg11 from by rw [hzg11]; exact (fr.rf.gs (Or.inr rfl) _ _).gs (Or.inl rfl) _ _)
                  refine xj_iinc (n := 1) (i := 3) (v := nI (c + 1)) (lv1 := [(3, .int (nI (c + 1))), (2, .int 1), (4, .int (tkP b z j)), (0, .ref 67), (1, .int (nI o))]) 2 rfl (nI_1 c) rfl (Nat.le_of_ble_eq_true rfl) dX9_readSum_60 ?_
                  refine xj_goto (tgt := 8) (by decide) dX9_readSum_63 ?_
                  refine xj_sub (lv' := [(3, .int (nI (c + 1))), (2, .int 1), (0, .ref 67), (1, .int (nI o))]) [0, 1, 3, 4] rfl ?_
                  exact ihm (z - jc) (by omega) (c + 1) jc (-tkP b z j :: (Dc ++ D)) zg11 (Nat.le_refl _) (by omega) (⟨rlS_add R.1 htk Rc.1, Rc.2⟩) hrzg11 (by rw [show (-tkP b z j :: (Dc ++ D)) ++ C = -tkP b z j :: (Dc ++ (D ++ C)) from by simp]; exact Tzg11)
                · simp only [List.length_append] at hEc
                  refine xj_istore_n (n := 2) (i := 2) (lv1 := [(2, .int 0), (4, .int (tkP b z j)), (3, .int (nI c)), (0, .ref 67), (1, .int (nI o))]) rfl rfl (Nat.le_of_ble_eq_true rfl) dX9_readSum_52 ?_
                  refine xj_aload_n (n := 0) (i := 0) 3 rfl rfl dX9_readSum_53 ?_
                  refine xj_iload (i := 4) 1 rfl dX9_readSum_54 ?_
                  refine xj_ineg dX9_readSum_56 ?_
                  refine xj_callV kv_X9_69 (c_X9_write l d n hn zg10 Ec.length (by omega) (-(tkP b z j)) Tc.2.2.2.2.2.2.1) (As := [.int (-(tkP b z j))]) (st := []) (by omega) (fq_67 zg10) (ci := 9) rfl rfl rfl rfl (xRm_of (by omega) (by decide) (by omega) (by omega)) (Nat.le_of_ble_eq_true rfl) dX9_readSum_57 (yk_v (kc := 0) (ks := 0) fun zg12 hzg12 => ?_)
                  have Tzg12 : tpA zg12 z b jc ((-(tkP b z j)) :: Ec) := by rw [hzg12]; exact Tc.wr _
                  have hrzg12 := fr.tr (fr.tr hrzg8 hfc) (show fr (fun j => j = 67 ∨ j = 69) zg10 zg12 from by rw [hzg12]; exact (fr.rf.gs (Or.inr rfl) _ _).gs (Or.inl rfl) _ _)
                  refine xj_iinc (n := 1) (i := 3) (v := nI (c + 1)) (lv1 := [(3, .int (nI (c + 1))), (2, .int 0), (4, .int (tkP b z j)), (0, .ref 67), (1, .int (nI o))]) 2 rfl (nI_1 c) rfl (Nat.le_of_ble_eq_true rfl) dX9_readSum_60 ?_
                  refine xj_goto (tgt := 8) (by decide) dX9_readSum_63 ?_
                  refine xj_iload_n (n := 3) (i := 3) 0 rfl rfl dX9_readSum_8 ?_
                  refine xj_sipush (v := 160) (by decide) dX9_readSum_9 ?_
                  refine xj_icmp_ge (tgt := 66) (by decide) dX9_readSum_12 (fun zc12 => ?_) (fun zc12 => ?_)
                  · refine xj_iload_n (n := 2) (i := 2) 1 rfl rfl dX9_readSum_66 ?_
                    exact xj_ireturn rfl nr_b0 (Nat.zero_le _) (Nat.zero_le _) dX9_readSum_67 (qI_e ⟨hrzg12, Or.inr ⟨rfl, jc, ((-(tkP b z j)) :: Ec), (flS_add R.1 htk Nc), hjc, (by simp only [List.length_append, List.length_cons]; omega), Tzg12⟩⟩)
                  · refine xj_iload_n (n := 2) (i := 2) 1 rfl rfl dX9_readSum_15 ?_
                    refine xj_if_eq (tgt := 66) (by decide) dX9_readSum_16 (fun zc16 => ?_) (fun zc16 => ?_)
                    · refine xj_iload_n (n := 2) (i := 2) 1 rfl rfl dX9_readSum_66 ?_
                      exact xj_ireturn rfl nr_b0 (Nat.zero_le _) (Nat.zero_le _) dX9_readSum_67 (qI_e ⟨hrzg12, Or.inr ⟨rfl, jc, ((-(tkP b z j)) :: Ec), (flS_add R.1 htk Nc), hjc, (by simp only [List.length_append, List.length_cons]; omega), Tzg12⟩⟩)
                    · exact absurd (by decide) zc16
    refine xj_sub (lv' := [(3, .int 0), (2, .int 1), (0, .ref 67), (1, .int (nI o))]) [0, 1, 2, 3] rfl ?_
    exact key (z - ja) 0 ja Da zg2 (Nat.le_refl _) (by omega) (⟨rlS_up Ra.1, Ra.2⟩) (fr.tr fr.rf hfa) Ta
  · skip
    refine xj_istore_n (n := 2) (i := 2) (lv1 := [(2, .int 0), (0, .ref 67), (1, .int (nI o))]) rfl rfl (Nat.le_of_ble_eq_true rfl) dX9_readSum_5 ?_
    refine xj_iconst (v := 0) (by decide) dX9_readSum_6 ?_
    refine xj_istore_n (n := 3) (i := 3) (lv1 := [(3, .int 0), (2, .int 0), (0, .ref 67), (1, .int (nI o))]) rfl rfl (Nat.le_of_ble_eq_true rfl) dX9_readSum_7 ?_
    refine xj_iload_n (n := 3) (i := 3) 0 rfl rfl dX9_readSum_8 ?_
    refine xj_sipush (v := 160) (by decide) dX9_readSum_9 ?_
    refine xj_icmp_ge (tgt := 66) (by decide) dX9_readSum_12 (fun zc12 => ?_) (fun zc12 => ?_)
    · exact absurd zc12 (by decide)
    · refine xj_iload_n (n := 2) (i := 2) 1 rfl rfl dX9_readSum_15 ?_
      refine xj_if_eq (tgt := 66) (by decide) dX9_readSum_16 (fun zc16 => ?_) (fun zc16 => ?_)
      · refine xj_iload_n (n := 2) (i := 2) 1 rfl rfl dX9_readSum_66 ?_
        exact xj_ireturn rfl nr_b0 (Nat.zero_le _) (Nat.zero_le _) dX9_readSum_67 (qI_e ⟨(fr.tr fr.rf hfa), Or.inr ⟨rfl, ja, Ea, (flS_up Na), hja, (by omega), Ta⟩⟩)
      · exact absurd (by decide) zc16
set_option maxHeartbeats 4000000 in
set_option maxRecDepth 100000 in
theorem c_X9_readBoth (l : Launch) (d : Nat) (n : Nat) (hn : 110 ≤ n) (g : xG) (k o : Nat) (ho : o + k = 5) (gN : gPr l yX9_readNot cX9_readNot 4 (8 * k + 11) o (okN o) (noN o)) (z : Nat) (b : Nat → Int32) (i : Nat) (C : List Int32) (hz : z ≤ 160) (hi : i ≤ z) (hC : C.length ≤ i) (Tp : tpA g z b i C)  : xC l yX9_readBoth cX9_readBoth 4 (some .boolean) (xR (d + (8 * k + 12)) 0 0) [.ref 67, .int (nI o)] (n, fh g) (rPo n g z b i C (okB o b z i) (noB o b z i)) := by
  refine xC_of false (by decide +kernel) (fun z => by cases z) (Nat.le_of_ble_eq_true rfl) ?_
  show xJ l (RX9, 4, (some .boolean), false, (xR (d + (8 * k + 12)) 0 0), none) cX9_readBoth _ 0 0 0 [(0, .ref 67), (1, .int (nI o))] [] (n, fh g)
  refine xj_aload_n (n := 0) (i := 0) 0 rfl rfl dX9_readBoth_0 ?_
  refine xj_iload_n (n := 1) (i := 1) 1 rfl rfl dX9_readBoth_1 ?_
  have hlCa : (C).length ≤ i := by omega
  refine xj_callV kv_X9_73 (gN d n hn g z b i C hz hi hlCa Tp) (As := [.int (nI o)]) (st := []) (by omega) (fq_67 g) (ci := 9) rfl rfl rfl rfl (xRm_of (by omega) (by decide) (by omega) (by omega)) (Nat.le_of_ble_eq_true rfl) dX9_readBoth_2 (yk_i (kc := 0) (ks := 0) fun zv1 zg2 hzg2 => ?_)
  obtain ⟨hfa, hca⟩ := hzg2
  rcases hca with ⟨rfl, ja, Da, Ra, Ta⟩ | ⟨rfl, ja, Ea, Na, hja, hEa, Ta⟩
  · have hRa := Ra.1
    have hLa := hRa.1.2.2.1
    have hJa := hRa.1.1
    have hZa := hRa.1.2.1
    refine xj_istore_n (n := 2) (i := 2) (lv1 := [(2, .int 1), (0, .ref 67), (1, .int (nI o))]) rfl rfl (Nat.le_of_ble_eq_true rfl) dX9_readBoth_5 ?_
    refine xj_iconst (v := 0) (by decide) dX9_readBoth_6 ?_
    refine xj_istore_n (n := 3) (i := 3) (lv1 := [(3, .int 0), (2, .int 1), (0, .ref 67), (1, .int (nI o))]) rfl rfl (Nat.le_of_ble_eq_true rfl) dX9_readBoth_7 ?_
    have key : ∀ (m c j : Nat) (D : List Int32) (g1 : xG), z - j ≤ m → c < j → (rlE b z 2 2 1 o i j D ∧ noS (tkP b z j)) → fr (fun j => j = 67 ∨ j = 69) g g1 → tpA g1 z b j (D ++ C) → xJ l (RX9, 4, (some .boolean), false, (xR (d + (8 * k + 12)) 0 0), none) cX9_readBoth (rPo n g z b i C (okB o b z i) (noB o b z i)) 0 0 8 [(3, .int (nI c)), (2, .int 1), (0, .ref 67), (1, .int (nI o))] [] (n, fh g1) := by
      intro m
      induction m using Nat.strongRecOn with
      | ind m ihm =>
        intro c j D g1 hm hcj R hf T1
        have hR1 := R.1
        have hL1 := hR1.1.2.2.1
        have hJ1 := hR1.1.1
        have hZ1 := hR1.1.2.1
        have hjz := hR1.1.2.1
        have hjL := hR1.1.2.2.1
        have hji := hR1.1.1
        refine xj_iload_n (n := 3) (i := 3) 0 rfl rfl dX9_readBoth_8 ?_
        refine xj_sipush (v := 160) (by decide) dX9_readBoth_9 ?_
        refine xj_icmp_ge (tgt := 52) (by decide) dX9_readBoth_12 (fun zc12 => ?_) (fun zc12 => ?_)
        · exact absurd zc12 (nI_ge (a := c) (b := 160) (by omega) (by decide))
        · refine xj_iload_n (n := 2) (i := 2) 1 rfl rfl dX9_readBoth_15 ?_
          refine xj_if_eq (tgt := 52) (by decide) dX9_readBoth_16 (fun zc16 => ?_) (fun zc16 => ?_)
          · exact absurd zc16 (by decide)
          · refine xj_aload_n (n := 0) (i := 0) 2 rfl rfl dX9_readBoth_19 ?_
            refine yj_getf (v := .int (tkP b z j)) fl_X9_34_9 (by omega) (fq_67 g1) (congrArg (fun z => some (Value.int z)) T1.2.2.2.2.1) dX9_readBoth_20 ?_
            refine xj_sipush (v := 260) (by decide) dX9_readBoth_23 ?_
            refine xj_icmp_ne (tgt := 52) (by decide) dX9_readBoth_26 (fun zc26 => ?_) (fun zc26 => ?_)
            · refine xj_iload_n (n := 2) (i := 2) 1 rfl rfl dX9_readBoth_52 ?_
              exact xj_ireturn rfl nr_b1 (Nat.zero_le _) (Nat.zero_le _) dX9_readBoth_53 (qI_e ⟨hf, Or.inl ⟨rfl, j, D, ⟨R.1, R.2, zc26⟩, T1⟩⟩)
            · have hnx := (nxP_b b hjz).2.2 (by rw [zc26]; decide)
              have hnz := (nxP_b b hjz).2.1
              refine xj_aload_n (n := 0) (i := 0) 2 rfl rfl dX9_readBoth_29 ?_
              refine xj_callV kv_X9_40 (c_X9_step l d n hn g1 b z hz T1.2.1 T1.1 (nxP b z j) (nxP_b b hjz).2.1 T1.2.2.2.1) (As := []) (st := []) (by omega) (fq_67 g1) (ci := 9) rfl rfl rfl rfl (xRm_of (by omega) (by decide) (by omega) (by omega)) (Nat.le_of_ble_eq_true rfl) dX9_readBoth_30 (yk_v (kc := 0) (ks := 0) fun zg3 hzg3 => ?_)
              obtain ⟨hqzg3, h1zg3, h6zg3, h7zg3, h8zg3⟩ := hzg3
              have Tzg3 := T1.st hqzg3 h1zg3 h6zg3 h7zg3 h8zg3
              have hrzg3 := fr.tr hf hqzg3.fr
              refine xj_aload_n (n := 0) (i := 0) 2 rfl rfl dX9_readBoth_33 ?_
              refine xj_iload_n (n := 1) (i := 1) 3 rfl rfl dX9_readBoth_34 ?_
              have hlCc : ((D ++ C)).length ≤ (nxP b z j) := by simp only [List.length_append, List.length_cons]; omega
              refine xj_callV kv_X9_73 (gN d n hn zg3 z b (nxP b z j) (D ++ C) hz (nxP_b b hjz).2.1 hlCc Tzg3) (As := [.int (nI o)]) (st := []) (by omega) (fq_67 zg3) (ci := 9) rfl rfl rfl rfl (xRm_of (by omega) (by decide) (by omega) (by omega)) (Nat.le_of_ble_eq_true rfl) dX9_readBoth_35 (yk_i (kc := 0) (ks := 0) fun zv4 zg5 hzg5 => ?_)
              obtain ⟨hfc, hcc⟩ := hzg5
              rcases hcc with ⟨rfl, jc, Dc, Rc, Tc⟩ | ⟨rfl, jc, Ec, Nc, hjc, hEc, Tc⟩
              · have hRc := Rc.1
                have hLc := hRc.1.2.2.1
                have hJc := hRc.1.1
                have hZc := hRc.1.2.1
                refine xj_istore_n (n := 2) (i := 2) (lv1 := [(2, .int 1), (3, .int (nI c)), (0, .ref 67), (1, .int (nI o))]) rfl rfl (Nat.le_of_ble_eq_true rfl) dX9_readBoth_38 ?_
                refine xj_aload_n (n := 0) (i := 0) 2 rfl rfl dX9_readBoth_39 ?_
                refine xj_sipush (v := (-260)) (by decide) dX9_readBoth_40 ?_
                refine xj_callV kv_X9_69 (c_X9_write l d n hn zg5 (Dc ++ (D ++ C)).length (by simp only [List.length_append, List.length_cons]; omega) (-260) Tc.2.2.2.2.2.2.1) (As := [.int (-260)]) (st := []) (by omega) (fq_67 zg5) (ci := 9) rfl rfl rfl rfl (xRm_of (by omega) (by decide) (by omega) (by omega)) (Nat.le_of_ble_eq_true rfl) dX9_readBoth_43 (yk_v (kc := 0) (ks := 0) fun zg6 hzg6 => ?_)
                have Tzg6 : tpA zg6 z b jc ((-260) :: (Dc ++ (D ++ C))) := by rw [hzg6]; exact Tc.wr _
                have hrzg6 := fr.tr (fr.tr hrzg3 hfc) (show fr (fun j => j = 67 ∨ j = 69) zg5 zg6 from by rw [hzg6]; exact (fr.rf.gs (Or.inr rfl) _ _).gs (Or.inl rfl) _ _)
                refine xj_iinc (n := 1) (i := 3) (v := nI (c + 1)) (lv1 := [(3, .int (nI (c + 1))), (2, .int 1), (0, .ref 67), (1, .int (nI o))]) 1 rfl (nI_1 c) rfl (Nat.le_of_ble_eq_true rfl) dX9_readBoth_46 ?_
                refine xj_goto (tgt := 8) (by decide) dX9_readBoth_49 ?_
                refine xj_sub (lv' := [(3, .int (nI (c + 1))), (2, .int 1), (0, .ref 67), (1, .int (nI o))]) [0, 1, 2, 3] rfl ?_
                exact ihm (z - jc) (by omega) (c + 1) jc (-260 :: (Dc ++ D)) zg6 (Nat.le_refl _) (by omega) (⟨rlE_bin (Or.inl ⟨rfl, rfl, rfl, rfl, rfl⟩) R.1 zc26 Rc.1, Rc.2⟩) hrzg6 (by rw [show (-260 :: (Dc ++ D)) ++ C = -260 :: (Dc ++ (D ++ C)) from by simp]; exact Tzg6)
              · simp only [List.length_append] at hEc
                refine xj_istore_n (n := 2) (i := 2) (lv1 := [(2, .int 0), (3, .int (nI c)), (0, .ref 67), (1, .int (nI o))]) rfl rfl (Nat.le_of_ble_eq_true rfl) dX9_readBoth_38 ?_
                refine xj_aload_n (n := 0) (i := 0) 2 rfl rfl dX9_readBoth_39 ?_
                refine xj_sipush (v := (-260)) (by decide) dX9_readBoth_40 ?_
                refine xj_callV kv_X9_69 (c_X9_write l d n hn zg5 Ec.length (by omega) (-260) Tc.2.2.2.2.2.2.1) (As := [.int (-260)]) (st := []) (by omega) (fq_67 zg5) (ci := 9) rfl rfl rfl rfl (xRm_of (by omega) (by decide) (by omega) (by omega)) (Nat.le_of_ble_eq_true rfl) dX9_readBoth_43 (yk_v (kc := 0) (ks := 0) fun zg7 hzg7 => ?_)
                have Tzg7 : tpA zg7 z b jc ((-260) :: Ec) := by rw [hzg7]; exact Tc.wr _
                have hrzg7 := fr.tr (fr.tr hrzg3 hfc) (show fr (fun j => j = 67 ∨ j = 69) zg5 zg7 from by rw [hzg7]; exact (fr.rf.gs (Or.inr rfl) _ _).gs (Or.inl rfl) _ _)
                refine xj_iinc (n := 1) (i := 3) (v := nI (c + 1)) (lv1 := [(3, .int (nI (c + 1))), (2, .int 0), (0, .ref 67), (1, .int (nI o))]) 1 rfl (nI_1 c) rfl (Nat.le_of_ble_eq_true rfl) dX9_readBoth_46 ?_
                refine xj_goto (tgt := 8) (by decide) dX9_readBoth_49 ?_
                refine xj_iload_n (n := 3) (i := 3) 0 rfl rfl dX9_readBoth_8 ?_
                refine xj_sipush (v := 160) (by decide) dX9_readBoth_9 ?_
                refine xj_icmp_ge (tgt := 52) (by decide) dX9_readBoth_12 (fun zc12 => ?_) (fun zc12 => ?_)
                · refine xj_iload_n (n := 2) (i := 2) 1 rfl rfl dX9_readBoth_52 ?_
                  exact xj_ireturn rfl nr_b0 (Nat.zero_le _) (Nat.zero_le _) dX9_readBoth_53 (qI_e ⟨hrzg7, Or.inr ⟨rfl, jc, ((-260) :: Ec), (flE_bin (Or.inl ⟨rfl, rfl, rfl, rfl, rfl⟩) R.1 zc26 Nc), hjc, (by simp only [List.length_append, List.length_cons]; omega), Tzg7⟩⟩)
                · refine xj_iload_n (n := 2) (i := 2) 1 rfl rfl dX9_readBoth_15 ?_
                  refine xj_if_eq (tgt := 52) (by decide) dX9_readBoth_16 (fun zc16 => ?_) (fun zc16 => ?_)
                  · refine xj_iload_n (n := 2) (i := 2) 1 rfl rfl dX9_readBoth_52 ?_
                    exact xj_ireturn rfl nr_b0 (Nat.zero_le _) (Nat.zero_le _) dX9_readBoth_53 (qI_e ⟨hrzg7, Or.inr ⟨rfl, jc, ((-260) :: Ec), (flE_bin (Or.inl ⟨rfl, rfl, rfl, rfl, rfl⟩) R.1 zc26 Nc), hjc, (by simp only [List.length_append, List.length_cons]; omega), Tzg7⟩⟩)
                  · exact absurd (by decide) zc16
    refine xj_sub (lv' := [(3, .int 0), (2, .int 1), (0, .ref 67), (1, .int (nI o))]) [0, 1, 2, 3] rfl ?_
    exact key (z - ja) 0 ja Da zg2 (Nat.le_refl _) (by omega) (⟨rlE_up Ra.1 (by decide) (by decide) (by decide), Ra.2⟩) (fr.tr fr.rf hfa) Ta
  · skip
    refine xj_istore_n (n := 2) (i := 2) (lv1 := [(2, .int 0), (0, .ref 67), (1, .int (nI o))]) rfl rfl (Nat.le_of_ble_eq_true rfl) dX9_readBoth_5 ?_
    refine xj_iconst (v := 0) (by decide) dX9_readBoth_6 ?_
    refine xj_istore_n (n := 3) (i := 3) (lv1 := [(3, .int 0), (2, .int 0), (0, .ref 67), (1, .int (nI o))]) rfl rfl (Nat.le_of_ble_eq_true rfl) dX9_readBoth_7 ?_
    refine xj_iload_n (n := 3) (i := 3) 0 rfl rfl dX9_readBoth_8 ?_
    refine xj_sipush (v := 160) (by decide) dX9_readBoth_9 ?_
    refine xj_icmp_ge (tgt := 52) (by decide) dX9_readBoth_12 (fun zc12 => ?_) (fun zc12 => ?_)
    · exact absurd zc12 (by decide)
    · refine xj_iload_n (n := 2) (i := 2) 1 rfl rfl dX9_readBoth_15 ?_
      refine xj_if_eq (tgt := 52) (by decide) dX9_readBoth_16 (fun zc16 => ?_) (fun zc16 => ?_)
      · refine xj_iload_n (n := 2) (i := 2) 1 rfl rfl dX9_readBoth_52 ?_
        exact xj_ireturn rfl nr_b0 (Nat.zero_le _) (Nat.zero_le _) dX9_readBoth_53 (qI_e ⟨(fr.tr fr.rf hfa), Or.inr ⟨rfl, ja, Ea, (flE_up Na (by decide)), hja, (by omega), Ta⟩⟩)
      · exact absurd (by decide) zc16
set_option maxHeartbeats 4000000 in
set_option maxRecDepth 100000 in
theorem c_X9_readEither (l : Launch) (d : Nat) (n : Nat) (hn : 110 ≤ n) (g : xG) (k o : Nat) (ho : o + k = 5) (gB : gPr l yX9_readBoth cX9_readBoth 4 (8 * k + 12) o (okB o) (noB o)) (z : Nat) (b : Nat → Int32) (i : Nat) (C : List Int32) (hz : z ≤ 160) (hi : i ≤ z) (hC : C.length ≤ i) (Tp : tpA g z b i C)  : xC l yX9_readEither cX9_readEither 4 (some .boolean) (xR (d + (8 * k + 13)) 0 0) [.ref 67, .int (nI o)] (n, fh g) (rPo n g z b i C (okE o b z i) (noE o b z i)) := by
  refine xC_of false (by decide +kernel) (fun z => by cases z) (Nat.le_of_ble_eq_true rfl) ?_
  show xJ l (RX9, 4, (some .boolean), false, (xR (d + (8 * k + 13)) 0 0), none) cX9_readEither _ 0 0 0 [(0, .ref 67), (1, .int (nI o))] [] (n, fh g)
  refine xj_aload_n (n := 0) (i := 0) 0 rfl rfl dX9_readEither_0 ?_
  refine xj_iload_n (n := 1) (i := 1) 1 rfl rfl dX9_readEither_1 ?_
  have hlCa : (C).length ≤ i := by omega
  refine xj_callV kv_X9_66 (gB d n hn g z b i C hz hi hlCa Tp) (As := [.int (nI o)]) (st := []) (by omega) (fq_67 g) (ci := 9) rfl rfl rfl rfl (xRm_of (by omega) (by decide) (by omega) (by omega)) (Nat.le_of_ble_eq_true rfl) dX9_readEither_2 (yk_i (kc := 0) (ks := 0) fun zv1 zg2 hzg2 => ?_)
  obtain ⟨hfa, hca⟩ := hzg2
  rcases hca with ⟨rfl, ja, Da, Ra, Ta⟩ | ⟨rfl, ja, Ea, Na, hja, hEa, Ta⟩
  · have hRa := Ra.1
    have hLa := hRa.1.2.2.1
    have hJa := hRa.1.1
    have hZa := hRa.1.2.1
    refine xj_istore_n (n := 2) (i := 2) (lv1 := [(2, .int 1), (0, .ref 67), (1, .int (nI o))]) rfl rfl (Nat.le_of_ble_eq_true rfl) dX9_readEither_5 ?_
    refine xj_iconst (v := 0) (by decide) dX9_readEither_6 ?_
    refine xj_istore_n (n := 3) (i := 3) (lv1 := [(3, .int 0), (2, .int 1), (0, .ref 67), (1, .int (nI o))]) rfl rfl (Nat.le_of_ble_eq_true rfl) dX9_readEither_7 ?_
    have key : ∀ (m c j : Nat) (D : List Int32) (g1 : xG), z - j ≤ m → c < j → (rlE b z 1 1 0 o i j D ∧ noS (tkP b z j) ∧ ¬ tkP b z j = 260) → fr (fun j => j = 67 ∨ j = 69) g g1 → tpA g1 z b j (D ++ C) → xJ l (RX9, 4, (some .boolean), false, (xR (d + (8 * k + 13)) 0 0), none) cX9_readEither (rPo n g z b i C (okE o b z i) (noE o b z i)) 0 0 8 [(3, .int (nI c)), (2, .int 1), (0, .ref 67), (1, .int (nI o))] [] (n, fh g1) := by
      intro m
      induction m using Nat.strongRecOn with
      | ind m ihm =>
        intro c j D g1 hm hcj R hf T1
        have hR1 := R.1
        have hL1 := hR1.1.2.2.1
        have hJ1 := hR1.1.1
        have hZ1 := hR1.1.2.1
        have hjz := hR1.1.2.1
        have hjL := hR1.1.2.2.1
        have hji := hR1.1.1
        refine xj_iload_n (n := 3) (i := 3) 0 rfl rfl dX9_readEither_8 ?_
        refine xj_sipush (v := 160) (by decide) dX9_readEither_9 ?_
        refine xj_icmp_ge (tgt := 52) (by decide) dX9_readEither_12 (fun zc12 => ?_) (fun zc12 => ?_)
        · exact absurd zc12 (nI_ge (a := c) (b := 160) (by omega) (by decide))
        · refine xj_iload_n (n := 2) (i := 2) 1 rfl rfl dX9_readEither_15 ?_
          refine xj_if_eq (tgt := 52) (by decide) dX9_readEither_16 (fun zc16 => ?_) (fun zc16 => ?_)
          · exact absurd zc16 (by decide)
          · refine xj_aload_n (n := 0) (i := 0) 2 rfl rfl dX9_readEither_19 ?_
            refine yj_getf (v := .int (tkP b z j)) fl_X9_34_9 (by omega) (fq_67 g1) (congrArg (fun z => some (Value.int z)) T1.2.2.2.2.1) dX9_readEither_20 ?_
            refine xj_sipush (v := 259) (by decide) dX9_readEither_23 ?_
            refine xj_icmp_ne (tgt := 52) (by decide) dX9_readEither_26 (fun zc26 => ?_) (fun zc26 => ?_)
            · refine xj_iload_n (n := 2) (i := 2) 1 rfl rfl dX9_readEither_52 ?_
              exact xj_ireturn rfl nr_b1 (Nat.zero_le _) (Nat.zero_le _) dX9_readEither_53 (qI_e ⟨hf, Or.inl ⟨rfl, j, D, ⟨R.1, R.2.1, R.2.2, zc26⟩, T1⟩⟩)
            · have hnx := (nxP_b b hjz).2.2 (by rw [zc26]; decide)
              have hnz := (nxP_b b hjz).2.1
              refine xj_aload_n (n := 0) (i := 0) 2 rfl rfl dX9_readEither_29 ?_
              refine xj_callV kv_X9_40 (c_X9_step l d n hn g1 b z hz T1.2.1 T1.1 (nxP b z j) (nxP_b b hjz).2.1 T1.2.2.2.1) (As := []) (st := []) (by omega) (fq_67 g1) (ci := 9) rfl rfl rfl rfl (xRm_of (by omega) (by decide) (by omega) (by omega)) (Nat.le_of_ble_eq_true rfl) dX9_readEither_30 (yk_v (kc := 0) (ks := 0) fun zg3 hzg3 => ?_)
              obtain ⟨hqzg3, h1zg3, h6zg3, h7zg3, h8zg3⟩ := hzg3
              have Tzg3 := T1.st hqzg3 h1zg3 h6zg3 h7zg3 h8zg3
              have hrzg3 := fr.tr hf hqzg3.fr
              refine xj_aload_n (n := 0) (i := 0) 2 rfl rfl dX9_readEither_33 ?_
              refine xj_iload_n (n := 1) (i := 1) 3 rfl rfl dX9_readEither_34 ?_
              have hlCc : ((D ++ C)).length ≤ (nxP b z j) := by simp only [List.length_append, List.length_cons]; omega
              refine xj_callV kv_X9_66 (gB d n hn zg3 z b (nxP b z j) (D ++ C) hz (nxP_b b hjz).2.1 hlCc Tzg3) (As := [.int (nI o)]) (st := []) (by omega) (fq_67 zg3) (ci := 9) rfl rfl rfl rfl (xRm_of (by omega) (by decide) (by omega) (by omega)) (Nat.le_of_ble_eq_true rfl) dX9_readEither_35 (yk_i (kc := 0) (ks := 0) fun zv4 zg5 hzg5 => ?_)
              obtain ⟨hfc, hcc⟩ := hzg5
              rcases hcc with ⟨rfl, jc, Dc, Rc, Tc⟩ | ⟨rfl, jc, Ec, Nc, hjc, hEc, Tc⟩
              · have hRc := Rc.1
                have hLc := hRc.1.2.2.1
                have hJc := hRc.1.1
                have hZc := hRc.1.2.1
                refine xj_istore_n (n := 2) (i := 2) (lv1 := [(2, .int 1), (3, .int (nI c)), (0, .ref 67), (1, .int (nI o))]) rfl rfl (Nat.le_of_ble_eq_true rfl) dX9_readEither_38 ?_
                refine xj_aload_n (n := 0) (i := 0) 2 rfl rfl dX9_readEither_39 ?_
                refine xj_sipush (v := (-259)) (by decide) dX9_readEither_40 ?_
                refine xj_callV kv_X9_69 (c_X9_write l d n hn zg5 (Dc ++ (D ++ C)).length (by simp only [List.length_append, List.length_cons]; omega) (-259) Tc.2.2.2.2.2.2.1) (As := [.int (-259)]) (st := []) (by omega) (fq_67 zg5) (ci := 9) rfl rfl rfl rfl (xRm_of (by omega) (by decide) (by omega) (by omega)) (Nat.le_of_ble_eq_true rfl) dX9_readEither_43 (yk_v (kc := 0) (ks := 0) fun zg6 hzg6 => ?_)
                have Tzg6 : tpA zg6 z b jc ((-259) :: (Dc ++ (D ++ C))) := by rw [hzg6]; exact Tc.wr _
                have hrzg6 := fr.tr (fr.tr hrzg3 hfc) (show fr (fun j => j = 67 ∨ j = 69) zg5 zg6 from by rw [hzg6]; exact (fr.rf.gs (Or.inr rfl) _ _).gs (Or.inl rfl) _ _)
                refine xj_iinc (n := 1) (i := 3) (v := nI (c + 1)) (lv1 := [(3, .int (nI (c + 1))), (2, .int 1), (0, .ref 67), (1, .int (nI o))]) 1 rfl (nI_1 c) rfl (Nat.le_of_ble_eq_true rfl) dX9_readEither_46 ?_
                refine xj_goto (tgt := 8) (by decide) dX9_readEither_49 ?_
                refine xj_sub (lv' := [(3, .int (nI (c + 1))), (2, .int 1), (0, .ref 67), (1, .int (nI o))]) [0, 1, 2, 3] rfl ?_
                exact ihm (z - jc) (by omega) (c + 1) jc (-259 :: (Dc ++ D)) zg6 (Nat.le_refl _) (by omega) (⟨rlE_bin (Or.inr ⟨rfl, rfl, rfl, rfl, rfl⟩) R.1 zc26 Rc.1, Rc.2⟩) hrzg6 (by rw [show (-259 :: (Dc ++ D)) ++ C = -259 :: (Dc ++ (D ++ C)) from by simp]; exact Tzg6)
              · simp only [List.length_append] at hEc
                refine xj_istore_n (n := 2) (i := 2) (lv1 := [(2, .int 0), (3, .int (nI c)), (0, .ref 67), (1, .int (nI o))]) rfl rfl (Nat.le_of_ble_eq_true rfl) dX9_readEither_38 ?_
                refine xj_aload_n (n := 0) (i := 0) 2 rfl rfl dX9_readEither_39 ?_
                refine xj_sipush (v := (-259)) (by decide) dX9_readEither_40 ?_
                refine xj_callV kv_X9_69 (c_X9_write l d n hn zg5 Ec.length (by omega) (-259) Tc.2.2.2.2.2.2.1) (As := [.int (-259)]) (st := []) (by omega) (fq_67 zg5) (ci := 9) rfl rfl rfl rfl (xRm_of (by omega) (by decide) (by omega) (by omega)) (Nat.le_of_ble_eq_true rfl) dX9_readEither_43 (yk_v (kc := 0) (ks := 0) fun zg7 hzg7 => ?_)
                have Tzg7 : tpA zg7 z b jc ((-259) :: Ec) := by rw [hzg7]; exact Tc.wr _
                have hrzg7 := fr.tr (fr.tr hrzg3 hfc) (show fr (fun j => j = 67 ∨ j = 69) zg5 zg7 from by rw [hzg7]; exact (fr.rf.gs (Or.inr rfl) _ _).gs (Or.inl rfl) _ _)
                refine xj_iinc (n := 1) (i := 3) (v := nI (c + 1)) (lv1 := [(3, .int (nI (c + 1))), (2, .int 0), (0, .ref 67), (1, .int (nI o))]) 1 rfl (nI_1 c) rfl (Nat.le_of_ble_eq_true rfl) dX9_readEither_46 ?_
                refine xj_goto (tgt := 8) (by decide) dX9_readEither_49 ?_
                refine xj_iload_n (n := 3) (i := 3) 0 rfl rfl dX9_readEither_8 ?_
                refine xj_sipush (v := 160) (by decide) dX9_readEither_9 ?_
                refine xj_icmp_ge (tgt := 52) (by decide) dX9_readEither_12 (fun zc12 => ?_) (fun zc12 => ?_)
                · refine xj_iload_n (n := 2) (i := 2) 1 rfl rfl dX9_readEither_52 ?_
                  exact xj_ireturn rfl nr_b0 (Nat.zero_le _) (Nat.zero_le _) dX9_readEither_53 (qI_e ⟨hrzg7, Or.inr ⟨rfl, jc, ((-259) :: Ec), (flE_bin (Or.inr ⟨rfl, rfl, rfl, rfl, rfl⟩) R.1 zc26 Nc), hjc, (by simp only [List.length_append, List.length_cons]; omega), Tzg7⟩⟩)
                · refine xj_iload_n (n := 2) (i := 2) 1 rfl rfl dX9_readEither_15 ?_
                  refine xj_if_eq (tgt := 52) (by decide) dX9_readEither_16 (fun zc16 => ?_) (fun zc16 => ?_)
                  · refine xj_iload_n (n := 2) (i := 2) 1 rfl rfl dX9_readEither_52 ?_
                    exact xj_ireturn rfl nr_b0 (Nat.zero_le _) (Nat.zero_le _) dX9_readEither_53 (qI_e ⟨hrzg7, Or.inr ⟨rfl, jc, ((-259) :: Ec), (flE_bin (Or.inr ⟨rfl, rfl, rfl, rfl, rfl⟩) R.1 zc26 Nc), hjc, (by simp only [List.length_append, List.length_cons]; omega), Tzg7⟩⟩)
                  · exact absurd (by decide) zc16
    refine xj_sub (lv' := [(3, .int 0), (2, .int 1), (0, .ref 67), (1, .int (nI o))]) [0, 1, 2, 3] rfl ?_
    exact key (z - ja) 0 ja Da zg2 (Nat.le_refl _) (by omega) (⟨rlE_up Ra.1 (by decide) (by decide) (by decide), Ra.2⟩) (fr.tr fr.rf hfa) Ta
  · skip
    refine xj_istore_n (n := 2) (i := 2) (lv1 := [(2, .int 0), (0, .ref 67), (1, .int (nI o))]) rfl rfl (Nat.le_of_ble_eq_true rfl) dX9_readEither_5 ?_
    refine xj_iconst (v := 0) (by decide) dX9_readEither_6 ?_
    refine xj_istore_n (n := 3) (i := 3) (lv1 := [(3, .int 0), (2, .int 0), (0, .ref 67), (1, .int (nI o))]) rfl rfl (Nat.le_of_ble_eq_true rfl) dX9_readEither_7 ?_
    refine xj_iload_n (n := 3) (i := 3) 0 rfl rfl dX9_readEither_8 ?_
    refine xj_sipush (v := 160) (by decide) dX9_readEither_9 ?_
    refine xj_icmp_ge (tgt := 52) (by decide) dX9_readEither_12 (fun zc12 => ?_) (fun zc12 => ?_)
    · exact absurd zc12 (by decide)
    · refine xj_iload_n (n := 2) (i := 2) 1 rfl rfl dX9_readEither_15 ?_
      refine xj_if_eq (tgt := 52) (by decide) dX9_readEither_16 (fun zc16 => ?_) (fun zc16 => ?_)
      · refine xj_iload_n (n := 2) (i := 2) 1 rfl rfl dX9_readEither_52 ?_
        exact xj_ireturn rfl nr_b0 (Nat.zero_le _) (Nat.zero_le _) dX9_readEither_53 (qI_e ⟨(fr.tr fr.rf hfa), Or.inr ⟨rfl, ja, Ea, (flE_up Na (by decide)), hja, (by omega), Ta⟩⟩)
      · exact absurd (by decide) zc16
set_option maxHeartbeats 4000000 in
set_option maxRecDepth 100000 in
theorem c_X9_readNot (l : Launch) (d : Nat) (n : Nat) (hn : 110 ≤ n) (g : xG) (k o : Nat) (ho : o + k = 5) (gS : gPr l yX9_readSum cX9_readSum 5 (8 * k + 10) o (okS o) (noU o)) (ih : o < 5 → ∃ k1, k = k1 + 1 ∧ (gPr l yX9_readNot cX9_readNot 4 (8 * k1 + 11) (o + 1) (okN (o + 1)) (noN (o + 1)))) (z : Nat) (b : Nat → Int32) (i : Nat) (C : List Int32) (hz : z ≤ 160) (hi : i ≤ z) (hC : C.length ≤ i) (Tp : tpA g z b i C)  : xC l yX9_readNot cX9_readNot 4 (some .boolean) (xR (d + (8 * k + 11)) 0 0) [.ref 67, .int (nI o)] (n, fh g) (rPo n g z b i C (okN o b z i) (noN o b z i)) := by
  refine xC_of false (by decide +kernel) (fun z => by cases z) (Nat.le_of_ble_eq_true rfl) ?_
  show xJ l (RX9, 4, (some .boolean), false, (xR (d + (8 * k + 11)) 0 0), none) cX9_readNot _ 0 0 0 [(0, .ref 67), (1, .int (nI o))] [] (n, fh g)
  refine xj_aload_n (n := 0) (i := 0) 0 rfl rfl dX9_readNot_0 ?_
  refine yj_getf (v := .int (tkP b z i)) fl_X9_34_9 (by omega) (fq_67 g) (congrArg (fun z => some (Value.int z)) Tp.2.2.2.2.1) dX9_readNot_1 ?_
  refine xj_sipush (v := 261) (by decide) dX9_readNot_4 ?_
  refine xj_icmp_ne (tgt := 38) (by decide) dX9_readNot_7 (fun zc7 => ?_) (fun zc7 => ?_)
  · refine xj_aload_n (n := 0) (i := 0) 0 rfl rfl dX9_readNot_38 ?_
    refine xj_iload_n (n := 1) (i := 1) 1 rfl rfl dX9_readNot_39 ?_
    have hlCb : (C).length ≤ i := by omega
    refine xj_callV kv_X9_76 (gS d n hn g z b i C hz hi hlCb Tp) (As := [.int (nI o)]) (st := []) (by omega) (fq_67 g) (ci := 9) rfl rfl rfl rfl (xRm_of (by omega) (by decide) (by omega) (by omega)) (Nat.le_of_ble_eq_true rfl) dX9_readNot_40 (yk_i (kc := 0) (ks := 0) fun zv1 zg2 hzg2 => ?_)
    obtain ⟨hfb, hcb⟩ := hzg2
    rcases hcb with ⟨rfl, jb, Db, Rb, Tb⟩ | ⟨rfl, jb, Eb, Nb, hjb, hEb, Tb⟩
    · have hRb := Rb.1
      have hLb := hRb.1.2.2.1
      have hJb := hRb.1.1
      have hZb := hRb.1.2.1
      refine xj_istore_n (n := 2) (i := 2) (lv1 := [(2, .int 1), (0, .ref 67), (1, .int (nI o))]) rfl rfl (Nat.le_of_ble_eq_true rfl) dX9_readNot_43 ?_
      refine xj_iload_n (n := 2) (i := 2) 0 rfl rfl dX9_readNot_44 ?_
      refine xj_if_eq (tgt := 87) (by decide) dX9_readNot_45 (fun zc45 => ?_) (fun zc45 => ?_)
      · exact absurd zc45 (by decide)
      · refine xj_aload_n (n := 0) (i := 0) 1 rfl rfl dX9_readNot_48 ?_
        refine yj_getf (v := .int (tkP b z jb)) fl_X9_34_9 (by omega) (fq_67 zg2) (congrArg (fun z => some (Value.int z)) Tb.2.2.2.2.1) dX9_readNot_49 ?_
        refine xj_bipush (v := 60) (by decide) dX9_readNot_52 ?_
        refine xj_icmp_eq (tgt := 66) (by decide) dX9_readNot_54 (fun zc54 => ?_) (fun zc54 => ?_)
        · have htk : tkP b z jb = 60 ∨ tkP b z jb = 61 := Or.inl zc54
          have hnxb := (nxP_b b hRb.1.2.1).2.2 (rk_cm htk).2.2.1
          have hnzb := (nxP_b b hRb.1.2.1).2.1
          refine xj_aload_n (n := 0) (i := 0) 1 rfl rfl dX9_readNot_66 ?_
          refine yj_getf (v := .int (tkP b z jb)) fl_X9_34_9 (by omega) (fq_67 zg2) (congrArg (fun z => some (Value.int z)) Tb.2.2.2.2.1) dX9_readNot_67 ?_
          refine xj_istore_n (n := 3) (i := 3) (lv1 := [(3, .int (tkP b z jb)), (2, .int 1), (0, .ref 67), (1, .int (nI o))]) rfl rfl (Nat.le_of_ble_eq_true rfl) dX9_readNot_70 ?_
          refine xj_aload_n (n := 0) (i := 0) 2 rfl rfl dX9_readNot_71 ?_
          refine xj_callV kv_X9_40 (c_X9_step l d n hn zg2 b z hz Tb.2.1 Tb.1 (nxP b z jb) (nxP_b b hRb.1.2.1).2.1 Tb.2.2.2.1) (As := []) (st := []) (by omega) (fq_67 zg2) (ci := 9) rfl rfl rfl rfl (xRm_of (by omega) (by decide) (by omega) (by omega)) (Nat.le_of_ble_eq_true rfl) dX9_readNot_72 (yk_v (kc := 0) (ks := 0) fun zg3 hzg3 => ?_)
          obtain ⟨hqzg3, h1zg3, h6zg3, h7zg3, h8zg3⟩ := hzg3
          have Tzg3 := Tb.st hqzg3 h1zg3 h6zg3 h7zg3 h8zg3
          have hrzg3 := fr.tr (fr.tr fr.rf hfb) hqzg3.fr
          refine xj_aload_n (n := 0) (i := 0) 2 rfl rfl dX9_readNot_75 ?_
          refine xj_iload_n (n := 1) (i := 1) 3 rfl rfl dX9_readNot_76 ?_
          have hlCc : ((Db ++ C)).length ≤ (nxP b z jb) := by simp only [List.length_append, List.length_cons]; omega
          refine xj_callV kv_X9_76 (gS d n hn zg3 z b (nxP b z jb) (Db ++ C) hz (nxP_b b hRb.1.2.1).2.1 hlCc Tzg3) (As := [.int (nI o)]) (st := []) (by omega) (fq_67 zg3) (ci := 9) rfl rfl rfl rfl (xRm_of (by omega) (by decide) (by omega) (by omega)) (Nat.le_of_ble_eq_true rfl) dX9_readNot_77 (yk_i (kc := 0) (ks := 0) fun zv4 zg5 hzg5 => ?_)
          obtain ⟨hfc, hcc⟩ := hzg5
          rcases hcc with ⟨rfl, jc, Dc, Rc, Tc⟩ | ⟨rfl, jc, Ec, Nc, hjc, hEc, Tc⟩
          · have hRc := Rc.1
            have hLc := hRc.1.2.2.1
            have hJc := hRc.1.1
            have hZc := hRc.1.2.1
            refine xj_istore_n (n := 2) (i := 2) (lv1 := [(2, .int 1), (3, .int (tkP b z jb)), (0, .ref 67), (1, .int (nI o))]) rfl rfl (Nat.le_of_ble_eq_true rfl) dX9_readNot_80 ?_
            refine xj_aload_n (n := 0) (i := 0) 2 rfl rfl dX9_readNot_81 ?_
            refine xj_iload_n (n := 3) (i := 3) 1 rfl rfl dX9_readNot_82 ?_
            refine xj_ineg dX9_readNot_83 ?_
            refine xj_callV kv_X9_69 (c_X9_write l d n hn zg5 (Dc ++ (Db ++ C)).length (by simp only [List.length_append, List.length_cons]; omega) (-(tkP b z jb)) Tc.2.2.2.2.2.2.1) (As := [.int (-(tkP b z jb))]) (st := []) (by omega) (fq_67 zg5) (ci := 9) rfl rfl rfl rfl (xRm_of (by omega) (by decide) (by omega) (by omega)) (Nat.le_of_ble_eq_true rfl) dX9_readNot_84 (yk_v (kc := 0) (ks := 0) fun zg6 hzg6 => ?_)
            have Tzg6 : tpA zg6 z b jc ((-(tkP b z jb)) :: (Dc ++ (Db ++ C))) := by rw [hzg6]; exact Tc.wr _
            have hrzg6 := fr.tr (fr.tr hrzg3 hfc) (show fr (fun j => j = 67 ∨ j = 69) zg5 zg6 from by rw [hzg6]; exact (fr.rf.gs (Or.inr rfl) _ _).gs (Or.inl rfl) _ _)
            refine xj_iload_n (n := 2) (i := 2) 0 rfl rfl dX9_readNot_87 ?_
            exact xj_ireturn rfl nr_b1 (Nat.zero_le _) (Nat.zero_le _) dX9_readNot_88 (qI_e ⟨hrzg6, Or.inl ⟨rfl, jc, (-tkP b z jb :: (Dc ++ Db)), ⟨rlE_cmp zc7 Rb.1 htk Rc.1, Rc.2⟩, (by rw [show (-tkP b z jb :: (Dc ++ Db)) ++ C = -tkP b z jb :: (Dc ++ (Db ++ C)) from by simp]; exact Tzg6)⟩⟩)
          · simp only [List.length_append] at hEc
            refine xj_istore_n (n := 2) (i := 2) (lv1 := [(2, .int 0), (3, .int (tkP b z jb)), (0, .ref 67), (1, .int (nI o))]) rfl rfl (Nat.le_of_ble_eq_true rfl) dX9_readNot_80 ?_
            refine xj_aload_n (n := 0) (i := 0) 2 rfl rfl dX9_readNot_81 ?_
            refine xj_iload_n (n := 3) (i := 3) 1 rfl rfl dX9_readNot_82 ?_
            refine xj_ineg dX9_readNot_83 ?_
            refine xj_callV kv_X9_69 (c_X9_write l d n hn zg5 Ec.length (by omega) (-(tkP b z jb)) Tc.2.2.2.2.2.2.1) (As := [.int (-(tkP b z jb))]) (st := []) (by omega) (fq_67 zg5) (ci := 9) rfl rfl rfl rfl (xRm_of (by omega) (by decide) (by omega) (by omega)) (Nat.le_of_ble_eq_true rfl) dX9_readNot_84 (yk_v (kc := 0) (ks := 0) fun zg7 hzg7 => ?_)
            have Tzg7 : tpA zg7 z b jc ((-(tkP b z jb)) :: Ec) := by rw [hzg7]; exact Tc.wr _
            have hrzg7 := fr.tr (fr.tr hrzg3 hfc) (show fr (fun j => j = 67 ∨ j = 69) zg5 zg7 from by rw [hzg7]; exact (fr.rf.gs (Or.inr rfl) _ _).gs (Or.inl rfl) _ _)
            refine xj_iload_n (n := 2) (i := 2) 0 rfl rfl dX9_readNot_87 ?_
            exact xj_ireturn rfl nr_b0 (Nat.zero_le _) (Nat.zero_le _) dX9_readNot_88 (qI_e ⟨hrzg7, Or.inr ⟨rfl, jc, ((-(tkP b z jb)) :: Ec), (flE_cmp zc7 Rb.1 htk Nc), hjc, (by simp only [List.length_append, List.length_cons]; omega), Tzg7⟩⟩)
        · refine xj_aload_n (n := 0) (i := 0) 1 rfl rfl dX9_readNot_57 ?_
          refine yj_getf (v := .int (tkP b z jb)) fl_X9_34_9 (by omega) (fq_67 zg2) (congrArg (fun z => some (Value.int z)) Tb.2.2.2.2.1) dX9_readNot_58 ?_
          refine xj_bipush (v := 61) (by decide) dX9_readNot_61 ?_
          refine xj_icmp_ne (tgt := 87) (by decide) dX9_readNot_63 (fun zc63 => ?_) (fun zc63 => ?_)
          · refine xj_iload_n (n := 2) (i := 2) 0 rfl rfl dX9_readNot_87 ?_
            exact xj_ireturn rfl nr_b1 (Nat.zero_le _) (Nat.zero_le _) dX9_readNot_88 (qI_e ⟨(fr.tr fr.rf hfb), Or.inl ⟨rfl, jb, Db, ⟨rlE_sum zc7 Rb.1 (fun y => y.elim zc54 zc63), Rb.2⟩, Tb⟩⟩)
          · have htk : tkP b z jb = 60 ∨ tkP b z jb = 61 := Or.inr zc63
            have hnxb := (nxP_b b hRb.1.2.1).2.2 (rk_cm htk).2.2.1
            have hnzb := (nxP_b b hRb.1.2.1).2.1
            refine xj_aload_n (n := 0) (i := 0) 1 rfl rfl dX9_readNot_66 ?_
            refine yj_getf (v := .int (tkP b z jb)) fl_X9_34_9 (by omega) (fq_67 zg2) (congrArg (fun z => some (Value.int z)) Tb.2.2.2.2.1) dX9_readNot_67 ?_
            refine xj_istore_n (n := 3) (i := 3) (lv1 := [(3, .int (tkP b z jb)), (2, .int 1), (0, .ref 67), (1, .int (nI o))]) rfl rfl (Nat.le_of_ble_eq_true rfl) dX9_readNot_70 ?_
            refine xj_aload_n (n := 0) (i := 0) 2 rfl rfl dX9_readNot_71 ?_
            refine xj_callV kv_X9_40 (c_X9_step l d n hn zg2 b z hz Tb.2.1 Tb.1 (nxP b z jb) (nxP_b b hRb.1.2.1).2.1 Tb.2.2.2.1) (As := []) (st := []) (by omega) (fq_67 zg2) (ci := 9) rfl rfl rfl rfl (xRm_of (by omega) (by decide) (by omega) (by omega)) (Nat.le_of_ble_eq_true rfl) dX9_readNot_72 (yk_v (kc := 0) (ks := 0) fun zg8 hzg8 => ?_)
            obtain ⟨hqzg8, h1zg8, h6zg8, h7zg8, h8zg8⟩ := hzg8
            have Tzg8 := Tb.st hqzg8 h1zg8 h6zg8 h7zg8 h8zg8
            have hrzg8 := fr.tr (fr.tr fr.rf hfb) hqzg8.fr
            refine xj_aload_n (n := 0) (i := 0) 2 rfl rfl dX9_readNot_75 ?_
            refine xj_iload_n (n := 1) (i := 1) 3 rfl rfl dX9_readNot_76 ?_
            have hlCc : ((Db ++ C)).length ≤ (nxP b z jb) := by simp only [List.length_append, List.length_cons]; omega
            refine xj_callV kv_X9_76 (gS d n hn zg8 z b (nxP b z jb) (Db ++ C) hz (nxP_b b hRb.1.2.1).2.1 hlCc Tzg8) (As := [.int (nI o)]) (st := []) (by omega) (fq_67 zg8) (ci := 9) rfl rfl rfl rfl (xRm_of (by omega) (by decide) (by omega) (by omega)) (Nat.le_of_ble_eq_true rfl) dX9_readNot_77 (yk_i (kc := 0) (ks := 0) fun zv9 zg10 hzg10 => ?_)
            obtain ⟨hfc, hcc⟩ := hzg10
            rcases hcc with ⟨rfl, jc, Dc, Rc, Tc⟩ | ⟨rfl, jc, Ec, Nc, hjc, hEc, Tc⟩
            · have hRc := Rc.1
              have hLc := hRc.1.2.2.1
              have hJc := hRc.1.1
              have hZc := hRc.1.2.1
              refine xj_istore_n (n := 2) (i := 2) (lv1 := [(2, .int 1), (3, .int (tkP b z jb)), (0, .ref 67), (1, .int (nI o))]) rfl rfl (Nat.le_of_ble_eq_true rfl) dX9_readNot_80 ?_
              refine xj_aload_n (n := 0) (i := 0) 2 rfl rfl dX9_readNot_81 ?_
              refine xj_iload_n (n := 3) (i := 3) 1 rfl rfl dX9_readNot_82 ?_
              refine xj_ineg dX9_readNot_83 ?_
              refine xj_callV kv_X9_69 (c_X9_write l d n hn zg10 (Dc ++ (Db ++ C)).length (by simp only [List.length_append, List.length_cons]; omega) (-(tkP b z jb)) Tc.2.2.2.2.2.2.1) (As := [.int (-(tkP b z jb))]) (st := []) (by omega) (fq_67 zg10) (ci := 9) rfl rfl rfl rfl (xRm_of (by omega) (by decide) (by omega) (by omega)) (Nat.le_of_ble_eq_true rfl) dX9_readNot_84 (yk_v (kc := 0) (ks := 0) fun zg11 hzg11 => ?_)
              have Tzg11 : tpA zg11 z b jc ((-(tkP b z jb)) :: (Dc ++ (Db ++ C))) := by rw [hzg11]; exact Tc.wr _
              have hrzg11 := fr.tr (fr.tr hrzg8 hfc) (show fr (fun j => j = 67 ∨ j = 69) zg10 zg11 from by rw [hzg11]; exact (fr.rf.gs (Or.inr rfl) _ _).gs (Or.inl rfl) _ _)
              refine xj_iload_n (n := 2) (i := 2) 0 rfl rfl dX9_readNot_87 ?_
              exact xj_ireturn rfl nr_b1 (Nat.zero_le _) (Nat.zero_le _) dX9_readNot_88 (qI_e ⟨hrzg11, Or.inl ⟨rfl, jc, (-tkP b z jb :: (Dc ++ Db)), ⟨rlE_cmp zc7 Rb.1 htk Rc.1, Rc.2⟩, (by rw [show (-tkP b z jb :: (Dc ++ Db)) ++ C = -tkP b z jb :: (Dc ++ (Db ++ C)) from by simp]; exact Tzg11)⟩⟩)
            · simp only [List.length_append] at hEc
              refine xj_istore_n (n := 2) (i := 2) (lv1 := [(2, .int 0), (3, .int (tkP b z jb)), (0, .ref 67), (1, .int (nI o))]) rfl rfl (Nat.le_of_ble_eq_true rfl) dX9_readNot_80 ?_
              refine xj_aload_n (n := 0) (i := 0) 2 rfl rfl dX9_readNot_81 ?_
              refine xj_iload_n (n := 3) (i := 3) 1 rfl rfl dX9_readNot_82 ?_
              refine xj_ineg dX9_readNot_83 ?_
              refine xj_callV kv_X9_69 (c_X9_write l d n hn zg10 Ec.length (by omega) (-(tkP b z jb)) Tc.2.2.2.2.2.2.1) (As := [.int (-(tkP b z jb))]) (st := []) (by omega) (fq_67 zg10) (ci := 9) rfl rfl rfl rfl (xRm_of (by omega) (by decide) (by omega) (by omega)) (Nat.le_of_ble_eq_true rfl) dX9_readNot_84 (yk_v (kc := 0) (ks := 0) fun zg12 hzg12 => ?_)
              have Tzg12 : tpA zg12 z b jc ((-(tkP b z jb)) :: Ec) := by rw [hzg12]; exact Tc.wr _
              have hrzg12 := fr.tr (fr.tr hrzg8 hfc) (show fr (fun j => j = 67 ∨ j = 69) zg10 zg12 from by rw [hzg12]; exact (fr.rf.gs (Or.inr rfl) _ _).gs (Or.inl rfl) _ _)
              refine xj_iload_n (n := 2) (i := 2) 0 rfl rfl dX9_readNot_87 ?_
              exact xj_ireturn rfl nr_b0 (Nat.zero_le _) (Nat.zero_le _) dX9_readNot_88 (qI_e ⟨hrzg12, Or.inr ⟨rfl, jc, ((-(tkP b z jb)) :: Ec), (flE_cmp zc7 Rb.1 htk Nc), hjc, (by simp only [List.length_append, List.length_cons]; omega), Tzg12⟩⟩)
    · skip
      refine xj_istore_n (n := 2) (i := 2) (lv1 := [(2, .int 0), (0, .ref 67), (1, .int (nI o))]) rfl rfl (Nat.le_of_ble_eq_true rfl) dX9_readNot_43 ?_
      refine xj_iload_n (n := 2) (i := 2) 0 rfl rfl dX9_readNot_44 ?_
      refine xj_if_eq (tgt := 87) (by decide) dX9_readNot_45 (fun zc45 => ?_) (fun zc45 => ?_)
      · refine xj_iload_n (n := 2) (i := 2) 0 rfl rfl dX9_readNot_87 ?_
        exact xj_ireturn rfl nr_b0 (Nat.zero_le _) (Nat.zero_le _) dX9_readNot_88 (qI_e ⟨(fr.tr fr.rf hfb), Or.inr ⟨rfl, jb, Eb, (flE_sum zc7 Nb), hjb, (by omega), Tb⟩⟩)
      · exact absurd (by decide) zc45
  · have hnx := (nxP_b b hi).2.2 (by rw [zc7]; decide)
    have hiz := (nxP_b b hi).2.1
    refine xj_iload_n (n := 1) (i := 1) 1 rfl rfl dX9_readNot_10 ?_
    refine xj_iconst (v := 5) (by decide) dX9_readNot_11 ?_
    refine xj_icmp_lt (tgt := 17) (by decide) dX9_readNot_12 (fun zc12 => ?_) (fun zc12 => ?_)
    · have ho5 : o < 5 := (nI_ltI (b := 5) (by omega) (by decide)).mp zc12
      obtain ⟨k1, rfl, gN⟩ := ih ho5
      refine xj_aload_n (n := 0) (i := 0) 0 rfl rfl dX9_readNot_17 ?_
      refine xj_callV kv_X9_40 (c_X9_step l d n hn g b z hz Tp.2.1 Tp.1 (nxP b z i) (nxP_b b hi).2.1 Tp.2.2.2.1) (As := []) (st := []) (by omega) (fq_67 g) (ci := 9) rfl rfl rfl rfl (xRm_of (by omega) (by decide) (by omega) (by omega)) (Nat.le_of_ble_eq_true rfl) dX9_readNot_18 (yk_v (kc := 0) (ks := 0) fun zg13 hzg13 => ?_)
      obtain ⟨hqzg13, h1zg13, h6zg13, h7zg13, h8zg13⟩ := hzg13
      have Tzg13 := Tp.st hqzg13 h1zg13 h6zg13 h7zg13 h8zg13
      have hrzg13 := fr.tr fr.rf hqzg13.fr
      refine xj_aload_n (n := 0) (i := 0) 0 rfl rfl dX9_readNot_21 ?_
      refine xj_iload_n (n := 1) (i := 1) 1 rfl rfl dX9_readNot_22 ?_
      refine xj_iconst (v := 1) (by decide) dX9_readNot_23 ?_
      refine xj_iadd dX9_readNot_24 ?_
      refine xj_top (show ((nI o) + 1) = nI (o + 1) from (nI_1 o)) ?_
      have hlCa : (C).length ≤ (nxP b z i) := by omega
      refine xj_callV kv_X9_73 (gN d n hn zg13 z b (nxP b z i) C hz (nxP_b b hi).2.1 hlCa Tzg13) (As := [.int (nI (o + 1))]) (st := []) (by omega) (fq_67 zg13) (ci := 9) rfl rfl rfl rfl (xRm_of (by omega) (by decide) (by omega) (by omega)) (Nat.le_of_ble_eq_true rfl) dX9_readNot_25 (yk_i (kc := 0) (ks := 0) fun zv14 zg15 hzg15 => ?_)
      obtain ⟨hfa, hca⟩ := hzg15
      rcases hca with ⟨rfl, ja, Da, Ra, Ta⟩ | ⟨rfl, ja, Ea, Na, hja, hEa, Ta⟩
      · have hRa := Ra.1
        have hLa := hRa.1.2.2.1
        have hJa := hRa.1.1
        have hZa := hRa.1.2.1
        refine xj_istore_n (n := 2) (i := 2) (lv1 := [(2, .int 1), (0, .ref 67), (1, .int (nI o))]) rfl rfl (Nat.le_of_ble_eq_true rfl) dX9_readNot_28 ?_
        refine xj_aload_n (n := 0) (i := 0) 1 rfl rfl dX9_readNot_29 ?_
        refine xj_sipush (v := (-261)) (by decide) dX9_readNot_30 ?_
        refine xj_callV kv_X9_69 (c_X9_write l d n hn zg15 (Da ++ C).length (by simp only [List.length_append, List.length_cons]; omega) (-261) Ta.2.2.2.2.2.2.1) (As := [.int (-261)]) (st := []) (by omega) (fq_67 zg15) (ci := 9) rfl rfl rfl rfl (xRm_of (by omega) (by decide) (by omega) (by omega)) (Nat.le_of_ble_eq_true rfl) dX9_readNot_33 (yk_v (kc := 0) (ks := 0) fun zg16 hzg16 => ?_)
        have Tzg16 : tpA zg16 z b ja ((-261) :: (Da ++ C)) := by rw [hzg16]; exact Ta.wr _
        have hrzg16 := fr.tr (fr.tr hrzg13 hfa) (show fr (fun j => j = 67 ∨ j = 69) zg15 zg16 from by rw [hzg16]; exact (fr.rf.gs (Or.inr rfl) _ _).gs (Or.inl rfl) _ _)
        refine xj_iload_n (n := 2) (i := 2) 0 rfl rfl dX9_readNot_36 ?_
        exact xj_ireturn rfl nr_b1 (Nat.zero_le _) (Nat.zero_le _) dX9_readNot_37 (qI_e ⟨hrzg16, Or.inl ⟨rfl, ja, (-261 :: Da), ⟨rlE_not hi ho5 zc7 Ra.1, Ra.2⟩, Tzg16⟩⟩)
      · skip
        refine xj_istore_n (n := 2) (i := 2) (lv1 := [(2, .int 0), (0, .ref 67), (1, .int (nI o))]) rfl rfl (Nat.le_of_ble_eq_true rfl) dX9_readNot_28 ?_
        refine xj_aload_n (n := 0) (i := 0) 1 rfl rfl dX9_readNot_29 ?_
        refine xj_sipush (v := (-261)) (by decide) dX9_readNot_30 ?_
        refine xj_callV kv_X9_69 (c_X9_write l d n hn zg15 Ea.length (by omega) (-261) Ta.2.2.2.2.2.2.1) (As := [.int (-261)]) (st := []) (by omega) (fq_67 zg15) (ci := 9) rfl rfl rfl rfl (xRm_of (by omega) (by decide) (by omega) (by omega)) (Nat.le_of_ble_eq_true rfl) dX9_readNot_33 (yk_v (kc := 0) (ks := 0) fun zg17 hzg17 => ?_)
        have Tzg17 : tpA zg17 z b ja ((-261) :: Ea) := by rw [hzg17]; exact Ta.wr _
        have hrzg17 := fr.tr (fr.tr hrzg13 hfa) (show fr (fun j => j = 67 ∨ j = 69) zg15 zg17 from by rw [hzg17]; exact (fr.rf.gs (Or.inr rfl) _ _).gs (Or.inl rfl) _ _)
        refine xj_iload_n (n := 2) (i := 2) 0 rfl rfl dX9_readNot_36 ?_
        exact xj_ireturn rfl nr_b0 (Nat.zero_le _) (Nat.zero_le _) dX9_readNot_37 (qI_e ⟨hrzg17, Or.inr ⟨rfl, ja, ((-261) :: Ea), (flE_not hi ho5 zc7 Na), hja, (by simp only [List.length_append, List.length_cons]; omega), Tzg17⟩⟩)
    · have ho5 : o = 5 := by have h := mt (nI_lt (a := o) (b := 5) · (by decide)) zc12; omega
      refine xj_iconst (v := 0) (by decide) dX9_readNot_15 ?_
      exact xj_ireturn rfl nr_b0 (Nat.zero_le _) (Nat.zero_le _) dX9_readNot_16 (qI_e ⟨fr.rf, Or.inr ⟨rfl, i, C, (show flE b z 4 o i i from by rw [ho5]; exact flE_n5 hi zc7), hi, (by omega), Tp⟩⟩)
theorem g_all (l : Launch) : ∀ k o, o + k = 5 → (gPr l yX9_readEither cX9_readEither 4 (8 * k + 13) o (okE o) (noE o)) ∧ (gPr l yX9_readOne cX9_readOne 3 (8 * k + 8) o (okO o) (noO o)) ∧ (gPr l yX9_readNot cX9_readNot 4 (8 * k + 11) o (okN o) (noN o)) := by
  intro k
  induction k with
  | zero =>
    intro o ho
    have g1 : gPr l yX9_readOne cX9_readOne 3 (8 * 0 + 8) o (okO o) (noO o) := fun d n hn g z b i C hz hi hC Tp => c_X9_readOne l d n hn g 0 o ho (fun y => absurd y (by omega)) z b i C hz hi hC Tp
    have g2 : gPr l yX9_readTerm cX9_readTerm 4 (8 * 0 + 9) o (okT o) (noT o) := fun d n hn g z b i C hz hi hC Tp => c_X9_readTerm l d n hn g 0 o ho g1 z b i C hz hi hC Tp
    have g3 : gPr l yX9_readSum cX9_readSum 5 (8 * 0 + 10) o (okS o) (noU o) := fun d n hn g z b i C hz hi hC Tp => c_X9_readSum l d n hn g 0 o ho g2 z b i C hz hi hC Tp
    have g4 : gPr l yX9_readNot cX9_readNot 4 (8 * 0 + 11) o (okN o) (noN o) := fun d n hn g z b i C hz hi hC Tp => c_X9_readNot l d n hn g 0 o ho g3 (fun y => absurd y (by omega)) z b i C hz hi hC Tp
    have g5 : gPr l yX9_readBoth cX9_readBoth 4 (8 * 0 + 12) o (okB o) (noB o) := fun d n hn g z b i C hz hi hC Tp => c_X9_readBoth l d n hn g 0 o ho g4 z b i C hz hi hC Tp
    exact ⟨fun d n hn g z b i C hz hi hC Tp => c_X9_readEither l d n hn g 0 o ho g5 z b i C hz hi hC Tp, g1, g4⟩
  | succ k ih =>
    intro o ho
    obtain ⟨e1, e2, e3⟩ := ih (o + 1) (by omega)
    have g1 : gPr l yX9_readOne cX9_readOne 3 (8 * (k + 1) + 8) o (okO o) (noO o) := fun d n hn g z b i C hz hi hC Tp => c_X9_readOne l d n hn g (k + 1) o ho (fun _ => ⟨k, rfl, e1, e2⟩) z b i C hz hi hC Tp
    have g2 : gPr l yX9_readTerm cX9_readTerm 4 (8 * (k + 1) + 9) o (okT o) (noT o) := fun d n hn g z b i C hz hi hC Tp => c_X9_readTerm l d n hn g (k + 1) o ho g1 z b i C hz hi hC Tp
    have g3 : gPr l yX9_readSum cX9_readSum 5 (8 * (k + 1) + 10) o (okS o) (noU o) := fun d n hn g z b i C hz hi hC Tp => c_X9_readSum l d n hn g (k + 1) o ho g2 z b i C hz hi hC Tp
    have g4 : gPr l yX9_readNot cX9_readNot 4 (8 * (k + 1) + 11) o (okN o) (noN o) := fun d n hn g z b i C hz hi hC Tp => c_X9_readNot l d n hn g (k + 1) o ho g3 (fun _ => ⟨k, rfl, e3⟩) z b i C hz hi hC Tp
    have g5 : gPr l yX9_readBoth cX9_readBoth 4 (8 * (k + 1) + 12) o (okB o) (noB o) := fun d n hn g z b i C hz hi hC Tp => c_X9_readBoth l d n hn g (k + 1) o ho g4 z b i C hz hi hC Tp
    exact ⟨fun d n hn g z b i C hz hi hC Tp => c_X9_readEither l d n hn g (k + 1) o ho g5 z b i C hz hi hC Tp, g1, g4⟩
