/-! THE DESCENT: contracts of its methods -/
def rPo (n : Nat) (g : xG) (z : Nat) (b : Nat → Int32) (i : Nat) (C : List Int32) (Ok : Nat → List Int32 → Prop) (Fl : Nat → Prop) : Option Value → xH → Prop := qI n fun v g1 => fr (fun j => j = 67 ∨ j = 69) g g1 ∧ ((v = 1 ∧ ∃ j D, Ok j D ∧ tpA g1 z b j (D ++ C)) ∨ (v = 0 ∧ ∃ j E, Fl j ∧ j ≤ z ∧ E.length + i ≤ j + C.length ∧ tpA g1 z b j E))
def gPr (l : Launch) (y : MethodName) (cc : ByteArray) (nL hh o : Nat) (Ok : (Nat → Int32) → Nat → Nat → Nat → List Int32 → Prop) (Fl : (Nat → Int32) → Nat → Nat → Nat → Prop) : Prop := ∀ (d n : Nat), 110 ≤ n → ∀ (g : xG) (z : Nat) (b : Nat → Int32) (i : Nat) (C : List Int32), z ≤ 160 → i ≤ z → C.length ≤ i → tpA g z b i C → xC l y cc nL (some .boolean) (xR (d + hh) 0 0) [.ref 67, .int (nI o)] (n, fh g) (rPo n g z b i C (Ok b z i) (Fl b z i))
def okO (o : Nat) (b : Nat → Int32) (z i j : Nat) (D : List Int32) : Prop := rlO b z o i j D
def okT (o : Nat) (b : Nat → Int32) (z i j : Nat) (D : List Int32) : Prop := rlS b z 6 o i j D ∧ ¬ tkP b z j = 42
def okS (o : Nat) (b : Nat → Int32) (z i j : Nat) (D : List Int32) : Prop := rlS b z 5 o i j D ∧ noS (tkP b z j)
def okN (o : Nat) (b : Nat → Int32) (z i j : Nat) (D : List Int32) : Prop := rlE b z 3 4 2 o i j D ∧ noS (tkP b z j)
def okB (o : Nat) (b : Nat → Int32) (z i j : Nat) (D : List Int32) : Prop := rlE b z 2 2 1 o i j D ∧ noS (tkP b z j) ∧ ¬ tkP b z j = 260
def okE (o : Nat) (b : Nat → Int32) (z i j : Nat) (D : List Int32) : Prop := rlE b z 1 1 0 o i j D ∧ noS (tkP b z j) ∧ ¬ tkP b z j = 260 ∧ ¬ tkP b z j = 259
def noO (o : Nat) (b : Nat → Int32) (z i j : Nat) : Prop := flO b z o i j
def noT (o : Nat) (b : Nat → Int32) (z i j : Nat) : Prop := flS b z 6 o i j
def noU (o : Nat) (b : Nat → Int32) (z i j : Nat) : Prop := flS b z 5 o i j
def noN (o : Nat) (b : Nat → Int32) (z i j : Nat) : Prop := flE b z 4 o i j
def noB (o : Nat) (b : Nat → Int32) (z i j : Nat) : Prop := flE b z 2 o i j
def noE (o : Nat) (b : Nat → Int32) (z i j : Nat) : Prop := flE b z 1 o i j
/-- a token that is a name -/
theorem tk_hi {b : Nat → Int32} {z i : Nat} (h : 262 ≤ tkP b z i) : tkP b z i = 262 ∨ tkP b z i = 263 ∨ tkP b z i = 264 ∨ tkP b z i = 265 ∨ tkP b z i = 266 ∨ tkP b z i = 267 := by
  have hw : ∀ (m : Nat → Bool) n, n ≤ 12 → 262 ≤ wdF m n → ∃ k, k < 12 ∧ 6 ≤ k ∧ wdF m n = nI (256 + k) := by
    intro m n
    induction n with
    | zero => exact fun _ y => absurd y (show ¬ (262 : Int32) ≤ 2 by decide)
    | succ k ih =>
      intro hk y
      unfold wdF at y ⊢
      by_cases hm : m k = true
      · rw [if_pos hm] at y ⊢
        refine ⟨k, by omega, ?_, rfl⟩
        have h2 := (nI_leI (a := 262) (by decide) (by omega)).mp y
        omega
      · rw [if_neg hm] at y ⊢
        exact ih (by omega) y
  unfold tkP at h ⊢
  by_cases h1 : z ≤ stP b z i
  · rw [if_pos h1] at h; exact absurd h (by decide)
  · rw [if_neg h1] at h ⊢
    by_cases h2 : isLt (b (stP b z i)) = true
    · rw [if_pos h2] at h ⊢
      obtain ⟨k, hk, hk6, e⟩ := hw _ 12 (Nat.le_refl _) h
      rw [e]
      rcases (show k = 6 ∨ k = 7 ∨ k = 8 ∨ k = 9 ∨ k = 10 ∨ k = 11 by omega) with rfl | rfl | rfl | rfl | rfl | rfl <;> decide
    · rw [if_neg h2] at h
      by_cases h3 : isDg (b (stP b z i)) = true
      · rw [if_pos h3] at h
        by_cases h4 : rnP isDg b z (stP b z i) - stP b z i ≤ 4
        · rw [if_pos h4] at h; exact absurd h (by decide)
        · rw [if_neg h4] at h; exact absurd h (by decide)
      · rw [if_neg h3] at h
        by_cases h4 : isSg (b (stP b z i)) = true
        · rw [if_pos h4] at h
          rcases isSg_i.mpr h4 with e | e | e | e | e | e | e | e <;> rw [e] at h <;> exact absurd h (by decide)
        · rw [if_neg h4] at h; exact absurd h (by decide)
set_option maxHeartbeats 4000000 in
set_option maxRecDepth 100000 in
theorem c_X9_readOne (l : Launch) (d : Nat) (n : Nat) (hn : 110 ≤ n) (g : xG) (k o : Nat) (ho : o + k = 5) (ih : o < 5 → ∃ k1, k = k1 + 1 ∧ (gPr l yX9_readEither cX9_readEither 4 (8 * k1 + 13) (o + 1) (okE (o + 1)) (noE (o + 1))) ∧ (gPr l yX9_readOne cX9_readOne 3 (8 * k1 + 8) (o + 1) (okO (o + 1)) (noO (o + 1)))) (z : Nat) (b : Nat → Int32) (i : Nat) (C : List Int32) (hz : z ≤ 160) (hi : i ≤ z) (hC : C.length ≤ i) (Tp : tpA g z b i C)  : xC l yX9_readOne cX9_readOne 3 (some .boolean) (xR (d + (8 * k + 8)) 0 0) [.ref 67, .int (nI o)] (n, fh g) (rPo n g z b i C (okO o b z i) (noO o b z i)) := by
  refine xC_of false (by decide +kernel) (fun z => by cases z) (Nat.le_of_ble_eq_true rfl) ?_
  show xJ l (RX9, 3, (some .boolean), false, (xR (d + (8 * k + 8)) 0 0), none) cX9_readOne _ 0 0 0 [(0, .ref 67), (1, .int (nI o))] [] (n, fh g)
  refine xj_aload_n (n := 0) (i := 0) 0 rfl rfl dX9_readOne_0 ?_
  refine yj_getf (v := .int (tkP b z i)) fl_X9_34_9 (by omega) (fq_67 g) (congrArg (fun z => some (Value.int z)) Tp.2.2.2.2.1) dX9_readOne_1 ?_
  refine xj_iconst (v := 1) (by decide) dX9_readOne_4 ?_
  refine xj_icmp_eq (tgt := 18) (by decide) dX9_readOne_5 (fun zc5 => ?_) (fun zc5 => ?_)
  · have htk : tkP b z i = 1 := zc5
    have hnx := (nxP_b b hi).2.2 (by rw [htk]; decide)
    obtain ⟨m9, hm9, em9⟩ := nm_ok htk
    have hiz := (nxP_b b hi).2.1
    refine xj_aload_n (n := 0) (i := 0) 0 rfl rfl dX9_readOne_18 ?_
    refine xj_aload_n (n := 0) (i := 0) 0 rfl rfl dX9_readOne_19 ?_
    refine yj_getf (v := .int (tkP b z i)) fl_X9_34_9 (by omega) (fq_67 g) (congrArg (fun z => some (Value.int z)) Tp.2.2.2.2.1) dX9_readOne_20 ?_
    refine xj_iconst (v := 1) (by decide) dX9_readOne_23 ?_
    refine xj_icmp_ne (tgt := 34) (by decide) dX9_readOne_24 (fun zc24 => ?_) (fun zc24 => ?_)
    · exact absurd zc24 (fun y => y zc5)
    · refine xj_aload_n (n := 0) (i := 0) 0 rfl rfl dX9_readOne_27 ?_
      refine yj_getf (v := .int (nmP b z i)) fl_X9_37_9 (by omega) (fq_67 g) (congrArg (fun z => some (Value.int z)) (Tp.2.2.2.2.2.1 htk)) dX9_readOne_28 ?_
      refine xj_goto (tgt := 39) (by decide) dX9_readOne_31 ?_
      refine xj_callV kv_X9_69 (c_X9_write l d n hn g C.length (by omega) (nmP b z i) Tp.2.2.2.2.2.2.1) (As := [.int (nmP b z i)]) (st := []) (by omega) (fq_67 g) (ci := 9) rfl rfl rfl rfl (xRm_of (by omega) (by decide) (by omega) (by omega)) (Nat.le_of_ble_eq_true rfl) dX9_readOne_39 (yk_v (kc := 0) (ks := 0) fun zg1 hzg1 => ?_)
      have Tzg1 : tpA zg1 z b i ((nmP b z i) :: C) := by rw [hzg1]; exact Tp.wr _
      have hrzg1 := fr.tr fr.rf (show fr (fun j => j = 67 ∨ j = 69) g zg1 from by rw [hzg1]; exact (fr.rf.gs (Or.inr rfl) _ _).gs (Or.inl rfl) _ _)
      refine xj_aload_n (n := 0) (i := 0) 0 rfl rfl dX9_readOne_42 ?_
      refine xj_callV kv_X9_40 (c_X9_step l d n hn zg1 b z hz Tzg1.2.1 Tzg1.1 (nxP b z i) (nxP_b b hi).2.1 Tzg1.2.2.2.1) (As := []) (st := []) (by omega) (fq_67 zg1) (ci := 9) rfl rfl rfl rfl (xRm_of (by omega) (by decide) (by omega) (by omega)) (Nat.le_of_ble_eq_true rfl) dX9_readOne_43 (yk_v (kc := 0) (ks := 0) fun zg2 hzg2 => ?_)
      obtain ⟨hqzg2, h1zg2, h6zg2, h7zg2, h8zg2⟩ := hzg2
      have Tzg2 := Tzg1.st hqzg2 h1zg2 h6zg2 h7zg2 h8zg2
      have hrzg2 := fr.tr hrzg1 hqzg2.fr
      refine xj_iconst (v := 1) (by decide) dX9_readOne_46 ?_
      exact xj_ireturn rfl nr_b1 (Nat.zero_le _) (Nat.zero_le _) dX9_readOne_47 (qI_e ⟨hrzg2, Or.inl ⟨rfl, _, [nmP b z i], (rlO_num hi (by omega) htk (by rw [em9]; exact num_nm hm9)), Tzg2⟩⟩)
  · refine xj_aload_n (n := 0) (i := 0) 0 rfl rfl dX9_readOne_8 ?_
    refine yj_getf (v := .int (tkP b z i)) fl_X9_34_9 (by omega) (fq_67 g) (congrArg (fun z => some (Value.int z)) Tp.2.2.2.2.1) dX9_readOne_9 ?_
    refine xj_sipush (v := 262) (by decide) dX9_readOne_12 ?_
    refine xj_icmp_lt (tgt := 48) (by decide) dX9_readOne_15 (fun zc15 => ?_) (fun zc15 => ?_)
    · have hlo : ¬ 262 ≤ tkP b z i := fun y => le_nlt y zc15
      refine xj_iload_n (n := 1) (i := 1) 1 rfl rfl dX9_readOne_48 ?_
      refine xj_iconst (v := 5) (by decide) dX9_readOne_49 ?_
      refine xj_icmp_lt (tgt := 55) (by decide) dX9_readOne_50 (fun zc50 => ?_) (fun zc50 => ?_)
      · have ho5 : o < 5 := (nI_ltI (b := 5) (by omega) (by decide)).mp zc50
        obtain ⟨k1, rfl, gE, gO⟩ := ih ho5
        refine xj_aload_n (n := 0) (i := 0) 0 rfl rfl dX9_readOne_55 ?_
        refine yj_getf (v := .int (tkP b z i)) fl_X9_34_9 (by omega) (fq_67 g) (congrArg (fun z => some (Value.int z)) Tp.2.2.2.2.1) dX9_readOne_56 ?_
        refine xj_bipush (v := 45) (by decide) dX9_readOne_59 ?_
        refine xj_icmp_ne (tgt := 84) (by decide) dX9_readOne_61 (fun zc61 => ?_) (fun zc61 => ?_)
        · refine xj_aload_n (n := 0) (i := 0) 0 rfl rfl dX9_readOne_84 ?_
          refine yj_getf (v := .int (tkP b z i)) fl_X9_34_9 (by omega) (fq_67 g) (congrArg (fun z => some (Value.int z)) Tp.2.2.2.2.1) dX9_readOne_85 ?_
          refine xj_bipush (v := 40) (by decide) dX9_readOne_88 ?_
          refine xj_icmp_eq (tgt := 95) (by decide) dX9_readOne_90 (fun zc90 => ?_) (fun zc90 => ?_)
          · have hnx := (nxP_b b hi).2.2 (by rw [zc90]; decide)
            have hiz := (nxP_b b hi).2.1
            refine xj_aload_n (n := 0) (i := 0) 0 rfl rfl dX9_readOne_95 ?_
            refine xj_callV kv_X9_40 (c_X9_step l d n hn g b z hz Tp.2.1 Tp.1 (nxP b z i) (nxP_b b hi).2.1 Tp.2.2.2.1) (As := []) (st := []) (by omega) (fq_67 g) (ci := 9) rfl rfl rfl rfl (xRm_of (by omega) (by decide) (by omega) (by omega)) (Nat.le_of_ble_eq_true rfl) dX9_readOne_96 (yk_v (kc := 0) (ks := 0) fun zg3 hzg3 => ?_)
            obtain ⟨hqzg3, h1zg3, h6zg3, h7zg3, h8zg3⟩ := hzg3
            have Tzg3 := Tp.st hqzg3 h1zg3 h6zg3 h7zg3 h8zg3
            have hrzg3 := fr.tr fr.rf hqzg3.fr
            refine xj_aload_n (n := 0) (i := 0) 0 rfl rfl dX9_readOne_99 ?_
            refine xj_iload_n (n := 1) (i := 1) 1 rfl rfl dX9_readOne_100 ?_
            refine xj_iconst (v := 1) (by decide) dX9_readOne_101 ?_
            refine xj_iadd dX9_readOne_102 ?_
            refine xj_top (show ((nI o) + 1) = nI (o + 1) from (nI_1 o)) ?_
            have hlCb : (C).length ≤ (nxP b z i) := by omega
            refine xj_callV kv_X9_63 (gE d n hn zg3 z b (nxP b z i) C hz (nxP_b b hi).2.1 hlCb Tzg3) (As := [.int (nI (o + 1))]) (st := []) (by omega) (fq_67 zg3) (ci := 9) rfl rfl rfl rfl (xRm_of (by omega) (by decide) (by omega) (by omega)) (Nat.le_of_ble_eq_true rfl) dX9_readOne_103 (yk_i (kc := 0) (ks := 0) fun zv4 zg5 hzg5 => ?_)
            obtain ⟨hfb, hcb⟩ := hzg5
            rcases hcb with ⟨rfl, jb, Db, Rb, Tb⟩ | ⟨rfl, jb, Eb, Nb, hjb, hEb, Tb⟩
            · have hRb := Rb.1
              have hLb := hRb.1.2.2.1
              have hJb := hRb.1.1
              have hZb := hRb.1.2.1
              refine xj_if_eq (tgt := 118) (by decide) dX9_readOne_106 (fun zc106 => ?_) (fun zc106 => ?_)
              · exact absurd zc106 (by decide)
              · refine xj_aload_n (n := 0) (i := 0) 0 rfl rfl dX9_readOne_109 ?_
                refine yj_getf (v := .int (tkP b z jb)) fl_X9_34_9 (by omega) (fq_67 zg5) (congrArg (fun z => some (Value.int z)) Tb.2.2.2.2.1) dX9_readOne_110 ?_
                refine xj_bipush (v := 41) (by decide) dX9_readOne_113 ?_
                refine xj_icmp_eq (tgt := 120) (by decide) dX9_readOne_115 (fun zc115 => ?_) (fun zc115 => ?_)
                · refine xj_aload_n (n := 0) (i := 0) 0 rfl rfl dX9_readOne_120 ?_
                  refine xj_callV kv_X9_40 (c_X9_step l d n hn zg5 b z hz Tb.2.1 Tb.1 (nxP b z jb) (nxP_b b hRb.1.2.1).2.1 Tb.2.2.2.1) (As := []) (st := []) (by omega) (fq_67 zg5) (ci := 9) rfl rfl rfl rfl (xRm_of (by omega) (by decide) (by omega) (by omega)) (Nat.le_of_ble_eq_true rfl) dX9_readOne_121 (yk_v (kc := 0) (ks := 0) fun zg6 hzg6 => ?_)
                  obtain ⟨hqzg6, h1zg6, h6zg6, h7zg6, h8zg6⟩ := hzg6
                  have Tzg6 := Tb.st hqzg6 h1zg6 h6zg6 h7zg6 h8zg6
                  have hrzg6 := fr.tr (fr.tr hrzg3 hfb) hqzg6.fr
                  refine xj_iconst (v := 1) (by decide) dX9_readOne_124 ?_
                  exact xj_ireturn rfl nr_b1 (Nat.zero_le _) (Nat.zero_le _) dX9_readOne_125 (qI_e ⟨hrzg6, Or.inl ⟨rfl, _, Db, (rlO_par hi ho5 zc90 Rb.1 zc115), Tzg6⟩⟩)
                · refine xj_iconst (v := 0) (by decide) dX9_readOne_118 ?_
                  exact xj_ireturn rfl nr_b0 (Nat.zero_le _) (Nat.zero_le _) dX9_readOne_119 (qI_e ⟨(fr.tr hrzg3 hfb), Or.inr ⟨rfl, jb, (Db ++ C), (flO_unc hi ho5 zc90 Rb.1 Rb.2.1 ⟨Rb.2.2.2, Rb.2.2.1⟩ zc115), hRb.1.2.1, (by simp only [List.length_append, List.length_cons]; omega), Tb⟩⟩)
            · skip
              refine xj_if_eq (tgt := 118) (by decide) dX9_readOne_106 (fun zc106 => ?_) (fun zc106 => ?_)
              · refine xj_iconst (v := 0) (by decide) dX9_readOne_118 ?_
                exact xj_ireturn rfl nr_b0 (Nat.zero_le _) (Nat.zero_le _) dX9_readOne_119 (qI_e ⟨(fr.tr hrzg3 hfb), Or.inr ⟨rfl, jb, Eb, (flO_par hi ho5 zc90 Nb), hjb, (by omega), Tb⟩⟩)
              · exact absurd (by decide) zc106
          · refine xj_iconst (v := 0) (by decide) dX9_readOne_93 ?_
            exact xj_ireturn rfl nr_b0 (Nat.zero_le _) (Nat.zero_le _) dX9_readOne_94 (qI_e ⟨fr.rf, Or.inr ⟨rfl, i, C, (flO_no hi zc5 hlo (Or.inr ⟨zc61, zc90⟩)), hi, (by omega), Tp⟩⟩)
        · have hnx := (nxP_b b hi).2.2 (by rw [zc61]; decide)
          have hiz := (nxP_b b hi).2.1
          skip
          refine xj_aload_n (n := 0) (i := 0) 0 rfl rfl dX9_readOne_64 ?_
          refine xj_callV kv_X9_40 (c_X9_step l d n hn g b z hz Tp.2.1 Tp.1 (nxP b z i) (nxP_b b hi).2.1 Tp.2.2.2.1) (As := []) (st := []) (by omega) (fq_67 g) (ci := 9) rfl rfl rfl rfl (xRm_of (by omega) (by decide) (by omega) (by omega)) (Nat.le_of_ble_eq_true rfl) dX9_readOne_65 (yk_v (kc := 0) (ks := 0) fun zg7 hzg7 => ?_)
          obtain ⟨hqzg7, h1zg7, h6zg7, h7zg7, h8zg7⟩ := hzg7
          have Tzg7 := Tp.st hqzg7 h1zg7 h6zg7 h7zg7 h8zg7
          have hrzg7 := fr.tr fr.rf hqzg7.fr
          refine xj_aload_n (n := 0) (i := 0) 0 rfl rfl dX9_readOne_68 ?_
          refine xj_iload_n (n := 1) (i := 1) 1 rfl rfl dX9_readOne_69 ?_
          refine xj_iconst (v := 1) (by decide) dX9_readOne_70 ?_
          refine xj_iadd dX9_readOne_71 ?_
          refine xj_top (show ((nI o) + 1) = nI (o + 1) from (nI_1 o)) ?_
          have hlCa : (C).length ≤ (nxP b z i) := by omega
          refine xj_callV kv_X9_82 (gO d n hn zg7 z b (nxP b z i) C hz (nxP_b b hi).2.1 hlCa Tzg7) (As := [.int (nI (o + 1))]) (st := []) (by omega) (fq_67 zg7) (ci := 9) rfl rfl rfl rfl (xRm_of (by omega) (by decide) (by omega) (by omega)) (Nat.le_of_ble_eq_true rfl) dX9_readOne_72 (yk_i (kc := 0) (ks := 0) fun zv8 zg9 hzg9 => ?_)
          obtain ⟨hfa, hca⟩ := hzg9
          rcases hca with ⟨rfl, ja, Da, Ra, Ta⟩ | ⟨rfl, ja, Ea, Na, hja, hEa, Ta⟩
          · have hRa := (show rlO b z (o + 1) (nxP b z i) ja Da from Ra)
            have hLa := hRa.1.2.2.1
            have hJa := hRa.1.1
            have hZa := hRa.1.2.1
            refine xj_istore_n (n := 2) (i := 2) (lv1 := [(2, .int 1), (0, .ref 67), (1, .int (nI o))]) rfl rfl (Nat.le_of_ble_eq_true rfl) dX9_readOne_75 ?_
            refine xj_aload_n (n := 0) (i := 0) 1 rfl rfl dX9_readOne_76 ?_
            refine xj_bipush (v := (-3)) (by decide) dX9_readOne_77 ?_
            refine xj_callV kv_X9_69 (c_X9_write l d n hn zg9 (Da ++ C).length (by simp only [List.length_append, List.length_cons]; omega) (-3) Ta.2.2.2.2.2.2.1) (As := [.int (-3)]) (st := []) (by omega) (fq_67 zg9) (ci := 9) rfl rfl rfl rfl (xRm_of (by omega) (by decide) (by omega) (by omega)) (Nat.le_of_ble_eq_true rfl) dX9_readOne_79 (yk_v (kc := 0) (ks := 0) fun zg10 hzg10 => ?_)
            have Tzg10 : tpA zg10 z b ja ((-3) :: (Da ++ C)) := by rw [hzg10]; exact Ta.wr _
            have hrzg10 := fr.tr (fr.tr hrzg7 hfa) (show fr (fun j => j = 67 ∨ j = 69) zg9 zg10 from by rw [hzg10]; exact (fr.rf.gs (Or.inr rfl) _ _).gs (Or.inl rfl) _ _)
            refine xj_iload_n (n := 2) (i := 2) 0 rfl rfl dX9_readOne_82 ?_
            exact xj_ireturn rfl nr_b1 (Nat.zero_le _) (Nat.zero_le _) dX9_readOne_83 (qI_e ⟨hrzg10, Or.inl ⟨rfl, ja, (-3 :: Da), (rlO_neg hi ho5 zc61 Ra), Tzg10⟩⟩)
          · skip
            refine xj_istore_n (n := 2) (i := 2) (lv1 := [(2, .int 0), (0, .ref 67), (1, .int (nI o))]) rfl rfl (Nat.le_of_ble_eq_true rfl) dX9_readOne_75 ?_
            refine xj_aload_n (n := 0) (i := 0) 1 rfl rfl dX9_readOne_76 ?_
            refine xj_bipush (v := (-3)) (by decide) dX9_readOne_77 ?_
            refine xj_callV kv_X9_69 (c_X9_write l d n hn zg9 Ea.length (by omega) (-3) Ta.2.2.2.2.2.2.1) (As := [.int (-3)]) (st := []) (by omega) (fq_67 zg9) (ci := 9) rfl rfl rfl rfl (xRm_of (by omega) (by decide) (by omega) (by omega)) (Nat.le_of_ble_eq_true rfl) dX9_readOne_79 (yk_v (kc := 0) (ks := 0) fun zg11 hzg11 => ?_)
            have Tzg11 : tpA zg11 z b ja ((-3) :: Ea) := by rw [hzg11]; exact Ta.wr _
            have hrzg11 := fr.tr (fr.tr hrzg7 hfa) (show fr (fun j => j = 67 ∨ j = 69) zg9 zg11 from by rw [hzg11]; exact (fr.rf.gs (Or.inr rfl) _ _).gs (Or.inl rfl) _ _)
            refine xj_iload_n (n := 2) (i := 2) 0 rfl rfl dX9_readOne_82 ?_
            exact xj_ireturn rfl nr_b0 (Nat.zero_le _) (Nat.zero_le _) dX9_readOne_83 (qI_e ⟨hrzg11, Or.inr ⟨rfl, ja, ((-3) :: Ea), (flO_neg hi ho5 zc61 Na), hja, (by simp only [List.length_append, List.length_cons]; omega), Tzg11⟩⟩)
      · have ho5 : o = 5 := by have h := mt (nI_lt (a := o) (b := 5) · (by decide)) zc50; omega
        refine xj_iconst (v := 0) (by decide) dX9_readOne_53 ?_
        exact xj_ireturn rfl nr_b0 (Nat.zero_le _) (Nat.zero_le _) dX9_readOne_54 (qI_e ⟨fr.rf, Or.inr ⟨rfl, i, C, (flO_no hi zc5 hlo (Or.inl ho5)), hi, (by omega), Tp⟩⟩)
    · have htk : 262 ≤ tkP b z i := nlt_le zc15
      have hnm := tk_hi htk
      have hnx := (nxP_b b hi).2.2 (name_nm hnm).2.2.2
      have hiz := (nxP_b b hi).2.1
      refine xj_aload_n (n := 0) (i := 0) 0 rfl rfl dX9_readOne_18 ?_
      refine xj_aload_n (n := 0) (i := 0) 0 rfl rfl dX9_readOne_19 ?_
      refine yj_getf (v := .int (tkP b z i)) fl_X9_34_9 (by omega) (fq_67 g) (congrArg (fun z => some (Value.int z)) Tp.2.2.2.2.1) dX9_readOne_20 ?_
      refine xj_iconst (v := 1) (by decide) dX9_readOne_23 ?_
      refine xj_icmp_ne (tgt := 34) (by decide) dX9_readOne_24 (fun zc24 => ?_) (fun zc24 => ?_)
      · refine xj_aload_n (n := 0) (i := 0) 0 rfl rfl dX9_readOne_34 ?_
        refine yj_getf (v := .int (tkP b z i)) fl_X9_34_9 (by omega) (fq_67 g) (congrArg (fun z => some (Value.int z)) Tp.2.2.2.2.1) dX9_readOne_35 ?_
        refine xj_ineg dX9_readOne_38 ?_
        refine xj_callV kv_X9_69 (c_X9_write l d n hn g C.length (by omega) (-(tkP b z i)) Tp.2.2.2.2.2.2.1) (As := [.int (-(tkP b z i))]) (st := []) (by omega) (fq_67 g) (ci := 9) rfl rfl rfl rfl (xRm_of (by omega) (by decide) (by omega) (by omega)) (Nat.le_of_ble_eq_true rfl) dX9_readOne_39 (yk_v (kc := 0) (ks := 0) fun zg12 hzg12 => ?_)
        have Tzg12 : tpA zg12 z b i ((-(tkP b z i)) :: C) := by rw [hzg12]; exact Tp.wr _
        have hrzg12 := fr.tr fr.rf (show fr (fun j => j = 67 ∨ j = 69) g zg12 from by rw [hzg12]; exact (fr.rf.gs (Or.inr rfl) _ _).gs (Or.inl rfl) _ _)
        refine xj_aload_n (n := 0) (i := 0) 0 rfl rfl dX9_readOne_42 ?_
        refine xj_callV kv_X9_40 (c_X9_step l d n hn zg12 b z hz Tzg12.2.1 Tzg12.1 (nxP b z i) (nxP_b b hi).2.1 Tzg12.2.2.2.1) (As := []) (st := []) (by omega) (fq_67 zg12) (ci := 9) rfl rfl rfl rfl (xRm_of (by omega) (by decide) (by omega) (by omega)) (Nat.le_of_ble_eq_true rfl) dX9_readOne_43 (yk_v (kc := 0) (ks := 0) fun zg13 hzg13 => ?_)
        obtain ⟨hqzg13, h1zg13, h6zg13, h7zg13, h8zg13⟩ := hzg13
        have Tzg13 := Tzg12.st hqzg13 h1zg13 h6zg13 h7zg13 h8zg13
        have hrzg13 := fr.tr hrzg12 hqzg13.fr
        refine xj_iconst (v := 1) (by decide) dX9_readOne_46 ?_
        exact xj_ireturn rfl nr_b1 (Nat.zero_le _) (Nat.zero_le _) dX9_readOne_47 (qI_e ⟨hrzg13, Or.inl ⟨rfl, _, [-tkP b z i], (rlO_nam hi (by omega) hnm), Tzg13⟩⟩)
      · exact absurd zc24 zc5
