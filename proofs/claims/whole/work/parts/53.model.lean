theorem c11_of {x : Int32} (h : 100000 ≤ x) : 11 ≤ x := (i32_le _ _).mpr (by have a := (i32_le _ _).mp h; show (11 : Int) ≤ _; have b : (100000 : Int) ≤ _ := a; omega)
theorem c11_n {x : Int32} (h : x < 11) : ¬ 11 ≤ x := fun z => by have a := (i32_lt _ _).mp h; have b := (i32_le _ _).mp z; omega
theorem c11_g {x : Int32} (h : ¬ x < 11) : 11 ≤ x := (i32_le _ _).mpr (Int.not_lt.mp (fun z => h ((i32_lt _ _).mpr z)))
set_option maxHeartbeats 4000000 in
set_option maxRecDepth 100000 in
theorem c_X12_says (l : Launch) (d : Nat) (n : Nat) (hn : 110 ≤ n) (g : xG) (w : Nat) (hw6 : w < 6) (p : Nat) (hp : p < 3) (L : xL) (hW : g 86 12 = nI w) (hL : mlR (fun k => g 92 (200 * w + k)) (fun k => g 93 (4 * w + k)) L) : xC l yX12_says cX12_says 5 (some .int) (xR (d + 1) 0 0) [.ref 86, .int (nI p)] (n, fh g) (qI n fun v g1 => v = L p (g 104) ∧ fr (fun j => j = 103) g g1) := by
  refine xC_of false (by decide +kernel) (fun z => by cases z) (Nat.le_of_ble_eq_true rfl) ?_
  obtain ⟨b, hb0, hbs, hb3, hms, hrun⟩ := hL
  have hle0 := hbs 0 (by omega)
  have hle1 := hbs 1 (by omega)
  have hle2 := hbs 2 (by omega)
  have hbp := hbs p hp
  have hb3' : b (p + 1) ≤ b 3 := by rcases (show p = 0 ∨ p = 1 ∨ p = 2 by omega) with rfl | rfl | rfl <;> first | exact Nat.le_refl _ | exact hle2 | exact Nat.le_trans hle1 hle2
  have hs0 : g 93 (4 * w + p) = nI (b p) := hms p (by omega)
  have hsN : g 93 (4 * w + p + 1) = nI (b (p + 1)) := hms (p + 1) (by omega)
  obtain ⟨N, hN⟩ : ∃ N, N = b (p + 1) := ⟨_, rfl⟩
  rw [← hN] at hbp hb3' hsN
  show xJ l (RX12, 5, (some .int), false, (xR (d + 1) 0 0), none) cX12_says _ 0 0 0 [(0, .ref 86), (1, .int (nI p))] [] (n, fh g)
  refine xj_iconst (v := 0) (by decide) dX12_says_0 ?_
  refine xj_istore_n (n := 2) (i := 2) (lv1 := [(2, .int 0), (0, .ref 86), (1, .int (nI p))]) rfl rfl (Nat.le_of_ble_eq_true rfl) dX12_says_1 ?_
  refine xj_aload_n (n := 0) (i := 0) 1 rfl rfl dX12_says_2 ?_
  refine yj_getf (v := .ref 93) fl_X12_32_12 (by omega) (fq_86 g) rfl dX12_says_3 ?_
  refine xj_iconst (v := 4) (by decide) dX12_says_6 ?_
  refine xj_aload_n (n := 0) (i := 0) 1 rfl rfl dX12_says_7 ?_
  refine yj_getf (v := .int (nI w)) fl_X12_103_12 (by omega) (fq_86 g) (congrArg (fun z => some (Value.int z)) hW) dX12_says_8 ?_
  refine xj_imul dX12_says_11 ?_
  refine xj_top (show (4 * (nI w)) = nI (4 * w) from (pk_mul 4 w)) ?_
  refine xj_iload_n (n := 1) (i := 1) 2 rfl rfl dX12_says_12 ?_
  refine xj_iadd dX12_says_13 ?_
  refine xj_top (nI_add _ _) ?_
  refine yj_ialdN ((4 * w) + p) (by omega) fA_93 rfl (by omega) (by decide) dX12_says_14 ?_
  refine xj_top hs0 ?_
  refine xj_istore_n (n := 3) (i := 3) (lv1 := [(3, .int (nI (b p))), (2, .int 0), (0, .ref 86), (1, .int (nI p))]) rfl rfl (Nat.le_of_ble_eq_true rfl) dX12_says_15 ?_
  have key : ∀ i, i ≤ N → ∀ (s : List Int32) (top : Nat) (g1 : xG), lRow s top (g1 103) → top ≤ i → fr (fun j => j = 103) g g1 → mRun (fun k => g 92 (200 * w + k)) (g 104) (N - i) i s = some [L p (g 104)] → xJ l (RX12, 5, (some .int), false, (xR (d + 1) 0 0), none) cX12_says (qI n fun v g1 => v = L p (g 104) ∧ fr (fun j => j = 103) g g1) 0 0 16 [(3, .int (nI i)), (2, .int (nI top)), (0, .ref 86), (1, .int (nI p))] [] (n, fh g1) := by
    refine x_loop N _ ?_ ?_
    · intro s top g1 hs hti hf hr
      have e86 : g1 86 = g 86 := hf 86 (by decide)
      have e92 : g1 92 = g 92 := hf 92 (by decide)
      have e93 : g1 93 = g 93 := hf 93 (by decide)
      have e104 : g1 104 = g 104 := hf 104 (by decide)
      have hrn : s = [L p (g 104)] := by rw [Nat.sub_self] at hr; exact (Option.some.inj hr)
      subst hrn
      have ht1 := lRow_top hs
      have htop : top = 1 := hs.1.symm
      refine xj_iload_n (n := 3) (i := 3) 0 rfl rfl dX12_says_16 ?_
      refine xj_aload_n (n := 0) (i := 0) 2 rfl rfl dX12_says_17 ?_
      refine yj_getf (v := .ref 93) fl_X12_32_12 (by omega) (fq_86 g1) rfl dX12_says_18 ?_
      refine xj_iconst (v := 4) (by decide) dX12_says_21 ?_
      refine xj_aload_n (n := 0) (i := 0) 2 rfl rfl dX12_says_22 ?_
      refine yj_getf (v := .int (nI w)) fl_X12_103_12 (by omega) (fq_86 g1) (congrArg (fun z => some (Value.int z)) (by rw [e86]; exact hW)) dX12_says_23 ?_
      refine xj_imul dX12_says_26 ?_
      refine xj_top (show (4 * (nI w)) = nI (4 * w) from (pk_mul 4 w)) ?_
      refine xj_iload_n (n := 1) (i := 1) 3 rfl rfl dX12_says_27 ?_
      refine xj_iadd dX12_says_28 ?_
      refine xj_top (nI_add _ _) ?_
      refine xj_iconst (v := 1) (by decide) dX12_says_29 ?_
      refine xj_iadd dX12_says_30 ?_
      refine xj_top (show ((nI ((4 * w) + p)) + 1) = nI (4 * w + p + 1) from (nI_1 _)) ?_
      refine yj_ialdN (4 * w + p + 1) (by omega) fA_93 rfl (by omega) (by decide) dX12_says_31 ?_
      refine xj_top (show g1 93 (4 * w + p + 1) = nI N from by rw [e93]; exact hsN) ?_
      refine xj_icmp_ge (tgt := 197) (by decide) dX12_says_32 (fun zc32 => ?_) (fun zc32 => ?_)
      · refine xj_aload_n (n := 0) (i := 0) 2 rfl rfl dX12_says_197 ?_
        refine yj_getf (v := .ref 103) fl_X12_62_12 (by omega) (fq_86 g1) rfl dX12_says_198 ?_
        refine xj_iconst (v := 0) (by decide) dX12_says_201 ?_
        refine yj_ialdN 0 (by omega) fA_103 rfl (by omega) (by decide) dX12_says_202 ?_
        exact xj_ireturn rfl (nr_i _) (Nat.zero_le _) (Nat.zero_le _) dX12_says_203 (qI_e ⟨by rw [← ht1.2, htop], hf⟩)
      · exact absurd (nI_le (Nat.le_refl N) (by omega)) zc32
    · intro i hi ih s top g1 hs hti hf hr
      have e86 : g1 86 = g 86 := hf 86 (by decide)
      have e92 : g1 92 = g 92 := hf 92 (by decide)
      have e93 : g1 93 = g 93 := hf 93 (by decide)
      have e104 : g1 104 = g 104 := hf 104 (by decide)
      obtain ⟨k, hk⟩ : ∃ k, N - i = k + 1 := ⟨N - i - 1, by omega⟩
      have hk2 : k = N - (i + 1) := by omega
      rw [hk] at hr
      unfold mRun at hr
      obtain ⟨s1, hs1, hr1⟩ := Option.bind_eq_some_iff.mp hr
      rw [hk2] at hr1
      refine xj_iload_n (n := 3) (i := 3) 0 rfl rfl dX12_says_16 ?_
      refine xj_aload_n (n := 0) (i := 0) 2 rfl rfl dX12_says_17 ?_
      refine yj_getf (v := .ref 93) fl_X12_32_12 (by omega) (fq_86 g1) rfl dX12_says_18 ?_
      refine xj_iconst (v := 4) (by decide) dX12_says_21 ?_
      refine xj_aload_n (n := 0) (i := 0) 2 rfl rfl dX12_says_22 ?_
      refine yj_getf (v := .int (nI w)) fl_X12_103_12 (by omega) (fq_86 g1) (congrArg (fun z => some (Value.int z)) (by rw [e86]; exact hW)) dX12_says_23 ?_
      refine xj_imul dX12_says_26 ?_
      refine xj_top (show (4 * (nI w)) = nI (4 * w) from (pk_mul 4 w)) ?_
      refine xj_iload_n (n := 1) (i := 1) 3 rfl rfl dX12_says_27 ?_
      refine xj_iadd dX12_says_28 ?_
      refine xj_top (nI_add _ _) ?_
      refine xj_iconst (v := 1) (by decide) dX12_says_29 ?_
      refine xj_iadd dX12_says_30 ?_
      refine xj_top (show ((nI ((4 * w) + p)) + 1) = nI (4 * w + p + 1) from (nI_1 _)) ?_
      refine yj_ialdN (4 * w + p + 1) (by omega) fA_93 rfl (by omega) (by decide) dX12_says_31 ?_
      refine xj_top (show g1 93 (4 * w + p + 1) = nI N from by rw [e93]; exact hsN) ?_
      refine xj_icmp_ge (tgt := 197) (by decide) dX12_says_32 (fun zc32 => ?_) (fun zc32 => ?_)
      · exact absurd zc32 (nI_ge hi (by omega))
      · refine xj_aload_n (n := 0) (i := 0) 2 rfl rfl dX12_says_35 ?_
        refine yj_getf (v := .ref 92) fl_X12_29_12 (by omega) (fq_86 g1) rfl dX12_says_36 ?_
        refine xj_sipush (v := 200) (by decide) dX12_says_39 ?_
        refine xj_aload_n (n := 0) (i := 0) 2 rfl rfl dX12_says_42 ?_
        refine yj_getf (v := .int (nI w)) fl_X12_103_12 (by omega) (fq_86 g1) (congrArg (fun z => some (Value.int z)) (by rw [e86]; exact hW)) dX12_says_43 ?_
        refine xj_imul dX12_says_46 ?_
        refine xj_top (show (200 * (nI w)) = nI (200 * w) from (pk_mul 200 w)) ?_
        refine xj_iload_n (n := 3) (i := 3) 0 rfl rfl dX12_says_47 ?_
        refine xj_iadd dX12_says_48 ?_
        refine xj_top (nI_add _ _) ?_
        refine yj_ialdN ((200 * w) + i) (by omega) fA_92 rfl (by omega) (by decide) dX12_says_49 ?_
        refine xj_topi (fun zv1 ezv1 => ?_)
        refine xj_istore (i := 4) (lv1 := [(4, .int zv1), (3, .int (nI i)), (2, .int (nI top)), (0, .ref 86), (1, .int (nI p))]) rfl (Nat.le_of_ble_eq_true rfl) dX12_says_50 ?_
        have hcode : zv1 = g 92 (200 * w + i) := by rw [ezv1, e92]
        rw [← hcode] at hs1
        rcases mStep_cases hs1 with ⟨h1, rfl⟩ | ⟨h1, h2, h3, rfl⟩ | ⟨h1, h2, h3, x, r, rfl, rfl⟩ | ⟨h1, h2, h3, h4, x, r, rfl, rfl⟩ | ⟨h1, h2, h3, h4, y, x, r, rfl, rfl⟩
        · have hl1 := hs.1
          refine xj_iload (i := 4) 0 rfl dX12_says_52 ?_
          refine xj_ldc cn_X12_152 dX12_says_54 ?_
          refine xj_icmp_ge (tgt := 66) (by decide) dX12_says_56 (fun zc56 => ?_) (fun zc56 => ?_)
          · refine xj_aload_n (n := 0) (i := 0) 3 rfl rfl dX12_says_66 ?_
            refine yj_getf (v := .ref 103) fl_X12_62_12 (by omega) (fq_86 g1) rfl dX12_says_67 ?_
            refine xj_iload_n (n := 2) (i := 2) 2 rfl rfl dX12_says_70 ?_
            refine xj_iload (i := 4) 0 rfl dX12_says_71 ?_
            refine xj_bipush (v := 11) (by decide) dX12_says_73 ?_
            refine xj_icmp_ge (tgt := 88) (by decide) dX12_says_75 (fun zc75 => ?_) (fun zc75 => ?_)
            · refine xj_iload (i := 4) 0 rfl dX12_says_88 ?_
              refine xj_ldc cn_X12_152 dX12_says_90 ?_
              refine xj_isub dX12_says_92 ?_
              refine xj_topi (fun zv2 ezv2 => ?_)
              refine yj_iastN top (by omega) fA_103 rfl (by omega) (by decide) dX12_says_93 ?_
              obtain ⟨zg3, ezg3⟩ : ∃ z, z = gs g1 103 top zv2 := ⟨_, rfl⟩
              rw [← ezg3]
              refine xj_iinc (n := 1) (i := 2) (v := nI (top + 1)) (lv1 := [(2, .int (nI (top + 1))), (4, .int zv1), (3, .int (nI i)), (0, .ref 86), (1, .int (nI p))]) 2 rfl (nI_1 top) rfl (Nat.le_of_ble_eq_true rfl) dX12_says_94 ?_
              refine xj_goto (tgt := 191) (by decide) dX12_says_97 ?_
              refine xj_iinc (n := 1) (i := 3) (v := nI (i + 1)) (lv1 := [(3, .int (nI (i + 1))), (2, .int (nI (top + 1))), (4, .int zv1), (0, .ref 86), (1, .int (nI p))]) 2 rfl (nI_1 i) rfl (Nat.le_of_ble_eq_true rfl) dX12_says_191 ?_
              refine xj_goto (tgt := 16) (by decide) dX12_says_194 ?_
              refine xj_sub (lv' := [(3, .int (nI (i + 1))), (2, .int (nI (top + 1))), (0, .ref 86), (1, .int (nI p))]) [0, 1, 3, 4] rfl ?_
              refine ih _ (top + 1) zg3 ?_ (by omega) ?_ hr1
              · rw [ezg3, gs_s, ezv2]
                exact lRow_push hs _
              · rw [ezg3]; exact hf.gs rfl _ _
            · exact absurd (c11_of h1) zc75
          · exact absurd h1 zc56
        · have hl1 := hs.1
          obtain ⟨kn, hkn, ekn⟩ := nI_bnd (m := 5) (by decide) h3.1 h3.2
          refine xj_iload (i := 4) 0 rfl dX12_says_52 ?_
          refine xj_ldc cn_X12_152 dX12_says_54 ?_
          refine xj_icmp_ge (tgt := 66) (by decide) dX12_says_56 (fun zc56 => ?_) (fun zc56 => ?_)
          · exact absurd zc56 h1
          · refine xj_iload (i := 4) 0 rfl dX12_says_59 ?_
            refine xj_bipush (v := 11) (by decide) dX12_says_61 ?_
            refine xj_icmp_ge (tgt := 100) (by decide) dX12_says_63 (fun zc63 => ?_) (fun zc63 => ?_)
            · exact absurd zc63 (c11_n h2)
            · refine xj_aload_n (n := 0) (i := 0) 3 rfl rfl dX12_says_66 ?_
              refine yj_getf (v := .ref 103) fl_X12_62_12 (by omega) (fq_86 g1) rfl dX12_says_67 ?_
              refine xj_iload_n (n := 2) (i := 2) 2 rfl rfl dX12_says_70 ?_
              refine xj_iload (i := 4) 0 rfl dX12_says_71 ?_
              refine xj_bipush (v := 11) (by decide) dX12_says_73 ?_
              refine xj_icmp_ge (tgt := 88) (by decide) dX12_says_75 (fun zc75 => ?_) (fun zc75 => ?_)
              · exact absurd zc75 (c11_n h2)
              · refine xj_aload_n (n := 0) (i := 0) 3 rfl rfl dX12_says_78 ?_
                refine yj_getf (v := .ref 104) fl_X12_65_12 (by omega) (fq_86 g1) rfl dX12_says_79 ?_
                refine xj_iload (i := 4) 0 rfl dX12_says_82 ?_
                refine yj_ialdN kn (by omega) fA_104 ekn (by omega) (by decide) dX12_says_84 ?_
                refine xj_goto (tgt := 93) (by decide) dX12_says_85 ?_
                refine xj_topi (fun zv4 ezv4 => ?_)
                refine yj_iastN top (by omega) fA_103 rfl (by omega) (by decide) dX12_says_93 ?_
                obtain ⟨zg5, ezg5⟩ : ∃ z, z = gs g1 103 top zv4 := ⟨_, rfl⟩
                rw [← ezg5]
                refine xj_iinc (n := 1) (i := 2) (v := nI (top + 1)) (lv1 := [(2, .int (nI (top + 1))), (4, .int zv1), (3, .int (nI i)), (0, .ref 86), (1, .int (nI p))]) 2 rfl (nI_1 top) rfl (Nat.le_of_ble_eq_true rfl) dX12_says_94 ?_
                refine xj_goto (tgt := 191) (by decide) dX12_says_97 ?_
                refine xj_iinc (n := 1) (i := 3) (v := nI (i + 1)) (lv1 := [(3, .int (nI (i + 1))), (2, .int (nI (top + 1))), (4, .int zv1), (0, .ref 86), (1, .int (nI p))]) 2 rfl (nI_1 i) rfl (Nat.le_of_ble_eq_true rfl) dX12_says_191 ?_
                refine xj_goto (tgt := 16) (by decide) dX12_says_194 ?_
                refine xj_sub (lv' := [(3, .int (nI (i + 1))), (2, .int (nI (top + 1))), (0, .ref 86), (1, .int (nI p))]) [0, 1, 3, 4] rfl ?_
                refine ih _ (top + 1) zg5 ?_ (by omega) ?_ hr1
                · rw [ezg5, gs_s, ezv4, e104, ekn, nI_clamp (by omega)]
                  exact lRow_push hs _
                · rw [ezg5]; exact hf.gs rfl _ _
        · have hl1 := hs.1
          simp only [List.length_cons] at hl1
          obtain ⟨j, rfl⟩ : ∃ j, top = j + 1 := ⟨top - 1, by omega⟩
          refine xj_iload (i := 4) 0 rfl dX12_says_52 ?_
          refine xj_ldc cn_X12_152 dX12_says_54 ?_
          refine xj_icmp_ge (tgt := 66) (by decide) dX12_says_56 (fun zc56 => ?_) (fun zc56 => ?_)
          · exact absurd zc56 h1
          · refine xj_iload (i := 4) 0 rfl dX12_says_59 ?_
            refine xj_bipush (v := 11) (by decide) dX12_says_61 ?_
            refine xj_icmp_ge (tgt := 100) (by decide) dX12_says_63 (fun zc63 => ?_) (fun zc63 => ?_)
            · refine xj_iload (i := 4) 0 rfl dX12_says_100 ?_
              refine xj_bipush (v := 13) (by decide) dX12_says_102 ?_
              refine xj_icmp_ne (tgt := 134) (by decide) dX12_says_104 (fun zc104 => ?_) (fun zc104 => ?_)
              · exact absurd zc104 (fun z => z h3)
              · refine xj_aload_n (n := 0) (i := 0) 3 rfl rfl dX12_says_107 ?_
                refine yj_getf (v := .ref 103) fl_X12_62_12 (by omega) (fq_86 g1) rfl dX12_says_108 ?_
                refine xj_iload_n (n := 2) (i := 2) 2 rfl rfl dX12_says_111 ?_
                refine xj_iconst (v := 1) (by decide) dX12_says_112 ?_
                refine xj_isub dX12_says_113 ?_
                refine xj_aload_n (n := 0) (i := 0) 3 rfl rfl dX12_says_114 ?_
                refine yj_getf (v := .ref 103) fl_X12_62_12 (by omega) (fq_86 g1) rfl dX12_says_115 ?_
                refine xj_iload_n (n := 2) (i := 2) 2 rfl rfl dX12_says_118 ?_
                refine xj_iconst (v := 1) (by decide) dX12_says_119 ?_
                refine xj_isub dX12_says_120 ?_
                refine yj_ialdN j (by omega) fA_103 (nI_pred j) (by omega) (by decide) dX12_says_121 ?_
                refine xj_if_ne (tgt := 129) (by decide) dX12_says_122 (fun zc122 => ?_) (fun zc122 => ?_)
                · have h9 := lRow_top1 hs
                  have h8 : bI (x = 0) = 0 := by rw [h9] at zc122; exact bI_f zc122
                  refine xj_iconst (v := 0) (by decide) dX12_says_129 ?_
                  refine yj_iastN j (by omega) fA_103 (nI_pred j) (by omega) (by decide) dX12_says_130 ?_
                  obtain ⟨zg6, ezg6⟩ : ∃ z, z = gs g1 103 j 0 := ⟨_, rfl⟩
                  rw [← ezg6]
                  refine xj_goto (tgt := 191) (by decide) dX12_says_131 ?_
                  refine xj_iinc (n := 1) (i := 3) (v := nI (i + 1)) (lv1 := [(3, .int (nI (i + 1))), (4, .int zv1), (2, .int (nI (j + 1))), (0, .ref 86), (1, .int (nI p))]) 1 rfl (nI_1 i) rfl (Nat.le_of_ble_eq_true rfl) dX12_says_191 ?_
                  refine xj_goto (tgt := 16) (by decide) dX12_says_194 ?_
                  refine xj_sub (lv' := [(3, .int (nI (i + 1))), (2, .int (nI (j + 1))), (0, .ref 86), (1, .int (nI p))]) [0, 2, 3, 4] rfl ?_
                  refine ih _ (j + 1) zg6 ?_ (by omega) ?_ hr1
                  · rw [ezg6, gs_s, h8]
                    exact lRow_set1 hs _
                  · rw [ezg6]; exact hf.gs rfl _ _
                · have h9 := lRow_top1 hs
                  have h8 : bI (x = 0) = 1 := by rw [h9] at zc122; exact bI_t zc122
                  refine xj_iconst (v := 1) (by decide) dX12_says_125 ?_
                  refine xj_goto (tgt := 130) (by decide) dX12_says_126 ?_
                  refine yj_iastN j (by omega) fA_103 (nI_pred j) (by omega) (by decide) dX12_says_130 ?_
                  obtain ⟨zg7, ezg7⟩ : ∃ z, z = gs g1 103 j 1 := ⟨_, rfl⟩
                  rw [← ezg7]
                  refine xj_goto (tgt := 191) (by decide) dX12_says_131 ?_
                  refine xj_iinc (n := 1) (i := 3) (v := nI (i + 1)) (lv1 := [(3, .int (nI (i + 1))), (4, .int zv1), (2, .int (nI (j + 1))), (0, .ref 86), (1, .int (nI p))]) 1 rfl (nI_1 i) rfl (Nat.le_of_ble_eq_true rfl) dX12_says_191 ?_
                  refine xj_goto (tgt := 16) (by decide) dX12_says_194 ?_
                  refine xj_sub (lv' := [(3, .int (nI (i + 1))), (2, .int (nI (j + 1))), (0, .ref 86), (1, .int (nI p))]) [0, 2, 3, 4] rfl ?_
                  refine ih _ (j + 1) zg7 ?_ (by omega) ?_ hr1
                  · rw [ezg7, gs_s, h8]
                    exact lRow_set1 hs _
                  · rw [ezg7]; exact hf.gs rfl _ _
            · exact absurd (c11_g h2) zc63
        · have hl1 := hs.1
          simp only [List.length_cons] at hl1
          obtain ⟨j, rfl⟩ : ∃ j, top = j + 1 := ⟨top - 1, by omega⟩
          refine xj_iload (i := 4) 0 rfl dX12_says_52 ?_
          refine xj_ldc cn_X12_152 dX12_says_54 ?_
          refine xj_icmp_ge (tgt := 66) (by decide) dX12_says_56 (fun zc56 => ?_) (fun zc56 => ?_)
          · exact absurd zc56 h1
          · refine xj_iload (i := 4) 0 rfl dX12_says_59 ?_
            refine xj_bipush (v := 11) (by decide) dX12_says_61 ?_
            refine xj_icmp_ge (tgt := 100) (by decide) dX12_says_63 (fun zc63 => ?_) (fun zc63 => ?_)
            · refine xj_iload (i := 4) 0 rfl dX12_says_100 ?_
              refine xj_bipush (v := 13) (by decide) dX12_says_102 ?_
              refine xj_icmp_ne (tgt := 134) (by decide) dX12_says_104 (fun zc104 => ?_) (fun zc104 => ?_)
              · refine xj_iload (i := 4) 0 rfl dX12_says_134 ?_
                refine xj_bipush (v := 19) (by decide) dX12_says_136 ?_
                refine xj_icmp_ne (tgt := 161) (by decide) dX12_says_138 (fun zc138 => ?_) (fun zc138 => ?_)
                · exact absurd zc138 (fun z => z h4)
                · refine xj_aload_n (n := 0) (i := 0) 3 rfl rfl dX12_says_141 ?_
                  refine yj_getf (v := .ref 103) fl_X12_62_12 (by omega) (fq_86 g1) rfl dX12_says_142 ?_
                  refine xj_iload_n (n := 2) (i := 2) 2 rfl rfl dX12_says_145 ?_
                  refine xj_iconst (v := 1) (by decide) dX12_says_146 ?_
                  refine xj_isub dX12_says_147 ?_
                  refine xj_aload_n (n := 0) (i := 0) 3 rfl rfl dX12_says_148 ?_
                  refine yj_getf (v := .ref 103) fl_X12_62_12 (by omega) (fq_86 g1) rfl dX12_says_149 ?_
                  refine xj_iload_n (n := 2) (i := 2) 2 rfl rfl dX12_says_152 ?_
                  refine xj_iconst (v := 1) (by decide) dX12_says_153 ?_
                  refine xj_isub dX12_says_154 ?_
                  refine yj_ialdN j (by omega) fA_103 (nI_pred j) (by omega) (by decide) dX12_says_155 ?_
                  refine xj_ineg dX12_says_156 ?_
                  refine xj_topi (fun zv8 ezv8 => ?_)
                  refine yj_iastN j (by omega) fA_103 (nI_pred j) (by omega) (by decide) dX12_says_157 ?_
                  obtain ⟨zg9, ezg9⟩ : ∃ z, z = gs g1 103 j zv8 := ⟨_, rfl⟩
                  rw [← ezg9]
                  refine xj_goto (tgt := 191) (by decide) dX12_says_158 ?_
                  refine xj_iinc (n := 1) (i := 3) (v := nI (i + 1)) (lv1 := [(3, .int (nI (i + 1))), (4, .int zv1), (2, .int (nI (j + 1))), (0, .ref 86), (1, .int (nI p))]) 1 rfl (nI_1 i) rfl (Nat.le_of_ble_eq_true rfl) dX12_says_191 ?_
                  refine xj_goto (tgt := 16) (by decide) dX12_says_194 ?_
                  refine xj_sub (lv' := [(3, .int (nI (i + 1))), (2, .int (nI (j + 1))), (0, .ref 86), (1, .int (nI p))]) [0, 2, 3, 4] rfl ?_
                  refine ih _ (j + 1) zg9 ?_ (by omega) ?_ hr1
                  · rw [ezg9, gs_s, ezv8, lRow_top1 hs]
                    exact lRow_set1 hs _
                  · rw [ezg9]; exact hf.gs rfl _ _
              · exact absurd zc104 h3
            · exact absurd (c11_g h2) zc63
        · have hl1 := hs.1
          simp only [List.length_cons] at hl1
          obtain ⟨j, rfl⟩ : ∃ j, top = j + 2 := ⟨top - 2, by omega⟩
          refine xj_iload (i := 4) 0 rfl dX12_says_52 ?_
          refine xj_ldc cn_X12_152 dX12_says_54 ?_
          refine xj_icmp_ge (tgt := 66) (by decide) dX12_says_56 (fun zc56 => ?_) (fun zc56 => ?_)
          · exact absurd zc56 h1
          · refine xj_iload (i := 4) 0 rfl dX12_says_59 ?_
            refine xj_bipush (v := 11) (by decide) dX12_says_61 ?_
            refine xj_icmp_ge (tgt := 100) (by decide) dX12_says_63 (fun zc63 => ?_) (fun zc63 => ?_)
            · refine xj_iload (i := 4) 0 rfl dX12_says_100 ?_
              refine xj_bipush (v := 13) (by decide) dX12_says_102 ?_
              refine xj_icmp_ne (tgt := 134) (by decide) dX12_says_104 (fun zc104 => ?_) (fun zc104 => ?_)
              · refine xj_iload (i := 4) 0 rfl dX12_says_134 ?_
                refine xj_bipush (v := 19) (by decide) dX12_says_136 ?_
                refine xj_icmp_ne (tgt := 161) (by decide) dX12_says_138 (fun zc138 => ?_) (fun zc138 => ?_)
                · refine xj_iinc (n := -1) (i := 2) (v := nI (j + 1)) (lv1 := [(2, .int (nI (j + 1))), (4, .int zv1), (3, .int (nI i)), (0, .ref 86), (1, .int (nI p))]) 2 rfl (pk_m1 (j + 1)) rfl (Nat.le_of_ble_eq_true rfl) dX12_says_161 ?_
                  refine xj_aload_n (n := 0) (i := 0) 3 rfl rfl dX12_says_164 ?_
                  refine yj_getf (v := .ref 103) fl_X12_62_12 (by omega) (fq_86 g1) rfl dX12_says_165 ?_
                  refine xj_iload_n (n := 2) (i := 2) 0 rfl rfl dX12_says_168 ?_
                  refine xj_iconst (v := 1) (by decide) dX12_says_169 ?_
                  refine xj_isub dX12_says_170 ?_
                  refine xj_iload (i := 4) 1 rfl dX12_says_171 ?_
                  refine xj_aload_n (n := 0) (i := 0) 3 rfl rfl dX12_says_173 ?_
                  refine yj_getf (v := .ref 103) fl_X12_62_12 (by omega) (fq_86 g1) rfl dX12_says_174 ?_
                  refine xj_iload_n (n := 2) (i := 2) 0 rfl rfl dX12_says_177 ?_
                  refine xj_iconst (v := 1) (by decide) dX12_says_178 ?_
                  refine xj_isub dX12_says_179 ?_
                  refine yj_ialdN j (by omega) fA_103 (nI_pred j) (by omega) (by decide) dX12_says_180 ?_
                  refine xj_aload_n (n := 0) (i := 0) 3 rfl rfl dX12_says_181 ?_
                  refine yj_getf (v := .ref 103) fl_X12_62_12 (by omega) (fq_86 g1) rfl dX12_says_182 ?_
                  refine xj_iload_n (n := 2) (i := 2) 0 rfl rfl dX12_says_185 ?_
                  refine yj_ialdN (j + 1) (by omega) fA_103 rfl (by omega) (by decide) dX12_says_186 ?_
                  refine xj_callS ks_X12_166 (c_X12_two l (d + 0) zv1 (g1 103 j) (g1 103 (j + 1)) _) (As := [.int zv1, .int (g1 103 j), .int (g1 103 (j + 1))]) (st := [.int ((nI (j + 1)) - 1), .ref 103]) rfl rfl (xRm_of (by omega) (by decide) (by omega) (by omega)) (Nat.le_of_ble_eq_true rfl) dX12_says_187 (yk_p (kc := 0) (ks := 0) ?_)
                  refine xj_topi (fun zv10 ezv10 => ?_)
                  refine yj_iastN j (by omega) fA_103 (nI_pred j) (by omega) (by decide) dX12_says_190 ?_
                  obtain ⟨zg11, ezg11⟩ : ∃ z, z = gs g1 103 j zv10 := ⟨_, rfl⟩
                  rw [← ezg11]
                  refine xj_iinc (n := 1) (i := 3) (v := nI (i + 1)) (lv1 := [(3, .int (nI (i + 1))), (2, .int (nI (j + 1))), (4, .int zv1), (0, .ref 86), (1, .int (nI p))]) 2 rfl (nI_1 i) rfl (Nat.le_of_ble_eq_true rfl) dX12_says_191 ?_
                  refine xj_goto (tgt := 16) (by decide) dX12_says_194 ?_
                  refine xj_sub (lv' := [(3, .int (nI (i + 1))), (2, .int (nI (j + 1))), (0, .ref 86), (1, .int (nI p))]) [0, 1, 3, 4] rfl ?_
                  refine ih _ (j + 1) zg11 ?_ (by omega) ?_ hr1
                  · rw [ezg11, gs_s, ezv10, lRow_top1 hs, lRow_top1 (lRow_pop1 hs)]
                    exact lRow_set1 (lRow_pop1 hs) _
                  · rw [ezg11]; exact hf.gs rfl _ _
                · exact absurd zc138 h4
              · exact absurd zc104 h3
            · exact absurd (c11_g h2) zc63
  refine xj_sub (lv' := [(3, .int (nI (b p))), (2, .int 0), (0, .ref 86), (1, .int (nI p))]) [0, 1, 2, 3] rfl ?_
  exact key (b p) hbp [] 0 g (lRow_0 _) (Nat.zero_le _) fr.rf (by have h9 := hrun p hp (g 104); rw [← hN] at h9; exact h9)
