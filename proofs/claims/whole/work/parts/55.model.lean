/-- the row in thought -/
def rwA (g : xG) (d : Nat → Int32) (N : Nat) : Prop := (∀ c, c < 16 → g 105 c = d c ∧ nI99 (d c) 99) ∧ g 86 33 = nI N
theorem rwA.keep {g g1 : xG} {d : Nat → Int32} {N : Nat} (R : rwA g d N) (hf : fr sN g g1) : rwA g1 d N := ⟨fun c hc => by rw [hf 105 (by unfold sN; omega)]; exact R.1 c hc, by rw [hf 86 (by unfold sN; omega)]; exact R.2⟩
theorem wi_99 {x : Int32} {m : Nat} (hm : m < 2 ^ 31) (h : nI99 x m) : wiF x 0 99 = min99 x := by
  obtain ⟨k, hk, rfl⟩ := h
  unfold wiF min99
  rw [if_neg (nI_pos (by omega))]
  by_cases h1 : nI k < 99
  · have a := (nI_ltI (b := 99) (by omega) (by decide)).mp h1
    rw [if_pos h1, if_neg (fun z => by have b := (nI_ltI (a := 99) (by omega) (by omega)).mp z; omega)]
  · have a : ¬ k < 99 := fun z => h1 ((nI_ltI (b := 99) (by omega) (by decide)).mpr z)
    rw [if_neg h1]
    by_cases h2 : (99 : Int32) < nI k
    · rw [if_pos h2]
    · have b : ¬ 99 < k := fun z => h2 ((nI_ltI (a := 99) (by omega) (by omega)).mpr z)
      rw [if_neg h2, show k = 99 by omega]
      rfl
theorem dlr_n {A : zSt} {Λ : Nat → xL} {s : Nat} (O : okA A) (hs : s < aS A) (c : Nat) {x : Int32} (on : Int32) (h : nI99 x 99) : nI99 (x + dlrF (Λ (aW A)) (aK A s) (A 2 s) (A 3 s) c x on) 208 := nI99_add h (kDull_n (aK A s) (nI c) on (clF_n 0 _) (O.2.2.2.2.2.2.1 s hs).2.1)
theorem costS_all (L : xL) (k : Nat) (more pic : Int32) (dull : Nat → Int32) (night : Int32) : sumF (fun c => costF L k more pic c (dull c) night) 16 = costS L k more pic dull 65535 night := by
  refine sumF_congr (fun c hc => ?_)
  have h : hasF 65535 (nI c) = true := by
    rcases (show c = 0 ∨ c = 1 ∨ c = 2 ∨ c = 3 ∨ c = 4 ∨ c = 5 ∨ c = 6 ∨ c = 7 ∨ c = 8 ∨ c = 9 ∨ c = 10 ∨ c = 11 ∨ c = 12 ∨ c = 13 ∨ c = 14 ∨ c = 15 by omega) with rfl | rfl | rfl | rfl | rfl | rfl | rfl | rfl | rfl | rfl | rfl | rfl | rfl | rfl | rfl | rfl <;> decide
  exact (if_pos h).symm
set_option maxHeartbeats 4000000 in
set_option maxRecDepth 100000 in
theorem c_X12_dullAll (l : Launch) (d : Nat) (n : Nat) (hn : 110 ≤ n) (g : xG) (A : zSt) (Λ : Nat → xL) (O : okA A) (C : mA g A Λ) (s : Nat) (hs : s < aS A)  : xC l yX12_dullAll cX12_dullAll 4 (some .int) (xR (d + 1) 0 0) [.ref 86, .int (nI s)] (n, fh g) (qP (sumF (A (10 + s)) 16) (n, fh g)) := by
  refine xC_of false (by decide +kernel) (fun z => by cases z) (Nat.le_of_ble_eq_true rfl) ?_
  have hS6 := O.1.2
  have hW := O.W
  have hT6 := O.2.2.2.1.2.2
  have hN9 := O.2.1.2
  have hs6_s : s < 6 := by omega
  show xJ l (RX12, 4, (some .int), false, (xR (d + 1) 0 0), none) cX12_dullAll _ 0 0 0 [(0, .ref 86), (1, .int (nI s))] [] (n, fh g)
  refine xj_iconst (v := 0) (by decide) dX12_dullAll_0 ?_
  refine xj_istore_n (n := 2) (i := 2) (lv1 := [(2, .int 0), (0, .ref 86), (1, .int (nI s))]) rfl rfl (Nat.le_of_ble_eq_true rfl) dX12_dullAll_1 ?_
  refine xj_iconst (v := 0) (by decide) dX12_dullAll_2 ?_
  refine xj_istore_n (n := 3) (i := 3) (lv1 := [(3, .int 0), (2, .int 0), (0, .ref 86), (1, .int (nI s))]) rfl rfl (Nat.le_of_ble_eq_true rfl) dX12_dullAll_3 ?_
  have key : ∀ i, i ≤ 16 → ∀ (_ : True), xJ l (RX12, 4, (some .int), false, (xR (d + 1) 0 0), none) cX12_dullAll (qP (sumF (A (10 + s)) 16) (n, fh g)) 0 0 4 [(3, .int (nI i)), (2, .int (sumF (A (10 + s)) i)), (0, .ref 86), (1, .int (nI s))] [] (n, fh g) := by
    refine x_loop 16 _ ?_ ?_
    · intro _
      refine xj_iload_n (n := 3) (i := 3) 0 rfl rfl dX12_dullAll_4 ?_
      refine xj_bipush (v := 16) (by decide) dX12_dullAll_5 ?_
      refine xj_icmp_ge (tgt := 30) (by decide) dX12_dullAll_7 (fun zc7 => ?_) (fun zc7 => ?_)
      · refine xj_iload_n (n := 2) (i := 2) 1 rfl rfl dX12_dullAll_30 ?_
        exact xj_ireturn rfl (nr_i _) (Nat.zero_le _) (Nat.zero_le _) dX12_dullAll_31 (qP_e rfl)
      · exact absurd (nI_le (Nat.le_refl _) (by decide)) zc7
    · intro i hi ih _
      refine xj_iload_n (n := 3) (i := 3) 0 rfl rfl dX12_dullAll_4 ?_
      refine xj_bipush (v := 16) (by decide) dX12_dullAll_5 ?_
      refine xj_icmp_ge (tgt := 30) (by decide) dX12_dullAll_7 (fun zc7 => ?_) (fun zc7 => ?_)
      · exact absurd zc7 (nI_ge hi (by decide))
      · refine xj_iload_n (n := 2) (i := 2) 1 rfl rfl dX12_dullAll_10 ?_
        refine xj_aload_n (n := 0) (i := 0) 2 rfl rfl dX12_dullAll_11 ?_
        refine yj_getf (v := .ref 89) fl_X12_16_12 (by omega) (fq_86 g) rfl dX12_dullAll_12 ?_
        refine xj_bipush (v := 16) (by decide) dX12_dullAll_15 ?_
        refine xj_iload_n (n := 1) (i := 1) 3 rfl rfl dX12_dullAll_17 ?_
        refine xj_imul dX12_dullAll_18 ?_
        refine xj_top (pk_mul 16 s) ?_
        refine xj_iload_n (n := 3) (i := 3) 0 rfl rfl dX12_dullAll_19 ?_
        refine xj_iadd dX12_dullAll_20 ?_
        refine xj_top (nI_add _ _) ?_
        refine yj_ialdN ((16 * s) + i) (by omega) fA_89 rfl (by omega) (by decide) dX12_dullAll_21 ?_
        refine xj_top (C.du hs (by omega)) ?_
        refine xj_iadd dX12_dullAll_22 ?_
        refine xj_topi (fun zv1 ezv1 => ?_)
        refine xj_istore_n (n := 2) (i := 2) (lv1 := [(2, .int zv1), (3, .int (nI i)), (0, .ref 86), (1, .int (nI s))]) rfl rfl (Nat.le_of_ble_eq_true rfl) dX12_dullAll_23 ?_
        refine xj_iinc (n := 1) (i := 3) (v := nI (i + 1)) (lv1 := [(3, .int (nI (i + 1))), (2, .int zv1), (0, .ref 86), (1, .int (nI s))]) 1 rfl (nI_1 i) rfl (Nat.le_of_ble_eq_true rfl) dX12_dullAll_24 ?_
        refine xj_goto (tgt := 4) (by decide) dX12_dullAll_27 ?_
        refine xj_sub (lv' := [(3, .int (nI (i + 1))), (2, .int zv1), (0, .ref 86), (1, .int (nI s))]) [0, 1, 2, 3] rfl ?_
        have h9 := ih True.intro
        rw [show sumF (A (10 + s)) (i + 1) = zv1 from ezv1.symm] at h9
        exact h9
  refine xj_sub (lv' := [(3, .int 0), (2, .int 0), (0, .ref 86), (1, .int (nI s))]) [0, 1, 2, 3] rfl ?_
  exact key 0 (Nat.zero_le _) True.intro
set_option maxHeartbeats 4000000 in
set_option maxRecDepth 100000 in
theorem c_X12_clearSet (l : Launch) (d : Nat) (n : Nat) (hn : 110 ≤ n) (g : xG) (A : zSt) (Λ : Nat → xL) (O : okA A) (C : mA g A Λ) (s : Nat) (hs : s < aS A)  : xC l yX12_clearSet cX12_clearSet 4 (some .int) (xR (d + 4) 0 0) [.ref 86, .int (nI s)] (n, fh g) (qI n fun v g1 => v = clP A Λ s ∧ fr sN g g1) := by
  refine xC_of false (by decide +kernel) (fun z => by cases z) (Nat.le_of_ble_eq_true rfl) ?_
  have hS6 := O.1.2
  have hW := O.W
  have hT6 := O.2.2.2.1.2.2
  have hN9 := O.2.1.2
  have hs6_s : s < 6 := by omega
  show xJ l (RX12, 4, (some .int), false, (xR (d + 4) 0 0), none) cX12_clearSet _ 0 0 0 [(0, .ref 86), (1, .int (nI s))] [] (n, fh g)
  refine xj_iconst (v := 0) (by decide) dX12_clearSet_0 ?_
  refine xj_istore_n (n := 2) (i := 2) (lv1 := [(2, .int 0), (0, .ref 86), (1, .int (nI s))]) rfl rfl (Nat.le_of_ble_eq_true rfl) dX12_clearSet_1 ?_
  refine xj_iconst (v := 0) (by decide) dX12_clearSet_2 ?_
  refine xj_istore_n (n := 3) (i := 3) (lv1 := [(3, .int 0), (2, .int 0), (0, .ref 86), (1, .int (nI s))]) rfl rfl (Nat.le_of_ble_eq_true rfl) dX12_clearSet_3 ?_
  have key : ∀ i, i ≤ 16 → ∀ (g1 : xG), fr sN g g1 → xJ l (RX12, 4, (some .int), false, (xR (d + 4) 0 0), none) cX12_clearSet (qI n fun v g1 => v = clP A Λ s ∧ fr sN g g1) 0 0 4 [(3, .int (nI i)), (2, .int (setF (fun c => clearF (Λ (aW A)) (aK A s) (A 2 s) (A 3 s) c (A (10 + s) c) (nI (aN A))) i)), (0, .ref 86), (1, .int (nI s))] [] (n, fh g1) := by
    refine x_loop 16 _ ?_ ?_
    · intro g1 hf
      refine xj_iload_n (n := 3) (i := 3) 0 rfl rfl dX12_clearSet_4 ?_
      refine xj_bipush (v := 16) (by decide) dX12_clearSet_5 ?_
      refine xj_icmp_ge (tgt := 50) (by decide) dX12_clearSet_7 (fun zc7 => ?_) (fun zc7 => ?_)
      · refine xj_iload_n (n := 2) (i := 2) 1 rfl rfl dX12_clearSet_50 ?_
        exact xj_ireturn rfl (nr_i _) (Nat.zero_le _) (Nat.zero_le _) dX12_clearSet_51 (qI_e ⟨rfl, hf⟩)
      · exact absurd (nI_le (Nat.le_refl _) (by decide)) zc7
    · intro i hi ih g1 hf
      refine xj_iload_n (n := 3) (i := 3) 0 rfl rfl dX12_clearSet_4 ?_
      refine xj_bipush (v := 16) (by decide) dX12_clearSet_5 ?_
      refine xj_icmp_ge (tgt := 50) (by decide) dX12_clearSet_7 (fun zc7 => ?_) (fun zc7 => ?_)
      · exact absurd zc7 (nI_ge hi (by decide))
      · refine xj_iload_n (n := 2) (i := 2) 1 rfl rfl dX12_clearSet_10 ?_
        refine xj_aload_n (n := 0) (i := 0) 2 rfl rfl dX12_clearSet_11 ?_
        refine xj_iload_n (n := 1) (i := 1) 3 rfl rfl dX12_clearSet_12 ?_
        refine xj_iload_n (n := 3) (i := 3) 0 rfl rfl dX12_clearSet_13 ?_
        refine xj_aload_n (n := 0) (i := 0) 2 rfl rfl dX12_clearSet_14 ?_
        refine yj_getf (v := .ref 89) fl_X12_16_12 (by omega) (fq_86 g1) rfl dX12_clearSet_15 ?_
        refine xj_bipush (v := 16) (by decide) dX12_clearSet_18 ?_
        refine xj_iload_n (n := 1) (i := 1) 3 rfl rfl dX12_clearSet_20 ?_
        refine xj_imul dX12_clearSet_21 ?_
        refine xj_top (pk_mul 16 s) ?_
        refine xj_iload_n (n := 3) (i := 3) 0 rfl rfl dX12_clearSet_22 ?_
        refine xj_iadd dX12_clearSet_23 ?_
        refine xj_top (nI_add _ _) ?_
        refine yj_ialdN ((16 * s) + i) (by omega) fA_89 rfl (by omega) (by decide) dX12_clearSet_24 ?_
        refine xj_top ((C.keep (fm.of hf sN_m)).du hs (by omega)) ?_
        refine xj_aload_n (n := 0) (i := 0) 2 rfl rfl dX12_clearSet_25 ?_
        refine yj_getf (v := .int (nI (aN A))) fl_X12_97_12 (by omega) (fq_86 g1) (congrArg (fun z => some (Value.int z)) ((C.keep (fm.of hf sN_m)).N O)) dX12_clearSet_26 ?_
        refine xj_callV kv_X12_196 (c_X12_isClear l (d + 0) n hn g1 A Λ O (C.keep (fm.of hf sN_m)) s i hs (by omega) (A (10 + s) i) (nI (aN A))) (As := [.int (nI s), .int (nI i), .int (A (10 + s) i), .int (nI (aN A))]) (st := [.int (setF (fun c => clearF (Λ (aW A)) (aK A s) (A 2 s) (A 3 s) c (A (10 + s) c) (nI (aN A))) i)]) (by omega) (fq_86 g1) (ci := 12) rfl rfl rfl rfl (xRm_of (by omega) (by decide) (by omega) (by omega)) (Nat.le_of_ble_eq_true rfl) dX12_clearSet_29 (yk_i (kc := 0) (ks := 0) fun zv1 zg2 hzg2 => ?_)
        obtain ⟨hvzv1, hfnzg2⟩ := hzg2
        have hxzg2 := hfnzg2
        have Czg2 := (C.keep (fm.of hf sN_m)).keep (fm.of hxzg2 sN_m)
        refine xj_if_eq (tgt := 41) (by decide) dX12_clearSet_32 (fun zc32 => ?_) (fun zc32 => ?_)
        · have hob : ¬ (fun c => clearF (Λ (aW A)) (aK A s) (A 2 s) (A 3 s) c (A (10 + s) c) (nI (aN A))) i = true := bI_0.mp (hvzv1.symm.trans zc32)
          refine xj_iconst (v := 0) (by decide) dX12_clearSet_41 ?_
          refine xj_ior dX12_clearSet_42 ?_
          refine xj_topi (fun zv3 ezv3 => ?_)
          refine xj_istore_n (n := 2) (i := 2) (lv1 := [(2, .int zv3), (3, .int (nI i)), (0, .ref 86), (1, .int (nI s))]) rfl rfl (Nat.le_of_ble_eq_true rfl) dX12_clearSet_43 ?_
          refine xj_iinc (n := 1) (i := 3) (v := nI (i + 1)) (lv1 := [(3, .int (nI (i + 1))), (2, .int zv3), (0, .ref 86), (1, .int (nI s))]) 1 rfl (nI_1 i) rfl (Nat.le_of_ble_eq_true rfl) dX12_clearSet_44 ?_
          refine xj_goto (tgt := 4) (by decide) dX12_clearSet_47 ?_
          refine xj_sub (lv' := [(3, .int (nI (i + 1))), (2, .int zv3), (0, .ref 86), (1, .int (nI s))]) [0, 1, 2, 3] rfl ?_
          have h9 := ih zg2 (hf.tr hxzg2)
          rw [show setF (fun c => clearF (Λ (aW A)) (aK A s) (A 2 s) (A 3 s) c (A (10 + s) c) (nI (aN A))) (i + 1) = zv3 from (if_neg hob).trans (by rw [ezv3, Int32.or_zero])] at h9
          exact h9
        · have hob : (fun c => clearF (Λ (aW A)) (aK A s) (A 2 s) (A 3 s) c (A (10 + s) c) (nI (aN A))) i = true := bI_n0.mp (fun z => zc32 (hvzv1.trans z))
          refine xj_iconst (v := 1) (by decide) dX12_clearSet_35 ?_
          refine xj_iload_n (n := 3) (i := 3) 0 rfl rfl dX12_clearSet_36 ?_
          refine xj_ishl dX12_clearSet_37 ?_
          refine xj_goto (tgt := 42) (by decide) dX12_clearSet_38 ?_
          refine xj_ior dX12_clearSet_42 ?_
          refine xj_topi (fun zv4 ezv4 => ?_)
          refine xj_istore_n (n := 2) (i := 2) (lv1 := [(2, .int zv4), (3, .int (nI i)), (0, .ref 86), (1, .int (nI s))]) rfl rfl (Nat.le_of_ble_eq_true rfl) dX12_clearSet_43 ?_
          refine xj_iinc (n := 1) (i := 3) (v := nI (i + 1)) (lv1 := [(3, .int (nI (i + 1))), (2, .int zv4), (0, .ref 86), (1, .int (nI s))]) 1 rfl (nI_1 i) rfl (Nat.le_of_ble_eq_true rfl) dX12_clearSet_44 ?_
          refine xj_goto (tgt := 4) (by decide) dX12_clearSet_47 ?_
          refine xj_sub (lv' := [(3, .int (nI (i + 1))), (2, .int zv4), (0, .ref 86), (1, .int (nI s))]) [0, 1, 2, 3] rfl ?_
          have h9 := ih zg2 (hf.tr hxzg2)
          rw [show setF (fun c => clearF (Λ (aW A)) (aK A s) (A 2 s) (A 3 s) c (A (10 + s) c) (nI (aN A))) (i + 1) = zv4 from (if_pos hob).trans ezv4.symm] at h9
          exact h9
  refine xj_sub (lv' := [(3, .int 0), (2, .int 0), (0, .ref 86), (1, .int (nI s))]) [0, 1, 2, 3] rfl ?_
  exact key 0 (Nat.zero_le _) g fr.rf
set_option maxHeartbeats 4000000 in
set_option maxRecDepth 100000 in
theorem c_X12_seenSet (l : Launch) (d : Nat) (n : Nat) (hn : 110 ≤ n) (g : xG) (A : zSt) (Λ : Nat → xL) (O : okA A) (C : mA g A Λ) (s : Nat) (hs : s < aS A)  : xC l yX12_seenSet cX12_seenSet 2 (some .int) (xR (d + 5) 0 0) [.ref 86, .int (nI s)] (n, fh g) (qI n fun v g1 => v = seP A Λ s ∧ fr sN g g1) := by
  refine xC_of false (by decide +kernel) (fun z => by cases z) (Nat.le_of_ble_eq_true rfl) ?_
  have hS6 := O.1.2
  have hW := O.W
  have hT6 := O.2.2.2.1.2.2
  have hN9 := O.2.1.2
  have hs6_s : s < 6 := by omega
  show xJ l (RX12, 2, (some .int), false, (xR (d + 5) 0 0), none) cX12_seenSet _ 0 0 0 [(0, .ref 86), (1, .int (nI s))] [] (n, fh g)
  refine xj_aload_n (n := 0) (i := 0) 0 rfl rfl dX12_seenSet_0 ?_
  refine xj_iload_n (n := 1) (i := 1) 1 rfl rfl dX12_seenSet_1 ?_
  refine xj_callV kv_X12_200 (c_X12_clearSet l (d + 0) n hn g A Λ O C s hs) (As := [.int (nI s)]) (st := []) (by omega) (fq_86 g) (ci := 12) rfl rfl rfl rfl (xRm_of (by omega) (by decide) (by omega) (by omega)) (Nat.le_of_ble_eq_true rfl) dX12_seenSet_2 (yk_i (kc := 0) (ks := 0) fun zv1 zg2 hzg2 => ?_)
  obtain ⟨hvzv1, hfnzg2⟩ := hzg2
  have hxzg2 := hfnzg2
  have Czg2 := C.keep (fm.of hxzg2 sN_m)
  refine xj_top (show zv1 = clP A Λ s from hvzv1) ?_
  refine xj_aload_n (n := 0) (i := 0) 0 rfl rfl dX12_seenSet_5 ?_
  refine yj_getf (v := .ref 90) fl_X12_19_12 (by omega) (fq_86 zg2) rfl dX12_seenSet_6 ?_
  refine xj_iload_n (n := 1) (i := 1) 1 rfl rfl dX12_seenSet_9 ?_
  refine yj_ialdN s (by omega) fA_90 rfl (by omega) (by decide) dX12_seenSet_10 ?_
  refine xj_top (Czg2.pi hs) ?_
  refine xj_iand dX12_seenSet_11 ?_
  exact xj_ireturn rfl (nr_i _) (Nat.zero_le _) (Nat.zero_le _) dX12_seenSet_12 (qI_e ⟨rfl, hxzg2⟩)
set_option maxHeartbeats 4000000 in
set_option maxRecDepth 100000 in
theorem c_X12_costAll (l : Launch) (d : Nat) (n : Nat) (hn : 110 ≤ n) (g : xG) (A : zSt) (Λ : Nat → xL) (O : okA A) (C : mA g A Λ) (s : Nat) (hs : s < aS A)  : xC l yX12_costAll cX12_costAll 4 (some .int) (xR (d + 4) 0 0) [.ref 86, .int (nI s)] (n, fh g) (qI n fun v g1 => v = coS A Λ s 65535 ∧ fr sN g g1) := by
  refine xC_of false (by decide +kernel) (fun z => by cases z) (Nat.le_of_ble_eq_true rfl) ?_
  have hS6 := O.1.2
  have hW := O.W
  have hT6 := O.2.2.2.1.2.2
  have hN9 := O.2.1.2
  have hs6_s : s < 6 := by omega
  show xJ l (RX12, 4, (some .int), false, (xR (d + 4) 0 0), none) cX12_costAll _ 0 0 0 [(0, .ref 86), (1, .int (nI s))] [] (n, fh g)
  refine xj_iconst (v := 0) (by decide) dX12_costAll_0 ?_
  refine xj_istore_n (n := 2) (i := 2) (lv1 := [(2, .int 0), (0, .ref 86), (1, .int (nI s))]) rfl rfl (Nat.le_of_ble_eq_true rfl) dX12_costAll_1 ?_
  refine xj_iconst (v := 0) (by decide) dX12_costAll_2 ?_
  refine xj_istore_n (n := 3) (i := 3) (lv1 := [(3, .int 0), (2, .int 0), (0, .ref 86), (1, .int (nI s))]) rfl rfl (Nat.le_of_ble_eq_true rfl) dX12_costAll_3 ?_
  have key : ∀ i, i ≤ 16 → ∀ (g1 : xG), fr sN g g1 → xJ l (RX12, 4, (some .int), false, (xR (d + 4) 0 0), none) cX12_costAll (qI n fun v g1 => v = coS A Λ s 65535 ∧ fr sN g g1) 0 0 4 [(3, .int (nI i)), (2, .int (sumF (fun c => costF (Λ (aW A)) (aK A s) (A 2 s) (A 3 s) c (A (10 + s) c) (nI (aN A))) i)), (0, .ref 86), (1, .int (nI s))] [] (n, fh g1) := by
    refine x_loop 16 _ ?_ ?_
    · intro g1 hf
      refine xj_iload_n (n := 3) (i := 3) 0 rfl rfl dX12_costAll_4 ?_
      refine xj_bipush (v := 16) (by decide) dX12_costAll_5 ?_
      refine xj_icmp_ge (tgt := 25) (by decide) dX12_costAll_7 (fun zc7 => ?_) (fun zc7 => ?_)
      · refine xj_iload_n (n := 2) (i := 2) 1 rfl rfl dX12_costAll_25 ?_
        exact xj_ireturn rfl (nr_i _) (Nat.zero_le _) (Nat.zero_le _) dX12_costAll_26 (qI_e ⟨costS_all (Λ (aW A)) (aK A s) (A 2 s) (A 3 s) (A (10 + s)) (nI (aN A)), hf⟩)
      · exact absurd (nI_le (Nat.le_refl _) (by decide)) zc7
    · intro i hi ih g1 hf
      refine xj_iload_n (n := 3) (i := 3) 0 rfl rfl dX12_costAll_4 ?_
      refine xj_bipush (v := 16) (by decide) dX12_costAll_5 ?_
      refine xj_icmp_ge (tgt := 25) (by decide) dX12_costAll_7 (fun zc7 => ?_) (fun zc7 => ?_)
      · exact absurd zc7 (nI_ge hi (by decide))
      · refine xj_iload_n (n := 2) (i := 2) 1 rfl rfl dX12_costAll_10 ?_
        refine xj_aload_n (n := 0) (i := 0) 2 rfl rfl dX12_costAll_11 ?_
        refine xj_iload_n (n := 1) (i := 1) 3 rfl rfl dX12_costAll_12 ?_
        refine xj_iload_n (n := 3) (i := 3) 0 rfl rfl dX12_costAll_13 ?_
        refine xj_callV kv_X12_203 (c_X12_costOf l (d + 0) n hn g1 A Λ O (C.keep (fm.of hf sN_m)) s i hs (by omega)) (As := [.int (nI s), .int (nI i)]) (st := [.int (sumF (fun c => costF (Λ (aW A)) (aK A s) (A 2 s) (A 3 s) c (A (10 + s) c) (nI (aN A))) i)]) (by omega) (fq_86 g1) (ci := 12) rfl rfl rfl rfl (xRm_of (by omega) (by decide) (by omega) (by omega)) (Nat.le_of_ble_eq_true rfl) dX12_costAll_14 (yk_i (kc := 0) (ks := 0) fun zv1 zg2 hzg2 => ?_)
        obtain ⟨hvzv1, hfnzg2⟩ := hzg2
        have hxzg2 := hfnzg2
        have Czg2 := (C.keep (fm.of hf sN_m)).keep (fm.of hxzg2 sN_m)
        refine xj_iadd dX12_costAll_17 ?_
        refine xj_topi (fun zv3 ezv3 => ?_)
        refine xj_istore_n (n := 2) (i := 2) (lv1 := [(2, .int zv3), (3, .int (nI i)), (0, .ref 86), (1, .int (nI s))]) rfl rfl (Nat.le_of_ble_eq_true rfl) dX12_costAll_18 ?_
        refine xj_iinc (n := 1) (i := 3) (v := nI (i + 1)) (lv1 := [(3, .int (nI (i + 1))), (2, .int zv3), (0, .ref 86), (1, .int (nI s))]) 1 rfl (nI_1 i) rfl (Nat.le_of_ble_eq_true rfl) dX12_costAll_19 ?_
        refine xj_goto (tgt := 4) (by decide) dX12_costAll_22 ?_
        refine xj_sub (lv' := [(3, .int (nI (i + 1))), (2, .int zv3), (0, .ref 86), (1, .int (nI s))]) [0, 1, 2, 3] rfl ?_
        have h9 := ih zg2 (hf.tr hxzg2)
        rw [show sumF (fun c => costF (Λ (aW A)) (aK A s) (A 2 s) (A 3 s) c (A (10 + s) c) (nI (aN A))) (i + 1) = zv3 from by rw [ezv3, hvzv1]; rfl] at h9
        exact h9
  refine xj_sub (lv' := [(3, .int 0), (2, .int 0), (0, .ref 86), (1, .int (nI s))]) [0, 1, 2, 3] rfl ?_
  exact key 0 (Nat.zero_le _) g fr.rf
set_option maxHeartbeats 4000000 in
set_option maxRecDepth 100000 in
theorem c_X12_rowOf (l : Launch) (d : Nat) (n : Nat) (hn : 110 ≤ n) (g : xG) (A : zSt) (Λ : Nat → xL) (O : okA A) (C : mA g A Λ) (s : Nat) (hs : s < aS A)  : xC l yX12_rowOf cX12_rowOf 3 none (xR (d + 1) 0 0) [.ref 86, .int (nI s)] (n, fh g) (qV n fun g1 => rwA g1 (A (10 + s)) (aN A) ∧ fm g g1) := by
  refine xC_of false (by decide +kernel) (fun z => by cases z) (Nat.le_of_ble_eq_true rfl) ?_
  have hS6 := O.1.2
  have hW := O.W
  have hT6 := O.2.2.2.1.2.2
  have hN9 := O.2.1.2
  have hs6_s : s < 6 := by omega
  show xJ l (RX12, 3, none, false, (xR (d + 1) 0 0), none) cX12_rowOf _ 0 0 0 [(0, .ref 86), (1, .int (nI s))] [] (n, fh g)
  refine xj_aload_n (n := 0) (i := 0) 0 rfl rfl dX12_rowOf_0 ?_
  refine xj_aload_n (n := 0) (i := 0) 0 rfl rfl dX12_rowOf_1 ?_
  refine yj_getf (v := .int (nI (aN A))) fl_X12_97_12 (by omega) (fq_86 g) (congrArg (fun z => some (Value.int z)) (C.N O)) dX12_rowOf_2 ?_
  refine yj_puti fl_X12_222_12 (by omega) fS_86_33 (fi_i _) dX12_rowOf_5 ?_
  obtain ⟨zg1, ezg1⟩ : ∃ z, z = gs g 86 33 (nI (aN A)) := ⟨_, rfl⟩
  rw [← ezg1]
  have hxzg1 : fm g zg1 := by rw [ezg1]; exact fm.rf.g86 (by omega) _
  have Czg1 := C.keep hxzg1
  refine xj_iconst (v := 0) (by decide) dX12_rowOf_8 ?_
  refine xj_istore_n (n := 2) (i := 2) (lv1 := [(2, .int 0), (0, .ref 86), (1, .int (nI s))]) rfl rfl (Nat.le_of_ble_eq_true rfl) dX12_rowOf_9 ?_
  have key : ∀ i, i ≤ 16 → ∀ (g1 : xG), fm g g1 → (∀ j, j < i → g1 105 j = A (10 + s) j) → g1 86 33 = nI (aN A) → xJ l (RX12, 3, none, false, (xR (d + 1) 0 0), none) cX12_rowOf (qV n fun g1 => rwA g1 (A (10 + s)) (aN A) ∧ fm g g1) 0 0 10 [(2, .int (nI i)), (0, .ref 86), (1, .int (nI s))] [] (n, fh g1) := by
    refine x_loop 16 _ ?_ ?_
    · intro g1 hf hP h33
      refine xj_iload_n (n := 2) (i := 2) 0 rfl rfl dX12_rowOf_10 ?_
      refine xj_bipush (v := 16) (by decide) dX12_rowOf_11 ?_
      refine xj_icmp_ge (tgt := 39) (by decide) dX12_rowOf_13 (fun zc13 => ?_) (fun zc13 => ?_)
      · exact xj_return rfl (Nat.zero_le _) (Nat.zero_le _) dX12_rowOf_39 (qV_e ⟨⟨fun c hc => ⟨hP c hc, O.dl hs hc⟩, h33⟩, hf⟩)
      · exact absurd (nI_le (Nat.le_refl _) (by decide)) zc13
    · intro i hi ih g1 hf hP h33
      refine xj_iload_n (n := 2) (i := 2) 0 rfl rfl dX12_rowOf_10 ?_
      refine xj_bipush (v := 16) (by decide) dX12_rowOf_11 ?_
      refine xj_icmp_ge (tgt := 39) (by decide) dX12_rowOf_13 (fun zc13 => ?_) (fun zc13 => ?_)
      · exact absurd zc13 (nI_ge hi (by decide))
      · refine xj_aload_n (n := 0) (i := 0) 1 rfl rfl dX12_rowOf_16 ?_
        refine yj_getf (v := .ref 105) fl_X12_68_12 (by omega) (fq_86 g1) rfl dX12_rowOf_17 ?_
        refine xj_iload_n (n := 2) (i := 2) 0 rfl rfl dX12_rowOf_20 ?_
        refine xj_aload_n (n := 0) (i := 0) 1 rfl rfl dX12_rowOf_21 ?_
        refine yj_getf (v := .ref 89) fl_X12_16_12 (by omega) (fq_86 g1) rfl dX12_rowOf_22 ?_
        refine xj_bipush (v := 16) (by decide) dX12_rowOf_25 ?_
        refine xj_iload_n (n := 1) (i := 1) 2 rfl rfl dX12_rowOf_27 ?_
        refine xj_imul dX12_rowOf_28 ?_
        refine xj_top (pk_mul 16 s) ?_
        refine xj_iload_n (n := 2) (i := 2) 0 rfl rfl dX12_rowOf_29 ?_
        refine xj_iadd dX12_rowOf_30 ?_
        refine xj_top (nI_add _ _) ?_
        refine yj_ialdN ((16 * s) + i) (by omega) fA_89 rfl (by omega) (by decide) dX12_rowOf_31 ?_
        refine xj_top ((C.keep hf).du hs (by omega)) ?_
        refine xj_topi (fun zv2 ezv2 => ?_)
        refine yj_iastN i (by omega) fA_105 rfl (by omega) (by decide) dX12_rowOf_32 ?_
        obtain ⟨zg3, ezg3⟩ : ∃ z, z = gs g1 105 i zv2 := ⟨_, rfl⟩
        rw [← ezg3]
        have hxzg3 : fm g zg3 := by rw [ezg3]; exact hf.gS (by unfold sM; omega) _ _
        have Czg3 := C.keep hxzg3
        refine xj_iinc (n := 1) (i := 2) (v := nI (i + 1)) (lv1 := [(2, .int (nI (i + 1))), (0, .ref 86), (1, .int (nI s))]) 0 rfl (nI_1 i) rfl (Nat.le_of_ble_eq_true rfl) dX12_rowOf_33 ?_
        refine xj_goto (tgt := 10) (by decide) dX12_rowOf_36 ?_
        refine xj_sub (lv' := [(2, .int (nI (i + 1))), (0, .ref 86), (1, .int (nI s))]) [0, 1, 2] rfl ?_
        refine ih zg3 hxzg3 (fun j hj => ?_) (by rw [ezg3, gs_n _ _ _ (by decide)]; exact h33)
        rw [ezg3, gs_s]
        by_cases eqj : j = i
        · subst eqj; rw [upd_s]; exact ezv2
        · rw [upd_n _ _ eqj]; exact hP j (by omega)
  refine xj_sub (lv' := [(2, .int 0), (0, .ref 86), (1, .int (nI s))]) [0, 1, 2] rfl ?_
  exact key 0 (Nat.zero_le _) zg1 hxzg1 (fun j hj => absurd hj (Nat.not_lt_zero j)) (by rw [ezg1, gs_s, upd_s])
set_option maxHeartbeats 4000000 in
set_option maxRecDepth 100000 in
theorem c_X12_rowNight (l : Launch) (d : Nat) (n : Nat) (hn : 110 ≤ n) (g : xG) (A : zSt) (Λ : Nat → xL) (O : okA A) (C : mA g A Λ) (s : Nat) (hs : s < aS A) (d0 : Nat → Int32) (N : Nat) (R : rwA g d0 N)  : xC l yX12_rowNight cX12_rowNight 3 none (xR (d + 4) 0 0) [.ref 86, .int (nI s)] (n, fh g) (qV n fun g1 => rwA g1 (nightR (Λ (aW A)) (aK A s) (A 2 s) (A 3 s) d0 (nI N) 16) (N + 1) ∧ fm g g1) := by
  refine xC_of false (by decide +kernel) (fun z => by cases z) (Nat.le_of_ble_eq_true rfl) ?_
  have hS6 := O.1.2
  have hW := O.W
  have hT6 := O.2.2.2.1.2.2
  have hN9 := O.2.1.2
  have hs6_s : s < 6 := by omega
  show xJ l (RX12, 3, none, false, (xR (d + 4) 0 0), none) cX12_rowNight _ 0 0 0 [(0, .ref 86), (1, .int (nI s))] [] (n, fh g)
  refine xj_iconst (v := 0) (by decide) dX12_rowNight_0 ?_
  refine xj_istore_n (n := 2) (i := 2) (lv1 := [(2, .int 0), (0, .ref 86), (1, .int (nI s))]) rfl rfl (Nat.le_of_ble_eq_true rfl) dX12_rowNight_1 ?_
  have key : ∀ i, i ≤ 16 → ∀ (g1 : xG), fm g g1 → (∀ j, j < 16 → g1 105 j = (nightR (Λ (aW A)) (aK A s) (A 2 s) (A 3 s) d0 (nI N) i) j) → g1 86 33 = nI N → xJ l (RX12, 3, none, false, (xR (d + 4) 0 0), none) cX12_rowNight (qV n fun g1 => rwA g1 (nightR (Λ (aW A)) (aK A s) (A 2 s) (A 3 s) d0 (nI N) 16) (N + 1) ∧ fm g g1) 0 0 2 [(2, .int (nI i)), (0, .ref 86), (1, .int (nI s))] [] (n, fh g1) := by
    refine x_loop 16 _ ?_ ?_
    · intro g1 hf hP h33
      refine xj_iload_n (n := 2) (i := 2) 0 rfl rfl dX12_rowNight_2 ?_
      refine xj_bipush (v := 16) (by decide) dX12_rowNight_3 ?_
      refine xj_icmp_ge (tgt := 49) (by decide) dX12_rowNight_5 (fun zc5 => ?_) (fun zc5 => ?_)
      · refine xj_aload_n (n := 0) (i := 0) 1 rfl rfl dX12_rowNight_49 ?_
        refine xj_dup rfl dX12_rowNight_50 ?_
        refine yj_getf (v := .int (nI N)) fl_X12_222_12 (by omega) (fq_86 g1) (congrArg (fun z => some (Value.int z)) h33) dX12_rowNight_51 ?_
        refine xj_iconst (v := 1) (by decide) dX12_rowNight_54 ?_
        refine xj_iadd dX12_rowNight_55 ?_
        refine xj_top (nI_add N 1) ?_
        refine yj_puti fl_X12_222_12 (by omega) fS_86_33 (fi_i _) dX12_rowNight_56 ?_
        obtain ⟨zg1, ezg1⟩ : ∃ z, z = gs g1 86 33 (nI (N + 1)) := ⟨_, rfl⟩
        rw [← ezg1]
        have hxzg1 : fm g zg1 := by rw [ezg1]; exact hf.g86 (by omega) _
        have Czg1 := C.keep hxzg1
        exact xj_return rfl (Nat.zero_le _) (Nat.zero_le _) dX12_rowNight_59 (qV_e ⟨⟨fun c hc => ⟨by rw [ezg1, gs_n _ _ _ (by decide)]; exact hP c hc, okP_night (Λ (aW A)) (nI N) (O.2.2.2.2.2.2.1 s hs |> fun h => ⟨h.1, h.2.1, h.2.2.1, fun c hc => (R.1 c hc).2⟩) 16 c hc⟩, by rw [ezg1, gs_s, upd_s]⟩, hxzg1⟩)
      · exact absurd (nI_le (Nat.le_refl _) (by decide)) zc5
    · intro i hi ih g1 hf hP h33
      have hd9 : g1 105 i = d0 i := by rw [hP i (by omega)]; exact if_neg (Nat.lt_irrefl i)
      refine xj_iload_n (n := 2) (i := 2) 0 rfl rfl dX12_rowNight_2 ?_
      refine xj_bipush (v := 16) (by decide) dX12_rowNight_3 ?_
      refine xj_icmp_ge (tgt := 49) (by decide) dX12_rowNight_5 (fun zc5 => ?_) (fun zc5 => ?_)
      · exact absurd zc5 (nI_ge hi (by decide))
      · refine xj_aload_n (n := 0) (i := 0) 1 rfl rfl dX12_rowNight_8 ?_
        refine yj_getf (v := .ref 105) fl_X12_68_12 (by omega) (fq_86 g1) rfl dX12_rowNight_9 ?_
        refine xj_iload_n (n := 2) (i := 2) 0 rfl rfl dX12_rowNight_12 ?_
        refine xj_aload_n (n := 0) (i := 0) 1 rfl rfl dX12_rowNight_13 ?_
        refine yj_getf (v := .ref 105) fl_X12_68_12 (by omega) (fq_86 g1) rfl dX12_rowNight_14 ?_
        refine xj_iload_n (n := 2) (i := 2) 0 rfl rfl dX12_rowNight_17 ?_
        refine yj_ialdN i (by omega) fA_105 rfl (by omega) (by decide) dX12_rowNight_18 ?_
        refine xj_top hd9 ?_
        refine xj_aload_n (n := 0) (i := 0) 1 rfl rfl dX12_rowNight_19 ?_
        refine xj_iload_n (n := 1) (i := 1) 2 rfl rfl dX12_rowNight_20 ?_
        refine xj_iload_n (n := 2) (i := 2) 0 rfl rfl dX12_rowNight_21 ?_
        refine xj_aload_n (n := 0) (i := 0) 1 rfl rfl dX12_rowNight_22 ?_
        refine yj_getf (v := .ref 105) fl_X12_68_12 (by omega) (fq_86 g1) rfl dX12_rowNight_23 ?_
        refine xj_iload_n (n := 2) (i := 2) 0 rfl rfl dX12_rowNight_26 ?_
        refine yj_ialdN i (by omega) fA_105 rfl (by omega) (by decide) dX12_rowNight_27 ?_
        refine xj_top hd9 ?_
        refine xj_aload_n (n := 0) (i := 0) 1 rfl rfl dX12_rowNight_28 ?_
        refine yj_getf (v := .int (nI N)) fl_X12_222_12 (by omega) (fq_86 g1) (congrArg (fun z => some (Value.int z)) h33) dX12_rowNight_29 ?_
        refine xj_callV kv_X12_218 (c_X12_dullerOf l (d + 0) n hn g1 A Λ O (C.keep hf) s i hs (by omega) (d0 i) (nI N)) (As := [.int (nI s), .int (nI i), .int (d0 i), .int (nI N)]) (st := [.int (d0 i), .int (nI i), .ref 105]) (by omega) (fq_86 g1) (ci := 12) rfl rfl rfl rfl (xRm_of (by omega) (by decide) (by omega) (by omega)) (Nat.le_of_ble_eq_true rfl) dX12_rowNight_32 (yk_i (kc := 0) (ks := 0) fun zv2 zg3 hzg3 => ?_)
        obtain ⟨hvzv2, hfnzg3⟩ := hzg3
        have hxzg3 := fm.of hfnzg3 sN_m
        have Czg3 := (C.keep hf).keep hxzg3
        refine xj_iadd dX12_rowNight_35 ?_
        refine xj_iconst (v := 0) (by decide) dX12_rowNight_36 ?_
        refine xj_bipush (v := 99) (by decide) dX12_rowNight_37 ?_
        refine xj_callS ks_X12_173 (c_X12_within l (d + 3) ((d0 i) + zv2) 0 99 _) (As := [.int ((d0 i) + zv2), .int 0, .int 99]) (st := [.int (nI i), .ref 105]) rfl rfl (xRm_of (by omega) (by decide) (by omega) (by omega)) (Nat.le_of_ble_eq_true rfl) dX12_rowNight_39 (yk_p (kc := 0) (ks := 0) ?_)
        refine xj_topi (fun zv4 ezv4 => ?_)
        refine yj_iastN i (by omega) fA_105 rfl (by omega) (by decide) dX12_rowNight_42 ?_
        obtain ⟨zg5, ezg5⟩ : ∃ z, z = gs zg3 105 i zv4 := ⟨_, rfl⟩
        rw [← ezg5]
        have hxzg5 : fm g zg5 := by rw [ezg5]; exact (hf.tr hxzg3).gS (by unfold sM; omega) _ _
        have Czg5 := C.keep hxzg5
        refine xj_iinc (n := 1) (i := 2) (v := nI (i + 1)) (lv1 := [(2, .int (nI (i + 1))), (0, .ref 86), (1, .int (nI s))]) 0 rfl (nI_1 i) rfl (Nat.le_of_ble_eq_true rfl) dX12_rowNight_43 ?_
        refine xj_goto (tgt := 2) (by decide) dX12_rowNight_46 ?_
        refine xj_sub (lv' := [(2, .int (nI (i + 1))), (0, .ref 86), (1, .int (nI s))]) [0, 1, 2] rfl ?_
        have hz9 : zv4 = min99 (d0 i + dlrF (Λ (aW A)) (aK A s) (A 2 s) (A 3 s) i (d0 i) (nI N)) := by rw [ezv4, hvzv2]; exact wi_99 (m := 208) (by decide) (dlr_n O hs i (nI N) (R.1 i hi).2)
        refine ih zg5 hxzg5 (fun j hj => ?_) (by rw [ezg5, gs_n _ _ _ (by decide), hfnzg3 86 (by unfold sN; omega)]; exact h33)
        rw [ezg5, gs_s, hfnzg3 105 (by unfold sN; omega)]
        by_cases eqj : j = i
        · subst eqj; rw [upd_s, hz9]; exact (if_pos (Nat.lt_succ_self j)).symm
        · rw [upd_n _ _ eqj, hP j hj]; unfold nightR; by_cases hlt : j < i
          · exact (if_pos hlt).trans (if_pos (by omega)).symm
          · exact (if_neg hlt).trans (if_neg (by omega)).symm
  refine xj_sub (lv' := [(2, .int 0), (0, .ref 86), (1, .int (nI s))]) [0, 1, 2] rfl ?_
  exact key 0 (Nat.zero_le _) g fm.rf (fun j hj => (R.1 j hj).1.trans (if_neg (Nat.not_lt_zero j)).symm) R.2
set_option maxHeartbeats 4000000 in
set_option maxRecDepth 100000 in
theorem c_X12_rowClear (l : Launch) (d : Nat) (n : Nat) (hn : 110 ≤ n) (g : xG) (A : zSt) (Λ : Nat → xL) (O : okA A) (C : mA g A Λ) (s : Nat) (hs : s < aS A) (d0 : Nat → Int32) (N : Nat) (R : rwA g d0 N)  : xC l yX12_rowClear cX12_rowClear 4 (some .int) (xR (d + 4) 0 0) [.ref 86, .int (nI s)] (n, fh g) (qI n fun v g1 => v = clearS (Λ (aW A)) (aK A s) (A 2 s) (A 3 s) d0 (nI N) ∧ fr sN g g1) := by
  refine xC_of false (by decide +kernel) (fun z => by cases z) (Nat.le_of_ble_eq_true rfl) ?_
  have hS6 := O.1.2
  have hW := O.W
  have hT6 := O.2.2.2.1.2.2
  have hN9 := O.2.1.2
  have hs6_s : s < 6 := by omega
  show xJ l (RX12, 4, (some .int), false, (xR (d + 4) 0 0), none) cX12_rowClear _ 0 0 0 [(0, .ref 86), (1, .int (nI s))] [] (n, fh g)
  refine xj_iconst (v := 0) (by decide) dX12_rowClear_0 ?_
  refine xj_istore_n (n := 2) (i := 2) (lv1 := [(2, .int 0), (0, .ref 86), (1, .int (nI s))]) rfl rfl (Nat.le_of_ble_eq_true rfl) dX12_rowClear_1 ?_
  refine xj_iconst (v := 0) (by decide) dX12_rowClear_2 ?_
  refine xj_istore_n (n := 3) (i := 3) (lv1 := [(3, .int 0), (2, .int 0), (0, .ref 86), (1, .int (nI s))]) rfl rfl (Nat.le_of_ble_eq_true rfl) dX12_rowClear_3 ?_
  have key : ∀ i, i ≤ 16 → ∀ (g1 : xG), fr sN g g1 → xJ l (RX12, 4, (some .int), false, (xR (d + 4) 0 0), none) cX12_rowClear (qI n fun v g1 => v = clearS (Λ (aW A)) (aK A s) (A 2 s) (A 3 s) d0 (nI N) ∧ fr sN g g1) 0 0 4 [(3, .int (nI i)), (2, .int (setF (fun c => clearF (Λ (aW A)) (aK A s) (A 2 s) (A 3 s) c (d0 c) (nI N)) i)), (0, .ref 86), (1, .int (nI s))] [] (n, fh g1) := by
    refine x_loop 16 _ ?_ ?_
    · intro g1 hf
      refine xj_iload_n (n := 3) (i := 3) 0 rfl rfl dX12_rowClear_4 ?_
      refine xj_bipush (v := 16) (by decide) dX12_rowClear_5 ?_
      refine xj_icmp_ge (tgt := 45) (by decide) dX12_rowClear_7 (fun zc7 => ?_) (fun zc7 => ?_)
      · refine xj_iload_n (n := 2) (i := 2) 1 rfl rfl dX12_rowClear_45 ?_
        exact xj_ireturn rfl (nr_i _) (Nat.zero_le _) (Nat.zero_le _) dX12_rowClear_46 (qI_e ⟨rfl, hf⟩)
      · exact absurd (nI_le (Nat.le_refl _) (by decide)) zc7
    · intro i hi ih g1 hf
      have R1 := R.keep hf
      refine xj_iload_n (n := 3) (i := 3) 0 rfl rfl dX12_rowClear_4 ?_
      refine xj_bipush (v := 16) (by decide) dX12_rowClear_5 ?_
      refine xj_icmp_ge (tgt := 45) (by decide) dX12_rowClear_7 (fun zc7 => ?_) (fun zc7 => ?_)
      · exact absurd zc7 (nI_ge hi (by decide))
      · refine xj_iload_n (n := 2) (i := 2) 1 rfl rfl dX12_rowClear_10 ?_
        refine xj_aload_n (n := 0) (i := 0) 2 rfl rfl dX12_rowClear_11 ?_
        refine xj_iload_n (n := 1) (i := 1) 3 rfl rfl dX12_rowClear_12 ?_
        refine xj_iload_n (n := 3) (i := 3) 0 rfl rfl dX12_rowClear_13 ?_
        refine xj_aload_n (n := 0) (i := 0) 2 rfl rfl dX12_rowClear_14 ?_
        refine yj_getf (v := .ref 105) fl_X12_68_12 (by omega) (fq_86 g1) rfl dX12_rowClear_15 ?_
        refine xj_iload_n (n := 3) (i := 3) 0 rfl rfl dX12_rowClear_18 ?_
        refine yj_ialdN i (by omega) fA_105 rfl (by omega) (by decide) dX12_rowClear_19 ?_
        refine xj_top (R1.1 i (by omega)).1 ?_
        refine xj_aload_n (n := 0) (i := 0) 2 rfl rfl dX12_rowClear_20 ?_
        refine yj_getf (v := .int (nI N)) fl_X12_222_12 (by omega) (fq_86 g1) (congrArg (fun z => some (Value.int z)) R1.2) dX12_rowClear_21 ?_
        refine xj_callV kv_X12_196 (c_X12_isClear l (d + 0) n hn g1 A Λ O (C.keep (fm.of hf sN_m)) s i hs (by omega) (d0 i) (nI N)) (As := [.int (nI s), .int (nI i), .int (d0 i), .int (nI N)]) (st := [.int (setF (fun c => clearF (Λ (aW A)) (aK A s) (A 2 s) (A 3 s) c (d0 c) (nI N)) i)]) (by omega) (fq_86 g1) (ci := 12) rfl rfl rfl rfl (xRm_of (by omega) (by decide) (by omega) (by omega)) (Nat.le_of_ble_eq_true rfl) dX12_rowClear_24 (yk_i (kc := 0) (ks := 0) fun zv1 zg2 hzg2 => ?_)
        obtain ⟨hvzv1, hfnzg2⟩ := hzg2
        have hxzg2 := hfnzg2
        have Czg2 := (C.keep (fm.of hf sN_m)).keep (fm.of hxzg2 sN_m)
        refine xj_if_eq (tgt := 36) (by decide) dX12_rowClear_27 (fun zc27 => ?_) (fun zc27 => ?_)
        · have hob : ¬ (fun c => clearF (Λ (aW A)) (aK A s) (A 2 s) (A 3 s) c (d0 c) (nI N)) i = true := bI_0.mp (hvzv1.symm.trans zc27)
          refine xj_iconst (v := 0) (by decide) dX12_rowClear_36 ?_
          refine xj_ior dX12_rowClear_37 ?_
          refine xj_topi (fun zv3 ezv3 => ?_)
          refine xj_istore_n (n := 2) (i := 2) (lv1 := [(2, .int zv3), (3, .int (nI i)), (0, .ref 86), (1, .int (nI s))]) rfl rfl (Nat.le_of_ble_eq_true rfl) dX12_rowClear_38 ?_
          refine xj_iinc (n := 1) (i := 3) (v := nI (i + 1)) (lv1 := [(3, .int (nI (i + 1))), (2, .int zv3), (0, .ref 86), (1, .int (nI s))]) 1 rfl (nI_1 i) rfl (Nat.le_of_ble_eq_true rfl) dX12_rowClear_39 ?_
          refine xj_goto (tgt := 4) (by decide) dX12_rowClear_42 ?_
          refine xj_sub (lv' := [(3, .int (nI (i + 1))), (2, .int zv3), (0, .ref 86), (1, .int (nI s))]) [0, 1, 2, 3] rfl ?_
          have h9 := ih zg2 (hf.tr hxzg2)
          rw [show setF (fun c => clearF (Λ (aW A)) (aK A s) (A 2 s) (A 3 s) c (d0 c) (nI N)) (i + 1) = zv3 from (if_neg hob).trans (by rw [ezv3, Int32.or_zero])] at h9
          exact h9
        · have hob : (fun c => clearF (Λ (aW A)) (aK A s) (A 2 s) (A 3 s) c (d0 c) (nI N)) i = true := bI_n0.mp (fun z => zc27 (hvzv1.trans z))
          refine xj_iconst (v := 1) (by decide) dX12_rowClear_30 ?_
          refine xj_iload_n (n := 3) (i := 3) 0 rfl rfl dX12_rowClear_31 ?_
          refine xj_ishl dX12_rowClear_32 ?_
          refine xj_goto (tgt := 37) (by decide) dX12_rowClear_33 ?_
          refine xj_ior dX12_rowClear_37 ?_
          refine xj_topi (fun zv4 ezv4 => ?_)
          refine xj_istore_n (n := 2) (i := 2) (lv1 := [(2, .int zv4), (3, .int (nI i)), (0, .ref 86), (1, .int (nI s))]) rfl rfl (Nat.le_of_ble_eq_true rfl) dX12_rowClear_38 ?_
          refine xj_iinc (n := 1) (i := 3) (v := nI (i + 1)) (lv1 := [(3, .int (nI (i + 1))), (2, .int zv4), (0, .ref 86), (1, .int (nI s))]) 1 rfl (nI_1 i) rfl (Nat.le_of_ble_eq_true rfl) dX12_rowClear_39 ?_
          refine xj_goto (tgt := 4) (by decide) dX12_rowClear_42 ?_
          refine xj_sub (lv' := [(3, .int (nI (i + 1))), (2, .int zv4), (0, .ref 86), (1, .int (nI s))]) [0, 1, 2, 3] rfl ?_
          have h9 := ih zg2 (hf.tr hxzg2)
          rw [show setF (fun c => clearF (Λ (aW A)) (aK A s) (A 2 s) (A 3 s) c (d0 c) (nI N)) (i + 1) = zv4 from (if_pos hob).trans ezv4.symm] at h9
          exact h9
  refine xj_sub (lv' := [(3, .int 0), (2, .int 0), (0, .ref 86), (1, .int (nI s))]) [0, 1, 2, 3] rfl ?_
  exact key 0 (Nat.zero_le _) g fr.rf
set_option maxHeartbeats 4000000 in
set_option maxRecDepth 100000 in
theorem c_X12_seenMany (l : Launch) (d : Nat) (n : Nat) (hn : 110 ≤ n) (g : xG) (A : zSt) (Λ : Nat → xL) (O : okA A) (C : mA g A Λ)  : xC l yX12_seenMany cX12_seenMany 3 (some .int) (xR (d + 6) 0 0) [.ref 86] (n, fh g) (qI n fun v g1 => v = sumF (fun s => onesF (seP A Λ s)) (aS A) ∧ fr sN g g1) := by
  refine xC_of false (by decide +kernel) (fun z => by cases z) (Nat.le_of_ble_eq_true rfl) ?_
  have hS6 := O.1.2
  have hW := O.W
  have hT6 := O.2.2.2.1.2.2
  have hN9 := O.2.1.2
  show xJ l (RX12, 3, (some .int), false, (xR (d + 6) 0 0), none) cX12_seenMany _ 0 0 0 [(0, .ref 86)] [] (n, fh g)
  refine xj_iconst (v := 0) (by decide) dX12_seenMany_0 ?_
  refine xj_istore_n (n := 1) (i := 1) (lv1 := [(1, .int 0), (0, .ref 86)]) rfl rfl (Nat.le_of_ble_eq_true rfl) dX12_seenMany_1 ?_
  refine xj_iconst (v := 0) (by decide) dX12_seenMany_2 ?_
  refine xj_istore_n (n := 2) (i := 2) (lv1 := [(2, .int 0), (1, .int 0), (0, .ref 86)]) rfl rfl (Nat.le_of_ble_eq_true rfl) dX12_seenMany_3 ?_
  have key : ∀ i, i ≤ aS A → ∀ (g1 : xG), fr sN g g1 → xJ l (RX12, 3, (some .int), false, (xR (d + 6) 0 0), none) cX12_seenMany (qI n fun v g1 => v = sumF (fun s => onesF (seP A Λ s)) (aS A) ∧ fr sN g g1) 0 0 4 [(2, .int (nI i)), (1, .int (sumF (fun s => onesF (seP A Λ s)) i)), (0, .ref 86)] [] (n, fh g1) := by
    refine x_loop (aS A) _ ?_ ?_
    · intro g1 hf
      refine xj_iload_n (n := 2) (i := 2) 0 rfl rfl dX12_seenMany_4 ?_
      refine xj_aload_n (n := 0) (i := 0) 2 rfl rfl dX12_seenMany_5 ?_
      refine yj_getf (v := .int (nI (aS A))) fl_X12_90_12 (by omega) (fq_86 g1) (congrArg (fun z => some (Value.int z)) ((C.keep (fm.of hf sN_m)).S O)) dX12_seenMany_6 ?_
      refine xj_icmp_ge (tgt := 29) (by decide) dX12_seenMany_9 (fun zc9 => ?_) (fun zc9 => ?_)
      · refine xj_iload_n (n := 1) (i := 1) 1 rfl rfl dX12_seenMany_29 ?_
        exact xj_ireturn rfl (nr_i _) (Nat.zero_le _) (Nat.zero_le _) dX12_seenMany_30 (qI_e ⟨rfl, hf⟩)
      · exact absurd (nI_le (Nat.le_refl _) (by omega)) zc9
    · intro i hi ih g1 hf
      have hs6_i : i < 6 := by omega
      refine xj_iload_n (n := 2) (i := 2) 0 rfl rfl dX12_seenMany_4 ?_
      refine xj_aload_n (n := 0) (i := 0) 2 rfl rfl dX12_seenMany_5 ?_
      refine yj_getf (v := .int (nI (aS A))) fl_X12_90_12 (by omega) (fq_86 g1) (congrArg (fun z => some (Value.int z)) ((C.keep (fm.of hf sN_m)).S O)) dX12_seenMany_6 ?_
      refine xj_icmp_ge (tgt := 29) (by decide) dX12_seenMany_9 (fun zc9 => ?_) (fun zc9 => ?_)
      · exact absurd zc9 (nI_ge hi (by omega))
      · refine xj_iload_n (n := 1) (i := 1) 1 rfl rfl dX12_seenMany_12 ?_
        refine xj_aload_n (n := 0) (i := 0) 2 rfl rfl dX12_seenMany_13 ?_
        refine xj_iload_n (n := 2) (i := 2) 0 rfl rfl dX12_seenMany_14 ?_
        refine xj_callV kv_X12_206 (c_X12_seenSet l (d + 0) n hn g1 A Λ O (C.keep (fm.of hf sN_m)) i hi) (As := [.int (nI i)]) (st := [.int (sumF (fun s => onesF (seP A Λ s)) i)]) (by omega) (fq_86 g1) (ci := 12) rfl rfl rfl rfl (xRm_of (by omega) (by decide) (by omega) (by omega)) (Nat.le_of_ble_eq_true rfl) dX12_seenMany_15 (yk_i (kc := 0) (ks := 0) fun zv1 zg2 hzg2 => ?_)
        obtain ⟨hvzv1, hfnzg2⟩ := hzg2
        have hxzg2 := hfnzg2
        have Czg2 := (C.keep (fm.of hf sN_m)).keep (fm.of hxzg2 sN_m)
        refine xj_top (show zv1 = seP A Λ i from hvzv1) ?_
        refine xj_callS ks_X12_209 (c_X12_ones l (d + 5) (seP A Λ i) _) (As := [.int (seP A Λ i)]) (st := [.int (sumF (fun s => onesF (seP A Λ s)) i)]) rfl rfl (xRm_of (by omega) (by decide) (by omega) (by omega)) (Nat.le_of_ble_eq_true rfl) dX12_seenMany_18 (yk_p (kc := 0) (ks := 0) ?_)
        refine xj_iadd dX12_seenMany_21 ?_
        refine xj_topi (fun zv3 ezv3 => ?_)
        refine xj_istore_n (n := 1) (i := 1) (lv1 := [(1, .int zv3), (2, .int (nI i)), (0, .ref 86)]) rfl rfl (Nat.le_of_ble_eq_true rfl) dX12_seenMany_22 ?_
        refine xj_iinc (n := 1) (i := 2) (v := nI (i + 1)) (lv1 := [(2, .int (nI (i + 1))), (1, .int zv3), (0, .ref 86)]) 1 rfl (nI_1 i) rfl (Nat.le_of_ble_eq_true rfl) dX12_seenMany_23 ?_
        refine xj_goto (tgt := 4) (by decide) dX12_seenMany_26 ?_
        refine xj_sub (lv' := [(2, .int (nI (i + 1))), (1, .int zv3), (0, .ref 86)]) [0, 1, 2] rfl ?_
        have h9 := ih zg2 (hf.tr hxzg2)
        rw [show sumF (fun s => onesF (seP A Λ s)) (i + 1) = zv3 from ezv3.symm] at h9
        exact h9
  refine xj_sub (lv' := [(2, .int 0), (1, .int 0), (0, .ref 86)]) [0, 1, 2] rfl ?_
  exact key 0 (Nat.zero_le _) g fr.rf
