def rImage (A : zSt) : Int32 × zSt := (nI (aS A), stImg A)
def rBack (A : zSt) : Int32 × zSt := if A 0 6 = 0 then (-3, A) else (nI (aI A), stBack A)
set_option maxHeartbeats 4000000 in
set_option maxRecDepth 100000 in
theorem c_X11_image (l : Launch) (d : Nat) (n : Nat) (g : xG) (A : zSt) (Λ : Nat → xL) (O : okA A) (C : cA g n A Λ)  : xC l yX11_image cX11_image 2 (some .int) (xR (d + 2) 0 0) [.ref 0] (n, fh g) (qI n fun v g1 => v = (rImage A).1 ∧ cA g1 n (rImage A).2 Λ ∧ fr cX g g1) := by
  refine xC_of false (by decide +kernel) (fun z => by cases z) (Nat.le_of_ble_eq_true rfl) ?_
  have hn := C.n110 O
  have hS6 := O.1.2
  have hW := O.W
  have hT6 := O.2.2.2.1.2.2
  have hN9 := O.2.1.2
  show xJ l (RX11, 2, (some .int), false, (xR (d + 2) 0 0), none) cX11_image _ 0 0 0 [(0, .ref 0)] [] (n, fh g)
  refine xj_iconst (v := 0) (by decide) dX11_image_0 ?_
  refine xj_istore_n (n := 1) (i := 1) (lv1 := [(1, .int 0), (0, .ref 0)]) rfl rfl (Nat.le_of_ble_eq_true rfl) dX11_image_1 ?_
  have key : ∀ i, i ≤ aS A → ∀ (g1 : xG), fr (fun j => j = 46 ∨ (48 ≤ j ∧ j < 66)) g g1 → (∀ s, s < i → pnA g1 (48 + 3 * s) (aK A s) (A 2 s) (A 3 s) (A (10 + s))) → xJ l (RX11, 2, (some .int), false, (xR (d + 2) 0 0), none) cX11_image (qI n fun v g1 => v = (rImage A).1 ∧ cA g1 n (rImage A).2 Λ ∧ fr cX g g1) 0 0 2 [(1, .int (nI i)), (0, .ref 0)] [] (n, fh g1) := by
    refine x_loop (aS A) _ ?_ ?_
    · intro g1 hf hB
      refine xj_iload_n (n := 1) (i := 1) 0 rfl rfl dX11_image_2 ?_
      refine xj_aload_n (n := 0) (i := 0) 1 rfl rfl dX11_image_3 ?_
      refine yj_getf (v := .int (nI (aS A))) fl_X11_80_11 (by omega) (fq_0 g1) (congrArg (fun z => some (Value.int z)) ((congrFun (hf 0 (by omega)) 9).trans (C.S O))) dX11_image_4 ?_
      refine xj_icmp_ge (tgt := 34) (by decide) dX11_image_7 (fun zc7 => ?_) (fun zc7 => ?_)
      · refine xj_aload_n (n := 0) (i := 0) 1 rfl rfl dX11_image_34 ?_
        refine yj_getf (v := .ref 46) fl_X11_49_11 (by omega) (fq_0 g1) rfl dX11_image_35 ?_
        refine xj_aload_n (n := 0) (i := 0) 1 rfl rfl dX11_image_38 ?_
        refine yj_getf (v := .int (nI (aS A))) fl_X11_80_11 (by omega) (fq_0 g1) (congrArg (fun z => some (Value.int z)) ((congrFun (hf 0 (by omega)) 9).trans (C.S O))) dX11_image_39 ?_
        refine yj_puti fl_X11_251_3 (by omega) fS_46_0 (fi_i _) dX11_image_42 ?_
        obtain ⟨zg1, ezg1⟩ : ∃ z, z = gs g1 46 0 (nI (aS A)) := ⟨_, rfl⟩
        rw [← ezg1]
        have h0zg1 : zg1 0 = g 0 := (by rw [ezg1, gs_n _ _ _ (by omega)]; exact (hf 0 (by omega)))
        refine xj_aload_n (n := 0) (i := 0) 1 rfl rfl dX11_image_45 ?_
        refine yj_getf (v := .ref 46) fl_X11_49_11 (by omega) (fq_0 zg1) rfl dX11_image_46 ?_
        refine xj_aload_n (n := 0) (i := 0) 1 rfl rfl dX11_image_49 ?_
        refine yj_getf (v := .int (nI (aN A))) fl_X11_84_11 (by omega) (fq_0 zg1) (congrArg (fun z => some (Value.int z)) ((congrFun h0zg1 10).trans (C.N O))) dX11_image_50 ?_
        refine yj_puti fl_X11_252_3 (by omega) fS_46_1 (fi_i _) dX11_image_53 ?_
        obtain ⟨zg2, ezg2⟩ : ∃ z, z = gs zg1 46 1 (nI (aN A)) := ⟨_, rfl⟩
        rw [← ezg2]
        have h0zg2 : zg2 0 = g 0 := (by rw [ezg2, gs_n _ _ _ (by omega)]; exact h0zg1)
        refine xj_aload_n (n := 0) (i := 0) 1 rfl rfl dX11_image_56 ?_
        refine yj_getf (v := .ref 46) fl_X11_49_11 (by omega) (fq_0 zg2) rfl dX11_image_57 ?_
        refine xj_aload_n (n := 0) (i := 0) 1 rfl rfl dX11_image_60 ?_
        refine yj_getf (v := .int (nI (aM A))) fl_X11_87_11 (by omega) (fq_0 zg2) (congrArg (fun z => some (Value.int z)) ((congrFun h0zg2 11).trans (C.M O))) dX11_image_61 ?_
        refine yj_puti fl_X11_253_3 (by omega) fS_46_2 (fi_i _) dX11_image_64 ?_
        obtain ⟨zg3, ezg3⟩ : ∃ z, z = gs zg2 46 2 (nI (aM A)) := ⟨_, rfl⟩
        rw [← ezg3]
        have h0zg3 : zg3 0 = g 0 := (by rw [ezg3, gs_n _ _ _ (by omega)]; exact h0zg2)
        refine xj_aload_n (n := 0) (i := 0) 1 rfl rfl dX11_image_67 ?_
        refine yj_getf (v := .ref 46) fl_X11_49_11 (by omega) (fq_0 zg3) rfl dX11_image_68 ?_
        refine xj_aload_n (n := 0) (i := 0) 1 rfl rfl dX11_image_71 ?_
        refine yj_getf (v := .int (nI (aW A))) fl_X11_93_11 (by omega) (fq_0 zg3) (congrArg (fun z => some (Value.int z)) ((congrFun h0zg3 13).trans (C.W O))) dX11_image_72 ?_
        refine yj_puti fl_X11_254_3 (by omega) fS_46_3 (fi_i _) dX11_image_75 ?_
        obtain ⟨zg4, ezg4⟩ : ∃ z, z = gs zg3 46 3 (nI (aW A)) := ⟨_, rfl⟩
        rw [← ezg4]
        have h0zg4 : zg4 0 = g 0 := (by rw [ezg4, gs_n _ _ _ (by omega)]; exact h0zg3)
        have hr : zg4 46 = upd (upd (upd (upd (g1 46) 0 (nI (aS A))) 1 (nI (aN A))) 2 (nI (aM A))) 3 (nI (aW A)) := by rw [ezg4, ezg3, ezg2, ezg1, gs_s, gs_s, gs_s, gs_s]
        have hn9 : fr (fun j => j = 46) g1 zg4 := by rw [ezg4, ezg3, ezg2, ezg1]; exact ((((fr.rf (X := fun j => j = 46)).gs rfl _ _).gs rfl _ _).gs rfl _ _).gs rfl _ _
        refine xj_aload_n (n := 0) (i := 0) 1 rfl rfl dX11_image_78 ?_
        refine yj_getf (v := .int (nI (aS A))) fl_X11_80_11 (by omega) (fq_0 zg4) (congrArg (fun z => some (Value.int z)) ((congrFun h0zg4 9).trans (C.S O))) dX11_image_79 ?_
        have er : rImage A = ((nI (aS A)), stImg A) := by unfold rImage; all_goals (rfl)
        exact xj_ireturn rfl (nr_i _) (Nat.zero_le _) (Nat.zero_le _) dX11_image_82 (qI_e (by rw [er]; exact ⟨rfl, (C.img O (hf.tr (hn9.mono fun j hj => Or.inl hj)) (by rw [hr]; exact ⟨O.1.1.symm, O.2.1.1.symm, O.2.2.1.1.symm, O.2.2.2.2.1.1.symm⟩) (fun s hs => (hB s hs).fr (hn9 _ (by omega)) (hn9 _ (by omega)))), ((hf.tr (hn9.mono fun j hj => Or.inl hj)).mono fun j hj => cX_lt (by omega))⟩))
      · exact absurd (nI_le (Nat.le_refl _) (by omega)) zc7
    · intro i hi ih g1 hf hB
      have hs6_i : i < 6 := by omega
      refine xj_iload_n (n := 1) (i := 1) 0 rfl rfl dX11_image_2 ?_
      refine xj_aload_n (n := 0) (i := 0) 1 rfl rfl dX11_image_3 ?_
      refine yj_getf (v := .int (nI (aS A))) fl_X11_80_11 (by omega) (fq_0 g1) (congrArg (fun z => some (Value.int z)) ((congrFun (hf 0 (by omega)) 9).trans (C.S O))) dX11_image_4 ?_
      refine xj_icmp_ge (tgt := 34) (by decide) dX11_image_7 (fun zc7 => ?_) (fun zc7 => ?_)
      · exact absurd zc7 (nI_ge hi (by omega))
      · refine xj_aload_n (n := 0) (i := 0) 1 rfl rfl dX11_image_10 ?_
        refine yj_getf (v := .ref 46) fl_X11_49_11 (by omega) (fq_0 g1) rfl dX11_image_11 ?_
        refine yj_getf (v := .ref 47) fl_X11_246_3 (by omega) (fq_46 g1) rfl dX11_image_14 ?_
        refine xj_iload_n (n := 1) (i := 1) 0 rfl rfl dX11_image_17 ?_
        refine yj_aaldN (m := 6) (a := 48 + 3 * i) i (by omega) (fq_47 g1) (by decide) (by decide) rfl (by omega) (by decide) (if_pos (by omega)) dX11_image_18 ?_
        refine xj_aload_n (n := 0) (i := 0) 1 rfl rfl dX11_image_19 ?_
        refine yj_getf (v := .ref 8) fl_X11_37_11 (by omega) (fq_0 g1) rfl dX11_image_20 ?_
        refine xj_iload_n (n := 1) (i := 1) 0 rfl rfl dX11_image_23 ?_
        refine yj_aaldN (m := 6) (a := 9 + 3 * i) i (by omega) (fq_8 g1) (by decide) (by decide) rfl (by omega) (by decide) (if_pos (by omega)) dX11_image_24 ?_
        refine xj_callV kv_X11_247 (c_X7_takeAfter l (d + 0) n hn g1 (48 + 3 * i) (fPn_k hs6_i) (9 + 3 * i) (aK A i) (A 2 i) (A 3 i) (A (10 + i)) (fPn_r hs6_i) ((C.pane hi).fr (hf _ (by omega)) (hf _ (by omega))) ⟨by omega, by omega, by omega⟩) (As := [.ref (9 + 3 * i)]) (st := []) (by omega) ((fPn_k hs6_i).2.2.1 _) (ci := 7) rfl rfl rfl rfl (xRm_of (by omega) (by decide) (by omega) (by omega)) (Nat.le_of_ble_eq_true rfl) dX11_image_25 (yk_v (kc := 0) (ks := 0) fun zg5 hzg5 => ?_)
        obtain ⟨hf2, B2⟩ := hzg5
        refine xj_iinc (n := 1) (i := 1) (v := nI (i + 1)) (lv1 := [(1, .int (nI (i + 1))), (0, .ref 0)]) 0 rfl (nI_1 i) rfl (Nat.le_of_ble_eq_true rfl) dX11_image_28 ?_
        refine xj_goto (tgt := 2) (by decide) dX11_image_31 ?_
        refine xj_sub (lv' := [(1, .int (nI (i + 1))), (0, .ref 0)]) [0, 1] rfl ?_
        exact ih zg5 (hf.tr (hf2.mono fun j hj => by omega)) (fun s hs => by by_cases e : s = i; (subst e; exact B2); (exact (hB s (by omega)).fr (hf2 _ (by omega)) (hf2 _ (by omega))))
  refine xj_sub (lv' := [(1, .int 0), (0, .ref 0)]) [0, 1] rfl ?_
  exact key 0 (Nat.zero_le _) g fr.rf (fun s hs => absurd hs (Nat.not_lt_zero s))
set_option maxHeartbeats 4000000 in
set_option maxRecDepth 100000 in
theorem c_X11_back (l : Launch) (d : Nat) (n : Nat) (g : xG) (A : zSt) (Λ : Nat → xL) (O : okA A) (C : cA g n A Λ)  : xC l yX11_back cX11_back 2 (some .int) (xR (d + 2) 0 0) [.ref 0] (n, fh g) (qI n fun v g1 => v = (rBack A).1 ∧ cA g1 n (rBack A).2 Λ ∧ fr cX g g1) := by
  refine xC_of false (by decide +kernel) (fun z => by cases z) (Nat.le_of_ble_eq_true rfl) ?_
  have hn := C.n110 O
  have hS6 := O.1.2
  have hW := O.W
  have hT6 := O.2.2.2.1.2.2
  have hN9 := O.2.1.2
  show xJ l (RX11, 2, (some .int), false, (xR (d + 2) 0 0), none) cX11_back _ 0 0 0 [(0, .ref 0)] [] (n, fh g)
  refine xj_aload_n (n := 0) (i := 0) 0 rfl rfl dX11_back_0 ?_
  refine yj_getf (v := .ref 46) fl_X11_49_11 (by omega) (fq_0 g) rfl dX11_back_1 ?_
  refine yj_getf (v := .int (g 46 0)) fl_X11_251_3 (by omega) (fq_46 g) rfl dX11_back_4 ?_
  refine xj_iconst (v := (-1)) (by decide) dX11_back_7 ?_
  refine xj_icmp_ne (tgt := 14) (by decide) dX11_back_8 (fun zc8 => ?_) (fun zc8 => ?_)
  · have z6 : ¬ A 0 6 = 0 := fun e => zc8 (C.2.2.2.2.2.1.1 e)
    have hw9 := O.2.2.2.2.2.2.2.1.resolve_left z6
    have hci := C.2.2.2.2.2.1.2 z6
    have hI6 := hw9.2.2.1
    refine xj_iconst (v := 0) (by decide) dX11_back_14 ?_
    refine xj_istore_n (n := 1) (i := 1) (lv1 := [(1, .int 0), (0, .ref 0)]) rfl rfl (Nat.le_of_ble_eq_true rfl) dX11_back_15 ?_
    have key : ∀ i, i ≤ aI A → ∀ (g1 : xG), fr (fun j => 9 ≤ j ∧ j < 27) g g1 → (∀ s, s < i → pnA g1 (9 + 3 * s) (aK A s) (A 2 s) (A 4 s) (A (20 + s))) → xJ l (RX11, 2, (some .int), false, (xR (d + 2) 0 0), none) cX11_back (qI n fun v g1 => v = (rBack A).1 ∧ cA g1 n (rBack A).2 Λ ∧ fr cX g g1) 0 0 16 [(1, .int (nI i)), (0, .ref 0)] [] (n, fh g1) := by
      refine x_loop (aI A) _ ?_ ?_
      · intro g1 hf hB
        refine xj_iload_n (n := 1) (i := 1) 0 rfl rfl dX11_back_16 ?_
        refine xj_aload_n (n := 0) (i := 0) 1 rfl rfl dX11_back_17 ?_
        refine yj_getf (v := .ref 46) fl_X11_49_11 (by omega) (fq_0 g1) rfl dX11_back_18 ?_
        refine yj_getf (v := .int (nI (aI A))) fl_X11_251_3 (by omega) (fq_46 g1) (congrArg (fun z => some (Value.int z)) ((congrFun (hf 46 (by omega)) 0).trans (hci.1.1.trans hw9.2.1))) dX11_back_21 ?_
        refine xj_icmp_ge (tgt := 51) (by decide) dX11_back_24 (fun zc24 => ?_) (fun zc24 => ?_)
        · refine xj_aload_n (n := 0) (i := 0) 1 rfl rfl dX11_back_51 ?_
          refine xj_aload_n (n := 0) (i := 0) 1 rfl rfl dX11_back_52 ?_
          refine yj_getf (v := .ref 46) fl_X11_49_11 (by omega) (fq_0 g1) rfl dX11_back_53 ?_
          refine yj_getf (v := .int (nI (aI A))) fl_X11_251_3 (by omega) (fq_46 g1) (congrArg (fun z => some (Value.int z)) ((congrFun (hf 46 (by omega)) 0).trans (hci.1.1.trans hw9.2.1))) dX11_back_56 ?_
          refine yj_puti fl_X11_80_11 (by omega) fS_0_9 (fi_i _) dX11_back_59 ?_
          obtain ⟨zg1, ezg1⟩ : ∃ z, z = gs g1 0 9 (nI (aI A)) := ⟨_, rfl⟩
          rw [← ezg1]
          have h46zg1 : zg1 46 = g 46 := (by rw [ezg1, gs_n _ _ _ (by omega)]; exact (hf 46 (by omega)))
          refine xj_aload_n (n := 0) (i := 0) 1 rfl rfl dX11_back_62 ?_
          refine xj_aload_n (n := 0) (i := 0) 1 rfl rfl dX11_back_63 ?_
          refine yj_getf (v := .ref 46) fl_X11_49_11 (by omega) (fq_0 zg1) rfl dX11_back_64 ?_
          refine yj_getf (v := .int (A 0 8)) fl_X11_252_3 (by omega) (fq_46 zg1) (congrArg (fun z => some (Value.int z)) ((congrFun h46zg1 1).trans hci.1.2.1)) dX11_back_67 ?_
          refine xj_topi (fun zv2 ezv2 => ?_)
          refine yj_puti fl_X11_84_11 (by omega) fS_0_10 (fi_i _) dX11_back_70 ?_
          obtain ⟨zg3, ezg3⟩ : ∃ z, z = gs zg1 0 10 zv2 := ⟨_, rfl⟩
          rw [← ezg3]
          have h46zg3 : zg3 46 = g 46 := (by rw [ezg3, gs_n _ _ _ (by omega)]; exact h46zg1)
          refine xj_aload_n (n := 0) (i := 0) 1 rfl rfl dX11_back_73 ?_
          refine xj_aload_n (n := 0) (i := 0) 1 rfl rfl dX11_back_74 ?_
          refine yj_getf (v := .ref 46) fl_X11_49_11 (by omega) (fq_0 zg3) rfl dX11_back_75 ?_
          refine yj_getf (v := .int (A 0 9)) fl_X11_253_3 (by omega) (fq_46 zg3) (congrArg (fun z => some (Value.int z)) ((congrFun h46zg3 2).trans hci.1.2.2.1)) dX11_back_78 ?_
          refine xj_topi (fun zv4 ezv4 => ?_)
          refine yj_puti fl_X11_87_11 (by omega) fS_0_11 (fi_i _) dX11_back_81 ?_
          obtain ⟨zg5, ezg5⟩ : ∃ z, z = gs zg3 0 11 zv4 := ⟨_, rfl⟩
          rw [← ezg5]
          have h46zg5 : zg5 46 = g 46 := (by rw [ezg5, gs_n _ _ _ (by omega)]; exact h46zg3)
          refine xj_aload_n (n := 0) (i := 0) 1 rfl rfl dX11_back_84 ?_
          refine xj_aload_n (n := 0) (i := 0) 1 rfl rfl dX11_back_85 ?_
          refine yj_getf (v := .ref 46) fl_X11_49_11 (by omega) (fq_0 zg5) rfl dX11_back_86 ?_
          refine yj_getf (v := .int (A 0 10)) fl_X11_254_3 (by omega) (fq_46 zg5) (congrArg (fun z => some (Value.int z)) ((congrFun h46zg5 3).trans hci.1.2.2.2)) dX11_back_89 ?_
          refine xj_topi (fun zv6 ezv6 => ?_)
          refine yj_puti fl_X11_93_11 (by omega) fS_0_13 (fi_i _) dX11_back_92 ?_
          obtain ⟨zg7, ezg7⟩ : ∃ z, z = gs zg5 0 13 zv6 := ⟨_, rfl⟩
          rw [← ezg7]
          have h46zg7 : zg7 46 = g 46 := (by rw [ezg7, gs_n _ _ _ (by omega)]; exact h46zg5)
          have hr : zg7 0 = upd (upd (upd (upd (g 0) 9 (nI (aI A))) 10 (A 0 8)) 11 (A 0 9)) 13 (A 0 10) := by rw [ezg7, ezg5, ezg3, ezg1, gs_s, gs_s, gs_s, gs_s, hf 0 (by omega), ezv2, ezv4, ezv6]
          have hn9 : fr (fun j => j = 0) g1 zg7 := by rw [ezg7, ezg5, ezg3, ezg1]; exact ((((fr.rf (X := fun j => j = 0)).gs rfl _ _).gs rfl _ _).gs rfl _ _).gs rfl _ _
          have hff : fr (fun j => j = 0 ∨ (9 ≤ j ∧ j < 27)) g zg7 := (hf.mono fun j hj => Or.inr hj).tr (hn9.mono fun j hj => Or.inl hj)
          refine xj_aload_n (n := 0) (i := 0) 1 rfl rfl dX11_back_95 ?_
          refine yj_getf (v := .int (nI (aI A))) fl_X11_80_11 (by omega) (fq_0 zg7) (congrArg (fun z => some (Value.int z)) (by rw [hr]; rfl)) dX11_back_96 ?_
          have er : rBack A = ((nI (aI A)), stBack A) := by unfold rBack; rw [if_neg z6]; all_goals (rfl)
          exact xj_ireturn rfl (nr_i _) (Nat.zero_le _) (Nat.zero_le _) dX11_back_99 (qI_e (by rw [er]; exact ⟨rfl, (C.bck O hw9.1 hff (by rw [hr]; exact ⟨hw9.2.1.symm, rfl, rfl, C.2.1.2.2.2.1, rfl⟩) (fun s hs => (hB s hs).fr (hn9 _ (by omega)) (hn9 _ (by omega)))), (hff.mono fun j hj => cX_lt (by omega))⟩))
        · exact absurd (nI_le (Nat.le_refl _) (by omega)) zc24
      · intro i hi ih g1 hf hB
        have hs6_i : i < 6 := by omega
        refine xj_iload_n (n := 1) (i := 1) 0 rfl rfl dX11_back_16 ?_
        refine xj_aload_n (n := 0) (i := 0) 1 rfl rfl dX11_back_17 ?_
        refine yj_getf (v := .ref 46) fl_X11_49_11 (by omega) (fq_0 g1) rfl dX11_back_18 ?_
        refine yj_getf (v := .int (nI (aI A))) fl_X11_251_3 (by omega) (fq_46 g1) (congrArg (fun z => some (Value.int z)) ((congrFun (hf 46 (by omega)) 0).trans (hci.1.1.trans hw9.2.1))) dX11_back_21 ?_
        refine xj_icmp_ge (tgt := 51) (by decide) dX11_back_24 (fun zc24 => ?_) (fun zc24 => ?_)
        · exact absurd zc24 (nI_ge hi (by omega))
        · refine xj_aload_n (n := 0) (i := 0) 1 rfl rfl dX11_back_27 ?_
          refine yj_getf (v := .ref 8) fl_X11_37_11 (by omega) (fq_0 g1) rfl dX11_back_28 ?_
          refine xj_iload_n (n := 1) (i := 1) 0 rfl rfl dX11_back_31 ?_
          refine yj_aaldN (m := 6) (a := 9 + 3 * i) i (by omega) (fq_8 g1) (by decide) (by decide) rfl (by omega) (by decide) (if_pos (by omega)) dX11_back_32 ?_
          refine xj_aload_n (n := 0) (i := 0) 1 rfl rfl dX11_back_33 ?_
          refine yj_getf (v := .ref 46) fl_X11_49_11 (by omega) (fq_0 g1) rfl dX11_back_34 ?_
          refine yj_getf (v := .ref 47) fl_X11_246_3 (by omega) (fq_46 g1) rfl dX11_back_37 ?_
          refine xj_iload_n (n := 1) (i := 1) 0 rfl rfl dX11_back_40 ?_
          refine yj_aaldN (m := 6) (a := 48 + 3 * i) i (by omega) (fq_47 g1) (by decide) (by decide) rfl (by omega) (by decide) (if_pos (by omega)) dX11_back_41 ?_
          refine xj_callV kv_X11_247 (c_X7_takeAfter l (d + 0) n hn g1 (9 + 3 * i) (fPn_r hs6_i) (48 + 3 * i) (aK A i) (A 2 i) (A 4 i) (A (20 + i)) (fPn_k hs6_i) ((hci.2 i hi).fr (hf _ (by omega)) (hf _ (by omega))) ⟨by omega, by omega, by omega⟩) (As := [.ref (48 + 3 * i)]) (st := []) (by omega) ((fPn_r hs6_i).2.2.1 _) (ci := 7) rfl rfl rfl rfl (xRm_of (by omega) (by decide) (by omega) (by omega)) (Nat.le_of_ble_eq_true rfl) dX11_back_42 (yk_v (kc := 0) (ks := 0) fun zg8 hzg8 => ?_)
          obtain ⟨hf2, B2⟩ := hzg8
          refine xj_iinc (n := 1) (i := 1) (v := nI (i + 1)) (lv1 := [(1, .int (nI (i + 1))), (0, .ref 0)]) 0 rfl (nI_1 i) rfl (Nat.le_of_ble_eq_true rfl) dX11_back_45 ?_
          refine xj_goto (tgt := 16) (by decide) dX11_back_48 ?_
          refine xj_sub (lv' := [(1, .int (nI (i + 1))), (0, .ref 0)]) [0, 1] rfl ?_
          exact ih zg8 (hf.tr (hf2.mono fun j hj => by omega)) (fun s hs => by by_cases e : s = i; (subst e; exact B2); (exact (hB s (by omega)).fr (hf2 _ (by omega)) (hf2 _ (by omega))))
    refine xj_sub (lv' := [(1, .int 0), (0, .ref 0)]) [0, 1] rfl ?_
    exact key 0 (Nat.zero_le _) g fr.rf (fun s hs => absurd hs (Nat.not_lt_zero s))
  · have z6 : A 0 6 = 0 := Decidable.byContradiction fun e => by have w := O.2.2.2.2.2.2.2.1.resolve_left e; have h := (C.2.2.2.2.2.1.2 e).1.1; rw [zc8, w.2.1] at h; have h2 := congrArg Int32.toInt h; rw [nI_toInt (by have := w.2.2.1; omega), show (-1 : Int32).toInt = -1 from rfl] at h2; omega
    refine xj_bipush (v := (-3)) (by decide) dX11_back_11 ?_
    have er : rBack A = ((-3), A) := by unfold rBack; rw [if_pos z6]; all_goals (rfl)
    exact xj_ireturn rfl (nr_i _) (Nat.zero_le _) (Nat.zero_le _) dX11_back_13 (qI_e (by rw [er]; exact ⟨rfl, C, fr.rf⟩))
