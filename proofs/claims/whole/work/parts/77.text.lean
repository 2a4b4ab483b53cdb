def fn (g g1 : xG) : Prop := (∀ j, j ≠ 86 → g1 j = g j) ∧ ∀ k, ¬ (21 ≤ k ∧ k < 25) → g1 86 k = g 86 k
theorem fn.rf {g : xG} : fn g g := ⟨fun _ _ => rfl, fun _ _ => rfl⟩
theorem fn.tr {g g1 g2 : xG} (h : fn g g1) (h2 : fn g1 g2) : fn g g2 := ⟨fun j x => (h2.1 j x).trans (h.1 j x), fun k x => (h2.2 k x).trans (h.2 k x)⟩
theorem fn.g86 {g g1 : xG} (h : fn g g1) {k : Nat} (hk : 21 ≤ k ∧ k < 25) (x : Int32) : fn g (gs g1 86 k x) := ⟨fun j a => by rw [gs_n _ _ _ a]; exact h.1 j a, fun j hj => by rw [gs_s, upd_n _ _ (fun e => hj (by rw [e]; exact hk))]; exact h.2 j hj⟩
theorem fn.fe {g g1 : xG} (h : fn g g1) (t : Nat) : fe 21 t g g1 := ⟨fun j a _ _ => h.1 j a, fun k hk => h.2 k (fun y => hk (by unfold eX; omega)), fun k _ => by rw [h.1 92 (by decide)]⟩
theorem sg_m {x : Int32} (h : isSg x = true) : mtq x = x ∧ ¬ 262 ≤ x ∧ ¬ mtq x = 3 ∧ ¬ x = 1 := by
  rcases (of_decide_eq_true h : x = 40 ∨ x = 41 ∨ x = 59 ∨ x = 43 ∨ x = 45 ∨ x = 42 ∨ x = 60 ∨ x = 61) with e | e | e | e | e | e | e | e <;> (rw [e]; decide)
theorem isLt_in {b : Nat → Int32} {z s : Nat} (hs : s ≤ z) : ∀ j, s ≤ j → j < rnP isLt b z s → ¬ b j = 32 := fun j h1 h2 => lt_32 (rnF_in isLt b (z - s) s j h1 h2)
theorem w4_3 : ∀ r, r < 12 → 9 ≤ r → ¬ (4 : Int32) + nI r - 9 = 3 := by decide +kernel
set_option maxHeartbeats 4000000 in
set_option maxRecDepth 100000 in
theorem c_X12_next (l : Launch) (d : Nat) (n : Nat) (hn : 110 ≤ n) (g : xG) (b : Nat → Int32) (z : Nat) (hz : z ≤ 160) (hb : g 91 = b) (h0 : g 86 8 = nI z) (W : mAW g) (i : Nat) (hi : i ≤ z) (h21 : g 86 21 = nI i)  : xC l yX12_next cX12_next 3 none (xR (d + 2) 0 0) [.ref 86] (n, fh g) (qV n fun g1 => fn g g1 ∧ g1 86 22 = nI (stP b z i) ∧ g1 86 21 = nI (nxP b z i) ∧ g1 86 23 = mtq (tkP b z i) ∧ (tkP b z i = 1 → g1 86 24 = nmP b z i) ∧ (262 ≤ tkP b z i → g1 86 24 = tkP b z i - 262) ∧ (mtq (tkP b z i) = 3 → g1 86 24 = tkP b z i - 256)) := by
  refine xC_of false (by decide +kernel) (fun z => by cases z) (Nat.le_of_ble_eq_true rfl) ?_
  show xJ l (RX12, 3, none, false, (xR (d + 2) 0 0), none) cX12_next _ 0 0 0 [(0, .ref 86)] [] (n, fh g)
  have key : ∀ j, j ≤ z → ∀ (g1 : xG), fn g g1 → g1 86 21 = nI j → rnP isBl b z j = stP b z i → i ≤ j → xJ l (RX12, 3, none, false, (xR (d + 2) 0 0), none) cX12_next (qV n fun g1 => fn g g1 ∧ g1 86 22 = nI (stP b z i) ∧ g1 86 21 = nI (nxP b z i) ∧ g1 86 23 = mtq (tkP b z i) ∧ (tkP b z i = 1 → g1 86 24 = nmP b z i) ∧ (262 ≤ tkP b z i → g1 86 24 = tkP b z i - 262) ∧ (mtq (tkP b z i) = 3 → g1 86 24 = tkP b z i - 256)) 0 0 0 [(0, .ref 86)] [] (n, fh g1) := by
    refine x_loop z _ ?_ ?_
    · intro g1 hf hs6 hr hij
      have hend : rnP isBl b z z = z := rnP_z (Nat.le_refl z)
      have hE : stP b z i = z := hr.symm.trans hend
      have hzE : z ≤ z := Nat.le_refl z
      have hT : tkP b z i = 0 := by unfold tkP; rw [hE, if_pos hzE]
      have hN : nxP b z i = z := by unfold nxP; rw [hE, if_pos hzE]
      refine xj_aload_n (n := 0) (i := 0) 0 rfl rfl dX12_next_0 ?_
      refine yj_getf (v := .int (nI z)) fl_X12_110_12 (by omega) (fq_86 g1) (congrArg (fun z => some (Value.int z)) hs6) dX12_next_1 ?_
      refine xj_aload_n (n := 0) (i := 0) 0 rfl rfl dX12_next_4 ?_
      refine yj_getf (v := .int (nI z)) fl_X12_83_12 (by omega) (fq_86 g1) (congrArg (fun z => some (Value.int z)) ((hf.2 8 (by omega)).trans h0)) dX12_next_5 ?_
      refine xj_icmp_ge (tgt := 52) (by decide) dX12_next_8 (fun zc8 => ?_) (fun zc8 => ?_)
      · refine xj_aload_n (n := 0) (i := 0) 0 rfl rfl dX12_next_52 ?_
        refine xj_aload_n (n := 0) (i := 0) 0 rfl rfl dX12_next_53 ?_
        refine yj_getf (v := .int (nI z)) fl_X12_110_12 (by omega) (fq_86 g1) (congrArg (fun z => some (Value.int z)) hs6) dX12_next_54 ?_
        refine yj_puti fl_X12_113_12 (by omega) fS_86_22 (fi_i _) dX12_next_57 ?_
        obtain ⟨zg1, ezg1⟩ : ∃ x9, x9 = gs g1 86 22 (nI z) := ⟨_, rfl⟩
        rw [← ezg1]
        have t8zg1 : zg1 86 8 = nI z := by rw [ezg1, gs_s, upd_n _ _ (by decide)]; exact ((hf.2 8 (by omega)).trans h0)
        have t21zg1 : zg1 86 21 = nI z := by rw [ezg1, gs_s, upd_n _ _ (by decide)]; exact hs6
        have t22zg1 : zg1 86 22 = (nI z) := by rw [ezg1, gs_s, upd_s]
        have r91zg1 : zg1 91 = b := by rw [ezg1, gs_n _ _ _ (by decide)]; exact ((hf.1 91 (by decide)).trans hb)
        have fzg1 : fn g zg1 := by rw [ezg1]; exact hf.g86 (by omega) _
        refine xj_aload_n (n := 0) (i := 0) 0 rfl rfl dX12_next_60 ?_
        refine xj_iconst (v := 0) (by decide) dX12_next_61 ?_
        refine yj_puti fl_X12_116_12 (by omega) fS_86_23 (fi_i _) dX12_next_62 ?_
        obtain ⟨zg2, ezg2⟩ : ∃ x9, x9 = gs zg1 86 23 0 := ⟨_, rfl⟩
        rw [← ezg2]
        have t8zg2 : zg2 86 8 = nI z := by rw [ezg2, gs_s, upd_n _ _ (by decide)]; exact t8zg1
        have t21zg2 : zg2 86 21 = nI z := by rw [ezg2, gs_s, upd_n _ _ (by decide)]; exact t21zg1
        have t22zg2 : zg2 86 22 = (nI z) := by rw [ezg2, gs_s, upd_n _ _ (by decide)]; exact t22zg1
        have t23zg2 : zg2 86 23 = 0 := by rw [ezg2, gs_s, upd_s]
        have r91zg2 : zg2 91 = b := by rw [ezg2, gs_n _ _ _ (by decide)]; exact r91zg1
        have fzg2 : fn g zg2 := by rw [ezg2]; exact fzg1.g86 (by omega) _
        refine xj_aload_n (n := 0) (i := 0) 0 rfl rfl dX12_next_65 ?_
        refine xj_iconst (v := 0) (by decide) dX12_next_66 ?_
        refine yj_puti fl_X12_119_12 (by omega) fS_86_24 (fi_i _) dX12_next_67 ?_
        obtain ⟨zg3, ezg3⟩ : ∃ x9, x9 = gs zg2 86 24 0 := ⟨_, rfl⟩
        rw [← ezg3]
        have t8zg3 : zg3 86 8 = nI z := by rw [ezg3, gs_s, upd_n _ _ (by decide)]; exact t8zg2
        have t21zg3 : zg3 86 21 = nI z := by rw [ezg3, gs_s, upd_n _ _ (by decide)]; exact t21zg2
        have t22zg3 : zg3 86 22 = (nI z) := by rw [ezg3, gs_s, upd_n _ _ (by decide)]; exact t22zg2
        have t23zg3 : zg3 86 23 = 0 := by rw [ezg3, gs_s, upd_n _ _ (by decide)]; exact t23zg2
        have t24zg3 : zg3 86 24 = 0 := by rw [ezg3, gs_s, upd_s]
        have r91zg3 : zg3 91 = b := by rw [ezg3, gs_n _ _ _ (by decide)]; exact r91zg2
        have fzg3 : fn g zg3 := by rw [ezg3]; exact fzg2.g86 (by omega) _
        refine xj_aload_n (n := 0) (i := 0) 0 rfl rfl dX12_next_70 ?_
        refine yj_getf (v := .int (nI z)) fl_X12_110_12 (by omega) (fq_86 zg3) (congrArg (fun z => some (Value.int z)) t21zg3) dX12_next_71 ?_
        refine xj_aload_n (n := 0) (i := 0) 0 rfl rfl dX12_next_74 ?_
        refine yj_getf (v := .int (nI z)) fl_X12_83_12 (by omega) (fq_86 zg3) (congrArg (fun z => some (Value.int z)) t8zg3) dX12_next_75 ?_
        refine xj_icmp_ne (tgt := 82) (by decide) dX12_next_78 (fun zc78 => ?_) (fun zc78 => ?_)
        · exact absurd zc78 (fun y => y rfl)
        · exact xj_return rfl (Nat.zero_le _) (Nat.zero_le _) dX12_next_81 (qV_e ⟨fzg3, (t22zg3.trans (by rw [hE])), (t21zg3.trans (by rw [hN])), t23zg3.trans (by rw [hT]; decide), fun y => absurd (hT.symm.trans y) (by decide), fun y => absurd (by rw [hT] at y; exact y) (by decide), fun y => absurd (by rw [hT] at y; exact y) (by decide)⟩)
      · exact absurd (nI_le (Nat.le_refl _) (by omega)) zc8
    · intro j hj ih g1 hf hs6 hr hij
      refine xj_aload_n (n := 0) (i := 0) 0 rfl rfl dX12_next_0 ?_
      refine yj_getf (v := .int (nI j)) fl_X12_110_12 (by omega) (fq_86 g1) (congrArg (fun z => some (Value.int z)) hs6) dX12_next_1 ?_
      refine xj_aload_n (n := 0) (i := 0) 0 rfl rfl dX12_next_4 ?_
      refine yj_getf (v := .int (nI z)) fl_X12_83_12 (by omega) (fq_86 g1) (congrArg (fun z => some (Value.int z)) ((hf.2 8 (by omega)).trans h0)) dX12_next_5 ?_
      refine xj_icmp_ge (tgt := 52) (by decide) dX12_next_8 (fun zc8 => ?_) (fun zc8 => ?_)
      · exact absurd zc8 (nI_ge hj (by omega))
      · refine xj_aload_n (n := 0) (i := 0) 0 rfl rfl dX12_next_11 ?_
        refine yj_getf (v := .ref 91) fl_X12_26_12 (by omega) (fq_86 g1) rfl dX12_next_12 ?_
        refine xj_aload_n (n := 0) (i := 0) 0 rfl rfl dX12_next_15 ?_
        refine yj_getf (v := .int (nI j)) fl_X12_110_12 (by omega) (fq_86 g1) (congrArg (fun z => some (Value.int z)) hs6) dX12_next_16 ?_
        refine yj_ialdN j (by omega) fA_91 rfl (by omega) (by decide) dX12_next_19 ?_
        refine xj_top (congrFun ((hf.1 91 (by decide)).trans hb) j) ?_
        refine xj_bipush (v := 32) (by decide) dX12_next_20 ?_
        refine xj_icmp_eq (tgt := 39) (by decide) dX12_next_22 (fun zc22 => ?_) (fun zc22 => ?_)
        · have hbl : isBl (b j) = true := decide_eq_true (Or.inl zc22)
          have hst := rnP_s (p := isBl) (b := b) hj hbl
          refine xj_aload_n (n := 0) (i := 0) 0 rfl rfl dX12_next_39 ?_
          refine xj_dup rfl dX12_next_40 ?_
          refine yj_getf (v := .int (nI j)) fl_X12_110_12 (by omega) (fq_86 g1) (congrArg (fun z => some (Value.int z)) hs6) dX12_next_41 ?_
          refine xj_iconst (v := 1) (by decide) dX12_next_44 ?_
          refine xj_iadd dX12_next_45 ?_
          refine xj_top (nI_add j 1) ?_
          refine yj_puti fl_X12_110_12 (by omega) fS_86_21 (fi_i _) dX12_next_46 ?_
          obtain ⟨zg4, ezg4⟩ : ∃ x9, x9 = gs g1 86 21 (nI (j + 1)) := ⟨_, rfl⟩
          rw [← ezg4]
          have t8zg4 : zg4 86 8 = nI z := by rw [ezg4, gs_s, upd_n _ _ (by decide)]; exact ((hf.2 8 (by omega)).trans h0)
          have t21zg4 : zg4 86 21 = (nI (j + 1)) := by rw [ezg4, gs_s, upd_s]
          have r91zg4 : zg4 91 = b := by rw [ezg4, gs_n _ _ _ (by decide)]; exact ((hf.1 91 (by decide)).trans hb)
          have fzg4 : fn g zg4 := by rw [ezg4]; exact hf.g86 (by omega) _
          refine xj_goto (tgt := 0) (by decide) dX12_next_49 ?_
          refine xj_sub (lv' := [(0, .ref 86)]) [0] rfl ?_
          exact ih zg4 fzg4 (t21zg4.trans rfl) (hst.symm.trans hr) (by omega)
        · refine xj_aload_n (n := 0) (i := 0) 0 rfl rfl dX12_next_25 ?_
          refine yj_getf (v := .ref 91) fl_X12_26_12 (by omega) (fq_86 g1) rfl dX12_next_26 ?_
          refine xj_aload_n (n := 0) (i := 0) 0 rfl rfl dX12_next_29 ?_
          refine yj_getf (v := .int (nI j)) fl_X12_110_12 (by omega) (fq_86 g1) (congrArg (fun z => some (Value.int z)) hs6) dX12_next_30 ?_
          refine yj_ialdN j (by omega) fA_91 rfl (by omega) (by decide) dX12_next_33 ?_
          refine xj_top (congrFun ((hf.1 91 (by decide)).trans hb) j) ?_
          refine xj_bipush (v := 10) (by decide) dX12_next_34 ?_
          refine xj_icmp_ne (tgt := 52) (by decide) dX12_next_36 (fun zc36 => ?_) (fun zc36 => ?_)
          · have hnb : ¬ isBl (b j) = true := fun y => (of_decide_eq_true y).elim zc22 zc36
            have hend : rnP isBl b z j = j := rnP_n hnb
            have hE : stP b z i = j := hr.symm.trans hend
            have hzE : ¬ z ≤ j := by omega
            refine xj_aload_n (n := 0) (i := 0) 0 rfl rfl dX12_next_52 ?_
            refine xj_aload_n (n := 0) (i := 0) 0 rfl rfl dX12_next_53 ?_
            refine yj_getf (v := .int (nI j)) fl_X12_110_12 (by omega) (fq_86 g1) (congrArg (fun z => some (Value.int z)) hs6) dX12_next_54 ?_
            refine yj_puti fl_X12_113_12 (by omega) fS_86_22 (fi_i _) dX12_next_57 ?_
            obtain ⟨zg5, ezg5⟩ : ∃ x9, x9 = gs g1 86 22 (nI j) := ⟨_, rfl⟩
            rw [← ezg5]
            have t8zg5 : zg5 86 8 = nI z := by rw [ezg5, gs_s, upd_n _ _ (by decide)]; exact ((hf.2 8 (by omega)).trans h0)
            have t21zg5 : zg5 86 21 = nI j := by rw [ezg5, gs_s, upd_n _ _ (by decide)]; exact hs6
            have t22zg5 : zg5 86 22 = (nI j) := by rw [ezg5, gs_s, upd_s]
            have r91zg5 : zg5 91 = b := by rw [ezg5, gs_n _ _ _ (by decide)]; exact ((hf.1 91 (by decide)).trans hb)
            have fzg5 : fn g zg5 := by rw [ezg5]; exact hf.g86 (by omega) _
            refine xj_aload_n (n := 0) (i := 0) 0 rfl rfl dX12_next_60 ?_
            refine xj_iconst (v := 0) (by decide) dX12_next_61 ?_
            refine yj_puti fl_X12_116_12 (by omega) fS_86_23 (fi_i _) dX12_next_62 ?_
            obtain ⟨zg6, ezg6⟩ : ∃ x9, x9 = gs zg5 86 23 0 := ⟨_, rfl⟩
            rw [← ezg6]
            have t8zg6 : zg6 86 8 = nI z := by rw [ezg6, gs_s, upd_n _ _ (by decide)]; exact t8zg5
            have t21zg6 : zg6 86 21 = nI j := by rw [ezg6, gs_s, upd_n _ _ (by decide)]; exact t21zg5
            have t22zg6 : zg6 86 22 = (nI j) := by rw [ezg6, gs_s, upd_n _ _ (by decide)]; exact t22zg5
            have t23zg6 : zg6 86 23 = 0 := by rw [ezg6, gs_s, upd_s]
            have r91zg6 : zg6 91 = b := by rw [ezg6, gs_n _ _ _ (by decide)]; exact r91zg5
            have fzg6 : fn g zg6 := by rw [ezg6]; exact fzg5.g86 (by omega) _
            refine xj_aload_n (n := 0) (i := 0) 0 rfl rfl dX12_next_65 ?_
            refine xj_iconst (v := 0) (by decide) dX12_next_66 ?_
            refine yj_puti fl_X12_119_12 (by omega) fS_86_24 (fi_i _) dX12_next_67 ?_
            obtain ⟨zg7, ezg7⟩ : ∃ x9, x9 = gs zg6 86 24 0 := ⟨_, rfl⟩
            rw [← ezg7]
            have t8zg7 : zg7 86 8 = nI z := by rw [ezg7, gs_s, upd_n _ _ (by decide)]; exact t8zg6
            have t21zg7 : zg7 86 21 = nI j := by rw [ezg7, gs_s, upd_n _ _ (by decide)]; exact t21zg6
            have t22zg7 : zg7 86 22 = (nI j) := by rw [ezg7, gs_s, upd_n _ _ (by decide)]; exact t22zg6
            have t23zg7 : zg7 86 23 = 0 := by rw [ezg7, gs_s, upd_n _ _ (by decide)]; exact t23zg6
            have t24zg7 : zg7 86 24 = 0 := by rw [ezg7, gs_s, upd_s]
            have r91zg7 : zg7 91 = b := by rw [ezg7, gs_n _ _ _ (by decide)]; exact r91zg6
            have fzg7 : fn g zg7 := by rw [ezg7]; exact fzg6.g86 (by omega) _
            refine xj_aload_n (n := 0) (i := 0) 0 rfl rfl dX12_next_70 ?_
            refine yj_getf (v := .int (nI j)) fl_X12_110_12 (by omega) (fq_86 zg7) (congrArg (fun z => some (Value.int z)) t21zg7) dX12_next_71 ?_
            refine xj_aload_n (n := 0) (i := 0) 0 rfl rfl dX12_next_74 ?_
            refine yj_getf (v := .int (nI z)) fl_X12_83_12 (by omega) (fq_86 zg7) (congrArg (fun z => some (Value.int z)) t8zg7) dX12_next_75 ?_
            refine xj_icmp_ne (tgt := 82) (by decide) dX12_next_78 (fun zc78 => ?_) (fun zc78 => ?_)
            · refine xj_aload_n (n := 0) (i := 0) 0 rfl rfl dX12_next_82 ?_
              refine yj_getf (v := .ref 91) fl_X12_26_12 (by omega) (fq_86 zg7) rfl dX12_next_83 ?_
              refine xj_aload_n (n := 0) (i := 0) 0 rfl rfl dX12_next_86 ?_
              refine yj_getf (v := .int (nI j)) fl_X12_110_12 (by omega) (fq_86 zg7) (congrArg (fun z => some (Value.int z)) t21zg7) dX12_next_87 ?_
              refine yj_ialdN j (by omega) fA_91 rfl (by omega) (by decide) dX12_next_90 ?_
              refine xj_top (congrFun r91zg7 j) ?_
              refine xj_istore_n (n := 1) (i := 1) (lv1 := [(1, .int (b j)), (0, .ref 86)]) rfl rfl (Nat.le_of_ble_eq_true rfl) dX12_next_91 ?_
              refine xj_iload_n (n := 1) (i := 1) 0 rfl rfl dX12_next_92 ?_
              refine xj_bipush (v := 97) (by decide) dX12_next_93 ?_
              refine xj_bipush (v := 122) (by decide) dX12_next_95 ?_
              refine xj_callS ks_X12_93 (c_X12_in l (d + 1) (b j) 97 122 _) (As := [.int (b j), .int 97, .int 122]) (st := []) rfl rfl (xRm_of (by omega) (by decide) (by omega) (by omega)) (Nat.le_of_ble_eq_true rfl) dX12_next_97 (yk_p (kc := 0) (ks := 0) ?_)
              refine xj_if_eq (tgt := 217) (by decide) dX12_next_100 (fun zc100 => ?_) (fun zc100 => ?_)
              · have hl : ¬ isLt (b j) = true := fun y => bI_0.mp zc100 (isLt_i.mpr y)
                refine xj_iload_n (n := 1) (i := 1) 0 rfl rfl dX12_next_217 ?_
                refine xj_bipush (v := 48) (by decide) dX12_next_218 ?_
                refine xj_bipush (v := 57) (by decide) dX12_next_220 ?_
                refine xj_callS ks_X12_93 (c_X12_in l (d + 1) (b j) 48 57 _) (As := [.int (b j), .int 48, .int 57]) (st := []) rfl rfl (xRm_of (by omega) (by decide) (by omega) (by omega)) (Nat.le_of_ble_eq_true rfl) dX12_next_222 (yk_p (kc := 0) (ks := 0) ?_)
                refine xj_if_eq (tgt := 326) (by decide) dX12_next_225 (fun zc225 => ?_) (fun zc225 => ?_)
                · have hd : ¬ isDg (b j) = true := fun y => bI_0.mp zc225 (isDg_i.mpr y)
                  refine xj_iload_n (n := 1) (i := 1) 0 rfl rfl dX12_next_326 ?_
                  refine xj_bipush (v := 40) (by decide) dX12_next_327 ?_
                  refine xj_icmp_eq (tgt := 374) (by decide) dX12_next_329 (fun zc329 => ?_) (fun zc329 => ?_)
                  · have hs : isSg (b j) = true := decide_eq_true (Or.inl zc329)
                    have hsm := sg_m hs
                    have hT : tkP b z i = b j := by unfold tkP; rw [hE, if_neg hzE, if_neg hl, if_neg hd, if_pos hs]
                    have hN : nxP b z i = j + 1 := by unfold nxP; rw [hE, if_neg hzE, if_neg hl, if_neg hd]
                    refine xj_iconst (v := 1) (by decide) dX12_next_374 ?_
                    refine xj_goto (tgt := 379) (by decide) dX12_next_375 ?_
                    refine xj_istore_n (n := 2) (i := 2) (lv1 := [(2, .int 1), (1, .int (b j)), (0, .ref 86)]) rfl rfl (Nat.le_of_ble_eq_true rfl) dX12_next_379 ?_
                    refine xj_aload_n (n := 0) (i := 0) 2 rfl rfl dX12_next_380 ?_
                    refine xj_iload_n (n := 2) (i := 2) 0 rfl rfl dX12_next_381 ?_
                    refine xj_if_eq (tgt := 389) (by decide) dX12_next_382 (fun zc382 => ?_) (fun zc382 => ?_)
                    · exact absurd zc382 (by decide)
                    · refine xj_iload_n (n := 1) (i := 1) 1 rfl rfl dX12_next_385 ?_
                      refine xj_goto (tgt := 390) (by decide) dX12_next_386 ?_
                      refine yj_puti fl_X12_116_12 (by omega) fS_86_23 (fi_i _) dX12_next_390 ?_
                      obtain ⟨zg8, ezg8⟩ : ∃ x9, x9 = gs zg7 86 23 (b j) := ⟨_, rfl⟩
                      rw [← ezg8]
                      have t8zg8 : zg8 86 8 = nI z := by rw [ezg8, gs_s, upd_n _ _ (by decide)]; exact t8zg7
                      have t21zg8 : zg8 86 21 = nI j := by rw [ezg8, gs_s, upd_n _ _ (by decide)]; exact t21zg7
                      have t22zg8 : zg8 86 22 = (nI j) := by rw [ezg8, gs_s, upd_n _ _ (by decide)]; exact t22zg7
                      have t24zg8 : zg8 86 24 = 0 := by rw [ezg8, gs_s, upd_n _ _ (by decide)]; exact t24zg7
                      have t23zg8 : zg8 86 23 = (b j) := by rw [ezg8, gs_s, upd_s]
                      have r91zg8 : zg8 91 = b := by rw [ezg8, gs_n _ _ _ (by decide)]; exact r91zg7
                      have fzg8 : fn g zg8 := by rw [ezg8]; exact fzg7.g86 (by omega) _
                      refine xj_aload_n (n := 0) (i := 0) 2 rfl rfl dX12_next_393 ?_
                      refine xj_dup rfl dX12_next_394 ?_
                      refine yj_getf (v := .int (nI j)) fl_X12_110_12 (by omega) (fq_86 zg8) (congrArg (fun z => some (Value.int z)) t21zg8) dX12_next_395 ?_
                      refine xj_iconst (v := 1) (by decide) dX12_next_398 ?_
                      refine xj_iadd dX12_next_399 ?_
                      refine xj_top (nI_add j 1) ?_
                      refine yj_puti fl_X12_110_12 (by omega) fS_86_21 (fi_i _) dX12_next_400 ?_
                      obtain ⟨zg9, ezg9⟩ : ∃ x9, x9 = gs zg8 86 21 (nI (j + 1)) := ⟨_, rfl⟩
                      rw [← ezg9]
                      have t8zg9 : zg9 86 8 = nI z := by rw [ezg9, gs_s, upd_n _ _ (by decide)]; exact t8zg8
                      have t22zg9 : zg9 86 22 = (nI j) := by rw [ezg9, gs_s, upd_n _ _ (by decide)]; exact t22zg8
                      have t24zg9 : zg9 86 24 = 0 := by rw [ezg9, gs_s, upd_n _ _ (by decide)]; exact t24zg8
                      have t23zg9 : zg9 86 23 = (b j) := by rw [ezg9, gs_s, upd_n _ _ (by decide)]; exact t23zg8
                      have t21zg9 : zg9 86 21 = (nI (j + 1)) := by rw [ezg9, gs_s, upd_s]
                      have r91zg9 : zg9 91 = b := by rw [ezg9, gs_n _ _ _ (by decide)]; exact r91zg8
                      have fzg9 : fn g zg9 := by rw [ezg9]; exact fzg8.g86 (by omega) _
                      exact xj_return rfl (Nat.zero_le _) (Nat.zero_le _) dX12_next_403 (qV_e ⟨fzg9, (t22zg9.trans (by rw [hE])), (t21zg9.trans (by rw [hN])), t23zg9.trans (by rw [hT]; exact hsm.1.symm), fun y => absurd (hT.symm.trans y) hsm.2.2.2, fun y => absurd (by rw [hT] at y; exact y) hsm.2.1, fun y => absurd (by rw [hT] at y; exact y) hsm.2.2.1⟩)
                  · refine xj_iload_n (n := 1) (i := 1) 0 rfl rfl dX12_next_332 ?_
                    refine xj_bipush (v := 41) (by decide) dX12_next_333 ?_
                    refine xj_icmp_eq (tgt := 374) (by decide) dX12_next_335 (fun zc335 => ?_) (fun zc335 => ?_)
                    · have hs : isSg (b j) = true := decide_eq_true (Or.inr (Or.inl zc335))
                      have hsm := sg_m hs
                      have hT : tkP b z i = b j := by unfold tkP; rw [hE, if_neg hzE, if_neg hl, if_neg hd, if_pos hs]
                      have hN : nxP b z i = j + 1 := by unfold nxP; rw [hE, if_neg hzE, if_neg hl, if_neg hd]
                      refine xj_iconst (v := 1) (by decide) dX12_next_374 ?_
                      refine xj_goto (tgt := 379) (by decide) dX12_next_375 ?_
                      refine xj_istore_n (n := 2) (i := 2) (lv1 := [(2, .int 1), (1, .int (b j)), (0, .ref 86)]) rfl rfl (Nat.le_of_ble_eq_true rfl) dX12_next_379 ?_
                      refine xj_aload_n (n := 0) (i := 0) 2 rfl rfl dX12_next_380 ?_
                      refine xj_iload_n (n := 2) (i := 2) 0 rfl rfl dX12_next_381 ?_
                      refine xj_if_eq (tgt := 389) (by decide) dX12_next_382 (fun zc382 => ?_) (fun zc382 => ?_)
                      · exact absurd zc382 (by decide)
                      · refine xj_iload_n (n := 1) (i := 1) 1 rfl rfl dX12_next_385 ?_
                        refine xj_goto (tgt := 390) (by decide) dX12_next_386 ?_
                        refine yj_puti fl_X12_116_12 (by omega) fS_86_23 (fi_i _) dX12_next_390 ?_
                        obtain ⟨zg10, ezg10⟩ : ∃ x9, x9 = gs zg7 86 23 (b j) := ⟨_, rfl⟩
                        rw [← ezg10]
                        have t8zg10 : zg10 86 8 = nI z := by rw [ezg10, gs_s, upd_n _ _ (by decide)]; exact t8zg7
                        have t21zg10 : zg10 86 21 = nI j := by rw [ezg10, gs_s, upd_n _ _ (by decide)]; exact t21zg7
                        have t22zg10 : zg10 86 22 = (nI j) := by rw [ezg10, gs_s, upd_n _ _ (by decide)]; exact t22zg7
                        have t24zg10 : zg10 86 24 = 0 := by rw [ezg10, gs_s, upd_n _ _ (by decide)]; exact t24zg7
                        have t23zg10 : zg10 86 23 = (b j) := by rw [ezg10, gs_s, upd_s]
                        have r91zg10 : zg10 91 = b := by rw [ezg10, gs_n _ _ _ (by decide)]; exact r91zg7
                        have fzg10 : fn g zg10 := by rw [ezg10]; exact fzg7.g86 (by omega) _
                        refine xj_aload_n (n := 0) (i := 0) 2 rfl rfl dX12_next_393 ?_
                        refine xj_dup rfl dX12_next_394 ?_
                        refine yj_getf (v := .int (nI j)) fl_X12_110_12 (by omega) (fq_86 zg10) (congrArg (fun z => some (Value.int z)) t21zg10) dX12_next_395 ?_
                        refine xj_iconst (v := 1) (by decide) dX12_next_398 ?_
                        refine xj_iadd dX12_next_399 ?_
                        refine xj_top (nI_add j 1) ?_
                        refine yj_puti fl_X12_110_12 (by omega) fS_86_21 (fi_i _) dX12_next_400 ?_
                        obtain ⟨zg11, ezg11⟩ : ∃ x9, x9 = gs zg10 86 21 (nI (j + 1)) := ⟨_, rfl⟩
                        rw [← ezg11]
                        have t8zg11 : zg11 86 8 = nI z := by rw [ezg11, gs_s, upd_n _ _ (by decide)]; exact t8zg10
                        have t22zg11 : zg11 86 22 = (nI j) := by rw [ezg11, gs_s, upd_n _ _ (by decide)]; exact t22zg10
                        have t24zg11 : zg11 86 24 = 0 := by rw [ezg11, gs_s, upd_n _ _ (by decide)]; exact t24zg10
                        have t23zg11 : zg11 86 23 = (b j) := by rw [ezg11, gs_s, upd_n _ _ (by decide)]; exact t23zg10
                        have t21zg11 : zg11 86 21 = (nI (j + 1)) := by rw [ezg11, gs_s, upd_s]
                        have r91zg11 : zg11 91 = b := by rw [ezg11, gs_n _ _ _ (by decide)]; exact r91zg10
                        have fzg11 : fn g zg11 := by rw [ezg11]; exact fzg10.g86 (by omega) _
                        exact xj_return rfl (Nat.zero_le _) (Nat.zero_le _) dX12_next_403 (qV_e ⟨fzg11, (t22zg11.trans (by rw [hE])), (t21zg11.trans (by rw [hN])), t23zg11.trans (by rw [hT]; exact hsm.1.symm), fun y => absurd (hT.symm.trans y) hsm.2.2.2, fun y => absurd (by rw [hT] at y; exact y) hsm.2.1, fun y => absurd (by rw [hT] at y; exact y) hsm.2.2.1⟩)
                    · refine xj_iload_n (n := 1) (i := 1) 0 rfl rfl dX12_next_338 ?_
                      refine xj_bipush (v := 59) (by decide) dX12_next_339 ?_
                      refine xj_icmp_eq (tgt := 374) (by decide) dX12_next_341 (fun zc341 => ?_) (fun zc341 => ?_)
                      · have hs : isSg (b j) = true := decide_eq_true (Or.inr (Or.inr (Or.inl zc341)))
                        have hsm := sg_m hs
                        have hT : tkP b z i = b j := by unfold tkP; rw [hE, if_neg hzE, if_neg hl, if_neg hd, if_pos hs]
                        have hN : nxP b z i = j + 1 := by unfold nxP; rw [hE, if_neg hzE, if_neg hl, if_neg hd]
                        refine xj_iconst (v := 1) (by decide) dX12_next_374 ?_
                        refine xj_goto (tgt := 379) (by decide) dX12_next_375 ?_
                        refine xj_istore_n (n := 2) (i := 2) (lv1 := [(2, .int 1), (1, .int (b j)), (0, .ref 86)]) rfl rfl (Nat.le_of_ble_eq_true rfl) dX12_next_379 ?_
                        refine xj_aload_n (n := 0) (i := 0) 2 rfl rfl dX12_next_380 ?_
                        refine xj_iload_n (n := 2) (i := 2) 0 rfl rfl dX12_next_381 ?_
                        refine xj_if_eq (tgt := 389) (by decide) dX12_next_382 (fun zc382 => ?_) (fun zc382 => ?_)
                        · exact absurd zc382 (by decide)
                        · refine xj_iload_n (n := 1) (i := 1) 1 rfl rfl dX12_next_385 ?_
                          refine xj_goto (tgt := 390) (by decide) dX12_next_386 ?_
                          refine yj_puti fl_X12_116_12 (by omega) fS_86_23 (fi_i _) dX12_next_390 ?_
                          obtain ⟨zg12, ezg12⟩ : ∃ x9, x9 = gs zg7 86 23 (b j) := ⟨_, rfl⟩
                          rw [← ezg12]
                          have t8zg12 : zg12 86 8 = nI z := by rw [ezg12, gs_s, upd_n _ _ (by decide)]; exact t8zg7
                          have t21zg12 : zg12 86 21 = nI j := by rw [ezg12, gs_s, upd_n _ _ (by decide)]; exact t21zg7
                          have t22zg12 : zg12 86 22 = (nI j) := by rw [ezg12, gs_s, upd_n _ _ (by decide)]; exact t22zg7
                          have t24zg12 : zg12 86 24 = 0 := by rw [ezg12, gs_s, upd_n _ _ (by decide)]; exact t24zg7
                          have t23zg12 : zg12 86 23 = (b j) := by rw [ezg12, gs_s, upd_s]
                          have r91zg12 : zg12 91 = b := by rw [ezg12, gs_n _ _ _ (by decide)]; exact r91zg7
                          have fzg12 : fn g zg12 := by rw [ezg12]; exact fzg7.g86 (by omega) _
                          refine xj_aload_n (n := 0) (i := 0) 2 rfl rfl dX12_next_393 ?_
                          refine xj_dup rfl dX12_next_394 ?_
                          refine yj_getf (v := .int (nI j)) fl_X12_110_12 (by omega) (fq_86 zg12) (congrArg (fun z => some (Value.int z)) t21zg12) dX12_next_395 ?_
                          refine xj_iconst (v := 1) (by decide) dX12_next_398 ?_
                          refine xj_iadd dX12_next_399 ?_
                          refine xj_top (nI_add j 1) ?_
                          refine yj_puti fl_X12_110_12 (by omega) fS_86_21 (fi_i _) dX12_next_400 ?_
                          obtain ⟨zg13, ezg13⟩ : ∃ x9, x9 = gs zg12 86 21 (nI (j + 1)) := ⟨_, rfl⟩
                          rw [← ezg13]
                          have t8zg13 : zg13 86 8 = nI z := by rw [ezg13, gs_s, upd_n _ _ (by decide)]; exact t8zg12
                          have t22zg13 : zg13 86 22 = (nI j) := by rw [ezg13, gs_s, upd_n _ _ (by decide)]; exact t22zg12
                          have t24zg13 : zg13 86 24 = 0 := by rw [ezg13, gs_s, upd_n _ _ (by decide)]; exact t24zg12
                          have t23zg13 : zg13 86 23 = (b j) := by rw [ezg13, gs_s, upd_n _ _ (by decide)]; exact t23zg12
                          have t21zg13 : zg13 86 21 = (nI (j + 1)) := by rw [ezg13, gs_s, upd_s]
                          have r91zg13 : zg13 91 = b := by rw [ezg13, gs_n _ _ _ (by decide)]; exact r91zg12
                          have fzg13 : fn g zg13 := by rw [ezg13]; exact fzg12.g86 (by omega) _
                          exact xj_return rfl (Nat.zero_le _) (Nat.zero_le _) dX12_next_403 (qV_e ⟨fzg13, (t22zg13.trans (by rw [hE])), (t21zg13.trans (by rw [hN])), t23zg13.trans (by rw [hT]; exact hsm.1.symm), fun y => absurd (hT.symm.trans y) hsm.2.2.2, fun y => absurd (by rw [hT] at y; exact y) hsm.2.1, fun y => absurd (by rw [hT] at y; exact y) hsm.2.2.1⟩)
                      · refine xj_iload_n (n := 1) (i := 1) 0 rfl rfl dX12_next_344 ?_
                        refine xj_bipush (v := 43) (by decide) dX12_next_345 ?_
                        refine xj_icmp_eq (tgt := 374) (by decide) dX12_next_347 (fun zc347 => ?_) (fun zc347 => ?_)
                        · have hs : isSg (b j) = true := decide_eq_true (Or.inr (Or.inr (Or.inr (Or.inl zc347))))
                          have hsm := sg_m hs
                          have hT : tkP b z i = b j := by unfold tkP; rw [hE, if_neg hzE, if_neg hl, if_neg hd, if_pos hs]
                          have hN : nxP b z i = j + 1 := by unfold nxP; rw [hE, if_neg hzE, if_neg hl, if_neg hd]
                          refine xj_iconst (v := 1) (by decide) dX12_next_374 ?_
                          refine xj_goto (tgt := 379) (by decide) dX12_next_375 ?_
                          refine xj_istore_n (n := 2) (i := 2) (lv1 := [(2, .int 1), (1, .int (b j)), (0, .ref 86)]) rfl rfl (Nat.le_of_ble_eq_true rfl) dX12_next_379 ?_
                          refine xj_aload_n (n := 0) (i := 0) 2 rfl rfl dX12_next_380 ?_
                          refine xj_iload_n (n := 2) (i := 2) 0 rfl rfl dX12_next_381 ?_
                          refine xj_if_eq (tgt := 389) (by decide) dX12_next_382 (fun zc382 => ?_) (fun zc382 => ?_)
                          · exact absurd zc382 (by decide)
                          · refine xj_iload_n (n := 1) (i := 1) 1 rfl rfl dX12_next_385 ?_
                            refine xj_goto (tgt := 390) (by decide) dX12_next_386 ?_
                            refine yj_puti fl_X12_116_12 (by omega) fS_86_23 (fi_i _) dX12_next_390 ?_
                            obtain ⟨zg14, ezg14⟩ : ∃ x9, x9 = gs zg7 86 23 (b j) := ⟨_, rfl⟩
                            rw [← ezg14]
                            have t8zg14 : zg14 86 8 = nI z := by rw [ezg14, gs_s, upd_n _ _ (by decide)]; exact t8zg7
                            have t21zg14 : zg14 86 21 = nI j := by rw [ezg14, gs_s, upd_n _ _ (by decide)]; exact t21zg7
                            have t22zg14 : zg14 86 22 = (nI j) := by rw [ezg14, gs_s, upd_n _ _ (by decide)]; exact t22zg7
                            have t24zg14 : zg14 86 24 = 0 := by rw [ezg14, gs_s, upd_n _ _ (by decide)]; exact t24zg7
                            have t23zg14 : zg14 86 23 = (b j) := by rw [ezg14, gs_s, upd_s]
                            have r91zg14 : zg14 91 = b := by rw [ezg14, gs_n _ _ _ (by decide)]; exact r91zg7
                            have fzg14 : fn g zg14 := by rw [ezg14]; exact fzg7.g86 (by omega) _
                            refine xj_aload_n (n := 0) (i := 0) 2 rfl rfl dX12_next_393 ?_
                            refine xj_dup rfl dX12_next_394 ?_
                            refine yj_getf (v := .int (nI j)) fl_X12_110_12 (by omega) (fq_86 zg14) (congrArg (fun z => some (Value.int z)) t21zg14) dX12_next_395 ?_
                            refine xj_iconst (v := 1) (by decide) dX12_next_398 ?_
                            refine xj_iadd dX12_next_399 ?_
                            refine xj_top (nI_add j 1) ?_
                            refine yj_puti fl_X12_110_12 (by omega) fS_86_21 (fi_i _) dX12_next_400 ?_
                            obtain ⟨zg15, ezg15⟩ : ∃ x9, x9 = gs zg14 86 21 (nI (j + 1)) := ⟨_, rfl⟩
                            rw [← ezg15]
                            have t8zg15 : zg15 86 8 = nI z := by rw [ezg15, gs_s, upd_n _ _ (by decide)]; exact t8zg14
                            have t22zg15 : zg15 86 22 = (nI j) := by rw [ezg15, gs_s, upd_n _ _ (by decide)]; exact t22zg14
                            have t24zg15 : zg15 86 24 = 0 := by rw [ezg15, gs_s, upd_n _ _ (by decide)]; exact t24zg14
                            have t23zg15 : zg15 86 23 = (b j) := by rw [ezg15, gs_s, upd_n _ _ (by decide)]; exact t23zg14
                            have t21zg15 : zg15 86 21 = (nI (j + 1)) := by rw [ezg15, gs_s, upd_s]
                            have r91zg15 : zg15 91 = b := by rw [ezg15, gs_n _ _ _ (by decide)]; exact r91zg14
                            have fzg15 : fn g zg15 := by rw [ezg15]; exact fzg14.g86 (by omega) _
                            exact xj_return rfl (Nat.zero_le _) (Nat.zero_le _) dX12_next_403 (qV_e ⟨fzg15, (t22zg15.trans (by rw [hE])), (t21zg15.trans (by rw [hN])), t23zg15.trans (by rw [hT]; exact hsm.1.symm), fun y => absurd (hT.symm.trans y) hsm.2.2.2, fun y => absurd (by rw [hT] at y; exact y) hsm.2.1, fun y => absurd (by rw [hT] at y; exact y) hsm.2.2.1⟩)
                        · refine xj_iload_n (n := 1) (i := 1) 0 rfl rfl dX12_next_350 ?_
                          refine xj_bipush (v := 45) (by decide) dX12_next_351 ?_
                          refine xj_icmp_eq (tgt := 374) (by decide) dX12_next_353 (fun zc353 => ?_) (fun zc353 => ?_)
                          · have hs : isSg (b j) = true := decide_eq_true (Or.inr (Or.inr (Or.inr (Or.inr (Or.inl zc353)))))
                            have hsm := sg_m hs
                            have hT : tkP b z i = b j := by unfold tkP; rw [hE, if_neg hzE, if_neg hl, if_neg hd, if_pos hs]
                            have hN : nxP b z i = j + 1 := by unfold nxP; rw [hE, if_neg hzE, if_neg hl, if_neg hd]
                            refine xj_iconst (v := 1) (by decide) dX12_next_374 ?_
                            refine xj_goto (tgt := 379) (by decide) dX12_next_375 ?_
                            refine xj_istore_n (n := 2) (i := 2) (lv1 := [(2, .int 1), (1, .int (b j)), (0, .ref 86)]) rfl rfl (Nat.le_of_ble_eq_true rfl) dX12_next_379 ?_
                            refine xj_aload_n (n := 0) (i := 0) 2 rfl rfl dX12_next_380 ?_
                            refine xj_iload_n (n := 2) (i := 2) 0 rfl rfl dX12_next_381 ?_
                            refine xj_if_eq (tgt := 389) (by decide) dX12_next_382 (fun zc382 => ?_) (fun zc382 => ?_)
                            · exact absurd zc382 (by decide)
                            · refine xj_iload_n (n := 1) (i := 1) 1 rfl rfl dX12_next_385 ?_
                              refine xj_goto (tgt := 390) (by decide) dX12_next_386 ?_
                              refine yj_puti fl_X12_116_12 (by omega) fS_86_23 (fi_i _) dX12_next_390 ?_
                              obtain ⟨zg16, ezg16⟩ : ∃ x9, x9 = gs zg7 86 23 (b j) := ⟨_, rfl⟩
                              rw [← ezg16]
                              have t8zg16 : zg16 86 8 = nI z := by rw [ezg16, gs_s, upd_n _ _ (by decide)]; exact t8zg7
                              have t21zg16 : zg16 86 21 = nI j := by rw [ezg16, gs_s, upd_n _ _ (by decide)]; exact t21zg7
                              have t22zg16 : zg16 86 22 = (nI j) := by rw [ezg16, gs_s, upd_n _ _ (by decide)]; exact t22zg7
                              have t24zg16 : zg16 86 24 = 0 := by rw [ezg16, gs_s, upd_n _ _ (by decide)]; exact t24zg7
                              have t23zg16 : zg16 86 23 = (b j) := by rw [ezg16, gs_s, upd_s]
                              have r91zg16 : zg16 91 = b := by rw [ezg16, gs_n _ _ _ (by decide)]; exact r91zg7
                              have fzg16 : fn g zg16 := by rw [ezg16]; exact fzg7.g86 (by omega) _
                              refine xj_aload_n (n := 0) (i := 0) 2 rfl rfl dX12_next_393 ?_
                              refine xj_dup rfl dX12_next_394 ?_
                              refine yj_getf (v := .int (nI j)) fl_X12_110_12 (by omega) (fq_86 zg16) (congrArg (fun z => some (Value.int z)) t21zg16) dX12_next_395 ?_
                              refine xj_iconst (v := 1) (by decide) dX12_next_398 ?_
                              refine xj_iadd dX12_next_399 ?_
                              refine xj_top (nI_add j 1) ?_
                              refine yj_puti fl_X12_110_12 (by omega) fS_86_21 (fi_i _) dX12_next_400 ?_
                              obtain ⟨zg17, ezg17⟩ : ∃ x9, x9 = gs zg16 86 21 (nI (j + 1)) := ⟨_, rfl⟩
                              rw [← ezg17]
                              have t8zg17 : zg17 86 8 = nI z := by rw [ezg17, gs_s, upd_n _ _ (by decide)]; exact t8zg16
                              have t22zg17 : zg17 86 22 = (nI j) := by rw [ezg17, gs_s, upd_n _ _ (by decide)]; exact t22zg16
                              have t24zg17 : zg17 86 24 = 0 := by rw [ezg17, gs_s, upd_n _ _ (by decide)]; exact t24zg16
                              have t23zg17 : zg17 86 23 = (b j) := by rw [ezg17, gs_s, upd_n _ _ (by decide)]; exact t23zg16
                              have t21zg17 : zg17 86 21 = (nI (j + 1)) := by rw [ezg17, gs_s, upd_s]
                              have r91zg17 : zg17 91 = b := by rw [ezg17, gs_n _ _ _ (by decide)]; exact r91zg16
                              have fzg17 : fn g zg17 := by rw [ezg17]; exact fzg16.g86 (by omega) _
                              exact xj_return rfl (Nat.zero_le _) (Nat.zero_le _) dX12_next_403 (qV_e ⟨fzg17, (t22zg17.trans (by rw [hE])), (t21zg17.trans (by rw [hN])), t23zg17.trans (by rw [hT]; exact hsm.1.symm), fun y => absurd (hT.symm.trans y) hsm.2.2.2, fun y => absurd (by rw [hT] at y; exact y) hsm.2.1, fun y => absurd (by rw [hT] at y; exact y) hsm.2.2.1⟩)
                          · refine xj_iload_n (n := 1) (i := 1) 0 rfl rfl dX12_next_356 ?_
                            refine xj_bipush (v := 42) (by decide) dX12_next_357 ?_
                            refine xj_icmp_eq (tgt := 374) (by decide) dX12_next_359 (fun zc359 => ?_) (fun zc359 => ?_)
                            · have hs : isSg (b j) = true := decide_eq_true (Or.inr (Or.inr (Or.inr (Or.inr (Or.inr (Or.inl zc359))))))
                              have hsm := sg_m hs
                              have hT : tkP b z i = b j := by unfold tkP; rw [hE, if_neg hzE, if_neg hl, if_neg hd, if_pos hs]
                              have hN : nxP b z i = j + 1 := by unfold nxP; rw [hE, if_neg hzE, if_neg hl, if_neg hd]
                              refine xj_iconst (v := 1) (by decide) dX12_next_374 ?_
                              refine xj_goto (tgt := 379) (by decide) dX12_next_375 ?_
                              refine xj_istore_n (n := 2) (i := 2) (lv1 := [(2, .int 1), (1, .int (b j)), (0, .ref 86)]) rfl rfl (Nat.le_of_ble_eq_true rfl) dX12_next_379 ?_
                              refine xj_aload_n (n := 0) (i := 0) 2 rfl rfl dX12_next_380 ?_
                              refine xj_iload_n (n := 2) (i := 2) 0 rfl rfl dX12_next_381 ?_
                              refine xj_if_eq (tgt := 389) (by decide) dX12_next_382 (fun zc382 => ?_) (fun zc382 => ?_)
                              · exact absurd zc382 (by decide)
                              · refine xj_iload_n (n := 1) (i := 1) 1 rfl rfl dX12_next_385 ?_
                                refine xj_goto (tgt := 390) (by decide) dX12_next_386 ?_
                                refine yj_puti fl_X12_116_12 (by omega) fS_86_23 (fi_i _) dX12_next_390 ?_
                                obtain ⟨zg18, ezg18⟩ : ∃ x9, x9 = gs zg7 86 23 (b j) := ⟨_, rfl⟩
                                rw [← ezg18]
                                have t8zg18 : zg18 86 8 = nI z := by rw [ezg18, gs_s, upd_n _ _ (by decide)]; exact t8zg7
                                have t21zg18 : zg18 86 21 = nI j := by rw [ezg18, gs_s, upd_n _ _ (by decide)]; exact t21zg7
                                have t22zg18 : zg18 86 22 = (nI j) := by rw [ezg18, gs_s, upd_n _ _ (by decide)]; exact t22zg7
                                have t24zg18 : zg18 86 24 = 0 := by rw [ezg18, gs_s, upd_n _ _ (by decide)]; exact t24zg7
                                have t23zg18 : zg18 86 23 = (b j) := by rw [ezg18, gs_s, upd_s]
                                have r91zg18 : zg18 91 = b := by rw [ezg18, gs_n _ _ _ (by decide)]; exact r91zg7
                                have fzg18 : fn g zg18 := by rw [ezg18]; exact fzg7.g86 (by omega) _
                                refine xj_aload_n (n := 0) (i := 0) 2 rfl rfl dX12_next_393 ?_
                                refine xj_dup rfl dX12_next_394 ?_
                                refine yj_getf (v := .int (nI j)) fl_X12_110_12 (by omega) (fq_86 zg18) (congrArg (fun z => some (Value.int z)) t21zg18) dX12_next_395 ?_
                                refine xj_iconst (v := 1) (by decide) dX12_next_398 ?_
                                refine xj_iadd dX12_next_399 ?_
                                refine xj_top (nI_add j 1) ?_
                                refine yj_puti fl_X12_110_12 (by omega) fS_86_21 (fi_i _) dX12_next_400 ?_
                                obtain ⟨zg19, ezg19⟩ : ∃ x9, x9 = gs zg18 86 21 (nI (j + 1)) := ⟨_, rfl⟩
                                rw [← ezg19]
                                have t8zg19 : zg19 86 8 = nI z := by rw [ezg19, gs_s, upd_n _ _ (by decide)]; exact t8zg18
                                have t22zg19 : zg19 86 22 = (nI j) := by rw [ezg19, gs_s, upd_n _ _ (by decide)]; exact t22zg18
                                have t24zg19 : zg19 86 24 = 0 := by rw [ezg19, gs_s, upd_n _ _ (by decide)]; exact t24zg18
                                have t23zg19 : zg19 86 23 = (b j) := by rw [ezg19, gs_s, upd_n _ _ (by decide)]; exact t23zg18
                                have t21zg19 : zg19 86 21 = (nI (j + 1)) := by rw [ezg19, gs_s, upd_s]
                                have r91zg19 : zg19 91 = b := by rw [ezg19, gs_n _ _ _ (by decide)]; exact r91zg18
                                have fzg19 : fn g zg19 := by rw [ezg19]; exact fzg18.g86 (by omega) _
                                exact xj_return rfl (Nat.zero_le _) (Nat.zero_le _) dX12_next_403 (qV_e ⟨fzg19, (t22zg19.trans (by rw [hE])), (t21zg19.trans (by rw [hN])), t23zg19.trans (by rw [hT]; exact hsm.1.symm), fun y => absurd (hT.symm.trans y) hsm.2.2.2, fun y => absurd (by rw [hT] at y; exact y) hsm.2.1, fun y => absurd (by rw [hT] at y; exact y) hsm.2.2.1⟩)
                            · refine xj_iload_n (n := 1) (i := 1) 0 rfl rfl dX12_next_362 ?_
                              refine xj_bipush (v := 60) (by decide) dX12_next_363 ?_
                              refine xj_icmp_eq (tgt := 374) (by decide) dX12_next_365 (fun zc365 => ?_) (fun zc365 => ?_)
                              · have hs : isSg (b j) = true := decide_eq_true (Or.inr (Or.inr (Or.inr (Or.inr (Or.inr (Or.inr (Or.inl zc365)))))))
                                have hsm := sg_m hs
                                have hT : tkP b z i = b j := by unfold tkP; rw [hE, if_neg hzE, if_neg hl, if_neg hd, if_pos hs]
                                have hN : nxP b z i = j + 1 := by unfold nxP; rw [hE, if_neg hzE, if_neg hl, if_neg hd]
                                refine xj_iconst (v := 1) (by decide) dX12_next_374 ?_
                                refine xj_goto (tgt := 379) (by decide) dX12_next_375 ?_
                                refine xj_istore_n (n := 2) (i := 2) (lv1 := [(2, .int 1), (1, .int (b j)), (0, .ref 86)]) rfl rfl (Nat.le_of_ble_eq_true rfl) dX12_next_379 ?_
                                refine xj_aload_n (n := 0) (i := 0) 2 rfl rfl dX12_next_380 ?_
                                refine xj_iload_n (n := 2) (i := 2) 0 rfl rfl dX12_next_381 ?_
                                refine xj_if_eq (tgt := 389) (by decide) dX12_next_382 (fun zc382 => ?_) (fun zc382 => ?_)
                                · exact absurd zc382 (by decide)
                                · refine xj_iload_n (n := 1) (i := 1) 1 rfl rfl dX12_next_385 ?_
                                  refine xj_goto (tgt := 390) (by decide) dX12_next_386 ?_
                                  refine yj_puti fl_X12_116_12 (by omega) fS_86_23 (fi_i _) dX12_next_390 ?_
                                  obtain ⟨zg20, ezg20⟩ : ∃ x9, x9 = gs zg7 86 23 (b j) := ⟨_, rfl⟩
                                  rw [← ezg20]
                                  have t8zg20 : zg20 86 8 = nI z := by rw [ezg20, gs_s, upd_n _ _ (by decide)]; exact t8zg7
                                  have t21zg20 : zg20 86 21 = nI j := by rw [ezg20, gs_s, upd_n _ _ (by decide)]; exact t21zg7
                                  have t22zg20 : zg20 86 22 = (nI j) := by rw [ezg20, gs_s, upd_n _ _ (by decide)]; exact t22zg7
                                  have t24zg20 : zg20 86 24 = 0 := by rw [ezg20, gs_s, upd_n _ _ (by decide)]; exact t24zg7
                                  have t23zg20 : zg20 86 23 = (b j) := by rw [ezg20, gs_s, upd_s]
                                  have r91zg20 : zg20 91 = b := by rw [ezg20, gs_n _ _ _ (by decide)]; exact r91zg7
                                  have fzg20 : fn g zg20 := by rw [ezg20]; exact fzg7.g86 (by omega) _
                                  refine xj_aload_n (n := 0) (i := 0) 2 rfl rfl dX12_next_393 ?_
                                  refine xj_dup rfl dX12_next_394 ?_
                                  refine yj_getf (v := .int (nI j)) fl_X12_110_12 (by omega) (fq_86 zg20) (congrArg (fun z => some (Value.int z)) t21zg20) dX12_next_395 ?_
                                  refine xj_iconst (v := 1) (by decide) dX12_next_398 ?_
                                  refine xj_iadd dX12_next_399 ?_
                                  refine xj_top (nI_add j 1) ?_
                                  refine yj_puti fl_X12_110_12 (by omega) fS_86_21 (fi_i _) dX12_next_400 ?_
                                  obtain ⟨zg21, ezg21⟩ : ∃ x9, x9 = gs zg20 86 21 (nI (j + 1)) := ⟨_, rfl⟩
                                  rw [← ezg21]
                                  have t8zg21 : zg21 86 8 = nI z := by rw [ezg21, gs_s, upd_n _ _ (by decide)]; exact t8zg20
                                  have t22zg21 : zg21 86 22 = (nI j) := by rw [ezg21, gs_s, upd_n _ _ (by decide)]; exact t22zg20
                                  have t24zg21 : zg21 86 24 = 0 := by rw [ezg21, gs_s, upd_n _ _ (by decide)]; exact t24zg20
                                  have t23zg21 : zg21 86 23 = (b j) := by rw [ezg21, gs_s, upd_n _ _ (by decide)]; exact t23zg20
                                  have t21zg21 : zg21 86 21 = (nI (j + 1)) := by rw [ezg21, gs_s, upd_s]
                                  have r91zg21 : zg21 91 = b := by rw [ezg21, gs_n _ _ _ (by decide)]; exact r91zg20
                                  have fzg21 : fn g zg21 := by rw [ezg21]; exact fzg20.g86 (by omega) _
                                  exact xj_return rfl (Nat.zero_le _) (Nat.zero_le _) dX12_next_403 (qV_e ⟨fzg21, (t22zg21.trans (by rw [hE])), (t21zg21.trans (by rw [hN])), t23zg21.trans (by rw [hT]; exact hsm.1.symm), fun y => absurd (hT.symm.trans y) hsm.2.2.2, fun y => absurd (by rw [hT] at y; exact y) hsm.2.1, fun y => absurd (by rw [hT] at y; exact y) hsm.2.2.1⟩)
                              · refine xj_iload_n (n := 1) (i := 1) 0 rfl rfl dX12_next_368 ?_
                                refine xj_bipush (v := 61) (by decide) dX12_next_369 ?_
                                refine xj_icmp_ne (tgt := 378) (by decide) dX12_next_371 (fun zc371 => ?_) (fun zc371 => ?_)
                                · have hs : ¬ isSg (b j) = true := by
                                    intro y
                                    rcases (of_decide_eq_true y : b j = 40 ∨ b j = 41 ∨ b j = 59 ∨ b j = 43 ∨ b j = 45 ∨ b j = 42 ∨ b j = 60 ∨ b j = 61) with h | h | h | h | h | h | h | h
                                    · exact zc329 h
                                    · exact zc335 h
                                    · exact zc341 h
                                    · exact zc347 h
                                    · exact zc353 h
                                    · exact zc359 h
                                    · exact zc365 h
                                    · exact zc371 h
                                  have hT : tkP b z i = 2 := by unfold tkP; rw [hE, if_neg hzE, if_neg hl, if_neg hd, if_neg hs]
                                  have hN : nxP b z i = j + 1 := by unfold nxP; rw [hE, if_neg hzE, if_neg hl, if_neg hd]
                                  refine xj_iconst (v := 0) (by decide) dX12_next_378 ?_
                                  refine xj_istore_n (n := 2) (i := 2) (lv1 := [(2, .int 0), (1, .int (b j)), (0, .ref 86)]) rfl rfl (Nat.le_of_ble_eq_true rfl) dX12_next_379 ?_
                                  refine xj_aload_n (n := 0) (i := 0) 2 rfl rfl dX12_next_380 ?_
                                  refine xj_iload_n (n := 2) (i := 2) 0 rfl rfl dX12_next_381 ?_
                                  refine xj_if_eq (tgt := 389) (by decide) dX12_next_382 (fun zc382 => ?_) (fun zc382 => ?_)
                                  · refine xj_iconst (v := (-1)) (by decide) dX12_next_389 ?_
                                    refine yj_puti fl_X12_116_12 (by omega) fS_86_23 (fi_i _) dX12_next_390 ?_
                                    obtain ⟨zg22, ezg22⟩ : ∃ x9, x9 = gs zg7 86 23 (-1) := ⟨_, rfl⟩
                                    rw [← ezg22]
                                    have t8zg22 : zg22 86 8 = nI z := by rw [ezg22, gs_s, upd_n _ _ (by decide)]; exact t8zg7
                                    have t21zg22 : zg22 86 21 = nI j := by rw [ezg22, gs_s, upd_n _ _ (by decide)]; exact t21zg7
                                    have t22zg22 : zg22 86 22 = (nI j) := by rw [ezg22, gs_s, upd_n _ _ (by decide)]; exact t22zg7
                                    have t24zg22 : zg22 86 24 = 0 := by rw [ezg22, gs_s, upd_n _ _ (by decide)]; exact t24zg7
                                    have t23zg22 : zg22 86 23 = (-1) := by rw [ezg22, gs_s, upd_s]
                                    have r91zg22 : zg22 91 = b := by rw [ezg22, gs_n _ _ _ (by decide)]; exact r91zg7
                                    have fzg22 : fn g zg22 := by rw [ezg22]; exact fzg7.g86 (by omega) _
                                    refine xj_aload_n (n := 0) (i := 0) 2 rfl rfl dX12_next_393 ?_
                                    refine xj_dup rfl dX12_next_394 ?_
                                    refine yj_getf (v := .int (nI j)) fl_X12_110_12 (by omega) (fq_86 zg22) (congrArg (fun z => some (Value.int z)) t21zg22) dX12_next_395 ?_
                                    refine xj_iconst (v := 1) (by decide) dX12_next_398 ?_
                                    refine xj_iadd dX12_next_399 ?_
                                    refine xj_top (nI_add j 1) ?_
                                    refine yj_puti fl_X12_110_12 (by omega) fS_86_21 (fi_i _) dX12_next_400 ?_
                                    obtain ⟨zg23, ezg23⟩ : ∃ x9, x9 = gs zg22 86 21 (nI (j + 1)) := ⟨_, rfl⟩
                                    rw [← ezg23]
                                    have t8zg23 : zg23 86 8 = nI z := by rw [ezg23, gs_s, upd_n _ _ (by decide)]; exact t8zg22
                                    have t22zg23 : zg23 86 22 = (nI j) := by rw [ezg23, gs_s, upd_n _ _ (by decide)]; exact t22zg22
                                    have t24zg23 : zg23 86 24 = 0 := by rw [ezg23, gs_s, upd_n _ _ (by decide)]; exact t24zg22
                                    have t23zg23 : zg23 86 23 = (-1) := by rw [ezg23, gs_s, upd_n _ _ (by decide)]; exact t23zg22
                                    have t21zg23 : zg23 86 21 = (nI (j + 1)) := by rw [ezg23, gs_s, upd_s]
                                    have r91zg23 : zg23 91 = b := by rw [ezg23, gs_n _ _ _ (by decide)]; exact r91zg22
                                    have fzg23 : fn g zg23 := by rw [ezg23]; exact fzg22.g86 (by omega) _
                                    exact xj_return rfl (Nat.zero_le _) (Nat.zero_le _) dX12_next_403 (qV_e ⟨fzg23, (t22zg23.trans (by rw [hE])), (t21zg23.trans (by rw [hN])), t23zg23.trans (by rw [hT]; decide), fun y => absurd (hT.symm.trans y) (by decide), fun y => absurd (by rw [hT] at y; exact y) (by decide), fun y => absurd (by rw [hT] at y; exact y) (by decide)⟩)
                                  · exact absurd (by decide) zc382
                                · have hs : isSg (b j) = true := decide_eq_true (Or.inr (Or.inr (Or.inr (Or.inr (Or.inr (Or.inr (Or.inr (zc371))))))))
                                  have hsm := sg_m hs
                                  have hT : tkP b z i = b j := by unfold tkP; rw [hE, if_neg hzE, if_neg hl, if_neg hd, if_pos hs]
                                  have hN : nxP b z i = j + 1 := by unfold nxP; rw [hE, if_neg hzE, if_neg hl, if_neg hd]
                                  refine xj_iconst (v := 1) (by decide) dX12_next_374 ?_
                                  refine xj_goto (tgt := 379) (by decide) dX12_next_375 ?_
                                  refine xj_istore_n (n := 2) (i := 2) (lv1 := [(2, .int 1), (1, .int (b j)), (0, .ref 86)]) rfl rfl (Nat.le_of_ble_eq_true rfl) dX12_next_379 ?_
                                  refine xj_aload_n (n := 0) (i := 0) 2 rfl rfl dX12_next_380 ?_
                                  refine xj_iload_n (n := 2) (i := 2) 0 rfl rfl dX12_next_381 ?_
                                  refine xj_if_eq (tgt := 389) (by decide) dX12_next_382 (fun zc382 => ?_) (fun zc382 => ?_)
                                  · exact absurd zc382 (by decide)
                                  · refine xj_iload_n (n := 1) (i := 1) 1 rfl rfl dX12_next_385 ?_
                                    refine xj_goto (tgt := 390) (by decide) dX12_next_386 ?_
                                    refine yj_puti fl_X12_116_12 (by omega) fS_86_23 (fi_i _) dX12_next_390 ?_
                                    obtain ⟨zg24, ezg24⟩ : ∃ x9, x9 = gs zg7 86 23 (b j) := ⟨_, rfl⟩
                                    rw [← ezg24]
                                    have t8zg24 : zg24 86 8 = nI z := by rw [ezg24, gs_s, upd_n _ _ (by decide)]; exact t8zg7
                                    have t21zg24 : zg24 86 21 = nI j := by rw [ezg24, gs_s, upd_n _ _ (by decide)]; exact t21zg7
                                    have t22zg24 : zg24 86 22 = (nI j) := by rw [ezg24, gs_s, upd_n _ _ (by decide)]; exact t22zg7
                                    have t24zg24 : zg24 86 24 = 0 := by rw [ezg24, gs_s, upd_n _ _ (by decide)]; exact t24zg7
                                    have t23zg24 : zg24 86 23 = (b j) := by rw [ezg24, gs_s, upd_s]
                                    have r91zg24 : zg24 91 = b := by rw [ezg24, gs_n _ _ _ (by decide)]; exact r91zg7
                                    have fzg24 : fn g zg24 := by rw [ezg24]; exact fzg7.g86 (by omega) _
                                    refine xj_aload_n (n := 0) (i := 0) 2 rfl rfl dX12_next_393 ?_
                                    refine xj_dup rfl dX12_next_394 ?_
                                    refine yj_getf (v := .int (nI j)) fl_X12_110_12 (by omega) (fq_86 zg24) (congrArg (fun z => some (Value.int z)) t21zg24) dX12_next_395 ?_
                                    refine xj_iconst (v := 1) (by decide) dX12_next_398 ?_
                                    refine xj_iadd dX12_next_399 ?_
                                    refine xj_top (nI_add j 1) ?_
                                    refine yj_puti fl_X12_110_12 (by omega) fS_86_21 (fi_i _) dX12_next_400 ?_
                                    obtain ⟨zg25, ezg25⟩ : ∃ x9, x9 = gs zg24 86 21 (nI (j + 1)) := ⟨_, rfl⟩
                                    rw [← ezg25]
                                    have t8zg25 : zg25 86 8 = nI z := by rw [ezg25, gs_s, upd_n _ _ (by decide)]; exact t8zg24
                                    have t22zg25 : zg25 86 22 = (nI j) := by rw [ezg25, gs_s, upd_n _ _ (by decide)]; exact t22zg24
                                    have t24zg25 : zg25 86 24 = 0 := by rw [ezg25, gs_s, upd_n _ _ (by decide)]; exact t24zg24
                                    have t23zg25 : zg25 86 23 = (b j) := by rw [ezg25, gs_s, upd_n _ _ (by decide)]; exact t23zg24
                                    have t21zg25 : zg25 86 21 = (nI (j + 1)) := by rw [ezg25, gs_s, upd_s]
                                    have r91zg25 : zg25 91 = b := by rw [ezg25, gs_n _ _ _ (by decide)]; exact r91zg24
                                    have fzg25 : fn g zg25 := by rw [ezg25]; exact fzg24.g86 (by omega) _
                                    exact xj_return rfl (Nat.zero_le _) (Nat.zero_le _) dX12_next_403 (qV_e ⟨fzg25, (t22zg25.trans (by rw [hE])), (t21zg25.trans (by rw [hN])), t23zg25.trans (by rw [hT]; exact hsm.1.symm), fun y => absurd (hT.symm.trans y) hsm.2.2.2, fun y => absurd (by rw [hT] at y; exact y) hsm.2.1, fun y => absurd (by rw [hT] at y; exact y) hsm.2.2.1⟩)
                · have hd : isDg (b j) = true := isDg_i.mp (bI_n0.mp zc225)
                  refine xj_iconst (v := 0) (by decide) dX12_next_228 ?_
                  refine xj_istore_n (n := 2) (i := 2) (lv1 := [(2, .int 0), (1, .int (b j)), (0, .ref 86)]) rfl rfl (Nat.le_of_ble_eq_true rfl) dX12_next_229 ?_
                  have key2 : ∀ k, k ≤ z → ∀ (g2 : xG), fn g g2 → g2 86 21 = nI k → g2 86 22 = nI j → (k - j ≤ 4 → g2 86 24 = nuF b j (k - j)) → rnP isDg b z k = rnP isDg b z j → j ≤ k → xJ l (RX12, 3, none, false, (xR (d + 2) 0 0), none) cX12_next (qV n fun g1 => fn g g1 ∧ g1 86 22 = nI (stP b z i) ∧ g1 86 21 = nI (nxP b z i) ∧ g1 86 23 = mtq (tkP b z i) ∧ (tkP b z i = 1 → g1 86 24 = nmP b z i) ∧ (262 ≤ tkP b z i → g1 86 24 = tkP b z i - 262) ∧ (mtq (tkP b z i) = 3 → g1 86 24 = tkP b z i - 256)) 0 0 230 [(2, .int (nI (k - j))), (1, .int (b j)), (0, .ref 86)] [] (n, fh g2) := by
                    refine x_loop z _ ?_ ?_
                    · intro g2 hf2 ht21 ht22 h8 hr2 hjk
                      have hend2 : rnP isDg b z j = z := hr2.symm.trans (rnP_z (Nat.le_refl z))
                      refine xj_aload_n (n := 0) (i := 0) 2 rfl rfl dX12_next_230 ?_
                      refine yj_getf (v := .int (nI z)) fl_X12_110_12 (by omega) (fq_86 g2) (congrArg (fun z => some (Value.int z)) ht21) dX12_next_231 ?_
                      refine xj_aload_n (n := 0) (i := 0) 2 rfl rfl dX12_next_234 ?_
                      refine yj_getf (v := .int (nI z)) fl_X12_83_12 (by omega) (fq_86 g2) (congrArg (fun z => some (Value.int z)) ((hf2.2 8 (by omega)).trans h0)) dX12_next_235 ?_
                      refine xj_icmp_ge (tgt := 309) (by decide) dX12_next_238 (fun zc238 => ?_) (fun zc238 => ?_)
                      · refine xj_aload_n (n := 0) (i := 0) 2 rfl rfl dX12_next_309 ?_
                        refine xj_iload_n (n := 2) (i := 2) 0 rfl rfl dX12_next_310 ?_
                        refine xj_iconst (v := 4) (by decide) dX12_next_311 ?_
                        refine xj_icmp_le (tgt := 319) (by decide) dX12_next_312 (fun zc312 => ?_) (fun zc312 => ?_)
                        · have hle : z - j ≤ 4 := (nI_leI (b := 4) (by omega) (by decide)).mp zc312
                          have hT : tkP b z i = 1 := by unfold tkP; rw [hE, if_neg hzE, if_neg hl, if_pos hd, hend2, if_pos hle]
                          have hN : nxP b z i = z := by unfold nxP; rw [hE, if_neg hzE, if_neg hl, if_pos hd, hend2]
                          refine xj_iconst (v := 1) (by decide) dX12_next_319 ?_
                          refine yj_puti fl_X12_116_12 (by omega) fS_86_23 (fi_i _) dX12_next_320 ?_
                          obtain ⟨zg26, ezg26⟩ : ∃ x9, x9 = gs g2 86 23 1 := ⟨_, rfl⟩
                          rw [← ezg26]
                          have t8zg26 : zg26 86 8 = nI z := by rw [ezg26, gs_s, upd_n _ _ (by decide)]; exact ((hf2.2 8 (by omega)).trans h0)
                          have t21zg26 : zg26 86 21 = nI z := by rw [ezg26, gs_s, upd_n _ _ (by decide)]; exact ht21
                          have t22zg26 : zg26 86 22 = nI j := by rw [ezg26, gs_s, upd_n _ _ (by decide)]; exact ht22
                          have t23zg26 : zg26 86 23 = 1 := by rw [ezg26, gs_s, upd_s]
                          have r91zg26 : zg26 91 = b := by rw [ezg26, gs_n _ _ _ (by decide)]; exact ((hf2.1 91 (by decide)).trans hb)
                          have fzg26 : fn g zg26 := by rw [ezg26]; exact hf2.g86 (by omega) _
                          refine xj_goto (tgt := 403) (by decide) dX12_next_323 ?_
                          exact xj_return rfl (Nat.zero_le _) (Nat.zero_le _) dX12_next_403 (qV_e ⟨fzg26, (t22zg26.trans (by rw [hE])), (t21zg26.trans (by rw [hN])), t23zg26.trans (by rw [hT]; decide), fun _ => by unfold nmP; rw [hE, hend2, ezg26, gs_s, upd_n _ _ (by decide)]; exact h8 hle, fun y => absurd (by rw [hT] at y; exact y) (by decide), fun y => absurd (by rw [hT] at y; exact y) (by decide)⟩)
                        · have hle : ¬ z - j ≤ 4 := fun y => zc312 (nI_le (b := 4) y (by decide))
                          have hT : tkP b z i = 2 := by unfold tkP; rw [hE, if_neg hzE, if_neg hl, if_pos hd, hend2, if_neg hle]
                          have hN : nxP b z i = z := by unfold nxP; rw [hE, if_neg hzE, if_neg hl, if_pos hd, hend2]
                          refine xj_iconst (v := (-1)) (by decide) dX12_next_315 ?_
                          refine xj_goto (tgt := 320) (by decide) dX12_next_316 ?_
                          refine yj_puti fl_X12_116_12 (by omega) fS_86_23 (fi_i _) dX12_next_320 ?_
                          obtain ⟨zg27, ezg27⟩ : ∃ x9, x9 = gs g2 86 23 (-1) := ⟨_, rfl⟩
                          rw [← ezg27]
                          have t8zg27 : zg27 86 8 = nI z := by rw [ezg27, gs_s, upd_n _ _ (by decide)]; exact ((hf2.2 8 (by omega)).trans h0)
                          have t21zg27 : zg27 86 21 = nI z := by rw [ezg27, gs_s, upd_n _ _ (by decide)]; exact ht21
                          have t22zg27 : zg27 86 22 = nI j := by rw [ezg27, gs_s, upd_n _ _ (by decide)]; exact ht22
                          have t23zg27 : zg27 86 23 = (-1) := by rw [ezg27, gs_s, upd_s]
                          have r91zg27 : zg27 91 = b := by rw [ezg27, gs_n _ _ _ (by decide)]; exact ((hf2.1 91 (by decide)).trans hb)
                          have fzg27 : fn g zg27 := by rw [ezg27]; exact hf2.g86 (by omega) _
                          refine xj_goto (tgt := 403) (by decide) dX12_next_323 ?_
                          exact xj_return rfl (Nat.zero_le _) (Nat.zero_le _) dX12_next_403 (qV_e ⟨fzg27, (t22zg27.trans (by rw [hE])), (t21zg27.trans (by rw [hN])), t23zg27.trans (by rw [hT]; decide), fun y => absurd (hT.symm.trans y) (by decide), fun y => absurd (by rw [hT] at y; exact y) (by decide), fun y => absurd (by rw [hT] at y; exact y) (by decide)⟩)
                      · exact absurd (nI_le (Nat.le_refl _) (by omega)) zc238
                    · intro k hk ih2 g2 hf2 ht21 ht22 h8 hr2 hjk
                      refine xj_aload_n (n := 0) (i := 0) 2 rfl rfl dX12_next_230 ?_
                      refine yj_getf (v := .int (nI k)) fl_X12_110_12 (by omega) (fq_86 g2) (congrArg (fun z => some (Value.int z)) ht21) dX12_next_231 ?_
                      refine xj_aload_n (n := 0) (i := 0) 2 rfl rfl dX12_next_234 ?_
                      refine yj_getf (v := .int (nI z)) fl_X12_83_12 (by omega) (fq_86 g2) (congrArg (fun z => some (Value.int z)) ((hf2.2 8 (by omega)).trans h0)) dX12_next_235 ?_
                      refine xj_icmp_ge (tgt := 309) (by decide) dX12_next_238 (fun zc238 => ?_) (fun zc238 => ?_)
                      · exact absurd zc238 (nI_ge hk (by omega))
                      · refine xj_aload_n (n := 0) (i := 0) 2 rfl rfl dX12_next_241 ?_
                        refine yj_getf (v := .ref 91) fl_X12_26_12 (by omega) (fq_86 g2) rfl dX12_next_242 ?_
                        refine xj_aload_n (n := 0) (i := 0) 2 rfl rfl dX12_next_245 ?_
                        refine yj_getf (v := .int (nI k)) fl_X12_110_12 (by omega) (fq_86 g2) (congrArg (fun z => some (Value.int z)) ht21) dX12_next_246 ?_
                        refine yj_ialdN k (by omega) fA_91 rfl (by omega) (by decide) dX12_next_249 ?_
                        refine xj_top (congrFun ((hf2.1 91 (by decide)).trans hb) k) ?_
                        refine xj_bipush (v := 48) (by decide) dX12_next_250 ?_
                        refine xj_bipush (v := 57) (by decide) dX12_next_252 ?_
                        refine xj_callS ks_X12_93 (c_X12_in l (d + 1) (b k) 48 57 _) (As := [.int (b k), .int 48, .int 57]) (st := []) rfl rfl (xRm_of (by omega) (by decide) (by omega) (by omega)) (Nat.le_of_ble_eq_true rfl) dX12_next_254 (yk_p (kc := 0) (ks := 0) ?_)
                        refine xj_if_eq (tgt := 309) (by decide) dX12_next_257 (fun zc257 => ?_) (fun zc257 => ?_)
                        · have hnd : ¬ isDg (b k) = true := fun y => bI_0.mp zc257 (isDg_i.mpr y)
                          have hend2 : rnP isDg b z j = k := hr2.symm.trans (rnP_n hnd)
                          refine xj_aload_n (n := 0) (i := 0) 2 rfl rfl dX12_next_309 ?_
                          refine xj_iload_n (n := 2) (i := 2) 0 rfl rfl dX12_next_310 ?_
                          refine xj_iconst (v := 4) (by decide) dX12_next_311 ?_
                          refine xj_icmp_le (tgt := 319) (by decide) dX12_next_312 (fun zc312 => ?_) (fun zc312 => ?_)
                          · have hle : k - j ≤ 4 := (nI_leI (b := 4) (by omega) (by decide)).mp zc312
                            have hT : tkP b z i = 1 := by unfold tkP; rw [hE, if_neg hzE, if_neg hl, if_pos hd, hend2, if_pos hle]
                            have hN : nxP b z i = k := by unfold nxP; rw [hE, if_neg hzE, if_neg hl, if_pos hd, hend2]
                            refine xj_iconst (v := 1) (by decide) dX12_next_319 ?_
                            refine yj_puti fl_X12_116_12 (by omega) fS_86_23 (fi_i _) dX12_next_320 ?_
                            obtain ⟨zg28, ezg28⟩ : ∃ x9, x9 = gs g2 86 23 1 := ⟨_, rfl⟩
                            rw [← ezg28]
                            have t8zg28 : zg28 86 8 = nI z := by rw [ezg28, gs_s, upd_n _ _ (by decide)]; exact ((hf2.2 8 (by omega)).trans h0)
                            have t21zg28 : zg28 86 21 = nI k := by rw [ezg28, gs_s, upd_n _ _ (by decide)]; exact ht21
                            have t22zg28 : zg28 86 22 = nI j := by rw [ezg28, gs_s, upd_n _ _ (by decide)]; exact ht22
                            have t23zg28 : zg28 86 23 = 1 := by rw [ezg28, gs_s, upd_s]
                            have r91zg28 : zg28 91 = b := by rw [ezg28, gs_n _ _ _ (by decide)]; exact ((hf2.1 91 (by decide)).trans hb)
                            have fzg28 : fn g zg28 := by rw [ezg28]; exact hf2.g86 (by omega) _
                            refine xj_goto (tgt := 403) (by decide) dX12_next_323 ?_
                            exact xj_return rfl (Nat.zero_le _) (Nat.zero_le _) dX12_next_403 (qV_e ⟨fzg28, (t22zg28.trans (by rw [hE])), (t21zg28.trans (by rw [hN])), t23zg28.trans (by rw [hT]; decide), fun _ => by unfold nmP; rw [hE, hend2, ezg28, gs_s, upd_n _ _ (by decide)]; exact h8 hle, fun y => absurd (by rw [hT] at y; exact y) (by decide), fun y => absurd (by rw [hT] at y; exact y) (by decide)⟩)
                          · have hle : ¬ k - j ≤ 4 := fun y => zc312 (nI_le (b := 4) y (by decide))
                            have hT : tkP b z i = 2 := by unfold tkP; rw [hE, if_neg hzE, if_neg hl, if_pos hd, hend2, if_neg hle]
                            have hN : nxP b z i = k := by unfold nxP; rw [hE, if_neg hzE, if_neg hl, if_pos hd, hend2]
                            refine xj_iconst (v := (-1)) (by decide) dX12_next_315 ?_
                            refine xj_goto (tgt := 320) (by decide) dX12_next_316 ?_
                            refine yj_puti fl_X12_116_12 (by omega) fS_86_23 (fi_i _) dX12_next_320 ?_
                            obtain ⟨zg29, ezg29⟩ : ∃ x9, x9 = gs g2 86 23 (-1) := ⟨_, rfl⟩
                            rw [← ezg29]
                            have t8zg29 : zg29 86 8 = nI z := by rw [ezg29, gs_s, upd_n _ _ (by decide)]; exact ((hf2.2 8 (by omega)).trans h0)
                            have t21zg29 : zg29 86 21 = nI k := by rw [ezg29, gs_s, upd_n _ _ (by decide)]; exact ht21
                            have t22zg29 : zg29 86 22 = nI j := by rw [ezg29, gs_s, upd_n _ _ (by decide)]; exact ht22
                            have t23zg29 : zg29 86 23 = (-1) := by rw [ezg29, gs_s, upd_s]
                            have r91zg29 : zg29 91 = b := by rw [ezg29, gs_n _ _ _ (by decide)]; exact ((hf2.1 91 (by decide)).trans hb)
                            have fzg29 : fn g zg29 := by rw [ezg29]; exact hf2.g86 (by omega) _
                            refine xj_goto (tgt := 403) (by decide) dX12_next_323 ?_
                            exact xj_return rfl (Nat.zero_le _) (Nat.zero_le _) dX12_next_403 (qV_e ⟨fzg29, (t22zg29.trans (by rw [hE])), (t21zg29.trans (by rw [hN])), t23zg29.trans (by rw [hT]; decide), fun y => absurd (hT.symm.trans y) (by decide), fun y => absurd (by rw [hT] at y; exact y) (by decide), fun y => absurd (by rw [hT] at y; exact y) (by decide)⟩)
                        · have hdg : isDg (b k) = true := isDg_i.mp (bI_n0.mp zc257)
                          have hst2 := rnP_s (p := isDg) (b := b) hk hdg
                          refine xj_aload_n (n := 0) (i := 0) 2 rfl rfl dX12_next_260 ?_
                          refine xj_iload_n (n := 2) (i := 2) 0 rfl rfl dX12_next_261 ?_
                          refine xj_iconst (v := 4) (by decide) dX12_next_262 ?_
                          refine xj_icmp_ge (tgt := 289) (by decide) dX12_next_263 (fun zc263 => ?_) (fun zc263 => ?_)
                          · have hlt : ¬ k - j < 4 := fun y => absurd ((nI_leI (a := 4) (by decide) (by omega)).mp zc263) (by omega)
                            refine xj_iconst (v := 0) (by decide) dX12_next_289 ?_
                            refine yj_puti fl_X12_119_12 (by omega) fS_86_24 (fi_i _) dX12_next_290 ?_
                            obtain ⟨zg30, ezg30⟩ : ∃ x9, x9 = gs g2 86 24 0 := ⟨_, rfl⟩
                            rw [← ezg30]
                            have t8zg30 : zg30 86 8 = nI z := by rw [ezg30, gs_s, upd_n _ _ (by decide)]; exact ((hf2.2 8 (by omega)).trans h0)
                            have t21zg30 : zg30 86 21 = nI k := by rw [ezg30, gs_s, upd_n _ _ (by decide)]; exact ht21
                            have t22zg30 : zg30 86 22 = nI j := by rw [ezg30, gs_s, upd_n _ _ (by decide)]; exact ht22
                            have t24zg30 : zg30 86 24 = 0 := by rw [ezg30, gs_s, upd_s]
                            have r91zg30 : zg30 91 = b := by rw [ezg30, gs_n _ _ _ (by decide)]; exact ((hf2.1 91 (by decide)).trans hb)
                            have fzg30 : fn g zg30 := by rw [ezg30]; exact hf2.g86 (by omega) _
                            refine xj_iinc (n := 1) (i := 2) (v := nI ((k - j) + 1)) (lv1 := [(2, .int (nI ((k - j) + 1))), (1, .int (b j)), (0, .ref 86)]) 0 rfl (nI_1 (k - j)) rfl (Nat.le_of_ble_eq_true rfl) dX12_next_293 ?_
                            refine xj_aload_n (n := 0) (i := 0) 2 rfl rfl dX12_next_296 ?_
                            refine xj_dup rfl dX12_next_297 ?_
                            refine yj_getf (v := .int (nI k)) fl_X12_110_12 (by omega) (fq_86 zg30) (congrArg (fun z => some (Value.int z)) t21zg30) dX12_next_298 ?_
                            refine xj_iconst (v := 1) (by decide) dX12_next_301 ?_
                            refine xj_iadd dX12_next_302 ?_
                            refine xj_top (nI_add k 1) ?_
                            refine yj_puti fl_X12_110_12 (by omega) fS_86_21 (fi_i _) dX12_next_303 ?_
                            obtain ⟨zg31, ezg31⟩ : ∃ x9, x9 = gs zg30 86 21 (nI (k + 1)) := ⟨_, rfl⟩
                            rw [← ezg31]
                            have t8zg31 : zg31 86 8 = nI z := by rw [ezg31, gs_s, upd_n _ _ (by decide)]; exact t8zg30
                            have t22zg31 : zg31 86 22 = nI j := by rw [ezg31, gs_s, upd_n _ _ (by decide)]; exact t22zg30
                            have t24zg31 : zg31 86 24 = 0 := by rw [ezg31, gs_s, upd_n _ _ (by decide)]; exact t24zg30
                            have t21zg31 : zg31 86 21 = (nI (k + 1)) := by rw [ezg31, gs_s, upd_s]
                            have r91zg31 : zg31 91 = b := by rw [ezg31, gs_n _ _ _ (by decide)]; exact r91zg30
                            have fzg31 : fn g zg31 := by rw [ezg31]; exact fzg30.g86 (by omega) _
                            refine xj_goto (tgt := 230) (by decide) dX12_next_306 ?_
                            refine xj_sub (lv' := [(2, .int (nI ((k - j) + 1))), (1, .int (b j)), (0, .ref 86)]) [0, 1, 2] rfl ?_
                            rw [show k - j + 1 = k + 1 - j by omega]
                            exact ih2 zg31 fzg31 (t21zg31.trans rfl) t22zg31 (fun y => absurd y (by omega)) (hst2.symm.trans hr2) (by omega)
                          · have hlt : k - j < 4 := Nat.lt_of_not_le (fun y => zc263 (nI_le (a := 4) y (by omega)))
                            have h88 := h8 (by omega)
                            refine xj_bipush (v := 10) (by decide) dX12_next_266 ?_
                            refine xj_aload_n (n := 0) (i := 0) 2 rfl rfl dX12_next_268 ?_
                            refine yj_getf (v := .int (nuF b j (k - j))) fl_X12_119_12 (by omega) (fq_86 g2) (congrArg (fun z => some (Value.int z)) h88) dX12_next_269 ?_
                            refine xj_imul dX12_next_272 ?_
                            refine xj_aload_n (n := 0) (i := 0) 2 rfl rfl dX12_next_273 ?_
                            refine yj_getf (v := .ref 91) fl_X12_26_12 (by omega) (fq_86 g2) rfl dX12_next_274 ?_
                            refine xj_aload_n (n := 0) (i := 0) 2 rfl rfl dX12_next_277 ?_
                            refine yj_getf (v := .int (nI k)) fl_X12_110_12 (by omega) (fq_86 g2) (congrArg (fun z => some (Value.int z)) ht21) dX12_next_278 ?_
                            refine yj_ialdN k (by omega) fA_91 rfl (by omega) (by decide) dX12_next_281 ?_
                            refine xj_top (congrFun ((hf2.1 91 (by decide)).trans hb) k) ?_
                            refine xj_iadd dX12_next_282 ?_
                            refine xj_bipush (v := 48) (by decide) dX12_next_283 ?_
                            refine xj_isub dX12_next_285 ?_
                            refine xj_goto (tgt := 290) (by decide) dX12_next_286 ?_
                            refine xj_topi (fun zv32 ezv32 => ?_)
                            refine yj_puti fl_X12_119_12 (by omega) fS_86_24 (fi_i _) dX12_next_290 ?_
                            obtain ⟨zg33, ezg33⟩ : ∃ x9, x9 = gs g2 86 24 zv32 := ⟨_, rfl⟩
                            rw [← ezg33]
                            have t8zg33 : zg33 86 8 = nI z := by rw [ezg33, gs_s, upd_n _ _ (by decide)]; exact ((hf2.2 8 (by omega)).trans h0)
                            have t21zg33 : zg33 86 21 = nI k := by rw [ezg33, gs_s, upd_n _ _ (by decide)]; exact ht21
                            have t22zg33 : zg33 86 22 = nI j := by rw [ezg33, gs_s, upd_n _ _ (by decide)]; exact ht22
                            have t24zg33 : zg33 86 24 = zv32 := by rw [ezg33, gs_s, upd_s]
                            have r91zg33 : zg33 91 = b := by rw [ezg33, gs_n _ _ _ (by decide)]; exact ((hf2.1 91 (by decide)).trans hb)
                            have fzg33 : fn g zg33 := by rw [ezg33]; exact hf2.g86 (by omega) _
                            refine xj_iinc (n := 1) (i := 2) (v := nI ((k - j) + 1)) (lv1 := [(2, .int (nI ((k - j) + 1))), (1, .int (b j)), (0, .ref 86)]) 0 rfl (nI_1 (k - j)) rfl (Nat.le_of_ble_eq_true rfl) dX12_next_293 ?_
                            refine xj_aload_n (n := 0) (i := 0) 2 rfl rfl dX12_next_296 ?_
                            refine xj_dup rfl dX12_next_297 ?_
                            refine yj_getf (v := .int (nI k)) fl_X12_110_12 (by omega) (fq_86 zg33) (congrArg (fun z => some (Value.int z)) t21zg33) dX12_next_298 ?_
                            refine xj_iconst (v := 1) (by decide) dX12_next_301 ?_
                            refine xj_iadd dX12_next_302 ?_
                            refine xj_top (nI_add k 1) ?_
                            refine yj_puti fl_X12_110_12 (by omega) fS_86_21 (fi_i _) dX12_next_303 ?_
                            obtain ⟨zg34, ezg34⟩ : ∃ x9, x9 = gs zg33 86 21 (nI (k + 1)) := ⟨_, rfl⟩
                            rw [← ezg34]
                            have t8zg34 : zg34 86 8 = nI z := by rw [ezg34, gs_s, upd_n _ _ (by decide)]; exact t8zg33
                            have t22zg34 : zg34 86 22 = nI j := by rw [ezg34, gs_s, upd_n _ _ (by decide)]; exact t22zg33
                            have t24zg34 : zg34 86 24 = zv32 := by rw [ezg34, gs_s, upd_n _ _ (by decide)]; exact t24zg33
                            have t21zg34 : zg34 86 21 = (nI (k + 1)) := by rw [ezg34, gs_s, upd_s]
                            have r91zg34 : zg34 91 = b := by rw [ezg34, gs_n _ _ _ (by decide)]; exact r91zg33
                            have fzg34 : fn g zg34 := by rw [ezg34]; exact fzg33.g86 (by omega) _
                            refine xj_goto (tgt := 230) (by decide) dX12_next_306 ?_
                            refine xj_sub (lv' := [(2, .int (nI ((k - j) + 1))), (1, .int (b j)), (0, .ref 86)]) [0, 1, 2] rfl ?_
                            rw [show k - j + 1 = k + 1 - j by omega]
                            exact ih2 zg34 fzg34 (t21zg34.trans rfl) t22zg34 (fun _ => by rw [t24zg34, show k + 1 - j = (k - j) + 1 by omega]; show _ = 10 * nuF b j (k - j) + b (j + (k - j)) - 48; rw [show j + (k - j) = k by omega, ezv32]) (hst2.symm.trans hr2) (by omega)
                  refine xj_sub (lv' := [(2, .int 0), (1, .int (b j)), (0, .ref 86)]) [0, 1, 2] rfl ?_
                  have h9 := key2 j (Nat.le_of_lt hj) zg7 fzg7 t21zg7 t22zg7 (fun _ => by rw [Nat.sub_self]; exact t24zg7) rfl (Nat.le_refl j)
                  rw [Nat.sub_self] at h9
                  exact h9
              · have hl : isLt (b j) = true := isLt_i.mp (bI_n0.mp zc100)
                have key2 : ∀ k, k ≤ z → ∀ (g2 : xG), fn g g2 → g2 86 21 = nI k → g2 86 22 = nI j → rnP isLt b z k = rnP isLt b z j → j ≤ k → xJ l (RX12, 3, none, false, (xR (d + 2) 0 0), none) cX12_next (qV n fun g1 => fn g g1 ∧ g1 86 22 = nI (stP b z i) ∧ g1 86 21 = nI (nxP b z i) ∧ g1 86 23 = mtq (tkP b z i) ∧ (tkP b z i = 1 → g1 86 24 = nmP b z i) ∧ (262 ≤ tkP b z i → g1 86 24 = tkP b z i - 262) ∧ (mtq (tkP b z i) = 3 → g1 86 24 = tkP b z i - 256)) 0 0 103 [(1, .int (b j)), (0, .ref 86)] [] (n, fh g2) := by
                  refine x_loop z _ ?_ ?_
                  · intro g2 hf2 ht21 ht22 hr2 hjk
                    have hend2 : rnP isLt b z j = z := hr2.symm.trans (rnP_z (Nat.le_refl z))
                    have h32 : ∀ j0, j ≤ j0 → j0 < z → ¬ b j0 = 32 := fun j0 a b0 => isLt_in (b := b) (z := z) (s := j) (by omega) j0 a (by rw [hend2]; exact b0)
                    refine xj_aload_n (n := 0) (i := 0) 1 rfl rfl dX12_next_103 ?_
                    refine yj_getf (v := .int (nI z)) fl_X12_110_12 (by omega) (fq_86 g2) (congrArg (fun z => some (Value.int z)) ht21) dX12_next_104 ?_
                    refine xj_aload_n (n := 0) (i := 0) 1 rfl rfl dX12_next_107 ?_
                    refine yj_getf (v := .int (nI z)) fl_X12_83_12 (by omega) (fq_86 g2) (congrArg (fun z => some (Value.int z)) ((hf2.2 8 (by omega)).trans h0)) dX12_next_108 ?_
                    refine xj_icmp_ge (tgt := 146) (by decide) dX12_next_111 (fun zc111 => ?_) (fun zc111 => ?_)
                    · refine xj_aload_n (n := 0) (i := 0) 1 rfl rfl dX12_next_146 ?_
                      refine xj_aload_n (n := 0) (i := 0) 1 rfl rfl dX12_next_147 ?_
                      refine yj_getf (v := .int (nI j)) fl_X12_113_12 (by omega) (fq_86 g2) (congrArg (fun z => some (Value.int z)) ht22) dX12_next_148 ?_
                      refine xj_aload_n (n := 0) (i := 0) 1 rfl rfl dX12_next_151 ?_
                      refine yj_getf (v := .int (nI z)) fl_X12_110_12 (by omega) (fq_86 g2) (congrArg (fun z => some (Value.int z)) ht21) dX12_next_152 ?_
                      refine xj_callV kv_X12_122 (c_X12_wordFrom l d n hn g2 b z hz ((hf2.1 91 (by decide)).trans hb) ((hf2.2 8 (by omega)).trans h0) (fun k hk => by rw [hf2.1 101 (by decide)]; exact W k hk) j z (by omega) (by omega)) (As := [.int (nI j), .int (nI z)]) (st := []) (by omega) (fq_86 g2) (ci := 12) rfl rfl rfl rfl (xRm_of (by omega) (by decide) (by omega) (by omega)) (Nat.le_of_ble_eq_true rfl) dX12_next_155 (yk_i (kc := 0) (ks := 0) fun zv35 zg36 hzg36 => ?_)
                      obtain ⟨e9, r, e8, hr9⟩ := hzg36
                      rw [e9, e8]
                      by_cases c12 : r = 12
                      · subst c12
                        have hno := (hr9.resolve_right (fun y => absurd y.1 (by decide))).2
                        have hT : tkP b z i = 2 := by unfold tkP; rw [hE, if_neg hzE, if_pos hl, hend2]; exact wr_no (by omega) h32 hno
                        have hN : nxP b z i = z := by unfold nxP; rw [hE, if_neg hzE, if_pos hl, hend2]
                        refine xj_istore_n (n := 2) (i := 2) (lv1 := [(2, .int (nI 12)), (1, .int (b j)), (0, .ref 86)]) rfl rfl (Nat.le_of_ble_eq_true rfl) dX12_next_158 ?_
                        refine xj_aload_n (n := 0) (i := 0) 2 rfl rfl dX12_next_159 ?_
                        refine xj_iload_n (n := 2) (i := 2) 0 rfl rfl dX12_next_160 ?_
                        refine xj_iconst (v := 3) (by decide) dX12_next_161 ?_
                        refine xj_icmp_ge (tgt := 169) (by decide) dX12_next_162 (fun zc162 => ?_) (fun zc162 => ?_)
                        · refine xj_iload_n (n := 2) (i := 2) 0 rfl rfl dX12_next_169 ?_
                          refine xj_bipush (v := 9) (by decide) dX12_next_170 ?_
                          refine xj_icmp_ge (tgt := 179) (by decide) dX12_next_172 (fun zc172 => ?_) (fun zc172 => ?_)
                          · refine xj_iload_n (n := 2) (i := 2) 0 rfl rfl dX12_next_179 ?_
                            refine xj_bipush (v := 12) (by decide) dX12_next_180 ?_
                            refine xj_icmp_ne (tgt := 189) (by decide) dX12_next_182 (fun zc182 => ?_) (fun zc182 => ?_)
                            · exact absurd zc182 (fun z => z rfl)
                            · refine xj_iconst (v := (-1)) (by decide) dX12_next_185 ?_
                              refine xj_goto (tgt := 195) (by decide) dX12_next_186 ?_
                              refine yj_puti fl_X12_116_12 (by omega) fS_86_23 (fi_i _) dX12_next_195 ?_
                              obtain ⟨zg37, ezg37⟩ : ∃ x9, x9 = gs g2 86 23 (-1) := ⟨_, rfl⟩
                              rw [← ezg37]
                              have t8zg37 : zg37 86 8 = nI z := by rw [ezg37, gs_s, upd_n _ _ (by decide)]; exact ((hf2.2 8 (by omega)).trans h0)
                              have t21zg37 : zg37 86 21 = nI z := by rw [ezg37, gs_s, upd_n _ _ (by decide)]; exact ht21
                              have t22zg37 : zg37 86 22 = nI j := by rw [ezg37, gs_s, upd_n _ _ (by decide)]; exact ht22
                              have t23zg37 : zg37 86 23 = (-1) := by rw [ezg37, gs_s, upd_s]
                              have r91zg37 : zg37 91 = b := by rw [ezg37, gs_n _ _ _ (by decide)]; exact ((hf2.1 91 (by decide)).trans hb)
                              have fzg37 : fn g zg37 := by rw [ezg37]; exact hf2.g86 (by omega) _
                              refine xj_aload_n (n := 0) (i := 0) 2 rfl rfl dX12_next_198 ?_
                              refine xj_iload_n (n := 2) (i := 2) 0 rfl rfl dX12_next_199 ?_
                              refine xj_iconst (v := 3) (by decide) dX12_next_200 ?_
                              refine xj_icmp_ge (tgt := 208) (by decide) dX12_next_201 (fun zc201 => ?_) (fun zc201 => ?_)
                              · refine xj_iload_n (n := 2) (i := 2) 0 rfl rfl dX12_next_208 ?_
                                refine xj_iconst (v := 3) (by decide) dX12_next_209 ?_
                                refine xj_isub dX12_next_210 ?_
                                refine xj_topi (fun zv38 ezv38 => ?_)
                                refine yj_puti fl_X12_119_12 (by omega) fS_86_24 (fi_i _) dX12_next_211 ?_
                                obtain ⟨zg39, ezg39⟩ : ∃ x9, x9 = gs zg37 86 24 zv38 := ⟨_, rfl⟩
                                rw [← ezg39]
                                have t8zg39 : zg39 86 8 = nI z := by rw [ezg39, gs_s, upd_n _ _ (by decide)]; exact t8zg37
                                have t21zg39 : zg39 86 21 = nI z := by rw [ezg39, gs_s, upd_n _ _ (by decide)]; exact t21zg37
                                have t22zg39 : zg39 86 22 = nI j := by rw [ezg39, gs_s, upd_n _ _ (by decide)]; exact t22zg37
                                have t23zg39 : zg39 86 23 = (-1) := by rw [ezg39, gs_s, upd_n _ _ (by decide)]; exact t23zg37
                                have t24zg39 : zg39 86 24 = zv38 := by rw [ezg39, gs_s, upd_s]
                                have r91zg39 : zg39 91 = b := by rw [ezg39, gs_n _ _ _ (by decide)]; exact r91zg37
                                have fzg39 : fn g zg39 := by rw [ezg39]; exact fzg37.g86 (by omega) _
                                refine xj_goto (tgt := 403) (by decide) dX12_next_214 ?_
                                exact xj_return rfl (Nat.zero_le _) (Nat.zero_le _) dX12_next_403 (qV_e ⟨fzg39, (t22zg39.trans (by rw [hE])), (t21zg39.trans (by rw [hN])), t23zg39.trans (by rw [hT]; decide), fun y => absurd (hT.symm.trans y) (by decide), fun y => absurd (by rw [hT] at y; exact y) (by decide), fun y => absurd (by rw [hT] at y; exact y) (by decide)⟩)
                              · exact absurd (by decide) zc201
                          · exact absurd (by decide) zc172
                        · exact absurd (by decide) zc162
                      rcases Nat.lt_or_ge r 3 with hc3 | hc3
                      · have hr := (hr9.resolve_left (fun y => c12 y.1)).1
                        have hyes := (hr9.resolve_left (fun y => c12 y.1)).2
                        have hwt := wr_t r hr
                        have c3 : r < 3 := hc3
                        have hT : tkP b z i = nI (256 + qmL.getD r 0) := by unfold tkP; rw [hE, if_neg hzE, if_pos hl, hend2]; exact wr_of hr (by omega) h32 hyes
                        have hN : nxP b z i = z := by unfold nxP; rw [hE, if_neg hzE, if_pos hl, hend2]
                        refine xj_istore_n (n := 2) (i := 2) (lv1 := [(2, .int (nI r)), (1, .int (b j)), (0, .ref 86)]) rfl rfl (Nat.le_of_ble_eq_true rfl) dX12_next_158 ?_
                        refine xj_aload_n (n := 0) (i := 0) 2 rfl rfl dX12_next_159 ?_
                        refine xj_iload_n (n := 2) (i := 2) 0 rfl rfl dX12_next_160 ?_
                        refine xj_iconst (v := 3) (by decide) dX12_next_161 ?_
                        refine xj_icmp_ge (tgt := 169) (by decide) dX12_next_162 (fun zc162 => ?_) (fun zc162 => ?_)
                        · exact absurd zc162 (nI_ge (b := 3) c3 (by decide))
                        · refine xj_iconst (v := 3) (by decide) dX12_next_165 ?_
                          refine xj_goto (tgt := 195) (by decide) dX12_next_166 ?_
                          refine yj_puti fl_X12_116_12 (by omega) fS_86_23 (fi_i _) dX12_next_195 ?_
                          obtain ⟨zg40, ezg40⟩ : ∃ x9, x9 = gs g2 86 23 3 := ⟨_, rfl⟩
                          rw [← ezg40]
                          have t8zg40 : zg40 86 8 = nI z := by rw [ezg40, gs_s, upd_n _ _ (by decide)]; exact ((hf2.2 8 (by omega)).trans h0)
                          have t21zg40 : zg40 86 21 = nI z := by rw [ezg40, gs_s, upd_n _ _ (by decide)]; exact ht21
                          have t22zg40 : zg40 86 22 = nI j := by rw [ezg40, gs_s, upd_n _ _ (by decide)]; exact ht22
                          have t23zg40 : zg40 86 23 = 3 := by rw [ezg40, gs_s, upd_s]
                          have r91zg40 : zg40 91 = b := by rw [ezg40, gs_n _ _ _ (by decide)]; exact ((hf2.1 91 (by decide)).trans hb)
                          have fzg40 : fn g zg40 := by rw [ezg40]; exact hf2.g86 (by omega) _
                          refine xj_aload_n (n := 0) (i := 0) 2 rfl rfl dX12_next_198 ?_
                          refine xj_iload_n (n := 2) (i := 2) 0 rfl rfl dX12_next_199 ?_
                          refine xj_iconst (v := 3) (by decide) dX12_next_200 ?_
                          refine xj_icmp_ge (tgt := 208) (by decide) dX12_next_201 (fun zc201 => ?_) (fun zc201 => ?_)
                          · exact absurd zc201 (nI_ge (b := 3) c3 (by decide))
                          · refine xj_iload_n (n := 2) (i := 2) 0 rfl rfl dX12_next_204 ?_
                            refine xj_goto (tgt := 211) (by decide) dX12_next_205 ?_
                            refine yj_puti fl_X12_119_12 (by omega) fS_86_24 (fi_i _) dX12_next_211 ?_
                            obtain ⟨zg41, ezg41⟩ : ∃ x9, x9 = gs zg40 86 24 (nI r) := ⟨_, rfl⟩
                            rw [← ezg41]
                            have t8zg41 : zg41 86 8 = nI z := by rw [ezg41, gs_s, upd_n _ _ (by decide)]; exact t8zg40
                            have t21zg41 : zg41 86 21 = nI z := by rw [ezg41, gs_s, upd_n _ _ (by decide)]; exact t21zg40
                            have t22zg41 : zg41 86 22 = nI j := by rw [ezg41, gs_s, upd_n _ _ (by decide)]; exact t22zg40
                            have t23zg41 : zg41 86 23 = 3 := by rw [ezg41, gs_s, upd_n _ _ (by decide)]; exact t23zg40
                            have t24zg41 : zg41 86 24 = (nI r) := by rw [ezg41, gs_s, upd_s]
                            have r91zg41 : zg41 91 = b := by rw [ezg41, gs_n _ _ _ (by decide)]; exact r91zg40
                            have fzg41 : fn g zg41 := by rw [ezg41]; exact fzg40.g86 (by omega) _
                            refine xj_goto (tgt := 403) (by decide) dX12_next_214 ?_
                            exact xj_return rfl (Nat.zero_le _) (Nat.zero_le _) dX12_next_403 (qV_e ⟨fzg41, (t22zg41.trans (by rw [hE])), (t21zg41.trans (by rw [hN])), t23zg41.trans (by rw [hT]; exact (hwt.1 c3).1.symm), fun y => absurd (hT.symm.trans y) hwt.2.2.2, fun y => absurd (by rw [hT] at y; exact y) (hwt.1 c3).2.2, fun _ => t24zg41.trans (by rw [hT]; exact (hwt.1 c3).2.1.symm)⟩)
                      rcases Nat.lt_or_ge r 9 with hc9 | hc9
                      · have hr := (hr9.resolve_left (fun y => c12 y.1)).1
                        have hyes := (hr9.resolve_left (fun y => c12 y.1)).2
                        have hwt := wr_t r hr
                        have c3 : 3 ≤ r := hc3
                        have c9 : r < 9 := hc9
                        have hT : tkP b z i = nI (256 + qmL.getD r 0) := by unfold tkP; rw [hE, if_neg hzE, if_pos hl, hend2]; exact wr_of hr (by omega) h32 hyes
                        have hN : nxP b z i = z := by unfold nxP; rw [hE, if_neg hzE, if_pos hl, hend2]
                        refine xj_istore_n (n := 2) (i := 2) (lv1 := [(2, .int (nI r)), (1, .int (b j)), (0, .ref 86)]) rfl rfl (Nat.le_of_ble_eq_true rfl) dX12_next_158 ?_
                        refine xj_aload_n (n := 0) (i := 0) 2 rfl rfl dX12_next_159 ?_
                        refine xj_iload_n (n := 2) (i := 2) 0 rfl rfl dX12_next_160 ?_
                        refine xj_iconst (v := 3) (by decide) dX12_next_161 ?_
                        refine xj_icmp_ge (tgt := 169) (by decide) dX12_next_162 (fun zc162 => ?_) (fun zc162 => ?_)
                        · refine xj_iload_n (n := 2) (i := 2) 0 rfl rfl dX12_next_169 ?_
                          refine xj_bipush (v := 9) (by decide) dX12_next_170 ?_
                          refine xj_icmp_ge (tgt := 179) (by decide) dX12_next_172 (fun zc172 => ?_) (fun zc172 => ?_)
                          · exact absurd zc172 (nI_ge (b := 9) c9 (by decide))
                          · refine xj_iconst (v := 2) (by decide) dX12_next_175 ?_
                            refine xj_goto (tgt := 195) (by decide) dX12_next_176 ?_
                            refine yj_puti fl_X12_116_12 (by omega) fS_86_23 (fi_i _) dX12_next_195 ?_
                            obtain ⟨zg42, ezg42⟩ : ∃ x9, x9 = gs g2 86 23 2 := ⟨_, rfl⟩
                            rw [← ezg42]
                            have t8zg42 : zg42 86 8 = nI z := by rw [ezg42, gs_s, upd_n _ _ (by decide)]; exact ((hf2.2 8 (by omega)).trans h0)
                            have t21zg42 : zg42 86 21 = nI z := by rw [ezg42, gs_s, upd_n _ _ (by decide)]; exact ht21
                            have t22zg42 : zg42 86 22 = nI j := by rw [ezg42, gs_s, upd_n _ _ (by decide)]; exact ht22
                            have t23zg42 : zg42 86 23 = 2 := by rw [ezg42, gs_s, upd_s]
                            have r91zg42 : zg42 91 = b := by rw [ezg42, gs_n _ _ _ (by decide)]; exact ((hf2.1 91 (by decide)).trans hb)
                            have fzg42 : fn g zg42 := by rw [ezg42]; exact hf2.g86 (by omega) _
                            refine xj_aload_n (n := 0) (i := 0) 2 rfl rfl dX12_next_198 ?_
                            refine xj_iload_n (n := 2) (i := 2) 0 rfl rfl dX12_next_199 ?_
                            refine xj_iconst (v := 3) (by decide) dX12_next_200 ?_
                            refine xj_icmp_ge (tgt := 208) (by decide) dX12_next_201 (fun zc201 => ?_) (fun zc201 => ?_)
                            · refine xj_iload_n (n := 2) (i := 2) 0 rfl rfl dX12_next_208 ?_
                              refine xj_iconst (v := 3) (by decide) dX12_next_209 ?_
                              refine xj_isub dX12_next_210 ?_
                              refine xj_topi (fun zv43 ezv43 => ?_)
                              refine yj_puti fl_X12_119_12 (by omega) fS_86_24 (fi_i _) dX12_next_211 ?_
                              obtain ⟨zg44, ezg44⟩ : ∃ x9, x9 = gs zg42 86 24 zv43 := ⟨_, rfl⟩
                              rw [← ezg44]
                              have t8zg44 : zg44 86 8 = nI z := by rw [ezg44, gs_s, upd_n _ _ (by decide)]; exact t8zg42
                              have t21zg44 : zg44 86 21 = nI z := by rw [ezg44, gs_s, upd_n _ _ (by decide)]; exact t21zg42
                              have t22zg44 : zg44 86 22 = nI j := by rw [ezg44, gs_s, upd_n _ _ (by decide)]; exact t22zg42
                              have t23zg44 : zg44 86 23 = 2 := by rw [ezg44, gs_s, upd_n _ _ (by decide)]; exact t23zg42
                              have t24zg44 : zg44 86 24 = zv43 := by rw [ezg44, gs_s, upd_s]
                              have r91zg44 : zg44 91 = b := by rw [ezg44, gs_n _ _ _ (by decide)]; exact r91zg42
                              have fzg44 : fn g zg44 := by rw [ezg44]; exact fzg42.g86 (by omega) _
                              refine xj_goto (tgt := 403) (by decide) dX12_next_214 ?_
                              exact xj_return rfl (Nat.zero_le _) (Nat.zero_le _) dX12_next_403 (qV_e ⟨fzg44, (t22zg44.trans (by rw [hE])), (t21zg44.trans (by rw [hN])), t23zg44.trans (by rw [hT]; exact (hwt.2.1 c3 c9).1.symm), fun y => absurd (hT.symm.trans y) hwt.2.2.2, fun _ => t24zg44.trans (by rw [hT]; rw [ezv43]; exact (hwt.2.1 c3 c9).2.symm), fun y => absurd (by rw [hT, (hwt.2.1 c3 c9).1] at y; exact y) (by decide)⟩)
                            · exact absurd (nI_le (a := 3) c3 (by omega)) zc201
                        · exact absurd (nI_le (a := 3) c3 (by omega)) zc162
                      · have hr := (hr9.resolve_left (fun y => c12 y.1)).1
                        have hyes := (hr9.resolve_left (fun y => c12 y.1)).2
                        have hwt := wr_t r hr
                        have c3 : 3 ≤ r := by omega
                        have c9 : 9 ≤ r := hc9
                        have hT : tkP b z i = nI (256 + qmL.getD r 0) := by unfold tkP; rw [hE, if_neg hzE, if_pos hl, hend2]; exact wr_of hr (by omega) h32 hyes
                        have hN : nxP b z i = z := by unfold nxP; rw [hE, if_neg hzE, if_pos hl, hend2]
                        refine xj_istore_n (n := 2) (i := 2) (lv1 := [(2, .int (nI r)), (1, .int (b j)), (0, .ref 86)]) rfl rfl (Nat.le_of_ble_eq_true rfl) dX12_next_158 ?_
                        refine xj_aload_n (n := 0) (i := 0) 2 rfl rfl dX12_next_159 ?_
                        refine xj_iload_n (n := 2) (i := 2) 0 rfl rfl dX12_next_160 ?_
                        refine xj_iconst (v := 3) (by decide) dX12_next_161 ?_
                        refine xj_icmp_ge (tgt := 169) (by decide) dX12_next_162 (fun zc162 => ?_) (fun zc162 => ?_)
                        · refine xj_iload_n (n := 2) (i := 2) 0 rfl rfl dX12_next_169 ?_
                          refine xj_bipush (v := 9) (by decide) dX12_next_170 ?_
                          refine xj_icmp_ge (tgt := 179) (by decide) dX12_next_172 (fun zc172 => ?_) (fun zc172 => ?_)
                          · refine xj_iload_n (n := 2) (i := 2) 0 rfl rfl dX12_next_179 ?_
                            refine xj_bipush (v := 12) (by decide) dX12_next_180 ?_
                            refine xj_icmp_ne (tgt := 189) (by decide) dX12_next_182 (fun zc182 => ?_) (fun zc182 => ?_)
                            · refine xj_iconst (v := 4) (by decide) dX12_next_189 ?_
                              refine xj_iload_n (n := 2) (i := 2) 0 rfl rfl dX12_next_190 ?_
                              refine xj_iadd dX12_next_191 ?_
                              refine xj_bipush (v := 9) (by decide) dX12_next_192 ?_
                              refine xj_isub dX12_next_194 ?_
                              refine xj_topi (fun zv45 ezv45 => ?_)
                              refine yj_puti fl_X12_116_12 (by omega) fS_86_23 (fi_i _) dX12_next_195 ?_
                              obtain ⟨zg46, ezg46⟩ : ∃ x9, x9 = gs g2 86 23 zv45 := ⟨_, rfl⟩
                              rw [← ezg46]
                              have t8zg46 : zg46 86 8 = nI z := by rw [ezg46, gs_s, upd_n _ _ (by decide)]; exact ((hf2.2 8 (by omega)).trans h0)
                              have t21zg46 : zg46 86 21 = nI z := by rw [ezg46, gs_s, upd_n _ _ (by decide)]; exact ht21
                              have t22zg46 : zg46 86 22 = nI j := by rw [ezg46, gs_s, upd_n _ _ (by decide)]; exact ht22
                              have t23zg46 : zg46 86 23 = zv45 := by rw [ezg46, gs_s, upd_s]
                              have r91zg46 : zg46 91 = b := by rw [ezg46, gs_n _ _ _ (by decide)]; exact ((hf2.1 91 (by decide)).trans hb)
                              have fzg46 : fn g zg46 := by rw [ezg46]; exact hf2.g86 (by omega) _
                              refine xj_aload_n (n := 0) (i := 0) 2 rfl rfl dX12_next_198 ?_
                              refine xj_iload_n (n := 2) (i := 2) 0 rfl rfl dX12_next_199 ?_
                              refine xj_iconst (v := 3) (by decide) dX12_next_200 ?_
                              refine xj_icmp_ge (tgt := 208) (by decide) dX12_next_201 (fun zc201 => ?_) (fun zc201 => ?_)
                              · refine xj_iload_n (n := 2) (i := 2) 0 rfl rfl dX12_next_208 ?_
                                refine xj_iconst (v := 3) (by decide) dX12_next_209 ?_
                                refine xj_isub dX12_next_210 ?_
                                refine xj_topi (fun zv47 ezv47 => ?_)
                                refine yj_puti fl_X12_119_12 (by omega) fS_86_24 (fi_i _) dX12_next_211 ?_
                                obtain ⟨zg48, ezg48⟩ : ∃ x9, x9 = gs zg46 86 24 zv47 := ⟨_, rfl⟩
                                rw [← ezg48]
                                have t8zg48 : zg48 86 8 = nI z := by rw [ezg48, gs_s, upd_n _ _ (by decide)]; exact t8zg46
                                have t21zg48 : zg48 86 21 = nI z := by rw [ezg48, gs_s, upd_n _ _ (by decide)]; exact t21zg46
                                have t22zg48 : zg48 86 22 = nI j := by rw [ezg48, gs_s, upd_n _ _ (by decide)]; exact t22zg46
                                have t23zg48 : zg48 86 23 = zv45 := by rw [ezg48, gs_s, upd_n _ _ (by decide)]; exact t23zg46
                                have t24zg48 : zg48 86 24 = zv47 := by rw [ezg48, gs_s, upd_s]
                                have r91zg48 : zg48 91 = b := by rw [ezg48, gs_n _ _ _ (by decide)]; exact r91zg46
                                have fzg48 : fn g zg48 := by rw [ezg48]; exact fzg46.g86 (by omega) _
                                refine xj_goto (tgt := 403) (by decide) dX12_next_214 ?_
                                exact xj_return rfl (Nat.zero_le _) (Nat.zero_le _) dX12_next_403 (qV_e ⟨fzg48, (t22zg48.trans (by rw [hE])), (t21zg48.trans (by rw [hN])), t23zg48.trans (by rw [hT]; rw [ezv45]; exact (hwt.2.2.1 c9).1.symm), fun y => absurd (hT.symm.trans y) hwt.2.2.2, fun y => absurd (by rw [hT] at y; exact y) (hwt.2.2.1 c9).2, fun y => absurd (by rw [hT, (hwt.2.2.1 c9).1] at y; exact y) (w4_3 r hr c9)⟩)
                              · exact absurd (nI_le (a := 3) c3 (by omega)) zc201
                            · exact absurd zc182 (nI_ne (b := 12) c12 (by omega) (by decide))
                          · exact absurd (nI_le (a := 9) c9 (by omega)) zc172
                        · exact absurd (nI_le (a := 3) c3 (by omega)) zc162
                    · exact absurd (nI_le (Nat.le_refl _) (by omega)) zc111
                  · intro k hk ih2 g2 hf2 ht21 ht22 hr2 hjk
                    refine xj_aload_n (n := 0) (i := 0) 1 rfl rfl dX12_next_103 ?_
                    refine yj_getf (v := .int (nI k)) fl_X12_110_12 (by omega) (fq_86 g2) (congrArg (fun z => some (Value.int z)) ht21) dX12_next_104 ?_
                    refine xj_aload_n (n := 0) (i := 0) 1 rfl rfl dX12_next_107 ?_
                    refine yj_getf (v := .int (nI z)) fl_X12_83_12 (by omega) (fq_86 g2) (congrArg (fun z => some (Value.int z)) ((hf2.2 8 (by omega)).trans h0)) dX12_next_108 ?_
                    refine xj_icmp_ge (tgt := 146) (by decide) dX12_next_111 (fun zc111 => ?_) (fun zc111 => ?_)
                    · exact absurd zc111 (nI_ge hk (by omega))
                    · refine xj_aload_n (n := 0) (i := 0) 1 rfl rfl dX12_next_114 ?_
                      refine yj_getf (v := .ref 91) fl_X12_26_12 (by omega) (fq_86 g2) rfl dX12_next_115 ?_
                      refine xj_aload_n (n := 0) (i := 0) 1 rfl rfl dX12_next_118 ?_
                      refine yj_getf (v := .int (nI k)) fl_X12_110_12 (by omega) (fq_86 g2) (congrArg (fun z => some (Value.int z)) ht21) dX12_next_119 ?_
                      refine yj_ialdN k (by omega) fA_91 rfl (by omega) (by decide) dX12_next_122 ?_
                      refine xj_top (congrFun ((hf2.1 91 (by decide)).trans hb) k) ?_
                      refine xj_bipush (v := 97) (by decide) dX12_next_123 ?_
                      refine xj_bipush (v := 122) (by decide) dX12_next_125 ?_
                      refine xj_callS ks_X12_93 (c_X12_in l (d + 1) (b k) 97 122 _) (As := [.int (b k), .int 97, .int 122]) (st := []) rfl rfl (xRm_of (by omega) (by decide) (by omega) (by omega)) (Nat.le_of_ble_eq_true rfl) dX12_next_127 (yk_p (kc := 0) (ks := 0) ?_)
                      refine xj_if_eq (tgt := 146) (by decide) dX12_next_130 (fun zc130 => ?_) (fun zc130 => ?_)
                      · have hnd : ¬ isLt (b k) = true := fun y => bI_0.mp zc130 (isLt_i.mpr y)
                        have hend2 : rnP isLt b z j = k := hr2.symm.trans (rnP_n hnd)
                        have h32 : ∀ j0, j ≤ j0 → j0 < k → ¬ b j0 = 32 := fun j0 a b0 => isLt_in (b := b) (z := z) (s := j) (by omega) j0 a (by rw [hend2]; exact b0)
                        refine xj_aload_n (n := 0) (i := 0) 1 rfl rfl dX12_next_146 ?_
                        refine xj_aload_n (n := 0) (i := 0) 1 rfl rfl dX12_next_147 ?_
                        refine yj_getf (v := .int (nI j)) fl_X12_113_12 (by omega) (fq_86 g2) (congrArg (fun z => some (Value.int z)) ht22) dX12_next_148 ?_
                        refine xj_aload_n (n := 0) (i := 0) 1 rfl rfl dX12_next_151 ?_
                        refine yj_getf (v := .int (nI k)) fl_X12_110_12 (by omega) (fq_86 g2) (congrArg (fun z => some (Value.int z)) ht21) dX12_next_152 ?_
                        refine xj_callV kv_X12_122 (c_X12_wordFrom l d n hn g2 b z hz ((hf2.1 91 (by decide)).trans hb) ((hf2.2 8 (by omega)).trans h0) (fun k hk => by rw [hf2.1 101 (by decide)]; exact W k hk) j k (by omega) (by omega)) (As := [.int (nI j), .int (nI k)]) (st := []) (by omega) (fq_86 g2) (ci := 12) rfl rfl rfl rfl (xRm_of (by omega) (by decide) (by omega) (by omega)) (Nat.le_of_ble_eq_true rfl) dX12_next_155 (yk_i (kc := 0) (ks := 0) fun zv49 zg50 hzg50 => ?_)
                        obtain ⟨e9, r, e8, hr9⟩ := hzg50
                        rw [e9, e8]
                        by_cases c12 : r = 12
                        · subst c12
                          have hno := (hr9.resolve_right (fun y => absurd y.1 (by decide))).2
                          have hT : tkP b z i = 2 := by unfold tkP; rw [hE, if_neg hzE, if_pos hl, hend2]; exact wr_no (by omega) h32 hno
                          have hN : nxP b z i = k := by unfold nxP; rw [hE, if_neg hzE, if_pos hl, hend2]
                          refine xj_istore_n (n := 2) (i := 2) (lv1 := [(2, .int (nI 12)), (1, .int (b j)), (0, .ref 86)]) rfl rfl (Nat.le_of_ble_eq_true rfl) dX12_next_158 ?_
                          refine xj_aload_n (n := 0) (i := 0) 2 rfl rfl dX12_next_159 ?_
                          refine xj_iload_n (n := 2) (i := 2) 0 rfl rfl dX12_next_160 ?_
                          refine xj_iconst (v := 3) (by decide) dX12_next_161 ?_
                          refine xj_icmp_ge (tgt := 169) (by decide) dX12_next_162 (fun zc162 => ?_) (fun zc162 => ?_)
                          · refine xj_iload_n (n := 2) (i := 2) 0 rfl rfl dX12_next_169 ?_
                            refine xj_bipush (v := 9) (by decide) dX12_next_170 ?_
                            refine xj_icmp_ge (tgt := 179) (by decide) dX12_next_172 (fun zc172 => ?_) (fun zc172 => ?_)
                            · refine xj_iload_n (n := 2) (i := 2) 0 rfl rfl dX12_next_179 ?_
                              refine xj_bipush (v := 12) (by decide) dX12_next_180 ?_
                              refine xj_icmp_ne (tgt := 189) (by decide) dX12_next_182 (fun zc182 => ?_) (fun zc182 => ?_)
                              · exact absurd zc182 (fun z => z rfl)
                              · refine xj_iconst (v := (-1)) (by decide) dX12_next_185 ?_
                                refine xj_goto (tgt := 195) (by decide) dX12_next_186 ?_
                                refine yj_puti fl_X12_116_12 (by omega) fS_86_23 (fi_i _) dX12_next_195 ?_
                                obtain ⟨zg51, ezg51⟩ : ∃ x9, x9 = gs g2 86 23 (-1) := ⟨_, rfl⟩
                                rw [← ezg51]
                                have t8zg51 : zg51 86 8 = nI z := by rw [ezg51, gs_s, upd_n _ _ (by decide)]; exact ((hf2.2 8 (by omega)).trans h0)
                                have t21zg51 : zg51 86 21 = nI k := by rw [ezg51, gs_s, upd_n _ _ (by decide)]; exact ht21
                                have t22zg51 : zg51 86 22 = nI j := by rw [ezg51, gs_s, upd_n _ _ (by decide)]; exact ht22
                                have t23zg51 : zg51 86 23 = (-1) := by rw [ezg51, gs_s, upd_s]
                                have r91zg51 : zg51 91 = b := by rw [ezg51, gs_n _ _ _ (by decide)]; exact ((hf2.1 91 (by decide)).trans hb)
                                have fzg51 : fn g zg51 := by rw [ezg51]; exact hf2.g86 (by omega) _
                                refine xj_aload_n (n := 0) (i := 0) 2 rfl rfl dX12_next_198 ?_
                                refine xj_iload_n (n := 2) (i := 2) 0 rfl rfl dX12_next_199 ?_
                                refine xj_iconst (v := 3) (by decide) dX12_next_200 ?_
                                refine xj_icmp_ge (tgt := 208) (by decide) dX12_next_201 (fun zc201 => ?_) (fun zc201 => ?_)
                                · refine xj_iload_n (n := 2) (i := 2) 0 rfl rfl dX12_next_208 ?_
                                  refine xj_iconst (v := 3) (by decide) dX12_next_209 ?_
                                  refine xj_isub dX12_next_210 ?_
                                  refine xj_topi (fun zv52 ezv52 => ?_)
                                  refine yj_puti fl_X12_119_12 (by omega) fS_86_24 (fi_i _) dX12_next_211 ?_
                                  obtain ⟨zg53, ezg53⟩ : ∃ x9, x9 = gs zg51 86 24 zv52 := ⟨_, rfl⟩
                                  rw [← ezg53]
                                  have t8zg53 : zg53 86 8 = nI z := by rw [ezg53, gs_s, upd_n _ _ (by decide)]; exact t8zg51
                                  have t21zg53 : zg53 86 21 = nI k := by rw [ezg53, gs_s, upd_n _ _ (by decide)]; exact t21zg51
                                  have t22zg53 : zg53 86 22 = nI j := by rw [ezg53, gs_s, upd_n _ _ (by decide)]; exact t22zg51
                                  have t23zg53 : zg53 86 23 = (-1) := by rw [ezg53, gs_s, upd_n _ _ (by decide)]; exact t23zg51
                                  have t24zg53 : zg53 86 24 = zv52 := by rw [ezg53, gs_s, upd_s]
                                  have r91zg53 : zg53 91 = b := by rw [ezg53, gs_n _ _ _ (by decide)]; exact r91zg51
                                  have fzg53 : fn g zg53 := by rw [ezg53]; exact fzg51.g86 (by omega) _
                                  refine xj_goto (tgt := 403) (by decide) dX12_next_214 ?_
                                  exact xj_return rfl (Nat.zero_le _) (Nat.zero_le _) dX12_next_403 (qV_e ⟨fzg53, (t22zg53.trans (by rw [hE])), (t21zg53.trans (by rw [hN])), t23zg53.trans (by rw [hT]; decide), fun y => absurd (hT.symm.trans y) (by decide), fun y => absurd (by rw [hT] at y; exact y) (by decide), fun y => absurd (by rw [hT] at y; exact y) (by decide)⟩)
                                · exact absurd (by decide) zc201
                            · exact absurd (by decide) zc172
                          · exact absurd (by decide) zc162
                        rcases Nat.lt_or_ge r 3 with hc3 | hc3
                        · have hr := (hr9.resolve_left (fun y => c12 y.1)).1
                          have hyes := (hr9.resolve_left (fun y => c12 y.1)).2
                          have hwt := wr_t r hr
                          have c3 : r < 3 := hc3
                          have hT : tkP b z i = nI (256 + qmL.getD r 0) := by unfold tkP; rw [hE, if_neg hzE, if_pos hl, hend2]; exact wr_of hr (by omega) h32 hyes
                          have hN : nxP b z i = k := by unfold nxP; rw [hE, if_neg hzE, if_pos hl, hend2]
                          refine xj_istore_n (n := 2) (i := 2) (lv1 := [(2, .int (nI r)), (1, .int (b j)), (0, .ref 86)]) rfl rfl (Nat.le_of_ble_eq_true rfl) dX12_next_158 ?_
                          refine xj_aload_n (n := 0) (i := 0) 2 rfl rfl dX12_next_159 ?_
                          refine xj_iload_n (n := 2) (i := 2) 0 rfl rfl dX12_next_160 ?_
                          refine xj_iconst (v := 3) (by decide) dX12_next_161 ?_
                          refine xj_icmp_ge (tgt := 169) (by decide) dX12_next_162 (fun zc162 => ?_) (fun zc162 => ?_)
                          · exact absurd zc162 (nI_ge (b := 3) c3 (by decide))
                          · refine xj_iconst (v := 3) (by decide) dX12_next_165 ?_
                            refine xj_goto (tgt := 195) (by decide) dX12_next_166 ?_
                            refine yj_puti fl_X12_116_12 (by omega) fS_86_23 (fi_i _) dX12_next_195 ?_
                            obtain ⟨zg54, ezg54⟩ : ∃ x9, x9 = gs g2 86 23 3 := ⟨_, rfl⟩
                            rw [← ezg54]
                            have t8zg54 : zg54 86 8 = nI z := by rw [ezg54, gs_s, upd_n _ _ (by decide)]; exact ((hf2.2 8 (by omega)).trans h0)
                            have t21zg54 : zg54 86 21 = nI k := by rw [ezg54, gs_s, upd_n _ _ (by decide)]; exact ht21
                            have t22zg54 : zg54 86 22 = nI j := by rw [ezg54, gs_s, upd_n _ _ (by decide)]; exact ht22
                            have t23zg54 : zg54 86 23 = 3 := by rw [ezg54, gs_s, upd_s]
                            have r91zg54 : zg54 91 = b := by rw [ezg54, gs_n _ _ _ (by decide)]; exact ((hf2.1 91 (by decide)).trans hb)
                            have fzg54 : fn g zg54 := by rw [ezg54]; exact hf2.g86 (by omega) _
                            refine xj_aload_n (n := 0) (i := 0) 2 rfl rfl dX12_next_198 ?_
                            refine xj_iload_n (n := 2) (i := 2) 0 rfl rfl dX12_next_199 ?_
                            refine xj_iconst (v := 3) (by decide) dX12_next_200 ?_
                            refine xj_icmp_ge (tgt := 208) (by decide) dX12_next_201 (fun zc201 => ?_) (fun zc201 => ?_)
                            · exact absurd zc201 (nI_ge (b := 3) c3 (by decide))
                            · refine xj_iload_n (n := 2) (i := 2) 0 rfl rfl dX12_next_204 ?_
                              refine xj_goto (tgt := 211) (by decide) dX12_next_205 ?_
                              refine yj_puti fl_X12_119_12 (by omega) fS_86_24 (fi_i _) dX12_next_211 ?_
                              obtain ⟨zg55, ezg55⟩ : ∃ x9, x9 = gs zg54 86 24 (nI r) := ⟨_, rfl⟩
                              rw [← ezg55]
                              have t8zg55 : zg55 86 8 = nI z := by rw [ezg55, gs_s, upd_n _ _ (by decide)]; exact t8zg54
                              have t21zg55 : zg55 86 21 = nI k := by rw [ezg55, gs_s, upd_n _ _ (by decide)]; exact t21zg54
                              have t22zg55 : zg55 86 22 = nI j := by rw [ezg55, gs_s, upd_n _ _ (by decide)]; exact t22zg54
                              have t23zg55 : zg55 86 23 = 3 := by rw [ezg55, gs_s, upd_n _ _ (by decide)]; exact t23zg54
                              have t24zg55 : zg55 86 24 = (nI r) := by rw [ezg55, gs_s, upd_s]
                              have r91zg55 : zg55 91 = b := by rw [ezg55, gs_n _ _ _ (by decide)]; exact r91zg54
                              have fzg55 : fn g zg55 := by rw [ezg55]; exact fzg54.g86 (by omega) _
                              refine xj_goto (tgt := 403) (by decide) dX12_next_214 ?_
                              exact xj_return rfl (Nat.zero_le _) (Nat.zero_le _) dX12_next_403 (qV_e ⟨fzg55, (t22zg55.trans (by rw [hE])), (t21zg55.trans (by rw [hN])), t23zg55.trans (by rw [hT]; exact (hwt.1 c3).1.symm), fun y => absurd (hT.symm.trans y) hwt.2.2.2, fun y => absurd (by rw [hT] at y; exact y) (hwt.1 c3).2.2, fun _ => t24zg55.trans (by rw [hT]; exact (hwt.1 c3).2.1.symm)⟩)
                        rcases Nat.lt_or_ge r 9 with hc9 | hc9
                        · have hr := (hr9.resolve_left (fun y => c12 y.1)).1
                          have hyes := (hr9.resolve_left (fun y => c12 y.1)).2
                          have hwt := wr_t r hr
                          have c3 : 3 ≤ r := hc3
                          have c9 : r < 9 := hc9
                          have hT : tkP b z i = nI (256 + qmL.getD r 0) := by unfold tkP; rw [hE, if_neg hzE, if_pos hl, hend2]; exact wr_of hr (by omega) h32 hyes
                          have hN : nxP b z i = k := by unfold nxP; rw [hE, if_neg hzE, if_pos hl, hend2]
                          refine xj_istore_n (n := 2) (i := 2) (lv1 := [(2, .int (nI r)), (1, .int (b j)), (0, .ref 86)]) rfl rfl (Nat.le_of_ble_eq_true rfl) dX12_next_158 ?_
                          refine xj_aload_n (n := 0) (i := 0) 2 rfl rfl dX12_next_159 ?_
                          refine xj_iload_n (n := 2) (i := 2) 0 rfl rfl dX12_next_160 ?_
                          refine xj_iconst (v := 3) (by decide) dX12_next_161 ?_
                          refine xj_icmp_ge (tgt := 169) (by decide) dX12_next_162 (fun zc162 => ?_) (fun zc162 => ?_)
                          · refine xj_iload_n (n := 2) (i := 2) 0 rfl rfl dX12_next_169 ?_
                            refine xj_bipush (v := 9) (by decide) dX12_next_170 ?_
                            refine xj_icmp_ge (tgt := 179) (by decide) dX12_next_172 (fun zc172 => ?_) (fun zc172 => ?_)
                            · exact absurd zc172 (nI_ge (b := 9) c9 (by decide))
                            · refine xj_iconst (v := 2) (by decide) dX12_next_175 ?_
                              refine xj_goto (tgt := 195) (by decide) dX12_next_176 ?_
                              refine yj_puti fl_X12_116_12 (by omega) fS_86_23 (fi_i _) dX12_next_195 ?_
                              obtain ⟨zg56, ezg56⟩ : ∃ x9, x9 = gs g2 86 23 2 := ⟨_, rfl⟩
                              rw [← ezg56]
                              have t8zg56 : zg56 86 8 = nI z := by rw [ezg56, gs_s, upd_n _ _ (by decide)]; exact ((hf2.2 8 (by omega)).trans h0)
                              have t21zg56 : zg56 86 21 = nI k := by rw [ezg56, gs_s, upd_n _ _ (by decide)]; exact ht21
                              have t22zg56 : zg56 86 22 = nI j := by rw [ezg56, gs_s, upd_n _ _ (by decide)]; exact ht22
                              have t23zg56 : zg56 86 23 = 2 := by rw [ezg56, gs_s, upd_s]
                              have r91zg56 : zg56 91 = b := by rw [ezg56, gs_n _ _ _ (by decide)]; exact ((hf2.1 91 (by decide)).trans hb)
                              have fzg56 : fn g zg56 := by rw [ezg56]; exact hf2.g86 (by omega) _
                              refine xj_aload_n (n := 0) (i := 0) 2 rfl rfl dX12_next_198 ?_
                              refine xj_iload_n (n := 2) (i := 2) 0 rfl rfl dX12_next_199 ?_
                              refine xj_iconst (v := 3) (by decide) dX12_next_200 ?_
                              refine xj_icmp_ge (tgt := 208) (by decide) dX12_next_201 (fun zc201 => ?_) (fun zc201 => ?_)
                              · refine xj_iload_n (n := 2) (i := 2) 0 rfl rfl dX12_next_208 ?_
                                refine xj_iconst (v := 3) (by decide) dX12_next_209 ?_
                                refine xj_isub dX12_next_210 ?_
                                refine xj_topi (fun zv57 ezv57 => ?_)
                                refine yj_puti fl_X12_119_12 (by omega) fS_86_24 (fi_i _) dX12_next_211 ?_
                                obtain ⟨zg58, ezg58⟩ : ∃ x9, x9 = gs zg56 86 24 zv57 := ⟨_, rfl⟩
                                rw [← ezg58]
                                have t8zg58 : zg58 86 8 = nI z := by rw [ezg58, gs_s, upd_n _ _ (by decide)]; exact t8zg56
                                have t21zg58 : zg58 86 21 = nI k := by rw [ezg58, gs_s, upd_n _ _ (by decide)]; exact t21zg56
                                have t22zg58 : zg58 86 22 = nI j := by rw [ezg58, gs_s, upd_n _ _ (by decide)]; exact t22zg56
                                have t23zg58 : zg58 86 23 = 2 := by rw [ezg58, gs_s, upd_n _ _ (by decide)]; exact t23zg56
                                have t24zg58 : zg58 86 24 = zv57 := by rw [ezg58, gs_s, upd_s]
                                have r91zg58 : zg58 91 = b := by rw [ezg58, gs_n _ _ _ (by decide)]; exact r91zg56
                                have fzg58 : fn g zg58 := by rw [ezg58]; exact fzg56.g86 (by omega) _
                                refine xj_goto (tgt := 403) (by decide) dX12_next_214 ?_
                                exact xj_return rfl (Nat.zero_le _) (Nat.zero_le _) dX12_next_403 (qV_e ⟨fzg58, (t22zg58.trans (by rw [hE])), (t21zg58.trans (by rw [hN])), t23zg58.trans (by rw [hT]; exact (hwt.2.1 c3 c9).1.symm), fun y => absurd (hT.symm.trans y) hwt.2.2.2, fun _ => t24zg58.trans (by rw [hT]; rw [ezv57]; exact (hwt.2.1 c3 c9).2.symm), fun y => absurd (by rw [hT, (hwt.2.1 c3 c9).1] at y; exact y) (by decide)⟩)
                              · exact absurd (nI_le (a := 3) c3 (by omega)) zc201
                          · exact absurd (nI_le (a := 3) c3 (by omega)) zc162
                        · have hr := (hr9.resolve_left (fun y => c12 y.1)).1
                          have hyes := (hr9.resolve_left (fun y => c12 y.1)).2
                          have hwt := wr_t r hr
                          have c3 : 3 ≤ r := by omega
                          have c9 : 9 ≤ r := hc9
                          have hT : tkP b z i = nI (256 + qmL.getD r 0) := by unfold tkP; rw [hE, if_neg hzE, if_pos hl, hend2]; exact wr_of hr (by omega) h32 hyes
                          have hN : nxP b z i = k := by unfold nxP; rw [hE, if_neg hzE, if_pos hl, hend2]
                          refine xj_istore_n (n := 2) (i := 2) (lv1 := [(2, .int (nI r)), (1, .int (b j)), (0, .ref 86)]) rfl rfl (Nat.le_of_ble_eq_true rfl) dX12_next_158 ?_
                          refine xj_aload_n (n := 0) (i := 0) 2 rfl rfl dX12_next_159 ?_
                          refine xj_iload_n (n := 2) (i := 2) 0 rfl rfl dX12_next_160 ?_
                          refine xj_iconst (v := 3) (by decide) dX12_next_161 ?_
                          refine xj_icmp_ge (tgt := 169) (by decide) dX12_next_162 (fun zc162 => ?_) (fun zc162 => ?_)
                          · refine xj_iload_n (n := 2) (i := 2) 0 rfl rfl dX12_next_169 ?_
                            refine xj_bipush (v := 9) (by decide) dX12_next_170 ?_
                            refine xj_icmp_ge (tgt := 179) (by decide) dX12_next_172 (fun zc172 => ?_) (fun zc172 => ?_)
                            · refine xj_iload_n (n := 2) (i := 2) 0 rfl rfl dX12_next_179 ?_
                              refine xj_bipush (v := 12) (by decide) dX12_next_180 ?_
                              refine xj_icmp_ne (tgt := 189) (by decide) dX12_next_182 (fun zc182 => ?_) (fun zc182 => ?_)
                              · refine xj_iconst (v := 4) (by decide) dX12_next_189 ?_
                                refine xj_iload_n (n := 2) (i := 2) 0 rfl rfl dX12_next_190 ?_
                                refine xj_iadd dX12_next_191 ?_
                                refine xj_bipush (v := 9) (by decide) dX12_next_192 ?_
                                refine xj_isub dX12_next_194 ?_
                                refine xj_topi (fun zv59 ezv59 => ?_)
                                refine yj_puti fl_X12_116_12 (by omega) fS_86_23 (fi_i _) dX12_next_195 ?_
                                obtain ⟨zg60, ezg60⟩ : ∃ x9, x9 = gs g2 86 23 zv59 := ⟨_, rfl⟩
                                rw [← ezg60]
                                have t8zg60 : zg60 86 8 = nI z := by rw [ezg60, gs_s, upd_n _ _ (by decide)]; exact ((hf2.2 8 (by omega)).trans h0)
                                have t21zg60 : zg60 86 21 = nI k := by rw [ezg60, gs_s, upd_n _ _ (by decide)]; exact ht21
                                have t22zg60 : zg60 86 22 = nI j := by rw [ezg60, gs_s, upd_n _ _ (by decide)]; exact ht22
                                have t23zg60 : zg60 86 23 = zv59 := by rw [ezg60, gs_s, upd_s]
                                have r91zg60 : zg60 91 = b := by rw [ezg60, gs_n _ _ _ (by decide)]; exact ((hf2.1 91 (by decide)).trans hb)
                                have fzg60 : fn g zg60 := by rw [ezg60]; exact hf2.g86 (by omega) _
                                refine xj_aload_n (n := 0) (i := 0) 2 rfl rfl dX12_next_198 ?_
                                refine xj_iload_n (n := 2) (i := 2) 0 rfl rfl dX12_next_199 ?_
                                refine xj_iconst (v := 3) (by decide) dX12_next_200 ?_
                                refine xj_icmp_ge (tgt := 208) (by decide) dX12_next_201 (fun zc201 => ?_) (fun zc201 => ?_)
                                · refine xj_iload_n (n := 2) (i := 2) 0 rfl rfl dX12_next_208 ?_
                                  refine xj_iconst (v := 3) (by decide) dX12_next_209 ?_
                                  refine xj_isub dX12_next_210 ?_
                                  refine xj_topi (fun zv61 ezv61 => ?_)
                                  refine yj_puti fl_X12_119_12 (by omega) fS_86_24 (fi_i _) dX12_next_211 ?_
                                  obtain ⟨zg62, ezg62⟩ : ∃ x9, x9 = gs zg60 86 24 zv61 := ⟨_, rfl⟩
                                  rw [← ezg62]
                                  have t8zg62 : zg62 86 8 = nI z := by rw [ezg62, gs_s, upd_n _ _ (by decide)]; exact t8zg60
                                  have t21zg62 : zg62 86 21 = nI k := by rw [ezg62, gs_s, upd_n _ _ (by decide)]; exact t21zg60
                                  have t22zg62 : zg62 86 22 = nI j := by rw [ezg62, gs_s, upd_n _ _ (by decide)]; exact t22zg60
                                  have t23zg62 : zg62 86 23 = zv59 := by rw [ezg62, gs_s, upd_n _ _ (by decide)]; exact t23zg60
                                  have t24zg62 : zg62 86 24 = zv61 := by rw [ezg62, gs_s, upd_s]
                                  have r91zg62 : zg62 91 = b := by rw [ezg62, gs_n _ _ _ (by decide)]; exact r91zg60
                                  have fzg62 : fn g zg62 := by rw [ezg62]; exact fzg60.g86 (by omega) _
                                  refine xj_goto (tgt := 403) (by decide) dX12_next_214 ?_
                                  exact xj_return rfl (Nat.zero_le _) (Nat.zero_le _) dX12_next_403 (qV_e ⟨fzg62, (t22zg62.trans (by rw [hE])), (t21zg62.trans (by rw [hN])), t23zg62.trans (by rw [hT]; rw [ezv59]; exact (hwt.2.2.1 c9).1.symm), fun y => absurd (hT.symm.trans y) hwt.2.2.2, fun y => absurd (by rw [hT] at y; exact y) (hwt.2.2.1 c9).2, fun y => absurd (by rw [hT, (hwt.2.2.1 c9).1] at y; exact y) (w4_3 r hr c9)⟩)
                                · exact absurd (nI_le (a := 3) c3 (by omega)) zc201
                              · exact absurd zc182 (nI_ne (b := 12) c12 (by omega) (by decide))
                            · exact absurd (nI_le (a := 9) c9 (by omega)) zc172
                          · exact absurd (nI_le (a := 3) c3 (by omega)) zc162
                      · have hdg : isLt (b k) = true := isLt_i.mp (bI_n0.mp zc130)
                        have hst2 := rnP_s (p := isLt) (b := b) hk hdg
                        refine xj_aload_n (n := 0) (i := 0) 1 rfl rfl dX12_next_133 ?_
                        refine xj_dup rfl dX12_next_134 ?_
                        refine yj_getf (v := .int (nI k)) fl_X12_110_12 (by omega) (fq_86 g2) (congrArg (fun z => some (Value.int z)) ht21) dX12_next_135 ?_
                        refine xj_iconst (v := 1) (by decide) dX12_next_138 ?_
                        refine xj_iadd dX12_next_139 ?_
                        refine xj_top (nI_add k 1) ?_
                        refine yj_puti fl_X12_110_12 (by omega) fS_86_21 (fi_i _) dX12_next_140 ?_
                        obtain ⟨zg63, ezg63⟩ : ∃ x9, x9 = gs g2 86 21 (nI (k + 1)) := ⟨_, rfl⟩
                        rw [← ezg63]
                        have t8zg63 : zg63 86 8 = nI z := by rw [ezg63, gs_s, upd_n _ _ (by decide)]; exact ((hf2.2 8 (by omega)).trans h0)
                        have t22zg63 : zg63 86 22 = nI j := by rw [ezg63, gs_s, upd_n _ _ (by decide)]; exact ht22
                        have t21zg63 : zg63 86 21 = (nI (k + 1)) := by rw [ezg63, gs_s, upd_s]
                        have r91zg63 : zg63 91 = b := by rw [ezg63, gs_n _ _ _ (by decide)]; exact ((hf2.1 91 (by decide)).trans hb)
                        have fzg63 : fn g zg63 := by rw [ezg63]; exact hf2.g86 (by omega) _
                        refine xj_goto (tgt := 103) (by decide) dX12_next_143 ?_
                        refine xj_sub (lv' := [(1, .int (b j)), (0, .ref 86)]) [0, 1] rfl ?_
                        exact ih2 zg63 fzg63 (t21zg63.trans rfl) t22zg63 (hst2.symm.trans hr2) (by omega)
                refine xj_sub (lv' := [(1, .int (b j)), (0, .ref 86)]) [0, 1] rfl ?_
                exact key2 j (Nat.le_of_lt hj) zg7 fzg7 t21zg7 t22zg7 rfl (Nat.le_refl j)
            · exact absurd zc78 (nI_ne (by omega) (by omega) (by omega))
          · have hbl : isBl (b j) = true := decide_eq_true (Or.inr zc36)
            have hst := rnP_s (p := isBl) (b := b) hj hbl
            refine xj_aload_n (n := 0) (i := 0) 0 rfl rfl dX12_next_39 ?_
            refine xj_dup rfl dX12_next_40 ?_
            refine yj_getf (v := .int (nI j)) fl_X12_110_12 (by omega) (fq_86 g1) (congrArg (fun z => some (Value.int z)) hs6) dX12_next_41 ?_
            refine xj_iconst (v := 1) (by decide) dX12_next_44 ?_
            refine xj_iadd dX12_next_45 ?_
            refine xj_top (nI_add j 1) ?_
            refine yj_puti fl_X12_110_12 (by omega) fS_86_21 (fi_i _) dX12_next_46 ?_
            obtain ⟨zg64, ezg64⟩ : ∃ x9, x9 = gs g1 86 21 (nI (j + 1)) := ⟨_, rfl⟩
            rw [← ezg64]
            have t8zg64 : zg64 86 8 = nI z := by rw [ezg64, gs_s, upd_n _ _ (by decide)]; exact ((hf.2 8 (by omega)).trans h0)
            have t21zg64 : zg64 86 21 = (nI (j + 1)) := by rw [ezg64, gs_s, upd_s]
            have r91zg64 : zg64 91 = b := by rw [ezg64, gs_n _ _ _ (by decide)]; exact ((hf.1 91 (by decide)).trans hb)
            have fzg64 : fn g zg64 := by rw [ezg64]; exact hf.g86 (by omega) _
            refine xj_goto (tgt := 0) (by decide) dX12_next_49 ?_
            refine xj_sub (lv' := [(0, .ref 86)]) [0] rfl ?_
            exact ih zg64 fzg64 (t21zg64.trans rfl) (hst.symm.trans hr) (by omega)
  refine xj_sub (lv' := [(0, .ref 86)]) [0] rfl ?_
  exact key i hi g fn.rf h21 rfl (Nat.le_refl i)
