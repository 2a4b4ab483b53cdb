def vBest (A : zSt) (Λ : Nat → xL) (s what : Int32) : Int32 := if isSl A s then if 0 ≤ what ∧ what ≤ 2 then if what = 0 then wcP A Λ s.toNatClampNeg else if what = 1 then onesF (wcP A Λ s.toNatClampNeg) else coS A Λ s.toNatClampNeg (wcP A Λ s.toNatClampNeg) else -7 else -5
theorem wcF_n (pr : Nat → Int32) (M : Int32) : ∀ (m : Nat) (left ch sp : Int32), (∃ a, a < 65536 ∧ ch = nI a) → ∃ a, a < 65536 ∧ wcF pr M m left ch sp = nI a
  | 0, _, _, _, h => h
  | m + 1, left, ch, sp, h => by
    unfold wcF
    split
    · exact h
    · split
      · refine wcF_n pr M m _ _ _ ?_
        obtain ⟨a, ha, rfl⟩ := h
        have hc := chF_lt pr left 16 (Nat.le_refl _)
        rw [bitF_n hc, nI_or]
        have hp := Nat.pow_lt_pow_right (a := 2) (by decide) hc
        exact ⟨_, Nat.or_lt_two_pow (n := 16) ha hp, rfl⟩
      · exact h
theorem wcP_n (A : zSt) (Λ : Nat → xL) (s : Nat) : ∃ a, a < 65536 ∧ wcP A Λ s = nI a := wcF_n _ _ _ _ _ _ ⟨0, by decide, rfl⟩
/-- who is best cleaned; -1: nobody -/
def whF (f : Nat → Int32) : Nat → Int32 × Int32
  | 0 => (-1, -1)
  | i + 1 => if (whF f i).2 < f i then (nI i, f i) else whF f i
def vWhom (A : zSt) (Λ : Nat → xL) (what : Int32) : Int32 := if 0 ≤ what ∧ what ≤ 1 then if what = 0 then (whF (fun s => onesF (wcP A Λ s)) (aS A)).1 else (if 0 < (whF (fun s => onesF (wcP A Λ s)) (aS A)).2 then (whF (fun s => onesF (wcP A Λ s)) (aS A)).2 else 0) else -2
set_option maxHeartbeats 4000000 in
set_option maxRecDepth 100000 in
theorem c_X11_worthCleaning (l : Launch) (d : Nat) (n : Nat) (g : xG) (A : zSt) (Λ : Nat → xL) (O : okA A) (C : cA g n A Λ) (s : Nat) (hs : s < aS A)  : xC l yX11_worthCleaning cX11_worthCleaning 7 (some .int) (xR (d + 6) 0 0) [.ref 0, .int (nI s)] (n, fh g) (qI n fun v g1 => v = wcP A Λ s ∧ fr sX g g1) := by
  refine xC_of false (by decide +kernel) (fun z => by cases z) (Nat.le_of_ble_eq_true rfl) ?_
  have hn := C.n110 O
  have hS6 := O.1.2
  have hW := O.W
  have hT6 := O.2.2.2.1.2.2
  have hx0 : s < 6 := by omega
  have hs6_s : s < 6 := by omega
  have hN9 := O.2.1.2
  show xJ l (RX11, 7, (some .int), false, (xR (d + 6) 0 0), none) cX11_worthCleaning _ 0 0 0 [(0, .ref 0), (1, .int (nI s))] [] (n, fh g)
  refine xj_aload_n (n := 0) (i := 0) 0 rfl rfl dX11_worthCleaning_0 ?_
  refine yj_getf (v := .ref 8) fl_X11_37_11 (by omega) (fq_0 g) rfl dX11_worthCleaning_1 ?_
  refine xj_iload_n (n := 1) (i := 1) 1 rfl rfl dX11_worthCleaning_4 ?_
  refine yj_aaldN (m := 6) (a := 9 + 3 * s) s (by omega) (fq_8 g) (by decide) (by decide) rfl (by omega) (by decide) (if_pos (by omega)) dX11_worthCleaning_5 ?_
  refine yj_getf (v := .int ((A 3 s))) fl_X11_144_7 (by omega) ((fPn_r hs6_s).2.2.1 (g (9 + 3 * s))) (congrArg (fun z => some (Value.int z)) (C.pane hs).2.2.1) dX11_worthCleaning_6 ?_
  refine xj_aload_n (n := 0) (i := 0) 0 rfl rfl dX11_worthCleaning_9 ?_
  refine yj_getf (v := .ref 8) fl_X11_37_11 (by omega) (fq_0 g) rfl dX11_worthCleaning_10 ?_
  refine xj_iload_n (n := 1) (i := 1) 1 rfl rfl dX11_worthCleaning_13 ?_
  refine yj_aaldN (m := 6) (a := 9 + 3 * s) s (by omega) (fq_8 g) (by decide) (by decide) rfl (by omega) (by decide) (if_pos (by omega)) dX11_worthCleaning_14 ?_
  refine xj_aload_n (n := 0) (i := 0) 0 rfl rfl dX11_worthCleaning_15 ?_
  refine yj_getf (v := .ref 66) fl_X11_55_11 (by omega) (fq_0 g) rfl dX11_worthCleaning_16 ?_
  refine xj_aload_n (n := 0) (i := 0) 0 rfl rfl dX11_worthCleaning_19 ?_
  refine yj_getf (v := .int (nI (aW A))) fl_X11_93_11 (by omega) (fq_0 g) (congrArg (fun z => some (Value.int z)) (C.W O)) dX11_worthCleaning_20 ?_
  refine yj_aaldN (m := 6) (a := fTX (aW A)) (aW A) (by omega) (fq_66 g) (by decide) (by decide) rfl (by omega) (by decide) (C.tx O hW) dX11_worthCleaning_23 ?_
  refine xj_aload_n (n := 0) (i := 0) 0 rfl rfl dX11_worthCleaning_24 ?_
  refine yj_getf (v := .int (nI (aN A))) fl_X11_84_11 (by omega) (fq_0 g) (congrArg (fun z => some (Value.int z)) (C.N O)) dX11_worthCleaning_25 ?_
  refine xj_callV kv_X11_164 (c_X7_seenCells l (d + 0) n hn g (9 + 3 * s) (fTX (aW A)) (aK A s) (A 2 s) (A 3 s) (A (10 + s)) (Λ (aW A)) (fPn_r hs6_s) (C.pane hs) (C.txt hW) (nI (aN A))) (As := [.ref (fTX (aW A)), .int (nI (aN A))]) (st := [.int ((A 3 s))]) (by omega) ((fPn_r hs6_s).2.2.1 _) (ci := 7) rfl rfl rfl rfl (xRm_of (by omega) (by decide) (by omega) (by omega)) (Nat.le_of_ble_eq_true rfl) dX11_worthCleaning_28 (yk_i (kc := 0) (ks := 0) fun zv1 zg2 hzg2 => ?_)
  obtain ⟨hvzv1, hfzg2⟩ := hzg2
  have hxzg2 := hfzg2.mono (fX_s (t := (aW A)) hs6_s (Or.inl rfl))
  have Czg2 := C.keep O hxzg2
  refine xj_top (show zv1 = seP A Λ s from hvzv1) ?_
  refine xj_iconst (v := (-1)) (by decide) dX11_worthCleaning_31 ?_
  refine xj_ixor dX11_worthCleaning_32 ?_
  refine xj_iand dX11_worthCleaning_33 ?_
  refine xj_topi (fun zv3 ezv3 => ?_)
  refine xj_istore_n (n := 2) (i := 2) (lv1 := [(2, .int zv3), (0, .ref 0), (1, .int (nI s))]) rfl rfl (Nat.le_of_ble_eq_true rfl) dX11_worthCleaning_34 ?_
  refine xj_iconst (v := 0) (by decide) dX11_worthCleaning_35 ?_
  refine xj_istore_n (n := 3) (i := 3) (lv1 := [(3, .int 0), (2, .int zv3), (0, .ref 0), (1, .int (nI s))]) rfl rfl (Nat.le_of_ble_eq_true rfl) dX11_worthCleaning_36 ?_
  have hleft : zv3 = (A 3 s &&& (seP A Λ s ^^^ (-1))) := ezv3
  have key : ∀ i, i ≤ 16 → ∀ (g1 : xG), fr sX g g1 → (∀ j, j < i → g1 80 j = coP A Λ s j) → xJ l (RX11, 7, (some .int), false, (xR (d + 6) 0 0), none) cX11_worthCleaning (qI n fun v g1 => v = wcP A Λ s ∧ fr sX g g1) 0 0 37 [(3, .int (nI i)), (0, .ref 0), (1, .int (nI s)), (2, .int zv3)] [] (n, fh g1) := by
    refine x_loop 16 _ ?_ ?_
    · intro g1 hf hP
      refine xj_iload_n (n := 3) (i := 3) 0 rfl rfl dX11_worthCleaning_37 ?_
      refine xj_bipush (v := 16) (by decide) dX11_worthCleaning_38 ?_
      refine xj_icmp_ge (tgt := 78) (by decide) dX11_worthCleaning_40 (fun zc40 => ?_) (fun zc40 => ?_)
      · refine xj_iconst (v := 0) (by decide) dX11_worthCleaning_78 ?_
        refine xj_istore_n (n := 3) (i := 3) (lv1 := [(3, .int 0), (0, .ref 0), (1, .int (nI s)), (2, .int zv3)]) rfl rfl (Nat.le_of_ble_eq_true rfl) dX11_worthCleaning_79 ?_
        refine xj_iconst (v := 0) (by decide) dX11_worthCleaning_80 ?_
        refine xj_istore (i := 4) (lv1 := [(4, .int 0), (3, .int 0), (0, .ref 0), (1, .int (nI s)), (2, .int zv3)]) rfl (Nat.le_of_ble_eq_true rfl) dX11_worthCleaning_81 ?_
        refine xj_iconst (v := 0) (by decide) dX11_worthCleaning_83 ?_
        refine xj_istore (i := 5) (lv1 := [(5, .int 0), (4, .int 0), (3, .int 0), (0, .ref 0), (1, .int (nI s)), (2, .int zv3)]) rfl (Nat.le_of_ble_eq_true rfl) dX11_worthCleaning_84 ?_
        have hch : ∀ x, chF (g1 80) x 16 = chF (coP A Λ s) x 16 := fun x => chF_congr x hP 16 (Nat.le_refl _)
        have key2 : ∀ i, i ≤ 16 → ∀ (zvl zvc zvs : Int32), wcF (coP A Λ s) (nI (aM A)) (16 - i) zvl zvc zvs = wcP A Λ s → xJ l (RX11, 7, (some .int), false, (xR (d + 6) 0 0), none) cX11_worthCleaning (qI n fun v g1 => v = wcP A Λ s ∧ fr sX g g1) 0 0 86 [(5, .int (nI i)), (2, .int zvl), (3, .int zvc), (4, .int zvs), (0, .ref 0), (1, .int (nI s))] [] (n, fh g1) := by
          refine x_loop 16 _ ?_ ?_
          · intro zvl zvc zvs hz
            refine xj_iload (i := 5) 0 rfl dX11_worthCleaning_86 ?_
            refine xj_bipush (v := 16) (by decide) dX11_worthCleaning_88 ?_
            refine xj_icmp_ge (tgt := 157) (by decide) dX11_worthCleaning_90 (fun zc90 => ?_) (fun zc90 => ?_)
            · refine xj_iload_n (n := 3) (i := 3) 2 rfl rfl dX11_worthCleaning_157 ?_
              exact xj_ireturn rfl (nr_i _) (Nat.zero_le _) (Nat.zero_le _) dX11_worthCleaning_158 (qI_e ⟨by rw [← hz, Nat.sub_self]; rfl, hf⟩)
            · exact absurd (nI_le (Nat.le_refl _) (by decide)) zc90
          · intro i hi ih zvl zvc zvs hz
            have hstep : wcF (coP A Λ s) (nI (aM A)) (16 - i) zvl zvc zvs = if zvl = 0 then zvc else if zvs + coP A Λ s (chF (coP A Λ s) zvl 16).1 ≤ nI (aM A) then wcF (coP A Λ s) (nI (aM A)) (16 - (i + 1)) (zvl &&& (bitF (chF (coP A Λ s) zvl 16).1 ^^^ (-1))) (zvc ||| bitF (chF (coP A Λ s) zvl 16).1) (zvs + coP A Λ s (chF (coP A Λ s) zvl 16).1) else zvc := by rw [show 16 - i = 16 - (i + 1) + 1 by omega]; rfl
            have hc16 := chF_lt (coP A Λ s) zvl 16 (Nat.le_refl _)
            refine xj_iload (i := 5) 0 rfl dX11_worthCleaning_86 ?_
            refine xj_bipush (v := 16) (by decide) dX11_worthCleaning_88 ?_
            refine xj_icmp_ge (tgt := 157) (by decide) dX11_worthCleaning_90 (fun zc90 => ?_) (fun zc90 => ?_)
            · exact absurd zc90 (nI_ge hi (by decide))
            · refine xj_iload_n (n := 2) (i := 2) 1 rfl rfl dX11_worthCleaning_93 ?_
              refine xj_if_eq (tgt := 157) (by decide) dX11_worthCleaning_94 (fun zc94 => ?_) (fun zc94 => ?_)
              · refine xj_iload_n (n := 3) (i := 3) 2 rfl rfl dX11_worthCleaning_157 ?_
                exact xj_ireturn rfl (nr_i _) (Nat.zero_le _) (Nat.zero_le _) dX11_worthCleaning_158 (qI_e ⟨by rw [← hz, hstep, if_pos zc94], hf⟩)
              · refine xj_aload_n (n := 0) (i := 0) 4 rfl rfl dX11_worthCleaning_97 ?_
                refine xj_iload_n (n := 2) (i := 2) 1 rfl rfl dX11_worthCleaning_98 ?_
                refine xj_callV kv_X11_278 (c_X11_cheapest l (d + 4) n hn g1 zvl) (As := [.int zvl]) (st := []) (by omega) (fq_0 g1) (ci := 11) rfl rfl rfl rfl (xRm_of (by omega) (by decide) (by omega) (by omega)) (Nat.le_of_ble_eq_true rfl) dX11_worthCleaning_99 (yk_p (kc := 0) (ks := 0) ?_)
                refine xj_top (show nI (chF (g1 80) zvl 16).1 = nI (chF (coP A Λ s) zvl 16).1 from by rw [hch]) ?_
                refine xj_istore (i := 6) (lv1 := [(6, .int (nI (chF (coP A Λ s) zvl 16).1)), (5, .int (nI i)), (2, .int zvl), (3, .int zvc), (4, .int zvs), (0, .ref 0), (1, .int (nI s))]) rfl (Nat.le_of_ble_eq_true rfl) dX11_worthCleaning_102 ?_
                refine xj_iload (i := 4) 4 rfl dX11_worthCleaning_104 ?_
                refine xj_aload_n (n := 0) (i := 0) 5 rfl rfl dX11_worthCleaning_106 ?_
                refine yj_getf (v := .ref 80) fl_X11_73_11 (by omega) (fq_0 g1) rfl dX11_worthCleaning_107 ?_
                refine xj_iload (i := 6) 0 rfl dX11_worthCleaning_110 ?_
                refine yj_ialdN ((chF (coP A Λ s) zvl 16).1) (by omega) fA_80 rfl (by omega) (by decide) dX11_worthCleaning_112 ?_
                refine xj_top (hP _ hc16) ?_
                refine xj_iadd dX11_worthCleaning_113 ?_
                refine xj_aload_n (n := 0) (i := 0) 5 rfl rfl dX11_worthCleaning_114 ?_
                refine yj_getf (v := .int (nI (aM A))) fl_X11_87_11 (by omega) (fq_0 g1) (congrArg (fun z => some (Value.int z)) ((C.keep O hf).M O)) dX11_worthCleaning_115 ?_
                refine xj_icmp_le (tgt := 123) (by decide) dX11_worthCleaning_118 (fun zc118 => ?_) (fun zc118 => ?_)
                · refine xj_iload (i := 4) 4 rfl dX11_worthCleaning_123 ?_
                  refine xj_aload_n (n := 0) (i := 0) 5 rfl rfl dX11_worthCleaning_125 ?_
                  refine yj_getf (v := .ref 80) fl_X11_73_11 (by omega) (fq_0 g1) rfl dX11_worthCleaning_126 ?_
                  refine xj_iload (i := 6) 0 rfl dX11_worthCleaning_129 ?_
                  refine yj_ialdN ((chF (coP A Λ s) zvl 16).1) (by omega) fA_80 rfl (by omega) (by decide) dX11_worthCleaning_131 ?_
                  refine xj_top (hP _ hc16) ?_
                  refine xj_iadd dX11_worthCleaning_132 ?_
                  refine xj_topi (fun zv4 ezv4 => ?_)
                  refine xj_istore (i := 4) (lv1 := [(4, .int zv4), (6, .int (nI (chF (coP A Λ s) zvl 16).1)), (5, .int (nI i)), (2, .int zvl), (3, .int zvc), (0, .ref 0), (1, .int (nI s))]) rfl (Nat.le_of_ble_eq_true rfl) dX11_worthCleaning_133 ?_
                  refine xj_iload_n (n := 3) (i := 3) 4 rfl rfl dX11_worthCleaning_135 ?_
                  refine xj_iconst (v := 1) (by decide) dX11_worthCleaning_136 ?_
                  refine xj_iload (i := 6) 1 rfl dX11_worthCleaning_137 ?_
                  refine xj_ishl dX11_worthCleaning_139 ?_
                  refine xj_ior dX11_worthCleaning_140 ?_
                  refine xj_topi (fun zv5 ezv5 => ?_)
                  refine xj_istore_n (n := 3) (i := 3) (lv1 := [(3, .int zv5), (4, .int zv4), (6, .int (nI (chF (coP A Λ s) zvl 16).1)), (5, .int (nI i)), (2, .int zvl), (0, .ref 0), (1, .int (nI s))]) rfl rfl (Nat.le_of_ble_eq_true rfl) dX11_worthCleaning_141 ?_
                  refine xj_iload_n (n := 2) (i := 2) 4 rfl rfl dX11_worthCleaning_142 ?_
                  refine xj_iconst (v := 1) (by decide) dX11_worthCleaning_143 ?_
                  refine xj_iload (i := 6) 2 rfl dX11_worthCleaning_144 ?_
                  refine xj_ishl dX11_worthCleaning_146 ?_
                  refine xj_iconst (v := (-1)) (by decide) dX11_worthCleaning_147 ?_
                  refine xj_ixor dX11_worthCleaning_148 ?_
                  refine xj_iand dX11_worthCleaning_149 ?_
                  refine xj_topi (fun zv6 ezv6 => ?_)
                  refine xj_istore_n (n := 2) (i := 2) (lv1 := [(2, .int zv6), (3, .int zv5), (4, .int zv4), (6, .int (nI (chF (coP A Λ s) zvl 16).1)), (5, .int (nI i)), (0, .ref 0), (1, .int (nI s))]) rfl rfl (Nat.le_of_ble_eq_true rfl) dX11_worthCleaning_150 ?_
                  refine xj_iinc (n := 1) (i := 5) (v := nI (i + 1)) (lv1 := [(5, .int (nI (i + 1))), (2, .int zv6), (3, .int zv5), (4, .int zv4), (6, .int (nI (chF (coP A Λ s) zvl 16).1)), (0, .ref 0), (1, .int (nI s))]) 4 rfl (nI_1 i) rfl (Nat.le_of_ble_eq_true rfl) dX11_worthCleaning_151 ?_
                  refine xj_goto (tgt := 86) (by decide) dX11_worthCleaning_154 ?_
                  refine xj_sub (lv' := [(5, .int (nI (i + 1))), (2, .int zv6), (3, .int zv5), (4, .int zv4), (0, .ref 0), (1, .int (nI s))]) [0, 1, 2, 3, 5, 6] rfl ?_
                  refine ih zv6 zv5 zv4 ?_
                  rw [← hz, hstep, if_neg zc94, if_pos zc118, ezv6, ezv5, ezv4]; rfl
                · refine xj_iload_n (n := 3) (i := 3) 3 rfl rfl dX11_worthCleaning_121 ?_
                  exact xj_ireturn rfl (nr_i _) (Nat.zero_le _) (Nat.zero_le _) dX11_worthCleaning_122 (qI_e ⟨by rw [← hz, hstep, if_neg zc94, if_neg zc118], hf⟩)
        refine xj_sub (lv' := [(5, .int 0), (2, .int zv3), (3, .int 0), (4, .int 0), (0, .ref 0), (1, .int (nI s))]) [0, 5, 2, 1, 3, 4] rfl ?_
        exact key2 0 (Nat.zero_le _) zv3 0 0 (by rw [hleft]; rfl)
      · exact absurd (nI_le (Nat.le_refl _) (by decide)) zc40
    · intro i hi ih g1 hf hP
      refine xj_iload_n (n := 3) (i := 3) 0 rfl rfl dX11_worthCleaning_37 ?_
      refine xj_bipush (v := 16) (by decide) dX11_worthCleaning_38 ?_
      refine xj_icmp_ge (tgt := 78) (by decide) dX11_worthCleaning_40 (fun zc40 => ?_) (fun zc40 => ?_)
      · exact absurd zc40 (nI_ge hi (by decide))
      · refine xj_aload_n (n := 0) (i := 0) 1 rfl rfl dX11_worthCleaning_43 ?_
        refine yj_getf (v := .ref 80) fl_X11_73_11 (by omega) (fq_0 g1) rfl dX11_worthCleaning_44 ?_
        refine xj_iload_n (n := 3) (i := 3) 0 rfl rfl dX11_worthCleaning_47 ?_
        refine xj_aload_n (n := 0) (i := 0) 1 rfl rfl dX11_worthCleaning_48 ?_
        refine yj_getf (v := .ref 8) fl_X11_37_11 (by omega) (fq_0 g1) rfl dX11_worthCleaning_49 ?_
        refine xj_iload_n (n := 1) (i := 1) 2 rfl rfl dX11_worthCleaning_52 ?_
        refine yj_aaldN (m := 6) (a := 9 + 3 * s) s (by omega) (fq_8 g1) (by decide) (by decide) rfl (by omega) (by decide) (if_pos (by omega)) dX11_worthCleaning_53 ?_
        refine xj_aload_n (n := 0) (i := 0) 1 rfl rfl dX11_worthCleaning_54 ?_
        refine yj_getf (v := .ref 66) fl_X11_55_11 (by omega) (fq_0 g1) rfl dX11_worthCleaning_55 ?_
        refine xj_aload_n (n := 0) (i := 0) 1 rfl rfl dX11_worthCleaning_58 ?_
        refine yj_getf (v := .int (nI (aW A))) fl_X11_93_11 (by omega) (fq_0 g1) (congrArg (fun z => some (Value.int z)) ((C.keep O hf).W O)) dX11_worthCleaning_59 ?_
        refine yj_aaldN (m := 6) (a := fTX (aW A)) (aW A) (by omega) (fq_66 g1) (by decide) (by decide) rfl (by omega) (by decide) ((C.keep O hf).tx O hW) dX11_worthCleaning_62 ?_
        refine xj_iload_n (n := 3) (i := 3) 0 rfl rfl dX11_worthCleaning_63 ?_
        refine xj_aload_n (n := 0) (i := 0) 1 rfl rfl dX11_worthCleaning_64 ?_
        refine yj_getf (v := .int (nI (aN A))) fl_X11_84_11 (by omega) (fq_0 g1) (congrArg (fun z => some (Value.int z)) ((C.keep O hf).N O)) dX11_worthCleaning_65 ?_
        refine xj_callV kv_X11_181 (c_X7_cost l (d + 2) n hn g1 (9 + 3 * s) (fTX (aW A)) (aK A s) (A 2 s) (A 3 s) (A (10 + s)) (Λ (aW A)) (fPn_r hs6_s) ((C.keep O hf).pane hs) ((C.keep O hf).txt hW) i (nI (aN A)) (by omega)) (As := [.ref (fTX (aW A)), .int (nI i), .int (nI (aN A))]) (st := [.int (nI i), .ref 80]) (by omega) ((fPn_r hs6_s).2.2.1 _) (ci := 7) rfl rfl rfl rfl (xRm_of (by omega) (by decide) (by omega) (by omega)) (Nat.le_of_ble_eq_true rfl) dX11_worthCleaning_68 (yk_i (kc := 0) (ks := 0) fun zv7 zg8 hzg8 => ?_)
        obtain ⟨hvzv7, hfzg8⟩ := hzg8
        have hxzg8 := hfzg8.mono (fX_s (t := (aW A)) hs6_s (Or.inl rfl))
        have Czg8 := (C.keep O hf).keep O hxzg8
        refine xj_top (show zv7 = coP A Λ s i from hvzv7) ?_
        refine yj_iastN i (by omega) fA_80 rfl (by omega) (by decide) dX11_worthCleaning_71 ?_
        obtain ⟨zg9, ezg9⟩ : ∃ z, z = gs zg8 80 i (coP A Λ s i) := ⟨_, rfl⟩
        rw [← ezg9]
        refine xj_iinc (n := 1) (i := 3) (v := nI (i + 1)) (lv1 := [(3, .int (nI (i + 1))), (0, .ref 0), (1, .int (nI s)), (2, .int zv3)]) 0 rfl (nI_1 i) rfl (Nat.le_of_ble_eq_true rfl) dX11_worthCleaning_72 ?_
        refine xj_goto (tgt := 37) (by decide) dX11_worthCleaning_75 ?_
        refine xj_sub (lv' := [(3, .int (nI (i + 1))), (0, .ref 0), (1, .int (nI s)), (2, .int zv3)]) [0, 1, 2, 3] rfl ?_
        have e80 : zg8 80 = g1 80 := hfzg8 80 (by have hv := fTX_v (aW A); unfold fX; omega)
        exact ih zg9 (by rw [ezg9]; exact (hf.tr hxzg8).gs (by unfold sX; omega) _ _) (fun j hj => by rw [ezg9, gs_s]; by_cases e : j = i; (subst e; exact upd_s _ _ _); (rw [upd_n _ _ e, e80]; exact hP j (by omega)))
  refine xj_sub (lv' := [(3, .int 0), (0, .ref 0), (1, .int (nI s)), (2, .int zv3)]) [0, 2, 3, 1] rfl ?_
  exact key 0 (Nat.zero_le _) zg2 hxzg2 (fun j hj => absurd hj (Nat.not_lt_zero j))
