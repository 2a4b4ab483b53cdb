def vShow (A : zSt) (Λ : Nat → xL) (s pic : Int32) : Int32 := if isSl A s then if 0 ≤ pic ∧ pic ≤ 65535 then if pic &&& (A 3 s.toNatClampNeg ^^^ (-1)) = 0 then coS A Λ s.toNatClampNeg (pic &&& (seP A Λ s.toNatClampNeg ^^^ (-1))) else -1 else -7 else -5
/-- the cheapest of the cells, the first of those alike; what it costs -/
def chF (pr : Nat → Int32) (cells : Int32) : Nat → Nat × Int32
  | 0 => (0, 1000000)
  | i + 1 => if hasF cells (nI i) = true then if pr i < (chF pr cells i).2 then (i, pr i) else chF pr cells i else chF pr cells i
theorem chF_lt (pr : Nat → Int32) (cells : Int32) : ∀ i, i ≤ 16 → (chF pr cells i).1 < 16
  | 0, _ => by show 0 < 16; omega
  | i + 1, h => by
    have ih := chF_lt pr cells i (by omega)
    unfold chF
    split
    · split
      · show i < 16; omega
      · exact ih
    · exact ih
theorem chF_congr {pr pr' : Nat → Int32} (cells : Int32) (h : ∀ c, c < 16 → pr c = pr' c) : ∀ i, i ≤ 16 → chF pr cells i = chF pr' cells i
  | 0, _ => rfl
  | i + 1, hi => by
    unfold chF
    rw [chF_congr cells h i (by omega), h i (by omega)]
/-- cells cleaned, the cheapest first, while the minutes do -/
def wcF (pr : Nat → Int32) (M : Int32) : Nat → Int32 → Int32 → Int32 → Int32
  | 0, _, ch, _ => ch
  | m + 1, left, ch, sp => if left = 0 then ch else if sp + pr (chF pr left 16).1 ≤ M then wcF pr M m (left &&& (bitF (chF pr left 16).1 ^^^ (-1))) (ch ||| bitF (chF pr left 16).1) (sp + pr (chF pr left 16).1) else ch
def wcP (A : zSt) (Λ : Nat → xL) (s : Nat) : Int32 := wcF (coP A Λ s) (nI (aM A)) 16 (A 3 s &&& (seP A Λ s ^^^ (-1))) 0 0
set_option maxHeartbeats 4000000 in
set_option maxRecDepth 100000 in
theorem c_X11_show (l : Launch) (d : Nat) (n : Nat) (g : xG) (A : zSt) (Λ : Nat → xL) (O : okA A) (C : cA g n A Λ) (s pic : Int32)  : xC l yX11_show cX11_show 4 (some .int) (xR (d + 6) 0 0) [.ref 0, .int s, .int pic] (n, fh g) (qI n fun v g1 => v = vShow A Λ s pic ∧ fr sX g g1) := by
  refine xC_of false (by decide +kernel) (fun z => by cases z) (Nat.le_of_ble_eq_true rfl) ?_
  have hn := C.n110 O
  have hS6 := O.1.2
  have hW := O.W
  have hT6 := O.2.2.2.1.2.2
  have hN9 := O.2.1.2
  show xJ l (RX11, 4, (some .int), false, (xR (d + 6) 0 0), none) cX11_show _ 0 0 0 [(0, .ref 0), (1, .int s), (2, .int pic)] [] (n, fh g)
  refine xj_aload_n (n := 0) (i := 0) 0 rfl rfl dX11_show_0 ?_
  refine xj_iload_n (n := 1) (i := 1) 1 rfl rfl dX11_show_1 ?_
  refine xj_callV kv_X11_125 (c_X11_isSleeper l (d + 4) n g A Λ O C s) (As := [.int s]) (st := []) (by omega) (fq_0 g) (ci := 11) rfl rfl rfl rfl (xRm_of (by omega) (by decide) (by omega) (by omega)) (Nat.le_of_ble_eq_true rfl) dX11_show_2 (yk_p (kc := 0) (ks := 0) ?_)
  refine xj_if_ne (tgt := 11) (by decide) dX11_show_5 (fun zc5 => ?_) (fun zc5 => ?_)
  · have zp5 : isSl A s := bI_n0.mp zc5
    obtain ⟨ks, hks, rfl⟩ := isSl_of O zp5
    have hs6_ks : ks < 6 := by omega
    refine xj_iload_n (n := 2) (i := 2) 2 rfl rfl dX11_show_11 ?_
    refine xj_ldc cn_X11_136 dX11_show_12 ?_
    refine xj_callS ks_X11_107 (c_X11_within l (d + 5) pic 65535 _) (As := [.int pic, .int 65535]) (st := []) rfl rfl (xRm_of (by omega) (by decide) (by omega) (by omega)) (Nat.le_of_ble_eq_true rfl) dX11_show_14 (yk_p (kc := 0) (ks := 0) ?_)
    refine xj_if_ne (tgt := 23) (by decide) dX11_show_17 (fun zc17 => ?_) (fun zc17 => ?_)
    · have zp17 : 0 ≤ pic ∧ pic ≤ 65535 := bI_n0.mp zc17
      obtain ⟨kpic, hkpic, rfl⟩ := nI_bnd (m := 65535) (by decide) zp17.1 zp17.2
      refine xj_iload_n (n := 2) (i := 2) 2 rfl rfl dX11_show_23 ?_
      refine xj_aload_n (n := 0) (i := 0) 0 rfl rfl dX11_show_24 ?_
      refine yj_getf (v := .ref 8) fl_X11_37_11 (by omega) (fq_0 g) rfl dX11_show_25 ?_
      refine xj_iload_n (n := 1) (i := 1) 1 rfl rfl dX11_show_28 ?_
      refine yj_aaldN (m := 6) (a := 9 + 3 * ks) ks (by omega) (fq_8 g) (by decide) (by decide) rfl (by omega) (by decide) (if_pos (by omega)) dX11_show_29 ?_
      refine yj_getf (v := .int ((A 3 ks))) fl_X11_144_7 (by omega) ((fPn_r hs6_ks).2.2.1 (g (9 + 3 * ks))) (congrArg (fun z => some (Value.int z)) (C.pane hks).2.2.1) dX11_show_30 ?_
      refine xj_iconst (v := (-1)) (by decide) dX11_show_33 ?_
      refine xj_ixor dX11_show_34 ?_
      refine xj_iand dX11_show_35 ?_
      refine xj_if_eq (tgt := 41) (by decide) dX11_show_36 (fun zc36 => ?_) (fun zc36 => ?_)
      · refine xj_iload_n (n := 2) (i := 2) 2 rfl rfl dX11_show_41 ?_
        refine xj_aload_n (n := 0) (i := 0) 0 rfl rfl dX11_show_42 ?_
        refine yj_getf (v := .ref 8) fl_X11_37_11 (by omega) (fq_0 g) rfl dX11_show_43 ?_
        refine xj_iload_n (n := 1) (i := 1) 1 rfl rfl dX11_show_46 ?_
        refine yj_aaldN (m := 6) (a := 9 + 3 * ks) ks (by omega) (fq_8 g) (by decide) (by decide) rfl (by omega) (by decide) (if_pos (by omega)) dX11_show_47 ?_
        refine xj_aload_n (n := 0) (i := 0) 0 rfl rfl dX11_show_48 ?_
        refine yj_getf (v := .ref 66) fl_X11_55_11 (by omega) (fq_0 g) rfl dX11_show_49 ?_
        refine xj_aload_n (n := 0) (i := 0) 0 rfl rfl dX11_show_52 ?_
        refine yj_getf (v := .int (nI (aW A))) fl_X11_93_11 (by omega) (fq_0 g) (congrArg (fun z => some (Value.int z)) (C.W O)) dX11_show_53 ?_
        refine yj_aaldN (m := 6) (a := fTX (aW A)) (aW A) (by omega) (fq_66 g) (by decide) (by decide) rfl (by omega) (by decide) (C.tx O hW) dX11_show_56 ?_
        refine xj_aload_n (n := 0) (i := 0) 0 rfl rfl dX11_show_57 ?_
        refine yj_getf (v := .int (nI (aN A))) fl_X11_84_11 (by omega) (fq_0 g) (congrArg (fun z => some (Value.int z)) (C.N O)) dX11_show_58 ?_
        refine xj_callV kv_X11_164 (c_X7_seenCells l (d + 0) n hn g (9 + 3 * ks) (fTX (aW A)) (aK A ks) (A 2 ks) (A 3 ks) (A (10 + ks)) (Λ (aW A)) (fPn_r hs6_ks) (C.pane hks) (C.txt hW) (nI (aN A))) (As := [.ref (fTX (aW A)), .int (nI (aN A))]) (st := [.int (nI kpic)]) (by omega) ((fPn_r hs6_ks).2.2.1 _) (ci := 7) rfl rfl rfl rfl (xRm_of (by omega) (by decide) (by omega) (by omega)) (Nat.le_of_ble_eq_true rfl) dX11_show_61 (yk_i (kc := 0) (ks := 0) fun zv1 zg2 hzg2 => ?_)
        obtain ⟨hvzv1, hfzg2⟩ := hzg2
        have hxzg2 := hfzg2.mono (fX_s (t := (aW A)) hs6_ks (Or.inl rfl))
        have Czg2 := C.keep O hxzg2
        refine xj_top (show zv1 = seP A Λ ks from hvzv1) ?_
        refine xj_iconst (v := (-1)) (by decide) dX11_show_64 ?_
        refine xj_ixor dX11_show_65 ?_
        refine xj_iand dX11_show_66 ?_
        refine xj_topi (fun zv3 ezv3 => ?_)
        refine xj_istore_n (n := 3) (i := 3) (lv1 := [(3, .int zv3), (0, .ref 0), (1, .int (nI ks)), (2, .int (nI kpic))]) rfl rfl (Nat.le_of_ble_eq_true rfl) dX11_show_67 ?_
        refine xj_aload_n (n := 0) (i := 0) 1 rfl rfl dX11_show_68 ?_
        refine yj_getf (v := .ref 8) fl_X11_37_11 (by omega) (fq_0 zg2) rfl dX11_show_69 ?_
        refine xj_iload_n (n := 1) (i := 1) 2 rfl rfl dX11_show_72 ?_
        refine yj_aaldN (m := 6) (a := 9 + 3 * ks) ks (by omega) (fq_8 zg2) (by decide) (by decide) rfl (by omega) (by decide) (if_pos (by omega)) dX11_show_73 ?_
        refine xj_aload_n (n := 0) (i := 0) 1 rfl rfl dX11_show_74 ?_
        refine yj_getf (v := .ref 66) fl_X11_55_11 (by omega) (fq_0 zg2) rfl dX11_show_75 ?_
        refine xj_aload_n (n := 0) (i := 0) 1 rfl rfl dX11_show_78 ?_
        refine yj_getf (v := .int (nI (aW A))) fl_X11_93_11 (by omega) (fq_0 zg2) (congrArg (fun z => some (Value.int z)) (Czg2.W O)) dX11_show_79 ?_
        refine yj_aaldN (m := 6) (a := fTX (aW A)) (aW A) (by omega) (fq_66 zg2) (by decide) (by decide) rfl (by omega) (by decide) (Czg2.tx O hW) dX11_show_82 ?_
        refine xj_iload_n (n := 3) (i := 3) 0 rfl rfl dX11_show_83 ?_
        refine xj_aload_n (n := 0) (i := 0) 1 rfl rfl dX11_show_84 ?_
        refine yj_getf (v := .int (nI (aN A))) fl_X11_84_11 (by omega) (fq_0 zg2) (congrArg (fun z => some (Value.int z)) (Czg2.N O)) dX11_show_85 ?_
        refine xj_callV kv_X11_173 (c_X7_costOf l (d + 1) n hn zg2 (9 + 3 * ks) (fTX (aW A)) (aK A ks) (A 2 ks) (A 3 ks) (A (10 + ks)) (Λ (aW A)) (fPn_r hs6_ks) (Czg2.pane hks) (Czg2.txt hW) zv3 (nI (aN A))) (As := [.ref (fTX (aW A)), .int zv3, .int (nI (aN A))]) (st := []) (by omega) ((fPn_r hs6_ks).2.2.1 _) (ci := 7) rfl rfl rfl rfl (xRm_of (by omega) (by decide) (by omega) (by omega)) (Nat.le_of_ble_eq_true rfl) dX11_show_88 (yk_i (kc := 0) (ks := 0) fun zv4 zg5 hzg5 => ?_)
        obtain ⟨hvzv4, hfzg5⟩ := hzg5
        have hxzg5 := hfzg5.mono (fX_s (t := (aW A)) hs6_ks (Or.inl rfl))
        have Czg5 := Czg2.keep O hxzg5
        exact xj_ireturn rfl (nr_i _) (Nat.zero_le _) (Nat.zero_le _) dX11_show_91 (qI_e ⟨by unfold vShow; (try simp only [nI_clamp (show ks < 2147483648 by omega), nI_clamp (show kpic < 2147483648 by omega)]); rw [if_pos zp5, if_pos zp17, if_pos zc36]; all_goals (rw [hvzv4, ezv3]; rfl), (hxzg2.tr hxzg5)⟩)
      · refine xj_iconst (v := (-1)) (by decide) dX11_show_39 ?_
        exact xj_ireturn rfl (nr_i _) (Nat.zero_le _) (Nat.zero_le _) dX11_show_40 (qI_e ⟨by unfold vShow; (try simp only [nI_clamp (show ks < 2147483648 by omega), nI_clamp (show kpic < 2147483648 by omega)]); rw [if_pos zp5, if_pos zp17, if_neg zc36]; all_goals (rfl), fr.rf⟩)
    · have zp17 : ¬ (0 ≤ pic ∧ pic ≤ 65535) := bI_0.mp zc17
      refine xj_bipush (v := (-7)) (by decide) dX11_show_20 ?_
      exact xj_ireturn rfl (nr_i _) (Nat.zero_le _) (Nat.zero_le _) dX11_show_22 (qI_e ⟨by unfold vShow; (try simp only [nI_clamp (show ks < 2147483648 by omega)]); rw [if_pos zp5, if_neg zp17]; all_goals (rfl), fr.rf⟩)
  · have zp5 : ¬ (isSl A s) := bI_0.mp zc5
    refine xj_bipush (v := (-5)) (by decide) dX11_show_8 ?_
    exact xj_ireturn rfl (nr_i _) (Nat.zero_le _) (Nat.zero_le _) dX11_show_10 (qI_e ⟨by unfold vShow; rw [if_neg zp5]; all_goals (rfl), fr.rf⟩)
set_option maxHeartbeats 4000000 in
set_option maxRecDepth 100000 in
theorem c_X11_cheapest (l : Launch) (d : Nat) (n : Nat) (hn : 110 ≤ n) (g : xG) (cells : Int32)  : xC l yX11_cheapest cX11_cheapest 5 (some .int) (xR (d + 1) 0 0) [.ref 0, .int cells] (n, fh g) (qP (nI (chF (g 80) cells 16).1) (n, fh g)) := by
  refine xC_of false (by decide +kernel) (fun z => by cases z) (Nat.le_of_ble_eq_true rfl) ?_
  show xJ l (RX11, 5, (some .int), false, (xR (d + 1) 0 0), none) cX11_cheapest _ 0 0 0 [(0, .ref 0), (1, .int cells)] [] (n, fh g)
  refine xj_iconst (v := 0) (by decide) dX11_cheapest_0 ?_
  refine xj_istore_n (n := 2) (i := 2) (lv1 := [(2, .int 0), (0, .ref 0), (1, .int cells)]) rfl rfl (Nat.le_of_ble_eq_true rfl) dX11_cheapest_1 ?_
  refine xj_ldc cn_X11_197 dX11_cheapest_2 ?_
  refine xj_istore_n (n := 3) (i := 3) (lv1 := [(3, .int 1000000), (2, .int 0), (0, .ref 0), (1, .int cells)]) rfl rfl (Nat.le_of_ble_eq_true rfl) dX11_cheapest_4 ?_
  refine xj_iconst (v := 0) (by decide) dX11_cheapest_5 ?_
  refine xj_istore (i := 4) (lv1 := [(4, .int 0), (3, .int 1000000), (2, .int 0), (0, .ref 0), (1, .int cells)]) rfl (Nat.le_of_ble_eq_true rfl) dX11_cheapest_6 ?_
  have key : ∀ i, i ≤ 16 → ∀ (_ : True), xJ l (RX11, 5, (some .int), false, (xR (d + 1) 0 0), none) cX11_cheapest (qP (nI (chF (g 80) cells 16).1) (n, fh g)) 0 0 8 [(4, .int (nI i)), (2, .int (nI (chF (g 80) cells i).1)), (3, .int ((chF (g 80) cells i).2)), (0, .ref 0), (1, .int cells)] [] (n, fh g) := by
    refine x_loop 16 _ ?_ ?_
    · intro _
      refine xj_iload (i := 4) 0 rfl dX11_cheapest_8 ?_
      refine xj_bipush (v := 16) (by decide) dX11_cheapest_10 ?_
      refine xj_icmp_ge (tgt := 52) (by decide) dX11_cheapest_12 (fun zc12 => ?_) (fun zc12 => ?_)
      · refine xj_iload_n (n := 2) (i := 2) 1 rfl rfl dX11_cheapest_52 ?_
        exact xj_ireturn rfl (nr_i _) (Nat.zero_le _) (Nat.zero_le _) dX11_cheapest_53 (qP_e rfl)
      · exact absurd (nI_le (Nat.le_refl _) (by decide)) zc12
    · intro i hi ih _
      refine xj_iload (i := 4) 0 rfl dX11_cheapest_8 ?_
      refine xj_bipush (v := 16) (by decide) dX11_cheapest_10 ?_
      refine xj_icmp_ge (tgt := 52) (by decide) dX11_cheapest_12 (fun zc12 => ?_) (fun zc12 => ?_)
      · exact absurd zc12 (nI_ge hi (by decide))
      · refine xj_iload_n (n := 1) (i := 1) 4 rfl rfl dX11_cheapest_15 ?_
        refine xj_iload (i := 4) 0 rfl dX11_cheapest_16 ?_
        refine xj_callS ks_X11_281 (c_X11_has l (d + 0) cells (nI i) _) (As := [.int cells, .int (nI i)]) (st := []) rfl rfl (xRm_of (by omega) (by decide) (by omega) (by omega)) (Nat.le_of_ble_eq_true rfl) dX11_cheapest_18 (yk_p (kc := 0) (ks := 0) ?_)
        refine xj_if_eq (tgt := 46) (by decide) dX11_cheapest_21 (fun zc21 => ?_) (fun zc21 => ?_)
        · have hh : ¬ hasF cells (nI i) = true := bI_0.mp zc21
          refine xj_iinc (n := 1) (i := 4) (v := nI (i + 1)) (lv1 := [(4, .int (nI (i + 1))), (2, .int (nI (chF (g 80) cells i).1)), (3, .int ((chF (g 80) cells i).2)), (0, .ref 0), (1, .int cells)]) 0 rfl (nI_1 i) rfl (Nat.le_of_ble_eq_true rfl) dX11_cheapest_46 ?_
          refine xj_goto (tgt := 8) (by decide) dX11_cheapest_49 ?_
          refine xj_sub (lv' := [(4, .int (nI (i + 1))), (2, .int (nI (chF (g 80) cells i).1)), (3, .int ((chF (g 80) cells i).2)), (0, .ref 0), (1, .int cells)]) [0, 1, 2, 3, 4] rfl ?_
          have h9 := ih True.intro
          rw [show chF (g 80) cells (i + 1) = _ from if_neg hh] at h9
          exact h9
        · have hh : hasF cells (nI i) = true := bI_n0.mp zc21
          refine xj_aload_n (n := 0) (i := 0) 3 rfl rfl dX11_cheapest_24 ?_
          refine yj_getf (v := .ref 80) fl_X11_73_11 (by omega) (fq_0 g) rfl dX11_cheapest_25 ?_
          refine xj_iload (i := 4) 0 rfl dX11_cheapest_28 ?_
          refine yj_ialdN i (by omega) fA_80 rfl (by omega) (by decide) dX11_cheapest_30 ?_
          refine xj_iload_n (n := 3) (i := 3) 2 rfl rfl dX11_cheapest_31 ?_
          refine xj_icmp_ge (tgt := 46) (by decide) dX11_cheapest_32 (fun zc32 => ?_) (fun zc32 => ?_)
          · refine xj_iinc (n := 1) (i := 4) (v := nI (i + 1)) (lv1 := [(4, .int (nI (i + 1))), (2, .int (nI (chF (g 80) cells i).1)), (3, .int ((chF (g 80) cells i).2)), (0, .ref 0), (1, .int cells)]) 0 rfl (nI_1 i) rfl (Nat.le_of_ble_eq_true rfl) dX11_cheapest_46 ?_
            refine xj_goto (tgt := 8) (by decide) dX11_cheapest_49 ?_
            refine xj_sub (lv' := [(4, .int (nI (i + 1))), (2, .int (nI (chF (g 80) cells i).1)), (3, .int ((chF (g 80) cells i).2)), (0, .ref 0), (1, .int cells)]) [0, 1, 2, 3, 4] rfl ?_
            have h9 := ih True.intro
            rw [show chF (g 80) cells (i + 1) = _ from (if_pos hh).trans (if_neg (fun z => by have z1 := (i32_lt _ _).mp z; have z2 := (i32_le _ _).mp zc32; omega))] at h9
            exact h9
          · have hl9 : g 80 i < (chF (g 80) cells i).2 := (i32_lt _ _).mpr (Int.lt_of_not_ge (fun z => zc32 ((i32_le _ _).mpr z)))
            refine xj_iload (i := 4) 0 rfl dX11_cheapest_35 ?_
            refine xj_istore_n (n := 2) (i := 2) (lv1 := [(2, .int (nI i)), (4, .int (nI i)), (3, .int ((chF (g 80) cells i).2)), (0, .ref 0), (1, .int cells)]) rfl rfl (Nat.le_of_ble_eq_true rfl) dX11_cheapest_37 ?_
            refine xj_aload_n (n := 0) (i := 0) 3 rfl rfl dX11_cheapest_38 ?_
            refine yj_getf (v := .ref 80) fl_X11_73_11 (by omega) (fq_0 g) rfl dX11_cheapest_39 ?_
            refine xj_iload (i := 4) 1 rfl dX11_cheapest_42 ?_
            refine yj_ialdN i (by omega) fA_80 rfl (by omega) (by decide) dX11_cheapest_44 ?_
            refine xj_topi (fun zv1 ezv1 => ?_)
            refine xj_istore_n (n := 3) (i := 3) (lv1 := [(3, .int zv1), (2, .int (nI i)), (4, .int (nI i)), (0, .ref 0), (1, .int cells)]) rfl rfl (Nat.le_of_ble_eq_true rfl) dX11_cheapest_45 ?_
            refine xj_iinc (n := 1) (i := 4) (v := nI (i + 1)) (lv1 := [(4, .int (nI (i + 1))), (3, .int zv1), (2, .int (nI i)), (0, .ref 0), (1, .int cells)]) 2 rfl (nI_1 i) rfl (Nat.le_of_ble_eq_true rfl) dX11_cheapest_46 ?_
            refine xj_goto (tgt := 8) (by decide) dX11_cheapest_49 ?_
            refine xj_sub (lv' := [(4, .int (nI (i + 1))), (2, .int (nI i)), (3, .int zv1), (0, .ref 0), (1, .int cells)]) [0, 2, 1, 3, 4] rfl ?_
            have h9 := ih True.intro
            rw [show chF (g 80) cells (i + 1) = _ from (if_pos hh).trans (if_pos hl9)] at h9
            rw [ezv1]
            exact h9
  refine xj_sub (lv' := [(4, .int 0), (2, .int 0), (3, .int 1000000), (0, .ref 0), (1, .int cells)]) [0, 2, 1, 3, 4] rfl ?_
  exact key 0 (Nat.zero_le _) True.intro
