theorem lbF_congr {ls ls' : Nat → Int32} {c : Nat} (hc : c < 16) (h : ∀ j, j < 16 → ls j = ls' j) : lbF ls c = lbF ls' c := by
  have h1 := h (c - 1) (by omega)
  have h3 := h (c - 4) (by omega)
  by_cases a : c % 4 < 3
  · have h2 := h (c + 1) (by omega)
    by_cases b : c / 4 < 3
    · have h4 := h (c + 4) (by omega)
      simp only [lbF, if_pos a, if_pos b, h1, h2, h3, h4]
    · simp only [lbF, if_pos a, if_neg b, h1, h2, h3]
  · by_cases b : c / 4 < 3
    · have h4 := h (c + 4) (by omega)
      simp only [lbF, if_neg a, if_pos b, h1, h3, h4]
    · simp only [lbF, if_neg a, if_neg b, h1, h3]
def wyR (pr : Nat → Int32) (ls : Nat → Int32) : Nat → Nat → Int32
  | 0 => ls
  | c + 1 => upd (wyR pr ls c) c (mnF (wyR pr ls c c) (lbF (wyR pr ls c) c + pr c))
def wyN (pr : Nat → Int32) (ls : Nat → Int32) : Nat → Nat → Int32
  | 0 => ls
  | r + 1 => wyR pr (wyN pr ls r) 16
theorem wyR_s (pr ls : Nat → Int32) (c : Nat) : wyR pr ls (c + 1) = upd (wyR pr ls c) c (mnF (wyR pr ls c c) (lbF (wyR pr ls c) c + pr c)) := rfl
theorem wyN_s (pr ls : Nat → Int32) (r : Nat) : wyN pr ls (r + 1) = wyR pr (wyN pr ls r) 16 := rfl
def wy0 (pr : Nat → Int32) (a : Nat) : Nat → Int32 := upd (fun _ => 1000000) a (pr a)
def vWay (A : zSt) (Λ : Nat → xL) (s w : Int32) : Int32 := if isSl A s then if w < 0 then -7 else if 0 ≤ nI (w.toNatClampNeg / 100) ∧ nI (w.toNatClampNeg / 100) ≤ 15 then if 0 ≤ nI (w.toNatClampNeg % 100) ∧ nI (w.toNatClampNeg % 100) ≤ 15 then wyN (coP A Λ s.toNatClampNeg) (wy0 (coP A Λ s.toNatClampNeg) (w.toNatClampNeg / 100)) 16 (w.toNatClampNeg % 100) else -7 else -7 else -5
theorem pk_r100 {k : Nat} (h : k < 2 ^ 31) : nI k - nI k / 100 * 100 = nI (k % 100) := pk_rem (a := k) (d := 100) h (by omega) (by omega)
theorem pk_d100 {k : Nat} (h : k < 2 ^ 31) : nI k / 100 = nI (k / 100) := pk_div (a := k) (d := 100) h (by omega) (by omega)
set_option maxHeartbeats 4000000 in
set_option maxRecDepth 100000 in
theorem c_X11_way (l : Launch) (d : Nat) (n : Nat) (g : xG) (A : zSt) (Λ : Nat → xL) (O : okA A) (C : cA g n A Λ) (s w : Int32)  : xC l yX11_way cX11_way 5 (some .int) (xR (d + 5) 0 0) [.ref 0, .int s, .int w] (n, fh g) (qI n fun v g1 => v = vWay A Λ s w ∧ fr sX g g1) := by
  refine xC_of false (by decide +kernel) (fun z => by cases z) (Nat.le_of_ble_eq_true rfl) ?_
  have hn := C.n110 O
  have hS6 := O.1.2
  have hW := O.W
  have hT6 := O.2.2.2.1.2.2
  have hN9 := O.2.1.2
  show xJ l (RX11, 5, (some .int), false, (xR (d + 5) 0 0), none) cX11_way _ 0 0 0 [(0, .ref 0), (1, .int s), (2, .int w)] [] (n, fh g)
  refine xj_aload_n (n := 0) (i := 0) 0 rfl rfl dX11_way_0 ?_
  refine xj_iload_n (n := 1) (i := 1) 1 rfl rfl dX11_way_1 ?_
  refine xj_callV kv_X11_125 (c_X11_isSleeper l (d + 3) n g A Λ O C s) (As := [.int s]) (st := []) (by omega) (fq_0 g) (ci := 11) rfl rfl rfl rfl (xRm_of (by omega) (by decide) (by omega) (by omega)) (Nat.le_of_ble_eq_true rfl) dX11_way_2 (yk_p (kc := 0) (ks := 0) ?_)
  refine xj_if_ne (tgt := 11) (by decide) dX11_way_5 (fun zc5 => ?_) (fun zc5 => ?_)
  · have zp5 : isSl A s := bI_n0.mp zc5
    obtain ⟨ks, hks, rfl⟩ := isSl_of O zp5
    have hs6_ks : ks < 6 := by omega
    refine xj_iload_n (n := 2) (i := 2) 2 rfl rfl dX11_way_11 ?_
    refine xj_if_lt (tgt := 35) (by decide) dX11_way_12 (fun zc12 => ?_) (fun zc12 => ?_)
    · refine xj_bipush (v := (-7)) (by decide) dX11_way_35 ?_
      exact xj_ireturn rfl (nr_i _) (Nat.zero_le _) (Nat.zero_le _) dX11_way_37 (qI_e ⟨by unfold vWay; (try simp only [nI_clamp (show ks < 2147483648 by omega)]); rw [if_pos zp5, if_pos zc12]; all_goals (rfl), fr.rf⟩)
    · obtain ⟨kw, hkw, rfl⟩ := nI_of zc12
      have hd9 : nI kw / 100 = nI (kw / 100) := pk_d100 hkw
      have hr9 : nI kw - nI kw / 100 * 100 = nI (kw % 100) := pk_r100 hkw
      refine xj_iload_n (n := 2) (i := 2) 2 rfl rfl dX11_way_15 ?_
      refine xj_bipush (v := 100) (by decide) dX11_way_16 ?_
      refine xj_idiv (by decide) dX11_way_18 ?_
      refine xj_top (show ((nI kw) / 100) = nI (kw / 100) from hd9) ?_
      refine xj_callS ks_X11_129 (c_X11_isCell l (d + 3) (nI (kw / 100)) _) (As := [.int (nI (kw / 100))]) (st := []) rfl rfl (xRm_of (by omega) (by decide) (by omega) (by omega)) (Nat.le_of_ble_eq_true rfl) dX11_way_19 (yk_p (kc := 0) (ks := 0) ?_)
      refine xj_if_eq (tgt := 35) (by decide) dX11_way_22 (fun zc22 => ?_) (fun zc22 => ?_)
      · have zp22 : ¬ (0 ≤ (nI (kw / 100)) ∧ (nI (kw / 100)) ≤ 15) := bI_0.mp zc22
        refine xj_bipush (v := (-7)) (by decide) dX11_way_35 ?_
        exact xj_ireturn rfl (nr_i _) (Nat.zero_le _) (Nat.zero_le _) dX11_way_37 (qI_e ⟨by unfold vWay; (try simp only [nI_clamp (show ks < 2147483648 by omega), nI_clamp (show kw < 2147483648 by omega)]); rw [if_pos zp5, if_neg zc12, if_neg zp22]; all_goals (rfl), fr.rf⟩)
      · have zp22 : 0 ≤ (nI (kw / 100)) ∧ (nI (kw / 100)) ≤ 15 := bI_n0.mp zc22
        have h1622 : kw / 100 < 16 := by have h := (nI_leI (b := 15) (by omega) (by decide)).mp zp22.2; omega
        refine xj_iload_n (n := 2) (i := 2) 2 rfl rfl dX11_way_25 ?_
        refine xj_bipush (v := 100) (by decide) dX11_way_26 ?_
        refine xj_irem (by decide) dX11_way_28 ?_
        refine xj_top (show ((nI kw) - (nI kw) / 100 * 100) = nI (kw % 100) from hr9) ?_
        refine xj_callS ks_X11_129 (c_X11_isCell l (d + 3) (nI (kw % 100)) _) (As := [.int (nI (kw % 100))]) (st := []) rfl rfl (xRm_of (by omega) (by decide) (by omega) (by omega)) (Nat.le_of_ble_eq_true rfl) dX11_way_29 (yk_p (kc := 0) (ks := 0) ?_)
        refine xj_if_ne (tgt := 38) (by decide) dX11_way_32 (fun zc32 => ?_) (fun zc32 => ?_)
        · have zp32 : 0 ≤ (nI (kw % 100)) ∧ (nI (kw % 100)) ≤ 15 := bI_n0.mp zc32
          have h1632 : kw % 100 < 16 := by have h := (nI_leI (b := 15) (by omega) (by decide)).mp zp32.2; omega
          refine xj_iconst (v := 0) (by decide) dX11_way_38 ?_
          refine xj_istore_n (n := 3) (i := 3) (lv1 := [(3, .int 0), (0, .ref 0), (1, .int (nI ks)), (2, .int (nI kw))]) rfl rfl (Nat.le_of_ble_eq_true rfl) dX11_way_39 ?_
          have key : ∀ i, i ≤ 16 → ∀ (g1 : xG), fr sX g g1 → (∀ j, j < i → g1 80 j = coP A Λ ks j ∧ g1 81 j = 1000000) → xJ l (RX11, 5, (some .int), false, (xR (d + 5) 0 0), none) cX11_way (qI n fun v g1 => v = vWay A Λ (nI ks) (nI kw) ∧ fr sX g g1) 0 0 40 [(3, .int (nI i)), (0, .ref 0), (1, .int (nI ks)), (2, .int (nI kw))] [] (n, fh g1) := by
            refine x_loop 16 _ ?_ ?_
            · intro g1 hf hP
              refine xj_iload_n (n := 3) (i := 3) 0 rfl rfl dX11_way_40 ?_
              refine xj_bipush (v := 16) (by decide) dX11_way_41 ?_
              refine xj_icmp_ge (tgt := 89) (by decide) dX11_way_43 (fun zc43 => ?_) (fun zc43 => ?_)
              · refine xj_aload_n (n := 0) (i := 0) 1 rfl rfl dX11_way_89 ?_
                refine yj_getf (v := .ref 81) fl_X11_77_11 (by omega) (fq_0 g1) rfl dX11_way_90 ?_
                refine xj_iload_n (n := 2) (i := 2) 3 rfl rfl dX11_way_93 ?_
                refine xj_bipush (v := 100) (by decide) dX11_way_94 ?_
                refine xj_idiv (by decide) dX11_way_96 ?_
                refine xj_top (show ((nI kw) / 100) = nI (kw / 100) from hd9) ?_
                refine xj_aload_n (n := 0) (i := 0) 1 rfl rfl dX11_way_97 ?_
                refine yj_getf (v := .ref 80) fl_X11_73_11 (by omega) (fq_0 g1) rfl dX11_way_98 ?_
                refine xj_iload_n (n := 2) (i := 2) 3 rfl rfl dX11_way_101 ?_
                refine xj_bipush (v := 100) (by decide) dX11_way_102 ?_
                refine xj_idiv (by decide) dX11_way_104 ?_
                refine xj_top (show ((nI kw) / 100) = nI (kw / 100) from hd9) ?_
                refine yj_ialdN (kw / 100) (by omega) fA_80 rfl (by omega) (by decide) dX11_way_105 ?_
                refine xj_top (hP _ (by omega)).1 ?_
                refine xj_topi (fun zv1 ezv1 => ?_)
                refine yj_iastN (kw / 100) (by omega) fA_81 rfl (by omega) (by decide) dX11_way_106 ?_
                obtain ⟨zg2, ezg2⟩ : ∃ z, z = gs g1 81 (kw / 100) zv1 := ⟨_, rfl⟩
                rw [← ezg2]
                refine xj_iconst (v := 0) (by decide) dX11_way_107 ?_
                refine xj_istore_n (n := 3) (i := 3) (lv1 := [(3, .int 0), (0, .ref 0), (1, .int (nI ks)), (2, .int (nI kw))]) rfl rfl (Nat.le_of_ble_eq_true rfl) dX11_way_108 ?_
                have key2 : ∀ i, i ≤ 16 → ∀ (g1 : xG), fr sX g g1 → (∀ m, m < 16 → g1 80 m = coP A Λ ks m) → (∀ m, m < 16 → g1 81 m = wyN (coP A Λ ks) (wy0 (coP A Λ ks) (kw / 100)) i m) → xJ l (RX11, 5, (some .int), false, (xR (d + 5) 0 0), none) cX11_way (qI n fun v g1 => v = vWay A Λ (nI ks) (nI kw) ∧ fr sX g g1) 0 0 109 [(3, .int (nI i)), (0, .ref 0), (1, .int (nI ks)), (2, .int (nI kw))] [] (n, fh g1) := by
                  refine x_loop 16 _ ?_ ?_
                  · intro g1 hf h80 hw
                    refine xj_iload_n (n := 3) (i := 3) 0 rfl rfl dX11_way_109 ?_
                    refine xj_bipush (v := 16) (by decide) dX11_way_110 ?_
                    refine xj_icmp_ge (tgt := 168) (by decide) dX11_way_112 (fun zc112 => ?_) (fun zc112 => ?_)
                    · refine xj_aload_n (n := 0) (i := 0) 1 rfl rfl dX11_way_168 ?_
                      refine yj_getf (v := .ref 81) fl_X11_77_11 (by omega) (fq_0 g1) rfl dX11_way_169 ?_
                      refine xj_iload_n (n := 2) (i := 2) 3 rfl rfl dX11_way_172 ?_
                      refine xj_bipush (v := 100) (by decide) dX11_way_173 ?_
                      refine xj_irem (by decide) dX11_way_175 ?_
                      refine xj_top (show ((nI kw) - (nI kw) / 100 * 100) = nI (kw % 100) from hr9) ?_
                      refine yj_ialdN (kw % 100) (by omega) fA_81 rfl (by omega) (by decide) dX11_way_176 ?_
                      refine xj_top (hw _ (by omega)) ?_
                      exact xj_ireturn rfl (nr_i _) (Nat.zero_le _) (Nat.zero_le _) dX11_way_177 (qI_e ⟨by unfold vWay; (try simp only [nI_clamp (show ks < 2147483648 by omega), nI_clamp (show kw < 2147483648 by omega)]); rw [if_pos zp5, if_neg zc12, if_pos zp22, if_pos zp32]; all_goals (rfl), hf⟩)
                    · exact absurd (nI_le (Nat.le_refl _) (by decide)) zc112
                  · intro i hi ih g1 hf h80 hw
                    refine xj_iload_n (n := 3) (i := 3) 0 rfl rfl dX11_way_109 ?_
                    refine xj_bipush (v := 16) (by decide) dX11_way_110 ?_
                    refine xj_icmp_ge (tgt := 168) (by decide) dX11_way_112 (fun zc112 => ?_) (fun zc112 => ?_)
                    · exact absurd zc112 (nI_ge hi (by decide))
                    · refine xj_iconst (v := 0) (by decide) dX11_way_115 ?_
                      refine xj_istore (i := 4) (lv1 := [(4, .int 0), (3, .int (nI i)), (0, .ref 0), (1, .int (nI ks)), (2, .int (nI kw))]) rfl (Nat.le_of_ble_eq_true rfl) dX11_way_116 ?_
                      have key3 : ∀ j, j ≤ 16 → ∀ (g1 : xG), fr sX g g1 → (∀ m, m < 16 → g1 80 m = coP A Λ ks m) → (∀ m, m < 16 → g1 81 m = wyR (coP A Λ ks) (wyN (coP A Λ ks) (wy0 (coP A Λ ks) (kw / 100)) i) j m) → xJ l (RX11, 5, (some .int), false, (xR (d + 5) 0 0), none) cX11_way (qI n fun v g1 => v = vWay A Λ (nI ks) (nI kw) ∧ fr sX g g1) 0 0 118 [(4, .int (nI j)), (3, .int (nI i)), (0, .ref 0), (1, .int (nI ks)), (2, .int (nI kw))] [] (n, fh g1) := by
                        refine x_loop 16 _ ?_ ?_
                        · intro g1 hf h80 hw
                          refine xj_iload (i := 4) 0 rfl dX11_way_118 ?_
                          refine xj_bipush (v := 16) (by decide) dX11_way_120 ?_
                          refine xj_icmp_ge (tgt := 162) (by decide) dX11_way_122 (fun zc122 => ?_) (fun zc122 => ?_)
                          · refine xj_iinc (n := 1) (i := 3) (v := nI (i + 1)) (lv1 := [(3, .int (nI (i + 1))), (4, .int (nI 16)), (0, .ref 0), (1, .int (nI ks)), (2, .int (nI kw))]) 1 rfl (nI_1 i) rfl (Nat.le_of_ble_eq_true rfl) dX11_way_162 ?_
                            refine xj_goto (tgt := 109) (by decide) dX11_way_165 ?_
                            refine xj_sub (lv' := [(3, .int (nI (i + 1))), (0, .ref 0), (1, .int (nI ks)), (2, .int (nI kw))]) [0, 2, 3, 4] rfl ?_
                            exact ih g1 hf h80 (by rw [wyN_s]; exact hw)
                          · exact absurd (nI_le (Nat.le_refl _) (by decide)) zc122
                        · intro j hi ih g1 hf h80 hw
                          refine xj_iload (i := 4) 0 rfl dX11_way_118 ?_
                          refine xj_bipush (v := 16) (by decide) dX11_way_120 ?_
                          refine xj_icmp_ge (tgt := 162) (by decide) dX11_way_122 (fun zc122 => ?_) (fun zc122 => ?_)
                          · exact absurd zc122 (nI_ge hi (by decide))
                          · refine xj_aload_n (n := 0) (i := 0) 2 rfl rfl dX11_way_125 ?_
                            refine yj_getf (v := .ref 81) fl_X11_77_11 (by omega) (fq_0 g1) rfl dX11_way_126 ?_
                            refine xj_iload (i := 4) 0 rfl dX11_way_129 ?_
                            refine xj_aload_n (n := 0) (i := 0) 2 rfl rfl dX11_way_131 ?_
                            refine yj_getf (v := .ref 81) fl_X11_77_11 (by omega) (fq_0 g1) rfl dX11_way_132 ?_
                            refine xj_iload (i := 4) 0 rfl dX11_way_135 ?_
                            refine yj_ialdN j (by omega) fA_81 rfl (by omega) (by decide) dX11_way_137 ?_
                            refine xj_top (hw _ (by omega)) ?_
                            refine xj_aload_n (n := 0) (i := 0) 2 rfl rfl dX11_way_138 ?_
                            refine xj_iload (i := 4) 0 rfl dX11_way_139 ?_
                            refine xj_callV kv_X11_198 (c_X11_leastBeside l (d + 3) n hn g1 j hi) (As := [.int (nI j)]) (st := [.int (wyR (coP A Λ ks) (wyN (coP A Λ ks) (wy0 (coP A Λ ks) (kw / 100)) i) j j), .int (nI j), .ref 81]) (by omega) (fq_0 g1) (ci := 11) rfl rfl rfl rfl (xRm_of (by omega) (by decide) (by omega) (by omega)) (Nat.le_of_ble_eq_true rfl) dX11_way_141 (yk_p (kc := 0) (ks := 0) ?_)
                            refine xj_top (show (lbF (g1 81) j) = lbF (wyR (coP A Λ ks) (wyN (coP A Λ ks) (wy0 (coP A Λ ks) (kw / 100)) i) j) j from (lbF_congr hi hw)) ?_
                            refine xj_aload_n (n := 0) (i := 0) 2 rfl rfl dX11_way_144 ?_
                            refine yj_getf (v := .ref 80) fl_X11_73_11 (by omega) (fq_0 g1) rfl dX11_way_145 ?_
                            refine xj_iload (i := 4) 0 rfl dX11_way_148 ?_
                            refine yj_ialdN j (by omega) fA_80 rfl (by omega) (by decide) dX11_way_150 ?_
                            refine xj_top (h80 _ (by omega)) ?_
                            refine xj_iadd dX11_way_151 ?_
                            refine xj_mmin xw686 xw460 xw74 xw461 (Nat.le_of_ble_eq_true rfl) ⟨by show 1 ≤ _; simp only [xR]; omega, by show 21 ≤ _; simp only [xR]; omega, by show _ ≤ _; simp only [xR]; omega, by show _ ≤ _; simp only [xR]; omega⟩ dX11_way_152 ?_
                            refine xj_topi (fun zv3 ezv3 => ?_)
                            refine yj_iastN j (by omega) fA_81 rfl (by omega) (by decide) dX11_way_155 ?_
                            obtain ⟨zg4, ezg4⟩ : ∃ z, z = gs g1 81 j zv3 := ⟨_, rfl⟩
                            rw [← ezg4]
                            refine xj_iinc (n := 1) (i := 4) (v := nI (j + 1)) (lv1 := [(4, .int (nI (j + 1))), (3, .int (nI i)), (0, .ref 0), (1, .int (nI ks)), (2, .int (nI kw))]) 0 rfl (nI_1 j) rfl (Nat.le_of_ble_eq_true rfl) dX11_way_156 ?_
                            refine xj_goto (tgt := 118) (by decide) dX11_way_159 ?_
                            refine xj_sub (lv' := [(4, .int (nI (j + 1))), (3, .int (nI i)), (0, .ref 0), (1, .int (nI ks)), (2, .int (nI kw))]) [0, 1, 2, 3, 4] rfl ?_
                            refine ih zg4 (by rw [ezg4]; exact hf.gs (by unfold sX; omega) _ _) (fun k hk => by rw [ezg4, gs_n _ _ _ (by decide)]; exact h80 k hk) (fun k hk => ?_)
                            rw [ezg4, gs_s, ezv3, wyR_s]
                            by_cases e : k = j
                            · subst e; rw [upd_s, upd_s]; rfl
                            · rw [upd_n _ _ e, upd_n _ _ e]; exact hw k hk
                      refine xj_sub (lv' := [(4, .int 0), (3, .int (nI i)), (0, .ref 0), (1, .int (nI ks)), (2, .int (nI kw))]) [0, 1, 2, 3, 4] rfl ?_
                      exact key3 0 (Nat.zero_le _) g1 hf h80 hw
                refine xj_sub (lv' := [(3, .int 0), (0, .ref 0), (1, .int (nI ks)), (2, .int (nI kw))]) [0, 1, 2, 3] rfl ?_
                exact key2 0 (Nat.zero_le _) zg2 (by rw [ezg2]; exact hf.gs (by unfold sX; omega) _ _) (fun j hj => by rw [ezg2, gs_n _ _ _ (by decide)]; exact (hP j hj).1) (fun j hj => by rw [ezg2, gs_s, ezv1]; show _ = wy0 (coP A Λ ks) (kw / 100) j; unfold wy0; by_cases e : j = kw / 100; (subst e; rw [upd_s, upd_s]); (rw [upd_n _ _ e, upd_n _ _ e]; exact (hP j hj).2))
              · exact absurd (nI_le (Nat.le_refl _) (by decide)) zc43
            · intro i hi ih g1 hf hP
              refine xj_iload_n (n := 3) (i := 3) 0 rfl rfl dX11_way_40 ?_
              refine xj_bipush (v := 16) (by decide) dX11_way_41 ?_
              refine xj_icmp_ge (tgt := 89) (by decide) dX11_way_43 (fun zc43 => ?_) (fun zc43 => ?_)
              · exact absurd zc43 (nI_ge hi (by decide))
              · refine xj_aload_n (n := 0) (i := 0) 1 rfl rfl dX11_way_46 ?_
                refine yj_getf (v := .ref 80) fl_X11_73_11 (by omega) (fq_0 g1) rfl dX11_way_47 ?_
                refine xj_iload_n (n := 3) (i := 3) 0 rfl rfl dX11_way_50 ?_
                refine xj_aload_n (n := 0) (i := 0) 1 rfl rfl dX11_way_51 ?_
                refine yj_getf (v := .ref 8) fl_X11_37_11 (by omega) (fq_0 g1) rfl dX11_way_52 ?_
                refine xj_iload_n (n := 1) (i := 1) 2 rfl rfl dX11_way_55 ?_
                refine yj_aaldN (m := 6) (a := 9 + 3 * ks) ks (by omega) (fq_8 g1) (by decide) (by decide) rfl (by omega) (by decide) (if_pos (by omega)) dX11_way_56 ?_
                refine xj_aload_n (n := 0) (i := 0) 1 rfl rfl dX11_way_57 ?_
                refine yj_getf (v := .ref 66) fl_X11_55_11 (by omega) (fq_0 g1) rfl dX11_way_58 ?_
                refine xj_aload_n (n := 0) (i := 0) 1 rfl rfl dX11_way_61 ?_
                refine yj_getf (v := .int (nI (aW A))) fl_X11_93_11 (by omega) (fq_0 g1) (congrArg (fun z => some (Value.int z)) ((C.keep O hf).W O)) dX11_way_62 ?_
                refine yj_aaldN (m := 6) (a := fTX (aW A)) (aW A) (by omega) (fq_66 g1) (by decide) (by decide) rfl (by omega) (by decide) ((C.keep O hf).tx O hW) dX11_way_65 ?_
                refine xj_iload_n (n := 3) (i := 3) 0 rfl rfl dX11_way_66 ?_
                refine xj_aload_n (n := 0) (i := 0) 1 rfl rfl dX11_way_67 ?_
                refine yj_getf (v := .int (nI (aN A))) fl_X11_84_11 (by omega) (fq_0 g1) (congrArg (fun z => some (Value.int z)) ((C.keep O hf).N O)) dX11_way_68 ?_
                refine xj_callV kv_X11_181 (c_X7_cost l (d + 1) n hn g1 (9 + 3 * ks) (fTX (aW A)) (aK A ks) (A 2 ks) (A 3 ks) (A (10 + ks)) (Λ (aW A)) (fPn_r hs6_ks) ((C.keep O hf).pane hks) ((C.keep O hf).txt hW) i (nI (aN A)) (by omega)) (As := [.ref (fTX (aW A)), .int (nI i), .int (nI (aN A))]) (st := [.int (nI i), .ref 80]) (by omega) ((fPn_r hs6_ks).2.2.1 _) (ci := 7) rfl rfl rfl rfl (xRm_of (by omega) (by decide) (by omega) (by omega)) (Nat.le_of_ble_eq_true rfl) dX11_way_71 (yk_i (kc := 0) (ks := 0) fun zv5 zg6 hzg6 => ?_)
                obtain ⟨hvzv5, hfzg6⟩ := hzg6
                have hxzg6 := hfzg6.mono (fX_s (t := (aW A)) hs6_ks (Or.inl rfl))
                have Czg6 := (C.keep O hf).keep O hxzg6
                refine xj_top (show zv5 = coP A Λ ks i from hvzv5) ?_
                refine yj_iastN i (by omega) fA_80 rfl (by omega) (by decide) dX11_way_74 ?_
                obtain ⟨zg7, ezg7⟩ : ∃ z, z = gs zg6 80 i (coP A Λ ks i) := ⟨_, rfl⟩
                rw [← ezg7]
                refine xj_aload_n (n := 0) (i := 0) 1 rfl rfl dX11_way_75 ?_
                refine yj_getf (v := .ref 81) fl_X11_77_11 (by omega) (fq_0 zg7) rfl dX11_way_76 ?_
                refine xj_iload_n (n := 3) (i := 3) 0 rfl rfl dX11_way_79 ?_
                refine xj_ldc cn_X11_197 dX11_way_80 ?_
                refine yj_iastN i (by omega) fA_81 rfl (by omega) (by decide) dX11_way_82 ?_
                obtain ⟨zg8, ezg8⟩ : ∃ z, z = gs zg7 81 i 1000000 := ⟨_, rfl⟩
                rw [← ezg8]
                refine xj_iinc (n := 1) (i := 3) (v := nI (i + 1)) (lv1 := [(3, .int (nI (i + 1))), (0, .ref 0), (1, .int (nI ks)), (2, .int (nI kw))]) 0 rfl (nI_1 i) rfl (Nat.le_of_ble_eq_true rfl) dX11_way_83 ?_
                refine xj_goto (tgt := 40) (by decide) dX11_way_86 ?_
                refine xj_sub (lv' := [(3, .int (nI (i + 1))), (0, .ref 0), (1, .int (nI ks)), (2, .int (nI kw))]) [0, 1, 2, 3] rfl ?_
                have e80 : zg6 80 = g1 80 := hfzg6 80 (by have hv := fTX_v (aW A); unfold fX; omega)
                have e81 : zg6 81 = g1 81 := hfzg6 81 (by have hv := fTX_v (aW A); unfold fX; omega)
                have e80b : zg8 80 = upd (g1 80) i (coP A Λ ks i) := by rw [ezg8, gs_n _ _ _ (by decide), ezg7, gs_s, e80]
                have e81b : zg8 81 = upd (g1 81) i 1000000 := by rw [ezg8, gs_s, ezg7, gs_n _ _ _ (by decide), e81]
                refine ih zg8 (by rw [ezg8, ezg7]; exact ((hf.tr hxzg6).gs (by unfold sX; omega) _ _).gs (by unfold sX; omega) _ _) (fun j hj => ?_)
                rw [e80b, e81b]
                by_cases e : j = i
                · subst e; exact ⟨upd_s _ _ _, upd_s _ _ _⟩
                · rw [upd_n _ _ e, upd_n _ _ e]; exact hP j (by omega)
          refine xj_sub (lv' := [(3, .int 0), (0, .ref 0), (1, .int (nI ks)), (2, .int (nI kw))]) [0, 1, 2, 3] rfl ?_
          exact key 0 (Nat.zero_le _) g fr.rf (fun j hj => absurd hj (Nat.not_lt_zero j))
        · have zp32 : ¬ (0 ≤ (nI (kw % 100)) ∧ (nI (kw % 100)) ≤ 15) := bI_0.mp zc32
          refine xj_bipush (v := (-7)) (by decide) dX11_way_35 ?_
          exact xj_ireturn rfl (nr_i _) (Nat.zero_le _) (Nat.zero_le _) dX11_way_37 (qI_e ⟨by unfold vWay; (try simp only [nI_clamp (show ks < 2147483648 by omega), nI_clamp (show kw < 2147483648 by omega)]); rw [if_pos zp5, if_neg zc12, if_pos zp22, if_neg zp32]; all_goals (rfl), fr.rf⟩)
  · have zp5 : ¬ (isSl A s) := bI_0.mp zc5
    refine xj_bipush (v := (-5)) (by decide) dX11_way_8 ?_
    exact xj_ireturn rfl (nr_i _) (Nat.zero_le _) (Nat.zero_le _) dX11_way_10 (qI_e ⟨by unfold vWay; rw [if_neg zp5]; all_goals (rfl), fr.rf⟩)
