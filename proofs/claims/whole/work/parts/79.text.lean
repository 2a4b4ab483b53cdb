set_option maxHeartbeats 4000000 in
set_option maxRecDepth 100000 in
theorem c_X12_eRead (l : Launch) (d : Nat) (n : Nat) (hn : 110 ≤ n) (g : xG) (t : Nat) (ht : t ≤ 5) (C : List Int32) (b : Nat → Int32) (z : Nat) (hz : z ≤ 160) (hb : g 91 = b) (h0 : g 86 8 = nI z) (W : mAW g) (i : Nat) (hi : i ≤ z) (h21 : g 86 21 = nI i) (hC : C.length ≤ i) (h29 : g 86 29 = nI C.length) (h11 : g 86 11 = nI t) (hrow : lRow (C.map tqO) C.length (fun k => g 92 (200 * t + k)))  : xC l yX12_eRead cX12_eRead 4 (some .boolean) (xR (d + 3) 0 0) [.ref 86] (n, fh g) (qI n fun v g1 => fe 21 t g g1 ∧ v = bI ((rnM b z (true, true, [], 0, []) i).1 = true) ∧ (rnM b z (true, true, [], 0, []) i).2.1 ≤ z ∧ g1 86 22 = nI (stP b z (rnM b z (true, true, [], 0, []) i).2.1) ∧ g1 86 21 = nI (nxP b z (rnM b z (true, true, [], 0, []) i).2.1) ∧ ((rnM b z (true, true, [], 0, []) i).1 = true → ((rnM b z (true, true, [], 0, []) i).2.2 ++ C).length ≤ (rnM b z (true, true, [], 0, []) i).2.1 ∧ g1 86 29 = nI ((rnM b z (true, true, [], 0, []) i).2.2 ++ C).length ∧ lRow (((rnM b z (true, true, [], 0, []) i).2.2 ++ C).map tqO) ((rnM b z (true, true, [], 0, []) i).2.2 ++ C).length (fun k => g1 92 (200 * t + k)))) := by
  refine xC_of false (by decide +kernel) (fun z => by cases z) (Nat.le_of_ble_eq_true rfl) ?_
  show xJ l (RX12, 4, (some .boolean), false, (xR (d + 3) 0 0), none) cX12_eRead _ 0 0 0 [(0, .ref 86)] [] (n, fh g)
  generalize hRR : rnM b z (true, true, [], 0, []) i = R
  refine xj_aload_n (n := 0) (i := 0) 0 rfl rfl dX12_eRead_0 ?_
  refine xj_iconst (v := 0) (by decide) dX12_eRead_1 ?_
  refine yj_puti fl_X12_129_12 (by omega) fS_86_27 (fi_i _) dX12_eRead_2 ?_
  obtain ⟨zg1, ezg1⟩ : ∃ x9, x9 = gs g 86 27 0 := ⟨_, rfl⟩
  rw [← ezg1]
  have t8zg1 : zg1 86 8 = nI z := by rw [ezg1, gs_s, upd_n _ _ (by decide)]; exact h0
  have t21zg1 : zg1 86 21 = nI i := by rw [ezg1, gs_s, upd_n _ _ (by decide)]; exact h21
  have t29zg1 : zg1 86 29 = nI C.length := by rw [ezg1, gs_s, upd_n _ _ (by decide)]; exact h29
  have t11zg1 : zg1 86 11 = nI t := by rw [ezg1, gs_s, upd_n _ _ (by decide)]; exact h11
  have t27zg1 : zg1 86 27 = 0 := by rw [ezg1, gs_s, upd_s]
  have fzg1 : fe 21 t g zg1 := by rw [ezg1]; exact fe.rf.g86 (by omega) _
  refine xj_aload_n (n := 0) (i := 0) 0 rfl rfl dX12_eRead_5 ?_
  refine xj_iconst (v := 0) (by decide) dX12_eRead_6 ?_
  refine yj_puti fl_X12_136_12 (by omega) fS_86_28 (fi_i _) dX12_eRead_7 ?_
  obtain ⟨zg2, ezg2⟩ : ∃ x9, x9 = gs zg1 86 28 0 := ⟨_, rfl⟩
  rw [← ezg2]
  have t8zg2 : zg2 86 8 = nI z := by rw [ezg2, gs_s, upd_n _ _ (by decide)]; exact t8zg1
  have t21zg2 : zg2 86 21 = nI i := by rw [ezg2, gs_s, upd_n _ _ (by decide)]; exact t21zg1
  have t29zg2 : zg2 86 29 = nI C.length := by rw [ezg2, gs_s, upd_n _ _ (by decide)]; exact t29zg1
  have t11zg2 : zg2 86 11 = nI t := by rw [ezg2, gs_s, upd_n _ _ (by decide)]; exact t11zg1
  have t27zg2 : zg2 86 27 = 0 := by rw [ezg2, gs_s, upd_n _ _ (by decide)]; exact t27zg1
  have t28zg2 : zg2 86 28 = 0 := by rw [ezg2, gs_s, upd_s]
  have fzg2 : fe 21 t g zg2 := by rw [ezg2]; exact fzg1.g86 (by omega) _
  refine xj_iconst (v := 1) (by decide) dX12_eRead_10 ?_
  refine xj_istore_n (n := 1) (i := 1) (lv1 := [(1, .int 1), (0, .ref 86)]) rfl rfl (Nat.le_of_ble_eq_true rfl) dX12_eRead_11 ?_
  refine xj_iconst (v := 1) (by decide) dX12_eRead_12 ?_
  refine xj_istore_n (n := 2) (i := 2) (lv1 := [(2, .int 1), (1, .int 1), (0, .ref 86)]) rfl rfl (Nat.le_of_ble_eq_true rfl) dX12_eRead_13 ?_
  have Q0 : mqK zg2 t C i [] 0 [] := ⟨⟨t27zg2, t28zg2, t29zg2, t11zg2⟩, lRow_0 _, by rw [ezg2, gs_n _ _ _ (by decide), ezg1, gs_n _ _ _ (by decide)]; exact hrow, (fun s hs => by cases hs), rfl, by decide, by show C.length + 0 ≤ i; omega⟩
  have key : ∀ (k i1 : Nat) (w mn : Bool) (m2 : Int32) (H : List Int32) (o : Nat) (O : List Int32) (g1 : xG), z + 1 ≤ i1 + k → i1 ≤ z → (w = true → m2 = bI (mn = true)) → mqK g1 t C i1 H o O → fe 21 t g g1 → g1 86 21 = nI i1 → rnM b z (w, mn, H, o, O) i1 = R → xJ l (RX12, 4, (some .boolean), false, (xR (d + 3) 0 0), none) cX12_eRead (qI n fun v g1 => fe 21 t g g1 ∧ v = bI (R.1 = true) ∧ R.2.1 ≤ z ∧ g1 86 22 = nI (stP b z R.2.1) ∧ g1 86 21 = nI (nxP b z R.2.1) ∧ (R.1 = true → (R.2.2 ++ C).length ≤ R.2.1 ∧ g1 86 29 = nI (R.2.2 ++ C).length ∧ lRow ((R.2.2 ++ C).map tqO) (R.2.2 ++ C).length (fun k => g1 92 (200 * t + k)))) 0 0 14 [(2, .int m2), (1, .int (bI (w = true))), (0, .ref 86)] [] (n, fh g1) := by
    intro k
    induction k with
    | zero =>
      intro i1 w mn m2 H o O g1 hk hi1 hm2 Q1 F1 hi21 he
      omega
    | succ k ih =>
      intro i1 w mn m2 H o O g1 hk hi1 hm2 Q1 F1 hi21 he
      have hz9 : i1 ≤ 160 := Nat.le_trans hi1 hz
      cases w
      · skip
        refine xj_aload_n (n := 0) (i := 0) 2 rfl rfl dX12_eRead_14 ?_
        refine xj_callV kv_X12_149 (c_X12_next l (d + 0) n hn g1 b z hz ((F1.1 91 (by decide) (by decide) (by decide)).trans hb) ((F1.2.1 8 (by unfold eX; omega)).trans h0) (fun k hk => by rw [F1.1 101 (by decide) (by decide) (by decide)]; exact W k hk) i1 hi1 hi21) (As := []) (st := []) (by omega) (fq_86 g1) (ci := 12) rfl rfl rfl rfl (xRm_of (by omega) (by decide) (by omega) (by omega)) (Nat.le_of_ble_eq_true rfl) dX12_eRead_15 (yk_v (kc := 0) (ks := 0) fun zg3 hzg3 => ?_)
        obtain ⟨hnf, hn22, hn21, hn23, hn24, hn25, hn26⟩ := hzg3
        have Q2 := Q1.nx hnf
        have F2 : fe 21 t g zg3 := F1.tr (hnf.fe t)
        have hin := tk_in b z i1
        have hmt := mtq_t _ hin
        have hnx := nxP_b b hi1
        have hQl := Q2.2.2.2.2.2.2
        have hQ5 := Q2.2.2.2.2.2.1
        refine xj_iload_n (n := 1) (i := 1) 1 rfl rfl dX12_eRead_18 ?_
        refine xj_if_eq (tgt := 150) (by decide) dX12_eRead_19 (fun zc19 => ?_) (fun zc19 => ?_)
        · refine xj_aload_n (n := 0) (i := 0) 2 rfl rfl dX12_eRead_150 ?_
          refine yj_getf (v := .int (mtq (tkP b z i1))) fl_X12_116_12 (by omega) (fq_86 zg3) (congrArg (fun z => some (Value.int z)) hn23) dX12_eRead_151 ?_
          refine xj_bipush (v := 59) (by decide) dX12_eRead_154 ?_
          refine xj_icmp_ne (tgt := 177) (by decide) dX12_eRead_156 (fun zc156 => ?_) (fun zc156 => ?_)
          · have h1 : ¬ tkP b z i1 = 59 := fun y => zc156 (hmt.2.2.2.2.2.2.2.1.mpr y)
            refine xj_aload_n (n := 0) (i := 0) 2 rfl rfl dX12_eRead_177 ?_
            refine yj_getf (v := .int (mtq (tkP b z i1))) fl_X12_116_12 (by omega) (fq_86 zg3) (congrArg (fun z => some (Value.int z)) hn23) dX12_eRead_178 ?_
            refine xj_bipush (v := 41) (by decide) dX12_eRead_181 ?_
            refine xj_icmp_ne (tgt := 229) (by decide) dX12_eRead_183 (fun zc183 => ?_) (fun zc183 => ?_)
            · have h2 : ¬ tkP b z i1 = 41 := fun y => zc183 (hmt.2.2.2.2.2.2.2.2.mpr y)
              refine xj_aload_n (n := 0) (i := 0) 2 rfl rfl dX12_eRead_229 ?_
              refine xj_callV kv_X12_156 (c_X12_signOf l (d + 2) n hn zg3 (mtq (tkP b z i1)) hn23) (As := []) (st := []) (by omega) (fq_86 zg3) (ci := 12) rfl rfl rfl rfl (xRm_of (by omega) (by decide) (by omega) (by omega)) (Nat.le_of_ble_eq_true rfl) dX12_eRead_230 (yk_p (kc := 0) (ks := 0) ?_)
              by_cases hop : isOp (tkP b z i1) = true
              · have hso := (sgR_t _ hin).2.2 hop
                refine xj_top (show (sgR (mtq (tkP b z i1))) = tqH (-tkP b z i1) from ((sgR_t _ hin).1.trans (if_pos hop))) ?_
                refine xj_istore_n (n := 3) (i := 3) (lv1 := [(3, .int (tqH (-tkP b z i1))), (2, .int m2), (1, .int (bI (false = true))), (0, .ref 86)]) rfl rfl (Nat.le_of_ble_eq_true rfl) dX12_eRead_233 ?_
                refine xj_iload_n (n := 3) (i := 3) 0 rfl rfl dX12_eRead_234 ?_
                refine xj_iconst (v := (-1)) (by decide) dX12_eRead_235 ?_
                refine xj_icmp_eq (tgt := 247) (by decide) dX12_eRead_236 (fun zc236 => ?_) (fun zc236 => ?_)
                · exact absurd zc236 hso.2.1
                · refine xj_aload_n (n := 0) (i := 0) 3 rfl rfl dX12_eRead_239 ?_
                  refine xj_iload_n (n := 3) (i := 3) 0 rfl rfl dX12_eRead_240 ?_
                  refine xj_callV kv_X12_159 (c_X12_between l (d + 0) n hn zg3 t ht C i1 (by omega) H o O Q2 (-tkP b z i1) (tqH (-tkP b z i1)) hso.1 rfl hso.2.2.2.2 hso.2.2.2.1) (As := [.int (tqH (-tkP b z i1))]) (st := []) (by omega) (fq_86 zg3) (ci := 12) rfl rfl rfl rfl (xRm_of (by omega) (by decide) (by omega) (by omega)) (Nat.le_of_ble_eq_true rfl) dX12_eRead_241 (yk_i (kc := 0) (ks := 0) fun zv4 zg5 hzg5 => ?_)
                  obtain ⟨hfB, hB⟩ := hzg5
                  rcases hB with ⟨hv, hB⟩ | ⟨hv, hB, QB⟩
                  · rw [hv]
                    have hR : R = (false, i1, []) := he.symm.trans (rnM_r b z hi1 ((sqM_op (n := nmP b z i1) (i := i1) (mn := mn) (H := H) (o := o) (O := O) h1 h2 hop).trans (if_pos hB)))
                    refine xj_if_ne (tgt := 249) (by decide) dX12_eRead_244 (fun zc244 => ?_) (fun zc244 => ?_)
                    · exact absurd zc244 (fun z => z rfl)
                    · refine xj_iconst (v := 0) (by decide) dX12_eRead_247 ?_
                      exact xj_ireturn rfl nr_b0 (Nat.zero_le _) (Nat.zero_le _) dX12_eRead_248 (qI_e ⟨(F2.tr (hfB.mono (by decide))), by rw [hR]; rfl, by rw [hR]; exact hi1, by rw [hR]; exact (hfB.2.1 22 (by unfold eX; omega)).trans hn22, by rw [hR]; exact (hfB.2.1 21 (by unfold eX; omega)).trans hn21, fun y => by rw [hR] at y; cases y⟩)
                  · rw [hv]
                    refine xj_if_ne (tgt := 249) (by decide) dX12_eRead_244 (fun zc244 => ?_) (fun zc244 => ?_)
                    · refine xj_iconst (v := 1) (by decide) dX12_eRead_249 ?_
                      refine xj_istore_n (n := 1) (i := 1) (lv1 := [(1, .int 1), (3, .int (tqH (-tkP b z i1))), (2, .int m2), (0, .ref 86)]) rfl rfl (Nat.le_of_ble_eq_true rfl) dX12_eRead_250 ?_
                      refine xj_iload_n (n := 3) (i := 3) 1 rfl rfl dX12_eRead_251 ?_
                      refine xj_bipush (v := 12) (by decide) dX12_eRead_252 ?_
                      refine xj_icmp_gt (tgt := 261) (by decide) dX12_eRead_254 (fun zc254 => ?_) (fun zc254 => ?_)
                      · have hle : ¬ rkS (-tkP b z i1) ≤ 2 := fun y => absurd (hso.2.2.1.mpr y) (Int32.not_le.mpr zc254)
                        have hst := (sqM_op (n := nmP b z i1) (i := i1) (mn := mn) (H := H) (o := o) (O := O) h1 h2 hop).trans (if_neg hB)
                        rw [decide_eq_false hle] at hst
                        refine xj_iconst (v := 0) (by decide) dX12_eRead_261 ?_
                        refine xj_istore_n (n := 2) (i := 2) (lv1 := [(2, .int 0), (1, .int 1), (3, .int (tqH (-tkP b z i1))), (0, .ref 86)]) rfl rfl (Nat.le_of_ble_eq_true rfl) dX12_eRead_262 ?_
                        refine xj_goto (tgt := 14) (by decide) dX12_eRead_263 ?_
                        refine xj_sub (lv' := [(2, .int 0), (1, .int 1), (0, .ref 86)]) [0, 1, 3] rfl ?_
                        have hlt := hnx.2.2 (stM_0 hst)
                        exact ih (nxP b z i1) true false _ _ _ _ zg5 (by omega) hnx.2.1 (fun _ => rfl) (QB.mono (by omega)) (F2.tr (hfB.mono (by decide))) ((hfB.2.1 21 (by unfold eX; omega)).trans hn21) ((rnM_l b z hi1 hst).symm.trans he)
                      · have hle : rkS (-tkP b z i1) ≤ 2 := hso.2.2.1.mp (Int32.not_lt.mp zc254)
                        have hst := (sqM_op (n := nmP b z i1) (i := i1) (mn := mn) (H := H) (o := o) (O := O) h1 h2 hop).trans (if_neg hB)
                        rw [decide_eq_true hle] at hst
                        refine xj_iconst (v := 1) (by decide) dX12_eRead_257 ?_
                        refine xj_goto (tgt := 262) (by decide) dX12_eRead_258 ?_
                        refine xj_istore_n (n := 2) (i := 2) (lv1 := [(2, .int 1), (1, .int 1), (3, .int (tqH (-tkP b z i1))), (0, .ref 86)]) rfl rfl (Nat.le_of_ble_eq_true rfl) dX12_eRead_262 ?_
                        refine xj_goto (tgt := 14) (by decide) dX12_eRead_263 ?_
                        refine xj_sub (lv' := [(2, .int 1), (1, .int 1), (0, .ref 86)]) [0, 1, 3] rfl ?_
                        have hlt := hnx.2.2 (stM_0 hst)
                        exact ih (nxP b z i1) true true _ _ _ _ zg5 (by omega) hnx.2.1 (fun _ => rfl) (QB.mono (by omega)) (F2.tr (hfB.mono (by decide))) ((hfB.2.1 21 (by unfold eX; omega)).trans hn21) ((rnM_l b z hi1 hst).symm.trans he)
                    · exact absurd zc244 (by decide)
              · refine xj_top (show (sgR (mtq (tkP b z i1))) = (-1) from ((sgR_t _ hin).1.trans (if_neg hop))) ?_
                have hR : R = (false, i1, []) := he.symm.trans (rnM_r b z hi1 (sqM_no2 (n := nmP b z i1) (i := i1) (mn := mn) (H := H) (o := o) (O := O) h1 h2 hop))
                refine xj_istore_n (n := 3) (i := 3) (lv1 := [(3, .int (-1)), (2, .int m2), (1, .int (bI (false = true))), (0, .ref 86)]) rfl rfl (Nat.le_of_ble_eq_true rfl) dX12_eRead_233 ?_
                refine xj_iload_n (n := 3) (i := 3) 0 rfl rfl dX12_eRead_234 ?_
                refine xj_iconst (v := (-1)) (by decide) dX12_eRead_235 ?_
                refine xj_icmp_eq (tgt := 247) (by decide) dX12_eRead_236 (fun zc236 => ?_) (fun zc236 => ?_)
                · refine xj_iconst (v := 0) (by decide) dX12_eRead_247 ?_
                  exact xj_ireturn rfl nr_b0 (Nat.zero_le _) (Nat.zero_le _) dX12_eRead_248 (qI_e ⟨(F2.tr ((fe.rf : fe 27 t zg3 zg3).mono (by decide))), by rw [hR]; rfl, by rw [hR]; exact hi1, by rw [hR]; exact ((fe.rf : fe 27 t zg3 zg3).2.1 22 (by unfold eX; omega)).trans hn22, by rw [hR]; exact ((fe.rf : fe 27 t zg3 zg3).2.1 21 (by unfold eX; omega)).trans hn21, fun y => by rw [hR] at y; cases y⟩)
                · exact absurd (by decide) zc236
            · have h2 : tkP b z i1 = 41 := hmt.2.2.2.2.2.2.2.2.mp zc183
              refine xj_aload_n (n := 0) (i := 0) 2 rfl rfl dX12_eRead_186 ?_
              refine xj_iconst (v := 1) (by decide) dX12_eRead_187 ?_
              refine xj_top (show 1 = nI 1 from rfl) ?_
              refine xj_callV kv_X12_146 (c_X12_unwinds l (d + 1) n hn zg3 t ht C i1 (by omega) H o O Q2 1 (by decide)) (As := [.int (nI 1)]) (st := []) (by omega) (fq_86 zg3) (ci := 12) rfl rfl rfl rfl (xRm_of (by omega) (by decide) (by omega) (by omega)) (Nat.le_of_ble_eq_true rfl) dX12_eRead_188 (yk_v (kc := 0) (ks := 0) fun zg6 hzg6 => ?_)
              obtain ⟨QUa, hfUa⟩ := hzg6
              obtain ⟨H2, o2, O2, e2⟩ : ∃ H2 o2 O2, unW 1 H o O = (H2, o2, O2) := ⟨_, _, _, rfl⟩
              have Q3 : mqK zg6 t C i1 H2 o2 O2 := by have h9 := QUa; rw [e2] at h9; exact h9
              rcases H2 with _ | ⟨s2, H2⟩
              · have hR : R = (false, i1, []) := he.symm.trans (rnM_r b z hi1 (sqM_cl0 (n := nmP b z i1) (i := i1) (mn := mn) (H := H) (o := o) (O := O) h1 h2 e2))
                refine xj_aload_n (n := 0) (i := 0) 2 rfl rfl dX12_eRead_191 ?_
                refine yj_getf (v := .int (nI 0)) fl_X12_129_12 (by omega) (fq_86 zg6) (congrArg (fun z => some (Value.int z)) Q3.1.1) dX12_eRead_192 ?_
                refine xj_if_ne (tgt := 200) (by decide) dX12_eRead_195 (fun zc195 => ?_) (fun zc195 => ?_)
                · exact absurd zc195 (fun z => z rfl)
                · refine xj_iconst (v := 0) (by decide) dX12_eRead_198 ?_
                  exact xj_ireturn rfl nr_b0 (Nat.zero_le _) (Nat.zero_le _) dX12_eRead_199 (qI_e ⟨(F2.tr (((fe.rf : fe 27 t zg3 zg3).tr hfUa).mono (by decide))), by rw [hR]; rfl, by rw [hR]; exact hi1, by rw [hR]; exact (((fe.rf : fe 27 t zg3 zg3).tr hfUa).2.1 22 (by unfold eX; omega)).trans hn22, by rw [hR]; exact (((fe.rf : fe 27 t zg3 zg3).tr hfUa).2.1 21 (by unfold eX; omega)).trans hn21, fun y => by rw [hR] at y; cases y⟩)
              · have hl3 : (O2 ++ C).length + (H2.length + 1) ≤ i1 := Q3.2.2.2.2.2.2
                have hs2 := Q3.2.2.2.1 s2 List.mem_cons_self
                have hz2 : s2 = 0 := (hs_t s2 hs2).2.2.1 (by have h9 := unW_top 1 H o O s2 H2 (by rw [e2]); omega)
                have hA1 : opA s2 = 1 := by rw [hz2]; decide
                obtain ⟨D1, hos, -, -, -, -, ho5, hlt2⟩ := Q3.drop.resolve_right (by omega)
                have ho1 : 1 ≤ o2 := by omega
                refine xj_aload_n (n := 0) (i := 0) 2 rfl rfl dX12_eRead_191 ?_
                refine yj_getf (v := .int (nI (H2.length + 1))) fl_X12_129_12 (by omega) (fq_86 zg6) (congrArg (fun z => some (Value.int z)) Q3.1.1) dX12_eRead_192 ?_
                refine xj_if_ne (tgt := 200) (by decide) dX12_eRead_195 (fun zc195 => ?_) (fun zc195 => ?_)
                · refine xj_aload_n (n := 0) (i := 0) 2 rfl rfl dX12_eRead_200 ?_
                  refine xj_dup rfl dX12_eRead_201 ?_
                  refine yj_getf (v := .int (nI (H2.length + 1))) fl_X12_129_12 (by omega) (fq_86 zg6) (congrArg (fun z => some (Value.int z)) Q3.1.1) dX12_eRead_202 ?_
                  refine xj_iconst (v := 1) (by decide) dX12_eRead_205 ?_
                  refine xj_isub dX12_eRead_206 ?_
                  refine xj_top (show ((nI (H2.length + 1)) - 1) = nI (H2.length) from nI_k1) ?_
                  refine yj_puti fl_X12_129_12 (by omega) fS_86_27 (fi_i _) dX12_eRead_207 ?_
                  obtain ⟨zg7, ezg7⟩ : ∃ x9, x9 = gs zg6 86 27 (nI (H2.length)) := ⟨_, rfl⟩
                  rw [← ezg7]
                  have t28zg7 : zg7 86 28 = nI o2 := by rw [ezg7, gs_s, upd_n _ _ (by decide)]; exact Q3.1.2.1
                  have t27zg7 : zg7 86 27 = (nI (H2.length)) := by rw [ezg7, gs_s, upd_s]
                  have fzg7 : fe 27 t zg3 zg7 := by rw [ezg7]; exact ((fe.rf : fe 27 t zg3 zg3).tr hfUa).g86 (by omega) _
                  refine xj_aload_n (n := 0) (i := 0) 2 rfl rfl dX12_eRead_210 ?_
                  refine xj_dup rfl dX12_eRead_211 ?_
                  refine yj_getf (v := .int (nI o2)) fl_X12_136_12 (by omega) (fq_86 zg7) (congrArg (fun z => some (Value.int z)) t28zg7) dX12_eRead_212 ?_
                  refine xj_iconst (v := 1) (by decide) dX12_eRead_215 ?_
                  refine xj_isub dX12_eRead_216 ?_
                  refine xj_top (show ((nI o2) - 1) = nI (o2 - 1) from (nI_m ho1)) ?_
                  refine yj_puti fl_X12_136_12 (by omega) fS_86_28 (fi_i _) dX12_eRead_217 ?_
                  obtain ⟨zg8, ezg8⟩ : ∃ x9, x9 = gs zg7 86 28 (nI (o2 - 1)) := ⟨_, rfl⟩
                  rw [← ezg8]
                  have t27zg8 : zg8 86 27 = (nI (H2.length)) := by rw [ezg8, gs_s, upd_n _ _ (by decide)]; exact t27zg7
                  have t28zg8 : zg8 86 28 = (nI (o2 - 1)) := by rw [ezg8, gs_s, upd_s]
                  have fzg8 : fe 27 t zg3 zg8 := by rw [ezg8]; exact fzg7.g86 (by omega) _
                  refine xj_aload_n (n := 0) (i := 0) 2 rfl rfl dX12_eRead_220 ?_
                  refine xj_bipush (v := 7) (by decide) dX12_eRead_221 ?_
                  refine xj_top (show 7 = nI 7 from rfl) ?_
                  have D2 : mqK zg8 t C (i1 - 1) H2 (o2 - 1) O2 := by rw [ezg8, ezg7]; rw [hA1] at D1; exact D1
                  refine xj_callV kv_X12_146 (c_X12_unwinds l (d + 1) n hn zg8 t ht C (i1 - 1) (by omega) H2 (o2 - 1) O2 D2 7 (by decide)) (As := [.int (nI 7)]) (st := []) (by omega) (fq_86 zg8) (ci := 12) rfl rfl rfl rfl (xRm_of (by omega) (by decide) (by omega) (by omega)) (Nat.le_of_ble_eq_true rfl) dX12_eRead_223 (yk_v (kc := 0) (ks := 0) fun zg9 hzg9 => ?_)
                  obtain ⟨QUb, hfUb⟩ := hzg9
                  refine xj_goto (tgt := 14) (by decide) dX12_eRead_226 ?_
                  refine xj_sub (lv' := [(2, .int m2), (1, .int (bI (false = true))), (0, .ref 86)]) [0, 1, 2] rfl ?_
                  have hst := sqM_cls (n := nmP b z i1) (i := i1) (mn := mn) (H := H) (o := o) (O := O) h1 h2 e2
                  have hlt := hnx.2.2 (stM_0 hst)
                  exact ih (nxP b z i1) false false _ _ _ _ zg9 (by omega) hnx.2.1 (fun y => by cases y) (QUb.mono (by omega)) (F2.tr ((fzg8.tr hfUb).mono (by decide))) (((fzg8.tr hfUb).2.1 21 (by unfold eX; omega)).trans hn21) ((rnM_l b z hi1 hst).symm.trans he)
                · exact absurd zc195 (nI_ne0 (by omega) (by omega))
          · have h1 : tkP b z i1 = 59 := hmt.2.2.2.2.2.2.2.1.mp zc156
            refine xj_aload_n (n := 0) (i := 0) 2 rfl rfl dX12_eRead_159 ?_
            refine xj_iconst (v := 1) (by decide) dX12_eRead_160 ?_
            refine xj_top (show 1 = nI 1 from rfl) ?_
            refine xj_callV kv_X12_146 (c_X12_unwinds l (d + 1) n hn zg3 t ht C i1 (by omega) H o O Q2 1 (by decide)) (As := [.int (nI 1)]) (st := []) (by omega) (fq_86 zg3) (ci := 12) rfl rfl rfl rfl (xRm_of (by omega) (by decide) (by omega) (by omega)) (Nat.le_of_ble_eq_true rfl) dX12_eRead_161 (yk_v (kc := 0) (ks := 0) fun zg10 hzg10 => ?_)
            obtain ⟨QUa, hfUa⟩ := hzg10
            obtain ⟨H2, o2, O2, e2⟩ : ∃ H2 o2 O2, unW 1 H o O = (H2, o2, O2) := ⟨_, _, _, rfl⟩
            have Q3 : mqK zg10 t C i1 H2 o2 O2 := by have h9 := QUa; rw [e2] at h9; exact h9
            rcases H2 with _ | ⟨s2, H2⟩
            · have hR : R = (true, i1, O2) := he.symm.trans (rnM_r b z hi1 ((sqM_end (n := nmP b z i1) (i := i1) (mn := mn) (H := H) (o := o) (O := O) h1).trans (by rw [e2]; rfl)))
              refine xj_aload_n (n := 0) (i := 0) 2 rfl rfl dX12_eRead_164 ?_
              refine yj_getf (v := .int (nI 0)) fl_X12_129_12 (by omega) (fq_86 zg10) (congrArg (fun z => some (Value.int z)) Q3.1.1) dX12_eRead_165 ?_
              refine xj_if_ne (tgt := 175) (by decide) dX12_eRead_168 (fun zc168 => ?_) (fun zc168 => ?_)
              · exact absurd zc168 (fun z => z rfl)
              · refine xj_iconst (v := 1) (by decide) dX12_eRead_171 ?_
                refine xj_goto (tgt := 176) (by decide) dX12_eRead_172 ?_
                exact xj_ireturn rfl nr_b1 (Nat.zero_le _) (Nat.zero_le _) dX12_eRead_176 (qI_e ⟨(F2.tr (((fe.rf : fe 27 t zg3 zg3).tr hfUa).mono (by decide))), by rw [hR]; rfl, by rw [hR]; exact hi1, by rw [hR]; exact (((fe.rf : fe 27 t zg3 zg3).tr hfUa).2.1 22 (by unfold eX; omega)).trans hn22, by rw [hR]; exact (((fe.rf : fe 27 t zg3 zg3).tr hfUa).2.1 21 (by unfold eX; omega)).trans hn21, fun _ => by rw [hR]; exact ⟨Q3.2.2.2.2.2.2, Q3.1.2.2.1, Q3.2.2.1⟩⟩)
            · have hl3 : (O2 ++ C).length + (H2.length + 1) ≤ i1 := Q3.2.2.2.2.2.2
              have hR : R = (false, i1, []) := he.symm.trans (rnM_r b z hi1 ((sqM_end (n := nmP b z i1) (i := i1) (mn := mn) (H := H) (o := o) (O := O) h1).trans (by rw [e2]; rfl)))
              refine xj_aload_n (n := 0) (i := 0) 2 rfl rfl dX12_eRead_164 ?_
              refine yj_getf (v := .int (nI (H2.length + 1))) fl_X12_129_12 (by omega) (fq_86 zg10) (congrArg (fun z => some (Value.int z)) Q3.1.1) dX12_eRead_165 ?_
              refine xj_if_ne (tgt := 175) (by decide) dX12_eRead_168 (fun zc168 => ?_) (fun zc168 => ?_)
              · refine xj_iconst (v := 0) (by decide) dX12_eRead_175 ?_
                exact xj_ireturn rfl nr_b0 (Nat.zero_le _) (Nat.zero_le _) dX12_eRead_176 (qI_e ⟨(F2.tr (((fe.rf : fe 27 t zg3 zg3).tr hfUa).mono (by decide))), by rw [hR]; rfl, by rw [hR]; exact hi1, by rw [hR]; exact (((fe.rf : fe 27 t zg3 zg3).tr hfUa).2.1 22 (by unfold eX; omega)).trans hn22, by rw [hR]; exact (((fe.rf : fe 27 t zg3 zg3).tr hfUa).2.1 21 (by unfold eX; omega)).trans hn21, fun y => by rw [hR] at y; cases y⟩)
              · exact absurd zc168 (nI_ne0 (by omega) (by omega))
        · exact absurd (by decide) zc19
      · obtain rfl : m2 = bI (mn = true) := hm2 rfl
        refine xj_aload_n (n := 0) (i := 0) 2 rfl rfl dX12_eRead_14 ?_
        refine xj_callV kv_X12_149 (c_X12_next l (d + 0) n hn g1 b z hz ((F1.1 91 (by decide) (by decide) (by decide)).trans hb) ((F1.2.1 8 (by unfold eX; omega)).trans h0) (fun k hk => by rw [F1.1 101 (by decide) (by decide) (by decide)]; exact W k hk) i1 hi1 hi21) (As := []) (st := []) (by omega) (fq_86 g1) (ci := 12) rfl rfl rfl rfl (xRm_of (by omega) (by decide) (by omega) (by omega)) (Nat.le_of_ble_eq_true rfl) dX12_eRead_15 (yk_v (kc := 0) (ks := 0) fun zg11 hzg11 => ?_)
        obtain ⟨hnf, hn22, hn21, hn23, hn24, hn25, hn26⟩ := hzg11
        have Q2 := Q1.nx hnf
        have F2 : fe 21 t g zg11 := F1.tr (hnf.fe t)
        have hin := tk_in b z i1
        have hmt := mtq_t _ hin
        have hnx := nxP_b b hi1
        have hQl := Q2.2.2.2.2.2.2
        have hQ5 := Q2.2.2.2.2.2.1
        refine xj_iload_n (n := 1) (i := 1) 1 rfl rfl dX12_eRead_18 ?_
        refine xj_if_eq (tgt := 150) (by decide) dX12_eRead_19 (fun zc19 => ?_) (fun zc19 => ?_)
        · exact absurd zc19 (by decide)
        · refine xj_aload_n (n := 0) (i := 0) 2 rfl rfl dX12_eRead_22 ?_
          refine yj_getf (v := .int (mtq (tkP b z i1))) fl_X12_116_12 (by omega) (fq_86 zg11) (congrArg (fun z => some (Value.int z)) hn23) dX12_eRead_23 ?_
          refine xj_iconst (v := 1) (by decide) dX12_eRead_26 ?_
          refine xj_icmp_eq (tgt := 38) (by decide) dX12_eRead_27 (fun zc27 => ?_) (fun zc27 => ?_)
          · have h1 : tkP b z i1 = 1 := hmt.2.1.mp zc27
            obtain ⟨m9, hm9, em9⟩ := nm_ok h1
            have hp9 : 0 ≤ nmP b z i1 := by rw [em9]; exact (num_nm hm9).1
            have hlt0 := hnx.2.2 (by rw [h1]; decide)
            refine xj_aload_n (n := 0) (i := 0) 2 rfl rfl dX12_eRead_38 ?_
            refine xj_aload_n (n := 0) (i := 0) 2 rfl rfl dX12_eRead_39 ?_
            refine yj_getf (v := .int (mtq (tkP b z i1))) fl_X12_116_12 (by omega) (fq_86 zg11) (congrArg (fun z => some (Value.int z)) hn23) dX12_eRead_40 ?_
            refine xj_iconst (v := 1) (by decide) dX12_eRead_43 ?_
            refine xj_icmp_ne (tgt := 57) (by decide) dX12_eRead_44 (fun zc44 => ?_) (fun zc44 => ?_)
            · exact absurd zc44 (fun y => y zc27)
            · refine xj_ldc cn_X12_152 dX12_eRead_47 ?_
              refine xj_aload_n (n := 0) (i := 0) 2 rfl rfl dX12_eRead_49 ?_
              refine yj_getf (v := .int (nmP b z i1)) fl_X12_119_12 (by omega) (fq_86 zg11) (congrArg (fun z => some (Value.int z)) (hn24 h1)) dX12_eRead_50 ?_
              refine xj_iadd dX12_eRead_53 ?_
              refine xj_goto (tgt := 61) (by decide) dX12_eRead_54 ?_
              refine xj_top (show (100000 + (nmP b z i1)) = tqO (nmP b z i1) from (if_pos hp9).symm) ?_
              refine xj_callV kv_X12_139 (c_X12_puts l (d + 2) n hn zg11 t (O ++ C).length ht (by omega) (tqO (nmP b z i1)) Q2.1.2.2.1 Q2.1.2.2.2) (As := [.int (tqO (nmP b z i1))]) (st := []) (by omega) (fq_86 zg11) (ci := 12) rfl rfl rfl rfl (xRm_of (by omega) (by decide) (by omega) (by omega)) (Nat.le_of_ble_eq_true rfl) dX12_eRead_61 (yk_v (kc := 0) (ks := 0) fun zg12 hzg12 => ?_)
              have QP : mqK zg12 t C (i1 + 1) H o (nmP b z i1 :: O) := by rw [hzg12]; exact Q2.put _
              have hfP : fe 27 t zg11 zg12 := by rw [hzg12]; exact fe.rf.put (by omega) _ _
              refine xj_aload_n (n := 0) (i := 0) 2 rfl rfl dX12_eRead_64 ?_
              refine xj_bipush (v := 7) (by decide) dX12_eRead_65 ?_
              refine xj_top (show 7 = nI 7 from rfl) ?_
              refine xj_callV kv_X12_146 (c_X12_unwinds l (d + 1) n hn zg12 t ht C (i1 + 1) (by omega) H o (nmP b z i1 :: O) QP 7 (by decide)) (As := [.int (nI 7)]) (st := []) (by omega) (fq_86 zg12) (ci := 12) rfl rfl rfl rfl (xRm_of (by omega) (by decide) (by omega) (by omega)) (Nat.le_of_ble_eq_true rfl) dX12_eRead_67 (yk_v (kc := 0) (ks := 0) fun zg13 hzg13 => ?_)
              obtain ⟨QUa, hfUa⟩ := hzg13
              refine xj_iconst (v := 0) (by decide) dX12_eRead_70 ?_
              refine xj_istore_n (n := 1) (i := 1) (lv1 := [(1, .int 0), (2, .int (bI (mn = true))), (0, .ref 86)]) rfl rfl (Nat.le_of_ble_eq_true rfl) dX12_eRead_71 ?_
              refine xj_goto (tgt := 14) (by decide) dX12_eRead_72 ?_
              refine xj_sub (lv' := [(2, .int (bI (mn = true))), (1, .int 0), (0, .ref 86)]) [1, 0, 2] rfl ?_
              have hst := sqM_num (n := nmP b z i1) (i := i1) (mn := mn) (H := H) (o := o) (O := O) h1
              have hlt := hnx.2.2 (stM_0 hst)
              exact ih (nxP b z i1) false false _ _ _ _ zg13 (by omega) hnx.2.1 (fun y => by cases y) (QUa.mono (by omega)) (F2.tr ((hfP.tr hfUa).mono (by decide))) (((hfP.tr hfUa).2.1 21 (by unfold eX; omega)).trans hn21) ((rnM_l b z hi1 hst).symm.trans he)
          · have h1 : ¬ tkP b z i1 = 1 := fun y => zc27 (hmt.2.1.mpr y)
            refine xj_aload_n (n := 0) (i := 0) 2 rfl rfl dX12_eRead_30 ?_
            refine yj_getf (v := .int (mtq (tkP b z i1))) fl_X12_116_12 (by omega) (fq_86 zg11) (congrArg (fun z => some (Value.int z)) hn23) dX12_eRead_31 ?_
            refine xj_iconst (v := 2) (by decide) dX12_eRead_34 ?_
            refine xj_icmp_ne (tgt := 75) (by decide) dX12_eRead_35 (fun zc35 => ?_) (fun zc35 => ?_)
            · have h2 : ¬ 262 ≤ tkP b z i1 := fun y => zc35 (hmt.2.2.1.mpr y)
              refine xj_aload_n (n := 0) (i := 0) 2 rfl rfl dX12_eRead_75 ?_
              refine yj_getf (v := .int (mtq (tkP b z i1))) fl_X12_116_12 (by omega) (fq_86 zg11) (congrArg (fun z => some (Value.int z)) hn23) dX12_eRead_76 ?_
              refine xj_bipush (v := 6) (by decide) dX12_eRead_79 ?_
              refine xj_icmp_ne (tgt := 99) (by decide) dX12_eRead_81 (fun zc81 => ?_) (fun zc81 => ?_)
              · have h3 : ¬ (tkP b z i1 = 261 ∧ mn = true) := fun y => zc81 (hmt.2.2.2.2.1.mpr y.1)
                refine xj_aload_n (n := 0) (i := 0) 2 rfl rfl dX12_eRead_99 ?_
                refine yj_getf (v := .int (mtq (tkP b z i1))) fl_X12_116_12 (by omega) (fq_86 zg11) (congrArg (fun z => some (Value.int z)) hn23) dX12_eRead_100 ?_
                refine xj_bipush (v := 45) (by decide) dX12_eRead_103 ?_
                refine xj_icmp_ne (tgt := 124) (by decide) dX12_eRead_105 (fun zc105 => ?_) (fun zc105 => ?_)
                · have h4 : ¬ tkP b z i1 = 45 := fun y => zc105 (hmt.2.2.2.2.2.1.mpr y)
                  refine xj_aload_n (n := 0) (i := 0) 2 rfl rfl dX12_eRead_124 ?_
                  refine yj_getf (v := .int (mtq (tkP b z i1))) fl_X12_116_12 (by omega) (fq_86 zg11) (congrArg (fun z => some (Value.int z)) hn23) dX12_eRead_125 ?_
                  refine xj_bipush (v := 40) (by decide) dX12_eRead_128 ?_
                  refine xj_icmp_ne (tgt := 148) (by decide) dX12_eRead_130 (fun zc130 => ?_) (fun zc130 => ?_)
                  · have h5 : ¬ tkP b z i1 = 40 := fun y => zc130 (hmt.2.2.2.2.2.2.1.mpr y)
                    have hR : R = (false, i1, []) := he.symm.trans (rnM_r b z hi1 (sqM_no (n := nmP b z i1) (i := i1) (mn := mn) (H := H) (o := o) (O := O) h1 h2 h3 h4 h5))
                    refine xj_iconst (v := 0) (by decide) dX12_eRead_148 ?_
                    exact xj_ireturn rfl nr_b0 (Nat.zero_le _) (Nat.zero_le _) dX12_eRead_149 (qI_e ⟨(F2.tr ((fe.rf : fe 27 t zg11 zg11).mono (by decide))), by rw [hR]; rfl, by rw [hR]; exact hi1, by rw [hR]; exact ((fe.rf : fe 27 t zg11 zg11).2.1 22 (by unfold eX; omega)).trans hn22, by rw [hR]; exact ((fe.rf : fe 27 t zg11 zg11).2.1 21 (by unfold eX; omega)).trans hn21, fun y => by rw [hR] at y; cases y⟩)
                  · have h5 : tkP b z i1 = 40 := hmt.2.2.2.2.2.2.1.mp zc130
                    refine xj_aload_n (n := 0) (i := 0) 2 rfl rfl dX12_eRead_133 ?_
                    refine xj_iconst (v := 0) (by decide) dX12_eRead_134 ?_
                    refine xj_callV kv_X12_153 (c_X12_opensOne l (d + 1) n hn zg11 t ht C i1 (by omega) H o O Q2 (0) (0) (by decide) (by decide) (by decide)) (As := [.int 0]) (st := []) (by omega) (fq_86 zg11) (ci := 12) rfl rfl rfl rfl (xRm_of (by omega) (by decide) (by omega) (by omega)) (Nat.le_of_ble_eq_true rfl) dX12_eRead_135 (yk_i (kc := 0) (ks := 0) fun zv14 zg15 hzg15 => ?_)
                    have hO := hzg15
                    rcases hO with ⟨hv, ho, hg⟩ | ⟨hv, ho, QO, hfO⟩
                    · rw [hv]
                      rw [hg]
                      have hR : R = (false, i1, []) := he.symm.trans (rnM_r b z hi1 ((sqM_par (n := nmP b z i1) (i := i1) (mn := mn) (H := H) (o := o) (O := O) h1 h2 h3 h4 h5).trans (if_pos ho)))
                      refine xj_if_ne (tgt := 143) (by decide) dX12_eRead_138 (fun zc138 => ?_) (fun zc138 => ?_)
                      · exact absurd zc138 (fun z => z rfl)
                      · refine xj_iconst (v := 0) (by decide) dX12_eRead_141 ?_
                        exact xj_ireturn rfl nr_b0 (Nat.zero_le _) (Nat.zero_le _) dX12_eRead_142 (qI_e ⟨(F2.tr ((fe.rf : fe 27 t zg11 zg11).mono (by decide))), by rw [hR]; rfl, by rw [hR]; exact hi1, by rw [hR]; exact ((fe.rf : fe 27 t zg11 zg11).2.1 22 (by unfold eX; omega)).trans hn22, by rw [hR]; exact ((fe.rf : fe 27 t zg11 zg11).2.1 21 (by unfold eX; omega)).trans hn21, fun y => by rw [hR] at y; cases y⟩)
                    · rw [hv]
                      have hst := (sqM_par (n := nmP b z i1) (i := i1) (mn := mn) (H := H) (o := o) (O := O) h1 h2 h3 h4 h5).trans (if_neg ho)
                      refine xj_if_ne (tgt := 143) (by decide) dX12_eRead_138 (fun zc138 => ?_) (fun zc138 => ?_)
                      · refine xj_iconst (v := 1) (by decide) dX12_eRead_143 ?_
                        refine xj_istore_n (n := 2) (i := 2) (lv1 := [(2, .int 1), (1, .int (bI (true = true))), (0, .ref 86)]) rfl rfl (Nat.le_of_ble_eq_true rfl) dX12_eRead_144 ?_
                        refine xj_goto (tgt := 14) (by decide) dX12_eRead_145 ?_
                        refine xj_sub (lv' := [(2, .int 1), (1, .int (bI (true = true))), (0, .ref 86)]) [0, 1, 2] rfl ?_
                        have hlt := hnx.2.2 (stM_0 hst)
                        exact ih (nxP b z i1) true true _ _ _ _ zg15 (by omega) hnx.2.1 (fun _ => rfl) (QO.mono (by omega)) (F2.tr (hfO.mono (by decide))) ((hfO.2.1 21 (by unfold eX; omega)).trans hn21) ((rnM_l b z hi1 hst).symm.trans he)
                      · exact absurd zc138 (by decide)
                · have h4 : tkP b z i1 = 45 := hmt.2.2.2.2.2.1.mp zc105
                  refine xj_aload_n (n := 0) (i := 0) 2 rfl rfl dX12_eRead_108 ?_
                  refine xj_bipush (v := 19) (by decide) dX12_eRead_109 ?_
                  refine xj_callV kv_X12_153 (c_X12_opensOne l (d + 1) n hn zg11 t ht C i1 (by omega) H o O Q2 (-3) (19) (by decide) (by decide) (by decide)) (As := [.int 19]) (st := []) (by omega) (fq_86 zg11) (ci := 12) rfl rfl rfl rfl (xRm_of (by omega) (by decide) (by omega) (by omega)) (Nat.le_of_ble_eq_true rfl) dX12_eRead_111 (yk_i (kc := 0) (ks := 0) fun zv16 zg17 hzg17 => ?_)
                  have hO := hzg17
                  rcases hO with ⟨hv, ho, hg⟩ | ⟨hv, ho, QO, hfO⟩
                  · rw [hv]
                    rw [hg]
                    have hR : R = (false, i1, []) := he.symm.trans (rnM_r b z hi1 ((sqM_neg (n := nmP b z i1) (i := i1) (mn := mn) (H := H) (o := o) (O := O) h1 h2 h3 h4).trans (if_pos ho)))
                    refine xj_if_ne (tgt := 119) (by decide) dX12_eRead_114 (fun zc114 => ?_) (fun zc114 => ?_)
                    · exact absurd zc114 (fun z => z rfl)
                    · refine xj_iconst (v := 0) (by decide) dX12_eRead_117 ?_
                      exact xj_ireturn rfl nr_b0 (Nat.zero_le _) (Nat.zero_le _) dX12_eRead_118 (qI_e ⟨(F2.tr ((fe.rf : fe 27 t zg11 zg11).mono (by decide))), by rw [hR]; rfl, by rw [hR]; exact hi1, by rw [hR]; exact ((fe.rf : fe 27 t zg11 zg11).2.1 22 (by unfold eX; omega)).trans hn22, by rw [hR]; exact ((fe.rf : fe 27 t zg11 zg11).2.1 21 (by unfold eX; omega)).trans hn21, fun y => by rw [hR] at y; cases y⟩)
                  · rw [hv]
                    have hst := (sqM_neg (n := nmP b z i1) (i := i1) (mn := mn) (H := H) (o := o) (O := O) h1 h2 h3 h4).trans (if_neg ho)
                    refine xj_if_ne (tgt := 119) (by decide) dX12_eRead_114 (fun zc114 => ?_) (fun zc114 => ?_)
                    · refine xj_iconst (v := 0) (by decide) dX12_eRead_119 ?_
                      refine xj_istore_n (n := 2) (i := 2) (lv1 := [(2, .int 0), (1, .int (bI (true = true))), (0, .ref 86)]) rfl rfl (Nat.le_of_ble_eq_true rfl) dX12_eRead_120 ?_
                      refine xj_goto (tgt := 14) (by decide) dX12_eRead_121 ?_
                      refine xj_sub (lv' := [(2, .int 0), (1, .int (bI (true = true))), (0, .ref 86)]) [0, 1, 2] rfl ?_
                      have hlt := hnx.2.2 (stM_0 hst)
                      exact ih (nxP b z i1) true false _ _ _ _ zg17 (by omega) hnx.2.1 (fun _ => rfl) (QO.mono (by omega)) (F2.tr (hfO.mono (by decide))) ((hfO.2.1 21 (by unfold eX; omega)).trans hn21) ((rnM_l b z hi1 hst).symm.trans he)
                    · exact absurd zc114 (by decide)
              · have h6 : tkP b z i1 = 261 := hmt.2.2.2.2.1.mp zc81
                refine xj_iload_n (n := 2) (i := 2) 0 rfl rfl dX12_eRead_84 ?_
                refine xj_if_eq (tgt := 99) (by decide) dX12_eRead_85 (fun zc85 => ?_) (fun zc85 => ?_)
                · have h3 : ¬ (tkP b z i1 = 261 ∧ mn = true) := fun y => bI_0.mp zc85 y.2
                  refine xj_aload_n (n := 0) (i := 0) 2 rfl rfl dX12_eRead_99 ?_
                  refine yj_getf (v := .int (mtq (tkP b z i1))) fl_X12_116_12 (by omega) (fq_86 zg11) (congrArg (fun z => some (Value.int z)) hn23) dX12_eRead_100 ?_
                  refine xj_bipush (v := 45) (by decide) dX12_eRead_103 ?_
                  refine xj_icmp_ne (tgt := 124) (by decide) dX12_eRead_105 (fun zc105 => ?_) (fun zc105 => ?_)
                  · have h4 : ¬ tkP b z i1 = 45 := fun y => zc105 (hmt.2.2.2.2.2.1.mpr y)
                    refine xj_aload_n (n := 0) (i := 0) 2 rfl rfl dX12_eRead_124 ?_
                    refine yj_getf (v := .int (mtq (tkP b z i1))) fl_X12_116_12 (by omega) (fq_86 zg11) (congrArg (fun z => some (Value.int z)) hn23) dX12_eRead_125 ?_
                    refine xj_bipush (v := 40) (by decide) dX12_eRead_128 ?_
                    refine xj_icmp_ne (tgt := 148) (by decide) dX12_eRead_130 (fun zc130 => ?_) (fun zc130 => ?_)
                    · have h5 : ¬ tkP b z i1 = 40 := fun y => zc130 (hmt.2.2.2.2.2.2.1.mpr y)
                      have hR : R = (false, i1, []) := he.symm.trans (rnM_r b z hi1 (sqM_no (n := nmP b z i1) (i := i1) (mn := mn) (H := H) (o := o) (O := O) h1 h2 h3 h4 h5))
                      refine xj_iconst (v := 0) (by decide) dX12_eRead_148 ?_
                      exact xj_ireturn rfl nr_b0 (Nat.zero_le _) (Nat.zero_le _) dX12_eRead_149 (qI_e ⟨(F2.tr ((fe.rf : fe 27 t zg11 zg11).mono (by decide))), by rw [hR]; rfl, by rw [hR]; exact hi1, by rw [hR]; exact ((fe.rf : fe 27 t zg11 zg11).2.1 22 (by unfold eX; omega)).trans hn22, by rw [hR]; exact ((fe.rf : fe 27 t zg11 zg11).2.1 21 (by unfold eX; omega)).trans hn21, fun y => by rw [hR] at y; cases y⟩)
                    · have h5 : tkP b z i1 = 40 := hmt.2.2.2.2.2.2.1.mp zc130
                      refine xj_aload_n (n := 0) (i := 0) 2 rfl rfl dX12_eRead_133 ?_
                      refine xj_iconst (v := 0) (by decide) dX12_eRead_134 ?_
                      refine xj_callV kv_X12_153 (c_X12_opensOne l (d + 1) n hn zg11 t ht C i1 (by omega) H o O Q2 (0) (0) (by decide) (by decide) (by decide)) (As := [.int 0]) (st := []) (by omega) (fq_86 zg11) (ci := 12) rfl rfl rfl rfl (xRm_of (by omega) (by decide) (by omega) (by omega)) (Nat.le_of_ble_eq_true rfl) dX12_eRead_135 (yk_i (kc := 0) (ks := 0) fun zv18 zg19 hzg19 => ?_)
                      have hO := hzg19
                      rcases hO with ⟨hv, ho, hg⟩ | ⟨hv, ho, QO, hfO⟩
                      · rw [hv]
                        rw [hg]
                        have hR : R = (false, i1, []) := he.symm.trans (rnM_r b z hi1 ((sqM_par (n := nmP b z i1) (i := i1) (mn := mn) (H := H) (o := o) (O := O) h1 h2 h3 h4 h5).trans (if_pos ho)))
                        refine xj_if_ne (tgt := 143) (by decide) dX12_eRead_138 (fun zc138 => ?_) (fun zc138 => ?_)
                        · exact absurd zc138 (fun z => z rfl)
                        · refine xj_iconst (v := 0) (by decide) dX12_eRead_141 ?_
                          exact xj_ireturn rfl nr_b0 (Nat.zero_le _) (Nat.zero_le _) dX12_eRead_142 (qI_e ⟨(F2.tr ((fe.rf : fe 27 t zg11 zg11).mono (by decide))), by rw [hR]; rfl, by rw [hR]; exact hi1, by rw [hR]; exact ((fe.rf : fe 27 t zg11 zg11).2.1 22 (by unfold eX; omega)).trans hn22, by rw [hR]; exact ((fe.rf : fe 27 t zg11 zg11).2.1 21 (by unfold eX; omega)).trans hn21, fun y => by rw [hR] at y; cases y⟩)
                      · rw [hv]
                        have hst := (sqM_par (n := nmP b z i1) (i := i1) (mn := mn) (H := H) (o := o) (O := O) h1 h2 h3 h4 h5).trans (if_neg ho)
                        refine xj_if_ne (tgt := 143) (by decide) dX12_eRead_138 (fun zc138 => ?_) (fun zc138 => ?_)
                        · refine xj_iconst (v := 1) (by decide) dX12_eRead_143 ?_
                          refine xj_istore_n (n := 2) (i := 2) (lv1 := [(2, .int 1), (1, .int (bI (true = true))), (0, .ref 86)]) rfl rfl (Nat.le_of_ble_eq_true rfl) dX12_eRead_144 ?_
                          refine xj_goto (tgt := 14) (by decide) dX12_eRead_145 ?_
                          refine xj_sub (lv' := [(2, .int 1), (1, .int (bI (true = true))), (0, .ref 86)]) [0, 1, 2] rfl ?_
                          have hlt := hnx.2.2 (stM_0 hst)
                          exact ih (nxP b z i1) true true _ _ _ _ zg19 (by omega) hnx.2.1 (fun _ => rfl) (QO.mono (by omega)) (F2.tr (hfO.mono (by decide))) ((hfO.2.1 21 (by unfold eX; omega)).trans hn21) ((rnM_l b z hi1 hst).symm.trans he)
                        · exact absurd zc138 (by decide)
                  · have h4 : tkP b z i1 = 45 := hmt.2.2.2.2.2.1.mp zc105
                    refine xj_aload_n (n := 0) (i := 0) 2 rfl rfl dX12_eRead_108 ?_
                    refine xj_bipush (v := 19) (by decide) dX12_eRead_109 ?_
                    refine xj_callV kv_X12_153 (c_X12_opensOne l (d + 1) n hn zg11 t ht C i1 (by omega) H o O Q2 (-3) (19) (by decide) (by decide) (by decide)) (As := [.int 19]) (st := []) (by omega) (fq_86 zg11) (ci := 12) rfl rfl rfl rfl (xRm_of (by omega) (by decide) (by omega) (by omega)) (Nat.le_of_ble_eq_true rfl) dX12_eRead_111 (yk_i (kc := 0) (ks := 0) fun zv20 zg21 hzg21 => ?_)
                    have hO := hzg21
                    rcases hO with ⟨hv, ho, hg⟩ | ⟨hv, ho, QO, hfO⟩
                    · rw [hv]
                      rw [hg]
                      have hR : R = (false, i1, []) := he.symm.trans (rnM_r b z hi1 ((sqM_neg (n := nmP b z i1) (i := i1) (mn := mn) (H := H) (o := o) (O := O) h1 h2 h3 h4).trans (if_pos ho)))
                      refine xj_if_ne (tgt := 119) (by decide) dX12_eRead_114 (fun zc114 => ?_) (fun zc114 => ?_)
                      · exact absurd zc114 (fun z => z rfl)
                      · refine xj_iconst (v := 0) (by decide) dX12_eRead_117 ?_
                        exact xj_ireturn rfl nr_b0 (Nat.zero_le _) (Nat.zero_le _) dX12_eRead_118 (qI_e ⟨(F2.tr ((fe.rf : fe 27 t zg11 zg11).mono (by decide))), by rw [hR]; rfl, by rw [hR]; exact hi1, by rw [hR]; exact ((fe.rf : fe 27 t zg11 zg11).2.1 22 (by unfold eX; omega)).trans hn22, by rw [hR]; exact ((fe.rf : fe 27 t zg11 zg11).2.1 21 (by unfold eX; omega)).trans hn21, fun y => by rw [hR] at y; cases y⟩)
                    · rw [hv]
                      have hst := (sqM_neg (n := nmP b z i1) (i := i1) (mn := mn) (H := H) (o := o) (O := O) h1 h2 h3 h4).trans (if_neg ho)
                      refine xj_if_ne (tgt := 119) (by decide) dX12_eRead_114 (fun zc114 => ?_) (fun zc114 => ?_)
                      · refine xj_iconst (v := 0) (by decide) dX12_eRead_119 ?_
                        refine xj_istore_n (n := 2) (i := 2) (lv1 := [(2, .int 0), (1, .int (bI (true = true))), (0, .ref 86)]) rfl rfl (Nat.le_of_ble_eq_true rfl) dX12_eRead_120 ?_
                        refine xj_goto (tgt := 14) (by decide) dX12_eRead_121 ?_
                        refine xj_sub (lv' := [(2, .int 0), (1, .int (bI (true = true))), (0, .ref 86)]) [0, 1, 2] rfl ?_
                        have hlt := hnx.2.2 (stM_0 hst)
                        exact ih (nxP b z i1) true false _ _ _ _ zg21 (by omega) hnx.2.1 (fun _ => rfl) (QO.mono (by omega)) (F2.tr (hfO.mono (by decide))) ((hfO.2.1 21 (by unfold eX; omega)).trans hn21) ((rnM_l b z hi1 hst).symm.trans he)
                      · exact absurd zc114 (by decide)
                · have hmn : mn = true := bI_n0.mp zc85
                  refine xj_aload_n (n := 0) (i := 0) 2 rfl rfl dX12_eRead_88 ?_
                  refine xj_bipush (v := 13) (by decide) dX12_eRead_89 ?_
                  refine xj_callV kv_X12_153 (c_X12_opensOne l (d + 1) n hn zg11 t ht C i1 (by omega) H o O Q2 (-261) (13) (by decide) (by decide) (by decide)) (As := [.int 13]) (st := []) (by omega) (fq_86 zg11) (ci := 12) rfl rfl rfl rfl (xRm_of (by omega) (by decide) (by omega) (by omega)) (Nat.le_of_ble_eq_true rfl) dX12_eRead_91 (yk_i (kc := 0) (ks := 0) fun zv22 zg23 hzg23 => ?_)
                  have hO := hzg23
                  rcases hO with ⟨hv, ho, hg⟩ | ⟨hv, ho, QO, hfO⟩
                  · rw [hv]
                    rw [hg]
                    have hR : R = (false, i1, []) := he.symm.trans (rnM_r b z hi1 ((sqM_not (n := nmP b z i1) (i := i1) (mn := mn) (H := H) (o := o) (O := O) h1 h2 h6 hmn).trans (if_pos ho)))
                    refine xj_if_ne (tgt := 14) (by decide) dX12_eRead_94 (fun zc94 => ?_) (fun zc94 => ?_)
                    · exact absurd zc94 (fun z => z rfl)
                    · refine xj_iconst (v := 0) (by decide) dX12_eRead_97 ?_
                      exact xj_ireturn rfl nr_b0 (Nat.zero_le _) (Nat.zero_le _) dX12_eRead_98 (qI_e ⟨(F2.tr ((fe.rf : fe 27 t zg11 zg11).mono (by decide))), by rw [hR]; rfl, by rw [hR]; exact hi1, by rw [hR]; exact ((fe.rf : fe 27 t zg11 zg11).2.1 22 (by unfold eX; omega)).trans hn22, by rw [hR]; exact ((fe.rf : fe 27 t zg11 zg11).2.1 21 (by unfold eX; omega)).trans hn21, fun y => by rw [hR] at y; cases y⟩)
                  · rw [hv]
                    have hst := (sqM_not (n := nmP b z i1) (i := i1) (mn := mn) (H := H) (o := o) (O := O) h1 h2 h6 hmn).trans (if_neg ho)
                    refine xj_if_ne (tgt := 14) (by decide) dX12_eRead_94 (fun zc94 => ?_) (fun zc94 => ?_)
                    · refine xj_sub (lv' := [(2, .int (bI (mn = true))), (1, .int (bI (true = true))), (0, .ref 86)]) [0, 1, 2] rfl ?_
                      have hlt := hnx.2.2 (stM_0 hst)
                      exact ih (nxP b z i1) true true _ _ _ _ zg23 (by omega) hnx.2.1 (fun _ => by rw [hmn]) (QO.mono (by omega)) (F2.tr (hfO.mono (by decide))) ((hfO.2.1 21 (by unfold eX; omega)).trans hn21) ((rnM_l b z hi1 hst).symm.trans he)
                    · exact absurd zc94 (by decide)
            · have h2 : 262 ≤ tkP b z i1 := hmt.2.2.1.mp zc35
              have hlt0 := hnx.2.2 (fun y => by rw [y] at h2; exact absurd h2 (by decide))
              refine xj_aload_n (n := 0) (i := 0) 2 rfl rfl dX12_eRead_38 ?_
              refine xj_aload_n (n := 0) (i := 0) 2 rfl rfl dX12_eRead_39 ?_
              refine yj_getf (v := .int (mtq (tkP b z i1))) fl_X12_116_12 (by omega) (fq_86 zg11) (congrArg (fun z => some (Value.int z)) hn23) dX12_eRead_40 ?_
              refine xj_iconst (v := 1) (by decide) dX12_eRead_43 ?_
              refine xj_icmp_ne (tgt := 57) (by decide) dX12_eRead_44 (fun zc44 => ?_) (fun zc44 => ?_)
              · refine xj_aload_n (n := 0) (i := 0) 2 rfl rfl dX12_eRead_57 ?_
                refine yj_getf (v := .int (tkP b z i1 - 262)) fl_X12_119_12 (by omega) (fq_86 zg11) (congrArg (fun z => some (Value.int z)) (hn25 h2)) dX12_eRead_58 ?_
                refine xj_top (show (tkP b z i1 - 262) = tqO (-tkP b z i1) from ((sgR_t _ hin).2.1 h2).symm) ?_
                refine xj_callV kv_X12_139 (c_X12_puts l (d + 2) n hn zg11 t (O ++ C).length ht (by omega) (tqO (-tkP b z i1)) Q2.1.2.2.1 Q2.1.2.2.2) (As := [.int (tqO (-tkP b z i1))]) (st := []) (by omega) (fq_86 zg11) (ci := 12) rfl rfl rfl rfl (xRm_of (by omega) (by decide) (by omega) (by omega)) (Nat.le_of_ble_eq_true rfl) dX12_eRead_61 (yk_v (kc := 0) (ks := 0) fun zg24 hzg24 => ?_)
                have QP : mqK zg24 t C (i1 + 1) H o ((-tkP b z i1) :: O) := by rw [hzg24]; exact Q2.put _
                have hfP : fe 27 t zg11 zg24 := by rw [hzg24]; exact fe.rf.put (by omega) _ _
                refine xj_aload_n (n := 0) (i := 0) 2 rfl rfl dX12_eRead_64 ?_
                refine xj_bipush (v := 7) (by decide) dX12_eRead_65 ?_
                refine xj_top (show 7 = nI 7 from rfl) ?_
                refine xj_callV kv_X12_146 (c_X12_unwinds l (d + 1) n hn zg24 t ht C (i1 + 1) (by omega) H o ((-tkP b z i1) :: O) QP 7 (by decide)) (As := [.int (nI 7)]) (st := []) (by omega) (fq_86 zg24) (ci := 12) rfl rfl rfl rfl (xRm_of (by omega) (by decide) (by omega) (by omega)) (Nat.le_of_ble_eq_true rfl) dX12_eRead_67 (yk_v (kc := 0) (ks := 0) fun zg25 hzg25 => ?_)
                obtain ⟨QUa, hfUa⟩ := hzg25
                refine xj_iconst (v := 0) (by decide) dX12_eRead_70 ?_
                refine xj_istore_n (n := 1) (i := 1) (lv1 := [(1, .int 0), (2, .int (bI (mn = true))), (0, .ref 86)]) rfl rfl (Nat.le_of_ble_eq_true rfl) dX12_eRead_71 ?_
                refine xj_goto (tgt := 14) (by decide) dX12_eRead_72 ?_
                refine xj_sub (lv' := [(2, .int (bI (mn = true))), (1, .int 0), (0, .ref 86)]) [1, 0, 2] rfl ?_
                have hst := sqM_nam (n := nmP b z i1) (i := i1) (mn := mn) (H := H) (o := o) (O := O) h1 h2
                have hlt := hnx.2.2 (stM_0 hst)
                exact ih (nxP b z i1) false false _ _ _ _ zg25 (by omega) hnx.2.1 (fun y => by cases y) (QUa.mono (by omega)) (F2.tr ((hfP.tr hfUa).mono (by decide))) (((hfP.tr hfUa).2.1 21 (by unfold eX; omega)).trans hn21) ((rnM_l b z hi1 hst).symm.trans he)
              · exact absurd zc44 zc27
  refine xj_sub (lv' := [(2, .int 1), (1, .int 1), (0, .ref 86)]) [0, 1, 2] rfl ?_
  exact key (z + 1 - i) i true true 1 [] 0 [] zg2 (by omega) hi (fun _ => rfl) Q0 fzg2 t21zg2 hRR
