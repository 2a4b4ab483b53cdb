theorem zext {A B : zSt} (h : ∀ q j, A q j = B q j) : A = B := funext fun q => funext fun j => h q j
/-- kind and addition of one sleeper -/
def stKm (A : zSt) (s : Nat) (k m : Int32) : zSt := gs (gs A 1 s k) 2 s m
theorem stKm_n (A : zSt) (s : Nat) (k m : Int32) {q : Nat} (h1 : q ≠ 1) (h2 : q ≠ 2) : stKm A s k m q = A q := by unfold stKm; rw [gs_n _ _ _ h2, gs_n _ _ _ h1]
theorem stKm_1 (A : zSt) (s : Nat) (k m : Int32) : stKm A s k m 1 = upd (A 1) s k := by unfold stKm; rw [gs_n _ _ _ (by decide), gs_s]
theorem stKm_2 (A : zSt) (s : Nat) (k m : Int32) : stKm A s k m 2 = upd (A 2) s m := by unfold stKm; rw [gs_s, gs_n _ _ _ (by decide)]
theorem upd_up (r : Nat → Int32) (k : Nat) (x y : Int32) : upd (upd r k x) k y = upd r k y := by
  funext j
  by_cases e : j = k
  · subst e; rw [upd_s, upd_s]
  · rw [upd_n _ _ e, upd_n _ _ e, upd_n _ _ e]
theorem upd_id (r : Nat → Int32) (k : Nat) : upd r k (r k) = r := by
  funext j
  by_cases e : j = k
  · subst e; rw [upd_s]
  · rw [upd_n _ _ e]
theorem stKm_back (A : zSt) (s : Nat) : stKm A s (A 1 s) (A 2 s) = A := by
  funext q
  by_cases h1 : q = 1
  · subst h1; rw [stKm_1, upd_id]
  · by_cases h2 : q = 2
    · subst h2; rw [stKm_2, upd_id]
    · exact stKm_n A s _ _ h1 h2
theorem stKm_k {A : zSt} {s k : Nat} {m : Int32} (hk : k < 6) : aK (stKm A s (nI k) m) s = k := by unfold aK; rw [stKm_1, upd_s]; exact nI_clamp (by omega)
theorem okA.km {A : zSt} (O : okA A) {s : Nat} {k m : Int32} (hk : nI99 k 5) (hm : nI99 m 9) : okA (stKm A s k m) := by
  have en := fun {q : Nat} (h1 : q ≠ 1) (h2 : q ≠ 2) => stKm_n A s k m h1 h2
  have e0 : stKm A s k m 0 = A 0 := en (by decide) (by decide)
  obtain ⟨o1, o2, o3, o4, o5, o6, o7, o8, o9⟩ := O
  have key : ∀ (s' : Nat) (pic : Int32) (d d' : Nat → Int32), d' = d → okP (A 1 s') (A 2 s') pic d → okP (stKm A s k m 1 s') (stKm A s k m 2 s') pic d' := by
    intro s' pic d d' ed h
    rw [ed, stKm_1, stKm_2]
    by_cases e : s' = s
    · subst e; rw [upd_s, upd_s]; exact ⟨hk, hm, h.2.2⟩
    · rw [upd_n _ _ e, upd_n _ _ e]; exact h
  refine ⟨?_, ?_, ?_, ?_, ?_, ?_, fun s' hs => ?_, ?_, o9.keep (en (by decide) (by decide)) (en (by decide) (by decide))⟩
  · unfold aS; rw [e0]; exact o1
  · unfold aN; rw [e0]; exact o2
  · unfold aM; rw [e0]; exact o3
  · unfold aT; rw [e0]; exact o4
  · unfold aW aT; rw [e0]; exact o5
  · unfold aZ; rw [e0]; exact o6
  · have hs' : s' < aS A := by unfold aS at hs ⊢; rw [← e0]; exact hs
    rw [en (q := 3) (by decide) (by decide)]
    exact key s' _ _ _ (en (by omega) (by omega)) (o7 s' hs')
  · unfold okI aI aS aT
    rw [e0, en (q := 4) (by decide) (by decide)]
    rcases o8 with w | ⟨w1, w2, w3, w4, w5, w6, w7⟩
    · exact Or.inl w
    · exact Or.inr ⟨w1, w2, w3, w4, w5, w6, fun s' hs => key s' _ _ _ (en (by omega) (by omega)) (w7 s' hs)⟩
theorem mA.km {g : xG} {A : zSt} {Λ : Nat → xL} (C : mA g A Λ) (s : Nat) (k m : Int32) : mA (gs (gs g 87 s k) 88 s m) (stKm A s k m) Λ := by
  have en := fun {q : Nat} (h1 : q ≠ 1) (h2 : q ≠ 2) => stKm_n A s k m h1 h2
  have e0 : stKm A s k m 0 = A 0 := en (by decide) (by decide)
  have eg : ∀ j, j ≠ 87 → j ≠ 88 → gs (gs g 87 s k) 88 s m j = g j := fun j a b => by rw [gs_n _ _ _ b, gs_n _ _ _ a]
  have e87 : gs (gs g 87 s k) 88 s m 87 = upd (g 87) s k := by rw [gs_n _ _ _ (by decide), gs_s]
  have e88 : gs (gs g 87 s k) 88 s m 88 = upd (g 88) s m := by rw [gs_s, gs_n _ _ _ (by decide)]
  obtain ⟨c1, cp, ct, cb, ci, cq, cw⟩ := id C
  refine C.up ?_ (fun s' hs => ?_) ⟨by rw [e0], eg _ (by decide) (by decide), eg _ (by decide) (by decide)⟩ (cb.k (by rw [e0]) (eg _ (by decide) (by decide)) (en (by decide) (by decide))) (ci.k (fun q a b => eg q (by omega) (by omega)) (fun i a b => by rw [e0]) (fun _ s _ => ⟨by rw [en (q := 4) (by decide) (by decide)], en (by omega) (by omega)⟩)) (cq.k (fun q a b => eg q (by omega) (by omega)) (en (by decide) (by decide)) (en (by decide) (by decide)) (fun q _ => en (by omega) (by omega))) (eg _ (by decide) (by decide))
  · unfold mA1
    rw [eg 86 (by decide) (by decide), e0]
    exact c1
  · have hs' : s' < aS A := by unfold aS at hs ⊢; rw [← e0]; exact hs
    obtain ⟨a, b, c, d⟩ := cp s' hs'
    rw [e87, e88, eg 89 (by decide) (by decide), eg 90 (by decide) (by decide), stKm_1, stKm_2, en (q := 3) (by decide) (by decide), en (q := 10 + s') (by omega) (by omega)]
    refine ⟨?_, ?_, c, d⟩
    · by_cases e : s' = s
      · subst e; rw [upd_s, upd_s]
      · rw [upd_n _ _ e, upd_n _ _ e]; exact a
    · by_cases e : s' = s
      · subst e; rw [upd_s, upd_s]
      · rw [upd_n _ _ e, upd_n _ _ e]; exact b
theorem stKm_up (A : zSt) (s : Nat) (k m k' m' : Int32) : stKm (stKm A s k m) s k' m' = stKm A s k' m' := by
  funext q
  by_cases h1 : q = 1
  · subst h1; rw [stKm_1, stKm_1, stKm_1, upd_up]
  · by_cases h2 : q = 2
    · subst h2; rw [stKm_2, stKm_2, stKm_2, upd_up]
    · rw [stKm_n _ s _ _ h1 h2, stKm_n _ s _ _ h1 h2, stKm_n _ s _ _ h1 h2]
theorem foF_km (A : zSt) (Λ : Nat → xL) (q s s' k' : Nat) (k m more : Int32) (t : Nat) : foF (stKm A s' k m) Λ q s k' more t = foF A Λ q s k' more t := by
  unfold foF aQ aN
  rw [stKm_n A s' k m (q := 3) (by decide) (by decide), stKm_n A s' k m (q := 10 + s) (by omega) (by omega), stKm_n A s' k m (q := 0) (by decide) (by decide), stKm_n A s' k m (q := 40 + q) (by omega) (by omega), stKm_n A s' k m (q := 6) (by decide) (by decide)]
theorem foF_law (A : zSt) (Λ : Nat → xL) (q s k : Nat) (more : Int32) (t : Nat) (x : Int32) : foF (gs A 0 4 x) Λ q s k more t = foF A Λ q s k more t := by
  have en := fun {q : Nat} (h : q ≠ 0) => gs_n A (q := 0) 4 x h
  unfold foF aQ aN
  rw [en (q := 3) (by decide), en (q := 10 + s) (by omega), en (q := 40 + q) (by omega), en (q := 6) (by decide), gs_s, upd_n _ _ (by decide)]
theorem law_back (A : zSt) (x : Int32) : gs (gs A 0 4 x) 0 4 (A 0 4) = A := by
  funext q
  by_cases h : q = 0
  · subst h; rw [gs_s, gs_s, upd_up, upd_id]
  · rw [gs_n _ _ _ h, gs_n _ _ _ h]
theorem law_up (A : zSt) (x y : Int32) : gs (gs A 0 4 x) 0 4 y = gs A 0 4 y := by
  funext q
  by_cases h : q = 0
  · subst h; rw [gs_s, gs_s, gs_s, upd_up]
  · rw [gs_n _ _ _ h, gs_n _ _ _ h, gs_n _ _ _ h]
set_option maxHeartbeats 4000000 in
set_option maxRecDepth 100000 in
theorem c_X12_kinds (l : Launch) (d : Nat) (n : Nat) (hn : 110 ≤ n) (g : xG) (A : zSt) (Λ : Nat → xL) (O : okA A) (C : mA g A Λ) (q s sort : Int32)  : xC l yX12_kinds cX12_kinds 9 (some .int) (xR (d + 7) 0 0) [.ref 86, .int q, .int s, .int sort] (n, fh g) (qI n fun v g1 => v = vKinds A Λ q s sort ∧ mA g1 A Λ ∧ fr mX g g1) := by
  refine xC_of false (by decide +kernel) (fun z => by cases z) (Nat.le_of_ble_eq_true rfl) ?_
  have hS6 := O.1.2
  have hW := O.W
  have hT6 := O.2.2.2.1.2.2
  have hN9 := O.2.1.2
  show xJ l (RX12, 9, (some .int), false, (xR (d + 7) 0 0), none) cX12_kinds _ 0 0 0 [(0, .ref 86), (1, .int q), (2, .int s), (3, .int sort)] [] (n, fh g)
  refine xj_aload_n (n := 0) (i := 0) 0 rfl rfl dX12_kinds_0 ?_
  refine xj_iload_n (n := 1) (i := 1) 1 rfl rfl dX12_kinds_1 ?_
  refine xj_iload_n (n := 2) (i := 2) 2 rfl rfl dX12_kinds_2 ?_
  refine xj_callV kv_X12_260 (c_X12_toldWrong l (d + 4) n hn g A Λ O C q s) (As := [.int q, .int s]) (st := []) (by omega) (fq_86 g) (ci := 12) rfl rfl rfl rfl (xRm_of (by omega) (by decide) (by omega) (by omega)) (Nat.le_of_ble_eq_true rfl) dX12_kinds_3 (yk_p (kc := 0) (ks := 0) ?_)
  refine xj_istore (i := 4) (lv1 := [(4, .int (refF A q s)), (0, .ref 86), (1, .int q), (2, .int s), (3, .int sort)]) rfl (Nat.le_of_ble_eq_true rfl) dX12_kinds_6 ?_
  refine xj_iload (i := 4) 0 rfl dX12_kinds_8 ?_
  refine xj_if_eq (tgt := 16) (by decide) dX12_kinds_10 (fun zc10 => ?_) (fun zc10 => ?_)
  · obtain ⟨kq, ks, hk4_kq, hks, rfl, rfl, hz20⟩ := refF_0 O zc10
    have hs6_ks : ks < 6 := by omega
    refine xj_iload_n (n := 3) (i := 3) 4 rfl rfl dX12_kinds_16 ?_
    refine xj_iconst (v := 0) (by decide) dX12_kinds_17 ?_
    refine xj_iconst (v := 1) (by decide) dX12_kinds_18 ?_
    refine xj_callS ks_X12_93 (c_X12_in l (d + 6) sort 0 1 _) (As := [.int sort, .int 0, .int 1]) (st := []) rfl rfl (xRm_of (by omega) (by decide) (by omega) (by omega)) (Nat.le_of_ble_eq_true rfl) dX12_kinds_19 (yk_p (kc := 0) (ks := 0) ?_)
    refine xj_if_ne (tgt := 28) (by decide) dX12_kinds_22 (fun zc22 => ?_) (fun zc22 => ?_)
    · have zp22 : 0 ≤ sort ∧ sort ≤ 1 := bI_n0.mp zc22
      obtain ⟨ksort, hksort, rfl⟩ := nI_bnd (m := 1) (by decide) zp22.1 zp22.2
      refine xj_aload_n (n := 0) (i := 0) 1 rfl rfl dX12_kinds_28 ?_
      refine yj_getf (v := .ref 87) fl_X12_7_12 (by omega) (fq_86 g) rfl dX12_kinds_29 ?_
      refine xj_iload_n (n := 2) (i := 2) 3 rfl rfl dX12_kinds_32 ?_
      refine yj_ialdN ks (by omega) fA_87 rfl (by omega) (by decide) dX12_kinds_33 ?_
      refine xj_top (C.k O hks) ?_
      refine xj_istore (i := 5) (lv1 := [(5, .int (nI (aK A ks))), (4, .int (refF A (nI kq) (nI ks))), (0, .ref 86), (1, .int (nI kq)), (2, .int (nI ks)), (3, .int (nI ksort))]) rfl (Nat.le_of_ble_eq_true rfl) dX12_kinds_34 ?_
      refine xj_aload_n (n := 0) (i := 0) 2 rfl rfl dX12_kinds_36 ?_
      refine yj_getf (v := .ref 88) fl_X12_13_12 (by omega) (fq_86 g) rfl dX12_kinds_37 ?_
      refine xj_iload_n (n := 2) (i := 2) 4 rfl rfl dX12_kinds_40 ?_
      refine yj_ialdN ks (by omega) fA_88 rfl (by omega) (by decide) dX12_kinds_41 ?_
      refine xj_top (C.mo hks) ?_
      refine xj_istore (i := 6) (lv1 := [(6, .int (A 2 ks)), (5, .int (nI (aK A ks))), (4, .int (refF A (nI kq) (nI ks))), (0, .ref 86), (1, .int (nI kq)), (2, .int (nI ks)), (3, .int (nI ksort))]) rfl (Nat.le_of_ble_eq_true rfl) dX12_kinds_42 ?_
      refine xj_iconst (v := 0) (by decide) dX12_kinds_44 ?_
      refine xj_istore (i := 7) (lv1 := [(7, .int 0), (6, .int (A 2 ks)), (5, .int (nI (aK A ks))), (4, .int (refF A (nI kq) (nI ks))), (0, .ref 86), (1, .int (nI kq)), (2, .int (nI ks)), (3, .int (nI ksort))]) rfl (Nat.le_of_ble_eq_true rfl) dX12_kinds_45 ?_
      refine xj_iconst (v := 0) (by decide) dX12_kinds_47 ?_
      refine xj_istore (i := 8) (lv1 := [(8, .int 0), (7, .int 0), (6, .int (A 2 ks)), (5, .int (nI (aK A ks))), (4, .int (refF A (nI kq) (nI ks))), (0, .ref 86), (1, .int (nI kq)), (2, .int (nI ks)), (3, .int (nI ksort))]) rfl (Nat.le_of_ble_eq_true rfl) dX12_kinds_48 ?_
      by_cases hso : nI ksort = 0
      · have key : ∀ i, i ≤ 6 → ∀ (g1 : xG) (zk zm : Int32), mA g1 (stKm A ks zk zm) Λ → fr mX g g1 → xJ l (RX12, 9, (some .int), false, (xR (d + 7) 0 0), none) cX12_kinds (qI n fun v g1 => v = vKinds A Λ (nI kq) (nI ks) (nI ksort) ∧ mA g1 A Λ ∧ fr mX g g1) 0 0 50 [(8, .int (nI i)), (7, .int (setF (fun k => decide (foF A Λ kq ks k (A 2 ks) (aW A) = -1)) i)), (0, .ref 86), (1, .int (nI kq)), (2, .int (nI ks)), (3, .int (nI ksort)), (5, .int (nI (aK A ks))), (6, .int (A 2 ks))] [] (n, fh g1) := by
          refine x_loop 6 _ ?_ ?_
          · intro g1 zk zm C1 hf
            refine xj_iload (i := 8) 0 rfl dX12_kinds_50 ?_
            refine xj_iload_n (n := 3) (i := 3) 5 rfl rfl dX12_kinds_52 ?_
            refine xj_if_ne (tgt := 61) (by decide) dX12_kinds_53 (fun zc53 => ?_) (fun zc53 => ?_)
            · exact absurd zc53 (fun z => z hso)
            · refine xj_bipush (v := 6) (by decide) dX12_kinds_56 ?_
              refine xj_goto (tgt := 63) (by decide) dX12_kinds_58 ?_
              refine xj_icmp_ge (tgt := 130) (by decide) dX12_kinds_63 (fun zc63 => ?_) (fun zc63 => ?_)
              · refine xj_aload_n (n := 0) (i := 0) 2 rfl rfl dX12_kinds_130 ?_
                refine yj_getf (v := .ref 87) fl_X12_7_12 (by omega) (fq_86 g1) rfl dX12_kinds_131 ?_
                refine xj_iload_n (n := 2) (i := 2) 4 rfl rfl dX12_kinds_134 ?_
                refine xj_iload (i := 5) 6 rfl dX12_kinds_135 ?_
                refine yj_iastN ks (by omega) fA_87 rfl (by omega) (by decide) dX12_kinds_137 ?_
                obtain ⟨zg1, ezg1⟩ : ∃ z, z = gs g1 87 ks (nI (aK A ks)) := ⟨_, rfl⟩
                rw [← ezg1]
                refine xj_aload_n (n := 0) (i := 0) 2 rfl rfl dX12_kinds_138 ?_
                refine yj_getf (v := .ref 88) fl_X12_13_12 (by omega) (fq_86 zg1) rfl dX12_kinds_139 ?_
                refine xj_iload_n (n := 2) (i := 2) 4 rfl rfl dX12_kinds_142 ?_
                refine xj_iload (i := 6) 7 rfl dX12_kinds_143 ?_
                refine yj_iastN ks (by omega) fA_88 rfl (by omega) (by decide) dX12_kinds_145 ?_
                obtain ⟨zg2, ezg2⟩ : ∃ z, z = gs zg1 88 ks (A 2 ks) := ⟨_, rfl⟩
                rw [← ezg2]
                have C9 : mA zg2 A Λ := by have h := C1.km ks (nI (aK A ks)) (A 2 ks); rw [stKm_up, ← O.K hks, stKm_back, O.K hks, ← ezg1, ← ezg2] at h; exact h
                have F9 : fr mX g zg2 := by rw [ezg2, ezg1]; exact (hf.gs (mX_i (by omega)) _ _).gs (mX_i (by omega)) _ _
                refine xj_iload (i := 7) 1 rfl dX12_kinds_146 ?_
                exact xj_ireturn rfl (nr_i _) (Nat.zero_le _) (Nat.zero_le _) dX12_kinds_148 (qI_e ⟨by unfold vKinds; (try simp only [nI_clamp (show kq < 2147483648 by omega), nI_clamp (show ks < 2147483648 by omega), nI_clamp (show ksort < 2147483648 by omega)]); rw [if_pos zc10, if_pos zp22, if_pos hso]; all_goals (rfl), C9, F9⟩)
              · exact absurd (nI_le (Nat.le_refl _) (by decide)) zc63
          · intro i hi ih g1 zk zm C1 hf
            refine xj_iload (i := 8) 0 rfl dX12_kinds_50 ?_
            refine xj_iload_n (n := 3) (i := 3) 5 rfl rfl dX12_kinds_52 ?_
            refine xj_if_ne (tgt := 61) (by decide) dX12_kinds_53 (fun zc53 => ?_) (fun zc53 => ?_)
            · exact absurd zc53 (fun z => z hso)
            · refine xj_bipush (v := 6) (by decide) dX12_kinds_56 ?_
              refine xj_goto (tgt := 63) (by decide) dX12_kinds_58 ?_
              refine xj_icmp_ge (tgt := 130) (by decide) dX12_kinds_63 (fun zc63 => ?_) (fun zc63 => ?_)
              · exact absurd zc63 (nI_ge hi (by decide))
              · refine xj_aload_n (n := 0) (i := 0) 2 rfl rfl dX12_kinds_66 ?_
                refine yj_getf (v := .ref 87) fl_X12_7_12 (by omega) (fq_86 g1) rfl dX12_kinds_67 ?_
                refine xj_iload_n (n := 2) (i := 2) 4 rfl rfl dX12_kinds_70 ?_
                refine xj_iload_n (n := 3) (i := 3) 5 rfl rfl dX12_kinds_71 ?_
                refine xj_if_ne (tgt := 80) (by decide) dX12_kinds_72 (fun zc72 => ?_) (fun zc72 => ?_)
                · exact absurd zc72 (fun z => z hso)
                · refine xj_iload (i := 8) 0 rfl dX12_kinds_75 ?_
                  refine xj_goto (tgt := 82) (by decide) dX12_kinds_77 ?_
                  refine yj_iastN ks (by omega) fA_87 rfl (by omega) (by decide) dX12_kinds_82 ?_
                  obtain ⟨zg3, ezg3⟩ : ∃ z, z = gs g1 87 ks (nI i) := ⟨_, rfl⟩
                  rw [← ezg3]
                  refine xj_aload_n (n := 0) (i := 0) 2 rfl rfl dX12_kinds_83 ?_
                  refine yj_getf (v := .ref 88) fl_X12_13_12 (by omega) (fq_86 zg3) rfl dX12_kinds_84 ?_
                  refine xj_iload_n (n := 2) (i := 2) 4 rfl rfl dX12_kinds_87 ?_
                  refine xj_iload_n (n := 3) (i := 3) 5 rfl rfl dX12_kinds_88 ?_
                  refine xj_iconst (v := 1) (by decide) dX12_kinds_89 ?_
                  refine xj_icmp_ne (tgt := 98) (by decide) dX12_kinds_90 (fun zc90 => ?_) (fun zc90 => ?_)
                  · refine xj_iload (i := 6) 7 rfl dX12_kinds_98 ?_
                    refine yj_iastN ks (by omega) fA_88 rfl (by omega) (by decide) dX12_kinds_100 ?_
                    obtain ⟨zg4, ezg4⟩ : ∃ z, z = gs zg3 88 ks (A 2 ks) := ⟨_, rfl⟩
                    rw [← ezg4]
                    have C9 : mA zg4 (stKm A ks (nI i) (A 2 ks)) Λ := by have h := C1.km ks (nI i) (A 2 ks); rw [stKm_up, ← ezg3, ← ezg4] at h; exact h
                    have O9 : okA (stKm A ks (nI i) (A 2 ks)) := O.km ⟨i, by omega, rfl⟩ (O.2.2.2.2.2.2.1 ks hks).2.1
                    have F9 : fr mX g zg4 := by rw [ezg4, ezg3]; exact (hf.gs (mX_i (by omega)) _ _).gs (mX_i (by omega)) _ _
                    have hs9 : ks < aS (stKm A ks (nI i) (A 2 ks)) := by unfold aS; rw [stKm_n A ks _ _ (by decide) (by decide)]; exact hks
                    refine xj_iload (i := 7) 1 rfl dX12_kinds_101 ?_
                    refine xj_aload_n (n := 0) (i := 0) 2 rfl rfl dX12_kinds_103 ?_
                    refine xj_iload_n (n := 1) (i := 1) 3 rfl rfl dX12_kinds_104 ?_
                    refine xj_iload_n (n := 2) (i := 2) 4 rfl rfl dX12_kinds_105 ?_
                    refine xj_callV kv_X12_263 (c_X12_unlike l (d + 0) n hn zg4 (stKm A ks (nI i) (A 2 ks)) Λ O9 C9 kq ks hk4_kq hs9) (As := [.int (nI kq), .int (nI ks)]) (st := [.int (setF (fun k => decide (foF A Λ kq ks k (A 2 ks) (aW A) = -1)) i)]) (by omega) (fq_86 zg4) (ci := 12) rfl rfl rfl rfl (xRm_of (by omega) (by decide) (by omega) (by omega)) (Nat.le_of_ble_eq_true rfl) dX12_kinds_106 (yk_i (kc := 0) (ks := 0) fun zv5 zg6 hzg6 => ?_)
                    obtain ⟨hv9, hx9⟩ := hzg6
                    rw [foF_km, stKm_2, upd_s, show aK (stKm A ks (nI i) (A 2 ks)) ks = i from stKm_k (by have := O.k6 hks; omega), show aW (stKm A ks (nI i) (A 2 ks)) = aW A from by unfold aW; rw [stKm_n A ks _ _ (by decide) (by decide)]] at hv9
                    have C8 := C9.keep hx9
                    have F8 := F9.tr hx9.fr
                    refine xj_iconst (v := (-1)) (by decide) dX12_kinds_109 ?_
                    refine xj_icmp_ne (tgt := 120) (by decide) dX12_kinds_110 (fun zc110 => ?_) (fun zc110 => ?_)
                    · have hcl : ¬ decide (foF A Λ kq ks i (A 2 ks) (aW A) = -1) = true := fun z => zc110 (hv9.trans (of_decide_eq_true z))
                      refine xj_iconst (v := 0) (by decide) dX12_kinds_120 ?_
                      refine xj_ior dX12_kinds_121 ?_
                      refine xj_topi (fun zv7 ezv7 => ?_)
                      refine xj_istore (i := 7) (lv1 := [(7, .int zv7), (8, .int (nI i)), (0, .ref 86), (1, .int (nI kq)), (2, .int (nI ks)), (3, .int (nI ksort)), (5, .int (nI (aK A ks))), (6, .int (A 2 ks))]) rfl (Nat.le_of_ble_eq_true rfl) dX12_kinds_122 ?_
                      refine xj_iinc (n := 1) (i := 8) (v := nI (i + 1)) (lv1 := [(8, .int (nI (i + 1))), (7, .int zv7), (0, .ref 86), (1, .int (nI kq)), (2, .int (nI ks)), (3, .int (nI ksort)), (5, .int (nI (aK A ks))), (6, .int (A 2 ks))]) 1 rfl (nI_1 i) rfl (Nat.le_of_ble_eq_true rfl) dX12_kinds_124 ?_
                      refine xj_goto (tgt := 50) (by decide) dX12_kinds_127 ?_
                      refine xj_sub (lv' := [(8, .int (nI (i + 1))), (7, .int zv7), (0, .ref 86), (1, .int (nI kq)), (2, .int (nI ks)), (3, .int (nI ksort)), (5, .int (nI (aK A ks))), (6, .int (A 2 ks))]) [0, 1, 2, 3, 4, 5, 6, 7] rfl ?_
                      have h9 := ih zg6 (nI i) (A 2 ks) C8 F8
                      rw [show setF (fun k => decide (foF A Λ kq ks k (A 2 ks) (aW A) = -1)) (i + 1) = zv7 from (if_neg hcl).trans (by rw [ezv7, Int32.or_zero])] at h9
                      exact h9
                    · have hcl : decide (foF A Λ kq ks i (A 2 ks) (aW A) = -1) = true := decide_eq_true (hv9.symm.trans zc110)
                      refine xj_iconst (v := 1) (by decide) dX12_kinds_113 ?_
                      refine xj_iload (i := 8) 0 rfl dX12_kinds_114 ?_
                      refine xj_ishl dX12_kinds_116 ?_
                      refine xj_goto (tgt := 121) (by decide) dX12_kinds_117 ?_
                      refine xj_ior dX12_kinds_121 ?_
                      refine xj_topi (fun zv8 ezv8 => ?_)
                      refine xj_istore (i := 7) (lv1 := [(7, .int zv8), (8, .int (nI i)), (0, .ref 86), (1, .int (nI kq)), (2, .int (nI ks)), (3, .int (nI ksort)), (5, .int (nI (aK A ks))), (6, .int (A 2 ks))]) rfl (Nat.le_of_ble_eq_true rfl) dX12_kinds_122 ?_
                      refine xj_iinc (n := 1) (i := 8) (v := nI (i + 1)) (lv1 := [(8, .int (nI (i + 1))), (7, .int zv8), (0, .ref 86), (1, .int (nI kq)), (2, .int (nI ks)), (3, .int (nI ksort)), (5, .int (nI (aK A ks))), (6, .int (A 2 ks))]) 1 rfl (nI_1 i) rfl (Nat.le_of_ble_eq_true rfl) dX12_kinds_124 ?_
                      refine xj_goto (tgt := 50) (by decide) dX12_kinds_127 ?_
                      refine xj_sub (lv' := [(8, .int (nI (i + 1))), (7, .int zv8), (0, .ref 86), (1, .int (nI kq)), (2, .int (nI ks)), (3, .int (nI ksort)), (5, .int (nI (aK A ks))), (6, .int (A 2 ks))]) [0, 1, 2, 3, 4, 5, 6, 7] rfl ?_
                      have h9 := ih zg6 (nI i) (A 2 ks) C8 F8
                      rw [show setF (fun k => decide (foF A Λ kq ks k (A 2 ks) (aW A) = -1)) (i + 1) = zv8 from (if_pos hcl).trans ezv8.symm] at h9
                      exact h9
                  · exact absurd zc90 (by rw [hso]; decide)
        refine xj_sub (lv' := [(8, .int 0), (7, .int 0), (0, .ref 86), (1, .int (nI kq)), (2, .int (nI ks)), (3, .int (nI ksort)), (5, .int (nI (aK A ks))), (6, .int (A 2 ks))]) [0, 1, 5, 6, 7, 8, 3, 2] rfl ?_
        exact key 0 (Nat.zero_le _) g (A 1 ks) (A 2 ks) (by rw [stKm_back]; exact C) fr.rf
      · have hso1 : nI ksort = 1 := by rcases (show ksort = 0 ∨ ksort = 1 by omega) with h | h; exact absurd (by rw [h]; rfl) hso; (rw [h]; rfl)
        have key : ∀ i, i ≤ 10 → ∀ (g1 : xG) (zk zm : Int32), mA g1 (stKm A ks zk zm) Λ → fr mX g g1 → xJ l (RX12, 9, (some .int), false, (xR (d + 7) 0 0), none) cX12_kinds (qI n fun v g1 => v = vKinds A Λ (nI kq) (nI ks) (nI ksort) ∧ mA g1 A Λ ∧ fr mX g g1) 0 0 50 [(8, .int (nI i)), (7, .int (setF (fun m => decide (foF A Λ kq ks (aK A ks) (nI m) (aW A) = -1)) i)), (0, .ref 86), (1, .int (nI kq)), (2, .int (nI ks)), (3, .int (nI ksort)), (5, .int (nI (aK A ks))), (6, .int (A 2 ks))] [] (n, fh g1) := by
          refine x_loop 10 _ ?_ ?_
          · intro g1 zk zm C1 hf
            refine xj_iload (i := 8) 0 rfl dX12_kinds_50 ?_
            refine xj_iload_n (n := 3) (i := 3) 5 rfl rfl dX12_kinds_52 ?_
            refine xj_if_ne (tgt := 61) (by decide) dX12_kinds_53 (fun zc53 => ?_) (fun zc53 => ?_)
            · refine xj_bipush (v := 10) (by decide) dX12_kinds_61 ?_
              refine xj_icmp_ge (tgt := 130) (by decide) dX12_kinds_63 (fun zc63 => ?_) (fun zc63 => ?_)
              · refine xj_aload_n (n := 0) (i := 0) 2 rfl rfl dX12_kinds_130 ?_
                refine yj_getf (v := .ref 87) fl_X12_7_12 (by omega) (fq_86 g1) rfl dX12_kinds_131 ?_
                refine xj_iload_n (n := 2) (i := 2) 4 rfl rfl dX12_kinds_134 ?_
                refine xj_iload (i := 5) 6 rfl dX12_kinds_135 ?_
                refine yj_iastN ks (by omega) fA_87 rfl (by omega) (by decide) dX12_kinds_137 ?_
                obtain ⟨zg9, ezg9⟩ : ∃ z, z = gs g1 87 ks (nI (aK A ks)) := ⟨_, rfl⟩
                rw [← ezg9]
                refine xj_aload_n (n := 0) (i := 0) 2 rfl rfl dX12_kinds_138 ?_
                refine yj_getf (v := .ref 88) fl_X12_13_12 (by omega) (fq_86 zg9) rfl dX12_kinds_139 ?_
                refine xj_iload_n (n := 2) (i := 2) 4 rfl rfl dX12_kinds_142 ?_
                refine xj_iload (i := 6) 7 rfl dX12_kinds_143 ?_
                refine yj_iastN ks (by omega) fA_88 rfl (by omega) (by decide) dX12_kinds_145 ?_
                obtain ⟨zg10, ezg10⟩ : ∃ z, z = gs zg9 88 ks (A 2 ks) := ⟨_, rfl⟩
                rw [← ezg10]
                have C9 : mA zg10 A Λ := by have h := C1.km ks (nI (aK A ks)) (A 2 ks); rw [stKm_up, ← O.K hks, stKm_back, O.K hks, ← ezg9, ← ezg10] at h; exact h
                have F9 : fr mX g zg10 := by rw [ezg10, ezg9]; exact (hf.gs (mX_i (by omega)) _ _).gs (mX_i (by omega)) _ _
                refine xj_iload (i := 7) 1 rfl dX12_kinds_146 ?_
                exact xj_ireturn rfl (nr_i _) (Nat.zero_le _) (Nat.zero_le _) dX12_kinds_148 (qI_e ⟨by unfold vKinds; (try simp only [nI_clamp (show kq < 2147483648 by omega), nI_clamp (show ks < 2147483648 by omega), nI_clamp (show ksort < 2147483648 by omega)]); rw [if_pos zc10, if_pos zp22, if_neg hso]; all_goals (rfl), C9, F9⟩)
              · exact absurd (nI_le (Nat.le_refl _) (by decide)) zc63
            · exact absurd zc53 hso
          · intro i hi ih g1 zk zm C1 hf
            refine xj_iload (i := 8) 0 rfl dX12_kinds_50 ?_
            refine xj_iload_n (n := 3) (i := 3) 5 rfl rfl dX12_kinds_52 ?_
            refine xj_if_ne (tgt := 61) (by decide) dX12_kinds_53 (fun zc53 => ?_) (fun zc53 => ?_)
            · refine xj_bipush (v := 10) (by decide) dX12_kinds_61 ?_
              refine xj_icmp_ge (tgt := 130) (by decide) dX12_kinds_63 (fun zc63 => ?_) (fun zc63 => ?_)
              · exact absurd zc63 (nI_ge hi (by decide))
              · refine xj_aload_n (n := 0) (i := 0) 2 rfl rfl dX12_kinds_66 ?_
                refine yj_getf (v := .ref 87) fl_X12_7_12 (by omega) (fq_86 g1) rfl dX12_kinds_67 ?_
                refine xj_iload_n (n := 2) (i := 2) 4 rfl rfl dX12_kinds_70 ?_
                refine xj_iload_n (n := 3) (i := 3) 5 rfl rfl dX12_kinds_71 ?_
                refine xj_if_ne (tgt := 80) (by decide) dX12_kinds_72 (fun zc72 => ?_) (fun zc72 => ?_)
                · refine xj_iload (i := 5) 6 rfl dX12_kinds_80 ?_
                  refine yj_iastN ks (by omega) fA_87 rfl (by omega) (by decide) dX12_kinds_82 ?_
                  obtain ⟨zg11, ezg11⟩ : ∃ z, z = gs g1 87 ks (nI (aK A ks)) := ⟨_, rfl⟩
                  rw [← ezg11]
                  refine xj_aload_n (n := 0) (i := 0) 2 rfl rfl dX12_kinds_83 ?_
                  refine yj_getf (v := .ref 88) fl_X12_13_12 (by omega) (fq_86 zg11) rfl dX12_kinds_84 ?_
                  refine xj_iload_n (n := 2) (i := 2) 4 rfl rfl dX12_kinds_87 ?_
                  refine xj_iload_n (n := 3) (i := 3) 5 rfl rfl dX12_kinds_88 ?_
                  refine xj_iconst (v := 1) (by decide) dX12_kinds_89 ?_
                  refine xj_icmp_ne (tgt := 98) (by decide) dX12_kinds_90 (fun zc90 => ?_) (fun zc90 => ?_)
                  · exact absurd zc90 (fun z => z hso1)
                  · refine xj_iload (i := 8) 0 rfl dX12_kinds_93 ?_
                    refine xj_goto (tgt := 100) (by decide) dX12_kinds_95 ?_
                    refine yj_iastN ks (by omega) fA_88 rfl (by omega) (by decide) dX12_kinds_100 ?_
                    obtain ⟨zg12, ezg12⟩ : ∃ z, z = gs zg11 88 ks (nI i) := ⟨_, rfl⟩
                    rw [← ezg12]
                    have C9 : mA zg12 (stKm A ks (nI (aK A ks)) (nI i)) Λ := by have h := C1.km ks (nI (aK A ks)) (nI i); rw [stKm_up, ← ezg11, ← ezg12] at h; exact h
                    have O9 : okA (stKm A ks (nI (aK A ks)) (nI i)) := O.km ⟨aK A ks, by have := O.k6 hks; omega, rfl⟩ ⟨i, by omega, rfl⟩
                    have F9 : fr mX g zg12 := by rw [ezg12, ezg11]; exact (hf.gs (mX_i (by omega)) _ _).gs (mX_i (by omega)) _ _
                    have hs9 : ks < aS (stKm A ks (nI (aK A ks)) (nI i)) := by unfold aS; rw [stKm_n A ks _ _ (by decide) (by decide)]; exact hks
                    refine xj_iload (i := 7) 1 rfl dX12_kinds_101 ?_
                    refine xj_aload_n (n := 0) (i := 0) 2 rfl rfl dX12_kinds_103 ?_
                    refine xj_iload_n (n := 1) (i := 1) 3 rfl rfl dX12_kinds_104 ?_
                    refine xj_iload_n (n := 2) (i := 2) 4 rfl rfl dX12_kinds_105 ?_
                    refine xj_callV kv_X12_263 (c_X12_unlike l (d + 0) n hn zg12 (stKm A ks (nI (aK A ks)) (nI i)) Λ O9 C9 kq ks hk4_kq hs9) (As := [.int (nI kq), .int (nI ks)]) (st := [.int (setF (fun m => decide (foF A Λ kq ks (aK A ks) (nI m) (aW A) = -1)) i)]) (by omega) (fq_86 zg12) (ci := 12) rfl rfl rfl rfl (xRm_of (by omega) (by decide) (by omega) (by omega)) (Nat.le_of_ble_eq_true rfl) dX12_kinds_106 (yk_i (kc := 0) (ks := 0) fun zv13 zg14 hzg14 => ?_)
                    obtain ⟨hv9, hx9⟩ := hzg14
                    rw [foF_km, stKm_2, upd_s, show aK (stKm A ks (nI (aK A ks)) (nI i)) ks = (aK A ks) from stKm_k (by have := O.k6 hks; omega), show aW (stKm A ks (nI (aK A ks)) (nI i)) = aW A from by unfold aW; rw [stKm_n A ks _ _ (by decide) (by decide)]] at hv9
                    have C8 := C9.keep hx9
                    have F8 := F9.tr hx9.fr
                    refine xj_iconst (v := (-1)) (by decide) dX12_kinds_109 ?_
                    refine xj_icmp_ne (tgt := 120) (by decide) dX12_kinds_110 (fun zc110 => ?_) (fun zc110 => ?_)
                    · have hcl : ¬ decide (foF A Λ kq ks (aK A ks) (nI i) (aW A) = -1) = true := fun z => zc110 (hv9.trans (of_decide_eq_true z))
                      refine xj_iconst (v := 0) (by decide) dX12_kinds_120 ?_
                      refine xj_ior dX12_kinds_121 ?_
                      refine xj_topi (fun zv15 ezv15 => ?_)
                      refine xj_istore (i := 7) (lv1 := [(7, .int zv15), (8, .int (nI i)), (0, .ref 86), (1, .int (nI kq)), (2, .int (nI ks)), (3, .int (nI ksort)), (5, .int (nI (aK A ks))), (6, .int (A 2 ks))]) rfl (Nat.le_of_ble_eq_true rfl) dX12_kinds_122 ?_
                      refine xj_iinc (n := 1) (i := 8) (v := nI (i + 1)) (lv1 := [(8, .int (nI (i + 1))), (7, .int zv15), (0, .ref 86), (1, .int (nI kq)), (2, .int (nI ks)), (3, .int (nI ksort)), (5, .int (nI (aK A ks))), (6, .int (A 2 ks))]) 1 rfl (nI_1 i) rfl (Nat.le_of_ble_eq_true rfl) dX12_kinds_124 ?_
                      refine xj_goto (tgt := 50) (by decide) dX12_kinds_127 ?_
                      refine xj_sub (lv' := [(8, .int (nI (i + 1))), (7, .int zv15), (0, .ref 86), (1, .int (nI kq)), (2, .int (nI ks)), (3, .int (nI ksort)), (5, .int (nI (aK A ks))), (6, .int (A 2 ks))]) [0, 1, 2, 3, 4, 5, 6, 7] rfl ?_
                      have h9 := ih zg14 (nI (aK A ks)) (nI i) C8 F8
                      rw [show setF (fun m => decide (foF A Λ kq ks (aK A ks) (nI m) (aW A) = -1)) (i + 1) = zv15 from (if_neg hcl).trans (by rw [ezv15, Int32.or_zero])] at h9
                      exact h9
                    · have hcl : decide (foF A Λ kq ks (aK A ks) (nI i) (aW A) = -1) = true := decide_eq_true (hv9.symm.trans zc110)
                      refine xj_iconst (v := 1) (by decide) dX12_kinds_113 ?_
                      refine xj_iload (i := 8) 0 rfl dX12_kinds_114 ?_
                      refine xj_ishl dX12_kinds_116 ?_
                      refine xj_goto (tgt := 121) (by decide) dX12_kinds_117 ?_
                      refine xj_ior dX12_kinds_121 ?_
                      refine xj_topi (fun zv16 ezv16 => ?_)
                      refine xj_istore (i := 7) (lv1 := [(7, .int zv16), (8, .int (nI i)), (0, .ref 86), (1, .int (nI kq)), (2, .int (nI ks)), (3, .int (nI ksort)), (5, .int (nI (aK A ks))), (6, .int (A 2 ks))]) rfl (Nat.le_of_ble_eq_true rfl) dX12_kinds_122 ?_
                      refine xj_iinc (n := 1) (i := 8) (v := nI (i + 1)) (lv1 := [(8, .int (nI (i + 1))), (7, .int zv16), (0, .ref 86), (1, .int (nI kq)), (2, .int (nI ks)), (3, .int (nI ksort)), (5, .int (nI (aK A ks))), (6, .int (A 2 ks))]) 1 rfl (nI_1 i) rfl (Nat.le_of_ble_eq_true rfl) dX12_kinds_124 ?_
                      refine xj_goto (tgt := 50) (by decide) dX12_kinds_127 ?_
                      refine xj_sub (lv' := [(8, .int (nI (i + 1))), (7, .int zv16), (0, .ref 86), (1, .int (nI kq)), (2, .int (nI ks)), (3, .int (nI ksort)), (5, .int (nI (aK A ks))), (6, .int (A 2 ks))]) [0, 1, 2, 3, 4, 5, 6, 7] rfl ?_
                      have h9 := ih zg14 (nI (aK A ks)) (nI i) C8 F8
                      rw [show setF (fun m => decide (foF A Λ kq ks (aK A ks) (nI m) (aW A) = -1)) (i + 1) = zv16 from (if_pos hcl).trans ezv16.symm] at h9
                      exact h9
                · exact absurd zc72 hso
            · exact absurd zc53 hso
        refine xj_sub (lv' := [(8, .int 0), (7, .int 0), (0, .ref 86), (1, .int (nI kq)), (2, .int (nI ks)), (3, .int (nI ksort)), (5, .int (nI (aK A ks))), (6, .int (A 2 ks))]) [0, 1, 5, 6, 7, 8, 3, 2] rfl ?_
        exact key 0 (Nat.zero_le _) g (A 1 ks) (A 2 ks) (by rw [stKm_back]; exact C) fr.rf
    · have zp22 : ¬ (0 ≤ sort ∧ sort ≤ 1) := bI_0.mp zc22
      refine xj_bipush (v := (-7)) (by decide) dX12_kinds_25 ?_
      exact xj_ireturn rfl (nr_i _) (Nat.zero_le _) (Nat.zero_le _) dX12_kinds_27 (qI_e ⟨by unfold vKinds; (try simp only [nI_clamp (show kq < 2147483648 by omega), nI_clamp (show ks < 2147483648 by omega)]); rw [if_pos zc10, if_neg zp22]; all_goals (rfl), C, fr.rf⟩)
  · refine xj_iload (i := 4) 0 rfl dX12_kinds_13 ?_
    exact xj_ireturn rfl (nr_i _) (Nat.zero_le _) (Nat.zero_le _) dX12_kinds_15 (qI_e ⟨by unfold vKinds; rw [if_neg zc10]; all_goals (rfl), C, fr.rf⟩)
set_option maxHeartbeats 4000000 in
set_option maxRecDepth 100000 in
theorem c_X12_laws (l : Launch) (d : Nat) (n : Nat) (hn : 110 ≤ n) (g : xG) (A : zSt) (Λ : Nat → xL) (O : okA A) (C : mA g A Λ) (q s : Int32)  : xC l yX12_laws cX12_laws 7 (some .int) (xR (d + 7) 0 0) [.ref 86, .int q, .int s] (n, fh g) (qI n fun v g1 => v = vLaws A Λ q s ∧ mA g1 A Λ ∧ fr mX g g1) := by
  refine xC_of false (by decide +kernel) (fun z => by cases z) (Nat.le_of_ble_eq_true rfl) ?_
  have hS6 := O.1.2
  have hW := O.W
  have hT6 := O.2.2.2.1.2.2
  have hN9 := O.2.1.2
  show xJ l (RX12, 7, (some .int), false, (xR (d + 7) 0 0), none) cX12_laws _ 0 0 0 [(0, .ref 86), (1, .int q), (2, .int s)] [] (n, fh g)
  refine xj_aload_n (n := 0) (i := 0) 0 rfl rfl dX12_laws_0 ?_
  refine xj_iload_n (n := 1) (i := 1) 1 rfl rfl dX12_laws_1 ?_
  refine xj_iload_n (n := 2) (i := 2) 2 rfl rfl dX12_laws_2 ?_
  refine xj_callV kv_X12_260 (c_X12_toldWrong l (d + 4) n hn g A Λ O C q s) (As := [.int q, .int s]) (st := []) (by omega) (fq_86 g) (ci := 12) rfl rfl rfl rfl (xRm_of (by omega) (by decide) (by omega) (by omega)) (Nat.le_of_ble_eq_true rfl) dX12_laws_3 (yk_p (kc := 0) (ks := 0) ?_)
  refine xj_istore_n (n := 3) (i := 3) (lv1 := [(3, .int (refF A q s)), (0, .ref 86), (1, .int q), (2, .int s)]) rfl rfl (Nat.le_of_ble_eq_true rfl) dX12_laws_6 ?_
  refine xj_iload_n (n := 3) (i := 3) 0 rfl rfl dX12_laws_7 ?_
  refine xj_if_eq (tgt := 13) (by decide) dX12_laws_8 (fun zc8 => ?_) (fun zc8 => ?_)
  · obtain ⟨kq, ks, hk4_kq, hks, rfl, rfl, hz20⟩ := refF_0 O zc8
    have hs6_ks : ks < 6 := by omega
    refine xj_aload_n (n := 0) (i := 0) 1 rfl rfl dX12_laws_13 ?_
    refine yj_getf (v := .int (nI (aW A))) fl_X12_103_12 (by omega) (fq_86 g) (congrArg (fun z => some (Value.int z)) (C.W O)) dX12_laws_14 ?_
    refine xj_istore (i := 4) (lv1 := [(4, .int (nI (aW A))), (3, .int (refF A (nI kq) (nI ks))), (0, .ref 86), (1, .int (nI kq)), (2, .int (nI ks))]) rfl (Nat.le_of_ble_eq_true rfl) dX12_laws_17 ?_
    refine xj_iconst (v := 0) (by decide) dX12_laws_19 ?_
    refine xj_istore (i := 5) (lv1 := [(5, .int 0), (4, .int (nI (aW A))), (3, .int (refF A (nI kq) (nI ks))), (0, .ref 86), (1, .int (nI kq)), (2, .int (nI ks))]) rfl (Nat.le_of_ble_eq_true rfl) dX12_laws_20 ?_
    refine xj_iconst (v := 0) (by decide) dX12_laws_22 ?_
    refine xj_istore (i := 6) (lv1 := [(6, .int 0), (5, .int 0), (4, .int (nI (aW A))), (3, .int (refF A (nI kq) (nI ks))), (0, .ref 86), (1, .int (nI kq)), (2, .int (nI ks))]) rfl (Nat.le_of_ble_eq_true rfl) dX12_laws_23 ?_
    have key : ∀ i, i ≤ aT A → ∀ (g1 : xG) (zw : Int32), mA g1 (gs A 0 4 zw) Λ → fr mX g g1 → xJ l (RX12, 7, (some .int), false, (xR (d + 7) 0 0), none) cX12_laws (qI n fun v g1 => v = vLaws A Λ (nI kq) (nI ks) ∧ mA g1 A Λ ∧ fr mX g g1) 0 0 25 [(6, .int (nI i)), (5, .int (setF (fun t => decide (foF A Λ kq ks (aK A ks) (A 2 ks) t = -1)) i)), (4, .int (nI (aW A))), (0, .ref 86), (1, .int (nI kq)), (2, .int (nI ks))] [] (n, fh g1) := by
      refine x_loop (aT A) _ ?_ ?_
      · intro g1 zw C1 hf
        have hT9 : g1 86 11 = nI (aT A) := by rw [C1.1.2.2.2.1, gs_s, upd_n _ _ (by decide)]; exact O.2.2.2.1.1
        refine xj_iload (i := 6) 0 rfl dX12_laws_25 ?_
        refine xj_aload_n (n := 0) (i := 0) 3 rfl rfl dX12_laws_27 ?_
        refine yj_getf (v := .int (nI (aT A))) fl_X12_100_12 (by omega) (fq_86 g1) (congrArg (fun z => some (Value.int z)) hT9) dX12_laws_28 ?_
        refine xj_icmp_ge (tgt := 69) (by decide) dX12_laws_31 (fun zc31 => ?_) (fun zc31 => ?_)
        · refine xj_aload_n (n := 0) (i := 0) 3 rfl rfl dX12_laws_69 ?_
          refine xj_iload (i := 4) 2 rfl dX12_laws_70 ?_
          refine yj_puti fl_X12_103_12 (by omega) fS_86_12 (fi_i _) dX12_laws_72 ?_
          obtain ⟨zg1, ezg1⟩ : ∃ z, z = gs g1 86 12 (nI (aW A)) := ⟨_, rfl⟩
          rw [← ezg1]
          have C9 : mA zg1 A Λ := by have h := C1.num (j := 4) (Or.inr (Or.inr ⟨rfl, rfl⟩)) (nI (aW A)); rw [law_up, ← O.2.2.2.2.1.1, show gs A 0 4 (A 0 4) = A from by funext q; by_cases h : q = 0; (subst h; rw [gs_s, upd_id]); exact gs_n _ _ _ h, O.2.2.2.2.1.1, ← ezg1] at h; exact h
          have F9 : fr mX g zg1 := by rw [ezg1]; exact hf.gs (mX_i (by omega)) _ _
          refine xj_iload (i := 5) 1 rfl dX12_laws_75 ?_
          exact xj_ireturn rfl (nr_i _) (Nat.zero_le _) (Nat.zero_le _) dX12_laws_77 (qI_e ⟨by unfold vLaws; (try simp only [nI_clamp (show kq < 2147483648 by omega), nI_clamp (show ks < 2147483648 by omega)]); rw [if_pos zc8]; all_goals (rfl), C9, F9⟩)
        · exact absurd (nI_le (Nat.le_refl _) (by omega)) zc31
      · intro i hi ih g1 zw C1 hf
        have hT9 : g1 86 11 = nI (aT A) := by rw [C1.1.2.2.2.1, gs_s, upd_n _ _ (by decide)]; exact O.2.2.2.1.1
        refine xj_iload (i := 6) 0 rfl dX12_laws_25 ?_
        refine xj_aload_n (n := 0) (i := 0) 3 rfl rfl dX12_laws_27 ?_
        refine yj_getf (v := .int (nI (aT A))) fl_X12_100_12 (by omega) (fq_86 g1) (congrArg (fun z => some (Value.int z)) hT9) dX12_laws_28 ?_
        refine xj_icmp_ge (tgt := 69) (by decide) dX12_laws_31 (fun zc31 => ?_) (fun zc31 => ?_)
        · exact absurd zc31 (nI_ge hi (by omega))
        · refine xj_aload_n (n := 0) (i := 0) 3 rfl rfl dX12_laws_34 ?_
          refine xj_iload (i := 6) 0 rfl dX12_laws_35 ?_
          refine yj_puti fl_X12_103_12 (by omega) fS_86_12 (fi_i _) dX12_laws_37 ?_
          obtain ⟨zg2, ezg2⟩ : ∃ z, z = gs g1 86 12 (nI i) := ⟨_, rfl⟩
          rw [← ezg2]
          have C9 : mA zg2 (gs A 0 4 (nI i)) Λ := by have h := C1.num (j := 4) (Or.inr (Or.inr ⟨rfl, rfl⟩)) (nI i); rw [law_up, ← ezg2] at h; exact h
          have O9 : okA (gs A 0 4 (nI i)) := O.num _ (Or.inr (Or.inr ⟨rfl, i, hi, rfl⟩))
          have F9 : fr mX g zg2 := by rw [ezg2]; exact hf.gs (mX_i (by omega)) _ _
          have hs9 : ks < aS (gs A 0 4 (nI i)) := by unfold aS; rw [gs_s, upd_n _ _ (by decide)]; exact hks
          refine xj_iload (i := 5) 1 rfl dX12_laws_40 ?_
          refine xj_aload_n (n := 0) (i := 0) 3 rfl rfl dX12_laws_42 ?_
          refine xj_iload_n (n := 1) (i := 1) 4 rfl rfl dX12_laws_43 ?_
          refine xj_iload_n (n := 2) (i := 2) 5 rfl rfl dX12_laws_44 ?_
          refine xj_callV kv_X12_263 (c_X12_unlike l (d + 0) n hn zg2 (gs A 0 4 (nI i)) Λ O9 C9 kq ks hk4_kq hs9) (As := [.int (nI kq), .int (nI ks)]) (st := [.int (setF (fun t => decide (foF A Λ kq ks (aK A ks) (A 2 ks) t = -1)) i)]) (by omega) (fq_86 zg2) (ci := 12) rfl rfl rfl rfl (xRm_of (by omega) (by decide) (by omega) (by omega)) (Nat.le_of_ble_eq_true rfl) dX12_laws_45 (yk_i (kc := 0) (ks := 0) fun zv3 zg4 hzg4 => ?_)
          obtain ⟨hv9, hx9⟩ := hzg4
          rw [foF_law, gs_n A 4 _ (q := 0) (j := 2) (by decide), show aK (gs A 0 4 (nI i)) ks = aK A ks from by unfold aK; rw [gs_n A 4 _ (q := 0) (j := 1) (by decide)], show aW (gs A 0 4 (nI i)) = i from by unfold aW; rw [gs_s, upd_s]; exact nI_clamp (by omega)] at hv9
          have C8 := C9.keep hx9
          have F8 := F9.tr hx9.fr
          refine xj_iconst (v := (-1)) (by decide) dX12_laws_48 ?_
          refine xj_icmp_ne (tgt := 59) (by decide) dX12_laws_49 (fun zc49 => ?_) (fun zc49 => ?_)
          · have hcl : ¬ decide (foF A Λ kq ks (aK A ks) (A 2 ks) i = -1) = true := fun z => zc49 (hv9.trans (of_decide_eq_true z))
            refine xj_iconst (v := 0) (by decide) dX12_laws_59 ?_
            refine xj_ior dX12_laws_60 ?_
            refine xj_topi (fun zv5 ezv5 => ?_)
            refine xj_istore (i := 5) (lv1 := [(5, .int zv5), (6, .int (nI i)), (4, .int (nI (aW A))), (0, .ref 86), (1, .int (nI kq)), (2, .int (nI ks))]) rfl (Nat.le_of_ble_eq_true rfl) dX12_laws_61 ?_
            refine xj_iinc (n := 1) (i := 6) (v := nI (i + 1)) (lv1 := [(6, .int (nI (i + 1))), (5, .int zv5), (4, .int (nI (aW A))), (0, .ref 86), (1, .int (nI kq)), (2, .int (nI ks))]) 1 rfl (nI_1 i) rfl (Nat.le_of_ble_eq_true rfl) dX12_laws_63 ?_
            refine xj_goto (tgt := 25) (by decide) dX12_laws_66 ?_
            refine xj_sub (lv' := [(6, .int (nI (i + 1))), (5, .int zv5), (4, .int (nI (aW A))), (0, .ref 86), (1, .int (nI kq)), (2, .int (nI ks))]) [0, 1, 2, 3, 4, 5] rfl ?_
            have h9 := ih zg4 (nI i) C8 F8
            rw [show setF (fun t => decide (foF A Λ kq ks (aK A ks) (A 2 ks) t = -1)) (i + 1) = zv5 from (if_neg hcl).trans (by rw [ezv5, Int32.or_zero])] at h9
            exact h9
          · have hcl : decide (foF A Λ kq ks (aK A ks) (A 2 ks) i = -1) = true := decide_eq_true (hv9.symm.trans zc49)
            refine xj_iconst (v := 1) (by decide) dX12_laws_52 ?_
            refine xj_iload (i := 6) 0 rfl dX12_laws_53 ?_
            refine xj_ishl dX12_laws_55 ?_
            refine xj_goto (tgt := 60) (by decide) dX12_laws_56 ?_
            refine xj_ior dX12_laws_60 ?_
            refine xj_topi (fun zv6 ezv6 => ?_)
            refine xj_istore (i := 5) (lv1 := [(5, .int zv6), (6, .int (nI i)), (4, .int (nI (aW A))), (0, .ref 86), (1, .int (nI kq)), (2, .int (nI ks))]) rfl (Nat.le_of_ble_eq_true rfl) dX12_laws_61 ?_
            refine xj_iinc (n := 1) (i := 6) (v := nI (i + 1)) (lv1 := [(6, .int (nI (i + 1))), (5, .int zv6), (4, .int (nI (aW A))), (0, .ref 86), (1, .int (nI kq)), (2, .int (nI ks))]) 1 rfl (nI_1 i) rfl (Nat.le_of_ble_eq_true rfl) dX12_laws_63 ?_
            refine xj_goto (tgt := 25) (by decide) dX12_laws_66 ?_
            refine xj_sub (lv' := [(6, .int (nI (i + 1))), (5, .int zv6), (4, .int (nI (aW A))), (0, .ref 86), (1, .int (nI kq)), (2, .int (nI ks))]) [0, 1, 2, 3, 4, 5] rfl ?_
            have h9 := ih zg4 (nI i) C8 F8
            rw [show setF (fun t => decide (foF A Λ kq ks (aK A ks) (A 2 ks) t = -1)) (i + 1) = zv6 from (if_pos hcl).trans ezv6.symm] at h9
            exact h9
    refine xj_sub (lv' := [(6, .int 0), (5, .int 0), (4, .int (nI (aW A))), (0, .ref 86), (1, .int (nI kq)), (2, .int (nI ks))]) [0, 1, 2, 4, 5, 6] rfl ?_
    exact key 0 (Nat.zero_le _) g (A 0 4) (by rw [show gs A 0 4 (A 0 4) = A from by funext q; by_cases h : q = 0; (subst h; rw [gs_s, upd_id]); exact gs_n _ _ _ h]; exact C) fr.rf
  · refine xj_iload_n (n := 3) (i := 3) 0 rfl rfl dX12_laws_11 ?_
    exact xj_ireturn rfl (nr_i _) (Nat.zero_le _) (Nat.zero_le _) dX12_laws_12 (qI_e ⟨by unfold vLaws; rw [if_neg zc8]; all_goals (rfl), C, fr.rf⟩)
