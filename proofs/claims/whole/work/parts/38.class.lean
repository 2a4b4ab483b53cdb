def rFilm (A : zSt) (Λ : Nat → xL) (q s n : Int32) : Int32 × zSt := if 0 ≤ q ∧ q ≤ 3 then if isSl A s then if 0 ≤ n ∧ n ≤ 20 then (n, stQ A q.toNatClampNeg 2 n (fun j => if j < n.toNatClampNeg then rsP A Λ s.toNatClampNeg j else 0)) else (-7, A) else (-5, A) else (-2, A)
def yX (q j : Nat) : Prop := sX j ∨ j = 72 + 2 * q ∨ j = 72 + 2 * q + 1
theorem cA.sht2 {g g1 : xG} {n : Nat} {A : zSt} {Λ : Nat → xL} (C : cA g n A Λ) (O : okA A) {q : Nat} (hq : q < 4) {sort size : Int32} {r : Nat → Int32} (hf : fr (yX q) g g1) (h1 : g1 (72 + 2 * q) 0 = sort) (h2 : g1 (72 + 2 * q) 1 = size) (h3 : ∀ j, j < 40 → g1 (72 + 2 * q + 1) j = r j) : cA g1 n (stQ A q sort size r) Λ := by
  have C2 : cA (fun j => if j = 72 + 2 * q ∨ j = 72 + 2 * q + 1 then g j else g1 j) n A Λ := by
    refine C.keep O (fun j hj => ?_)
    by_cases h : j = 72 + 2 * q ∨ j = 72 + 2 * q + 1
    · exact if_pos h
    · exact (if_neg h).trans (hf j (fun z => z.elim hj h))
  refine C2.sht O hq (fun j hj => ?_) h1 h2 h3
  exact (if_neg hj).symm
theorem film_use {g g1 : xG} {n : Nat} {A : zSt} {Λ : Nat → xL} (C : cA g n A Λ) (O : okA A) {q : Nat} (hq : q < 4) (hf : fr (yX q) g g1) : (g1 0 10 = nI (aN A) ∧ g1 0 13 = nI (aW A)) ∧ lwA g1 n (fTX (aW A)) (Λ (aW A)) ∧ (fun j => if j < 6 then some (fTX ((g1 66) j).toNatClampNeg) else none) (aW A) = some (fTX (aW A)) := by
  have hv := fTX_v (aW A)
  have e0 : g1 0 = g 0 := hf 0 (by unfold yX sX; omega)
  have e66 : g1 66 = g 66 := hf 66 (by unfold yX sX; omega)
  refine ⟨⟨by rw [e0]; exact C.N O, by rw [e0]; exact C.W O⟩, (C.txt O.W).keep hf (by unfold yX sX; omega) (by unfold yX sX; omega), ?_⟩
  rw [e66]
  exact C.tx O O.W
set_option maxHeartbeats 4000000 in
set_option maxRecDepth 100000 in
theorem c_X11_film (l : Launch) (d : Nat) (n : Nat) (g : xG) (A : zSt) (Λ : Nat → xL) (O : okA A) (C : cA g n A Λ) (q s n1 : Int32)  : xC l yX11_film cX11_film 6 (some .int) (xR (d + 6) 0 0) [.ref 0, .int q, .int s, .int n1] (n, fh g) (qI n fun v g1 => v = (rFilm A Λ q s n1).1 ∧ cA g1 n (rFilm A Λ q s n1).2 Λ ∧ fr cX g g1) := by
  refine xC_of false (by decide +kernel) (fun z => by cases z) (Nat.le_of_ble_eq_true rfl) ?_
  have hn := C.n110 O
  have hS6 := O.1.2
  have hW := O.W
  have hT6 := O.2.2.2.1.2.2
  have hN9 := O.2.1.2
  show xJ l (RX11, 6, (some .int), false, (xR (d + 6) 0 0), none) cX11_film _ 0 0 0 [(0, .ref 0), (1, .int q), (2, .int s), (3, .int n1)] [] (n, fh g)
  refine xj_iload_n (n := 1) (i := 1) 1 rfl rfl dX11_film_0 ?_
  refine xj_callS ks_X11_230 (c_X11_isSheet l (d + 4) q _) (As := [.int q]) (st := []) rfl rfl (xRm_of (by omega) (by decide) (by omega) (by omega)) (Nat.le_of_ble_eq_true rfl) dX11_film_1 (yk_p (kc := 0) (ks := 0) ?_)
  refine xj_if_ne (tgt := 10) (by decide) dX11_film_4 (fun zc4 => ?_) (fun zc4 => ?_)
  · have zp4 : 0 ≤ q ∧ q ≤ 3 := bI_n0.mp zc4
    obtain ⟨kq, hkq, rfl⟩ := nI_bnd (m := 3) (by decide) zp4.1 zp4.2
    have hk4_kq : kq < 4 := by omega
    refine xj_aload_n (n := 0) (i := 0) 0 rfl rfl dX11_film_10 ?_
    refine xj_iload_n (n := 2) (i := 2) 2 rfl rfl dX11_film_11 ?_
    refine xj_callV kv_X11_125 (c_X11_isSleeper l (d + 4) n g A Λ O C s) (As := [.int s]) (st := []) (by omega) (fq_0 g) (ci := 11) rfl rfl rfl rfl (xRm_of (by omega) (by decide) (by omega) (by omega)) (Nat.le_of_ble_eq_true rfl) dX11_film_12 (yk_p (kc := 0) (ks := 0) ?_)
    refine xj_if_ne (tgt := 21) (by decide) dX11_film_15 (fun zc15 => ?_) (fun zc15 => ?_)
    · have zp15 : isSl A s := bI_n0.mp zc15
      obtain ⟨ks, hks, rfl⟩ := isSl_of O zp15
      have hs6_ks : ks < 6 := by omega
      refine xj_iload_n (n := 3) (i := 3) 3 rfl rfl dX11_film_21 ?_
      refine xj_bipush (v := 20) (by decide) dX11_film_22 ?_
      refine xj_callS ks_X11_107 (c_X11_within l (d + 5) n1 20 _) (As := [.int n1, .int 20]) (st := []) rfl rfl (xRm_of (by omega) (by decide) (by omega) (by omega)) (Nat.le_of_ble_eq_true rfl) dX11_film_24 (yk_p (kc := 0) (ks := 0) ?_)
      refine xj_if_ne (tgt := 33) (by decide) dX11_film_27 (fun zc27 => ?_) (fun zc27 => ?_)
      · have zp27 : 0 ≤ n1 ∧ n1 ≤ 20 := bI_n0.mp zc27
        obtain ⟨kn1, hkn1, rfl⟩ := nI_bnd (m := 20) (by decide) zp27.1 zp27.2
        refine xj_aload_n (n := 0) (i := 0) 0 rfl rfl dX11_film_33 ?_
        refine xj_iload_n (n := 2) (i := 2) 2 rfl rfl dX11_film_34 ?_
        refine xj_callV kv_X11_184 (c_X11_inThought l (d + 3) n g A Λ O C ks hks) (As := [.int (nI ks)]) (st := []) (by omega) (fq_0 g) (ci := 11) rfl rfl rfl rfl (xRm_of (by omega) (by decide) (by omega) (by omega)) (Nat.le_of_ble_eq_true rfl) dX11_film_35 (yk_r (kc := 0) (ks := 0) fun zv1 zg2 hzg2 => ?_)
        obtain ⟨hvzv1, hxzg2, Bzg2⟩ := hzg2
        subst hvzv1
        have Czg2 := C.keep O hxzg2
        refine xj_astore (i := 4) (lv1 := [(4, .ref (28 + 3 * ks)), (0, .ref 0), (1, .int (nI kq)), (2, .int (nI ks)), (3, .int (nI kn1))]) rfl (Nat.le_of_ble_eq_true rfl) dX11_film_38 ?_
        refine xj_aload_n (n := 0) (i := 0) 1 rfl rfl dX11_film_40 ?_
        refine yj_getf (v := .ref 71) fl_X11_69_11 (by omega) (fq_0 zg2) rfl dX11_film_41 ?_
        refine xj_iload_n (n := 1) (i := 1) 2 rfl rfl dX11_film_44 ?_
        refine yj_aaldN (m := 4) (a := 72 + 2 * kq) kq (by omega) (fq_71 zg2) (by decide) (by decide) rfl (by omega) (by decide) (if_pos (by omega)) dX11_film_45 ?_
        refine xj_iconst (v := 2) (by decide) dX11_film_46 ?_
        refine xj_iload_n (n := 3) (i := 3) 4 rfl rfl dX11_film_47 ?_
        refine xj_callV kv_X11_233 (c_X8_become l (d + 4) n hn zg2 (72 + 2 * kq) (fSt_q hk4_kq) 2 (nI kn1)) (As := [.int 2, .int (nI kn1)]) (st := []) (by omega) ((fSt_q hk4_kq).2.1 _) (ci := 8) rfl rfl rfl rfl (xRm_of (by omega) (by decide) (by omega) (by omega)) (Nat.le_of_ble_eq_true rfl) dX11_film_48 (yk_v (kc := 0) (ks := 0) fun zg3 hzg3 => ?_)
        obtain ⟨hf9, h91, h92, h93⟩ := hzg3
        refine xj_iconst (v := 0) (by decide) dX11_film_51 ?_
        refine xj_istore (i := 5) (lv1 := [(5, .int 0), (4, .ref (28 + 3 * ks)), (0, .ref 0), (1, .int (nI kq)), (2, .int (nI ks)), (3, .int (nI kn1))]) rfl (Nat.le_of_ble_eq_true rfl) dX11_film_52 ?_
        have key : ∀ i, i ≤ kn1 → ∀ (g1 : xG), fr (yX kq) g g1 → pnA g1 (28 + 3 * ks) (aK A ks) (A 2 ks) (A 3 ks) (rwP A Λ ks i) → g1 (72 + 2 * kq) 0 = 2 → g1 (72 + 2 * kq) 1 = nI kn1 → (∀ j, j < 40 → g1 (72 + 2 * kq + 1) j = (fun j => if j < i then rsP A Λ ks j else 0) j) → xJ l (RX11, 6, (some .int), false, (xR (d + 6) 0 0), none) cX11_film (qI n fun v g1 => v = (rFilm A Λ (nI kq) (nI ks) (nI kn1)).1 ∧ cA g1 n (rFilm A Λ (nI kq) (nI ks) (nI kn1)).2 Λ ∧ fr cX g g1) 0 0 54 [(5, .int (nI i)), (4, .ref (28 + 3 * ks)), (0, .ref 0), (1, .int (nI kq)), (2, .int (nI ks)), (3, .int (nI kn1))] [] (n, fh g1) := by
          refine x_loop kn1 _ ?_ ?_
          · intro g1 hf B h1 h2 h3
            refine xj_iload (i := 5) 0 rfl dX11_film_54 ?_
            refine xj_iload_n (n := 3) (i := 3) 5 rfl rfl dX11_film_56 ?_
            refine xj_icmp_ge (tgt := 119) (by decide) dX11_film_57 (fun zc57 => ?_) (fun zc57 => ?_)
            · refine xj_iload_n (n := 3) (i := 3) 5 rfl rfl dX11_film_119 ?_
              have er : rFilm A Λ (nI kq) (nI ks) (nI kn1) = ((nI kn1), stQ A kq 2 (nI kn1) (fun j => if j < kn1 then rsP A Λ ks j else 0)) := by unfold rFilm; (try simp only [nI_clamp (show kq < 2147483648 by omega), nI_clamp (show ks < 2147483648 by omega), nI_clamp (show kn1 < 2147483648 by omega)]); rw [if_pos zp4, if_pos zp15, if_pos zp27]; all_goals (rfl)
              exact xj_ireturn rfl (nr_i _) (Nat.zero_le _) (Nat.zero_le _) dX11_film_120 (qI_e (by rw [er]; exact ⟨rfl, (C.sht2 O hk4_kq hf h1 h2 h3), (hf.mono (fun j hj => hj.elim (sX_c j) (fun e => cX_lt (by omega))))⟩))
            · exact absurd (nI_le (Nat.le_refl _) (by omega)) zc57
          · intro i hi ih g1 hf B h1 h2 h3
            have U := film_use C O hk4_kq hf
            refine xj_iload (i := 5) 0 rfl dX11_film_54 ?_
            refine xj_iload_n (n := 3) (i := 3) 5 rfl rfl dX11_film_56 ?_
            refine xj_icmp_ge (tgt := 119) (by decide) dX11_film_57 (fun zc57 => ?_) (fun zc57 => ?_)
            · exact absurd zc57 (nI_ge hi (by omega))
            · refine xj_aload_n (n := 0) (i := 0) 2 rfl rfl dX11_film_60 ?_
              refine yj_getf (v := .ref 71) fl_X11_69_11 (by omega) (fq_0 g1) rfl dX11_film_61 ?_
              refine xj_iload_n (n := 1) (i := 1) 3 rfl rfl dX11_film_64 ?_
              refine yj_aaldN (m := 4) (a := 72 + 2 * kq) kq (by omega) (fq_71 g1) (by decide) (by decide) rfl (by omega) (by decide) (if_pos (by omega)) dX11_film_65 ?_
              refine xj_iload (i := 5) 0 rfl dX11_film_66 ?_
              refine xj_aload (i := 4) 1 rfl dX11_film_68 ?_
              refine xj_aload_n (n := 0) (i := 0) 2 rfl rfl dX11_film_70 ?_
              refine yj_getf (v := .ref 66) fl_X11_55_11 (by omega) (fq_0 g1) rfl dX11_film_71 ?_
              refine xj_aload_n (n := 0) (i := 0) 2 rfl rfl dX11_film_74 ?_
              refine yj_getf (v := .int (nI (aW A))) fl_X11_93_11 (by omega) (fq_0 g1) (congrArg (fun z => some (Value.int z)) U.1.2) dX11_film_75 ?_
              refine yj_aaldN (m := 6) (a := fTX (aW A)) (aW A) (by omega) (fq_66 g1) (by decide) (by decide) rfl (by omega) (by decide) U.2.2 dX11_film_78 ?_
              refine xj_aload_n (n := 0) (i := 0) 2 rfl rfl dX11_film_79 ?_
              refine yj_getf (v := .int (nI (aN A))) fl_X11_84_11 (by omega) (fq_0 g1) (congrArg (fun z => some (Value.int z)) U.1.1) dX11_film_80 ?_
              refine xj_iload (i := 5) 0 rfl dX11_film_83 ?_
              refine xj_iadd dX11_film_85 ?_
              refine xj_top (nI_add _ _) ?_
              refine xj_callV kv_X11_164 (c_X7_seenCells l (d + 0) n hn g1 (28 + 3 * ks) (fTX (aW A)) (aK A ks) (A 2 ks) (A 3 ks) (rwP A Λ ks i) (Λ (aW A)) (fPn_t hs6_ks) B U.2.1 (nI (aN A + i))) (As := [.ref (fTX (aW A)), .int (nI ((aN A) + i))]) (st := [.int (nI i), .ref (72 + 2 * kq)]) (by omega) ((fPn_t hs6_ks).2.2.1 _) (ci := 7) rfl rfl rfl rfl (xRm_of (by omega) (by decide) (by omega) (by omega)) (Nat.le_of_ble_eq_true rfl) dX11_film_86 (yk_i (kc := 0) (ks := 0) fun zv4 zg5 hzg5 => ?_)
              obtain ⟨hv9, hfa⟩ := hzg5
              have Ba := B.keep (fPn_t hs6_ks) U.2.1.1 hfa
              have hya : fr (yX kq) g zg5 := hf.tr (hfa.mono (fun j hj => Or.inl (fX_s (t := aW A) hs6_ks (Or.inr (Or.inl rfl)) j hj)))
              refine xj_callV kv_X11_237 (c_X8_write l (d + 5) n hn zg5 (72 + 2 * kq) (fSt_q hk4_kq) 2 zv4 i (by omega) (by rw [hfa _ (by have hv := fTX_v (aW A); unfold fX; omega)]; exact h1)) (As := [.int (nI i), .int zv4]) (st := []) (by omega) ((fSt_q hk4_kq).2.1 _) (ci := 8) rfl rfl rfl rfl (xRm_of (by omega) (by decide) (by omega) (by omega)) (Nat.le_of_ble_eq_true rfl) dX11_film_89 (yk_v (kc := 0) (ks := 0) fun zg6 hzg6 => ?_)
              have hb9 := hzg6
              have hyb : fr (yX kq) g zg6 := by rw [hb9]; exact hya.gs (Or.inr (Or.inr rfl)) _ _
              have Bb : pnA zg6 (28 + 3 * ks) (aK A ks) (A 2 ks) (A 3 ks) (rwP A Λ ks i) := Ba.fr (by rw [hb9, gs_n _ _ _ (by omega)]) (by rw [hb9, gs_n _ _ _ (by omega)])
              have U2 := film_use C O hk4_kq hyb
              have e72 : zg6 (72 + 2 * kq) = g1 (72 + 2 * kq) := by rw [hb9, gs_n _ _ _ (by omega)]; exact hfa _ (by have hv := fTX_v (aW A); unfold fX; omega)
              have e73 : zg6 (72 + 2 * kq + 1) = upd (g1 (72 + 2 * kq + 1)) i (rsP A Λ ks i) := by rw [hb9, gs_s, hfa _ (by have hv := fTX_v (aW A); unfold fX; omega), show wrF 2 zv4 = rsP A Λ ks i from hv9]
              refine xj_aload (i := 4) 1 rfl dX11_film_92 ?_
              refine xj_aload_n (n := 0) (i := 0) 2 rfl rfl dX11_film_94 ?_
              refine yj_getf (v := .ref 66) fl_X11_55_11 (by omega) (fq_0 zg6) rfl dX11_film_95 ?_
              refine xj_aload_n (n := 0) (i := 0) 2 rfl rfl dX11_film_98 ?_
              refine yj_getf (v := .int (nI (aW A))) fl_X11_93_11 (by omega) (fq_0 zg6) (congrArg (fun z => some (Value.int z)) U2.1.2) dX11_film_99 ?_
              refine yj_aaldN (m := 6) (a := fTX (aW A)) (aW A) (by omega) (fq_66 zg6) (by decide) (by decide) rfl (by omega) (by decide) U2.2.2 dX11_film_102 ?_
              refine xj_aload_n (n := 0) (i := 0) 2 rfl rfl dX11_film_103 ?_
              refine yj_getf (v := .int (nI (aN A))) fl_X11_84_11 (by omega) (fq_0 zg6) (congrArg (fun z => some (Value.int z)) U2.1.1) dX11_film_104 ?_
              refine xj_iload (i := 5) 0 rfl dX11_film_107 ?_
              refine xj_iadd dX11_film_109 ?_
              refine xj_top (nI_add _ _) ?_
              refine xj_callV kv_X11_177 (c_X7_passNight l (d + 1) n hn zg6 (28 + 3 * ks) (fTX (aW A)) (aK A ks) (A 2 ks) (A 3 ks) (rwP A Λ ks i) (Λ (aW A)) (fPn_t hs6_ks) Bb U2.2.1 (nI (aN A + i))) (As := [.ref (fTX (aW A)), .int (nI ((aN A) + i))]) (st := []) (by omega) ((fPn_t hs6_ks).2.2.1 _) (ci := 7) rfl rfl rfl rfl (xRm_of (by omega) (by decide) (by omega) (by omega)) (Nat.le_of_ble_eq_true rfl) dX11_film_110 (yk_v (kc := 0) (ks := 0) fun zg7 hzg7 => ?_)
              obtain ⟨hfc, Bc⟩ := hzg7
              have hyc : fr (yX kq) g zg7 := hyb.tr (hfc.mono (fun j hj => Or.inl (fXd_s (t := aW A) hs6_ks rfl j hj)))
              refine xj_iinc (n := 1) (i := 5) (v := nI (i + 1)) (lv1 := [(5, .int (nI (i + 1))), (4, .ref (28 + 3 * ks)), (0, .ref 0), (1, .int (nI kq)), (2, .int (nI ks)), (3, .int (nI kn1))]) 0 rfl (nI_1 i) rfl (Nat.le_of_ble_eq_true rfl) dX11_film_113 ?_
              refine xj_goto (tgt := 54) (by decide) dX11_film_116 ?_
              refine xj_sub (lv' := [(5, .int (nI (i + 1))), (4, .ref (28 + 3 * ks)), (0, .ref 0), (1, .int (nI kq)), (2, .int (nI ks)), (3, .int (nI kn1))]) [0, 1, 2, 3, 4, 5] rfl ?_
              refine ih zg7 hyc Bc (by rw [hfc _ (by have hv := fTX_v (aW A); unfold fXd; omega), e72]; exact h1) (by rw [hfc _ (by have hv := fTX_v (aW A); unfold fXd; omega), e72]; exact h2) (fun j hj => ?_)
              rw [hfc _ (by have hv := fTX_v (aW A); unfold fXd; omega), e73]
              by_cases e : j = i
              · subst e; rw [upd_s]; exact (if_pos (Nat.lt_succ_self j)).symm
              · rw [upd_n _ _ e, h3 j hj]; by_cases hlt : j < i
                · exact (if_pos hlt).trans (if_pos (by omega)).symm
                · exact (if_neg hlt).trans (if_neg (by omega)).symm
        refine xj_sub (lv' := [(5, .int 0), (4, .ref (28 + 3 * ks)), (0, .ref 0), (1, .int (nI kq)), (2, .int (nI ks)), (3, .int (nI kn1))]) [0, 1, 2, 3, 4, 5] rfl ?_
        exact key 0 (Nat.zero_le _) zg3 ((hxzg2.mono (fun j hj => Or.inl hj)).tr (hf9.mono (fun j hj => Or.inr hj))) (Bzg2.fr (hf9 _ (by omega)) (hf9 _ (by omega))) h91 h92 (fun j hj => (h93 j hj).trans (if_neg (Nat.not_lt_zero j)).symm)
      · have zp27 : ¬ (0 ≤ n1 ∧ n1 ≤ 20) := bI_0.mp zc27
        refine xj_bipush (v := (-7)) (by decide) dX11_film_30 ?_
        have er : rFilm A Λ (nI kq) (nI ks) n1 = ((-7), A) := by unfold rFilm; (try simp only [nI_clamp (show kq < 2147483648 by omega), nI_clamp (show ks < 2147483648 by omega)]); rw [if_pos zp4, if_pos zp15, if_neg zp27]; all_goals (rfl)
        exact xj_ireturn rfl (nr_i _) (Nat.zero_le _) (Nat.zero_le _) dX11_film_32 (qI_e (by rw [er]; exact ⟨rfl, C, fr.rf⟩))
    · have zp15 : ¬ (isSl A s) := bI_0.mp zc15
      refine xj_bipush (v := (-5)) (by decide) dX11_film_18 ?_
      have er : rFilm A Λ (nI kq) s n1 = ((-5), A) := by unfold rFilm; (try simp only [nI_clamp (show kq < 2147483648 by omega)]); rw [if_pos zp4, if_neg zp15]; all_goals (rfl)
      exact xj_ireturn rfl (nr_i _) (Nat.zero_le _) (Nat.zero_le _) dX11_film_20 (qI_e (by rw [er]; exact ⟨rfl, C, fr.rf⟩))
  · have zp4 : ¬ (0 ≤ q ∧ q ≤ 3) := bI_0.mp zc4
    refine xj_bipush (v := (-2)) (by decide) dX11_film_7 ?_
    have er : rFilm A Λ q s n1 = ((-2), A) := by unfold rFilm; rw [if_neg zp4]; all_goals (rfl)
    exact xj_ireturn rfl (nr_i _) (Nat.zero_le _) (Nat.zero_le _) dX11_film_9 (qI_e (by rw [er]; exact ⟨rfl, C, fr.rf⟩))
