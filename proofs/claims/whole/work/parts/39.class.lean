/-- the first of 0 .. that is so; -1: none -/
def fiF (f : Nat → Bool) : Nat → Int32
  | 0 => -1
  | m + 1 => if f m = true then (if fiF f m = -1 then nI m else fiF f m) else fiF f m
def cnF (f : Nat → Bool) : Nat → Int32
  | 0 => 0
  | m + 1 => if f m = true then cnF f m + 1 else cnF f m
theorem fiF_none {f : Nat → Bool} : ∀ {n : Nat}, (∀ c, c < n → f c = false) → fiF f n = -1
  | 0, _ => rfl
  | n + 1, h => by
    unfold fiF
    rw [h n (Nat.lt_succ_self n), if_neg (by decide), fiF_none (fun c hc => h c (Nat.lt_succ_of_lt hc))]
theorem cnF_none {f : Nat → Bool} : ∀ {n : Nat}, (∀ c, c < n → f c = false) → cnF f n = 0
  | 0, _ => rfl
  | n + 1, h => by
    unfold cnF
    rw [h n (Nat.lt_succ_self n), if_neg (by decide), cnF_none (fun c hc => h c (Nat.lt_succ_of_lt hc))]
def soF (A : zSt) (Λ : Nat → xL) (q s c v : Nat) : Bool := decide (reF A Λ q s c = true ∧ raF A Λ q s c (nI v) = true)
def vDims (A : zSt) (Λ : Nat → xL) (q s w : Int32) : Int32 := if refF A q s = 0 then if w < 0 then -7 else if 0 ≤ nI (w.toNatClampNeg / 10) ∧ nI (w.toNatClampNeg / 10) ≤ 15 then if 0 ≤ nI (w.toNatClampNeg % 10) ∧ nI (w.toNatClampNeg % 10) ≤ 1 then if nI (w.toNatClampNeg % 10) = 0 then cnF (soF A Λ q.toNatClampNeg s.toNatClampNeg (w.toNatClampNeg / 10)) 100 else fiF (soF A Λ q.toNatClampNeg s.toNatClampNeg (w.toNatClampNeg / 10)) 100 else -7 else -7 else refF A q s
theorem pnA.setD {g : xG} {q k : Nat} {more pic : Int32} {d : Nat → Int32} (h : pnA g q k more pic d) (c : Nat) (x : Int32) : pnA (gs g (q + 1) c x) q k more pic (upd d c x) := by
  obtain ⟨a, b, e, f, z⟩ := h
  refine ⟨by rw [gs_n _ _ _ (by omega)]; exact a, by rw [gs_n _ _ _ (by omega)]; exact b, by rw [gs_n _ _ _ (by omega)]; exact e, fun j hj => ?_, z⟩
  rw [gs_s]
  by_cases hjc : j = c
  · subst hjc; rw [upd_s, upd_s]
  · rw [upd_n _ _ hjc, upd_n _ _ hjc]; exact f j hj
set_option maxHeartbeats 4000000 in
set_option maxRecDepth 100000 in
theorem c_X11_dims (l : Launch) (d : Nat) (n : Nat) (g : xG) (A : zSt) (Λ : Nat → xL) (O : okA A) (C : cA g n A Λ) (q s w : Int32)  : xC l yX11_dims cX11_dims 10 (some .int) (xR (d + 8) 0 0) [.ref 0, .int q, .int s, .int w] (n, fh g) (qI n fun v g1 => v = vDims A Λ q s w ∧ fr sX g g1) := by
  refine xC_of false (by decide +kernel) (fun z => by cases z) (Nat.le_of_ble_eq_true rfl) ?_
  have hn := C.n110 O
  have hS6 := O.1.2
  have hW := O.W
  have hT6 := O.2.2.2.1.2.2
  have hN9 := O.2.1.2
  show xJ l (RX11, 10, (some .int), false, (xR (d + 8) 0 0), none) cX11_dims _ 0 0 0 [(0, .ref 0), (1, .int q), (2, .int s), (3, .int w)] [] (n, fh g)
  refine xj_aload_n (n := 0) (i := 0) 0 rfl rfl dX11_dims_0 ?_
  refine xj_iload_n (n := 1) (i := 1) 1 rfl rfl dX11_dims_1 ?_
  refine xj_iload_n (n := 2) (i := 2) 2 rfl rfl dX11_dims_2 ?_
  refine xj_callV kv_X11_211 (c_X11_refusalOf l (d + 5) n g A Λ O C q s) (As := [.int q, .int s]) (st := []) (by omega) (fq_0 g) (ci := 11) rfl rfl rfl rfl (xRm_of (by omega) (by decide) (by omega) (by omega)) (Nat.le_of_ble_eq_true rfl) dX11_dims_3 (yk_p (kc := 0) (ks := 0) ?_)
  refine xj_istore (i := 4) (lv1 := [(4, .int (refF A q s)), (0, .ref 0), (1, .int q), (2, .int s), (3, .int w)]) rfl (Nat.le_of_ble_eq_true rfl) dX11_dims_6 ?_
  refine xj_iload (i := 4) 0 rfl dX11_dims_8 ?_
  refine xj_if_eq (tgt := 16) (by decide) dX11_dims_10 (fun zc10 => ?_) (fun zc10 => ?_)
  · obtain ⟨kq, ks, hk4_kq, hks, rfl, rfl, hz20⟩ := refF_0 O zc10
    have hs6_ks : ks < 6 := by omega
    refine xj_iload_n (n := 3) (i := 3) 4 rfl rfl dX11_dims_16 ?_
    refine xj_if_lt (tgt := 41) (by decide) dX11_dims_17 (fun zc17 => ?_) (fun zc17 => ?_)
    · refine xj_bipush (v := (-7)) (by decide) dX11_dims_41 ?_
      exact xj_ireturn rfl (nr_i _) (Nat.zero_le _) (Nat.zero_le _) dX11_dims_43 (qI_e ⟨by unfold vDims; (try simp only [nI_clamp (show kq < 2147483648 by omega), nI_clamp (show ks < 2147483648 by omega)]); rw [if_pos zc10, if_pos zc17]; all_goals (rfl), fr.rf⟩)
    · obtain ⟨kw, hkw, rfl⟩ := nI_of zc17
      have hd9 : nI kw / 10 = nI (kw / 10) := pk_d10 hkw
      have hr9 : nI kw - nI kw / 10 * 10 = nI (kw % 10) := pk_r10 hkw
      refine xj_iload_n (n := 3) (i := 3) 4 rfl rfl dX11_dims_20 ?_
      refine xj_bipush (v := 10) (by decide) dX11_dims_21 ?_
      refine xj_idiv (by decide) dX11_dims_23 ?_
      refine xj_top (show ((nI kw) / 10) = nI (kw / 10) from hd9) ?_
      refine xj_callS ks_X11_129 (c_X11_isCell l (d + 6) (nI (kw / 10)) _) (As := [.int (nI (kw / 10))]) (st := []) rfl rfl (xRm_of (by omega) (by decide) (by omega) (by omega)) (Nat.le_of_ble_eq_true rfl) dX11_dims_24 (yk_p (kc := 0) (ks := 0) ?_)
      refine xj_if_eq (tgt := 41) (by decide) dX11_dims_27 (fun zc27 => ?_) (fun zc27 => ?_)
      · have zp27 : ¬ (0 ≤ (nI (kw / 10)) ∧ (nI (kw / 10)) ≤ 15) := bI_0.mp zc27
        refine xj_bipush (v := (-7)) (by decide) dX11_dims_41 ?_
        exact xj_ireturn rfl (nr_i _) (Nat.zero_le _) (Nat.zero_le _) dX11_dims_43 (qI_e ⟨by unfold vDims; (try simp only [nI_clamp (show kq < 2147483648 by omega), nI_clamp (show ks < 2147483648 by omega), nI_clamp (show kw < 2147483648 by omega)]); rw [if_pos zc10, if_neg zc17, if_neg zp27]; all_goals (rfl), fr.rf⟩)
      · have zp27 : 0 ≤ (nI (kw / 10)) ∧ (nI (kw / 10)) ≤ 15 := bI_n0.mp zc27
        have hc16 : kw / 10 < 16 := by have h := (nI_leI (b := 15) (by omega) (by decide)).mp zp27.2; omega
        refine xj_iload_n (n := 3) (i := 3) 4 rfl rfl dX11_dims_30 ?_
        refine xj_bipush (v := 10) (by decide) dX11_dims_31 ?_
        refine xj_irem (by decide) dX11_dims_33 ?_
        refine xj_top (show ((nI kw) - (nI kw) / 10 * 10) = nI (kw % 10) from hr9) ?_
        refine xj_iconst (v := 1) (by decide) dX11_dims_34 ?_
        refine xj_callS ks_X11_107 (c_X11_within l (d + 7) (nI (kw % 10)) 1 _) (As := [.int (nI (kw % 10)), .int 1]) (st := []) rfl rfl (xRm_of (by omega) (by decide) (by omega) (by omega)) (Nat.le_of_ble_eq_true rfl) dX11_dims_35 (yk_p (kc := 0) (ks := 0) ?_)
        refine xj_if_ne (tgt := 44) (by decide) dX11_dims_38 (fun zc38 => ?_) (fun zc38 => ?_)
        · have zp38 : 0 ≤ (nI (kw % 10)) ∧ (nI (kw % 10)) ≤ 1 := bI_n0.mp zc38
          refine xj_iload_n (n := 3) (i := 3) 4 rfl rfl dX11_dims_44 ?_
          refine xj_bipush (v := 10) (by decide) dX11_dims_45 ?_
          refine xj_idiv (by decide) dX11_dims_47 ?_
          refine xj_top (show ((nI kw) / 10) = nI (kw / 10) from hd9) ?_
          refine xj_istore (i := 5) (lv1 := [(5, .int (nI (kw / 10))), (4, .int (refF A (nI kq) (nI ks))), (0, .ref 0), (1, .int (nI kq)), (2, .int (nI ks)), (3, .int (nI kw))]) rfl (Nat.le_of_ble_eq_true rfl) dX11_dims_48 ?_
          refine xj_iconst (v := 0) (by decide) dX11_dims_50 ?_
          refine xj_istore (i := 6) (lv1 := [(6, .int 0), (5, .int (nI (kw / 10))), (4, .int (refF A (nI kq) (nI ks))), (0, .ref 0), (1, .int (nI kq)), (2, .int (nI ks)), (3, .int (nI kw))]) rfl (Nat.le_of_ble_eq_true rfl) dX11_dims_51 ?_
          refine xj_iconst (v := (-1)) (by decide) dX11_dims_53 ?_
          refine xj_istore (i := 7) (lv1 := [(7, .int (-1)), (6, .int 0), (5, .int (nI (kw / 10))), (4, .int (refF A (nI kq) (nI ks))), (0, .ref 0), (1, .int (nI kq)), (2, .int (nI ks)), (3, .int (nI kw))]) rfl (Nat.le_of_ble_eq_true rfl) dX11_dims_54 ?_
          refine xj_aload_n (n := 0) (i := 0) 4 rfl rfl dX11_dims_56 ?_
          refine xj_aload_n (n := 0) (i := 0) 4 rfl rfl dX11_dims_57 ?_
          refine yj_getf (v := .ref 71) fl_X11_69_11 (by omega) (fq_0 g) rfl dX11_dims_58 ?_
          refine xj_iload_n (n := 1) (i := 1) 5 rfl rfl dX11_dims_61 ?_
          refine yj_aaldN (m := 4) (a := 72 + 2 * kq) kq (by omega) (fq_71 g) (by decide) (by decide) rfl (by omega) (by decide) (if_pos (by omega)) dX11_dims_62 ?_
          refine xj_iload_n (n := 2) (i := 2) 6 rfl rfl dX11_dims_63 ?_
          refine xj_iload (i := 5) 2 rfl dX11_dims_64 ?_
          refine xj_callV kv_X11_218 (c_X11_isRightElsewhere l (d + 0) n g A Λ O C kq ks (kw / 10) hk4_kq hks (by omega)) (As := [.ref (72 + 2 * kq), .int (nI ks), .int (nI (kw / 10))]) (st := []) (by omega) (fq_0 g) (ci := 11) rfl rfl rfl rfl (xRm_of (by omega) (by decide) (by omega) (by omega)) (Nat.le_of_ble_eq_true rfl) dX11_dims_66 (yk_i (kc := 0) (ks := 0) fun zv1 zg2 hzg2 => ?_)
          obtain ⟨hvzv1, hxzg2⟩ := hzg2
          have Czg2 := C.keep O hxzg2
          refine xj_if_eq (tgt := 140) (by decide) dX11_dims_69 (fun zc69 => ?_) (fun zc69 => ?_)
          · have hre : ¬ reF A Λ kq ks (kw / 10) = true := bI_0.mp (hvzv1.symm.trans zc69)
            have hno : ∀ c, c < 100 → (soF A Λ kq ks (kw / 10)) c = false := fun c _ => decide_eq_false (fun z => hre z.1)
            refine xj_iload_n (n := 3) (i := 3) 7 rfl rfl dX11_dims_140 ?_
            refine xj_bipush (v := 10) (by decide) dX11_dims_141 ?_
            refine xj_irem (by decide) dX11_dims_143 ?_
            refine xj_top (show ((nI kw) - (nI kw) / 10 * 10) = nI (kw % 10) from hr9) ?_
            refine xj_if_ne (tgt := 152) (by decide) dX11_dims_144 (fun zc144 => ?_) (fun zc144 => ?_)
            · refine xj_iload (i := 7) 0 rfl dX11_dims_152 ?_
              exact xj_ireturn rfl (nr_i _) (Nat.zero_le _) (Nat.zero_le _) dX11_dims_154 (qI_e ⟨by unfold vDims; (try simp only [nI_clamp (show kq < 2147483648 by omega), nI_clamp (show ks < 2147483648 by omega), nI_clamp (show kw < 2147483648 by omega)]); rw [if_pos zc10, if_neg zc17, if_pos zp27, if_pos zp38, if_neg zc144]; all_goals (first | exact (cnF_none hno).symm | exact (fiF_none hno).symm), hxzg2⟩)
            · refine xj_iload (i := 6) 1 rfl dX11_dims_147 ?_
              refine xj_goto (tgt := 154) (by decide) dX11_dims_149 ?_
              exact xj_ireturn rfl (nr_i _) (Nat.zero_le _) (Nat.zero_le _) dX11_dims_154 (qI_e ⟨by unfold vDims; (try simp only [nI_clamp (show kq < 2147483648 by omega), nI_clamp (show ks < 2147483648 by omega), nI_clamp (show kw < 2147483648 by omega)]); rw [if_pos zc10, if_neg zc17, if_pos zp27, if_pos zp38, if_pos zc144]; all_goals (first | exact (cnF_none hno).symm | exact (fiF_none hno).symm), hxzg2⟩)
          · have hre : reF A Λ kq ks (kw / 10) = true := bI_n0.mp (fun z => zc69 (hvzv1.trans z))
            refine xj_aload_n (n := 0) (i := 0) 4 rfl rfl dX11_dims_72 ?_
            refine xj_iload_n (n := 2) (i := 2) 6 rfl rfl dX11_dims_73 ?_
            refine xj_callV kv_X11_184 (c_X11_inThought l (d + 5) n zg2 A Λ O Czg2 ks hks) (As := [.int (nI ks)]) (st := []) (by omega) (fq_0 zg2) (ci := 11) rfl rfl rfl rfl (xRm_of (by omega) (by decide) (by omega) (by omega)) (Nat.le_of_ble_eq_true rfl) dX11_dims_74 (yk_r (kc := 0) (ks := 0) fun zv3 zg4 hzg4 => ?_)
            obtain ⟨hvzv3, hxzg4, Bzg4⟩ := hzg4
            subst hvzv3
            have Czg4 := Czg2.keep O hxzg4
            refine xj_astore (i := 8) (lv1 := [(8, .ref (28 + 3 * ks)), (7, .int (-1)), (6, .int 0), (5, .int (nI (kw / 10))), (4, .int (refF A (nI kq) (nI ks))), (0, .ref 0), (1, .int (nI kq)), (2, .int (nI ks)), (3, .int (nI kw))]) rfl (Nat.le_of_ble_eq_true rfl) dX11_dims_77 ?_
            refine xj_iconst (v := 0) (by decide) dX11_dims_79 ?_
            refine xj_istore (i := 9) (lv1 := [(9, .int 0), (8, .ref (28 + 3 * ks)), (7, .int (-1)), (6, .int 0), (5, .int (nI (kw / 10))), (4, .int (refF A (nI kq) (nI ks))), (0, .ref 0), (1, .int (nI kq)), (2, .int (nI ks)), (3, .int (nI kw))]) rfl (Nat.le_of_ble_eq_true rfl) dX11_dims_80 ?_
            have key : ∀ i, i ≤ 100 → ∀ (g1 : xG) (d1 : Nat → Int32), fr sX g g1 → pnA g1 (28 + 3 * ks) (aK A ks) (A 2 ks) (A 3 ks) d1 → xJ l (RX11, 10, (some .int), false, (xR (d + 8) 0 0), none) cX11_dims (qI n fun v g1 => v = vDims A Λ (nI kq) (nI ks) (nI kw) ∧ fr sX g g1) 0 0 82 [(9, .int (nI i)), (6, .int (cnF (soF A Λ kq ks (kw / 10)) i)), (7, .int (fiF (soF A Λ kq ks (kw / 10)) i)), (8, .ref (28 + 3 * ks)), (5, .int (nI (kw / 10))), (0, .ref 0), (1, .int (nI kq)), (2, .int (nI ks)), (3, .int (nI kw))] [] (n, fh g1) := by
              refine x_loop 100 _ ?_ ?_
              · intro g1 d1 hf B1
                refine xj_iload (i := 9) 0 rfl dX11_dims_82 ?_
                refine xj_bipush (v := 99) (by decide) dX11_dims_84 ?_
                refine xj_icmp_gt (tgt := 140) (by decide) dX11_dims_86 (fun zc86 => ?_) (fun zc86 => ?_)
                · refine xj_iload_n (n := 3) (i := 3) 8 rfl rfl dX11_dims_140 ?_
                  refine xj_bipush (v := 10) (by decide) dX11_dims_141 ?_
                  refine xj_irem (by decide) dX11_dims_143 ?_
                  refine xj_top (show ((nI kw) - (nI kw) / 10 * 10) = nI (kw % 10) from hr9) ?_
                  refine xj_if_ne (tgt := 152) (by decide) dX11_dims_144 (fun zc144 => ?_) (fun zc144 => ?_)
                  · refine xj_iload (i := 7) 2 rfl dX11_dims_152 ?_
                    exact xj_ireturn rfl (nr_i _) (Nat.zero_le _) (Nat.zero_le _) dX11_dims_154 (qI_e ⟨by unfold vDims; (try simp only [nI_clamp (show kq < 2147483648 by omega), nI_clamp (show ks < 2147483648 by omega), nI_clamp (show kw < 2147483648 by omega)]); rw [if_pos zc10, if_neg zc17, if_pos zp27, if_pos zp38, if_neg zc144]; all_goals (rfl), hf⟩)
                  · refine xj_iload (i := 6) 1 rfl dX11_dims_147 ?_
                    refine xj_goto (tgt := 154) (by decide) dX11_dims_149 ?_
                    exact xj_ireturn rfl (nr_i _) (Nat.zero_le _) (Nat.zero_le _) dX11_dims_154 (qI_e ⟨by unfold vDims; (try simp only [nI_clamp (show kq < 2147483648 by omega), nI_clamp (show ks < 2147483648 by omega), nI_clamp (show kw < 2147483648 by omega)]); rw [if_pos zc10, if_neg zc17, if_pos zp27, if_pos zp38, if_pos zc144]; all_goals (rfl), hf⟩)
                · exact absurd (nI_lt (a := 99) (b := 100) (Nat.lt_succ_self _) (by decide)) zc86
              · intro i hi ih g1 d1 hf B1
                refine xj_iload (i := 9) 0 rfl dX11_dims_82 ?_
                refine xj_bipush (v := 99) (by decide) dX11_dims_84 ?_
                refine xj_icmp_gt (tgt := 140) (by decide) dX11_dims_86 (fun zc86 => ?_) (fun zc86 => ?_)
                · exact absurd zc86 (nI_nlt (b := i) (a := 99) (Nat.le_of_lt_succ hi) (by decide))
                · refine xj_aload (i := 8) 3 rfl dX11_dims_89 ?_
                  refine yj_getf (v := .ref ((28 + 3 * ks) + 1)) fl_X11_150_7 (by omega) ((fPn_t hs6_ks).2.2.1 (g1 (28 + 3 * ks))) rfl dX11_dims_91 ?_
                  refine xj_iload (i := 5) 4 rfl dX11_dims_94 ?_
                  refine xj_iload (i := 9) 0 rfl dX11_dims_96 ?_
                  refine yj_iastN (kw / 10) (by omega) (fPn_t hs6_ks).2.2.2.1 rfl (by omega) (by decide) dX11_dims_98 ?_
                  obtain ⟨zg5, ezg5⟩ : ∃ z, z = gs g1 ((28 + 3 * ks) + 1) (kw / 10) (nI i) := ⟨_, rfl⟩
                  rw [← ezg5]
                  have hxzg5 : fr sX g zg5 := by rw [ezg5]; exact hf.gs (by unfold sX; omega) _ _
                  have Czg5 := C.keep O hxzg5
                  have Bzg5 := B1.setD (kw / 10) (nI i)
                  rw [← ezg5] at Bzg5
                  refine xj_aload_n (n := 0) (i := 0) 5 rfl rfl dX11_dims_99 ?_
                  refine xj_aload_n (n := 0) (i := 0) 5 rfl rfl dX11_dims_100 ?_
                  refine yj_getf (v := .ref 71) fl_X11_69_11 (by omega) (fq_0 zg5) rfl dX11_dims_101 ?_
                  refine xj_iload_n (n := 1) (i := 1) 6 rfl rfl dX11_dims_104 ?_
                  refine yj_aaldN (m := 4) (a := 72 + 2 * kq) kq (by omega) (fq_71 zg5) (by decide) (by decide) rfl (by omega) (by decide) (if_pos (by omega)) dX11_dims_105 ?_
                  refine xj_aload (i := 8) 3 rfl dX11_dims_106 ?_
                  refine xj_iload (i := 5) 4 rfl dX11_dims_108 ?_
                  refine xj_callV kv_X11_222 (c_X11_isRightAt l (d + 1) n zg5 A Λ O Czg5 kq ks (kw / 10) hk4_kq hks (by omega) (upd d1 (kw / 10) (nI i)) Bzg5) (As := [.ref (72 + 2 * kq), .ref (28 + 3 * ks), .int (nI (kw / 10))]) (st := []) (by omega) (fq_0 zg5) (ci := 11) rfl rfl rfl rfl (xRm_of (by omega) (by decide) (by omega) (by omega)) (Nat.le_of_ble_eq_true rfl) dX11_dims_110 (yk_i (kc := 0) (ks := 0) fun zv6 zg7 hzg7 => ?_)
                  obtain ⟨hvzv6, hxzg7, dnzg7, hdnzg7, Bzg7⟩ := hzg7
                  have Czg7 := Czg5.keep O hxzg7
                  refine xj_if_eq (tgt := 134) (by decide) dX11_dims_113 (fun zc113 => ?_) (fun zc113 => ?_)
                  · have hob : ¬ (soF A Λ kq ks (kw / 10)) i = true := fun y => by have h := (of_decide_eq_true y).2; have h2 := bI_0.mp (hvzv6.symm.trans zc113); rw [upd_s] at h2; exact h2 h
                    refine xj_iinc (n := 1) (i := 9) (v := nI (i + 1)) (lv1 := [(9, .int (nI (i + 1))), (6, .int (cnF (soF A Λ kq ks (kw / 10)) i)), (7, .int (fiF (soF A Λ kq ks (kw / 10)) i)), (8, .ref (28 + 3 * ks)), (5, .int (nI (kw / 10))), (0, .ref 0), (1, .int (nI kq)), (2, .int (nI ks)), (3, .int (nI kw))]) 0 rfl (nI_1 i) rfl (Nat.le_of_ble_eq_true rfl) dX11_dims_134 ?_
                    refine xj_goto (tgt := 82) (by decide) dX11_dims_137 ?_
                    refine xj_sub (lv' := [(9, .int (nI (i + 1))), (6, .int (cnF (soF A Λ kq ks (kw / 10)) i)), (7, .int (fiF (soF A Λ kq ks (kw / 10)) i)), (8, .ref (28 + 3 * ks)), (5, .int (nI (kw / 10))), (0, .ref 0), (1, .int (nI kq)), (2, .int (nI ks)), (3, .int (nI kw))]) [0, 1, 2, 3, 4, 5, 6, 7, 8] rfl ?_
                    have h9 := ih zg7 _ (hxzg5.tr hxzg7) Bzg7
                    rw [show cnF (soF A Λ kq ks (kw / 10)) (i + 1) = cnF (soF A Λ kq ks (kw / 10)) i from if_neg hob, show fiF (soF A Λ kq ks (kw / 10)) (i + 1) = fiF (soF A Λ kq ks (kw / 10)) i from if_neg hob] at h9
                    exact h9
                  · have hob : (soF A Λ kq ks (kw / 10)) i = true := decide_eq_true ⟨hre, by have h2 := bI_n0.mp (fun z => zc113 (hvzv6.trans z)); rw [upd_s] at h2; exact h2⟩
                    obtain ⟨zv8, ezv8⟩ : ∃ z : Int32, z = (cnF (soF A Λ kq ks (kw / 10)) i) + Int32.ofInt (1) := ⟨_, rfl⟩
                    refine xj_iinc (i := 6) (v := zv8) (lv1 := [(6, .int zv8), (9, .int (nI i)), (7, .int (fiF (soF A Λ kq ks (kw / 10)) i)), (8, .ref (28 + 3 * ks)), (5, .int (nI (kw / 10))), (0, .ref 0), (1, .int (nI kq)), (2, .int (nI ks)), (3, .int (nI kw))]) 1 rfl ezv8.symm rfl (Nat.le_of_ble_eq_true rfl) dX11_dims_116 ?_
                    refine xj_iload (i := 7) 2 rfl dX11_dims_119 ?_
                    refine xj_iconst (v := (-1)) (by decide) dX11_dims_121 ?_
                    refine xj_icmp_ne (tgt := 130) (by decide) dX11_dims_122 (fun zc122 => ?_) (fun zc122 => ?_)
                    · refine xj_iload (i := 7) 2 rfl dX11_dims_130 ?_
                      refine xj_istore (i := 7) (lv1 := [(7, .int (fiF (soF A Λ kq ks (kw / 10)) i)), (6, .int zv8), (9, .int (nI i)), (8, .ref (28 + 3 * ks)), (5, .int (nI (kw / 10))), (0, .ref 0), (1, .int (nI kq)), (2, .int (nI ks)), (3, .int (nI kw))]) rfl (Nat.le_of_ble_eq_true rfl) dX11_dims_132 ?_
                      refine xj_iinc (n := 1) (i := 9) (v := nI (i + 1)) (lv1 := [(9, .int (nI (i + 1))), (7, .int (fiF (soF A Λ kq ks (kw / 10)) i)), (6, .int zv8), (8, .ref (28 + 3 * ks)), (5, .int (nI (kw / 10))), (0, .ref 0), (1, .int (nI kq)), (2, .int (nI ks)), (3, .int (nI kw))]) 2 rfl (nI_1 i) rfl (Nat.le_of_ble_eq_true rfl) dX11_dims_134 ?_
                      refine xj_goto (tgt := 82) (by decide) dX11_dims_137 ?_
                      refine xj_sub (lv' := [(9, .int (nI (i + 1))), (6, .int zv8), (7, .int (fiF (soF A Λ kq ks (kw / 10)) i)), (8, .ref (28 + 3 * ks)), (5, .int (nI (kw / 10))), (0, .ref 0), (1, .int (nI kq)), (2, .int (nI ks)), (3, .int (nI kw))]) [0, 2, 1, 3, 4, 5, 6, 7, 8] rfl ?_
                      have h9 := ih zg7 _ (hxzg5.tr hxzg7) Bzg7
                      rw [show cnF (soF A Λ kq ks (kw / 10)) (i + 1) = zv8 from (if_pos hob).trans ezv8.symm, show fiF (soF A Λ kq ks (kw / 10)) (i + 1) = (fiF (soF A Λ kq ks (kw / 10)) i) from (if_pos hob).trans (if_neg zc122)] at h9
                      exact h9
                    · refine xj_iload (i := 9) 1 rfl dX11_dims_125 ?_
                      refine xj_goto (tgt := 132) (by decide) dX11_dims_127 ?_
                      refine xj_istore (i := 7) (lv1 := [(7, .int (nI i)), (6, .int zv8), (9, .int (nI i)), (8, .ref (28 + 3 * ks)), (5, .int (nI (kw / 10))), (0, .ref 0), (1, .int (nI kq)), (2, .int (nI ks)), (3, .int (nI kw))]) rfl (Nat.le_of_ble_eq_true rfl) dX11_dims_132 ?_
                      refine xj_iinc (n := 1) (i := 9) (v := nI (i + 1)) (lv1 := [(9, .int (nI (i + 1))), (7, .int (nI i)), (6, .int zv8), (8, .ref (28 + 3 * ks)), (5, .int (nI (kw / 10))), (0, .ref 0), (1, .int (nI kq)), (2, .int (nI ks)), (3, .int (nI kw))]) 2 rfl (nI_1 i) rfl (Nat.le_of_ble_eq_true rfl) dX11_dims_134 ?_
                      refine xj_goto (tgt := 82) (by decide) dX11_dims_137 ?_
                      refine xj_sub (lv' := [(9, .int (nI (i + 1))), (6, .int zv8), (7, .int (nI i)), (8, .ref (28 + 3 * ks)), (5, .int (nI (kw / 10))), (0, .ref 0), (1, .int (nI kq)), (2, .int (nI ks)), (3, .int (nI kw))]) [0, 2, 1, 3, 4, 5, 6, 7, 8] rfl ?_
                      have h9 := ih zg7 _ (hxzg5.tr hxzg7) Bzg7
                      rw [show cnF (soF A Λ kq ks (kw / 10)) (i + 1) = zv8 from (if_pos hob).trans ezv8.symm, show fiF (soF A Λ kq ks (kw / 10)) (i + 1) = (nI i) from (if_pos hob).trans (if_pos zc122)] at h9
                      exact h9
            refine xj_sub (lv' := [(9, .int 0), (6, .int 0), (7, .int (-1)), (8, .ref (28 + 3 * ks)), (5, .int (nI (kw / 10))), (0, .ref 0), (1, .int (nI kq)), (2, .int (nI ks)), (3, .int (nI kw))]) [0, 3, 2, 1, 4, 6, 7, 8, 9] rfl ?_
            exact key 0 (Nat.zero_le _) zg4 _ (hxzg2.tr hxzg4) Bzg4
        · have zp38 : ¬ (0 ≤ (nI (kw % 10)) ∧ (nI (kw % 10)) ≤ 1) := bI_0.mp zc38
          refine xj_bipush (v := (-7)) (by decide) dX11_dims_41 ?_
          exact xj_ireturn rfl (nr_i _) (Nat.zero_le _) (Nat.zero_le _) dX11_dims_43 (qI_e ⟨by unfold vDims; (try simp only [nI_clamp (show kq < 2147483648 by omega), nI_clamp (show ks < 2147483648 by omega), nI_clamp (show kw < 2147483648 by omega)]); rw [if_pos zc10, if_neg zc17, if_pos zp27, if_neg zp38]; all_goals (rfl), fr.rf⟩)
  · refine xj_iload (i := 4) 0 rfl dX11_dims_13 ?_
    exact xj_ireturn rfl (nr_i _) (Nat.zero_le _) (Nat.zero_le _) dX11_dims_15 (qI_e ⟨by unfold vDims; rw [if_neg zc10]; all_goals (rfl), fr.rf⟩)
