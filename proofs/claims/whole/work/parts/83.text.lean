theorem tk_256 : ∀ k, k < 3 → ∀ t ∈ tkL, (mtq t = 3 → t - 256 = nI k → t = nI (256 + k)) ∧ (t = nI (256 + k) → mtq t = 3 ∧ t - 256 = nI k) := by decide +kernel
theorem waF_0 {b : Nat → Int32} {z p i : Nat} : waF b z 0 p i = (decide (tkP b z i = 0), i, []) := rfl
theorem fT_mX {t : Nat} {g g1 : xG} (h : fT t g g1) : fr mX g g1 := fun j hj => h.1 j (fun e => hj (by unfold mX; omega)) (fun e => hj (by unfold mX; omega)) (fun e => hj (by unfold mX; omega)) (fun e => hj (by unfold mX; omega))
/-- where the search fails nothing is read -/
theorem stM_n {t n : Int32} {i : Nat} {s : mS} {r : mR} (h : stM t n i s = .inr r) (hr : r.1 = false) : r.2.2 = [] := by
  obtain ⟨w, mn, H, o, O⟩ := s
  have F : ∀ x : mR, stM t n i (w, mn, H, o, O) = .inr x → x.2.2 = [] → r.2.2 = [] := fun x e hx => by
    have e2 := e.symm.trans h
    cases e2
    exact hx
  have L : ∀ x : mS, stM t n i (w, mn, H, o, O) = .inl x → r.2.2 = [] := fun x e => by
    have e2 := e.symm.trans h
    cases e2
  cases w with
  | true =>
    by_cases c1 : t = 1
    · exact L _ (sqM_num c1)
    by_cases c2 : 262 ≤ t
    · exact L _ (sqM_nam c1 c2)
    by_cases c3 : t = 261 ∧ mn = true
    · by_cases ho : o = 5
      · exact F _ ((sqM_not c1 c2 c3.1 c3.2).trans (if_pos ho)) rfl
      · exact L _ ((sqM_not c1 c2 c3.1 c3.2).trans (if_neg ho))
    by_cases c4 : t = 45
    · by_cases ho : o = 5
      · exact F _ ((sqM_neg c1 c2 c3 c4).trans (if_pos ho)) rfl
      · exact L _ ((sqM_neg c1 c2 c3 c4).trans (if_neg ho))
    by_cases c5 : t = 40
    · by_cases ho : o = 5
      · exact F _ ((sqM_par c1 c2 c3 c4 c5).trans (if_pos ho)) rfl
      · exact L _ ((sqM_par c1 c2 c3 c4 c5).trans (if_neg ho))
    exact F _ (sqM_no c1 c2 c3 c4 c5) rfl
  | false =>
    by_cases c1 : t = 59
    · by_cases hl : isNl (unW 1 H o O).1 = true
      · have e := (sqM_end (n := n) (i := i) (mn := mn) (H := H) (o := o) (O := O) c1)
        rw [if_pos hl] at e
        have e2 := e.symm.trans h
        cases e2
        cases hr
      · have e := (sqM_end (n := n) (i := i) (mn := mn) (H := H) (o := o) (O := O) c1)
        rw [if_neg hl] at e
        exact F _ e rfl
    by_cases c2 : t = 41
    · obtain ⟨H2, o2, O2, e2⟩ : ∃ H2 o2 O2, unW 1 H o O = (H2, o2, O2) := ⟨_, _, _, rfl⟩
      cases H2 with
      | nil => exact F _ (sqM_cl0 c1 c2 e2) rfl
      | cons s2 H2 => exact L _ (sqM_cls c1 c2 e2)
    by_cases c3 : isOp t = true
    · by_cases hB : rkS (-t) = 4 ∧ hd4 (unW 5 H o O).1 = true
      · exact F _ ((sqM_op c1 c2 c3).trans (if_pos hB)) rfl
      · exact L _ ((sqM_op c1 c2 c3).trans (if_neg hB))
    exact F _ (sqM_no2 c1 c2 c3) rfl
theorem ruN_n (b : Nat → Int32) (z : Nat) : ∀ (k : Nat) (s : mS) (i : Nat), (ruN b z k s i).1 = false → (ruN b z k s i).2.2 = []
  | 0, _, _, _ => rfl
  | k + 1, s, i, h => by
    have e : ruN b z (k + 1) s i = (match stM (tkP b z i) (nmP b z i) i s with | .inr r => r | .inl s' => ruN b z k s' (nxP b z i)) := rfl
    rw [e] at h ⊢
    cases hs : stM (tkP b z i) (nmP b z i) i s with
    | inr r =>
      rw [hs] at h
      exact stM_n hs h
    | inl s' =>
      rw [hs] at h
      exact ruN_n b z k s' (nxP b z i) h
theorem mR_ext {x y : mR} (h1 : x.1 = y.1) (h2 : x.2.1 = y.2.1) (h3 : x.2.2 = y.2.2) : x = y := by
  obtain ⟨a, b, c⟩ := x
  obtain ⟨a', b', c'⟩ := y
  cases (show a = a' from h1)
  cases (show b = b' from h2)
  cases (show c = c' from h3)
  rfl
theorem rnM_n {b : Nat → Int32} {z i : Nat} {s : mS} (h : (rnM b z s i).1 = false) : rnM b z s i = (false, (rnM b z s i).2.1, []) := mR_ext h rfl (ruN_n b z _ _ _ h)
set_option maxHeartbeats 4000000 in
set_option maxRecDepth 100000 in
theorem c_X12_text0 (l : Launch) (d : Nat) (n : Nat) (hn : 110 ≤ n) (g : xG) (A : zSt) (Λ : Nat → xL) (hT6 : aT A ≤ 6) (hz : aZ A ≤ 160) (h11 : g 86 11 = nI (aT A)) (h8 : g 86 8 = nI (aZ A)) (C : mA g A Λ)  : xC l yX12_text cX12_text 3 (some .int) (xR (d + 4) 0 0) [.ref 86] (n, fh g) (qI n fun v g1 => v = (rText A).1 ∧ mA g1 (rText A).2 (txL A Λ) ∧ fr mX g g1) := by
  refine xC_of false (by decide +kernel) (fun z => by cases z) (Nat.le_of_ble_eq_true rfl) ?_
  obtain ⟨b, hb⟩ : ∃ b, g 91 = b := ⟨_, rfl⟩
  have hcg : ∀ j, j < aZ A → b j = A 30 j := fun j hj => by rw [← hb]; exact C.2.2.2.1 j hj
  have hwa : waF b (aZ A) 3 0 0 = waA A := waF_cg hcg 3 0 0
  show xJ l (RX12, 3, (some .int), false, (xR (d + 4) 0 0), none) cX12_text _ 0 0 0 [(0, .ref 86)] [] (n, fh g)
  refine xj_aload_n (n := 0) (i := 0) 0 rfl rfl dX12_text_0 ?_
  refine yj_getf (v := .int (nI (aT A))) fl_X12_100_12 (by omega) (fq_86 g) (congrArg (fun z => some (Value.int z)) h11) dX12_text_1 ?_
  refine xj_bipush (v := 6) (by decide) dX12_text_4 ?_
  refine xj_icmp_ne (tgt := 12) (by decide) dX12_text_6 (fun zc6 => ?_) (fun zc6 => ?_)
  · have h6 : ¬ aT A = 6 := fun y => zc6 (by rw [y]; rfl)
    have hT5 : aT A ≤ 5 := by omega
    refine xj_aload_n (n := 0) (i := 0) 0 rfl rfl dX12_text_12 ?_
    refine xj_iconst (v := 0) (by decide) dX12_text_13 ?_
    refine yj_puti fl_X12_110_12 (by omega) fS_86_21 (fi_i _) dX12_text_14 ?_
    obtain ⟨zg1, ezg1⟩ : ∃ x9, x9 = gs g 86 21 0 := ⟨_, rfl⟩
    rw [← ezg1]
    have t11zg1 : zg1 86 11 = nI (aT A) := by rw [ezg1, gs_s, upd_n _ _ (by decide)]; exact h11
    have t8zg1 : zg1 86 8 = nI (aZ A) := by rw [ezg1, gs_s, upd_n _ _ (by decide)]; exact h8
    have t21zg1 : zg1 86 21 = 0 := by rw [ezg1, gs_s, upd_s]
    have fzg1 : fT (aT A) g zg1 := by rw [ezg1]; exact fT.rf.g86 (by decide) _
    refine xj_aload_n (n := 0) (i := 0) 0 rfl rfl dX12_text_17 ?_
    refine xj_iconst (v := 0) (by decide) dX12_text_18 ?_
    refine yj_puti fl_X12_126_12 (by omega) fS_86_29 (fi_i _) dX12_text_19 ?_
    obtain ⟨zg2, ezg2⟩ : ∃ x9, x9 = gs zg1 86 29 0 := ⟨_, rfl⟩
    rw [← ezg2]
    have t11zg2 : zg2 86 11 = nI (aT A) := by rw [ezg2, gs_s, upd_n _ _ (by decide)]; exact t11zg1
    have t8zg2 : zg2 86 8 = nI (aZ A) := by rw [ezg2, gs_s, upd_n _ _ (by decide)]; exact t8zg1
    have t21zg2 : zg2 86 21 = 0 := by rw [ezg2, gs_s, upd_n _ _ (by decide)]; exact t21zg1
    have t29zg2 : zg2 86 29 = 0 := by rw [ezg2, gs_s, upd_s]
    have fzg2 : fT (aT A) g zg2 := by rw [ezg2]; exact fzg1.g86 (by decide) _
    have rw0 : lRow (([] : List Int32).map tqO) ([] : List Int32).length (fun k => zg2 92 (200 * aT A + k)) := lRow_0 _
    refine xj_iconst (v := 1) (by decide) dX12_text_22 ?_
    refine xj_istore_n (n := 1) (i := 1) (lv1 := [(1, .int 1), (0, .ref 86)]) rfl rfl (Nat.le_of_ble_eq_true rfl) dX12_text_23 ?_
    refine xj_iconst (v := 0) (by decide) dX12_text_24 ?_
    refine xj_top (show 0 = nI 0 from rfl) ?_
    refine xj_istore_n (n := 2) (i := 2) (lv1 := [(2, .int (nI 0)), (1, .int 1), (0, .ref 86)]) rfl rfl (Nat.le_of_ble_eq_true rfl) dX12_text_25 ?_
    refine xj_iload_n (n := 2) (i := 2) 0 rfl rfl dX12_text_26 ?_
    refine xj_iconst (v := 3) (by decide) dX12_text_27 ?_
    refine xj_icmp_ge (tgt := 101) (by decide) dX12_text_28 (fun zc28 => ?_) (fun zc28 => ?_)
    · exact absurd zc28 (by decide)
    · refine xj_iload_n (n := 1) (i := 1) 1 rfl rfl dX12_text_31 ?_
      refine xj_if_eq (tgt := 101) (by decide) dX12_text_32 (fun zc32 => ?_) (fun zc32 => ?_)
      · exact absurd zc32 (by decide)
      · refine xj_aload_n (n := 0) (i := 0) 2 rfl rfl dX12_text_35 ?_
        refine xj_callV kv_X12_149 (c_X12_next l (d + 1) n hn zg2 b (aZ A) hz ((fzg2.1 91 (by decide) (by decide) (by decide) (by decide)).trans hb) t8zg2 (fun k hk => by rw [fzg2.1 101 (by decide) (by decide) (by decide) (by decide)]; exact C.2.2.2.2.2.2 k hk) 0 (Nat.zero_le _) t21zg2) (As := []) (st := []) (by omega) (fq_86 zg2) (ci := 12) rfl rfl rfl rfl (xRm_of (by omega) (by decide) (by omega) (by omega)) (Nat.le_of_ble_eq_true rfl) dX12_text_36 (yk_v (kc := 0) (ks := 0) fun zg3 hzg3 => ?_)
        obtain ⟨hnf0, ha0, hq0, hc0, hd0, he0, hf0⟩ := hzg3
        have ffzg3 : fT (aT A) g zg3 := fzg2.tr (hnf0.fe (aT A)).fT
        have t11zg3 : zg3 86 11 = nI (aT A) := (hnf0.2 11 (by omega)).trans t11zg2
        have t8zg3 : zg3 86 8 = nI (aZ A) := (hnf0.2 8 (by omega)).trans t8zg2
        have t29zg3 : zg3 86 29 = nI ([] : List Int32).length := (hnf0.2 29 (by omega)).trans t29zg2
        have rwzg3 : lRow (([] : List Int32).map tqO) ([] : List Int32).length (fun k => zg3 92 (200 * aT A + k)) := by rw [hnf0.1 92 (by decide)]; exact rw0
        have hin0 := tk_in b (aZ A) 0
        have hnx0 := nxP_b b (z := aZ A) (i := 0) (Nat.zero_le _)
        refine xj_aload_n (n := 0) (i := 0) 2 rfl rfl dX12_text_39 ?_
        refine yj_getf (v := .int (mtq (tkP b (aZ A) 0))) fl_X12_116_12 (by omega) (fq_86 zg3) (congrArg (fun z => some (Value.int z)) hc0) dX12_text_40 ?_
        refine xj_iconst (v := 3) (by decide) dX12_text_43 ?_
        refine xj_icmp_ne (tgt := 59) (by decide) dX12_text_44 (fun zc44 => ?_) (fun zc44 => ?_)
        · have hno : ¬ tkP b (aZ A) 0 = nI (256 + 0) := fun y => zc44 ((tk_256 0 (by decide) _ hin0).2 y).1
          have hW : waF b (aZ A) 3 0 0 = (false, 0, []) := waF_f (if_neg hno)
          have hwA : waA A = (false, 0, _) := hwa.symm.trans hW
          have hr : rText A = (-100 - nI (stP (A 30) (aZ A) 0), gs A 0 5 0) := by show (if aT A = 6 then _ else if (waA A).1 = true then _ else (-100 - nI (stP (A 30) (aZ A) (waA A).2.1), gs A 0 5 0)) = _; rw [if_neg h6, hwA, if_neg Bool.false_ne_true]
          have hl : txL A Λ = Λ := by show (if aT A = 6 then Λ else if (waA A).1 = true then _ else Λ) = _; rw [if_neg h6, hwA, if_neg Bool.false_ne_true]
          refine xj_iconst (v := 0) (by decide) dX12_text_59 ?_
          refine xj_istore_n (n := 1) (i := 1) (lv1 := [(1, .int 0), (2, .int (nI 0)), (0, .ref 86)]) rfl rfl (Nat.le_of_ble_eq_true rfl) dX12_text_60 ?_
          refine xj_aload_n (n := 0) (i := 0) 2 rfl rfl dX12_text_61 ?_
          refine yj_getf (v := .ref 93) fl_X12_32_12 (by omega) (fq_86 zg3) rfl dX12_text_62 ?_
          refine xj_iconst (v := 4) (by decide) dX12_text_65 ?_
          refine xj_aload_n (n := 0) (i := 0) 2 rfl rfl dX12_text_66 ?_
          refine yj_getf (v := .int (nI (aT A))) fl_X12_100_12 (by omega) (fq_86 zg3) (congrArg (fun z => some (Value.int z)) t11zg3) dX12_text_67 ?_
          refine xj_imul dX12_text_70 ?_
          refine xj_top (pk_mul 4 (aT A)) ?_
          refine xj_iload_n (n := 2) (i := 2) 1 rfl rfl dX12_text_71 ?_
          refine xj_iadd dX12_text_72 ?_
          refine xj_top (nI_add _ _) ?_
          refine xj_aload_n (n := 0) (i := 0) 2 rfl rfl dX12_text_73 ?_
          refine yj_getf (v := .int (nI ([] : List Int32).length)) fl_X12_126_12 (by omega) (fq_86 zg3) (congrArg (fun z => some (Value.int z)) t29zg3) dX12_text_74 ?_
          refine yj_iastN ((4 * (aT A)) + 0) (by omega) fA_93 rfl (by omega) (by decide) dX12_text_77 ?_
          obtain ⟨zg4, ezg4⟩ : ∃ x9, x9 = gs zg3 93 ((4 * (aT A)) + 0) (nI ([] : List Int32).length) := ⟨_, rfl⟩
          rw [← ezg4]
          have t23zg4 : zg4 86 23 = mtq (tkP b (aZ A) 0) := by rw [ezg4, gs_n _ _ _ (by decide)]; exact hc0
          have t11zg4 : zg4 86 11 = nI (aT A) := by rw [ezg4, gs_n _ _ _ (by decide)]; exact t11zg3
          have t8zg4 : zg4 86 8 = nI (aZ A) := by rw [ezg4, gs_n _ _ _ (by decide)]; exact t8zg3
          have t29zg4 : zg4 86 29 = nI ([] : List Int32).length := by rw [ezg4, gs_n _ _ _ (by decide)]; exact t29zg3
          have t21zg4 : zg4 86 21 = nI (nxP b (aZ A) 0) := by rw [ezg4, gs_n _ _ _ (by decide)]; exact hq0
          have t22zg4 : zg4 86 22 = nI (stP b (aZ A) 0) := by rw [ezg4, gs_n _ _ _ (by decide)]; exact ha0
          have fzg4 : fT (aT A) g zg4 := by rw [ezg4]; exact ffzg3.g93 (by omega) _
          have s0zg4 : zg4 93 (4 * aT A + 0) = (nI ([] : List Int32).length) := by rw [ezg4, gs_s, upd_s]
          have rwzg4 : lRow (([] : List Int32).map tqO) ([] : List Int32).length (fun k => zg4 92 (200 * aT A + k)) := by rw [ezg4, gs_n _ _ _ (by decide)]; exact rwzg3
          refine xj_iload_n (n := 1) (i := 1) 0 rfl rfl dX12_text_78 ?_
          refine xj_if_eq (tgt := 93) (by decide) dX12_text_79 (fun zc79 => ?_) (fun zc79 => ?_)
          · refine xj_iconst (v := 0) (by decide) dX12_text_93 ?_
            refine xj_istore_n (n := 1) (i := 1) (lv1 := [(1, .int 0), (2, .int (nI 0)), (0, .ref 86)]) rfl rfl (Nat.le_of_ble_eq_true rfl) dX12_text_94 ?_
            refine xj_iinc (n := 1) (i := 2) (v := nI 1) (lv1 := [(2, .int (nI 1)), (1, .int 0), (0, .ref 86)]) 1 rfl (nI_1 0) rfl (Nat.le_of_ble_eq_true rfl) dX12_text_95 ?_
            refine xj_goto (tgt := 26) (by decide) dX12_text_98 ?_
            refine xj_iload_n (n := 2) (i := 2) 0 rfl rfl dX12_text_26 ?_
            refine xj_iconst (v := 3) (by decide) dX12_text_27 ?_
            refine xj_icmp_ge (tgt := 101) (by decide) dX12_text_28 (fun zc28 => ?_) (fun zc28 => ?_)
            · exact absurd zc28 (by decide)
            · refine xj_iload_n (n := 1) (i := 1) 1 rfl rfl dX12_text_31 ?_
              refine xj_if_eq (tgt := 101) (by decide) dX12_text_32 (fun zc32 => ?_) (fun zc32 => ?_)
              · refine xj_iload_n (n := 1) (i := 1) 1 rfl rfl dX12_text_101 ?_
                refine xj_if_eq (tgt := 122) (by decide) dX12_text_102 (fun zc102 => ?_) (fun zc102 => ?_)
                · refine xj_aload_n (n := 0) (i := 0) 2 rfl rfl dX12_text_122 ?_
                  refine yj_getf (v := .ref 93) fl_X12_32_12 (by omega) (fq_86 zg4) rfl dX12_text_123 ?_
                  refine xj_iconst (v := 4) (by decide) dX12_text_126 ?_
                  refine xj_aload_n (n := 0) (i := 0) 2 rfl rfl dX12_text_127 ?_
                  refine yj_getf (v := .int (nI (aT A))) fl_X12_100_12 (by omega) (fq_86 zg4) (congrArg (fun z => some (Value.int z)) t11zg4) dX12_text_128 ?_
                  refine xj_imul dX12_text_131 ?_
                  refine xj_top (pk_mul 4 (aT A)) ?_
                  refine xj_iconst (v := 3) (by decide) dX12_text_132 ?_
                  refine xj_iadd dX12_text_133 ?_
                  refine xj_top (nI_add (4 * (aT A)) 3) ?_
                  refine xj_aload_n (n := 0) (i := 0) 2 rfl rfl dX12_text_134 ?_
                  refine yj_getf (v := .int (nI ([] : List Int32).length)) fl_X12_126_12 (by omega) (fq_86 zg4) (congrArg (fun z => some (Value.int z)) t29zg4) dX12_text_135 ?_
                  refine yj_iastN ((4 * (aT A)) + 3) (by omega) fA_93 rfl (by omega) (by decide) dX12_text_138 ?_
                  obtain ⟨zg5, ezg5⟩ : ∃ x9, x9 = gs zg4 93 ((4 * (aT A)) + 3) (nI ([] : List Int32).length) := ⟨_, rfl⟩
                  rw [← ezg5]
                  have t23zg5 : zg5 86 23 = mtq (tkP b (aZ A) 0) := by rw [ezg5, gs_n _ _ _ (by decide)]; exact t23zg4
                  have t11zg5 : zg5 86 11 = nI (aT A) := by rw [ezg5, gs_n _ _ _ (by decide)]; exact t11zg4
                  have t8zg5 : zg5 86 8 = nI (aZ A) := by rw [ezg5, gs_n _ _ _ (by decide)]; exact t8zg4
                  have t29zg5 : zg5 86 29 = nI ([] : List Int32).length := by rw [ezg5, gs_n _ _ _ (by decide)]; exact t29zg4
                  have t21zg5 : zg5 86 21 = nI (nxP b (aZ A) 0) := by rw [ezg5, gs_n _ _ _ (by decide)]; exact t21zg4
                  have t22zg5 : zg5 86 22 = nI (stP b (aZ A) 0) := by rw [ezg5, gs_n _ _ _ (by decide)]; exact t22zg4
                  have fzg5 : fT (aT A) g zg5 := by rw [ezg5]; exact fzg4.g93 (by omega) _
                  have s0zg5 : zg5 93 (4 * aT A + 0) = (nI ([] : List Int32).length) := by rw [ezg5, gs_s, upd_n _ _ (by omega)]; exact s0zg4
                  have s3zg5 : zg5 93 (4 * aT A + 3) = (nI ([] : List Int32).length) := by rw [ezg5, gs_s, upd_s]
                  have rwzg5 : lRow (([] : List Int32).map tqO) ([] : List Int32).length (fun k => zg5 92 (200 * aT A + k)) := by rw [ezg5, gs_n _ _ _ (by decide)]; exact rwzg4
                  refine xj_aload_n (n := 0) (i := 0) 2 rfl rfl dX12_text_139 ?_
                  refine xj_iconst (v := 0) (by decide) dX12_text_140 ?_
                  refine yj_puti fl_X12_83_12 (by omega) fS_86_8 (fi_i _) dX12_text_141 ?_
                  obtain ⟨zg6, ezg6⟩ : ∃ x9, x9 = gs zg5 86 8 0 := ⟨_, rfl⟩
                  rw [← ezg6]
                  have t23zg6 : zg6 86 23 = mtq (tkP b (aZ A) 0) := by rw [ezg6, gs_s, upd_n _ _ (by decide)]; exact t23zg5
                  have t11zg6 : zg6 86 11 = nI (aT A) := by rw [ezg6, gs_s, upd_n _ _ (by decide)]; exact t11zg5
                  have t29zg6 : zg6 86 29 = nI ([] : List Int32).length := by rw [ezg6, gs_s, upd_n _ _ (by decide)]; exact t29zg5
                  have t21zg6 : zg6 86 21 = nI (nxP b (aZ A) 0) := by rw [ezg6, gs_s, upd_n _ _ (by decide)]; exact t21zg5
                  have t22zg6 : zg6 86 22 = nI (stP b (aZ A) 0) := by rw [ezg6, gs_s, upd_n _ _ (by decide)]; exact t22zg5
                  have t8zg6 : zg6 86 8 = 0 := by rw [ezg6, gs_s, upd_s]
                  have s0zg6 : zg6 93 (4 * aT A + 0) = (nI ([] : List Int32).length) := by rw [ezg6, gs_n _ _ _ (by decide)]; exact s0zg5
                  have s3zg6 : zg6 93 (4 * aT A + 3) = (nI ([] : List Int32).length) := by rw [ezg6, gs_n _ _ _ (by decide)]; exact s3zg5
                  have rwzg6 : lRow (([] : List Int32).map tqO) ([] : List Int32).length (fun k => zg6 92 (200 * aT A + k)) := by rw [ezg6, gs_n _ _ _ (by decide)]; exact rwzg5
                  refine xj_iload_n (n := 1) (i := 1) 1 rfl rfl dX12_text_144 ?_
                  refine xj_if_ne (tgt := 156) (by decide) dX12_text_145 (fun zc145 => ?_) (fun zc145 => ?_)
                  · exact absurd zc145 (fun z => z rfl)
                  · refine xj_bipush (v := (-100)) (by decide) dX12_text_148 ?_
                    refine xj_aload_n (n := 0) (i := 0) 2 rfl rfl dX12_text_150 ?_
                    refine yj_getf (v := .int (nI (stP b (aZ A) 0))) fl_X12_113_12 (by omega) (fq_86 zg6) (congrArg (fun z => some (Value.int z)) t22zg6) dX12_text_151 ?_
                    refine xj_isub dX12_text_154 ?_
                    exact xj_ireturn rfl (nr_i _) (Nat.zero_le _) (Nat.zero_le _) dX12_text_155 (qI_e ⟨by rw [hr]; show _ = -100 - nI (stP (A 30) (aZ A) 0); rw [← (tk_cg hcg 0).1], by rw [hr, hl, ezg6]; exact C.txF fzg5, by rw [ezg6]; exact (fT_mX fzg5).gs (by unfold mX; omega) 8 0⟩)
                · exact absurd (by decide) zc102
              · exact absurd (by decide) zc32
          · exact absurd (by decide) zc79
        · refine xj_aload_n (n := 0) (i := 0) 2 rfl rfl dX12_text_47 ?_
          refine yj_getf (v := .int (tkP b (aZ A) 0 - 256)) fl_X12_119_12 (by omega) (fq_86 zg3) (congrArg (fun z => some (Value.int z)) (hf0 zc44)) dX12_text_48 ?_
          refine xj_iload_n (n := 2) (i := 2) 0 rfl rfl dX12_text_51 ?_
          refine xj_icmp_ne (tgt := 59) (by decide) dX12_text_52 (fun zc52 => ?_) (fun zc52 => ?_)
          · have hno : ¬ tkP b (aZ A) 0 = nI (256 + 0) := fun y => zc52 ((tk_256 0 (by decide) _ hin0).2 y).2
            have hW : waF b (aZ A) 3 0 0 = (false, 0, []) := waF_f (if_neg hno)
            have hwA : waA A = (false, 0, _) := hwa.symm.trans hW
            have hr : rText A = (-100 - nI (stP (A 30) (aZ A) 0), gs A 0 5 0) := by show (if aT A = 6 then _ else if (waA A).1 = true then _ else (-100 - nI (stP (A 30) (aZ A) (waA A).2.1), gs A 0 5 0)) = _; rw [if_neg h6, hwA, if_neg Bool.false_ne_true]
            have hl : txL A Λ = Λ := by show (if aT A = 6 then Λ else if (waA A).1 = true then _ else Λ) = _; rw [if_neg h6, hwA, if_neg Bool.false_ne_true]
            refine xj_iconst (v := 0) (by decide) dX12_text_59 ?_
            refine xj_istore_n (n := 1) (i := 1) (lv1 := [(1, .int 0), (2, .int (nI 0)), (0, .ref 86)]) rfl rfl (Nat.le_of_ble_eq_true rfl) dX12_text_60 ?_
            refine xj_aload_n (n := 0) (i := 0) 2 rfl rfl dX12_text_61 ?_
            refine yj_getf (v := .ref 93) fl_X12_32_12 (by omega) (fq_86 zg3) rfl dX12_text_62 ?_
            refine xj_iconst (v := 4) (by decide) dX12_text_65 ?_
            refine xj_aload_n (n := 0) (i := 0) 2 rfl rfl dX12_text_66 ?_
            refine yj_getf (v := .int (nI (aT A))) fl_X12_100_12 (by omega) (fq_86 zg3) (congrArg (fun z => some (Value.int z)) t11zg3) dX12_text_67 ?_
            refine xj_imul dX12_text_70 ?_
            refine xj_top (pk_mul 4 (aT A)) ?_
            refine xj_iload_n (n := 2) (i := 2) 1 rfl rfl dX12_text_71 ?_
            refine xj_iadd dX12_text_72 ?_
            refine xj_top (nI_add _ _) ?_
            refine xj_aload_n (n := 0) (i := 0) 2 rfl rfl dX12_text_73 ?_
            refine yj_getf (v := .int (nI ([] : List Int32).length)) fl_X12_126_12 (by omega) (fq_86 zg3) (congrArg (fun z => some (Value.int z)) t29zg3) dX12_text_74 ?_
            refine yj_iastN ((4 * (aT A)) + 0) (by omega) fA_93 rfl (by omega) (by decide) dX12_text_77 ?_
            obtain ⟨zg7, ezg7⟩ : ∃ x9, x9 = gs zg3 93 ((4 * (aT A)) + 0) (nI ([] : List Int32).length) := ⟨_, rfl⟩
            rw [← ezg7]
            have t23zg7 : zg7 86 23 = mtq (tkP b (aZ A) 0) := by rw [ezg7, gs_n _ _ _ (by decide)]; exact hc0
            have t11zg7 : zg7 86 11 = nI (aT A) := by rw [ezg7, gs_n _ _ _ (by decide)]; exact t11zg3
            have t8zg7 : zg7 86 8 = nI (aZ A) := by rw [ezg7, gs_n _ _ _ (by decide)]; exact t8zg3
            have t29zg7 : zg7 86 29 = nI ([] : List Int32).length := by rw [ezg7, gs_n _ _ _ (by decide)]; exact t29zg3
            have t21zg7 : zg7 86 21 = nI (nxP b (aZ A) 0) := by rw [ezg7, gs_n _ _ _ (by decide)]; exact hq0
            have t22zg7 : zg7 86 22 = nI (stP b (aZ A) 0) := by rw [ezg7, gs_n _ _ _ (by decide)]; exact ha0
            have t24zg7 : zg7 86 24 = tkP b (aZ A) 0 - 256 := by rw [ezg7, gs_n _ _ _ (by decide)]; exact (hf0 zc44)
            have fzg7 : fT (aT A) g zg7 := by rw [ezg7]; exact ffzg3.g93 (by omega) _
            have s0zg7 : zg7 93 (4 * aT A + 0) = (nI ([] : List Int32).length) := by rw [ezg7, gs_s, upd_s]
            have rwzg7 : lRow (([] : List Int32).map tqO) ([] : List Int32).length (fun k => zg7 92 (200 * aT A + k)) := by rw [ezg7, gs_n _ _ _ (by decide)]; exact rwzg3
            refine xj_iload_n (n := 1) (i := 1) 0 rfl rfl dX12_text_78 ?_
            refine xj_if_eq (tgt := 93) (by decide) dX12_text_79 (fun zc79 => ?_) (fun zc79 => ?_)
            · refine xj_iconst (v := 0) (by decide) dX12_text_93 ?_
              refine xj_istore_n (n := 1) (i := 1) (lv1 := [(1, .int 0), (2, .int (nI 0)), (0, .ref 86)]) rfl rfl (Nat.le_of_ble_eq_true rfl) dX12_text_94 ?_
              refine xj_iinc (n := 1) (i := 2) (v := nI 1) (lv1 := [(2, .int (nI 1)), (1, .int 0), (0, .ref 86)]) 1 rfl (nI_1 0) rfl (Nat.le_of_ble_eq_true rfl) dX12_text_95 ?_
              refine xj_goto (tgt := 26) (by decide) dX12_text_98 ?_
              refine xj_iload_n (n := 2) (i := 2) 0 rfl rfl dX12_text_26 ?_
              refine xj_iconst (v := 3) (by decide) dX12_text_27 ?_
              refine xj_icmp_ge (tgt := 101) (by decide) dX12_text_28 (fun zc28 => ?_) (fun zc28 => ?_)
              · exact absurd zc28 (by decide)
              · refine xj_iload_n (n := 1) (i := 1) 1 rfl rfl dX12_text_31 ?_
                refine xj_if_eq (tgt := 101) (by decide) dX12_text_32 (fun zc32 => ?_) (fun zc32 => ?_)
                · refine xj_iload_n (n := 1) (i := 1) 1 rfl rfl dX12_text_101 ?_
                  refine xj_if_eq (tgt := 122) (by decide) dX12_text_102 (fun zc102 => ?_) (fun zc102 => ?_)
                  · refine xj_aload_n (n := 0) (i := 0) 2 rfl rfl dX12_text_122 ?_
                    refine yj_getf (v := .ref 93) fl_X12_32_12 (by omega) (fq_86 zg7) rfl dX12_text_123 ?_
                    refine xj_iconst (v := 4) (by decide) dX12_text_126 ?_
                    refine xj_aload_n (n := 0) (i := 0) 2 rfl rfl dX12_text_127 ?_
                    refine yj_getf (v := .int (nI (aT A))) fl_X12_100_12 (by omega) (fq_86 zg7) (congrArg (fun z => some (Value.int z)) t11zg7) dX12_text_128 ?_
                    refine xj_imul dX12_text_131 ?_
                    refine xj_top (pk_mul 4 (aT A)) ?_
                    refine xj_iconst (v := 3) (by decide) dX12_text_132 ?_
                    refine xj_iadd dX12_text_133 ?_
                    refine xj_top (nI_add (4 * (aT A)) 3) ?_
                    refine xj_aload_n (n := 0) (i := 0) 2 rfl rfl dX12_text_134 ?_
                    refine yj_getf (v := .int (nI ([] : List Int32).length)) fl_X12_126_12 (by omega) (fq_86 zg7) (congrArg (fun z => some (Value.int z)) t29zg7) dX12_text_135 ?_
                    refine yj_iastN ((4 * (aT A)) + 3) (by omega) fA_93 rfl (by omega) (by decide) dX12_text_138 ?_
                    obtain ⟨zg8, ezg8⟩ : ∃ x9, x9 = gs zg7 93 ((4 * (aT A)) + 3) (nI ([] : List Int32).length) := ⟨_, rfl⟩
                    rw [← ezg8]
                    have t23zg8 : zg8 86 23 = mtq (tkP b (aZ A) 0) := by rw [ezg8, gs_n _ _ _ (by decide)]; exact t23zg7
                    have t11zg8 : zg8 86 11 = nI (aT A) := by rw [ezg8, gs_n _ _ _ (by decide)]; exact t11zg7
                    have t8zg8 : zg8 86 8 = nI (aZ A) := by rw [ezg8, gs_n _ _ _ (by decide)]; exact t8zg7
                    have t29zg8 : zg8 86 29 = nI ([] : List Int32).length := by rw [ezg8, gs_n _ _ _ (by decide)]; exact t29zg7
                    have t21zg8 : zg8 86 21 = nI (nxP b (aZ A) 0) := by rw [ezg8, gs_n _ _ _ (by decide)]; exact t21zg7
                    have t22zg8 : zg8 86 22 = nI (stP b (aZ A) 0) := by rw [ezg8, gs_n _ _ _ (by decide)]; exact t22zg7
                    have t24zg8 : zg8 86 24 = tkP b (aZ A) 0 - 256 := by rw [ezg8, gs_n _ _ _ (by decide)]; exact t24zg7
                    have fzg8 : fT (aT A) g zg8 := by rw [ezg8]; exact fzg7.g93 (by omega) _
                    have s0zg8 : zg8 93 (4 * aT A + 0) = (nI ([] : List Int32).length) := by rw [ezg8, gs_s, upd_n _ _ (by omega)]; exact s0zg7
                    have s3zg8 : zg8 93 (4 * aT A + 3) = (nI ([] : List Int32).length) := by rw [ezg8, gs_s, upd_s]
                    have rwzg8 : lRow (([] : List Int32).map tqO) ([] : List Int32).length (fun k => zg8 92 (200 * aT A + k)) := by rw [ezg8, gs_n _ _ _ (by decide)]; exact rwzg7
                    refine xj_aload_n (n := 0) (i := 0) 2 rfl rfl dX12_text_139 ?_
                    refine xj_iconst (v := 0) (by decide) dX12_text_140 ?_
                    refine yj_puti fl_X12_83_12 (by omega) fS_86_8 (fi_i _) dX12_text_141 ?_
                    obtain ⟨zg9, ezg9⟩ : ∃ x9, x9 = gs zg8 86 8 0 := ⟨_, rfl⟩
                    rw [← ezg9]
                    have t23zg9 : zg9 86 23 = mtq (tkP b (aZ A) 0) := by rw [ezg9, gs_s, upd_n _ _ (by decide)]; exact t23zg8
                    have t11zg9 : zg9 86 11 = nI (aT A) := by rw [ezg9, gs_s, upd_n _ _ (by decide)]; exact t11zg8
                    have t29zg9 : zg9 86 29 = nI ([] : List Int32).length := by rw [ezg9, gs_s, upd_n _ _ (by decide)]; exact t29zg8
                    have t21zg9 : zg9 86 21 = nI (nxP b (aZ A) 0) := by rw [ezg9, gs_s, upd_n _ _ (by decide)]; exact t21zg8
                    have t22zg9 : zg9 86 22 = nI (stP b (aZ A) 0) := by rw [ezg9, gs_s, upd_n _ _ (by decide)]; exact t22zg8
                    have t24zg9 : zg9 86 24 = tkP b (aZ A) 0 - 256 := by rw [ezg9, gs_s, upd_n _ _ (by decide)]; exact t24zg8
                    have t8zg9 : zg9 86 8 = 0 := by rw [ezg9, gs_s, upd_s]
                    have s0zg9 : zg9 93 (4 * aT A + 0) = (nI ([] : List Int32).length) := by rw [ezg9, gs_n _ _ _ (by decide)]; exact s0zg8
                    have s3zg9 : zg9 93 (4 * aT A + 3) = (nI ([] : List Int32).length) := by rw [ezg9, gs_n _ _ _ (by decide)]; exact s3zg8
                    have rwzg9 : lRow (([] : List Int32).map tqO) ([] : List Int32).length (fun k => zg9 92 (200 * aT A + k)) := by rw [ezg9, gs_n _ _ _ (by decide)]; exact rwzg8
                    refine xj_iload_n (n := 1) (i := 1) 1 rfl rfl dX12_text_144 ?_
                    refine xj_if_ne (tgt := 156) (by decide) dX12_text_145 (fun zc145 => ?_) (fun zc145 => ?_)
                    · exact absurd zc145 (fun z => z rfl)
                    · refine xj_bipush (v := (-100)) (by decide) dX12_text_148 ?_
                      refine xj_aload_n (n := 0) (i := 0) 2 rfl rfl dX12_text_150 ?_
                      refine yj_getf (v := .int (nI (stP b (aZ A) 0))) fl_X12_113_12 (by omega) (fq_86 zg9) (congrArg (fun z => some (Value.int z)) t22zg9) dX12_text_151 ?_
                      refine xj_isub dX12_text_154 ?_
                      exact xj_ireturn rfl (nr_i _) (Nat.zero_le _) (Nat.zero_le _) dX12_text_155 (qI_e ⟨by rw [hr]; show _ = -100 - nI (stP (A 30) (aZ A) 0); rw [← (tk_cg hcg 0).1], by rw [hr, hl, ezg9]; exact C.txF fzg8, by rw [ezg9]; exact (fT_mX fzg8).gs (by unfold mX; omega) 8 0⟩)
                  · exact absurd (by decide) zc102
                · exact absurd (by decide) zc32
            · exact absurd (by decide) zc79
          · have htk0 : tkP b (aZ A) 0 = nI (256 + 0) := (tk_256 0 (by decide) _ hin0).1 zc44 zc52
            have hlt0 : 0 < nxP b (aZ A) 0 := hnx0.2.2 (by rw [htk0]; decide)
            refine xj_iconst (v := 1) (by decide) dX12_text_55 ?_
            refine xj_goto (tgt := 60) (by decide) dX12_text_56 ?_
            refine xj_istore_n (n := 1) (i := 1) (lv1 := [(1, .int 1), (2, .int (nI 0)), (0, .ref 86)]) rfl rfl (Nat.le_of_ble_eq_true rfl) dX12_text_60 ?_
            refine xj_aload_n (n := 0) (i := 0) 2 rfl rfl dX12_text_61 ?_
            refine yj_getf (v := .ref 93) fl_X12_32_12 (by omega) (fq_86 zg3) rfl dX12_text_62 ?_
            refine xj_iconst (v := 4) (by decide) dX12_text_65 ?_
            refine xj_aload_n (n := 0) (i := 0) 2 rfl rfl dX12_text_66 ?_
            refine yj_getf (v := .int (nI (aT A))) fl_X12_100_12 (by omega) (fq_86 zg3) (congrArg (fun z => some (Value.int z)) t11zg3) dX12_text_67 ?_
            refine xj_imul dX12_text_70 ?_
            refine xj_top (pk_mul 4 (aT A)) ?_
            refine xj_iload_n (n := 2) (i := 2) 1 rfl rfl dX12_text_71 ?_
            refine xj_iadd dX12_text_72 ?_
            refine xj_top (nI_add _ _) ?_
            refine xj_aload_n (n := 0) (i := 0) 2 rfl rfl dX12_text_73 ?_
            refine yj_getf (v := .int (nI ([] : List Int32).length)) fl_X12_126_12 (by omega) (fq_86 zg3) (congrArg (fun z => some (Value.int z)) t29zg3) dX12_text_74 ?_
            refine yj_iastN ((4 * (aT A)) + 0) (by omega) fA_93 rfl (by omega) (by decide) dX12_text_77 ?_
            obtain ⟨zg10, ezg10⟩ : ∃ x9, x9 = gs zg3 93 ((4 * (aT A)) + 0) (nI ([] : List Int32).length) := ⟨_, rfl⟩
            rw [← ezg10]
            have t23zg10 : zg10 86 23 = mtq (tkP b (aZ A) 0) := by rw [ezg10, gs_n _ _ _ (by decide)]; exact hc0
            have t11zg10 : zg10 86 11 = nI (aT A) := by rw [ezg10, gs_n _ _ _ (by decide)]; exact t11zg3
            have t8zg10 : zg10 86 8 = nI (aZ A) := by rw [ezg10, gs_n _ _ _ (by decide)]; exact t8zg3
            have t29zg10 : zg10 86 29 = nI ([] : List Int32).length := by rw [ezg10, gs_n _ _ _ (by decide)]; exact t29zg3
            have t21zg10 : zg10 86 21 = nI (nxP b (aZ A) 0) := by rw [ezg10, gs_n _ _ _ (by decide)]; exact hq0
            have t22zg10 : zg10 86 22 = nI (stP b (aZ A) 0) := by rw [ezg10, gs_n _ _ _ (by decide)]; exact ha0
            have t24zg10 : zg10 86 24 = tkP b (aZ A) 0 - 256 := by rw [ezg10, gs_n _ _ _ (by decide)]; exact (hf0 zc44)
            have fzg10 : fT (aT A) g zg10 := by rw [ezg10]; exact ffzg3.g93 (by omega) _
            have s0zg10 : zg10 93 (4 * aT A + 0) = (nI ([] : List Int32).length) := by rw [ezg10, gs_s, upd_s]
            have rwzg10 : lRow (([] : List Int32).map tqO) ([] : List Int32).length (fun k => zg10 92 (200 * aT A + k)) := by rw [ezg10, gs_n _ _ _ (by decide)]; exact rwzg3
            refine xj_iload_n (n := 1) (i := 1) 0 rfl rfl dX12_text_78 ?_
            refine xj_if_eq (tgt := 93) (by decide) dX12_text_79 (fun zc79 => ?_) (fun zc79 => ?_)
            · exact absurd zc79 (by decide)
            · refine xj_aload_n (n := 0) (i := 0) 2 rfl rfl dX12_text_82 ?_
              have hlc0 : ([] : List Int32).length ≤ nxP b (aZ A) 0 := Nat.zero_le _
              refine xj_callV kv_X12_162 (c_X12_eRead l (d + 0) n hn zg10 (aT A) hT5 [] b (aZ A) hz ((fzg10.1 91 (by decide) (by decide) (by decide) (by decide)).trans hb) t8zg10 (fun k hk => by rw [fzg10.1 101 (by decide) (by decide) (by decide) (by decide)]; exact C.2.2.2.2.2.2 k hk) (nxP b (aZ A) 0) hnx0.2.1 t21zg10 hlc0 t29zg10 t11zg10 rwzg10) (As := []) (st := []) (by omega) (fq_86 zg10) (ci := 12) rfl rfl rfl rfl (xRm_of (by omega) (by decide) (by omega) (by omega)) (Nat.le_of_ble_eq_true rfl) dX12_text_83 (yk_i (kc := 0) (ks := 0) fun zv11 zg12 hzg12 => ?_)
              obtain ⟨hEa, hva, hja, hba, hqa, hoka⟩ := hzg12
              have ffzg12 : fT (aT A) g zg12 := fzg10.tr hEa.fT
              have t11zg12 : zg12 86 11 = nI (aT A) := (hEa.2.1 11 (by unfold eX; omega)).trans t11zg10
              have t8zg12 : zg12 86 8 = nI (aZ A) := (hEa.2.1 8 (by unfold eX; omega)).trans t8zg10
              have s0zg12 : zg12 93 (4 * aT A + 0) = (nI ([] : List Int32).length) := by rw [hEa.1 93 (by decide) (by decide) (by decide)]; exact s0zg10
              by_cases hR : (rnM b (aZ A) (true, true, [], 0, []) (nxP b (aZ A) 0)).1 = true
              · obtain ⟨ja, Da, eRa⟩ : ∃ j D, (rnM b (aZ A) (true, true, [], 0, []) (nxP b (aZ A) 0)) = (true, j, D) := ⟨_, _, mR_ext hR rfl rfl⟩
                obtain ⟨hLa, h29a, hrwa⟩ := hoka hR
                rw [eRa] at hva hja hba hqa hLa h29a hrwa
                have ea : paF b (aZ A) 0 0 = (true, ja, Da) := (if_pos htk0).trans eRa
                have hVa := rnM_V eRa
                rw [List.append_nil] at hLa h29a hrwa
                have hLa : Da.length ≤ ja := hLa
                have hja : ja ≤ aZ A := hja
                have hKa := nxP_b b hja
                rw [hva, bI_t rfl]
                refine xj_if_eq (tgt := 93) (by decide) dX12_text_86 (fun zc86 => ?_) (fun zc86 => ?_)
                · exact absurd zc86 (by decide)
                · refine xj_iconst (v := 1) (by decide) dX12_text_89 ?_
                  refine xj_goto (tgt := 94) (by decide) dX12_text_90 ?_
                  refine xj_istore_n (n := 1) (i := 1) (lv1 := [(1, .int 1), (2, .int (nI 0)), (0, .ref 86)]) rfl rfl (Nat.le_of_ble_eq_true rfl) dX12_text_94 ?_
                  refine xj_iinc (n := 1) (i := 2) (v := nI 1) (lv1 := [(2, .int (nI 1)), (1, .int 1), (0, .ref 86)]) 1 rfl (nI_1 0) rfl (Nat.le_of_ble_eq_true rfl) dX12_text_95 ?_
                  refine xj_goto (tgt := 26) (by decide) dX12_text_98 ?_
                  refine xj_iload_n (n := 2) (i := 2) 0 rfl rfl dX12_text_26 ?_
                  refine xj_iconst (v := 3) (by decide) dX12_text_27 ?_
                  refine xj_icmp_ge (tgt := 101) (by decide) dX12_text_28 (fun zc28 => ?_) (fun zc28 => ?_)
                  · exact absurd zc28 (by decide)
                  · refine xj_iload_n (n := 1) (i := 1) 1 rfl rfl dX12_text_31 ?_
                    refine xj_if_eq (tgt := 101) (by decide) dX12_text_32 (fun zc32 => ?_) (fun zc32 => ?_)
                    · exact absurd zc32 (by decide)
                    · refine xj_aload_n (n := 0) (i := 0) 2 rfl rfl dX12_text_35 ?_
                      refine xj_callV kv_X12_149 (c_X12_next l (d + 1) n hn zg12 b (aZ A) hz ((ffzg12.1 91 (by decide) (by decide) (by decide) (by decide)).trans hb) t8zg12 (fun k hk => by rw [ffzg12.1 101 (by decide) (by decide) (by decide) (by decide)]; exact C.2.2.2.2.2.2 k hk) (nxP b (aZ A) ja) hKa.2.1 hqa) (As := []) (st := []) (by omega) (fq_86 zg12) (ci := 12) rfl rfl rfl rfl (xRm_of (by omega) (by decide) (by omega) (by omega)) (Nat.le_of_ble_eq_true rfl) dX12_text_36 (yk_v (kc := 0) (ks := 0) fun zg13 hzg13 => ?_)
                      obtain ⟨hnf1, ha1, hq1, hc1, hd1, he1, hf1⟩ := hzg13
                      have ffzg13 : fT (aT A) g zg13 := ffzg12.tr (hnf1.fe (aT A)).fT
                      have t11zg13 : zg13 86 11 = nI (aT A) := (hnf1.2 11 (by omega)).trans t11zg12
                      have t8zg13 : zg13 86 8 = nI (aZ A) := (hnf1.2 8 (by omega)).trans t8zg12
                      have t29zg13 : zg13 86 29 = nI Da.length := (hnf1.2 29 (by omega)).trans h29a
                      have rwzg13 : lRow (Da.map tqO) Da.length (fun k => zg13 92 (200 * aT A + k)) := by rw [hnf1.1 92 (by decide)]; exact hrwa
                      have s0zg13 : zg13 93 (4 * aT A + 0) = (nI ([] : List Int32).length) := by rw [hnf1.1 93 (by decide)]; exact s0zg12
                      have hin1 := tk_in b (aZ A) (nxP b (aZ A) ja)
                      have hnx1 := nxP_b b (z := aZ A) (i := (nxP b (aZ A) ja)) hKa.2.1
                      refine xj_aload_n (n := 0) (i := 0) 2 rfl rfl dX12_text_39 ?_
                      refine yj_getf (v := .int (mtq (tkP b (aZ A) (nxP b (aZ A) ja)))) fl_X12_116_12 (by omega) (fq_86 zg13) (congrArg (fun z => some (Value.int z)) hc1) dX12_text_40 ?_
                      refine xj_iconst (v := 3) (by decide) dX12_text_43 ?_
                      refine xj_icmp_ne (tgt := 59) (by decide) dX12_text_44 (fun zc44 => ?_) (fun zc44 => ?_)
                      · have hno : ¬ tkP b (aZ A) (nxP b (aZ A) ja) = nI (256 + 1) := fun y => zc44 ((tk_256 1 (by decide) _ hin1).2 y).1
                        have hW : waF b (aZ A) 3 0 0 = (false, (nxP b (aZ A) ja), [Da]) := waF_s ea (waF_f (if_neg hno))
                        have hwA : waA A = (false, (nxP b (aZ A) ja), _) := hwa.symm.trans hW
                        have hr : rText A = (-100 - nI (stP (A 30) (aZ A) (nxP b (aZ A) ja)), gs A 0 5 0) := by show (if aT A = 6 then _ else if (waA A).1 = true then _ else (-100 - nI (stP (A 30) (aZ A) (waA A).2.1), gs A 0 5 0)) = _; rw [if_neg h6, hwA, if_neg Bool.false_ne_true]
                        have hl : txL A Λ = Λ := by show (if aT A = 6 then Λ else if (waA A).1 = true then _ else Λ) = _; rw [if_neg h6, hwA, if_neg Bool.false_ne_true]
                        refine xj_iconst (v := 0) (by decide) dX12_text_59 ?_
                        refine xj_istore_n (n := 1) (i := 1) (lv1 := [(1, .int 0), (2, .int (nI 1)), (0, .ref 86)]) rfl rfl (Nat.le_of_ble_eq_true rfl) dX12_text_60 ?_
                        refine xj_aload_n (n := 0) (i := 0) 2 rfl rfl dX12_text_61 ?_
                        refine yj_getf (v := .ref 93) fl_X12_32_12 (by omega) (fq_86 zg13) rfl dX12_text_62 ?_
                        refine xj_iconst (v := 4) (by decide) dX12_text_65 ?_
                        refine xj_aload_n (n := 0) (i := 0) 2 rfl rfl dX12_text_66 ?_
                        refine yj_getf (v := .int (nI (aT A))) fl_X12_100_12 (by omega) (fq_86 zg13) (congrArg (fun z => some (Value.int z)) t11zg13) dX12_text_67 ?_
                        refine xj_imul dX12_text_70 ?_
                        refine xj_top (pk_mul 4 (aT A)) ?_
                        refine xj_iload_n (n := 2) (i := 2) 1 rfl rfl dX12_text_71 ?_
                        refine xj_iadd dX12_text_72 ?_
                        refine xj_top (nI_add _ _) ?_
                        refine xj_aload_n (n := 0) (i := 0) 2 rfl rfl dX12_text_73 ?_
                        refine yj_getf (v := .int (nI Da.length)) fl_X12_126_12 (by omega) (fq_86 zg13) (congrArg (fun z => some (Value.int z)) t29zg13) dX12_text_74 ?_
                        refine yj_iastN ((4 * (aT A)) + 1) (by omega) fA_93 rfl (by omega) (by decide) dX12_text_77 ?_
                        obtain ⟨zg14, ezg14⟩ : ∃ x9, x9 = gs zg13 93 ((4 * (aT A)) + 1) (nI Da.length) := ⟨_, rfl⟩
                        rw [← ezg14]
                        have t23zg14 : zg14 86 23 = mtq (tkP b (aZ A) (nxP b (aZ A) ja)) := by rw [ezg14, gs_n _ _ _ (by decide)]; exact hc1
                        have t11zg14 : zg14 86 11 = nI (aT A) := by rw [ezg14, gs_n _ _ _ (by decide)]; exact t11zg13
                        have t8zg14 : zg14 86 8 = nI (aZ A) := by rw [ezg14, gs_n _ _ _ (by decide)]; exact t8zg13
                        have t29zg14 : zg14 86 29 = nI Da.length := by rw [ezg14, gs_n _ _ _ (by decide)]; exact t29zg13
                        have t21zg14 : zg14 86 21 = nI (nxP b (aZ A) (nxP b (aZ A) ja)) := by rw [ezg14, gs_n _ _ _ (by decide)]; exact hq1
                        have t22zg14 : zg14 86 22 = nI (stP b (aZ A) (nxP b (aZ A) ja)) := by rw [ezg14, gs_n _ _ _ (by decide)]; exact ha1
                        have fzg14 : fT (aT A) g zg14 := by rw [ezg14]; exact ffzg13.g93 (by omega) _
                        have s0zg14 : zg14 93 (4 * aT A + 0) = (nI ([] : List Int32).length) := by rw [ezg14, gs_s, upd_n _ _ (by omega)]; exact s0zg13
                        have s1zg14 : zg14 93 (4 * aT A + 1) = (nI Da.length) := by rw [ezg14, gs_s, upd_s]
                        have rwzg14 : lRow (Da.map tqO) Da.length (fun k => zg14 92 (200 * aT A + k)) := by rw [ezg14, gs_n _ _ _ (by decide)]; exact rwzg13
                        refine xj_iload_n (n := 1) (i := 1) 0 rfl rfl dX12_text_78 ?_
                        refine xj_if_eq (tgt := 93) (by decide) dX12_text_79 (fun zc79 => ?_) (fun zc79 => ?_)
                        · refine xj_iconst (v := 0) (by decide) dX12_text_93 ?_
                          refine xj_istore_n (n := 1) (i := 1) (lv1 := [(1, .int 0), (2, .int (nI 1)), (0, .ref 86)]) rfl rfl (Nat.le_of_ble_eq_true rfl) dX12_text_94 ?_
                          refine xj_iinc (n := 1) (i := 2) (v := nI 2) (lv1 := [(2, .int (nI 2)), (1, .int 0), (0, .ref 86)]) 1 rfl (nI_1 1) rfl (Nat.le_of_ble_eq_true rfl) dX12_text_95 ?_
                          refine xj_goto (tgt := 26) (by decide) dX12_text_98 ?_
                          refine xj_iload_n (n := 2) (i := 2) 0 rfl rfl dX12_text_26 ?_
                          refine xj_iconst (v := 3) (by decide) dX12_text_27 ?_
                          refine xj_icmp_ge (tgt := 101) (by decide) dX12_text_28 (fun zc28 => ?_) (fun zc28 => ?_)
                          · exact absurd zc28 (by decide)
                          · refine xj_iload_n (n := 1) (i := 1) 1 rfl rfl dX12_text_31 ?_
                            refine xj_if_eq (tgt := 101) (by decide) dX12_text_32 (fun zc32 => ?_) (fun zc32 => ?_)
                            · refine xj_iload_n (n := 1) (i := 1) 1 rfl rfl dX12_text_101 ?_
                              refine xj_if_eq (tgt := 122) (by decide) dX12_text_102 (fun zc102 => ?_) (fun zc102 => ?_)
                              · refine xj_aload_n (n := 0) (i := 0) 2 rfl rfl dX12_text_122 ?_
                                refine yj_getf (v := .ref 93) fl_X12_32_12 (by omega) (fq_86 zg14) rfl dX12_text_123 ?_
                                refine xj_iconst (v := 4) (by decide) dX12_text_126 ?_
                                refine xj_aload_n (n := 0) (i := 0) 2 rfl rfl dX12_text_127 ?_
                                refine yj_getf (v := .int (nI (aT A))) fl_X12_100_12 (by omega) (fq_86 zg14) (congrArg (fun z => some (Value.int z)) t11zg14) dX12_text_128 ?_
                                refine xj_imul dX12_text_131 ?_
                                refine xj_top (pk_mul 4 (aT A)) ?_
                                refine xj_iconst (v := 3) (by decide) dX12_text_132 ?_
                                refine xj_iadd dX12_text_133 ?_
                                refine xj_top (nI_add (4 * (aT A)) 3) ?_
                                refine xj_aload_n (n := 0) (i := 0) 2 rfl rfl dX12_text_134 ?_
                                refine yj_getf (v := .int (nI Da.length)) fl_X12_126_12 (by omega) (fq_86 zg14) (congrArg (fun z => some (Value.int z)) t29zg14) dX12_text_135 ?_
                                refine yj_iastN ((4 * (aT A)) + 3) (by omega) fA_93 rfl (by omega) (by decide) dX12_text_138 ?_
                                obtain ⟨zg15, ezg15⟩ : ∃ x9, x9 = gs zg14 93 ((4 * (aT A)) + 3) (nI Da.length) := ⟨_, rfl⟩
                                rw [← ezg15]
                                have t23zg15 : zg15 86 23 = mtq (tkP b (aZ A) (nxP b (aZ A) ja)) := by rw [ezg15, gs_n _ _ _ (by decide)]; exact t23zg14
                                have t11zg15 : zg15 86 11 = nI (aT A) := by rw [ezg15, gs_n _ _ _ (by decide)]; exact t11zg14
                                have t8zg15 : zg15 86 8 = nI (aZ A) := by rw [ezg15, gs_n _ _ _ (by decide)]; exact t8zg14
                                have t29zg15 : zg15 86 29 = nI Da.length := by rw [ezg15, gs_n _ _ _ (by decide)]; exact t29zg14
                                have t21zg15 : zg15 86 21 = nI (nxP b (aZ A) (nxP b (aZ A) ja)) := by rw [ezg15, gs_n _ _ _ (by decide)]; exact t21zg14
                                have t22zg15 : zg15 86 22 = nI (stP b (aZ A) (nxP b (aZ A) ja)) := by rw [ezg15, gs_n _ _ _ (by decide)]; exact t22zg14
                                have fzg15 : fT (aT A) g zg15 := by rw [ezg15]; exact fzg14.g93 (by omega) _
                                have s0zg15 : zg15 93 (4 * aT A + 0) = (nI ([] : List Int32).length) := by rw [ezg15, gs_s, upd_n _ _ (by omega)]; exact s0zg14
                                have s1zg15 : zg15 93 (4 * aT A + 1) = (nI Da.length) := by rw [ezg15, gs_s, upd_n _ _ (by omega)]; exact s1zg14
                                have s3zg15 : zg15 93 (4 * aT A + 3) = (nI Da.length) := by rw [ezg15, gs_s, upd_s]
                                have rwzg15 : lRow (Da.map tqO) Da.length (fun k => zg15 92 (200 * aT A + k)) := by rw [ezg15, gs_n _ _ _ (by decide)]; exact rwzg14
                                refine xj_aload_n (n := 0) (i := 0) 2 rfl rfl dX12_text_139 ?_
                                refine xj_iconst (v := 0) (by decide) dX12_text_140 ?_
                                refine yj_puti fl_X12_83_12 (by omega) fS_86_8 (fi_i _) dX12_text_141 ?_
                                obtain ⟨zg16, ezg16⟩ : ∃ x9, x9 = gs zg15 86 8 0 := ⟨_, rfl⟩
                                rw [← ezg16]
                                have t23zg16 : zg16 86 23 = mtq (tkP b (aZ A) (nxP b (aZ A) ja)) := by rw [ezg16, gs_s, upd_n _ _ (by decide)]; exact t23zg15
                                have t11zg16 : zg16 86 11 = nI (aT A) := by rw [ezg16, gs_s, upd_n _ _ (by decide)]; exact t11zg15
                                have t29zg16 : zg16 86 29 = nI Da.length := by rw [ezg16, gs_s, upd_n _ _ (by decide)]; exact t29zg15
                                have t21zg16 : zg16 86 21 = nI (nxP b (aZ A) (nxP b (aZ A) ja)) := by rw [ezg16, gs_s, upd_n _ _ (by decide)]; exact t21zg15
                                have t22zg16 : zg16 86 22 = nI (stP b (aZ A) (nxP b (aZ A) ja)) := by rw [ezg16, gs_s, upd_n _ _ (by decide)]; exact t22zg15
                                have t8zg16 : zg16 86 8 = 0 := by rw [ezg16, gs_s, upd_s]
                                have s0zg16 : zg16 93 (4 * aT A + 0) = (nI ([] : List Int32).length) := by rw [ezg16, gs_n _ _ _ (by decide)]; exact s0zg15
                                have s1zg16 : zg16 93 (4 * aT A + 1) = (nI Da.length) := by rw [ezg16, gs_n _ _ _ (by decide)]; exact s1zg15
                                have s3zg16 : zg16 93 (4 * aT A + 3) = (nI Da.length) := by rw [ezg16, gs_n _ _ _ (by decide)]; exact s3zg15
                                have rwzg16 : lRow (Da.map tqO) Da.length (fun k => zg16 92 (200 * aT A + k)) := by rw [ezg16, gs_n _ _ _ (by decide)]; exact rwzg15
                                refine xj_iload_n (n := 1) (i := 1) 1 rfl rfl dX12_text_144 ?_
                                refine xj_if_ne (tgt := 156) (by decide) dX12_text_145 (fun zc145 => ?_) (fun zc145 => ?_)
                                · exact absurd zc145 (fun z => z rfl)
                                · refine xj_bipush (v := (-100)) (by decide) dX12_text_148 ?_
                                  refine xj_aload_n (n := 0) (i := 0) 2 rfl rfl dX12_text_150 ?_
                                  refine yj_getf (v := .int (nI (stP b (aZ A) (nxP b (aZ A) ja)))) fl_X12_113_12 (by omega) (fq_86 zg16) (congrArg (fun z => some (Value.int z)) t22zg16) dX12_text_151 ?_
                                  refine xj_isub dX12_text_154 ?_
                                  exact xj_ireturn rfl (nr_i _) (Nat.zero_le _) (Nat.zero_le _) dX12_text_155 (qI_e ⟨by rw [hr]; show _ = -100 - nI (stP (A 30) (aZ A) (nxP b (aZ A) ja)); rw [← (tk_cg hcg (nxP b (aZ A) ja)).1], by rw [hr, hl, ezg16]; exact C.txF fzg15, by rw [ezg16]; exact (fT_mX fzg15).gs (by unfold mX; omega) 8 0⟩)
                              · exact absurd (by decide) zc102
                            · exact absurd (by decide) zc32
                        · exact absurd (by decide) zc79
                      · refine xj_aload_n (n := 0) (i := 0) 2 rfl rfl dX12_text_47 ?_
                        refine yj_getf (v := .int (tkP b (aZ A) (nxP b (aZ A) ja) - 256)) fl_X12_119_12 (by omega) (fq_86 zg13) (congrArg (fun z => some (Value.int z)) (hf1 zc44)) dX12_text_48 ?_
                        refine xj_iload_n (n := 2) (i := 2) 0 rfl rfl dX12_text_51 ?_
                        refine xj_icmp_ne (tgt := 59) (by decide) dX12_text_52 (fun zc52 => ?_) (fun zc52 => ?_)
                        · have hno : ¬ tkP b (aZ A) (nxP b (aZ A) ja) = nI (256 + 1) := fun y => zc52 ((tk_256 1 (by decide) _ hin1).2 y).2
                          have hW : waF b (aZ A) 3 0 0 = (false, (nxP b (aZ A) ja), [Da]) := waF_s ea (waF_f (if_neg hno))
                          have hwA : waA A = (false, (nxP b (aZ A) ja), _) := hwa.symm.trans hW
                          have hr : rText A = (-100 - nI (stP (A 30) (aZ A) (nxP b (aZ A) ja)), gs A 0 5 0) := by show (if aT A = 6 then _ else if (waA A).1 = true then _ else (-100 - nI (stP (A 30) (aZ A) (waA A).2.1), gs A 0 5 0)) = _; rw [if_neg h6, hwA, if_neg Bool.false_ne_true]
                          have hl : txL A Λ = Λ := by show (if aT A = 6 then Λ else if (waA A).1 = true then _ else Λ) = _; rw [if_neg h6, hwA, if_neg Bool.false_ne_true]
                          refine xj_iconst (v := 0) (by decide) dX12_text_59 ?_
                          refine xj_istore_n (n := 1) (i := 1) (lv1 := [(1, .int 0), (2, .int (nI 1)), (0, .ref 86)]) rfl rfl (Nat.le_of_ble_eq_true rfl) dX12_text_60 ?_
                          refine xj_aload_n (n := 0) (i := 0) 2 rfl rfl dX12_text_61 ?_
                          refine yj_getf (v := .ref 93) fl_X12_32_12 (by omega) (fq_86 zg13) rfl dX12_text_62 ?_
                          refine xj_iconst (v := 4) (by decide) dX12_text_65 ?_
                          refine xj_aload_n (n := 0) (i := 0) 2 rfl rfl dX12_text_66 ?_
                          refine yj_getf (v := .int (nI (aT A))) fl_X12_100_12 (by omega) (fq_86 zg13) (congrArg (fun z => some (Value.int z)) t11zg13) dX12_text_67 ?_
                          refine xj_imul dX12_text_70 ?_
                          refine xj_top (pk_mul 4 (aT A)) ?_
                          refine xj_iload_n (n := 2) (i := 2) 1 rfl rfl dX12_text_71 ?_
                          refine xj_iadd dX12_text_72 ?_
                          refine xj_top (nI_add _ _) ?_
                          refine xj_aload_n (n := 0) (i := 0) 2 rfl rfl dX12_text_73 ?_
                          refine yj_getf (v := .int (nI Da.length)) fl_X12_126_12 (by omega) (fq_86 zg13) (congrArg (fun z => some (Value.int z)) t29zg13) dX12_text_74 ?_
                          refine yj_iastN ((4 * (aT A)) + 1) (by omega) fA_93 rfl (by omega) (by decide) dX12_text_77 ?_
                          obtain ⟨zg17, ezg17⟩ : ∃ x9, x9 = gs zg13 93 ((4 * (aT A)) + 1) (nI Da.length) := ⟨_, rfl⟩
                          rw [← ezg17]
                          have t23zg17 : zg17 86 23 = mtq (tkP b (aZ A) (nxP b (aZ A) ja)) := by rw [ezg17, gs_n _ _ _ (by decide)]; exact hc1
                          have t11zg17 : zg17 86 11 = nI (aT A) := by rw [ezg17, gs_n _ _ _ (by decide)]; exact t11zg13
                          have t8zg17 : zg17 86 8 = nI (aZ A) := by rw [ezg17, gs_n _ _ _ (by decide)]; exact t8zg13
                          have t29zg17 : zg17 86 29 = nI Da.length := by rw [ezg17, gs_n _ _ _ (by decide)]; exact t29zg13
                          have t21zg17 : zg17 86 21 = nI (nxP b (aZ A) (nxP b (aZ A) ja)) := by rw [ezg17, gs_n _ _ _ (by decide)]; exact hq1
                          have t22zg17 : zg17 86 22 = nI (stP b (aZ A) (nxP b (aZ A) ja)) := by rw [ezg17, gs_n _ _ _ (by decide)]; exact ha1
                          have t24zg17 : zg17 86 24 = tkP b (aZ A) (nxP b (aZ A) ja) - 256 := by rw [ezg17, gs_n _ _ _ (by decide)]; exact (hf1 zc44)
                          have fzg17 : fT (aT A) g zg17 := by rw [ezg17]; exact ffzg13.g93 (by omega) _
                          have s0zg17 : zg17 93 (4 * aT A + 0) = (nI ([] : List Int32).length) := by rw [ezg17, gs_s, upd_n _ _ (by omega)]; exact s0zg13
                          have s1zg17 : zg17 93 (4 * aT A + 1) = (nI Da.length) := by rw [ezg17, gs_s, upd_s]
                          have rwzg17 : lRow (Da.map tqO) Da.length (fun k => zg17 92 (200 * aT A + k)) := by rw [ezg17, gs_n _ _ _ (by decide)]; exact rwzg13
                          refine xj_iload_n (n := 1) (i := 1) 0 rfl rfl dX12_text_78 ?_
                          refine xj_if_eq (tgt := 93) (by decide) dX12_text_79 (fun zc79 => ?_) (fun zc79 => ?_)
                          · refine xj_iconst (v := 0) (by decide) dX12_text_93 ?_
                            refine xj_istore_n (n := 1) (i := 1) (lv1 := [(1, .int 0), (2, .int (nI 1)), (0, .ref 86)]) rfl rfl (Nat.le_of_ble_eq_true rfl) dX12_text_94 ?_
                            refine xj_iinc (n := 1) (i := 2) (v := nI 2) (lv1 := [(2, .int (nI 2)), (1, .int 0), (0, .ref 86)]) 1 rfl (nI_1 1) rfl (Nat.le_of_ble_eq_true rfl) dX12_text_95 ?_
                            refine xj_goto (tgt := 26) (by decide) dX12_text_98 ?_
                            refine xj_iload_n (n := 2) (i := 2) 0 rfl rfl dX12_text_26 ?_
                            refine xj_iconst (v := 3) (by decide) dX12_text_27 ?_
                            refine xj_icmp_ge (tgt := 101) (by decide) dX12_text_28 (fun zc28 => ?_) (fun zc28 => ?_)
                            · exact absurd zc28 (by decide)
                            · refine xj_iload_n (n := 1) (i := 1) 1 rfl rfl dX12_text_31 ?_
                              refine xj_if_eq (tgt := 101) (by decide) dX12_text_32 (fun zc32 => ?_) (fun zc32 => ?_)
                              · refine xj_iload_n (n := 1) (i := 1) 1 rfl rfl dX12_text_101 ?_
                                refine xj_if_eq (tgt := 122) (by decide) dX12_text_102 (fun zc102 => ?_) (fun zc102 => ?_)
                                · refine xj_aload_n (n := 0) (i := 0) 2 rfl rfl dX12_text_122 ?_
                                  refine yj_getf (v := .ref 93) fl_X12_32_12 (by omega) (fq_86 zg17) rfl dX12_text_123 ?_
                                  refine xj_iconst (v := 4) (by decide) dX12_text_126 ?_
                                  refine xj_aload_n (n := 0) (i := 0) 2 rfl rfl dX12_text_127 ?_
                                  refine yj_getf (v := .int (nI (aT A))) fl_X12_100_12 (by omega) (fq_86 zg17) (congrArg (fun z => some (Value.int z)) t11zg17) dX12_text_128 ?_
                                  refine xj_imul dX12_text_131 ?_
                                  refine xj_top (pk_mul 4 (aT A)) ?_
                                  refine xj_iconst (v := 3) (by decide) dX12_text_132 ?_
                                  refine xj_iadd dX12_text_133 ?_
                                  refine xj_top (nI_add (4 * (aT A)) 3) ?_
                                  refine xj_aload_n (n := 0) (i := 0) 2 rfl rfl dX12_text_134 ?_
                                  refine yj_getf (v := .int (nI Da.length)) fl_X12_126_12 (by omega) (fq_86 zg17) (congrArg (fun z => some (Value.int z)) t29zg17) dX12_text_135 ?_
                                  refine yj_iastN ((4 * (aT A)) + 3) (by omega) fA_93 rfl (by omega) (by decide) dX12_text_138 ?_
                                  obtain ⟨zg18, ezg18⟩ : ∃ x9, x9 = gs zg17 93 ((4 * (aT A)) + 3) (nI Da.length) := ⟨_, rfl⟩
                                  rw [← ezg18]
                                  have t23zg18 : zg18 86 23 = mtq (tkP b (aZ A) (nxP b (aZ A) ja)) := by rw [ezg18, gs_n _ _ _ (by decide)]; exact t23zg17
                                  have t11zg18 : zg18 86 11 = nI (aT A) := by rw [ezg18, gs_n _ _ _ (by decide)]; exact t11zg17
                                  have t8zg18 : zg18 86 8 = nI (aZ A) := by rw [ezg18, gs_n _ _ _ (by decide)]; exact t8zg17
                                  have t29zg18 : zg18 86 29 = nI Da.length := by rw [ezg18, gs_n _ _ _ (by decide)]; exact t29zg17
                                  have t21zg18 : zg18 86 21 = nI (nxP b (aZ A) (nxP b (aZ A) ja)) := by rw [ezg18, gs_n _ _ _ (by decide)]; exact t21zg17
                                  have t22zg18 : zg18 86 22 = nI (stP b (aZ A) (nxP b (aZ A) ja)) := by rw [ezg18, gs_n _ _ _ (by decide)]; exact t22zg17
                                  have t24zg18 : zg18 86 24 = tkP b (aZ A) (nxP b (aZ A) ja) - 256 := by rw [ezg18, gs_n _ _ _ (by decide)]; exact t24zg17
                                  have fzg18 : fT (aT A) g zg18 := by rw [ezg18]; exact fzg17.g93 (by omega) _
                                  have s0zg18 : zg18 93 (4 * aT A + 0) = (nI ([] : List Int32).length) := by rw [ezg18, gs_s, upd_n _ _ (by omega)]; exact s0zg17
                                  have s1zg18 : zg18 93 (4 * aT A + 1) = (nI Da.length) := by rw [ezg18, gs_s, upd_n _ _ (by omega)]; exact s1zg17
                                  have s3zg18 : zg18 93 (4 * aT A + 3) = (nI Da.length) := by rw [ezg18, gs_s, upd_s]
                                  have rwzg18 : lRow (Da.map tqO) Da.length (fun k => zg18 92 (200 * aT A + k)) := by rw [ezg18, gs_n _ _ _ (by decide)]; exact rwzg17
                                  refine xj_aload_n (n := 0) (i := 0) 2 rfl rfl dX12_text_139 ?_
                                  refine xj_iconst (v := 0) (by decide) dX12_text_140 ?_
                                  refine yj_puti fl_X12_83_12 (by omega) fS_86_8 (fi_i _) dX12_text_141 ?_
                                  obtain ⟨zg19, ezg19⟩ : ∃ x9, x9 = gs zg18 86 8 0 := ⟨_, rfl⟩
                                  rw [← ezg19]
                                  have t23zg19 : zg19 86 23 = mtq (tkP b (aZ A) (nxP b (aZ A) ja)) := by rw [ezg19, gs_s, upd_n _ _ (by decide)]; exact t23zg18
                                  have t11zg19 : zg19 86 11 = nI (aT A) := by rw [ezg19, gs_s, upd_n _ _ (by decide)]; exact t11zg18
                                  have t29zg19 : zg19 86 29 = nI Da.length := by rw [ezg19, gs_s, upd_n _ _ (by decide)]; exact t29zg18
                                  have t21zg19 : zg19 86 21 = nI (nxP b (aZ A) (nxP b (aZ A) ja)) := by rw [ezg19, gs_s, upd_n _ _ (by decide)]; exact t21zg18
                                  have t22zg19 : zg19 86 22 = nI (stP b (aZ A) (nxP b (aZ A) ja)) := by rw [ezg19, gs_s, upd_n _ _ (by decide)]; exact t22zg18
                                  have t24zg19 : zg19 86 24 = tkP b (aZ A) (nxP b (aZ A) ja) - 256 := by rw [ezg19, gs_s, upd_n _ _ (by decide)]; exact t24zg18
                                  have t8zg19 : zg19 86 8 = 0 := by rw [ezg19, gs_s, upd_s]
                                  have s0zg19 : zg19 93 (4 * aT A + 0) = (nI ([] : List Int32).length) := by rw [ezg19, gs_n _ _ _ (by decide)]; exact s0zg18
                                  have s1zg19 : zg19 93 (4 * aT A + 1) = (nI Da.length) := by rw [ezg19, gs_n _ _ _ (by decide)]; exact s1zg18
                                  have s3zg19 : zg19 93 (4 * aT A + 3) = (nI Da.length) := by rw [ezg19, gs_n _ _ _ (by decide)]; exact s3zg18
                                  have rwzg19 : lRow (Da.map tqO) Da.length (fun k => zg19 92 (200 * aT A + k)) := by rw [ezg19, gs_n _ _ _ (by decide)]; exact rwzg18
                                  refine xj_iload_n (n := 1) (i := 1) 1 rfl rfl dX12_text_144 ?_
                                  refine xj_if_ne (tgt := 156) (by decide) dX12_text_145 (fun zc145 => ?_) (fun zc145 => ?_)
                                  · exact absurd zc145 (fun z => z rfl)
                                  · refine xj_bipush (v := (-100)) (by decide) dX12_text_148 ?_
                                    refine xj_aload_n (n := 0) (i := 0) 2 rfl rfl dX12_text_150 ?_
                                    refine yj_getf (v := .int (nI (stP b (aZ A) (nxP b (aZ A) ja)))) fl_X12_113_12 (by omega) (fq_86 zg19) (congrArg (fun z => some (Value.int z)) t22zg19) dX12_text_151 ?_
                                    refine xj_isub dX12_text_154 ?_
                                    exact xj_ireturn rfl (nr_i _) (Nat.zero_le _) (Nat.zero_le _) dX12_text_155 (qI_e ⟨by rw [hr]; show _ = -100 - nI (stP (A 30) (aZ A) (nxP b (aZ A) ja)); rw [← (tk_cg hcg (nxP b (aZ A) ja)).1], by rw [hr, hl, ezg19]; exact C.txF fzg18, by rw [ezg19]; exact (fT_mX fzg18).gs (by unfold mX; omega) 8 0⟩)
                                · exact absurd (by decide) zc102
                              · exact absurd (by decide) zc32
                          · exact absurd (by decide) zc79
                        · have htk1 : tkP b (aZ A) (nxP b (aZ A) ja) = nI (256 + 1) := (tk_256 1 (by decide) _ hin1).1 zc44 zc52
                          have hlt1 : (nxP b (aZ A) ja) < nxP b (aZ A) (nxP b (aZ A) ja) := hnx1.2.2 (by rw [htk1]; decide)
                          refine xj_iconst (v := 1) (by decide) dX12_text_55 ?_
                          refine xj_goto (tgt := 60) (by decide) dX12_text_56 ?_
                          refine xj_istore_n (n := 1) (i := 1) (lv1 := [(1, .int 1), (2, .int (nI 1)), (0, .ref 86)]) rfl rfl (Nat.le_of_ble_eq_true rfl) dX12_text_60 ?_
                          refine xj_aload_n (n := 0) (i := 0) 2 rfl rfl dX12_text_61 ?_
                          refine yj_getf (v := .ref 93) fl_X12_32_12 (by omega) (fq_86 zg13) rfl dX12_text_62 ?_
                          refine xj_iconst (v := 4) (by decide) dX12_text_65 ?_
                          refine xj_aload_n (n := 0) (i := 0) 2 rfl rfl dX12_text_66 ?_
                          refine yj_getf (v := .int (nI (aT A))) fl_X12_100_12 (by omega) (fq_86 zg13) (congrArg (fun z => some (Value.int z)) t11zg13) dX12_text_67 ?_
                          refine xj_imul dX12_text_70 ?_
                          refine xj_top (pk_mul 4 (aT A)) ?_
                          refine xj_iload_n (n := 2) (i := 2) 1 rfl rfl dX12_text_71 ?_
                          refine xj_iadd dX12_text_72 ?_
                          refine xj_top (nI_add _ _) ?_
                          refine xj_aload_n (n := 0) (i := 0) 2 rfl rfl dX12_text_73 ?_
                          refine yj_getf (v := .int (nI Da.length)) fl_X12_126_12 (by omega) (fq_86 zg13) (congrArg (fun z => some (Value.int z)) t29zg13) dX12_text_74 ?_
                          refine yj_iastN ((4 * (aT A)) + 1) (by omega) fA_93 rfl (by omega) (by decide) dX12_text_77 ?_
                          obtain ⟨zg20, ezg20⟩ : ∃ x9, x9 = gs zg13 93 ((4 * (aT A)) + 1) (nI Da.length) := ⟨_, rfl⟩
                          rw [← ezg20]
                          have t23zg20 : zg20 86 23 = mtq (tkP b (aZ A) (nxP b (aZ A) ja)) := by rw [ezg20, gs_n _ _ _ (by decide)]; exact hc1
                          have t11zg20 : zg20 86 11 = nI (aT A) := by rw [ezg20, gs_n _ _ _ (by decide)]; exact t11zg13
                          have t8zg20 : zg20 86 8 = nI (aZ A) := by rw [ezg20, gs_n _ _ _ (by decide)]; exact t8zg13
                          have t29zg20 : zg20 86 29 = nI Da.length := by rw [ezg20, gs_n _ _ _ (by decide)]; exact t29zg13
                          have t21zg20 : zg20 86 21 = nI (nxP b (aZ A) (nxP b (aZ A) ja)) := by rw [ezg20, gs_n _ _ _ (by decide)]; exact hq1
                          have t22zg20 : zg20 86 22 = nI (stP b (aZ A) (nxP b (aZ A) ja)) := by rw [ezg20, gs_n _ _ _ (by decide)]; exact ha1
                          have t24zg20 : zg20 86 24 = tkP b (aZ A) (nxP b (aZ A) ja) - 256 := by rw [ezg20, gs_n _ _ _ (by decide)]; exact (hf1 zc44)
                          have fzg20 : fT (aT A) g zg20 := by rw [ezg20]; exact ffzg13.g93 (by omega) _
                          have s0zg20 : zg20 93 (4 * aT A + 0) = (nI ([] : List Int32).length) := by rw [ezg20, gs_s, upd_n _ _ (by omega)]; exact s0zg13
                          have s1zg20 : zg20 93 (4 * aT A + 1) = (nI Da.length) := by rw [ezg20, gs_s, upd_s]
                          have rwzg20 : lRow (Da.map tqO) Da.length (fun k => zg20 92 (200 * aT A + k)) := by rw [ezg20, gs_n _ _ _ (by decide)]; exact rwzg13
                          refine xj_iload_n (n := 1) (i := 1) 0 rfl rfl dX12_text_78 ?_
                          refine xj_if_eq (tgt := 93) (by decide) dX12_text_79 (fun zc79 => ?_) (fun zc79 => ?_)
                          · exact absurd zc79 (by decide)
                          · refine xj_aload_n (n := 0) (i := 0) 2 rfl rfl dX12_text_82 ?_
                            have hlc1 : Da.length ≤ nxP b (aZ A) (nxP b (aZ A) ja) := by omega
                            refine xj_callV kv_X12_162 (c_X12_eRead l (d + 0) n hn zg20 (aT A) hT5 Da b (aZ A) hz ((fzg20.1 91 (by decide) (by decide) (by decide) (by decide)).trans hb) t8zg20 (fun k hk => by rw [fzg20.1 101 (by decide) (by decide) (by decide) (by decide)]; exact C.2.2.2.2.2.2 k hk) (nxP b (aZ A) (nxP b (aZ A) ja)) hnx1.2.1 t21zg20 hlc1 t29zg20 t11zg20 rwzg20) (As := []) (st := []) (by omega) (fq_86 zg20) (ci := 12) rfl rfl rfl rfl (xRm_of (by omega) (by decide) (by omega) (by omega)) (Nat.le_of_ble_eq_true rfl) dX12_text_83 (yk_i (kc := 0) (ks := 0) fun zv21 zg22 hzg22 => ?_)
                            obtain ⟨hEb, hvb, hjb, hbb, hqb, hokb⟩ := hzg22
                            have ffzg22 : fT (aT A) g zg22 := fzg20.tr hEb.fT
                            have t11zg22 : zg22 86 11 = nI (aT A) := (hEb.2.1 11 (by unfold eX; omega)).trans t11zg20
                            have t8zg22 : zg22 86 8 = nI (aZ A) := (hEb.2.1 8 (by unfold eX; omega)).trans t8zg20
                            have s0zg22 : zg22 93 (4 * aT A + 0) = (nI ([] : List Int32).length) := by rw [hEb.1 93 (by decide) (by decide) (by decide)]; exact s0zg20
                            have s1zg22 : zg22 93 (4 * aT A + 1) = (nI Da.length) := by rw [hEb.1 93 (by decide) (by decide) (by decide)]; exact s1zg20
                            by_cases hR : (rnM b (aZ A) (true, true, [], 0, []) (nxP b (aZ A) (nxP b (aZ A) ja))).1 = true
                            · obtain ⟨jb, Db, eRb⟩ : ∃ j D, (rnM b (aZ A) (true, true, [], 0, []) (nxP b (aZ A) (nxP b (aZ A) ja))) = (true, j, D) := ⟨_, _, mR_ext hR rfl rfl⟩
                              obtain ⟨hLb, h29b, hrwb⟩ := hokb hR
                              rw [eRb] at hvb hjb hbb hqb hLb h29b hrwb
                              have eb : paF b (aZ A) 1 (nxP b (aZ A) ja) = (true, jb, Db) := (if_pos htk1).trans eRb
                              have hVb := rnM_V eRb
                              have hLb : (Db ++ Da).length ≤ jb := hLb
                              have hjb : jb ≤ aZ A := hjb
                              have hKb := nxP_b b hjb
                              rw [hvb, bI_t rfl]
                              refine xj_if_eq (tgt := 93) (by decide) dX12_text_86 (fun zc86 => ?_) (fun zc86 => ?_)
                              · exact absurd zc86 (by decide)
                              · refine xj_iconst (v := 1) (by decide) dX12_text_89 ?_
                                refine xj_goto (tgt := 94) (by decide) dX12_text_90 ?_
                                refine xj_istore_n (n := 1) (i := 1) (lv1 := [(1, .int 1), (2, .int (nI 1)), (0, .ref 86)]) rfl rfl (Nat.le_of_ble_eq_true rfl) dX12_text_94 ?_
                                refine xj_iinc (n := 1) (i := 2) (v := nI 2) (lv1 := [(2, .int (nI 2)), (1, .int 1), (0, .ref 86)]) 1 rfl (nI_1 1) rfl (Nat.le_of_ble_eq_true rfl) dX12_text_95 ?_
                                refine xj_goto (tgt := 26) (by decide) dX12_text_98 ?_
                                refine xj_iload_n (n := 2) (i := 2) 0 rfl rfl dX12_text_26 ?_
                                refine xj_iconst (v := 3) (by decide) dX12_text_27 ?_
                                refine xj_icmp_ge (tgt := 101) (by decide) dX12_text_28 (fun zc28 => ?_) (fun zc28 => ?_)
                                · exact absurd zc28 (by decide)
                                · refine xj_iload_n (n := 1) (i := 1) 1 rfl rfl dX12_text_31 ?_
                                  refine xj_if_eq (tgt := 101) (by decide) dX12_text_32 (fun zc32 => ?_) (fun zc32 => ?_)
                                  · exact absurd zc32 (by decide)
                                  · refine xj_aload_n (n := 0) (i := 0) 2 rfl rfl dX12_text_35 ?_
                                    refine xj_callV kv_X12_149 (c_X12_next l (d + 1) n hn zg22 b (aZ A) hz ((ffzg22.1 91 (by decide) (by decide) (by decide) (by decide)).trans hb) t8zg22 (fun k hk => by rw [ffzg22.1 101 (by decide) (by decide) (by decide) (by decide)]; exact C.2.2.2.2.2.2 k hk) (nxP b (aZ A) jb) hKb.2.1 hqb) (As := []) (st := []) (by omega) (fq_86 zg22) (ci := 12) rfl rfl rfl rfl (xRm_of (by omega) (by decide) (by omega) (by omega)) (Nat.le_of_ble_eq_true rfl) dX12_text_36 (yk_v (kc := 0) (ks := 0) fun zg23 hzg23 => ?_)
                                    obtain ⟨hnf2, ha2, hq2, hc2, hd2, he2, hf2⟩ := hzg23
                                    have ffzg23 : fT (aT A) g zg23 := ffzg22.tr (hnf2.fe (aT A)).fT
                                    have t11zg23 : zg23 86 11 = nI (aT A) := (hnf2.2 11 (by omega)).trans t11zg22
                                    have t8zg23 : zg23 86 8 = nI (aZ A) := (hnf2.2 8 (by omega)).trans t8zg22
                                    have t29zg23 : zg23 86 29 = nI (Db ++ Da).length := (hnf2.2 29 (by omega)).trans h29b
                                    have rwzg23 : lRow ((Db ++ Da).map tqO) (Db ++ Da).length (fun k => zg23 92 (200 * aT A + k)) := by rw [hnf2.1 92 (by decide)]; exact hrwb
                                    have s0zg23 : zg23 93 (4 * aT A + 0) = (nI ([] : List Int32).length) := by rw [hnf2.1 93 (by decide)]; exact s0zg22
                                    have s1zg23 : zg23 93 (4 * aT A + 1) = (nI Da.length) := by rw [hnf2.1 93 (by decide)]; exact s1zg22
                                    have hin2 := tk_in b (aZ A) (nxP b (aZ A) jb)
                                    have hnx2 := nxP_b b (z := aZ A) (i := (nxP b (aZ A) jb)) hKb.2.1
                                    refine xj_aload_n (n := 0) (i := 0) 2 rfl rfl dX12_text_39 ?_
                                    refine yj_getf (v := .int (mtq (tkP b (aZ A) (nxP b (aZ A) jb)))) fl_X12_116_12 (by omega) (fq_86 zg23) (congrArg (fun z => some (Value.int z)) hc2) dX12_text_40 ?_
                                    refine xj_iconst (v := 3) (by decide) dX12_text_43 ?_
                                    refine xj_icmp_ne (tgt := 59) (by decide) dX12_text_44 (fun zc44 => ?_) (fun zc44 => ?_)
                                    · have hno : ¬ tkP b (aZ A) (nxP b (aZ A) jb) = nI (256 + 2) := fun y => zc44 ((tk_256 2 (by decide) _ hin2).2 y).1
                                      have hW : waF b (aZ A) 3 0 0 = (false, (nxP b (aZ A) jb), [Da, Db]) := waF_s ea (waF_s eb (waF_f (if_neg hno)))
                                      have hwA : waA A = (false, (nxP b (aZ A) jb), _) := hwa.symm.trans hW
                                      have hr : rText A = (-100 - nI (stP (A 30) (aZ A) (nxP b (aZ A) jb)), gs A 0 5 0) := by show (if aT A = 6 then _ else if (waA A).1 = true then _ else (-100 - nI (stP (A 30) (aZ A) (waA A).2.1), gs A 0 5 0)) = _; rw [if_neg h6, hwA, if_neg Bool.false_ne_true]
                                      have hl : txL A Λ = Λ := by show (if aT A = 6 then Λ else if (waA A).1 = true then _ else Λ) = _; rw [if_neg h6, hwA, if_neg Bool.false_ne_true]
                                      refine xj_iconst (v := 0) (by decide) dX12_text_59 ?_
                                      refine xj_istore_n (n := 1) (i := 1) (lv1 := [(1, .int 0), (2, .int (nI 2)), (0, .ref 86)]) rfl rfl (Nat.le_of_ble_eq_true rfl) dX12_text_60 ?_
                                      refine xj_aload_n (n := 0) (i := 0) 2 rfl rfl dX12_text_61 ?_
                                      refine yj_getf (v := .ref 93) fl_X12_32_12 (by omega) (fq_86 zg23) rfl dX12_text_62 ?_
                                      refine xj_iconst (v := 4) (by decide) dX12_text_65 ?_
                                      refine xj_aload_n (n := 0) (i := 0) 2 rfl rfl dX12_text_66 ?_
                                      refine yj_getf (v := .int (nI (aT A))) fl_X12_100_12 (by omega) (fq_86 zg23) (congrArg (fun z => some (Value.int z)) t11zg23) dX12_text_67 ?_
                                      refine xj_imul dX12_text_70 ?_
                                      refine xj_top (pk_mul 4 (aT A)) ?_
                                      refine xj_iload_n (n := 2) (i := 2) 1 rfl rfl dX12_text_71 ?_
                                      refine xj_iadd dX12_text_72 ?_
                                      refine xj_top (nI_add _ _) ?_
                                      refine xj_aload_n (n := 0) (i := 0) 2 rfl rfl dX12_text_73 ?_
                                      refine yj_getf (v := .int (nI (Db ++ Da).length)) fl_X12_126_12 (by omega) (fq_86 zg23) (congrArg (fun z => some (Value.int z)) t29zg23) dX12_text_74 ?_
                                      refine yj_iastN ((4 * (aT A)) + 2) (by omega) fA_93 rfl (by omega) (by decide) dX12_text_77 ?_
                                      obtain ⟨zg24, ezg24⟩ : ∃ x9, x9 = gs zg23 93 ((4 * (aT A)) + 2) (nI (Db ++ Da).length) := ⟨_, rfl⟩
                                      rw [← ezg24]
                                      have t23zg24 : zg24 86 23 = mtq (tkP b (aZ A) (nxP b (aZ A) jb)) := by rw [ezg24, gs_n _ _ _ (by decide)]; exact hc2
                                      have t11zg24 : zg24 86 11 = nI (aT A) := by rw [ezg24, gs_n _ _ _ (by decide)]; exact t11zg23
                                      have t8zg24 : zg24 86 8 = nI (aZ A) := by rw [ezg24, gs_n _ _ _ (by decide)]; exact t8zg23
                                      have t29zg24 : zg24 86 29 = nI (Db ++ Da).length := by rw [ezg24, gs_n _ _ _ (by decide)]; exact t29zg23
                                      have t21zg24 : zg24 86 21 = nI (nxP b (aZ A) (nxP b (aZ A) jb)) := by rw [ezg24, gs_n _ _ _ (by decide)]; exact hq2
                                      have t22zg24 : zg24 86 22 = nI (stP b (aZ A) (nxP b (aZ A) jb)) := by rw [ezg24, gs_n _ _ _ (by decide)]; exact ha2
                                      have fzg24 : fT (aT A) g zg24 := by rw [ezg24]; exact ffzg23.g93 (by omega) _
                                      have s0zg24 : zg24 93 (4 * aT A + 0) = (nI ([] : List Int32).length) := by rw [ezg24, gs_s, upd_n _ _ (by omega)]; exact s0zg23
                                      have s1zg24 : zg24 93 (4 * aT A + 1) = (nI Da.length) := by rw [ezg24, gs_s, upd_n _ _ (by omega)]; exact s1zg23
                                      have s2zg24 : zg24 93 (4 * aT A + 2) = (nI (Db ++ Da).length) := by rw [ezg24, gs_s, upd_s]
                                      have rwzg24 : lRow ((Db ++ Da).map tqO) (Db ++ Da).length (fun k => zg24 92 (200 * aT A + k)) := by rw [ezg24, gs_n _ _ _ (by decide)]; exact rwzg23
                                      refine xj_iload_n (n := 1) (i := 1) 0 rfl rfl dX12_text_78 ?_
                                      refine xj_if_eq (tgt := 93) (by decide) dX12_text_79 (fun zc79 => ?_) (fun zc79 => ?_)
                                      · refine xj_iconst (v := 0) (by decide) dX12_text_93 ?_
                                        refine xj_istore_n (n := 1) (i := 1) (lv1 := [(1, .int 0), (2, .int (nI 2)), (0, .ref 86)]) rfl rfl (Nat.le_of_ble_eq_true rfl) dX12_text_94 ?_
                                        refine xj_iinc (n := 1) (i := 2) (v := nI 3) (lv1 := [(2, .int (nI 3)), (1, .int 0), (0, .ref 86)]) 1 rfl (nI_1 2) rfl (Nat.le_of_ble_eq_true rfl) dX12_text_95 ?_
                                        refine xj_goto (tgt := 26) (by decide) dX12_text_98 ?_
                                        refine xj_iload_n (n := 2) (i := 2) 0 rfl rfl dX12_text_26 ?_
                                        refine xj_iconst (v := 3) (by decide) dX12_text_27 ?_
                                        refine xj_icmp_ge (tgt := 101) (by decide) dX12_text_28 (fun zc28 => ?_) (fun zc28 => ?_)
                                        · refine xj_iload_n (n := 1) (i := 1) 1 rfl rfl dX12_text_101 ?_
                                          refine xj_if_eq (tgt := 122) (by decide) dX12_text_102 (fun zc102 => ?_) (fun zc102 => ?_)
                                          · refine xj_aload_n (n := 0) (i := 0) 2 rfl rfl dX12_text_122 ?_
                                            refine yj_getf (v := .ref 93) fl_X12_32_12 (by omega) (fq_86 zg24) rfl dX12_text_123 ?_
                                            refine xj_iconst (v := 4) (by decide) dX12_text_126 ?_
                                            refine xj_aload_n (n := 0) (i := 0) 2 rfl rfl dX12_text_127 ?_
                                            refine yj_getf (v := .int (nI (aT A))) fl_X12_100_12 (by omega) (fq_86 zg24) (congrArg (fun z => some (Value.int z)) t11zg24) dX12_text_128 ?_
                                            refine xj_imul dX12_text_131 ?_
                                            refine xj_top (pk_mul 4 (aT A)) ?_
                                            refine xj_iconst (v := 3) (by decide) dX12_text_132 ?_
                                            refine xj_iadd dX12_text_133 ?_
                                            refine xj_top (nI_add (4 * (aT A)) 3) ?_
                                            refine xj_aload_n (n := 0) (i := 0) 2 rfl rfl dX12_text_134 ?_
                                            refine yj_getf (v := .int (nI (Db ++ Da).length)) fl_X12_126_12 (by omega) (fq_86 zg24) (congrArg (fun z => some (Value.int z)) t29zg24) dX12_text_135 ?_
                                            refine yj_iastN ((4 * (aT A)) + 3) (by omega) fA_93 rfl (by omega) (by decide) dX12_text_138 ?_
                                            obtain ⟨zg25, ezg25⟩ : ∃ x9, x9 = gs zg24 93 ((4 * (aT A)) + 3) (nI (Db ++ Da).length) := ⟨_, rfl⟩
                                            rw [← ezg25]
                                            have t23zg25 : zg25 86 23 = mtq (tkP b (aZ A) (nxP b (aZ A) jb)) := by rw [ezg25, gs_n _ _ _ (by decide)]; exact t23zg24
                                            have t11zg25 : zg25 86 11 = nI (aT A) := by rw [ezg25, gs_n _ _ _ (by decide)]; exact t11zg24
                                            have t8zg25 : zg25 86 8 = nI (aZ A) := by rw [ezg25, gs_n _ _ _ (by decide)]; exact t8zg24
                                            have t29zg25 : zg25 86 29 = nI (Db ++ Da).length := by rw [ezg25, gs_n _ _ _ (by decide)]; exact t29zg24
                                            have t21zg25 : zg25 86 21 = nI (nxP b (aZ A) (nxP b (aZ A) jb)) := by rw [ezg25, gs_n _ _ _ (by decide)]; exact t21zg24
                                            have t22zg25 : zg25 86 22 = nI (stP b (aZ A) (nxP b (aZ A) jb)) := by rw [ezg25, gs_n _ _ _ (by decide)]; exact t22zg24
                                            have fzg25 : fT (aT A) g zg25 := by rw [ezg25]; exact fzg24.g93 (by omega) _
                                            have s0zg25 : zg25 93 (4 * aT A + 0) = (nI ([] : List Int32).length) := by rw [ezg25, gs_s, upd_n _ _ (by omega)]; exact s0zg24
                                            have s1zg25 : zg25 93 (4 * aT A + 1) = (nI Da.length) := by rw [ezg25, gs_s, upd_n _ _ (by omega)]; exact s1zg24
                                            have s2zg25 : zg25 93 (4 * aT A + 2) = (nI (Db ++ Da).length) := by rw [ezg25, gs_s, upd_n _ _ (by omega)]; exact s2zg24
                                            have s3zg25 : zg25 93 (4 * aT A + 3) = (nI (Db ++ Da).length) := by rw [ezg25, gs_s, upd_s]
                                            have rwzg25 : lRow ((Db ++ Da).map tqO) (Db ++ Da).length (fun k => zg25 92 (200 * aT A + k)) := by rw [ezg25, gs_n _ _ _ (by decide)]; exact rwzg24
                                            refine xj_aload_n (n := 0) (i := 0) 2 rfl rfl dX12_text_139 ?_
                                            refine xj_iconst (v := 0) (by decide) dX12_text_140 ?_
                                            refine yj_puti fl_X12_83_12 (by omega) fS_86_8 (fi_i _) dX12_text_141 ?_
                                            obtain ⟨zg26, ezg26⟩ : ∃ x9, x9 = gs zg25 86 8 0 := ⟨_, rfl⟩
                                            rw [← ezg26]
                                            have t23zg26 : zg26 86 23 = mtq (tkP b (aZ A) (nxP b (aZ A) jb)) := by rw [ezg26, gs_s, upd_n _ _ (by decide)]; exact t23zg25
                                            have t11zg26 : zg26 86 11 = nI (aT A) := by rw [ezg26, gs_s, upd_n _ _ (by decide)]; exact t11zg25
                                            have t29zg26 : zg26 86 29 = nI (Db ++ Da).length := by rw [ezg26, gs_s, upd_n _ _ (by decide)]; exact t29zg25
                                            have t21zg26 : zg26 86 21 = nI (nxP b (aZ A) (nxP b (aZ A) jb)) := by rw [ezg26, gs_s, upd_n _ _ (by decide)]; exact t21zg25
                                            have t22zg26 : zg26 86 22 = nI (stP b (aZ A) (nxP b (aZ A) jb)) := by rw [ezg26, gs_s, upd_n _ _ (by decide)]; exact t22zg25
                                            have t8zg26 : zg26 86 8 = 0 := by rw [ezg26, gs_s, upd_s]
                                            have s0zg26 : zg26 93 (4 * aT A + 0) = (nI ([] : List Int32).length) := by rw [ezg26, gs_n _ _ _ (by decide)]; exact s0zg25
                                            have s1zg26 : zg26 93 (4 * aT A + 1) = (nI Da.length) := by rw [ezg26, gs_n _ _ _ (by decide)]; exact s1zg25
                                            have s2zg26 : zg26 93 (4 * aT A + 2) = (nI (Db ++ Da).length) := by rw [ezg26, gs_n _ _ _ (by decide)]; exact s2zg25
                                            have s3zg26 : zg26 93 (4 * aT A + 3) = (nI (Db ++ Da).length) := by rw [ezg26, gs_n _ _ _ (by decide)]; exact s3zg25
                                            have rwzg26 : lRow ((Db ++ Da).map tqO) (Db ++ Da).length (fun k => zg26 92 (200 * aT A + k)) := by rw [ezg26, gs_n _ _ _ (by decide)]; exact rwzg25
                                            refine xj_iload_n (n := 1) (i := 1) 1 rfl rfl dX12_text_144 ?_
                                            refine xj_if_ne (tgt := 156) (by decide) dX12_text_145 (fun zc145 => ?_) (fun zc145 => ?_)
                                            · exact absurd zc145 (fun z => z rfl)
                                            · refine xj_bipush (v := (-100)) (by decide) dX12_text_148 ?_
                                              refine xj_aload_n (n := 0) (i := 0) 2 rfl rfl dX12_text_150 ?_
                                              refine yj_getf (v := .int (nI (stP b (aZ A) (nxP b (aZ A) jb)))) fl_X12_113_12 (by omega) (fq_86 zg26) (congrArg (fun z => some (Value.int z)) t22zg26) dX12_text_151 ?_
                                              refine xj_isub dX12_text_154 ?_
                                              exact xj_ireturn rfl (nr_i _) (Nat.zero_le _) (Nat.zero_le _) dX12_text_155 (qI_e ⟨by rw [hr]; show _ = -100 - nI (stP (A 30) (aZ A) (nxP b (aZ A) jb)); rw [← (tk_cg hcg (nxP b (aZ A) jb)).1], by rw [hr, hl, ezg26]; exact C.txF fzg25, by rw [ezg26]; exact (fT_mX fzg25).gs (by unfold mX; omega) 8 0⟩)
                                          · exact absurd (by decide) zc102
                                        · exact absurd (by decide) zc28
                                      · exact absurd (by decide) zc79
                                    · refine xj_aload_n (n := 0) (i := 0) 2 rfl rfl dX12_text_47 ?_
                                      refine yj_getf (v := .int (tkP b (aZ A) (nxP b (aZ A) jb) - 256)) fl_X12_119_12 (by omega) (fq_86 zg23) (congrArg (fun z => some (Value.int z)) (hf2 zc44)) dX12_text_48 ?_
                                      refine xj_iload_n (n := 2) (i := 2) 0 rfl rfl dX12_text_51 ?_
                                      refine xj_icmp_ne (tgt := 59) (by decide) dX12_text_52 (fun zc52 => ?_) (fun zc52 => ?_)
                                      · have hno : ¬ tkP b (aZ A) (nxP b (aZ A) jb) = nI (256 + 2) := fun y => zc52 ((tk_256 2 (by decide) _ hin2).2 y).2
                                        have hW : waF b (aZ A) 3 0 0 = (false, (nxP b (aZ A) jb), [Da, Db]) := waF_s ea (waF_s eb (waF_f (if_neg hno)))
                                        have hwA : waA A = (false, (nxP b (aZ A) jb), _) := hwa.symm.trans hW
                                        have hr : rText A = (-100 - nI (stP (A 30) (aZ A) (nxP b (aZ A) jb)), gs A 0 5 0) := by show (if aT A = 6 then _ else if (waA A).1 = true then _ else (-100 - nI (stP (A 30) (aZ A) (waA A).2.1), gs A 0 5 0)) = _; rw [if_neg h6, hwA, if_neg Bool.false_ne_true]
                                        have hl : txL A Λ = Λ := by show (if aT A = 6 then Λ else if (waA A).1 = true then _ else Λ) = _; rw [if_neg h6, hwA, if_neg Bool.false_ne_true]
                                        refine xj_iconst (v := 0) (by decide) dX12_text_59 ?_
                                        refine xj_istore_n (n := 1) (i := 1) (lv1 := [(1, .int 0), (2, .int (nI 2)), (0, .ref 86)]) rfl rfl (Nat.le_of_ble_eq_true rfl) dX12_text_60 ?_
                                        refine xj_aload_n (n := 0) (i := 0) 2 rfl rfl dX12_text_61 ?_
                                        refine yj_getf (v := .ref 93) fl_X12_32_12 (by omega) (fq_86 zg23) rfl dX12_text_62 ?_
                                        refine xj_iconst (v := 4) (by decide) dX12_text_65 ?_
                                        refine xj_aload_n (n := 0) (i := 0) 2 rfl rfl dX12_text_66 ?_
                                        refine yj_getf (v := .int (nI (aT A))) fl_X12_100_12 (by omega) (fq_86 zg23) (congrArg (fun z => some (Value.int z)) t11zg23) dX12_text_67 ?_
                                        refine xj_imul dX12_text_70 ?_
                                        refine xj_top (pk_mul 4 (aT A)) ?_
                                        refine xj_iload_n (n := 2) (i := 2) 1 rfl rfl dX12_text_71 ?_
                                        refine xj_iadd dX12_text_72 ?_
                                        refine xj_top (nI_add _ _) ?_
                                        refine xj_aload_n (n := 0) (i := 0) 2 rfl rfl dX12_text_73 ?_
                                        refine yj_getf (v := .int (nI (Db ++ Da).length)) fl_X12_126_12 (by omega) (fq_86 zg23) (congrArg (fun z => some (Value.int z)) t29zg23) dX12_text_74 ?_
                                        refine yj_iastN ((4 * (aT A)) + 2) (by omega) fA_93 rfl (by omega) (by decide) dX12_text_77 ?_
                                        obtain ⟨zg27, ezg27⟩ : ∃ x9, x9 = gs zg23 93 ((4 * (aT A)) + 2) (nI (Db ++ Da).length) := ⟨_, rfl⟩
                                        rw [← ezg27]
                                        have t23zg27 : zg27 86 23 = mtq (tkP b (aZ A) (nxP b (aZ A) jb)) := by rw [ezg27, gs_n _ _ _ (by decide)]; exact hc2
                                        have t11zg27 : zg27 86 11 = nI (aT A) := by rw [ezg27, gs_n _ _ _ (by decide)]; exact t11zg23
                                        have t8zg27 : zg27 86 8 = nI (aZ A) := by rw [ezg27, gs_n _ _ _ (by decide)]; exact t8zg23
                                        have t29zg27 : zg27 86 29 = nI (Db ++ Da).length := by rw [ezg27, gs_n _ _ _ (by decide)]; exact t29zg23
                                        have t21zg27 : zg27 86 21 = nI (nxP b (aZ A) (nxP b (aZ A) jb)) := by rw [ezg27, gs_n _ _ _ (by decide)]; exact hq2
                                        have t22zg27 : zg27 86 22 = nI (stP b (aZ A) (nxP b (aZ A) jb)) := by rw [ezg27, gs_n _ _ _ (by decide)]; exact ha2
                                        have t24zg27 : zg27 86 24 = tkP b (aZ A) (nxP b (aZ A) jb) - 256 := by rw [ezg27, gs_n _ _ _ (by decide)]; exact (hf2 zc44)
                                        have fzg27 : fT (aT A) g zg27 := by rw [ezg27]; exact ffzg23.g93 (by omega) _
                                        have s0zg27 : zg27 93 (4 * aT A + 0) = (nI ([] : List Int32).length) := by rw [ezg27, gs_s, upd_n _ _ (by omega)]; exact s0zg23
                                        have s1zg27 : zg27 93 (4 * aT A + 1) = (nI Da.length) := by rw [ezg27, gs_s, upd_n _ _ (by omega)]; exact s1zg23
                                        have s2zg27 : zg27 93 (4 * aT A + 2) = (nI (Db ++ Da).length) := by rw [ezg27, gs_s, upd_s]
                                        have rwzg27 : lRow ((Db ++ Da).map tqO) (Db ++ Da).length (fun k => zg27 92 (200 * aT A + k)) := by rw [ezg27, gs_n _ _ _ (by decide)]; exact rwzg23
                                        refine xj_iload_n (n := 1) (i := 1) 0 rfl rfl dX12_text_78 ?_
                                        refine xj_if_eq (tgt := 93) (by decide) dX12_text_79 (fun zc79 => ?_) (fun zc79 => ?_)
                                        · refine xj_iconst (v := 0) (by decide) dX12_text_93 ?_
                                          refine xj_istore_n (n := 1) (i := 1) (lv1 := [(1, .int 0), (2, .int (nI 2)), (0, .ref 86)]) rfl rfl (Nat.le_of_ble_eq_true rfl) dX12_text_94 ?_
                                          refine xj_iinc (n := 1) (i := 2) (v := nI 3) (lv1 := [(2, .int (nI 3)), (1, .int 0), (0, .ref 86)]) 1 rfl (nI_1 2) rfl (Nat.le_of_ble_eq_true rfl) dX12_text_95 ?_
                                          refine xj_goto (tgt := 26) (by decide) dX12_text_98 ?_
                                          refine xj_iload_n (n := 2) (i := 2) 0 rfl rfl dX12_text_26 ?_
                                          refine xj_iconst (v := 3) (by decide) dX12_text_27 ?_
                                          refine xj_icmp_ge (tgt := 101) (by decide) dX12_text_28 (fun zc28 => ?_) (fun zc28 => ?_)
                                          · refine xj_iload_n (n := 1) (i := 1) 1 rfl rfl dX12_text_101 ?_
                                            refine xj_if_eq (tgt := 122) (by decide) dX12_text_102 (fun zc102 => ?_) (fun zc102 => ?_)
                                            · refine xj_aload_n (n := 0) (i := 0) 2 rfl rfl dX12_text_122 ?_
                                              refine yj_getf (v := .ref 93) fl_X12_32_12 (by omega) (fq_86 zg27) rfl dX12_text_123 ?_
                                              refine xj_iconst (v := 4) (by decide) dX12_text_126 ?_
                                              refine xj_aload_n (n := 0) (i := 0) 2 rfl rfl dX12_text_127 ?_
                                              refine yj_getf (v := .int (nI (aT A))) fl_X12_100_12 (by omega) (fq_86 zg27) (congrArg (fun z => some (Value.int z)) t11zg27) dX12_text_128 ?_
                                              refine xj_imul dX12_text_131 ?_
                                              refine xj_top (pk_mul 4 (aT A)) ?_
                                              refine xj_iconst (v := 3) (by decide) dX12_text_132 ?_
                                              refine xj_iadd dX12_text_133 ?_
                                              refine xj_top (nI_add (4 * (aT A)) 3) ?_
                                              refine xj_aload_n (n := 0) (i := 0) 2 rfl rfl dX12_text_134 ?_
                                              refine yj_getf (v := .int (nI (Db ++ Da).length)) fl_X12_126_12 (by omega) (fq_86 zg27) (congrArg (fun z => some (Value.int z)) t29zg27) dX12_text_135 ?_
                                              refine yj_iastN ((4 * (aT A)) + 3) (by omega) fA_93 rfl (by omega) (by decide) dX12_text_138 ?_
                                              obtain ⟨zg28, ezg28⟩ : ∃ x9, x9 = gs zg27 93 ((4 * (aT A)) + 3) (nI (Db ++ Da).length) := ⟨_, rfl⟩
                                              rw [← ezg28]
                                              have t23zg28 : zg28 86 23 = mtq (tkP b (aZ A) (nxP b (aZ A) jb)) := by rw [ezg28, gs_n _ _ _ (by decide)]; exact t23zg27
                                              have t11zg28 : zg28 86 11 = nI (aT A) := by rw [ezg28, gs_n _ _ _ (by decide)]; exact t11zg27
                                              have t8zg28 : zg28 86 8 = nI (aZ A) := by rw [ezg28, gs_n _ _ _ (by decide)]; exact t8zg27
                                              have t29zg28 : zg28 86 29 = nI (Db ++ Da).length := by rw [ezg28, gs_n _ _ _ (by decide)]; exact t29zg27
                                              have t21zg28 : zg28 86 21 = nI (nxP b (aZ A) (nxP b (aZ A) jb)) := by rw [ezg28, gs_n _ _ _ (by decide)]; exact t21zg27
                                              have t22zg28 : zg28 86 22 = nI (stP b (aZ A) (nxP b (aZ A) jb)) := by rw [ezg28, gs_n _ _ _ (by decide)]; exact t22zg27
                                              have t24zg28 : zg28 86 24 = tkP b (aZ A) (nxP b (aZ A) jb) - 256 := by rw [ezg28, gs_n _ _ _ (by decide)]; exact t24zg27
                                              have fzg28 : fT (aT A) g zg28 := by rw [ezg28]; exact fzg27.g93 (by omega) _
                                              have s0zg28 : zg28 93 (4 * aT A + 0) = (nI ([] : List Int32).length) := by rw [ezg28, gs_s, upd_n _ _ (by omega)]; exact s0zg27
                                              have s1zg28 : zg28 93 (4 * aT A + 1) = (nI Da.length) := by rw [ezg28, gs_s, upd_n _ _ (by omega)]; exact s1zg27
                                              have s2zg28 : zg28 93 (4 * aT A + 2) = (nI (Db ++ Da).length) := by rw [ezg28, gs_s, upd_n _ _ (by omega)]; exact s2zg27
                                              have s3zg28 : zg28 93 (4 * aT A + 3) = (nI (Db ++ Da).length) := by rw [ezg28, gs_s, upd_s]
                                              have rwzg28 : lRow ((Db ++ Da).map tqO) (Db ++ Da).length (fun k => zg28 92 (200 * aT A + k)) := by rw [ezg28, gs_n _ _ _ (by decide)]; exact rwzg27
                                              refine xj_aload_n (n := 0) (i := 0) 2 rfl rfl dX12_text_139 ?_
                                              refine xj_iconst (v := 0) (by decide) dX12_text_140 ?_
                                              refine yj_puti fl_X12_83_12 (by omega) fS_86_8 (fi_i _) dX12_text_141 ?_
                                              obtain ⟨zg29, ezg29⟩ : ∃ x9, x9 = gs zg28 86 8 0 := ⟨_, rfl⟩
                                              rw [← ezg29]
                                              have t23zg29 : zg29 86 23 = mtq (tkP b (aZ A) (nxP b (aZ A) jb)) := by rw [ezg29, gs_s, upd_n _ _ (by decide)]; exact t23zg28
                                              have t11zg29 : zg29 86 11 = nI (aT A) := by rw [ezg29, gs_s, upd_n _ _ (by decide)]; exact t11zg28
                                              have t29zg29 : zg29 86 29 = nI (Db ++ Da).length := by rw [ezg29, gs_s, upd_n _ _ (by decide)]; exact t29zg28
                                              have t21zg29 : zg29 86 21 = nI (nxP b (aZ A) (nxP b (aZ A) jb)) := by rw [ezg29, gs_s, upd_n _ _ (by decide)]; exact t21zg28
                                              have t22zg29 : zg29 86 22 = nI (stP b (aZ A) (nxP b (aZ A) jb)) := by rw [ezg29, gs_s, upd_n _ _ (by decide)]; exact t22zg28
                                              have t24zg29 : zg29 86 24 = tkP b (aZ A) (nxP b (aZ A) jb) - 256 := by rw [ezg29, gs_s, upd_n _ _ (by decide)]; exact t24zg28
                                              have t8zg29 : zg29 86 8 = 0 := by rw [ezg29, gs_s, upd_s]
                                              have s0zg29 : zg29 93 (4 * aT A + 0) = (nI ([] : List Int32).length) := by rw [ezg29, gs_n _ _ _ (by decide)]; exact s0zg28
                                              have s1zg29 : zg29 93 (4 * aT A + 1) = (nI Da.length) := by rw [ezg29, gs_n _ _ _ (by decide)]; exact s1zg28
                                              have s2zg29 : zg29 93 (4 * aT A + 2) = (nI (Db ++ Da).length) := by rw [ezg29, gs_n _ _ _ (by decide)]; exact s2zg28
                                              have s3zg29 : zg29 93 (4 * aT A + 3) = (nI (Db ++ Da).length) := by rw [ezg29, gs_n _ _ _ (by decide)]; exact s3zg28
                                              have rwzg29 : lRow ((Db ++ Da).map tqO) (Db ++ Da).length (fun k => zg29 92 (200 * aT A + k)) := by rw [ezg29, gs_n _ _ _ (by decide)]; exact rwzg28
                                              refine xj_iload_n (n := 1) (i := 1) 1 rfl rfl dX12_text_144 ?_
                                              refine xj_if_ne (tgt := 156) (by decide) dX12_text_145 (fun zc145 => ?_) (fun zc145 => ?_)
                                              · exact absurd zc145 (fun z => z rfl)
                                              · refine xj_bipush (v := (-100)) (by decide) dX12_text_148 ?_
                                                refine xj_aload_n (n := 0) (i := 0) 2 rfl rfl dX12_text_150 ?_
                                                refine yj_getf (v := .int (nI (stP b (aZ A) (nxP b (aZ A) jb)))) fl_X12_113_12 (by omega) (fq_86 zg29) (congrArg (fun z => some (Value.int z)) t22zg29) dX12_text_151 ?_
                                                refine xj_isub dX12_text_154 ?_
                                                exact xj_ireturn rfl (nr_i _) (Nat.zero_le _) (Nat.zero_le _) dX12_text_155 (qI_e ⟨by rw [hr]; show _ = -100 - nI (stP (A 30) (aZ A) (nxP b (aZ A) jb)); rw [← (tk_cg hcg (nxP b (aZ A) jb)).1], by rw [hr, hl, ezg29]; exact C.txF fzg28, by rw [ezg29]; exact (fT_mX fzg28).gs (by unfold mX; omega) 8 0⟩)
                                            · exact absurd (by decide) zc102
                                          · exact absurd (by decide) zc28
                                        · exact absurd (by decide) zc79
                                      · have htk2 : tkP b (aZ A) (nxP b (aZ A) jb) = nI (256 + 2) := (tk_256 2 (by decide) _ hin2).1 zc44 zc52
                                        have hlt2 : (nxP b (aZ A) jb) < nxP b (aZ A) (nxP b (aZ A) jb) := hnx2.2.2 (by rw [htk2]; decide)
                                        refine xj_iconst (v := 1) (by decide) dX12_text_55 ?_
                                        refine xj_goto (tgt := 60) (by decide) dX12_text_56 ?_
                                        refine xj_istore_n (n := 1) (i := 1) (lv1 := [(1, .int 1), (2, .int (nI 2)), (0, .ref 86)]) rfl rfl (Nat.le_of_ble_eq_true rfl) dX12_text_60 ?_
                                        refine xj_aload_n (n := 0) (i := 0) 2 rfl rfl dX12_text_61 ?_
                                        refine yj_getf (v := .ref 93) fl_X12_32_12 (by omega) (fq_86 zg23) rfl dX12_text_62 ?_
                                        refine xj_iconst (v := 4) (by decide) dX12_text_65 ?_
                                        refine xj_aload_n (n := 0) (i := 0) 2 rfl rfl dX12_text_66 ?_
                                        refine yj_getf (v := .int (nI (aT A))) fl_X12_100_12 (by omega) (fq_86 zg23) (congrArg (fun z => some (Value.int z)) t11zg23) dX12_text_67 ?_
                                        refine xj_imul dX12_text_70 ?_
                                        refine xj_top (pk_mul 4 (aT A)) ?_
                                        refine xj_iload_n (n := 2) (i := 2) 1 rfl rfl dX12_text_71 ?_
                                        refine xj_iadd dX12_text_72 ?_
                                        refine xj_top (nI_add _ _) ?_
                                        refine xj_aload_n (n := 0) (i := 0) 2 rfl rfl dX12_text_73 ?_
                                        refine yj_getf (v := .int (nI (Db ++ Da).length)) fl_X12_126_12 (by omega) (fq_86 zg23) (congrArg (fun z => some (Value.int z)) t29zg23) dX12_text_74 ?_
                                        refine yj_iastN ((4 * (aT A)) + 2) (by omega) fA_93 rfl (by omega) (by decide) dX12_text_77 ?_
                                        obtain ⟨zg30, ezg30⟩ : ∃ x9, x9 = gs zg23 93 ((4 * (aT A)) + 2) (nI (Db ++ Da).length) := ⟨_, rfl⟩
                                        rw [← ezg30]
                                        have t23zg30 : zg30 86 23 = mtq (tkP b (aZ A) (nxP b (aZ A) jb)) := by rw [ezg30, gs_n _ _ _ (by decide)]; exact hc2
                                        have t11zg30 : zg30 86 11 = nI (aT A) := by rw [ezg30, gs_n _ _ _ (by decide)]; exact t11zg23
                                        have t8zg30 : zg30 86 8 = nI (aZ A) := by rw [ezg30, gs_n _ _ _ (by decide)]; exact t8zg23
                                        have t29zg30 : zg30 86 29 = nI (Db ++ Da).length := by rw [ezg30, gs_n _ _ _ (by decide)]; exact t29zg23
                                        have t21zg30 : zg30 86 21 = nI (nxP b (aZ A) (nxP b (aZ A) jb)) := by rw [ezg30, gs_n _ _ _ (by decide)]; exact hq2
                                        have t22zg30 : zg30 86 22 = nI (stP b (aZ A) (nxP b (aZ A) jb)) := by rw [ezg30, gs_n _ _ _ (by decide)]; exact ha2
                                        have t24zg30 : zg30 86 24 = tkP b (aZ A) (nxP b (aZ A) jb) - 256 := by rw [ezg30, gs_n _ _ _ (by decide)]; exact (hf2 zc44)
                                        have fzg30 : fT (aT A) g zg30 := by rw [ezg30]; exact ffzg23.g93 (by omega) _
                                        have s0zg30 : zg30 93 (4 * aT A + 0) = (nI ([] : List Int32).length) := by rw [ezg30, gs_s, upd_n _ _ (by omega)]; exact s0zg23
                                        have s1zg30 : zg30 93 (4 * aT A + 1) = (nI Da.length) := by rw [ezg30, gs_s, upd_n _ _ (by omega)]; exact s1zg23
                                        have s2zg30 : zg30 93 (4 * aT A + 2) = (nI (Db ++ Da).length) := by rw [ezg30, gs_s, upd_s]
                                        have rwzg30 : lRow ((Db ++ Da).map tqO) (Db ++ Da).length (fun k => zg30 92 (200 * aT A + k)) := by rw [ezg30, gs_n _ _ _ (by decide)]; exact rwzg23
                                        refine xj_iload_n (n := 1) (i := 1) 0 rfl rfl dX12_text_78 ?_
                                        refine xj_if_eq (tgt := 93) (by decide) dX12_text_79 (fun zc79 => ?_) (fun zc79 => ?_)
                                        · exact absurd zc79 (by decide)
                                        · refine xj_aload_n (n := 0) (i := 0) 2 rfl rfl dX12_text_82 ?_
                                          have hlc2 : (Db ++ Da).length ≤ nxP b (aZ A) (nxP b (aZ A) jb) := by omega
                                          refine xj_callV kv_X12_162 (c_X12_eRead l (d + 0) n hn zg30 (aT A) hT5 (Db ++ Da) b (aZ A) hz ((fzg30.1 91 (by decide) (by decide) (by decide) (by decide)).trans hb) t8zg30 (fun k hk => by rw [fzg30.1 101 (by decide) (by decide) (by decide) (by decide)]; exact C.2.2.2.2.2.2 k hk) (nxP b (aZ A) (nxP b (aZ A) jb)) hnx2.2.1 t21zg30 hlc2 t29zg30 t11zg30 rwzg30) (As := []) (st := []) (by omega) (fq_86 zg30) (ci := 12) rfl rfl rfl rfl (xRm_of (by omega) (by decide) (by omega) (by omega)) (Nat.le_of_ble_eq_true rfl) dX12_text_83 (yk_i (kc := 0) (ks := 0) fun zv31 zg32 hzg32 => ?_)
                                          obtain ⟨hEc, hvc, hjc, hbc, hqc, hokc⟩ := hzg32
                                          have ffzg32 : fT (aT A) g zg32 := fzg30.tr hEc.fT
                                          have t11zg32 : zg32 86 11 = nI (aT A) := (hEc.2.1 11 (by unfold eX; omega)).trans t11zg30
                                          have t8zg32 : zg32 86 8 = nI (aZ A) := (hEc.2.1 8 (by unfold eX; omega)).trans t8zg30
                                          have s0zg32 : zg32 93 (4 * aT A + 0) = (nI ([] : List Int32).length) := by rw [hEc.1 93 (by decide) (by decide) (by decide)]; exact s0zg30
                                          have s1zg32 : zg32 93 (4 * aT A + 1) = (nI Da.length) := by rw [hEc.1 93 (by decide) (by decide) (by decide)]; exact s1zg30
                                          have s2zg32 : zg32 93 (4 * aT A + 2) = (nI (Db ++ Da).length) := by rw [hEc.1 93 (by decide) (by decide) (by decide)]; exact s2zg30
                                          by_cases hR : (rnM b (aZ A) (true, true, [], 0, []) (nxP b (aZ A) (nxP b (aZ A) jb))).1 = true
                                          · obtain ⟨jc, Dc, eRc⟩ : ∃ j D, (rnM b (aZ A) (true, true, [], 0, []) (nxP b (aZ A) (nxP b (aZ A) jb))) = (true, j, D) := ⟨_, _, mR_ext hR rfl rfl⟩
                                            obtain ⟨hLc, h29c, hrwc⟩ := hokc hR
                                            rw [eRc] at hvc hjc hbc hqc hLc h29c hrwc
                                            have ec : paF b (aZ A) 2 (nxP b (aZ A) jb) = (true, jc, Dc) := (if_pos htk2).trans eRc
                                            have hVc := rnM_V eRc
                                            have hLc : (Dc ++ (Db ++ Da)).length ≤ jc := hLc
                                            have hjc : jc ≤ aZ A := hjc
                                            have hKc := nxP_b b hjc
                                            rw [hvc, bI_t rfl]
                                            refine xj_if_eq (tgt := 93) (by decide) dX12_text_86 (fun zc86 => ?_) (fun zc86 => ?_)
                                            · exact absurd zc86 (by decide)
                                            · refine xj_iconst (v := 1) (by decide) dX12_text_89 ?_
                                              refine xj_goto (tgt := 94) (by decide) dX12_text_90 ?_
                                              refine xj_istore_n (n := 1) (i := 1) (lv1 := [(1, .int 1), (2, .int (nI 2)), (0, .ref 86)]) rfl rfl (Nat.le_of_ble_eq_true rfl) dX12_text_94 ?_
                                              refine xj_iinc (n := 1) (i := 2) (v := nI 3) (lv1 := [(2, .int (nI 3)), (1, .int 1), (0, .ref 86)]) 1 rfl (nI_1 2) rfl (Nat.le_of_ble_eq_true rfl) dX12_text_95 ?_
                                              refine xj_goto (tgt := 26) (by decide) dX12_text_98 ?_
                                              refine xj_iload_n (n := 2) (i := 2) 0 rfl rfl dX12_text_26 ?_
                                              refine xj_iconst (v := 3) (by decide) dX12_text_27 ?_
                                              refine xj_icmp_ge (tgt := 101) (by decide) dX12_text_28 (fun zc28 => ?_) (fun zc28 => ?_)
                                              · refine xj_iload_n (n := 1) (i := 1) 1 rfl rfl dX12_text_101 ?_
                                                refine xj_if_eq (tgt := 122) (by decide) dX12_text_102 (fun zc102 => ?_) (fun zc102 => ?_)
                                                · exact absurd zc102 (by decide)
                                                · refine xj_aload_n (n := 0) (i := 0) 2 rfl rfl dX12_text_105 ?_
                                                  refine xj_callV kv_X12_149 (c_X12_next l (d + 1) n hn zg32 b (aZ A) hz ((ffzg32.1 91 (by decide) (by decide) (by decide) (by decide)).trans hb) t8zg32 (fun k hk => by rw [ffzg32.1 101 (by decide) (by decide) (by decide) (by decide)]; exact C.2.2.2.2.2.2 k hk) (nxP b (aZ A) jc) hKc.2.1 hqc) (As := []) (st := []) (by omega) (fq_86 zg32) (ci := 12) rfl rfl rfl rfl (xRm_of (by omega) (by decide) (by omega) (by omega)) (Nat.le_of_ble_eq_true rfl) dX12_text_106 (yk_v (kc := 0) (ks := 0) fun zg33 hzg33 => ?_)
                                                  obtain ⟨hnf3, ha3, hq3, hc3, hd3, he3, hf3⟩ := hzg33
                                                  have ffzg33 : fT (aT A) g zg33 := ffzg32.tr (hnf3.fe (aT A)).fT
                                                  have t11zg33 : zg33 86 11 = nI (aT A) := (hnf3.2 11 (by omega)).trans t11zg32
                                                  have t8zg33 : zg33 86 8 = nI (aZ A) := (hnf3.2 8 (by omega)).trans t8zg32
                                                  have t29zg33 : zg33 86 29 = nI (Dc ++ (Db ++ Da)).length := (hnf3.2 29 (by omega)).trans h29c
                                                  have rwzg33 : lRow ((Dc ++ (Db ++ Da)).map tqO) (Dc ++ (Db ++ Da)).length (fun k => zg33 92 (200 * aT A + k)) := by rw [hnf3.1 92 (by decide)]; exact hrwc
                                                  have s0zg33 : zg33 93 (4 * aT A + 0) = (nI ([] : List Int32).length) := by rw [hnf3.1 93 (by decide)]; exact s0zg32
                                                  have s1zg33 : zg33 93 (4 * aT A + 1) = (nI Da.length) := by rw [hnf3.1 93 (by decide)]; exact s1zg32
                                                  have s2zg33 : zg33 93 (4 * aT A + 2) = (nI (Db ++ Da).length) := by rw [hnf3.1 93 (by decide)]; exact s2zg32
                                                  have hin3 := tk_in b (aZ A) (nxP b (aZ A) jc)
                                                  have hnx3 := nxP_b b (z := aZ A) (i := (nxP b (aZ A) jc)) hKc.2.1
                                                  refine xj_aload_n (n := 0) (i := 0) 2 rfl rfl dX12_text_109 ?_
                                                  refine yj_getf (v := .int (mtq (tkP b (aZ A) (nxP b (aZ A) jc)))) fl_X12_116_12 (by omega) (fq_86 zg33) (congrArg (fun z => some (Value.int z)) hc3) dX12_text_110 ?_
                                                  refine xj_if_ne (tgt := 120) (by decide) dX12_text_113 (fun zc113 => ?_) (fun zc113 => ?_)
                                                  · have hW : waF b (aZ A) 3 0 0 = (false, (nxP b (aZ A) jc), [Da, Db, Dc]) := waF_s ea (waF_s eb (waF_s ec (show waF b (aZ A) 0 3 (nxP b (aZ A) jc) = (false, (nxP b (aZ A) jc), []) from by rw [waF_0, decide_eq_false (fun y => zc113 ((mtq_t _ hin3).1.mpr y))])))
                                                    have hwA : waA A = (false, (nxP b (aZ A) jc), _) := hwa.symm.trans hW
                                                    have hr : rText A = (-100 - nI (stP (A 30) (aZ A) (nxP b (aZ A) jc)), gs A 0 5 0) := by show (if aT A = 6 then _ else if (waA A).1 = true then _ else (-100 - nI (stP (A 30) (aZ A) (waA A).2.1), gs A 0 5 0)) = _; rw [if_neg h6, hwA, if_neg Bool.false_ne_true]
                                                    have hl : txL A Λ = Λ := by show (if aT A = 6 then Λ else if (waA A).1 = true then _ else Λ) = _; rw [if_neg h6, hwA, if_neg Bool.false_ne_true]
                                                    refine xj_iconst (v := 0) (by decide) dX12_text_120 ?_
                                                    refine xj_istore_n (n := 1) (i := 1) (lv1 := [(1, .int 0), (2, .int (nI 3)), (0, .ref 86)]) rfl rfl (Nat.le_of_ble_eq_true rfl) dX12_text_121 ?_
                                                    refine xj_aload_n (n := 0) (i := 0) 2 rfl rfl dX12_text_122 ?_
                                                    refine yj_getf (v := .ref 93) fl_X12_32_12 (by omega) (fq_86 zg33) rfl dX12_text_123 ?_
                                                    refine xj_iconst (v := 4) (by decide) dX12_text_126 ?_
                                                    refine xj_aload_n (n := 0) (i := 0) 2 rfl rfl dX12_text_127 ?_
                                                    refine yj_getf (v := .int (nI (aT A))) fl_X12_100_12 (by omega) (fq_86 zg33) (congrArg (fun z => some (Value.int z)) t11zg33) dX12_text_128 ?_
                                                    refine xj_imul dX12_text_131 ?_
                                                    refine xj_top (pk_mul 4 (aT A)) ?_
                                                    refine xj_iconst (v := 3) (by decide) dX12_text_132 ?_
                                                    refine xj_iadd dX12_text_133 ?_
                                                    refine xj_top (nI_add (4 * (aT A)) 3) ?_
                                                    refine xj_aload_n (n := 0) (i := 0) 2 rfl rfl dX12_text_134 ?_
                                                    refine yj_getf (v := .int (nI (Dc ++ (Db ++ Da)).length)) fl_X12_126_12 (by omega) (fq_86 zg33) (congrArg (fun z => some (Value.int z)) t29zg33) dX12_text_135 ?_
                                                    refine yj_iastN ((4 * (aT A)) + 3) (by omega) fA_93 rfl (by omega) (by decide) dX12_text_138 ?_
                                                    obtain ⟨zg34, ezg34⟩ : ∃ x9, x9 = gs zg33 93 ((4 * (aT A)) + 3) (nI (Dc ++ (Db ++ Da)).length) := ⟨_, rfl⟩
                                                    rw [← ezg34]
                                                    have t23zg34 : zg34 86 23 = mtq (tkP b (aZ A) (nxP b (aZ A) jc)) := by rw [ezg34, gs_n _ _ _ (by decide)]; exact hc3
                                                    have t11zg34 : zg34 86 11 = nI (aT A) := by rw [ezg34, gs_n _ _ _ (by decide)]; exact t11zg33
                                                    have t8zg34 : zg34 86 8 = nI (aZ A) := by rw [ezg34, gs_n _ _ _ (by decide)]; exact t8zg33
                                                    have t29zg34 : zg34 86 29 = nI (Dc ++ (Db ++ Da)).length := by rw [ezg34, gs_n _ _ _ (by decide)]; exact t29zg33
                                                    have t21zg34 : zg34 86 21 = nI (nxP b (aZ A) (nxP b (aZ A) jc)) := by rw [ezg34, gs_n _ _ _ (by decide)]; exact hq3
                                                    have t22zg34 : zg34 86 22 = nI (stP b (aZ A) (nxP b (aZ A) jc)) := by rw [ezg34, gs_n _ _ _ (by decide)]; exact ha3
                                                    have fzg34 : fT (aT A) g zg34 := by rw [ezg34]; exact ffzg33.g93 (by omega) _
                                                    have s0zg34 : zg34 93 (4 * aT A + 0) = (nI ([] : List Int32).length) := by rw [ezg34, gs_s, upd_n _ _ (by omega)]; exact s0zg33
                                                    have s1zg34 : zg34 93 (4 * aT A + 1) = (nI Da.length) := by rw [ezg34, gs_s, upd_n _ _ (by omega)]; exact s1zg33
                                                    have s2zg34 : zg34 93 (4 * aT A + 2) = (nI (Db ++ Da).length) := by rw [ezg34, gs_s, upd_n _ _ (by omega)]; exact s2zg33
                                                    have s3zg34 : zg34 93 (4 * aT A + 3) = (nI (Dc ++ (Db ++ Da)).length) := by rw [ezg34, gs_s, upd_s]
                                                    have rwzg34 : lRow ((Dc ++ (Db ++ Da)).map tqO) (Dc ++ (Db ++ Da)).length (fun k => zg34 92 (200 * aT A + k)) := by rw [ezg34, gs_n _ _ _ (by decide)]; exact rwzg33
                                                    refine xj_aload_n (n := 0) (i := 0) 2 rfl rfl dX12_text_139 ?_
                                                    refine xj_iconst (v := 0) (by decide) dX12_text_140 ?_
                                                    refine yj_puti fl_X12_83_12 (by omega) fS_86_8 (fi_i _) dX12_text_141 ?_
                                                    obtain ⟨zg35, ezg35⟩ : ∃ x9, x9 = gs zg34 86 8 0 := ⟨_, rfl⟩
                                                    rw [← ezg35]
                                                    have t23zg35 : zg35 86 23 = mtq (tkP b (aZ A) (nxP b (aZ A) jc)) := by rw [ezg35, gs_s, upd_n _ _ (by decide)]; exact t23zg34
                                                    have t11zg35 : zg35 86 11 = nI (aT A) := by rw [ezg35, gs_s, upd_n _ _ (by decide)]; exact t11zg34
                                                    have t29zg35 : zg35 86 29 = nI (Dc ++ (Db ++ Da)).length := by rw [ezg35, gs_s, upd_n _ _ (by decide)]; exact t29zg34
                                                    have t21zg35 : zg35 86 21 = nI (nxP b (aZ A) (nxP b (aZ A) jc)) := by rw [ezg35, gs_s, upd_n _ _ (by decide)]; exact t21zg34
                                                    have t22zg35 : zg35 86 22 = nI (stP b (aZ A) (nxP b (aZ A) jc)) := by rw [ezg35, gs_s, upd_n _ _ (by decide)]; exact t22zg34
                                                    have t8zg35 : zg35 86 8 = 0 := by rw [ezg35, gs_s, upd_s]
                                                    have s0zg35 : zg35 93 (4 * aT A + 0) = (nI ([] : List Int32).length) := by rw [ezg35, gs_n _ _ _ (by decide)]; exact s0zg34
                                                    have s1zg35 : zg35 93 (4 * aT A + 1) = (nI Da.length) := by rw [ezg35, gs_n _ _ _ (by decide)]; exact s1zg34
                                                    have s2zg35 : zg35 93 (4 * aT A + 2) = (nI (Db ++ Da).length) := by rw [ezg35, gs_n _ _ _ (by decide)]; exact s2zg34
                                                    have s3zg35 : zg35 93 (4 * aT A + 3) = (nI (Dc ++ (Db ++ Da)).length) := by rw [ezg35, gs_n _ _ _ (by decide)]; exact s3zg34
                                                    have rwzg35 : lRow ((Dc ++ (Db ++ Da)).map tqO) (Dc ++ (Db ++ Da)).length (fun k => zg35 92 (200 * aT A + k)) := by rw [ezg35, gs_n _ _ _ (by decide)]; exact rwzg34
                                                    refine xj_iload_n (n := 1) (i := 1) 0 rfl rfl dX12_text_144 ?_
                                                    refine xj_if_ne (tgt := 156) (by decide) dX12_text_145 (fun zc145 => ?_) (fun zc145 => ?_)
                                                    · exact absurd zc145 (fun z => z rfl)
                                                    · refine xj_bipush (v := (-100)) (by decide) dX12_text_148 ?_
                                                      refine xj_aload_n (n := 0) (i := 0) 2 rfl rfl dX12_text_150 ?_
                                                      refine yj_getf (v := .int (nI (stP b (aZ A) (nxP b (aZ A) jc)))) fl_X12_113_12 (by omega) (fq_86 zg35) (congrArg (fun z => some (Value.int z)) t22zg35) dX12_text_151 ?_
                                                      refine xj_isub dX12_text_154 ?_
                                                      exact xj_ireturn rfl (nr_i _) (Nat.zero_le _) (Nat.zero_le _) dX12_text_155 (qI_e ⟨by rw [hr]; show _ = -100 - nI (stP (A 30) (aZ A) (nxP b (aZ A) jc)); rw [← (tk_cg hcg (nxP b (aZ A) jc)).1], by rw [hr, hl, ezg35]; exact C.txF fzg34, by rw [ezg35]; exact (fT_mX fzg34).gs (by unfold mX; omega) 8 0⟩)
                                                  · have hW : waF b (aZ A) 3 0 0 = (true, (nxP b (aZ A) jc), [Da, Db, Dc]) := waF_s ea (waF_s eb (waF_s ec (show waF b (aZ A) 0 3 (nxP b (aZ A) jc) = (true, (nxP b (aZ A) jc), []) from by rw [waF_0, decide_eq_true ((mtq_t _ hin3).1.mp zc113)])))
                                                    have hwA : waA A = (true, (nxP b (aZ A) jc), [Da, Db, Dc]) := hwa.symm.trans hW
                                                    have hr : rText A = (nI (aT A), gs (gs A 0 5 0) 0 3 (nI (aT A + 1))) := by show (if aT A = 6 then _ else if (waA A).1 = true then _ else _) = _; rw [if_neg h6, hwA, if_pos rfl]
                                                    have hl : txL A Λ = fun t => if t = aT A then saidL [Da, Db, Dc] else Λ t := by show (if aT A = 6 then Λ else if (waA A).1 = true then (fun t => if t = aT A then saidL (waA A).2.2 else Λ t) else Λ) = _; rw [if_neg h6, hwA, if_pos rfl]
                                                    refine xj_iconst (v := 1) (by decide) dX12_text_116 ?_
                                                    refine xj_goto (tgt := 121) (by decide) dX12_text_117 ?_
                                                    refine xj_istore_n (n := 1) (i := 1) (lv1 := [(1, .int 1), (2, .int (nI 3)), (0, .ref 86)]) rfl rfl (Nat.le_of_ble_eq_true rfl) dX12_text_121 ?_
                                                    refine xj_aload_n (n := 0) (i := 0) 2 rfl rfl dX12_text_122 ?_
                                                    refine yj_getf (v := .ref 93) fl_X12_32_12 (by omega) (fq_86 zg33) rfl dX12_text_123 ?_
                                                    refine xj_iconst (v := 4) (by decide) dX12_text_126 ?_
                                                    refine xj_aload_n (n := 0) (i := 0) 2 rfl rfl dX12_text_127 ?_
                                                    refine yj_getf (v := .int (nI (aT A))) fl_X12_100_12 (by omega) (fq_86 zg33) (congrArg (fun z => some (Value.int z)) t11zg33) dX12_text_128 ?_
                                                    refine xj_imul dX12_text_131 ?_
                                                    refine xj_top (pk_mul 4 (aT A)) ?_
                                                    refine xj_iconst (v := 3) (by decide) dX12_text_132 ?_
                                                    refine xj_iadd dX12_text_133 ?_
                                                    refine xj_top (nI_add (4 * (aT A)) 3) ?_
                                                    refine xj_aload_n (n := 0) (i := 0) 2 rfl rfl dX12_text_134 ?_
                                                    refine yj_getf (v := .int (nI (Dc ++ (Db ++ Da)).length)) fl_X12_126_12 (by omega) (fq_86 zg33) (congrArg (fun z => some (Value.int z)) t29zg33) dX12_text_135 ?_
                                                    refine yj_iastN ((4 * (aT A)) + 3) (by omega) fA_93 rfl (by omega) (by decide) dX12_text_138 ?_
                                                    obtain ⟨zg36, ezg36⟩ : ∃ x9, x9 = gs zg33 93 ((4 * (aT A)) + 3) (nI (Dc ++ (Db ++ Da)).length) := ⟨_, rfl⟩
                                                    rw [← ezg36]
                                                    have t23zg36 : zg36 86 23 = mtq (tkP b (aZ A) (nxP b (aZ A) jc)) := by rw [ezg36, gs_n _ _ _ (by decide)]; exact hc3
                                                    have t11zg36 : zg36 86 11 = nI (aT A) := by rw [ezg36, gs_n _ _ _ (by decide)]; exact t11zg33
                                                    have t8zg36 : zg36 86 8 = nI (aZ A) := by rw [ezg36, gs_n _ _ _ (by decide)]; exact t8zg33
                                                    have t29zg36 : zg36 86 29 = nI (Dc ++ (Db ++ Da)).length := by rw [ezg36, gs_n _ _ _ (by decide)]; exact t29zg33
                                                    have t21zg36 : zg36 86 21 = nI (nxP b (aZ A) (nxP b (aZ A) jc)) := by rw [ezg36, gs_n _ _ _ (by decide)]; exact hq3
                                                    have t22zg36 : zg36 86 22 = nI (stP b (aZ A) (nxP b (aZ A) jc)) := by rw [ezg36, gs_n _ _ _ (by decide)]; exact ha3
                                                    have fzg36 : fT (aT A) g zg36 := by rw [ezg36]; exact ffzg33.g93 (by omega) _
                                                    have s0zg36 : zg36 93 (4 * aT A + 0) = (nI ([] : List Int32).length) := by rw [ezg36, gs_s, upd_n _ _ (by omega)]; exact s0zg33
                                                    have s1zg36 : zg36 93 (4 * aT A + 1) = (nI Da.length) := by rw [ezg36, gs_s, upd_n _ _ (by omega)]; exact s1zg33
                                                    have s2zg36 : zg36 93 (4 * aT A + 2) = (nI (Db ++ Da).length) := by rw [ezg36, gs_s, upd_n _ _ (by omega)]; exact s2zg33
                                                    have s3zg36 : zg36 93 (4 * aT A + 3) = (nI (Dc ++ (Db ++ Da)).length) := by rw [ezg36, gs_s, upd_s]
                                                    have rwzg36 : lRow ((Dc ++ (Db ++ Da)).map tqO) (Dc ++ (Db ++ Da)).length (fun k => zg36 92 (200 * aT A + k)) := by rw [ezg36, gs_n _ _ _ (by decide)]; exact rwzg33
                                                    refine xj_aload_n (n := 0) (i := 0) 2 rfl rfl dX12_text_139 ?_
                                                    refine xj_iconst (v := 0) (by decide) dX12_text_140 ?_
                                                    refine yj_puti fl_X12_83_12 (by omega) fS_86_8 (fi_i _) dX12_text_141 ?_
                                                    obtain ⟨zg37, ezg37⟩ : ∃ x9, x9 = gs zg36 86 8 0 := ⟨_, rfl⟩
                                                    rw [← ezg37]
                                                    have t23zg37 : zg37 86 23 = mtq (tkP b (aZ A) (nxP b (aZ A) jc)) := by rw [ezg37, gs_s, upd_n _ _ (by decide)]; exact t23zg36
                                                    have t11zg37 : zg37 86 11 = nI (aT A) := by rw [ezg37, gs_s, upd_n _ _ (by decide)]; exact t11zg36
                                                    have t29zg37 : zg37 86 29 = nI (Dc ++ (Db ++ Da)).length := by rw [ezg37, gs_s, upd_n _ _ (by decide)]; exact t29zg36
                                                    have t21zg37 : zg37 86 21 = nI (nxP b (aZ A) (nxP b (aZ A) jc)) := by rw [ezg37, gs_s, upd_n _ _ (by decide)]; exact t21zg36
                                                    have t22zg37 : zg37 86 22 = nI (stP b (aZ A) (nxP b (aZ A) jc)) := by rw [ezg37, gs_s, upd_n _ _ (by decide)]; exact t22zg36
                                                    have t8zg37 : zg37 86 8 = 0 := by rw [ezg37, gs_s, upd_s]
                                                    have s0zg37 : zg37 93 (4 * aT A + 0) = (nI ([] : List Int32).length) := by rw [ezg37, gs_n _ _ _ (by decide)]; exact s0zg36
                                                    have s1zg37 : zg37 93 (4 * aT A + 1) = (nI Da.length) := by rw [ezg37, gs_n _ _ _ (by decide)]; exact s1zg36
                                                    have s2zg37 : zg37 93 (4 * aT A + 2) = (nI (Db ++ Da).length) := by rw [ezg37, gs_n _ _ _ (by decide)]; exact s2zg36
                                                    have s3zg37 : zg37 93 (4 * aT A + 3) = (nI (Dc ++ (Db ++ Da)).length) := by rw [ezg37, gs_n _ _ _ (by decide)]; exact s3zg36
                                                    have rwzg37 : lRow ((Dc ++ (Db ++ Da)).map tqO) (Dc ++ (Db ++ Da)).length (fun k => zg37 92 (200 * aT A + k)) := by rw [ezg37, gs_n _ _ _ (by decide)]; exact rwzg36
                                                    refine xj_iload_n (n := 1) (i := 1) 0 rfl rfl dX12_text_144 ?_
                                                    refine xj_if_ne (tgt := 156) (by decide) dX12_text_145 (fun zc145 => ?_) (fun zc145 => ?_)
                                                    · refine xj_aload_n (n := 0) (i := 0) 2 rfl rfl dX12_text_156 ?_
                                                      refine xj_dup rfl dX12_text_157 ?_
                                                      refine yj_getf (v := .int (nI (aT A))) fl_X12_100_12 (by omega) (fq_86 zg37) (congrArg (fun z => some (Value.int z)) t11zg37) dX12_text_158 ?_
                                                      refine xj_iconst (v := 1) (by decide) dX12_text_161 ?_
                                                      refine xj_iadd dX12_text_162 ?_
                                                      refine xj_top (nI_add (aT A) 1) ?_
                                                      refine yj_puti fl_X12_100_12 (by omega) fS_86_11 (fi_i _) dX12_text_163 ?_
                                                      obtain ⟨zg38, ezg38⟩ : ∃ x9, x9 = gs zg37 86 11 (nI ((aT A) + 1)) := ⟨_, rfl⟩
                                                      rw [← ezg38]
                                                      have t23zg38 : zg38 86 23 = mtq (tkP b (aZ A) (nxP b (aZ A) jc)) := by rw [ezg38, gs_s, upd_n _ _ (by decide)]; exact t23zg37
                                                      have t29zg38 : zg38 86 29 = nI (Dc ++ (Db ++ Da)).length := by rw [ezg38, gs_s, upd_n _ _ (by decide)]; exact t29zg37
                                                      have t21zg38 : zg38 86 21 = nI (nxP b (aZ A) (nxP b (aZ A) jc)) := by rw [ezg38, gs_s, upd_n _ _ (by decide)]; exact t21zg37
                                                      have t22zg38 : zg38 86 22 = nI (stP b (aZ A) (nxP b (aZ A) jc)) := by rw [ezg38, gs_s, upd_n _ _ (by decide)]; exact t22zg37
                                                      have t8zg38 : zg38 86 8 = 0 := by rw [ezg38, gs_s, upd_n _ _ (by decide)]; exact t8zg37
                                                      have t11zg38 : zg38 86 11 = (nI ((aT A) + 1)) := by rw [ezg38, gs_s, upd_s]
                                                      refine xj_aload_n (n := 0) (i := 0) 2 rfl rfl dX12_text_166 ?_
                                                      refine yj_getf (v := .int ((nI ((aT A) + 1)))) fl_X12_100_12 (by omega) (fq_86 zg38) (congrArg (fun z => some (Value.int z)) t11zg38) dX12_text_167 ?_
                                                      refine xj_iconst (v := 1) (by decide) dX12_text_170 ?_
                                                      refine xj_isub dX12_text_171 ?_
                                                      exact xj_ireturn rfl (nr_i _) (Nat.zero_le _) (Nat.zero_le _) dX12_text_172 (qI_e ⟨by rw [hr]; exact nI_k1, by rw [hr, hl, ezg38, ezg37]; exact C.txS hT5 fzg36 (mlR_of rwzg36 (by omega) s0zg36 s1zg36 s2zg36 s3zg36 hVa hVb hVc), by rw [ezg38, ezg37]; exact ((fT_mX fzg36).gs (by unfold mX; omega) 8 0).gs (by unfold mX; omega) 11 _⟩)
                                                    · exact absurd zc145 (by decide)
                                              · exact absurd (by decide) zc28
                                          · rw [hvc, bI_f hR]
                                            have hRe : (rnM b (aZ A) (true, true, [], 0, []) (nxP b (aZ A) (nxP b (aZ A) jb))) = (false, (rnM b (aZ A) (true, true, [], 0, []) (nxP b (aZ A) (nxP b (aZ A) jb))).2.1, []) := rnM_n (by rw [Bool.not_eq_true] at hR; exact hR)
                                            have hW : waF b (aZ A) 3 0 0 = (false, (rnM b (aZ A) (true, true, [], 0, []) (nxP b (aZ A) (nxP b (aZ A) jb))).2.1, [Da, Db]) := waF_s ea (waF_s eb (waF_f ((if_pos htk2).trans hRe)))
                                            have hwA : waA A = (false, (rnM b (aZ A) (true, true, [], 0, []) (nxP b (aZ A) (nxP b (aZ A) jb))).2.1, _) := hwa.symm.trans hW
                                            have hr : rText A = (-100 - nI (stP (A 30) (aZ A) (rnM b (aZ A) (true, true, [], 0, []) (nxP b (aZ A) (nxP b (aZ A) jb))).2.1), gs A 0 5 0) := by show (if aT A = 6 then _ else if (waA A).1 = true then _ else (-100 - nI (stP (A 30) (aZ A) (waA A).2.1), gs A 0 5 0)) = _; rw [if_neg h6, hwA, if_neg Bool.false_ne_true]
                                            have hl : txL A Λ = Λ := by show (if aT A = 6 then Λ else if (waA A).1 = true then _ else Λ) = _; rw [if_neg h6, hwA, if_neg Bool.false_ne_true]
                                            refine xj_if_eq (tgt := 93) (by decide) dX12_text_86 (fun zc86 => ?_) (fun zc86 => ?_)
                                            · refine xj_iconst (v := 0) (by decide) dX12_text_93 ?_
                                              refine xj_istore_n (n := 1) (i := 1) (lv1 := [(1, .int 0), (2, .int (nI 2)), (0, .ref 86)]) rfl rfl (Nat.le_of_ble_eq_true rfl) dX12_text_94 ?_
                                              refine xj_iinc (n := 1) (i := 2) (v := nI 3) (lv1 := [(2, .int (nI 3)), (1, .int 0), (0, .ref 86)]) 1 rfl (nI_1 2) rfl (Nat.le_of_ble_eq_true rfl) dX12_text_95 ?_
                                              refine xj_goto (tgt := 26) (by decide) dX12_text_98 ?_
                                              refine xj_iload_n (n := 2) (i := 2) 0 rfl rfl dX12_text_26 ?_
                                              refine xj_iconst (v := 3) (by decide) dX12_text_27 ?_
                                              refine xj_icmp_ge (tgt := 101) (by decide) dX12_text_28 (fun zc28 => ?_) (fun zc28 => ?_)
                                              · refine xj_iload_n (n := 1) (i := 1) 1 rfl rfl dX12_text_101 ?_
                                                refine xj_if_eq (tgt := 122) (by decide) dX12_text_102 (fun zc102 => ?_) (fun zc102 => ?_)
                                                · refine xj_aload_n (n := 0) (i := 0) 2 rfl rfl dX12_text_122 ?_
                                                  refine yj_getf (v := .ref 93) fl_X12_32_12 (by omega) (fq_86 zg32) rfl dX12_text_123 ?_
                                                  refine xj_iconst (v := 4) (by decide) dX12_text_126 ?_
                                                  refine xj_aload_n (n := 0) (i := 0) 2 rfl rfl dX12_text_127 ?_
                                                  refine yj_getf (v := .int (nI (aT A))) fl_X12_100_12 (by omega) (fq_86 zg32) (congrArg (fun z => some (Value.int z)) t11zg32) dX12_text_128 ?_
                                                  refine xj_imul dX12_text_131 ?_
                                                  refine xj_top (pk_mul 4 (aT A)) ?_
                                                  refine xj_iconst (v := 3) (by decide) dX12_text_132 ?_
                                                  refine xj_iadd dX12_text_133 ?_
                                                  refine xj_top (nI_add (4 * (aT A)) 3) ?_
                                                  refine xj_aload_n (n := 0) (i := 0) 2 rfl rfl dX12_text_134 ?_
                                                  refine yj_getf (v := .int (zg32 86 29)) fl_X12_126_12 (by omega) (fq_86 zg32) rfl dX12_text_135 ?_
                                                  refine xj_topi (fun zv39 ezv39 => ?_)
                                                  refine yj_iastN ((4 * (aT A)) + 3) (by omega) fA_93 rfl (by omega) (by decide) dX12_text_138 ?_
                                                  obtain ⟨zg40, ezg40⟩ : ∃ x9, x9 = gs zg32 93 ((4 * (aT A)) + 3) zv39 := ⟨_, rfl⟩
                                                  rw [← ezg40]
                                                  have t11zg40 : zg40 86 11 = nI (aT A) := by rw [ezg40, gs_n _ _ _ (by decide)]; exact t11zg32
                                                  have t8zg40 : zg40 86 8 = nI (aZ A) := by rw [ezg40, gs_n _ _ _ (by decide)]; exact t8zg32
                                                  have t22zg40 : zg40 86 22 = nI (stP b (aZ A) (rnM b (aZ A) (true, true, [], 0, []) (nxP b (aZ A) (nxP b (aZ A) jb))).2.1) := by rw [ezg40, gs_n _ _ _ (by decide)]; exact hbc
                                                  have fzg40 : fT (aT A) g zg40 := by rw [ezg40]; exact ffzg32.g93 (by omega) _
                                                  have s0zg40 : zg40 93 (4 * aT A + 0) = (nI ([] : List Int32).length) := by rw [ezg40, gs_s, upd_n _ _ (by omega)]; exact s0zg32
                                                  have s1zg40 : zg40 93 (4 * aT A + 1) = (nI Da.length) := by rw [ezg40, gs_s, upd_n _ _ (by omega)]; exact s1zg32
                                                  have s2zg40 : zg40 93 (4 * aT A + 2) = (nI (Db ++ Da).length) := by rw [ezg40, gs_s, upd_n _ _ (by omega)]; exact s2zg32
                                                  have s3zg40 : zg40 93 (4 * aT A + 3) = zv39 := by rw [ezg40, gs_s, upd_s]
                                                  refine xj_aload_n (n := 0) (i := 0) 2 rfl rfl dX12_text_139 ?_
                                                  refine xj_iconst (v := 0) (by decide) dX12_text_140 ?_
                                                  refine yj_puti fl_X12_83_12 (by omega) fS_86_8 (fi_i _) dX12_text_141 ?_
                                                  obtain ⟨zg41, ezg41⟩ : ∃ x9, x9 = gs zg40 86 8 0 := ⟨_, rfl⟩
                                                  rw [← ezg41]
                                                  have t11zg41 : zg41 86 11 = nI (aT A) := by rw [ezg41, gs_s, upd_n _ _ (by decide)]; exact t11zg40
                                                  have t22zg41 : zg41 86 22 = nI (stP b (aZ A) (rnM b (aZ A) (true, true, [], 0, []) (nxP b (aZ A) (nxP b (aZ A) jb))).2.1) := by rw [ezg41, gs_s, upd_n _ _ (by decide)]; exact t22zg40
                                                  have t8zg41 : zg41 86 8 = 0 := by rw [ezg41, gs_s, upd_s]
                                                  have s0zg41 : zg41 93 (4 * aT A + 0) = (nI ([] : List Int32).length) := by rw [ezg41, gs_n _ _ _ (by decide)]; exact s0zg40
                                                  have s1zg41 : zg41 93 (4 * aT A + 1) = (nI Da.length) := by rw [ezg41, gs_n _ _ _ (by decide)]; exact s1zg40
                                                  have s2zg41 : zg41 93 (4 * aT A + 2) = (nI (Db ++ Da).length) := by rw [ezg41, gs_n _ _ _ (by decide)]; exact s2zg40
                                                  have s3zg41 : zg41 93 (4 * aT A + 3) = zv39 := by rw [ezg41, gs_n _ _ _ (by decide)]; exact s3zg40
                                                  refine xj_iload_n (n := 1) (i := 1) 1 rfl rfl dX12_text_144 ?_
                                                  refine xj_if_ne (tgt := 156) (by decide) dX12_text_145 (fun zc145 => ?_) (fun zc145 => ?_)
                                                  · exact absurd zc145 (fun z => z rfl)
                                                  · refine xj_bipush (v := (-100)) (by decide) dX12_text_148 ?_
                                                    refine xj_aload_n (n := 0) (i := 0) 2 rfl rfl dX12_text_150 ?_
                                                    refine yj_getf (v := .int (nI (stP b (aZ A) (rnM b (aZ A) (true, true, [], 0, []) (nxP b (aZ A) (nxP b (aZ A) jb))).2.1))) fl_X12_113_12 (by omega) (fq_86 zg41) (congrArg (fun z => some (Value.int z)) t22zg41) dX12_text_151 ?_
                                                    refine xj_isub dX12_text_154 ?_
                                                    exact xj_ireturn rfl (nr_i _) (Nat.zero_le _) (Nat.zero_le _) dX12_text_155 (qI_e ⟨by rw [hr]; show _ = -100 - nI (stP (A 30) (aZ A) (rnM b (aZ A) (true, true, [], 0, []) (nxP b (aZ A) (nxP b (aZ A) jb))).2.1); rw [← (tk_cg hcg (rnM b (aZ A) (true, true, [], 0, []) (nxP b (aZ A) (nxP b (aZ A) jb))).2.1).1], by rw [hr, hl, ezg41]; exact C.txF fzg40, by rw [ezg41]; exact (fT_mX fzg40).gs (by unfold mX; omega) 8 0⟩)
                                                · exact absurd (by decide) zc102
                                              · exact absurd (by decide) zc28
                                            · exact absurd (by decide) zc86
                            · rw [hvb, bI_f hR]
                              have hRe : (rnM b (aZ A) (true, true, [], 0, []) (nxP b (aZ A) (nxP b (aZ A) ja))) = (false, (rnM b (aZ A) (true, true, [], 0, []) (nxP b (aZ A) (nxP b (aZ A) ja))).2.1, []) := rnM_n (by rw [Bool.not_eq_true] at hR; exact hR)
                              have hW : waF b (aZ A) 3 0 0 = (false, (rnM b (aZ A) (true, true, [], 0, []) (nxP b (aZ A) (nxP b (aZ A) ja))).2.1, [Da]) := waF_s ea (waF_f ((if_pos htk1).trans hRe))
                              have hwA : waA A = (false, (rnM b (aZ A) (true, true, [], 0, []) (nxP b (aZ A) (nxP b (aZ A) ja))).2.1, _) := hwa.symm.trans hW
                              have hr : rText A = (-100 - nI (stP (A 30) (aZ A) (rnM b (aZ A) (true, true, [], 0, []) (nxP b (aZ A) (nxP b (aZ A) ja))).2.1), gs A 0 5 0) := by show (if aT A = 6 then _ else if (waA A).1 = true then _ else (-100 - nI (stP (A 30) (aZ A) (waA A).2.1), gs A 0 5 0)) = _; rw [if_neg h6, hwA, if_neg Bool.false_ne_true]
                              have hl : txL A Λ = Λ := by show (if aT A = 6 then Λ else if (waA A).1 = true then _ else Λ) = _; rw [if_neg h6, hwA, if_neg Bool.false_ne_true]
                              refine xj_if_eq (tgt := 93) (by decide) dX12_text_86 (fun zc86 => ?_) (fun zc86 => ?_)
                              · refine xj_iconst (v := 0) (by decide) dX12_text_93 ?_
                                refine xj_istore_n (n := 1) (i := 1) (lv1 := [(1, .int 0), (2, .int (nI 1)), (0, .ref 86)]) rfl rfl (Nat.le_of_ble_eq_true rfl) dX12_text_94 ?_
                                refine xj_iinc (n := 1) (i := 2) (v := nI 2) (lv1 := [(2, .int (nI 2)), (1, .int 0), (0, .ref 86)]) 1 rfl (nI_1 1) rfl (Nat.le_of_ble_eq_true rfl) dX12_text_95 ?_
                                refine xj_goto (tgt := 26) (by decide) dX12_text_98 ?_
                                refine xj_iload_n (n := 2) (i := 2) 0 rfl rfl dX12_text_26 ?_
                                refine xj_iconst (v := 3) (by decide) dX12_text_27 ?_
                                refine xj_icmp_ge (tgt := 101) (by decide) dX12_text_28 (fun zc28 => ?_) (fun zc28 => ?_)
                                · exact absurd zc28 (by decide)
                                · refine xj_iload_n (n := 1) (i := 1) 1 rfl rfl dX12_text_31 ?_
                                  refine xj_if_eq (tgt := 101) (by decide) dX12_text_32 (fun zc32 => ?_) (fun zc32 => ?_)
                                  · refine xj_iload_n (n := 1) (i := 1) 1 rfl rfl dX12_text_101 ?_
                                    refine xj_if_eq (tgt := 122) (by decide) dX12_text_102 (fun zc102 => ?_) (fun zc102 => ?_)
                                    · refine xj_aload_n (n := 0) (i := 0) 2 rfl rfl dX12_text_122 ?_
                                      refine yj_getf (v := .ref 93) fl_X12_32_12 (by omega) (fq_86 zg22) rfl dX12_text_123 ?_
                                      refine xj_iconst (v := 4) (by decide) dX12_text_126 ?_
                                      refine xj_aload_n (n := 0) (i := 0) 2 rfl rfl dX12_text_127 ?_
                                      refine yj_getf (v := .int (nI (aT A))) fl_X12_100_12 (by omega) (fq_86 zg22) (congrArg (fun z => some (Value.int z)) t11zg22) dX12_text_128 ?_
                                      refine xj_imul dX12_text_131 ?_
                                      refine xj_top (pk_mul 4 (aT A)) ?_
                                      refine xj_iconst (v := 3) (by decide) dX12_text_132 ?_
                                      refine xj_iadd dX12_text_133 ?_
                                      refine xj_top (nI_add (4 * (aT A)) 3) ?_
                                      refine xj_aload_n (n := 0) (i := 0) 2 rfl rfl dX12_text_134 ?_
                                      refine yj_getf (v := .int (zg22 86 29)) fl_X12_126_12 (by omega) (fq_86 zg22) rfl dX12_text_135 ?_
                                      refine xj_topi (fun zv42 ezv42 => ?_)
                                      refine yj_iastN ((4 * (aT A)) + 3) (by omega) fA_93 rfl (by omega) (by decide) dX12_text_138 ?_
                                      obtain ⟨zg43, ezg43⟩ : ∃ x9, x9 = gs zg22 93 ((4 * (aT A)) + 3) zv42 := ⟨_, rfl⟩
                                      rw [← ezg43]
                                      have t11zg43 : zg43 86 11 = nI (aT A) := by rw [ezg43, gs_n _ _ _ (by decide)]; exact t11zg22
                                      have t8zg43 : zg43 86 8 = nI (aZ A) := by rw [ezg43, gs_n _ _ _ (by decide)]; exact t8zg22
                                      have t22zg43 : zg43 86 22 = nI (stP b (aZ A) (rnM b (aZ A) (true, true, [], 0, []) (nxP b (aZ A) (nxP b (aZ A) ja))).2.1) := by rw [ezg43, gs_n _ _ _ (by decide)]; exact hbb
                                      have fzg43 : fT (aT A) g zg43 := by rw [ezg43]; exact ffzg22.g93 (by omega) _
                                      have s0zg43 : zg43 93 (4 * aT A + 0) = (nI ([] : List Int32).length) := by rw [ezg43, gs_s, upd_n _ _ (by omega)]; exact s0zg22
                                      have s1zg43 : zg43 93 (4 * aT A + 1) = (nI Da.length) := by rw [ezg43, gs_s, upd_n _ _ (by omega)]; exact s1zg22
                                      have s3zg43 : zg43 93 (4 * aT A + 3) = zv42 := by rw [ezg43, gs_s, upd_s]
                                      refine xj_aload_n (n := 0) (i := 0) 2 rfl rfl dX12_text_139 ?_
                                      refine xj_iconst (v := 0) (by decide) dX12_text_140 ?_
                                      refine yj_puti fl_X12_83_12 (by omega) fS_86_8 (fi_i _) dX12_text_141 ?_
                                      obtain ⟨zg44, ezg44⟩ : ∃ x9, x9 = gs zg43 86 8 0 := ⟨_, rfl⟩
                                      rw [← ezg44]
                                      have t11zg44 : zg44 86 11 = nI (aT A) := by rw [ezg44, gs_s, upd_n _ _ (by decide)]; exact t11zg43
                                      have t22zg44 : zg44 86 22 = nI (stP b (aZ A) (rnM b (aZ A) (true, true, [], 0, []) (nxP b (aZ A) (nxP b (aZ A) ja))).2.1) := by rw [ezg44, gs_s, upd_n _ _ (by decide)]; exact t22zg43
                                      have t8zg44 : zg44 86 8 = 0 := by rw [ezg44, gs_s, upd_s]
                                      have s0zg44 : zg44 93 (4 * aT A + 0) = (nI ([] : List Int32).length) := by rw [ezg44, gs_n _ _ _ (by decide)]; exact s0zg43
                                      have s1zg44 : zg44 93 (4 * aT A + 1) = (nI Da.length) := by rw [ezg44, gs_n _ _ _ (by decide)]; exact s1zg43
                                      have s3zg44 : zg44 93 (4 * aT A + 3) = zv42 := by rw [ezg44, gs_n _ _ _ (by decide)]; exact s3zg43
                                      refine xj_iload_n (n := 1) (i := 1) 1 rfl rfl dX12_text_144 ?_
                                      refine xj_if_ne (tgt := 156) (by decide) dX12_text_145 (fun zc145 => ?_) (fun zc145 => ?_)
                                      · exact absurd zc145 (fun z => z rfl)
                                      · refine xj_bipush (v := (-100)) (by decide) dX12_text_148 ?_
                                        refine xj_aload_n (n := 0) (i := 0) 2 rfl rfl dX12_text_150 ?_
                                        refine yj_getf (v := .int (nI (stP b (aZ A) (rnM b (aZ A) (true, true, [], 0, []) (nxP b (aZ A) (nxP b (aZ A) ja))).2.1))) fl_X12_113_12 (by omega) (fq_86 zg44) (congrArg (fun z => some (Value.int z)) t22zg44) dX12_text_151 ?_
                                        refine xj_isub dX12_text_154 ?_
                                        exact xj_ireturn rfl (nr_i _) (Nat.zero_le _) (Nat.zero_le _) dX12_text_155 (qI_e ⟨by rw [hr]; show _ = -100 - nI (stP (A 30) (aZ A) (rnM b (aZ A) (true, true, [], 0, []) (nxP b (aZ A) (nxP b (aZ A) ja))).2.1); rw [← (tk_cg hcg (rnM b (aZ A) (true, true, [], 0, []) (nxP b (aZ A) (nxP b (aZ A) ja))).2.1).1], by rw [hr, hl, ezg44]; exact C.txF fzg43, by rw [ezg44]; exact (fT_mX fzg43).gs (by unfold mX; omega) 8 0⟩)
                                    · exact absurd (by decide) zc102
                                  · exact absurd (by decide) zc32
                              · exact absurd (by decide) zc86
              · rw [hva, bI_f hR]
                have hRe : (rnM b (aZ A) (true, true, [], 0, []) (nxP b (aZ A) 0)) = (false, (rnM b (aZ A) (true, true, [], 0, []) (nxP b (aZ A) 0)).2.1, []) := rnM_n (by rw [Bool.not_eq_true] at hR; exact hR)
                have hW : waF b (aZ A) 3 0 0 = (false, (rnM b (aZ A) (true, true, [], 0, []) (nxP b (aZ A) 0)).2.1, []) := waF_f ((if_pos htk0).trans hRe)
                have hwA : waA A = (false, (rnM b (aZ A) (true, true, [], 0, []) (nxP b (aZ A) 0)).2.1, _) := hwa.symm.trans hW
                have hr : rText A = (-100 - nI (stP (A 30) (aZ A) (rnM b (aZ A) (true, true, [], 0, []) (nxP b (aZ A) 0)).2.1), gs A 0 5 0) := by show (if aT A = 6 then _ else if (waA A).1 = true then _ else (-100 - nI (stP (A 30) (aZ A) (waA A).2.1), gs A 0 5 0)) = _; rw [if_neg h6, hwA, if_neg Bool.false_ne_true]
                have hl : txL A Λ = Λ := by show (if aT A = 6 then Λ else if (waA A).1 = true then _ else Λ) = _; rw [if_neg h6, hwA, if_neg Bool.false_ne_true]
                refine xj_if_eq (tgt := 93) (by decide) dX12_text_86 (fun zc86 => ?_) (fun zc86 => ?_)
                · refine xj_iconst (v := 0) (by decide) dX12_text_93 ?_
                  refine xj_istore_n (n := 1) (i := 1) (lv1 := [(1, .int 0), (2, .int (nI 0)), (0, .ref 86)]) rfl rfl (Nat.le_of_ble_eq_true rfl) dX12_text_94 ?_
                  refine xj_iinc (n := 1) (i := 2) (v := nI 1) (lv1 := [(2, .int (nI 1)), (1, .int 0), (0, .ref 86)]) 1 rfl (nI_1 0) rfl (Nat.le_of_ble_eq_true rfl) dX12_text_95 ?_
                  refine xj_goto (tgt := 26) (by decide) dX12_text_98 ?_
                  refine xj_iload_n (n := 2) (i := 2) 0 rfl rfl dX12_text_26 ?_
                  refine xj_iconst (v := 3) (by decide) dX12_text_27 ?_
                  refine xj_icmp_ge (tgt := 101) (by decide) dX12_text_28 (fun zc28 => ?_) (fun zc28 => ?_)
                  · exact absurd zc28 (by decide)
                  · refine xj_iload_n (n := 1) (i := 1) 1 rfl rfl dX12_text_31 ?_
                    refine xj_if_eq (tgt := 101) (by decide) dX12_text_32 (fun zc32 => ?_) (fun zc32 => ?_)
                    · refine xj_iload_n (n := 1) (i := 1) 1 rfl rfl dX12_text_101 ?_
                      refine xj_if_eq (tgt := 122) (by decide) dX12_text_102 (fun zc102 => ?_) (fun zc102 => ?_)
                      · refine xj_aload_n (n := 0) (i := 0) 2 rfl rfl dX12_text_122 ?_
                        refine yj_getf (v := .ref 93) fl_X12_32_12 (by omega) (fq_86 zg12) rfl dX12_text_123 ?_
                        refine xj_iconst (v := 4) (by decide) dX12_text_126 ?_
                        refine xj_aload_n (n := 0) (i := 0) 2 rfl rfl dX12_text_127 ?_
                        refine yj_getf (v := .int (nI (aT A))) fl_X12_100_12 (by omega) (fq_86 zg12) (congrArg (fun z => some (Value.int z)) t11zg12) dX12_text_128 ?_
                        refine xj_imul dX12_text_131 ?_
                        refine xj_top (pk_mul 4 (aT A)) ?_
                        refine xj_iconst (v := 3) (by decide) dX12_text_132 ?_
                        refine xj_iadd dX12_text_133 ?_
                        refine xj_top (nI_add (4 * (aT A)) 3) ?_
                        refine xj_aload_n (n := 0) (i := 0) 2 rfl rfl dX12_text_134 ?_
                        refine yj_getf (v := .int (zg12 86 29)) fl_X12_126_12 (by omega) (fq_86 zg12) rfl dX12_text_135 ?_
                        refine xj_topi (fun zv45 ezv45 => ?_)
                        refine yj_iastN ((4 * (aT A)) + 3) (by omega) fA_93 rfl (by omega) (by decide) dX12_text_138 ?_
                        obtain ⟨zg46, ezg46⟩ : ∃ x9, x9 = gs zg12 93 ((4 * (aT A)) + 3) zv45 := ⟨_, rfl⟩
                        rw [← ezg46]
                        have t11zg46 : zg46 86 11 = nI (aT A) := by rw [ezg46, gs_n _ _ _ (by decide)]; exact t11zg12
                        have t8zg46 : zg46 86 8 = nI (aZ A) := by rw [ezg46, gs_n _ _ _ (by decide)]; exact t8zg12
                        have t22zg46 : zg46 86 22 = nI (stP b (aZ A) (rnM b (aZ A) (true, true, [], 0, []) (nxP b (aZ A) 0)).2.1) := by rw [ezg46, gs_n _ _ _ (by decide)]; exact hba
                        have fzg46 : fT (aT A) g zg46 := by rw [ezg46]; exact ffzg12.g93 (by omega) _
                        have s0zg46 : zg46 93 (4 * aT A + 0) = (nI ([] : List Int32).length) := by rw [ezg46, gs_s, upd_n _ _ (by omega)]; exact s0zg12
                        have s3zg46 : zg46 93 (4 * aT A + 3) = zv45 := by rw [ezg46, gs_s, upd_s]
                        refine xj_aload_n (n := 0) (i := 0) 2 rfl rfl dX12_text_139 ?_
                        refine xj_iconst (v := 0) (by decide) dX12_text_140 ?_
                        refine yj_puti fl_X12_83_12 (by omega) fS_86_8 (fi_i _) dX12_text_141 ?_
                        obtain ⟨zg47, ezg47⟩ : ∃ x9, x9 = gs zg46 86 8 0 := ⟨_, rfl⟩
                        rw [← ezg47]
                        have t11zg47 : zg47 86 11 = nI (aT A) := by rw [ezg47, gs_s, upd_n _ _ (by decide)]; exact t11zg46
                        have t22zg47 : zg47 86 22 = nI (stP b (aZ A) (rnM b (aZ A) (true, true, [], 0, []) (nxP b (aZ A) 0)).2.1) := by rw [ezg47, gs_s, upd_n _ _ (by decide)]; exact t22zg46
                        have t8zg47 : zg47 86 8 = 0 := by rw [ezg47, gs_s, upd_s]
                        have s0zg47 : zg47 93 (4 * aT A + 0) = (nI ([] : List Int32).length) := by rw [ezg47, gs_n _ _ _ (by decide)]; exact s0zg46
                        have s3zg47 : zg47 93 (4 * aT A + 3) = zv45 := by rw [ezg47, gs_n _ _ _ (by decide)]; exact s3zg46
                        refine xj_iload_n (n := 1) (i := 1) 1 rfl rfl dX12_text_144 ?_
                        refine xj_if_ne (tgt := 156) (by decide) dX12_text_145 (fun zc145 => ?_) (fun zc145 => ?_)
                        · exact absurd zc145 (fun z => z rfl)
                        · refine xj_bipush (v := (-100)) (by decide) dX12_text_148 ?_
                          refine xj_aload_n (n := 0) (i := 0) 2 rfl rfl dX12_text_150 ?_
                          refine yj_getf (v := .int (nI (stP b (aZ A) (rnM b (aZ A) (true, true, [], 0, []) (nxP b (aZ A) 0)).2.1))) fl_X12_113_12 (by omega) (fq_86 zg47) (congrArg (fun z => some (Value.int z)) t22zg47) dX12_text_151 ?_
                          refine xj_isub dX12_text_154 ?_
                          exact xj_ireturn rfl (nr_i _) (Nat.zero_le _) (Nat.zero_le _) dX12_text_155 (qI_e ⟨by rw [hr]; show _ = -100 - nI (stP (A 30) (aZ A) (rnM b (aZ A) (true, true, [], 0, []) (nxP b (aZ A) 0)).2.1); rw [← (tk_cg hcg (rnM b (aZ A) (true, true, [], 0, []) (nxP b (aZ A) 0)).2.1).1], by rw [hr, hl, ezg47]; exact C.txF fzg46, by rw [ezg47]; exact (fT_mX fzg46).gs (by unfold mX; omega) 8 0⟩)
                      · exact absurd (by decide) zc102
                    · exact absurd (by decide) zc32
                · exact absurd (by decide) zc86
  · have h6 : aT A = 6 := (nI_eq (b := 6) (by omega) (by decide)).mp zc6
    have hr : rText A = (-4, A) := if_pos h6
    have hl : txL A Λ = Λ := if_pos h6
    refine xj_bipush (v := (-4)) (by decide) dX12_text_9 ?_
    exact xj_ireturn rfl (nr_i _) (Nat.zero_le _) (Nat.zero_le _) dX12_text_11 (qI_e ⟨by rw [hr], by rw [hr, hl]; exact C, fr.rf⟩)
theorem c_X12_text (l : Launch) (d : Nat) (n : Nat) (hn : 110 ≤ n) (g : xG) (A : zSt) (Λ : Nat → xL) (O : okA A) (C : mA g A Λ) : xC l yX12_text cX12_text 3 (some .int) (xR (d + 4) 0 0) [.ref 86] (n, fh g) (qI n fun v g1 => v = (rText A).1 ∧ mA g1 (rText A).2 (txL A Λ) ∧ fr mX g g1) := c_X12_text0 l d n hn g A Λ O.2.2.2.1.2.2 O.2.2.2.2.2.1.2 (C.T O) (C.Z O) C
