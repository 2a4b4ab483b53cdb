set_option maxHeartbeats 4000000 in
set_option maxRecDepth 100000 in
theorem c_X10_joined (l : Launch) (d : Nat) (tok a b : Int32) (h : xH)  : xC l yX10_joined cX10_joined 3 (some .int) (xR (d + 0) 0 0) [.int tok, .int a, .int b] h (qP (jnF tok a b) h) := by
  refine xC_of false (by decide +kernel) (fun z => by cases z) (Nat.le_of_ble_eq_true rfl) ?_
  show xJ l (RX10, 3, (some .int), false, (xR (d + 0) 0 0), none) cX10_joined _ 0 0 0 [(0, .int tok), (1, .int a), (2, .int b)] [] h
  refine xj_iload_n (n := 0) (i := 0) 0 rfl rfl dX10_joined_0 ?_
  by_cases zk43 : tok = 43
  · refine xj_lookup (off := 109) (tgt := 110) dX10_joined_1 (by decide) (by rw [zk43]; decide) (by decide) ?_
    refine xj_iload_n (n := 1) (i := 1) 1 rfl rfl dX10_joined_110 ?_
    refine xj_iload_n (n := 2) (i := 2) 2 rfl rfl dX10_joined_111 ?_
    refine xj_iadd dX10_joined_112 ?_
    exact xj_ireturn rfl (nr_i _) (Nat.zero_le _) (Nat.zero_le _) dX10_joined_113 (qP_e (by unfold jnF; rw [if_neg (by rw [zk43]; decide), if_neg (by rw [zk43]; decide), if_neg (by rw [zk43]; decide), if_neg (by rw [zk43]; decide), if_pos zk43] <;> first | rfl | (unfold bI; split <;> first | rfl | (exfalso; simp_all; done) | (exfalso; simp only [i32_lt, i32_le] at *; omega))))
  by_cases zk45 : tok = 45
  · refine xj_lookup (off := 113) (tgt := 114) dX10_joined_1 (by decide) (by rw [zk45]; decide) (by decide) ?_
    refine xj_iload_n (n := 1) (i := 1) 1 rfl rfl dX10_joined_114 ?_
    refine xj_iload_n (n := 2) (i := 2) 2 rfl rfl dX10_joined_115 ?_
    refine xj_isub dX10_joined_116 ?_
    exact xj_ireturn rfl (nr_i _) (Nat.zero_le _) (Nat.zero_le _) dX10_joined_117 (qP_e (by unfold jnF; rw [if_neg (by rw [zk45]; decide), if_neg (by rw [zk45]; decide), if_neg (by rw [zk45]; decide), if_neg (by rw [zk45]; decide), if_neg (by rw [zk45]; decide), if_pos zk45] <;> first | rfl | (unfold bI; split <;> first | rfl | (exfalso; simp_all; done) | (exfalso; simp only [i32_lt, i32_le] at *; omega))))
  by_cases zk60 : tok = 60
  · refine xj_lookup (off := 87) (tgt := 88) dX10_joined_1 (by decide) (by rw [zk60]; decide) (by decide) ?_
    refine xj_iload_n (n := 1) (i := 1) 1 rfl rfl dX10_joined_88 ?_
    refine xj_iload_n (n := 2) (i := 2) 2 rfl rfl dX10_joined_89 ?_
    refine xj_icmp_ge (tgt := 97) (by decide) dX10_joined_90 (fun zc90 => ?_) (fun zc90 => ?_)
    · refine xj_iconst (v := 0) (by decide) dX10_joined_97 ?_
      exact xj_ireturn rfl (nr_i _) (Nat.zero_le _) (Nat.zero_le _) dX10_joined_98 (qP_e (by unfold jnF; rw [if_neg (by rw [zk60]; decide), if_neg (by rw [zk60]; decide), if_pos zk60] <;> first | rfl | (unfold bI; split <;> first | rfl | (exfalso; simp_all; done) | (exfalso; simp only [i32_lt, i32_le] at *; omega))))
    · refine xj_iconst (v := 1) (by decide) dX10_joined_93 ?_
      refine xj_goto (tgt := 98) (by decide) dX10_joined_94 ?_
      exact xj_ireturn rfl (nr_i _) (Nat.zero_le _) (Nat.zero_le _) dX10_joined_98 (qP_e (by unfold jnF; rw [if_neg (by rw [zk60]; decide), if_neg (by rw [zk60]; decide), if_pos zk60] <;> first | rfl | (unfold bI; split <;> first | rfl | (exfalso; simp_all; done) | (exfalso; simp only [i32_lt, i32_le] at *; omega))))
  by_cases zk61 : tok = 61
  · refine xj_lookup (off := 98) (tgt := 99) dX10_joined_1 (by decide) (by rw [zk61]; decide) (by decide) ?_
    refine xj_iload_n (n := 1) (i := 1) 1 rfl rfl dX10_joined_99 ?_
    refine xj_iload_n (n := 2) (i := 2) 2 rfl rfl dX10_joined_100 ?_
    refine xj_icmp_ne (tgt := 108) (by decide) dX10_joined_101 (fun zc101 => ?_) (fun zc101 => ?_)
    · refine xj_iconst (v := 0) (by decide) dX10_joined_108 ?_
      exact xj_ireturn rfl (nr_i _) (Nat.zero_le _) (Nat.zero_le _) dX10_joined_109 (qP_e (by unfold jnF; rw [if_neg (by rw [zk61]; decide), if_neg (by rw [zk61]; decide), if_neg (by rw [zk61]; decide), if_pos zk61] <;> first | rfl | (unfold bI; split <;> first | rfl | (exfalso; simp_all; done) | (exfalso; simp only [i32_lt, i32_le] at *; omega))))
    · refine xj_iconst (v := 1) (by decide) dX10_joined_104 ?_
      refine xj_goto (tgt := 109) (by decide) dX10_joined_105 ?_
      exact xj_ireturn rfl (nr_i _) (Nat.zero_le _) (Nat.zero_le _) dX10_joined_109 (qP_e (by unfold jnF; rw [if_neg (by rw [zk61]; decide), if_neg (by rw [zk61]; decide), if_neg (by rw [zk61]; decide), if_pos zk61] <;> first | rfl | (unfold bI; split <;> first | rfl | (exfalso; simp_all; done) | (exfalso; simp only [i32_lt, i32_le] at *; omega))))
  by_cases zk259 : tok = 259
  · refine xj_lookup (off := 59) (tgt := 60) dX10_joined_1 (by decide) (by rw [zk259]; decide) (by decide) ?_
    refine xj_iload_n (n := 1) (i := 1) 1 rfl rfl dX10_joined_60 ?_
    refine xj_if_ne (tgt := 68) (by decide) dX10_joined_61 (fun zc61 => ?_) (fun zc61 => ?_)
    · refine xj_iconst (v := 1) (by decide) dX10_joined_68 ?_
      refine xj_goto (tgt := 73) (by decide) dX10_joined_69 ?_
      exact xj_ireturn rfl (nr_i _) (Nat.zero_le _) (Nat.zero_le _) dX10_joined_73 (qP_e (by unfold jnF; rw [if_pos zk259] <;> first | rfl | (unfold bI; split <;> first | rfl | (exfalso; simp_all; done) | (exfalso; simp only [i32_lt, i32_le] at *; omega))))
    · refine xj_iload_n (n := 2) (i := 2) 2 rfl rfl dX10_joined_64 ?_
      refine xj_if_eq (tgt := 72) (by decide) dX10_joined_65 (fun zc65 => ?_) (fun zc65 => ?_)
      · refine xj_iconst (v := 0) (by decide) dX10_joined_72 ?_
        exact xj_ireturn rfl (nr_i _) (Nat.zero_le _) (Nat.zero_le _) dX10_joined_73 (qP_e (by unfold jnF; rw [if_pos zk259] <;> first | rfl | (unfold bI; split <;> first | rfl | (exfalso; simp_all; done) | (exfalso; simp only [i32_lt, i32_le] at *; omega))))
      · refine xj_iconst (v := 1) (by decide) dX10_joined_68 ?_
        refine xj_goto (tgt := 73) (by decide) dX10_joined_69 ?_
        exact xj_ireturn rfl (nr_i _) (Nat.zero_le _) (Nat.zero_le _) dX10_joined_73 (qP_e (by unfold jnF; rw [if_pos zk259] <;> first | rfl | (unfold bI; split <;> first | rfl | (exfalso; simp_all; done) | (exfalso; simp only [i32_lt, i32_le] at *; omega))))
  by_cases zk260 : tok = 260
  · refine xj_lookup (off := 73) (tgt := 74) dX10_joined_1 (by decide) (by rw [zk260]; decide) (by decide) ?_
    refine xj_iload_n (n := 1) (i := 1) 1 rfl rfl dX10_joined_74 ?_
    refine xj_if_eq (tgt := 86) (by decide) dX10_joined_75 (fun zc75 => ?_) (fun zc75 => ?_)
    · refine xj_iconst (v := 0) (by decide) dX10_joined_86 ?_
      exact xj_ireturn rfl (nr_i _) (Nat.zero_le _) (Nat.zero_le _) dX10_joined_87 (qP_e (by unfold jnF; rw [if_neg (by rw [zk260]; decide), if_pos zk260] <;> first | rfl | (unfold bI; split <;> first | rfl | (exfalso; simp_all; done) | (exfalso; simp only [i32_lt, i32_le] at *; omega))))
    · refine xj_iload_n (n := 2) (i := 2) 2 rfl rfl dX10_joined_78 ?_
      refine xj_if_eq (tgt := 86) (by decide) dX10_joined_79 (fun zc79 => ?_) (fun zc79 => ?_)
      · refine xj_iconst (v := 0) (by decide) dX10_joined_86 ?_
        exact xj_ireturn rfl (nr_i _) (Nat.zero_le _) (Nat.zero_le _) dX10_joined_87 (qP_e (by unfold jnF; rw [if_neg (by rw [zk260]; decide), if_pos zk260] <;> first | rfl | (unfold bI; split <;> first | rfl | (exfalso; simp_all; done) | (exfalso; simp only [i32_lt, i32_le] at *; omega))))
      · refine xj_iconst (v := 1) (by decide) dX10_joined_82 ?_
        refine xj_goto (tgt := 87) (by decide) dX10_joined_83 ?_
        exact xj_ireturn rfl (nr_i _) (Nat.zero_le _) (Nat.zero_le _) dX10_joined_87 (qP_e (by unfold jnF; rw [if_neg (by rw [zk260]; decide), if_pos zk260] <;> first | rfl | (unfold bI; split <;> first | rfl | (exfalso; simp_all; done) | (exfalso; simp only [i32_lt, i32_le] at *; omega))))
  refine xj_lookup (off := 117) (tgt := 118) dX10_joined_1 (by decide) ((lv_osw zk43 rfl).trans ((lv_osw zk45 rfl).trans ((lv_osw zk60 rfl).trans ((lv_osw zk61 rfl).trans ((lv_osw zk259 rfl).trans ((lv_osw zk260 rfl).trans rfl)))))) (by decide) ?_
  refine xj_iload_n (n := 1) (i := 1) 1 rfl rfl dX10_joined_118 ?_
  refine xj_iload_n (n := 2) (i := 2) 2 rfl rfl dX10_joined_119 ?_
  refine xj_imul dX10_joined_120 ?_
  exact xj_ireturn rfl (nr_i _) (Nat.zero_le _) (Nat.zero_le _) dX10_joined_121 (qP_e (by unfold jnF; rw [if_neg zk259, if_neg zk260, if_neg zk60, if_neg zk61, if_neg zk43, if_neg zk45] <;> first | rfl | (unfold bI; split <;> first | rfl | (exfalso; simp_all; done) | (exfalso; simp only [i32_lt, i32_le] at *; omega))))
theorem isNm_neg {code : Int32} (h : isNm code = true) : ¬ 0 ≤ code := by
  have h1 := of_decide_eq_true h
  obtain ⟨k, hk, e⟩ := nI_bnd (m := 5) (by decide) h1.1 h1.2
  have e2 : code = -nI k - 262 := by
    rw [← e]; unfold nmI
    apply Int32.toBitVec_inj.mp
    simp only [Int32.toBitVec_sub, Int32.toBitVec_neg]
    generalize code.toBitVec = x
    bv_omega
  rw [e2]
  rcases (show k = 0 ∨ k = 1 ∨ k = 2 ∨ k = 3 ∨ k = 4 ∨ k = 5 by omega) with rfl | rfl | rfl | rfl | rfl | rfl <;> decide
theorem lStep_cases {code : Int32} {nm : Nat → Int32} {s s1 : List Int32} (h : lStep code nm s = some s1) :
    (isNm code = true ∧ s.length < 40 ∧ s1 = nm (nmI code).toNatClampNeg :: s) ∨ (¬ isNm code = true ∧ 0 ≤ code ∧ s.length < 40 ∧ s1 = code :: s) ∨ (¬ isNm code = true ∧ ¬ 0 ≤ code ∧ code = -261 ∧ ∃ x r, s = x :: r ∧ s1 = bI (x = 0) :: r) ∨ (¬ isNm code = true ∧ ¬ 0 ≤ code ∧ code = -3 ∧ ∃ x r, s = x :: r ∧ s1 = -x :: r) ∨ (¬ isNm code = true ∧ ¬ 0 ≤ code ∧ ¬ code = -261 ∧ ¬ code = -3 ∧ ∃ y x r, s = y :: x :: r ∧ s1 = jnF (-code) x y :: r) := by
  unfold lStep at h
  by_cases h1 : isNm code = true
  · rw [if_pos h1] at h
    by_cases h2 : s.length < 40
    · rw [if_pos h2] at h
      exact Or.inl ⟨h1, h2, (Option.some.inj h).symm⟩
    · rw [if_neg h2] at h; cases h
  · rw [if_neg h1] at h
    refine Or.inr ?_
    by_cases h3 : 0 ≤ code
    · rw [if_pos h3] at h
      by_cases h2 : s.length < 40
      · rw [if_pos h2] at h
        exact Or.inl ⟨h1, h3, h2, (Option.some.inj h).symm⟩
      · rw [if_neg h2] at h; cases h
    · rw [if_neg h3] at h
      refine Or.inr ?_
      by_cases h4 : code = -261
      · rw [if_pos h4] at h
        cases s with
        | nil => cases h
        | cons x r => exact Or.inl ⟨h1, h3, h4, x, r, rfl, (Option.some.inj h).symm⟩
      · rw [if_neg h4] at h
        refine Or.inr ?_
        by_cases h5 : code = -3
        · rw [if_pos h5] at h
          cases s with
          | nil => cases h
          | cons x r => exact Or.inl ⟨h1, h3, h5, x, r, rfl, (Option.some.inj h).symm⟩
        · rw [if_neg h5] at h
          match s, h with
          | y :: x :: r, h => exact Or.inr ⟨h1, h3, h4, h5, y, x, r, rfl, (Option.some.inj h).symm⟩
theorem yj_ialdL {l : Launch} {M : xM} {cc : ByteArray} {Q : Option Value → xH → Prop} {kc ks pc : Nat} {lv : List (Nat × Value)} {st : List Value} {n : Nat} {g : xG} {q m : Nat} {i : Int32} (k : Nat) (hn : q < n) (hq : fh g q = .inl (m, g q)) (hi : i = nI k) (hk : k < m) (hm : m < 2 ^ 31) (d : decode cc pc = .ok (.iaload, 1)) (kk : xJ l M cc Q kc ks (pc + 1) lv (.int (g q k) :: st) (n, fh g)) : xJ l M cc Q kc ks pc lv (.int i :: .ref q :: st) (n, fh g) := by
  subst hi
  refine xj_iald hn hq (vp_in_nI hk hm) d ?_
  rw [nI_clamp (by omega)]
  exact kk
set_option maxHeartbeats 4000000 in
set_option maxRecDepth 100000 in
theorem c_X10_worth (l : Launch) (d : Nat) (n : Nat) (hn : 110 ≤ n) (g : xG) (t m p : Nat) (L : xL) (hL : lwA g n t L) (hm : fAr m 6) (hmn : m < n) (hmt : m ≠ t + 3) (hp : p < 3) : xC l yX10_worth cX10_worth 7 (some .int) (xR (d + 1) 0 0) [.ref t, .int (nI p), .ref m] (n, fh g) (qI n fun v g1 => v = L p (g m) ∧ fr (fun j => j = t + 3) g g1) := by
  refine xC_of false (by decide +kernel) (fun z => by cases z) (Nat.le_of_ble_eq_true rfl) ?_
  obtain ⟨hT, htn, b, hb0, hbs, hb3, hlen, hrun⟩ := hL
  have hlo := hT.lo
  have hle0 := (hbs 0 (by omega)).1
  have hle1 := (hbs 1 (by omega)).1
  have hle2 := (hbs 2 (by omega)).1
  have hbp := (hbs p hp).1
  have hte := (hbs p hp).2
  have hb3' : b (p + 1) ≤ b 3 := by rcases (show p = 0 ∨ p = 1 ∨ p = 2 by omega) with rfl | rfl | rfl <;> first | exact Nat.le_refl _ | exact hle2 | exact Nat.le_trans hle1 hle2
  obtain ⟨N, hN⟩ : ∃ N, N = b (p + 1) := ⟨_, rfl⟩
  rw [← hN] at hbp hte hb3'
  have key : ∀ i, i ≤ N → ∀ (s : List Int32) (top : Nat) (g1 : xG), lRow s top (g1 (t + 3)) → top ≤ 40 → fr (fun j => j = t + 3) g g1 → lRun (g (t + 1)) (g m) (N - i) i s = some [L p (g m)] → xJ l (RX10, 7, (some .int), false, (xR (d + 1) 0 0), none) cX10_worth (qI n fun v g1 => v = L p (g m) ∧ fr (fun j => j = t + 3) g g1) 0 0 20 [(4, .int (nI i)), (3, .int (nI top)), (0, .ref t), (1, .int (nI p)), (2, .ref m)] [] (n, fh g1) := by
    refine x_loop N _ ?_ ?_
    · intro s top g1 hs ht40 hf hr
      have hrn : s = [L p (g m)] := by rw [Nat.sub_self] at hr; exact Option.some.inj hr
      subst hrn
      have ht1 := lRow_top hs
      have htop : top = 1 := hs.1.symm
      have e1 : g1 (t + 2) p = nI N := by rw [hf _ (by omega)]; exact hte
      refine xj_iload (i := 4) 0 rfl dX10_worth_20 ?_
      refine xj_aload_n (n := 0) (i := 0) 2 rfl rfl dX10_worth_22 ?_
      refine yj_getf (v := .ref (t + 2)) fl_X10_18_10 (by omega) (hT.2.1 (g1 t)) rfl dX10_worth_23 ?_
      refine xj_iload_n (n := 1) (i := 1) 3 rfl rfl dX10_worth_26 ?_
      refine yj_ialdN p (by omega) hT.2.2.2.1 rfl (by omega) (by decide) dX10_worth_27 ?_
      refine xj_icmp_ge (tgt := 214) (by decide) dX10_worth_28 (fun zc28 => ?_) (fun zc28 => ?_)
      · refine xj_aload_n (n := 0) (i := 0) 2 rfl rfl dX10_worth_214 ?_
        refine yj_getf (v := .ref (t + 3)) fl_X10_9_10 (by omega) (hT.2.1 (g1 t)) rfl dX10_worth_215 ?_
        refine xj_iconst (v := 0) (by decide) dX10_worth_218 ?_
        refine yj_ialdN 0 (by omega) hT.2.2.2.2 rfl (by omega) (by decide) dX10_worth_219 ?_
        exact xj_ireturn rfl (nr_i _) (Nat.zero_le _) (Nat.zero_le _) dX10_worth_220 (qI_e ⟨by rw [← ht1.2, htop], hf⟩)
      · exact absurd (by rw [e1]; exact nI_le (Nat.le_refl N) (by omega)) zc28
    · intro i hi ih s top g1 hs ht40 hf hr
      have e1 : g1 (t + 2) p = nI N := by rw [hf _ (by omega)]; exact hte
      have e2 : g1 (t + 1) = g (t + 1) := hf _ (by omega)
      have e3 : g1 m = g m := hf _ hmt
      obtain ⟨k, hk⟩ : ∃ k, N - i = k + 1 := ⟨N - i - 1, by omega⟩
      have hk2 : k = N - (i + 1) := by omega
      rw [hk] at hr
      unfold lRun at hr
      obtain ⟨s1, hs1, hr1⟩ := Option.bind_eq_some_iff.mp hr
      rw [hk2] at hr1
      have hlq : fh g1 (t + 1) = .inl (b 3, g1 (t + 1)) := by rw [show fh g1 (t + 1) = fc (t + 1) (g1 (t + 1)) from rfl, hT.2.2.1, e2, hlen]
      refine xj_iload (i := 4) 0 rfl dX10_worth_20 ?_
      refine xj_aload_n (n := 0) (i := 0) 2 rfl rfl dX10_worth_22 ?_
      refine yj_getf (v := .ref (t + 2)) fl_X10_18_10 (by omega) (hT.2.1 (g1 t)) rfl dX10_worth_23 ?_
      refine xj_iload_n (n := 1) (i := 1) 3 rfl rfl dX10_worth_26 ?_
      refine yj_ialdN p (by omega) hT.2.2.2.1 rfl (by omega) (by decide) dX10_worth_27 ?_
      refine xj_icmp_ge (tgt := 214) (by decide) dX10_worth_28 (fun zc28 => ?_) (fun zc28 => ?_)
      · exact absurd zc28 (by rw [e1]; exact nI_ge hi (by omega))
      · refine xj_aload_n (n := 0) (i := 0) 2 rfl rfl dX10_worth_31 ?_
        refine yj_getf (v := .ref (t + 1)) fl_X10_15_10 (by omega) (hT.2.1 (g1 t)) rfl dX10_worth_32 ?_
        refine xj_iload (i := 4) 0 rfl dX10_worth_35 ?_
        refine yj_ialdL i (by omega) hlq rfl (by omega) (by omega) dX10_worth_37 ?_
        refine xj_topi (fun zv1 ezv1 => ?_)
        refine xj_istore (i := 5) (lv1 := [(5, .int zv1), (4, .int (nI i)), (3, .int (nI top)), (0, .ref t), (1, .int (nI p)), (2, .ref m)]) rfl (Nat.le_of_ble_eq_true rfl) dX10_worth_38 ?_
        have hcode : zv1 = g (t + 1) i := by rw [ezv1, e2]
        rw [← hcode] at hs1
        rcases lStep_cases hs1 with ⟨h1, h2, rfl⟩ | ⟨h1, h2, h3, rfl⟩ | ⟨h1, h2, h3, x, r, rfl, rfl⟩ | ⟨h1, h2, h3, x, r, rfl, rfl⟩ | ⟨h1, h2, h3, h4, y, x, r, rfl, rfl⟩
        · have hl40 : top < 40 := by rw [← hs.1]; assumption
          have h9 := of_decide_eq_true h1
          obtain ⟨kn, hkn, ekn⟩ := nI_bnd (m := 5) (by decide) h9.1 h9.2
          refine xj_iload (i := 5) 0 rfl dX10_worth_40 ?_
          refine xj_ineg dX10_worth_42 ?_
          refine xj_sipush (v := 262) (by decide) dX10_worth_43 ?_
          refine xj_isub dX10_worth_46 ?_
          refine xj_iconst (v := 5) (by decide) dX10_worth_47 ?_
          refine xj_callSN kn_X10_21 (c_X11_within l (d + 0) ((-zv1) - 262) 5 _) (As := [.int ((-zv1) - 262), .int 5]) (st := []) rfl rfl (xRm_of (by omega) (by decide) (by omega) (by omega)) (Nat.le_of_ble_eq_true rfl) dX10_worth_48 (yk_p (kc := 0) (ks := 0) ?_)
          refine xj_topi (fun zv2 ezv2 => ?_)
          refine xj_istore (i := 6) (lv1 := [(6, .int zv2), (5, .int zv1), (4, .int (nI i)), (3, .int (nI top)), (0, .ref t), (1, .int (nI p)), (2, .ref m)]) rfl (Nat.le_of_ble_eq_true rfl) dX10_worth_51 ?_
          have ezW : zv2 = bI (0 ≤ nmI zv1 ∧ nmI zv1 ≤ 5) := ezv2
          refine xj_iload (i := 5) 1 rfl dX10_worth_53 ?_
          refine xj_if_ge (tgt := 63) (by decide) dX10_worth_55 (fun zc55 => ?_) (fun zc55 => ?_)
          · exact absurd zc55 (isNm_neg h1)
          · refine xj_iload (i := 6) 0 rfl dX10_worth_58 ?_
            refine xj_if_eq (tgt := 100) (by decide) dX10_worth_60 (fun zc60 => ?_) (fun zc60 => ?_)
            · exact absurd zc60 (fun z => bI_0.mp (by rw [← ezW]; exact z) (by have h9 := of_decide_eq_true h1; exact h9))
            · refine xj_iload_n (n := 3) (i := 3) 3 rfl rfl dX10_worth_63 ?_
              refine xj_bipush (v := 40) (by decide) dX10_worth_64 ?_
              refine xj_icmp_ge (tgt := 100) (by decide) dX10_worth_66 (fun zc66 => ?_) (fun zc66 => ?_)
              · exact absurd zc66 (nI_ge hl40 (by decide))
              · refine xj_aload_n (n := 0) (i := 0) 4 rfl rfl dX10_worth_69 ?_
                refine yj_getf (v := .ref (t + 3)) fl_X10_9_10 (by omega) (hT.2.1 (g1 t)) rfl dX10_worth_70 ?_
                refine xj_iload_n (n := 3) (i := 3) 3 rfl rfl dX10_worth_73 ?_
                refine xj_iload (i := 6) 0 rfl dX10_worth_74 ?_
                refine xj_if_eq (tgt := 91) (by decide) dX10_worth_76 (fun zc76 => ?_) (fun zc76 => ?_)
                · exact absurd zc76 (fun z => bI_0.mp (by rw [← ezW]; exact z) (by have h9 := of_decide_eq_true h1; exact h9))
                · refine xj_aload_n (n := 2) (i := 2) 6 rfl rfl dX10_worth_79 ?_
                  refine xj_iload (i := 5) 1 rfl dX10_worth_80 ?_
                  refine xj_ineg dX10_worth_82 ?_
                  refine xj_sipush (v := 262) (by decide) dX10_worth_83 ?_
                  refine xj_isub dX10_worth_86 ?_
                  refine yj_ialdN kn (by omega) hm ekn (by omega) (by decide) dX10_worth_87 ?_
                  refine xj_goto (tgt := 93) (by decide) dX10_worth_88 ?_
                  refine xj_topi (fun zv3 ezv3 => ?_)
                  refine yj_iastN top (by omega) hT.2.2.2.2 rfl (by omega) (by decide) dX10_worth_93 ?_
                  obtain ⟨zg4, ezg4⟩ : ∃ z, z = gs g1 (t + 3) top zv3 := ⟨_, rfl⟩
                  rw [← ezg4]
                  refine xj_iinc (n := 1) (i := 3) (v := nI (top + 1)) (lv1 := [(3, .int (nI (top + 1))), (6, .int zv2), (5, .int zv1), (4, .int (nI i)), (0, .ref t), (1, .int (nI p)), (2, .ref m)]) 3 rfl (nI_1 top) rfl (Nat.le_of_ble_eq_true rfl) dX10_worth_94 ?_
                  refine xj_goto (tgt := 208) (by decide) dX10_worth_97 ?_
                  refine xj_iinc (n := 1) (i := 4) (v := nI (i + 1)) (lv1 := [(4, .int (nI (i + 1))), (3, .int (nI (top + 1))), (6, .int zv2), (5, .int zv1), (0, .ref t), (1, .int (nI p)), (2, .ref m)]) 3 rfl (nI_1 i) rfl (Nat.le_of_ble_eq_true rfl) dX10_worth_208 ?_
                  refine xj_goto (tgt := 20) (by decide) dX10_worth_211 ?_
                  refine xj_sub (lv' := [(4, .int (nI (i + 1))), (3, .int (nI (top + 1))), (0, .ref t), (1, .int (nI p)), (2, .ref m)]) [0, 1, 4, 5, 6] rfl ?_
                  refine ih _ (top + 1) zg4 ?_ (by omega) ?_ hr1
                  · rw [ezg4, gs_s, ezv3, e3, ekn, nI_clamp (by omega)]
                    exact lRow_push hs _
                  · rw [ezg4]; exact hf.gs rfl _ _
        · have hl40 : top < 40 := by rw [← hs.1]; assumption
          refine xj_iload (i := 5) 0 rfl dX10_worth_40 ?_
          refine xj_ineg dX10_worth_42 ?_
          refine xj_sipush (v := 262) (by decide) dX10_worth_43 ?_
          refine xj_isub dX10_worth_46 ?_
          refine xj_iconst (v := 5) (by decide) dX10_worth_47 ?_
          refine xj_callSN kn_X10_21 (c_X11_within l (d + 0) ((-zv1) - 262) 5 _) (As := [.int ((-zv1) - 262), .int 5]) (st := []) rfl rfl (xRm_of (by omega) (by decide) (by omega) (by omega)) (Nat.le_of_ble_eq_true rfl) dX10_worth_48 (yk_p (kc := 0) (ks := 0) ?_)
          refine xj_topi (fun zv5 ezv5 => ?_)
          refine xj_istore (i := 6) (lv1 := [(6, .int zv5), (5, .int zv1), (4, .int (nI i)), (3, .int (nI top)), (0, .ref t), (1, .int (nI p)), (2, .ref m)]) rfl (Nat.le_of_ble_eq_true rfl) dX10_worth_51 ?_
          have ezW : zv5 = bI (0 ≤ nmI zv1 ∧ nmI zv1 ≤ 5) := ezv5
          refine xj_iload (i := 5) 1 rfl dX10_worth_53 ?_
          refine xj_if_ge (tgt := 63) (by decide) dX10_worth_55 (fun zc55 => ?_) (fun zc55 => ?_)
          · refine xj_iload_n (n := 3) (i := 3) 3 rfl rfl dX10_worth_63 ?_
            refine xj_bipush (v := 40) (by decide) dX10_worth_64 ?_
            refine xj_icmp_ge (tgt := 100) (by decide) dX10_worth_66 (fun zc66 => ?_) (fun zc66 => ?_)
            · exact absurd zc66 (nI_ge hl40 (by decide))
            · refine xj_aload_n (n := 0) (i := 0) 4 rfl rfl dX10_worth_69 ?_
              refine yj_getf (v := .ref (t + 3)) fl_X10_9_10 (by omega) (hT.2.1 (g1 t)) rfl dX10_worth_70 ?_
              refine xj_iload_n (n := 3) (i := 3) 3 rfl rfl dX10_worth_73 ?_
              refine xj_iload (i := 6) 0 rfl dX10_worth_74 ?_
              refine xj_if_eq (tgt := 91) (by decide) dX10_worth_76 (fun zc76 => ?_) (fun zc76 => ?_)
              · refine xj_iload (i := 5) 1 rfl dX10_worth_91 ?_
                refine yj_iastN top (by omega) hT.2.2.2.2 rfl (by omega) (by decide) dX10_worth_93 ?_
                obtain ⟨zg6, ezg6⟩ : ∃ z, z = gs g1 (t + 3) top zv1 := ⟨_, rfl⟩
                rw [← ezg6]
                refine xj_iinc (n := 1) (i := 3) (v := nI (top + 1)) (lv1 := [(3, .int (nI (top + 1))), (6, .int zv5), (5, .int zv1), (4, .int (nI i)), (0, .ref t), (1, .int (nI p)), (2, .ref m)]) 3 rfl (nI_1 top) rfl (Nat.le_of_ble_eq_true rfl) dX10_worth_94 ?_
                refine xj_goto (tgt := 208) (by decide) dX10_worth_97 ?_
                refine xj_iinc (n := 1) (i := 4) (v := nI (i + 1)) (lv1 := [(4, .int (nI (i + 1))), (3, .int (nI (top + 1))), (6, .int zv5), (5, .int zv1), (0, .ref t), (1, .int (nI p)), (2, .ref m)]) 3 rfl (nI_1 i) rfl (Nat.le_of_ble_eq_true rfl) dX10_worth_208 ?_
                refine xj_goto (tgt := 20) (by decide) dX10_worth_211 ?_
                refine xj_sub (lv' := [(4, .int (nI (i + 1))), (3, .int (nI (top + 1))), (0, .ref t), (1, .int (nI p)), (2, .ref m)]) [0, 1, 4, 5, 6] rfl ?_
                refine ih _ (top + 1) zg6 ?_ (by omega) ?_ hr1
                · rw [ezg6, gs_s]
                  exact lRow_push hs _
                · rw [ezg6]; exact hf.gs rfl _ _
              · exact absurd (by rw [ezW]; exact bI_0.mpr (fun h9 => h1 (decide_eq_true h9))) zc76
          · exact absurd h2 zc55
        · have hl1 := hs.1
          simp only [List.length_cons] at hl1
          obtain ⟨j, rfl⟩ : ∃ j, top = j + 1 := ⟨top - 1, by omega⟩
          refine xj_iload (i := 5) 0 rfl dX10_worth_40 ?_
          refine xj_ineg dX10_worth_42 ?_
          refine xj_sipush (v := 262) (by decide) dX10_worth_43 ?_
          refine xj_isub dX10_worth_46 ?_
          refine xj_iconst (v := 5) (by decide) dX10_worth_47 ?_
          refine xj_callSN kn_X10_21 (c_X11_within l (d + 0) ((-zv1) - 262) 5 _) (As := [.int ((-zv1) - 262), .int 5]) (st := []) rfl rfl (xRm_of (by omega) (by decide) (by omega) (by omega)) (Nat.le_of_ble_eq_true rfl) dX10_worth_48 (yk_p (kc := 0) (ks := 0) ?_)
          refine xj_topi (fun zv7 ezv7 => ?_)
          refine xj_istore (i := 6) (lv1 := [(6, .int zv7), (5, .int zv1), (4, .int (nI i)), (3, .int (nI (j + 1))), (0, .ref t), (1, .int (nI p)), (2, .ref m)]) rfl (Nat.le_of_ble_eq_true rfl) dX10_worth_51 ?_
          have ezW : zv7 = bI (0 ≤ nmI zv1 ∧ nmI zv1 ≤ 5) := ezv7
          refine xj_iload (i := 5) 1 rfl dX10_worth_53 ?_
          refine xj_if_ge (tgt := 63) (by decide) dX10_worth_55 (fun zc55 => ?_) (fun zc55 => ?_)
          · exact absurd zc55 h2
          · refine xj_iload (i := 6) 0 rfl dX10_worth_58 ?_
            refine xj_if_eq (tgt := 100) (by decide) dX10_worth_60 (fun zc60 => ?_) (fun zc60 => ?_)
            · refine xj_iload (i := 5) 1 rfl dX10_worth_100 ?_
              refine xj_sipush (v := (-261)) (by decide) dX10_worth_102 ?_
              refine xj_icmp_ne (tgt := 140) (by decide) dX10_worth_105 (fun zc105 => ?_) (fun zc105 => ?_)
              · exact absurd zc105 (fun z => z h3)
              · refine xj_iload_n (n := 3) (i := 3) 3 rfl rfl dX10_worth_108 ?_
                refine xj_iconst (v := 1) (by decide) dX10_worth_109 ?_
                refine xj_icmp_lt (tgt := 140) (by decide) dX10_worth_110 (fun zc110 => ?_) (fun zc110 => ?_)
                · exact absurd zc110 (nI_nlt (a := j + 1) (b := 1) (by omega) (by omega))
                · refine xj_aload_n (n := 0) (i := 0) 4 rfl rfl dX10_worth_113 ?_
                  refine yj_getf (v := .ref (t + 3)) fl_X10_9_10 (by omega) (hT.2.1 (g1 t)) rfl dX10_worth_114 ?_
                  refine xj_iload_n (n := 3) (i := 3) 3 rfl rfl dX10_worth_117 ?_
                  refine xj_iconst (v := 1) (by decide) dX10_worth_118 ?_
                  refine xj_isub dX10_worth_119 ?_
                  refine xj_aload_n (n := 0) (i := 0) 4 rfl rfl dX10_worth_120 ?_
                  refine yj_getf (v := .ref (t + 3)) fl_X10_9_10 (by omega) (hT.2.1 (g1 t)) rfl dX10_worth_121 ?_
                  refine xj_iload_n (n := 3) (i := 3) 3 rfl rfl dX10_worth_124 ?_
                  refine xj_iconst (v := 1) (by decide) dX10_worth_125 ?_
                  refine xj_isub dX10_worth_126 ?_
                  refine yj_ialdN j (by omega) hT.2.2.2.2 (nI_pred j) (by omega) (by decide) dX10_worth_127 ?_
                  refine xj_if_ne (tgt := 135) (by decide) dX10_worth_128 (fun zc128 => ?_) (fun zc128 => ?_)
                  · have h9 := lRow_top1 hs
                    have h8 : bI (x = 0) = 0 := by rw [h9] at zc128; exact bI_f zc128
                    refine xj_iconst (v := 0) (by decide) dX10_worth_135 ?_
                    refine yj_iastN j (by omega) hT.2.2.2.2 (nI_pred j) (by omega) (by decide) dX10_worth_136 ?_
                    obtain ⟨zg8, ezg8⟩ : ∃ z, z = gs g1 (t + 3) j 0 := ⟨_, rfl⟩
                    rw [← ezg8]
                    refine xj_goto (tgt := 208) (by decide) dX10_worth_137 ?_
                    refine xj_iinc (n := 1) (i := 4) (v := nI (i + 1)) (lv1 := [(4, .int (nI (i + 1))), (6, .int zv7), (5, .int zv1), (3, .int (nI (j + 1))), (0, .ref t), (1, .int (nI p)), (2, .ref m)]) 2 rfl (nI_1 i) rfl (Nat.le_of_ble_eq_true rfl) dX10_worth_208 ?_
                    refine xj_goto (tgt := 20) (by decide) dX10_worth_211 ?_
                    refine xj_sub (lv' := [(4, .int (nI (i + 1))), (3, .int (nI (j + 1))), (0, .ref t), (1, .int (nI p)), (2, .ref m)]) [0, 3, 4, 5, 6] rfl ?_
                    refine ih _ (j + 1) zg8 ?_ (by omega) ?_ hr1
                    · rw [ezg8, gs_s, h8]
                      exact lRow_set1 hs _
                    · rw [ezg8]; exact hf.gs rfl _ _
                  · have h9 := lRow_top1 hs
                    have h8 : bI (x = 0) = 1 := by rw [h9] at zc128; exact bI_t zc128
                    refine xj_iconst (v := 1) (by decide) dX10_worth_131 ?_
                    refine xj_goto (tgt := 136) (by decide) dX10_worth_132 ?_
                    refine yj_iastN j (by omega) hT.2.2.2.2 (nI_pred j) (by omega) (by decide) dX10_worth_136 ?_
                    obtain ⟨zg9, ezg9⟩ : ∃ z, z = gs g1 (t + 3) j 1 := ⟨_, rfl⟩
                    rw [← ezg9]
                    refine xj_goto (tgt := 208) (by decide) dX10_worth_137 ?_
                    refine xj_iinc (n := 1) (i := 4) (v := nI (i + 1)) (lv1 := [(4, .int (nI (i + 1))), (6, .int zv7), (5, .int zv1), (3, .int (nI (j + 1))), (0, .ref t), (1, .int (nI p)), (2, .ref m)]) 2 rfl (nI_1 i) rfl (Nat.le_of_ble_eq_true rfl) dX10_worth_208 ?_
                    refine xj_goto (tgt := 20) (by decide) dX10_worth_211 ?_
                    refine xj_sub (lv' := [(4, .int (nI (i + 1))), (3, .int (nI (j + 1))), (0, .ref t), (1, .int (nI p)), (2, .ref m)]) [0, 3, 4, 5, 6] rfl ?_
                    refine ih _ (j + 1) zg9 ?_ (by omega) ?_ hr1
                    · rw [ezg9, gs_s, h8]
                      exact lRow_set1 hs _
                    · rw [ezg9]; exact hf.gs rfl _ _
            · exact absurd (by rw [ezW]; exact bI_0.mpr (fun h9 => h1 (decide_eq_true h9))) zc60
        · have hl1 := hs.1
          simp only [List.length_cons] at hl1
          obtain ⟨j, rfl⟩ : ∃ j, top = j + 1 := ⟨top - 1, by omega⟩
          refine xj_iload (i := 5) 0 rfl dX10_worth_40 ?_
          refine xj_ineg dX10_worth_42 ?_
          refine xj_sipush (v := 262) (by decide) dX10_worth_43 ?_
          refine xj_isub dX10_worth_46 ?_
          refine xj_iconst (v := 5) (by decide) dX10_worth_47 ?_
          refine xj_callSN kn_X10_21 (c_X11_within l (d + 0) ((-zv1) - 262) 5 _) (As := [.int ((-zv1) - 262), .int 5]) (st := []) rfl rfl (xRm_of (by omega) (by decide) (by omega) (by omega)) (Nat.le_of_ble_eq_true rfl) dX10_worth_48 (yk_p (kc := 0) (ks := 0) ?_)
          refine xj_topi (fun zv10 ezv10 => ?_)
          refine xj_istore (i := 6) (lv1 := [(6, .int zv10), (5, .int zv1), (4, .int (nI i)), (3, .int (nI (j + 1))), (0, .ref t), (1, .int (nI p)), (2, .ref m)]) rfl (Nat.le_of_ble_eq_true rfl) dX10_worth_51 ?_
          have ezW : zv10 = bI (0 ≤ nmI zv1 ∧ nmI zv1 ≤ 5) := ezv10
          refine xj_iload (i := 5) 1 rfl dX10_worth_53 ?_
          refine xj_if_ge (tgt := 63) (by decide) dX10_worth_55 (fun zc55 => ?_) (fun zc55 => ?_)
          · exact absurd zc55 h2
          · refine xj_iload (i := 6) 0 rfl dX10_worth_58 ?_
            refine xj_if_eq (tgt := 100) (by decide) dX10_worth_60 (fun zc60 => ?_) (fun zc60 => ?_)
            · refine xj_iload (i := 5) 1 rfl dX10_worth_100 ?_
              refine xj_sipush (v := (-261)) (by decide) dX10_worth_102 ?_
              refine xj_icmp_ne (tgt := 140) (by decide) dX10_worth_105 (fun zc105 => ?_) (fun zc105 => ?_)
              · refine xj_iload (i := 5) 1 rfl dX10_worth_140 ?_
                refine xj_bipush (v := (-3)) (by decide) dX10_worth_142 ?_
                refine xj_icmp_ne (tgt := 172) (by decide) dX10_worth_144 (fun zc144 => ?_) (fun zc144 => ?_)
                · exact absurd zc144 (fun z => z h3)
                · refine xj_iload_n (n := 3) (i := 3) 3 rfl rfl dX10_worth_147 ?_
                  refine xj_iconst (v := 1) (by decide) dX10_worth_148 ?_
                  refine xj_icmp_lt (tgt := 172) (by decide) dX10_worth_149 (fun zc149 => ?_) (fun zc149 => ?_)
                  · exact absurd zc149 (nI_nlt (a := j + 1) (b := 1) (by omega) (by omega))
                  · refine xj_aload_n (n := 0) (i := 0) 4 rfl rfl dX10_worth_152 ?_
                    refine yj_getf (v := .ref (t + 3)) fl_X10_9_10 (by omega) (hT.2.1 (g1 t)) rfl dX10_worth_153 ?_
                    refine xj_iload_n (n := 3) (i := 3) 3 rfl rfl dX10_worth_156 ?_
                    refine xj_iconst (v := 1) (by decide) dX10_worth_157 ?_
                    refine xj_isub dX10_worth_158 ?_
                    refine xj_aload_n (n := 0) (i := 0) 4 rfl rfl dX10_worth_159 ?_
                    refine yj_getf (v := .ref (t + 3)) fl_X10_9_10 (by omega) (hT.2.1 (g1 t)) rfl dX10_worth_160 ?_
                    refine xj_iload_n (n := 3) (i := 3) 3 rfl rfl dX10_worth_163 ?_
                    refine xj_iconst (v := 1) (by decide) dX10_worth_164 ?_
                    refine xj_isub dX10_worth_165 ?_
                    refine yj_ialdN j (by omega) hT.2.2.2.2 (nI_pred j) (by omega) (by decide) dX10_worth_166 ?_
                    refine xj_ineg dX10_worth_167 ?_
                    refine xj_topi (fun zv11 ezv11 => ?_)
                    refine yj_iastN j (by omega) hT.2.2.2.2 (nI_pred j) (by omega) (by decide) dX10_worth_168 ?_
                    obtain ⟨zg12, ezg12⟩ : ∃ z, z = gs g1 (t + 3) j zv11 := ⟨_, rfl⟩
                    rw [← ezg12]
                    refine xj_goto (tgt := 208) (by decide) dX10_worth_169 ?_
                    refine xj_iinc (n := 1) (i := 4) (v := nI (i + 1)) (lv1 := [(4, .int (nI (i + 1))), (6, .int zv10), (5, .int zv1), (3, .int (nI (j + 1))), (0, .ref t), (1, .int (nI p)), (2, .ref m)]) 2 rfl (nI_1 i) rfl (Nat.le_of_ble_eq_true rfl) dX10_worth_208 ?_
                    refine xj_goto (tgt := 20) (by decide) dX10_worth_211 ?_
                    refine xj_sub (lv' := [(4, .int (nI (i + 1))), (3, .int (nI (j + 1))), (0, .ref t), (1, .int (nI p)), (2, .ref m)]) [0, 3, 4, 5, 6] rfl ?_
                    refine ih _ (j + 1) zg12 ?_ (by omega) ?_ hr1
                    · rw [ezg12, gs_s, ezv11, lRow_top1 hs]
                      exact lRow_set1 hs _
                    · rw [ezg12]; exact hf.gs rfl _ _
              · exact absurd zc105 (by rw [h3]; decide)
            · exact absurd (by rw [ezW]; exact bI_0.mpr (fun h9 => h1 (decide_eq_true h9))) zc60
        · have hl1 := hs.1
          simp only [List.length_cons] at hl1
          obtain ⟨j, rfl⟩ : ∃ j, top = j + 2 := ⟨top - 2, by omega⟩
          refine xj_iload (i := 5) 0 rfl dX10_worth_40 ?_
          refine xj_ineg dX10_worth_42 ?_
          refine xj_sipush (v := 262) (by decide) dX10_worth_43 ?_
          refine xj_isub dX10_worth_46 ?_
          refine xj_iconst (v := 5) (by decide) dX10_worth_47 ?_
          refine xj_callSN kn_X10_21 (c_X11_within l (d + 0) ((-zv1) - 262) 5 _) (As := [.int ((-zv1) - 262), .int 5]) (st := []) rfl rfl (xRm_of (by omega) (by decide) (by omega) (by omega)) (Nat.le_of_ble_eq_true rfl) dX10_worth_48 (yk_p (kc := 0) (ks := 0) ?_)
          refine xj_topi (fun zv13 ezv13 => ?_)
          refine xj_istore (i := 6) (lv1 := [(6, .int zv13), (5, .int zv1), (4, .int (nI i)), (3, .int (nI (j + 2))), (0, .ref t), (1, .int (nI p)), (2, .ref m)]) rfl (Nat.le_of_ble_eq_true rfl) dX10_worth_51 ?_
          have ezW : zv13 = bI (0 ≤ nmI zv1 ∧ nmI zv1 ≤ 5) := ezv13
          refine xj_iload (i := 5) 1 rfl dX10_worth_53 ?_
          refine xj_if_ge (tgt := 63) (by decide) dX10_worth_55 (fun zc55 => ?_) (fun zc55 => ?_)
          · exact absurd zc55 h2
          · refine xj_iload (i := 6) 0 rfl dX10_worth_58 ?_
            refine xj_if_eq (tgt := 100) (by decide) dX10_worth_60 (fun zc60 => ?_) (fun zc60 => ?_)
            · refine xj_iload (i := 5) 1 rfl dX10_worth_100 ?_
              refine xj_sipush (v := (-261)) (by decide) dX10_worth_102 ?_
              refine xj_icmp_ne (tgt := 140) (by decide) dX10_worth_105 (fun zc105 => ?_) (fun zc105 => ?_)
              · refine xj_iload (i := 5) 1 rfl dX10_worth_140 ?_
                refine xj_bipush (v := (-3)) (by decide) dX10_worth_142 ?_
                refine xj_icmp_ne (tgt := 172) (by decide) dX10_worth_144 (fun zc144 => ?_) (fun zc144 => ?_)
                · refine xj_iload_n (n := 3) (i := 3) 3 rfl rfl dX10_worth_172 ?_
                  refine xj_iconst (v := 2) (by decide) dX10_worth_173 ?_
                  refine xj_icmp_lt (tgt := 208) (by decide) dX10_worth_174 (fun zc174 => ?_) (fun zc174 => ?_)
                  · exact absurd zc174 (nI_nlt (a := j + 2) (b := 2) (by omega) (by omega))
                  · refine xj_iinc (n := -1) (i := 3) (v := nI (j + 1)) (lv1 := [(3, .int (nI (j + 1))), (6, .int zv13), (5, .int zv1), (4, .int (nI i)), (0, .ref t), (1, .int (nI p)), (2, .ref m)]) 3 rfl (pk_m1 (j + 1)) rfl (Nat.le_of_ble_eq_true rfl) dX10_worth_177 ?_
                    refine xj_aload_n (n := 0) (i := 0) 4 rfl rfl dX10_worth_180 ?_
                    refine yj_getf (v := .ref (t + 3)) fl_X10_9_10 (by omega) (hT.2.1 (g1 t)) rfl dX10_worth_181 ?_
                    refine xj_iload_n (n := 3) (i := 3) 0 rfl rfl dX10_worth_184 ?_
                    refine xj_iconst (v := 1) (by decide) dX10_worth_185 ?_
                    refine xj_isub dX10_worth_186 ?_
                    refine xj_iload (i := 5) 2 rfl dX10_worth_187 ?_
                    refine xj_ineg dX10_worth_189 ?_
                    refine xj_aload_n (n := 0) (i := 0) 4 rfl rfl dX10_worth_190 ?_
                    refine yj_getf (v := .ref (t + 3)) fl_X10_9_10 (by omega) (hT.2.1 (g1 t)) rfl dX10_worth_191 ?_
                    refine xj_iload_n (n := 3) (i := 3) 0 rfl rfl dX10_worth_194 ?_
                    refine xj_iconst (v := 1) (by decide) dX10_worth_195 ?_
                    refine xj_isub dX10_worth_196 ?_
                    refine yj_ialdN j (by omega) hT.2.2.2.2 (nI_pred j) (by omega) (by decide) dX10_worth_197 ?_
                    refine xj_aload_n (n := 0) (i := 0) 4 rfl rfl dX10_worth_198 ?_
                    refine yj_getf (v := .ref (t + 3)) fl_X10_9_10 (by omega) (hT.2.1 (g1 t)) rfl dX10_worth_199 ?_
                    refine xj_iload_n (n := 3) (i := 3) 0 rfl rfl dX10_worth_202 ?_
                    refine yj_ialdN (j + 1) (by omega) hT.2.2.2.2 rfl (by omega) (by decide) dX10_worth_203 ?_
                    refine xj_callS ks_X10_25 (c_X10_joined l (d + 0) (-zv1) (g1 (t + 3) j) (g1 (t + 3) (j + 1)) _) (As := [.int (-zv1), .int (g1 (t + 3) j), .int (g1 (t + 3) (j + 1))]) (st := [.int ((nI (j + 1)) - 1), .ref (t + 3)]) rfl rfl (xRm_of (by omega) (by decide) (by omega) (by omega)) (Nat.le_of_ble_eq_true rfl) dX10_worth_204 (yk_p (kc := 0) (ks := 0) ?_)
                    refine xj_topi (fun zv14 ezv14 => ?_)
                    refine yj_iastN j (by omega) hT.2.2.2.2 (nI_pred j) (by omega) (by decide) dX10_worth_207 ?_
                    obtain ⟨zg15, ezg15⟩ : ∃ z, z = gs g1 (t + 3) j zv14 := ⟨_, rfl⟩
                    rw [← ezg15]
                    refine xj_iinc (n := 1) (i := 4) (v := nI (i + 1)) (lv1 := [(4, .int (nI (i + 1))), (3, .int (nI (j + 1))), (6, .int zv13), (5, .int zv1), (0, .ref t), (1, .int (nI p)), (2, .ref m)]) 3 rfl (nI_1 i) rfl (Nat.le_of_ble_eq_true rfl) dX10_worth_208 ?_
                    refine xj_goto (tgt := 20) (by decide) dX10_worth_211 ?_
                    refine xj_sub (lv' := [(4, .int (nI (i + 1))), (3, .int (nI (j + 1))), (0, .ref t), (1, .int (nI p)), (2, .ref m)]) [0, 1, 4, 5, 6] rfl ?_
                    refine ih _ (j + 1) zg15 ?_ (by omega) ?_ hr1
                    · rw [ezg15, gs_s, ezv14, lRow_top1 hs, lRow_top1 (lRow_pop1 hs)]
                      exact lRow_set1 (lRow_pop1 hs) _
                    · rw [ezg15]; exact hf.gs rfl _ _
                · exact absurd zc144 h4
              · exact absurd zc105 h3
            · exact absurd (by rw [ezW]; exact bI_0.mpr (fun h9 => h1 (decide_eq_true h9))) zc60
  show xJ l (RX10, 7, (some .int), false, (xR (d + 1) 0 0), none) cX10_worth _ 0 0 0 [(0, .ref t), (1, .int (nI p)), (2, .ref m)] [] (n, fh g)
  refine xj_iconst (v := 0) (by decide) dX10_worth_0 ?_
  refine xj_istore_n (n := 3) (i := 3) (lv1 := [(3, .int 0), (0, .ref t), (1, .int (nI p)), (2, .ref m)]) rfl rfl (Nat.le_of_ble_eq_true rfl) dX10_worth_1 ?_
  refine xj_iload_n (n := 1) (i := 1) 2 rfl rfl dX10_worth_2 ?_
  refine xj_if_ne (tgt := 10) (by decide) dX10_worth_3 (fun zc3 => ?_) (fun zc3 => ?_)
  · obtain ⟨p1, rfl⟩ : ∃ p1, p = p1 + 1 := ⟨p - 1, by have : p ≠ 0 := (fun e => zc3 (by rw [e]; rfl)); omega⟩
    refine xj_aload_n (n := 0) (i := 0) 1 rfl rfl dX10_worth_10 ?_
    refine yj_getf (v := .ref (t + 2)) fl_X10_18_10 (by omega) (hT.2.1 (g t)) rfl dX10_worth_11 ?_
    refine xj_iload_n (n := 1) (i := 1) 2 rfl rfl dX10_worth_14 ?_
    refine xj_iconst (v := 1) (by decide) dX10_worth_15 ?_
    refine xj_isub dX10_worth_16 ?_
    refine yj_ialdN p1 (by omega) hT.2.2.2.1 (nI_pred p1) (by omega) (by decide) dX10_worth_17 ?_
    refine xj_top (y := nI (b (p1 + 1))) (hbs p1 (by omega)).2 ?_
    refine xj_istore (i := 4) (lv1 := [(4, .int (nI (b (p1 + 1)))), (3, .int 0), (0, .ref t), (1, .int (nI (p1 + 1))), (2, .ref m)]) rfl (Nat.le_of_ble_eq_true rfl) dX10_worth_18 ?_
    refine xj_sub (lv' := [(4, .int (nI (b (p1 + 1)))), (3, .int 0), (0, .ref t), (1, .int (nI (p1 + 1))), (2, .ref m)]) [0, 1, 2, 3, 4] rfl ?_
    exact key (b (p1 + 1)) hbp [] 0 g (lRow_0 _) (by omega) fr.rf (by have h9 := hrun (p1 + 1) hp (g m); rw [← hN] at h9; exact h9)
  · obtain rfl : p = 0 := by have h9 := (nI_eq (a := p) (b := 0) (by omega) (by omega)).mp zc3; exact h9
    refine xj_iconst (v := 0) (by decide) dX10_worth_6 ?_
    refine xj_goto (tgt := 18) (by decide) dX10_worth_7 ?_
    refine xj_top (y := nI (b 0)) (by rw [hb0]; rfl) ?_
    refine xj_istore (i := 4) (lv1 := [(4, .int (nI (b 0))), (3, .int 0), (0, .ref t), (1, .int (nI 0)), (2, .ref m)]) rfl (Nat.le_of_ble_eq_true rfl) dX10_worth_18 ?_
    refine xj_sub (lv' := [(4, .int (nI (b 0))), (3, .int 0), (0, .ref t), (1, .int (nI 0)), (2, .ref m)]) [0, 1, 2, 3, 4] rfl ?_
    exact key (b 0) hbp [] 0 g (lRow_0 _) (by omega) fr.rf (by have h9 := hrun 0 hp (g m); rw [← hN] at h9; exact h9)
