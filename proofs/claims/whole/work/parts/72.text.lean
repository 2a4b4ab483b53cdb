def swN : Nat → Nat
  | 0 => 0
  | i + 1 => if xBytes.getD i 0 = 32 then swN i + 1 else swN i
def sfN : Nat → Nat
  | 0 => 0
  | i + 1 => if xBytes.getD i 0 = 32 then i + 1 else sfN i
theorem wk_all : ∀ i, i < 63 → (swN i < 12 ∧ sfN i ≤ i ∧ (xBytes.getD i 0 = 32 → fsL.getD (swN i) 0 = sfN i ∧ lnL.getD (swN i) 0 = i - sfN i)) := by decide +kernel
theorem wk_63 : swN 63 = 12 := by decide +kernel
theorem wk_y {i : Nat} (h : xBytes.getD i 0 = 32) : swN (i + 1) = swN i + 1 ∧ sfN (i + 1) = i + 1 := ⟨if_pos h, if_pos h⟩
theorem wk_n {i : Nat} (h : ¬ xBytes.getD i 0 = 32) : swN (i + 1) = swN i ∧ sfN (i + 1) = sfN i := ⟨if_neg h, if_neg h⟩
theorem isLt_i {x : Int32} : (97 ≤ x ∧ x ≤ 122) ↔ isLt x = true := (decide_eq_true_iff (p := 97 ≤ x ∧ x ≤ 122)).symm
theorem isDg_i {x : Int32} : (48 ≤ x ∧ x ≤ 57) ↔ isDg x = true := (decide_eq_true_iff (p := 48 ≤ x ∧ x ≤ 57)).symm
theorem isSg_i {x : Int32} : (x = 40 ∨ x = 41 ∨ x = 59 ∨ x = 43 ∨ x = 45 ∨ x = 42 ∨ x = 60 ∨ x = 61) ↔ isSg x = true := (decide_eq_true_iff (p := x = 40 ∨ x = 41 ∨ x = 59 ∨ x = 43 ∨ x = 45 ∨ x = 42 ∨ x = 60 ∨ x = 61)).symm
/-- the fields of the tape that stay -/
def fq (X : Nat → Prop) (g g1 : xG) : Prop := (∀ j, j ≠ 67 → g1 j = g j) ∧ ∀ k, ¬ X k → g1 67 k = g 67 k
theorem fq.rf {X : Nat → Prop} {g : xG} : fq X g g := ⟨fun _ _ => rfl, fun _ _ => rfl⟩
theorem fq.gs {X : Nat → Prop} {g g1 : xG} (h : fq X g g1) {k : Nat} (hk : X k) (x : Int32) : fq X g (gs g1 67 k x) := ⟨fun j hj => by rw [gs_n _ _ _ hj]; exact h.1 j hj, fun i hi => by rw [gs_s, upd_n _ _ (fun e => hi (by rw [e]; exact hk))]; exact h.2 i hi⟩
theorem fq.tr {X : Nat → Prop} {g g1 g2 : xG} (h : fq X g g1) (h2 : fq X g1 g2) : fq X g g2 := ⟨fun j hj => (h2.1 j hj).trans (h.1 j hj), fun k hk => (h2.2 k hk).trans (h.2 k hk)⟩
theorem fq.mono {X Y : Nat → Prop} {g g1 : xG} (h : fq X g g1) (hXY : ∀ k, X k → Y k) : fq Y g g1 := ⟨h.1, fun k hk => h.2 k (fun z => hk (hXY k z))⟩
def tX (k : Nat) : Prop := k = 1 ∨ k = 6 ∨ k = 7 ∨ k = 8
theorem dg_n {x : Int32} (h : isDg x = true) : ∃ k, k ≤ 9 ∧ x = nI (48 + k) := by
  obtain ⟨h1, h2⟩ := isDg_i.mpr h
  obtain ⟨k, hk, rfl⟩ := nI_bnd (x := x) (M := 57) (m := 57) (by decide) ((i32_le _ _).mpr (by have a := (i32_le _ _).mp h1; have e : (48 : Int32).toInt = 48 := rfl; have e0 : (0 : Int32).toInt = 0 := rfl; omega)) h2
  have h3 := (nI_leI (a := 48) (by decide) (by omega)).mp h1
  exact ⟨k - 48, by omega, by rw [show 48 + (k - 48) = k by omega]⟩
/-- a number of so many digits -/
theorem nuF_n (b : Nat → Int32) (s : Nat) : ∀ k, (∀ j, j < k → isDg (b (s + j)) = true) → ∃ m, m < 10 ^ k ∧ nuF b s k = nI m
  | 0, _ => ⟨0, by decide, rfl⟩
  | k + 1, h => by
    obtain ⟨m, hm, e⟩ := nuF_n b s k (fun j hj => h j (by omega))
    obtain ⟨c, hc, e2⟩ := dg_n (h k (Nat.lt_succ_self k))
    refine ⟨10 * m + c, ?_, ?_⟩
    · rw [Nat.pow_succ]; omega
    · show 10 * nuF b s k + b (s + k) - 48 = _
      rw [e, e2, show (10 : Int32) = nI 10 from rfl, pk_mul, nI_add, show (48 : Int32) = nI 48 from rfl, pk_sub (by omega)]
      congr 1
      omega
theorem nm_ok {b : Nat → Int32} {z i : Nat} (h : tkP b z i = 1) : ∃ m, m < 10000 ∧ nmP b z i = nI m := by
  have hc : rnP isDg b z (stP b z i) - stP b z i ≤ 4 ∧ isDg (b (stP b z i)) = true := by
    unfold tkP at h
    split at h
    · exact absurd h (by decide)
    · split at h
      · rename_i h1 h2
        have h3 : ∀ n, ¬ wdF (mtW b (stP b z i) (rnP isLt b z (stP b z i))) n = 1 ∨ 744 < n := by
          intro n
          induction n with
          | zero => exact Or.inl (show ¬ (2 : Int32) = 1 by decide)
          | succ k ih =>
            by_cases hk : 744 < k + 1
            · exact Or.inr hk
            · refine Or.inl ?_
              unfold wdF
              split
              · exact nI_ne (b := 1) (by omega) (by omega) (by decide)
              · rcases ih with ih | ih
                · exact ih
                · omega
        rcases h3 12 with h3 | h3
        · exact absurd h h3
        · omega
      · split at h
        · split at h
          · exact ⟨by assumption, by assumption⟩
          · exact absurd h (by decide)
        · split at h
          · rename_i hs
            rw [h] at hs
            exact absurd hs (by decide)
          · exact absurd h (by decide)
  obtain ⟨m, hm, e⟩ := nuF_n b (stP b z i) (rnP isDg b z (stP b z i) - stP b z i) (fun j hj => rnF_in isDg b (z - stP b z i) (stP b z i) _ (by omega) (by unfold rnP at hj; omega))
  refine ⟨m, Nat.lt_of_lt_of_le hm ?_, e⟩
  exact (Nat.pow_le_pow_right (n := 10) (by decide) hc.1 : 10 ^ (rnP isDg b z (stP b z i) - stP b z i) ≤ 10 ^ 4)
theorem num_nm {m : Nat} (h : m < 10000) : 0 ≤ nI m ∧ ¬ isNm (nI m) = true := by
  refine ⟨nI_pos' (by omega), fun y => ?_⟩
  have h1 := (of_decide_eq_true y : 0 ≤ nmI (nI m) ∧ nmI (nI m) ≤ 5).1
  have h2 := (i32_le _ _).mp h1
  have h3 : (nmI (nI m)).toInt = - (m : Int) - 262 := by
    unfold nmI
    rw [show (-nI m - 262 : Int32) = 0 - nI m - nI 262 from by rw [Int32.zero_sub]; rfl, show (0 : Int32) - nI m - nI 262 = 0 - (nI m + nI 262) from by rw [Int32.sub_sub], nI_add, show (0 : Int32) = nI 0 from rfl, pk_sub_toInt (by omega) (by omega)]
    omega
  rw [h3, i32_0] at h2
  omega
/-- the state of the tape: at the token from place i on, with these codes out (the newest first) -/
def tpA (g : xG) (z : Nat) (b : Nat → Int32) (i : Nat) (C : List Int32) : Prop := g 67 0 = nI z ∧ g 68 = b ∧ g 67 1 = nI (stP b z i) ∧ g 67 6 = nI (nxP b z i) ∧ g 67 7 = tkP b z i ∧ (tkP b z i = 1 → g 67 8 = nmP b z i) ∧ g 67 5 = nI C.length ∧ lRow C C.length (g 69)
set_option maxHeartbeats 4000000 in
set_option maxRecDepth 100000 in
theorem c_X9_isLetter (l : Launch) (d : Nat) (a : Int32) (h : xH)  : xC l yX9_isLetter cX9_isLetter 1 (some .boolean) (xR (d + 0) 0 0) [.int a] h (qP (bI (97 ≤ a ∧ a ≤ 122)) h) := by
  refine xC_of false (by decide +kernel) (fun z => by cases z) (Nat.le_of_ble_eq_true rfl) ?_
  show xJ l (RX9, 1, (some .boolean), false, (xR (d + 0) 0 0), none) cX9_isLetter _ 0 0 0 [(0, .int a)] [] h
  refine xj_iload_n (n := 0) (i := 0) 0 rfl rfl dX9_isLetter_0 ?_
  refine xj_bipush (v := 97) (by decide) dX9_isLetter_1 ?_
  refine xj_icmp_lt (tgt := 16) (by decide) dX9_isLetter_3 (fun zc3 => ?_) (fun zc3 => ?_)
  · refine xj_iconst (v := 0) (by decide) dX9_isLetter_16 ?_
    exact xj_ireturn rfl nr_b0 (Nat.zero_le _) (Nat.zero_le _) dX9_isLetter_17 (qP_e (by unfold bI; split <;> first | rfl | (exfalso; simp only [i32_lt, i32_le, i32_0] at *; omega)))
  · refine xj_iload_n (n := 0) (i := 0) 0 rfl rfl dX9_isLetter_6 ?_
    refine xj_bipush (v := 122) (by decide) dX9_isLetter_7 ?_
    refine xj_icmp_gt (tgt := 16) (by decide) dX9_isLetter_9 (fun zc9 => ?_) (fun zc9 => ?_)
    · refine xj_iconst (v := 0) (by decide) dX9_isLetter_16 ?_
      exact xj_ireturn rfl nr_b0 (Nat.zero_le _) (Nat.zero_le _) dX9_isLetter_17 (qP_e (by unfold bI; split <;> first | rfl | (exfalso; simp only [i32_lt, i32_le, i32_0] at *; omega)))
    · refine xj_iconst (v := 1) (by decide) dX9_isLetter_12 ?_
      refine xj_goto (tgt := 17) (by decide) dX9_isLetter_13 ?_
      exact xj_ireturn rfl nr_b1 (Nat.zero_le _) (Nat.zero_le _) dX9_isLetter_17 (qP_e (by unfold bI; split <;> first | rfl | (exfalso; simp only [i32_lt, i32_le, i32_0] at *; omega)))
set_option maxHeartbeats 4000000 in
set_option maxRecDepth 100000 in
theorem c_X9_isDigit (l : Launch) (d : Nat) (a : Int32) (h : xH)  : xC l yX9_isDigit cX9_isDigit 1 (some .boolean) (xR (d + 0) 0 0) [.int a] h (qP (bI (48 ≤ a ∧ a ≤ 57)) h) := by
  refine xC_of false (by decide +kernel) (fun z => by cases z) (Nat.le_of_ble_eq_true rfl) ?_
  show xJ l (RX9, 1, (some .boolean), false, (xR (d + 0) 0 0), none) cX9_isDigit _ 0 0 0 [(0, .int a)] [] h
  refine xj_iload_n (n := 0) (i := 0) 0 rfl rfl dX9_isDigit_0 ?_
  refine xj_bipush (v := 48) (by decide) dX9_isDigit_1 ?_
  refine xj_icmp_lt (tgt := 16) (by decide) dX9_isDigit_3 (fun zc3 => ?_) (fun zc3 => ?_)
  · refine xj_iconst (v := 0) (by decide) dX9_isDigit_16 ?_
    exact xj_ireturn rfl nr_b0 (Nat.zero_le _) (Nat.zero_le _) dX9_isDigit_17 (qP_e (by unfold bI; split <;> first | rfl | (exfalso; simp only [i32_lt, i32_le, i32_0] at *; omega)))
  · refine xj_iload_n (n := 0) (i := 0) 0 rfl rfl dX9_isDigit_6 ?_
    refine xj_bipush (v := 57) (by decide) dX9_isDigit_7 ?_
    refine xj_icmp_gt (tgt := 16) (by decide) dX9_isDigit_9 (fun zc9 => ?_) (fun zc9 => ?_)
    · refine xj_iconst (v := 0) (by decide) dX9_isDigit_16 ?_
      exact xj_ireturn rfl nr_b0 (Nat.zero_le _) (Nat.zero_le _) dX9_isDigit_17 (qP_e (by unfold bI; split <;> first | rfl | (exfalso; simp only [i32_lt, i32_le, i32_0] at *; omega)))
    · refine xj_iconst (v := 1) (by decide) dX9_isDigit_12 ?_
      refine xj_goto (tgt := 17) (by decide) dX9_isDigit_13 ?_
      exact xj_ireturn rfl nr_b1 (Nat.zero_le _) (Nat.zero_le _) dX9_isDigit_17 (qP_e (by unfold bI; split <;> first | rfl | (exfalso; simp only [i32_lt, i32_le, i32_0] at *; omega)))
set_option maxHeartbeats 4000000 in
set_option maxRecDepth 100000 in
theorem c_X9_isSign (l : Launch) (d : Nat) (a : Int32) (h : xH)  : xC l yX9_isSign cX9_isSign 1 (some .boolean) (xR (d + 0) 0 0) [.int a] h (qP (bI (a = 40 ∨ a = 41 ∨ a = 59 ∨ a = 43 ∨ a = 45 ∨ a = 42 ∨ a = 60 ∨ a = 61)) h) := by
  refine xC_of false (by decide +kernel) (fun z => by cases z) (Nat.le_of_ble_eq_true rfl) ?_
  show xJ l (RX9, 1, (some .boolean), false, (xR (d + 0) 0 0), none) cX9_isSign _ 0 0 0 [(0, .int a)] [] h
  refine xj_iload_n (n := 0) (i := 0) 0 rfl rfl dX9_isSign_0 ?_
  refine xj_bipush (v := 40) (by decide) dX9_isSign_1 ?_
  refine xj_icmp_eq (tgt := 48) (by decide) dX9_isSign_3 (fun zc3 => ?_) (fun zc3 => ?_)
  · refine xj_iconst (v := 1) (by decide) dX9_isSign_48 ?_
    refine xj_goto (tgt := 53) (by decide) dX9_isSign_49 ?_
    exact xj_ireturn rfl nr_b1 (Nat.zero_le _) (Nat.zero_le _) dX9_isSign_53 (qP_e (by unfold bI; split <;> first | rfl | (exfalso; simp_all; done)))
  · refine xj_iload_n (n := 0) (i := 0) 0 rfl rfl dX9_isSign_6 ?_
    refine xj_bipush (v := 41) (by decide) dX9_isSign_7 ?_
    refine xj_icmp_eq (tgt := 48) (by decide) dX9_isSign_9 (fun zc9 => ?_) (fun zc9 => ?_)
    · refine xj_iconst (v := 1) (by decide) dX9_isSign_48 ?_
      refine xj_goto (tgt := 53) (by decide) dX9_isSign_49 ?_
      exact xj_ireturn rfl nr_b1 (Nat.zero_le _) (Nat.zero_le _) dX9_isSign_53 (qP_e (by unfold bI; split <;> first | rfl | (exfalso; simp_all; done)))
    · refine xj_iload_n (n := 0) (i := 0) 0 rfl rfl dX9_isSign_12 ?_
      refine xj_bipush (v := 59) (by decide) dX9_isSign_13 ?_
      refine xj_icmp_eq (tgt := 48) (by decide) dX9_isSign_15 (fun zc15 => ?_) (fun zc15 => ?_)
      · refine xj_iconst (v := 1) (by decide) dX9_isSign_48 ?_
        refine xj_goto (tgt := 53) (by decide) dX9_isSign_49 ?_
        exact xj_ireturn rfl nr_b1 (Nat.zero_le _) (Nat.zero_le _) dX9_isSign_53 (qP_e (by unfold bI; split <;> first | rfl | (exfalso; simp_all; done)))
      · refine xj_iload_n (n := 0) (i := 0) 0 rfl rfl dX9_isSign_18 ?_
        refine xj_bipush (v := 43) (by decide) dX9_isSign_19 ?_
        refine xj_icmp_eq (tgt := 48) (by decide) dX9_isSign_21 (fun zc21 => ?_) (fun zc21 => ?_)
        · refine xj_iconst (v := 1) (by decide) dX9_isSign_48 ?_
          refine xj_goto (tgt := 53) (by decide) dX9_isSign_49 ?_
          exact xj_ireturn rfl nr_b1 (Nat.zero_le _) (Nat.zero_le _) dX9_isSign_53 (qP_e (by unfold bI; split <;> first | rfl | (exfalso; simp_all; done)))
        · refine xj_iload_n (n := 0) (i := 0) 0 rfl rfl dX9_isSign_24 ?_
          refine xj_bipush (v := 45) (by decide) dX9_isSign_25 ?_
          refine xj_icmp_eq (tgt := 48) (by decide) dX9_isSign_27 (fun zc27 => ?_) (fun zc27 => ?_)
          · refine xj_iconst (v := 1) (by decide) dX9_isSign_48 ?_
            refine xj_goto (tgt := 53) (by decide) dX9_isSign_49 ?_
            exact xj_ireturn rfl nr_b1 (Nat.zero_le _) (Nat.zero_le _) dX9_isSign_53 (qP_e (by unfold bI; split <;> first | rfl | (exfalso; simp_all; done)))
          · refine xj_iload_n (n := 0) (i := 0) 0 rfl rfl dX9_isSign_30 ?_
            refine xj_bipush (v := 42) (by decide) dX9_isSign_31 ?_
            refine xj_icmp_eq (tgt := 48) (by decide) dX9_isSign_33 (fun zc33 => ?_) (fun zc33 => ?_)
            · refine xj_iconst (v := 1) (by decide) dX9_isSign_48 ?_
              refine xj_goto (tgt := 53) (by decide) dX9_isSign_49 ?_
              exact xj_ireturn rfl nr_b1 (Nat.zero_le _) (Nat.zero_le _) dX9_isSign_53 (qP_e (by unfold bI; split <;> first | rfl | (exfalso; simp_all; done)))
            · refine xj_iload_n (n := 0) (i := 0) 0 rfl rfl dX9_isSign_36 ?_
              refine xj_bipush (v := 60) (by decide) dX9_isSign_37 ?_
              refine xj_icmp_eq (tgt := 48) (by decide) dX9_isSign_39 (fun zc39 => ?_) (fun zc39 => ?_)
              · refine xj_iconst (v := 1) (by decide) dX9_isSign_48 ?_
                refine xj_goto (tgt := 53) (by decide) dX9_isSign_49 ?_
                exact xj_ireturn rfl nr_b1 (Nat.zero_le _) (Nat.zero_le _) dX9_isSign_53 (qP_e (by unfold bI; split <;> first | rfl | (exfalso; simp_all; done)))
              · refine xj_iload_n (n := 0) (i := 0) 0 rfl rfl dX9_isSign_42 ?_
                refine xj_bipush (v := 61) (by decide) dX9_isSign_43 ?_
                refine xj_icmp_ne (tgt := 52) (by decide) dX9_isSign_45 (fun zc45 => ?_) (fun zc45 => ?_)
                · refine xj_iconst (v := 0) (by decide) dX9_isSign_52 ?_
                  exact xj_ireturn rfl nr_b0 (Nat.zero_le _) (Nat.zero_le _) dX9_isSign_53 (qP_e (by unfold bI; split <;> first | rfl | (exfalso; simp_all; done)))
                · refine xj_iconst (v := 1) (by decide) dX9_isSign_48 ?_
                  refine xj_goto (tgt := 53) (by decide) dX9_isSign_49 ?_
                  exact xj_ireturn rfl nr_b1 (Nat.zero_le _) (Nat.zero_le _) dX9_isSign_53 (qP_e (by unfold bI; split <;> first | rfl | (exfalso; simp_all; done)))
set_option maxHeartbeats 4000000 in
set_option maxRecDepth 100000 in
theorem c_X9_stepNumber (l : Launch) (d : Nat) (n : Nat) (hn : 110 ≤ n) (g : xG) (b : Nat → Int32) (z : Nat) (hz : z ≤ 160) (hb : g 68 = b) (h0 : g 67 0 = nI z) (s : Nat) (hs : s ≤ z) (h1 : g 67 1 = nI s) (h6 : g 67 6 = nI s)  : xC l yX9_stepNumber cX9_stepNumber 1 none (xR (d + 1) 0 0) [.ref 67] (n, fh g) (qV n fun g1 => fq tX g g1 ∧ g1 67 1 = nI s ∧ g1 67 6 = nI (rnP isDg b z s) ∧ g1 67 7 = (if rnP isDg b z s - s ≤ 4 then 1 else 2) ∧ (rnP isDg b z s - s ≤ 4 → g1 67 8 = nuF b s (rnP isDg b z s - s))) := by
  refine xC_of false (by decide +kernel) (fun z => by cases z) (Nat.le_of_ble_eq_true rfl) ?_
  show xJ l (RX9, 1, none, false, (xR (d + 1) 0 0), none) cX9_stepNumber _ 0 0 0 [(0, .ref 67)] [] (n, fh g)
  refine xj_aload_n (n := 0) (i := 0) 0 rfl rfl dX9_stepNumber_0 ?_
  refine xj_iconst (v := 0) (by decide) dX9_stepNumber_1 ?_
  refine yj_puti fl_X9_37_9 (by omega) fS_67_8 (fi_i _) dX9_stepNumber_2 ?_
  obtain ⟨zg1, ezg1⟩ : ∃ x9, x9 = gs g 67 8 0 := ⟨_, rfl⟩
  rw [← ezg1]
  have t0zg1 : zg1 67 0 = nI z := by rw [ezg1, gs_s, upd_n _ _ (by decide)]; exact h0
  have t1zg1 : zg1 67 1 = nI s := by rw [ezg1, gs_s, upd_n _ _ (by decide)]; exact h1
  have t6zg1 : zg1 67 6 = nI s := by rw [ezg1, gs_s, upd_n _ _ (by decide)]; exact h6
  have t8zg1 : zg1 67 8 = 0 := by rw [ezg1, gs_s, upd_s]
  have r68zg1 : zg1 68 = b := by rw [ezg1, gs_n _ _ _ (by decide)]; exact hb
  have fzg1 : fq tX g zg1 := by rw [ezg1]; exact fq.rf.gs (by unfold tX; omega) _
  have key : ∀ i, i ≤ z → ∀ (g1 : xG), fq tX g g1 → g1 67 1 = nI s → g1 67 6 = nI i → (i - s ≤ 4 → g1 67 8 = nuF b s (i - s)) → rnP isDg b z i = rnP isDg b z s → s ≤ i → xJ l (RX9, 1, none, false, (xR (d + 1) 0 0), none) cX9_stepNumber (qV n fun g1 => fq tX g g1 ∧ g1 67 1 = nI s ∧ g1 67 6 = nI (rnP isDg b z s) ∧ g1 67 7 = (if rnP isDg b z s - s ≤ 4 then 1 else 2) ∧ (rnP isDg b z s - s ≤ 4 → g1 67 8 = nuF b s (rnP isDg b z s - s))) 0 0 5 [(0, .ref 67)] [] (n, fh g1) := by
    refine x_loop z _ ?_ ?_
    · intro g1 hf hs1 hs6 h8 hr hsi9
      have hend : rnP isDg b z z = z := rnP_z (Nat.le_refl z)
      have hr2 : rnP isDg b z s = z := hr.symm.trans hend
      have hsi := hsi9
      refine xj_aload_n (n := 0) (i := 0) 0 rfl rfl dX9_stepNumber_5 ?_
      refine yj_getf (v := .int (nI z)) fl_X9_31_9 (by omega) (fq_67 g1) (congrArg (fun z => some (Value.int z)) hs6) dX9_stepNumber_6 ?_
      refine xj_aload_n (n := 0) (i := 0) 0 rfl rfl dX9_stepNumber_9 ?_
      refine yj_getf (v := .int (nI z)) fl_X9_9_9 (by omega) (fq_67 g1) (congrArg (fun z => some (Value.int z)) (hf.2 0 (by unfold tX; omega) |>.trans h0)) dX9_stepNumber_10 ?_
      refine xj_icmp_ge (tgt := 88) (by decide) dX9_stepNumber_13 (fun zc13 => ?_) (fun zc13 => ?_)
      · refine xj_aload_n (n := 0) (i := 0) 0 rfl rfl dX9_stepNumber_88 ?_
        refine xj_aload_n (n := 0) (i := 0) 0 rfl rfl dX9_stepNumber_89 ?_
        refine yj_getf (v := .int (nI z)) fl_X9_31_9 (by omega) (fq_67 g1) (congrArg (fun z => some (Value.int z)) hs6) dX9_stepNumber_90 ?_
        refine xj_aload_n (n := 0) (i := 0) 0 rfl rfl dX9_stepNumber_93 ?_
        refine yj_getf (v := .int (nI s)) fl_X9_15_9 (by omega) (fq_67 g1) (congrArg (fun z => some (Value.int z)) hs1) dX9_stepNumber_94 ?_
        refine xj_isub dX9_stepNumber_97 ?_
        refine xj_top (show ((nI z) - (nI s)) = nI (z - s) from (pk_sub (by omega))) ?_
        refine xj_iconst (v := 4) (by decide) dX9_stepNumber_98 ?_
        refine xj_icmp_le (tgt := 106) (by decide) dX9_stepNumber_99 (fun zc99 => ?_) (fun zc99 => ?_)
        · have hle : z - s ≤ 4 := (nI_leI (b := 4) (by omega) (by decide)).mp zc99
          refine xj_iconst (v := 1) (by decide) dX9_stepNumber_106 ?_
          refine yj_puti fl_X9_34_9 (by omega) fS_67_7 (fi_i _) dX9_stepNumber_107 ?_
          obtain ⟨zg2, ezg2⟩ : ∃ x9, x9 = gs g1 67 7 1 := ⟨_, rfl⟩
          rw [← ezg2]
          have t0zg2 : zg2 67 0 = nI z := by rw [ezg2, gs_s, upd_n _ _ (by decide)]; exact (hf.2 0 (by unfold tX; omega) |>.trans h0)
          have t1zg2 : zg2 67 1 = nI s := by rw [ezg2, gs_s, upd_n _ _ (by decide)]; exact hs1
          have t6zg2 : zg2 67 6 = nI z := by rw [ezg2, gs_s, upd_n _ _ (by decide)]; exact hs6
          have t7zg2 : zg2 67 7 = 1 := by rw [ezg2, gs_s, upd_s]
          have r68zg2 : zg2 68 = b := by rw [ezg2, gs_n _ _ _ (by decide)]; exact ((hf.1 68 (by decide)).trans hb)
          have fzg2 : fq tX g zg2 := by rw [ezg2]; exact hf.gs (by unfold tX; omega) _
          exact xj_return rfl (Nat.zero_le _) (Nat.zero_le _) dX9_stepNumber_110 (qV_e (by rw [hr2]; exact ⟨fzg2, t1zg2, t6zg2, t7zg2.trans (if_pos hle).symm, (fun _ => (show zg2 67 8 = _ from by rw [ezg2, gs_s, upd_n _ _ (by decide)]; exact h8 hle))⟩))
        · have hle : ¬ z - s ≤ 4 := fun y => zc99 (nI_le (b := 4) y (by decide))
          refine xj_iconst (v := 2) (by decide) dX9_stepNumber_102 ?_
          refine xj_goto (tgt := 107) (by decide) dX9_stepNumber_103 ?_
          refine yj_puti fl_X9_34_9 (by omega) fS_67_7 (fi_i _) dX9_stepNumber_107 ?_
          obtain ⟨zg3, ezg3⟩ : ∃ x9, x9 = gs g1 67 7 2 := ⟨_, rfl⟩
          rw [← ezg3]
          have t0zg3 : zg3 67 0 = nI z := by rw [ezg3, gs_s, upd_n _ _ (by decide)]; exact (hf.2 0 (by unfold tX; omega) |>.trans h0)
          have t1zg3 : zg3 67 1 = nI s := by rw [ezg3, gs_s, upd_n _ _ (by decide)]; exact hs1
          have t6zg3 : zg3 67 6 = nI z := by rw [ezg3, gs_s, upd_n _ _ (by decide)]; exact hs6
          have t7zg3 : zg3 67 7 = 2 := by rw [ezg3, gs_s, upd_s]
          have r68zg3 : zg3 68 = b := by rw [ezg3, gs_n _ _ _ (by decide)]; exact ((hf.1 68 (by decide)).trans hb)
          have fzg3 : fq tX g zg3 := by rw [ezg3]; exact hf.gs (by unfold tX; omega) _
          exact xj_return rfl (Nat.zero_le _) (Nat.zero_le _) dX9_stepNumber_110 (qV_e (by rw [hr2]; exact ⟨fzg3, t1zg3, t6zg3, t7zg3.trans (if_neg hle).symm, (fun y => absurd y hle)⟩))
      · exact absurd (nI_le (Nat.le_refl _) (by omega)) zc13
    · intro i hi ih g1 hf hs1 hs6 h8 hr hsi9
      refine xj_aload_n (n := 0) (i := 0) 0 rfl rfl dX9_stepNumber_5 ?_
      refine yj_getf (v := .int (nI i)) fl_X9_31_9 (by omega) (fq_67 g1) (congrArg (fun z => some (Value.int z)) hs6) dX9_stepNumber_6 ?_
      refine xj_aload_n (n := 0) (i := 0) 0 rfl rfl dX9_stepNumber_9 ?_
      refine yj_getf (v := .int (nI z)) fl_X9_9_9 (by omega) (fq_67 g1) (congrArg (fun z => some (Value.int z)) (hf.2 0 (by unfold tX; omega) |>.trans h0)) dX9_stepNumber_10 ?_
      refine xj_icmp_ge (tgt := 88) (by decide) dX9_stepNumber_13 (fun zc13 => ?_) (fun zc13 => ?_)
      · exact absurd zc13 (nI_ge hi (by omega))
      · refine xj_aload_n (n := 0) (i := 0) 0 rfl rfl dX9_stepNumber_16 ?_
        refine yj_getf (v := .ref 68) fl_X9_18_9 (by omega) (fq_67 g1) rfl dX9_stepNumber_17 ?_
        refine xj_aload_n (n := 0) (i := 0) 0 rfl rfl dX9_stepNumber_20 ?_
        refine yj_getf (v := .int (nI i)) fl_X9_31_9 (by omega) (fq_67 g1) (congrArg (fun z => some (Value.int z)) hs6) dX9_stepNumber_21 ?_
        refine yj_ialdN i (by omega) fA_68 rfl (by omega) (by decide) dX9_stepNumber_24 ?_
        refine xj_top (congrFun ((hf.1 68 (by decide)).trans hb) i) ?_
        refine xj_callS ks_X9_91 (c_X9_isDigit l (d + 0) (b i) _) (As := [.int (b i)]) (st := []) rfl rfl (xRm_of (by omega) (by decide) (by omega) (by omega)) (Nat.le_of_ble_eq_true rfl) dX9_stepNumber_25 (yk_p (kc := 0) (ks := 0) ?_)
        refine xj_if_eq (tgt := 88) (by decide) dX9_stepNumber_28 (fun zc28 => ?_) (fun zc28 => ?_)
        · have hnd : ¬ isDg (b i) = true := fun y => bI_0.mp zc28 (isDg_i.mpr y)
          have hend : rnP isDg b z i = i := rnP_n hnd
          have hr2 : rnP isDg b z s = i := hr.symm.trans hend
          have hsi := hsi9
          refine xj_aload_n (n := 0) (i := 0) 0 rfl rfl dX9_stepNumber_88 ?_
          refine xj_aload_n (n := 0) (i := 0) 0 rfl rfl dX9_stepNumber_89 ?_
          refine yj_getf (v := .int (nI i)) fl_X9_31_9 (by omega) (fq_67 g1) (congrArg (fun z => some (Value.int z)) hs6) dX9_stepNumber_90 ?_
          refine xj_aload_n (n := 0) (i := 0) 0 rfl rfl dX9_stepNumber_93 ?_
          refine yj_getf (v := .int (nI s)) fl_X9_15_9 (by omega) (fq_67 g1) (congrArg (fun z => some (Value.int z)) hs1) dX9_stepNumber_94 ?_
          refine xj_isub dX9_stepNumber_97 ?_
          refine xj_top (show ((nI i) - (nI s)) = nI (i - s) from (pk_sub (by omega))) ?_
          refine xj_iconst (v := 4) (by decide) dX9_stepNumber_98 ?_
          refine xj_icmp_le (tgt := 106) (by decide) dX9_stepNumber_99 (fun zc99 => ?_) (fun zc99 => ?_)
          · have hle : i - s ≤ 4 := (nI_leI (b := 4) (by omega) (by decide)).mp zc99
            refine xj_iconst (v := 1) (by decide) dX9_stepNumber_106 ?_
            refine yj_puti fl_X9_34_9 (by omega) fS_67_7 (fi_i _) dX9_stepNumber_107 ?_
            obtain ⟨zg4, ezg4⟩ : ∃ x9, x9 = gs g1 67 7 1 := ⟨_, rfl⟩
            rw [← ezg4]
            have t0zg4 : zg4 67 0 = nI z := by rw [ezg4, gs_s, upd_n _ _ (by decide)]; exact (hf.2 0 (by unfold tX; omega) |>.trans h0)
            have t1zg4 : zg4 67 1 = nI s := by rw [ezg4, gs_s, upd_n _ _ (by decide)]; exact hs1
            have t6zg4 : zg4 67 6 = nI i := by rw [ezg4, gs_s, upd_n _ _ (by decide)]; exact hs6
            have t7zg4 : zg4 67 7 = 1 := by rw [ezg4, gs_s, upd_s]
            have r68zg4 : zg4 68 = b := by rw [ezg4, gs_n _ _ _ (by decide)]; exact ((hf.1 68 (by decide)).trans hb)
            have fzg4 : fq tX g zg4 := by rw [ezg4]; exact hf.gs (by unfold tX; omega) _
            exact xj_return rfl (Nat.zero_le _) (Nat.zero_le _) dX9_stepNumber_110 (qV_e (by rw [hr2]; exact ⟨fzg4, t1zg4, t6zg4, t7zg4.trans (if_pos hle).symm, (fun _ => (show zg4 67 8 = _ from by rw [ezg4, gs_s, upd_n _ _ (by decide)]; exact h8 hle))⟩))
          · have hle : ¬ i - s ≤ 4 := fun y => zc99 (nI_le (b := 4) y (by decide))
            refine xj_iconst (v := 2) (by decide) dX9_stepNumber_102 ?_
            refine xj_goto (tgt := 107) (by decide) dX9_stepNumber_103 ?_
            refine yj_puti fl_X9_34_9 (by omega) fS_67_7 (fi_i _) dX9_stepNumber_107 ?_
            obtain ⟨zg5, ezg5⟩ : ∃ x9, x9 = gs g1 67 7 2 := ⟨_, rfl⟩
            rw [← ezg5]
            have t0zg5 : zg5 67 0 = nI z := by rw [ezg5, gs_s, upd_n _ _ (by decide)]; exact (hf.2 0 (by unfold tX; omega) |>.trans h0)
            have t1zg5 : zg5 67 1 = nI s := by rw [ezg5, gs_s, upd_n _ _ (by decide)]; exact hs1
            have t6zg5 : zg5 67 6 = nI i := by rw [ezg5, gs_s, upd_n _ _ (by decide)]; exact hs6
            have t7zg5 : zg5 67 7 = 2 := by rw [ezg5, gs_s, upd_s]
            have r68zg5 : zg5 68 = b := by rw [ezg5, gs_n _ _ _ (by decide)]; exact ((hf.1 68 (by decide)).trans hb)
            have fzg5 : fq tX g zg5 := by rw [ezg5]; exact hf.gs (by unfold tX; omega) _
            exact xj_return rfl (Nat.zero_le _) (Nat.zero_le _) dX9_stepNumber_110 (qV_e (by rw [hr2]; exact ⟨fzg5, t1zg5, t6zg5, t7zg5.trans (if_neg hle).symm, (fun y => absurd y hle)⟩))
        · have hdg : isDg (b i) = true := isDg_i.mp (bI_n0.mp zc28)
          have hst := rnP_s (p := isDg) (b := b) hi hdg
          refine xj_aload_n (n := 0) (i := 0) 0 rfl rfl dX9_stepNumber_31 ?_
          refine xj_aload_n (n := 0) (i := 0) 0 rfl rfl dX9_stepNumber_32 ?_
          refine yj_getf (v := .int (nI i)) fl_X9_31_9 (by omega) (fq_67 g1) (congrArg (fun z => some (Value.int z)) hs6) dX9_stepNumber_33 ?_
          refine xj_aload_n (n := 0) (i := 0) 0 rfl rfl dX9_stepNumber_36 ?_
          refine yj_getf (v := .int (nI s)) fl_X9_15_9 (by omega) (fq_67 g1) (congrArg (fun z => some (Value.int z)) hs1) dX9_stepNumber_37 ?_
          refine xj_isub dX9_stepNumber_40 ?_
          refine xj_top (show ((nI i) - (nI s)) = nI (i - s) from (pk_sub (by omega))) ?_
          refine xj_iconst (v := 4) (by decide) dX9_stepNumber_41 ?_
          refine xj_icmp_ge (tgt := 68) (by decide) dX9_stepNumber_42 (fun zc42 => ?_) (fun zc42 => ?_)
          · have hlt : ¬ i - s < 4 := fun y => absurd ((nI_leI (a := 4) (by decide) (by omega)).mp zc42) (by omega)
            obtain ⟨zn8, hn8⟩ : ∃ y, y = g1 67 8 := ⟨_, rfl⟩
            refine xj_aload_n (n := 0) (i := 0) 0 rfl rfl dX9_stepNumber_68 ?_
            refine yj_getf (v := .int (zn8)) fl_X9_37_9 (by omega) (fq_67 g1) (congrArg (fun z => some (Value.int z)) hn8.symm) dX9_stepNumber_69 ?_
            refine xj_topi (fun zv6 ezv6 => ?_)
            refine yj_puti fl_X9_37_9 (by omega) fS_67_8 (fi_i _) dX9_stepNumber_72 ?_
            obtain ⟨zg7, ezg7⟩ : ∃ x9, x9 = gs g1 67 8 zv6 := ⟨_, rfl⟩
            rw [← ezg7]
            have t0zg7 : zg7 67 0 = nI z := by rw [ezg7, gs_s, upd_n _ _ (by decide)]; exact (hf.2 0 (by unfold tX; omega) |>.trans h0)
            have t1zg7 : zg7 67 1 = nI s := by rw [ezg7, gs_s, upd_n _ _ (by decide)]; exact hs1
            have t6zg7 : zg7 67 6 = nI i := by rw [ezg7, gs_s, upd_n _ _ (by decide)]; exact hs6
            have t8zg7 : zg7 67 8 = zv6 := by rw [ezg7, gs_s, upd_s]
            have r68zg7 : zg7 68 = b := by rw [ezg7, gs_n _ _ _ (by decide)]; exact ((hf.1 68 (by decide)).trans hb)
            have fzg7 : fq tX g zg7 := by rw [ezg7]; exact hf.gs (by unfold tX; omega) _
            refine xj_aload_n (n := 0) (i := 0) 0 rfl rfl dX9_stepNumber_75 ?_
            refine xj_dup rfl dX9_stepNumber_76 ?_
            refine yj_getf (v := .int (nI i)) fl_X9_31_9 (by omega) (fq_67 zg7) (congrArg (fun z => some (Value.int z)) t6zg7) dX9_stepNumber_77 ?_
            refine xj_iconst (v := 1) (by decide) dX9_stepNumber_80 ?_
            refine xj_iadd dX9_stepNumber_81 ?_
            refine xj_topi (fun zv8 ezv8 => ?_)
            refine yj_puti fl_X9_31_9 (by omega) fS_67_6 (fi_i _) dX9_stepNumber_82 ?_
            obtain ⟨zg9, ezg9⟩ : ∃ x9, x9 = gs zg7 67 6 zv8 := ⟨_, rfl⟩
            rw [← ezg9]
            have t0zg9 : zg9 67 0 = nI z := by rw [ezg9, gs_s, upd_n _ _ (by decide)]; exact t0zg7
            have t1zg9 : zg9 67 1 = nI s := by rw [ezg9, gs_s, upd_n _ _ (by decide)]; exact t1zg7
            have t8zg9 : zg9 67 8 = zv6 := by rw [ezg9, gs_s, upd_n _ _ (by decide)]; exact t8zg7
            have t6zg9 : zg9 67 6 = zv8 := by rw [ezg9, gs_s, upd_s]
            have r68zg9 : zg9 68 = b := by rw [ezg9, gs_n _ _ _ (by decide)]; exact r68zg7
            have fzg9 : fq tX g zg9 := by rw [ezg9]; exact fzg7.gs (by unfold tX; omega) _
            refine xj_goto (tgt := 5) (by decide) dX9_stepNumber_85 ?_
            refine xj_sub (lv' := [(0, .ref 67)]) [0] rfl ?_
            exact ih zg9 fzg9 t1zg9 (t6zg9.trans (by rw [ezv8, nI_1])) (fun y => absurd y (by omega)) (hst.symm.trans hr) (by omega)
          · have hlt : i - s < 4 := Nat.lt_of_not_le (fun y => zc42 (nI_le (a := 4) y (by omega)))
            have h88 := h8 (by omega)
            refine xj_bipush (v := 10) (by decide) dX9_stepNumber_45 ?_
            refine xj_aload_n (n := 0) (i := 0) 0 rfl rfl dX9_stepNumber_47 ?_
            refine yj_getf (v := .int (nuF b s (i - s))) fl_X9_37_9 (by omega) (fq_67 g1) (congrArg (fun z => some (Value.int z)) h88) dX9_stepNumber_48 ?_
            refine xj_imul dX9_stepNumber_51 ?_
            refine xj_aload_n (n := 0) (i := 0) 0 rfl rfl dX9_stepNumber_52 ?_
            refine yj_getf (v := .ref 68) fl_X9_18_9 (by omega) (fq_67 g1) rfl dX9_stepNumber_53 ?_
            refine xj_aload_n (n := 0) (i := 0) 0 rfl rfl dX9_stepNumber_56 ?_
            refine yj_getf (v := .int (nI i)) fl_X9_31_9 (by omega) (fq_67 g1) (congrArg (fun z => some (Value.int z)) hs6) dX9_stepNumber_57 ?_
            refine yj_ialdN i (by omega) fA_68 rfl (by omega) (by decide) dX9_stepNumber_60 ?_
            refine xj_top (congrFun ((hf.1 68 (by decide)).trans hb) i) ?_
            refine xj_iadd dX9_stepNumber_61 ?_
            refine xj_bipush (v := 48) (by decide) dX9_stepNumber_62 ?_
            refine xj_isub dX9_stepNumber_64 ?_
            refine xj_goto (tgt := 72) (by decide) dX9_stepNumber_65 ?_
            refine xj_topi (fun zv10 ezv10 => ?_)
            refine yj_puti fl_X9_37_9 (by omega) fS_67_8 (fi_i _) dX9_stepNumber_72 ?_
            obtain ⟨zg11, ezg11⟩ : ∃ x9, x9 = gs g1 67 8 zv10 := ⟨_, rfl⟩
            rw [← ezg11]
            have t0zg11 : zg11 67 0 = nI z := by rw [ezg11, gs_s, upd_n _ _ (by decide)]; exact (hf.2 0 (by unfold tX; omega) |>.trans h0)
            have t1zg11 : zg11 67 1 = nI s := by rw [ezg11, gs_s, upd_n _ _ (by decide)]; exact hs1
            have t6zg11 : zg11 67 6 = nI i := by rw [ezg11, gs_s, upd_n _ _ (by decide)]; exact hs6
            have t8zg11 : zg11 67 8 = zv10 := by rw [ezg11, gs_s, upd_s]
            have r68zg11 : zg11 68 = b := by rw [ezg11, gs_n _ _ _ (by decide)]; exact ((hf.1 68 (by decide)).trans hb)
            have fzg11 : fq tX g zg11 := by rw [ezg11]; exact hf.gs (by unfold tX; omega) _
            refine xj_aload_n (n := 0) (i := 0) 0 rfl rfl dX9_stepNumber_75 ?_
            refine xj_dup rfl dX9_stepNumber_76 ?_
            refine yj_getf (v := .int (nI i)) fl_X9_31_9 (by omega) (fq_67 zg11) (congrArg (fun z => some (Value.int z)) t6zg11) dX9_stepNumber_77 ?_
            refine xj_iconst (v := 1) (by decide) dX9_stepNumber_80 ?_
            refine xj_iadd dX9_stepNumber_81 ?_
            refine xj_topi (fun zv12 ezv12 => ?_)
            refine yj_puti fl_X9_31_9 (by omega) fS_67_6 (fi_i _) dX9_stepNumber_82 ?_
            obtain ⟨zg13, ezg13⟩ : ∃ x9, x9 = gs zg11 67 6 zv12 := ⟨_, rfl⟩
            rw [← ezg13]
            have t0zg13 : zg13 67 0 = nI z := by rw [ezg13, gs_s, upd_n _ _ (by decide)]; exact t0zg11
            have t1zg13 : zg13 67 1 = nI s := by rw [ezg13, gs_s, upd_n _ _ (by decide)]; exact t1zg11
            have t8zg13 : zg13 67 8 = zv10 := by rw [ezg13, gs_s, upd_n _ _ (by decide)]; exact t8zg11
            have t6zg13 : zg13 67 6 = zv12 := by rw [ezg13, gs_s, upd_s]
            have r68zg13 : zg13 68 = b := by rw [ezg13, gs_n _ _ _ (by decide)]; exact r68zg11
            have fzg13 : fq tX g zg13 := by rw [ezg13]; exact fzg11.gs (by unfold tX; omega) _
            refine xj_goto (tgt := 5) (by decide) dX9_stepNumber_85 ?_
            refine xj_sub (lv' := [(0, .ref 67)]) [0] rfl ?_
            exact ih zg13 fzg13 t1zg13 (t6zg13.trans (by rw [ezv12, nI_1])) (fun _ => by rw [t8zg13, show i + 1 - s = (i - s) + 1 by omega]; show _ = 10 * nuF b s (i - s) + b (s + (i - s)) - 48; rw [show s + (i - s) = i by omega, ezv10]) (hst.symm.trans hr) (by omega)
  refine xj_sub (lv' := [(0, .ref 67)]) [0] rfl ?_
  exact key s hs zg1 fzg1 t1zg1 t6zg1 (fun _ => by rw [Nat.sub_self]; exact t8zg1) rfl (Nat.le_refl s)
set_option maxHeartbeats 4000000 in
set_option maxRecDepth 100000 in
theorem c_X9_isWordFrom (l : Launch) (d : Nat) (n : Nat) (hn : 110 ≤ n) (g : xG) (b : Nat → Int32) (z : Nat) (hz : z ≤ 160) (hb : g 68 = b) (h0 : g 67 0 = nI z) (s e f : Nat) (hs : s ≤ e) (he : e ≤ z) (hf63 : f + (e - s) ≤ 62) (h1 : g 67 1 = nI s) (h6 : g 67 6 = nI e)  : xC l yX9_isWordFrom cX9_isWordFrom 3 (some .boolean) (xR (d + 5) 0 0) [.ref 67, .int (nI f)] (n, fh g) (qP (bI (∀ i, i < e - s → b (s + i) = xBytes.getD (f + i) 0)) (n, fh g)) := by
  refine xC_of false (by decide +kernel) (fun z => by cases z) (Nat.le_of_ble_eq_true rfl) ?_
  show xJ l (RX9, 3, (some .boolean), false, (xR (d + 5) 0 0), none) cX9_isWordFrom _ 0 0 0 [(0, .ref 67), (1, .int (nI f))] [] (n, fh g)
  refine xj_aload_n (n := 0) (i := 0) 0 rfl rfl dX9_isWordFrom_0 ?_
  refine yj_getf (v := .int (nI s)) fl_X9_15_9 (by omega) (fq_67 g) (congrArg (fun z => some (Value.int z)) h1) dX9_isWordFrom_1 ?_
  refine xj_istore_n (n := 2) (i := 2) (lv1 := [(2, .int (nI s)), (0, .ref 67), (1, .int (nI f))]) rfl rfl (Nat.le_of_ble_eq_true rfl) dX9_isWordFrom_4 ?_
  have key : ∀ i, i ≤ e → ∀ (_ : True), s ≤ i → (∀ j, s ≤ j → j < i → b j = xBytes.getD (f + (j - s)) 0) → xJ l (RX9, 3, (some .boolean), false, (xR (d + 5) 0 0), none) cX9_isWordFrom (qP (bI (∀ i, i < e - s → b (s + i) = xBytes.getD (f + i) 0)) (n, fh g)) 0 0 5 [(2, .int (nI i)), (0, .ref 67), (1, .int (nI f))] [] (n, fh g) := by
    refine x_loop e _ ?_ ?_
    · intro _ hsi hw
      refine xj_iload_n (n := 2) (i := 2) 0 rfl rfl dX9_isWordFrom_5 ?_
      refine xj_aload_n (n := 0) (i := 0) 1 rfl rfl dX9_isWordFrom_6 ?_
      refine yj_getf (v := .int (nI e)) fl_X9_31_9 (by omega) (fq_67 g) (congrArg (fun z => some (Value.int z)) h6) dX9_isWordFrom_7 ?_
      refine xj_icmp_ge (tgt := 43) (by decide) dX9_isWordFrom_10 (fun zc10 => ?_) (fun zc10 => ?_)
      · refine xj_iconst (v := 1) (by decide) dX9_isWordFrom_43 ?_
        exact xj_ireturn rfl nr_b1 (Nat.zero_le _) (Nat.zero_le _) dX9_isWordFrom_44 (qP_e (bI_t (fun j hj => by have h := hw (s + j) (by omega) (by omega); rwa [show s + j - s = j by omega] at h)).symm)
      · exact absurd (nI_le (Nat.le_refl _) (by omega)) zc10
    · intro i hi ih _ hsi hw
      refine xj_iload_n (n := 2) (i := 2) 0 rfl rfl dX9_isWordFrom_5 ?_
      refine xj_aload_n (n := 0) (i := 0) 1 rfl rfl dX9_isWordFrom_6 ?_
      refine yj_getf (v := .int (nI e)) fl_X9_31_9 (by omega) (fq_67 g) (congrArg (fun z => some (Value.int z)) h6) dX9_isWordFrom_7 ?_
      refine xj_icmp_ge (tgt := 43) (by decide) dX9_isWordFrom_10 (fun zc10 => ?_) (fun zc10 => ?_)
      · exact absurd zc10 (nI_ge hi (by omega))
      · refine xj_aload_n (n := 0) (i := 0) 1 rfl rfl dX9_isWordFrom_13 ?_
        refine yj_getf (v := .ref 68) fl_X9_18_9 (by omega) (fq_67 g) rfl dX9_isWordFrom_14 ?_
        refine xj_iload_n (n := 2) (i := 2) 0 rfl rfl dX9_isWordFrom_17 ?_
        refine yj_ialdN i (by omega) fA_68 rfl (by omega) (by decide) dX9_isWordFrom_18 ?_
        refine xj_top (congrFun hb i) ?_
        refine xj_ldcS rfl dX9_isWordFrom_19 ?_
        refine xj_iload_n (n := 1) (i := 1) 2 rfl rfl dX9_isWordFrom_21 ?_
        refine xj_iload_n (n := 2) (i := 2) 0 rfl rfl dX9_isWordFrom_22 ?_
        refine xj_iadd dX9_isWordFrom_23 ?_
        refine xj_top (nI_add _ _) ?_
        refine xj_aload_n (n := 0) (i := 0) 1 rfl rfl dX9_isWordFrom_24 ?_
        refine yj_getf (v := .int (nI s)) fl_X9_15_9 (by omega) (fq_67 g) (congrArg (fun z => some (Value.int z)) h1) dX9_isWordFrom_25 ?_
        refine xj_isub dX9_isWordFrom_28 ?_
        refine xj_top (show ((nI (f + i)) - (nI s)) = nI (f + i - s) from (pk_sub (by omega))) ?_
        refine xj_callVK kv_X9_108 (c_J0_charAt_5068e l (d + 1) (f + i - s) (by omega) _) (As := [.int (nI (f + i - s))]) (st := [.int (b i)]) rfl rfl rfl (xRm_of (by omega) (by decide) (by omega) (by omega)) (Nat.le_of_ble_eq_true rfl) dX9_isWordFrom_29 (yk_p (kc := 0) (ks := 0) ?_)
        refine xj_icmp_eq (tgt := 37) (by decide) dX9_isWordFrom_32 (fun zc32 => ?_) (fun zc32 => ?_)
        · refine xj_iinc (n := 1) (i := 2) (v := nI (i + 1)) (lv1 := [(2, .int (nI (i + 1))), (0, .ref 67), (1, .int (nI f))]) 0 rfl (nI_1 i) rfl (Nat.le_of_ble_eq_true rfl) dX9_isWordFrom_37 ?_
          refine xj_goto (tgt := 5) (by decide) dX9_isWordFrom_40 ?_
          refine xj_sub (lv' := [(2, .int (nI (i + 1))), (0, .ref 67), (1, .int (nI f))]) [0, 1, 2] rfl ?_
          exact ih True.intro (by omega) (fun j h1 h2 => by by_cases e : j = i; (subst e; rw [zc32, show f + (j - s) = f + j - s by omega]); (exact hw j h1 (by omega)))
        · refine xj_iconst (v := 0) (by decide) dX9_isWordFrom_35 ?_
          exact xj_ireturn rfl nr_b0 (Nat.zero_le _) (Nat.zero_le _) dX9_isWordFrom_36 (qP_e (bI_f (fun y => zc32 (by have h := y (i - s) (by omega); rwa [show s + (i - s) = i by omega, show f + (i - s) = f + i - s by omega] at h))).symm)
  refine xj_sub (lv' := [(2, .int (nI s)), (0, .ref 67), (1, .int (nI f))]) [0, 1, 2] rfl ?_
  exact key s hs True.intro (Nat.le_refl s) (fun j h1 h2 => absurd h2 (by omega))
set_option maxHeartbeats 4000000 in
set_option maxRecDepth 100000 in
theorem c_X9_stepWord (l : Launch) (d : Nat) (n : Nat) (hn : 110 ≤ n) (g : xG) (b : Nat → Int32) (z : Nat) (hz : z ≤ 160) (hb : g 68 = b) (h0 : g 67 0 = nI z) (s : Nat) (hs : s ≤ z) (h1 : g 67 1 = nI s) (h6 : g 67 6 = nI s)  : xC l yX9_stepWord cX9_stepWord 4 none (xR (d + 6) 0 0) [.ref 67] (n, fh g) (qV n fun g1 => fq tX g g1 ∧ g1 67 1 = nI s ∧ g1 67 6 = nI (rnP isLt b z s) ∧ g1 67 7 = wdF (mtW b s (rnP isLt b z s)) 12) := by
  refine xC_of false (by decide +kernel) (fun z => by cases z) (Nat.le_of_ble_eq_true rfl) ?_
  show xJ l (RX9, 4, none, false, (xR (d + 6) 0 0), none) cX9_stepWord _ 0 0 0 [(0, .ref 67)] [] (n, fh g)
  have key : ∀ i, i ≤ z → ∀ (g1 : xG), fq tX g g1 → g1 67 1 = nI s → g1 67 6 = nI i → rnP isLt b z i = rnP isLt b z s → s ≤ i → xJ l (RX9, 4, none, false, (xR (d + 6) 0 0), none) cX9_stepWord (qV n fun g1 => fq tX g g1 ∧ g1 67 1 = nI s ∧ g1 67 6 = nI (rnP isLt b z s) ∧ g1 67 7 = wdF (mtW b s (rnP isLt b z s)) 12) 0 0 0 [(0, .ref 67)] [] (n, fh g1) := by
    refine x_loop z _ ?_ ?_
    · intro g1 hf hs1 hs6 hr hsi9
      have hend : rnP isLt b z z = z := rnP_z (Nat.le_refl z)
      have hr2 : rnP isLt b z s = z := hr.symm.trans hend
      refine xj_aload_n (n := 0) (i := 0) 0 rfl rfl dX9_stepWord_0 ?_
      refine yj_getf (v := .int (nI z)) fl_X9_31_9 (by omega) (fq_67 g1) (congrArg (fun z => some (Value.int z)) hs6) dX9_stepWord_1 ?_
      refine xj_aload_n (n := 0) (i := 0) 0 rfl rfl dX9_stepWord_4 ?_
      refine yj_getf (v := .int (nI z)) fl_X9_9_9 (by omega) (fq_67 g1) (congrArg (fun z => some (Value.int z)) (hf.2 0 (by unfold tX; omega) |>.trans h0)) dX9_stepWord_5 ?_
      refine xj_icmp_ge (tgt := 39) (by decide) dX9_stepWord_8 (fun zc8 => ?_) (fun zc8 => ?_)
      · refine xj_aload_n (n := 0) (i := 0) 0 rfl rfl dX9_stepWord_39 ?_
        refine xj_iconst (v := 2) (by decide) dX9_stepWord_40 ?_
        refine yj_puti fl_X9_34_9 (by omega) fS_67_7 (fi_i _) dX9_stepWord_41 ?_
        obtain ⟨zg1, ezg1⟩ : ∃ x9, x9 = gs g1 67 7 2 := ⟨_, rfl⟩
        rw [← ezg1]
        have t0zg1 : zg1 67 0 = nI z := by rw [ezg1, gs_s, upd_n _ _ (by decide)]; exact (hf.2 0 (by unfold tX; omega) |>.trans h0)
        have t1zg1 : zg1 67 1 = nI s := by rw [ezg1, gs_s, upd_n _ _ (by decide)]; exact hs1
        have t6zg1 : zg1 67 6 = nI z := by rw [ezg1, gs_s, upd_n _ _ (by decide)]; exact hs6
        have t7zg1 : zg1 67 7 = 2 := by rw [ezg1, gs_s, upd_s]
        have r68zg1 : zg1 68 = b := by rw [ezg1, gs_n _ _ _ (by decide)]; exact ((hf.1 68 (by decide)).trans hb)
        have fzg1 : fq tX g zg1 := by rw [ezg1]; exact hf.gs (by unfold tX; omega) _
        refine xj_sipush (v := 256) (by decide) dX9_stepWord_44 ?_
        refine xj_top (show 256 = nI (256 + swN 0) from rfl) ?_
        refine xj_istore_n (n := 1) (i := 1) (lv1 := [(1, .int (nI (256 + swN 0))), (0, .ref 67)]) rfl rfl (Nat.le_of_ble_eq_true rfl) dX9_stepWord_47 ?_
        refine xj_iconst (v := 0) (by decide) dX9_stepWord_48 ?_
        refine xj_top (show 0 = nI (sfN 0) from rfl) ?_
        refine xj_istore_n (n := 2) (i := 2) (lv1 := [(2, .int (nI (sfN 0))), (1, .int (nI (256 + swN 0))), (0, .ref 67)]) rfl rfl (Nat.le_of_ble_eq_true rfl) dX9_stepWord_49 ?_
        refine xj_iconst (v := 0) (by decide) dX9_stepWord_50 ?_
        refine xj_istore_n (n := 3) (i := 3) (lv1 := [(3, .int 0), (2, .int (nI (sfN 0))), (1, .int (nI (256 + swN 0))), (0, .ref 67)]) rfl rfl (Nat.le_of_ble_eq_true rfl) dX9_stepWord_51 ?_
        have key2 : ∀ k, k ≤ 63 → ∀ (g2 : xG), fq tX g g2 → g2 67 1 = nI s → g2 67 6 = nI z → g2 67 7 = wdF (mtW b s z) (swN k) → xJ l (RX9, 4, none, false, (xR (d + 6) 0 0), none) cX9_stepWord (qV n fun g1 => fq tX g g1 ∧ g1 67 1 = nI s ∧ g1 67 6 = nI (rnP isLt b z s) ∧ g1 67 7 = wdF (mtW b s (rnP isLt b z s)) 12) 0 0 52 [(3, .int (nI k)), (1, .int (nI (256 + swN k))), (2, .int (nI (sfN k))), (0, .ref 67)] [] (n, fh g2) := by
          refine x_loop 63 _ ?_ ?_
          · intro g2 hf2 ht1 ht6 ht7
            refine xj_iload_n (n := 3) (i := 3) 0 rfl rfl dX9_stepWord_52 ?_
            refine xj_ldcS rfl dX9_stepWord_53 ?_
            refine xj_callVK kv_X9_102 (c_J0_length_8abf5 l (d + 4) _) (As := []) (st := [.int (nI 63)]) rfl rfl rfl (xRm_of (by omega) (by decide) (by omega) (by omega)) (Nat.le_of_ble_eq_true rfl) dX9_stepWord_55 (yk_p (kc := 0) (ks := 0) ?_)
            refine xj_icmp_ge (tgt := 113) (by decide) dX9_stepWord_58 (fun zc58 => ?_) (fun zc58 => ?_)
            · exact xj_return rfl (Nat.zero_le _) (Nat.zero_le _) dX9_stepWord_113 (qV_e ⟨hf2, ht1, by rw [hr2]; exact ht6, by rw [hr2, ht7, wk_63]⟩)
            · exact absurd (nI_le (Nat.le_refl _) (by decide)) zc58
          · intro k hk ih2 g2 hf2 ht1 ht6 ht7
            have hka := wk_all k hk
            have hsE : s ≤ z := hsi9
            refine xj_iload_n (n := 3) (i := 3) 0 rfl rfl dX9_stepWord_52 ?_
            refine xj_ldcS rfl dX9_stepWord_53 ?_
            refine xj_callVK kv_X9_102 (c_J0_length_8abf5 l (d + 4) _) (As := []) (st := [.int (nI k)]) rfl rfl rfl (xRm_of (by omega) (by decide) (by omega) (by omega)) (Nat.le_of_ble_eq_true rfl) dX9_stepWord_55 (yk_p (kc := 0) (ks := 0) ?_)
            refine xj_icmp_ge (tgt := 113) (by decide) dX9_stepWord_58 (fun zc58 => ?_) (fun zc58 => ?_)
            · exact absurd zc58 (nI_ge hk (by decide))
            · refine xj_ldcS rfl dX9_stepWord_61 ?_
              refine xj_iload_n (n := 3) (i := 3) 0 rfl rfl dX9_stepWord_63 ?_
              refine xj_callVK kv_X9_108 (c_J0_charAt_5068e l (d + 2) k (by omega) _) (As := [.int (nI k)]) (st := []) rfl rfl rfl (xRm_of (by omega) (by decide) (by omega) (by omega)) (Nat.le_of_ble_eq_true rfl) dX9_stepWord_64 (yk_p (kc := 0) (ks := 0) ?_)
              refine xj_bipush (v := 32) (by decide) dX9_stepWord_67 ?_
              refine xj_icmp_ne (tgt := 107) (by decide) dX9_stepWord_69 (fun zc69 => ?_) (fun zc69 => ?_)
              · have hw9 := wk_n zc69
                refine xj_iinc (n := 1) (i := 3) (v := nI (k + 1)) (lv1 := [(3, .int (nI (k + 1))), (1, .int (nI (256 + swN k))), (2, .int (nI (sfN k))), (0, .ref 67)]) 0 rfl (nI_1 k) rfl (Nat.le_of_ble_eq_true rfl) dX9_stepWord_107 ?_
                refine xj_goto (tgt := 52) (by decide) dX9_stepWord_110 ?_
                refine xj_sub (lv' := [(3, .int (nI (k + 1))), (1, .int (nI (256 + swN k))), (2, .int (nI (sfN k))), (0, .ref 67)]) [0, 1, 2, 3] rfl ?_
                have h9 := ih2 g2 hf2 ht1 ht6 (by rw [hw9.1]; exact ht7)
                rw [hw9.1, hw9.2] at h9
                exact h9
              · have hw9 := wk_y zc69
                obtain ⟨hk12, hfk, hkk⟩ := hka
                obtain ⟨hkf, hkl⟩ := hkk zc69
                refine xj_iload_n (n := 3) (i := 3) 0 rfl rfl dX9_stepWord_72 ?_
                refine xj_iload_n (n := 2) (i := 2) 2 rfl rfl dX9_stepWord_73 ?_
                refine xj_isub dX9_stepWord_74 ?_
                refine xj_top (show ((nI k) - (nI (sfN k))) = nI (k - sfN k) from (pk_sub hfk)) ?_
                refine xj_aload_n (n := 0) (i := 0) 3 rfl rfl dX9_stepWord_75 ?_
                refine yj_getf (v := .int (nI z)) fl_X9_31_9 (by omega) (fq_67 g2) (congrArg (fun z => some (Value.int z)) ht6) dX9_stepWord_76 ?_
                refine xj_aload_n (n := 0) (i := 0) 3 rfl rfl dX9_stepWord_79 ?_
                refine yj_getf (v := .int (nI s)) fl_X9_15_9 (by omega) (fq_67 g2) (congrArg (fun z => some (Value.int z)) ht1) dX9_stepWord_80 ?_
                refine xj_isub dX9_stepWord_83 ?_
                refine xj_top (show ((nI z) - (nI s)) = nI (z - s) from (pk_sub hsE)) ?_
                refine xj_icmp_ne (tgt := 100) (by decide) dX9_stepWord_84 (fun zc84 => ?_) (fun zc84 => ?_)
                · have hmt : ¬ (mtW b s z) (swN k) = true := fun y => zc84 (by have h := (of_decide_eq_true y).1; rw [hkl] at h; rw [h])
                  refine xj_iinc (n := 1) (i := 1) (v := nI ((256 + swN k) + 1)) (lv1 := [(1, .int (nI ((256 + swN k) + 1))), (3, .int (nI k)), (2, .int (nI (sfN k))), (0, .ref 67)]) 1 rfl (nI_1 (256 + swN k)) rfl (Nat.le_of_ble_eq_true rfl) dX9_stepWord_100 ?_
                  refine xj_iload_n (n := 3) (i := 3) 1 rfl rfl dX9_stepWord_103 ?_
                  refine xj_iconst (v := 1) (by decide) dX9_stepWord_104 ?_
                  refine xj_iadd dX9_stepWord_105 ?_
                  refine xj_topi (fun zv2 ezv2 => ?_)
                  refine xj_istore_n (n := 2) (i := 2) (lv1 := [(2, .int zv2), (1, .int (nI ((256 + swN k) + 1))), (3, .int (nI k)), (0, .ref 67)]) rfl rfl (Nat.le_of_ble_eq_true rfl) dX9_stepWord_106 ?_
                  refine xj_iinc (n := 1) (i := 3) (v := nI (k + 1)) (lv1 := [(3, .int (nI (k + 1))), (2, .int zv2), (1, .int (nI ((256 + swN k) + 1))), (0, .ref 67)]) 2 rfl (nI_1 k) rfl (Nat.le_of_ble_eq_true rfl) dX9_stepWord_107 ?_
                  refine xj_goto (tgt := 52) (by decide) dX9_stepWord_110 ?_
                  refine xj_sub (lv' := [(3, .int (nI (k + 1))), (1, .int (nI ((256 + swN k) + 1))), (2, .int zv2), (0, .ref 67)]) [0, 2, 1, 3] rfl ?_
                  have h9 := ih2 g2 hf2 ht1 ht6 (by rw [hw9.1]; exact ht7.trans (if_neg hmt).symm)
                  rw [hw9.1, hw9.2] at h9
                  rw [show zv2 = nI (k + 1) from by rw [ezv2, nI_1]]
                  exact h9
                · have hle : k - sfN k = z - s := (nI_eq (by omega) (by omega)).mp zc84
                  skip
                  refine xj_aload_n (n := 0) (i := 0) 3 rfl rfl dX9_stepWord_87 ?_
                  refine xj_iload_n (n := 2) (i := 2) 2 rfl rfl dX9_stepWord_88 ?_
                  refine xj_callV kv_X9_112 (c_X9_isWordFrom l (d + 0) n hn g2 b z hz ((hf2.1 68 (by decide)).trans hb) (hf2.2 0 (by unfold tX; omega) |>.trans h0) s z (sfN k) hsE (by omega) (by omega) ht1 ht6) (As := [.int (nI (sfN k))]) (st := []) (by omega) (fq_67 g2) (ci := 9) rfl rfl rfl rfl (xRm_of (by omega) (by decide) (by omega) (by omega)) (Nat.le_of_ble_eq_true rfl) dX9_stepWord_89 (yk_p (kc := 0) (ks := 0) ?_)
                  refine xj_if_eq (tgt := 100) (by decide) dX9_stepWord_92 (fun zc92 => ?_) (fun zc92 => ?_)
                  · have hmt : ¬ (mtW b s z) (swN k) = true := fun y => bI_0.mp zc92 (fun j hj => by have h := (of_decide_eq_true y).2 j (by rw [hkl]; omega); rwa [hkf] at h)
                    refine xj_iinc (n := 1) (i := 1) (v := nI ((256 + swN k) + 1)) (lv1 := [(1, .int (nI ((256 + swN k) + 1))), (3, .int (nI k)), (2, .int (nI (sfN k))), (0, .ref 67)]) 1 rfl (nI_1 (256 + swN k)) rfl (Nat.le_of_ble_eq_true rfl) dX9_stepWord_100 ?_
                    refine xj_iload_n (n := 3) (i := 3) 1 rfl rfl dX9_stepWord_103 ?_
                    refine xj_iconst (v := 1) (by decide) dX9_stepWord_104 ?_
                    refine xj_iadd dX9_stepWord_105 ?_
                    refine xj_topi (fun zv3 ezv3 => ?_)
                    refine xj_istore_n (n := 2) (i := 2) (lv1 := [(2, .int zv3), (1, .int (nI ((256 + swN k) + 1))), (3, .int (nI k)), (0, .ref 67)]) rfl rfl (Nat.le_of_ble_eq_true rfl) dX9_stepWord_106 ?_
                    refine xj_iinc (n := 1) (i := 3) (v := nI (k + 1)) (lv1 := [(3, .int (nI (k + 1))), (2, .int zv3), (1, .int (nI ((256 + swN k) + 1))), (0, .ref 67)]) 2 rfl (nI_1 k) rfl (Nat.le_of_ble_eq_true rfl) dX9_stepWord_107 ?_
                    refine xj_goto (tgt := 52) (by decide) dX9_stepWord_110 ?_
                    refine xj_sub (lv' := [(3, .int (nI (k + 1))), (1, .int (nI ((256 + swN k) + 1))), (2, .int zv3), (0, .ref 67)]) [0, 2, 1, 3] rfl ?_
                    have h9 := ih2 g2 hf2 ht1 ht6 (by rw [hw9.1]; exact ht7.trans (if_neg hmt).symm)
                    rw [hw9.1, hw9.2] at h9
                    rw [show zv3 = nI (k + 1) from by rw [ezv3, nI_1]]
                    exact h9
                  · have hmt : (mtW b s z) (swN k) = true := decide_eq_true ⟨by rw [hkl]; exact hle.symm, fun j hj => by rw [hkf]; exact bI_n0.mp zc92 j (by rw [hkl] at hj; omega)⟩
                    refine xj_aload_n (n := 0) (i := 0) 3 rfl rfl dX9_stepWord_95 ?_
                    refine xj_iload_n (n := 1) (i := 1) 1 rfl rfl dX9_stepWord_96 ?_
                    refine yj_puti fl_X9_34_9 (by omega) fS_67_7 (fi_i _) dX9_stepWord_97 ?_
                    obtain ⟨zg4, ezg4⟩ : ∃ x9, x9 = gs g2 67 7 (nI (256 + swN k)) := ⟨_, rfl⟩
                    rw [← ezg4]
                    have t0zg4 : zg4 67 0 = nI z := by rw [ezg4, gs_s, upd_n _ _ (by decide)]; exact (hf2.2 0 (by unfold tX; omega) |>.trans h0)
                    have t1zg4 : zg4 67 1 = nI s := by rw [ezg4, gs_s, upd_n _ _ (by decide)]; exact ht1
                    have t6zg4 : zg4 67 6 = nI z := by rw [ezg4, gs_s, upd_n _ _ (by decide)]; exact ht6
                    have t7zg4 : zg4 67 7 = (nI (256 + swN k)) := by rw [ezg4, gs_s, upd_s]
                    have r68zg4 : zg4 68 = b := by rw [ezg4, gs_n _ _ _ (by decide)]; exact ((hf2.1 68 (by decide)).trans hb)
                    have fzg4 : fq tX g zg4 := by rw [ezg4]; exact hf2.gs (by unfold tX; omega) _
                    refine xj_iinc (n := 1) (i := 1) (v := nI ((256 + swN k) + 1)) (lv1 := [(1, .int (nI ((256 + swN k) + 1))), (3, .int (nI k)), (2, .int (nI (sfN k))), (0, .ref 67)]) 1 rfl (nI_1 (256 + swN k)) rfl (Nat.le_of_ble_eq_true rfl) dX9_stepWord_100 ?_
                    refine xj_iload_n (n := 3) (i := 3) 1 rfl rfl dX9_stepWord_103 ?_
                    refine xj_iconst (v := 1) (by decide) dX9_stepWord_104 ?_
                    refine xj_iadd dX9_stepWord_105 ?_
                    refine xj_topi (fun zv5 ezv5 => ?_)
                    refine xj_istore_n (n := 2) (i := 2) (lv1 := [(2, .int zv5), (1, .int (nI ((256 + swN k) + 1))), (3, .int (nI k)), (0, .ref 67)]) rfl rfl (Nat.le_of_ble_eq_true rfl) dX9_stepWord_106 ?_
                    refine xj_iinc (n := 1) (i := 3) (v := nI (k + 1)) (lv1 := [(3, .int (nI (k + 1))), (2, .int zv5), (1, .int (nI ((256 + swN k) + 1))), (0, .ref 67)]) 2 rfl (nI_1 k) rfl (Nat.le_of_ble_eq_true rfl) dX9_stepWord_107 ?_
                    refine xj_goto (tgt := 52) (by decide) dX9_stepWord_110 ?_
                    refine xj_sub (lv' := [(3, .int (nI (k + 1))), (1, .int (nI ((256 + swN k) + 1))), (2, .int zv5), (0, .ref 67)]) [0, 2, 1, 3] rfl ?_
                    have h9 := ih2 zg4 fzg4 t1zg4 t6zg4 (by rw [hw9.1]; exact t7zg4.trans (if_pos hmt).symm)
                    rw [hw9.1, hw9.2] at h9
                    rw [show zv5 = nI (k + 1) from by rw [ezv5, nI_1]]
                    exact h9
        refine xj_sub (lv' := [(3, .int 0), (1, .int (nI (256 + swN 0))), (2, .int (nI (sfN 0))), (0, .ref 67)]) [0, 2, 1, 3] rfl ?_
        exact key2 0 (Nat.zero_le _) zg1 fzg1 t1zg1 t6zg1 t7zg1
      · exact absurd (nI_le (Nat.le_refl _) (by omega)) zc8
    · intro i hi ih g1 hf hs1 hs6 hr hsi9
      refine xj_aload_n (n := 0) (i := 0) 0 rfl rfl dX9_stepWord_0 ?_
      refine yj_getf (v := .int (nI i)) fl_X9_31_9 (by omega) (fq_67 g1) (congrArg (fun z => some (Value.int z)) hs6) dX9_stepWord_1 ?_
      refine xj_aload_n (n := 0) (i := 0) 0 rfl rfl dX9_stepWord_4 ?_
      refine yj_getf (v := .int (nI z)) fl_X9_9_9 (by omega) (fq_67 g1) (congrArg (fun z => some (Value.int z)) (hf.2 0 (by unfold tX; omega) |>.trans h0)) dX9_stepWord_5 ?_
      refine xj_icmp_ge (tgt := 39) (by decide) dX9_stepWord_8 (fun zc8 => ?_) (fun zc8 => ?_)
      · exact absurd zc8 (nI_ge hi (by omega))
      · refine xj_aload_n (n := 0) (i := 0) 0 rfl rfl dX9_stepWord_11 ?_
        refine yj_getf (v := .ref 68) fl_X9_18_9 (by omega) (fq_67 g1) rfl dX9_stepWord_12 ?_
        refine xj_aload_n (n := 0) (i := 0) 0 rfl rfl dX9_stepWord_15 ?_
        refine yj_getf (v := .int (nI i)) fl_X9_31_9 (by omega) (fq_67 g1) (congrArg (fun z => some (Value.int z)) hs6) dX9_stepWord_16 ?_
        refine yj_ialdN i (by omega) fA_68 rfl (by omega) (by decide) dX9_stepWord_19 ?_
        refine xj_top (congrFun ((hf.1 68 (by decide)).trans hb) i) ?_
        refine xj_callS ks_X9_85 (c_X9_isLetter l (d + 5) (b i) _) (As := [.int (b i)]) (st := []) rfl rfl (xRm_of (by omega) (by decide) (by omega) (by omega)) (Nat.le_of_ble_eq_true rfl) dX9_stepWord_20 (yk_p (kc := 0) (ks := 0) ?_)
        refine xj_if_eq (tgt := 39) (by decide) dX9_stepWord_23 (fun zc23 => ?_) (fun zc23 => ?_)
        · have hnd : ¬ isLt (b i) = true := fun y => bI_0.mp zc23 (isLt_i.mpr y)
          have hend : rnP isLt b z i = i := rnP_n hnd
          have hr2 : rnP isLt b z s = i := hr.symm.trans hend
          refine xj_aload_n (n := 0) (i := 0) 0 rfl rfl dX9_stepWord_39 ?_
          refine xj_iconst (v := 2) (by decide) dX9_stepWord_40 ?_
          refine yj_puti fl_X9_34_9 (by omega) fS_67_7 (fi_i _) dX9_stepWord_41 ?_
          obtain ⟨zg6, ezg6⟩ : ∃ x9, x9 = gs g1 67 7 2 := ⟨_, rfl⟩
          rw [← ezg6]
          have t0zg6 : zg6 67 0 = nI z := by rw [ezg6, gs_s, upd_n _ _ (by decide)]; exact (hf.2 0 (by unfold tX; omega) |>.trans h0)
          have t1zg6 : zg6 67 1 = nI s := by rw [ezg6, gs_s, upd_n _ _ (by decide)]; exact hs1
          have t6zg6 : zg6 67 6 = nI i := by rw [ezg6, gs_s, upd_n _ _ (by decide)]; exact hs6
          have t7zg6 : zg6 67 7 = 2 := by rw [ezg6, gs_s, upd_s]
          have r68zg6 : zg6 68 = b := by rw [ezg6, gs_n _ _ _ (by decide)]; exact ((hf.1 68 (by decide)).trans hb)
          have fzg6 : fq tX g zg6 := by rw [ezg6]; exact hf.gs (by unfold tX; omega) _
          refine xj_sipush (v := 256) (by decide) dX9_stepWord_44 ?_
          refine xj_top (show 256 = nI (256 + swN 0) from rfl) ?_
          refine xj_istore_n (n := 1) (i := 1) (lv1 := [(1, .int (nI (256 + swN 0))), (0, .ref 67)]) rfl rfl (Nat.le_of_ble_eq_true rfl) dX9_stepWord_47 ?_
          refine xj_iconst (v := 0) (by decide) dX9_stepWord_48 ?_
          refine xj_top (show 0 = nI (sfN 0) from rfl) ?_
          refine xj_istore_n (n := 2) (i := 2) (lv1 := [(2, .int (nI (sfN 0))), (1, .int (nI (256 + swN 0))), (0, .ref 67)]) rfl rfl (Nat.le_of_ble_eq_true rfl) dX9_stepWord_49 ?_
          refine xj_iconst (v := 0) (by decide) dX9_stepWord_50 ?_
          refine xj_istore_n (n := 3) (i := 3) (lv1 := [(3, .int 0), (2, .int (nI (sfN 0))), (1, .int (nI (256 + swN 0))), (0, .ref 67)]) rfl rfl (Nat.le_of_ble_eq_true rfl) dX9_stepWord_51 ?_
          have key2 : ∀ k, k ≤ 63 → ∀ (g2 : xG), fq tX g g2 → g2 67 1 = nI s → g2 67 6 = nI i → g2 67 7 = wdF (mtW b s i) (swN k) → xJ l (RX9, 4, none, false, (xR (d + 6) 0 0), none) cX9_stepWord (qV n fun g1 => fq tX g g1 ∧ g1 67 1 = nI s ∧ g1 67 6 = nI (rnP isLt b z s) ∧ g1 67 7 = wdF (mtW b s (rnP isLt b z s)) 12) 0 0 52 [(3, .int (nI k)), (1, .int (nI (256 + swN k))), (2, .int (nI (sfN k))), (0, .ref 67)] [] (n, fh g2) := by
            refine x_loop 63 _ ?_ ?_
            · intro g2 hf2 ht1 ht6 ht7
              refine xj_iload_n (n := 3) (i := 3) 0 rfl rfl dX9_stepWord_52 ?_
              refine xj_ldcS rfl dX9_stepWord_53 ?_
              refine xj_callVK kv_X9_102 (c_J0_length_8abf5 l (d + 4) _) (As := []) (st := [.int (nI 63)]) rfl rfl rfl (xRm_of (by omega) (by decide) (by omega) (by omega)) (Nat.le_of_ble_eq_true rfl) dX9_stepWord_55 (yk_p (kc := 0) (ks := 0) ?_)
              refine xj_icmp_ge (tgt := 113) (by decide) dX9_stepWord_58 (fun zc58 => ?_) (fun zc58 => ?_)
              · exact xj_return rfl (Nat.zero_le _) (Nat.zero_le _) dX9_stepWord_113 (qV_e ⟨hf2, ht1, by rw [hr2]; exact ht6, by rw [hr2, ht7, wk_63]⟩)
              · exact absurd (nI_le (Nat.le_refl _) (by decide)) zc58
            · intro k hk ih2 g2 hf2 ht1 ht6 ht7
              have hka := wk_all k hk
              have hsE : s ≤ i := hsi9
              refine xj_iload_n (n := 3) (i := 3) 0 rfl rfl dX9_stepWord_52 ?_
              refine xj_ldcS rfl dX9_stepWord_53 ?_
              refine xj_callVK kv_X9_102 (c_J0_length_8abf5 l (d + 4) _) (As := []) (st := [.int (nI k)]) rfl rfl rfl (xRm_of (by omega) (by decide) (by omega) (by omega)) (Nat.le_of_ble_eq_true rfl) dX9_stepWord_55 (yk_p (kc := 0) (ks := 0) ?_)
              refine xj_icmp_ge (tgt := 113) (by decide) dX9_stepWord_58 (fun zc58 => ?_) (fun zc58 => ?_)
              · exact absurd zc58 (nI_ge hk (by decide))
              · refine xj_ldcS rfl dX9_stepWord_61 ?_
                refine xj_iload_n (n := 3) (i := 3) 0 rfl rfl dX9_stepWord_63 ?_
                refine xj_callVK kv_X9_108 (c_J0_charAt_5068e l (d + 2) k (by omega) _) (As := [.int (nI k)]) (st := []) rfl rfl rfl (xRm_of (by omega) (by decide) (by omega) (by omega)) (Nat.le_of_ble_eq_true rfl) dX9_stepWord_64 (yk_p (kc := 0) (ks := 0) ?_)
                refine xj_bipush (v := 32) (by decide) dX9_stepWord_67 ?_
                refine xj_icmp_ne (tgt := 107) (by decide) dX9_stepWord_69 (fun zc69 => ?_) (fun zc69 => ?_)
                · have hw9 := wk_n zc69
                  refine xj_iinc (n := 1) (i := 3) (v := nI (k + 1)) (lv1 := [(3, .int (nI (k + 1))), (1, .int (nI (256 + swN k))), (2, .int (nI (sfN k))), (0, .ref 67)]) 0 rfl (nI_1 k) rfl (Nat.le_of_ble_eq_true rfl) dX9_stepWord_107 ?_
                  refine xj_goto (tgt := 52) (by decide) dX9_stepWord_110 ?_
                  refine xj_sub (lv' := [(3, .int (nI (k + 1))), (1, .int (nI (256 + swN k))), (2, .int (nI (sfN k))), (0, .ref 67)]) [0, 1, 2, 3] rfl ?_
                  have h9 := ih2 g2 hf2 ht1 ht6 (by rw [hw9.1]; exact ht7)
                  rw [hw9.1, hw9.2] at h9
                  exact h9
                · have hw9 := wk_y zc69
                  obtain ⟨hk12, hfk, hkk⟩ := hka
                  obtain ⟨hkf, hkl⟩ := hkk zc69
                  refine xj_iload_n (n := 3) (i := 3) 0 rfl rfl dX9_stepWord_72 ?_
                  refine xj_iload_n (n := 2) (i := 2) 2 rfl rfl dX9_stepWord_73 ?_
                  refine xj_isub dX9_stepWord_74 ?_
                  refine xj_top (show ((nI k) - (nI (sfN k))) = nI (k - sfN k) from (pk_sub hfk)) ?_
                  refine xj_aload_n (n := 0) (i := 0) 3 rfl rfl dX9_stepWord_75 ?_
                  refine yj_getf (v := .int (nI i)) fl_X9_31_9 (by omega) (fq_67 g2) (congrArg (fun z => some (Value.int z)) ht6) dX9_stepWord_76 ?_
                  refine xj_aload_n (n := 0) (i := 0) 3 rfl rfl dX9_stepWord_79 ?_
                  refine yj_getf (v := .int (nI s)) fl_X9_15_9 (by omega) (fq_67 g2) (congrArg (fun z => some (Value.int z)) ht1) dX9_stepWord_80 ?_
                  refine xj_isub dX9_stepWord_83 ?_
                  refine xj_top (show ((nI i) - (nI s)) = nI (i - s) from (pk_sub hsE)) ?_
                  refine xj_icmp_ne (tgt := 100) (by decide) dX9_stepWord_84 (fun zc84 => ?_) (fun zc84 => ?_)
                  · have hmt : ¬ (mtW b s i) (swN k) = true := fun y => zc84 (by have h := (of_decide_eq_true y).1; rw [hkl] at h; rw [h])
                    refine xj_iinc (n := 1) (i := 1) (v := nI ((256 + swN k) + 1)) (lv1 := [(1, .int (nI ((256 + swN k) + 1))), (3, .int (nI k)), (2, .int (nI (sfN k))), (0, .ref 67)]) 1 rfl (nI_1 (256 + swN k)) rfl (Nat.le_of_ble_eq_true rfl) dX9_stepWord_100 ?_
                    refine xj_iload_n (n := 3) (i := 3) 1 rfl rfl dX9_stepWord_103 ?_
                    refine xj_iconst (v := 1) (by decide) dX9_stepWord_104 ?_
                    refine xj_iadd dX9_stepWord_105 ?_
                    refine xj_topi (fun zv7 ezv7 => ?_)
                    refine xj_istore_n (n := 2) (i := 2) (lv1 := [(2, .int zv7), (1, .int (nI ((256 + swN k) + 1))), (3, .int (nI k)), (0, .ref 67)]) rfl rfl (Nat.le_of_ble_eq_true rfl) dX9_stepWord_106 ?_
                    refine xj_iinc (n := 1) (i := 3) (v := nI (k + 1)) (lv1 := [(3, .int (nI (k + 1))), (2, .int zv7), (1, .int (nI ((256 + swN k) + 1))), (0, .ref 67)]) 2 rfl (nI_1 k) rfl (Nat.le_of_ble_eq_true rfl) dX9_stepWord_107 ?_
                    refine xj_goto (tgt := 52) (by decide) dX9_stepWord_110 ?_
                    refine xj_sub (lv' := [(3, .int (nI (k + 1))), (1, .int (nI ((256 + swN k) + 1))), (2, .int zv7), (0, .ref 67)]) [0, 2, 1, 3] rfl ?_
                    have h9 := ih2 g2 hf2 ht1 ht6 (by rw [hw9.1]; exact ht7.trans (if_neg hmt).symm)
                    rw [hw9.1, hw9.2] at h9
                    rw [show zv7 = nI (k + 1) from by rw [ezv7, nI_1]]
                    exact h9
                  · have hle : k - sfN k = i - s := (nI_eq (by omega) (by omega)).mp zc84
                    skip
                    refine xj_aload_n (n := 0) (i := 0) 3 rfl rfl dX9_stepWord_87 ?_
                    refine xj_iload_n (n := 2) (i := 2) 2 rfl rfl dX9_stepWord_88 ?_
                    refine xj_callV kv_X9_112 (c_X9_isWordFrom l (d + 0) n hn g2 b z hz ((hf2.1 68 (by decide)).trans hb) (hf2.2 0 (by unfold tX; omega) |>.trans h0) s i (sfN k) hsE (by omega) (by omega) ht1 ht6) (As := [.int (nI (sfN k))]) (st := []) (by omega) (fq_67 g2) (ci := 9) rfl rfl rfl rfl (xRm_of (by omega) (by decide) (by omega) (by omega)) (Nat.le_of_ble_eq_true rfl) dX9_stepWord_89 (yk_p (kc := 0) (ks := 0) ?_)
                    refine xj_if_eq (tgt := 100) (by decide) dX9_stepWord_92 (fun zc92 => ?_) (fun zc92 => ?_)
                    · have hmt : ¬ (mtW b s i) (swN k) = true := fun y => bI_0.mp zc92 (fun j hj => by have h := (of_decide_eq_true y).2 j (by rw [hkl]; omega); rwa [hkf] at h)
                      refine xj_iinc (n := 1) (i := 1) (v := nI ((256 + swN k) + 1)) (lv1 := [(1, .int (nI ((256 + swN k) + 1))), (3, .int (nI k)), (2, .int (nI (sfN k))), (0, .ref 67)]) 1 rfl (nI_1 (256 + swN k)) rfl (Nat.le_of_ble_eq_true rfl) dX9_stepWord_100 ?_
                      refine xj_iload_n (n := 3) (i := 3) 1 rfl rfl dX9_stepWord_103 ?_
                      refine xj_iconst (v := 1) (by decide) dX9_stepWord_104 ?_
                      refine xj_iadd dX9_stepWord_105 ?_
                      refine xj_topi (fun zv8 ezv8 => ?_)
                      refine xj_istore_n (n := 2) (i := 2) (lv1 := [(2, .int zv8), (1, .int (nI ((256 + swN k) + 1))), (3, .int (nI k)), (0, .ref 67)]) rfl rfl (Nat.le_of_ble_eq_true rfl) dX9_stepWord_106 ?_
                      refine xj_iinc (n := 1) (i := 3) (v := nI (k + 1)) (lv1 := [(3, .int (nI (k + 1))), (2, .int zv8), (1, .int (nI ((256 + swN k) + 1))), (0, .ref 67)]) 2 rfl (nI_1 k) rfl (Nat.le_of_ble_eq_true rfl) dX9_stepWord_107 ?_
                      refine xj_goto (tgt := 52) (by decide) dX9_stepWord_110 ?_
                      refine xj_sub (lv' := [(3, .int (nI (k + 1))), (1, .int (nI ((256 + swN k) + 1))), (2, .int zv8), (0, .ref 67)]) [0, 2, 1, 3] rfl ?_
                      have h9 := ih2 g2 hf2 ht1 ht6 (by rw [hw9.1]; exact ht7.trans (if_neg hmt).symm)
                      rw [hw9.1, hw9.2] at h9
                      rw [show zv8 = nI (k + 1) from by rw [ezv8, nI_1]]
                      exact h9
                    · have hmt : (mtW b s i) (swN k) = true := decide_eq_true ⟨by rw [hkl]; exact hle.symm, fun j hj => by rw [hkf]; exact bI_n0.mp zc92 j (by rw [hkl] at hj; omega)⟩
                      refine xj_aload_n (n := 0) (i := 0) 3 rfl rfl dX9_stepWord_95 ?_
                      refine xj_iload_n (n := 1) (i := 1) 1 rfl rfl dX9_stepWord_96 ?_
                      refine yj_puti fl_X9_34_9 (by omega) fS_67_7 (fi_i _) dX9_stepWord_97 ?_
                      obtain ⟨zg9, ezg9⟩ : ∃ x9, x9 = gs g2 67 7 (nI (256 + swN k)) := ⟨_, rfl⟩
                      rw [← ezg9]
                      have t0zg9 : zg9 67 0 = nI z := by rw [ezg9, gs_s, upd_n _ _ (by decide)]; exact (hf2.2 0 (by unfold tX; omega) |>.trans h0)
                      have t1zg9 : zg9 67 1 = nI s := by rw [ezg9, gs_s, upd_n _ _ (by decide)]; exact ht1
                      have t6zg9 : zg9 67 6 = nI i := by rw [ezg9, gs_s, upd_n _ _ (by decide)]; exact ht6
                      have t7zg9 : zg9 67 7 = (nI (256 + swN k)) := by rw [ezg9, gs_s, upd_s]
                      have r68zg9 : zg9 68 = b := by rw [ezg9, gs_n _ _ _ (by decide)]; exact ((hf2.1 68 (by decide)).trans hb)
                      have fzg9 : fq tX g zg9 := by rw [ezg9]; exact hf2.gs (by unfold tX; omega) _
                      refine xj_iinc (n := 1) (i := 1) (v := nI ((256 + swN k) + 1)) (lv1 := [(1, .int (nI ((256 + swN k) + 1))), (3, .int (nI k)), (2, .int (nI (sfN k))), (0, .ref 67)]) 1 rfl (nI_1 (256 + swN k)) rfl (Nat.le_of_ble_eq_true rfl) dX9_stepWord_100 ?_
                      refine xj_iload_n (n := 3) (i := 3) 1 rfl rfl dX9_stepWord_103 ?_
                      refine xj_iconst (v := 1) (by decide) dX9_stepWord_104 ?_
                      refine xj_iadd dX9_stepWord_105 ?_
                      refine xj_topi (fun zv10 ezv10 => ?_)
                      refine xj_istore_n (n := 2) (i := 2) (lv1 := [(2, .int zv10), (1, .int (nI ((256 + swN k) + 1))), (3, .int (nI k)), (0, .ref 67)]) rfl rfl (Nat.le_of_ble_eq_true rfl) dX9_stepWord_106 ?_
                      refine xj_iinc (n := 1) (i := 3) (v := nI (k + 1)) (lv1 := [(3, .int (nI (k + 1))), (2, .int zv10), (1, .int (nI ((256 + swN k) + 1))), (0, .ref 67)]) 2 rfl (nI_1 k) rfl (Nat.le_of_ble_eq_true rfl) dX9_stepWord_107 ?_
                      refine xj_goto (tgt := 52) (by decide) dX9_stepWord_110 ?_
                      refine xj_sub (lv' := [(3, .int (nI (k + 1))), (1, .int (nI ((256 + swN k) + 1))), (2, .int zv10), (0, .ref 67)]) [0, 2, 1, 3] rfl ?_
                      have h9 := ih2 zg9 fzg9 t1zg9 t6zg9 (by rw [hw9.1]; exact t7zg9.trans (if_pos hmt).symm)
                      rw [hw9.1, hw9.2] at h9
                      rw [show zv10 = nI (k + 1) from by rw [ezv10, nI_1]]
                      exact h9
          refine xj_sub (lv' := [(3, .int 0), (1, .int (nI (256 + swN 0))), (2, .int (nI (sfN 0))), (0, .ref 67)]) [0, 2, 1, 3] rfl ?_
          exact key2 0 (Nat.zero_le _) zg6 fzg6 t1zg6 t6zg6 t7zg6
        · have hdg : isLt (b i) = true := isLt_i.mp (bI_n0.mp zc23)
          have hst := rnP_s (p := isLt) (b := b) hi hdg
          refine xj_aload_n (n := 0) (i := 0) 0 rfl rfl dX9_stepWord_26 ?_
          refine xj_dup rfl dX9_stepWord_27 ?_
          refine yj_getf (v := .int (nI i)) fl_X9_31_9 (by omega) (fq_67 g1) (congrArg (fun z => some (Value.int z)) hs6) dX9_stepWord_28 ?_
          refine xj_iconst (v := 1) (by decide) dX9_stepWord_31 ?_
          refine xj_iadd dX9_stepWord_32 ?_
          refine xj_topi (fun zv11 ezv11 => ?_)
          refine yj_puti fl_X9_31_9 (by omega) fS_67_6 (fi_i _) dX9_stepWord_33 ?_
          obtain ⟨zg12, ezg12⟩ : ∃ x9, x9 = gs g1 67 6 zv11 := ⟨_, rfl⟩
          rw [← ezg12]
          have t0zg12 : zg12 67 0 = nI z := by rw [ezg12, gs_s, upd_n _ _ (by decide)]; exact (hf.2 0 (by unfold tX; omega) |>.trans h0)
          have t1zg12 : zg12 67 1 = nI s := by rw [ezg12, gs_s, upd_n _ _ (by decide)]; exact hs1
          have t6zg12 : zg12 67 6 = zv11 := by rw [ezg12, gs_s, upd_s]
          have r68zg12 : zg12 68 = b := by rw [ezg12, gs_n _ _ _ (by decide)]; exact ((hf.1 68 (by decide)).trans hb)
          have fzg12 : fq tX g zg12 := by rw [ezg12]; exact hf.gs (by unfold tX; omega) _
          refine xj_goto (tgt := 0) (by decide) dX9_stepWord_36 ?_
          refine xj_sub (lv' := [(0, .ref 67)]) [0] rfl ?_
          exact ih zg12 fzg12 t1zg12 (t6zg12.trans (by rw [ezv11, nI_1])) (hst.symm.trans hr) (by omega)
  refine xj_sub (lv' := [(0, .ref 67)]) [0] rfl ?_
  exact key s hs g fq.rf h1 h6 rfl (Nat.le_refl s)
theorem wd_1 (m : Nat → Bool) : ¬ wdF m 12 = 1 := by
  have h : ∀ n, n ≤ 12 → ¬ wdF m n = 1 := by
    intro n
    induction n with
    | zero => exact fun _ => (show ¬ (2 : Int32) = 1 by decide)
    | succ k ih =>
      intro hk
      unfold wdF
      split
      · exact nI_ne (b := 1) (by omega) (by omega) (by decide)
      · exact ih (by omega)
  exact h 12 (Nat.le_refl _)
theorem sg_1n {x : Int32} (h : isSg x = true) : ¬ x = 1 := by
  rintro rfl
  exact absurd h (by decide)
set_option maxHeartbeats 4000000 in
set_option maxRecDepth 100000 in
theorem c_X9_step (l : Launch) (d : Nat) (n : Nat) (hn : 110 ≤ n) (g : xG) (b : Nat → Int32) (z : Nat) (hz : z ≤ 160) (hb : g 68 = b) (h0 : g 67 0 = nI z) (i : Nat) (hi : i ≤ z) (h6 : g 67 6 = nI i)  : xC l yX9_step cX9_step 1 none (xR (d + 7) 0 0) [.ref 67] (n, fh g) (qV n fun g1 => fq tX g g1 ∧ g1 67 1 = nI (stP b z i) ∧ g1 67 6 = nI (nxP b z i) ∧ g1 67 7 = tkP b z i ∧ (tkP b z i = 1 → g1 67 8 = nmP b z i)) := by
  refine xC_of false (by decide +kernel) (fun z => by cases z) (Nat.le_of_ble_eq_true rfl) ?_
  show xJ l (RX9, 1, none, false, (xR (d + 7) 0 0), none) cX9_step _ 0 0 0 [(0, .ref 67)] [] (n, fh g)
  have key : ∀ j, j ≤ z → ∀ (g1 : xG), fq tX g g1 → g1 67 6 = nI j → rnP isBl b z j = stP b z i → i ≤ j → xJ l (RX9, 1, none, false, (xR (d + 7) 0 0), none) cX9_step (qV n fun g1 => fq tX g g1 ∧ g1 67 1 = nI (stP b z i) ∧ g1 67 6 = nI (nxP b z i) ∧ g1 67 7 = tkP b z i ∧ (tkP b z i = 1 → g1 67 8 = nmP b z i)) 0 0 0 [(0, .ref 67)] [] (n, fh g1) := by
    refine x_loop z _ ?_ ?_
    · intro g1 hf hs6 hr hij
      have hend : rnP isBl b z z = z := rnP_z (Nat.le_refl z)
      have hE : stP b z i = z := hr.symm.trans hend
      refine xj_aload_n (n := 0) (i := 0) 0 rfl rfl dX9_step_0 ?_
      refine yj_getf (v := .int (nI z)) fl_X9_31_9 (by omega) (fq_67 g1) (congrArg (fun z => some (Value.int z)) hs6) dX9_step_1 ?_
      refine xj_aload_n (n := 0) (i := 0) 0 rfl rfl dX9_step_4 ?_
      refine yj_getf (v := .int (nI z)) fl_X9_9_9 (by omega) (fq_67 g1) (congrArg (fun z => some (Value.int z)) (hf.2 0 (by unfold tX; omega) |>.trans h0)) dX9_step_5 ?_
      refine xj_icmp_ge (tgt := 52) (by decide) dX9_step_8 (fun zc8 => ?_) (fun zc8 => ?_)
      · refine xj_aload_n (n := 0) (i := 0) 0 rfl rfl dX9_step_52 ?_
        refine xj_aload_n (n := 0) (i := 0) 0 rfl rfl dX9_step_53 ?_
        refine yj_getf (v := .int (nI z)) fl_X9_31_9 (by omega) (fq_67 g1) (congrArg (fun z => some (Value.int z)) hs6) dX9_step_54 ?_
        refine yj_puti fl_X9_15_9 (by omega) fS_67_1 (fi_i _) dX9_step_57 ?_
        obtain ⟨zg1, ezg1⟩ : ∃ x9, x9 = gs g1 67 1 (nI z) := ⟨_, rfl⟩
        rw [← ezg1]
        have t0zg1 : zg1 67 0 = nI z := by rw [ezg1, gs_s, upd_n _ _ (by decide)]; exact (hf.2 0 (by unfold tX; omega) |>.trans h0)
        have t6zg1 : zg1 67 6 = nI z := by rw [ezg1, gs_s, upd_n _ _ (by decide)]; exact hs6
        have t1zg1 : zg1 67 1 = (nI z) := by rw [ezg1, gs_s, upd_s]
        have r68zg1 : zg1 68 = b := by rw [ezg1, gs_n _ _ _ (by decide)]; exact ((hf.1 68 (by decide)).trans hb)
        have fzg1 : fq tX g zg1 := by rw [ezg1]; exact hf.gs (by unfold tX; omega) _
        refine xj_aload_n (n := 0) (i := 0) 0 rfl rfl dX9_step_60 ?_
        refine yj_getf (v := .int (nI z)) fl_X9_31_9 (by omega) (fq_67 zg1) (congrArg (fun z => some (Value.int z)) t6zg1) dX9_step_61 ?_
        refine xj_aload_n (n := 0) (i := 0) 0 rfl rfl dX9_step_64 ?_
        refine yj_getf (v := .int (nI z)) fl_X9_9_9 (by omega) (fq_67 zg1) (congrArg (fun z => some (Value.int z)) t0zg1) dX9_step_65 ?_
        refine xj_icmp_lt (tgt := 79) (by decide) dX9_step_68 (fun zc68 => ?_) (fun zc68 => ?_)
        · have hlt : z < z := (nI_ltI (by omega) (by omega)).mp zc68
          have hzE : ¬ z ≤ z := by omega
          refine xj_aload_n (n := 0) (i := 0) 0 rfl rfl dX9_step_79 ?_
          refine yj_getf (v := .ref 68) fl_X9_18_9 (by omega) (fq_67 zg1) rfl dX9_step_80 ?_
          refine xj_aload_n (n := 0) (i := 0) 0 rfl rfl dX9_step_83 ?_
          refine yj_getf (v := .int (nI z)) fl_X9_31_9 (by omega) (fq_67 zg1) (congrArg (fun z => some (Value.int z)) t6zg1) dX9_step_84 ?_
          refine yj_ialdN z (by omega) fA_68 rfl (by omega) (by decide) dX9_step_87 ?_
          refine xj_top (congrFun r68zg1 z) ?_
          refine xj_callS ks_X9_85 (c_X9_isLetter l (d + 6) (b z) _) (As := [.int (b z)]) (st := []) rfl rfl (xRm_of (by omega) (by decide) (by omega) (by omega)) (Nat.le_of_ble_eq_true rfl) dX9_step_88 (yk_p (kc := 0) (ks := 0) ?_)
          refine xj_if_eq (tgt := 101) (by decide) dX9_step_91 (fun zc91 => ?_) (fun zc91 => ?_)
          · have hl : ¬ isLt (b z) = true := fun y => bI_0.mp zc91 (isLt_i.mpr y)
            refine xj_aload_n (n := 0) (i := 0) 0 rfl rfl dX9_step_101 ?_
            refine yj_getf (v := .ref 68) fl_X9_18_9 (by omega) (fq_67 zg1) rfl dX9_step_102 ?_
            refine xj_aload_n (n := 0) (i := 0) 0 rfl rfl dX9_step_105 ?_
            refine yj_getf (v := .int (nI z)) fl_X9_31_9 (by omega) (fq_67 zg1) (congrArg (fun z => some (Value.int z)) t6zg1) dX9_step_106 ?_
            refine yj_ialdN z (by omega) fA_68 rfl (by omega) (by decide) dX9_step_109 ?_
            refine xj_top (congrFun r68zg1 z) ?_
            refine xj_callS ks_X9_91 (c_X9_isDigit l (d + 6) (b z) _) (As := [.int (b z)]) (st := []) rfl rfl (xRm_of (by omega) (by decide) (by omega) (by omega)) (Nat.le_of_ble_eq_true rfl) dX9_step_110 (yk_p (kc := 0) (ks := 0) ?_)
            refine xj_if_eq (tgt := 123) (by decide) dX9_step_113 (fun zc113 => ?_) (fun zc113 => ?_)
            · have hd : ¬ isDg (b z) = true := fun y => bI_0.mp zc113 (isDg_i.mpr y)
              refine xj_aload_n (n := 0) (i := 0) 0 rfl rfl dX9_step_123 ?_
              refine xj_aload_n (n := 0) (i := 0) 0 rfl rfl dX9_step_124 ?_
              refine yj_getf (v := .ref 68) fl_X9_18_9 (by omega) (fq_67 zg1) rfl dX9_step_125 ?_
              refine xj_aload_n (n := 0) (i := 0) 0 rfl rfl dX9_step_128 ?_
              refine yj_getf (v := .int (nI z)) fl_X9_31_9 (by omega) (fq_67 zg1) (congrArg (fun z => some (Value.int z)) t6zg1) dX9_step_129 ?_
              refine yj_ialdN z (by omega) fA_68 rfl (by omega) (by decide) dX9_step_132 ?_
              refine xj_top (congrFun r68zg1 z) ?_
              refine xj_callS ks_X9_97 (c_X9_isSign l (d + 6) (b z) _) (As := [.int (b z)]) (st := [.ref 67]) rfl rfl (xRm_of (by omega) (by decide) (by omega) (by omega)) (Nat.le_of_ble_eq_true rfl) dX9_step_133 (yk_p (kc := 0) (ks := 0) ?_)
              refine xj_if_eq (tgt := 151) (by decide) dX9_step_136 (fun zc136 => ?_) (fun zc136 => ?_)
              · have hs : ¬ isSg (b z) = true := fun y => bI_0.mp zc136 (isSg_i.mpr y)
                have hT : tkP b z i = 2 := by unfold tkP; rw [hE, if_neg hzE, if_neg hl, if_neg hd, if_neg hs]
                have hN : nxP b z i = z + 1 := by unfold nxP; rw [hE, if_neg hzE, if_neg hl, if_neg hd]
                refine xj_iconst (v := 2) (by decide) dX9_step_151 ?_
                refine yj_puti fl_X9_34_9 (by omega) fS_67_7 (fi_i _) dX9_step_152 ?_
                obtain ⟨zg2, ezg2⟩ : ∃ x9, x9 = gs zg1 67 7 2 := ⟨_, rfl⟩
                rw [← ezg2]
                have t0zg2 : zg2 67 0 = nI z := by rw [ezg2, gs_s, upd_n _ _ (by decide)]; exact t0zg1
                have t6zg2 : zg2 67 6 = nI z := by rw [ezg2, gs_s, upd_n _ _ (by decide)]; exact t6zg1
                have t1zg2 : zg2 67 1 = (nI z) := by rw [ezg2, gs_s, upd_n _ _ (by decide)]; exact t1zg1
                have t7zg2 : zg2 67 7 = 2 := by rw [ezg2, gs_s, upd_s]
                have r68zg2 : zg2 68 = b := by rw [ezg2, gs_n _ _ _ (by decide)]; exact r68zg1
                have fzg2 : fq tX g zg2 := by rw [ezg2]; exact fzg1.gs (by unfold tX; omega) _
                refine xj_aload_n (n := 0) (i := 0) 0 rfl rfl dX9_step_155 ?_
                refine xj_dup rfl dX9_step_156 ?_
                refine yj_getf (v := .int (nI z)) fl_X9_31_9 (by omega) (fq_67 zg2) (congrArg (fun z => some (Value.int z)) t6zg2) dX9_step_157 ?_
                refine xj_iconst (v := 1) (by decide) dX9_step_160 ?_
                refine xj_iadd dX9_step_161 ?_
                refine xj_topi (fun zv3 ezv3 => ?_)
                refine yj_puti fl_X9_31_9 (by omega) fS_67_6 (fi_i _) dX9_step_162 ?_
                obtain ⟨zg4, ezg4⟩ : ∃ x9, x9 = gs zg2 67 6 zv3 := ⟨_, rfl⟩
                rw [← ezg4]
                have t0zg4 : zg4 67 0 = nI z := by rw [ezg4, gs_s, upd_n _ _ (by decide)]; exact t0zg2
                have t1zg4 : zg4 67 1 = (nI z) := by rw [ezg4, gs_s, upd_n _ _ (by decide)]; exact t1zg2
                have t7zg4 : zg4 67 7 = 2 := by rw [ezg4, gs_s, upd_n _ _ (by decide)]; exact t7zg2
                have t6zg4 : zg4 67 6 = zv3 := by rw [ezg4, gs_s, upd_s]
                have r68zg4 : zg4 68 = b := by rw [ezg4, gs_n _ _ _ (by decide)]; exact r68zg2
                have fzg4 : fq tX g zg4 := by rw [ezg4]; exact fzg2.gs (by unfold tX; omega) _
                exact xj_return rfl (Nat.zero_le _) (Nat.zero_le _) dX9_step_165 (qV_e ⟨fzg4, t1zg4.trans (by rw [hE]), (t6zg4.trans (show zv3 = nI (z + 1) from by rw [ezv3, nI_1])).trans (by rw [hN]), t7zg4.trans hT.symm, fun y => absurd (hT.symm.trans y) (by decide)⟩)
              · have hs : isSg (b z) = true := isSg_i.mp (bI_n0.mp zc136)
                have hT : tkP b z i = b z := by unfold tkP; rw [hE, if_neg hzE, if_neg hl, if_neg hd, if_pos hs]
                have hN : nxP b z i = z + 1 := by unfold nxP; rw [hE, if_neg hzE, if_neg hl, if_neg hd]
                refine xj_aload_n (n := 0) (i := 0) 0 rfl rfl dX9_step_139 ?_
                refine yj_getf (v := .ref 68) fl_X9_18_9 (by omega) (fq_67 zg1) rfl dX9_step_140 ?_
                refine xj_aload_n (n := 0) (i := 0) 0 rfl rfl dX9_step_143 ?_
                refine yj_getf (v := .int (nI z)) fl_X9_31_9 (by omega) (fq_67 zg1) (congrArg (fun z => some (Value.int z)) t6zg1) dX9_step_144 ?_
                refine yj_ialdN z (by omega) fA_68 rfl (by omega) (by decide) dX9_step_147 ?_
                refine xj_top (congrFun r68zg1 z) ?_
                refine xj_goto (tgt := 152) (by decide) dX9_step_148 ?_
                refine xj_topi (fun zv5 ezv5 => ?_)
                refine yj_puti fl_X9_34_9 (by omega) fS_67_7 (fi_i _) dX9_step_152 ?_
                obtain ⟨zg6, ezg6⟩ : ∃ x9, x9 = gs zg1 67 7 zv5 := ⟨_, rfl⟩
                rw [← ezg6]
                have t0zg6 : zg6 67 0 = nI z := by rw [ezg6, gs_s, upd_n _ _ (by decide)]; exact t0zg1
                have t6zg6 : zg6 67 6 = nI z := by rw [ezg6, gs_s, upd_n _ _ (by decide)]; exact t6zg1
                have t1zg6 : zg6 67 1 = (nI z) := by rw [ezg6, gs_s, upd_n _ _ (by decide)]; exact t1zg1
                have t7zg6 : zg6 67 7 = zv5 := by rw [ezg6, gs_s, upd_s]
                have r68zg6 : zg6 68 = b := by rw [ezg6, gs_n _ _ _ (by decide)]; exact r68zg1
                have fzg6 : fq tX g zg6 := by rw [ezg6]; exact fzg1.gs (by unfold tX; omega) _
                refine xj_aload_n (n := 0) (i := 0) 0 rfl rfl dX9_step_155 ?_
                refine xj_dup rfl dX9_step_156 ?_
                refine yj_getf (v := .int (nI z)) fl_X9_31_9 (by omega) (fq_67 zg6) (congrArg (fun z => some (Value.int z)) t6zg6) dX9_step_157 ?_
                refine xj_iconst (v := 1) (by decide) dX9_step_160 ?_
                refine xj_iadd dX9_step_161 ?_
                refine xj_topi (fun zv7 ezv7 => ?_)
                refine yj_puti fl_X9_31_9 (by omega) fS_67_6 (fi_i _) dX9_step_162 ?_
                obtain ⟨zg8, ezg8⟩ : ∃ x9, x9 = gs zg6 67 6 zv7 := ⟨_, rfl⟩
                rw [← ezg8]
                have t0zg8 : zg8 67 0 = nI z := by rw [ezg8, gs_s, upd_n _ _ (by decide)]; exact t0zg6
                have t1zg8 : zg8 67 1 = (nI z) := by rw [ezg8, gs_s, upd_n _ _ (by decide)]; exact t1zg6
                have t7zg8 : zg8 67 7 = zv5 := by rw [ezg8, gs_s, upd_n _ _ (by decide)]; exact t7zg6
                have t6zg8 : zg8 67 6 = zv7 := by rw [ezg8, gs_s, upd_s]
                have r68zg8 : zg8 68 = b := by rw [ezg8, gs_n _ _ _ (by decide)]; exact r68zg6
                have fzg8 : fq tX g zg8 := by rw [ezg8]; exact fzg6.gs (by unfold tX; omega) _
                exact xj_return rfl (Nat.zero_le _) (Nat.zero_le _) dX9_step_165 (qV_e ⟨fzg8, t1zg8.trans (by rw [hE]), (t6zg8.trans (show zv7 = nI (z + 1) from by rw [ezv7, nI_1])).trans (by rw [hN]), (t7zg8.trans ezv5).trans hT.symm, fun y => absurd (hT.symm.trans y) (sg_1n hs)⟩)
            · have hd : isDg (b z) = true := isDg_i.mp (bI_n0.mp zc113)
              have hT : tkP b z i = (if rnP isDg b z z - z ≤ 4 then 1 else 2) := by unfold tkP; rw [hE, if_neg hzE, if_neg hl, if_pos hd]
              have hN : nxP b z i = rnP isDg b z z := by unfold nxP; rw [hE, if_neg hzE, if_neg hl, if_pos hd]
              refine xj_aload_n (n := 0) (i := 0) 0 rfl rfl dX9_step_116 ?_
              refine xj_callV kv_X9_94 (c_X9_stepNumber l (d + 5) n hn zg1 b z hz r68zg1 t0zg1 z (by omega) t1zg1 t6zg1) (As := []) (st := []) (by omega) (fq_67 zg1) (ci := 9) rfl rfl rfl rfl (xRm_of (by omega) (by decide) (by omega) (by omega)) (Nat.le_of_ble_eq_true rfl) dX9_step_117 (yk_v (kc := 0) (ks := 0) fun zg9 hzg9 => ?_)
              obtain ⟨hqzg9, hq1zg9, hq6zg9, hq7zg9, hq8⟩ := hzg9
              refine xj_goto (tgt := 165) (by decide) dX9_step_120 ?_
              exact xj_return rfl (Nat.zero_le _) (Nat.zero_le _) dX9_step_165 (qV_e ⟨(fzg1.tr hqzg9), hq1zg9.trans (by rw [hE]), hq6zg9.trans (by rw [hN]), hq7zg9.trans hT.symm, fun y => by unfold nmP; rw [hE]; exact hq8 (by rw [hT] at y; by_cases hc4 : rnP isDg b z z - z ≤ 4; (exact hc4); (rw [if_neg hc4] at y; exact absurd y (by decide)))⟩)
          · have hl : isLt (b z) = true := isLt_i.mp (bI_n0.mp zc91)
            have hT : tkP b z i = wdF (mtW b z (rnP isLt b z z)) 12 := by unfold tkP; rw [hE, if_neg hzE, if_pos hl]
            have hN : nxP b z i = rnP isLt b z z := by unfold nxP; rw [hE, if_neg hzE, if_pos hl]
            refine xj_aload_n (n := 0) (i := 0) 0 rfl rfl dX9_step_94 ?_
            refine xj_callV kv_X9_88 (c_X9_stepWord l (d + 0) n hn zg1 b z hz r68zg1 t0zg1 z (by omega) t1zg1 t6zg1) (As := []) (st := []) (by omega) (fq_67 zg1) (ci := 9) rfl rfl rfl rfl (xRm_of (by omega) (by decide) (by omega) (by omega)) (Nat.le_of_ble_eq_true rfl) dX9_step_95 (yk_v (kc := 0) (ks := 0) fun zg10 hzg10 => ?_)
            obtain ⟨hqzg10, hq1zg10, hq6zg10, hq7zg10⟩ := hzg10
            refine xj_goto (tgt := 165) (by decide) dX9_step_98 ?_
            exact xj_return rfl (Nat.zero_le _) (Nat.zero_le _) dX9_step_165 (qV_e ⟨(fzg1.tr hqzg10), hq1zg10.trans (by rw [hE]), hq6zg10.trans (by rw [hN]), hq7zg10.trans hT.symm, fun y => absurd (hT.symm.trans y) (wd_1 _)⟩)
        · have hzE : z ≤ z := Nat.le_of_not_lt (fun y => zc68 (nI_lt y (by omega)))
          have hT : tkP b z i = 0 := by unfold tkP; rw [hE, if_pos hzE]
          have hN : nxP b z i = z := by unfold nxP; rw [hE, if_pos hzE]
          refine xj_aload_n (n := 0) (i := 0) 0 rfl rfl dX9_step_71 ?_
          refine xj_iconst (v := 0) (by decide) dX9_step_72 ?_
          refine yj_puti fl_X9_34_9 (by omega) fS_67_7 (fi_i _) dX9_step_73 ?_
          obtain ⟨zg11, ezg11⟩ : ∃ x9, x9 = gs zg1 67 7 0 := ⟨_, rfl⟩
          rw [← ezg11]
          have t0zg11 : zg11 67 0 = nI z := by rw [ezg11, gs_s, upd_n _ _ (by decide)]; exact t0zg1
          have t6zg11 : zg11 67 6 = nI z := by rw [ezg11, gs_s, upd_n _ _ (by decide)]; exact t6zg1
          have t1zg11 : zg11 67 1 = (nI z) := by rw [ezg11, gs_s, upd_n _ _ (by decide)]; exact t1zg1
          have t7zg11 : zg11 67 7 = 0 := by rw [ezg11, gs_s, upd_s]
          have r68zg11 : zg11 68 = b := by rw [ezg11, gs_n _ _ _ (by decide)]; exact r68zg1
          have fzg11 : fq tX g zg11 := by rw [ezg11]; exact fzg1.gs (by unfold tX; omega) _
          refine xj_goto (tgt := 165) (by decide) dX9_step_76 ?_
          exact xj_return rfl (Nat.zero_le _) (Nat.zero_le _) dX9_step_165 (qV_e ⟨fzg11, t1zg11.trans (by rw [hE]), t6zg11.trans (by rw [hN]), t7zg11.trans hT.symm, fun y => absurd (hT.symm.trans y) (by decide)⟩)
      · exact absurd (nI_le (Nat.le_refl _) (by omega)) zc8
    · intro j hj ih g1 hf hs6 hr hij
      refine xj_aload_n (n := 0) (i := 0) 0 rfl rfl dX9_step_0 ?_
      refine yj_getf (v := .int (nI j)) fl_X9_31_9 (by omega) (fq_67 g1) (congrArg (fun z => some (Value.int z)) hs6) dX9_step_1 ?_
      refine xj_aload_n (n := 0) (i := 0) 0 rfl rfl dX9_step_4 ?_
      refine yj_getf (v := .int (nI z)) fl_X9_9_9 (by omega) (fq_67 g1) (congrArg (fun z => some (Value.int z)) (hf.2 0 (by unfold tX; omega) |>.trans h0)) dX9_step_5 ?_
      refine xj_icmp_ge (tgt := 52) (by decide) dX9_step_8 (fun zc8 => ?_) (fun zc8 => ?_)
      · exact absurd zc8 (nI_ge hj (by omega))
      · refine xj_aload_n (n := 0) (i := 0) 0 rfl rfl dX9_step_11 ?_
        refine yj_getf (v := .ref 68) fl_X9_18_9 (by omega) (fq_67 g1) rfl dX9_step_12 ?_
        refine xj_aload_n (n := 0) (i := 0) 0 rfl rfl dX9_step_15 ?_
        refine yj_getf (v := .int (nI j)) fl_X9_31_9 (by omega) (fq_67 g1) (congrArg (fun z => some (Value.int z)) hs6) dX9_step_16 ?_
        refine yj_ialdN j (by omega) fA_68 rfl (by omega) (by decide) dX9_step_19 ?_
        refine xj_top (congrFun ((hf.1 68 (by decide)).trans hb) j) ?_
        refine xj_bipush (v := 32) (by decide) dX9_step_20 ?_
        refine xj_icmp_eq (tgt := 39) (by decide) dX9_step_22 (fun zc22 => ?_) (fun zc22 => ?_)
        · have hbl : isBl (b j) = true := decide_eq_true (Or.inl zc22)
          have hst := rnP_s (p := isBl) (b := b) hj hbl
          refine xj_aload_n (n := 0) (i := 0) 0 rfl rfl dX9_step_39 ?_
          refine xj_dup rfl dX9_step_40 ?_
          refine yj_getf (v := .int (nI j)) fl_X9_31_9 (by omega) (fq_67 g1) (congrArg (fun z => some (Value.int z)) hs6) dX9_step_41 ?_
          refine xj_iconst (v := 1) (by decide) dX9_step_44 ?_
          refine xj_iadd dX9_step_45 ?_
          refine xj_topi (fun zv12 ezv12 => ?_)
          refine yj_puti fl_X9_31_9 (by omega) fS_67_6 (fi_i _) dX9_step_46 ?_
          obtain ⟨zg13, ezg13⟩ : ∃ x9, x9 = gs g1 67 6 zv12 := ⟨_, rfl⟩
          rw [← ezg13]
          have t0zg13 : zg13 67 0 = nI z := by rw [ezg13, gs_s, upd_n _ _ (by decide)]; exact (hf.2 0 (by unfold tX; omega) |>.trans h0)
          have t6zg13 : zg13 67 6 = zv12 := by rw [ezg13, gs_s, upd_s]
          have r68zg13 : zg13 68 = b := by rw [ezg13, gs_n _ _ _ (by decide)]; exact ((hf.1 68 (by decide)).trans hb)
          have fzg13 : fq tX g zg13 := by rw [ezg13]; exact hf.gs (by unfold tX; omega) _
          refine xj_goto (tgt := 0) (by decide) dX9_step_49 ?_
          refine xj_sub (lv' := [(0, .ref 67)]) [0] rfl ?_
          exact ih zg13 fzg13 (t6zg13.trans (by rw [ezv12, nI_1])) (hst.symm.trans hr) (by omega)
        · refine xj_aload_n (n := 0) (i := 0) 0 rfl rfl dX9_step_25 ?_
          refine yj_getf (v := .ref 68) fl_X9_18_9 (by omega) (fq_67 g1) rfl dX9_step_26 ?_
          refine xj_aload_n (n := 0) (i := 0) 0 rfl rfl dX9_step_29 ?_
          refine yj_getf (v := .int (nI j)) fl_X9_31_9 (by omega) (fq_67 g1) (congrArg (fun z => some (Value.int z)) hs6) dX9_step_30 ?_
          refine yj_ialdN j (by omega) fA_68 rfl (by omega) (by decide) dX9_step_33 ?_
          refine xj_top (congrFun ((hf.1 68 (by decide)).trans hb) j) ?_
          refine xj_bipush (v := 10) (by decide) dX9_step_34 ?_
          refine xj_icmp_ne (tgt := 52) (by decide) dX9_step_36 (fun zc36 => ?_) (fun zc36 => ?_)
          · have hnb : ¬ isBl (b j) = true := fun y => (of_decide_eq_true y).elim zc22 zc36
            have hend : rnP isBl b z j = j := rnP_n hnb
            have hE : stP b z i = j := hr.symm.trans hend
            refine xj_aload_n (n := 0) (i := 0) 0 rfl rfl dX9_step_52 ?_
            refine xj_aload_n (n := 0) (i := 0) 0 rfl rfl dX9_step_53 ?_
            refine yj_getf (v := .int (nI j)) fl_X9_31_9 (by omega) (fq_67 g1) (congrArg (fun z => some (Value.int z)) hs6) dX9_step_54 ?_
            refine yj_puti fl_X9_15_9 (by omega) fS_67_1 (fi_i _) dX9_step_57 ?_
            obtain ⟨zg14, ezg14⟩ : ∃ x9, x9 = gs g1 67 1 (nI j) := ⟨_, rfl⟩
            rw [← ezg14]
            have t0zg14 : zg14 67 0 = nI z := by rw [ezg14, gs_s, upd_n _ _ (by decide)]; exact (hf.2 0 (by unfold tX; omega) |>.trans h0)
            have t6zg14 : zg14 67 6 = nI j := by rw [ezg14, gs_s, upd_n _ _ (by decide)]; exact hs6
            have t1zg14 : zg14 67 1 = (nI j) := by rw [ezg14, gs_s, upd_s]
            have r68zg14 : zg14 68 = b := by rw [ezg14, gs_n _ _ _ (by decide)]; exact ((hf.1 68 (by decide)).trans hb)
            have fzg14 : fq tX g zg14 := by rw [ezg14]; exact hf.gs (by unfold tX; omega) _
            refine xj_aload_n (n := 0) (i := 0) 0 rfl rfl dX9_step_60 ?_
            refine yj_getf (v := .int (nI j)) fl_X9_31_9 (by omega) (fq_67 zg14) (congrArg (fun z => some (Value.int z)) t6zg14) dX9_step_61 ?_
            refine xj_aload_n (n := 0) (i := 0) 0 rfl rfl dX9_step_64 ?_
            refine yj_getf (v := .int (nI z)) fl_X9_9_9 (by omega) (fq_67 zg14) (congrArg (fun z => some (Value.int z)) t0zg14) dX9_step_65 ?_
            refine xj_icmp_lt (tgt := 79) (by decide) dX9_step_68 (fun zc68 => ?_) (fun zc68 => ?_)
            · have hlt : j < z := (nI_ltI (by omega) (by omega)).mp zc68
              have hzE : ¬ z ≤ j := by omega
              refine xj_aload_n (n := 0) (i := 0) 0 rfl rfl dX9_step_79 ?_
              refine yj_getf (v := .ref 68) fl_X9_18_9 (by omega) (fq_67 zg14) rfl dX9_step_80 ?_
              refine xj_aload_n (n := 0) (i := 0) 0 rfl rfl dX9_step_83 ?_
              refine yj_getf (v := .int (nI j)) fl_X9_31_9 (by omega) (fq_67 zg14) (congrArg (fun z => some (Value.int z)) t6zg14) dX9_step_84 ?_
              refine yj_ialdN j (by omega) fA_68 rfl (by omega) (by decide) dX9_step_87 ?_
              refine xj_top (congrFun r68zg14 j) ?_
              refine xj_callS ks_X9_85 (c_X9_isLetter l (d + 6) (b j) _) (As := [.int (b j)]) (st := []) rfl rfl (xRm_of (by omega) (by decide) (by omega) (by omega)) (Nat.le_of_ble_eq_true rfl) dX9_step_88 (yk_p (kc := 0) (ks := 0) ?_)
              refine xj_if_eq (tgt := 101) (by decide) dX9_step_91 (fun zc91 => ?_) (fun zc91 => ?_)
              · have hl : ¬ isLt (b j) = true := fun y => bI_0.mp zc91 (isLt_i.mpr y)
                refine xj_aload_n (n := 0) (i := 0) 0 rfl rfl dX9_step_101 ?_
                refine yj_getf (v := .ref 68) fl_X9_18_9 (by omega) (fq_67 zg14) rfl dX9_step_102 ?_
                refine xj_aload_n (n := 0) (i := 0) 0 rfl rfl dX9_step_105 ?_
                refine yj_getf (v := .int (nI j)) fl_X9_31_9 (by omega) (fq_67 zg14) (congrArg (fun z => some (Value.int z)) t6zg14) dX9_step_106 ?_
                refine yj_ialdN j (by omega) fA_68 rfl (by omega) (by decide) dX9_step_109 ?_
                refine xj_top (congrFun r68zg14 j) ?_
                refine xj_callS ks_X9_91 (c_X9_isDigit l (d + 6) (b j) _) (As := [.int (b j)]) (st := []) rfl rfl (xRm_of (by omega) (by decide) (by omega) (by omega)) (Nat.le_of_ble_eq_true rfl) dX9_step_110 (yk_p (kc := 0) (ks := 0) ?_)
                refine xj_if_eq (tgt := 123) (by decide) dX9_step_113 (fun zc113 => ?_) (fun zc113 => ?_)
                · have hd : ¬ isDg (b j) = true := fun y => bI_0.mp zc113 (isDg_i.mpr y)
                  refine xj_aload_n (n := 0) (i := 0) 0 rfl rfl dX9_step_123 ?_
                  refine xj_aload_n (n := 0) (i := 0) 0 rfl rfl dX9_step_124 ?_
                  refine yj_getf (v := .ref 68) fl_X9_18_9 (by omega) (fq_67 zg14) rfl dX9_step_125 ?_
                  refine xj_aload_n (n := 0) (i := 0) 0 rfl rfl dX9_step_128 ?_
                  refine yj_getf (v := .int (nI j)) fl_X9_31_9 (by omega) (fq_67 zg14) (congrArg (fun z => some (Value.int z)) t6zg14) dX9_step_129 ?_
                  refine yj_ialdN j (by omega) fA_68 rfl (by omega) (by decide) dX9_step_132 ?_
                  refine xj_top (congrFun r68zg14 j) ?_
                  refine xj_callS ks_X9_97 (c_X9_isSign l (d + 6) (b j) _) (As := [.int (b j)]) (st := [.ref 67]) rfl rfl (xRm_of (by omega) (by decide) (by omega) (by omega)) (Nat.le_of_ble_eq_true rfl) dX9_step_133 (yk_p (kc := 0) (ks := 0) ?_)
                  refine xj_if_eq (tgt := 151) (by decide) dX9_step_136 (fun zc136 => ?_) (fun zc136 => ?_)
                  · have hs : ¬ isSg (b j) = true := fun y => bI_0.mp zc136 (isSg_i.mpr y)
                    have hT : tkP b z i = 2 := by unfold tkP; rw [hE, if_neg hzE, if_neg hl, if_neg hd, if_neg hs]
                    have hN : nxP b z i = j + 1 := by unfold nxP; rw [hE, if_neg hzE, if_neg hl, if_neg hd]
                    refine xj_iconst (v := 2) (by decide) dX9_step_151 ?_
                    refine yj_puti fl_X9_34_9 (by omega) fS_67_7 (fi_i _) dX9_step_152 ?_
                    obtain ⟨zg15, ezg15⟩ : ∃ x9, x9 = gs zg14 67 7 2 := ⟨_, rfl⟩
                    rw [← ezg15]
                    have t0zg15 : zg15 67 0 = nI z := by rw [ezg15, gs_s, upd_n _ _ (by decide)]; exact t0zg14
                    have t6zg15 : zg15 67 6 = nI j := by rw [ezg15, gs_s, upd_n _ _ (by decide)]; exact t6zg14
                    have t1zg15 : zg15 67 1 = (nI j) := by rw [ezg15, gs_s, upd_n _ _ (by decide)]; exact t1zg14
                    have t7zg15 : zg15 67 7 = 2 := by rw [ezg15, gs_s, upd_s]
                    have r68zg15 : zg15 68 = b := by rw [ezg15, gs_n _ _ _ (by decide)]; exact r68zg14
                    have fzg15 : fq tX g zg15 := by rw [ezg15]; exact fzg14.gs (by unfold tX; omega) _
                    refine xj_aload_n (n := 0) (i := 0) 0 rfl rfl dX9_step_155 ?_
                    refine xj_dup rfl dX9_step_156 ?_
                    refine yj_getf (v := .int (nI j)) fl_X9_31_9 (by omega) (fq_67 zg15) (congrArg (fun z => some (Value.int z)) t6zg15) dX9_step_157 ?_
                    refine xj_iconst (v := 1) (by decide) dX9_step_160 ?_
                    refine xj_iadd dX9_step_161 ?_
                    refine xj_topi (fun zv16 ezv16 => ?_)
                    refine yj_puti fl_X9_31_9 (by omega) fS_67_6 (fi_i _) dX9_step_162 ?_
                    obtain ⟨zg17, ezg17⟩ : ∃ x9, x9 = gs zg15 67 6 zv16 := ⟨_, rfl⟩
                    rw [← ezg17]
                    have t0zg17 : zg17 67 0 = nI z := by rw [ezg17, gs_s, upd_n _ _ (by decide)]; exact t0zg15
                    have t1zg17 : zg17 67 1 = (nI j) := by rw [ezg17, gs_s, upd_n _ _ (by decide)]; exact t1zg15
                    have t7zg17 : zg17 67 7 = 2 := by rw [ezg17, gs_s, upd_n _ _ (by decide)]; exact t7zg15
                    have t6zg17 : zg17 67 6 = zv16 := by rw [ezg17, gs_s, upd_s]
                    have r68zg17 : zg17 68 = b := by rw [ezg17, gs_n _ _ _ (by decide)]; exact r68zg15
                    have fzg17 : fq tX g zg17 := by rw [ezg17]; exact fzg15.gs (by unfold tX; omega) _
                    exact xj_return rfl (Nat.zero_le _) (Nat.zero_le _) dX9_step_165 (qV_e ⟨fzg17, t1zg17.trans (by rw [hE]), (t6zg17.trans (show zv16 = nI (j + 1) from by rw [ezv16, nI_1])).trans (by rw [hN]), t7zg17.trans hT.symm, fun y => absurd (hT.symm.trans y) (by decide)⟩)
                  · have hs : isSg (b j) = true := isSg_i.mp (bI_n0.mp zc136)
                    have hT : tkP b z i = b j := by unfold tkP; rw [hE, if_neg hzE, if_neg hl, if_neg hd, if_pos hs]
                    have hN : nxP b z i = j + 1 := by unfold nxP; rw [hE, if_neg hzE, if_neg hl, if_neg hd]
                    refine xj_aload_n (n := 0) (i := 0) 0 rfl rfl dX9_step_139 ?_
                    refine yj_getf (v := .ref 68) fl_X9_18_9 (by omega) (fq_67 zg14) rfl dX9_step_140 ?_
                    refine xj_aload_n (n := 0) (i := 0) 0 rfl rfl dX9_step_143 ?_
                    refine yj_getf (v := .int (nI j)) fl_X9_31_9 (by omega) (fq_67 zg14) (congrArg (fun z => some (Value.int z)) t6zg14) dX9_step_144 ?_
                    refine yj_ialdN j (by omega) fA_68 rfl (by omega) (by decide) dX9_step_147 ?_
                    refine xj_top (congrFun r68zg14 j) ?_
                    refine xj_goto (tgt := 152) (by decide) dX9_step_148 ?_
                    refine xj_topi (fun zv18 ezv18 => ?_)
                    refine yj_puti fl_X9_34_9 (by omega) fS_67_7 (fi_i _) dX9_step_152 ?_
                    obtain ⟨zg19, ezg19⟩ : ∃ x9, x9 = gs zg14 67 7 zv18 := ⟨_, rfl⟩
                    rw [← ezg19]
                    have t0zg19 : zg19 67 0 = nI z := by rw [ezg19, gs_s, upd_n _ _ (by decide)]; exact t0zg14
                    have t6zg19 : zg19 67 6 = nI j := by rw [ezg19, gs_s, upd_n _ _ (by decide)]; exact t6zg14
                    have t1zg19 : zg19 67 1 = (nI j) := by rw [ezg19, gs_s, upd_n _ _ (by decide)]; exact t1zg14
                    have t7zg19 : zg19 67 7 = zv18 := by rw [ezg19, gs_s, upd_s]
                    have r68zg19 : zg19 68 = b := by rw [ezg19, gs_n _ _ _ (by decide)]; exact r68zg14
                    have fzg19 : fq tX g zg19 := by rw [ezg19]; exact fzg14.gs (by unfold tX; omega) _
                    refine xj_aload_n (n := 0) (i := 0) 0 rfl rfl dX9_step_155 ?_
                    refine xj_dup rfl dX9_step_156 ?_
                    refine yj_getf (v := .int (nI j)) fl_X9_31_9 (by omega) (fq_67 zg19) (congrArg (fun z => some (Value.int z)) t6zg19) dX9_step_157 ?_
                    refine xj_iconst (v := 1) (by decide) dX9_step_160 ?_
                    refine xj_iadd dX9_step_161 ?_
                    refine xj_topi (fun zv20 ezv20 => ?_)
                    refine yj_puti fl_X9_31_9 (by omega) fS_67_6 (fi_i _) dX9_step_162 ?_
                    obtain ⟨zg21, ezg21⟩ : ∃ x9, x9 = gs zg19 67 6 zv20 := ⟨_, rfl⟩
                    rw [← ezg21]
                    have t0zg21 : zg21 67 0 = nI z := by rw [ezg21, gs_s, upd_n _ _ (by decide)]; exact t0zg19
                    have t1zg21 : zg21 67 1 = (nI j) := by rw [ezg21, gs_s, upd_n _ _ (by decide)]; exact t1zg19
                    have t7zg21 : zg21 67 7 = zv18 := by rw [ezg21, gs_s, upd_n _ _ (by decide)]; exact t7zg19
                    have t6zg21 : zg21 67 6 = zv20 := by rw [ezg21, gs_s, upd_s]
                    have r68zg21 : zg21 68 = b := by rw [ezg21, gs_n _ _ _ (by decide)]; exact r68zg19
                    have fzg21 : fq tX g zg21 := by rw [ezg21]; exact fzg19.gs (by unfold tX; omega) _
                    exact xj_return rfl (Nat.zero_le _) (Nat.zero_le _) dX9_step_165 (qV_e ⟨fzg21, t1zg21.trans (by rw [hE]), (t6zg21.trans (show zv20 = nI (j + 1) from by rw [ezv20, nI_1])).trans (by rw [hN]), (t7zg21.trans ezv18).trans hT.symm, fun y => absurd (hT.symm.trans y) (sg_1n hs)⟩)
                · have hd : isDg (b j) = true := isDg_i.mp (bI_n0.mp zc113)
                  have hT : tkP b z i = (if rnP isDg b z j - j ≤ 4 then 1 else 2) := by unfold tkP; rw [hE, if_neg hzE, if_neg hl, if_pos hd]
                  have hN : nxP b z i = rnP isDg b z j := by unfold nxP; rw [hE, if_neg hzE, if_neg hl, if_pos hd]
                  refine xj_aload_n (n := 0) (i := 0) 0 rfl rfl dX9_step_116 ?_
                  refine xj_callV kv_X9_94 (c_X9_stepNumber l (d + 5) n hn zg14 b z hz r68zg14 t0zg14 j (by omega) t1zg14 t6zg14) (As := []) (st := []) (by omega) (fq_67 zg14) (ci := 9) rfl rfl rfl rfl (xRm_of (by omega) (by decide) (by omega) (by omega)) (Nat.le_of_ble_eq_true rfl) dX9_step_117 (yk_v (kc := 0) (ks := 0) fun zg22 hzg22 => ?_)
                  obtain ⟨hqzg22, hq1zg22, hq6zg22, hq7zg22, hq8⟩ := hzg22
                  refine xj_goto (tgt := 165) (by decide) dX9_step_120 ?_
                  exact xj_return rfl (Nat.zero_le _) (Nat.zero_le _) dX9_step_165 (qV_e ⟨(fzg14.tr hqzg22), hq1zg22.trans (by rw [hE]), hq6zg22.trans (by rw [hN]), hq7zg22.trans hT.symm, fun y => by unfold nmP; rw [hE]; exact hq8 (by rw [hT] at y; by_cases hc4 : rnP isDg b z j - j ≤ 4; (exact hc4); (rw [if_neg hc4] at y; exact absurd y (by decide)))⟩)
              · have hl : isLt (b j) = true := isLt_i.mp (bI_n0.mp zc91)
                have hT : tkP b z i = wdF (mtW b j (rnP isLt b z j)) 12 := by unfold tkP; rw [hE, if_neg hzE, if_pos hl]
                have hN : nxP b z i = rnP isLt b z j := by unfold nxP; rw [hE, if_neg hzE, if_pos hl]
                refine xj_aload_n (n := 0) (i := 0) 0 rfl rfl dX9_step_94 ?_
                refine xj_callV kv_X9_88 (c_X9_stepWord l (d + 0) n hn zg14 b z hz r68zg14 t0zg14 j (by omega) t1zg14 t6zg14) (As := []) (st := []) (by omega) (fq_67 zg14) (ci := 9) rfl rfl rfl rfl (xRm_of (by omega) (by decide) (by omega) (by omega)) (Nat.le_of_ble_eq_true rfl) dX9_step_95 (yk_v (kc := 0) (ks := 0) fun zg23 hzg23 => ?_)
                obtain ⟨hqzg23, hq1zg23, hq6zg23, hq7zg23⟩ := hzg23
                refine xj_goto (tgt := 165) (by decide) dX9_step_98 ?_
                exact xj_return rfl (Nat.zero_le _) (Nat.zero_le _) dX9_step_165 (qV_e ⟨(fzg14.tr hqzg23), hq1zg23.trans (by rw [hE]), hq6zg23.trans (by rw [hN]), hq7zg23.trans hT.symm, fun y => absurd (hT.symm.trans y) (wd_1 _)⟩)
            · have hzE : z ≤ j := Nat.le_of_not_lt (fun y => zc68 (nI_lt y (by omega)))
              have hT : tkP b z i = 0 := by unfold tkP; rw [hE, if_pos hzE]
              have hN : nxP b z i = j := by unfold nxP; rw [hE, if_pos hzE]
              refine xj_aload_n (n := 0) (i := 0) 0 rfl rfl dX9_step_71 ?_
              refine xj_iconst (v := 0) (by decide) dX9_step_72 ?_
              refine yj_puti fl_X9_34_9 (by omega) fS_67_7 (fi_i _) dX9_step_73 ?_
              obtain ⟨zg24, ezg24⟩ : ∃ x9, x9 = gs zg14 67 7 0 := ⟨_, rfl⟩
              rw [← ezg24]
              have t0zg24 : zg24 67 0 = nI z := by rw [ezg24, gs_s, upd_n _ _ (by decide)]; exact t0zg14
              have t6zg24 : zg24 67 6 = nI j := by rw [ezg24, gs_s, upd_n _ _ (by decide)]; exact t6zg14
              have t1zg24 : zg24 67 1 = (nI j) := by rw [ezg24, gs_s, upd_n _ _ (by decide)]; exact t1zg14
              have t7zg24 : zg24 67 7 = 0 := by rw [ezg24, gs_s, upd_s]
              have r68zg24 : zg24 68 = b := by rw [ezg24, gs_n _ _ _ (by decide)]; exact r68zg14
              have fzg24 : fq tX g zg24 := by rw [ezg24]; exact fzg14.gs (by unfold tX; omega) _
              refine xj_goto (tgt := 165) (by decide) dX9_step_76 ?_
              exact xj_return rfl (Nat.zero_le _) (Nat.zero_le _) dX9_step_165 (qV_e ⟨fzg24, t1zg24.trans (by rw [hE]), t6zg24.trans (by rw [hN]), t7zg24.trans hT.symm, fun y => absurd (hT.symm.trans y) (by decide)⟩)
          · have hbl : isBl (b j) = true := decide_eq_true (Or.inr zc36)
            have hst := rnP_s (p := isBl) (b := b) hj hbl
            refine xj_aload_n (n := 0) (i := 0) 0 rfl rfl dX9_step_39 ?_
            refine xj_dup rfl dX9_step_40 ?_
            refine yj_getf (v := .int (nI j)) fl_X9_31_9 (by omega) (fq_67 g1) (congrArg (fun z => some (Value.int z)) hs6) dX9_step_41 ?_
            refine xj_iconst (v := 1) (by decide) dX9_step_44 ?_
            refine xj_iadd dX9_step_45 ?_
            refine xj_topi (fun zv25 ezv25 => ?_)
            refine yj_puti fl_X9_31_9 (by omega) fS_67_6 (fi_i _) dX9_step_46 ?_
            obtain ⟨zg26, ezg26⟩ : ∃ x9, x9 = gs g1 67 6 zv25 := ⟨_, rfl⟩
            rw [← ezg26]
            have t0zg26 : zg26 67 0 = nI z := by rw [ezg26, gs_s, upd_n _ _ (by decide)]; exact (hf.2 0 (by unfold tX; omega) |>.trans h0)
            have t6zg26 : zg26 67 6 = zv25 := by rw [ezg26, gs_s, upd_s]
            have r68zg26 : zg26 68 = b := by rw [ezg26, gs_n _ _ _ (by decide)]; exact ((hf.1 68 (by decide)).trans hb)
            have fzg26 : fq tX g zg26 := by rw [ezg26]; exact hf.gs (by unfold tX; omega) _
            refine xj_goto (tgt := 0) (by decide) dX9_step_49 ?_
            refine xj_sub (lv' := [(0, .ref 67)]) [0] rfl ?_
            exact ih zg26 fzg26 (t6zg26.trans (by rw [ezv25, nI_1])) (hst.symm.trans hr) (by omega)
  refine xj_sub (lv' := [(0, .ref 67)]) [0] rfl ?_
  exact key i hi g fq.rf h6 rfl (Nat.le_refl i)
set_option maxHeartbeats 4000000 in
set_option maxRecDepth 100000 in
theorem c_X9_write (l : Launch) (d : Nat) (n : Nat) (hn : 110 ≤ n) (g : xG) (k : Nat) (hk : k < 160) (x : Int32) (h5 : g 67 5 = nI k)  : xC l yX9_write cX9_write 2 none (xR (d + 0) 0 0) [.ref 67, .int x] (n, fh g) (qV n fun g1 => g1 = gs (gs g 69 k x) 67 5 (nI (k + 1))) := by
  refine xC_of false (by decide +kernel) (fun z => by cases z) (Nat.le_of_ble_eq_true rfl) ?_
  show xJ l (RX9, 2, none, false, (xR (d + 0) 0 0), none) cX9_write _ 0 0 0 [(0, .ref 67), (1, .int x)] [] (n, fh g)
  refine xj_aload_n (n := 0) (i := 0) 0 rfl rfl dX9_write_0 ?_
  refine yj_getf (v := .int (nI k)) fl_X9_28_9 (by omega) (fq_67 g) (congrArg (fun z => some (Value.int z)) h5) dX9_write_1 ?_
  refine xj_sipush (v := 160) (by decide) dX9_write_4 ?_
  refine xj_icmp_ge (tgt := 30) (by decide) dX9_write_7 (fun zc7 => ?_) (fun zc7 => ?_)
  · exact absurd zc7 (nI_ge hk (by decide))
  · refine xj_aload_n (n := 0) (i := 0) 0 rfl rfl dX9_write_10 ?_
    refine yj_getf (v := .ref 69) fl_X9_22_9 (by omega) (fq_67 g) rfl dX9_write_11 ?_
    refine xj_aload_n (n := 0) (i := 0) 0 rfl rfl dX9_write_14 ?_
    refine yj_getf (v := .int (nI k)) fl_X9_28_9 (by omega) (fq_67 g) (congrArg (fun z => some (Value.int z)) h5) dX9_write_15 ?_
    refine xj_iload_n (n := 1) (i := 1) 1 rfl rfl dX9_write_18 ?_
    refine yj_iastN k (by omega) fA_69 rfl (by omega) (by decide) dX9_write_19 ?_
    obtain ⟨zg1, ezg1⟩ : ∃ z, z = gs g 69 k x := ⟨_, rfl⟩
    rw [← ezg1]
    have h6 : zg1 67 5 = nI k := by rw [ezg1, gs_n _ _ _ (by omega)]; exact h5
    refine xj_aload_n (n := 0) (i := 0) 0 rfl rfl dX9_write_20 ?_
    refine xj_dup rfl dX9_write_21 ?_
    refine yj_getf (v := .int (nI k)) fl_X9_28_9 (by omega) (fq_67 zg1) (congrArg (fun z => some (Value.int z)) h6) dX9_write_22 ?_
    refine xj_iconst (v := 1) (by decide) dX9_write_25 ?_
    refine xj_iadd dX9_write_26 ?_
    refine xj_topi (fun zv2 ezv2 => ?_)
    refine yj_puti fl_X9_28_9 (by omega) fS_67_5 (fi_i _) dX9_write_27 ?_
    obtain ⟨zg3, ezg3⟩ : ∃ z, z = gs zg1 67 5 zv2 := ⟨_, rfl⟩
    rw [← ezg3]
    exact xj_return rfl (Nat.zero_le _) (Nat.zero_le _) dX9_write_30 (qV_e (by rw [ezg3, ezg1, ezv2, nI_1]))
theorem tpA.wr {g : xG} {z : Nat} {b : Nat → Int32} {i : Nat} {C : List Int32} (h : tpA g z b i C) (x : Int32) : tpA (gs (gs g 69 C.length x) 67 5 (nI (C.length + 1))) z b i (x :: C) := by
  obtain ⟨a, c, e, f, k, o, q, s⟩ := h
  have r67 : ∀ j, j ≠ 5 → gs (gs g 69 C.length x) 67 5 (nI (C.length + 1)) 67 j = g 67 j := fun j hj => by rw [gs_s, upd_n _ _ hj, gs_n _ _ _ (by decide)]
  refine ⟨by rw [r67 0 (by decide)]; exact a, by rw [gs_n _ _ _ (by decide), gs_n _ _ _ (by decide)]; exact c, by rw [r67 1 (by decide)]; exact e, by rw [r67 6 (by decide)]; exact f, by rw [r67 7 (by decide)]; exact k, fun y => by rw [r67 8 (by decide)]; exact o y, by rw [gs_s, upd_s]; rfl, ?_⟩
  rw [gs_n _ _ _ (by decide), gs_s]
  exact lRow_push s x
theorem tpA.st {g g1 : xG} {z : Nat} {b : Nat → Int32} {i : Nat} {C : List Int32} (h : tpA g z b i C) (hq : fq tX g g1) {j : Nat} (h1 : g1 67 1 = nI (stP b z j)) (h6 : g1 67 6 = nI (nxP b z j)) (h7 : g1 67 7 = tkP b z j) (h8 : tkP b z j = 1 → g1 67 8 = nmP b z j) : tpA g1 z b j C := by
  obtain ⟨a, c, e, f, k, o, q, s⟩ := h
  exact ⟨(hq.2 0 (by unfold tX; omega)).trans a, (hq.1 68 (by decide)).trans c, h1, h6, h7, h8, (hq.2 5 (by unfold tX; omega)).trans q, by rw [hq.1 69 (by decide)]; exact s⟩
theorem fq.fr {X : Nat → Prop} {g g1 : xG} (h : fq X g g1) : fr (fun j => j = 67 ∨ j = 69) g g1 := fun j hj => h.1 j (fun e => hj (Or.inl e))
