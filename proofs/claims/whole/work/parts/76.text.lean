/-! THE REFERENCE READS: its tokens and codes beside the class's -/
def tkL : List Int32 := [0, 1, 2, 256, 257, 258, 259, 260, 261, 262, 263, 264, 265, 266, 267, 40, 41, 59, 43, 45, 42, 60, 61]
def hsL : List Int32 := [0, -259, -260, -261, -60, -61, -43, -45, -42, -3]
def mtq (t : Int32) : Int32 := if t = 2 then -1 else if t = 256 ∨ t = 257 ∨ t = 258 then 3 else if t = 259 then 4 else if t = 260 then 5 else if t = 261 then 6 else if 262 ≤ t then 2 else t
def tqH (s : Int32) : Int32 := if s = 0 then 0 else if s = -259 then 11 else if s = -260 then 12 else if s = -261 then 13 else if s = -60 then 14 else if s = -61 then 15 else if s = -43 then 16 else if s = -45 then 17 else if s = -42 then 18 else if s = -3 then 19 else nmI s
def tqO (c : Int32) : Int32 := if 0 ≤ c then 100000 + c else tqH c
def rkR (s : Int32) : Int32 := if s = 0 then 0 else if s = 11 then 1 else if s = 12 then 2 else if s = 13 then 3 else if 15 < s then (if 17 < s then (if s = 18 then 6 else 7) else 5) else 4
def sgR (t : Int32) : Int32 := if t = 4 then 11 else if t = 5 then 12 else if t = 60 then 14 else if t = 61 then 15 else if t = 43 then 16 else if t = 45 then 17 else if t = 42 then 18 else -1
theorem wdF_in (m : Nat → Bool) : ∀ k, k ≤ 12 → wdF m k ∈ tkL
  | 0, _ => (by decide : (2 : Int32) ∈ tkL)
  | k + 1, h => by
    unfold wdF
    split
    · exact (by decide +kernel : ∀ j, j < 12 → nI (256 + j) ∈ tkL) k (by omega)
    · exact wdF_in m k (by omega)
theorem tk_in (b : Nat → Int32) (z i : Nat) : tkP b z i ∈ tkL := by
  unfold tkP
  by_cases h1 : z ≤ stP b z i
  · rw [if_pos h1]; decide
  · rw [if_neg h1]
    by_cases h2 : isLt (b (stP b z i)) = true
    · rw [if_pos h2]; exact wdF_in _ 12 (Nat.le_refl _)
    · rw [if_neg h2]
      by_cases h3 : isDg (b (stP b z i)) = true
      · rw [if_pos h3]
        by_cases h4 : rnP isDg b z (stP b z i) - stP b z i ≤ 4
        · rw [if_pos h4]; decide
        · rw [if_neg h4]; decide
      · rw [if_neg h3]
        by_cases h5 : isSg (b (stP b z i)) = true
        · rw [if_pos h5]
          rcases (of_decide_eq_true h5 : b (stP b z i) = 40 ∨ b (stP b z i) = 41 ∨ b (stP b z i) = 59 ∨ b (stP b z i) = 43 ∨ b (stP b z i) = 45 ∨ b (stP b z i) = 42 ∨ b (stP b z i) = 60 ∨ b (stP b z i) = 61) with e | e | e | e | e | e | e | e <;> (rw [e]; decide)
        · rw [if_neg h5]; decide
theorem mtq_t : ∀ t ∈ tkL, (mtq t = 0 ↔ t = 0) ∧ (mtq t = 1 ↔ t = 1) ∧ (mtq t = 2 ↔ 262 ≤ t) ∧ (mtq t = 3 ↔ t = 256 ∨ t = 257 ∨ t = 258) ∧ (mtq t = 6 ↔ t = 261) ∧ (mtq t = 45 ↔ t = 45) ∧ (mtq t = 40 ↔ t = 40) ∧ (mtq t = 59 ↔ t = 59) ∧ (mtq t = 41 ↔ t = 41) := by decide +kernel
theorem sgR_t : ∀ t ∈ tkL, sgR (mtq t) = (if isOp t = true then tqH (-t) else -1) ∧ (262 ≤ t → tqO (-t) = t - 262) ∧ (isOp t = true → -t ∈ hsL ∧ ¬ tqH (-t) = -1 ∧ (tqH (-t) ≤ 12 ↔ rkS (-t) ≤ 2) ∧ opS (-t) = 0 ∧ ¬ -t = 0) := by decide +kernel
theorem hs_t : ∀ s ∈ hsL, rkR (tqH s) = nI (rkS s) ∧ rkS s ≤ 7 ∧ (rkS s = 0 → s = 0) ∧ (¬ s = 0 → tqO s = tqH s) ∧ (tqH s = 13 ∨ tqH s = 19 ↔ opS s = 1) ∧ (opS s = 1 ∨ opS s = 0) := by decide +kernel
/-! words -/
/-- what stands behind a word is blank -/
def wcR (b : Nat → Int32) (e j : Nat) : Int32 := if j < e then b j else 32
def wmF (b : Nat → Int32) (s e r : Nat) : Nat → Bool
  | 0 => decide (e - s ≤ 8)
  | i + 1 => if wmF b s e r i = true then decide (wdL.getD (8 * r + i) 0 = wcR b e (s + i)) else false
theorem wmF_i (b : Nat → Int32) (s e r : Nat) : ∀ k, wmF b s e r k = true ↔ (e - s ≤ 8 ∧ ∀ i, i < k → wdL.getD (8 * r + i) 0 = wcR b e (s + i))
  | 0 => ⟨fun h => ⟨of_decide_eq_true h, fun i hi => absurd hi (Nat.not_lt_zero _)⟩, fun h => decide_eq_true h.1⟩
  | k + 1 => by
    have ih := wmF_i b s e r k
    unfold wmF
    by_cases hc : wmF b s e r k = true
    · rw [if_pos hc, decide_eq_true_iff]
      refine ⟨fun h => ⟨(ih.mp hc).1, fun i hi => ?_⟩, fun h => h.2 k (Nat.lt_succ_self k)⟩
      by_cases e9 : i = k
      · rw [e9]; exact h
      · exact (ih.mp hc).2 i (by omega)
    · rw [if_neg hc]
      exact ⟨fun h => absurd h Bool.false_ne_true, fun h => absurd (ih.mpr ⟨h.1, fun i hi => h.2 i (by omega)⟩) hc⟩
def mtR (b : Nat → Int32) (s e r : Nat) : Bool := wmF b s e r 8
theorem wc_p {b : Nat → Int32} {e j : Nat} (h : j < e) : wcR b e j = b j := if_pos h
theorem wc_n {b : Nat → Int32} {e j : Nat} (h : ¬ j < e) : wcR b e j = 32 := if_neg h
def qmL : List Nat := [0, 1, 2, 6, 7, 8, 9, 10, 11, 3, 4, 5]
theorem wd_tab : ∀ r, r < 12 → qmL.getD r 0 < 12 ∧ lnL.getD (qmL.getD r 0) 0 ≤ 6 ∧ (∀ i, i < 8 → (i < lnL.getD (qmL.getD r 0) 0 → wdL.getD (8 * r + i) 0 = xBytes.getD (fsL.getD (qmL.getD r 0) 0 + i) 0 ∧ ¬ wdL.getD (8 * r + i) 0 = 32) ∧ (lnL.getD (qmL.getD r 0) 0 ≤ i → wdL.getD (8 * r + i) 0 = 32)) := by decide +kernel
theorem wd_inv : ∀ k, k < 12 → ∃ r, r < 12 ∧ qmL.getD r 0 = k := by decide +kernel
theorem wd_dif : ∀ k, k < 12 → ∀ k', k' < 12 → k = k' ∨ ¬ lnL.getD k 0 = lnL.getD k' 0 ∨ ∃ i, i < lnL.getD k 0 ∧ ¬ xBytes.getD (fsL.getD k 0 + i) 0 = xBytes.getD (fsL.getD k' 0 + i) 0 := by decide +kernel
theorem mtR_W {b : Nat → Int32} {s e r : Nat} (hr : r < 12) (hse : s ≤ e) (hl : ∀ j, s ≤ j → j < e → ¬ b j = 32) : mtR b s e r = true ↔ mtW b s e (qmL.getD r 0) = true := by
  obtain ⟨-, h6, ht⟩ := wd_tab r hr
  unfold mtR mtW
  rw [wmF_i, decide_eq_true_iff]
  generalize lnL.getD (qmL.getD r 0) 0 = len at h6 ht ⊢
  constructor
  · rintro ⟨h8, h⟩
    have hlen : e - s = len := by
      rcases Nat.lt_trichotomy (e - s) len with hc | hc | hc
      · have h1 := h (e - s) (by omega)
        rw [wc_n (by omega)] at h1
        exact absurd h1 ((ht (e - s) (by omega)).1 hc).2
      · exact hc
      · have h1 := h len (by omega)
        rw [wc_p (by omega)] at h1
        exact absurd (h1.symm.trans ((ht len (by omega)).2 (Nat.le_refl _))) (hl _ (by omega) (by omega))
    refine ⟨hlen, fun i hi => ?_⟩
    have h1 := h i (by omega)
    rw [wc_p (by omega)] at h1
    exact h1.symm.trans ((ht i (by omega)).1 hi).1
  · rintro ⟨hlen, h⟩
    refine ⟨by omega, fun i hi => ?_⟩
    by_cases hc : i < len
    · rw [wc_p (by omega), h i hc]
      exact ((ht i hi).1 hc).1
    · rw [wc_n (by omega)]
      exact (ht i hi).2 (by omega)
theorem mtW_1 {b : Nat → Int32} {s e k k' : Nat} (hk : k < 12) (hk' : k' < 12) (h : mtW b s e k = true) (h' : mtW b s e k' = true) : k = k' := by
  have a := of_decide_eq_true h
  have a' := of_decide_eq_true h'
  rcases wd_dif k hk k' hk' with c | c | ⟨i, hi, c⟩
  · exact c
  · exact absurd (a.1.symm.trans a'.1) c
  · exact absurd ((a.2 i hi).symm.trans (a'.2 i (by rw [← a'.1, a.1]; exact hi))) c
theorem wdF_of {m : Nat → Bool} {k : Nat} (hm : m k = true) (hu : ∀ j, j < 12 → m j = true → j = k) : ∀ n, n ≤ 12 → k < n → wdF m n = nI (256 + k)
  | 0, _, h => absurd h (Nat.not_lt_zero _)
  | n + 1, hn, h => by
    unfold wdF
    by_cases hc : m n = true
    · rw [if_pos hc, hu n (by omega) hc]
    · rw [if_neg hc]
      exact wdF_of hm hu n (by omega) (by
        have h9 : ¬ k = n := fun e => hc (e ▸ hm)
        omega)
theorem wdF_no {m : Nat → Bool} : ∀ n, (∀ j, j < n → ¬ m j = true) → wdF m n = 2
  | 0, _ => rfl
  | n + 1, h => by
    unfold wdF
    rw [if_neg (h n (Nat.lt_succ_self _))]
    exact wdF_no n (fun j hj => h j (by omega))
theorem wr_of {b : Nat → Int32} {s e r : Nat} (hr : r < 12) (hse : s ≤ e) (hl : ∀ j, s ≤ j → j < e → ¬ b j = 32) (h : mtR b s e r = true) : wdF (mtW b s e) 12 = nI (256 + qmL.getD r 0) := by
  have h1 := (mtR_W hr hse hl).mp h
  exact wdF_of h1 (fun j hj hm => mtW_1 hj (wd_tab r hr).1 hm h1) 12 (Nat.le_refl _) (wd_tab r hr).1
theorem wr_no {b : Nat → Int32} {s e : Nat} (hse : s ≤ e) (hl : ∀ j, s ≤ j → j < e → ¬ b j = 32) (h : ∀ r, r < 12 → ¬ mtR b s e r = true) : wdF (mtW b s e) 12 = 2 :=
  wdF_no 12 (fun j hj hm => by
    obtain ⟨r, hr, e9⟩ := wd_inv j hj
    exact h r hr ((mtR_W hr hse hl).mpr (by rw [e9]; exact hm)))
theorem wr_t : ∀ r, r < 12 → (r < 3 → mtq (nI (256 + qmL.getD r 0)) = 3 ∧ nI (256 + qmL.getD r 0) - 256 = nI r ∧ ¬ 262 ≤ nI (256 + qmL.getD r 0)) ∧ (3 ≤ r → r < 9 → mtq (nI (256 + qmL.getD r 0)) = 2 ∧ nI (256 + qmL.getD r 0) - 262 = nI r - 3) ∧ (9 ≤ r → mtq (nI (256 + qmL.getD r 0)) = 4 + nI r - 9 ∧ ¬ 262 ≤ nI (256 + qmL.getD r 0)) ∧ ¬ nI (256 + qmL.getD r 0) = 1 := by decide +kernel
theorem lt_32 {x : Int32} (h : isLt x = true) : ¬ x = 32 := by
  rintro rfl
  exact absurd h (by decide)
/-- the fields of the reference that stay -/
def eX (a k : Nat) : Prop := a ≤ k ∧ k < 30
def fe (a t : Nat) (g g1 : xG) : Prop := (∀ j, j ≠ 86 → j ≠ 92 → j ≠ 102 → g1 j = g j) ∧ (∀ k, ¬ eX a k → g1 86 k = g 86 k) ∧ ∀ k, k < 200 * t → g1 92 k = g 92 k
theorem fe.rf {a t : Nat} {g : xG} : fe a t g g := ⟨fun _ _ _ _ => rfl, fun _ _ => rfl, fun _ _ => rfl⟩
theorem fe.tr {a t : Nat} {g g1 g2 : xG} (h : fe a t g g1) (h2 : fe a t g1 g2) : fe a t g g2 := ⟨fun j x y w => (h2.1 j x y w).trans (h.1 j x y w), fun k x => (h2.2.1 k x).trans (h.2.1 k x), fun k x => (h2.2.2 k x).trans (h.2.2 k x)⟩
theorem fe.mono {a a' t : Nat} {g g1 : xG} (h : fe a t g g1) (ha : a' ≤ a) : fe a' t g g1 := ⟨h.1, fun k x => h.2.1 k (fun y => x (by unfold eX at y ⊢; omega)), h.2.2⟩
theorem fe.g86 {a t : Nat} {g g1 : xG} (h : fe a t g g1) {k : Nat} (hk : a ≤ k ∧ k < 30) (x : Int32) : fe a t g (gs g1 86 k x) := ⟨fun j a b c => by rw [gs_n _ _ _ a]; exact h.1 j a b c, fun j hj => by rw [gs_s, upd_n _ _ (fun e => hj (by rw [e]; exact hk))]; exact h.2.1 j hj, fun j hj => by rw [gs_n _ _ _ (by decide)]; exact h.2.2 j hj⟩
theorem fe.g102 {a t : Nat} {g g1 : xG} (h : fe a t g g1) (k : Nat) (x : Int32) : fe a t g (gs g1 102 k x) := ⟨fun j a b c => by rw [gs_n _ _ _ c]; exact h.1 j a b c, fun j hj => by rw [gs_n _ _ _ (by decide)]; exact h.2.1 j hj, fun j hj => by rw [gs_n _ _ _ (by decide)]; exact h.2.2 j hj⟩
theorem fe.g92 {a t : Nat} {g g1 : xG} (h : fe a t g g1) {k : Nat} (hk : 200 * t ≤ k) (x : Int32) : fe a t g (gs g1 92 k x) := ⟨fun j a b c => by rw [gs_n _ _ _ b]; exact h.1 j a b c, fun j hj => by rw [gs_n _ _ _ (by decide)]; exact h.2.1 j hj, fun j hj => by rw [gs_s, upd_n _ _ (by omega)]; exact h.2.2 j hj⟩
set_option maxHeartbeats 4000000 in
set_option maxRecDepth 100000 in
theorem c_X12_rank (l : Launch) (d : Nat) (a : Int32) (h : xH)  : xC l yX12_rank cX12_rank 1 (some .int) (xR (d + 0) 0 0) [.int a] h (qP (rkR a) h) := by
  refine xC_of false (by decide +kernel) (fun z => by cases z) (Nat.le_of_ble_eq_true rfl) ?_
  show xJ l (RX12, 1, (some .int), false, (xR (d + 0) 0 0), none) cX12_rank _ 0 0 0 [(0, .int a)] [] h
  refine xj_iload_n (n := 0) (i := 0) 0 rfl rfl dX12_rank_0 ?_
  refine xj_if_ne (tgt := 8) (by decide) dX12_rank_1 (fun zc1 => ?_) (fun zc1 => ?_)
  · refine xj_iload_n (n := 0) (i := 0) 0 rfl rfl dX12_rank_8 ?_
    refine xj_bipush (v := 11) (by decide) dX12_rank_9 ?_
    refine xj_icmp_ne (tgt := 18) (by decide) dX12_rank_11 (fun zc11 => ?_) (fun zc11 => ?_)
    · refine xj_iload_n (n := 0) (i := 0) 0 rfl rfl dX12_rank_18 ?_
      refine xj_bipush (v := 12) (by decide) dX12_rank_19 ?_
      refine xj_icmp_ne (tgt := 28) (by decide) dX12_rank_21 (fun zc21 => ?_) (fun zc21 => ?_)
      · refine xj_iload_n (n := 0) (i := 0) 0 rfl rfl dX12_rank_28 ?_
        refine xj_bipush (v := 13) (by decide) dX12_rank_29 ?_
        refine xj_icmp_ne (tgt := 38) (by decide) dX12_rank_31 (fun zc31 => ?_) (fun zc31 => ?_)
        · refine xj_iload_n (n := 0) (i := 0) 0 rfl rfl dX12_rank_38 ?_
          refine xj_bipush (v := 15) (by decide) dX12_rank_39 ?_
          refine xj_icmp_gt (tgt := 48) (by decide) dX12_rank_41 (fun zc41 => ?_) (fun zc41 => ?_)
          · refine xj_iload_n (n := 0) (i := 0) 0 rfl rfl dX12_rank_48 ?_
            refine xj_bipush (v := 17) (by decide) dX12_rank_49 ?_
            refine xj_icmp_gt (tgt := 58) (by decide) dX12_rank_51 (fun zc51 => ?_) (fun zc51 => ?_)
            · refine xj_iload_n (n := 0) (i := 0) 0 rfl rfl dX12_rank_58 ?_
              refine xj_bipush (v := 18) (by decide) dX12_rank_59 ?_
              refine xj_icmp_ne (tgt := 69) (by decide) dX12_rank_61 (fun zc61 => ?_) (fun zc61 => ?_)
              · refine xj_bipush (v := 7) (by decide) dX12_rank_69 ?_
                exact xj_ireturn rfl (nr_i _) (Nat.zero_le _) (Nat.zero_le _) dX12_rank_71 (qP_e (by unfold rkR; rw [if_neg zc1, if_neg zc11, if_neg zc21, if_neg zc31, if_pos zc41, if_pos zc51, if_neg zc61]))
              · refine xj_bipush (v := 6) (by decide) dX12_rank_64 ?_
                refine xj_goto (tgt := 71) (by decide) dX12_rank_66 ?_
                exact xj_ireturn rfl (nr_i _) (Nat.zero_le _) (Nat.zero_le _) dX12_rank_71 (qP_e (by unfold rkR; rw [if_neg zc1, if_neg zc11, if_neg zc21, if_neg zc31, if_pos zc41, if_pos zc51, if_pos zc61]))
            · refine xj_iconst (v := 5) (by decide) dX12_rank_54 ?_
              refine xj_goto (tgt := 71) (by decide) dX12_rank_55 ?_
              exact xj_ireturn rfl (nr_i _) (Nat.zero_le _) (Nat.zero_le _) dX12_rank_71 (qP_e (by unfold rkR; rw [if_neg zc1, if_neg zc11, if_neg zc21, if_neg zc31, if_pos zc41, if_neg zc51]))
          · refine xj_iconst (v := 4) (by decide) dX12_rank_44 ?_
            refine xj_goto (tgt := 71) (by decide) dX12_rank_45 ?_
            exact xj_ireturn rfl (nr_i _) (Nat.zero_le _) (Nat.zero_le _) dX12_rank_71 (qP_e (by unfold rkR; rw [if_neg zc1, if_neg zc11, if_neg zc21, if_neg zc31, if_neg zc41]))
        · refine xj_iconst (v := 3) (by decide) dX12_rank_34 ?_
          refine xj_goto (tgt := 71) (by decide) dX12_rank_35 ?_
          exact xj_ireturn rfl (nr_i _) (Nat.zero_le _) (Nat.zero_le _) dX12_rank_71 (qP_e (by unfold rkR; rw [if_neg zc1, if_neg zc11, if_neg zc21, if_pos zc31]))
      · refine xj_iconst (v := 2) (by decide) dX12_rank_24 ?_
        refine xj_goto (tgt := 71) (by decide) dX12_rank_25 ?_
        exact xj_ireturn rfl (nr_i _) (Nat.zero_le _) (Nat.zero_le _) dX12_rank_71 (qP_e (by unfold rkR; rw [if_neg zc1, if_neg zc11, if_pos zc21]))
    · refine xj_iconst (v := 1) (by decide) dX12_rank_14 ?_
      refine xj_goto (tgt := 71) (by decide) dX12_rank_15 ?_
      exact xj_ireturn rfl (nr_i _) (Nat.zero_le _) (Nat.zero_le _) dX12_rank_71 (qP_e (by unfold rkR; rw [if_neg zc1, if_pos zc11]))
  · refine xj_iconst (v := 0) (by decide) dX12_rank_4 ?_
    refine xj_goto (tgt := 71) (by decide) dX12_rank_5 ?_
    exact xj_ireturn rfl (nr_i _) (Nat.zero_le _) (Nat.zero_le _) dX12_rank_71 (qP_e (by unfold rkR; rw [if_pos zc1]))
set_option maxHeartbeats 4000000 in
set_option maxRecDepth 100000 in
theorem c_X12_signOf (l : Launch) (d : Nat) (n : Nat) (hn : 110 ≤ n) (g : xG) (t : Int32) (h23 : g 86 23 = t)  : xC l yX12_signOf cX12_signOf 1 (some .int) (xR (d + 0) 0 0) [.ref 86] (n, fh g) (qP (sgR t) (n, fh g)) := by
  refine xC_of false (by decide +kernel) (fun z => by cases z) (Nat.le_of_ble_eq_true rfl) ?_
  show xJ l (RX12, 1, (some .int), false, (xR (d + 0) 0 0), none) cX12_signOf _ 0 0 0 [(0, .ref 86)] [] (n, fh g)
  refine xj_aload_n (n := 0) (i := 0) 0 rfl rfl dX12_signOf_0 ?_
  refine yj_getf (v := .int (t)) fl_X12_116_12 (by omega) (fq_86 g) (congrArg (fun z => some (Value.int z)) h23) dX12_signOf_1 ?_
  refine xj_iconst (v := 4) (by decide) dX12_signOf_4 ?_
  refine xj_icmp_ne (tgt := 13) (by decide) dX12_signOf_5 (fun zc5 => ?_) (fun zc5 => ?_)
  · refine xj_aload_n (n := 0) (i := 0) 0 rfl rfl dX12_signOf_13 ?_
    refine yj_getf (v := .int (t)) fl_X12_116_12 (by omega) (fq_86 g) (congrArg (fun z => some (Value.int z)) h23) dX12_signOf_14 ?_
    refine xj_iconst (v := 5) (by decide) dX12_signOf_17 ?_
    refine xj_icmp_ne (tgt := 26) (by decide) dX12_signOf_18 (fun zc18 => ?_) (fun zc18 => ?_)
    · refine xj_aload_n (n := 0) (i := 0) 0 rfl rfl dX12_signOf_26 ?_
      refine yj_getf (v := .int (t)) fl_X12_116_12 (by omega) (fq_86 g) (congrArg (fun z => some (Value.int z)) h23) dX12_signOf_27 ?_
      refine xj_bipush (v := 60) (by decide) dX12_signOf_30 ?_
      refine xj_icmp_ne (tgt := 40) (by decide) dX12_signOf_32 (fun zc32 => ?_) (fun zc32 => ?_)
      · refine xj_aload_n (n := 0) (i := 0) 0 rfl rfl dX12_signOf_40 ?_
        refine yj_getf (v := .int (t)) fl_X12_116_12 (by omega) (fq_86 g) (congrArg (fun z => some (Value.int z)) h23) dX12_signOf_41 ?_
        refine xj_bipush (v := 61) (by decide) dX12_signOf_44 ?_
        refine xj_icmp_ne (tgt := 54) (by decide) dX12_signOf_46 (fun zc46 => ?_) (fun zc46 => ?_)
        · refine xj_aload_n (n := 0) (i := 0) 0 rfl rfl dX12_signOf_54 ?_
          refine yj_getf (v := .int (t)) fl_X12_116_12 (by omega) (fq_86 g) (congrArg (fun z => some (Value.int z)) h23) dX12_signOf_55 ?_
          refine xj_bipush (v := 43) (by decide) dX12_signOf_58 ?_
          refine xj_icmp_ne (tgt := 68) (by decide) dX12_signOf_60 (fun zc60 => ?_) (fun zc60 => ?_)
          · refine xj_aload_n (n := 0) (i := 0) 0 rfl rfl dX12_signOf_68 ?_
            refine yj_getf (v := .int (t)) fl_X12_116_12 (by omega) (fq_86 g) (congrArg (fun z => some (Value.int z)) h23) dX12_signOf_69 ?_
            refine xj_bipush (v := 45) (by decide) dX12_signOf_72 ?_
            refine xj_icmp_ne (tgt := 82) (by decide) dX12_signOf_74 (fun zc74 => ?_) (fun zc74 => ?_)
            · refine xj_aload_n (n := 0) (i := 0) 0 rfl rfl dX12_signOf_82 ?_
              refine yj_getf (v := .int (t)) fl_X12_116_12 (by omega) (fq_86 g) (congrArg (fun z => some (Value.int z)) h23) dX12_signOf_83 ?_
              refine xj_bipush (v := 42) (by decide) dX12_signOf_86 ?_
              refine xj_icmp_ne (tgt := 96) (by decide) dX12_signOf_88 (fun zc88 => ?_) (fun zc88 => ?_)
              · refine xj_iconst (v := (-1)) (by decide) dX12_signOf_96 ?_
                exact xj_ireturn rfl (nr_i _) (Nat.zero_le _) (Nat.zero_le _) dX12_signOf_97 (qP_e (by unfold sgR; rw [if_neg zc5, if_neg zc18, if_neg zc32, if_neg zc46, if_neg zc60, if_neg zc74, if_neg zc88]))
              · refine xj_bipush (v := 18) (by decide) dX12_signOf_91 ?_
                refine xj_goto (tgt := 97) (by decide) dX12_signOf_93 ?_
                exact xj_ireturn rfl (nr_i _) (Nat.zero_le _) (Nat.zero_le _) dX12_signOf_97 (qP_e (by unfold sgR; rw [if_neg zc5, if_neg zc18, if_neg zc32, if_neg zc46, if_neg zc60, if_neg zc74, if_pos zc88]))
            · refine xj_bipush (v := 17) (by decide) dX12_signOf_77 ?_
              refine xj_goto (tgt := 97) (by decide) dX12_signOf_79 ?_
              exact xj_ireturn rfl (nr_i _) (Nat.zero_le _) (Nat.zero_le _) dX12_signOf_97 (qP_e (by unfold sgR; rw [if_neg zc5, if_neg zc18, if_neg zc32, if_neg zc46, if_neg zc60, if_pos zc74]))
          · refine xj_bipush (v := 16) (by decide) dX12_signOf_63 ?_
            refine xj_goto (tgt := 97) (by decide) dX12_signOf_65 ?_
            exact xj_ireturn rfl (nr_i _) (Nat.zero_le _) (Nat.zero_le _) dX12_signOf_97 (qP_e (by unfold sgR; rw [if_neg zc5, if_neg zc18, if_neg zc32, if_neg zc46, if_pos zc60]))
        · refine xj_bipush (v := 15) (by decide) dX12_signOf_49 ?_
          refine xj_goto (tgt := 97) (by decide) dX12_signOf_51 ?_
          exact xj_ireturn rfl (nr_i _) (Nat.zero_le _) (Nat.zero_le _) dX12_signOf_97 (qP_e (by unfold sgR; rw [if_neg zc5, if_neg zc18, if_neg zc32, if_pos zc46]))
      · refine xj_bipush (v := 14) (by decide) dX12_signOf_35 ?_
        refine xj_goto (tgt := 97) (by decide) dX12_signOf_37 ?_
        exact xj_ireturn rfl (nr_i _) (Nat.zero_le _) (Nat.zero_le _) dX12_signOf_97 (qP_e (by unfold sgR; rw [if_neg zc5, if_neg zc18, if_pos zc32]))
    · refine xj_bipush (v := 12) (by decide) dX12_signOf_21 ?_
      refine xj_goto (tgt := 97) (by decide) dX12_signOf_23 ?_
      exact xj_ireturn rfl (nr_i _) (Nat.zero_le _) (Nat.zero_le _) dX12_signOf_97 (qP_e (by unfold sgR; rw [if_neg zc5, if_pos zc18]))
  · refine xj_bipush (v := 11) (by decide) dX12_signOf_8 ?_
    refine xj_goto (tgt := 97) (by decide) dX12_signOf_10 ?_
    exact xj_ireturn rfl (nr_i _) (Nat.zero_le _) (Nat.zero_le _) dX12_signOf_97 (qP_e (by unfold sgR; rw [if_pos zc5]))
set_option maxHeartbeats 4000000 in
set_option maxRecDepth 100000 in
theorem c_X12_wordFrom (l : Launch) (d : Nat) (n : Nat) (hn : 110 ≤ n) (g : xG) (b : Nat → Int32) (z : Nat) (hz : z ≤ 160) (hb : g 91 = b) (h0 : g 86 8 = nI z) (W : mAW g) (s e : Nat) (hs : s ≤ e) (he : e ≤ z)  : xC l yX12_wordFrom cX12_wordFrom 6 (some .int) (xR (d + 1) 0 0) [.ref 86, .int (nI s), .int (nI e)] (n, fh g) (qI n (fun v g1 => g1 = g ∧ ∃ r, v = nI r ∧ ((r = 12 ∧ ∀ j, j < 12 → ¬ mtR b s e j = true) ∨ (r < 12 ∧ mtR b s e r = true)))) := by
  refine xC_of false (by decide +kernel) (fun z => by cases z) (Nat.le_of_ble_eq_true rfl) ?_
  show xJ l (RX12, 6, (some .int), false, (xR (d + 1) 0 0), none) cX12_wordFrom _ 0 0 0 [(0, .ref 86), (1, .int (nI s)), (2, .int (nI e))] [] (n, fh g)
  refine xj_iconst (v := 0) (by decide) dX12_wordFrom_0 ?_
  refine xj_istore_n (n := 3) (i := 3) (lv1 := [(3, .int 0), (0, .ref 86), (1, .int (nI s)), (2, .int (nI e))]) rfl rfl (Nat.le_of_ble_eq_true rfl) dX12_wordFrom_1 ?_
  have key : ∀ r, r ≤ 12 → ∀ (_ : True), (∀ j, j < r → ¬ mtR b s e j = true) → xJ l (RX12, 6, (some .int), false, (xR (d + 1) 0 0), none) cX12_wordFrom (qI n (fun v g1 => g1 = g ∧ ∃ r, v = nI r ∧ ((r = 12 ∧ ∀ j, j < 12 → ¬ mtR b s e j = true) ∨ (r < 12 ∧ mtR b s e r = true)))) 0 0 2 [(3, .int (nI r)), (0, .ref 86), (1, .int (nI s)), (2, .int (nI e))] [] (n, fh g) := by
    refine x_loop 12 _ ?_ ?_
    · intro _ hno
      refine xj_iload_n (n := 3) (i := 3) 0 rfl rfl dX12_wordFrom_2 ?_
      refine xj_bipush (v := 12) (by decide) dX12_wordFrom_3 ?_
      refine xj_icmp_ge (tgt := 101) (by decide) dX12_wordFrom_5 (fun zc5 => ?_) (fun zc5 => ?_)
      · refine xj_bipush (v := 12) (by decide) dX12_wordFrom_101 ?_
        exact xj_ireturn rfl (nr_i _) (Nat.zero_le _) (Nat.zero_le _) dX12_wordFrom_103 (qI_e ⟨rfl, 12, rfl, Or.inl ⟨rfl, hno⟩⟩)
      · exact absurd (nI_le (Nat.le_refl _) (by decide)) zc5
    · intro r hi ih _ hno
      refine xj_iload_n (n := 3) (i := 3) 0 rfl rfl dX12_wordFrom_2 ?_
      refine xj_bipush (v := 12) (by decide) dX12_wordFrom_3 ?_
      refine xj_icmp_ge (tgt := 101) (by decide) dX12_wordFrom_5 (fun zc5 => ?_) (fun zc5 => ?_)
      · exact absurd zc5 (nI_ge hi (by decide))
      · refine xj_iload_n (n := 2) (i := 2) 3 rfl rfl dX12_wordFrom_8 ?_
        refine xj_iload_n (n := 1) (i := 1) 2 rfl rfl dX12_wordFrom_9 ?_
        refine xj_isub dX12_wordFrom_10 ?_
        refine xj_top (show ((nI e) - (nI s)) = nI (e - s) from (pk_sub hs)) ?_
        refine xj_bipush (v := 8) (by decide) dX12_wordFrom_11 ?_
        refine xj_icmp_gt (tgt := 20) (by decide) dX12_wordFrom_13 (fun zc13 => ?_) (fun zc13 => ?_)
        · have h8 : ¬ e - s ≤ 8 := fun y => nI_nlt (a := 8) (b := e - s) y (by decide) zc13
          refine xj_iconst (v := 0) (by decide) dX12_wordFrom_20 ?_
          refine xj_top (show 0 = bI (wmF b s e r 0 = true) from (bI_f (fun y => h8 (of_decide_eq_true y))).symm) ?_
          refine xj_istore (i := 4) (lv1 := [(4, .int (bI (wmF b s e r 0 = true))), (3, .int (nI r)), (0, .ref 86), (1, .int (nI s)), (2, .int (nI e))]) rfl (Nat.le_of_ble_eq_true rfl) dX12_wordFrom_21 ?_
          refine xj_iconst (v := 0) (by decide) dX12_wordFrom_23 ?_
          refine xj_istore (i := 5) (lv1 := [(5, .int 0), (4, .int (bI (wmF b s e r 0 = true))), (3, .int (nI r)), (0, .ref 86), (1, .int (nI s)), (2, .int (nI e))]) rfl (Nat.le_of_ble_eq_true rfl) dX12_wordFrom_24 ?_
          have key2 : ∀ k, k ≤ 8 → ∀ (_ : True), xJ l (RX12, 6, (some .int), false, (xR (d + 1) 0 0), none) cX12_wordFrom (qI n (fun v g1 => g1 = g ∧ ∃ r, v = nI r ∧ ((r = 12 ∧ ∀ j, j < 12 → ¬ mtR b s e j = true) ∨ (r < 12 ∧ mtR b s e r = true)))) 0 0 26 [(5, .int (nI k)), (4, .int (bI (wmF b s e r k = true))), (3, .int (nI r)), (0, .ref 86), (1, .int (nI s)), (2, .int (nI e))] [] (n, fh g) := by
            refine x_loop 8 _ ?_ ?_
            · intro _
              refine xj_iload (i := 5) 0 rfl dX12_wordFrom_26 ?_
              refine xj_bipush (v := 8) (by decide) dX12_wordFrom_28 ?_
              refine xj_icmp_ge (tgt := 88) (by decide) dX12_wordFrom_30 (fun zc30 => ?_) (fun zc30 => ?_)
              · refine xj_iload (i := 4) 1 rfl dX12_wordFrom_88 ?_
                refine xj_if_eq (tgt := 95) (by decide) dX12_wordFrom_90 (fun zc90 => ?_) (fun zc90 => ?_)
                · refine xj_iinc (n := 1) (i := 3) (v := nI (r + 1)) (lv1 := [(3, .int (nI (r + 1))), (5, .int (nI 8)), (4, .int (bI (wmF b s e r 8 = true))), (0, .ref 86), (1, .int (nI s)), (2, .int (nI e))]) 2 rfl (nI_1 r) rfl (Nat.le_of_ble_eq_true rfl) dX12_wordFrom_95 ?_
                  refine xj_goto (tgt := 2) (by decide) dX12_wordFrom_98 ?_
                  refine xj_sub (lv' := [(3, .int (nI (r + 1))), (0, .ref 86), (1, .int (nI s)), (2, .int (nI e))]) [0, 3, 4, 5] rfl ?_
                  exact ih True.intro (fun j hj => by by_cases e9 : j = r; (subst e9; exact (fun y => bI_0.mp zc90 y)); (exact hno j (by omega)))
                · refine xj_iload_n (n := 3) (i := 3) 2 rfl rfl dX12_wordFrom_93 ?_
                  exact xj_ireturn rfl (nr_i _) (Nat.zero_le _) (Nat.zero_le _) dX12_wordFrom_94 (qI_e ⟨rfl, r, rfl, Or.inr ⟨hi, bI_n0.mp zc90⟩⟩)
              · exact absurd (nI_le (Nat.le_refl _) (by decide)) zc30
            · intro k hk ih2 _
              refine xj_iload (i := 5) 0 rfl dX12_wordFrom_26 ?_
              refine xj_bipush (v := 8) (by decide) dX12_wordFrom_28 ?_
              refine xj_icmp_ge (tgt := 88) (by decide) dX12_wordFrom_30 (fun zc30 => ?_) (fun zc30 => ?_)
              · exact absurd zc30 (nI_ge hk (by decide))
              · refine xj_iload (i := 4) 1 rfl dX12_wordFrom_33 ?_
                refine xj_if_eq (tgt := 88) (by decide) dX12_wordFrom_35 (fun zc35 => ?_) (fun zc35 => ?_)
                · have hnm := bI_0.mp zc35
                  refine xj_iload (i := 4) 1 rfl dX12_wordFrom_88 ?_
                  refine xj_if_eq (tgt := 95) (by decide) dX12_wordFrom_90 (fun zc90 => ?_) (fun zc90 => ?_)
                  · refine xj_iinc (n := 1) (i := 3) (v := nI (r + 1)) (lv1 := [(3, .int (nI (r + 1))), (5, .int (nI k)), (4, .int (bI (wmF b s e r k = true))), (0, .ref 86), (1, .int (nI s)), (2, .int (nI e))]) 2 rfl (nI_1 r) rfl (Nat.le_of_ble_eq_true rfl) dX12_wordFrom_95 ?_
                    refine xj_goto (tgt := 2) (by decide) dX12_wordFrom_98 ?_
                    refine xj_sub (lv' := [(3, .int (nI (r + 1))), (0, .ref 86), (1, .int (nI s)), (2, .int (nI e))]) [0, 3, 4, 5] rfl ?_
                    exact ih True.intro (fun j hj => by by_cases e9 : j = r; (subst e9; exact (fun y => hnm (by have h := (wmF_i b s e _ 8).mp y; exact (wmF_i b s e _ k).mpr ⟨h.1, fun i hi9 => h.2 i (by omega)⟩))); (exact hno j (by omega)))
                  · exact absurd zc35 zc90
                · have hm := bI_n0.mp zc35
                  refine xj_aload_n (n := 0) (i := 0) 3 rfl rfl dX12_wordFrom_38 ?_
                  refine yj_getf (v := .ref 101) fl_X12_56_12 (by omega) (fq_86 g) rfl dX12_wordFrom_39 ?_
                  refine xj_bipush (v := 8) (by decide) dX12_wordFrom_42 ?_
                  refine xj_iload_n (n := 3) (i := 3) 2 rfl rfl dX12_wordFrom_44 ?_
                  refine xj_imul dX12_wordFrom_45 ?_
                  refine xj_top (pk_mul 8 r) ?_
                  refine xj_iload (i := 5) 0 rfl dX12_wordFrom_46 ?_
                  refine xj_iadd dX12_wordFrom_48 ?_
                  refine xj_top (nI_add _ _) ?_
                  refine yj_ialdN ((8 * r) + k) (by omega) fA_101 rfl (by omega) (by decide) dX12_wordFrom_49 ?_
                  refine xj_top (W ((8 * r) + k) (by omega)) ?_
                  refine xj_iload_n (n := 1) (i := 1) 4 rfl rfl dX12_wordFrom_50 ?_
                  refine xj_iload (i := 5) 0 rfl dX12_wordFrom_51 ?_
                  refine xj_iadd dX12_wordFrom_53 ?_
                  refine xj_top (nI_add _ _) ?_
                  refine xj_iload_n (n := 2) (i := 2) 5 rfl rfl dX12_wordFrom_54 ?_
                  refine xj_icmp_ge (tgt := 70) (by decide) dX12_wordFrom_55 (fun zc55 => ?_) (fun zc55 => ?_)
                  · have hlt : ¬ s + k < e := fun y => nI_ge (a := s + k) (b := e) y (by omega) zc55
                    refine xj_bipush (v := 32) (by decide) dX12_wordFrom_70 ?_
                    refine xj_icmp_ne (tgt := 79) (by decide) dX12_wordFrom_72 (fun zc72 => ?_) (fun zc72 => ?_)
                    · refine xj_iconst (v := 0) (by decide) dX12_wordFrom_79 ?_
                      refine xj_top (show 0 = bI (wmF b s e r (k + 1) = true) from (bI_f (fun y => zc72 (by have h := ((wmF_i b s e r (k + 1)).mp y).2 k (Nat.lt_succ_self k); rw [wc_n hlt] at h; exact h))).symm) ?_
                      refine xj_istore (i := 4) (lv1 := [(4, .int (bI (wmF b s e r (k + 1) = true))), (5, .int (nI k)), (3, .int (nI r)), (0, .ref 86), (1, .int (nI s)), (2, .int (nI e))]) rfl (Nat.le_of_ble_eq_true rfl) dX12_wordFrom_80 ?_
                      refine xj_iinc (n := 1) (i := 5) (v := nI (k + 1)) (lv1 := [(5, .int (nI (k + 1))), (4, .int (bI (wmF b s e r (k + 1) = true))), (3, .int (nI r)), (0, .ref 86), (1, .int (nI s)), (2, .int (nI e))]) 1 rfl (nI_1 k) rfl (Nat.le_of_ble_eq_true rfl) dX12_wordFrom_82 ?_
                      refine xj_goto (tgt := 26) (by decide) dX12_wordFrom_85 ?_
                      refine xj_sub (lv' := [(5, .int (nI (k + 1))), (4, .int (bI (wmF b s e r (k + 1) = true))), (3, .int (nI r)), (0, .ref 86), (1, .int (nI s)), (2, .int (nI e))]) [0, 1, 2, 3, 4, 5] rfl ?_
                      exact ih2 True.intro
                    · refine xj_iconst (v := 1) (by decide) dX12_wordFrom_75 ?_
                      refine xj_goto (tgt := 80) (by decide) dX12_wordFrom_76 ?_
                      refine xj_top (show 1 = bI (wmF b s e r (k + 1) = true) from (bI_t (show (if wmF b s e r k = true then decide (wdL.getD (8 * r + k) 0 = wcR b e (s + k)) else false) = true from by rw [if_pos hm, wc_n hlt]; exact decide_eq_true zc72)).symm) ?_
                      refine xj_istore (i := 4) (lv1 := [(4, .int (bI (wmF b s e r (k + 1) = true))), (5, .int (nI k)), (3, .int (nI r)), (0, .ref 86), (1, .int (nI s)), (2, .int (nI e))]) rfl (Nat.le_of_ble_eq_true rfl) dX12_wordFrom_80 ?_
                      refine xj_iinc (n := 1) (i := 5) (v := nI (k + 1)) (lv1 := [(5, .int (nI (k + 1))), (4, .int (bI (wmF b s e r (k + 1) = true))), (3, .int (nI r)), (0, .ref 86), (1, .int (nI s)), (2, .int (nI e))]) 1 rfl (nI_1 k) rfl (Nat.le_of_ble_eq_true rfl) dX12_wordFrom_82 ?_
                      refine xj_goto (tgt := 26) (by decide) dX12_wordFrom_85 ?_
                      refine xj_sub (lv' := [(5, .int (nI (k + 1))), (4, .int (bI (wmF b s e r (k + 1) = true))), (3, .int (nI r)), (0, .ref 86), (1, .int (nI s)), (2, .int (nI e))]) [0, 1, 2, 3, 4, 5] rfl ?_
                      exact ih2 True.intro
                  · have hlt : s + k < e := (Nat.lt_of_not_le (fun y => zc55 (nI_le (a := e) (b := s + k) y (by omega))))
                    refine xj_aload_n (n := 0) (i := 0) 3 rfl rfl dX12_wordFrom_58 ?_
                    refine yj_getf (v := .ref 91) fl_X12_26_12 (by omega) (fq_86 g) rfl dX12_wordFrom_59 ?_
                    refine xj_iload_n (n := 1) (i := 1) 4 rfl rfl dX12_wordFrom_62 ?_
                    refine xj_iload (i := 5) 0 rfl dX12_wordFrom_63 ?_
                    refine xj_iadd dX12_wordFrom_65 ?_
                    refine xj_top (nI_add _ _) ?_
                    refine yj_ialdN (s + k) (by omega) fA_91 rfl (by omega) (by decide) dX12_wordFrom_66 ?_
                    refine xj_top (congrFun hb (s + k)) ?_
                    refine xj_goto (tgt := 72) (by decide) dX12_wordFrom_67 ?_
                    refine xj_icmp_ne (tgt := 79) (by decide) dX12_wordFrom_72 (fun zc72 => ?_) (fun zc72 => ?_)
                    · refine xj_iconst (v := 0) (by decide) dX12_wordFrom_79 ?_
                      refine xj_top (show 0 = bI (wmF b s e r (k + 1) = true) from (bI_f (fun y => zc72 (by have h := ((wmF_i b s e r (k + 1)).mp y).2 k (Nat.lt_succ_self k); rw [wc_p hlt] at h; exact h))).symm) ?_
                      refine xj_istore (i := 4) (lv1 := [(4, .int (bI (wmF b s e r (k + 1) = true))), (5, .int (nI k)), (3, .int (nI r)), (0, .ref 86), (1, .int (nI s)), (2, .int (nI e))]) rfl (Nat.le_of_ble_eq_true rfl) dX12_wordFrom_80 ?_
                      refine xj_iinc (n := 1) (i := 5) (v := nI (k + 1)) (lv1 := [(5, .int (nI (k + 1))), (4, .int (bI (wmF b s e r (k + 1) = true))), (3, .int (nI r)), (0, .ref 86), (1, .int (nI s)), (2, .int (nI e))]) 1 rfl (nI_1 k) rfl (Nat.le_of_ble_eq_true rfl) dX12_wordFrom_82 ?_
                      refine xj_goto (tgt := 26) (by decide) dX12_wordFrom_85 ?_
                      refine xj_sub (lv' := [(5, .int (nI (k + 1))), (4, .int (bI (wmF b s e r (k + 1) = true))), (3, .int (nI r)), (0, .ref 86), (1, .int (nI s)), (2, .int (nI e))]) [0, 1, 2, 3, 4, 5] rfl ?_
                      exact ih2 True.intro
                    · refine xj_iconst (v := 1) (by decide) dX12_wordFrom_75 ?_
                      refine xj_goto (tgt := 80) (by decide) dX12_wordFrom_76 ?_
                      refine xj_top (show 1 = bI (wmF b s e r (k + 1) = true) from (bI_t (show (if wmF b s e r k = true then decide (wdL.getD (8 * r + k) 0 = wcR b e (s + k)) else false) = true from by rw [if_pos hm, wc_p hlt]; exact decide_eq_true zc72)).symm) ?_
                      refine xj_istore (i := 4) (lv1 := [(4, .int (bI (wmF b s e r (k + 1) = true))), (5, .int (nI k)), (3, .int (nI r)), (0, .ref 86), (1, .int (nI s)), (2, .int (nI e))]) rfl (Nat.le_of_ble_eq_true rfl) dX12_wordFrom_80 ?_
                      refine xj_iinc (n := 1) (i := 5) (v := nI (k + 1)) (lv1 := [(5, .int (nI (k + 1))), (4, .int (bI (wmF b s e r (k + 1) = true))), (3, .int (nI r)), (0, .ref 86), (1, .int (nI s)), (2, .int (nI e))]) 1 rfl (nI_1 k) rfl (Nat.le_of_ble_eq_true rfl) dX12_wordFrom_82 ?_
                      refine xj_goto (tgt := 26) (by decide) dX12_wordFrom_85 ?_
                      refine xj_sub (lv' := [(5, .int (nI (k + 1))), (4, .int (bI (wmF b s e r (k + 1) = true))), (3, .int (nI r)), (0, .ref 86), (1, .int (nI s)), (2, .int (nI e))]) [0, 1, 2, 3, 4, 5] rfl ?_
                      exact ih2 True.intro
          refine xj_sub (lv' := [(5, .int 0), (4, .int (bI (wmF b s e r 0 = true))), (3, .int (nI r)), (0, .ref 86), (1, .int (nI s)), (2, .int (nI e))]) [0, 1, 2, 3, 4, 5] rfl ?_
          exact key2 0 (Nat.zero_le _) True.intro
        · have h8 : e - s ≤ 8 := Nat.le_of_not_lt (fun y => zc13 (nI_lt (a := 8) (b := e - s) y (by omega)))
          refine xj_iconst (v := 1) (by decide) dX12_wordFrom_16 ?_
          refine xj_goto (tgt := 21) (by decide) dX12_wordFrom_17 ?_
          refine xj_top (show 1 = bI (wmF b s e r 0 = true) from (bI_t (decide_eq_true h8)).symm) ?_
          refine xj_istore (i := 4) (lv1 := [(4, .int (bI (wmF b s e r 0 = true))), (3, .int (nI r)), (0, .ref 86), (1, .int (nI s)), (2, .int (nI e))]) rfl (Nat.le_of_ble_eq_true rfl) dX12_wordFrom_21 ?_
          refine xj_iconst (v := 0) (by decide) dX12_wordFrom_23 ?_
          refine xj_istore (i := 5) (lv1 := [(5, .int 0), (4, .int (bI (wmF b s e r 0 = true))), (3, .int (nI r)), (0, .ref 86), (1, .int (nI s)), (2, .int (nI e))]) rfl (Nat.le_of_ble_eq_true rfl) dX12_wordFrom_24 ?_
          have key2 : ∀ k, k ≤ 8 → ∀ (_ : True), xJ l (RX12, 6, (some .int), false, (xR (d + 1) 0 0), none) cX12_wordFrom (qI n (fun v g1 => g1 = g ∧ ∃ r, v = nI r ∧ ((r = 12 ∧ ∀ j, j < 12 → ¬ mtR b s e j = true) ∨ (r < 12 ∧ mtR b s e r = true)))) 0 0 26 [(5, .int (nI k)), (4, .int (bI (wmF b s e r k = true))), (3, .int (nI r)), (0, .ref 86), (1, .int (nI s)), (2, .int (nI e))] [] (n, fh g) := by
            refine x_loop 8 _ ?_ ?_
            · intro _
              refine xj_iload (i := 5) 0 rfl dX12_wordFrom_26 ?_
              refine xj_bipush (v := 8) (by decide) dX12_wordFrom_28 ?_
              refine xj_icmp_ge (tgt := 88) (by decide) dX12_wordFrom_30 (fun zc30 => ?_) (fun zc30 => ?_)
              · refine xj_iload (i := 4) 1 rfl dX12_wordFrom_88 ?_
                refine xj_if_eq (tgt := 95) (by decide) dX12_wordFrom_90 (fun zc90 => ?_) (fun zc90 => ?_)
                · refine xj_iinc (n := 1) (i := 3) (v := nI (r + 1)) (lv1 := [(3, .int (nI (r + 1))), (5, .int (nI 8)), (4, .int (bI (wmF b s e r 8 = true))), (0, .ref 86), (1, .int (nI s)), (2, .int (nI e))]) 2 rfl (nI_1 r) rfl (Nat.le_of_ble_eq_true rfl) dX12_wordFrom_95 ?_
                  refine xj_goto (tgt := 2) (by decide) dX12_wordFrom_98 ?_
                  refine xj_sub (lv' := [(3, .int (nI (r + 1))), (0, .ref 86), (1, .int (nI s)), (2, .int (nI e))]) [0, 3, 4, 5] rfl ?_
                  exact ih True.intro (fun j hj => by by_cases e9 : j = r; (subst e9; exact (fun y => bI_0.mp zc90 y)); (exact hno j (by omega)))
                · refine xj_iload_n (n := 3) (i := 3) 2 rfl rfl dX12_wordFrom_93 ?_
                  exact xj_ireturn rfl (nr_i _) (Nat.zero_le _) (Nat.zero_le _) dX12_wordFrom_94 (qI_e ⟨rfl, r, rfl, Or.inr ⟨hi, bI_n0.mp zc90⟩⟩)
              · exact absurd (nI_le (Nat.le_refl _) (by decide)) zc30
            · intro k hk ih2 _
              refine xj_iload (i := 5) 0 rfl dX12_wordFrom_26 ?_
              refine xj_bipush (v := 8) (by decide) dX12_wordFrom_28 ?_
              refine xj_icmp_ge (tgt := 88) (by decide) dX12_wordFrom_30 (fun zc30 => ?_) (fun zc30 => ?_)
              · exact absurd zc30 (nI_ge hk (by decide))
              · refine xj_iload (i := 4) 1 rfl dX12_wordFrom_33 ?_
                refine xj_if_eq (tgt := 88) (by decide) dX12_wordFrom_35 (fun zc35 => ?_) (fun zc35 => ?_)
                · have hnm := bI_0.mp zc35
                  refine xj_iload (i := 4) 1 rfl dX12_wordFrom_88 ?_
                  refine xj_if_eq (tgt := 95) (by decide) dX12_wordFrom_90 (fun zc90 => ?_) (fun zc90 => ?_)
                  · refine xj_iinc (n := 1) (i := 3) (v := nI (r + 1)) (lv1 := [(3, .int (nI (r + 1))), (5, .int (nI k)), (4, .int (bI (wmF b s e r k = true))), (0, .ref 86), (1, .int (nI s)), (2, .int (nI e))]) 2 rfl (nI_1 r) rfl (Nat.le_of_ble_eq_true rfl) dX12_wordFrom_95 ?_
                    refine xj_goto (tgt := 2) (by decide) dX12_wordFrom_98 ?_
                    refine xj_sub (lv' := [(3, .int (nI (r + 1))), (0, .ref 86), (1, .int (nI s)), (2, .int (nI e))]) [0, 3, 4, 5] rfl ?_
                    exact ih True.intro (fun j hj => by by_cases e9 : j = r; (subst e9; exact (fun y => hnm (by have h := (wmF_i b s e _ 8).mp y; exact (wmF_i b s e _ k).mpr ⟨h.1, fun i hi9 => h.2 i (by omega)⟩))); (exact hno j (by omega)))
                  · exact absurd zc35 zc90
                · have hm := bI_n0.mp zc35
                  refine xj_aload_n (n := 0) (i := 0) 3 rfl rfl dX12_wordFrom_38 ?_
                  refine yj_getf (v := .ref 101) fl_X12_56_12 (by omega) (fq_86 g) rfl dX12_wordFrom_39 ?_
                  refine xj_bipush (v := 8) (by decide) dX12_wordFrom_42 ?_
                  refine xj_iload_n (n := 3) (i := 3) 2 rfl rfl dX12_wordFrom_44 ?_
                  refine xj_imul dX12_wordFrom_45 ?_
                  refine xj_top (pk_mul 8 r) ?_
                  refine xj_iload (i := 5) 0 rfl dX12_wordFrom_46 ?_
                  refine xj_iadd dX12_wordFrom_48 ?_
                  refine xj_top (nI_add _ _) ?_
                  refine yj_ialdN ((8 * r) + k) (by omega) fA_101 rfl (by omega) (by decide) dX12_wordFrom_49 ?_
                  refine xj_top (W ((8 * r) + k) (by omega)) ?_
                  refine xj_iload_n (n := 1) (i := 1) 4 rfl rfl dX12_wordFrom_50 ?_
                  refine xj_iload (i := 5) 0 rfl dX12_wordFrom_51 ?_
                  refine xj_iadd dX12_wordFrom_53 ?_
                  refine xj_top (nI_add _ _) ?_
                  refine xj_iload_n (n := 2) (i := 2) 5 rfl rfl dX12_wordFrom_54 ?_
                  refine xj_icmp_ge (tgt := 70) (by decide) dX12_wordFrom_55 (fun zc55 => ?_) (fun zc55 => ?_)
                  · have hlt : ¬ s + k < e := fun y => nI_ge (a := s + k) (b := e) y (by omega) zc55
                    refine xj_bipush (v := 32) (by decide) dX12_wordFrom_70 ?_
                    refine xj_icmp_ne (tgt := 79) (by decide) dX12_wordFrom_72 (fun zc72 => ?_) (fun zc72 => ?_)
                    · refine xj_iconst (v := 0) (by decide) dX12_wordFrom_79 ?_
                      refine xj_top (show 0 = bI (wmF b s e r (k + 1) = true) from (bI_f (fun y => zc72 (by have h := ((wmF_i b s e r (k + 1)).mp y).2 k (Nat.lt_succ_self k); rw [wc_n hlt] at h; exact h))).symm) ?_
                      refine xj_istore (i := 4) (lv1 := [(4, .int (bI (wmF b s e r (k + 1) = true))), (5, .int (nI k)), (3, .int (nI r)), (0, .ref 86), (1, .int (nI s)), (2, .int (nI e))]) rfl (Nat.le_of_ble_eq_true rfl) dX12_wordFrom_80 ?_
                      refine xj_iinc (n := 1) (i := 5) (v := nI (k + 1)) (lv1 := [(5, .int (nI (k + 1))), (4, .int (bI (wmF b s e r (k + 1) = true))), (3, .int (nI r)), (0, .ref 86), (1, .int (nI s)), (2, .int (nI e))]) 1 rfl (nI_1 k) rfl (Nat.le_of_ble_eq_true rfl) dX12_wordFrom_82 ?_
                      refine xj_goto (tgt := 26) (by decide) dX12_wordFrom_85 ?_
                      refine xj_sub (lv' := [(5, .int (nI (k + 1))), (4, .int (bI (wmF b s e r (k + 1) = true))), (3, .int (nI r)), (0, .ref 86), (1, .int (nI s)), (2, .int (nI e))]) [0, 1, 2, 3, 4, 5] rfl ?_
                      exact ih2 True.intro
                    · refine xj_iconst (v := 1) (by decide) dX12_wordFrom_75 ?_
                      refine xj_goto (tgt := 80) (by decide) dX12_wordFrom_76 ?_
                      refine xj_top (show 1 = bI (wmF b s e r (k + 1) = true) from (bI_t (show (if wmF b s e r k = true then decide (wdL.getD (8 * r + k) 0 = wcR b e (s + k)) else false) = true from by rw [if_pos hm, wc_n hlt]; exact decide_eq_true zc72)).symm) ?_
                      refine xj_istore (i := 4) (lv1 := [(4, .int (bI (wmF b s e r (k + 1) = true))), (5, .int (nI k)), (3, .int (nI r)), (0, .ref 86), (1, .int (nI s)), (2, .int (nI e))]) rfl (Nat.le_of_ble_eq_true rfl) dX12_wordFrom_80 ?_
                      refine xj_iinc (n := 1) (i := 5) (v := nI (k + 1)) (lv1 := [(5, .int (nI (k + 1))), (4, .int (bI (wmF b s e r (k + 1) = true))), (3, .int (nI r)), (0, .ref 86), (1, .int (nI s)), (2, .int (nI e))]) 1 rfl (nI_1 k) rfl (Nat.le_of_ble_eq_true rfl) dX12_wordFrom_82 ?_
                      refine xj_goto (tgt := 26) (by decide) dX12_wordFrom_85 ?_
                      refine xj_sub (lv' := [(5, .int (nI (k + 1))), (4, .int (bI (wmF b s e r (k + 1) = true))), (3, .int (nI r)), (0, .ref 86), (1, .int (nI s)), (2, .int (nI e))]) [0, 1, 2, 3, 4, 5] rfl ?_
                      exact ih2 True.intro
                  · have hlt : s + k < e := (Nat.lt_of_not_le (fun y => zc55 (nI_le (a := e) (b := s + k) y (by omega))))
                    refine xj_aload_n (n := 0) (i := 0) 3 rfl rfl dX12_wordFrom_58 ?_
                    refine yj_getf (v := .ref 91) fl_X12_26_12 (by omega) (fq_86 g) rfl dX12_wordFrom_59 ?_
                    refine xj_iload_n (n := 1) (i := 1) 4 rfl rfl dX12_wordFrom_62 ?_
                    refine xj_iload (i := 5) 0 rfl dX12_wordFrom_63 ?_
                    refine xj_iadd dX12_wordFrom_65 ?_
                    refine xj_top (nI_add _ _) ?_
                    refine yj_ialdN (s + k) (by omega) fA_91 rfl (by omega) (by decide) dX12_wordFrom_66 ?_
                    refine xj_top (congrFun hb (s + k)) ?_
                    refine xj_goto (tgt := 72) (by decide) dX12_wordFrom_67 ?_
                    refine xj_icmp_ne (tgt := 79) (by decide) dX12_wordFrom_72 (fun zc72 => ?_) (fun zc72 => ?_)
                    · refine xj_iconst (v := 0) (by decide) dX12_wordFrom_79 ?_
                      refine xj_top (show 0 = bI (wmF b s e r (k + 1) = true) from (bI_f (fun y => zc72 (by have h := ((wmF_i b s e r (k + 1)).mp y).2 k (Nat.lt_succ_self k); rw [wc_p hlt] at h; exact h))).symm) ?_
                      refine xj_istore (i := 4) (lv1 := [(4, .int (bI (wmF b s e r (k + 1) = true))), (5, .int (nI k)), (3, .int (nI r)), (0, .ref 86), (1, .int (nI s)), (2, .int (nI e))]) rfl (Nat.le_of_ble_eq_true rfl) dX12_wordFrom_80 ?_
                      refine xj_iinc (n := 1) (i := 5) (v := nI (k + 1)) (lv1 := [(5, .int (nI (k + 1))), (4, .int (bI (wmF b s e r (k + 1) = true))), (3, .int (nI r)), (0, .ref 86), (1, .int (nI s)), (2, .int (nI e))]) 1 rfl (nI_1 k) rfl (Nat.le_of_ble_eq_true rfl) dX12_wordFrom_82 ?_
                      refine xj_goto (tgt := 26) (by decide) dX12_wordFrom_85 ?_
                      refine xj_sub (lv' := [(5, .int (nI (k + 1))), (4, .int (bI (wmF b s e r (k + 1) = true))), (3, .int (nI r)), (0, .ref 86), (1, .int (nI s)), (2, .int (nI e))]) [0, 1, 2, 3, 4, 5] rfl ?_
                      exact ih2 True.intro
                    · refine xj_iconst (v := 1) (by decide) dX12_wordFrom_75 ?_
                      refine xj_goto (tgt := 80) (by decide) dX12_wordFrom_76 ?_
                      refine xj_top (show 1 = bI (wmF b s e r (k + 1) = true) from (bI_t (show (if wmF b s e r k = true then decide (wdL.getD (8 * r + k) 0 = wcR b e (s + k)) else false) = true from by rw [if_pos hm, wc_p hlt]; exact decide_eq_true zc72)).symm) ?_
                      refine xj_istore (i := 4) (lv1 := [(4, .int (bI (wmF b s e r (k + 1) = true))), (5, .int (nI k)), (3, .int (nI r)), (0, .ref 86), (1, .int (nI s)), (2, .int (nI e))]) rfl (Nat.le_of_ble_eq_true rfl) dX12_wordFrom_80 ?_
                      refine xj_iinc (n := 1) (i := 5) (v := nI (k + 1)) (lv1 := [(5, .int (nI (k + 1))), (4, .int (bI (wmF b s e r (k + 1) = true))), (3, .int (nI r)), (0, .ref 86), (1, .int (nI s)), (2, .int (nI e))]) 1 rfl (nI_1 k) rfl (Nat.le_of_ble_eq_true rfl) dX12_wordFrom_82 ?_
                      refine xj_goto (tgt := 26) (by decide) dX12_wordFrom_85 ?_
                      refine xj_sub (lv' := [(5, .int (nI (k + 1))), (4, .int (bI (wmF b s e r (k + 1) = true))), (3, .int (nI r)), (0, .ref 86), (1, .int (nI s)), (2, .int (nI e))]) [0, 1, 2, 3, 4, 5] rfl ?_
                      exact ih2 True.intro
          refine xj_sub (lv' := [(5, .int 0), (4, .int (bI (wmF b s e r 0 = true))), (3, .int (nI r)), (0, .ref 86), (1, .int (nI s)), (2, .int (nI e))]) [0, 1, 2, 3, 4, 5] rfl ?_
          exact key2 0 (Nat.zero_le _) True.intro
  refine xj_sub (lv' := [(3, .int 0), (0, .ref 86), (1, .int (nI s)), (2, .int (nI e))]) [0, 1, 2, 3] rfl ?_
  exact key 0 (Nat.zero_le _) True.intro (fun j hj => absurd hj (Nat.not_lt_zero _))
