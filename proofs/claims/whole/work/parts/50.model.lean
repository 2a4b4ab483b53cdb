set_option maxHeartbeats 4000000 in
set_option maxRecDepth 100000 in
theorem c_X12_in (l : Launch) (d : Nat) (a b e : Int32) (h : xH)  : xC l yX12_in cX12_in 3 (some .boolean) (xR (d + 0) 0 0) [.int a, .int b, .int e] h (qP (bI (b ≤ a ∧ a ≤ e)) h) := by
  refine xC_of false (by decide +kernel) (fun z => by cases z) (Nat.le_of_ble_eq_true rfl) ?_
  show xJ l (RX12, 3, (some .boolean), false, (xR (d + 0) 0 0), none) cX12_in _ 0 0 0 [(0, .int a), (1, .int b), (2, .int e)] [] h
  refine xj_iload_n (n := 0) (i := 0) 0 rfl rfl dX12_in_0 ?_
  refine xj_iload_n (n := 1) (i := 1) 1 rfl rfl dX12_in_1 ?_
  refine xj_icmp_lt (tgt := 14) (by decide) dX12_in_2 (fun zc2 => ?_) (fun zc2 => ?_)
  · refine xj_iconst (v := 0) (by decide) dX12_in_14 ?_
    exact xj_ireturn rfl nr_b0 (Nat.zero_le _) (Nat.zero_le _) dX12_in_15 (qP_e (by unfold bI; split <;> first | rfl | (exfalso; simp only [i32_lt, i32_le, i32_0] at *; omega)))
  · refine xj_iload_n (n := 0) (i := 0) 0 rfl rfl dX12_in_5 ?_
    refine xj_iload_n (n := 2) (i := 2) 2 rfl rfl dX12_in_6 ?_
    refine xj_icmp_gt (tgt := 14) (by decide) dX12_in_7 (fun zc7 => ?_) (fun zc7 => ?_)
    · refine xj_iconst (v := 0) (by decide) dX12_in_14 ?_
      exact xj_ireturn rfl nr_b0 (Nat.zero_le _) (Nat.zero_le _) dX12_in_15 (qP_e (by unfold bI; split <;> first | rfl | (exfalso; simp only [i32_lt, i32_le, i32_0] at *; omega)))
    · refine xj_iconst (v := 1) (by decide) dX12_in_10 ?_
      refine xj_goto (tgt := 15) (by decide) dX12_in_11 ?_
      exact xj_ireturn rfl nr_b1 (Nat.zero_le _) (Nat.zero_le _) dX12_in_15 (qP_e (by unfold bI; split <;> first | rfl | (exfalso; simp only [i32_lt, i32_le, i32_0] at *; omega)))
def wiF (v lo hi : Int32) : Int32 := if v < lo then lo else if hi < v then hi else v
set_option maxHeartbeats 4000000 in
set_option maxRecDepth 100000 in
theorem c_X12_within (l : Launch) (d : Nat) (a b e : Int32) (h : xH)  : xC l yX12_within cX12_within 3 (some .int) (xR (d + 0) 0 0) [.int a, .int b, .int e] h (qP (wiF a b e) h) := by
  refine xC_of false (by decide +kernel) (fun z => by cases z) (Nat.le_of_ble_eq_true rfl) ?_
  show xJ l (RX12, 3, (some .int), false, (xR (d + 0) 0 0), none) cX12_within _ 0 0 0 [(0, .int a), (1, .int b), (2, .int e)] [] h
  refine xj_iload_n (n := 0) (i := 0) 0 rfl rfl dX12_within_0 ?_
  refine xj_iload_n (n := 1) (i := 1) 1 rfl rfl dX12_within_1 ?_
  refine xj_icmp_ge (tgt := 9) (by decide) dX12_within_2 (fun zc2 => ?_) (fun zc2 => ?_)
  · refine xj_iload_n (n := 0) (i := 0) 0 rfl rfl dX12_within_9 ?_
    refine xj_iload_n (n := 2) (i := 2) 2 rfl rfl dX12_within_10 ?_
    refine xj_icmp_le (tgt := 18) (by decide) dX12_within_11 (fun zc11 => ?_) (fun zc11 => ?_)
    · refine xj_iload_n (n := 0) (i := 0) 0 rfl rfl dX12_within_18 ?_
      exact xj_ireturn rfl (nr_i _) (Nat.zero_le _) (Nat.zero_le _) dX12_within_19 (qP_e (by unfold wiF; split <;> first | rfl | (split <;> first | rfl | (exfalso; simp only [i32_lt, i32_le] at *; omega)) | (exfalso; simp only [i32_lt, i32_le] at *; omega)))
    · refine xj_iload_n (n := 2) (i := 2) 2 rfl rfl dX12_within_14 ?_
      refine xj_goto (tgt := 19) (by decide) dX12_within_15 ?_
      exact xj_ireturn rfl (nr_i _) (Nat.zero_le _) (Nat.zero_le _) dX12_within_19 (qP_e (by unfold wiF; split <;> first | rfl | (split <;> first | rfl | (exfalso; simp only [i32_lt, i32_le] at *; omega)) | (exfalso; simp only [i32_lt, i32_le] at *; omega)))
  · refine xj_iload_n (n := 1) (i := 1) 1 rfl rfl dX12_within_5 ?_
    refine xj_goto (tgt := 19) (by decide) dX12_within_6 ?_
    exact xj_ireturn rfl (nr_i _) (Nat.zero_le _) (Nat.zero_le _) dX12_within_19 (qP_e (by unfold wiF; split <;> first | rfl | (split <;> first | rfl | (exfalso; simp only [i32_lt, i32_le] at *; omega)) | (exfalso; simp only [i32_lt, i32_le] at *; omega)))
set_option maxHeartbeats 4000000 in
set_option maxRecDepth 100000 in
theorem c_X12_isCell (l : Launch) (d : Nat) (a : Int32) (h : xH)  : xC l yX12_isCell cX12_isCell 1 (some .boolean) (xR (d + 1) 0 0) [.int a] h (qP (bI (0 ≤ a ∧ a ≤ 15)) h) := by
  refine xC_of false (by decide +kernel) (fun z => by cases z) (Nat.le_of_ble_eq_true rfl) ?_
  show xJ l (RX12, 1, (some .boolean), false, (xR (d + 1) 0 0), none) cX12_isCell _ 0 0 0 [(0, .int a)] [] h
  refine xj_iload_n (n := 0) (i := 0) 0 rfl rfl dX12_isCell_0 ?_
  refine xj_iconst (v := 0) (by decide) dX12_isCell_1 ?_
  refine xj_bipush (v := 15) (by decide) dX12_isCell_2 ?_
  refine xj_callS ks_X12_93 (c_X12_in l (d + 0) a 0 15 _) (As := [.int a, .int 0, .int 15]) (st := []) rfl rfl (xRm_of (by omega) (by decide) (by omega) (by omega)) (Nat.le_of_ble_eq_true rfl) dX12_isCell_4 (yk_p (kc := 0) (ks := 0) ?_)
  exact xj_ireturn rfl nr_b (Nat.zero_le _) (Nat.zero_le _) dX12_isCell_7 (qP_e (rfl))
set_option maxHeartbeats 4000000 in
set_option maxRecDepth 100000 in
theorem c_X12_isByte (l : Launch) (d : Nat) (a : Int32) (h : xH)  : xC l yX12_isByte cX12_isByte 1 (some .boolean) (xR (d + 1) 0 0) [.int a] h (qP (bI (0 ≤ a ∧ a ≤ 255)) h) := by
  refine xC_of false (by decide +kernel) (fun z => by cases z) (Nat.le_of_ble_eq_true rfl) ?_
  show xJ l (RX12, 1, (some .boolean), false, (xR (d + 1) 0 0), none) cX12_isByte _ 0 0 0 [(0, .int a)] [] h
  refine xj_iload_n (n := 0) (i := 0) 0 rfl rfl dX12_isByte_0 ?_
  refine xj_iconst (v := 0) (by decide) dX12_isByte_1 ?_
  refine xj_sipush (v := 255) (by decide) dX12_isByte_2 ?_
  refine xj_callS ks_X12_93 (c_X12_in l (d + 0) a 0 255 _) (As := [.int a, .int 0, .int 255]) (st := []) rfl rfl (xRm_of (by omega) (by decide) (by omega) (by omega)) (Nat.le_of_ble_eq_true rfl) dX12_isByte_5 (yk_p (kc := 0) (ks := 0) ?_)
  exact xj_ireturn rfl nr_b (Nat.zero_le _) (Nat.zero_le _) dX12_isByte_8 (qP_e (rfl))
set_option maxHeartbeats 4000000 in
set_option maxRecDepth 100000 in
theorem c_X12_isCorner (l : Launch) (d : Nat) (a : Int32) (h : xH)  : xC l yX12_isCorner cX12_isCorner 1 (some .boolean) (xR (d + 0) 0 0) [.int a] h (qP (bI (a = 0 ∨ a = 3 ∨ a = 12 ∨ a = 15)) h) := by
  refine xC_of false (by decide +kernel) (fun z => by cases z) (Nat.le_of_ble_eq_true rfl) ?_
  show xJ l (RX12, 1, (some .boolean), false, (xR (d + 0) 0 0), none) cX12_isCorner _ 0 0 0 [(0, .int a)] [] h
  refine xj_iload_n (n := 0) (i := 0) 0 rfl rfl dX12_isCorner_0 ?_
  refine xj_if_eq (tgt := 21) (by decide) dX12_isCorner_1 (fun zc1 => ?_) (fun zc1 => ?_)
  · refine xj_iconst (v := 1) (by decide) dX12_isCorner_21 ?_
    refine xj_goto (tgt := 26) (by decide) dX12_isCorner_22 ?_
    exact xj_ireturn rfl nr_b1 (Nat.zero_le _) (Nat.zero_le _) dX12_isCorner_26 (qP_e (by unfold bI; split <;> first | rfl | (exfalso; simp_all; done)))
  · refine xj_iload_n (n := 0) (i := 0) 0 rfl rfl dX12_isCorner_4 ?_
    refine xj_iconst (v := 3) (by decide) dX12_isCorner_5 ?_
    refine xj_icmp_eq (tgt := 21) (by decide) dX12_isCorner_6 (fun zc6 => ?_) (fun zc6 => ?_)
    · refine xj_iconst (v := 1) (by decide) dX12_isCorner_21 ?_
      refine xj_goto (tgt := 26) (by decide) dX12_isCorner_22 ?_
      exact xj_ireturn rfl nr_b1 (Nat.zero_le _) (Nat.zero_le _) dX12_isCorner_26 (qP_e (by unfold bI; split <;> first | rfl | (exfalso; simp_all; done)))
    · refine xj_iload_n (n := 0) (i := 0) 0 rfl rfl dX12_isCorner_9 ?_
      refine xj_bipush (v := 12) (by decide) dX12_isCorner_10 ?_
      refine xj_icmp_eq (tgt := 21) (by decide) dX12_isCorner_12 (fun zc12 => ?_) (fun zc12 => ?_)
      · refine xj_iconst (v := 1) (by decide) dX12_isCorner_21 ?_
        refine xj_goto (tgt := 26) (by decide) dX12_isCorner_22 ?_
        exact xj_ireturn rfl nr_b1 (Nat.zero_le _) (Nat.zero_le _) dX12_isCorner_26 (qP_e (by unfold bI; split <;> first | rfl | (exfalso; simp_all; done)))
      · refine xj_iload_n (n := 0) (i := 0) 0 rfl rfl dX12_isCorner_15 ?_
        refine xj_bipush (v := 15) (by decide) dX12_isCorner_16 ?_
        refine xj_icmp_ne (tgt := 25) (by decide) dX12_isCorner_18 (fun zc18 => ?_) (fun zc18 => ?_)
        · refine xj_iconst (v := 0) (by decide) dX12_isCorner_25 ?_
          exact xj_ireturn rfl nr_b0 (Nat.zero_le _) (Nat.zero_le _) dX12_isCorner_26 (qP_e (by unfold bI; split <;> first | rfl | (exfalso; simp_all; done)))
        · refine xj_iconst (v := 1) (by decide) dX12_isCorner_21 ?_
          refine xj_goto (tgt := 26) (by decide) dX12_isCorner_22 ?_
          exact xj_ireturn rfl nr_b1 (Nat.zero_le _) (Nat.zero_le _) dX12_isCorner_26 (qP_e (by unfold bI; split <;> first | rfl | (exfalso; simp_all; done)))
set_option maxHeartbeats 4000000 in
set_option maxRecDepth 100000 in
theorem c_X12_isMiddle (l : Launch) (d : Nat) (a : Int32) (h : xH)  : xC l yX12_isMiddle cX12_isMiddle 1 (some .boolean) (xR (d + 0) 0 0) [.int a] h (qP (bI (a = 5 ∨ a = 6 ∨ a = 9 ∨ a = 10)) h) := by
  refine xC_of false (by decide +kernel) (fun z => by cases z) (Nat.le_of_ble_eq_true rfl) ?_
  show xJ l (RX12, 1, (some .boolean), false, (xR (d + 0) 0 0), none) cX12_isMiddle _ 0 0 0 [(0, .int a)] [] h
  refine xj_iload_n (n := 0) (i := 0) 0 rfl rfl dX12_isMiddle_0 ?_
  refine xj_iconst (v := 5) (by decide) dX12_isMiddle_1 ?_
  refine xj_icmp_eq (tgt := 23) (by decide) dX12_isMiddle_2 (fun zc2 => ?_) (fun zc2 => ?_)
  · refine xj_iconst (v := 1) (by decide) dX12_isMiddle_23 ?_
    refine xj_goto (tgt := 28) (by decide) dX12_isMiddle_24 ?_
    exact xj_ireturn rfl nr_b1 (Nat.zero_le _) (Nat.zero_le _) dX12_isMiddle_28 (qP_e (by unfold bI; split <;> first | rfl | (exfalso; simp_all; done)))
  · refine xj_iload_n (n := 0) (i := 0) 0 rfl rfl dX12_isMiddle_5 ?_
    refine xj_bipush (v := 6) (by decide) dX12_isMiddle_6 ?_
    refine xj_icmp_eq (tgt := 23) (by decide) dX12_isMiddle_8 (fun zc8 => ?_) (fun zc8 => ?_)
    · refine xj_iconst (v := 1) (by decide) dX12_isMiddle_23 ?_
      refine xj_goto (tgt := 28) (by decide) dX12_isMiddle_24 ?_
      exact xj_ireturn rfl nr_b1 (Nat.zero_le _) (Nat.zero_le _) dX12_isMiddle_28 (qP_e (by unfold bI; split <;> first | rfl | (exfalso; simp_all; done)))
    · refine xj_iload_n (n := 0) (i := 0) 0 rfl rfl dX12_isMiddle_11 ?_
      refine xj_bipush (v := 9) (by decide) dX12_isMiddle_12 ?_
      refine xj_icmp_eq (tgt := 23) (by decide) dX12_isMiddle_14 (fun zc14 => ?_) (fun zc14 => ?_)
      · refine xj_iconst (v := 1) (by decide) dX12_isMiddle_23 ?_
        refine xj_goto (tgt := 28) (by decide) dX12_isMiddle_24 ?_
        exact xj_ireturn rfl nr_b1 (Nat.zero_le _) (Nat.zero_le _) dX12_isMiddle_28 (qP_e (by unfold bI; split <;> first | rfl | (exfalso; simp_all; done)))
      · refine xj_iload_n (n := 0) (i := 0) 0 rfl rfl dX12_isMiddle_17 ?_
        refine xj_bipush (v := 10) (by decide) dX12_isMiddle_18 ?_
        refine xj_icmp_ne (tgt := 27) (by decide) dX12_isMiddle_20 (fun zc20 => ?_) (fun zc20 => ?_)
        · refine xj_iconst (v := 0) (by decide) dX12_isMiddle_27 ?_
          exact xj_ireturn rfl nr_b0 (Nat.zero_le _) (Nat.zero_le _) dX12_isMiddle_28 (qP_e (by unfold bI; split <;> first | rfl | (exfalso; simp_all; done)))
        · refine xj_iconst (v := 1) (by decide) dX12_isMiddle_23 ?_
          refine xj_goto (tgt := 28) (by decide) dX12_isMiddle_24 ?_
          exact xj_ireturn rfl nr_b1 (Nat.zero_le _) (Nat.zero_le _) dX12_isMiddle_28 (qP_e (by unfold bI; split <;> first | rfl | (exfalso; simp_all; done)))
