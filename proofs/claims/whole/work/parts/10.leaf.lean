set_option maxHeartbeats 4000000 in
set_option maxRecDepth 100000 in
theorem c_X11_within (l : Launch) (d : Nat) (a b : Int32) (h : xH)  : xC l yX11_within cX11_within 2 (some .boolean) (xR (d + 0) 0 0) [.int a, .int b] h (qP (bI (0 ≤ a ∧ a ≤ b)) h) := by
  refine xC_of false (by decide +kernel) (fun z => by cases z) (Nat.le_of_ble_eq_true rfl) ?_
  show xJ l (RX11, 2, (some .boolean), false, (xR (d + 0) 0 0), none) cX11_within _ 0 0 0 [(0, .int a), (1, .int b)] [] h
  refine xj_iload_n (n := 0) (i := 0) 0 rfl rfl dX11_within_0 ?_
  refine xj_if_lt (tgt := 13) (by decide) dX11_within_1 (fun c1 => ?_) (fun c1 => ?_)
  · refine xj_iconst (v := 0) (by decide) dX11_within_13 ?_
    exact xj_ireturn rfl nr_b0 (Nat.zero_le _) (Nat.zero_le _) dX11_within_14 (qP_e (by unfold bI; split <;> first | rfl | (exfalso; simp only [i32_lt, i32_le, i32_0] at *; omega)))
  · refine xj_iload_n (n := 0) (i := 0) 0 rfl rfl dX11_within_4 ?_
    refine xj_iload_n (n := 1) (i := 1) 1 rfl rfl dX11_within_5 ?_
    refine xj_icmp_gt (tgt := 13) (by decide) dX11_within_6 (fun c6 => ?_) (fun c6 => ?_)
    · refine xj_iconst (v := 0) (by decide) dX11_within_13 ?_
      exact xj_ireturn rfl nr_b0 (Nat.zero_le _) (Nat.zero_le _) dX11_within_14 (qP_e (by unfold bI; split <;> first | rfl | (exfalso; simp only [i32_lt, i32_le, i32_0] at *; omega)))
    · refine xj_iconst (v := 1) (by decide) dX11_within_9 ?_
      refine xj_goto (tgt := 14) (by decide) dX11_within_10 ?_
      exact xj_ireturn rfl nr_b1 (Nat.zero_le _) (Nat.zero_le _) dX11_within_14 (qP_e (by unfold bI; split <;> first | rfl | (exfalso; simp only [i32_lt, i32_le, i32_0] at *; omega)))
set_option maxHeartbeats 4000000 in
set_option maxRecDepth 100000 in
theorem c_X11_has (l : Launch) (d : Nat) (a b : Int32) (h : xH)  : xC l yX11_has cX11_has 2 (some .boolean) (xR (d + 0) 0 0) [.int a, .int b] h (qP (bI (hasF a b = true)) h) := by
  refine xC_of false (by decide +kernel) (fun z => by cases z) (Nat.le_of_ble_eq_true rfl) ?_
  show xJ l (RX11, 2, (some .boolean), false, (xR (d + 0) 0 0), none) cX11_has _ 0 0 0 [(0, .int a), (1, .int b)] [] h
  refine xj_iload_n (n := 0) (i := 0) 0 rfl rfl dX11_has_0 ?_
  refine xj_iload_n (n := 1) (i := 1) 1 rfl rfl dX11_has_1 ?_
  refine xj_ishr dX11_has_2 ?_
  refine xj_iconst (v := 1) (by decide) dX11_has_3 ?_
  refine xj_iand dX11_has_4 ?_
  refine xj_iconst (v := 1) (by decide) dX11_has_5 ?_
  refine xj_icmp_ne (tgt := 13) (by decide) dX11_has_6 (fun c6 => ?_) (fun c6 => ?_)
  · refine xj_iconst (v := 0) (by decide) dX11_has_13 ?_
    exact xj_ireturn rfl nr_b0 (Nat.zero_le _) (Nat.zero_le _) dX11_has_14 (qP_e (by unfold bI hasF; split <;> simp_all))
  · refine xj_iconst (v := 1) (by decide) dX11_has_9 ?_
    refine xj_goto (tgt := 14) (by decide) dX11_has_10 ?_
    exact xj_ireturn rfl nr_b1 (Nat.zero_le _) (Nat.zero_le _) dX11_has_14 (qP_e (by unfold bI hasF; split <;> simp_all))
set_option maxHeartbeats 4000000 in
set_option maxRecDepth 100000 in
theorem c_X11_isCell (l : Launch) (d : Nat) (a : Int32) (h : xH)  : xC l yX11_isCell cX11_isCell 1 (some .boolean) (xR (d + 1) 0 0) [.int a] h (qP (bI (0 ≤ a ∧ a ≤ 15)) h) := by
  refine xC_of false (by decide +kernel) (fun z => by cases z) (Nat.le_of_ble_eq_true rfl) ?_
  show xJ l (RX11, 1, (some .boolean), false, (xR (d + 1) 0 0), none) cX11_isCell _ 0 0 0 [(0, .int a)] [] h
  refine xj_iload_n (n := 0) (i := 0) 0 rfl rfl dX11_isCell_0 ?_
  refine xj_bipush (v := 15) (by decide) dX11_isCell_1 ?_
  refine xj_callS ks_X11_107 (c_X11_within l (d + 0) a 15 _) (As := [.int a, .int 15]) (st := []) rfl rfl (xRm_of (by omega) (by decide) (by omega) (by omega)) (Nat.le_of_ble_eq_true rfl) dX11_isCell_3 (yk_p ?_)
  exact xj_ireturn rfl nr_b (Nat.zero_le _) (Nat.zero_le _) dX11_isCell_6 (qP_e (rfl))
set_option maxHeartbeats 4000000 in
set_option maxRecDepth 100000 in
theorem c_X11_isSheet (l : Launch) (d : Nat) (a : Int32) (h : xH)  : xC l yX11_isSheet cX11_isSheet 1 (some .boolean) (xR (d + 1) 0 0) [.int a] h (qP (bI (0 ≤ a ∧ a ≤ 3)) h) := by
  refine xC_of false (by decide +kernel) (fun z => by cases z) (Nat.le_of_ble_eq_true rfl) ?_
  show xJ l (RX11, 1, (some .boolean), false, (xR (d + 1) 0 0), none) cX11_isSheet _ 0 0 0 [(0, .int a)] [] h
  refine xj_iload_n (n := 0) (i := 0) 0 rfl rfl dX11_isSheet_0 ?_
  refine xj_iconst (v := 3) (by decide) dX11_isSheet_1 ?_
  refine xj_callS ks_X11_107 (c_X11_within l (d + 0) a 3 _) (As := [.int a, .int 3]) (st := []) rfl rfl (xRm_of (by omega) (by decide) (by omega) (by omega)) (Nat.le_of_ble_eq_true rfl) dX11_isSheet_2 (yk_p ?_)
  exact xj_ireturn rfl nr_b (Nat.zero_le _) (Nat.zero_le _) dX11_isSheet_5 (qP_e (rfl))
