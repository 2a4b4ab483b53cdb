theorem i32_1 : (1 : Int32).toInt = 1 := rfl
def kDull (k : Nat) (said cell more night : Int32) : Int32 := if k = 1 then (if hasF 36873 cell = true then 2 * said else said) else if k = 3 then (if hasF 36873 cell = true then 2 * said else said) + more else if k = 4 then 0 else if k = 5 then (if night - night / 2 * 2 = 1 then said + more else 1) else said
def kLimit (k : Nat) (said cell more : Int32) : Int32 := if k = 2 then said + more else if k = 3 then (if hasF 36873 cell = true then 99 else said) else if k = 4 then said + more else said
def kCost (k : Nat) (said cell : Int32) : Int32 := if k = 2 then (if hasF 1632 cell = true then 2 * (said + 1) else said + 1) else if k = 4 then (if hasF 1632 cell = true then 2 * (said + 1) else said + 1) / 2 else if k = 5 then (if said < 5 then 5 else said + 1) else said + 1
def kCi (k : Nat) : Nat := if k = 0 then 4 else if k = 1 then 6 else if k = 2 then 1 else if k = 3 then 0 else if k = 4 then 2 else 5
set_option maxHeartbeats 4000000 in
set_option maxRecDepth 100000 in
theorem c_X11_within (l : Launch) (d : Nat) (a b : Int32) (h : xH)  : xC l yX11_within cX11_within 2 (some .boolean) (xR (d + 0) 0 0) [.int a, .int b] h (qP (bI (0 ≤ a ∧ a ≤ b)) h) := by
  refine xC_of false (by decide +kernel) (fun z => by cases z) (Nat.le_of_ble_eq_true rfl) ?_
  show xJ l (RX11, 2, (some .boolean), false, (xR (d + 0) 0 0), none) cX11_within _ 0 0 0 [(0, .int a), (1, .int b)] [] h
  refine xj_iload_n (n := 0) (i := 0) 0 rfl rfl dX11_within_0 ?_
  refine xj_if_lt (tgt := 13) (by decide) dX11_within_1 (fun zc1 => ?_) (fun zc1 => ?_)
  · refine xj_iconst (v := 0) (by decide) dX11_within_13 ?_
    exact xj_ireturn rfl nr_b0 (Nat.zero_le _) (Nat.zero_le _) dX11_within_14 (qP_e (by unfold bI; split <;> first | rfl | (exfalso; simp only [i32_lt, i32_le, i32_0] at *; omega)))
  · refine xj_iload_n (n := 0) (i := 0) 0 rfl rfl dX11_within_4 ?_
    refine xj_iload_n (n := 1) (i := 1) 1 rfl rfl dX11_within_5 ?_
    refine xj_icmp_gt (tgt := 13) (by decide) dX11_within_6 (fun zc6 => ?_) (fun zc6 => ?_)
    · refine xj_iconst (v := 0) (by decide) dX11_within_13 ?_
      exact xj_ireturn rfl nr_b0 (Nat.zero_le _) (Nat.zero_le _) dX11_within_14 (qP_e (by unfold bI; split <;> first | rfl | (exfalso; simp only [i32_lt, i32_le, i32_0] at *; omega)))
    · refine xj_iconst (v := 1) (by decide) dX11_within_9 ?_
      refine xj_goto (tgt := 14) (by decide) dX11_within_10 ?_
      exact xj_ireturn rfl nr_b1 (Nat.zero_le _) (Nat.zero_le _) dX11_within_14 (qP_e (by unfold bI; split <;> first | rfl | (exfalso; simp only [i32_lt, i32_le, i32_0] at *; omega)))
set_option maxHeartbeats 4000000 in
set_option maxRecDepth 100000 in
theorem c_X11_has (l : Launch) (d : Nat) (a b : Int32) (h : xH)  : xC l yX11_has cX11_has 2 (some .boolean) (xR (d + 0) 0 0) [.int a, .int b] h (qP (bI (hasF a b = true)) h) := by
  refine xC_of false (by decide +kernel) (fun z => by cases z) (Nat.le_of_ble_eq_true rfl) ?_
  show xJ l (RX11, 2, (some .boolean), false, (xR (d + 0) 0 0), none) cX11_has _ 0 0 0 [(0, .int a), (1, .int b)] [] h
  refine xj_iload_n (n := 0) (i := 0) 0 rfl rfl dX11_has_0 ?_
  refine xj_iload_n (n := 1) (i := 1) 1 rfl rfl dX11_has_1 ?_
  refine xj_ishr dX11_has_2 ?_
  refine xj_iconst (v := 1) (by decide) dX11_has_3 ?_
  refine xj_iand dX11_has_4 ?_
  refine xj_iconst (v := 1) (by decide) dX11_has_5 ?_
  refine xj_icmp_ne (tgt := 13) (by decide) dX11_has_6 (fun zc6 => ?_) (fun zc6 => ?_)
  · refine xj_iconst (v := 0) (by decide) dX11_has_13 ?_
    exact xj_ireturn rfl nr_b0 (Nat.zero_le _) (Nat.zero_le _) dX11_has_14 (qP_e (by unfold bI hasF; split <;> simp_all))
  · refine xj_iconst (v := 1) (by decide) dX11_has_9 ?_
    refine xj_goto (tgt := 14) (by decide) dX11_has_10 ?_
    exact xj_ireturn rfl nr_b1 (Nat.zero_le _) (Nat.zero_le _) dX11_has_14 (qP_e (by unfold bI hasF; split <;> simp_all))
set_option maxHeartbeats 4000000 in
set_option maxRecDepth 100000 in
theorem c_X11_isCell (l : Launch) (d : Nat) (a : Int32) (h : xH)  : xC l yX11_isCell cX11_isCell 1 (some .boolean) (xR (d + 1) 0 0) [.int a] h (qP (bI (0 ≤ a ∧ a ≤ 15)) h) := by
  refine xC_of false (by decide +kernel) (fun z => by cases z) (Nat.le_of_ble_eq_true rfl) ?_
  show xJ l (RX11, 1, (some .boolean), false, (xR (d + 1) 0 0), none) cX11_isCell _ 0 0 0 [(0, .int a)] [] h
  refine xj_iload_n (n := 0) (i := 0) 0 rfl rfl dX11_isCell_0 ?_
  refine xj_bipush (v := 15) (by decide) dX11_isCell_1 ?_
  refine xj_callS ks_X11_107 (c_X11_within l (d + 0) a 15 _) (As := [.int a, .int 15]) (st := []) rfl rfl (xRm_of (by omega) (by decide) (by omega) (by omega)) (Nat.le_of_ble_eq_true rfl) dX11_isCell_3 (yk_p (kc := 0) (ks := 0) ?_)
  exact xj_ireturn rfl nr_b (Nat.zero_le _) (Nat.zero_le _) dX11_isCell_6 (qP_e (rfl))
set_option maxHeartbeats 4000000 in
set_option maxRecDepth 100000 in
theorem c_X11_isSheet (l : Launch) (d : Nat) (a : Int32) (h : xH)  : xC l yX11_isSheet cX11_isSheet 1 (some .boolean) (xR (d + 1) 0 0) [.int a] h (qP (bI (0 ≤ a ∧ a ≤ 3)) h) := by
  refine xC_of false (by decide +kernel) (fun z => by cases z) (Nat.le_of_ble_eq_true rfl) ?_
  show xJ l (RX11, 1, (some .boolean), false, (xR (d + 1) 0 0), none) cX11_isSheet _ 0 0 0 [(0, .int a)] [] h
  refine xj_iload_n (n := 0) (i := 0) 0 rfl rfl dX11_isSheet_0 ?_
  refine xj_iconst (v := 3) (by decide) dX11_isSheet_1 ?_
  refine xj_callS ks_X11_107 (c_X11_within l (d + 0) a 3 _) (As := [.int a, .int 3]) (st := []) rfl rfl (xRm_of (by omega) (by decide) (by omega) (by omega)) (Nat.le_of_ble_eq_true rfl) dX11_isSheet_2 (yk_p (kc := 0) (ks := 0) ?_)
  exact xj_ireturn rfl nr_b (Nat.zero_le _) (Nat.zero_le _) dX11_isSheet_5 (qP_e (rfl))
set_option maxHeartbeats 4000000 in
set_option maxRecDepth 100000 in
theorem c_X4_dullerBy (l : Launch) (d : Nat) (b : Nat) (said cell more night : Int32) (h : xH)  : xC l yX4_dullerBy cX4_dullerBy 5 (some .int) (xR (d + 0) 0 0) [.ref b, .int said, .int cell, .int more, .int night] h (qP (said) h) := by
  refine xC_of false (by decide +kernel) (fun z => by cases z) (Nat.le_of_ble_eq_true rfl) ?_
  show xJ l (RX4, 5, (some .int), false, (xR (d + 0) 0 0), none) cX4_dullerBy _ 0 0 0 [(0, .ref b), (1, .int said), (2, .int cell), (3, .int more), (4, .int night)] [] h
  refine xj_iload_n (n := 1) (i := 1) 1 rfl rfl dX4_dullerBy_0 ?_
  exact xj_ireturn rfl (nr_i _) (Nat.zero_le _) (Nat.zero_le _) dX4_dullerBy_1 (qP_e (rfl))
set_option maxHeartbeats 4000000 in
set_option maxRecDepth 100000 in
theorem c_X4_limitBy (l : Launch) (d : Nat) (b : Nat) (said cell more : Int32) (h : xH)  : xC l yX4_limitBy cX4_limitBy 4 (some .int) (xR (d + 0) 0 0) [.ref b, .int said, .int cell, .int more] h (qP (said) h) := by
  refine xC_of false (by decide +kernel) (fun z => by cases z) (Nat.le_of_ble_eq_true rfl) ?_
  show xJ l (RX4, 4, (some .int), false, (xR (d + 0) 0 0), none) cX4_limitBy _ 0 0 0 [(0, .ref b), (1, .int said), (2, .int cell), (3, .int more)] [] h
  refine xj_iload_n (n := 1) (i := 1) 1 rfl rfl dX4_limitBy_0 ?_
  exact xj_ireturn rfl (nr_i _) (Nat.zero_le _) (Nat.zero_le _) dX4_limitBy_1 (qP_e (rfl))
set_option maxHeartbeats 4000000 in
set_option maxRecDepth 100000 in
theorem c_X4_costBy (l : Launch) (d : Nat) (b : Nat) (said cell : Int32) (h : xH)  : xC l yX4_costBy cX4_costBy 3 (some .int) (xR (d + 0) 0 0) [.ref b, .int said, .int cell] h (qP (said + 1) h) := by
  refine xC_of false (by decide +kernel) (fun z => by cases z) (Nat.le_of_ble_eq_true rfl) ?_
  show xJ l (RX4, 3, (some .int), false, (xR (d + 0) 0 0), none) cX4_costBy _ 0 0 0 [(0, .ref b), (1, .int said), (2, .int cell)] [] h
  refine xj_iload_n (n := 1) (i := 1) 1 rfl rfl dX4_costBy_0 ?_
  refine xj_iconst (v := 1) (by decide) dX4_costBy_1 ?_
  refine xj_iadd dX4_costBy_2 ?_
  exact xj_ireturn rfl (nr_i _) (Nat.zero_le _) (Nat.zero_le _) dX4_costBy_3 (qP_e (rfl))
set_option maxHeartbeats 4000000 in
set_option maxRecDepth 100000 in
theorem c_X1_limitBy (l : Launch) (d : Nat) (b : Nat) (said cell more : Int32) (h : xH)  : xC l yX1_limitBy cX1_limitBy 4 (some .int) (xR (d + 0) 0 0) [.ref b, .int said, .int cell, .int more] h (qP (said + more) h) := by
  refine xC_of false (by decide +kernel) (fun z => by cases z) (Nat.le_of_ble_eq_true rfl) ?_
  show xJ l (RX1, 4, (some .int), false, (xR (d + 0) 0 0), none) cX1_limitBy _ 0 0 0 [(0, .ref b), (1, .int said), (2, .int cell), (3, .int more)] [] h
  refine xj_iload_n (n := 1) (i := 1) 1 rfl rfl dX1_limitBy_0 ?_
  refine xj_iload_n (n := 3) (i := 3) 3 rfl rfl dX1_limitBy_1 ?_
  refine xj_iadd dX1_limitBy_2 ?_
  exact xj_ireturn rfl (nr_i _) (Nat.zero_le _) (Nat.zero_le _) dX1_limitBy_3 (qP_e (rfl))
set_option maxHeartbeats 4000000 in
set_option maxRecDepth 100000 in
theorem c_X2_dullerBy (l : Launch) (d : Nat) (b : Nat) (said cell more night : Int32) (h : xH)  : xC l yX2_dullerBy cX2_dullerBy 5 (some .int) (xR (d + 0) 0 0) [.ref b, .int said, .int cell, .int more, .int night] h (qP (0) h) := by
  refine xC_of false (by decide +kernel) (fun z => by cases z) (Nat.le_of_ble_eq_true rfl) ?_
  show xJ l (RX2, 5, (some .int), false, (xR (d + 0) 0 0), none) cX2_dullerBy _ 0 0 0 [(0, .ref b), (1, .int said), (2, .int cell), (3, .int more), (4, .int night)] [] h
  refine xj_iconst (v := 0) (by decide) dX2_dullerBy_0 ?_
  exact xj_ireturn rfl (nr_i _) (Nat.zero_le _) (Nat.zero_le _) dX2_dullerBy_1 (qP_e (rfl))
set_option maxHeartbeats 4000000 in
set_option maxRecDepth 100000 in
theorem c_X6_dullerBy (l : Launch) (d : Nat) (b : Nat) (said cell more night : Int32) (h : xH)  : xC l yX6_dullerBy cX6_dullerBy 5 (some .int) (xR (d + 1) 0 0) [.ref b, .int said, .int cell, .int more, .int night] h (qP (if hasF 36873 cell = true then 2 * said else said) h) := by
  refine xC_of false (by decide +kernel) (fun z => by cases z) (Nat.le_of_ble_eq_true rfl) ?_
  show xJ l (RX6, 5, (some .int), false, (xR (d + 1) 0 0), none) cX6_dullerBy _ 0 0 0 [(0, .ref b), (1, .int said), (2, .int cell), (3, .int more), (4, .int night)] [] h
  refine xj_ldc cn_X6_9 dX6_dullerBy_0 ?_
  refine xj_iload_n (n := 2) (i := 2) 2 rfl rfl dX6_dullerBy_2 ?_
  refine xj_callSN kn_X6_10 (c_X11_has l (d + 0) 36873 cell _) (As := [.int 36873, .int cell]) (st := []) rfl rfl (xRm_of (by omega) (by decide) (by omega) (by omega)) (Nat.le_of_ble_eq_true rfl) dX6_dullerBy_3 (yk_p (kc := 0) (ks := 0) ?_)
  refine xj_if_eq (tgt := 15) (by decide) dX6_dullerBy_6 (fun zc6 => ?_) (fun zc6 => ?_)
  · refine xj_iload_n (n := 1) (i := 1) 1 rfl rfl dX6_dullerBy_15 ?_
    exact xj_ireturn rfl (nr_i _) (Nat.zero_le _) (Nat.zero_le _) dX6_dullerBy_16 (qP_e (by rw [bI_0] at zc6; first | exact (if_neg zc6).symm | (rw [if_pos (by simpa using zc6)])))
  · refine xj_iconst (v := 2) (by decide) dX6_dullerBy_9 ?_
    refine xj_iload_n (n := 1) (i := 1) 1 rfl rfl dX6_dullerBy_10 ?_
    refine xj_imul dX6_dullerBy_11 ?_
    refine xj_goto (tgt := 16) (by decide) dX6_dullerBy_12 ?_
    exact xj_ireturn rfl (nr_i _) (Nat.zero_le _) (Nat.zero_le _) dX6_dullerBy_16 (qP_e (by rw [bI_0] at zc6; first | exact (if_neg zc6).symm | (rw [if_pos (by simpa using zc6)])))
set_option maxHeartbeats 4000000 in
set_option maxRecDepth 100000 in
theorem c_X0_limitBy (l : Launch) (d : Nat) (b : Nat) (said cell more : Int32) (h : xH)  : xC l yX0_limitBy cX0_limitBy 4 (some .int) (xR (d + 1) 0 0) [.ref b, .int said, .int cell, .int more] h (qP (if hasF 36873 cell = true then 99 else said) h) := by
  refine xC_of false (by decide +kernel) (fun z => by cases z) (Nat.le_of_ble_eq_true rfl) ?_
  show xJ l (RX0, 4, (some .int), false, (xR (d + 1) 0 0), none) cX0_limitBy _ 0 0 0 [(0, .ref b), (1, .int said), (2, .int cell), (3, .int more)] [] h
  refine xj_ldc cn_X0_13 dX0_limitBy_0 ?_
  refine xj_iload_n (n := 2) (i := 2) 2 rfl rfl dX0_limitBy_2 ?_
  refine xj_callSN kn_X0_14 (c_X11_has l (d + 0) 36873 cell _) (As := [.int 36873, .int cell]) (st := []) rfl rfl (xRm_of (by omega) (by decide) (by omega) (by omega)) (Nat.le_of_ble_eq_true rfl) dX0_limitBy_3 (yk_p (kc := 0) (ks := 0) ?_)
  refine xj_if_eq (tgt := 14) (by decide) dX0_limitBy_6 (fun zc6 => ?_) (fun zc6 => ?_)
  · refine xj_iload_n (n := 1) (i := 1) 1 rfl rfl dX0_limitBy_14 ?_
    exact xj_ireturn rfl (nr_i _) (Nat.zero_le _) (Nat.zero_le _) dX0_limitBy_15 (qP_e (by rw [bI_0] at zc6; first | exact (if_neg zc6).symm | (rw [if_pos (by simpa using zc6)])))
  · refine xj_bipush (v := 99) (by decide) dX0_limitBy_9 ?_
    refine xj_goto (tgt := 15) (by decide) dX0_limitBy_11 ?_
    exact xj_ireturn rfl (nr_i _) (Nat.zero_le _) (Nat.zero_le _) dX0_limitBy_15 (qP_e (by rw [bI_0] at zc6; first | exact (if_neg zc6).symm | (rw [if_pos (by simpa using zc6)])))
set_option maxHeartbeats 4000000 in
set_option maxRecDepth 100000 in
theorem c_X5_dullerBy (l : Launch) (d : Nat) (b : Nat) (said cell more night : Int32) (h : xH)  : xC l yX5_dullerBy cX5_dullerBy 5 (some .int) (xR (d + 0) 0 0) [.ref b, .int said, .int cell, .int more, .int night] h (qP (if night - night / 2 * 2 = 1 then said + more else 1) h) := by
  refine xC_of false (by decide +kernel) (fun z => by cases z) (Nat.le_of_ble_eq_true rfl) ?_
  show xJ l (RX5, 5, (some .int), false, (xR (d + 0) 0 0), none) cX5_dullerBy _ 0 0 0 [(0, .ref b), (1, .int said), (2, .int cell), (3, .int more), (4, .int night)] [] h
  refine xj_iload (i := 4) 4 rfl dX5_dullerBy_0 ?_
  refine xj_iconst (v := 2) (by decide) dX5_dullerBy_2 ?_
  refine xj_irem (by decide) dX5_dullerBy_3 ?_
  refine xj_iconst (v := 1) (by decide) dX5_dullerBy_4 ?_
  refine xj_icmp_ne (tgt := 14) (by decide) dX5_dullerBy_5 (fun zc5 => ?_) (fun zc5 => ?_)
  · refine xj_iconst (v := 1) (by decide) dX5_dullerBy_14 ?_
    exact xj_ireturn rfl (nr_i _) (Nat.zero_le _) (Nat.zero_le _) dX5_dullerBy_15 (qP_e (by first | exact (if_neg zc5).symm | exact (if_pos zc5).symm))
  · refine xj_iload_n (n := 1) (i := 1) 1 rfl rfl dX5_dullerBy_8 ?_
    refine xj_iload_n (n := 3) (i := 3) 3 rfl rfl dX5_dullerBy_9 ?_
    refine xj_iadd dX5_dullerBy_10 ?_
    refine xj_goto (tgt := 15) (by decide) dX5_dullerBy_11 ?_
    exact xj_ireturn rfl (nr_i _) (Nat.zero_le _) (Nat.zero_le _) dX5_dullerBy_15 (qP_e (by first | exact (if_neg zc5).symm | exact (if_pos zc5).symm))
set_option maxHeartbeats 4000000 in
set_option maxRecDepth 100000 in
theorem c_X1_costBy (l : Launch) (d : Nat) (b : Nat) (said cell : Int32) (h : xH) (hb : b < h.1) (ci : Nat) (fs : List Value) (hq : h.2 b = .inr (.inr (ci, fs))) (z : vw_C) (hc : vwCl[ci]? = some z) : xC l yX1_costBy cX1_costBy 4 (some .int) (xR (d + 1) 0 0) [.ref b, .int said, .int cell] h (qP (if hasF 1632 cell = true then 2 * (said + 1) else said + 1) h) := by
  refine xC_of false (by decide +kernel) (fun z => by cases z) (Nat.le_of_ble_eq_true rfl) ?_
  show xJ l (RX1, 4, (some .int), false, (xR (d + 1) 0 0), none) cX1_costBy _ 0 0 0 [(0, .ref b), (1, .int said), (2, .int cell)] [] h
  refine xj_aload_n (n := 0) (i := 0) 0 rfl rfl dX1_costBy_0 ?_
  refine xj_iload_n (n := 1) (i := 1) 1 rfl rfl dX1_costBy_1 ?_
  refine xj_iload_n (n := 2) (i := 2) 2 rfl rfl dX1_costBy_2 ?_
  refine xj_callSU kp_X1_9 (c_X4_costBy l (d + 0) b said cell _) (As := [.int said, .int cell]) (st := []) hb hq (ci := ci) hc rfl rfl (xRm_of (by omega) (by decide) (by omega) (by omega)) (Nat.le_of_ble_eq_true rfl) dX1_costBy_3 (yk_p (kc := 0) (ks := 0) ?_)
  refine xj_topi (fun zv1 ezv1 => ?_)
  refine xj_istore_n (n := 3) (i := 3) (lv1 := [(3, .int zv1), (0, .ref b), (1, .int said), (2, .int cell)]) rfl rfl (Nat.le_of_ble_eq_true rfl) dX1_costBy_6 ?_
  refine xj_sipush (v := 1632) (by decide) dX1_costBy_7 ?_
  refine xj_iload_n (n := 2) (i := 2) 3 rfl rfl dX1_costBy_10 ?_
  refine xj_callSN kn_X1_13 (c_X11_has l (d + 0) 1632 cell _) (As := [.int 1632, .int cell]) (st := []) rfl rfl (xRm_of (by omega) (by decide) (by omega) (by omega)) (Nat.le_of_ble_eq_true rfl) dX1_costBy_11 (yk_p (kc := 0) (ks := 0) ?_)
  refine xj_if_eq (tgt := 23) (by decide) dX1_costBy_14 (fun zc14 => ?_) (fun zc14 => ?_)
  · refine xj_iload_n (n := 3) (i := 3) 0 rfl rfl dX1_costBy_23 ?_
    exact xj_ireturn rfl (nr_i _) (Nat.zero_le _) (Nat.zero_le _) dX1_costBy_24 (qP_e (by rw [bI_0] at zc14; first | (rw [if_neg zc14, ezv1]) | (rw [if_pos (by simpa using zc14), ezv1])))
  · refine xj_iconst (v := 2) (by decide) dX1_costBy_17 ?_
    refine xj_iload_n (n := 3) (i := 3) 0 rfl rfl dX1_costBy_18 ?_
    refine xj_imul dX1_costBy_19 ?_
    refine xj_goto (tgt := 24) (by decide) dX1_costBy_20 ?_
    exact xj_ireturn rfl (nr_i _) (Nat.zero_le _) (Nat.zero_le _) dX1_costBy_24 (qP_e (by rw [bI_0] at zc14; first | (rw [if_neg zc14, ezv1]) | (rw [if_pos (by simpa using zc14), ezv1])))
set_option maxHeartbeats 4000000 in
set_option maxRecDepth 100000 in
theorem c_X2_costBy (l : Launch) (d : Nat) (b : Nat) (said cell : Int32) (h : xH) (hb : b < h.1) (ci : Nat) (fs : List Value) (hq : h.2 b = .inr (.inr (ci, fs))) (z : vw_C) (hc : vwCl[ci]? = some z) : xC l yX2_costBy cX2_costBy 3 (some .int) (xR (d + 2) 0 0) [.ref b, .int said, .int cell] h (qP ((if hasF 1632 cell = true then 2 * (said + 1) else said + 1) / 2) h) := by
  refine xC_of false (by decide +kernel) (fun z => by cases z) (Nat.le_of_ble_eq_true rfl) ?_
  show xJ l (RX2, 3, (some .int), false, (xR (d + 2) 0 0), none) cX2_costBy _ 0 0 0 [(0, .ref b), (1, .int said), (2, .int cell)] [] h
  refine xj_aload_n (n := 0) (i := 0) 0 rfl rfl dX2_costBy_0 ?_
  refine xj_iload_n (n := 1) (i := 1) 1 rfl rfl dX2_costBy_1 ?_
  refine xj_iload_n (n := 2) (i := 2) 2 rfl rfl dX2_costBy_2 ?_
  refine xj_callSU kp_X2_7 (c_X1_costBy l (d + 0) b said cell _ hb ci fs hq z hc) (As := [.int said, .int cell]) (st := []) hb hq (ci := ci) hc rfl rfl (xRm_of (by omega) (by decide) (by omega) (by omega)) (Nat.le_of_ble_eq_true rfl) dX2_costBy_3 (yk_p (kc := 0) (ks := 0) ?_)
  refine xj_iconst (v := 2) (by decide) dX2_costBy_6 ?_
  refine xj_idiv (by decide) dX2_costBy_7 ?_
  exact xj_ireturn rfl (nr_i _) (Nat.zero_le _) (Nat.zero_le _) dX2_costBy_8 (qP_e (rfl))
set_option maxHeartbeats 4000000 in
set_option maxRecDepth 100000 in
theorem c_X5_costBy (l : Launch) (d : Nat) (b : Nat) (said cell : Int32) (h : xH) (hb : b < h.1) (ci : Nat) (fs : List Value) (hq : h.2 b = .inr (.inr (ci, fs))) (z : vw_C) (hc : vwCl[ci]? = some z) : xC l yX5_costBy cX5_costBy 3 (some .int) (xR (d + 1) 0 0) [.ref b, .int said, .int cell] h (qP (if said < 5 then 5 else said + 1) h) := by
  refine xC_of false (by decide +kernel) (fun z => by cases z) (Nat.le_of_ble_eq_true rfl) ?_
  show xJ l (RX5, 3, (some .int), false, (xR (d + 1) 0 0), none) cX5_costBy _ 0 0 0 [(0, .ref b), (1, .int said), (2, .int cell)] [] h
  refine xj_iload_n (n := 1) (i := 1) 1 rfl rfl dX5_costBy_0 ?_
  refine xj_iconst (v := 5) (by decide) dX5_costBy_1 ?_
  refine xj_icmp_ge (tgt := 9) (by decide) dX5_costBy_2 (fun zc2 => ?_) (fun zc2 => ?_)
  · refine xj_aload_n (n := 0) (i := 0) 0 rfl rfl dX5_costBy_9 ?_
    refine xj_iload_n (n := 1) (i := 1) 1 rfl rfl dX5_costBy_10 ?_
    refine xj_iload_n (n := 2) (i := 2) 2 rfl rfl dX5_costBy_11 ?_
    refine xj_callSU kp_X5_7 (c_X4_costBy l (d + 0) b said cell _) (As := [.int said, .int cell]) (st := []) hb hq (ci := ci) hc rfl rfl (xRm_of (by omega) (by decide) (by omega) (by omega)) (Nat.le_of_ble_eq_true rfl) dX5_costBy_12 (yk_p (kc := 0) (ks := 0) ?_)
    exact xj_ireturn rfl (nr_i _) (Nat.zero_le _) (Nat.zero_le _) dX5_costBy_15 (qP_e (by first | exact (if_neg (by simp only [i32_lt, i32_le] at *; omega)).symm | exact (if_pos (by simp only [i32_lt, i32_le] at *; omega)).symm))
  · refine xj_iconst (v := 5) (by decide) dX5_costBy_5 ?_
    refine xj_goto (tgt := 15) (by decide) dX5_costBy_6 ?_
    exact xj_ireturn rfl (nr_i _) (Nat.zero_le _) (Nat.zero_le _) dX5_costBy_15 (qP_e (by first | exact (if_neg (by simp only [i32_lt, i32_le] at *; omega)).symm | exact (if_pos (by simp only [i32_lt, i32_le] at *; omega)).symm))
set_option maxHeartbeats 4000000 in
set_option maxRecDepth 100000 in
theorem c_X0_dullerBy (l : Launch) (d : Nat) (b : Nat) (said cell more night : Int32) (h : xH) (hb : b < h.1) (ci : Nat) (fs : List Value) (hq : h.2 b = .inr (.inr (ci, fs))) (z : vw_C) (hc : vwCl[ci]? = some z) : xC l yX0_dullerBy cX0_dullerBy 5 (some .int) (xR (d + 2) 0 0) [.ref b, .int said, .int cell, .int more, .int night] h (qP ((if hasF 36873 cell = true then 2 * said else said) + more) h) := by
  refine xC_of false (by decide +kernel) (fun z => by cases z) (Nat.le_of_ble_eq_true rfl) ?_
  show xJ l (RX0, 5, (some .int), false, (xR (d + 2) 0 0), none) cX0_dullerBy _ 0 0 0 [(0, .ref b), (1, .int said), (2, .int cell), (3, .int more), (4, .int night)] [] h
  refine xj_aload_n (n := 0) (i := 0) 0 rfl rfl dX0_dullerBy_0 ?_
  refine xj_iload_n (n := 1) (i := 1) 1 rfl rfl dX0_dullerBy_1 ?_
  refine xj_iload_n (n := 2) (i := 2) 2 rfl rfl dX0_dullerBy_2 ?_
  refine xj_iload_n (n := 3) (i := 3) 3 rfl rfl dX0_dullerBy_3 ?_
  refine xj_iload (i := 4) 4 rfl dX0_dullerBy_4 ?_
  refine xj_callSU kp_X0_9 (c_X6_dullerBy l (d + 0) b said cell more night _) (As := [.int said, .int cell, .int more, .int night]) (st := []) hb hq (ci := ci) hc rfl rfl (xRm_of (by omega) (by decide) (by omega) (by omega)) (Nat.le_of_ble_eq_true rfl) dX0_dullerBy_6 (yk_p (kc := 0) (ks := 0) ?_)
  refine xj_iload_n (n := 3) (i := 3) 3 rfl rfl dX0_dullerBy_9 ?_
  refine xj_iadd dX0_dullerBy_10 ?_
  exact xj_ireturn rfl (nr_i _) (Nat.zero_le _) (Nat.zero_le _) dX0_dullerBy_11 (qP_e (rfl))
theorem yj_limitBy {l : Launch} {D own2 : Nat} {M : xM} {cc : ByteArray} {Q : Option Value → xH → Prop} {kc ks pc : Nat} {lv : List (Nat × Value)} {st : List Value} {n : Nat} {g : xG} (k : Nat) (said cell more : Int32) (hk : k < 6) (hn : 110 ≤ n) (hM : M.1 = RX7) (hR : M.2.2.2.2.1 = xR (D + 2) 0 0) (hkc : kc = 0) (hks : ks = 0) (hst : (st.map fun v => v.category).sum ≤ 8) (hd : decode cc pc = .ok (.invokevirtual 67, 3)) (kk : xJ l M cc Q kc ks (pc + 3) lv (.int (kLimit k said cell more) :: st) (n, fh g)) : xJ l M cc Q kc ks pc lv (.int more :: .int cell :: .int said :: .ref (2 + k) :: st) (n, fh g) := by
  subst hkc; subst hks
  rcases (show k = 0 ∨ k = 1 ∨ k = 2 ∨ k = 3 ∨ k = 4 ∨ k = 5 by omega) with rfl | rfl | rfl | rfl | rfl | rfl
  · refine xj_callU (n := 3) (by rw [hM]; exact ku_X7_67_4) (c_X4_limitBy l (D + 1) 2 said cell more _) (As := [.int said, .int cell, .int more]) (st := st) (by show 2 < n; omega) (fq_2 g) (ci := 4) rfl rfl rfl rfl ?_ hst hd (yk_p kk)
    rw [hR]; exact xRm_of (by omega) (by decide) (by omega) (by omega)
  · refine xj_callU (n := 3) (by rw [hM]; exact ku_X7_67_6) (c_X4_limitBy l (D + 1) 3 said cell more _) (As := [.int said, .int cell, .int more]) (st := st) (by show 3 < n; omega) (fq_3 g) (ci := 6) rfl rfl rfl rfl ?_ hst hd (yk_p kk)
    rw [hR]; exact xRm_of (by omega) (by decide) (by omega) (by omega)
  · refine xj_callU (n := 3) (by rw [hM]; exact ku_X7_67_1) (c_X1_limitBy l (D + 1) 4 said cell more _) (As := [.int said, .int cell, .int more]) (st := st) (by show 4 < n; omega) (fq_4 g) (ci := 1) rfl rfl rfl rfl ?_ hst hd (yk_p kk)
    rw [hR]; exact xRm_of (by omega) (by decide) (by omega) (by omega)
  · refine xj_callU (n := 3) (by rw [hM]; exact ku_X7_67_0) (c_X0_limitBy l (D + 0) 5 said cell more _) (As := [.int said, .int cell, .int more]) (st := st) (by show 5 < n; omega) (fq_5 g) (ci := 0) rfl rfl rfl rfl ?_ hst hd (yk_p kk)
    rw [hR]; exact xRm_of (by omega) (by decide) (by omega) (by omega)
  · refine xj_callU (n := 3) (by rw [hM]; exact ku_X7_67_2) (c_X1_limitBy l (D + 1) 6 said cell more _) (As := [.int said, .int cell, .int more]) (st := st) (by show 6 < n; omega) (fq_6 g) (ci := 2) rfl rfl rfl rfl ?_ hst hd (yk_p kk)
    rw [hR]; exact xRm_of (by omega) (by decide) (by omega) (by omega)
  · refine xj_callU (n := 3) (by rw [hM]; exact ku_X7_67_5) (c_X4_limitBy l (D + 1) 7 said cell more _) (As := [.int said, .int cell, .int more]) (st := st) (by show 7 < n; omega) (fq_7 g) (ci := 5) rfl rfl rfl rfl ?_ hst hd (yk_p kk)
    rw [hR]; exact xRm_of (by omega) (by decide) (by omega) (by omega)
theorem yj_costBy {l : Launch} {D own2 : Nat} {M : xM} {cc : ByteArray} {Q : Option Value → xH → Prop} {kc ks pc : Nat} {lv : List (Nat × Value)} {st : List Value} {n : Nat} {g : xG} (k : Nat) (said cell : Int32) (hk : k < 6) (hn : 110 ≤ n) (hM : M.1 = RX7) (hR : M.2.2.2.2.1 = xR (D + 3) 0 0) (hkc : kc = 0) (hks : ks = 0) (hst : (st.map fun v => v.category).sum ≤ 8) (hd : decode cc pc = .ok (.invokevirtual 54, 3)) (kk : xJ l M cc Q kc ks (pc + 3) lv (.int (kCost k said cell) :: st) (n, fh g)) : xJ l M cc Q kc ks pc lv (.int cell :: .int said :: .ref (2 + k) :: st) (n, fh g) := by
  subst hkc; subst hks
  rcases (show k = 0 ∨ k = 1 ∨ k = 2 ∨ k = 3 ∨ k = 4 ∨ k = 5 by omega) with rfl | rfl | rfl | rfl | rfl | rfl
  · refine xj_callU (n := 2) (by rw [hM]; exact ku_X7_54_4) (c_X4_costBy l (D + 2) 2 said cell _) (As := [.int said, .int cell]) (st := st) (by show 2 < n; omega) (fq_2 g) (ci := 4) rfl rfl rfl rfl ?_ hst hd (yk_p kk)
    rw [hR]; exact xRm_of (by omega) (by decide) (by omega) (by omega)
  · refine xj_callU (n := 2) (by rw [hM]; exact ku_X7_54_6) (c_X4_costBy l (D + 2) 3 said cell _) (As := [.int said, .int cell]) (st := st) (by show 3 < n; omega) (fq_3 g) (ci := 6) rfl rfl rfl rfl ?_ hst hd (yk_p kk)
    rw [hR]; exact xRm_of (by omega) (by decide) (by omega) (by omega)
  · refine xj_callU (n := 2) (by rw [hM]; exact ku_X7_54_1) (c_X1_costBy l (D + 1) 4 said cell _ (by show 4 < n; omega) 1 [.int 2] (fq_4 g) _ rfl) (As := [.int said, .int cell]) (st := st) (by show 4 < n; omega) (fq_4 g) (ci := 1) rfl rfl rfl rfl ?_ hst hd (yk_p kk)
    rw [hR]; exact xRm_of (by omega) (by decide) (by omega) (by omega)
  · refine xj_callU (n := 2) (by rw [hM]; exact ku_X7_54_0) (c_X4_costBy l (D + 2) 5 said cell _) (As := [.int said, .int cell]) (st := st) (by show 5 < n; omega) (fq_5 g) (ci := 0) rfl rfl rfl rfl ?_ hst hd (yk_p kk)
    rw [hR]; exact xRm_of (by omega) (by decide) (by omega) (by omega)
  · refine xj_callU (n := 2) (by rw [hM]; exact ku_X7_54_2) (c_X2_costBy l (D + 0) 6 said cell _ (by show 6 < n; omega) 2 [.int 4] (fq_6 g) _ rfl) (As := [.int said, .int cell]) (st := st) (by show 6 < n; omega) (fq_6 g) (ci := 2) rfl rfl rfl rfl ?_ hst hd (yk_p kk)
    rw [hR]; exact xRm_of (by omega) (by decide) (by omega) (by omega)
  · refine xj_callU (n := 2) (by rw [hM]; exact ku_X7_54_5) (c_X5_costBy l (D + 1) 7 said cell _ (by show 7 < n; omega) 5 [.int 5] (fq_7 g) _ rfl) (As := [.int said, .int cell]) (st := st) (by show 7 < n; omega) (fq_7 g) (ci := 5) rfl rfl rfl rfl ?_ hst hd (yk_p kk)
    rw [hR]; exact xRm_of (by omega) (by decide) (by omega) (by omega)
theorem yj_dullerBy {l : Launch} {D own2 : Nat} {M : xM} {cc : ByteArray} {Q : Option Value → xH → Prop} {kc ks pc : Nat} {lv : List (Nat × Value)} {st : List Value} {n : Nat} {g : xG} (k : Nat) (said cell more night : Int32) (hk : k < 6) (hn : 110 ≤ n) (hM : M.1 = RX7) (hR : M.2.2.2.2.1 = xR (D + 3) 0 0) (hkc : kc = 0) (hks : ks = 0) (hst : (st.map fun v => v.category).sum ≤ 8) (hd : decode cc pc = .ok (.invokevirtual 79, 3)) (kk : xJ l M cc Q kc ks (pc + 3) lv (.int (kDull k said cell more night) :: st) (n, fh g)) : xJ l M cc Q kc ks pc lv (.int night :: .int more :: .int cell :: .int said :: .ref (2 + k) :: st) (n, fh g) := by
  subst hkc; subst hks
  rcases (show k = 0 ∨ k = 1 ∨ k = 2 ∨ k = 3 ∨ k = 4 ∨ k = 5 by omega) with rfl | rfl | rfl | rfl | rfl | rfl
  · refine xj_callU (n := 4) (by rw [hM]; exact ku_X7_79_4) (c_X4_dullerBy l (D + 2) 2 said cell more night _) (As := [.int said, .int cell, .int more, .int night]) (st := st) (by show 2 < n; omega) (fq_2 g) (ci := 4) rfl rfl rfl rfl ?_ hst hd (yk_p kk)
    rw [hR]; exact xRm_of (by omega) (by decide) (by omega) (by omega)
  · refine xj_callU (n := 4) (by rw [hM]; exact ku_X7_79_6) (c_X6_dullerBy l (D + 1) 3 said cell more night _) (As := [.int said, .int cell, .int more, .int night]) (st := st) (by show 3 < n; omega) (fq_3 g) (ci := 6) rfl rfl rfl rfl ?_ hst hd (yk_p kk)
    rw [hR]; exact xRm_of (by omega) (by decide) (by omega) (by omega)
  · refine xj_callU (n := 4) (by rw [hM]; exact ku_X7_79_1) (c_X4_dullerBy l (D + 2) 4 said cell more night _) (As := [.int said, .int cell, .int more, .int night]) (st := st) (by show 4 < n; omega) (fq_4 g) (ci := 1) rfl rfl rfl rfl ?_ hst hd (yk_p kk)
    rw [hR]; exact xRm_of (by omega) (by decide) (by omega) (by omega)
  · refine xj_callU (n := 4) (by rw [hM]; exact ku_X7_79_0) (c_X0_dullerBy l (D + 0) 5 said cell more night _ (by show 5 < n; omega) 0 [.int 3] (fq_5 g) _ rfl) (As := [.int said, .int cell, .int more, .int night]) (st := st) (by show 5 < n; omega) (fq_5 g) (ci := 0) rfl rfl rfl rfl ?_ hst hd (yk_p kk)
    rw [hR]; exact xRm_of (by omega) (by decide) (by omega) (by omega)
  · refine xj_callU (n := 4) (by rw [hM]; exact ku_X7_79_2) (c_X2_dullerBy l (D + 2) 6 said cell more night _) (As := [.int said, .int cell, .int more, .int night]) (st := st) (by show 6 < n; omega) (fq_6 g) (ci := 2) rfl rfl rfl rfl ?_ hst hd (yk_p kk)
    rw [hR]; exact xRm_of (by omega) (by decide) (by omega) (by omega)
  · refine xj_callU (n := 4) (by rw [hM]; exact ku_X7_79_5) (c_X5_dullerBy l (D + 2) 7 said cell more night _) (As := [.int said, .int cell, .int more, .int night]) (st := st) (by show 7 < n; omega) (fq_7 g) (ci := 5) rfl rfl rfl rfl ?_ hst hd (yk_p kk)
    rw [hR]; exact xRm_of (by omega) (by decide) (by omega) (by omega)
