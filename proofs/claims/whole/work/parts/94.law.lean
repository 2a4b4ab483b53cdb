set_option maxHeartbeats 4000000 in
set_option maxRecDepth 100000 in
theorem law_J (l : Launch) (L : Nat) (xs : Nat → Int32) (hL : L ≤ 3584) : xJ l (RL, 4, (some .boolean), false, room_1, some (L, xs)) cL_law (fun v _ => v = some (.int 1)) 0 0 0 [(0, .ref (xN + 3))] [] (hR []) := by
  refine lj_new (ci := 11) (Cn := RX11) (T := TX11) (N := 14) (tf := tyX11) (fs := [.null, .null, .null, .null, .null, .null, .null, .null, .null, .int 0, .int 0, .int 0, .int 0, .int 0]) (k := 0) rfl rfl xin_11 tyX11_ok (ball_s (ball_s (ball_s (ball_s (ball_s (ball_s (ball_s (ball_s (ball_s (ball_s (ball_s (ball_s (ball_s (ball_s (ball_0 _) rfl) rfl) rfl) rfl) rfl) rfl) rfl) rfl) rfl) rfl) rfl) rfl) rfl) rfl) (fun _ => rfl) cl_L_7 xw78 xw56 (Nat.le_of_ble_eq_true rfl) (Nat.le_of_ble_eq_true rfl) (Nat.le_of_ble_eq_true rfl) dL_law_0 ?_
  refine xj_dup rfl dL_law_3 ?_
  refine xj_callI ki_L_9 (c_X11_init l 0) (As := []) (st := [.ref 0]) rfl rfl ⟨Nat.le_of_ble_eq_true rfl, Nat.le_of_ble_eq_true rfl, Nat.le_of_ble_eq_true rfl, Nat.le_of_ble_eq_true rfl⟩ (Nat.le_of_ble_eq_true rfl) dL_law_4 (fun v h1 hp => ?_)
  obtain ⟨rfl, rfl⟩ := hp
  refine xj_astore_n (n := 1) (i := 1) (lv1 := [(1, .ref 0), (0, .ref (xN + 3))]) rfl rfl (Nat.le_of_ble_eq_true rfl) dL_law_7 ?_
  refine lj_new (ci := 12) (Cn := RX12) (T := TX12) (N := 41) (tf := tyX12) (fs := [.int 0, .null, .null, .null, .null, .int 0, .int 0, .null, .int 0, .null, .null, .int 0, .int 0, .int 0, .null, .null, .null, .null, .null, .null, .null, .int 0, .int 0, .int 0, .int 0, .null, .null, .int 0, .int 0, .int 0, .null, .null, .null, .int 0, .int 0, .int 0, .int 0, .null, .null, .null, .null]) (k := 86) rfl rfl xin_12 tyX12_ok (ball_s (ball_s (ball_s (ball_s (ball_s (ball_s (ball_s (ball_s (ball_s (ball_s (ball_s (ball_s (ball_s (ball_s (ball_s (ball_s (ball_s (ball_s (ball_s (ball_s (ball_s (ball_s (ball_s (ball_s (ball_s (ball_s (ball_s (ball_s (ball_s (ball_s (ball_s (ball_s (ball_s (ball_s (ball_s (ball_s (ball_s (ball_s (ball_s (ball_s (ball_s (ball_0 _) rfl) rfl) rfl) rfl) rfl) rfl) rfl) rfl) rfl) rfl) rfl) rfl) rfl) rfl) rfl) rfl) rfl) rfl) rfl) rfl) rfl) rfl) rfl) rfl) rfl) rfl) rfl) rfl) rfl) rfl) rfl) rfl) rfl) rfl) rfl) rfl) rfl) rfl) rfl) rfl) rfl) (fun _ => rfl) cl_L_10 xw818 xw68 (Nat.le_of_ble_eq_true rfl) (Nat.le_of_ble_eq_true rfl) (Nat.le_of_ble_eq_true rfl) dL_law_8 ?_
  refine xj_dup rfl dL_law_11 ?_
  refine xj_callI ki_L_12 (c_X12_init l 0) (As := []) (st := [.ref 86]) rfl rfl ⟨Nat.le_of_ble_eq_true rfl, Nat.le_of_ble_eq_true rfl, Nat.le_of_ble_eq_true rfl, Nat.le_of_ble_eq_true rfl⟩ (Nat.le_of_ble_eq_true rfl) dL_law_12 (fun v h1 hp => ?_)
  obtain ⟨rfl, g1, rfl, CA, MA⟩ := hp
  refine xj_astore_n (n := 2) (i := 2) (lv1 := [(2, .ref 86), (1, .ref 0), (0, .ref (xN + 3))]) rfl rfl (Nat.le_of_ble_eq_true rfl) dL_law_15 ?_
  refine xj_iconst (v := 0) (by decide) dL_law_16 ?_
  refine xj_top (show (0 : Int32) = nI 0 from rfl) ?_
  refine xj_istore_n (n := 3) (i := 3) (lv1 := [(3, .int (nI 0)), (2, .ref 86), (1, .ref 0), (0, .ref (xN + 3))]) rfl rfl (Nat.le_of_ble_eq_true rfl) dL_law_17 ?_
  refine xj_sub (lv' := [(3, .int (nI 0)), (0, .ref (xN + 3)), (1, .ref 0), (2, .ref 86)]) [0, 3, 2, 1] rfl ?_
  exact law_turns l L xs hL 512 0 110 _ _ A01 L01 g1 okA01 CA MA (Nat.zero_le _) (by omega) (Nat.le_of_ble_eq_true rfl) (Nat.le_of_ble_eq_true rfl)
