set_option maxHeartbeats 4000000 in
theorem c_X4_init (l : Launch) (d : Nat) (L : List xE) (ci : Nat) (F4 : xFl RX4 7 ci 0 (.int) true) (hd : ∀ x : vw_C, vwCl[ci]? = some x → (x.2.1 0).1 = RX4) (k : Int32) : xC l yX4_init cX4_init 2 none (xR (d + 1) 0 0) [.ref L.length, .int k] (hR (.inr (.inr (ci, [.int 0])) :: L)) (fun r h1 => r = none ∧ h1 = hR (.inr (.inr (ci, [.int k])) :: L)) := by
  refine xC_of true (by decide +kernel) (fun z => rfl) (Nat.le_of_ble_eq_true rfl) ?_
  show xJ l (RX4, 2, none, true, (xR (d + 1) 0 0), none) cX4_init _ 0 0 0 [(0, .ref L.length), (1, .int k)] [] _
  refine xj_aload_n (n := 0) (i := 0) 0 rfl rfl dX4_init_0 ?_
  refine xj_objInit xw91 xw83 xw84 (Nat.le_of_ble_eq_true rfl) ⟨by show 1 ≤ d + 1; omega, by show 20 ≤ 40 * (d + 1); omega⟩ dX4_init_1 ?_
  refine xj_aload_n (n := 0) (i := 0) 0 rfl rfl dX4_init_4 ?_
  refine xj_iload_n (n := 1) (i := 1) 1 rfl rfl dX4_init_5 ?_
  refine lj_putF (L' := .inr (.inr (ci, [.int k])) :: L) (i := 0) F4 rfl hd rfl rfl rfl (fun _ => ⟨rfl, rfl⟩) (Nat.le_of_ble_eq_true rfl) dX4_init_6 ?_
  exact xj_return rfl (Nat.zero_le _) (Nat.zero_le _) dX4_init_9 ⟨rfl, rfl⟩
set_option maxHeartbeats 4000000 in
theorem c_X6_init (l : Launch) (d : Nat) (L : List xE) (ci : Nat) (F4 : xFl RX4 7 ci 0 (.int) true) (hd : ∀ x : vw_C, vwCl[ci]? = some x → (x.2.1 0).1 = RX4) (k : Int32) : xC l yX6_init cX6_init 2 none (xR (d + 2) 0 0) [.ref L.length, .int k] (hR (.inr (.inr (ci, [.int 0])) :: L)) (fun r h1 => r = none ∧ h1 = hR (.inr (.inr (ci, [.int k])) :: L)) := by
  refine xC_of true (by decide +kernel) (fun z => rfl) (Nat.le_of_ble_eq_true rfl) ?_
  show xJ l (RX6, 2, none, true, (xR (d + 2) 0 0), none) cX6_init _ 0 0 0 [(0, .ref L.length), (1, .int k)] [] _
  refine xj_aload_n (n := 0) (i := 0) 0 rfl rfl dX6_init_0 ?_
  refine xj_iload_n (n := 1) (i := 1) 1 rfl rfl dX6_init_1 ?_
  refine xj_callI ki_X6_3 (c_X4_init l d L ci F4 hd k) (As := [.int k]) (st := []) rfl rfl (xRm_of (by omega) (by decide) (Nat.le_refl 0) (Nat.le_refl 0)) (Nat.le_of_ble_eq_true rfl) dX6_init_2 (fun v h1 hp => ?_)
  obtain ⟨rfl, rfl⟩ := hp
  exact xj_return rfl (Nat.zero_le _) (Nat.zero_le _) dX6_init_5 ⟨rfl, rfl⟩
set_option maxHeartbeats 4000000 in
theorem c_X1_init (l : Launch) (d : Nat) (L : List xE) (ci : Nat) (F4 : xFl RX4 7 ci 0 (.int) true) (hd : ∀ x : vw_C, vwCl[ci]? = some x → (x.2.1 0).1 = RX4) (k : Int32) : xC l yX1_init cX1_init 2 none (xR (d + 2) 0 0) [.ref L.length, .int k] (hR (.inr (.inr (ci, [.int 0])) :: L)) (fun r h1 => r = none ∧ h1 = hR (.inr (.inr (ci, [.int k])) :: L)) := by
  refine xC_of true (by decide +kernel) (fun z => rfl) (Nat.le_of_ble_eq_true rfl) ?_
  show xJ l (RX1, 2, none, true, (xR (d + 2) 0 0), none) cX1_init _ 0 0 0 [(0, .ref L.length), (1, .int k)] [] _
  refine xj_aload_n (n := 0) (i := 0) 0 rfl rfl dX1_init_0 ?_
  refine xj_iload_n (n := 1) (i := 1) 1 rfl rfl dX1_init_1 ?_
  refine xj_callI ki_X1_3 (c_X4_init l d L ci F4 hd k) (As := [.int k]) (st := []) rfl rfl (xRm_of (by omega) (by decide) (Nat.le_refl 0) (Nat.le_refl 0)) (Nat.le_of_ble_eq_true rfl) dX1_init_2 (fun v h1 hp => ?_)
  obtain ⟨rfl, rfl⟩ := hp
  exact xj_return rfl (Nat.zero_le _) (Nat.zero_le _) dX1_init_5 ⟨rfl, rfl⟩
set_option maxHeartbeats 4000000 in
theorem c_X5_init (l : Launch) (d : Nat) (L : List xE) (ci : Nat) (F4 : xFl RX4 7 ci 0 (.int) true) (hd : ∀ x : vw_C, vwCl[ci]? = some x → (x.2.1 0).1 = RX4) (k : Int32) : xC l yX5_init cX5_init 2 none (xR (d + 2) 0 0) [.ref L.length, .int k] (hR (.inr (.inr (ci, [.int 0])) :: L)) (fun r h1 => r = none ∧ h1 = hR (.inr (.inr (ci, [.int k])) :: L)) := by
  refine xC_of true (by decide +kernel) (fun z => rfl) (Nat.le_of_ble_eq_true rfl) ?_
  show xJ l (RX5, 2, none, true, (xR (d + 2) 0 0), none) cX5_init _ 0 0 0 [(0, .ref L.length), (1, .int k)] [] _
  refine xj_aload_n (n := 0) (i := 0) 0 rfl rfl dX5_init_0 ?_
  refine xj_iload_n (n := 1) (i := 1) 1 rfl rfl dX5_init_1 ?_
  refine xj_callI ki_X5_1 (c_X4_init l d L ci F4 hd k) (As := [.int k]) (st := []) rfl rfl (xRm_of (by omega) (by decide) (Nat.le_refl 0) (Nat.le_refl 0)) (Nat.le_of_ble_eq_true rfl) dX5_init_2 (fun v h1 hp => ?_)
  obtain ⟨rfl, rfl⟩ := hp
  exact xj_return rfl (Nat.zero_le _) (Nat.zero_le _) dX5_init_5 ⟨rfl, rfl⟩
set_option maxHeartbeats 4000000 in
theorem c_X0_init (l : Launch) (d : Nat) (L : List xE) (ci : Nat) (F4 : xFl RX4 7 ci 0 (.int) true) (hd : ∀ x : vw_C, vwCl[ci]? = some x → (x.2.1 0).1 = RX4) (k : Int32) : xC l yX0_init cX0_init 2 none (xR (d + 3) 0 0) [.ref L.length, .int k] (hR (.inr (.inr (ci, [.int 0])) :: L)) (fun r h1 => r = none ∧ h1 = hR (.inr (.inr (ci, [.int k])) :: L)) := by
  refine xC_of true (by decide +kernel) (fun z => rfl) (Nat.le_of_ble_eq_true rfl) ?_
  show xJ l (RX0, 2, none, true, (xR (d + 3) 0 0), none) cX0_init _ 0 0 0 [(0, .ref L.length), (1, .int k)] [] _
  refine xj_aload_n (n := 0) (i := 0) 0 rfl rfl dX0_init_0 ?_
  refine xj_iload_n (n := 1) (i := 1) 1 rfl rfl dX0_init_1 ?_
  refine xj_callI ki_X0_3 (c_X6_init l d L ci F4 hd k) (As := [.int k]) (st := []) rfl rfl (xRm_of (by omega) (by decide) (Nat.le_refl 0) (Nat.le_refl 0)) (Nat.le_of_ble_eq_true rfl) dX0_init_2 (fun v h1 hp => ?_)
  obtain ⟨rfl, rfl⟩ := hp
  exact xj_return rfl (Nat.zero_le _) (Nat.zero_le _) dX0_init_5 ⟨rfl, rfl⟩
set_option maxHeartbeats 4000000 in
theorem c_X2_init (l : Launch) (d : Nat) (L : List xE) (ci : Nat) (F4 : xFl RX4 7 ci 0 (.int) true) (hd : ∀ x : vw_C, vwCl[ci]? = some x → (x.2.1 0).1 = RX4) (k : Int32) : xC l yX2_init cX2_init 2 none (xR (d + 3) 0 0) [.ref L.length, .int k] (hR (.inr (.inr (ci, [.int 0])) :: L)) (fun r h1 => r = none ∧ h1 = hR (.inr (.inr (ci, [.int k])) :: L)) := by
  refine xC_of true (by decide +kernel) (fun z => rfl) (Nat.le_of_ble_eq_true rfl) ?_
  show xJ l (RX2, 2, none, true, (xR (d + 3) 0 0), none) cX2_init _ 0 0 0 [(0, .ref L.length), (1, .int k)] [] _
  refine xj_aload_n (n := 0) (i := 0) 0 rfl rfl dX2_init_0 ?_
  refine xj_iload_n (n := 1) (i := 1) 1 rfl rfl dX2_init_1 ?_
  refine xj_callI ki_X2_1 (c_X1_init l d L ci F4 hd k) (As := [.int k]) (st := []) rfl rfl (xRm_of (by omega) (by decide) (Nat.le_refl 0) (Nat.le_refl 0)) (Nat.le_of_ble_eq_true rfl) dX2_init_2 (fun v h1 hp => ?_)
  obtain ⟨rfl, rfl⟩ := hp
  exact xj_return rfl (Nat.zero_le _) (Nat.zero_le _) dX2_init_5 ⟨rfl, rfl⟩
set_option maxHeartbeats 4000000 in
theorem c_X3_init (l : Launch) (d : Nat) (q i a : Nat) (Lf : xE → List xE) (hlen : ∀ e, (Lf e).length = q + i + 1) (hget : ∀ e, (Lf e)[i]? = some e) (hset : ∀ e e', (Lf e).set i e' = Lf e') : xC l yX3_init cX3_init 2 none (xR (d + 1) 0 0) [.ref q, .ref a] (hR (Lf (.inr (.inr (3, [.int 0, .int 0, .int 0, .int 0, .null]))))) (fun r h1 => r = none ∧ h1 = hR (Lf (.inr (.inr (3, [.int (-1), .int 0, .int 0, .int 0, .ref a]))))) := by
  refine xC_of true (by decide +kernel) (fun z => rfl) (Nat.le_of_ble_eq_true rfl) ?_
  show xJ l (RX3, 2, none, true, (xR (d + 1) 0 0), none) cX3_init _ 0 0 0 [(0, .ref q), (1, .ref a)] [] _
  refine xj_aload_n (n := 0) (i := 0) 0 rfl rfl dX3_init_0 ?_
  refine xj_objInit xw173 xw83 xw84 (Nat.le_of_ble_eq_true rfl) ⟨by show 1 ≤ d + 1; omega, by show 20 ≤ 40 * (d + 1); omega⟩ dX3_init_1 ?_
  refine xj_aload_n (n := 0) (i := 0) 0 rfl rfl dX3_init_4 ?_
  refine xj_iconst (v := (-1)) (by decide) dX3_init_5 ?_
  refine lj_putf fl_X3_9_3 (hlen _) (hget _) (hset _ _) (fun _ => ⟨rfl, rfl⟩) (Nat.le_of_ble_eq_true rfl) dX3_init_6 ?_
  refine xj_aload_n (n := 0) (i := 0) 0 rfl rfl dX3_init_9 ?_
  refine xj_iconst (v := 0) (by decide) dX3_init_10 ?_
  refine lj_putf fl_X3_15_3 (hlen _) (hget _) (hset _ _) (fun _ => ⟨rfl, rfl⟩) (Nat.le_of_ble_eq_true rfl) dX3_init_11 ?_
  refine xj_aload_n (n := 0) (i := 0) 0 rfl rfl dX3_init_14 ?_
  refine xj_iconst (v := 0) (by decide) dX3_init_15 ?_
  refine lj_putf fl_X3_18_3 (hlen _) (hget _) (hset _ _) (fun _ => ⟨rfl, rfl⟩) (Nat.le_of_ble_eq_true rfl) dX3_init_16 ?_
  refine xj_aload_n (n := 0) (i := 0) 0 rfl rfl dX3_init_19 ?_
  refine xj_iconst (v := 0) (by decide) dX3_init_20 ?_
  refine lj_putf fl_X3_21_3 (hlen _) (hget _) (hset _ _) (fun _ => ⟨rfl, rfl⟩) (Nat.le_of_ble_eq_true rfl) dX3_init_21 ?_
  refine xj_aload_n (n := 0) (i := 0) 0 rfl rfl dX3_init_24 ?_
  refine xj_aload_n (n := 1) (i := 1) 1 rfl rfl dX3_init_25 ?_
  refine lj_putF fl_X3_24_3 rfl (fun x e => by cases e; rfl) (hlen _) (hget _) (hset _ _) (fun _ => ⟨rfl, rfl⟩) (Nat.le_of_ble_eq_true rfl) dX3_init_26 ?_
  exact xj_return rfl (Nat.zero_le _) (Nat.zero_le _) dX3_init_29 ⟨rfl, rfl⟩
set_option maxHeartbeats 4000000 in
set_option maxRecDepth 100000 in
theorem c_X11_newPanes (l : Launch) (d : Nat) (L : List xE) (kk : Nat) (hx : L.length + 20 ≤ xN)  : xC l yX11_newPanes cX11_newPanes 3 (some (.array (.object "DreamWindows$Pane"))) (xR (d + 2) 19 168) [.ref kk] (hR (L)) (fun r h1 => r = some (.ref L.length) ∧ h1 = (hR ((.inl (6, (fun _ => 0))) :: (.inl (16, (fun _ => 0))) :: (.inr (.inr (7, [.ref kk, .int 0, .int 0, .ref (L.length + 17), .ref (L.length + 18)]))) :: (.inl (6, (fun _ => 0))) :: (.inl (16, (fun _ => 0))) :: (.inr (.inr (7, [.ref kk, .int 0, .int 0, .ref (L.length + 14), .ref (L.length + 15)]))) :: (.inl (6, (fun _ => 0))) :: (.inl (16, (fun _ => 0))) :: (.inr (.inr (7, [.ref kk, .int 0, .int 0, .ref (L.length + 11), .ref (L.length + 12)]))) :: (.inl (6, (fun _ => 0))) :: (.inl (16, (fun _ => 0))) :: (.inr (.inr (7, [.ref kk, .int 0, .int 0, .ref (L.length + 8), .ref (L.length + 9)]))) :: (.inl (6, (fun _ => 0))) :: (.inl (16, (fun _ => 0))) :: (.inr (.inr (7, [.ref kk, .int 0, .int 0, .ref (L.length + 5), .ref (L.length + 6)]))) :: (.inl (6, (fun _ => 0))) :: (.inl (16, (fun _ => 0))) :: (.inr (.inr (7, [.ref kk, .int 0, .int 0, .ref (L.length + 2), .ref (L.length + 3)]))) :: (.inr (.inl (2, 6, (va_up (va_up (va_up (va_up (va_up (va_up (fun _ => none) 0 (some (L.length + 1))) 1 (some (L.length + 4))) 2 (some (L.length + 7))) 3 (some (L.length + 10))) 4 (some (L.length + 13))) 5 (some (L.length + 16)))))) :: L))) := by
  refine xC_of false (by decide +kernel) (fun z => by cases z) (Nat.le_of_ble_eq_true rfl) ?_
  show xJ l (RX11, 3, (some (.array (.object "DreamWindows$Pane"))), false, (xR (d + 2) 19 168), none) cX11_newPanes _ 0 0 0 [(0, .ref kk)] [] (hR (L))
  refine xj_bipush (v := 6) (by decide) dX11_newPanes_0 ?_
  refine lj_newq (N := 6) (t := 2) (k := L.length) rfl (by decide) (by decide) (by decide) rfl (by decide) cl_X11_99 (by omega) (Nat.le_of_ble_eq_true rfl) (Nat.le_of_ble_eq_true rfl) dX11_newPanes_2 ?_
  refine xj_astore_n (n := 1) (i := 1) (lv1 := [(1, .ref L.length), (0, .ref kk)]) rfl rfl (Nat.le_of_ble_eq_true rfl) dX11_newPanes_5 ?_
  refine xj_iconst (v := 0) (by decide) dX11_newPanes_6 ?_
  refine xj_top (show 0 = nI 0 from rfl) ?_
  refine xj_istore_n (n := 2) (i := 2) (lv1 := [(2, .int (nI 0)), (1, .ref L.length), (0, .ref kk)]) rfl rfl (Nat.le_of_ble_eq_true rfl) dX11_newPanes_7 ?_
  refine xj_iload_n (n := 2) (i := 2) 0 rfl rfl dX11_newPanes_8 ?_
  refine xj_bipush (v := 6) (by decide) dX11_newPanes_9 ?_
  refine xj_icmp_ge (tgt := 31) (by decide) dX11_newPanes_11 (fun zc11 => ?_) (fun zc11 => ?_)
  · exact absurd zc11 (by decide)
  · refine xj_aload_n (n := 1) (i := 1) 1 rfl rfl dX11_newPanes_14 ?_
    refine xj_iload_n (n := 2) (i := 2) 0 rfl rfl dX11_newPanes_15 ?_
    refine lj_new (ci := 7) (Cn := RX7) (T := TX7) (N := 5) (tf := tyX7) (fs := [.null, .int 0, .int 0, .null, .null]) (k := (L.length + 1)) rfl rfl xin_7 tyX7_ok (fun j hj => by match j, hj with | 0, _ => rfl | 1, _ => rfl | 2, _ => rfl | 3, _ => rfl | 4, _ => rfl) (fun _ => rfl) cl_X11_99 xw142 xw63 (by omega) (Nat.le_of_ble_eq_true rfl) (Nat.le_of_ble_eq_true rfl) dX11_newPanes_16 ?_
    refine xj_dup rfl dX11_newPanes_19 ?_
    refine xj_aload_n (n := 0) (i := 0) 2 rfl rfl dX11_newPanes_20 ?_
    refine xj_callI ki_X11_101 (c_X7_init l (d + 0) ((.inr (.inl (2, 6, (fun _ => none)))) :: L) kk (by simp only [List.length_cons]; omega)) (As := [.ref kk]) (st := [.ref (L.length + 1), .int (nI 0), .ref L.length]) rfl rfl (xRm_of (by omega) (by decide) (Nat.le_of_ble_eq_true rfl) (Nat.le_of_ble_eq_true rfl)) (Nat.le_of_ble_eq_true rfl) dX11_newPanes_21 (fun v h1 hp => ?_)
    obtain ⟨rfl, rfl⟩ := hp
    refine lj_aast (L' := ((.inl (6, (fun _ => 0))) :: (.inl (16, (fun _ => 0))) :: (.inr (.inr (7, [.ref kk, .int 0, .int 0, .ref (L.length + 2), .ref (L.length + 3)]))) :: (.inr (.inl (2, 6, (va_up (fun _ => none) 0 (some (L.length + 1)))))) :: L)) (i := 3) (j := 2) (k := 0) rfl rfl (by decide) (by decide) rfl (by decide) (by decide) rfl rfl rfl (Or.inl rfl) rfl dX11_newPanes_24 ?_
    refine xj_iinc (n := 1) (i := 2) (v := nI 1) (lv1 := [(2, .int (nI 1)), (1, .ref L.length), (0, .ref kk)]) 0 rfl (nI_1 0) rfl (Nat.le_of_ble_eq_true rfl) dX11_newPanes_25 ?_
    refine xj_goto (tgt := 8) (by decide) dX11_newPanes_28 ?_
    refine xj_iload_n (n := 2) (i := 2) 0 rfl rfl dX11_newPanes_8 ?_
    refine xj_bipush (v := 6) (by decide) dX11_newPanes_9 ?_
    refine xj_icmp_ge (tgt := 31) (by decide) dX11_newPanes_11 (fun zc11 => ?_) (fun zc11 => ?_)
    · exact absurd zc11 (by decide)
    · refine xj_aload_n (n := 1) (i := 1) 1 rfl rfl dX11_newPanes_14 ?_
      refine xj_iload_n (n := 2) (i := 2) 0 rfl rfl dX11_newPanes_15 ?_
      refine lj_new (ci := 7) (Cn := RX7) (T := TX7) (N := 5) (tf := tyX7) (fs := [.null, .int 0, .int 0, .null, .null]) (k := (L.length + 4)) rfl rfl xin_7 tyX7_ok (fun j hj => by match j, hj with | 0, _ => rfl | 1, _ => rfl | 2, _ => rfl | 3, _ => rfl | 4, _ => rfl) (fun _ => rfl) cl_X11_99 xw142 xw63 (by omega) (Nat.le_of_ble_eq_true rfl) (Nat.le_of_ble_eq_true rfl) dX11_newPanes_16 ?_
      refine xj_dup rfl dX11_newPanes_19 ?_
      refine xj_aload_n (n := 0) (i := 0) 2 rfl rfl dX11_newPanes_20 ?_
      refine xj_callI ki_X11_101 (c_X7_init l (d + 0) ((.inl (6, (fun _ => 0))) :: (.inl (16, (fun _ => 0))) :: (.inr (.inr (7, [.ref kk, .int 0, .int 0, .ref (L.length + 2), .ref (L.length + 3)]))) :: (.inr (.inl (2, 6, (va_up (fun _ => none) 0 (some (L.length + 1)))))) :: L) kk (by simp only [List.length_cons]; omega)) (As := [.ref kk]) (st := [.ref (L.length + 4), .int (nI 1), .ref L.length]) rfl rfl (xRm_of (by omega) (by decide) (Nat.le_of_ble_eq_true rfl) (Nat.le_of_ble_eq_true rfl)) (Nat.le_of_ble_eq_true rfl) dX11_newPanes_21 (fun v h1 hp => ?_)
      obtain ⟨rfl, rfl⟩ := hp
      refine lj_aast (L' := ((.inl (6, (fun _ => 0))) :: (.inl (16, (fun _ => 0))) :: (.inr (.inr (7, [.ref kk, .int 0, .int 0, .ref (L.length + 5), .ref (L.length + 6)]))) :: (.inl (6, (fun _ => 0))) :: (.inl (16, (fun _ => 0))) :: (.inr (.inr (7, [.ref kk, .int 0, .int 0, .ref (L.length + 2), .ref (L.length + 3)]))) :: (.inr (.inl (2, 6, (va_up (va_up (fun _ => none) 0 (some (L.length + 1))) 1 (some (L.length + 4)))))) :: L)) (i := 6) (j := 2) (k := 1) rfl rfl (by decide) (by decide) rfl (by decide) (by decide) rfl rfl rfl (Or.inl rfl) rfl dX11_newPanes_24 ?_
      refine xj_iinc (n := 1) (i := 2) (v := nI 2) (lv1 := [(2, .int (nI 2)), (1, .ref L.length), (0, .ref kk)]) 0 rfl (nI_1 1) rfl (Nat.le_of_ble_eq_true rfl) dX11_newPanes_25 ?_
      refine xj_goto (tgt := 8) (by decide) dX11_newPanes_28 ?_
      refine xj_iload_n (n := 2) (i := 2) 0 rfl rfl dX11_newPanes_8 ?_
      refine xj_bipush (v := 6) (by decide) dX11_newPanes_9 ?_
      refine xj_icmp_ge (tgt := 31) (by decide) dX11_newPanes_11 (fun zc11 => ?_) (fun zc11 => ?_)
      · exact absurd zc11 (by decide)
      · refine xj_aload_n (n := 1) (i := 1) 1 rfl rfl dX11_newPanes_14 ?_
        refine xj_iload_n (n := 2) (i := 2) 0 rfl rfl dX11_newPanes_15 ?_
        refine lj_new (ci := 7) (Cn := RX7) (T := TX7) (N := 5) (tf := tyX7) (fs := [.null, .int 0, .int 0, .null, .null]) (k := (L.length + 7)) rfl rfl xin_7 tyX7_ok (fun j hj => by match j, hj with | 0, _ => rfl | 1, _ => rfl | 2, _ => rfl | 3, _ => rfl | 4, _ => rfl) (fun _ => rfl) cl_X11_99 xw142 xw63 (by omega) (Nat.le_of_ble_eq_true rfl) (Nat.le_of_ble_eq_true rfl) dX11_newPanes_16 ?_
        refine xj_dup rfl dX11_newPanes_19 ?_
        refine xj_aload_n (n := 0) (i := 0) 2 rfl rfl dX11_newPanes_20 ?_
        refine xj_callI ki_X11_101 (c_X7_init l (d + 0) ((.inl (6, (fun _ => 0))) :: (.inl (16, (fun _ => 0))) :: (.inr (.inr (7, [.ref kk, .int 0, .int 0, .ref (L.length + 5), .ref (L.length + 6)]))) :: (.inl (6, (fun _ => 0))) :: (.inl (16, (fun _ => 0))) :: (.inr (.inr (7, [.ref kk, .int 0, .int 0, .ref (L.length + 2), .ref (L.length + 3)]))) :: (.inr (.inl (2, 6, (va_up (va_up (fun _ => none) 0 (some (L.length + 1))) 1 (some (L.length + 4)))))) :: L) kk (by simp only [List.length_cons]; omega)) (As := [.ref kk]) (st := [.ref (L.length + 7), .int (nI 2), .ref L.length]) rfl rfl (xRm_of (by omega) (by decide) (Nat.le_of_ble_eq_true rfl) (Nat.le_of_ble_eq_true rfl)) (Nat.le_of_ble_eq_true rfl) dX11_newPanes_21 (fun v h1 hp => ?_)
        obtain ⟨rfl, rfl⟩ := hp
        refine lj_aast (L' := ((.inl (6, (fun _ => 0))) :: (.inl (16, (fun _ => 0))) :: (.inr (.inr (7, [.ref kk, .int 0, .int 0, .ref (L.length + 8), .ref (L.length + 9)]))) :: (.inl (6, (fun _ => 0))) :: (.inl (16, (fun _ => 0))) :: (.inr (.inr (7, [.ref kk, .int 0, .int 0, .ref (L.length + 5), .ref (L.length + 6)]))) :: (.inl (6, (fun _ => 0))) :: (.inl (16, (fun _ => 0))) :: (.inr (.inr (7, [.ref kk, .int 0, .int 0, .ref (L.length + 2), .ref (L.length + 3)]))) :: (.inr (.inl (2, 6, (va_up (va_up (va_up (fun _ => none) 0 (some (L.length + 1))) 1 (some (L.length + 4))) 2 (some (L.length + 7)))))) :: L)) (i := 9) (j := 2) (k := 2) rfl rfl (by decide) (by decide) rfl (by decide) (by decide) rfl rfl rfl (Or.inl rfl) rfl dX11_newPanes_24 ?_
        refine xj_iinc (n := 1) (i := 2) (v := nI 3) (lv1 := [(2, .int (nI 3)), (1, .ref L.length), (0, .ref kk)]) 0 rfl (nI_1 2) rfl (Nat.le_of_ble_eq_true rfl) dX11_newPanes_25 ?_
        refine xj_goto (tgt := 8) (by decide) dX11_newPanes_28 ?_
        refine xj_iload_n (n := 2) (i := 2) 0 rfl rfl dX11_newPanes_8 ?_
        refine xj_bipush (v := 6) (by decide) dX11_newPanes_9 ?_
        refine xj_icmp_ge (tgt := 31) (by decide) dX11_newPanes_11 (fun zc11 => ?_) (fun zc11 => ?_)
        · exact absurd zc11 (by decide)
        · refine xj_aload_n (n := 1) (i := 1) 1 rfl rfl dX11_newPanes_14 ?_
          refine xj_iload_n (n := 2) (i := 2) 0 rfl rfl dX11_newPanes_15 ?_
          refine lj_new (ci := 7) (Cn := RX7) (T := TX7) (N := 5) (tf := tyX7) (fs := [.null, .int 0, .int 0, .null, .null]) (k := (L.length + 10)) rfl rfl xin_7 tyX7_ok (fun j hj => by match j, hj with | 0, _ => rfl | 1, _ => rfl | 2, _ => rfl | 3, _ => rfl | 4, _ => rfl) (fun _ => rfl) cl_X11_99 xw142 xw63 (by omega) (Nat.le_of_ble_eq_true rfl) (Nat.le_of_ble_eq_true rfl) dX11_newPanes_16 ?_
          refine xj_dup rfl dX11_newPanes_19 ?_
          refine xj_aload_n (n := 0) (i := 0) 2 rfl rfl dX11_newPanes_20 ?_
          refine xj_callI ki_X11_101 (c_X7_init l (d + 0) ((.inl (6, (fun _ => 0))) :: (.inl (16, (fun _ => 0))) :: (.inr (.inr (7, [.ref kk, .int 0, .int 0, .ref (L.length + 8), .ref (L.length + 9)]))) :: (.inl (6, (fun _ => 0))) :: (.inl (16, (fun _ => 0))) :: (.inr (.inr (7, [.ref kk, .int 0, .int 0, .ref (L.length + 5), .ref (L.length + 6)]))) :: (.inl (6, (fun _ => 0))) :: (.inl (16, (fun _ => 0))) :: (.inr (.inr (7, [.ref kk, .int 0, .int 0, .ref (L.length + 2), .ref (L.length + 3)]))) :: (.inr (.inl (2, 6, (va_up (va_up (va_up (fun _ => none) 0 (some (L.length + 1))) 1 (some (L.length + 4))) 2 (some (L.length + 7)))))) :: L) kk (by simp only [List.length_cons]; omega)) (As := [.ref kk]) (st := [.ref (L.length + 10), .int (nI 3), .ref L.length]) rfl rfl (xRm_of (by omega) (by decide) (Nat.le_of_ble_eq_true rfl) (Nat.le_of_ble_eq_true rfl)) (Nat.le_of_ble_eq_true rfl) dX11_newPanes_21 (fun v h1 hp => ?_)
          obtain ⟨rfl, rfl⟩ := hp
          refine lj_aast (L' := ((.inl (6, (fun _ => 0))) :: (.inl (16, (fun _ => 0))) :: (.inr (.inr (7, [.ref kk, .int 0, .int 0, .ref (L.length + 11), .ref (L.length + 12)]))) :: (.inl (6, (fun _ => 0))) :: (.inl (16, (fun _ => 0))) :: (.inr (.inr (7, [.ref kk, .int 0, .int 0, .ref (L.length + 8), .ref (L.length + 9)]))) :: (.inl (6, (fun _ => 0))) :: (.inl (16, (fun _ => 0))) :: (.inr (.inr (7, [.ref kk, .int 0, .int 0, .ref (L.length + 5), .ref (L.length + 6)]))) :: (.inl (6, (fun _ => 0))) :: (.inl (16, (fun _ => 0))) :: (.inr (.inr (7, [.ref kk, .int 0, .int 0, .ref (L.length + 2), .ref (L.length + 3)]))) :: (.inr (.inl (2, 6, (va_up (va_up (va_up (va_up (fun _ => none) 0 (some (L.length + 1))) 1 (some (L.length + 4))) 2 (some (L.length + 7))) 3 (some (L.length + 10)))))) :: L)) (i := 12) (j := 2) (k := 3) rfl rfl (by decide) (by decide) rfl (by decide) (by decide) rfl rfl rfl (Or.inl rfl) rfl dX11_newPanes_24 ?_
          refine xj_iinc (n := 1) (i := 2) (v := nI 4) (lv1 := [(2, .int (nI 4)), (1, .ref L.length), (0, .ref kk)]) 0 rfl (nI_1 3) rfl (Nat.le_of_ble_eq_true rfl) dX11_newPanes_25 ?_
          refine xj_goto (tgt := 8) (by decide) dX11_newPanes_28 ?_
          refine xj_iload_n (n := 2) (i := 2) 0 rfl rfl dX11_newPanes_8 ?_
          refine xj_bipush (v := 6) (by decide) dX11_newPanes_9 ?_
          refine xj_icmp_ge (tgt := 31) (by decide) dX11_newPanes_11 (fun zc11 => ?_) (fun zc11 => ?_)
          · exact absurd zc11 (by decide)
          · refine xj_aload_n (n := 1) (i := 1) 1 rfl rfl dX11_newPanes_14 ?_
            refine xj_iload_n (n := 2) (i := 2) 0 rfl rfl dX11_newPanes_15 ?_
            refine lj_new (ci := 7) (Cn := RX7) (T := TX7) (N := 5) (tf := tyX7) (fs := [.null, .int 0, .int 0, .null, .null]) (k := (L.length + 13)) rfl rfl xin_7 tyX7_ok (fun j hj => by match j, hj with | 0, _ => rfl | 1, _ => rfl | 2, _ => rfl | 3, _ => rfl | 4, _ => rfl) (fun _ => rfl) cl_X11_99 xw142 xw63 (by omega) (Nat.le_of_ble_eq_true rfl) (Nat.le_of_ble_eq_true rfl) dX11_newPanes_16 ?_
            refine xj_dup rfl dX11_newPanes_19 ?_
            refine xj_aload_n (n := 0) (i := 0) 2 rfl rfl dX11_newPanes_20 ?_
            refine xj_callI ki_X11_101 (c_X7_init l (d + 0) ((.inl (6, (fun _ => 0))) :: (.inl (16, (fun _ => 0))) :: (.inr (.inr (7, [.ref kk, .int 0, .int 0, .ref (L.length + 11), .ref (L.length + 12)]))) :: (.inl (6, (fun _ => 0))) :: (.inl (16, (fun _ => 0))) :: (.inr (.inr (7, [.ref kk, .int 0, .int 0, .ref (L.length + 8), .ref (L.length + 9)]))) :: (.inl (6, (fun _ => 0))) :: (.inl (16, (fun _ => 0))) :: (.inr (.inr (7, [.ref kk, .int 0, .int 0, .ref (L.length + 5), .ref (L.length + 6)]))) :: (.inl (6, (fun _ => 0))) :: (.inl (16, (fun _ => 0))) :: (.inr (.inr (7, [.ref kk, .int 0, .int 0, .ref (L.length + 2), .ref (L.length + 3)]))) :: (.inr (.inl (2, 6, (va_up (va_up (va_up (va_up (fun _ => none) 0 (some (L.length + 1))) 1 (some (L.length + 4))) 2 (some (L.length + 7))) 3 (some (L.length + 10)))))) :: L) kk (by simp only [List.length_cons]; omega)) (As := [.ref kk]) (st := [.ref (L.length + 13), .int (nI 4), .ref L.length]) rfl rfl (xRm_of (by omega) (by decide) (Nat.le_of_ble_eq_true rfl) (Nat.le_of_ble_eq_true rfl)) (Nat.le_of_ble_eq_true rfl) dX11_newPanes_21 (fun v h1 hp => ?_)
            obtain ⟨rfl, rfl⟩ := hp
            refine lj_aast (L' := ((.inl (6, (fun _ => 0))) :: (.inl (16, (fun _ => 0))) :: (.inr (.inr (7, [.ref kk, .int 0, .int 0, .ref (L.length + 14), .ref (L.length + 15)]))) :: (.inl (6, (fun _ => 0))) :: (.inl (16, (fun _ => 0))) :: (.inr (.inr (7, [.ref kk, .int 0, .int 0, .ref (L.length + 11), .ref (L.length + 12)]))) :: (.inl (6, (fun _ => 0))) :: (.inl (16, (fun _ => 0))) :: (.inr (.inr (7, [.ref kk, .int 0, .int 0, .ref (L.length + 8), .ref (L.length + 9)]))) :: (.inl (6, (fun _ => 0))) :: (.inl (16, (fun _ => 0))) :: (.inr (.inr (7, [.ref kk, .int 0, .int 0, .ref (L.length + 5), .ref (L.length + 6)]))) :: (.inl (6, (fun _ => 0))) :: (.inl (16, (fun _ => 0))) :: (.inr (.inr (7, [.ref kk, .int 0, .int 0, .ref (L.length + 2), .ref (L.length + 3)]))) :: (.inr (.inl (2, 6, (va_up (va_up (va_up (va_up (va_up (fun _ => none) 0 (some (L.length + 1))) 1 (some (L.length + 4))) 2 (some (L.length + 7))) 3 (some (L.length + 10))) 4 (some (L.length + 13)))))) :: L)) (i := 15) (j := 2) (k := 4) rfl rfl (by decide) (by decide) rfl (by decide) (by decide) rfl rfl rfl (Or.inl rfl) rfl dX11_newPanes_24 ?_
            refine xj_iinc (n := 1) (i := 2) (v := nI 5) (lv1 := [(2, .int (nI 5)), (1, .ref L.length), (0, .ref kk)]) 0 rfl (nI_1 4) rfl (Nat.le_of_ble_eq_true rfl) dX11_newPanes_25 ?_
            refine xj_goto (tgt := 8) (by decide) dX11_newPanes_28 ?_
            refine xj_iload_n (n := 2) (i := 2) 0 rfl rfl dX11_newPanes_8 ?_
            refine xj_bipush (v := 6) (by decide) dX11_newPanes_9 ?_
            refine xj_icmp_ge (tgt := 31) (by decide) dX11_newPanes_11 (fun zc11 => ?_) (fun zc11 => ?_)
            · exact absurd zc11 (by decide)
            · refine xj_aload_n (n := 1) (i := 1) 1 rfl rfl dX11_newPanes_14 ?_
              refine xj_iload_n (n := 2) (i := 2) 0 rfl rfl dX11_newPanes_15 ?_
              refine lj_new (ci := 7) (Cn := RX7) (T := TX7) (N := 5) (tf := tyX7) (fs := [.null, .int 0, .int 0, .null, .null]) (k := (L.length + 16)) rfl rfl xin_7 tyX7_ok (fun j hj => by match j, hj with | 0, _ => rfl | 1, _ => rfl | 2, _ => rfl | 3, _ => rfl | 4, _ => rfl) (fun _ => rfl) cl_X11_99 xw142 xw63 (by omega) (Nat.le_of_ble_eq_true rfl) (Nat.le_of_ble_eq_true rfl) dX11_newPanes_16 ?_
              refine xj_dup rfl dX11_newPanes_19 ?_
              refine xj_aload_n (n := 0) (i := 0) 2 rfl rfl dX11_newPanes_20 ?_
              refine xj_callI ki_X11_101 (c_X7_init l (d + 0) ((.inl (6, (fun _ => 0))) :: (.inl (16, (fun _ => 0))) :: (.inr (.inr (7, [.ref kk, .int 0, .int 0, .ref (L.length + 14), .ref (L.length + 15)]))) :: (.inl (6, (fun _ => 0))) :: (.inl (16, (fun _ => 0))) :: (.inr (.inr (7, [.ref kk, .int 0, .int 0, .ref (L.length + 11), .ref (L.length + 12)]))) :: (.inl (6, (fun _ => 0))) :: (.inl (16, (fun _ => 0))) :: (.inr (.inr (7, [.ref kk, .int 0, .int 0, .ref (L.length + 8), .ref (L.length + 9)]))) :: (.inl (6, (fun _ => 0))) :: (.inl (16, (fun _ => 0))) :: (.inr (.inr (7, [.ref kk, .int 0, .int 0, .ref (L.length + 5), .ref (L.length + 6)]))) :: (.inl (6, (fun _ => 0))) :: (.inl (16, (fun _ => 0))) :: (.inr (.inr (7, [.ref kk, .int 0, .int 0, .ref (L.length + 2), .ref (L.length + 3)]))) :: (.inr (.inl (2, 6, (va_up (va_up (va_up (va_up (va_up (fun _ => none) 0 (some (L.length + 1))) 1 (some (L.length + 4))) 2 (some (L.length + 7))) 3 (some (L.length + 10))) 4 (some (L.length + 13)))))) :: L) kk (by simp only [List.length_cons]; omega)) (As := [.ref kk]) (st := [.ref (L.length + 16), .int (nI 5), .ref L.length]) rfl rfl (xRm_of (by omega) (by decide) (Nat.le_of_ble_eq_true rfl) (Nat.le_of_ble_eq_true rfl)) (Nat.le_of_ble_eq_true rfl) dX11_newPanes_21 (fun v h1 hp => ?_)
              obtain ⟨rfl, rfl⟩ := hp
              refine lj_aast (L' := ((.inl (6, (fun _ => 0))) :: (.inl (16, (fun _ => 0))) :: (.inr (.inr (7, [.ref kk, .int 0, .int 0, .ref (L.length + 17), .ref (L.length + 18)]))) :: (.inl (6, (fun _ => 0))) :: (.inl (16, (fun _ => 0))) :: (.inr (.inr (7, [.ref kk, .int 0, .int 0, .ref (L.length + 14), .ref (L.length + 15)]))) :: (.inl (6, (fun _ => 0))) :: (.inl (16, (fun _ => 0))) :: (.inr (.inr (7, [.ref kk, .int 0, .int 0, .ref (L.length + 11), .ref (L.length + 12)]))) :: (.inl (6, (fun _ => 0))) :: (.inl (16, (fun _ => 0))) :: (.inr (.inr (7, [.ref kk, .int 0, .int 0, .ref (L.length + 8), .ref (L.length + 9)]))) :: (.inl (6, (fun _ => 0))) :: (.inl (16, (fun _ => 0))) :: (.inr (.inr (7, [.ref kk, .int 0, .int 0, .ref (L.length + 5), .ref (L.length + 6)]))) :: (.inl (6, (fun _ => 0))) :: (.inl (16, (fun _ => 0))) :: (.inr (.inr (7, [.ref kk, .int 0, .int 0, .ref (L.length + 2), .ref (L.length + 3)]))) :: (.inr (.inl (2, 6, (va_up (va_up (va_up (va_up (va_up (va_up (fun _ => none) 0 (some (L.length + 1))) 1 (some (L.length + 4))) 2 (some (L.length + 7))) 3 (some (L.length + 10))) 4 (some (L.length + 13))) 5 (some (L.length + 16)))))) :: L)) (i := 18) (j := 2) (k := 5) rfl rfl (by decide) (by decide) rfl (by decide) (by decide) rfl rfl rfl (Or.inl rfl) rfl dX11_newPanes_24 ?_
              refine xj_iinc (n := 1) (i := 2) (v := nI 6) (lv1 := [(2, .int (nI 6)), (1, .ref L.length), (0, .ref kk)]) 0 rfl (nI_1 5) rfl (Nat.le_of_ble_eq_true rfl) dX11_newPanes_25 ?_
              refine xj_goto (tgt := 8) (by decide) dX11_newPanes_28 ?_
              refine xj_iload_n (n := 2) (i := 2) 0 rfl rfl dX11_newPanes_8 ?_
              refine xj_bipush (v := 6) (by decide) dX11_newPanes_9 ?_
              refine xj_icmp_ge (tgt := 31) (by decide) dX11_newPanes_11 (fun zc11 => ?_) (fun zc11 => ?_)
              · refine xj_aload_n (n := 1) (i := 1) 1 rfl rfl dX11_newPanes_31 ?_
                exact xj_areturn rfl (Or.inr ⟨_, rfl⟩) (Nat.le_of_ble_eq_true rfl) (Nat.le_of_ble_eq_true rfl) dX11_newPanes_32 ⟨rfl, rfl⟩
              · exact absurd (by decide) zc11
