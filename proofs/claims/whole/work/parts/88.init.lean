set_option maxHeartbeats 4000000 in
set_option maxRecDepth 100000 in
theorem c_X7_init (l : Launch) (d : Nat) (L : List xE) (kk : Nat) (hx : L.length + 3 ≤ xN)  : xC l yX7_init cX7_init 2 none (xR (d + 1) 2 22) [.ref L.length, .ref kk] (hR ((.inr (.inr (7, [.null, .int 0, .int 0, .null, .null]))) :: L)) (fun r h1 => r = none ∧ h1 = (hR ((.inl (6, (fun _ => 0))) :: (.inl (16, (fun _ => 0))) :: (.inr (.inr (7, [.ref kk, .int 0, .int 0, .ref (L.length + 1), .ref (L.length + 2)]))) :: L))) := by
  refine xC_of true (by decide +kernel) (fun z => rfl) (Nat.le_of_ble_eq_true rfl) ?_
  show xJ l (RX7, 2, none, true, (xR (d + 1) 2 22), none) cX7_init _ 0 0 0 [(0, .ref L.length), (1, .ref kk)] [] (hR ((.inr (.inr (7, [.null, .int 0, .int 0, .null, .null]))) :: L))
  refine xj_aload_n (n := 0) (i := 0) 0 rfl rfl dX7_init_0 ?_
  refine xj_objInit xw146 xw83 xw84 (Nat.le_of_ble_eq_true rfl) ⟨by show 1 ≤ _; simp only [xR]; omega, by show 20 ≤ _; simp only [xR]; omega⟩ dX7_init_1 ?_
  refine xj_aload_n (n := 0) (i := 0) 0 rfl rfl dX7_init_4 ?_
  refine xj_iconst (v := 0) (by decide) dX7_init_5 ?_
  refine lj_putf (L' := ((.inr (.inr (7, [.null, .int 0, .int 0, .null, .null]))) :: L)) (i := 0) fl_X7_9_7 rfl rfl rfl (fun _ => ⟨rfl, rfl⟩) (Nat.le_of_ble_eq_true rfl) dX7_init_6 ?_
  refine xj_aload_n (n := 0) (i := 0) 0 rfl rfl dX7_init_9 ?_
  refine xj_iconst (v := 0) (by decide) dX7_init_10 ?_
  refine lj_putf (L' := ((.inr (.inr (7, [.null, .int 0, .int 0, .null, .null]))) :: L)) (i := 0) fl_X7_15_7 rfl rfl rfl (fun _ => ⟨rfl, rfl⟩) (Nat.le_of_ble_eq_true rfl) dX7_init_11 ?_
  refine xj_aload_n (n := 0) (i := 0) 0 rfl rfl dX7_init_14 ?_
  refine xj_bipush (v := 16) (by decide) dX7_init_15 ?_
  refine lj_newi (N := 16) (k := (L.length + 1)) rfl (by decide) rfl (by decide) (by omega) (Nat.le_of_ble_eq_true rfl) (Nat.le_of_ble_eq_true rfl) dX7_init_17 ?_
  refine lj_putF (L' := ((.inl (16, (fun _ => 0))) :: (.inr (.inr (7, [.null, .int 0, .int 0, .ref (L.length + 1), .null]))) :: L)) (i := 1) fl_X7_18_7 rfl (fun x e => by cases e; rfl) rfl rfl rfl (fun _ => ⟨rfl, rfl⟩) (Nat.le_of_ble_eq_true rfl) dX7_init_19 ?_
  refine xj_aload_n (n := 0) (i := 0) 0 rfl rfl dX7_init_22 ?_
  refine xj_bipush (v := 6) (by decide) dX7_init_23 ?_
  refine lj_newi (N := 6) (k := (L.length + 2)) rfl (by decide) rfl (by decide) (by omega) (Nat.le_of_ble_eq_true rfl) (Nat.le_of_ble_eq_true rfl) dX7_init_25 ?_
  refine lj_putF (L' := ((.inl (6, (fun _ => 0))) :: (.inl (16, (fun _ => 0))) :: (.inr (.inr (7, [.null, .int 0, .int 0, .ref (L.length + 1), .ref (L.length + 2)]))) :: L)) (i := 2) fl_X7_22_7 rfl (fun x e => by cases e; rfl) rfl rfl rfl (fun _ => ⟨rfl, rfl⟩) (Nat.le_of_ble_eq_true rfl) dX7_init_27 ?_
  refine xj_aload_n (n := 0) (i := 0) 0 rfl rfl dX7_init_30 ?_
  refine xj_aload_n (n := 1) (i := 1) 1 rfl rfl dX7_init_31 ?_
  refine lj_putf (L' := ((.inl (6, (fun _ => 0))) :: (.inl (16, (fun _ => 0))) :: (.inr (.inr (7, [.ref kk, .int 0, .int 0, .ref (L.length + 1), .ref (L.length + 2)]))) :: L)) (i := 2) fl_X7_25_7 rfl rfl rfl (fun _ => ⟨rfl, rfl⟩) (Nat.le_of_ble_eq_true rfl) dX7_init_32 ?_
  exact xj_return rfl (Nat.le_of_ble_eq_true rfl) (Nat.le_of_ble_eq_true rfl) dX7_init_35 ⟨rfl, rfl⟩
set_option maxHeartbeats 4000000 in
set_option maxRecDepth 100000 in
theorem c_X8_init (l : Launch) (d : Nat) (L : List xE) (hx : L.length + 2 ≤ xN)  : xC l yX8_init cX8_init 1 none (xR (d + 1) 1 40) [.ref L.length] (hR ((.inr (.inr (8, [.int 0, .int 0, .null]))) :: L)) (fun r h1 => r = none ∧ h1 = (hR ((.inl (40, (fun _ => 0))) :: (.inr (.inr (8, [.int (-1), .int 0, .ref (L.length + 1)]))) :: L))) := by
  refine xC_of true (by decide +kernel) (fun z => rfl) (Nat.le_of_ble_eq_true rfl) ?_
  show xJ l (RX8, 1, none, true, (xR (d + 1) 1 40), none) cX8_init _ 0 0 0 [(0, .ref L.length)] [] (hR ((.inr (.inr (8, [.int 0, .int 0, .null]))) :: L))
  refine xj_aload_n (n := 0) (i := 0) 0 rfl rfl dX8_init_0 ?_
  refine xj_objInit xw239 xw83 xw84 (Nat.le_of_ble_eq_true rfl) ⟨by show 1 ≤ _; simp only [xR]; omega, by show 20 ≤ _; simp only [xR]; omega⟩ dX8_init_1 ?_
  refine xj_aload_n (n := 0) (i := 0) 0 rfl rfl dX8_init_4 ?_
  refine xj_iconst (v := (-1)) (by decide) dX8_init_5 ?_
  refine lj_putf (L' := ((.inr (.inr (8, [.int (-1), .int 0, .null]))) :: L)) (i := 0) fl_X8_9_8 rfl rfl rfl (fun _ => ⟨rfl, rfl⟩) (Nat.le_of_ble_eq_true rfl) dX8_init_6 ?_
  refine xj_aload_n (n := 0) (i := 0) 0 rfl rfl dX8_init_9 ?_
  refine xj_iconst (v := 0) (by decide) dX8_init_10 ?_
  refine lj_putf (L' := ((.inr (.inr (8, [.int (-1), .int 0, .null]))) :: L)) (i := 0) fl_X8_15_8 rfl rfl rfl (fun _ => ⟨rfl, rfl⟩) (Nat.le_of_ble_eq_true rfl) dX8_init_11 ?_
  refine xj_aload_n (n := 0) (i := 0) 0 rfl rfl dX8_init_14 ?_
  refine xj_bipush (v := 40) (by decide) dX8_init_15 ?_
  refine lj_newi (N := 40) (k := (L.length + 1)) rfl (by decide) rfl (by decide) (by omega) (Nat.le_of_ble_eq_true rfl) (Nat.le_of_ble_eq_true rfl) dX8_init_17 ?_
  refine lj_putF (L' := ((.inl (40, (fun _ => 0))) :: (.inr (.inr (8, [.int (-1), .int 0, .ref (L.length + 1)]))) :: L)) (i := 1) fl_X8_18_8 rfl (fun x e => by cases e; rfl) rfl rfl rfl (fun _ => ⟨rfl, rfl⟩) (Nat.le_of_ble_eq_true rfl) dX8_init_19 ?_
  exact xj_return rfl (Nat.le_of_ble_eq_true rfl) (Nat.le_of_ble_eq_true rfl) dX8_init_22 ⟨rfl, rfl⟩
set_option maxHeartbeats 4000000 in
set_option maxRecDepth 100000 in
theorem c_X9_init (l : Launch) (d : Nat) (L : List xE) (hx : L.length + 4 ≤ xN)  : xC l yX9_init cX9_init 1 none (xR (d + 1) 3 323) [.ref L.length] (hR ((.inr (.inr (9, [.int 0, .int 0, .null, .null, .null, .int 0, .int 0, .int 0, .int 0]))) :: L)) (fun r h1 => r = none ∧ h1 = (hR ((.inl (3, (fun _ => 0))) :: (.inl (160, (fun _ => 0))) :: (.inl (160, (fun _ => 0))) :: (.inr (.inr (9, [.int 0, .int 0, .ref (L.length + 1), .ref (L.length + 2), .ref (L.length + 3), .int 0, .int 0, .int 0, .int 0]))) :: L))) := by
  refine xC_of true (by decide +kernel) (fun z => rfl) (Nat.le_of_ble_eq_true rfl) ?_
  show xJ l (RX9, 1, none, true, (xR (d + 1) 3 323), none) cX9_init _ 0 0 0 [(0, .ref L.length)] [] (hR ((.inr (.inr (9, [.int 0, .int 0, .null, .null, .null, .int 0, .int 0, .int 0, .int 0]))) :: L))
  refine xj_aload_n (n := 0) (i := 0) 0 rfl rfl dX9_init_0 ?_
  refine xj_objInit xw202 xw83 xw84 (Nat.le_of_ble_eq_true rfl) ⟨by show 1 ≤ _; simp only [xR]; omega, by show 20 ≤ _; simp only [xR]; omega⟩ dX9_init_1 ?_
  refine xj_aload_n (n := 0) (i := 0) 0 rfl rfl dX9_init_4 ?_
  refine xj_iconst (v := 0) (by decide) dX9_init_5 ?_
  refine lj_putf (L' := ((.inr (.inr (9, [.int 0, .int 0, .null, .null, .null, .int 0, .int 0, .int 0, .int 0]))) :: L)) (i := 0) fl_X9_9_9 rfl rfl rfl (fun _ => ⟨rfl, rfl⟩) (Nat.le_of_ble_eq_true rfl) dX9_init_6 ?_
  refine xj_aload_n (n := 0) (i := 0) 0 rfl rfl dX9_init_9 ?_
  refine xj_iconst (v := 0) (by decide) dX9_init_10 ?_
  refine lj_putf (L' := ((.inr (.inr (9, [.int 0, .int 0, .null, .null, .null, .int 0, .int 0, .int 0, .int 0]))) :: L)) (i := 0) fl_X9_15_9 rfl rfl rfl (fun _ => ⟨rfl, rfl⟩) (Nat.le_of_ble_eq_true rfl) dX9_init_11 ?_
  refine xj_aload_n (n := 0) (i := 0) 0 rfl rfl dX9_init_14 ?_
  refine xj_sipush (v := 160) (by decide) dX9_init_15 ?_
  refine lj_newi (N := 160) (k := (L.length + 1)) rfl (by decide) rfl (by decide) (by omega) (Nat.le_of_ble_eq_true rfl) (Nat.le_of_ble_eq_true rfl) dX9_init_18 ?_
  refine lj_putF (L' := ((.inl (160, (fun _ => 0))) :: (.inr (.inr (9, [.int 0, .int 0, .ref (L.length + 1), .null, .null, .int 0, .int 0, .int 0, .int 0]))) :: L)) (i := 1) fl_X9_18_9 rfl (fun x e => by cases e; rfl) rfl rfl rfl (fun _ => ⟨rfl, rfl⟩) (Nat.le_of_ble_eq_true rfl) dX9_init_20 ?_
  refine xj_aload_n (n := 0) (i := 0) 0 rfl rfl dX9_init_23 ?_
  refine xj_sipush (v := 160) (by decide) dX9_init_24 ?_
  refine lj_newi (N := 160) (k := (L.length + 2)) rfl (by decide) rfl (by decide) (by omega) (Nat.le_of_ble_eq_true rfl) (Nat.le_of_ble_eq_true rfl) dX9_init_27 ?_
  refine lj_putF (L' := ((.inl (160, (fun _ => 0))) :: (.inl (160, (fun _ => 0))) :: (.inr (.inr (9, [.int 0, .int 0, .ref (L.length + 1), .ref (L.length + 2), .null, .int 0, .int 0, .int 0, .int 0]))) :: L)) (i := 2) fl_X9_22_9 rfl (fun x e => by cases e; rfl) rfl rfl rfl (fun _ => ⟨rfl, rfl⟩) (Nat.le_of_ble_eq_true rfl) dX9_init_29 ?_
  refine xj_aload_n (n := 0) (i := 0) 0 rfl rfl dX9_init_32 ?_
  refine xj_iconst (v := 3) (by decide) dX9_init_33 ?_
  refine lj_newi (N := 3) (k := (L.length + 3)) rfl (by decide) rfl (by decide) (by omega) (Nat.le_of_ble_eq_true rfl) (Nat.le_of_ble_eq_true rfl) dX9_init_34 ?_
  refine lj_putF (L' := ((.inl (3, (fun _ => 0))) :: (.inl (160, (fun _ => 0))) :: (.inl (160, (fun _ => 0))) :: (.inr (.inr (9, [.int 0, .int 0, .ref (L.length + 1), .ref (L.length + 2), .ref (L.length + 3), .int 0, .int 0, .int 0, .int 0]))) :: L)) (i := 3) fl_X9_25_9 rfl (fun x e => by cases e; rfl) rfl rfl rfl (fun _ => ⟨rfl, rfl⟩) (Nat.le_of_ble_eq_true rfl) dX9_init_36 ?_
  refine xj_aload_n (n := 0) (i := 0) 0 rfl rfl dX9_init_39 ?_
  refine xj_iconst (v := 0) (by decide) dX9_init_40 ?_
  refine lj_putf (L' := ((.inl (3, (fun _ => 0))) :: (.inl (160, (fun _ => 0))) :: (.inl (160, (fun _ => 0))) :: (.inr (.inr (9, [.int 0, .int 0, .ref (L.length + 1), .ref (L.length + 2), .ref (L.length + 3), .int 0, .int 0, .int 0, .int 0]))) :: L)) (i := 3) fl_X9_28_9 rfl rfl rfl (fun _ => ⟨rfl, rfl⟩) (Nat.le_of_ble_eq_true rfl) dX9_init_41 ?_
  refine xj_aload_n (n := 0) (i := 0) 0 rfl rfl dX9_init_44 ?_
  refine xj_iconst (v := 0) (by decide) dX9_init_45 ?_
  refine lj_putf (L' := ((.inl (3, (fun _ => 0))) :: (.inl (160, (fun _ => 0))) :: (.inl (160, (fun _ => 0))) :: (.inr (.inr (9, [.int 0, .int 0, .ref (L.length + 1), .ref (L.length + 2), .ref (L.length + 3), .int 0, .int 0, .int 0, .int 0]))) :: L)) (i := 3) fl_X9_31_9 rfl rfl rfl (fun _ => ⟨rfl, rfl⟩) (Nat.le_of_ble_eq_true rfl) dX9_init_46 ?_
  refine xj_aload_n (n := 0) (i := 0) 0 rfl rfl dX9_init_49 ?_
  refine xj_iconst (v := 0) (by decide) dX9_init_50 ?_
  refine lj_putf (L' := ((.inl (3, (fun _ => 0))) :: (.inl (160, (fun _ => 0))) :: (.inl (160, (fun _ => 0))) :: (.inr (.inr (9, [.int 0, .int 0, .ref (L.length + 1), .ref (L.length + 2), .ref (L.length + 3), .int 0, .int 0, .int 0, .int 0]))) :: L)) (i := 3) fl_X9_34_9 rfl rfl rfl (fun _ => ⟨rfl, rfl⟩) (Nat.le_of_ble_eq_true rfl) dX9_init_51 ?_
  refine xj_aload_n (n := 0) (i := 0) 0 rfl rfl dX9_init_54 ?_
  refine xj_iconst (v := 0) (by decide) dX9_init_55 ?_
  refine lj_putf (L' := ((.inl (3, (fun _ => 0))) :: (.inl (160, (fun _ => 0))) :: (.inl (160, (fun _ => 0))) :: (.inr (.inr (9, [.int 0, .int 0, .ref (L.length + 1), .ref (L.length + 2), .ref (L.length + 3), .int 0, .int 0, .int 0, .int 0]))) :: L)) (i := 3) fl_X9_37_9 rfl rfl rfl (fun _ => ⟨rfl, rfl⟩) (Nat.le_of_ble_eq_true rfl) dX9_init_56 ?_
  exact xj_return rfl (Nat.le_of_ble_eq_true rfl) (Nat.le_of_ble_eq_true rfl) dX9_init_59 ⟨rfl, rfl⟩
