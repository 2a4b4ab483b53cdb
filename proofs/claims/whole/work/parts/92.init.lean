theorem lawI : ∀ j, j < 33 → gI 100 j = lawL.getD j 0 := by decide +kernel
theorem wdI : ∀ j, j < 96 → gI 101 j = wdL.getD j 0 := by decide +kernel
theorem aZ00 : aZ A00 = 33 := by decide +kernel
theorem mA00 {g1 : xG} (hf : fr (fun j => j = 91) gI g1) (ht : ∀ j, j < 33 → g1 91 j = lawL.getD j 0) : mA (gs g1 86 8 33) A00 (fun _ _ _ => 0) := by
  have hn : ∀ j, j ≠ 86 → j ≠ 91 → gs g1 86 8 33 j = gI j := fun j a b => by rw [gs_n _ _ _ a]; exact hf j b
  have h86 : ∀ k, k ≠ 8 → gs g1 86 8 33 86 k = gI 86 k := fun k hk => by rw [gs_s, upd_n _ _ hk, hf 86 (by decide)]
  have hS : aS A00 = 0 := by decide +kernel
  have h30 : ∀ j, A00 30 j = lawL.getD j 0 := fun j => rfl
  refine ⟨⟨(h86 0 (by decide)).trans (by decide +kernel), (h86 5 (by decide)).trans (by decide +kernel), (h86 6 (by decide)).trans (by decide +kernel), (h86 11 (by decide)).trans (by decide +kernel), (h86 12 (by decide)).trans (by decide +kernel), ?_, (h86 13 (by decide)).trans (by decide +kernel)⟩, fun s hs => absurd hs (by rw [hS]; exact Nat.not_lt_zero _), fun t ht2 => absurd ht2 (by rw [aT00]; exact Nat.not_lt_zero _), fun j hj => ?_, fun z => absurd (show A00 0 6 = 0 by decide +kernel) z, fun q hq => ?_, fun j hj => ?_⟩
  · rw [gs_s, upd_s]; decide +kernel
  · rw [aZ00] at hj
    rw [gs_n _ _ _ (by decide), h30]
    exact ht j hj
  · rw [hn 97 (by decide) (by decide), hn 98 (by decide) (by decide), hn 99 (by decide) (by decide)]
    match q, hq with
    | 0, _ => exact ⟨by decide +kernel, by decide +kernel, fun j _ => rfl⟩
    | 1, _ => exact ⟨by decide +kernel, by decide +kernel, fun j _ => rfl⟩
    | 2, _ => exact ⟨by decide +kernel, by decide +kernel, fun j _ => rfl⟩
    | 3, _ => exact ⟨by decide +kernel, by decide +kernel, fun j _ => rfl⟩
  · rw [hn 101 (by decide) (by decide)]
    exact wdI j hj
theorem cA01 : cA gI 110 A01 L01 := by
  have hS : aS A01 = 0 := by decide +kernel
  have hZ : aZ A01 = 0 := by decide +kernel
  have hT : aT A01 = 1 := by decide +kernel
  refine ⟨by rw [hT], ⟨by decide +kernel, by decide +kernel, by decide +kernel, by decide +kernel, by decide +kernel⟩, fun s hs => absurd hs (by rw [hS]; exact Nat.not_lt_zero _), fun t ht => ?_, ⟨by decide +kernel, fun j hj => absurd hj (by rw [hZ]; exact Nat.not_lt_zero _)⟩, ⟨fun _ => by decide +kernel, fun z => absurd (show A01 0 6 = 0 by decide +kernel) z⟩, fun q hq => ?_⟩
  · rw [hT] at ht
    have e : t = 0 := by omega
    subst e
    refine ⟨by decide +kernel, fTn_k 0, by decide, ?_⟩
    show lwR (gI 83) (gI 84) (saidL [[3], [10], [-264]])
    exact lwR_of (D0 := [3]) (D1 := [10]) (D2 := [-264]) ⟨rfl, fun j hj => by
      match j, hj with
      | 0, _ => decide +kernel
      | 1, _ => decide +kernel
      | 2, _ => decide +kernel⟩ (by decide) (by decide +kernel) (by decide +kernel) (by decide +kernel) (by decide +kernel) ((WFm_num (c := 3) (by decide) (by decide)).mono (Nat.zero_le _)) ((WFm_num (c := 10) (by decide) (by decide)).mono (Nat.zero_le _)) ((WFm_nam (c := -264) (by decide)).mono (Nat.zero_le _))
  · match q, hq with
    | 0, _ => exact ⟨by decide +kernel, by decide +kernel, fun j _ => rfl⟩
    | 1, _ => exact ⟨by decide +kernel, by decide +kernel, fun j _ => rfl⟩
    | 2, _ => exact ⟨by decide +kernel, by decide +kernel, fun j _ => rfl⟩
    | 3, _ => exact ⟨by decide +kernel, by decide +kernel, fun j _ => rfl⟩
set_option maxHeartbeats 4000000 in
set_option maxRecDepth 100000 in
theorem c_X12_init (l : Launch) (d : Nat)  : xC l yX12_init cX12_init 2 none (xR (d + 6) 23 3000) [.ref 86] (hR ((.inr (.inr (12, [.int 0, .null, .null, .null, .null, .int 0, .int 0, .null, .int 0, .null, .null, .int 0, .int 0, .int 0, .null, .null, .null, .null, .null, .null, .null, .int 0, .int 0, .int 0, .int 0, .null, .null, .int 0, .int 0, .int 0, .null, .null, .null, .int 0, .int 0, .int 0, .int 0, .null, .null, .null, .null]))) :: cl11)) (fun r h1 => r = none ∧ ∃ g1, h1 = (110, fh g1) ∧ cA g1 110 A01 L01 ∧ mA g1 A01 L01) := by
  refine xC_of true (by decide +kernel) (fun z => rfl) (Nat.le_of_ble_eq_true rfl) ?_
  show xJ l (RX12, 2, none, true, (xR (d + 6) 23 3000), none) cX12_init _ 0 0 0 [(0, .ref 86)] [] (hR ((.inr (.inr (12, [.int 0, .null, .null, .null, .null, .int 0, .int 0, .null, .int 0, .null, .null, .int 0, .int 0, .int 0, .null, .null, .null, .null, .null, .null, .null, .int 0, .int 0, .int 0, .int 0, .null, .null, .int 0, .int 0, .int 0, .null, .null, .null, .int 0, .int 0, .int 0, .int 0, .null, .null, .null, .null]))) :: cl11))
  refine xj_aload_n (n := 0) (i := 0) 0 rfl rfl dX12_init_0 ?_
  refine xj_objInit xw822 xw83 xw84 (Nat.le_of_ble_eq_true rfl) ⟨by show 1 ≤ _; simp only [xR]; omega, by show 20 ≤ _; simp only [xR]; omega⟩ dX12_init_1 ?_
  refine xj_aload_n (n := 0) (i := 0) 0 rfl rfl dX12_init_4 ?_
  refine xj_bipush (v := 6) (by decide) dX12_init_5 ?_
  refine lj_newi (N := 6) (k := 87) rfl (by decide) rfl (by decide) (Nat.le_of_ble_eq_true rfl) (Nat.le_of_ble_eq_true rfl) (Nat.le_of_ble_eq_true rfl) dX12_init_7 ?_
  refine lj_putF (L' := ((.inl (6, (fun _ => 0))) :: (.inr (.inr (12, [.int 0, .ref 87, .null, .null, .null, .int 0, .int 0, .null, .int 0, .null, .null, .int 0, .int 0, .int 0, .null, .null, .null, .null, .null, .null, .null, .int 0, .int 0, .int 0, .int 0, .null, .null, .int 0, .int 0, .int 0, .null, .null, .null, .int 0, .int 0, .int 0, .int 0, .null, .null, .null, .null]))) :: cl11)) (i := 1) fl_X12_7_12 rfl (fun x e => by cases e; rfl) rfl rfl rfl (fun _ => ⟨rfl, rfl⟩) (Nat.le_of_ble_eq_true rfl) dX12_init_9 ?_
  refine xj_aload_n (n := 0) (i := 0) 0 rfl rfl dX12_init_12 ?_
  refine xj_bipush (v := 6) (by decide) dX12_init_13 ?_
  refine lj_newi (N := 6) (k := 88) rfl (by decide) rfl (by decide) (Nat.le_of_ble_eq_true rfl) (Nat.le_of_ble_eq_true rfl) (Nat.le_of_ble_eq_true rfl) dX12_init_15 ?_
  refine lj_putF (L' := ((.inl (6, (fun _ => 0))) :: (.inl (6, (fun _ => 0))) :: (.inr (.inr (12, [.int 0, .ref 87, .ref 88, .null, .null, .int 0, .int 0, .null, .int 0, .null, .null, .int 0, .int 0, .int 0, .null, .null, .null, .null, .null, .null, .null, .int 0, .int 0, .int 0, .int 0, .null, .null, .int 0, .int 0, .int 0, .null, .null, .null, .int 0, .int 0, .int 0, .int 0, .null, .null, .null, .null]))) :: cl11)) (i := 2) fl_X12_13_12 rfl (fun x e => by cases e; rfl) rfl rfl rfl (fun _ => ⟨rfl, rfl⟩) (Nat.le_of_ble_eq_true rfl) dX12_init_17 ?_
  refine xj_aload_n (n := 0) (i := 0) 0 rfl rfl dX12_init_20 ?_
  refine xj_bipush (v := 96) (by decide) dX12_init_21 ?_
  refine lj_newi (N := 96) (k := 89) rfl (by decide) rfl (by decide) (Nat.le_of_ble_eq_true rfl) (Nat.le_of_ble_eq_true rfl) (Nat.le_of_ble_eq_true rfl) dX12_init_23 ?_
  refine lj_putF (L' := ((.inl (96, (fun _ => 0))) :: (.inl (6, (fun _ => 0))) :: (.inl (6, (fun _ => 0))) :: (.inr (.inr (12, [.int 0, .ref 87, .ref 88, .ref 89, .null, .int 0, .int 0, .null, .int 0, .null, .null, .int 0, .int 0, .int 0, .null, .null, .null, .null, .null, .null, .null, .int 0, .int 0, .int 0, .int 0, .null, .null, .int 0, .int 0, .int 0, .null, .null, .null, .int 0, .int 0, .int 0, .int 0, .null, .null, .null, .null]))) :: cl11)) (i := 3) fl_X12_16_12 rfl (fun x e => by cases e; rfl) rfl rfl rfl (fun _ => ⟨rfl, rfl⟩) (Nat.le_of_ble_eq_true rfl) dX12_init_25 ?_
  refine xj_aload_n (n := 0) (i := 0) 0 rfl rfl dX12_init_28 ?_
  refine xj_bipush (v := 6) (by decide) dX12_init_29 ?_
  refine lj_newi (N := 6) (k := 90) rfl (by decide) rfl (by decide) (Nat.le_of_ble_eq_true rfl) (Nat.le_of_ble_eq_true rfl) (Nat.le_of_ble_eq_true rfl) dX12_init_31 ?_
  refine lj_putF (L' := ((.inl (6, (fun _ => 0))) :: (.inl (96, (fun _ => 0))) :: (.inl (6, (fun _ => 0))) :: (.inl (6, (fun _ => 0))) :: (.inr (.inr (12, [.int 0, .ref 87, .ref 88, .ref 89, .ref 90, .int 0, .int 0, .null, .int 0, .null, .null, .int 0, .int 0, .int 0, .null, .null, .null, .null, .null, .null, .null, .int 0, .int 0, .int 0, .int 0, .null, .null, .int 0, .int 0, .int 0, .null, .null, .null, .int 0, .int 0, .int 0, .int 0, .null, .null, .null, .null]))) :: cl11)) (i := 4) fl_X12_19_12 rfl (fun x e => by cases e; rfl) rfl rfl rfl (fun _ => ⟨rfl, rfl⟩) (Nat.le_of_ble_eq_true rfl) dX12_init_33 ?_
  refine xj_aload_n (n := 0) (i := 0) 0 rfl rfl dX12_init_36 ?_
  refine xj_bipush (v := 60) (by decide) dX12_init_37 ?_
  refine lj_putf (L' := ((.inl (6, (fun _ => 0))) :: (.inl (96, (fun _ => 0))) :: (.inl (6, (fun _ => 0))) :: (.inl (6, (fun _ => 0))) :: (.inr (.inr (12, [.int 0, .ref 87, .ref 88, .ref 89, .ref 90, .int 0, .int 60, .null, .int 0, .null, .null, .int 0, .int 0, .int 0, .null, .null, .null, .null, .null, .null, .null, .int 0, .int 0, .int 0, .int 0, .null, .null, .int 0, .int 0, .int 0, .null, .null, .null, .int 0, .int 0, .int 0, .int 0, .null, .null, .null, .null]))) :: cl11)) (i := 4) fl_X12_22_12 rfl rfl rfl (fun _ => ⟨rfl, rfl⟩) (Nat.le_of_ble_eq_true rfl) dX12_init_39 ?_
  refine xj_aload_n (n := 0) (i := 0) 0 rfl rfl dX12_init_42 ?_
  refine xj_sipush (v := 160) (by decide) dX12_init_43 ?_
  refine lj_newi (N := 160) (k := 91) rfl (by decide) rfl (by decide) (Nat.le_of_ble_eq_true rfl) (Nat.le_of_ble_eq_true rfl) (Nat.le_of_ble_eq_true rfl) dX12_init_46 ?_
  refine lj_putF (L' := ((.inl (160, (fun _ => 0))) :: (.inl (6, (fun _ => 0))) :: (.inl (96, (fun _ => 0))) :: (.inl (6, (fun _ => 0))) :: (.inl (6, (fun _ => 0))) :: (.inr (.inr (12, [.int 0, .ref 87, .ref 88, .ref 89, .ref 90, .int 0, .int 60, .ref 91, .int 0, .null, .null, .int 0, .int 0, .int 0, .null, .null, .null, .null, .null, .null, .null, .int 0, .int 0, .int 0, .int 0, .null, .null, .int 0, .int 0, .int 0, .null, .null, .null, .int 0, .int 0, .int 0, .int 0, .null, .null, .null, .null]))) :: cl11)) (i := 5) fl_X12_26_12 rfl (fun x e => by cases e; rfl) rfl rfl rfl (fun _ => ⟨rfl, rfl⟩) (Nat.le_of_ble_eq_true rfl) dX12_init_48 ?_
  refine xj_aload_n (n := 0) (i := 0) 0 rfl rfl dX12_init_51 ?_
  refine xj_sipush (v := 1200) (by decide) dX12_init_52 ?_
  refine lj_newi (N := 1200) (k := 92) rfl (by decide) rfl (by decide) (Nat.le_of_ble_eq_true rfl) (Nat.le_of_ble_eq_true rfl) (Nat.le_of_ble_eq_true rfl) dX12_init_55 ?_
  refine lj_putF (L' := ((.inl (1200, (fun _ => 0))) :: (.inl (160, (fun _ => 0))) :: (.inl (6, (fun _ => 0))) :: (.inl (96, (fun _ => 0))) :: (.inl (6, (fun _ => 0))) :: (.inl (6, (fun _ => 0))) :: (.inr (.inr (12, [.int 0, .ref 87, .ref 88, .ref 89, .ref 90, .int 0, .int 60, .ref 91, .int 0, .ref 92, .null, .int 0, .int 0, .int 0, .null, .null, .null, .null, .null, .null, .null, .int 0, .int 0, .int 0, .int 0, .null, .null, .int 0, .int 0, .int 0, .null, .null, .null, .int 0, .int 0, .int 0, .int 0, .null, .null, .null, .null]))) :: cl11)) (i := 6) fl_X12_29_12 rfl (fun x e => by cases e; rfl) rfl rfl rfl (fun _ => ⟨rfl, rfl⟩) (Nat.le_of_ble_eq_true rfl) dX12_init_57 ?_
  refine xj_aload_n (n := 0) (i := 0) 0 rfl rfl dX12_init_60 ?_
  refine xj_bipush (v := 24) (by decide) dX12_init_61 ?_
  refine lj_newi (N := 24) (k := 93) rfl (by decide) rfl (by decide) (Nat.le_of_ble_eq_true rfl) (Nat.le_of_ble_eq_true rfl) (Nat.le_of_ble_eq_true rfl) dX12_init_63 ?_
  refine lj_putF (L' := ((.inl (24, (fun _ => 0))) :: (.inl (1200, (fun _ => 0))) :: (.inl (160, (fun _ => 0))) :: (.inl (6, (fun _ => 0))) :: (.inl (96, (fun _ => 0))) :: (.inl (6, (fun _ => 0))) :: (.inl (6, (fun _ => 0))) :: (.inr (.inr (12, [.int 0, .ref 87, .ref 88, .ref 89, .ref 90, .int 0, .int 60, .ref 91, .int 0, .ref 92, .ref 93, .int 0, .int 0, .int 0, .null, .null, .null, .null, .null, .null, .null, .int 0, .int 0, .int 0, .int 0, .null, .null, .int 0, .int 0, .int 0, .null, .null, .null, .int 0, .int 0, .int 0, .int 0, .null, .null, .null, .null]))) :: cl11)) (i := 7) fl_X12_32_12 rfl (fun x e => by cases e; rfl) rfl rfl rfl (fun _ => ⟨rfl, rfl⟩) (Nat.le_of_ble_eq_true rfl) dX12_init_65 ?_
  refine xj_aload_n (n := 0) (i := 0) 0 rfl rfl dX12_init_68 ?_
  refine xj_bipush (v := 96) (by decide) dX12_init_69 ?_
  refine lj_newi (N := 96) (k := 94) rfl (by decide) rfl (by decide) (Nat.le_of_ble_eq_true rfl) (Nat.le_of_ble_eq_true rfl) (Nat.le_of_ble_eq_true rfl) dX12_init_71 ?_
  refine lj_putF (L' := ((.inl (96, (fun _ => 0))) :: (.inl (24, (fun _ => 0))) :: (.inl (1200, (fun _ => 0))) :: (.inl (160, (fun _ => 0))) :: (.inl (6, (fun _ => 0))) :: (.inl (96, (fun _ => 0))) :: (.inl (6, (fun _ => 0))) :: (.inl (6, (fun _ => 0))) :: (.inr (.inr (12, [.int 0, .ref 87, .ref 88, .ref 89, .ref 90, .int 0, .int 60, .ref 91, .int 0, .ref 92, .ref 93, .int 0, .int 0, .int 0, .ref 94, .null, .null, .null, .null, .null, .null, .int 0, .int 0, .int 0, .int 0, .null, .null, .int 0, .int 0, .int 0, .null, .null, .null, .int 0, .int 0, .int 0, .int 0, .null, .null, .null, .null]))) :: cl11)) (i := 8) fl_X12_35_12 rfl (fun x e => by cases e; rfl) rfl rfl rfl (fun _ => ⟨rfl, rfl⟩) (Nat.le_of_ble_eq_true rfl) dX12_init_73 ?_
  refine xj_aload_n (n := 0) (i := 0) 0 rfl rfl dX12_init_76 ?_
  refine xj_bipush (v := 6) (by decide) dX12_init_77 ?_
  refine lj_newi (N := 6) (k := 95) rfl (by decide) rfl (by decide) (Nat.le_of_ble_eq_true rfl) (Nat.le_of_ble_eq_true rfl) (Nat.le_of_ble_eq_true rfl) dX12_init_79 ?_
  refine lj_putF (L' := ((.inl (6, (fun _ => 0))) :: (.inl (96, (fun _ => 0))) :: (.inl (24, (fun _ => 0))) :: (.inl (1200, (fun _ => 0))) :: (.inl (160, (fun _ => 0))) :: (.inl (6, (fun _ => 0))) :: (.inl (96, (fun _ => 0))) :: (.inl (6, (fun _ => 0))) :: (.inl (6, (fun _ => 0))) :: (.inr (.inr (12, [.int 0, .ref 87, .ref 88, .ref 89, .ref 90, .int 0, .int 60, .ref 91, .int 0, .ref 92, .ref 93, .int 0, .int 0, .int 0, .ref 94, .ref 95, .null, .null, .null, .null, .null, .int 0, .int 0, .int 0, .int 0, .null, .null, .int 0, .int 0, .int 0, .null, .null, .null, .int 0, .int 0, .int 0, .int 0, .null, .null, .null, .null]))) :: cl11)) (i := 9) fl_X12_38_12 rfl (fun x e => by cases e; rfl) rfl rfl rfl (fun _ => ⟨rfl, rfl⟩) (Nat.le_of_ble_eq_true rfl) dX12_init_81 ?_
  refine xj_aload_n (n := 0) (i := 0) 0 rfl rfl dX12_init_84 ?_
  refine xj_iconst (v := 4) (by decide) dX12_init_85 ?_
  refine lj_newi (N := 4) (k := 96) rfl (by decide) rfl (by decide) (Nat.le_of_ble_eq_true rfl) (Nat.le_of_ble_eq_true rfl) (Nat.le_of_ble_eq_true rfl) dX12_init_86 ?_
  refine lj_putF (L' := ((.inl (4, (fun _ => 0))) :: (.inl (6, (fun _ => 0))) :: (.inl (96, (fun _ => 0))) :: (.inl (24, (fun _ => 0))) :: (.inl (1200, (fun _ => 0))) :: (.inl (160, (fun _ => 0))) :: (.inl (6, (fun _ => 0))) :: (.inl (96, (fun _ => 0))) :: (.inl (6, (fun _ => 0))) :: (.inl (6, (fun _ => 0))) :: (.inr (.inr (12, [.int 0, .ref 87, .ref 88, .ref 89, .ref 90, .int 0, .int 60, .ref 91, .int 0, .ref 92, .ref 93, .int 0, .int 0, .int 0, .ref 94, .ref 95, .ref 96, .null, .null, .null, .null, .int 0, .int 0, .int 0, .int 0, .null, .null, .int 0, .int 0, .int 0, .null, .null, .null, .int 0, .int 0, .int 0, .int 0, .null, .null, .null, .null]))) :: cl11)) (i := 10) fl_X12_41_12 rfl (fun x e => by cases e; rfl) rfl rfl rfl (fun _ => ⟨rfl, rfl⟩) (Nat.le_of_ble_eq_true rfl) dX12_init_88 ?_
  refine xj_aload_n (n := 0) (i := 0) 0 rfl rfl dX12_init_91 ?_
  refine xj_iconst (v := 4) (by decide) dX12_init_92 ?_
  refine lj_newi (N := 4) (k := 97) rfl (by decide) rfl (by decide) (Nat.le_of_ble_eq_true rfl) (Nat.le_of_ble_eq_true rfl) (Nat.le_of_ble_eq_true rfl) dX12_init_93 ?_
  refine xj_dup rfl dX12_init_95 ?_
  refine xj_iconst (v := 0) (by decide) dX12_init_96 ?_
  refine xj_iconst (v := (-1)) (by decide) dX12_init_97 ?_
  refine lj_iast0 (k := 0) rfl rfl (by decide) (by decide) dX12_init_98 ?_
  refine xj_dup rfl dX12_init_99 ?_
  refine xj_iconst (v := 1) (by decide) dX12_init_100 ?_
  refine xj_iconst (v := (-1)) (by decide) dX12_init_101 ?_
  refine lj_iast0 (k := 1) rfl rfl (by decide) (by decide) dX12_init_102 ?_
  refine xj_dup rfl dX12_init_103 ?_
  refine xj_iconst (v := 2) (by decide) dX12_init_104 ?_
  refine xj_iconst (v := (-1)) (by decide) dX12_init_105 ?_
  refine lj_iast0 (k := 2) rfl rfl (by decide) (by decide) dX12_init_106 ?_
  refine xj_dup rfl dX12_init_107 ?_
  refine xj_iconst (v := 3) (by decide) dX12_init_108 ?_
  refine xj_iconst (v := (-1)) (by decide) dX12_init_109 ?_
  refine lj_iast0 (k := 3) rfl rfl (by decide) (by decide) dX12_init_110 ?_
  refine lj_putF (L' := ((.inl (4, (upd (upd (upd (upd (fun _ => 0) 0 (-1)) 1 (-1)) 2 (-1)) 3 (-1)))) :: (.inl (4, (fun _ => 0))) :: (.inl (6, (fun _ => 0))) :: (.inl (96, (fun _ => 0))) :: (.inl (24, (fun _ => 0))) :: (.inl (1200, (fun _ => 0))) :: (.inl (160, (fun _ => 0))) :: (.inl (6, (fun _ => 0))) :: (.inl (96, (fun _ => 0))) :: (.inl (6, (fun _ => 0))) :: (.inl (6, (fun _ => 0))) :: (.inr (.inr (12, [.int 0, .ref 87, .ref 88, .ref 89, .ref 90, .int 0, .int 60, .ref 91, .int 0, .ref 92, .ref 93, .int 0, .int 0, .int 0, .ref 94, .ref 95, .ref 96, .ref 97, .null, .null, .null, .int 0, .int 0, .int 0, .int 0, .null, .null, .int 0, .int 0, .int 0, .null, .null, .null, .int 0, .int 0, .int 0, .int 0, .null, .null, .null, .null]))) :: cl11)) (i := 11) fl_X12_44_12 rfl (fun x e => by cases e; rfl) rfl rfl rfl (fun _ => ⟨rfl, rfl⟩) (Nat.le_of_ble_eq_true rfl) dX12_init_111 ?_
  refine xj_aload_n (n := 0) (i := 0) 0 rfl rfl dX12_init_114 ?_
  refine xj_iconst (v := 4) (by decide) dX12_init_115 ?_
  refine lj_newi (N := 4) (k := 98) rfl (by decide) rfl (by decide) (Nat.le_of_ble_eq_true rfl) (Nat.le_of_ble_eq_true rfl) (Nat.le_of_ble_eq_true rfl) dX12_init_116 ?_
  refine lj_putF (L' := ((.inl (4, (fun _ => 0))) :: (.inl (4, (upd (upd (upd (upd (fun _ => 0) 0 (-1)) 1 (-1)) 2 (-1)) 3 (-1)))) :: (.inl (4, (fun _ => 0))) :: (.inl (6, (fun _ => 0))) :: (.inl (96, (fun _ => 0))) :: (.inl (24, (fun _ => 0))) :: (.inl (1200, (fun _ => 0))) :: (.inl (160, (fun _ => 0))) :: (.inl (6, (fun _ => 0))) :: (.inl (96, (fun _ => 0))) :: (.inl (6, (fun _ => 0))) :: (.inl (6, (fun _ => 0))) :: (.inr (.inr (12, [.int 0, .ref 87, .ref 88, .ref 89, .ref 90, .int 0, .int 60, .ref 91, .int 0, .ref 92, .ref 93, .int 0, .int 0, .int 0, .ref 94, .ref 95, .ref 96, .ref 97, .ref 98, .null, .null, .int 0, .int 0, .int 0, .int 0, .null, .null, .int 0, .int 0, .int 0, .null, .null, .null, .int 0, .int 0, .int 0, .int 0, .null, .null, .null, .null]))) :: cl11)) (i := 12) fl_X12_47_12 rfl (fun x e => by cases e; rfl) rfl rfl rfl (fun _ => ⟨rfl, rfl⟩) (Nat.le_of_ble_eq_true rfl) dX12_init_118 ?_
  refine xj_aload_n (n := 0) (i := 0) 0 rfl rfl dX12_init_121 ?_
  refine xj_sipush (v := 160) (by decide) dX12_init_122 ?_
  refine lj_newi (N := 160) (k := 99) rfl (by decide) rfl (by decide) (Nat.le_of_ble_eq_true rfl) (Nat.le_of_ble_eq_true rfl) (Nat.le_of_ble_eq_true rfl) dX12_init_125 ?_
  refine lj_putF (L' := ((.inl (160, (fun _ => 0))) :: (.inl (4, (fun _ => 0))) :: (.inl (4, (upd (upd (upd (upd (fun _ => 0) 0 (-1)) 1 (-1)) 2 (-1)) 3 (-1)))) :: (.inl (4, (fun _ => 0))) :: (.inl (6, (fun _ => 0))) :: (.inl (96, (fun _ => 0))) :: (.inl (24, (fun _ => 0))) :: (.inl (1200, (fun _ => 0))) :: (.inl (160, (fun _ => 0))) :: (.inl (6, (fun _ => 0))) :: (.inl (96, (fun _ => 0))) :: (.inl (6, (fun _ => 0))) :: (.inl (6, (fun _ => 0))) :: (.inr (.inr (12, [.int 0, .ref 87, .ref 88, .ref 89, .ref 90, .int 0, .int 60, .ref 91, .int 0, .ref 92, .ref 93, .int 0, .int 0, .int 0, .ref 94, .ref 95, .ref 96, .ref 97, .ref 98, .ref 99, .null, .int 0, .int 0, .int 0, .int 0, .null, .null, .int 0, .int 0, .int 0, .null, .null, .null, .int 0, .int 0, .int 0, .int 0, .null, .null, .null, .null]))) :: cl11)) (i := 13) fl_X12_50_12 rfl (fun x e => by cases e; rfl) rfl rfl rfl (fun _ => ⟨rfl, rfl⟩) (Nat.le_of_ble_eq_true rfl) dX12_init_127 ?_
  refine xj_aload_n (n := 0) (i := 0) 0 rfl rfl dX12_init_130 ?_
  refine xj_bipush (v := 33) (by decide) dX12_init_131 ?_
  refine lj_newi (N := 33) (k := 100) rfl (by decide) rfl (by decide) (Nat.le_of_ble_eq_true rfl) (Nat.le_of_ble_eq_true rfl) (Nat.le_of_ble_eq_true rfl) dX12_init_133 ?_
  refine xj_dup rfl dX12_init_135 ?_
  refine xj_iconst (v := 0) (by decide) dX12_init_136 ?_
  refine xj_bipush (v := 100) (by decide) dX12_init_137 ?_
  refine lj_iast0 (k := 0) rfl rfl (by decide) (by decide) dX12_init_139 ?_
  refine xj_dup rfl dX12_init_140 ?_
  refine xj_iconst (v := 1) (by decide) dX12_init_141 ?_
  refine xj_bipush (v := 117) (by decide) dX12_init_142 ?_
  refine lj_iast0 (k := 1) rfl rfl (by decide) (by decide) dX12_init_144 ?_
  refine xj_dup rfl dX12_init_145 ?_
  refine xj_iconst (v := 2) (by decide) dX12_init_146 ?_
  refine xj_bipush (v := 108) (by decide) dX12_init_147 ?_
  refine lj_iast0 (k := 2) rfl rfl (by decide) (by decide) dX12_init_149 ?_
  refine xj_dup rfl dX12_init_150 ?_
  refine xj_iconst (v := 3) (by decide) dX12_init_151 ?_
  refine xj_bipush (v := 108) (by decide) dX12_init_152 ?_
  refine lj_iast0 (k := 3) rfl rfl (by decide) (by decide) dX12_init_154 ?_
  refine xj_dup rfl dX12_init_155 ?_
  refine xj_iconst (v := 4) (by decide) dX12_init_156 ?_
  refine xj_bipush (v := 115) (by decide) dX12_init_157 ?_
  refine lj_iast0 (k := 4) rfl rfl (by decide) (by decide) dX12_init_159 ?_
  refine xj_dup rfl dX12_init_160 ?_
  refine xj_iconst (v := 5) (by decide) dX12_init_161 ?_
  refine xj_bipush (v := 32) (by decide) dX12_init_162 ?_
  refine lj_iast0 (k := 5) rfl rfl (by decide) (by decide) dX12_init_164 ?_
  refine xj_dup rfl dX12_init_165 ?_
  refine xj_bipush (v := 6) (by decide) dX12_init_166 ?_
  refine xj_bipush (v := 51) (by decide) dX12_init_168 ?_
  refine lj_iast0 (k := 6) rfl rfl (by decide) (by decide) dX12_init_170 ?_
  refine xj_dup rfl dX12_init_171 ?_
  refine xj_bipush (v := 7) (by decide) dX12_init_172 ?_
  refine xj_bipush (v := 32) (by decide) dX12_init_174 ?_
  refine lj_iast0 (k := 7) rfl rfl (by decide) (by decide) dX12_init_176 ?_
  refine xj_dup rfl dX12_init_177 ?_
  refine xj_bipush (v := 8) (by decide) dX12_init_178 ?_
  refine xj_bipush (v := 59) (by decide) dX12_init_180 ?_
  refine lj_iast0 (k := 8) rfl rfl (by decide) (by decide) dX12_init_182 ?_
  refine xj_dup rfl dX12_init_183 ?_
  refine xj_bipush (v := 9) (by decide) dX12_init_184 ?_
  refine xj_bipush (v := 32) (by decide) dX12_init_186 ?_
  refine lj_iast0 (k := 9) rfl rfl (by decide) (by decide) dX12_init_188 ?_
  refine xj_dup rfl dX12_init_189 ?_
  refine xj_bipush (v := 10) (by decide) dX12_init_190 ?_
  refine xj_bipush (v := 108) (by decide) dX12_init_192 ?_
  refine lj_iast0 (k := 10) rfl rfl (by decide) (by decide) dX12_init_194 ?_
  refine xj_dup rfl dX12_init_195 ?_
  refine xj_bipush (v := 11) (by decide) dX12_init_196 ?_
  refine xj_bipush (v := 105) (by decide) dX12_init_198 ?_
  refine lj_iast0 (k := 11) rfl rfl (by decide) (by decide) dX12_init_200 ?_
  refine xj_dup rfl dX12_init_201 ?_
  refine xj_bipush (v := 12) (by decide) dX12_init_202 ?_
  refine xj_bipush (v := 109) (by decide) dX12_init_204 ?_
  refine lj_iast0 (k := 12) rfl rfl (by decide) (by decide) dX12_init_206 ?_
  refine xj_dup rfl dX12_init_207 ?_
  refine xj_bipush (v := 13) (by decide) dX12_init_208 ?_
  refine xj_bipush (v := 105) (by decide) dX12_init_210 ?_
  refine lj_iast0 (k := 13) rfl rfl (by decide) (by decide) dX12_init_212 ?_
  refine xj_dup rfl dX12_init_213 ?_
  refine xj_bipush (v := 14) (by decide) dX12_init_214 ?_
  refine xj_bipush (v := 116) (by decide) dX12_init_216 ?_
  refine lj_iast0 (k := 14) rfl rfl (by decide) (by decide) dX12_init_218 ?_
  refine xj_dup rfl dX12_init_219 ?_
  refine xj_bipush (v := 15) (by decide) dX12_init_220 ?_
  refine xj_bipush (v := 32) (by decide) dX12_init_222 ?_
  refine lj_iast0 (k := 15) rfl rfl (by decide) (by decide) dX12_init_224 ?_
  refine xj_dup rfl dX12_init_225 ?_
  refine xj_bipush (v := 16) (by decide) dX12_init_226 ?_
  refine xj_bipush (v := 49) (by decide) dX12_init_228 ?_
  refine lj_iast0 (k := 16) rfl rfl (by decide) (by decide) dX12_init_230 ?_
  refine xj_dup rfl dX12_init_231 ?_
  refine xj_bipush (v := 17) (by decide) dX12_init_232 ?_
  refine xj_bipush (v := 48) (by decide) dX12_init_234 ?_
  refine lj_iast0 (k := 17) rfl rfl (by decide) (by decide) dX12_init_236 ?_
  refine xj_dup rfl dX12_init_237 ?_
  refine xj_bipush (v := 18) (by decide) dX12_init_238 ?_
  refine xj_bipush (v := 32) (by decide) dX12_init_240 ?_
  refine lj_iast0 (k := 18) rfl rfl (by decide) (by decide) dX12_init_242 ?_
  refine xj_dup rfl dX12_init_243 ?_
  refine xj_bipush (v := 19) (by decide) dX12_init_244 ?_
  refine xj_bipush (v := 59) (by decide) dX12_init_246 ?_
  refine lj_iast0 (k := 19) rfl rfl (by decide) (by decide) dX12_init_248 ?_
  refine xj_dup rfl dX12_init_249 ?_
  refine xj_bipush (v := 20) (by decide) dX12_init_250 ?_
  refine xj_bipush (v := 32) (by decide) dX12_init_252 ?_
  refine lj_iast0 (k := 20) rfl rfl (by decide) (by decide) dX12_init_254 ?_
  refine xj_dup rfl dX12_init_255 ?_
  refine xj_bipush (v := 21) (by decide) dX12_init_256 ?_
  refine xj_bipush (v := 99) (by decide) dX12_init_258 ?_
  refine lj_iast0 (k := 21) rfl rfl (by decide) (by decide) dX12_init_260 ?_
  refine xj_dup rfl dX12_init_261 ?_
  refine xj_bipush (v := 22) (by decide) dX12_init_262 ?_
  refine xj_bipush (v := 111) (by decide) dX12_init_264 ?_
  refine lj_iast0 (k := 22) rfl rfl (by decide) (by decide) dX12_init_266 ?_
  refine xj_dup rfl dX12_init_267 ?_
  refine xj_bipush (v := 23) (by decide) dX12_init_268 ?_
  refine xj_bipush (v := 115) (by decide) dX12_init_270 ?_
  refine lj_iast0 (k := 23) rfl rfl (by decide) (by decide) dX12_init_272 ?_
  refine xj_dup rfl dX12_init_273 ?_
  refine xj_bipush (v := 24) (by decide) dX12_init_274 ?_
  refine xj_bipush (v := 116) (by decide) dX12_init_276 ?_
  refine lj_iast0 (k := 24) rfl rfl (by decide) (by decide) dX12_init_278 ?_
  refine xj_dup rfl dX12_init_279 ?_
  refine xj_bipush (v := 25) (by decide) dX12_init_280 ?_
  refine xj_bipush (v := 115) (by decide) dX12_init_282 ?_
  refine lj_iast0 (k := 25) rfl rfl (by decide) (by decide) dX12_init_284 ?_
  refine xj_dup rfl dX12_init_285 ?_
  refine xj_bipush (v := 26) (by decide) dX12_init_286 ?_
  refine xj_bipush (v := 32) (by decide) dX12_init_288 ?_
  refine lj_iast0 (k := 26) rfl rfl (by decide) (by decide) dX12_init_290 ?_
  refine xj_dup rfl dX12_init_291 ?_
  refine xj_bipush (v := 27) (by decide) dX12_init_292 ?_
  refine xj_bipush (v := 100) (by decide) dX12_init_294 ?_
  refine lj_iast0 (k := 27) rfl rfl (by decide) (by decide) dX12_init_296 ?_
  refine xj_dup rfl dX12_init_297 ?_
  refine xj_bipush (v := 28) (by decide) dX12_init_298 ?_
  refine xj_bipush (v := 117) (by decide) dX12_init_300 ?_
  refine lj_iast0 (k := 28) rfl rfl (by decide) (by decide) dX12_init_302 ?_
  refine xj_dup rfl dX12_init_303 ?_
  refine xj_bipush (v := 29) (by decide) dX12_init_304 ?_
  refine xj_bipush (v := 108) (by decide) dX12_init_306 ?_
  refine lj_iast0 (k := 29) rfl rfl (by decide) (by decide) dX12_init_308 ?_
  refine xj_dup rfl dX12_init_309 ?_
  refine xj_bipush (v := 30) (by decide) dX12_init_310 ?_
  refine xj_bipush (v := 108) (by decide) dX12_init_312 ?_
  refine lj_iast0 (k := 30) rfl rfl (by decide) (by decide) dX12_init_314 ?_
  refine xj_dup rfl dX12_init_315 ?_
  refine xj_bipush (v := 31) (by decide) dX12_init_316 ?_
  refine xj_bipush (v := 32) (by decide) dX12_init_318 ?_
  refine lj_iast0 (k := 31) rfl rfl (by decide) (by decide) dX12_init_320 ?_
  refine xj_dup rfl dX12_init_321 ?_
  refine xj_bipush (v := 32) (by decide) dX12_init_322 ?_
  refine xj_bipush (v := 59) (by decide) dX12_init_324 ?_
  refine lj_iast0 (k := 32) rfl rfl (by decide) (by decide) dX12_init_326 ?_
  refine lj_putF (L' := ((.inl (33, (upd (upd (upd (upd (upd (upd (upd (upd (upd (upd (upd (upd (upd (upd (upd (upd (upd (upd (upd (upd (upd (upd (upd (upd (upd (upd (upd (upd (upd (upd (upd (upd (upd (fun _ => 0) 0 100) 1 117) 2 108) 3 108) 4 115) 5 32) 6 51) 7 32) 8 59) 9 32) 10 108) 11 105) 12 109) 13 105) 14 116) 15 32) 16 49) 17 48) 18 32) 19 59) 20 32) 21 99) 22 111) 23 115) 24 116) 25 115) 26 32) 27 100) 28 117) 29 108) 30 108) 31 32) 32 59))) :: (.inl (160, (fun _ => 0))) :: (.inl (4, (fun _ => 0))) :: (.inl (4, (upd (upd (upd (upd (fun _ => 0) 0 (-1)) 1 (-1)) 2 (-1)) 3 (-1)))) :: (.inl (4, (fun _ => 0))) :: (.inl (6, (fun _ => 0))) :: (.inl (96, (fun _ => 0))) :: (.inl (24, (fun _ => 0))) :: (.inl (1200, (fun _ => 0))) :: (.inl (160, (fun _ => 0))) :: (.inl (6, (fun _ => 0))) :: (.inl (96, (fun _ => 0))) :: (.inl (6, (fun _ => 0))) :: (.inl (6, (fun _ => 0))) :: (.inr (.inr (12, [.int 0, .ref 87, .ref 88, .ref 89, .ref 90, .int 0, .int 60, .ref 91, .int 0, .ref 92, .ref 93, .int 0, .int 0, .int 0, .ref 94, .ref 95, .ref 96, .ref 97, .ref 98, .ref 99, .ref 100, .int 0, .int 0, .int 0, .int 0, .null, .null, .int 0, .int 0, .int 0, .null, .null, .null, .int 0, .int 0, .int 0, .int 0, .null, .null, .null, .null]))) :: cl11)) (i := 14) fl_X12_53_12 rfl (fun x e => by cases e; rfl) rfl rfl rfl (fun _ => ⟨rfl, rfl⟩) (Nat.le_of_ble_eq_true rfl) dX12_init_327 ?_
  refine xj_aload_n (n := 0) (i := 0) 0 rfl rfl dX12_init_330 ?_
  refine xj_bipush (v := 96) (by decide) dX12_init_331 ?_
  refine lj_newi (N := 96) (k := 101) rfl (by decide) rfl (by decide) (Nat.le_of_ble_eq_true rfl) (Nat.le_of_ble_eq_true rfl) (Nat.le_of_ble_eq_true rfl) dX12_init_333 ?_
  refine xj_dup rfl dX12_init_335 ?_
  refine xj_iconst (v := 0) (by decide) dX12_init_336 ?_
  refine xj_bipush (v := 100) (by decide) dX12_init_337 ?_
  refine lj_iast0 (k := 0) rfl rfl (by decide) (by decide) dX12_init_339 ?_
  refine xj_dup rfl dX12_init_340 ?_
  refine xj_iconst (v := 1) (by decide) dX12_init_341 ?_
  refine xj_bipush (v := 117) (by decide) dX12_init_342 ?_
  refine lj_iast0 (k := 1) rfl rfl (by decide) (by decide) dX12_init_344 ?_
  refine xj_dup rfl dX12_init_345 ?_
  refine xj_iconst (v := 2) (by decide) dX12_init_346 ?_
  refine xj_bipush (v := 108) (by decide) dX12_init_347 ?_
  refine lj_iast0 (k := 2) rfl rfl (by decide) (by decide) dX12_init_349 ?_
  refine xj_dup rfl dX12_init_350 ?_
  refine xj_iconst (v := 3) (by decide) dX12_init_351 ?_
  refine xj_bipush (v := 108) (by decide) dX12_init_352 ?_
  refine lj_iast0 (k := 3) rfl rfl (by decide) (by decide) dX12_init_354 ?_
  refine xj_dup rfl dX12_init_355 ?_
  refine xj_iconst (v := 4) (by decide) dX12_init_356 ?_
  refine xj_bipush (v := 115) (by decide) dX12_init_357 ?_
  refine lj_iast0 (k := 4) rfl rfl (by decide) (by decide) dX12_init_359 ?_
  refine xj_dup rfl dX12_init_360 ?_
  refine xj_iconst (v := 5) (by decide) dX12_init_361 ?_
  refine xj_bipush (v := 32) (by decide) dX12_init_362 ?_
  refine lj_iast0 (k := 5) rfl rfl (by decide) (by decide) dX12_init_364 ?_
  refine xj_dup rfl dX12_init_365 ?_
  refine xj_bipush (v := 6) (by decide) dX12_init_366 ?_
  refine xj_bipush (v := 32) (by decide) dX12_init_368 ?_
  refine lj_iast0 (k := 6) rfl rfl (by decide) (by decide) dX12_init_370 ?_
  refine xj_dup rfl dX12_init_371 ?_
  refine xj_bipush (v := 7) (by decide) dX12_init_372 ?_
  refine xj_bipush (v := 32) (by decide) dX12_init_374 ?_
  refine lj_iast0 (k := 7) rfl rfl (by decide) (by decide) dX12_init_376 ?_
  refine xj_dup rfl dX12_init_377 ?_
  refine xj_bipush (v := 8) (by decide) dX12_init_378 ?_
  refine xj_bipush (v := 108) (by decide) dX12_init_380 ?_
  refine lj_iast0 (k := 8) rfl rfl (by decide) (by decide) dX12_init_382 ?_
  refine xj_dup rfl dX12_init_383 ?_
  refine xj_bipush (v := 9) (by decide) dX12_init_384 ?_
  refine xj_bipush (v := 105) (by decide) dX12_init_386 ?_
  refine lj_iast0 (k := 9) rfl rfl (by decide) (by decide) dX12_init_388 ?_
  refine xj_dup rfl dX12_init_389 ?_
  refine xj_bipush (v := 10) (by decide) dX12_init_390 ?_
  refine xj_bipush (v := 109) (by decide) dX12_init_392 ?_
  refine lj_iast0 (k := 10) rfl rfl (by decide) (by decide) dX12_init_394 ?_
  refine xj_dup rfl dX12_init_395 ?_
  refine xj_bipush (v := 11) (by decide) dX12_init_396 ?_
  refine xj_bipush (v := 105) (by decide) dX12_init_398 ?_
  refine lj_iast0 (k := 11) rfl rfl (by decide) (by decide) dX12_init_400 ?_
  refine xj_dup rfl dX12_init_401 ?_
  refine xj_bipush (v := 12) (by decide) dX12_init_402 ?_
  refine xj_bipush (v := 116) (by decide) dX12_init_404 ?_
  refine lj_iast0 (k := 12) rfl rfl (by decide) (by decide) dX12_init_406 ?_
  refine xj_dup rfl dX12_init_407 ?_
  refine xj_bipush (v := 13) (by decide) dX12_init_408 ?_
  refine xj_bipush (v := 32) (by decide) dX12_init_410 ?_
  refine lj_iast0 (k := 13) rfl rfl (by decide) (by decide) dX12_init_412 ?_
  refine xj_dup rfl dX12_init_413 ?_
  refine xj_bipush (v := 14) (by decide) dX12_init_414 ?_
  refine xj_bipush (v := 32) (by decide) dX12_init_416 ?_
  refine lj_iast0 (k := 14) rfl rfl (by decide) (by decide) dX12_init_418 ?_
  refine xj_dup rfl dX12_init_419 ?_
  refine xj_bipush (v := 15) (by decide) dX12_init_420 ?_
  refine xj_bipush (v := 32) (by decide) dX12_init_422 ?_
  refine lj_iast0 (k := 15) rfl rfl (by decide) (by decide) dX12_init_424 ?_
  refine xj_dup rfl dX12_init_425 ?_
  refine xj_bipush (v := 16) (by decide) dX12_init_426 ?_
  refine xj_bipush (v := 99) (by decide) dX12_init_428 ?_
  refine lj_iast0 (k := 16) rfl rfl (by decide) (by decide) dX12_init_430 ?_
  refine xj_dup rfl dX12_init_431 ?_
  refine xj_bipush (v := 17) (by decide) dX12_init_432 ?_
  refine xj_bipush (v := 111) (by decide) dX12_init_434 ?_
  refine lj_iast0 (k := 17) rfl rfl (by decide) (by decide) dX12_init_436 ?_
  refine xj_dup rfl dX12_init_437 ?_
  refine xj_bipush (v := 18) (by decide) dX12_init_438 ?_
  refine xj_bipush (v := 115) (by decide) dX12_init_440 ?_
  refine lj_iast0 (k := 18) rfl rfl (by decide) (by decide) dX12_init_442 ?_
  refine xj_dup rfl dX12_init_443 ?_
  refine xj_bipush (v := 19) (by decide) dX12_init_444 ?_
  refine xj_bipush (v := 116) (by decide) dX12_init_446 ?_
  refine lj_iast0 (k := 19) rfl rfl (by decide) (by decide) dX12_init_448 ?_
  refine xj_dup rfl dX12_init_449 ?_
  refine xj_bipush (v := 20) (by decide) dX12_init_450 ?_
  refine xj_bipush (v := 115) (by decide) dX12_init_452 ?_
  refine lj_iast0 (k := 20) rfl rfl (by decide) (by decide) dX12_init_454 ?_
  refine xj_dup rfl dX12_init_455 ?_
  refine xj_bipush (v := 21) (by decide) dX12_init_456 ?_
  refine xj_bipush (v := 32) (by decide) dX12_init_458 ?_
  refine lj_iast0 (k := 21) rfl rfl (by decide) (by decide) dX12_init_460 ?_
  refine xj_dup rfl dX12_init_461 ?_
  refine xj_bipush (v := 22) (by decide) dX12_init_462 ?_
  refine xj_bipush (v := 32) (by decide) dX12_init_464 ?_
  refine lj_iast0 (k := 22) rfl rfl (by decide) (by decide) dX12_init_466 ?_
  refine xj_dup rfl dX12_init_467 ?_
  refine xj_bipush (v := 23) (by decide) dX12_init_468 ?_
  refine xj_bipush (v := 32) (by decide) dX12_init_470 ?_
  refine lj_iast0 (k := 23) rfl rfl (by decide) (by decide) dX12_init_472 ?_
  refine xj_dup rfl dX12_init_473 ?_
  refine xj_bipush (v := 24) (by decide) dX12_init_474 ?_
  refine xj_bipush (v := 99) (by decide) dX12_init_476 ?_
  refine lj_iast0 (k := 24) rfl rfl (by decide) (by decide) dX12_init_478 ?_
  refine xj_dup rfl dX12_init_479 ?_
  refine xj_bipush (v := 25) (by decide) dX12_init_480 ?_
  refine xj_bipush (v := 111) (by decide) dX12_init_482 ?_
  refine lj_iast0 (k := 25) rfl rfl (by decide) (by decide) dX12_init_484 ?_
  refine xj_dup rfl dX12_init_485 ?_
  refine xj_bipush (v := 26) (by decide) dX12_init_486 ?_
  refine xj_bipush (v := 108) (by decide) dX12_init_488 ?_
  refine lj_iast0 (k := 26) rfl rfl (by decide) (by decide) dX12_init_490 ?_
  refine xj_dup rfl dX12_init_491 ?_
  refine xj_bipush (v := 27) (by decide) dX12_init_492 ?_
  refine xj_bipush (v := 117) (by decide) dX12_init_494 ?_
  refine lj_iast0 (k := 27) rfl rfl (by decide) (by decide) dX12_init_496 ?_
  refine xj_dup rfl dX12_init_497 ?_
  refine xj_bipush (v := 28) (by decide) dX12_init_498 ?_
  refine xj_bipush (v := 109) (by decide) dX12_init_500 ?_
  refine lj_iast0 (k := 28) rfl rfl (by decide) (by decide) dX12_init_502 ?_
  refine xj_dup rfl dX12_init_503 ?_
  refine xj_bipush (v := 29) (by decide) dX12_init_504 ?_
  refine xj_bipush (v := 110) (by decide) dX12_init_506 ?_
  refine lj_iast0 (k := 29) rfl rfl (by decide) (by decide) dX12_init_508 ?_
  refine xj_dup rfl dX12_init_509 ?_
  refine xj_bipush (v := 30) (by decide) dX12_init_510 ?_
  refine xj_bipush (v := 32) (by decide) dX12_init_512 ?_
  refine lj_iast0 (k := 30) rfl rfl (by decide) (by decide) dX12_init_514 ?_
  refine xj_dup rfl dX12_init_515 ?_
  refine xj_bipush (v := 31) (by decide) dX12_init_516 ?_
  refine xj_bipush (v := 32) (by decide) dX12_init_518 ?_
  refine lj_iast0 (k := 31) rfl rfl (by decide) (by decide) dX12_init_520 ?_
  refine xj_dup rfl dX12_init_521 ?_
  refine xj_bipush (v := 32) (by decide) dX12_init_522 ?_
  refine xj_bipush (v := 114) (by decide) dX12_init_524 ?_
  refine lj_iast0 (k := 32) rfl rfl (by decide) (by decide) dX12_init_526 ?_
  refine xj_dup rfl dX12_init_527 ?_
  refine xj_bipush (v := 33) (by decide) dX12_init_528 ?_
  refine xj_bipush (v := 111) (by decide) dX12_init_530 ?_
  refine lj_iast0 (k := 33) rfl rfl (by decide) (by decide) dX12_init_532 ?_
  refine xj_dup rfl dX12_init_533 ?_
  refine xj_bipush (v := 34) (by decide) dX12_init_534 ?_
  refine xj_bipush (v := 119) (by decide) dX12_init_536 ?_
  refine lj_iast0 (k := 34) rfl rfl (by decide) (by decide) dX12_init_538 ?_
  refine xj_dup rfl dX12_init_539 ?_
  refine xj_bipush (v := 35) (by decide) dX12_init_540 ?_
  refine xj_bipush (v := 32) (by decide) dX12_init_542 ?_
  refine lj_iast0 (k := 35) rfl rfl (by decide) (by decide) dX12_init_544 ?_
  refine xj_dup rfl dX12_init_545 ?_
  refine xj_bipush (v := 36) (by decide) dX12_init_546 ?_
  refine xj_bipush (v := 32) (by decide) dX12_init_548 ?_
  refine lj_iast0 (k := 36) rfl rfl (by decide) (by decide) dX12_init_550 ?_
  refine xj_dup rfl dX12_init_551 ?_
  refine xj_bipush (v := 37) (by decide) dX12_init_552 ?_
  refine xj_bipush (v := 32) (by decide) dX12_init_554 ?_
  refine lj_iast0 (k := 37) rfl rfl (by decide) (by decide) dX12_init_556 ?_
  refine xj_dup rfl dX12_init_557 ?_
  refine xj_bipush (v := 38) (by decide) dX12_init_558 ?_
  refine xj_bipush (v := 32) (by decide) dX12_init_560 ?_
  refine lj_iast0 (k := 38) rfl rfl (by decide) (by decide) dX12_init_562 ?_
  refine xj_dup rfl dX12_init_563 ?_
  refine xj_bipush (v := 39) (by decide) dX12_init_564 ?_
  refine xj_bipush (v := 32) (by decide) dX12_init_566 ?_
  refine lj_iast0 (k := 39) rfl rfl (by decide) (by decide) dX12_init_568 ?_
  refine xj_dup rfl dX12_init_569 ?_
  refine xj_bipush (v := 40) (by decide) dX12_init_570 ?_
  refine xj_bipush (v := 100) (by decide) dX12_init_572 ?_
  refine lj_iast0 (k := 40) rfl rfl (by decide) (by decide) dX12_init_574 ?_
  refine xj_dup rfl dX12_init_575 ?_
  refine xj_bipush (v := 41) (by decide) dX12_init_576 ?_
  refine xj_bipush (v := 117) (by decide) dX12_init_578 ?_
  refine lj_iast0 (k := 41) rfl rfl (by decide) (by decide) dX12_init_580 ?_
  refine xj_dup rfl dX12_init_581 ?_
  refine xj_bipush (v := 42) (by decide) dX12_init_582 ?_
  refine xj_bipush (v := 108) (by decide) dX12_init_584 ?_
  refine lj_iast0 (k := 42) rfl rfl (by decide) (by decide) dX12_init_586 ?_
  refine xj_dup rfl dX12_init_587 ?_
  refine xj_bipush (v := 43) (by decide) dX12_init_588 ?_
  refine xj_bipush (v := 108) (by decide) dX12_init_590 ?_
  refine lj_iast0 (k := 43) rfl rfl (by decide) (by decide) dX12_init_592 ?_
  refine xj_dup rfl dX12_init_593 ?_
  refine xj_bipush (v := 44) (by decide) dX12_init_594 ?_
  refine xj_bipush (v := 32) (by decide) dX12_init_596 ?_
  refine lj_iast0 (k := 44) rfl rfl (by decide) (by decide) dX12_init_598 ?_
  refine xj_dup rfl dX12_init_599 ?_
  refine xj_bipush (v := 45) (by decide) dX12_init_600 ?_
  refine xj_bipush (v := 32) (by decide) dX12_init_602 ?_
  refine lj_iast0 (k := 45) rfl rfl (by decide) (by decide) dX12_init_604 ?_
  refine xj_dup rfl dX12_init_605 ?_
  refine xj_bipush (v := 46) (by decide) dX12_init_606 ?_
  refine xj_bipush (v := 32) (by decide) dX12_init_608 ?_
  refine lj_iast0 (k := 46) rfl rfl (by decide) (by decide) dX12_init_610 ?_
  refine xj_dup rfl dX12_init_611 ?_
  refine xj_bipush (v := 47) (by decide) dX12_init_612 ?_
  refine xj_bipush (v := 32) (by decide) dX12_init_614 ?_
  refine lj_iast0 (k := 47) rfl rfl (by decide) (by decide) dX12_init_616 ?_
  refine xj_dup rfl dX12_init_617 ?_
  refine xj_bipush (v := 48) (by decide) dX12_init_618 ?_
  refine xj_bipush (v := 110) (by decide) dX12_init_620 ?_
  refine lj_iast0 (k := 48) rfl rfl (by decide) (by decide) dX12_init_622 ?_
  refine xj_dup rfl dX12_init_623 ?_
  refine xj_bipush (v := 49) (by decide) dX12_init_624 ?_
  refine xj_bipush (v := 105) (by decide) dX12_init_626 ?_
  refine lj_iast0 (k := 49) rfl rfl (by decide) (by decide) dX12_init_628 ?_
  refine xj_dup rfl dX12_init_629 ?_
  refine xj_bipush (v := 50) (by decide) dX12_init_630 ?_
  refine xj_bipush (v := 103) (by decide) dX12_init_632 ?_
  refine lj_iast0 (k := 50) rfl rfl (by decide) (by decide) dX12_init_634 ?_
  refine xj_dup rfl dX12_init_635 ?_
  refine xj_bipush (v := 51) (by decide) dX12_init_636 ?_
  refine xj_bipush (v := 104) (by decide) dX12_init_638 ?_
  refine lj_iast0 (k := 51) rfl rfl (by decide) (by decide) dX12_init_640 ?_
  refine xj_dup rfl dX12_init_641 ?_
  refine xj_bipush (v := 52) (by decide) dX12_init_642 ?_
  refine xj_bipush (v := 116) (by decide) dX12_init_644 ?_
  refine lj_iast0 (k := 52) rfl rfl (by decide) (by decide) dX12_init_646 ?_
  refine xj_dup rfl dX12_init_647 ?_
  refine xj_bipush (v := 53) (by decide) dX12_init_648 ?_
  refine xj_bipush (v := 32) (by decide) dX12_init_650 ?_
  refine lj_iast0 (k := 53) rfl rfl (by decide) (by decide) dX12_init_652 ?_
  refine xj_dup rfl dX12_init_653 ?_
  refine xj_bipush (v := 54) (by decide) dX12_init_654 ?_
  refine xj_bipush (v := 32) (by decide) dX12_init_656 ?_
  refine lj_iast0 (k := 54) rfl rfl (by decide) (by decide) dX12_init_658 ?_
  refine xj_dup rfl dX12_init_659 ?_
  refine xj_bipush (v := 55) (by decide) dX12_init_660 ?_
  refine xj_bipush (v := 32) (by decide) dX12_init_662 ?_
  refine lj_iast0 (k := 55) rfl rfl (by decide) (by decide) dX12_init_664 ?_
  refine xj_dup rfl dX12_init_665 ?_
  refine xj_bipush (v := 56) (by decide) dX12_init_666 ?_
  refine xj_bipush (v := 109) (by decide) dX12_init_668 ?_
  refine lj_iast0 (k := 56) rfl rfl (by decide) (by decide) dX12_init_670 ?_
  refine xj_dup rfl dX12_init_671 ?_
  refine xj_bipush (v := 57) (by decide) dX12_init_672 ?_
  refine xj_bipush (v := 111) (by decide) dX12_init_674 ?_
  refine lj_iast0 (k := 57) rfl rfl (by decide) (by decide) dX12_init_676 ?_
  refine xj_dup rfl dX12_init_677 ?_
  refine xj_bipush (v := 58) (by decide) dX12_init_678 ?_
  refine xj_bipush (v := 114) (by decide) dX12_init_680 ?_
  refine lj_iast0 (k := 58) rfl rfl (by decide) (by decide) dX12_init_682 ?_
  refine xj_dup rfl dX12_init_683 ?_
  refine xj_bipush (v := 59) (by decide) dX12_init_684 ?_
  refine xj_bipush (v := 101) (by decide) dX12_init_686 ?_
  refine lj_iast0 (k := 59) rfl rfl (by decide) (by decide) dX12_init_688 ?_
  refine xj_dup rfl dX12_init_689 ?_
  refine xj_bipush (v := 60) (by decide) dX12_init_690 ?_
  refine xj_bipush (v := 32) (by decide) dX12_init_692 ?_
  refine lj_iast0 (k := 60) rfl rfl (by decide) (by decide) dX12_init_694 ?_
  refine xj_dup rfl dX12_init_695 ?_
  refine xj_bipush (v := 61) (by decide) dX12_init_696 ?_
  refine xj_bipush (v := 32) (by decide) dX12_init_698 ?_
  refine lj_iast0 (k := 61) rfl rfl (by decide) (by decide) dX12_init_700 ?_
  refine xj_dup rfl dX12_init_701 ?_
  refine xj_bipush (v := 62) (by decide) dX12_init_702 ?_
  refine xj_bipush (v := 32) (by decide) dX12_init_704 ?_
  refine lj_iast0 (k := 62) rfl rfl (by decide) (by decide) dX12_init_706 ?_
  refine xj_dup rfl dX12_init_707 ?_
  refine xj_bipush (v := 63) (by decide) dX12_init_708 ?_
  refine xj_bipush (v := 32) (by decide) dX12_init_710 ?_
  refine lj_iast0 (k := 63) rfl rfl (by decide) (by decide) dX12_init_712 ?_
  refine xj_dup rfl dX12_init_713 ?_
  refine xj_bipush (v := 64) (by decide) dX12_init_714 ?_
  refine xj_bipush (v := 98) (by decide) dX12_init_716 ?_
  refine lj_iast0 (k := 64) rfl rfl (by decide) (by decide) dX12_init_718 ?_
  refine xj_dup rfl dX12_init_719 ?_
  refine xj_bipush (v := 65) (by decide) dX12_init_720 ?_
  refine xj_bipush (v := 101) (by decide) dX12_init_722 ?_
  refine lj_iast0 (k := 65) rfl rfl (by decide) (by decide) dX12_init_724 ?_
  refine xj_dup rfl dX12_init_725 ?_
  refine xj_bipush (v := 66) (by decide) dX12_init_726 ?_
  refine xj_bipush (v := 104) (by decide) dX12_init_728 ?_
  refine lj_iast0 (k := 66) rfl rfl (by decide) (by decide) dX12_init_730 ?_
  refine xj_dup rfl dX12_init_731 ?_
  refine xj_bipush (v := 67) (by decide) dX12_init_732 ?_
  refine xj_bipush (v := 105) (by decide) dX12_init_734 ?_
  refine lj_iast0 (k := 67) rfl rfl (by decide) (by decide) dX12_init_736 ?_
  refine xj_dup rfl dX12_init_737 ?_
  refine xj_bipush (v := 68) (by decide) dX12_init_738 ?_
  refine xj_bipush (v := 110) (by decide) dX12_init_740 ?_
  refine lj_iast0 (k := 68) rfl rfl (by decide) (by decide) dX12_init_742 ?_
  refine xj_dup rfl dX12_init_743 ?_
  refine xj_bipush (v := 69) (by decide) dX12_init_744 ?_
  refine xj_bipush (v := 100) (by decide) dX12_init_746 ?_
  refine lj_iast0 (k := 69) rfl rfl (by decide) (by decide) dX12_init_748 ?_
  refine xj_dup rfl dX12_init_749 ?_
  refine xj_bipush (v := 70) (by decide) dX12_init_750 ?_
  refine xj_bipush (v := 32) (by decide) dX12_init_752 ?_
  refine lj_iast0 (k := 70) rfl rfl (by decide) (by decide) dX12_init_754 ?_
  refine xj_dup rfl dX12_init_755 ?_
  refine xj_bipush (v := 71) (by decide) dX12_init_756 ?_
  refine xj_bipush (v := 32) (by decide) dX12_init_758 ?_
  refine lj_iast0 (k := 71) rfl rfl (by decide) (by decide) dX12_init_760 ?_
  refine xj_dup rfl dX12_init_761 ?_
  refine xj_bipush (v := 72) (by decide) dX12_init_762 ?_
  refine xj_bipush (v := 111) (by decide) dX12_init_764 ?_
  refine lj_iast0 (k := 72) rfl rfl (by decide) (by decide) dX12_init_766 ?_
  refine xj_dup rfl dX12_init_767 ?_
  refine xj_bipush (v := 73) (by decide) dX12_init_768 ?_
  refine xj_bipush (v := 114) (by decide) dX12_init_770 ?_
  refine lj_iast0 (k := 73) rfl rfl (by decide) (by decide) dX12_init_772 ?_
  refine xj_dup rfl dX12_init_773 ?_
  refine xj_bipush (v := 74) (by decide) dX12_init_774 ?_
  refine xj_bipush (v := 32) (by decide) dX12_init_776 ?_
  refine lj_iast0 (k := 74) rfl rfl (by decide) (by decide) dX12_init_778 ?_
  refine xj_dup rfl dX12_init_779 ?_
  refine xj_bipush (v := 75) (by decide) dX12_init_780 ?_
  refine xj_bipush (v := 32) (by decide) dX12_init_782 ?_
  refine lj_iast0 (k := 75) rfl rfl (by decide) (by decide) dX12_init_784 ?_
  refine xj_dup rfl dX12_init_785 ?_
  refine xj_bipush (v := 76) (by decide) dX12_init_786 ?_
  refine xj_bipush (v := 32) (by decide) dX12_init_788 ?_
  refine lj_iast0 (k := 76) rfl rfl (by decide) (by decide) dX12_init_790 ?_
  refine xj_dup rfl dX12_init_791 ?_
  refine xj_bipush (v := 77) (by decide) dX12_init_792 ?_
  refine xj_bipush (v := 32) (by decide) dX12_init_794 ?_
  refine lj_iast0 (k := 77) rfl rfl (by decide) (by decide) dX12_init_796 ?_
  refine xj_dup rfl dX12_init_797 ?_
  refine xj_bipush (v := 78) (by decide) dX12_init_798 ?_
  refine xj_bipush (v := 32) (by decide) dX12_init_800 ?_
  refine lj_iast0 (k := 78) rfl rfl (by decide) (by decide) dX12_init_802 ?_
  refine xj_dup rfl dX12_init_803 ?_
  refine xj_bipush (v := 79) (by decide) dX12_init_804 ?_
  refine xj_bipush (v := 32) (by decide) dX12_init_806 ?_
  refine lj_iast0 (k := 79) rfl rfl (by decide) (by decide) dX12_init_808 ?_
  refine xj_dup rfl dX12_init_809 ?_
  refine xj_bipush (v := 80) (by decide) dX12_init_810 ?_
  refine xj_bipush (v := 97) (by decide) dX12_init_812 ?_
  refine lj_iast0 (k := 80) rfl rfl (by decide) (by decide) dX12_init_814 ?_
  refine xj_dup rfl dX12_init_815 ?_
  refine xj_bipush (v := 81) (by decide) dX12_init_816 ?_
  refine xj_bipush (v := 110) (by decide) dX12_init_818 ?_
  refine lj_iast0 (k := 81) rfl rfl (by decide) (by decide) dX12_init_820 ?_
  refine xj_dup rfl dX12_init_821 ?_
  refine xj_bipush (v := 82) (by decide) dX12_init_822 ?_
  refine xj_bipush (v := 100) (by decide) dX12_init_824 ?_
  refine lj_iast0 (k := 82) rfl rfl (by decide) (by decide) dX12_init_826 ?_
  refine xj_dup rfl dX12_init_827 ?_
  refine xj_bipush (v := 83) (by decide) dX12_init_828 ?_
  refine xj_bipush (v := 32) (by decide) dX12_init_830 ?_
  refine lj_iast0 (k := 83) rfl rfl (by decide) (by decide) dX12_init_832 ?_
  refine xj_dup rfl dX12_init_833 ?_
  refine xj_bipush (v := 84) (by decide) dX12_init_834 ?_
  refine xj_bipush (v := 32) (by decide) dX12_init_836 ?_
  refine lj_iast0 (k := 84) rfl rfl (by decide) (by decide) dX12_init_838 ?_
  refine xj_dup rfl dX12_init_839 ?_
  refine xj_bipush (v := 85) (by decide) dX12_init_840 ?_
  refine xj_bipush (v := 32) (by decide) dX12_init_842 ?_
  refine lj_iast0 (k := 85) rfl rfl (by decide) (by decide) dX12_init_844 ?_
  refine xj_dup rfl dX12_init_845 ?_
  refine xj_bipush (v := 86) (by decide) dX12_init_846 ?_
  refine xj_bipush (v := 32) (by decide) dX12_init_848 ?_
  refine lj_iast0 (k := 86) rfl rfl (by decide) (by decide) dX12_init_850 ?_
  refine xj_dup rfl dX12_init_851 ?_
  refine xj_bipush (v := 87) (by decide) dX12_init_852 ?_
  refine xj_bipush (v := 32) (by decide) dX12_init_854 ?_
  refine lj_iast0 (k := 87) rfl rfl (by decide) (by decide) dX12_init_856 ?_
  refine xj_dup rfl dX12_init_857 ?_
  refine xj_bipush (v := 88) (by decide) dX12_init_858 ?_
  refine xj_bipush (v := 110) (by decide) dX12_init_860 ?_
  refine lj_iast0 (k := 88) rfl rfl (by decide) (by decide) dX12_init_862 ?_
  refine xj_dup rfl dX12_init_863 ?_
  refine xj_bipush (v := 89) (by decide) dX12_init_864 ?_
  refine xj_bipush (v := 111) (by decide) dX12_init_866 ?_
  refine lj_iast0 (k := 89) rfl rfl (by decide) (by decide) dX12_init_868 ?_
  refine xj_dup rfl dX12_init_869 ?_
  refine xj_bipush (v := 90) (by decide) dX12_init_870 ?_
  refine xj_bipush (v := 116) (by decide) dX12_init_872 ?_
  refine lj_iast0 (k := 90) rfl rfl (by decide) (by decide) dX12_init_874 ?_
  refine xj_dup rfl dX12_init_875 ?_
  refine xj_bipush (v := 91) (by decide) dX12_init_876 ?_
  refine xj_bipush (v := 32) (by decide) dX12_init_878 ?_
  refine lj_iast0 (k := 91) rfl rfl (by decide) (by decide) dX12_init_880 ?_
  refine xj_dup rfl dX12_init_881 ?_
  refine xj_bipush (v := 92) (by decide) dX12_init_882 ?_
  refine xj_bipush (v := 32) (by decide) dX12_init_884 ?_
  refine lj_iast0 (k := 92) rfl rfl (by decide) (by decide) dX12_init_886 ?_
  refine xj_dup rfl dX12_init_887 ?_
  refine xj_bipush (v := 93) (by decide) dX12_init_888 ?_
  refine xj_bipush (v := 32) (by decide) dX12_init_890 ?_
  refine lj_iast0 (k := 93) rfl rfl (by decide) (by decide) dX12_init_892 ?_
  refine xj_dup rfl dX12_init_893 ?_
  refine xj_bipush (v := 94) (by decide) dX12_init_894 ?_
  refine xj_bipush (v := 32) (by decide) dX12_init_896 ?_
  refine lj_iast0 (k := 94) rfl rfl (by decide) (by decide) dX12_init_898 ?_
  refine xj_dup rfl dX12_init_899 ?_
  refine xj_bipush (v := 95) (by decide) dX12_init_900 ?_
  refine xj_bipush (v := 32) (by decide) dX12_init_902 ?_
  refine lj_iast0 (k := 95) rfl rfl (by decide) (by decide) dX12_init_904 ?_
  refine lj_putF (L' := ((.inl (96, (upd (upd (upd (upd (upd (upd (upd (upd (upd (upd (upd (upd (upd (upd (upd (upd (upd (upd (upd (upd (upd (upd (upd (upd (upd (upd (upd (upd (upd (upd (upd (upd (upd (upd (upd (upd (upd (upd (upd (upd (upd (upd (upd (upd (upd (upd (upd (upd (upd (upd (upd (upd (upd (upd (upd (upd (upd (upd (upd (upd (upd (upd (upd (upd (upd (upd (upd (upd (upd (upd (upd (upd (upd (upd (upd (upd (upd (upd (upd (upd (upd (upd (upd (upd (upd (upd (upd (upd (upd (upd (upd (upd (upd (upd (upd (upd (fun _ => 0) 0 100) 1 117) 2 108) 3 108) 4 115) 5 32) 6 32) 7 32) 8 108) 9 105) 10 109) 11 105) 12 116) 13 32) 14 32) 15 32) 16 99) 17 111) 18 115) 19 116) 20 115) 21 32) 22 32) 23 32) 24 99) 25 111) 26 108) 27 117) 28 109) 29 110) 30 32) 31 32) 32 114) 33 111) 34 119) 35 32) 36 32) 37 32) 38 32) 39 32) 40 100) 41 117) 42 108) 43 108) 44 32) 45 32) 46 32) 47 32) 48 110) 49 105) 50 103) 51 104) 52 116) 53 32) 54 32) 55 32) 56 109) 57 111) 58 114) 59 101) 60 32) 61 32) 62 32) 63 32) 64 98) 65 101) 66 104) 67 105) 68 110) 69 100) 70 32) 71 32) 72 111) 73 114) 74 32) 75 32) 76 32) 77 32) 78 32) 79 32) 80 97) 81 110) 82 100) 83 32) 84 32) 85 32) 86 32) 87 32) 88 110) 89 111) 90 116) 91 32) 92 32) 93 32) 94 32) 95 32))) :: (.inl (33, (upd (upd (upd (upd (upd (upd (upd (upd (upd (upd (upd (upd (upd (upd (upd (upd (upd (upd (upd (upd (upd (upd (upd (upd (upd (upd (upd (upd (upd (upd (upd (upd (upd (fun _ => 0) 0 100) 1 117) 2 108) 3 108) 4 115) 5 32) 6 51) 7 32) 8 59) 9 32) 10 108) 11 105) 12 109) 13 105) 14 116) 15 32) 16 49) 17 48) 18 32) 19 59) 20 32) 21 99) 22 111) 23 115) 24 116) 25 115) 26 32) 27 100) 28 117) 29 108) 30 108) 31 32) 32 59))) :: (.inl (160, (fun _ => 0))) :: (.inl (4, (fun _ => 0))) :: (.inl (4, (upd (upd (upd (upd (fun _ => 0) 0 (-1)) 1 (-1)) 2 (-1)) 3 (-1)))) :: (.inl (4, (fun _ => 0))) :: (.inl (6, (fun _ => 0))) :: (.inl (96, (fun _ => 0))) :: (.inl (24, (fun _ => 0))) :: (.inl (1200, (fun _ => 0))) :: (.inl (160, (fun _ => 0))) :: (.inl (6, (fun _ => 0))) :: (.inl (96, (fun _ => 0))) :: (.inl (6, (fun _ => 0))) :: (.inl (6, (fun _ => 0))) :: (.inr (.inr (12, [.int 0, .ref 87, .ref 88, .ref 89, .ref 90, .int 0, .int 60, .ref 91, .int 0, .ref 92, .ref 93, .int 0, .int 0, .int 0, .ref 94, .ref 95, .ref 96, .ref 97, .ref 98, .ref 99, .ref 100, .int 0, .int 0, .int 0, .int 0, .ref 101, .null, .int 0, .int 0, .int 0, .null, .null, .null, .int 0, .int 0, .int 0, .int 0, .null, .null, .null, .null]))) :: cl11)) (i := 15) fl_X12_56_12 rfl (fun x e => by cases e; rfl) rfl rfl rfl (fun _ => ⟨rfl, rfl⟩) (Nat.le_of_ble_eq_true rfl) dX12_init_905 ?_
  refine xj_aload_n (n := 0) (i := 0) 0 rfl rfl dX12_init_908 ?_
  refine xj_sipush (v := 200) (by decide) dX12_init_909 ?_
  refine lj_newi (N := 200) (k := 102) rfl (by decide) rfl (by decide) (Nat.le_of_ble_eq_true rfl) (Nat.le_of_ble_eq_true rfl) (Nat.le_of_ble_eq_true rfl) dX12_init_912 ?_
  refine lj_putF (L' := ((.inl (200, (fun _ => 0))) :: (.inl (96, (upd (upd (upd (upd (upd (upd (upd (upd (upd (upd (upd (upd (upd (upd (upd (upd (upd (upd (upd (upd (upd (upd (upd (upd (upd (upd (upd (upd (upd (upd (upd (upd (upd (upd (upd (upd (upd (upd (upd (upd (upd (upd (upd (upd (upd (upd (upd (upd (upd (upd (upd (upd (upd (upd (upd (upd (upd (upd (upd (upd (upd (upd (upd (upd (upd (upd (upd (upd (upd (upd (upd (upd (upd (upd (upd (upd (upd (upd (upd (upd (upd (upd (upd (upd (upd (upd (upd (upd (upd (upd (upd (upd (upd (upd (upd (upd (fun _ => 0) 0 100) 1 117) 2 108) 3 108) 4 115) 5 32) 6 32) 7 32) 8 108) 9 105) 10 109) 11 105) 12 116) 13 32) 14 32) 15 32) 16 99) 17 111) 18 115) 19 116) 20 115) 21 32) 22 32) 23 32) 24 99) 25 111) 26 108) 27 117) 28 109) 29 110) 30 32) 31 32) 32 114) 33 111) 34 119) 35 32) 36 32) 37 32) 38 32) 39 32) 40 100) 41 117) 42 108) 43 108) 44 32) 45 32) 46 32) 47 32) 48 110) 49 105) 50 103) 51 104) 52 116) 53 32) 54 32) 55 32) 56 109) 57 111) 58 114) 59 101) 60 32) 61 32) 62 32) 63 32) 64 98) 65 101) 66 104) 67 105) 68 110) 69 100) 70 32) 71 32) 72 111) 73 114) 74 32) 75 32) 76 32) 77 32) 78 32) 79 32) 80 97) 81 110) 82 100) 83 32) 84 32) 85 32) 86 32) 87 32) 88 110) 89 111) 90 116) 91 32) 92 32) 93 32) 94 32) 95 32))) :: (.inl (33, (upd (upd (upd (upd (upd (upd (upd (upd (upd (upd (upd (upd (upd (upd (upd (upd (upd (upd (upd (upd (upd (upd (upd (upd (upd (upd (upd (upd (upd (upd (upd (upd (upd (fun _ => 0) 0 100) 1 117) 2 108) 3 108) 4 115) 5 32) 6 51) 7 32) 8 59) 9 32) 10 108) 11 105) 12 109) 13 105) 14 116) 15 32) 16 49) 17 48) 18 32) 19 59) 20 32) 21 99) 22 111) 23 115) 24 116) 25 115) 26 32) 27 100) 28 117) 29 108) 30 108) 31 32) 32 59))) :: (.inl (160, (fun _ => 0))) :: (.inl (4, (fun _ => 0))) :: (.inl (4, (upd (upd (upd (upd (fun _ => 0) 0 (-1)) 1 (-1)) 2 (-1)) 3 (-1)))) :: (.inl (4, (fun _ => 0))) :: (.inl (6, (fun _ => 0))) :: (.inl (96, (fun _ => 0))) :: (.inl (24, (fun _ => 0))) :: (.inl (1200, (fun _ => 0))) :: (.inl (160, (fun _ => 0))) :: (.inl (6, (fun _ => 0))) :: (.inl (96, (fun _ => 0))) :: (.inl (6, (fun _ => 0))) :: (.inl (6, (fun _ => 0))) :: (.inr (.inr (12, [.int 0, .ref 87, .ref 88, .ref 89, .ref 90, .int 0, .int 60, .ref 91, .int 0, .ref 92, .ref 93, .int 0, .int 0, .int 0, .ref 94, .ref 95, .ref 96, .ref 97, .ref 98, .ref 99, .ref 100, .int 0, .int 0, .int 0, .int 0, .ref 101, .ref 102, .int 0, .int 0, .int 0, .null, .null, .null, .int 0, .int 0, .int 0, .int 0, .null, .null, .null, .null]))) :: cl11)) (i := 16) fl_X12_59_12 rfl (fun x e => by cases e; rfl) rfl rfl rfl (fun _ => ⟨rfl, rfl⟩) (Nat.le_of_ble_eq_true rfl) dX12_init_914 ?_
  refine xj_aload_n (n := 0) (i := 0) 0 rfl rfl dX12_init_917 ?_
  refine xj_sipush (v := 200) (by decide) dX12_init_918 ?_
  refine lj_newi (N := 200) (k := 103) rfl (by decide) rfl (by decide) (Nat.le_of_ble_eq_true rfl) (Nat.le_of_ble_eq_true rfl) (Nat.le_of_ble_eq_true rfl) dX12_init_921 ?_
  refine lj_putF (L' := ((.inl (200, (fun _ => 0))) :: (.inl (200, (fun _ => 0))) :: (.inl (96, (upd (upd (upd (upd (upd (upd (upd (upd (upd (upd (upd (upd (upd (upd (upd (upd (upd (upd (upd (upd (upd (upd (upd (upd (upd (upd (upd (upd (upd (upd (upd (upd (upd (upd (upd (upd (upd (upd (upd (upd (upd (upd (upd (upd (upd (upd (upd (upd (upd (upd (upd (upd (upd (upd (upd (upd (upd (upd (upd (upd (upd (upd (upd (upd (upd (upd (upd (upd (upd (upd (upd (upd (upd (upd (upd (upd (upd (upd (upd (upd (upd (upd (upd (upd (upd (upd (upd (upd (upd (upd (upd (upd (upd (upd (upd (upd (fun _ => 0) 0 100) 1 117) 2 108) 3 108) 4 115) 5 32) 6 32) 7 32) 8 108) 9 105) 10 109) 11 105) 12 116) 13 32) 14 32) 15 32) 16 99) 17 111) 18 115) 19 116) 20 115) 21 32) 22 32) 23 32) 24 99) 25 111) 26 108) 27 117) 28 109) 29 110) 30 32) 31 32) 32 114) 33 111) 34 119) 35 32) 36 32) 37 32) 38 32) 39 32) 40 100) 41 117) 42 108) 43 108) 44 32) 45 32) 46 32) 47 32) 48 110) 49 105) 50 103) 51 104) 52 116) 53 32) 54 32) 55 32) 56 109) 57 111) 58 114) 59 101) 60 32) 61 32) 62 32) 63 32) 64 98) 65 101) 66 104) 67 105) 68 110) 69 100) 70 32) 71 32) 72 111) 73 114) 74 32) 75 32) 76 32) 77 32) 78 32) 79 32) 80 97) 81 110) 82 100) 83 32) 84 32) 85 32) 86 32) 87 32) 88 110) 89 111) 90 116) 91 32) 92 32) 93 32) 94 32) 95 32))) :: (.inl (33, (upd (upd (upd (upd (upd (upd (upd (upd (upd (upd (upd (upd (upd (upd (upd (upd (upd (upd (upd (upd (upd (upd (upd (upd (upd (upd (upd (upd (upd (upd (upd (upd (upd (fun _ => 0) 0 100) 1 117) 2 108) 3 108) 4 115) 5 32) 6 51) 7 32) 8 59) 9 32) 10 108) 11 105) 12 109) 13 105) 14 116) 15 32) 16 49) 17 48) 18 32) 19 59) 20 32) 21 99) 22 111) 23 115) 24 116) 25 115) 26 32) 27 100) 28 117) 29 108) 30 108) 31 32) 32 59))) :: (.inl (160, (fun _ => 0))) :: (.inl (4, (fun _ => 0))) :: (.inl (4, (upd (upd (upd (upd (fun _ => 0) 0 (-1)) 1 (-1)) 2 (-1)) 3 (-1)))) :: (.inl (4, (fun _ => 0))) :: (.inl (6, (fun _ => 0))) :: (.inl (96, (fun _ => 0))) :: (.inl (24, (fun _ => 0))) :: (.inl (1200, (fun _ => 0))) :: (.inl (160, (fun _ => 0))) :: (.inl (6, (fun _ => 0))) :: (.inl (96, (fun _ => 0))) :: (.inl (6, (fun _ => 0))) :: (.inl (6, (fun _ => 0))) :: (.inr (.inr (12, [.int 0, .ref 87, .ref 88, .ref 89, .ref 90, .int 0, .int 60, .ref 91, .int 0, .ref 92, .ref 93, .int 0, .int 0, .int 0, .ref 94, .ref 95, .ref 96, .ref 97, .ref 98, .ref 99, .ref 100, .int 0, .int 0, .int 0, .int 0, .ref 101, .ref 102, .int 0, .int 0, .int 0, .ref 103, .null, .null, .int 0, .int 0, .int 0, .int 0, .null, .null, .null, .null]))) :: cl11)) (i := 17) fl_X12_62_12 rfl (fun x e => by cases e; rfl) rfl rfl rfl (fun _ => ⟨rfl, rfl⟩) (Nat.le_of_ble_eq_true rfl) dX12_init_923 ?_
  refine xj_aload_n (n := 0) (i := 0) 0 rfl rfl dX12_init_926 ?_
  refine xj_bipush (v := 6) (by decide) dX12_init_927 ?_
  refine lj_newi (N := 6) (k := 104) rfl (by decide) rfl (by decide) (Nat.le_of_ble_eq_true rfl) (Nat.le_of_ble_eq_true rfl) (Nat.le_of_ble_eq_true rfl) dX12_init_929 ?_
  refine lj_putF (L' := ((.inl (6, (fun _ => 0))) :: (.inl (200, (fun _ => 0))) :: (.inl (200, (fun _ => 0))) :: (.inl (96, (upd (upd (upd (upd (upd (upd (upd (upd (upd (upd (upd (upd (upd (upd (upd (upd (upd (upd (upd (upd (upd (upd (upd (upd (upd (upd (upd (upd (upd (upd (upd (upd (upd (upd (upd (upd (upd (upd (upd (upd (upd (upd (upd (upd (upd (upd (upd (upd (upd (upd (upd (upd (upd (upd (upd (upd (upd (upd (upd (upd (upd (upd (upd (upd (upd (upd (upd (upd (upd (upd (upd (upd (upd (upd (upd (upd (upd (upd (upd (upd (upd (upd (upd (upd (upd (upd (upd (upd (upd (upd (upd (upd (upd (upd (upd (upd (fun _ => 0) 0 100) 1 117) 2 108) 3 108) 4 115) 5 32) 6 32) 7 32) 8 108) 9 105) 10 109) 11 105) 12 116) 13 32) 14 32) 15 32) 16 99) 17 111) 18 115) 19 116) 20 115) 21 32) 22 32) 23 32) 24 99) 25 111) 26 108) 27 117) 28 109) 29 110) 30 32) 31 32) 32 114) 33 111) 34 119) 35 32) 36 32) 37 32) 38 32) 39 32) 40 100) 41 117) 42 108) 43 108) 44 32) 45 32) 46 32) 47 32) 48 110) 49 105) 50 103) 51 104) 52 116) 53 32) 54 32) 55 32) 56 109) 57 111) 58 114) 59 101) 60 32) 61 32) 62 32) 63 32) 64 98) 65 101) 66 104) 67 105) 68 110) 69 100) 70 32) 71 32) 72 111) 73 114) 74 32) 75 32) 76 32) 77 32) 78 32) 79 32) 80 97) 81 110) 82 100) 83 32) 84 32) 85 32) 86 32) 87 32) 88 110) 89 111) 90 116) 91 32) 92 32) 93 32) 94 32) 95 32))) :: (.inl (33, (upd (upd (upd (upd (upd (upd (upd (upd (upd (upd (upd (upd (upd (upd (upd (upd (upd (upd (upd (upd (upd (upd (upd (upd (upd (upd (upd (upd (upd (upd (upd (upd (upd (fun _ => 0) 0 100) 1 117) 2 108) 3 108) 4 115) 5 32) 6 51) 7 32) 8 59) 9 32) 10 108) 11 105) 12 109) 13 105) 14 116) 15 32) 16 49) 17 48) 18 32) 19 59) 20 32) 21 99) 22 111) 23 115) 24 116) 25 115) 26 32) 27 100) 28 117) 29 108) 30 108) 31 32) 32 59))) :: (.inl (160, (fun _ => 0))) :: (.inl (4, (fun _ => 0))) :: (.inl (4, (upd (upd (upd (upd (fun _ => 0) 0 (-1)) 1 (-1)) 2 (-1)) 3 (-1)))) :: (.inl (4, (fun _ => 0))) :: (.inl (6, (fun _ => 0))) :: (.inl (96, (fun _ => 0))) :: (.inl (24, (fun _ => 0))) :: (.inl (1200, (fun _ => 0))) :: (.inl (160, (fun _ => 0))) :: (.inl (6, (fun _ => 0))) :: (.inl (96, (fun _ => 0))) :: (.inl (6, (fun _ => 0))) :: (.inl (6, (fun _ => 0))) :: (.inr (.inr (12, [.int 0, .ref 87, .ref 88, .ref 89, .ref 90, .int 0, .int 60, .ref 91, .int 0, .ref 92, .ref 93, .int 0, .int 0, .int 0, .ref 94, .ref 95, .ref 96, .ref 97, .ref 98, .ref 99, .ref 100, .int 0, .int 0, .int 0, .int 0, .ref 101, .ref 102, .int 0, .int 0, .int 0, .ref 103, .ref 104, .null, .int 0, .int 0, .int 0, .int 0, .null, .null, .null, .null]))) :: cl11)) (i := 18) fl_X12_65_12 rfl (fun x e => by cases e; rfl) rfl rfl rfl (fun _ => ⟨rfl, rfl⟩) (Nat.le_of_ble_eq_true rfl) dX12_init_931 ?_
  refine xj_aload_n (n := 0) (i := 0) 0 rfl rfl dX12_init_934 ?_
  refine xj_bipush (v := 16) (by decide) dX12_init_935 ?_
  refine lj_newi (N := 16) (k := 105) rfl (by decide) rfl (by decide) (Nat.le_of_ble_eq_true rfl) (Nat.le_of_ble_eq_true rfl) (Nat.le_of_ble_eq_true rfl) dX12_init_937 ?_
  refine lj_putF (L' := ((.inl (16, (fun _ => 0))) :: (.inl (6, (fun _ => 0))) :: (.inl (200, (fun _ => 0))) :: (.inl (200, (fun _ => 0))) :: (.inl (96, (upd (upd (upd (upd (upd (upd (upd (upd (upd (upd (upd (upd (upd (upd (upd (upd (upd (upd (upd (upd (upd (upd (upd (upd (upd (upd (upd (upd (upd (upd (upd (upd (upd (upd (upd (upd (upd (upd (upd (upd (upd (upd (upd (upd (upd (upd (upd (upd (upd (upd (upd (upd (upd (upd (upd (upd (upd (upd (upd (upd (upd (upd (upd (upd (upd (upd (upd (upd (upd (upd (upd (upd (upd (upd (upd (upd (upd (upd (upd (upd (upd (upd (upd (upd (upd (upd (upd (upd (upd (upd (upd (upd (upd (upd (upd (upd (fun _ => 0) 0 100) 1 117) 2 108) 3 108) 4 115) 5 32) 6 32) 7 32) 8 108) 9 105) 10 109) 11 105) 12 116) 13 32) 14 32) 15 32) 16 99) 17 111) 18 115) 19 116) 20 115) 21 32) 22 32) 23 32) 24 99) 25 111) 26 108) 27 117) 28 109) 29 110) 30 32) 31 32) 32 114) 33 111) 34 119) 35 32) 36 32) 37 32) 38 32) 39 32) 40 100) 41 117) 42 108) 43 108) 44 32) 45 32) 46 32) 47 32) 48 110) 49 105) 50 103) 51 104) 52 116) 53 32) 54 32) 55 32) 56 109) 57 111) 58 114) 59 101) 60 32) 61 32) 62 32) 63 32) 64 98) 65 101) 66 104) 67 105) 68 110) 69 100) 70 32) 71 32) 72 111) 73 114) 74 32) 75 32) 76 32) 77 32) 78 32) 79 32) 80 97) 81 110) 82 100) 83 32) 84 32) 85 32) 86 32) 87 32) 88 110) 89 111) 90 116) 91 32) 92 32) 93 32) 94 32) 95 32))) :: (.inl (33, (upd (upd (upd (upd (upd (upd (upd (upd (upd (upd (upd (upd (upd (upd (upd (upd (upd (upd (upd (upd (upd (upd (upd (upd (upd (upd (upd (upd (upd (upd (upd (upd (upd (fun _ => 0) 0 100) 1 117) 2 108) 3 108) 4 115) 5 32) 6 51) 7 32) 8 59) 9 32) 10 108) 11 105) 12 109) 13 105) 14 116) 15 32) 16 49) 17 48) 18 32) 19 59) 20 32) 21 99) 22 111) 23 115) 24 116) 25 115) 26 32) 27 100) 28 117) 29 108) 30 108) 31 32) 32 59))) :: (.inl (160, (fun _ => 0))) :: (.inl (4, (fun _ => 0))) :: (.inl (4, (upd (upd (upd (upd (fun _ => 0) 0 (-1)) 1 (-1)) 2 (-1)) 3 (-1)))) :: (.inl (4, (fun _ => 0))) :: (.inl (6, (fun _ => 0))) :: (.inl (96, (fun _ => 0))) :: (.inl (24, (fun _ => 0))) :: (.inl (1200, (fun _ => 0))) :: (.inl (160, (fun _ => 0))) :: (.inl (6, (fun _ => 0))) :: (.inl (96, (fun _ => 0))) :: (.inl (6, (fun _ => 0))) :: (.inl (6, (fun _ => 0))) :: (.inr (.inr (12, [.int 0, .ref 87, .ref 88, .ref 89, .ref 90, .int 0, .int 60, .ref 91, .int 0, .ref 92, .ref 93, .int 0, .int 0, .int 0, .ref 94, .ref 95, .ref 96, .ref 97, .ref 98, .ref 99, .ref 100, .int 0, .int 0, .int 0, .int 0, .ref 101, .ref 102, .int 0, .int 0, .int 0, .ref 103, .ref 104, .ref 105, .int 0, .int 0, .int 0, .int 0, .null, .null, .null, .null]))) :: cl11)) (i := 19) fl_X12_68_12 rfl (fun x e => by cases e; rfl) rfl rfl rfl (fun _ => ⟨rfl, rfl⟩) (Nat.le_of_ble_eq_true rfl) dX12_init_939 ?_
  refine xj_aload_n (n := 0) (i := 0) 0 rfl rfl dX12_init_942 ?_
  refine xj_bipush (v := 16) (by decide) dX12_init_943 ?_
  refine lj_newi (N := 16) (k := 106) rfl (by decide) rfl (by decide) (Nat.le_of_ble_eq_true rfl) (Nat.le_of_ble_eq_true rfl) (Nat.le_of_ble_eq_true rfl) dX12_init_945 ?_
  refine lj_putF (L' := ((.inl (16, (fun _ => 0))) :: (.inl (16, (fun _ => 0))) :: (.inl (6, (fun _ => 0))) :: (.inl (200, (fun _ => 0))) :: (.inl (200, (fun _ => 0))) :: (.inl (96, (upd (upd (upd (upd (upd (upd (upd (upd (upd (upd (upd (upd (upd (upd (upd (upd (upd (upd (upd (upd (upd (upd (upd (upd (upd (upd (upd (upd (upd (upd (upd (upd (upd (upd (upd (upd (upd (upd (upd (upd (upd (upd (upd (upd (upd (upd (upd (upd (upd (upd (upd (upd (upd (upd (upd (upd (upd (upd (upd (upd (upd (upd (upd (upd (upd (upd (upd (upd (upd (upd (upd (upd (upd (upd (upd (upd (upd (upd (upd (upd (upd (upd (upd (upd (upd (upd (upd (upd (upd (upd (upd (upd (upd (upd (upd (upd (fun _ => 0) 0 100) 1 117) 2 108) 3 108) 4 115) 5 32) 6 32) 7 32) 8 108) 9 105) 10 109) 11 105) 12 116) 13 32) 14 32) 15 32) 16 99) 17 111) 18 115) 19 116) 20 115) 21 32) 22 32) 23 32) 24 99) 25 111) 26 108) 27 117) 28 109) 29 110) 30 32) 31 32) 32 114) 33 111) 34 119) 35 32) 36 32) 37 32) 38 32) 39 32) 40 100) 41 117) 42 108) 43 108) 44 32) 45 32) 46 32) 47 32) 48 110) 49 105) 50 103) 51 104) 52 116) 53 32) 54 32) 55 32) 56 109) 57 111) 58 114) 59 101) 60 32) 61 32) 62 32) 63 32) 64 98) 65 101) 66 104) 67 105) 68 110) 69 100) 70 32) 71 32) 72 111) 73 114) 74 32) 75 32) 76 32) 77 32) 78 32) 79 32) 80 97) 81 110) 82 100) 83 32) 84 32) 85 32) 86 32) 87 32) 88 110) 89 111) 90 116) 91 32) 92 32) 93 32) 94 32) 95 32))) :: (.inl (33, (upd (upd (upd (upd (upd (upd (upd (upd (upd (upd (upd (upd (upd (upd (upd (upd (upd (upd (upd (upd (upd (upd (upd (upd (upd (upd (upd (upd (upd (upd (upd (upd (upd (fun _ => 0) 0 100) 1 117) 2 108) 3 108) 4 115) 5 32) 6 51) 7 32) 8 59) 9 32) 10 108) 11 105) 12 109) 13 105) 14 116) 15 32) 16 49) 17 48) 18 32) 19 59) 20 32) 21 99) 22 111) 23 115) 24 116) 25 115) 26 32) 27 100) 28 117) 29 108) 30 108) 31 32) 32 59))) :: (.inl (160, (fun _ => 0))) :: (.inl (4, (fun _ => 0))) :: (.inl (4, (upd (upd (upd (upd (fun _ => 0) 0 (-1)) 1 (-1)) 2 (-1)) 3 (-1)))) :: (.inl (4, (fun _ => 0))) :: (.inl (6, (fun _ => 0))) :: (.inl (96, (fun _ => 0))) :: (.inl (24, (fun _ => 0))) :: (.inl (1200, (fun _ => 0))) :: (.inl (160, (fun _ => 0))) :: (.inl (6, (fun _ => 0))) :: (.inl (96, (fun _ => 0))) :: (.inl (6, (fun _ => 0))) :: (.inl (6, (fun _ => 0))) :: (.inr (.inr (12, [.int 0, .ref 87, .ref 88, .ref 89, .ref 90, .int 0, .int 60, .ref 91, .int 0, .ref 92, .ref 93, .int 0, .int 0, .int 0, .ref 94, .ref 95, .ref 96, .ref 97, .ref 98, .ref 99, .ref 100, .int 0, .int 0, .int 0, .int 0, .ref 101, .ref 102, .int 0, .int 0, .int 0, .ref 103, .ref 104, .ref 105, .int 0, .int 0, .int 0, .int 0, .ref 106, .null, .null, .null]))) :: cl11)) (i := 20) fl_X12_71_12 rfl (fun x e => by cases e; rfl) rfl rfl rfl (fun _ => ⟨rfl, rfl⟩) (Nat.le_of_ble_eq_true rfl) dX12_init_947 ?_
  refine xj_aload_n (n := 0) (i := 0) 0 rfl rfl dX12_init_950 ?_
  refine xj_bipush (v := 16) (by decide) dX12_init_951 ?_
  refine lj_newi (N := 16) (k := 107) rfl (by decide) rfl (by decide) (Nat.le_of_ble_eq_true rfl) (Nat.le_of_ble_eq_true rfl) (Nat.le_of_ble_eq_true rfl) dX12_init_953 ?_
  refine lj_putF (L' := ((.inl (16, (fun _ => 0))) :: (.inl (16, (fun _ => 0))) :: (.inl (16, (fun _ => 0))) :: (.inl (6, (fun _ => 0))) :: (.inl (200, (fun _ => 0))) :: (.inl (200, (fun _ => 0))) :: (.inl (96, (upd (upd (upd (upd (upd (upd (upd (upd (upd (upd (upd (upd (upd (upd (upd (upd (upd (upd (upd (upd (upd (upd (upd (upd (upd (upd (upd (upd (upd (upd (upd (upd (upd (upd (upd (upd (upd (upd (upd (upd (upd (upd (upd (upd (upd (upd (upd (upd (upd (upd (upd (upd (upd (upd (upd (upd (upd (upd (upd (upd (upd (upd (upd (upd (upd (upd (upd (upd (upd (upd (upd (upd (upd (upd (upd (upd (upd (upd (upd (upd (upd (upd (upd (upd (upd (upd (upd (upd (upd (upd (upd (upd (upd (upd (upd (upd (fun _ => 0) 0 100) 1 117) 2 108) 3 108) 4 115) 5 32) 6 32) 7 32) 8 108) 9 105) 10 109) 11 105) 12 116) 13 32) 14 32) 15 32) 16 99) 17 111) 18 115) 19 116) 20 115) 21 32) 22 32) 23 32) 24 99) 25 111) 26 108) 27 117) 28 109) 29 110) 30 32) 31 32) 32 114) 33 111) 34 119) 35 32) 36 32) 37 32) 38 32) 39 32) 40 100) 41 117) 42 108) 43 108) 44 32) 45 32) 46 32) 47 32) 48 110) 49 105) 50 103) 51 104) 52 116) 53 32) 54 32) 55 32) 56 109) 57 111) 58 114) 59 101) 60 32) 61 32) 62 32) 63 32) 64 98) 65 101) 66 104) 67 105) 68 110) 69 100) 70 32) 71 32) 72 111) 73 114) 74 32) 75 32) 76 32) 77 32) 78 32) 79 32) 80 97) 81 110) 82 100) 83 32) 84 32) 85 32) 86 32) 87 32) 88 110) 89 111) 90 116) 91 32) 92 32) 93 32) 94 32) 95 32))) :: (.inl (33, (upd (upd (upd (upd (upd (upd (upd (upd (upd (upd (upd (upd (upd (upd (upd (upd (upd (upd (upd (upd (upd (upd (upd (upd (upd (upd (upd (upd (upd (upd (upd (upd (upd (fun _ => 0) 0 100) 1 117) 2 108) 3 108) 4 115) 5 32) 6 51) 7 32) 8 59) 9 32) 10 108) 11 105) 12 109) 13 105) 14 116) 15 32) 16 49) 17 48) 18 32) 19 59) 20 32) 21 99) 22 111) 23 115) 24 116) 25 115) 26 32) 27 100) 28 117) 29 108) 30 108) 31 32) 32 59))) :: (.inl (160, (fun _ => 0))) :: (.inl (4, (fun _ => 0))) :: (.inl (4, (upd (upd (upd (upd (fun _ => 0) 0 (-1)) 1 (-1)) 2 (-1)) 3 (-1)))) :: (.inl (4, (fun _ => 0))) :: (.inl (6, (fun _ => 0))) :: (.inl (96, (fun _ => 0))) :: (.inl (24, (fun _ => 0))) :: (.inl (1200, (fun _ => 0))) :: (.inl (160, (fun _ => 0))) :: (.inl (6, (fun _ => 0))) :: (.inl (96, (fun _ => 0))) :: (.inl (6, (fun _ => 0))) :: (.inl (6, (fun _ => 0))) :: (.inr (.inr (12, [.int 0, .ref 87, .ref 88, .ref 89, .ref 90, .int 0, .int 60, .ref 91, .int 0, .ref 92, .ref 93, .int 0, .int 0, .int 0, .ref 94, .ref 95, .ref 96, .ref 97, .ref 98, .ref 99, .ref 100, .int 0, .int 0, .int 0, .int 0, .ref 101, .ref 102, .int 0, .int 0, .int 0, .ref 103, .ref 104, .ref 105, .int 0, .int 0, .int 0, .int 0, .ref 106, .ref 107, .null, .null]))) :: cl11)) (i := 21) fl_X12_74_12 rfl (fun x e => by cases e; rfl) rfl rfl rfl (fun _ => ⟨rfl, rfl⟩) (Nat.le_of_ble_eq_true rfl) dX12_init_955 ?_
  refine xj_aload_n (n := 0) (i := 0) 0 rfl rfl dX12_init_958 ?_
  refine xj_bipush (v := 20) (by decide) dX12_init_959 ?_
  refine lj_newi (N := 20) (k := 108) rfl (by decide) rfl (by decide) (Nat.le_of_ble_eq_true rfl) (Nat.le_of_ble_eq_true rfl) (Nat.le_of_ble_eq_true rfl) dX12_init_961 ?_
  refine lj_putF (L' := ((.inl (20, (fun _ => 0))) :: (.inl (16, (fun _ => 0))) :: (.inl (16, (fun _ => 0))) :: (.inl (16, (fun _ => 0))) :: (.inl (6, (fun _ => 0))) :: (.inl (200, (fun _ => 0))) :: (.inl (200, (fun _ => 0))) :: (.inl (96, (upd (upd (upd (upd (upd (upd (upd (upd (upd (upd (upd (upd (upd (upd (upd (upd (upd (upd (upd (upd (upd (upd (upd (upd (upd (upd (upd (upd (upd (upd (upd (upd (upd (upd (upd (upd (upd (upd (upd (upd (upd (upd (upd (upd (upd (upd (upd (upd (upd (upd (upd (upd (upd (upd (upd (upd (upd (upd (upd (upd (upd (upd (upd (upd (upd (upd (upd (upd (upd (upd (upd (upd (upd (upd (upd (upd (upd (upd (upd (upd (upd (upd (upd (upd (upd (upd (upd (upd (upd (upd (upd (upd (upd (upd (upd (upd (fun _ => 0) 0 100) 1 117) 2 108) 3 108) 4 115) 5 32) 6 32) 7 32) 8 108) 9 105) 10 109) 11 105) 12 116) 13 32) 14 32) 15 32) 16 99) 17 111) 18 115) 19 116) 20 115) 21 32) 22 32) 23 32) 24 99) 25 111) 26 108) 27 117) 28 109) 29 110) 30 32) 31 32) 32 114) 33 111) 34 119) 35 32) 36 32) 37 32) 38 32) 39 32) 40 100) 41 117) 42 108) 43 108) 44 32) 45 32) 46 32) 47 32) 48 110) 49 105) 50 103) 51 104) 52 116) 53 32) 54 32) 55 32) 56 109) 57 111) 58 114) 59 101) 60 32) 61 32) 62 32) 63 32) 64 98) 65 101) 66 104) 67 105) 68 110) 69 100) 70 32) 71 32) 72 111) 73 114) 74 32) 75 32) 76 32) 77 32) 78 32) 79 32) 80 97) 81 110) 82 100) 83 32) 84 32) 85 32) 86 32) 87 32) 88 110) 89 111) 90 116) 91 32) 92 32) 93 32) 94 32) 95 32))) :: (.inl (33, (upd (upd (upd (upd (upd (upd (upd (upd (upd (upd (upd (upd (upd (upd (upd (upd (upd (upd (upd (upd (upd (upd (upd (upd (upd (upd (upd (upd (upd (upd (upd (upd (upd (fun _ => 0) 0 100) 1 117) 2 108) 3 108) 4 115) 5 32) 6 51) 7 32) 8 59) 9 32) 10 108) 11 105) 12 109) 13 105) 14 116) 15 32) 16 49) 17 48) 18 32) 19 59) 20 32) 21 99) 22 111) 23 115) 24 116) 25 115) 26 32) 27 100) 28 117) 29 108) 30 108) 31 32) 32 59))) :: (.inl (160, (fun _ => 0))) :: (.inl (4, (fun _ => 0))) :: (.inl (4, (upd (upd (upd (upd (fun _ => 0) 0 (-1)) 1 (-1)) 2 (-1)) 3 (-1)))) :: (.inl (4, (fun _ => 0))) :: (.inl (6, (fun _ => 0))) :: (.inl (96, (fun _ => 0))) :: (.inl (24, (fun _ => 0))) :: (.inl (1200, (fun _ => 0))) :: (.inl (160, (fun _ => 0))) :: (.inl (6, (fun _ => 0))) :: (.inl (96, (fun _ => 0))) :: (.inl (6, (fun _ => 0))) :: (.inl (6, (fun _ => 0))) :: (.inr (.inr (12, [.int 0, .ref 87, .ref 88, .ref 89, .ref 90, .int 0, .int 60, .ref 91, .int 0, .ref 92, .ref 93, .int 0, .int 0, .int 0, .ref 94, .ref 95, .ref 96, .ref 97, .ref 98, .ref 99, .ref 100, .int 0, .int 0, .int 0, .int 0, .ref 101, .ref 102, .int 0, .int 0, .int 0, .ref 103, .ref 104, .ref 105, .int 0, .int 0, .int 0, .int 0, .ref 106, .ref 107, .ref 108, .null]))) :: cl11)) (i := 22) fl_X12_77_12 rfl (fun x e => by cases e; rfl) rfl rfl rfl (fun _ => ⟨rfl, rfl⟩) (Nat.le_of_ble_eq_true rfl) dX12_init_963 ?_
  refine xj_aload_n (n := 0) (i := 0) 0 rfl rfl dX12_init_966 ?_
  refine xj_bipush (v := 96) (by decide) dX12_init_967 ?_
  refine lj_newi (N := 96) (k := 109) rfl (by decide) rfl (by decide) (Nat.le_of_ble_eq_true rfl) (Nat.le_of_ble_eq_true rfl) (Nat.le_of_ble_eq_true rfl) dX12_init_969 ?_
  refine lj_putF (L' := ((.inl (96, (fun _ => 0))) :: (.inl (20, (fun _ => 0))) :: (.inl (16, (fun _ => 0))) :: (.inl (16, (fun _ => 0))) :: (.inl (16, (fun _ => 0))) :: (.inl (6, (fun _ => 0))) :: (.inl (200, (fun _ => 0))) :: (.inl (200, (fun _ => 0))) :: (.inl (96, (upd (upd (upd (upd (upd (upd (upd (upd (upd (upd (upd (upd (upd (upd (upd (upd (upd (upd (upd (upd (upd (upd (upd (upd (upd (upd (upd (upd (upd (upd (upd (upd (upd (upd (upd (upd (upd (upd (upd (upd (upd (upd (upd (upd (upd (upd (upd (upd (upd (upd (upd (upd (upd (upd (upd (upd (upd (upd (upd (upd (upd (upd (upd (upd (upd (upd (upd (upd (upd (upd (upd (upd (upd (upd (upd (upd (upd (upd (upd (upd (upd (upd (upd (upd (upd (upd (upd (upd (upd (upd (upd (upd (upd (upd (upd (upd (fun _ => 0) 0 100) 1 117) 2 108) 3 108) 4 115) 5 32) 6 32) 7 32) 8 108) 9 105) 10 109) 11 105) 12 116) 13 32) 14 32) 15 32) 16 99) 17 111) 18 115) 19 116) 20 115) 21 32) 22 32) 23 32) 24 99) 25 111) 26 108) 27 117) 28 109) 29 110) 30 32) 31 32) 32 114) 33 111) 34 119) 35 32) 36 32) 37 32) 38 32) 39 32) 40 100) 41 117) 42 108) 43 108) 44 32) 45 32) 46 32) 47 32) 48 110) 49 105) 50 103) 51 104) 52 116) 53 32) 54 32) 55 32) 56 109) 57 111) 58 114) 59 101) 60 32) 61 32) 62 32) 63 32) 64 98) 65 101) 66 104) 67 105) 68 110) 69 100) 70 32) 71 32) 72 111) 73 114) 74 32) 75 32) 76 32) 77 32) 78 32) 79 32) 80 97) 81 110) 82 100) 83 32) 84 32) 85 32) 86 32) 87 32) 88 110) 89 111) 90 116) 91 32) 92 32) 93 32) 94 32) 95 32))) :: (.inl (33, (upd (upd (upd (upd (upd (upd (upd (upd (upd (upd (upd (upd (upd (upd (upd (upd (upd (upd (upd (upd (upd (upd (upd (upd (upd (upd (upd (upd (upd (upd (upd (upd (upd (fun _ => 0) 0 100) 1 117) 2 108) 3 108) 4 115) 5 32) 6 51) 7 32) 8 59) 9 32) 10 108) 11 105) 12 109) 13 105) 14 116) 15 32) 16 49) 17 48) 18 32) 19 59) 20 32) 21 99) 22 111) 23 115) 24 116) 25 115) 26 32) 27 100) 28 117) 29 108) 30 108) 31 32) 32 59))) :: (.inl (160, (fun _ => 0))) :: (.inl (4, (fun _ => 0))) :: (.inl (4, (upd (upd (upd (upd (fun _ => 0) 0 (-1)) 1 (-1)) 2 (-1)) 3 (-1)))) :: (.inl (4, (fun _ => 0))) :: (.inl (6, (fun _ => 0))) :: (.inl (96, (fun _ => 0))) :: (.inl (24, (fun _ => 0))) :: (.inl (1200, (fun _ => 0))) :: (.inl (160, (fun _ => 0))) :: (.inl (6, (fun _ => 0))) :: (.inl (96, (fun _ => 0))) :: (.inl (6, (fun _ => 0))) :: (.inl (6, (fun _ => 0))) :: (.inr (.inr (12, [.int 0, .ref 87, .ref 88, .ref 89, .ref 90, .int 0, .int 60, .ref 91, .int 0, .ref 92, .ref 93, .int 0, .int 0, .int 0, .ref 94, .ref 95, .ref 96, .ref 97, .ref 98, .ref 99, .ref 100, .int 0, .int 0, .int 0, .int 0, .ref 101, .ref 102, .int 0, .int 0, .int 0, .ref 103, .ref 104, .ref 105, .int 0, .int 0, .int 0, .int 0, .ref 106, .ref 107, .ref 108, .ref 109]))) :: cl11)) (i := 23) fl_X12_80_12 rfl (fun x e => by cases e; rfl) rfl rfl rfl (fun _ => ⟨rfl, rfl⟩) (Nat.le_of_ble_eq_true rfl) dX12_init_971 ?_
  refine xj_rows (h' := (110, fh gI)) rfl (fun q hq => sI q hq) ?_
  have hn : 110 ≤ 110 := Nat.le_refl 110
  refine xj_iconst (v := 0) (by decide) dX12_init_974 ?_
  refine xj_top (show 0 = nI 0 from rfl) ?_
  refine xj_istore_n (n := 1) (i := 1) (lv1 := [(1, .int (nI 0)), (0, .ref 86)]) rfl rfl (Nat.le_of_ble_eq_true rfl) dX12_init_975 ?_
  have key : ∀ i, i ≤ 33 → ∀ (g1 : xG), (∀ j, j < i → g1 91 j = lawL.getD j 0) → fr (fun j => j = 91) gI g1 → xJ l (RX12, 2, none, true, (xR (d + 6) 23 3000), none) cX12_init (fun r h1 => r = none ∧ ∃ g1, h1 = (110, fh g1) ∧ cA g1 110 A01 L01 ∧ mA g1 A01 L01) 23 2471 976 [(1, .int (nI i)), (0, .ref 86)] [] (110, fh g1) := by
    refine x_loop 33 _ ?_ ?_
    · intro g1 ht hf
      refine xj_iload_n (n := 1) (i := 1) 0 rfl rfl dX12_init_976 ?_
      refine xj_bipush (v := 33) (by decide) dX12_init_977 ?_
      refine xj_icmp_ge (tgt := 1000) (by decide) dX12_init_979 (fun zc979 => ?_) (fun zc979 => ?_)
      · refine xj_aload_n (n := 0) (i := 0) 1 rfl rfl dX12_init_1000 ?_
        refine xj_bipush (v := 33) (by decide) dX12_init_1001 ?_
        refine yj_puti fl_X12_83_12 (by omega) fS_86_8 (fi_i _) dX12_init_1003 ?_
        obtain ⟨zg1, ezg1⟩ : ∃ x9, x9 = gs g1 86 8 33 := ⟨_, rfl⟩
        rw [← ezg1]
        have t8zg1 : zg1 86 8 = 33 := by rw [ezg1, gs_s, upd_s]
        have C0 := mA00 hf ht
        rw [← ezg1] at C0
        have hz11 : zg1 86 11 = nI (aT A00) := by rw [ezg1, gs_s, upd_n _ _ (by decide), hf 86 (by decide), aT00]; decide +kernel
        have hz8 : zg1 86 8 = nI (aZ A00) := by rw [ezg1, gs_s, upd_s, aZ00]; decide +kernel
        refine xj_aload_n (n := 0) (i := 0) 1 rfl rfl dX12_init_1006 ?_
        refine xj_callV kv_X12_86 (c_X12_text0 l (d + 1) 110 hn zg1 A00 (fun _ _ _ => 0) (by rw [aT00]; decide) (by rw [aZ00]; decide) hz11 hz8 C0) (As := []) (st := []) (by omega) (fq_86 zg1) (ci := 12) rfl rfl rfl rfl (xRm_of (by omega) (by decide) (by omega) (by omega)) (Nat.le_of_ble_eq_true rfl) dX12_init_1007 (yk_i (kc := _) (ks := _) fun zv2 zg3 hzg3 => ?_)
        obtain ⟨-, hM, hfM⟩ := hzg3
        rw [rT00.1, rT00.2] at hM
        refine xj_pop rfl dX12_init_1010 ?_
        refine xj_return rfl (Nat.le_of_ble_eq_true rfl) (Nat.le_of_ble_eq_true rfl) dX12_init_1011 ⟨rfl, zg3, rfl, cA01.cx okA01 (fun j hj => ?_), hM⟩
        rw [hfM j (fun y => by unfold mX at y; unfold cX at hj; omega), ezg1, gs_n _ _ _ (fun e => by unfold cX at hj; omega)]
        exact hf j (fun e => by unfold cX at hj; omega)
      · exact absurd (nI_le (Nat.le_refl _) (by decide)) zc979
    · intro i hi ih g1 ht hf
      refine xj_iload_n (n := 1) (i := 1) 0 rfl rfl dX12_init_976 ?_
      refine xj_bipush (v := 33) (by decide) dX12_init_977 ?_
      refine xj_icmp_ge (tgt := 1000) (by decide) dX12_init_979 (fun zc979 => ?_) (fun zc979 => ?_)
      · exact absurd zc979 (nI_ge hi (by decide))
      · refine xj_aload_n (n := 0) (i := 0) 1 rfl rfl dX12_init_982 ?_
        refine yj_getf (v := .ref 91) fl_X12_26_12 (by omega) (fq_86 g1) rfl dX12_init_983 ?_
        refine xj_iload_n (n := 1) (i := 1) 0 rfl rfl dX12_init_986 ?_
        refine xj_aload_n (n := 0) (i := 0) 1 rfl rfl dX12_init_987 ?_
        refine yj_getf (v := .ref 100) fl_X12_53_12 (by omega) (fq_86 g1) rfl dX12_init_988 ?_
        refine xj_iload_n (n := 1) (i := 1) 0 rfl rfl dX12_init_991 ?_
        refine yj_ialdN i (by omega) fA_100 rfl (by omega) (by decide) dX12_init_992 ?_
        refine xj_top ((congrFun (hf 100 (by decide)) i).trans (lawI i (by omega))) ?_
        refine xj_topi (fun zv4 ezv4 => ?_)
        refine yj_iastN i (by omega) fA_91 rfl (by omega) (by decide) dX12_init_993 ?_
        obtain ⟨zg5, ezg5⟩ : ∃ x9, x9 = gs g1 91 i zv4 := ⟨_, rfl⟩
        rw [← ezg5]
        refine xj_iinc (n := 1) (i := 1) (v := nI (i + 1)) (lv1 := [(1, .int (nI (i + 1))), (0, .ref 86)]) 0 rfl (nI_1 i) rfl (Nat.le_of_ble_eq_true rfl) dX12_init_994 ?_
        refine xj_goto (tgt := 976) (by decide) dX12_init_997 ?_
        refine xj_sub (lv' := [(1, .int (nI (i + 1))), (0, .ref 86)]) [0, 1] rfl ?_
        refine ih zg5 (fun j hj => ?_) (by rw [ezg5]; exact hf.gs rfl _ _)
        rw [ezg5, gs_s]
        by_cases ej : j = i
        · rw [ej, upd_s]; exact ezv4
        · rw [upd_n _ _ ej]; exact ht j (by omega)
  refine xj_sub (lv' := [(1, .int (nI 0)), (0, .ref 86)]) [0, 1] rfl ?_
  exact key 0 (Nat.zero_le _) gI (fun j hj => absurd hj (Nat.not_lt_zero _)) fr.rf
