set_option maxHeartbeats 4000000 in
set_option maxRecDepth 100000 in
theorem c_X12_ones (l : Launch) (d : Nat) (x : Int32) (h : xH)  : xC l yX12_ones cX12_ones 3 (some .int) (xR (d + 0) 0 0) [.int x] h (qP (onesF x) h) := by
  refine xC_of false (by decide +kernel) (fun z => by cases z) (Nat.le_of_ble_eq_true rfl) ?_
  show xJ l (RX12, 3, (some .int), false, (xR (d + 0) 0 0), none) cX12_ones _ 0 0 0 [(0, .int x)] [] h
  refine xj_iconst (v := 0) (by decide) dX12_ones_0 ?_
  refine xj_istore_n (n := 1) (i := 1) (lv1 := [(1, .int 0), (0, .int x)]) rfl rfl (Nat.le_of_ble_eq_true rfl) dX12_ones_1 ?_
  refine xj_iconst (v := 0) (by decide) dX12_ones_2 ?_
  refine xj_istore_n (n := 2) (i := 2) (lv1 := [(2, .int 0), (1, .int 0), (0, .int x)]) rfl rfl (Nat.le_of_ble_eq_true rfl) dX12_ones_3 ?_
  have key : ∀ i, i ≤ 16 → xJ l (RX12, 3, (some .int), false, (xR (d + 0) 0 0), none) cX12_ones (qP (onesF x) h) 0 0 4 [(2, .int (nI i)), (1, .int (sumF (fun c => (x >>> (nI c &&& 31)) &&& 1) i)), (0, .int x)] [] h := by
    refine x_loop 16 _ ?_ ?_
    · skip
      have ih9 := True.intro
      refine xj_iload_n (n := 2) (i := 2) 0 rfl rfl dX12_ones_4 ?_
      refine xj_bipush (v := 16) (by decide) dX12_ones_5 ?_
      refine xj_icmp_ge (tgt := 24) (by decide) dX12_ones_7 (fun zc7 => ?_) (fun zc7 => ?_)
      · refine xj_iload_n (n := 1) (i := 1) 1 rfl rfl dX12_ones_24 ?_
        exact xj_ireturn rfl (nr_i _) (Nat.zero_le _) (Nat.zero_le _) dX12_ones_25 (qP_e rfl)
      · exact absurd (nI_le (Nat.le_refl _) (by decide)) zc7
    · intro i hi ih
      have ih9 := True.intro
      refine xj_iload_n (n := 2) (i := 2) 0 rfl rfl dX12_ones_4 ?_
      refine xj_bipush (v := 16) (by decide) dX12_ones_5 ?_
      refine xj_icmp_ge (tgt := 24) (by decide) dX12_ones_7 (fun zc7 => ?_) (fun zc7 => ?_)
      · exact absurd zc7 (nI_ge hi (by decide))
      · refine xj_iload_n (n := 1) (i := 1) 1 rfl rfl dX12_ones_10 ?_
        refine xj_iload_n (n := 0) (i := 0) 2 rfl rfl dX12_ones_11 ?_
        refine xj_iload_n (n := 2) (i := 2) 0 rfl rfl dX12_ones_12 ?_
        refine xj_ishr dX12_ones_13 ?_
        refine xj_iconst (v := 1) (by decide) dX12_ones_14 ?_
        refine xj_iand dX12_ones_15 ?_
        refine xj_iadd dX12_ones_16 ?_
        refine xj_topi (fun zv1 ezv1 => ?_)
        refine xj_istore_n (n := 1) (i := 1) (lv1 := [(1, .int zv1), (2, .int (nI i)), (0, .int x)]) rfl rfl (Nat.le_of_ble_eq_true rfl) dX12_ones_17 ?_
        refine xj_iinc (n := 1) (i := 2) (v := nI (i + 1)) (lv1 := [(2, .int (nI (i + 1))), (1, .int zv1), (0, .int x)]) 1 rfl (nI_1 i) rfl (Nat.le_of_ble_eq_true rfl) dX12_ones_18 ?_
        refine xj_goto (tgt := 4) (by decide) dX12_ones_21 ?_
        refine xj_sub (lv' := [(2, .int (nI (i + 1))), (1, .int zv1), (0, .int x)]) [0, 1, 2] rfl ?_
        have h9 := ih
        rw [show sumF (fun c => (x >>> (nI c &&& 31)) &&& 1) (i + 1) = zv1 from ezv1.symm] at h9
        exact h9
  refine xj_sub (lv' := [(2, .int 0), (1, .int 0), (0, .int x)]) [0, 1, 2] rfl ?_
  exact key 0 (Nat.zero_le _)
