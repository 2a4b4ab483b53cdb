def mnF (x y : Int32) : Int32 := if y < x then y else x
/-- the least beside a cell -/
def lbF (ls : Nat → Int32) (c : Nat) : Int32 := (fun a => (fun b => (fun e => if c / 4 < 3 then mnF e (ls (c + 4)) else e) (if 0 < c / 4 then mnF b (ls (c - 4)) else b)) (if c % 4 < 3 then mnF a (ls (c + 1)) else a)) (if 0 < c % 4 then mnF 1000000 (ls (c - 1)) else 1000000)
set_option maxHeartbeats 4000000 in
set_option maxRecDepth 100000 in
theorem c_X11_leastBeside (l : Launch) (d : Nat) (n : Nat) (hn : 110 ≤ n) (g : xG) (c : Nat) (hc : c < 16)  : xC l yX11_leastBeside cX11_leastBeside 3 (some .int) (xR (d + 1) 0 0) [.ref 0, .int (nI c)] (n, fh g) (qP (lbF (g 81) c) (n, fh g)) := by
  refine xC_of false (by decide +kernel) (fun z => by cases z) (Nat.le_of_ble_eq_true rfl) ?_
  show xJ l (RX11, 3, (some .int), false, (xR (d + 1) 0 0), none) cX11_leastBeside _ 0 0 0 [(0, .ref 0), (1, .int (nI c))] [] (n, fh g)
  refine xj_ldc cn_X11_197 dX11_leastBeside_0 ?_
  refine xj_istore_n (n := 2) (i := 2) (lv1 := [(2, .int 1000000), (0, .ref 0), (1, .int (nI c))]) rfl rfl (Nat.le_of_ble_eq_true rfl) dX11_leastBeside_2 ?_
  refine xj_iload_n (n := 1) (i := 1) 2 rfl rfl dX11_leastBeside_3 ?_
  refine xj_iconst (v := 4) (by decide) dX11_leastBeside_4 ?_
  refine xj_irem (by decide) dX11_leastBeside_5 ?_
  refine xj_top (show nI c - nI c / 4 * 4 = nI (c % 4) from nI_rem4 hc) ?_
  refine xj_if_le (tgt := 22) (by decide) dX11_leastBeside_6 (fun zc6 => ?_) (fun zc6 => ?_)
  · have hb6 : ¬ 0 < c % 4 := fun z => absurd zc6 (nI_ge (a := 0) z (by omega))
    refine xj_iload_n (n := 1) (i := 1) 2 rfl rfl dX11_leastBeside_22 ?_
    refine xj_iconst (v := 4) (by decide) dX11_leastBeside_23 ?_
    refine xj_irem (by decide) dX11_leastBeside_24 ?_
    refine xj_top (show nI c - nI c / 4 * 4 = nI (c % 4) from nI_rem4 hc) ?_
    refine xj_iconst (v := 3) (by decide) dX11_leastBeside_25 ?_
    refine xj_icmp_ge (tgt := 42) (by decide) dX11_leastBeside_26 (fun zc26 => ?_) (fun zc26 => ?_)
    · have hb26 : ¬ c % 4 < 3 := fun z => absurd zc26 (nI_ge (b := 3) z (by omega))
      refine xj_iload_n (n := 1) (i := 1) 2 rfl rfl dX11_leastBeside_42 ?_
      refine xj_iconst (v := 4) (by decide) dX11_leastBeside_43 ?_
      refine xj_idiv (by decide) dX11_leastBeside_44 ?_
      refine xj_top (show nI c / 4 = nI (c / 4) from nI_div4 hc) ?_
      refine xj_if_le (tgt := 61) (by decide) dX11_leastBeside_45 (fun zc45 => ?_) (fun zc45 => ?_)
      · have hb45 : ¬ 0 < c / 4 := fun z => absurd zc45 (nI_ge (a := 0) z (by omega))
        refine xj_iload_n (n := 1) (i := 1) 2 rfl rfl dX11_leastBeside_61 ?_
        refine xj_iconst (v := 4) (by decide) dX11_leastBeside_62 ?_
        refine xj_idiv (by decide) dX11_leastBeside_63 ?_
        refine xj_top (show nI c / 4 = nI (c / 4) from nI_div4 hc) ?_
        refine xj_iconst (v := 3) (by decide) dX11_leastBeside_64 ?_
        refine xj_icmp_ge (tgt := 81) (by decide) dX11_leastBeside_65 (fun zc65 => ?_) (fun zc65 => ?_)
        · have hb65 : ¬ c / 4 < 3 := fun z => absurd zc65 (nI_ge (b := 3) z (by omega))
          refine xj_iload_n (n := 2) (i := 2) 0 rfl rfl dX11_leastBeside_81 ?_
          have er : lbF (g 81) c = 1000000 := by
            unfold lbF
            simp only [if_neg hb6, if_neg hb26, if_neg hb45, if_neg hb65]
            all_goals (first | rfl | (simp only [*]; rfl) | simp only [mnF, *])
          exact xj_ireturn rfl (nr_i _) (Nat.zero_le _) (Nat.zero_le _) dX11_leastBeside_82 (qP_e er.symm)
        · have hb65 : c / 4 < 3 := Nat.lt_of_not_ge (fun z => zc65 (nI_le (a := 3) z (by omega)))
          refine xj_iload_n (n := 2) (i := 2) 0 rfl rfl dX11_leastBeside_68 ?_
          refine xj_aload_n (n := 0) (i := 0) 1 rfl rfl dX11_leastBeside_69 ?_
          refine yj_getf (v := .ref 81) fl_X11_77_11 (by omega) (fq_0 g) rfl dX11_leastBeside_70 ?_
          refine xj_iload_n (n := 1) (i := 1) 2 rfl rfl dX11_leastBeside_73 ?_
          refine xj_iconst (v := 4) (by decide) dX11_leastBeside_74 ?_
          refine xj_iadd dX11_leastBeside_75 ?_
          refine yj_ialdN (c + 4) (by omega) fA_81 (nI_add c 4) (by omega) (by decide) dX11_leastBeside_76 ?_
          refine xj_mmin xw686 xw460 xw74 xw461 (Nat.le_of_ble_eq_true rfl) ⟨by show 1 ≤ _; simp only [xR]; omega, by show 21 ≤ _; simp only [xR]; omega, by show _ ≤ _; simp only [xR]; omega, by show _ ≤ _; simp only [xR]; omega⟩ dX11_leastBeside_77 ?_
          refine xj_topi (fun zv1 ezv1 => ?_)
          refine xj_istore_n (n := 2) (i := 2) (lv1 := [(2, .int zv1), (0, .ref 0), (1, .int (nI c))]) rfl rfl (Nat.le_of_ble_eq_true rfl) dX11_leastBeside_80 ?_
          refine xj_iload_n (n := 2) (i := 2) 0 rfl rfl dX11_leastBeside_81 ?_
          have er : lbF (g 81) c = zv1 := by
            unfold lbF
            simp only [if_neg hb6, if_neg hb26, if_neg hb45, if_pos hb65]
            all_goals (first | rfl | (simp only [*]; rfl) | simp only [mnF, *])
          exact xj_ireturn rfl (nr_i _) (Nat.zero_le _) (Nat.zero_le _) dX11_leastBeside_82 (qP_e er.symm)
      · have hb45 : 0 < c / 4 := Nat.pos_of_ne_zero (fun z => zc45 (by rw [z]; exact nI_le (a := 0) (b := 0) (Nat.le_refl _) (by decide)))
        refine xj_iload_n (n := 2) (i := 2) 0 rfl rfl dX11_leastBeside_48 ?_
        refine xj_aload_n (n := 0) (i := 0) 1 rfl rfl dX11_leastBeside_49 ?_
        refine yj_getf (v := .ref 81) fl_X11_77_11 (by omega) (fq_0 g) rfl dX11_leastBeside_50 ?_
        refine xj_iload_n (n := 1) (i := 1) 2 rfl rfl dX11_leastBeside_53 ?_
        refine xj_iconst (v := 4) (by decide) dX11_leastBeside_54 ?_
        refine xj_isub dX11_leastBeside_55 ?_
        refine yj_ialdN (c - 4) (by omega) fA_81 (pk_sub (a := c) (b := 4) (by omega)) (by omega) (by decide) dX11_leastBeside_56 ?_
        refine xj_mmin xw686 xw460 xw74 xw461 (Nat.le_of_ble_eq_true rfl) ⟨by show 1 ≤ _; simp only [xR]; omega, by show 21 ≤ _; simp only [xR]; omega, by show _ ≤ _; simp only [xR]; omega, by show _ ≤ _; simp only [xR]; omega⟩ dX11_leastBeside_57 ?_
        refine xj_topi (fun zv2 ezv2 => ?_)
        refine xj_istore_n (n := 2) (i := 2) (lv1 := [(2, .int zv2), (0, .ref 0), (1, .int (nI c))]) rfl rfl (Nat.le_of_ble_eq_true rfl) dX11_leastBeside_60 ?_
        refine xj_iload_n (n := 1) (i := 1) 2 rfl rfl dX11_leastBeside_61 ?_
        refine xj_iconst (v := 4) (by decide) dX11_leastBeside_62 ?_
        refine xj_idiv (by decide) dX11_leastBeside_63 ?_
        refine xj_top (show nI c / 4 = nI (c / 4) from nI_div4 hc) ?_
        refine xj_iconst (v := 3) (by decide) dX11_leastBeside_64 ?_
        refine xj_icmp_ge (tgt := 81) (by decide) dX11_leastBeside_65 (fun zc65 => ?_) (fun zc65 => ?_)
        · have hb65 : ¬ c / 4 < 3 := fun z => absurd zc65 (nI_ge (b := 3) z (by omega))
          refine xj_iload_n (n := 2) (i := 2) 0 rfl rfl dX11_leastBeside_81 ?_
          have er : lbF (g 81) c = zv2 := by
            unfold lbF
            simp only [if_neg hb6, if_neg hb26, if_pos hb45, if_neg hb65]
            all_goals (first | rfl | (simp only [*]; rfl) | simp only [mnF, *])
          exact xj_ireturn rfl (nr_i _) (Nat.zero_le _) (Nat.zero_le _) dX11_leastBeside_82 (qP_e er.symm)
        · have hb65 : c / 4 < 3 := Nat.lt_of_not_ge (fun z => zc65 (nI_le (a := 3) z (by omega)))
          refine xj_iload_n (n := 2) (i := 2) 0 rfl rfl dX11_leastBeside_68 ?_
          refine xj_aload_n (n := 0) (i := 0) 1 rfl rfl dX11_leastBeside_69 ?_
          refine yj_getf (v := .ref 81) fl_X11_77_11 (by omega) (fq_0 g) rfl dX11_leastBeside_70 ?_
          refine xj_iload_n (n := 1) (i := 1) 2 rfl rfl dX11_leastBeside_73 ?_
          refine xj_iconst (v := 4) (by decide) dX11_leastBeside_74 ?_
          refine xj_iadd dX11_leastBeside_75 ?_
          refine yj_ialdN (c + 4) (by omega) fA_81 (nI_add c 4) (by omega) (by decide) dX11_leastBeside_76 ?_
          refine xj_mmin xw686 xw460 xw74 xw461 (Nat.le_of_ble_eq_true rfl) ⟨by show 1 ≤ _; simp only [xR]; omega, by show 21 ≤ _; simp only [xR]; omega, by show _ ≤ _; simp only [xR]; omega, by show _ ≤ _; simp only [xR]; omega⟩ dX11_leastBeside_77 ?_
          refine xj_topi (fun zv3 ezv3 => ?_)
          refine xj_istore_n (n := 2) (i := 2) (lv1 := [(2, .int zv3), (0, .ref 0), (1, .int (nI c))]) rfl rfl (Nat.le_of_ble_eq_true rfl) dX11_leastBeside_80 ?_
          refine xj_iload_n (n := 2) (i := 2) 0 rfl rfl dX11_leastBeside_81 ?_
          have er : lbF (g 81) c = zv3 := by
            unfold lbF
            simp only [if_neg hb6, if_neg hb26, if_pos hb45, if_pos hb65]
            all_goals (first | rfl | (simp only [*]; rfl) | simp only [mnF, *])
          exact xj_ireturn rfl (nr_i _) (Nat.zero_le _) (Nat.zero_le _) dX11_leastBeside_82 (qP_e er.symm)
    · have hb26 : c % 4 < 3 := Nat.lt_of_not_ge (fun z => zc26 (nI_le (a := 3) z (by omega)))
      refine xj_iload_n (n := 2) (i := 2) 0 rfl rfl dX11_leastBeside_29 ?_
      refine xj_aload_n (n := 0) (i := 0) 1 rfl rfl dX11_leastBeside_30 ?_
      refine yj_getf (v := .ref 81) fl_X11_77_11 (by omega) (fq_0 g) rfl dX11_leastBeside_31 ?_
      refine xj_iload_n (n := 1) (i := 1) 2 rfl rfl dX11_leastBeside_34 ?_
      refine xj_iconst (v := 1) (by decide) dX11_leastBeside_35 ?_
      refine xj_iadd dX11_leastBeside_36 ?_
      refine yj_ialdN (c + 1) (by omega) fA_81 (nI_1 c) (by omega) (by decide) dX11_leastBeside_37 ?_
      refine xj_mmin xw686 xw460 xw74 xw461 (Nat.le_of_ble_eq_true rfl) ⟨by show 1 ≤ _; simp only [xR]; omega, by show 21 ≤ _; simp only [xR]; omega, by show _ ≤ _; simp only [xR]; omega, by show _ ≤ _; simp only [xR]; omega⟩ dX11_leastBeside_38 ?_
      refine xj_topi (fun zv4 ezv4 => ?_)
      refine xj_istore_n (n := 2) (i := 2) (lv1 := [(2, .int zv4), (0, .ref 0), (1, .int (nI c))]) rfl rfl (Nat.le_of_ble_eq_true rfl) dX11_leastBeside_41 ?_
      refine xj_iload_n (n := 1) (i := 1) 2 rfl rfl dX11_leastBeside_42 ?_
      refine xj_iconst (v := 4) (by decide) dX11_leastBeside_43 ?_
      refine xj_idiv (by decide) dX11_leastBeside_44 ?_
      refine xj_top (show nI c / 4 = nI (c / 4) from nI_div4 hc) ?_
      refine xj_if_le (tgt := 61) (by decide) dX11_leastBeside_45 (fun zc45 => ?_) (fun zc45 => ?_)
      · have hb45 : ¬ 0 < c / 4 := fun z => absurd zc45 (nI_ge (a := 0) z (by omega))
        refine xj_iload_n (n := 1) (i := 1) 2 rfl rfl dX11_leastBeside_61 ?_
        refine xj_iconst (v := 4) (by decide) dX11_leastBeside_62 ?_
        refine xj_idiv (by decide) dX11_leastBeside_63 ?_
        refine xj_top (show nI c / 4 = nI (c / 4) from nI_div4 hc) ?_
        refine xj_iconst (v := 3) (by decide) dX11_leastBeside_64 ?_
        refine xj_icmp_ge (tgt := 81) (by decide) dX11_leastBeside_65 (fun zc65 => ?_) (fun zc65 => ?_)
        · have hb65 : ¬ c / 4 < 3 := fun z => absurd zc65 (nI_ge (b := 3) z (by omega))
          refine xj_iload_n (n := 2) (i := 2) 0 rfl rfl dX11_leastBeside_81 ?_
          have er : lbF (g 81) c = zv4 := by
            unfold lbF
            simp only [if_neg hb6, if_pos hb26, if_neg hb45, if_neg hb65]
            all_goals (first | rfl | (simp only [*]; rfl) | simp only [mnF, *])
          exact xj_ireturn rfl (nr_i _) (Nat.zero_le _) (Nat.zero_le _) dX11_leastBeside_82 (qP_e er.symm)
        · have hb65 : c / 4 < 3 := Nat.lt_of_not_ge (fun z => zc65 (nI_le (a := 3) z (by omega)))
          refine xj_iload_n (n := 2) (i := 2) 0 rfl rfl dX11_leastBeside_68 ?_
          refine xj_aload_n (n := 0) (i := 0) 1 rfl rfl dX11_leastBeside_69 ?_
          refine yj_getf (v := .ref 81) fl_X11_77_11 (by omega) (fq_0 g) rfl dX11_leastBeside_70 ?_
          refine xj_iload_n (n := 1) (i := 1) 2 rfl rfl dX11_leastBeside_73 ?_
          refine xj_iconst (v := 4) (by decide) dX11_leastBeside_74 ?_
          refine xj_iadd dX11_leastBeside_75 ?_
          refine yj_ialdN (c + 4) (by omega) fA_81 (nI_add c 4) (by omega) (by decide) dX11_leastBeside_76 ?_
          refine xj_mmin xw686 xw460 xw74 xw461 (Nat.le_of_ble_eq_true rfl) ⟨by show 1 ≤ _; simp only [xR]; omega, by show 21 ≤ _; simp only [xR]; omega, by show _ ≤ _; simp only [xR]; omega, by show _ ≤ _; simp only [xR]; omega⟩ dX11_leastBeside_77 ?_
          refine xj_topi (fun zv5 ezv5 => ?_)
          refine xj_istore_n (n := 2) (i := 2) (lv1 := [(2, .int zv5), (0, .ref 0), (1, .int (nI c))]) rfl rfl (Nat.le_of_ble_eq_true rfl) dX11_leastBeside_80 ?_
          refine xj_iload_n (n := 2) (i := 2) 0 rfl rfl dX11_leastBeside_81 ?_
          have er : lbF (g 81) c = zv5 := by
            unfold lbF
            simp only [if_neg hb6, if_pos hb26, if_neg hb45, if_pos hb65]
            all_goals (first | rfl | (simp only [*]; rfl) | simp only [mnF, *])
          exact xj_ireturn rfl (nr_i _) (Nat.zero_le _) (Nat.zero_le _) dX11_leastBeside_82 (qP_e er.symm)
      · have hb45 : 0 < c / 4 := Nat.pos_of_ne_zero (fun z => zc45 (by rw [z]; exact nI_le (a := 0) (b := 0) (Nat.le_refl _) (by decide)))
        refine xj_iload_n (n := 2) (i := 2) 0 rfl rfl dX11_leastBeside_48 ?_
        refine xj_aload_n (n := 0) (i := 0) 1 rfl rfl dX11_leastBeside_49 ?_
        refine yj_getf (v := .ref 81) fl_X11_77_11 (by omega) (fq_0 g) rfl dX11_leastBeside_50 ?_
        refine xj_iload_n (n := 1) (i := 1) 2 rfl rfl dX11_leastBeside_53 ?_
        refine xj_iconst (v := 4) (by decide) dX11_leastBeside_54 ?_
        refine xj_isub dX11_leastBeside_55 ?_
        refine yj_ialdN (c - 4) (by omega) fA_81 (pk_sub (a := c) (b := 4) (by omega)) (by omega) (by decide) dX11_leastBeside_56 ?_
        refine xj_mmin xw686 xw460 xw74 xw461 (Nat.le_of_ble_eq_true rfl) ⟨by show 1 ≤ _; simp only [xR]; omega, by show 21 ≤ _; simp only [xR]; omega, by show _ ≤ _; simp only [xR]; omega, by show _ ≤ _; simp only [xR]; omega⟩ dX11_leastBeside_57 ?_
        refine xj_topi (fun zv6 ezv6 => ?_)
        refine xj_istore_n (n := 2) (i := 2) (lv1 := [(2, .int zv6), (0, .ref 0), (1, .int (nI c))]) rfl rfl (Nat.le_of_ble_eq_true rfl) dX11_leastBeside_60 ?_
        refine xj_iload_n (n := 1) (i := 1) 2 rfl rfl dX11_leastBeside_61 ?_
        refine xj_iconst (v := 4) (by decide) dX11_leastBeside_62 ?_
        refine xj_idiv (by decide) dX11_leastBeside_63 ?_
        refine xj_top (show nI c / 4 = nI (c / 4) from nI_div4 hc) ?_
        refine xj_iconst (v := 3) (by decide) dX11_leastBeside_64 ?_
        refine xj_icmp_ge (tgt := 81) (by decide) dX11_leastBeside_65 (fun zc65 => ?_) (fun zc65 => ?_)
        · have hb65 : ¬ c / 4 < 3 := fun z => absurd zc65 (nI_ge (b := 3) z (by omega))
          refine xj_iload_n (n := 2) (i := 2) 0 rfl rfl dX11_leastBeside_81 ?_
          have er : lbF (g 81) c = zv6 := by
            unfold lbF
            simp only [if_neg hb6, if_pos hb26, if_pos hb45, if_neg hb65]
            all_goals (first | rfl | (simp only [*]; rfl) | simp only [mnF, *])
          exact xj_ireturn rfl (nr_i _) (Nat.zero_le _) (Nat.zero_le _) dX11_leastBeside_82 (qP_e er.symm)
        · have hb65 : c / 4 < 3 := Nat.lt_of_not_ge (fun z => zc65 (nI_le (a := 3) z (by omega)))
          refine xj_iload_n (n := 2) (i := 2) 0 rfl rfl dX11_leastBeside_68 ?_
          refine xj_aload_n (n := 0) (i := 0) 1 rfl rfl dX11_leastBeside_69 ?_
          refine yj_getf (v := .ref 81) fl_X11_77_11 (by omega) (fq_0 g) rfl dX11_leastBeside_70 ?_
          refine xj_iload_n (n := 1) (i := 1) 2 rfl rfl dX11_leastBeside_73 ?_
          refine xj_iconst (v := 4) (by decide) dX11_leastBeside_74 ?_
          refine xj_iadd dX11_leastBeside_75 ?_
          refine yj_ialdN (c + 4) (by omega) fA_81 (nI_add c 4) (by omega) (by decide) dX11_leastBeside_76 ?_
          refine xj_mmin xw686 xw460 xw74 xw461 (Nat.le_of_ble_eq_true rfl) ⟨by show 1 ≤ _; simp only [xR]; omega, by show 21 ≤ _; simp only [xR]; omega, by show _ ≤ _; simp only [xR]; omega, by show _ ≤ _; simp only [xR]; omega⟩ dX11_leastBeside_77 ?_
          refine xj_topi (fun zv7 ezv7 => ?_)
          refine xj_istore_n (n := 2) (i := 2) (lv1 := [(2, .int zv7), (0, .ref 0), (1, .int (nI c))]) rfl rfl (Nat.le_of_ble_eq_true rfl) dX11_leastBeside_80 ?_
          refine xj_iload_n (n := 2) (i := 2) 0 rfl rfl dX11_leastBeside_81 ?_
          have er : lbF (g 81) c = zv7 := by
            unfold lbF
            simp only [if_neg hb6, if_pos hb26, if_pos hb45, if_pos hb65]
            all_goals (first | rfl | (simp only [*]; rfl) | simp only [mnF, *])
          exact xj_ireturn rfl (nr_i _) (Nat.zero_le _) (Nat.zero_le _) dX11_leastBeside_82 (qP_e er.symm)
  · have hb6 : 0 < c % 4 := Nat.pos_of_ne_zero (fun z => zc6 (by rw [z]; exact nI_le (a := 0) (b := 0) (Nat.le_refl _) (by decide)))
    refine xj_iload_n (n := 2) (i := 2) 0 rfl rfl dX11_leastBeside_9 ?_
    refine xj_aload_n (n := 0) (i := 0) 1 rfl rfl dX11_leastBeside_10 ?_
    refine yj_getf (v := .ref 81) fl_X11_77_11 (by omega) (fq_0 g) rfl dX11_leastBeside_11 ?_
    refine xj_iload_n (n := 1) (i := 1) 2 rfl rfl dX11_leastBeside_14 ?_
    refine xj_iconst (v := 1) (by decide) dX11_leastBeside_15 ?_
    refine xj_isub dX11_leastBeside_16 ?_
    refine yj_ialdN (c - 1) (by omega) fA_81 (pk_sub (a := c) (b := 1) (by omega)) (by omega) (by decide) dX11_leastBeside_17 ?_
    refine xj_mmin xw686 xw460 xw74 xw461 (Nat.le_of_ble_eq_true rfl) ⟨by show 1 ≤ _; simp only [xR]; omega, by show 21 ≤ _; simp only [xR]; omega, by show _ ≤ _; simp only [xR]; omega, by show _ ≤ _; simp only [xR]; omega⟩ dX11_leastBeside_18 ?_
    refine xj_topi (fun zv8 ezv8 => ?_)
    refine xj_istore_n (n := 2) (i := 2) (lv1 := [(2, .int zv8), (0, .ref 0), (1, .int (nI c))]) rfl rfl (Nat.le_of_ble_eq_true rfl) dX11_leastBeside_21 ?_
    refine xj_iload_n (n := 1) (i := 1) 2 rfl rfl dX11_leastBeside_22 ?_
    refine xj_iconst (v := 4) (by decide) dX11_leastBeside_23 ?_
    refine xj_irem (by decide) dX11_leastBeside_24 ?_
    refine xj_top (show nI c - nI c / 4 * 4 = nI (c % 4) from nI_rem4 hc) ?_
    refine xj_iconst (v := 3) (by decide) dX11_leastBeside_25 ?_
    refine xj_icmp_ge (tgt := 42) (by decide) dX11_leastBeside_26 (fun zc26 => ?_) (fun zc26 => ?_)
    · have hb26 : ¬ c % 4 < 3 := fun z => absurd zc26 (nI_ge (b := 3) z (by omega))
      refine xj_iload_n (n := 1) (i := 1) 2 rfl rfl dX11_leastBeside_42 ?_
      refine xj_iconst (v := 4) (by decide) dX11_leastBeside_43 ?_
      refine xj_idiv (by decide) dX11_leastBeside_44 ?_
      refine xj_top (show nI c / 4 = nI (c / 4) from nI_div4 hc) ?_
      refine xj_if_le (tgt := 61) (by decide) dX11_leastBeside_45 (fun zc45 => ?_) (fun zc45 => ?_)
      · have hb45 : ¬ 0 < c / 4 := fun z => absurd zc45 (nI_ge (a := 0) z (by omega))
        refine xj_iload_n (n := 1) (i := 1) 2 rfl rfl dX11_leastBeside_61 ?_
        refine xj_iconst (v := 4) (by decide) dX11_leastBeside_62 ?_
        refine xj_idiv (by decide) dX11_leastBeside_63 ?_
        refine xj_top (show nI c / 4 = nI (c / 4) from nI_div4 hc) ?_
        refine xj_iconst (v := 3) (by decide) dX11_leastBeside_64 ?_
        refine xj_icmp_ge (tgt := 81) (by decide) dX11_leastBeside_65 (fun zc65 => ?_) (fun zc65 => ?_)
        · have hb65 : ¬ c / 4 < 3 := fun z => absurd zc65 (nI_ge (b := 3) z (by omega))
          refine xj_iload_n (n := 2) (i := 2) 0 rfl rfl dX11_leastBeside_81 ?_
          have er : lbF (g 81) c = zv8 := by
            unfold lbF
            simp only [if_pos hb6, if_neg hb26, if_neg hb45, if_neg hb65]
            all_goals (first | rfl | (simp only [*]; rfl) | simp only [mnF, *])
          exact xj_ireturn rfl (nr_i _) (Nat.zero_le _) (Nat.zero_le _) dX11_leastBeside_82 (qP_e er.symm)
        · have hb65 : c / 4 < 3 := Nat.lt_of_not_ge (fun z => zc65 (nI_le (a := 3) z (by omega)))
          refine xj_iload_n (n := 2) (i := 2) 0 rfl rfl dX11_leastBeside_68 ?_
          refine xj_aload_n (n := 0) (i := 0) 1 rfl rfl dX11_leastBeside_69 ?_
          refine yj_getf (v := .ref 81) fl_X11_77_11 (by omega) (fq_0 g) rfl dX11_leastBeside_70 ?_
          refine xj_iload_n (n := 1) (i := 1) 2 rfl rfl dX11_leastBeside_73 ?_
          refine xj_iconst (v := 4) (by decide) dX11_leastBeside_74 ?_
          refine xj_iadd dX11_leastBeside_75 ?_
          refine yj_ialdN (c + 4) (by omega) fA_81 (nI_add c 4) (by omega) (by decide) dX11_leastBeside_76 ?_
          refine xj_mmin xw686 xw460 xw74 xw461 (Nat.le_of_ble_eq_true rfl) ⟨by show 1 ≤ _; simp only [xR]; omega, by show 21 ≤ _; simp only [xR]; omega, by show _ ≤ _; simp only [xR]; omega, by show _ ≤ _; simp only [xR]; omega⟩ dX11_leastBeside_77 ?_
          refine xj_topi (fun zv9 ezv9 => ?_)
          refine xj_istore_n (n := 2) (i := 2) (lv1 := [(2, .int zv9), (0, .ref 0), (1, .int (nI c))]) rfl rfl (Nat.le_of_ble_eq_true rfl) dX11_leastBeside_80 ?_
          refine xj_iload_n (n := 2) (i := 2) 0 rfl rfl dX11_leastBeside_81 ?_
          have er : lbF (g 81) c = zv9 := by
            unfold lbF
            simp only [if_pos hb6, if_neg hb26, if_neg hb45, if_pos hb65]
            all_goals (first | rfl | (simp only [*]; rfl) | simp only [mnF, *])
          exact xj_ireturn rfl (nr_i _) (Nat.zero_le _) (Nat.zero_le _) dX11_leastBeside_82 (qP_e er.symm)
      · have hb45 : 0 < c / 4 := Nat.pos_of_ne_zero (fun z => zc45 (by rw [z]; exact nI_le (a := 0) (b := 0) (Nat.le_refl _) (by decide)))
        refine xj_iload_n (n := 2) (i := 2) 0 rfl rfl dX11_leastBeside_48 ?_
        refine xj_aload_n (n := 0) (i := 0) 1 rfl rfl dX11_leastBeside_49 ?_
        refine yj_getf (v := .ref 81) fl_X11_77_11 (by omega) (fq_0 g) rfl dX11_leastBeside_50 ?_
        refine xj_iload_n (n := 1) (i := 1) 2 rfl rfl dX11_leastBeside_53 ?_
        refine xj_iconst (v := 4) (by decide) dX11_leastBeside_54 ?_
        refine xj_isub dX11_leastBeside_55 ?_
        refine yj_ialdN (c - 4) (by omega) fA_81 (pk_sub (a := c) (b := 4) (by omega)) (by omega) (by decide) dX11_leastBeside_56 ?_
        refine xj_mmin xw686 xw460 xw74 xw461 (Nat.le_of_ble_eq_true rfl) ⟨by show 1 ≤ _; simp only [xR]; omega, by show 21 ≤ _; simp only [xR]; omega, by show _ ≤ _; simp only [xR]; omega, by show _ ≤ _; simp only [xR]; omega⟩ dX11_leastBeside_57 ?_
        refine xj_topi (fun zv10 ezv10 => ?_)
        refine xj_istore_n (n := 2) (i := 2) (lv1 := [(2, .int zv10), (0, .ref 0), (1, .int (nI c))]) rfl rfl (Nat.le_of_ble_eq_true rfl) dX11_leastBeside_60 ?_
        refine xj_iload_n (n := 1) (i := 1) 2 rfl rfl dX11_leastBeside_61 ?_
        refine xj_iconst (v := 4) (by decide) dX11_leastBeside_62 ?_
        refine xj_idiv (by decide) dX11_leastBeside_63 ?_
        refine xj_top (show nI c / 4 = nI (c / 4) from nI_div4 hc) ?_
        refine xj_iconst (v := 3) (by decide) dX11_leastBeside_64 ?_
        refine xj_icmp_ge (tgt := 81) (by decide) dX11_leastBeside_65 (fun zc65 => ?_) (fun zc65 => ?_)
        · have hb65 : ¬ c / 4 < 3 := fun z => absurd zc65 (nI_ge (b := 3) z (by omega))
          refine xj_iload_n (n := 2) (i := 2) 0 rfl rfl dX11_leastBeside_81 ?_
          have er : lbF (g 81) c = zv10 := by
            unfold lbF
            simp only [if_pos hb6, if_neg hb26, if_pos hb45, if_neg hb65]
            all_goals (first | rfl | (simp only [*]; rfl) | simp only [mnF, *])
          exact xj_ireturn rfl (nr_i _) (Nat.zero_le _) (Nat.zero_le _) dX11_leastBeside_82 (qP_e er.symm)
        · have hb65 : c / 4 < 3 := Nat.lt_of_not_ge (fun z => zc65 (nI_le (a := 3) z (by omega)))
          refine xj_iload_n (n := 2) (i := 2) 0 rfl rfl dX11_leastBeside_68 ?_
          refine xj_aload_n (n := 0) (i := 0) 1 rfl rfl dX11_leastBeside_69 ?_
          refine yj_getf (v := .ref 81) fl_X11_77_11 (by omega) (fq_0 g) rfl dX11_leastBeside_70 ?_
          refine xj_iload_n (n := 1) (i := 1) 2 rfl rfl dX11_leastBeside_73 ?_
          refine xj_iconst (v := 4) (by decide) dX11_leastBeside_74 ?_
          refine xj_iadd dX11_leastBeside_75 ?_
          refine yj_ialdN (c + 4) (by omega) fA_81 (nI_add c 4) (by omega) (by decide) dX11_leastBeside_76 ?_
          refine xj_mmin xw686 xw460 xw74 xw461 (Nat.le_of_ble_eq_true rfl) ⟨by show 1 ≤ _; simp only [xR]; omega, by show 21 ≤ _; simp only [xR]; omega, by show _ ≤ _; simp only [xR]; omega, by show _ ≤ _; simp only [xR]; omega⟩ dX11_leastBeside_77 ?_
          refine xj_topi (fun zv11 ezv11 => ?_)
          refine xj_istore_n (n := 2) (i := 2) (lv1 := [(2, .int zv11), (0, .ref 0), (1, .int (nI c))]) rfl rfl (Nat.le_of_ble_eq_true rfl) dX11_leastBeside_80 ?_
          refine xj_iload_n (n := 2) (i := 2) 0 rfl rfl dX11_leastBeside_81 ?_
          have er : lbF (g 81) c = zv11 := by
            unfold lbF
            simp only [if_pos hb6, if_neg hb26, if_pos hb45, if_pos hb65]
            all_goals (first | rfl | (simp only [*]; rfl) | simp only [mnF, *])
          exact xj_ireturn rfl (nr_i _) (Nat.zero_le _) (Nat.zero_le _) dX11_leastBeside_82 (qP_e er.symm)
    · have hb26 : c % 4 < 3 := Nat.lt_of_not_ge (fun z => zc26 (nI_le (a := 3) z (by omega)))
      refine xj_iload_n (n := 2) (i := 2) 0 rfl rfl dX11_leastBeside_29 ?_
      refine xj_aload_n (n := 0) (i := 0) 1 rfl rfl dX11_leastBeside_30 ?_
      refine yj_getf (v := .ref 81) fl_X11_77_11 (by omega) (fq_0 g) rfl dX11_leastBeside_31 ?_
      refine xj_iload_n (n := 1) (i := 1) 2 rfl rfl dX11_leastBeside_34 ?_
      refine xj_iconst (v := 1) (by decide) dX11_leastBeside_35 ?_
      refine xj_iadd dX11_leastBeside_36 ?_
      refine yj_ialdN (c + 1) (by omega) fA_81 (nI_1 c) (by omega) (by decide) dX11_leastBeside_37 ?_
      refine xj_mmin xw686 xw460 xw74 xw461 (Nat.le_of_ble_eq_true rfl) ⟨by show 1 ≤ _; simp only [xR]; omega, by show 21 ≤ _; simp only [xR]; omega, by show _ ≤ _; simp only [xR]; omega, by show _ ≤ _; simp only [xR]; omega⟩ dX11_leastBeside_38 ?_
      refine xj_topi (fun zv12 ezv12 => ?_)
      refine xj_istore_n (n := 2) (i := 2) (lv1 := [(2, .int zv12), (0, .ref 0), (1, .int (nI c))]) rfl rfl (Nat.le_of_ble_eq_true rfl) dX11_leastBeside_41 ?_
      refine xj_iload_n (n := 1) (i := 1) 2 rfl rfl dX11_leastBeside_42 ?_
      refine xj_iconst (v := 4) (by decide) dX11_leastBeside_43 ?_
      refine xj_idiv (by decide) dX11_leastBeside_44 ?_
      refine xj_top (show nI c / 4 = nI (c / 4) from nI_div4 hc) ?_
      refine xj_if_le (tgt := 61) (by decide) dX11_leastBeside_45 (fun zc45 => ?_) (fun zc45 => ?_)
      · have hb45 : ¬ 0 < c / 4 := fun z => absurd zc45 (nI_ge (a := 0) z (by omega))
        refine xj_iload_n (n := 1) (i := 1) 2 rfl rfl dX11_leastBeside_61 ?_
        refine xj_iconst (v := 4) (by decide) dX11_leastBeside_62 ?_
        refine xj_idiv (by decide) dX11_leastBeside_63 ?_
        refine xj_top (show nI c / 4 = nI (c / 4) from nI_div4 hc) ?_
        refine xj_iconst (v := 3) (by decide) dX11_leastBeside_64 ?_
        refine xj_icmp_ge (tgt := 81) (by decide) dX11_leastBeside_65 (fun zc65 => ?_) (fun zc65 => ?_)
        · have hb65 : ¬ c / 4 < 3 := fun z => absurd zc65 (nI_ge (b := 3) z (by omega))
          refine xj_iload_n (n := 2) (i := 2) 0 rfl rfl dX11_leastBeside_81 ?_
          have er : lbF (g 81) c = zv12 := by
            unfold lbF
            simp only [if_pos hb6, if_pos hb26, if_neg hb45, if_neg hb65]
            all_goals (first | rfl | (simp only [*]; rfl) | simp only [mnF, *])
          exact xj_ireturn rfl (nr_i _) (Nat.zero_le _) (Nat.zero_le _) dX11_leastBeside_82 (qP_e er.symm)
        · have hb65 : c / 4 < 3 := Nat.lt_of_not_ge (fun z => zc65 (nI_le (a := 3) z (by omega)))
          refine xj_iload_n (n := 2) (i := 2) 0 rfl rfl dX11_leastBeside_68 ?_
          refine xj_aload_n (n := 0) (i := 0) 1 rfl rfl dX11_leastBeside_69 ?_
          refine yj_getf (v := .ref 81) fl_X11_77_11 (by omega) (fq_0 g) rfl dX11_leastBeside_70 ?_
          refine xj_iload_n (n := 1) (i := 1) 2 rfl rfl dX11_leastBeside_73 ?_
          refine xj_iconst (v := 4) (by decide) dX11_leastBeside_74 ?_
          refine xj_iadd dX11_leastBeside_75 ?_
          refine yj_ialdN (c + 4) (by omega) fA_81 (nI_add c 4) (by omega) (by decide) dX11_leastBeside_76 ?_
          refine xj_mmin xw686 xw460 xw74 xw461 (Nat.le_of_ble_eq_true rfl) ⟨by show 1 ≤ _; simp only [xR]; omega, by show 21 ≤ _; simp only [xR]; omega, by show _ ≤ _; simp only [xR]; omega, by show _ ≤ _; simp only [xR]; omega⟩ dX11_leastBeside_77 ?_
          refine xj_topi (fun zv13 ezv13 => ?_)
          refine xj_istore_n (n := 2) (i := 2) (lv1 := [(2, .int zv13), (0, .ref 0), (1, .int (nI c))]) rfl rfl (Nat.le_of_ble_eq_true rfl) dX11_leastBeside_80 ?_
          refine xj_iload_n (n := 2) (i := 2) 0 rfl rfl dX11_leastBeside_81 ?_
          have er : lbF (g 81) c = zv13 := by
            unfold lbF
            simp only [if_pos hb6, if_pos hb26, if_neg hb45, if_pos hb65]
            all_goals (first | rfl | (simp only [*]; rfl) | simp only [mnF, *])
          exact xj_ireturn rfl (nr_i _) (Nat.zero_le _) (Nat.zero_le _) dX11_leastBeside_82 (qP_e er.symm)
      · have hb45 : 0 < c / 4 := Nat.pos_of_ne_zero (fun z => zc45 (by rw [z]; exact nI_le (a := 0) (b := 0) (Nat.le_refl _) (by decide)))
        refine xj_iload_n (n := 2) (i := 2) 0 rfl rfl dX11_leastBeside_48 ?_
        refine xj_aload_n (n := 0) (i := 0) 1 rfl rfl dX11_leastBeside_49 ?_
        refine yj_getf (v := .ref 81) fl_X11_77_11 (by omega) (fq_0 g) rfl dX11_leastBeside_50 ?_
        refine xj_iload_n (n := 1) (i := 1) 2 rfl rfl dX11_leastBeside_53 ?_
        refine xj_iconst (v := 4) (by decide) dX11_leastBeside_54 ?_
        refine xj_isub dX11_leastBeside_55 ?_
        refine yj_ialdN (c - 4) (by omega) fA_81 (pk_sub (a := c) (b := 4) (by omega)) (by omega) (by decide) dX11_leastBeside_56 ?_
        refine xj_mmin xw686 xw460 xw74 xw461 (Nat.le_of_ble_eq_true rfl) ⟨by show 1 ≤ _; simp only [xR]; omega, by show 21 ≤ _; simp only [xR]; omega, by show _ ≤ _; simp only [xR]; omega, by show _ ≤ _; simp only [xR]; omega⟩ dX11_leastBeside_57 ?_
        refine xj_topi (fun zv14 ezv14 => ?_)
        refine xj_istore_n (n := 2) (i := 2) (lv1 := [(2, .int zv14), (0, .ref 0), (1, .int (nI c))]) rfl rfl (Nat.le_of_ble_eq_true rfl) dX11_leastBeside_60 ?_
        refine xj_iload_n (n := 1) (i := 1) 2 rfl rfl dX11_leastBeside_61 ?_
        refine xj_iconst (v := 4) (by decide) dX11_leastBeside_62 ?_
        refine xj_idiv (by decide) dX11_leastBeside_63 ?_
        refine xj_top (show nI c / 4 = nI (c / 4) from nI_div4 hc) ?_
        refine xj_iconst (v := 3) (by decide) dX11_leastBeside_64 ?_
        refine xj_icmp_ge (tgt := 81) (by decide) dX11_leastBeside_65 (fun zc65 => ?_) (fun zc65 => ?_)
        · have hb65 : ¬ c / 4 < 3 := fun z => absurd zc65 (nI_ge (b := 3) z (by omega))
          refine xj_iload_n (n := 2) (i := 2) 0 rfl rfl dX11_leastBeside_81 ?_
          have er : lbF (g 81) c = zv14 := by
            unfold lbF
            simp only [if_pos hb6, if_pos hb26, if_pos hb45, if_neg hb65]
            all_goals (first | rfl | (simp only [*]; rfl) | simp only [mnF, *])
          exact xj_ireturn rfl (nr_i _) (Nat.zero_le _) (Nat.zero_le _) dX11_leastBeside_82 (qP_e er.symm)
        · have hb65 : c / 4 < 3 := Nat.lt_of_not_ge (fun z => zc65 (nI_le (a := 3) z (by omega)))
          refine xj_iload_n (n := 2) (i := 2) 0 rfl rfl dX11_leastBeside_68 ?_
          refine xj_aload_n (n := 0) (i := 0) 1 rfl rfl dX11_leastBeside_69 ?_
          refine yj_getf (v := .ref 81) fl_X11_77_11 (by omega) (fq_0 g) rfl dX11_leastBeside_70 ?_
          refine xj_iload_n (n := 1) (i := 1) 2 rfl rfl dX11_leastBeside_73 ?_
          refine xj_iconst (v := 4) (by decide) dX11_leastBeside_74 ?_
          refine xj_iadd dX11_leastBeside_75 ?_
          refine yj_ialdN (c + 4) (by omega) fA_81 (nI_add c 4) (by omega) (by decide) dX11_leastBeside_76 ?_
          refine xj_mmin xw686 xw460 xw74 xw461 (Nat.le_of_ble_eq_true rfl) ⟨by show 1 ≤ _; simp only [xR]; omega, by show 21 ≤ _; simp only [xR]; omega, by show _ ≤ _; simp only [xR]; omega, by show _ ≤ _; simp only [xR]; omega⟩ dX11_leastBeside_77 ?_
          refine xj_topi (fun zv15 ezv15 => ?_)
          refine xj_istore_n (n := 2) (i := 2) (lv1 := [(2, .int zv15), (0, .ref 0), (1, .int (nI c))]) rfl rfl (Nat.le_of_ble_eq_true rfl) dX11_leastBeside_80 ?_
          refine xj_iload_n (n := 2) (i := 2) 0 rfl rfl dX11_leastBeside_81 ?_
          have er : lbF (g 81) c = zv15 := by
            unfold lbF
            simp only [if_pos hb6, if_pos hb26, if_pos hb45, if_pos hb65]
            all_goals (first | rfl | (simp only [*]; rfl) | simp only [mnF, *])
          exact xj_ireturn rfl (nr_i _) (Nat.zero_le _) (Nat.zero_le _) dX11_leastBeside_82 (qP_e er.symm)
