set_option maxHeartbeats 4000000 in
set_option maxRecDepth 100000 in
theorem c_J7_fill_53178 (l : Launch) (d : Nat) (n : Nat) (hn : 110 ≤ n) (g : xG) (q m : Nat) (x : Int32) (hq : q < n) (S : fAr q m) (hm : m < 2 ^ 31) : xC l yJ7_fill_53178 cJ7_fill_53178 4 none (xR (d + 0) 0 0) [.ref q, .int x] (n, fh g) (qV n fun g1 => fr (fun j => j = q) g g1 ∧ ∀ j, j < m → g1 q j = x) := by
  refine xC_of false (by decide +kernel) (fun z => by cases z) (Nat.le_of_ble_eq_true rfl) ?_
  have key : ∀ i, i ≤ m → ∀ (g1 : xG), fr (fun j => j = q) g g1 → (∀ j, j < i → g1 q j = x) → xJ l (RJ7, 4, none, false, (xR (d + 0) 0 0), none) cJ7_fill_53178 (qV n fun g1 => fr (fun j => j = q) g g1 ∧ ∀ j, j < m → g1 q j = x) 0 0 5 [(3, .int (nI m)), (2, .int (nI i)), (0, .ref q), (1, .int x)] [] (n, fh g1) := by
    refine x_loop m _ ?_ ?_
    · intro g1 hf hB
      refine xj_iload_n (n := 2) (i := 2) 1 rfl rfl dJ7_fill_53178_5 ?_
      refine xj_iload_n (n := 3) (i := 3) 0 rfl rfl dJ7_fill_53178_6 ?_
      refine xj_icmp_ge (tgt := 20) (by decide) dJ7_fill_53178_7 (fun zc7 => ?_) (fun zc7 => ?_)
      · exact xj_return rfl (Nat.zero_le _) (Nat.zero_le _) dJ7_fill_53178_20 (qV_e ⟨hf, hB⟩)
      · exact absurd (nI_le (Nat.le_refl _) (by omega)) zc7
    · intro i hi ih g1 hf hB
      refine xj_iload_n (n := 2) (i := 2) 1 rfl rfl dJ7_fill_53178_5 ?_
      refine xj_iload_n (n := 3) (i := 3) 0 rfl rfl dJ7_fill_53178_6 ?_
      refine xj_icmp_ge (tgt := 20) (by decide) dJ7_fill_53178_7 (fun zc7 => ?_) (fun zc7 => ?_)
      · exact absurd zc7 (nI_ge hi (by omega))
      · refine xj_aload_n (n := 0) (i := 0) 2 rfl rfl dJ7_fill_53178_10 ?_
        refine xj_iload_n (n := 2) (i := 2) 1 rfl rfl dJ7_fill_53178_11 ?_
        refine xj_iload_n (n := 1) (i := 1) 3 rfl rfl dJ7_fill_53178_12 ?_
        refine yj_iastN i hq S rfl hi hm dJ7_fill_53178_13 ?_
        obtain ⟨zg1, ezg1⟩ : ∃ z, z = gs g1 q i x := ⟨_, rfl⟩
        rw [← ezg1]
        refine xj_iinc (n := 1) (i := 2) (v := nI (i + 1)) (lv1 := [(2, .int (nI (i + 1))), (3, .int (nI m)), (0, .ref q), (1, .int x)]) 1 rfl (nI_1 i) rfl (Nat.le_of_ble_eq_true rfl) dJ7_fill_53178_14 ?_
        refine xj_goto (tgt := 5) (by decide) dJ7_fill_53178_17 ?_
        refine xj_sub (lv' := [(3, .int (nI m)), (2, .int (nI (i + 1))), (0, .ref q), (1, .int x)]) [1, 0, 2, 3] rfl ?_
        refine ih zg1 (by rw [ezg1]; exact hf.gs rfl _ _) (fun j hj => ?_)
        rw [ezg1, gs_s]
        by_cases hji : j = i
        · subst hji; exact upd_s _ _ _
        · rw [upd_n _ _ hji]; exact hB j (by omega)
  show xJ l (RJ7, 4, none, false, (xR (d + 0) 0 0), none) cJ7_fill_53178 _ 0 0 0 [(0, .ref q), (1, .int x)] [] (n, fh g)
  refine xj_iconst (v := 0) (by decide) dJ7_fill_53178_0 ?_
  refine xj_istore_n (n := 2) (i := 2) (lv1 := [(2, .int 0), (0, .ref q), (1, .int x)]) rfl rfl (Nat.le_of_ble_eq_true rfl) dJ7_fill_53178_1 ?_
  refine xj_aload_n (n := 0) (i := 0) 1 rfl rfl dJ7_fill_53178_2 ?_
  refine xj_alen (v := nI m) hq (S _) rfl dJ7_fill_53178_3 ?_
  refine xj_istore_n (n := 3) (i := 3) (lv1 := [(3, .int (nI m)), (2, .int 0), (0, .ref q), (1, .int x)]) rfl rfl (Nat.le_of_ble_eq_true rfl) dJ7_fill_53178_4 ?_
  refine xj_sub (lv' := [(3, .int (nI m)), (2, .int 0), (0, .ref q), (1, .int x)]) [0, 1, 2, 3] rfl ?_
  exact key 0 (Nat.zero_le _) g fr.rf (fun j hj => absurd hj (Nat.not_lt_zero j))
set_option maxHeartbeats 4000000 in
set_option maxRecDepth 100000 in
theorem c_X8_become (l : Launch) (d : Nat) (n : Nat) (hn : 110 ≤ n) (g : xG) (q : Nat) (hp : fSt q) (sort size : Int32) : xC l yX8_become cX8_become 3 none (xR (d + 1) 0 0) [.ref q, .int sort, .int size] (n, fh g) (qV n fun g1 => fr (fun j => j = q ∨ j = q + 1) g g1 ∧ g1 q 0 = sort ∧ g1 q 1 = size ∧ ∀ j, j < 40 → g1 (q + 1) j = 0) := by
  refine xC_of false (by decide +kernel) (fun z => by cases z) (Nat.le_of_ble_eq_true rfl) ?_
  have hq1 := hp.1
  show xJ l (RX8, 3, none, false, (xR (d + 1) 0 0), none) cX8_become _ 0 0 0 [(0, .ref q), (1, .int sort), (2, .int size)] [] (n, fh g)
  refine xj_aload_n (n := 0) (i := 0) 0 rfl rfl dX8_become_0 ?_
  refine xj_iload_n (n := 1) (i := 1) 1 rfl rfl dX8_become_1 ?_
  refine yj_puti fl_X8_9_8 (by omega) (fSt_S hp 0 (by decide)) (fi_i _) dX8_become_2 ?_
  obtain ⟨zg1, ezg1⟩ : ∃ z, z = gs g q 0 sort := ⟨_, rfl⟩
  rw [← ezg1]
  refine xj_aload_n (n := 0) (i := 0) 0 rfl rfl dX8_become_5 ?_
  refine xj_iload_n (n := 2) (i := 2) 2 rfl rfl dX8_become_6 ?_
  refine yj_puti fl_X8_15_8 (by omega) (fSt_S hp 1 (by decide)) (fi_i _) dX8_become_7 ?_
  obtain ⟨zg2, ezg2⟩ : ∃ z, z = gs zg1 q 1 size := ⟨_, rfl⟩
  rw [← ezg2]
  refine xj_aload_n (n := 0) (i := 0) 0 rfl rfl dX8_become_10 ?_
  refine yj_getf (v := .ref (q + 1)) fl_X8_18_8 (by omega) (hp.2.1 (zg2 q)) rfl dX8_become_11 ?_
  refine xj_iconst (v := 0) (by decide) dX8_become_14 ?_
  refine xj_callS ks_X8_22 (c_J7_fill_53178 l (d + 0) n hn zg2 (q + 1) 40 0 (by omega) hp.2.2 (by decide)) (As := [.ref (q + 1), .int 0]) (st := []) rfl rfl (xRm_of (by omega) (by decide) (by omega) (by omega)) (Nat.le_of_ble_eq_true rfl) dX8_become_15 (yk_v (kc := 0) (ks := 0) fun zg3 hzg3 => ?_)
  obtain ⟨hfzg3, hBzg3⟩ := hzg3
  have hw : fr (fun j => j = q ∨ j = q + 1) g zg2 := by
    rw [ezg2, ezg1]; exact (fr.rf.gs (Or.inl rfl) _ _).gs (Or.inl rfl) _ _
  have hq0 : zg3 q = upd (upd (g q) 0 sort) 1 size := by rw [hfzg3 q (by omega), ezg2, ezg1, gs_s, gs_s]
  exact xj_return rfl (Nat.zero_le _) (Nat.zero_le _) dX8_become_18 (qV_e ⟨hw.tr (hfzg3.mono fun j hj => Or.inr hj), by rw [hq0]; rfl, by rw [hq0]; rfl, hBzg3⟩)
/-- as the host keeps it -/
def wrF (sort v : Int32) : Int32 := if sort = 0 then v.toInt8.toInt32 else if sort = 1 then v.toInt16.toInt32 else v
set_option maxHeartbeats 4000000 in
set_option maxRecDepth 100000 in
theorem c_X8_write (l : Launch) (d : Nat) (n : Nat) (hn : 110 ≤ n) (g : xG) (q : Nat) (hp : fSt q) (sort v : Int32) (i : Nat) (hi : i < 40) (hs : g q 0 = sort) : xC l yX8_write cX8_write 3 none (xR (d + 0) 0 0) [.ref q, .int (nI i), .int v] (n, fh g) (qV n fun g1 => g1 = gs g (q + 1) i (wrF sort v)) := by
  refine xC_of false (by decide +kernel) (fun z => by cases z) (Nat.le_of_ble_eq_true rfl) ?_
  have hq1 := hp.1
  show xJ l (RX8, 3, none, false, (xR (d + 0) 0 0), none) cX8_write _ 0 0 0 [(0, .ref q), (1, .int (nI i)), (2, .int v)] [] (n, fh g)
  refine xj_aload_n (n := 0) (i := 0) 0 rfl rfl dX8_write_0 ?_
  refine yj_getf (v := .int (sort)) fl_X8_9_8 (by omega) (hp.2.1 (g q)) (congrArg (fun z => some (Value.int z)) hs) dX8_write_1 ?_
  refine xj_if_ne (tgt := 18) (by decide) dX8_write_4 (fun zc4 => ?_) (fun zc4 => ?_)
  · refine xj_aload_n (n := 0) (i := 0) 0 rfl rfl dX8_write_18 ?_
    refine yj_getf (v := .int (sort)) fl_X8_9_8 (by omega) (hp.2.1 (g q)) (congrArg (fun z => some (Value.int z)) hs) dX8_write_19 ?_
    refine xj_iconst (v := 1) (by decide) dX8_write_22 ?_
    refine xj_icmp_ne (tgt := 37) (by decide) dX8_write_23 (fun zc23 => ?_) (fun zc23 => ?_)
    · refine xj_aload_n (n := 0) (i := 0) 0 rfl rfl dX8_write_37 ?_
      refine yj_getf (v := .ref (q + 1)) fl_X8_18_8 (by omega) (hp.2.1 (g q)) rfl dX8_write_38 ?_
      refine xj_iload_n (n := 1) (i := 1) 1 rfl rfl dX8_write_41 ?_
      refine xj_iload_n (n := 2) (i := 2) 2 rfl rfl dX8_write_42 ?_
      refine yj_iastN i (by omega) hp.2.2 rfl (by omega) (by decide) dX8_write_43 ?_
      obtain ⟨zg1, ezg1⟩ : ∃ z, z = gs g (q + 1) i v := ⟨_, rfl⟩
      rw [← ezg1]
      exact xj_return rfl (Nat.zero_le _) (Nat.zero_le _) dX8_write_44 (qV_e (by rw [ezg1]; exact congrArg (gs g (q + 1) i) ((if_neg zc4).trans (if_neg zc23)).symm))
    · refine xj_aload_n (n := 0) (i := 0) 0 rfl rfl dX8_write_26 ?_
      refine yj_getf (v := .ref (q + 1)) fl_X8_18_8 (by omega) (hp.2.1 (g q)) rfl dX8_write_27 ?_
      refine xj_iload_n (n := 1) (i := 1) 1 rfl rfl dX8_write_30 ?_
      refine xj_iload_n (n := 2) (i := 2) 2 rfl rfl dX8_write_31 ?_
      refine xj_i2s dX8_write_32 ?_
      refine xj_topi (fun zv2 ezv2 => ?_)
      refine yj_iastN i (by omega) hp.2.2 rfl (by omega) (by decide) dX8_write_33 ?_
      obtain ⟨zg3, ezg3⟩ : ∃ z, z = gs g (q + 1) i zv2 := ⟨_, rfl⟩
      rw [← ezg3]
      refine xj_goto (tgt := 44) (by decide) dX8_write_34 ?_
      exact xj_return rfl (Nat.zero_le _) (Nat.zero_le _) dX8_write_44 (qV_e (by rw [ezg3, ezv2]; exact congrArg (gs g (q + 1) i) ((if_neg zc4).trans (if_pos (by simpa using zc23))).symm))
  · refine xj_aload_n (n := 0) (i := 0) 0 rfl rfl dX8_write_7 ?_
    refine yj_getf (v := .ref (q + 1)) fl_X8_18_8 (by omega) (hp.2.1 (g q)) rfl dX8_write_8 ?_
    refine xj_iload_n (n := 1) (i := 1) 1 rfl rfl dX8_write_11 ?_
    refine xj_iload_n (n := 2) (i := 2) 2 rfl rfl dX8_write_12 ?_
    refine xj_i2b dX8_write_13 ?_
    refine xj_topi (fun zv4 ezv4 => ?_)
    refine yj_iastN i (by omega) hp.2.2 rfl (by omega) (by decide) dX8_write_14 ?_
    obtain ⟨zg5, ezg5⟩ : ∃ z, z = gs g (q + 1) i zv4 := ⟨_, rfl⟩
    rw [← ezg5]
    refine xj_goto (tgt := 44) (by decide) dX8_write_15 ?_
    exact xj_return rfl (Nat.zero_le _) (Nat.zero_le _) dX8_write_44 (qV_e (by rw [ezg5, ezv4]; exact congrArg (gs g (q + 1) i) (if_pos zc4).symm))
set_option maxHeartbeats 4000000 in
set_option maxRecDepth 100000 in
theorem c_X8_holds (l : Launch) (d : Nat) (n : Nat) (hn : 110 ≤ n) (g : xG) (q : Nat) (hp : fSt q) (z a b : Int32) (hz : g q 1 = z) : xC l yX8_holds cX8_holds 3 (some .boolean) (xR (d + 0) 0 0) [.ref q, .int a, .int b] (n, fh g) (qP (bI (0 ≤ a ∧ 0 ≤ b ∧ a ≤ z ∧ b ≤ z - a)) (n, fh g)) := by
  refine xC_of false (by decide +kernel) (fun z => by cases z) (Nat.le_of_ble_eq_true rfl) ?_
  have hq1 := hp.1
  show xJ l (RX8, 3, (some .boolean), false, (xR (d + 0) 0 0), none) cX8_holds _ 0 0 0 [(0, .ref q), (1, .int a), (2, .int b)] [] (n, fh g)
  refine xj_iload_n (n := 1) (i := 1) 1 rfl rfl dX8_holds_0 ?_
  refine xj_if_lt (tgt := 30) (by decide) dX8_holds_1 (fun zc1 => ?_) (fun zc1 => ?_)
  · refine xj_iconst (v := 0) (by decide) dX8_holds_30 ?_
    exact xj_ireturn rfl nr_b0 (Nat.zero_le _) (Nat.zero_le _) dX8_holds_31 (qP_e (by unfold bI; split <;> first | rfl | (exfalso; simp only [i32_lt, i32_le, i32_0] at *; omega)))
  · refine xj_iload_n (n := 2) (i := 2) 2 rfl rfl dX8_holds_4 ?_
    refine xj_if_lt (tgt := 30) (by decide) dX8_holds_5 (fun zc5 => ?_) (fun zc5 => ?_)
    · refine xj_iconst (v := 0) (by decide) dX8_holds_30 ?_
      exact xj_ireturn rfl nr_b0 (Nat.zero_le _) (Nat.zero_le _) dX8_holds_31 (qP_e (by unfold bI; split <;> first | rfl | (exfalso; simp only [i32_lt, i32_le, i32_0] at *; omega)))
    · refine xj_iload_n (n := 1) (i := 1) 1 rfl rfl dX8_holds_8 ?_
      refine xj_aload_n (n := 0) (i := 0) 0 rfl rfl dX8_holds_9 ?_
      refine yj_getf (v := .int (z)) fl_X8_15_8 (by omega) (hp.2.1 (g q)) (congrArg (fun z => some (Value.int z)) hz) dX8_holds_10 ?_
      refine xj_icmp_gt (tgt := 30) (by decide) dX8_holds_13 (fun zc13 => ?_) (fun zc13 => ?_)
      · refine xj_iconst (v := 0) (by decide) dX8_holds_30 ?_
        exact xj_ireturn rfl nr_b0 (Nat.zero_le _) (Nat.zero_le _) dX8_holds_31 (qP_e (by unfold bI; split <;> first | rfl | (exfalso; simp only [i32_lt, i32_le, i32_0] at *; omega)))
      · refine xj_iload_n (n := 2) (i := 2) 2 rfl rfl dX8_holds_16 ?_
        refine xj_aload_n (n := 0) (i := 0) 0 rfl rfl dX8_holds_17 ?_
        refine yj_getf (v := .int (z)) fl_X8_15_8 (by omega) (hp.2.1 (g q)) (congrArg (fun z => some (Value.int z)) hz) dX8_holds_18 ?_
        refine xj_iload_n (n := 1) (i := 1) 1 rfl rfl dX8_holds_21 ?_
        refine xj_isub dX8_holds_22 ?_
        refine xj_icmp_gt (tgt := 30) (by decide) dX8_holds_23 (fun zc23 => ?_) (fun zc23 => ?_)
        · refine xj_iconst (v := 0) (by decide) dX8_holds_30 ?_
          exact xj_ireturn rfl nr_b0 (Nat.zero_le _) (Nat.zero_le _) dX8_holds_31 (qP_e (by unfold bI; split <;> first | rfl | (exfalso; simp only [i32_lt, i32_le, i32_0] at *; omega)))
        · refine xj_iconst (v := 1) (by decide) dX8_holds_26 ?_
          refine xj_goto (tgt := 31) (by decide) dX8_holds_27 ?_
          exact xj_ireturn rfl nr_b1 (Nat.zero_le _) (Nat.zero_le _) dX8_holds_31 (qP_e (by unfold bI; split <;> first | rfl | (exfalso; simp only [i32_lt, i32_le, i32_0] at *; omega)))
def orF (f : Nat → Int32) : Nat → Int32
  | 0 => 0
  | n + 1 => orF f n ||| f n
theorem orF_congr {f f' : Nat → Int32} : ∀ {n : Nat}, (∀ c, c < n → f c = f' c) → orF f n = orF f' n
  | 0, _ => rfl
  | n + 1, h => by
    unfold orF
    rw [h n (Nat.lt_succ_self n), orF_congr (fun c hc => h c (Nat.lt_succ_of_lt hc))]
set_option maxHeartbeats 4000000 in
set_option maxRecDepth 100000 in
theorem c_X8_anyBits (l : Launch) (d : Nat) (n : Nat) (hn : 110 ≤ n) (g : xG) (q : Nat) (hp : fSt q) (m : Nat) (hm : m ≤ 40) (hz : g q 1 = nI m) : xC l yX8_anyBits cX8_anyBits 3 (some .int) (xR (d + 0) 0 0) [.ref q] (n, fh g) (qP (orF (g (q + 1)) m) (n, fh g)) := by
  refine xC_of false (by decide +kernel) (fun z => by cases z) (Nat.le_of_ble_eq_true rfl) ?_
  have hq1 := hp.1
  have key : ∀ i, i ≤ m → ∀ (g1 : xG), g1 = g → xJ l (RX8, 3, (some .int), false, (xR (d + 0) 0 0), none) cX8_anyBits (qP (orF (g (q + 1)) m) (n, fh g)) 0 0 4 [(2, .int (nI i)), (1, .int (orF (g (q + 1)) i)), (0, .ref q)] [] (n, fh g1) := by
    refine x_loop m _ ?_ ?_
    · intro g1 hf
      refine xj_iload_n (n := 2) (i := 2) 0 rfl rfl dX8_anyBits_4 ?_
      refine xj_aload_n (n := 0) (i := 0) 2 rfl rfl dX8_anyBits_5 ?_
      refine yj_getf (v := .int (nI m)) fl_X8_15_8 (by omega) (hp.2.1 (g1 q)) (congrArg (fun z => some (Value.int z)) (hf ▸ hz)) dX8_anyBits_6 ?_
      refine xj_icmp_ge (tgt := 27) (by decide) dX8_anyBits_9 (fun zc9 => ?_) (fun zc9 => ?_)
      · refine xj_iload_n (n := 1) (i := 1) 1 rfl rfl dX8_anyBits_27 ?_
        exact xj_ireturn rfl (nr_i _) (Nat.zero_le _) (Nat.zero_le _) dX8_anyBits_28 (hf ▸ qP_e rfl)
      · exact absurd (nI_le (Nat.le_refl _) (by omega)) zc9
    · intro i hi ih g1 hf
      refine xj_iload_n (n := 2) (i := 2) 0 rfl rfl dX8_anyBits_4 ?_
      refine xj_aload_n (n := 0) (i := 0) 2 rfl rfl dX8_anyBits_5 ?_
      refine yj_getf (v := .int (nI m)) fl_X8_15_8 (by omega) (hp.2.1 (g1 q)) (congrArg (fun z => some (Value.int z)) (hf ▸ hz)) dX8_anyBits_6 ?_
      refine xj_icmp_ge (tgt := 27) (by decide) dX8_anyBits_9 (fun zc9 => ?_) (fun zc9 => ?_)
      · exact absurd zc9 (nI_ge hi (by omega))
      · refine xj_iload_n (n := 1) (i := 1) 1 rfl rfl dX8_anyBits_12 ?_
        refine xj_aload_n (n := 0) (i := 0) 2 rfl rfl dX8_anyBits_13 ?_
        refine yj_getf (v := .ref (q + 1)) fl_X8_18_8 (by omega) (hp.2.1 (g1 q)) rfl dX8_anyBits_14 ?_
        refine xj_iload_n (n := 2) (i := 2) 0 rfl rfl dX8_anyBits_17 ?_
        refine yj_ialdN i (by omega) hp.2.2 rfl (by omega) (by decide) dX8_anyBits_18 ?_
        refine xj_ior dX8_anyBits_19 ?_
        refine xj_topi (fun zv1 ezv1 => ?_)
        refine xj_istore_n (n := 1) (i := 1) (lv1 := [(1, .int zv1), (2, .int (nI i)), (0, .ref q)]) rfl rfl (Nat.le_of_ble_eq_true rfl) dX8_anyBits_20 ?_
        refine xj_iinc (n := 1) (i := 2) (v := nI (i + 1)) (lv1 := [(2, .int (nI (i + 1))), (1, .int zv1), (0, .ref q)]) 1 rfl (nI_1 i) rfl (Nat.le_of_ble_eq_true rfl) dX8_anyBits_21 ?_
        refine xj_goto (tgt := 4) (by decide) dX8_anyBits_24 ?_
        refine xj_sub (lv' := [(2, .int (nI (i + 1))), (1, .int zv1), (0, .ref q)]) [0, 1, 2] rfl ?_
        have h9 := ih g1 hf
        rw [show orF (g (q + 1)) (i + 1) = zv1 from by rw [ezv1, hf]; rfl] at h9
        exact h9
  show xJ l (RX8, 3, (some .int), false, (xR (d + 0) 0 0), none) cX8_anyBits _ 0 0 0 [(0, .ref q)] [] (n, fh g)
  refine xj_iconst (v := 0) (by decide) dX8_anyBits_0 ?_
  refine xj_istore_n (n := 1) (i := 1) (lv1 := [(1, .int 0), (0, .ref q)]) rfl rfl (Nat.le_of_ble_eq_true rfl) dX8_anyBits_1 ?_
  refine xj_iconst (v := 0) (by decide) dX8_anyBits_2 ?_
  refine xj_istore_n (n := 2) (i := 2) (lv1 := [(2, .int 0), (1, .int 0), (0, .ref q)]) rfl rfl (Nat.le_of_ble_eq_true rfl) dX8_anyBits_3 ?_
  refine xj_sub (lv' := [(2, .int 0), (1, .int 0), (0, .ref q)]) [0, 1, 2] rfl ?_
  exact key 0 (Nat.zero_le _) g rfl
