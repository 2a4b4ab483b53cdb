def rHours (A : zSt) (n : Int32) : Int32 × zSt := if 0 ≤ n ∧ n ≤ 999 then (nI (aM A), gs A 0 2 n) else (-2, A)
def rForce (A : zSt) (t : Int32) : Int32 × zSt := if 0 ≤ t ∧ t ≤ nI (aT A) - 1 then (nI (aW A), gs A 0 4 t) else (-2, A)
def rClean (A : zSt) (Λ : Nat → xL) (s c : Int32) : Int32 × zSt := if isSl A s then if 0 ≤ c ∧ c ≤ 15 then if coP A Λ s.toNatClampNeg c.toNatClampNeg ≤ nI (aM A) then (coP A Λ s.toNatClampNeg c.toNatClampNeg, va_up A (10 + s.toNatClampNeg) (upd (A (10 + s.toNatClampNeg)) c.toNatClampNeg 0)) else (-3, A) else (-7, A) else (-5, A)
def rPut (A : zSt) (s what v : Int32) : Int32 × zSt := if isSl A s then if 0 ≤ what ∧ what ≤ 16 then if what = 16 then if 0 ≤ v ∧ v ≤ 65535 then (A 3 s.toNatClampNeg, gs A 3 s.toNatClampNeg v) else (-7, A) else if 0 ≤ v ∧ v ≤ 99 then (A (10 + s.toNatClampNeg) what.toNatClampNeg, va_up A (10 + s.toNatClampNeg) (upd (A (10 + s.toNatClampNeg)) what.toNatClampNeg v)) else (-7, A) else (-7, A) else (-5, A)
def rSleeper (A : zSt) (km pic dl : Int32) : Int32 × zSt := if 0 ≤ km ∧ km ≤ 59 then if 0 ≤ pic ∧ pic ≤ 65535 then if 0 ≤ dl ∧ dl ≤ 99 then if nI (aS A) < 6 then (nI (aS A), stSl A (nI (km.toNatClampNeg / 10)) (nI (km.toNatClampNeg % 10)) pic dl) else (-4, A) else (-2, A) else (-2, A) else (-2, A)
theorem cA.cell {g : xG} {n : Nat} {A : zSt} {Λ : Nat → xL} (C : cA g n A Λ) (O : okA A) {s c : Nat} (hs : s < aS A) (hc : c < 16) (x : Int32) : cA (gs g (9 + 3 * s + 1) c x) n (va_up A (10 + s) (upd (A (10 + s)) c x)) Λ := by
  have hS := O.1.2
  refine C.rowD O (t := 0) hs (fr.rf.gs (Or.inl rfl) _ _) ?_
  obtain ⟨p1, p2, p3, p4, p5⟩ := C.pane hs
  refine ⟨by rw [gs_n _ _ _ (by omega)]; exact p1, by rw [gs_n _ _ _ (by omega)]; exact p2, by rw [gs_n _ _ _ (by omega)]; exact p3, fun j hj => ?_, p5⟩
  rw [gs_s]
  by_cases hjc : j = c
  · subst hjc; rw [upd_s, upd_s]
  · rw [upd_n _ _ hjc, upd_n _ _ hjc]; exact p4 j hj
theorem cX_lt {q : Nat} (h : q < 86) : cX q := Or.inl h
set_option maxHeartbeats 4000000 in
set_option maxRecDepth 100000 in
theorem c_X11_hours (l : Launch) (d : Nat) (n : Nat) (g : xG) (A : zSt) (Λ : Nat → xL) (O : okA A) (C : cA g n A Λ) (n1 : Int32)  : xC l yX11_hours cX11_hours 3 (some .int) (xR (d + 1) 0 0) [.ref 0, .int n1] (n, fh g) (qI n fun v g1 => v = (rHours A n1).1 ∧ cA g1 n (rHours A n1).2 Λ ∧ fr cX g g1) := by
  refine xC_of false (by decide +kernel) (fun z => by cases z) (Nat.le_of_ble_eq_true rfl) ?_
  have hn := C.n110 O
  have hS6 := O.1.2
  have hW := O.W
  have hT6 := O.2.2.2.1.2.2
  have hN9 := O.2.1.2
  show xJ l (RX11, 3, (some .int), false, (xR (d + 1) 0 0), none) cX11_hours _ 0 0 0 [(0, .ref 0), (1, .int n1)] [] (n, fh g)
  refine xj_iload_n (n := 1) (i := 1) 1 rfl rfl dX11_hours_0 ?_
  refine xj_sipush (v := 999) (by decide) dX11_hours_1 ?_
  refine xj_callS ks_X11_107 (c_X11_within l (d + 0) n1 999 _) (As := [.int n1, .int 999]) (st := []) rfl rfl (xRm_of (by omega) (by decide) (by omega) (by omega)) (Nat.le_of_ble_eq_true rfl) dX11_hours_4 (yk_p (kc := 0) (ks := 0) ?_)
  refine xj_if_ne (tgt := 13) (by decide) dX11_hours_7 (fun zc7 => ?_) (fun zc7 => ?_)
  · have zp7 : 0 ≤ n1 ∧ n1 ≤ 999 := bI_n0.mp zc7
    obtain ⟨kn1, hkn1, rfl⟩ := nI_bnd (m := 999) (by decide) zp7.1 zp7.2
    refine xj_aload_n (n := 0) (i := 0) 0 rfl rfl dX11_hours_13 ?_
    refine yj_getf (v := .int (nI (aM A))) fl_X11_87_11 (by omega) (fq_0 g) (congrArg (fun z => some (Value.int z)) (C.M O)) dX11_hours_14 ?_
    refine xj_istore_n (n := 2) (i := 2) (lv1 := [(2, .int (nI (aM A))), (0, .ref 0), (1, .int (nI kn1))]) rfl rfl (Nat.le_of_ble_eq_true rfl) dX11_hours_17 ?_
    refine xj_aload_n (n := 0) (i := 0) 1 rfl rfl dX11_hours_18 ?_
    refine xj_iload_n (n := 1) (i := 1) 2 rfl rfl dX11_hours_19 ?_
    refine yj_puti fl_X11_87_11 (by omega) fS_0_11 (fi_i _) dX11_hours_20 ?_
    obtain ⟨zg1, ezg1⟩ : ∃ z, z = gs g 0 11 (nI kn1) := ⟨_, rfl⟩
    rw [← ezg1]
    refine xj_iload_n (n := 2) (i := 2) 0 rfl rfl dX11_hours_23 ?_
    have er : rHours A (nI kn1) = ((nI (aM A)), gs A 0 2 (nI kn1)) := by unfold rHours; (try simp only [nI_clamp (show kn1 < 2147483648 by omega)]); rw [if_pos zp7]; all_goals (rfl)
    exact xj_ireturn rfl (nr_i _) (Nat.zero_le _) (Nat.zero_le _) dX11_hours_24 (qI_e (by rw [er]; exact ⟨rfl, (by rw [ezg1]; exact C.num O (Or.inr (Or.inl rfl)) _), (by rw [ezg1]; exact fr.rf.gs (cX_lt (by omega)) _ _)⟩))
  · have zp7 : ¬ (0 ≤ n1 ∧ n1 ≤ 999) := bI_0.mp zc7
    refine xj_bipush (v := (-2)) (by decide) dX11_hours_10 ?_
    have er : rHours A n1 = ((-2), A) := by unfold rHours; rw [if_neg zp7]; all_goals (rfl)
    exact xj_ireturn rfl (nr_i _) (Nat.zero_le _) (Nat.zero_le _) dX11_hours_12 (qI_e (by rw [er]; exact ⟨rfl, C, fr.rf⟩))
set_option maxHeartbeats 4000000 in
set_option maxRecDepth 100000 in
theorem c_X11_force (l : Launch) (d : Nat) (n : Nat) (g : xG) (A : zSt) (Λ : Nat → xL) (O : okA A) (C : cA g n A Λ) (t : Int32)  : xC l yX11_force cX11_force 3 (some .int) (xR (d + 1) 0 0) [.ref 0, .int t] (n, fh g) (qI n fun v g1 => v = (rForce A t).1 ∧ cA g1 n (rForce A t).2 Λ ∧ fr cX g g1) := by
  refine xC_of false (by decide +kernel) (fun z => by cases z) (Nat.le_of_ble_eq_true rfl) ?_
  have hn := C.n110 O
  have hS6 := O.1.2
  have hW := O.W
  have hT6 := O.2.2.2.1.2.2
  have hN9 := O.2.1.2
  show xJ l (RX11, 3, (some .int), false, (xR (d + 1) 0 0), none) cX11_force _ 0 0 0 [(0, .ref 0), (1, .int t)] [] (n, fh g)
  refine xj_iload_n (n := 1) (i := 1) 1 rfl rfl dX11_force_0 ?_
  refine xj_aload_n (n := 0) (i := 0) 0 rfl rfl dX11_force_1 ?_
  refine yj_getf (v := .int (nI (aT A))) fl_X11_90_11 (by omega) (fq_0 g) (congrArg (fun z => some (Value.int z)) (C.T O)) dX11_force_2 ?_
  refine xj_iconst (v := 1) (by decide) dX11_force_5 ?_
  refine xj_isub dX11_force_6 ?_
  refine xj_callS ks_X11_107 (c_X11_within l (d + 0) t ((nI (aT A)) - 1) _) (As := [.int t, .int ((nI (aT A)) - 1)]) (st := []) rfl rfl (xRm_of (by omega) (by decide) (by omega) (by omega)) (Nat.le_of_ble_eq_true rfl) dX11_force_7 (yk_p (kc := 0) (ks := 0) ?_)
  refine xj_if_ne (tgt := 16) (by decide) dX11_force_10 (fun zc10 => ?_) (fun zc10 => ?_)
  · have zp10 : 0 ≤ t ∧ t ≤ ((nI (aT A)) - 1) := bI_n0.mp zc10
    obtain ⟨kt, hkt, rfl⟩ := le_m1 (by omega) zp10.1 zp10.2
    refine xj_aload_n (n := 0) (i := 0) 0 rfl rfl dX11_force_16 ?_
    refine yj_getf (v := .int (nI (aW A))) fl_X11_93_11 (by omega) (fq_0 g) (congrArg (fun z => some (Value.int z)) (C.W O)) dX11_force_17 ?_
    refine xj_istore_n (n := 2) (i := 2) (lv1 := [(2, .int (nI (aW A))), (0, .ref 0), (1, .int (nI kt))]) rfl rfl (Nat.le_of_ble_eq_true rfl) dX11_force_20 ?_
    refine xj_aload_n (n := 0) (i := 0) 1 rfl rfl dX11_force_21 ?_
    refine xj_iload_n (n := 1) (i := 1) 2 rfl rfl dX11_force_22 ?_
    refine yj_puti fl_X11_93_11 (by omega) fS_0_13 (fi_i _) dX11_force_23 ?_
    obtain ⟨zg1, ezg1⟩ : ∃ z, z = gs g 0 13 (nI kt) := ⟨_, rfl⟩
    rw [← ezg1]
    refine xj_iload_n (n := 2) (i := 2) 0 rfl rfl dX11_force_26 ?_
    have er : rForce A (nI kt) = ((nI (aW A)), gs A 0 4 (nI kt)) := by unfold rForce; (try simp only [nI_clamp (show kt < 2147483648 by omega)]); rw [if_pos zp10]; all_goals (rfl)
    exact xj_ireturn rfl (nr_i _) (Nat.zero_le _) (Nat.zero_le _) dX11_force_27 (qI_e (by rw [er]; exact ⟨rfl, (by rw [ezg1]; exact C.num O (Or.inr (Or.inr rfl)) _), (by rw [ezg1]; exact fr.rf.gs (cX_lt (by omega)) _ _)⟩))
  · have zp10 : ¬ (0 ≤ t ∧ t ≤ ((nI (aT A)) - 1)) := bI_0.mp zc10
    refine xj_bipush (v := (-2)) (by decide) dX11_force_13 ?_
    have er : rForce A t = ((-2), A) := by unfold rForce; rw [if_neg zp10]; all_goals (rfl)
    exact xj_ireturn rfl (nr_i _) (Nat.zero_le _) (Nat.zero_le _) dX11_force_15 (qI_e (by rw [er]; exact ⟨rfl, C, fr.rf⟩))
set_option maxHeartbeats 4000000 in
set_option maxRecDepth 100000 in
theorem c_X11_clean (l : Launch) (d : Nat) (n : Nat) (g : xG) (A : zSt) (Λ : Nat → xL) (O : okA A) (C : cA g n A Λ) (s c : Int32)  : xC l yX11_clean cX11_clean 4 (some .int) (xR (d + 4) 0 0) [.ref 0, .int s, .int c] (n, fh g) (qI n fun v g1 => v = (rClean A Λ s c).1 ∧ cA g1 n (rClean A Λ s c).2 Λ ∧ fr cX g g1) := by
  refine xC_of false (by decide +kernel) (fun z => by cases z) (Nat.le_of_ble_eq_true rfl) ?_
  have hn := C.n110 O
  have hS6 := O.1.2
  have hW := O.W
  have hT6 := O.2.2.2.1.2.2
  have hN9 := O.2.1.2
  show xJ l (RX11, 4, (some .int), false, (xR (d + 4) 0 0), none) cX11_clean _ 0 0 0 [(0, .ref 0), (1, .int s), (2, .int c)] [] (n, fh g)
  refine xj_aload_n (n := 0) (i := 0) 0 rfl rfl dX11_clean_0 ?_
  refine xj_iload_n (n := 1) (i := 1) 1 rfl rfl dX11_clean_1 ?_
  refine xj_callV kv_X11_125 (c_X11_isSleeper l (d + 2) n g A Λ O C s) (As := [.int s]) (st := []) (by omega) (fq_0 g) (ci := 11) rfl rfl rfl rfl (xRm_of (by omega) (by decide) (by omega) (by omega)) (Nat.le_of_ble_eq_true rfl) dX11_clean_2 (yk_p (kc := 0) (ks := 0) ?_)
  refine xj_if_ne (tgt := 11) (by decide) dX11_clean_5 (fun zc5 => ?_) (fun zc5 => ?_)
  · have zp5 : isSl A s := bI_n0.mp zc5
    obtain ⟨ks, hks, rfl⟩ := isSl_of O zp5
    have hs6_ks : ks < 6 := by omega
    refine xj_iload_n (n := 2) (i := 2) 2 rfl rfl dX11_clean_11 ?_
    refine xj_callS ks_X11_129 (c_X11_isCell l (d + 2) c _) (As := [.int c]) (st := []) rfl rfl (xRm_of (by omega) (by decide) (by omega) (by omega)) (Nat.le_of_ble_eq_true rfl) dX11_clean_12 (yk_p (kc := 0) (ks := 0) ?_)
    refine xj_if_ne (tgt := 21) (by decide) dX11_clean_15 (fun zc15 => ?_) (fun zc15 => ?_)
    · have zp15 : 0 ≤ c ∧ c ≤ 15 := bI_n0.mp zc15
      obtain ⟨kc, hkc, rfl⟩ := nI_bnd (m := 15) (by decide) zp15.1 zp15.2
      refine xj_aload_n (n := 0) (i := 0) 0 rfl rfl dX11_clean_21 ?_
      refine yj_getf (v := .ref 8) fl_X11_37_11 (by omega) (fq_0 g) rfl dX11_clean_22 ?_
      refine xj_iload_n (n := 1) (i := 1) 1 rfl rfl dX11_clean_25 ?_
      refine yj_aaldN (m := 6) (a := 9 + 3 * ks) ks (by omega) (fq_8 g) (by decide) (by decide) rfl (by omega) (by decide) (if_pos (by omega)) dX11_clean_26 ?_
      refine xj_aload_n (n := 0) (i := 0) 0 rfl rfl dX11_clean_27 ?_
      refine yj_getf (v := .ref 66) fl_X11_55_11 (by omega) (fq_0 g) rfl dX11_clean_28 ?_
      refine xj_aload_n (n := 0) (i := 0) 0 rfl rfl dX11_clean_31 ?_
      refine yj_getf (v := .int (nI (aW A))) fl_X11_93_11 (by omega) (fq_0 g) (congrArg (fun z => some (Value.int z)) (C.W O)) dX11_clean_32 ?_
      refine yj_aaldN (m := 6) (a := fTX (aW A)) (aW A) (by omega) (fq_66 g) (by decide) (by decide) rfl (by omega) (by decide) (C.tx O hW) dX11_clean_35 ?_
      refine xj_iload_n (n := 2) (i := 2) 2 rfl rfl dX11_clean_36 ?_
      refine xj_aload_n (n := 0) (i := 0) 0 rfl rfl dX11_clean_37 ?_
      refine yj_getf (v := .int (nI (aN A))) fl_X11_84_11 (by omega) (fq_0 g) (congrArg (fun z => some (Value.int z)) (C.N O)) dX11_clean_38 ?_
      refine xj_callV kv_X11_181 (c_X7_cost l (d + 0) n hn g (9 + 3 * ks) (fTX (aW A)) (aK A ks) (A 2 ks) (A 3 ks) (A (10 + ks)) (Λ (aW A)) (fPn_r hs6_ks) (C.pane hks) (C.txt hW) kc (nI (aN A)) (by omega)) (As := [.ref (fTX (aW A)), .int (nI kc), .int (nI (aN A))]) (st := []) (by omega) ((fPn_r hs6_ks).2.2.1 _) (ci := 7) rfl rfl rfl rfl (xRm_of (by omega) (by decide) (by omega) (by omega)) (Nat.le_of_ble_eq_true rfl) dX11_clean_41 (yk_i (kc := 0) (ks := 0) fun zv1 zg2 hzg2 => ?_)
      obtain ⟨hvzv1, hfzg2⟩ := hzg2
      have hxzg2 := hfzg2.mono (fX_s (t := (aW A)) hs6_ks (Or.inl rfl))
      have Czg2 := C.keep O hxzg2
      refine xj_top (show zv1 = coP A Λ ks kc from hvzv1) ?_
      refine xj_istore_n (n := 3) (i := 3) (lv1 := [(3, .int (coP A Λ ks kc)), (0, .ref 0), (1, .int (nI ks)), (2, .int (nI kc))]) rfl rfl (Nat.le_of_ble_eq_true rfl) dX11_clean_44 ?_
      refine xj_iload_n (n := 3) (i := 3) 0 rfl rfl dX11_clean_45 ?_
      refine xj_aload_n (n := 0) (i := 0) 1 rfl rfl dX11_clean_46 ?_
      refine yj_getf (v := .int (nI (aM A))) fl_X11_87_11 (by omega) (fq_0 zg2) (congrArg (fun z => some (Value.int z)) (Czg2.M O)) dX11_clean_47 ?_
      refine xj_icmp_le (tgt := 56) (by decide) dX11_clean_50 (fun zc50 => ?_) (fun zc50 => ?_)
      · refine xj_aload_n (n := 0) (i := 0) 1 rfl rfl dX11_clean_56 ?_
        refine yj_getf (v := .ref 8) fl_X11_37_11 (by omega) (fq_0 zg2) rfl dX11_clean_57 ?_
        refine xj_iload_n (n := 1) (i := 1) 2 rfl rfl dX11_clean_60 ?_
        refine yj_aaldN (m := 6) (a := 9 + 3 * ks) ks (by omega) (fq_8 zg2) (by decide) (by decide) rfl (by omega) (by decide) (if_pos (by omega)) dX11_clean_61 ?_
        refine yj_getf (v := .ref ((9 + 3 * ks) + 1)) fl_X11_150_7 (by omega) ((fPn_r hs6_ks).2.2.1 (zg2 (9 + 3 * ks))) rfl dX11_clean_62 ?_
        refine xj_iload_n (n := 2) (i := 2) 3 rfl rfl dX11_clean_65 ?_
        refine xj_iconst (v := 0) (by decide) dX11_clean_66 ?_
        refine yj_iastN kc (by omega) (fPn_r hs6_ks).2.2.2.1 rfl (by omega) (by decide) dX11_clean_67 ?_
        obtain ⟨zg3, ezg3⟩ : ∃ z, z = gs zg2 ((9 + 3 * ks) + 1) kc 0 := ⟨_, rfl⟩
        rw [← ezg3]
        refine xj_iload_n (n := 3) (i := 3) 0 rfl rfl dX11_clean_68 ?_
        have er : rClean A Λ (nI ks) (nI kc) = ((coP A Λ ks kc), va_up A (10 + ks) (upd (A (10 + ks)) kc 0)) := by unfold rClean; (try simp only [nI_clamp (show ks < 2147483648 by omega), nI_clamp (show kc < 2147483648 by omega)]); rw [if_pos zp5, if_pos zp15, if_pos zc50]; all_goals (rfl)
        exact xj_ireturn rfl (nr_i _) (Nat.zero_le _) (Nat.zero_le _) dX11_clean_69 (qI_e (by rw [er]; exact ⟨rfl, (by rw [ezg3]; exact Czg2.cell O hks (by omega) _), (by rw [ezg3]; exact (hxzg2.mono sX_c).gs (cX_lt (by omega)) _ _)⟩))
      · refine xj_bipush (v := (-3)) (by decide) dX11_clean_53 ?_
        have er : rClean A Λ (nI ks) (nI kc) = ((-3), A) := by unfold rClean; (try simp only [nI_clamp (show ks < 2147483648 by omega), nI_clamp (show kc < 2147483648 by omega)]); rw [if_pos zp5, if_pos zp15, if_neg zc50]; all_goals (rfl)
        exact xj_ireturn rfl (nr_i _) (Nat.zero_le _) (Nat.zero_le _) dX11_clean_55 (qI_e (by rw [er]; exact ⟨rfl, Czg2, (hxzg2.mono sX_c)⟩))
    · have zp15 : ¬ (0 ≤ c ∧ c ≤ 15) := bI_0.mp zc15
      refine xj_bipush (v := (-7)) (by decide) dX11_clean_18 ?_
      have er : rClean A Λ (nI ks) c = ((-7), A) := by unfold rClean; (try simp only [nI_clamp (show ks < 2147483648 by omega)]); rw [if_pos zp5, if_neg zp15]; all_goals (rfl)
      exact xj_ireturn rfl (nr_i _) (Nat.zero_le _) (Nat.zero_le _) dX11_clean_20 (qI_e (by rw [er]; exact ⟨rfl, C, fr.rf⟩))
  · have zp5 : ¬ (isSl A s) := bI_0.mp zc5
    refine xj_bipush (v := (-5)) (by decide) dX11_clean_8 ?_
    have er : rClean A Λ s c = ((-5), A) := by unfold rClean; rw [if_neg zp5]; all_goals (rfl)
    exact xj_ireturn rfl (nr_i _) (Nat.zero_le _) (Nat.zero_le _) dX11_clean_10 (qI_e (by rw [er]; exact ⟨rfl, C, fr.rf⟩))
set_option maxHeartbeats 4000000 in
set_option maxRecDepth 100000 in
theorem c_X11_put (l : Launch) (d : Nat) (n : Nat) (g : xG) (A : zSt) (Λ : Nat → xL) (O : okA A) (C : cA g n A Λ) (s what w : Int32)  : xC l yX11_put cX11_put 6 (some .int) (xR (d + 2) 0 0) [.ref 0, .int s, .int what, .int w] (n, fh g) (qI n fun v g1 => v = (rPut A s what w).1 ∧ cA g1 n (rPut A s what w).2 Λ ∧ fr cX g g1) := by
  refine xC_of false (by decide +kernel) (fun z => by cases z) (Nat.le_of_ble_eq_true rfl) ?_
  have hn := C.n110 O
  have hS6 := O.1.2
  have hW := O.W
  have hT6 := O.2.2.2.1.2.2
  have hN9 := O.2.1.2
  show xJ l (RX11, 6, (some .int), false, (xR (d + 2) 0 0), none) cX11_put _ 0 0 0 [(0, .ref 0), (1, .int s), (2, .int what), (3, .int w)] [] (n, fh g)
  refine xj_aload_n (n := 0) (i := 0) 0 rfl rfl dX11_put_0 ?_
  refine xj_iload_n (n := 1) (i := 1) 1 rfl rfl dX11_put_1 ?_
  refine xj_callV kv_X11_125 (c_X11_isSleeper l (d + 0) n g A Λ O C s) (As := [.int s]) (st := []) (by omega) (fq_0 g) (ci := 11) rfl rfl rfl rfl (xRm_of (by omega) (by decide) (by omega) (by omega)) (Nat.le_of_ble_eq_true rfl) dX11_put_2 (yk_p (kc := 0) (ks := 0) ?_)
  refine xj_if_ne (tgt := 11) (by decide) dX11_put_5 (fun zc5 => ?_) (fun zc5 => ?_)
  · have zp5 : isSl A s := bI_n0.mp zc5
    obtain ⟨ks, hks, rfl⟩ := isSl_of O zp5
    have hs6_ks : ks < 6 := by omega
    refine xj_iload_n (n := 2) (i := 2) 2 rfl rfl dX11_put_11 ?_
    refine xj_bipush (v := 16) (by decide) dX11_put_12 ?_
    refine xj_callS ks_X11_107 (c_X11_within l (d + 1) what 16 _) (As := [.int what, .int 16]) (st := []) rfl rfl (xRm_of (by omega) (by decide) (by omega) (by omega)) (Nat.le_of_ble_eq_true rfl) dX11_put_14 (yk_p (kc := 0) (ks := 0) ?_)
    refine xj_if_eq (tgt := 40) (by decide) dX11_put_17 (fun zc17 => ?_) (fun zc17 => ?_)
    · have zp17 : ¬ (0 ≤ what ∧ what ≤ 16) := bI_0.mp zc17
      refine xj_bipush (v := (-7)) (by decide) dX11_put_40 ?_
      have er : rPut A (nI ks) what w = ((-7), A) := by unfold rPut; (try simp only [nI_clamp (show ks < 2147483648 by omega)]); rw [if_pos zp5, if_neg zp17]; all_goals (rfl)
      exact xj_ireturn rfl (nr_i _) (Nat.zero_le _) (Nat.zero_le _) dX11_put_42 (qI_e (by rw [er]; exact ⟨rfl, C, fr.rf⟩))
    · have zp17 : 0 ≤ what ∧ what ≤ 16 := bI_n0.mp zc17
      obtain ⟨kwhat, hkwhat, rfl⟩ := nI_bnd (m := 16) (by decide) zp17.1 zp17.2
      refine xj_iload_n (n := 3) (i := 3) 3 rfl rfl dX11_put_20 ?_
      refine xj_iload_n (n := 2) (i := 2) 2 rfl rfl dX11_put_21 ?_
      refine xj_bipush (v := 16) (by decide) dX11_put_22 ?_
      refine xj_icmp_ne (tgt := 32) (by decide) dX11_put_24 (fun zc24 => ?_) (fun zc24 => ?_)
      · have hw16 : kwhat < 16 := Nat.lt_of_le_of_ne hkwhat (fun z => zc24 (by rw [z]; rfl))
        refine xj_bipush (v := 99) (by decide) dX11_put_32 ?_
        refine xj_callS ks_X11_107 (c_X11_within l (d + 1) w 99 _) (As := [.int w, .int 99]) (st := []) rfl rfl (xRm_of (by omega) (by decide) (by omega) (by omega)) (Nat.le_of_ble_eq_true rfl) dX11_put_34 (yk_p (kc := 0) (ks := 0) ?_)
        refine xj_if_ne (tgt := 43) (by decide) dX11_put_37 (fun zc37 => ?_) (fun zc37 => ?_)
        · have zp37 : 0 ≤ w ∧ w ≤ 99 := bI_n0.mp zc37
          obtain ⟨kw, hkw, rfl⟩ := nI_bnd (m := 99) (by decide) zp37.1 zp37.2
          refine xj_aload_n (n := 0) (i := 0) 0 rfl rfl dX11_put_43 ?_
          refine yj_getf (v := .ref 8) fl_X11_37_11 (by omega) (fq_0 g) rfl dX11_put_44 ?_
          refine xj_iload_n (n := 1) (i := 1) 1 rfl rfl dX11_put_47 ?_
          refine yj_aaldN (m := 6) (a := 9 + 3 * ks) ks (by omega) (fq_8 g) (by decide) (by decide) rfl (by omega) (by decide) (if_pos (by omega)) dX11_put_48 ?_
          refine xj_astore (i := 4) (lv1 := [(4, .ref (9 + 3 * ks)), (0, .ref 0), (1, .int (nI ks)), (2, .int (nI kwhat)), (3, .int (nI kw))]) rfl (Nat.le_of_ble_eq_true rfl) dX11_put_49 ?_
          refine xj_iload_n (n := 2) (i := 2) 3 rfl rfl dX11_put_51 ?_
          refine xj_bipush (v := 16) (by decide) dX11_put_52 ?_
          refine xj_icmp_ne (tgt := 73) (by decide) dX11_put_54 (fun zc54 => ?_) (fun zc54 => ?_)
          · refine xj_aload (i := 4) 0 rfl dX11_put_73 ?_
            refine yj_getf (v := .ref ((9 + 3 * ks) + 1)) fl_X11_150_7 (by omega) ((fPn_r hs6_ks).2.2.1 (g (9 + 3 * ks))) rfl dX11_put_75 ?_
            refine xj_iload_n (n := 2) (i := 2) 3 rfl rfl dX11_put_78 ?_
            refine yj_ialdN kwhat (by omega) (fPn_r hs6_ks).2.2.2.1 rfl (by omega) (by decide) dX11_put_79 ?_
            refine xj_top ((C.pane hks).2.2.2.1 kwhat (by omega)) ?_
            refine xj_topi (fun zv1 ezv1 => ?_)
            refine xj_istore (i := 5) (lv1 := [(5, .int zv1), (4, .ref (9 + 3 * ks)), (0, .ref 0), (1, .int (nI ks)), (2, .int (nI kwhat)), (3, .int (nI kw))]) rfl (Nat.le_of_ble_eq_true rfl) dX11_put_80 ?_
            refine xj_aload (i := 4) 1 rfl dX11_put_82 ?_
            refine yj_getf (v := .ref ((9 + 3 * ks) + 1)) fl_X11_150_7 (by omega) ((fPn_r hs6_ks).2.2.1 (g (9 + 3 * ks))) rfl dX11_put_84 ?_
            refine xj_iload_n (n := 2) (i := 2) 4 rfl rfl dX11_put_87 ?_
            refine xj_iload_n (n := 3) (i := 3) 5 rfl rfl dX11_put_88 ?_
            refine yj_iastN kwhat (by omega) (fPn_r hs6_ks).2.2.2.1 rfl (by omega) (by decide) dX11_put_89 ?_
            obtain ⟨zg2, ezg2⟩ : ∃ z, z = gs g ((9 + 3 * ks) + 1) kwhat (nI kw) := ⟨_, rfl⟩
            rw [← ezg2]
            refine xj_iload (i := 5) 0 rfl dX11_put_90 ?_
            have er : rPut A (nI ks) (nI kwhat) (nI kw) = (zv1, va_up A (10 + ks) (upd (A (10 + ks)) kwhat (nI kw))) := by unfold rPut; (try simp only [nI_clamp (show ks < 2147483648 by omega), nI_clamp (show kwhat < 2147483648 by omega), nI_clamp (show kw < 2147483648 by omega)]); rw [if_pos zp5, if_pos zp17, if_neg zc24, if_pos zp37]; all_goals (rw [ezv1])
            exact xj_ireturn rfl (nr_i _) (Nat.zero_le _) (Nat.zero_le _) dX11_put_92 (qI_e (by rw [er]; exact ⟨rfl, (by rw [ezg2]; exact C.cell O hks (by omega) _), (by rw [ezg2]; exact fr.rf.gs (cX_lt (by omega)) _ _)⟩))
          · exact absurd zc54 zc24
        · have zp37 : ¬ (0 ≤ w ∧ w ≤ 99) := bI_0.mp zc37
          refine xj_bipush (v := (-7)) (by decide) dX11_put_40 ?_
          have er : rPut A (nI ks) (nI kwhat) w = ((-7), A) := by unfold rPut; (try simp only [nI_clamp (show ks < 2147483648 by omega), nI_clamp (show kwhat < 2147483648 by omega)]); rw [if_pos zp5, if_pos zp17, if_neg zc24, if_neg zp37]; all_goals (rfl)
          exact xj_ireturn rfl (nr_i _) (Nat.zero_le _) (Nat.zero_le _) dX11_put_42 (qI_e (by rw [er]; exact ⟨rfl, C, fr.rf⟩))
      · refine xj_ldc cn_X11_136 dX11_put_27 ?_
        refine xj_goto (tgt := 34) (by decide) dX11_put_29 ?_
        refine xj_callS ks_X11_107 (c_X11_within l (d + 1) w 65535 _) (As := [.int w, .int 65535]) (st := []) rfl rfl (xRm_of (by omega) (by decide) (by omega) (by omega)) (Nat.le_of_ble_eq_true rfl) dX11_put_34 (yk_p (kc := 0) (ks := 0) ?_)
        refine xj_if_ne (tgt := 43) (by decide) dX11_put_37 (fun zc37 => ?_) (fun zc37 => ?_)
        · have zp37 : 0 ≤ w ∧ w ≤ 65535 := bI_n0.mp zc37
          obtain ⟨kw, hkw, rfl⟩ := nI_bnd (m := 65535) (by decide) zp37.1 zp37.2
          refine xj_aload_n (n := 0) (i := 0) 0 rfl rfl dX11_put_43 ?_
          refine yj_getf (v := .ref 8) fl_X11_37_11 (by omega) (fq_0 g) rfl dX11_put_44 ?_
          refine xj_iload_n (n := 1) (i := 1) 1 rfl rfl dX11_put_47 ?_
          refine yj_aaldN (m := 6) (a := 9 + 3 * ks) ks (by omega) (fq_8 g) (by decide) (by decide) rfl (by omega) (by decide) (if_pos (by omega)) dX11_put_48 ?_
          refine xj_astore (i := 4) (lv1 := [(4, .ref (9 + 3 * ks)), (0, .ref 0), (1, .int (nI ks)), (2, .int (nI kwhat)), (3, .int (nI kw))]) rfl (Nat.le_of_ble_eq_true rfl) dX11_put_49 ?_
          refine xj_iload_n (n := 2) (i := 2) 3 rfl rfl dX11_put_51 ?_
          refine xj_bipush (v := 16) (by decide) dX11_put_52 ?_
          refine xj_icmp_ne (tgt := 73) (by decide) dX11_put_54 (fun zc54 => ?_) (fun zc54 => ?_)
          · exact absurd zc54 (fun z => z zc24)
          · refine xj_aload (i := 4) 0 rfl dX11_put_57 ?_
            refine yj_getf (v := .int ((A 3 ks))) fl_X11_144_7 (by omega) ((fPn_r hs6_ks).2.2.1 (g (9 + 3 * ks))) (congrArg (fun z => some (Value.int z)) (C.pane hks).2.2.1) dX11_put_59 ?_
            refine xj_topi (fun zv3 ezv3 => ?_)
            refine xj_istore (i := 5) (lv1 := [(5, .int zv3), (4, .ref (9 + 3 * ks)), (0, .ref 0), (1, .int (nI ks)), (2, .int (nI kwhat)), (3, .int (nI kw))]) rfl (Nat.le_of_ble_eq_true rfl) dX11_put_62 ?_
            refine xj_aload (i := 4) 1 rfl dX11_put_64 ?_
            refine xj_iload_n (n := 3) (i := 3) 5 rfl rfl dX11_put_66 ?_
            refine yj_puti fl_X11_144_7 (by omega) (fPn_S (fPn_r hs6_ks) 2 (by decide)) (fi_i _) dX11_put_67 ?_
            obtain ⟨zg4, ezg4⟩ : ∃ z, z = gs g (9 + 3 * ks) 2 (nI kw) := ⟨_, rfl⟩
            rw [← ezg4]
            refine xj_goto (tgt := 90) (by decide) dX11_put_70 ?_
            refine xj_iload (i := 5) 0 rfl dX11_put_90 ?_
            have er : rPut A (nI ks) (nI kwhat) (nI kw) = (zv3, gs A 3 ks (nI kw)) := by unfold rPut; (try simp only [nI_clamp (show ks < 2147483648 by omega), nI_clamp (show kwhat < 2147483648 by omega), nI_clamp (show kw < 2147483648 by omega)]); rw [if_pos zp5, if_pos zp17, if_pos zc24, if_pos zp37]; all_goals (rw [ezv3])
            exact xj_ireturn rfl (nr_i _) (Nat.zero_le _) (Nat.zero_le _) dX11_put_92 (qI_e (by rw [er]; exact ⟨rfl, (by rw [ezg4]; exact C.pic O hks _), (by rw [ezg4]; exact fr.rf.gs (cX_lt (by omega)) _ _)⟩))
        · have zp37 : ¬ (0 ≤ w ∧ w ≤ 65535) := bI_0.mp zc37
          refine xj_bipush (v := (-7)) (by decide) dX11_put_40 ?_
          have er : rPut A (nI ks) (nI kwhat) w = ((-7), A) := by unfold rPut; (try simp only [nI_clamp (show ks < 2147483648 by omega), nI_clamp (show kwhat < 2147483648 by omega)]); rw [if_pos zp5, if_pos zp17, if_pos zc24, if_neg zp37]; all_goals (rfl)
          exact xj_ireturn rfl (nr_i _) (Nat.zero_le _) (Nat.zero_le _) dX11_put_42 (qI_e (by rw [er]; exact ⟨rfl, C, fr.rf⟩))
  · have zp5 : ¬ (isSl A s) := bI_0.mp zc5
    refine xj_bipush (v := (-5)) (by decide) dX11_put_8 ?_
    have er : rPut A s what w = ((-5), A) := by unfold rPut; rw [if_neg zp5]; all_goals (rfl)
    exact xj_ireturn rfl (nr_i _) (Nat.zero_le _) (Nat.zero_le _) dX11_put_10 (qI_e (by rw [er]; exact ⟨rfl, C, fr.rf⟩))
