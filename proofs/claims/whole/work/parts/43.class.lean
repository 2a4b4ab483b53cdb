def vDrawn (A : zSt) (Λ : Nat → xL) (sd fl : Int32) : Int32 := if 0 ≤ sd ∧ sd ≤ 99999 then if 0 ≤ fl ∧ fl ≤ 99 then sbF A Λ sd.toNatClampNeg fl.toNatClampNeg else -2 else -2
def cnN (f : Nat → Bool) : Nat → Nat
  | 0 => 0
  | m + 1 => if f m = true then cnN f m + 1 else cnN f m
theorem cnN_le (f : Nat → Bool) : ∀ n, cnN f n ≤ n
  | 0 => Nat.le_refl _
  | n + 1 => by
    have h := cnN_le f n
    unfold cnN
    split <;> omega
def odB (A : zSt) (Λ : Nat → xL) (sd fl : Nat) (mn : Int32) (i : Nat) : Bool := decide (¬ sbF A Λ (sd + i) fl < mn)
def odV (part good sds : Nat) : Int64 := lN ((if part = 0 then good else sds) / Nat.gcd good sds)
def vOdds (A : zSt) (Λ : Nat → xL) (sd sds fl mn part : Int32) : Int64 := if 0 ≤ sd ∧ sd ≤ 99999 then if sds < 1 then -4611686018427387904 else if sds > 40 then -4611686018427387904 else if 0 ≤ fl ∧ fl ≤ 99 then if 0 ≤ mn ∧ mn ≤ 96 then if 0 ≤ part ∧ part ≤ 1 then odV part.toNatClampNeg (cnN (odB A Λ sd.toNatClampNeg fl.toNatClampNeg mn) sds.toNatClampNeg) sds.toNatClampNeg else -4611686018427387904 else -4611686018427387904 else -4611686018427387904 else -4611686018427387904
theorem sds_n {x : Int32} (h1 : ¬ x < 1) (h2 : ¬ x > 40) : ∃ k, 1 ≤ k ∧ k ≤ 40 ∧ x = nI k := by
  have a1 : ¬ x.toInt < 1 := fun z => h1 ((i32_lt _ _).mpr z)
  have a2 : ¬ 40 < x.toInt := fun z => h2 ((i32_lt _ _).mpr z)
  obtain ⟨k, hk, rfl⟩ := nI_bnd (x := x) (M := 40) (m := 40) (by decide) ((i32_le _ _).mpr (by show (0 : Int) ≤ _; omega)) ((i32_le _ _).mpr (by show _ ≤ (40 : Int); omega))
  rw [nI_toInt (by omega)] at a1
  exact ⟨k, by omega, hk, rfl⟩
theorem gcd_hit {a b d : Nat} (hb : 0 < b) (hd : 0 < d) (h1 : a % d = 0) (h2 : b % d = 0) (hm : ∀ e, d < e → e ≤ b → ¬ (a % e = 0 ∧ b % e = 0)) : Nat.gcd a b = d := by
  have g1 := Nat.gcd_dvd_left a b
  have g2 := Nat.gcd_dvd_right a b
  have g3 : d ∣ Nat.gcd a b := Nat.dvd_gcd (Nat.dvd_of_mod_eq_zero h1) (Nat.dvd_of_mod_eq_zero h2)
  have g4 : Nat.gcd a b ≤ b := Nat.le_of_dvd hb g2
  have g5 : 0 < Nat.gcd a b := Nat.gcd_pos_of_pos_right a hb
  have g6 : d ≤ Nat.gcd a b := Nat.le_of_dvd g5 g3
  by_cases e : d < Nat.gcd a b
  · exact absurd ⟨Nat.mod_eq_zero_of_dvd g1, Nat.mod_eq_zero_of_dvd g2⟩ (hm _ e g4)
  · omega
set_option maxHeartbeats 4000000 in
set_option maxRecDepth 100000 in
theorem c_X11_drawn (l : Launch) (d : Nat) (n : Nat) (g : xG) (A : zSt) (Λ : Nat → xL) (O : okA A) (C : cA g n A Λ) (sd fl : Int32)  : xC l yX11_drawn cX11_drawn 3 (some .int) (xR (d + 7) 0 0) [.ref 0, .int sd, .int fl] (n, fh g) (qI n fun v g1 => v = vDrawn A Λ sd fl ∧ fr sX g g1) := by
  refine xC_of false (by decide +kernel) (fun z => by cases z) (Nat.le_of_ble_eq_true rfl) ?_
  have hn := C.n110 O
  have hS6 := O.1.2
  have hW := O.W
  have hT6 := O.2.2.2.1.2.2
  have hN9 := O.2.1.2
  show xJ l (RX11, 3, (some .int), false, (xR (d + 7) 0 0), none) cX11_drawn _ 0 0 0 [(0, .ref 0), (1, .int sd), (2, .int fl)] [] (n, fh g)
  refine xj_iload_n (n := 1) (i := 1) 1 rfl rfl dX11_drawn_0 ?_
  refine xj_ldc cn_X11_240 dX11_drawn_1 ?_
  refine xj_callS ks_X11_107 (c_X11_within l (d + 6) sd 99999 _) (As := [.int sd, .int 99999]) (st := []) rfl rfl (xRm_of (by omega) (by decide) (by omega) (by omega)) (Nat.le_of_ble_eq_true rfl) dX11_drawn_3 (yk_p (kc := 0) (ks := 0) ?_)
  refine xj_if_eq (tgt := 18) (by decide) dX11_drawn_6 (fun zc6 => ?_) (fun zc6 => ?_)
  · have zp6 : ¬ (0 ≤ sd ∧ sd ≤ 99999) := bI_0.mp zc6
    refine xj_bipush (v := (-2)) (by decide) dX11_drawn_18 ?_
    exact xj_ireturn rfl (nr_i _) (Nat.zero_le _) (Nat.zero_le _) dX11_drawn_20 (qI_e ⟨by unfold vDrawn; rw [if_neg zp6]; all_goals (rfl), fr.rf⟩)
  · have zp6 : 0 ≤ sd ∧ sd ≤ 99999 := bI_n0.mp zc6
    obtain ⟨ksd, hksd, rfl⟩ := nI_bnd (m := 99999) (by decide) zp6.1 zp6.2
    refine xj_iload_n (n := 2) (i := 2) 2 rfl rfl dX11_drawn_9 ?_
    refine xj_bipush (v := 99) (by decide) dX11_drawn_10 ?_
    refine xj_callS ks_X11_107 (c_X11_within l (d + 6) fl 99 _) (As := [.int fl, .int 99]) (st := []) rfl rfl (xRm_of (by omega) (by decide) (by omega) (by omega)) (Nat.le_of_ble_eq_true rfl) dX11_drawn_12 (yk_p (kc := 0) (ks := 0) ?_)
    refine xj_if_ne (tgt := 21) (by decide) dX11_drawn_15 (fun zc15 => ?_) (fun zc15 => ?_)
    · have zp15 : 0 ≤ fl ∧ fl ≤ 99 := bI_n0.mp zc15
      obtain ⟨kfl, hkfl, rfl⟩ := nI_bnd (m := 99) (by decide) zp15.1 zp15.2
      refine xj_aload_n (n := 0) (i := 0) 0 rfl rfl dX11_drawn_21 ?_
      refine xj_iload_n (n := 1) (i := 1) 1 rfl rfl dX11_drawn_22 ?_
      refine xj_iload_n (n := 2) (i := 2) 2 rfl rfl dX11_drawn_23 ?_
      refine xj_callV kv_X11_241 (c_X11_seenBehindFlies l (d + 0) n g A Λ O C ksd kfl (by omega) (by omega)) (As := [.int (nI ksd), .int (nI kfl)]) (st := []) (by omega) (fq_0 g) (ci := 11) rfl rfl rfl rfl (xRm_of (by omega) (by decide) (by omega) (by omega)) (Nat.le_of_ble_eq_true rfl) dX11_drawn_24 (yk_i (kc := 0) (ks := 0) fun zv1 zg2 hzg2 => ?_)
      obtain ⟨hvzv1, hxzg2⟩ := hzg2
      have Czg2 := C.keep O hxzg2
      exact xj_ireturn rfl (nr_i _) (Nat.zero_le _) (Nat.zero_le _) dX11_drawn_27 (qI_e ⟨by unfold vDrawn; (try simp only [nI_clamp (show ksd < 2147483648 by omega), nI_clamp (show kfl < 2147483648 by omega)]); rw [if_pos zp6, if_pos zp15]; all_goals (exact hvzv1), hxzg2⟩)
    · have zp15 : ¬ (0 ≤ fl ∧ fl ≤ 99) := bI_0.mp zc15
      refine xj_bipush (v := (-2)) (by decide) dX11_drawn_18 ?_
      exact xj_ireturn rfl (nr_i _) (Nat.zero_le _) (Nat.zero_le _) dX11_drawn_20 (qI_e ⟨by unfold vDrawn; (try simp only [nI_clamp (show ksd < 2147483648 by omega)]); rw [if_pos zp6, if_neg zp15]; all_goals (rfl), fr.rf⟩)
set_option maxHeartbeats 4000000 in
set_option maxRecDepth 100000 in
theorem c_X11_odds (l : Launch) (d : Nat) (n : Nat) (g : xG) (A : zSt) (Λ : Nat → xL) (O : okA A) (C : cA g n A Λ) (sd sds fl mn part : Int32)  : xC l yX11_odds cX11_odds 10 (some .long) (xR (d + 7) 0 0) [.ref 0, .int sd, .int sds, .int fl, .int mn, .int part] (n, fh g) (qL n fun v g1 => v = vOdds A Λ sd sds fl mn part ∧ fr sX g g1) := by
  refine xC_of false (by decide +kernel) (fun z => by cases z) (Nat.le_of_ble_eq_true rfl) ?_
  have hn := C.n110 O
  have hS6 := O.1.2
  have hW := O.W
  have hT6 := O.2.2.2.1.2.2
  have hN9 := O.2.1.2
  show xJ l (RX11, 10, (some .long), false, (xR (d + 7) 0 0), none) cX11_odds _ 0 0 0 [(0, .ref 0), (1, .int sd), (2, .int sds), (3, .int fl), (4, .int mn), (5, .int part)] [] (n, fh g)
  refine xj_iload_n (n := 1) (i := 1) 1 rfl rfl dX11_odds_0 ?_
  refine xj_ldc cn_X11_240 dX11_odds_1 ?_
  refine xj_callS ks_X11_107 (c_X11_within l (d + 6) sd 99999 _) (As := [.int sd, .int 99999]) (st := []) rfl rfl (xRm_of (by omega) (by decide) (by omega) (by omega)) (Nat.le_of_ble_eq_true rfl) dX11_odds_3 (yk_p (kc := 0) (ks := 0) ?_)
  refine xj_if_eq (tgt := 33) (by decide) dX11_odds_6 (fun zc6 => ?_) (fun zc6 => ?_)
  · have zp6 : ¬ (0 ≤ sd ∧ sd ≤ 99999) := bI_0.mp zc6
    refine xj_iconst (v := 0) (by decide) dX11_odds_33 ?_
    refine xj_istore (i := 6) (lv1 := [(6, .int 0), (0, .ref 0), (1, .int sd), (2, .int sds), (3, .int fl), (4, .int mn), (5, .int part)]) rfl (Nat.le_of_ble_eq_true rfl) dX11_odds_34 ?_
    refine xj_iload (i := 6) 0 rfl dX11_odds_36 ?_
    refine xj_if_eq (tgt := 60) (by decide) dX11_odds_38 (fun zc38 => ?_) (fun zc38 => ?_)
    · refine xj_ldc2 cn_X11_244 dX11_odds_60 ?_
      exact xj_lreturn rfl (Nat.zero_le _) (Nat.zero_le _) dX11_odds_63 (qL_e ⟨by unfold vOdds; rw [if_neg zp6]; all_goals (rfl), fr.rf⟩)
    · exact absurd rfl zc38
  · have zp6 : 0 ≤ sd ∧ sd ≤ 99999 := bI_n0.mp zc6
    obtain ⟨ksd, hksd, rfl⟩ := nI_bnd (m := 99999) (by decide) zp6.1 zp6.2
    refine xj_iload_n (n := 2) (i := 2) 2 rfl rfl dX11_odds_9 ?_
    refine xj_iconst (v := 1) (by decide) dX11_odds_10 ?_
    refine xj_icmp_lt (tgt := 33) (by decide) dX11_odds_11 (fun zc11 => ?_) (fun zc11 => ?_)
    · refine xj_iconst (v := 0) (by decide) dX11_odds_33 ?_
      refine xj_istore (i := 6) (lv1 := [(6, .int 0), (0, .ref 0), (1, .int (nI ksd)), (2, .int sds), (3, .int fl), (4, .int mn), (5, .int part)]) rfl (Nat.le_of_ble_eq_true rfl) dX11_odds_34 ?_
      refine xj_iload (i := 6) 0 rfl dX11_odds_36 ?_
      refine xj_if_eq (tgt := 60) (by decide) dX11_odds_38 (fun zc38 => ?_) (fun zc38 => ?_)
      · refine xj_ldc2 cn_X11_244 dX11_odds_60 ?_
        exact xj_lreturn rfl (Nat.zero_le _) (Nat.zero_le _) dX11_odds_63 (qL_e ⟨by unfold vOdds; (try simp only [nI_clamp (show ksd < 2147483648 by omega)]); rw [if_pos zp6, if_pos zc11]; all_goals (rfl), fr.rf⟩)
      · exact absurd rfl zc38
    · refine xj_iload_n (n := 2) (i := 2) 2 rfl rfl dX11_odds_14 ?_
      refine xj_bipush (v := 40) (by decide) dX11_odds_15 ?_
      refine xj_icmp_gt (tgt := 33) (by decide) dX11_odds_17 (fun zc17 => ?_) (fun zc17 => ?_)
      · refine xj_iconst (v := 0) (by decide) dX11_odds_33 ?_
        refine xj_istore (i := 6) (lv1 := [(6, .int 0), (0, .ref 0), (1, .int (nI ksd)), (2, .int sds), (3, .int fl), (4, .int mn), (5, .int part)]) rfl (Nat.le_of_ble_eq_true rfl) dX11_odds_34 ?_
        refine xj_iload (i := 6) 0 rfl dX11_odds_36 ?_
        refine xj_if_eq (tgt := 60) (by decide) dX11_odds_38 (fun zc38 => ?_) (fun zc38 => ?_)
        · refine xj_ldc2 cn_X11_244 dX11_odds_60 ?_
          exact xj_lreturn rfl (Nat.zero_le _) (Nat.zero_le _) dX11_odds_63 (qL_e ⟨by unfold vOdds; (try simp only [nI_clamp (show ksd < 2147483648 by omega)]); rw [if_pos zp6, if_neg zc11, if_pos zc17]; all_goals (rfl), fr.rf⟩)
        · exact absurd rfl zc38
      · obtain ⟨ksds, hksds1, hksds, rfl⟩ := sds_n zc11 zc17
        refine xj_iload_n (n := 3) (i := 3) 3 rfl rfl dX11_odds_20 ?_
        refine xj_bipush (v := 99) (by decide) dX11_odds_21 ?_
        refine xj_callS ks_X11_107 (c_X11_within l (d + 6) fl 99 _) (As := [.int fl, .int 99]) (st := []) rfl rfl (xRm_of (by omega) (by decide) (by omega) (by omega)) (Nat.le_of_ble_eq_true rfl) dX11_odds_23 (yk_p (kc := 0) (ks := 0) ?_)
        refine xj_if_eq (tgt := 33) (by decide) dX11_odds_26 (fun zc26 => ?_) (fun zc26 => ?_)
        · have zp26 : ¬ (0 ≤ fl ∧ fl ≤ 99) := bI_0.mp zc26
          refine xj_iconst (v := 0) (by decide) dX11_odds_33 ?_
          refine xj_istore (i := 6) (lv1 := [(6, .int 0), (0, .ref 0), (1, .int (nI ksd)), (2, .int (nI ksds)), (3, .int fl), (4, .int mn), (5, .int part)]) rfl (Nat.le_of_ble_eq_true rfl) dX11_odds_34 ?_
          refine xj_iload (i := 6) 0 rfl dX11_odds_36 ?_
          refine xj_if_eq (tgt := 60) (by decide) dX11_odds_38 (fun zc38 => ?_) (fun zc38 => ?_)
          · refine xj_ldc2 cn_X11_244 dX11_odds_60 ?_
            exact xj_lreturn rfl (Nat.zero_le _) (Nat.zero_le _) dX11_odds_63 (qL_e ⟨by unfold vOdds; (try simp only [nI_clamp (show ksd < 2147483648 by omega), nI_clamp (show ksds < 2147483648 by omega)]); rw [if_pos zp6, if_neg zc11, if_neg zc17, if_neg zp26]; all_goals (rfl), fr.rf⟩)
          · exact absurd rfl zc38
        · have zp26 : 0 ≤ fl ∧ fl ≤ 99 := bI_n0.mp zc26
          obtain ⟨kfl, hkfl, rfl⟩ := nI_bnd (m := 99) (by decide) zp26.1 zp26.2
          refine xj_iconst (v := 1) (by decide) dX11_odds_29 ?_
          refine xj_goto (tgt := 34) (by decide) dX11_odds_30 ?_
          refine xj_istore (i := 6) (lv1 := [(6, .int 1), (0, .ref 0), (1, .int (nI ksd)), (2, .int (nI ksds)), (3, .int (nI kfl)), (4, .int mn), (5, .int part)]) rfl (Nat.le_of_ble_eq_true rfl) dX11_odds_34 ?_
          refine xj_iload (i := 6) 0 rfl dX11_odds_36 ?_
          refine xj_if_eq (tgt := 60) (by decide) dX11_odds_38 (fun zc38 => ?_) (fun zc38 => ?_)
          · exact absurd zc38 (by decide)
          · refine xj_iload (i := 4) 5 rfl dX11_odds_41 ?_
            refine xj_bipush (v := 96) (by decide) dX11_odds_43 ?_
            refine xj_callS ks_X11_107 (c_X11_within l (d + 6) mn 96 _) (As := [.int mn, .int 96]) (st := []) rfl rfl (xRm_of (by omega) (by decide) (by omega) (by omega)) (Nat.le_of_ble_eq_true rfl) dX11_odds_45 (yk_p (kc := 0) (ks := 0) ?_)
            refine xj_if_eq (tgt := 60) (by decide) dX11_odds_48 (fun zc48 => ?_) (fun zc48 => ?_)
            · have zp48 : ¬ (0 ≤ mn ∧ mn ≤ 96) := bI_0.mp zc48
              refine xj_ldc2 cn_X11_244 dX11_odds_60 ?_
              exact xj_lreturn rfl (Nat.zero_le _) (Nat.zero_le _) dX11_odds_63 (qL_e ⟨by unfold vOdds; (try simp only [nI_clamp (show ksd < 2147483648 by omega), nI_clamp (show ksds < 2147483648 by omega), nI_clamp (show kfl < 2147483648 by omega)]); rw [if_pos zp6, if_neg zc11, if_neg zc17, if_pos zp26, if_neg zp48]; all_goals (rfl), fr.rf⟩)
            · have zp48 : 0 ≤ mn ∧ mn ≤ 96 := bI_n0.mp zc48
              refine xj_iload (i := 5) 6 rfl dX11_odds_51 ?_
              refine xj_iconst (v := 1) (by decide) dX11_odds_53 ?_
              refine xj_callS ks_X11_107 (c_X11_within l (d + 6) part 1 _) (As := [.int part, .int 1]) (st := []) rfl rfl (xRm_of (by omega) (by decide) (by omega) (by omega)) (Nat.le_of_ble_eq_true rfl) dX11_odds_54 (yk_p (kc := 0) (ks := 0) ?_)
              refine xj_if_ne (tgt := 64) (by decide) dX11_odds_57 (fun zc57 => ?_) (fun zc57 => ?_)
              · have zp57 : 0 ≤ part ∧ part ≤ 1 := bI_n0.mp zc57
                obtain ⟨kpart, hkpart, rfl⟩ := nI_bnd (m := 1) (by decide) zp57.1 zp57.2
                refine xj_iconst (v := 0) (by decide) dX11_odds_64 ?_
                refine xj_istore (i := 7) (lv1 := [(7, .int 0), (6, .int 1), (0, .ref 0), (1, .int (nI ksd)), (2, .int (nI ksds)), (3, .int (nI kfl)), (4, .int mn), (5, .int (nI kpart))]) rfl (Nat.le_of_ble_eq_true rfl) dX11_odds_65 ?_
                refine xj_iconst (v := 0) (by decide) dX11_odds_67 ?_
                refine xj_istore (i := 8) (lv1 := [(8, .int 0), (7, .int 0), (6, .int 1), (0, .ref 0), (1, .int (nI ksd)), (2, .int (nI ksds)), (3, .int (nI kfl)), (4, .int mn), (5, .int (nI kpart))]) rfl (Nat.le_of_ble_eq_true rfl) dX11_odds_68 ?_
                have key : ∀ i, i ≤ ksds → ∀ (g1 : xG), fr sX g g1 → xJ l (RX11, 10, (some .long), false, (xR (d + 7) 0 0), none) cX11_odds (qL n fun v g1 => v = vOdds A Λ (nI ksd) (nI ksds) (nI kfl) mn (nI kpart) ∧ fr sX g g1) 0 0 70 [(8, .int (nI i)), (7, .int (nI (cnN (odB A Λ ksd kfl mn) i))), (0, .ref 0), (1, .int (nI ksd)), (2, .int (nI ksds)), (3, .int (nI kfl)), (4, .int mn), (5, .int (nI kpart))] [] (n, fh g1) := by
                  refine x_loop ksds _ ?_ ?_
                  · intro g1 hf
                    have hg40 := cnN_le (odB A Λ ksd kfl mn) ksds
                    refine xj_iload (i := 8) 0 rfl dX11_odds_70 ?_
                    refine xj_iload_n (n := 2) (i := 2) 4 rfl rfl dX11_odds_72 ?_
                    refine xj_icmp_ge (tgt := 99) (by decide) dX11_odds_73 (fun zc73 => ?_) (fun zc73 => ?_)
                    · refine xj_iload (i := 5) 7 rfl dX11_odds_99 ?_
                      refine xj_if_ne (tgt := 109) (by decide) dX11_odds_101 (fun zc101 => ?_) (fun zc101 => ?_)
                      · have hwh : (if kpart = 0 then (cnN (odB A Λ ksd kfl mn) ksds) else ksds) = ksds := if_neg (fun e => zc101 (by rw [e]; rfl))
                        refine xj_iload_n (n := 2) (i := 2) 4 rfl rfl dX11_odds_109 ?_
                        refine xj_istore (i := 8) (lv1 := [(8, .int (nI ksds)), (7, .int (nI (cnN (odB A Λ ksd kfl mn) ksds))), (0, .ref 0), (1, .int (nI ksd)), (2, .int (nI ksds)), (3, .int (nI kfl)), (4, .int mn), (5, .int (nI kpart))]) rfl (Nat.le_of_ble_eq_true rfl) dX11_odds_110 ?_
                        refine xj_iload_n (n := 2) (i := 2) 4 rfl rfl dX11_odds_112 ?_
                        refine xj_istore (i := 9) (lv1 := [(9, .int (nI ksds)), (8, .int (nI ksds)), (7, .int (nI (cnN (odB A Λ ksd kfl mn) ksds))), (0, .ref 0), (1, .int (nI ksd)), (2, .int (nI ksds)), (3, .int (nI kfl)), (4, .int mn), (5, .int (nI kpart))]) rfl (Nat.le_of_ble_eq_true rfl) dX11_odds_113 ?_
                        have hW9 : ksds ≤ 40 := by omega
                        have key2 : ∀ i, i ≤ (ksds - 1) → ∀ (g1 : xG), fr sX g g1 → (∀ e, ksds - i < e → e ≤ ksds → ¬ ((cnN (odB A Λ ksd kfl mn) ksds) % e = 0 ∧ ksds % e = 0)) → xJ l (RX11, 10, (some .long), false, (xR (d + 7) 0 0), none) cX11_odds (qL n fun v g1 => v = vOdds A Λ (nI ksd) (nI ksds) (nI kfl) mn (nI kpart) ∧ fr sX g g1) 0 0 115 [(9, .int (nI (ksds - i))), (7, .int (nI (cnN (odB A Λ ksd kfl mn) ksds))), (8, .int (nI ksds)), (0, .ref 0), (1, .int (nI ksd)), (2, .int (nI ksds)), (3, .int (nI kfl)), (4, .int mn), (5, .int (nI kpart))] [] (n, fh g1) := by
                          refine x_loop (ksds - 1) _ ?_ ?_
                          · intro g1 hf hm
                            have hgc : Nat.gcd (cnN (odB A Λ ksd kfl mn) ksds) ksds = 1 := gcd_hit (by omega) (by omega) (Nat.mod_one _) (Nat.mod_one _) (fun e h => hm e (by omega))
                            refine xj_iload (i := 9) 0 rfl dX11_odds_115 ?_
                            refine xj_iconst (v := 1) (by decide) dX11_odds_117 ?_
                            refine xj_icmp_le (tgt := 149) (by decide) dX11_odds_118 (fun zc118 => ?_) (fun zc118 => ?_)
                            · refine xj_iload (i := 8) 2 rfl dX11_odds_149 ?_
                              refine xj_i2l dX11_odds_151 ?_
                              refine xj_topl (show ((nI ksds).toInt64) = lN ksds from (nI_l (by omega))) ?_
                              exact xj_lreturn rfl (Nat.zero_le _) (Nat.zero_le _) dX11_odds_152 (qL_e ⟨by unfold vOdds; (try simp only [nI_clamp (show ksd < 2147483648 by omega), nI_clamp (show ksds < 2147483648 by omega), nI_clamp (show kfl < 2147483648 by omega), nI_clamp (show kpart < 2147483648 by omega)]); rw [if_pos zp6, if_neg zc11, if_neg zc17, if_pos zp26, if_pos zp48, if_pos zp57]; all_goals (unfold odV; rw [hgc, hwh, Nat.div_one]), hf⟩)
                            · exact absurd (nI_le (b := 1) (by omega) (by omega)) zc118
                          · intro i hi ih g1 hf hm
                            have hdp : 0 < ksds - i := by omega
                            have hdb : ksds - i < 2147483648 := by omega
                            refine xj_iload (i := 9) 0 rfl dX11_odds_115 ?_
                            refine xj_iconst (v := 1) (by decide) dX11_odds_117 ?_
                            refine xj_icmp_le (tgt := 149) (by decide) dX11_odds_118 (fun zc118 => ?_) (fun zc118 => ?_)
                            · exact absurd zc118 (nI_ge (a := 1) (by omega) (by omega))
                            · refine xj_iload (i := 7) 1 rfl dX11_odds_121 ?_
                              refine xj_iload (i := 9) 0 rfl dX11_odds_123 ?_
                              refine xj_irem (nI_ne0 hdp hdb) dX11_odds_125 ?_
                              refine xj_top (show ((nI (cnN (odB A Λ ksd kfl mn) ksds)) - (nI (cnN (odB A Λ ksd kfl mn) ksds)) / (nI (ksds - i)) * (nI (ksds - i))) = nI ((cnN (odB A Λ ksd kfl mn) ksds) % (ksds - i)) from (pk_rem (by omega) hdp hdb)) ?_
                              refine xj_if_ne (tgt := 143) (by decide) dX11_odds_126 (fun zc126 => ?_) (fun zc126 => ?_)
                              · obtain ⟨zv1, ezv1⟩ : ∃ z : Int32, z = (nI (ksds - i)) + Int32.ofInt (-1) := ⟨_, rfl⟩
                                refine xj_iinc (i := 9) (v := zv1) (lv1 := [(9, .int zv1), (7, .int (nI (cnN (odB A Λ ksd kfl mn) ksds))), (8, .int (nI ksds)), (0, .ref 0), (1, .int (nI ksd)), (2, .int (nI ksds)), (3, .int (nI kfl)), (4, .int mn), (5, .int (nI kpart))]) 0 rfl ezv1.symm rfl (Nat.le_of_ble_eq_true rfl) dX11_odds_143 ?_
                                refine xj_goto (tgt := 115) (by decide) dX11_odds_146 ?_
                                refine xj_sub (lv' := [(9, .int zv1), (7, .int (nI (cnN (odB A Λ ksd kfl mn) ksds))), (8, .int (nI ksds)), (0, .ref 0), (1, .int (nI ksd)), (2, .int (nI ksds)), (3, .int (nI kfl)), (4, .int mn), (5, .int (nI kpart))]) [0, 1, 2, 3, 4, 5, 6, 7, 8] rfl ?_
                                rw [show zv1 = nI (ksds - (i + 1)) from by rw [ezv1, show ksds - i = ksds - (i + 1) + 1 by omega]; exact pk_m1 _]
                                exact ih g1 hf (fun e h1 h2 h3 => by by_cases eqz : e = ksds - i; (subst eqz; exact zc126 (by rw [h3.1]; rfl)); (exact hm e (by omega) h2 h3))
                              · have hz1 : (cnN (odB A Λ ksd kfl mn) ksds) % (ksds - i) = 0 := (nI_eq (b := 0) (Nat.lt_of_le_of_lt (Nat.mod_le _ _) (by omega)) (by omega)).mp zc126
                                refine xj_iload_n (n := 2) (i := 2) 5 rfl rfl dX11_odds_129 ?_
                                refine xj_iload (i := 9) 0 rfl dX11_odds_130 ?_
                                refine xj_irem (nI_ne0 hdp hdb) dX11_odds_132 ?_
                                refine xj_top (show ((nI ksds) - (nI ksds) / (nI (ksds - i)) * (nI (ksds - i))) = nI (ksds % (ksds - i)) from (pk_rem (by omega) hdp hdb)) ?_
                                refine xj_if_ne (tgt := 143) (by decide) dX11_odds_133 (fun zc133 => ?_) (fun zc133 => ?_)
                                · obtain ⟨zv2, ezv2⟩ : ∃ z : Int32, z = (nI (ksds - i)) + Int32.ofInt (-1) := ⟨_, rfl⟩
                                  refine xj_iinc (i := 9) (v := zv2) (lv1 := [(9, .int zv2), (7, .int (nI (cnN (odB A Λ ksd kfl mn) ksds))), (8, .int (nI ksds)), (0, .ref 0), (1, .int (nI ksd)), (2, .int (nI ksds)), (3, .int (nI kfl)), (4, .int mn), (5, .int (nI kpart))]) 0 rfl ezv2.symm rfl (Nat.le_of_ble_eq_true rfl) dX11_odds_143 ?_
                                  refine xj_goto (tgt := 115) (by decide) dX11_odds_146 ?_
                                  refine xj_sub (lv' := [(9, .int zv2), (7, .int (nI (cnN (odB A Λ ksd kfl mn) ksds))), (8, .int (nI ksds)), (0, .ref 0), (1, .int (nI ksd)), (2, .int (nI ksds)), (3, .int (nI kfl)), (4, .int mn), (5, .int (nI kpart))]) [0, 1, 2, 3, 4, 5, 6, 7, 8] rfl ?_
                                  rw [show zv2 = nI (ksds - (i + 1)) from by rw [ezv2, show ksds - i = ksds - (i + 1) + 1 by omega]; exact pk_m1 _]
                                  exact ih g1 hf (fun e h1 h2 h3 => by by_cases eqz : e = ksds - i; (subst eqz; exact zc133 (by rw [h3.2]; rfl)); (exact hm e (by omega) h2 h3))
                                · have hz2 : ksds % (ksds - i) = 0 := (nI_eq (b := 0) (Nat.lt_of_le_of_lt (Nat.mod_le _ _) (by omega)) (by omega)).mp zc133
                                  have hgc : Nat.gcd (cnN (odB A Λ ksd kfl mn) ksds) ksds = ksds - i := gcd_hit (by omega) hdp hz1 hz2 hm
                                  refine xj_iload (i := 8) 2 rfl dX11_odds_136 ?_
                                  refine xj_iload (i := 9) 0 rfl dX11_odds_138 ?_
                                  refine xj_idiv (nI_ne0 hdp hdb) dX11_odds_140 ?_
                                  refine xj_top (show ((nI ksds) / (nI (ksds - i))) = nI (ksds / (ksds - i)) from (pk_div (by omega) hdp hdb)) ?_
                                  refine xj_i2l dX11_odds_141 ?_
                                  refine xj_topl (show ((nI (ksds / (ksds - i))).toInt64) = lN (ksds / (ksds - i)) from (nI_l (Nat.lt_of_le_of_lt (Nat.div_le_self _ _) (by omega)))) ?_
                                  exact xj_lreturn rfl (Nat.zero_le _) (Nat.zero_le _) dX11_odds_142 (qL_e ⟨by unfold vOdds; (try simp only [nI_clamp (show ksd < 2147483648 by omega), nI_clamp (show ksds < 2147483648 by omega), nI_clamp (show kfl < 2147483648 by omega), nI_clamp (show kpart < 2147483648 by omega)]); rw [if_pos zp6, if_neg zc11, if_neg zc17, if_pos zp26, if_pos zp48, if_pos zp57]; all_goals (unfold odV; rw [hgc, hwh]), hf⟩)
                        refine xj_sub (lv' := [(9, .int (nI ksds)), (7, .int (nI (cnN (odB A Λ ksd kfl mn) ksds))), (8, .int (nI ksds)), (0, .ref 0), (1, .int (nI ksd)), (2, .int (nI ksds)), (3, .int (nI kfl)), (4, .int mn), (5, .int (nI kpart))]) [0, 2, 1, 3, 4, 5, 6, 7, 8] rfl ?_
                        exact key2 0 (Nat.zero_le _) g1 hf (fun e h1 h2 => by omega)
                      · have hwh : (if kpart = 0 then (cnN (odB A Λ ksd kfl mn) ksds) else ksds) = (cnN (odB A Λ ksd kfl mn) ksds) := if_pos ((nI_eq (b := 0) (by omega) (by omega)).mp zc101)
                        refine xj_iload (i := 7) 1 rfl dX11_odds_104 ?_
                        refine xj_goto (tgt := 110) (by decide) dX11_odds_106 ?_
                        refine xj_istore (i := 8) (lv1 := [(8, .int (nI (cnN (odB A Λ ksd kfl mn) ksds))), (7, .int (nI (cnN (odB A Λ ksd kfl mn) ksds))), (0, .ref 0), (1, .int (nI ksd)), (2, .int (nI ksds)), (3, .int (nI kfl)), (4, .int mn), (5, .int (nI kpart))]) rfl (Nat.le_of_ble_eq_true rfl) dX11_odds_110 ?_
                        refine xj_iload_n (n := 2) (i := 2) 4 rfl rfl dX11_odds_112 ?_
                        refine xj_istore (i := 9) (lv1 := [(9, .int (nI ksds)), (8, .int (nI (cnN (odB A Λ ksd kfl mn) ksds))), (7, .int (nI (cnN (odB A Λ ksd kfl mn) ksds))), (0, .ref 0), (1, .int (nI ksd)), (2, .int (nI ksds)), (3, .int (nI kfl)), (4, .int mn), (5, .int (nI kpart))]) rfl (Nat.le_of_ble_eq_true rfl) dX11_odds_113 ?_
                        have hW9 : (cnN (odB A Λ ksd kfl mn) ksds) ≤ 40 := by omega
                        have key2 : ∀ i, i ≤ (ksds - 1) → ∀ (g1 : xG), fr sX g g1 → (∀ e, ksds - i < e → e ≤ ksds → ¬ ((cnN (odB A Λ ksd kfl mn) ksds) % e = 0 ∧ ksds % e = 0)) → xJ l (RX11, 10, (some .long), false, (xR (d + 7) 0 0), none) cX11_odds (qL n fun v g1 => v = vOdds A Λ (nI ksd) (nI ksds) (nI kfl) mn (nI kpart) ∧ fr sX g g1) 0 0 115 [(9, .int (nI (ksds - i))), (7, .int (nI (cnN (odB A Λ ksd kfl mn) ksds))), (8, .int (nI (cnN (odB A Λ ksd kfl mn) ksds))), (0, .ref 0), (1, .int (nI ksd)), (2, .int (nI ksds)), (3, .int (nI kfl)), (4, .int mn), (5, .int (nI kpart))] [] (n, fh g1) := by
                          refine x_loop (ksds - 1) _ ?_ ?_
                          · intro g1 hf hm
                            have hgc : Nat.gcd (cnN (odB A Λ ksd kfl mn) ksds) ksds = 1 := gcd_hit (by omega) (by omega) (Nat.mod_one _) (Nat.mod_one _) (fun e h => hm e (by omega))
                            refine xj_iload (i := 9) 0 rfl dX11_odds_115 ?_
                            refine xj_iconst (v := 1) (by decide) dX11_odds_117 ?_
                            refine xj_icmp_le (tgt := 149) (by decide) dX11_odds_118 (fun zc118 => ?_) (fun zc118 => ?_)
                            · refine xj_iload (i := 8) 2 rfl dX11_odds_149 ?_
                              refine xj_i2l dX11_odds_151 ?_
                              refine xj_topl (show ((nI (cnN (odB A Λ ksd kfl mn) ksds)).toInt64) = lN (cnN (odB A Λ ksd kfl mn) ksds) from (nI_l (by omega))) ?_
                              exact xj_lreturn rfl (Nat.zero_le _) (Nat.zero_le _) dX11_odds_152 (qL_e ⟨by unfold vOdds; (try simp only [nI_clamp (show ksd < 2147483648 by omega), nI_clamp (show ksds < 2147483648 by omega), nI_clamp (show kfl < 2147483648 by omega), nI_clamp (show kpart < 2147483648 by omega)]); rw [if_pos zp6, if_neg zc11, if_neg zc17, if_pos zp26, if_pos zp48, if_pos zp57]; all_goals (unfold odV; rw [hgc, hwh, Nat.div_one]), hf⟩)
                            · exact absurd (nI_le (b := 1) (by omega) (by omega)) zc118
                          · intro i hi ih g1 hf hm
                            have hdp : 0 < ksds - i := by omega
                            have hdb : ksds - i < 2147483648 := by omega
                            refine xj_iload (i := 9) 0 rfl dX11_odds_115 ?_
                            refine xj_iconst (v := 1) (by decide) dX11_odds_117 ?_
                            refine xj_icmp_le (tgt := 149) (by decide) dX11_odds_118 (fun zc118 => ?_) (fun zc118 => ?_)
                            · exact absurd zc118 (nI_ge (a := 1) (by omega) (by omega))
                            · refine xj_iload (i := 7) 1 rfl dX11_odds_121 ?_
                              refine xj_iload (i := 9) 0 rfl dX11_odds_123 ?_
                              refine xj_irem (nI_ne0 hdp hdb) dX11_odds_125 ?_
                              refine xj_top (show ((nI (cnN (odB A Λ ksd kfl mn) ksds)) - (nI (cnN (odB A Λ ksd kfl mn) ksds)) / (nI (ksds - i)) * (nI (ksds - i))) = nI ((cnN (odB A Λ ksd kfl mn) ksds) % (ksds - i)) from (pk_rem (by omega) hdp hdb)) ?_
                              refine xj_if_ne (tgt := 143) (by decide) dX11_odds_126 (fun zc126 => ?_) (fun zc126 => ?_)
                              · obtain ⟨zv3, ezv3⟩ : ∃ z : Int32, z = (nI (ksds - i)) + Int32.ofInt (-1) := ⟨_, rfl⟩
                                refine xj_iinc (i := 9) (v := zv3) (lv1 := [(9, .int zv3), (7, .int (nI (cnN (odB A Λ ksd kfl mn) ksds))), (8, .int (nI (cnN (odB A Λ ksd kfl mn) ksds))), (0, .ref 0), (1, .int (nI ksd)), (2, .int (nI ksds)), (3, .int (nI kfl)), (4, .int mn), (5, .int (nI kpart))]) 0 rfl ezv3.symm rfl (Nat.le_of_ble_eq_true rfl) dX11_odds_143 ?_
                                refine xj_goto (tgt := 115) (by decide) dX11_odds_146 ?_
                                refine xj_sub (lv' := [(9, .int zv3), (7, .int (nI (cnN (odB A Λ ksd kfl mn) ksds))), (8, .int (nI (cnN (odB A Λ ksd kfl mn) ksds))), (0, .ref 0), (1, .int (nI ksd)), (2, .int (nI ksds)), (3, .int (nI kfl)), (4, .int mn), (5, .int (nI kpart))]) [0, 1, 2, 3, 4, 5, 6, 7, 8] rfl ?_
                                rw [show zv3 = nI (ksds - (i + 1)) from by rw [ezv3, show ksds - i = ksds - (i + 1) + 1 by omega]; exact pk_m1 _]
                                exact ih g1 hf (fun e h1 h2 h3 => by by_cases eqz : e = ksds - i; (subst eqz; exact zc126 (by rw [h3.1]; rfl)); (exact hm e (by omega) h2 h3))
                              · have hz1 : (cnN (odB A Λ ksd kfl mn) ksds) % (ksds - i) = 0 := (nI_eq (b := 0) (Nat.lt_of_le_of_lt (Nat.mod_le _ _) (by omega)) (by omega)).mp zc126
                                refine xj_iload_n (n := 2) (i := 2) 5 rfl rfl dX11_odds_129 ?_
                                refine xj_iload (i := 9) 0 rfl dX11_odds_130 ?_
                                refine xj_irem (nI_ne0 hdp hdb) dX11_odds_132 ?_
                                refine xj_top (show ((nI ksds) - (nI ksds) / (nI (ksds - i)) * (nI (ksds - i))) = nI (ksds % (ksds - i)) from (pk_rem (by omega) hdp hdb)) ?_
                                refine xj_if_ne (tgt := 143) (by decide) dX11_odds_133 (fun zc133 => ?_) (fun zc133 => ?_)
                                · obtain ⟨zv4, ezv4⟩ : ∃ z : Int32, z = (nI (ksds - i)) + Int32.ofInt (-1) := ⟨_, rfl⟩
                                  refine xj_iinc (i := 9) (v := zv4) (lv1 := [(9, .int zv4), (7, .int (nI (cnN (odB A Λ ksd kfl mn) ksds))), (8, .int (nI (cnN (odB A Λ ksd kfl mn) ksds))), (0, .ref 0), (1, .int (nI ksd)), (2, .int (nI ksds)), (3, .int (nI kfl)), (4, .int mn), (5, .int (nI kpart))]) 0 rfl ezv4.symm rfl (Nat.le_of_ble_eq_true rfl) dX11_odds_143 ?_
                                  refine xj_goto (tgt := 115) (by decide) dX11_odds_146 ?_
                                  refine xj_sub (lv' := [(9, .int zv4), (7, .int (nI (cnN (odB A Λ ksd kfl mn) ksds))), (8, .int (nI (cnN (odB A Λ ksd kfl mn) ksds))), (0, .ref 0), (1, .int (nI ksd)), (2, .int (nI ksds)), (3, .int (nI kfl)), (4, .int mn), (5, .int (nI kpart))]) [0, 1, 2, 3, 4, 5, 6, 7, 8] rfl ?_
                                  rw [show zv4 = nI (ksds - (i + 1)) from by rw [ezv4, show ksds - i = ksds - (i + 1) + 1 by omega]; exact pk_m1 _]
                                  exact ih g1 hf (fun e h1 h2 h3 => by by_cases eqz : e = ksds - i; (subst eqz; exact zc133 (by rw [h3.2]; rfl)); (exact hm e (by omega) h2 h3))
                                · have hz2 : ksds % (ksds - i) = 0 := (nI_eq (b := 0) (Nat.lt_of_le_of_lt (Nat.mod_le _ _) (by omega)) (by omega)).mp zc133
                                  have hgc : Nat.gcd (cnN (odB A Λ ksd kfl mn) ksds) ksds = ksds - i := gcd_hit (by omega) hdp hz1 hz2 hm
                                  refine xj_iload (i := 8) 2 rfl dX11_odds_136 ?_
                                  refine xj_iload (i := 9) 0 rfl dX11_odds_138 ?_
                                  refine xj_idiv (nI_ne0 hdp hdb) dX11_odds_140 ?_
                                  refine xj_top (show ((nI (cnN (odB A Λ ksd kfl mn) ksds)) / (nI (ksds - i))) = nI ((cnN (odB A Λ ksd kfl mn) ksds) / (ksds - i)) from (pk_div (by omega) hdp hdb)) ?_
                                  refine xj_i2l dX11_odds_141 ?_
                                  refine xj_topl (show ((nI ((cnN (odB A Λ ksd kfl mn) ksds) / (ksds - i))).toInt64) = lN ((cnN (odB A Λ ksd kfl mn) ksds) / (ksds - i)) from (nI_l (Nat.lt_of_le_of_lt (Nat.div_le_self _ _) (by omega)))) ?_
                                  exact xj_lreturn rfl (Nat.zero_le _) (Nat.zero_le _) dX11_odds_142 (qL_e ⟨by unfold vOdds; (try simp only [nI_clamp (show ksd < 2147483648 by omega), nI_clamp (show ksds < 2147483648 by omega), nI_clamp (show kfl < 2147483648 by omega), nI_clamp (show kpart < 2147483648 by omega)]); rw [if_pos zp6, if_neg zc11, if_neg zc17, if_pos zp26, if_pos zp48, if_pos zp57]; all_goals (unfold odV; rw [hgc, hwh]), hf⟩)
                        refine xj_sub (lv' := [(9, .int (nI ksds)), (7, .int (nI (cnN (odB A Λ ksd kfl mn) ksds))), (8, .int (nI (cnN (odB A Λ ksd kfl mn) ksds))), (0, .ref 0), (1, .int (nI ksd)), (2, .int (nI ksds)), (3, .int (nI kfl)), (4, .int mn), (5, .int (nI kpart))]) [0, 2, 1, 3, 4, 5, 6, 7, 8] rfl ?_
                        exact key2 0 (Nat.zero_le _) g1 hf (fun e h1 h2 => by omega)
                    · exact absurd (nI_le (Nat.le_refl _) (by omega)) zc73
                  · intro i hi ih g1 hf
                    refine xj_iload (i := 8) 0 rfl dX11_odds_70 ?_
                    refine xj_iload_n (n := 2) (i := 2) 4 rfl rfl dX11_odds_72 ?_
                    refine xj_icmp_ge (tgt := 99) (by decide) dX11_odds_73 (fun zc73 => ?_) (fun zc73 => ?_)
                    · exact absurd zc73 (nI_ge hi (by omega))
                    · refine xj_aload_n (n := 0) (i := 0) 2 rfl rfl dX11_odds_76 ?_
                      refine xj_iload_n (n := 1) (i := 1) 3 rfl rfl dX11_odds_77 ?_
                      refine xj_iload (i := 8) 0 rfl dX11_odds_78 ?_
                      refine xj_iadd dX11_odds_80 ?_
                      refine xj_top (nI_add _ _) ?_
                      refine xj_iload_n (n := 3) (i := 3) 5 rfl rfl dX11_odds_81 ?_
                      refine xj_callV kv_X11_241 (c_X11_seenBehindFlies l (d + 0) n g1 A Λ O (C.keep O hf) (ksd + i) kfl (by omega) (by omega)) (As := [.int (nI (ksd + i)), .int (nI kfl)]) (st := []) (by omega) (fq_0 g1) (ci := 11) rfl rfl rfl rfl (xRm_of (by omega) (by decide) (by omega) (by omega)) (Nat.le_of_ble_eq_true rfl) dX11_odds_82 (yk_i (kc := 0) (ks := 0) fun zv5 zg6 hzg6 => ?_)
                      obtain ⟨hvzv5, hxzg6⟩ := hzg6
                      have Czg6 := (C.keep O hf).keep O hxzg6
                      refine xj_iload (i := 4) 6 rfl dX11_odds_85 ?_
                      refine xj_icmp_lt (tgt := 93) (by decide) dX11_odds_87 (fun zc87 => ?_) (fun zc87 => ?_)
                      · have hob : ¬ (odB A Λ ksd kfl mn) i = true := fun y => of_decide_eq_true y (by rw [← hvzv5]; exact zc87)
                        refine xj_iinc (n := 1) (i := 8) (v := nI (i + 1)) (lv1 := [(8, .int (nI (i + 1))), (7, .int (nI (cnN (odB A Λ ksd kfl mn) i))), (0, .ref 0), (1, .int (nI ksd)), (2, .int (nI ksds)), (3, .int (nI kfl)), (4, .int mn), (5, .int (nI kpart))]) 0 rfl (nI_1 i) rfl (Nat.le_of_ble_eq_true rfl) dX11_odds_93 ?_
                        refine xj_goto (tgt := 70) (by decide) dX11_odds_96 ?_
                        refine xj_sub (lv' := [(8, .int (nI (i + 1))), (7, .int (nI (cnN (odB A Λ ksd kfl mn) i))), (0, .ref 0), (1, .int (nI ksd)), (2, .int (nI ksds)), (3, .int (nI kfl)), (4, .int mn), (5, .int (nI kpart))]) [0, 1, 2, 3, 4, 5, 6, 7] rfl ?_
                        have h9 := ih zg6 (hf.tr hxzg6)
                        rw [show cnN (odB A Λ ksd kfl mn) (i + 1) = cnN (odB A Λ ksd kfl mn) i from if_neg hob] at h9
                        exact h9
                      · have hob : (odB A Λ ksd kfl mn) i = true := decide_eq_true (fun y => zc87 (by rw [hvzv5]; exact y))
                        refine xj_iinc (n := 1) (i := 7) (v := nI ((cnN (odB A Λ ksd kfl mn) i) + 1)) (lv1 := [(7, .int (nI ((cnN (odB A Λ ksd kfl mn) i) + 1))), (8, .int (nI i)), (0, .ref 0), (1, .int (nI ksd)), (2, .int (nI ksds)), (3, .int (nI kfl)), (4, .int mn), (5, .int (nI kpart))]) 1 rfl (nI_1 (cnN (odB A Λ ksd kfl mn) i)) rfl (Nat.le_of_ble_eq_true rfl) dX11_odds_90 ?_
                        refine xj_iinc (n := 1) (i := 8) (v := nI (i + 1)) (lv1 := [(8, .int (nI (i + 1))), (7, .int (nI ((cnN (odB A Λ ksd kfl mn) i) + 1))), (0, .ref 0), (1, .int (nI ksd)), (2, .int (nI ksds)), (3, .int (nI kfl)), (4, .int mn), (5, .int (nI kpart))]) 1 rfl (nI_1 i) rfl (Nat.le_of_ble_eq_true rfl) dX11_odds_93 ?_
                        refine xj_goto (tgt := 70) (by decide) dX11_odds_96 ?_
                        refine xj_sub (lv' := [(8, .int (nI (i + 1))), (7, .int (nI ((cnN (odB A Λ ksd kfl mn) i) + 1))), (0, .ref 0), (1, .int (nI ksd)), (2, .int (nI ksds)), (3, .int (nI kfl)), (4, .int mn), (5, .int (nI kpart))]) [0, 1, 2, 3, 4, 5, 6, 7] rfl ?_
                        have h9 := ih zg6 (hf.tr hxzg6)
                        rw [show cnN (odB A Λ ksd kfl mn) (i + 1) = cnN (odB A Λ ksd kfl mn) i + 1 from if_pos hob] at h9
                        exact h9
                refine xj_sub (lv' := [(8, .int 0), (7, .int 0), (0, .ref 0), (1, .int (nI ksd)), (2, .int (nI ksds)), (3, .int (nI kfl)), (4, .int mn), (5, .int (nI kpart))]) [0, 1, 3, 4, 5, 6, 7, 8] rfl ?_
                exact key 0 (Nat.zero_le _) g fr.rf
              · have zp57 : ¬ (0 ≤ part ∧ part ≤ 1) := bI_0.mp zc57
                refine xj_ldc2 cn_X11_244 dX11_odds_60 ?_
                exact xj_lreturn rfl (Nat.zero_le _) (Nat.zero_le _) dX11_odds_63 (qL_e ⟨by unfold vOdds; (try simp only [nI_clamp (show ksd < 2147483648 by omega), nI_clamp (show ksds < 2147483648 by omega), nI_clamp (show kfl < 2147483648 by omega)]); rw [if_pos zp6, if_neg zc11, if_neg zc17, if_pos zp26, if_pos zp48, if_neg zp57]; all_goals (rfl), fr.rf⟩)
