theorem cA.tx {g : xG} {n : Nat} {A : zSt} {Λ : Nat → xL} (C : cA g n A Λ) (O : okA A) {t : Nat} (ht : t < aT A) : (fun j => if j < 6 then some (fTX ((g 66) j).toNatClampNeg) else none) t = some (fTX t) := by
  have h6 := O.2.2.2.1.2.2
  show (if t < 6 then some (fTX ((g 66) t).toNatClampNeg) else none) = some (fTX t)
  rw [if_pos (by omega), C.t66 O ht]
theorem okA.W {A : zSt} (O : okA A) : aW A < aT A := O.2.2.2.2.1.2
theorem okA.dl {A : zSt} (O : okA A) {s c : Nat} (hs : s < aS A) (hc : c < 16) : nI99 (A (10 + s) c) 99 := (O.2.2.2.2.2.2.1 s hs).2.2.2 c hc
/-- class rows -/
def cX (j : Nat) : Prop := j < 86 ∨ 110 ≤ j
theorem sX_c (j : Nat) (h : sX j) : cX j := by
  unfold sX at h
  unfold cX
  omega
/-- what a sleeper's pane says, shows, costs -/
def saP (A : zSt) (Λ : Nat → xL) (p s c : Nat) : Int32 := saidF (Λ (aW A)) p (A 2 s) (A 3 s) c (A (10 + s) c) (nI (aN A))
def clP (A : zSt) (Λ : Nat → xL) (s : Nat) : Int32 := clearS (Λ (aW A)) (aK A s) (A 2 s) (A 3 s) (A (10 + s)) (nI (aN A))
def seP (A : zSt) (Λ : Nat → xL) (s : Nat) : Int32 := clP A Λ s &&& A 3 s
def coP (A : zSt) (Λ : Nat → xL) (s c : Nat) : Int32 := costF (Λ (aW A)) (aK A s) (A 2 s) (A 3 s) c (A (10 + s) c) (nI (aN A))
def coS (A : zSt) (Λ : Nat → xL) (s : Nat) (cells : Int32) : Int32 := costS (Λ (aW A)) (aK A s) (A 2 s) (A 3 s) (A (10 + s)) cells (nI (aN A))
/-- bits below 2^16 -/
theorem bitF_n {c : Nat} (h : c < 16) : bitF c = nI (2 ^ c) := by
  unfold bitF
  rw [nI_c31 (by omega), show (1 : Int32) = nI 1 from rfl, pk_shlN (nI c) c (nI_smod (by omega))]
  · rw [Nat.one_mul]
  · have := Nat.pow_lt_pow_right (a := 2) (by decide) (show c < 31 by omega)
    omega
theorem nI_or (a b : Nat) : nI a ||| nI b = nI (a ||| b) := by
  apply Int32.toBitVec_inj.mp
  show BitVec.ofInt 32 a ||| BitVec.ofInt 32 b = BitVec.ofInt 32 ((a ||| b : Nat) : Int)
  simp only [BitVec.ofInt_natCast]
  exact BitVec.ofNat_or.symm
theorem setF_n (f : Nat → Bool) : ∀ {n : Nat}, n ≤ 16 → ∃ m, m < 2 ^ n ∧ setF f n = nI m
  | 0, _ => ⟨0, by decide, rfl⟩
  | n + 1, h => by
    obtain ⟨m, hm, e⟩ := setF_n f (n := n) (by omega)
    have hp : 2 ^ (n + 1) = 2 * 2 ^ n := by rw [Nat.pow_succ]; omega
    unfold setF
    by_cases hf : f n = true
    · rw [if_pos hf, e, bitF_n (by omega), nI_or]
      exact ⟨_, Nat.or_lt_two_pow (by omega) (by omega), rfl⟩
    · rw [if_neg hf]
      exact ⟨m, by omega, e⟩
theorem seP_n {A : zSt} {Λ : Nat → xL} {s : Nat} (O : okA A) (hs : s < aS A) : ∃ m, m < 65536 ∧ seP A Λ s = nI m := by
  obtain ⟨a, ha, e⟩ := setF_n (fun c => clearF (Λ (aW A)) (aK A s) (A 2 s) (A 3 s) c (A (10 + s) c) (nI (aN A))) (n := 16) (Nat.le_refl _)
  obtain ⟨b, hb, e2⟩ := (O.2.2.2.2.2.2.1 s hs).2.2.1
  have h1 : clP A Λ s = nI a := e
  unfold seP
  rw [h1, e2, nI_and]
  exact ⟨_, Nat.lt_of_le_of_lt Nat.and_le_left ha, rfl⟩
set_option maxHeartbeats 4000000 in
set_option maxRecDepth 100000 in
theorem c_X11_isSleeper (l : Launch) (d : Nat) (n : Nat) (g : xG) (A : zSt) (Λ : Nat → xL) (O : okA A) (C : cA g n A Λ) (s : Int32)  : xC l yX11_isSleeper cX11_isSleeper 2 (some .boolean) (xR (d + 1) 0 0) [.ref 0, .int s] (n, fh g) (qP (bI (isSl A s)) (n, fh g)) := by
  refine xC_of false (by decide +kernel) (fun z => by cases z) (Nat.le_of_ble_eq_true rfl) ?_
  have hn := C.n110 O
  have hS6 := O.1.2
  have hW := O.W
  have hT6 := O.2.2.2.1.2.2
  have hN9 := O.2.1.2
  show xJ l (RX11, 2, (some .boolean), false, (xR (d + 1) 0 0), none) cX11_isSleeper _ 0 0 0 [(0, .ref 0), (1, .int s)] [] (n, fh g)
  refine xj_iload_n (n := 1) (i := 1) 1 rfl rfl dX11_isSleeper_0 ?_
  refine xj_aload_n (n := 0) (i := 0) 0 rfl rfl dX11_isSleeper_1 ?_
  refine yj_getf (v := .int (nI (aS A))) fl_X11_80_11 (by omega) (fq_0 g) (congrArg (fun z => some (Value.int z)) (C.S O)) dX11_isSleeper_2 ?_
  refine xj_iconst (v := 1) (by decide) dX11_isSleeper_5 ?_
  refine xj_isub dX11_isSleeper_6 ?_
  refine xj_callS ks_X11_107 (c_X11_within l (d + 0) s ((nI (aS A)) - 1) _) (As := [.int s, .int ((nI (aS A)) - 1)]) (st := []) rfl rfl (xRm_of (by omega) (by decide) (by omega) (by omega)) (Nat.le_of_ble_eq_true rfl) dX11_isSleeper_7 (yk_p (kc := 0) (ks := 0) ?_)
  exact xj_ireturn rfl nr_b (Nat.zero_le _) (Nat.zero_le _) dX11_isSleeper_10 (qP_e rfl)
theorem yj_number {l : Launch} {M : xM} {cc : ByteArray} {Q : Option Value → xH → Prop} {kc ks pc : Nat} {lv : List (Nat × Value)} {st : List Value} {n : Nat} {g : xG} (k : Nat) (hk : k < 6) (hn : 110 ≤ n) (hM : M.1 = RX11) (d : decode cc pc = .ok (.getfield 153, 3)) (kk : xJ l M cc Q kc ks (pc + 3) lv (.int (nI k) :: st) (n, fh g)) : xJ l M cc Q kc ks pc lv (.ref (2 + k) :: st) (n, fh g) := by
  rcases (show k = 0 ∨ k = 1 ∨ k = 2 ∨ k = 3 ∨ k = 4 ∨ k = 5 by omega) with rfl | rfl | rfl | rfl | rfl | rfl
  · exact yj_getf (hM ▸ fl_X11_153_4) (by omega) (fq_2 g) rfl d kk
  · exact yj_getf (hM ▸ fl_X11_153_6) (by omega) (fq_3 g) rfl d kk
  · exact yj_getf (hM ▸ fl_X11_153_1) (by omega) (fq_4 g) rfl d kk
  · exact yj_getf (hM ▸ fl_X11_153_0) (by omega) (fq_5 g) rfl d kk
  · exact yj_getf (hM ▸ fl_X11_153_2) (by omega) (fq_6 g) rfl d kk
  · exact yj_getf (hM ▸ fl_X11_153_5) (by omega) (fq_7 g) rfl d kk
def vAsks (A : zSt) (Λ : Nat → xL) (part s cell : Int32) : Int32 := if 0 ≤ part ∧ part ≤ 2 then if isSl A s then if 0 ≤ cell ∧ cell ≤ 15 then saP A Λ part.toNatClampNeg s.toNatClampNeg cell.toNatClampNeg else -2 else -2 else -2
def vTold (A : zSt) (s what : Int32) : Int32 := if isSl A s then if 0 ≤ what ∧ what ≤ 15 then A (10 + s.toNatClampNeg) what.toNatClampNeg else if what = 16 then A 3 s.toNatClampNeg else if what = 17 then A 1 s.toNatClampNeg else if what = 18 then A 2 s.toNatClampNeg else if what = 19 then sumF (A (10 + s.toNatClampNeg)) 16 else -7 else -5
def vView (A : zSt) (Λ : Nat → xL) (s what : Int32) : Int32 := if isSl A s then if what = 0 then clP A Λ s.toNatClampNeg else if what = 1 then seP A Λ s.toNatClampNeg else if what = 2 then onesF (seP A Λ s.toNatClampNeg) else if what = 3 then coS A Λ s.toNatClampNeg 65535 else -7 else -5
def vCount (A : zSt) (what : Int32) : Int32 := if what = 0 then A 0 0 else if what = 1 then A 0 1 else if what = 2 then A 0 2 else if what = 3 then A 0 3 else if what = 4 then A 0 4 else if what = 5 then A 0 5 else -2
set_option maxHeartbeats 4000000 in
set_option maxRecDepth 100000 in
theorem c_X11_asks (l : Launch) (d : Nat) (n : Nat) (g : xG) (A : zSt) (Λ : Nat → xL) (O : okA A) (C : cA g n A Λ) (part s cell : Int32)  : xC l yX11_asks cX11_asks 4 (some .int) (xR (d + 3) 0 0) [.ref 0, .int part, .int s, .int cell] (n, fh g) (qI n fun v g1 => v = vAsks A Λ part s cell ∧ fr sX g g1) := by
  refine xC_of false (by decide +kernel) (fun z => by cases z) (Nat.le_of_ble_eq_true rfl) ?_
  have hn := C.n110 O
  have hS6 := O.1.2
  have hW := O.W
  have hT6 := O.2.2.2.1.2.2
  have hN9 := O.2.1.2
  show xJ l (RX11, 4, (some .int), false, (xR (d + 3) 0 0), none) cX11_asks _ 0 0 0 [(0, .ref 0), (1, .int part), (2, .int s), (3, .int cell)] [] (n, fh g)
  refine xj_iload_n (n := 1) (i := 1) 1 rfl rfl dX11_asks_0 ?_
  refine xj_iconst (v := 2) (by decide) dX11_asks_1 ?_
  refine xj_callS ks_X11_107 (c_X11_within l (d + 2) part 2 _) (As := [.int part, .int 2]) (st := []) rfl rfl (xRm_of (by omega) (by decide) (by omega) (by omega)) (Nat.le_of_ble_eq_true rfl) dX11_asks_2 (yk_p (kc := 0) (ks := 0) ?_)
  refine xj_if_eq (tgt := 23) (by decide) dX11_asks_5 (fun zc5 => ?_) (fun zc5 => ?_)
  · have zp5 : ¬ (0 ≤ part ∧ part ≤ 2) := bI_0.mp zc5
    refine xj_bipush (v := (-2)) (by decide) dX11_asks_23 ?_
    exact xj_ireturn rfl (nr_i _) (Nat.zero_le _) (Nat.zero_le _) dX11_asks_25 (qI_e ⟨by unfold vAsks; rw [if_neg zp5]; all_goals (rfl), fr.rf⟩)
  · have zp5 : 0 ≤ part ∧ part ≤ 2 := bI_n0.mp zc5
    obtain ⟨kpart, hkpart, rfl⟩ := nI_bnd (m := 2) (by decide) zp5.1 zp5.2
    refine xj_aload_n (n := 0) (i := 0) 0 rfl rfl dX11_asks_8 ?_
    refine xj_iload_n (n := 2) (i := 2) 2 rfl rfl dX11_asks_9 ?_
    refine xj_callV kv_X11_125 (c_X11_isSleeper l (d + 1) n g A Λ O C s) (As := [.int s]) (st := []) (by omega) (fq_0 g) (ci := 11) rfl rfl rfl rfl (xRm_of (by omega) (by decide) (by omega) (by omega)) (Nat.le_of_ble_eq_true rfl) dX11_asks_10 (yk_p (kc := 0) (ks := 0) ?_)
    refine xj_if_eq (tgt := 23) (by decide) dX11_asks_13 (fun zc13 => ?_) (fun zc13 => ?_)
    · have zp13 : ¬ (isSl A s) := bI_0.mp zc13
      refine xj_bipush (v := (-2)) (by decide) dX11_asks_23 ?_
      exact xj_ireturn rfl (nr_i _) (Nat.zero_le _) (Nat.zero_le _) dX11_asks_25 (qI_e ⟨by unfold vAsks; (try simp only [nI_clamp (show kpart < 2147483648 by omega)]); rw [if_pos zp5, if_neg zp13]; all_goals (rfl), fr.rf⟩)
    · have zp13 : isSl A s := bI_n0.mp zc13
      obtain ⟨ks, hks, rfl⟩ := isSl_of O zp13
      have hs6_ks : ks < 6 := by omega
      refine xj_iload_n (n := 3) (i := 3) 3 rfl rfl dX11_asks_16 ?_
      refine xj_callS ks_X11_129 (c_X11_isCell l (d + 1) cell _) (As := [.int cell]) (st := []) rfl rfl (xRm_of (by omega) (by decide) (by omega) (by omega)) (Nat.le_of_ble_eq_true rfl) dX11_asks_17 (yk_p (kc := 0) (ks := 0) ?_)
      refine xj_if_ne (tgt := 26) (by decide) dX11_asks_20 (fun zc20 => ?_) (fun zc20 => ?_)
      · have zp20 : 0 ≤ cell ∧ cell ≤ 15 := bI_n0.mp zc20
        obtain ⟨kcell, hkcell, rfl⟩ := nI_bnd (m := 15) (by decide) zp20.1 zp20.2
        refine xj_aload_n (n := 0) (i := 0) 0 rfl rfl dX11_asks_26 ?_
        refine yj_getf (v := .ref 8) fl_X11_37_11 (by omega) (fq_0 g) rfl dX11_asks_27 ?_
        refine xj_iload_n (n := 2) (i := 2) 2 rfl rfl dX11_asks_30 ?_
        refine yj_aaldN (m := 6) (a := 9 + 3 * ks) ks (by omega) (fq_8 g) (by decide) (by decide) rfl (by omega) (by decide) (if_pos (by omega)) dX11_asks_31 ?_
        refine xj_aload_n (n := 0) (i := 0) 0 rfl rfl dX11_asks_32 ?_
        refine yj_getf (v := .ref 66) fl_X11_55_11 (by omega) (fq_0 g) rfl dX11_asks_33 ?_
        refine xj_aload_n (n := 0) (i := 0) 0 rfl rfl dX11_asks_36 ?_
        refine yj_getf (v := .int (nI (aW A))) fl_X11_93_11 (by omega) (fq_0 g) (congrArg (fun z => some (Value.int z)) (C.W O)) dX11_asks_37 ?_
        refine yj_aaldN (m := 6) (a := fTX (aW A)) (aW A) (by omega) (fq_66 g) (by decide) (by decide) rfl (by omega) (by decide) (C.tx O hW) dX11_asks_40 ?_
        refine xj_iload_n (n := 1) (i := 1) 1 rfl rfl dX11_asks_41 ?_
        refine xj_iload_n (n := 3) (i := 3) 3 rfl rfl dX11_asks_42 ?_
        refine xj_aload_n (n := 0) (i := 0) 0 rfl rfl dX11_asks_43 ?_
        refine yj_getf (v := .int (nI (aN A))) fl_X11_84_11 (by omega) (fq_0 g) (congrArg (fun z => some (Value.int z)) (C.N O)) dX11_asks_44 ?_
        refine xj_callV kv_X11_132 (c_X7_said l (d + 0) n hn g (9 + 3 * ks) (fTX (aW A)) (aK A ks) (A 2 ks) (A 3 ks) (A (10 + ks)) (Λ (aW A)) (fPn_r hs6_ks) (C.pane hks) (C.txt hW) kpart kcell (nI (aN A)) (by omega) (by omega)) (As := [.ref (fTX (aW A)), .int (nI kpart), .int (nI kcell), .int (nI (aN A))]) (st := []) (by omega) ((fPn_r hs6_ks).2.2.1 _) (ci := 7) rfl rfl rfl rfl (xRm_of (by omega) (by decide) (by omega) (by omega)) (Nat.le_of_ble_eq_true rfl) dX11_asks_47 (yk_i (kc := 0) (ks := 0) fun zv1 zg2 hzg2 => ?_)
        obtain ⟨hvzv1, hfzg2⟩ := hzg2
        have hxzg2 := hfzg2.mono (fX_s (t := (aW A)) hs6_ks (Or.inl rfl))
        have Czg2 := C.keep O hxzg2
        exact xj_ireturn rfl (nr_i _) (Nat.zero_le _) (Nat.zero_le _) dX11_asks_50 (qI_e ⟨by unfold vAsks; (try simp only [nI_clamp (show kpart < 2147483648 by omega), nI_clamp (show ks < 2147483648 by omega), nI_clamp (show kcell < 2147483648 by omega)]); rw [if_pos zp5, if_pos zp13, if_pos zp20]; all_goals (exact hvzv1), hxzg2⟩)
      · have zp20 : ¬ (0 ≤ cell ∧ cell ≤ 15) := bI_0.mp zc20
        refine xj_bipush (v := (-2)) (by decide) dX11_asks_23 ?_
        exact xj_ireturn rfl (nr_i _) (Nat.zero_le _) (Nat.zero_le _) dX11_asks_25 (qI_e ⟨by unfold vAsks; (try simp only [nI_clamp (show kpart < 2147483648 by omega), nI_clamp (show ks < 2147483648 by omega)]); rw [if_pos zp5, if_pos zp13, if_neg zp20]; all_goals (rfl), fr.rf⟩)
set_option maxHeartbeats 4000000 in
set_option maxRecDepth 100000 in
theorem c_X11_count (l : Launch) (d : Nat) (n : Nat) (g : xG) (A : zSt) (Λ : Nat → xL) (O : okA A) (C : cA g n A Λ) (what : Int32)  : xC l yX11_count cX11_count 2 (some .int) (xR (d + 0) 0 0) [.ref 0, .int what] (n, fh g) (qI n fun v g1 => v = vCount A what ∧ fr sX g g1) := by
  refine xC_of false (by decide +kernel) (fun z => by cases z) (Nat.le_of_ble_eq_true rfl) ?_
  have hn := C.n110 O
  have hS6 := O.1.2
  have hW := O.W
  have hT6 := O.2.2.2.1.2.2
  have hN9 := O.2.1.2
  show xJ l (RX11, 2, (some .int), false, (xR (d + 0) 0 0), none) cX11_count _ 0 0 0 [(0, .ref 0), (1, .int what)] [] (n, fh g)
  refine xj_iload_n (n := 1) (i := 1) 1 rfl rfl dX11_count_0 ?_
  by_cases zs1_0 : what = 0
  · refine xj_top zs1_0 ?_
    refine xj_tableIn (off := 39) (tgt := 40) dX11_count_1 (by decide) (by decide) rfl (by decide) ?_
    refine xj_aload_n (n := 0) (i := 0) 0 rfl rfl dX11_count_40 ?_
    refine yj_getf (v := .int (nI (aS A))) fl_X11_80_11 (by omega) (fq_0 g) (congrArg (fun z => some (Value.int z)) (C.S O)) dX11_count_41 ?_
    exact xj_ireturn rfl (nr_i _) (Nat.zero_le _) (Nat.zero_le _) dX11_count_44 (qI_e ⟨by unfold vCount; rw [if_pos zs1_0]; all_goals (exact O.1.1.symm), fr.rf⟩)
  by_cases zs1_1 : what = 1
  · refine xj_top zs1_1 ?_
    refine xj_tableIn (off := 44) (tgt := 45) dX11_count_1 (by decide) (by decide) rfl (by decide) ?_
    refine xj_aload_n (n := 0) (i := 0) 0 rfl rfl dX11_count_45 ?_
    refine yj_getf (v := .int (nI (aN A))) fl_X11_84_11 (by omega) (fq_0 g) (congrArg (fun z => some (Value.int z)) (C.N O)) dX11_count_46 ?_
    exact xj_ireturn rfl (nr_i _) (Nat.zero_le _) (Nat.zero_le _) dX11_count_49 (qI_e ⟨by unfold vCount; rw [if_neg zs1_0, if_pos zs1_1]; all_goals (exact O.2.1.1.symm), fr.rf⟩)
  by_cases zs1_2 : what = 2
  · refine xj_top zs1_2 ?_
    refine xj_tableIn (off := 49) (tgt := 50) dX11_count_1 (by decide) (by decide) rfl (by decide) ?_
    refine xj_aload_n (n := 0) (i := 0) 0 rfl rfl dX11_count_50 ?_
    refine yj_getf (v := .int (nI (aM A))) fl_X11_87_11 (by omega) (fq_0 g) (congrArg (fun z => some (Value.int z)) (C.M O)) dX11_count_51 ?_
    exact xj_ireturn rfl (nr_i _) (Nat.zero_le _) (Nat.zero_le _) dX11_count_54 (qI_e ⟨by unfold vCount; rw [if_neg zs1_0, if_neg zs1_1, if_pos zs1_2]; all_goals (exact O.2.2.1.1.symm), fr.rf⟩)
  by_cases zs1_3 : what = 3
  · refine xj_top zs1_3 ?_
    refine xj_tableIn (off := 54) (tgt := 55) dX11_count_1 (by decide) (by decide) rfl (by decide) ?_
    refine xj_aload_n (n := 0) (i := 0) 0 rfl rfl dX11_count_55 ?_
    refine yj_getf (v := .int (nI (aT A))) fl_X11_90_11 (by omega) (fq_0 g) (congrArg (fun z => some (Value.int z)) (C.T O)) dX11_count_56 ?_
    exact xj_ireturn rfl (nr_i _) (Nat.zero_le _) (Nat.zero_le _) dX11_count_59 (qI_e ⟨by unfold vCount; rw [if_neg zs1_0, if_neg zs1_1, if_neg zs1_2, if_pos zs1_3]; all_goals (exact O.2.2.2.1.1.symm), fr.rf⟩)
  by_cases zs1_4 : what = 4
  · refine xj_top zs1_4 ?_
    refine xj_tableIn (off := 59) (tgt := 60) dX11_count_1 (by decide) (by decide) rfl (by decide) ?_
    refine xj_aload_n (n := 0) (i := 0) 0 rfl rfl dX11_count_60 ?_
    refine yj_getf (v := .int (nI (aW A))) fl_X11_93_11 (by omega) (fq_0 g) (congrArg (fun z => some (Value.int z)) (C.W O)) dX11_count_61 ?_
    exact xj_ireturn rfl (nr_i _) (Nat.zero_le _) (Nat.zero_le _) dX11_count_64 (qI_e ⟨by unfold vCount; rw [if_neg zs1_0, if_neg zs1_1, if_neg zs1_2, if_neg zs1_3, if_pos zs1_4]; all_goals (exact O.2.2.2.2.1.1.symm), fr.rf⟩)
  by_cases zs1_5 : what = 5
  · refine xj_top zs1_5 ?_
    refine xj_tableIn (off := 64) (tgt := 65) dX11_count_1 (by decide) (by decide) rfl (by decide) ?_
    refine xj_aload_n (n := 0) (i := 0) 0 rfl rfl dX11_count_65 ?_
    refine yj_getf (v := .ref 67) fl_X11_62_11 (by omega) (fq_0 g) rfl dX11_count_66 ?_
    refine yj_getf (v := .int (nI (aZ A))) fl_X11_104_9 (by omega) (fq_67 g) (congrArg (fun z => some (Value.int z)) (C.Z O)) dX11_count_69 ?_
    exact xj_ireturn rfl (nr_i _) (Nat.zero_le _) (Nat.zero_le _) dX11_count_72 (qI_e ⟨by unfold vCount; rw [if_neg zs1_0, if_neg zs1_1, if_neg zs1_2, if_neg zs1_3, if_neg zs1_4, if_pos zs1_5]; all_goals (exact O.2.2.2.2.2.1.1.symm), fr.rf⟩)
  have zo1_0 : what.toInt ≠ 0 := fun e => zs1_0 (Int32.toInt_inj.mp (e.trans rfl))
  have zo1_1 : what.toInt ≠ 1 := fun e => zs1_1 (Int32.toInt_inj.mp (e.trans rfl))
  have zo1_2 : what.toInt ≠ 2 := fun e => zs1_2 (Int32.toInt_inj.mp (e.trans rfl))
  have zo1_3 : what.toInt ≠ 3 := fun e => zs1_3 (Int32.toInt_inj.mp (e.trans rfl))
  have zo1_4 : what.toInt ≠ 4 := fun e => zs1_4 (Int32.toInt_inj.mp (e.trans rfl))
  have zo1_5 : what.toInt ≠ 5 := fun e => zs1_5 (Int32.toInt_inj.mp (e.trans rfl))
  refine xj_tableOut (tgt := 73) dX11_count_1 (by omega) (by decide) ?_
  refine xj_bipush (v := (-2)) (by decide) dX11_count_73 ?_
  exact xj_ireturn rfl (nr_i _) (Nat.zero_le _) (Nat.zero_le _) dX11_count_75 (qI_e ⟨by unfold vCount; rw [if_neg zs1_0, if_neg zs1_1, if_neg zs1_2, if_neg zs1_3, if_neg zs1_4, if_neg zs1_5]; all_goals (rfl), fr.rf⟩)
set_option maxHeartbeats 4000000 in
set_option maxRecDepth 100000 in
theorem c_X11_told (l : Launch) (d : Nat) (n : Nat) (g : xG) (A : zSt) (Λ : Nat → xL) (O : okA A) (C : cA g n A Λ) (s what : Int32)  : xC l yX11_told cX11_told 3 (some .int) (xR (d + 2) 0 0) [.ref 0, .int s, .int what] (n, fh g) (qI n fun v g1 => v = vTold A s what ∧ fr sX g g1) := by
  refine xC_of false (by decide +kernel) (fun z => by cases z) (Nat.le_of_ble_eq_true rfl) ?_
  have hn := C.n110 O
  have hS6 := O.1.2
  have hW := O.W
  have hT6 := O.2.2.2.1.2.2
  have hN9 := O.2.1.2
  show xJ l (RX11, 3, (some .int), false, (xR (d + 2) 0 0), none) cX11_told _ 0 0 0 [(0, .ref 0), (1, .int s), (2, .int what)] [] (n, fh g)
  refine xj_aload_n (n := 0) (i := 0) 0 rfl rfl dX11_told_0 ?_
  refine xj_iload_n (n := 1) (i := 1) 1 rfl rfl dX11_told_1 ?_
  refine xj_callV kv_X11_125 (c_X11_isSleeper l (d + 0) n g A Λ O C s) (As := [.int s]) (st := []) (by omega) (fq_0 g) (ci := 11) rfl rfl rfl rfl (xRm_of (by omega) (by decide) (by omega) (by omega)) (Nat.le_of_ble_eq_true rfl) dX11_told_2 (yk_p (kc := 0) (ks := 0) ?_)
  refine xj_if_ne (tgt := 11) (by decide) dX11_told_5 (fun zc5 => ?_) (fun zc5 => ?_)
  · have zp5 : isSl A s := bI_n0.mp zc5
    obtain ⟨ks, hks, rfl⟩ := isSl_of O zp5
    have hs6_ks : ks < 6 := by omega
    refine xj_iload_n (n := 2) (i := 2) 2 rfl rfl dX11_told_11 ?_
    refine xj_callS ks_X11_129 (c_X11_isCell l (d + 0) what _) (As := [.int what]) (st := []) rfl rfl (xRm_of (by omega) (by decide) (by omega) (by omega)) (Nat.le_of_ble_eq_true rfl) dX11_told_12 (yk_p (kc := 0) (ks := 0) ?_)
    refine xj_if_eq (tgt := 30) (by decide) dX11_told_15 (fun zc15 => ?_) (fun zc15 => ?_)
    · have zp15 : ¬ (0 ≤ what ∧ what ≤ 15) := bI_0.mp zc15
      refine xj_iload_n (n := 2) (i := 2) 2 rfl rfl dX11_told_30 ?_
      by_cases zs31_0 : what = 16
      · refine xj_top zs31_0 ?_
        refine xj_tableIn (off := 29) (tgt := 60) dX11_told_31 (by decide) (by decide) rfl (by decide) ?_
        refine xj_aload_n (n := 0) (i := 0) 0 rfl rfl dX11_told_60 ?_
        refine yj_getf (v := .ref 8) fl_X11_37_11 (by omega) (fq_0 g) rfl dX11_told_61 ?_
        refine xj_iload_n (n := 1) (i := 1) 1 rfl rfl dX11_told_64 ?_
        refine yj_aaldN (m := 6) (a := 9 + 3 * ks) ks (by omega) (fq_8 g) (by decide) (by decide) rfl (by omega) (by decide) (if_pos (by omega)) dX11_told_65 ?_
        refine yj_getf (v := .int ((A 3 ks))) fl_X11_144_7 (by omega) ((fPn_r hs6_ks).2.2.1 (g (9 + 3 * ks))) (congrArg (fun z => some (Value.int z)) (C.pane hks).2.2.1) dX11_told_66 ?_
        exact xj_ireturn rfl (nr_i _) (Nat.zero_le _) (Nat.zero_le _) dX11_told_69 (qI_e ⟨by unfold vTold; (try simp only [nI_clamp (show ks < 2147483648 by omega)]); rw [if_pos zp5, if_neg zp15, if_pos zs31_0]; all_goals (rfl), fr.rf⟩)
      by_cases zs31_1 : what = 17
      · refine xj_top zs31_1 ?_
        refine xj_tableIn (off := 39) (tgt := 70) dX11_told_31 (by decide) (by decide) rfl (by decide) ?_
        refine xj_aload_n (n := 0) (i := 0) 0 rfl rfl dX11_told_70 ?_
        refine yj_getf (v := .ref 8) fl_X11_37_11 (by omega) (fq_0 g) rfl dX11_told_71 ?_
        refine xj_iload_n (n := 1) (i := 1) 1 rfl rfl dX11_told_74 ?_
        refine yj_aaldN (m := 6) (a := 9 + 3 * ks) ks (by omega) (fq_8 g) (by decide) (by decide) rfl (by omega) (by decide) (if_pos (by omega)) dX11_told_75 ?_
        refine yj_getf (v := .ref (2 + (aK A ks))) fl_X11_137_7 (by omega) ((fPn_r hs6_ks).2.2.1 (g (9 + 3 * ks))) (congrArg (fun z => some (Value.ref (2 + z))) (C.pane hks).k) dX11_told_76 ?_
        have hk6 := O.k6 hks
        refine yj_number (aK A ks) hk6 hn rfl dX11_told_79 ?_
        exact xj_ireturn rfl (nr_i _) (Nat.zero_le _) (Nat.zero_le _) dX11_told_82 (qI_e ⟨by unfold vTold; (try simp only [nI_clamp (show ks < 2147483648 by omega)]); rw [if_pos zp5, if_neg zp15, if_neg zs31_0, if_pos zs31_1]; all_goals (exact ((O.2.2.2.2.2.2.1 ks hks).1.c (by decide)).1.symm), fr.rf⟩)
      by_cases zs31_2 : what = 18
      · refine xj_top zs31_2 ?_
        refine xj_tableIn (off := 52) (tgt := 83) dX11_told_31 (by decide) (by decide) rfl (by decide) ?_
        refine xj_aload_n (n := 0) (i := 0) 0 rfl rfl dX11_told_83 ?_
        refine yj_getf (v := .ref 8) fl_X11_37_11 (by omega) (fq_0 g) rfl dX11_told_84 ?_
        refine xj_iload_n (n := 1) (i := 1) 1 rfl rfl dX11_told_87 ?_
        refine yj_aaldN (m := 6) (a := 9 + 3 * ks) ks (by omega) (fq_8 g) (by decide) (by decide) rfl (by omega) (by decide) (if_pos (by omega)) dX11_told_88 ?_
        refine yj_getf (v := .int ((A 2 ks))) fl_X11_141_7 (by omega) ((fPn_r hs6_ks).2.2.1 (g (9 + 3 * ks))) (congrArg (fun z => some (Value.int z)) (C.pane hks).2.1) dX11_told_89 ?_
        exact xj_ireturn rfl (nr_i _) (Nat.zero_le _) (Nat.zero_le _) dX11_told_92 (qI_e ⟨by unfold vTold; (try simp only [nI_clamp (show ks < 2147483648 by omega)]); rw [if_pos zp5, if_neg zp15, if_neg zs31_0, if_neg zs31_1, if_pos zs31_2]; all_goals (rfl), fr.rf⟩)
      by_cases zs31_3 : what = 19
      · refine xj_top zs31_3 ?_
        refine xj_tableIn (off := 62) (tgt := 93) dX11_told_31 (by decide) (by decide) rfl (by decide) ?_
        refine xj_aload_n (n := 0) (i := 0) 0 rfl rfl dX11_told_93 ?_
        refine yj_getf (v := .ref 8) fl_X11_37_11 (by omega) (fq_0 g) rfl dX11_told_94 ?_
        refine xj_iload_n (n := 1) (i := 1) 1 rfl rfl dX11_told_97 ?_
        refine yj_aaldN (m := 6) (a := 9 + 3 * ks) ks (by omega) (fq_8 g) (by decide) (by decide) rfl (by omega) (by decide) (if_pos (by omega)) dX11_told_98 ?_
        refine xj_callV kv_X11_156 (c_X7_dullTogether l (d + 1) n hn g (9 + 3 * ks) (fPn_r hs6_ks) (A (10 + ks)) (fun c hc => (C.pane hks).2.2.2.1 c hc)) (As := []) (st := []) (by omega) ((fPn_r hs6_ks).2.2.1 _) (ci := 7) rfl rfl rfl rfl (xRm_of (by omega) (by decide) (by omega) (by omega)) (Nat.le_of_ble_eq_true rfl) dX11_told_99 (yk_i (kc := 0) (ks := 0) fun zv1 zg2 hzg2 => ?_)
        obtain ⟨hvzv1, hgzg2⟩ := hzg2
        subst hgzg2
        exact xj_ireturn rfl (nr_i _) (Nat.zero_le _) (Nat.zero_le _) dX11_told_102 (qI_e ⟨by unfold vTold; (try simp only [nI_clamp (show ks < 2147483648 by omega)]); rw [if_pos zp5, if_neg zp15, if_neg zs31_0, if_neg zs31_1, if_neg zs31_2, if_pos zs31_3]; all_goals (exact hvzv1), fr.rf⟩)
      have zo31_0 : what.toInt ≠ 16 := fun e => zs31_0 (Int32.toInt_inj.mp (e.trans rfl))
      have zo31_1 : what.toInt ≠ 17 := fun e => zs31_1 (Int32.toInt_inj.mp (e.trans rfl))
      have zo31_2 : what.toInt ≠ 18 := fun e => zs31_2 (Int32.toInt_inj.mp (e.trans rfl))
      have zo31_3 : what.toInt ≠ 19 := fun e => zs31_3 (Int32.toInt_inj.mp (e.trans rfl))
      refine xj_tableOut (tgt := 103) dX11_told_31 (by omega) (by decide) ?_
      refine xj_bipush (v := (-7)) (by decide) dX11_told_103 ?_
      exact xj_ireturn rfl (nr_i _) (Nat.zero_le _) (Nat.zero_le _) dX11_told_105 (qI_e ⟨by unfold vTold; (try simp only [nI_clamp (show ks < 2147483648 by omega)]); rw [if_pos zp5, if_neg zp15, if_neg zs31_0, if_neg zs31_1, if_neg zs31_2, if_neg zs31_3]; all_goals (rfl), fr.rf⟩)
    · have zp15 : 0 ≤ what ∧ what ≤ 15 := bI_n0.mp zc15
      obtain ⟨kwhat, hkwhat, rfl⟩ := nI_bnd (m := 15) (by decide) zp15.1 zp15.2
      refine xj_aload_n (n := 0) (i := 0) 0 rfl rfl dX11_told_18 ?_
      refine yj_getf (v := .ref 8) fl_X11_37_11 (by omega) (fq_0 g) rfl dX11_told_19 ?_
      refine xj_iload_n (n := 1) (i := 1) 1 rfl rfl dX11_told_22 ?_
      refine yj_aaldN (m := 6) (a := 9 + 3 * ks) ks (by omega) (fq_8 g) (by decide) (by decide) rfl (by omega) (by decide) (if_pos (by omega)) dX11_told_23 ?_
      refine yj_getf (v := .ref ((9 + 3 * ks) + 1)) fl_X11_150_7 (by omega) ((fPn_r hs6_ks).2.2.1 (g (9 + 3 * ks))) rfl dX11_told_24 ?_
      refine xj_iload_n (n := 2) (i := 2) 2 rfl rfl dX11_told_27 ?_
      refine yj_ialdN kwhat (by omega) (fPn_r hs6_ks).2.2.2.1 rfl (by omega) (by decide) dX11_told_28 ?_
      refine xj_top ((C.pane hks).2.2.2.1 kwhat (by omega)) ?_
      exact xj_ireturn rfl (nr_i _) (Nat.zero_le _) (Nat.zero_le _) dX11_told_29 (qI_e ⟨by unfold vTold; (try simp only [nI_clamp (show ks < 2147483648 by omega), nI_clamp (show kwhat < 2147483648 by omega)]); rw [if_pos zp5, if_pos zp15]; all_goals (rfl), fr.rf⟩)
  · have zp5 : ¬ (isSl A s) := bI_0.mp zc5
    refine xj_bipush (v := (-5)) (by decide) dX11_told_8 ?_
    exact xj_ireturn rfl (nr_i _) (Nat.zero_le _) (Nat.zero_le _) dX11_told_10 (qI_e ⟨by unfold vTold; rw [if_neg zp5]; all_goals (rfl), fr.rf⟩)
set_option maxHeartbeats 4000000 in
set_option maxRecDepth 100000 in
theorem c_X11_view (l : Launch) (d : Nat) (n : Nat) (g : xG) (A : zSt) (Λ : Nat → xL) (O : okA A) (C : cA g n A Λ) (s what : Int32)  : xC l yX11_view cX11_view 4 (some .int) (xR (d + 6) 0 0) [.ref 0, .int s, .int what] (n, fh g) (qI n fun v g1 => v = vView A Λ s what ∧ fr sX g g1) := by
  refine xC_of false (by decide +kernel) (fun z => by cases z) (Nat.le_of_ble_eq_true rfl) ?_
  have hn := C.n110 O
  have hS6 := O.1.2
  have hW := O.W
  have hT6 := O.2.2.2.1.2.2
  have hN9 := O.2.1.2
  show xJ l (RX11, 4, (some .int), false, (xR (d + 6) 0 0), none) cX11_view _ 0 0 0 [(0, .ref 0), (1, .int s), (2, .int what)] [] (n, fh g)
  refine xj_aload_n (n := 0) (i := 0) 0 rfl rfl dX11_view_0 ?_
  refine xj_iload_n (n := 1) (i := 1) 1 rfl rfl dX11_view_1 ?_
  refine xj_callV kv_X11_125 (c_X11_isSleeper l (d + 4) n g A Λ O C s) (As := [.int s]) (st := []) (by omega) (fq_0 g) (ci := 11) rfl rfl rfl rfl (xRm_of (by omega) (by decide) (by omega) (by omega)) (Nat.le_of_ble_eq_true rfl) dX11_view_2 (yk_p (kc := 0) (ks := 0) ?_)
  refine xj_if_ne (tgt := 11) (by decide) dX11_view_5 (fun zc5 => ?_) (fun zc5 => ?_)
  · have zp5 : isSl A s := bI_n0.mp zc5
    obtain ⟨ks, hks, rfl⟩ := isSl_of O zp5
    have hs6_ks : ks < 6 := by omega
    refine xj_aload_n (n := 0) (i := 0) 0 rfl rfl dX11_view_11 ?_
    refine yj_getf (v := .ref 8) fl_X11_37_11 (by omega) (fq_0 g) rfl dX11_view_12 ?_
    refine xj_iload_n (n := 1) (i := 1) 1 rfl rfl dX11_view_15 ?_
    refine yj_aaldN (m := 6) (a := 9 + 3 * ks) ks (by omega) (fq_8 g) (by decide) (by decide) rfl (by omega) (by decide) (if_pos (by omega)) dX11_view_16 ?_
    refine xj_astore_n (n := 3) (i := 3) (lv1 := [(3, .ref (9 + 3 * ks)), (0, .ref 0), (1, .int (nI ks)), (2, .int what)]) rfl rfl (Nat.le_of_ble_eq_true rfl) dX11_view_17 ?_
    refine xj_iload_n (n := 2) (i := 2) 3 rfl rfl dX11_view_18 ?_
    by_cases zs19_0 : what = 0
    · refine xj_top zs19_0 ?_
      refine xj_tableIn (off := 29) (tgt := 48) dX11_view_19 (by decide) (by decide) rfl (by decide) ?_
      refine xj_aload_n (n := 3) (i := 3) 0 rfl rfl dX11_view_48 ?_
      refine xj_aload_n (n := 0) (i := 0) 1 rfl rfl dX11_view_49 ?_
      refine yj_getf (v := .ref 66) fl_X11_55_11 (by omega) (fq_0 g) rfl dX11_view_50 ?_
      refine xj_aload_n (n := 0) (i := 0) 1 rfl rfl dX11_view_53 ?_
      refine yj_getf (v := .int (nI (aW A))) fl_X11_93_11 (by omega) (fq_0 g) (congrArg (fun z => some (Value.int z)) (C.W O)) dX11_view_54 ?_
      refine yj_aaldN (m := 6) (a := fTX (aW A)) (aW A) (by omega) (fq_66 g) (by decide) (by decide) rfl (by omega) (by decide) (C.tx O hW) dX11_view_57 ?_
      refine xj_aload_n (n := 0) (i := 0) 1 rfl rfl dX11_view_58 ?_
      refine yj_getf (v := .int (nI (aN A))) fl_X11_84_11 (by omega) (fq_0 g) (congrArg (fun z => some (Value.int z)) (C.N O)) dX11_view_59 ?_
      refine xj_callV kv_X11_160 (c_X7_clearCells l (d + 1) n hn g (9 + 3 * ks) (fTX (aW A)) (aK A ks) (A 2 ks) (A 3 ks) (A (10 + ks)) (Λ (aW A)) (fPn_r hs6_ks) (C.pane hks) (C.txt hW) (nI (aN A))) (As := [.ref (fTX (aW A)), .int (nI (aN A))]) (st := []) (by omega) ((fPn_r hs6_ks).2.2.1 _) (ci := 7) rfl rfl rfl rfl (xRm_of (by omega) (by decide) (by omega) (by omega)) (Nat.le_of_ble_eq_true rfl) dX11_view_62 (yk_i (kc := 0) (ks := 0) fun zv1 zg2 hzg2 => ?_)
      obtain ⟨hvzv1, hfzg2⟩ := hzg2
      have hxzg2 := hfzg2.mono (fX_s (t := (aW A)) hs6_ks (Or.inl rfl))
      have Czg2 := C.keep O hxzg2
      exact xj_ireturn rfl (nr_i _) (Nat.zero_le _) (Nat.zero_le _) dX11_view_65 (qI_e ⟨by unfold vView; (try simp only [nI_clamp (show ks < 2147483648 by omega)]); rw [if_pos zp5, if_pos zs19_0]; all_goals (exact hvzv1), hxzg2⟩)
    by_cases zs19_1 : what = 1
    · refine xj_top zs19_1 ?_
      refine xj_tableIn (off := 47) (tgt := 66) dX11_view_19 (by decide) (by decide) rfl (by decide) ?_
      refine xj_aload_n (n := 3) (i := 3) 0 rfl rfl dX11_view_66 ?_
      refine xj_aload_n (n := 0) (i := 0) 1 rfl rfl dX11_view_67 ?_
      refine yj_getf (v := .ref 66) fl_X11_55_11 (by omega) (fq_0 g) rfl dX11_view_68 ?_
      refine xj_aload_n (n := 0) (i := 0) 1 rfl rfl dX11_view_71 ?_
      refine yj_getf (v := .int (nI (aW A))) fl_X11_93_11 (by omega) (fq_0 g) (congrArg (fun z => some (Value.int z)) (C.W O)) dX11_view_72 ?_
      refine yj_aaldN (m := 6) (a := fTX (aW A)) (aW A) (by omega) (fq_66 g) (by decide) (by decide) rfl (by omega) (by decide) (C.tx O hW) dX11_view_75 ?_
      refine xj_aload_n (n := 0) (i := 0) 1 rfl rfl dX11_view_76 ?_
      refine yj_getf (v := .int (nI (aN A))) fl_X11_84_11 (by omega) (fq_0 g) (congrArg (fun z => some (Value.int z)) (C.N O)) dX11_view_77 ?_
      refine xj_callV kv_X11_164 (c_X7_seenCells l (d + 0) n hn g (9 + 3 * ks) (fTX (aW A)) (aK A ks) (A 2 ks) (A 3 ks) (A (10 + ks)) (Λ (aW A)) (fPn_r hs6_ks) (C.pane hks) (C.txt hW) (nI (aN A))) (As := [.ref (fTX (aW A)), .int (nI (aN A))]) (st := []) (by omega) ((fPn_r hs6_ks).2.2.1 _) (ci := 7) rfl rfl rfl rfl (xRm_of (by omega) (by decide) (by omega) (by omega)) (Nat.le_of_ble_eq_true rfl) dX11_view_80 (yk_i (kc := 0) (ks := 0) fun zv3 zg4 hzg4 => ?_)
      obtain ⟨hvzv3, hfzg4⟩ := hzg4
      have hxzg4 := hfzg4.mono (fX_s (t := (aW A)) hs6_ks (Or.inl rfl))
      have Czg4 := C.keep O hxzg4
      exact xj_ireturn rfl (nr_i _) (Nat.zero_le _) (Nat.zero_le _) dX11_view_83 (qI_e ⟨by unfold vView; (try simp only [nI_clamp (show ks < 2147483648 by omega)]); rw [if_pos zp5, if_neg zs19_0, if_pos zs19_1]; all_goals (exact hvzv3), hxzg4⟩)
    by_cases zs19_2 : what = 2
    · refine xj_top zs19_2 ?_
      refine xj_tableIn (off := 65) (tgt := 84) dX11_view_19 (by decide) (by decide) rfl (by decide) ?_
      refine xj_aload_n (n := 3) (i := 3) 0 rfl rfl dX11_view_84 ?_
      refine xj_aload_n (n := 0) (i := 0) 1 rfl rfl dX11_view_85 ?_
      refine yj_getf (v := .ref 66) fl_X11_55_11 (by omega) (fq_0 g) rfl dX11_view_86 ?_
      refine xj_aload_n (n := 0) (i := 0) 1 rfl rfl dX11_view_89 ?_
      refine yj_getf (v := .int (nI (aW A))) fl_X11_93_11 (by omega) (fq_0 g) (congrArg (fun z => some (Value.int z)) (C.W O)) dX11_view_90 ?_
      refine yj_aaldN (m := 6) (a := fTX (aW A)) (aW A) (by omega) (fq_66 g) (by decide) (by decide) rfl (by omega) (by decide) (C.tx O hW) dX11_view_93 ?_
      refine xj_aload_n (n := 0) (i := 0) 1 rfl rfl dX11_view_94 ?_
      refine yj_getf (v := .int (nI (aN A))) fl_X11_84_11 (by omega) (fq_0 g) (congrArg (fun z => some (Value.int z)) (C.N O)) dX11_view_95 ?_
      refine xj_callV kv_X11_164 (c_X7_seenCells l (d + 0) n hn g (9 + 3 * ks) (fTX (aW A)) (aK A ks) (A 2 ks) (A 3 ks) (A (10 + ks)) (Λ (aW A)) (fPn_r hs6_ks) (C.pane hks) (C.txt hW) (nI (aN A))) (As := [.ref (fTX (aW A)), .int (nI (aN A))]) (st := []) (by omega) ((fPn_r hs6_ks).2.2.1 _) (ci := 7) rfl rfl rfl rfl (xRm_of (by omega) (by decide) (by omega) (by omega)) (Nat.le_of_ble_eq_true rfl) dX11_view_98 (yk_i (kc := 0) (ks := 0) fun zv5 zg6 hzg6 => ?_)
      obtain ⟨hvzv5, hfzg6⟩ := hzg6
      have hxzg6 := hfzg6.mono (fX_s (t := (aW A)) hs6_ks (Or.inl rfl))
      have Czg6 := C.keep O hxzg6
      obtain ⟨mz, hmz, emz⟩ := seP_n (Λ := Λ) O hks
      refine xj_top (show zv5 = nI mz from hvzv5.trans emz) ?_
      refine xj_callS ks_X11_167 (c_J6_bitCount_0f7a4 l (d + 5) mz hmz _) (As := [.int (nI mz)]) (st := []) rfl rfl (xRm_of (by omega) (by decide) (by omega) (by omega)) (Nat.le_of_ble_eq_true rfl) dX11_view_101 (yk_p (kc := 0) (ks := 0) ?_)
      exact xj_ireturn rfl (nr_i _) (Nat.zero_le _) (Nat.zero_le _) dX11_view_104 (qI_e ⟨by unfold vView; (try simp only [nI_clamp (show ks < 2147483648 by omega)]); rw [if_pos zp5, if_neg zs19_0, if_neg zs19_1, if_pos zs19_2]; all_goals (exact congrArg onesF emz.symm), hxzg6⟩)
    by_cases zs19_3 : what = 3
    · refine xj_top zs19_3 ?_
      refine xj_tableIn (off := 86) (tgt := 105) dX11_view_19 (by decide) (by decide) rfl (by decide) ?_
      refine xj_aload_n (n := 3) (i := 3) 0 rfl rfl dX11_view_105 ?_
      refine xj_aload_n (n := 0) (i := 0) 1 rfl rfl dX11_view_106 ?_
      refine yj_getf (v := .ref 66) fl_X11_55_11 (by omega) (fq_0 g) rfl dX11_view_107 ?_
      refine xj_aload_n (n := 0) (i := 0) 1 rfl rfl dX11_view_110 ?_
      refine yj_getf (v := .int (nI (aW A))) fl_X11_93_11 (by omega) (fq_0 g) (congrArg (fun z => some (Value.int z)) (C.W O)) dX11_view_111 ?_
      refine yj_aaldN (m := 6) (a := fTX (aW A)) (aW A) (by omega) (fq_66 g) (by decide) (by decide) rfl (by omega) (by decide) (C.tx O hW) dX11_view_114 ?_
      refine xj_ldc cn_X11_136 dX11_view_115 ?_
      refine xj_aload_n (n := 0) (i := 0) 1 rfl rfl dX11_view_117 ?_
      refine yj_getf (v := .int (nI (aN A))) fl_X11_84_11 (by omega) (fq_0 g) (congrArg (fun z => some (Value.int z)) (C.N O)) dX11_view_118 ?_
      refine xj_callV kv_X11_173 (c_X7_costOf l (d + 1) n hn g (9 + 3 * ks) (fTX (aW A)) (aK A ks) (A 2 ks) (A 3 ks) (A (10 + ks)) (Λ (aW A)) (fPn_r hs6_ks) (C.pane hks) (C.txt hW) 65535 (nI (aN A))) (As := [.ref (fTX (aW A)), .int 65535, .int (nI (aN A))]) (st := []) (by omega) ((fPn_r hs6_ks).2.2.1 _) (ci := 7) rfl rfl rfl rfl (xRm_of (by omega) (by decide) (by omega) (by omega)) (Nat.le_of_ble_eq_true rfl) dX11_view_121 (yk_i (kc := 0) (ks := 0) fun zv7 zg8 hzg8 => ?_)
      obtain ⟨hvzv7, hfzg8⟩ := hzg8
      have hxzg8 := hfzg8.mono (fX_s (t := (aW A)) hs6_ks (Or.inl rfl))
      have Czg8 := C.keep O hxzg8
      exact xj_ireturn rfl (nr_i _) (Nat.zero_le _) (Nat.zero_le _) dX11_view_124 (qI_e ⟨by unfold vView; (try simp only [nI_clamp (show ks < 2147483648 by omega)]); rw [if_pos zp5, if_neg zs19_0, if_neg zs19_1, if_neg zs19_2, if_pos zs19_3]; all_goals (exact hvzv7), hxzg8⟩)
    have zo19_0 : what.toInt ≠ 0 := fun e => zs19_0 (Int32.toInt_inj.mp (e.trans rfl))
    have zo19_1 : what.toInt ≠ 1 := fun e => zs19_1 (Int32.toInt_inj.mp (e.trans rfl))
    have zo19_2 : what.toInt ≠ 2 := fun e => zs19_2 (Int32.toInt_inj.mp (e.trans rfl))
    have zo19_3 : what.toInt ≠ 3 := fun e => zs19_3 (Int32.toInt_inj.mp (e.trans rfl))
    refine xj_tableOut (tgt := 125) dX11_view_19 (by omega) (by decide) ?_
    refine xj_bipush (v := (-7)) (by decide) dX11_view_125 ?_
    exact xj_ireturn rfl (nr_i _) (Nat.zero_le _) (Nat.zero_le _) dX11_view_127 (qI_e ⟨by unfold vView; (try simp only [nI_clamp (show ks < 2147483648 by omega)]); rw [if_pos zp5, if_neg zs19_0, if_neg zs19_1, if_neg zs19_2, if_neg zs19_3]; all_goals (rfl), fr.rf⟩)
  · have zp5 : ¬ (isSl A s) := bI_0.mp zc5
    refine xj_bipush (v := (-5)) (by decide) dX11_view_8 ?_
    exact xj_ireturn rfl (nr_i _) (Nat.zero_le _) (Nat.zero_le _) dX11_view_10 (qI_e ⟨by unfold vView; rw [if_neg zp5]; all_goals (rfl), fr.rf⟩)
