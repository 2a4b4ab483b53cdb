theorem nI99_le {x : Int32} {a b : Nat} (h : nI99 x a) (hab : a ≤ b) : nI99 x b := by
  obtain ⟨k, hk, e⟩ := h
  exact ⟨k, by omega, e⟩
theorem clF_n (p : Nat) (w : Int32) : nI99 (clF p w) (if p = 0 then 50 else 99) := by
  have key : ∀ (M : Int32) (m : Nat), M.toInt = m → nI99 (if 0 < (if w < M then w else M) then (if w < M then w else M) else 0) m := by
    intro M m hM
    by_cases h1 : w < M
    · rw [if_pos h1]
      by_cases h2 : 0 < w
      · rw [if_pos h2]
        have a := (i32_lt _ _).mp h1
        have b := (i32_lt _ _).mp h2
        obtain ⟨k, hk, e⟩ := nI_bnd (x := w) hM ((i32_le _ _).mpr (by omega)) ((i32_le _ _).mpr (by omega))
        exact ⟨k, hk, e⟩
      · rw [if_neg h2]
        exact ⟨0, Nat.zero_le _, rfl⟩
    · rw [if_neg h1]
      by_cases h2 : 0 < M
      · rw [if_pos h2]
        have b := (i32_lt _ _).mp h2
        have b0 : (0 : Int32).toInt = 0 := rfl
        obtain ⟨k, hk, e⟩ := nI_bnd (x := M) hM ((i32_le _ _).mpr (by omega)) ((i32_le _ _).mpr (by omega))
        exact ⟨k, hk, e⟩
      · rw [if_neg h2]
        exact ⟨0, Nat.zero_le _, rfl⟩
  unfold clF
  by_cases hp : p = 0
  · rw [if_pos hp, if_pos hp]
    exact key 50 50 (by decide)
  · rw [if_neg hp, if_neg hp]
    exact key 99 99 (by decide)
theorem nI99_2 {x : Int32} {a : Nat} (h : nI99 x a) : nI99 (2 * x) (2 * a) := by
  obtain ⟨k, hk, rfl⟩ := h
  exact ⟨2 * k, by omega, by rw [show (2 : Int32) = nI 2 from rfl, pk_mul]⟩
theorem nI99_add {x y : Int32} {a b : Nat} (h : nI99 x a) (h2 : nI99 y b) : nI99 (x + y) (a + b) := by
  obtain ⟨k, hk, rfl⟩ := h
  obtain ⟨j, hj, rfl⟩ := h2
  exact ⟨k + j, by omega, by rw [nI_add]⟩
theorem kDull_n (k : Nat) {said more : Int32} (cell night : Int32) (h : nI99 said 50) (h2 : nI99 more 9) : nI99 (kDull k said cell more night) 109 := by
  have a1 : nI99 (if hasF 36873 cell = true then 2 * said else said) 100 := by
    split
    · exact nI99_2 h
    · exact nI99_le h (by omega)
  unfold kDull
  split
  · exact nI99_le a1 (by omega)
  · split
    · exact nI99_le (nI99_add a1 h2) (by omega)
    · split
      · exact ⟨0, by omega, rfl⟩
      · split
        · split
          · exact nI99_le (nI99_add h h2) (by omega)
          · exact ⟨1, by omega, rfl⟩
        · exact nI99_le h (by omega)
theorem min99_n {x : Int32} {a : Nat} (ha : a < 2 ^ 31) (h : nI99 x a) : nI99 (min99 x) 99 := by
  obtain ⟨k, hk, rfl⟩ := h
  unfold min99
  by_cases h9 : nI k < 99
  · rw [if_pos h9]
    exact ⟨k, Nat.le_of_lt ((nI_ltI (b := 99) (by omega) (by decide)).mp h9), rfl⟩
  · rw [if_neg h9]
    exact ⟨99, by omega, rfl⟩
/-- a night leaves rows right -/
theorem okP_night {k : Nat} {kk more pic : Int32} {dull : Nat → Int32} (L : xL) (night : Int32) (h : okP kk more pic dull) (n c : Nat) (hc : c < 16) : nI99 (nightR L k more pic dull night n c) 99 := by
  unfold nightR
  split
  · refine min99_n (a := 99 + 109) (by decide) (nI99_add (h.2.2.2 c hc) (kDull_n k _ _ ?_ h.2.1))
    exact clF_n 0 _
  · exact h.2.2.2 c hc
/-- the state when i of the sleepers have passed the night -/
def slA (A : zSt) (Λ : Nat → xL) : Nat → zSt
  | 0 => A
  | i + 1 => va_up (slA A Λ i) (10 + i) (nightR (Λ (aW A)) (aK A i) (A 2 i) (A 3 i) (A (10 + i)) (nI (aN A)) 16)
theorem slA_lo (A : zSt) (Λ : Nat → xL) : ∀ (i q : Nat), (q < 10 ∨ 10 + i ≤ q) → slA A Λ i q = A q
  | 0, _, _ => rfl
  | i + 1, q, h => by
    show va_up (slA A Λ i) (10 + i) _ q = A q
    rw [va_up_n _ _ (by omega)]
    exact slA_lo A Λ i q (by omega)
theorem slA_ok {A : zSt} (Λ : Nat → xL) (O : okA A) : ∀ i, i ≤ aS A → okA (slA A Λ i)
  | 0, _ => O
  | i + 1, h => by
    have e := slA_lo A Λ i
    have ih := slA_ok Λ O i (by omega)
    have hS : aS (slA A Λ i) = aS A := by unfold aS; rw [e 0 (by omega)]
    exact ih.rowD (by omega) (fun c hc => okP_night (Λ (aW A)) (nI (aN A)) (O.2.2.2.2.2.2.1 i (by omega)) 16 c hc)
theorem stTp_Z2 {A : zSt} {z i : Nat} (O : okA A) (h : aZ A = z + i) (b : Int32) : aZ (stTp A b) = z + (i + 1) := by rw [stTp_Z O, h]; rfl
theorem feed_n {n : Int32} (h1 : ¬ n < 1) (h2 : ¬ n > 5) : n = nI 1 ∨ n = nI 2 ∨ n = nI 3 ∨ n = nI 4 ∨ n = nI 5 := by
  have a1 : ¬ n.toInt < 1 := fun z => h1 ((i32_lt _ _).mpr z)
  have a2 : ¬ 5 < n.toInt := fun z => h2 ((i32_lt _ _).mpr z)
  obtain ⟨k, hk, rfl⟩ := nI_bnd (x := n) (M := 5) (m := 5) (by decide) ((i32_le _ _).mpr (by show (0 : Int) ≤ _; omega)) ((i32_le _ _).mpr (by show _ ≤ (5 : Int); omega))
  rw [nI_toInt (by omega)] at a1
  rcases (show k = 1 ∨ k = 2 ∨ k = 3 ∨ k = 4 ∨ k = 5 by omega) with rfl | rfl | rfl | rfl | rfl <;> simp
abbrev byF (x : Int32) : Prop := 0 ≤ x ∧ x ≤ 255
def rFeed (A : zSt) (n a b c d e : Int32) : Int32 × zSt := if byF a then if byF b then if byF c then if byF d then if byF e then if n < 1 then (-2, A) else if n > 5 then (-2, A) else if nI (aZ A + n.toNatClampNeg) ≤ 160 then (nI (aZ (([a, b, c, d, e].take n.toNatClampNeg).foldl stTp A)), ([a, b, c, d, e].take n.toNatClampNeg).foldl stTp A) else (-4, A) else (-2, A) else (-2, A) else (-2, A) else (-2, A) else (-2, A)
def rSleep (A : zSt) (Λ : Nat → xL) : Int32 × zSt := if nI (aN A) < 999 then (nI (aN A + 1), gs (slA A Λ (aS A)) 0 1 (nI (aN A + 1))) else (-3, A)
set_option maxHeartbeats 4000000 in
set_option maxRecDepth 100000 in
theorem c_X11_sheet (l : Launch) (d : Nat) (n : Nat) (g : xG) (A : zSt) (Λ : Nat → xL) (O : okA A) (C : cA g n A Λ) (q sort n1 : Int32)  : xC l yX11_sheet cX11_sheet 5 (some .int) (xR (d + 2) 0 0) [.ref 0, .int q, .int sort, .int n1] (n, fh g) (qI n fun v g1 => v = (rSheet A q sort n1).1 ∧ cA g1 n (rSheet A q sort n1).2 Λ ∧ fr cX g g1) := by
  refine xC_of false (by decide +kernel) (fun z => by cases z) (Nat.le_of_ble_eq_true rfl) ?_
  have hn := C.n110 O
  have hS6 := O.1.2
  have hW := O.W
  have hT6 := O.2.2.2.1.2.2
  have hN9 := O.2.1.2
  show xJ l (RX11, 5, (some .int), false, (xR (d + 2) 0 0), none) cX11_sheet _ 0 0 0 [(0, .ref 0), (1, .int q), (2, .int sort), (3, .int n1)] [] (n, fh g)
  refine xj_iload_n (n := 2) (i := 2) 2 rfl rfl dX11_sheet_0 ?_
  refine xj_iconst (v := (-1)) (by decide) dX11_sheet_1 ?_
  refine xj_icmp_ne (tgt := 9) (by decide) dX11_sheet_2 (fun zc2 => ?_) (fun zc2 => ?_)
  · refine xj_iconst (v := 0) (by decide) dX11_sheet_9 ?_
    refine xj_istore (i := 4) (lv1 := [(4, .int 0), (0, .ref 0), (1, .int q), (2, .int sort), (3, .int n1)]) rfl (Nat.le_of_ble_eq_true rfl) dX11_sheet_10 ?_
    refine xj_iload_n (n := 1) (i := 1) 2 rfl rfl dX11_sheet_12 ?_
    refine xj_callS ks_X11_230 (c_X11_isSheet l (d + 0) q _) (As := [.int q]) (st := []) rfl rfl (xRm_of (by omega) (by decide) (by omega) (by omega)) (Nat.le_of_ble_eq_true rfl) dX11_sheet_13 (yk_p (kc := 0) (ks := 0) ?_)
    refine xj_if_eq (tgt := 38) (by decide) dX11_sheet_16 (fun zc16 => ?_) (fun zc16 => ?_)
    · have zp16 : ¬ (0 ≤ q ∧ q ≤ 3) := bI_0.mp zc16
      refine xj_bipush (v := (-2)) (by decide) dX11_sheet_38 ?_
      have er : rSheet A q sort n1 = ((-2), A) := by unfold rSheet; rw [if_neg zc2, if_neg zp16]; all_goals (rfl)
      exact xj_ireturn rfl (nr_i _) (Nat.zero_le _) (Nat.zero_le _) dX11_sheet_40 (qI_e (by rw [er]; exact ⟨rfl, C, fr.rf⟩))
    · have zp16 : 0 ≤ q ∧ q ≤ 3 := bI_n0.mp zc16
      obtain ⟨kq, hkq, rfl⟩ := nI_bnd (m := 3) (by decide) zp16.1 zp16.2
      have hk4_kq : kq < 4 := by omega
      refine xj_iload (i := 4) 0 rfl dX11_sheet_19 ?_
      refine xj_if_ne (tgt := 41) (by decide) dX11_sheet_21 (fun zc21 => ?_) (fun zc21 => ?_)
      · exact absurd zc21 (fun z => z rfl)
      · refine xj_iload_n (n := 2) (i := 2) 3 rfl rfl dX11_sheet_24 ?_
        refine xj_iconst (v := 2) (by decide) dX11_sheet_25 ?_
        refine xj_callS ks_X11_107 (c_X11_within l (d + 1) sort 2 _) (As := [.int sort, .int 2]) (st := []) rfl rfl (xRm_of (by omega) (by decide) (by omega) (by omega)) (Nat.le_of_ble_eq_true rfl) dX11_sheet_26 (yk_p (kc := 0) (ks := 0) ?_)
        refine xj_if_eq (tgt := 38) (by decide) dX11_sheet_29 (fun zc29 => ?_) (fun zc29 => ?_)
        · have zp29 : ¬ (0 ≤ sort ∧ sort ≤ 2) := bI_0.mp zc29
          refine xj_bipush (v := (-2)) (by decide) dX11_sheet_38 ?_
          have er : rSheet A (nI kq) sort n1 = ((-2), A) := by unfold rSheet; (try simp only [nI_clamp (show kq < 2147483648 by omega)]); rw [if_neg zc2, if_pos zp16, if_neg zp29]; all_goals (rfl)
          exact xj_ireturn rfl (nr_i _) (Nat.zero_le _) (Nat.zero_le _) dX11_sheet_40 (qI_e (by rw [er]; exact ⟨rfl, C, fr.rf⟩))
        · have zp29 : 0 ≤ sort ∧ sort ≤ 2 := bI_n0.mp zc29
          refine xj_iload_n (n := 3) (i := 3) 4 rfl rfl dX11_sheet_32 ?_
          refine xj_bipush (v := 40) (by decide) dX11_sheet_33 ?_
          refine xj_icmp_le (tgt := 41) (by decide) dX11_sheet_35 (fun zc35 => ?_) (fun zc35 => ?_)
          · refine xj_iload (i := 4) 0 rfl dX11_sheet_41 ?_
            refine xj_if_ne (tgt := 53) (by decide) dX11_sheet_43 (fun zc43 => ?_) (fun zc43 => ?_)
            · exact absurd zc43 (fun z => z rfl)
            · refine xj_iload_n (n := 3) (i := 3) 4 rfl rfl dX11_sheet_46 ?_
              refine xj_if_ge (tgt := 53) (by decide) dX11_sheet_47 (fun zc47 => ?_) (fun zc47 => ?_)
              · refine xj_aload_n (n := 0) (i := 0) 1 rfl rfl dX11_sheet_53 ?_
                refine yj_getf (v := .ref 71) fl_X11_69_11 (by omega) (fq_0 g) rfl dX11_sheet_54 ?_
                refine xj_iload_n (n := 1) (i := 1) 2 rfl rfl dX11_sheet_57 ?_
                refine yj_aaldN (m := 4) (a := 72 + 2 * kq) kq (by omega) (fq_71 g) (by decide) (by decide) rfl (by omega) (by decide) (if_pos (by omega)) dX11_sheet_58 ?_
                refine xj_iload_n (n := 2) (i := 2) 3 rfl rfl dX11_sheet_59 ?_
                refine xj_iload (i := 4) 0 rfl dX11_sheet_60 ?_
                refine xj_if_eq (tgt := 69) (by decide) dX11_sheet_62 (fun zc62 => ?_) (fun zc62 => ?_)
                · refine xj_iload_n (n := 3) (i := 3) 4 rfl rfl dX11_sheet_69 ?_
                  refine xj_callV kv_X11_233 (c_X8_become l (d + 0) n hn g (72 + 2 * kq) (fSt_q hk4_kq) sort n1) (As := [.int sort, .int n1]) (st := []) (by omega) ((fSt_q hk4_kq).2.1 _) (ci := 8) rfl rfl rfl rfl (xRm_of (by omega) (by decide) (by omega) (by omega)) (Nat.le_of_ble_eq_true rfl) dX11_sheet_70 (yk_v (kc := 0) (ks := 0) fun zg1 hzg1 => ?_)
                  obtain ⟨hf9, h91, h92, h93⟩ := hzg1
                  refine xj_iconst (v := 1) (by decide) dX11_sheet_73 ?_
                  have er : rSheet A (nI kq) sort n1 = (1, stQ A kq sort n1 (fun _ => 0)) := by unfold rSheet; (try simp only [nI_clamp (show kq < 2147483648 by omega)]); rw [if_neg zc2, if_pos zp16, if_pos zp29, if_pos zc35, if_pos zc47]; all_goals (rfl)
                  exact xj_ireturn rfl (nr_i _) (Nat.zero_le _) (Nat.zero_le _) dX11_sheet_74 (qI_e (by rw [er]; exact ⟨rfl, (C.sht O hk4_kq hf9 h91 h92 h93), (hf9.mono (fun j hj => cX_lt (by omega)))⟩))
                · exact absurd rfl zc62
              · refine xj_bipush (v := (-14)) (by decide) dX11_sheet_50 ?_
                have er : rSheet A (nI kq) sort n1 = ((-14), A) := by unfold rSheet; (try simp only [nI_clamp (show kq < 2147483648 by omega)]); rw [if_neg zc2, if_pos zp16, if_pos zp29, if_pos zc35, if_neg zc47]; all_goals (rfl)
                exact xj_ireturn rfl (nr_i _) (Nat.zero_le _) (Nat.zero_le _) dX11_sheet_52 (qI_e (by rw [er]; exact ⟨rfl, C, fr.rf⟩))
          · refine xj_bipush (v := (-2)) (by decide) dX11_sheet_38 ?_
            have er : rSheet A (nI kq) sort n1 = ((-2), A) := by unfold rSheet; (try simp only [nI_clamp (show kq < 2147483648 by omega)]); rw [if_neg zc2, if_pos zp16, if_pos zp29, if_neg zc35]; all_goals (rfl)
            exact xj_ireturn rfl (nr_i _) (Nat.zero_le _) (Nat.zero_le _) dX11_sheet_40 (qI_e (by rw [er]; exact ⟨rfl, C, fr.rf⟩))
  · refine xj_iconst (v := 1) (by decide) dX11_sheet_5 ?_
    refine xj_goto (tgt := 10) (by decide) dX11_sheet_6 ?_
    refine xj_istore (i := 4) (lv1 := [(4, .int 1), (0, .ref 0), (1, .int q), (2, .int sort), (3, .int n1)]) rfl (Nat.le_of_ble_eq_true rfl) dX11_sheet_10 ?_
    refine xj_iload_n (n := 1) (i := 1) 2 rfl rfl dX11_sheet_12 ?_
    refine xj_callS ks_X11_230 (c_X11_isSheet l (d + 0) q _) (As := [.int q]) (st := []) rfl rfl (xRm_of (by omega) (by decide) (by omega) (by omega)) (Nat.le_of_ble_eq_true rfl) dX11_sheet_13 (yk_p (kc := 0) (ks := 0) ?_)
    refine xj_if_eq (tgt := 38) (by decide) dX11_sheet_16 (fun zc16 => ?_) (fun zc16 => ?_)
    · have zp16 : ¬ (0 ≤ q ∧ q ≤ 3) := bI_0.mp zc16
      refine xj_bipush (v := (-2)) (by decide) dX11_sheet_38 ?_
      have er : rSheet A q sort n1 = ((-2), A) := by unfold rSheet; rw [if_pos zc2, if_neg zp16]; all_goals (rfl)
      exact xj_ireturn rfl (nr_i _) (Nat.zero_le _) (Nat.zero_le _) dX11_sheet_40 (qI_e (by rw [er]; exact ⟨rfl, C, fr.rf⟩))
    · have zp16 : 0 ≤ q ∧ q ≤ 3 := bI_n0.mp zc16
      obtain ⟨kq, hkq, rfl⟩ := nI_bnd (m := 3) (by decide) zp16.1 zp16.2
      have hk4_kq : kq < 4 := by omega
      refine xj_iload (i := 4) 0 rfl dX11_sheet_19 ?_
      refine xj_if_ne (tgt := 41) (by decide) dX11_sheet_21 (fun zc21 => ?_) (fun zc21 => ?_)
      · refine xj_iload (i := 4) 0 rfl dX11_sheet_41 ?_
        refine xj_if_ne (tgt := 53) (by decide) dX11_sheet_43 (fun zc43 => ?_) (fun zc43 => ?_)
        · refine xj_aload_n (n := 0) (i := 0) 1 rfl rfl dX11_sheet_53 ?_
          refine yj_getf (v := .ref 71) fl_X11_69_11 (by omega) (fq_0 g) rfl dX11_sheet_54 ?_
          refine xj_iload_n (n := 1) (i := 1) 2 rfl rfl dX11_sheet_57 ?_
          refine yj_aaldN (m := 4) (a := 72 + 2 * kq) kq (by omega) (fq_71 g) (by decide) (by decide) rfl (by omega) (by decide) (if_pos (by omega)) dX11_sheet_58 ?_
          refine xj_iload_n (n := 2) (i := 2) 3 rfl rfl dX11_sheet_59 ?_
          refine xj_iload (i := 4) 0 rfl dX11_sheet_60 ?_
          refine xj_if_eq (tgt := 69) (by decide) dX11_sheet_62 (fun zc62 => ?_) (fun zc62 => ?_)
          · exact absurd zc62 (by decide)
          · refine xj_iconst (v := 0) (by decide) dX11_sheet_65 ?_
            refine xj_goto (tgt := 70) (by decide) dX11_sheet_66 ?_
            refine xj_callV kv_X11_233 (c_X8_become l (d + 0) n hn g (72 + 2 * kq) (fSt_q hk4_kq) sort 0) (As := [.int sort, .int 0]) (st := []) (by omega) ((fSt_q hk4_kq).2.1 _) (ci := 8) rfl rfl rfl rfl (xRm_of (by omega) (by decide) (by omega) (by omega)) (Nat.le_of_ble_eq_true rfl) dX11_sheet_70 (yk_v (kc := 0) (ks := 0) fun zg2 hzg2 => ?_)
            obtain ⟨hf9, h91, h92, h93⟩ := hzg2
            refine xj_iconst (v := 1) (by decide) dX11_sheet_73 ?_
            have er : rSheet A (nI kq) sort n1 = (1, stQ A kq sort 0 (fun _ => 0)) := by unfold rSheet; (try simp only [nI_clamp (show kq < 2147483648 by omega)]); rw [if_pos zc2, if_pos zp16]; all_goals (rfl)
            exact xj_ireturn rfl (nr_i _) (Nat.zero_le _) (Nat.zero_le _) dX11_sheet_74 (qI_e (by rw [er]; exact ⟨rfl, (C.sht O hk4_kq hf9 h91 h92 h93), (hf9.mono (fun j hj => cX_lt (by omega)))⟩))
        · exact absurd zc43 (by decide)
      · exact absurd zc21 (by decide)
set_option maxHeartbeats 4000000 in
set_option maxRecDepth 100000 in
theorem c_X11_feed (l : Launch) (d : Nat) (n : Nat) (g : xG) (A : zSt) (Λ : Nat → xL) (O : okA A) (C : cA g n A Λ) (n1 a b c e f : Int32)  : xC l yX11_feed cX11_feed 8 (some .int) (xR (d + 1) 0 0) [.ref 0, .int n1, .int a, .int b, .int c, .int e, .int f] (n, fh g) (qI n fun v g1 => v = (rFeed A n1 a b c e f).1 ∧ cA g1 n (rFeed A n1 a b c e f).2 Λ ∧ fr cX g g1) := by
  refine xC_of false (by decide +kernel) (fun z => by cases z) (Nat.le_of_ble_eq_true rfl) ?_
  have hn := C.n110 O
  have hS6 := O.1.2
  have hW := O.W
  have hT6 := O.2.2.2.1.2.2
  have hN9 := O.2.1.2
  show xJ l (RX11, 8, (some .int), false, (xR (d + 1) 0 0), none) cX11_feed _ 0 0 0 [(0, .ref 0), (1, .int n1), (2, .int a), (3, .int b), (4, .int c), (5, .int e), (6, .int f)] [] (n, fh g)
  refine xj_iload_n (n := 2) (i := 2) 2 rfl rfl dX11_feed_0 ?_
  refine xj_sipush (v := 255) (by decide) dX11_feed_1 ?_
  refine xj_callS ks_X11_107 (c_X11_within l (d + 0) a 255 _) (As := [.int a, .int 255]) (st := []) rfl rfl (xRm_of (by omega) (by decide) (by omega) (by omega)) (Nat.le_of_ble_eq_true rfl) dX11_feed_4 (yk_p (kc := 0) (ks := 0) ?_)
  refine xj_if_eq (tgt := 57) (by decide) dX11_feed_7 (fun zc7 => ?_) (fun zc7 => ?_)
  · have zp7 : ¬ (0 ≤ a ∧ a ≤ 255) := bI_0.mp zc7
    refine xj_iconst (v := 0) (by decide) dX11_feed_57 ?_
    refine xj_istore (i := 7) (lv1 := [(7, .int 0), (0, .ref 0), (1, .int n1), (2, .int a), (3, .int b), (4, .int c), (5, .int e), (6, .int f)]) rfl (Nat.le_of_ble_eq_true rfl) dX11_feed_58 ?_
    refine xj_iload_n (n := 1) (i := 1) 2 rfl rfl dX11_feed_60 ?_
    refine xj_iconst (v := 1) (by decide) dX11_feed_61 ?_
    refine xj_icmp_lt (tgt := 75) (by decide) dX11_feed_62 (fun zc62 => ?_) (fun zc62 => ?_)
    · refine xj_bipush (v := (-2)) (by decide) dX11_feed_75 ?_
      have er : rFeed A n1 a b c e f = ((-2), A) := by unfold rFeed; rw [if_neg zp7]; all_goals (rfl)
      exact xj_ireturn rfl (nr_i _) (Nat.zero_le _) (Nat.zero_le _) dX11_feed_77 (qI_e (by rw [er]; exact ⟨rfl, C, fr.rf⟩))
    · refine xj_iload_n (n := 1) (i := 1) 2 rfl rfl dX11_feed_65 ?_
      refine xj_iconst (v := 5) (by decide) dX11_feed_66 ?_
      refine xj_icmp_gt (tgt := 75) (by decide) dX11_feed_67 (fun zc67 => ?_) (fun zc67 => ?_)
      · refine xj_bipush (v := (-2)) (by decide) dX11_feed_75 ?_
        have er : rFeed A n1 a b c e f = ((-2), A) := by unfold rFeed; rw [if_neg zp7]; all_goals (rfl)
        exact xj_ireturn rfl (nr_i _) (Nat.zero_le _) (Nat.zero_le _) dX11_feed_77 (qI_e (by rw [er]; exact ⟨rfl, C, fr.rf⟩))
      · refine xj_iload (i := 7) 0 rfl dX11_feed_70 ?_
        refine xj_if_ne (tgt := 78) (by decide) dX11_feed_72 (fun zc72 => ?_) (fun zc72 => ?_)
        · exact absurd zc72 (fun z => z rfl)
        · refine xj_bipush (v := (-2)) (by decide) dX11_feed_75 ?_
          have er : rFeed A n1 a b c e f = ((-2), A) := by unfold rFeed; rw [if_neg zp7]; all_goals (rfl)
          exact xj_ireturn rfl (nr_i _) (Nat.zero_le _) (Nat.zero_le _) dX11_feed_77 (qI_e (by rw [er]; exact ⟨rfl, C, fr.rf⟩))
  · have zp7 : 0 ≤ a ∧ a ≤ 255 := bI_n0.mp zc7
    refine xj_iload_n (n := 3) (i := 3) 3 rfl rfl dX11_feed_10 ?_
    refine xj_sipush (v := 255) (by decide) dX11_feed_11 ?_
    refine xj_callS ks_X11_107 (c_X11_within l (d + 0) b 255 _) (As := [.int b, .int 255]) (st := []) rfl rfl (xRm_of (by omega) (by decide) (by omega) (by omega)) (Nat.le_of_ble_eq_true rfl) dX11_feed_14 (yk_p (kc := 0) (ks := 0) ?_)
    refine xj_if_eq (tgt := 57) (by decide) dX11_feed_17 (fun zc17 => ?_) (fun zc17 => ?_)
    · have zp17 : ¬ (0 ≤ b ∧ b ≤ 255) := bI_0.mp zc17
      refine xj_iconst (v := 0) (by decide) dX11_feed_57 ?_
      refine xj_istore (i := 7) (lv1 := [(7, .int 0), (0, .ref 0), (1, .int n1), (2, .int a), (3, .int b), (4, .int c), (5, .int e), (6, .int f)]) rfl (Nat.le_of_ble_eq_true rfl) dX11_feed_58 ?_
      refine xj_iload_n (n := 1) (i := 1) 2 rfl rfl dX11_feed_60 ?_
      refine xj_iconst (v := 1) (by decide) dX11_feed_61 ?_
      refine xj_icmp_lt (tgt := 75) (by decide) dX11_feed_62 (fun zc62 => ?_) (fun zc62 => ?_)
      · refine xj_bipush (v := (-2)) (by decide) dX11_feed_75 ?_
        have er : rFeed A n1 a b c e f = ((-2), A) := by unfold rFeed; rw [if_pos zp7, if_neg zp17]; all_goals (rfl)
        exact xj_ireturn rfl (nr_i _) (Nat.zero_le _) (Nat.zero_le _) dX11_feed_77 (qI_e (by rw [er]; exact ⟨rfl, C, fr.rf⟩))
      · refine xj_iload_n (n := 1) (i := 1) 2 rfl rfl dX11_feed_65 ?_
        refine xj_iconst (v := 5) (by decide) dX11_feed_66 ?_
        refine xj_icmp_gt (tgt := 75) (by decide) dX11_feed_67 (fun zc67 => ?_) (fun zc67 => ?_)
        · refine xj_bipush (v := (-2)) (by decide) dX11_feed_75 ?_
          have er : rFeed A n1 a b c e f = ((-2), A) := by unfold rFeed; rw [if_pos zp7, if_neg zp17]; all_goals (rfl)
          exact xj_ireturn rfl (nr_i _) (Nat.zero_le _) (Nat.zero_le _) dX11_feed_77 (qI_e (by rw [er]; exact ⟨rfl, C, fr.rf⟩))
        · refine xj_iload (i := 7) 0 rfl dX11_feed_70 ?_
          refine xj_if_ne (tgt := 78) (by decide) dX11_feed_72 (fun zc72 => ?_) (fun zc72 => ?_)
          · exact absurd zc72 (fun z => z rfl)
          · refine xj_bipush (v := (-2)) (by decide) dX11_feed_75 ?_
            have er : rFeed A n1 a b c e f = ((-2), A) := by unfold rFeed; rw [if_pos zp7, if_neg zp17]; all_goals (rfl)
            exact xj_ireturn rfl (nr_i _) (Nat.zero_le _) (Nat.zero_le _) dX11_feed_77 (qI_e (by rw [er]; exact ⟨rfl, C, fr.rf⟩))
    · have zp17 : 0 ≤ b ∧ b ≤ 255 := bI_n0.mp zc17
      refine xj_iload (i := 4) 4 rfl dX11_feed_20 ?_
      refine xj_sipush (v := 255) (by decide) dX11_feed_22 ?_
      refine xj_callS ks_X11_107 (c_X11_within l (d + 0) c 255 _) (As := [.int c, .int 255]) (st := []) rfl rfl (xRm_of (by omega) (by decide) (by omega) (by omega)) (Nat.le_of_ble_eq_true rfl) dX11_feed_25 (yk_p (kc := 0) (ks := 0) ?_)
      refine xj_if_eq (tgt := 57) (by decide) dX11_feed_28 (fun zc28 => ?_) (fun zc28 => ?_)
      · have zp28 : ¬ (0 ≤ c ∧ c ≤ 255) := bI_0.mp zc28
        refine xj_iconst (v := 0) (by decide) dX11_feed_57 ?_
        refine xj_istore (i := 7) (lv1 := [(7, .int 0), (0, .ref 0), (1, .int n1), (2, .int a), (3, .int b), (4, .int c), (5, .int e), (6, .int f)]) rfl (Nat.le_of_ble_eq_true rfl) dX11_feed_58 ?_
        refine xj_iload_n (n := 1) (i := 1) 2 rfl rfl dX11_feed_60 ?_
        refine xj_iconst (v := 1) (by decide) dX11_feed_61 ?_
        refine xj_icmp_lt (tgt := 75) (by decide) dX11_feed_62 (fun zc62 => ?_) (fun zc62 => ?_)
        · refine xj_bipush (v := (-2)) (by decide) dX11_feed_75 ?_
          have er : rFeed A n1 a b c e f = ((-2), A) := by unfold rFeed; rw [if_pos zp7, if_pos zp17, if_neg zp28]; all_goals (rfl)
          exact xj_ireturn rfl (nr_i _) (Nat.zero_le _) (Nat.zero_le _) dX11_feed_77 (qI_e (by rw [er]; exact ⟨rfl, C, fr.rf⟩))
        · refine xj_iload_n (n := 1) (i := 1) 2 rfl rfl dX11_feed_65 ?_
          refine xj_iconst (v := 5) (by decide) dX11_feed_66 ?_
          refine xj_icmp_gt (tgt := 75) (by decide) dX11_feed_67 (fun zc67 => ?_) (fun zc67 => ?_)
          · refine xj_bipush (v := (-2)) (by decide) dX11_feed_75 ?_
            have er : rFeed A n1 a b c e f = ((-2), A) := by unfold rFeed; rw [if_pos zp7, if_pos zp17, if_neg zp28]; all_goals (rfl)
            exact xj_ireturn rfl (nr_i _) (Nat.zero_le _) (Nat.zero_le _) dX11_feed_77 (qI_e (by rw [er]; exact ⟨rfl, C, fr.rf⟩))
          · refine xj_iload (i := 7) 0 rfl dX11_feed_70 ?_
            refine xj_if_ne (tgt := 78) (by decide) dX11_feed_72 (fun zc72 => ?_) (fun zc72 => ?_)
            · exact absurd zc72 (fun z => z rfl)
            · refine xj_bipush (v := (-2)) (by decide) dX11_feed_75 ?_
              have er : rFeed A n1 a b c e f = ((-2), A) := by unfold rFeed; rw [if_pos zp7, if_pos zp17, if_neg zp28]; all_goals (rfl)
              exact xj_ireturn rfl (nr_i _) (Nat.zero_le _) (Nat.zero_le _) dX11_feed_77 (qI_e (by rw [er]; exact ⟨rfl, C, fr.rf⟩))
      · have zp28 : 0 ≤ c ∧ c ≤ 255 := bI_n0.mp zc28
        refine xj_iload (i := 5) 5 rfl dX11_feed_31 ?_
        refine xj_sipush (v := 255) (by decide) dX11_feed_33 ?_
        refine xj_callS ks_X11_107 (c_X11_within l (d + 0) e 255 _) (As := [.int e, .int 255]) (st := []) rfl rfl (xRm_of (by omega) (by decide) (by omega) (by omega)) (Nat.le_of_ble_eq_true rfl) dX11_feed_36 (yk_p (kc := 0) (ks := 0) ?_)
        refine xj_if_eq (tgt := 57) (by decide) dX11_feed_39 (fun zc39 => ?_) (fun zc39 => ?_)
        · have zp39 : ¬ (0 ≤ e ∧ e ≤ 255) := bI_0.mp zc39
          refine xj_iconst (v := 0) (by decide) dX11_feed_57 ?_
          refine xj_istore (i := 7) (lv1 := [(7, .int 0), (0, .ref 0), (1, .int n1), (2, .int a), (3, .int b), (4, .int c), (5, .int e), (6, .int f)]) rfl (Nat.le_of_ble_eq_true rfl) dX11_feed_58 ?_
          refine xj_iload_n (n := 1) (i := 1) 2 rfl rfl dX11_feed_60 ?_
          refine xj_iconst (v := 1) (by decide) dX11_feed_61 ?_
          refine xj_icmp_lt (tgt := 75) (by decide) dX11_feed_62 (fun zc62 => ?_) (fun zc62 => ?_)
          · refine xj_bipush (v := (-2)) (by decide) dX11_feed_75 ?_
            have er : rFeed A n1 a b c e f = ((-2), A) := by unfold rFeed; rw [if_pos zp7, if_pos zp17, if_pos zp28, if_neg zp39]; all_goals (rfl)
            exact xj_ireturn rfl (nr_i _) (Nat.zero_le _) (Nat.zero_le _) dX11_feed_77 (qI_e (by rw [er]; exact ⟨rfl, C, fr.rf⟩))
          · refine xj_iload_n (n := 1) (i := 1) 2 rfl rfl dX11_feed_65 ?_
            refine xj_iconst (v := 5) (by decide) dX11_feed_66 ?_
            refine xj_icmp_gt (tgt := 75) (by decide) dX11_feed_67 (fun zc67 => ?_) (fun zc67 => ?_)
            · refine xj_bipush (v := (-2)) (by decide) dX11_feed_75 ?_
              have er : rFeed A n1 a b c e f = ((-2), A) := by unfold rFeed; rw [if_pos zp7, if_pos zp17, if_pos zp28, if_neg zp39]; all_goals (rfl)
              exact xj_ireturn rfl (nr_i _) (Nat.zero_le _) (Nat.zero_le _) dX11_feed_77 (qI_e (by rw [er]; exact ⟨rfl, C, fr.rf⟩))
            · refine xj_iload (i := 7) 0 rfl dX11_feed_70 ?_
              refine xj_if_ne (tgt := 78) (by decide) dX11_feed_72 (fun zc72 => ?_) (fun zc72 => ?_)
              · exact absurd zc72 (fun z => z rfl)
              · refine xj_bipush (v := (-2)) (by decide) dX11_feed_75 ?_
                have er : rFeed A n1 a b c e f = ((-2), A) := by unfold rFeed; rw [if_pos zp7, if_pos zp17, if_pos zp28, if_neg zp39]; all_goals (rfl)
                exact xj_ireturn rfl (nr_i _) (Nat.zero_le _) (Nat.zero_le _) dX11_feed_77 (qI_e (by rw [er]; exact ⟨rfl, C, fr.rf⟩))
        · have zp39 : 0 ≤ e ∧ e ≤ 255 := bI_n0.mp zc39
          refine xj_iload (i := 6) 6 rfl dX11_feed_42 ?_
          refine xj_sipush (v := 255) (by decide) dX11_feed_44 ?_
          refine xj_callS ks_X11_107 (c_X11_within l (d + 0) f 255 _) (As := [.int f, .int 255]) (st := []) rfl rfl (xRm_of (by omega) (by decide) (by omega) (by omega)) (Nat.le_of_ble_eq_true rfl) dX11_feed_47 (yk_p (kc := 0) (ks := 0) ?_)
          refine xj_if_eq (tgt := 57) (by decide) dX11_feed_50 (fun zc50 => ?_) (fun zc50 => ?_)
          · have zp50 : ¬ (0 ≤ f ∧ f ≤ 255) := bI_0.mp zc50
            refine xj_iconst (v := 0) (by decide) dX11_feed_57 ?_
            refine xj_istore (i := 7) (lv1 := [(7, .int 0), (0, .ref 0), (1, .int n1), (2, .int a), (3, .int b), (4, .int c), (5, .int e), (6, .int f)]) rfl (Nat.le_of_ble_eq_true rfl) dX11_feed_58 ?_
            refine xj_iload_n (n := 1) (i := 1) 2 rfl rfl dX11_feed_60 ?_
            refine xj_iconst (v := 1) (by decide) dX11_feed_61 ?_
            refine xj_icmp_lt (tgt := 75) (by decide) dX11_feed_62 (fun zc62 => ?_) (fun zc62 => ?_)
            · refine xj_bipush (v := (-2)) (by decide) dX11_feed_75 ?_
              have er : rFeed A n1 a b c e f = ((-2), A) := by unfold rFeed; rw [if_pos zp7, if_pos zp17, if_pos zp28, if_pos zp39, if_neg zp50]; all_goals (rfl)
              exact xj_ireturn rfl (nr_i _) (Nat.zero_le _) (Nat.zero_le _) dX11_feed_77 (qI_e (by rw [er]; exact ⟨rfl, C, fr.rf⟩))
            · refine xj_iload_n (n := 1) (i := 1) 2 rfl rfl dX11_feed_65 ?_
              refine xj_iconst (v := 5) (by decide) dX11_feed_66 ?_
              refine xj_icmp_gt (tgt := 75) (by decide) dX11_feed_67 (fun zc67 => ?_) (fun zc67 => ?_)
              · refine xj_bipush (v := (-2)) (by decide) dX11_feed_75 ?_
                have er : rFeed A n1 a b c e f = ((-2), A) := by unfold rFeed; rw [if_pos zp7, if_pos zp17, if_pos zp28, if_pos zp39, if_neg zp50]; all_goals (rfl)
                exact xj_ireturn rfl (nr_i _) (Nat.zero_le _) (Nat.zero_le _) dX11_feed_77 (qI_e (by rw [er]; exact ⟨rfl, C, fr.rf⟩))
              · refine xj_iload (i := 7) 0 rfl dX11_feed_70 ?_
                refine xj_if_ne (tgt := 78) (by decide) dX11_feed_72 (fun zc72 => ?_) (fun zc72 => ?_)
                · exact absurd zc72 (fun z => z rfl)
                · refine xj_bipush (v := (-2)) (by decide) dX11_feed_75 ?_
                  have er : rFeed A n1 a b c e f = ((-2), A) := by unfold rFeed; rw [if_pos zp7, if_pos zp17, if_pos zp28, if_pos zp39, if_neg zp50]; all_goals (rfl)
                  exact xj_ireturn rfl (nr_i _) (Nat.zero_le _) (Nat.zero_le _) dX11_feed_77 (qI_e (by rw [er]; exact ⟨rfl, C, fr.rf⟩))
          · have zp50 : 0 ≤ f ∧ f ≤ 255 := bI_n0.mp zc50
            refine xj_iconst (v := 1) (by decide) dX11_feed_53 ?_
            refine xj_goto (tgt := 58) (by decide) dX11_feed_54 ?_
            refine xj_istore (i := 7) (lv1 := [(7, .int 1), (0, .ref 0), (1, .int n1), (2, .int a), (3, .int b), (4, .int c), (5, .int e), (6, .int f)]) rfl (Nat.le_of_ble_eq_true rfl) dX11_feed_58 ?_
            refine xj_iload_n (n := 1) (i := 1) 2 rfl rfl dX11_feed_60 ?_
            refine xj_iconst (v := 1) (by decide) dX11_feed_61 ?_
            refine xj_icmp_lt (tgt := 75) (by decide) dX11_feed_62 (fun zc62 => ?_) (fun zc62 => ?_)
            · refine xj_bipush (v := (-2)) (by decide) dX11_feed_75 ?_
              have er : rFeed A n1 a b c e f = ((-2), A) := by unfold rFeed; rw [if_pos zp7, if_pos zp17, if_pos zp28, if_pos zp39, if_pos zp50, if_pos zc62]; all_goals (rfl)
              exact xj_ireturn rfl (nr_i _) (Nat.zero_le _) (Nat.zero_le _) dX11_feed_77 (qI_e (by rw [er]; exact ⟨rfl, C, fr.rf⟩))
            · refine xj_iload_n (n := 1) (i := 1) 2 rfl rfl dX11_feed_65 ?_
              refine xj_iconst (v := 5) (by decide) dX11_feed_66 ?_
              refine xj_icmp_gt (tgt := 75) (by decide) dX11_feed_67 (fun zc67 => ?_) (fun zc67 => ?_)
              · refine xj_bipush (v := (-2)) (by decide) dX11_feed_75 ?_
                have er : rFeed A n1 a b c e f = ((-2), A) := by unfold rFeed; rw [if_pos zp7, if_pos zp17, if_pos zp28, if_pos zp39, if_pos zp50, if_neg zc62, if_pos zc67]; all_goals (rfl)
                exact xj_ireturn rfl (nr_i _) (Nat.zero_le _) (Nat.zero_le _) dX11_feed_77 (qI_e (by rw [er]; exact ⟨rfl, C, fr.rf⟩))
              · refine xj_iload (i := 7) 0 rfl dX11_feed_70 ?_
                refine xj_if_ne (tgt := 78) (by decide) dX11_feed_72 (fun zc72 => ?_) (fun zc72 => ?_)
                · rcases feed_n zc62 zc67 with rfl | rfl | rfl | rfl | rfl
                  · refine xj_aload_n (n := 0) (i := 0) 1 rfl rfl dX11_feed_78 ?_
                    refine yj_getf (v := .ref 67) fl_X11_62_11 (by omega) (fq_0 g) rfl dX11_feed_79 ?_
                    refine yj_getf (v := .int (nI (aZ A))) fl_X11_104_9 (by omega) (fq_67 g) (congrArg (fun z => some (Value.int z)) (C.Z O)) dX11_feed_82 ?_
                    refine xj_iload_n (n := 1) (i := 1) 2 rfl rfl dX11_feed_85 ?_
                    refine xj_iadd dX11_feed_86 ?_
                    refine xj_top (nI_add _ _) ?_
                    refine xj_sipush (v := 160) (by decide) dX11_feed_87 ?_
                    refine xj_icmp_le (tgt := 96) (by decide) dX11_feed_90 (fun zc90 => ?_) (fun zc90 => ?_)
                    · have hz9 : aZ A + 1 ≤ 160 := (nI_leI (b := 160) (by have := O.2.2.2.2.2.1.2; omega) (by decide)).mp zc90
                      have hZ0 : aZ A = aZ A + 0 := rfl
                      refine xj_aload_n (n := 0) (i := 0) 1 rfl rfl dX11_feed_96 ?_
                      refine yj_getf (v := .ref 67) fl_X11_62_11 (by omega) (fq_0 g) rfl dX11_feed_97 ?_
                      refine xj_iload_n (n := 2) (i := 2) 3 rfl rfl dX11_feed_100 ?_
                      refine xj_callV kv_X11_111 (c_X9_add l (d + 0) n g A Λ O C a (by omega)) (As := [.int a]) (st := []) (by omega) (fq_67 g) (ci := 9) rfl rfl rfl rfl (xRm_of (by omega) (by decide) (by omega) (by omega)) (Nat.le_of_ble_eq_true rfl) dX11_feed_101 (yk_v (kc := 0) (ks := 0) fun zg1 hzg1 => ?_)
                      obtain ⟨Czg1, hFzg1⟩ := hzg1
                      have hZ1 := stTp_Z2 O hZ0 a
                      have Ozg1 := okA.tap O a (by omega)
                      refine xj_iload_n (n := 1) (i := 1) 2 rfl rfl dX11_feed_104 ?_
                      refine xj_iconst (v := 1) (by decide) dX11_feed_105 ?_
                      refine xj_icmp_le (tgt := 117) (by decide) dX11_feed_106 (fun zc106 => ?_) (fun zc106 => ?_)
                      · refine xj_iload_n (n := 1) (i := 1) 2 rfl rfl dX11_feed_117 ?_
                        refine xj_iconst (v := 2) (by decide) dX11_feed_118 ?_
                        refine xj_icmp_le (tgt := 131) (by decide) dX11_feed_119 (fun zc119 => ?_) (fun zc119 => ?_)
                        · refine xj_iload_n (n := 1) (i := 1) 2 rfl rfl dX11_feed_131 ?_
                          refine xj_iconst (v := 3) (by decide) dX11_feed_132 ?_
                          refine xj_icmp_le (tgt := 145) (by decide) dX11_feed_133 (fun zc133 => ?_) (fun zc133 => ?_)
                          · refine xj_iload_n (n := 1) (i := 1) 2 rfl rfl dX11_feed_145 ?_
                            refine xj_iconst (v := 4) (by decide) dX11_feed_146 ?_
                            refine xj_icmp_le (tgt := 159) (by decide) dX11_feed_147 (fun zc147 => ?_) (fun zc147 => ?_)
                            · refine xj_aload_n (n := 0) (i := 0) 1 rfl rfl dX11_feed_159 ?_
                              refine yj_getf (v := .ref 67) fl_X11_62_11 (by omega) (fq_0 zg1) rfl dX11_feed_160 ?_
                              refine yj_getf (v := .int (nI (aZ (stTp A a)))) fl_X11_104_9 (by omega) (fq_67 zg1) (congrArg (fun z => some (Value.int z)) (Czg1.Z Ozg1)) dX11_feed_163 ?_
                              have er : rFeed A (nI 1) a b c e f = ((nI (aZ (stTp A a))), (stTp A a)) := by unfold rFeed; (try simp only [nI_clamp (show 1 < 2147483648 by omega)]); rw [if_pos zp7, if_pos zp17, if_pos zp28, if_pos zp39, if_pos zp50, if_neg zc62, if_neg zc67, if_pos zc90]; all_goals ((first | rfl | (rw [nI_clamp (by decide)]; rfl)))
                              exact xj_ireturn rfl (nr_i _) (Nat.zero_le _) (Nat.zero_le _) dX11_feed_166 (qI_e (by rw [er]; exact ⟨rfl, Czg1, hFzg1⟩))
                            · exact absurd (by decide) zc147
                          · exact absurd (by decide) zc133
                        · exact absurd (by decide) zc119
                      · exact absurd (by decide) zc106
                    · refine xj_bipush (v := (-4)) (by decide) dX11_feed_93 ?_
                      have er : rFeed A (nI 1) a b c e f = ((-4), A) := by unfold rFeed; (try simp only [nI_clamp (show 1 < 2147483648 by omega)]); rw [if_pos zp7, if_pos zp17, if_pos zp28, if_pos zp39, if_pos zp50, if_neg zc62, if_neg zc67, if_neg zc90]; all_goals (rfl)
                      exact xj_ireturn rfl (nr_i _) (Nat.zero_le _) (Nat.zero_le _) dX11_feed_95 (qI_e (by rw [er]; exact ⟨rfl, C, fr.rf⟩))
                  · refine xj_aload_n (n := 0) (i := 0) 1 rfl rfl dX11_feed_78 ?_
                    refine yj_getf (v := .ref 67) fl_X11_62_11 (by omega) (fq_0 g) rfl dX11_feed_79 ?_
                    refine yj_getf (v := .int (nI (aZ A))) fl_X11_104_9 (by omega) (fq_67 g) (congrArg (fun z => some (Value.int z)) (C.Z O)) dX11_feed_82 ?_
                    refine xj_iload_n (n := 1) (i := 1) 2 rfl rfl dX11_feed_85 ?_
                    refine xj_iadd dX11_feed_86 ?_
                    refine xj_top (nI_add _ _) ?_
                    refine xj_sipush (v := 160) (by decide) dX11_feed_87 ?_
                    refine xj_icmp_le (tgt := 96) (by decide) dX11_feed_90 (fun zc90 => ?_) (fun zc90 => ?_)
                    · have hz9 : aZ A + 2 ≤ 160 := (nI_leI (b := 160) (by have := O.2.2.2.2.2.1.2; omega) (by decide)).mp zc90
                      have hZ0 : aZ A = aZ A + 0 := rfl
                      refine xj_aload_n (n := 0) (i := 0) 1 rfl rfl dX11_feed_96 ?_
                      refine yj_getf (v := .ref 67) fl_X11_62_11 (by omega) (fq_0 g) rfl dX11_feed_97 ?_
                      refine xj_iload_n (n := 2) (i := 2) 3 rfl rfl dX11_feed_100 ?_
                      refine xj_callV kv_X11_111 (c_X9_add l (d + 0) n g A Λ O C a (by omega)) (As := [.int a]) (st := []) (by omega) (fq_67 g) (ci := 9) rfl rfl rfl rfl (xRm_of (by omega) (by decide) (by omega) (by omega)) (Nat.le_of_ble_eq_true rfl) dX11_feed_101 (yk_v (kc := 0) (ks := 0) fun zg2 hzg2 => ?_)
                      obtain ⟨Czg2, hFzg2⟩ := hzg2
                      have hZ1 := stTp_Z2 O hZ0 a
                      have Ozg2 := okA.tap O a (by omega)
                      refine xj_iload_n (n := 1) (i := 1) 2 rfl rfl dX11_feed_104 ?_
                      refine xj_iconst (v := 1) (by decide) dX11_feed_105 ?_
                      refine xj_icmp_le (tgt := 117) (by decide) dX11_feed_106 (fun zc106 => ?_) (fun zc106 => ?_)
                      · exact absurd zc106 (by decide)
                      · refine xj_aload_n (n := 0) (i := 0) 1 rfl rfl dX11_feed_109 ?_
                        refine yj_getf (v := .ref 67) fl_X11_62_11 (by omega) (fq_0 zg2) rfl dX11_feed_110 ?_
                        refine xj_iload_n (n := 3) (i := 3) 4 rfl rfl dX11_feed_113 ?_
                        refine xj_callV kv_X11_111 (c_X9_add l (d + 0) n zg2 (stTp A a) Λ Ozg2 Czg2 b (by omega)) (As := [.int b]) (st := []) (by omega) (fq_67 zg2) (ci := 9) rfl rfl rfl rfl (xRm_of (by omega) (by decide) (by omega) (by omega)) (Nat.le_of_ble_eq_true rfl) dX11_feed_114 (yk_v (kc := 0) (ks := 0) fun zg3 hzg3 => ?_)
                        obtain ⟨Czg3, hFzg3⟩ := hzg3
                        have hZ2 := stTp_Z2 Ozg2 hZ1 b
                        have Ozg3 := okA.tap Ozg2 b (by omega)
                        refine xj_iload_n (n := 1) (i := 1) 2 rfl rfl dX11_feed_117 ?_
                        refine xj_iconst (v := 2) (by decide) dX11_feed_118 ?_
                        refine xj_icmp_le (tgt := 131) (by decide) dX11_feed_119 (fun zc119 => ?_) (fun zc119 => ?_)
                        · refine xj_iload_n (n := 1) (i := 1) 2 rfl rfl dX11_feed_131 ?_
                          refine xj_iconst (v := 3) (by decide) dX11_feed_132 ?_
                          refine xj_icmp_le (tgt := 145) (by decide) dX11_feed_133 (fun zc133 => ?_) (fun zc133 => ?_)
                          · refine xj_iload_n (n := 1) (i := 1) 2 rfl rfl dX11_feed_145 ?_
                            refine xj_iconst (v := 4) (by decide) dX11_feed_146 ?_
                            refine xj_icmp_le (tgt := 159) (by decide) dX11_feed_147 (fun zc147 => ?_) (fun zc147 => ?_)
                            · refine xj_aload_n (n := 0) (i := 0) 1 rfl rfl dX11_feed_159 ?_
                              refine yj_getf (v := .ref 67) fl_X11_62_11 (by omega) (fq_0 zg3) rfl dX11_feed_160 ?_
                              refine yj_getf (v := .int (nI (aZ (stTp (stTp A a) b)))) fl_X11_104_9 (by omega) (fq_67 zg3) (congrArg (fun z => some (Value.int z)) (Czg3.Z Ozg3)) dX11_feed_163 ?_
                              have er : rFeed A (nI 2) a b c e f = ((nI (aZ (stTp (stTp A a) b))), (stTp (stTp A a) b)) := by unfold rFeed; (try simp only [nI_clamp (show 2 < 2147483648 by omega)]); rw [if_pos zp7, if_pos zp17, if_pos zp28, if_pos zp39, if_pos zp50, if_neg zc62, if_neg zc67, if_pos zc90]; all_goals ((first | rfl | (rw [nI_clamp (by decide)]; rfl)))
                              exact xj_ireturn rfl (nr_i _) (Nat.zero_le _) (Nat.zero_le _) dX11_feed_166 (qI_e (by rw [er]; exact ⟨rfl, Czg3, (hFzg2.tr hFzg3)⟩))
                            · exact absurd (by decide) zc147
                          · exact absurd (by decide) zc133
                        · exact absurd (by decide) zc119
                    · refine xj_bipush (v := (-4)) (by decide) dX11_feed_93 ?_
                      have er : rFeed A (nI 2) a b c e f = ((-4), A) := by unfold rFeed; (try simp only [nI_clamp (show 2 < 2147483648 by omega)]); rw [if_pos zp7, if_pos zp17, if_pos zp28, if_pos zp39, if_pos zp50, if_neg zc62, if_neg zc67, if_neg zc90]; all_goals (rfl)
                      exact xj_ireturn rfl (nr_i _) (Nat.zero_le _) (Nat.zero_le _) dX11_feed_95 (qI_e (by rw [er]; exact ⟨rfl, C, fr.rf⟩))
                  · refine xj_aload_n (n := 0) (i := 0) 1 rfl rfl dX11_feed_78 ?_
                    refine yj_getf (v := .ref 67) fl_X11_62_11 (by omega) (fq_0 g) rfl dX11_feed_79 ?_
                    refine yj_getf (v := .int (nI (aZ A))) fl_X11_104_9 (by omega) (fq_67 g) (congrArg (fun z => some (Value.int z)) (C.Z O)) dX11_feed_82 ?_
                    refine xj_iload_n (n := 1) (i := 1) 2 rfl rfl dX11_feed_85 ?_
                    refine xj_iadd dX11_feed_86 ?_
                    refine xj_top (nI_add _ _) ?_
                    refine xj_sipush (v := 160) (by decide) dX11_feed_87 ?_
                    refine xj_icmp_le (tgt := 96) (by decide) dX11_feed_90 (fun zc90 => ?_) (fun zc90 => ?_)
                    · have hz9 : aZ A + 3 ≤ 160 := (nI_leI (b := 160) (by have := O.2.2.2.2.2.1.2; omega) (by decide)).mp zc90
                      have hZ0 : aZ A = aZ A + 0 := rfl
                      refine xj_aload_n (n := 0) (i := 0) 1 rfl rfl dX11_feed_96 ?_
                      refine yj_getf (v := .ref 67) fl_X11_62_11 (by omega) (fq_0 g) rfl dX11_feed_97 ?_
                      refine xj_iload_n (n := 2) (i := 2) 3 rfl rfl dX11_feed_100 ?_
                      refine xj_callV kv_X11_111 (c_X9_add l (d + 0) n g A Λ O C a (by omega)) (As := [.int a]) (st := []) (by omega) (fq_67 g) (ci := 9) rfl rfl rfl rfl (xRm_of (by omega) (by decide) (by omega) (by omega)) (Nat.le_of_ble_eq_true rfl) dX11_feed_101 (yk_v (kc := 0) (ks := 0) fun zg4 hzg4 => ?_)
                      obtain ⟨Czg4, hFzg4⟩ := hzg4
                      have hZ1 := stTp_Z2 O hZ0 a
                      have Ozg4 := okA.tap O a (by omega)
                      refine xj_iload_n (n := 1) (i := 1) 2 rfl rfl dX11_feed_104 ?_
                      refine xj_iconst (v := 1) (by decide) dX11_feed_105 ?_
                      refine xj_icmp_le (tgt := 117) (by decide) dX11_feed_106 (fun zc106 => ?_) (fun zc106 => ?_)
                      · exact absurd zc106 (by decide)
                      · refine xj_aload_n (n := 0) (i := 0) 1 rfl rfl dX11_feed_109 ?_
                        refine yj_getf (v := .ref 67) fl_X11_62_11 (by omega) (fq_0 zg4) rfl dX11_feed_110 ?_
                        refine xj_iload_n (n := 3) (i := 3) 4 rfl rfl dX11_feed_113 ?_
                        refine xj_callV kv_X11_111 (c_X9_add l (d + 0) n zg4 (stTp A a) Λ Ozg4 Czg4 b (by omega)) (As := [.int b]) (st := []) (by omega) (fq_67 zg4) (ci := 9) rfl rfl rfl rfl (xRm_of (by omega) (by decide) (by omega) (by omega)) (Nat.le_of_ble_eq_true rfl) dX11_feed_114 (yk_v (kc := 0) (ks := 0) fun zg5 hzg5 => ?_)
                        obtain ⟨Czg5, hFzg5⟩ := hzg5
                        have hZ2 := stTp_Z2 Ozg4 hZ1 b
                        have Ozg5 := okA.tap Ozg4 b (by omega)
                        refine xj_iload_n (n := 1) (i := 1) 2 rfl rfl dX11_feed_117 ?_
                        refine xj_iconst (v := 2) (by decide) dX11_feed_118 ?_
                        refine xj_icmp_le (tgt := 131) (by decide) dX11_feed_119 (fun zc119 => ?_) (fun zc119 => ?_)
                        · exact absurd zc119 (by decide)
                        · refine xj_aload_n (n := 0) (i := 0) 1 rfl rfl dX11_feed_122 ?_
                          refine yj_getf (v := .ref 67) fl_X11_62_11 (by omega) (fq_0 zg5) rfl dX11_feed_123 ?_
                          refine xj_iload (i := 4) 5 rfl dX11_feed_126 ?_
                          refine xj_callV kv_X11_111 (c_X9_add l (d + 0) n zg5 (stTp (stTp A a) b) Λ Ozg5 Czg5 c (by omega)) (As := [.int c]) (st := []) (by omega) (fq_67 zg5) (ci := 9) rfl rfl rfl rfl (xRm_of (by omega) (by decide) (by omega) (by omega)) (Nat.le_of_ble_eq_true rfl) dX11_feed_128 (yk_v (kc := 0) (ks := 0) fun zg6 hzg6 => ?_)
                          obtain ⟨Czg6, hFzg6⟩ := hzg6
                          have hZ3 := stTp_Z2 Ozg5 hZ2 c
                          have Ozg6 := okA.tap Ozg5 c (by omega)
                          refine xj_iload_n (n := 1) (i := 1) 2 rfl rfl dX11_feed_131 ?_
                          refine xj_iconst (v := 3) (by decide) dX11_feed_132 ?_
                          refine xj_icmp_le (tgt := 145) (by decide) dX11_feed_133 (fun zc133 => ?_) (fun zc133 => ?_)
                          · refine xj_iload_n (n := 1) (i := 1) 2 rfl rfl dX11_feed_145 ?_
                            refine xj_iconst (v := 4) (by decide) dX11_feed_146 ?_
                            refine xj_icmp_le (tgt := 159) (by decide) dX11_feed_147 (fun zc147 => ?_) (fun zc147 => ?_)
                            · refine xj_aload_n (n := 0) (i := 0) 1 rfl rfl dX11_feed_159 ?_
                              refine yj_getf (v := .ref 67) fl_X11_62_11 (by omega) (fq_0 zg6) rfl dX11_feed_160 ?_
                              refine yj_getf (v := .int (nI (aZ (stTp (stTp (stTp A a) b) c)))) fl_X11_104_9 (by omega) (fq_67 zg6) (congrArg (fun z => some (Value.int z)) (Czg6.Z Ozg6)) dX11_feed_163 ?_
                              have er : rFeed A (nI 3) a b c e f = ((nI (aZ (stTp (stTp (stTp A a) b) c))), (stTp (stTp (stTp A a) b) c)) := by unfold rFeed; (try simp only [nI_clamp (show 3 < 2147483648 by omega)]); rw [if_pos zp7, if_pos zp17, if_pos zp28, if_pos zp39, if_pos zp50, if_neg zc62, if_neg zc67, if_pos zc90]; all_goals ((first | rfl | (rw [nI_clamp (by decide)]; rfl)))
                              exact xj_ireturn rfl (nr_i _) (Nat.zero_le _) (Nat.zero_le _) dX11_feed_166 (qI_e (by rw [er]; exact ⟨rfl, Czg6, ((hFzg4.tr hFzg5).tr hFzg6)⟩))
                            · exact absurd (by decide) zc147
                          · exact absurd (by decide) zc133
                    · refine xj_bipush (v := (-4)) (by decide) dX11_feed_93 ?_
                      have er : rFeed A (nI 3) a b c e f = ((-4), A) := by unfold rFeed; (try simp only [nI_clamp (show 3 < 2147483648 by omega)]); rw [if_pos zp7, if_pos zp17, if_pos zp28, if_pos zp39, if_pos zp50, if_neg zc62, if_neg zc67, if_neg zc90]; all_goals (rfl)
                      exact xj_ireturn rfl (nr_i _) (Nat.zero_le _) (Nat.zero_le _) dX11_feed_95 (qI_e (by rw [er]; exact ⟨rfl, C, fr.rf⟩))
                  · refine xj_aload_n (n := 0) (i := 0) 1 rfl rfl dX11_feed_78 ?_
                    refine yj_getf (v := .ref 67) fl_X11_62_11 (by omega) (fq_0 g) rfl dX11_feed_79 ?_
                    refine yj_getf (v := .int (nI (aZ A))) fl_X11_104_9 (by omega) (fq_67 g) (congrArg (fun z => some (Value.int z)) (C.Z O)) dX11_feed_82 ?_
                    refine xj_iload_n (n := 1) (i := 1) 2 rfl rfl dX11_feed_85 ?_
                    refine xj_iadd dX11_feed_86 ?_
                    refine xj_top (nI_add _ _) ?_
                    refine xj_sipush (v := 160) (by decide) dX11_feed_87 ?_
                    refine xj_icmp_le (tgt := 96) (by decide) dX11_feed_90 (fun zc90 => ?_) (fun zc90 => ?_)
                    · have hz9 : aZ A + 4 ≤ 160 := (nI_leI (b := 160) (by have := O.2.2.2.2.2.1.2; omega) (by decide)).mp zc90
                      have hZ0 : aZ A = aZ A + 0 := rfl
                      refine xj_aload_n (n := 0) (i := 0) 1 rfl rfl dX11_feed_96 ?_
                      refine yj_getf (v := .ref 67) fl_X11_62_11 (by omega) (fq_0 g) rfl dX11_feed_97 ?_
                      refine xj_iload_n (n := 2) (i := 2) 3 rfl rfl dX11_feed_100 ?_
                      refine xj_callV kv_X11_111 (c_X9_add l (d + 0) n g A Λ O C a (by omega)) (As := [.int a]) (st := []) (by omega) (fq_67 g) (ci := 9) rfl rfl rfl rfl (xRm_of (by omega) (by decide) (by omega) (by omega)) (Nat.le_of_ble_eq_true rfl) dX11_feed_101 (yk_v (kc := 0) (ks := 0) fun zg7 hzg7 => ?_)
                      obtain ⟨Czg7, hFzg7⟩ := hzg7
                      have hZ1 := stTp_Z2 O hZ0 a
                      have Ozg7 := okA.tap O a (by omega)
                      refine xj_iload_n (n := 1) (i := 1) 2 rfl rfl dX11_feed_104 ?_
                      refine xj_iconst (v := 1) (by decide) dX11_feed_105 ?_
                      refine xj_icmp_le (tgt := 117) (by decide) dX11_feed_106 (fun zc106 => ?_) (fun zc106 => ?_)
                      · exact absurd zc106 (by decide)
                      · refine xj_aload_n (n := 0) (i := 0) 1 rfl rfl dX11_feed_109 ?_
                        refine yj_getf (v := .ref 67) fl_X11_62_11 (by omega) (fq_0 zg7) rfl dX11_feed_110 ?_
                        refine xj_iload_n (n := 3) (i := 3) 4 rfl rfl dX11_feed_113 ?_
                        refine xj_callV kv_X11_111 (c_X9_add l (d + 0) n zg7 (stTp A a) Λ Ozg7 Czg7 b (by omega)) (As := [.int b]) (st := []) (by omega) (fq_67 zg7) (ci := 9) rfl rfl rfl rfl (xRm_of (by omega) (by decide) (by omega) (by omega)) (Nat.le_of_ble_eq_true rfl) dX11_feed_114 (yk_v (kc := 0) (ks := 0) fun zg8 hzg8 => ?_)
                        obtain ⟨Czg8, hFzg8⟩ := hzg8
                        have hZ2 := stTp_Z2 Ozg7 hZ1 b
                        have Ozg8 := okA.tap Ozg7 b (by omega)
                        refine xj_iload_n (n := 1) (i := 1) 2 rfl rfl dX11_feed_117 ?_
                        refine xj_iconst (v := 2) (by decide) dX11_feed_118 ?_
                        refine xj_icmp_le (tgt := 131) (by decide) dX11_feed_119 (fun zc119 => ?_) (fun zc119 => ?_)
                        · exact absurd zc119 (by decide)
                        · refine xj_aload_n (n := 0) (i := 0) 1 rfl rfl dX11_feed_122 ?_
                          refine yj_getf (v := .ref 67) fl_X11_62_11 (by omega) (fq_0 zg8) rfl dX11_feed_123 ?_
                          refine xj_iload (i := 4) 5 rfl dX11_feed_126 ?_
                          refine xj_callV kv_X11_111 (c_X9_add l (d + 0) n zg8 (stTp (stTp A a) b) Λ Ozg8 Czg8 c (by omega)) (As := [.int c]) (st := []) (by omega) (fq_67 zg8) (ci := 9) rfl rfl rfl rfl (xRm_of (by omega) (by decide) (by omega) (by omega)) (Nat.le_of_ble_eq_true rfl) dX11_feed_128 (yk_v (kc := 0) (ks := 0) fun zg9 hzg9 => ?_)
                          obtain ⟨Czg9, hFzg9⟩ := hzg9
                          have hZ3 := stTp_Z2 Ozg8 hZ2 c
                          have Ozg9 := okA.tap Ozg8 c (by omega)
                          refine xj_iload_n (n := 1) (i := 1) 2 rfl rfl dX11_feed_131 ?_
                          refine xj_iconst (v := 3) (by decide) dX11_feed_132 ?_
                          refine xj_icmp_le (tgt := 145) (by decide) dX11_feed_133 (fun zc133 => ?_) (fun zc133 => ?_)
                          · exact absurd zc133 (by decide)
                          · refine xj_aload_n (n := 0) (i := 0) 1 rfl rfl dX11_feed_136 ?_
                            refine yj_getf (v := .ref 67) fl_X11_62_11 (by omega) (fq_0 zg9) rfl dX11_feed_137 ?_
                            refine xj_iload (i := 5) 6 rfl dX11_feed_140 ?_
                            refine xj_callV kv_X11_111 (c_X9_add l (d + 0) n zg9 (stTp (stTp (stTp A a) b) c) Λ Ozg9 Czg9 e (by omega)) (As := [.int e]) (st := []) (by omega) (fq_67 zg9) (ci := 9) rfl rfl rfl rfl (xRm_of (by omega) (by decide) (by omega) (by omega)) (Nat.le_of_ble_eq_true rfl) dX11_feed_142 (yk_v (kc := 0) (ks := 0) fun zg10 hzg10 => ?_)
                            obtain ⟨Czg10, hFzg10⟩ := hzg10
                            have hZ4 := stTp_Z2 Ozg9 hZ3 e
                            have Ozg10 := okA.tap Ozg9 e (by omega)
                            refine xj_iload_n (n := 1) (i := 1) 2 rfl rfl dX11_feed_145 ?_
                            refine xj_iconst (v := 4) (by decide) dX11_feed_146 ?_
                            refine xj_icmp_le (tgt := 159) (by decide) dX11_feed_147 (fun zc147 => ?_) (fun zc147 => ?_)
                            · refine xj_aload_n (n := 0) (i := 0) 1 rfl rfl dX11_feed_159 ?_
                              refine yj_getf (v := .ref 67) fl_X11_62_11 (by omega) (fq_0 zg10) rfl dX11_feed_160 ?_
                              refine yj_getf (v := .int (nI (aZ (stTp (stTp (stTp (stTp A a) b) c) e)))) fl_X11_104_9 (by omega) (fq_67 zg10) (congrArg (fun z => some (Value.int z)) (Czg10.Z Ozg10)) dX11_feed_163 ?_
                              have er : rFeed A (nI 4) a b c e f = ((nI (aZ (stTp (stTp (stTp (stTp A a) b) c) e))), (stTp (stTp (stTp (stTp A a) b) c) e)) := by unfold rFeed; (try simp only [nI_clamp (show 4 < 2147483648 by omega)]); rw [if_pos zp7, if_pos zp17, if_pos zp28, if_pos zp39, if_pos zp50, if_neg zc62, if_neg zc67, if_pos zc90]; all_goals ((first | rfl | (rw [nI_clamp (by decide)]; rfl)))
                              exact xj_ireturn rfl (nr_i _) (Nat.zero_le _) (Nat.zero_le _) dX11_feed_166 (qI_e (by rw [er]; exact ⟨rfl, Czg10, (((hFzg7.tr hFzg8).tr hFzg9).tr hFzg10)⟩))
                            · exact absurd (by decide) zc147
                    · refine xj_bipush (v := (-4)) (by decide) dX11_feed_93 ?_
                      have er : rFeed A (nI 4) a b c e f = ((-4), A) := by unfold rFeed; (try simp only [nI_clamp (show 4 < 2147483648 by omega)]); rw [if_pos zp7, if_pos zp17, if_pos zp28, if_pos zp39, if_pos zp50, if_neg zc62, if_neg zc67, if_neg zc90]; all_goals (rfl)
                      exact xj_ireturn rfl (nr_i _) (Nat.zero_le _) (Nat.zero_le _) dX11_feed_95 (qI_e (by rw [er]; exact ⟨rfl, C, fr.rf⟩))
                  · refine xj_aload_n (n := 0) (i := 0) 1 rfl rfl dX11_feed_78 ?_
                    refine yj_getf (v := .ref 67) fl_X11_62_11 (by omega) (fq_0 g) rfl dX11_feed_79 ?_
                    refine yj_getf (v := .int (nI (aZ A))) fl_X11_104_9 (by omega) (fq_67 g) (congrArg (fun z => some (Value.int z)) (C.Z O)) dX11_feed_82 ?_
                    refine xj_iload_n (n := 1) (i := 1) 2 rfl rfl dX11_feed_85 ?_
                    refine xj_iadd dX11_feed_86 ?_
                    refine xj_top (nI_add _ _) ?_
                    refine xj_sipush (v := 160) (by decide) dX11_feed_87 ?_
                    refine xj_icmp_le (tgt := 96) (by decide) dX11_feed_90 (fun zc90 => ?_) (fun zc90 => ?_)
                    · have hz9 : aZ A + 5 ≤ 160 := (nI_leI (b := 160) (by have := O.2.2.2.2.2.1.2; omega) (by decide)).mp zc90
                      have hZ0 : aZ A = aZ A + 0 := rfl
                      refine xj_aload_n (n := 0) (i := 0) 1 rfl rfl dX11_feed_96 ?_
                      refine yj_getf (v := .ref 67) fl_X11_62_11 (by omega) (fq_0 g) rfl dX11_feed_97 ?_
                      refine xj_iload_n (n := 2) (i := 2) 3 rfl rfl dX11_feed_100 ?_
                      refine xj_callV kv_X11_111 (c_X9_add l (d + 0) n g A Λ O C a (by omega)) (As := [.int a]) (st := []) (by omega) (fq_67 g) (ci := 9) rfl rfl rfl rfl (xRm_of (by omega) (by decide) (by omega) (by omega)) (Nat.le_of_ble_eq_true rfl) dX11_feed_101 (yk_v (kc := 0) (ks := 0) fun zg11 hzg11 => ?_)
                      obtain ⟨Czg11, hFzg11⟩ := hzg11
                      have hZ1 := stTp_Z2 O hZ0 a
                      have Ozg11 := okA.tap O a (by omega)
                      refine xj_iload_n (n := 1) (i := 1) 2 rfl rfl dX11_feed_104 ?_
                      refine xj_iconst (v := 1) (by decide) dX11_feed_105 ?_
                      refine xj_icmp_le (tgt := 117) (by decide) dX11_feed_106 (fun zc106 => ?_) (fun zc106 => ?_)
                      · exact absurd zc106 (by decide)
                      · refine xj_aload_n (n := 0) (i := 0) 1 rfl rfl dX11_feed_109 ?_
                        refine yj_getf (v := .ref 67) fl_X11_62_11 (by omega) (fq_0 zg11) rfl dX11_feed_110 ?_
                        refine xj_iload_n (n := 3) (i := 3) 4 rfl rfl dX11_feed_113 ?_
                        refine xj_callV kv_X11_111 (c_X9_add l (d + 0) n zg11 (stTp A a) Λ Ozg11 Czg11 b (by omega)) (As := [.int b]) (st := []) (by omega) (fq_67 zg11) (ci := 9) rfl rfl rfl rfl (xRm_of (by omega) (by decide) (by omega) (by omega)) (Nat.le_of_ble_eq_true rfl) dX11_feed_114 (yk_v (kc := 0) (ks := 0) fun zg12 hzg12 => ?_)
                        obtain ⟨Czg12, hFzg12⟩ := hzg12
                        have hZ2 := stTp_Z2 Ozg11 hZ1 b
                        have Ozg12 := okA.tap Ozg11 b (by omega)
                        refine xj_iload_n (n := 1) (i := 1) 2 rfl rfl dX11_feed_117 ?_
                        refine xj_iconst (v := 2) (by decide) dX11_feed_118 ?_
                        refine xj_icmp_le (tgt := 131) (by decide) dX11_feed_119 (fun zc119 => ?_) (fun zc119 => ?_)
                        · exact absurd zc119 (by decide)
                        · refine xj_aload_n (n := 0) (i := 0) 1 rfl rfl dX11_feed_122 ?_
                          refine yj_getf (v := .ref 67) fl_X11_62_11 (by omega) (fq_0 zg12) rfl dX11_feed_123 ?_
                          refine xj_iload (i := 4) 5 rfl dX11_feed_126 ?_
                          refine xj_callV kv_X11_111 (c_X9_add l (d + 0) n zg12 (stTp (stTp A a) b) Λ Ozg12 Czg12 c (by omega)) (As := [.int c]) (st := []) (by omega) (fq_67 zg12) (ci := 9) rfl rfl rfl rfl (xRm_of (by omega) (by decide) (by omega) (by omega)) (Nat.le_of_ble_eq_true rfl) dX11_feed_128 (yk_v (kc := 0) (ks := 0) fun zg13 hzg13 => ?_)
                          obtain ⟨Czg13, hFzg13⟩ := hzg13
                          have hZ3 := stTp_Z2 Ozg12 hZ2 c
                          have Ozg13 := okA.tap Ozg12 c (by omega)
                          refine xj_iload_n (n := 1) (i := 1) 2 rfl rfl dX11_feed_131 ?_
                          refine xj_iconst (v := 3) (by decide) dX11_feed_132 ?_
                          refine xj_icmp_le (tgt := 145) (by decide) dX11_feed_133 (fun zc133 => ?_) (fun zc133 => ?_)
                          · exact absurd zc133 (by decide)
                          · refine xj_aload_n (n := 0) (i := 0) 1 rfl rfl dX11_feed_136 ?_
                            refine yj_getf (v := .ref 67) fl_X11_62_11 (by omega) (fq_0 zg13) rfl dX11_feed_137 ?_
                            refine xj_iload (i := 5) 6 rfl dX11_feed_140 ?_
                            refine xj_callV kv_X11_111 (c_X9_add l (d + 0) n zg13 (stTp (stTp (stTp A a) b) c) Λ Ozg13 Czg13 e (by omega)) (As := [.int e]) (st := []) (by omega) (fq_67 zg13) (ci := 9) rfl rfl rfl rfl (xRm_of (by omega) (by decide) (by omega) (by omega)) (Nat.le_of_ble_eq_true rfl) dX11_feed_142 (yk_v (kc := 0) (ks := 0) fun zg14 hzg14 => ?_)
                            obtain ⟨Czg14, hFzg14⟩ := hzg14
                            have hZ4 := stTp_Z2 Ozg13 hZ3 e
                            have Ozg14 := okA.tap Ozg13 e (by omega)
                            refine xj_iload_n (n := 1) (i := 1) 2 rfl rfl dX11_feed_145 ?_
                            refine xj_iconst (v := 4) (by decide) dX11_feed_146 ?_
                            refine xj_icmp_le (tgt := 159) (by decide) dX11_feed_147 (fun zc147 => ?_) (fun zc147 => ?_)
                            · exact absurd zc147 (by decide)
                            · refine xj_aload_n (n := 0) (i := 0) 1 rfl rfl dX11_feed_150 ?_
                              refine yj_getf (v := .ref 67) fl_X11_62_11 (by omega) (fq_0 zg14) rfl dX11_feed_151 ?_
                              refine xj_iload (i := 6) 7 rfl dX11_feed_154 ?_
                              refine xj_callV kv_X11_111 (c_X9_add l (d + 0) n zg14 (stTp (stTp (stTp (stTp A a) b) c) e) Λ Ozg14 Czg14 f (by omega)) (As := [.int f]) (st := []) (by omega) (fq_67 zg14) (ci := 9) rfl rfl rfl rfl (xRm_of (by omega) (by decide) (by omega) (by omega)) (Nat.le_of_ble_eq_true rfl) dX11_feed_156 (yk_v (kc := 0) (ks := 0) fun zg15 hzg15 => ?_)
                              obtain ⟨Czg15, hFzg15⟩ := hzg15
                              have hZ5 := stTp_Z2 Ozg14 hZ4 f
                              have Ozg15 := okA.tap Ozg14 f (by omega)
                              refine xj_aload_n (n := 0) (i := 0) 1 rfl rfl dX11_feed_159 ?_
                              refine yj_getf (v := .ref 67) fl_X11_62_11 (by omega) (fq_0 zg15) rfl dX11_feed_160 ?_
                              refine yj_getf (v := .int (nI (aZ (stTp (stTp (stTp (stTp (stTp A a) b) c) e) f)))) fl_X11_104_9 (by omega) (fq_67 zg15) (congrArg (fun z => some (Value.int z)) (Czg15.Z Ozg15)) dX11_feed_163 ?_
                              have er : rFeed A (nI 5) a b c e f = ((nI (aZ (stTp (stTp (stTp (stTp (stTp A a) b) c) e) f))), (stTp (stTp (stTp (stTp (stTp A a) b) c) e) f)) := by unfold rFeed; (try simp only [nI_clamp (show 5 < 2147483648 by omega)]); rw [if_pos zp7, if_pos zp17, if_pos zp28, if_pos zp39, if_pos zp50, if_neg zc62, if_neg zc67, if_pos zc90]; all_goals ((first | rfl | (rw [nI_clamp (by decide)]; rfl)))
                              exact xj_ireturn rfl (nr_i _) (Nat.zero_le _) (Nat.zero_le _) dX11_feed_166 (qI_e (by rw [er]; exact ⟨rfl, Czg15, ((((hFzg11.tr hFzg12).tr hFzg13).tr hFzg14).tr hFzg15)⟩))
                    · refine xj_bipush (v := (-4)) (by decide) dX11_feed_93 ?_
                      have er : rFeed A (nI 5) a b c e f = ((-4), A) := by unfold rFeed; (try simp only [nI_clamp (show 5 < 2147483648 by omega)]); rw [if_pos zp7, if_pos zp17, if_pos zp28, if_pos zp39, if_pos zp50, if_neg zc62, if_neg zc67, if_neg zc90]; all_goals (rfl)
                      exact xj_ireturn rfl (nr_i _) (Nat.zero_le _) (Nat.zero_le _) dX11_feed_95 (qI_e (by rw [er]; exact ⟨rfl, C, fr.rf⟩))
                · exact absurd zc72 (by decide)
