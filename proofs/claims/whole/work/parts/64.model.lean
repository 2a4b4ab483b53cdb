theorem wh_first {f : Nat → Int32} (h : nI99 (f 0) 16) : whI f (0 + 1) (nI 0) (f 0) := by
  refine Or.inr ⟨by omega, ?_, nI_m1 (by omega), h⟩
  obtain ⟨j, hj, e⟩ := h
  show (if (-1 : Int32) < f 0 then (nI 0, f 0) else _) = _
  rw [e]
  exact if_pos ((i32_lt _ _).mpr (by rw [nI_toInt (by omega)]; show (-1 : Int) < _; omega))
theorem wh_no {f : Nat → Int32} {i : Nat} {b m : Int32} (hw : whF f i = (b, m)) (hb : ¬ b = -1) (hm : nI99 m 16) (h : f i ≤ m) : whI f (i + 1) b m := by
  refine Or.inr ⟨by omega, ?_, hb, hm⟩
  show (if (whF f i).2 < f i then _ else whF f i) = _
  rw [hw, if_neg (le_nlt h)]
theorem wh_yes {f : Nat → Int32} {i : Nat} {b m : Int32} (hi : i < 2 ^ 31) (hw : whF f i = (b, m)) (hm : nI99 (f i) 16) (h : ¬ f i ≤ m) : whI f (i + 1) (nI i) (f i) := by
  refine Or.inr ⟨by omega, ?_, nI_m1 hi, hm⟩
  show (if (whF f i).2 < f i then (nI i, f i) else _) = _
  rw [hw]
  exact if_pos ((i32_lt _ _).mpr (Int.not_le.mp (fun z => h ((i32_le _ _).mpr z))))
theorem wh_end {f : Nat → Int32} {n : Nat} {b m : Int32} (h : whI f n b m) : (whF f n).1 = b ∧ (if 0 < (whF f n).2 then (whF f n).2 else 0) = m := by
  rcases h with ⟨rfl, rfl, rfl⟩ | ⟨-, hw, -, j, hj, rfl⟩
  · exact ⟨rfl, rfl⟩
  · rw [hw]
    refine ⟨rfl, ?_⟩
    by_cases h0 : 0 < nI j
    · exact if_pos h0
    · rw [if_neg h0]
      have h1 : ¬ 0 < j := fun z => h0 (nI_lt (a := 0) z (by omega))
      rw [show j = 0 by omega]
      rfl
/-! how dull it was: cell by cell, or the whole at once -/
theorem rwA.gn {g : xG} {d : Nat → Int32} {N : Nat} (R : rwA g d N) {q : Nat} (h1 : q ≠ 105) (h2 : q ≠ 86) (k : Nat) (x : Int32) : rwA (gs g q k x) d N := ⟨fun c hc => by rw [gs_n _ _ _ (fun e => h1 e.symm)]; exact R.1 c hc, by rw [gs_n _ _ _ (fun e => h2 e.symm)]; exact R.2⟩
theorem rw_ce (A : zSt) (Λ : Nat → xL) (s : Nat) {c : Nat} (hc : c < 16) : ∀ i, rwP A Λ s i c = ceP A Λ s c (A (10 + s) c) i
  | 0 => rfl
  | i + 1 => by
    have ih := rw_ce A Λ s hc i
    show nightR (Λ (aW A)) (aK A s) (A 2 s) (A 3 s) (rwP A Λ s i) (nI (aN A + i)) 16 c = min99 (ceP A Λ s c (A (10 + s) c) i + dlrF (Λ (aW A)) (aK A s) (A 2 s) (A 3 s) c (ceP A Λ s c (A (10 + s) c) i) (nI (aN A + i)))
    unfold nightR
    rw [if_pos hc, ih]
theorem ce_n {A : zSt} {Λ : Nat → xL} {s : Nat} (O : okA A) (hs : s < aS A) {c : Nat} (hc : c < 16) {x : Int32} (hx : nI99 x 99) : ∀ i, nI99 (ceP A Λ s c x i) 99
  | 0 => hx
  | i + 1 => min99_n (a := 208) (by decide) (dlr_n O hs c (nI (aN A + i)) (ce_n O hs hc hx i))
theorem allF_iff (f : Nat → Bool) : ∀ m i, allF f m i = true ↔ ∀ j, i ≤ j → j < i + m → f j = true
  | 0, i => ⟨fun _ j h1 h2 => by omega, fun _ => rfl⟩
  | m + 1, i => by
    have ih := allF_iff f m (i + 1)
    unfold allF
    by_cases h : f i = true
    · rw [if_pos h, ih]
      refine ⟨fun z j h1 h2 => ?_, fun z j h1 h2 => z j (by omega) (by omega)⟩
      by_cases e : j = i
      · subst e; exact h
      · exact z j (by omega) (by omega)
    · rw [if_neg h]
      refine ⟨fun z => absurd z (by decide), fun z => absurd (z i (Nat.le_refl _) (by omega)) h⟩
theorem or_0 (a b : Int32) : a ||| b = 0 ↔ a = 0 ∧ b = 0 := by
  constructor
  · intro h
    have h1 : a.toBitVec ||| b.toBitVec = 0#32 := congrArg Int32.toBitVec h
    have hb : ∀ i, i < 32 → a.toBitVec.getLsbD i = false ∧ b.toBitVec.getLsbD i = false := fun i _ => by
      have h2 : (a.toBitVec ||| b.toBitVec).getLsbD i = false := by rw [h1]; exact BitVec.getLsbD_zero
      rw [BitVec.getLsbD_or, Bool.or_eq_false_iff] at h2
      exact h2
    exact ⟨Int32.toBitVec_inj.mp (BitVec.eq_of_getLsbD_eq fun i hi => by rw [(hb i hi).1]; exact BitVec.getLsbD_zero.symm), Int32.toBitVec_inj.mp (BitVec.eq_of_getLsbD_eq fun i hi => by rw [(hb i hi).2]; exact BitVec.getLsbD_zero.symm)⟩
  · rintro ⟨rfl, rfl⟩
    rfl
theorem orF_0 (f : Nat → Int32) : ∀ n, orF f n = 0 ↔ ∀ i, i < n → f i = 0
  | 0 => ⟨fun _ i h => absurd h (Nat.not_lt_zero i), fun _ => rfl⟩
  | n + 1 => by
    show orF f n ||| f n = 0 ↔ _
    rw [or_0, orF_0 f n]
    refine ⟨fun z i hi => ?_, fun z => ⟨fun i hi => z i (by omega), z n (Nat.lt_succ_self n)⟩⟩
    by_cases e : i = n
    · subst e; exact z.2
    · exact z.1 i (by omega)
theorem hi_bits : ∀ i, i < 32 → (-65536 : Int32).toBitVec.getLsbD i = decide (16 ≤ i) := by decide +kernel
theorem lo_bits : ∀ i, i < 32 → (65535 : Int32).toBitVec.getLsbD i = decide (i < 16) := by decide +kernel
theorem w16_hi (x : Int32) : x &&& (-65536) = 0 ↔ w16 x := by
  constructor
  · intro h
    have h1 : x.toBitVec &&& (-65536 : Int32).toBitVec = 0#32 := congrArg Int32.toBitVec h
    have e : x = x &&& 65535 := by
      apply Int32.toBitVec_inj.mp
      show x.toBitVec = x.toBitVec &&& (65535 : Int32).toBitVec
      refine BitVec.eq_of_getLsbD_eq fun i hi => ?_
      have h2 : (x.toBitVec &&& (-65536 : Int32).toBitVec).getLsbD i = false := by rw [h1]; exact BitVec.getLsbD_zero
      rw [BitVec.getLsbD_and, hi_bits i hi] at h2
      rw [BitVec.getLsbD_and, lo_bits i hi]
      by_cases h3 : i < 16
      · rw [decide_eq_true h3, Bool.and_true]
      · rw [decide_eq_true (show 16 ≤ i by omega), Bool.and_true] at h2
        rw [h2, Bool.false_and]
    rw [e]
    exact pk_andE x (m := 65535) 16 (by decide)
  · rintro ⟨a, ha, rfl⟩
    apply Int32.toBitVec_inj.mp
    show (nI a).toBitVec &&& (-65536 : Int32).toBitVec = (0 : Int32).toBitVec
    refine BitVec.eq_of_getLsbD_eq fun i hi => ?_
    rw [BitVec.getLsbD_and, hi_bits i hi]
    have e0 : (0 : Int32).toBitVec.getLsbD i = false := BitVec.getLsbD_zero
    rw [e0]
    by_cases h3 : i < 16
    · rw [decide_eq_false (show ¬ 16 ≤ i by omega), Bool.and_false]
    · have h4 : (nI a).toBitVec.getLsbD i = false := by
        show (BitVec.ofNat 32 a).getLsbD i = false
        rw [BitVec.getLsbD_ofNat, Nat.testBit_lt_two_pow (Nat.lt_of_lt_of_le ha (Nat.pow_le_pow_right (n := 2) (by decide) (show 16 ≤ i by omega))), Bool.and_false]
      rw [h4, Bool.false_and]
def clB (A : zSt) (Λ : Nat → xL) (s c : Nat) (x : Int32) (k : Nat) : Bool := clearF (Λ (aW A)) (aK A s) (A 2 s) (A 3 s) c (ceP A Λ s c x k) (nI (aN A + k))
def sdX (A : zSt) (Λ : Nat → xL) (s c : Nat) (x : Int32) (k : Nat) : Int32 := (rsP A Λ s k &&& (bitF c ^^^ (-1))) ||| (if clB A Λ s c x k = true then A 3 s &&& bitF c else 0)
def sdB (A : zSt) (Λ : Nat → xL) (q s c : Nat) (x : Int32) (k : Nat) : Bool := decide (A (40 + q) k = sdX A Λ s c x k)
theorem sdX_w {A : zSt} {Λ : Nat → xL} {s : Nat} (O : okA A) (hs : s < aS A) (c : Nat) (x : Int32) (k : Nat) : w16 (sdX A Λ s c x k) := by
  unfold sdX
  have h1 : w16 (rsP A Λ s k) := by unfold rsP; exact w16_and _ (w16_set _)
  refine w16_or (w16_and _ h1) ?_
  split
  · exact w16_and _ (w16_pic O hs)
  · exact ⟨0, by omega, rfl⟩
theorem sdX_b {A : zSt} {Λ : Nat → xL} {s : Nat} {c : Nat} (hc : c < 16) (x : Int32) (k : Nat) {j : Nat} (hj : j < 16) : hasF (sdX A Λ s c x k) (nI j) = (hasF (A 3 s) (nI j) && clB A Λ s j (if j = c then x else A (10 + s) j) k) := by
  unfold sdX
  have h2 : hasF (rsP A Λ s k) (nI j) = (clB A Λ s j (A (10 + s) j) k && hasF (A 3 s) (nI j)) := by
    unfold rsP
    rw [hasF_and _ _ hj]
    unfold clearS
    rw [hasF_set16 _ hj, rw_ce A Λ s hj k]
    rfl
  rw [hasF_or _ _ hj, hasF_and _ _ hj, hasF_not _ hj, hasF_bit c hc j hj, h2]
  by_cases e : j = c
  · subst e
    rw [if_pos rfl, decide_eq_true (p := j = j) rfl]
    by_cases hb : clB A Λ s j x k = true
    · rw [if_pos hb, hasF_and _ _ hj, hasF_bit j hj j hj, decide_eq_true (p := j = j) rfl, hb]
      cases hasF (A 3 s) (nI j) <;> cases clB A Λ s j (A (10 + s) j) k <;> rfl
    · rw [if_neg hb, hasF_0 j hj, (Bool.not_eq_true _).mp hb]
      cases hasF (A 3 s) (nI j) <;> cases clB A Λ s j (A (10 + s) j) k <;> rfl
  · rw [if_neg e, decide_eq_false e]
    have h0 : hasF (if clB A Λ s c x k = true then A 3 s &&& bitF c else 0) (nI j) = false := by
      split
      · rw [hasF_and _ _ hj, hasF_bit c hc j hj, decide_eq_false e, Bool.and_false]
      · exact hasF_0 j hj
    rw [h0]
    cases hasF (A 3 s) (nI j) <;> cases clB A Λ s j (A (10 + s) j) k <;> rfl
theorem raB_i (A : zSt) (Λ : Nat → xL) (q s c : Nat) (x : Int32) (k : Nat) : raB A Λ q s c x k = true ↔ hasF (A (40 + q) k) (nI c) = (hasF (A 3 s) (nI c) && clB A Λ s c x k) := by
  unfold raB clB
  rw [decide_eq_true_iff]
  cases hasF (A 3 s) (nI c) <;> cases clearF (Λ (aW A)) (aK A s) (A 2 s) (A 3 s) c (ceP A Λ s c x k) (nI (aN A + k)) <;> cases hasF (A (40 + q) k) (nI c) <;> decide
theorem so_iff {A : zSt} {Λ : Nat → xL} {q s c v : Nat} (O : okA A) (hs : s < aS A) (hc : c < 16) : allF (sdB A Λ q s c (nI v)) (aQ A q) 0 = true ↔ soF A Λ q s c v = true := by
  unfold soF reF
  rw [decide_eq_true_iff, decide_eq_true_iff, orF_and, orF_0, allF_iff, allF_iff]
  unfold raF
  rw [allF_iff]
  constructor
  · intro h
    have hk : ∀ k, k < aQ A q → A (40 + q) k = sdX A Λ s c (nI v) k := fun k hk => of_decide_eq_true (h k (Nat.zero_le _) (by omega))
    refine ⟨⟨fun k hk' => ?_, fun j _ hj => ?_⟩, fun k _ hk' => ?_⟩
    · rw [hk k hk']
      exact (w16_hi _).mpr (sdX_w O hs c _ k)
    · unfold reB
      rw [decide_eq_true_iff]
      by_cases e : j = c
      · exact Or.inl e
      · refine Or.inr ?_
        unfold raF
        rw [allF_iff]
        intro k _ hk'
        rw [raB_i, hk k (by omega), sdX_b hc _ k (by omega), if_neg e]
    · rw [raB_i, hk k (by omega), sdX_b hc _ k hc, if_pos rfl]
  · rintro ⟨⟨h1, h2⟩, h3⟩ k _ hk'
    unfold sdB
    refine decide_eq_true (w16_ext ((w16_hi _).mp (h1 k (by omega))) (sdX_w O hs c _ k) (fun j hj => ?_))
    rw [sdX_b hc _ k hj]
    by_cases e : j = c
    · subst e
      rw [if_pos rfl]
      exact (raB_i _ _ _ _ _ _ _).mp (h3 k (Nat.zero_le _) hk')
    · rw [if_neg e]
      have h4 := h2 j (Nat.zero_le _) (by omega)
      unfold reB at h4
      rw [decide_eq_true_iff] at h4
      have h5 := h4.resolve_left e
      unfold raF at h5
      rw [allF_iff] at h5
      exact (raB_i _ _ _ _ _ _ _).mp (h5 k (Nat.zero_le _) hk')
theorem vd_no {A : zSt} {Λ : Nat → xL} {q s w : Int32} (h0 : refF A q s = 0) (h : ¬ (0 ≤ w ∧ w ≤ 151)) : vDims A Λ q s w = -7 := by
  unfold vDims
  rw [if_pos h0]
  by_cases h1 : w < 0
  · rw [if_pos h1]
  · rw [if_neg h1]
    obtain ⟨k, hk, rfl⟩ := nI_of h1
    rw [nI_clamp hk]
    have h2 : 151 < k := Nat.lt_of_not_le (fun z => h ⟨nI_pos' hk, nI_le (b := 151) z (by omega)⟩)
    by_cases h3 : 0 ≤ nI (k / 10) ∧ nI (k / 10) ≤ 15
    · rw [if_pos h3]
      by_cases h4 : 0 ≤ nI (k % 10) ∧ nI (k % 10) ≤ 1
      · have a := (nI_leI (b := 15) (by omega) (by decide)).mp h3.2
        have b := (nI_leI (b := 1) (by omega) (by decide)).mp h4.2
        omega
      · rw [if_neg h4]
    · rw [if_neg h3]
theorem wi_19 {k : Nat} (h : k ≤ 19) : wiF (nI k) 0 19 = nI k := by
  unfold wiF
  rw [if_neg (nI_pos (by omega)), if_neg (show ¬ (19 : Int32) < nI k from nI_nlt (a := 19) (b := k) (by omega) (by decide))]
set_option maxHeartbeats 4000000 in
set_option maxRecDepth 100000 in
theorem c_X12_best (l : Launch) (d : Nat) (n : Nat) (hn : 110 ≤ n) (g : xG) (A : zSt) (Λ : Nat → xL) (O : okA A) (C : mA g A Λ) (s what : Int32)  : xC l yX12_best cX12_best 3 (some .int) (xR (d + 6) 0 0) [.ref 86, .int s, .int what] (n, fh g) (qI n fun v g1 => v = vBest A Λ s what ∧ fm g g1) := by
  refine xC_of false (by decide +kernel) (fun z => by cases z) (Nat.le_of_ble_eq_true rfl) ?_
  have hS6 := O.1.2
  have hW := O.W
  have hT6 := O.2.2.2.1.2.2
  have hN9 := O.2.1.2
  show xJ l (RX12, 3, (some .int), false, (xR (d + 6) 0 0), none) cX12_best _ 0 0 0 [(0, .ref 86), (1, .int s), (2, .int what)] [] (n, fh g)
  refine xj_aload_n (n := 0) (i := 0) 0 rfl rfl dX12_best_0 ?_
  refine xj_iload_n (n := 1) (i := 1) 1 rfl rfl dX12_best_1 ?_
  refine xj_callV kv_X12_176 (c_X12_isSleeper l (d + 4) n hn g A Λ O C s) (As := [.int s]) (st := []) (by omega) (fq_86 g) (ci := 12) rfl rfl rfl rfl (xRm_of (by omega) (by decide) (by omega) (by omega)) (Nat.le_of_ble_eq_true rfl) dX12_best_2 (yk_p (kc := 0) (ks := 0) ?_)
  refine xj_if_ne (tgt := 11) (by decide) dX12_best_5 (fun zc5 => ?_) (fun zc5 => ?_)
  · have zp5 : isSl A s := bI_n0.mp zc5
    obtain ⟨ks, hks, rfl⟩ := isSl_of O zp5
    have hs6_ks : ks < 6 := by omega
    refine xj_iload_n (n := 2) (i := 2) 2 rfl rfl dX12_best_11 ?_
    refine xj_iconst (v := 0) (by decide) dX12_best_12 ?_
    refine xj_iconst (v := 2) (by decide) dX12_best_13 ?_
    refine xj_callS ks_X12_93 (c_X12_in l (d + 5) what 0 2 _) (As := [.int what, .int 0, .int 2]) (st := []) rfl rfl (xRm_of (by omega) (by decide) (by omega) (by omega)) (Nat.le_of_ble_eq_true rfl) dX12_best_14 (yk_p (kc := 0) (ks := 0) ?_)
    refine xj_if_ne (tgt := 23) (by decide) dX12_best_17 (fun zc17 => ?_) (fun zc17 => ?_)
    · have zp17 : 0 ≤ what ∧ what ≤ 2 := bI_n0.mp zc17
      obtain ⟨kwhat, hkwhat, rfl⟩ := nI_bnd (m := 2) (by decide) zp17.1 zp17.2
      refine xj_aload_n (n := 0) (i := 0) 0 rfl rfl dX12_best_23 ?_
      refine xj_iload_n (n := 1) (i := 1) 1 rfl rfl dX12_best_24 ?_
      refine xj_callV kv_X12_246 (c_X12_finds l (d + 0) n hn g A Λ O C ks hks) (As := [.int (nI ks)]) (st := []) (by omega) (fq_86 g) (ci := 12) rfl rfl rfl rfl (xRm_of (by omega) (by decide) (by omega) (by omega)) (Nat.le_of_ble_eq_true rfl) dX12_best_25 (yk_v (kc := 0) (ks := 0) fun zg1 hzg1 => ?_)
      obtain ⟨hxzg1, hb4zg1, hb5zg1, hb6zg1⟩ := hzg1
      have Czg1 := C.keep hxzg1
      refine xj_iload_n (n := 2) (i := 2) 2 rfl rfl dX12_best_28 ?_
      refine xj_if_ne (tgt := 39) (by decide) dX12_best_29 (fun zc29 => ?_) (fun zc29 => ?_)
      · refine xj_iload_n (n := 2) (i := 2) 2 rfl rfl dX12_best_39 ?_
        refine xj_iconst (v := 1) (by decide) dX12_best_40 ?_
        refine xj_icmp_ne (tgt := 51) (by decide) dX12_best_41 (fun zc41 => ?_) (fun zc41 => ?_)
        · refine xj_aload_n (n := 0) (i := 0) 0 rfl rfl dX12_best_51 ?_
          refine yj_getf (v := .int (coS A Λ ks (wcP A Λ ks))) fl_X12_243_12 (by omega) (fq_86 zg1) (congrArg (fun z => some (Value.int z)) hb6zg1) dX12_best_52 ?_
          exact xj_ireturn rfl (nr_i _) (Nat.zero_le _) (Nat.zero_le _) dX12_best_55 (qI_e ⟨by unfold vBest; (try simp only [nI_clamp (show ks < 2147483648 by omega), nI_clamp (show kwhat < 2147483648 by omega)]); rw [if_pos zp5, if_pos zp17, if_neg zc29, if_neg zc41]; all_goals (rfl), hxzg1⟩)
        · refine xj_aload_n (n := 0) (i := 0) 0 rfl rfl dX12_best_44 ?_
          refine yj_getf (v := .int (onesF (wcP A Λ ks))) fl_X12_240_12 (by omega) (fq_86 zg1) (congrArg (fun z => some (Value.int z)) hb5zg1) dX12_best_45 ?_
          refine xj_goto (tgt := 55) (by decide) dX12_best_48 ?_
          exact xj_ireturn rfl (nr_i _) (Nat.zero_le _) (Nat.zero_le _) dX12_best_55 (qI_e ⟨by unfold vBest; (try simp only [nI_clamp (show ks < 2147483648 by omega), nI_clamp (show kwhat < 2147483648 by omega)]); rw [if_pos zp5, if_pos zp17, if_neg zc29, if_pos zc41]; all_goals (rfl), hxzg1⟩)
      · refine xj_aload_n (n := 0) (i := 0) 0 rfl rfl dX12_best_32 ?_
        refine yj_getf (v := .int (wcP A Λ ks)) fl_X12_237_12 (by omega) (fq_86 zg1) (congrArg (fun z => some (Value.int z)) hb4zg1) dX12_best_33 ?_
        refine xj_goto (tgt := 55) (by decide) dX12_best_36 ?_
        exact xj_ireturn rfl (nr_i _) (Nat.zero_le _) (Nat.zero_le _) dX12_best_55 (qI_e ⟨by unfold vBest; (try simp only [nI_clamp (show ks < 2147483648 by omega), nI_clamp (show kwhat < 2147483648 by omega)]); rw [if_pos zp5, if_pos zp17, if_pos zc29]; all_goals (rfl), hxzg1⟩)
    · have zp17 : ¬ (0 ≤ what ∧ what ≤ 2) := bI_0.mp zc17
      refine xj_bipush (v := (-7)) (by decide) dX12_best_20 ?_
      exact xj_ireturn rfl (nr_i _) (Nat.zero_le _) (Nat.zero_le _) dX12_best_22 (qI_e ⟨by unfold vBest; (try simp only [nI_clamp (show ks < 2147483648 by omega)]); rw [if_pos zp5, if_neg zp17]; all_goals (rfl), fm.rf⟩)
  · have zp5 : ¬ (isSl A s) := bI_0.mp zc5
    refine xj_bipush (v := (-5)) (by decide) dX12_best_8 ?_
    exact xj_ireturn rfl (nr_i _) (Nat.zero_le _) (Nat.zero_le _) dX12_best_10 (qI_e ⟨by unfold vBest; rw [if_neg zp5]; all_goals (rfl), fm.rf⟩)
set_option maxHeartbeats 4000000 in
set_option maxRecDepth 100000 in
theorem c_X12_whom (l : Launch) (d : Nat) (n : Nat) (hn : 110 ≤ n) (g : xG) (A : zSt) (Λ : Nat → xL) (O : okA A) (C : mA g A Λ) (what : Int32)  : xC l yX12_whom cX12_whom 6 (some .int) (xR (d + 6) 0 0) [.ref 86, .int what] (n, fh g) (qI n fun v g1 => v = vWhom A Λ what ∧ fm g g1) := by
  refine xC_of false (by decide +kernel) (fun z => by cases z) (Nat.le_of_ble_eq_true rfl) ?_
  have hS6 := O.1.2
  have hW := O.W
  have hT6 := O.2.2.2.1.2.2
  have hN9 := O.2.1.2
  show xJ l (RX12, 6, (some .int), false, (xR (d + 6) 0 0), none) cX12_whom _ 0 0 0 [(0, .ref 86), (1, .int what)] [] (n, fh g)
  refine xj_iload_n (n := 1) (i := 1) 1 rfl rfl dX12_whom_0 ?_
  refine xj_iconst (v := 0) (by decide) dX12_whom_1 ?_
  refine xj_iconst (v := 1) (by decide) dX12_whom_2 ?_
  refine xj_callS ks_X12_93 (c_X12_in l (d + 5) what 0 1 _) (As := [.int what, .int 0, .int 1]) (st := []) rfl rfl (xRm_of (by omega) (by decide) (by omega) (by omega)) (Nat.le_of_ble_eq_true rfl) dX12_whom_3 (yk_p (kc := 0) (ks := 0) ?_)
  refine xj_if_ne (tgt := 12) (by decide) dX12_whom_6 (fun zc6 => ?_) (fun zc6 => ?_)
  · have zp6 : 0 ≤ what ∧ what ≤ 1 := bI_n0.mp zc6
    obtain ⟨kwhat, hkwhat, rfl⟩ := nI_bnd (m := 1) (by decide) zp6.1 zp6.2
    refine xj_iconst (v := (-1)) (by decide) dX12_whom_12 ?_
    refine xj_istore_n (n := 2) (i := 2) (lv1 := [(2, .int (-1)), (0, .ref 86), (1, .int (nI kwhat))]) rfl rfl (Nat.le_of_ble_eq_true rfl) dX12_whom_13 ?_
    refine xj_iconst (v := 0) (by decide) dX12_whom_14 ?_
    refine xj_istore_n (n := 3) (i := 3) (lv1 := [(3, .int 0), (2, .int (-1)), (0, .ref 86), (1, .int (nI kwhat))]) rfl rfl (Nat.le_of_ble_eq_true rfl) dX12_whom_15 ?_
    refine xj_iconst (v := 0) (by decide) dX12_whom_16 ?_
    refine xj_istore (i := 4) (lv1 := [(4, .int 0), (3, .int 0), (2, .int (-1)), (0, .ref 86), (1, .int (nI kwhat))]) rfl (Nat.le_of_ble_eq_true rfl) dX12_whom_17 ?_
    have key : ∀ i, i ≤ aS A → ∀ (g1 : xG), fm g g1 → ∀ (zb zm : Int32), whI (fun s => onesF (wcP A Λ s)) i zb zm → xJ l (RX12, 6, (some .int), false, (xR (d + 6) 0 0), none) cX12_whom (qI n fun v g1 => v = vWhom A Λ (nI kwhat) ∧ fm g g1) 0 0 19 [(4, .int (nI i)), (2, .int zb), (3, .int zm), (0, .ref 86), (1, .int (nI kwhat))] [] (n, fh g1) := by
      refine x_loop (aS A) _ ?_ ?_
      · intro g1 hf zb zm hN
        have hE := wh_end hN
        refine xj_iload (i := 4) 0 rfl dX12_whom_19 ?_
        refine xj_aload_n (n := 0) (i := 0) 3 rfl rfl dX12_whom_21 ?_
        refine yj_getf (v := .int (nI (aS A))) fl_X12_90_12 (by omega) (fq_86 g1) (congrArg (fun z => some (Value.int z)) ((C.keep hf).S O)) dX12_whom_22 ?_
        refine xj_icmp_ge (tgt := 86) (by decide) dX12_whom_25 (fun zc25 => ?_) (fun zc25 => ?_)
        · refine xj_iload_n (n := 1) (i := 1) 4 rfl rfl dX12_whom_86 ?_
          refine xj_if_ne (tgt := 94) (by decide) dX12_whom_87 (fun zc87 => ?_) (fun zc87 => ?_)
          · refine xj_iload_n (n := 3) (i := 3) 2 rfl rfl dX12_whom_94 ?_
            exact xj_ireturn rfl (nr_i _) (Nat.zero_le _) (Nat.zero_le _) dX12_whom_95 (qI_e ⟨by unfold vWhom; (try simp only [nI_clamp (show kwhat < 2147483648 by omega)]); rw [if_pos zp6, if_neg zc87]; all_goals (exact hE.2.symm), hf⟩)
          · refine xj_iload_n (n := 2) (i := 2) 1 rfl rfl dX12_whom_90 ?_
            refine xj_goto (tgt := 95) (by decide) dX12_whom_91 ?_
            exact xj_ireturn rfl (nr_i _) (Nat.zero_le _) (Nat.zero_le _) dX12_whom_95 (qI_e ⟨by unfold vWhom; (try simp only [nI_clamp (show kwhat < 2147483648 by omega)]); rw [if_pos zp6, if_pos zc87]; all_goals (exact hE.1.symm), hf⟩)
        · exact absurd (nI_le (Nat.le_refl _) (by omega)) zc25
      · intro i hi ih g1 hf zb zm hN
        have hs6_i : i < 6 := by omega
        have hon := onesF_n (wcP A Λ i)
        rcases hN with ⟨rfl, rfl, rfl⟩ | ⟨h0, hw, hb, hm⟩
        · have hs6_0 : 0 < 6 := by omega
          refine xj_iload (i := 4) 0 rfl dX12_whom_19 ?_
          refine xj_aload_n (n := 0) (i := 0) 3 rfl rfl dX12_whom_21 ?_
          refine yj_getf (v := .int (nI (aS A))) fl_X12_90_12 (by omega) (fq_86 g1) (congrArg (fun z => some (Value.int z)) ((C.keep hf).S O)) dX12_whom_22 ?_
          refine xj_icmp_ge (tgt := 86) (by decide) dX12_whom_25 (fun zc25 => ?_) (fun zc25 => ?_)
          · exact absurd zc25 (nI_ge hi (by omega))
          · refine xj_aload_n (n := 0) (i := 0) 3 rfl rfl dX12_whom_28 ?_
            refine xj_iload (i := 4) 0 rfl dX12_whom_29 ?_
            refine xj_callV kv_X12_246 (c_X12_finds l (d + 0) n hn g1 A Λ O (C.keep hf) 0 hi) (As := [.int (nI 0)]) (st := []) (by omega) (fq_86 g1) (ci := 12) rfl rfl rfl rfl (xRm_of (by omega) (by decide) (by omega) (by omega)) (Nat.le_of_ble_eq_true rfl) dX12_whom_31 (yk_v (kc := 0) (ks := 0) fun zg1 hzg1 => ?_)
            obtain ⟨hxzg1, hb4zg1, hb5zg1, hb6zg1⟩ := hzg1
            have Czg1 := (C.keep hf).keep hxzg1
            refine xj_iload_n (n := 2) (i := 2) 1 rfl rfl dX12_whom_34 ?_
            refine xj_iconst (v := (-1)) (by decide) dX12_whom_35 ?_
            refine xj_icmp_eq (tgt := 47) (by decide) dX12_whom_36 (fun zc36 => ?_) (fun zc36 => ?_)
            · refine xj_iconst (v := 1) (by decide) dX12_whom_47 ?_
              refine xj_goto (tgt := 52) (by decide) dX12_whom_48 ?_
              refine xj_istore (i := 5) (lv1 := [(5, .int 1), (4, .int (nI 0)), (2, .int (-1)), (3, .int 0), (0, .ref 86), (1, .int (nI kwhat))]) rfl (Nat.le_of_ble_eq_true rfl) dX12_whom_52 ?_
              refine xj_iload (i := 5) 0 rfl dX12_whom_54 ?_
              refine xj_if_eq (tgt := 64) (by decide) dX12_whom_56 (fun zc56 => ?_) (fun zc56 => ?_)
              · exact absurd zc56 (by decide)
              · refine xj_iload (i := 4) 1 rfl dX12_whom_59 ?_
                refine xj_goto (tgt := 65) (by decide) dX12_whom_61 ?_
                refine xj_istore_n (n := 2) (i := 2) (lv1 := [(2, .int (nI 0)), (5, .int 1), (4, .int (nI 0)), (3, .int 0), (0, .ref 86), (1, .int (nI kwhat))]) rfl rfl (Nat.le_of_ble_eq_true rfl) dX12_whom_65 ?_
                refine xj_iload (i := 5) 1 rfl dX12_whom_66 ?_
                refine xj_if_eq (tgt := 78) (by decide) dX12_whom_68 (fun zc68 => ?_) (fun zc68 => ?_)
                · exact absurd zc68 (by decide)
                · refine xj_aload_n (n := 0) (i := 0) 4 rfl rfl dX12_whom_71 ?_
                  refine yj_getf (v := .int (onesF (wcP A Λ 0))) fl_X12_240_12 (by omega) (fq_86 zg1) (congrArg (fun z => some (Value.int z)) hb5zg1) dX12_whom_72 ?_
                  refine xj_goto (tgt := 79) (by decide) dX12_whom_75 ?_
                  refine xj_topi (fun zv2 ezv2 => ?_)
                  refine xj_istore_n (n := 3) (i := 3) (lv1 := [(3, .int zv2), (2, .int (nI 0)), (5, .int 1), (4, .int (nI 0)), (0, .ref 86), (1, .int (nI kwhat))]) rfl rfl (Nat.le_of_ble_eq_true rfl) dX12_whom_79 ?_
                  refine xj_iinc (n := 1) (i := 4) (v := nI (0 + 1)) (lv1 := [(4, .int (nI (0 + 1))), (3, .int zv2), (2, .int (nI 0)), (5, .int 1), (0, .ref 86), (1, .int (nI kwhat))]) 3 rfl (nI_1 0) rfl (Nat.le_of_ble_eq_true rfl) dX12_whom_80 ?_
                  refine xj_goto (tgt := 19) (by decide) dX12_whom_83 ?_
                  refine xj_sub (lv' := [(4, .int (nI (0 + 1))), (2, .int (nI 0)), (3, .int zv2), (0, .ref 86), (1, .int (nI kwhat))]) [0, 2, 1, 4, 5] rfl ?_
                  exact ih zg1 (hf.tr hxzg1) _ _ (by rw [ezv2]; exact wh_first (f := (fun s => onesF (wcP A Λ s))) hon)
            · exact absurd (by decide) zc36
        · refine xj_iload (i := 4) 0 rfl dX12_whom_19 ?_
          refine xj_aload_n (n := 0) (i := 0) 3 rfl rfl dX12_whom_21 ?_
          refine yj_getf (v := .int (nI (aS A))) fl_X12_90_12 (by omega) (fq_86 g1) (congrArg (fun z => some (Value.int z)) ((C.keep hf).S O)) dX12_whom_22 ?_
          refine xj_icmp_ge (tgt := 86) (by decide) dX12_whom_25 (fun zc25 => ?_) (fun zc25 => ?_)
          · exact absurd zc25 (nI_ge hi (by omega))
          · refine xj_aload_n (n := 0) (i := 0) 3 rfl rfl dX12_whom_28 ?_
            refine xj_iload (i := 4) 0 rfl dX12_whom_29 ?_
            refine xj_callV kv_X12_246 (c_X12_finds l (d + 0) n hn g1 A Λ O (C.keep hf) i hi) (As := [.int (nI i)]) (st := []) (by omega) (fq_86 g1) (ci := 12) rfl rfl rfl rfl (xRm_of (by omega) (by decide) (by omega) (by omega)) (Nat.le_of_ble_eq_true rfl) dX12_whom_31 (yk_v (kc := 0) (ks := 0) fun zg3 hzg3 => ?_)
            obtain ⟨hxzg3, hb4zg3, hb5zg3, hb6zg3⟩ := hzg3
            have Czg3 := (C.keep hf).keep hxzg3
            refine xj_iload_n (n := 2) (i := 2) 1 rfl rfl dX12_whom_34 ?_
            refine xj_iconst (v := (-1)) (by decide) dX12_whom_35 ?_
            refine xj_icmp_eq (tgt := 47) (by decide) dX12_whom_36 (fun zc36 => ?_) (fun zc36 => ?_)
            · exact absurd zc36 hb
            · refine xj_aload_n (n := 0) (i := 0) 3 rfl rfl dX12_whom_39 ?_
              refine yj_getf (v := .int (onesF (wcP A Λ i))) fl_X12_240_12 (by omega) (fq_86 zg3) (congrArg (fun z => some (Value.int z)) hb5zg3) dX12_whom_40 ?_
              refine xj_iload_n (n := 3) (i := 3) 2 rfl rfl dX12_whom_43 ?_
              refine xj_icmp_le (tgt := 51) (by decide) dX12_whom_44 (fun zc44 => ?_) (fun zc44 => ?_)
              · refine xj_iconst (v := 0) (by decide) dX12_whom_51 ?_
                refine xj_istore (i := 5) (lv1 := [(5, .int 0), (4, .int (nI i)), (2, .int zb), (3, .int zm), (0, .ref 86), (1, .int (nI kwhat))]) rfl (Nat.le_of_ble_eq_true rfl) dX12_whom_52 ?_
                refine xj_iload (i := 5) 0 rfl dX12_whom_54 ?_
                refine xj_if_eq (tgt := 64) (by decide) dX12_whom_56 (fun zc56 => ?_) (fun zc56 => ?_)
                · refine xj_iload_n (n := 2) (i := 2) 2 rfl rfl dX12_whom_64 ?_
                  refine xj_istore_n (n := 2) (i := 2) (lv1 := [(2, .int zb), (5, .int 0), (4, .int (nI i)), (3, .int zm), (0, .ref 86), (1, .int (nI kwhat))]) rfl rfl (Nat.le_of_ble_eq_true rfl) dX12_whom_65 ?_
                  refine xj_iload (i := 5) 1 rfl dX12_whom_66 ?_
                  refine xj_if_eq (tgt := 78) (by decide) dX12_whom_68 (fun zc68 => ?_) (fun zc68 => ?_)
                  · refine xj_iload_n (n := 3) (i := 3) 3 rfl rfl dX12_whom_78 ?_
                    refine xj_istore_n (n := 3) (i := 3) (lv1 := [(3, .int zm), (2, .int zb), (5, .int 0), (4, .int (nI i)), (0, .ref 86), (1, .int (nI kwhat))]) rfl rfl (Nat.le_of_ble_eq_true rfl) dX12_whom_79 ?_
                    refine xj_iinc (n := 1) (i := 4) (v := nI (i + 1)) (lv1 := [(4, .int (nI (i + 1))), (3, .int zm), (2, .int zb), (5, .int 0), (0, .ref 86), (1, .int (nI kwhat))]) 3 rfl (nI_1 i) rfl (Nat.le_of_ble_eq_true rfl) dX12_whom_80 ?_
                    refine xj_goto (tgt := 19) (by decide) dX12_whom_83 ?_
                    refine xj_sub (lv' := [(4, .int (nI (i + 1))), (2, .int zb), (3, .int zm), (0, .ref 86), (1, .int (nI kwhat))]) [0, 2, 1, 4, 5] rfl ?_
                    exact ih zg3 (hf.tr hxzg3) _ _ (wh_no hw hb hm zc44)
                  · exact absurd (by decide) zc68
                · exact absurd (by decide) zc56
              · refine xj_iconst (v := 1) (by decide) dX12_whom_47 ?_
                refine xj_goto (tgt := 52) (by decide) dX12_whom_48 ?_
                refine xj_istore (i := 5) (lv1 := [(5, .int 1), (4, .int (nI i)), (2, .int zb), (3, .int zm), (0, .ref 86), (1, .int (nI kwhat))]) rfl (Nat.le_of_ble_eq_true rfl) dX12_whom_52 ?_
                refine xj_iload (i := 5) 0 rfl dX12_whom_54 ?_
                refine xj_if_eq (tgt := 64) (by decide) dX12_whom_56 (fun zc56 => ?_) (fun zc56 => ?_)
                · exact absurd zc56 (by decide)
                · refine xj_iload (i := 4) 1 rfl dX12_whom_59 ?_
                  refine xj_goto (tgt := 65) (by decide) dX12_whom_61 ?_
                  refine xj_istore_n (n := 2) (i := 2) (lv1 := [(2, .int (nI i)), (5, .int 1), (4, .int (nI i)), (3, .int zm), (0, .ref 86), (1, .int (nI kwhat))]) rfl rfl (Nat.le_of_ble_eq_true rfl) dX12_whom_65 ?_
                  refine xj_iload (i := 5) 1 rfl dX12_whom_66 ?_
                  refine xj_if_eq (tgt := 78) (by decide) dX12_whom_68 (fun zc68 => ?_) (fun zc68 => ?_)
                  · exact absurd zc68 (by decide)
                  · refine xj_aload_n (n := 0) (i := 0) 4 rfl rfl dX12_whom_71 ?_
                    refine yj_getf (v := .int (onesF (wcP A Λ i))) fl_X12_240_12 (by omega) (fq_86 zg3) (congrArg (fun z => some (Value.int z)) hb5zg3) dX12_whom_72 ?_
                    refine xj_goto (tgt := 79) (by decide) dX12_whom_75 ?_
                    refine xj_topi (fun zv4 ezv4 => ?_)
                    refine xj_istore_n (n := 3) (i := 3) (lv1 := [(3, .int zv4), (2, .int (nI i)), (5, .int 1), (4, .int (nI i)), (0, .ref 86), (1, .int (nI kwhat))]) rfl rfl (Nat.le_of_ble_eq_true rfl) dX12_whom_79 ?_
                    refine xj_iinc (n := 1) (i := 4) (v := nI (i + 1)) (lv1 := [(4, .int (nI (i + 1))), (3, .int zv4), (2, .int (nI i)), (5, .int 1), (0, .ref 86), (1, .int (nI kwhat))]) 3 rfl (nI_1 i) rfl (Nat.le_of_ble_eq_true rfl) dX12_whom_80 ?_
                    refine xj_goto (tgt := 19) (by decide) dX12_whom_83 ?_
                    refine xj_sub (lv' := [(4, .int (nI (i + 1))), (2, .int (nI i)), (3, .int zv4), (0, .ref 86), (1, .int (nI kwhat))]) [0, 2, 1, 4, 5] rfl ?_
                    exact ih zg3 (hf.tr hxzg3) _ _ (by rw [ezv4]; exact wh_yes (f := (fun s => onesF (wcP A Λ s))) (by omega) hw hon zc44)
    refine xj_sub (lv' := [(4, .int 0), (2, .int (-1)), (3, .int 0), (0, .ref 86), (1, .int (nI kwhat))]) [0, 2, 1, 3, 4] rfl ?_
    exact key 0 (Nat.zero_le _) g fm.rf (-1) 0 (Or.inl ⟨rfl, rfl, rfl⟩)
  · have zp6 : ¬ (0 ≤ what ∧ what ≤ 1) := bI_0.mp zc6
    refine xj_bipush (v := (-2)) (by decide) dX12_whom_9 ?_
    exact xj_ireturn rfl (nr_i _) (Nat.zero_le _) (Nat.zero_le _) dX12_whom_11 (qI_e ⟨by unfold vWhom; rw [if_neg zp6]; all_goals (rfl), fm.rf⟩)
set_option maxHeartbeats 4000000 in
set_option maxRecDepth 100000 in
theorem c_X12_show (l : Launch) (d : Nat) (n : Nat) (hn : 110 ≤ n) (g : xG) (A : zSt) (Λ : Nat → xL) (O : okA A) (C : mA g A Λ) (s pic : Int32)  : xC l yX12_show cX12_show 6 (some .int) (xR (d + 6) 0 0) [.ref 86, .int s, .int pic] (n, fh g) (qI n fun v g1 => v = vShow A Λ s pic ∧ fr sN g g1) := by
  refine xC_of false (by decide +kernel) (fun z => by cases z) (Nat.le_of_ble_eq_true rfl) ?_
  have hS6 := O.1.2
  have hW := O.W
  have hT6 := O.2.2.2.1.2.2
  have hN9 := O.2.1.2
  show xJ l (RX12, 6, (some .int), false, (xR (d + 6) 0 0), none) cX12_show _ 0 0 0 [(0, .ref 86), (1, .int s), (2, .int pic)] [] (n, fh g)
  refine xj_aload_n (n := 0) (i := 0) 0 rfl rfl dX12_show_0 ?_
  refine xj_iload_n (n := 1) (i := 1) 1 rfl rfl dX12_show_1 ?_
  refine xj_callV kv_X12_176 (c_X12_isSleeper l (d + 4) n hn g A Λ O C s) (As := [.int s]) (st := []) (by omega) (fq_86 g) (ci := 12) rfl rfl rfl rfl (xRm_of (by omega) (by decide) (by omega) (by omega)) (Nat.le_of_ble_eq_true rfl) dX12_show_2 (yk_p (kc := 0) (ks := 0) ?_)
  refine xj_if_ne (tgt := 11) (by decide) dX12_show_5 (fun zc5 => ?_) (fun zc5 => ?_)
  · have zp5 : isSl A s := bI_n0.mp zc5
    obtain ⟨ks, hks, rfl⟩ := isSl_of O zp5
    have hs6_ks : ks < 6 := by omega
    refine xj_iload_n (n := 2) (i := 2) 2 rfl rfl dX12_show_11 ?_
    refine xj_iconst (v := 0) (by decide) dX12_show_12 ?_
    refine xj_ldc cn_X12_186 dX12_show_13 ?_
    refine xj_callS ks_X12_93 (c_X12_in l (d + 5) pic 0 65535 _) (As := [.int pic, .int 0, .int 65535]) (st := []) rfl rfl (xRm_of (by omega) (by decide) (by omega) (by omega)) (Nat.le_of_ble_eq_true rfl) dX12_show_15 (yk_p (kc := 0) (ks := 0) ?_)
    refine xj_if_ne (tgt := 24) (by decide) dX12_show_18 (fun zc18 => ?_) (fun zc18 => ?_)
    · have zp18 : 0 ≤ pic ∧ pic ≤ 65535 := bI_n0.mp zc18
      refine xj_iload_n (n := 2) (i := 2) 2 rfl rfl dX12_show_24 ?_
      refine xj_aload_n (n := 0) (i := 0) 0 rfl rfl dX12_show_25 ?_
      refine xj_iload_n (n := 1) (i := 1) 1 rfl rfl dX12_show_26 ?_
      refine xj_callV kv_X12_206 (c_X12_seenSet l (d + 0) n hn g A Λ O C ks hks) (As := [.int (nI ks)]) (st := [.int pic]) (by omega) (fq_86 g) (ci := 12) rfl rfl rfl rfl (xRm_of (by omega) (by decide) (by omega) (by omega)) (Nat.le_of_ble_eq_true rfl) dX12_show_27 (yk_i (kc := 0) (ks := 0) fun zv1 zg2 hzg2 => ?_)
      obtain ⟨hvzv1, hfnzg2⟩ := hzg2
      have hxzg2 := hfnzg2
      have Czg2 := C.keep (fm.of hxzg2 sN_m)
      refine xj_top (show zv1 = seP A Λ ks from hvzv1) ?_
      refine xj_iconst (v := (-1)) (by decide) dX12_show_30 ?_
      refine xj_ixor dX12_show_31 ?_
      refine xj_iand dX12_show_32 ?_
      refine xj_topi (fun zv3 ezv3 => ?_)
      refine xj_istore_n (n := 3) (i := 3) (lv1 := [(3, .int zv3), (0, .ref 86), (1, .int (nI ks)), (2, .int pic)]) rfl rfl (Nat.le_of_ble_eq_true rfl) dX12_show_33 ?_
      refine xj_iload_n (n := 3) (i := 3) 0 rfl rfl dX12_show_34 ?_
      refine xj_aload_n (n := 0) (i := 0) 1 rfl rfl dX12_show_35 ?_
      refine xj_iload_n (n := 1) (i := 1) 2 rfl rfl dX12_show_36 ?_
      refine xj_callV kv_X12_234 (c_X12_couldSet l (d + 1) n hn zg2 A Λ O Czg2 ks hks) (As := [.int (nI ks)]) (st := [.int zv3]) (by omega) (fq_86 zg2) (ci := 12) rfl rfl rfl rfl (xRm_of (by omega) (by decide) (by omega) (by omega)) (Nat.le_of_ble_eq_true rfl) dX12_show_37 (yk_i (kc := 0) (ks := 0) fun zv4 zg5 hzg5 => ?_)
      obtain ⟨hvzv4, hfnzg5⟩ := hzg5
      have hxzg5 := hfnzg5
      have Czg5 := Czg2.keep (fm.of hxzg5 sN_m)
      refine xj_top (show zv4 = leP A Λ ks from hvzv4) ?_
      refine xj_iconst (v := (-1)) (by decide) dX12_show_40 ?_
      refine xj_ixor dX12_show_41 ?_
      refine xj_iand dX12_show_42 ?_
      refine xj_if_eq (tgt := 48) (by decide) dX12_show_43 (fun zc43 => ?_) (fun zc43 => ?_)
      · have hsh : zv3 &&& (leP A Λ ks ^^^ (-1)) = pic &&& (A 3 ks ^^^ (-1)) := by rw [ezv3]; exact (sh_set pic (clP A Λ ks) (A 3 ks))
        rw [hsh] at zc43
        refine xj_iconst (v := 0) (by decide) dX12_show_48 ?_
        refine xj_istore (i := 4) (lv1 := [(4, .int 0), (3, .int zv3), (0, .ref 86), (1, .int (nI ks)), (2, .int pic)]) rfl (Nat.le_of_ble_eq_true rfl) dX12_show_49 ?_
        refine xj_iconst (v := 0) (by decide) dX12_show_51 ?_
        refine xj_istore (i := 5) (lv1 := [(5, .int 0), (4, .int 0), (3, .int zv3), (0, .ref 86), (1, .int (nI ks)), (2, .int pic)]) rfl (Nat.le_of_ble_eq_true rfl) dX12_show_52 ?_
        have key : ∀ i, i ≤ 16 → ∀ (g1 : xG), fr sN g g1 → xJ l (RX12, 6, (some .int), false, (xR (d + 6) 0 0), none) cX12_show (qI n fun v g1 => v = vShow A Λ (nI ks) pic ∧ fr sN g g1) 0 0 54 [(5, .int (nI i)), (4, .int (sumF (fun c => if hasF zv3 (nI c) = true then coP A Λ ks c else 0) i)), (3, .int zv3), (0, .ref 86), (1, .int (nI ks)), (2, .int pic)] [] (n, fh g1) := by
          refine x_loop 16 _ ?_ ?_
          · intro g1 hf
            refine xj_iload (i := 5) 0 rfl dX12_show_54 ?_
            refine xj_bipush (v := 16) (by decide) dX12_show_56 ?_
            refine xj_icmp_ge (tgt := 93) (by decide) dX12_show_58 (fun zc58 => ?_) (fun zc58 => ?_)
            · refine xj_iload (i := 4) 1 rfl dX12_show_93 ?_
              exact xj_ireturn rfl (nr_i _) (Nat.zero_le _) (Nat.zero_le _) dX12_show_95 (qI_e ⟨by unfold vShow; (try simp only [nI_clamp (show ks < 2147483648 by omega)]); rw [if_pos zp5, if_pos zp18, if_pos zc43]; all_goals (rw [← ezv3]; rfl), hf⟩)
            · exact absurd (nI_le (Nat.le_refl _) (by decide)) zc58
          · intro i hi ih g1 hf
            refine xj_iload (i := 5) 0 rfl dX12_show_54 ?_
            refine xj_bipush (v := 16) (by decide) dX12_show_56 ?_
            refine xj_icmp_ge (tgt := 93) (by decide) dX12_show_58 (fun zc58 => ?_) (fun zc58 => ?_)
            · exact absurd zc58 (nI_ge hi (by decide))
            · refine xj_iload (i := 4) 1 rfl dX12_show_61 ?_
              refine xj_iload_n (n := 3) (i := 3) 2 rfl rfl dX12_show_63 ?_
              refine xj_iload (i := 5) 0 rfl dX12_show_64 ?_
              refine xj_ishr dX12_show_66 ?_
              refine xj_iconst (v := 1) (by decide) dX12_show_67 ?_
              refine xj_iand dX12_show_68 ?_
              refine xj_iconst (v := 1) (by decide) dX12_show_69 ?_
              refine xj_icmp_ne (tgt := 83) (by decide) dX12_show_70 (fun zc70 => ?_) (fun zc70 => ?_)
              · have hbt : ¬ hasF zv3 (nI i) = true := fun y => zc70 (of_decide_eq_true y)
                refine xj_iconst (v := 0) (by decide) dX12_show_83 ?_
                refine xj_iadd dX12_show_84 ?_
                refine xj_topi (fun zv6 ezv6 => ?_)
                refine xj_istore (i := 4) (lv1 := [(4, .int zv6), (5, .int (nI i)), (3, .int zv3), (0, .ref 86), (1, .int (nI ks)), (2, .int pic)]) rfl (Nat.le_of_ble_eq_true rfl) dX12_show_85 ?_
                refine xj_iinc (n := 1) (i := 5) (v := nI (i + 1)) (lv1 := [(5, .int (nI (i + 1))), (4, .int zv6), (3, .int zv3), (0, .ref 86), (1, .int (nI ks)), (2, .int pic)]) 1 rfl (nI_1 i) rfl (Nat.le_of_ble_eq_true rfl) dX12_show_87 ?_
                refine xj_goto (tgt := 54) (by decide) dX12_show_90 ?_
                refine xj_sub (lv' := [(5, .int (nI (i + 1))), (4, .int zv6), (3, .int zv3), (0, .ref 86), (1, .int (nI ks)), (2, .int pic)]) [0, 1, 2, 3, 4, 5] rfl ?_
                have h9 := ih g1 hf
                rw [show sumF (fun c => if hasF zv3 (nI c) = true then coP A Λ ks c else 0) (i + 1) = zv6 from by rw [ezv6]; exact congrArg (sumF (fun c => if hasF zv3 (nI c) = true then coP A Λ ks c else 0) i + ·) (if_neg hbt)] at h9
                exact h9
              · have hbt : hasF zv3 (nI i) = true := decide_eq_true zc70
                refine xj_aload_n (n := 0) (i := 0) 3 rfl rfl dX12_show_73 ?_
                refine xj_iload_n (n := 1) (i := 1) 4 rfl rfl dX12_show_74 ?_
                refine xj_iload (i := 5) 0 rfl dX12_show_75 ?_
                refine xj_callV kv_X12_203 (c_X12_costOf l (d + 2) n hn g1 A Λ O (C.keep (fm.of hf sN_m)) ks i hks (by omega)) (As := [.int (nI ks), .int (nI i)]) (st := [.int (sumF (fun c => if hasF zv3 (nI c) = true then coP A Λ ks c else 0) i)]) (by omega) (fq_86 g1) (ci := 12) rfl rfl rfl rfl (xRm_of (by omega) (by decide) (by omega) (by omega)) (Nat.le_of_ble_eq_true rfl) dX12_show_77 (yk_i (kc := 0) (ks := 0) fun zv7 zg8 hzg8 => ?_)
                obtain ⟨hvzv7, hfnzg8⟩ := hzg8
                have hxzg8 := hfnzg8
                have Czg8 := (C.keep (fm.of hf sN_m)).keep (fm.of hxzg8 sN_m)
                refine xj_goto (tgt := 84) (by decide) dX12_show_80 ?_
                refine xj_iadd dX12_show_84 ?_
                refine xj_topi (fun zv9 ezv9 => ?_)
                refine xj_istore (i := 4) (lv1 := [(4, .int zv9), (5, .int (nI i)), (3, .int zv3), (0, .ref 86), (1, .int (nI ks)), (2, .int pic)]) rfl (Nat.le_of_ble_eq_true rfl) dX12_show_85 ?_
                refine xj_iinc (n := 1) (i := 5) (v := nI (i + 1)) (lv1 := [(5, .int (nI (i + 1))), (4, .int zv9), (3, .int zv3), (0, .ref 86), (1, .int (nI ks)), (2, .int pic)]) 1 rfl (nI_1 i) rfl (Nat.le_of_ble_eq_true rfl) dX12_show_87 ?_
                refine xj_goto (tgt := 54) (by decide) dX12_show_90 ?_
                refine xj_sub (lv' := [(5, .int (nI (i + 1))), (4, .int zv9), (3, .int zv3), (0, .ref 86), (1, .int (nI ks)), (2, .int pic)]) [0, 1, 2, 3, 4, 5] rfl ?_
                have h9 := ih zg8 (hf.tr hxzg8)
                rw [show sumF (fun c => if hasF zv3 (nI c) = true then coP A Λ ks c else 0) (i + 1) = zv9 from by rw [ezv9, hvzv7]; exact congrArg (sumF (fun c => if hasF zv3 (nI c) = true then coP A Λ ks c else 0) i + ·) (if_pos hbt)] at h9
                exact h9
        refine xj_sub (lv' := [(5, .int 0), (4, .int 0), (3, .int zv3), (0, .ref 86), (1, .int (nI ks)), (2, .int pic)]) [0, 1, 2, 3, 4, 5] rfl ?_
        exact key 0 (Nat.zero_le _) zg5 (hxzg2.tr hxzg5)
      · have hsh : zv3 &&& (leP A Λ ks ^^^ (-1)) = pic &&& (A 3 ks ^^^ (-1)) := by rw [ezv3]; exact (sh_set pic (clP A Λ ks) (A 3 ks))
        rw [hsh] at zc43
        refine xj_iconst (v := (-1)) (by decide) dX12_show_46 ?_
        exact xj_ireturn rfl (nr_i _) (Nat.zero_le _) (Nat.zero_le _) dX12_show_47 (qI_e ⟨by unfold vShow; (try simp only [nI_clamp (show ks < 2147483648 by omega)]); rw [if_pos zp5, if_pos zp18, if_neg zc43]; all_goals (rfl), (hxzg2.tr hxzg5)⟩)
    · have zp18 : ¬ (0 ≤ pic ∧ pic ≤ 65535) := bI_0.mp zc18
      refine xj_bipush (v := (-7)) (by decide) dX12_show_21 ?_
      exact xj_ireturn rfl (nr_i _) (Nat.zero_le _) (Nat.zero_le _) dX12_show_23 (qI_e ⟨by unfold vShow; (try simp only [nI_clamp (show ks < 2147483648 by omega)]); rw [if_pos zp5, if_neg zp18]; all_goals (rfl), fr.rf⟩)
  · have zp5 : ¬ (isSl A s) := bI_0.mp zc5
    refine xj_bipush (v := (-5)) (by decide) dX12_show_8 ?_
    exact xj_ireturn rfl (nr_i _) (Nat.zero_le _) (Nat.zero_le _) dX12_show_10 (qI_e ⟨by unfold vShow; rw [if_neg zp5]; all_goals (rfl), fr.rf⟩)
set_option maxHeartbeats 4000000 in
set_option maxRecDepth 100000 in
theorem c_X12_isSoDull (l : Launch) (d : Nat) (n : Nat) (hn : 110 ≤ n) (g : xG) (A : zSt) (Λ : Nat → xL) (O : okA A) (C : mA g A Λ) (q s c v : Nat) (hq : q < 4) (hs : s < aS A) (hc : c < 16) (hv : v ≤ 99) (hz20 : aQ A q ≤ 20) (hSB : ∀ k, k < aQ A q → g 108 k = rsP A Λ s k)  : xC l yX12_isSoDull cX12_isSoDull 8 (some .boolean) (xR (d + 4) 0 0) [.ref 86, .int (nI q), .int (nI s), .int (nI c), .int (nI v)] (n, fh g) (qI n fun z g1 => z = bI (soF A Λ q s c v = true) ∧ fr sN g g1) := by
  refine xC_of false (by decide +kernel) (fun z => by cases z) (Nat.le_of_ble_eq_true rfl) ?_
  have hS6 := O.1.2
  have hW := O.W
  have hT6 := O.2.2.2.1.2.2
  have hN9 := O.2.1.2
  have hs6_s : s < 6 := by omega
  show xJ l (RX12, 8, (some .boolean), false, (xR (d + 4) 0 0), none) cX12_isSoDull _ 0 0 0 [(0, .ref 86), (1, .int (nI q)), (2, .int (nI s)), (3, .int (nI c)), (4, .int (nI v))] [] (n, fh g)
  refine xj_iload (i := 4) 4 rfl dX12_isSoDull_0 ?_
  refine xj_istore (i := 5) (lv1 := [(5, .int (nI v)), (0, .ref 86), (1, .int (nI q)), (2, .int (nI s)), (3, .int (nI c)), (4, .int (nI v))]) rfl (Nat.le_of_ble_eq_true rfl) dX12_isSoDull_2 ?_
  refine xj_iconst (v := 0) (by decide) dX12_isSoDull_4 ?_
  refine xj_istore (i := 6) (lv1 := [(6, .int 0), (5, .int (nI v)), (0, .ref 86), (1, .int (nI q)), (2, .int (nI s)), (3, .int (nI c)), (4, .int (nI v))]) rfl (Nat.le_of_ble_eq_true rfl) dX12_isSoDull_5 ?_
  have key : ∀ i, i ≤ aQ A q → ∀ (g1 : xG), fr sN g g1 → allF (sdB A Λ q s c (nI v)) (aQ A q) 0 = allF (sdB A Λ q s c (nI v)) (aQ A q - i) i → xJ l (RX12, 8, (some .boolean), false, (xR (d + 4) 0 0), none) cX12_isSoDull (qI n fun z g1 => z = bI (soF A Λ q s c v = true) ∧ fr sN g g1) 0 0 7 [(6, .int (nI i)), (5, .int (ceP A Λ s c (nI v) i)), (0, .ref 86), (1, .int (nI q)), (2, .int (nI s)), (3, .int (nI c)), (4, .int (nI v))] [] (n, fh g1) := by
    refine x_loop (aQ A q) _ ?_ ?_
    · intro g1 hf hz
      refine xj_iload (i := 6) 0 rfl dX12_isSoDull_7 ?_
      refine xj_aload_n (n := 0) (i := 0) 2 rfl rfl dX12_isSoDull_9 ?_
      refine yj_getf (v := .ref 98) fl_X12_47_12 (by omega) (fq_86 g1) rfl dX12_isSoDull_10 ?_
      refine xj_iload_n (n := 1) (i := 1) 3 rfl rfl dX12_isSoDull_13 ?_
      refine yj_ialdN q (by omega) fA_98 rfl (by omega) (by decide) dX12_isSoDull_14 ?_
      refine xj_top ((C.keep (fm.of hf sN_m)).qz O hq) ?_
      refine xj_icmp_ge (tgt := 123) (by decide) dX12_isSoDull_15 (fun zc15 => ?_) (fun zc15 => ?_)
      · refine xj_iconst (v := 1) (by decide) dX12_isSoDull_123 ?_
        exact xj_ireturn rfl nr_b1 (Nat.zero_le _) (Nat.zero_le _) dX12_isSoDull_124 (qI_e ⟨(bI_t ((so_iff O hs hc).mp (by rw [hz, Nat.sub_self]; rfl))).symm, hf⟩)
      · exact absurd (nI_le (Nat.le_refl _) (by omega)) zc15
    · intro i hi ih g1 hf hz
      have hce := ce_n (Λ := Λ) O hs hc (⟨v, hv, rfl⟩ : nI99 (nI v) 99) i
      have hstep : allF (sdB A Λ q s c (nI v)) (aQ A q - i) i = if (sdB A Λ q s c (nI v)) i = true then allF (sdB A Λ q s c (nI v)) (aQ A q - (i + 1)) (i + 1) else false := by rw [show aQ A q - i = aQ A q - (i + 1) + 1 by omega]; rfl
      refine xj_iload (i := 6) 0 rfl dX12_isSoDull_7 ?_
      refine xj_aload_n (n := 0) (i := 0) 2 rfl rfl dX12_isSoDull_9 ?_
      refine yj_getf (v := .ref 98) fl_X12_47_12 (by omega) (fq_86 g1) rfl dX12_isSoDull_10 ?_
      refine xj_iload_n (n := 1) (i := 1) 3 rfl rfl dX12_isSoDull_13 ?_
      refine yj_ialdN q (by omega) fA_98 rfl (by omega) (by decide) dX12_isSoDull_14 ?_
      refine xj_top ((C.keep (fm.of hf sN_m)).qz O hq) ?_
      refine xj_icmp_ge (tgt := 123) (by decide) dX12_isSoDull_15 (fun zc15 => ?_) (fun zc15 => ?_)
      · exact absurd zc15 (nI_ge hi (by omega))
      · refine xj_aload_n (n := 0) (i := 0) 2 rfl rfl dX12_isSoDull_18 ?_
        refine xj_iload_n (n := 2) (i := 2) 4 rfl rfl dX12_isSoDull_19 ?_
        refine xj_iload_n (n := 3) (i := 3) 5 rfl rfl dX12_isSoDull_20 ?_
        refine xj_iload (i := 5) 1 rfl dX12_isSoDull_21 ?_
        refine xj_aload_n (n := 0) (i := 0) 2 rfl rfl dX12_isSoDull_23 ?_
        refine yj_getf (v := .int (nI (aN A))) fl_X12_97_12 (by omega) (fq_86 g1) (congrArg (fun z => some (Value.int z)) ((C.keep (fm.of hf sN_m)).N O)) dX12_isSoDull_24 ?_
        refine xj_iload (i := 6) 0 rfl dX12_isSoDull_27 ?_
        refine xj_iadd dX12_isSoDull_29 ?_
        refine xj_top (nI_add _ _) ?_
        refine xj_callV kv_X12_196 (c_X12_isClear l (d + 0) n hn g1 A Λ O (C.keep (fm.of hf sN_m)) s c hs (by omega) (ceP A Λ s c (nI v) i) (nI ((aN A) + i))) (As := [.int (nI s), .int (nI c), .int (ceP A Λ s c (nI v) i), .int (nI ((aN A) + i))]) (st := []) (by omega) (fq_86 g1) (ci := 12) rfl rfl rfl rfl (xRm_of (by omega) (by decide) (by omega) (by omega)) (Nat.le_of_ble_eq_true rfl) dX12_isSoDull_30 (yk_i (kc := 0) (ks := 0) fun zv1 zg2 hzg2 => ?_)
        obtain ⟨hvzv1, hfnzg2⟩ := hzg2
        have hxzg2 := hfnzg2
        have Czg2 := (C.keep (fm.of hf sN_m)).keep (fm.of hxzg2 sN_m)
        refine xj_if_eq (tgt := 49) (by decide) dX12_isSoDull_33 (fun zc33 => ?_) (fun zc33 => ?_)
        · have hcl : ¬ clB A Λ s c (nI v) i = true := bI_0.mp (hvzv1.symm.trans zc33)
          refine xj_iconst (v := 0) (by decide) dX12_isSoDull_49 ?_
          refine xj_istore (i := 7) (lv1 := [(7, .int 0), (6, .int (nI i)), (5, .int (ceP A Λ s c (nI v) i)), (0, .ref 86), (1, .int (nI q)), (2, .int (nI s)), (3, .int (nI c)), (4, .int (nI v))]) rfl (Nat.le_of_ble_eq_true rfl) dX12_isSoDull_50 ?_
          refine xj_aload_n (n := 0) (i := 0) 3 rfl rfl dX12_isSoDull_52 ?_
          refine yj_getf (v := .ref 99) fl_X12_50_12 (by omega) (fq_86 zg2) rfl dX12_isSoDull_53 ?_
          refine xj_bipush (v := 40) (by decide) dX12_isSoDull_56 ?_
          refine xj_iload_n (n := 1) (i := 1) 4 rfl rfl dX12_isSoDull_58 ?_
          refine xj_imul dX12_isSoDull_59 ?_
          refine xj_top (pk_mul 40 q) ?_
          refine xj_iload (i := 6) 1 rfl dX12_isSoDull_60 ?_
          refine xj_iadd dX12_isSoDull_62 ?_
          refine xj_top (nI_add _ _) ?_
          refine yj_ialdN ((40 * q) + i) (by omega) fA_99 rfl (by omega) (by decide) dX12_isSoDull_63 ?_
          refine xj_top (Czg2.qn hq (by omega)) ?_
          refine xj_aload_n (n := 0) (i := 0) 3 rfl rfl dX12_isSoDull_64 ?_
          refine yj_getf (v := .ref 108) fl_X12_77_12 (by omega) (fq_86 zg2) rfl dX12_isSoDull_65 ?_
          refine xj_iload (i := 6) 1 rfl dX12_isSoDull_68 ?_
          refine xj_iconst (v := 0) (by decide) dX12_isSoDull_70 ?_
          refine xj_bipush (v := 19) (by decide) dX12_isSoDull_71 ?_
          refine xj_callS ks_X12_173 (c_X12_within l (d + 3) (nI i) 0 19 _) (As := [.int (nI i), .int 0, .int 19]) (st := [.ref 108, .int (A (40 + q) i)]) rfl rfl (xRm_of (by omega) (by decide) (by omega) (by omega)) (Nat.le_of_ble_eq_true rfl) dX12_isSoDull_73 (yk_p (kc := 0) (ks := 0) ?_)
          refine xj_top (show (wiF (nI i) 0 19) = nI i from (wi_19 (by omega))) ?_
          refine yj_ialdN i (by omega) fA_108 rfl (by omega) (by decide) dX12_isSoDull_76 ?_
          refine xj_top (show zg2 108 i = rsP A Λ s i from by rw [(hf.tr hxzg2) 108 (by unfold sN; omega)]; exact hSB _ hi) ?_
          refine xj_iconst (v := 1) (by decide) dX12_isSoDull_77 ?_
          refine xj_iload_n (n := 3) (i := 3) 6 rfl rfl dX12_isSoDull_78 ?_
          refine xj_ishl dX12_isSoDull_79 ?_
          refine xj_iconst (v := (-1)) (by decide) dX12_isSoDull_80 ?_
          refine xj_ixor dX12_isSoDull_81 ?_
          refine xj_iand dX12_isSoDull_82 ?_
          refine xj_iload (i := 7) 0 rfl dX12_isSoDull_83 ?_
          refine xj_ior dX12_isSoDull_85 ?_
          refine xj_icmp_eq (tgt := 91) (by decide) dX12_isSoDull_86 (fun zc86 => ?_) (fun zc86 => ?_)
          · have hsx : sdX A Λ s c (nI v) i = (rsP A Λ s i &&& (bitF c ^^^ (-1))) ||| 0 := (show sdX A Λ s c (nI v) i = (rsP A Λ s i &&& (bitF c ^^^ (-1))) ||| 0 from by unfold sdX; rw [if_neg hcl])
            have hob : (sdB A Λ q s c (nI v)) i = true := decide_eq_true (zc86.trans hsx.symm)
            refine xj_iload (i := 5) 2 rfl dX12_isSoDull_91 ?_
            refine xj_aload_n (n := 0) (i := 0) 3 rfl rfl dX12_isSoDull_93 ?_
            refine xj_iload_n (n := 2) (i := 2) 5 rfl rfl dX12_isSoDull_94 ?_
            refine xj_iload_n (n := 3) (i := 3) 6 rfl rfl dX12_isSoDull_95 ?_
            refine xj_iload (i := 5) 2 rfl dX12_isSoDull_96 ?_
            refine xj_aload_n (n := 0) (i := 0) 3 rfl rfl dX12_isSoDull_98 ?_
            refine yj_getf (v := .int (nI (aN A))) fl_X12_97_12 (by omega) (fq_86 zg2) (congrArg (fun z => some (Value.int z)) (Czg2.N O)) dX12_isSoDull_99 ?_
            refine xj_iload (i := 6) 1 rfl dX12_isSoDull_102 ?_
            refine xj_iadd dX12_isSoDull_104 ?_
            refine xj_top (nI_add _ _) ?_
            refine xj_callV kv_X12_218 (c_X12_dullerOf l (d + 0) n hn zg2 A Λ O Czg2 s c hs (by omega) (ceP A Λ s c (nI v) i) (nI ((aN A) + i))) (As := [.int (nI s), .int (nI c), .int (ceP A Λ s c (nI v) i), .int (nI ((aN A) + i))]) (st := [.int (ceP A Λ s c (nI v) i)]) (by omega) (fq_86 zg2) (ci := 12) rfl rfl rfl rfl (xRm_of (by omega) (by decide) (by omega) (by omega)) (Nat.le_of_ble_eq_true rfl) dX12_isSoDull_105 (yk_i (kc := 0) (ks := 0) fun zv3 zg4 hzg4 => ?_)
            obtain ⟨hvzv3, hfnzg4⟩ := hzg4
            have hxzg4 := hfnzg4
            have Czg4 := Czg2.keep (fm.of hxzg4 sN_m)
            refine xj_iadd dX12_isSoDull_108 ?_
            refine xj_iconst (v := 0) (by decide) dX12_isSoDull_109 ?_
            refine xj_bipush (v := 99) (by decide) dX12_isSoDull_110 ?_
            refine xj_callS ks_X12_173 (c_X12_within l (d + 3) ((ceP A Λ s c (nI v) i) + zv3) 0 99 _) (As := [.int ((ceP A Λ s c (nI v) i) + zv3), .int 0, .int 99]) (st := []) rfl rfl (xRm_of (by omega) (by decide) (by omega) (by omega)) (Nat.le_of_ble_eq_true rfl) dX12_isSoDull_112 (yk_p (kc := 0) (ks := 0) ?_)
            refine xj_topi (fun zv5 ezv5 => ?_)
            refine xj_istore (i := 5) (lv1 := [(5, .int zv5), (7, .int 0), (6, .int (nI i)), (0, .ref 86), (1, .int (nI q)), (2, .int (nI s)), (3, .int (nI c)), (4, .int (nI v))]) rfl (Nat.le_of_ble_eq_true rfl) dX12_isSoDull_115 ?_
            refine xj_iinc (n := 1) (i := 6) (v := nI (i + 1)) (lv1 := [(6, .int (nI (i + 1))), (5, .int zv5), (7, .int 0), (0, .ref 86), (1, .int (nI q)), (2, .int (nI s)), (3, .int (nI c)), (4, .int (nI v))]) 2 rfl (nI_1 i) rfl (Nat.le_of_ble_eq_true rfl) dX12_isSoDull_117 ?_
            refine xj_goto (tgt := 7) (by decide) dX12_isSoDull_120 ?_
            refine xj_sub (lv' := [(6, .int (nI (i + 1))), (5, .int zv5), (0, .ref 86), (1, .int (nI q)), (2, .int (nI s)), (3, .int (nI c)), (4, .int (nI v))]) [0, 1, 3, 4, 5, 6, 7] rfl ?_
            have hd9 : ceP A Λ s c (nI v) (i + 1) = zv5 := by rw [ezv5, hvzv3]; exact (wi_99 (m := 208) (by decide) (dlr_n O hs c (nI (aN A + i)) hce)).symm
            have h9 := ih zg4 ((hf.tr hxzg2).tr hxzg4) (by rw [hz, hstep, if_pos hob])
            rw [hd9] at h9
            exact h9
          · have hsx : sdX A Λ s c (nI v) i = (rsP A Λ s i &&& (bitF c ^^^ (-1))) ||| 0 := (show sdX A Λ s c (nI v) i = (rsP A Λ s i &&& (bitF c ^^^ (-1))) ||| 0 from by unfold sdX; rw [if_neg hcl])
            have hob : ¬ (sdB A Λ q s c (nI v)) i = true := fun y => zc86 ((of_decide_eq_true y).trans hsx)
            refine xj_iconst (v := 0) (by decide) dX12_isSoDull_89 ?_
            exact xj_ireturn rfl nr_b0 (Nat.zero_le _) (Nat.zero_le _) dX12_isSoDull_90 (qI_e ⟨(bI_f (fun y => by have y2 := (so_iff O hs hc).mpr y; rw [hz, hstep, if_neg hob] at y2; cases y2)).symm, (hf.tr hxzg2)⟩)
        · have hcl : clB A Λ s c (nI v) i = true := bI_n0.mp (fun z => zc33 (hvzv1.trans z))
          refine xj_aload_n (n := 0) (i := 0) 2 rfl rfl dX12_isSoDull_36 ?_
          refine yj_getf (v := .ref 90) fl_X12_19_12 (by omega) (fq_86 zg2) rfl dX12_isSoDull_37 ?_
          refine xj_iload_n (n := 2) (i := 2) 4 rfl rfl dX12_isSoDull_40 ?_
          refine yj_ialdN s (by omega) fA_90 rfl (by omega) (by decide) dX12_isSoDull_41 ?_
          refine xj_top (Czg2.pi hs) ?_
          refine xj_iconst (v := 1) (by decide) dX12_isSoDull_42 ?_
          refine xj_iload_n (n := 3) (i := 3) 5 rfl rfl dX12_isSoDull_43 ?_
          refine xj_ishl dX12_isSoDull_44 ?_
          refine xj_iand dX12_isSoDull_45 ?_
          refine xj_goto (tgt := 50) (by decide) dX12_isSoDull_46 ?_
          refine xj_topi (fun zv6 ezv6 => ?_)
          refine xj_istore (i := 7) (lv1 := [(7, .int zv6), (6, .int (nI i)), (5, .int (ceP A Λ s c (nI v) i)), (0, .ref 86), (1, .int (nI q)), (2, .int (nI s)), (3, .int (nI c)), (4, .int (nI v))]) rfl (Nat.le_of_ble_eq_true rfl) dX12_isSoDull_50 ?_
          refine xj_aload_n (n := 0) (i := 0) 3 rfl rfl dX12_isSoDull_52 ?_
          refine yj_getf (v := .ref 99) fl_X12_50_12 (by omega) (fq_86 zg2) rfl dX12_isSoDull_53 ?_
          refine xj_bipush (v := 40) (by decide) dX12_isSoDull_56 ?_
          refine xj_iload_n (n := 1) (i := 1) 4 rfl rfl dX12_isSoDull_58 ?_
          refine xj_imul dX12_isSoDull_59 ?_
          refine xj_top (pk_mul 40 q) ?_
          refine xj_iload (i := 6) 1 rfl dX12_isSoDull_60 ?_
          refine xj_iadd dX12_isSoDull_62 ?_
          refine xj_top (nI_add _ _) ?_
          refine yj_ialdN ((40 * q) + i) (by omega) fA_99 rfl (by omega) (by decide) dX12_isSoDull_63 ?_
          refine xj_top (Czg2.qn hq (by omega)) ?_
          refine xj_aload_n (n := 0) (i := 0) 3 rfl rfl dX12_isSoDull_64 ?_
          refine yj_getf (v := .ref 108) fl_X12_77_12 (by omega) (fq_86 zg2) rfl dX12_isSoDull_65 ?_
          refine xj_iload (i := 6) 1 rfl dX12_isSoDull_68 ?_
          refine xj_iconst (v := 0) (by decide) dX12_isSoDull_70 ?_
          refine xj_bipush (v := 19) (by decide) dX12_isSoDull_71 ?_
          refine xj_callS ks_X12_173 (c_X12_within l (d + 3) (nI i) 0 19 _) (As := [.int (nI i), .int 0, .int 19]) (st := [.ref 108, .int (A (40 + q) i)]) rfl rfl (xRm_of (by omega) (by decide) (by omega) (by omega)) (Nat.le_of_ble_eq_true rfl) dX12_isSoDull_73 (yk_p (kc := 0) (ks := 0) ?_)
          refine xj_top (show (wiF (nI i) 0 19) = nI i from (wi_19 (by omega))) ?_
          refine yj_ialdN i (by omega) fA_108 rfl (by omega) (by decide) dX12_isSoDull_76 ?_
          refine xj_top (show zg2 108 i = rsP A Λ s i from by rw [(hf.tr hxzg2) 108 (by unfold sN; omega)]; exact hSB _ hi) ?_
          refine xj_iconst (v := 1) (by decide) dX12_isSoDull_77 ?_
          refine xj_iload_n (n := 3) (i := 3) 6 rfl rfl dX12_isSoDull_78 ?_
          refine xj_ishl dX12_isSoDull_79 ?_
          refine xj_iconst (v := (-1)) (by decide) dX12_isSoDull_80 ?_
          refine xj_ixor dX12_isSoDull_81 ?_
          refine xj_iand dX12_isSoDull_82 ?_
          refine xj_iload (i := 7) 0 rfl dX12_isSoDull_83 ?_
          refine xj_ior dX12_isSoDull_85 ?_
          refine xj_icmp_eq (tgt := 91) (by decide) dX12_isSoDull_86 (fun zc86 => ?_) (fun zc86 => ?_)
          · have hsx : sdX A Λ s c (nI v) i = (rsP A Λ s i &&& (bitF c ^^^ (-1))) ||| zv6 := (show sdX A Λ s c (nI v) i = (rsP A Λ s i &&& (bitF c ^^^ (-1))) ||| zv6 from by unfold sdX; rw [if_pos hcl, ezv6]; rfl)
            have hob : (sdB A Λ q s c (nI v)) i = true := decide_eq_true (zc86.trans hsx.symm)
            refine xj_iload (i := 5) 2 rfl dX12_isSoDull_91 ?_
            refine xj_aload_n (n := 0) (i := 0) 3 rfl rfl dX12_isSoDull_93 ?_
            refine xj_iload_n (n := 2) (i := 2) 5 rfl rfl dX12_isSoDull_94 ?_
            refine xj_iload_n (n := 3) (i := 3) 6 rfl rfl dX12_isSoDull_95 ?_
            refine xj_iload (i := 5) 2 rfl dX12_isSoDull_96 ?_
            refine xj_aload_n (n := 0) (i := 0) 3 rfl rfl dX12_isSoDull_98 ?_
            refine yj_getf (v := .int (nI (aN A))) fl_X12_97_12 (by omega) (fq_86 zg2) (congrArg (fun z => some (Value.int z)) (Czg2.N O)) dX12_isSoDull_99 ?_
            refine xj_iload (i := 6) 1 rfl dX12_isSoDull_102 ?_
            refine xj_iadd dX12_isSoDull_104 ?_
            refine xj_top (nI_add _ _) ?_
            refine xj_callV kv_X12_218 (c_X12_dullerOf l (d + 0) n hn zg2 A Λ O Czg2 s c hs (by omega) (ceP A Λ s c (nI v) i) (nI ((aN A) + i))) (As := [.int (nI s), .int (nI c), .int (ceP A Λ s c (nI v) i), .int (nI ((aN A) + i))]) (st := [.int (ceP A Λ s c (nI v) i)]) (by omega) (fq_86 zg2) (ci := 12) rfl rfl rfl rfl (xRm_of (by omega) (by decide) (by omega) (by omega)) (Nat.le_of_ble_eq_true rfl) dX12_isSoDull_105 (yk_i (kc := 0) (ks := 0) fun zv7 zg8 hzg8 => ?_)
            obtain ⟨hvzv7, hfnzg8⟩ := hzg8
            have hxzg8 := hfnzg8
            have Czg8 := Czg2.keep (fm.of hxzg8 sN_m)
            refine xj_iadd dX12_isSoDull_108 ?_
            refine xj_iconst (v := 0) (by decide) dX12_isSoDull_109 ?_
            refine xj_bipush (v := 99) (by decide) dX12_isSoDull_110 ?_
            refine xj_callS ks_X12_173 (c_X12_within l (d + 3) ((ceP A Λ s c (nI v) i) + zv7) 0 99 _) (As := [.int ((ceP A Λ s c (nI v) i) + zv7), .int 0, .int 99]) (st := []) rfl rfl (xRm_of (by omega) (by decide) (by omega) (by omega)) (Nat.le_of_ble_eq_true rfl) dX12_isSoDull_112 (yk_p (kc := 0) (ks := 0) ?_)
            refine xj_topi (fun zv9 ezv9 => ?_)
            refine xj_istore (i := 5) (lv1 := [(5, .int zv9), (7, .int zv6), (6, .int (nI i)), (0, .ref 86), (1, .int (nI q)), (2, .int (nI s)), (3, .int (nI c)), (4, .int (nI v))]) rfl (Nat.le_of_ble_eq_true rfl) dX12_isSoDull_115 ?_
            refine xj_iinc (n := 1) (i := 6) (v := nI (i + 1)) (lv1 := [(6, .int (nI (i + 1))), (5, .int zv9), (7, .int zv6), (0, .ref 86), (1, .int (nI q)), (2, .int (nI s)), (3, .int (nI c)), (4, .int (nI v))]) 2 rfl (nI_1 i) rfl (Nat.le_of_ble_eq_true rfl) dX12_isSoDull_117 ?_
            refine xj_goto (tgt := 7) (by decide) dX12_isSoDull_120 ?_
            refine xj_sub (lv' := [(6, .int (nI (i + 1))), (5, .int zv9), (0, .ref 86), (1, .int (nI q)), (2, .int (nI s)), (3, .int (nI c)), (4, .int (nI v))]) [0, 1, 3, 4, 5, 6, 7] rfl ?_
            have hd9 : ceP A Λ s c (nI v) (i + 1) = zv9 := by rw [ezv9, hvzv7]; exact (wi_99 (m := 208) (by decide) (dlr_n O hs c (nI (aN A + i)) hce)).symm
            have h9 := ih zg8 ((hf.tr hxzg2).tr hxzg8) (by rw [hz, hstep, if_pos hob])
            rw [hd9] at h9
            exact h9
          · have hsx : sdX A Λ s c (nI v) i = (rsP A Λ s i &&& (bitF c ^^^ (-1))) ||| zv6 := (show sdX A Λ s c (nI v) i = (rsP A Λ s i &&& (bitF c ^^^ (-1))) ||| zv6 from by unfold sdX; rw [if_pos hcl, ezv6]; rfl)
            have hob : ¬ (sdB A Λ q s c (nI v)) i = true := fun y => zc86 ((of_decide_eq_true y).trans hsx)
            refine xj_iconst (v := 0) (by decide) dX12_isSoDull_89 ?_
            exact xj_ireturn rfl nr_b0 (Nat.zero_le _) (Nat.zero_le _) dX12_isSoDull_90 (qI_e ⟨(bI_f (fun y => by have y2 := (so_iff O hs hc).mpr y; rw [hz, hstep, if_neg hob] at y2; cases y2)).symm, (hf.tr hxzg2)⟩)
  refine xj_sub (lv' := [(6, .int 0), (5, .int (nI v)), (0, .ref 86), (1, .int (nI q)), (2, .int (nI s)), (3, .int (nI c)), (4, .int (nI v))]) [0, 1, 2, 3, 4, 5, 6] rfl ?_
  exact key 0 (Nat.zero_le _) g fr.rf rfl
set_option maxHeartbeats 4000000 in
set_option maxRecDepth 100000 in
theorem c_X12_rowNight8 (l : Launch) (d : Nat) (n : Nat) (hn : 110 ≤ n) (g : xG) (A : zSt) (Λ : Nat → xL) (O : okA A) (C : mA g A Λ) (s : Nat) (hs : s < aS A) (d0 : Nat → Int32) (N : Nat) (R : rwA g d0 N)  : xC l yX12_rowNight cX12_rowNight 3 none (xR (d + 4) 0 0) [.ref 86, .int (nI s)] (n, fh g) (qV n fun g1 => rwA g1 (nightR (Λ (aW A)) (aK A s) (A 2 s) (A 3 s) d0 (nI N) 16) (N + 1) ∧ g1 108 = g 108 ∧ fm g g1) := by
  refine xC_of false (by decide +kernel) (fun z => by cases z) (Nat.le_of_ble_eq_true rfl) ?_
  have hS6 := O.1.2
  have hW := O.W
  have hT6 := O.2.2.2.1.2.2
  have hN9 := O.2.1.2
  have hs6_s : s < 6 := by omega
  show xJ l (RX12, 3, none, false, (xR (d + 4) 0 0), none) cX12_rowNight _ 0 0 0 [(0, .ref 86), (1, .int (nI s))] [] (n, fh g)
  refine xj_iconst (v := 0) (by decide) dX12_rowNight_0 ?_
  refine xj_istore_n (n := 2) (i := 2) (lv1 := [(2, .int 0), (0, .ref 86), (1, .int (nI s))]) rfl rfl (Nat.le_of_ble_eq_true rfl) dX12_rowNight_1 ?_
  have key : ∀ i, i ≤ 16 → ∀ (g1 : xG), fm g g1 → (∀ j, j < 16 → g1 105 j = (nightR (Λ (aW A)) (aK A s) (A 2 s) (A 3 s) d0 (nI N) i) j) → g1 86 33 = nI N → g1 108 = g 108 → xJ l (RX12, 3, none, false, (xR (d + 4) 0 0), none) cX12_rowNight (qV n fun g1 => rwA g1 (nightR (Λ (aW A)) (aK A s) (A 2 s) (A 3 s) d0 (nI N) 16) (N + 1) ∧ g1 108 = g 108 ∧ fm g g1) 0 0 2 [(2, .int (nI i)), (0, .ref 86), (1, .int (nI s))] [] (n, fh g1) := by
    refine x_loop 16 _ ?_ ?_
    · intro g1 hf hP h33 hq8
      refine xj_iload_n (n := 2) (i := 2) 0 rfl rfl dX12_rowNight_2 ?_
      refine xj_bipush (v := 16) (by decide) dX12_rowNight_3 ?_
      refine xj_icmp_ge (tgt := 49) (by decide) dX12_rowNight_5 (fun zc5 => ?_) (fun zc5 => ?_)
      · refine xj_aload_n (n := 0) (i := 0) 1 rfl rfl dX12_rowNight_49 ?_
        refine xj_dup rfl dX12_rowNight_50 ?_
        refine yj_getf (v := .int (nI N)) fl_X12_222_12 (by omega) (fq_86 g1) (congrArg (fun z => some (Value.int z)) h33) dX12_rowNight_51 ?_
        refine xj_iconst (v := 1) (by decide) dX12_rowNight_54 ?_
        refine xj_iadd dX12_rowNight_55 ?_
        refine xj_top (nI_add N 1) ?_
        refine yj_puti fl_X12_222_12 (by omega) fS_86_33 (fi_i _) dX12_rowNight_56 ?_
        obtain ⟨zg1, ezg1⟩ : ∃ z, z = gs g1 86 33 (nI (N + 1)) := ⟨_, rfl⟩
        rw [← ezg1]
        have hxzg1 : fm g zg1 := by rw [ezg1]; exact hf.g86 (by omega) _
        have Czg1 := C.keep hxzg1
        exact xj_return rfl (Nat.zero_le _) (Nat.zero_le _) dX12_rowNight_59 (qV_e ⟨⟨fun c hc => ⟨by rw [ezg1, gs_n _ _ _ (by decide)]; exact hP c hc, okP_night (Λ (aW A)) (nI N) (O.2.2.2.2.2.2.1 s hs |> fun h => ⟨h.1, h.2.1, h.2.2.1, fun c hc => (R.1 c hc).2⟩) 16 c hc⟩, by rw [ezg1, gs_s, upd_s]⟩, by rw [ezg1, gs_n _ _ _ (by decide)]; exact hq8, hxzg1⟩)
      · exact absurd (nI_le (Nat.le_refl _) (by decide)) zc5
    · intro i hi ih g1 hf hP h33 hq8
      have hd9 : g1 105 i = d0 i := by rw [hP i (by omega)]; exact if_neg (Nat.lt_irrefl i)
      refine xj_iload_n (n := 2) (i := 2) 0 rfl rfl dX12_rowNight_2 ?_
      refine xj_bipush (v := 16) (by decide) dX12_rowNight_3 ?_
      refine xj_icmp_ge (tgt := 49) (by decide) dX12_rowNight_5 (fun zc5 => ?_) (fun zc5 => ?_)
      · exact absurd zc5 (nI_ge hi (by decide))
      · refine xj_aload_n (n := 0) (i := 0) 1 rfl rfl dX12_rowNight_8 ?_
        refine yj_getf (v := .ref 105) fl_X12_68_12 (by omega) (fq_86 g1) rfl dX12_rowNight_9 ?_
        refine xj_iload_n (n := 2) (i := 2) 0 rfl rfl dX12_rowNight_12 ?_
        refine xj_aload_n (n := 0) (i := 0) 1 rfl rfl dX12_rowNight_13 ?_
        refine yj_getf (v := .ref 105) fl_X12_68_12 (by omega) (fq_86 g1) rfl dX12_rowNight_14 ?_
        refine xj_iload_n (n := 2) (i := 2) 0 rfl rfl dX12_rowNight_17 ?_
        refine yj_ialdN i (by omega) fA_105 rfl (by omega) (by decide) dX12_rowNight_18 ?_
        refine xj_top hd9 ?_
        refine xj_aload_n (n := 0) (i := 0) 1 rfl rfl dX12_rowNight_19 ?_
        refine xj_iload_n (n := 1) (i := 1) 2 rfl rfl dX12_rowNight_20 ?_
        refine xj_iload_n (n := 2) (i := 2) 0 rfl rfl dX12_rowNight_21 ?_
        refine xj_aload_n (n := 0) (i := 0) 1 rfl rfl dX12_rowNight_22 ?_
        refine yj_getf (v := .ref 105) fl_X12_68_12 (by omega) (fq_86 g1) rfl dX12_rowNight_23 ?_
        refine xj_iload_n (n := 2) (i := 2) 0 rfl rfl dX12_rowNight_26 ?_
        refine yj_ialdN i (by omega) fA_105 rfl (by omega) (by decide) dX12_rowNight_27 ?_
        refine xj_top hd9 ?_
        refine xj_aload_n (n := 0) (i := 0) 1 rfl rfl dX12_rowNight_28 ?_
        refine yj_getf (v := .int (nI N)) fl_X12_222_12 (by omega) (fq_86 g1) (congrArg (fun z => some (Value.int z)) h33) dX12_rowNight_29 ?_
        refine xj_callV kv_X12_218 (c_X12_dullerOf l (d + 0) n hn g1 A Λ O (C.keep hf) s i hs (by omega) (d0 i) (nI N)) (As := [.int (nI s), .int (nI i), .int (d0 i), .int (nI N)]) (st := [.int (d0 i), .int (nI i), .ref 105]) (by omega) (fq_86 g1) (ci := 12) rfl rfl rfl rfl (xRm_of (by omega) (by decide) (by omega) (by omega)) (Nat.le_of_ble_eq_true rfl) dX12_rowNight_32 (yk_i (kc := 0) (ks := 0) fun zv2 zg3 hzg3 => ?_)
        obtain ⟨hvzv2, hfnzg3⟩ := hzg3
        have hxzg3 := fm.of hfnzg3 sN_m
        have Czg3 := (C.keep hf).keep hxzg3
        refine xj_iadd dX12_rowNight_35 ?_
        refine xj_iconst (v := 0) (by decide) dX12_rowNight_36 ?_
        refine xj_bipush (v := 99) (by decide) dX12_rowNight_37 ?_
        refine xj_callS ks_X12_173 (c_X12_within l (d + 3) ((d0 i) + zv2) 0 99 _) (As := [.int ((d0 i) + zv2), .int 0, .int 99]) (st := [.int (nI i), .ref 105]) rfl rfl (xRm_of (by omega) (by decide) (by omega) (by omega)) (Nat.le_of_ble_eq_true rfl) dX12_rowNight_39 (yk_p (kc := 0) (ks := 0) ?_)
        refine xj_topi (fun zv4 ezv4 => ?_)
        refine yj_iastN i (by omega) fA_105 rfl (by omega) (by decide) dX12_rowNight_42 ?_
        obtain ⟨zg5, ezg5⟩ : ∃ z, z = gs zg3 105 i zv4 := ⟨_, rfl⟩
        rw [← ezg5]
        have hxzg5 : fm g zg5 := by rw [ezg5]; exact (hf.tr hxzg3).gS (by unfold sM; omega) _ _
        have Czg5 := C.keep hxzg5
        refine xj_iinc (n := 1) (i := 2) (v := nI (i + 1)) (lv1 := [(2, .int (nI (i + 1))), (0, .ref 86), (1, .int (nI s))]) 0 rfl (nI_1 i) rfl (Nat.le_of_ble_eq_true rfl) dX12_rowNight_43 ?_
        refine xj_goto (tgt := 2) (by decide) dX12_rowNight_46 ?_
        refine xj_sub (lv' := [(2, .int (nI (i + 1))), (0, .ref 86), (1, .int (nI s))]) [0, 1, 2] rfl ?_
        have hz9 : zv4 = min99 (d0 i + dlrF (Λ (aW A)) (aK A s) (A 2 s) (A 3 s) i (d0 i) (nI N)) := by rw [ezv4, hvzv2]; exact wi_99 (m := 208) (by decide) (dlr_n O hs i (nI N) (R.1 i hi).2)
        refine ih zg5 hxzg5 (fun j hj => ?_) (by rw [ezg5, gs_n _ _ _ (by decide), hfnzg3 86 (by unfold sN; omega)]; exact h33) (by rw [ezg5, gs_n _ _ _ (by decide), hfnzg3 108 (by unfold sN; omega)]; exact hq8)
        rw [ezg5, gs_s, hfnzg3 105 (by unfold sN; omega)]
        by_cases eqj : j = i
        · subst eqj; rw [upd_s, hz9]; exact (if_pos (Nat.lt_succ_self j)).symm
        · rw [upd_n _ _ eqj, hP j hj]; unfold nightR; by_cases hlt : j < i
          · exact (if_pos hlt).trans (if_pos (by omega)).symm
          · exact (if_neg hlt).trans (if_neg (by omega)).symm
  refine xj_sub (lv' := [(2, .int 0), (0, .ref 86), (1, .int (nI s))]) [0, 1, 2] rfl ?_
  exact key 0 (Nat.zero_le _) g fm.rf (fun j hj => (R.1 j hj).1.trans (if_neg (Nat.not_lt_zero j)).symm) R.2 rfl
set_option maxHeartbeats 4000000 in
set_option maxRecDepth 100000 in
theorem c_X12_dims (l : Launch) (d : Nat) (n : Nat) (hn : 110 ≤ n) (g : xG) (A : zSt) (Λ : Nat → xL) (O : okA A) (C : mA g A Λ) (q s w : Int32)  : xC l yX12_dims cX12_dims 9 (some .int) (xR (d + 6) 0 0) [.ref 86, .int q, .int s, .int w] (n, fh g) (qI n fun v g1 => v = vDims A Λ q s w ∧ fm g g1) := by
  refine xC_of false (by decide +kernel) (fun z => by cases z) (Nat.le_of_ble_eq_true rfl) ?_
  have hS6 := O.1.2
  have hW := O.W
  have hT6 := O.2.2.2.1.2.2
  have hN9 := O.2.1.2
  show xJ l (RX12, 9, (some .int), false, (xR (d + 6) 0 0), none) cX12_dims _ 0 0 0 [(0, .ref 86), (1, .int q), (2, .int s), (3, .int w)] [] (n, fh g)
  refine xj_aload_n (n := 0) (i := 0) 0 rfl rfl dX12_dims_0 ?_
  refine xj_iload_n (n := 1) (i := 1) 1 rfl rfl dX12_dims_1 ?_
  refine xj_iload_n (n := 2) (i := 2) 2 rfl rfl dX12_dims_2 ?_
  refine xj_callV kv_X12_260 (c_X12_toldWrong l (d + 3) n hn g A Λ O C q s) (As := [.int q, .int s]) (st := []) (by omega) (fq_86 g) (ci := 12) rfl rfl rfl rfl (xRm_of (by omega) (by decide) (by omega) (by omega)) (Nat.le_of_ble_eq_true rfl) dX12_dims_3 (yk_p (kc := 0) (ks := 0) ?_)
  refine xj_istore (i := 4) (lv1 := [(4, .int (refF A q s)), (0, .ref 86), (1, .int q), (2, .int s), (3, .int w)]) rfl (Nat.le_of_ble_eq_true rfl) dX12_dims_6 ?_
  refine xj_iload (i := 4) 0 rfl dX12_dims_8 ?_
  refine xj_if_eq (tgt := 16) (by decide) dX12_dims_10 (fun zc10 => ?_) (fun zc10 => ?_)
  · obtain ⟨kq, ks, hk4_kq, hks, rfl, rfl, hz20⟩ := refF_0 O zc10
    have hs6_ks : ks < 6 := by omega
    refine xj_iload_n (n := 3) (i := 3) 4 rfl rfl dX12_dims_16 ?_
    refine xj_iconst (v := 0) (by decide) dX12_dims_17 ?_
    refine xj_sipush (v := 151) (by decide) dX12_dims_18 ?_
    refine xj_callS ks_X12_93 (c_X12_in l (d + 5) w 0 151 _) (As := [.int w, .int 0, .int 151]) (st := []) rfl rfl (xRm_of (by omega) (by decide) (by omega) (by omega)) (Nat.le_of_ble_eq_true rfl) dX12_dims_21 (yk_p (kc := 0) (ks := 0) ?_)
    refine xj_if_eq (tgt := 35) (by decide) dX12_dims_24 (fun zc24 => ?_) (fun zc24 => ?_)
    · have zp24 : ¬ (0 ≤ w ∧ w ≤ 151) := bI_0.mp zc24
      refine xj_bipush (v := (-7)) (by decide) dX12_dims_35 ?_
      exact xj_ireturn rfl (nr_i _) (Nat.zero_le _) (Nat.zero_le _) dX12_dims_37 (qI_e ⟨(vd_no zc10 zp24).symm, fm.rf⟩)
    · have zp24 : 0 ≤ w ∧ w ≤ 151 := bI_n0.mp zc24
      obtain ⟨kw, hkw, rfl⟩ := nI_bnd (m := 151) (by decide) zp24.1 zp24.2
      have hw15 : 0 ≤ nI (kw / 10) ∧ nI (kw / 10) ≤ 15 := ⟨nI_pos' (by omega), nI_le (b := 15) (by omega) (by decide)⟩
      refine xj_iload_n (n := 3) (i := 3) 4 rfl rfl dX12_dims_27 ?_
      refine xj_bipush (v := 10) (by decide) dX12_dims_28 ?_
      refine xj_irem (by decide) dX12_dims_30 ?_
      refine xj_top (show ((nI kw) - (nI kw) / 10 * 10) = nI (kw % 10) from (pk_rem (a := kw) (d := 10) (by omega) (by omega) (by omega))) ?_
      refine xj_iconst (v := 1) (by decide) dX12_dims_31 ?_
      refine xj_icmp_le (tgt := 38) (by decide) dX12_dims_32 (fun zc32 => ?_) (fun zc32 => ?_)
      · have hw1 : 0 ≤ nI (kw % 10) ∧ nI (kw % 10) ≤ 1 := ⟨nI_pos' (by omega), zc32⟩
        refine xj_aload_n (n := 0) (i := 0) 1 rfl rfl dX12_dims_38 ?_
        refine xj_iload_n (n := 2) (i := 2) 3 rfl rfl dX12_dims_39 ?_
        refine xj_callV kv_X12_225 (c_X12_rowOf l (d + 4) n hn g A Λ O C ks hks) (As := [.int (nI ks)]) (st := []) (by omega) (fq_86 g) (ci := 12) rfl rfl rfl rfl (xRm_of (by omega) (by decide) (by omega) (by omega)) (Nat.le_of_ble_eq_true rfl) dX12_dims_40 (yk_v (kc := 0) (ks := 0) fun zg1 hzg1 => ?_)
        obtain ⟨Rzg1, hxzg1⟩ := hzg1
        have Czg1 := C.keep hxzg1
        refine xj_iconst (v := 0) (by decide) dX12_dims_43 ?_
        refine xj_istore (i := 5) (lv1 := [(5, .int 0), (4, .int (refF A (nI kq) (nI ks))), (0, .ref 86), (1, .int (nI kq)), (2, .int (nI ks)), (3, .int (nI kw))]) rfl (Nat.le_of_ble_eq_true rfl) dX12_dims_44 ?_
        have key : ∀ i, i ≤ 20 → ∀ (g1 : xG), fm g g1 → (i ≤ aQ A kq → rwA g1 (rwP A Λ ks i) (aN A + i)) → (∀ j, j < i → j < aQ A kq → g1 108 j = rsP A Λ ks j) → xJ l (RX12, 9, (some .int), false, (xR (d + 6) 0 0), none) cX12_dims (qI n fun v g1 => v = vDims A Λ (nI kq) (nI ks) (nI kw) ∧ fm g g1) 0 0 46 [(5, .int (nI i)), (0, .ref 86), (1, .int (nI kq)), (2, .int (nI ks)), (3, .int (nI kw))] [] (n, fh g1) := by
          refine x_loop 20 _ ?_ ?_
          · intro g1 hf hR hP
            refine xj_iload (i := 5) 0 rfl dX12_dims_46 ?_
            refine xj_bipush (v := 20) (by decide) dX12_dims_48 ?_
            refine xj_icmp_ge (tgt := 94) (by decide) dX12_dims_50 (fun zc50 => ?_) (fun zc50 => ?_)
            · refine xj_iconst (v := 0) (by decide) dX12_dims_94 ?_
              refine xj_istore (i := 5) (lv1 := [(5, .int 0), (0, .ref 86), (1, .int (nI kq)), (2, .int (nI ks)), (3, .int (nI kw))]) rfl (Nat.le_of_ble_eq_true rfl) dX12_dims_95 ?_
              refine xj_iconst (v := (-1)) (by decide) dX12_dims_97 ?_
              refine xj_istore (i := 6) (lv1 := [(6, .int (-1)), (5, .int 0), (0, .ref 86), (1, .int (nI kq)), (2, .int (nI ks)), (3, .int (nI kw))]) rfl (Nat.le_of_ble_eq_true rfl) dX12_dims_98 ?_
              refine xj_iconst (v := 0) (by decide) dX12_dims_100 ?_
              refine xj_istore (i := 7) (lv1 := [(7, .int 0), (6, .int (-1)), (5, .int 0), (0, .ref 86), (1, .int (nI kq)), (2, .int (nI ks)), (3, .int (nI kw))]) rfl (Nat.le_of_ble_eq_true rfl) dX12_dims_101 ?_
              have hSB : ∀ k, k < aQ A kq → g1 108 k = rsP A Λ ks k := fun k hk => hP k (by omega) hk
              have key2 : ∀ i, i ≤ 100 → ∀ (g2 : xG), fm g g2 → (∀ k, k < aQ A kq → g2 108 k = rsP A Λ ks k) → xJ l (RX12, 9, (some .int), false, (xR (d + 6) 0 0), none) cX12_dims (qI n fun v g1 => v = vDims A Λ (nI kq) (nI ks) (nI kw) ∧ fm g g1) 0 0 103 [(7, .int (nI i)), (5, .int (cnF (soF A Λ kq ks (kw / 10)) i)), (6, .int (fiF (soF A Λ kq ks (kw / 10)) i)), (0, .ref 86), (1, .int (nI kq)), (2, .int (nI ks)), (3, .int (nI kw))] [] (n, fh g2) := by
                refine x_loop 100 _ ?_ ?_
                · intro g2 hf2 h108
                  refine xj_iload (i := 7) 0 rfl dX12_dims_103 ?_
                  refine xj_bipush (v := 99) (by decide) dX12_dims_105 ?_
                  refine xj_icmp_gt (tgt := 165) (by decide) dX12_dims_107 (fun zc107 => ?_) (fun zc107 => ?_)
                  · refine xj_iload_n (n := 3) (i := 3) 6 rfl rfl dX12_dims_165 ?_
                    refine xj_bipush (v := 10) (by decide) dX12_dims_166 ?_
                    refine xj_irem (by decide) dX12_dims_168 ?_
                    refine xj_top (show ((nI kw) - (nI kw) / 10 * 10) = nI (kw % 10) from (pk_rem (a := kw) (d := 10) (by omega) (by omega) (by omega))) ?_
                    refine xj_if_ne (tgt := 177) (by decide) dX12_dims_169 (fun zc169 => ?_) (fun zc169 => ?_)
                    · refine xj_iload (i := 6) 2 rfl dX12_dims_177 ?_
                      exact xj_ireturn rfl (nr_i _) (Nat.zero_le _) (Nat.zero_le _) dX12_dims_179 (qI_e ⟨by unfold vDims; (try simp only [nI_clamp (show kq < 2147483648 by omega), nI_clamp (show ks < 2147483648 by omega), nI_clamp (show kw < 2147483648 by omega)]); rw [if_pos zc10, if_neg (nI_pos (by omega)), if_pos hw15, if_pos hw1, if_neg zc169]; all_goals (rfl), hf2⟩)
                    · refine xj_iload (i := 5) 1 rfl dX12_dims_172 ?_
                      refine xj_goto (tgt := 179) (by decide) dX12_dims_174 ?_
                      exact xj_ireturn rfl (nr_i _) (Nat.zero_le _) (Nat.zero_le _) dX12_dims_179 (qI_e ⟨by unfold vDims; (try simp only [nI_clamp (show kq < 2147483648 by omega), nI_clamp (show ks < 2147483648 by omega), nI_clamp (show kw < 2147483648 by omega)]); rw [if_pos zc10, if_neg (nI_pos (by omega)), if_pos hw15, if_pos hw1, if_pos zc169]; all_goals (rfl), hf2⟩)
                  · exact absurd (nI_lt (a := 99) (b := 100) (Nat.lt_succ_self _) (by decide)) zc107
                · intro i hi ih2 g2 hf2 h108
                  refine xj_iload (i := 7) 0 rfl dX12_dims_103 ?_
                  refine xj_bipush (v := 99) (by decide) dX12_dims_105 ?_
                  refine xj_icmp_gt (tgt := 165) (by decide) dX12_dims_107 (fun zc107 => ?_) (fun zc107 => ?_)
                  · exact absurd zc107 (nI_nlt (b := i) (a := 99) (Nat.le_of_lt_succ hi) (by decide))
                  · refine xj_aload_n (n := 0) (i := 0) 3 rfl rfl dX12_dims_110 ?_
                    refine xj_iload_n (n := 1) (i := 1) 4 rfl rfl dX12_dims_111 ?_
                    refine xj_iload_n (n := 2) (i := 2) 5 rfl rfl dX12_dims_112 ?_
                    refine xj_iload_n (n := 3) (i := 3) 6 rfl rfl dX12_dims_113 ?_
                    refine xj_bipush (v := 10) (by decide) dX12_dims_114 ?_
                    refine xj_idiv (by decide) dX12_dims_116 ?_
                    refine xj_top (show ((nI kw) / 10) = nI (kw / 10) from (pk_div (a := kw) (d := 10) (by omega) (by omega) (by omega))) ?_
                    refine xj_iload (i := 7) 0 rfl dX12_dims_117 ?_
                    refine xj_callV kv_X12_266 (c_X12_isSoDull l (d + 1) n hn g2 A Λ O (C.keep hf2) kq ks (kw / 10) i hk4_kq hks (by omega) (by omega) hz20 h108) (As := [.int (nI kq), .int (nI ks), .int (nI (kw / 10)), .int (nI i)]) (st := []) (by omega) (fq_86 g2) (ci := 12) rfl rfl rfl rfl (xRm_of (by omega) (by decide) (by omega) (by omega)) (Nat.le_of_ble_eq_true rfl) dX12_dims_119 (yk_i (kc := 0) (ks := 0) fun zv2 zg3 hzg3 => ?_)
                    obtain ⟨hvzv2, hxzg3⟩ := hzg3
                    have Czg3 := (C.keep hf2).keep (fm.of hxzg3 sN_m)
                    refine xj_istore (i := 8) (lv1 := [(8, .int zv2), (7, .int (nI i)), (5, .int (cnF (soF A Λ kq ks (kw / 10)) i)), (6, .int (fiF (soF A Λ kq ks (kw / 10)) i)), (0, .ref 86), (1, .int (nI kq)), (2, .int (nI ks)), (3, .int (nI kw))]) rfl (Nat.le_of_ble_eq_true rfl) dX12_dims_122 ?_
                    refine xj_iload (i := 5) 2 rfl dX12_dims_124 ?_
                    refine xj_iload (i := 8) 0 rfl dX12_dims_126 ?_
                    refine xj_if_eq (tgt := 135) (by decide) dX12_dims_128 (fun zc128 => ?_) (fun zc128 => ?_)
                    · have hob : ¬ (soF A Λ kq ks (kw / 10)) i = true := bI_0.mp (hvzv2.symm.trans zc128)
                      refine xj_iconst (v := 0) (by decide) dX12_dims_135 ?_
                      refine xj_iadd dX12_dims_136 ?_
                      refine xj_topi (fun zv4 ezv4 => ?_)
                      refine xj_istore (i := 5) (lv1 := [(5, .int zv4), (8, .int zv2), (7, .int (nI i)), (6, .int (fiF (soF A Λ kq ks (kw / 10)) i)), (0, .ref 86), (1, .int (nI kq)), (2, .int (nI ks)), (3, .int (nI kw))]) rfl (Nat.le_of_ble_eq_true rfl) dX12_dims_137 ?_
                      refine xj_iload (i := 8) 1 rfl dX12_dims_139 ?_
                      refine xj_if_eq (tgt := 155) (by decide) dX12_dims_141 (fun zc141 => ?_) (fun zc141 => ?_)
                      · refine xj_iload (i := 6) 3 rfl dX12_dims_155 ?_
                        refine xj_istore (i := 6) (lv1 := [(6, .int (fiF (soF A Λ kq ks (kw / 10)) i)), (5, .int zv4), (8, .int zv2), (7, .int (nI i)), (0, .ref 86), (1, .int (nI kq)), (2, .int (nI ks)), (3, .int (nI kw))]) rfl (Nat.le_of_ble_eq_true rfl) dX12_dims_157 ?_
                        refine xj_iinc (n := 1) (i := 7) (v := nI (i + 1)) (lv1 := [(7, .int (nI (i + 1))), (6, .int (fiF (soF A Λ kq ks (kw / 10)) i)), (5, .int zv4), (8, .int zv2), (0, .ref 86), (1, .int (nI kq)), (2, .int (nI ks)), (3, .int (nI kw))]) 3 rfl (nI_1 i) rfl (Nat.le_of_ble_eq_true rfl) dX12_dims_159 ?_
                        refine xj_goto (tgt := 103) (by decide) dX12_dims_162 ?_
                        refine xj_sub (lv' := [(7, .int (nI (i + 1))), (5, .int zv4), (6, .int (fiF (soF A Λ kq ks (kw / 10)) i)), (0, .ref 86), (1, .int (nI kq)), (2, .int (nI ks)), (3, .int (nI kw))]) [0, 2, 1, 4, 5, 6, 7] rfl ?_
                        have h9 := ih2 zg3 (hf2.tr (fm.of hxzg3 sN_m)) (fun k hk => by rw [hxzg3 108 (by unfold sN; omega)]; exact h108 k hk)
                        rw [show cnF (soF A Λ kq ks (kw / 10)) (i + 1) = zv4 from (if_neg hob).trans (by rw [ezv4, Int32.add_zero]), show fiF (soF A Λ kq ks (kw / 10)) (i + 1) = fiF (soF A Λ kq ks (kw / 10)) i from if_neg hob] at h9
                        exact h9
                      · exact absurd zc128 zc141
                    · have hob : (soF A Λ kq ks (kw / 10)) i = true := bI_n0.mp (fun z => zc128 (hvzv2.trans z))
                      refine xj_iconst (v := 1) (by decide) dX12_dims_131 ?_
                      refine xj_goto (tgt := 136) (by decide) dX12_dims_132 ?_
                      refine xj_iadd dX12_dims_136 ?_
                      refine xj_topi (fun zv5 ezv5 => ?_)
                      refine xj_istore (i := 5) (lv1 := [(5, .int zv5), (8, .int zv2), (7, .int (nI i)), (6, .int (fiF (soF A Λ kq ks (kw / 10)) i)), (0, .ref 86), (1, .int (nI kq)), (2, .int (nI ks)), (3, .int (nI kw))]) rfl (Nat.le_of_ble_eq_true rfl) dX12_dims_137 ?_
                      refine xj_iload (i := 8) 1 rfl dX12_dims_139 ?_
                      refine xj_if_eq (tgt := 155) (by decide) dX12_dims_141 (fun zc141 => ?_) (fun zc141 => ?_)
                      · exact absurd zc141 zc128
                      · refine xj_iload (i := 6) 3 rfl dX12_dims_144 ?_
                        refine xj_iconst (v := (-1)) (by decide) dX12_dims_146 ?_
                        refine xj_icmp_ne (tgt := 155) (by decide) dX12_dims_147 (fun zc147 => ?_) (fun zc147 => ?_)
                        · refine xj_iload (i := 6) 3 rfl dX12_dims_155 ?_
                          refine xj_istore (i := 6) (lv1 := [(6, .int (fiF (soF A Λ kq ks (kw / 10)) i)), (5, .int zv5), (8, .int zv2), (7, .int (nI i)), (0, .ref 86), (1, .int (nI kq)), (2, .int (nI ks)), (3, .int (nI kw))]) rfl (Nat.le_of_ble_eq_true rfl) dX12_dims_157 ?_
                          refine xj_iinc (n := 1) (i := 7) (v := nI (i + 1)) (lv1 := [(7, .int (nI (i + 1))), (6, .int (fiF (soF A Λ kq ks (kw / 10)) i)), (5, .int zv5), (8, .int zv2), (0, .ref 86), (1, .int (nI kq)), (2, .int (nI ks)), (3, .int (nI kw))]) 3 rfl (nI_1 i) rfl (Nat.le_of_ble_eq_true rfl) dX12_dims_159 ?_
                          refine xj_goto (tgt := 103) (by decide) dX12_dims_162 ?_
                          refine xj_sub (lv' := [(7, .int (nI (i + 1))), (5, .int zv5), (6, .int (fiF (soF A Λ kq ks (kw / 10)) i)), (0, .ref 86), (1, .int (nI kq)), (2, .int (nI ks)), (3, .int (nI kw))]) [0, 2, 1, 4, 5, 6, 7] rfl ?_
                          have h9 := ih2 zg3 (hf2.tr (fm.of hxzg3 sN_m)) (fun k hk => by rw [hxzg3 108 (by unfold sN; omega)]; exact h108 k hk)
                          rw [show cnF (soF A Λ kq ks (kw / 10)) (i + 1) = zv5 from (if_pos hob).trans ezv5.symm, show fiF (soF A Λ kq ks (kw / 10)) (i + 1) = fiF (soF A Λ kq ks (kw / 10)) i from (if_pos hob).trans (if_neg zc147)] at h9
                          exact h9
                        · refine xj_iload (i := 7) 2 rfl dX12_dims_150 ?_
                          refine xj_goto (tgt := 157) (by decide) dX12_dims_152 ?_
                          refine xj_istore (i := 6) (lv1 := [(6, .int (nI i)), (5, .int zv5), (8, .int zv2), (7, .int (nI i)), (0, .ref 86), (1, .int (nI kq)), (2, .int (nI ks)), (3, .int (nI kw))]) rfl (Nat.le_of_ble_eq_true rfl) dX12_dims_157 ?_
                          refine xj_iinc (n := 1) (i := 7) (v := nI (i + 1)) (lv1 := [(7, .int (nI (i + 1))), (6, .int (nI i)), (5, .int zv5), (8, .int zv2), (0, .ref 86), (1, .int (nI kq)), (2, .int (nI ks)), (3, .int (nI kw))]) 3 rfl (nI_1 i) rfl (Nat.le_of_ble_eq_true rfl) dX12_dims_159 ?_
                          refine xj_goto (tgt := 103) (by decide) dX12_dims_162 ?_
                          refine xj_sub (lv' := [(7, .int (nI (i + 1))), (5, .int zv5), (6, .int (nI i)), (0, .ref 86), (1, .int (nI kq)), (2, .int (nI ks)), (3, .int (nI kw))]) [0, 2, 1, 4, 5, 6, 7] rfl ?_
                          have h9 := ih2 zg3 (hf2.tr (fm.of hxzg3 sN_m)) (fun k hk => by rw [hxzg3 108 (by unfold sN; omega)]; exact h108 k hk)
                          rw [show cnF (soF A Λ kq ks (kw / 10)) (i + 1) = zv5 from (if_pos hob).trans ezv5.symm, show fiF (soF A Λ kq ks (kw / 10)) (i + 1) = nI i from (if_pos hob).trans (if_pos zc147)] at h9
                          exact h9
              refine xj_sub (lv' := [(7, .int 0), (5, .int 0), (6, .int (-1)), (0, .ref 86), (1, .int (nI kq)), (2, .int (nI ks)), (3, .int (nI kw))]) [0, 2, 1, 3, 4, 5, 6] rfl ?_
              exact key2 0 (Nat.zero_le _) g1 hf hSB
            · exact absurd (nI_le (Nat.le_refl _) (by decide)) zc50
          · intro i hi ih g1 hf hR hP
            refine xj_iload (i := 5) 0 rfl dX12_dims_46 ?_
            refine xj_bipush (v := 20) (by decide) dX12_dims_48 ?_
            refine xj_icmp_ge (tgt := 94) (by decide) dX12_dims_50 (fun zc50 => ?_) (fun zc50 => ?_)
            · exact absurd zc50 (nI_ge hi (by decide))
            · refine xj_iload (i := 5) 0 rfl dX12_dims_53 ?_
              refine xj_aload_n (n := 0) (i := 0) 1 rfl rfl dX12_dims_55 ?_
              refine yj_getf (v := .ref 98) fl_X12_47_12 (by omega) (fq_86 g1) rfl dX12_dims_56 ?_
              refine xj_iload_n (n := 1) (i := 1) 2 rfl rfl dX12_dims_59 ?_
              refine yj_ialdN kq (by omega) fA_98 rfl (by omega) (by decide) dX12_dims_60 ?_
              refine xj_top ((C.keep hf).qz O hk4_kq) ?_
              refine xj_icmp_ge (tgt := 88) (by decide) dX12_dims_61 (fun zc61 => ?_) (fun zc61 => ?_)
              · have hge : aQ A kq ≤ i := (nI_leI (by omega) (by omega)).mp zc61
                refine xj_iinc (n := 1) (i := 5) (v := nI (i + 1)) (lv1 := [(5, .int (nI (i + 1))), (0, .ref 86), (1, .int (nI kq)), (2, .int (nI ks)), (3, .int (nI kw))]) 0 rfl (nI_1 i) rfl (Nat.le_of_ble_eq_true rfl) dX12_dims_88 ?_
                refine xj_goto (tgt := 46) (by decide) dX12_dims_91 ?_
                refine xj_sub (lv' := [(5, .int (nI (i + 1))), (0, .ref 86), (1, .int (nI kq)), (2, .int (nI ks)), (3, .int (nI kw))]) [0, 1, 2, 3, 4] rfl ?_
                exact ih g1 hf (fun h => absurd h (by omega)) (fun j h1 h2 => hP j (by omega) h2)
              · have hlt : i < aQ A kq := Nat.lt_of_not_le (fun z => zc61 (nI_le z (by omega)))
                have R := hR (by omega)
                refine xj_aload_n (n := 0) (i := 0) 1 rfl rfl dX12_dims_64 ?_
                refine yj_getf (v := .ref 108) fl_X12_77_12 (by omega) (fq_86 g1) rfl dX12_dims_65 ?_
                refine xj_iload (i := 5) 0 rfl dX12_dims_68 ?_
                refine xj_aload_n (n := 0) (i := 0) 1 rfl rfl dX12_dims_70 ?_
                refine xj_iload_n (n := 2) (i := 2) 3 rfl rfl dX12_dims_71 ?_
                refine xj_callV kv_X12_231 (c_X12_rowClear l (d + 1) n hn g1 A Λ O (C.keep hf) ks hks (rwP A Λ ks i) (aN A + i) R) (As := [.int (nI ks)]) (st := [.int (nI i), .ref 108]) (by omega) (fq_86 g1) (ci := 12) rfl rfl rfl rfl (xRm_of (by omega) (by decide) (by omega) (by omega)) (Nat.le_of_ble_eq_true rfl) dX12_dims_72 (yk_i (kc := 0) (ks := 0) fun zv6 zg7 hzg7 => ?_)
                obtain ⟨hvzv6, hfnzg7⟩ := hzg7
                have hxzg7 := fm.of hfnzg7 sN_m
                have Rzg7 := R.keep hfnzg7
                have Czg7 := (C.keep hf).keep hxzg7
                refine xj_aload_n (n := 0) (i := 0) 1 rfl rfl dX12_dims_75 ?_
                refine yj_getf (v := .ref 90) fl_X12_19_12 (by omega) (fq_86 zg7) rfl dX12_dims_76 ?_
                refine xj_iload_n (n := 2) (i := 2) 3 rfl rfl dX12_dims_79 ?_
                refine yj_ialdN ks (by omega) fA_90 rfl (by omega) (by decide) dX12_dims_80 ?_
                refine xj_top (Czg7.pi hks) ?_
                refine xj_iand dX12_dims_81 ?_
                refine xj_topi (fun zv8 ezv8 => ?_)
                refine yj_iastN i (by omega) fA_108 rfl (by omega) (by decide) dX12_dims_82 ?_
                obtain ⟨zg9, ezg9⟩ : ∃ z, z = gs zg7 108 i zv8 := ⟨_, rfl⟩
                rw [← ezg9]
                have hxzg9 : fm g zg9 := by rw [ezg9]; exact (hf.tr hxzg7).gS (by unfold sM; omega) _ _
                have Czg9 := C.keep hxzg9
                have R8 : rwA zg9 (rwP A Λ ks i) (aN A + i) := by rw [ezg9]; exact Rzg7.gn (by decide) (by decide) _ _
                refine xj_aload_n (n := 0) (i := 0) 1 rfl rfl dX12_dims_83 ?_
                refine xj_iload_n (n := 2) (i := 2) 3 rfl rfl dX12_dims_84 ?_
                refine xj_callV kv_X12_228 (c_X12_rowNight8 l (d + 1) n hn zg9 A Λ O Czg9 ks hks (rwP A Λ ks i) (aN A + i) R8) (As := [.int (nI ks)]) (st := []) (by omega) (fq_86 zg9) (ci := 12) rfl rfl rfl rfl (xRm_of (by omega) (by decide) (by omega) (by omega)) (Nat.le_of_ble_eq_true rfl) dX12_dims_85 (yk_v (kc := 0) (ks := 0) fun zg10 hzg10 => ?_)
                obtain ⟨Rzg10, hn8, hxzg10⟩ := hzg10
                have Czg10 := Czg9.keep hxzg10
                have h108 : ∀ j, j < i + 1 → j < aQ A kq → zg10 108 j = rsP A Λ ks j := fun j h1 h2 => by
                  rw [hn8, ezg9, gs_s]
                  by_cases e : j = i
                  · subst e; rw [upd_s, ezv8, hvzv6]; rfl
                  · rw [upd_n _ _ e, hfnzg7 108 (by unfold sN; omega)]; exact hP j (by omega) h2
                refine xj_iinc (n := 1) (i := 5) (v := nI (i + 1)) (lv1 := [(5, .int (nI (i + 1))), (0, .ref 86), (1, .int (nI kq)), (2, .int (nI ks)), (3, .int (nI kw))]) 0 rfl (nI_1 i) rfl (Nat.le_of_ble_eq_true rfl) dX12_dims_88 ?_
                refine xj_goto (tgt := 46) (by decide) dX12_dims_91 ?_
                refine xj_sub (lv' := [(5, .int (nI (i + 1))), (0, .ref 86), (1, .int (nI kq)), (2, .int (nI ks)), (3, .int (nI kw))]) [0, 1, 2, 3, 4] rfl ?_
                refine ih zg10 (hxzg9.tr hxzg10) (fun _ => Rzg10) (fun j h1 h2 => ?_)
                exact h108 j h1 h2
        refine xj_sub (lv' := [(5, .int 0), (0, .ref 86), (1, .int (nI kq)), (2, .int (nI ks)), (3, .int (nI kw))]) [0, 2, 3, 4, 5] rfl ?_
        exact key 0 (Nat.zero_le _) zg1 hxzg1 (fun _ => Rzg1) (fun j h1 _ => absurd h1 (Nat.not_lt_zero j))
      · have hw1 : ¬ (0 ≤ nI (kw % 10) ∧ nI (kw % 10) ≤ 1) := fun z => zc32 z.2
        refine xj_bipush (v := (-7)) (by decide) dX12_dims_35 ?_
        exact xj_ireturn rfl (nr_i _) (Nat.zero_le _) (Nat.zero_le _) dX12_dims_37 (qI_e ⟨by unfold vDims; (try simp only [nI_clamp (show kq < 2147483648 by omega), nI_clamp (show ks < 2147483648 by omega), nI_clamp (show kw < 2147483648 by omega)]); rw [if_pos zc10, if_neg (nI_pos (by omega)), if_pos hw15, if_neg hw1]; all_goals (rfl), fm.rf⟩)
  · refine xj_iload (i := 4) 0 rfl dX12_dims_13 ?_
    exact xj_ireturn rfl (nr_i _) (Nat.zero_le _) (Nat.zero_le _) dX12_dims_15 (qI_e ⟨by unfold vDims; rw [if_neg zc10]; all_goals (rfl), fm.rf⟩)
