/-! SETS OF CELLS, bit by bit -/
theorem c16 {P : Nat → Prop} (h : P 0 ∧ P 1 ∧ P 2 ∧ P 3 ∧ P 4 ∧ P 5 ∧ P 6 ∧ P 7 ∧ P 8 ∧ P 9 ∧ P 10 ∧ P 11 ∧ P 12 ∧ P 13 ∧ P 14 ∧ P 15) : ∀ c, c < 16 → P c := by
  intro c hc
  obtain ⟨h0, h1, h2, h3, h4, h5, h6, h7, h8, h9, h10, h11, h12, h13, h14, h15⟩ := h
  rcases (show c = 0 ∨ c = 1 ∨ c = 2 ∨ c = 3 ∨ c = 4 ∨ c = 5 ∨ c = 6 ∨ c = 7 ∨ c = 8 ∨ c = 9 ∨ c = 10 ∨ c = 11 ∨ c = 12 ∨ c = 13 ∨ c = 14 ∨ c = 15 by omega) with rfl | rfl | rfl | rfl | rfl | rfl | rfl | rfl | rfl | rfl | rfl | rfl | rfl | rfl | rfl | rfl <;> assumption
theorem sm_c : ∀ c, c < 16 → ((nI c &&& 31).toBitVec.smod 32).toNat = c := c16 (by decide)
theorem hasF_l (x : Int32) {c : Nat} (hc : c < 16) : hasF x (nI c) = x.toBitVec.getLsbD c := by
  have h2 : (x >>> (nI c &&& 31)).toBitVec = x.toBitVec.sshiftRight c := by
    show x.toBitVec.sshiftRight (((nI c &&& 31).toBitVec.smod 32).toNat) = _
    rw [sm_c c hc]
  have h3 : (x.toBitVec.sshiftRight c).getLsbD 0 = x.toBitVec.getLsbD c := by
    rw [BitVec.getLsbD_sshiftRight, if_pos (by omega), Nat.add_zero]
    simp
  have h4 : ((x >>> (nI c &&& 31)) &&& 1).toBitVec = BitVec.setWidth 32 (BitVec.ofBool (x.toBitVec.getLsbD c)) := by
    rw [← h3, ← h2]
    exact BitVec.and_one_eq_setWidth_ofBool_getLsbD
  unfold hasF
  cases hb : x.toBitVec.getLsbD c with
  | true =>
    refine decide_eq_true (Int32.toBitVec_inj.mp (h4.trans ?_))
    rw [hb]
    decide
  | false =>
    refine decide_eq_false (fun e => ?_)
    have h5 : ((x >>> (nI c &&& 31)) &&& 1).toBitVec = (1 : Int32).toBitVec := congrArg _ e
    rw [h4, hb] at h5
    exact absurd h5 (by decide)
theorem hasF_and (x y : Int32) {c : Nat} (hc : c < 16) : hasF (x &&& y) (nI c) = (hasF x (nI c) && hasF y (nI c)) := by
  rw [hasF_l _ hc, hasF_l _ hc, hasF_l _ hc]
  exact BitVec.getLsbD_and
theorem hasF_or (x y : Int32) {c : Nat} (hc : c < 16) : hasF (x ||| y) (nI c) = (hasF x (nI c) || hasF y (nI c)) := by
  rw [hasF_l _ hc, hasF_l _ hc, hasF_l _ hc]
  exact BitVec.getLsbD_or
theorem hasF_not (x : Int32) {c : Nat} (hc : c < 16) : hasF (x ^^^ (-1)) (nI c) = !hasF x (nI c) := by
  rw [hasF_l _ hc, hasF_l _ hc]
  show (x.toBitVec ^^^ (-1 : Int32).toBitVec).getLsbD c = _
  rw [BitVec.getLsbD_xor, neg1_b, BitVec.getLsbD_allOnes, decide_eq_true (show c < 32 by omega), Bool.xor_true]
theorem hasF_bit : ∀ k, k < 16 → ∀ c, c < 16 → hasF (bitF k) (nI c) = decide (c = k) := by decide +kernel
theorem hasF_0 : ∀ c, c < 16 → hasF 0 (nI c) = false := by decide +kernel
/-- 16 bits, no more -/
def w16 (x : Int32) : Prop := ∃ a, a < 65536 ∧ x = nI a
theorem w16_ext {x y : Int32} (hx : w16 x) (hy : w16 y) (h : ∀ c, c < 16 → hasF x (nI c) = hasF y (nI c)) : x = y := by
  obtain ⟨a, ha, rfl⟩ := hx
  obtain ⟨b, hb, rfl⟩ := hy
  have key : ∀ z, z < 65536 → ∀ i, 16 ≤ i → (nI z).toBitVec.getLsbD i = false := fun z hz i hi => by
    show (BitVec.ofNat 32 z).getLsbD i = false
    rw [BitVec.getLsbD_ofNat, Nat.testBit_lt_two_pow (Nat.lt_of_lt_of_le hz (Nat.pow_le_pow_right (n := 2) (by decide) hi)), Bool.and_false]
  apply Int32.toBitVec_inj.mp
  refine BitVec.eq_of_getLsbD_eq fun i _ => ?_
  by_cases hi : i < 16
  · have h1 := h i hi
    rwa [hasF_l _ hi, hasF_l _ hi] at h1
  · rw [key a ha i (by omega), key b hb i (by omega)]
theorem w16_and {x : Int32} (y : Int32) (hx : w16 x) : w16 (x &&& y) := by
  obtain ⟨a, ha, rfl⟩ := hx
  obtain ⟨b, hb, e⟩ : ∃ b, b < 65536 ∧ nI a &&& y = nI b := by
    have h1 : nI a = nI a &&& 65535 := by
      rw [show (65535 : Int32) = nI 65535 from rfl, nI_and]
      rw [show a &&& 65535 = a from by rw [show (65535 : Nat) = 2 ^ 16 - 1 from rfl, Nat.and_two_pow_sub_one_eq_mod, Nat.mod_eq_of_lt ha]]
    rw [h1, show nI a &&& 65535 &&& y = (nI a &&& y) &&& 65535 from by rw [Int32.and_assoc, Int32.and_comm 65535 y, ← Int32.and_assoc]]
    exact pk_andE (nI a &&& y) (m := 65535) 16 (by decide)
  exact ⟨b, hb, e⟩
theorem w16_or {x y : Int32} (hx : w16 x) (hy : w16 y) : w16 (x ||| y) := by
  obtain ⟨a, ha, rfl⟩ := hx
  obtain ⟨b, hb, rfl⟩ := hy
  rw [nI_or]
  exact ⟨_, Nat.or_lt_two_pow (n := 16) ha hb, rfl⟩
theorem w16_bit {k : Nat} (hk : k < 16) : w16 (bitF k) := ⟨2 ^ k, Nat.pow_lt_pow_right (a := 2) (by decide) hk, bitF_n hk⟩
theorem w16_set (f : Nat → Bool) : w16 (setF f 16) := setF_n f (n := 16) (Nat.le_refl _)
theorem hasF_set (f : Nat → Bool) : ∀ n, n ≤ 16 → ∀ c, c < 16 → hasF (setF f n) (nI c) = (decide (c < n) && f c)
  | 0, _, c, hc => by
    show hasF 0 (nI c) = _
    rw [hasF_0 c hc, decide_eq_false (Nat.not_lt_zero c), Bool.false_and]
  | n + 1, hn, c, hc => by
    have ih := hasF_set f n (by omega) c hc
    unfold setF
    by_cases hf : f n = true
    · rw [if_pos hf, hasF_or _ _ hc, ih, hasF_bit n (by omega) c hc]
      by_cases e : c = n
      · subst e
        rw [decide_eq_true rfl, Bool.or_true, hf, decide_eq_true (Nat.lt_succ_self c)]
        rfl
      · rw [decide_eq_false e, Bool.or_false]
        congr 1
        exact decide_eq_decide.mpr ⟨fun h => by omega, fun h => by omega⟩
    · rw [if_neg hf, ih]
      by_cases e : c = n
      · subst e
        rw [Bool.not_eq_true] at hf
        rw [hf, Bool.and_false, Bool.and_false]
      · congr 1
        exact decide_eq_decide.mpr ⟨fun h => by omega, fun h => by omega⟩
theorem hasF_set16 (f : Nat → Bool) {c : Nat} (hc : c < 16) : hasF (setF f 16) (nI c) = f c := by
  rw [hasF_set f 16 (Nat.le_refl _) c hc, decide_eq_true hc, Bool.true_and]
theorem w16_pic {A : zSt} {s : Nat} (O : okA A) (hs : s < aS A) : w16 (A 3 s) := by
  obtain ⟨k, hk, e⟩ := (O.2.2.2.2.2.2.1 s hs).2.2.1
  exact ⟨k, by omega, e⟩
/-- no limit is below 0 -/
theorem cl_0 {L : xL} {k : Nat} {more pic : Int32} (c : Nat) (night : Int32) (hm : nI99 more 9) : clearF L k more pic c 0 night = true := by
  have h1 : nI99 (saidF L 1 more pic c 0 night) 99 := clF_n 1 _
  refine decide_eq_true ?_
  have h2 : nI99 (kLimit k (saidF L 1 more pic c 0 night) (nI c) more) 108 := by
    unfold kLimit
    split
    · exact nI99_add h1 hm
    · split
      · split
        · exact ⟨99, by omega, rfl⟩
        · exact nI99_le h1 (by omega)
      · split
        · exact nI99_add h1 hm
        · exact nI99_le h1 (by omega)
  obtain ⟨j, hj, e⟩ := h2
  rw [e]
  exact nI_pos' (by omega)
def cuB (A : zSt) (Λ : Nat → xL) (s c : Nat) : Bool := hasF (A 3 s) (nI c) && !clearF (Λ (aW A)) (aK A s) (A 2 s) (A 3 s) c (A (10 + s) c) (nI (aN A))
def leP (A : zSt) (Λ : Nat → xL) (s : Nat) : Int32 := A 3 s &&& (seP A Λ s ^^^ (-1))
theorem cu_set {A : zSt} {Λ : Nat → xL} {s : Nat} (O : okA A) (hs : s < aS A) : setF (cuB A Λ s) 16 = leP A Λ s := by
  refine w16_ext (w16_set _) (w16_and _ (w16_pic O hs)) (fun c hc => ?_)
  rw [hasF_set16 _ hc]
  show cuB A Λ s c = hasF (A 3 s &&& (seP A Λ s ^^^ (-1))) (nI c)
  rw [hasF_and _ _ hc, hasF_not _ hc]
  unfold seP
  rw [hasF_and _ _ hc]
  unfold clP clearS
  rw [hasF_set16 _ hc]
  unfold cuB
  cases hasF (A 3 s) (nI c) <;> cases clearF (Λ (aW A)) (aK A s) (A 2 s) (A 3 s) c (A (10 + s) c) (nI (aN A)) <;> rfl
/-- what is told but can't be seen -/
theorem sh_set (some cl pic : Int32) : (some &&& ((cl &&& pic) ^^^ (-1))) &&& ((pic &&& ((cl &&& pic) ^^^ (-1))) ^^^ (-1)) = some &&& (pic ^^^ (-1)) := by
  apply Int32.toBitVec_inj.mp
  show (some.toBitVec &&& ((cl.toBitVec &&& pic.toBitVec) ^^^ (-1 : Int32).toBitVec)) &&& ((pic.toBitVec &&& ((cl.toBitVec &&& pic.toBitVec) ^^^ (-1 : Int32).toBitVec)) ^^^ (-1 : Int32).toBitVec) = some.toBitVec &&& (pic.toBitVec ^^^ (-1 : Int32).toBitVec)
  refine BitVec.eq_of_getLsbD_eq fun i hi => ?_
  rw [neg1_b]
  simp only [BitVec.getLsbD_and, BitVec.getLsbD_xor, BitVec.getLsbD_allOnes, decide_eq_true hi]
  cases some.toBitVec.getLsbD i <;> cases cl.toBitVec.getLsbD i <;> cases pic.toBitVec.getLsbD i <;> rfl
/-! the greedy choice -/
theorem cnN_rm {f f' : Nat → Bool} {k : Nat} (h1 : f k = true) (h2 : f' k = false) : ∀ n, (∀ c, c < n → c ≠ k → f' c = f c) → (k < n → cnN f n = cnN f' n + 1) ∧ (n ≤ k → cnN f n = cnN f' n)
  | 0, _ => ⟨fun h => absurd h (Nat.not_lt_zero k), fun _ => rfl⟩
  | n + 1, h => by
    obtain ⟨a, b⟩ := cnN_rm h1 h2 n (fun c hc hk => h c (by omega) hk)
    refine ⟨fun hk => ?_, fun hk => ?_⟩
    · by_cases e : k = n
      · subst e
        show (if f k = true then cnN f k + 1 else cnN f k) = (if f' k = true then cnN f' k + 1 else cnN f' k) + 1
        rw [if_pos h1, h2, if_neg (by decide), b (Nat.le_refl _)]
      · show (if f n = true then cnN f n + 1 else cnN f n) = (if f' n = true then cnN f' n + 1 else cnN f' n) + 1
        rw [h n (by omega) (fun z => e z.symm), a (by omega)]
        split <;> rfl
    · show (if f n = true then cnN f n + 1 else cnN f n) = (if f' n = true then cnN f' n + 1 else cnN f' n)
      rw [h n (by omega) (by omega), b (by omega)]
theorem sumF_1 {f f' : Nat → Int32} {k : Nat} {x : Int32} (h1 : f' k = f k + x) : ∀ n, (∀ c, c < n → c ≠ k → f' c = f c) → (k < n → sumF f' n = sumF f n + x) ∧ (n ≤ k → sumF f' n = sumF f n)
  | 0, _ => ⟨fun h => absurd h (Nat.not_lt_zero k), fun _ => rfl⟩
  | n + 1, h => by
    obtain ⟨a, b⟩ := sumF_1 h1 n (fun c hc hk => h c (by omega) hk)
    refine ⟨fun hk => ?_, fun hk => ?_⟩
    · by_cases e : k = n
      · subst e
        show sumF f' k + f' k = sumF f k + f k + x
        rw [b (Nat.le_refl _), h1, Int32.add_assoc]
      · show sumF f' n + f' n = sumF f n + f n + x
        rw [h n (by omega) (fun z => e z.symm), a (by omega), Int32.add_assoc, Int32.add_assoc, Int32.add_comm x]
    · show sumF f' n + f' n = sumF f n + f n
      rw [h n (by omega) (by omega), b (by omega)]
def csF (pr : Nat → Int32) (x : Int32) : Int32 := sumF (fun c => if hasF x (nI c) = true then pr c else 0) 16
theorem csF_bit (pr : Nat → Int32) {x : Int32} {k : Nat} (hk : k < 16) (h : hasF x (nI k) = false) : csF pr (x ||| bitF k) = csF pr x + pr k := by
  refine (sumF_1 (k := k) (x := pr k) ?_ 16 (fun c hc hck => ?_)).1 hk
  · show (if hasF (x ||| bitF k) (nI k) = true then pr k else 0) = (if hasF x (nI k) = true then pr k else 0) + pr k
    rw [hasF_or _ _ hk, hasF_bit k hk k hk, h, decide_eq_true (p := k = k) rfl, if_pos (by decide), if_neg (by decide), Int32.zero_add]
  · show (if hasF (x ||| bitF k) (nI c) = true then pr c else 0) = (if hasF x (nI c) = true then pr c else 0)
    rw [hasF_or _ _ hc, hasF_bit k hk c hc, decide_eq_false hck, Bool.or_false]
theorem onesF_cs (x : Int32) : onesF x = csF (fun _ => 1) x := by
  refine sumF_congr (fun c hc => ?_)
  show (x >>> (nI c &&& 31)) &&& 1 = if hasF x (nI c) = true then 1 else 0
  rw [bit_b]
  rfl
theorem onesF_bit {x : Int32} {k : Nat} (hk : k < 16) (h : hasF x (nI k) = false) : onesF (x ||| bitF k) = onesF x + 1 := by
  rw [onesF_cs, onesF_cs]
  exact csF_bit _ hk h
theorem sumF_n {f : Nat → Int32} {m : Nat} (h : ∀ c, nI99 (f c) m) : ∀ n, nI99 (sumF f n) (n * m)
  | 0 => ⟨0, Nat.zero_le _, rfl⟩
  | n + 1 => by
    have ih := sumF_n h n
    exact nI99_le (nI99_add ih (h n)) (by rw [Nat.succ_mul]; exact Nat.le_refl _)
theorem onesF_n (x : Int32) : nI99 (onesF x) 16 := by
  have h := sumF_n (f := fun c => (x >>> (nI c &&& 31)) &&& 1) (m := 1) (fun c => by
    obtain ⟨j, hj, e⟩ := pk_andE (x >>> (nI c &&& 31)) (m := 1) 1 (by decide)
    exact ⟨j, by omega, e⟩) 16
  exact nI99_le h (by omega)
def cntN (x : Int32) : Nat := cnN (fun c => hasF x (nI c)) 16
/-- one bit goes -/
theorem cnt_rm {x : Int32} {k : Nat} (hk : k < 16) (h : hasF x (nI k) = true) : cntN x = cntN (x &&& (bitF k ^^^ (-1))) + 1 := by
  refine (cnN_rm (k := k) h ?_ 16 (fun c hc hck => ?_)).1 hk
  · show hasF (x &&& (bitF k ^^^ (-1))) (nI k) = false
    rw [hasF_and _ _ hk, hasF_not _ hk, hasF_bit k hk k hk, decide_eq_true rfl]
    simp
  · show hasF (x &&& (bitF k ^^^ (-1))) (nI c) = hasF x (nI c)
    rw [hasF_and _ _ hc, hasF_not _ hc, hasF_bit k hk c hc, decide_eq_false hck]
    simp
theorem rm_has {x : Int32} {k c : Nat} (hk : k < 16) (hc : c < 16) (h : hasF (x &&& (bitF k ^^^ (-1))) (nI c) = true) : hasF x (nI c) = true ∧ c ≠ k := by
  rw [hasF_and _ _ hc, hasF_not _ hc, hasF_bit k hk c hc, Bool.and_eq_true] at h
  refine ⟨h.1, fun e => ?_⟩
  rw [decide_eq_true e] at h
  exact absurd h.2 (by decide)
/-- which cell the search has found: none, or the first of the cheapest -/
def nxI (pr : Nat → Int32) (left : Int32) (i : Nat) (nx : Int32) : Prop := (nx = -1 ∧ (∀ c, c < i → hasF left (nI c) = false) ∧ chF pr left i = (0, 1000000)) ∨ ∃ k, k < i ∧ hasF left (nI k) = true ∧ nx = nI k ∧ chF pr left i = (k, pr k)
theorem nx_no {pr : Nat → Int32} {left : Int32} {i : Nat} {nx : Int32} (h : nxI pr left i nx) (hn : hasF left (nI i) = false) : nxI pr left (i + 1) nx := by
  have e : chF pr left (i + 1) = chF pr left i := by
    show (if hasF left (nI i) = true then _ else _) = _
    rw [hn]
    exact if_neg (by decide)
  rcases h with ⟨h1, h2, h3⟩ | ⟨k, h1, h2, h3, h4⟩
  · refine Or.inl ⟨h1, fun c hc => ?_, e.trans h3⟩
    by_cases hci : c = i
    · subst hci; exact hn
    · exact h2 c (by omega)
  · exact Or.inr ⟨k, by omega, h2, h3, e.trans h4⟩
theorem nx_first {pr : Nat → Int32} {left : Int32} {i : Nat} (h3 : chF pr left i = (0, 1000000)) (hy : hasF left (nI i) = true) (hp : pr i < 1000000) : nxI pr left (i + 1) (nI i) := by
  refine Or.inr ⟨i, Nat.lt_succ_self i, hy, rfl, ?_⟩
  show (if hasF left (nI i) = true then if pr i < (chF pr left i).2 then (i, pr i) else chF pr left i else _) = _
  rw [if_pos hy, h3, if_pos hp]
theorem nx_less {pr : Nat → Int32} {left : Int32} {i k : Nat} (h4 : chF pr left i = (k, pr k)) (hy : hasF left (nI i) = true) (hp : pr i < pr k) : nxI pr left (i + 1) (nI i) := by
  refine Or.inr ⟨i, Nat.lt_succ_self i, hy, rfl, ?_⟩
  show (if hasF left (nI i) = true then if pr i < (chF pr left i).2 then (i, pr i) else chF pr left i else _) = _
  rw [if_pos hy, h4, if_pos hp]
theorem nx_more {pr : Nat → Int32} {left : Int32} {i k : Nat} (h1 : k < i) (h2 : hasF left (nI k) = true) (h4 : chF pr left i = (k, pr k)) (hy : hasF left (nI i) = true) (hp : ¬ pr i < pr k) : nxI pr left (i + 1) (nI k) := by
  refine Or.inr ⟨k, by omega, h2, rfl, ?_⟩
  show (if hasF left (nI i) = true then if pr i < (chF pr left i).2 then (i, pr i) else chF pr left i else _) = _
  rw [if_pos hy, h4, if_neg hp]
theorem wcF_0 (pr : Nat → Int32) (M : Int32) (m : Nat) (ch sp : Int32) : wcF pr M m 0 ch sp = ch := by
  cases m with
  | zero => rfl
  | succ m => exact if_pos rfl
theorem coP_n {A : zSt} {Λ : Nat → xL} (s c : Nat) : nI99 (coP A Λ s c) 200 := by
  have h : nI99 (saidF (Λ (aW A)) 2 (A 2 s) (A 3 s) c (A (10 + s) c) (nI (aN A))) 99 := clF_n 2 _
  unfold coP costF kCost
  have h1 : nI99 (saidF (Λ (aW A)) 2 (A 2 s) (A 3 s) c (A (10 + s) c) (nI (aN A)) + 1) 100 := nI99_add (b := 1) h ⟨1, Nat.le_refl 1, rfl⟩
  have hb : ∀ y : Int32, nI99 (if hasF 1632 y = true then 2 * (saidF (Λ (aW A)) 2 (A 2 s) (A 3 s) c (A (10 + s) c) (nI (aN A)) + 1) else saidF (Λ (aW A)) 2 (A 2 s) (A 3 s) c (A (10 + s) c) (nI (aN A)) + 1) 200 := fun y => by
    split
    · exact nI99_2 h1
    · exact nI99_le h1 (by omega)
  split
  · exact hb _
  · split
    · obtain ⟨j, hj, e⟩ := hb (nI c)
      rw [e, show (2 : Int32) = nI 2 from rfl, pk_div (by omega) (by omega) (by omega)]
      exact ⟨_, by omega, rfl⟩
    · split
      · split
        · exact ⟨5, by omega, rfl⟩
        · exact nI99_le h1 (by omega)
      · exact nI99_le h1 (by omega)
theorem wi_15 {k : Nat} (h : k < 16) : wiF (nI k) 0 15 = nI k := by
  unfold wiF
  rw [if_neg (nI_pos (by omega)), if_neg (show ¬ (15 : Int32) < nI k from nI_nlt (a := 15) (b := k) (by omega) (by decide))]
theorem nI_m1 {k : Nat} (h : k < 2 ^ 31) : ¬ nI k = -1 := fun e => by
  have h1 := congrArg Int32.toInt e
  rw [nI_toInt h, show (-1 : Int32).toInt = -1 from rfl] at h1
  omega
theorem no_bits {x : Int32} (hx : w16 x) (h : ∀ c, c < 16 → hasF x (nI c) = false) : x = 0 := w16_ext hx ⟨0, by omega, rfl⟩ (fun c hc => by rw [h c hc, hasF_0 c hc])
def whI (f : Nat → Int32) (i : Nat) (b m : Int32) : Prop := (i = 0 ∧ b = -1 ∧ m = 0) ∨ (0 < i ∧ whF f i = (b, m) ∧ ¬ b = -1 ∧ nI99 m 16)
set_option maxHeartbeats 4000000 in
set_option maxRecDepth 100000 in
theorem c_X12_couldSet (l : Launch) (d : Nat) (n : Nat) (hn : 110 ≤ n) (g : xG) (A : zSt) (Λ : Nat → xL) (O : okA A) (C : mA g A Λ) (s : Nat) (hs : s < aS A)  : xC l yX12_couldSet cX12_couldSet 5 (some .int) (xR (d + 4) 0 0) [.ref 86, .int (nI s)] (n, fh g) (qI n fun v g1 => v = leP A Λ s ∧ fr sN g g1) := by
  refine xC_of false (by decide +kernel) (fun z => by cases z) (Nat.le_of_ble_eq_true rfl) ?_
  have hS6 := O.1.2
  have hW := O.W
  have hT6 := O.2.2.2.1.2.2
  have hN9 := O.2.1.2
  have hs6_s : s < 6 := by omega
  show xJ l (RX12, 5, (some .int), false, (xR (d + 4) 0 0), none) cX12_couldSet _ 0 0 0 [(0, .ref 86), (1, .int (nI s))] [] (n, fh g)
  refine xj_iconst (v := 0) (by decide) dX12_couldSet_0 ?_
  refine xj_istore_n (n := 2) (i := 2) (lv1 := [(2, .int 0), (0, .ref 86), (1, .int (nI s))]) rfl rfl (Nat.le_of_ble_eq_true rfl) dX12_couldSet_1 ?_
  refine xj_iconst (v := 0) (by decide) dX12_couldSet_2 ?_
  refine xj_istore_n (n := 3) (i := 3) (lv1 := [(3, .int 0), (2, .int 0), (0, .ref 86), (1, .int (nI s))]) rfl rfl (Nat.le_of_ble_eq_true rfl) dX12_couldSet_3 ?_
  have key : ∀ i, i ≤ 16 → ∀ (g1 : xG), fr sN g g1 → xJ l (RX12, 5, (some .int), false, (xR (d + 4) 0 0), none) cX12_couldSet (qI n fun v g1 => v = leP A Λ s ∧ fr sN g g1) 0 0 4 [(3, .int (nI i)), (2, .int (setF (cuB A Λ s) i)), (0, .ref 86), (1, .int (nI s))] [] (n, fh g1) := by
    refine x_loop 16 _ ?_ ?_
    · intro g1 hf
      refine xj_iload_n (n := 3) (i := 3) 0 rfl rfl dX12_couldSet_4 ?_
      refine xj_bipush (v := 16) (by decide) dX12_couldSet_5 ?_
      refine xj_icmp_ge (tgt := 86) (by decide) dX12_couldSet_7 (fun zc7 => ?_) (fun zc7 => ?_)
      · refine xj_iload_n (n := 2) (i := 2) 1 rfl rfl dX12_couldSet_86 ?_
        exact xj_ireturn rfl (nr_i _) (Nat.zero_le _) (Nat.zero_le _) dX12_couldSet_87 (qI_e ⟨cu_set O hs, hf⟩)
      · exact absurd (nI_le (Nat.le_refl _) (by decide)) zc7
    · intro i hi ih g1 hf
      refine xj_iload_n (n := 3) (i := 3) 0 rfl rfl dX12_couldSet_4 ?_
      refine xj_bipush (v := 16) (by decide) dX12_couldSet_5 ?_
      refine xj_icmp_ge (tgt := 86) (by decide) dX12_couldSet_7 (fun zc7 => ?_) (fun zc7 => ?_)
      · exact absurd zc7 (nI_ge hi (by decide))
      · refine xj_aload_n (n := 0) (i := 0) 2 rfl rfl dX12_couldSet_10 ?_
        refine yj_getf (v := .ref 90) fl_X12_19_12 (by omega) (fq_86 g1) rfl dX12_couldSet_11 ?_
        refine xj_iload_n (n := 1) (i := 1) 3 rfl rfl dX12_couldSet_14 ?_
        refine yj_ialdN s (by omega) fA_90 rfl (by omega) (by decide) dX12_couldSet_15 ?_
        refine xj_top ((C.keep (fm.of hf sN_m)).pi hs) ?_
        refine xj_iload_n (n := 3) (i := 3) 0 rfl rfl dX12_couldSet_16 ?_
        refine xj_ishr dX12_couldSet_17 ?_
        refine xj_iconst (v := 1) (by decide) dX12_couldSet_18 ?_
        refine xj_iand dX12_couldSet_19 ?_
        refine xj_iconst (v := 1) (by decide) dX12_couldSet_20 ?_
        refine xj_icmp_ne (tgt := 52) (by decide) dX12_couldSet_21 (fun zc21 => ?_) (fun zc21 => ?_)
        · have hob : ¬ (cuB A Λ s) i = true := by unfold cuB; rw [show hasF (A 3 s) (nI i) = false from decide_eq_false zc21]; intro z; cases z
          refine xj_iconst (v := 0) (by decide) dX12_couldSet_52 ?_
          refine xj_istore (i := 4) (lv1 := [(4, .int 0), (3, .int (nI i)), (2, .int (setF (cuB A Λ s) i)), (0, .ref 86), (1, .int (nI s))]) rfl (Nat.le_of_ble_eq_true rfl) dX12_couldSet_53 ?_
          refine xj_iload (i := 4) 0 rfl dX12_couldSet_55 ?_
          refine xj_if_eq (tgt := 80) (by decide) dX12_couldSet_57 (fun zc57 => ?_) (fun zc57 => ?_)
          · refine xj_iinc (n := 1) (i := 3) (v := nI (i + 1)) (lv1 := [(3, .int (nI (i + 1))), (4, .int 0), (2, .int (setF (cuB A Λ s) i)), (0, .ref 86), (1, .int (nI s))]) 1 rfl (nI_1 i) rfl (Nat.le_of_ble_eq_true rfl) dX12_couldSet_80 ?_
            refine xj_goto (tgt := 4) (by decide) dX12_couldSet_83 ?_
            refine xj_sub (lv' := [(3, .int (nI (i + 1))), (2, .int (setF (cuB A Λ s) i)), (0, .ref 86), (1, .int (nI s))]) [0, 2, 3, 4] rfl ?_
            have h9 := ih g1 hf
            rw [show setF (cuB A Λ s) (i + 1) = setF (cuB A Λ s) i from if_neg hob] at h9
            exact h9
          · exact absurd (by decide) zc57
        · have hpi : hasF (A 3 s) (nI i) = true := decide_eq_true zc21
          refine xj_aload_n (n := 0) (i := 0) 2 rfl rfl dX12_couldSet_24 ?_
          refine xj_iload_n (n := 1) (i := 1) 3 rfl rfl dX12_couldSet_25 ?_
          refine xj_iload_n (n := 3) (i := 3) 0 rfl rfl dX12_couldSet_26 ?_
          refine xj_aload_n (n := 0) (i := 0) 2 rfl rfl dX12_couldSet_27 ?_
          refine yj_getf (v := .ref 89) fl_X12_16_12 (by omega) (fq_86 g1) rfl dX12_couldSet_28 ?_
          refine xj_bipush (v := 16) (by decide) dX12_couldSet_31 ?_
          refine xj_iload_n (n := 1) (i := 1) 3 rfl rfl dX12_couldSet_33 ?_
          refine xj_imul dX12_couldSet_34 ?_
          refine xj_top (pk_mul 16 s) ?_
          refine xj_iload_n (n := 3) (i := 3) 0 rfl rfl dX12_couldSet_35 ?_
          refine xj_iadd dX12_couldSet_36 ?_
          refine xj_top (nI_add _ _) ?_
          refine yj_ialdN ((16 * s) + i) (by omega) fA_89 rfl (by omega) (by decide) dX12_couldSet_37 ?_
          refine xj_top ((C.keep (fm.of hf sN_m)).du hs (by omega)) ?_
          refine xj_aload_n (n := 0) (i := 0) 2 rfl rfl dX12_couldSet_38 ?_
          refine yj_getf (v := .int (nI (aN A))) fl_X12_97_12 (by omega) (fq_86 g1) (congrArg (fun z => some (Value.int z)) ((C.keep (fm.of hf sN_m)).N O)) dX12_couldSet_39 ?_
          refine xj_callV kv_X12_196 (c_X12_isClear l (d + 0) n hn g1 A Λ O (C.keep (fm.of hf sN_m)) s i hs (by omega) (A (10 + s) i) (nI (aN A))) (As := [.int (nI s), .int (nI i), .int (A (10 + s) i), .int (nI (aN A))]) (st := []) (by omega) (fq_86 g1) (ci := 12) rfl rfl rfl rfl (xRm_of (by omega) (by decide) (by omega) (by omega)) (Nat.le_of_ble_eq_true rfl) dX12_couldSet_42 (yk_i (kc := 0) (ks := 0) fun zv1 zg2 hzg2 => ?_)
          obtain ⟨hvzv1, hfnzg2⟩ := hzg2
          have hxzg2 := hfnzg2
          have Czg2 := (C.keep (fm.of hf sN_m)).keep (fm.of hxzg2 sN_m)
          refine xj_if_ne (tgt := 52) (by decide) dX12_couldSet_45 (fun zc45 => ?_) (fun zc45 => ?_)
          · have hob : ¬ (cuB A Λ s) i = true := by unfold cuB; rw [show clearF (Λ (aW A)) (aK A s) (A 2 s) (A 3 s) i (A (10 + s) i) (nI (aN A)) = true from bI_n0.mp (fun z => zc45 (hvzv1.trans z)), Bool.not_true, Bool.and_false]; decide
            refine xj_iconst (v := 0) (by decide) dX12_couldSet_52 ?_
            refine xj_istore (i := 4) (lv1 := [(4, .int 0), (3, .int (nI i)), (2, .int (setF (cuB A Λ s) i)), (0, .ref 86), (1, .int (nI s))]) rfl (Nat.le_of_ble_eq_true rfl) dX12_couldSet_53 ?_
            refine xj_iload (i := 4) 0 rfl dX12_couldSet_55 ?_
            refine xj_if_eq (tgt := 80) (by decide) dX12_couldSet_57 (fun zc57 => ?_) (fun zc57 => ?_)
            · refine xj_iinc (n := 1) (i := 3) (v := nI (i + 1)) (lv1 := [(3, .int (nI (i + 1))), (4, .int 0), (2, .int (setF (cuB A Λ s) i)), (0, .ref 86), (1, .int (nI s))]) 1 rfl (nI_1 i) rfl (Nat.le_of_ble_eq_true rfl) dX12_couldSet_80 ?_
              refine xj_goto (tgt := 4) (by decide) dX12_couldSet_83 ?_
              refine xj_sub (lv' := [(3, .int (nI (i + 1))), (2, .int (setF (cuB A Λ s) i)), (0, .ref 86), (1, .int (nI s))]) [0, 2, 3, 4] rfl ?_
              have h9 := ih zg2 (hf.tr hxzg2)
              rw [show setF (cuB A Λ s) (i + 1) = setF (cuB A Λ s) i from if_neg hob] at h9
              exact h9
            · exact absurd (by decide) zc57
          · have hcl := bI_0.mp (hvzv1.symm.trans zc45)
            refine xj_iconst (v := 1) (by decide) dX12_couldSet_48 ?_
            refine xj_goto (tgt := 53) (by decide) dX12_couldSet_49 ?_
            refine xj_istore (i := 4) (lv1 := [(4, .int 1), (3, .int (nI i)), (2, .int (setF (cuB A Λ s) i)), (0, .ref 86), (1, .int (nI s))]) rfl (Nat.le_of_ble_eq_true rfl) dX12_couldSet_53 ?_
            refine xj_iload (i := 4) 0 rfl dX12_couldSet_55 ?_
            refine xj_if_eq (tgt := 80) (by decide) dX12_couldSet_57 (fun zc57 => ?_) (fun zc57 => ?_)
            · exact absurd zc57 (by decide)
            · refine xj_aload_n (n := 0) (i := 0) 3 rfl rfl dX12_couldSet_60 ?_
              refine xj_iload_n (n := 1) (i := 1) 4 rfl rfl dX12_couldSet_61 ?_
              refine xj_iload_n (n := 3) (i := 3) 1 rfl rfl dX12_couldSet_62 ?_
              refine xj_iconst (v := 0) (by decide) dX12_couldSet_63 ?_
              refine xj_aload_n (n := 0) (i := 0) 3 rfl rfl dX12_couldSet_64 ?_
              refine yj_getf (v := .int (nI (aN A))) fl_X12_97_12 (by omega) (fq_86 zg2) (congrArg (fun z => some (Value.int z)) (Czg2.N O)) dX12_couldSet_65 ?_
              refine xj_callV kv_X12_196 (c_X12_isClear l (d + 0) n hn zg2 A Λ O Czg2 s i hs (by omega) 0 (nI (aN A))) (As := [.int (nI s), .int (nI i), .int 0, .int (nI (aN A))]) (st := []) (by omega) (fq_86 zg2) (ci := 12) rfl rfl rfl rfl (xRm_of (by omega) (by decide) (by omega) (by omega)) (Nat.le_of_ble_eq_true rfl) dX12_couldSet_68 (yk_i (kc := 0) (ks := 0) fun zv3 zg4 hzg4 => ?_)
              obtain ⟨hvzv3, hfnzg4⟩ := hzg4
              have hxzg4 := hfnzg4
              have Czg4 := Czg2.keep (fm.of hxzg4 sN_m)
              refine xj_if_eq (tgt := 80) (by decide) dX12_couldSet_71 (fun zc71 => ?_) (fun zc71 => ?_)
              · exact absurd (hvzv3.symm.trans zc71) (by rw [bI_t (cl_0 i (nI (aN A)) (O.2.2.2.2.2.2.1 s hs).2.1)]; decide)
              · have hob : (cuB A Λ s) i = true := by unfold cuB; rw [hpi, Bool.not_eq_true _ |>.mp hcl]; rfl
                refine xj_iload_n (n := 2) (i := 2) 2 rfl rfl dX12_couldSet_74 ?_
                refine xj_iconst (v := 1) (by decide) dX12_couldSet_75 ?_
                refine xj_iload_n (n := 3) (i := 3) 1 rfl rfl dX12_couldSet_76 ?_
                refine xj_ishl dX12_couldSet_77 ?_
                refine xj_ior dX12_couldSet_78 ?_
                refine xj_topi (fun zv5 ezv5 => ?_)
                refine xj_istore_n (n := 2) (i := 2) (lv1 := [(2, .int zv5), (4, .int 1), (3, .int (nI i)), (0, .ref 86), (1, .int (nI s))]) rfl rfl (Nat.le_of_ble_eq_true rfl) dX12_couldSet_79 ?_
                refine xj_iinc (n := 1) (i := 3) (v := nI (i + 1)) (lv1 := [(3, .int (nI (i + 1))), (2, .int zv5), (4, .int 1), (0, .ref 86), (1, .int (nI s))]) 2 rfl (nI_1 i) rfl (Nat.le_of_ble_eq_true rfl) dX12_couldSet_80 ?_
                refine xj_goto (tgt := 4) (by decide) dX12_couldSet_83 ?_
                refine xj_sub (lv' := [(3, .int (nI (i + 1))), (2, .int zv5), (0, .ref 86), (1, .int (nI s))]) [0, 1, 3, 4] rfl ?_
                have h9 := ih zg4 ((hf.tr hxzg2).tr hxzg4)
                rw [show setF (cuB A Λ s) (i + 1) = zv5 from (if_pos hob).trans ezv5.symm] at h9
                exact h9
  refine xj_sub (lv' := [(3, .int 0), (2, .int 0), (0, .ref 86), (1, .int (nI s))]) [0, 1, 2, 3] rfl ?_
  exact key 0 (Nat.zero_le _) g fr.rf
theorem cs_0 {pr : Nat → Int32} : csF pr 0 = 0 := by unfold csF; rw [sumF_congr (f' := fun _ => 0) (fun c hc => if_neg (by rw [hasF_0 c hc]; decide))]; decide
set_option maxHeartbeats 4000000 in
set_option maxRecDepth 100000 in
theorem c_X12_finds (l : Launch) (d : Nat) (n : Nat) (hn : 110 ≤ n) (g : xG) (A : zSt) (Λ : Nat → xL) (O : okA A) (C : mA g A Λ) (s : Nat) (hs : s < aS A)  : xC l yX12_finds cX12_finds 7 none (xR (d + 5) 0 0) [.ref 86, .int (nI s)] (n, fh g) (qV n fun g1 => fm g g1 ∧ g1 86 34 = (wcP A Λ s) ∧ g1 86 35 = onesF (wcP A Λ s) ∧ g1 86 36 = coS A Λ s (wcP A Λ s)) := by
  refine xC_of false (by decide +kernel) (fun z => by cases z) (Nat.le_of_ble_eq_true rfl) ?_
  have hS6 := O.1.2
  have hW := O.W
  have hT6 := O.2.2.2.1.2.2
  have hN9 := O.2.1.2
  have hs6_s : s < 6 := by omega
  show xJ l (RX12, 7, none, false, (xR (d + 5) 0 0), none) cX12_finds _ 0 0 0 [(0, .ref 86), (1, .int (nI s))] [] (n, fh g)
  refine xj_aload_n (n := 0) (i := 0) 0 rfl rfl dX12_finds_0 ?_
  refine xj_iload_n (n := 1) (i := 1) 1 rfl rfl dX12_finds_1 ?_
  refine xj_callV kv_X12_234 (c_X12_couldSet l (d + 0) n hn g A Λ O C s hs) (As := [.int (nI s)]) (st := []) (by omega) (fq_86 g) (ci := 12) rfl rfl rfl rfl (xRm_of (by omega) (by decide) (by omega) (by omega)) (Nat.le_of_ble_eq_true rfl) dX12_finds_2 (yk_i (kc := 0) (ks := 0) fun zv1 zg2 hzg2 => ?_)
  obtain ⟨hvzv1, hfnzg2⟩ := hzg2
  have hxzg2 := fm.of hfnzg2 sN_m
  have Czg2 := C.keep hxzg2
  refine xj_top (show zv1 = leP A Λ s from hvzv1) ?_
  refine xj_istore_n (n := 2) (i := 2) (lv1 := [(2, .int (leP A Λ s)), (0, .ref 86), (1, .int (nI s))]) rfl rfl (Nat.le_of_ble_eq_true rfl) dX12_finds_5 ?_
  refine xj_aload_n (n := 0) (i := 0) 1 rfl rfl dX12_finds_6 ?_
  refine xj_iconst (v := 0) (by decide) dX12_finds_7 ?_
  refine yj_puti fl_X12_237_12 (by omega) fS_86_34 (fi_i _) dX12_finds_8 ?_
  obtain ⟨zg3, ezg3⟩ : ∃ z, z = gs zg2 86 34 0 := ⟨_, rfl⟩
  rw [← ezg3]
  have hxzg3 : fm g zg3 := by rw [ezg3]; exact hxzg2.g86 (by omega) _
  have Czg3 := C.keep hxzg3
  refine xj_aload_n (n := 0) (i := 0) 1 rfl rfl dX12_finds_11 ?_
  refine xj_iconst (v := 0) (by decide) dX12_finds_12 ?_
  refine yj_puti fl_X12_240_12 (by omega) fS_86_35 (fi_i _) dX12_finds_13 ?_
  obtain ⟨zg4, ezg4⟩ : ∃ z, z = gs zg3 86 35 0 := ⟨_, rfl⟩
  rw [← ezg4]
  have hxzg4 : fm g zg4 := by rw [ezg4]; exact hxzg3.g86 (by omega) _
  have Czg4 := C.keep hxzg4
  refine xj_aload_n (n := 0) (i := 0) 1 rfl rfl dX12_finds_16 ?_
  refine xj_iconst (v := 0) (by decide) dX12_finds_17 ?_
  refine yj_puti fl_X12_243_12 (by omega) fS_86_36 (fi_i _) dX12_finds_18 ?_
  obtain ⟨zg5, ezg5⟩ : ∃ z, z = gs zg4 86 36 0 := ⟨_, rfl⟩
  rw [← ezg5]
  have hxzg5 : fm g zg5 := by rw [ezg5]; exact hxzg4.g86 (by omega) _
  have Czg5 := C.keep hxzg5
  refine xj_iconst (v := 0) (by decide) dX12_finds_21 ?_
  refine xj_istore_n (n := 3) (i := 3) (lv1 := [(3, .int 0), (2, .int (leP A Λ s)), (0, .ref 86), (1, .int (nI s))]) rfl rfl (Nat.le_of_ble_eq_true rfl) dX12_finds_22 ?_
  have key : ∀ i, i ≤ 16 → ∀ (g1 : xG), fm g g1 → (∀ j, j < i → g1 106 j = if hasF (leP A Λ s) (nI j) = true then coP A Λ s j else 0) → g1 86 34 = 0 → g1 86 35 = 0 → g1 86 36 = 0 → xJ l (RX12, 7, none, false, (xR (d + 5) 0 0), none) cX12_finds (qV n fun g1 => fm g g1 ∧ g1 86 34 = (wcP A Λ s) ∧ g1 86 35 = onesF (wcP A Λ s) ∧ g1 86 36 = coS A Λ s (wcP A Λ s)) 0 0 23 [(3, .int (nI i)), (0, .ref 86), (1, .int (nI s)), (2, .int (leP A Λ s))] [] (n, fh g1) := by
    refine x_loop 16 _ ?_ ?_
    · intro g1 hf hP h4 h5 h6
      refine xj_iload_n (n := 3) (i := 3) 0 rfl rfl dX12_finds_23 ?_
      refine xj_bipush (v := 16) (by decide) dX12_finds_24 ?_
      refine xj_icmp_ge (tgt := 60) (by decide) dX12_finds_26 (fun zc26 => ?_) (fun zc26 => ?_)
      · refine xj_iconst (v := 1) (by decide) dX12_finds_60 ?_
        refine xj_istore_n (n := 3) (i := 3) (lv1 := [(3, .int 1), (0, .ref 86), (1, .int (nI s)), (2, .int (leP A Λ s))]) rfl rfl (Nat.le_of_ble_eq_true rfl) dX12_finds_61 ?_
        have key2 : ∀ (m : Nat) (left ch : Int32) (g2 : xG), fm g g2 → (∀ j, j < 16 → g2 106 j = if hasF (leP A Λ s) (nI j) = true then coP A Λ s j else 0) → g2 86 34 = ch → g2 86 35 = onesF ch → g2 86 36 = csF (coP A Λ s) ch → w16 left → (∀ c, c < 16 → hasF left (nI c) = true → hasF (leP A Λ s) (nI c) = true ∧ hasF ch (nI c) = false) → cntN left ≤ m → wcF (coP A Λ s) (nI (aM A)) m left ch (csF (coP A Λ s) ch) = (wcP A Λ s) → xJ l (RX12, 7, none, false, (xR (d + 5) 0 0), none) cX12_finds (qV n fun g1 => fm g g1 ∧ g1 86 34 = (wcP A Λ s) ∧ g1 86 35 = onesF (wcP A Λ s) ∧ g1 86 36 = coS A Λ s (wcP A Λ s)) 0 0 62 [(3, .int 1), (2, .int left), (0, .ref 86), (1, .int (nI s))] [] (n, fh g2) := by
          intro m
          induction m using Nat.strongRecOn with
          | ind m ihm =>
            intro left ch g2 hf2 hP2 h4 h5 h6 hw hin hcn hW
            refine xj_iload_n (n := 3) (i := 3) 0 rfl rfl dX12_finds_62 ?_
            refine xj_if_eq (tgt := 232) (by decide) dX12_finds_63 (fun zc63 => ?_) (fun zc63 => ?_)
            · exact absurd zc63 (by decide)
            · refine xj_iconst (v := (-1)) (by decide) dX12_finds_66 ?_
              refine xj_istore (i := 4) (lv1 := [(4, .int (-1)), (3, .int 1), (2, .int left), (0, .ref 86), (1, .int (nI s))]) rfl (Nat.le_of_ble_eq_true rfl) dX12_finds_67 ?_
              refine xj_iconst (v := 0) (by decide) dX12_finds_69 ?_
              refine xj_istore (i := 5) (lv1 := [(5, .int 0), (4, .int (-1)), (3, .int 1), (2, .int left), (0, .ref 86), (1, .int (nI s))]) rfl (Nat.le_of_ble_eq_true rfl) dX12_finds_70 ?_
              have key3 : ∀ i, i ≤ 16 → ∀ nx : Int32, nxI (coP A Λ s) left i nx → xJ l (RX12, 7, none, false, (xR (d + 5) 0 0), none) cX12_finds (qV n fun g1 => fm g g1 ∧ g1 86 34 = (wcP A Λ s) ∧ g1 86 35 = onesF (wcP A Λ s) ∧ g1 86 36 = coS A Λ s (wcP A Λ s)) 0 0 72 [(5, .int (nI i)), (4, .int nx), (3, .int 1), (2, .int left), (0, .ref 86), (1, .int (nI s))] [] (n, fh g2) := by
                refine x_loop 16 _ ?_ ?_
                · intro nx hN
                  refine xj_iload (i := 5) 0 rfl dX12_finds_72 ?_
                  refine xj_bipush (v := 16) (by decide) dX12_finds_74 ?_
                  refine xj_icmp_ge (tgt := 140) (by decide) dX12_finds_76 (fun zc76 => ?_) (fun zc76 => ?_)
                  · rcases hN with ⟨rfl, hn2, hn3⟩ | ⟨k, hk, hk2, rfl, hk4⟩
                    · have hl0 : left = 0 := no_bits hw hn2
                      rw [hl0, wcF_0] at hW
                      refine xj_iload (i := 4) 1 rfl dX12_finds_140 ?_
                      refine xj_iconst (v := (-1)) (by decide) dX12_finds_142 ?_
                      refine xj_icmp_eq (tgt := 175) (by decide) dX12_finds_143 (fun zc143 => ?_) (fun zc143 => ?_)
                      · refine xj_iconst (v := 0) (by decide) dX12_finds_175 ?_
                        refine xj_istore_n (n := 3) (i := 3) (lv1 := [(3, .int 0), (5, .int (nI 16)), (4, .int (-1)), (2, .int left), (0, .ref 86), (1, .int (nI s))]) rfl rfl (Nat.le_of_ble_eq_true rfl) dX12_finds_176 ?_
                        refine xj_iload_n (n := 3) (i := 3) 0 rfl rfl dX12_finds_177 ?_
                        refine xj_if_eq (tgt := 229) (by decide) dX12_finds_178 (fun zc178 => ?_) (fun zc178 => ?_)
                        · refine xj_goto (tgt := 62) (by decide) dX12_finds_229 ?_
                          refine xj_iload_n (n := 3) (i := 3) 0 rfl rfl dX12_finds_62 ?_
                          refine xj_if_eq (tgt := 232) (by decide) dX12_finds_63 (fun zc63 => ?_) (fun zc63 => ?_)
                          · exact xj_return rfl (Nat.zero_le _) (Nat.zero_le _) dX12_finds_232 (qV_e ⟨hf2, h4.trans hW, by rw [← hW]; exact h5, by rw [← hW]; exact h6⟩)
                          · exact absurd (by decide) zc63
                        · exact absurd (by decide) zc178
                      · exact absurd (by decide) zc143
                    · have hcl := cnt_rm hk hk2
                      obtain ⟨m1, rfl⟩ : ∃ m1, m = m1 + 1 := ⟨m - 1, by omega⟩
                      have hkL := hin k hk hk2
                      have hpk : g2 106 k = coP A Λ s k := (hP2 k hk).trans (if_pos hkL.1)
                      have hl0 : ¬ left = 0 := fun e => by rw [e, hasF_0 k hk] at hk2; cases hk2
                      have hstep : wcF (coP A Λ s) (nI (aM A)) (m1 + 1) left ch (csF (coP A Λ s) ch) = if csF (coP A Λ s) ch + coP A Λ s k ≤ nI (aM A) then wcF (coP A Λ s) (nI (aM A)) m1 (left &&& (bitF k ^^^ (-1))) (ch ||| bitF k) (csF (coP A Λ s) ch + coP A Λ s k) else ch := by show (if left = 0 then ch else if csF (coP A Λ s) ch + coP A Λ s (chF (coP A Λ s) left 16).1 ≤ nI (aM A) then _ else ch) = _; rw [if_neg hl0, hk4]
                      refine xj_iload (i := 4) 1 rfl dX12_finds_140 ?_
                      refine xj_iconst (v := (-1)) (by decide) dX12_finds_142 ?_
                      refine xj_icmp_eq (tgt := 175) (by decide) dX12_finds_143 (fun zc143 => ?_) (fun zc143 => ?_)
                      · exact absurd zc143 (nI_m1 (by omega))
                      · refine xj_aload_n (n := 0) (i := 0) 4 rfl rfl dX12_finds_146 ?_
                        refine yj_getf (v := .int (csF (coP A Λ s) ch)) fl_X12_243_12 (by omega) (fq_86 g2) (congrArg (fun z => some (Value.int z)) h6) dX12_finds_147 ?_
                        refine xj_aload_n (n := 0) (i := 0) 4 rfl rfl dX12_finds_150 ?_
                        refine yj_getf (v := .ref 106) fl_X12_71_12 (by omega) (fq_86 g2) rfl dX12_finds_151 ?_
                        refine xj_iload (i := 4) 1 rfl dX12_finds_154 ?_
                        refine xj_iconst (v := 0) (by decide) dX12_finds_156 ?_
                        refine xj_bipush (v := 15) (by decide) dX12_finds_157 ?_
                        refine xj_callS ks_X12_173 (c_X12_within l (d + 4) (nI k) 0 15 _) (As := [.int (nI k), .int 0, .int 15]) (st := [.ref 106, .int (csF (coP A Λ s) ch)]) rfl rfl (xRm_of (by omega) (by decide) (by omega) (by omega)) (Nat.le_of_ble_eq_true rfl) dX12_finds_159 (yk_p (kc := 0) (ks := 0) ?_)
                        refine xj_top (show (wiF (nI k) 0 15) = nI k from (wi_15 hk)) ?_
                        refine yj_ialdN k (by omega) fA_106 rfl (by omega) (by decide) dX12_finds_162 ?_
                        refine xj_top hpk ?_
                        refine xj_iadd dX12_finds_163 ?_
                        refine xj_aload_n (n := 0) (i := 0) 4 rfl rfl dX12_finds_164 ?_
                        refine yj_getf (v := .int (nI (aM A))) fl_X12_22_12 (by omega) (fq_86 g2) (congrArg (fun z => some (Value.int z)) ((hf2.2 6 (by omega)).trans (C.M O))) dX12_finds_165 ?_
                        refine xj_icmp_gt (tgt := 175) (by decide) dX12_finds_168 (fun zc168 => ?_) (fun zc168 => ?_)
                        · rw [hstep, if_neg (fun h => le_nlt h zc168)] at hW
                          refine xj_iconst (v := 0) (by decide) dX12_finds_175 ?_
                          refine xj_istore_n (n := 3) (i := 3) (lv1 := [(3, .int 0), (5, .int (nI 16)), (4, .int (nI k)), (2, .int left), (0, .ref 86), (1, .int (nI s))]) rfl rfl (Nat.le_of_ble_eq_true rfl) dX12_finds_176 ?_
                          refine xj_iload_n (n := 3) (i := 3) 0 rfl rfl dX12_finds_177 ?_
                          refine xj_if_eq (tgt := 229) (by decide) dX12_finds_178 (fun zc178 => ?_) (fun zc178 => ?_)
                          · refine xj_goto (tgt := 62) (by decide) dX12_finds_229 ?_
                            refine xj_iload_n (n := 3) (i := 3) 0 rfl rfl dX12_finds_62 ?_
                            refine xj_if_eq (tgt := 232) (by decide) dX12_finds_63 (fun zc63 => ?_) (fun zc63 => ?_)
                            · exact xj_return rfl (Nat.zero_le _) (Nat.zero_le _) dX12_finds_232 (qV_e ⟨hf2, h4.trans hW, by rw [← hW]; exact h5, by rw [← hW]; exact h6⟩)
                            · exact absurd (by decide) zc63
                          · exact absurd (by decide) zc178
                        · rw [hstep, if_pos (nlt_le zc168)] at hW
                          refine xj_iconst (v := 1) (by decide) dX12_finds_171 ?_
                          refine xj_goto (tgt := 176) (by decide) dX12_finds_172 ?_
                          refine xj_istore_n (n := 3) (i := 3) (lv1 := [(3, .int 1), (5, .int (nI 16)), (4, .int (nI k)), (2, .int left), (0, .ref 86), (1, .int (nI s))]) rfl rfl (Nat.le_of_ble_eq_true rfl) dX12_finds_176 ?_
                          refine xj_iload_n (n := 3) (i := 3) 0 rfl rfl dX12_finds_177 ?_
                          refine xj_if_eq (tgt := 229) (by decide) dX12_finds_178 (fun zc178 => ?_) (fun zc178 => ?_)
                          · exact absurd zc178 (by decide)
                          · refine xj_aload_n (n := 0) (i := 0) 4 rfl rfl dX12_finds_181 ?_
                            refine xj_dup rfl dX12_finds_182 ?_
                            refine yj_getf (v := .int (ch)) fl_X12_237_12 (by omega) (fq_86 g2) (congrArg (fun z => some (Value.int z)) h4) dX12_finds_183 ?_
                            refine xj_iconst (v := 1) (by decide) dX12_finds_186 ?_
                            refine xj_iload (i := 4) 2 rfl dX12_finds_187 ?_
                            refine xj_ishl dX12_finds_189 ?_
                            refine xj_ior dX12_finds_190 ?_
                            refine xj_topi (fun zv6 ezv6 => ?_)
                            refine yj_puti fl_X12_237_12 (by omega) fS_86_34 (fi_i _) dX12_finds_191 ?_
                            obtain ⟨zg7, ezg7⟩ : ∃ z, z = gs g2 86 34 zv6 := ⟨_, rfl⟩
                            rw [← ezg7]
                            have hxzg7 : fm g zg7 := by rw [ezg7]; exact hf2.g86 (by omega) _
                            have Czg7 := C.keep hxzg7
                            refine xj_iload_n (n := 2) (i := 2) 3 rfl rfl dX12_finds_194 ?_
                            refine xj_iconst (v := 1) (by decide) dX12_finds_195 ?_
                            refine xj_iload (i := 4) 2 rfl dX12_finds_196 ?_
                            refine xj_ishl dX12_finds_198 ?_
                            refine xj_iconst (v := (-1)) (by decide) dX12_finds_199 ?_
                            refine xj_ixor dX12_finds_200 ?_
                            refine xj_iand dX12_finds_201 ?_
                            refine xj_topi (fun zv8 ezv8 => ?_)
                            refine xj_istore_n (n := 2) (i := 2) (lv1 := [(2, .int zv8), (3, .int 1), (5, .int (nI 16)), (4, .int (nI k)), (0, .ref 86), (1, .int (nI s))]) rfl rfl (Nat.le_of_ble_eq_true rfl) dX12_finds_202 ?_
                            refine xj_aload_n (n := 0) (i := 0) 4 rfl rfl dX12_finds_203 ?_
                            refine xj_dup rfl dX12_finds_204 ?_
                            refine yj_getf (v := .int (onesF ch)) fl_X12_240_12 (by omega) (fq_86 zg7) (congrArg (fun z => some (Value.int z)) (by rw [ezg7, gs_s, upd_n _ _ (by decide)]; exact h5)) dX12_finds_205 ?_
                            refine xj_iconst (v := 1) (by decide) dX12_finds_208 ?_
                            refine xj_iadd dX12_finds_209 ?_
                            refine xj_topi (fun zv9 ezv9 => ?_)
                            refine yj_puti fl_X12_240_12 (by omega) fS_86_35 (fi_i _) dX12_finds_210 ?_
                            obtain ⟨zg10, ezg10⟩ : ∃ z, z = gs zg7 86 35 zv9 := ⟨_, rfl⟩
                            rw [← ezg10]
                            have hxzg10 : fm g zg10 := by rw [ezg10]; exact hxzg7.g86 (by omega) _
                            have Czg10 := C.keep hxzg10
                            refine xj_aload_n (n := 0) (i := 0) 4 rfl rfl dX12_finds_213 ?_
                            refine xj_dup rfl dX12_finds_214 ?_
                            refine yj_getf (v := .int (csF (coP A Λ s) ch)) fl_X12_243_12 (by omega) (fq_86 zg10) (congrArg (fun z => some (Value.int z)) (by rw [ezg10, gs_s, upd_n _ _ (by decide), ezg7, gs_s, upd_n _ _ (by decide)]; exact h6)) dX12_finds_215 ?_
                            refine xj_aload_n (n := 0) (i := 0) 4 rfl rfl dX12_finds_218 ?_
                            refine yj_getf (v := .ref 106) fl_X12_71_12 (by omega) (fq_86 zg10) rfl dX12_finds_219 ?_
                            refine xj_iload (i := 4) 3 rfl dX12_finds_222 ?_
                            refine yj_ialdN k (by omega) fA_106 rfl (by omega) (by decide) dX12_finds_224 ?_
                            refine xj_top (show zg10 106 k = coP A Λ s k from by rw [ezg10, gs_n _ _ _ (by decide), ezg7, gs_n _ _ _ (by decide)]; exact hpk) ?_
                            refine xj_iadd dX12_finds_225 ?_
                            refine xj_topi (fun zv11 ezv11 => ?_)
                            refine yj_puti fl_X12_243_12 (by omega) fS_86_36 (fi_i _) dX12_finds_226 ?_
                            obtain ⟨zg12, ezg12⟩ : ∃ z, z = gs zg10 86 36 zv11 := ⟨_, rfl⟩
                            rw [← ezg12]
                            have hxzg12 : fm g zg12 := by rw [ezg12]; exact hxzg10.g86 (by omega) _
                            have Czg12 := C.keep hxzg12
                            refine xj_goto (tgt := 62) (by decide) dX12_finds_229 ?_
                            refine xj_sub (lv' := [(3, .int 1), (2, .int zv8), (0, .ref 86), (1, .int (nI s))]) [1, 0, 4, 5] rfl ?_
                            have eL : zv8 = left &&& (bitF k ^^^ (-1)) := ezv8
                            rw [eL]
                            have ecs := csF_bit (coP A Λ s) hk hkL.2
                            have eon := onesF_bit hk hkL.2
                            have hg9 : fm g zg12 := hxzg12
                            refine ihm m1 (Nat.lt_succ_self m1) (left &&& (bitF k ^^^ (-1))) (ch ||| bitF k) zg12 hg9 (fun j hj => by rw [ezg12, gs_n _ _ _ (by decide), ezg10, gs_n _ _ _ (by decide), ezg7, gs_n _ _ _ (by decide)]; exact hP2 j hj) (by rw [ezg12, gs_s, ezg10, gs_s, ezg7, gs_s, upd_n _ _ (by decide), upd_n _ _ (by decide), upd_s, ezv6]; rfl) (by rw [ezg12, gs_s, ezg10, gs_s, upd_n _ _ (by decide), upd_s, ezv9, eon]) (by rw [ezg12, gs_s, upd_s, ezv11, ecs]) (w16_and _ hw) (fun c hc h => ?_) (by omega) (by rw [ecs]; exact hW)
                            obtain ⟨c1, c2⟩ := rm_has hk hc h
                            have c3 := hin c hc c1
                            refine ⟨c3.1, ?_⟩
                            rw [hasF_or _ _ hc, c3.2, hasF_bit k hk c hc, decide_eq_false c2]; rfl
                  · exact absurd (nI_le (Nat.le_refl _) (by decide)) zc76
                · intro i hi ih nx hN
                  refine xj_iload (i := 5) 0 rfl dX12_finds_72 ?_
                  refine xj_bipush (v := 16) (by decide) dX12_finds_74 ?_
                  refine xj_icmp_ge (tgt := 140) (by decide) dX12_finds_76 (fun zc76 => ?_) (fun zc76 => ?_)
                  · exact absurd zc76 (nI_ge hi (by decide))
                  · refine xj_iload_n (n := 2) (i := 2) 3 rfl rfl dX12_finds_79 ?_
                    refine xj_iload (i := 5) 0 rfl dX12_finds_80 ?_
                    refine xj_ishr dX12_finds_82 ?_
                    refine xj_iconst (v := 1) (by decide) dX12_finds_83 ?_
                    refine xj_iand dX12_finds_84 ?_
                    refine xj_iconst (v := 1) (by decide) dX12_finds_85 ?_
                    refine xj_icmp_ne (tgt := 93) (by decide) dX12_finds_86 (fun zc86 => ?_) (fun zc86 => ?_)
                    · have hbt : hasF left (nI i) = false := decide_eq_false zc86
                      refine xj_iconst (v := 0) (by decide) dX12_finds_93 ?_
                      refine xj_istore (i := 6) (lv1 := [(6, .int 0), (5, .int (nI i)), (4, .int nx), (3, .int 1), (2, .int left), (0, .ref 86), (1, .int (nI s))]) rfl (Nat.le_of_ble_eq_true rfl) dX12_finds_94 ?_
                      refine xj_iload (i := 6) 0 rfl dX12_finds_96 ?_
                      refine xj_if_eq (tgt := 134) (by decide) dX12_finds_98 (fun zc98 => ?_) (fun zc98 => ?_)
                      · refine xj_iinc (n := 1) (i := 5) (v := nI (i + 1)) (lv1 := [(5, .int (nI (i + 1))), (6, .int 0), (4, .int nx), (3, .int 1), (2, .int left), (0, .ref 86), (1, .int (nI s))]) 1 rfl (nI_1 i) rfl (Nat.le_of_ble_eq_true rfl) dX12_finds_134 ?_
                        refine xj_goto (tgt := 72) (by decide) dX12_finds_137 ?_
                        refine xj_sub (lv' := [(5, .int (nI (i + 1))), (4, .int nx), (3, .int 1), (2, .int left), (0, .ref 86), (1, .int (nI s))]) [0, 2, 3, 4, 5, 6] rfl ?_
                        exact ih _ (nx_no hN hbt)
                      · exact absurd (by decide) zc98
                    · have hbt : hasF left (nI i) = true := decide_eq_true zc86
                      have hpi : g2 106 i = coP A Λ s i := (hP2 i hi).trans (if_pos (hin i hi hbt).1)
                      refine xj_iconst (v := 1) (by decide) dX12_finds_89 ?_
                      refine xj_goto (tgt := 94) (by decide) dX12_finds_90 ?_
                      refine xj_istore (i := 6) (lv1 := [(6, .int 1), (5, .int (nI i)), (4, .int nx), (3, .int 1), (2, .int left), (0, .ref 86), (1, .int (nI s))]) rfl (Nat.le_of_ble_eq_true rfl) dX12_finds_94 ?_
                      refine xj_iload (i := 6) 0 rfl dX12_finds_96 ?_
                      refine xj_if_eq (tgt := 134) (by decide) dX12_finds_98 (fun zc98 => ?_) (fun zc98 => ?_)
                      · exact absurd zc98 (by decide)
                      · rcases hN with ⟨rfl, hn2, hn3⟩ | ⟨k, hk, hk2, rfl, hk4⟩
                        · skip
                          refine xj_iload (i := 4) 2 rfl dX12_finds_101 ?_
                          refine xj_iconst (v := (-1)) (by decide) dX12_finds_103 ?_
                          refine xj_icmp_eq (tgt := 130) (by decide) dX12_finds_104 (fun zc104 => ?_) (fun zc104 => ?_)
                          · refine xj_iload (i := 5) 1 rfl dX12_finds_130 ?_
                            refine xj_istore (i := 4) (lv1 := [(4, .int (nI i)), (6, .int 1), (5, .int (nI i)), (3, .int 1), (2, .int left), (0, .ref 86), (1, .int (nI s))]) rfl (Nat.le_of_ble_eq_true rfl) dX12_finds_132 ?_
                            refine xj_iinc (n := 1) (i := 5) (v := nI (i + 1)) (lv1 := [(5, .int (nI (i + 1))), (4, .int (nI i)), (6, .int 1), (3, .int 1), (2, .int left), (0, .ref 86), (1, .int (nI s))]) 2 rfl (nI_1 i) rfl (Nat.le_of_ble_eq_true rfl) dX12_finds_134 ?_
                            refine xj_goto (tgt := 72) (by decide) dX12_finds_137 ?_
                            refine xj_sub (lv' := [(5, .int (nI (i + 1))), (4, .int (nI i)), (3, .int 1), (2, .int left), (0, .ref 86), (1, .int (nI s))]) [0, 1, 3, 4, 5, 6] rfl ?_
                            exact ih _ (nx_first hn3 hbt (by obtain ⟨j, hj, ej⟩ := coP_n (A := A) (Λ := Λ) s i; rw [ej]; exact nI_lt (b := 1000000) (by omega) (by decide)))
                          · exact absurd (by decide) zc104
                        · have hpk : g2 106 k = coP A Λ s k := (hP2 k (by omega)).trans (if_pos (hin k (by omega) hk2).1)
                          refine xj_iload (i := 4) 2 rfl dX12_finds_101 ?_
                          refine xj_iconst (v := (-1)) (by decide) dX12_finds_103 ?_
                          refine xj_icmp_eq (tgt := 130) (by decide) dX12_finds_104 (fun zc104 => ?_) (fun zc104 => ?_)
                          · exact absurd zc104 (nI_m1 (by omega))
                          · refine xj_aload_n (n := 0) (i := 0) 5 rfl rfl dX12_finds_107 ?_
                            refine yj_getf (v := .ref 106) fl_X12_71_12 (by omega) (fq_86 g2) rfl dX12_finds_108 ?_
                            refine xj_iload (i := 5) 1 rfl dX12_finds_111 ?_
                            refine yj_ialdN i (by omega) fA_106 rfl (by omega) (by decide) dX12_finds_113 ?_
                            refine xj_top hpi ?_
                            refine xj_aload_n (n := 0) (i := 0) 5 rfl rfl dX12_finds_114 ?_
                            refine yj_getf (v := .ref 106) fl_X12_71_12 (by omega) (fq_86 g2) rfl dX12_finds_115 ?_
                            refine xj_iload (i := 4) 2 rfl dX12_finds_118 ?_
                            refine xj_iconst (v := 0) (by decide) dX12_finds_120 ?_
                            refine xj_bipush (v := 15) (by decide) dX12_finds_121 ?_
                            refine xj_callS ks_X12_173 (c_X12_within l (d + 4) (nI k) 0 15 _) (As := [.int (nI k), .int 0, .int 15]) (st := [.ref 106, .int (coP A Λ s i)]) rfl rfl (xRm_of (by omega) (by decide) (by omega) (by omega)) (Nat.le_of_ble_eq_true rfl) dX12_finds_123 (yk_p (kc := 0) (ks := 0) ?_)
                            refine xj_top (show (wiF (nI k) 0 15) = nI k from (wi_15 (by omega))) ?_
                            refine yj_ialdN k (by omega) fA_106 rfl (by omega) (by decide) dX12_finds_126 ?_
                            refine xj_top hpk ?_
                            refine xj_icmp_ge (tgt := 134) (by decide) dX12_finds_127 (fun zc127 => ?_) (fun zc127 => ?_)
                            · refine xj_iinc (n := 1) (i := 5) (v := nI (i + 1)) (lv1 := [(5, .int (nI (i + 1))), (6, .int 1), (4, .int (nI k)), (3, .int 1), (2, .int left), (0, .ref 86), (1, .int (nI s))]) 1 rfl (nI_1 i) rfl (Nat.le_of_ble_eq_true rfl) dX12_finds_134 ?_
                              refine xj_goto (tgt := 72) (by decide) dX12_finds_137 ?_
                              refine xj_sub (lv' := [(5, .int (nI (i + 1))), (4, .int (nI k)), (3, .int 1), (2, .int left), (0, .ref 86), (1, .int (nI s))]) [0, 2, 3, 4, 5, 6] rfl ?_
                              exact ih _ (nx_more hk hk2 hk4 hbt (fun z => absurd ((i32_lt _ _).mp z) (Int.not_lt.mpr ((i32_le _ _).mp zc127))))
                            · refine xj_iload (i := 5) 1 rfl dX12_finds_130 ?_
                              refine xj_istore (i := 4) (lv1 := [(4, .int (nI i)), (6, .int 1), (5, .int (nI i)), (3, .int 1), (2, .int left), (0, .ref 86), (1, .int (nI s))]) rfl (Nat.le_of_ble_eq_true rfl) dX12_finds_132 ?_
                              refine xj_iinc (n := 1) (i := 5) (v := nI (i + 1)) (lv1 := [(5, .int (nI (i + 1))), (4, .int (nI i)), (6, .int 1), (3, .int 1), (2, .int left), (0, .ref 86), (1, .int (nI s))]) 2 rfl (nI_1 i) rfl (Nat.le_of_ble_eq_true rfl) dX12_finds_134 ?_
                              refine xj_goto (tgt := 72) (by decide) dX12_finds_137 ?_
                              refine xj_sub (lv' := [(5, .int (nI (i + 1))), (4, .int (nI i)), (3, .int 1), (2, .int left), (0, .ref 86), (1, .int (nI s))]) [0, 1, 3, 4, 5, 6] rfl ?_
                              exact ih _ (nx_less hk4 hbt ((i32_lt _ _).mpr (Int.not_le.mp (fun z => zc127 ((i32_le _ _).mpr z)))))
              refine xj_sub (lv' := [(5, .int 0), (4, .int (-1)), (3, .int 1), (2, .int left), (0, .ref 86), (1, .int (nI s))]) [0, 1, 2, 3, 4, 5] rfl ?_
              exact key3 0 (Nat.zero_le _) (-1) (Or.inl ⟨rfl, fun c hc => absurd hc (Nat.not_lt_zero c), rfl⟩)
        refine xj_sub (lv' := [(3, .int 1), (2, .int (leP A Λ s)), (0, .ref 86), (1, .int (nI s))]) [0, 3, 1, 2] rfl ?_
        exact key2 16 (leP A Λ s) 0 g1 hf hP h4 (by rw [h5]; decide) (by rw [h6]; exact cs_0.symm) (w16_and _ (w16_pic O hs)) (fun c hc h => ⟨h, hasF_0 c hc⟩) (cnN_le _ 16) (by rw [cs_0]; rfl)
      · exact absurd (nI_le (Nat.le_refl _) (by decide)) zc26
    · intro i hi ih g1 hf hP h4 h5 h6
      refine xj_iload_n (n := 3) (i := 3) 0 rfl rfl dX12_finds_23 ?_
      refine xj_bipush (v := 16) (by decide) dX12_finds_24 ?_
      refine xj_icmp_ge (tgt := 60) (by decide) dX12_finds_26 (fun zc26 => ?_) (fun zc26 => ?_)
      · exact absurd zc26 (nI_ge hi (by decide))
      · refine xj_aload_n (n := 0) (i := 0) 1 rfl rfl dX12_finds_29 ?_
        refine yj_getf (v := .ref 106) fl_X12_71_12 (by omega) (fq_86 g1) rfl dX12_finds_30 ?_
        refine xj_iload_n (n := 3) (i := 3) 0 rfl rfl dX12_finds_33 ?_
        refine xj_iload_n (n := 2) (i := 2) 3 rfl rfl dX12_finds_34 ?_
        refine xj_iload_n (n := 3) (i := 3) 0 rfl rfl dX12_finds_35 ?_
        refine xj_ishr dX12_finds_36 ?_
        refine xj_iconst (v := 1) (by decide) dX12_finds_37 ?_
        refine xj_iand dX12_finds_38 ?_
        refine xj_iconst (v := 1) (by decide) dX12_finds_39 ?_
        refine xj_icmp_ne (tgt := 52) (by decide) dX12_finds_40 (fun zc40 => ?_) (fun zc40 => ?_)
        · have hbt : hasF (leP A Λ s) (nI i) = false := decide_eq_false zc40
          refine xj_iconst (v := 0) (by decide) dX12_finds_52 ?_
          refine yj_iastN i (by omega) fA_106 rfl (by omega) (by decide) dX12_finds_53 ?_
          obtain ⟨zg13, ezg13⟩ : ∃ z, z = gs g1 106 i 0 := ⟨_, rfl⟩
          rw [← ezg13]
          have hxzg13 : fm g zg13 := by rw [ezg13]; exact hf.gS (by unfold sM; omega) _ _
          have Czg13 := C.keep hxzg13
          refine xj_iinc (n := 1) (i := 3) (v := nI (i + 1)) (lv1 := [(3, .int (nI (i + 1))), (0, .ref 86), (1, .int (nI s)), (2, .int (leP A Λ s))]) 0 rfl (nI_1 i) rfl (Nat.le_of_ble_eq_true rfl) dX12_finds_54 ?_
          refine xj_goto (tgt := 23) (by decide) dX12_finds_57 ?_
          refine xj_sub (lv' := [(3, .int (nI (i + 1))), (0, .ref 86), (1, .int (nI s)), (2, .int (leP A Λ s))]) [0, 1, 2, 3] rfl ?_
          have hz9 : 0 = if hasF (leP A Λ s) (nI i) = true then coP A Λ s i else 0 := by rw [hbt]; rfl
          have e9 : g1 106 = g1 106 := rfl
          have e8 : g1 86 = g1 86 := rfl
          refine ih zg13 hxzg13 (fun j hj => ?_) (by rw [ezg13, gs_n _ _ _ (by decide), e8]; exact h4) (by rw [ezg13, gs_n _ _ _ (by decide), e8]; exact h5) (by rw [ezg13, gs_n _ _ _ (by decide), e8]; exact h6)
          rw [ezg13, gs_s]; by_cases e : j = i; (subst e; rw [upd_s]; exact hz9); (rw [upd_n _ _ e, e9]; exact hP j (by omega))
        · have hbt : hasF (leP A Λ s) (nI i) = true := decide_eq_true zc40
          refine xj_aload_n (n := 0) (i := 0) 1 rfl rfl dX12_finds_43 ?_
          refine xj_iload_n (n := 1) (i := 1) 2 rfl rfl dX12_finds_44 ?_
          refine xj_iload_n (n := 3) (i := 3) 0 rfl rfl dX12_finds_45 ?_
          refine xj_callV kv_X12_203 (c_X12_costOf l (d + 1) n hn g1 A Λ O (C.keep hf) s i hs (by omega)) (As := [.int (nI s), .int (nI i)]) (st := [.int (nI i), .ref 106]) (by omega) (fq_86 g1) (ci := 12) rfl rfl rfl rfl (xRm_of (by omega) (by decide) (by omega) (by omega)) (Nat.le_of_ble_eq_true rfl) dX12_finds_46 (yk_i (kc := 0) (ks := 0) fun zv14 zg15 hzg15 => ?_)
          obtain ⟨hvzv14, hfnzg15⟩ := hzg15
          have hxzg15 := fm.of hfnzg15 sN_m
          have Czg15 := (C.keep hf).keep hxzg15
          refine xj_goto (tgt := 53) (by decide) dX12_finds_49 ?_
          refine yj_iastN i (by omega) fA_106 rfl (by omega) (by decide) dX12_finds_53 ?_
          obtain ⟨zg16, ezg16⟩ : ∃ z, z = gs zg15 106 i zv14 := ⟨_, rfl⟩
          rw [← ezg16]
          have hxzg16 : fm g zg16 := by rw [ezg16]; exact (hf.tr hxzg15).gS (by unfold sM; omega) _ _
          have Czg16 := C.keep hxzg16
          refine xj_iinc (n := 1) (i := 3) (v := nI (i + 1)) (lv1 := [(3, .int (nI (i + 1))), (0, .ref 86), (1, .int (nI s)), (2, .int (leP A Λ s))]) 0 rfl (nI_1 i) rfl (Nat.le_of_ble_eq_true rfl) dX12_finds_54 ?_
          refine xj_goto (tgt := 23) (by decide) dX12_finds_57 ?_
          refine xj_sub (lv' := [(3, .int (nI (i + 1))), (0, .ref 86), (1, .int (nI s)), (2, .int (leP A Λ s))]) [0, 1, 2, 3] rfl ?_
          have hz9 : zv14 = if hasF (leP A Λ s) (nI i) = true then coP A Λ s i else 0 := by rw [if_pos hbt]; exact hvzv14
          have e9 : zg15 106 = g1 106 := (hfnzg15 106 (by unfold sN; omega))
          have e8 : zg15 86 = g1 86 := (hfnzg15 86 (by unfold sN; omega))
          refine ih zg16 hxzg16 (fun j hj => ?_) (by rw [ezg16, gs_n _ _ _ (by decide), e8]; exact h4) (by rw [ezg16, gs_n _ _ _ (by decide), e8]; exact h5) (by rw [ezg16, gs_n _ _ _ (by decide), e8]; exact h6)
          rw [ezg16, gs_s]; by_cases e : j = i; (subst e; rw [upd_s]; exact hz9); (rw [upd_n _ _ e, e9]; exact hP j (by omega))
  refine xj_sub (lv' := [(3, .int 0), (0, .ref 86), (1, .int (nI s)), (2, .int (leP A Λ s))]) [0, 2, 3, 1] rfl ?_
  exact key 0 (Nat.zero_le _) zg5 hxzg5 (fun j hj => absurd hj (Nat.not_lt_zero j)) (by rw [ezg5, gs_s, ezg4, gs_s, ezg3, gs_s]; rfl) (by rw [ezg5, gs_s, ezg4, gs_s]; rfl) (by rw [ezg5, gs_s]; rfl)
