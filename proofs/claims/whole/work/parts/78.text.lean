/-! what the reference holds and has put out -/
def opA (s : Int32) : Nat := if s = 0 ∨ s = -261 ∨ s = -3 then 1 else 0
def cnA : List Int32 → Nat
  | [] => 0
  | s :: H => opA s + cnA H
def mqK (g : xG) (t : Nat) (C : List Int32) (m : Nat) (H : List Int32) (o : Nat) (O : List Int32) : Prop :=
  (g 86 27 = nI H.length ∧ g 86 28 = nI o ∧ g 86 29 = nI (O ++ C).length ∧ g 86 11 = nI t) ∧ lRow (H.map tqH) H.length (g 102) ∧ lRow ((O ++ C).map tqO) (O ++ C).length (fun k => g 92 (200 * t + k)) ∧ (∀ s ∈ H, s ∈ hsL) ∧ o = cnA H ∧ o ≤ 5 ∧ (O ++ C).length + H.length ≤ m
theorem mqK.mono {g : xG} {t : Nat} {C : List Int32} {m m' : Nat} {H : List Int32} {o : Nat} {O : List Int32} (h : mqK g t C m H o O) (hm : m ≤ m') : mqK g t C m' H o O := by
  obtain ⟨a, b, c, d, e, f, k⟩ := h
  exact ⟨a, b, c, d, e, f, Nat.le_trans k hm⟩
theorem mqK.nx {g g1 : xG} {t : Nat} {C : List Int32} {m : Nat} {H : List Int32} {o : Nat} {O : List Int32} (h : mqK g t C m H o O) (hf : fn g g1) : mqK g1 t C m H o O := by
  obtain ⟨⟨a1, a2, a3, a4⟩, b, c, d, e, f, k⟩ := h
  refine ⟨⟨?_, ?_, ?_, ?_⟩, ?_, ?_, d, e, f, k⟩
  · rw [hf.2 27 (by omega)]; exact a1
  · rw [hf.2 28 (by omega)]; exact a2
  · rw [hf.2 29 (by omega)]; exact a3
  · rw [hf.2 11 (by omega)]; exact a4
  · rw [hf.1 102 (by decide)]; exact b
  · rw [hf.1 92 (by decide)]; exact c
theorem upd_off (w : Nat → Int32) (a k : Nat) (x : Int32) : (fun j => upd w (a + k) x (a + j)) = upd (fun j => w (a + j)) k x := by
  funext j
  by_cases h : j = k
  · rw [h, upd_s, upd_s]
  · rw [upd_n _ _ h, upd_n _ _ (by omega)]
/-- one more is put out -/
theorem mqK.put {g : xG} {t : Nat} {C : List Int32} {m : Nat} {H : List Int32} {o : Nat} {O : List Int32} (h : mqK g t C m H o O) (c : Int32) : mqK (gs (gs g 92 (200 * t + (O ++ C).length) (tqO c)) 86 29 (nI ((O ++ C).length + 1))) t C (m + 1) H o (c :: O) := by
  obtain ⟨⟨a1, a2, a3, a4⟩, b, c1, d, e, f, k⟩ := h
  refine ⟨⟨?_, ?_, ?_, ?_⟩, ?_, ?_, d, e, f, ?_⟩
  · rw [gs_s, upd_n _ _ (by decide), gs_n _ _ _ (by decide)]; exact a1
  · rw [gs_s, upd_n _ _ (by decide), gs_n _ _ _ (by decide)]; exact a2
  · rw [gs_s, upd_s]; rfl
  · rw [gs_s, upd_n _ _ (by decide), gs_n _ _ _ (by decide)]; exact a4
  · rw [gs_n _ _ _ (by decide), gs_n _ _ _ (by decide)]; exact b
  · rw [gs_n _ _ _ (by decide), gs_s, upd_off]; exact lRow_push c1 _
  · show (O ++ C).length + 1 + H.length ≤ m + 1
    omega
/-- one more is held -/
theorem mqK.hold {g : xG} {t : Nat} {C : List Int32} {m : Nat} {H : List Int32} {o : Nat} {O : List Int32} (h : mqK g t C m H o O) {c : Int32} (hc : c ∈ hsL) {o' : Nat} (e' : o' = opA c + o) (ho : o' ≤ 5) : mqK (gs (gs (gs g 86 28 (nI o')) 102 H.length (tqH c)) 86 27 (nI (H.length + 1))) t C (m + 1) (c :: H) o' O := by
  obtain ⟨⟨a1, a2, a3, a4⟩, b, c1, d, e, f, k⟩ := h
  refine ⟨⟨?_, ?_, ?_, ?_⟩, ?_, ?_, ?_, ?_, ho, ?_⟩
  · rw [gs_s, upd_s]; rfl
  · rw [gs_s, upd_n _ _ (by decide), gs_n _ _ _ (by decide), gs_s, upd_s]
  · rw [gs_s, upd_n _ _ (by decide), gs_n _ _ _ (by decide), gs_s, upd_n _ _ (by decide)]; exact a3
  · rw [gs_s, upd_n _ _ (by decide), gs_n _ _ _ (by decide), gs_s, upd_n _ _ (by decide)]; exact a4
  · rw [gs_n _ _ _ (by decide), gs_s, gs_n _ _ _ (by decide)]; exact lRow_push b _
  · rw [gs_n _ _ _ (by decide), gs_n _ _ _ (by decide), gs_n _ _ _ (by decide)]; exact c1
  · intro s hs
    rcases List.mem_cons.mp hs with h9 | h9
    · rw [h9]; exact hc
    · exact d s h9
  · show _ = opA c + cnA H
    rw [e', e]
  · show (O ++ C).length + (H.length + 1) ≤ m + 1
    omega
/-- one less is held -/
theorem mqK.drop {g : xG} {t : Nat} {C : List Int32} {m : Nat} {s : Int32} {H : List Int32} {o : Nat} {O : List Int32} (h : mqK g t C m (s :: H) o O) : mqK (gs (gs g 86 27 (nI H.length)) 86 28 (nI (o - opA s))) t C (m - 1) H (o - opA s) O ∧ opA s ≤ o ∧ s ∈ hsL ∧ g 102 H.length = tqH s ∧ g 86 27 = nI (H.length + 1) ∧ g 86 28 = nI o ∧ o ≤ 5 ∧ H.length < 200 ∨ 200 ≤ m := by
  obtain ⟨⟨a1, a2, a3, a4⟩, b, c1, d, e, f, k⟩ := h
  by_cases hm : 200 ≤ m
  · exact Or.inr hm
  · have k2 : (O ++ C).length + (H.length + 1) ≤ m := k
    have e2 : o = opA s + cnA H := e
    refine Or.inl ⟨⟨⟨?_, ?_, ?_, ?_⟩, ?_, ?_, fun x hx => d x (List.mem_cons_of_mem _ hx), by omega, by omega, by omega⟩, by omega, d s List.mem_cons_self, lRow_top1 b, a1, a2, f, by omega⟩
    · rw [gs_s, upd_n _ _ (by decide), gs_s, upd_s]
    · rw [gs_s, upd_s]
    · rw [gs_s, upd_n _ _ (by decide), gs_s, upd_n _ _ (by decide)]; exact a3
    · rw [gs_s, upd_n _ _ (by decide), gs_s, upd_n _ _ (by decide)]; exact a4
    · rw [gs_n _ _ _ (by decide), gs_n _ _ _ (by decide)]; exact lRow_pop1 b
    · rw [gs_n _ _ _ (by decide), gs_n _ _ _ (by decide)]; exact c1
theorem opA_t : ∀ s ∈ hsL, (¬ s = 0 → opA s = opS s) ∧ opA 0 = 1 := by decide +kernel
theorem fe.put {a t k : Nat} {g g1 : xG} (h : fe a t g g1) (ha : a ≤ 29) (x y : Int32) : fe a t g (gs (gs g1 92 (200 * t + k) x) 86 29 y) := (h.g92 (by omega) x).g86 (by omega) y
theorem unW_len (k : Nat) : ∀ (H : List Int32) (o : Nat) (O : List Int32), (unW k H o O).2.2.length + (unW k H o O).1.length = O.length + H.length
  | [], _, _ => rfl
  | s :: H, o, O => by
    unfold unW
    by_cases h : k ≤ rkS s
    · rw [if_pos h, unW_len k H _ _, List.length_cons, List.length_cons]; omega
    · rw [if_neg h]
theorem unW_c {k : Nat} {s : Int32} {H : List Int32} {o : Nat} {O : List Int32} (h : k ≤ rkS s) : unW k (s :: H) o O = unW k H (o - opS s) (s :: O) := by
  show (if k ≤ rkS s then _ else _) = _
  rw [if_pos h]
theorem unW_s {k : Nat} {s : Int32} {H : List Int32} {o : Nat} {O : List Int32} (h : ¬ k ≤ rkS s) : unW k (s :: H) o O = (s :: H, o, O) := by
  show (if k ≤ rkS s then _ else _) = _
  rw [if_neg h]
/-- what is left held is below -/
theorem unW_top (k : Nat) : ∀ (H : List Int32) (o : Nat) (O : List Int32), ∀ s H', (unW k H o O).1 = s :: H' → rkS s < k
  | [], _, _, s, H', h => by cases h
  | x :: H, o, O, s, H', h => by
    by_cases hc : k ≤ rkS x
    · rw [unW_c hc] at h
      exact unW_top k H _ _ s H' h
    · rw [unW_s hc] at h
      cases h
      omega
theorem gs_id {g : xG} {q k : Nat} {x : Int32} (h : g q k = x) : gs g q k x = g := by
  funext j i
  by_cases hj : j = q
  · subst hj
    rw [gs_s]
    by_cases hi : i = k
    · subst hi; rw [upd_s]; exact h.symm
    · exact upd_n _ _ hi
  · rw [gs_n _ _ _ hj]
theorem nI_m {a : Nat} (h : 1 ≤ a) : nI a - 1 = nI (a - 1) := by rw [show (1 : Int32) = nI 1 from rfl, pk_sub h]
theorem nI_m0 {a : Nat} : nI a - 0 = nI (a - 0) := by rw [show (0 : Int32) = nI 0 from rfl, pk_sub (Nat.zero_le _)]
theorem nI_k1 {a : Nat} : nI (a + 1) - 1 = nI a := by rw [nI_m (by omega)]; rfl
section ST
variable {t n : Int32} {i : Nat} {mn : Bool} {H : List Int32} {o : Nat} {O : List Int32}
theorem sqM_num (h : t = 1) : stM t n i (true, mn, H, o, O) = .inl (false, false, unW 7 H o (n :: O)) := by
  show (if true = true then (if t = 1 then _ else _) else _) = _
  rw [if_pos rfl, if_pos h]
theorem sqM_nam (h1 : ¬ t = 1) (h : 262 ≤ t) : stM t n i (true, mn, H, o, O) = .inl (false, false, unW 7 H o (-t :: O)) := by
  show (if true = true then (if t = 1 then _ else if 262 ≤ t then _ else _) else _) = _
  rw [if_pos rfl, if_neg h1, if_pos h]
theorem sqM_not (h1 : ¬ t = 1) (h2 : ¬ 262 ≤ t) (h : t = 261) (hm : mn = true) : stM t n i (true, mn, H, o, O) = (if o = 5 then .inr (false, i, []) else .inl (true, true, -261 :: H, o + 1, O)) := by
  show (if true = true then (if t = 1 then _ else if 262 ≤ t then _ else if t = 261 ∧ mn = true then _ else _) else _) = _
  rw [if_pos rfl, if_neg h1, if_neg h2, if_pos ⟨h, hm⟩]
theorem sqM_neg (h1 : ¬ t = 1) (h2 : ¬ 262 ≤ t) (h3 : ¬ (t = 261 ∧ mn = true)) (h : t = 45) : stM t n i (true, mn, H, o, O) = (if o = 5 then .inr (false, i, []) else .inl (true, false, -3 :: H, o + 1, O)) := by
  show (if true = true then (if t = 1 then _ else if 262 ≤ t then _ else if t = 261 ∧ mn = true then _ else if t = 45 then _ else _) else _) = _
  rw [if_pos rfl, if_neg h1, if_neg h2, if_neg h3, if_pos h]
theorem sqM_par (h1 : ¬ t = 1) (h2 : ¬ 262 ≤ t) (h3 : ¬ (t = 261 ∧ mn = true)) (h4 : ¬ t = 45) (h : t = 40) : stM t n i (true, mn, H, o, O) = (if o = 5 then .inr (false, i, []) else .inl (true, true, 0 :: H, o + 1, O)) := by
  show (if true = true then (if t = 1 then _ else if 262 ≤ t then _ else if t = 261 ∧ mn = true then _ else if t = 45 then _ else if t = 40 then _ else _) else _) = _
  rw [if_pos rfl, if_neg h1, if_neg h2, if_neg h3, if_neg h4, if_pos h]
theorem sqM_no (h1 : ¬ t = 1) (h2 : ¬ 262 ≤ t) (h3 : ¬ (t = 261 ∧ mn = true)) (h4 : ¬ t = 45) (h5 : ¬ t = 40) : stM t n i (true, mn, H, o, O) = .inr (false, i, []) := by
  show (if true = true then (if t = 1 then _ else if 262 ≤ t then _ else if t = 261 ∧ mn = true then _ else if t = 45 then _ else if t = 40 then _ else _) else _) = _
  rw [if_pos rfl, if_neg h1, if_neg h2, if_neg h3, if_neg h4, if_neg h5]
theorem sqM_end (h : t = 59) : stM t n i (false, mn, H, o, O) = .inr (if isNl (unW 1 H o O).1 = true then (true, i, (unW 1 H o O).2.2) else (false, i, [])) := by
  show (if false = true then _ else (if t = 59 then _ else _)) = _
  rw [if_neg Bool.false_ne_true, if_pos h]
theorem sqM_cl0 (h1 : ¬ t = 59) (h : t = 41) {o2 : Nat} {O2 : List Int32} (e : unW 1 H o O = ([], o2, O2)) : stM t n i (false, mn, H, o, O) = .inr (false, i, []) := by
  show (if false = true then _ else (if t = 59 then _ else if t = 41 then (match unW 1 H o O with | ([], _, _) => Sum.inr (false, i, []) | (_ :: H, o, O) => Sum.inl (false, false, unW 7 H (o - 1) O)) else _)) = _
  rw [if_neg Bool.false_ne_true, if_neg h1, if_pos h, e]
theorem sqM_cls (h1 : ¬ t = 59) (h : t = 41) {s2 : Int32} {H2 : List Int32} {o2 : Nat} {O2 : List Int32} (e : unW 1 H o O = (s2 :: H2, o2, O2)) : stM t n i (false, mn, H, o, O) = .inl (false, false, unW 7 H2 (o2 - 1) O2) := by
  show (if false = true then _ else (if t = 59 then _ else if t = 41 then (match unW 1 H o O with | ([], _, _) => Sum.inr (false, i, []) | (_ :: H, o, O) => Sum.inl (false, false, unW 7 H (o - 1) O)) else _)) = _
  rw [if_neg Bool.false_ne_true, if_neg h1, if_pos h, e]
theorem sqM_op (h1 : ¬ t = 59) (h2 : ¬ t = 41) (h : isOp t = true) : stM t n i (false, mn, H, o, O) = (if rkS (-t) = 4 ∧ hd4 (unW 5 H o O).1 = true then .inr (false, i, []) else .inl (true, decide (rkS (-t) ≤ 2), -t :: (unW (if rkS (-t) = 4 then 5 else rkS (-t)) H o O).1, (unW (if rkS (-t) = 4 then 5 else rkS (-t)) H o O).2)) := by
  show (if false = true then _ else (if t = 59 then _ else if t = 41 then _ else if isOp t = true then _ else _)) = _
  rw [if_neg Bool.false_ne_true, if_neg h1, if_neg h2, if_pos h]
theorem sqM_no2 (h1 : ¬ t = 59) (h2 : ¬ t = 41) (h : ¬ isOp t = true) : stM t n i (false, mn, H, o, O) = .inr (false, i, []) := by
  show (if false = true then _ else (if t = 59 then _ else if t = 41 then _ else if isOp t = true then _ else _)) = _
  rw [if_neg Bool.false_ne_true, if_neg h1, if_neg h2, if_neg h]
end ST
set_option maxHeartbeats 4000000 in
set_option maxRecDepth 100000 in
theorem c_X12_puts (l : Launch) (d : Nat) (n : Nat) (hn : 110 ≤ n) (g : xG) (t k : Nat) (ht : t ≤ 5) (hk : k < 160) (x : Int32) (h29 : g 86 29 = nI k) (h11 : g 86 11 = nI t)  : xC l yX12_puts cX12_puts 2 none (xR (d + 0) 0 0) [.ref 86, .int x] (n, fh g) (qV n fun g1 => g1 = gs (gs g 92 (200 * t + k) x) 86 29 (nI (k + 1))) := by
  refine xC_of false (by decide +kernel) (fun z => by cases z) (Nat.le_of_ble_eq_true rfl) ?_
  show xJ l (RX12, 2, none, false, (xR (d + 0) 0 0), none) cX12_puts _ 0 0 0 [(0, .ref 86), (1, .int x)] [] (n, fh g)
  refine xj_aload_n (n := 0) (i := 0) 0 rfl rfl dX12_puts_0 ?_
  refine yj_getf (v := .ref 92) fl_X12_29_12 (by omega) (fq_86 g) rfl dX12_puts_1 ?_
  refine xj_sipush (v := 200) (by decide) dX12_puts_4 ?_
  refine xj_aload_n (n := 0) (i := 0) 0 rfl rfl dX12_puts_7 ?_
  refine yj_getf (v := .int (nI t)) fl_X12_100_12 (by omega) (fq_86 g) (congrArg (fun z => some (Value.int z)) h11) dX12_puts_8 ?_
  refine xj_imul dX12_puts_11 ?_
  refine xj_top (pk_mul 200 t) ?_
  refine xj_aload_n (n := 0) (i := 0) 0 rfl rfl dX12_puts_12 ?_
  refine yj_getf (v := .int (nI k)) fl_X12_126_12 (by omega) (fq_86 g) (congrArg (fun z => some (Value.int z)) h29) dX12_puts_13 ?_
  refine xj_iadd dX12_puts_16 ?_
  refine xj_top (nI_add _ _) ?_
  refine xj_iload_n (n := 1) (i := 1) 1 rfl rfl dX12_puts_17 ?_
  refine yj_iastN ((200 * t) + k) (by omega) fA_92 rfl (by omega) (by decide) dX12_puts_18 ?_
  obtain ⟨zg1, ezg1⟩ : ∃ x9, x9 = gs g 92 ((200 * t) + k) x := ⟨_, rfl⟩
  rw [← ezg1]
  have t29zg1 : zg1 86 29 = nI k := by rw [ezg1, gs_n _ _ _ (by decide)]; exact h29
  have t11zg1 : zg1 86 11 = nI t := by rw [ezg1, gs_n _ _ _ (by decide)]; exact h11
  refine xj_aload_n (n := 0) (i := 0) 0 rfl rfl dX12_puts_19 ?_
  refine xj_dup rfl dX12_puts_20 ?_
  refine yj_getf (v := .int (nI k)) fl_X12_126_12 (by omega) (fq_86 zg1) (congrArg (fun z => some (Value.int z)) t29zg1) dX12_puts_21 ?_
  refine xj_iconst (v := 1) (by decide) dX12_puts_24 ?_
  refine xj_iadd dX12_puts_25 ?_
  refine xj_top (nI_add k 1) ?_
  refine yj_puti fl_X12_126_12 (by omega) fS_86_29 (fi_i _) dX12_puts_26 ?_
  obtain ⟨zg2, ezg2⟩ : ∃ x9, x9 = gs zg1 86 29 (nI (k + 1)) := ⟨_, rfl⟩
  rw [← ezg2]
  have t11zg2 : zg2 86 11 = nI t := by rw [ezg2, gs_s, upd_n _ _ (by decide)]; exact t11zg1
  have t29zg2 : zg2 86 29 = (nI (k + 1)) := by rw [ezg2, gs_s, upd_s]
  exact xj_return rfl (Nat.zero_le _) (Nat.zero_le _) dX12_puts_29 (qV_e (by rw [ezg2, ezg1]))
set_option maxHeartbeats 4000000 in
set_option maxRecDepth 100000 in
theorem c_X12_holds (l : Launch) (d : Nat) (n : Nat) (hn : 110 ≤ n) (g : xG) (k : Nat) (hk : k < 200) (x : Int32) (h27 : g 86 27 = nI k)  : xC l yX12_holds cX12_holds 2 none (xR (d + 0) 0 0) [.ref 86, .int x] (n, fh g) (qV n fun g1 => g1 = gs (gs g 102 k x) 86 27 (nI (k + 1))) := by
  refine xC_of false (by decide +kernel) (fun z => by cases z) (Nat.le_of_ble_eq_true rfl) ?_
  show xJ l (RX12, 2, none, false, (xR (d + 0) 0 0), none) cX12_holds _ 0 0 0 [(0, .ref 86), (1, .int x)] [] (n, fh g)
  refine xj_aload_n (n := 0) (i := 0) 0 rfl rfl dX12_holds_0 ?_
  refine yj_getf (v := .ref 102) fl_X12_59_12 (by omega) (fq_86 g) rfl dX12_holds_1 ?_
  refine xj_aload_n (n := 0) (i := 0) 0 rfl rfl dX12_holds_4 ?_
  refine yj_getf (v := .int (nI k)) fl_X12_129_12 (by omega) (fq_86 g) (congrArg (fun z => some (Value.int z)) h27) dX12_holds_5 ?_
  refine xj_iload_n (n := 1) (i := 1) 1 rfl rfl dX12_holds_8 ?_
  refine yj_iastN k (by omega) fA_102 rfl (by omega) (by decide) dX12_holds_9 ?_
  obtain ⟨zg1, ezg1⟩ : ∃ x9, x9 = gs g 102 k x := ⟨_, rfl⟩
  rw [← ezg1]
  have t27zg1 : zg1 86 27 = nI k := by rw [ezg1, gs_n _ _ _ (by decide)]; exact h27
  refine xj_aload_n (n := 0) (i := 0) 0 rfl rfl dX12_holds_10 ?_
  refine xj_dup rfl dX12_holds_11 ?_
  refine yj_getf (v := .int (nI k)) fl_X12_129_12 (by omega) (fq_86 zg1) (congrArg (fun z => some (Value.int z)) t27zg1) dX12_holds_12 ?_
  refine xj_iconst (v := 1) (by decide) dX12_holds_15 ?_
  refine xj_iadd dX12_holds_16 ?_
  refine xj_top (nI_add k 1) ?_
  refine yj_puti fl_X12_129_12 (by omega) fS_86_27 (fi_i _) dX12_holds_17 ?_
  obtain ⟨zg2, ezg2⟩ : ∃ x9, x9 = gs zg1 86 27 (nI (k + 1)) := ⟨_, rfl⟩
  rw [← ezg2]
  have t27zg2 : zg2 86 27 = (nI (k + 1)) := by rw [ezg2, gs_s, upd_s]
  exact xj_return rfl (Nat.zero_le _) (Nat.zero_le _) dX12_holds_20 (qV_e (by rw [ezg2, ezg1]))
set_option maxHeartbeats 4000000 in
set_option maxRecDepth 100000 in
theorem c_X12_unwinds (l : Launch) (d : Nat) (n : Nat) (hn : 110 ≤ n) (g : xG) (t : Nat) (ht : t ≤ 5) (C : List Int32) (m : Nat) (hm : m ≤ 160) (H : List Int32) (o : Nat) (O : List Int32) (Q : mqK g t C m H o O) (K : Nat) (hK : 1 ≤ K ∧ K ≤ 7)  : xC l yX12_unwinds cX12_unwinds 3 none (xR (d + 1) 0 0) [.ref 86, .int (nI K)] (n, fh g) (qV n fun g1 => mqK g1 t C m (unW K H o O).1 (unW K H o O).2.1 (unW K H o O).2.2 ∧ fe 27 t g g1) := by
  refine xC_of false (by decide +kernel) (fun z => by cases z) (Nat.le_of_ble_eq_true rfl) ?_
  show xJ l (RX12, 3, none, false, (xR (d + 1) 0 0), none) cX12_unwinds _ 0 0 0 [(0, .ref 86), (1, .int (nI K))] [] (n, fh g)
  have key : ∀ (H1 : List Int32) (o1 : Nat) (O1 : List Int32) (g1 : xG), mqK g1 t C m H1 o1 O1 → fe 27 t g g1 → unW K H1 o1 O1 = unW K H o O → xJ l (RX12, 3, none, false, (xR (d + 1) 0 0), none) cX12_unwinds (qV n fun g1 => mqK g1 t C m (unW K H o O).1 (unW K H o O).2.1 (unW K H o O).2.2 ∧ fe 27 t g g1) 0 0 0 [(0, .ref 86), (1, .int (nI K))] [] (n, fh g1) := by
    intro H1
    induction H1 with
    | nil =>
      intro o1 O1 g1 Q1 hf he
      refine xj_aload_n (n := 0) (i := 0) 0 rfl rfl dX12_unwinds_0 ?_
      refine yj_getf (v := .int (nI 0)) fl_X12_129_12 (by omega) (fq_86 g1) (congrArg (fun z => some (Value.int z)) Q1.1.1) dX12_unwinds_1 ?_
      refine xj_if_le (tgt := 79) (by decide) dX12_unwinds_4 (fun zc4 => ?_) (fun zc4 => ?_)
      · exact xj_return rfl (Nat.zero_le _) (Nat.zero_le _) dX12_unwinds_79 (qV_e ⟨by rw [← he]; exact Q1, hf⟩)
      · exact absurd (by decide) zc4
    | cons s H1 ih =>
      intro o1 O1 g1 Q1 hf he
      obtain ⟨D1, hos, hsm, h102, h27, h28, ho5, hlt⟩ := Q1.drop.resolve_right (by omega)
      have hm1 : (O1 ++ C).length + (H1.length + 1) ≤ m := Q1.2.2.2.2.2.2
      have hr7 := (hs_t s hsm).2.1
      refine xj_aload_n (n := 0) (i := 0) 0 rfl rfl dX12_unwinds_0 ?_
      refine yj_getf (v := .int (nI (H1.length + 1))) fl_X12_129_12 (by omega) (fq_86 g1) (congrArg (fun z => some (Value.int z)) h27) dX12_unwinds_1 ?_
      refine xj_if_le (tgt := 79) (by decide) dX12_unwinds_4 (fun zc4 => ?_) (fun zc4 => ?_)
      · exact absurd zc4 (nI_ge (a := 0) (b := H1.length + 1) (by omega) (by omega))
      · refine xj_aload_n (n := 0) (i := 0) 0 rfl rfl dX12_unwinds_7 ?_
        refine yj_getf (v := .ref 102) fl_X12_59_12 (by omega) (fq_86 g1) rfl dX12_unwinds_8 ?_
        refine xj_aload_n (n := 0) (i := 0) 0 rfl rfl dX12_unwinds_11 ?_
        refine yj_getf (v := .int (nI (H1.length + 1))) fl_X12_129_12 (by omega) (fq_86 g1) (congrArg (fun z => some (Value.int z)) h27) dX12_unwinds_12 ?_
        refine xj_iconst (v := 1) (by decide) dX12_unwinds_15 ?_
        refine xj_isub dX12_unwinds_16 ?_
        refine xj_top (show ((nI (H1.length + 1)) - 1) = nI (H1.length) from nI_k1) ?_
        refine yj_ialdN (H1.length) (by omega) fA_102 rfl (by omega) (by decide) dX12_unwinds_17 ?_
        refine xj_top h102 ?_
        refine xj_callS ks_X12_132 (c_X12_rank l (d + 0) (tqH s) _) (As := [.int (tqH s)]) (st := []) rfl rfl (xRm_of (by omega) (by decide) (by omega) (by omega)) (Nat.le_of_ble_eq_true rfl) dX12_unwinds_18 (yk_p (kc := 0) (ks := 0) ?_)
        refine xj_top (show (rkR (tqH s)) = nI (rkS s) from (hs_t s hsm).1) ?_
        refine xj_iload_n (n := 1) (i := 1) 1 rfl rfl dX12_unwinds_21 ?_
        refine xj_icmp_lt (tgt := 79) (by decide) dX12_unwinds_22 (fun zc22 => ?_) (fun zc22 => ?_)
        · have hc : ¬ K ≤ rkS s := fun y => absurd ((nI_ltI (by omega) (by omega)).mp zc22) (by omega)
          exact xj_return rfl (Nat.zero_le _) (Nat.zero_le _) dX12_unwinds_79 (qV_e ⟨by rw [← he, unW_s hc]; exact Q1, hf⟩)
        · have hc : K ≤ rkS s := Nat.le_of_not_lt (fun y => zc22 (nI_lt y (by omega)))
          have hs0 : ¬ s = 0 := by
            rintro rfl
            exact absurd (show rkS 0 = 0 by decide) (by omega)
          have hop := (opA_t s hsm).1 hs0
          refine xj_aload_n (n := 0) (i := 0) 0 rfl rfl dX12_unwinds_25 ?_
          refine xj_dup rfl dX12_unwinds_26 ?_
          refine yj_getf (v := .int (nI (H1.length + 1))) fl_X12_129_12 (by omega) (fq_86 g1) (congrArg (fun z => some (Value.int z)) h27) dX12_unwinds_27 ?_
          refine xj_iconst (v := 1) (by decide) dX12_unwinds_30 ?_
          refine xj_isub dX12_unwinds_31 ?_
          refine xj_top (show ((nI (H1.length + 1)) - 1) = nI (H1.length) from nI_k1) ?_
          refine yj_puti fl_X12_129_12 (by omega) fS_86_27 (fi_i _) dX12_unwinds_32 ?_
          obtain ⟨zg1, ezg1⟩ : ∃ x9, x9 = gs g1 86 27 (nI (H1.length)) := ⟨_, rfl⟩
          rw [← ezg1]
          have t28zg1 : zg1 86 28 = nI o1 := by rw [ezg1, gs_s, upd_n _ _ (by decide)]; exact h28
          have t27zg1 : zg1 86 27 = (nI (H1.length)) := by rw [ezg1, gs_s, upd_s]
          have fzg1 : fe 27 t g zg1 := by rw [ezg1]; exact hf.g86 (by omega) _
          refine xj_aload_n (n := 0) (i := 0) 0 rfl rfl dX12_unwinds_35 ?_
          refine yj_getf (v := .ref 102) fl_X12_59_12 (by omega) (fq_86 zg1) rfl dX12_unwinds_36 ?_
          refine xj_aload_n (n := 0) (i := 0) 0 rfl rfl dX12_unwinds_39 ?_
          refine yj_getf (v := .int ((nI (H1.length)))) fl_X12_129_12 (by omega) (fq_86 zg1) (congrArg (fun z => some (Value.int z)) t27zg1) dX12_unwinds_40 ?_
          have h102b : zg1 102 H1.length = tqH s := by rw [ezg1, gs_n _ _ _ (by decide)]; exact h102
          refine yj_ialdN (H1.length) (by omega) fA_102 rfl (by omega) (by decide) dX12_unwinds_43 ?_
          refine xj_top h102b ?_
          refine xj_istore_n (n := 2) (i := 2) (lv1 := [(2, .int (tqH s)), (0, .ref 86), (1, .int (nI K))]) rfl rfl (Nat.le_of_ble_eq_true rfl) dX12_unwinds_44 ?_
          refine xj_aload_n (n := 0) (i := 0) 1 rfl rfl dX12_unwinds_45 ?_
          refine xj_dup rfl dX12_unwinds_46 ?_
          refine yj_getf (v := .int (nI o1)) fl_X12_136_12 (by omega) (fq_86 zg1) (congrArg (fun z => some (Value.int z)) t28zg1) dX12_unwinds_47 ?_
          refine xj_iload_n (n := 2) (i := 2) 0 rfl rfl dX12_unwinds_50 ?_
          refine xj_bipush (v := 13) (by decide) dX12_unwinds_51 ?_
          refine xj_icmp_eq (tgt := 62) (by decide) dX12_unwinds_53 (fun zc53 => ?_) (fun zc53 => ?_)
          · have hS : opS s = 1 := (hs_t s hsm).2.2.2.2.1.mp (Or.inl zc53)
            refine xj_iconst (v := 1) (by decide) dX12_unwinds_62 ?_
            refine xj_goto (tgt := 67) (by decide) dX12_unwinds_63 ?_
            refine xj_isub dX12_unwinds_67 ?_
            have h68 : nI o1 - 1 = nI (o1 - opA s) := by rw [hop, hS]; exact nI_m (by omega)
            refine xj_top (show ((nI o1) - 1) = nI (o1 - opA s) from h68) ?_
            refine yj_puti fl_X12_136_12 (by omega) fS_86_28 (fi_i _) dX12_unwinds_68 ?_
            obtain ⟨zg2, ezg2⟩ : ∃ x9, x9 = gs zg1 86 28 (nI (o1 - opA s)) := ⟨_, rfl⟩
            rw [← ezg2]
            have t27zg2 : zg2 86 27 = (nI (H1.length)) := by rw [ezg2, gs_s, upd_n _ _ (by decide)]; exact t27zg1
            have t28zg2 : zg2 86 28 = (nI (o1 - opA s)) := by rw [ezg2, gs_s, upd_s]
            have fzg2 : fe 27 t g zg2 := by rw [ezg2]; exact fzg1.g86 (by omega) _
            refine xj_aload_n (n := 0) (i := 0) 1 rfl rfl dX12_unwinds_71 ?_
            refine xj_iload_n (n := 2) (i := 2) 0 rfl rfl dX12_unwinds_72 ?_
            have D2 : mqK zg2 t C (m - 1) H1 (o1 - opA s) O1 := by rw [ezg2, ezg1]; exact D1
            refine xj_callV kv_X12_139 (c_X12_puts l (d + 0) n hn zg2 t (O1 ++ C).length ht (by omega) (tqH s) D2.1.2.2.1 D2.1.2.2.2) (As := [.int (tqH s)]) (st := []) (by omega) (fq_86 zg2) (ci := 12) rfl rfl rfl rfl (xRm_of (by omega) (by decide) (by omega) (by omega)) (Nat.le_of_ble_eq_true rfl) dX12_unwinds_73 (yk_v (kc := 0) (ks := 0) fun zg3 hzg3 => ?_)
            have Pzg3 : mqK zg3 t C (m - 1 + 1) H1 (o1 - opA s) (s :: O1) := by rw [hzg3, ← (hs_t s hsm).2.2.2.1 hs0]; exact D2.put s
            have hfzg3 : fe 27 t g zg3 := by rw [hzg3]; exact fzg2.put (by omega) _ _
            refine xj_goto (tgt := 0) (by decide) dX12_unwinds_76 ?_
            refine xj_sub (lv' := [(0, .ref 86), (1, .int (nI K))]) [1, 2] rfl ?_
            exact ih (o1 - opA s) (s :: O1) zg3 (Pzg3.mono (by omega)) hfzg3 (by rw [hop, ← unW_c hc]; exact he)
          · refine xj_iload_n (n := 2) (i := 2) 0 rfl rfl dX12_unwinds_56 ?_
            refine xj_bipush (v := 19) (by decide) dX12_unwinds_57 ?_
            refine xj_icmp_ne (tgt := 66) (by decide) dX12_unwinds_59 (fun zc59 => ?_) (fun zc59 => ?_)
            · have hS : opS s = 0 := (hs_t s hsm).2.2.2.2.2.resolve_left (fun y => ((hs_t s hsm).2.2.2.2.1.mpr y).elim zc53 zc59)
              refine xj_iconst (v := 0) (by decide) dX12_unwinds_66 ?_
              refine xj_isub dX12_unwinds_67 ?_
              have h68 : nI o1 - 0 = nI (o1 - opA s) := by rw [hop, hS]; exact nI_m0
              refine xj_top (show ((nI o1) - 0) = nI (o1 - opA s) from h68) ?_
              refine yj_puti fl_X12_136_12 (by omega) fS_86_28 (fi_i _) dX12_unwinds_68 ?_
              obtain ⟨zg4, ezg4⟩ : ∃ x9, x9 = gs zg1 86 28 (nI (o1 - opA s)) := ⟨_, rfl⟩
              rw [← ezg4]
              have t27zg4 : zg4 86 27 = (nI (H1.length)) := by rw [ezg4, gs_s, upd_n _ _ (by decide)]; exact t27zg1
              have t28zg4 : zg4 86 28 = (nI (o1 - opA s)) := by rw [ezg4, gs_s, upd_s]
              have fzg4 : fe 27 t g zg4 := by rw [ezg4]; exact fzg1.g86 (by omega) _
              refine xj_aload_n (n := 0) (i := 0) 1 rfl rfl dX12_unwinds_71 ?_
              refine xj_iload_n (n := 2) (i := 2) 0 rfl rfl dX12_unwinds_72 ?_
              have D2 : mqK zg4 t C (m - 1) H1 (o1 - opA s) O1 := by rw [ezg4, ezg1]; exact D1
              refine xj_callV kv_X12_139 (c_X12_puts l (d + 0) n hn zg4 t (O1 ++ C).length ht (by omega) (tqH s) D2.1.2.2.1 D2.1.2.2.2) (As := [.int (tqH s)]) (st := []) (by omega) (fq_86 zg4) (ci := 12) rfl rfl rfl rfl (xRm_of (by omega) (by decide) (by omega) (by omega)) (Nat.le_of_ble_eq_true rfl) dX12_unwinds_73 (yk_v (kc := 0) (ks := 0) fun zg5 hzg5 => ?_)
              have Pzg5 : mqK zg5 t C (m - 1 + 1) H1 (o1 - opA s) (s :: O1) := by rw [hzg5, ← (hs_t s hsm).2.2.2.1 hs0]; exact D2.put s
              have hfzg5 : fe 27 t g zg5 := by rw [hzg5]; exact fzg4.put (by omega) _ _
              refine xj_goto (tgt := 0) (by decide) dX12_unwinds_76 ?_
              refine xj_sub (lv' := [(0, .ref 86), (1, .int (nI K))]) [1, 2] rfl ?_
              exact ih (o1 - opA s) (s :: O1) zg5 (Pzg5.mono (by omega)) hfzg5 (by rw [hop, ← unW_c hc]; exact he)
            · have hS : opS s = 1 := (hs_t s hsm).2.2.2.2.1.mp (Or.inr zc59)
              refine xj_iconst (v := 1) (by decide) dX12_unwinds_62 ?_
              refine xj_goto (tgt := 67) (by decide) dX12_unwinds_63 ?_
              refine xj_isub dX12_unwinds_67 ?_
              have h68 : nI o1 - 1 = nI (o1 - opA s) := by rw [hop, hS]; exact nI_m (by omega)
              refine xj_top (show ((nI o1) - 1) = nI (o1 - opA s) from h68) ?_
              refine yj_puti fl_X12_136_12 (by omega) fS_86_28 (fi_i _) dX12_unwinds_68 ?_
              obtain ⟨zg6, ezg6⟩ : ∃ x9, x9 = gs zg1 86 28 (nI (o1 - opA s)) := ⟨_, rfl⟩
              rw [← ezg6]
              have t27zg6 : zg6 86 27 = (nI (H1.length)) := by rw [ezg6, gs_s, upd_n _ _ (by decide)]; exact t27zg1
              have t28zg6 : zg6 86 28 = (nI (o1 - opA s)) := by rw [ezg6, gs_s, upd_s]
              have fzg6 : fe 27 t g zg6 := by rw [ezg6]; exact fzg1.g86 (by omega) _
              refine xj_aload_n (n := 0) (i := 0) 1 rfl rfl dX12_unwinds_71 ?_
              refine xj_iload_n (n := 2) (i := 2) 0 rfl rfl dX12_unwinds_72 ?_
              have D2 : mqK zg6 t C (m - 1) H1 (o1 - opA s) O1 := by rw [ezg6, ezg1]; exact D1
              refine xj_callV kv_X12_139 (c_X12_puts l (d + 0) n hn zg6 t (O1 ++ C).length ht (by omega) (tqH s) D2.1.2.2.1 D2.1.2.2.2) (As := [.int (tqH s)]) (st := []) (by omega) (fq_86 zg6) (ci := 12) rfl rfl rfl rfl (xRm_of (by omega) (by decide) (by omega) (by omega)) (Nat.le_of_ble_eq_true rfl) dX12_unwinds_73 (yk_v (kc := 0) (ks := 0) fun zg7 hzg7 => ?_)
              have Pzg7 : mqK zg7 t C (m - 1 + 1) H1 (o1 - opA s) (s :: O1) := by rw [hzg7, ← (hs_t s hsm).2.2.2.1 hs0]; exact D2.put s
              have hfzg7 : fe 27 t g zg7 := by rw [hzg7]; exact fzg6.put (by omega) _ _
              refine xj_goto (tgt := 0) (by decide) dX12_unwinds_76 ?_
              refine xj_sub (lv' := [(0, .ref 86), (1, .int (nI K))]) [1, 2] rfl ?_
              exact ih (o1 - opA s) (s :: O1) zg7 (Pzg7.mono (by omega)) hfzg7 (by rw [hop, ← unW_c hc]; exact he)
  refine xj_sub (lv' := [(0, .ref 86), (1, .int (nI K))]) [0, 1] rfl ?_
  exact key H o O g Q fe.rf rfl
set_option maxHeartbeats 4000000 in
set_option maxRecDepth 100000 in
theorem c_X12_opensOne (l : Launch) (d : Nat) (n : Nat) (hn : 110 ≤ n) (g : xG) (t : Nat) (ht : t ≤ 5) (C : List Int32) (m : Nat) (hm : m ≤ 160) (H : List Int32) (o : Nat) (O : List Int32) (Q : mqK g t C m H o O) (c x : Int32) (hc : c ∈ hsL) (hx : x = tqH c) (h1 : opA c = 1)  : xC l yX12_opensOne cX12_opensOne 2 (some .boolean) (xR (d + 1) 0 0) [.ref 86, .int x] (n, fh g) (qI n fun v g1 => (v = 0 ∧ o = 5 ∧ g1 = g) ∨ (v = 1 ∧ ¬ o = 5 ∧ mqK g1 t C (m + 1) (c :: H) (o + 1) O ∧ fe 27 t g g1)) := by
  refine xC_of false (by decide +kernel) (fun z => by cases z) (Nat.le_of_ble_eq_true rfl) ?_
  have ho5 := Q.2.2.2.2.2.1
  have hml := Q.2.2.2.2.2.2
  show xJ l (RX12, 2, (some .boolean), false, (xR (d + 1) 0 0), none) cX12_opensOne _ 0 0 0 [(0, .ref 86), (1, .int x)] [] (n, fh g)
  refine xj_aload_n (n := 0) (i := 0) 0 rfl rfl dX12_opensOne_0 ?_
  refine yj_getf (v := .int (nI o)) fl_X12_136_12 (by omega) (fq_86 g) (congrArg (fun z => some (Value.int z)) Q.1.2.1) dX12_opensOne_1 ?_
  refine xj_iconst (v := 5) (by decide) dX12_opensOne_4 ?_
  refine xj_icmp_ne (tgt := 10) (by decide) dX12_opensOne_5 (fun zc5 => ?_) (fun zc5 => ?_)
  · have ho : ¬ o = 5 := fun y => zc5 (by rw [y]; rfl)
    refine xj_aload_n (n := 0) (i := 0) 0 rfl rfl dX12_opensOne_10 ?_
    refine xj_dup rfl dX12_opensOne_11 ?_
    refine yj_getf (v := .int (nI o)) fl_X12_136_12 (by omega) (fq_86 g) (congrArg (fun z => some (Value.int z)) Q.1.2.1) dX12_opensOne_12 ?_
    refine xj_iconst (v := 1) (by decide) dX12_opensOne_15 ?_
    refine xj_iadd dX12_opensOne_16 ?_
    refine xj_top (nI_add o 1) ?_
    refine yj_puti fl_X12_136_12 (by omega) fS_86_28 (fi_i _) dX12_opensOne_17 ?_
    obtain ⟨zg1, ezg1⟩ : ∃ x9, x9 = gs g 86 28 (nI (o + 1)) := ⟨_, rfl⟩
    rw [← ezg1]
    have t28zg1 : zg1 86 28 = (nI (o + 1)) := by rw [ezg1, gs_s, upd_s]
    have fzg1 : fe 27 t g zg1 := by rw [ezg1]; exact fe.rf.g86 (by omega) _
    refine xj_aload_n (n := 0) (i := 0) 0 rfl rfl dX12_opensOne_20 ?_
    refine xj_iload_n (n := 1) (i := 1) 1 rfl rfl dX12_opensOne_21 ?_
    have h27 : zg1 86 27 = nI H.length := by rw [ezg1, gs_s, upd_n _ _ (by decide)]; exact Q.1.1
    refine xj_callV kv_X12_143 (c_X12_holds l (d + 0) n hn zg1 H.length (by omega) x h27) (As := [.int x]) (st := []) (by omega) (fq_86 zg1) (ci := 12) rfl rfl rfl rfl (xRm_of (by omega) (by decide) (by omega) (by omega)) (Nat.le_of_ble_eq_true rfl) dX12_opensOne_22 (yk_v (kc := 0) (ks := 0) fun zg2 hzg2 => ?_)
    have Pzg2 : mqK zg2 t C (m + 1) (c :: H) (o + 1) O := by rw [hzg2, hx, ezg1]; exact Q.hold hc (by omega) (by omega)
    have hfzg2 : fe 27 t g zg2 := by rw [hzg2]; exact (fzg1.g102 _ _).g86 (by omega) _
    refine xj_iconst (v := 1) (by decide) dX12_opensOne_25 ?_
    exact xj_ireturn rfl nr_b1 (Nat.zero_le _) (Nat.zero_le _) dX12_opensOne_26 (qI_e (Or.inr ⟨rfl, ho, Pzg2, hfzg2⟩))
  · refine xj_iconst (v := 0) (by decide) dX12_opensOne_8 ?_
    exact xj_ireturn rfl nr_b0 (Nat.zero_le _) (Nat.zero_le _) dX12_opensOne_9 (qI_e (Or.inl ⟨rfl, (nI_eq (b := 5) (by omega) (by decide)).mp zc5, rfl⟩))
set_option maxHeartbeats 4000000 in
set_option maxRecDepth 100000 in
theorem c_X12_between (l : Launch) (d : Nat) (n : Nat) (hn : 110 ≤ n) (g : xG) (t : Nat) (ht : t ≤ 5) (C : List Int32) (m : Nat) (hm : m ≤ 160) (H : List Int32) (o : Nat) (O : List Int32) (Q : mqK g t C m H o O) (c x : Int32) (hc : c ∈ hsL) (hx : x = tqH c) (h0 : ¬ c = 0) (h1 : opS c = 0)  : xC l yX12_between cX12_between 2 (some .boolean) (xR (d + 2) 0 0) [.ref 86, .int x] (n, fh g) (qI n fun v g1 => fe 27 t g g1 ∧ ((v = 0 ∧ (rkS c = 4 ∧ hd4 (unW 5 H o O).1 = true)) ∨ (v = 1 ∧ ¬ (rkS c = 4 ∧ hd4 (unW 5 H o O).1 = true) ∧ mqK g1 t C (m + 1) (c :: (unW (if rkS c = 4 then 5 else rkS c) H o O).1) (unW (if rkS c = 4 then 5 else rkS c) H o O).2.1 (unW (if rkS c = 4 then 5 else rkS c) H o O).2.2))) := by
  refine xC_of false (by decide +kernel) (fun z => by cases z) (Nat.le_of_ble_eq_true rfl) ?_
  have hr7 := (hs_t c hc).2.1
  have hr0 : ¬ rkS c = 0 := fun y => h0 ((hs_t c hc).2.2.1 y)
  have hoA : opA c = 0 := ((opA_t c hc).1 h0).trans h1
  show xJ l (RX12, 2, (some .boolean), false, (xR (d + 2) 0 0), none) cX12_between _ 0 0 0 [(0, .ref 86), (1, .int x)] [] (n, fh g)
  refine xj_aload_n (n := 0) (i := 0) 0 rfl rfl dX12_between_0 ?_
  refine xj_iload_n (n := 1) (i := 1) 1 rfl rfl dX12_between_1 ?_
  refine xj_callS ks_X12_132 (c_X12_rank l (d + 1) x _) (As := [.int x]) (st := [.ref 86]) rfl rfl (xRm_of (by omega) (by decide) (by omega) (by omega)) (Nat.le_of_ble_eq_true rfl) dX12_between_2 (yk_p (kc := 0) (ks := 0) ?_)
  refine xj_top (show (rkR x) = nI (rkS c) from (by rw [hx]; exact (hs_t c hc).1)) ?_
  refine xj_iconst (v := 4) (by decide) dX12_between_5 ?_
  refine xj_icmp_ne (tgt := 13) (by decide) dX12_between_6 (fun zc6 => ?_) (fun zc6 => ?_)
  · have h4 : ¬ rkS c = 4 := fun y => zc6 (by rw [y]; rfl)
    have hKe : (if rkS c = 4 then 5 else rkS c) = rkS c := if_neg h4
    refine xj_iload_n (n := 1) (i := 1) 1 rfl rfl dX12_between_13 ?_
    refine xj_callS ks_X12_132 (c_X12_rank l (d + 1) x _) (As := [.int x]) (st := [.ref 86]) rfl rfl (xRm_of (by omega) (by decide) (by omega) (by omega)) (Nat.le_of_ble_eq_true rfl) dX12_between_14 (yk_p (kc := 0) (ks := 0) ?_)
    refine xj_top (show (rkR x) = nI (rkS c) from (by rw [hx]; exact (hs_t c hc).1)) ?_
    refine xj_callV kv_X12_146 (c_X12_unwinds l (d + 0) n hn g t ht C m hm H o O Q (rkS c) (by omega)) (As := [.int (nI (rkS c))]) (st := []) (by omega) (fq_86 g) (ci := 12) rfl rfl rfl rfl (xRm_of (by omega) (by decide) (by omega) (by omega)) (Nat.le_of_ble_eq_true rfl) dX12_between_17 (yk_v (kc := 0) (ks := 0) fun zg1 hzg1 => ?_)
    obtain ⟨Q2, hfzg1⟩ := hzg1
    rw [hKe]
    obtain ⟨H2, o2, O2, e2⟩ : ∃ H2 o2 O2, unW (rkS c) H o O = (H2, o2, O2) := ⟨_, _, _, rfl⟩
    rw [e2] at Q2
    rw [e2]
    have Q2 : mqK zg1 t C m H2 o2 O2 := Q2
    have ho2 : o2 ≤ 5 := Q2.2.2.2.2.2.1
    have hl2 : (O2 ++ C).length + H2.length ≤ m := Q2.2.2.2.2.2.2
    have hno : ¬ (rkS c = 4 ∧ hd4 (unW 5 H o O).1 = true) := fun y => h4 y.1
    refine xj_iload_n (n := 1) (i := 1) 1 rfl rfl dX12_between_20 ?_
    refine xj_callS ks_X12_132 (c_X12_rank l (d + 1) x _) (As := [.int x]) (st := []) rfl rfl (xRm_of (by omega) (by decide) (by omega) (by omega)) (Nat.le_of_ble_eq_true rfl) dX12_between_21 (yk_p (kc := 0) (ks := 0) ?_)
    refine xj_top (show (rkR x) = nI (rkS c) from (by rw [hx]; exact (hs_t c hc).1)) ?_
    refine xj_iconst (v := 4) (by decide) dX12_between_24 ?_
    refine xj_icmp_ne (tgt := 55) (by decide) dX12_between_25 (fun zc25 => ?_) (fun zc25 => ?_)
    · refine xj_aload_n (n := 0) (i := 0) 0 rfl rfl dX12_between_55 ?_
      refine xj_iload_n (n := 1) (i := 1) 1 rfl rfl dX12_between_56 ?_
      refine xj_callV kv_X12_143 (c_X12_holds l (d + 1) n hn zg1 H2.length (by omega) x Q2.1.1) (As := [.int x]) (st := []) (by omega) (fq_86 zg1) (ci := 12) rfl rfl rfl rfl (xRm_of (by omega) (by decide) (by omega) (by omega)) (Nat.le_of_ble_eq_true rfl) dX12_between_57 (yk_v (kc := 0) (ks := 0) fun zg2 hzg2 => ?_)
      have Pzg2 : mqK zg2 t C (m + 1) (c :: H2) o2 O2 := by
        have h9 := Q2.hold hc (o' := o2) (by omega) ho2
        rw [gs_id Q2.1.2.1] at h9
        rw [hzg2, hx]
        exact h9
      have hf3zg2 : fe 27 t g zg2 := by rw [hzg2]; exact (hfzg1.g102 _ _).g86 (by omega) _
      refine xj_iconst (v := 1) (by decide) dX12_between_60 ?_
      exact xj_ireturn rfl nr_b1 (Nat.zero_le _) (Nat.zero_le _) dX12_between_61 (qI_e ⟨hf3zg2, Or.inr ⟨rfl, hno, Pzg2⟩⟩)
    · exact absurd zc25 zc6
  · have h4 : rkS c = 4 := (nI_eq (b := 4) (by omega) (by decide)).mp zc6
    have hKe : (if rkS c = 4 then 5 else rkS c) = 5 := if_pos h4
    refine xj_iconst (v := 5) (by decide) dX12_between_9 ?_
    refine xj_goto (tgt := 17) (by decide) dX12_between_10 ?_
    refine xj_top (show 5 = nI 5 from rfl) ?_
    refine xj_callV kv_X12_146 (c_X12_unwinds l (d + 0) n hn g t ht C m hm H o O Q 5 (by omega)) (As := [.int (nI 5)]) (st := []) (by omega) (fq_86 g) (ci := 12) rfl rfl rfl rfl (xRm_of (by omega) (by decide) (by omega) (by omega)) (Nat.le_of_ble_eq_true rfl) dX12_between_17 (yk_v (kc := 0) (ks := 0) fun zg3 hzg3 => ?_)
    obtain ⟨Q2, hfzg3⟩ := hzg3
    rw [hKe]
    obtain ⟨H2, o2, O2, e2⟩ : ∃ H2 o2 O2, unW 5 H o O = (H2, o2, O2) := ⟨_, _, _, rfl⟩
    rw [e2] at Q2
    rw [e2]
    have Q2 : mqK zg3 t C m H2 o2 O2 := Q2
    have ho2 : o2 ≤ 5 := Q2.2.2.2.2.2.1
    have hl2 : (O2 ++ C).length + H2.length ≤ m := Q2.2.2.2.2.2.2
    rcases H2 with _ | ⟨s2, H2⟩
    · have hno : ¬ (rkS c = 4 ∧ hd4 [] = true) := fun y => Bool.false_ne_true y.2
      refine xj_iload_n (n := 1) (i := 1) 1 rfl rfl dX12_between_20 ?_
      refine xj_callS ks_X12_132 (c_X12_rank l (d + 1) x _) (As := [.int x]) (st := []) rfl rfl (xRm_of (by omega) (by decide) (by omega) (by omega)) (Nat.le_of_ble_eq_true rfl) dX12_between_21 (yk_p (kc := 0) (ks := 0) ?_)
      refine xj_top (show (rkR x) = nI (rkS c) from (by rw [hx]; exact (hs_t c hc).1)) ?_
      refine xj_iconst (v := 4) (by decide) dX12_between_24 ?_
      refine xj_icmp_ne (tgt := 55) (by decide) dX12_between_25 (fun zc25 => ?_) (fun zc25 => ?_)
      · exact absurd zc25 (fun y => y zc6)
      · refine xj_aload_n (n := 0) (i := 0) 0 rfl rfl dX12_between_28 ?_
        refine yj_getf (v := .int (nI 0)) fl_X12_129_12 (by omega) (fq_86 zg3) (congrArg (fun z => some (Value.int z)) Q2.1.1) dX12_between_29 ?_
        refine xj_if_le (tgt := 55) (by decide) dX12_between_32 (fun zc32 => ?_) (fun zc32 => ?_)
        · refine xj_aload_n (n := 0) (i := 0) 0 rfl rfl dX12_between_55 ?_
          refine xj_iload_n (n := 1) (i := 1) 1 rfl rfl dX12_between_56 ?_
          refine xj_callV kv_X12_143 (c_X12_holds l (d + 1) n hn zg3 [].length (by omega) x Q2.1.1) (As := [.int x]) (st := []) (by omega) (fq_86 zg3) (ci := 12) rfl rfl rfl rfl (xRm_of (by omega) (by decide) (by omega) (by omega)) (Nat.le_of_ble_eq_true rfl) dX12_between_57 (yk_v (kc := 0) (ks := 0) fun zg4 hzg4 => ?_)
          have Pzg4 : mqK zg4 t C (m + 1) (c :: []) o2 O2 := by
            have h9 := Q2.hold hc (o' := o2) (by omega) ho2
            rw [gs_id Q2.1.2.1] at h9
            rw [hzg4, hx]
            exact h9
          have hf3zg4 : fe 27 t g zg4 := by rw [hzg4]; exact (hfzg3.g102 _ _).g86 (by omega) _
          refine xj_iconst (v := 1) (by decide) dX12_between_60 ?_
          exact xj_ireturn rfl nr_b1 (Nat.zero_le _) (Nat.zero_le _) dX12_between_61 (qI_e ⟨hf3zg4, Or.inr ⟨rfl, hno, Pzg4⟩⟩)
        · exact absurd (by decide) zc32
    · have hl3 : (O2 ++ C).length + (H2.length + 1) ≤ m := hl2
      refine xj_iload_n (n := 1) (i := 1) 1 rfl rfl dX12_between_20 ?_
      refine xj_callS ks_X12_132 (c_X12_rank l (d + 1) x _) (As := [.int x]) (st := []) rfl rfl (xRm_of (by omega) (by decide) (by omega) (by omega)) (Nat.le_of_ble_eq_true rfl) dX12_between_21 (yk_p (kc := 0) (ks := 0) ?_)
      refine xj_top (show (rkR x) = nI (rkS c) from (by rw [hx]; exact (hs_t c hc).1)) ?_
      refine xj_iconst (v := 4) (by decide) dX12_between_24 ?_
      refine xj_icmp_ne (tgt := 55) (by decide) dX12_between_25 (fun zc25 => ?_) (fun zc25 => ?_)
      · exact absurd zc25 (fun y => y zc6)
      · refine xj_aload_n (n := 0) (i := 0) 0 rfl rfl dX12_between_28 ?_
        refine yj_getf (v := .int (nI (H2.length + 1))) fl_X12_129_12 (by omega) (fq_86 zg3) (congrArg (fun z => some (Value.int z)) Q2.1.1) dX12_between_29 ?_
        refine xj_if_le (tgt := 55) (by decide) dX12_between_32 (fun zc32 => ?_) (fun zc32 => ?_)
        · exact absurd zc32 (nI_ge (a := 0) (b := H2.length + 1) (by omega) (by omega))
        · refine xj_aload_n (n := 0) (i := 0) 0 rfl rfl dX12_between_35 ?_
          refine yj_getf (v := .ref 102) fl_X12_59_12 (by omega) (fq_86 zg3) rfl dX12_between_36 ?_
          refine xj_aload_n (n := 0) (i := 0) 0 rfl rfl dX12_between_39 ?_
          refine yj_getf (v := .int (nI (H2.length + 1))) fl_X12_129_12 (by omega) (fq_86 zg3) (congrArg (fun z => some (Value.int z)) Q2.1.1) dX12_between_40 ?_
          refine xj_iconst (v := 1) (by decide) dX12_between_43 ?_
          refine xj_isub dX12_between_44 ?_
          refine xj_top (show ((nI (H2.length + 1)) - 1) = nI (H2.length) from nI_k1) ?_
          refine yj_ialdN (H2.length) (by omega) fA_102 rfl (by omega) (by decide) dX12_between_45 ?_
          refine xj_top (lRow_top1 Q2.2.1) ?_
          refine xj_callS ks_X12_132 (c_X12_rank l (d + 1) (tqH s2) _) (As := [.int (tqH s2)]) (st := []) rfl rfl (xRm_of (by omega) (by decide) (by omega) (by omega)) (Nat.le_of_ble_eq_true rfl) dX12_between_46 (yk_p (kc := 0) (ks := 0) ?_)
          refine xj_top (show (rkR (tqH s2)) = nI (rkS s2) from (hs_t s2 (Q2.2.2.2.1 s2 List.mem_cons_self)).1) ?_
          refine xj_iconst (v := 4) (by decide) dX12_between_49 ?_
          refine xj_icmp_ne (tgt := 55) (by decide) dX12_between_50 (fun zc50 => ?_) (fun zc50 => ?_)
          · have hr2 := (hs_t s2 (Q2.2.2.2.1 s2 List.mem_cons_self)).2.1
            have hno : ¬ (rkS c = 4 ∧ hd4 (s2 :: H2) = true) := fun y => zc50 (by rw [show rkS s2 = 4 from of_decide_eq_true y.2]; rfl)
            refine xj_aload_n (n := 0) (i := 0) 0 rfl rfl dX12_between_55 ?_
            refine xj_iload_n (n := 1) (i := 1) 1 rfl rfl dX12_between_56 ?_
            refine xj_callV kv_X12_143 (c_X12_holds l (d + 1) n hn zg3 (s2 :: H2).length (by omega) x Q2.1.1) (As := [.int x]) (st := []) (by omega) (fq_86 zg3) (ci := 12) rfl rfl rfl rfl (xRm_of (by omega) (by decide) (by omega) (by omega)) (Nat.le_of_ble_eq_true rfl) dX12_between_57 (yk_v (kc := 0) (ks := 0) fun zg5 hzg5 => ?_)
            have Pzg5 : mqK zg5 t C (m + 1) (c :: (s2 :: H2)) o2 O2 := by
              have h9 := Q2.hold hc (o' := o2) (by omega) ho2
              rw [gs_id Q2.1.2.1] at h9
              rw [hzg5, hx]
              exact h9
            have hf3zg5 : fe 27 t g zg5 := by rw [hzg5]; exact (hfzg3.g102 _ _).g86 (by omega) _
            refine xj_iconst (v := 1) (by decide) dX12_between_60 ?_
            exact xj_ireturn rfl nr_b1 (Nat.zero_le _) (Nat.zero_le _) dX12_between_61 (qI_e ⟨hf3zg5, Or.inr ⟨rfl, hno, Pzg5⟩⟩)
          · have hr2 := (hs_t s2 (Q2.2.2.2.1 s2 List.mem_cons_self)).2.1
            have hys : rkS c = 4 ∧ hd4 (s2 :: H2) = true := ⟨h4, decide_eq_true ((nI_eq (b := 4) (by omega) (by decide)).mp zc50)⟩
            refine xj_iconst (v := 0) (by decide) dX12_between_53 ?_
            exact xj_ireturn rfl nr_b0 (Nat.zero_le _) (Nat.zero_le _) dX12_between_54 (qI_e ⟨hfzg3, Or.inl ⟨rfl, hys⟩⟩)
