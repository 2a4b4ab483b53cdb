/-! CODES IN ROWS -/
theorem lRun_e (w nm : Nat → Int32) : ∀ (k i : Nat) (s : List Int32), lRun w nm (k + 1) i s = (lRun w nm k i s).bind (lStep (w (i + k)) nm)
  | 0, i, s => by
    show (lStep (w i) nm s).bind (lRun w nm 0 (i + 1)) = lStep (w i) nm s
    cases lStep (w i) nm s <;> rfl
  | k + 1, i, s => by
    show (lStep (w i) nm s).bind (lRun w nm (k + 1) (i + 1)) = ((lStep (w i) nm s).bind (lRun w nm k (i + 1))).bind (lStep (w (i + (k + 1))) nm)
    cases lStep (w i) nm s with
    | none => rfl
    | some s1 =>
      show lRun w nm (k + 1) (i + 1) s1 = (lRun w nm k (i + 1) s1).bind (lStep (w (i + (k + 1))) nm)
      rw [lRun_e w nm k (i + 1) s1, show i + 1 + k = i + (k + 1) by omega]
theorem mRun_e (w nm : Nat → Int32) : ∀ (k i : Nat) (s : List Int32), mRun w nm (k + 1) i s = (mRun w nm k i s).bind (mStep (w (i + k)) nm)
  | 0, i, s => by
    show (mStep (w i) nm s).bind (mRun w nm 0 (i + 1)) = mStep (w i) nm s
    cases mStep (w i) nm s <;> rfl
  | k + 1, i, s => by
    show (mStep (w i) nm s).bind (mRun w nm (k + 1) (i + 1)) = ((mStep (w i) nm s).bind (mRun w nm k (i + 1))).bind (mStep (w (i + (k + 1))) nm)
    cases mStep (w i) nm s with
    | none => rfl
    | some s1 =>
      show mRun w nm (k + 1) (i + 1) s1 = (mRun w nm k (i + 1) s1).bind (mStep (w (i + (k + 1))) nm)
      rw [mRun_e w nm k (i + 1) s1, show i + 1 + k = i + (k + 1) by omega]
theorem lRow_at : ∀ (E : List Int32) {c : Int32} {D : List Int32} {top : Nat} {w : Nat → Int32}, lRow (E ++ c :: D) top w → w D.length = c
  | [], c, D, top, w, h => by
    have h1 := lRow_top h
    have h2 : D.length + 1 = top := h.1
    rw [← h2] at h1
    exact h1.2
  | _ :: E, c, D, top, w, h => lRow_at E (lRow_pop h)
theorem run_l {w nm : Nat → Int32} {top : Nat} : ∀ (D E C s : List Int32), lRow (E ++ (D ++ C)) top w → lRun w nm D.length C.length s = ruC nm D s
  | [], _, _, _, _ => rfl
  | c :: D, E, C, s, h => by
    have h1 : w (C.length + D.length) = c := by
      have h9 := lRow_at E (D := D ++ C) h
      rw [List.length_append, Nat.add_comm] at h9
      exact h9
    have ih := run_l (w := w) (nm := nm) (top := top) D (E ++ [c]) C s (by rw [List.append_assoc]; exact h)
    show lRun w nm (D.length + 1) C.length s = (ruC nm D s).bind (lStep c nm)
    rw [lRun_e, ih, h1]
def cdL : List Int32 := [-262, -263, -264, -265, -266, -267, -259, -260, -261, -60, -61, -43, -45, -42, -3]
def okC (c : Int32) : Prop := (∃ m, m < 10000 ∧ c = nI m) ∨ c ∈ cdL
theorem cd_0 : ∀ c ∈ cdL, ¬ 0 ≤ c := by decide +kernel
theorem cd_n : ∀ c ∈ cdL, isNm c = true → ¬ 100000 ≤ tqO c ∧ tqO c < 11 ∧ (0 ≤ tqO c ∧ tqO c ≤ 5) ∧ tqO c = nmI c := by decide +kernel
theorem cd_b : ∀ c ∈ cdL, ¬ isNm c = true → ¬ c = -261 → ¬ c = -3 → ¬ 100000 ≤ tqO c ∧ ¬ tqO c < 11 ∧ ¬ tqO c = 13 ∧ ¬ tqO c = 19 := by decide +kernel
theorem cd_c : ∀ c ∈ cdL, ¬ isNm c = true → ¬ c = -261 → ¬ c = -3 → c = -259 ∨ c = -260 ∨ c = -60 ∨ c = -61 ∨ c = -43 ∨ c = -45 ∨ c = -42 := by decide +kernel
theorem ms_of {c : Int32} {nm : Nat → Int32} {s s1 : List Int32} (hc : okC c) (h : lStep c nm s = some s1) : mStep (tqO c) nm s = some s1 := by
  rcases lStep_cases h with ⟨h1, h2, rfl⟩ | ⟨h1, h2, h3, rfl⟩ | ⟨h1, h2, rfl, x, r, rfl, rfl⟩ | ⟨h1, h2, rfl, x, r, rfl, rfl⟩ | ⟨h1, h2, h3, h4, y, x, r, rfl, rfl⟩
  · rcases hc with ⟨m, hm, rfl⟩ | hc
    · exact absurd h1 (num_nm hm).2
    · obtain ⟨a, b, e, f⟩ := cd_n c hc h1
      unfold mStep
      rw [if_neg a, if_pos b, if_pos e, f]
  · rcases hc with ⟨m, hm, rfl⟩ | hc
    · have e : tqO (nI m) = nI (100000 + m) := by
        unfold tqO
        rw [if_pos h2]
        exact nI_add 100000 m
      unfold mStep
      have e9 : (100000 : Int32) = nI 100000 := rfl
      rw [e, e9, if_pos (nI_le (a := 100000) (b := 100000 + m) (by omega) (by omega)), pk_sub (by omega), show 100000 + m - 100000 = m by omega]
    · exact absurd h2 (cd_0 c hc)
  · rfl
  · rfl
  · rcases hc with ⟨m, hm, rfl⟩ | hc
    · exact absurd (num_nm hm).1 h2
    · obtain ⟨a, b, e, f⟩ := cd_b c hc h1 h3 h4
      have k := cd_c c hc h1 h3 h4
      unfold mStep
      rw [if_neg a, if_neg b, if_neg e, if_neg f]
      show some (twF (tqO c) x y :: r) = some (jnF (-c) x y :: r)
      rcases k with rfl | rfl | rfl | rfl | rfl | rfl | rfl <;> rfl
theorem run_m {w nm : Nat → Int32} {top : Nat} : ∀ (D E C s r : List Int32), lRow ((E ++ (D ++ C)).map tqO) top w → (∀ c ∈ D, okC c) → ruC nm D s = some r → mRun w nm D.length C.length s = some r
  | [], _, _, _, _, _, _, h => h
  | c :: D, E, C, s, r, h, ho, hr => by
    have h1 : w (C.length + D.length) = tqO c := by
      have h9 := lRow_at (E.map tqO) (c := tqO c) (D := (D ++ C).map tqO) (by rw [List.map_append] at h; exact h)
      rw [List.length_map, List.length_append, Nat.add_comm] at h9
      exact h9
    have hr' : (ruC nm D s).bind (lStep c nm) = some r := hr
    cases hs : ruC nm D s with
    | none => rw [hs] at hr'; cases hr'
    | some s1 =>
      rw [hs] at hr'
      have ih := run_m (w := w) (nm := nm) (top := top) D (E ++ [c]) C s s1 (by rw [List.append_assoc]; exact h) (fun x hx => ho x (List.mem_cons_of_mem _ hx)) hs
      show mRun w nm (D.length + 1) C.length s = some r
      rw [mRun_e, ih, h1]
      exact ms_of (ho c List.mem_cons_self) hr'
/-! what is put out are codes -/
def oklH (H : List Int32) : Prop := ∀ s ∈ H, s ∈ hsL
def oklO (O : List Int32) : Prop := ∀ c ∈ O, okC c
theorem oklO.c {c : Int32} {O : List Int32} (h : oklO O) (hc : okC c) : oklO (c :: O) := fun x hx => by
  rcases List.mem_cons.mp hx with e | e
  · rw [e]; exact hc
  · exact h x e
theorem oklH.c {c : Int32} {H : List Int32} (h : oklH H) (hc : c ∈ hsL) : oklH (c :: H) := fun x hx => by
  rcases List.mem_cons.mp hx with e | e
  · rw [e]; exact hc
  · exact h x e
theorem hs_cd : ∀ s ∈ hsL, s = 0 ∨ s ∈ cdL := by decide +kernel
theorem tk_cd : ∀ t ∈ tkL, 262 ≤ t → -t ∈ cdL := by decide +kernel
theorem unW_ok {k : Nat} (hk : 1 ≤ k) : ∀ (H : List Int32) (o : Nat) (O : List Int32), oklH H → oklO O → oklH (unW k H o O).1 ∧ oklO (unW k H o O).2.2
  | [], _, _, h1, h2 => ⟨h1, h2⟩
  | s :: H, o, O, h1, h2 => by
    by_cases hc : k ≤ rkS s
    · rw [unW_c hc]
      refine unW_ok hk H _ _ (fun x hx => h1 x (List.mem_cons_of_mem _ hx)) (h2.c (Or.inr ?_))
      refine (hs_cd s (h1 s List.mem_cons_self)).resolve_left ?_
      rintro rfl
      exact absurd (show rkS 0 = 0 by decide) (by omega)
    · rw [unW_s hc]
      exact ⟨h1, h2⟩
def oklM (s : mS) : Prop := oklH s.2.2.1 ∧ oklO s.2.2.2.2
def oklR (r : mR) : Prop := r.1 = true → oklO r.2.2
theorem stM_ok {t n : Int32} {i : Nat} {s : mS} (ht : t ∈ tkL) (hn : t = 1 → okC n) (h : oklM s) : (∀ s', stM t n i s = .inl s' → oklM s') ∧ (∀ r, stM t n i s = .inr r → oklR r) := by
  obtain ⟨w, mn, H, o, O⟩ := s
  obtain ⟨hH, hO⟩ := h
  have il : ∀ (x s' : mS), (Sum.inl x : Sum mS mR) = .inl s' → oklM x → oklM s' := fun x s' e hx => by cases e; exact hx
  have ir : ∀ (x r : mR), (Sum.inr x : Sum mS mR) = .inr r → oklR x → oklR r := fun x r e hx => by cases e; exact hx
  have L : ∀ x : mS, stM t n i (w, mn, H, o, O) = .inl x → oklM x → (∀ s', stM t n i (w, mn, H, o, O) = .inl s' → oklM s') ∧ (∀ r, stM t n i (w, mn, H, o, O) = .inr r → oklR r) := fun x e hx => ⟨fun s' e2 => il x s' (e.symm.trans e2) hx, fun r e2 => by rw [e] at e2; cases e2⟩
  have R : ∀ x : mR, stM t n i (w, mn, H, o, O) = .inr x → oklR x → (∀ s', stM t n i (w, mn, H, o, O) = .inl s' → oklM s') ∧ (∀ r, stM t n i (w, mn, H, o, O) = .inr r → oklR r) := fun x e hx => ⟨fun s' e2 => (by rw [e] at e2; cases e2), fun r e2 => ir x r (e.symm.trans e2) hx⟩
  have F : oklR (false, i, []) := fun y => by cases y
  cases w with
  | true =>
    by_cases h1 : t = 1
    · exact L _ (sqM_num h1) (unW_ok (by decide) H o _ hH (oklO.c hO (hn h1)))
    by_cases h2 : 262 ≤ t
    · exact L _ (sqM_nam h1 h2) (unW_ok (by decide) H o _ hH (oklO.c hO (Or.inr (tk_cd t ht h2))))
    by_cases h3 : t = 261 ∧ mn = true
    · by_cases ho : o = 5
      · exact R _ ((sqM_not h1 h2 h3.1 h3.2).trans (if_pos ho)) F
      · exact L _ ((sqM_not h1 h2 h3.1 h3.2).trans (if_neg ho)) ⟨oklH.c hH (by decide), hO⟩
    by_cases h4 : t = 45
    · by_cases ho : o = 5
      · exact R _ ((sqM_neg h1 h2 h3 h4).trans (if_pos ho)) F
      · exact L _ ((sqM_neg h1 h2 h3 h4).trans (if_neg ho)) ⟨oklH.c hH (by decide), hO⟩
    by_cases h5 : t = 40
    · by_cases ho : o = 5
      · exact R _ ((sqM_par h1 h2 h3 h4 h5).trans (if_pos ho)) F
      · exact L _ ((sqM_par h1 h2 h3 h4 h5).trans (if_neg ho)) ⟨oklH.c hH (by decide), hO⟩
    exact R _ (sqM_no h1 h2 h3 h4 h5) F
  | false =>
    by_cases h1 : t = 59
    · refine R _ (sqM_end h1) ?_
      by_cases hl : isNl (unW 1 H o O).1 = true
      · rw [if_pos hl]; exact fun _ => (unW_ok (by decide) H o O hH hO).2
      · rw [if_neg hl]; exact F
    by_cases h2 : t = 41
    · have hu := unW_ok (k := 1) (by decide) H o O hH hO
      obtain ⟨H2, o2, O2, e2⟩ : ∃ H2 o2 O2, unW 1 H o O = (H2, o2, O2) := ⟨_, _, _, rfl⟩
      rw [e2] at hu
      cases H2 with
      | nil => exact R _ (sqM_cl0 h1 h2 e2) F
      | cons s2 H2 => exact L _ (sqM_cls h1 h2 e2) (unW_ok (by decide) H2 _ _ (fun x hx => hu.1 x (List.mem_cons_of_mem _ hx)) hu.2)
    by_cases h3 : isOp t = true
    · by_cases hB : rkS (-t) = 4 ∧ hd4 (unW 5 H o O).1 = true
      · exact R _ ((sqM_op h1 h2 h3).trans (if_pos hB)) F
      · have hso := (sgR_t t ht).2.2 h3
        have hr : ¬ rkS (-t) = 0 := fun y => hso.2.2.2.2 ((hs_t _ hso.1).2.2.1 y)
        have hu := unW_ok (k := if rkS (-t) = 4 then 5 else rkS (-t)) (by split <;> omega) H o O hH hO
        exact L _ ((sqM_op h1 h2 h3).trans (if_neg hB)) ⟨oklH.c hu.1 hso.1, hu.2⟩
    exact R _ (sqM_no2 h1 h2 h3) F
theorem ruN_ok (b : Nat → Int32) (z : Nat) : ∀ (k : Nat) (s : mS) (i : Nat), oklM s → oklR (ruN b z k s i)
  | 0, _, _, _ => fun y => by cases y
  | k + 1, s, i, h => by
    have h1 := stM_ok (i := i) (n := nmP b z i) (tk_in b z i) (fun y => by
      obtain ⟨m, hm, e⟩ := nm_ok y
      exact Or.inl ⟨m, hm, e⟩) h
    show oklR (match stM (tkP b z i) (nmP b z i) i s with | .inr r => r | .inl s' => ruN b z k s' (nxP b z i))
    cases hs : stM (tkP b z i) (nmP b z i) i s with
    | inr r => exact h1.2 r hs
    | inl s' => exact ruN_ok b z k s' (nxP b z i) (h1.1 s' hs)
theorem rnM_ok (b : Nat → Int32) (z i : Nat) : oklR (rnM b z (true, true, [], 0, []) i) := ruN_ok b z _ _ _ ⟨fun x hx => (by cases hx), fun x hx => (by cases hx)⟩
/-- what codes say when nothing lies there -/
def vlD (D : List Int32) (nm : Nat → Int32) : Int32 := match ruC nm D [] with | some (v :: _) => v | _ => 0
theorem vlD_of {D : List Int32} (h : WFm 0 D) (nm : Nat → Int32) : ruC nm D [] = some [vlD D nm] := by
  obtain ⟨v, hv⟩ := h nm
  have h1 := hv [] (Nat.le_refl 0)
  unfold vlD
  rw [h1]
/-! by the bytes that are there -/
theorem rnF_cg (p : Int32 → Bool) {b b' : Nat → Int32} {z : Nat} (h : ∀ j, j < z → b j = b' j) : ∀ k i, i + k ≤ z → rnF p b k i = rnF p b' k i
  | 0, _, _ => rfl
  | k + 1, i, hk => by
    show (if p (b i) = true then rnF p b k (i + 1) else i) = (if p (b' i) = true then rnF p b' k (i + 1) else i)
    rw [h i (by omega), rnF_cg p h k (i + 1) (by omega)]
theorem rnP_cg (p : Int32 → Bool) {b b' : Nat → Int32} {z : Nat} (h : ∀ j, j < z → b j = b' j) (i : Nat) : rnP p b z i = rnP p b' z i := by
  by_cases hi : i ≤ z
  · exact rnF_cg p h (z - i) i (by omega)
  · rw [rnP_z (by omega), rnP_z (by omega)]
theorem nuF_cg {b b' : Nat → Int32} {z s : Nat} (h : ∀ j, j < z → b j = b' j) : ∀ k, s + k ≤ z → nuF b s k = nuF b' s k
  | 0, _ => rfl
  | k + 1, hk => by
    show 10 * nuF b s k + b (s + k) - 48 = 10 * nuF b' s k + b' (s + k) - 48
    rw [nuF_cg h k (by omega), h (s + k) (by omega)]
theorem wdF_cg {m m' : Nat → Bool} (h : ∀ k, m k = true ↔ m' k = true) : ∀ k, wdF m k = wdF m' k
  | 0 => rfl
  | k + 1 => by
    show (if m k = true then nI (256 + k) else wdF m k) = (if m' k = true then nI (256 + k) else wdF m' k)
    by_cases hc : m k = true
    · rw [if_pos hc, if_pos ((h k).mp hc)]
    · rw [if_neg hc, if_neg (fun y => hc ((h k).mpr y)), wdF_cg h k]
theorem tk_cg {b b' : Nat → Int32} {z : Nat} (h : ∀ j, j < z → b j = b' j) (i : Nat) : stP b z i = stP b' z i ∧ tkP b z i = tkP b' z i ∧ nxP b z i = nxP b' z i ∧ nmP b z i = nmP b' z i := by
  have e1 : stP b z i = stP b' z i := rnP_cg isBl h i
  have e2 : ∀ j, rnP isLt b z j = rnP isLt b' z j := rnP_cg isLt h
  have e3 : ∀ j, rnP isDg b z j = rnP isDg b' z j := rnP_cg isDg h
  have e4 : nmP b z i = nmP b' z i := by
    unfold nmP
    rw [e1, e3]
    by_cases hz : stP b' z i ≤ z
    · exact nuF_cg h _ (by have h9 := rnP_b isDg b' hz; omega)
    · rw [rnP_z (by omega), Nat.sub_self]; rfl
  refine ⟨e1, ?_, ?_, e4⟩
  · unfold tkP
    rw [e1]
    by_cases hz : z ≤ stP b' z i
    · rw [if_pos hz, if_pos hz]
    · rw [if_neg hz, if_neg hz, h _ (by omega), e2, e3]
      rw [wdF_cg (m := mtW b (stP b' z i) (rnP isLt b' z (stP b' z i))) (m' := mtW b' (stP b' z i) (rnP isLt b' z (stP b' z i))) (fun k => by
        have h9 := rnP_b isLt b' (z := z) (i := stP b' z i) (by omega)
        refine ⟨fun y => ?_, fun y => ?_⟩
        · have y2 := of_decide_eq_true y
          exact decide_eq_true ⟨y2.1, fun j hj => by rw [← h _ (by omega)]; exact y2.2 j hj⟩
        · have y2 := of_decide_eq_true y
          exact decide_eq_true ⟨y2.1, fun j hj => by rw [h _ (by omega)]; exact y2.2 j hj⟩)]
  · unfold nxP
    rw [e1]
    by_cases hz : z ≤ stP b' z i
    · rw [if_pos hz, if_pos hz]
    · rw [if_neg hz, if_neg hz, h _ (by omega), e2, e3]
theorem ruN_cg {b b' : Nat → Int32} {z : Nat} (h : ∀ j, j < z → b j = b' j) : ∀ (k : Nat) (s : mS) (i : Nat), ruN b z k s i = ruN b' z k s i
  | 0, _, _ => rfl
  | k + 1, s, i => by
    obtain ⟨-, e2, e3, e4⟩ := tk_cg h i
    show (match stM (tkP b z i) (nmP b z i) i s with | .inr r => r | .inl s' => ruN b z k s' (nxP b z i)) = (match stM (tkP b' z i) (nmP b' z i) i s with | .inr r => r | .inl s' => ruN b' z k s' (nxP b' z i))
    rw [e2, e3, e4]
    cases stM (tkP b' z i) (nmP b' z i) i s with
    | inr r => rfl
    | inl s' => exact ruN_cg h k s' _
theorem waF_cg {b b' : Nat → Int32} {z : Nat} (h : ∀ j, j < z → b j = b' j) : ∀ (k p i : Nat), waF b z k p i = waF b' z k p i
  | 0, _, i => by
    show (decide (tkP b z i = 0), i, []) = (decide (tkP b' z i = 0), i, [])
    rw [(tk_cg h i).2.1]
  | k + 1, p, i => by
    have e : paF b z p i = paF b' z p i := by
      unfold paF rnM
      rw [(tk_cg h i).2.1, (tk_cg h i).2.2.1, ruN_cg h]
    have e2 : nxP b z = nxP b' z := funext fun j => (tk_cg h j).2.2.1
    unfold waF
    rw [e, e2, waF_cg h k]
