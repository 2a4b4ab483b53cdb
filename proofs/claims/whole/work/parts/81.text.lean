/-! WHAT IS READ SAYS SOMETHING: by the search itself -/
def bnA : List Int32 → Nat
  | [] => 0
  | s :: H => (1 - opA s) + bnA H
def moH : List Int32 → Prop
  | [] => True
  | s :: H => (opA s = 0 → hdK (rkS s) H) ∧ moH H
theorem hs_op : ∀ s ∈ hsL, (opA s = 0 → 1 ≤ rkS s ∧ rkS s ≤ 6) ∧ opA s ≤ 1 := by decide +kernel
theorem bn_le : ∀ H : List Int32, moH H → oklH H → bnA H ≤ 6 * cnA H + 6 ∧ ∀ r, hdK r H → 1 ≤ r → bnA H ≤ 6 * cnA H + (r - 1)
  | [], _, _ => ⟨Nat.zero_le _, fun r _ _ => Nat.zero_le _⟩
  | s :: H, hm, hh => by
    have hs := hs_op s (hh s List.mem_cons_self)
    have ih := bn_le H hm.2 (fun x hx => hh x (List.mem_cons_of_mem _ hx))
    show (1 - opA s) + bnA H ≤ 6 * (opA s + cnA H) + 6 ∧ ∀ r, hdK r (s :: H) → 1 ≤ r → (1 - opA s) + bnA H ≤ 6 * (opA s + cnA H) + (r - 1)
    by_cases ho : opA s = 0
    · have h1 := ih.2 (rkS s) (hm.1 ho) (hs.1 ho).1
      have h2 := hs.1 ho
      refine ⟨by omega, fun r hr h0 => ?_⟩
      have h3 : rkS s < r := hr s rfl
      omega
    · have h1 := ih.1
      have h2 := hs.2
      exact ⟨by omega, fun r _ _ => by omega⟩
def sayV (O : List Int32) (k : Nat) : Prop := ∀ nm, ∃ vs, ruC nm O [] = some vs ∧ vs.length = k
theorem sayV_un {O : List Int32} {k : Nat} {s : Int32} (h : sayV O (k + 1)) (hs : s = -261 ∨ s = -3) : sayV (s :: O) (k + 1) := fun nm => by
  obtain ⟨vs, e, hl⟩ := h nm
  cases vs with
  | nil => cases hl
  | cons x r =>
    rcases hs with rfl | rfl
    · exact ⟨bI (x = 0) :: r, by show (ruC nm O []).bind (lStep (-261) nm) = _; rw [e]; rfl, hl⟩
    · exact ⟨-x :: r, by show (ruC nm O []).bind (lStep (-3) nm) = _; rw [e]; rfl, hl⟩
theorem sayV_bin {O : List Int32} {k : Nat} {s : Int32} (h : sayV O (k + 2)) (hs : s = -259 ∨ s = -260 ∨ s = -60 ∨ s = -61 ∨ s = -43 ∨ s = -45 ∨ s = -42) : sayV (s :: O) (k + 1) := fun nm => by
  obtain ⟨vs, e, hl⟩ := h nm
  match vs, e, hl with
  | [], _, hl => cases hl
  | [_], _, hl => exact absurd (show 1 = k + 2 from hl) (by omega)
  | y :: x :: r, e, hl =>
    refine ⟨jnF (-s) x y :: r, ?_, ?_⟩
    · show (ruC nm O []).bind (lStep s nm) = _
      rw [e]
      show lStep s nm (y :: x :: r) = some (jnF (-s) x y :: r)
      rcases hs with rfl | rfl | rfl | rfl | rfl | rfl | rfl <;> rfl
    · have h9 : r.length + 2 = k + 2 := hl
      show r.length + 1 = k + 1
      omega
theorem sayV_in {O : List Int32} {k : Nat} {c : Int32} (h : sayV O k) (hk : k < 40) (hc : (0 ≤ c ∧ ¬ isNm c = true) ∨ isNm c = true) : sayV (c :: O) (k + 1) := fun nm => by
  obtain ⟨vs, e, hl⟩ := h nm
  rcases hc with ⟨h0, hn⟩ | hn
  · refine ⟨c :: vs, ?_, by rw [List.length_cons, hl]⟩
    show (ruC nm O []).bind (lStep c nm) = _
    rw [e]
    show lStep c nm vs = _
    unfold lStep
    rw [if_neg hn, if_pos h0, if_pos (by omega)]
  · refine ⟨nm (nmI c).toNatClampNeg :: vs, ?_, by rw [List.length_cons, hl]⟩
    show (ruC nm O []).bind (lStep c nm) = _
    rw [e]
    show lStep c nm vs = _
    unfold lStep
    rw [if_pos hn, if_pos (by omega)]
theorem hs_sh : ∀ s ∈ hsL, s = 0 ∨ (opA s = 1 ∧ (s = -261 ∨ s = -3)) ∨ (opA s = 0 ∧ (s = -259 ∨ s = -260 ∨ s = -60 ∨ s = -61 ∨ s = -43 ∨ s = -45 ∨ s = -42)) := by decide +kernel
/-- held and out, with one more value than there are signs waiting for two -/
def okV (H : List Int32) (o : Nat) (O : List Int32) : Prop := moH H ∧ oklH H ∧ o = cnA H ∧ o ≤ 5 ∧ sayV O (bnA H + 1)
theorem unW_V {k : Nat} (hk : 1 ≤ k) : ∀ (H : List Int32) (o : Nat) (O : List Int32), okV H o O → okV (unW k H o O).1 (unW k H o O).2.1 (unW k H o O).2.2
  | [], _, _, h => h
  | s :: H, o, O, h => by
    by_cases hc : k ≤ rkS s
    · rw [unW_c hc]
      obtain ⟨h1, h2, h3, h4, h5⟩ := h
      have hsm := h2 s List.mem_cons_self
      have hs0 : ¬ s = 0 := by
        rintro rfl
        exact absurd (show rkS 0 = 0 by decide) (by omega)
      have hop := (opA_t s hsm).1 hs0
      have e3 : o = opA s + cnA H := h3
      have e5 : sayV O ((1 - opA s) + bnA H + 1) := h5
      refine unW_V hk H _ _ ⟨h1.2, fun x hx => h2 x (List.mem_cons_of_mem _ hx), by omega, by omega, ?_⟩
      rcases (hs_sh s hsm).resolve_left hs0 with ⟨a, c⟩ | ⟨a, c⟩
      · rw [a, show 1 - 1 + bnA H + 1 = bnA H + 1 by omega] at e5
        exact sayV_un e5 c
      · rw [a, show 1 - 0 + bnA H + 1 = bnA H + 2 by omega] at e5
        exact sayV_bin e5 c
    · rw [unW_s hc]
      exact h
def okqS : mS → Prop := fun s => if s.1 = true then (moH s.2.2.1 ∧ oklH s.2.2.1 ∧ s.2.2.2.1 = cnA s.2.2.1 ∧ s.2.2.2.1 ≤ 5 ∧ sayV s.2.2.2.2 (bnA s.2.2.1)) else okV s.2.2.1 s.2.2.2.1 s.2.2.2.2
def sayR (r : mR) : Prop := r.1 = true → sayV r.2.2 1
theorem tk_nm : ∀ t ∈ tkL, 262 ≤ t → isNm (-t) = true := by decide +kernel
theorem stM_V {t n : Int32} {i : Nat} {s : mS} (ht : t ∈ tkL) (hn : t = 1 → 0 ≤ n ∧ ¬ isNm n = true) (h : okqS s) : (∀ s', stM t n i s = .inl s' → okqS s') ∧ (∀ r, stM t n i s = .inr r → sayR r) := by
  obtain ⟨w, mn, H, o, O⟩ := s
  have il : ∀ (x s' : mS), (Sum.inl x : Sum mS mR) = .inl s' → okqS x → okqS s' := fun x s' e hx => by cases e; exact hx
  have ir : ∀ (x r : mR), (Sum.inr x : Sum mS mR) = .inr r → sayR x → sayR r := fun x r e hx => by cases e; exact hx
  have L : ∀ x : mS, stM t n i (w, mn, H, o, O) = .inl x → okqS x → (∀ s', stM t n i (w, mn, H, o, O) = .inl s' → okqS s') ∧ (∀ r, stM t n i (w, mn, H, o, O) = .inr r → sayR r) := fun x e hx => ⟨fun s' e2 => il x s' (e.symm.trans e2) hx, fun r e2 => (by rw [e] at e2; cases e2)⟩
  have R : ∀ x : mR, stM t n i (w, mn, H, o, O) = .inr x → sayR x → (∀ s', stM t n i (w, mn, H, o, O) = .inl s' → okqS s') ∧ (∀ r, stM t n i (w, mn, H, o, O) = .inr r → sayR r) := fun x e hx => ⟨fun s' e2 => (by rw [e] at e2; cases e2), fun r e2 => ir x r (e.symm.trans e2) hx⟩
  have F : sayR (false, i, []) := fun y => by cases y
  cases w with
  | true =>
    obtain ⟨h1, h2, h3, h4, h5⟩ : moH H ∧ oklH H ∧ o = cnA H ∧ o ≤ 5 ∧ sayV O (bnA H) := h
    have hb := (bn_le H h1 h2).1
    have push : ∀ c, c ∈ hsL → opA c = 1 → ¬ o = 5 → ∀ mb, okqS (true, mb, c :: H, o + 1, O) := fun c hc ha ho mb => by
      show moH (c :: H) ∧ oklH (c :: H) ∧ o + 1 = cnA (c :: H) ∧ o + 1 ≤ 5 ∧ sayV O (bnA (c :: H))
      refine ⟨⟨fun y => absurd (ha.symm.trans y) (by decide), h1⟩, oklH.c h2 hc, ?_, by omega, ?_⟩
      · show o + 1 = opA c + cnA H
        omega
      · show sayV O ((1 - opA c) + bnA H)
        rw [ha, show 1 - 1 + bnA H = bnA H by omega]
        exact h5
    by_cases c1 : t = 1
    · exact L _ (sqM_num c1) (unW_V (by decide) H o _ ⟨h1, h2, h3, h4, sayV_in h5 (by omega) (Or.inl (hn c1))⟩)
    by_cases c2 : 262 ≤ t
    · exact L _ (sqM_nam c1 c2) (unW_V (by decide) H o _ ⟨h1, h2, h3, h4, sayV_in h5 (by omega) (Or.inr (tk_nm t ht c2))⟩)
    by_cases c3 : t = 261 ∧ mn = true
    · by_cases ho : o = 5
      · exact R _ ((sqM_not c1 c2 c3.1 c3.2).trans (if_pos ho)) F
      · exact L _ ((sqM_not c1 c2 c3.1 c3.2).trans (if_neg ho)) (push _ (by decide) (by decide) ho _)
    by_cases c4 : t = 45
    · by_cases ho : o = 5
      · exact R _ ((sqM_neg c1 c2 c3 c4).trans (if_pos ho)) F
      · exact L _ ((sqM_neg c1 c2 c3 c4).trans (if_neg ho)) (push _ (by decide) (by decide) ho _)
    by_cases c5 : t = 40
    · by_cases ho : o = 5
      · exact R _ ((sqM_par c1 c2 c3 c4 c5).trans (if_pos ho)) F
      · exact L _ ((sqM_par c1 c2 c3 c4 c5).trans (if_neg ho)) (push _ (by decide) (by decide) ho _)
    exact R _ (sqM_no c1 c2 c3 c4 c5) F
  | false =>
    have h0 : okV H o O := h
    by_cases c1 : t = 59
    · refine R _ (sqM_end c1) ?_
      have hu := unW_V (k := 1) (by decide) H o O h0
      obtain ⟨H2, o2, O2, e2⟩ : ∃ H2 o2 O2, unW 1 H o O = (H2, o2, O2) := ⟨_, _, _, rfl⟩
      rw [e2] at hu ⊢
      cases H2 with
      | nil => exact fun _ => hu.2.2.2.2
      | cons s2 H2 => exact fun y => by cases y
    by_cases c2 : t = 41
    · have hu := unW_V (k := 1) (by decide) H o O h0
      have htp := unW_top 1 H o O
      obtain ⟨H2, o2, O2, e2⟩ : ∃ H2 o2 O2, unW 1 H o O = (H2, o2, O2) := ⟨_, _, _, rfl⟩
      rw [e2] at hu htp
      cases H2 with
      | nil => exact R _ (sqM_cl0 c1 c2 e2) F
      | cons s2 H2 =>
        have hr := htp s2 H2 rfl
        have hsm := hu.2.1 s2 List.mem_cons_self
        have hz : s2 = 0 := (hs_t s2 hsm).2.2.1 (by omega)
        have hA : opA s2 = 1 := by rw [hz]; decide
        obtain ⟨h1, h2, h3, h4, h5⟩ := hu
        have e3 : o2 = opA s2 + cnA H2 := h3
        have e5 : sayV O2 ((1 - opA s2) + bnA H2 + 1) := h5
        have e4 : o2 ≤ 5 := h4
        rw [hA, show 1 - 1 + bnA H2 + 1 = bnA H2 + 1 by omega] at e5
        exact L _ (sqM_cls c1 c2 e2) (unW_V (by decide) H2 _ _ ⟨h1.2, fun x hx => h2 x (List.mem_cons_of_mem _ hx), by omega, by omega, e5⟩)
    by_cases c3 : isOp t = true
    · by_cases hB : rkS (-t) = 4 ∧ hd4 (unW 5 H o O).1 = true
      · exact R _ ((sqM_op c1 c2 c3).trans (if_pos hB)) F
      · have hso := (sgR_t t ht).2.2 c3
        have hr : ¬ rkS (-t) = 0 := fun y => hso.2.2.2.2 ((hs_t _ hso.1).2.2.1 y)
        have hA : opA (-t) = 0 := ((opA_t _ hso.1).1 hso.2.2.2.2).trans hso.2.2.2.1
        have hu := unW_V (k := if rkS (-t) = 4 then 5 else rkS (-t)) (by split <;> omega) H o O h0
        have htp := unW_top (if rkS (-t) = 4 then 5 else rkS (-t)) H o O
        have hhd : hdK (rkS (-t)) (unW (if rkS (-t) = 4 then 5 else rkS (-t)) H o O).1 := by
          intro s hs
          by_cases h4 : rkS (-t) = 4
          · rw [if_pos h4] at hs htp
            rw [h4]
            cases hH : (unW 5 H o O).1 with
            | nil => rw [hH] at hs; cases hs
            | cons x H3 =>
              rw [hH] at hs
              have hx : x = s := Option.some.inj hs
              have h9 := htp x H3 hH
              have h8 : ¬ rkS x = 4 := fun y => hB ⟨h4, by rw [hH]; exact decide_eq_true y⟩
              rw [← hx]
              omega
          · rw [if_neg h4] at hs htp
            cases hH : (unW (rkS (-t)) H o O).1 with
            | nil => rw [hH] at hs; cases hs
            | cons x H3 =>
              rw [hH] at hs
              have hx : x = s := Option.some.inj hs
              rw [← hx]
              exact htp x H3 hH
        refine L _ ((sqM_op c1 c2 c3).trans (if_neg hB)) ?_
        obtain ⟨h1, h2, h3, h4, h5⟩ := hu
        show moH (-t :: _) ∧ oklH (-t :: _) ∧ _ = cnA (-t :: _) ∧ _ ≤ 5 ∧ sayV _ (bnA (-t :: _))
        refine ⟨⟨fun _ => hhd, h1⟩, oklH.c h2 hso.1, ?_, h4, ?_⟩
        · show _ = opA (-t) + cnA _
          rw [hA, Nat.zero_add]
          exact h3
        · show sayV _ ((1 - opA (-t)) + bnA _)
          rw [hA, Nat.add_comm]
          exact h5
    exact R _ (sqM_no2 c1 c2 c3) F
theorem ruN_V (b : Nat → Int32) (z : Nat) : ∀ (k : Nat) (s : mS) (i : Nat), okqS s → sayR (ruN b z k s i)
  | 0, _, _, _ => fun y => by cases y
  | k + 1, s, i, h => by
    have h1 := stM_V (i := i) (n := nmP b z i) (tk_in b z i) (fun y => by
      obtain ⟨m, hm, e⟩ := nm_ok y
      rw [e]
      exact num_nm hm) h
    show sayR (match stM (tkP b z i) (nmP b z i) i s with | .inr r => r | .inl s' => ruN b z k s' (nxP b z i))
    cases hs : stM (tkP b z i) (nmP b z i) i s with
    | inr r => exact h1.2 r hs
    | inl s' => exact ruN_V b z k s' (nxP b z i) (h1.1 s' hs)
/-- a part that is read says something -/
theorem rnM_V {b : Nat → Int32} {z i j : Nat} {D : List Int32} (h : rnM b z (true, true, [], 0, []) i = (true, j, D)) : WFm 0 D ∧ oklO D := by
  have h1 : sayR (rnM b z (true, true, [], 0, []) i) := ruN_V b z _ _ _ (show moH [] ∧ oklH [] ∧ 0 = cnA [] ∧ 0 ≤ 5 ∧ sayV [] (bnA []) from ⟨True.intro, fun x hx => (by cases hx), rfl, by decide, fun nm => ⟨[], rfl, rfl⟩⟩)
  have h2 := rnM_ok b z i
  rw [h] at h1 h2
  refine ⟨fun nm => ?_, h2 rfl⟩
  obtain ⟨vs, e, hl⟩ := h1 rfl nm
  match vs, e, hl with
  | [v], e, _ =>
    refine ⟨v, fun s hs => ?_⟩
    cases s with
    | nil => exact e
    | cons x r => exact absurd hs (by rw [List.length_cons]; omega)
