theorem slA_use {g1 : xG} {n : Nat} {A : zSt} {Λ : Nat → xL} (O : okA A) {i : Nat} (hi : i ≤ aS A) (C1 : cA g1 n (slA A Λ i) Λ) : (g1 0 9 = nI (aS A) ∧ g1 0 10 = nI (aN A) ∧ g1 0 13 = nI (aW A)) ∧ lwA g1 n (fTX (aW A)) (Λ (aW A)) ∧ (fun j => if j < 6 then some (fTX ((g1 66) j).toNatClampNeg) else none) (aW A) = some (fTX (aW A)) ∧ (i < aS A → pnA g1 (9 + 3 * i) (aK A i) (A 2 i) (A 3 i) (A (10 + i))) := by
  have e0 := slA_lo A Λ i 0 (by omega)
  have hS : aS (slA A Λ i) = aS A := by unfold aS; rw [e0]
  have hT : aT (slA A Λ i) = aT A := by unfold aT; rw [e0]
  have hO := slA_ok Λ O i hi
  have hw : aW A < aT (slA A Λ i) := by rw [hT]; exact O.W
  refine ⟨⟨?_, ?_, ?_⟩, C1.txt hw, C1.tx hO hw, fun h => ?_⟩
  · rw [C1.2.1.1, e0]; exact O.1.1
  · rw [C1.2.1.2.1, e0]; exact O.2.1.1
  · rw [C1.2.1.2.2.2.2, e0]; exact O.2.2.2.2.1.1
  · have h1 := C1.pane (s := i) (by rw [hS]; exact h)
    rw [show aK (slA A Λ i) i = aK A i by unfold aK; rw [slA_lo A Λ i 1 (by omega)], slA_lo A Λ i 2 (by omega), slA_lo A Λ i 3 (by omega), slA_lo A Λ i (10 + i) (by omega)] at h1
    exact h1
theorem slA_step {g1 g2 : xG} {n : Nat} {A : zSt} {Λ : Nat → xL} (O : okA A) {i : Nat} (hi : i < aS A) (C1 : cA g1 n (slA A Λ i) Λ) (hf : fr (fXd (9 + 3 * i) (fTX (aW A))) g1 g2) (B : pnA g2 (9 + 3 * i) (aK A i) (A 2 i) (A 3 i) (nightR (Λ (aW A)) (aK A i) (A 2 i) (A 3 i) (A (10 + i)) (nI (aN A)) 16)) : cA g2 n (slA A Λ (i + 1)) Λ := by
  have hO := slA_ok Λ O i (Nat.le_of_lt hi)
  refine C1.rowD hO (s := i) (by unfold aS; rw [slA_lo A Λ i 0 (by omega)]; exact hi) hf ?_
  rw [show aK (slA A Λ i) i = aK A i by unfold aK; rw [slA_lo A Λ i 1 (by omega)], slA_lo A Λ i 2 (by omega), slA_lo A Λ i 3 (by omega)]
  exact B
/-- an image is taken; and brought back -/
def stImg (A : zSt) : zSt := fun q => if q = 0 then upd (upd (upd (upd (upd (A 0) 6 1) 7 (A 0 0)) 8 (A 0 1)) 9 (A 0 2)) 10 (A 0 4) else if q = 4 then A 3 else if 20 ≤ q ∧ q < 26 then A (q - 10) else A q
def stBack (A : zSt) : zSt := fun q => if q = 0 then upd (upd (upd (upd (A 0) 0 (A 0 7)) 1 (A 0 8)) 2 (A 0 9)) 4 (A 0 10) else if q = 3 then A 4 else if 10 ≤ q ∧ q < 16 then A (q + 10) else A q
theorem stImg_n (A : zSt) {q : Nat} (h1 : q ≠ 0) (h2 : q ≠ 4) (h3 : ¬ (20 ≤ q ∧ q < 26)) : stImg A q = A q := by unfold stImg; rw [if_neg h1, if_neg h2, if_neg h3]
theorem stImg_d (A : zSt) {s : Nat} (h : s < 6) : stImg A (20 + s) = A (10 + s) := by
  unfold stImg
  rw [if_neg (by omega), if_neg (by omega), if_pos (by omega), show 20 + s - 10 = 10 + s by omega]
theorem stBack_n (A : zSt) {q : Nat} (h1 : q ≠ 0) (h2 : q ≠ 3) (h3 : ¬ (10 ≤ q ∧ q < 16)) : stBack A q = A q := by unfold stBack; rw [if_neg h1, if_neg h2, if_neg h3]
theorem stBack_d (A : zSt) {s : Nat} (h : s < 6) : stBack A (10 + s) = A (20 + s) := by
  unfold stBack
  rw [if_neg (by omega), if_neg (by omega), if_pos (by omega), show 10 + s + 10 = 20 + s by omega]
theorem cA.img {g g1 : xG} {n : Nat} {A : zSt} {Λ : Nat → xL} (C : cA g n A Λ) (O : okA A) (hf : fr (fun j => j = 46 ∨ (48 ≤ j ∧ j < 66)) g g1) (e46 : g1 46 0 = A 0 0 ∧ g1 46 1 = A 0 1 ∧ g1 46 2 = A 0 2 ∧ g1 46 3 = A 0 4) (B : ∀ s, s < aS A → pnA g1 (48 + 3 * s) (aK A s) (A 2 s) (A 3 s) (A (10 + s))) : cA g1 n (stImg A) Λ := by
  have eg : ∀ j, ¬ (j = 46 ∨ (48 ≤ j ∧ j < 66)) → g1 j = g j := fun j h => hf j h
  have hS := O.1.2
  have a1 := stImg_n A (q := 1) (by omega) (by omega) (by omega)
  have a2 := stImg_n A (q := 2) (by omega) (by omega) (by omega)
  have a3 := stImg_n A (q := 3) (by omega) (by omega) (by omega)
  have eI : aI (stImg A) = aS A := rfl
  obtain ⟨c0, c1, cp, ct, cb, ci, cq⟩ := C
  refine ⟨c0, by unfold cA1; rw [eg 0 (by omega)]; exact c1, cp.keep hS rfl (fun q a b _ => eg q (by omega)) (fun s hs => ⟨by rw [a1], by rw [a2], by rw [a3], stImg_n A (by omega) (by omega) (by omega)⟩), ct.keep rfl (eg _ (by omega)) (fun j a b c => eg j (by omega)), cb.keep rfl (eg _ (by omega)) (eg _ (by omega)) (stImg_n A (by omega) (by omega) (by omega)), ⟨fun z => absurd (show (1 : Int32) = 0 from z) (by decide), fun _ => ⟨e46, fun s hs => ?_⟩⟩, cq.keep (fun q a b => eg q (by omega)) (stImg_n A (by omega) (by omega) (by omega)) (stImg_n A (by omega) (by omega) (by omega)) (fun q _ => stImg_n A (by omega) (by omega) (by omega))⟩
  rw [eI] at hs
  rw [show aK (stImg A) s = aK A s from rfl, a2, stImg_d A (by omega)]
  exact B s hs
theorem okA.img {A : zSt} (O : okA A) : okA (stImg A) := by
  obtain ⟨o1, o2, o3, o4, o5, o6, o7, o8, o9⟩ := O
  have a1 := stImg_n A (q := 1) (by omega) (by omega) (by omega)
  have a2 := stImg_n A (q := 2) (by omega) (by omega) (by omega)
  have a3 := stImg_n A (q := 3) (by omega) (by omega) (by omega)
  refine ⟨o1, o2, o3, o4, o5, o6, fun s hs => ?_, Or.inr ⟨rfl, o1.1, Nat.le_refl _, ⟨aN A, o2.2, o2.1⟩, ⟨aM A, o3.2, o3.1⟩, ⟨aW A, o5.2, o5.1⟩, fun s hs => ?_⟩, o9.keep (stImg_n A (by omega) (by omega) (by omega)) (stImg_n A (by omega) (by omega) (by omega))⟩
  · have hs' : s < aS A := hs
    rw [a1, a2, a3, stImg_n A (q := 10 + s) (by omega) (by omega) (by omega)]
    exact o7 s hs'
  · have hs' : s < aS A := hs
    rw [a1, a2, stImg_d A (by omega)]
    exact o7 s hs'
theorem cA.bck {g g1 : xG} {n : Nat} {A : zSt} {Λ : Nat → xL} (C : cA g n A Λ) (O : okA A) (h1 : A 0 6 = 1) (hf : fr (fun j => j = 0 ∨ (9 ≤ j ∧ j < 27)) g g1) (e0 : g1 0 9 = A 0 7 ∧ g1 0 10 = A 0 8 ∧ g1 0 11 = A 0 9 ∧ g1 0 12 = A 0 3 ∧ g1 0 13 = A 0 10) (B : ∀ s, s < aI A → pnA g1 (9 + 3 * s) (aK A s) (A 2 s) (A 4 s) (A (20 + s))) : cA g1 n (stBack A) Λ := by
  have eg : ∀ j, ¬ (j = 0 ∨ (9 ≤ j ∧ j < 27)) → g1 j = g j := fun j h => hf j h
  have hS := O.1.2
  have z6 : A 0 6 ≠ 0 := by rw [h1]; decide
  have hI : aI A ≤ 6 := by
    rcases O.2.2.2.2.2.2.2.1 with w | w
    · exact absurd w z6
    · have := w.2.2.1; omega
  have a1 := stBack_n A (q := 1) (by omega) (by omega) (by omega)
  have a2 := stBack_n A (q := 2) (by omega) (by omega) (by omega)
  have a4 := stBack_n A (q := 4) (by omega) (by omega) (by omega)
  obtain ⟨c0, c1, cp, ct, cb, ci, cq⟩ := C
  refine ⟨c0, e0, fun s hs => ?_, ct.keep rfl (eg _ (by omega)) (fun j a b c => eg j (by omega)), cb.keep rfl (eg _ (by omega)) (eg _ (by omega)) (stBack_n A (by omega) (by omega) (by omega)), ci.keep O (fun i a b => by show upd (upd (upd (upd (A 0) 0 (A 0 7)) 1 (A 0 8)) 2 (A 0 9)) 4 (A 0 10) i = _; rw [upd_n _ _ (by omega), upd_n _ _ (by omega), upd_n _ _ (by omega), upd_n _ _ (by omega)]) (eg _ (by omega)) (fun j a b _ => eg j (by omega)) (fun _ s hs => ⟨by rw [a1], by rw [a2], by rw [a4], stBack_n A (by omega) (by omega) (by omega)⟩), cq.keep (fun q a b => eg q (by omega)) (stBack_n A (by omega) (by omega) (by omega)) (stBack_n A (by omega) (by omega) (by omega)) (fun q _ => stBack_n A (by omega) (by omega) (by omega))⟩
  have hs' : s < aI A := hs
  rw [show aK (stBack A) s = aK A s from rfl, a2, show stBack A 3 = A 4 from rfl, stBack_d A (by omega)]
  exact B s hs'
theorem okA.bck {A : zSt} (O : okA A) (h1 : A 0 6 = 1) : okA (stBack A) := by
  obtain ⟨o1, o2, o3, o4, o5, o6, o7, o8, o9⟩ := O
  have z6 : A 0 6 ≠ 0 := by rw [h1]; decide
  have a1 := stBack_n A (q := 1) (by omega) (by omega) (by omega)
  have a2 := stBack_n A (q := 2) (by omega) (by omega) (by omega)
  have a4 := stBack_n A (q := 4) (by omega) (by omega) (by omega)
  rcases o8 with w | ⟨w1, w2, w3, w4, w5, ⟨w, hw, w6⟩, w7⟩
  · exact absurd w z6
  · have eW : aW (stBack A) = w := by
      show (A 0 10).toNatClampNeg = w
      rw [w6]; exact nI_clamp (by omega)
    refine ⟨⟨w2, by show aI A ≤ 6; omega⟩, w4.c (by decide), w5.c (by decide), o4, ⟨by rw [eW]; exact w6, by rw [eW]; exact hw⟩, o6, fun s hs => ?_, Or.inr ⟨w1, w2, Nat.le_refl _, w4, w5, ⟨w, hw, w6⟩, fun s hs => ?_⟩, o9.keep (stBack_n A (by omega) (by omega) (by omega)) (stBack_n A (by omega) (by omega) (by omega))⟩
    · have hs' : s < aI A := hs
      rw [a1, a2, show stBack A 3 = A 4 from rfl, stBack_d A (by omega)]
      exact w7 s hs'
    · have hs' : s < aI A := hs
      rw [a1, a2, a4, stBack_n A (q := 20 + s) (by omega) (by omega) (by omega)]
      exact w7 s hs'
set_option maxHeartbeats 4000000 in
set_option maxRecDepth 100000 in
theorem c_X11_sleep (l : Launch) (d : Nat) (n : Nat) (g : xG) (A : zSt) (Λ : Nat → xL) (O : okA A) (C : cA g n A Λ)  : xC l yX11_sleep cX11_sleep 2 (some .int) (xR (d + 5) 0 0) [.ref 0] (n, fh g) (qI n fun v g1 => v = (rSleep A Λ).1 ∧ cA g1 n (rSleep A Λ).2 Λ ∧ fr cX g g1) := by
  refine xC_of false (by decide +kernel) (fun z => by cases z) (Nat.le_of_ble_eq_true rfl) ?_
  have hn := C.n110 O
  have hS6 := O.1.2
  have hW := O.W
  have hT6 := O.2.2.2.1.2.2
  have hN9 := O.2.1.2
  show xJ l (RX11, 2, (some .int), false, (xR (d + 5) 0 0), none) cX11_sleep _ 0 0 0 [(0, .ref 0)] [] (n, fh g)
  refine xj_aload_n (n := 0) (i := 0) 0 rfl rfl dX11_sleep_0 ?_
  refine yj_getf (v := .int (nI (aN A))) fl_X11_84_11 (by omega) (fq_0 g) (congrArg (fun z => some (Value.int z)) (C.N O)) dX11_sleep_1 ?_
  refine xj_sipush (v := 999) (by decide) dX11_sleep_4 ?_
  refine xj_icmp_lt (tgt := 13) (by decide) dX11_sleep_7 (fun zc7 => ?_) (fun zc7 => ?_)
  · refine xj_iconst (v := 0) (by decide) dX11_sleep_13 ?_
    refine xj_istore_n (n := 1) (i := 1) (lv1 := [(1, .int 0), (0, .ref 0)]) rfl rfl (Nat.le_of_ble_eq_true rfl) dX11_sleep_14 ?_
    have key : ∀ i, i ≤ aS A → ∀ (g1 : xG), cA g1 n (slA A Λ i) Λ → fr cX g g1 → xJ l (RX11, 2, (some .int), false, (xR (d + 5) 0 0), none) cX11_sleep (qI n fun v g1 => v = (rSleep A Λ).1 ∧ cA g1 n (rSleep A Λ).2 Λ ∧ fr cX g g1) 0 0 15 [(1, .int (nI i)), (0, .ref 0)] [] (n, fh g1) := by
      refine x_loop (aS A) _ ?_ ?_
      · intro g1 C1 hf
        have U := slA_use O (Nat.le_refl _) C1
        refine xj_iload_n (n := 1) (i := 1) 0 rfl rfl dX11_sleep_15 ?_
        refine xj_aload_n (n := 0) (i := 0) 1 rfl rfl dX11_sleep_16 ?_
        refine yj_getf (v := .int (nI (aS A))) fl_X11_80_11 (by omega) (fq_0 g1) (congrArg (fun z => some (Value.int z)) U.1.1) dX11_sleep_17 ?_
        refine xj_icmp_ge (tgt := 51) (by decide) dX11_sleep_20 (fun zc20 => ?_) (fun zc20 => ?_)
        · refine xj_aload_n (n := 0) (i := 0) 1 rfl rfl dX11_sleep_51 ?_
          refine xj_dup rfl dX11_sleep_52 ?_
          refine yj_getf (v := .int (nI (aN A))) fl_X11_84_11 (by omega) (fq_0 g1) (congrArg (fun z => some (Value.int z)) U.1.2.1) dX11_sleep_53 ?_
          refine xj_iconst (v := 1) (by decide) dX11_sleep_56 ?_
          refine xj_iadd dX11_sleep_57 ?_
          refine xj_topi (fun zv1 ezv1 => ?_)
          refine yj_puti fl_X11_84_11 (by omega) fS_0_10 (fi_i _) dX11_sleep_58 ?_
          obtain ⟨zg2, ezg2⟩ : ∃ z, z = gs g1 0 10 zv1 := ⟨_, rfl⟩
          rw [← ezg2]
          have h9 : zg2 = gs g1 0 10 (nI (aN A + 1)) := by rw [ezg2, ezv1, nI_1]
          refine xj_aload_n (n := 0) (i := 0) 1 rfl rfl dX11_sleep_61 ?_
          refine yj_getf (v := .int (nI (aN A + 1))) fl_X11_84_11 (by omega) (fq_0 zg2) (congrArg (fun z => some (Value.int z)) (by rw [h9, gs_s, upd_s])) dX11_sleep_62 ?_
          have er : rSleep A Λ = ((nI (aN A + 1)), gs (slA A Λ (aS A)) 0 1 (nI (aN A + 1))) := by unfold rSleep; rw [if_pos zc7]; all_goals (rfl)
          exact xj_ireturn rfl (nr_i _) (Nat.zero_le _) (Nat.zero_le _) dX11_sleep_65 (qI_e (by rw [er]; exact ⟨rfl, (by rw [h9]; exact C1.num (slA_ok Λ O _ (Nat.le_refl _)) (Or.inl rfl) _), (by rw [h9]; exact hf.gs (cX_lt (by omega)) _ _)⟩))
        · exact absurd (nI_le (Nat.le_refl _) (by omega)) zc20
      · intro i hi ih g1 C1 hf
        have U := slA_use O (Nat.le_of_lt hi) C1
        have hs6_i : i < 6 := by omega
        refine xj_iload_n (n := 1) (i := 1) 0 rfl rfl dX11_sleep_15 ?_
        refine xj_aload_n (n := 0) (i := 0) 1 rfl rfl dX11_sleep_16 ?_
        refine yj_getf (v := .int (nI (aS A))) fl_X11_80_11 (by omega) (fq_0 g1) (congrArg (fun z => some (Value.int z)) U.1.1) dX11_sleep_17 ?_
        refine xj_icmp_ge (tgt := 51) (by decide) dX11_sleep_20 (fun zc20 => ?_) (fun zc20 => ?_)
        · exact absurd zc20 (nI_ge hi (by omega))
        · refine xj_aload_n (n := 0) (i := 0) 1 rfl rfl dX11_sleep_23 ?_
          refine yj_getf (v := .ref 8) fl_X11_37_11 (by omega) (fq_0 g1) rfl dX11_sleep_24 ?_
          refine xj_iload_n (n := 1) (i := 1) 0 rfl rfl dX11_sleep_27 ?_
          refine yj_aaldN (m := 6) (a := 9 + 3 * i) i (by omega) (fq_8 g1) (by decide) (by decide) rfl (by omega) (by decide) (if_pos (by omega)) dX11_sleep_28 ?_
          refine xj_aload_n (n := 0) (i := 0) 1 rfl rfl dX11_sleep_29 ?_
          refine yj_getf (v := .ref 66) fl_X11_55_11 (by omega) (fq_0 g1) rfl dX11_sleep_30 ?_
          refine xj_aload_n (n := 0) (i := 0) 1 rfl rfl dX11_sleep_33 ?_
          refine yj_getf (v := .int (nI (aW A))) fl_X11_93_11 (by omega) (fq_0 g1) (congrArg (fun z => some (Value.int z)) U.1.2.2) dX11_sleep_34 ?_
          refine yj_aaldN (m := 6) (a := fTX (aW A)) (aW A) (by omega) (fq_66 g1) (by decide) (by decide) rfl (by omega) (by decide) U.2.2.1 dX11_sleep_37 ?_
          refine xj_aload_n (n := 0) (i := 0) 1 rfl rfl dX11_sleep_38 ?_
          refine yj_getf (v := .int (nI (aN A))) fl_X11_84_11 (by omega) (fq_0 g1) (congrArg (fun z => some (Value.int z)) U.1.2.1) dX11_sleep_39 ?_
          refine xj_callV kv_X11_177 (c_X7_passNight l (d + 0) n hn g1 (9 + 3 * i) (fTX (aW A)) (aK A i) (A 2 i) (A 3 i) (A (10 + i)) (Λ (aW A)) (fPn_r hs6_i) (U.2.2.2 hi) U.2.1 (nI (aN A))) (As := [.ref (fTX (aW A)), .int (nI (aN A))]) (st := []) (by omega) ((fPn_r hs6_i).2.2.1 _) (ci := 7) rfl rfl rfl rfl (xRm_of (by omega) (by decide) (by omega) (by omega)) (Nat.le_of_ble_eq_true rfl) dX11_sleep_42 (yk_v (kc := 0) (ks := 0) fun zg3 hzg3 => ?_)
          obtain ⟨hf2, B2⟩ := hzg3
          refine xj_iinc (n := 1) (i := 1) (v := nI (i + 1)) (lv1 := [(1, .int (nI (i + 1))), (0, .ref 0)]) 0 rfl (nI_1 i) rfl (Nat.le_of_ble_eq_true rfl) dX11_sleep_45 ?_
          refine xj_goto (tgt := 15) (by decide) dX11_sleep_48 ?_
          refine xj_sub (lv' := [(1, .int (nI (i + 1))), (0, .ref 0)]) [0, 1] rfl ?_
          exact ih zg3 (slA_step O hi C1 hf2 B2) (hf.tr (hf2.mono (fun j hj => by have hv := fTX_v (aW A); unfold fXd at hj; unfold cX; omega)))
    refine xj_sub (lv' := [(1, .int 0), (0, .ref 0)]) [0, 1] rfl ?_
    exact key 0 (Nat.zero_le _) g C fr.rf
  · refine xj_bipush (v := (-3)) (by decide) dX11_sleep_10 ?_
    have er : rSleep A Λ = ((-3), A) := by unfold rSleep; rw [if_neg zc7]; all_goals (rfl)
    exact xj_ireturn rfl (nr_i _) (Nat.zero_le _) (Nat.zero_le _) dX11_sleep_12 (qI_e (by rw [er]; exact ⟨rfl, C, fr.rf⟩))
