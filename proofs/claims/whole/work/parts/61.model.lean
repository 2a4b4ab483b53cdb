theorem mA.img {g g1 : xG} {A : zSt} {Λ : Nat → xL} (C : mA g A Λ) (O : okA A) (e13 : g1 86 13 = 1) (e86 : ∀ k, k < 33 → k ≠ 13 → g1 86 k = g 86 k) (e94 : ∀ j, j < 96 → g1 94 j = g 89 j) (e95 : ∀ j, j < 6 → g1 95 j = g 90 j) (e96 : g1 96 0 = A 0 0 ∧ g1 96 1 = A 0 1 ∧ g1 96 2 = A 0 2 ∧ g1 96 3 = A 0 4) (eg : ∀ j, 87 ≤ j → j < 103 → ¬ (94 ≤ j ∧ j < 97) → g1 j = g j) : mA g1 (stImg A) Λ := by
  have hS := O.1.2
  have a1 := stImg_n A (q := 1) (by omega) (by omega) (by omega)
  have a2 := stImg_n A (q := 2) (by omega) (by omega) (by omega)
  have a3 := stImg_n A (q := 3) (by omega) (by omega) (by omega)
  have eI : aI (stImg A) = aS A := rfl
  obtain ⟨c1, cp, ct, cb, ci, cq, cw⟩ := id C
  refine C.up ?_ (cp.k (fun q a b => eg q (by omega) (by omega) (by omega)) rfl (fun s hs => ⟨by rw [a1], by rw [a2], by rw [a3], stImg_n A (by omega) (by omega) (by omega)⟩)) ⟨rfl, eg _ (by omega) (by omega) (by omega), eg _ (by omega) (by omega) (by omega)⟩ (cb.k rfl (eg _ (by omega) (by omega) (by omega)) (stImg_n A (by omega) (by omega) (by omega))) (fun _ => ⟨e96, fun s hs => ?_⟩) (cq.k (fun q a b => eg q (by omega) (by omega) (by omega)) (stImg_n A (by omega) (by omega) (by omega)) (stImg_n A (by omega) (by omega) (by omega)) (fun q _ => stImg_n A (by omega) (by omega) (by omega))) (eg _ (by omega) (by omega) (by omega))
  · obtain ⟨b0, b5, b6, b11, b12, b8, b13⟩ := c1
    exact ⟨(e86 0 (by omega) (by omega)).trans b0, (e86 5 (by omega) (by omega)).trans b5, (e86 6 (by omega) (by omega)).trans b6, (e86 11 (by omega) (by omega)).trans b11, (e86 12 (by omega) (by omega)).trans b12, (e86 8 (by omega) (by omega)).trans b8, e13⟩
  · rw [eI] at hs
    obtain ⟨x1, x2, x3, x4⟩ := cp s hs
    refine ⟨(e95 s (by omega)).trans x3, fun c hc => ?_⟩
    rw [stImg_d A (by omega), e94 _ (by omega)]
    exact x4 c hc
theorem mA.bck {g g1 : xG} {A : zSt} {Λ : Nat → xL} (C : mA g A Λ) (O : okA A) (h6 : ¬ A 0 6 = 0) (e86 : g1 86 0 = A 0 7 ∧ g1 86 5 = A 0 8 ∧ g1 86 6 = A 0 9 ∧ g1 86 12 = A 0 10 ∧ g1 86 11 = g 86 11 ∧ g1 86 8 = g 86 8 ∧ g1 86 13 = g 86 13) (e89 : ∀ j, j < 96 → g1 89 j = g 94 j) (e90 : ∀ j, j < 6 → g1 90 j = g 95 j) (eg : ∀ j, 87 ≤ j → j < 103 → ¬ (89 ≤ j ∧ j < 91) → g1 j = g j) : mA g1 (stBack A) Λ := by
  have hS := O.1.2
  have hI := (O.2.2.2.2.2.2.2.1.resolve_left h6).2.2.1
  have a1 := stBack_n A (q := 1) (by omega) (by omega) (by omega)
  have a2 := stBack_n A (q := 2) (by omega) (by omega) (by omega)
  have a4 := stBack_n A (q := 4) (by omega) (by omega) (by omega)
  obtain ⟨c1, cp, ct, cb, ci, cq, cw⟩ := id C
  refine C.up ?_ (fun s hs => ?_) ⟨rfl, eg _ (by omega) (by omega) (by omega), eg _ (by omega) (by omega) (by omega)⟩ (cb.k rfl (eg _ (by omega) (by omega) (by omega)) (stBack_n A (by omega) (by omega) (by omega))) (ci.k (fun q a b => eg q (by omega) (by omega) (by omega)) (fun i a b => by show upd (upd (upd (upd (A 0) 0 (A 0 7)) 1 (A 0 8)) 2 (A 0 9)) 4 (A 0 10) i = _; rw [upd_n _ _ (by omega), upd_n _ _ (by omega), upd_n _ _ (by omega), upd_n _ _ (by omega)]) (fun _ s hs => ⟨by rw [a4], stBack_n A (by omega) (by omega) (by omega)⟩)) (cq.k (fun q a b => eg q (by omega) (by omega) (by omega)) (stBack_n A (by omega) (by omega) (by omega)) (stBack_n A (by omega) (by omega) (by omega)) (fun q _ => stBack_n A (by omega) (by omega) (by omega))) (eg _ (by omega) (by omega) (by omega))
  · obtain ⟨b0, b5, b6, b11, b12, b8, b13⟩ := c1
    obtain ⟨x0, x5, x6, x12, x11, x8, x13⟩ := e86
    exact ⟨x0, x5, x6, x11.trans b11, x12, x8.trans b8, x13.trans b13⟩
  · have hs' : s < aI A := hs
    obtain ⟨x1, x2, x3, x4⟩ := cp s (by omega)
    obtain ⟨y1, y2⟩ := (ci h6).2 s hs'
    rw [eg 87 (by omega) (by omega) (by omega), eg 88 (by omega) (by omega) (by omega), a1, a2, show stBack A 3 = A 4 from rfl, stBack_d A (by omega)]
    refine ⟨x1, x2, (e90 s (by omega)).trans y1, fun c hc => ?_⟩
    rw [e89 _ (by omega)]
    exact y2 c hc
theorem stQ_n (A : zSt) (q : Nat) (so sz : Int32) (r : Nat → Int32) {j : Nat} (h : j < 40) (h5 : j ≠ 5) (h6 : j ≠ 6) : stQ A q so sz r j = A j := by unfold stQ; rw [if_neg h5, if_neg h6, if_neg (by omega)]
theorem stQ_5 (A : zSt) (q : Nat) (so sz : Int32) (r : Nat → Int32) : stQ A q so sz r 5 = upd (A 5) q so := rfl
theorem stQ_6 (A : zSt) (q : Nat) (so sz : Int32) (r : Nat → Int32) : stQ A q so sz r 6 = upd (A 6) q sz := rfl
theorem stQ_r (A : zSt) (q : Nat) (so sz : Int32) (r : Nat → Int32) : stQ A q so sz r (40 + q) = r := by unfold stQ; rw [if_neg (by omega), if_neg (by omega), if_pos rfl]
theorem stQ_stQ (A : zSt) (q : Nat) (a b c d : Int32) (r r' : Nat → Int32) : stQ (stQ A q a b r) q c d r' = stQ A q c d r' := by
  funext j
  by_cases h5 : j = 5
  · subst h5; rw [stQ_5, stQ_5, stQ_5, upd_up]
  · by_cases h6 : j = 6
    · subst h6; rw [stQ_6, stQ_6, stQ_6, upd_up]
    · by_cases h4 : j = 40 + q
      · subst h4; rw [stQ_r, stQ_r]
      · unfold stQ
        rw [if_neg h5, if_neg h6, if_neg h4, if_neg h5, if_neg h6, if_neg h4, if_neg h5, if_neg h6, if_neg h4]
theorem mA.qset {g1 : xG} {A : zSt} {Λ : Nat → xL} {q : Nat} {so sz : Int32} {r : Nat → Int32} (C1 : mA g1 (stQ A q so sz r) Λ) (O1 : okA (stQ A q so sz r)) (hq : q < 4) {i : Nat} (hi : i < 40) (x : Int32) : mA (gs g1 99 (40 * q + i) x) (stQ A q so sz (upd r i x)) Λ := by
  have h := C1.sht (g1 := gs g1 99 (40 * q + i) x) (q := q) (sort := so) (size := sz) (r := upd r i x) (by rw [gs_n _ _ _ (by decide), C1.qs hq, stQ_5, upd_s]) (by rw [gs_n _ _ _ (by decide), (C1.2.2.2.2.2.1 q hq).2.1, stQ_6, upd_s]) (fun j hj => by rw [gs_s]; by_cases e : j = i; (subst e; rw [upd_s, upd_s]); (rw [upd_n _ _ (by omega), upd_n _ _ e, C1.qn hq hj, stQ_r])) (fun p hp hne => ⟨by rw [gs_n _ _ _ (by decide)], by rw [gs_n _ _ _ (by decide)], fun j hj => by rw [gs_s, upd_n _ _ (by omega)]⟩) (fun k hk => by rw [gs_n _ _ _ (by decide)]) (fun j a b c => by rw [gs_n _ _ _ (by omega)]) O1
  rw [stQ_stQ] at h
  exact h
theorem stQ_use (A : zSt) (q : Nat) (so sz : Int32) (r : Nat → Int32) {s : Nat} (hs : s < 6) : aW (stQ A q so sz r) = aW A ∧ aN (stQ A q so sz r) = aN A ∧ aK (stQ A q so sz r) s = aK A s ∧ stQ A q so sz r 2 = A 2 ∧ stQ A q so sz r 3 = A 3 ∧ stQ A q so sz r (10 + s) = A (10 + s) ∧ aS (stQ A q so sz r) = aS A := by
  have e0 := stQ_n A q so sz r (j := 0) (by omega) (by omega) (by omega)
  refine ⟨by unfold aW; rw [e0], by unfold aN; rw [e0], by unfold aK; rw [stQ_n A q so sz r (j := 1) (by omega) (by omega) (by omega)], stQ_n _ _ _ _ _ (by omega) (by omega) (by omega), stQ_n _ _ _ _ _ (by omega) (by omega) (by omega), stQ_n _ _ _ _ _ (by omega) (by omega) (by omega), by unfold aS; rw [e0]⟩
theorem rwA.g99 {g : xG} {d : Nat → Int32} {N : Nat} (R : rwA g d N) (k : Nat) (x : Int32) : rwA (gs g 99 k x) d N := ⟨fun c hc => by rw [gs_n _ _ _ (by decide)]; exact R.1 c hc, by rw [gs_n _ _ _ (by decide)]; exact R.2⟩
theorem le_nlt {a b : Int32} (h : a ≤ b) : ¬ b < a := fun z => absurd ((i32_lt _ _).mp z) (Int.not_lt.mpr ((i32_le _ _).mp h))
theorem nlt_le {a b : Int32} (h : ¬ b < a) : a ≤ b := (i32_le _ _).mpr (Int.not_lt.mp (fun z => h ((i32_lt _ _).mpr z)))
/-- copied up, from the first on; down, from the last on -/
def cpA (f : Nat → Int32) (a b k : Nat) : Nat → Int32 := fun p => if b ≤ p ∧ p < b + k then f (a + (p - b)) else f p
def cpD (f : Nat → Int32) (a b n k : Nat) : Nat → Int32 := fun p => if b + (n - k) ≤ p ∧ p < b + n then f (a + (p - b)) else f p
theorem cpA_step (f : Nat → Int32) {a b k : Nat} (h : b ≤ a) {w : Nat → Int32} (hw : ∀ p, p < 160 → w p = cpA f a b k p) (ha : a + k < 160) (p : Nat) (hp : p < 160) : upd w (b + k) (w (a + k)) p = cpA f a b (k + 1) p := by
  by_cases e : p = b + k
  · subst e
    rw [upd_s, hw _ ha]
    unfold cpA
    rw [if_neg (by omega), if_pos (by omega), show a + (b + k - b) = a + k by omega]
  · rw [upd_n _ _ e, hw p hp]
    unfold cpA
    by_cases h2 : b ≤ p ∧ p < b + k
    · rw [if_pos h2, if_pos (by omega)]
    · rw [if_neg h2, if_neg (by omega)]
theorem cpD_step (f : Nat → Int32) {a b n k : Nat} (h : a < b) (hk : k < n) {w : Nat → Int32} (hw : ∀ p, p < 160 → w p = cpD f a b n k p) (ha : a + n < 160) (p : Nat) (hp : p < 160) : upd w (b + (n - 1 - k)) (w (a + (n - 1 - k))) p = cpD f a b n (k + 1) p := by
  by_cases e : p = b + (n - 1 - k)
  · subst e
    rw [upd_s, hw _ (by omega)]
    unfold cpD
    rw [if_neg (by omega), if_pos (by omega), show a + (b + (n - 1 - k) - b) = a + (n - 1 - k) by omega]
  · rw [upd_n _ _ e, hw p hp]
    unfold cpD
    by_cases h2 : b + (n - k) ≤ p ∧ p < b + n
    · rw [if_pos h2, if_pos (by omega)]
    · rw [if_neg h2, if_neg (by omega)]
theorem cpD_end (f : Nat → Int32) (a b n : Nat) (p : Nat) : cpD f a b n n p = cpA f a b n p := by
  unfold cpD cpA
  rw [show b + (n - n) = b by omega]
theorem mA.cpy {g g1 : xG} {A : zSt} {Λ : Nat → xL} (C : mA g A Λ) (O : okA A) {q o i j n : Nat} (hq : q < 4) (ho : o < 4) (h1 : i + n ≤ 40) (h2 : j + n ≤ 40) (hf : fr (fun x => x = 99) g g1) (hw : ∀ p, p < 160 → g1 99 p = cpA (g 99) (40 * q + i) (40 * o + j) n p) : mA g1 (stQ A o (A 5 o) (A 6 o) (va_cpy (A (40 + q)) (A (40 + o)) i j n)) Λ := by
  have hco := C.2.2.2.2.2.1 o ho
  refine C.sht (by rw [hf 97 (by decide)]; exact hco.1) (by rw [hf 98 (by decide)]; exact hco.2.1) (fun x hx => ?_) (fun p hp hne => ⟨by rw [hf 97 (by decide)], by rw [hf 98 (by decide)], fun x hx => ?_⟩) (fun k hk => by rw [hf 86 (by decide)]) (fun x a b c => hf x (by omega)) O
  · rw [hw _ (by omega)]
    unfold cpA va_cpy
    by_cases e : j ≤ x ∧ x < j + n
    · rw [if_pos (by omega), if_pos e, show 40 * q + i + (40 * o + x - (40 * o + j)) = 40 * q + (i + (x - j)) by omega]
      exact C.qn hq (by omega)
    · rw [if_neg (by omega), if_neg e]
      exact C.qn ho hx
  · rw [hw _ (by omega)]
    unfold cpA
    exact if_neg (by omega)
theorem sbC_iff {fr : Int32} {z i : Nat} (hz : z ≤ 40) (hi : i < 6) (h0 : 0 < i → ∃ f, f ≤ 40 ∧ fr = nI f) : (¬ fr < 0 ∧ ¬ fr + nI (3 * i) < fr ∧ fr + nI (3 * i) ≤ nI z - 3) ↔ hoP z (fr + nI (3 * i)) 3 := by
  have z0 : (0 : Int32).toInt = 0 := rfl
  have ez : (nI z - 3 : Int32).toInt = (z : Int) - 3 := pk_sub_toInt (a := z) (b := 3) (by omega) (by omega)
  by_cases hf : ∃ f, f ≤ 40 ∧ fr = nI f
  · obtain ⟨f, hf, rfl⟩ := hf
    rw [nI_add]
    constructor
    · rintro ⟨-, -, h⟩
      have h1 := (i32_le _ _).mp h
      rw [ez, nI_toInt (by omega)] at h1
      refine ⟨nI_pos' (by omega), by decide, nI_le (by omega) (by omega), ?_⟩
      rw [pk_sub (by omega)]
      exact nI_le (a := 3) (by omega) (by omega)
    · intro h
      obtain ⟨a, b, ea, eb, hab⟩ := ho_n hz h
      have e1 := (nI_eq (by omega) (by omega)).mp ea
      have e2 := (nI_eq (a := 3) (by omega) (by omega)).mp eb
      refine ⟨nI_pos (by omega), nI_nlt (by omega) (by omega), (i32_le _ _).mpr ?_⟩
      rw [ez, nI_toInt (by omega)]
      omega
  · have hi0 : i = 0 := Nat.eq_zero_of_not_pos (fun h => hf (h0 h))
    subst hi0
    rw [show fr + nI (3 * 0) = fr from Int32.add_zero fr]
    refine ⟨fun h => absurd ?_ hf, fun h => absurd ?_ hf⟩
    · have h1 := (i32_le _ _).mp h.2.2
      rw [ez] at h1
      obtain ⟨k, hk, e⟩ := nI_bnd (x := fr) (M := 40) (m := 40) (by decide) (nlt_le h.1) ((i32_le _ _).mpr (by show _ ≤ (40 : Int); omega))
      exact ⟨k, hk, e⟩
    · obtain ⟨a, b, ea, eb, hab⟩ := ho_n hz h
      exact ⟨a, by omega, ea⟩
theorem sby_useM {g1 : xG} {A A1 : zSt} {Λ : Nat → xL} {q : Nat} (hq : q < 4) (C1 : mA g1 A1 Λ) (O1 : okA A1) (e : ∀ j, 4 ≤ j ∧ j < 10 ∨ 16 ≤ j → A1 j = A j) : g1 98 q = nI (aQ A q) ∧ ∀ j, j < 40 → g1 99 (40 * q + j) = A (40 + q) j := by
  refine ⟨?_, fun j hj => ?_⟩
  · rw [C1.qz O1 hq]
    unfold aQ
    rw [e 6 (by omega)]
  · rw [C1.qn hq hj, e (40 + q) (by omega)]
set_option maxHeartbeats 4000000 in
set_option maxRecDepth 100000 in
theorem c_X12_image (l : Launch) (d : Nat) (n : Nat) (hn : 110 ≤ n) (g : xG) (A : zSt) (Λ : Nat → xL) (O : okA A) (C : mA g A Λ)  : xC l yX12_image cX12_image 2 (some .int) (xR (d + 2) 0 0) [.ref 86] (n, fh g) (qI n fun v g1 => v = (rImage A).1 ∧ mA g1 (rImage A).2 Λ ∧ fr mX g g1) := by
  refine xC_of false (by decide +kernel) (fun z => by cases z) (Nat.le_of_ble_eq_true rfl) ?_
  have hS6 := O.1.2
  have hW := O.W
  have hT6 := O.2.2.2.1.2.2
  have hN9 := O.2.1.2
  show xJ l (RX12, 2, (some .int), false, (xR (d + 2) 0 0), none) cX12_image _ 0 0 0 [(0, .ref 86)] [] (n, fh g)
  refine xj_aload_n (n := 0) (i := 0) 0 rfl rfl dX12_image_0 ?_
  refine xj_iconst (v := 1) (by decide) dX12_image_1 ?_
  refine yj_puti fl_X12_285_12 (by omega) fS_86_13 ⟨rfl, rfl⟩ dX12_image_2 ?_
  obtain ⟨zg1, ezg1⟩ : ∃ z, z = gs g 86 13 1 := ⟨_, rfl⟩
  rw [← ezg1]
  refine xj_iconst (v := 0) (by decide) dX12_image_5 ?_
  refine xj_istore_n (n := 1) (i := 1) (lv1 := [(1, .int 0), (0, .ref 86)]) rfl rfl (Nat.le_of_ble_eq_true rfl) dX12_image_6 ?_
  have key : ∀ i, i ≤ 96 → ∀ (g1 : xG), fr (fun j => j = 94) zg1 g1 → (∀ j, j < i → g1 94 j = g 89 j) → xJ l (RX12, 2, (some .int), false, (xR (d + 2) 0 0), none) cX12_image (qI n fun v g1 => v = (rImage A).1 ∧ mA g1 (rImage A).2 Λ ∧ fr mX g g1) 0 0 7 [(1, .int (nI i)), (0, .ref 86)] [] (n, fh g1) := by
    refine x_loop 96 _ ?_ ?_
    · intro g1 hf hz
      refine xj_iload_n (n := 1) (i := 1) 0 rfl rfl dX12_image_7 ?_
      refine xj_bipush (v := 96) (by decide) dX12_image_8 ?_
      refine xj_icmp_ge (tgt := 31) (by decide) dX12_image_10 (fun zc10 => ?_) (fun zc10 => ?_)
      · refine xj_iconst (v := 0) (by decide) dX12_image_31 ?_
        refine xj_istore_n (n := 1) (i := 1) (lv1 := [(1, .int 0), (0, .ref 86)]) rfl rfl (Nat.le_of_ble_eq_true rfl) dX12_image_32 ?_
        have key2 : ∀ i, i ≤ 6 → ∀ (g2 : xG), fr (fun j => j = 95) g1 g2 → (∀ j, j < i → g2 95 j = g 90 j) → xJ l (RX12, 2, (some .int), false, (xR (d + 2) 0 0), none) cX12_image (qI n fun v g1 => v = (rImage A).1 ∧ mA g1 (rImage A).2 Λ ∧ fr mX g g1) 0 0 33 [(1, .int (nI i)), (0, .ref 86)] [] (n, fh g2) := by
          refine x_loop 6 _ ?_ ?_
          · intro g2 hf2 hz2
            refine xj_iload_n (n := 1) (i := 1) 0 rfl rfl dX12_image_33 ?_
            refine xj_bipush (v := 6) (by decide) dX12_image_34 ?_
            refine xj_icmp_ge (tgt := 57) (by decide) dX12_image_36 (fun zc36 => ?_) (fun zc36 => ?_)
            · refine xj_aload_n (n := 0) (i := 0) 1 rfl rfl dX12_image_57 ?_
              refine yj_getf (v := .ref 96) fl_X12_41_12 (by omega) (fq_86 g2) rfl dX12_image_58 ?_
              refine xj_iconst (v := 0) (by decide) dX12_image_61 ?_
              refine xj_aload_n (n := 0) (i := 0) 1 rfl rfl dX12_image_62 ?_
              refine yj_getf (v := .int (nI (aS A))) fl_X12_90_12 (by omega) (fq_86 g2) (congrArg (fun z => some (Value.int z)) (by rw [hf2 86 (by decide), hf 86 (by decide), ezg1, gs_s, upd_n _ _ (by decide)]; exact C.S O)) dX12_image_63 ?_
              refine yj_iastN 0 (by omega) fA_96 rfl (by omega) (by decide) dX12_image_66 ?_
              obtain ⟨zg2, ezg2⟩ : ∃ z, z = gs g2 96 0 (nI (aS A)) := ⟨_, rfl⟩
              rw [← ezg2]
              refine xj_aload_n (n := 0) (i := 0) 1 rfl rfl dX12_image_67 ?_
              refine yj_getf (v := .ref 96) fl_X12_41_12 (by omega) (fq_86 zg2) rfl dX12_image_68 ?_
              refine xj_iconst (v := 1) (by decide) dX12_image_71 ?_
              refine xj_aload_n (n := 0) (i := 0) 1 rfl rfl dX12_image_72 ?_
              refine yj_getf (v := .int (nI (aN A))) fl_X12_97_12 (by omega) (fq_86 zg2) (congrArg (fun z => some (Value.int z)) (by rw [ezg2, gs_n _ _ _ (by decide), hf2 86 (by decide), hf 86 (by decide), ezg1, gs_s, upd_n _ _ (by decide)]; exact C.N O)) dX12_image_73 ?_
              refine yj_iastN 1 (by omega) fA_96 rfl (by omega) (by decide) dX12_image_76 ?_
              obtain ⟨zg3, ezg3⟩ : ∃ z, z = gs zg2 96 1 (nI (aN A)) := ⟨_, rfl⟩
              rw [← ezg3]
              refine xj_aload_n (n := 0) (i := 0) 1 rfl rfl dX12_image_77 ?_
              refine yj_getf (v := .ref 96) fl_X12_41_12 (by omega) (fq_86 zg3) rfl dX12_image_78 ?_
              refine xj_iconst (v := 2) (by decide) dX12_image_81 ?_
              refine xj_aload_n (n := 0) (i := 0) 1 rfl rfl dX12_image_82 ?_
              refine yj_getf (v := .int (nI (aM A))) fl_X12_22_12 (by omega) (fq_86 zg3) (congrArg (fun z => some (Value.int z)) (by rw [ezg3, gs_n _ _ _ (by decide), ezg2, gs_n _ _ _ (by decide), hf2 86 (by decide), hf 86 (by decide), ezg1, gs_s, upd_n _ _ (by decide)]; exact C.M O)) dX12_image_83 ?_
              refine yj_iastN 2 (by omega) fA_96 rfl (by omega) (by decide) dX12_image_86 ?_
              obtain ⟨zg4, ezg4⟩ : ∃ z, z = gs zg3 96 2 (nI (aM A)) := ⟨_, rfl⟩
              rw [← ezg4]
              refine xj_aload_n (n := 0) (i := 0) 1 rfl rfl dX12_image_87 ?_
              refine yj_getf (v := .ref 96) fl_X12_41_12 (by omega) (fq_86 zg4) rfl dX12_image_88 ?_
              refine xj_iconst (v := 3) (by decide) dX12_image_91 ?_
              refine xj_aload_n (n := 0) (i := 0) 1 rfl rfl dX12_image_92 ?_
              refine yj_getf (v := .int (nI (aW A))) fl_X12_103_12 (by omega) (fq_86 zg4) (congrArg (fun z => some (Value.int z)) (by rw [ezg4, gs_n _ _ _ (by decide), ezg3, gs_n _ _ _ (by decide), ezg2, gs_n _ _ _ (by decide), hf2 86 (by decide), hf 86 (by decide), ezg1, gs_s, upd_n _ _ (by decide)]; exact C.W O)) dX12_image_93 ?_
              refine yj_iastN 3 (by omega) fA_96 rfl (by omega) (by decide) dX12_image_96 ?_
              obtain ⟨zg5, ezg5⟩ : ∃ z, z = gs zg4 96 3 (nI (aW A)) := ⟨_, rfl⟩
              rw [← ezg5]
              have hr : zg5 96 = upd (upd (upd (upd (g2 96) 0 (nI (aS A))) 1 (nI (aN A))) 2 (nI (aM A))) 3 (nI (aW A)) := by rw [ezg5, ezg4, ezg3, ezg2, gs_s, gs_s, gs_s, gs_s]
              refine xj_aload_n (n := 0) (i := 0) 1 rfl rfl dX12_image_97 ?_
              refine yj_getf (v := .int (nI (aS A))) fl_X12_90_12 (by omega) (fq_86 zg5) (congrArg (fun z => some (Value.int z)) (by rw [ezg5, gs_n _ _ _ (by decide), ezg4, gs_n _ _ _ (by decide), ezg3, gs_n _ _ _ (by decide), ezg2, gs_n _ _ _ (by decide), hf2 86 (by decide), hf 86 (by decide), ezg1, gs_s, upd_n _ _ (by decide)]; exact C.S O)) dX12_image_98 ?_
              have er : rImage A = ((nI (aS A)), stImg A) := by unfold rImage; all_goals (rfl)
              exact xj_ireturn rfl (nr_i _) (Nat.zero_le _) (Nat.zero_le _) dX12_image_101 (qI_e (by rw [er]; exact ⟨rfl, (C.img O (by rw [ezg5, ezg4, ezg3, ezg2, gs_n _ _ _ (by decide), gs_n _ _ _ (by decide), gs_n _ _ _ (by decide), gs_n _ _ _ (by decide), hf2 86 (by decide), hf 86 (by decide), ezg1, gs_s, upd_s]) (fun k hk hne => by rw [ezg5, ezg4, ezg3, ezg2, gs_n _ _ _ (by decide), gs_n _ _ _ (by decide), gs_n _ _ _ (by decide), gs_n _ _ _ (by decide), hf2 86 (by decide), hf 86 (by decide), ezg1, gs_s, upd_n _ _ hne]) (fun j hj => by rw [ezg5, ezg4, ezg3, ezg2, gs_n _ _ _ (by decide), gs_n _ _ _ (by decide), gs_n _ _ _ (by decide), gs_n _ _ _ (by decide), hf2 94 (by decide)]; exact hz j hj) (fun j hj => by rw [ezg5, ezg4, ezg3, ezg2, gs_n _ _ _ (by decide), gs_n _ _ _ (by decide), gs_n _ _ _ (by decide), gs_n _ _ _ (by decide),  hz2 j hj]) (by rw [hr]; exact ⟨O.1.1.symm, O.2.1.1.symm, O.2.2.1.1.symm, O.2.2.2.2.1.1.symm⟩) (fun j a b c => by rw [ezg5, ezg4, ezg3, ezg2, gs_n _ _ _ (by omega), gs_n _ _ _ (by omega), gs_n _ _ _ (by omega), gs_n _ _ _ (by omega), hf2 j (by omega), hf j (by omega), ezg1, gs_n _ _ _ (by omega)])), (fun j hj => by unfold mX at hj; rw [ezg5, ezg4, ezg3, ezg2, gs_n _ _ _ (by omega), gs_n _ _ _ (by omega), gs_n _ _ _ (by omega), gs_n _ _ _ (by omega), hf2 j (by omega), hf j (by omega), ezg1, gs_n _ _ _ (by omega)])⟩))
            · exact absurd (nI_le (Nat.le_refl _) (by decide)) zc36
          · intro i hi ih g2 hf2 hz2
            refine xj_iload_n (n := 1) (i := 1) 0 rfl rfl dX12_image_33 ?_
            refine xj_bipush (v := 6) (by decide) dX12_image_34 ?_
            refine xj_icmp_ge (tgt := 57) (by decide) dX12_image_36 (fun zc36 => ?_) (fun zc36 => ?_)
            · exact absurd zc36 (nI_ge hi (by decide))
            · refine xj_aload_n (n := 0) (i := 0) 1 rfl rfl dX12_image_39 ?_
              refine yj_getf (v := .ref 95) fl_X12_38_12 (by omega) (fq_86 g2) rfl dX12_image_40 ?_
              refine xj_iload_n (n := 1) (i := 1) 0 rfl rfl dX12_image_43 ?_
              refine xj_aload_n (n := 0) (i := 0) 1 rfl rfl dX12_image_44 ?_
              refine yj_getf (v := .ref 90) fl_X12_19_12 (by omega) (fq_86 g2) rfl dX12_image_45 ?_
              refine xj_iload_n (n := 1) (i := 1) 0 rfl rfl dX12_image_48 ?_
              refine yj_ialdN i (by omega) fA_90 rfl (by omega) (by decide) dX12_image_49 ?_
              refine xj_topi (fun zv6 ezv6 => ?_)
              refine yj_iastN i (by omega) fA_95 rfl (by omega) (by decide) dX12_image_50 ?_
              obtain ⟨zg7, ezg7⟩ : ∃ z, z = gs g2 95 i zv6 := ⟨_, rfl⟩
              rw [← ezg7]
              refine xj_iinc (n := 1) (i := 1) (v := nI (i + 1)) (lv1 := [(1, .int (nI (i + 1))), (0, .ref 86)]) 0 rfl (nI_1 i) rfl (Nat.le_of_ble_eq_true rfl) dX12_image_51 ?_
              refine xj_goto (tgt := 33) (by decide) dX12_image_54 ?_
              refine xj_sub (lv' := [(1, .int (nI (i + 1))), (0, .ref 86)]) [0, 1] rfl ?_
              refine ih zg7 (by rw [ezg7]; exact hf2.gs rfl _ _) (fun j hj => ?_)
              rw [ezg7, gs_s]; by_cases e : j = i; (subst e; rw [upd_s, ezv6, hf2 90 (by decide), hf 90 (by decide), ezg1, gs_n _ _ _ (by decide)]); (rw [upd_n _ _ e]; exact hz2 j (by omega))
        refine xj_sub (lv' := [(1, .int 0), (0, .ref 86)]) [0, 1] rfl ?_
        exact key2 0 (Nat.zero_le _) g1 fr.rf (fun j hj => absurd hj (Nat.not_lt_zero j))
      · exact absurd (nI_le (Nat.le_refl _) (by decide)) zc10
    · intro i hi ih g1 hf hz
      refine xj_iload_n (n := 1) (i := 1) 0 rfl rfl dX12_image_7 ?_
      refine xj_bipush (v := 96) (by decide) dX12_image_8 ?_
      refine xj_icmp_ge (tgt := 31) (by decide) dX12_image_10 (fun zc10 => ?_) (fun zc10 => ?_)
      · exact absurd zc10 (nI_ge hi (by decide))
      · refine xj_aload_n (n := 0) (i := 0) 1 rfl rfl dX12_image_13 ?_
        refine yj_getf (v := .ref 94) fl_X12_35_12 (by omega) (fq_86 g1) rfl dX12_image_14 ?_
        refine xj_iload_n (n := 1) (i := 1) 0 rfl rfl dX12_image_17 ?_
        refine xj_aload_n (n := 0) (i := 0) 1 rfl rfl dX12_image_18 ?_
        refine yj_getf (v := .ref 89) fl_X12_16_12 (by omega) (fq_86 g1) rfl dX12_image_19 ?_
        refine xj_iload_n (n := 1) (i := 1) 0 rfl rfl dX12_image_22 ?_
        refine yj_ialdN i (by omega) fA_89 rfl (by omega) (by decide) dX12_image_23 ?_
        refine xj_topi (fun zv8 ezv8 => ?_)
        refine yj_iastN i (by omega) fA_94 rfl (by omega) (by decide) dX12_image_24 ?_
        obtain ⟨zg9, ezg9⟩ : ∃ z, z = gs g1 94 i zv8 := ⟨_, rfl⟩
        rw [← ezg9]
        refine xj_iinc (n := 1) (i := 1) (v := nI (i + 1)) (lv1 := [(1, .int (nI (i + 1))), (0, .ref 86)]) 0 rfl (nI_1 i) rfl (Nat.le_of_ble_eq_true rfl) dX12_image_25 ?_
        refine xj_goto (tgt := 7) (by decide) dX12_image_28 ?_
        refine xj_sub (lv' := [(1, .int (nI (i + 1))), (0, .ref 86)]) [0, 1] rfl ?_
        refine ih zg9 (by rw [ezg9]; exact hf.gs rfl _ _) (fun j hj => ?_)
        rw [ezg9, gs_s]; by_cases e : j = i; (subst e; rw [upd_s, ezv8, hf 89 (by decide), ezg1, gs_n _ _ _ (by decide)]); (rw [upd_n _ _ e]; exact hz j (by omega))
  refine xj_sub (lv' := [(1, .int 0), (0, .ref 86)]) [0, 1] rfl ?_
  exact key 0 (Nat.zero_le _) zg1 fr.rf (fun j hj => absurd hj (Nat.not_lt_zero j))
set_option maxHeartbeats 4000000 in
set_option maxRecDepth 100000 in
theorem c_X12_back (l : Launch) (d : Nat) (n : Nat) (hn : 110 ≤ n) (g : xG) (A : zSt) (Λ : Nat → xL) (O : okA A) (C : mA g A Λ)  : xC l yX12_back cX12_back 2 (some .int) (xR (d + 2) 0 0) [.ref 86] (n, fh g) (qI n fun v g1 => v = (rBack A).1 ∧ mA g1 (rBack A).2 Λ ∧ fr mX g g1) := by
  refine xC_of false (by decide +kernel) (fun z => by cases z) (Nat.le_of_ble_eq_true rfl) ?_
  have hS6 := O.1.2
  have hW := O.W
  have hT6 := O.2.2.2.1.2.2
  have hN9 := O.2.1.2
  show xJ l (RX12, 2, (some .int), false, (xR (d + 2) 0 0), none) cX12_back _ 0 0 0 [(0, .ref 86)] [] (n, fh g)
  refine xj_aload_n (n := 0) (i := 0) 0 rfl rfl dX12_back_0 ?_
  refine yj_getf (v := .int (A 0 6)) fl_X12_285_12 (by omega) (fq_86 g) (congrArg (fun z => some (Value.int z)) C.I) dX12_back_1 ?_
  refine xj_if_ne (tgt := 10) (by decide) dX12_back_4 (fun zc4 => ?_) (fun zc4 => ?_)
  · have hw9 := O.2.2.2.2.2.2.2.1.resolve_left zc4
    have hci := C.2.2.2.2.1 zc4
    refine xj_iconst (v := 0) (by decide) dX12_back_10 ?_
    refine xj_istore_n (n := 1) (i := 1) (lv1 := [(1, .int 0), (0, .ref 86)]) rfl rfl (Nat.le_of_ble_eq_true rfl) dX12_back_11 ?_
    have key : ∀ i, i ≤ 96 → ∀ (g1 : xG), fr (fun j => j = 89) g g1 → (∀ j, j < i → g1 89 j = g 94 j) → xJ l (RX12, 2, (some .int), false, (xR (d + 2) 0 0), none) cX12_back (qI n fun v g1 => v = (rBack A).1 ∧ mA g1 (rBack A).2 Λ ∧ fr mX g g1) 0 0 12 [(1, .int (nI i)), (0, .ref 86)] [] (n, fh g1) := by
      refine x_loop 96 _ ?_ ?_
      · intro g1 hf hz
        refine xj_iload_n (n := 1) (i := 1) 0 rfl rfl dX12_back_12 ?_
        refine xj_bipush (v := 96) (by decide) dX12_back_13 ?_
        refine xj_icmp_ge (tgt := 36) (by decide) dX12_back_15 (fun zc15 => ?_) (fun zc15 => ?_)
        · refine xj_iconst (v := 0) (by decide) dX12_back_36 ?_
          refine xj_istore_n (n := 1) (i := 1) (lv1 := [(1, .int 0), (0, .ref 86)]) rfl rfl (Nat.le_of_ble_eq_true rfl) dX12_back_37 ?_
          have key2 : ∀ i, i ≤ 6 → ∀ (g2 : xG), fr (fun j => j = 90) g1 g2 → (∀ j, j < i → g2 90 j = g 95 j) → xJ l (RX12, 2, (some .int), false, (xR (d + 2) 0 0), none) cX12_back (qI n fun v g1 => v = (rBack A).1 ∧ mA g1 (rBack A).2 Λ ∧ fr mX g g1) 0 0 38 [(1, .int (nI i)), (0, .ref 86)] [] (n, fh g2) := by
            refine x_loop 6 _ ?_ ?_
            · intro g2 hf2 hz2
              refine xj_iload_n (n := 1) (i := 1) 0 rfl rfl dX12_back_38 ?_
              refine xj_bipush (v := 6) (by decide) dX12_back_39 ?_
              refine xj_icmp_ge (tgt := 62) (by decide) dX12_back_41 (fun zc41 => ?_) (fun zc41 => ?_)
              · refine xj_aload_n (n := 0) (i := 0) 1 rfl rfl dX12_back_62 ?_
                refine xj_aload_n (n := 0) (i := 0) 1 rfl rfl dX12_back_63 ?_
                refine yj_getf (v := .ref 96) fl_X12_41_12 (by omega) (fq_86 g2) rfl dX12_back_64 ?_
                refine xj_iconst (v := 0) (by decide) dX12_back_67 ?_
                refine yj_ialdN 0 (by omega) fA_96 rfl (by omega) (by decide) dX12_back_68 ?_
                refine xj_top (show g2 96 0 = A 0 7 from by rw [hf2 96 (by decide), hf 96 (by decide)]; exact hci.1.1) ?_
                refine xj_topi (fun zv1 ezv1 => ?_)
                refine yj_puti fl_X12_90_12 (by omega) fS_86_0 (fi_i _) dX12_back_69 ?_
                obtain ⟨zg2, ezg2⟩ : ∃ z, z = gs g2 86 0 zv1 := ⟨_, rfl⟩
                rw [← ezg2]
                refine xj_aload_n (n := 0) (i := 0) 1 rfl rfl dX12_back_72 ?_
                refine xj_aload_n (n := 0) (i := 0) 1 rfl rfl dX12_back_73 ?_
                refine yj_getf (v := .ref 96) fl_X12_41_12 (by omega) (fq_86 zg2) rfl dX12_back_74 ?_
                refine xj_iconst (v := 1) (by decide) dX12_back_77 ?_
                refine yj_ialdN 1 (by omega) fA_96 rfl (by omega) (by decide) dX12_back_78 ?_
                refine xj_top (show zg2 96 1 = A 0 8 from by rw [ezg2, gs_n _ _ _ (by decide), hf2 96 (by decide), hf 96 (by decide)]; exact hci.1.2.1) ?_
                refine xj_topi (fun zv3 ezv3 => ?_)
                refine yj_puti fl_X12_97_12 (by omega) fS_86_5 (fi_i _) dX12_back_79 ?_
                obtain ⟨zg4, ezg4⟩ : ∃ z, z = gs zg2 86 5 zv3 := ⟨_, rfl⟩
                rw [← ezg4]
                refine xj_aload_n (n := 0) (i := 0) 1 rfl rfl dX12_back_82 ?_
                refine xj_aload_n (n := 0) (i := 0) 1 rfl rfl dX12_back_83 ?_
                refine yj_getf (v := .ref 96) fl_X12_41_12 (by omega) (fq_86 zg4) rfl dX12_back_84 ?_
                refine xj_iconst (v := 2) (by decide) dX12_back_87 ?_
                refine yj_ialdN 2 (by omega) fA_96 rfl (by omega) (by decide) dX12_back_88 ?_
                refine xj_top (show zg4 96 2 = A 0 9 from by rw [ezg4, gs_n _ _ _ (by decide), ezg2, gs_n _ _ _ (by decide), hf2 96 (by decide), hf 96 (by decide)]; exact hci.1.2.2.1) ?_
                refine xj_topi (fun zv5 ezv5 => ?_)
                refine yj_puti fl_X12_22_12 (by omega) fS_86_6 (fi_i _) dX12_back_89 ?_
                obtain ⟨zg6, ezg6⟩ : ∃ z, z = gs zg4 86 6 zv5 := ⟨_, rfl⟩
                rw [← ezg6]
                refine xj_aload_n (n := 0) (i := 0) 1 rfl rfl dX12_back_92 ?_
                refine xj_aload_n (n := 0) (i := 0) 1 rfl rfl dX12_back_93 ?_
                refine yj_getf (v := .ref 96) fl_X12_41_12 (by omega) (fq_86 zg6) rfl dX12_back_94 ?_
                refine xj_iconst (v := 3) (by decide) dX12_back_97 ?_
                refine yj_ialdN 3 (by omega) fA_96 rfl (by omega) (by decide) dX12_back_98 ?_
                refine xj_top (show zg6 96 3 = A 0 10 from by rw [ezg6, gs_n _ _ _ (by decide), ezg4, gs_n _ _ _ (by decide), ezg2, gs_n _ _ _ (by decide), hf2 96 (by decide), hf 96 (by decide)]; exact hci.1.2.2.2) ?_
                refine xj_topi (fun zv7 ezv7 => ?_)
                refine yj_puti fl_X12_103_12 (by omega) fS_86_12 (fi_i _) dX12_back_99 ?_
                obtain ⟨zg8, ezg8⟩ : ∃ z, z = gs zg6 86 12 zv7 := ⟨_, rfl⟩
                rw [← ezg8]
                have hr : zg8 86 = upd (upd (upd (upd (g 86) 0 (A 0 7)) 5 (A 0 8)) 6 (A 0 9)) 12 (A 0 10) := by rw [ezg8, ezg6, ezg4, ezg2, gs_s, gs_s, gs_s, gs_s, hf2 86 (by decide), hf 86 (by decide), ezv1, ezv3, ezv5, ezv7]
                refine xj_aload_n (n := 0) (i := 0) 1 rfl rfl dX12_back_102 ?_
                refine yj_getf (v := .int (nI (aI A))) fl_X12_90_12 (by omega) (fq_86 zg8) (congrArg (fun z => some (Value.int z)) (by rw [hr]; exact hw9.2.1)) dX12_back_103 ?_
                have er : rBack A = ((nI (aI A)), stBack A) := by unfold rBack; rw [if_neg zc4]; all_goals (rfl)
                exact xj_ireturn rfl (nr_i _) (Nat.zero_le _) (Nat.zero_le _) dX12_back_106 (qI_e (by rw [er]; exact ⟨rfl, (C.bck O zc4 (by rw [hr]; exact ⟨rfl, rfl, rfl, rfl, rfl, rfl, rfl⟩) (fun j hj => by rw [ezg8, ezg6, ezg4, ezg2, gs_n _ _ _ (by decide), gs_n _ _ _ (by decide), gs_n _ _ _ (by decide), gs_n _ _ _ (by decide), hf2 89 (by decide)]; exact hz j hj) (fun j hj => by rw [ezg8, ezg6, ezg4, ezg2, gs_n _ _ _ (by decide), gs_n _ _ _ (by decide), gs_n _ _ _ (by decide), gs_n _ _ _ (by decide),  hz2 j hj]) (fun j a b c => by rw [ezg8, ezg6, ezg4, ezg2, gs_n _ _ _ (by omega), gs_n _ _ _ (by omega), gs_n _ _ _ (by omega), gs_n _ _ _ (by omega), hf2 j (by omega), hf j (by omega)])), (fun j hj => by unfold mX at hj; rw [ezg8, ezg6, ezg4, ezg2, gs_n _ _ _ (by omega), gs_n _ _ _ (by omega), gs_n _ _ _ (by omega), gs_n _ _ _ (by omega), hf2 j (by omega), hf j (by omega)])⟩))
              · exact absurd (nI_le (Nat.le_refl _) (by decide)) zc41
            · intro i hi ih g2 hf2 hz2
              refine xj_iload_n (n := 1) (i := 1) 0 rfl rfl dX12_back_38 ?_
              refine xj_bipush (v := 6) (by decide) dX12_back_39 ?_
              refine xj_icmp_ge (tgt := 62) (by decide) dX12_back_41 (fun zc41 => ?_) (fun zc41 => ?_)
              · exact absurd zc41 (nI_ge hi (by decide))
              · refine xj_aload_n (n := 0) (i := 0) 1 rfl rfl dX12_back_44 ?_
                refine yj_getf (v := .ref 90) fl_X12_19_12 (by omega) (fq_86 g2) rfl dX12_back_45 ?_
                refine xj_iload_n (n := 1) (i := 1) 0 rfl rfl dX12_back_48 ?_
                refine xj_aload_n (n := 0) (i := 0) 1 rfl rfl dX12_back_49 ?_
                refine yj_getf (v := .ref 95) fl_X12_38_12 (by omega) (fq_86 g2) rfl dX12_back_50 ?_
                refine xj_iload_n (n := 1) (i := 1) 0 rfl rfl dX12_back_53 ?_
                refine yj_ialdN i (by omega) fA_95 rfl (by omega) (by decide) dX12_back_54 ?_
                refine xj_topi (fun zv9 ezv9 => ?_)
                refine yj_iastN i (by omega) fA_90 rfl (by omega) (by decide) dX12_back_55 ?_
                obtain ⟨zg10, ezg10⟩ : ∃ z, z = gs g2 90 i zv9 := ⟨_, rfl⟩
                rw [← ezg10]
                refine xj_iinc (n := 1) (i := 1) (v := nI (i + 1)) (lv1 := [(1, .int (nI (i + 1))), (0, .ref 86)]) 0 rfl (nI_1 i) rfl (Nat.le_of_ble_eq_true rfl) dX12_back_56 ?_
                refine xj_goto (tgt := 38) (by decide) dX12_back_59 ?_
                refine xj_sub (lv' := [(1, .int (nI (i + 1))), (0, .ref 86)]) [0, 1] rfl ?_
                refine ih zg10 (by rw [ezg10]; exact hf2.gs rfl _ _) (fun j hj => ?_)
                rw [ezg10, gs_s]; by_cases e : j = i; (subst e; rw [upd_s, ezv9, hf2 95 (by decide), hf 95 (by decide)]); (rw [upd_n _ _ e]; exact hz2 j (by omega))
          refine xj_sub (lv' := [(1, .int 0), (0, .ref 86)]) [0, 1] rfl ?_
          exact key2 0 (Nat.zero_le _) g1 fr.rf (fun j hj => absurd hj (Nat.not_lt_zero j))
        · exact absurd (nI_le (Nat.le_refl _) (by decide)) zc15
      · intro i hi ih g1 hf hz
        refine xj_iload_n (n := 1) (i := 1) 0 rfl rfl dX12_back_12 ?_
        refine xj_bipush (v := 96) (by decide) dX12_back_13 ?_
        refine xj_icmp_ge (tgt := 36) (by decide) dX12_back_15 (fun zc15 => ?_) (fun zc15 => ?_)
        · exact absurd zc15 (nI_ge hi (by decide))
        · refine xj_aload_n (n := 0) (i := 0) 1 rfl rfl dX12_back_18 ?_
          refine yj_getf (v := .ref 89) fl_X12_16_12 (by omega) (fq_86 g1) rfl dX12_back_19 ?_
          refine xj_iload_n (n := 1) (i := 1) 0 rfl rfl dX12_back_22 ?_
          refine xj_aload_n (n := 0) (i := 0) 1 rfl rfl dX12_back_23 ?_
          refine yj_getf (v := .ref 94) fl_X12_35_12 (by omega) (fq_86 g1) rfl dX12_back_24 ?_
          refine xj_iload_n (n := 1) (i := 1) 0 rfl rfl dX12_back_27 ?_
          refine yj_ialdN i (by omega) fA_94 rfl (by omega) (by decide) dX12_back_28 ?_
          refine xj_topi (fun zv11 ezv11 => ?_)
          refine yj_iastN i (by omega) fA_89 rfl (by omega) (by decide) dX12_back_29 ?_
          obtain ⟨zg12, ezg12⟩ : ∃ z, z = gs g1 89 i zv11 := ⟨_, rfl⟩
          rw [← ezg12]
          refine xj_iinc (n := 1) (i := 1) (v := nI (i + 1)) (lv1 := [(1, .int (nI (i + 1))), (0, .ref 86)]) 0 rfl (nI_1 i) rfl (Nat.le_of_ble_eq_true rfl) dX12_back_30 ?_
          refine xj_goto (tgt := 12) (by decide) dX12_back_33 ?_
          refine xj_sub (lv' := [(1, .int (nI (i + 1))), (0, .ref 86)]) [0, 1] rfl ?_
          refine ih zg12 (by rw [ezg12]; exact hf.gs rfl _ _) (fun j hj => ?_)
          rw [ezg12, gs_s]; by_cases e : j = i; (subst e; rw [upd_s, ezv11, hf 94 (by decide)]); (rw [upd_n _ _ e]; exact hz j (by omega))
    refine xj_sub (lv' := [(1, .int 0), (0, .ref 86)]) [0, 1] rfl ?_
    exact key 0 (Nat.zero_le _) g fr.rf (fun j hj => absurd hj (Nat.not_lt_zero j))
  · refine xj_bipush (v := (-3)) (by decide) dX12_back_7 ?_
    have er : rBack A = ((-3), A) := by unfold rBack; rw [if_pos zc4]; all_goals (rfl)
    exact xj_ireturn rfl (nr_i _) (Nat.zero_le _) (Nat.zero_le _) dX12_back_9 (qI_e (by rw [er]; exact ⟨rfl, C, fr.rf⟩))
theorem nI_nge9 {a b : Nat} (h : a < b) (hb : b < 2 ^ 31) : ¬ nI a ≥ nI b := nI_ge h hb
set_option maxHeartbeats 4000000 in
set_option maxRecDepth 100000 in
theorem c_X12_copy (l : Launch) (d : Nat) (n : Nat) (hn : 110 ≤ n) (g : xG) (A : zSt) (Λ : Nat → xL) (O : okA A) (C : mA g A Λ) (q i1 o j1 n1 : Int32)  : xC l yX12_copy cX12_copy 10 (some .int) (xR (d + 2) 0 0) [.ref 86, .int q, .int i1, .int o, .int j1, .int n1] (n, fh g) (qI n fun v g1 => v = (rCopy A q i1 o j1 n1).1 ∧ mA g1 (rCopy A q i1 o j1 n1).2 Λ ∧ fr mX g g1) := by
  refine xC_of false (by decide +kernel) (fun z => by cases z) (Nat.le_of_ble_eq_true rfl) ?_
  have hS6 := O.1.2
  have hW := O.W
  have hT6 := O.2.2.2.1.2.2
  have hN9 := O.2.1.2
  show xJ l (RX12, 10, (some .int), false, (xR (d + 2) 0 0), none) cX12_copy _ 0 0 0 [(0, .ref 86), (1, .int q), (2, .int i1), (3, .int o), (4, .int j1), (5, .int n1)] [] (n, fh g)
  refine xj_iload_n (n := 1) (i := 1) 1 rfl rfl dX12_copy_0 ?_
  refine xj_iconst (v := 0) (by decide) dX12_copy_1 ?_
  refine xj_iconst (v := 3) (by decide) dX12_copy_2 ?_
  refine xj_callS ks_X12_93 (c_X12_in l (d + 1) q 0 3 _) (As := [.int q, .int 0, .int 3]) (st := []) rfl rfl (xRm_of (by omega) (by decide) (by omega) (by omega)) (Nat.le_of_ble_eq_true rfl) dX12_copy_3 (yk_p (kc := 0) (ks := 0) ?_)
  refine xj_if_eq (tgt := 18) (by decide) dX12_copy_6 (fun zc6 => ?_) (fun zc6 => ?_)
  · have zp6 : ¬ (0 ≤ q ∧ q ≤ 3) := bI_0.mp zc6
    refine xj_bipush (v := (-2)) (by decide) dX12_copy_18 ?_
    have er : rCopy A q i1 o j1 n1 = ((-2), A) := by unfold rCopy; rw [if_neg zp6]; all_goals (rfl)
    exact xj_ireturn rfl (nr_i _) (Nat.zero_le _) (Nat.zero_le _) dX12_copy_20 (qI_e (by rw [er]; exact ⟨rfl, C, fr.rf⟩))
  · have zp6 : 0 ≤ q ∧ q ≤ 3 := bI_n0.mp zc6
    obtain ⟨kq, hkq, rfl⟩ := nI_bnd (m := 3) (by decide) zp6.1 zp6.2
    have hk4_kq : kq < 4 := by omega
    have hz40 := (O.2.2.2.2.2.2.2.2 kq hk4_kq).2.2
    refine xj_iload_n (n := 3) (i := 3) 3 rfl rfl dX12_copy_9 ?_
    refine xj_iconst (v := 0) (by decide) dX12_copy_10 ?_
    refine xj_iconst (v := 3) (by decide) dX12_copy_11 ?_
    refine xj_callS ks_X12_93 (c_X12_in l (d + 1) o 0 3 _) (As := [.int o, .int 0, .int 3]) (st := []) rfl rfl (xRm_of (by omega) (by decide) (by omega) (by omega)) (Nat.le_of_ble_eq_true rfl) dX12_copy_12 (yk_p (kc := 0) (ks := 0) ?_)
    refine xj_if_ne (tgt := 21) (by decide) dX12_copy_15 (fun zc15 => ?_) (fun zc15 => ?_)
    · have zp15 : 0 ≤ o ∧ o ≤ 3 := bI_n0.mp zc15
      obtain ⟨ko, hko, rfl⟩ := nI_bnd (m := 3) (by decide) zp15.1 zp15.2
      have hk4_ko : ko < 4 := by omega
      have hy40 := (O.2.2.2.2.2.2.2.2 ko hk4_ko).2.2
      refine xj_aload_n (n := 0) (i := 0) 0 rfl rfl dX12_copy_21 ?_
      refine yj_getf (v := .ref 97) fl_X12_44_12 (by omega) (fq_86 g) rfl dX12_copy_22 ?_
      refine xj_iload_n (n := 1) (i := 1) 1 rfl rfl dX12_copy_25 ?_
      refine yj_ialdN kq (by omega) fA_97 rfl (by omega) (by decide) dX12_copy_26 ?_
      refine xj_top (C.qs hk4_kq) ?_
      refine xj_iconst (v := (-1)) (by decide) dX12_copy_27 ?_
      refine xj_icmp_eq (tgt := 41) (by decide) dX12_copy_28 (fun zc28 => ?_) (fun zc28 => ?_)
      · refine xj_bipush (v := (-11)) (by decide) dX12_copy_41 ?_
        have er : rCopy A (nI kq) i1 (nI ko) j1 n1 = ((-11), A) := by unfold rCopy; (try simp only [nI_clamp (show kq < 2147483648 by omega), nI_clamp (show ko < 2147483648 by omega)]); rw [if_pos zp6, if_pos zp15, if_pos zc28]; all_goals (rfl)
        exact xj_ireturn rfl (nr_i _) (Nat.zero_le _) (Nat.zero_le _) dX12_copy_43 (qI_e (by rw [er]; exact ⟨rfl, C, fr.rf⟩))
      · refine xj_aload_n (n := 0) (i := 0) 0 rfl rfl dX12_copy_31 ?_
        refine yj_getf (v := .ref 97) fl_X12_44_12 (by omega) (fq_86 g) rfl dX12_copy_32 ?_
        refine xj_iload_n (n := 3) (i := 3) 3 rfl rfl dX12_copy_35 ?_
        refine yj_ialdN ko (by omega) fA_97 rfl (by omega) (by decide) dX12_copy_36 ?_
        refine xj_top (C.qs hk4_ko) ?_
        refine xj_iconst (v := (-1)) (by decide) dX12_copy_37 ?_
        refine xj_icmp_ne (tgt := 44) (by decide) dX12_copy_38 (fun zc38 => ?_) (fun zc38 => ?_)
        · refine xj_aload_n (n := 0) (i := 0) 0 rfl rfl dX12_copy_44 ?_
          refine yj_getf (v := .ref 97) fl_X12_44_12 (by omega) (fq_86 g) rfl dX12_copy_45 ?_
          refine xj_iload_n (n := 1) (i := 1) 1 rfl rfl dX12_copy_48 ?_
          refine yj_ialdN kq (by omega) fA_97 rfl (by omega) (by decide) dX12_copy_49 ?_
          refine xj_top (C.qs hk4_kq) ?_
          refine xj_aload_n (n := 0) (i := 0) 0 rfl rfl dX12_copy_50 ?_
          refine yj_getf (v := .ref 97) fl_X12_44_12 (by omega) (fq_86 g) rfl dX12_copy_51 ?_
          refine xj_iload_n (n := 3) (i := 3) 3 rfl rfl dX12_copy_54 ?_
          refine yj_ialdN ko (by omega) fA_97 rfl (by omega) (by decide) dX12_copy_55 ?_
          refine xj_top (C.qs hk4_ko) ?_
          refine xj_icmp_eq (tgt := 62) (by decide) dX12_copy_56 (fun zc56 => ?_) (fun zc56 => ?_)
          · refine xj_iload (i := 5) 5 rfl dX12_copy_62 ?_
            refine xj_if_lt (tgt := 124) (by decide) dX12_copy_64 (fun zc64 => ?_) (fun zc64 => ?_)
            · have hno : ¬ (hoP (aQ A kq) i1 n1 ∧ hoP (aQ A ko) j1 n1) := fun z => le_nlt z.1.2.1 zc64
              refine xj_bipush (v := (-12)) (by decide) dX12_copy_124 ?_
              have er : rCopy A (nI kq) i1 (nI ko) j1 n1 = (-2 - 10, A) := by unfold rCopy; (try simp only [nI_clamp (show kq < 2147483648 by omega), nI_clamp (show ko < 2147483648 by omega)]); rw [if_pos zp6, if_pos zp15, if_neg zc28, if_neg zc38, if_pos zc56]; by_cases hc9 : hoP (aQ A kq) i1 n1; (rw [if_pos hc9, if_neg (fun z => hno ⟨hc9, z⟩)]; rfl); (rw [if_neg hc9]; rfl)
              exact xj_ireturn rfl (nr_i _) (Nat.zero_le _) (Nat.zero_le _) dX12_copy_126 (qI_e (by rw [er]; exact ⟨rfl, C, fr.rf⟩))
            · refine xj_iload_n (n := 2) (i := 2) 2 rfl rfl dX12_copy_67 ?_
              refine xj_if_lt (tgt := 124) (by decide) dX12_copy_68 (fun zc68 => ?_) (fun zc68 => ?_)
              · have hno : ¬ (hoP (aQ A kq) i1 n1 ∧ hoP (aQ A ko) j1 n1) := fun z => le_nlt z.1.1 zc68
                refine xj_bipush (v := (-12)) (by decide) dX12_copy_124 ?_
                have er : rCopy A (nI kq) i1 (nI ko) j1 n1 = (-2 - 10, A) := by unfold rCopy; (try simp only [nI_clamp (show kq < 2147483648 by omega), nI_clamp (show ko < 2147483648 by omega)]); rw [if_pos zp6, if_pos zp15, if_neg zc28, if_neg zc38, if_pos zc56]; by_cases hc9 : hoP (aQ A kq) i1 n1; (rw [if_pos hc9, if_neg (fun z => hno ⟨hc9, z⟩)]; rfl); (rw [if_neg hc9]; rfl)
                exact xj_ireturn rfl (nr_i _) (Nat.zero_le _) (Nat.zero_le _) dX12_copy_126 (qI_e (by rw [er]; exact ⟨rfl, C, fr.rf⟩))
              · refine xj_iload (i := 4) 4 rfl dX12_copy_71 ?_
                refine xj_if_lt (tgt := 124) (by decide) dX12_copy_73 (fun zc73 => ?_) (fun zc73 => ?_)
                · have hno : ¬ (hoP (aQ A kq) i1 n1 ∧ hoP (aQ A ko) j1 n1) := fun z => le_nlt z.2.1 zc73
                  refine xj_bipush (v := (-12)) (by decide) dX12_copy_124 ?_
                  have er : rCopy A (nI kq) i1 (nI ko) j1 n1 = (-2 - 10, A) := by unfold rCopy; (try simp only [nI_clamp (show kq < 2147483648 by omega), nI_clamp (show ko < 2147483648 by omega)]); rw [if_pos zp6, if_pos zp15, if_neg zc28, if_neg zc38, if_pos zc56]; by_cases hc9 : hoP (aQ A kq) i1 n1; (rw [if_pos hc9, if_neg (fun z => hno ⟨hc9, z⟩)]; rfl); (rw [if_neg hc9]; rfl)
                  exact xj_ireturn rfl (nr_i _) (Nat.zero_le _) (Nat.zero_le _) dX12_copy_126 (qI_e (by rw [er]; exact ⟨rfl, C, fr.rf⟩))
                · refine xj_iload_n (n := 2) (i := 2) 2 rfl rfl dX12_copy_76 ?_
                  refine xj_aload_n (n := 0) (i := 0) 0 rfl rfl dX12_copy_77 ?_
                  refine yj_getf (v := .ref 98) fl_X12_47_12 (by omega) (fq_86 g) rfl dX12_copy_78 ?_
                  refine xj_iload_n (n := 1) (i := 1) 1 rfl rfl dX12_copy_81 ?_
                  refine yj_ialdN kq (by omega) fA_98 rfl (by omega) (by decide) dX12_copy_82 ?_
                  refine xj_top (C.qz O hk4_kq) ?_
                  refine xj_icmp_gt (tgt := 124) (by decide) dX12_copy_83 (fun zc83 => ?_) (fun zc83 => ?_)
                  · have hno : ¬ (hoP (aQ A kq) i1 n1 ∧ hoP (aQ A ko) j1 n1) := fun z => le_nlt z.1.2.2.1 zc83
                    refine xj_bipush (v := (-12)) (by decide) dX12_copy_124 ?_
                    have er : rCopy A (nI kq) i1 (nI ko) j1 n1 = (-2 - 10, A) := by unfold rCopy; (try simp only [nI_clamp (show kq < 2147483648 by omega), nI_clamp (show ko < 2147483648 by omega)]); rw [if_pos zp6, if_pos zp15, if_neg zc28, if_neg zc38, if_pos zc56]; by_cases hc9 : hoP (aQ A kq) i1 n1; (rw [if_pos hc9, if_neg (fun z => hno ⟨hc9, z⟩)]; rfl); (rw [if_neg hc9]; rfl)
                    exact xj_ireturn rfl (nr_i _) (Nat.zero_le _) (Nat.zero_le _) dX12_copy_126 (qI_e (by rw [er]; exact ⟨rfl, C, fr.rf⟩))
                  · refine xj_iload (i := 4) 4 rfl dX12_copy_86 ?_
                    refine xj_aload_n (n := 0) (i := 0) 0 rfl rfl dX12_copy_88 ?_
                    refine yj_getf (v := .ref 98) fl_X12_47_12 (by omega) (fq_86 g) rfl dX12_copy_89 ?_
                    refine xj_iload_n (n := 3) (i := 3) 3 rfl rfl dX12_copy_92 ?_
                    refine yj_ialdN ko (by omega) fA_98 rfl (by omega) (by decide) dX12_copy_93 ?_
                    refine xj_top (C.qz O hk4_ko) ?_
                    refine xj_icmp_gt (tgt := 124) (by decide) dX12_copy_94 (fun zc94 => ?_) (fun zc94 => ?_)
                    · have hno : ¬ (hoP (aQ A kq) i1 n1 ∧ hoP (aQ A ko) j1 n1) := fun z => le_nlt z.2.2.2.1 zc94
                      refine xj_bipush (v := (-12)) (by decide) dX12_copy_124 ?_
                      have er : rCopy A (nI kq) i1 (nI ko) j1 n1 = (-2 - 10, A) := by unfold rCopy; (try simp only [nI_clamp (show kq < 2147483648 by omega), nI_clamp (show ko < 2147483648 by omega)]); rw [if_pos zp6, if_pos zp15, if_neg zc28, if_neg zc38, if_pos zc56]; by_cases hc9 : hoP (aQ A kq) i1 n1; (rw [if_pos hc9, if_neg (fun z => hno ⟨hc9, z⟩)]; rfl); (rw [if_neg hc9]; rfl)
                      exact xj_ireturn rfl (nr_i _) (Nat.zero_le _) (Nat.zero_le _) dX12_copy_126 (qI_e (by rw [er]; exact ⟨rfl, C, fr.rf⟩))
                    · refine xj_iload (i := 5) 5 rfl dX12_copy_97 ?_
                      refine xj_aload_n (n := 0) (i := 0) 0 rfl rfl dX12_copy_99 ?_
                      refine yj_getf (v := .ref 98) fl_X12_47_12 (by omega) (fq_86 g) rfl dX12_copy_100 ?_
                      refine xj_iload_n (n := 1) (i := 1) 1 rfl rfl dX12_copy_103 ?_
                      refine yj_ialdN kq (by omega) fA_98 rfl (by omega) (by decide) dX12_copy_104 ?_
                      refine xj_top (C.qz O hk4_kq) ?_
                      refine xj_iload_n (n := 2) (i := 2) 2 rfl rfl dX12_copy_105 ?_
                      refine xj_isub dX12_copy_106 ?_
                      refine xj_icmp_gt (tgt := 124) (by decide) dX12_copy_107 (fun zc107 => ?_) (fun zc107 => ?_)
                      · have hno : ¬ (hoP (aQ A kq) i1 n1 ∧ hoP (aQ A ko) j1 n1) := fun z => le_nlt z.1.2.2.2 zc107
                        refine xj_bipush (v := (-12)) (by decide) dX12_copy_124 ?_
                        have er : rCopy A (nI kq) i1 (nI ko) j1 n1 = (-2 - 10, A) := by unfold rCopy; (try simp only [nI_clamp (show kq < 2147483648 by omega), nI_clamp (show ko < 2147483648 by omega)]); rw [if_pos zp6, if_pos zp15, if_neg zc28, if_neg zc38, if_pos zc56]; by_cases hc9 : hoP (aQ A kq) i1 n1; (rw [if_pos hc9, if_neg (fun z => hno ⟨hc9, z⟩)]; rfl); (rw [if_neg hc9]; rfl)
                        exact xj_ireturn rfl (nr_i _) (Nat.zero_le _) (Nat.zero_le _) dX12_copy_126 (qI_e (by rw [er]; exact ⟨rfl, C, fr.rf⟩))
                      · refine xj_iload (i := 5) 5 rfl dX12_copy_110 ?_
                        refine xj_aload_n (n := 0) (i := 0) 0 rfl rfl dX12_copy_112 ?_
                        refine yj_getf (v := .ref 98) fl_X12_47_12 (by omega) (fq_86 g) rfl dX12_copy_113 ?_
                        refine xj_iload_n (n := 3) (i := 3) 3 rfl rfl dX12_copy_116 ?_
                        refine yj_ialdN ko (by omega) fA_98 rfl (by omega) (by decide) dX12_copy_117 ?_
                        refine xj_top (C.qz O hk4_ko) ?_
                        refine xj_iload (i := 4) 4 rfl dX12_copy_118 ?_
                        refine xj_isub dX12_copy_120 ?_
                        refine xj_icmp_le (tgt := 127) (by decide) dX12_copy_121 (fun zc121 => ?_) (fun zc121 => ?_)
                        · have H1 : hoP (aQ A kq) i1 n1 := ⟨nlt_le zc68, nlt_le zc64, nlt_le zc83, nlt_le zc107⟩
                          have H2 : hoP (aQ A ko) j1 n1 := ⟨nlt_le zc73, nlt_le zc64, nlt_le zc94, zc121⟩
                          obtain ⟨ki, kn, rfl, rfl, hle1⟩ := ho_n hz40 H1
                          obtain ⟨kj, kn2, rfl, en2, hle2⟩ := ho_n hy40 H2
                          have en3 : kn = kn2 := (nI_eq (by omega) (by omega)).mp en2
                          subst en3
                          refine xj_bipush (v := 40) (by decide) dX12_copy_127 ?_
                          refine xj_iload_n (n := 1) (i := 1) 1 rfl rfl dX12_copy_129 ?_
                          refine xj_imul dX12_copy_130 ?_
                          refine xj_top (pk_mul 40 kq) ?_
                          refine xj_iload_n (n := 2) (i := 2) 2 rfl rfl dX12_copy_131 ?_
                          refine xj_iadd dX12_copy_132 ?_
                          refine xj_top (nI_add _ _) ?_
                          refine xj_istore (i := 6) (lv1 := [(6, .int (nI ((40 * kq) + ki))), (0, .ref 86), (1, .int (nI kq)), (2, .int (nI ki)), (3, .int (nI ko)), (4, .int (nI kj)), (5, .int (nI kn))]) rfl (Nat.le_of_ble_eq_true rfl) dX12_copy_133 ?_
                          refine xj_bipush (v := 40) (by decide) dX12_copy_135 ?_
                          refine xj_iload_n (n := 3) (i := 3) 4 rfl rfl dX12_copy_137 ?_
                          refine xj_imul dX12_copy_138 ?_
                          refine xj_top (pk_mul 40 ko) ?_
                          refine xj_iload (i := 4) 5 rfl dX12_copy_139 ?_
                          refine xj_iadd dX12_copy_141 ?_
                          refine xj_top (nI_add _ _) ?_
                          refine xj_istore (i := 7) (lv1 := [(7, .int (nI ((40 * ko) + kj))), (6, .int (nI ((40 * kq) + ki))), (0, .ref 86), (1, .int (nI kq)), (2, .int (nI ki)), (3, .int (nI ko)), (4, .int (nI kj)), (5, .int (nI kn))]) rfl (Nat.le_of_ble_eq_true rfl) dX12_copy_142 ?_
                          refine xj_iconst (v := 0) (by decide) dX12_copy_144 ?_
                          refine xj_istore (i := 8) (lv1 := [(8, .int 0), (7, .int (nI ((40 * ko) + kj))), (6, .int (nI ((40 * kq) + ki))), (0, .ref 86), (1, .int (nI kq)), (2, .int (nI ki)), (3, .int (nI ko)), (4, .int (nI kj)), (5, .int (nI kn))]) rfl (Nat.le_of_ble_eq_true rfl) dX12_copy_145 ?_
                          by_cases hab : 40 * kq + ki < 40 * ko + kj
                          · skip
                            have key : ∀ i, i ≤ kn → ∀ (g1 : xG), fr (fun x => x = 99) g g1 → (∀ p, p < 160 → g1 99 p = cpD (g 99) (40 * kq + ki) (40 * ko + kj) kn i p) → xJ l (RX12, 10, (some .int), false, (xR (d + 2) 0 0), none) cX12_copy (qI n fun v g1 => v = (rCopy A (nI kq) (nI ki) (nI ko) (nI kj) (nI kn)).1 ∧ mA g1 (rCopy A (nI kq) (nI ki) (nI ko) (nI kj) (nI kn)).2 Λ ∧ fr mX g g1) 0 0 147 [(8, .int (nI i)), (6, .int (nI ((40 * kq) + ki))), (7, .int (nI ((40 * ko) + kj))), (0, .ref 86), (1, .int (nI kq)), (2, .int (nI ki)), (3, .int (nI ko)), (4, .int (nI kj)), (5, .int (nI kn))] [] (n, fh g1) := by
                              refine x_loop kn _ ?_ ?_
                              · intro g1 hf hw
                                have hf9 : fr mX g g1 := hf.mono (fun j hj => by subst hj; exact mX_i (by omega))
                                refine xj_iload (i := 8) 0 rfl dX12_copy_147 ?_
                                refine xj_iload (i := 5) 8 rfl dX12_copy_149 ?_
                                refine xj_icmp_ge (tgt := 201) (by decide) dX12_copy_151 (fun zc151 => ?_) (fun zc151 => ?_)
                                · refine xj_iload (i := 5) 8 rfl dX12_copy_201 ?_
                                  have er : rCopy A (nI kq) (nI ki) (nI ko) (nI kj) (nI kn) = ((nI kn), stQ A ko (A 5 ko) (A 6 ko) (va_cpy (A (40 + kq)) (A (40 + ko)) ki kj kn)) := by unfold rCopy; (try simp only [nI_clamp (show kq < 2147483648 by omega), nI_clamp (show ko < 2147483648 by omega), nI_clamp (show ki < 2147483648 by omega), nI_clamp (show kn < 2147483648 by omega), nI_clamp (show kj < 2147483648 by omega)]); rw [if_pos zp6, if_pos zp15, if_neg zc28, if_neg zc38, if_pos zc56, if_pos H1, if_pos H2]; all_goals (rfl)
                                  exact xj_ireturn rfl (nr_i _) (Nat.zero_le _) (Nat.zero_le _) dX12_copy_203 (qI_e (by rw [er]; exact ⟨rfl, (C.cpy O hk4_kq hk4_ko (by omega) (by omega) hf (fun p hp => by rw [hw p hp]; exact cpD_end _ _ _ _ p)), hf9⟩))
                                · exact absurd (nI_le (Nat.le_refl _) (by omega)) zc151
                              · intro i hi ih g1 hf hw
                                refine xj_iload (i := 8) 0 rfl dX12_copy_147 ?_
                                refine xj_iload (i := 5) 8 rfl dX12_copy_149 ?_
                                refine xj_icmp_ge (tgt := 201) (by decide) dX12_copy_151 (fun zc151 => ?_) (fun zc151 => ?_)
                                · exact absurd zc151 (nI_ge hi (by omega))
                                · refine xj_iload (i := 6) 1 rfl dX12_copy_154 ?_
                                  refine xj_iload (i := 7) 2 rfl dX12_copy_156 ?_
                                  refine xj_icmp_ge (tgt := 171) (by decide) dX12_copy_158 (fun zc158 => ?_) (fun zc158 => ?_)
                                  · exact absurd zc158 (nI_nge9 hab (by omega))
                                  · refine xj_iload (i := 5) 8 rfl dX12_copy_161 ?_
                                    refine xj_iconst (v := 1) (by decide) dX12_copy_163 ?_
                                    refine xj_isub dX12_copy_164 ?_
                                    refine xj_top (pk_sub (a := kn) (b := 1) (by omega)) ?_
                                    refine xj_iload (i := 8) 0 rfl dX12_copy_165 ?_
                                    refine xj_isub dX12_copy_167 ?_
                                    refine xj_top (pk_sub (a := kn - 1) (b := i) (by omega)) ?_
                                    refine xj_goto (tgt := 173) (by decide) dX12_copy_168 ?_
                                    refine xj_istore (i := 9) (lv1 := [(9, .int (nI (kn - 1 - i))), (8, .int (nI i)), (6, .int (nI ((40 * kq) + ki))), (7, .int (nI ((40 * ko) + kj))), (0, .ref 86), (1, .int (nI kq)), (2, .int (nI ki)), (3, .int (nI ko)), (4, .int (nI kj)), (5, .int (nI kn))]) rfl (Nat.le_of_ble_eq_true rfl) dX12_copy_173 ?_
                                    refine xj_aload_n (n := 0) (i := 0) 4 rfl rfl dX12_copy_175 ?_
                                    refine yj_getf (v := .ref 99) fl_X12_50_12 (by omega) (fq_86 g1) rfl dX12_copy_176 ?_
                                    refine xj_iload (i := 7) 3 rfl dX12_copy_179 ?_
                                    refine xj_iload (i := 9) 0 rfl dX12_copy_181 ?_
                                    refine xj_iadd dX12_copy_183 ?_
                                    refine xj_top (nI_add _ _) ?_
                                    refine xj_aload_n (n := 0) (i := 0) 4 rfl rfl dX12_copy_184 ?_
                                    refine yj_getf (v := .ref 99) fl_X12_50_12 (by omega) (fq_86 g1) rfl dX12_copy_185 ?_
                                    refine xj_iload (i := 6) 2 rfl dX12_copy_188 ?_
                                    refine xj_iload (i := 9) 0 rfl dX12_copy_190 ?_
                                    refine xj_iadd dX12_copy_192 ?_
                                    refine xj_top (nI_add _ _) ?_
                                    refine yj_ialdN (((40 * kq) + ki) + (kn - 1 - i)) (by omega) fA_99 rfl (by omega) (by decide) dX12_copy_193 ?_
                                    refine xj_topi (fun zv1 ezv1 => ?_)
                                    refine yj_iastN (((40 * ko) + kj) + (kn - 1 - i)) (by omega) fA_99 rfl (by omega) (by decide) dX12_copy_194 ?_
                                    obtain ⟨zg2, ezg2⟩ : ∃ z, z = gs g1 99 (((40 * ko) + kj) + (kn - 1 - i)) zv1 := ⟨_, rfl⟩
                                    rw [← ezg2]
                                    refine xj_iinc (n := 1) (i := 8) (v := nI (i + 1)) (lv1 := [(8, .int (nI (i + 1))), (9, .int (nI (kn - 1 - i))), (6, .int (nI ((40 * kq) + ki))), (7, .int (nI ((40 * ko) + kj))), (0, .ref 86), (1, .int (nI kq)), (2, .int (nI ki)), (3, .int (nI ko)), (4, .int (nI kj)), (5, .int (nI kn))]) 1 rfl (nI_1 i) rfl (Nat.le_of_ble_eq_true rfl) dX12_copy_195 ?_
                                    refine xj_goto (tgt := 147) (by decide) dX12_copy_198 ?_
                                    refine xj_sub (lv' := [(8, .int (nI (i + 1))), (6, .int (nI ((40 * kq) + ki))), (7, .int (nI ((40 * ko) + kj))), (0, .ref 86), (1, .int (nI kq)), (2, .int (nI ki)), (3, .int (nI ko)), (4, .int (nI kj)), (5, .int (nI kn))]) [0, 2, 3, 4, 5, 6, 7, 8, 9] rfl ?_
                                    refine ih zg2 (by rw [ezg2]; exact hf.gs rfl _ _) (fun p hp => ?_)
                                    rw [ezg2, gs_s, ezv1]; exact cpD_step (g 99) hab hi hw (by omega) p hp
                            refine xj_sub (lv' := [(8, .int 0), (6, .int (nI ((40 * kq) + ki))), (7, .int (nI ((40 * ko) + kj))), (0, .ref 86), (1, .int (nI kq)), (2, .int (nI ki)), (3, .int (nI ko)), (4, .int (nI kj)), (5, .int (nI kn))]) [0, 2, 1, 3, 4, 5, 6, 7, 8] rfl ?_
                            exact key 0 (Nat.zero_le _) g fr.rf (fun p hp => by unfold cpD; exact (if_neg (by omega)).symm)
                          · skip
                            have key : ∀ i, i ≤ kn → ∀ (g1 : xG), fr (fun x => x = 99) g g1 → (∀ p, p < 160 → g1 99 p = cpA (g 99) (40 * kq + ki) (40 * ko + kj) i p) → xJ l (RX12, 10, (some .int), false, (xR (d + 2) 0 0), none) cX12_copy (qI n fun v g1 => v = (rCopy A (nI kq) (nI ki) (nI ko) (nI kj) (nI kn)).1 ∧ mA g1 (rCopy A (nI kq) (nI ki) (nI ko) (nI kj) (nI kn)).2 Λ ∧ fr mX g g1) 0 0 147 [(8, .int (nI i)), (6, .int (nI ((40 * kq) + ki))), (7, .int (nI ((40 * ko) + kj))), (0, .ref 86), (1, .int (nI kq)), (2, .int (nI ki)), (3, .int (nI ko)), (4, .int (nI kj)), (5, .int (nI kn))] [] (n, fh g1) := by
                              refine x_loop kn _ ?_ ?_
                              · intro g1 hf hw
                                have hf9 : fr mX g g1 := hf.mono (fun j hj => by subst hj; exact mX_i (by omega))
                                refine xj_iload (i := 8) 0 rfl dX12_copy_147 ?_
                                refine xj_iload (i := 5) 8 rfl dX12_copy_149 ?_
                                refine xj_icmp_ge (tgt := 201) (by decide) dX12_copy_151 (fun zc151 => ?_) (fun zc151 => ?_)
                                · refine xj_iload (i := 5) 8 rfl dX12_copy_201 ?_
                                  have er : rCopy A (nI kq) (nI ki) (nI ko) (nI kj) (nI kn) = ((nI kn), stQ A ko (A 5 ko) (A 6 ko) (va_cpy (A (40 + kq)) (A (40 + ko)) ki kj kn)) := by unfold rCopy; (try simp only [nI_clamp (show kq < 2147483648 by omega), nI_clamp (show ko < 2147483648 by omega), nI_clamp (show ki < 2147483648 by omega), nI_clamp (show kn < 2147483648 by omega), nI_clamp (show kj < 2147483648 by omega)]); rw [if_pos zp6, if_pos zp15, if_neg zc28, if_neg zc38, if_pos zc56, if_pos H1, if_pos H2]; all_goals (rfl)
                                  exact xj_ireturn rfl (nr_i _) (Nat.zero_le _) (Nat.zero_le _) dX12_copy_203 (qI_e (by rw [er]; exact ⟨rfl, (C.cpy O hk4_kq hk4_ko (by omega) (by omega) hf (fun p hp => by rw [hw p hp])), hf9⟩))
                                · exact absurd (nI_le (Nat.le_refl _) (by omega)) zc151
                              · intro i hi ih g1 hf hw
                                refine xj_iload (i := 8) 0 rfl dX12_copy_147 ?_
                                refine xj_iload (i := 5) 8 rfl dX12_copy_149 ?_
                                refine xj_icmp_ge (tgt := 201) (by decide) dX12_copy_151 (fun zc151 => ?_) (fun zc151 => ?_)
                                · exact absurd zc151 (nI_ge hi (by omega))
                                · refine xj_iload (i := 6) 1 rfl dX12_copy_154 ?_
                                  refine xj_iload (i := 7) 2 rfl dX12_copy_156 ?_
                                  refine xj_icmp_ge (tgt := 171) (by decide) dX12_copy_158 (fun zc158 => ?_) (fun zc158 => ?_)
                                  · refine xj_iload (i := 8) 0 rfl dX12_copy_171 ?_
                                    refine xj_istore (i := 9) (lv1 := [(9, .int (nI i)), (8, .int (nI i)), (6, .int (nI ((40 * kq) + ki))), (7, .int (nI ((40 * ko) + kj))), (0, .ref 86), (1, .int (nI kq)), (2, .int (nI ki)), (3, .int (nI ko)), (4, .int (nI kj)), (5, .int (nI kn))]) rfl (Nat.le_of_ble_eq_true rfl) dX12_copy_173 ?_
                                    refine xj_aload_n (n := 0) (i := 0) 4 rfl rfl dX12_copy_175 ?_
                                    refine yj_getf (v := .ref 99) fl_X12_50_12 (by omega) (fq_86 g1) rfl dX12_copy_176 ?_
                                    refine xj_iload (i := 7) 3 rfl dX12_copy_179 ?_
                                    refine xj_iload (i := 9) 0 rfl dX12_copy_181 ?_
                                    refine xj_iadd dX12_copy_183 ?_
                                    refine xj_top (nI_add _ _) ?_
                                    refine xj_aload_n (n := 0) (i := 0) 4 rfl rfl dX12_copy_184 ?_
                                    refine yj_getf (v := .ref 99) fl_X12_50_12 (by omega) (fq_86 g1) rfl dX12_copy_185 ?_
                                    refine xj_iload (i := 6) 2 rfl dX12_copy_188 ?_
                                    refine xj_iload (i := 9) 0 rfl dX12_copy_190 ?_
                                    refine xj_iadd dX12_copy_192 ?_
                                    refine xj_top (nI_add _ _) ?_
                                    refine yj_ialdN (((40 * kq) + ki) + i) (by omega) fA_99 rfl (by omega) (by decide) dX12_copy_193 ?_
                                    refine xj_topi (fun zv3 ezv3 => ?_)
                                    refine yj_iastN (((40 * ko) + kj) + i) (by omega) fA_99 rfl (by omega) (by decide) dX12_copy_194 ?_
                                    obtain ⟨zg4, ezg4⟩ : ∃ z, z = gs g1 99 (((40 * ko) + kj) + i) zv3 := ⟨_, rfl⟩
                                    rw [← ezg4]
                                    refine xj_iinc (n := 1) (i := 8) (v := nI (i + 1)) (lv1 := [(8, .int (nI (i + 1))), (9, .int (nI i)), (6, .int (nI ((40 * kq) + ki))), (7, .int (nI ((40 * ko) + kj))), (0, .ref 86), (1, .int (nI kq)), (2, .int (nI ki)), (3, .int (nI ko)), (4, .int (nI kj)), (5, .int (nI kn))]) 1 rfl (nI_1 i) rfl (Nat.le_of_ble_eq_true rfl) dX12_copy_195 ?_
                                    refine xj_goto (tgt := 147) (by decide) dX12_copy_198 ?_
                                    refine xj_sub (lv' := [(8, .int (nI (i + 1))), (6, .int (nI ((40 * kq) + ki))), (7, .int (nI ((40 * ko) + kj))), (0, .ref 86), (1, .int (nI kq)), (2, .int (nI ki)), (3, .int (nI ko)), (4, .int (nI kj)), (5, .int (nI kn))]) [0, 2, 3, 4, 5, 6, 7, 8, 9] rfl ?_
                                    refine ih zg4 (by rw [ezg4]; exact hf.gs rfl _ _) (fun p hp => ?_)
                                    rw [ezg4, gs_s, ezv3]; exact cpA_step (g 99) (by omega) hw (by omega) p hp
                                  · exact absurd (nI_le (by omega) (by omega)) zc158
                            refine xj_sub (lv' := [(8, .int 0), (6, .int (nI ((40 * kq) + ki))), (7, .int (nI ((40 * ko) + kj))), (0, .ref 86), (1, .int (nI kq)), (2, .int (nI ki)), (3, .int (nI ko)), (4, .int (nI kj)), (5, .int (nI kn))]) [0, 2, 1, 3, 4, 5, 6, 7, 8] rfl ?_
                            exact key 0 (Nat.zero_le _) g fr.rf (fun p hp => by unfold cpA; exact (if_neg (by omega)).symm)
                        · have hno : ¬ (hoP (aQ A kq) i1 n1 ∧ hoP (aQ A ko) j1 n1) := fun z => zc121 z.2.2.2.2
                          refine xj_bipush (v := (-12)) (by decide) dX12_copy_124 ?_
                          have er : rCopy A (nI kq) i1 (nI ko) j1 n1 = (-2 - 10, A) := by unfold rCopy; (try simp only [nI_clamp (show kq < 2147483648 by omega), nI_clamp (show ko < 2147483648 by omega)]); rw [if_pos zp6, if_pos zp15, if_neg zc28, if_neg zc38, if_pos zc56]; by_cases hc9 : hoP (aQ A kq) i1 n1; (rw [if_pos hc9, if_neg (fun z => hno ⟨hc9, z⟩)]; rfl); (rw [if_neg hc9]; rfl)
                          exact xj_ireturn rfl (nr_i _) (Nat.zero_le _) (Nat.zero_le _) dX12_copy_126 (qI_e (by rw [er]; exact ⟨rfl, C, fr.rf⟩))
          · refine xj_bipush (v := (-13)) (by decide) dX12_copy_59 ?_
            have er : rCopy A (nI kq) i1 (nI ko) j1 n1 = ((-13), A) := by unfold rCopy; (try simp only [nI_clamp (show kq < 2147483648 by omega), nI_clamp (show ko < 2147483648 by omega)]); rw [if_pos zp6, if_pos zp15, if_neg zc28, if_neg zc38, if_neg zc56]; all_goals (rfl)
            exact xj_ireturn rfl (nr_i _) (Nat.zero_le _) (Nat.zero_le _) dX12_copy_61 (qI_e (by rw [er]; exact ⟨rfl, C, fr.rf⟩))
        · refine xj_bipush (v := (-11)) (by decide) dX12_copy_41 ?_
          have er : rCopy A (nI kq) i1 (nI ko) j1 n1 = ((-11), A) := by unfold rCopy; (try simp only [nI_clamp (show kq < 2147483648 by omega), nI_clamp (show ko < 2147483648 by omega)]); rw [if_pos zp6, if_pos zp15, if_neg zc28, if_pos zc38]; all_goals (rfl)
          exact xj_ireturn rfl (nr_i _) (Nat.zero_le _) (Nat.zero_le _) dX12_copy_43 (qI_e (by rw [er]; exact ⟨rfl, C, fr.rf⟩))
    · have zp15 : ¬ (0 ≤ o ∧ o ≤ 3) := bI_0.mp zc15
      refine xj_bipush (v := (-2)) (by decide) dX12_copy_18 ?_
      have er : rCopy A (nI kq) i1 o j1 n1 = ((-2), A) := by unfold rCopy; (try simp only [nI_clamp (show kq < 2147483648 by omega)]); rw [if_pos zp6, if_neg zp15]; all_goals (rfl)
      exact xj_ireturn rfl (nr_i _) (Nat.zero_le _) (Nat.zero_le _) dX12_copy_20 (qI_e (by rw [er]; exact ⟨rfl, C, fr.rf⟩))
set_option maxHeartbeats 4000000 in
set_option maxRecDepth 100000 in
theorem c_X12_sleepersBy (l : Launch) (d : Nat) (n : Nat) (hn : 110 ≤ n) (g : xG) (A : zSt) (Λ : Nat → xL) (O : okA A) (C : mA g A Λ) (q sort fr1 n1 : Int32)  : xC l yX12_sleepersBy cX12_sleepersBy 9 (some .int) (xR (d + 3) 0 0) [.ref 86, .int q, .int sort, .int fr1, .int n1] (n, fh g) (qI n fun v g1 => v = (rSlBy A q sort fr1 n1).1 ∧ mA g1 (rSlBy A q sort fr1 n1).2 Λ ∧ fr mX g g1) := by
  refine xC_of false (by decide +kernel) (fun z => by cases z) (Nat.le_of_ble_eq_true rfl) ?_
  have hS6 := O.1.2
  have hW := O.W
  have hT6 := O.2.2.2.1.2.2
  have hN9 := O.2.1.2
  show xJ l (RX12, 9, (some .int), false, (xR (d + 3) 0 0), none) cX12_sleepersBy _ 0 0 0 [(0, .ref 86), (1, .int q), (2, .int sort), (3, .int fr1), (4, .int n1)] [] (n, fh g)
  refine xj_iload_n (n := 1) (i := 1) 1 rfl rfl dX12_sleepersBy_0 ?_
  refine xj_iconst (v := 0) (by decide) dX12_sleepersBy_1 ?_
  refine xj_iconst (v := 3) (by decide) dX12_sleepersBy_2 ?_
  refine xj_callS ks_X12_93 (c_X12_in l (d + 2) q 0 3 _) (As := [.int q, .int 0, .int 3]) (st := []) rfl rfl (xRm_of (by omega) (by decide) (by omega) (by omega)) (Nat.le_of_ble_eq_true rfl) dX12_sleepersBy_3 (yk_p (kc := 0) (ks := 0) ?_)
  refine xj_if_eq (tgt := 29) (by decide) dX12_sleepersBy_6 (fun zc6 => ?_) (fun zc6 => ?_)
  · have zp6 : ¬ (0 ≤ q ∧ q ≤ 3) := bI_0.mp zc6
    refine xj_bipush (v := (-2)) (by decide) dX12_sleepersBy_29 ?_
    have er : rSlBy A q sort fr1 n1 = ((-2), A) := by unfold rSlBy; rw [if_neg zp6]; all_goals (rfl)
    exact xj_ireturn rfl (nr_i _) (Nat.zero_le _) (Nat.zero_le _) dX12_sleepersBy_31 (qI_e (by rw [er]; exact ⟨rfl, C, fr.rf⟩))
  · have zp6 : 0 ≤ q ∧ q ≤ 3 := bI_n0.mp zc6
    obtain ⟨kq, hkq, rfl⟩ := nI_bnd (m := 3) (by decide) zp6.1 zp6.2
    have hk4_kq : kq < 4 := by omega
    refine xj_iload_n (n := 2) (i := 2) 2 rfl rfl dX12_sleepersBy_9 ?_
    refine xj_iconst (v := 0) (by decide) dX12_sleepersBy_10 ?_
    refine xj_iconst (v := 2) (by decide) dX12_sleepersBy_11 ?_
    refine xj_callS ks_X12_93 (c_X12_in l (d + 2) sort 0 2 _) (As := [.int sort, .int 0, .int 2]) (st := []) rfl rfl (xRm_of (by omega) (by decide) (by omega) (by omega)) (Nat.le_of_ble_eq_true rfl) dX12_sleepersBy_12 (yk_p (kc := 0) (ks := 0) ?_)
    refine xj_if_eq (tgt := 29) (by decide) dX12_sleepersBy_15 (fun zc15 => ?_) (fun zc15 => ?_)
    · have zp15 : ¬ (0 ≤ sort ∧ sort ≤ 2) := bI_0.mp zc15
      refine xj_bipush (v := (-2)) (by decide) dX12_sleepersBy_29 ?_
      have er : rSlBy A (nI kq) sort fr1 n1 = ((-2), A) := by unfold rSlBy; (try simp only [nI_clamp (show kq < 2147483648 by omega)]); rw [if_pos zp6, if_neg zp15]; all_goals (rfl)
      exact xj_ireturn rfl (nr_i _) (Nat.zero_le _) (Nat.zero_le _) dX12_sleepersBy_31 (qI_e (by rw [er]; exact ⟨rfl, C, fr.rf⟩))
    · have zp15 : 0 ≤ sort ∧ sort ≤ 2 := bI_n0.mp zc15
      refine xj_iload (i := 4) 4 rfl dX12_sleepersBy_18 ?_
      refine xj_iconst (v := 0) (by decide) dX12_sleepersBy_20 ?_
      refine xj_bipush (v := 6) (by decide) dX12_sleepersBy_21 ?_
      refine xj_callS ks_X12_93 (c_X12_in l (d + 2) n1 0 6 _) (As := [.int n1, .int 0, .int 6]) (st := []) rfl rfl (xRm_of (by omega) (by decide) (by omega) (by omega)) (Nat.le_of_ble_eq_true rfl) dX12_sleepersBy_23 (yk_p (kc := 0) (ks := 0) ?_)
      refine xj_if_ne (tgt := 32) (by decide) dX12_sleepersBy_26 (fun zc26 => ?_) (fun zc26 => ?_)
      · have zp26 : 0 ≤ n1 ∧ n1 ≤ 6 := bI_n0.mp zc26
        obtain ⟨kn1, hkn1, rfl⟩ := nI_bnd (m := 6) (by decide) zp26.1 zp26.2
        refine xj_aload_n (n := 0) (i := 0) 0 rfl rfl dX12_sleepersBy_32 ?_
        refine yj_getf (v := .ref 97) fl_X12_44_12 (by omega) (fq_86 g) rfl dX12_sleepersBy_33 ?_
        refine xj_iload_n (n := 1) (i := 1) 1 rfl rfl dX12_sleepersBy_36 ?_
        refine yj_ialdN kq (by omega) fA_97 rfl (by omega) (by decide) dX12_sleepersBy_37 ?_
        refine xj_top (C.qs hk4_kq) ?_
        refine xj_iconst (v := (-1)) (by decide) dX12_sleepersBy_38 ?_
        refine xj_icmp_ne (tgt := 45) (by decide) dX12_sleepersBy_39 (fun zc39 => ?_) (fun zc39 => ?_)
        · refine xj_aload_n (n := 0) (i := 0) 0 rfl rfl dX12_sleepersBy_45 ?_
          refine yj_getf (v := .ref 97) fl_X12_44_12 (by omega) (fq_86 g) rfl dX12_sleepersBy_46 ?_
          refine xj_iload_n (n := 1) (i := 1) 1 rfl rfl dX12_sleepersBy_49 ?_
          refine yj_ialdN kq (by omega) fA_97 rfl (by omega) (by decide) dX12_sleepersBy_50 ?_
          refine xj_top (C.qs hk4_kq) ?_
          refine xj_iload_n (n := 2) (i := 2) 2 rfl rfl dX12_sleepersBy_51 ?_
          refine xj_icmp_eq (tgt := 58) (by decide) dX12_sleepersBy_52 (fun zc52 => ?_) (fun zc52 => ?_)
          · refine xj_iconst (v := 0) (by decide) dX12_sleepersBy_58 ?_
            refine xj_istore (i := 5) (lv1 := [(5, .int 0), (0, .ref 86), (1, .int (nI kq)), (2, .int sort), (3, .int fr1), (4, .int (nI kn1))]) rfl (Nat.le_of_ble_eq_true rfl) dX12_sleepersBy_59 ?_
            refine xj_iconst (v := 0) (by decide) dX12_sleepersBy_61 ?_
            refine xj_istore (i := 6) (lv1 := [(6, .int 0), (5, .int 0), (0, .ref 86), (1, .int (nI kq)), (2, .int sort), (3, .int fr1), (4, .int (nI kn1))]) rfl (Nat.le_of_ble_eq_true rfl) dX12_sleepersBy_62 ?_
            have htot : rSlBy A (nI kq) sort fr1 (nI kn1) = sbyF kq (A (40 + kq)) (aQ A kq) fr1 kn1 0 0 A := by unfold rSlBy; (try simp only [nI_clamp (show kq < 2147483648 by omega), nI_clamp (show kn1 < 2147483648 by omega)]); rw [if_pos zp6, if_pos zp15, if_pos zp26, if_neg zc39, if_pos zc52]; all_goals (rfl)
            have hzq := (O.2.2.2.2.2.2.2.2 kq hk4_kq).2.2
            have key : ∀ i, i ≤ kn1 → ∀ (g1 : xG) (zvm : Int32) (A1 : zSt), mA g1 A1 Λ → okA A1 → (∀ j, 4 ≤ j ∧ j < 10 ∨ 16 ≤ j → A1 j = A j) → fr mX g g1 → (0 < i → ∃ f, f ≤ 40 ∧ fr1 = nI f) → sbyF kq (A (40 + kq)) (aQ A kq) fr1 (kn1 - i) i zvm A1 = sbyF kq (A (40 + kq)) (aQ A kq) fr1 kn1 0 0 A → xJ l (RX12, 9, (some .int), false, (xR (d + 3) 0 0), none) cX12_sleepersBy (qI n fun v g1 => v = (rSlBy A (nI kq) sort fr1 (nI kn1)).1 ∧ mA g1 (rSlBy A (nI kq) sort fr1 (nI kn1)).2 Λ ∧ fr mX g g1) 0 0 64 [(6, .int (nI i)), (5, .int zvm), (0, .ref 86), (1, .int (nI kq)), (2, .int sort), (3, .int fr1), (4, .int (nI kn1))] [] (n, fh g1) := by
              refine x_loop kn1 _ ?_ ?_
              · intro g1 zvm A1 C1 O1 hk hf hfr hz
                refine xj_iload (i := 6) 0 rfl dX12_sleepersBy_64 ?_
                refine xj_iload (i := 4) 6 rfl dX12_sleepersBy_66 ?_
                refine xj_icmp_ge (tgt := 162) (by decide) dX12_sleepersBy_68 (fun zc68 => ?_) (fun zc68 => ?_)
                · refine xj_iload (i := 5) 1 rfl dX12_sleepersBy_162 ?_
                  have er : rSlBy A (nI kq) sort fr1 (nI kn1) = (zvm, A1) := by rw [htot, ← hz, Nat.sub_self]; rfl
                  exact xj_ireturn rfl (nr_i _) (Nat.zero_le _) (Nat.zero_le _) dX12_sleepersBy_164 (qI_e (by rw [er]; exact ⟨rfl, C1, hf⟩))
                · exact absurd (nI_le (Nat.le_refl _) (by omega)) zc68
              · intro i hi ih g1 zvm A1 C1 O1 hk hf hfr hz
                have U := sby_useM hk4_kq C1 O1 hk
                have hstep : sbyF kq (A (40 + kq)) (aQ A kq) fr1 (kn1 - i) i zvm A1 = if hoP (aQ A kq) (fr1 + nI (3 * i)) 3 then sbyF kq (A (40 + kq)) (aQ A kq) fr1 (kn1 - (i + 1)) (i + 1) (if (rSleeper A1 (A (40 + kq) (fr1 + nI (3 * i)).toNatClampNeg) (A (40 + kq) ((fr1 + nI (3 * i)).toNatClampNeg + 1)) (A (40 + kq) ((fr1 + nI (3 * i)).toNatClampNeg + 2))).1 < 0 then zvm else zvm + 1) (rSleeper A1 (A (40 + kq) (fr1 + nI (3 * i)).toNatClampNeg) (A (40 + kq) ((fr1 + nI (3 * i)).toNatClampNeg + 1)) (A (40 + kq) ((fr1 + nI (3 * i)).toNatClampNeg + 2))).2 else (-12, A1) := by rw [show kn1 - i = kn1 - (i + 1) + 1 by omega, ← pk_mul 3 i]; rfl
                have hcc := sbC_iff (fr := fr1) hzq (by omega : i < 6) hfr
                refine xj_iload (i := 6) 0 rfl dX12_sleepersBy_64 ?_
                refine xj_iload (i := 4) 6 rfl dX12_sleepersBy_66 ?_
                refine xj_icmp_ge (tgt := 162) (by decide) dX12_sleepersBy_68 (fun zc68 => ?_) (fun zc68 => ?_)
                · exact absurd zc68 (nI_ge hi (by omega))
                · refine xj_iload_n (n := 3) (i := 3) 5 rfl rfl dX12_sleepersBy_71 ?_
                  refine xj_iconst (v := 3) (by decide) dX12_sleepersBy_72 ?_
                  refine xj_iload (i := 6) 0 rfl dX12_sleepersBy_73 ?_
                  refine xj_imul dX12_sleepersBy_75 ?_
                  refine xj_top (pk_mul 3 i) ?_
                  refine xj_iadd dX12_sleepersBy_76 ?_
                  refine xj_topi (fun zv1 ezv1 => ?_)
                  refine xj_istore (i := 7) (lv1 := [(7, .int zv1), (6, .int (nI i)), (5, .int zvm), (0, .ref 86), (1, .int (nI kq)), (2, .int sort), (3, .int fr1), (4, .int (nI kn1))]) rfl (Nat.le_of_ble_eq_true rfl) dX12_sleepersBy_77 ?_
                  refine xj_iload_n (n := 3) (i := 3) 6 rfl rfl dX12_sleepersBy_79 ?_
                  refine xj_if_lt (tgt := 102) (by decide) dX12_sleepersBy_80 (fun zc80 => ?_) (fun zc80 => ?_)
                  · have hp : ¬ hoP (aQ A kq) (fr1 + nI (3 * i)) 3 := fun z => (hcc.mpr z).1 zc80
                    refine xj_bipush (v := (-12)) (by decide) dX12_sleepersBy_102 ?_
                    have er : rSlBy A (nI kq) sort fr1 (nI kn1) = (-12, A1) := by rw [htot, ← hz, hstep, if_neg hp]
                    exact xj_ireturn rfl (nr_i _) (Nat.zero_le _) (Nat.zero_le _) dX12_sleepersBy_104 (qI_e (by rw [er]; exact ⟨rfl, C1, hf⟩))
                  · refine xj_iload (i := 7) 0 rfl dX12_sleepersBy_83 ?_
                    refine xj_iload_n (n := 3) (i := 3) 6 rfl rfl dX12_sleepersBy_85 ?_
                    refine xj_icmp_lt (tgt := 102) (by decide) dX12_sleepersBy_86 (fun zc86 => ?_) (fun zc86 => ?_)
                    · have hp : ¬ hoP (aQ A kq) (fr1 + nI (3 * i)) 3 := fun z => (hcc.mpr z).2.1 (by rw [← ezv1]; exact zc86)
                      refine xj_bipush (v := (-12)) (by decide) dX12_sleepersBy_102 ?_
                      have er : rSlBy A (nI kq) sort fr1 (nI kn1) = (-12, A1) := by rw [htot, ← hz, hstep, if_neg hp]
                      exact xj_ireturn rfl (nr_i _) (Nat.zero_le _) (Nat.zero_le _) dX12_sleepersBy_104 (qI_e (by rw [er]; exact ⟨rfl, C1, hf⟩))
                    · refine xj_iload (i := 7) 0 rfl dX12_sleepersBy_89 ?_
                      refine xj_aload_n (n := 0) (i := 0) 3 rfl rfl dX12_sleepersBy_91 ?_
                      refine yj_getf (v := .ref 98) fl_X12_47_12 (by omega) (fq_86 g1) rfl dX12_sleepersBy_92 ?_
                      refine xj_iload_n (n := 1) (i := 1) 4 rfl rfl dX12_sleepersBy_95 ?_
                      refine yj_ialdN kq (by omega) fA_98 rfl (by omega) (by decide) dX12_sleepersBy_96 ?_
                      refine xj_top U.1 ?_
                      refine xj_iconst (v := 3) (by decide) dX12_sleepersBy_97 ?_
                      refine xj_isub dX12_sleepersBy_98 ?_
                      refine xj_icmp_le (tgt := 105) (by decide) dX12_sleepersBy_99 (fun zc99 => ?_) (fun zc99 => ?_)
                      · have hp : hoP (aQ A kq) (fr1 + nI (3 * i)) 3 := hcc.mp ⟨zc80, by rw [← ezv1]; exact zc86, by rw [← ezv1]; exact zc99⟩
                        obtain ⟨ka, k3, eka, hk3, hi3⟩ := ho_n hzq hp
                        have hk33 : 3 = k3 := (nI_eq (a := 3) (by omega) (by omega)).mp hk3
                        rw [if_pos hp, eka, nI_clamp (show ka < 2147483648 by omega)] at hstep
                        have hfr9 : ∃ f, f ≤ 40 ∧ fr1 = nI f := by
                          by_cases hc0 : 0 < i
                          · exact hfr hc0
                          · have hi0 : i = 0 := by omega
                            subst hi0
                            exact ⟨ka, by omega, (Int32.add_zero fr1).symm.trans eka⟩
                        rw [eka] at ezv1
                        subst ezv1
                        refine xj_bipush (v := 40) (by decide) dX12_sleepersBy_105 ?_
                        refine xj_iload_n (n := 1) (i := 1) 4 rfl rfl dX12_sleepersBy_107 ?_
                        refine xj_imul dX12_sleepersBy_108 ?_
                        refine xj_top (pk_mul 40 kq) ?_
                        refine xj_iload (i := 7) 0 rfl dX12_sleepersBy_109 ?_
                        refine xj_iadd dX12_sleepersBy_111 ?_
                        refine xj_top (nI_add _ _) ?_
                        refine xj_istore (i := 8) (lv1 := [(8, .int (nI ((40 * kq) + ka))), (7, .int (nI ka)), (6, .int (nI i)), (5, .int zvm), (0, .ref 86), (1, .int (nI kq)), (2, .int sort), (3, .int fr1), (4, .int (nI kn1))]) rfl (Nat.le_of_ble_eq_true rfl) dX12_sleepersBy_112 ?_
                        refine xj_iload (i := 5) 3 rfl dX12_sleepersBy_114 ?_
                        refine xj_aload_n (n := 0) (i := 0) 4 rfl rfl dX12_sleepersBy_116 ?_
                        refine xj_aload_n (n := 0) (i := 0) 4 rfl rfl dX12_sleepersBy_117 ?_
                        refine yj_getf (v := .ref 99) fl_X12_50_12 (by omega) (fq_86 g1) rfl dX12_sleepersBy_118 ?_
                        refine xj_iload (i := 8) 0 rfl dX12_sleepersBy_121 ?_
                        refine yj_ialdN ((40 * kq) + ka) (by omega) fA_99 rfl (by omega) (by decide) dX12_sleepersBy_123 ?_
                        refine xj_top (U.2 ka (by omega)) ?_
                        refine xj_aload_n (n := 0) (i := 0) 4 rfl rfl dX12_sleepersBy_124 ?_
                        refine yj_getf (v := .ref 99) fl_X12_50_12 (by omega) (fq_86 g1) rfl dX12_sleepersBy_125 ?_
                        refine xj_iload (i := 8) 0 rfl dX12_sleepersBy_128 ?_
                        refine xj_iconst (v := 1) (by decide) dX12_sleepersBy_130 ?_
                        refine xj_iadd dX12_sleepersBy_131 ?_
                        refine xj_top (nI_add ((40 * kq) + ka) 1) ?_
                        refine yj_ialdN (((40 * kq) + ka) + 1) (by omega) fA_99 rfl (by omega) (by decide) dX12_sleepersBy_132 ?_
                        refine xj_top (U.2 (ka + 1) (by omega)) ?_
                        refine xj_aload_n (n := 0) (i := 0) 4 rfl rfl dX12_sleepersBy_133 ?_
                        refine yj_getf (v := .ref 99) fl_X12_50_12 (by omega) (fq_86 g1) rfl dX12_sleepersBy_134 ?_
                        refine xj_iload (i := 8) 0 rfl dX12_sleepersBy_137 ?_
                        refine xj_iconst (v := 2) (by decide) dX12_sleepersBy_139 ?_
                        refine xj_iadd dX12_sleepersBy_140 ?_
                        refine xj_top (nI_add ((40 * kq) + ka) 2) ?_
                        refine yj_ialdN (((40 * kq) + ka) + 2) (by omega) fA_99 rfl (by omega) (by decide) dX12_sleepersBy_141 ?_
                        refine xj_top (U.2 (ka + 2) (by omega)) ?_
                        skip
                        refine xj_callV kv_X12_289 (c_X12_sleeper l (d + 0) n hn g1 A1 Λ O1 C1 (A (40 + kq) ka) (A (40 + kq) (ka + 1)) (A (40 + kq) (ka + 2))) (As := [.int (A (40 + kq) ka), .int (A (40 + kq) (ka + 1)), .int (A (40 + kq) (ka + 2))]) (st := [.int zvm]) (by omega) (fq_86 g1) (ci := 12) rfl rfl rfl rfl (xRm_of (by omega) (by decide) (by omega) (by omega)) (Nat.le_of_ble_eq_true rfl) dX12_sleepersBy_142 (yk_i (kc := 0) (ks := 0) fun zv2 zg3 hzg3 => ?_)
                        obtain ⟨hv9, C2, hf2⟩ := hzg3
                        refine xj_if_lt (tgt := 152) (by decide) dX12_sleepersBy_145 (fun zc145 => ?_) (fun zc145 => ?_)
                        · refine xj_iconst (v := 0) (by decide) dX12_sleepersBy_152 ?_
                          refine xj_iadd dX12_sleepersBy_153 ?_
                          refine xj_topi (fun zv4 ezv4 => ?_)
                          refine xj_istore (i := 5) (lv1 := [(5, .int zv4), (8, .int (nI ((40 * kq) + ka))), (7, .int (nI ka)), (6, .int (nI i)), (0, .ref 86), (1, .int (nI kq)), (2, .int sort), (3, .int fr1), (4, .int (nI kn1))]) rfl (Nat.le_of_ble_eq_true rfl) dX12_sleepersBy_154 ?_
                          refine xj_iinc (n := 1) (i := 6) (v := nI (i + 1)) (lv1 := [(6, .int (nI (i + 1))), (5, .int zv4), (8, .int (nI ((40 * kq) + ka))), (7, .int (nI ka)), (0, .ref 86), (1, .int (nI kq)), (2, .int sort), (3, .int fr1), (4, .int (nI kn1))]) 3 rfl (nI_1 i) rfl (Nat.le_of_ble_eq_true rfl) dX12_sleepersBy_156 ?_
                          refine xj_goto (tgt := 64) (by decide) dX12_sleepersBy_159 ?_
                          refine xj_sub (lv' := [(6, .int (nI (i + 1))), (5, .int zv4), (0, .ref 86), (1, .int (nI kq)), (2, .int sort), (3, .int fr1), (4, .int (nI kn1))]) [0, 1, 4, 5, 6, 7, 8] rfl ?_
                          rw [← hv9, if_pos zc145] at hstep
                          have ezm : zv4 = zvm := ezv4.trans (Int32.add_zero zvm)
                          exact ih zg3 zv4 _ C2 (rSl_ok O1 _ _ _) (fun j hj => (rSl_n O1 _ _ _ hj).trans (hk j hj)) (hf.tr hf2) (fun _ => hfr9) (by rw [ezm]; exact hstep.symm.trans hz)
                        · refine xj_iconst (v := 1) (by decide) dX12_sleepersBy_148 ?_
                          refine xj_goto (tgt := 153) (by decide) dX12_sleepersBy_149 ?_
                          refine xj_iadd dX12_sleepersBy_153 ?_
                          refine xj_topi (fun zv5 ezv5 => ?_)
                          refine xj_istore (i := 5) (lv1 := [(5, .int zv5), (8, .int (nI ((40 * kq) + ka))), (7, .int (nI ka)), (6, .int (nI i)), (0, .ref 86), (1, .int (nI kq)), (2, .int sort), (3, .int fr1), (4, .int (nI kn1))]) rfl (Nat.le_of_ble_eq_true rfl) dX12_sleepersBy_154 ?_
                          refine xj_iinc (n := 1) (i := 6) (v := nI (i + 1)) (lv1 := [(6, .int (nI (i + 1))), (5, .int zv5), (8, .int (nI ((40 * kq) + ka))), (7, .int (nI ka)), (0, .ref 86), (1, .int (nI kq)), (2, .int sort), (3, .int fr1), (4, .int (nI kn1))]) 3 rfl (nI_1 i) rfl (Nat.le_of_ble_eq_true rfl) dX12_sleepersBy_156 ?_
                          refine xj_goto (tgt := 64) (by decide) dX12_sleepersBy_159 ?_
                          refine xj_sub (lv' := [(6, .int (nI (i + 1))), (5, .int zv5), (0, .ref 86), (1, .int (nI kq)), (2, .int sort), (3, .int fr1), (4, .int (nI kn1))]) [0, 1, 4, 5, 6, 7, 8] rfl ?_
                          rw [← hv9, if_neg zc145] at hstep
                          have ezm : zv5 = zvm + 1 := ezv5
                          exact ih zg3 zv5 _ C2 (rSl_ok O1 _ _ _) (fun j hj => (rSl_n O1 _ _ _ hj).trans (hk j hj)) (hf.tr hf2) (fun _ => hfr9) (by rw [ezm]; exact hstep.symm.trans hz)
                      · have hp : ¬ hoP (aQ A kq) (fr1 + nI (3 * i)) 3 := fun z => zc99 (by rw [ezv1]; exact (hcc.mpr z).2.2)
                        refine xj_bipush (v := (-12)) (by decide) dX12_sleepersBy_102 ?_
                        have er : rSlBy A (nI kq) sort fr1 (nI kn1) = (-12, A1) := by rw [htot, ← hz, hstep, if_neg hp]
                        exact xj_ireturn rfl (nr_i _) (Nat.zero_le _) (Nat.zero_le _) dX12_sleepersBy_104 (qI_e (by rw [er]; exact ⟨rfl, C1, hf⟩))
            refine xj_sub (lv' := [(6, .int 0), (5, .int 0), (0, .ref 86), (1, .int (nI kq)), (2, .int sort), (3, .int fr1), (4, .int (nI kn1))]) [0, 1, 2, 3, 4, 5, 6] rfl ?_
            exact key 0 (Nat.zero_le _) g 0 A C O (fun _ _ => rfl) fr.rf (fun h => absurd h (Nat.lt_irrefl 0)) rfl
          · refine xj_bipush (v := (-13)) (by decide) dX12_sleepersBy_55 ?_
            have er : rSlBy A (nI kq) sort fr1 (nI kn1) = ((-13), A) := by unfold rSlBy; (try simp only [nI_clamp (show kq < 2147483648 by omega), nI_clamp (show kn1 < 2147483648 by omega)]); rw [if_pos zp6, if_pos zp15, if_pos zp26, if_neg zc39, if_neg zc52]; all_goals (rfl)
            exact xj_ireturn rfl (nr_i _) (Nat.zero_le _) (Nat.zero_le _) dX12_sleepersBy_57 (qI_e (by rw [er]; exact ⟨rfl, C, fr.rf⟩))
        · refine xj_bipush (v := (-11)) (by decide) dX12_sleepersBy_42 ?_
          have er : rSlBy A (nI kq) sort fr1 (nI kn1) = ((-11), A) := by unfold rSlBy; (try simp only [nI_clamp (show kq < 2147483648 by omega), nI_clamp (show kn1 < 2147483648 by omega)]); rw [if_pos zp6, if_pos zp15, if_pos zp26, if_pos zc39]; all_goals (rfl)
          exact xj_ireturn rfl (nr_i _) (Nat.zero_le _) (Nat.zero_le _) dX12_sleepersBy_44 (qI_e (by rw [er]; exact ⟨rfl, C, fr.rf⟩))
      · have zp26 : ¬ (0 ≤ n1 ∧ n1 ≤ 6) := bI_0.mp zc26
        refine xj_bipush (v := (-2)) (by decide) dX12_sleepersBy_29 ?_
        have er : rSlBy A (nI kq) sort fr1 n1 = ((-2), A) := by unfold rSlBy; (try simp only [nI_clamp (show kq < 2147483648 by omega)]); rw [if_pos zp6, if_pos zp15, if_neg zp26]; all_goals (rfl)
        exact xj_ireturn rfl (nr_i _) (Nat.zero_le _) (Nat.zero_le _) dX12_sleepersBy_31 (qI_e (by rw [er]; exact ⟨rfl, C, fr.rf⟩))
