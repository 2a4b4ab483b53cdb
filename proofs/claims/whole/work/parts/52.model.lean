/-! THE REFERENCE'S STATE -/
/-- a sign between two, as the reference has it -/
def twF (t a b : Int32) : Int32 := if t = 11 then bI (a ≠ 0 ∨ b ≠ 0) else if t = 12 then bI (a ≠ 0 ∧ b ≠ 0) else if t = 14 then bI (a < b) else if t = 15 then bI (a = b) else if t = 16 then a + b else if t = 17 then a - b else a * b
def mStep (code : Int32) (nm : Nat → Int32) (s : List Int32) : Option (List Int32) :=
  if 100000 ≤ code then some ((code - 100000) :: s)
  else if code < 11 then (if 0 ≤ code ∧ code ≤ 5 then some (nm code.toNatClampNeg :: s) else none)
  else if code = 13 then (match s with | x :: r => some (bI (x = 0) :: r) | [] => none)
  else if code = 19 then (match s with | x :: r => some (-x :: r) | [] => none)
  else (match s with | y :: x :: r => some (twF code x y :: r) | _ => none)
def mRun (mc nm : Nat → Int32) : Nat → Nat → List Int32 → Option (List Int32)
  | 0, _, s => some s
  | k + 1, i, s => (mStep (mc i) nm s).bind (mRun mc nm k (i + 1))
theorem mStep_cases {code : Int32} {nm : Nat → Int32} {s s1 : List Int32} (h : mStep code nm s = some s1) : (100000 ≤ code ∧ s1 = (code - 100000) :: s) ∨ (¬ 100000 ≤ code ∧ code < 11 ∧ (0 ≤ code ∧ code ≤ 5) ∧ s1 = nm code.toNatClampNeg :: s) ∨ (¬ 100000 ≤ code ∧ ¬ code < 11 ∧ code = 13 ∧ ∃ x r, s = x :: r ∧ s1 = bI (x = 0) :: r) ∨ (¬ 100000 ≤ code ∧ ¬ code < 11 ∧ ¬ code = 13 ∧ code = 19 ∧ ∃ x r, s = x :: r ∧ s1 = -x :: r) ∨ (¬ 100000 ≤ code ∧ ¬ code < 11 ∧ ¬ code = 13 ∧ ¬ code = 19 ∧ ∃ y x r, s = y :: x :: r ∧ s1 = twF code x y :: r) := by
  unfold mStep at h
  by_cases h1 : 100000 ≤ code
  · rw [if_pos h1] at h
    exact Or.inl ⟨h1, (Option.some.inj h).symm⟩
  · rw [if_neg h1] at h
    refine Or.inr ?_
    by_cases h2 : code < 11
    · rw [if_pos h2] at h
      by_cases h3 : 0 ≤ code ∧ code ≤ 5
      · rw [if_pos h3] at h
        exact Or.inl ⟨h1, h2, h3, (Option.some.inj h).symm⟩
      · rw [if_neg h3] at h; cases h
    · rw [if_neg h2] at h
      refine Or.inr ?_
      by_cases h4 : code = 13
      · rw [if_pos h4] at h
        cases s with
        | nil => cases h
        | cons x r => exact Or.inl ⟨h1, h2, h4, x, r, rfl, (Option.some.inj h).symm⟩
      · rw [if_neg h4] at h
        refine Or.inr ?_
        by_cases h5 : code = 19
        · rw [if_pos h5] at h
          cases s with
          | nil => cases h
          | cons x r => exact Or.inl ⟨h1, h2, h4, h5, x, r, rfl, (Option.some.inj h).symm⟩
        · rw [if_neg h5] at h
          match s, h with
          | y :: x :: r, h => exact Or.inr ⟨h1, h2, h4, h5, y, x, r, rfl, (Option.some.inj h).symm⟩
/-- rows that say L: the reference's codes from o on, their starts from z on -/
def mlR (mc ms : Nat → Int32) (L : xL) : Prop := ∃ b : Nat → Nat, b 0 = 0 ∧ (∀ p, p < 3 → b p ≤ b (p + 1)) ∧ b 3 ≤ 160 ∧ (∀ p, p < 4 → ms p = nI (b p)) ∧ ∀ p, p < 3 → ∀ nm, mRun mc nm (b (p + 1) - b p) (b p) [] = some [L p nm]
def mA1 (g : xG) (A : zSt) : Prop := g 86 0 = A 0 0 ∧ g 86 5 = A 0 1 ∧ g 86 6 = A 0 2 ∧ g 86 11 = A 0 3 ∧ g 86 12 = A 0 4 ∧ g 86 8 = A 0 5 ∧ g 86 13 = A 0 6
def mAP (g : xG) (A : zSt) : Prop := ∀ s, s < aS A → g 87 s = A 1 s ∧ g 88 s = A 2 s ∧ g 90 s = A 3 s ∧ ∀ c, c < 16 → g 89 (16 * s + c) = A (10 + s) c
def mAB (g : xG) (A : zSt) : Prop := ∀ j, j < aZ A → g 91 j = A 30 j
def mAI (g : xG) (A : zSt) : Prop := A 0 6 ≠ 0 → (g 96 0 = A 0 7 ∧ g 96 1 = A 0 8 ∧ g 96 2 = A 0 9 ∧ g 96 3 = A 0 10) ∧ ∀ s, s < aI A → g 95 s = A 4 s ∧ ∀ c, c < 16 → g 94 (16 * s + c) = A (20 + s) c
def mAQ (g : xG) (A : zSt) : Prop := ∀ q, q < 4 → g 97 q = A 5 q ∧ g 98 q = A 6 q ∧ ∀ j, j < 40 → g 99 (40 * q + j) = A (40 + q) j
def mAT (g : xG) (A : zSt) (Λ : Nat → xL) : Prop := ∀ t, t < aT A → mlR (fun k => g 92 (200 * t + k)) (fun k => g 93 (4 * t + k)) (Λ t)
/-- the letters of the reference's words -/
def wdL : List Int32 := [100, 117, 108, 108, 115, 32, 32, 32, 108, 105, 109, 105, 116, 32, 32, 32, 99, 111, 115, 116, 115, 32, 32, 32, 99, 111, 108, 117, 109, 110, 32, 32, 114, 111, 119, 32, 32, 32, 32, 32, 100, 117, 108, 108, 32, 32, 32, 32, 110, 105, 103, 104, 116, 32, 32, 32, 109, 111, 114, 101, 32, 32, 32, 32, 98, 101, 104, 105, 110, 100, 32, 32, 111, 114, 32, 32, 32, 32, 32, 32, 97, 110, 100, 32, 32, 32, 32, 32, 110, 111, 116, 32, 32, 32, 32, 32]
def mAW (g : xG) : Prop := ∀ j, j < 96 → g 101 j = wdL.getD j 0
def mA (g : xG) (A : zSt) (Λ : Nat → xL) : Prop := mA1 g A ∧ mAP g A ∧ mAT g A Λ ∧ mAB g A ∧ mAI g A ∧ mAQ g A ∧ mAW g
/-- the reference's scratch: rows, and fields of its own from 33 on -/
def sM (j : Nat) : Prop := 103 ≤ j ∧ j < 110
def fm (g g1 : xG) : Prop := (∀ j, j ≠ 86 → ¬ sM j → g1 j = g j) ∧ ∀ k, k < 33 → g1 86 k = g 86 k
theorem fm.rf {g : xG} : fm g g := ⟨fun _ _ _ => rfl, fun _ _ => rfl⟩
theorem fm.tr {g g1 g2 : xG} (h : fm g g1) (h2 : fm g1 g2) : fm g g2 := ⟨fun j a b => (h2.1 j a b).trans (h.1 j a b), fun k a => (h2.2 k a).trans (h.2 k a)⟩
theorem fm.gS {g g1 : xG} (h : fm g g1) {q : Nat} (hq : sM q) (k : Nat) (x : Int32) : fm g (gs g1 q k x) := by
  refine ⟨fun j a b => ?_, fun i hi => ?_⟩
  · rw [gs_n _ _ _ (fun e => b (by rw [e]; exact hq))]; exact h.1 j a b
  · rw [gs_n _ _ _ (fun e => by rw [← e] at hq; unfold sM at hq; omega)]; exact h.2 i hi
theorem fm.g86 {g g1 : xG} (h : fm g g1) {k : Nat} (hk : 33 ≤ k) (x : Int32) : fm g (gs g1 86 k x) := by
  refine ⟨fun j a b => ?_, fun i hi => ?_⟩
  · rw [gs_n _ _ _ a]; exact h.1 j a b
  · rw [gs_s, upd_n _ _ (by omega)]; exact h.2 i hi
theorem fm.of {g g1 : xG} {X : Nat → Prop} (h : fr X g g1) (hX : ∀ j, X j → sM j) : fm g g1 := ⟨fun j _ b => h j (fun z => b (hX j z)), fun k _ => by rw [h 86 (fun z => by have := hX _ z; unfold sM at this; omega)]⟩
def mX (j : Nat) : Prop := 86 ≤ j ∧ j < 110
theorem fm.fr {g g1 : xG} (h : fm g g1) : fr mX g g1 := fun j hj => h.1 j (fun e => hj (by unfold mX; omega)) (fun e => hj (by unfold sM at e; unfold mX; omega))
theorem mA.keep {g g1 : xG} {A : zSt} {Λ : Nat → xL} (C : mA g A Λ) (hf : fm g g1) : mA g1 A Λ := by
  obtain ⟨c1, cp, ct, cb, ci, cq, cw⟩ := C
  have e : ∀ j, 87 ≤ j → j < 103 → g1 j = g j := fun j a b => hf.1 j (by omega) (by unfold sM; omega)
  refine ⟨?_, fun s hs => ?_, fun t ht => ?_, fun j hj => ?_, fun z => ?_, fun q hq => ?_, fun j hj => ?_⟩
  · unfold mA1
    rw [hf.2 0 (by omega), hf.2 5 (by omega), hf.2 6 (by omega), hf.2 11 (by omega), hf.2 12 (by omega), hf.2 8 (by omega), hf.2 13 (by omega)]
    exact c1
  · rw [e 87 (by omega) (by omega), e 88 (by omega) (by omega), e 89 (by omega) (by omega), e 90 (by omega) (by omega)]; exact cp s hs
  · rw [e 92 (by omega) (by omega), e 93 (by omega) (by omega)]; exact ct t ht
  · rw [e 91 (by omega) (by omega)]; exact cb j hj
  · rw [e 94 (by omega) (by omega), e 95 (by omega) (by omega), e 96 (by omega) (by omega)]; exact ci z
  · rw [e 97 (by omega) (by omega), e 98 (by omega) (by omega), e 99 (by omega) (by omega)]; exact cq q hq
  · rw [e 101 (by omega) (by omega)]; exact cw j hj
section MAcc
variable {g : xG} {A : zSt} {Λ : Nat → xL}
theorem mA.S (C : mA g A Λ) (O : okA A) : g 86 0 = nI (aS A) := C.1.1.trans O.1.1
theorem mA.N (C : mA g A Λ) (O : okA A) : g 86 5 = nI (aN A) := C.1.2.1.trans O.2.1.1
theorem mA.M (C : mA g A Λ) (O : okA A) : g 86 6 = nI (aM A) := C.1.2.2.1.trans O.2.2.1.1
theorem mA.T (C : mA g A Λ) (O : okA A) : g 86 11 = nI (aT A) := C.1.2.2.2.1.trans O.2.2.2.1.1
theorem mA.W (C : mA g A Λ) (O : okA A) : g 86 12 = nI (aW A) := C.1.2.2.2.2.1.trans O.2.2.2.2.1.1
theorem mA.Z (C : mA g A Λ) (O : okA A) : g 86 8 = nI (aZ A) := C.1.2.2.2.2.2.1.trans O.2.2.2.2.2.1.1
theorem mA.I (C : mA g A Λ) : g 86 13 = A 0 6 := C.1.2.2.2.2.2.2
theorem okA.K {s : Nat} (O : okA A) (hs : s < aS A) : A 1 s = nI (aK A s) := ((O.2.2.2.2.2.2.1 s hs).1.c (by decide)).1
theorem mA.k (C : mA g A Λ) (O : okA A) {s : Nat} (hs : s < aS A) : g 87 s = nI (aK A s) := (C.2.1 s hs).1.trans (O.K hs)
theorem mA.mo (C : mA g A Λ) {s : Nat} (hs : s < aS A) : g 88 s = A 2 s := (C.2.1 s hs).2.1
theorem mA.pi (C : mA g A Λ) {s : Nat} (hs : s < aS A) : g 90 s = A 3 s := (C.2.1 s hs).2.2.1
theorem mA.du (C : mA g A Λ) {s c : Nat} (hs : s < aS A) (hc : c < 16) : g 89 (16 * s + c) = A (10 + s) c := (C.2.1 s hs).2.2.2 c hc
theorem mA.qs (C : mA g A Λ) {q : Nat} (hq : q < 4) : g 97 q = A 5 q := (C.2.2.2.2.2.1 q hq).1
theorem mA.qz (C : mA g A Λ) (O : okA A) {q : Nat} (hq : q < 4) : g 98 q = nI (aQ A q) := (C.2.2.2.2.2.1 q hq).2.1.trans (O.2.2.2.2.2.2.2.2 q hq).2.1
theorem mA.qn (C : mA g A Λ) {q : Nat} (hq : q < 4) {j : Nat} (hj : j < 40) : g 99 (40 * q + j) = A (40 + q) j := (C.2.2.2.2.2.1 q hq).2.2 j hj
theorem mA.txt (C : mA g A Λ) {t : Nat} (ht : t < aT A) : mlR (fun k => g 92 (200 * t + k)) (fun k => g 93 (4 * t + k)) (Λ t) := C.2.2.1 t ht
end MAcc
set_option maxHeartbeats 4000000 in
set_option maxRecDepth 100000 in
theorem c_X12_two (l : Launch) (d : Nat) (t a b : Int32) (h : xH)  : xC l yX12_two cX12_two 3 (some .int) (xR (d + 0) 0 0) [.int t, .int a, .int b] h (qP (twF t a b) h) := by
  refine xC_of false (by decide +kernel) (fun z => by cases z) (Nat.le_of_ble_eq_true rfl) ?_
  show xJ l (RX12, 3, (some .int), false, (xR (d + 0) 0 0), none) cX12_two _ 0 0 0 [(0, .int t), (1, .int a), (2, .int b)] [] h
  refine xj_iload_n (n := 0) (i := 0) 0 rfl rfl dX12_two_0 ?_
  by_cases zs1_0 : t = 11
  · refine xj_top zs1_0 ?_
    refine xj_tableIn (off := 43) (tgt := 44) dX12_two_1 (by decide) (by decide) rfl (by decide) ?_
    refine xj_iload_n (n := 1) (i := 1) 1 rfl rfl dX12_two_44 ?_
    refine xj_if_ne (tgt := 52) (by decide) dX12_two_45 (fun zc45 => ?_) (fun zc45 => ?_)
    · refine xj_iconst (v := 1) (by decide) dX12_two_52 ?_
      refine xj_goto (tgt := 57) (by decide) dX12_two_53 ?_
      exact xj_ireturn rfl (nr_i _) (Nat.zero_le _) (Nat.zero_le _) dX12_two_57 (qP_e (by unfold twF; rw [if_pos zs1_0]; all_goals first | rfl | (unfold bI; split <;> first | rfl | (exfalso; simp_all; done) | (exfalso; simp only [i32_lt, i32_le] at *; omega))))
    · refine xj_iload_n (n := 2) (i := 2) 2 rfl rfl dX12_two_48 ?_
      refine xj_if_eq (tgt := 56) (by decide) dX12_two_49 (fun zc49 => ?_) (fun zc49 => ?_)
      · refine xj_iconst (v := 0) (by decide) dX12_two_56 ?_
        exact xj_ireturn rfl (nr_i _) (Nat.zero_le _) (Nat.zero_le _) dX12_two_57 (qP_e (by unfold twF; rw [if_pos zs1_0]; all_goals first | rfl | (unfold bI; split <;> first | rfl | (exfalso; simp_all; done) | (exfalso; simp only [i32_lt, i32_le] at *; omega))))
      · refine xj_iconst (v := 1) (by decide) dX12_two_52 ?_
        refine xj_goto (tgt := 57) (by decide) dX12_two_53 ?_
        exact xj_ireturn rfl (nr_i _) (Nat.zero_le _) (Nat.zero_le _) dX12_two_57 (qP_e (by unfold twF; rw [if_pos zs1_0]; all_goals first | rfl | (unfold bI; split <;> first | rfl | (exfalso; simp_all; done) | (exfalso; simp only [i32_lt, i32_le] at *; omega))))
  by_cases zs1_1 : t = 12
  · refine xj_top zs1_1 ?_
    refine xj_tableIn (off := 57) (tgt := 58) dX12_two_1 (by decide) (by decide) rfl (by decide) ?_
    refine xj_iload_n (n := 1) (i := 1) 1 rfl rfl dX12_two_58 ?_
    refine xj_if_eq (tgt := 70) (by decide) dX12_two_59 (fun zc59 => ?_) (fun zc59 => ?_)
    · refine xj_iconst (v := 0) (by decide) dX12_two_70 ?_
      exact xj_ireturn rfl (nr_i _) (Nat.zero_le _) (Nat.zero_le _) dX12_two_71 (qP_e (by unfold twF; rw [if_neg (by rw [zs1_1]; decide), if_pos zs1_1]; all_goals first | rfl | (unfold bI; split <;> first | rfl | (exfalso; simp_all; done) | (exfalso; simp only [i32_lt, i32_le] at *; omega))))
    · refine xj_iload_n (n := 2) (i := 2) 2 rfl rfl dX12_two_62 ?_
      refine xj_if_eq (tgt := 70) (by decide) dX12_two_63 (fun zc63 => ?_) (fun zc63 => ?_)
      · refine xj_iconst (v := 0) (by decide) dX12_two_70 ?_
        exact xj_ireturn rfl (nr_i _) (Nat.zero_le _) (Nat.zero_le _) dX12_two_71 (qP_e (by unfold twF; rw [if_neg (by rw [zs1_1]; decide), if_pos zs1_1]; all_goals first | rfl | (unfold bI; split <;> first | rfl | (exfalso; simp_all; done) | (exfalso; simp only [i32_lt, i32_le] at *; omega))))
      · refine xj_iconst (v := 1) (by decide) dX12_two_66 ?_
        refine xj_goto (tgt := 71) (by decide) dX12_two_67 ?_
        exact xj_ireturn rfl (nr_i _) (Nat.zero_le _) (Nat.zero_le _) dX12_two_71 (qP_e (by unfold twF; rw [if_neg (by rw [zs1_1]; decide), if_pos zs1_1]; all_goals first | rfl | (unfold bI; split <;> first | rfl | (exfalso; simp_all; done) | (exfalso; simp only [i32_lt, i32_le] at *; omega))))
  by_cases zs1_2 : t = 13
  · refine xj_top zs1_2 ?_
    refine xj_tableIn (off := 101) (tgt := 102) dX12_two_1 (by decide) (by decide) rfl (by decide) ?_
    refine xj_iload_n (n := 1) (i := 1) 1 rfl rfl dX12_two_102 ?_
    refine xj_iload_n (n := 2) (i := 2) 2 rfl rfl dX12_two_103 ?_
    refine xj_imul dX12_two_104 ?_
    exact xj_ireturn rfl (nr_i _) (Nat.zero_le _) (Nat.zero_le _) dX12_two_105 (qP_e (by unfold twF; rw [if_neg (by rw [zs1_2]; decide), if_neg (by rw [zs1_2]; decide), if_neg (by rw [zs1_2]; decide), if_neg (by rw [zs1_2]; decide), if_neg (by rw [zs1_2]; decide), if_neg (by rw [zs1_2]; decide)]; all_goals first | rfl | (unfold bI; split <;> first | rfl | (exfalso; simp_all; done) | (exfalso; simp only [i32_lt, i32_le] at *; omega))))
  by_cases zs1_3 : t = 14
  · refine xj_top zs1_3 ?_
    refine xj_tableIn (off := 71) (tgt := 72) dX12_two_1 (by decide) (by decide) rfl (by decide) ?_
    refine xj_iload_n (n := 1) (i := 1) 1 rfl rfl dX12_two_72 ?_
    refine xj_iload_n (n := 2) (i := 2) 2 rfl rfl dX12_two_73 ?_
    refine xj_icmp_ge (tgt := 81) (by decide) dX12_two_74 (fun zc74 => ?_) (fun zc74 => ?_)
    · refine xj_iconst (v := 0) (by decide) dX12_two_81 ?_
      exact xj_ireturn rfl (nr_i _) (Nat.zero_le _) (Nat.zero_le _) dX12_two_82 (qP_e (by unfold twF; rw [if_neg (by rw [zs1_3]; decide), if_neg (by rw [zs1_3]; decide), if_pos zs1_3]; all_goals first | rfl | (unfold bI; split <;> first | rfl | (exfalso; simp_all; done) | (exfalso; simp only [i32_lt, i32_le] at *; omega))))
    · refine xj_iconst (v := 1) (by decide) dX12_two_77 ?_
      refine xj_goto (tgt := 82) (by decide) dX12_two_78 ?_
      exact xj_ireturn rfl (nr_i _) (Nat.zero_le _) (Nat.zero_le _) dX12_two_82 (qP_e (by unfold twF; rw [if_neg (by rw [zs1_3]; decide), if_neg (by rw [zs1_3]; decide), if_pos zs1_3]; all_goals first | rfl | (unfold bI; split <;> first | rfl | (exfalso; simp_all; done) | (exfalso; simp only [i32_lt, i32_le] at *; omega))))
  by_cases zs1_4 : t = 15
  · refine xj_top zs1_4 ?_
    refine xj_tableIn (off := 82) (tgt := 83) dX12_two_1 (by decide) (by decide) rfl (by decide) ?_
    refine xj_iload_n (n := 1) (i := 1) 1 rfl rfl dX12_two_83 ?_
    refine xj_iload_n (n := 2) (i := 2) 2 rfl rfl dX12_two_84 ?_
    refine xj_icmp_ne (tgt := 92) (by decide) dX12_two_85 (fun zc85 => ?_) (fun zc85 => ?_)
    · refine xj_iconst (v := 0) (by decide) dX12_two_92 ?_
      exact xj_ireturn rfl (nr_i _) (Nat.zero_le _) (Nat.zero_le _) dX12_two_93 (qP_e (by unfold twF; rw [if_neg (by rw [zs1_4]; decide), if_neg (by rw [zs1_4]; decide), if_neg (by rw [zs1_4]; decide), if_pos zs1_4]; all_goals first | rfl | (unfold bI; split <;> first | rfl | (exfalso; simp_all; done) | (exfalso; simp only [i32_lt, i32_le] at *; omega))))
    · refine xj_iconst (v := 1) (by decide) dX12_two_88 ?_
      refine xj_goto (tgt := 93) (by decide) dX12_two_89 ?_
      exact xj_ireturn rfl (nr_i _) (Nat.zero_le _) (Nat.zero_le _) dX12_two_93 (qP_e (by unfold twF; rw [if_neg (by rw [zs1_4]; decide), if_neg (by rw [zs1_4]; decide), if_neg (by rw [zs1_4]; decide), if_pos zs1_4]; all_goals first | rfl | (unfold bI; split <;> first | rfl | (exfalso; simp_all; done) | (exfalso; simp only [i32_lt, i32_le] at *; omega))))
  by_cases zs1_5 : t = 16
  · refine xj_top zs1_5 ?_
    refine xj_tableIn (off := 93) (tgt := 94) dX12_two_1 (by decide) (by decide) rfl (by decide) ?_
    refine xj_iload_n (n := 1) (i := 1) 1 rfl rfl dX12_two_94 ?_
    refine xj_iload_n (n := 2) (i := 2) 2 rfl rfl dX12_two_95 ?_
    refine xj_iadd dX12_two_96 ?_
    exact xj_ireturn rfl (nr_i _) (Nat.zero_le _) (Nat.zero_le _) dX12_two_97 (qP_e (by unfold twF; rw [if_neg (by rw [zs1_5]; decide), if_neg (by rw [zs1_5]; decide), if_neg (by rw [zs1_5]; decide), if_neg (by rw [zs1_5]; decide), if_pos zs1_5]; all_goals first | rfl | (unfold bI; split <;> first | rfl | (exfalso; simp_all; done) | (exfalso; simp only [i32_lt, i32_le] at *; omega))))
  by_cases zs1_6 : t = 17
  · refine xj_top zs1_6 ?_
    refine xj_tableIn (off := 97) (tgt := 98) dX12_two_1 (by decide) (by decide) rfl (by decide) ?_
    refine xj_iload_n (n := 1) (i := 1) 1 rfl rfl dX12_two_98 ?_
    refine xj_iload_n (n := 2) (i := 2) 2 rfl rfl dX12_two_99 ?_
    refine xj_isub dX12_two_100 ?_
    exact xj_ireturn rfl (nr_i _) (Nat.zero_le _) (Nat.zero_le _) dX12_two_101 (qP_e (by unfold twF; rw [if_neg (by rw [zs1_6]; decide), if_neg (by rw [zs1_6]; decide), if_neg (by rw [zs1_6]; decide), if_neg (by rw [zs1_6]; decide), if_neg (by rw [zs1_6]; decide), if_pos zs1_6]; all_goals first | rfl | (unfold bI; split <;> first | rfl | (exfalso; simp_all; done) | (exfalso; simp only [i32_lt, i32_le] at *; omega))))
  have zo1_0 : t.toInt ≠ 11 := fun e => zs1_0 (Int32.toInt_inj.mp (e.trans rfl))
  have zo1_1 : t.toInt ≠ 12 := fun e => zs1_1 (Int32.toInt_inj.mp (e.trans rfl))
  have zo1_2 : t.toInt ≠ 13 := fun e => zs1_2 (Int32.toInt_inj.mp (e.trans rfl))
  have zo1_3 : t.toInt ≠ 14 := fun e => zs1_3 (Int32.toInt_inj.mp (e.trans rfl))
  have zo1_4 : t.toInt ≠ 15 := fun e => zs1_4 (Int32.toInt_inj.mp (e.trans rfl))
  have zo1_5 : t.toInt ≠ 16 := fun e => zs1_5 (Int32.toInt_inj.mp (e.trans rfl))
  have zo1_6 : t.toInt ≠ 17 := fun e => zs1_6 (Int32.toInt_inj.mp (e.trans rfl))
  refine xj_tableOut (tgt := 102) dX12_two_1 (by omega) (by decide) ?_
  refine xj_iload_n (n := 1) (i := 1) 1 rfl rfl dX12_two_102 ?_
  refine xj_iload_n (n := 2) (i := 2) 2 rfl rfl dX12_two_103 ?_
  refine xj_imul dX12_two_104 ?_
  exact xj_ireturn rfl (nr_i _) (Nat.zero_le _) (Nat.zero_le _) dX12_two_105 (qP_e (by unfold twF; rw [if_neg zs1_0, if_neg zs1_1, if_neg zs1_3, if_neg zs1_4, if_neg zs1_5, if_neg zs1_6]))
