/-! HOW A TEXT IS READ: tokens -/
def isBl (x : Int32) : Bool := decide (x = 32 ∨ x = 10)
def isLt (x : Int32) : Bool := decide (97 ≤ x ∧ x ≤ 122)
def isDg (x : Int32) : Bool := decide (48 ≤ x ∧ x ≤ 57)
def isSg (x : Int32) : Bool := decide (x = 40 ∨ x = 41 ∨ x = 59 ∨ x = 43 ∨ x = 45 ∨ x = 42 ∨ x = 60 ∨ x = 61)
def rnF (p : Int32 → Bool) (b : Nat → Int32) : Nat → Nat → Nat
  | 0, i => i
  | k + 1, i => if p (b i) = true then rnF p b k (i + 1) else i
/-- the first place from i on that is not so -/
def rnP (p : Int32 → Bool) (b : Nat → Int32) (z i : Nat) : Nat := rnF p b (z - i) i
theorem rnF_b (p : Int32 → Bool) (b : Nat → Int32) : ∀ k i, i ≤ rnF p b k i ∧ rnF p b k i ≤ i + k
  | 0, i => ⟨Nat.le_refl _, Nat.le_refl _⟩
  | k + 1, i => by
    have ih := rnF_b p b k (i + 1)
    unfold rnF
    split <;> omega
theorem rnP_b (p : Int32 → Bool) (b : Nat → Int32) {z i : Nat} (h : i ≤ z) : i ≤ rnP p b z i ∧ rnP p b z i ≤ z := by
  have := rnF_b p b (z - i) i
  unfold rnP
  omega
theorem rnP_s {p : Int32 → Bool} {b : Nat → Int32} {z i : Nat} (h : i < z) (hp : p (b i) = true) : rnP p b z i = rnP p b z (i + 1) := by
  unfold rnP
  rw [show z - i = (z - (i + 1)) + 1 by omega]
  show (if p (b i) = true then _ else i) = _
  rw [if_pos hp]
theorem rnP_n {p : Int32 → Bool} {b : Nat → Int32} {z i : Nat} (hp : ¬ p (b i) = true) : rnP p b z i = i := by
  unfold rnP
  cases z - i with
  | zero => rfl
  | succ k =>
    show (if p (b i) = true then _ else i) = _
    rw [if_neg hp]
theorem rnP_z {p : Int32 → Bool} {b : Nat → Int32} {z i : Nat} (h : z ≤ i) : rnP p b z i = i := by
  unfold rnP
  rw [show z - i = 0 by omega]
  rfl
/-- all that is run over is so -/
theorem rnF_in (p : Int32 → Bool) (b : Nat → Int32) : ∀ k i j, i ≤ j → j < rnF p b k i → p (b j) = true
  | 0, i, j, h1, h2 => by
    have h3 : j < i := h2
    omega
  | k + 1, i, j, h1, h2 => by
    unfold rnF at h2
    by_cases hp : p (b i) = true
    · rw [if_pos hp] at h2
      by_cases e : j = i
      · subst e; exact hp
      · exact rnF_in p b k (i + 1) j (by omega) h2
    · rw [if_neg hp] at h2
      omega
def fsL : List Nat := [0, 6, 12, 18, 21, 25, 29, 36, 40, 45, 51, 56]
def lnL : List Nat := [5, 5, 5, 2, 3, 3, 6, 3, 4, 5, 4, 6]
/-- the word from s to e is the k-th -/
def mtW (b : Nat → Int32) (s e k : Nat) : Bool := decide (e - s = lnL.getD k 0 ∧ ∀ i, i < lnL.getD k 0 → b (s + i) = xBytes.getD (fsL.getD k 0 + i) 0)
/-- the last of 0 .. n-1 that is so -/
def wdF (m : Nat → Bool) : Nat → Int32
  | 0 => 2
  | k + 1 => if m k = true then nI (256 + k) else wdF m k
def nuF (b : Nat → Int32) (s : Nat) : Nat → Int32
  | 0 => 0
  | k + 1 => 10 * nuF b s k + b (s + k) - 48
def stP (b : Nat → Int32) (z i : Nat) : Nat := rnP isBl b z i
def tkP (b : Nat → Int32) (z i : Nat) : Int32 :=
  if z ≤ stP b z i then 0 else if isLt (b (stP b z i)) = true then wdF (mtW b (stP b z i) (rnP isLt b z (stP b z i))) 12 else if isDg (b (stP b z i)) = true then (if rnP isDg b z (stP b z i) - stP b z i ≤ 4 then 1 else 2) else if isSg (b (stP b z i)) = true then b (stP b z i) else 2
def nxP (b : Nat → Int32) (z i : Nat) : Nat :=
  if z ≤ stP b z i then stP b z i else if isLt (b (stP b z i)) = true then rnP isLt b z (stP b z i) else if isDg (b (stP b z i)) = true then rnP isDg b z (stP b z i) else stP b z i + 1
def nmP (b : Nat → Int32) (z i : Nat) : Int32 := nuF b (stP b z i) (rnP isDg b z (stP b z i) - stP b z i)
theorem stP_b (b : Nat → Int32) {z i : Nat} (h : i ≤ z) : i ≤ stP b z i ∧ stP b z i ≤ z := rnP_b _ _ h
theorem nxP_b (b : Nat → Int32) {z i : Nat} (h : i ≤ z) : i ≤ nxP b z i ∧ nxP b z i ≤ z ∧ (¬ tkP b z i = 0 → i < nxP b z i) := by
  have h1 := stP_b b h
  have h2 := rnP_b isLt b h1.2
  have h3 := rnP_b isDg b h1.2
  unfold nxP tkP
  by_cases hz : z ≤ stP b z i
  · rw [if_pos hz, if_pos hz]
    exact ⟨h1.1, h1.2, fun y => absurd rfl y⟩
  · rw [if_neg hz, if_neg hz]
    by_cases hl : isLt (b (stP b z i)) = true
    · rw [if_pos hl]
      have h4 := rnP_s (show stP b z i < z by omega) hl
      have h5 := rnP_b isLt b (show stP b z i + 1 ≤ z by omega)
      exact ⟨by omega, h2.2, fun _ => by omega⟩
    · rw [if_neg hl]
      by_cases hd : isDg (b (stP b z i)) = true
      · rw [if_pos hd]
        have h4 := rnP_s (show stP b z i < z by omega) hd
        have h5 := rnP_b isDg b (show stP b z i + 1 ≤ z by omega)
        exact ⟨by omega, h3.2, fun _ => by omega⟩
      · rw [if_neg hd]
        exact ⟨by omega, by omega, fun _ => by omega⟩
/-! the search that both keep to: what is held, how many are open, what is out (the newest first), by the tokens -/
def rkS (s : Int32) : Nat := if s = 0 then 0 else if s = -259 then 1 else if s = -260 then 2 else if s = -261 then 3 else if s = -60 ∨ s = -61 then 4 else if s = -43 ∨ s = -45 then 5 else if s = -42 then 6 else 7
def opS (s : Int32) : Nat := if s = -261 ∨ s = -3 then 1 else 0
def unW (k : Nat) : List Int32 → Nat → List Int32 → List Int32 × Nat × List Int32
  | [], o, O => ([], o, O)
  | s :: H, o, O => if k ≤ rkS s then unW k H (o - opS s) (s :: O) else (s :: H, o, O)
abbrev mS : Type := Bool × Bool × List Int32 × Nat × List Int32
abbrev mR : Type := Bool × Nat × List Int32
def isOp (t : Int32) : Bool := decide (t = 259 ∨ t = 260 ∨ t = 60 ∨ t = 61 ∨ t = 43 ∨ t = 45 ∨ t = 42)
def hdK (k : Nat) (H : List Int32) : Prop := ∀ s, H.head? = some s → rkS s < k
def hd4 (H : List Int32) : Bool := match H with | [] => false | x :: _ => decide (rkS x = 4)
def isNl (H : List Int32) : Bool := match H with | [] => true | _ :: _ => false
def stM (t n : Int32) (i : Nat) (s : mS) : Sum mS mR :=
  if s.1 = true then
    if t = 1 then .inl (false, false, unW 7 s.2.2.1 s.2.2.2.1 (n :: s.2.2.2.2))
    else if 262 ≤ t then .inl (false, false, unW 7 s.2.2.1 s.2.2.2.1 (-t :: s.2.2.2.2))
    else if t = 261 ∧ s.2.1 = true then (if s.2.2.2.1 = 5 then .inr (false, i, []) else .inl (true, true, -261 :: s.2.2.1, s.2.2.2.1 + 1, s.2.2.2.2))
    else if t = 45 then (if s.2.2.2.1 = 5 then .inr (false, i, []) else .inl (true, false, -3 :: s.2.2.1, s.2.2.2.1 + 1, s.2.2.2.2))
    else if t = 40 then (if s.2.2.2.1 = 5 then .inr (false, i, []) else .inl (true, true, 0 :: s.2.2.1, s.2.2.2.1 + 1, s.2.2.2.2))
    else .inr (false, i, [])
  else
    if t = 59 then .inr (if isNl (unW 1 s.2.2.1 s.2.2.2.1 s.2.2.2.2).1 = true then (true, i, (unW 1 s.2.2.1 s.2.2.2.1 s.2.2.2.2).2.2) else (false, i, []))
    else if t = 41 then (match unW 1 s.2.2.1 s.2.2.2.1 s.2.2.2.2 with | ([], _, _) => .inr (false, i, []) | (_ :: H, o, O) => .inl (false, false, unW 7 H (o - 1) O))
    else if isOp t = true then (if rkS (-t) = 4 ∧ hd4 (unW 5 s.2.2.1 s.2.2.2.1 s.2.2.2.2).1 = true then .inr (false, i, []) else .inl (true, decide (rkS (-t) ≤ 2), -t :: (unW (if rkS (-t) = 4 then 5 else rkS (-t)) s.2.2.1 s.2.2.2.1 s.2.2.2.2).1, (unW (if rkS (-t) = 4 then 5 else rkS (-t)) s.2.2.1 s.2.2.2.1 s.2.2.2.2).2))
    else .inr (false, i, [])
theorem stM_0 {t n : Int32} {i : Nat} {s s' : mS} (h : stM t n i s = .inl s') : ¬ t = 0 := by
  rintro rfl
  unfold stM at h
  by_cases hw : s.1 = true
  · rw [if_pos hw, if_neg (by decide), if_neg (by decide), if_neg (fun y => absurd y.1 (by decide)), if_neg (by decide), if_neg (by decide)] at h
    cases h
  · rw [if_neg hw, if_neg (by decide), if_neg (by decide), if_neg (by decide)] at h
    cases h
section RN
variable (b : Nat → Int32) (z : Nat)
def ruN : Nat → mS → Nat → mR
  | 0, _, i => (false, i, [])
  | k + 1, s, i => match stM (tkP b z i) (nmP b z i) i s with
    | .inr r => r
    | .inl s' => ruN k s' (nxP b z i)
def rnM (s : mS) (i : Nat) : mR := ruN b z (z + 1 - i) s i
theorem ruN_fuel : ∀ (k k' : Nat) (s : mS) (i : Nat), i ≤ z → z + 1 - i ≤ k → z + 1 - i ≤ k' → ruN b z k s i = ruN b z k' s i
  | 0, _, _, i, hi, h1, _ => by omega
  | _ + 1, 0, _, i, hi, _, h2 => by omega
  | k + 1, k' + 1, s, i, hi, h1, h2 => by
    unfold ruN
    cases h : stM (tkP b z i) (nmP b z i) i s with
    | inr r => rfl
    | inl s' =>
      have h3 := nxP_b b hi
      have h4 := h3.2.2 (stM_0 h)
      exact ruN_fuel k k' s' (nxP b z i) h3.2.1 (by omega) (by omega)
theorem rnM_r {s : mS} {i : Nat} {r : mR} (hi : i ≤ z) (h : stM (tkP b z i) (nmP b z i) i s = .inr r) : rnM b z s i = r := by
  unfold rnM
  rw [show z + 1 - i = (z - i) + 1 by omega]
  unfold ruN
  rw [h]
theorem rnM_l {s s' : mS} {i : Nat} (hi : i ≤ z) (h : stM (tkP b z i) (nmP b z i) i s = .inl s') : rnM b z s i = rnM b z s' (nxP b z i) := by
  have h3 := nxP_b b hi
  have h4 := h3.2.2 (stM_0 h)
  have e : rnM b z s i = ruN b z (z - i) s' (nxP b z i) := by
    unfold rnM
    rw [show z + 1 - i = (z - i) + 1 by omega]
    show (match stM (tkP b z i) (nmP b z i) i s with | .inr r => r | .inl s' => ruN b z (z - i) s' (nxP b z i)) = _
    rw [h]
  rw [e]
  exact ruN_fuel b z _ _ s' _ h3.2.1 (by omega) (Nat.le_refl _)
end RN
/-- how many of the waiting are open -/
def cnO : List Int32 → Nat
  | [] => 0
  | s :: P => opS s + cnO P
theorem unW_P {k : Nat} : ∀ (P H : List Int32) (o : Nat) (O : List Int32), (∀ s ∈ P, k ≤ rkS s) → unW k (P ++ H) (o + cnO P) O = unW k H o (P.reverse ++ O)
  | [], _, _, _, _ => rfl
  | s :: P, H, o, O, h => by
    have e : unW k (s :: (P ++ H)) (o + (opS s + cnO P)) O = if k ≤ rkS s then unW k (P ++ H) (o + (opS s + cnO P) - opS s) (s :: O) else (s :: (P ++ H), o + (opS s + cnO P), O) := rfl
    show unW k (s :: (P ++ H)) (o + (opS s + cnO P)) O = _
    rw [e, if_pos (h s List.mem_cons_self), show o + (opS s + cnO P) - opS s = o + cnO P by omega, unW_P P H o (s :: O) (fun x hx => h x (List.mem_cons_of_mem _ hx)), List.reverse_cons, List.append_assoc]
    rfl
theorem unW_hd {k : Nat} {H : List Int32} (o : Nat) (O : List Int32) (h : hdK k H) : unW k H o O = (H, o, O) := by
  cases H with
  | nil => rfl
  | cons s H =>
    unfold unW
    exact if_neg (Nat.not_le_of_lt (h s rfl))
theorem unW_PH {k : Nat} {P H : List Int32} {o : Nat} {O : List Int32} (h : ∀ s ∈ P, k ≤ rkS s) (hH : hdK k H) : unW k (P ++ H) (o + cnO P) O = (H, o, P.reverse ++ O) := by rw [unW_P P H o O h, unW_hd _ _ hH]
theorem hdK_mono {k k' : Nat} {H : List Int32} (h : hdK k H) (hk : k ≤ k') : hdK k' H := fun s hs => Nat.lt_of_lt_of_le (h s hs) hk
theorem hdK_c {k : Nat} {s : Int32} (H : List Int32) (h : rkS s < k) : hdK k (s :: H) := fun x hx => by cases hx; exact h
theorem cnO_app : ∀ P Q : List Int32, cnO (P ++ Q) = cnO P + cnO Q
  | [], Q => (Nat.zero_add _).symm
  | s :: P, Q => by
    show opS s + cnO (P ++ Q) = opS s + cnO P + cnO Q
    rw [cnO_app P Q, Nat.add_assoc]
/-! codes that say something -/
def ruC (nm : Nat → Int32) : List Int32 → List Int32 → Option (List Int32)
  | [], s => some s
  | c :: D, s => (ruC nm D s).bind (lStep c nm)
def WFm (m : Nat) (D : List Int32) : Prop := ∀ nm, ∃ v, ∀ s : List Int32, s.length ≤ m → ruC nm D s = some (v :: s)
theorem WFm.mono {m m' : Nat} {D : List Int32} (h : WFm m D) (hm : m' ≤ m) : WFm m' D := fun nm => by
  obtain ⟨v, hv⟩ := h nm
  exact ⟨v, fun s hs => hv s (by omega)⟩
theorem ruC_app (nm : Nat → Int32) : ∀ (D E s : List Int32), ruC nm (D ++ E) s = (ruC nm E s).bind (ruC nm D)
  | [], E, s => by cases h : ruC nm E s <;> simp [ruC, h]
  | c :: D, E, s => by
    show (ruC nm (D ++ E) s).bind (lStep c nm) = _
    rw [ruC_app nm D E s]
    cases ruC nm E s <;> rfl
theorem WFm_num {c : Int32} (h0 : 0 ≤ c) (hn : ¬ isNm c = true) : WFm 30 [c] := fun nm => ⟨c, fun s hs => by
  show lStep c nm s = _
  unfold lStep
  rw [if_neg hn, if_pos h0, if_pos (by omega)]⟩
theorem WFm_nam {c : Int32} (h : isNm c = true) : WFm 30 [c] := fun nm => ⟨nm (nmI c).toNatClampNeg, fun s hs => by
  show lStep c nm s = _
  unfold lStep
  rw [if_pos h, if_pos (by omega)]⟩
theorem WFm_un {m : Nat} {c : Int32} {D : List Int32} (hc : c = -261 ∨ c = -3) (h : WFm m D) : WFm m (c :: D) := fun nm => by
  obtain ⟨v, hv⟩ := h nm
  rcases hc with rfl | rfl
  · exact ⟨bI (v = 0), fun s hs => by show (ruC nm D s).bind (lStep (-261) nm) = _; rw [hv s hs]; rfl⟩
  · exact ⟨-v, fun s hs => by show (ruC nm D s).bind (lStep (-3) nm) = _; rw [hv s hs]; rfl⟩
theorem isOp_c {t : Int32} (h : isOp t = true) : t = 259 ∨ t = 260 ∨ t = 60 ∨ t = 61 ∨ t = 43 ∨ t = 45 ∨ t = 42 := of_decide_eq_true h
theorem WFm_bin {m : Nat} {t : Int32} {D E : List Int32} (ht : isOp t = true) (h1 : WFm m D) (h2 : WFm (m + 1) E) : WFm m (-t :: (E ++ D)) := fun nm => by
  obtain ⟨v, hv⟩ := h1 nm
  obtain ⟨w, hw⟩ := h2 nm
  refine ⟨jnF (- -t) v w, fun s hs => ?_⟩
  show (ruC nm (E ++ D) s).bind (lStep (-t) nm) = _
  rw [ruC_app, hv s hs]
  show (ruC nm E (v :: s)).bind (lStep (-t) nm) = _
  rw [hw (v :: s) (by rw [List.length_cons]; omega)]
  show lStep (-t) nm (w :: v :: s) = _
  rcases isOp_c ht with rfl | rfl | rfl | rfl | rfl | rfl | rfl <;> rfl
/-! what is read from one place to another -/
section RL
variable (b : Nat → Int32) (z : Nat)
def exP (P : List Int32) : Prop := ∃ P1 x P2, P = P1 ++ x :: P2 ∧ (∀ s ∈ P1, 5 ≤ rkS s) ∧ rkS x = 4
/-- one -/
def rlO (o i j : Nat) (D : List Int32) : Prop := (i < j ∧ j ≤ z ∧ D.length + i ≤ j ∧ WFm (5 * o + 5) D) ∧ ∀ mn H O, (mn = true → ¬ tkP b z i = 261) → rnM b z (true, mn, H, o, O) i = rnM b z (false, false, unW 7 H o (D ++ O)) j
def flO (o i j : Nat) : Prop := ∀ mn H O, (mn = true → ¬ tkP b z i = 261) → rnM b z (true, mn, H, o, O) i = (false, j, [])
/-- a term (6), a sum (5) -/
def rlS (k o i j : Nat) (D : List Int32) : Prop := (i < j ∧ j ≤ z ∧ D.length + i ≤ j ∧ WFm (5 * o + k - 2) D) ∧ ∃ P C, D = P.reverse ++ C ∧ (∀ s ∈ P, k ≤ rkS s) ∧ cnO P = 0 ∧ ∀ mn H O, hdK k H → (mn = true → ¬ tkP b z i = 261) → rnM b z (true, mn, H, o, O) i = rnM b z (false, false, P ++ H, o, C ++ O) j
def flS (k o i j : Nat) : Prop := ∀ mn H O, hdK k H → (mn = true → ¬ tkP b z i = 261) → rnM b z (true, mn, H, o, O) i = (false, j, [])
/-- a not (k 3, heads below 4, 2 waiting), an and (2, 2, 1), an or (1, 1, 0) -/
def rlE (k hk w o i j : Nat) (D : List Int32) : Prop := (i < j ∧ j ≤ z ∧ D.length + i ≤ j ∧ WFm (5 * o + w) D) ∧ ∃ P C, D = P.reverse ++ C ∧ (∀ s ∈ P, k ≤ rkS s) ∧ ((tkP b z j = 60 ∨ tkP b z j = 61) → exP P) ∧ ∀ H O, hdK hk H → rnM b z (true, true, H, o, O) i = rnM b z (false, false, P ++ H, o + cnO P, C ++ O) j
def flE (hk o i j : Nat) : Prop := ∀ H O, hdK hk H → rnM b z (true, true, H, o, O) i = (false, j, [])
/-- no sign of a sum or a term stands there -/
def noS (t : Int32) : Prop := ¬ t = 42 ∧ ¬ t = 43 ∧ ¬ t = 45
variable {b z}
theorem rlO_num {o i : Nat} (hi : i ≤ z) (ho : o ≤ 5) (h : tkP b z i = 1) (hn : 0 ≤ nmP b z i ∧ ¬ isNm (nmP b z i) = true) : rlO b z o i (nxP b z i) [nmP b z i] := by
  have hx := nxP_b b hi
  have h0 := hx.2.2 (by rw [h]; decide)
  refine ⟨⟨h0, hx.2.1, by show 1 + i ≤ _; omega, (WFm_num hn.1 hn.2).mono (by omega)⟩, fun mn H O _ => ?_⟩
  refine rnM_l b z hi ?_
  unfold stM
  rw [if_pos rfl, h, if_pos rfl]
  rfl
theorem name_nm {t : Int32} (h : t = 262 ∨ t = 263 ∨ t = 264 ∨ t = 265 ∨ t = 266 ∨ t = 267) : isNm (-t) = true ∧ ¬ t = 1 ∧ 262 ≤ t ∧ ¬ t = 0 := by
  rcases h with rfl | rfl | rfl | rfl | rfl | rfl <;> decide
theorem rlO_nam {o i : Nat} (hi : i ≤ z) (ho : o ≤ 5) (h : tkP b z i = 262 ∨ tkP b z i = 263 ∨ tkP b z i = 264 ∨ tkP b z i = 265 ∨ tkP b z i = 266 ∨ tkP b z i = 267) : rlO b z o i (nxP b z i) [-tkP b z i] := by
  obtain ⟨e1, e2, e3, e4⟩ := name_nm h
  have hx := nxP_b b hi
  have h0 := hx.2.2 e4
  refine ⟨⟨h0, hx.2.1, by show 1 + i ≤ _; omega, (WFm_nam e1).mono (by omega)⟩, fun mn H O _ => ?_⟩
  refine rnM_l b z hi ?_
  unfold stM
  rw [if_pos rfl, if_neg e2, if_pos e3]
  rfl
theorem flO_no {o i : Nat} (hi : i ≤ z) (h1 : ¬ tkP b z i = 1) (h2 : ¬ 262 ≤ tkP b z i) (h3 : o = 5 ∨ (¬ tkP b z i = 45 ∧ ¬ tkP b z i = 40)) : flO b z o i i := by
  intro mn H O hm
  refine rnM_r b z hi ?_
  unfold stM
  rw [if_pos rfl, if_neg h1, if_neg h2, if_neg (fun y => hm y.2 y.1)]
  by_cases e1 : tkP b z i = 45
  · rw [if_pos e1, if_pos (h3.resolve_right (fun y => y.1 e1))]
  · rw [if_neg e1]
    by_cases e2 : tkP b z i = 40
    · rw [if_pos e2, if_pos (h3.resolve_right (fun y => y.2 e2))]
    · rw [if_neg e2]
theorem stM_neg {n : Int32} {i o : Nat} (ho : ¬ o = 5) (mn : Bool) (H O : List Int32) : stM 45 n i (true, mn, H, o, O) = .inl (true, false, -3 :: H, o + 1, O) := by
  unfold stM
  rw [if_pos rfl, if_neg (by decide), if_neg (by decide), if_neg (fun y => absurd y.1 (by decide)), if_pos rfl]
  exact if_neg ho
theorem stM_par {n : Int32} {i o : Nat} (ho : ¬ o = 5) (mn : Bool) (H O : List Int32) : stM 40 n i (true, mn, H, o, O) = .inl (true, true, 0 :: H, o + 1, O) := by
  unfold stM
  rw [if_pos rfl, if_neg (by decide), if_neg (by decide), if_neg (fun y => absurd y.1 (by decide)), if_neg (by decide), if_pos rfl]
  exact if_neg ho
theorem stM_not {n : Int32} {i o : Nat} (ho : ¬ o = 5) (H O : List Int32) : stM 261 n i (true, true, H, o, O) = .inl (true, true, -261 :: H, o + 1, O) := by
  unfold stM
  rw [if_pos rfl, if_neg (by decide), if_neg (by decide), if_pos ⟨rfl, rfl⟩]
  exact if_neg ho
theorem rlO_neg {o i j : Nat} {D : List Int32} (hi : i ≤ z) (ho : o < 5) (h : tkP b z i = 45) (R : rlO b z (o + 1) (nxP b z i) j D) : rlO b z o i j (-3 :: D) := by
  have hx := nxP_b b hi
  have h0 := hx.2.2 (by rw [h]; decide)
  obtain ⟨⟨r1, r2, r3, r4⟩, r5⟩ := R
  refine ⟨⟨by omega, r2, by rw [List.length_cons]; omega, WFm_un (Or.inr rfl) (r4.mono (by omega))⟩, fun mn H O _ => ?_⟩
  rw [rnM_l b z hi (by rw [h]; exact stM_neg (by omega) mn H O), r5 false (-3 :: H) O (fun y => by cases y)]
  rfl
theorem flO_neg {o i j : Nat} (hi : i ≤ z) (ho : o < 5) (h : tkP b z i = 45) (R : flO b z (o + 1) (nxP b z i) j) : flO b z o i j := fun mn H O _ => by
  rw [rnM_l b z hi (by rw [h]; exact stM_neg (by omega) mn H O)]
  exact R false (-3 :: H) O (fun y => by cases y)
theorem rk0 : rkS 0 = 0 := rfl
theorem stM_cl {n : Int32} {i o : Nat} {P H C : List Int32} (hP : ∀ s ∈ P, 1 ≤ rkS s) : stM 41 n i (false, false, P ++ 0 :: H, o + 1 + cnO P, C) = .inl (false, false, unW 7 H o (P.reverse ++ C)) := by
  unfold stM
  rw [if_neg Bool.false_ne_true, if_neg (by decide), if_pos rfl]
  show (match unW 1 (P ++ 0 :: H) (o + 1 + cnO P) C with | ([], _, _) => Sum.inr (false, i, []) | (_ :: H, o, O) => Sum.inl (false, false, unW 7 H (o - 1) O)) = _
  rw [unW_PH hP (hdK_c H (by rw [rk0]; decide))]
  rfl
theorem rlO_par {o i j : Nat} {D : List Int32} (hi : i ≤ z) (ho : o < 5) (h : tkP b z i = 40) (R : rlE b z 1 1 0 (o + 1) (nxP b z i) j D) (hj : tkP b z j = 41) : rlO b z o i (nxP b z j) D := by
  have hx := nxP_b b hi
  have h0 := hx.2.2 (by rw [h]; decide)
  obtain ⟨⟨r1, r2, r3, r4⟩, P, C, rfl, r6, r7, r8⟩ := R
  have hy := nxP_b b r2
  have h1 := hy.2.2 (by rw [hj]; decide)
  refine ⟨⟨by omega, hy.2.1, by omega, r4.mono (by omega)⟩, fun mn H O _ => ?_⟩
  rw [rnM_l b z hi (by rw [h]; exact stM_par (by omega) mn H O), r8 (0 :: H) O (hdK_c H (by rw [rk0]; decide)), rnM_l b z r2 (by rw [hj]; exact stM_cl r6), List.append_assoc]
theorem flO_par {o i j : Nat} (hi : i ≤ z) (ho : o < 5) (h : tkP b z i = 40) (R : flE b z 1 (o + 1) (nxP b z i) j) : flO b z o i j := fun mn H O _ => by
  rw [rnM_l b z hi (by rw [h]; exact stM_par (by omega) mn H O)]
  exact R (0 :: H) O (hdK_c H (by rw [rk0]; decide))
/-- what can't stand behind a whole or: it fails there, whatever is held below -/
theorem st_end {P H : List Int32} {o : Nat} {C : List Int32} {t n : Int32} {i : Nat} (hP : ∀ s ∈ P, 1 ≤ rkS s) (hx : (t = 60 ∨ t = 61) → exP P) (h1 : noS t) (h2 : ¬ t = 259 ∧ ¬ t = 260) (h3 : ¬ t = 41) (h4 : t = 59 → hdK 1 H ∧ ¬ H = []) : stM t n i (false, false, P ++ H, o + cnO P, C) = .inr (false, i, []) := by
  unfold stM
  rw [if_neg Bool.false_ne_true]
  by_cases e : t = 59
  · rw [if_pos e]
    show Sum.inr (if isNl (unW 1 (P ++ H) (o + cnO P) C).1 = true then _ else _) = _
    rw [unW_PH hP (h4 e).1]
    cases H with
    | nil => exact absurd rfl (h4 e).2
    | cons x H => rfl
  · rw [if_neg e, if_neg h3]
    by_cases ho : isOp t = true
    · rw [if_pos ho]
      have ht : t = 60 ∨ t = 61 := by
        rcases isOp_c ho with h | h | h | h | h | h | h
        · exact absurd h h2.1
        · exact absurd h h2.2
        · exact Or.inl h
        · exact Or.inr h
        · exact absurd h h1.2.1
        · exact absurd h h1.2.2
        · exact absurd h h1.1
      obtain ⟨P1, x, P2, rfl, hp1, hx4⟩ := hx ht
      have hr : rkS (-t) = 4 := by rcases ht with rfl | rfl <;> rfl
      refine if_pos ⟨hr, ?_⟩
      show hd4 (unW 5 ((P1 ++ x :: P2) ++ H) (o + cnO (P1 ++ x :: P2)) C).1 = true
      rw [List.append_assoc, cnO_app, show o + (cnO P1 + cnO (x :: P2)) = (o + cnO (x :: P2)) + cnO P1 by omega, unW_PH hp1 (show hdK 5 ((x :: P2) ++ H) from hdK_c (P2 ++ H) (by rw [hx4]; decide))]
      exact decide_eq_true hx4
    · rw [if_neg ho]
theorem flO_unc {o i j : Nat} {D : List Int32} (hi : i ≤ z) (ho : o < 5) (h : tkP b z i = 40) (R : rlE b z 1 1 0 (o + 1) (nxP b z i) j D) (h1 : noS (tkP b z j)) (h2 : ¬ tkP b z j = 259 ∧ ¬ tkP b z j = 260) (hj : ¬ tkP b z j = 41) : flO b z o i j := by
  obtain ⟨⟨r1, r2, r3, r4⟩, P, C, rfl, r6, r7, r8⟩ := R
  intro mn H O _
  rw [rnM_l b z hi (by rw [h]; exact stM_par (by omega) mn H O), r8 (0 :: H) O (hdK_c H (by rw [rk0]; decide))]
  exact rnM_r b z r2 (st_end r6 r7 h1 h2 hj (fun _ => ⟨hdK_c H (by rw [rk0]; decide), by simp⟩))
/-- a sign between two, when all that binds at least so has come -/
theorem stM_op {t n : Int32} {i o : Nat} {P H C : List Int32} {k : Nat} (ht : isOp t = true) (hk : (if rkS (-t) = 4 then 5 else rkS (-t)) = k) (hP : ∀ s ∈ P, k ≤ rkS s) (hH : hdK k H) (h4 : rkS (-t) = 4 → hdK 4 H) : stM t n i (false, false, P ++ H, o + cnO P, C) = .inl (true, decide (rkS (-t) ≤ 2), -t :: H, o, P.reverse ++ C) := by
  have e59 : ¬ t = 59 ∧ ¬ t = 41 := by rcases isOp_c ht with h | h | h | h | h | h | h <;> rw [h] <;> decide
  unfold stM
  rw [if_neg Bool.false_ne_true, if_neg e59.1, if_neg e59.2, if_pos ht, hk]
  show (if rkS (-t) = 4 ∧ hd4 (unW 5 (P ++ H) (o + cnO P) C).1 = true then Sum.inr (false, i, []) else Sum.inl (true, decide (rkS (-t) ≤ 2), -t :: (unW k (P ++ H) (o + cnO P) C).1, (unW k (P ++ H) (o + cnO P) C).2)) = _
  rw [unW_PH hP hH, if_neg ?_]
  rintro ⟨h5, h6⟩
  rw [if_pos h5] at hk
  subst hk
  rw [unW_PH hP hH] at h6
  cases H with
  | nil => cases h6
  | cons x H =>
    have h7 : rkS x = 4 := of_decide_eq_true h6
    have h8 := h4 h5 x rfl
    omega
/-! a term -/
theorem rlS_one {o i j : Nat} {D : List Int32} (R : rlO b z o i j D) : rlS b z 6 o i j D := by
  obtain ⟨⟨r1, r2, r3, r4⟩, r5⟩ := R
  refine ⟨⟨r1, r2, r3, r4.mono (by omega)⟩, [], D, rfl, (fun s hs => absurd hs List.not_mem_nil), rfl, fun mn H O hH hm => ?_⟩
  rw [r5 mn H O hm, unW_hd _ _ (hdK_mono hH (by decide))]
  rfl
theorem flS_one {o i j : Nat} (R : flO b z o i j) : flS b z 6 o i j := fun mn H O _ hm => R mn H O hm
theorem rlS_up {o i j : Nat} {D : List Int32} (R : rlS b z 6 o i j D) : rlS b z 5 o i j D := by
  obtain ⟨⟨r1, r2, r3, r4⟩, P, C, e, r6, r7, r8⟩ := R
  exact ⟨⟨r1, r2, r3, r4.mono (by omega)⟩, P, C, e, fun s hs => Nat.le_trans (by decide) (r6 s hs), r7, fun mn H O hH hm => r8 mn H O (hdK_mono hH (by decide)) hm⟩
theorem flS_up {o i j : Nat} (R : flS b z 6 o i j) : flS b z 5 o i j := fun mn H O hH hm => R mn H O (hdK_mono hH (by decide)) hm
theorem rlS_mul {o i j k : Nat} {D E : List Int32} (R : rlS b z 6 o i j D) (h : tkP b z j = 42) (R2 : rlO b z o (nxP b z j) k E) : rlS b z 6 o i k (-42 :: (E ++ D)) := by
  obtain ⟨⟨r1, r2, r3, r4⟩, P, C, e, r6, r7, r8⟩ := R
  obtain ⟨⟨q1, q2, q3, q4⟩, q5⟩ := R2
  have hx := nxP_b b r2
  have h0 := hx.2.2 (by rw [h]; decide)
  refine ⟨⟨by omega, q2, by rw [List.length_cons, List.length_append]; omega, WFm_bin (t := 42) (by decide) r4 (q4.mono (by omega))⟩, [-42], E ++ D, rfl, fun s hs => by rw [List.mem_singleton.mp hs]; decide, rfl, fun mn H O hH hm => ?_⟩
  have e1 : rnM b z (false, false, P ++ H, o, C ++ O) j = rnM b z (true, false, -42 :: H, o, P.reverse ++ (C ++ O)) (nxP b z j) := rnM_l b z r2 (by rw [h]; have h9 := stM_op (t := 42) (n := nmP b z j) (i := j) (o := o) (P := P) (H := H) (C := C ++ O) (k := 6) (by decide) (by decide) r6 hH (fun y => absurd y (by decide)); rw [r7] at h9; exact h9)
  rw [r8 mn H O hH hm, e1, q5 false (-42 :: H) _ (fun y => by cases y), unW_hd _ _ (hdK_c H (by decide)), e, List.append_assoc, List.append_assoc]
  rfl
theorem flS_mul {o i j k : Nat} {D : List Int32} (R : rlS b z 6 o i j D) (h : tkP b z j = 42) (R2 : flO b z o (nxP b z j) k) : flS b z 6 o i k := by
  obtain ⟨⟨r1, r2, r3, r4⟩, P, C, e, r6, r7, r8⟩ := R
  intro mn H O hH hm
  have e1 : rnM b z (false, false, P ++ H, o, C ++ O) j = rnM b z (true, false, -42 :: H, o, P.reverse ++ (C ++ O)) (nxP b z j) := rnM_l b z r2 (by rw [h]; have h9 := stM_op (t := 42) (n := nmP b z j) (i := j) (o := o) (P := P) (H := H) (C := C ++ O) (k := 6) (by decide) (by decide) r6 hH (fun y => absurd y (by decide)); rw [r7] at h9; exact h9)
  rw [r8 mn H O hH hm, e1, R2 false (-42 :: H) _ (fun y => by cases y)]
/-! a sum -/
theorem rk_pm {t : Int32} (h : t = 43 ∨ t = 45) : isOp t = true ∧ rkS (-t) = 5 ∧ ¬ t = 0 ∧ opS (-t) = 0 := by rcases h with rfl | rfl <;> decide
theorem rlS_add {o i j k : Nat} {D E : List Int32} (R : rlS b z 5 o i j D) (h : tkP b z j = 43 ∨ tkP b z j = 45) (R2 : rlS b z 6 o (nxP b z j) k E) : rlS b z 5 o i k (-tkP b z j :: (E ++ D)) := by
  obtain ⟨⟨r1, r2, r3, r4⟩, P, C, e, r6, r7, r8⟩ := R
  obtain ⟨⟨q1, q2, q3, q4⟩, P2, C2, e2, q6, q7, q8⟩ := R2
  obtain ⟨o1, o2, o3, o4⟩ := rk_pm h
  have hx := nxP_b b r2
  have h0 := hx.2.2 o3
  refine ⟨⟨by omega, q2, by rw [List.length_cons, List.length_append]; omega, WFm_bin o1 r4 (q4.mono (by omega))⟩, P2 ++ [-tkP b z j], C2 ++ D, by rw [e2]; simp, fun s hs => ?_, by rw [cnO_app, q7]; show 0 + (opS (-tkP b z j) + 0) = 0; rw [o4], fun mn H O hH hm => ?_⟩
  · rcases List.mem_append.mp hs with hs | hs
    · exact Nat.le_trans (by decide) (q6 s hs)
    · rw [List.mem_singleton.mp hs, o2]; exact Nat.le_refl _
  · have e1 : rnM b z (false, false, P ++ H, o, C ++ O) j = rnM b z (true, false, -tkP b z j :: H, o, P.reverse ++ (C ++ O)) (nxP b z j) := rnM_l b z r2 (by have h9 := stM_op (t := tkP b z j) (n := nmP b z j) (i := j) (o := o) (P := P) (H := H) (C := C ++ O) (k := 5) o1 (by rw [o2]; rfl) r6 hH (fun y => by rw [o2] at y; cases y); rw [r7, o2] at h9; exact h9)
    rw [r8 mn H O hH hm, e1, q8 false (-tkP b z j :: H) _ (hdK_c H (by rw [o2]; decide)) (fun y => by cases y), e, List.append_assoc, List.append_assoc, List.append_assoc]
    rfl
theorem flS_add {o i j k : Nat} {D : List Int32} (R : rlS b z 5 o i j D) (h : tkP b z j = 43 ∨ tkP b z j = 45) (R2 : flS b z 6 o (nxP b z j) k) : flS b z 5 o i k := by
  obtain ⟨⟨r1, r2, r3, r4⟩, P, C, e, r6, r7, r8⟩ := R
  obtain ⟨o1, o2, o3, o4⟩ := rk_pm h
  intro mn H O hH hm
  have e1 : rnM b z (false, false, P ++ H, o, C ++ O) j = rnM b z (true, false, -tkP b z j :: H, o, P.reverse ++ (C ++ O)) (nxP b z j) := rnM_l b z r2 (by have h9 := stM_op (t := tkP b z j) (n := nmP b z j) (i := j) (o := o) (P := P) (H := H) (C := C ++ O) (k := 5) o1 (by rw [o2]; rfl) r6 hH (fun y => by rw [o2] at y; cases y); rw [r7, o2] at h9; exact h9)
  rw [r8 mn H O hH hm, e1, R2 false (-tkP b z j :: H) _ (hdK_c H (by rw [o2]; decide)) (fun y => by cases y)]
/-! a not -/
theorem rk_cm {t : Int32} (h : t = 60 ∨ t = 61) : isOp t = true ∧ rkS (-t) = 4 ∧ ¬ t = 0 ∧ opS (-t) = 0 := by rcases h with rfl | rfl <;> decide
theorem rlE_sum {o i j : Nat} {D : List Int32} (hi : ¬ tkP b z i = 261) (R : rlS b z 5 o i j D) (h : ¬ (tkP b z j = 60 ∨ tkP b z j = 61)) : rlE b z 3 4 2 o i j D := by
  obtain ⟨⟨r1, r2, r3, r4⟩, P, C, e, r6, r7, r8⟩ := R
  refine ⟨⟨r1, r2, r3, r4.mono (by omega)⟩, P, C, e, fun s hs => Nat.le_trans (by decide) (r6 s hs), fun y => absurd y h, fun H O hH => ?_⟩
  rw [r7]
  exact r8 true H O (hdK_mono hH (by decide)) (fun _ => hi)
theorem flE_sum {o i j : Nat} (hi : ¬ tkP b z i = 261) (R : flS b z 5 o i j) : flE b z 4 o i j := fun H O hH => R true H O (hdK_mono hH (by decide)) (fun _ => hi)
theorem rlE_cmp {o i j k : Nat} {D E : List Int32} (hi : ¬ tkP b z i = 261) (R : rlS b z 5 o i j D) (h : tkP b z j = 60 ∨ tkP b z j = 61) (R2 : rlS b z 5 o (nxP b z j) k E) : rlE b z 3 4 2 o i k (-tkP b z j :: (E ++ D)) := by
  obtain ⟨⟨r1, r2, r3, r4⟩, P, C, e, r6, r7, r8⟩ := R
  obtain ⟨⟨q1, q2, q3, q4⟩, P2, C2, e2, q6, q7, q8⟩ := R2
  obtain ⟨o1, o2, o3, o4⟩ := rk_cm h
  have hx := nxP_b b r2
  have h0 := hx.2.2 o3
  refine ⟨⟨by omega, q2, by rw [List.length_cons, List.length_append]; omega, WFm_bin o1 (r4.mono (by omega)) (q4.mono (by omega))⟩, P2 ++ [-tkP b z j], C2 ++ D, by rw [e2]; simp, fun s hs => ?_, fun _ => ⟨P2, _, [], rfl, q6, o2⟩, fun H O hH => ?_⟩
  · rcases List.mem_append.mp hs with hs | hs
    · exact Nat.le_trans (by decide) (q6 s hs)
    · rw [List.mem_singleton.mp hs, o2]; decide
  · have e1 : rnM b z (false, false, P ++ H, o, C ++ O) j = rnM b z (true, false, -tkP b z j :: H, o, P.reverse ++ (C ++ O)) (nxP b z j) := rnM_l b z r2 (by have h9 := stM_op (t := tkP b z j) (n := nmP b z j) (i := j) (o := o) (P := P) (H := H) (C := C ++ O) (k := 5) o1 (by rw [o2]; rfl) r6 (hdK_mono hH (by decide)) (fun _ => hH); rw [r7, o2] at h9; exact h9)
    rw [r8 true H O (hdK_mono hH (by decide)) (fun _ => hi), e1, q8 false (-tkP b z j :: H) _ (hdK_c H (by rw [o2]; decide)) (fun y => by cases y), e, List.append_assoc, List.append_assoc, List.append_assoc, cnO_app, q7]
    show _ = rnM b z (false, false, P2 ++ ([-tkP b z j] ++ H), o + (0 + (opS (-tkP b z j) + 0)), _) k
    rw [o4]
    rfl
theorem flE_cmp {o i j k : Nat} {D : List Int32} (hi : ¬ tkP b z i = 261) (R : rlS b z 5 o i j D) (h : tkP b z j = 60 ∨ tkP b z j = 61) (R2 : flS b z 5 o (nxP b z j) k) : flE b z 4 o i k := by
  obtain ⟨⟨r1, r2, r3, r4⟩, P, C, e, r6, r7, r8⟩ := R
  obtain ⟨o1, o2, o3, o4⟩ := rk_cm h
  intro H O hH
  have e1 : rnM b z (false, false, P ++ H, o, C ++ O) j = rnM b z (true, false, -tkP b z j :: H, o, P.reverse ++ (C ++ O)) (nxP b z j) := rnM_l b z r2 (by have h9 := stM_op (t := tkP b z j) (n := nmP b z j) (i := j) (o := o) (P := P) (H := H) (C := C ++ O) (k := 5) o1 (by rw [o2]; rfl) r6 (hdK_mono hH (by decide)) (fun _ => hH); rw [r7, o2] at h9; exact h9)
  rw [r8 true H O (hdK_mono hH (by decide)) (fun _ => hi), e1, R2 false (-tkP b z j :: H) _ (hdK_c H (by rw [o2]; decide)) (fun y => by cases y)]
theorem exP_app {P Q : List Int32} (h : exP P) : exP (P ++ Q) := by
  obtain ⟨P1, x, P2, rfl, h1, h2⟩ := h
  exact ⟨P1, x, P2 ++ Q, by simp, h1, h2⟩
theorem rlE_not {o i j : Nat} {D : List Int32} (hi : i ≤ z) (ho : o < 5) (h : tkP b z i = 261) (R : rlE b z 3 4 2 (o + 1) (nxP b z i) j D) : rlE b z 3 4 2 o i j (-261 :: D) := by
  have hx := nxP_b b hi
  have h0 := hx.2.2 (by rw [h]; decide)
  obtain ⟨⟨r1, r2, r3, r4⟩, P, C, e, r6, r7, r8⟩ := R
  refine ⟨⟨by omega, r2, by rw [List.length_cons]; omega, WFm_un (Or.inl rfl) (r4.mono (by omega))⟩, P ++ [-261], C, by rw [e]; simp, fun s hs => ?_, fun y => exP_app (r7 y), fun H O hH => ?_⟩
  · rcases List.mem_append.mp hs with hs | hs
    · exact r6 s hs
    · rw [List.mem_singleton.mp hs]; decide
  · rw [rnM_l b z hi (by rw [h]; exact stM_not (by omega) H O), r8 (-261 :: H) O (hdK_c H (by decide)), cnO_app, List.append_assoc]
    show _ = rnM b z (false, false, P ++ ([-261] ++ H), o + (cnO P + 1), C ++ O) j
    rw [show o + (cnO P + 1) = o + 1 + cnO P by omega]
    rfl
theorem flE_not {o i j : Nat} (hi : i ≤ z) (ho : o < 5) (h : tkP b z i = 261) (R : flE b z 4 (o + 1) (nxP b z i) j) : flE b z 4 o i j := fun H O hH => by
  rw [rnM_l b z hi (by rw [h]; exact stM_not (by omega) H O)]
  exact R (-261 :: H) O (hdK_c H (by decide))
theorem flE_n5 {i : Nat} (hi : i ≤ z) (h : tkP b z i = 261) : flE b z 4 5 i i := fun H O hH => by
  refine rnM_r b z hi ?_
  rw [h]
  unfold stM
  rw [if_pos rfl, if_neg (by decide), if_neg (by decide), if_pos ⟨rfl, rfl⟩]
  exact if_pos rfl
/-! an and, an or: k 2 and 1, the sign 260 and 259; what binds more: hk 4 and 2 -/
theorem rlE_up {k hk w k' hk' w' o i j : Nat} {D : List Int32} (R : rlE b z k hk w o i j D) (h1 : k' ≤ k) (h2 : hk' ≤ hk) (h3 : w' ≤ w) : rlE b z k' hk' w' o i j D := by
  obtain ⟨⟨r1, r2, r3, r4⟩, P, C, e, r6, r7, r8⟩ := R
  exact ⟨⟨r1, r2, r3, r4.mono (by omega)⟩, P, C, e, fun s hs => Nat.le_trans h1 (r6 s hs), r7, fun H O hH => r8 H O (hdK_mono hH h2)⟩
theorem flE_up {hk hk' o i j : Nat} (R : flE b z hk o i j) (h2 : hk' ≤ hk) : flE b z hk' o i j := fun H O hH => R H O (hdK_mono hH h2)
theorem rlE_bin {k t' hk w o i j m : Nat} {D E : List Int32} {t : Int32} (hk2 : (k = 2 ∧ t = 260 ∧ t' = 3 ∧ hk = 4 ∧ w = 1) ∨ (k = 1 ∧ t = 259 ∧ t' = 2 ∧ hk = 2 ∧ w = 0)) (R : rlE b z k k w o i j D) (h : tkP b z j = t) (R2 : rlE b z t' hk (w + 1) o (nxP b z j) m E) : rlE b z k k w o i m (-t :: (E ++ D)) := by
  obtain ⟨⟨r1, r2, r3, r4⟩, P, C, e, r6, r7, r8⟩ := R
  obtain ⟨⟨q1, q2, q3, q4⟩, P2, C2, e2, q6, q7, q8⟩ := R2
  have o1 : isOp t = true ∧ rkS (-t) = k ∧ ¬ t = 0 ∧ opS (-t) = 0 ∧ ¬ k = 4 ∧ k ≤ 2 ∧ k < hk ∧ k ≤ t' := by
    rcases hk2 with ⟨rfl, rfl, rfl, rfl, -⟩ | ⟨rfl, rfl, rfl, rfl, -⟩ <;> decide
  obtain ⟨o1, o2, o3, o4, o5, o6, o7, o8⟩ := o1
  have hx := nxP_b b r2
  have h0 := hx.2.2 (by rw [h]; exact o3)
  refine ⟨⟨by omega, q2, by rw [List.length_cons, List.length_append]; omega, WFm_bin o1 r4 (q4.mono (by omega))⟩, P2 ++ [-t], C2 ++ D, by rw [e2]; simp, fun s hs => ?_, fun y => exP_app (q7 y), fun H O hH => ?_⟩
  · rcases List.mem_append.mp hs with hs | hs
    · exact Nat.le_trans o8 (q6 s hs)
    · rw [List.mem_singleton.mp hs, o2]; exact Nat.le_refl _
  · have e1 : rnM b z (false, false, P ++ H, o + cnO P, C ++ O) j = rnM b z (true, true, -t :: H, o, P.reverse ++ (C ++ O)) (nxP b z j) := rnM_l b z r2 (by have h9 := stM_op (t := t) (n := nmP b z j) (i := j) (o := o) (P := P) (H := H) (C := C ++ O) (k := k) o1 (by rw [o2]; exact if_neg o5) r6 hH (fun y => by rw [o2] at y; exact absurd y o5); rw [o2, decide_eq_true o6] at h9; rw [h]; exact h9)
    rw [r8 H O hH, e1, q8 (-t :: H) _ (hdK_c H (by rw [o2]; exact o7)), e, List.append_assoc, List.append_assoc, List.append_assoc, cnO_app]
    show _ = rnM b z (false, false, P2 ++ ([-t] ++ H), o + (cnO P2 + (opS (-t) + 0)), _) m
    rw [o4]
    rfl
theorem flE_bin {k t' hk w o i j m : Nat} {D : List Int32} {t : Int32} (hk2 : (k = 2 ∧ t = 260 ∧ t' = 3 ∧ hk = 4 ∧ w = 1) ∨ (k = 1 ∧ t = 259 ∧ t' = 2 ∧ hk = 2 ∧ w = 0)) (R : rlE b z k k w o i j D) (h : tkP b z j = t) (R2 : flE b z hk o (nxP b z j) m) : flE b z k o i m := by
  obtain ⟨⟨r1, r2, r3, r4⟩, P, C, e, r6, r7, r8⟩ := R
  have o1 : isOp t = true ∧ rkS (-t) = k ∧ ¬ t = 0 ∧ opS (-t) = 0 ∧ ¬ k = 4 ∧ k ≤ 2 ∧ k < hk ∧ k ≤ t' := by
    rcases hk2 with ⟨rfl, rfl, rfl, rfl, -⟩ | ⟨rfl, rfl, rfl, rfl, -⟩ <;> decide
  obtain ⟨o1, o2, o3, o4, o5, o6, o7, o8⟩ := o1
  intro H O hH
  have e1 : rnM b z (false, false, P ++ H, o + cnO P, C ++ O) j = rnM b z (true, true, -t :: H, o, P.reverse ++ (C ++ O)) (nxP b z j) := rnM_l b z r2 (by have h9 := stM_op (t := t) (n := nmP b z j) (i := j) (o := o) (P := P) (H := H) (C := C ++ O) (k := k) o1 (by rw [o2]; exact if_neg o5) r6 hH (fun y => by rw [o2] at y; exact absurd y o5); rw [o2, decide_eq_true o6] at h9; rw [h]; exact h9)
  rw [r8 H O hH, e1, R2 (-t :: H) _ (hdK_c H (by rw [o2]; exact o7))]
/-! a part: up to its ; -/
theorem rlT_ok {i j : Nat} {D : List Int32} (R : rlE b z 1 1 0 0 i j D) (h : tkP b z j = 59) : rnM b z (true, true, [], 0, []) i = (true, j, D) := by
  obtain ⟨⟨r1, r2, r3, r4⟩, P, C, e, r6, r7, r8⟩ := R
  rw [r8 [] [] (fun s hs => by cases hs)]
  refine rnM_r b z r2 ?_
  rw [h]
  unfold stM
  rw [if_neg Bool.false_ne_true, if_pos rfl]
  show Sum.inr (if isNl (unW 1 (P ++ []) (0 + cnO P) (C ++ [])).1 = true then (true, j, (unW 1 (P ++ []) (0 + cnO P) (C ++ [])).2.2) else (false, j, [])) = _
  rw [unW_PH r6 (fun s hs => by cases hs), e, List.append_nil]
  rfl
theorem rlT_no {i j : Nat} {D : List Int32} (R : rlE b z 1 1 0 0 i j D) (h1 : noS (tkP b z j)) (h2 : ¬ tkP b z j = 259 ∧ ¬ tkP b z j = 260) (h : ¬ tkP b z j = 59) : rnM b z (true, true, [], 0, []) i = (false, j, []) := by
  obtain ⟨⟨r1, r2, r3, r4⟩, P, C, e, r6, r7, r8⟩ := R
  rw [r8 [] [] (fun s hs => by cases hs)]
  refine rnM_r b z r2 ?_
  by_cases h41 : tkP b z j = 41
  · rw [h41]
    unfold stM
    rw [if_neg Bool.false_ne_true, if_neg (by decide), if_pos rfl]
    show (match unW 1 (P ++ []) (0 + cnO P) (C ++ []) with | ([], _, _) => Sum.inr (false, j, []) | (_ :: H, o, O) => Sum.inl (false, false, unW 7 H (o - 1) O)) = _
    rw [unW_PH r6 (fun s hs => by cases hs)]
  · exact st_end r6 r7 h1 h2 h41 (fun y => absurd y h)
theorem flT {i j : Nat} (R : flE b z 1 0 i j) : rnM b z (true, true, [], 0, []) i = (false, j, []) := R [] [] (fun s hs => by cases hs)
end RL
