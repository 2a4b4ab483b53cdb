/-! WAYS -/
def sg (p : Prop) [Decidable p] (t v : Nat) : Nat := if p then (if v < t then v else t) else t
theorem sg_1 (p : Prop) [Decidable p] (t v : Nat) : sg p t v ≤ t := by
  unfold sg
  split
  · split <;> omega
  · omega
theorem sg_2 {p : Prop} [Decidable p] (hp : p) (t v : Nat) : sg p t v ≤ v := by
  unfold sg
  rw [if_pos hp]
  split <;> omega
theorem sg_3 {p : Prop} [Decidable p] {t v B : Nat} (h1 : B ≤ t) (h2 : p → B ≤ v) : B ≤ sg p t v := by
  unfold sg
  split
  · have := h2 (by assumption)
    split <;> omega
  · exact h1
theorem mn_n {x y : Nat} (hx : x < 2 ^ 31) (hy : y < 2 ^ 31) : mnF (nI x) (nI y) = nI (if y < x then y else x) := by
  unfold mnF
  by_cases h : y < x
  · rw [if_pos h, if_pos (nI_lt h hx)]
  · rw [if_neg h, if_neg (fun z => h ((nI_ltI hy hx).mp z))]
theorem sg_i {p : Prop} [Decidable p] {t v : Nat} {x : Int32} (ht : t < 2 ^ 31) (hv : p → x = nI v ∧ v < 2 ^ 31) : (if p then mnF (nI t) x else nI t) = nI (sg p t v) := by
  unfold sg
  by_cases hp : p
  · rw [if_pos hp, if_pos hp, (hv hp).1]
    exact mn_n ht (hv hp).2
  · rw [if_neg hp, if_neg hp]
def lbN (y : Nat → Nat) (c : Nat) : Nat := sg (c / 4 < 3) (sg (0 < c / 4) (sg (c % 4 < 3) (sg (0 < c % 4) 1000000 (y (c - 1))) (y (c + 1))) (y (c - 4))) (y (c + 4))
theorem lb_n {ls : Nat → Int32} {y : Nat → Nat} (h : ∀ j, j < 16 → ls j = nI (y j) ∧ y j ≤ 1000000) {c : Nat} (hc : c < 16) : lbF ls c = nI (lbN y c) ∧ lbN y c ≤ 1000000 := by
  have hv : ∀ j, j < 16 → ls j = nI (y j) ∧ y j < 2 ^ 31 := fun j hj => ⟨(h j hj).1, by have := (h j hj).2; omega⟩
  have s1 := sg_1 (0 < c % 4) 1000000 (y (c - 1))
  have e1 : (if 0 < c % 4 then mnF 1000000 (ls (c - 1)) else 1000000) = nI (sg (0 < c % 4) 1000000 (y (c - 1))) := sg_i (t := 1000000) (by decide) (fun _ => hv _ (by omega))
  have s2 := sg_1 (c % 4 < 3) (sg (0 < c % 4) 1000000 (y (c - 1))) (y (c + 1))
  have e2 := sg_i (p := c % 4 < 3) (t := sg (0 < c % 4) 1000000 (y (c - 1))) (v := y (c + 1)) (x := ls (c + 1)) (by omega) (fun _ => hv _ (by omega))
  have s3 := sg_1 (0 < c / 4) (sg (c % 4 < 3) (sg (0 < c % 4) 1000000 (y (c - 1))) (y (c + 1))) (y (c - 4))
  have e3 := sg_i (p := 0 < c / 4) (t := sg (c % 4 < 3) (sg (0 < c % 4) 1000000 (y (c - 1))) (y (c + 1))) (v := y (c - 4)) (x := ls (c - 4)) (by omega) (fun _ => hv _ (by omega))
  have s4 := sg_1 (c / 4 < 3) (sg (0 < c / 4) (sg (c % 4 < 3) (sg (0 < c % 4) 1000000 (y (c - 1))) (y (c + 1))) (y (c - 4))) (y (c + 4))
  have e4 := sg_i (p := c / 4 < 3) (t := sg (0 < c / 4) (sg (c % 4 < 3) (sg (0 < c % 4) 1000000 (y (c - 1))) (y (c + 1))) (y (c - 4))) (v := y (c + 4)) (x := ls (c + 4)) (by omega) (fun _ => hv _ (by omega))
  refine ⟨?_, by unfold lbN; omega⟩
  unfold lbF
  rw [e1]
  dsimp only
  rw [e2, e3, e4]
  rfl
abbrev bsd (d c : Nat) : Prop := (c = d + 1 ∧ d % 4 < 3) ∨ (d = c + 1 ∧ c % 4 < 3) ∨ (c = d + 4 ∧ d < 12) ∨ (d = c + 4 ∧ c < 12)
theorem lbN_le (y : Nat → Nat) {d c : Nat} (hd : d < 16) (hc : c < 16) (h : bsd d c) : lbN y c ≤ y d := by
  unfold lbN
  have a1 := sg_1 (c / 4 < 3) (sg (0 < c / 4) (sg (c % 4 < 3) (sg (0 < c % 4) 1000000 (y (c - 1))) (y (c + 1))) (y (c - 4))) (y (c + 4))
  have a2 := sg_1 (0 < c / 4) (sg (c % 4 < 3) (sg (0 < c % 4) 1000000 (y (c - 1))) (y (c + 1))) (y (c - 4))
  have a3 := sg_1 (c % 4 < 3) (sg (0 < c % 4) 1000000 (y (c - 1))) (y (c + 1))
  rcases h with ⟨h1, h2⟩ | ⟨h1, h2⟩ | ⟨h1, h2⟩ | ⟨h1, h2⟩
  · have b := sg_2 (show 0 < c % 4 by omega) 1000000 (y (c - 1))
    rw [show d = c - 1 by omega]
    omega
  · have b := sg_2 h2 (sg (0 < c % 4) 1000000 (y (c - 1))) (y (c + 1))
    rw [h1]
    omega
  · have b := sg_2 (show 0 < c / 4 by omega) (sg (c % 4 < 3) (sg (0 < c % 4) 1000000 (y (c - 1))) (y (c + 1))) (y (c - 4))
    rw [show d = c - 4 by omega]
    omega
  · have b := sg_2 (show c / 4 < 3 by omega) (sg (0 < c / 4) (sg (c % 4 < 3) (sg (0 < c % 4) 1000000 (y (c - 1))) (y (c + 1))) (y (c - 4))) (y (c + 4))
    rw [h1]
    exact b
theorem lbN_ge {y : Nat → Nat} {c B : Nat} (hc : c < 16) (hB : B ≤ 1000000) (h : ∀ d, d < 16 → bsd d c → B ≤ y d) : B ≤ lbN y c := by
  unfold lbN
  refine sg_3 (sg_3 (sg_3 (sg_3 hB fun z => ?_) fun z => ?_) fun z => ?_) fun z => ?_
  · exact h _ (by omega) (Or.inl (by omega))
  · exact h _ (by omega) (Or.inr (Or.inl (by omega)))
  · exact h _ (by omega) (Or.inr (Or.inr (Or.inl (by omega))))
  · exact h _ (by omega) (Or.inr (Or.inr (Or.inr (by omega))))
/-- what the reference finds: least, and reached -/
def wkN (P : Nat → Nat) (a : Nat) : Nat → Nat → Nat → Prop
  | 0, c, x => c = a ∧ x = P a
  | n + 1, c, x => ∃ d y, d < 16 ∧ bsd d c ∧ wkN P a n d y ∧ x = y + P c
def wOk (P : Nat → Nat) (a : Nat) (W : Nat → Nat) : Prop := (∀ d c, d < 16 → c < 16 → bsd d c → W c ≤ W d + P c) ∧ (∀ c, c < 16 → ∃ n, wkN P a n c (W c)) ∧ W a ≤ P a ∧ ∀ c, c < 16 → W c ≤ 3200
theorem wk_lo {P : Nat → Nat} {a : Nat} {W : Nat → Nat} (h1 : ∀ d c, d < 16 → c < 16 → bsd d c → W c ≤ W d + P c) (h3 : W a ≤ P a) : ∀ n c x, c < 16 → wkN P a n c x → W c ≤ x
  | 0, c, x, _, h => by
    obtain ⟨rfl, rfl⟩ := h
    exact h3
  | n + 1, c, x, hc, h => by
    obtain ⟨d, y, hd, hb, hw, rfl⟩ := h
    have a1 := wk_lo h1 h3 n d y hd hw
    have a2 := h1 d c hd hc hb
    omega
theorem wk_a {P : Nat → Nat} {a : Nat} : ∀ n x, wkN P a n a x → P a ≤ x
  | 0, x, h => by obtain ⟨-, rfl⟩ := h; exact Nat.le_refl _
  | n + 1, x, h => by
    obtain ⟨d, y, hd, hb, hw, rfl⟩ := h
    omega
def wCI (W : Nat → Nat) (ls : Nat → Int32) : Prop := ∀ c, c < 16 → ls c = nI (ls c).toNatClampNeg ∧ W c ≤ (ls c).toNatClampNeg ∧ (ls c).toNatClampNeg ≤ 1000000
def wT (W : Nat → Nat) (ls : Nat → Int32) (c : Nat) : Bool := decide (ls c = nI (W c))
theorem wy_step {P W : Nat → Nat} {pr ls : Nat → Int32} {c : Nat} (hp : ∀ c, c < 16 → pr c = nI (P c) ∧ P c ≤ 200) (h1 : ∀ d c, d < 16 → c < 16 → bsd d c → W c ≤ W d + P c) (h4 : ∀ c, c < 16 → W c ≤ 3200) (hc : c < 16) (C : wCI W ls) : wCI W (upd ls c (mnF (ls c) (lbF ls c + pr c))) ∧ (∀ j, j < 16 → wT W ls j = true → wT W (upd ls c (mnF (ls c) (lbF ls c + pr c))) j = true) ∧ (∀ d, d < 16 → bsd d c → wT W ls d = true → W c = W d + P c → wT W (upd ls c (mnF (ls c) (lbF ls c + pr c))) c = true) := by
  obtain ⟨y, hy⟩ : ∃ y : Nat → Nat, y = fun j => (ls j).toNatClampNeg := ⟨_, rfl⟩
  have hyj : ∀ j, (ls j).toNatClampNeg = y j := fun j => by rw [hy]
  have C' : ∀ j, j < 16 → ls j = nI (y j) ∧ W j ≤ y j ∧ y j ≤ 1000000 := fun j hj => by have h := C j hj; rw [hyj j] at h; exact h
  obtain ⟨e1, e2⟩ := lb_n (ls := ls) (y := y) (fun j hj => ⟨(C' j hj).1, (C' j hj).2.2⟩) hc
  have hyc := C' c hc
  have hpc := hp c hc
  have hWc := h4 c hc
  have lo : W c - P c ≤ lbN y c := lbN_ge hc (by omega) (fun d hd hb => by have a := h1 d c hd hc hb; have b := (C' d hd).2.1; omega)
  have ev : mnF (ls c) (lbF ls c + pr c) = nI (if lbN y c + P c < y c then lbN y c + P c else y c) := by
    rw [e1, hpc.1, nI_add, hyc.1]
    exact mn_n (by omega) (by omega)
  obtain ⟨v, hv⟩ : ∃ v, v = (if lbN y c + P c < y c then lbN y c + P c else y c) := ⟨_, rfl⟩
  rw [ev, ← hv]
  have v1 : W c ≤ v := by rw [hv]; split <;> omega
  have v2 : v ≤ y c := by rw [hv]; split <;> omega
  have v3 : v ≤ lbN y c + P c := by rw [hv]; split <;> omega
  refine ⟨fun j hj => ?_, fun j hj hT => ?_, fun d hd hb hT hW => ?_⟩
  · by_cases e : j = c
    · subst e
      rw [upd_s, nI_clamp (by omega)]
      exact ⟨rfl, v1, by omega⟩
    · rw [upd_n _ _ e]
      exact C j hj
  · unfold wT at hT ⊢
    rw [decide_eq_true_iff] at hT ⊢
    by_cases e : j = c
    · subst e
      rw [upd_s]
      have h5 : y j = W j := by rw [hyc.1] at hT; exact (nI_eq (by omega) (by omega)).mp hT
      rw [show v = W j by omega]
    · rw [upd_n _ _ e]
      exact hT
  · unfold wT at hT ⊢
    rw [decide_eq_true_iff] at hT ⊢
    rw [upd_s]
    have hWd := h4 d hd
    have h5 : y d = W d := by rw [(C' d hd).1] at hT; exact (nI_eq (by have := (C' d hd).2.2; omega) (by omega)).mp hT
    have h6 := lbN_le y hd hc hb
    rw [show v = W c by omega]
theorem wy_round {P W : Nat → Nat} {pr ls : Nat → Int32} (hp : ∀ c, c < 16 → pr c = nI (P c) ∧ P c ≤ 200) (h1 : ∀ d c, d < 16 → c < 16 → bsd d c → W c ≤ W d + P c) (h4 : ∀ c, c < 16 → W c ≤ 3200) (C : wCI W ls) : ∀ n, n ≤ 16 → wCI W (wyR pr ls n) ∧ (∀ j, j < 16 → wT W ls j = true → wT W (wyR pr ls n) j = true) ∧ (∀ e, e < n → (∃ d, d < 16 ∧ bsd d e ∧ wT W ls d = true ∧ W e = W d + P e) → wT W (wyR pr ls n) e = true)
  | 0, _ => ⟨C, fun _ _ h => h, fun e h => absurd h (Nat.not_lt_zero e)⟩
  | n + 1, hn => by
    obtain ⟨a, b, c⟩ := wy_round hp h1 h4 C n (by omega)
    obtain ⟨x, y, z⟩ := wy_step hp h1 h4 (show n < 16 by omega) a
    rw [wyR_s]
    refine ⟨x, fun j hj h => y j hj (b j hj h), fun e he h => ?_⟩
    by_cases en : e = n
    · subst en
      obtain ⟨d, hd, hb, hT, hW⟩ := h
      exact z d hd hb (b d hd hT) hW
    · exact y e (by omega) (c e (by omega) h)
theorem cnN_mono {f f' : Nat → Bool} : ∀ n, (∀ c, c < n → f c = true → f' c = true) → cnN f n ≤ cnN f' n ∧ ((∃ k, k < n ∧ f k = false ∧ f' k = true) → cnN f n + 1 ≤ cnN f' n)
  | 0, _ => ⟨Nat.le_refl _, fun ⟨k, h, _⟩ => absurd h (Nat.not_lt_zero k)⟩
  | n + 1, h => by
    obtain ⟨a, b⟩ := cnN_mono n (fun c hc => h c (by omega))
    have hn := h n (Nat.lt_succ_self n)
    have e1 : cnN f (n + 1) = if f n = true then cnN f n + 1 else cnN f n := rfl
    have e2 : cnN f' (n + 1) = if f' n = true then cnN f' n + 1 else cnN f' n := rfl
    rw [e1, e2]
    refine ⟨?_, fun ⟨k, hk, h1, h2⟩ => ?_⟩
    · by_cases hf : f n = true
      · rw [if_pos hf, if_pos (hn hf)]; omega
      · rw [if_neg hf]
        split <;> omega
    · by_cases e : k = n
      · subst e
        rw [if_pos h2, h1, if_neg (by decide)]
        omega
      · have b' := b ⟨k, by omega, h1, h2⟩
        by_cases hf : f n = true
        · rw [if_pos hf, if_pos (hn hf)]; omega
        · rw [if_neg hf]
          split <;> omega
/-- what is not right yet lies beside what is -/
theorem wk_front {P : Nat → Nat} {a : Nat} {W : Nat → Nat} (H : wOk P a W) {ls : Nat → Int32} (ha : wT W ls a = true) : ∀ n c, c < 16 → wkN P a n c (W c) → wT W ls c = false → ∃ e, e < 16 ∧ wT W ls e = false ∧ ∃ d, d < 16 ∧ bsd d e ∧ wT W ls d = true ∧ W e = W d + P e
  | 0, c, _, h, hT => by
    obtain ⟨rfl, -⟩ := h
    rw [ha] at hT
    cases hT
  | n + 1, c, hc, h, hT => by
    obtain ⟨d, y, hd, hb, hw, e⟩ := h
    have a1 := wk_lo H.1 H.2.2.1 n d y hd hw
    have a2 := H.1 d c hd hc hb
    have ey : y = W d := by omega
    subst ey
    by_cases hdT : wT W ls d = true
    · exact ⟨c, hc, hT, d, hd, hb, hdT, e⟩
    · exact wk_front H ha n d hd hw ((Bool.not_eq_true _).mp hdT)
theorem way_eq {P W : Nat → Nat} {pr : Nat → Int32} {a : Nat} (ha : a < 16) (hp : ∀ c, c < 16 → pr c = nI (P c) ∧ P c ≤ 200) (H : wOk P a W) (c : Nat) (hc : c < 16) : wyN pr (wy0 pr a) 16 c = nI (W c) := by
  have hWa : W a = P a := by
    obtain ⟨n, hn⟩ := H.2.1 a ha
    have := wk_a n _ hn
    have := H.2.2.1
    omega
  have hpa := hp a ha
  have key : ∀ r, wCI W (wyN pr (wy0 pr a) r) ∧ wT W (wyN pr (wy0 pr a) r) a = true ∧ ((∀ c, c < 16 → wT W (wyN pr (wy0 pr a) r) c = true) ∨ r ≤ cnN (wT W (wyN pr (wy0 pr a) r)) 16) := by
    intro r
    induction r with
    | zero =>
      refine ⟨fun c hc => ?_, ?_, Or.inr (Nat.zero_le _)⟩
      · show wy0 pr a c = nI (wy0 pr a c).toNatClampNeg ∧ _
        unfold wyN wy0
        by_cases e : c = a
        · subst e
          rw [upd_s, hpa.1, nI_clamp (by omega)]
          exact ⟨rfl, by omega, by omega⟩
        · rw [upd_n _ _ e]
          have := H.2.2.2 c hc
          exact ⟨rfl, by show W c ≤ 1000000; omega, by decide⟩
      · unfold wT
        rw [decide_eq_true_iff, hWa]
        show wy0 pr a a = _
        unfold wy0
        rw [upd_s]
        exact hpa.1
    | succ r ih =>
      obtain ⟨C, hTa, hS⟩ := ih
      obtain ⟨C2, hk, hg⟩ := wy_round hp H.1 H.2.2.2 C 16 (Nat.le_refl _)
      rw [wyN_s]
      refine ⟨C2, hk a ha hTa, ?_⟩
      by_cases hall : ∀ c, c < 16 → wT W (wyN pr (wy0 pr a) r) c = true
      · exact Or.inl (fun c hc => hk c hc (hall c hc))
      · refine Or.inr ?_
        have h2 := hS.resolve_left hall
        obtain ⟨c, hc9⟩ := Classical.not_forall.mp hall
        obtain ⟨hc, hcT⟩ := Classical.not_imp.mp hc9
        obtain ⟨n, hn⟩ := H.2.1 c hc
        obtain ⟨e, he, heT, hd⟩ := wk_front H hTa n c hc hn ((Bool.not_eq_true _).mp hcT)
        have h3 := (cnN_mono 16 (fun c hc => hk c hc)).2 ⟨e, he, heT, hg e he hd⟩
        omega
  obtain ⟨-, hTa, hS⟩ := key 16
  have hall : ∀ c, c < 16 → wT W (wyN pr (wy0 pr a) 16) c = true := by
    rcases hS with h | h
    · exact h
    · intro c hc
      refine Decidable.byContradiction fun hcT => ?_
      have h3 := (cnN_mono (f := wT W (wyN pr (wy0 pr a) 16)) (f' := fun _ => true) 16 (fun _ _ _ => rfl)).2 ⟨c, hc, (Bool.not_eq_true _).mp hcT, rfl⟩
      have h4 := cnN_le (fun _ => true) 16
      omega
  have h := hall c hc
  unfold wT at h
  exact of_decide_eq_true h
/-! the reference's own search -/
def rlB (pr w : Nat → Int32) (f t : Nat) : Bool := decide (¬ w f = -1 ∧ (w t = -1 ∨ w f + pr t < w t))
def rlW (pr w : Nat → Int32) (f t : Nat) : Nat → Int32 := if rlB pr w f t = true then upd w t (w f + pr t) else w
def rl1 (pr : Nat → Int32) (s : Int32 × (Nat → Int32)) (e : Nat × Nat) : Int32 × (Nat → Int32) := (s.1 ||| bI (rlB pr s.2 e.1 e.2 = true), rlW pr s.2 e.1 e.2)
def egs : Nat → List (Nat × Nat)
  | 0 => []
  | c + 1 => egs c ++ ((if c % 4 < 3 then [(c, c + 1), (c + 1, c)] else []) ++ (if c < 12 then [(c, c + 4), (c + 4, c)] else []))
theorem egs_ok : ∀ e ∈ egs 16, e.1 < 16 ∧ e.2 < 16 ∧ bsd e.1 e.2 := by decide +kernel
theorem egs_any : ∀ d, d < 16 → ∀ c, c < 16 → ((decide (bsd d c)) = true → (egs 16).any (fun e => e.1 == d && e.2 == c) = true) := by decide +kernel
theorem egs_all {d c : Nat} (hd : d < 16) (hc : c < 16) (h : bsd d c) : (d, c) ∈ egs 16 := by
  obtain ⟨e, he, h2⟩ := List.any_eq_true.mp (egs_any d hd c hc (decide_eq_true h))
  rw [Bool.and_eq_true, beq_iff_eq, beq_iff_eq] at h2
  obtain ⟨h3, h4⟩ := h2
  subst h3
  subst h4
  exact he
def asB (w : Nat → Int32) (c : Nat) : Bool := decide (¬ w c = -1)
def smN (f : Nat → Nat) : Nat → Nat
  | 0 => 0
  | n + 1 => smN f n + f n
theorem smN_1 {f f' : Nat → Nat} {k : Nat} (h1 : f' k < f k) : ∀ n, (∀ c, c < n → c ≠ k → f' c = f c) → (k < n → smN f' n < smN f n) ∧ (n ≤ k → smN f' n = smN f n)
  | 0, _ => ⟨fun h => absurd h (Nat.not_lt_zero k), fun _ => rfl⟩
  | n + 1, h => by
    obtain ⟨a, b⟩ := smN_1 h1 n (fun c hc hk => h c (by omega) hk)
    refine ⟨fun hk => ?_, fun hk => ?_⟩
    · by_cases e : k = n
      · subst e
        show smN f' k + f' k < smN f k + f k
        rw [b (Nat.le_refl _)]
        omega
      · show smN f' n + f' n < smN f n + f n
        rw [h n (by omega) (fun z => e z.symm)]
        have := a (by omega)
        omega
    · show smN f' n + f' n = smN f n + f n
      rw [h n (by omega) (by omega), b (by omega)]
def wvN (w : Nat → Int32) (c : Nat) : Nat := if w c = -1 then 4000 else (w c).toNatClampNeg
def wMs (w : Nat → Int32) : Nat := smN (wvN w) 16
def wRI (P : Nat → Nat) (a : Nat) (w : Nat → Int32) : Prop := ¬ w a = -1 ∧ (w a).toNatClampNeg ≤ P a ∧ ∀ c, c < 16 → w c = -1 ∨ ∃ n y, y ≤ 200 * cnN (asB w) 16 ∧ wkN P a n c y ∧ w c = nI y
theorem rl_ok {P : Nat → Nat} {a : Nat} {pr w : Nat → Int32} {f t : Nat} (hp : ∀ c, c < 16 → pr c = nI (P c) ∧ P c ≤ 200) (ha : a < 16) (hf : f < 16) (ht : t < 16) (hb : bsd f t) (R : wRI P a w) : wRI P a (rlW pr w f t) ∧ (rlB pr w f t = true → wMs (rlW pr w f t) < wMs w) := by
  by_cases h : rlB pr w f t = true
  · have hd := of_decide_eq_true h
    obtain ⟨n, y, hy, hwk, ew⟩ := (R.2.2 f hf).resolve_left hd.1
    have hK := cnN_le (asB w) 16
    have hpt := hp t ht
    have ev : w f + pr t = nI (y + P t) := by rw [ew, hpt.1, nI_add]
    have eW : rlW pr w f t = upd w t (nI (y + P t)) := by unfold rlW; rw [if_pos h, ev]
    rw [eW]
    have hwk2 : wkN P a (n + 1) t (y + P t) := ⟨f, y, hf, hb, hwk, rfl⟩
    have hne : ¬ nI (y + P t) = -1 := nI_m1 (by omega)
    have ot : ∀ c, c ≠ t → upd w t (nI (y + P t)) c = w c := fun c hc => upd_n _ _ hc
    by_cases hn : w t = -1
    · have hta : ¬ t = a := fun e => R.1 (e ▸ hn)
      have hcn : cnN (asB (upd w t (nI (y + P t)))) 16 = cnN (asB w) 16 + 1 := (cnN_rm (f := asB (upd w t (nI (y + P t)))) (f' := asB w) (k := t) (by unfold asB; rw [upd_s]; exact decide_eq_true hne) (by unfold asB; exact decide_eq_false (fun z => z hn)) 16 (fun c _ hct => by unfold asB; rw [ot c hct])).1 ht
      have hcl := cnN_le (asB (upd w t (nI (y + P t)))) 16
      refine ⟨⟨by rw [ot a (fun e => hta e.symm)]; exact R.1, by rw [ot a (fun e => hta e.symm)]; exact R.2.1, fun c hc => ?_⟩, fun _ => ?_⟩
      · by_cases e : c = t
        · subst e
          exact Or.inr ⟨n + 1, _, by omega, hwk2, by rw [upd_s]⟩
        · rw [ot c e]
          rcases R.2.2 c hc with h5 | ⟨n2, y2, h6, h7, h8⟩
          · exact Or.inl h5
          · exact Or.inr ⟨n2, y2, by omega, h7, h8⟩
      · refine (smN_1 (k := t) ?_ 16 (fun c _ hct => by unfold wvN; rw [ot c hct])).1 ht
        unfold wvN
        rw [upd_s, if_neg hne, if_pos hn, nI_clamp (by omega)]
        omega
    · obtain ⟨n3, y3, hy3, hwk3, ew3⟩ := (R.2.2 t ht).resolve_left hn
      have hlt : y + P t < y3 := by
        have h5 := hd.2.resolve_left hn
        rw [ev, ew3] at h5
        exact (nI_ltI (by omega) (by omega)).mp h5
      have hcn : cnN (asB (upd w t (nI (y + P t)))) 16 = cnN (asB w) 16 := by
        have e : asB (upd w t (nI (y + P t))) = asB w := by
          funext c
          unfold asB
          by_cases e : c = t
          · subst e
            rw [upd_s, decide_eq_true hne, decide_eq_true hn]
          · rw [ot c e]
        rw [e]
      refine ⟨⟨?_, ?_, fun c hc => ?_⟩, fun _ => ?_⟩
      · by_cases e : a = t
        · subst e; rw [upd_s]; exact hne
        · rw [ot a e]; exact R.1
      · by_cases e : a = t
        · subst e
          rw [upd_s, nI_clamp (by omega)]
          have h9 := R.2.1
          rw [ew3, nI_clamp (by omega)] at h9
          omega
        · rw [ot a e]; exact R.2.1
      · rw [hcn]
        by_cases e : c = t
        · subst e
          exact Or.inr ⟨n + 1, _, by omega, hwk2, by rw [upd_s]⟩
        · rw [ot c e]
          exact R.2.2 c hc
      · refine (smN_1 (k := t) ?_ 16 (fun c _ hct => by unfold wvN; rw [ot c hct])).1 ht
        unfold wvN
        rw [upd_s, if_neg hne, if_neg hn, nI_clamp (by omega), ew3, nI_clamp (by omega)]
        exact hlt
  · have eW : rlW pr w f t = w := by unfold rlW; rw [if_neg h]
    rw [eW]
    exact ⟨R, fun z => absurd z h⟩
theorem or_bI {on : Int32} (h : on = 0 ∨ on = 1) (p : Prop) [Decidable p] : (on ||| bI p = 0 ∨ on ||| bI p = 1) ∧ (on ||| bI p = 0 → on = 0 ∧ ¬ p) ∧ (on = 0 → on ||| bI p = 1 → p) := by
  by_cases hp : p
  · rw [bI_t hp]
    rcases h with rfl | rfl
    · exact ⟨by decide, fun z => absurd z (by decide), fun _ _ => hp⟩
    · exact ⟨by decide, fun z => absurd z (by decide), fun z => absurd z (by decide)⟩
  · rw [bI_f hp]
    rcases h with rfl | rfl
    · exact ⟨by decide, fun _ => ⟨rfl, hp⟩, fun _ z => absurd z (by decide)⟩
    · exact ⟨by decide, fun z => absurd z (by decide), fun z => absurd z (by decide)⟩
theorem rl_fold {P : Nat → Nat} {a : Nat} {pr : Nat → Int32} (hp : ∀ c, c < 16 → pr c = nI (P c) ∧ P c ≤ 200) (ha : a < 16) : ∀ (L : List (Nat × Nat)), (∀ e ∈ L, e.1 < 16 ∧ e.2 < 16 ∧ bsd e.1 e.2) → ∀ s : Int32 × (Nat → Int32), (s.1 = 0 ∨ s.1 = 1) → wRI P a s.2 → wRI P a (L.foldl (rl1 pr) s).2 ∧ ((L.foldl (rl1 pr) s).1 = 0 ∨ (L.foldl (rl1 pr) s).1 = 1) ∧ wMs (L.foldl (rl1 pr) s).2 ≤ wMs s.2 ∧ ((L.foldl (rl1 pr) s).1 = 0 → s.1 = 0 ∧ (L.foldl (rl1 pr) s).2 = s.2 ∧ ∀ e ∈ L, rlB pr s.2 e.1 e.2 = false) ∧ (s.1 = 0 → (L.foldl (rl1 pr) s).1 = 1 → wMs (L.foldl (rl1 pr) s).2 < wMs s.2)
  | [], _, s, h1, h2 => ⟨h2, h1, Nat.le_refl _, fun z => ⟨z, rfl, fun e he => absurd he List.not_mem_nil⟩, fun z y => by rw [show (List.foldl (rl1 pr) s []).1 = s.1 from rfl, z] at y; exact absurd y (by decide)⟩
  | e :: L, hL, s, h1, h2 => by
    obtain ⟨hf, ht, hb⟩ := hL e List.mem_cons_self
    obtain ⟨r1, r2⟩ := rl_ok hp ha hf ht hb h2
    obtain ⟨o1, o2, o3⟩ := or_bI h1 (rlB pr s.2 e.1 e.2 = true)
    obtain ⟨i1, i2, i3, i4, i5⟩ := rl_fold hp ha L (fun x hx => hL x (List.mem_cons_of_mem _ hx)) (rl1 pr s e) o1 r1
    rw [List.foldl_cons]
    have hms : wMs (rl1 pr s e).2 ≤ wMs s.2 := by
      by_cases hr : rlB pr s.2 e.1 e.2 = true
      · exact Nat.le_of_lt (r2 hr)
      · show wMs (rlW pr s.2 e.1 e.2) ≤ _
        unfold rlW
        rw [if_neg hr]
        exact Nat.le_refl _
    refine ⟨i1, i2, Nat.le_trans i3 hms, fun z => ?_, fun z y => ?_⟩
    · obtain ⟨j1, j2, j3⟩ := i4 z
      obtain ⟨k1, k2⟩ := o2 j1
      have e2 : (rl1 pr s e).2 = s.2 := by
        show rlW pr s.2 e.1 e.2 = s.2
        unfold rlW
        rw [if_neg k2]
      rw [e2] at j2 j3
      refine ⟨k1, j2, fun x hx => ?_⟩
      rcases List.mem_cons.mp hx with rfl | hx
      · exact (Bool.not_eq_true _).mp k2
      · exact j3 x hx
    · by_cases h0 : (rl1 pr s e).1 = 0
      · exact Nat.lt_of_lt_of_le (i5 h0 y) hms
      · have hr := o3 z (o1.resolve_left h0)
        exact Nat.lt_of_le_of_lt i3 (r2 hr)
theorem adj_all {Q : Nat → Prop} {a : Nat} (ha : a < 16) (h0 : Q a) (h : ∀ d c, d < 16 → c < 16 → bsd d c → Q d → Q c) : ∀ c, c < 16 → Q c := by
  have dn1 : ∀ k r, k < 4 → r < 4 → Q (4 * r + k) → Q (4 * r) := by
    intro k
    induction k with
    | zero => exact fun r _ _ z => z
    | succ k ih => exact fun r hk hr z => ih r (by omega) hr (h (4 * r + (k + 1)) (4 * r + k) (by omega) (by omega) (Or.inr (Or.inl (by omega))) z)
  have dn2 : ∀ r, r < 4 → Q (4 * r) → Q 0 := by
    intro r
    induction r with
    | zero => exact fun _ z => z
    | succ r ih => exact fun hr z => ih (by omega) (h (4 * (r + 1)) (4 * r) (by omega) (by omega) (Or.inr (Or.inr (Or.inr (by omega)))) z)
  have q0 : Q 0 := dn2 (a / 4) (by omega) (dn1 (a % 4) (a / 4) (Nat.mod_lt _ (by decide)) (by omega) (by rw [show 4 * (a / 4) + a % 4 = a by omega]; exact h0))
  have up2 : ∀ r, r < 4 → Q (4 * r) := by
    intro r
    induction r with
    | zero => exact fun _ => q0
    | succ r ih => exact fun hr => h (4 * r) (4 * (r + 1)) (by omega) (by omega) (Or.inr (Or.inr (Or.inl (by omega)))) (ih (by omega))
  have up1 : ∀ k r, k < 4 → r < 4 → Q (4 * r + k) := by
    intro k
    induction k with
    | zero => exact fun r _ hr => up2 r hr
    | succ k ih => exact fun r hk hr => h (4 * r + k) (4 * r + (k + 1)) (by omega) (by omega) (Or.inl (by omega)) (ih r (by omega) hr)
  intro c hc
  have := up1 (c % 4) (c / 4) (Nat.mod_lt _ (by decide)) (by omega)
  rwa [show 4 * (c / 4) + c % 4 = c by omega] at this
theorem wRI_end {P : Nat → Nat} {a : Nat} {pr w : Nat → Int32} (hp : ∀ c, c < 16 → pr c = nI (P c) ∧ P c ≤ 200) (ha : a < 16) (R : wRI P a w) (hE : ∀ e ∈ egs 16, rlB pr w e.1 e.2 = false) : wOk P a (fun c => (w c).toNatClampNeg) ∧ ∀ c, c < 16 → w c = nI (w c).toNatClampNeg := by
  have hno : ∀ d c, d < 16 → c < 16 → bsd d c → ¬ (¬ w d = -1 ∧ (w c = -1 ∨ w d + pr c < w c)) := fun d c hd hc hb => of_decide_eq_false (hE (d, c) (egs_all hd hc hb))
  have hK := cnN_le (asB w) 16
  have has : ∀ c, c < 16 → ¬ w c = -1 := adj_all ha R.1 (fun d c hd hc hb h1 h2 => hno d c hd hc hb ⟨h1, Or.inl h2⟩)
  have hv : ∀ c, c < 16 → ∃ n, (w c).toNatClampNeg ≤ 3200 ∧ wkN P a n c (w c).toNatClampNeg ∧ w c = nI (w c).toNatClampNeg := fun c hc => by
    obtain ⟨n, y, hy, hwk, e⟩ := (R.2.2 c hc).resolve_left (has c hc)
    rw [e, nI_clamp (by omega)]
    exact ⟨n, by omega, hwk, rfl⟩
  refine ⟨⟨fun d c hd hc hb => ?_, fun c hc => ?_, R.2.1, fun c hc => ?_⟩, fun c hc => ?_⟩
  · obtain ⟨n1, x1, x2, x3⟩ := hv d hd
    obtain ⟨n2, y1, y2, y3⟩ := hv c hc
    have hpc := hp c hc
    refine Nat.le_of_not_lt (fun z => hno d c hd hc hb ⟨has d hd, Or.inr ?_⟩)
    rw [x3, y3, hpc.1, nI_add]
    exact nI_lt z (by omega)
  · obtain ⟨n, -, h, -⟩ := hv c hc
    exact ⟨n, h⟩
  · obtain ⟨n, h, -, -⟩ := hv c hc
    exact h
  · obtain ⟨n, -, -, h⟩ := hv c hc
    exact h
theorem vw_no {A : zSt} {Λ : Nat → xL} {s w : Int32} (h0 : isSl A s) (h : ¬ (0 ≤ w ∧ w ≤ 1515)) : vWay A Λ s w = -7 := by
  unfold vWay
  rw [if_pos h0]
  by_cases h1 : w < 0
  · rw [if_pos h1]
  · rw [if_neg h1]
    obtain ⟨k, hk, rfl⟩ := nI_of h1
    rw [nI_clamp hk]
    have h2 : 1515 < k := Nat.lt_of_not_le (fun z => h ⟨nI_pos' hk, nI_le (b := 1515) z (by omega)⟩)
    by_cases h3 : 0 ≤ nI (k / 100) ∧ nI (k / 100) ≤ 15
    · rw [if_pos h3]
      by_cases h4 : 0 ≤ nI (k % 100) ∧ nI (k % 100) ≤ 15
      · have a := (nI_leI (b := 15) (by omega) (by decide)).mp h3.2
        have b := (nI_leI (b := 15) (by omega) (by decide)).mp h4.2
        omega
      · rw [if_neg h4]
    · rw [if_neg h3]
theorem wyR_congr {pr pr' : Nat → Int32} (h : ∀ c, c < 16 → pr c = pr' c) (ls : Nat → Int32) : ∀ n, n ≤ 16 → wyR pr ls n = wyR pr' ls n
  | 0, _ => rfl
  | n + 1, hn => by rw [wyR_s, wyR_s, wyR_congr h ls n (by omega), h n (by omega)]
set_option maxHeartbeats 4000000 in
set_option maxRecDepth 100000 in
theorem c_X12_relaxes (l : Launch) (d : Nat) (n : Nat) (hn : 110 ≤ n) (g : xG) (f t : Nat) (hf : f < 16) (ht : t < 16)  : xC l yX12_relaxes cX12_relaxes 4 (some .boolean) (xR (d + 0) 0 0) [.ref 86, .int (nI f), .int (nI t)] (n, fh g) (qI n fun v g1 => v = bI (rlB (g 106) (g 107) f t = true) ∧ g1 107 = rlW (g 106) (g 107) f t ∧ fr (fun j => j = 107) g g1) := by
  refine xC_of false (by decide +kernel) (fun z => by cases z) (Nat.le_of_ble_eq_true rfl) ?_
  show xJ l (RX12, 4, (some .boolean), false, (xR (d + 0) 0 0), none) cX12_relaxes _ 0 0 0 [(0, .ref 86), (1, .int (nI f)), (2, .int (nI t))] [] (n, fh g)
  refine xj_aload_n (n := 0) (i := 0) 0 rfl rfl dX12_relaxes_0 ?_
  refine yj_getf (v := .ref 107) fl_X12_74_12 (by omega) (fq_86 g) rfl dX12_relaxes_1 ?_
  refine xj_iload_n (n := 1) (i := 1) 1 rfl rfl dX12_relaxes_4 ?_
  refine yj_ialdN f (by omega) fA_107 rfl (by omega) (by decide) dX12_relaxes_5 ?_
  refine xj_aload_n (n := 0) (i := 0) 0 rfl rfl dX12_relaxes_6 ?_
  refine yj_getf (v := .ref 106) fl_X12_71_12 (by omega) (fq_86 g) rfl dX12_relaxes_7 ?_
  refine xj_iload_n (n := 2) (i := 2) 2 rfl rfl dX12_relaxes_10 ?_
  refine yj_ialdN t (by omega) fA_106 rfl (by omega) (by decide) dX12_relaxes_11 ?_
  refine xj_iadd dX12_relaxes_12 ?_
  refine xj_topi (fun zv1 ezv1 => ?_)
  refine xj_istore_n (n := 3) (i := 3) (lv1 := [(3, .int zv1), (0, .ref 86), (1, .int (nI f)), (2, .int (nI t))]) rfl rfl (Nat.le_of_ble_eq_true rfl) dX12_relaxes_13 ?_
  refine xj_aload_n (n := 0) (i := 0) 1 rfl rfl dX12_relaxes_14 ?_
  refine yj_getf (v := .ref 107) fl_X12_74_12 (by omega) (fq_86 g) rfl dX12_relaxes_15 ?_
  refine xj_iload_n (n := 1) (i := 1) 2 rfl rfl dX12_relaxes_18 ?_
  refine yj_ialdN f (by omega) fA_107 rfl (by omega) (by decide) dX12_relaxes_19 ?_
  refine xj_iconst (v := (-1)) (by decide) dX12_relaxes_20 ?_
  refine xj_icmp_eq (tgt := 44) (by decide) dX12_relaxes_21 (fun zc21 => ?_) (fun zc21 => ?_)
  · have hob : ¬ rlB (g 106) (g 107) f t = true := fun y => (of_decide_eq_true y).1 zc21
    refine xj_iconst (v := 0) (by decide) dX12_relaxes_44 ?_
    exact xj_ireturn rfl nr_b0 (Nat.zero_le _) (Nat.zero_le _) dX12_relaxes_45 (qI_e ⟨(bI_f hob).symm, by unfold rlW; rw [if_neg hob], fr.rf⟩)
  · skip
    refine xj_aload_n (n := 0) (i := 0) 1 rfl rfl dX12_relaxes_24 ?_
    refine yj_getf (v := .ref 107) fl_X12_74_12 (by omega) (fq_86 g) rfl dX12_relaxes_25 ?_
    refine xj_iload_n (n := 2) (i := 2) 3 rfl rfl dX12_relaxes_28 ?_
    refine yj_ialdN t (by omega) fA_107 rfl (by omega) (by decide) dX12_relaxes_29 ?_
    refine xj_iconst (v := (-1)) (by decide) dX12_relaxes_30 ?_
    refine xj_icmp_eq (tgt := 46) (by decide) dX12_relaxes_31 (fun zc31 => ?_) (fun zc31 => ?_)
    · have hob : rlB (g 106) (g 107) f t = true := decide_eq_true ⟨zc21, Or.inl zc31⟩
      refine xj_aload_n (n := 0) (i := 0) 1 rfl rfl dX12_relaxes_46 ?_
      refine yj_getf (v := .ref 107) fl_X12_74_12 (by omega) (fq_86 g) rfl dX12_relaxes_47 ?_
      refine xj_iload_n (n := 2) (i := 2) 3 rfl rfl dX12_relaxes_50 ?_
      refine xj_iload_n (n := 3) (i := 3) 0 rfl rfl dX12_relaxes_51 ?_
      refine yj_iastN t (by omega) fA_107 rfl (by omega) (by decide) dX12_relaxes_52 ?_
      obtain ⟨zg2, ezg2⟩ : ∃ z, z = gs g 107 t zv1 := ⟨_, rfl⟩
      rw [← ezg2]
      refine xj_iconst (v := 1) (by decide) dX12_relaxes_53 ?_
      exact xj_ireturn rfl nr_b1 (Nat.zero_le _) (Nat.zero_le _) dX12_relaxes_54 (qI_e ⟨(bI_t hob).symm, by rw [ezg2, gs_s, ezv1]; unfold rlW; rw [if_pos hob], by rw [ezg2]; exact (fr.rf (X := fun j => j = 107)).gs rfl _ _⟩)
    · refine xj_aload_n (n := 0) (i := 0) 1 rfl rfl dX12_relaxes_34 ?_
      refine yj_getf (v := .ref 107) fl_X12_74_12 (by omega) (fq_86 g) rfl dX12_relaxes_35 ?_
      refine xj_iload_n (n := 2) (i := 2) 3 rfl rfl dX12_relaxes_38 ?_
      refine yj_ialdN t (by omega) fA_107 rfl (by omega) (by decide) dX12_relaxes_39 ?_
      refine xj_iload_n (n := 3) (i := 3) 0 rfl rfl dX12_relaxes_40 ?_
      refine xj_icmp_gt (tgt := 46) (by decide) dX12_relaxes_41 (fun zc41 => ?_) (fun zc41 => ?_)
      · have hob : rlB (g 106) (g 107) f t = true := decide_eq_true ⟨zc21, Or.inr (by rw [← ezv1]; exact zc41)⟩
        refine xj_aload_n (n := 0) (i := 0) 1 rfl rfl dX12_relaxes_46 ?_
        refine yj_getf (v := .ref 107) fl_X12_74_12 (by omega) (fq_86 g) rfl dX12_relaxes_47 ?_
        refine xj_iload_n (n := 2) (i := 2) 3 rfl rfl dX12_relaxes_50 ?_
        refine xj_iload_n (n := 3) (i := 3) 0 rfl rfl dX12_relaxes_51 ?_
        refine yj_iastN t (by omega) fA_107 rfl (by omega) (by decide) dX12_relaxes_52 ?_
        obtain ⟨zg3, ezg3⟩ : ∃ z, z = gs g 107 t zv1 := ⟨_, rfl⟩
        rw [← ezg3]
        refine xj_iconst (v := 1) (by decide) dX12_relaxes_53 ?_
        exact xj_ireturn rfl nr_b1 (Nat.zero_le _) (Nat.zero_le _) dX12_relaxes_54 (qI_e ⟨(bI_t hob).symm, by rw [ezg3, gs_s, ezv1]; unfold rlW; rw [if_pos hob], by rw [ezg3]; exact (fr.rf (X := fun j => j = 107)).gs rfl _ _⟩)
      · have hob : ¬ rlB (g 106) (g 107) f t = true := fun y => ((of_decide_eq_true y).2.elim zc31 (fun w => zc41 (by rw [ezv1]; exact w)))
        refine xj_iconst (v := 0) (by decide) dX12_relaxes_44 ?_
        exact xj_ireturn rfl nr_b0 (Nat.zero_le _) (Nat.zero_le _) dX12_relaxes_45 (qI_e ⟨(bI_f hob).symm, by unfold rlW; rw [if_neg hob], fr.rf⟩)
theorem wRI_0 {pr w : Nat → Int32} {a : Nat} (ha : a < 16) (hp : ∀ c, c < 16 → pr c = nI (pr c).toNatClampNeg ∧ (pr c).toNatClampNeg ≤ 200) (h : ∀ j, j < 16 → w j = if j = a then pr j else -1) : wRI (fun c => (pr c).toNatClampNeg) a w := by
  have ea : w a = pr a := (h a ha).trans (if_pos rfl)
  have hpa := hp a ha
  have hne : ¬ w a = -1 := by rw [ea, hpa.1]; exact nI_m1 (by omega)
  refine ⟨hne, by rw [ea]; exact Nat.le_refl _, fun c hc => ?_⟩
  by_cases e : c = a
  · subst e
    refine Or.inr ⟨0, (pr c).toNatClampNeg, ?_, ⟨rfl, rfl⟩, by rw [ea]; exact hpa.1⟩
    have h1 := (cnN_mono (f := fun _ => false) (f' := asB w) 16 (fun _ _ z => by cases z)).2 ⟨c, hc, rfl, decide_eq_true hne⟩
    omega
  · exact Or.inl ((h c hc).trans (if_neg e))
set_option maxHeartbeats 4000000 in
set_option maxRecDepth 100000 in
theorem c_X12_way (l : Launch) (d : Nat) (n : Nat) (hn : 110 ≤ n) (g : xG) (A : zSt) (Λ : Nat → xL) (O : okA A) (C : mA g A Λ) (s w : Int32)  : xC l yX12_way cX12_way 6 (some .int) (xR (d + 5) 0 0) [.ref 86, .int s, .int w] (n, fh g) (qI n fun v g1 => v = vWay A Λ s w ∧ fm g g1) := by
  refine xC_of false (by decide +kernel) (fun z => by cases z) (Nat.le_of_ble_eq_true rfl) ?_
  have hS6 := O.1.2
  have hW := O.W
  have hT6 := O.2.2.2.1.2.2
  have hN9 := O.2.1.2
  show xJ l (RX12, 6, (some .int), false, (xR (d + 5) 0 0), none) cX12_way _ 0 0 0 [(0, .ref 86), (1, .int s), (2, .int w)] [] (n, fh g)
  refine xj_aload_n (n := 0) (i := 0) 0 rfl rfl dX12_way_0 ?_
  refine xj_iload_n (n := 1) (i := 1) 1 rfl rfl dX12_way_1 ?_
  refine xj_callV kv_X12_176 (c_X12_isSleeper l (d + 3) n hn g A Λ O C s) (As := [.int s]) (st := []) (by omega) (fq_86 g) (ci := 12) rfl rfl rfl rfl (xRm_of (by omega) (by decide) (by omega) (by omega)) (Nat.le_of_ble_eq_true rfl) dX12_way_2 (yk_p (kc := 0) (ks := 0) ?_)
  refine xj_if_ne (tgt := 11) (by decide) dX12_way_5 (fun zc5 => ?_) (fun zc5 => ?_)
  · have zp5 : isSl A s := bI_n0.mp zc5
    obtain ⟨ks, hks, rfl⟩ := isSl_of O zp5
    have hs6_ks : ks < 6 := by omega
    refine xj_iload_n (n := 2) (i := 2) 2 rfl rfl dX12_way_11 ?_
    refine xj_iconst (v := 0) (by decide) dX12_way_12 ?_
    refine xj_sipush (v := 1515) (by decide) dX12_way_13 ?_
    refine xj_callS ks_X12_93 (c_X12_in l (d + 4) w 0 1515 _) (As := [.int w, .int 0, .int 1515]) (st := []) rfl rfl (xRm_of (by omega) (by decide) (by omega) (by omega)) (Nat.le_of_ble_eq_true rfl) dX12_way_16 (yk_p (kc := 0) (ks := 0) ?_)
    refine xj_if_eq (tgt := 31) (by decide) dX12_way_19 (fun zc19 => ?_) (fun zc19 => ?_)
    · have zp19 : ¬ (0 ≤ w ∧ w ≤ 1515) := bI_0.mp zc19
      refine xj_bipush (v := (-7)) (by decide) dX12_way_31 ?_
      exact xj_ireturn rfl (nr_i _) (Nat.zero_le _) (Nat.zero_le _) dX12_way_33 (qI_e ⟨(vw_no zp5 zp19).symm, fm.rf⟩)
    · have zp19 : 0 ≤ w ∧ w ≤ 1515 := bI_n0.mp zc19
      obtain ⟨kw, hkw, rfl⟩ := nI_bnd (m := 1515) (by decide) zp19.1 zp19.2
      have hw15 : 0 ≤ nI (kw / 100) ∧ nI (kw / 100) ≤ 15 := ⟨nI_pos' (by omega), nI_le (b := 15) (by omega) (by decide)⟩
      refine xj_iload_n (n := 2) (i := 2) 2 rfl rfl dX12_way_22 ?_
      refine xj_bipush (v := 100) (by decide) dX12_way_23 ?_
      refine xj_irem (by decide) dX12_way_25 ?_
      refine xj_top (show ((nI kw) - (nI kw) / 100 * 100) = nI (kw % 100) from (pk_rem (a := kw) (d := 100) (by omega) (by omega) (by omega))) ?_
      refine xj_bipush (v := 16) (by decide) dX12_way_26 ?_
      refine xj_icmp_lt (tgt := 34) (by decide) dX12_way_28 (fun zc28 => ?_) (fun zc28 => ?_)
      · have hwb : kw % 100 < 16 := (nI_ltI (b := 16) (by omega) (by decide)).mp zc28
        have hw1 : 0 ≤ nI (kw % 100) ∧ nI (kw % 100) ≤ 15 := ⟨nI_pos' (by omega), nI_le (b := 15) (by omega) (by decide)⟩
        have hwa : kw / 100 < 16 := by omega
        refine xj_iconst (v := 0) (by decide) dX12_way_34 ?_
        refine xj_istore_n (n := 3) (i := 3) (lv1 := [(3, .int 0), (0, .ref 86), (1, .int (nI ks)), (2, .int (nI kw))]) rfl rfl (Nat.le_of_ble_eq_true rfl) dX12_way_35 ?_
        have key : ∀ i, i ≤ 16 → ∀ (g1 : xG), fm g g1 → (∀ j, j < i → g1 106 j = coP A Λ ks j) → (∀ j, j < i → g1 107 j = -1) → xJ l (RX12, 6, (some .int), false, (xR (d + 5) 0 0), none) cX12_way (qI n fun v g1 => v = vWay A Λ (nI ks) (nI kw) ∧ fm g g1) 0 0 36 [(3, .int (nI i)), (0, .ref 86), (1, .int (nI ks)), (2, .int (nI kw))] [] (n, fh g1) := by
          refine x_loop 16 _ ?_ ?_
          · intro g1 hf hP hQ
            refine xj_iload_n (n := 3) (i := 3) 0 rfl rfl dX12_way_36 ?_
            refine xj_bipush (v := 16) (by decide) dX12_way_37 ?_
            refine xj_icmp_ge (tgt := 67) (by decide) dX12_way_39 (fun zc39 => ?_) (fun zc39 => ?_)
            · refine xj_iload_n (n := 2) (i := 2) 3 rfl rfl dX12_way_67 ?_
              refine xj_bipush (v := 100) (by decide) dX12_way_68 ?_
              refine xj_idiv (by decide) dX12_way_70 ?_
              refine xj_top (show ((nI kw) / 100) = nI (kw / 100) from (pk_div (a := kw) (d := 100) (by omega) (by omega) (by omega))) ?_
              refine xj_istore_n (n := 3) (i := 3) (lv1 := [(3, .int (nI (kw / 100))), (0, .ref 86), (1, .int (nI ks)), (2, .int (nI kw))]) rfl rfl (Nat.le_of_ble_eq_true rfl) dX12_way_71 ?_
              refine xj_aload_n (n := 0) (i := 0) 1 rfl rfl dX12_way_72 ?_
              refine yj_getf (v := .ref 107) fl_X12_74_12 (by omega) (fq_86 g1) rfl dX12_way_73 ?_
              refine xj_iload_n (n := 3) (i := 3) 0 rfl rfl dX12_way_76 ?_
              refine xj_aload_n (n := 0) (i := 0) 1 rfl rfl dX12_way_77 ?_
              refine yj_getf (v := .ref 106) fl_X12_71_12 (by omega) (fq_86 g1) rfl dX12_way_78 ?_
              refine xj_iload_n (n := 3) (i := 3) 0 rfl rfl dX12_way_81 ?_
              refine yj_ialdN (kw / 100) (by omega) fA_106 rfl (by omega) (by decide) dX12_way_82 ?_
              refine xj_top (hP _ hwa) ?_
              refine xj_topi (fun zv1 ezv1 => ?_)
              refine yj_iastN (kw / 100) (by omega) fA_107 rfl (by omega) (by decide) dX12_way_83 ?_
              obtain ⟨zg2, ezg2⟩ : ∃ z, z = gs g1 107 (kw / 100) zv1 := ⟨_, rfl⟩
              rw [← ezg2]
              have hxzg2 : fm g zg2 := by rw [ezg2]; exact hf.gS (by unfold sM; omega) _ _
              have Czg2 := C.keep hxzg2
              refine xj_iconst (v := 1) (by decide) dX12_way_84 ?_
              refine xj_istore (i := 4) (lv1 := [(4, .int 1), (3, .int (nI (kw / 100))), (0, .ref 86), (1, .int (nI ks)), (2, .int (nI kw))]) rfl (Nat.le_of_ble_eq_true rfl) dX12_way_85 ?_
              have hpp : ∀ c, c < 16 → coP A Λ ks c = nI (coP A Λ ks c).toNatClampNeg ∧ (coP A Λ ks c).toNatClampNeg ≤ 200 := fun c _ => by obtain ⟨j, hj, e⟩ := coP_n (A := A) (Λ := Λ) ks c; rw [e, nI_clamp (by omega)]; exact ⟨rfl, hj⟩
              have key2 : ∀ (m : Nat) (g2 : xG), fm g g2 → (∀ j, j < 16 → g2 106 j = coP A Λ ks j) → wRI (fun c => (coP A Λ ks c).toNatClampNeg) (kw / 100) (g2 107) → wMs (g2 107) ≤ m → xJ l (RX12, 6, (some .int), false, (xR (d + 5) 0 0), none) cX12_way (qI n fun v g1 => v = vWay A Λ (nI ks) (nI kw) ∧ fm g g1) 0 0 87 [(4, .int 1), (3, .int (nI (kw / 100))), (0, .ref 86), (1, .int (nI ks)), (2, .int (nI kw))] [] (n, fh g2) := by
                intro m
                induction m using Nat.strongRecOn with
                | ind m ihm =>
                  intro g2 hf2 hP2 hR hm
                  have hp2 : ∀ c, c < 16 → g2 106 c = nI (coP A Λ ks c).toNatClampNeg ∧ (coP A Λ ks c).toNatClampNeg ≤ 200 := fun c hc => by rw [hP2 c hc]; exact hpp c hc
                  refine xj_iload (i := 4) 0 rfl dX12_way_87 ?_
                  refine xj_if_eq (tgt := 189) (by decide) dX12_way_89 (fun zc89 => ?_) (fun zc89 => ?_)
                  · exact absurd zc89 (by decide)
                  · refine xj_iconst (v := 0) (by decide) dX12_way_92 ?_
                    refine xj_istore (i := 4) (lv1 := [(4, .int 0), (3, .int (nI (kw / 100))), (0, .ref 86), (1, .int (nI ks)), (2, .int (nI kw))]) rfl (Nat.le_of_ble_eq_true rfl) dX12_way_93 ?_
                    refine xj_iconst (v := 0) (by decide) dX12_way_95 ?_
                    refine xj_istore (i := 5) (lv1 := [(5, .int 0), (4, .int 0), (3, .int (nI (kw / 100))), (0, .ref 86), (1, .int (nI ks)), (2, .int (nI kw))]) rfl (Nat.le_of_ble_eq_true rfl) dX12_way_96 ?_
                    have key3 : ∀ i, i ≤ 16 → ∀ (zon : Int32) (g3 : xG), fr (fun j => j = 107) g2 g3 → (zon, g3 107) = List.foldl (rl1 (g2 106)) ((0 : Int32), g2 107) (egs i) → xJ l (RX12, 6, (some .int), false, (xR (d + 5) 0 0), none) cX12_way (qI n fun v g1 => v = vWay A Λ (nI ks) (nI kw) ∧ fm g g1) 0 0 98 [(5, .int (nI i)), (4, .int zon), (3, .int (nI (kw / 100))), (0, .ref 86), (1, .int (nI ks)), (2, .int (nI kw))] [] (n, fh g3) := by
                      refine x_loop 16 _ ?_ ?_
                      · intro zon g3 hr3 hs3
                        have hf3 : fm g g3 := hf2.tr (fm.of hr3 (fun j hj => by subst hj; unfold sM; omega))
                        obtain ⟨i1, i2, i3, i4, i5⟩ := rl_fold hp2 hwa (egs 16) egs_ok ((0 : Int32), g2 107) (Or.inl rfl) hR
                        rw [← hs3] at i1 i2 i3 i4 i5
                        rcases i2 with i2 | i2
                        · have ezon : zon = 0 := i2
                          subst ezon
                          obtain ⟨-, hsame, hE⟩ := i4 rfl
                          have hsm : g3 107 = g2 107 := hsame
                          obtain ⟨W1, W2⟩ := wRI_end hp2 hwa hR hE
                          have hres : wyN (coP A Λ ks) (wy0 (coP A Λ ks) (kw / 100)) 16 (kw % 100) = g3 107 (kw % 100) := by rw [hsm, W2 _ hwb]; exact way_eq hwa hpp W1 _ hwb
                          refine xj_iload (i := 5) 0 rfl dX12_way_98 ?_
                          refine xj_bipush (v := 16) (by decide) dX12_way_100 ?_
                          refine xj_icmp_ge (tgt := 186) (by decide) dX12_way_102 (fun zc102 => ?_) (fun zc102 => ?_)
                          · refine xj_goto (tgt := 87) (by decide) dX12_way_186 ?_
                            refine xj_iload (i := 4) 1 rfl dX12_way_87 ?_
                            refine xj_if_eq (tgt := 189) (by decide) dX12_way_89 (fun zc89 => ?_) (fun zc89 => ?_)
                            · refine xj_aload_n (n := 0) (i := 0) 3 rfl rfl dX12_way_189 ?_
                              refine yj_getf (v := .ref 107) fl_X12_74_12 (by omega) (fq_86 g3) rfl dX12_way_190 ?_
                              refine xj_iload_n (n := 2) (i := 2) 5 rfl rfl dX12_way_193 ?_
                              refine xj_bipush (v := 100) (by decide) dX12_way_194 ?_
                              refine xj_irem (by decide) dX12_way_196 ?_
                              refine xj_top (show ((nI kw) - (nI kw) / 100 * 100) = nI (kw % 100) from (pk_rem (a := kw) (d := 100) (by omega) (by omega) (by omega))) ?_
                              refine yj_ialdN (kw % 100) (by omega) fA_107 rfl (by omega) (by decide) dX12_way_197 ?_
                              exact xj_ireturn rfl (nr_i _) (Nat.zero_le _) (Nat.zero_le _) dX12_way_198 (qI_e ⟨by unfold vWay; (try simp only [nI_clamp (show ks < 2147483648 by omega), nI_clamp (show kw < 2147483648 by omega)]); rw [if_pos zp5, if_neg (nI_pos (by omega)), if_pos hw15, if_pos hw1]; all_goals (exact hres.symm), hf3⟩)
                            · exact absurd (by decide) zc89
                          · exact absurd (nI_le (Nat.le_refl _) (by decide)) zc102
                        · have ezon : zon = 1 := i2
                          subst ezon
                          refine xj_iload (i := 5) 0 rfl dX12_way_98 ?_
                          refine xj_bipush (v := 16) (by decide) dX12_way_100 ?_
                          refine xj_icmp_ge (tgt := 186) (by decide) dX12_way_102 (fun zc102 => ?_) (fun zc102 => ?_)
                          · refine xj_goto (tgt := 87) (by decide) dX12_way_186 ?_
                            refine xj_sub (lv' := [(4, .int 1), (3, .int (nI (kw / 100))), (0, .ref 86), (1, .int (nI ks)), (2, .int (nI kw))]) [1, 2, 3, 4, 5] rfl ?_
                            exact ihm (wMs (g3 107)) (Nat.lt_of_lt_of_le (i5 rfl rfl) hm) g3 hf3 (fun j hj => by rw [hr3 106 (by decide)]; exact hP2 j hj) i1 (Nat.le_refl _)
                          · exact absurd (nI_le (Nat.le_refl _) (by decide)) zc102
                      · intro i hi ih zon g3 hr3 hs3
                        have hf3 : fm g g3 := hf2.tr (fm.of hr3 (fun j hj => by subst hj; unfold sM; omega))
                        refine xj_iload (i := 5) 0 rfl dX12_way_98 ?_
                        refine xj_bipush (v := 16) (by decide) dX12_way_100 ?_
                        refine xj_icmp_ge (tgt := 186) (by decide) dX12_way_102 (fun zc102 => ?_) (fun zc102 => ?_)
                        · exact absurd zc102 (nI_ge hi (by decide))
                        · refine xj_iload (i := 5) 0 rfl dX12_way_105 ?_
                          refine xj_iconst (v := 4) (by decide) dX12_way_107 ?_
                          refine xj_irem (by decide) dX12_way_108 ?_
                          refine xj_top (show ((nI i) - (nI i) / 4 * 4) = nI (i % 4) from (nI_rem4 hi)) ?_
                          refine xj_iconst (v := 3) (by decide) dX12_way_109 ?_
                          refine xj_icmp_ge (tgt := 143) (by decide) dX12_way_110 (fun zc110 => ?_) (fun zc110 => ?_)
                          · have hc3 : ¬ i % 4 < 3 := fun z => zc110 |> fun y => absurd ((nI_leI (a := 3) (by decide) (by omega)).mp y) (by omega)
                            refine xj_iload (i := 5) 0 rfl dX12_way_143 ?_
                            refine xj_bipush (v := 12) (by decide) dX12_way_145 ?_
                            refine xj_icmp_ge (tgt := 180) (by decide) dX12_way_147 (fun zc147 => ?_) (fun zc147 => ?_)
                            · have hc12 : ¬ i < 12 := fun z => absurd ((nI_leI (a := 12) (by decide) (by omega)).mp zc147) (by omega)
                              refine xj_iinc (n := 1) (i := 5) (v := nI (i + 1)) (lv1 := [(5, .int (nI (i + 1))), (4, .int zon), (3, .int (nI (kw / 100))), (0, .ref 86), (1, .int (nI ks)), (2, .int (nI kw))]) 0 rfl (nI_1 i) rfl (Nat.le_of_ble_eq_true rfl) dX12_way_180 ?_
                              refine xj_goto (tgt := 98) (by decide) dX12_way_183 ?_
                              refine xj_sub (lv' := [(5, .int (nI (i + 1))), (4, .int zon), (3, .int (nI (kw / 100))), (0, .ref 86), (1, .int (nI ks)), (2, .int (nI kw))]) [0, 1, 2, 3, 4, 5] rfl ?_
                              refine ih zon g3 hr3 ?_
                              show _ = List.foldl (rl1 (g2 106)) ((0 : Int32), g2 107) (egs i ++ ((if i % 4 < 3 then [(i, i + 1), (i + 1, i)] else []) ++ (if i < 12 then [(i, i + 4), (i + 4, i)] else [])))
                              rw [List.foldl_append, ← hs3, if_neg hc3, if_neg hc12]
                              rfl
                            · have hc12 : i < 12 := Nat.lt_of_not_le (fun z => zc147 (nI_le (a := 12) z (by omega)))
                              refine xj_iload (i := 4) 1 rfl dX12_way_150 ?_
                              refine xj_aload_n (n := 0) (i := 0) 3 rfl rfl dX12_way_152 ?_
                              refine xj_iload (i := 5) 0 rfl dX12_way_153 ?_
                              refine xj_iload (i := 5) 0 rfl dX12_way_155 ?_
                              refine xj_iconst (v := 4) (by decide) dX12_way_157 ?_
                              refine xj_iadd dX12_way_158 ?_
                              refine xj_top (nI_add i 4) ?_
                              refine xj_callV kv_X12_249 (c_X12_relaxes l (d + 4) n hn g3 i (i + 4) (by omega) (by omega)) (As := [.int (nI i), .int (nI (i + 4))]) (st := [.int zon]) (by omega) (fq_86 g3) (ci := 12) rfl rfl rfl rfl (xRm_of (by omega) (by decide) (by omega) (by omega)) (Nat.le_of_ble_eq_true rfl) dX12_way_159 (yk_i (kc := 0) (ks := 0) fun zv3 zg4 hzg4 => ?_)
                              obtain ⟨hvzv3, hwzg4, hqzg4⟩ := hzg4
                              have hrzg4 : fr (fun j => j = 107) g2 zg4 := hr3.tr hqzg4
                              have hxzg4 : fm g zg4 := hf2.tr (fm.of hrzg4 (fun j hj => by subst hj; unfold sM; omega))
                              have Czg4 := C.keep hxzg4
                              refine xj_ior dX12_way_162 ?_
                              refine xj_topi (fun zv5 ezv5 => ?_)
                              refine xj_istore (i := 4) (lv1 := [(4, .int zv5), (5, .int (nI i)), (3, .int (nI (kw / 100))), (0, .ref 86), (1, .int (nI ks)), (2, .int (nI kw))]) rfl (Nat.le_of_ble_eq_true rfl) dX12_way_163 ?_
                              have hszg4 : (zv5, zg4 107) = rl1 (g2 106) (zon, g3 107) (i, (i + 4)) := by unfold rl1; dsimp only; rw [ezv5, hvzv3, hwzg4, show g3 106 = g2 106 from hr3 106 (by decide)]
                              refine xj_iload (i := 4) 0 rfl dX12_way_165 ?_
                              refine xj_aload_n (n := 0) (i := 0) 3 rfl rfl dX12_way_167 ?_
                              refine xj_iload (i := 5) 1 rfl dX12_way_168 ?_
                              refine xj_iconst (v := 4) (by decide) dX12_way_170 ?_
                              refine xj_iadd dX12_way_171 ?_
                              refine xj_top (nI_add i 4) ?_
                              refine xj_iload (i := 5) 1 rfl dX12_way_172 ?_
                              refine xj_callV kv_X12_249 (c_X12_relaxes l (d + 4) n hn zg4 (i + 4) i (by omega) (by omega)) (As := [.int (nI (i + 4)), .int (nI i)]) (st := [.int zv5]) (by omega) (fq_86 zg4) (ci := 12) rfl rfl rfl rfl (xRm_of (by omega) (by decide) (by omega) (by omega)) (Nat.le_of_ble_eq_true rfl) dX12_way_174 (yk_i (kc := 0) (ks := 0) fun zv6 zg7 hzg7 => ?_)
                              obtain ⟨hvzv6, hwzg7, hqzg7⟩ := hzg7
                              have hrzg7 : fr (fun j => j = 107) g2 zg7 := hrzg4.tr hqzg7
                              have hxzg7 : fm g zg7 := hf2.tr (fm.of hrzg7 (fun j hj => by subst hj; unfold sM; omega))
                              have Czg7 := C.keep hxzg7
                              refine xj_ior dX12_way_177 ?_
                              refine xj_topi (fun zv8 ezv8 => ?_)
                              refine xj_istore (i := 4) (lv1 := [(4, .int zv8), (5, .int (nI i)), (3, .int (nI (kw / 100))), (0, .ref 86), (1, .int (nI ks)), (2, .int (nI kw))]) rfl (Nat.le_of_ble_eq_true rfl) dX12_way_178 ?_
                              have hszg7 : (zv8, zg7 107) = rl1 (g2 106) (zv5, zg4 107) ((i + 4), i) := by unfold rl1; dsimp only; rw [ezv8, hvzv6, hwzg7, show zg4 106 = g2 106 from hrzg4 106 (by decide)]
                              refine xj_iinc (n := 1) (i := 5) (v := nI (i + 1)) (lv1 := [(5, .int (nI (i + 1))), (4, .int zv8), (3, .int (nI (kw / 100))), (0, .ref 86), (1, .int (nI ks)), (2, .int (nI kw))]) 1 rfl (nI_1 i) rfl (Nat.le_of_ble_eq_true rfl) dX12_way_180 ?_
                              refine xj_goto (tgt := 98) (by decide) dX12_way_183 ?_
                              refine xj_sub (lv' := [(5, .int (nI (i + 1))), (4, .int zv8), (3, .int (nI (kw / 100))), (0, .ref 86), (1, .int (nI ks)), (2, .int (nI kw))]) [0, 1, 2, 3, 4, 5] rfl ?_
                              refine ih zv8 zg7 hrzg7 ?_
                              show _ = List.foldl (rl1 (g2 106)) ((0 : Int32), g2 107) (egs i ++ ((if i % 4 < 3 then [(i, i + 1), (i + 1, i)] else []) ++ (if i < 12 then [(i, i + 4), (i + 4, i)] else [])))
                              rw [List.foldl_append, ← hs3, if_neg hc3, if_pos hc12]
                              simp only [List.nil_append, List.append_nil, List.cons_append, List.foldl_cons, List.foldl_nil]
                              rw [← hszg4, ← hszg7]
                          · have hc3 : i % 4 < 3 := Nat.lt_of_not_le (fun z => zc110 (nI_le (a := 3) z (by omega)))
                            refine xj_iload (i := 4) 1 rfl dX12_way_113 ?_
                            refine xj_aload_n (n := 0) (i := 0) 3 rfl rfl dX12_way_115 ?_
                            refine xj_iload (i := 5) 0 rfl dX12_way_116 ?_
                            refine xj_iload (i := 5) 0 rfl dX12_way_118 ?_
                            refine xj_iconst (v := 1) (by decide) dX12_way_120 ?_
                            refine xj_iadd dX12_way_121 ?_
                            refine xj_top (nI_add i 1) ?_
                            refine xj_callV kv_X12_249 (c_X12_relaxes l (d + 4) n hn g3 i (i + 1) (by omega) (by omega)) (As := [.int (nI i), .int (nI (i + 1))]) (st := [.int zon]) (by omega) (fq_86 g3) (ci := 12) rfl rfl rfl rfl (xRm_of (by omega) (by decide) (by omega) (by omega)) (Nat.le_of_ble_eq_true rfl) dX12_way_122 (yk_i (kc := 0) (ks := 0) fun zv9 zg10 hzg10 => ?_)
                            obtain ⟨hvzv9, hwzg10, hqzg10⟩ := hzg10
                            have hrzg10 : fr (fun j => j = 107) g2 zg10 := hr3.tr hqzg10
                            have hxzg10 : fm g zg10 := hf2.tr (fm.of hrzg10 (fun j hj => by subst hj; unfold sM; omega))
                            have Czg10 := C.keep hxzg10
                            refine xj_ior dX12_way_125 ?_
                            refine xj_topi (fun zv11 ezv11 => ?_)
                            refine xj_istore (i := 4) (lv1 := [(4, .int zv11), (5, .int (nI i)), (3, .int (nI (kw / 100))), (0, .ref 86), (1, .int (nI ks)), (2, .int (nI kw))]) rfl (Nat.le_of_ble_eq_true rfl) dX12_way_126 ?_
                            have hszg10 : (zv11, zg10 107) = rl1 (g2 106) (zon, g3 107) (i, (i + 1)) := by unfold rl1; dsimp only; rw [ezv11, hvzv9, hwzg10, show g3 106 = g2 106 from hr3 106 (by decide)]
                            refine xj_iload (i := 4) 0 rfl dX12_way_128 ?_
                            refine xj_aload_n (n := 0) (i := 0) 3 rfl rfl dX12_way_130 ?_
                            refine xj_iload (i := 5) 1 rfl dX12_way_131 ?_
                            refine xj_iconst (v := 1) (by decide) dX12_way_133 ?_
                            refine xj_iadd dX12_way_134 ?_
                            refine xj_top (nI_add i 1) ?_
                            refine xj_iload (i := 5) 1 rfl dX12_way_135 ?_
                            refine xj_callV kv_X12_249 (c_X12_relaxes l (d + 4) n hn zg10 (i + 1) i (by omega) (by omega)) (As := [.int (nI (i + 1)), .int (nI i)]) (st := [.int zv11]) (by omega) (fq_86 zg10) (ci := 12) rfl rfl rfl rfl (xRm_of (by omega) (by decide) (by omega) (by omega)) (Nat.le_of_ble_eq_true rfl) dX12_way_137 (yk_i (kc := 0) (ks := 0) fun zv12 zg13 hzg13 => ?_)
                            obtain ⟨hvzv12, hwzg13, hqzg13⟩ := hzg13
                            have hrzg13 : fr (fun j => j = 107) g2 zg13 := hrzg10.tr hqzg13
                            have hxzg13 : fm g zg13 := hf2.tr (fm.of hrzg13 (fun j hj => by subst hj; unfold sM; omega))
                            have Czg13 := C.keep hxzg13
                            refine xj_ior dX12_way_140 ?_
                            refine xj_topi (fun zv14 ezv14 => ?_)
                            refine xj_istore (i := 4) (lv1 := [(4, .int zv14), (5, .int (nI i)), (3, .int (nI (kw / 100))), (0, .ref 86), (1, .int (nI ks)), (2, .int (nI kw))]) rfl (Nat.le_of_ble_eq_true rfl) dX12_way_141 ?_
                            have hszg13 : (zv14, zg13 107) = rl1 (g2 106) (zv11, zg10 107) ((i + 1), i) := by unfold rl1; dsimp only; rw [ezv14, hvzv12, hwzg13, show zg10 106 = g2 106 from hrzg10 106 (by decide)]
                            refine xj_iload (i := 5) 1 rfl dX12_way_143 ?_
                            refine xj_bipush (v := 12) (by decide) dX12_way_145 ?_
                            refine xj_icmp_ge (tgt := 180) (by decide) dX12_way_147 (fun zc147 => ?_) (fun zc147 => ?_)
                            · have hc12 : ¬ i < 12 := fun z => absurd ((nI_leI (a := 12) (by decide) (by omega)).mp zc147) (by omega)
                              refine xj_iinc (n := 1) (i := 5) (v := nI (i + 1)) (lv1 := [(5, .int (nI (i + 1))), (4, .int zv14), (3, .int (nI (kw / 100))), (0, .ref 86), (1, .int (nI ks)), (2, .int (nI kw))]) 1 rfl (nI_1 i) rfl (Nat.le_of_ble_eq_true rfl) dX12_way_180 ?_
                              refine xj_goto (tgt := 98) (by decide) dX12_way_183 ?_
                              refine xj_sub (lv' := [(5, .int (nI (i + 1))), (4, .int zv14), (3, .int (nI (kw / 100))), (0, .ref 86), (1, .int (nI ks)), (2, .int (nI kw))]) [0, 1, 2, 3, 4, 5] rfl ?_
                              refine ih zv14 zg13 hrzg13 ?_
                              show _ = List.foldl (rl1 (g2 106)) ((0 : Int32), g2 107) (egs i ++ ((if i % 4 < 3 then [(i, i + 1), (i + 1, i)] else []) ++ (if i < 12 then [(i, i + 4), (i + 4, i)] else [])))
                              rw [List.foldl_append, ← hs3, if_pos hc3, if_neg hc12]
                              simp only [List.nil_append, List.append_nil, List.cons_append, List.foldl_cons, List.foldl_nil]
                              rw [← hszg10, ← hszg13]
                            · have hc12 : i < 12 := Nat.lt_of_not_le (fun z => zc147 (nI_le (a := 12) z (by omega)))
                              refine xj_iload (i := 4) 0 rfl dX12_way_150 ?_
                              refine xj_aload_n (n := 0) (i := 0) 3 rfl rfl dX12_way_152 ?_
                              refine xj_iload (i := 5) 1 rfl dX12_way_153 ?_
                              refine xj_iload (i := 5) 1 rfl dX12_way_155 ?_
                              refine xj_iconst (v := 4) (by decide) dX12_way_157 ?_
                              refine xj_iadd dX12_way_158 ?_
                              refine xj_top (nI_add i 4) ?_
                              refine xj_callV kv_X12_249 (c_X12_relaxes l (d + 4) n hn zg13 i (i + 4) (by omega) (by omega)) (As := [.int (nI i), .int (nI (i + 4))]) (st := [.int zv14]) (by omega) (fq_86 zg13) (ci := 12) rfl rfl rfl rfl (xRm_of (by omega) (by decide) (by omega) (by omega)) (Nat.le_of_ble_eq_true rfl) dX12_way_159 (yk_i (kc := 0) (ks := 0) fun zv15 zg16 hzg16 => ?_)
                              obtain ⟨hvzv15, hwzg16, hqzg16⟩ := hzg16
                              have hrzg16 : fr (fun j => j = 107) g2 zg16 := hrzg13.tr hqzg16
                              have hxzg16 : fm g zg16 := hf2.tr (fm.of hrzg16 (fun j hj => by subst hj; unfold sM; omega))
                              have Czg16 := C.keep hxzg16
                              refine xj_ior dX12_way_162 ?_
                              refine xj_topi (fun zv17 ezv17 => ?_)
                              refine xj_istore (i := 4) (lv1 := [(4, .int zv17), (5, .int (nI i)), (3, .int (nI (kw / 100))), (0, .ref 86), (1, .int (nI ks)), (2, .int (nI kw))]) rfl (Nat.le_of_ble_eq_true rfl) dX12_way_163 ?_
                              have hszg16 : (zv17, zg16 107) = rl1 (g2 106) (zv14, zg13 107) (i, (i + 4)) := by unfold rl1; dsimp only; rw [ezv17, hvzv15, hwzg16, show zg13 106 = g2 106 from hrzg13 106 (by decide)]
                              refine xj_iload (i := 4) 0 rfl dX12_way_165 ?_
                              refine xj_aload_n (n := 0) (i := 0) 3 rfl rfl dX12_way_167 ?_
                              refine xj_iload (i := 5) 1 rfl dX12_way_168 ?_
                              refine xj_iconst (v := 4) (by decide) dX12_way_170 ?_
                              refine xj_iadd dX12_way_171 ?_
                              refine xj_top (nI_add i 4) ?_
                              refine xj_iload (i := 5) 1 rfl dX12_way_172 ?_
                              refine xj_callV kv_X12_249 (c_X12_relaxes l (d + 4) n hn zg16 (i + 4) i (by omega) (by omega)) (As := [.int (nI (i + 4)), .int (nI i)]) (st := [.int zv17]) (by omega) (fq_86 zg16) (ci := 12) rfl rfl rfl rfl (xRm_of (by omega) (by decide) (by omega) (by omega)) (Nat.le_of_ble_eq_true rfl) dX12_way_174 (yk_i (kc := 0) (ks := 0) fun zv18 zg19 hzg19 => ?_)
                              obtain ⟨hvzv18, hwzg19, hqzg19⟩ := hzg19
                              have hrzg19 : fr (fun j => j = 107) g2 zg19 := hrzg16.tr hqzg19
                              have hxzg19 : fm g zg19 := hf2.tr (fm.of hrzg19 (fun j hj => by subst hj; unfold sM; omega))
                              have Czg19 := C.keep hxzg19
                              refine xj_ior dX12_way_177 ?_
                              refine xj_topi (fun zv20 ezv20 => ?_)
                              refine xj_istore (i := 4) (lv1 := [(4, .int zv20), (5, .int (nI i)), (3, .int (nI (kw / 100))), (0, .ref 86), (1, .int (nI ks)), (2, .int (nI kw))]) rfl (Nat.le_of_ble_eq_true rfl) dX12_way_178 ?_
                              have hszg19 : (zv20, zg19 107) = rl1 (g2 106) (zv17, zg16 107) ((i + 4), i) := by unfold rl1; dsimp only; rw [ezv20, hvzv18, hwzg19, show zg16 106 = g2 106 from hrzg16 106 (by decide)]
                              refine xj_iinc (n := 1) (i := 5) (v := nI (i + 1)) (lv1 := [(5, .int (nI (i + 1))), (4, .int zv20), (3, .int (nI (kw / 100))), (0, .ref 86), (1, .int (nI ks)), (2, .int (nI kw))]) 1 rfl (nI_1 i) rfl (Nat.le_of_ble_eq_true rfl) dX12_way_180 ?_
                              refine xj_goto (tgt := 98) (by decide) dX12_way_183 ?_
                              refine xj_sub (lv' := [(5, .int (nI (i + 1))), (4, .int zv20), (3, .int (nI (kw / 100))), (0, .ref 86), (1, .int (nI ks)), (2, .int (nI kw))]) [0, 1, 2, 3, 4, 5] rfl ?_
                              refine ih zv20 zg19 hrzg19 ?_
                              show _ = List.foldl (rl1 (g2 106)) ((0 : Int32), g2 107) (egs i ++ ((if i % 4 < 3 then [(i, i + 1), (i + 1, i)] else []) ++ (if i < 12 then [(i, i + 4), (i + 4, i)] else [])))
                              rw [List.foldl_append, ← hs3, if_pos hc3, if_pos hc12]
                              simp only [List.nil_append, List.append_nil, List.cons_append, List.foldl_cons, List.foldl_nil]
                              rw [← hszg10, ← hszg13, ← hszg16, ← hszg19]
                    refine xj_sub (lv' := [(5, .int 0), (4, .int 0), (3, .int (nI (kw / 100))), (0, .ref 86), (1, .int (nI ks)), (2, .int (nI kw))]) [0, 1, 2, 3, 4, 5] rfl ?_
                    exact key3 0 (Nat.zero_le _) 0 g2 fr.rf rfl
              refine xj_sub (lv' := [(4, .int 1), (3, .int (nI (kw / 100))), (0, .ref 86), (1, .int (nI ks)), (2, .int (nI kw))]) [0, 1, 2, 3, 4] rfl ?_
              have h107 : ∀ j, j < 16 → zg2 107 j = if j = kw / 100 then coP A Λ ks j else -1 := fun j hj => by
                rw [ezg2, gs_s]; by_cases e : j = kw / 100; (rw [e, upd_s, if_pos rfl, ezv1]); (rw [upd_n _ _ e, if_neg e]; exact hQ j hj)
              exact key2 (wMs (zg2 107)) zg2 hxzg2 (fun j hj => by rw [ezg2, gs_n _ _ _ (by decide)]; exact hP j hj) (wRI_0 hwa hpp h107) (Nat.le_refl _)
            · exact absurd (nI_le (Nat.le_refl _) (by decide)) zc39
          · intro i hi ih g1 hf hP hQ
            refine xj_iload_n (n := 3) (i := 3) 0 rfl rfl dX12_way_36 ?_
            refine xj_bipush (v := 16) (by decide) dX12_way_37 ?_
            refine xj_icmp_ge (tgt := 67) (by decide) dX12_way_39 (fun zc39 => ?_) (fun zc39 => ?_)
            · exact absurd zc39 (nI_ge hi (by decide))
            · refine xj_aload_n (n := 0) (i := 0) 1 rfl rfl dX12_way_42 ?_
              refine yj_getf (v := .ref 106) fl_X12_71_12 (by omega) (fq_86 g1) rfl dX12_way_43 ?_
              refine xj_iload_n (n := 3) (i := 3) 0 rfl rfl dX12_way_46 ?_
              refine xj_aload_n (n := 0) (i := 0) 1 rfl rfl dX12_way_47 ?_
              refine xj_iload_n (n := 1) (i := 1) 2 rfl rfl dX12_way_48 ?_
              refine xj_iload_n (n := 3) (i := 3) 0 rfl rfl dX12_way_49 ?_
              refine xj_callV kv_X12_203 (c_X12_costOf l (d + 1) n hn g1 A Λ O (C.keep hf) ks i hks (by omega)) (As := [.int (nI ks), .int (nI i)]) (st := [.int (nI i), .ref 106]) (by omega) (fq_86 g1) (ci := 12) rfl rfl rfl rfl (xRm_of (by omega) (by decide) (by omega) (by omega)) (Nat.le_of_ble_eq_true rfl) dX12_way_50 (yk_i (kc := 0) (ks := 0) fun zv21 zg22 hzg22 => ?_)
              obtain ⟨hvzv21, hfnzg22⟩ := hzg22
              have hxzg22 := fm.of hfnzg22 sN_m
              have Czg22 := (C.keep hf).keep hxzg22
              refine yj_iastN i (by omega) fA_106 rfl (by omega) (by decide) dX12_way_53 ?_
              obtain ⟨zg23, ezg23⟩ : ∃ z, z = gs zg22 106 i zv21 := ⟨_, rfl⟩
              rw [← ezg23]
              have hxzg23 : fm g zg23 := by rw [ezg23]; exact (hf.tr hxzg22).gS (by unfold sM; omega) _ _
              have Czg23 := C.keep hxzg23
              refine xj_aload_n (n := 0) (i := 0) 1 rfl rfl dX12_way_54 ?_
              refine yj_getf (v := .ref 107) fl_X12_74_12 (by omega) (fq_86 zg23) rfl dX12_way_55 ?_
              refine xj_iload_n (n := 3) (i := 3) 0 rfl rfl dX12_way_58 ?_
              refine xj_iconst (v := (-1)) (by decide) dX12_way_59 ?_
              refine yj_iastN i (by omega) fA_107 rfl (by omega) (by decide) dX12_way_60 ?_
              obtain ⟨zg24, ezg24⟩ : ∃ z, z = gs zg23 107 i (-1) := ⟨_, rfl⟩
              rw [← ezg24]
              have hxzg24 : fm g zg24 := by rw [ezg24]; exact hxzg23.gS (by unfold sM; omega) _ _
              have Czg24 := C.keep hxzg24
              refine xj_iinc (n := 1) (i := 3) (v := nI (i + 1)) (lv1 := [(3, .int (nI (i + 1))), (0, .ref 86), (1, .int (nI ks)), (2, .int (nI kw))]) 0 rfl (nI_1 i) rfl (Nat.le_of_ble_eq_true rfl) dX12_way_61 ?_
              refine xj_goto (tgt := 36) (by decide) dX12_way_64 ?_
              refine xj_sub (lv' := [(3, .int (nI (i + 1))), (0, .ref 86), (1, .int (nI ks)), (2, .int (nI kw))]) [0, 1, 2, 3] rfl ?_
              refine ih zg24 hxzg24 (fun j hj => ?_) (fun j hj => ?_)
              · rw [ezg24, gs_n _ _ _ (by decide), ezg23, gs_s]; by_cases e : j = i; (subst e; rw [upd_s]; exact hvzv21); (rw [upd_n _ _ e, hfnzg22 106 (by unfold sN; omega)]; exact hP j (by omega))
              · rw [ezg24, gs_s]; by_cases e : j = i; (subst e; rw [upd_s]); (rw [upd_n _ _ e, ezg23, gs_n _ _ _ (by decide), hfnzg22 107 (by unfold sN; omega)]; exact hQ j (by omega))
        refine xj_sub (lv' := [(3, .int 0), (0, .ref 86), (1, .int (nI ks)), (2, .int (nI kw))]) [0, 1, 2, 3] rfl ?_
        exact key 0 (Nat.zero_le _) g fm.rf (fun j h => absurd h (Nat.not_lt_zero j)) (fun j h => absurd h (Nat.not_lt_zero j))
      · have hw1 : ¬ (0 ≤ nI (kw % 100) ∧ nI (kw % 100) ≤ 15) := fun z => zc28 (nI_lt (b := 16) (by have h := (nI_leI (b := 15) (by omega) (by decide)).mp z.2; omega) (by decide))
        refine xj_bipush (v := (-7)) (by decide) dX12_way_31 ?_
        exact xj_ireturn rfl (nr_i _) (Nat.zero_le _) (Nat.zero_le _) dX12_way_33 (qI_e ⟨by unfold vWay; (try simp only [nI_clamp (show ks < 2147483648 by omega), nI_clamp (show kw < 2147483648 by omega)]); rw [if_pos zp5, if_neg (nI_pos (by omega)), if_pos hw15, if_neg hw1]; all_goals (rfl), fm.rf⟩)
  · have zp5 : ¬ (isSl A s) := bI_0.mp zc5
    refine xj_bipush (v := (-5)) (by decide) dX12_way_8 ?_
    exact xj_ireturn rfl (nr_i _) (Nat.zero_le _) (Nat.zero_le _) dX12_way_10 (qI_e ⟨by unfold vWay; rw [if_neg zp5]; all_goals (rfl), fm.rf⟩)
