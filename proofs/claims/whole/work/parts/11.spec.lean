/-! WHAT A TEXT SAYS: its codes run over a list of numbers (the newest first) -/
def nmI (code : Int32) : Int32 := -code - 262
def isNm (code : Int32) : Bool := decide (0 ≤ nmI code ∧ nmI code ≤ 5)
/-- a sign between two -/
def jnF (tok a b : Int32) : Int32 := if tok = 259 then bI (a ≠ 0 ∨ b ≠ 0) else if tok = 260 then bI (a ≠ 0 ∧ b ≠ 0) else if tok = 60 then bI (a < b) else if tok = 61 then bI (a = b) else if tok = 43 then a + b else if tok = 45 then a - b else a * b
def lStep (code : Int32) (nm : Nat → Int32) (s : List Int32) : Option (List Int32) :=
  if isNm code = true then (if s.length < 40 then some (nm (nmI code).toNatClampNeg :: s) else none)
  else if 0 ≤ code then (if s.length < 40 then some (code :: s) else none)
  else if code = -261 then (match s with | x :: r => some (bI (x = 0) :: r) | [] => none)
  else if code = -3 then (match s with | x :: r => some (-x :: r) | [] => none)
  else (match s with | y :: x :: r => some (jnF (-code) x y :: r) | _ => none)
def lRun (tc nm : Nat → Int32) : Nat → Nat → List Int32 → Option (List Int32)
  | 0, _, s => some s
  | k + 1, i, s => (lStep (tc i) nm s).bind (lRun tc nm k (i + 1))
/-- the list that lies in a row, the newest last -/
def lRow (s : List Int32) (top : Nat) (w : Nat → Int32) : Prop := s.length = top ∧ ∀ j, j < top → s[j]? = some (w (top - 1 - j))
theorem lRow_0 (w : Nat → Int32) : lRow [] 0 w := ⟨rfl, fun j hj => absurd hj (Nat.not_lt_zero j)⟩
theorem lRow_push {s : List Int32} {top : Nat} {w : Nat → Int32} (h : lRow s top w) (x : Int32) : lRow (x :: s) (top + 1) (upd w top x) := by
  refine ⟨by rw [List.length_cons, h.1], fun j hj => ?_⟩
  cases j with
  | zero => rw [List.getElem?_cons_zero, show top + 1 - 1 - 0 = top by omega, upd_s]
  | succ j =>
    rw [List.getElem?_cons_succ, h.2 j (by omega), show top + 1 - 1 - (j + 1) = top - 1 - j by omega, upd_n _ _ (by omega)]
theorem lRow_top {x : Int32} {r : List Int32} {top : Nat} {w : Nat → Int32} (h : lRow (x :: r) top w) : 1 ≤ top ∧ w (top - 1) = x := by
  have h1 : r.length + 1 = top := h.1
  have h2 := h.2 0 (by omega)
  rw [List.getElem?_cons_zero, Nat.sub_zero] at h2
  exact ⟨by omega, (Option.some.inj h2).symm⟩
theorem lRow_pop {x : Int32} {r : List Int32} {top : Nat} {w : Nat → Int32} (h : lRow (x :: r) top w) : lRow r (top - 1) w := by
  have h1 : r.length + 1 = top := h.1
  refine ⟨by omega, fun j hj => ?_⟩
  have h2 := h.2 (j + 1) (by omega)
  rw [List.getElem?_cons_succ] at h2
  rw [h2, show top - 1 - (j + 1) = top - 1 - 1 - j by omega]
theorem lRow_set {x : Int32} {r : List Int32} {top : Nat} {w : Nat → Int32} (h : lRow (x :: r) top w) (y : Int32) : lRow (y :: r) top (upd w (top - 1) y) := by
  have h1 := lRow_top h
  have h2 := lRow_push (lRow_pop h) y
  rw [show top - 1 + 1 = top by omega] at h2
  exact h2
theorem lRow_top1 {x : Int32} {r : List Int32} {j : Nat} {w : Nat → Int32} (h : lRow (x :: r) (j + 1) w) : w j = x := by
  have h1 := (lRow_top h).2
  rwa [Nat.add_sub_cancel] at h1
theorem lRow_pop1 {x : Int32} {r : List Int32} {j : Nat} {w : Nat → Int32} (h : lRow (x :: r) (j + 1) w) : lRow r j w := by
  have h1 := lRow_pop h
  rwa [Nat.add_sub_cancel] at h1
theorem lRow_set1 {x : Int32} {r : List Int32} {j : Nat} {w : Nat → Int32} (h : lRow (x :: r) (j + 1) w) (y : Int32) : lRow (y :: r) (j + 1) (upd w j y) := by
  have h1 := lRow_set h y
  rwa [Nat.add_sub_cancel] at h1
theorem lStep_congr (code : Int32) {nm nm' : Nat → Int32} (h : ∀ j, j < 6 → nm j = nm' j) (s : List Int32) : lStep code nm s = lStep code nm' s := by
  unfold lStep
  by_cases h1 : isNm code = true
  · rw [if_pos h1, if_pos h1]
    have h2 := of_decide_eq_true h1
    obtain ⟨k, hk, e⟩ := nI_bnd (m := 5) (by decide) h2.1 h2.2
    rw [e, nI_clamp (by omega), h k (by omega)]
  · rw [if_neg h1, if_neg h1]
theorem lRun_congr (tc : Nat → Int32) {nm nm' : Nat → Int32} (h : ∀ j, j < 6 → nm j = nm' j) : ∀ (k i : Nat) (s : List Int32), lRun tc nm k i s = lRun tc nm' k i s
  | 0, _, _ => rfl
  | k + 1, i, s => by
    unfold lRun
    rw [lStep_congr _ h]
    congr 1
    funext s'
    exact lRun_congr tc h k (i + 1) s'
/-- rows of a text that says L -/
def lwR (tc te : Nat → Int32) (L : Nat → (Nat → Int32) → Int32) : Prop := ∃ b : Nat → Nat, b 0 = 0 ∧ (∀ p, p < 3 → b p ≤ b (p + 1) ∧ te p = nI (b (p + 1))) ∧ b 3 ≤ 160 ∧ (tc 1000000).toNatClampNeg = b 3 ∧ ∀ p, p < 3 → ∀ nm, lRun tc nm (b (p + 1) - b p) (b p) [] = some [L p nm]
theorem lwR.congr {tc te : Nat → Int32} {L : Nat → (Nat → Int32) → Int32} (h : lwR tc te L) {p : Nat} (hp : p < 3) {nm nm' : Nat → Int32} (e : ∀ j, j < 6 → nm j = nm' j) : L p nm = L p nm' := by
  obtain ⟨b, -, -, -, -, h5⟩ := h
  have h6 := h5 p hp nm
  rw [lRun_congr tc e, h5 p hp nm'] at h6
  exact (List.cons.inj (Option.some.inj h6)).1.symm
abbrev xL : Type := Nat → (Nat → Int32) → Int32
/-! PANES: pure -/
def nmF (c : Nat) (dl night more pic : Int32) : Nat → Int32 := fun j => if j = 0 then nI (c % 4) else if j = 1 then nI (c / 4) else if j = 2 then dl else if j = 3 then night else if j = 4 then more else (pic >>> (nI c &&& 31)) &&& 1
def clF (p : Nat) (w : Int32) : Int32 := if 0 < (if w < (if p = 0 then 50 else 99) then w else if p = 0 then 50 else 99) then (if w < (if p = 0 then 50 else 99) then w else if p = 0 then 50 else 99) else 0
def saidF (L : xL) (p : Nat) (more pic : Int32) (c : Nat) (dl night : Int32) : Int32 := clF p (L p (nmF c dl night more pic))
def clearF (L : xL) (k : Nat) (more pic : Int32) (c : Nat) (dl night : Int32) : Bool := decide (dl ≤ kLimit k (saidF L 1 more pic c dl night) (nI c) more)
def costF (L : xL) (k : Nat) (more pic : Int32) (c : Nat) (dl night : Int32) : Int32 := kCost k (saidF L 2 more pic c dl night) (nI c)
def dlrF (L : xL) (k : Nat) (more pic : Int32) (c : Nat) (dl night : Int32) : Int32 := kDull k (saidF L 0 more pic c dl night) (nI c) more night
def min99 (x : Int32) : Int32 := if x < 99 then x else 99
def bitF (c : Nat) : Int32 := 1 <<< (nI c &&& 31)
/-- bits 0 .. n-1 by f -/
def setF (f : Nat → Bool) : Nat → Int32
  | 0 => 0
  | n + 1 => if f n = true then setF f n ||| bitF n else setF f n
def sumF (f : Nat → Int32) : Nat → Int32
  | 0 => 0
  | n + 1 => sumF f n + f n
def clearS (L : xL) (k : Nat) (more pic : Int32) (dull : Nat → Int32) (night : Int32) : Int32 := setF (fun c => clearF L k more pic c (dull c) night) 16
def nightR (L : xL) (k : Nat) (more pic : Int32) (dull : Nat → Int32) (night : Int32) (n : Nat) : Nat → Int32 := fun c => if c < n then min99 (dull c + dlrF L k more pic c (dull c) night) else dull c
def costS (L : xL) (k : Nat) (more pic : Int32) (dull : Nat → Int32) (cells night : Int32) : Int32 := sumF (fun c => if hasF cells (nI c) = true then costF L k more pic c (dull c) night else 0) 16
/-! what rows hold -/
def pnA (g : xG) (q k : Nat) (more pic : Int32) (dull : Nat → Int32) : Prop := g q 0 = nI k ∧ g q 1 = more ∧ g q 2 = pic ∧ (∀ c, c < 16 → g (q + 1) c = dull c) ∧ k < 6
def lwA (g : xG) (n t : Nat) (L : xL) : Prop := fTn t ∧ t + 3 < n ∧ lwR (g (t + 1)) (g (t + 2)) L
/-- a pane's and a text's own scratch -/
def fX (q t : Nat) : Nat → Prop := fun j => j = q + 2 ∨ j = t + 3
def fXd (q t : Nat) : Nat → Prop := fun j => j = q + 1 ∨ j = q + 2 ∨ j = t + 3
theorem fTn.lo {t : Nat} (h : fTn t) : 82 ≤ t := by
  rcases h.1 with h | h <;> omega
theorem pnA.keep {g g1 : xG} {q k t : Nat} {more pic : Int32} {dull : Nat → Int32} (h : pnA g q k more pic dull) (hq : fPn q) (ht : fTn t) (hf : fr (fX q t) g g1) : pnA g1 q k more pic dull := by
  have h1 := hq.1
  have h2 := ht.lo
  have e1 := hf q (by unfold fX; omega)
  have e2 := hf (q + 1) (by unfold fX; omega)
  obtain ⟨a, b, c, d, e⟩ := h
  exact ⟨by rw [e1]; exact a, by rw [e1]; exact b, by rw [e1]; exact c, fun c hc => by rw [e2]; exact d c hc, e⟩
theorem lwA.keep {g g1 : xG} {n t : Nat} {L : xL} {X : Nat → Prop} (h : lwA g n t L) (hf : fr X g g1) (h1 : ¬ X (t + 1)) (h2 : ¬ X (t + 2)) : lwA g1 n t L := ⟨h.1, h.2.1, by rw [hf _ h1, hf _ h2]; exact h.2.2⟩
theorem lwA.fx {g g1 : xG} {n q t : Nat} {L : xL} (h : lwA g n t L) (hq : fPn q) (hf : fr (fX q t) g g1) : lwA g1 n t L := by
  have h1 := hq.1
  have h2 := h.1.lo
  exact h.keep hf (by unfold fX; omega) (by unfold fX; omega)
theorem lwA.fxd {g g1 : xG} {n q t : Nat} {L : xL} (h : lwA g n t L) (hq : fPn q) (hf : fr (fXd q t) g g1) : lwA g1 n t L := by
  have h1 := hq.1
  have h2 := h.1.lo
  exact h.keep hf (by unfold fXd; omega) (by unfold fXd; omega)
theorem pnA.k {g : xG} {q k : Nat} {more pic : Int32} {dull : Nat → Int32} (h : pnA g q k more pic dull) : (g q 0).toNatClampNeg = k := by
  rw [h.1]
  exact nI_clamp (by have := h.2.2.2.2; omega)
theorem pnA.to {g : xG} {q k : Nat} {more pic : Int32} {dull dull' : Nat → Int32} (h : pnA g q k more pic dull) (e : ∀ c, c < 16 → dull c = dull' c) : pnA g q k more pic dull' := ⟨h.1, h.2.1, h.2.2.1, fun c hc => (h.2.2.2.1 c hc).trans (e c hc), h.2.2.2.2⟩
theorem setF_congr {f f' : Nat → Bool} : ∀ {n : Nat}, (∀ c, c < n → f c = f' c) → setF f n = setF f' n
  | 0, _ => rfl
  | n + 1, h => by
    unfold setF
    rw [h n (Nat.lt_succ_self n), setF_congr (fun c hc => h c (Nat.lt_succ_of_lt hc))]
theorem sumF_congr {f f' : Nat → Int32} : ∀ {n : Nat}, (∀ c, c < n → f c = f' c) → sumF f n = sumF f' n
  | 0, _ => rfl
  | n + 1, h => by
    unfold sumF
    rw [h n (Nat.lt_succ_self n), sumF_congr (fun c hc => h c (Nat.lt_succ_of_lt hc))]
theorem fX_q (q t : Nat) : fX q t (q + 2) := Or.inl rfl
theorem fX_t (q t : Nat) : fX q t (t + 3) := Or.inr rfl
theorem fX_d {q t : Nat} (j : Nat) (h : fX q t j) : fXd q t j := h.elim (fun e => Or.inr (Or.inl e)) (fun e => Or.inr (Or.inr e))
/-- a thing of a pane that its text's and its own scratch don't touch: one field -/
theorem nI_div4 {c : Nat} (h : c < 16) : nI c / 4 = nI (c / 4) := pk_div (a := c) (d := 4) (by omega) (by omega) (by omega)
theorem nI_rem4 {c : Nat} (h : c < 16) : nI c - nI c / 4 * 4 = nI (c % 4) := pk_rem (a := c) (d := 4) (by omega) (by omega) (by omega)
