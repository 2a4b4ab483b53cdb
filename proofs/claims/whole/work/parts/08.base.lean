/-! rooms, frames, loops, ends of contracts over the flat heap -/
def xR (d mc ms : Nat) : Room := { frames := d, cells := mc, slots := ms, locals := 40 * d }
theorem xRm_of {d d' nL mc ms kc ks mc' ms' : Nat} (h1 : d' + 1 ≤ d) (h2 : nL ≤ 21) (h3 : kc + mc' ≤ mc) (h4 : ks + ms' ≤ ms) : xRm (xR d mc ms) (xR d' mc' ms') nL kc ks := by
  refine ⟨h1, ?_, h3, h4⟩
  show 8 + (nL + 11) + 40 * d' ≤ 40 * d
  omega
/-- rows outside X stay -/
def fr (X : Nat → Prop) (g g1 : xG) : Prop := ∀ q, ¬ X q → g1 q = g q
theorem fr.rf {X : Nat → Prop} {g : xG} : fr X g g := fun _ _ => rfl
theorem fr.tr {X : Nat → Prop} {g g1 g2 : xG} (h1 : fr X g g1) (h2 : fr X g1 g2) : fr X g g2 := fun q hq => (h2 q hq).trans (h1 q hq)
theorem fr.mono {X Y : Nat → Prop} {g g1 : xG} (h : fr X g g1) (hXY : ∀ q, X q → Y q) : fr Y g g1 := fun q hq => h q fun z => hq (hXY q z)
theorem fr.gs {X : Nat → Prop} {g g1 : xG} (h : fr X g g1) {q : Nat} (hq : X q) (k : Nat) (x : Int32) : fr X g (gs g1 q k x) := fun j hj => (gs_n g1 k x (fun e => hj (by rw [e]; exact hq))).trans (h j hj)
def qI (n : Nat) (P : Int32 → xG → Prop) : Option Value → xH → Prop := fun r h => ∃ v g1, r = some (.int v) ∧ h = (n, fh g1) ∧ P v g1
def qL (n : Nat) (P : Int64 → xG → Prop) : Option Value → xH → Prop := fun r h => ∃ v g1, r = some (.long v) ∧ h = (n, fh g1) ∧ P v g1
def qR (n : Nat) (P : Nat → xG → Prop) : Option Value → xH → Prop := fun r h => ∃ v g1, r = some (.ref v) ∧ h = (n, fh g1) ∧ P v g1
def qV (n : Nat) (P : xG → Prop) : Option Value → xH → Prop := fun r h => ∃ g1, r = none ∧ h = (n, fh g1) ∧ P g1
def qP (v : Int32) (h : xH) : Option Value → xH → Prop := fun r h1 => r = some (.int v) ∧ h1 = h
def qPL (v : Int64) (h : xH) : Option Value → xH → Prop := fun r h1 => r = some (.long v) ∧ h1 = h
section YK
variable {l : Launch} {M : xM} {cc : ByteArray} {Q : Option Value → xH → Prop} {kc ks pc : Nat} {lv : List (Nat × Value)} {st : List Value} {n : Nat}
theorem yk_i {P : Int32 → xG → Prop} (kk : ∀ (v : Int32) (g1 : xG), P v g1 → xJ l M cc Q kc ks pc lv (.int v :: st) (n, fh g1)) : ∀ (r : Option Value) (h1 : xH), qI n P r h1 → xJ l M cc Q kc ks pc lv (r.toList ++ st) h1 := by
  rintro _ _ ⟨v, g1, rfl, rfl, hp⟩
  exact kk v g1 hp
theorem yk_l {P : Int64 → xG → Prop} (kk : ∀ (v : Int64) (g1 : xG), P v g1 → xJ l M cc Q kc ks pc lv (.long v :: st) (n, fh g1)) : ∀ (r : Option Value) (h1 : xH), qL n P r h1 → xJ l M cc Q kc ks pc lv (r.toList ++ st) h1 := by
  rintro _ _ ⟨v, g1, rfl, rfl, hp⟩
  exact kk v g1 hp
theorem yk_r {P : Nat → xG → Prop} (kk : ∀ (v : Nat) (g1 : xG), P v g1 → xJ l M cc Q kc ks pc lv (.ref v :: st) (n, fh g1)) : ∀ (r : Option Value) (h1 : xH), qR n P r h1 → xJ l M cc Q kc ks pc lv (r.toList ++ st) h1 := by
  rintro _ _ ⟨v, g1, rfl, rfl, hp⟩
  exact kk v g1 hp
theorem yk_v {P : xG → Prop} (kk : ∀ (g1 : xG), P g1 → xJ l M cc Q kc ks pc lv st (n, fh g1)) : ∀ (r : Option Value) (h1 : xH), qV n P r h1 → xJ l M cc Q kc ks pc lv (r.toList ++ st) h1 := by
  rintro _ _ ⟨g1, rfl, rfl, hp⟩
  exact kk g1 hp
theorem yk_p {v : Int32} {h : xH} (kk : xJ l M cc Q kc ks pc lv (.int v :: st) h) : ∀ (r : Option Value) (h1 : xH), qP v h r h1 → xJ l M cc Q kc ks pc lv (r.toList ++ st) h1 := by
  rintro _ _ ⟨rfl, rfl⟩
  exact kk
theorem yk_pl {v : Int64} {h : xH} (kk : xJ l M cc Q kc ks pc lv (.long v :: st) h) : ∀ (r : Option Value) (h1 : xH), qPL v h r h1 → xJ l M cc Q kc ks pc lv (r.toList ++ st) h1 := by
  rintro _ _ ⟨rfl, rfl⟩
  exact kk
end YK
/-- a loop that counts up to N -/
theorem x_loop (N : Nat) (P : Nat → Prop) (hN : P N) (hs : ∀ k, k < N → P (k + 1) → P k) : ∀ k, k ≤ N → P k := by
  intro k hk
  obtain ⟨j, rfl⟩ : ∃ j, N = k + j := ⟨N - k, by omega⟩
  induction j generalizing k with
  | zero => exact hN
  | succ j ih => exact hs k (by omega) (ih (k + 1) (by rw [show k + 1 + j = k + (j + 1) by omega]; exact hN) (fun i hi => hs i (by omega)) (by omega))
/-- a loop with a measure -/
theorem x_meas {σ : Type} (P : σ → Prop) (μ : σ → Nat) (hs : ∀ s, (∀ s', μ s' < μ s → P s') → P s) : ∀ s, P s := by
  have key : ∀ (m : Nat) (s : σ), μ s < m → P s := by
    intro m
    induction m with
    | zero => intro s h; exact absurd h (Nat.not_lt_zero _)
    | succ m ih => intro s h; exact hs s fun s' h' => ih s' (by omega)
  exact fun s => key (μ s + 1) s (Nat.lt_succ_self _)
theorem nr_i (x : Int32) : narrow .int (.int x) = .int x := rfl
theorem nr_b {c : Prop} [Decidable c] : narrow .boolean (.int (bI c)) = .int (bI c) := by unfold bI; split <;> rfl
theorem nr_b1 : narrow .boolean (.int 1) = .int 1 := rfl
theorem nr_b0 : narrow .boolean (.int 0) = .int 0 := rfl
theorem fi_i (x : Int32) : narrow .int (.int x) = .int x ∧ fits .int (.int x) = true := ⟨rfl, rfl⟩
theorem nI_ne {a b : Nat} (h : a ≠ b) (ha : a < 2 ^ 31) (hb : b < 2 ^ 31) : ¬ nI a = nI b := fun e => h ((nI_eq ha hb).mp e)
theorem i32_lt (a b : Int32) : a < b ↔ a.toInt < b.toInt := Int32.lt_iff_toInt_lt
theorem i32_le (a b : Int32) : a ≤ b ↔ a.toInt ≤ b.toInt := Int32.le_iff_toInt_le
/-- a number between two bounds -/
theorem nI_bnd {x M : Int32} {m : Nat} (hM : M.toInt = m) (h0 : 0 ≤ x) (h1 : x ≤ M) : ∃ k : Nat, k ≤ m ∧ x = nI k := nI_of2 hM (fun h => absurd ((i32_le _ _).mp h0) (by have := (i32_lt _ _).mp h; omega)) h1
theorem i32_0 : (0 : Int32).toInt = 0 := rfl
theorem qP_e {v w : Int32} {h : xH} (e : v = w) : qP w h (some (.int v)) h := ⟨by rw [e], rfl⟩
theorem qPL_e {v w : Int64} {h : xH} (e : v = w) : qPL w h (some (.long v)) h := ⟨by rw [e], rfl⟩
theorem qI_e {n : Nat} {P : Int32 → xG → Prop} {v : Int32} {g : xG} (hp : P v g) : qI n P (some (.int v)) (n, fh g) := ⟨v, g, rfl, rfl, hp⟩
theorem qL_e {n : Nat} {P : Int64 → xG → Prop} {v : Int64} {g : xG} (hp : P v g) : qL n P (some (.long v)) (n, fh g) := ⟨v, g, rfl, rfl, hp⟩
theorem qR_e {n : Nat} {P : Nat → xG → Prop} {v : Nat} {g : xG} (hp : P v g) : qR n P (some (.ref v)) (n, fh g) := ⟨v, g, rfl, rfl, hp⟩
theorem qV_e {n : Nat} {P : xG → Prop} {g : xG} (hp : P g) : qV n P none (n, fh g) := ⟨g, rfl, rfl, hp⟩
def hasF (x i : Int32) : Bool := decide ((x >>> (i &&& 31)) &&& 1 = 1)
/-- panes, sheets, texts -/
def fPn (q : Nat) : Prop := q < 64 ∧ 9 ≤ q ∧ (∀ r, fc q r = .inr (.inr (7, fsP q r))) ∧ fAr (q + 1) 16 ∧ fAr (q + 2) 6
theorem fPn_r {s : Nat} (h : s < 6) : fPn (9 + 3 * s) := by
  rcases (show s = 0 ∨ s = 1 ∨ s = 2 ∨ s = 3 ∨ s = 4 ∨ s = 5 by omega) with rfl | rfl | rfl | rfl | rfl | rfl <;> exact ⟨by decide, by decide, fun _ => rfl, fun _ => rfl, fun _ => rfl⟩
theorem fPn_t {s : Nat} (h : s < 6) : fPn (28 + 3 * s) := by
  rcases (show s = 0 ∨ s = 1 ∨ s = 2 ∨ s = 3 ∨ s = 4 ∨ s = 5 by omega) with rfl | rfl | rfl | rfl | rfl | rfl <;> exact ⟨by decide, by decide, fun _ => rfl, fun _ => rfl, fun _ => rfl⟩
theorem fPn_k {s : Nat} (h : s < 6) : fPn (48 + 3 * s) := by
  rcases (show s = 0 ∨ s = 1 ∨ s = 2 ∨ s = 3 ∨ s = 4 ∨ s = 5 by omega) with rfl | rfl | rfl | rfl | rfl | rfl <;> exact ⟨by decide, by decide, fun _ => rfl, fun _ => rfl, fun _ => rfl⟩
theorem fPn_S {q : Nat} (h : fPn q) (k : Nat) (hk : k = 1 ∨ k = 2) : fSh q 7 k := by
  refine ⟨fsP q, h.2.2.1, fun r x => ?_, fun r => ?_⟩
  · rcases hk with rfl | rfl <;> rfl
  · rcases hk with rfl | rfl
    · exact (by decide : 1 < 5)
    · exact (by decide : 2 < 5)
def fSt (q : Nat) : Prop := q < 80 ∧ (∀ r, fc q r = .inr (.inr (8, fsS q r))) ∧ fAr (q + 1) 40
theorem fSt_q {s : Nat} (h : s < 4) : fSt (72 + 2 * s) := by
  rcases (show s = 0 ∨ s = 1 ∨ s = 2 ∨ s = 3 by omega) with rfl | rfl | rfl | rfl <;> exact ⟨by decide, fun _ => rfl, fun _ => rfl⟩
theorem fSt_S {q : Nat} (h : fSt q) (k : Nat) (hk : k = 0 ∨ k = 1) : fSh q 8 k := by
  refine ⟨fsS q, h.2.1, fun r x => ?_, fun r => ?_⟩
  · rcases hk with rfl | rfl <;> rfl
  · rcases hk with rfl | rfl
    · exact (by decide : 0 < 3)
    · exact (by decide : 1 < 3)
/-- a text's name -/
def fTn (t : Nat) : Prop := (t = 82 ∨ (110 ≤ t ∧ (t - 110) % 4 = 0)) ∧ (∀ r, fc t r = .inr (.inr (10, fsX t))) ∧ (∀ r, fc (t + 1) r = .inl ((r 1000000).toNatClampNeg, r)) ∧ fAr (t + 2) 3 ∧ fAr (t + 3) 40
theorem fTn_k (k : Nat) : fTn (fTX k) := by
  unfold fTX
  by_cases h : k = 0
  · rw [if_pos h]
    exact ⟨Or.inl rfl, fun _ => rfl, fun _ => rfl, fun _ => rfl, fun _ => rfl⟩
  · rw [if_neg h]
    have e0 : (106 + 4 * k - 110) % 4 = 0 := by omega
    have e1 : (106 + 4 * k + 1 - 110) % 4 = 1 := by omega
    have e2 : (106 + 4 * k + 2 - 110) % 4 = 2 := by omega
    have e3 : (106 + 4 * k + 3 - 110) % 4 = 3 := by omega
    refine ⟨Or.inr ⟨by omega, e0⟩, fun r => ?_, fun r => ?_, fun r => ?_, fun r => ?_⟩
    · unfold fc; rw [if_neg (by omega)]; unfold fcT; rw [e0]; rfl
    · unfold fc; rw [if_neg (by omega)]; unfold fcT; rw [e1]; rfl
    · unfold fc; rw [if_neg (by omega)]; unfold fcT; rw [e2]; rfl
    · unfold fc; rw [if_neg (by omega)]; unfold fcT; rw [e3]; rfl
