/-! CONSTRUCTORS: a heap by the list of its cells, the newest first -/
def hR (L : List xE) : xH := (L.length, fun q => L.getD (L.length - 1 - q) (.inl (0, fun _ => 0)))
theorem hR_at {L : List xE} {i q : Nat} {e : xE} (hq : L.length = q + i + 1) (hi : L[i]? = some e) : (hR L).2 q = e := by
  show (L[L.length - 1 - q]?).getD _ = e
  rw [show L.length - 1 - q = i by omega, hi]
  rfl
theorem hR_push (L : List xE) (e : xE) (p : Nat) (_ : p < L.length + 1) : va_up (hR L).2 L.length e p = (hR (e :: L)).2 p := by
  show va_up _ _ _ p = (e :: L).getD (L.length + 1 - 1 - p) _
  by_cases h : p = L.length
  · rw [h, va_up_s, show L.length + 1 - 1 - L.length = 0 by omega]; rfl
  · rw [va_up_n _ _ h, show L.length + 1 - 1 - p = (L.length - 1 - p) + 1 by omega]; rfl
theorem hR_set {L : List xE} {i q : Nat} (e : xE) (hq : L.length = q + i + 1) (p : Nat) (hp : p < L.length) : va_up (hR L).2 q e p = (hR (L.set i e)).2 p := by
  show va_up _ _ _ p = ((L.set i e)[(L.set i e).length - 1 - p]?).getD _
  rw [List.length_set]
  by_cases h : p = q
  · rw [h, va_up_s, show L.length - 1 - q = i by omega, List.getElem?_set_self (by omega)]; rfl
  · rw [va_up_n _ _ h, List.getElem?_set_ne (by omega)]; rfl
section LJ
variable {l : Launch} {M : xM} {cc : ByteArray} {Q : Option Value → xH → Prop} {kc ks pc : Nat} {lv : List (Nat × Value)} {st : List Value} {L L' : List xE}
theorem lj_newi {n : Int32} {N k : Nat} (hk : L.length = k) (hn0 : ¬ n < 0) (hN : n.toNatClampNeg = N) (hb : N * 4 ≤ 536870912) (hx : k < xN) (hcells : kc + 1 ≤ M.2.2.2.2.1.cells) (hslots : ks + N ≤ M.2.2.2.2.1.slots) (d : decode cc pc = .ok (.newarray .int, 2)) (kk : xJ l M cc Q (kc + 1) (ks + N) (pc + 2) lv (.ref k :: st) (hR (.inl (N, fun _ => 0) :: L))) : xJ l M cc Q kc ks pc lv (.int n :: st) (hR L) := by
  subst hk
  refine xj_newi hn0 hN hb xw_ai hx hcells hslots d ?_
  exact xj_heap (h' := hR ((.inl (N, fun _ => 0)) :: L)) rfl (fun p hp => hR_push L _ p hp) kk
theorem lj_newq {n : Int32} {N t idx k : Nat} (hk : L.length = k) (h1 : 1 ≤ t) (h2 : t ≤ 4) (hn0 : ¬ n < 0) (hN : n.toNatClampNeg = N) (hb : N * 4 ≤ 536870912) (w1 : Cond.classLink M.1 idx (xRt t) ∈ xW) (hx : k < xN) (hcells : kc + 1 ≤ M.2.2.2.2.1.cells) (hslots : ks + N ≤ M.2.2.2.2.1.slots) (d : decode cc pc = .ok (.anewarray idx, 3)) (kk : xJ l M cc Q (kc + 1) (ks + N) (pc + 3) lv (.ref k :: st) (hR (.inr (.inl (t, N, fun _ => none)) :: L))) : xJ l M cc Q kc ks pc lv (.int n :: st) (hR L) := by
  subst hk
  refine xj_newq h1 h2 hn0 hN hb w1 hx hcells hslots d ?_
  exact xj_heap (h' := hR ((.inr (.inl (t, N, fun _ => none))) :: L)) rfl (fun p hp => hR_push L _ p hp) kk
theorem lj_new {ci idx k : Nat} {Cn : String} {T : u_T} {N : Nat} {tf : Nat → FieldType} {fs : List Value} (hk : L.length = k) (hc : vwCl[ci]? = some (Cn, T, N)) (hin : ∀ w ∈ u_ws Cn T N, w ∈ xW) (hty : ∀ k, k < N → parseFieldDescriptor (T k).2.2.1 = some (tf k)) (hfs : ∀ j, j < N → defaultValue (tf j) = vp_V fs j) (hno : ∀ ad : Nat → Nat, fs.map (x_v ad) = fs) (w1 : Cond.classLink M.1 idx Cn ∈ xW) (w2 : Cond.instantiable Cn N ∈ xW) (w3 : Cond.initialized Cn ∈ xW) (hx : k < xN) (hcells : kc + 1 ≤ M.2.2.2.2.1.cells) (hslots : ks + N ≤ M.2.2.2.2.1.slots) (d : decode cc pc = .ok (.new idx, 3)) (kk : xJ l M cc Q (kc + 1) (ks + N) (pc + 3) lv (.ref k :: st) (hR (.inr (.inr (ci, fs)) :: L))) : xJ l M cc Q kc ks pc lv st (hR L) := by
  subst hk
  refine xj_new hc hin hty hfs hno w1 w2 w3 hx hcells hslots d ?_
  exact xj_heap (h' := hR ((.inr (.inr (ci, fs))) :: L)) rfl (fun p hp => hR_push L _ p hp) kk
theorem lj_putf {ci k idx q i : Nat} {ty : FieldType} {fs : List Value} {v : Value} (F : xFl M.1 idx ci k ty false) (hq : L.length = q + i + 1) (hi : L[i]? = some (.inr (.inr (ci, fs)))) (hL : L.set i (.inr (.inr (ci, fs.set k v))) = L') (hv : ∀ ad : Nat → Nat, narrow ty (x_v ad v) = x_v ad v ∧ fits ty (x_v ad v) = true) (hl : k < fs.length) (d : decode cc pc = .ok (.putfield idx, 3)) (kk : xJ l M cc Q kc ks (pc + 3) lv st (hR L')) : xJ l M cc Q kc ks pc lv (v :: .ref q :: st) (hR L) := by
  subst hL
  refine xj_putf F (by show q < L.length; omega) (hR_at hq hi) hv hl d ?_
  exact xj_heap (by show L.length = (L.set _ _).length; rw [List.length_set]) (fun p hp => hR_set _ hq p hp) kk
theorem lj_putF {ci k idx q i : Nat} {ty : FieldType} {fs : List Value} {v : Value} (F : xFl M.1 idx ci k ty true) (hin : M.2.2.2.1 = true) (hdecl : ∀ x : vw_C, vwCl[ci]? = some x → (x.2.1 k).1 = M.1) (hq : L.length = q + i + 1) (hi : L[i]? = some (.inr (.inr (ci, fs)))) (hL : L.set i (.inr (.inr (ci, fs.set k v))) = L') (hv : ∀ ad : Nat → Nat, narrow ty (x_v ad v) = x_v ad v ∧ fits ty (x_v ad v) = true) (hl : k < fs.length) (d : decode cc pc = .ok (.putfield idx, 3)) (kk : xJ l M cc Q kc ks (pc + 3) lv st (hR L')) : xJ l M cc Q kc ks pc lv (v :: .ref q :: st) (hR L) := by
  subst hL
  refine xj_putF F hin hdecl (by show q < L.length; omega) (hR_at hq hi) hv hl d ?_
  exact xj_heap (by show L.length = (L.set _ _).length; rw [List.length_set]) (fun p hp => hR_set _ hq p hp) kk
theorem lj_getf {ci k idx q i : Nat} {ty : FieldType} {fin : Bool} {fs : List Value} {v : Value} (F : xFl M.1 idx ci k ty fin) (hq : L.length = q + i + 1) (hi : L[i]? = some (.inr (.inr (ci, fs)))) (hv : fs[k]? = some v) (d : decode cc pc = .ok (.getfield idx, 3)) (kk : xJ l M cc Q kc ks (pc + 3) lv (v :: st) (hR L)) : xJ l M cc Q kc ks pc lv (.ref q :: st) (hR L) := xj_getf F (by show q < L.length; omega) (hR_at hq hi) hv d kk
/-- into the newest row of ints -/
theorem lj_iast0 {n k : Nat} {f : Nat → Int32} {q : Nat} {i x : Int32} (hq : L.length = q) (hi : i = nI k) (hk : k < n) (hm : n < 2 ^ 31) (d : decode cc pc = .ok (.iastore, 1)) (kk : xJ l M cc Q kc ks (pc + 1) lv st (hR (.inl (n, upd f k x) :: L))) : xJ l M cc Q kc ks pc lv (.int x :: .int i :: .ref q :: st) (hR (.inl (n, f) :: L)) := by
  subst hq
  subst hi
  have e : (Sum.inl (n, f) :: L : List xE).length = L.length + 0 + 1 := rfl
  refine xj_iast (by show L.length < L.length + 1; omega) (hR_at (i := 0) (e := .inl (n, f)) e rfl) (nI_in hk hm) d ?_
  rw [nI_clamp (by omega)]
  exact xj_heap (h' := hR (.inl (n, upd f k x) :: L)) rfl (fun p hp => hR_set (L := Sum.inl (n, f) :: L) (i := 0) (.inl (n, upd f k x)) e p hp) kk
theorem lj_aast {q t n a ci i j k : Nat} {x : vw_C} {fs : List Value} {f : Nat → Option Nat} {y : Int32} (hq : L.length = q + i + 1) (hi : L[i]? = some (.inr (.inl (t, n, f)))) (h1 : 1 ≤ t) (h2 : t ≤ 4) (hy : y = nI k) (hk : k < n) (hm : n < 2 ^ 31) (ha : L.length = a + j + 1) (hj : L[j]? = some (.inr (.inr (ci, fs)))) (hc : vwCl[ci]? = some x) (hx : x.1 = xRt t ∨ Cond.castable x.1 (xRt t) ∈ xNw) (hL : L.set i (.inr (.inl (t, n, va_up f k (some a)))) = L') (d : decode cc pc = .ok (.aastore, 1)) (kk : xJ l M cc Q kc ks (pc + 1) lv st (hR L')) : xJ l M cc Q kc ks pc lv (.ref a :: .int y :: .ref q :: st) (hR L) := by
  subst hy
  subst hL
  refine xj_aast (by show q < L.length; omega) (hR_at hq hi) h1 h2 (nI_in hk hm) (by show a < L.length; omega) (hR_at ha hj) hc hx d ?_
  rw [nI_clamp (by omega)]
  exact xj_heap (by show L.length = (L.set _ _).length; rw [List.length_set]) (fun p hp => hR_set _ hq p hp) kk
end LJ
