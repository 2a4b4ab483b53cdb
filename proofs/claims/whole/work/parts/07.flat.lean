/-! THE FLAT HEAP: behind the constructors every name's cell is a shape (fixed by the name) over one row of ints -/
abbrev xG : Type := Nat → Nat → Int32
def fTX (k : Nat) : Nat := if k = 0 then 82 else 106 + 4 * k
def fsD (r : Nat → Int32) : List Value := [.ref 1, .ref 8, .ref 27, .ref 46, .ref 66, .ref 67, .ref 71, .ref 80, .ref 81, .int (r 9), .int (r 10), .int (r 11), .int (r 12), .int (r 13)]
def fsP (q : Nat) (r : Nat → Int32) : List Value := [.ref (2 + (r 0).toNatClampNeg), .int (r 1), .int (r 2), .ref (q + 1), .ref (q + 2)]
def fsI (r : Nat → Int32) : List Value := [.int (r 0), .int (r 1), .int (r 2), .int (r 3), .ref 47]
def fsTp (r : Nat → Int32) : List Value := [.int (r 0), .int (r 1), .ref 68, .ref 69, .ref 70, .int (r 5), .int (r 6), .int (r 7), .int (r 8)]
def fsS (q : Nat) (r : Nat → Int32) : List Value := [.int (r 0), .int (r 1), .ref (q + 1)]
def fsX (t : Nat) : List Value := [.ref (t + 1), .ref (t + 2), .ref (t + 3)]
def fsM (r : Nat → Int32) : List Value := [.int (r 0), .ref 87, .ref 88, .ref 89, .ref 90, .int (r 5), .int (r 6), .ref 91, .int (r 8), .ref 92, .ref 93, .int (r 11), .int (r 12), .int (r 13), .ref 94, .ref 95, .ref 96, .ref 97, .ref 98, .ref 99, .ref 100, .int (r 21), .int (r 22), .int (r 23), .int (r 24), .ref 101, .ref 102, .int (r 27), .int (r 28), .int (r 29), .ref 103, .ref 104, .ref 105, .int (r 33), .int (r 34), .int (r 35), .int (r 36), .ref 106, .ref 107, .ref 108, .ref 109]
def fcL : List ((Nat → Int32) → xE) := [
  fun r => .inr (.inr (11, fsD r)),
  fun _ => .inr (.inl (1, 6, fun j => if j < 6 then some (2 + j) else none)),
  fun _ => .inr (.inr (4, [.int 0])),
  fun _ => .inr (.inr (6, [.int 1])),
  fun _ => .inr (.inr (1, [.int 2])),
  fun _ => .inr (.inr (0, [.int 3])),
  fun _ => .inr (.inr (2, [.int 4])),
  fun _ => .inr (.inr (5, [.int 5])),
  fun _ => .inr (.inl (2, 6, fun j => if j < 6 then some (9 + 3 * j) else none)),
  fun r => .inr (.inr (7, fsP 9 r)),
  fun r => .inl (16, r),
  fun r => .inl (6, r),
  fun r => .inr (.inr (7, fsP 12 r)),
  fun r => .inl (16, r),
  fun r => .inl (6, r),
  fun r => .inr (.inr (7, fsP 15 r)),
  fun r => .inl (16, r),
  fun r => .inl (6, r),
  fun r => .inr (.inr (7, fsP 18 r)),
  fun r => .inl (16, r),
  fun r => .inl (6, r),
  fun r => .inr (.inr (7, fsP 21 r)),
  fun r => .inl (16, r),
  fun r => .inl (6, r),
  fun r => .inr (.inr (7, fsP 24 r)),
  fun r => .inl (16, r),
  fun r => .inl (6, r),
  fun _ => .inr (.inl (2, 6, fun j => if j < 6 then some (28 + 3 * j) else none)),
  fun r => .inr (.inr (7, fsP 28 r)),
  fun r => .inl (16, r),
  fun r => .inl (6, r),
  fun r => .inr (.inr (7, fsP 31 r)),
  fun r => .inl (16, r),
  fun r => .inl (6, r),
  fun r => .inr (.inr (7, fsP 34 r)),
  fun r => .inl (16, r),
  fun r => .inl (6, r),
  fun r => .inr (.inr (7, fsP 37 r)),
  fun r => .inl (16, r),
  fun r => .inl (6, r),
  fun r => .inr (.inr (7, fsP 40 r)),
  fun r => .inl (16, r),
  fun r => .inl (6, r),
  fun r => .inr (.inr (7, fsP 43 r)),
  fun r => .inl (16, r),
  fun r => .inl (6, r),
  fun r => .inr (.inr (3, fsI r)),
  fun _ => .inr (.inl (2, 6, fun j => if j < 6 then some (48 + 3 * j) else none)),
  fun r => .inr (.inr (7, fsP 48 r)),
  fun r => .inl (16, r),
  fun r => .inl (6, r),
  fun r => .inr (.inr (7, fsP 51 r)),
  fun r => .inl (16, r),
  fun r => .inl (6, r),
  fun r => .inr (.inr (7, fsP 54 r)),
  fun r => .inl (16, r),
  fun r => .inl (6, r),
  fun r => .inr (.inr (7, fsP 57 r)),
  fun r => .inl (16, r),
  fun r => .inl (6, r),
  fun r => .inr (.inr (7, fsP 60 r)),
  fun r => .inl (16, r),
  fun r => .inl (6, r),
  fun r => .inr (.inr (7, fsP 63 r)),
  fun r => .inl (16, r),
  fun r => .inl (6, r),
  fun r => .inr (.inl (4, 6, fun j => if j < 6 then some (fTX (r j).toNatClampNeg) else none)),
  fun r => .inr (.inr (9, fsTp r)),
  fun r => .inl (160, r),
  fun r => .inl (160, r),
  fun r => .inl (3, r),
  fun _ => .inr (.inl (3, 4, fun j => if j < 4 then some (72 + 2 * j) else none)),
  fun r => .inr (.inr (8, fsS 72 r)),
  fun r => .inl (40, r),
  fun r => .inr (.inr (8, fsS 74 r)),
  fun r => .inl (40, r),
  fun r => .inr (.inr (8, fsS 76 r)),
  fun r => .inl (40, r),
  fun r => .inr (.inr (8, fsS 78 r)),
  fun r => .inl (40, r),
  fun r => .inl (16, r),
  fun r => .inl (16, r),
  fun r => .inr (.inr (10, fsX 82)),
  fun r => .inl ((r 1000000).toNatClampNeg, r),
  fun r => .inl (3, r),
  fun r => .inl (40, r),
  fun r => .inr (.inr (12, fsM r)),
  fun r => .inl (6, r),
  fun r => .inl (6, r),
  fun r => .inl (96, r),
  fun r => .inl (6, r),
  fun r => .inl (160, r),
  fun r => .inl (1200, r),
  fun r => .inl (24, r),
  fun r => .inl (96, r),
  fun r => .inl (6, r),
  fun r => .inl (4, r),
  fun r => .inl (4, r),
  fun r => .inl (4, r),
  fun r => .inl (160, r),
  fun r => .inl (33, r),
  fun r => .inl (96, r),
  fun r => .inl (200, r),
  fun r => .inl (200, r),
  fun r => .inl (6, r),
  fun r => .inl (16, r),
  fun r => .inl (16, r),
  fun r => .inl (16, r),
  fun r => .inl (20, r),
  fun r => .inl (96, r)]
def fcT (q : Nat) (r : Nat → Int32) : xE := match (q - 110) % 4 with
  | 0 => .inr (.inr (10, fsX q))
  | 1 => .inl ((r 1000000).toNatClampNeg, r)
  | 2 => .inl (3, r)
  | _ => .inl (40, r)
def fc (q : Nat) : (Nat → Int32) → xE := if q < 110 then fcL.getD q (fun r => .inl (0, r)) else fcT q
def fh (g : xG) : Nat → xE := fun q => fc q (g q)
/-- one place of one row is set -/
def gs (g : xG) (q k : Nat) (x : Int32) : xG := va_up g q (upd (g q) k x)
theorem va_up_s {α : Type} (f : Nat → α) (k : Nat) (v : α) : va_up f k v k = v := if_pos rfl
theorem va_up_n {α : Type} (f : Nat → α) {k j : Nat} (v : α) (h : j ≠ k) : va_up f k v j = f j := if_neg h
theorem fh_up (g : xG) (q : Nat) (r : Nat → Int32) : va_up (fh g) q (fc q r) = fh (va_up g q r) := by
  funext j
  by_cases h : j = q
  · subst h; simp [va_up, fh]
  · simp [va_up, fh, h]
theorem gs_s (g : xG) (q k : Nat) (x : Int32) : gs g q k x q = upd (g q) k x := va_up_s _ _ _
theorem gs_n (g : xG) {q j : Nat} (k : Nat) (x : Int32) (h : j ≠ q) : gs g q k x j = g j := va_up_n _ _ h
theorem upd_s (r : Nat → Int32) (k : Nat) (x : Int32) : upd r k x k = x := if_pos rfl
theorem upd_n (r : Nat → Int32) {k j : Nat} (x : Int32) (h : j ≠ k) : upd r k x j = r j := if_neg h
/-- an int field: where it lies in the shape -/
def fSh (q ci k : Nat) : Prop := ∃ f : (Nat → Int32) → List Value, (∀ r, fc q r = .inr (.inr (ci, f r))) ∧ (∀ r x, (f r).set k (.int x) = f (upd r k x)) ∧ ∀ r, k < (f r).length
def fAr (q m : Nat) : Prop := ∀ r, fc q r = .inl (m, r)
section YJ
variable {l : Launch} {M : xM} {cc : ByteArray} {Q : Option Value → xH → Prop} {kc ks pc : Nat} {lv : List (Nat × Value)} {st : List Value} {n : Nat} {g : xG}
theorem yj_getf {ci k idx q : Nat} {ty : FieldType} {fin : Bool} {fs : List Value} {v : Value} (F : xFl M.1 idx ci k ty fin) (hn : q < n) (hq : fh g q = .inr (.inr (ci, fs))) (hv : fs[k]? = some v) (d : decode cc pc = .ok (.getfield idx, 3)) (kk : xJ l M cc Q kc ks (pc + 3) lv (v :: st) (n, fh g)) : xJ l M cc Q kc ks pc lv (.ref q :: st) (n, fh g) := xj_getf F hn hq hv d kk
theorem yj_puti {ci k idx q : Nat} {ty : FieldType} {x : Int32} (F : xFl M.1 idx ci k ty false) (hn : q < n) (S : fSh q ci k) (hv : narrow ty (.int x) = .int x ∧ fits ty (.int x) = true) (d : decode cc pc = .ok (.putfield idx, 3)) (kk : xJ l M cc Q kc ks (pc + 3) lv st (n, fh (gs g q k x))) : xJ l M cc Q kc ks pc lv (.int x :: .ref q :: st) (n, fh g) := by
  obtain ⟨f, h1, h2, h3⟩ := S
  refine xj_putf F hn (h1 (g q)) (fun _ => hv) (h3 _) d ?_
  rw [h2, ← h1]
  show xJ l M cc Q kc ks (pc + 3) lv st (n, va_up (fh g) q (fc q (upd (g q) k x)))
  rw [fh_up]
  exact kk
theorem yj_iald {q m : Nat} {i : Int32} (hn : q < n) (S : fAr q m) (hi : vp_in i m) (d : decode cc pc = .ok (.iaload, 1)) (kk : xJ l M cc Q kc ks (pc + 1) lv (.int (g q i.toNatClampNeg) :: st) (n, fh g)) : xJ l M cc Q kc ks pc lv (.int i :: .ref q :: st) (n, fh g) := xj_iald hn (S (g q)) hi d kk
theorem yj_iast {q m : Nat} {i x : Int32} (hn : q < n) (S : fAr q m) (hi : vp_in i m) (d : decode cc pc = .ok (.iastore, 1)) (kk : xJ l M cc Q kc ks (pc + 1) lv st (n, fh (gs g q i.toNatClampNeg x))) : xJ l M cc Q kc ks pc lv (.int x :: .int i :: .ref q :: st) (n, fh g) := by
  refine xj_iast hn (S (g q)) hi d ?_
  rw [← S]
  show xJ l M cc Q kc ks (pc + 1) lv st (n, va_up (fh g) q (fc q (upd (g q) i.toNatClampNeg x)))
  rw [fh_up]
  exact kk
/-- by a number -/
theorem yj_ialdN {q m : Nat} {i : Int32} (k : Nat) (hn : q < n) (S : fAr q m) (hi : i = nI k) (hk : k < m) (hm : m < 2 ^ 31) (d : decode cc pc = .ok (.iaload, 1)) (kk : xJ l M cc Q kc ks (pc + 1) lv (.int (g q k) :: st) (n, fh g)) : xJ l M cc Q kc ks pc lv (.int i :: .ref q :: st) (n, fh g) := by
  subst hi
  refine yj_iald hn S (vp_in_nI hk hm) d ?_
  rw [nI_clamp (by omega)]
  exact kk
theorem yj_iastN {q m : Nat} {i x : Int32} (k : Nat) (hn : q < n) (S : fAr q m) (hi : i = nI k) (hk : k < m) (hm : m < 2 ^ 31) (d : decode cc pc = .ok (.iastore, 1)) (kk : xJ l M cc Q kc ks (pc + 1) lv st (n, fh (gs g q k x))) : xJ l M cc Q kc ks pc lv (.int x :: .int i :: .ref q :: st) (n, fh g) := by
  subst hi
  refine yj_iast hn S (vp_in_nI hk hm) d ?_
  rw [nI_clamp (by omega)]
  exact kk
theorem yj_aaldN {q t m a : Nat} {i : Int32} {f : Nat → Option Nat} (k : Nat) (hn : q < n) (hq : fh g q = .inr (.inl (t, m, f))) (h1 : 1 ≤ t) (h2 : t ≤ 4) (hi : i = nI k) (hk : k < m) (hm : m < 2 ^ 31) (hf : f k = some a) (d : decode cc pc = .ok (.aaload, 1)) (kk : xJ l M cc Q kc ks (pc + 1) lv (.ref a :: st) (n, fh g)) : xJ l M cc Q kc ks pc lv (.int i :: .ref q :: st) (n, fh g) := by
  subst hi
  exact xj_aald hn hq h1 h2 (vp_in_nI hk hm) (by rw [nI_clamp (by omega)]; exact hf) d kk
theorem xj_topi {h : xH} {x : Int32} (k : ∀ y : Int32, y = x → xJ l M cc Q kc ks pc lv (.int y :: st) h) : xJ l M cc Q kc ks pc lv (.int x :: st) h := k x rfl
theorem xj_top {h : xH} {x y : Int32} (e : x = y) (k : xJ l M cc Q kc ks pc lv (.int y :: st) h) : xJ l M cc Q kc ks pc lv (.int x :: st) h := e ▸ k
theorem xj_topl {h : xH} {x y : Int64} (e : x = y) (k : xJ l M cc Q kc ks pc lv (.long y :: st) h) : xJ l M cc Q kc ks pc lv (.long x :: st) h := e ▸ k
end YJ
def bI (c : Prop) [Decidable c] : Int32 := if c then 1 else 0
theorem bI_t {c : Prop} [Decidable c] (h : c) : bI c = 1 := if_pos h
theorem bI_f {c : Prop} [Decidable c] (h : ¬ c) : bI c = 0 := if_neg h
theorem bI_0 {c : Prop} [Decidable c] : bI c = 0 ↔ ¬ c := by unfold bI; split <;> simp_all
theorem bI_n0 {c : Prop} [Decidable c] : ¬ bI c = 0 ↔ c := by unfold bI; split <;> simp_all
theorem fq_0 (g : xG) : fh g 0 = .inr (.inr (11, fsD (g 0))) := rfl
theorem fS_0_9 : fSh 0 11 9 := ⟨fsD, fun _ => rfl, fun _ _ => rfl, fun _ => (by decide : 9 < 14)⟩
theorem fS_0_10 : fSh 0 11 10 := ⟨fsD, fun _ => rfl, fun _ _ => rfl, fun _ => (by decide : 10 < 14)⟩
theorem fS_0_11 : fSh 0 11 11 := ⟨fsD, fun _ => rfl, fun _ _ => rfl, fun _ => (by decide : 11 < 14)⟩
theorem fS_0_12 : fSh 0 11 12 := ⟨fsD, fun _ => rfl, fun _ _ => rfl, fun _ => (by decide : 12 < 14)⟩
theorem fS_0_13 : fSh 0 11 13 := ⟨fsD, fun _ => rfl, fun _ _ => rfl, fun _ => (by decide : 13 < 14)⟩
theorem fq_1 (g : xG) : fh g 1 = .inr (.inl (1, 6, fun j => if j < 6 then some (2 + j) else none)) := rfl
theorem fq_2 (g : xG) : fh g 2 = .inr (.inr (4, [.int 0])) := rfl
theorem fq_3 (g : xG) : fh g 3 = .inr (.inr (6, [.int 1])) := rfl
theorem fq_4 (g : xG) : fh g 4 = .inr (.inr (1, [.int 2])) := rfl
theorem fq_5 (g : xG) : fh g 5 = .inr (.inr (0, [.int 3])) := rfl
theorem fq_6 (g : xG) : fh g 6 = .inr (.inr (2, [.int 4])) := rfl
theorem fq_7 (g : xG) : fh g 7 = .inr (.inr (5, [.int 5])) := rfl
theorem fq_8 (g : xG) : fh g 8 = .inr (.inl (2, 6, fun j => if j < 6 then some (9 + 3 * j) else none)) := rfl
theorem fq_9 (g : xG) : fh g 9 = .inr (.inr (7, fsP 9 (g 9))) := rfl
theorem fA_10 : fAr 10 16 := fun _ => rfl
theorem fA_11 : fAr 11 6 := fun _ => rfl
theorem fq_12 (g : xG) : fh g 12 = .inr (.inr (7, fsP 12 (g 12))) := rfl
theorem fA_13 : fAr 13 16 := fun _ => rfl
theorem fA_14 : fAr 14 6 := fun _ => rfl
theorem fq_15 (g : xG) : fh g 15 = .inr (.inr (7, fsP 15 (g 15))) := rfl
theorem fA_16 : fAr 16 16 := fun _ => rfl
theorem fA_17 : fAr 17 6 := fun _ => rfl
theorem fq_18 (g : xG) : fh g 18 = .inr (.inr (7, fsP 18 (g 18))) := rfl
theorem fA_19 : fAr 19 16 := fun _ => rfl
theorem fA_20 : fAr 20 6 := fun _ => rfl
theorem fq_21 (g : xG) : fh g 21 = .inr (.inr (7, fsP 21 (g 21))) := rfl
theorem fA_22 : fAr 22 16 := fun _ => rfl
theorem fA_23 : fAr 23 6 := fun _ => rfl
theorem fq_24 (g : xG) : fh g 24 = .inr (.inr (7, fsP 24 (g 24))) := rfl
theorem fA_25 : fAr 25 16 := fun _ => rfl
theorem fA_26 : fAr 26 6 := fun _ => rfl
theorem fq_27 (g : xG) : fh g 27 = .inr (.inl (2, 6, fun j => if j < 6 then some (28 + 3 * j) else none)) := rfl
theorem fq_28 (g : xG) : fh g 28 = .inr (.inr (7, fsP 28 (g 28))) := rfl
theorem fA_29 : fAr 29 16 := fun _ => rfl
theorem fA_30 : fAr 30 6 := fun _ => rfl
theorem fq_31 (g : xG) : fh g 31 = .inr (.inr (7, fsP 31 (g 31))) := rfl
theorem fA_32 : fAr 32 16 := fun _ => rfl
theorem fA_33 : fAr 33 6 := fun _ => rfl
theorem fq_34 (g : xG) : fh g 34 = .inr (.inr (7, fsP 34 (g 34))) := rfl
theorem fA_35 : fAr 35 16 := fun _ => rfl
theorem fA_36 : fAr 36 6 := fun _ => rfl
theorem fq_37 (g : xG) : fh g 37 = .inr (.inr (7, fsP 37 (g 37))) := rfl
theorem fA_38 : fAr 38 16 := fun _ => rfl
theorem fA_39 : fAr 39 6 := fun _ => rfl
theorem fq_40 (g : xG) : fh g 40 = .inr (.inr (7, fsP 40 (g 40))) := rfl
theorem fA_41 : fAr 41 16 := fun _ => rfl
theorem fA_42 : fAr 42 6 := fun _ => rfl
theorem fq_43 (g : xG) : fh g 43 = .inr (.inr (7, fsP 43 (g 43))) := rfl
theorem fA_44 : fAr 44 16 := fun _ => rfl
theorem fA_45 : fAr 45 6 := fun _ => rfl
theorem fq_46 (g : xG) : fh g 46 = .inr (.inr (3, fsI (g 46))) := rfl
theorem fS_46_0 : fSh 46 3 0 := ⟨fsI, fun _ => rfl, fun _ _ => rfl, fun _ => (by decide : 0 < 5)⟩
theorem fS_46_1 : fSh 46 3 1 := ⟨fsI, fun _ => rfl, fun _ _ => rfl, fun _ => (by decide : 1 < 5)⟩
theorem fS_46_2 : fSh 46 3 2 := ⟨fsI, fun _ => rfl, fun _ _ => rfl, fun _ => (by decide : 2 < 5)⟩
theorem fS_46_3 : fSh 46 3 3 := ⟨fsI, fun _ => rfl, fun _ _ => rfl, fun _ => (by decide : 3 < 5)⟩
theorem fq_47 (g : xG) : fh g 47 = .inr (.inl (2, 6, fun j => if j < 6 then some (48 + 3 * j) else none)) := rfl
theorem fq_48 (g : xG) : fh g 48 = .inr (.inr (7, fsP 48 (g 48))) := rfl
theorem fA_49 : fAr 49 16 := fun _ => rfl
theorem fA_50 : fAr 50 6 := fun _ => rfl
theorem fq_51 (g : xG) : fh g 51 = .inr (.inr (7, fsP 51 (g 51))) := rfl
theorem fA_52 : fAr 52 16 := fun _ => rfl
theorem fA_53 : fAr 53 6 := fun _ => rfl
theorem fq_54 (g : xG) : fh g 54 = .inr (.inr (7, fsP 54 (g 54))) := rfl
theorem fA_55 : fAr 55 16 := fun _ => rfl
theorem fA_56 : fAr 56 6 := fun _ => rfl
theorem fq_57 (g : xG) : fh g 57 = .inr (.inr (7, fsP 57 (g 57))) := rfl
theorem fA_58 : fAr 58 16 := fun _ => rfl
theorem fA_59 : fAr 59 6 := fun _ => rfl
theorem fq_60 (g : xG) : fh g 60 = .inr (.inr (7, fsP 60 (g 60))) := rfl
theorem fA_61 : fAr 61 16 := fun _ => rfl
theorem fA_62 : fAr 62 6 := fun _ => rfl
theorem fq_63 (g : xG) : fh g 63 = .inr (.inr (7, fsP 63 (g 63))) := rfl
theorem fA_64 : fAr 64 16 := fun _ => rfl
theorem fA_65 : fAr 65 6 := fun _ => rfl
theorem fq_66 (g : xG) : fh g 66 = .inr (.inl (4, 6, fun j => if j < 6 then some (fTX ((g 66) j).toNatClampNeg) else none)) := rfl
theorem fq_67 (g : xG) : fh g 67 = .inr (.inr (9, fsTp (g 67))) := rfl
theorem fS_67_0 : fSh 67 9 0 := ⟨fsTp, fun _ => rfl, fun _ _ => rfl, fun _ => (by decide : 0 < 9)⟩
theorem fS_67_1 : fSh 67 9 1 := ⟨fsTp, fun _ => rfl, fun _ _ => rfl, fun _ => (by decide : 1 < 9)⟩
theorem fS_67_5 : fSh 67 9 5 := ⟨fsTp, fun _ => rfl, fun _ _ => rfl, fun _ => (by decide : 5 < 9)⟩
theorem fS_67_6 : fSh 67 9 6 := ⟨fsTp, fun _ => rfl, fun _ _ => rfl, fun _ => (by decide : 6 < 9)⟩
theorem fS_67_7 : fSh 67 9 7 := ⟨fsTp, fun _ => rfl, fun _ _ => rfl, fun _ => (by decide : 7 < 9)⟩
theorem fS_67_8 : fSh 67 9 8 := ⟨fsTp, fun _ => rfl, fun _ _ => rfl, fun _ => (by decide : 8 < 9)⟩
theorem fA_68 : fAr 68 160 := fun _ => rfl
theorem fA_69 : fAr 69 160 := fun _ => rfl
theorem fA_70 : fAr 70 3 := fun _ => rfl
theorem fq_71 (g : xG) : fh g 71 = .inr (.inl (3, 4, fun j => if j < 4 then some (72 + 2 * j) else none)) := rfl
theorem fq_72 (g : xG) : fh g 72 = .inr (.inr (8, fsS 72 (g 72))) := rfl
theorem fS_72_0 : fSh 72 8 0 := ⟨fsS 72, fun _ => rfl, fun _ _ => rfl, fun _ => (by decide : 0 < 3)⟩
theorem fS_72_1 : fSh 72 8 1 := ⟨fsS 72, fun _ => rfl, fun _ _ => rfl, fun _ => (by decide : 1 < 3)⟩
theorem fA_73 : fAr 73 40 := fun _ => rfl
theorem fq_74 (g : xG) : fh g 74 = .inr (.inr (8, fsS 74 (g 74))) := rfl
theorem fS_74_0 : fSh 74 8 0 := ⟨fsS 74, fun _ => rfl, fun _ _ => rfl, fun _ => (by decide : 0 < 3)⟩
theorem fS_74_1 : fSh 74 8 1 := ⟨fsS 74, fun _ => rfl, fun _ _ => rfl, fun _ => (by decide : 1 < 3)⟩
theorem fA_75 : fAr 75 40 := fun _ => rfl
theorem fq_76 (g : xG) : fh g 76 = .inr (.inr (8, fsS 76 (g 76))) := rfl
theorem fS_76_0 : fSh 76 8 0 := ⟨fsS 76, fun _ => rfl, fun _ _ => rfl, fun _ => (by decide : 0 < 3)⟩
theorem fS_76_1 : fSh 76 8 1 := ⟨fsS 76, fun _ => rfl, fun _ _ => rfl, fun _ => (by decide : 1 < 3)⟩
theorem fA_77 : fAr 77 40 := fun _ => rfl
theorem fq_78 (g : xG) : fh g 78 = .inr (.inr (8, fsS 78 (g 78))) := rfl
theorem fS_78_0 : fSh 78 8 0 := ⟨fsS 78, fun _ => rfl, fun _ _ => rfl, fun _ => (by decide : 0 < 3)⟩
theorem fS_78_1 : fSh 78 8 1 := ⟨fsS 78, fun _ => rfl, fun _ _ => rfl, fun _ => (by decide : 1 < 3)⟩
theorem fA_79 : fAr 79 40 := fun _ => rfl
theorem fA_80 : fAr 80 16 := fun _ => rfl
theorem fA_81 : fAr 81 16 := fun _ => rfl
theorem fq_82 (g : xG) : fh g 82 = .inr (.inr (10, fsX 82)) := rfl
theorem fq_83 (g : xG) : fh g 83 = .inl (((g 83) 1000000).toNatClampNeg, (g 83)) := rfl
theorem fA_84 : fAr 84 3 := fun _ => rfl
theorem fA_85 : fAr 85 40 := fun _ => rfl
theorem fq_86 (g : xG) : fh g 86 = .inr (.inr (12, fsM (g 86))) := rfl
theorem fS_86_0 : fSh 86 12 0 := ⟨fsM, fun _ => rfl, fun _ _ => rfl, fun _ => (by decide : 0 < 41)⟩
theorem fS_86_5 : fSh 86 12 5 := ⟨fsM, fun _ => rfl, fun _ _ => rfl, fun _ => (by decide : 5 < 41)⟩
theorem fS_86_6 : fSh 86 12 6 := ⟨fsM, fun _ => rfl, fun _ _ => rfl, fun _ => (by decide : 6 < 41)⟩
theorem fS_86_8 : fSh 86 12 8 := ⟨fsM, fun _ => rfl, fun _ _ => rfl, fun _ => (by decide : 8 < 41)⟩
theorem fS_86_11 : fSh 86 12 11 := ⟨fsM, fun _ => rfl, fun _ _ => rfl, fun _ => (by decide : 11 < 41)⟩
theorem fS_86_12 : fSh 86 12 12 := ⟨fsM, fun _ => rfl, fun _ _ => rfl, fun _ => (by decide : 12 < 41)⟩
theorem fS_86_13 : fSh 86 12 13 := ⟨fsM, fun _ => rfl, fun _ _ => rfl, fun _ => (by decide : 13 < 41)⟩
theorem fS_86_21 : fSh 86 12 21 := ⟨fsM, fun _ => rfl, fun _ _ => rfl, fun _ => (by decide : 21 < 41)⟩
theorem fS_86_22 : fSh 86 12 22 := ⟨fsM, fun _ => rfl, fun _ _ => rfl, fun _ => (by decide : 22 < 41)⟩
theorem fS_86_23 : fSh 86 12 23 := ⟨fsM, fun _ => rfl, fun _ _ => rfl, fun _ => (by decide : 23 < 41)⟩
theorem fS_86_24 : fSh 86 12 24 := ⟨fsM, fun _ => rfl, fun _ _ => rfl, fun _ => (by decide : 24 < 41)⟩
theorem fS_86_27 : fSh 86 12 27 := ⟨fsM, fun _ => rfl, fun _ _ => rfl, fun _ => (by decide : 27 < 41)⟩
theorem fS_86_28 : fSh 86 12 28 := ⟨fsM, fun _ => rfl, fun _ _ => rfl, fun _ => (by decide : 28 < 41)⟩
theorem fS_86_29 : fSh 86 12 29 := ⟨fsM, fun _ => rfl, fun _ _ => rfl, fun _ => (by decide : 29 < 41)⟩
theorem fS_86_33 : fSh 86 12 33 := ⟨fsM, fun _ => rfl, fun _ _ => rfl, fun _ => (by decide : 33 < 41)⟩
theorem fS_86_34 : fSh 86 12 34 := ⟨fsM, fun _ => rfl, fun _ _ => rfl, fun _ => (by decide : 34 < 41)⟩
theorem fS_86_35 : fSh 86 12 35 := ⟨fsM, fun _ => rfl, fun _ _ => rfl, fun _ => (by decide : 35 < 41)⟩
theorem fS_86_36 : fSh 86 12 36 := ⟨fsM, fun _ => rfl, fun _ _ => rfl, fun _ => (by decide : 36 < 41)⟩
theorem fA_87 : fAr 87 6 := fun _ => rfl
theorem fA_88 : fAr 88 6 := fun _ => rfl
theorem fA_89 : fAr 89 96 := fun _ => rfl
theorem fA_90 : fAr 90 6 := fun _ => rfl
theorem fA_91 : fAr 91 160 := fun _ => rfl
theorem fA_92 : fAr 92 1200 := fun _ => rfl
theorem fA_93 : fAr 93 24 := fun _ => rfl
theorem fA_94 : fAr 94 96 := fun _ => rfl
theorem fA_95 : fAr 95 6 := fun _ => rfl
theorem fA_96 : fAr 96 4 := fun _ => rfl
theorem fA_97 : fAr 97 4 := fun _ => rfl
theorem fA_98 : fAr 98 4 := fun _ => rfl
theorem fA_99 : fAr 99 160 := fun _ => rfl
theorem fA_100 : fAr 100 33 := fun _ => rfl
theorem fA_101 : fAr 101 96 := fun _ => rfl
theorem fA_102 : fAr 102 200 := fun _ => rfl
theorem fA_103 : fAr 103 200 := fun _ => rfl
theorem fA_104 : fAr 104 6 := fun _ => rfl
theorem fA_105 : fAr 105 16 := fun _ => rfl
theorem fA_106 : fAr 106 16 := fun _ => rfl
theorem fA_107 : fAr 107 16 := fun _ => rfl
theorem fA_108 : fAr 108 20 := fun _ => rfl
theorem fA_109 : fAr 109 96 := fun _ => rfl
