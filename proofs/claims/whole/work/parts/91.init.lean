theorem ball_0 (P : Nat → Prop) : ∀ q, q < 0 → P q := fun q h => absurd h (Nat.not_lt_zero q)
theorem ball_s {P : Nat → Prop} {n : Nat} (h : ∀ q, q < n → P q) (hn : P n) : ∀ q, q < n + 1 → P q := fun q hq => by
  by_cases e : q = n
  · rw [e]; exact hn
  · exact h q (by omega)
theorem ref6 {t : Nat} {f : Nat → Option Nat} {a0 a1 a2 a3 a4 a5 : Nat} (h0 : f 0 = some a0) (h1 : f 1 = some a1) (h2 : f 2 = some a2) (h3 : f 3 = some a3) (h4 : f 4 = some a4) (h5 : f 5 = some a5) (h : ∀ j, 6 ≤ j → f j = none) : (.inr (.inl (t, 6, va_up (va_up (va_up (va_up (va_up (va_up (fun _ => none) 0 (some a0)) 1 (some a1)) 2 (some a2)) 3 (some a3)) 4 (some a4)) 5 (some a5))) : xE) = .inr (.inl (t, 6, f)) := by
  congr 4
  funext j
  by_cases e5 : j = 5
  · rw [e5, va_up_s, h5]
  rw [va_up_n _ _ e5]
  by_cases e4 : j = 4
  · rw [e4, va_up_s, h4]
  rw [va_up_n _ _ e4]
  by_cases e3 : j = 3
  · rw [e3, va_up_s, h3]
  rw [va_up_n _ _ e3]
  by_cases e2 : j = 2
  · rw [e2, va_up_s, h2]
  rw [va_up_n _ _ e2]
  by_cases e1 : j = 1
  · rw [e1, va_up_s, h1]
  rw [va_up_n _ _ e1]
  by_cases e0 : j = 0
  · rw [e0, va_up_s, h0]
  rw [va_up_n _ _ e0]
  exact (h j (by omega)).symm
theorem ref4 {t : Nat} {f : Nat → Option Nat} {a0 a1 a2 a3 : Nat} (h0 : f 0 = some a0) (h1 : f 1 = some a1) (h2 : f 2 = some a2) (h3 : f 3 = some a3) (h : ∀ j, 4 ≤ j → f j = none) : (.inr (.inl (t, 4, va_up (va_up (va_up (va_up (fun _ => none) 0 (some a0)) 1 (some a1)) 2 (some a2)) 3 (some a3))) : xE) = .inr (.inl (t, 4, f)) := by
  congr 4
  funext j
  by_cases e3 : j = 3
  · rw [e3, va_up_s, h3]
  rw [va_up_n _ _ e3]
  by_cases e2 : j = 2
  · rw [e2, va_up_s, h2]
  rw [va_up_n _ _ e2]
  by_cases e1 : j = 1
  · rw [e1, va_up_s, h1]
  rw [va_up_n _ _ e1]
  by_cases e0 : j = 0
  · rw [e0, va_up_s, h0]
  rw [va_up_n _ _ e0]
  exact (h j (by omega)).symm
theorem cA.cx {g g1 : xG} {n : Nat} {A : zSt} {Λ : Nat → xL} (C : cA g n A Λ) (O : okA A) (h : ∀ j, cX j → g1 j = g j) : cA g1 n A Λ :=
  ⟨C.1, by unfold cA1; rw [h 0 (by unfold cX; omega)]; exact C.2.1, C.2.2.1.keep O.1.2 rfl (fun q a b _ => h q (by unfold cX; omega)) (fun s _ => ⟨rfl, rfl, rfl, rfl⟩), C.2.2.2.1.keep rfl (h 66 (by unfold cX; omega)) (fun q a b _ => h q (by unfold cX; omega)), C.2.2.2.2.1.keep rfl (h 67 (by unfold cX; omega)) (h 68 (by unfold cX; omega)) rfl, C.2.2.2.2.2.1.keep O (fun _ _ _ => rfl) (h 46 (by unfold cX; omega)) (fun q a b _ => h q (by unfold cX; omega)) (fun _ _ _ => ⟨rfl, rfl, rfl, rfl⟩), C.2.2.2.2.2.2.keep (fun q a b => h q (by unfold cX; omega)) rfl rfl (fun _ _ => rfl)⟩
/-- the text that the law begun with -/
def lawL : List Int32 := [100, 117, 108, 108, 115, 32, 51, 32, 59, 32, 108, 105, 109, 105, 116, 32, 49, 48, 32, 59, 32, 99, 111, 115, 116, 115, 32, 100, 117, 108, 108, 32, 59]
def A00 : zSt := fun q => if q = 0 then (fun j => if j = 2 then 60 else if j = 5 then 33 else 0) else if q = 5 then (fun _ => -1) else if q = 30 then (fun j => lawL.getD j 0) else fun _ => 0
def A01 : zSt := gs (gs A00 0 5 0) 0 3 (nI 1)
theorem wa00 : (waA A00).1 = true ∧ (waA A00).2.2 = [[3], [10], [-264]] := by decide +kernel
theorem aT00 : aT A00 = 0 := by decide +kernel
def L01 : Nat → xL := fun t => if t = 0 then saidL [[3], [10], [-264]] else fun _ _ => 0
theorem rT00 : (rText A00).2 = A01 ∧ txL A00 (fun _ _ _ => 0) = L01 := by
  unfold rText txL
  rw [aT00, if_neg (by decide), if_pos wa00.1, if_neg (by decide), if_pos wa00.1, wa00.2]
  exact ⟨rfl, rfl⟩
theorem okA01 : okA A01 := by
  have hS : aS A01 = 0 := by decide +kernel
  refine ⟨⟨by decide +kernel, by decide +kernel⟩, ⟨by decide +kernel, by decide +kernel⟩, ⟨by decide +kernel, by decide +kernel⟩, ⟨by decide +kernel, by decide +kernel, by decide +kernel⟩, ⟨by decide +kernel, by decide +kernel⟩, ⟨by decide +kernel, by decide +kernel⟩, fun s hs => absurd hs (by rw [hS]; exact Nat.not_lt_zero _), Or.inl (by decide +kernel), fun q hq => ⟨Or.inl rfl, ?_, ?_⟩⟩
  · show (0 : Int32) = nI ((0 : Int32).toNatClampNeg)
    decide +kernel
  · show (0 : Int32).toNatClampNeg ≤ 40
    decide +kernel
/-- the rows behind both constructors, the law's text not yet read -/
def gI : xG := fun q => if q = 0 then (fun k => if k = 11 then 60 else if k = 12 then 1 else 0) else if q = 46 then (fun k => if k = 0 then (-1) else 0) else if q = 72 then (fun k => if k = 0 then (-1) else 0) else if q = 74 then (fun k => if k = 0 then (-1) else 0) else if q = 76 then (fun k => if k = 0 then (-1) else 0) else if q = 78 then (fun k => if k = 0 then (-1) else 0) else if q = 83 then (upd (upd (upd (upd (fun _ => 0) 0 3) 1 10) 2 (-264)) 1000000 3) else if q = 84 then (upd (upd (upd (fun _ => 0) 0 1) 1 2) 2 3) else if q = 86 then (fun k => if k = 6 then 60 else 0) else if q = 97 then (upd (upd (upd (upd (fun _ => 0) 0 (-1)) 1 (-1)) 2 (-1)) 3 (-1)) else if q = 100 then (upd (upd (upd (upd (upd (upd (upd (upd (upd (upd (upd (upd (upd (upd (upd (upd (upd (upd (upd (upd (upd (upd (upd (upd (upd (upd (upd (upd (upd (upd (upd (upd (upd (fun _ => 0) 0 100) 1 117) 2 108) 3 108) 4 115) 5 32) 6 51) 7 32) 8 59) 9 32) 10 108) 11 105) 12 109) 13 105) 14 116) 15 32) 16 49) 17 48) 18 32) 19 59) 20 32) 21 99) 22 111) 23 115) 24 116) 25 115) 26 32) 27 100) 28 117) 29 108) 30 108) 31 32) 32 59) else if q = 101 then (upd (upd (upd (upd (upd (upd (upd (upd (upd (upd (upd (upd (upd (upd (upd (upd (upd (upd (upd (upd (upd (upd (upd (upd (upd (upd (upd (upd (upd (upd (upd (upd (upd (upd (upd (upd (upd (upd (upd (upd (upd (upd (upd (upd (upd (upd (upd (upd (upd (upd (upd (upd (upd (upd (upd (upd (upd (upd (upd (upd (upd (upd (upd (upd (upd (upd (upd (upd (upd (upd (upd (upd (upd (upd (upd (upd (upd (upd (upd (upd (upd (upd (upd (upd (upd (upd (upd (upd (upd (upd (upd (upd (upd (upd (upd (upd (fun _ => 0) 0 100) 1 117) 2 108) 3 108) 4 115) 5 32) 6 32) 7 32) 8 108) 9 105) 10 109) 11 105) 12 116) 13 32) 14 32) 15 32) 16 99) 17 111) 18 115) 19 116) 20 115) 21 32) 22 32) 23 32) 24 99) 25 111) 26 108) 27 117) 28 109) 29 110) 30 32) 31 32) 32 114) 33 111) 34 119) 35 32) 36 32) 37 32) 38 32) 39 32) 40 100) 41 117) 42 108) 43 108) 44 32) 45 32) 46 32) 47 32) 48 110) 49 105) 50 103) 51 104) 52 116) 53 32) 54 32) 55 32) 56 109) 57 111) 58 114) 59 101) 60 32) 61 32) 62 32) 63 32) 64 98) 65 101) 66 104) 67 105) 68 110) 69 100) 70 32) 71 32) 72 111) 73 114) 74 32) 75 32) 76 32) 77 32) 78 32) 79 32) 80 97) 81 110) 82 100) 83 32) 84 32) 85 32) 86 32) 87 32) 88 110) 89 111) 90 116) 91 32) 92 32) 93 32) 94 32) 95 32) else fun _ => 0
def cl12 : List xE := ((.inl (96, (fun _ => 0))) :: (.inl (20, (fun _ => 0))) :: (.inl (16, (fun _ => 0))) :: (.inl (16, (fun _ => 0))) :: (.inl (16, (fun _ => 0))) :: (.inl (6, (fun _ => 0))) :: (.inl (200, (fun _ => 0))) :: (.inl (200, (fun _ => 0))) :: (.inl (96, (upd (upd (upd (upd (upd (upd (upd (upd (upd (upd (upd (upd (upd (upd (upd (upd (upd (upd (upd (upd (upd (upd (upd (upd (upd (upd (upd (upd (upd (upd (upd (upd (upd (upd (upd (upd (upd (upd (upd (upd (upd (upd (upd (upd (upd (upd (upd (upd (upd (upd (upd (upd (upd (upd (upd (upd (upd (upd (upd (upd (upd (upd (upd (upd (upd (upd (upd (upd (upd (upd (upd (upd (upd (upd (upd (upd (upd (upd (upd (upd (upd (upd (upd (upd (upd (upd (upd (upd (upd (upd (upd (upd (upd (upd (upd (upd (fun _ => 0) 0 100) 1 117) 2 108) 3 108) 4 115) 5 32) 6 32) 7 32) 8 108) 9 105) 10 109) 11 105) 12 116) 13 32) 14 32) 15 32) 16 99) 17 111) 18 115) 19 116) 20 115) 21 32) 22 32) 23 32) 24 99) 25 111) 26 108) 27 117) 28 109) 29 110) 30 32) 31 32) 32 114) 33 111) 34 119) 35 32) 36 32) 37 32) 38 32) 39 32) 40 100) 41 117) 42 108) 43 108) 44 32) 45 32) 46 32) 47 32) 48 110) 49 105) 50 103) 51 104) 52 116) 53 32) 54 32) 55 32) 56 109) 57 111) 58 114) 59 101) 60 32) 61 32) 62 32) 63 32) 64 98) 65 101) 66 104) 67 105) 68 110) 69 100) 70 32) 71 32) 72 111) 73 114) 74 32) 75 32) 76 32) 77 32) 78 32) 79 32) 80 97) 81 110) 82 100) 83 32) 84 32) 85 32) 86 32) 87 32) 88 110) 89 111) 90 116) 91 32) 92 32) 93 32) 94 32) 95 32))) :: (.inl (33, (upd (upd (upd (upd (upd (upd (upd (upd (upd (upd (upd (upd (upd (upd (upd (upd (upd (upd (upd (upd (upd (upd (upd (upd (upd (upd (upd (upd (upd (upd (upd (upd (upd (fun _ => 0) 0 100) 1 117) 2 108) 3 108) 4 115) 5 32) 6 51) 7 32) 8 59) 9 32) 10 108) 11 105) 12 109) 13 105) 14 116) 15 32) 16 49) 17 48) 18 32) 19 59) 20 32) 21 99) 22 111) 23 115) 24 116) 25 115) 26 32) 27 100) 28 117) 29 108) 30 108) 31 32) 32 59))) :: (.inl (160, (fun _ => 0))) :: (.inl (4, (fun _ => 0))) :: (.inl (4, (upd (upd (upd (upd (fun _ => 0) 0 (-1)) 1 (-1)) 2 (-1)) 3 (-1)))) :: (.inl (4, (fun _ => 0))) :: (.inl (6, (fun _ => 0))) :: (.inl (96, (fun _ => 0))) :: (.inl (24, (fun _ => 0))) :: (.inl (1200, (fun _ => 0))) :: (.inl (160, (fun _ => 0))) :: (.inl (6, (fun _ => 0))) :: (.inl (96, (fun _ => 0))) :: (.inl (6, (fun _ => 0))) :: (.inl (6, (fun _ => 0))) :: (.inr (.inr (12, [.int 0, .ref 87, .ref 88, .ref 89, .ref 90, .int 0, .int 60, .ref 91, .int 0, .ref 92, .ref 93, .int 0, .int 0, .int 0, .ref 94, .ref 95, .ref 96, .ref 97, .ref 98, .ref 99, .ref 100, .int 0, .int 0, .int 0, .int 0, .ref 101, .ref 102, .int 0, .int 0, .int 0, .ref 103, .ref 104, .ref 105, .int 0, .int 0, .int 0, .int 0, .ref 106, .ref 107, .ref 108, .ref 109]))) :: cl11)
theorem sI_0 : sameE ((hR cl12).2 0) (fh gI 0) := Or.inl rfl
theorem sI_1 : sameE ((hR cl12).2 1) (fh gI 1) := Or.inl (ref6 rfl rfl rfl rfl rfl rfl (fun j hj => if_neg (by omega)))
theorem sI_2 : sameE ((hR cl12).2 2) (fh gI 2) := Or.inl rfl
theorem sI_3 : sameE ((hR cl12).2 3) (fh gI 3) := Or.inl rfl
theorem sI_4 : sameE ((hR cl12).2 4) (fh gI 4) := Or.inl rfl
theorem sI_5 : sameE ((hR cl12).2 5) (fh gI 5) := Or.inl rfl
theorem sI_6 : sameE ((hR cl12).2 6) (fh gI 6) := Or.inl rfl
theorem sI_7 : sameE ((hR cl12).2 7) (fh gI 7) := Or.inl rfl
theorem sI_8 : sameE ((hR cl12).2 8) (fh gI 8) := Or.inl (ref6 rfl rfl rfl rfl rfl rfl (fun j hj => if_neg (by omega)))
theorem sI_9 : sameE ((hR cl12).2 9) (fh gI 9) := Or.inl rfl
theorem sI_10 : sameE ((hR cl12).2 10) (fh gI 10) := Or.inl rfl
theorem sI_11 : sameE ((hR cl12).2 11) (fh gI 11) := Or.inl rfl
theorem sI_12 : sameE ((hR cl12).2 12) (fh gI 12) := Or.inl rfl
theorem sI_13 : sameE ((hR cl12).2 13) (fh gI 13) := Or.inl rfl
theorem sI_14 : sameE ((hR cl12).2 14) (fh gI 14) := Or.inl rfl
theorem sI_15 : sameE ((hR cl12).2 15) (fh gI 15) := Or.inl rfl
theorem sI_16 : sameE ((hR cl12).2 16) (fh gI 16) := Or.inl rfl
theorem sI_17 : sameE ((hR cl12).2 17) (fh gI 17) := Or.inl rfl
theorem sI_18 : sameE ((hR cl12).2 18) (fh gI 18) := Or.inl rfl
theorem sI_19 : sameE ((hR cl12).2 19) (fh gI 19) := Or.inl rfl
theorem sI_20 : sameE ((hR cl12).2 20) (fh gI 20) := Or.inl rfl
theorem sI_21 : sameE ((hR cl12).2 21) (fh gI 21) := Or.inl rfl
theorem sI_22 : sameE ((hR cl12).2 22) (fh gI 22) := Or.inl rfl
theorem sI_23 : sameE ((hR cl12).2 23) (fh gI 23) := Or.inl rfl
theorem sI_24 : sameE ((hR cl12).2 24) (fh gI 24) := Or.inl rfl
theorem sI_25 : sameE ((hR cl12).2 25) (fh gI 25) := Or.inl rfl
theorem sI_26 : sameE ((hR cl12).2 26) (fh gI 26) := Or.inl rfl
theorem sI_27 : sameE ((hR cl12).2 27) (fh gI 27) := Or.inl (ref6 rfl rfl rfl rfl rfl rfl (fun j hj => if_neg (by omega)))
theorem sI_28 : sameE ((hR cl12).2 28) (fh gI 28) := Or.inl rfl
theorem sI_29 : sameE ((hR cl12).2 29) (fh gI 29) := Or.inl rfl
theorem sI_30 : sameE ((hR cl12).2 30) (fh gI 30) := Or.inl rfl
theorem sI_31 : sameE ((hR cl12).2 31) (fh gI 31) := Or.inl rfl
theorem sI_32 : sameE ((hR cl12).2 32) (fh gI 32) := Or.inl rfl
theorem sI_33 : sameE ((hR cl12).2 33) (fh gI 33) := Or.inl rfl
theorem sI_34 : sameE ((hR cl12).2 34) (fh gI 34) := Or.inl rfl
theorem sI_35 : sameE ((hR cl12).2 35) (fh gI 35) := Or.inl rfl
theorem sI_36 : sameE ((hR cl12).2 36) (fh gI 36) := Or.inl rfl
theorem sI_37 : sameE ((hR cl12).2 37) (fh gI 37) := Or.inl rfl
theorem sI_38 : sameE ((hR cl12).2 38) (fh gI 38) := Or.inl rfl
theorem sI_39 : sameE ((hR cl12).2 39) (fh gI 39) := Or.inl rfl
theorem sI_40 : sameE ((hR cl12).2 40) (fh gI 40) := Or.inl rfl
theorem sI_41 : sameE ((hR cl12).2 41) (fh gI 41) := Or.inl rfl
theorem sI_42 : sameE ((hR cl12).2 42) (fh gI 42) := Or.inl rfl
theorem sI_43 : sameE ((hR cl12).2 43) (fh gI 43) := Or.inl rfl
theorem sI_44 : sameE ((hR cl12).2 44) (fh gI 44) := Or.inl rfl
theorem sI_45 : sameE ((hR cl12).2 45) (fh gI 45) := Or.inl rfl
theorem sI_46 : sameE ((hR cl12).2 46) (fh gI 46) := Or.inl rfl
theorem sI_47 : sameE ((hR cl12).2 47) (fh gI 47) := Or.inl (ref6 rfl rfl rfl rfl rfl rfl (fun j hj => if_neg (by omega)))
theorem sI_48 : sameE ((hR cl12).2 48) (fh gI 48) := Or.inl rfl
theorem sI_49 : sameE ((hR cl12).2 49) (fh gI 49) := Or.inl rfl
theorem sI_50 : sameE ((hR cl12).2 50) (fh gI 50) := Or.inl rfl
theorem sI_51 : sameE ((hR cl12).2 51) (fh gI 51) := Or.inl rfl
theorem sI_52 : sameE ((hR cl12).2 52) (fh gI 52) := Or.inl rfl
theorem sI_53 : sameE ((hR cl12).2 53) (fh gI 53) := Or.inl rfl
theorem sI_54 : sameE ((hR cl12).2 54) (fh gI 54) := Or.inl rfl
theorem sI_55 : sameE ((hR cl12).2 55) (fh gI 55) := Or.inl rfl
theorem sI_56 : sameE ((hR cl12).2 56) (fh gI 56) := Or.inl rfl
theorem sI_57 : sameE ((hR cl12).2 57) (fh gI 57) := Or.inl rfl
theorem sI_58 : sameE ((hR cl12).2 58) (fh gI 58) := Or.inl rfl
theorem sI_59 : sameE ((hR cl12).2 59) (fh gI 59) := Or.inl rfl
theorem sI_60 : sameE ((hR cl12).2 60) (fh gI 60) := Or.inl rfl
theorem sI_61 : sameE ((hR cl12).2 61) (fh gI 61) := Or.inl rfl
theorem sI_62 : sameE ((hR cl12).2 62) (fh gI 62) := Or.inl rfl
theorem sI_63 : sameE ((hR cl12).2 63) (fh gI 63) := Or.inl rfl
theorem sI_64 : sameE ((hR cl12).2 64) (fh gI 64) := Or.inl rfl
theorem sI_65 : sameE ((hR cl12).2 65) (fh gI 65) := Or.inl rfl
theorem sI_66 : sameE ((hR cl12).2 66) (fh gI 66) := Or.inl (ref6 rfl rfl rfl rfl rfl rfl (fun j hj => if_neg (by omega)))
theorem sI_67 : sameE ((hR cl12).2 67) (fh gI 67) := Or.inl rfl
theorem sI_68 : sameE ((hR cl12).2 68) (fh gI 68) := Or.inl rfl
theorem sI_69 : sameE ((hR cl12).2 69) (fh gI 69) := Or.inl rfl
theorem sI_70 : sameE ((hR cl12).2 70) (fh gI 70) := Or.inl rfl
theorem sI_71 : sameE ((hR cl12).2 71) (fh gI 71) := Or.inl (ref4 rfl rfl rfl rfl (fun j hj => if_neg (by omega)))
theorem sI_72 : sameE ((hR cl12).2 72) (fh gI 72) := Or.inl rfl
theorem sI_73 : sameE ((hR cl12).2 73) (fh gI 73) := Or.inl rfl
theorem sI_74 : sameE ((hR cl12).2 74) (fh gI 74) := Or.inl rfl
theorem sI_75 : sameE ((hR cl12).2 75) (fh gI 75) := Or.inl rfl
theorem sI_76 : sameE ((hR cl12).2 76) (fh gI 76) := Or.inl rfl
theorem sI_77 : sameE ((hR cl12).2 77) (fh gI 77) := Or.inl rfl
theorem sI_78 : sameE ((hR cl12).2 78) (fh gI 78) := Or.inl rfl
theorem sI_79 : sameE ((hR cl12).2 79) (fh gI 79) := Or.inl rfl
theorem sI_80 : sameE ((hR cl12).2 80) (fh gI 80) := Or.inl rfl
theorem sI_81 : sameE ((hR cl12).2 81) (fh gI 81) := Or.inl rfl
theorem sI_82 : sameE ((hR cl12).2 82) (fh gI 82) := Or.inl rfl
theorem sI_83 : sameE ((hR cl12).2 83) (fh gI 83) := Or.inr ⟨3, _, _, rfl, rfl, fun j hj => (upd_n _ _ (by omega)).symm⟩
theorem sI_84 : sameE ((hR cl12).2 84) (fh gI 84) := Or.inl rfl
theorem sI_85 : sameE ((hR cl12).2 85) (fh gI 85) := Or.inl rfl
theorem sI_86 : sameE ((hR cl12).2 86) (fh gI 86) := Or.inl rfl
theorem sI_87 : sameE ((hR cl12).2 87) (fh gI 87) := Or.inl rfl
theorem sI_88 : sameE ((hR cl12).2 88) (fh gI 88) := Or.inl rfl
theorem sI_89 : sameE ((hR cl12).2 89) (fh gI 89) := Or.inl rfl
theorem sI_90 : sameE ((hR cl12).2 90) (fh gI 90) := Or.inl rfl
theorem sI_91 : sameE ((hR cl12).2 91) (fh gI 91) := Or.inl rfl
theorem sI_92 : sameE ((hR cl12).2 92) (fh gI 92) := Or.inl rfl
theorem sI_93 : sameE ((hR cl12).2 93) (fh gI 93) := Or.inl rfl
theorem sI_94 : sameE ((hR cl12).2 94) (fh gI 94) := Or.inl rfl
theorem sI_95 : sameE ((hR cl12).2 95) (fh gI 95) := Or.inl rfl
theorem sI_96 : sameE ((hR cl12).2 96) (fh gI 96) := Or.inl rfl
theorem sI_97 : sameE ((hR cl12).2 97) (fh gI 97) := Or.inl rfl
theorem sI_98 : sameE ((hR cl12).2 98) (fh gI 98) := Or.inl rfl
theorem sI_99 : sameE ((hR cl12).2 99) (fh gI 99) := Or.inl rfl
theorem sI_100 : sameE ((hR cl12).2 100) (fh gI 100) := Or.inl rfl
theorem sI_101 : sameE ((hR cl12).2 101) (fh gI 101) := Or.inl rfl
theorem sI_102 : sameE ((hR cl12).2 102) (fh gI 102) := Or.inl rfl
theorem sI_103 : sameE ((hR cl12).2 103) (fh gI 103) := Or.inl rfl
theorem sI_104 : sameE ((hR cl12).2 104) (fh gI 104) := Or.inl rfl
theorem sI_105 : sameE ((hR cl12).2 105) (fh gI 105) := Or.inl rfl
theorem sI_106 : sameE ((hR cl12).2 106) (fh gI 106) := Or.inl rfl
theorem sI_107 : sameE ((hR cl12).2 107) (fh gI 107) := Or.inl rfl
theorem sI_108 : sameE ((hR cl12).2 108) (fh gI 108) := Or.inl rfl
theorem sI_109 : sameE ((hR cl12).2 109) (fh gI 109) := Or.inl rfl
theorem sI : ∀ q, q < 110 → sameE ((hR cl12).2 q) (fh gI q) := ball_s (ball_s (ball_s (ball_s (ball_s (ball_s (ball_s (ball_s (ball_s (ball_s (ball_s (ball_s (ball_s (ball_s (ball_s (ball_s (ball_s (ball_s (ball_s (ball_s (ball_s (ball_s (ball_s (ball_s (ball_s (ball_s (ball_s (ball_s (ball_s (ball_s (ball_s (ball_s (ball_s (ball_s (ball_s (ball_s (ball_s (ball_s (ball_s (ball_s (ball_s (ball_s (ball_s (ball_s (ball_s (ball_s (ball_s (ball_s (ball_s (ball_s (ball_s (ball_s (ball_s (ball_s (ball_s (ball_s (ball_s (ball_s (ball_s (ball_s (ball_s (ball_s (ball_s (ball_s (ball_s (ball_s (ball_s (ball_s (ball_s (ball_s (ball_s (ball_s (ball_s (ball_s (ball_s (ball_s (ball_s (ball_s (ball_s (ball_s (ball_s (ball_s (ball_s (ball_s (ball_s (ball_s (ball_s (ball_s (ball_s (ball_s (ball_s (ball_s (ball_s (ball_s (ball_s (ball_s (ball_s (ball_s (ball_s (ball_s (ball_s (ball_s (ball_s (ball_s (ball_s (ball_s (ball_s (ball_s (ball_s (ball_s (ball_0 _) sI_0) sI_1) sI_2) sI_3) sI_4) sI_5) sI_6) sI_7) sI_8) sI_9) sI_10) sI_11) sI_12) sI_13) sI_14) sI_15) sI_16) sI_17) sI_18) sI_19) sI_20) sI_21) sI_22) sI_23) sI_24) sI_25) sI_26) sI_27) sI_28) sI_29) sI_30) sI_31) sI_32) sI_33) sI_34) sI_35) sI_36) sI_37) sI_38) sI_39) sI_40) sI_41) sI_42) sI_43) sI_44) sI_45) sI_46) sI_47) sI_48) sI_49) sI_50) sI_51) sI_52) sI_53) sI_54) sI_55) sI_56) sI_57) sI_58) sI_59) sI_60) sI_61) sI_62) sI_63) sI_64) sI_65) sI_66) sI_67) sI_68) sI_69) sI_70) sI_71) sI_72) sI_73) sI_74) sI_75) sI_76) sI_77) sI_78) sI_79) sI_80) sI_81) sI_82) sI_83) sI_84) sI_85) sI_86) sI_87) sI_88) sI_89) sI_90) sI_91) sI_92) sI_93) sI_94) sI_95) sI_96) sI_97) sI_98) sI_99) sI_100) sI_101) sI_102) sI_103) sI_104) sI_105) sI_106) sI_107) sI_108) sI_109
