/-! FROM THE LAW'S ENTRY -/
theorem kn_arrI {args : Array Value} {s : State} (h : (Cond.arrayClass .int).before args s = true) : ∃ cA, ArrOfT s cA .int ∧ va_RA s cA .int := by
  obtain ⟨cB, kB, comp, hn, hk, hkd⟩ := Cond.arrayClass_spec h
  exact ⟨cB, fun n z => ⟨fun k h => (by cases h), kB, hk, comp, hkd⟩, hn⟩
theorem kn_arrO {args : Array Value} {s : State} {C : String} (h : (Cond.arrayOver (.object C)).before args s = true) : ∃ cA, ArrOfT s cA (.object C) ∧ va_RA s cA (.object C) := by
  obtain ⟨comp, cA, kA, h1, h2, h3, h4, h5⟩ := Cond.arrayOver_spec h
  exact ⟨cA, fun n z => ⟨fun k h => (by cases h), kA, h3, comp, h4⟩, kA, comp, h3, h4, h1, h5⟩
theorem kn_all {args : Array Value} {s : State} (hts : ∀ w ∈ lw_tbl, w.before args s = true) : ∃ (D : va_G) (aC : Nat → ClassId), va_K D vwCl (xTys aC) s := by
  have hW : ∀ w ∈ xW, w.before args s = true := fun w hw => hts w (List.mem_filter.mp hw).1
  obtain ⟨c0, i0, K0⟩ := u_known (C := RX0) (T := TX0) (N := 1) (n := 1) hW xin_0 (hW _ xw114)
  obtain ⟨c1, i1, K1⟩ := u_known (C := RX1) (T := TX1) (N := 1) (n := 1) hW xin_1 (hW _ xw106)
  obtain ⟨c2, i2, K2⟩ := u_known (C := RX2) (T := TX2) (N := 1) (n := 1) hW xin_2 (hW _ xw122)
  obtain ⟨c3, i3, K3⟩ := u_known (C := RX3) (T := TX3) (N := 5) (n := 5) hW xin_3 (hW _ xw169)
  obtain ⟨c4, i4, K4⟩ := u_known (C := RX4) (T := TX4) (N := 1) (n := 1) hW xin_4 (hW _ xw87)
  obtain ⟨c5, i5, K5⟩ := u_known (C := RX5) (T := TX5) (N := 1) (n := 1) hW xin_5 (hW _ xw130)
  obtain ⟨c6, i6, K6⟩ := u_known (C := RX6) (T := TX6) (N := 1) (n := 1) hW xin_6 (hW _ xw98)
  obtain ⟨c7, i7, K7⟩ := u_known (C := RX7) (T := TX7) (N := 5) (n := 5) hW xin_7 (hW _ xw142)
  obtain ⟨c8, i8, K8⟩ := u_known (C := RX8) (T := TX8) (N := 3) (n := 3) hW xin_8 (hW _ xw235)
  obtain ⟨c9, i9, K9⟩ := u_known (C := RX9) (T := TX9) (N := 9) (n := 9) hW xin_9 (hW _ xw198)
  obtain ⟨c10, i10, K10⟩ := u_known (C := RX10) (T := TX10) (N := 3) (n := 3) hW xin_10 (hW _ xw253)
  obtain ⟨c11, i11, K11⟩ := u_known (C := RX11) (T := TX11) (N := 14) (n := 14) hW xin_11 (hW _ xw78)
  obtain ⟨c12, i12, K12⟩ := u_known (C := RX12) (T := TX12) (N := 41) (n := 41) hW xin_12 (hW _ xw818)
  obtain ⟨a0, A0, B0⟩ := kn_arrI (hW _ xw_ai)
  obtain ⟨a1, A1, B1⟩ := kn_arrO (hts (.arrayOver (.object RX4)) (by decide +kernel))
  obtain ⟨a2, A2, B2⟩ := kn_arrO (hts (.arrayOver (.object RX7)) (by decide +kernel))
  obtain ⟨a3, A3, B3⟩ := kn_arrO (hts (.arrayOver (.object RX8)) (by decide +kernel))
  obtain ⟨a4, A4, B4⟩ := kn_arrO (hts (.arrayOver (.object RX10)) (by decide +kernel))
  refine ⟨(fun k => match k with | 0 => c0 | 1 => c1 | 2 => c2 | 3 => c3 | 4 => c4 | 5 => c5 | 6 => c6 | 7 => c7 | 8 => c8 | 9 => c9 | 10 => c10 | 11 => c11 | 12 => c12 | _ => c0, fun k => match k with | 0 => i0 | 1 => i1 | 2 => i2 | 3 => i3 | 4 => i4 | 5 => i5 | 6 => i6 | 7 => i7 | 8 => i8 | 9 => i9 | 10 => i10 | 11 => i11 | 12 => i12 | _ => i0), fun k => match k with | 0 => a0 | 1 => a1 | 2 => a2 | 3 => a3 | _ => a4, fun k q hq => ?_, fun k q hq => ?_⟩
  · match k, hq with
    | 0, hq => cases hq; exact K0
    | 1, hq => cases hq; exact K1
    | 2, hq => cases hq; exact K2
    | 3, hq => cases hq; exact K3
    | 4, hq => cases hq; exact K4
    | 5, hq => cases hq; exact K5
    | 6, hq => cases hq; exact K6
    | 7, hq => cases hq; exact K7
    | 8, hq => cases hq; exact K8
    | 9, hq => cases hq; exact K9
    | 10, hq => cases hq; exact K10
    | 11, hq => cases hq; exact K11
    | 12, hq => cases hq; exact K12
    | k + 13, hq => simp at hq
  · match k, hq with
    | 0, hq => cases hq; exact ⟨A0, B0⟩
    | 1, hq => cases hq; exact ⟨A1, B1⟩
    | 2, hq => cases hq; exact ⟨A2, B2⟩
    | 3, hq => cases hq; exact ⟨A3, B3⟩
    | 4, hq => cases hq; exact ⟨A4, B4⟩
    | k + 5, hq => simp at hq
theorem xEmpty {D : va_G} {aC ad : Nat → Nat} {s : State} (hK : va_K D vwCl (xTys aC) s) : xRp D aC ad s.heap.size s s.heap [] (hR []) :=
  ⟨hK, fun k q h => by simp [x_ws, hR] at h, va_S.rf, rfl, Nat.zero_le _⟩
/-- what the names beyond xN are -/
def adF (b0 k v f b : Nat) : Nat → Nat := fun q => if q < xN then b0 + q else if q = xN then k else if q = xN + 1 then v else if q = xN + 2 then f else b
theorem adF_aff (b0 k v f b : Nat) : xAff (adF b0 k v f b) b0 := fun q hq => if_pos hq
theorem adF_0 (b0 k v f b : Nat) : adF b0 k v f b xN = k := by
  unfold adF
  rw [if_neg (Nat.lt_irrefl _), if_pos rfl]
theorem adF_1 (b0 k v f b : Nat) : adF b0 k v f b (xN + 1) = v := by
  unfold adF
  rw [if_neg (by omega), if_neg (by omega), if_pos rfl]
theorem adF_2 (b0 k v f b : Nat) : adF b0 k v f b (xN + 2) = f := by
  unfold adF
  rw [if_neg (by omega), if_neg (by omega), if_neg (by omega), if_pos rfl]
theorem adF_3 (b0 k v f b : Nat) : adF b0 k v f b (xN + 3) = b := by
  unfold adF
  rw [if_neg (by omega), if_neg (by omega), if_neg (by omega), if_neg (by omega)]
