/-! NEW TEXTS -/
theorem arrV_cg (c : ClassId) (m : Nat) {F F' : Nat → Value} (h : ∀ j, j < m → F j = F' j) : arrV c m F = arrV c m F' := by
  unfold arrV
  rw [show (fun j : Fin m => F j.val) = fun j => F' j.val from funext fun j => h j.val j.isLt]
/-- the same row -/
def sameE (a b : xE) : Prop := a = b ∨ ∃ (m : Nat) (f f' : Nat → Int32), a = .inl (m, f) ∧ b = .inl (m, f') ∧ ∀ j, j < m → f j = f' j
theorem xRp.rows {D : va_G} {aC ad : Nat → Nat} {b0 : Nat} {s : State} {H : Heap} {locs : List Loc} {h h' : xH} (R : xRp D aC ad b0 s H locs h) (e1 : h.1 = h'.1) (e2 : ∀ q, q < h.1 → sameE (h.2 q) (h'.2 q)) : xRp D aC ad b0 s H locs h' := by
  obtain ⟨hK, hP, hS, hz, hn⟩ := R
  refine ⟨hK, fun k q hk => ?_, hS, by rw [← e1]; exact hz, by rw [← e1]; exact hn⟩
  obtain ⟨h1, rfl⟩ := x_ws_inv hk
  have h1' : k < h.1 := by rw [e1]; exact h1
  have h2 := hP k _ (x_ws_get h1')
  rcases e2 k h1' with e | ⟨m, f, f', ea, eb, hf⟩
  · rw [← e]; exact h2
  · rw [ea] at h2
    rw [eb]
    have h3 : H[ad k]? = some (vp_cell (aC 0) (m, .inl f)) := h2
    show H[ad k]? = some (vp_cell (aC 0) (m, .inl f'))
    rw [h3, vp_cell_i, vp_cell_i, arrV_cg (aC 0) m (fun j hj => by rw [hf j hj])]
section RW84
variable {l : Launch} {M : xM} {cc : ByteArray} {Q : Option Value → xH → Prop} {kc ks pc : Nat} {lv : List (Nat × Value)} {st : List Value} {h : xH}
theorem xj_rows {h' : xH} (e1 : h.1 = h'.1) (e2 : ∀ q, q < h.1 → sameE (h.2 q) (h'.2 q)) (k : xJ l M cc Q kc ks pc lv st h') : xJ l M cc Q kc ks pc lv st h := by
  intro p e s m args below meth c D aC ad b0 H locs ls Z C R L E
  exact k p e s m args below meth c D aC ad b0 H locs ls Z C (R.rows e1 e2) L E
end RW84
theorem va_up2 {α : Type} (f : Nat → α) (k : Nat) (a b : α) : va_up (va_up f k a) k b = va_up f k b := by
  funext j
  by_cases e : j = k
  · rw [e, va_up_s, va_up_s]
  · rw [va_up_n _ _ e, va_up_n _ _ e, va_up_n _ _ e]
def obX (a b c : Nat) : xE := .inr (.inr (10, [.ref a, .ref b, .ref c]))
set_option maxHeartbeats 4000000 in
set_option maxRecDepth 100000 in
theorem c_X10_init (l : Launch) (d : Nat) (h : xH) (q a b : Nat) (hn : h.1 < xN) (hq : q < h.1) (hqq : h.2 q = .inr (.inr (10, [.null, .null, .null]))) : xC l yX10_init cX10_init 3 none (xR (d + 1) 1 40) [.ref q, .ref a, .ref b] h (fun r h1 => r = none ∧ h1 = (h.1 + 1, va_up (va_up h.2 h.1 (.inl (40, fun _ => 0))) q (obX a b h.1))) := by
  refine xC_of true (by decide +kernel) (fun z => rfl) (Nat.le_of_ble_eq_true rfl) ?_
  show xJ l (RX10, 3, none, true, (xR (d + 1) 1 40), none) cX10_init _ 0 0 0 [(0, .ref q), (1, .ref a), (2, .ref b)] [] h
  have hne : q ≠ h.1 := Nat.ne_of_lt hq
  refine xj_aload_n (n := 0) (i := 0) 0 rfl rfl dX10_init_0 ?_
  refine xj_objInit xw257 xw83 xw84 (Nat.le_of_ble_eq_true rfl) ⟨by show 1 ≤ d + 1; omega, by show 20 ≤ 40 * (d + 1); omega⟩ dX10_init_1 ?_
  refine xj_aload_n (n := 0) (i := 0) 0 rfl rfl dX10_init_4 ?_
  refine xj_bipush (v := 40) (by decide) dX10_init_5 ?_
  refine xj_newi (N := 40) (by decide) rfl (by decide) xw_ai hn (Nat.le_refl 1) (Nat.le_refl 40) dX10_init_7 ?_
  refine xj_putF fl_X10_9_10 rfl (fun x e => by cases e; rfl) (Nat.lt_succ_of_lt hq) ((va_up_n _ _ hne).trans hqq) (fun _ => ⟨rfl, rfl⟩) (by decide) dX10_init_9 ?_
  refine xj_aload_n (n := 0) (i := 0) 0 rfl rfl dX10_init_12 ?_
  refine xj_aload_n (n := 1) (i := 1) 1 rfl rfl dX10_init_13 ?_
  refine xj_putF fl_X10_15_10 rfl (fun x e => by cases e; rfl) (Nat.lt_succ_of_lt hq) (va_up_s _ _ _) (fun _ => ⟨rfl, rfl⟩) (Nat.le_of_ble_eq_true rfl) dX10_init_14 ?_
  refine xj_aload_n (n := 0) (i := 0) 0 rfl rfl dX10_init_17 ?_
  refine xj_aload_n (n := 2) (i := 2) 2 rfl rfl dX10_init_18 ?_
  refine xj_putF fl_X10_18_10 rfl (fun x e => by cases e; rfl) (Nat.lt_succ_of_lt hq) (va_up_s _ _ _) (fun _ => ⟨rfl, rfl⟩) (Nat.le_of_ble_eq_true rfl) dX10_init_19 ?_
  refine xj_return rfl (Nat.le_refl 1) (Nat.le_refl 40) dX10_init_22 ⟨rfl, ?_⟩
  show (h.1 + 1, va_up (va_up (va_up (va_up h.2 h.1 (.inl (40, fun _ => 0))) q _) q _) q _) = _
  rw [va_up2, va_up2]
  rfl
set_option maxHeartbeats 4000000 in
set_option maxRecDepth 100000 in
theorem c_J7_copyOf (l : Launch) (d : Nat) (h : xH) (q m : Nat) (r : Nat → Int32) (hn : h.1 < xN) (hq : q < h.1) (hqq : h.2 q = .inl (160, r)) (hm : m ≤ 160) : xC l yJ7_copyOf_59c91 cJ7_copyOf_59c91 3 (some (.array .int)) (xR (d + 2) 1 160) [.ref q, .int (nI m)] h (fun v h1 => ∃ r' : Nat → Int32, (∀ j, j < m → r' j = r j) ∧ v = some (.ref h.1) ∧ h1 = (h.1 + 1, va_up h.2 h.1 (.inl (m, r')))) := by
  refine xC_of false (by decide +kernel) (fun z => by cases z) (Nat.le_of_ble_eq_true rfl) ?_
  show xJ l (RJ7, 3, (some (.array .int)), false, (xR (d + 2) 1 160), none) cJ7_copyOf_59c91 _ 0 0 0 [(0, .ref q), (1, .int (nI m))] [] h
  have hne : q ≠ h.1 := Nat.ne_of_lt hq
  have hst0 : ∀ vs : List Value, vs = [] → (vs.map fun v => v.category).sum ≤ 8 := fun vs e => by rw [e]; decide
  refine xj_iload_n (n := 1) (i := 1) 1 rfl rfl dJ7_copyOf_59c91_0 ?_
  refine xj_aload_n (n := 0) (i := 0) 0 rfl rfl dJ7_copyOf_59c91_1 ?_
  refine xj_alen (v := nI 160) hq hqq rfl dJ7_copyOf_59c91_2 ?_
  refine xj_icmp_ne (tgt := 14) (by decide) dJ7_copyOf_59c91_3 (fun zc3 => ?_) (fun zc3 => ?_)
  · have hlt : m < 160 := by
      have h9 : ¬ m = 160 := fun y => zc3 (by rw [y])
      omega
    refine xj_iload_n (n := 1) (i := 1) 1 rfl rfl dJ7_copyOf_59c91_14 ?_
    refine xj_newi (N := m) (nI_pos (by omega)) (nI_clamp (by omega)) (by omega) xw_ai hn (Nat.le_refl 1) (by show 0 + m ≤ 160; omega) dJ7_copyOf_59c91_15 ?_
    refine xj_astore_n (n := 2) (i := 2) (lv1 := [(2, .ref h.1), (0, .ref q), (1, .int (nI m))]) rfl rfl (Nat.le_of_ble_eq_true rfl) dJ7_copyOf_59c91_17 ?_
    refine xj_aload_n (n := 0) (i := 0) 1 rfl rfl dJ7_copyOf_59c91_18 ?_
    refine xj_iconst (v := 0) (by decide) dJ7_copyOf_59c91_19 ?_
    refine xj_aload_n (n := 2) (i := 2) 0 rfl rfl dJ7_copyOf_59c91_20 ?_
    refine xj_iconst (v := 0) (by decide) dJ7_copyOf_59c91_21 ?_
    refine xj_aload_n (n := 0) (i := 0) 1 rfl rfl dJ7_copyOf_59c91_22 ?_
    refine xj_alen (v := nI 160) (Nat.lt_succ_of_lt hq) ((va_up_n _ _ hne).trans hqq) rfl dJ7_copyOf_59c91_23 ?_
    refine xj_iload_n (n := 1) (i := 1) 2 rfl rfl dJ7_copyOf_59c91_24 ?_
    refine xj_mmin xw459 xw460 xw74 xw461 (Nat.le_of_ble_eq_true rfl) ⟨by show 1 ≤ d + 2; omega, by show 21 ≤ 40 * (d + 2); omega, Nat.le_refl 1, by show 0 + m ≤ 160; omega⟩ dJ7_copyOf_59c91_25 ?_
    refine xj_top (show (if nI m < nI 160 then nI m else nI 160) = nI m from if_pos (nI_lt hlt (by decide))) ?_
    have e7 : nativeFrameWords "java/lang/System" "arraycopy" 5 = 7 := by decide +kernel
    refine xj_copy xw462 xwz_n xwz_s xwz_i (Nat.lt_succ_of_lt hq) ((va_up_n _ _ hne).trans hqq) (Nat.lt_succ_self _) (va_up_s _ _ _) (by decide) (by decide) (nI_pos (by omega)) (by rw [nI_clamp (by omega)]; show 0 + m ≤ 160; omega) (by rw [nI_clamp (by omega)]; show 0 + m ≤ m; omega) (Nat.le_of_ble_eq_true rfl) ⟨by show 1 ≤ d + 2; omega, by rw [e7]; show 8 + (7 + 11) ≤ 40 * (d + 2); omega⟩ dJ7_copyOf_59c91_28 ?_
    refine xj_aload_n (n := 2) (i := 2) 0 rfl rfl dJ7_copyOf_59c91_31 ?_
    refine xj_areturn rfl (Or.inr ⟨_, rfl⟩) (Nat.le_refl 1) (by show 0 + m ≤ 160; omega) dJ7_copyOf_59c91_32 ?_
    rw [nI_clamp (by omega)]
    refine ⟨va_cpy r (fun _ => 0) 0 0 m, fun j hj => ?_, rfl, ?_⟩
    · show (if 0 ≤ j ∧ j < 0 + m then r (0 + (j - 0)) else 0) = r j
      rw [if_pos ⟨Nat.zero_le _, by omega⟩, Nat.zero_add, Nat.sub_zero]
    · show (h.1 + 1, va_up (va_up h.2 h.1 _) h.1 (.inl (m, va_cpy r (fun _ => 0) 0 0 m))) = _
      rw [va_up2]
  · have he : m = 160 := (nI_eq (b := 160) (by omega) (by decide)).mp zc3
    subst he
    refine xj_aload_n (n := 0) (i := 0) 0 rfl rfl dJ7_copyOf_59c91_6 ?_
    refine xj_clone hq hqq xw452 xw453 xw454 xw455 xw456 hn (Nat.le_of_ble_eq_true rfl) ⟨by show 1 ≤ d + 2; omega, by show 22 ≤ 40 * (d + 2); omega⟩ (Nat.le_refl 1) (Nat.le_refl 160) dJ7_copyOf_59c91_7 ?_
    refine xj_castI (Nat.lt_succ_self _) (va_up_s _ _ _) xw458 dJ7_copyOf_59c91_10 ?_
    exact xj_areturn rfl (Or.inr ⟨_, rfl⟩) (Nat.le_refl 1) (Nat.le_refl 160) dJ7_copyOf_59c91_13 ⟨r, fun _ _ => rfl, rfl, rfl⟩
/-- the heap behind written() -/
def hpW (g : xG) (n m : Nat) (r' : Nat → Int32) : xH := (n + 4, va_up (va_up (va_up (va_up (va_up (fh g) n (.inr (.inr (10, [.null, .null, .null])))) (n + 1) (.inl (m, r'))) (n + 2) (.inl (3, g 70))) (n + 3) (.inl (40, fun _ => 0))) n (obX (n + 1) (n + 2) (n + 3)))
set_option maxHeartbeats 4000000 in
set_option maxRecDepth 100000 in
theorem c_X9_written (l : Launch) (d : Nat) (n : Nat) (hn : 110 ≤ n) (g : xG) (hnx : n + 4 ≤ xN) (m : Nat) (hm : m ≤ 160) (h5 : g 67 5 = nI m) : xC l yX9_written cX9_written 1 (some (.object "DreamWindows$Text")) (xR (d + 3) 4 210) [.ref 67] (n, fh g) (fun v h1 => ∃ r' : Nat → Int32, (∀ j, j < m → r' j = g 69 j) ∧ v = some (.ref n) ∧ h1 = hpW g n m r') := by
  refine xC_of false (by decide +kernel) (fun z => by cases z) (Nat.le_of_ble_eq_true rfl) ?_
  show xJ l (RX9, 1, (some (.object "DreamWindows$Text")), false, (xR (d + 3) 4 210), none) cX9_written _ 0 0 0 [(0, .ref 67)] [] (n, fh g)
  refine xj_new (Cn := RX10) (T := TX10) (N := 3) (tf := tyX10) (fs := [.null, .null, .null]) (ci := 10) rfl xin_10 tyX10_ok (fun j hj => by match j, hj with | 0, _ => rfl | 1, _ => rfl | 2, _ => rfl) (fun _ => rfl) cl_X9_47 xw253 xw67 (by show n < xN; omega) (by show 0 + 1 ≤ 4; omega) (by show 0 + 3 ≤ 210; omega) dX9_written_0 ?_
  refine xj_dup rfl dX9_written_3 ?_
  refine xj_aload_n (n := 0) (i := 0) 0 rfl rfl dX9_written_4 ?_
  refine xj_getf (v := .ref 69) fl_X9_22_9 (by show 67 < n + 1; omega) ((va_up_n _ _ (by show 67 ≠ n; omega)).trans (fq_67 g)) rfl dX9_written_5 ?_
  refine xj_aload_n (n := 0) (i := 0) 0 rfl rfl dX9_written_8 ?_
  refine xj_getf (v := .int (nI m)) fl_X9_28_9 (by show 67 < n + 1; omega) ((va_up_n _ _ (by show 67 ≠ n; omega)).trans (fq_67 g)) (congrArg (fun z => some (Value.int z)) h5) dX9_written_9 ?_
  refine xj_callS ks_X9_49 (c_J7_copyOf l d (n + 1, va_up (fh g) n (.inr (.inr (10, [.null, .null, .null])))) 69 m (g 69) (by show n + 1 < xN; omega) (by show 69 < n + 1; omega) ((va_up_n _ _ (by omega)).trans (fA_69 (g 69))) hm) (As := [.ref 69, .int (nI m)]) (st := [.ref n, .ref n]) rfl rfl (xRm_of (by omega) (by decide) (by omega) (by omega)) (Nat.le_of_ble_eq_true rfl) dX9_written_12 (fun v h1 hp => ?_)
  obtain ⟨r', hr, rfl, rfl⟩ := hp
  refine xj_aload_n (n := 0) (i := 0) 0 rfl rfl dX9_written_15 ?_
  refine xj_getf (v := .ref 70) fl_X9_25_9 (by show 67 < n + 1 + 1; omega) ((va_up_n _ _ (by show 67 ≠ n + 1; omega)).trans ((va_up_n _ _ (by show 67 ≠ n; omega)).trans (fq_67 g))) rfl dX9_written_16 ?_
  refine xj_clone (n := 3) (f := g 70) (by show 70 < n + 1 + 1; omega) ((va_up_n _ _ (by show 70 ≠ n + 1; omega)).trans ((va_up_n _ _ (by show 70 ≠ n; omega)).trans (fA_70 (g 70)))) xw465 xw453 xw454 xw455 xw456 (by show n + 1 + 1 < xN; omega) (Nat.le_of_ble_eq_true rfl) ⟨by show 1 ≤ d + 3; omega, by show 22 ≤ 40 * (d + 3); omega⟩ (by show 0 + 1 + 1 + 1 ≤ 4; omega) (by show 0 + 3 + 160 + 3 ≤ 210; omega) dX9_written_19 ?_
  refine xj_castI (n := 3) (f := g 70) (by show n + 1 + 1 < n + 1 + 1 + 1; omega) (va_up_s _ _ _) xw466 dX9_written_22 ?_
  refine xj_callI ki_X9_60 (c_X10_init l d (n + 1 + 1 + 1, va_up (va_up (va_up (fh g) n (.inr (.inr (10, [.null, .null, .null])))) (n + 1) (.inl (m, r'))) (n + 1 + 1) (.inl (3, g 70))) n (n + 1) (n + 1 + 1) (by show n + 1 + 1 + 1 < xN; omega) (by show n < n + 1 + 1 + 1; omega) ((va_up_n _ _ (by omega)).trans ((va_up_n _ _ (by omega)).trans (va_up_s _ _ _)))) (As := [.ref (n + 1), .ref (n + 1 + 1)]) (st := [.ref n]) rfl rfl (xRm_of (by omega) (by decide) (by show 0 + 1 + 1 + 1 + 1 ≤ 4; omega) (by show 0 + 3 + 160 + 3 + 40 ≤ 210; omega)) (Nat.le_of_ble_eq_true rfl) dX9_written_25 (fun v h1 hp => ?_)
  obtain ⟨rfl, rfl⟩ := hp
  exact xj_areturn rfl (Or.inl ⟨_, rfl⟩) (by show 0 + 1 + 1 + 1 + 1 ≤ 4; omega) (by show 0 + 3 + 160 + 3 + 40 ≤ 210; omega) dX9_written_28 ⟨r', hr, rfl, rfl⟩
