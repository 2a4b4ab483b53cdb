theorem yj_inst14 {l : Launch} {M : xM} {cc : ByteArray} {Q : Option Value → xH → Prop} {kc ks pc : Nat} {lv : List (Nat × Value)} {st : List Value} {n : Nat} {g : xG} (k : Nat) (hk : k < 6) (hn : 110 ≤ n) (hM : M.1 = RX11) (d : decode cc pc = .ok (.instanceof 14, 3)) (kk : xJ l M cc Q kc ks (pc + 3) lv (.int (bI (k = 1 ∨ k = 3)) :: st) (n, fh g)) : xJ l M cc Q kc ks pc lv (.ref (2 + k) :: st) (n, fh g) := by
  rcases (show k = 0 ∨ k = 1 ∨ k = 2 ∨ k = 3 ∨ k = 4 ∨ k = 5 by omega) with rfl | rfl | rfl | rfl | rfl | rfl
  · exact xj_instN (by show 2 < n; omega) (fq_2 g) rfl (List.mem_of_getElem? (i := 0) rfl) (hM ▸ cl_X11_14) d kk
  · exact xj_instY (by show 3 < n; omega) (fq_3 g) rfl (Or.inl rfl) (hM ▸ cl_X11_14) d kk
  · exact xj_instN (by show 4 < n; omega) (fq_4 g) rfl (List.mem_of_getElem? (i := 1) rfl) (hM ▸ cl_X11_14) d kk
  · exact xj_instY (by show 5 < n; omega) (fq_5 g) rfl (Or.inr (List.mem_of_getElem? (i := 8) rfl)) (hM ▸ cl_X11_14) d kk
  · exact xj_instN (by show 6 < n; omega) (fq_6 g) rfl (List.mem_of_getElem? (i := 2) rfl) (hM ▸ cl_X11_14) d kk
  · exact xj_instN (by show 7 < n; omega) (fq_7 g) rfl (List.mem_of_getElem? (i := 3) rfl) (hM ▸ cl_X11_14) d kk
theorem yj_inst17 {l : Launch} {M : xM} {cc : ByteArray} {Q : Option Value → xH → Prop} {kc ks pc : Nat} {lv : List (Nat × Value)} {st : List Value} {n : Nat} {g : xG} (k : Nat) (hk : k < 6) (hn : 110 ≤ n) (hM : M.1 = RX11) (d : decode cc pc = .ok (.instanceof 17, 3)) (kk : xJ l M cc Q kc ks (pc + 3) lv (.int (bI (k = 2 ∨ k = 4)) :: st) (n, fh g)) : xJ l M cc Q kc ks pc lv (.ref (2 + k) :: st) (n, fh g) := by
  rcases (show k = 0 ∨ k = 1 ∨ k = 2 ∨ k = 3 ∨ k = 4 ∨ k = 5 by omega) with rfl | rfl | rfl | rfl | rfl | rfl
  · exact xj_instN (by show 2 < n; omega) (fq_2 g) rfl (List.mem_of_getElem? (i := 4) rfl) (hM ▸ cl_X11_17) d kk
  · exact xj_instN (by show 3 < n; omega) (fq_3 g) rfl (List.mem_of_getElem? (i := 5) rfl) (hM ▸ cl_X11_17) d kk
  · exact xj_instY (by show 4 < n; omega) (fq_4 g) rfl (Or.inl rfl) (hM ▸ cl_X11_17) d kk
  · exact xj_instN (by show 5 < n; omega) (fq_5 g) rfl (List.mem_of_getElem? (i := 6) rfl) (hM ▸ cl_X11_17) d kk
  · exact xj_instY (by show 6 < n; omega) (fq_6 g) rfl (Or.inr (List.mem_of_getElem? (i := 9) rfl)) (hM ▸ cl_X11_17) d kk
  · exact xj_instN (by show 7 < n; omega) (fq_7 g) rfl (List.mem_of_getElem? (i := 7) rfl) (hM ▸ cl_X11_17) d kk
theorem yj_inst20 {l : Launch} {M : xM} {cc : ByteArray} {Q : Option Value → xH → Prop} {kc ks pc : Nat} {lv : List (Nat × Value)} {st : List Value} {n : Nat} {g : xG} (k : Nat) (hk : k < 6) (hn : 110 ≤ n) (hM : M.1 = RX11) (d : decode cc pc = .ok (.instanceof 20, 3)) (kk : xJ l M cc Q kc ks (pc + 3) lv (.int (bI (k = 3)) :: st) (n, fh g)) : xJ l M cc Q kc ks pc lv (.ref (2 + k) :: st) (n, fh g) := by
  rcases (show k = 0 ∨ k = 1 ∨ k = 2 ∨ k = 3 ∨ k = 4 ∨ k = 5 by omega) with rfl | rfl | rfl | rfl | rfl | rfl
  · exact xj_instN (by show 2 < n; omega) (fq_2 g) rfl (List.mem_of_getElem? (i := 8) rfl) (hM ▸ cl_X11_20) d kk
  · exact xj_instN (by show 3 < n; omega) (fq_3 g) rfl (List.mem_of_getElem? (i := 9) rfl) (hM ▸ cl_X11_20) d kk
  · exact xj_instN (by show 4 < n; omega) (fq_4 g) rfl (List.mem_of_getElem? (i := 10) rfl) (hM ▸ cl_X11_20) d kk
  · exact xj_instY (by show 5 < n; omega) (fq_5 g) rfl (Or.inl rfl) (hM ▸ cl_X11_20) d kk
  · exact xj_instN (by show 6 < n; omega) (fq_6 g) rfl (List.mem_of_getElem? (i := 11) rfl) (hM ▸ cl_X11_20) d kk
  · exact xj_instN (by show 7 < n; omega) (fq_7 g) rfl (List.mem_of_getElem? (i := 12) rfl) (hM ▸ cl_X11_20) d kk
theorem yj_inst23 {l : Launch} {M : xM} {cc : ByteArray} {Q : Option Value → xH → Prop} {kc ks pc : Nat} {lv : List (Nat × Value)} {st : List Value} {n : Nat} {g : xG} (k : Nat) (hk : k < 6) (hn : 110 ≤ n) (hM : M.1 = RX11) (d : decode cc pc = .ok (.instanceof 23, 3)) (kk : xJ l M cc Q kc ks (pc + 3) lv (.int (bI (k = 4)) :: st) (n, fh g)) : xJ l M cc Q kc ks pc lv (.ref (2 + k) :: st) (n, fh g) := by
  rcases (show k = 0 ∨ k = 1 ∨ k = 2 ∨ k = 3 ∨ k = 4 ∨ k = 5 by omega) with rfl | rfl | rfl | rfl | rfl | rfl
  · exact xj_instN (by show 2 < n; omega) (fq_2 g) rfl (List.mem_of_getElem? (i := 13) rfl) (hM ▸ cl_X11_23) d kk
  · exact xj_instN (by show 3 < n; omega) (fq_3 g) rfl (List.mem_of_getElem? (i := 14) rfl) (hM ▸ cl_X11_23) d kk
  · exact xj_instN (by show 4 < n; omega) (fq_4 g) rfl (List.mem_of_getElem? (i := 15) rfl) (hM ▸ cl_X11_23) d kk
  · exact xj_instN (by show 5 < n; omega) (fq_5 g) rfl (List.mem_of_getElem? (i := 16) rfl) (hM ▸ cl_X11_23) d kk
  · exact xj_instY (by show 6 < n; omega) (fq_6 g) rfl (Or.inl rfl) (hM ▸ cl_X11_23) d kk
  · exact xj_instN (by show 7 < n; omega) (fq_7 g) rfl (List.mem_of_getElem? (i := 17) rfl) (hM ▸ cl_X11_23) d kk
theorem yj_inst26 {l : Launch} {M : xM} {cc : ByteArray} {Q : Option Value → xH → Prop} {kc ks pc : Nat} {lv : List (Nat × Value)} {st : List Value} {n : Nat} {g : xG} (k : Nat) (hk : k < 6) (hn : 110 ≤ n) (hM : M.1 = RX11) (d : decode cc pc = .ok (.instanceof 26, 3)) (kk : xJ l M cc Q kc ks (pc + 3) lv (.int (bI (k = 5)) :: st) (n, fh g)) : xJ l M cc Q kc ks pc lv (.ref (2 + k) :: st) (n, fh g) := by
  rcases (show k = 0 ∨ k = 1 ∨ k = 2 ∨ k = 3 ∨ k = 4 ∨ k = 5 by omega) with rfl | rfl | rfl | rfl | rfl | rfl
  · exact xj_instN (by show 2 < n; omega) (fq_2 g) rfl (List.mem_of_getElem? (i := 18) rfl) (hM ▸ cl_X11_26) d kk
  · exact xj_instN (by show 3 < n; omega) (fq_3 g) rfl (List.mem_of_getElem? (i := 19) rfl) (hM ▸ cl_X11_26) d kk
  · exact xj_instN (by show 4 < n; omega) (fq_4 g) rfl (List.mem_of_getElem? (i := 20) rfl) (hM ▸ cl_X11_26) d kk
  · exact xj_instN (by show 5 < n; omega) (fq_5 g) rfl (List.mem_of_getElem? (i := 21) rfl) (hM ▸ cl_X11_26) d kk
  · exact xj_instN (by show 6 < n; omega) (fq_6 g) rfl (List.mem_of_getElem? (i := 22) rfl) (hM ▸ cl_X11_26) d kk
  · exact xj_instY (by show 7 < n; omega) (fq_7 g) rfl (Or.inl rfl) (hM ▸ cl_X11_26) d kk
def ofK (k : Nat) (i : Int32) : Bool := decide (i = 0 ∨ (i = 1 ∧ (k = 1 ∨ k = 3)) ∨ (i = 2 ∧ (k = 2 ∨ k = 4)) ∨ (i = 3 ∧ k = 3) ∨ (i = 4 ∧ k = 4) ∨ (i = 5 ∧ k = 5))
theorem bI_e {p q : Prop} [Decidable p] [Decidable q] (h : p ↔ q) : bI p = bI q := by
  unfold bI
  by_cases hp : p
  · rw [if_pos hp, if_pos (h.mp hp)]
  · rw [if_neg hp, if_neg (fun z => hp (h.mpr z))]
def vTaken (A : zSt) (i kind : Int32) : Int32 := if 0 ≤ kind ∧ kind ≤ 6 then if 0 ≤ i ∧ i ≤ 11 then if isSl A (nI (i.toNatClampNeg % 6)) then if i < 6 then (if ofK (aK A i.toNatClampNeg) kind = true then i else -13) else if kind = 6 then A 3 (i.toNatClampNeg - 6) else -13 else -11 else -12 else -2
set_option maxHeartbeats 4000000 in
set_option maxRecDepth 100000 in
theorem c_X11_isOfKind (l : Launch) (d : Nat) (n : Nat) (hn : 110 ≤ n) (g : xG) (k : Nat) (hk : k < 6) (i : Int32)  : xC l yX11_isOfKind cX11_isOfKind 2 (some .boolean) (xR (d + 0) 0 0) [.ref (2 + k), .int i] (n, fh g) (qP (bI (ofK k i = true)) (n, fh g)) := by
  refine xC_of false (by decide +kernel) (fun z => by cases z) (Nat.le_of_ble_eq_true rfl) ?_
  show xJ l (RX11, 2, (some .boolean), false, (xR (d + 0) 0 0), none) cX11_isOfKind _ 0 0 0 [(0, .ref (2 + k)), (1, .int i)] [] (n, fh g)
  refine xj_iload_n (n := 1) (i := 1) 1 rfl rfl dX11_isOfKind_0 ?_
  by_cases zs1_0 : i = 0
  · refine xj_top zs1_0 ?_
    refine xj_tableIn (off := 39) (tgt := 40) dX11_isOfKind_1 (by decide) (by decide) rfl (by decide) ?_
    refine xj_iconst (v := 1) (by decide) dX11_isOfKind_40 ?_
    exact xj_ireturn rfl nr_b1 (Nat.zero_le _) (Nat.zero_le _) dX11_isOfKind_41 (qP_e (bI_t (decide_eq_true (Or.inl zs1_0))).symm)
  by_cases zs1_1 : i = 1
  · refine xj_top zs1_1 ?_
    refine xj_tableIn (off := 41) (tgt := 42) dX11_isOfKind_1 (by decide) (by decide) rfl (by decide) ?_
    refine xj_aload_n (n := 0) (i := 0) 0 rfl rfl dX11_isOfKind_42 ?_
    refine yj_inst14 k hk hn rfl dX11_isOfKind_43 ?_
    exact xj_ireturn rfl nr_b (Nat.zero_le _) (Nat.zero_le _) dX11_isOfKind_46 (qP_e (bI_e (by rw [zs1_1]; unfold ofK; rw [decide_eq_true_iff]; simp (decide := true))))
  by_cases zs1_2 : i = 2
  · refine xj_top zs1_2 ?_
    refine xj_tableIn (off := 46) (tgt := 47) dX11_isOfKind_1 (by decide) (by decide) rfl (by decide) ?_
    refine xj_aload_n (n := 0) (i := 0) 0 rfl rfl dX11_isOfKind_47 ?_
    refine yj_inst17 k hk hn rfl dX11_isOfKind_48 ?_
    exact xj_ireturn rfl nr_b (Nat.zero_le _) (Nat.zero_le _) dX11_isOfKind_51 (qP_e (bI_e (by rw [zs1_2]; unfold ofK; rw [decide_eq_true_iff]; simp (decide := true))))
  by_cases zs1_3 : i = 3
  · refine xj_top zs1_3 ?_
    refine xj_tableIn (off := 51) (tgt := 52) dX11_isOfKind_1 (by decide) (by decide) rfl (by decide) ?_
    refine xj_aload_n (n := 0) (i := 0) 0 rfl rfl dX11_isOfKind_52 ?_
    refine yj_inst20 k hk hn rfl dX11_isOfKind_53 ?_
    exact xj_ireturn rfl nr_b (Nat.zero_le _) (Nat.zero_le _) dX11_isOfKind_56 (qP_e (bI_e (by rw [zs1_3]; unfold ofK; rw [decide_eq_true_iff]; simp (decide := true))))
  by_cases zs1_4 : i = 4
  · refine xj_top zs1_4 ?_
    refine xj_tableIn (off := 56) (tgt := 57) dX11_isOfKind_1 (by decide) (by decide) rfl (by decide) ?_
    refine xj_aload_n (n := 0) (i := 0) 0 rfl rfl dX11_isOfKind_57 ?_
    refine yj_inst23 k hk hn rfl dX11_isOfKind_58 ?_
    exact xj_ireturn rfl nr_b (Nat.zero_le _) (Nat.zero_le _) dX11_isOfKind_61 (qP_e (bI_e (by rw [zs1_4]; unfold ofK; rw [decide_eq_true_iff]; simp (decide := true))))
  by_cases zs1_5 : i = 5
  · refine xj_top zs1_5 ?_
    refine xj_tableIn (off := 61) (tgt := 62) dX11_isOfKind_1 (by decide) (by decide) rfl (by decide) ?_
    refine xj_aload_n (n := 0) (i := 0) 0 rfl rfl dX11_isOfKind_62 ?_
    refine yj_inst26 k hk hn rfl dX11_isOfKind_63 ?_
    exact xj_ireturn rfl nr_b (Nat.zero_le _) (Nat.zero_le _) dX11_isOfKind_66 (qP_e (bI_e (by rw [zs1_5]; unfold ofK; rw [decide_eq_true_iff]; simp (decide := true))))
  have zo1_0 : i.toInt ≠ 0 := fun e => zs1_0 (Int32.toInt_inj.mp (e.trans rfl))
  have zo1_1 : i.toInt ≠ 1 := fun e => zs1_1 (Int32.toInt_inj.mp (e.trans rfl))
  have zo1_2 : i.toInt ≠ 2 := fun e => zs1_2 (Int32.toInt_inj.mp (e.trans rfl))
  have zo1_3 : i.toInt ≠ 3 := fun e => zs1_3 (Int32.toInt_inj.mp (e.trans rfl))
  have zo1_4 : i.toInt ≠ 4 := fun e => zs1_4 (Int32.toInt_inj.mp (e.trans rfl))
  have zo1_5 : i.toInt ≠ 5 := fun e => zs1_5 (Int32.toInt_inj.mp (e.trans rfl))
  refine xj_tableOut (tgt := 67) dX11_isOfKind_1 (by omega) (by decide) ?_
  refine xj_iconst (v := 0) (by decide) dX11_isOfKind_67 ?_
  exact xj_ireturn rfl nr_b0 (Nat.zero_le _) (Nat.zero_le _) dX11_isOfKind_68 (qP_e (bI_f (fun z => by have z := of_decide_eq_true z; simp_all)).symm)
set_option maxHeartbeats 4000000 in
set_option maxRecDepth 100000 in
theorem c_X11_taken (l : Launch) (d : Nat) (n : Nat) (g : xG) (A : zSt) (Λ : Nat → xL) (O : okA A) (C : cA g n A Λ) (i kind : Int32)  : xC l yX11_taken cX11_taken 3 (some .int) (xR (d + 2) 0 0) [.ref 0, .int i, .int kind] (n, fh g) (qI n fun v g1 => v = vTaken A i kind ∧ fr sX g g1) := by
  refine xC_of false (by decide +kernel) (fun z => by cases z) (Nat.le_of_ble_eq_true rfl) ?_
  have hn := C.n110 O
  have hS6 := O.1.2
  have hW := O.W
  have hT6 := O.2.2.2.1.2.2
  have hN9 := O.2.1.2
  show xJ l (RX11, 3, (some .int), false, (xR (d + 2) 0 0), none) cX11_taken _ 0 0 0 [(0, .ref 0), (1, .int i), (2, .int kind)] [] (n, fh g)
  refine xj_iload_n (n := 2) (i := 2) 2 rfl rfl dX11_taken_0 ?_
  refine xj_bipush (v := 6) (by decide) dX11_taken_1 ?_
  refine xj_callS ks_X11_107 (c_X11_within l (d + 1) kind 6 _) (As := [.int kind, .int 6]) (st := []) rfl rfl (xRm_of (by omega) (by decide) (by omega) (by omega)) (Nat.le_of_ble_eq_true rfl) dX11_taken_3 (yk_p (kc := 0) (ks := 0) ?_)
  refine xj_if_ne (tgt := 12) (by decide) dX11_taken_6 (fun zc6 => ?_) (fun zc6 => ?_)
  · have zp6 : 0 ≤ kind ∧ kind ≤ 6 := bI_n0.mp zc6
    obtain ⟨kkind, hkkind, rfl⟩ := nI_bnd (m := 6) (by decide) zp6.1 zp6.2
    refine xj_iload_n (n := 1) (i := 1) 1 rfl rfl dX11_taken_12 ?_
    refine xj_bipush (v := 11) (by decide) dX11_taken_13 ?_
    refine xj_callS ks_X11_107 (c_X11_within l (d + 1) i 11 _) (As := [.int i, .int 11]) (st := []) rfl rfl (xRm_of (by omega) (by decide) (by omega) (by omega)) (Nat.le_of_ble_eq_true rfl) dX11_taken_15 (yk_p (kc := 0) (ks := 0) ?_)
    refine xj_if_ne (tgt := 24) (by decide) dX11_taken_18 (fun zc18 => ?_) (fun zc18 => ?_)
    · have zp18 : 0 ≤ i ∧ i ≤ 11 := bI_n0.mp zc18
      obtain ⟨ki, hki, rfl⟩ := nI_bnd (m := 11) (by decide) zp18.1 zp18.2
      refine xj_aload_n (n := 0) (i := 0) 0 rfl rfl dX11_taken_24 ?_
      refine xj_iload_n (n := 1) (i := 1) 1 rfl rfl dX11_taken_25 ?_
      refine xj_bipush (v := 6) (by decide) dX11_taken_26 ?_
      refine xj_irem (by decide) dX11_taken_28 ?_
      refine xj_top (show nI ki - nI ki / 6 * 6 = nI (ki % 6) from pk_rem (a := ki) (d := 6) (by omega) (by omega) (by omega)) ?_
      refine xj_callV kv_X11_125 (c_X11_isSleeper l (d + 0) n g A Λ O C (nI (ki % 6))) (As := [.int (nI (ki % 6))]) (st := []) (by omega) (fq_0 g) (ci := 11) rfl rfl rfl rfl (xRm_of (by omega) (by decide) (by omega) (by omega)) (Nat.le_of_ble_eq_true rfl) dX11_taken_29 (yk_p (kc := 0) (ks := 0) ?_)
      refine xj_if_ne (tgt := 38) (by decide) dX11_taken_32 (fun zc32 => ?_) (fun zc32 => ?_)
      · have zp32 : isSl A (nI (ki % 6)) := bI_n0.mp zc32
        have hi6 : ki % 6 < aS A := by obtain ⟨z, hz, ez⟩ := isSl_of O zp32; rw [(nI_eq (by omega) (by omega)).mp ez]; exact hz
        refine xj_iload_n (n := 1) (i := 1) 1 rfl rfl dX11_taken_38 ?_
        refine xj_bipush (v := 6) (by decide) dX11_taken_39 ?_
        refine xj_icmp_lt (tgt := 68) (by decide) dX11_taken_41 (fun zc41 => ?_) (fun zc41 => ?_)
        · have hlt : ki < 6 := (nI_ltI (b := 6) (by omega) (by decide)).mp zc41
          have his : ki < aS A := by rw [Nat.mod_eq_of_lt hlt] at hi6; exact hi6
          have hs6_ki : ki < 6 := by omega
          refine xj_aload_n (n := 0) (i := 0) 0 rfl rfl dX11_taken_68 ?_
          refine yj_getf (v := .ref 8) fl_X11_37_11 (by omega) (fq_0 g) rfl dX11_taken_69 ?_
          refine xj_iload_n (n := 1) (i := 1) 1 rfl rfl dX11_taken_72 ?_
          refine yj_aaldN (m := 6) (a := 9 + 3 * ki) ki (by omega) (fq_8 g) (by decide) (by decide) rfl (by omega) (by decide) (if_pos (by omega)) dX11_taken_73 ?_
          refine yj_getf (v := .ref (2 + (aK A ki))) fl_X11_137_7 (by omega) ((fPn_r hs6_ki).2.2.1 (g (9 + 3 * ki))) (congrArg (fun z => some (Value.ref (2 + z))) (C.pane his).k) dX11_taken_74 ?_
          refine xj_iload_n (n := 2) (i := 2) 2 rfl rfl dX11_taken_77 ?_
          refine xj_callS ks_X11_274 (c_X11_isOfKind l (d + 1) n hn g (aK A ki) (O.k6 his) (nI kkind)) (As := [.ref (2 + (aK A ki)), .int (nI kkind)]) (st := []) rfl rfl (xRm_of (by omega) (by decide) (by omega) (by omega)) (Nat.le_of_ble_eq_true rfl) dX11_taken_78 (yk_p (kc := 0) (ks := 0) ?_)
          refine xj_if_eq (tgt := 88) (by decide) dX11_taken_81 (fun zc81 => ?_) (fun zc81 => ?_)
          · have zp81 : ¬ (ofK (aK A ki) (nI kkind) = true) := bI_0.mp zc81
            refine xj_bipush (v := (-13)) (by decide) dX11_taken_88 ?_
            exact xj_ireturn rfl (nr_i _) (Nat.zero_le _) (Nat.zero_le _) dX11_taken_90 (qI_e ⟨by unfold vTaken; (try simp only [nI_clamp (show kkind < 2147483648 by omega), nI_clamp (show ki < 2147483648 by omega)]); rw [if_pos zp6, if_pos zp18, if_pos zp32, if_pos zc41, if_neg zp81]; all_goals (rfl), fr.rf⟩)
          · have zp81 : ofK (aK A ki) (nI kkind) = true := bI_n0.mp zc81
            refine xj_iload_n (n := 1) (i := 1) 1 rfl rfl dX11_taken_84 ?_
            refine xj_goto (tgt := 90) (by decide) dX11_taken_85 ?_
            exact xj_ireturn rfl (nr_i _) (Nat.zero_le _) (Nat.zero_le _) dX11_taken_90 (qI_e ⟨by unfold vTaken; (try simp only [nI_clamp (show kkind < 2147483648 by omega), nI_clamp (show ki < 2147483648 by omega)]); rw [if_pos zp6, if_pos zp18, if_pos zp32, if_pos zc41, if_pos zp81]; all_goals (rfl), fr.rf⟩)
        · have hge : 6 ≤ ki := Nat.le_of_not_lt (fun z => zc41 (nI_lt z (by decide)))
          have e6 : ki % 6 = ki - 6 := by omega
          have his : ki - 6 < aS A := e6 ▸ hi6
          have h66 : ki - 6 < 6 := by omega
          refine xj_iload_n (n := 2) (i := 2) 2 rfl rfl dX11_taken_44 ?_
          refine xj_bipush (v := 6) (by decide) dX11_taken_45 ?_
          refine xj_icmp_ne (tgt := 65) (by decide) dX11_taken_47 (fun zc47 => ?_) (fun zc47 => ?_)
          · refine xj_bipush (v := (-13)) (by decide) dX11_taken_65 ?_
            exact xj_ireturn rfl (nr_i _) (Nat.zero_le _) (Nat.zero_le _) dX11_taken_67 (qI_e ⟨by unfold vTaken; (try simp only [nI_clamp (show kkind < 2147483648 by omega), nI_clamp (show ki < 2147483648 by omega)]); rw [if_pos zp6, if_pos zp18, if_pos zp32, if_neg zc41, if_neg zc47]; all_goals (rfl), fr.rf⟩)
          · refine xj_aload_n (n := 0) (i := 0) 0 rfl rfl dX11_taken_50 ?_
            refine yj_getf (v := .ref 8) fl_X11_37_11 (by omega) (fq_0 g) rfl dX11_taken_51 ?_
            refine xj_iload_n (n := 1) (i := 1) 1 rfl rfl dX11_taken_54 ?_
            refine xj_bipush (v := 6) (by decide) dX11_taken_55 ?_
            refine xj_isub dX11_taken_57 ?_
            refine yj_aaldN (m := 6) (a := 9 + 3 * (ki - 6)) (ki - 6) (by omega) (fq_8 g) (by decide) (by decide) (pk_sub (a := ki) (b := 6) hge) (by omega) (by decide) (if_pos (by omega)) dX11_taken_58 ?_
            refine yj_getf (v := .int ((A 3 (ki - 6)))) fl_X11_144_7 (by omega) ((fPn_r h66).2.2.1 (g (9 + 3 * (ki - 6)))) (congrArg (fun z => some (Value.int z)) (C.pane his).2.2.1) dX11_taken_59 ?_
            refine xj_goto (tgt := 67) (by decide) dX11_taken_62 ?_
            exact xj_ireturn rfl (nr_i _) (Nat.zero_le _) (Nat.zero_le _) dX11_taken_67 (qI_e ⟨by unfold vTaken; (try simp only [nI_clamp (show kkind < 2147483648 by omega), nI_clamp (show ki < 2147483648 by omega)]); rw [if_pos zp6, if_pos zp18, if_pos zp32, if_neg zc41, if_pos zc47]; all_goals (rfl), fr.rf⟩)
      · have zp32 : ¬ (isSl A (nI (ki % 6))) := bI_0.mp zc32
        refine xj_bipush (v := (-11)) (by decide) dX11_taken_35 ?_
        exact xj_ireturn rfl (nr_i _) (Nat.zero_le _) (Nat.zero_le _) dX11_taken_37 (qI_e ⟨by unfold vTaken; (try simp only [nI_clamp (show kkind < 2147483648 by omega), nI_clamp (show ki < 2147483648 by omega)]); rw [if_pos zp6, if_pos zp18, if_neg zp32]; all_goals (rfl), fr.rf⟩)
    · have zp18 : ¬ (0 ≤ i ∧ i ≤ 11) := bI_0.mp zc18
      refine xj_bipush (v := (-12)) (by decide) dX11_taken_21 ?_
      exact xj_ireturn rfl (nr_i _) (Nat.zero_le _) (Nat.zero_le _) dX11_taken_23 (qI_e ⟨by unfold vTaken; (try simp only [nI_clamp (show kkind < 2147483648 by omega)]); rw [if_pos zp6, if_neg zp18]; all_goals (rfl), fr.rf⟩)
  · have zp6 : ¬ (0 ≤ kind ∧ kind ≤ 6) := bI_0.mp zc6
    refine xj_bipush (v := (-2)) (by decide) dX11_taken_9 ?_
    exact xj_ireturn rfl (nr_i _) (Nat.zero_le _) (Nat.zero_le _) dX11_taken_11 (qI_e ⟨by unfold vTaken; rw [if_neg zp6]; all_goals (rfl), fr.rf⟩)
