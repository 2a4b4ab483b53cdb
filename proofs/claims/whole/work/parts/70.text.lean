/-! THE STRING CONSTANT, COPIES OF ROWS: rules -/
section XS
variable {l : Launch} {M : xM} {cc : ByteArray} {Q : Option Value → xH → Prop} {kc ks pc : Nat} {lv : List (Nat × Value)} {st stk : List Value} {h : xH}
theorem xj_ldcS (hM : M.1 = RX9) (d : decode cc pc = .ok (.ldc 100, 2)) (kk : xJ l M cc Q kc ks (pc + 2) lv (.ref xN :: st) h) : xJ l M cc Q kc ks pc lv st h := by
  intro p e s m args below meth c D aC ad b0 H locs ls Z C R L E
  have hT := C.2.2.2.2.2.2.2.2.2.2.1
  exact va_ldcS C.1 C.2.1 C.2.2.2.2.2.2.1 (tx := xWords) (q := ad xN) (by rw [hM]; exact hT.2.2.2.1) d (kk p e s m args below meth c D aC ad b0 H locs ls Z C R L E)
theorem xj_strV {idx : Nat} (w : Cond.fieldLink M.1 idx "java/lang/String" "value" "[B" ∈ xW) (d : decode cc pc = .ok (.getfield idx, 3)) (kk : xJ l M cc Q kc ks (pc + 3) lv (.ref (xN + 1) :: st) h) : xJ l M cc Q kc ks pc lv (.ref xN :: st) h := by
  intro p e s m args below meth c D aC ad b0 H locs ls Z C R L E
  have hT := C.2.2.2.2.2.2.2.2.2.2.1
  exact vk_getf C.1 C.2.1 (hT.2.2.2.2.1.1 0 (by decide)).2.2.1 R.2.2.1 C.2.2.2.2.2.2.1 (C.2.2.2.2.2.2.2.1 _ w) (fun _ z => z) d (kk p e s m args below meth c D aC ad b0 H locs ls Z C R L E)
theorem xj_strC {idx : Nat} (w : Cond.fieldLink M.1 idx "java/lang/String" "coder" "B" ∈ xW) (d : decode cc pc = .ok (.getfield idx, 3)) (kk : xJ l M cc Q kc ks (pc + 3) lv (.int 0 :: st) h) : xJ l M cc Q kc ks pc lv (.ref xN :: st) h := by
  intro p e s m args below meth c D aC ad b0 H locs ls Z C R L E
  have hT := C.2.2.2.2.2.2.2.2.2.2.1
  exact vk_getf C.1 C.2.1 (hT.2.2.2.2.1.1 0 (by decide)).2.1 R.2.2.1 C.2.2.2.2.2.2.1 (C.2.2.2.2.2.2.2.1 _ w) (fun _ z => z) d (kk p e s m args below meth c D aC ad b0 H locs ls Z C R L E)
theorem xj_strL (d : decode cc pc = .ok (.arraylength, 1)) (kk : xJ l M cc Q kc ks (pc + 1) lv (.int 63 :: st) h) : xJ l M cc Q kc ks pc lv (.ref (xN + 1) :: st) h := by
  intro p e s m args below meth c D aC ad b0 H locs ls Z C R L E
  have hT := C.2.2.2.2.2.2.2.2.2.2.1
  exact va_tlen C.1 C.2.1 (hT.2.2.2.2.1.1 0 (by decide)).2.2.2 R.2.2.1 rfl d (kk p e s m args below meth c D aC ad b0 H locs ls Z C R L E)
theorem xj_strB {i : Int32} (hi : vp_in i 63) (d : decode cc pc = .ok (.baload, 1)) (kk : xJ l M cc Q kc ks (pc + 1) lv (.int (xBytes.getD i.toNatClampNeg 0) :: st) h) : xJ l M cc Q kc ks pc lv (.int i :: .ref (xN + 1) :: st) h := by
  intro p e s m args below meth c D aC ad b0 H locs ls Z C R L E
  have hT := C.2.2.2.2.2.2.2.2.2.2.1
  exact va_tb C.1 C.2.1 (hT.2.2.2.2.1.1 0 (by decide)).2.2.2 R.2.2.1 hi rfl d (kk p e s m args below meth c D aC ad b0 H locs ls Z C R L E)
theorem xj_comp {idx : Nat} (w : Cond.fieldLink M.1 idx "java/lang/String" "COMPACT_STRINGS" "Z" ∈ xW) (d : decode cc pc = .ok (.getstatic idx, 3)) (kk : xJ l M cc Q kc ks (pc + 3) lv (.int 1 :: st) h) : xJ l M cc Q kc ks pc lv st h := by
  intro p e s m args below meth c D aC ad b0 H locs ls Z C R L E
  have hT := C.2.2.2.2.2.2.2.2.2.2.1
  exact va_gets C.1 C.2.1 hT.2.2.2.2.2.1 R.2.2.1 C.2.2.2.2.2.2.1 (C.2.2.2.2.2.2.2.1 _ w) (fun _ z => z) d (kk p e s m args below meth c D aC ad b0 H locs ls Z C R L E)
theorem xj_form {idx : Nat} (w : Cond.fieldLink M.1 idx "jdk/internal/util/Preconditions" "SIOOBE_FORMATTER" "Ljava/util/function/BiFunction;" ∈ xW) (d : decode cc pc = .ok (.getstatic idx, 3)) (kk : ∀ v, (v = .null ∨ v = .ref (xN + 2)) → xJ l M cc Q kc ks (pc + 3) lv (v :: st) h) : xJ l M cc Q kc ks pc lv st h := by
  intro p e s m args below meth c D aC ad b0 H locs ls Z C R L E
  have hT := C.2.2.2.2.2.2.2.2.2.2.1
  rcases hT.2.2.2.2.2.2 with g | g
  · exact va_gets C.1 C.2.1 g R.2.2.1 C.2.2.2.2.2.2.1 (C.2.2.2.2.2.2.2.1 _ w) (fun _ z => z) d (kk .null (Or.inl rfl) p e s m args below meth c D aC ad b0 H locs ls Z C R L E)
  · exact va_gets C.1 C.2.1 g R.2.2.1 C.2.2.2.2.2.2.1 (C.2.2.2.2.2.2.2.1 _ w) (fun _ z => z) d (kk (.ref (xN + 2)) (Or.inr rfl) p e s m args below meth c D aC ad b0 H locs ls Z C R L E)
theorem xj_callVK {idx n nL' : Nat} {y : MethodName} {cc' : ByteArray} {ret' : Option FieldType} {R' : Room} {As : List Value} {Q1 : Option Value → xH → Prop} (K : xKv M.1 idx y cc' nL' ret' n) (hC : xC l y cc' nL' ret' R' (.ref xN :: As) h Q1) (hx : y.cls = "java/lang/String") (hs : stk = As.reverse ++ .ref xN :: st) (hn : As.length = n) (hR : xRm M.2.2.2.2.1 R' nL' kc ks) (hst : (st.map fun v => v.category).sum ≤ 8) (d : decode cc pc = .ok (.invokevirtual idx, 3))
    (kk : ∀ (r : Option Value) (h1 : xH), Q1 r h1 → xJ l M cc Q (kc + R'.cells) (ks + R'.slots) (pc + 3) lv (r.toList ++ st) h1) : xJ l M cc Q kc ks pc lv stk h := by
  intro p e s m args below meth c D aC ad b0 H locs ls Z C R L E
  subst hs
  obtain ⟨k1, k2, k3, k4, k5, k6⟩ := K
  have hts := C.2.2.2.2.2.2.2.1
  have hT := C.2.2.2.2.2.2.2.2.2.2.1
  rw [x_stk]
  refine xj_run (a := (Value.ref (ad xN) :: As.map (x_v ad)).toArray) C R L E (va_runV (C := y.cls) (b := ad xN) (As := As.map (x_v ad)) (Ts := xW) ⟨C.1, C.2.1, C.2.2.1, C.2.2.2.2.2.2.1, hts⟩ (hC D aC ad b0 C.2.2.2.2.2.2.2.2.2.1) ⟨callB_of n hts (x_code k5) rfl rfl rfl (hts _ k4) (hts _ k1) k6 ⟨hR.1, hR.2.1⟩, hts _ k2, hts _ k3⟩ ⟨x_blind, ?_, fun U hU hW => x_pre (As := .ref xN :: As) C R U hU hW⟩ rfl (by rw [List.length_map]; exact hn) L.1 rfl ?_ d hR.2.2) kk
  · rw [hx]
    exact vk_recv hT.2.2.2.2.1 (i := 0) (by decide) R.2.2.1
  · exact lv_room (by rw [x_v_cats]; exact hst)
theorem xj_clone {idx q n : Nat} {f : Nat → Int32} (hn : q < h.1) (hq : h.2 q = .inl (n, f)) (w1 : Cond.methodLink M.1 idx ⟨"[I", "clone", "()Ljava/lang/Object;"⟩ ∈ xW) (w2 : Cond.sameMethod "[I" "java/lang/Object" "clone" "()Ljava/lang/Object;" ∈ xW) (w3 : Cond.native ⟨"java/lang/Object", "clone", "()Ljava/lang/Object;"⟩ ∈ xW) (w4 : Cond.instanceMethod ⟨"java/lang/Object", "clone", "()Ljava/lang/Object;"⟩ ∈ xW) (w5 : Cond.selects "[I" ⟨"[I", "clone", "()Ljava/lang/Object;"⟩ ⟨"java/lang/Object", "clone", "()Ljava/lang/Object;"⟩ ∈ xW) (hx : h.1 < xN) (hst : (st.map fun v => v.category).sum ≤ 8) (hR : 1 ≤ M.2.2.2.2.1.frames ∧ 22 ≤ M.2.2.2.2.1.locals) (hcells : kc + 1 ≤ M.2.2.2.2.1.cells) (hslots : ks + n ≤ M.2.2.2.2.1.slots) (d : decode cc pc = .ok (.invokevirtual idx, 3)) (kk : xJ l M cc Q (kc + 1) (ks + n) (pc + 3) lv (.ref h.1 :: st) (h.1 + 1, va_up h.2 h.1 (.inl (n, f)))) : xJ l M cc Q kc ks pc lv (.ref q :: st) h := by
  intro p e s m args below meth c D aC ad b0 H locs ls Z C R L E
  have hts := C.2.2.2.2.2.2.2.1
  have ha := C.2.2.2.2.2.2.2.2.2.1
  have hT := C.2.2.2.2.2.2.2.2.2.2.1
  have had : ad h.1 = H.size := by rw [ha _ hx, R.2.2.2.1]
  have he : (x_ws aC ad h)[q]? = some (ad q, .inl (aC 0, (n, .inl f))) := by rw [x_ws_get hn, hq]; rfl
  have hnm : s.vm.findClass "[I" = some (aC 0) := (R.1.2 0 _ rfl).2
  have hcl : va_Nw (.castable "[I" "java/lang/Cloneable") s := hT.1 _ (by simp [xNw])
  obtain ⟨c0, t0, f1, f2, f3⟩ := Cond.castable_spec (va_Nw.use (A := args) rfl hcl)
  cases hnm.symm.trans f1
  intro T hT2 X
  have hsrc : T.heap[ad q]? = some (vp_cell (aC 0) (n, .inl f)) := by rw [hT2]; exact R.2.1 q _ he
  obtain ⟨-, kA, hkA, comp, hkind⟩ := State.isArrayOf_alike X.warmed.alike ((R.1.2 0 _ rfl).1 0 (fun _ => .null))
  obtain ⟨-, kS, hkS, compS, hkindS⟩ := (R.1.2 0 _ rfl).1 0 (fun _ => .null)
  have hcat : ((st.map (x_v ad)).map fun v => v.category).sum ≤ 8 := by rw [x_v_cats]; exact hst
  have hsz : (vp_cell (aC 0) (n, .inl f)).slots.size = n := arrV_size _ _ _
  obtain ⟨vm', X', stp⟩ := X.cloneArray C.1 C.2.2.2.2.2.2.1 (hts _ w1) (hts _ w2) (hts _ w3) (hts _ w4) (hts _ w5) (a := ad q) (cell := vp_cell (aC 0) (n, .inl f)) hsrc (fun k z => by cases z) (fun z => by cases z) hnm f2 f3
    (fun i v hv => by
      have hi : i < n := by
        have h1 := (Array.getElem?_eq_some_iff.mp hv).1
        rwa [hsz] at h1
      rw [show (vp_cell (aC 0) (n, .inl f)).slots[i]? = some (.int (f i)) from arrV_read _ _ hi] at hv
      cases hv
      have hk2 : T.vm.classes[aC 0]? = some kA := hkA
      have hcls : (vp_cell (aC 0) (n, .inl f)).cls = aC 0 := rfl
      rw [hcls]
      simp [State.fitsSlot, State.slotType?, hk2, hkind, fits])
    (g := F0 m pc ls (.ref (ad q) :: st.map (x_v ad))) rfl (L.1.trans C.2.2.1.symm) rfl (by rw [C.2.1]; exact d) hR.1 (by show 2 * 0 + _ + 14 ≤ _; omega) hcells (by rw [hsz]; exact hslots) (hloader := Vm.clonesLoader_of_array hkS hkindS)
  rw [hsz] at X'
  obtain ⟨H1, hH1⟩ : ∃ H1, H1 = H.push (vp_cell (aC 0) (n, .inl f)) := ⟨_, rfl⟩
  have z1 : H1.size = H.size + 1 := by rw [hH1, Array.size_push]
  have e1 : H1[H.size]? = some (vp_cell (aC 0) (n, .inl f)) := by rw [hH1, Array.getElem?_push_size]
  have o1 : ∀ x : Nat, x < H.size → H1[x]? = H[x]? := fun x hx2 => by rw [hH1, Array.getElem?_push, if_neg (Nat.ne_of_lt hx2)]
  have R1 := R.push (e := .inl (n, f)) ha hx z1 o1 (by rw [had]; exact e1)
  obtain ⟨t, b1, b2⟩ := kk p e s m args below meth c D aC ad b0 H1 locs ls Z C R1 L E ((T.setVm vm').pushCell (vp_cell (aC 0) (n, .inl f))) (by rw [hH1, ← hT2]; rfl) X'
  refine ⟨t, stp t ?_, b2⟩
  rw [hT2, ← had]
  exact b1
theorem xj_castI {idx q n : Nat} {f : Nat → Int32} (hn : q < h.1) (hq : h.2 q = .inl (n, f)) (w : Cond.classLink M.1 idx "[I" ∈ xW) (d : decode cc pc = .ok (.checkcast idx, 3)) (kk : xJ l M cc Q kc ks (pc + 3) lv (.ref q :: st) h) : xJ l M cc Q kc ks pc lv (.ref q :: st) h := by
  intro p e s m args below meth c D aC ad b0 H locs ls Z C R L E
  have he : (x_ws aC ad h)[q]? = some (ad q, .inl (aC 0, (n, .inl f))) := by rw [x_ws_get hn, hq]; rfl
  exact va_castA C.1 C.2.1 C.2.2.2.2.2.2.1 (C.2.2.2.2.2.2.2.1 _ w) R.2.1 q he (R.1.2 0 _ rfl).2 d (kk p e s m args below meth c D aC ad b0 H locs ls Z C R L E)
end XS
theorem xw1270 : Cond.fieldLink RJ0 9 "java/lang/String" "value" "[B" ∈ xW := xW_of (xtb6 (List.mem_of_getElem? (i := 15) rfl)) rfl
theorem xw1271 : Cond.fieldLink RJ0 15 "java/lang/String" "coder" "B" ∈ xW := xW_of (xtb6 (List.mem_of_getElem? (i := 16) rfl)) rfl
theorem xw358 : Cond.fieldLink RJ0 38 "java/lang/String" "COMPACT_STRINGS" "Z" ∈ xW := xW_of (xtb2 (List.mem_of_getElem? (i := 63) rfl)) rfl
theorem xw374 : Cond.fieldLink RJ0 1053 "jdk/internal/util/Preconditions" "SIOOBE_FORMATTER" "Ljava/util/function/BiFunction;" ∈ xW := xW_of (xtb2 (List.mem_of_getElem? (i := 79) rfl)) rfl
theorem xw453 : Cond.sameMethod "[I" "java/lang/Object" "clone" "()Ljava/lang/Object;" ∈ xW := xW_of (xtb2 (List.mem_of_getElem? (i := 158) rfl)) rfl
theorem xw454 : Cond.native ⟨"java/lang/Object", "clone", "()Ljava/lang/Object;"⟩ ∈ xW := xW_of (xtb2 (List.mem_of_getElem? (i := 159) rfl)) rfl
theorem xw455 : Cond.instanceMethod ⟨"java/lang/Object", "clone", "()Ljava/lang/Object;"⟩ ∈ xW := xW_of (xtb2 (List.mem_of_getElem? (i := 160) rfl)) rfl
theorem xw456 : Cond.selects "[I" ⟨"[I", "clone", "()Ljava/lang/Object;"⟩ ⟨"java/lang/Object", "clone", "()Ljava/lang/Object;"⟩ ∈ xW := xW_of (xtb2 (List.mem_of_getElem? (i := 161) rfl)) rfl
theorem xw458 : Cond.classLink RJ7 317 "[I" ∈ xW := xW_of (xtb2 (List.mem_of_getElem? (i := 163) rfl)) rfl
theorem xw466 : Cond.classLink RX9 56 "[I" ∈ xW := xW_of (xtb2 (List.mem_of_getElem? (i := 171) rfl)) rfl
set_option maxHeartbeats 4000000 in
set_option maxRecDepth 100000 in
theorem c_J0_coder_7d493 (l : Launch) (d : Nat) (h : xH)  : xC l yJ0_coder_7d493 cJ0_coder_7d493 1 (some .byte) (xR (d + 0) 0 0) [.ref xN] h (qP 0 h) := by
  refine xC_of false (by decide +kernel) (fun z => by cases z) (Nat.le_of_ble_eq_true rfl) ?_
  show xJ l (RJ0, 1, (some .byte), false, (xR (d + 0) 0 0), none) cJ0_coder_7d493 _ 0 0 0 [(0, .ref xN)] [] h
  refine xj_comp xw358 dJ0_coder_7d493_0 ?_
  refine xj_if_eq (tgt := 13) (by decide) dJ0_coder_7d493_3 (fun zc3 => ?_) (fun zc3 => ?_)
  · exact absurd zc3 (by decide)
  · refine xj_aload_n (n := 0) (i := 0) 0 rfl rfl dJ0_coder_7d493_6 ?_
    refine xj_strC xw1271 dJ0_coder_7d493_7 ?_
    refine xj_goto (tgt := 14) (by decide) dJ0_coder_7d493_10 ?_
    exact xj_ireturn rfl nr_b0 (Nat.zero_le _) (Nat.zero_le _) dJ0_coder_7d493_14 (qP_e rfl)
set_option maxHeartbeats 4000000 in
set_option maxRecDepth 100000 in
theorem c_J0_isLatin1_aae02 (l : Launch) (d : Nat) (h : xH)  : xC l yJ0_isLatin1_aae02 cJ0_isLatin1_aae02 1 (some .boolean) (xR (d + 0) 0 0) [.ref xN] h (qP 1 h) := by
  refine xC_of false (by decide +kernel) (fun z => by cases z) (Nat.le_of_ble_eq_true rfl) ?_
  show xJ l (RJ0, 1, (some .boolean), false, (xR (d + 0) 0 0), none) cJ0_isLatin1_aae02 _ 0 0 0 [(0, .ref xN)] [] h
  refine xj_comp xw358 dJ0_isLatin1_aae02_0 ?_
  refine xj_if_eq (tgt := 17) (by decide) dJ0_isLatin1_aae02_3 (fun zc3 => ?_) (fun zc3 => ?_)
  · exact absurd zc3 (by decide)
  · refine xj_aload_n (n := 0) (i := 0) 0 rfl rfl dJ0_isLatin1_aae02_6 ?_
    refine xj_strC xw1271 dJ0_isLatin1_aae02_7 ?_
    refine xj_if_ne (tgt := 17) (by decide) dJ0_isLatin1_aae02_10 (fun zc10 => ?_) (fun zc10 => ?_)
    · exact absurd zc10 (fun z => z rfl)
    · refine xj_iconst (v := 1) (by decide) dJ0_isLatin1_aae02_13 ?_
      refine xj_goto (tgt := 18) (by decide) dJ0_isLatin1_aae02_14 ?_
      exact xj_ireturn rfl nr_b1 (Nat.zero_le _) (Nat.zero_le _) dJ0_isLatin1_aae02_18 (qP_e rfl)
set_option maxHeartbeats 4000000 in
set_option maxRecDepth 100000 in
theorem c_J0_length_8abf5 (l : Launch) (d : Nat) (h : xH)  : xC l yJ0_length_8abf5 cJ0_length_8abf5 1 (some .int) (xR (d + 1) 0 0) [.ref xN] h (qP 63 h) := by
  refine xC_of false (by decide +kernel) (fun z => by cases z) (Nat.le_of_ble_eq_true rfl) ?_
  show xJ l (RJ0, 1, (some .int), false, (xR (d + 1) 0 0), none) cJ0_length_8abf5 _ 0 0 0 [(0, .ref xN)] [] h
  refine xj_aload_n (n := 0) (i := 0) 0 rfl rfl dJ0_length_8abf5_0 ?_
  refine xj_strV xw1270 dJ0_length_8abf5_1 ?_
  refine xj_strL dJ0_length_8abf5_4 ?_
  refine xj_aload_n (n := 0) (i := 0) 0 rfl rfl dJ0_length_8abf5_5 ?_
  refine xj_callVK kv_J0_335 (c_J0_coder_7d493 l (d + 0) _) (As := []) (st := [.int 63]) rfl rfl rfl (xRm_of (by omega) (by decide) (by omega) (by omega)) (Nat.le_of_ble_eq_true rfl) dJ0_length_8abf5_6 (yk_p (kc := 0) (ks := 0) ?_)
  refine xj_ishr dJ0_length_8abf5_9 ?_
  exact xj_ireturn rfl (nr_i _) (Nat.zero_le _) (Nat.zero_le _) dJ0_length_8abf5_10 (qP_e (by decide))
set_option maxHeartbeats 4000000 in
set_option maxRecDepth 100000 in
theorem c_J3_checkIndex_8e157_N (l : Launch) (d : Nat) (i : Nat) (hi : i < 63) (h : xH)  : xC l yJ3_checkIndex_8e157 cJ3_checkIndex_8e157 3 (some .int) (xR (d + 0) 0 0) [.int (nI i), .int 63, .null] h (qP (nI i) h) := by
  refine xC_of false (by decide +kernel) (fun z => by cases z) (Nat.le_of_ble_eq_true rfl) ?_
  show xJ l (RJ3, 3, (some .int), false, (xR (d + 0) 0 0), none) cJ3_checkIndex_8e157 _ 0 0 0 [(0, .int (nI i)), (1, .int 63), (2, .null)] [] h
  refine xj_iload_n (n := 0) (i := 0) 0 rfl rfl dJ3_checkIndex_8e157_0 ?_
  refine xj_if_lt (tgt := 9) (by decide) dJ3_checkIndex_8e157_1 (fun zc1 => ?_) (fun zc1 => ?_)
  · exact absurd zc1 (nI_pos (by omega))
  · refine xj_iload_n (n := 0) (i := 0) 0 rfl rfl dJ3_checkIndex_8e157_4 ?_
    refine xj_iload_n (n := 1) (i := 1) 1 rfl rfl dJ3_checkIndex_8e157_5 ?_
    refine xj_icmp_lt (tgt := 16) (by decide) dJ3_checkIndex_8e157_6 (fun zc6 => ?_) (fun zc6 => ?_)
    · refine xj_iload_n (n := 0) (i := 0) 0 rfl rfl dJ3_checkIndex_8e157_16 ?_
      exact xj_ireturn rfl (nr_i _) (Nat.zero_le _) (Nat.zero_le _) dJ3_checkIndex_8e157_17 (qP_e rfl)
    · exact absurd (nI_lt (b := 63) hi (by decide)) zc6
set_option maxHeartbeats 4000000 in
set_option maxRecDepth 100000 in
theorem c_J3_checkIndex_8e157_R (l : Launch) (d : Nat) (i : Nat) (hi : i < 63) (h : xH)  : xC l yJ3_checkIndex_8e157 cJ3_checkIndex_8e157 3 (some .int) (xR (d + 0) 0 0) [.int (nI i), .int 63, .ref (xN + 2)] h (qP (nI i) h) := by
  refine xC_of false (by decide +kernel) (fun z => by cases z) (Nat.le_of_ble_eq_true rfl) ?_
  show xJ l (RJ3, 3, (some .int), false, (xR (d + 0) 0 0), none) cJ3_checkIndex_8e157 _ 0 0 0 [(0, .int (nI i)), (1, .int 63), (2, .ref (xN + 2))] [] h
  refine xj_iload_n (n := 0) (i := 0) 0 rfl rfl dJ3_checkIndex_8e157_0 ?_
  refine xj_if_lt (tgt := 9) (by decide) dJ3_checkIndex_8e157_1 (fun zc1 => ?_) (fun zc1 => ?_)
  · exact absurd zc1 (nI_pos (by omega))
  · refine xj_iload_n (n := 0) (i := 0) 0 rfl rfl dJ3_checkIndex_8e157_4 ?_
    refine xj_iload_n (n := 1) (i := 1) 1 rfl rfl dJ3_checkIndex_8e157_5 ?_
    refine xj_icmp_lt (tgt := 16) (by decide) dJ3_checkIndex_8e157_6 (fun zc6 => ?_) (fun zc6 => ?_)
    · refine xj_iload_n (n := 0) (i := 0) 0 rfl rfl dJ3_checkIndex_8e157_16 ?_
      exact xj_ireturn rfl (nr_i _) (Nat.zero_le _) (Nat.zero_le _) dJ3_checkIndex_8e157_17 (qP_e rfl)
    · exact absurd (nI_lt (b := 63) hi (by decide)) zc6
def qPV (h : xH) : Option Value → xH → Prop := fun r h1 => r = none ∧ h1 = h
section XV
variable {l : Launch} {M : xM} {cc : ByteArray} {Q : Option Value → xH → Prop} {kc ks pc : Nat} {lv : List (Nat × Value)} {st : List Value}
theorem yk_pv {h : xH} (kk : xJ l M cc Q kc ks pc lv st h) : ∀ (r : Option Value) (h1 : xH), qPV h r h1 → xJ l M cc Q kc ks pc lv (r.toList ++ st) h1 := by
  rintro _ _ ⟨rfl, rfl⟩
  exact kk
end XV
set_option maxHeartbeats 4000000 in
set_option maxRecDepth 100000 in
theorem c_J0_checkIndex_df160 (l : Launch) (d : Nat) (i : Nat) (hi : i < 63) (h : xH)  : xC l yJ0_checkIndex_df160 cJ0_checkIndex_df160 2 none (xR (d + 1) 0 0) [.int (nI i), .int 63] h (qPV h) := by
  refine xC_of false (by decide +kernel) (fun z => by cases z) (Nat.le_of_ble_eq_true rfl) ?_
  show xJ l (RJ0, 2, none, false, (xR (d + 1) 0 0), none) cJ0_checkIndex_df160 _ 0 0 0 [(0, .int (nI i)), (1, .int 63)] [] h
  refine xj_iload_n (n := 0) (i := 0) 0 rfl rfl dJ0_checkIndex_df160_0 ?_
  refine xj_iload_n (n := 1) (i := 1) 1 rfl rfl dJ0_checkIndex_df160_1 ?_
  refine xj_form xw374 dJ0_checkIndex_df160_2 fun zf hzf => ?_
  rcases hzf with rfl | rfl
  · refine xj_callS ks_J0_1059 (c_J3_checkIndex_8e157_N l (d + 0) i hi _) (As := [.int (nI i), .int 63, .null]) (st := []) rfl rfl (xRm_of (by omega) (by decide) (by omega) (by omega)) (Nat.le_of_ble_eq_true rfl) dJ0_checkIndex_df160_5 (yk_p (kc := 0) (ks := 0) ?_)
    refine xj_pop rfl dJ0_checkIndex_df160_8 ?_
    exact xj_return rfl (Nat.zero_le _) (Nat.zero_le _) dJ0_checkIndex_df160_9 (⟨rfl, rfl⟩)
  · refine xj_callS ks_J0_1059 (c_J3_checkIndex_8e157_R l (d + 0) i hi _) (As := [.int (nI i), .int 63, .ref (xN + 2)]) (st := []) rfl rfl (xRm_of (by omega) (by decide) (by omega) (by omega)) (Nat.le_of_ble_eq_true rfl) dJ0_checkIndex_df160_5 (yk_p (kc := 0) (ks := 0) ?_)
    refine xj_pop rfl dJ0_checkIndex_df160_8 ?_
    exact xj_return rfl (Nat.zero_le _) (Nat.zero_le _) dJ0_checkIndex_df160_9 (⟨rfl, rfl⟩)
theorem xb_all : ∀ i, i < 63 → ((((xBytes.getD (nI i).toNatClampNeg 0) &&& 255).toUInt32 % 65536).toInt32 = xBytes.getD i 0 ∧ narrow .char (.int (xBytes.getD i 0)) = .int (xBytes.getD i 0)) := by decide +kernel
theorem xb_c (i : Nat) (hi : i < 63) : (((xBytes.getD (nI i).toNatClampNeg 0) &&& 255).toUInt32 % 65536).toInt32 = xBytes.getD i 0 := (xb_all i hi).1
theorem xb_n (i : Nat) (hi : i < 63) : narrow .char (.int (xBytes.getD i 0)) = .int (xBytes.getD i 0) := (xb_all i hi).2
set_option maxHeartbeats 4000000 in
set_option maxRecDepth 100000 in
theorem c_J1_charAt_3b067 (l : Launch) (d : Nat) (i : Nat) (hi : i < 63) (h : xH)  : xC l yJ1_charAt_3b067 cJ1_charAt_3b067 2 (some .char) (xR (d + 2) 0 0) [.ref (xN + 1), .int (nI i)] h (qP (xBytes.getD i 0) h) := by
  refine xC_of false (by decide +kernel) (fun z => by cases z) (Nat.le_of_ble_eq_true rfl) ?_
  show xJ l (RJ1, 2, (some .char), false, (xR (d + 2) 0 0), none) cJ1_charAt_3b067 _ 0 0 0 [(0, .ref (xN + 1)), (1, .int (nI i))] [] h
  refine xj_iload_n (n := 1) (i := 1) 1 rfl rfl dJ1_charAt_3b067_0 ?_
  refine xj_aload_n (n := 0) (i := 0) 0 rfl rfl dJ1_charAt_3b067_1 ?_
  refine xj_strL dJ1_charAt_3b067_2 ?_
  refine xj_callS ks_J1_9 (c_J0_checkIndex_df160 l (d + 0) i hi _) (As := [.int (nI i), .int 63]) (st := []) rfl rfl (xRm_of (by omega) (by decide) (by omega) (by omega)) (Nat.le_of_ble_eq_true rfl) dJ1_charAt_3b067_3 (yk_pv (kc := 0) (ks := 0) ?_)
  refine xj_aload_n (n := 0) (i := 0) 0 rfl rfl dJ1_charAt_3b067_6 ?_
  refine xj_iload_n (n := 1) (i := 1) 1 rfl rfl dJ1_charAt_3b067_7 ?_
  refine xj_strB (vp_in_nI hi (by decide)) dJ1_charAt_3b067_8 ?_
  refine xj_sipush (v := 255) (by decide) dJ1_charAt_3b067_9 ?_
  refine xj_iand dJ1_charAt_3b067_12 ?_
  refine xj_i2c dJ1_charAt_3b067_13 ?_
  exact xj_ireturn rfl (by rw [xb_c i hi]; exact xb_n i hi) (Nat.zero_le _) (Nat.zero_le _) dJ1_charAt_3b067_14 (qP_e (xb_c i hi))
set_option maxHeartbeats 4000000 in
set_option maxRecDepth 100000 in
theorem c_J0_charAt_5068e (l : Launch) (d : Nat) (i : Nat) (hi : i < 63) (h : xH)  : xC l yJ0_charAt_5068e cJ0_charAt_5068e 2 (some .char) (xR (d + 3) 0 0) [.ref xN, .int (nI i)] h (qP (xBytes.getD i 0) h) := by
  refine xC_of false (by decide +kernel) (fun z => by cases z) (Nat.le_of_ble_eq_true rfl) ?_
  show xJ l (RJ0, 2, (some .char), false, (xR (d + 3) 0 0), none) cJ0_charAt_5068e _ 0 0 0 [(0, .ref xN), (1, .int (nI i))] [] h
  refine xj_aload_n (n := 0) (i := 0) 0 rfl rfl dJ0_charAt_5068e_0 ?_
  refine xj_callVK kv_J0_492 (c_J0_isLatin1_aae02 l (d + 2) _) (As := []) (st := []) rfl rfl rfl (xRm_of (by omega) (by decide) (by omega) (by omega)) (Nat.le_of_ble_eq_true rfl) dJ0_charAt_5068e_1 (yk_p (kc := 0) (ks := 0) ?_)
  refine xj_if_eq (tgt := 16) (by decide) dJ0_charAt_5068e_4 (fun zc4 => ?_) (fun zc4 => ?_)
  · exact absurd zc4 (by decide)
  · refine xj_aload_n (n := 0) (i := 0) 0 rfl rfl dJ0_charAt_5068e_7 ?_
    refine xj_strV xw1270 dJ0_charAt_5068e_8 ?_
    refine xj_iload_n (n := 1) (i := 1) 1 rfl rfl dJ0_charAt_5068e_11 ?_
    refine xj_callS ks_J0_495 (c_J1_charAt_3b067 l (d + 0) i hi _) (As := [.ref (xN + 1), .int (nI i)]) (st := []) rfl rfl (xRm_of (by omega) (by decide) (by omega) (by omega)) (Nat.le_of_ble_eq_true rfl) dJ0_charAt_5068e_12 (yk_p (kc := 0) (ks := 0) ?_)
    exact xj_ireturn rfl (xb_n i hi) (Nat.zero_le _) (Nat.zero_le _) dJ0_charAt_5068e_15 (qP_e rfl)
