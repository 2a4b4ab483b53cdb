theorem xwz_n : Cond.native arraycopyName ∈ xW := xW_of (xtb2 (List.mem_of_getElem? (i := 169) rfl)) rfl
theorem xwz_s : Cond.static arraycopyName ∈ xW := xW_of (xtb2 (List.mem_of_getElem? (i := 168) rfl)) rfl
theorem xwz_i : Cond.initialized "java/lang/System" ∈ xW := xW_of (xtb1 (List.mem_of_getElem? (i := 20) rfl)) rfl
theorem xRp.setL {D : va_G} {aC ad : Nat → Nat} {b0 : Nat} {s : State} {H H1 : Heap} {locs L : List Loc} {h : xH} (R : xRp D aC ad b0 s H locs h) (ha : xAff ad b0) {q : Nat} {e : xE} (hq : q < h.1) (z : H1.size = H.size) (oq : ∀ x : Nat, x ≠ ad q → H1[x]? = H[x]?) (he : va_at D vwCl (ad q, x_e aC ad e) H1) (hL : ∀ y ∈ L, xA b0 y.base) : xRp D aC ad b0 s H1 (locs ++ L) (h.1, va_up h.2 q e) := by
  obtain ⟨hK, hP, hS, hz, hn⟩ := R
  have hD : va_D (xA b0) (x_ws aC ad h) := x_D ha hn
  refine ⟨hK, ?_, ⟨by rw [z]; exact hS.1, fun x g1 g2 => ?_, fun y hy => (List.mem_append.mp hy).elim (hS.2.2 y) (hL y)⟩, by rw [z]; exact hz, hn⟩
  · rw [← x_ws_set]
    exact hP.set hD (x_ws_get hq) he oq
  · rw [oq x (fun e => g2 (by rw [e]; exact hD.2 q _ (x_ws_get hq)))]
    exact hS.2.1 x g1 g2
theorem x_nn {z : Int32} (hz : ¬ z < 0) : z.toInt = (z.toNatClampNeg : Int) := by
  obtain ⟨j, hj, rfl⟩ := nI_of hz
  rw [nI_clamp hj, nI_toInt hj]
section XJ2
variable {l : Launch} {M : xM} {cc : ByteArray} {Q : Option Value → xH → Prop} {kc ks pc : Nat} {lv : List (Nat × Value)} {st : List Value} {h : xH}
theorem xj_copy {q0 q1 n0 n1 idx : Nat} {f f1 : Nat → Int32} {sp dp n : Int32} (w1 : Cond.methodLink M.1 idx arraycopyName ∈ xW) (w2 : Cond.native arraycopyName ∈ xW) (w3 : Cond.static arraycopyName ∈ xW) (w4 : Cond.initialized "java/lang/System" ∈ xW) (hn0 : q0 < h.1) (hq0 : h.2 q0 = .inl (n0, f)) (hn1 : q1 < h.1) (hq1 : h.2 q1 = .inl (n1, f1)) (h1 : ¬ sp < 0) (h2 : ¬ dp < 0) (h3 : ¬ n < 0) (h4 : sp.toNatClampNeg + n.toNatClampNeg ≤ n0) (h5 : dp.toNatClampNeg + n.toNatClampNeg ≤ n1) (hst : (st.map fun v => v.category).sum ≤ 8) (hR : 1 ≤ M.2.2.2.2.1.frames ∧ 8 + (nativeFrameWords "java/lang/System" "arraycopy" 5 + 11) ≤ M.2.2.2.2.1.locals) (d : decode cc pc = .ok (.invokestatic idx, 3)) (kk : xJ l M cc Q kc ks (pc + 3) lv st (h.1, va_up h.2 q1 (.inl (n1, va_cpy f f1 sp.toNatClampNeg dp.toNatClampNeg n.toNatClampNeg)))) : xJ l M cc Q kc ks pc lv (.int n :: .int dp :: .ref q1 :: .int sp :: .ref q0 :: st) h := by
  intro p e s m args below meth c D aC ad b0 H locs ls Z C R L E
  have hts := C.2.2.2.2.2.2.2.1
  have ha := C.2.2.2.2.2.2.2.2.2.1
  have he0 : (x_ws aC ad h)[q0]? = some (ad q0, .inl (aC 0, (n0, .inl f))) := by rw [x_ws_get hn0, hq0]; rfl
  have he1 : (x_ws aC ad h)[q1]? = some (ad q1, .inl (aC 0, (n1, .inl f1))) := by rw [x_ws_get hn1, hq1]; rfl
  have hc0 : H[ad q0]? = some (vp_cell (aC 0) (n0, .inl f)) := R.2.1 q0 _ he0
  have hc1 : H[ad q1]? = some (vp_cell (aC 0) (n1, .inl f1)) := R.2.1 q1 _ he1
  intro T hT X
  obtain ⟨-, k0, hk0, cm0, hkk0⟩ := (R.1.2 0 _ rfl).1 n0 (fun j => .int (f j))
  obtain ⟨vm', X', step⟩ := X.arraycopy C.1 C.2.2.2.2.2.2.1 (hts _ w1) (hts _ w2) (hts _ w3) (hts _ w4) (src := ad q0) (dst := ad q1) (cs := vp_cell (aC 0) (n0, .inl f)) (cd := vp_cell (aC 0) (n1, .inl f1)) (srcPos := sp) (destPos := dp) (n := n) (by rw [hT]; exact hc0) (by rw [hT]; exact hc1)
    (fun _ h => by cases h) (fun _ h => by cases h) (fun h => by cases h) (fun h => by cases h) hk0 hk0 hkk0 hkk0 (by simp [refKind]) h1 h2 h3
    (by rw [x_nn h1, x_nn h3]; show ¬ _ > ((arrV (aC 0) n0 (fun j => .int (f j))).slots.size : Int); rw [arrV_size]; omega)
    (by rw [x_nn h2, x_nn h3]; show ¬ _ > ((arrV (aC 0) n1 (fun j => .int (f1 j))).slots.size : Int); rw [arrV_size]; omega)
    (fun vm₁ _ i hi => by
      have e : (vp_cell (aC 0) (n0, .inl f)).slots.getD (sp.toNatClampNeg + i) .null = .int (f (sp.toNatClampNeg + i)) := by
        show (arrV (aC 0) n0 (fun j => .int (f j))).slots.getD _ _ = _
        rw [Array.getD_eq_getD_getElem?, arrV_read _ _ (by omega)]
        rfl
      refine ⟨?_, ?_⟩
      · rw [e]; rfl
      · rw [e]; exact trivial)
    (g := F0 m pc ls (.int n :: .int dp :: .ref (ad q1) :: .int sp :: .ref (ad q0) :: st.map (x_v ad))) rfl (by rw [C.2.2.1]; exact L.1) (rest := st.map (x_v ad)) rfl (by rw [C.2.1]; exact d) hR.1 (by show 2 * 0 + _ + _ ≤ _; rw [x_v_cats]; omega)
  have e1 : copied (vp_cell (aC 0) (n0, .inl f)) (vp_cell (aC 0) (n1, .inl f1)) sp dp n = vp_cell (aC 0) (n1, .inl (va_cpy f f1 sp.toNatClampNeg dp.toNatClampNeg n.toNatClampNeg)) := va_copied (fun z => .int z) (aC 0) (aC 0) f f1 h4
  rw [e1] at X' step
  have hl : ad q1 < H.size := (Array.getElem?_eq_some_iff.mp hc1).1
  have hD : va_D (xA b0) (x_ws aC ad h) := x_D ha R.2.2.2.2
  have hheap : ((T.setVm vm').setCell (ad q1) (vp_cell (aC 0) (n1, .inl (va_cpy f f1 sp.toNatClampNeg dp.toNatClampNeg n.toNatClampNeg)))).heap = H.setIfInBounds (ad q1) (vp_cell (aC 0) (n1, .inl (va_cpy f f1 sp.toNatClampNeg dp.toNatClampNeg n.toNatClampNeg))) := by rw [← hT]; rfl
  obtain ⟨t, a1, b1⟩ := kk p e s m args below meth c D aC ad b0 _ _ ls Z C (R.setL ha hn1 (by simp) (fun x hx => by simp [Array.getElem?_setIfInBounds, Ne.symm hx]) (show (H.setIfInBounds (ad q1) _)[ad q1]? = some _ by simp [Array.getElem?_setIfInBounds, hl, x_e]) (fun y hy => by
      obtain ⟨z, -, hz⟩ := List.mem_map.mp hy
      rw [← hz]
      exact hD.2 q1 _ he1)) L E _ hheap X'
  exact ⟨t, step t a1, b1⟩
end XJ2
section YJ2
variable {l : Launch} {M : xM} {cc : ByteArray} {Q : Option Value → xH → Prop} {kc ks pc : Nat} {lv : List (Nat × Value)} {st : List Value} {n : Nat} {g : xG}
theorem yj_copy {q0 q1 n0 n1 idx : Nat} {sp dp m : Int32} (a b k : Nat) (w1 : Cond.methodLink M.1 idx arraycopyName ∈ xW) (w2 : Cond.native arraycopyName ∈ xW) (w3 : Cond.static arraycopyName ∈ xW) (w4 : Cond.initialized "java/lang/System" ∈ xW) (hn0 : q0 < n) (S0 : fAr q0 n0) (hn1 : q1 < n) (S1 : fAr q1 n1) (ea : sp = nI a) (eb : dp = nI b) (ek : m = nI k) (h0 : n0 < 2 ^ 31) (h1 : n1 < 2 ^ 31) (h4 : a + k ≤ n0) (h5 : b + k ≤ n1) (hst : (st.map fun v => v.category).sum ≤ 8) (hR : 1 ≤ M.2.2.2.2.1.frames ∧ 40 ≤ M.2.2.2.2.1.locals) (d : decode cc pc = .ok (.invokestatic idx, 3)) (kk : xJ l M cc Q kc ks (pc + 3) lv st (n, fh (va_up g q1 (va_cpy (g q0) (g q1) a b k)))) : xJ l M cc Q kc ks pc lv (.int m :: .int dp :: .ref q1 :: .int sp :: .ref q0 :: st) (n, fh g) := by
  subst ea; subst eb; subst ek
  have e : nativeFrameWords "java/lang/System" "arraycopy" 5 = 7 := by decide +kernel
  refine xj_copy w1 w2 w3 w4 hn0 (S0 (g q0)) hn1 (S1 (g q1)) (nI_pos (by omega)) (nI_pos (by omega)) (nI_pos (by omega)) (by rw [nI_clamp (by omega), nI_clamp (by omega)]; exact h4) (by rw [nI_clamp (by omega), nI_clamp (by omega)]; exact h5) hst ⟨hR.1, by rw [e]; omega⟩ d ?_
  rw [nI_clamp (by omega), nI_clamp (by omega), nI_clamp (by omega), ← S1]
  show xJ l M cc Q kc ks (pc + 3) lv st (n, va_up (fh g) q1 (fc q1 (va_cpy (g q0) (g q1) a b k)))
  rw [fh_up]
  exact kk
theorem yj_putk {idx q k : Nat} (F : xFl M.1 idx 7 0 (.object "DreamWindows$Kind") false) (hn : q < n) (hp : fPn q) (hk : k < 2 ^ 31) (d : decode cc pc = .ok (.putfield idx, 3)) (kk : xJ l M cc Q kc ks (pc + 3) lv st (n, fh (gs g q 0 (nI k)))) : xJ l M cc Q kc ks pc lv (.ref (2 + k) :: .ref q :: st) (n, fh g) := by
  refine xj_putf F hn (hp.2.2.1 (g q)) (fun _ => ⟨rfl, rfl⟩) (by decide : 0 < 5) d ?_
  have e : (fsP q (g q)).set 0 (.ref (2 + k)) = fsP q (upd (g q) 0 (nI k)) := by
    show [.ref (2 + k), _, _, _, _] = [Value.ref (2 + (nI k).toNatClampNeg), _, _, _, _]
    rw [nI_clamp hk]
    rfl
  rw [e, ← hp.2.2.1]
  show xJ l M cc Q kc ks (pc + 3) lv st (n, va_up (fh g) q (fc q (upd (g q) 0 (nI k))))
  rw [fh_up]
  exact kk
end YJ2
set_option maxHeartbeats 4000000 in
set_option maxRecDepth 100000 in
theorem c_X7_said (l : Launch) (d : Nat) (n : Nat) (hn : 110 ≤ n) (g : xG) (q t k : Nat) (more pic : Int32) (dull : Nat → Int32) (L : xL) (hp : fPn q) (A : pnA g q k more pic dull) (hL : lwA g n t L) (p c : Nat) (night : Int32) (hp3 : p < 3) (hc : c < 16) : xC l yX7_said cX7_said 6 (some .int) (xR (d + 2) 0 0) [.ref q, .ref t, .int (nI p), .int (nI c), .int night] (n, fh g) (qI n fun v g1 => v = saidF L p more pic c (dull c) night ∧ fr (fX q t) g g1) := by
  refine xC_of false (by decide +kernel) (fun z => by cases z) (Nat.le_of_ble_eq_true rfl) ?_
  have hq1 := hp.1
  have hq2 := hp.2.1
  have hT := hL.1
  have hlo := hT.lo
  have htn := hL.2.1
  have hk6 := A.2.2.2.2
  show xJ l (RX7, 6, (some .int), false, (xR (d + 2) 0 0), none) cX7_said _ 0 0 0 [(0, .ref q), (1, .ref t), (2, .int (nI p)), (3, .int (nI c)), (4, .int night)] [] (n, fh g)
  refine xj_aload_n (n := 0) (i := 0) 0 rfl rfl dX7_said_0 ?_
  refine yj_getf (v := .ref (q + 2)) fl_X7_22_7 (by omega) (hp.2.2.1 (g q)) rfl dX7_said_1 ?_
  refine xj_iconst (v := 0) (by decide) dX7_said_4 ?_
  refine xj_iload_n (n := 3) (i := 3) 3 rfl rfl dX7_said_5 ?_
  refine xj_iconst (v := 4) (by decide) dX7_said_6 ?_
  refine xj_irem (by decide) dX7_said_7 ?_
  refine xj_topi (fun zv1 ezv1 => ?_)
  refine yj_iastN 0 (by omega) hp.2.2.2.2 rfl (by omega) (by decide) dX7_said_8 ?_
  obtain ⟨zg2, ezg2⟩ : ∃ z, z = gs g (q + 2) 0 zv1 := ⟨_, rfl⟩
  rw [← ezg2]
  refine xj_aload_n (n := 0) (i := 0) 0 rfl rfl dX7_said_9 ?_
  refine yj_getf (v := .ref (q + 2)) fl_X7_22_7 (by omega) (hp.2.2.1 (zg2 q)) rfl dX7_said_10 ?_
  refine xj_iconst (v := 1) (by decide) dX7_said_13 ?_
  refine xj_iload_n (n := 3) (i := 3) 3 rfl rfl dX7_said_14 ?_
  refine xj_iconst (v := 4) (by decide) dX7_said_15 ?_
  refine xj_idiv (by decide) dX7_said_16 ?_
  refine xj_topi (fun zv3 ezv3 => ?_)
  refine yj_iastN 1 (by omega) hp.2.2.2.2 rfl (by omega) (by decide) dX7_said_17 ?_
  obtain ⟨zg4, ezg4⟩ : ∃ z, z = gs zg2 (q + 2) 1 zv3 := ⟨_, rfl⟩
  rw [← ezg4]
  refine xj_aload_n (n := 0) (i := 0) 0 rfl rfl dX7_said_18 ?_
  refine yj_getf (v := .ref (q + 2)) fl_X7_22_7 (by omega) (hp.2.2.1 (zg4 q)) rfl dX7_said_19 ?_
  refine xj_iconst (v := 2) (by decide) dX7_said_22 ?_
  refine xj_aload_n (n := 0) (i := 0) 0 rfl rfl dX7_said_23 ?_
  refine yj_getf (v := .ref (q + 1)) fl_X7_18_7 (by omega) (hp.2.2.1 (zg4 q)) rfl dX7_said_24 ?_
  refine xj_iload_n (n := 3) (i := 3) 3 rfl rfl dX7_said_27 ?_
  refine yj_ialdN c (by omega) hp.2.2.2.1 rfl (by omega) (by decide) dX7_said_28 ?_
  refine xj_topi (fun zv5 ezv5 => ?_)
  refine yj_iastN 2 (by omega) hp.2.2.2.2 rfl (by omega) (by decide) dX7_said_29 ?_
  obtain ⟨zg6, ezg6⟩ : ∃ z, z = gs zg4 (q + 2) 2 zv5 := ⟨_, rfl⟩
  rw [← ezg6]
  refine xj_aload_n (n := 0) (i := 0) 0 rfl rfl dX7_said_30 ?_
  refine yj_getf (v := .ref (q + 2)) fl_X7_22_7 (by omega) (hp.2.2.1 (zg6 q)) rfl dX7_said_31 ?_
  refine xj_iconst (v := 3) (by decide) dX7_said_34 ?_
  refine xj_iload (i := 4) 4 rfl dX7_said_35 ?_
  refine yj_iastN 3 (by omega) hp.2.2.2.2 rfl (by omega) (by decide) dX7_said_37 ?_
  obtain ⟨zg7, ezg7⟩ : ∃ z, z = gs zg6 (q + 2) 3 night := ⟨_, rfl⟩
  rw [← ezg7]
  refine xj_aload_n (n := 0) (i := 0) 0 rfl rfl dX7_said_38 ?_
  refine yj_getf (v := .ref (q + 2)) fl_X7_22_7 (by omega) (hp.2.2.1 (zg7 q)) rfl dX7_said_39 ?_
  refine xj_iconst (v := 4) (by decide) dX7_said_42 ?_
  refine xj_aload_n (n := 0) (i := 0) 0 rfl rfl dX7_said_43 ?_
  refine yj_getf (v := .int (zg7 q 1)) fl_X7_9_7 (by omega) (hp.2.2.1 (zg7 q)) rfl dX7_said_44 ?_
  refine xj_topi (fun zv8 ezv8 => ?_)
  refine yj_iastN 4 (by omega) hp.2.2.2.2 rfl (by omega) (by decide) dX7_said_47 ?_
  obtain ⟨zg9, ezg9⟩ : ∃ z, z = gs zg7 (q + 2) 4 zv8 := ⟨_, rfl⟩
  rw [← ezg9]
  refine xj_aload_n (n := 0) (i := 0) 0 rfl rfl dX7_said_48 ?_
  refine yj_getf (v := .ref (q + 2)) fl_X7_22_7 (by omega) (hp.2.2.1 (zg9 q)) rfl dX7_said_49 ?_
  refine xj_iconst (v := 5) (by decide) dX7_said_52 ?_
  refine xj_aload_n (n := 0) (i := 0) 0 rfl rfl dX7_said_53 ?_
  refine yj_getf (v := .int (zg9 q 2)) fl_X7_15_7 (by omega) (hp.2.2.1 (zg9 q)) rfl dX7_said_54 ?_
  refine xj_iload_n (n := 3) (i := 3) 3 rfl rfl dX7_said_57 ?_
  refine xj_ishr dX7_said_58 ?_
  refine xj_iconst (v := 1) (by decide) dX7_said_59 ?_
  refine xj_iand dX7_said_60 ?_
  refine xj_topi (fun zv10 ezv10 => ?_)
  refine yj_iastN 5 (by omega) hp.2.2.2.2 rfl (by omega) (by decide) dX7_said_61 ?_
  obtain ⟨zg11, ezg11⟩ : ∃ z, z = gs zg9 (q + 2) 5 zv10 := ⟨_, rfl⟩
  rw [← ezg11]
  have hrow : zg11 (q + 2) = upd (upd (upd (upd (upd (upd (g (q + 2)) 0 (nI (c % 4))) 1 (nI (c / 4))) 2 (dull c)) 3 night) 4 more) 5 ((pic >>> (nI c &&& 31)) &&& 1) := by
    have a0 : zv1 = nI (c % 4) := by rw [ezv1]; exact nI_rem4 hc
    have a1 : zv3 = nI (c / 4) := by rw [ezv3]; exact nI_div4 hc
    have a2 : zv5 = dull c := by rw [ezv5, ezg4, ezg2, gs_n _ _ _ (by omega), gs_n _ _ _ (by omega)]; exact A.2.2.2.1 c hc
    have a4 : zv8 = more := by rw [ezv8, ezg7, ezg6, ezg4, ezg2, gs_n _ _ _ (by omega), gs_n _ _ _ (by omega), gs_n _ _ _ (by omega), gs_n _ _ _ (by omega)]; exact A.2.1
    have a5 : zv10 = (pic >>> (nI c &&& 31)) &&& 1 := by rw [ezv10, ezg9, ezg7, ezg6, ezg4, ezg2, gs_n _ _ _ (by omega), gs_n _ _ _ (by omega), gs_n _ _ _ (by omega), gs_n _ _ _ (by omega), gs_n _ _ _ (by omega), A.2.2.1]
    rw [ezg11, ezg9, ezg7, ezg6, ezg4, ezg2, gs_s, gs_s, gs_s, gs_s, gs_s, gs_s, a0, a1, a2, a4, a5]
  refine xj_iload_n (n := 2) (i := 2) 2 rfl rfl dX7_said_62 ?_
  refine xj_if_ne (tgt := 71) (by decide) dX7_said_63 (fun zc63 => ?_) (fun zc63 => ?_)
  · refine xj_bipush (v := 99) (by decide) dX7_said_71 ?_
    refine xj_istore (i := 5) (lv1 := [(5, .int 99), (0, .ref q), (1, .ref t), (2, .int (nI p)), (3, .int (nI c)), (4, .int night)]) rfl (Nat.le_of_ble_eq_true rfl) dX7_said_73 ?_
    refine xj_iconst (v := 0) (by decide) dX7_said_75 ?_
    refine xj_iload (i := 5) 0 rfl dX7_said_76 ?_
    refine xj_aload_n (n := 1) (i := 1) 2 rfl rfl dX7_said_78 ?_
    refine xj_iload_n (n := 2) (i := 2) 3 rfl rfl dX7_said_79 ?_
    refine xj_aload_n (n := 0) (i := 0) 1 rfl rfl dX7_said_80 ?_
    refine yj_getf (v := .ref (q + 2)) fl_X7_22_7 (by omega) (hp.2.2.1 (zg11 q)) rfl dX7_said_81 ?_
    have hf6 : fr (fun j => j = q + 2) g zg11 := by
      rw [ezg11, ezg9, ezg7, ezg6, ezg4, ezg2]
      have hz : fr (fun j => j = q + 2) g g := fr.rf
      exact (((((hz.gs rfl _ _).gs rfl _ _).gs rfl _ _).gs rfl _ _).gs rfl _ _).gs rfl _ _
    have hL6 : lwA zg11 n t L := hL.keep hf6 (by omega) (by omega)
    refine xj_callV kv_X7_35 (c_X10_worth l (d + 0) n hn zg11 t (q + 2) p L hL6 hp.2.2.2.2 (by omega) (by omega) hp3) (As := [.int (nI p), .ref (q + 2)]) (st := [.int 99, .int 0]) (by omega) (hT.2.1 _) (ci := 10) rfl rfl rfl rfl (xRm_of (by omega) (by decide) (by omega) (by omega)) (Nat.le_of_ble_eq_true rfl) dX7_said_84 (yk_i (kc := 0) (ks := 0) fun zv12 zg13 hzg13 => ?_)
    obtain ⟨hw, hf7⟩ := hzg13
    refine xj_mmin xw496 xw460 xw74 xw461 (Nat.le_of_ble_eq_true rfl) ⟨by show 1 ≤ _; simp only [xR]; omega, by show 21 ≤ _; simp only [xR]; omega, by show _ ≤ _; simp only [xR]; omega, by show _ ≤ _; simp only [xR]; omega⟩ dX7_said_87 ?_
    refine xj_mmax xw497 xw498 xw74 xw499 (Nat.le_of_ble_eq_true rfl) ⟨by show 1 ≤ _; simp only [xR]; omega, by show 21 ≤ _; simp only [xR]; omega, by show _ ≤ _; simp only [xR]; omega, by show _ ≤ _; simp only [xR]; omega⟩ dX7_said_90 ?_
    refine xj_ireturn rfl (nr_i _) (Nat.zero_le _) (Nat.zero_le _) dX7_said_93 (qI_e ⟨?_, ?_⟩)
    · have hw2 : L p (zg11 (q + 2)) = L p (nmF c (dull c) night more pic) := hL.2.2.congr hp3 (fun j hj => by
        rw [hrow]
        rcases (show j = 0 ∨ j = 1 ∨ j = 2 ∨ j = 3 ∨ j = 4 ∨ j = 5 by omega) with rfl | rfl | rfl | rfl | rfl | rfl <;> rfl)
      have e50 : (if p = 0 then (50 : Int32) else 99) = 99 := if_neg (fun e => zc63 (by rw [e]; rfl))
      unfold saidF clF
      rw [e50, ← hw2, ← hw]
    · exact (hf6.mono fun j hj => Or.inl hj).tr (hf7.mono fun j hj => Or.inr hj)
  · refine xj_bipush (v := 50) (by decide) dX7_said_66 ?_
    refine xj_goto (tgt := 73) (by decide) dX7_said_68 ?_
    refine xj_istore (i := 5) (lv1 := [(5, .int 50), (0, .ref q), (1, .ref t), (2, .int (nI p)), (3, .int (nI c)), (4, .int night)]) rfl (Nat.le_of_ble_eq_true rfl) dX7_said_73 ?_
    refine xj_iconst (v := 0) (by decide) dX7_said_75 ?_
    refine xj_iload (i := 5) 0 rfl dX7_said_76 ?_
    refine xj_aload_n (n := 1) (i := 1) 2 rfl rfl dX7_said_78 ?_
    refine xj_iload_n (n := 2) (i := 2) 3 rfl rfl dX7_said_79 ?_
    refine xj_aload_n (n := 0) (i := 0) 1 rfl rfl dX7_said_80 ?_
    refine yj_getf (v := .ref (q + 2)) fl_X7_22_7 (by omega) (hp.2.2.1 (zg11 q)) rfl dX7_said_81 ?_
    have hf6 : fr (fun j => j = q + 2) g zg11 := by
      rw [ezg11, ezg9, ezg7, ezg6, ezg4, ezg2]
      have hz : fr (fun j => j = q + 2) g g := fr.rf
      exact (((((hz.gs rfl _ _).gs rfl _ _).gs rfl _ _).gs rfl _ _).gs rfl _ _).gs rfl _ _
    have hL6 : lwA zg11 n t L := hL.keep hf6 (by omega) (by omega)
    refine xj_callV kv_X7_35 (c_X10_worth l (d + 0) n hn zg11 t (q + 2) p L hL6 hp.2.2.2.2 (by omega) (by omega) hp3) (As := [.int (nI p), .ref (q + 2)]) (st := [.int 50, .int 0]) (by omega) (hT.2.1 _) (ci := 10) rfl rfl rfl rfl (xRm_of (by omega) (by decide) (by omega) (by omega)) (Nat.le_of_ble_eq_true rfl) dX7_said_84 (yk_i (kc := 0) (ks := 0) fun zv14 zg15 hzg15 => ?_)
    obtain ⟨hw, hf7⟩ := hzg15
    refine xj_mmin xw496 xw460 xw74 xw461 (Nat.le_of_ble_eq_true rfl) ⟨by show 1 ≤ _; simp only [xR]; omega, by show 21 ≤ _; simp only [xR]; omega, by show _ ≤ _; simp only [xR]; omega, by show _ ≤ _; simp only [xR]; omega⟩ dX7_said_87 ?_
    refine xj_mmax xw497 xw498 xw74 xw499 (Nat.le_of_ble_eq_true rfl) ⟨by show 1 ≤ _; simp only [xR]; omega, by show 21 ≤ _; simp only [xR]; omega, by show _ ≤ _; simp only [xR]; omega, by show _ ≤ _; simp only [xR]; omega⟩ dX7_said_90 ?_
    refine xj_ireturn rfl (nr_i _) (Nat.zero_le _) (Nat.zero_le _) dX7_said_93 (qI_e ⟨?_, ?_⟩)
    · have hw2 : L p (zg11 (q + 2)) = L p (nmF c (dull c) night more pic) := hL.2.2.congr hp3 (fun j hj => by
        rw [hrow]
        rcases (show j = 0 ∨ j = 1 ∨ j = 2 ∨ j = 3 ∨ j = 4 ∨ j = 5 by omega) with rfl | rfl | rfl | rfl | rfl | rfl <;> rfl)
      have e50 : (if p = 0 then (50 : Int32) else 99) = 50 := if_pos ((nI_eq (a := p) (b := 0) (by omega) (by omega)).mp zc63)
      unfold saidF clF
      rw [e50, ← hw2, ← hw]
    · exact (hf6.mono fun j hj => Or.inl hj).tr (hf7.mono fun j hj => Or.inr hj)
set_option maxHeartbeats 4000000 in
set_option maxRecDepth 100000 in
theorem c_X7_cost (l : Launch) (d : Nat) (n : Nat) (hn : 110 ≤ n) (g : xG) (q t k : Nat) (more pic : Int32) (dull : Nat → Int32) (L : xL) (hp : fPn q) (A : pnA g q k more pic dull) (hL : lwA g n t L) (c : Nat) (night : Int32) (hc : c < 16) : xC l yX7_cost cX7_cost 4 (some .int) (xR (d + 3) 0 0) [.ref q, .ref t, .int (nI c), .int night] (n, fh g) (qI n fun v g1 => v = costF L k more pic c (dull c) night ∧ fr (fX q t) g g1) := by
  refine xC_of false (by decide +kernel) (fun z => by cases z) (Nat.le_of_ble_eq_true rfl) ?_
  have hq1 := hp.1
  have hq2 := hp.2.1
  have hT := hL.1
  have hlo := hT.lo
  have htn := hL.2.1
  have hk6 := A.2.2.2.2
  show xJ l (RX7, 4, (some .int), false, (xR (d + 3) 0 0), none) cX7_cost _ 0 0 0 [(0, .ref q), (1, .ref t), (2, .int (nI c)), (3, .int night)] [] (n, fh g)
  refine xj_aload_n (n := 0) (i := 0) 0 rfl rfl dX7_cost_0 ?_
  refine yj_getf (v := .ref (2 + k)) fl_X7_25_7 (by omega) (hp.2.2.1 (g q)) (congrArg (fun z => some (Value.ref (2 + z))) A.k) dX7_cost_1 ?_
  refine xj_aload_n (n := 0) (i := 0) 0 rfl rfl dX7_cost_4 ?_
  refine xj_aload_n (n := 1) (i := 1) 1 rfl rfl dX7_cost_5 ?_
  refine xj_iconst (v := 2) (by decide) dX7_cost_6 ?_
  refine xj_iload_n (n := 2) (i := 2) 2 rfl rfl dX7_cost_7 ?_
  refine xj_iload_n (n := 3) (i := 3) 3 rfl rfl dX7_cost_8 ?_
  refine xj_callV kv_X7_50 (c_X7_said l (d + 0) n hn g q t k more pic dull L hp A hL 2 c night (by omega) (by omega)) (As := [.ref t, .int 2, .int (nI c), .int night]) (st := [.ref (2 + k)]) (by omega) (hp.2.2.1 _) (ci := 7) rfl rfl rfl rfl (xRm_of (by omega) (by decide) (by omega) (by omega)) (Nat.le_of_ble_eq_true rfl) dX7_cost_9 (yk_i (kc := 0) (ks := 0) fun zv1 zg2 hzg2 => ?_)
  obtain ⟨hvzv1, hfzg2⟩ := hzg2
  have Azg2 := A.keep hp hL.1 hfzg2
  have Lzg2 := hL.fx hp hfzg2
  refine xj_iload_n (n := 2) (i := 2) 2 rfl rfl dX7_cost_12 ?_
  refine yj_costBy (own2 := 0) k zv1 (nI c) hk6 hn rfl rfl rfl rfl (Nat.le_of_ble_eq_true rfl) dX7_cost_13 ?_
  exact xj_ireturn rfl (nr_i _) (Nat.zero_le _) (Nat.zero_le _) dX7_cost_16 (qI_e ⟨by rw [hvzv1]; rfl, hfzg2⟩)
set_option maxHeartbeats 4000000 in
set_option maxRecDepth 100000 in
theorem c_X7_isClear (l : Launch) (d : Nat) (n : Nat) (hn : 110 ≤ n) (g : xG) (q t k : Nat) (more pic : Int32) (dull : Nat → Int32) (L : xL) (hp : fPn q) (A : pnA g q k more pic dull) (hL : lwA g n t L) (c : Nat) (night : Int32) (hc : c < 16) : xC l yX7_isClear cX7_isClear 4 (some .boolean) (xR (d + 3) 0 0) [.ref q, .ref t, .int (nI c), .int night] (n, fh g) (qI n fun v g1 => v = bI (clearF L k more pic c (dull c) night = true) ∧ fr (fX q t) g g1) := by
  refine xC_of false (by decide +kernel) (fun z => by cases z) (Nat.le_of_ble_eq_true rfl) ?_
  have hq1 := hp.1
  have hq2 := hp.2.1
  have hT := hL.1
  have hlo := hT.lo
  have htn := hL.2.1
  have hk6 := A.2.2.2.2
  show xJ l (RX7, 4, (some .boolean), false, (xR (d + 3) 0 0), none) cX7_isClear _ 0 0 0 [(0, .ref q), (1, .ref t), (2, .int (nI c)), (3, .int night)] [] (n, fh g)
  refine xj_aload_n (n := 0) (i := 0) 0 rfl rfl dX7_isClear_0 ?_
  refine yj_getf (v := .ref (q + 1)) fl_X7_18_7 (by omega) (hp.2.2.1 (g q)) rfl dX7_isClear_1 ?_
  refine xj_iload_n (n := 2) (i := 2) 2 rfl rfl dX7_isClear_4 ?_
  refine yj_ialdN c (by omega) hp.2.2.2.1 rfl (by omega) (by decide) dX7_isClear_5 ?_
  refine xj_aload_n (n := 0) (i := 0) 0 rfl rfl dX7_isClear_6 ?_
  refine yj_getf (v := .ref (2 + k)) fl_X7_25_7 (by omega) (hp.2.2.1 (g q)) (congrArg (fun z => some (Value.ref (2 + z))) A.k) dX7_isClear_7 ?_
  refine xj_aload_n (n := 0) (i := 0) 0 rfl rfl dX7_isClear_10 ?_
  refine xj_aload_n (n := 1) (i := 1) 1 rfl rfl dX7_isClear_11 ?_
  refine xj_iconst (v := 1) (by decide) dX7_isClear_12 ?_
  refine xj_iload_n (n := 2) (i := 2) 2 rfl rfl dX7_isClear_13 ?_
  refine xj_iload_n (n := 3) (i := 3) 3 rfl rfl dX7_isClear_14 ?_
  refine xj_callV kv_X7_50 (c_X7_said l (d + 0) n hn g q t k more pic dull L hp A hL 1 c night (by omega) (by omega)) (As := [.ref t, .int 1, .int (nI c), .int night]) (st := [.ref (2 + k), .int (g (q + 1) c)]) (by omega) (hp.2.2.1 _) (ci := 7) rfl rfl rfl rfl (xRm_of (by omega) (by decide) (by omega) (by omega)) (Nat.le_of_ble_eq_true rfl) dX7_isClear_15 (yk_i (kc := 0) (ks := 0) fun zv1 zg2 hzg2 => ?_)
  obtain ⟨hvzv1, hfzg2⟩ := hzg2
  have Azg2 := A.keep hp hL.1 hfzg2
  have Lzg2 := hL.fx hp hfzg2
  refine xj_iload_n (n := 2) (i := 2) 2 rfl rfl dX7_isClear_18 ?_
  refine xj_aload_n (n := 0) (i := 0) 0 rfl rfl dX7_isClear_19 ?_
  refine yj_getf (v := .int (zg2 q 1)) fl_X7_9_7 (by omega) (hp.2.2.1 (zg2 q)) rfl dX7_isClear_20 ?_
  refine yj_limitBy (own2 := 0) k zv1 (nI c) (zg2 q 1) hk6 hn rfl rfl rfl rfl (Nat.le_of_ble_eq_true rfl) dX7_isClear_23 ?_
  refine xj_icmp_gt (tgt := 33) (by decide) dX7_isClear_26 (fun zc26 => ?_) (fun zc26 => ?_)
  · refine xj_iconst (v := 0) (by decide) dX7_isClear_33 ?_
    exact xj_ireturn rfl nr_b0 (Nat.zero_le _) (Nat.zero_le _) dX7_isClear_34 (qI_e ⟨by rw [hvzv1, A.2.2.2.1 c hc, Azg2.2.1] at zc26; exact (bI_f (fun z => absurd (of_decide_eq_true z) (by simpa [i32_le, i32_lt] using zc26))).symm, hfzg2⟩)
  · refine xj_iconst (v := 1) (by decide) dX7_isClear_29 ?_
    refine xj_goto (tgt := 34) (by decide) dX7_isClear_30 ?_
    exact xj_ireturn rfl nr_b1 (Nat.zero_le _) (Nat.zero_le _) dX7_isClear_34 (qI_e ⟨by rw [hvzv1, A.2.2.2.1 c hc, Azg2.2.1] at zc26; exact (bI_t (decide_eq_true (by simpa [i32_le, i32_lt] using zc26))).symm, hfzg2⟩)
set_option maxHeartbeats 4000000 in
set_option maxRecDepth 100000 in
theorem c_X7_clearCells (l : Launch) (d : Nat) (n : Nat) (hn : 110 ≤ n) (g : xG) (q t k : Nat) (more pic : Int32) (dull : Nat → Int32) (L : xL) (hp : fPn q) (A : pnA g q k more pic dull) (hL : lwA g n t L) (night : Int32) : xC l yX7_clearCells cX7_clearCells 5 (some .int) (xR (d + 4) 0 0) [.ref q, .ref t, .int night] (n, fh g) (qI n fun v g1 => v = clearS L k more pic dull night ∧ fr (fX q t) g g1) := by
  refine xC_of false (by decide +kernel) (fun z => by cases z) (Nat.le_of_ble_eq_true rfl) ?_
  have hq1 := hp.1
  have hq2 := hp.2.1
  have hT := hL.1
  have hlo := hT.lo
  have htn := hL.2.1
  have hk6 := A.2.2.2.2
  have key : ∀ i, i ≤ 16 → ∀ (g1 : xG), fr (fX q t) g g1 → xJ l (RX7, 5, (some .int), false, (xR (d + 4) 0 0), none) cX7_clearCells (qI n fun v g1 => v = clearS L k more pic dull night ∧ fr (fX q t) g g1) 0 0 5 [(4, .int (nI i)), (3, .int (setF (fun c => clearF L k more pic c (dull c) night) i)), (0, .ref q), (1, .ref t), (2, .int night)] [] (n, fh g1) := by
    refine x_loop 16 _ ?_ ?_
    · intro g1 hf
      refine xj_iload (i := 4) 0 rfl dX7_clearCells_5 ?_
      refine xj_bipush (v := 16) (by decide) dX7_clearCells_7 ?_
      refine xj_icmp_ge (tgt := 36) (by decide) dX7_clearCells_9 (fun zc9 => ?_) (fun zc9 => ?_)
      · refine xj_iload_n (n := 3) (i := 3) 1 rfl rfl dX7_clearCells_36 ?_
        exact xj_ireturn rfl (nr_i _) (Nat.zero_le _) (Nat.zero_le _) dX7_clearCells_37 (qI_e ⟨rfl, hf⟩)
      · exact absurd (nI_le (Nat.le_refl _) (by decide)) zc9
    · intro i hi ih g1 hf
      refine xj_iload (i := 4) 0 rfl dX7_clearCells_5 ?_
      refine xj_bipush (v := 16) (by decide) dX7_clearCells_7 ?_
      refine xj_icmp_ge (tgt := 36) (by decide) dX7_clearCells_9 (fun zc9 => ?_) (fun zc9 => ?_)
      · exact absurd zc9 (nI_ge hi (by decide))
      · refine xj_aload_n (n := 0) (i := 0) 2 rfl rfl dX7_clearCells_12 ?_
        refine xj_aload_n (n := 1) (i := 1) 3 rfl rfl dX7_clearCells_13 ?_
        refine xj_iload (i := 4) 0 rfl dX7_clearCells_14 ?_
        refine xj_iload_n (n := 2) (i := 2) 4 rfl rfl dX7_clearCells_16 ?_
        refine xj_callV kv_X7_71 (c_X7_isClear l (d + 0) n hn g1 q t k more pic dull L hp (A.keep hp hT hf) (hL.fx hp hf) i night (by omega)) (As := [.ref t, .int (nI i), .int night]) (st := []) (by omega) (hp.2.2.1 _) (ci := 7) rfl rfl rfl rfl (xRm_of (by omega) (by decide) (by omega) (by omega)) (Nat.le_of_ble_eq_true rfl) dX7_clearCells_17 (yk_i (kc := 0) (ks := 0) fun zv1 zg2 hzg2 => ?_)
        obtain ⟨hvzv1, hfzg2⟩ := hzg2
        have Azg2 := (A.keep hp hT hf).keep hp (hL.fx hp hf).1 hfzg2
        have Lzg2 := (hL.fx hp hf).fx hp hfzg2
        refine xj_if_eq (tgt := 30) (by decide) dX7_clearCells_20 (fun zc20 => ?_) (fun zc20 => ?_)
        · have hcl : ¬ clearF L k more pic i (dull i) night = true := bI_0.mp (hvzv1.symm.trans zc20)
          refine xj_iinc (n := 1) (i := 4) (v := nI (i + 1)) (lv1 := [(4, .int (nI (i + 1))), (3, .int (setF (fun c => clearF L k more pic c (dull c) night) i)), (0, .ref q), (1, .ref t), (2, .int night)]) 0 rfl (nI_1 i) rfl (Nat.le_of_ble_eq_true rfl) dX7_clearCells_30 ?_
          refine xj_goto (tgt := 5) (by decide) dX7_clearCells_33 ?_
          refine xj_sub (lv' := [(4, .int (nI (i + 1))), (3, .int (setF (fun c => clearF L k more pic c (dull c) night) i)), (0, .ref q), (1, .ref t), (2, .int night)]) [0, 1, 2, 3, 4] rfl ?_
          have h9 := ih zg2 (hf.tr hfzg2)
          rw [show setF (fun c => clearF L k more pic c (dull c) night) (i + 1) = setF (fun c => clearF L k more pic c (dull c) night) i from if_neg hcl] at h9
          exact h9
        · have hcl : clearF L k more pic i (dull i) night = true := bI_n0.mp (fun z => zc20 (hvzv1.trans z))
          refine xj_iload_n (n := 3) (i := 3) 1 rfl rfl dX7_clearCells_23 ?_
          refine xj_iconst (v := 1) (by decide) dX7_clearCells_24 ?_
          refine xj_iload (i := 4) 0 rfl dX7_clearCells_25 ?_
          refine xj_ishl dX7_clearCells_27 ?_
          refine xj_ior dX7_clearCells_28 ?_
          refine xj_topi (fun zv3 ezv3 => ?_)
          refine xj_istore_n (n := 3) (i := 3) (lv1 := [(3, .int zv3), (4, .int (nI i)), (0, .ref q), (1, .ref t), (2, .int night)]) rfl rfl (Nat.le_of_ble_eq_true rfl) dX7_clearCells_29 ?_
          refine xj_iinc (n := 1) (i := 4) (v := nI (i + 1)) (lv1 := [(4, .int (nI (i + 1))), (3, .int zv3), (0, .ref q), (1, .ref t), (2, .int night)]) 1 rfl (nI_1 i) rfl (Nat.le_of_ble_eq_true rfl) dX7_clearCells_30 ?_
          refine xj_goto (tgt := 5) (by decide) dX7_clearCells_33 ?_
          refine xj_sub (lv' := [(4, .int (nI (i + 1))), (3, .int zv3), (0, .ref q), (1, .ref t), (2, .int night)]) [0, 1, 2, 3, 4] rfl ?_
          have h9 := ih zg2 (hf.tr hfzg2)
          rw [show setF (fun c => clearF L k more pic c (dull c) night) (i + 1) = zv3 from (if_pos hcl).trans ezv3.symm] at h9
          exact h9
  show xJ l (RX7, 5, (some .int), false, (xR (d + 4) 0 0), none) cX7_clearCells _ 0 0 0 [(0, .ref q), (1, .ref t), (2, .int night)] [] (n, fh g)
  refine xj_iconst (v := 0) (by decide) dX7_clearCells_0 ?_
  refine xj_istore_n (n := 3) (i := 3) (lv1 := [(3, .int 0), (0, .ref q), (1, .ref t), (2, .int night)]) rfl rfl (Nat.le_of_ble_eq_true rfl) dX7_clearCells_1 ?_
  refine xj_iconst (v := 0) (by decide) dX7_clearCells_2 ?_
  refine xj_istore (i := 4) (lv1 := [(4, .int 0), (3, .int 0), (0, .ref q), (1, .ref t), (2, .int night)]) rfl (Nat.le_of_ble_eq_true rfl) dX7_clearCells_3 ?_
  refine xj_sub (lv' := [(4, .int 0), (3, .int 0), (0, .ref q), (1, .ref t), (2, .int night)]) [0, 1, 2, 3, 4] rfl ?_
  exact key 0 (Nat.zero_le _) g fr.rf
set_option maxHeartbeats 4000000 in
set_option maxRecDepth 100000 in
theorem c_X7_seenCells (l : Launch) (d : Nat) (n : Nat) (hn : 110 ≤ n) (g : xG) (q t k : Nat) (more pic : Int32) (dull : Nat → Int32) (L : xL) (hp : fPn q) (A : pnA g q k more pic dull) (hL : lwA g n t L) (night : Int32) : xC l yX7_seenCells cX7_seenCells 3 (some .int) (xR (d + 5) 0 0) [.ref q, .ref t, .int night] (n, fh g) (qI n fun v g1 => v = clearS L k more pic dull night &&& pic ∧ fr (fX q t) g g1) := by
  refine xC_of false (by decide +kernel) (fun z => by cases z) (Nat.le_of_ble_eq_true rfl) ?_
  have hq1 := hp.1
  have hq2 := hp.2.1
  have hT := hL.1
  have hlo := hT.lo
  have htn := hL.2.1
  have hk6 := A.2.2.2.2
  show xJ l (RX7, 3, (some .int), false, (xR (d + 5) 0 0), none) cX7_seenCells _ 0 0 0 [(0, .ref q), (1, .ref t), (2, .int night)] [] (n, fh g)
  refine xj_aload_n (n := 0) (i := 0) 0 rfl rfl dX7_seenCells_0 ?_
  refine xj_aload_n (n := 1) (i := 1) 1 rfl rfl dX7_seenCells_1 ?_
  refine xj_iload_n (n := 2) (i := 2) 2 rfl rfl dX7_seenCells_2 ?_
  refine xj_callV kv_X7_75 (c_X7_clearCells l (d + 0) n hn g q t k more pic dull L hp A hL night) (As := [.ref t, .int night]) (st := []) (by omega) (hp.2.2.1 _) (ci := 7) rfl rfl rfl rfl (xRm_of (by omega) (by decide) (by omega) (by omega)) (Nat.le_of_ble_eq_true rfl) dX7_seenCells_3 (yk_i (kc := 0) (ks := 0) fun zv1 zg2 hzg2 => ?_)
  obtain ⟨hvzv1, hfzg2⟩ := hzg2
  have Azg2 := A.keep hp hL.1 hfzg2
  have Lzg2 := hL.fx hp hfzg2
  refine xj_aload_n (n := 0) (i := 0) 0 rfl rfl dX7_seenCells_6 ?_
  refine yj_getf (v := .int (zg2 q 2)) fl_X7_15_7 (by omega) (hp.2.2.1 (zg2 q)) rfl dX7_seenCells_7 ?_
  refine xj_iand dX7_seenCells_10 ?_
  exact xj_ireturn rfl (nr_i _) (Nat.zero_le _) (Nat.zero_le _) dX7_seenCells_11 (qI_e ⟨by rw [hvzv1, Azg2.2.2.1], hfzg2⟩)
set_option maxHeartbeats 4000000 in
set_option maxRecDepth 100000 in
theorem c_X7_costOf (l : Launch) (d : Nat) (n : Nat) (hn : 110 ≤ n) (g : xG) (q t k : Nat) (more pic : Int32) (dull : Nat → Int32) (L : xL) (hp : fPn q) (A : pnA g q k more pic dull) (hL : lwA g n t L) (cells night : Int32) : xC l yX7_costOf cX7_costOf 6 (some .int) (xR (d + 4) 0 0) [.ref q, .ref t, .int cells, .int night] (n, fh g) (qI n fun v g1 => v = costS L k more pic dull cells night ∧ fr (fX q t) g g1) := by
  refine xC_of false (by decide +kernel) (fun z => by cases z) (Nat.le_of_ble_eq_true rfl) ?_
  have hq1 := hp.1
  have hq2 := hp.2.1
  have hT := hL.1
  have hlo := hT.lo
  have htn := hL.2.1
  have hk6 := A.2.2.2.2
  have key : ∀ i, i ≤ 16 → ∀ (g1 : xG), fr (fX q t) g g1 → xJ l (RX7, 6, (some .int), false, (xR (d + 4) 0 0), none) cX7_costOf (qI n fun v g1 => v = costS L k more pic dull cells night ∧ fr (fX q t) g g1) 0 0 6 [(5, .int (nI i)), (4, .int (sumF (fun c => if hasF cells (nI c) = true then costF L k more pic c (dull c) night else 0) i)), (0, .ref q), (1, .ref t), (2, .int cells), (3, .int night)] [] (n, fh g1) := by
    refine x_loop 16 _ ?_ ?_
    · intro g1 hf
      refine xj_iload (i := 5) 0 rfl dX7_costOf_6 ?_
      refine xj_bipush (v := 16) (by decide) dX7_costOf_8 ?_
      refine xj_icmp_ge (tgt := 41) (by decide) dX7_costOf_10 (fun zc10 => ?_) (fun zc10 => ?_)
      · refine xj_iload (i := 4) 1 rfl dX7_costOf_41 ?_
        exact xj_ireturn rfl (nr_i _) (Nat.zero_le _) (Nat.zero_le _) dX7_costOf_43 (qI_e ⟨rfl, hf⟩)
      · exact absurd (nI_le (Nat.le_refl _) (by decide)) zc10
    · intro i hi ih g1 hf
      refine xj_iload (i := 5) 0 rfl dX7_costOf_6 ?_
      refine xj_bipush (v := 16) (by decide) dX7_costOf_8 ?_
      refine xj_icmp_ge (tgt := 41) (by decide) dX7_costOf_10 (fun zc10 => ?_) (fun zc10 => ?_)
      · exact absurd zc10 (nI_ge hi (by decide))
      · refine xj_iload_n (n := 2) (i := 2) 4 rfl rfl dX7_costOf_13 ?_
        refine xj_iload (i := 5) 0 rfl dX7_costOf_14 ?_
        refine xj_callSN kn_X7_59 (c_X11_has l (d + 3) cells (nI i) _) (As := [.int cells, .int (nI i)]) (st := []) rfl rfl (xRm_of (by omega) (by decide) (by omega) (by omega)) (Nat.le_of_ble_eq_true rfl) dX7_costOf_16 (yk_p (kc := 0) (ks := 0) ?_)
        refine xj_if_eq (tgt := 35) (by decide) dX7_costOf_19 (fun zc19 => ?_) (fun zc19 => ?_)
        · have hcl : ¬ hasF cells (nI i) = true := bI_0.mp zc19
          refine xj_iinc (n := 1) (i := 5) (v := nI (i + 1)) (lv1 := [(5, .int (nI (i + 1))), (4, .int (sumF (fun c => if hasF cells (nI c) = true then costF L k more pic c (dull c) night else 0) i)), (0, .ref q), (1, .ref t), (2, .int cells), (3, .int night)]) 0 rfl (nI_1 i) rfl (Nat.le_of_ble_eq_true rfl) dX7_costOf_35 ?_
          refine xj_goto (tgt := 6) (by decide) dX7_costOf_38 ?_
          refine xj_sub (lv' := [(5, .int (nI (i + 1))), (4, .int (sumF (fun c => if hasF cells (nI c) = true then costF L k more pic c (dull c) night else 0) i)), (0, .ref q), (1, .ref t), (2, .int cells), (3, .int night)]) [0, 1, 2, 3, 4, 5] rfl ?_
          have h9 := ih g1 hf
          rw [show sumF (fun c => if hasF cells (nI c) = true then costF L k more pic c (dull c) night else 0) (i + 1) = sumF (fun c => if hasF cells (nI c) = true then costF L k more pic c (dull c) night else 0) i from (congrArg (fun z => sumF (fun c => if hasF cells (nI c) = true then costF L k more pic c (dull c) night else 0) i + z) (if_neg hcl)).trans (Int32.add_zero _)] at h9
          exact h9
        · have hcl : hasF cells (nI i) = true := bI_n0.mp zc19
          refine xj_iload (i := 4) 1 rfl dX7_costOf_22 ?_
          refine xj_aload_n (n := 0) (i := 0) 2 rfl rfl dX7_costOf_24 ?_
          refine xj_aload_n (n := 1) (i := 1) 3 rfl rfl dX7_costOf_25 ?_
          refine xj_iload (i := 5) 0 rfl dX7_costOf_26 ?_
          refine xj_iload_n (n := 3) (i := 3) 5 rfl rfl dX7_costOf_28 ?_
          refine xj_callV kv_X7_63 (c_X7_cost l (d + 0) n hn g1 q t k more pic dull L hp (A.keep hp hT hf) (hL.fx hp hf) i night (by omega)) (As := [.ref t, .int (nI i), .int night]) (st := [.int (sumF (fun c => if hasF cells (nI c) = true then costF L k more pic c (dull c) night else 0) i)]) (by omega) (hp.2.2.1 _) (ci := 7) rfl rfl rfl rfl (xRm_of (by omega) (by decide) (by omega) (by omega)) (Nat.le_of_ble_eq_true rfl) dX7_costOf_29 (yk_i (kc := 0) (ks := 0) fun zv1 zg2 hzg2 => ?_)
          obtain ⟨hvzv1, hfzg2⟩ := hzg2
          have Azg2 := (A.keep hp hT hf).keep hp (hL.fx hp hf).1 hfzg2
          have Lzg2 := (hL.fx hp hf).fx hp hfzg2
          refine xj_iadd dX7_costOf_32 ?_
          refine xj_topi (fun zv3 ezv3 => ?_)
          refine xj_istore (i := 4) (lv1 := [(4, .int zv3), (5, .int (nI i)), (0, .ref q), (1, .ref t), (2, .int cells), (3, .int night)]) rfl (Nat.le_of_ble_eq_true rfl) dX7_costOf_33 ?_
          refine xj_iinc (n := 1) (i := 5) (v := nI (i + 1)) (lv1 := [(5, .int (nI (i + 1))), (4, .int zv3), (0, .ref q), (1, .ref t), (2, .int cells), (3, .int night)]) 1 rfl (nI_1 i) rfl (Nat.le_of_ble_eq_true rfl) dX7_costOf_35 ?_
          refine xj_goto (tgt := 6) (by decide) dX7_costOf_38 ?_
          refine xj_sub (lv' := [(5, .int (nI (i + 1))), (4, .int zv3), (0, .ref q), (1, .ref t), (2, .int cells), (3, .int night)]) [0, 1, 2, 3, 4, 5] rfl ?_
          have h9 := ih zg2 (hf.tr hfzg2)
          rw [show sumF (fun c => if hasF cells (nI c) = true then costF L k more pic c (dull c) night else 0) (i + 1) = zv3 from (congrArg (fun z => sumF (fun c => if hasF cells (nI c) = true then costF L k more pic c (dull c) night else 0) i + z) ((if_pos hcl).trans hvzv1.symm)).trans ezv3.symm] at h9
          exact h9
  show xJ l (RX7, 6, (some .int), false, (xR (d + 4) 0 0), none) cX7_costOf _ 0 0 0 [(0, .ref q), (1, .ref t), (2, .int cells), (3, .int night)] [] (n, fh g)
  refine xj_iconst (v := 0) (by decide) dX7_costOf_0 ?_
  refine xj_istore (i := 4) (lv1 := [(4, .int 0), (0, .ref q), (1, .ref t), (2, .int cells), (3, .int night)]) rfl (Nat.le_of_ble_eq_true rfl) dX7_costOf_1 ?_
  refine xj_iconst (v := 0) (by decide) dX7_costOf_3 ?_
  refine xj_istore (i := 5) (lv1 := [(5, .int 0), (4, .int 0), (0, .ref q), (1, .ref t), (2, .int cells), (3, .int night)]) rfl (Nat.le_of_ble_eq_true rfl) dX7_costOf_4 ?_
  refine xj_sub (lv' := [(5, .int 0), (4, .int 0), (0, .ref q), (1, .ref t), (2, .int cells), (3, .int night)]) [0, 1, 2, 3, 4, 5] rfl ?_
  exact key 0 (Nat.zero_le _) g fr.rf
