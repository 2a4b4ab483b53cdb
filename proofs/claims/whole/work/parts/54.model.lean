def sN (j : Nat) : Prop := j = 103 ∨ j = 104
theorem sN_m (j : Nat) (h : sN j) : sM j := by unfold sN at h; unfold sM; omega
theorem mRun_congr (mc : Nat → Int32) {nm nm' : Nat → Int32} (h : ∀ j, j < 6 → nm j = nm' j) : ∀ (k i : Nat) (s : List Int32), mRun mc nm k i s = mRun mc nm' k i s
  | 0, _, _ => rfl
  | k + 1, i, s => by
    unfold mRun
    have h2 : mStep (mc i) nm s = mStep (mc i) nm' s := by
      unfold mStep
      by_cases h1 : 0 ≤ mc i ∧ mc i ≤ 5
      · obtain ⟨j, hj, e⟩ := nI_bnd (m := 5) (by decide) h1.1 h1.2
        rw [e, nI_clamp (by omega), h j (by omega)]
      · rw [if_neg h1, if_neg h1]
    rw [h2]
    congr 1
    funext s'
    exact mRun_congr mc h k (i + 1) s'
theorem mlR.congr {mc ms : Nat → Int32} {L : xL} (h : mlR mc ms L) {p : Nat} (hp : p < 3) {nm nm' : Nat → Int32} (e : ∀ j, j < 6 → nm j = nm' j) : L p nm = L p nm' := by
  obtain ⟨b, -, -, -, -, h5⟩ := h
  have h6 := h5 p hp nm
  rw [mRun_congr mc e, h5 p hp nm'] at h6
  exact (List.cons.inj (Option.some.inj h6)).1.symm
theorem wi_cl (p : Nat) (w : Int32) {m : Int32} (hm : (if p = 0 then (50 : Int32) else 99) = m) : wiF w 0 m = clF p w := by
  have hm2 : m = 50 ∨ m = 99 := by
    by_cases h : p = 0
    · rw [if_pos h] at hm; exact Or.inl hm.symm
    · rw [if_neg h] at hm; exact Or.inr hm.symm
  have z0 : (0 : Int32).toInt = 0 := rfl
  have h0 : (0 : Int) < m.toInt := by rcases hm2 with rfl | rfl <;> decide
  have h0' : (0 : Int32) < m := (i32_lt _ _).mpr (by omega)
  unfold wiF clF
  rw [hm]
  by_cases h3 : w < m
  · have a := (i32_lt _ _).mp h3
    rw [show (if w < m then w else m) = w from if_pos h3]
    by_cases h1 : w < 0
    · have b := (i32_lt _ _).mp h1
      rw [if_pos h1, if_neg (show ¬ 0 < w from fun z => by have c := (i32_lt _ _).mp z; omega)]
    · have b : ¬ w.toInt < (0 : Int32).toInt := fun z => h1 ((i32_lt _ _).mpr z)
      rw [if_neg h1, if_neg (show ¬ m < w from fun z => by have c := (i32_lt _ _).mp z; omega)]
      by_cases h4 : 0 < w
      · rw [if_pos h4]
      · have e : ¬ (0 : Int32).toInt < w.toInt := fun z => h4 ((i32_lt _ _).mpr z)
        rw [if_neg h4]
        exact Int32.toInt_inj.mp (by omega)
  · have a : ¬ w.toInt < m.toInt := fun z => h3 ((i32_lt _ _).mpr z)
    rw [show (if w < m then w else m) = m from if_neg h3, if_pos h0', if_neg (show ¬ w < 0 from fun z => by have c := (i32_lt _ _).mp z; omega)]
    by_cases h2 : m < w
    · rw [if_pos h2]
    · have e : ¬ m.toInt < w.toInt := fun z => h2 ((i32_lt _ _).mpr z)
      rw [if_neg h2]
      exact Int32.toInt_inj.mp (by omega)
/-- the named row when all six are set -/
theorem nm6 (r : Nat → Int32) (c : Nat) (dl on more pic : Int32) (j : Nat) (hj : j < 6) : upd (upd (upd (upd (upd (upd r 0 (nI (c % 4))) 1 (nI (c / 4))) 2 dl) 3 on) 4 more) 5 ((pic >>> (nI c &&& 31)) &&& 1) j = nmF c dl on more pic j := by
  rcases (show j = 0 ∨ j = 1 ∨ j = 2 ∨ j = 3 ∨ j = 4 ∨ j = 5 by omega) with rfl | rfl | rfl | rfl | rfl | rfl <;> rfl
theorem cor_h {c : Nat} (h : c < 16) : (nI c = 0 ∨ nI c = 3 ∨ nI c = 12 ∨ nI c = 15) ↔ hasF 36873 (nI c) = true := by
  rcases (show c = 0 ∨ c = 1 ∨ c = 2 ∨ c = 3 ∨ c = 4 ∨ c = 5 ∨ c = 6 ∨ c = 7 ∨ c = 8 ∨ c = 9 ∨ c = 10 ∨ c = 11 ∨ c = 12 ∨ c = 13 ∨ c = 14 ∨ c = 15 by omega) with rfl | rfl | rfl | rfl | rfl | rfl | rfl | rfl | rfl | rfl | rfl | rfl | rfl | rfl | rfl | rfl <;> decide
theorem mid_h {c : Nat} (h : c < 16) : (nI c = 5 ∨ nI c = 6 ∨ nI c = 9 ∨ nI c = 10) ↔ hasF 1632 (nI c) = true := by
  rcases (show c = 0 ∨ c = 1 ∨ c = 2 ∨ c = 3 ∨ c = 4 ∨ c = 5 ∨ c = 6 ∨ c = 7 ∨ c = 8 ∨ c = 9 ∨ c = 10 ∨ c = 11 ∨ c = 12 ∨ c = 13 ∨ c = 14 ∨ c = 15 by omega) with rfl | rfl | rfl | rfl | rfl | rfl | rfl | rfl | rfl | rfl | rfl | rfl | rfl | rfl | rfl | rfl <;> decide
set_option maxHeartbeats 4000000 in
set_option maxRecDepth 100000 in
theorem c_X12_isSleeper (l : Launch) (d : Nat) (n : Nat) (hn : 110 ≤ n) (g : xG) (A : zSt) (Λ : Nat → xL) (O : okA A) (C : mA g A Λ) (s : Int32)  : xC l yX12_isSleeper cX12_isSleeper 2 (some .boolean) (xR (d + 1) 0 0) [.ref 86, .int s] (n, fh g) (qP (bI (isSl A s)) (n, fh g)) := by
  refine xC_of false (by decide +kernel) (fun z => by cases z) (Nat.le_of_ble_eq_true rfl) ?_
  have hS6 := O.1.2
  have hW := O.W
  have hT6 := O.2.2.2.1.2.2
  have hN9 := O.2.1.2
  show xJ l (RX12, 2, (some .boolean), false, (xR (d + 1) 0 0), none) cX12_isSleeper _ 0 0 0 [(0, .ref 86), (1, .int s)] [] (n, fh g)
  refine xj_iload_n (n := 1) (i := 1) 1 rfl rfl dX12_isSleeper_0 ?_
  refine xj_iconst (v := 0) (by decide) dX12_isSleeper_1 ?_
  refine xj_aload_n (n := 0) (i := 0) 0 rfl rfl dX12_isSleeper_2 ?_
  refine yj_getf (v := .int (nI (aS A))) fl_X12_90_12 (by omega) (fq_86 g) (congrArg (fun z => some (Value.int z)) (C.S O)) dX12_isSleeper_3 ?_
  refine xj_iconst (v := 1) (by decide) dX12_isSleeper_6 ?_
  refine xj_isub dX12_isSleeper_7 ?_
  refine xj_callS ks_X12_93 (c_X12_in l (d + 0) s 0 ((nI (aS A)) - 1) _) (As := [.int s, .int 0, .int ((nI (aS A)) - 1)]) (st := []) rfl rfl (xRm_of (by omega) (by decide) (by omega) (by omega)) (Nat.le_of_ble_eq_true rfl) dX12_isSleeper_8 (yk_p (kc := 0) (ks := 0) ?_)
  exact xj_ireturn rfl nr_b (Nat.zero_le _) (Nat.zero_le _) dX12_isSleeper_11 (qP_e rfl)
set_option maxHeartbeats 4000000 in
set_option maxRecDepth 100000 in
theorem c_X12_asksOf (l : Launch) (d : Nat) (n : Nat) (hn : 110 ≤ n) (g : xG) (A : zSt) (Λ : Nat → xL) (O : okA A) (C : mA g A Λ) (p : Nat) (hp : p < 3) (s c : Nat) (hs : s < aS A) (hc : c < 16) (dl on : Int32)  : xC l yX12_asksOf cX12_asksOf 6 (some .int) (xR (d + 2) 0 0) [.ref 86, .int (nI p), .int (nI s), .int (nI c), .int dl, .int on] (n, fh g) (qI n fun v g1 => v = saidF (Λ (aW A)) p (A 2 s) (A 3 s) c dl on ∧ fr sN g g1) := by
  refine xC_of false (by decide +kernel) (fun z => by cases z) (Nat.le_of_ble_eq_true rfl) ?_
  have hS6 := O.1.2
  have hW := O.W
  have hT6 := O.2.2.2.1.2.2
  have hN9 := O.2.1.2
  have hs6_s : s < 6 := by omega
  show xJ l (RX12, 6, (some .int), false, (xR (d + 2) 0 0), none) cX12_asksOf _ 0 0 0 [(0, .ref 86), (1, .int (nI p)), (2, .int (nI s)), (3, .int (nI c)), (4, .int dl), (5, .int on)] [] (n, fh g)
  refine xj_aload_n (n := 0) (i := 0) 0 rfl rfl dX12_asksOf_0 ?_
  refine yj_getf (v := .ref 104) fl_X12_65_12 (by omega) (fq_86 g) rfl dX12_asksOf_1 ?_
  refine xj_iconst (v := 0) (by decide) dX12_asksOf_4 ?_
  refine xj_iload_n (n := 3) (i := 3) 3 rfl rfl dX12_asksOf_5 ?_
  refine xj_iconst (v := 4) (by decide) dX12_asksOf_6 ?_
  refine xj_irem (by decide) dX12_asksOf_7 ?_
  refine xj_top (show ((nI c) - (nI c) / 4 * 4) = nI (c % 4) from (nI_rem4 hc)) ?_
  refine yj_iastN 0 (by omega) fA_104 rfl (by omega) (by decide) dX12_asksOf_8 ?_
  obtain ⟨zg1, ezg1⟩ : ∃ z, z = gs g 104 0 (nI (c % 4)) := ⟨_, rfl⟩
  rw [← ezg1]
  have hxzg1 : fr sN g zg1 := by rw [ezg1]; exact fr.rf.gs (by unfold sN; omega) _ _
  have Czg1 := C.keep (fm.of hxzg1 sN_m)
  refine xj_aload_n (n := 0) (i := 0) 0 rfl rfl dX12_asksOf_9 ?_
  refine yj_getf (v := .ref 104) fl_X12_65_12 (by omega) (fq_86 zg1) rfl dX12_asksOf_10 ?_
  refine xj_iconst (v := 1) (by decide) dX12_asksOf_13 ?_
  refine xj_iload_n (n := 3) (i := 3) 3 rfl rfl dX12_asksOf_14 ?_
  refine xj_iconst (v := 4) (by decide) dX12_asksOf_15 ?_
  refine xj_idiv (by decide) dX12_asksOf_16 ?_
  refine xj_top (show ((nI c) / 4) = nI (c / 4) from (nI_div4 hc)) ?_
  refine yj_iastN 1 (by omega) fA_104 rfl (by omega) (by decide) dX12_asksOf_17 ?_
  obtain ⟨zg2, ezg2⟩ : ∃ z, z = gs zg1 104 1 (nI (c / 4)) := ⟨_, rfl⟩
  rw [← ezg2]
  have hxzg2 : fr sN g zg2 := by rw [ezg2]; exact hxzg1.gs (by unfold sN; omega) _ _
  have Czg2 := C.keep (fm.of hxzg2 sN_m)
  refine xj_aload_n (n := 0) (i := 0) 0 rfl rfl dX12_asksOf_18 ?_
  refine yj_getf (v := .ref 104) fl_X12_65_12 (by omega) (fq_86 zg2) rfl dX12_asksOf_19 ?_
  refine xj_iconst (v := 2) (by decide) dX12_asksOf_22 ?_
  refine xj_iload (i := 4) 4 rfl dX12_asksOf_23 ?_
  refine yj_iastN 2 (by omega) fA_104 rfl (by omega) (by decide) dX12_asksOf_25 ?_
  obtain ⟨zg3, ezg3⟩ : ∃ z, z = gs zg2 104 2 dl := ⟨_, rfl⟩
  rw [← ezg3]
  have hxzg3 : fr sN g zg3 := by rw [ezg3]; exact hxzg2.gs (by unfold sN; omega) _ _
  have Czg3 := C.keep (fm.of hxzg3 sN_m)
  refine xj_aload_n (n := 0) (i := 0) 0 rfl rfl dX12_asksOf_26 ?_
  refine yj_getf (v := .ref 104) fl_X12_65_12 (by omega) (fq_86 zg3) rfl dX12_asksOf_27 ?_
  refine xj_iconst (v := 3) (by decide) dX12_asksOf_30 ?_
  refine xj_iload (i := 5) 5 rfl dX12_asksOf_31 ?_
  refine yj_iastN 3 (by omega) fA_104 rfl (by omega) (by decide) dX12_asksOf_33 ?_
  obtain ⟨zg4, ezg4⟩ : ∃ z, z = gs zg3 104 3 on := ⟨_, rfl⟩
  rw [← ezg4]
  have hxzg4 : fr sN g zg4 := by rw [ezg4]; exact hxzg3.gs (by unfold sN; omega) _ _
  have Czg4 := C.keep (fm.of hxzg4 sN_m)
  refine xj_aload_n (n := 0) (i := 0) 0 rfl rfl dX12_asksOf_34 ?_
  refine yj_getf (v := .ref 104) fl_X12_65_12 (by omega) (fq_86 zg4) rfl dX12_asksOf_35 ?_
  refine xj_iconst (v := 4) (by decide) dX12_asksOf_38 ?_
  refine xj_aload_n (n := 0) (i := 0) 0 rfl rfl dX12_asksOf_39 ?_
  refine yj_getf (v := .ref 88) fl_X12_13_12 (by omega) (fq_86 zg4) rfl dX12_asksOf_40 ?_
  refine xj_iload_n (n := 2) (i := 2) 2 rfl rfl dX12_asksOf_43 ?_
  refine yj_ialdN s (by omega) fA_88 rfl (by omega) (by decide) dX12_asksOf_44 ?_
  refine xj_top (Czg4.mo hs) ?_
  refine xj_topi (fun zv5 ezv5 => ?_)
  refine yj_iastN 4 (by omega) fA_104 rfl (by omega) (by decide) dX12_asksOf_45 ?_
  obtain ⟨zg6, ezg6⟩ : ∃ z, z = gs zg4 104 4 zv5 := ⟨_, rfl⟩
  rw [← ezg6]
  have hxzg6 : fr sN g zg6 := by rw [ezg6]; exact hxzg4.gs (by unfold sN; omega) _ _
  have Czg6 := C.keep (fm.of hxzg6 sN_m)
  refine xj_aload_n (n := 0) (i := 0) 0 rfl rfl dX12_asksOf_46 ?_
  refine yj_getf (v := .ref 104) fl_X12_65_12 (by omega) (fq_86 zg6) rfl dX12_asksOf_47 ?_
  refine xj_iconst (v := 5) (by decide) dX12_asksOf_50 ?_
  refine xj_aload_n (n := 0) (i := 0) 0 rfl rfl dX12_asksOf_51 ?_
  refine yj_getf (v := .ref 90) fl_X12_19_12 (by omega) (fq_86 zg6) rfl dX12_asksOf_52 ?_
  refine xj_iload_n (n := 2) (i := 2) 2 rfl rfl dX12_asksOf_55 ?_
  refine yj_ialdN s (by omega) fA_90 rfl (by omega) (by decide) dX12_asksOf_56 ?_
  refine xj_top (Czg6.pi hs) ?_
  refine xj_iload_n (n := 3) (i := 3) 3 rfl rfl dX12_asksOf_57 ?_
  refine xj_ishr dX12_asksOf_58 ?_
  refine xj_iconst (v := 1) (by decide) dX12_asksOf_59 ?_
  refine xj_iand dX12_asksOf_60 ?_
  refine xj_topi (fun zv7 ezv7 => ?_)
  refine yj_iastN 5 (by omega) fA_104 rfl (by omega) (by decide) dX12_asksOf_61 ?_
  obtain ⟨zg8, ezg8⟩ : ∃ z, z = gs zg6 104 5 zv7 := ⟨_, rfl⟩
  rw [← ezg8]
  have hxzg8 : fr sN g zg8 := by rw [ezg8]; exact hxzg6.gs (by unfold sN; omega) _ _
  have Czg8 := C.keep (fm.of hxzg8 sN_m)
  refine xj_aload_n (n := 0) (i := 0) 0 rfl rfl dX12_asksOf_62 ?_
  refine xj_iload_n (n := 1) (i := 1) 1 rfl rfl dX12_asksOf_63 ?_
  have hrow : zg8 104 = upd (upd (upd (upd (upd (upd (g 104) 0 (nI (c % 4))) 1 (nI (c / 4))) 2 dl) 3 on) 4 (A 2 s)) 5 (((A 3 s) >>> (nI c &&& 31)) &&& 1) := by rw [ezg8, ezg6, ezg4, ezg3, ezg2, ezg1, gs_s, gs_s, gs_s, gs_s, gs_s, gs_s, ezv7, ezv5]
  refine xj_callV kv_X12_170 (c_X12_says l (d + 0) n hn zg8 (aW A) (by omega) p hp (Λ (aW A)) (Czg8.W O) (Czg8.txt hW)) (As := [.int (nI p)]) (st := []) (by omega) (fq_86 zg8) (ci := 12) rfl rfl rfl rfl (xRm_of (by omega) (by decide) (by omega) (by omega)) (Nat.le_of_ble_eq_true rfl) dX12_asksOf_64 (yk_i (kc := 0) (ks := 0) fun zv9 zg10 hzg10 => ?_)
  obtain ⟨hw9, hf9⟩ := hzg10
  have hx9 : fr sN _ _ := hf9.mono (fun j hj => Or.inl hj)
  refine xj_iconst (v := 0) (by decide) dX12_asksOf_67 ?_
  refine xj_iload_n (n := 1) (i := 1) 1 rfl rfl dX12_asksOf_68 ?_
  refine xj_if_ne (tgt := 77) (by decide) dX12_asksOf_69 (fun zc69 => ?_) (fun zc69 => ?_)
  · have h50 : (if p = 0 then (50 : Int32) else 99) = 99 := if_neg (fun e => zc69 (by rw [e]; rfl))
    refine xj_bipush (v := 99) (by decide) dX12_asksOf_77 ?_
    refine xj_callS ks_X12_173 (c_X12_within l (d + 1) zv9 0 99 _) (As := [.int zv9, .int 0, .int 99]) (st := []) rfl rfl (xRm_of (by omega) (by decide) (by omega) (by omega)) (Nat.le_of_ble_eq_true rfl) dX12_asksOf_79 (yk_p (kc := 0) (ks := 0) ?_)
    exact xj_ireturn rfl (nr_i _) (Nat.zero_le _) (Nat.zero_le _) dX12_asksOf_82 (qI_e ⟨by rw [wi_cl p _ h50, hw9]; unfold saidF; congr 1; exact (C.txt hW).congr hp (fun j hj => by rw [hrow]; exact nm6 _ _ _ _ _ _ j hj), hxzg8.tr hx9⟩)
  · have h50 : (if p = 0 then (50 : Int32) else 99) = 50 := if_pos ((nI_eq (b := 0) (by omega) (by omega)).mp zc69)
    refine xj_bipush (v := 50) (by decide) dX12_asksOf_72 ?_
    refine xj_goto (tgt := 79) (by decide) dX12_asksOf_74 ?_
    refine xj_callS ks_X12_173 (c_X12_within l (d + 1) zv9 0 50 _) (As := [.int zv9, .int 0, .int 50]) (st := []) rfl rfl (xRm_of (by omega) (by decide) (by omega) (by omega)) (Nat.le_of_ble_eq_true rfl) dX12_asksOf_79 (yk_p (kc := 0) (ks := 0) ?_)
    exact xj_ireturn rfl (nr_i _) (Nat.zero_le _) (Nat.zero_le _) dX12_asksOf_82 (qI_e ⟨by rw [wi_cl p _ h50, hw9]; unfold saidF; congr 1; exact (C.txt hW).congr hp (fun j hj => by rw [hrow]; exact nm6 _ _ _ _ _ _ j hj), hxzg8.tr hx9⟩)
set_option maxHeartbeats 4000000 in
set_option maxRecDepth 100000 in
theorem c_X12_dullerOf (l : Launch) (d : Nat) (n : Nat) (hn : 110 ≤ n) (g : xG) (A : zSt) (Λ : Nat → xL) (O : okA A) (C : mA g A Λ) (s c : Nat) (hs : s < aS A) (hc : c < 16) (dl on : Int32)  : xC l yX12_dullerOf cX12_dullerOf 6 (some .int) (xR (d + 3) 0 0) [.ref 86, .int (nI s), .int (nI c), .int dl, .int on] (n, fh g) (qI n fun v g1 => v = dlrF (Λ (aW A)) (aK A s) (A 2 s) (A 3 s) c dl on ∧ fr sN g g1) := by
  refine xC_of false (by decide +kernel) (fun z => by cases z) (Nat.le_of_ble_eq_true rfl) ?_
  have hS6 := O.1.2
  have hW := O.W
  have hT6 := O.2.2.2.1.2.2
  have hN9 := O.2.1.2
  have hs6_s : s < 6 := by omega
  show xJ l (RX12, 6, (some .int), false, (xR (d + 3) 0 0), none) cX12_dullerOf _ 0 0 0 [(0, .ref 86), (1, .int (nI s)), (2, .int (nI c)), (3, .int dl), (4, .int on)] [] (n, fh g)
  have hk6 : aK A s < 6 := O.k6 hs
  have hkk : g 87 s = nI (aK A s) := C.k O hs
  generalize hkg : aK A s = kk at hk6 hkk ⊢
  rcases (show kk = 0 ∨ kk = 1 ∨ kk = 2 ∨ kk = 3 ∨ kk = 4 ∨ kk = 5 by omega) with rfl | rfl | rfl | rfl | rfl | rfl
  · refine xj_aload_n (n := 0) (i := 0) 0 rfl rfl dX12_dullerOf_0 ?_
    refine yj_getf (v := .ref 87) fl_X12_7_12 (by omega) (fq_86 g) rfl dX12_dullerOf_1 ?_
    refine xj_iload_n (n := 1) (i := 1) 1 rfl rfl dX12_dullerOf_4 ?_
    refine yj_ialdN s (by omega) fA_87 rfl (by omega) (by decide) dX12_dullerOf_5 ?_
    refine xj_top (show g 87 s = nI 0 from hkk) ?_
    refine xj_iconst (v := 4) (by decide) dX12_dullerOf_6 ?_
    refine xj_icmp_ne (tgt := 12) (by decide) dX12_dullerOf_7 (fun zc7 => ?_) (fun zc7 => ?_)
    · refine xj_aload_n (n := 0) (i := 0) 0 rfl rfl dX12_dullerOf_12 ?_
      refine xj_iconst (v := 0) (by decide) dX12_dullerOf_13 ?_
      refine xj_iload_n (n := 1) (i := 1) 1 rfl rfl dX12_dullerOf_14 ?_
      refine xj_iload_n (n := 2) (i := 2) 2 rfl rfl dX12_dullerOf_15 ?_
      refine xj_iload_n (n := 3) (i := 3) 3 rfl rfl dX12_dullerOf_16 ?_
      refine xj_iload (i := 4) 4 rfl dX12_dullerOf_17 ?_
      refine xj_callV kv_X12_182 (c_X12_asksOf l (d + 0) n hn g A Λ O C 0 (by omega) s c hs (by omega) dl on) (As := [.int 0, .int (nI s), .int (nI c), .int dl, .int on]) (st := []) (by omega) (fq_86 g) (ci := 12) rfl rfl rfl rfl (xRm_of (by omega) (by decide) (by omega) (by omega)) (Nat.le_of_ble_eq_true rfl) dX12_dullerOf_19 (yk_i (kc := 0) (ks := 0) fun zv1 zg2 hzg2 => ?_)
      obtain ⟨hvzv1, hfnzg2⟩ := hzg2
      have hxzg2 := hfnzg2
      have Czg2 := C.keep (fm.of hxzg2 sN_m)
      refine xj_istore (i := 5) (lv1 := [(5, .int zv1), (0, .ref 86), (1, .int (nI s)), (2, .int (nI c)), (3, .int dl), (4, .int on)]) rfl (Nat.le_of_ble_eq_true rfl) dX12_dullerOf_22 ?_
      have hvS := hvzv1
      refine xj_aload_n (n := 0) (i := 0) 1 rfl rfl dX12_dullerOf_24 ?_
      refine yj_getf (v := .ref 87) fl_X12_7_12 (by omega) (fq_86 zg2) rfl dX12_dullerOf_25 ?_
      refine xj_iload_n (n := 1) (i := 1) 2 rfl rfl dX12_dullerOf_28 ?_
      refine yj_ialdN s (by omega) fA_87 rfl (by omega) (by decide) dX12_dullerOf_29 ?_
      refine xj_top (show zg2 87 s = nI 0 from (by rw [hxzg2 87 (by unfold sN; omega)]; exact hkk)) ?_
      refine xj_iconst (v := 1) (by decide) dX12_dullerOf_30 ?_
      refine xj_icmp_eq (tgt := 44) (by decide) dX12_dullerOf_31 (fun zc31 => ?_) (fun zc31 => ?_)
      · exact absurd zc31 (by decide)
      · refine xj_aload_n (n := 0) (i := 0) 1 rfl rfl dX12_dullerOf_34 ?_
        refine yj_getf (v := .ref 87) fl_X12_7_12 (by omega) (fq_86 zg2) rfl dX12_dullerOf_35 ?_
        refine xj_iload_n (n := 1) (i := 1) 2 rfl rfl dX12_dullerOf_38 ?_
        refine yj_ialdN s (by omega) fA_87 rfl (by omega) (by decide) dX12_dullerOf_39 ?_
        refine xj_top (show zg2 87 s = nI 0 from (by rw [hxzg2 87 (by unfold sN; omega)]; exact hkk)) ?_
        refine xj_iconst (v := 3) (by decide) dX12_dullerOf_40 ?_
        refine xj_icmp_ne (tgt := 57) (by decide) dX12_dullerOf_41 (fun zc41 => ?_) (fun zc41 => ?_)
        · refine xj_aload_n (n := 0) (i := 0) 1 rfl rfl dX12_dullerOf_57 ?_
          refine yj_getf (v := .ref 87) fl_X12_7_12 (by omega) (fq_86 zg2) rfl dX12_dullerOf_58 ?_
          refine xj_iload_n (n := 1) (i := 1) 2 rfl rfl dX12_dullerOf_61 ?_
          refine yj_ialdN s (by omega) fA_87 rfl (by omega) (by decide) dX12_dullerOf_62 ?_
          refine xj_top (show zg2 87 s = nI 0 from (by rw [hxzg2 87 (by unfold sN; omega)]; exact hkk)) ?_
          refine xj_iconst (v := 3) (by decide) dX12_dullerOf_63 ?_
          refine xj_icmp_ne (tgt := 79) (by decide) dX12_dullerOf_64 (fun zc64 => ?_) (fun zc64 => ?_)
          · refine xj_aload_n (n := 0) (i := 0) 1 rfl rfl dX12_dullerOf_79 ?_
            refine yj_getf (v := .ref 87) fl_X12_7_12 (by omega) (fq_86 zg2) rfl dX12_dullerOf_80 ?_
            refine xj_iload_n (n := 1) (i := 1) 2 rfl rfl dX12_dullerOf_83 ?_
            refine yj_ialdN s (by omega) fA_87 rfl (by omega) (by decide) dX12_dullerOf_84 ?_
            refine xj_top (show zg2 87 s = nI 0 from (by rw [hxzg2 87 (by unfold sN; omega)]; exact hkk)) ?_
            refine xj_iconst (v := 5) (by decide) dX12_dullerOf_85 ?_
            refine xj_icmp_ne (tgt := 113) (by decide) dX12_dullerOf_86 (fun zc86 => ?_) (fun zc86 => ?_)
            · refine xj_iload (i := 5) 0 rfl dX12_dullerOf_113 ?_
              exact xj_ireturn rfl (nr_i _) (Nat.zero_le _) (Nat.zero_le _) dX12_dullerOf_115 (qI_e ⟨by show _ = kDull 0 (saidF (Λ (aW A)) 0 (A 2 s) (A 3 s) c dl on) (nI c) (A 2 s) on; rw [← hvS]; rfl, hxzg2⟩)
            · exact absurd zc86 (by decide)
          · exact absurd zc64 (by decide)
        · exact absurd zc41 (by decide)
    · exact absurd zc7 (by decide)
  · refine xj_aload_n (n := 0) (i := 0) 0 rfl rfl dX12_dullerOf_0 ?_
    refine yj_getf (v := .ref 87) fl_X12_7_12 (by omega) (fq_86 g) rfl dX12_dullerOf_1 ?_
    refine xj_iload_n (n := 1) (i := 1) 1 rfl rfl dX12_dullerOf_4 ?_
    refine yj_ialdN s (by omega) fA_87 rfl (by omega) (by decide) dX12_dullerOf_5 ?_
    refine xj_top (show g 87 s = nI 1 from hkk) ?_
    refine xj_iconst (v := 4) (by decide) dX12_dullerOf_6 ?_
    refine xj_icmp_ne (tgt := 12) (by decide) dX12_dullerOf_7 (fun zc7 => ?_) (fun zc7 => ?_)
    · refine xj_aload_n (n := 0) (i := 0) 0 rfl rfl dX12_dullerOf_12 ?_
      refine xj_iconst (v := 0) (by decide) dX12_dullerOf_13 ?_
      refine xj_iload_n (n := 1) (i := 1) 1 rfl rfl dX12_dullerOf_14 ?_
      refine xj_iload_n (n := 2) (i := 2) 2 rfl rfl dX12_dullerOf_15 ?_
      refine xj_iload_n (n := 3) (i := 3) 3 rfl rfl dX12_dullerOf_16 ?_
      refine xj_iload (i := 4) 4 rfl dX12_dullerOf_17 ?_
      refine xj_callV kv_X12_182 (c_X12_asksOf l (d + 0) n hn g A Λ O C 0 (by omega) s c hs (by omega) dl on) (As := [.int 0, .int (nI s), .int (nI c), .int dl, .int on]) (st := []) (by omega) (fq_86 g) (ci := 12) rfl rfl rfl rfl (xRm_of (by omega) (by decide) (by omega) (by omega)) (Nat.le_of_ble_eq_true rfl) dX12_dullerOf_19 (yk_i (kc := 0) (ks := 0) fun zv3 zg4 hzg4 => ?_)
      obtain ⟨hvzv3, hfnzg4⟩ := hzg4
      have hxzg4 := hfnzg4
      have Czg4 := C.keep (fm.of hxzg4 sN_m)
      refine xj_istore (i := 5) (lv1 := [(5, .int zv3), (0, .ref 86), (1, .int (nI s)), (2, .int (nI c)), (3, .int dl), (4, .int on)]) rfl (Nat.le_of_ble_eq_true rfl) dX12_dullerOf_22 ?_
      have hvS := hvzv3
      refine xj_aload_n (n := 0) (i := 0) 1 rfl rfl dX12_dullerOf_24 ?_
      refine yj_getf (v := .ref 87) fl_X12_7_12 (by omega) (fq_86 zg4) rfl dX12_dullerOf_25 ?_
      refine xj_iload_n (n := 1) (i := 1) 2 rfl rfl dX12_dullerOf_28 ?_
      refine yj_ialdN s (by omega) fA_87 rfl (by omega) (by decide) dX12_dullerOf_29 ?_
      refine xj_top (show zg4 87 s = nI 1 from (by rw [hxzg4 87 (by unfold sN; omega)]; exact hkk)) ?_
      refine xj_iconst (v := 1) (by decide) dX12_dullerOf_30 ?_
      refine xj_icmp_eq (tgt := 44) (by decide) dX12_dullerOf_31 (fun zc31 => ?_) (fun zc31 => ?_)
      · refine xj_iload_n (n := 2) (i := 2) 3 rfl rfl dX12_dullerOf_44 ?_
        refine xj_callS ks_X12_190 (c_X12_isCorner l (d + 2) (nI c) _) (As := [.int (nI c)]) (st := []) rfl rfl (xRm_of (by omega) (by decide) (by omega) (by omega)) (Nat.le_of_ble_eq_true rfl) dX12_dullerOf_45 (yk_p (kc := 0) (ks := 0) ?_)
        refine xj_if_eq (tgt := 57) (by decide) dX12_dullerOf_48 (fun zc48 => ?_) (fun zc48 => ?_)
        · have hco : ¬ hasF 36873 (nI c) = true := fun z => bI_0.mp zc48 ((cor_h hc).mpr z)
          refine xj_aload_n (n := 0) (i := 0) 1 rfl rfl dX12_dullerOf_57 ?_
          refine yj_getf (v := .ref 87) fl_X12_7_12 (by omega) (fq_86 zg4) rfl dX12_dullerOf_58 ?_
          refine xj_iload_n (n := 1) (i := 1) 2 rfl rfl dX12_dullerOf_61 ?_
          refine yj_ialdN s (by omega) fA_87 rfl (by omega) (by decide) dX12_dullerOf_62 ?_
          refine xj_top (show zg4 87 s = nI 1 from (by rw [hxzg4 87 (by unfold sN; omega)]; exact hkk)) ?_
          refine xj_iconst (v := 3) (by decide) dX12_dullerOf_63 ?_
          refine xj_icmp_ne (tgt := 79) (by decide) dX12_dullerOf_64 (fun zc64 => ?_) (fun zc64 => ?_)
          · refine xj_aload_n (n := 0) (i := 0) 1 rfl rfl dX12_dullerOf_79 ?_
            refine yj_getf (v := .ref 87) fl_X12_7_12 (by omega) (fq_86 zg4) rfl dX12_dullerOf_80 ?_
            refine xj_iload_n (n := 1) (i := 1) 2 rfl rfl dX12_dullerOf_83 ?_
            refine yj_ialdN s (by omega) fA_87 rfl (by omega) (by decide) dX12_dullerOf_84 ?_
            refine xj_top (show zg4 87 s = nI 1 from (by rw [hxzg4 87 (by unfold sN; omega)]; exact hkk)) ?_
            refine xj_iconst (v := 5) (by decide) dX12_dullerOf_85 ?_
            refine xj_icmp_ne (tgt := 113) (by decide) dX12_dullerOf_86 (fun zc86 => ?_) (fun zc86 => ?_)
            · refine xj_iload (i := 5) 0 rfl dX12_dullerOf_113 ?_
              exact xj_ireturn rfl (nr_i _) (Nat.zero_le _) (Nat.zero_le _) dX12_dullerOf_115 (qI_e ⟨by show _ = kDull 1 (saidF (Λ (aW A)) 0 (A 2 s) (A 3 s) c dl on) (nI c) (A 2 s) on; rw [← hvS]; exact (if_neg hco).symm, hxzg4⟩)
            · exact absurd zc86 (by decide)
          · exact absurd zc64 (by decide)
        · have hco : hasF 36873 (nI c) = true := (cor_h hc).mp (bI_n0.mp zc48)
          refine xj_iload (i := 5) 0 rfl dX12_dullerOf_51 ?_
          refine xj_iconst (v := 2) (by decide) dX12_dullerOf_53 ?_
          refine xj_imul dX12_dullerOf_54 ?_
          refine xj_topi (fun zv5 ezv5 => ?_)
          refine xj_istore (i := 5) (lv1 := [(5, .int zv5), (0, .ref 86), (1, .int (nI s)), (2, .int (nI c)), (3, .int dl), (4, .int on)]) rfl (Nat.le_of_ble_eq_true rfl) dX12_dullerOf_55 ?_
          have hz2 : zv5 = 2 * zv3 := by rw [ezv5, Int32.mul_comm]
          refine xj_aload_n (n := 0) (i := 0) 1 rfl rfl dX12_dullerOf_57 ?_
          refine yj_getf (v := .ref 87) fl_X12_7_12 (by omega) (fq_86 zg4) rfl dX12_dullerOf_58 ?_
          refine xj_iload_n (n := 1) (i := 1) 2 rfl rfl dX12_dullerOf_61 ?_
          refine yj_ialdN s (by omega) fA_87 rfl (by omega) (by decide) dX12_dullerOf_62 ?_
          refine xj_top (show zg4 87 s = nI 1 from (by rw [hxzg4 87 (by unfold sN; omega)]; exact hkk)) ?_
          refine xj_iconst (v := 3) (by decide) dX12_dullerOf_63 ?_
          refine xj_icmp_ne (tgt := 79) (by decide) dX12_dullerOf_64 (fun zc64 => ?_) (fun zc64 => ?_)
          · refine xj_aload_n (n := 0) (i := 0) 1 rfl rfl dX12_dullerOf_79 ?_
            refine yj_getf (v := .ref 87) fl_X12_7_12 (by omega) (fq_86 zg4) rfl dX12_dullerOf_80 ?_
            refine xj_iload_n (n := 1) (i := 1) 2 rfl rfl dX12_dullerOf_83 ?_
            refine yj_ialdN s (by omega) fA_87 rfl (by omega) (by decide) dX12_dullerOf_84 ?_
            refine xj_top (show zg4 87 s = nI 1 from (by rw [hxzg4 87 (by unfold sN; omega)]; exact hkk)) ?_
            refine xj_iconst (v := 5) (by decide) dX12_dullerOf_85 ?_
            refine xj_icmp_ne (tgt := 113) (by decide) dX12_dullerOf_86 (fun zc86 => ?_) (fun zc86 => ?_)
            · refine xj_iload (i := 5) 0 rfl dX12_dullerOf_113 ?_
              exact xj_ireturn rfl (nr_i _) (Nat.zero_le _) (Nat.zero_le _) dX12_dullerOf_115 (qI_e ⟨by show _ = kDull 1 (saidF (Λ (aW A)) 0 (A 2 s) (A 3 s) c dl on) (nI c) (A 2 s) on; rw [← hvS]; rw [hz2]; exact (if_pos hco).symm, hxzg4⟩)
            · exact absurd zc86 (by decide)
          · exact absurd zc64 (by decide)
      · exact absurd (by decide) zc31
    · exact absurd zc7 (by decide)
  · refine xj_aload_n (n := 0) (i := 0) 0 rfl rfl dX12_dullerOf_0 ?_
    refine yj_getf (v := .ref 87) fl_X12_7_12 (by omega) (fq_86 g) rfl dX12_dullerOf_1 ?_
    refine xj_iload_n (n := 1) (i := 1) 1 rfl rfl dX12_dullerOf_4 ?_
    refine yj_ialdN s (by omega) fA_87 rfl (by omega) (by decide) dX12_dullerOf_5 ?_
    refine xj_top (show g 87 s = nI 2 from hkk) ?_
    refine xj_iconst (v := 4) (by decide) dX12_dullerOf_6 ?_
    refine xj_icmp_ne (tgt := 12) (by decide) dX12_dullerOf_7 (fun zc7 => ?_) (fun zc7 => ?_)
    · refine xj_aload_n (n := 0) (i := 0) 0 rfl rfl dX12_dullerOf_12 ?_
      refine xj_iconst (v := 0) (by decide) dX12_dullerOf_13 ?_
      refine xj_iload_n (n := 1) (i := 1) 1 rfl rfl dX12_dullerOf_14 ?_
      refine xj_iload_n (n := 2) (i := 2) 2 rfl rfl dX12_dullerOf_15 ?_
      refine xj_iload_n (n := 3) (i := 3) 3 rfl rfl dX12_dullerOf_16 ?_
      refine xj_iload (i := 4) 4 rfl dX12_dullerOf_17 ?_
      refine xj_callV kv_X12_182 (c_X12_asksOf l (d + 0) n hn g A Λ O C 0 (by omega) s c hs (by omega) dl on) (As := [.int 0, .int (nI s), .int (nI c), .int dl, .int on]) (st := []) (by omega) (fq_86 g) (ci := 12) rfl rfl rfl rfl (xRm_of (by omega) (by decide) (by omega) (by omega)) (Nat.le_of_ble_eq_true rfl) dX12_dullerOf_19 (yk_i (kc := 0) (ks := 0) fun zv6 zg7 hzg7 => ?_)
      obtain ⟨hvzv6, hfnzg7⟩ := hzg7
      have hxzg7 := hfnzg7
      have Czg7 := C.keep (fm.of hxzg7 sN_m)
      refine xj_istore (i := 5) (lv1 := [(5, .int zv6), (0, .ref 86), (1, .int (nI s)), (2, .int (nI c)), (3, .int dl), (4, .int on)]) rfl (Nat.le_of_ble_eq_true rfl) dX12_dullerOf_22 ?_
      have hvS := hvzv6
      refine xj_aload_n (n := 0) (i := 0) 1 rfl rfl dX12_dullerOf_24 ?_
      refine yj_getf (v := .ref 87) fl_X12_7_12 (by omega) (fq_86 zg7) rfl dX12_dullerOf_25 ?_
      refine xj_iload_n (n := 1) (i := 1) 2 rfl rfl dX12_dullerOf_28 ?_
      refine yj_ialdN s (by omega) fA_87 rfl (by omega) (by decide) dX12_dullerOf_29 ?_
      refine xj_top (show zg7 87 s = nI 2 from (by rw [hxzg7 87 (by unfold sN; omega)]; exact hkk)) ?_
      refine xj_iconst (v := 1) (by decide) dX12_dullerOf_30 ?_
      refine xj_icmp_eq (tgt := 44) (by decide) dX12_dullerOf_31 (fun zc31 => ?_) (fun zc31 => ?_)
      · exact absurd zc31 (by decide)
      · refine xj_aload_n (n := 0) (i := 0) 1 rfl rfl dX12_dullerOf_34 ?_
        refine yj_getf (v := .ref 87) fl_X12_7_12 (by omega) (fq_86 zg7) rfl dX12_dullerOf_35 ?_
        refine xj_iload_n (n := 1) (i := 1) 2 rfl rfl dX12_dullerOf_38 ?_
        refine yj_ialdN s (by omega) fA_87 rfl (by omega) (by decide) dX12_dullerOf_39 ?_
        refine xj_top (show zg7 87 s = nI 2 from (by rw [hxzg7 87 (by unfold sN; omega)]; exact hkk)) ?_
        refine xj_iconst (v := 3) (by decide) dX12_dullerOf_40 ?_
        refine xj_icmp_ne (tgt := 57) (by decide) dX12_dullerOf_41 (fun zc41 => ?_) (fun zc41 => ?_)
        · refine xj_aload_n (n := 0) (i := 0) 1 rfl rfl dX12_dullerOf_57 ?_
          refine yj_getf (v := .ref 87) fl_X12_7_12 (by omega) (fq_86 zg7) rfl dX12_dullerOf_58 ?_
          refine xj_iload_n (n := 1) (i := 1) 2 rfl rfl dX12_dullerOf_61 ?_
          refine yj_ialdN s (by omega) fA_87 rfl (by omega) (by decide) dX12_dullerOf_62 ?_
          refine xj_top (show zg7 87 s = nI 2 from (by rw [hxzg7 87 (by unfold sN; omega)]; exact hkk)) ?_
          refine xj_iconst (v := 3) (by decide) dX12_dullerOf_63 ?_
          refine xj_icmp_ne (tgt := 79) (by decide) dX12_dullerOf_64 (fun zc64 => ?_) (fun zc64 => ?_)
          · refine xj_aload_n (n := 0) (i := 0) 1 rfl rfl dX12_dullerOf_79 ?_
            refine yj_getf (v := .ref 87) fl_X12_7_12 (by omega) (fq_86 zg7) rfl dX12_dullerOf_80 ?_
            refine xj_iload_n (n := 1) (i := 1) 2 rfl rfl dX12_dullerOf_83 ?_
            refine yj_ialdN s (by omega) fA_87 rfl (by omega) (by decide) dX12_dullerOf_84 ?_
            refine xj_top (show zg7 87 s = nI 2 from (by rw [hxzg7 87 (by unfold sN; omega)]; exact hkk)) ?_
            refine xj_iconst (v := 5) (by decide) dX12_dullerOf_85 ?_
            refine xj_icmp_ne (tgt := 113) (by decide) dX12_dullerOf_86 (fun zc86 => ?_) (fun zc86 => ?_)
            · refine xj_iload (i := 5) 0 rfl dX12_dullerOf_113 ?_
              exact xj_ireturn rfl (nr_i _) (Nat.zero_le _) (Nat.zero_le _) dX12_dullerOf_115 (qI_e ⟨by show _ = kDull 2 (saidF (Λ (aW A)) 0 (A 2 s) (A 3 s) c dl on) (nI c) (A 2 s) on; rw [← hvS]; rfl, hxzg7⟩)
            · exact absurd zc86 (by decide)
          · exact absurd zc64 (by decide)
        · exact absurd zc41 (by decide)
    · exact absurd zc7 (by decide)
  · refine xj_aload_n (n := 0) (i := 0) 0 rfl rfl dX12_dullerOf_0 ?_
    refine yj_getf (v := .ref 87) fl_X12_7_12 (by omega) (fq_86 g) rfl dX12_dullerOf_1 ?_
    refine xj_iload_n (n := 1) (i := 1) 1 rfl rfl dX12_dullerOf_4 ?_
    refine yj_ialdN s (by omega) fA_87 rfl (by omega) (by decide) dX12_dullerOf_5 ?_
    refine xj_top (show g 87 s = nI 3 from hkk) ?_
    refine xj_iconst (v := 4) (by decide) dX12_dullerOf_6 ?_
    refine xj_icmp_ne (tgt := 12) (by decide) dX12_dullerOf_7 (fun zc7 => ?_) (fun zc7 => ?_)
    · refine xj_aload_n (n := 0) (i := 0) 0 rfl rfl dX12_dullerOf_12 ?_
      refine xj_iconst (v := 0) (by decide) dX12_dullerOf_13 ?_
      refine xj_iload_n (n := 1) (i := 1) 1 rfl rfl dX12_dullerOf_14 ?_
      refine xj_iload_n (n := 2) (i := 2) 2 rfl rfl dX12_dullerOf_15 ?_
      refine xj_iload_n (n := 3) (i := 3) 3 rfl rfl dX12_dullerOf_16 ?_
      refine xj_iload (i := 4) 4 rfl dX12_dullerOf_17 ?_
      refine xj_callV kv_X12_182 (c_X12_asksOf l (d + 0) n hn g A Λ O C 0 (by omega) s c hs (by omega) dl on) (As := [.int 0, .int (nI s), .int (nI c), .int dl, .int on]) (st := []) (by omega) (fq_86 g) (ci := 12) rfl rfl rfl rfl (xRm_of (by omega) (by decide) (by omega) (by omega)) (Nat.le_of_ble_eq_true rfl) dX12_dullerOf_19 (yk_i (kc := 0) (ks := 0) fun zv8 zg9 hzg9 => ?_)
      obtain ⟨hvzv8, hfnzg9⟩ := hzg9
      have hxzg9 := hfnzg9
      have Czg9 := C.keep (fm.of hxzg9 sN_m)
      refine xj_istore (i := 5) (lv1 := [(5, .int zv8), (0, .ref 86), (1, .int (nI s)), (2, .int (nI c)), (3, .int dl), (4, .int on)]) rfl (Nat.le_of_ble_eq_true rfl) dX12_dullerOf_22 ?_
      have hvS := hvzv8
      refine xj_aload_n (n := 0) (i := 0) 1 rfl rfl dX12_dullerOf_24 ?_
      refine yj_getf (v := .ref 87) fl_X12_7_12 (by omega) (fq_86 zg9) rfl dX12_dullerOf_25 ?_
      refine xj_iload_n (n := 1) (i := 1) 2 rfl rfl dX12_dullerOf_28 ?_
      refine yj_ialdN s (by omega) fA_87 rfl (by omega) (by decide) dX12_dullerOf_29 ?_
      refine xj_top (show zg9 87 s = nI 3 from (by rw [hxzg9 87 (by unfold sN; omega)]; exact hkk)) ?_
      refine xj_iconst (v := 1) (by decide) dX12_dullerOf_30 ?_
      refine xj_icmp_eq (tgt := 44) (by decide) dX12_dullerOf_31 (fun zc31 => ?_) (fun zc31 => ?_)
      · exact absurd zc31 (by decide)
      · refine xj_aload_n (n := 0) (i := 0) 1 rfl rfl dX12_dullerOf_34 ?_
        refine yj_getf (v := .ref 87) fl_X12_7_12 (by omega) (fq_86 zg9) rfl dX12_dullerOf_35 ?_
        refine xj_iload_n (n := 1) (i := 1) 2 rfl rfl dX12_dullerOf_38 ?_
        refine yj_ialdN s (by omega) fA_87 rfl (by omega) (by decide) dX12_dullerOf_39 ?_
        refine xj_top (show zg9 87 s = nI 3 from (by rw [hxzg9 87 (by unfold sN; omega)]; exact hkk)) ?_
        refine xj_iconst (v := 3) (by decide) dX12_dullerOf_40 ?_
        refine xj_icmp_ne (tgt := 57) (by decide) dX12_dullerOf_41 (fun zc41 => ?_) (fun zc41 => ?_)
        · exact absurd zc41 (fun z => z rfl)
        · refine xj_iload_n (n := 2) (i := 2) 3 rfl rfl dX12_dullerOf_44 ?_
          refine xj_callS ks_X12_190 (c_X12_isCorner l (d + 2) (nI c) _) (As := [.int (nI c)]) (st := []) rfl rfl (xRm_of (by omega) (by decide) (by omega) (by omega)) (Nat.le_of_ble_eq_true rfl) dX12_dullerOf_45 (yk_p (kc := 0) (ks := 0) ?_)
          refine xj_if_eq (tgt := 57) (by decide) dX12_dullerOf_48 (fun zc48 => ?_) (fun zc48 => ?_)
          · have hco : ¬ hasF 36873 (nI c) = true := fun z => bI_0.mp zc48 ((cor_h hc).mpr z)
            refine xj_aload_n (n := 0) (i := 0) 1 rfl rfl dX12_dullerOf_57 ?_
            refine yj_getf (v := .ref 87) fl_X12_7_12 (by omega) (fq_86 zg9) rfl dX12_dullerOf_58 ?_
            refine xj_iload_n (n := 1) (i := 1) 2 rfl rfl dX12_dullerOf_61 ?_
            refine yj_ialdN s (by omega) fA_87 rfl (by omega) (by decide) dX12_dullerOf_62 ?_
            refine xj_top (show zg9 87 s = nI 3 from (by rw [hxzg9 87 (by unfold sN; omega)]; exact hkk)) ?_
            refine xj_iconst (v := 3) (by decide) dX12_dullerOf_63 ?_
            refine xj_icmp_ne (tgt := 79) (by decide) dX12_dullerOf_64 (fun zc64 => ?_) (fun zc64 => ?_)
            · exact absurd zc64 (fun z => z rfl)
            · refine xj_iload (i := 5) 0 rfl dX12_dullerOf_67 ?_
              refine xj_aload_n (n := 0) (i := 0) 1 rfl rfl dX12_dullerOf_69 ?_
              refine yj_getf (v := .ref 88) fl_X12_13_12 (by omega) (fq_86 zg9) rfl dX12_dullerOf_70 ?_
              refine xj_iload_n (n := 1) (i := 1) 2 rfl rfl dX12_dullerOf_73 ?_
              refine yj_ialdN s (by omega) fA_88 rfl (by omega) (by decide) dX12_dullerOf_74 ?_
              refine xj_top (Czg9.mo hs) ?_
              refine xj_iadd dX12_dullerOf_75 ?_
              refine xj_goto (tgt := 115) (by decide) dX12_dullerOf_76 ?_
              exact xj_ireturn rfl (nr_i _) (Nat.zero_le _) (Nat.zero_le _) dX12_dullerOf_115 (qI_e ⟨by show _ = kDull 3 (saidF (Λ (aW A)) 0 (A 2 s) (A 3 s) c dl on) (nI c) (A 2 s) on; rw [← hvS]; exact congrArg (· + A 2 s) (if_neg hco).symm, hxzg9⟩)
          · have hco : hasF 36873 (nI c) = true := (cor_h hc).mp (bI_n0.mp zc48)
            refine xj_iload (i := 5) 0 rfl dX12_dullerOf_51 ?_
            refine xj_iconst (v := 2) (by decide) dX12_dullerOf_53 ?_
            refine xj_imul dX12_dullerOf_54 ?_
            refine xj_topi (fun zv10 ezv10 => ?_)
            refine xj_istore (i := 5) (lv1 := [(5, .int zv10), (0, .ref 86), (1, .int (nI s)), (2, .int (nI c)), (3, .int dl), (4, .int on)]) rfl (Nat.le_of_ble_eq_true rfl) dX12_dullerOf_55 ?_
            have hz2 : zv10 = 2 * zv8 := by rw [ezv10, Int32.mul_comm]
            refine xj_aload_n (n := 0) (i := 0) 1 rfl rfl dX12_dullerOf_57 ?_
            refine yj_getf (v := .ref 87) fl_X12_7_12 (by omega) (fq_86 zg9) rfl dX12_dullerOf_58 ?_
            refine xj_iload_n (n := 1) (i := 1) 2 rfl rfl dX12_dullerOf_61 ?_
            refine yj_ialdN s (by omega) fA_87 rfl (by omega) (by decide) dX12_dullerOf_62 ?_
            refine xj_top (show zg9 87 s = nI 3 from (by rw [hxzg9 87 (by unfold sN; omega)]; exact hkk)) ?_
            refine xj_iconst (v := 3) (by decide) dX12_dullerOf_63 ?_
            refine xj_icmp_ne (tgt := 79) (by decide) dX12_dullerOf_64 (fun zc64 => ?_) (fun zc64 => ?_)
            · exact absurd zc64 (fun z => z rfl)
            · refine xj_iload (i := 5) 0 rfl dX12_dullerOf_67 ?_
              refine xj_aload_n (n := 0) (i := 0) 1 rfl rfl dX12_dullerOf_69 ?_
              refine yj_getf (v := .ref 88) fl_X12_13_12 (by omega) (fq_86 zg9) rfl dX12_dullerOf_70 ?_
              refine xj_iload_n (n := 1) (i := 1) 2 rfl rfl dX12_dullerOf_73 ?_
              refine yj_ialdN s (by omega) fA_88 rfl (by omega) (by decide) dX12_dullerOf_74 ?_
              refine xj_top (Czg9.mo hs) ?_
              refine xj_iadd dX12_dullerOf_75 ?_
              refine xj_goto (tgt := 115) (by decide) dX12_dullerOf_76 ?_
              exact xj_ireturn rfl (nr_i _) (Nat.zero_le _) (Nat.zero_le _) dX12_dullerOf_115 (qI_e ⟨by show _ = kDull 3 (saidF (Λ (aW A)) 0 (A 2 s) (A 3 s) c dl on) (nI c) (A 2 s) on; rw [← hvS]; rw [hz2]; exact congrArg (· + A 2 s) (if_pos hco).symm, hxzg9⟩)
    · exact absurd zc7 (by decide)
  · refine xj_aload_n (n := 0) (i := 0) 0 rfl rfl dX12_dullerOf_0 ?_
    refine yj_getf (v := .ref 87) fl_X12_7_12 (by omega) (fq_86 g) rfl dX12_dullerOf_1 ?_
    refine xj_iload_n (n := 1) (i := 1) 1 rfl rfl dX12_dullerOf_4 ?_
    refine yj_ialdN s (by omega) fA_87 rfl (by omega) (by decide) dX12_dullerOf_5 ?_
    refine xj_top (show g 87 s = nI 4 from hkk) ?_
    refine xj_iconst (v := 4) (by decide) dX12_dullerOf_6 ?_
    refine xj_icmp_ne (tgt := 12) (by decide) dX12_dullerOf_7 (fun zc7 => ?_) (fun zc7 => ?_)
    · exact absurd zc7 (fun z => z rfl)
    · refine xj_iconst (v := 0) (by decide) dX12_dullerOf_10 ?_
      exact xj_ireturn rfl (nr_i _) (Nat.zero_le _) (Nat.zero_le _) dX12_dullerOf_11 (qI_e ⟨by show _ = kDull 4 (saidF (Λ (aW A)) 0 (A 2 s) (A 3 s) c dl on) (nI c) (A 2 s) on; rfl, fr.rf⟩)
  · refine xj_aload_n (n := 0) (i := 0) 0 rfl rfl dX12_dullerOf_0 ?_
    refine yj_getf (v := .ref 87) fl_X12_7_12 (by omega) (fq_86 g) rfl dX12_dullerOf_1 ?_
    refine xj_iload_n (n := 1) (i := 1) 1 rfl rfl dX12_dullerOf_4 ?_
    refine yj_ialdN s (by omega) fA_87 rfl (by omega) (by decide) dX12_dullerOf_5 ?_
    refine xj_top (show g 87 s = nI 5 from hkk) ?_
    refine xj_iconst (v := 4) (by decide) dX12_dullerOf_6 ?_
    refine xj_icmp_ne (tgt := 12) (by decide) dX12_dullerOf_7 (fun zc7 => ?_) (fun zc7 => ?_)
    · refine xj_aload_n (n := 0) (i := 0) 0 rfl rfl dX12_dullerOf_12 ?_
      refine xj_iconst (v := 0) (by decide) dX12_dullerOf_13 ?_
      refine xj_iload_n (n := 1) (i := 1) 1 rfl rfl dX12_dullerOf_14 ?_
      refine xj_iload_n (n := 2) (i := 2) 2 rfl rfl dX12_dullerOf_15 ?_
      refine xj_iload_n (n := 3) (i := 3) 3 rfl rfl dX12_dullerOf_16 ?_
      refine xj_iload (i := 4) 4 rfl dX12_dullerOf_17 ?_
      refine xj_callV kv_X12_182 (c_X12_asksOf l (d + 0) n hn g A Λ O C 0 (by omega) s c hs (by omega) dl on) (As := [.int 0, .int (nI s), .int (nI c), .int dl, .int on]) (st := []) (by omega) (fq_86 g) (ci := 12) rfl rfl rfl rfl (xRm_of (by omega) (by decide) (by omega) (by omega)) (Nat.le_of_ble_eq_true rfl) dX12_dullerOf_19 (yk_i (kc := 0) (ks := 0) fun zv11 zg12 hzg12 => ?_)
      obtain ⟨hvzv11, hfnzg12⟩ := hzg12
      have hxzg12 := hfnzg12
      have Czg12 := C.keep (fm.of hxzg12 sN_m)
      refine xj_istore (i := 5) (lv1 := [(5, .int zv11), (0, .ref 86), (1, .int (nI s)), (2, .int (nI c)), (3, .int dl), (4, .int on)]) rfl (Nat.le_of_ble_eq_true rfl) dX12_dullerOf_22 ?_
      have hvS := hvzv11
      refine xj_aload_n (n := 0) (i := 0) 1 rfl rfl dX12_dullerOf_24 ?_
      refine yj_getf (v := .ref 87) fl_X12_7_12 (by omega) (fq_86 zg12) rfl dX12_dullerOf_25 ?_
      refine xj_iload_n (n := 1) (i := 1) 2 rfl rfl dX12_dullerOf_28 ?_
      refine yj_ialdN s (by omega) fA_87 rfl (by omega) (by decide) dX12_dullerOf_29 ?_
      refine xj_top (show zg12 87 s = nI 5 from (by rw [hxzg12 87 (by unfold sN; omega)]; exact hkk)) ?_
      refine xj_iconst (v := 1) (by decide) dX12_dullerOf_30 ?_
      refine xj_icmp_eq (tgt := 44) (by decide) dX12_dullerOf_31 (fun zc31 => ?_) (fun zc31 => ?_)
      · exact absurd zc31 (by decide)
      · refine xj_aload_n (n := 0) (i := 0) 1 rfl rfl dX12_dullerOf_34 ?_
        refine yj_getf (v := .ref 87) fl_X12_7_12 (by omega) (fq_86 zg12) rfl dX12_dullerOf_35 ?_
        refine xj_iload_n (n := 1) (i := 1) 2 rfl rfl dX12_dullerOf_38 ?_
        refine yj_ialdN s (by omega) fA_87 rfl (by omega) (by decide) dX12_dullerOf_39 ?_
        refine xj_top (show zg12 87 s = nI 5 from (by rw [hxzg12 87 (by unfold sN; omega)]; exact hkk)) ?_
        refine xj_iconst (v := 3) (by decide) dX12_dullerOf_40 ?_
        refine xj_icmp_ne (tgt := 57) (by decide) dX12_dullerOf_41 (fun zc41 => ?_) (fun zc41 => ?_)
        · refine xj_aload_n (n := 0) (i := 0) 1 rfl rfl dX12_dullerOf_57 ?_
          refine yj_getf (v := .ref 87) fl_X12_7_12 (by omega) (fq_86 zg12) rfl dX12_dullerOf_58 ?_
          refine xj_iload_n (n := 1) (i := 1) 2 rfl rfl dX12_dullerOf_61 ?_
          refine yj_ialdN s (by omega) fA_87 rfl (by omega) (by decide) dX12_dullerOf_62 ?_
          refine xj_top (show zg12 87 s = nI 5 from (by rw [hxzg12 87 (by unfold sN; omega)]; exact hkk)) ?_
          refine xj_iconst (v := 3) (by decide) dX12_dullerOf_63 ?_
          refine xj_icmp_ne (tgt := 79) (by decide) dX12_dullerOf_64 (fun zc64 => ?_) (fun zc64 => ?_)
          · refine xj_aload_n (n := 0) (i := 0) 1 rfl rfl dX12_dullerOf_79 ?_
            refine yj_getf (v := .ref 87) fl_X12_7_12 (by omega) (fq_86 zg12) rfl dX12_dullerOf_80 ?_
            refine xj_iload_n (n := 1) (i := 1) 2 rfl rfl dX12_dullerOf_83 ?_
            refine yj_ialdN s (by omega) fA_87 rfl (by omega) (by decide) dX12_dullerOf_84 ?_
            refine xj_top (show zg12 87 s = nI 5 from (by rw [hxzg12 87 (by unfold sN; omega)]; exact hkk)) ?_
            refine xj_iconst (v := 5) (by decide) dX12_dullerOf_85 ?_
            refine xj_icmp_ne (tgt := 113) (by decide) dX12_dullerOf_86 (fun zc86 => ?_) (fun zc86 => ?_)
            · exact absurd zc86 (fun z => z rfl)
            · refine xj_iload (i := 4) 5 rfl dX12_dullerOf_89 ?_
              refine xj_iconst (v := 2) (by decide) dX12_dullerOf_91 ?_
              refine xj_irem (by decide) dX12_dullerOf_92 ?_
              refine xj_iconst (v := 1) (by decide) dX12_dullerOf_93 ?_
              refine xj_icmp_ne (tgt := 109) (by decide) dX12_dullerOf_94 (fun zc94 => ?_) (fun zc94 => ?_)
              · refine xj_iconst (v := 1) (by decide) dX12_dullerOf_109 ?_
                refine xj_goto (tgt := 115) (by decide) dX12_dullerOf_110 ?_
                exact xj_ireturn rfl (nr_i _) (Nat.zero_le _) (Nat.zero_le _) dX12_dullerOf_115 (qI_e ⟨by show _ = kDull 5 (saidF (Λ (aW A)) 0 (A 2 s) (A 3 s) c dl on) (nI c) (A 2 s) on; rw [← hvS]; exact (if_neg zc94).symm, hxzg12⟩)
              · refine xj_iload (i := 5) 0 rfl dX12_dullerOf_97 ?_
                refine xj_aload_n (n := 0) (i := 0) 1 rfl rfl dX12_dullerOf_99 ?_
                refine yj_getf (v := .ref 88) fl_X12_13_12 (by omega) (fq_86 zg12) rfl dX12_dullerOf_100 ?_
                refine xj_iload_n (n := 1) (i := 1) 2 rfl rfl dX12_dullerOf_103 ?_
                refine yj_ialdN s (by omega) fA_88 rfl (by omega) (by decide) dX12_dullerOf_104 ?_
                refine xj_top (Czg12.mo hs) ?_
                refine xj_iadd dX12_dullerOf_105 ?_
                refine xj_goto (tgt := 115) (by decide) dX12_dullerOf_106 ?_
                exact xj_ireturn rfl (nr_i _) (Nat.zero_le _) (Nat.zero_le _) dX12_dullerOf_115 (qI_e ⟨by show _ = kDull 5 (saidF (Λ (aW A)) 0 (A 2 s) (A 3 s) c dl on) (nI c) (A 2 s) on; rw [← hvS]; exact (if_pos zc94).symm, hxzg12⟩)
          · exact absurd zc64 (by decide)
        · exact absurd zc41 (by decide)
    · exact absurd zc7 (by decide)
set_option maxHeartbeats 4000000 in
set_option maxRecDepth 100000 in
theorem c_X12_isClear (l : Launch) (d : Nat) (n : Nat) (hn : 110 ≤ n) (g : xG) (A : zSt) (Λ : Nat → xL) (O : okA A) (C : mA g A Λ) (s c : Nat) (hs : s < aS A) (hc : c < 16) (dl on : Int32)  : xC l yX12_isClear cX12_isClear 7 (some .boolean) (xR (d + 3) 0 0) [.ref 86, .int (nI s), .int (nI c), .int dl, .int on] (n, fh g) (qI n fun v g1 => v = bI (clearF (Λ (aW A)) (aK A s) (A 2 s) (A 3 s) c dl on = true) ∧ fr sN g g1) := by
  refine xC_of false (by decide +kernel) (fun z => by cases z) (Nat.le_of_ble_eq_true rfl) ?_
  have hS6 := O.1.2
  have hW := O.W
  have hT6 := O.2.2.2.1.2.2
  have hN9 := O.2.1.2
  have hs6_s : s < 6 := by omega
  show xJ l (RX12, 7, (some .boolean), false, (xR (d + 3) 0 0), none) cX12_isClear _ 0 0 0 [(0, .ref 86), (1, .int (nI s)), (2, .int (nI c)), (3, .int dl), (4, .int on)] [] (n, fh g)
  have hk6 : aK A s < 6 := O.k6 hs
  have hkk : g 87 s = nI (aK A s) := C.k O hs
  generalize hkg : aK A s = kk at hk6 hkk ⊢
  rcases (show kk = 0 ∨ kk = 1 ∨ kk = 2 ∨ kk = 3 ∨ kk = 4 ∨ kk = 5 by omega) with rfl | rfl | rfl | rfl | rfl | rfl
  · refine xj_aload_n (n := 0) (i := 0) 0 rfl rfl dX12_isClear_0 ?_
    refine xj_iconst (v := 1) (by decide) dX12_isClear_1 ?_
    refine xj_iload_n (n := 1) (i := 1) 1 rfl rfl dX12_isClear_2 ?_
    refine xj_iload_n (n := 2) (i := 2) 2 rfl rfl dX12_isClear_3 ?_
    refine xj_iload_n (n := 3) (i := 3) 3 rfl rfl dX12_isClear_4 ?_
    refine xj_iload (i := 4) 4 rfl dX12_isClear_5 ?_
    refine xj_callV kv_X12_182 (c_X12_asksOf l (d + 0) n hn g A Λ O C 1 (by omega) s c hs (by omega) dl on) (As := [.int 1, .int (nI s), .int (nI c), .int dl, .int on]) (st := []) (by omega) (fq_86 g) (ci := 12) rfl rfl rfl rfl (xRm_of (by omega) (by decide) (by omega) (by omega)) (Nat.le_of_ble_eq_true rfl) dX12_isClear_7 (yk_i (kc := 0) (ks := 0) fun zv1 zg2 hzg2 => ?_)
    obtain ⟨hvzv1, hfnzg2⟩ := hzg2
    have hxzg2 := hfnzg2
    have Czg2 := C.keep (fm.of hxzg2 sN_m)
    refine xj_istore (i := 5) (lv1 := [(5, .int zv1), (0, .ref 86), (1, .int (nI s)), (2, .int (nI c)), (3, .int dl), (4, .int on)]) rfl (Nat.le_of_ble_eq_true rfl) dX12_isClear_10 ?_
    have hvS := hvzv1
    refine xj_aload_n (n := 0) (i := 0) 1 rfl rfl dX12_isClear_12 ?_
    refine yj_getf (v := .ref 87) fl_X12_7_12 (by omega) (fq_86 zg2) rfl dX12_isClear_13 ?_
    refine xj_iload_n (n := 1) (i := 1) 2 rfl rfl dX12_isClear_16 ?_
    refine yj_ialdN s (by omega) fA_87 rfl (by omega) (by decide) dX12_isClear_17 ?_
    refine xj_top (show zg2 87 s = nI 0 from (by rw [hxzg2 87 (by unfold sN; omega)]; exact hkk)) ?_
    refine xj_iconst (v := 2) (by decide) dX12_isClear_18 ?_
    refine xj_icmp_eq (tgt := 32) (by decide) dX12_isClear_19 (fun zc19 => ?_) (fun zc19 => ?_)
    · exact absurd zc19 (by decide)
    · refine xj_aload_n (n := 0) (i := 0) 1 rfl rfl dX12_isClear_22 ?_
      refine yj_getf (v := .ref 87) fl_X12_7_12 (by omega) (fq_86 zg2) rfl dX12_isClear_23 ?_
      refine xj_iload_n (n := 1) (i := 1) 2 rfl rfl dX12_isClear_26 ?_
      refine yj_ialdN s (by omega) fA_87 rfl (by omega) (by decide) dX12_isClear_27 ?_
      refine xj_top (show zg2 87 s = nI 0 from (by rw [hxzg2 87 (by unfold sN; omega)]; exact hkk)) ?_
      refine xj_iconst (v := 4) (by decide) dX12_isClear_28 ?_
      refine xj_icmp_ne (tgt := 44) (by decide) dX12_isClear_29 (fun zc29 => ?_) (fun zc29 => ?_)
      · refine xj_aload_n (n := 0) (i := 0) 1 rfl rfl dX12_isClear_44 ?_
        refine yj_getf (v := .ref 87) fl_X12_7_12 (by omega) (fq_86 zg2) rfl dX12_isClear_45 ?_
        refine xj_iload_n (n := 1) (i := 1) 2 rfl rfl dX12_isClear_48 ?_
        refine yj_ialdN s (by omega) fA_87 rfl (by omega) (by decide) dX12_isClear_49 ?_
        refine xj_top (show zg2 87 s = nI 0 from (by rw [hxzg2 87 (by unfold sN; omega)]; exact hkk)) ?_
        refine xj_iconst (v := 3) (by decide) dX12_isClear_50 ?_
        refine xj_icmp_ne (tgt := 66) (by decide) dX12_isClear_51 (fun zc51 => ?_) (fun zc51 => ?_)
        · refine xj_iload (i := 5) 0 rfl dX12_isClear_66 ?_
          refine xj_istore (i := 6) (lv1 := [(6, .int zv1), (5, .int zv1), (0, .ref 86), (1, .int (nI s)), (2, .int (nI c)), (3, .int dl), (4, .int on)]) rfl (Nat.le_of_ble_eq_true rfl) dX12_isClear_68 ?_
          have hlim : zv1 = kLimit 0 (saidF (Λ (aW A)) 1 (A 2 s) (A 3 s) c dl on) (nI c) (A 2 s) := by rw [← hvS]; exact rfl
          refine xj_iload_n (n := 3) (i := 3) 5 rfl rfl dX12_isClear_70 ?_
          refine xj_iload (i := 6) 0 rfl dX12_isClear_71 ?_
          refine xj_icmp_gt (tgt := 80) (by decide) dX12_isClear_73 (fun zc73 => ?_) (fun zc73 => ?_)
          · refine xj_iconst (v := 0) (by decide) dX12_isClear_80 ?_
            exact xj_ireturn rfl nr_b0 (Nat.zero_le _) (Nat.zero_le _) dX12_isClear_81 (qI_e ⟨(bI_f (fun z => by have z1 := of_decide_eq_true z; have z2 : dl ≤ kLimit 0 (saidF (Λ (aW A)) 1 (A 2 s) (A 3 s) c dl on) (nI c) (A 2 s) := z1; rw [← hlim] at z2; simp only [i32_lt, i32_le] at *; omega)).symm, hxzg2⟩)
          · refine xj_iconst (v := 1) (by decide) dX12_isClear_76 ?_
            refine xj_goto (tgt := 81) (by decide) dX12_isClear_77 ?_
            exact xj_ireturn rfl nr_b1 (Nat.zero_le _) (Nat.zero_le _) dX12_isClear_81 (qI_e ⟨(bI_t (decide_eq_true (by show dl ≤ kLimit 0 _ _ _; rw [← hlim]; simp only [i32_lt, i32_le] at *; omega))).symm, hxzg2⟩)
        · exact absurd zc51 (by decide)
      · exact absurd zc29 (by decide)
  · refine xj_aload_n (n := 0) (i := 0) 0 rfl rfl dX12_isClear_0 ?_
    refine xj_iconst (v := 1) (by decide) dX12_isClear_1 ?_
    refine xj_iload_n (n := 1) (i := 1) 1 rfl rfl dX12_isClear_2 ?_
    refine xj_iload_n (n := 2) (i := 2) 2 rfl rfl dX12_isClear_3 ?_
    refine xj_iload_n (n := 3) (i := 3) 3 rfl rfl dX12_isClear_4 ?_
    refine xj_iload (i := 4) 4 rfl dX12_isClear_5 ?_
    refine xj_callV kv_X12_182 (c_X12_asksOf l (d + 0) n hn g A Λ O C 1 (by omega) s c hs (by omega) dl on) (As := [.int 1, .int (nI s), .int (nI c), .int dl, .int on]) (st := []) (by omega) (fq_86 g) (ci := 12) rfl rfl rfl rfl (xRm_of (by omega) (by decide) (by omega) (by omega)) (Nat.le_of_ble_eq_true rfl) dX12_isClear_7 (yk_i (kc := 0) (ks := 0) fun zv3 zg4 hzg4 => ?_)
    obtain ⟨hvzv3, hfnzg4⟩ := hzg4
    have hxzg4 := hfnzg4
    have Czg4 := C.keep (fm.of hxzg4 sN_m)
    refine xj_istore (i := 5) (lv1 := [(5, .int zv3), (0, .ref 86), (1, .int (nI s)), (2, .int (nI c)), (3, .int dl), (4, .int on)]) rfl (Nat.le_of_ble_eq_true rfl) dX12_isClear_10 ?_
    have hvS := hvzv3
    refine xj_aload_n (n := 0) (i := 0) 1 rfl rfl dX12_isClear_12 ?_
    refine yj_getf (v := .ref 87) fl_X12_7_12 (by omega) (fq_86 zg4) rfl dX12_isClear_13 ?_
    refine xj_iload_n (n := 1) (i := 1) 2 rfl rfl dX12_isClear_16 ?_
    refine yj_ialdN s (by omega) fA_87 rfl (by omega) (by decide) dX12_isClear_17 ?_
    refine xj_top (show zg4 87 s = nI 1 from (by rw [hxzg4 87 (by unfold sN; omega)]; exact hkk)) ?_
    refine xj_iconst (v := 2) (by decide) dX12_isClear_18 ?_
    refine xj_icmp_eq (tgt := 32) (by decide) dX12_isClear_19 (fun zc19 => ?_) (fun zc19 => ?_)
    · exact absurd zc19 (by decide)
    · refine xj_aload_n (n := 0) (i := 0) 1 rfl rfl dX12_isClear_22 ?_
      refine yj_getf (v := .ref 87) fl_X12_7_12 (by omega) (fq_86 zg4) rfl dX12_isClear_23 ?_
      refine xj_iload_n (n := 1) (i := 1) 2 rfl rfl dX12_isClear_26 ?_
      refine yj_ialdN s (by omega) fA_87 rfl (by omega) (by decide) dX12_isClear_27 ?_
      refine xj_top (show zg4 87 s = nI 1 from (by rw [hxzg4 87 (by unfold sN; omega)]; exact hkk)) ?_
      refine xj_iconst (v := 4) (by decide) dX12_isClear_28 ?_
      refine xj_icmp_ne (tgt := 44) (by decide) dX12_isClear_29 (fun zc29 => ?_) (fun zc29 => ?_)
      · refine xj_aload_n (n := 0) (i := 0) 1 rfl rfl dX12_isClear_44 ?_
        refine yj_getf (v := .ref 87) fl_X12_7_12 (by omega) (fq_86 zg4) rfl dX12_isClear_45 ?_
        refine xj_iload_n (n := 1) (i := 1) 2 rfl rfl dX12_isClear_48 ?_
        refine yj_ialdN s (by omega) fA_87 rfl (by omega) (by decide) dX12_isClear_49 ?_
        refine xj_top (show zg4 87 s = nI 1 from (by rw [hxzg4 87 (by unfold sN; omega)]; exact hkk)) ?_
        refine xj_iconst (v := 3) (by decide) dX12_isClear_50 ?_
        refine xj_icmp_ne (tgt := 66) (by decide) dX12_isClear_51 (fun zc51 => ?_) (fun zc51 => ?_)
        · refine xj_iload (i := 5) 0 rfl dX12_isClear_66 ?_
          refine xj_istore (i := 6) (lv1 := [(6, .int zv3), (5, .int zv3), (0, .ref 86), (1, .int (nI s)), (2, .int (nI c)), (3, .int dl), (4, .int on)]) rfl (Nat.le_of_ble_eq_true rfl) dX12_isClear_68 ?_
          have hlim : zv3 = kLimit 1 (saidF (Λ (aW A)) 1 (A 2 s) (A 3 s) c dl on) (nI c) (A 2 s) := by rw [← hvS]; exact rfl
          refine xj_iload_n (n := 3) (i := 3) 5 rfl rfl dX12_isClear_70 ?_
          refine xj_iload (i := 6) 0 rfl dX12_isClear_71 ?_
          refine xj_icmp_gt (tgt := 80) (by decide) dX12_isClear_73 (fun zc73 => ?_) (fun zc73 => ?_)
          · refine xj_iconst (v := 0) (by decide) dX12_isClear_80 ?_
            exact xj_ireturn rfl nr_b0 (Nat.zero_le _) (Nat.zero_le _) dX12_isClear_81 (qI_e ⟨(bI_f (fun z => by have z1 := of_decide_eq_true z; have z2 : dl ≤ kLimit 1 (saidF (Λ (aW A)) 1 (A 2 s) (A 3 s) c dl on) (nI c) (A 2 s) := z1; rw [← hlim] at z2; simp only [i32_lt, i32_le] at *; omega)).symm, hxzg4⟩)
          · refine xj_iconst (v := 1) (by decide) dX12_isClear_76 ?_
            refine xj_goto (tgt := 81) (by decide) dX12_isClear_77 ?_
            exact xj_ireturn rfl nr_b1 (Nat.zero_le _) (Nat.zero_le _) dX12_isClear_81 (qI_e ⟨(bI_t (decide_eq_true (by show dl ≤ kLimit 1 _ _ _; rw [← hlim]; simp only [i32_lt, i32_le] at *; omega))).symm, hxzg4⟩)
        · exact absurd zc51 (by decide)
      · exact absurd zc29 (by decide)
  · refine xj_aload_n (n := 0) (i := 0) 0 rfl rfl dX12_isClear_0 ?_
    refine xj_iconst (v := 1) (by decide) dX12_isClear_1 ?_
    refine xj_iload_n (n := 1) (i := 1) 1 rfl rfl dX12_isClear_2 ?_
    refine xj_iload_n (n := 2) (i := 2) 2 rfl rfl dX12_isClear_3 ?_
    refine xj_iload_n (n := 3) (i := 3) 3 rfl rfl dX12_isClear_4 ?_
    refine xj_iload (i := 4) 4 rfl dX12_isClear_5 ?_
    refine xj_callV kv_X12_182 (c_X12_asksOf l (d + 0) n hn g A Λ O C 1 (by omega) s c hs (by omega) dl on) (As := [.int 1, .int (nI s), .int (nI c), .int dl, .int on]) (st := []) (by omega) (fq_86 g) (ci := 12) rfl rfl rfl rfl (xRm_of (by omega) (by decide) (by omega) (by omega)) (Nat.le_of_ble_eq_true rfl) dX12_isClear_7 (yk_i (kc := 0) (ks := 0) fun zv5 zg6 hzg6 => ?_)
    obtain ⟨hvzv5, hfnzg6⟩ := hzg6
    have hxzg6 := hfnzg6
    have Czg6 := C.keep (fm.of hxzg6 sN_m)
    refine xj_istore (i := 5) (lv1 := [(5, .int zv5), (0, .ref 86), (1, .int (nI s)), (2, .int (nI c)), (3, .int dl), (4, .int on)]) rfl (Nat.le_of_ble_eq_true rfl) dX12_isClear_10 ?_
    have hvS := hvzv5
    refine xj_aload_n (n := 0) (i := 0) 1 rfl rfl dX12_isClear_12 ?_
    refine yj_getf (v := .ref 87) fl_X12_7_12 (by omega) (fq_86 zg6) rfl dX12_isClear_13 ?_
    refine xj_iload_n (n := 1) (i := 1) 2 rfl rfl dX12_isClear_16 ?_
    refine yj_ialdN s (by omega) fA_87 rfl (by omega) (by decide) dX12_isClear_17 ?_
    refine xj_top (show zg6 87 s = nI 2 from (by rw [hxzg6 87 (by unfold sN; omega)]; exact hkk)) ?_
    refine xj_iconst (v := 2) (by decide) dX12_isClear_18 ?_
    refine xj_icmp_eq (tgt := 32) (by decide) dX12_isClear_19 (fun zc19 => ?_) (fun zc19 => ?_)
    · refine xj_iload (i := 5) 0 rfl dX12_isClear_32 ?_
      refine xj_aload_n (n := 0) (i := 0) 1 rfl rfl dX12_isClear_34 ?_
      refine yj_getf (v := .ref 88) fl_X12_13_12 (by omega) (fq_86 zg6) rfl dX12_isClear_35 ?_
      refine xj_iload_n (n := 1) (i := 1) 2 rfl rfl dX12_isClear_38 ?_
      refine yj_ialdN s (by omega) fA_88 rfl (by omega) (by decide) dX12_isClear_39 ?_
      refine xj_top (Czg6.mo hs) ?_
      refine xj_iadd dX12_isClear_40 ?_
      refine xj_goto (tgt := 68) (by decide) dX12_isClear_41 ?_
      refine xj_topi (fun zv7 ezv7 => ?_)
      refine xj_istore (i := 6) (lv1 := [(6, .int zv7), (5, .int zv5), (0, .ref 86), (1, .int (nI s)), (2, .int (nI c)), (3, .int dl), (4, .int on)]) rfl (Nat.le_of_ble_eq_true rfl) dX12_isClear_68 ?_
      have hlim : zv7 = kLimit 2 (saidF (Λ (aW A)) 1 (A 2 s) (A 3 s) c dl on) (nI c) (A 2 s) := by rw [← hvS]; exact ezv7.trans rfl
      refine xj_iload_n (n := 3) (i := 3) 5 rfl rfl dX12_isClear_70 ?_
      refine xj_iload (i := 6) 0 rfl dX12_isClear_71 ?_
      refine xj_icmp_gt (tgt := 80) (by decide) dX12_isClear_73 (fun zc73 => ?_) (fun zc73 => ?_)
      · refine xj_iconst (v := 0) (by decide) dX12_isClear_80 ?_
        exact xj_ireturn rfl nr_b0 (Nat.zero_le _) (Nat.zero_le _) dX12_isClear_81 (qI_e ⟨(bI_f (fun z => by have z1 := of_decide_eq_true z; have z2 : dl ≤ kLimit 2 (saidF (Λ (aW A)) 1 (A 2 s) (A 3 s) c dl on) (nI c) (A 2 s) := z1; rw [← hlim] at z2; simp only [i32_lt, i32_le] at *; omega)).symm, hxzg6⟩)
      · refine xj_iconst (v := 1) (by decide) dX12_isClear_76 ?_
        refine xj_goto (tgt := 81) (by decide) dX12_isClear_77 ?_
        exact xj_ireturn rfl nr_b1 (Nat.zero_le _) (Nat.zero_le _) dX12_isClear_81 (qI_e ⟨(bI_t (decide_eq_true (by show dl ≤ kLimit 2 _ _ _; rw [← hlim]; simp only [i32_lt, i32_le] at *; omega))).symm, hxzg6⟩)
    · exact absurd (by decide) zc19
  · refine xj_aload_n (n := 0) (i := 0) 0 rfl rfl dX12_isClear_0 ?_
    refine xj_iconst (v := 1) (by decide) dX12_isClear_1 ?_
    refine xj_iload_n (n := 1) (i := 1) 1 rfl rfl dX12_isClear_2 ?_
    refine xj_iload_n (n := 2) (i := 2) 2 rfl rfl dX12_isClear_3 ?_
    refine xj_iload_n (n := 3) (i := 3) 3 rfl rfl dX12_isClear_4 ?_
    refine xj_iload (i := 4) 4 rfl dX12_isClear_5 ?_
    refine xj_callV kv_X12_182 (c_X12_asksOf l (d + 0) n hn g A Λ O C 1 (by omega) s c hs (by omega) dl on) (As := [.int 1, .int (nI s), .int (nI c), .int dl, .int on]) (st := []) (by omega) (fq_86 g) (ci := 12) rfl rfl rfl rfl (xRm_of (by omega) (by decide) (by omega) (by omega)) (Nat.le_of_ble_eq_true rfl) dX12_isClear_7 (yk_i (kc := 0) (ks := 0) fun zv8 zg9 hzg9 => ?_)
    obtain ⟨hvzv8, hfnzg9⟩ := hzg9
    have hxzg9 := hfnzg9
    have Czg9 := C.keep (fm.of hxzg9 sN_m)
    refine xj_istore (i := 5) (lv1 := [(5, .int zv8), (0, .ref 86), (1, .int (nI s)), (2, .int (nI c)), (3, .int dl), (4, .int on)]) rfl (Nat.le_of_ble_eq_true rfl) dX12_isClear_10 ?_
    have hvS := hvzv8
    refine xj_aload_n (n := 0) (i := 0) 1 rfl rfl dX12_isClear_12 ?_
    refine yj_getf (v := .ref 87) fl_X12_7_12 (by omega) (fq_86 zg9) rfl dX12_isClear_13 ?_
    refine xj_iload_n (n := 1) (i := 1) 2 rfl rfl dX12_isClear_16 ?_
    refine yj_ialdN s (by omega) fA_87 rfl (by omega) (by decide) dX12_isClear_17 ?_
    refine xj_top (show zg9 87 s = nI 3 from (by rw [hxzg9 87 (by unfold sN; omega)]; exact hkk)) ?_
    refine xj_iconst (v := 2) (by decide) dX12_isClear_18 ?_
    refine xj_icmp_eq (tgt := 32) (by decide) dX12_isClear_19 (fun zc19 => ?_) (fun zc19 => ?_)
    · exact absurd zc19 (by decide)
    · refine xj_aload_n (n := 0) (i := 0) 1 rfl rfl dX12_isClear_22 ?_
      refine yj_getf (v := .ref 87) fl_X12_7_12 (by omega) (fq_86 zg9) rfl dX12_isClear_23 ?_
      refine xj_iload_n (n := 1) (i := 1) 2 rfl rfl dX12_isClear_26 ?_
      refine yj_ialdN s (by omega) fA_87 rfl (by omega) (by decide) dX12_isClear_27 ?_
      refine xj_top (show zg9 87 s = nI 3 from (by rw [hxzg9 87 (by unfold sN; omega)]; exact hkk)) ?_
      refine xj_iconst (v := 4) (by decide) dX12_isClear_28 ?_
      refine xj_icmp_ne (tgt := 44) (by decide) dX12_isClear_29 (fun zc29 => ?_) (fun zc29 => ?_)
      · refine xj_aload_n (n := 0) (i := 0) 1 rfl rfl dX12_isClear_44 ?_
        refine yj_getf (v := .ref 87) fl_X12_7_12 (by omega) (fq_86 zg9) rfl dX12_isClear_45 ?_
        refine xj_iload_n (n := 1) (i := 1) 2 rfl rfl dX12_isClear_48 ?_
        refine yj_ialdN s (by omega) fA_87 rfl (by omega) (by decide) dX12_isClear_49 ?_
        refine xj_top (show zg9 87 s = nI 3 from (by rw [hxzg9 87 (by unfold sN; omega)]; exact hkk)) ?_
        refine xj_iconst (v := 3) (by decide) dX12_isClear_50 ?_
        refine xj_icmp_ne (tgt := 66) (by decide) dX12_isClear_51 (fun zc51 => ?_) (fun zc51 => ?_)
        · exact absurd zc51 (fun z => z rfl)
        · refine xj_iload_n (n := 2) (i := 2) 3 rfl rfl dX12_isClear_54 ?_
          refine xj_callS ks_X12_190 (c_X12_isCorner l (d + 2) (nI c) _) (As := [.int (nI c)]) (st := []) rfl rfl (xRm_of (by omega) (by decide) (by omega) (by omega)) (Nat.le_of_ble_eq_true rfl) dX12_isClear_55 (yk_p (kc := 0) (ks := 0) ?_)
          refine xj_if_eq (tgt := 66) (by decide) dX12_isClear_58 (fun zc58 => ?_) (fun zc58 => ?_)
          · have hco : ¬ hasF 36873 (nI c) = true := fun z => bI_0.mp zc58 ((cor_h hc).mpr z)
            refine xj_iload (i := 5) 0 rfl dX12_isClear_66 ?_
            refine xj_istore (i := 6) (lv1 := [(6, .int zv8), (5, .int zv8), (0, .ref 86), (1, .int (nI s)), (2, .int (nI c)), (3, .int dl), (4, .int on)]) rfl (Nat.le_of_ble_eq_true rfl) dX12_isClear_68 ?_
            have hlim : zv8 = kLimit 3 (saidF (Λ (aW A)) 1 (A 2 s) (A 3 s) c dl on) (nI c) (A 2 s) := by rw [← hvS]; exact ((if_neg hco).symm)
            refine xj_iload_n (n := 3) (i := 3) 5 rfl rfl dX12_isClear_70 ?_
            refine xj_iload (i := 6) 0 rfl dX12_isClear_71 ?_
            refine xj_icmp_gt (tgt := 80) (by decide) dX12_isClear_73 (fun zc73 => ?_) (fun zc73 => ?_)
            · refine xj_iconst (v := 0) (by decide) dX12_isClear_80 ?_
              exact xj_ireturn rfl nr_b0 (Nat.zero_le _) (Nat.zero_le _) dX12_isClear_81 (qI_e ⟨(bI_f (fun z => by have z1 := of_decide_eq_true z; have z2 : dl ≤ kLimit 3 (saidF (Λ (aW A)) 1 (A 2 s) (A 3 s) c dl on) (nI c) (A 2 s) := z1; rw [← hlim] at z2; simp only [i32_lt, i32_le] at *; omega)).symm, hxzg9⟩)
            · refine xj_iconst (v := 1) (by decide) dX12_isClear_76 ?_
              refine xj_goto (tgt := 81) (by decide) dX12_isClear_77 ?_
              exact xj_ireturn rfl nr_b1 (Nat.zero_le _) (Nat.zero_le _) dX12_isClear_81 (qI_e ⟨(bI_t (decide_eq_true (by show dl ≤ kLimit 3 _ _ _; rw [← hlim]; simp only [i32_lt, i32_le] at *; omega))).symm, hxzg9⟩)
          · have hco : hasF 36873 (nI c) = true := (cor_h hc).mp (bI_n0.mp zc58)
            refine xj_bipush (v := 99) (by decide) dX12_isClear_61 ?_
            refine xj_goto (tgt := 68) (by decide) dX12_isClear_63 ?_
            refine xj_istore (i := 6) (lv1 := [(6, .int 99), (5, .int zv8), (0, .ref 86), (1, .int (nI s)), (2, .int (nI c)), (3, .int dl), (4, .int on)]) rfl (Nat.le_of_ble_eq_true rfl) dX12_isClear_68 ?_
            have hlim : 99 = kLimit 3 (saidF (Λ (aW A)) 1 (A 2 s) (A 3 s) c dl on) (nI c) (A 2 s) := by rw [← hvS]; exact ((if_pos hco).symm)
            refine xj_iload_n (n := 3) (i := 3) 5 rfl rfl dX12_isClear_70 ?_
            refine xj_iload (i := 6) 0 rfl dX12_isClear_71 ?_
            refine xj_icmp_gt (tgt := 80) (by decide) dX12_isClear_73 (fun zc73 => ?_) (fun zc73 => ?_)
            · refine xj_iconst (v := 0) (by decide) dX12_isClear_80 ?_
              exact xj_ireturn rfl nr_b0 (Nat.zero_le _) (Nat.zero_le _) dX12_isClear_81 (qI_e ⟨(bI_f (fun z => by have z1 := of_decide_eq_true z; have z2 : dl ≤ kLimit 3 (saidF (Λ (aW A)) 1 (A 2 s) (A 3 s) c dl on) (nI c) (A 2 s) := z1; rw [← hlim] at z2; simp only [i32_lt, i32_le] at *; omega)).symm, hxzg9⟩)
            · refine xj_iconst (v := 1) (by decide) dX12_isClear_76 ?_
              refine xj_goto (tgt := 81) (by decide) dX12_isClear_77 ?_
              exact xj_ireturn rfl nr_b1 (Nat.zero_le _) (Nat.zero_le _) dX12_isClear_81 (qI_e ⟨(bI_t (decide_eq_true (by show dl ≤ kLimit 3 _ _ _; rw [← hlim]; simp only [i32_lt, i32_le] at *; omega))).symm, hxzg9⟩)
      · exact absurd zc29 (by decide)
  · refine xj_aload_n (n := 0) (i := 0) 0 rfl rfl dX12_isClear_0 ?_
    refine xj_iconst (v := 1) (by decide) dX12_isClear_1 ?_
    refine xj_iload_n (n := 1) (i := 1) 1 rfl rfl dX12_isClear_2 ?_
    refine xj_iload_n (n := 2) (i := 2) 2 rfl rfl dX12_isClear_3 ?_
    refine xj_iload_n (n := 3) (i := 3) 3 rfl rfl dX12_isClear_4 ?_
    refine xj_iload (i := 4) 4 rfl dX12_isClear_5 ?_
    refine xj_callV kv_X12_182 (c_X12_asksOf l (d + 0) n hn g A Λ O C 1 (by omega) s c hs (by omega) dl on) (As := [.int 1, .int (nI s), .int (nI c), .int dl, .int on]) (st := []) (by omega) (fq_86 g) (ci := 12) rfl rfl rfl rfl (xRm_of (by omega) (by decide) (by omega) (by omega)) (Nat.le_of_ble_eq_true rfl) dX12_isClear_7 (yk_i (kc := 0) (ks := 0) fun zv10 zg11 hzg11 => ?_)
    obtain ⟨hvzv10, hfnzg11⟩ := hzg11
    have hxzg11 := hfnzg11
    have Czg11 := C.keep (fm.of hxzg11 sN_m)
    refine xj_istore (i := 5) (lv1 := [(5, .int zv10), (0, .ref 86), (1, .int (nI s)), (2, .int (nI c)), (3, .int dl), (4, .int on)]) rfl (Nat.le_of_ble_eq_true rfl) dX12_isClear_10 ?_
    have hvS := hvzv10
    refine xj_aload_n (n := 0) (i := 0) 1 rfl rfl dX12_isClear_12 ?_
    refine yj_getf (v := .ref 87) fl_X12_7_12 (by omega) (fq_86 zg11) rfl dX12_isClear_13 ?_
    refine xj_iload_n (n := 1) (i := 1) 2 rfl rfl dX12_isClear_16 ?_
    refine yj_ialdN s (by omega) fA_87 rfl (by omega) (by decide) dX12_isClear_17 ?_
    refine xj_top (show zg11 87 s = nI 4 from (by rw [hxzg11 87 (by unfold sN; omega)]; exact hkk)) ?_
    refine xj_iconst (v := 2) (by decide) dX12_isClear_18 ?_
    refine xj_icmp_eq (tgt := 32) (by decide) dX12_isClear_19 (fun zc19 => ?_) (fun zc19 => ?_)
    · exact absurd zc19 (by decide)
    · refine xj_aload_n (n := 0) (i := 0) 1 rfl rfl dX12_isClear_22 ?_
      refine yj_getf (v := .ref 87) fl_X12_7_12 (by omega) (fq_86 zg11) rfl dX12_isClear_23 ?_
      refine xj_iload_n (n := 1) (i := 1) 2 rfl rfl dX12_isClear_26 ?_
      refine yj_ialdN s (by omega) fA_87 rfl (by omega) (by decide) dX12_isClear_27 ?_
      refine xj_top (show zg11 87 s = nI 4 from (by rw [hxzg11 87 (by unfold sN; omega)]; exact hkk)) ?_
      refine xj_iconst (v := 4) (by decide) dX12_isClear_28 ?_
      refine xj_icmp_ne (tgt := 44) (by decide) dX12_isClear_29 (fun zc29 => ?_) (fun zc29 => ?_)
      · exact absurd zc29 (fun z => z rfl)
      · refine xj_iload (i := 5) 0 rfl dX12_isClear_32 ?_
        refine xj_aload_n (n := 0) (i := 0) 1 rfl rfl dX12_isClear_34 ?_
        refine yj_getf (v := .ref 88) fl_X12_13_12 (by omega) (fq_86 zg11) rfl dX12_isClear_35 ?_
        refine xj_iload_n (n := 1) (i := 1) 2 rfl rfl dX12_isClear_38 ?_
        refine yj_ialdN s (by omega) fA_88 rfl (by omega) (by decide) dX12_isClear_39 ?_
        refine xj_top (Czg11.mo hs) ?_
        refine xj_iadd dX12_isClear_40 ?_
        refine xj_goto (tgt := 68) (by decide) dX12_isClear_41 ?_
        refine xj_topi (fun zv12 ezv12 => ?_)
        refine xj_istore (i := 6) (lv1 := [(6, .int zv12), (5, .int zv10), (0, .ref 86), (1, .int (nI s)), (2, .int (nI c)), (3, .int dl), (4, .int on)]) rfl (Nat.le_of_ble_eq_true rfl) dX12_isClear_68 ?_
        have hlim : zv12 = kLimit 4 (saidF (Λ (aW A)) 1 (A 2 s) (A 3 s) c dl on) (nI c) (A 2 s) := by rw [← hvS]; exact ezv12.trans rfl
        refine xj_iload_n (n := 3) (i := 3) 5 rfl rfl dX12_isClear_70 ?_
        refine xj_iload (i := 6) 0 rfl dX12_isClear_71 ?_
        refine xj_icmp_gt (tgt := 80) (by decide) dX12_isClear_73 (fun zc73 => ?_) (fun zc73 => ?_)
        · refine xj_iconst (v := 0) (by decide) dX12_isClear_80 ?_
          exact xj_ireturn rfl nr_b0 (Nat.zero_le _) (Nat.zero_le _) dX12_isClear_81 (qI_e ⟨(bI_f (fun z => by have z1 := of_decide_eq_true z; have z2 : dl ≤ kLimit 4 (saidF (Λ (aW A)) 1 (A 2 s) (A 3 s) c dl on) (nI c) (A 2 s) := z1; rw [← hlim] at z2; simp only [i32_lt, i32_le] at *; omega)).symm, hxzg11⟩)
        · refine xj_iconst (v := 1) (by decide) dX12_isClear_76 ?_
          refine xj_goto (tgt := 81) (by decide) dX12_isClear_77 ?_
          exact xj_ireturn rfl nr_b1 (Nat.zero_le _) (Nat.zero_le _) dX12_isClear_81 (qI_e ⟨(bI_t (decide_eq_true (by show dl ≤ kLimit 4 _ _ _; rw [← hlim]; simp only [i32_lt, i32_le] at *; omega))).symm, hxzg11⟩)
  · refine xj_aload_n (n := 0) (i := 0) 0 rfl rfl dX12_isClear_0 ?_
    refine xj_iconst (v := 1) (by decide) dX12_isClear_1 ?_
    refine xj_iload_n (n := 1) (i := 1) 1 rfl rfl dX12_isClear_2 ?_
    refine xj_iload_n (n := 2) (i := 2) 2 rfl rfl dX12_isClear_3 ?_
    refine xj_iload_n (n := 3) (i := 3) 3 rfl rfl dX12_isClear_4 ?_
    refine xj_iload (i := 4) 4 rfl dX12_isClear_5 ?_
    refine xj_callV kv_X12_182 (c_X12_asksOf l (d + 0) n hn g A Λ O C 1 (by omega) s c hs (by omega) dl on) (As := [.int 1, .int (nI s), .int (nI c), .int dl, .int on]) (st := []) (by omega) (fq_86 g) (ci := 12) rfl rfl rfl rfl (xRm_of (by omega) (by decide) (by omega) (by omega)) (Nat.le_of_ble_eq_true rfl) dX12_isClear_7 (yk_i (kc := 0) (ks := 0) fun zv13 zg14 hzg14 => ?_)
    obtain ⟨hvzv13, hfnzg14⟩ := hzg14
    have hxzg14 := hfnzg14
    have Czg14 := C.keep (fm.of hxzg14 sN_m)
    refine xj_istore (i := 5) (lv1 := [(5, .int zv13), (0, .ref 86), (1, .int (nI s)), (2, .int (nI c)), (3, .int dl), (4, .int on)]) rfl (Nat.le_of_ble_eq_true rfl) dX12_isClear_10 ?_
    have hvS := hvzv13
    refine xj_aload_n (n := 0) (i := 0) 1 rfl rfl dX12_isClear_12 ?_
    refine yj_getf (v := .ref 87) fl_X12_7_12 (by omega) (fq_86 zg14) rfl dX12_isClear_13 ?_
    refine xj_iload_n (n := 1) (i := 1) 2 rfl rfl dX12_isClear_16 ?_
    refine yj_ialdN s (by omega) fA_87 rfl (by omega) (by decide) dX12_isClear_17 ?_
    refine xj_top (show zg14 87 s = nI 5 from (by rw [hxzg14 87 (by unfold sN; omega)]; exact hkk)) ?_
    refine xj_iconst (v := 2) (by decide) dX12_isClear_18 ?_
    refine xj_icmp_eq (tgt := 32) (by decide) dX12_isClear_19 (fun zc19 => ?_) (fun zc19 => ?_)
    · exact absurd zc19 (by decide)
    · refine xj_aload_n (n := 0) (i := 0) 1 rfl rfl dX12_isClear_22 ?_
      refine yj_getf (v := .ref 87) fl_X12_7_12 (by omega) (fq_86 zg14) rfl dX12_isClear_23 ?_
      refine xj_iload_n (n := 1) (i := 1) 2 rfl rfl dX12_isClear_26 ?_
      refine yj_ialdN s (by omega) fA_87 rfl (by omega) (by decide) dX12_isClear_27 ?_
      refine xj_top (show zg14 87 s = nI 5 from (by rw [hxzg14 87 (by unfold sN; omega)]; exact hkk)) ?_
      refine xj_iconst (v := 4) (by decide) dX12_isClear_28 ?_
      refine xj_icmp_ne (tgt := 44) (by decide) dX12_isClear_29 (fun zc29 => ?_) (fun zc29 => ?_)
      · refine xj_aload_n (n := 0) (i := 0) 1 rfl rfl dX12_isClear_44 ?_
        refine yj_getf (v := .ref 87) fl_X12_7_12 (by omega) (fq_86 zg14) rfl dX12_isClear_45 ?_
        refine xj_iload_n (n := 1) (i := 1) 2 rfl rfl dX12_isClear_48 ?_
        refine yj_ialdN s (by omega) fA_87 rfl (by omega) (by decide) dX12_isClear_49 ?_
        refine xj_top (show zg14 87 s = nI 5 from (by rw [hxzg14 87 (by unfold sN; omega)]; exact hkk)) ?_
        refine xj_iconst (v := 3) (by decide) dX12_isClear_50 ?_
        refine xj_icmp_ne (tgt := 66) (by decide) dX12_isClear_51 (fun zc51 => ?_) (fun zc51 => ?_)
        · refine xj_iload (i := 5) 0 rfl dX12_isClear_66 ?_
          refine xj_istore (i := 6) (lv1 := [(6, .int zv13), (5, .int zv13), (0, .ref 86), (1, .int (nI s)), (2, .int (nI c)), (3, .int dl), (4, .int on)]) rfl (Nat.le_of_ble_eq_true rfl) dX12_isClear_68 ?_
          have hlim : zv13 = kLimit 5 (saidF (Λ (aW A)) 1 (A 2 s) (A 3 s) c dl on) (nI c) (A 2 s) := by rw [← hvS]; exact rfl
          refine xj_iload_n (n := 3) (i := 3) 5 rfl rfl dX12_isClear_70 ?_
          refine xj_iload (i := 6) 0 rfl dX12_isClear_71 ?_
          refine xj_icmp_gt (tgt := 80) (by decide) dX12_isClear_73 (fun zc73 => ?_) (fun zc73 => ?_)
          · refine xj_iconst (v := 0) (by decide) dX12_isClear_80 ?_
            exact xj_ireturn rfl nr_b0 (Nat.zero_le _) (Nat.zero_le _) dX12_isClear_81 (qI_e ⟨(bI_f (fun z => by have z1 := of_decide_eq_true z; have z2 : dl ≤ kLimit 5 (saidF (Λ (aW A)) 1 (A 2 s) (A 3 s) c dl on) (nI c) (A 2 s) := z1; rw [← hlim] at z2; simp only [i32_lt, i32_le] at *; omega)).symm, hxzg14⟩)
          · refine xj_iconst (v := 1) (by decide) dX12_isClear_76 ?_
            refine xj_goto (tgt := 81) (by decide) dX12_isClear_77 ?_
            exact xj_ireturn rfl nr_b1 (Nat.zero_le _) (Nat.zero_le _) dX12_isClear_81 (qI_e ⟨(bI_t (decide_eq_true (by show dl ≤ kLimit 5 _ _ _; rw [← hlim]; simp only [i32_lt, i32_le] at *; omega))).symm, hxzg14⟩)
        · exact absurd zc51 (by decide)
      · exact absurd zc29 (by decide)
set_option maxHeartbeats 4000000 in
set_option maxRecDepth 100000 in
theorem c_X12_costOf (l : Launch) (d : Nat) (n : Nat) (hn : 110 ≤ n) (g : xG) (A : zSt) (Λ : Nat → xL) (O : okA A) (C : mA g A Λ) (s c : Nat) (hs : s < aS A) (hc : c < 16)  : xC l yX12_costOf cX12_costOf 5 (some .int) (xR (d + 3) 0 0) [.ref 86, .int (nI s), .int (nI c)] (n, fh g) (qI n fun v g1 => v = costF (Λ (aW A)) (aK A s) (A 2 s) (A 3 s) c (A (10 + s) c) (nI (aN A)) ∧ fr sN g g1) := by
  refine xC_of false (by decide +kernel) (fun z => by cases z) (Nat.le_of_ble_eq_true rfl) ?_
  have hS6 := O.1.2
  have hW := O.W
  have hT6 := O.2.2.2.1.2.2
  have hN9 := O.2.1.2
  have hs6_s : s < 6 := by omega
  show xJ l (RX12, 5, (some .int), false, (xR (d + 3) 0 0), none) cX12_costOf _ 0 0 0 [(0, .ref 86), (1, .int (nI s)), (2, .int (nI c))] [] (n, fh g)
  have hk6 : aK A s < 6 := O.k6 hs
  have hkk : g 87 s = nI (aK A s) := C.k O hs
  generalize hkg : aK A s = kk at hk6 hkk ⊢
  rcases (show kk = 0 ∨ kk = 1 ∨ kk = 2 ∨ kk = 3 ∨ kk = 4 ∨ kk = 5 by omega) with rfl | rfl | rfl | rfl | rfl | rfl
  · refine xj_aload_n (n := 0) (i := 0) 0 rfl rfl dX12_costOf_0 ?_
    refine xj_iconst (v := 2) (by decide) dX12_costOf_1 ?_
    refine xj_iload_n (n := 1) (i := 1) 1 rfl rfl dX12_costOf_2 ?_
    refine xj_iload_n (n := 2) (i := 2) 2 rfl rfl dX12_costOf_3 ?_
    refine xj_aload_n (n := 0) (i := 0) 0 rfl rfl dX12_costOf_4 ?_
    refine yj_getf (v := .ref 89) fl_X12_16_12 (by omega) (fq_86 g) rfl dX12_costOf_5 ?_
    refine xj_bipush (v := 16) (by decide) dX12_costOf_8 ?_
    refine xj_iload_n (n := 1) (i := 1) 1 rfl rfl dX12_costOf_10 ?_
    refine xj_imul dX12_costOf_11 ?_
    refine xj_top (pk_mul 16 s) ?_
    refine xj_iload_n (n := 2) (i := 2) 2 rfl rfl dX12_costOf_12 ?_
    refine xj_iadd dX12_costOf_13 ?_
    refine xj_top (nI_add _ _) ?_
    refine yj_ialdN ((16 * s) + c) (by omega) fA_89 rfl (by omega) (by decide) dX12_costOf_14 ?_
    refine xj_top (C.du hs (by omega)) ?_
    refine xj_aload_n (n := 0) (i := 0) 0 rfl rfl dX12_costOf_15 ?_
    refine yj_getf (v := .int (nI (aN A))) fl_X12_97_12 (by omega) (fq_86 g) (congrArg (fun z => some (Value.int z)) (C.N O)) dX12_costOf_16 ?_
    refine xj_callV kv_X12_182 (c_X12_asksOf l (d + 0) n hn g A Λ O C 2 (by omega) s c hs (by omega) (A (10 + s) c) (nI (aN A))) (As := [.int 2, .int (nI s), .int (nI c), .int (A (10 + s) c), .int (nI (aN A))]) (st := []) (by omega) (fq_86 g) (ci := 12) rfl rfl rfl rfl (xRm_of (by omega) (by decide) (by omega) (by omega)) (Nat.le_of_ble_eq_true rfl) dX12_costOf_19 (yk_i (kc := 0) (ks := 0) fun zv1 zg2 hzg2 => ?_)
    obtain ⟨hvzv1, hfnzg2⟩ := hzg2
    have hxzg2 := hfnzg2
    have Czg2 := C.keep (fm.of hxzg2 sN_m)
    refine xj_istore_n (n := 3) (i := 3) (lv1 := [(3, .int zv1), (0, .ref 86), (1, .int (nI s)), (2, .int (nI c))]) rfl rfl (Nat.le_of_ble_eq_true rfl) dX12_costOf_22 ?_
    have hvS := hvzv1
    refine xj_iload_n (n := 2) (i := 2) 3 rfl rfl dX12_costOf_23 ?_
    refine xj_callS ks_X12_193 (c_X12_isMiddle l (d + 2) (nI c) _) (As := [.int (nI c)]) (st := []) rfl rfl (xRm_of (by omega) (by decide) (by omega) (by omega)) (Nat.le_of_ble_eq_true rfl) dX12_costOf_24 (yk_p (kc := 0) (ks := 0) ?_)
    refine xj_if_eq (tgt := 38) (by decide) dX12_costOf_27 (fun zc27 => ?_) (fun zc27 => ?_)
    · have hco : ¬ hasF 1632 (nI c) = true := fun z => bI_0.mp zc27 ((mid_h hc).mpr z)
      refine xj_iload_n (n := 3) (i := 3) 0 rfl rfl dX12_costOf_38 ?_
      refine xj_iconst (v := 1) (by decide) dX12_costOf_39 ?_
      refine xj_iadd dX12_costOf_40 ?_
      refine xj_topi (fun zv3 ezv3 => ?_)
      refine xj_istore (i := 4) (lv1 := [(4, .int zv3), (3, .int zv1), (0, .ref 86), (1, .int (nI s)), (2, .int (nI c))]) rfl (Nat.le_of_ble_eq_true rfl) dX12_costOf_41 ?_
      refine xj_aload_n (n := 0) (i := 0) 2 rfl rfl dX12_costOf_43 ?_
      refine yj_getf (v := .ref 87) fl_X12_7_12 (by omega) (fq_86 zg2) rfl dX12_costOf_44 ?_
      refine xj_iload_n (n := 1) (i := 1) 3 rfl rfl dX12_costOf_47 ?_
      refine yj_ialdN s (by omega) fA_87 rfl (by omega) (by decide) dX12_costOf_48 ?_
      refine xj_top (show zg2 87 s = nI 0 from (by rw [hxzg2 87 (by unfold sN; omega)]; exact hkk)) ?_
      refine xj_tableOut (tgt := 101) dX12_costOf_49 (by decide) (by decide) ?_
      refine xj_iload_n (n := 3) (i := 3) 1 rfl rfl dX12_costOf_101 ?_
      refine xj_iconst (v := 1) (by decide) dX12_costOf_102 ?_
      refine xj_iadd dX12_costOf_103 ?_
      exact xj_ireturn rfl (nr_i _) (Nat.zero_le _) (Nat.zero_le _) dX12_costOf_104 (qI_e ⟨by show _ = kCost 0 (saidF (Λ (aW A)) 2 (A 2 s) (A 3 s) c (A (10 + s) c) (nI (aN A))) (nI c); rw [← hvS]; rfl, hxzg2⟩)
    · have hco : hasF 1632 (nI c) = true := (mid_h hc).mp (bI_n0.mp zc27)
      refine xj_iconst (v := 2) (by decide) dX12_costOf_30 ?_
      refine xj_iload_n (n := 3) (i := 3) 0 rfl rfl dX12_costOf_31 ?_
      refine xj_iconst (v := 1) (by decide) dX12_costOf_32 ?_
      refine xj_iadd dX12_costOf_33 ?_
      refine xj_imul dX12_costOf_34 ?_
      refine xj_goto (tgt := 41) (by decide) dX12_costOf_35 ?_
      refine xj_topi (fun zv4 ezv4 => ?_)
      refine xj_istore (i := 4) (lv1 := [(4, .int zv4), (3, .int zv1), (0, .ref 86), (1, .int (nI s)), (2, .int (nI c))]) rfl (Nat.le_of_ble_eq_true rfl) dX12_costOf_41 ?_
      refine xj_aload_n (n := 0) (i := 0) 2 rfl rfl dX12_costOf_43 ?_
      refine yj_getf (v := .ref 87) fl_X12_7_12 (by omega) (fq_86 zg2) rfl dX12_costOf_44 ?_
      refine xj_iload_n (n := 1) (i := 1) 3 rfl rfl dX12_costOf_47 ?_
      refine yj_ialdN s (by omega) fA_87 rfl (by omega) (by decide) dX12_costOf_48 ?_
      refine xj_top (show zg2 87 s = nI 0 from (by rw [hxzg2 87 (by unfold sN; omega)]; exact hkk)) ?_
      refine xj_tableOut (tgt := 101) dX12_costOf_49 (by decide) (by decide) ?_
      refine xj_iload_n (n := 3) (i := 3) 1 rfl rfl dX12_costOf_101 ?_
      refine xj_iconst (v := 1) (by decide) dX12_costOf_102 ?_
      refine xj_iadd dX12_costOf_103 ?_
      exact xj_ireturn rfl (nr_i _) (Nat.zero_le _) (Nat.zero_le _) dX12_costOf_104 (qI_e ⟨by show _ = kCost 0 (saidF (Λ (aW A)) 2 (A 2 s) (A 3 s) c (A (10 + s) c) (nI (aN A))) (nI c); rw [← hvS]; rfl, hxzg2⟩)
  · refine xj_aload_n (n := 0) (i := 0) 0 rfl rfl dX12_costOf_0 ?_
    refine xj_iconst (v := 2) (by decide) dX12_costOf_1 ?_
    refine xj_iload_n (n := 1) (i := 1) 1 rfl rfl dX12_costOf_2 ?_
    refine xj_iload_n (n := 2) (i := 2) 2 rfl rfl dX12_costOf_3 ?_
    refine xj_aload_n (n := 0) (i := 0) 0 rfl rfl dX12_costOf_4 ?_
    refine yj_getf (v := .ref 89) fl_X12_16_12 (by omega) (fq_86 g) rfl dX12_costOf_5 ?_
    refine xj_bipush (v := 16) (by decide) dX12_costOf_8 ?_
    refine xj_iload_n (n := 1) (i := 1) 1 rfl rfl dX12_costOf_10 ?_
    refine xj_imul dX12_costOf_11 ?_
    refine xj_top (pk_mul 16 s) ?_
    refine xj_iload_n (n := 2) (i := 2) 2 rfl rfl dX12_costOf_12 ?_
    refine xj_iadd dX12_costOf_13 ?_
    refine xj_top (nI_add _ _) ?_
    refine yj_ialdN ((16 * s) + c) (by omega) fA_89 rfl (by omega) (by decide) dX12_costOf_14 ?_
    refine xj_top (C.du hs (by omega)) ?_
    refine xj_aload_n (n := 0) (i := 0) 0 rfl rfl dX12_costOf_15 ?_
    refine yj_getf (v := .int (nI (aN A))) fl_X12_97_12 (by omega) (fq_86 g) (congrArg (fun z => some (Value.int z)) (C.N O)) dX12_costOf_16 ?_
    refine xj_callV kv_X12_182 (c_X12_asksOf l (d + 0) n hn g A Λ O C 2 (by omega) s c hs (by omega) (A (10 + s) c) (nI (aN A))) (As := [.int 2, .int (nI s), .int (nI c), .int (A (10 + s) c), .int (nI (aN A))]) (st := []) (by omega) (fq_86 g) (ci := 12) rfl rfl rfl rfl (xRm_of (by omega) (by decide) (by omega) (by omega)) (Nat.le_of_ble_eq_true rfl) dX12_costOf_19 (yk_i (kc := 0) (ks := 0) fun zv5 zg6 hzg6 => ?_)
    obtain ⟨hvzv5, hfnzg6⟩ := hzg6
    have hxzg6 := hfnzg6
    have Czg6 := C.keep (fm.of hxzg6 sN_m)
    refine xj_istore_n (n := 3) (i := 3) (lv1 := [(3, .int zv5), (0, .ref 86), (1, .int (nI s)), (2, .int (nI c))]) rfl rfl (Nat.le_of_ble_eq_true rfl) dX12_costOf_22 ?_
    have hvS := hvzv5
    refine xj_iload_n (n := 2) (i := 2) 3 rfl rfl dX12_costOf_23 ?_
    refine xj_callS ks_X12_193 (c_X12_isMiddle l (d + 2) (nI c) _) (As := [.int (nI c)]) (st := []) rfl rfl (xRm_of (by omega) (by decide) (by omega) (by omega)) (Nat.le_of_ble_eq_true rfl) dX12_costOf_24 (yk_p (kc := 0) (ks := 0) ?_)
    refine xj_if_eq (tgt := 38) (by decide) dX12_costOf_27 (fun zc27 => ?_) (fun zc27 => ?_)
    · have hco : ¬ hasF 1632 (nI c) = true := fun z => bI_0.mp zc27 ((mid_h hc).mpr z)
      refine xj_iload_n (n := 3) (i := 3) 0 rfl rfl dX12_costOf_38 ?_
      refine xj_iconst (v := 1) (by decide) dX12_costOf_39 ?_
      refine xj_iadd dX12_costOf_40 ?_
      refine xj_topi (fun zv7 ezv7 => ?_)
      refine xj_istore (i := 4) (lv1 := [(4, .int zv7), (3, .int zv5), (0, .ref 86), (1, .int (nI s)), (2, .int (nI c))]) rfl (Nat.le_of_ble_eq_true rfl) dX12_costOf_41 ?_
      refine xj_aload_n (n := 0) (i := 0) 2 rfl rfl dX12_costOf_43 ?_
      refine yj_getf (v := .ref 87) fl_X12_7_12 (by omega) (fq_86 zg6) rfl dX12_costOf_44 ?_
      refine xj_iload_n (n := 1) (i := 1) 3 rfl rfl dX12_costOf_47 ?_
      refine yj_ialdN s (by omega) fA_87 rfl (by omega) (by decide) dX12_costOf_48 ?_
      refine xj_top (show zg6 87 s = nI 1 from (by rw [hxzg6 87 (by unfold sN; omega)]; exact hkk)) ?_
      refine xj_tableOut (tgt := 101) dX12_costOf_49 (by decide) (by decide) ?_
      refine xj_iload_n (n := 3) (i := 3) 1 rfl rfl dX12_costOf_101 ?_
      refine xj_iconst (v := 1) (by decide) dX12_costOf_102 ?_
      refine xj_iadd dX12_costOf_103 ?_
      exact xj_ireturn rfl (nr_i _) (Nat.zero_le _) (Nat.zero_le _) dX12_costOf_104 (qI_e ⟨by show _ = kCost 1 (saidF (Λ (aW A)) 2 (A 2 s) (A 3 s) c (A (10 + s) c) (nI (aN A))) (nI c); rw [← hvS]; rfl, hxzg6⟩)
    · have hco : hasF 1632 (nI c) = true := (mid_h hc).mp (bI_n0.mp zc27)
      refine xj_iconst (v := 2) (by decide) dX12_costOf_30 ?_
      refine xj_iload_n (n := 3) (i := 3) 0 rfl rfl dX12_costOf_31 ?_
      refine xj_iconst (v := 1) (by decide) dX12_costOf_32 ?_
      refine xj_iadd dX12_costOf_33 ?_
      refine xj_imul dX12_costOf_34 ?_
      refine xj_goto (tgt := 41) (by decide) dX12_costOf_35 ?_
      refine xj_topi (fun zv8 ezv8 => ?_)
      refine xj_istore (i := 4) (lv1 := [(4, .int zv8), (3, .int zv5), (0, .ref 86), (1, .int (nI s)), (2, .int (nI c))]) rfl (Nat.le_of_ble_eq_true rfl) dX12_costOf_41 ?_
      refine xj_aload_n (n := 0) (i := 0) 2 rfl rfl dX12_costOf_43 ?_
      refine yj_getf (v := .ref 87) fl_X12_7_12 (by omega) (fq_86 zg6) rfl dX12_costOf_44 ?_
      refine xj_iload_n (n := 1) (i := 1) 3 rfl rfl dX12_costOf_47 ?_
      refine yj_ialdN s (by omega) fA_87 rfl (by omega) (by decide) dX12_costOf_48 ?_
      refine xj_top (show zg6 87 s = nI 1 from (by rw [hxzg6 87 (by unfold sN; omega)]; exact hkk)) ?_
      refine xj_tableOut (tgt := 101) dX12_costOf_49 (by decide) (by decide) ?_
      refine xj_iload_n (n := 3) (i := 3) 1 rfl rfl dX12_costOf_101 ?_
      refine xj_iconst (v := 1) (by decide) dX12_costOf_102 ?_
      refine xj_iadd dX12_costOf_103 ?_
      exact xj_ireturn rfl (nr_i _) (Nat.zero_le _) (Nat.zero_le _) dX12_costOf_104 (qI_e ⟨by show _ = kCost 1 (saidF (Λ (aW A)) 2 (A 2 s) (A 3 s) c (A (10 + s) c) (nI (aN A))) (nI c); rw [← hvS]; rfl, hxzg6⟩)
  · refine xj_aload_n (n := 0) (i := 0) 0 rfl rfl dX12_costOf_0 ?_
    refine xj_iconst (v := 2) (by decide) dX12_costOf_1 ?_
    refine xj_iload_n (n := 1) (i := 1) 1 rfl rfl dX12_costOf_2 ?_
    refine xj_iload_n (n := 2) (i := 2) 2 rfl rfl dX12_costOf_3 ?_
    refine xj_aload_n (n := 0) (i := 0) 0 rfl rfl dX12_costOf_4 ?_
    refine yj_getf (v := .ref 89) fl_X12_16_12 (by omega) (fq_86 g) rfl dX12_costOf_5 ?_
    refine xj_bipush (v := 16) (by decide) dX12_costOf_8 ?_
    refine xj_iload_n (n := 1) (i := 1) 1 rfl rfl dX12_costOf_10 ?_
    refine xj_imul dX12_costOf_11 ?_
    refine xj_top (pk_mul 16 s) ?_
    refine xj_iload_n (n := 2) (i := 2) 2 rfl rfl dX12_costOf_12 ?_
    refine xj_iadd dX12_costOf_13 ?_
    refine xj_top (nI_add _ _) ?_
    refine yj_ialdN ((16 * s) + c) (by omega) fA_89 rfl (by omega) (by decide) dX12_costOf_14 ?_
    refine xj_top (C.du hs (by omega)) ?_
    refine xj_aload_n (n := 0) (i := 0) 0 rfl rfl dX12_costOf_15 ?_
    refine yj_getf (v := .int (nI (aN A))) fl_X12_97_12 (by omega) (fq_86 g) (congrArg (fun z => some (Value.int z)) (C.N O)) dX12_costOf_16 ?_
    refine xj_callV kv_X12_182 (c_X12_asksOf l (d + 0) n hn g A Λ O C 2 (by omega) s c hs (by omega) (A (10 + s) c) (nI (aN A))) (As := [.int 2, .int (nI s), .int (nI c), .int (A (10 + s) c), .int (nI (aN A))]) (st := []) (by omega) (fq_86 g) (ci := 12) rfl rfl rfl rfl (xRm_of (by omega) (by decide) (by omega) (by omega)) (Nat.le_of_ble_eq_true rfl) dX12_costOf_19 (yk_i (kc := 0) (ks := 0) fun zv9 zg10 hzg10 => ?_)
    obtain ⟨hvzv9, hfnzg10⟩ := hzg10
    have hxzg10 := hfnzg10
    have Czg10 := C.keep (fm.of hxzg10 sN_m)
    refine xj_istore_n (n := 3) (i := 3) (lv1 := [(3, .int zv9), (0, .ref 86), (1, .int (nI s)), (2, .int (nI c))]) rfl rfl (Nat.le_of_ble_eq_true rfl) dX12_costOf_22 ?_
    have hvS := hvzv9
    refine xj_iload_n (n := 2) (i := 2) 3 rfl rfl dX12_costOf_23 ?_
    refine xj_callS ks_X12_193 (c_X12_isMiddle l (d + 2) (nI c) _) (As := [.int (nI c)]) (st := []) rfl rfl (xRm_of (by omega) (by decide) (by omega) (by omega)) (Nat.le_of_ble_eq_true rfl) dX12_costOf_24 (yk_p (kc := 0) (ks := 0) ?_)
    refine xj_if_eq (tgt := 38) (by decide) dX12_costOf_27 (fun zc27 => ?_) (fun zc27 => ?_)
    · have hco : ¬ hasF 1632 (nI c) = true := fun z => bI_0.mp zc27 ((mid_h hc).mpr z)
      refine xj_iload_n (n := 3) (i := 3) 0 rfl rfl dX12_costOf_38 ?_
      refine xj_iconst (v := 1) (by decide) dX12_costOf_39 ?_
      refine xj_iadd dX12_costOf_40 ?_
      refine xj_topi (fun zv11 ezv11 => ?_)
      refine xj_istore (i := 4) (lv1 := [(4, .int zv11), (3, .int zv9), (0, .ref 86), (1, .int (nI s)), (2, .int (nI c))]) rfl (Nat.le_of_ble_eq_true rfl) dX12_costOf_41 ?_
      refine xj_aload_n (n := 0) (i := 0) 2 rfl rfl dX12_costOf_43 ?_
      refine yj_getf (v := .ref 87) fl_X12_7_12 (by omega) (fq_86 zg10) rfl dX12_costOf_44 ?_
      refine xj_iload_n (n := 1) (i := 1) 3 rfl rfl dX12_costOf_47 ?_
      refine yj_ialdN s (by omega) fA_87 rfl (by omega) (by decide) dX12_costOf_48 ?_
      refine xj_top (show zg10 87 s = nI 2 from (by rw [hxzg10 87 (by unfold sN; omega)]; exact hkk)) ?_
      refine xj_top (show nI 2 = 2 from rfl) ?_
      refine xj_tableIn (off := 31) (tgt := 80) dX12_costOf_49 (by decide) (by decide) rfl (by decide) ?_
      refine xj_iload (i := 4) 0 rfl dX12_costOf_80 ?_
      exact xj_ireturn rfl (nr_i _) (Nat.zero_le _) (Nat.zero_le _) dX12_costOf_82 (qI_e ⟨by show _ = kCost 2 (saidF (Λ (aW A)) 2 (A 2 s) (A 3 s) c (A (10 + s) c) (nI (aN A))) (nI c); rw [← hvS]; rw [ezv11]; exact (if_neg hco).symm, hxzg10⟩)
    · have hco : hasF 1632 (nI c) = true := (mid_h hc).mp (bI_n0.mp zc27)
      refine xj_iconst (v := 2) (by decide) dX12_costOf_30 ?_
      refine xj_iload_n (n := 3) (i := 3) 0 rfl rfl dX12_costOf_31 ?_
      refine xj_iconst (v := 1) (by decide) dX12_costOf_32 ?_
      refine xj_iadd dX12_costOf_33 ?_
      refine xj_imul dX12_costOf_34 ?_
      refine xj_goto (tgt := 41) (by decide) dX12_costOf_35 ?_
      refine xj_topi (fun zv12 ezv12 => ?_)
      refine xj_istore (i := 4) (lv1 := [(4, .int zv12), (3, .int zv9), (0, .ref 86), (1, .int (nI s)), (2, .int (nI c))]) rfl (Nat.le_of_ble_eq_true rfl) dX12_costOf_41 ?_
      refine xj_aload_n (n := 0) (i := 0) 2 rfl rfl dX12_costOf_43 ?_
      refine yj_getf (v := .ref 87) fl_X12_7_12 (by omega) (fq_86 zg10) rfl dX12_costOf_44 ?_
      refine xj_iload_n (n := 1) (i := 1) 3 rfl rfl dX12_costOf_47 ?_
      refine yj_ialdN s (by omega) fA_87 rfl (by omega) (by decide) dX12_costOf_48 ?_
      refine xj_top (show zg10 87 s = nI 2 from (by rw [hxzg10 87 (by unfold sN; omega)]; exact hkk)) ?_
      refine xj_top (show nI 2 = 2 from rfl) ?_
      refine xj_tableIn (off := 31) (tgt := 80) dX12_costOf_49 (by decide) (by decide) rfl (by decide) ?_
      refine xj_iload (i := 4) 0 rfl dX12_costOf_80 ?_
      exact xj_ireturn rfl (nr_i _) (Nat.zero_le _) (Nat.zero_le _) dX12_costOf_82 (qI_e ⟨by show _ = kCost 2 (saidF (Λ (aW A)) 2 (A 2 s) (A 3 s) c (A (10 + s) c) (nI (aN A))) (nI c); rw [← hvS]; rw [ezv12]; exact (if_pos hco).symm, hxzg10⟩)
  · refine xj_aload_n (n := 0) (i := 0) 0 rfl rfl dX12_costOf_0 ?_
    refine xj_iconst (v := 2) (by decide) dX12_costOf_1 ?_
    refine xj_iload_n (n := 1) (i := 1) 1 rfl rfl dX12_costOf_2 ?_
    refine xj_iload_n (n := 2) (i := 2) 2 rfl rfl dX12_costOf_3 ?_
    refine xj_aload_n (n := 0) (i := 0) 0 rfl rfl dX12_costOf_4 ?_
    refine yj_getf (v := .ref 89) fl_X12_16_12 (by omega) (fq_86 g) rfl dX12_costOf_5 ?_
    refine xj_bipush (v := 16) (by decide) dX12_costOf_8 ?_
    refine xj_iload_n (n := 1) (i := 1) 1 rfl rfl dX12_costOf_10 ?_
    refine xj_imul dX12_costOf_11 ?_
    refine xj_top (pk_mul 16 s) ?_
    refine xj_iload_n (n := 2) (i := 2) 2 rfl rfl dX12_costOf_12 ?_
    refine xj_iadd dX12_costOf_13 ?_
    refine xj_top (nI_add _ _) ?_
    refine yj_ialdN ((16 * s) + c) (by omega) fA_89 rfl (by omega) (by decide) dX12_costOf_14 ?_
    refine xj_top (C.du hs (by omega)) ?_
    refine xj_aload_n (n := 0) (i := 0) 0 rfl rfl dX12_costOf_15 ?_
    refine yj_getf (v := .int (nI (aN A))) fl_X12_97_12 (by omega) (fq_86 g) (congrArg (fun z => some (Value.int z)) (C.N O)) dX12_costOf_16 ?_
    refine xj_callV kv_X12_182 (c_X12_asksOf l (d + 0) n hn g A Λ O C 2 (by omega) s c hs (by omega) (A (10 + s) c) (nI (aN A))) (As := [.int 2, .int (nI s), .int (nI c), .int (A (10 + s) c), .int (nI (aN A))]) (st := []) (by omega) (fq_86 g) (ci := 12) rfl rfl rfl rfl (xRm_of (by omega) (by decide) (by omega) (by omega)) (Nat.le_of_ble_eq_true rfl) dX12_costOf_19 (yk_i (kc := 0) (ks := 0) fun zv13 zg14 hzg14 => ?_)
    obtain ⟨hvzv13, hfnzg14⟩ := hzg14
    have hxzg14 := hfnzg14
    have Czg14 := C.keep (fm.of hxzg14 sN_m)
    refine xj_istore_n (n := 3) (i := 3) (lv1 := [(3, .int zv13), (0, .ref 86), (1, .int (nI s)), (2, .int (nI c))]) rfl rfl (Nat.le_of_ble_eq_true rfl) dX12_costOf_22 ?_
    have hvS := hvzv13
    refine xj_iload_n (n := 2) (i := 2) 3 rfl rfl dX12_costOf_23 ?_
    refine xj_callS ks_X12_193 (c_X12_isMiddle l (d + 2) (nI c) _) (As := [.int (nI c)]) (st := []) rfl rfl (xRm_of (by omega) (by decide) (by omega) (by omega)) (Nat.le_of_ble_eq_true rfl) dX12_costOf_24 (yk_p (kc := 0) (ks := 0) ?_)
    refine xj_if_eq (tgt := 38) (by decide) dX12_costOf_27 (fun zc27 => ?_) (fun zc27 => ?_)
    · have hco : ¬ hasF 1632 (nI c) = true := fun z => bI_0.mp zc27 ((mid_h hc).mpr z)
      refine xj_iload_n (n := 3) (i := 3) 0 rfl rfl dX12_costOf_38 ?_
      refine xj_iconst (v := 1) (by decide) dX12_costOf_39 ?_
      refine xj_iadd dX12_costOf_40 ?_
      refine xj_topi (fun zv15 ezv15 => ?_)
      refine xj_istore (i := 4) (lv1 := [(4, .int zv15), (3, .int zv13), (0, .ref 86), (1, .int (nI s)), (2, .int (nI c))]) rfl (Nat.le_of_ble_eq_true rfl) dX12_costOf_41 ?_
      refine xj_aload_n (n := 0) (i := 0) 2 rfl rfl dX12_costOf_43 ?_
      refine yj_getf (v := .ref 87) fl_X12_7_12 (by omega) (fq_86 zg14) rfl dX12_costOf_44 ?_
      refine xj_iload_n (n := 1) (i := 1) 3 rfl rfl dX12_costOf_47 ?_
      refine yj_ialdN s (by omega) fA_87 rfl (by omega) (by decide) dX12_costOf_48 ?_
      refine xj_top (show zg14 87 s = nI 3 from (by rw [hxzg14 87 (by unfold sN; omega)]; exact hkk)) ?_
      refine xj_top (show nI 3 = 3 from rfl) ?_
      refine xj_tableIn (off := 52) (tgt := 101) dX12_costOf_49 (by decide) (by decide) rfl (by decide) ?_
      refine xj_iload_n (n := 3) (i := 3) 1 rfl rfl dX12_costOf_101 ?_
      refine xj_iconst (v := 1) (by decide) dX12_costOf_102 ?_
      refine xj_iadd dX12_costOf_103 ?_
      exact xj_ireturn rfl (nr_i _) (Nat.zero_le _) (Nat.zero_le _) dX12_costOf_104 (qI_e ⟨by show _ = kCost 3 (saidF (Λ (aW A)) 2 (A 2 s) (A 3 s) c (A (10 + s) c) (nI (aN A))) (nI c); rw [← hvS]; rfl, hxzg14⟩)
    · have hco : hasF 1632 (nI c) = true := (mid_h hc).mp (bI_n0.mp zc27)
      refine xj_iconst (v := 2) (by decide) dX12_costOf_30 ?_
      refine xj_iload_n (n := 3) (i := 3) 0 rfl rfl dX12_costOf_31 ?_
      refine xj_iconst (v := 1) (by decide) dX12_costOf_32 ?_
      refine xj_iadd dX12_costOf_33 ?_
      refine xj_imul dX12_costOf_34 ?_
      refine xj_goto (tgt := 41) (by decide) dX12_costOf_35 ?_
      refine xj_topi (fun zv16 ezv16 => ?_)
      refine xj_istore (i := 4) (lv1 := [(4, .int zv16), (3, .int zv13), (0, .ref 86), (1, .int (nI s)), (2, .int (nI c))]) rfl (Nat.le_of_ble_eq_true rfl) dX12_costOf_41 ?_
      refine xj_aload_n (n := 0) (i := 0) 2 rfl rfl dX12_costOf_43 ?_
      refine yj_getf (v := .ref 87) fl_X12_7_12 (by omega) (fq_86 zg14) rfl dX12_costOf_44 ?_
      refine xj_iload_n (n := 1) (i := 1) 3 rfl rfl dX12_costOf_47 ?_
      refine yj_ialdN s (by omega) fA_87 rfl (by omega) (by decide) dX12_costOf_48 ?_
      refine xj_top (show zg14 87 s = nI 3 from (by rw [hxzg14 87 (by unfold sN; omega)]; exact hkk)) ?_
      refine xj_top (show nI 3 = 3 from rfl) ?_
      refine xj_tableIn (off := 52) (tgt := 101) dX12_costOf_49 (by decide) (by decide) rfl (by decide) ?_
      refine xj_iload_n (n := 3) (i := 3) 1 rfl rfl dX12_costOf_101 ?_
      refine xj_iconst (v := 1) (by decide) dX12_costOf_102 ?_
      refine xj_iadd dX12_costOf_103 ?_
      exact xj_ireturn rfl (nr_i _) (Nat.zero_le _) (Nat.zero_le _) dX12_costOf_104 (qI_e ⟨by show _ = kCost 3 (saidF (Λ (aW A)) 2 (A 2 s) (A 3 s) c (A (10 + s) c) (nI (aN A))) (nI c); rw [← hvS]; rfl, hxzg14⟩)
  · refine xj_aload_n (n := 0) (i := 0) 0 rfl rfl dX12_costOf_0 ?_
    refine xj_iconst (v := 2) (by decide) dX12_costOf_1 ?_
    refine xj_iload_n (n := 1) (i := 1) 1 rfl rfl dX12_costOf_2 ?_
    refine xj_iload_n (n := 2) (i := 2) 2 rfl rfl dX12_costOf_3 ?_
    refine xj_aload_n (n := 0) (i := 0) 0 rfl rfl dX12_costOf_4 ?_
    refine yj_getf (v := .ref 89) fl_X12_16_12 (by omega) (fq_86 g) rfl dX12_costOf_5 ?_
    refine xj_bipush (v := 16) (by decide) dX12_costOf_8 ?_
    refine xj_iload_n (n := 1) (i := 1) 1 rfl rfl dX12_costOf_10 ?_
    refine xj_imul dX12_costOf_11 ?_
    refine xj_top (pk_mul 16 s) ?_
    refine xj_iload_n (n := 2) (i := 2) 2 rfl rfl dX12_costOf_12 ?_
    refine xj_iadd dX12_costOf_13 ?_
    refine xj_top (nI_add _ _) ?_
    refine yj_ialdN ((16 * s) + c) (by omega) fA_89 rfl (by omega) (by decide) dX12_costOf_14 ?_
    refine xj_top (C.du hs (by omega)) ?_
    refine xj_aload_n (n := 0) (i := 0) 0 rfl rfl dX12_costOf_15 ?_
    refine yj_getf (v := .int (nI (aN A))) fl_X12_97_12 (by omega) (fq_86 g) (congrArg (fun z => some (Value.int z)) (C.N O)) dX12_costOf_16 ?_
    refine xj_callV kv_X12_182 (c_X12_asksOf l (d + 0) n hn g A Λ O C 2 (by omega) s c hs (by omega) (A (10 + s) c) (nI (aN A))) (As := [.int 2, .int (nI s), .int (nI c), .int (A (10 + s) c), .int (nI (aN A))]) (st := []) (by omega) (fq_86 g) (ci := 12) rfl rfl rfl rfl (xRm_of (by omega) (by decide) (by omega) (by omega)) (Nat.le_of_ble_eq_true rfl) dX12_costOf_19 (yk_i (kc := 0) (ks := 0) fun zv17 zg18 hzg18 => ?_)
    obtain ⟨hvzv17, hfnzg18⟩ := hzg18
    have hxzg18 := hfnzg18
    have Czg18 := C.keep (fm.of hxzg18 sN_m)
    refine xj_istore_n (n := 3) (i := 3) (lv1 := [(3, .int zv17), (0, .ref 86), (1, .int (nI s)), (2, .int (nI c))]) rfl rfl (Nat.le_of_ble_eq_true rfl) dX12_costOf_22 ?_
    have hvS := hvzv17
    refine xj_iload_n (n := 2) (i := 2) 3 rfl rfl dX12_costOf_23 ?_
    refine xj_callS ks_X12_193 (c_X12_isMiddle l (d + 2) (nI c) _) (As := [.int (nI c)]) (st := []) rfl rfl (xRm_of (by omega) (by decide) (by omega) (by omega)) (Nat.le_of_ble_eq_true rfl) dX12_costOf_24 (yk_p (kc := 0) (ks := 0) ?_)
    refine xj_if_eq (tgt := 38) (by decide) dX12_costOf_27 (fun zc27 => ?_) (fun zc27 => ?_)
    · have hco : ¬ hasF 1632 (nI c) = true := fun z => bI_0.mp zc27 ((mid_h hc).mpr z)
      refine xj_iload_n (n := 3) (i := 3) 0 rfl rfl dX12_costOf_38 ?_
      refine xj_iconst (v := 1) (by decide) dX12_costOf_39 ?_
      refine xj_iadd dX12_costOf_40 ?_
      refine xj_topi (fun zv19 ezv19 => ?_)
      refine xj_istore (i := 4) (lv1 := [(4, .int zv19), (3, .int zv17), (0, .ref 86), (1, .int (nI s)), (2, .int (nI c))]) rfl (Nat.le_of_ble_eq_true rfl) dX12_costOf_41 ?_
      refine xj_aload_n (n := 0) (i := 0) 2 rfl rfl dX12_costOf_43 ?_
      refine yj_getf (v := .ref 87) fl_X12_7_12 (by omega) (fq_86 zg18) rfl dX12_costOf_44 ?_
      refine xj_iload_n (n := 1) (i := 1) 3 rfl rfl dX12_costOf_47 ?_
      refine yj_ialdN s (by omega) fA_87 rfl (by omega) (by decide) dX12_costOf_48 ?_
      refine xj_top (show zg18 87 s = nI 4 from (by rw [hxzg18 87 (by unfold sN; omega)]; exact hkk)) ?_
      refine xj_top (show nI 4 = 4 from rfl) ?_
      refine xj_tableIn (off := 34) (tgt := 83) dX12_costOf_49 (by decide) (by decide) rfl (by decide) ?_
      refine xj_iload (i := 4) 0 rfl dX12_costOf_83 ?_
      refine xj_iconst (v := 2) (by decide) dX12_costOf_85 ?_
      refine xj_idiv (by decide) dX12_costOf_86 ?_
      exact xj_ireturn rfl (nr_i _) (Nat.zero_le _) (Nat.zero_le _) dX12_costOf_87 (qI_e ⟨by show _ = kCost 4 (saidF (Λ (aW A)) 2 (A 2 s) (A 3 s) c (A (10 + s) c) (nI (aN A))) (nI c); rw [← hvS]; rw [ezv19]; exact congrArg (· / 2) (if_neg hco).symm, hxzg18⟩)
    · have hco : hasF 1632 (nI c) = true := (mid_h hc).mp (bI_n0.mp zc27)
      refine xj_iconst (v := 2) (by decide) dX12_costOf_30 ?_
      refine xj_iload_n (n := 3) (i := 3) 0 rfl rfl dX12_costOf_31 ?_
      refine xj_iconst (v := 1) (by decide) dX12_costOf_32 ?_
      refine xj_iadd dX12_costOf_33 ?_
      refine xj_imul dX12_costOf_34 ?_
      refine xj_goto (tgt := 41) (by decide) dX12_costOf_35 ?_
      refine xj_topi (fun zv20 ezv20 => ?_)
      refine xj_istore (i := 4) (lv1 := [(4, .int zv20), (3, .int zv17), (0, .ref 86), (1, .int (nI s)), (2, .int (nI c))]) rfl (Nat.le_of_ble_eq_true rfl) dX12_costOf_41 ?_
      refine xj_aload_n (n := 0) (i := 0) 2 rfl rfl dX12_costOf_43 ?_
      refine yj_getf (v := .ref 87) fl_X12_7_12 (by omega) (fq_86 zg18) rfl dX12_costOf_44 ?_
      refine xj_iload_n (n := 1) (i := 1) 3 rfl rfl dX12_costOf_47 ?_
      refine yj_ialdN s (by omega) fA_87 rfl (by omega) (by decide) dX12_costOf_48 ?_
      refine xj_top (show zg18 87 s = nI 4 from (by rw [hxzg18 87 (by unfold sN; omega)]; exact hkk)) ?_
      refine xj_top (show nI 4 = 4 from rfl) ?_
      refine xj_tableIn (off := 34) (tgt := 83) dX12_costOf_49 (by decide) (by decide) rfl (by decide) ?_
      refine xj_iload (i := 4) 0 rfl dX12_costOf_83 ?_
      refine xj_iconst (v := 2) (by decide) dX12_costOf_85 ?_
      refine xj_idiv (by decide) dX12_costOf_86 ?_
      exact xj_ireturn rfl (nr_i _) (Nat.zero_le _) (Nat.zero_le _) dX12_costOf_87 (qI_e ⟨by show _ = kCost 4 (saidF (Λ (aW A)) 2 (A 2 s) (A 3 s) c (A (10 + s) c) (nI (aN A))) (nI c); rw [← hvS]; rw [ezv20]; exact congrArg (· / 2) (if_pos hco).symm, hxzg18⟩)
  · refine xj_aload_n (n := 0) (i := 0) 0 rfl rfl dX12_costOf_0 ?_
    refine xj_iconst (v := 2) (by decide) dX12_costOf_1 ?_
    refine xj_iload_n (n := 1) (i := 1) 1 rfl rfl dX12_costOf_2 ?_
    refine xj_iload_n (n := 2) (i := 2) 2 rfl rfl dX12_costOf_3 ?_
    refine xj_aload_n (n := 0) (i := 0) 0 rfl rfl dX12_costOf_4 ?_
    refine yj_getf (v := .ref 89) fl_X12_16_12 (by omega) (fq_86 g) rfl dX12_costOf_5 ?_
    refine xj_bipush (v := 16) (by decide) dX12_costOf_8 ?_
    refine xj_iload_n (n := 1) (i := 1) 1 rfl rfl dX12_costOf_10 ?_
    refine xj_imul dX12_costOf_11 ?_
    refine xj_top (pk_mul 16 s) ?_
    refine xj_iload_n (n := 2) (i := 2) 2 rfl rfl dX12_costOf_12 ?_
    refine xj_iadd dX12_costOf_13 ?_
    refine xj_top (nI_add _ _) ?_
    refine yj_ialdN ((16 * s) + c) (by omega) fA_89 rfl (by omega) (by decide) dX12_costOf_14 ?_
    refine xj_top (C.du hs (by omega)) ?_
    refine xj_aload_n (n := 0) (i := 0) 0 rfl rfl dX12_costOf_15 ?_
    refine yj_getf (v := .int (nI (aN A))) fl_X12_97_12 (by omega) (fq_86 g) (congrArg (fun z => some (Value.int z)) (C.N O)) dX12_costOf_16 ?_
    refine xj_callV kv_X12_182 (c_X12_asksOf l (d + 0) n hn g A Λ O C 2 (by omega) s c hs (by omega) (A (10 + s) c) (nI (aN A))) (As := [.int 2, .int (nI s), .int (nI c), .int (A (10 + s) c), .int (nI (aN A))]) (st := []) (by omega) (fq_86 g) (ci := 12) rfl rfl rfl rfl (xRm_of (by omega) (by decide) (by omega) (by omega)) (Nat.le_of_ble_eq_true rfl) dX12_costOf_19 (yk_i (kc := 0) (ks := 0) fun zv21 zg22 hzg22 => ?_)
    obtain ⟨hvzv21, hfnzg22⟩ := hzg22
    have hxzg22 := hfnzg22
    have Czg22 := C.keep (fm.of hxzg22 sN_m)
    refine xj_istore_n (n := 3) (i := 3) (lv1 := [(3, .int zv21), (0, .ref 86), (1, .int (nI s)), (2, .int (nI c))]) rfl rfl (Nat.le_of_ble_eq_true rfl) dX12_costOf_22 ?_
    have hvS := hvzv21
    refine xj_iload_n (n := 2) (i := 2) 3 rfl rfl dX12_costOf_23 ?_
    refine xj_callS ks_X12_193 (c_X12_isMiddle l (d + 2) (nI c) _) (As := [.int (nI c)]) (st := []) rfl rfl (xRm_of (by omega) (by decide) (by omega) (by omega)) (Nat.le_of_ble_eq_true rfl) dX12_costOf_24 (yk_p (kc := 0) (ks := 0) ?_)
    refine xj_if_eq (tgt := 38) (by decide) dX12_costOf_27 (fun zc27 => ?_) (fun zc27 => ?_)
    · have hco : ¬ hasF 1632 (nI c) = true := fun z => bI_0.mp zc27 ((mid_h hc).mpr z)
      refine xj_iload_n (n := 3) (i := 3) 0 rfl rfl dX12_costOf_38 ?_
      refine xj_iconst (v := 1) (by decide) dX12_costOf_39 ?_
      refine xj_iadd dX12_costOf_40 ?_
      refine xj_topi (fun zv23 ezv23 => ?_)
      refine xj_istore (i := 4) (lv1 := [(4, .int zv23), (3, .int zv21), (0, .ref 86), (1, .int (nI s)), (2, .int (nI c))]) rfl (Nat.le_of_ble_eq_true rfl) dX12_costOf_41 ?_
      refine xj_aload_n (n := 0) (i := 0) 2 rfl rfl dX12_costOf_43 ?_
      refine yj_getf (v := .ref 87) fl_X12_7_12 (by omega) (fq_86 zg22) rfl dX12_costOf_44 ?_
      refine xj_iload_n (n := 1) (i := 1) 3 rfl rfl dX12_costOf_47 ?_
      refine yj_ialdN s (by omega) fA_87 rfl (by omega) (by decide) dX12_costOf_48 ?_
      refine xj_top (show zg22 87 s = nI 5 from (by rw [hxzg22 87 (by unfold sN; omega)]; exact hkk)) ?_
      refine xj_top (show nI 5 = 5 from rfl) ?_
      refine xj_tableIn (off := 39) (tgt := 88) dX12_costOf_49 (by decide) (by decide) rfl (by decide) ?_
      refine xj_iload_n (n := 3) (i := 3) 1 rfl rfl dX12_costOf_88 ?_
      refine xj_iconst (v := 5) (by decide) dX12_costOf_89 ?_
      refine xj_icmp_ge (tgt := 97) (by decide) dX12_costOf_90 (fun zc90 => ?_) (fun zc90 => ?_)
      · refine xj_iload_n (n := 3) (i := 3) 1 rfl rfl dX12_costOf_97 ?_
        refine xj_iconst (v := 1) (by decide) dX12_costOf_98 ?_
        refine xj_iadd dX12_costOf_99 ?_
        exact xj_ireturn rfl (nr_i _) (Nat.zero_le _) (Nat.zero_le _) dX12_costOf_100 (qI_e ⟨by show _ = kCost 5 (saidF (Λ (aW A)) 2 (A 2 s) (A 3 s) c (A (10 + s) c) (nI (aN A))) (nI c); rw [← hvS]; first | exact (if_neg (by simp only [i32_lt, i32_le] at *; omega)).symm | exact (if_pos (by simp only [i32_lt, i32_le] at *; omega)).symm, hxzg22⟩)
      · refine xj_iconst (v := 5) (by decide) dX12_costOf_93 ?_
        refine xj_goto (tgt := 100) (by decide) dX12_costOf_94 ?_
        exact xj_ireturn rfl (nr_i _) (Nat.zero_le _) (Nat.zero_le _) dX12_costOf_100 (qI_e ⟨by show _ = kCost 5 (saidF (Λ (aW A)) 2 (A 2 s) (A 3 s) c (A (10 + s) c) (nI (aN A))) (nI c); rw [← hvS]; first | exact (if_neg (by simp only [i32_lt, i32_le] at *; omega)).symm | exact (if_pos (by simp only [i32_lt, i32_le] at *; omega)).symm, hxzg22⟩)
    · have hco : hasF 1632 (nI c) = true := (mid_h hc).mp (bI_n0.mp zc27)
      refine xj_iconst (v := 2) (by decide) dX12_costOf_30 ?_
      refine xj_iload_n (n := 3) (i := 3) 0 rfl rfl dX12_costOf_31 ?_
      refine xj_iconst (v := 1) (by decide) dX12_costOf_32 ?_
      refine xj_iadd dX12_costOf_33 ?_
      refine xj_imul dX12_costOf_34 ?_
      refine xj_goto (tgt := 41) (by decide) dX12_costOf_35 ?_
      refine xj_topi (fun zv24 ezv24 => ?_)
      refine xj_istore (i := 4) (lv1 := [(4, .int zv24), (3, .int zv21), (0, .ref 86), (1, .int (nI s)), (2, .int (nI c))]) rfl (Nat.le_of_ble_eq_true rfl) dX12_costOf_41 ?_
      refine xj_aload_n (n := 0) (i := 0) 2 rfl rfl dX12_costOf_43 ?_
      refine yj_getf (v := .ref 87) fl_X12_7_12 (by omega) (fq_86 zg22) rfl dX12_costOf_44 ?_
      refine xj_iload_n (n := 1) (i := 1) 3 rfl rfl dX12_costOf_47 ?_
      refine yj_ialdN s (by omega) fA_87 rfl (by omega) (by decide) dX12_costOf_48 ?_
      refine xj_top (show zg22 87 s = nI 5 from (by rw [hxzg22 87 (by unfold sN; omega)]; exact hkk)) ?_
      refine xj_top (show nI 5 = 5 from rfl) ?_
      refine xj_tableIn (off := 39) (tgt := 88) dX12_costOf_49 (by decide) (by decide) rfl (by decide) ?_
      refine xj_iload_n (n := 3) (i := 3) 1 rfl rfl dX12_costOf_88 ?_
      refine xj_iconst (v := 5) (by decide) dX12_costOf_89 ?_
      refine xj_icmp_ge (tgt := 97) (by decide) dX12_costOf_90 (fun zc90 => ?_) (fun zc90 => ?_)
      · refine xj_iload_n (n := 3) (i := 3) 1 rfl rfl dX12_costOf_97 ?_
        refine xj_iconst (v := 1) (by decide) dX12_costOf_98 ?_
        refine xj_iadd dX12_costOf_99 ?_
        exact xj_ireturn rfl (nr_i _) (Nat.zero_le _) (Nat.zero_le _) dX12_costOf_100 (qI_e ⟨by show _ = kCost 5 (saidF (Λ (aW A)) 2 (A 2 s) (A 3 s) c (A (10 + s) c) (nI (aN A))) (nI c); rw [← hvS]; first | exact (if_neg (by simp only [i32_lt, i32_le] at *; omega)).symm | exact (if_pos (by simp only [i32_lt, i32_le] at *; omega)).symm, hxzg22⟩)
      · refine xj_iconst (v := 5) (by decide) dX12_costOf_93 ?_
        refine xj_goto (tgt := 100) (by decide) dX12_costOf_94 ?_
        exact xj_ireturn rfl (nr_i _) (Nat.zero_le _) (Nat.zero_le _) dX12_costOf_100 (qI_e ⟨by show _ = kCost 5 (saidF (Λ (aW A)) 2 (A 2 s) (A 3 s) c (A (10 + s) c) (nI (aN A))) (nI c); rw [← hvS]; first | exact (if_neg (by simp only [i32_lt, i32_le] at *; omega)).symm | exact (if_pos (by simp only [i32_lt, i32_le] at *; omega)).symm, hxzg22⟩)
