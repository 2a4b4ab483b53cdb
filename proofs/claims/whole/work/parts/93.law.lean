/-! THE LAW -/
theorem mA.cx {g g1 : xG} {A : zSt} {Λ : Nat → xL} (C : mA g A Λ) (h : fr cX g g1) : mA g1 A Λ := by
  obtain ⟨c1, cp, ct, cb, ci, cq, cw⟩ := C
  have e : ∀ j, 86 ≤ j → j < 110 → g1 j = g j := fun j a b => h j (fun y => by unfold cX at y; omega)
  refine ⟨?_, fun s hs => ?_, fun t ht => ?_, fun j hj => ?_, fun z => ?_, fun q hq => ?_, fun j hj => ?_⟩
  · unfold mA1
    rw [e 86 (by omega) (by omega)]
    exact c1
  · rw [e 87 (by omega) (by omega), e 88 (by omega) (by omega), e 89 (by omega) (by omega), e 90 (by omega) (by omega)]; exact cp s hs
  · rw [e 92 (by omega) (by omega), e 93 (by omega) (by omega)]; exact ct t ht
  · rw [e 91 (by omega) (by omega)]; exact cb j hj
  · rw [e 94 (by omega) (by omega), e 95 (by omega) (by omega), e 96 (by omega) (by omega)]; exact ci z
  · rw [e 97 (by omega) (by omega), e 98 (by omega) (by omega), e 99 (by omega) (by omega)]; exact cq q hq
  · rw [e 101 (by omega) (by omega)]; exact cw j hj
theorem cX_m (j : Nat) (h : cX j) : ¬ mX j := fun y => by
  unfold cX at h
  unfold mX at y
  omega
section LW
variable {l : Launch} {M : xM} {cc : ByteArray} {Q : Option Value → xH → Prop} {kc ks pc : Nat} {lv : List (Nat × Value)} {st : List Value}
theorem yk_T {P : Int32 → xG → Nat → Prop} (kk : ∀ (v : Int32) (g1 : xG) (n1 : Nat), P v g1 n1 → xJ l M cc Q kc ks pc lv (.int v :: st) (n1, fh g1)) : ∀ (r : Option Value) (h1 : xH), qT P r h1 → xJ l M cc Q kc ks pc lv (r.toList ++ st) h1 := by
  rintro _ _ ⟨v, g1, n1, rfl, rfl, hp⟩
  exact kk v g1 n1 hp
end LW
theorem lg_cmp_s (x : Int64) : lg_cmp x x = 0 := by
  unfold lg_cmp
  simp
set_option maxHeartbeats 4000000 in
set_option maxRecDepth 100000 in
theorem law_turns (l : Launch) (L : Nat) (xs : Nat → Int32) (hL : L ≤ 3584) : ∀ (t i n kc ks : Nat) (A : zSt) (Λ : Nat → xL) (g : xG), okA A → cA g n A Λ → mA g A Λ → i ≤ L → L < i + 7 * t + 7 → kc + 4 * t ≤ 600000 → ks + 210 * t ≤ 7302250 → xJ l (RL, 4, (some .boolean), false, room_1, some (L, xs)) cL_law (fun v _ => v = some (.int 1)) kc ks 18 [(3, .int (nI i)), (0, .ref (xN + 3)), (1, .ref 0), (2, .ref 86)] [] (n, fh g) := by
  intro t
  induction t with
  | zero =>
    intro i n kc ks A Λ g O CA MA hi ht hkc hks
    refine xj_iload_n (n := 3) (i := 3) 0 rfl rfl dL_law_18 ?_
    refine xj_aload_n (n := 0) (i := 0) 1 rfl rfl dL_law_19 ?_
    refine xj_slen rfl dL_law_20 ?_
    refine xj_top (show Int32.ofNat L = nI L from rfl) ?_
    refine xj_bipush (v := 7) (by decide) dL_law_21 ?_
    refine xj_isub dL_law_23 ?_
    refine xj_icmp_gt (tgt := 1459) (by decide) dL_law_24 (fun zc24 => ?_) (fun zc24 => ?_)
    · refine xj_iconst (v := 1) (by decide) dL_law_1459 ?_
      exact xj_ireturn rfl nr_b1 (by show kc ≤ 600000; omega) (by show ks ≤ 7302250; omega) dL_law_1460 rfl
    · have hlt : i + 7 ≤ L := by
        by_cases h9 : i + 7 ≤ L
        · exact h9
        · exact absurd ((i32_lt _ _).mpr (by rw [show (nI L - 7 : Int32).toInt = (L : Int) - 7 from pk_sub_toInt (a := L) (b := 7) (by omega) (by omega), nI_toInt (by omega)]; omega)) zc24
      omega
  | succ t ih =>
    intro i n kc ks A Λ g O CA MA hi ht hkc hks
    have hn := CA.n110 O
    have hnx : n + 4 ≤ xN := by have h1 := CA.1; have h2 := O.2.2.2.1.2.2; unfold xN; omega
    refine xj_iload_n (n := 3) (i := 3) 0 rfl rfl dL_law_18 ?_
    refine xj_aload_n (n := 0) (i := 0) 1 rfl rfl dL_law_19 ?_
    refine xj_slen rfl dL_law_20 ?_
    refine xj_top (show Int32.ofNat L = nI L from rfl) ?_
    refine xj_bipush (v := 7) (by decide) dL_law_21 ?_
    refine xj_isub dL_law_23 ?_
    refine xj_icmp_gt (tgt := 1459) (by decide) dL_law_24 (fun zc24 => ?_) (fun zc24 => ?_)
    · refine xj_iconst (v := 1) (by decide) dL_law_1459 ?_
      exact xj_ireturn rfl nr_b1 (by show kc ≤ 600000; omega) (by show ks ≤ 7302250; omega) dL_law_1460 rfl
    · have hlt : i + 7 ≤ L := by
        by_cases h9 : i + 7 ≤ L
        · exact h9
        · exact absurd ((i32_lt _ _).mpr (by rw [show (nI L - 7 : Int32).toInt = (L : Int) - 7 from pk_sub_toInt (a := L) (b := 7) (by omega) (by omega), nI_toInt (by omega)]; omega)) zc24
      refine xj_aload_n (n := 0) (i := 0) 1 rfl rfl dL_law_27 ?_
      refine xj_iload_n (n := 3) (i := 3) 0 rfl rfl dL_law_28 ?_
      refine xj_sald rfl (nI_in (by omega) (by omega)) dL_law_29 ?_
      refine xj_bipush (v := 63) (by decide) dL_law_30 ?_
      refine xj_iand dL_law_32 ?_
      refine xj_topi (fun zv1001 ezv1001 => ?_)
      by_cases zs33_0 : zv1001 = 0
      · refine xj_top zs33_0 ?_
        refine xj_tableIn (off := 159) (tgt := 192) dL_law_33 (by decide) (by decide) rfl (by decide) ?_
        refine xj_aload_n (n := 1) (i := 1) 2 rfl rfl dL_law_192 ?_
        refine xj_aload_n (n := 0) (i := 0) 1 rfl rfl dL_law_193 ?_
        refine xj_iload_n (n := 3) (i := 3) 0 rfl rfl dL_law_194 ?_
        refine xj_iconst (v := 1) (by decide) dL_law_195 ?_
        refine xj_iadd dL_law_196 ?_
        refine xj_top (nI_add i 1) ?_
        refine xj_sald rfl (nI_in (by omega) (by omega)) dL_law_197 ?_
        refine xj_callV kv_L_13 (c_X11_count l 0 n g A Λ O CA (xs (nI (i + 1)).toNatClampNeg)) (As := [.int (xs (nI (i + 1)).toNatClampNeg)]) (st := []) (by omega) (fq_0 g) (ci := 11) rfl rfl rfl rfl ⟨Nat.le_of_ble_eq_true rfl, Nat.le_of_ble_eq_true rfl, by show kc + _ ≤ 600000; simp only [xR]; omega, by show ks + _ ≤ 7302250; simp only [xR]; omega⟩ (Nat.le_of_ble_eq_true rfl) dL_law_198 (yk_i (kc := _) (ks := _) fun zv1002 zg1003 hzg1003 => ?_)
        obtain ⟨hv1, hf1⟩ := hzg1003
        have CA1 := CA.keep O hf1
        have MA1 := MA.cx (hf1.mono sX_c)
        have O1 := O
        refine xj_aload_n (n := 2) (i := 2) 3 rfl rfl dL_law_201 ?_
        refine xj_aload_n (n := 0) (i := 0) 1 rfl rfl dL_law_202 ?_
        refine xj_iload_n (n := 3) (i := 3) 0 rfl rfl dL_law_203 ?_
        refine xj_iconst (v := 1) (by decide) dL_law_204 ?_
        refine xj_iadd dL_law_205 ?_
        refine xj_top (nI_add i 1) ?_
        refine xj_sald rfl (nI_in (by omega) (by omega)) dL_law_206 ?_
        refine xj_callV kv_L_17 (c_X12_count l 0 n hn zg1003 A Λ O MA1 (xs (nI (i + 1)).toNatClampNeg)) (As := [.int (xs (nI (i + 1)).toNatClampNeg)]) (st := [.int zv1002]) (by omega) (fq_86 zg1003) (ci := 12) rfl rfl rfl rfl ⟨Nat.le_of_ble_eq_true rfl, Nat.le_of_ble_eq_true rfl, by show kc + _ ≤ 600000; simp only [xR]; omega, by show ks + _ ≤ 7302250; simp only [xR]; omega⟩ (Nat.le_of_ble_eq_true rfl) dL_law_207 (yk_i (kc := _) (ks := _) fun zv1004 zg1005 hzg1005 => ?_)
        obtain ⟨hv2, hq2⟩ := hzg1005
        have MA2 := MA1.keep (fm.of hq2 sN_m)
        have hm2 := (fm.of hq2 sN_m).fr
        have CA2 := CA1.cx O1 (fun j hj => hm2 j (cX_m j hj))
        refine xj_icmp_eq (tgt := 1453) (by decide) dL_law_210 (fun zc => ?_) (fun zc => absurd (hv1.trans hv2.symm) zc)
        refine xj_iinc (n := 7) (i := 3) (v := nI (i + 7)) (lv1 := [(3, .int (nI (i + 7))), (0, .ref (xN + 3)), (1, .ref 0), (2, .ref 86)]) 0 rfl (by rw [show Int32.ofInt 7 = nI 7 from by decide]; exact nI_add i 7) rfl (Nat.le_of_ble_eq_true rfl) dL_law_1453 ?_
        refine xj_goto (tgt := 18) (by decide) dL_law_1456 ?_
        refine xj_sub (lv' := [(3, .int (nI (i + 7))), (0, .ref (xN + 3)), (1, .ref 0), (2, .ref 86)]) [0, 1, 2, 3] rfl ?_
        exact ih (i + 7) _ _ _ A Λ _ O1 CA2 MA2 (by omega) (by omega) (by show kc + 0 + 0 + 4 * t ≤ 600000; omega) (by show ks + 0 + 0 + 210 * t ≤ 7302250; omega)
      by_cases zs33_1 : zv1001 = 1
      · refine xj_top zs33_1 ?_
        refine xj_tableIn (off := 182) (tgt := 215) dL_law_33 (by decide) (by decide) rfl (by decide) ?_
        refine xj_aload_n (n := 1) (i := 1) 2 rfl rfl dL_law_215 ?_
        refine xj_aload_n (n := 0) (i := 0) 1 rfl rfl dL_law_216 ?_
        refine xj_iload_n (n := 3) (i := 3) 0 rfl rfl dL_law_217 ?_
        refine xj_iconst (v := 1) (by decide) dL_law_218 ?_
        refine xj_iadd dL_law_219 ?_
        refine xj_top (nI_add i 1) ?_
        refine xj_sald rfl (nI_in (by omega) (by omega)) dL_law_220 ?_
        refine xj_callV kv_L_18 (c_X11_hours l 0 n g A Λ O CA (xs (nI (i + 1)).toNatClampNeg)) (As := [.int (xs (nI (i + 1)).toNatClampNeg)]) (st := []) (by omega) (fq_0 g) (ci := 11) rfl rfl rfl rfl ⟨Nat.le_of_ble_eq_true rfl, Nat.le_of_ble_eq_true rfl, by show kc + _ ≤ 600000; simp only [xR]; omega, by show ks + _ ≤ 7302250; simp only [xR]; omega⟩ (Nat.le_of_ble_eq_true rfl) dL_law_221 (yk_i (kc := _) (ks := _) fun zv1006 zg1007 hzg1007 => ?_)
        obtain ⟨hv1, CA1, hf1⟩ := hzg1007
        have MA1 := MA.cx hf1
        have O1 : okA (rHours A (xs (nI (i + 1)).toNatClampNeg)).2 := rHours_ok O (xs (nI (i + 1)).toNatClampNeg)
        refine xj_aload_n (n := 2) (i := 2) 3 rfl rfl dL_law_224 ?_
        refine xj_aload_n (n := 0) (i := 0) 1 rfl rfl dL_law_225 ?_
        refine xj_iload_n (n := 3) (i := 3) 0 rfl rfl dL_law_226 ?_
        refine xj_iconst (v := 1) (by decide) dL_law_227 ?_
        refine xj_iadd dL_law_228 ?_
        refine xj_top (nI_add i 1) ?_
        refine xj_sald rfl (nI_in (by omega) (by omega)) dL_law_229 ?_
        refine xj_callV kv_L_21 (c_X12_hours l 0 n hn zg1007 A Λ O MA1 (xs (nI (i + 1)).toNatClampNeg)) (As := [.int (xs (nI (i + 1)).toNatClampNeg)]) (st := [.int zv1006]) (by omega) (fq_86 zg1007) (ci := 12) rfl rfl rfl rfl ⟨Nat.le_of_ble_eq_true rfl, Nat.le_of_ble_eq_true rfl, by show kc + _ ≤ 600000; simp only [xR]; omega, by show ks + _ ≤ 7302250; simp only [xR]; omega⟩ (Nat.le_of_ble_eq_true rfl) dL_law_230 (yk_i (kc := _) (ks := _) fun zv1008 zg1009 hzg1009 => ?_)
        obtain ⟨hv2, MA2, hm2⟩ := hzg1009
        have CA2 := CA1.cx O1 (fun j hj => hm2 j (cX_m j hj))
        refine xj_icmp_eq (tgt := 1453) (by decide) dL_law_233 (fun zc => ?_) (fun zc => absurd (hv1.trans hv2.symm) zc)
        refine xj_iinc (n := 7) (i := 3) (v := nI (i + 7)) (lv1 := [(3, .int (nI (i + 7))), (0, .ref (xN + 3)), (1, .ref 0), (2, .ref 86)]) 0 rfl (by rw [show Int32.ofInt 7 = nI 7 from by decide]; exact nI_add i 7) rfl (Nat.le_of_ble_eq_true rfl) dL_law_1453 ?_
        refine xj_goto (tgt := 18) (by decide) dL_law_1456 ?_
        refine xj_sub (lv' := [(3, .int (nI (i + 7))), (0, .ref (xN + 3)), (1, .ref 0), (2, .ref 86)]) [0, 1, 2, 3] rfl ?_
        exact ih (i + 7) _ _ _ (rHours A (xs (nI (i + 1)).toNatClampNeg)).2 Λ _ O1 CA2 MA2 (by omega) (by omega) (by show kc + 0 + 0 + 4 * t ≤ 600000; omega) (by show ks + 0 + 0 + 210 * t ≤ 7302250; omega)
      by_cases zs33_2 : zv1001 = 2
      · refine xj_top zs33_2 ?_
        refine xj_tableIn (off := 205) (tgt := 238) dL_law_33 (by decide) (by decide) rfl (by decide) ?_
        refine xj_aload_n (n := 1) (i := 1) 2 rfl rfl dL_law_238 ?_
        refine xj_aload_n (n := 0) (i := 0) 1 rfl rfl dL_law_239 ?_
        refine xj_iload_n (n := 3) (i := 3) 0 rfl rfl dL_law_240 ?_
        refine xj_iconst (v := 1) (by decide) dL_law_241 ?_
        refine xj_iadd dL_law_242 ?_
        refine xj_top (nI_add i 1) ?_
        refine xj_sald rfl (nI_in (by omega) (by omega)) dL_law_243 ?_
        refine xj_aload_n (n := 0) (i := 0) 1 rfl rfl dL_law_244 ?_
        refine xj_iload_n (n := 3) (i := 3) 0 rfl rfl dL_law_245 ?_
        refine xj_iconst (v := 2) (by decide) dL_law_246 ?_
        refine xj_iadd dL_law_247 ?_
        refine xj_top (nI_add i 2) ?_
        refine xj_sald rfl (nI_in (by omega) (by omega)) dL_law_248 ?_
        refine xj_aload_n (n := 0) (i := 0) 1 rfl rfl dL_law_249 ?_
        refine xj_iload_n (n := 3) (i := 3) 0 rfl rfl dL_law_250 ?_
        refine xj_iconst (v := 3) (by decide) dL_law_251 ?_
        refine xj_iadd dL_law_252 ?_
        refine xj_top (nI_add i 3) ?_
        refine xj_sald rfl (nI_in (by omega) (by omega)) dL_law_253 ?_
        refine xj_aload_n (n := 0) (i := 0) 1 rfl rfl dL_law_254 ?_
        refine xj_iload_n (n := 3) (i := 3) 0 rfl rfl dL_law_255 ?_
        refine xj_iconst (v := 4) (by decide) dL_law_256 ?_
        refine xj_iadd dL_law_257 ?_
        refine xj_top (nI_add i 4) ?_
        refine xj_sald rfl (nI_in (by omega) (by omega)) dL_law_258 ?_
        refine xj_aload_n (n := 0) (i := 0) 1 rfl rfl dL_law_259 ?_
        refine xj_iload_n (n := 3) (i := 3) 0 rfl rfl dL_law_260 ?_
        refine xj_iconst (v := 5) (by decide) dL_law_261 ?_
        refine xj_iadd dL_law_262 ?_
        refine xj_top (nI_add i 5) ?_
        refine xj_sald rfl (nI_in (by omega) (by omega)) dL_law_263 ?_
        refine xj_aload_n (n := 0) (i := 0) 1 rfl rfl dL_law_264 ?_
        refine xj_iload_n (n := 3) (i := 3) 0 rfl rfl dL_law_265 ?_
        refine xj_bipush (v := 6) (by decide) dL_law_266 ?_
        refine xj_iadd dL_law_268 ?_
        refine xj_top (nI_add i 6) ?_
        refine xj_sald rfl (nI_in (by omega) (by omega)) dL_law_269 ?_
        refine xj_callV kv_L_22 (c_X11_feed l 0 n g A Λ O CA (xs (nI (i + 1)).toNatClampNeg) (xs (nI (i + 2)).toNatClampNeg) (xs (nI (i + 3)).toNatClampNeg) (xs (nI (i + 4)).toNatClampNeg) (xs (nI (i + 5)).toNatClampNeg) (xs (nI (i + 6)).toNatClampNeg)) (As := [.int (xs (nI (i + 1)).toNatClampNeg), .int (xs (nI (i + 2)).toNatClampNeg), .int (xs (nI (i + 3)).toNatClampNeg), .int (xs (nI (i + 4)).toNatClampNeg), .int (xs (nI (i + 5)).toNatClampNeg), .int (xs (nI (i + 6)).toNatClampNeg)]) (st := []) (by omega) (fq_0 g) (ci := 11) rfl rfl rfl rfl ⟨Nat.le_of_ble_eq_true rfl, Nat.le_of_ble_eq_true rfl, by show kc + _ ≤ 600000; simp only [xR]; omega, by show ks + _ ≤ 7302250; simp only [xR]; omega⟩ (Nat.le_of_ble_eq_true rfl) dL_law_270 (yk_i (kc := _) (ks := _) fun zv1010 zg1011 hzg1011 => ?_)
        obtain ⟨hv1, CA1, hf1⟩ := hzg1011
        have MA1 := MA.cx hf1
        have O1 : okA (rFeed A (xs (nI (i + 1)).toNatClampNeg) (xs (nI (i + 2)).toNatClampNeg) (xs (nI (i + 3)).toNatClampNeg) (xs (nI (i + 4)).toNatClampNeg) (xs (nI (i + 5)).toNatClampNeg) (xs (nI (i + 6)).toNatClampNeg)).2 := rFeed_ok O (xs (nI (i + 1)).toNatClampNeg) (xs (nI (i + 2)).toNatClampNeg) (xs (nI (i + 3)).toNatClampNeg) (xs (nI (i + 4)).toNatClampNeg) (xs (nI (i + 5)).toNatClampNeg) (xs (nI (i + 6)).toNatClampNeg)
        refine xj_aload_n (n := 2) (i := 2) 3 rfl rfl dL_law_273 ?_
        refine xj_aload_n (n := 0) (i := 0) 1 rfl rfl dL_law_274 ?_
        refine xj_iload_n (n := 3) (i := 3) 0 rfl rfl dL_law_275 ?_
        refine xj_iconst (v := 1) (by decide) dL_law_276 ?_
        refine xj_iadd dL_law_277 ?_
        refine xj_top (nI_add i 1) ?_
        refine xj_sald rfl (nI_in (by omega) (by omega)) dL_law_278 ?_
        refine xj_aload_n (n := 0) (i := 0) 1 rfl rfl dL_law_279 ?_
        refine xj_iload_n (n := 3) (i := 3) 0 rfl rfl dL_law_280 ?_
        refine xj_iconst (v := 2) (by decide) dL_law_281 ?_
        refine xj_iadd dL_law_282 ?_
        refine xj_top (nI_add i 2) ?_
        refine xj_sald rfl (nI_in (by omega) (by omega)) dL_law_283 ?_
        refine xj_aload_n (n := 0) (i := 0) 1 rfl rfl dL_law_284 ?_
        refine xj_iload_n (n := 3) (i := 3) 0 rfl rfl dL_law_285 ?_
        refine xj_iconst (v := 3) (by decide) dL_law_286 ?_
        refine xj_iadd dL_law_287 ?_
        refine xj_top (nI_add i 3) ?_
        refine xj_sald rfl (nI_in (by omega) (by omega)) dL_law_288 ?_
        refine xj_aload_n (n := 0) (i := 0) 1 rfl rfl dL_law_289 ?_
        refine xj_iload_n (n := 3) (i := 3) 0 rfl rfl dL_law_290 ?_
        refine xj_iconst (v := 4) (by decide) dL_law_291 ?_
        refine xj_iadd dL_law_292 ?_
        refine xj_top (nI_add i 4) ?_
        refine xj_sald rfl (nI_in (by omega) (by omega)) dL_law_293 ?_
        refine xj_aload_n (n := 0) (i := 0) 1 rfl rfl dL_law_294 ?_
        refine xj_iload_n (n := 3) (i := 3) 0 rfl rfl dL_law_295 ?_
        refine xj_iconst (v := 5) (by decide) dL_law_296 ?_
        refine xj_iadd dL_law_297 ?_
        refine xj_top (nI_add i 5) ?_
        refine xj_sald rfl (nI_in (by omega) (by omega)) dL_law_298 ?_
        refine xj_aload_n (n := 0) (i := 0) 1 rfl rfl dL_law_299 ?_
        refine xj_iload_n (n := 3) (i := 3) 0 rfl rfl dL_law_300 ?_
        refine xj_bipush (v := 6) (by decide) dL_law_301 ?_
        refine xj_iadd dL_law_303 ?_
        refine xj_top (nI_add i 6) ?_
        refine xj_sald rfl (nI_in (by omega) (by omega)) dL_law_304 ?_
        refine xj_callV kv_L_26 (c_X12_feed l 0 n hn zg1011 A Λ O MA1 (xs (nI (i + 1)).toNatClampNeg) (xs (nI (i + 2)).toNatClampNeg) (xs (nI (i + 3)).toNatClampNeg) (xs (nI (i + 4)).toNatClampNeg) (xs (nI (i + 5)).toNatClampNeg) (xs (nI (i + 6)).toNatClampNeg)) (As := [.int (xs (nI (i + 1)).toNatClampNeg), .int (xs (nI (i + 2)).toNatClampNeg), .int (xs (nI (i + 3)).toNatClampNeg), .int (xs (nI (i + 4)).toNatClampNeg), .int (xs (nI (i + 5)).toNatClampNeg), .int (xs (nI (i + 6)).toNatClampNeg)]) (st := [.int zv1010]) (by omega) (fq_86 zg1011) (ci := 12) rfl rfl rfl rfl ⟨Nat.le_of_ble_eq_true rfl, Nat.le_of_ble_eq_true rfl, by show kc + _ ≤ 600000; simp only [xR]; omega, by show ks + _ ≤ 7302250; simp only [xR]; omega⟩ (Nat.le_of_ble_eq_true rfl) dL_law_305 (yk_i (kc := _) (ks := _) fun zv1012 zg1013 hzg1013 => ?_)
        obtain ⟨hv2, MA2, hm2⟩ := hzg1013
        have CA2 := CA1.cx O1 (fun j hj => hm2 j (cX_m j hj))
        refine xj_icmp_eq (tgt := 1453) (by decide) dL_law_308 (fun zc => ?_) (fun zc => absurd (hv1.trans hv2.symm) zc)
        refine xj_iinc (n := 7) (i := 3) (v := nI (i + 7)) (lv1 := [(3, .int (nI (i + 7))), (0, .ref (xN + 3)), (1, .ref 0), (2, .ref 86)]) 0 rfl (by rw [show Int32.ofInt 7 = nI 7 from by decide]; exact nI_add i 7) rfl (Nat.le_of_ble_eq_true rfl) dL_law_1453 ?_
        refine xj_goto (tgt := 18) (by decide) dL_law_1456 ?_
        refine xj_sub (lv' := [(3, .int (nI (i + 7))), (0, .ref (xN + 3)), (1, .ref 0), (2, .ref 86)]) [0, 1, 2, 3] rfl ?_
        exact ih (i + 7) _ _ _ (rFeed A (xs (nI (i + 1)).toNatClampNeg) (xs (nI (i + 2)).toNatClampNeg) (xs (nI (i + 3)).toNatClampNeg) (xs (nI (i + 4)).toNatClampNeg) (xs (nI (i + 5)).toNatClampNeg) (xs (nI (i + 6)).toNatClampNeg)).2 Λ _ O1 CA2 MA2 (by omega) (by omega) (by show kc + 0 + 0 + 4 * t ≤ 600000; omega) (by show ks + 0 + 0 + 210 * t ≤ 7302250; omega)
      by_cases zs33_3 : zv1001 = 3
      · refine xj_top zs33_3 ?_
        refine xj_tableIn (off := 280) (tgt := 313) dL_law_33 (by decide) (by decide) rfl (by decide) ?_
        refine xj_aload_n (n := 1) (i := 1) 2 rfl rfl dL_law_313 ?_
        refine xj_callV kv_L_27 (c_X11_text l 0 n hnx g A Λ O CA) (As := []) (st := []) (by omega) (fq_0 g) (ci := 11) rfl rfl rfl rfl ⟨Nat.le_of_ble_eq_true rfl, Nat.le_of_ble_eq_true rfl, by show kc + _ ≤ 600000; simp only [xR]; omega, by show ks + _ ≤ 7302250; simp only [xR]; omega⟩ (Nat.le_of_ble_eq_true rfl) dL_law_314 (yk_T (kc := _) (ks := _) fun zv1014 zg1015 n1 hzg1015 => ?_)
        obtain ⟨hv1, CA1, hf1⟩ := hzg1015
        have MA1 := MA.cx hf1
        have O1 : okA (rText A).2 := rText_ok O 
        have hn11 := CA1.n110 O1
        refine xj_aload_n (n := 2) (i := 2) 3 rfl rfl dL_law_317 ?_
        refine xj_callV kv_L_31 (c_X12_text l 0 n1 hn11 zg1015 A Λ O MA1) (As := []) (st := [.int zv1014]) (by omega) (fq_86 zg1015) (ci := 12) rfl rfl rfl rfl ⟨Nat.le_of_ble_eq_true rfl, Nat.le_of_ble_eq_true rfl, by show kc + 4 + _ ≤ 600000; simp only [xR]; omega, by show ks + 210 + _ ≤ 7302250; simp only [xR]; omega⟩ (Nat.le_of_ble_eq_true rfl) dL_law_318 (yk_i (kc := _) (ks := _) fun zv1016 zg1017 hzg1017 => ?_)
        obtain ⟨hv2, MA2, hm2⟩ := hzg1017
        have CA2 := CA1.cx O1 (fun j hj => hm2 j (cX_m j hj))
        refine xj_icmp_eq (tgt := 1453) (by decide) dL_law_321 (fun zc => ?_) (fun zc => absurd (hv1.trans hv2.symm) zc)
        refine xj_iinc (n := 7) (i := 3) (v := nI (i + 7)) (lv1 := [(3, .int (nI (i + 7))), (0, .ref (xN + 3)), (1, .ref 0), (2, .ref 86)]) 0 rfl (by rw [show Int32.ofInt 7 = nI 7 from by decide]; exact nI_add i 7) rfl (Nat.le_of_ble_eq_true rfl) dL_law_1453 ?_
        refine xj_goto (tgt := 18) (by decide) dL_law_1456 ?_
        refine xj_sub (lv' := [(3, .int (nI (i + 7))), (0, .ref (xN + 3)), (1, .ref 0), (2, .ref 86)]) [0, 1, 2, 3] rfl ?_
        exact ih (i + 7) _ _ _ (rText A).2 (txL A Λ) _ O1 CA2 MA2 (by omega) (by omega) (by show kc + 4 + 0 + 4 * t ≤ 600000; omega) (by show ks + 210 + 0 + 210 * t ≤ 7302250; omega)
      by_cases zs33_4 : zv1001 = 4
      · refine xj_top zs33_4 ?_
        refine xj_tableIn (off := 293) (tgt := 326) dL_law_33 (by decide) (by decide) rfl (by decide) ?_
        refine xj_aload_n (n := 1) (i := 1) 2 rfl rfl dL_law_326 ?_
        refine xj_aload_n (n := 0) (i := 0) 1 rfl rfl dL_law_327 ?_
        refine xj_iload_n (n := 3) (i := 3) 0 rfl rfl dL_law_328 ?_
        refine xj_iconst (v := 1) (by decide) dL_law_329 ?_
        refine xj_iadd dL_law_330 ?_
        refine xj_top (nI_add i 1) ?_
        refine xj_sald rfl (nI_in (by omega) (by omega)) dL_law_331 ?_
        refine xj_callV kv_L_32 (c_X11_force l 0 n g A Λ O CA (xs (nI (i + 1)).toNatClampNeg)) (As := [.int (xs (nI (i + 1)).toNatClampNeg)]) (st := []) (by omega) (fq_0 g) (ci := 11) rfl rfl rfl rfl ⟨Nat.le_of_ble_eq_true rfl, Nat.le_of_ble_eq_true rfl, by show kc + _ ≤ 600000; simp only [xR]; omega, by show ks + _ ≤ 7302250; simp only [xR]; omega⟩ (Nat.le_of_ble_eq_true rfl) dL_law_332 (yk_i (kc := _) (ks := _) fun zv1018 zg1019 hzg1019 => ?_)
        obtain ⟨hv1, CA1, hf1⟩ := hzg1019
        have MA1 := MA.cx hf1
        have O1 : okA (rForce A (xs (nI (i + 1)).toNatClampNeg)).2 := rForce_ok O (xs (nI (i + 1)).toNatClampNeg)
        refine xj_aload_n (n := 2) (i := 2) 3 rfl rfl dL_law_335 ?_
        refine xj_aload_n (n := 0) (i := 0) 1 rfl rfl dL_law_336 ?_
        refine xj_iload_n (n := 3) (i := 3) 0 rfl rfl dL_law_337 ?_
        refine xj_iconst (v := 1) (by decide) dL_law_338 ?_
        refine xj_iadd dL_law_339 ?_
        refine xj_top (nI_add i 1) ?_
        refine xj_sald rfl (nI_in (by omega) (by omega)) dL_law_340 ?_
        refine xj_callV kv_L_35 (c_X12_force l 0 n hn zg1019 A Λ O MA1 (xs (nI (i + 1)).toNatClampNeg)) (As := [.int (xs (nI (i + 1)).toNatClampNeg)]) (st := [.int zv1018]) (by omega) (fq_86 zg1019) (ci := 12) rfl rfl rfl rfl ⟨Nat.le_of_ble_eq_true rfl, Nat.le_of_ble_eq_true rfl, by show kc + _ ≤ 600000; simp only [xR]; omega, by show ks + _ ≤ 7302250; simp only [xR]; omega⟩ (Nat.le_of_ble_eq_true rfl) dL_law_341 (yk_i (kc := _) (ks := _) fun zv1020 zg1021 hzg1021 => ?_)
        obtain ⟨hv2, MA2, hm2⟩ := hzg1021
        have CA2 := CA1.cx O1 (fun j hj => hm2 j (cX_m j hj))
        refine xj_icmp_eq (tgt := 1453) (by decide) dL_law_344 (fun zc => ?_) (fun zc => absurd (hv1.trans hv2.symm) zc)
        refine xj_iinc (n := 7) (i := 3) (v := nI (i + 7)) (lv1 := [(3, .int (nI (i + 7))), (0, .ref (xN + 3)), (1, .ref 0), (2, .ref 86)]) 0 rfl (by rw [show Int32.ofInt 7 = nI 7 from by decide]; exact nI_add i 7) rfl (Nat.le_of_ble_eq_true rfl) dL_law_1453 ?_
        refine xj_goto (tgt := 18) (by decide) dL_law_1456 ?_
        refine xj_sub (lv' := [(3, .int (nI (i + 7))), (0, .ref (xN + 3)), (1, .ref 0), (2, .ref 86)]) [0, 1, 2, 3] rfl ?_
        exact ih (i + 7) _ _ _ (rForce A (xs (nI (i + 1)).toNatClampNeg)).2 Λ _ O1 CA2 MA2 (by omega) (by omega) (by show kc + 0 + 0 + 4 * t ≤ 600000; omega) (by show ks + 0 + 0 + 210 * t ≤ 7302250; omega)
      by_cases zs33_5 : zv1001 = 5
      · refine xj_top zs33_5 ?_
        refine xj_tableIn (off := 316) (tgt := 349) dL_law_33 (by decide) (by decide) rfl (by decide) ?_
        refine xj_aload_n (n := 1) (i := 1) 2 rfl rfl dL_law_349 ?_
        refine xj_aload_n (n := 0) (i := 0) 1 rfl rfl dL_law_350 ?_
        refine xj_iload_n (n := 3) (i := 3) 0 rfl rfl dL_law_351 ?_
        refine xj_iconst (v := 1) (by decide) dL_law_352 ?_
        refine xj_iadd dL_law_353 ?_
        refine xj_top (nI_add i 1) ?_
        refine xj_sald rfl (nI_in (by omega) (by omega)) dL_law_354 ?_
        refine xj_aload_n (n := 0) (i := 0) 1 rfl rfl dL_law_355 ?_
        refine xj_iload_n (n := 3) (i := 3) 0 rfl rfl dL_law_356 ?_
        refine xj_iconst (v := 2) (by decide) dL_law_357 ?_
        refine xj_iadd dL_law_358 ?_
        refine xj_top (nI_add i 2) ?_
        refine xj_sald rfl (nI_in (by omega) (by omega)) dL_law_359 ?_
        refine xj_aload_n (n := 0) (i := 0) 1 rfl rfl dL_law_360 ?_
        refine xj_iload_n (n := 3) (i := 3) 0 rfl rfl dL_law_361 ?_
        refine xj_iconst (v := 3) (by decide) dL_law_362 ?_
        refine xj_iadd dL_law_363 ?_
        refine xj_top (nI_add i 3) ?_
        refine xj_sald rfl (nI_in (by omega) (by omega)) dL_law_364 ?_
        refine xj_callV kv_L_36 (c_X11_asks l 0 n g A Λ O CA (xs (nI (i + 1)).toNatClampNeg) (xs (nI (i + 2)).toNatClampNeg) (xs (nI (i + 3)).toNatClampNeg)) (As := [.int (xs (nI (i + 1)).toNatClampNeg), .int (xs (nI (i + 2)).toNatClampNeg), .int (xs (nI (i + 3)).toNatClampNeg)]) (st := []) (by omega) (fq_0 g) (ci := 11) rfl rfl rfl rfl ⟨Nat.le_of_ble_eq_true rfl, Nat.le_of_ble_eq_true rfl, by show kc + _ ≤ 600000; simp only [xR]; omega, by show ks + _ ≤ 7302250; simp only [xR]; omega⟩ (Nat.le_of_ble_eq_true rfl) dL_law_365 (yk_i (kc := _) (ks := _) fun zv1022 zg1023 hzg1023 => ?_)
        obtain ⟨hv1, hf1⟩ := hzg1023
        have CA1 := CA.keep O hf1
        have MA1 := MA.cx (hf1.mono sX_c)
        have O1 := O
        refine xj_aload_n (n := 2) (i := 2) 3 rfl rfl dL_law_368 ?_
        refine xj_aload_n (n := 0) (i := 0) 1 rfl rfl dL_law_369 ?_
        refine xj_iload_n (n := 3) (i := 3) 0 rfl rfl dL_law_370 ?_
        refine xj_iconst (v := 1) (by decide) dL_law_371 ?_
        refine xj_iadd dL_law_372 ?_
        refine xj_top (nI_add i 1) ?_
        refine xj_sald rfl (nI_in (by omega) (by omega)) dL_law_373 ?_
        refine xj_aload_n (n := 0) (i := 0) 1 rfl rfl dL_law_374 ?_
        refine xj_iload_n (n := 3) (i := 3) 0 rfl rfl dL_law_375 ?_
        refine xj_iconst (v := 2) (by decide) dL_law_376 ?_
        refine xj_iadd dL_law_377 ?_
        refine xj_top (nI_add i 2) ?_
        refine xj_sald rfl (nI_in (by omega) (by omega)) dL_law_378 ?_
        refine xj_aload_n (n := 0) (i := 0) 1 rfl rfl dL_law_379 ?_
        refine xj_iload_n (n := 3) (i := 3) 0 rfl rfl dL_law_380 ?_
        refine xj_iconst (v := 3) (by decide) dL_law_381 ?_
        refine xj_iadd dL_law_382 ?_
        refine xj_top (nI_add i 3) ?_
        refine xj_sald rfl (nI_in (by omega) (by omega)) dL_law_383 ?_
        refine xj_callV kv_L_40 (c_X12_asks l 0 n hn zg1023 A Λ O MA1 (xs (nI (i + 1)).toNatClampNeg) (xs (nI (i + 2)).toNatClampNeg) (xs (nI (i + 3)).toNatClampNeg)) (As := [.int (xs (nI (i + 1)).toNatClampNeg), .int (xs (nI (i + 2)).toNatClampNeg), .int (xs (nI (i + 3)).toNatClampNeg)]) (st := [.int zv1022]) (by omega) (fq_86 zg1023) (ci := 12) rfl rfl rfl rfl ⟨Nat.le_of_ble_eq_true rfl, Nat.le_of_ble_eq_true rfl, by show kc + _ ≤ 600000; simp only [xR]; omega, by show ks + _ ≤ 7302250; simp only [xR]; omega⟩ (Nat.le_of_ble_eq_true rfl) dL_law_384 (yk_i (kc := _) (ks := _) fun zv1024 zg1025 hzg1025 => ?_)
        obtain ⟨hv2, hq2⟩ := hzg1025
        have MA2 := MA1.keep (fm.of hq2 sN_m)
        have hm2 := (fm.of hq2 sN_m).fr
        have CA2 := CA1.cx O1 (fun j hj => hm2 j (cX_m j hj))
        refine xj_icmp_eq (tgt := 1453) (by decide) dL_law_387 (fun zc => ?_) (fun zc => absurd (hv1.trans hv2.symm) zc)
        refine xj_iinc (n := 7) (i := 3) (v := nI (i + 7)) (lv1 := [(3, .int (nI (i + 7))), (0, .ref (xN + 3)), (1, .ref 0), (2, .ref 86)]) 0 rfl (by rw [show Int32.ofInt 7 = nI 7 from by decide]; exact nI_add i 7) rfl (Nat.le_of_ble_eq_true rfl) dL_law_1453 ?_
        refine xj_goto (tgt := 18) (by decide) dL_law_1456 ?_
        refine xj_sub (lv' := [(3, .int (nI (i + 7))), (0, .ref (xN + 3)), (1, .ref 0), (2, .ref 86)]) [0, 1, 2, 3] rfl ?_
        exact ih (i + 7) _ _ _ A Λ _ O1 CA2 MA2 (by omega) (by omega) (by show kc + 0 + 0 + 4 * t ≤ 600000; omega) (by show ks + 0 + 0 + 210 * t ≤ 7302250; omega)
      by_cases zs33_6 : zv1001 = 6
      · refine xj_top zs33_6 ?_
        refine xj_tableIn (off := 359) (tgt := 392) dL_law_33 (by decide) (by decide) rfl (by decide) ?_
        refine xj_aload_n (n := 1) (i := 1) 2 rfl rfl dL_law_392 ?_
        refine xj_aload_n (n := 0) (i := 0) 1 rfl rfl dL_law_393 ?_
        refine xj_iload_n (n := 3) (i := 3) 0 rfl rfl dL_law_394 ?_
        refine xj_iconst (v := 1) (by decide) dL_law_395 ?_
        refine xj_iadd dL_law_396 ?_
        refine xj_top (nI_add i 1) ?_
        refine xj_sald rfl (nI_in (by omega) (by omega)) dL_law_397 ?_
        refine xj_aload_n (n := 0) (i := 0) 1 rfl rfl dL_law_398 ?_
        refine xj_iload_n (n := 3) (i := 3) 0 rfl rfl dL_law_399 ?_
        refine xj_iconst (v := 2) (by decide) dL_law_400 ?_
        refine xj_iadd dL_law_401 ?_
        refine xj_top (nI_add i 2) ?_
        refine xj_sald rfl (nI_in (by omega) (by omega)) dL_law_402 ?_
        refine xj_aload_n (n := 0) (i := 0) 1 rfl rfl dL_law_403 ?_
        refine xj_iload_n (n := 3) (i := 3) 0 rfl rfl dL_law_404 ?_
        refine xj_iconst (v := 3) (by decide) dL_law_405 ?_
        refine xj_iadd dL_law_406 ?_
        refine xj_top (nI_add i 3) ?_
        refine xj_sald rfl (nI_in (by omega) (by omega)) dL_law_407 ?_
        refine xj_callV kv_L_41 (c_X11_sleeper l 0 n g A Λ O CA (xs (nI (i + 1)).toNatClampNeg) (xs (nI (i + 2)).toNatClampNeg) (xs (nI (i + 3)).toNatClampNeg)) (As := [.int (xs (nI (i + 1)).toNatClampNeg), .int (xs (nI (i + 2)).toNatClampNeg), .int (xs (nI (i + 3)).toNatClampNeg)]) (st := []) (by omega) (fq_0 g) (ci := 11) rfl rfl rfl rfl ⟨Nat.le_of_ble_eq_true rfl, Nat.le_of_ble_eq_true rfl, by show kc + _ ≤ 600000; simp only [xR]; omega, by show ks + _ ≤ 7302250; simp only [xR]; omega⟩ (Nat.le_of_ble_eq_true rfl) dL_law_408 (yk_i (kc := _) (ks := _) fun zv1026 zg1027 hzg1027 => ?_)
        obtain ⟨hv1, CA1, hf1⟩ := hzg1027
        have MA1 := MA.cx hf1
        have O1 : okA (rSleeper A (xs (nI (i + 1)).toNatClampNeg) (xs (nI (i + 2)).toNatClampNeg) (xs (nI (i + 3)).toNatClampNeg)).2 := rSl_ok O (xs (nI (i + 1)).toNatClampNeg) (xs (nI (i + 2)).toNatClampNeg) (xs (nI (i + 3)).toNatClampNeg)
        refine xj_aload_n (n := 2) (i := 2) 3 rfl rfl dL_law_411 ?_
        refine xj_aload_n (n := 0) (i := 0) 1 rfl rfl dL_law_412 ?_
        refine xj_iload_n (n := 3) (i := 3) 0 rfl rfl dL_law_413 ?_
        refine xj_iconst (v := 1) (by decide) dL_law_414 ?_
        refine xj_iadd dL_law_415 ?_
        refine xj_top (nI_add i 1) ?_
        refine xj_sald rfl (nI_in (by omega) (by omega)) dL_law_416 ?_
        refine xj_aload_n (n := 0) (i := 0) 1 rfl rfl dL_law_417 ?_
        refine xj_iload_n (n := 3) (i := 3) 0 rfl rfl dL_law_418 ?_
        refine xj_iconst (v := 2) (by decide) dL_law_419 ?_
        refine xj_iadd dL_law_420 ?_
        refine xj_top (nI_add i 2) ?_
        refine xj_sald rfl (nI_in (by omega) (by omega)) dL_law_421 ?_
        refine xj_aload_n (n := 0) (i := 0) 1 rfl rfl dL_law_422 ?_
        refine xj_iload_n (n := 3) (i := 3) 0 rfl rfl dL_law_423 ?_
        refine xj_iconst (v := 3) (by decide) dL_law_424 ?_
        refine xj_iadd dL_law_425 ?_
        refine xj_top (nI_add i 3) ?_
        refine xj_sald rfl (nI_in (by omega) (by omega)) dL_law_426 ?_
        refine xj_callV kv_L_44 (c_X12_sleeper l 0 n hn zg1027 A Λ O MA1 (xs (nI (i + 1)).toNatClampNeg) (xs (nI (i + 2)).toNatClampNeg) (xs (nI (i + 3)).toNatClampNeg)) (As := [.int (xs (nI (i + 1)).toNatClampNeg), .int (xs (nI (i + 2)).toNatClampNeg), .int (xs (nI (i + 3)).toNatClampNeg)]) (st := [.int zv1026]) (by omega) (fq_86 zg1027) (ci := 12) rfl rfl rfl rfl ⟨Nat.le_of_ble_eq_true rfl, Nat.le_of_ble_eq_true rfl, by show kc + _ ≤ 600000; simp only [xR]; omega, by show ks + _ ≤ 7302250; simp only [xR]; omega⟩ (Nat.le_of_ble_eq_true rfl) dL_law_427 (yk_i (kc := _) (ks := _) fun zv1028 zg1029 hzg1029 => ?_)
        obtain ⟨hv2, MA2, hm2⟩ := hzg1029
        have CA2 := CA1.cx O1 (fun j hj => hm2 j (cX_m j hj))
        refine xj_icmp_eq (tgt := 1453) (by decide) dL_law_430 (fun zc => ?_) (fun zc => absurd (hv1.trans hv2.symm) zc)
        refine xj_iinc (n := 7) (i := 3) (v := nI (i + 7)) (lv1 := [(3, .int (nI (i + 7))), (0, .ref (xN + 3)), (1, .ref 0), (2, .ref 86)]) 0 rfl (by rw [show Int32.ofInt 7 = nI 7 from by decide]; exact nI_add i 7) rfl (Nat.le_of_ble_eq_true rfl) dL_law_1453 ?_
        refine xj_goto (tgt := 18) (by decide) dL_law_1456 ?_
        refine xj_sub (lv' := [(3, .int (nI (i + 7))), (0, .ref (xN + 3)), (1, .ref 0), (2, .ref 86)]) [0, 1, 2, 3] rfl ?_
        exact ih (i + 7) _ _ _ (rSleeper A (xs (nI (i + 1)).toNatClampNeg) (xs (nI (i + 2)).toNatClampNeg) (xs (nI (i + 3)).toNatClampNeg)).2 Λ _ O1 CA2 MA2 (by omega) (by omega) (by show kc + 0 + 0 + 4 * t ≤ 600000; omega) (by show ks + 0 + 0 + 210 * t ≤ 7302250; omega)
      by_cases zs33_7 : zv1001 = 7
      · refine xj_top zs33_7 ?_
        refine xj_tableIn (off := 402) (tgt := 435) dL_law_33 (by decide) (by decide) rfl (by decide) ?_
        refine xj_aload_n (n := 1) (i := 1) 2 rfl rfl dL_law_435 ?_
        refine xj_aload_n (n := 0) (i := 0) 1 rfl rfl dL_law_436 ?_
        refine xj_iload_n (n := 3) (i := 3) 0 rfl rfl dL_law_437 ?_
        refine xj_iconst (v := 1) (by decide) dL_law_438 ?_
        refine xj_iadd dL_law_439 ?_
        refine xj_top (nI_add i 1) ?_
        refine xj_sald rfl (nI_in (by omega) (by omega)) dL_law_440 ?_
        refine xj_aload_n (n := 0) (i := 0) 1 rfl rfl dL_law_441 ?_
        refine xj_iload_n (n := 3) (i := 3) 0 rfl rfl dL_law_442 ?_
        refine xj_iconst (v := 2) (by decide) dL_law_443 ?_
        refine xj_iadd dL_law_444 ?_
        refine xj_top (nI_add i 2) ?_
        refine xj_sald rfl (nI_in (by omega) (by omega)) dL_law_445 ?_
        refine xj_aload_n (n := 0) (i := 0) 1 rfl rfl dL_law_446 ?_
        refine xj_iload_n (n := 3) (i := 3) 0 rfl rfl dL_law_447 ?_
        refine xj_iconst (v := 3) (by decide) dL_law_448 ?_
        refine xj_iadd dL_law_449 ?_
        refine xj_top (nI_add i 3) ?_
        refine xj_sald rfl (nI_in (by omega) (by omega)) dL_law_450 ?_
        refine xj_callV kv_L_45 (c_X11_put l 0 n g A Λ O CA (xs (nI (i + 1)).toNatClampNeg) (xs (nI (i + 2)).toNatClampNeg) (xs (nI (i + 3)).toNatClampNeg)) (As := [.int (xs (nI (i + 1)).toNatClampNeg), .int (xs (nI (i + 2)).toNatClampNeg), .int (xs (nI (i + 3)).toNatClampNeg)]) (st := []) (by omega) (fq_0 g) (ci := 11) rfl rfl rfl rfl ⟨Nat.le_of_ble_eq_true rfl, Nat.le_of_ble_eq_true rfl, by show kc + _ ≤ 600000; simp only [xR]; omega, by show ks + _ ≤ 7302250; simp only [xR]; omega⟩ (Nat.le_of_ble_eq_true rfl) dL_law_451 (yk_i (kc := _) (ks := _) fun zv1030 zg1031 hzg1031 => ?_)
        obtain ⟨hv1, CA1, hf1⟩ := hzg1031
        have MA1 := MA.cx hf1
        have O1 : okA (rPut A (xs (nI (i + 1)).toNatClampNeg) (xs (nI (i + 2)).toNatClampNeg) (xs (nI (i + 3)).toNatClampNeg)).2 := rPut_ok O (xs (nI (i + 1)).toNatClampNeg) (xs (nI (i + 2)).toNatClampNeg) (xs (nI (i + 3)).toNatClampNeg)
        refine xj_aload_n (n := 2) (i := 2) 3 rfl rfl dL_law_454 ?_
        refine xj_aload_n (n := 0) (i := 0) 1 rfl rfl dL_law_455 ?_
        refine xj_iload_n (n := 3) (i := 3) 0 rfl rfl dL_law_456 ?_
        refine xj_iconst (v := 1) (by decide) dL_law_457 ?_
        refine xj_iadd dL_law_458 ?_
        refine xj_top (nI_add i 1) ?_
        refine xj_sald rfl (nI_in (by omega) (by omega)) dL_law_459 ?_
        refine xj_aload_n (n := 0) (i := 0) 1 rfl rfl dL_law_460 ?_
        refine xj_iload_n (n := 3) (i := 3) 0 rfl rfl dL_law_461 ?_
        refine xj_iconst (v := 2) (by decide) dL_law_462 ?_
        refine xj_iadd dL_law_463 ?_
        refine xj_top (nI_add i 2) ?_
        refine xj_sald rfl (nI_in (by omega) (by omega)) dL_law_464 ?_
        refine xj_aload_n (n := 0) (i := 0) 1 rfl rfl dL_law_465 ?_
        refine xj_iload_n (n := 3) (i := 3) 0 rfl rfl dL_law_466 ?_
        refine xj_iconst (v := 3) (by decide) dL_law_467 ?_
        refine xj_iadd dL_law_468 ?_
        refine xj_top (nI_add i 3) ?_
        refine xj_sald rfl (nI_in (by omega) (by omega)) dL_law_469 ?_
        refine xj_callV kv_L_48 (c_X12_put l 0 n hn zg1031 A Λ O MA1 (xs (nI (i + 1)).toNatClampNeg) (xs (nI (i + 2)).toNatClampNeg) (xs (nI (i + 3)).toNatClampNeg)) (As := [.int (xs (nI (i + 1)).toNatClampNeg), .int (xs (nI (i + 2)).toNatClampNeg), .int (xs (nI (i + 3)).toNatClampNeg)]) (st := [.int zv1030]) (by omega) (fq_86 zg1031) (ci := 12) rfl rfl rfl rfl ⟨Nat.le_of_ble_eq_true rfl, Nat.le_of_ble_eq_true rfl, by show kc + _ ≤ 600000; simp only [xR]; omega, by show ks + _ ≤ 7302250; simp only [xR]; omega⟩ (Nat.le_of_ble_eq_true rfl) dL_law_470 (yk_i (kc := _) (ks := _) fun zv1032 zg1033 hzg1033 => ?_)
        obtain ⟨hv2, MA2, hm2⟩ := hzg1033
        have CA2 := CA1.cx O1 (fun j hj => hm2 j (cX_m j hj))
        refine xj_icmp_eq (tgt := 1453) (by decide) dL_law_473 (fun zc => ?_) (fun zc => absurd (hv1.trans hv2.symm) zc)
        refine xj_iinc (n := 7) (i := 3) (v := nI (i + 7)) (lv1 := [(3, .int (nI (i + 7))), (0, .ref (xN + 3)), (1, .ref 0), (2, .ref 86)]) 0 rfl (by rw [show Int32.ofInt 7 = nI 7 from by decide]; exact nI_add i 7) rfl (Nat.le_of_ble_eq_true rfl) dL_law_1453 ?_
        refine xj_goto (tgt := 18) (by decide) dL_law_1456 ?_
        refine xj_sub (lv' := [(3, .int (nI (i + 7))), (0, .ref (xN + 3)), (1, .ref 0), (2, .ref 86)]) [0, 1, 2, 3] rfl ?_
        exact ih (i + 7) _ _ _ (rPut A (xs (nI (i + 1)).toNatClampNeg) (xs (nI (i + 2)).toNatClampNeg) (xs (nI (i + 3)).toNatClampNeg)).2 Λ _ O1 CA2 MA2 (by omega) (by omega) (by show kc + 0 + 0 + 4 * t ≤ 600000; omega) (by show ks + 0 + 0 + 210 * t ≤ 7302250; omega)
      by_cases zs33_8 : zv1001 = 8
      · refine xj_top zs33_8 ?_
        refine xj_tableIn (off := 445) (tgt := 478) dL_law_33 (by decide) (by decide) rfl (by decide) ?_
        refine xj_aload_n (n := 1) (i := 1) 2 rfl rfl dL_law_478 ?_
        refine xj_aload_n (n := 0) (i := 0) 1 rfl rfl dL_law_479 ?_
        refine xj_iload_n (n := 3) (i := 3) 0 rfl rfl dL_law_480 ?_
        refine xj_iconst (v := 1) (by decide) dL_law_481 ?_
        refine xj_iadd dL_law_482 ?_
        refine xj_top (nI_add i 1) ?_
        refine xj_sald rfl (nI_in (by omega) (by omega)) dL_law_483 ?_
        refine xj_aload_n (n := 0) (i := 0) 1 rfl rfl dL_law_484 ?_
        refine xj_iload_n (n := 3) (i := 3) 0 rfl rfl dL_law_485 ?_
        refine xj_iconst (v := 2) (by decide) dL_law_486 ?_
        refine xj_iadd dL_law_487 ?_
        refine xj_top (nI_add i 2) ?_
        refine xj_sald rfl (nI_in (by omega) (by omega)) dL_law_488 ?_
        refine xj_callV kv_L_49 (c_X11_told l 0 n g A Λ O CA (xs (nI (i + 1)).toNatClampNeg) (xs (nI (i + 2)).toNatClampNeg)) (As := [.int (xs (nI (i + 1)).toNatClampNeg), .int (xs (nI (i + 2)).toNatClampNeg)]) (st := []) (by omega) (fq_0 g) (ci := 11) rfl rfl rfl rfl ⟨Nat.le_of_ble_eq_true rfl, Nat.le_of_ble_eq_true rfl, by show kc + _ ≤ 600000; simp only [xR]; omega, by show ks + _ ≤ 7302250; simp only [xR]; omega⟩ (Nat.le_of_ble_eq_true rfl) dL_law_489 (yk_i (kc := _) (ks := _) fun zv1034 zg1035 hzg1035 => ?_)
        obtain ⟨hv1, hf1⟩ := hzg1035
        have CA1 := CA.keep O hf1
        have MA1 := MA.cx (hf1.mono sX_c)
        have O1 := O
        refine xj_aload_n (n := 2) (i := 2) 3 rfl rfl dL_law_492 ?_
        refine xj_aload_n (n := 0) (i := 0) 1 rfl rfl dL_law_493 ?_
        refine xj_iload_n (n := 3) (i := 3) 0 rfl rfl dL_law_494 ?_
        refine xj_iconst (v := 1) (by decide) dL_law_495 ?_
        refine xj_iadd dL_law_496 ?_
        refine xj_top (nI_add i 1) ?_
        refine xj_sald rfl (nI_in (by omega) (by omega)) dL_law_497 ?_
        refine xj_aload_n (n := 0) (i := 0) 1 rfl rfl dL_law_498 ?_
        refine xj_iload_n (n := 3) (i := 3) 0 rfl rfl dL_law_499 ?_
        refine xj_iconst (v := 2) (by decide) dL_law_500 ?_
        refine xj_iadd dL_law_501 ?_
        refine xj_top (nI_add i 2) ?_
        refine xj_sald rfl (nI_in (by omega) (by omega)) dL_law_502 ?_
        refine xj_callV kv_L_53 (c_X12_told l 0 n hn zg1035 A Λ O MA1 (xs (nI (i + 1)).toNatClampNeg) (xs (nI (i + 2)).toNatClampNeg)) (As := [.int (xs (nI (i + 1)).toNatClampNeg), .int (xs (nI (i + 2)).toNatClampNeg)]) (st := [.int zv1034]) (by omega) (fq_86 zg1035) (ci := 12) rfl rfl rfl rfl ⟨Nat.le_of_ble_eq_true rfl, Nat.le_of_ble_eq_true rfl, by show kc + _ ≤ 600000; simp only [xR]; omega, by show ks + _ ≤ 7302250; simp only [xR]; omega⟩ (Nat.le_of_ble_eq_true rfl) dL_law_503 (yk_i (kc := _) (ks := _) fun zv1036 zg1037 hzg1037 => ?_)
        obtain ⟨hv2, hq2⟩ := hzg1037
        have MA2 := MA1.keep (fm.of hq2 sN_m)
        have hm2 := (fm.of hq2 sN_m).fr
        have CA2 := CA1.cx O1 (fun j hj => hm2 j (cX_m j hj))
        refine xj_icmp_eq (tgt := 1453) (by decide) dL_law_506 (fun zc => ?_) (fun zc => absurd (hv1.trans hv2.symm) zc)
        refine xj_iinc (n := 7) (i := 3) (v := nI (i + 7)) (lv1 := [(3, .int (nI (i + 7))), (0, .ref (xN + 3)), (1, .ref 0), (2, .ref 86)]) 0 rfl (by rw [show Int32.ofInt 7 = nI 7 from by decide]; exact nI_add i 7) rfl (Nat.le_of_ble_eq_true rfl) dL_law_1453 ?_
        refine xj_goto (tgt := 18) (by decide) dL_law_1456 ?_
        refine xj_sub (lv' := [(3, .int (nI (i + 7))), (0, .ref (xN + 3)), (1, .ref 0), (2, .ref 86)]) [0, 1, 2, 3] rfl ?_
        exact ih (i + 7) _ _ _ A Λ _ O1 CA2 MA2 (by omega) (by omega) (by show kc + 0 + 0 + 4 * t ≤ 600000; omega) (by show ks + 0 + 0 + 210 * t ≤ 7302250; omega)
      by_cases zs33_9 : zv1001 = 9
      · refine xj_top zs33_9 ?_
        refine xj_tableIn (off := 478) (tgt := 511) dL_law_33 (by decide) (by decide) rfl (by decide) ?_
        refine xj_aload_n (n := 1) (i := 1) 2 rfl rfl dL_law_511 ?_
        refine xj_aload_n (n := 0) (i := 0) 1 rfl rfl dL_law_512 ?_
        refine xj_iload_n (n := 3) (i := 3) 0 rfl rfl dL_law_513 ?_
        refine xj_iconst (v := 1) (by decide) dL_law_514 ?_
        refine xj_iadd dL_law_515 ?_
        refine xj_top (nI_add i 1) ?_
        refine xj_sald rfl (nI_in (by omega) (by omega)) dL_law_516 ?_
        refine xj_aload_n (n := 0) (i := 0) 1 rfl rfl dL_law_517 ?_
        refine xj_iload_n (n := 3) (i := 3) 0 rfl rfl dL_law_518 ?_
        refine xj_iconst (v := 2) (by decide) dL_law_519 ?_
        refine xj_iadd dL_law_520 ?_
        refine xj_top (nI_add i 2) ?_
        refine xj_sald rfl (nI_in (by omega) (by omega)) dL_law_521 ?_
        refine xj_callV kv_L_54 (c_X11_view l 0 n g A Λ O CA (xs (nI (i + 1)).toNatClampNeg) (xs (nI (i + 2)).toNatClampNeg)) (As := [.int (xs (nI (i + 1)).toNatClampNeg), .int (xs (nI (i + 2)).toNatClampNeg)]) (st := []) (by omega) (fq_0 g) (ci := 11) rfl rfl rfl rfl ⟨Nat.le_of_ble_eq_true rfl, Nat.le_of_ble_eq_true rfl, by show kc + _ ≤ 600000; simp only [xR]; omega, by show ks + _ ≤ 7302250; simp only [xR]; omega⟩ (Nat.le_of_ble_eq_true rfl) dL_law_522 (yk_i (kc := _) (ks := _) fun zv1038 zg1039 hzg1039 => ?_)
        obtain ⟨hv1, hf1⟩ := hzg1039
        have CA1 := CA.keep O hf1
        have MA1 := MA.cx (hf1.mono sX_c)
        have O1 := O
        refine xj_aload_n (n := 2) (i := 2) 3 rfl rfl dL_law_525 ?_
        refine xj_aload_n (n := 0) (i := 0) 1 rfl rfl dL_law_526 ?_
        refine xj_iload_n (n := 3) (i := 3) 0 rfl rfl dL_law_527 ?_
        refine xj_iconst (v := 1) (by decide) dL_law_528 ?_
        refine xj_iadd dL_law_529 ?_
        refine xj_top (nI_add i 1) ?_
        refine xj_sald rfl (nI_in (by omega) (by omega)) dL_law_530 ?_
        refine xj_aload_n (n := 0) (i := 0) 1 rfl rfl dL_law_531 ?_
        refine xj_iload_n (n := 3) (i := 3) 0 rfl rfl dL_law_532 ?_
        refine xj_iconst (v := 2) (by decide) dL_law_533 ?_
        refine xj_iadd dL_law_534 ?_
        refine xj_top (nI_add i 2) ?_
        refine xj_sald rfl (nI_in (by omega) (by omega)) dL_law_535 ?_
        refine xj_callV kv_L_57 (c_X12_view l 0 n hn zg1039 A Λ O MA1 (xs (nI (i + 1)).toNatClampNeg) (xs (nI (i + 2)).toNatClampNeg)) (As := [.int (xs (nI (i + 1)).toNatClampNeg), .int (xs (nI (i + 2)).toNatClampNeg)]) (st := [.int zv1038]) (by omega) (fq_86 zg1039) (ci := 12) rfl rfl rfl rfl ⟨Nat.le_of_ble_eq_true rfl, Nat.le_of_ble_eq_true rfl, by show kc + _ ≤ 600000; simp only [xR]; omega, by show ks + _ ≤ 7302250; simp only [xR]; omega⟩ (Nat.le_of_ble_eq_true rfl) dL_law_536 (yk_i (kc := _) (ks := _) fun zv1040 zg1041 hzg1041 => ?_)
        obtain ⟨hv2, hq2⟩ := hzg1041
        have MA2 := MA1.keep (fm.of hq2 sN_m)
        have hm2 := (fm.of hq2 sN_m).fr
        have CA2 := CA1.cx O1 (fun j hj => hm2 j (cX_m j hj))
        refine xj_icmp_eq (tgt := 1453) (by decide) dL_law_539 (fun zc => ?_) (fun zc => absurd (hv1.trans hv2.symm) zc)
        refine xj_iinc (n := 7) (i := 3) (v := nI (i + 7)) (lv1 := [(3, .int (nI (i + 7))), (0, .ref (xN + 3)), (1, .ref 0), (2, .ref 86)]) 0 rfl (by rw [show Int32.ofInt 7 = nI 7 from by decide]; exact nI_add i 7) rfl (Nat.le_of_ble_eq_true rfl) dL_law_1453 ?_
        refine xj_goto (tgt := 18) (by decide) dL_law_1456 ?_
        refine xj_sub (lv' := [(3, .int (nI (i + 7))), (0, .ref (xN + 3)), (1, .ref 0), (2, .ref 86)]) [0, 1, 2, 3] rfl ?_
        exact ih (i + 7) _ _ _ A Λ _ O1 CA2 MA2 (by omega) (by omega) (by show kc + 0 + 0 + 4 * t ≤ 600000; omega) (by show ks + 0 + 0 + 210 * t ≤ 7302250; omega)
      by_cases zs33_10 : zv1001 = 10
      · refine xj_top zs33_10 ?_
        refine xj_tableIn (off := 511) (tgt := 544) dL_law_33 (by decide) (by decide) rfl (by decide) ?_
        refine xj_aload_n (n := 1) (i := 1) 2 rfl rfl dL_law_544 ?_
        refine xj_aload_n (n := 0) (i := 0) 1 rfl rfl dL_law_545 ?_
        refine xj_iload_n (n := 3) (i := 3) 0 rfl rfl dL_law_546 ?_
        refine xj_iconst (v := 1) (by decide) dL_law_547 ?_
        refine xj_iadd dL_law_548 ?_
        refine xj_top (nI_add i 1) ?_
        refine xj_sald rfl (nI_in (by omega) (by omega)) dL_law_549 ?_
        refine xj_callV kv_L_58 (c_X11_all l 0 n g A Λ O CA (xs (nI (i + 1)).toNatClampNeg)) (As := [.int (xs (nI (i + 1)).toNatClampNeg)]) (st := []) (by omega) (fq_0 g) (ci := 11) rfl rfl rfl rfl ⟨Nat.le_of_ble_eq_true rfl, Nat.le_of_ble_eq_true rfl, by show kc + _ ≤ 600000; simp only [xR]; omega, by show ks + _ ≤ 7302250; simp only [xR]; omega⟩ (Nat.le_of_ble_eq_true rfl) dL_law_550 (yk_i (kc := _) (ks := _) fun zv1042 zg1043 hzg1043 => ?_)
        obtain ⟨hv1, hf1⟩ := hzg1043
        have CA1 := CA.keep O hf1
        have MA1 := MA.cx (hf1.mono sX_c)
        have O1 := O
        refine xj_aload_n (n := 2) (i := 2) 3 rfl rfl dL_law_553 ?_
        refine xj_aload_n (n := 0) (i := 0) 1 rfl rfl dL_law_554 ?_
        refine xj_iload_n (n := 3) (i := 3) 0 rfl rfl dL_law_555 ?_
        refine xj_iconst (v := 1) (by decide) dL_law_556 ?_
        refine xj_iadd dL_law_557 ?_
        refine xj_top (nI_add i 1) ?_
        refine xj_sald rfl (nI_in (by omega) (by omega)) dL_law_558 ?_
        refine xj_callV kv_L_61 (c_X12_all l 0 n hn zg1043 A Λ O MA1 (xs (nI (i + 1)).toNatClampNeg)) (As := [.int (xs (nI (i + 1)).toNatClampNeg)]) (st := [.int zv1042]) (by omega) (fq_86 zg1043) (ci := 12) rfl rfl rfl rfl ⟨Nat.le_of_ble_eq_true rfl, Nat.le_of_ble_eq_true rfl, by show kc + _ ≤ 600000; simp only [xR]; omega, by show ks + _ ≤ 7302250; simp only [xR]; omega⟩ (Nat.le_of_ble_eq_true rfl) dL_law_559 (yk_i (kc := _) (ks := _) fun zv1044 zg1045 hzg1045 => ?_)
        obtain ⟨hv2, hq2⟩ := hzg1045
        have MA2 := MA1.keep (fm.of hq2 sN_m)
        have hm2 := (fm.of hq2 sN_m).fr
        have CA2 := CA1.cx O1 (fun j hj => hm2 j (cX_m j hj))
        refine xj_icmp_eq (tgt := 1453) (by decide) dL_law_562 (fun zc => ?_) (fun zc => absurd (hv1.trans hv2.symm) zc)
        refine xj_iinc (n := 7) (i := 3) (v := nI (i + 7)) (lv1 := [(3, .int (nI (i + 7))), (0, .ref (xN + 3)), (1, .ref 0), (2, .ref 86)]) 0 rfl (by rw [show Int32.ofInt 7 = nI 7 from by decide]; exact nI_add i 7) rfl (Nat.le_of_ble_eq_true rfl) dL_law_1453 ?_
        refine xj_goto (tgt := 18) (by decide) dL_law_1456 ?_
        refine xj_sub (lv' := [(3, .int (nI (i + 7))), (0, .ref (xN + 3)), (1, .ref 0), (2, .ref 86)]) [0, 1, 2, 3] rfl ?_
        exact ih (i + 7) _ _ _ A Λ _ O1 CA2 MA2 (by omega) (by omega) (by show kc + 0 + 0 + 4 * t ≤ 600000; omega) (by show ks + 0 + 0 + 210 * t ≤ 7302250; omega)
      by_cases zs33_11 : zv1001 = 11
      · refine xj_top zs33_11 ?_
        refine xj_tableIn (off := 534) (tgt := 567) dL_law_33 (by decide) (by decide) rfl (by decide) ?_
        refine xj_aload_n (n := 1) (i := 1) 2 rfl rfl dL_law_567 ?_
        refine xj_callV kv_L_62 (c_X11_sleep l 0 n g A Λ O CA) (As := []) (st := []) (by omega) (fq_0 g) (ci := 11) rfl rfl rfl rfl ⟨Nat.le_of_ble_eq_true rfl, Nat.le_of_ble_eq_true rfl, by show kc + _ ≤ 600000; simp only [xR]; omega, by show ks + _ ≤ 7302250; simp only [xR]; omega⟩ (Nat.le_of_ble_eq_true rfl) dL_law_568 (yk_i (kc := _) (ks := _) fun zv1046 zg1047 hzg1047 => ?_)
        obtain ⟨hv1, CA1, hf1⟩ := hzg1047
        have MA1 := MA.cx hf1
        have O1 : okA (rSleep A Λ).2 := rSleep_ok Λ O 
        refine xj_aload_n (n := 2) (i := 2) 3 rfl rfl dL_law_571 ?_
        refine xj_callV kv_L_65 (c_X12_sleep l 0 n hn zg1047 A Λ O MA1) (As := []) (st := [.int zv1046]) (by omega) (fq_86 zg1047) (ci := 12) rfl rfl rfl rfl ⟨Nat.le_of_ble_eq_true rfl, Nat.le_of_ble_eq_true rfl, by show kc + _ ≤ 600000; simp only [xR]; omega, by show ks + _ ≤ 7302250; simp only [xR]; omega⟩ (Nat.le_of_ble_eq_true rfl) dL_law_572 (yk_i (kc := _) (ks := _) fun zv1048 zg1049 hzg1049 => ?_)
        obtain ⟨hv2, MA2, hm2⟩ := hzg1049
        have CA2 := CA1.cx O1 (fun j hj => hm2 j (cX_m j hj))
        refine xj_icmp_eq (tgt := 1453) (by decide) dL_law_575 (fun zc => ?_) (fun zc => absurd (hv1.trans hv2.symm) zc)
        refine xj_iinc (n := 7) (i := 3) (v := nI (i + 7)) (lv1 := [(3, .int (nI (i + 7))), (0, .ref (xN + 3)), (1, .ref 0), (2, .ref 86)]) 0 rfl (by rw [show Int32.ofInt 7 = nI 7 from by decide]; exact nI_add i 7) rfl (Nat.le_of_ble_eq_true rfl) dL_law_1453 ?_
        refine xj_goto (tgt := 18) (by decide) dL_law_1456 ?_
        refine xj_sub (lv' := [(3, .int (nI (i + 7))), (0, .ref (xN + 3)), (1, .ref 0), (2, .ref 86)]) [0, 1, 2, 3] rfl ?_
        exact ih (i + 7) _ _ _ (rSleep A Λ).2 Λ _ O1 CA2 MA2 (by omega) (by omega) (by show kc + 0 + 0 + 4 * t ≤ 600000; omega) (by show ks + 0 + 0 + 210 * t ≤ 7302250; omega)
      by_cases zs33_12 : zv1001 = 12
      · refine xj_top zs33_12 ?_
        refine xj_tableIn (off := 547) (tgt := 580) dL_law_33 (by decide) (by decide) rfl (by decide) ?_
        refine xj_aload_n (n := 1) (i := 1) 2 rfl rfl dL_law_580 ?_
        refine xj_aload_n (n := 0) (i := 0) 1 rfl rfl dL_law_581 ?_
        refine xj_iload_n (n := 3) (i := 3) 0 rfl rfl dL_law_582 ?_
        refine xj_iconst (v := 1) (by decide) dL_law_583 ?_
        refine xj_iadd dL_law_584 ?_
        refine xj_top (nI_add i 1) ?_
        refine xj_sald rfl (nI_in (by omega) (by omega)) dL_law_585 ?_
        refine xj_aload_n (n := 0) (i := 0) 1 rfl rfl dL_law_586 ?_
        refine xj_iload_n (n := 3) (i := 3) 0 rfl rfl dL_law_587 ?_
        refine xj_iconst (v := 2) (by decide) dL_law_588 ?_
        refine xj_iadd dL_law_589 ?_
        refine xj_top (nI_add i 2) ?_
        refine xj_sald rfl (nI_in (by omega) (by omega)) dL_law_590 ?_
        refine xj_callV kv_L_66 (c_X11_clean l 0 n g A Λ O CA (xs (nI (i + 1)).toNatClampNeg) (xs (nI (i + 2)).toNatClampNeg)) (As := [.int (xs (nI (i + 1)).toNatClampNeg), .int (xs (nI (i + 2)).toNatClampNeg)]) (st := []) (by omega) (fq_0 g) (ci := 11) rfl rfl rfl rfl ⟨Nat.le_of_ble_eq_true rfl, Nat.le_of_ble_eq_true rfl, by show kc + _ ≤ 600000; simp only [xR]; omega, by show ks + _ ≤ 7302250; simp only [xR]; omega⟩ (Nat.le_of_ble_eq_true rfl) dL_law_591 (yk_i (kc := _) (ks := _) fun zv1050 zg1051 hzg1051 => ?_)
        obtain ⟨hv1, CA1, hf1⟩ := hzg1051
        have MA1 := MA.cx hf1
        have O1 : okA (rClean A Λ (xs (nI (i + 1)).toNatClampNeg) (xs (nI (i + 2)).toNatClampNeg)).2 := rClean_ok Λ O (xs (nI (i + 1)).toNatClampNeg) (xs (nI (i + 2)).toNatClampNeg)
        refine xj_aload_n (n := 2) (i := 2) 3 rfl rfl dL_law_594 ?_
        refine xj_aload_n (n := 0) (i := 0) 1 rfl rfl dL_law_595 ?_
        refine xj_iload_n (n := 3) (i := 3) 0 rfl rfl dL_law_596 ?_
        refine xj_iconst (v := 1) (by decide) dL_law_597 ?_
        refine xj_iadd dL_law_598 ?_
        refine xj_top (nI_add i 1) ?_
        refine xj_sald rfl (nI_in (by omega) (by omega)) dL_law_599 ?_
        refine xj_aload_n (n := 0) (i := 0) 1 rfl rfl dL_law_600 ?_
        refine xj_iload_n (n := 3) (i := 3) 0 rfl rfl dL_law_601 ?_
        refine xj_iconst (v := 2) (by decide) dL_law_602 ?_
        refine xj_iadd dL_law_603 ?_
        refine xj_top (nI_add i 2) ?_
        refine xj_sald rfl (nI_in (by omega) (by omega)) dL_law_604 ?_
        refine xj_callV kv_L_69 (c_X12_clean l 0 n hn zg1051 A Λ O MA1 (xs (nI (i + 1)).toNatClampNeg) (xs (nI (i + 2)).toNatClampNeg)) (As := [.int (xs (nI (i + 1)).toNatClampNeg), .int (xs (nI (i + 2)).toNatClampNeg)]) (st := [.int zv1050]) (by omega) (fq_86 zg1051) (ci := 12) rfl rfl rfl rfl ⟨Nat.le_of_ble_eq_true rfl, Nat.le_of_ble_eq_true rfl, by show kc + _ ≤ 600000; simp only [xR]; omega, by show ks + _ ≤ 7302250; simp only [xR]; omega⟩ (Nat.le_of_ble_eq_true rfl) dL_law_605 (yk_i (kc := _) (ks := _) fun zv1052 zg1053 hzg1053 => ?_)
        obtain ⟨hv2, MA2, hm2⟩ := hzg1053
        have CA2 := CA1.cx O1 (fun j hj => hm2 j (cX_m j hj))
        refine xj_icmp_eq (tgt := 1453) (by decide) dL_law_608 (fun zc => ?_) (fun zc => absurd (hv1.trans hv2.symm) zc)
        refine xj_iinc (n := 7) (i := 3) (v := nI (i + 7)) (lv1 := [(3, .int (nI (i + 7))), (0, .ref (xN + 3)), (1, .ref 0), (2, .ref 86)]) 0 rfl (by rw [show Int32.ofInt 7 = nI 7 from by decide]; exact nI_add i 7) rfl (Nat.le_of_ble_eq_true rfl) dL_law_1453 ?_
        refine xj_goto (tgt := 18) (by decide) dL_law_1456 ?_
        refine xj_sub (lv' := [(3, .int (nI (i + 7))), (0, .ref (xN + 3)), (1, .ref 0), (2, .ref 86)]) [0, 1, 2, 3] rfl ?_
        exact ih (i + 7) _ _ _ (rClean A Λ (xs (nI (i + 1)).toNatClampNeg) (xs (nI (i + 2)).toNatClampNeg)).2 Λ _ O1 CA2 MA2 (by omega) (by omega) (by show kc + 0 + 0 + 4 * t ≤ 600000; omega) (by show ks + 0 + 0 + 210 * t ≤ 7302250; omega)
      by_cases zs33_13 : zv1001 = 13
      · refine xj_top zs33_13 ?_
        refine xj_tableIn (off := 580) (tgt := 613) dL_law_33 (by decide) (by decide) rfl (by decide) ?_
        refine xj_aload_n (n := 1) (i := 1) 2 rfl rfl dL_law_613 ?_
        refine xj_aload_n (n := 0) (i := 0) 1 rfl rfl dL_law_614 ?_
        refine xj_iload_n (n := 3) (i := 3) 0 rfl rfl dL_law_615 ?_
        refine xj_iconst (v := 1) (by decide) dL_law_616 ?_
        refine xj_iadd dL_law_617 ?_
        refine xj_top (nI_add i 1) ?_
        refine xj_sald rfl (nI_in (by omega) (by omega)) dL_law_618 ?_
        refine xj_aload_n (n := 0) (i := 0) 1 rfl rfl dL_law_619 ?_
        refine xj_iload_n (n := 3) (i := 3) 0 rfl rfl dL_law_620 ?_
        refine xj_iconst (v := 2) (by decide) dL_law_621 ?_
        refine xj_iadd dL_law_622 ?_
        refine xj_top (nI_add i 2) ?_
        refine xj_sald rfl (nI_in (by omega) (by omega)) dL_law_623 ?_
        refine xj_aload_n (n := 0) (i := 0) 1 rfl rfl dL_law_624 ?_
        refine xj_iload_n (n := 3) (i := 3) 0 rfl rfl dL_law_625 ?_
        refine xj_iconst (v := 3) (by decide) dL_law_626 ?_
        refine xj_iadd dL_law_627 ?_
        refine xj_top (nI_add i 3) ?_
        refine xj_sald rfl (nI_in (by omega) (by omega)) dL_law_628 ?_
        refine xj_callV kv_L_70 (c_X11_run l 0 n g A Λ O CA (xs (nI (i + 1)).toNatClampNeg) (xs (nI (i + 2)).toNatClampNeg) (xs (nI (i + 3)).toNatClampNeg)) (As := [.int (xs (nI (i + 1)).toNatClampNeg), .int (xs (nI (i + 2)).toNatClampNeg), .int (xs (nI (i + 3)).toNatClampNeg)]) (st := []) (by omega) (fq_0 g) (ci := 11) rfl rfl rfl rfl ⟨Nat.le_of_ble_eq_true rfl, Nat.le_of_ble_eq_true rfl, by show kc + _ ≤ 600000; simp only [xR]; omega, by show ks + _ ≤ 7302250; simp only [xR]; omega⟩ (Nat.le_of_ble_eq_true rfl) dL_law_629 (yk_i (kc := _) (ks := _) fun zv1054 zg1055 hzg1055 => ?_)
        obtain ⟨hv1, hf1⟩ := hzg1055
        have CA1 := CA.keep O hf1
        have MA1 := MA.cx (hf1.mono sX_c)
        have O1 := O
        refine xj_aload_n (n := 2) (i := 2) 3 rfl rfl dL_law_632 ?_
        refine xj_aload_n (n := 0) (i := 0) 1 rfl rfl dL_law_633 ?_
        refine xj_iload_n (n := 3) (i := 3) 0 rfl rfl dL_law_634 ?_
        refine xj_iconst (v := 1) (by decide) dL_law_635 ?_
        refine xj_iadd dL_law_636 ?_
        refine xj_top (nI_add i 1) ?_
        refine xj_sald rfl (nI_in (by omega) (by omega)) dL_law_637 ?_
        refine xj_aload_n (n := 0) (i := 0) 1 rfl rfl dL_law_638 ?_
        refine xj_iload_n (n := 3) (i := 3) 0 rfl rfl dL_law_639 ?_
        refine xj_iconst (v := 2) (by decide) dL_law_640 ?_
        refine xj_iadd dL_law_641 ?_
        refine xj_top (nI_add i 2) ?_
        refine xj_sald rfl (nI_in (by omega) (by omega)) dL_law_642 ?_
        refine xj_aload_n (n := 0) (i := 0) 1 rfl rfl dL_law_643 ?_
        refine xj_iload_n (n := 3) (i := 3) 0 rfl rfl dL_law_644 ?_
        refine xj_iconst (v := 3) (by decide) dL_law_645 ?_
        refine xj_iadd dL_law_646 ?_
        refine xj_top (nI_add i 3) ?_
        refine xj_sald rfl (nI_in (by omega) (by omega)) dL_law_647 ?_
        refine xj_callV kv_L_73 (c_X12_run l 0 n hn zg1055 A Λ O MA1 (xs (nI (i + 1)).toNatClampNeg) (xs (nI (i + 2)).toNatClampNeg) (xs (nI (i + 3)).toNatClampNeg)) (As := [.int (xs (nI (i + 1)).toNatClampNeg), .int (xs (nI (i + 2)).toNatClampNeg), .int (xs (nI (i + 3)).toNatClampNeg)]) (st := [.int zv1054]) (by omega) (fq_86 zg1055) (ci := 12) rfl rfl rfl rfl ⟨Nat.le_of_ble_eq_true rfl, Nat.le_of_ble_eq_true rfl, by show kc + _ ≤ 600000; simp only [xR]; omega, by show ks + _ ≤ 7302250; simp only [xR]; omega⟩ (Nat.le_of_ble_eq_true rfl) dL_law_648 (yk_i (kc := _) (ks := _) fun zv1056 zg1057 hzg1057 => ?_)
        obtain ⟨hv2, hq2⟩ := hzg1057
        have MA2 := MA1.keep hq2
        have hm2 := hq2.fr
        have CA2 := CA1.cx O1 (fun j hj => hm2 j (cX_m j hj))
        refine xj_icmp_eq (tgt := 1453) (by decide) dL_law_651 (fun zc => ?_) (fun zc => absurd (hv1.trans hv2.symm) zc)
        refine xj_iinc (n := 7) (i := 3) (v := nI (i + 7)) (lv1 := [(3, .int (nI (i + 7))), (0, .ref (xN + 3)), (1, .ref 0), (2, .ref 86)]) 0 rfl (by rw [show Int32.ofInt 7 = nI 7 from by decide]; exact nI_add i 7) rfl (Nat.le_of_ble_eq_true rfl) dL_law_1453 ?_
        refine xj_goto (tgt := 18) (by decide) dL_law_1456 ?_
        refine xj_sub (lv' := [(3, .int (nI (i + 7))), (0, .ref (xN + 3)), (1, .ref 0), (2, .ref 86)]) [0, 1, 2, 3] rfl ?_
        exact ih (i + 7) _ _ _ A Λ _ O1 CA2 MA2 (by omega) (by omega) (by show kc + 0 + 0 + 4 * t ≤ 600000; omega) (by show ks + 0 + 0 + 210 * t ≤ 7302250; omega)
      by_cases zs33_14 : zv1001 = 14
      · refine xj_top zs33_14 ?_
        refine xj_tableIn (off := 623) (tgt := 656) dL_law_33 (by decide) (by decide) rfl (by decide) ?_
        refine xj_aload_n (n := 1) (i := 1) 2 rfl rfl dL_law_656 ?_
        refine xj_aload_n (n := 0) (i := 0) 1 rfl rfl dL_law_657 ?_
        refine xj_iload_n (n := 3) (i := 3) 0 rfl rfl dL_law_658 ?_
        refine xj_iconst (v := 1) (by decide) dL_law_659 ?_
        refine xj_iadd dL_law_660 ?_
        refine xj_top (nI_add i 1) ?_
        refine xj_sald rfl (nI_in (by omega) (by omega)) dL_law_661 ?_
        refine xj_callV kv_L_74 (c_X11_blind l 0 n g A Λ O CA (xs (nI (i + 1)).toNatClampNeg)) (As := [.int (xs (nI (i + 1)).toNatClampNeg)]) (st := []) (by omega) (fq_0 g) (ci := 11) rfl rfl rfl rfl ⟨Nat.le_of_ble_eq_true rfl, Nat.le_of_ble_eq_true rfl, by show kc + _ ≤ 600000; simp only [xR]; omega, by show ks + _ ≤ 7302250; simp only [xR]; omega⟩ (Nat.le_of_ble_eq_true rfl) dL_law_662 (yk_i (kc := _) (ks := _) fun zv1058 zg1059 hzg1059 => ?_)
        obtain ⟨hv1, hf1⟩ := hzg1059
        have CA1 := CA.keep O hf1
        have MA1 := MA.cx (hf1.mono sX_c)
        have O1 := O
        refine xj_aload_n (n := 2) (i := 2) 3 rfl rfl dL_law_665 ?_
        refine xj_aload_n (n := 0) (i := 0) 1 rfl rfl dL_law_666 ?_
        refine xj_iload_n (n := 3) (i := 3) 0 rfl rfl dL_law_667 ?_
        refine xj_iconst (v := 1) (by decide) dL_law_668 ?_
        refine xj_iadd dL_law_669 ?_
        refine xj_top (nI_add i 1) ?_
        refine xj_sald rfl (nI_in (by omega) (by omega)) dL_law_670 ?_
        refine xj_callV kv_L_77 (c_X12_blind l 0 n hn zg1059 A Λ O MA1 (xs (nI (i + 1)).toNatClampNeg)) (As := [.int (xs (nI (i + 1)).toNatClampNeg)]) (st := [.int zv1058]) (by omega) (fq_86 zg1059) (ci := 12) rfl rfl rfl rfl ⟨Nat.le_of_ble_eq_true rfl, Nat.le_of_ble_eq_true rfl, by show kc + _ ≤ 600000; simp only [xR]; omega, by show ks + _ ≤ 7302250; simp only [xR]; omega⟩ (Nat.le_of_ble_eq_true rfl) dL_law_671 (yk_i (kc := _) (ks := _) fun zv1060 zg1061 hzg1061 => ?_)
        obtain ⟨hv2, hq2⟩ := hzg1061
        have MA2 := MA1.keep hq2
        have hm2 := hq2.fr
        have CA2 := CA1.cx O1 (fun j hj => hm2 j (cX_m j hj))
        refine xj_icmp_eq (tgt := 1453) (by decide) dL_law_674 (fun zc => ?_) (fun zc => absurd (hv1.trans hv2.symm) zc)
        refine xj_iinc (n := 7) (i := 3) (v := nI (i + 7)) (lv1 := [(3, .int (nI (i + 7))), (0, .ref (xN + 3)), (1, .ref 0), (2, .ref 86)]) 0 rfl (by rw [show Int32.ofInt 7 = nI 7 from by decide]; exact nI_add i 7) rfl (Nat.le_of_ble_eq_true rfl) dL_law_1453 ?_
        refine xj_goto (tgt := 18) (by decide) dL_law_1456 ?_
        refine xj_sub (lv' := [(3, .int (nI (i + 7))), (0, .ref (xN + 3)), (1, .ref 0), (2, .ref 86)]) [0, 1, 2, 3] rfl ?_
        exact ih (i + 7) _ _ _ A Λ _ O1 CA2 MA2 (by omega) (by omega) (by show kc + 0 + 0 + 4 * t ≤ 600000; omega) (by show ks + 0 + 0 + 210 * t ≤ 7302250; omega)
      by_cases zs33_15 : zv1001 = 15
      · refine xj_top zs33_15 ?_
        refine xj_tableIn (off := 646) (tgt := 679) dL_law_33 (by decide) (by decide) rfl (by decide) ?_
        refine xj_aload_n (n := 1) (i := 1) 2 rfl rfl dL_law_679 ?_
        refine xj_aload_n (n := 0) (i := 0) 1 rfl rfl dL_law_680 ?_
        refine xj_iload_n (n := 3) (i := 3) 0 rfl rfl dL_law_681 ?_
        refine xj_iconst (v := 1) (by decide) dL_law_682 ?_
        refine xj_iadd dL_law_683 ?_
        refine xj_top (nI_add i 1) ?_
        refine xj_sald rfl (nI_in (by omega) (by omega)) dL_law_684 ?_
        refine xj_aload_n (n := 0) (i := 0) 1 rfl rfl dL_law_685 ?_
        refine xj_iload_n (n := 3) (i := 3) 0 rfl rfl dL_law_686 ?_
        refine xj_iconst (v := 2) (by decide) dL_law_687 ?_
        refine xj_iadd dL_law_688 ?_
        refine xj_top (nI_add i 2) ?_
        refine xj_sald rfl (nI_in (by omega) (by omega)) dL_law_689 ?_
        refine xj_callV kv_L_78 (c_X11_best l 0 n g A Λ O CA (xs (nI (i + 1)).toNatClampNeg) (xs (nI (i + 2)).toNatClampNeg)) (As := [.int (xs (nI (i + 1)).toNatClampNeg), .int (xs (nI (i + 2)).toNatClampNeg)]) (st := []) (by omega) (fq_0 g) (ci := 11) rfl rfl rfl rfl ⟨Nat.le_of_ble_eq_true rfl, Nat.le_of_ble_eq_true rfl, by show kc + _ ≤ 600000; simp only [xR]; omega, by show ks + _ ≤ 7302250; simp only [xR]; omega⟩ (Nat.le_of_ble_eq_true rfl) dL_law_690 (yk_i (kc := _) (ks := _) fun zv1062 zg1063 hzg1063 => ?_)
        obtain ⟨hv1, hf1⟩ := hzg1063
        have CA1 := CA.keep O hf1
        have MA1 := MA.cx (hf1.mono sX_c)
        have O1 := O
        refine xj_aload_n (n := 2) (i := 2) 3 rfl rfl dL_law_693 ?_
        refine xj_aload_n (n := 0) (i := 0) 1 rfl rfl dL_law_694 ?_
        refine xj_iload_n (n := 3) (i := 3) 0 rfl rfl dL_law_695 ?_
        refine xj_iconst (v := 1) (by decide) dL_law_696 ?_
        refine xj_iadd dL_law_697 ?_
        refine xj_top (nI_add i 1) ?_
        refine xj_sald rfl (nI_in (by omega) (by omega)) dL_law_698 ?_
        refine xj_aload_n (n := 0) (i := 0) 1 rfl rfl dL_law_699 ?_
        refine xj_iload_n (n := 3) (i := 3) 0 rfl rfl dL_law_700 ?_
        refine xj_iconst (v := 2) (by decide) dL_law_701 ?_
        refine xj_iadd dL_law_702 ?_
        refine xj_top (nI_add i 2) ?_
        refine xj_sald rfl (nI_in (by omega) (by omega)) dL_law_703 ?_
        refine xj_callV kv_L_81 (c_X12_best l 0 n hn zg1063 A Λ O MA1 (xs (nI (i + 1)).toNatClampNeg) (xs (nI (i + 2)).toNatClampNeg)) (As := [.int (xs (nI (i + 1)).toNatClampNeg), .int (xs (nI (i + 2)).toNatClampNeg)]) (st := [.int zv1062]) (by omega) (fq_86 zg1063) (ci := 12) rfl rfl rfl rfl ⟨Nat.le_of_ble_eq_true rfl, Nat.le_of_ble_eq_true rfl, by show kc + _ ≤ 600000; simp only [xR]; omega, by show ks + _ ≤ 7302250; simp only [xR]; omega⟩ (Nat.le_of_ble_eq_true rfl) dL_law_704 (yk_i (kc := _) (ks := _) fun zv1064 zg1065 hzg1065 => ?_)
        obtain ⟨hv2, hq2⟩ := hzg1065
        have MA2 := MA1.keep hq2
        have hm2 := hq2.fr
        have CA2 := CA1.cx O1 (fun j hj => hm2 j (cX_m j hj))
        refine xj_icmp_eq (tgt := 1453) (by decide) dL_law_707 (fun zc => ?_) (fun zc => absurd (hv1.trans hv2.symm) zc)
        refine xj_iinc (n := 7) (i := 3) (v := nI (i + 7)) (lv1 := [(3, .int (nI (i + 7))), (0, .ref (xN + 3)), (1, .ref 0), (2, .ref 86)]) 0 rfl (by rw [show Int32.ofInt 7 = nI 7 from by decide]; exact nI_add i 7) rfl (Nat.le_of_ble_eq_true rfl) dL_law_1453 ?_
        refine xj_goto (tgt := 18) (by decide) dL_law_1456 ?_
        refine xj_sub (lv' := [(3, .int (nI (i + 7))), (0, .ref (xN + 3)), (1, .ref 0), (2, .ref 86)]) [0, 1, 2, 3] rfl ?_
        exact ih (i + 7) _ _ _ A Λ _ O1 CA2 MA2 (by omega) (by omega) (by show kc + 0 + 0 + 4 * t ≤ 600000; omega) (by show ks + 0 + 0 + 210 * t ≤ 7302250; omega)
      by_cases zs33_16 : zv1001 = 16
      · refine xj_top zs33_16 ?_
        refine xj_tableIn (off := 679) (tgt := 712) dL_law_33 (by decide) (by decide) rfl (by decide) ?_
        refine xj_aload_n (n := 1) (i := 1) 2 rfl rfl dL_law_712 ?_
        refine xj_aload_n (n := 0) (i := 0) 1 rfl rfl dL_law_713 ?_
        refine xj_iload_n (n := 3) (i := 3) 0 rfl rfl dL_law_714 ?_
        refine xj_iconst (v := 1) (by decide) dL_law_715 ?_
        refine xj_iadd dL_law_716 ?_
        refine xj_top (nI_add i 1) ?_
        refine xj_sald rfl (nI_in (by omega) (by omega)) dL_law_717 ?_
        refine xj_callV kv_L_82 (c_X11_whom l 0 n g A Λ O CA (xs (nI (i + 1)).toNatClampNeg)) (As := [.int (xs (nI (i + 1)).toNatClampNeg)]) (st := []) (by omega) (fq_0 g) (ci := 11) rfl rfl rfl rfl ⟨Nat.le_of_ble_eq_true rfl, Nat.le_of_ble_eq_true rfl, by show kc + _ ≤ 600000; simp only [xR]; omega, by show ks + _ ≤ 7302250; simp only [xR]; omega⟩ (Nat.le_of_ble_eq_true rfl) dL_law_718 (yk_i (kc := _) (ks := _) fun zv1066 zg1067 hzg1067 => ?_)
        obtain ⟨hv1, hf1⟩ := hzg1067
        have CA1 := CA.keep O hf1
        have MA1 := MA.cx (hf1.mono sX_c)
        have O1 := O
        refine xj_aload_n (n := 2) (i := 2) 3 rfl rfl dL_law_721 ?_
        refine xj_aload_n (n := 0) (i := 0) 1 rfl rfl dL_law_722 ?_
        refine xj_iload_n (n := 3) (i := 3) 0 rfl rfl dL_law_723 ?_
        refine xj_iconst (v := 1) (by decide) dL_law_724 ?_
        refine xj_iadd dL_law_725 ?_
        refine xj_top (nI_add i 1) ?_
        refine xj_sald rfl (nI_in (by omega) (by omega)) dL_law_726 ?_
        refine xj_callV kv_L_85 (c_X12_whom l 0 n hn zg1067 A Λ O MA1 (xs (nI (i + 1)).toNatClampNeg)) (As := [.int (xs (nI (i + 1)).toNatClampNeg)]) (st := [.int zv1066]) (by omega) (fq_86 zg1067) (ci := 12) rfl rfl rfl rfl ⟨Nat.le_of_ble_eq_true rfl, Nat.le_of_ble_eq_true rfl, by show kc + _ ≤ 600000; simp only [xR]; omega, by show ks + _ ≤ 7302250; simp only [xR]; omega⟩ (Nat.le_of_ble_eq_true rfl) dL_law_727 (yk_i (kc := _) (ks := _) fun zv1068 zg1069 hzg1069 => ?_)
        obtain ⟨hv2, hq2⟩ := hzg1069
        have MA2 := MA1.keep hq2
        have hm2 := hq2.fr
        have CA2 := CA1.cx O1 (fun j hj => hm2 j (cX_m j hj))
        refine xj_icmp_eq (tgt := 1453) (by decide) dL_law_730 (fun zc => ?_) (fun zc => absurd (hv1.trans hv2.symm) zc)
        refine xj_iinc (n := 7) (i := 3) (v := nI (i + 7)) (lv1 := [(3, .int (nI (i + 7))), (0, .ref (xN + 3)), (1, .ref 0), (2, .ref 86)]) 0 rfl (by rw [show Int32.ofInt 7 = nI 7 from by decide]; exact nI_add i 7) rfl (Nat.le_of_ble_eq_true rfl) dL_law_1453 ?_
        refine xj_goto (tgt := 18) (by decide) dL_law_1456 ?_
        refine xj_sub (lv' := [(3, .int (nI (i + 7))), (0, .ref (xN + 3)), (1, .ref 0), (2, .ref 86)]) [0, 1, 2, 3] rfl ?_
        exact ih (i + 7) _ _ _ A Λ _ O1 CA2 MA2 (by omega) (by omega) (by show kc + 0 + 0 + 4 * t ≤ 600000; omega) (by show ks + 0 + 0 + 210 * t ≤ 7302250; omega)
      by_cases zs33_17 : zv1001 = 17
      · refine xj_top zs33_17 ?_
        refine xj_tableIn (off := 702) (tgt := 735) dL_law_33 (by decide) (by decide) rfl (by decide) ?_
        refine xj_aload_n (n := 1) (i := 1) 2 rfl rfl dL_law_735 ?_
        refine xj_aload_n (n := 0) (i := 0) 1 rfl rfl dL_law_736 ?_
        refine xj_iload_n (n := 3) (i := 3) 0 rfl rfl dL_law_737 ?_
        refine xj_iconst (v := 1) (by decide) dL_law_738 ?_
        refine xj_iadd dL_law_739 ?_
        refine xj_top (nI_add i 1) ?_
        refine xj_sald rfl (nI_in (by omega) (by omega)) dL_law_740 ?_
        refine xj_aload_n (n := 0) (i := 0) 1 rfl rfl dL_law_741 ?_
        refine xj_iload_n (n := 3) (i := 3) 0 rfl rfl dL_law_742 ?_
        refine xj_iconst (v := 2) (by decide) dL_law_743 ?_
        refine xj_iadd dL_law_744 ?_
        refine xj_top (nI_add i 2) ?_
        refine xj_sald rfl (nI_in (by omega) (by omega)) dL_law_745 ?_
        refine xj_callV kv_L_86 (c_X11_show l 0 n g A Λ O CA (xs (nI (i + 1)).toNatClampNeg) (xs (nI (i + 2)).toNatClampNeg)) (As := [.int (xs (nI (i + 1)).toNatClampNeg), .int (xs (nI (i + 2)).toNatClampNeg)]) (st := []) (by omega) (fq_0 g) (ci := 11) rfl rfl rfl rfl ⟨Nat.le_of_ble_eq_true rfl, Nat.le_of_ble_eq_true rfl, by show kc + _ ≤ 600000; simp only [xR]; omega, by show ks + _ ≤ 7302250; simp only [xR]; omega⟩ (Nat.le_of_ble_eq_true rfl) dL_law_746 (yk_i (kc := _) (ks := _) fun zv1070 zg1071 hzg1071 => ?_)
        obtain ⟨hv1, hf1⟩ := hzg1071
        have CA1 := CA.keep O hf1
        have MA1 := MA.cx (hf1.mono sX_c)
        have O1 := O
        refine xj_aload_n (n := 2) (i := 2) 3 rfl rfl dL_law_749 ?_
        refine xj_aload_n (n := 0) (i := 0) 1 rfl rfl dL_law_750 ?_
        refine xj_iload_n (n := 3) (i := 3) 0 rfl rfl dL_law_751 ?_
        refine xj_iconst (v := 1) (by decide) dL_law_752 ?_
        refine xj_iadd dL_law_753 ?_
        refine xj_top (nI_add i 1) ?_
        refine xj_sald rfl (nI_in (by omega) (by omega)) dL_law_754 ?_
        refine xj_aload_n (n := 0) (i := 0) 1 rfl rfl dL_law_755 ?_
        refine xj_iload_n (n := 3) (i := 3) 0 rfl rfl dL_law_756 ?_
        refine xj_iconst (v := 2) (by decide) dL_law_757 ?_
        refine xj_iadd dL_law_758 ?_
        refine xj_top (nI_add i 2) ?_
        refine xj_sald rfl (nI_in (by omega) (by omega)) dL_law_759 ?_
        refine xj_callV kv_L_89 (c_X12_show l 0 n hn zg1071 A Λ O MA1 (xs (nI (i + 1)).toNatClampNeg) (xs (nI (i + 2)).toNatClampNeg)) (As := [.int (xs (nI (i + 1)).toNatClampNeg), .int (xs (nI (i + 2)).toNatClampNeg)]) (st := [.int zv1070]) (by omega) (fq_86 zg1071) (ci := 12) rfl rfl rfl rfl ⟨Nat.le_of_ble_eq_true rfl, Nat.le_of_ble_eq_true rfl, by show kc + _ ≤ 600000; simp only [xR]; omega, by show ks + _ ≤ 7302250; simp only [xR]; omega⟩ (Nat.le_of_ble_eq_true rfl) dL_law_760 (yk_i (kc := _) (ks := _) fun zv1072 zg1073 hzg1073 => ?_)
        obtain ⟨hv2, hq2⟩ := hzg1073
        have MA2 := MA1.keep (fm.of hq2 sN_m)
        have hm2 := (fm.of hq2 sN_m).fr
        have CA2 := CA1.cx O1 (fun j hj => hm2 j (cX_m j hj))
        refine xj_icmp_eq (tgt := 1453) (by decide) dL_law_763 (fun zc => ?_) (fun zc => absurd (hv1.trans hv2.symm) zc)
        refine xj_iinc (n := 7) (i := 3) (v := nI (i + 7)) (lv1 := [(3, .int (nI (i + 7))), (0, .ref (xN + 3)), (1, .ref 0), (2, .ref 86)]) 0 rfl (by rw [show Int32.ofInt 7 = nI 7 from by decide]; exact nI_add i 7) rfl (Nat.le_of_ble_eq_true rfl) dL_law_1453 ?_
        refine xj_goto (tgt := 18) (by decide) dL_law_1456 ?_
        refine xj_sub (lv' := [(3, .int (nI (i + 7))), (0, .ref (xN + 3)), (1, .ref 0), (2, .ref 86)]) [0, 1, 2, 3] rfl ?_
        exact ih (i + 7) _ _ _ A Λ _ O1 CA2 MA2 (by omega) (by omega) (by show kc + 0 + 0 + 4 * t ≤ 600000; omega) (by show ks + 0 + 0 + 210 * t ≤ 7302250; omega)
      by_cases zs33_18 : zv1001 = 18
      · refine xj_top zs33_18 ?_
        refine xj_tableIn (off := 735) (tgt := 768) dL_law_33 (by decide) (by decide) rfl (by decide) ?_
        refine xj_aload_n (n := 1) (i := 1) 2 rfl rfl dL_law_768 ?_
        refine xj_aload_n (n := 0) (i := 0) 1 rfl rfl dL_law_769 ?_
        refine xj_iload_n (n := 3) (i := 3) 0 rfl rfl dL_law_770 ?_
        refine xj_iconst (v := 1) (by decide) dL_law_771 ?_
        refine xj_iadd dL_law_772 ?_
        refine xj_top (nI_add i 1) ?_
        refine xj_sald rfl (nI_in (by omega) (by omega)) dL_law_773 ?_
        refine xj_aload_n (n := 0) (i := 0) 1 rfl rfl dL_law_774 ?_
        refine xj_iload_n (n := 3) (i := 3) 0 rfl rfl dL_law_775 ?_
        refine xj_iconst (v := 2) (by decide) dL_law_776 ?_
        refine xj_iadd dL_law_777 ?_
        refine xj_top (nI_add i 2) ?_
        refine xj_sald rfl (nI_in (by omega) (by omega)) dL_law_778 ?_
        refine xj_callV kv_L_90 (c_X11_way l 0 n g A Λ O CA (xs (nI (i + 1)).toNatClampNeg) (xs (nI (i + 2)).toNatClampNeg)) (As := [.int (xs (nI (i + 1)).toNatClampNeg), .int (xs (nI (i + 2)).toNatClampNeg)]) (st := []) (by omega) (fq_0 g) (ci := 11) rfl rfl rfl rfl ⟨Nat.le_of_ble_eq_true rfl, Nat.le_of_ble_eq_true rfl, by show kc + _ ≤ 600000; simp only [xR]; omega, by show ks + _ ≤ 7302250; simp only [xR]; omega⟩ (Nat.le_of_ble_eq_true rfl) dL_law_779 (yk_i (kc := _) (ks := _) fun zv1074 zg1075 hzg1075 => ?_)
        obtain ⟨hv1, hf1⟩ := hzg1075
        have CA1 := CA.keep O hf1
        have MA1 := MA.cx (hf1.mono sX_c)
        have O1 := O
        refine xj_aload_n (n := 2) (i := 2) 3 rfl rfl dL_law_782 ?_
        refine xj_aload_n (n := 0) (i := 0) 1 rfl rfl dL_law_783 ?_
        refine xj_iload_n (n := 3) (i := 3) 0 rfl rfl dL_law_784 ?_
        refine xj_iconst (v := 1) (by decide) dL_law_785 ?_
        refine xj_iadd dL_law_786 ?_
        refine xj_top (nI_add i 1) ?_
        refine xj_sald rfl (nI_in (by omega) (by omega)) dL_law_787 ?_
        refine xj_aload_n (n := 0) (i := 0) 1 rfl rfl dL_law_788 ?_
        refine xj_iload_n (n := 3) (i := 3) 0 rfl rfl dL_law_789 ?_
        refine xj_iconst (v := 2) (by decide) dL_law_790 ?_
        refine xj_iadd dL_law_791 ?_
        refine xj_top (nI_add i 2) ?_
        refine xj_sald rfl (nI_in (by omega) (by omega)) dL_law_792 ?_
        refine xj_callV kv_L_93 (c_X12_way l 0 n hn zg1075 A Λ O MA1 (xs (nI (i + 1)).toNatClampNeg) (xs (nI (i + 2)).toNatClampNeg)) (As := [.int (xs (nI (i + 1)).toNatClampNeg), .int (xs (nI (i + 2)).toNatClampNeg)]) (st := [.int zv1074]) (by omega) (fq_86 zg1075) (ci := 12) rfl rfl rfl rfl ⟨Nat.le_of_ble_eq_true rfl, Nat.le_of_ble_eq_true rfl, by show kc + _ ≤ 600000; simp only [xR]; omega, by show ks + _ ≤ 7302250; simp only [xR]; omega⟩ (Nat.le_of_ble_eq_true rfl) dL_law_793 (yk_i (kc := _) (ks := _) fun zv1076 zg1077 hzg1077 => ?_)
        obtain ⟨hv2, hq2⟩ := hzg1077
        have MA2 := MA1.keep hq2
        have hm2 := hq2.fr
        have CA2 := CA1.cx O1 (fun j hj => hm2 j (cX_m j hj))
        refine xj_icmp_eq (tgt := 1453) (by decide) dL_law_796 (fun zc => ?_) (fun zc => absurd (hv1.trans hv2.symm) zc)
        refine xj_iinc (n := 7) (i := 3) (v := nI (i + 7)) (lv1 := [(3, .int (nI (i + 7))), (0, .ref (xN + 3)), (1, .ref 0), (2, .ref 86)]) 0 rfl (by rw [show Int32.ofInt 7 = nI 7 from by decide]; exact nI_add i 7) rfl (Nat.le_of_ble_eq_true rfl) dL_law_1453 ?_
        refine xj_goto (tgt := 18) (by decide) dL_law_1456 ?_
        refine xj_sub (lv' := [(3, .int (nI (i + 7))), (0, .ref (xN + 3)), (1, .ref 0), (2, .ref 86)]) [0, 1, 2, 3] rfl ?_
        exact ih (i + 7) _ _ _ A Λ _ O1 CA2 MA2 (by omega) (by omega) (by show kc + 0 + 0 + 4 * t ≤ 600000; omega) (by show ks + 0 + 0 + 210 * t ≤ 7302250; omega)
      by_cases zs33_19 : zv1001 = 19
      · refine xj_top zs33_19 ?_
        refine xj_tableIn (off := 768) (tgt := 801) dL_law_33 (by decide) (by decide) rfl (by decide) ?_
        refine xj_aload_n (n := 1) (i := 1) 2 rfl rfl dL_law_801 ?_
        refine xj_aload_n (n := 0) (i := 0) 1 rfl rfl dL_law_802 ?_
        refine xj_iload_n (n := 3) (i := 3) 0 rfl rfl dL_law_803 ?_
        refine xj_iconst (v := 1) (by decide) dL_law_804 ?_
        refine xj_iadd dL_law_805 ?_
        refine xj_top (nI_add i 1) ?_
        refine xj_sald rfl (nI_in (by omega) (by omega)) dL_law_806 ?_
        refine xj_callV kv_L_94 (c_X11_often l 0 n g A Λ O CA (xs (nI (i + 1)).toNatClampNeg)) (As := [.int (xs (nI (i + 1)).toNatClampNeg)]) (st := []) (by omega) (fq_0 g) (ci := 11) rfl rfl rfl rfl ⟨Nat.le_of_ble_eq_true rfl, Nat.le_of_ble_eq_true rfl, by show kc + _ ≤ 600000; simp only [xR]; omega, by show ks + _ ≤ 7302250; simp only [xR]; omega⟩ (Nat.le_of_ble_eq_true rfl) dL_law_807 (yk_i (kc := _) (ks := _) fun zv1078 zg1079 hzg1079 => ?_)
        obtain ⟨hv1, hf1⟩ := hzg1079
        have CA1 := CA.keep O hf1
        have MA1 := MA.cx (hf1.mono sX_c)
        have O1 := O
        refine xj_aload_n (n := 2) (i := 2) 3 rfl rfl dL_law_810 ?_
        refine xj_aload_n (n := 0) (i := 0) 1 rfl rfl dL_law_811 ?_
        refine xj_iload_n (n := 3) (i := 3) 0 rfl rfl dL_law_812 ?_
        refine xj_iconst (v := 1) (by decide) dL_law_813 ?_
        refine xj_iadd dL_law_814 ?_
        refine xj_top (nI_add i 1) ?_
        refine xj_sald rfl (nI_in (by omega) (by omega)) dL_law_815 ?_
        refine xj_callV kv_L_97 (c_X12_often l 0 n hn zg1079 A Λ O MA1 (xs (nI (i + 1)).toNatClampNeg)) (As := [.int (xs (nI (i + 1)).toNatClampNeg)]) (st := [.int zv1078]) (by omega) (fq_86 zg1079) (ci := 12) rfl rfl rfl rfl ⟨Nat.le_of_ble_eq_true rfl, Nat.le_of_ble_eq_true rfl, by show kc + _ ≤ 600000; simp only [xR]; omega, by show ks + _ ≤ 7302250; simp only [xR]; omega⟩ (Nat.le_of_ble_eq_true rfl) dL_law_816 (yk_i (kc := _) (ks := _) fun zv1080 zg1081 hzg1081 => ?_)
        obtain ⟨hv2, hq2⟩ := hzg1081
        have MA2 := MA1.keep hq2
        have hm2 := hq2.fr
        have CA2 := CA1.cx O1 (fun j hj => hm2 j (cX_m j hj))
        refine xj_icmp_eq (tgt := 1453) (by decide) dL_law_819 (fun zc => ?_) (fun zc => absurd (hv1.trans hv2.symm) zc)
        refine xj_iinc (n := 7) (i := 3) (v := nI (i + 7)) (lv1 := [(3, .int (nI (i + 7))), (0, .ref (xN + 3)), (1, .ref 0), (2, .ref 86)]) 0 rfl (by rw [show Int32.ofInt 7 = nI 7 from by decide]; exact nI_add i 7) rfl (Nat.le_of_ble_eq_true rfl) dL_law_1453 ?_
        refine xj_goto (tgt := 18) (by decide) dL_law_1456 ?_
        refine xj_sub (lv' := [(3, .int (nI (i + 7))), (0, .ref (xN + 3)), (1, .ref 0), (2, .ref 86)]) [0, 1, 2, 3] rfl ?_
        exact ih (i + 7) _ _ _ A Λ _ O1 CA2 MA2 (by omega) (by omega) (by show kc + 0 + 0 + 4 * t ≤ 600000; omega) (by show ks + 0 + 0 + 210 * t ≤ 7302250; omega)
      by_cases zs33_20 : zv1001 = 20
      · refine xj_top zs33_20 ?_
        refine xj_tableIn (off := 791) (tgt := 824) dL_law_33 (by decide) (by decide) rfl (by decide) ?_
        refine xj_aload_n (n := 1) (i := 1) 2 rfl rfl dL_law_824 ?_
        refine xj_aload_n (n := 0) (i := 0) 1 rfl rfl dL_law_825 ?_
        refine xj_iload_n (n := 3) (i := 3) 0 rfl rfl dL_law_826 ?_
        refine xj_iconst (v := 1) (by decide) dL_law_827 ?_
        refine xj_iadd dL_law_828 ?_
        refine xj_top (nI_add i 1) ?_
        refine xj_sald rfl (nI_in (by omega) (by omega)) dL_law_829 ?_
        refine xj_aload_n (n := 0) (i := 0) 1 rfl rfl dL_law_830 ?_
        refine xj_iload_n (n := 3) (i := 3) 0 rfl rfl dL_law_831 ?_
        refine xj_iconst (v := 2) (by decide) dL_law_832 ?_
        refine xj_iadd dL_law_833 ?_
        refine xj_top (nI_add i 2) ?_
        refine xj_sald rfl (nI_in (by omega) (by omega)) dL_law_834 ?_
        refine xj_callV kv_L_98 (c_X11_joins l 0 n g A Λ O CA (xs (nI (i + 1)).toNatClampNeg) (xs (nI (i + 2)).toNatClampNeg)) (As := [.int (xs (nI (i + 1)).toNatClampNeg), .int (xs (nI (i + 2)).toNatClampNeg)]) (st := []) (by omega) (fq_0 g) (ci := 11) rfl rfl rfl rfl ⟨Nat.le_of_ble_eq_true rfl, Nat.le_of_ble_eq_true rfl, by show kc + _ ≤ 600000; simp only [xR]; omega, by show ks + _ ≤ 7302250; simp only [xR]; omega⟩ (Nat.le_of_ble_eq_true rfl) dL_law_835 (yk_i (kc := _) (ks := _) fun zv1082 zg1083 hzg1083 => ?_)
        obtain ⟨hv1, hf1⟩ := hzg1083
        have CA1 := CA.keep O hf1
        have MA1 := MA.cx (hf1.mono sX_c)
        have O1 := O
        refine xj_aload_n (n := 2) (i := 2) 3 rfl rfl dL_law_838 ?_
        refine xj_aload_n (n := 0) (i := 0) 1 rfl rfl dL_law_839 ?_
        refine xj_iload_n (n := 3) (i := 3) 0 rfl rfl dL_law_840 ?_
        refine xj_iconst (v := 1) (by decide) dL_law_841 ?_
        refine xj_iadd dL_law_842 ?_
        refine xj_top (nI_add i 1) ?_
        refine xj_sald rfl (nI_in (by omega) (by omega)) dL_law_843 ?_
        refine xj_aload_n (n := 0) (i := 0) 1 rfl rfl dL_law_844 ?_
        refine xj_iload_n (n := 3) (i := 3) 0 rfl rfl dL_law_845 ?_
        refine xj_iconst (v := 2) (by decide) dL_law_846 ?_
        refine xj_iadd dL_law_847 ?_
        refine xj_top (nI_add i 2) ?_
        refine xj_sald rfl (nI_in (by omega) (by omega)) dL_law_848 ?_
        refine xj_callV kv_L_101 (c_X12_joins l 0 n hn zg1083 A Λ O MA1 (xs (nI (i + 1)).toNatClampNeg) (xs (nI (i + 2)).toNatClampNeg)) (As := [.int (xs (nI (i + 1)).toNatClampNeg), .int (xs (nI (i + 2)).toNatClampNeg)]) (st := [.int zv1082]) (by omega) (fq_86 zg1083) (ci := 12) rfl rfl rfl rfl ⟨Nat.le_of_ble_eq_true rfl, Nat.le_of_ble_eq_true rfl, by show kc + _ ≤ 600000; simp only [xR]; omega, by show ks + _ ≤ 7302250; simp only [xR]; omega⟩ (Nat.le_of_ble_eq_true rfl) dL_law_849 (yk_i (kc := _) (ks := _) fun zv1084 zg1085 hzg1085 => ?_)
        obtain ⟨hv2, hq2⟩ := hzg1085
        have MA2 := MA1.keep (fm.of hq2 sN_m)
        have hm2 := (fm.of hq2 sN_m).fr
        have CA2 := CA1.cx O1 (fun j hj => hm2 j (cX_m j hj))
        refine xj_icmp_eq (tgt := 1453) (by decide) dL_law_852 (fun zc => ?_) (fun zc => absurd (hv1.trans hv2.symm) zc)
        refine xj_iinc (n := 7) (i := 3) (v := nI (i + 7)) (lv1 := [(3, .int (nI (i + 7))), (0, .ref (xN + 3)), (1, .ref 0), (2, .ref 86)]) 0 rfl (by rw [show Int32.ofInt 7 = nI 7 from by decide]; exact nI_add i 7) rfl (Nat.le_of_ble_eq_true rfl) dL_law_1453 ?_
        refine xj_goto (tgt := 18) (by decide) dL_law_1456 ?_
        refine xj_sub (lv' := [(3, .int (nI (i + 7))), (0, .ref (xN + 3)), (1, .ref 0), (2, .ref 86)]) [0, 1, 2, 3] rfl ?_
        exact ih (i + 7) _ _ _ A Λ _ O1 CA2 MA2 (by omega) (by omega) (by show kc + 0 + 0 + 4 * t ≤ 600000; omega) (by show ks + 0 + 0 + 210 * t ≤ 7302250; omega)
      by_cases zs33_21 : zv1001 = 21
      · refine xj_top zs33_21 ?_
        refine xj_tableIn (off := 824) (tgt := 857) dL_law_33 (by decide) (by decide) rfl (by decide) ?_
        refine xj_aload_n (n := 1) (i := 1) 2 rfl rfl dL_law_857 ?_
        refine xj_aload_n (n := 0) (i := 0) 1 rfl rfl dL_law_858 ?_
        refine xj_iload_n (n := 3) (i := 3) 0 rfl rfl dL_law_859 ?_
        refine xj_iconst (v := 1) (by decide) dL_law_860 ?_
        refine xj_iadd dL_law_861 ?_
        refine xj_top (nI_add i 1) ?_
        refine xj_sald rfl (nI_in (by omega) (by omega)) dL_law_862 ?_
        refine xj_aload_n (n := 0) (i := 0) 1 rfl rfl dL_law_863 ?_
        refine xj_iload_n (n := 3) (i := 3) 0 rfl rfl dL_law_864 ?_
        refine xj_iconst (v := 2) (by decide) dL_law_865 ?_
        refine xj_iadd dL_law_866 ?_
        refine xj_top (nI_add i 2) ?_
        refine xj_sald rfl (nI_in (by omega) (by omega)) dL_law_867 ?_
        refine xj_callV kv_L_102 (c_X11_judge l 0 n g A Λ O CA (xs (nI (i + 1)).toNatClampNeg) (xs (nI (i + 2)).toNatClampNeg)) (As := [.int (xs (nI (i + 1)).toNatClampNeg), .int (xs (nI (i + 2)).toNatClampNeg)]) (st := []) (by omega) (fq_0 g) (ci := 11) rfl rfl rfl rfl ⟨Nat.le_of_ble_eq_true rfl, Nat.le_of_ble_eq_true rfl, by show kc + _ ≤ 600000; simp only [xR]; omega, by show ks + _ ≤ 7302250; simp only [xR]; omega⟩ (Nat.le_of_ble_eq_true rfl) dL_law_868 (yk_i (kc := _) (ks := _) fun zv1086 zg1087 hzg1087 => ?_)
        obtain ⟨hv1, hf1⟩ := hzg1087
        have CA1 := CA.keep O hf1
        have MA1 := MA.cx (hf1.mono sX_c)
        have O1 := O
        refine xj_aload_n (n := 2) (i := 2) 3 rfl rfl dL_law_871 ?_
        refine xj_aload_n (n := 0) (i := 0) 1 rfl rfl dL_law_872 ?_
        refine xj_iload_n (n := 3) (i := 3) 0 rfl rfl dL_law_873 ?_
        refine xj_iconst (v := 1) (by decide) dL_law_874 ?_
        refine xj_iadd dL_law_875 ?_
        refine xj_top (nI_add i 1) ?_
        refine xj_sald rfl (nI_in (by omega) (by omega)) dL_law_876 ?_
        refine xj_aload_n (n := 0) (i := 0) 1 rfl rfl dL_law_877 ?_
        refine xj_iload_n (n := 3) (i := 3) 0 rfl rfl dL_law_878 ?_
        refine xj_iconst (v := 2) (by decide) dL_law_879 ?_
        refine xj_iadd dL_law_880 ?_
        refine xj_top (nI_add i 2) ?_
        refine xj_sald rfl (nI_in (by omega) (by omega)) dL_law_881 ?_
        refine xj_callV kv_L_105 (c_X12_judge l 0 n hn zg1087 A Λ O MA1 (xs (nI (i + 1)).toNatClampNeg) (xs (nI (i + 2)).toNatClampNeg)) (As := [.int (xs (nI (i + 1)).toNatClampNeg), .int (xs (nI (i + 2)).toNatClampNeg)]) (st := [.int zv1086]) (by omega) (fq_86 zg1087) (ci := 12) rfl rfl rfl rfl ⟨Nat.le_of_ble_eq_true rfl, Nat.le_of_ble_eq_true rfl, by show kc + _ ≤ 600000; simp only [xR]; omega, by show ks + _ ≤ 7302250; simp only [xR]; omega⟩ (Nat.le_of_ble_eq_true rfl) dL_law_882 (yk_i (kc := _) (ks := _) fun zv1088 zg1089 hzg1089 => ?_)
        obtain ⟨hv2, hq2⟩ := hzg1089
        have MA2 := MA1.keep hq2
        have hm2 := hq2.fr
        have CA2 := CA1.cx O1 (fun j hj => hm2 j (cX_m j hj))
        refine xj_icmp_eq (tgt := 1453) (by decide) dL_law_885 (fun zc => ?_) (fun zc => absurd (hv1.trans hv2.symm) zc)
        refine xj_iinc (n := 7) (i := 3) (v := nI (i + 7)) (lv1 := [(3, .int (nI (i + 7))), (0, .ref (xN + 3)), (1, .ref 0), (2, .ref 86)]) 0 rfl (by rw [show Int32.ofInt 7 = nI 7 from by decide]; exact nI_add i 7) rfl (Nat.le_of_ble_eq_true rfl) dL_law_1453 ?_
        refine xj_goto (tgt := 18) (by decide) dL_law_1456 ?_
        refine xj_sub (lv' := [(3, .int (nI (i + 7))), (0, .ref (xN + 3)), (1, .ref 0), (2, .ref 86)]) [0, 1, 2, 3] rfl ?_
        exact ih (i + 7) _ _ _ A Λ _ O1 CA2 MA2 (by omega) (by omega) (by show kc + 0 + 0 + 4 * t ≤ 600000; omega) (by show ks + 0 + 0 + 210 * t ≤ 7302250; omega)
      by_cases zs33_22 : zv1001 = 22
      · refine xj_top zs33_22 ?_
        refine xj_tableIn (off := 857) (tgt := 890) dL_law_33 (by decide) (by decide) rfl (by decide) ?_
        refine xj_aload_n (n := 1) (i := 1) 2 rfl rfl dL_law_890 ?_
        refine xj_aload_n (n := 0) (i := 0) 1 rfl rfl dL_law_891 ?_
        refine xj_iload_n (n := 3) (i := 3) 0 rfl rfl dL_law_892 ?_
        refine xj_iconst (v := 1) (by decide) dL_law_893 ?_
        refine xj_iadd dL_law_894 ?_
        refine xj_top (nI_add i 1) ?_
        refine xj_sald rfl (nI_in (by omega) (by omega)) dL_law_895 ?_
        refine xj_aload_n (n := 0) (i := 0) 1 rfl rfl dL_law_896 ?_
        refine xj_iload_n (n := 3) (i := 3) 0 rfl rfl dL_law_897 ?_
        refine xj_iconst (v := 2) (by decide) dL_law_898 ?_
        refine xj_iadd dL_law_899 ?_
        refine xj_top (nI_add i 2) ?_
        refine xj_sald rfl (nI_in (by omega) (by omega)) dL_law_900 ?_
        refine xj_aload_n (n := 0) (i := 0) 1 rfl rfl dL_law_901 ?_
        refine xj_iload_n (n := 3) (i := 3) 0 rfl rfl dL_law_902 ?_
        refine xj_iconst (v := 3) (by decide) dL_law_903 ?_
        refine xj_iadd dL_law_904 ?_
        refine xj_top (nI_add i 3) ?_
        refine xj_sald rfl (nI_in (by omega) (by omega)) dL_law_905 ?_
        refine xj_callV kv_L_106 (c_X11_kinds l 0 n g A Λ O CA (xs (nI (i + 1)).toNatClampNeg) (xs (nI (i + 2)).toNatClampNeg) (xs (nI (i + 3)).toNatClampNeg)) (As := [.int (xs (nI (i + 1)).toNatClampNeg), .int (xs (nI (i + 2)).toNatClampNeg), .int (xs (nI (i + 3)).toNatClampNeg)]) (st := []) (by omega) (fq_0 g) (ci := 11) rfl rfl rfl rfl ⟨Nat.le_of_ble_eq_true rfl, Nat.le_of_ble_eq_true rfl, by show kc + _ ≤ 600000; simp only [xR]; omega, by show ks + _ ≤ 7302250; simp only [xR]; omega⟩ (Nat.le_of_ble_eq_true rfl) dL_law_906 (yk_i (kc := _) (ks := _) fun zv1090 zg1091 hzg1091 => ?_)
        obtain ⟨hv1, hf1⟩ := hzg1091
        have CA1 := CA.keep O hf1
        have MA1 := MA.cx (hf1.mono sX_c)
        have O1 := O
        refine xj_aload_n (n := 2) (i := 2) 3 rfl rfl dL_law_909 ?_
        refine xj_aload_n (n := 0) (i := 0) 1 rfl rfl dL_law_910 ?_
        refine xj_iload_n (n := 3) (i := 3) 0 rfl rfl dL_law_911 ?_
        refine xj_iconst (v := 1) (by decide) dL_law_912 ?_
        refine xj_iadd dL_law_913 ?_
        refine xj_top (nI_add i 1) ?_
        refine xj_sald rfl (nI_in (by omega) (by omega)) dL_law_914 ?_
        refine xj_aload_n (n := 0) (i := 0) 1 rfl rfl dL_law_915 ?_
        refine xj_iload_n (n := 3) (i := 3) 0 rfl rfl dL_law_916 ?_
        refine xj_iconst (v := 2) (by decide) dL_law_917 ?_
        refine xj_iadd dL_law_918 ?_
        refine xj_top (nI_add i 2) ?_
        refine xj_sald rfl (nI_in (by omega) (by omega)) dL_law_919 ?_
        refine xj_aload_n (n := 0) (i := 0) 1 rfl rfl dL_law_920 ?_
        refine xj_iload_n (n := 3) (i := 3) 0 rfl rfl dL_law_921 ?_
        refine xj_iconst (v := 3) (by decide) dL_law_922 ?_
        refine xj_iadd dL_law_923 ?_
        refine xj_top (nI_add i 3) ?_
        refine xj_sald rfl (nI_in (by omega) (by omega)) dL_law_924 ?_
        refine xj_callV kv_L_109 (c_X12_kinds l 0 n hn zg1091 A Λ O MA1 (xs (nI (i + 1)).toNatClampNeg) (xs (nI (i + 2)).toNatClampNeg) (xs (nI (i + 3)).toNatClampNeg)) (As := [.int (xs (nI (i + 1)).toNatClampNeg), .int (xs (nI (i + 2)).toNatClampNeg), .int (xs (nI (i + 3)).toNatClampNeg)]) (st := [.int zv1090]) (by omega) (fq_86 zg1091) (ci := 12) rfl rfl rfl rfl ⟨Nat.le_of_ble_eq_true rfl, Nat.le_of_ble_eq_true rfl, by show kc + _ ≤ 600000; simp only [xR]; omega, by show ks + _ ≤ 7302250; simp only [xR]; omega⟩ (Nat.le_of_ble_eq_true rfl) dL_law_925 (yk_i (kc := _) (ks := _) fun zv1092 zg1093 hzg1093 => ?_)
        obtain ⟨hv2, MA2, hm2⟩ := hzg1093
        have CA2 := CA1.cx O1 (fun j hj => hm2 j (cX_m j hj))
        refine xj_icmp_eq (tgt := 1453) (by decide) dL_law_928 (fun zc => ?_) (fun zc => absurd (hv1.trans hv2.symm) zc)
        refine xj_iinc (n := 7) (i := 3) (v := nI (i + 7)) (lv1 := [(3, .int (nI (i + 7))), (0, .ref (xN + 3)), (1, .ref 0), (2, .ref 86)]) 0 rfl (by rw [show Int32.ofInt 7 = nI 7 from by decide]; exact nI_add i 7) rfl (Nat.le_of_ble_eq_true rfl) dL_law_1453 ?_
        refine xj_goto (tgt := 18) (by decide) dL_law_1456 ?_
        refine xj_sub (lv' := [(3, .int (nI (i + 7))), (0, .ref (xN + 3)), (1, .ref 0), (2, .ref 86)]) [0, 1, 2, 3] rfl ?_
        exact ih (i + 7) _ _ _ A Λ _ O1 CA2 MA2 (by omega) (by omega) (by show kc + 0 + 0 + 4 * t ≤ 600000; omega) (by show ks + 0 + 0 + 210 * t ≤ 7302250; omega)
      by_cases zs33_23 : zv1001 = 23
      · refine xj_top zs33_23 ?_
        refine xj_tableIn (off := 900) (tgt := 933) dL_law_33 (by decide) (by decide) rfl (by decide) ?_
        refine xj_aload_n (n := 1) (i := 1) 2 rfl rfl dL_law_933 ?_
        refine xj_aload_n (n := 0) (i := 0) 1 rfl rfl dL_law_934 ?_
        refine xj_iload_n (n := 3) (i := 3) 0 rfl rfl dL_law_935 ?_
        refine xj_iconst (v := 1) (by decide) dL_law_936 ?_
        refine xj_iadd dL_law_937 ?_
        refine xj_top (nI_add i 1) ?_
        refine xj_sald rfl (nI_in (by omega) (by omega)) dL_law_938 ?_
        refine xj_aload_n (n := 0) (i := 0) 1 rfl rfl dL_law_939 ?_
        refine xj_iload_n (n := 3) (i := 3) 0 rfl rfl dL_law_940 ?_
        refine xj_iconst (v := 2) (by decide) dL_law_941 ?_
        refine xj_iadd dL_law_942 ?_
        refine xj_top (nI_add i 2) ?_
        refine xj_sald rfl (nI_in (by omega) (by omega)) dL_law_943 ?_
        refine xj_aload_n (n := 0) (i := 0) 1 rfl rfl dL_law_944 ?_
        refine xj_iload_n (n := 3) (i := 3) 0 rfl rfl dL_law_945 ?_
        refine xj_iconst (v := 3) (by decide) dL_law_946 ?_
        refine xj_iadd dL_law_947 ?_
        refine xj_top (nI_add i 3) ?_
        refine xj_sald rfl (nI_in (by omega) (by omega)) dL_law_948 ?_
        refine xj_callV kv_L_110 (c_X11_dims l 0 n g A Λ O CA (xs (nI (i + 1)).toNatClampNeg) (xs (nI (i + 2)).toNatClampNeg) (xs (nI (i + 3)).toNatClampNeg)) (As := [.int (xs (nI (i + 1)).toNatClampNeg), .int (xs (nI (i + 2)).toNatClampNeg), .int (xs (nI (i + 3)).toNatClampNeg)]) (st := []) (by omega) (fq_0 g) (ci := 11) rfl rfl rfl rfl ⟨Nat.le_of_ble_eq_true rfl, Nat.le_of_ble_eq_true rfl, by show kc + _ ≤ 600000; simp only [xR]; omega, by show ks + _ ≤ 7302250; simp only [xR]; omega⟩ (Nat.le_of_ble_eq_true rfl) dL_law_949 (yk_i (kc := _) (ks := _) fun zv1094 zg1095 hzg1095 => ?_)
        obtain ⟨hv1, hf1⟩ := hzg1095
        have CA1 := CA.keep O hf1
        have MA1 := MA.cx (hf1.mono sX_c)
        have O1 := O
        refine xj_aload_n (n := 2) (i := 2) 3 rfl rfl dL_law_952 ?_
        refine xj_aload_n (n := 0) (i := 0) 1 rfl rfl dL_law_953 ?_
        refine xj_iload_n (n := 3) (i := 3) 0 rfl rfl dL_law_954 ?_
        refine xj_iconst (v := 1) (by decide) dL_law_955 ?_
        refine xj_iadd dL_law_956 ?_
        refine xj_top (nI_add i 1) ?_
        refine xj_sald rfl (nI_in (by omega) (by omega)) dL_law_957 ?_
        refine xj_aload_n (n := 0) (i := 0) 1 rfl rfl dL_law_958 ?_
        refine xj_iload_n (n := 3) (i := 3) 0 rfl rfl dL_law_959 ?_
        refine xj_iconst (v := 2) (by decide) dL_law_960 ?_
        refine xj_iadd dL_law_961 ?_
        refine xj_top (nI_add i 2) ?_
        refine xj_sald rfl (nI_in (by omega) (by omega)) dL_law_962 ?_
        refine xj_aload_n (n := 0) (i := 0) 1 rfl rfl dL_law_963 ?_
        refine xj_iload_n (n := 3) (i := 3) 0 rfl rfl dL_law_964 ?_
        refine xj_iconst (v := 3) (by decide) dL_law_965 ?_
        refine xj_iadd dL_law_966 ?_
        refine xj_top (nI_add i 3) ?_
        refine xj_sald rfl (nI_in (by omega) (by omega)) dL_law_967 ?_
        refine xj_callV kv_L_113 (c_X12_dims l 0 n hn zg1095 A Λ O MA1 (xs (nI (i + 1)).toNatClampNeg) (xs (nI (i + 2)).toNatClampNeg) (xs (nI (i + 3)).toNatClampNeg)) (As := [.int (xs (nI (i + 1)).toNatClampNeg), .int (xs (nI (i + 2)).toNatClampNeg), .int (xs (nI (i + 3)).toNatClampNeg)]) (st := [.int zv1094]) (by omega) (fq_86 zg1095) (ci := 12) rfl rfl rfl rfl ⟨Nat.le_of_ble_eq_true rfl, Nat.le_of_ble_eq_true rfl, by show kc + _ ≤ 600000; simp only [xR]; omega, by show ks + _ ≤ 7302250; simp only [xR]; omega⟩ (Nat.le_of_ble_eq_true rfl) dL_law_968 (yk_i (kc := _) (ks := _) fun zv1096 zg1097 hzg1097 => ?_)
        obtain ⟨hv2, hq2⟩ := hzg1097
        have MA2 := MA1.keep hq2
        have hm2 := hq2.fr
        have CA2 := CA1.cx O1 (fun j hj => hm2 j (cX_m j hj))
        refine xj_icmp_eq (tgt := 1453) (by decide) dL_law_971 (fun zc => ?_) (fun zc => absurd (hv1.trans hv2.symm) zc)
        refine xj_iinc (n := 7) (i := 3) (v := nI (i + 7)) (lv1 := [(3, .int (nI (i + 7))), (0, .ref (xN + 3)), (1, .ref 0), (2, .ref 86)]) 0 rfl (by rw [show Int32.ofInt 7 = nI 7 from by decide]; exact nI_add i 7) rfl (Nat.le_of_ble_eq_true rfl) dL_law_1453 ?_
        refine xj_goto (tgt := 18) (by decide) dL_law_1456 ?_
        refine xj_sub (lv' := [(3, .int (nI (i + 7))), (0, .ref (xN + 3)), (1, .ref 0), (2, .ref 86)]) [0, 1, 2, 3] rfl ?_
        exact ih (i + 7) _ _ _ A Λ _ O1 CA2 MA2 (by omega) (by omega) (by show kc + 0 + 0 + 4 * t ≤ 600000; omega) (by show ks + 0 + 0 + 210 * t ≤ 7302250; omega)
      by_cases zs33_24 : zv1001 = 24
      · refine xj_top zs33_24 ?_
        refine xj_tableIn (off := 943) (tgt := 976) dL_law_33 (by decide) (by decide) rfl (by decide) ?_
        refine xj_aload_n (n := 1) (i := 1) 2 rfl rfl dL_law_976 ?_
        refine xj_aload_n (n := 0) (i := 0) 1 rfl rfl dL_law_977 ?_
        refine xj_iload_n (n := 3) (i := 3) 0 rfl rfl dL_law_978 ?_
        refine xj_iconst (v := 1) (by decide) dL_law_979 ?_
        refine xj_iadd dL_law_980 ?_
        refine xj_top (nI_add i 1) ?_
        refine xj_sald rfl (nI_in (by omega) (by omega)) dL_law_981 ?_
        refine xj_aload_n (n := 0) (i := 0) 1 rfl rfl dL_law_982 ?_
        refine xj_iload_n (n := 3) (i := 3) 0 rfl rfl dL_law_983 ?_
        refine xj_iconst (v := 2) (by decide) dL_law_984 ?_
        refine xj_iadd dL_law_985 ?_
        refine xj_top (nI_add i 2) ?_
        refine xj_sald rfl (nI_in (by omega) (by omega)) dL_law_986 ?_
        refine xj_callV kv_L_114 (c_X11_laws l 0 n g A Λ O CA (xs (nI (i + 1)).toNatClampNeg) (xs (nI (i + 2)).toNatClampNeg)) (As := [.int (xs (nI (i + 1)).toNatClampNeg), .int (xs (nI (i + 2)).toNatClampNeg)]) (st := []) (by omega) (fq_0 g) (ci := 11) rfl rfl rfl rfl ⟨Nat.le_of_ble_eq_true rfl, Nat.le_of_ble_eq_true rfl, by show kc + _ ≤ 600000; simp only [xR]; omega, by show ks + _ ≤ 7302250; simp only [xR]; omega⟩ (Nat.le_of_ble_eq_true rfl) dL_law_987 (yk_i (kc := _) (ks := _) fun zv1098 zg1099 hzg1099 => ?_)
        obtain ⟨hv1, hf1⟩ := hzg1099
        have CA1 := CA.keep O hf1
        have MA1 := MA.cx (hf1.mono sX_c)
        have O1 := O
        refine xj_aload_n (n := 2) (i := 2) 3 rfl rfl dL_law_990 ?_
        refine xj_aload_n (n := 0) (i := 0) 1 rfl rfl dL_law_991 ?_
        refine xj_iload_n (n := 3) (i := 3) 0 rfl rfl dL_law_992 ?_
        refine xj_iconst (v := 1) (by decide) dL_law_993 ?_
        refine xj_iadd dL_law_994 ?_
        refine xj_top (nI_add i 1) ?_
        refine xj_sald rfl (nI_in (by omega) (by omega)) dL_law_995 ?_
        refine xj_aload_n (n := 0) (i := 0) 1 rfl rfl dL_law_996 ?_
        refine xj_iload_n (n := 3) (i := 3) 0 rfl rfl dL_law_997 ?_
        refine xj_iconst (v := 2) (by decide) dL_law_998 ?_
        refine xj_iadd dL_law_999 ?_
        refine xj_top (nI_add i 2) ?_
        refine xj_sald rfl (nI_in (by omega) (by omega)) dL_law_1000 ?_
        refine xj_callV kv_L_117 (c_X12_laws l 0 n hn zg1099 A Λ O MA1 (xs (nI (i + 1)).toNatClampNeg) (xs (nI (i + 2)).toNatClampNeg)) (As := [.int (xs (nI (i + 1)).toNatClampNeg), .int (xs (nI (i + 2)).toNatClampNeg)]) (st := [.int zv1098]) (by omega) (fq_86 zg1099) (ci := 12) rfl rfl rfl rfl ⟨Nat.le_of_ble_eq_true rfl, Nat.le_of_ble_eq_true rfl, by show kc + _ ≤ 600000; simp only [xR]; omega, by show ks + _ ≤ 7302250; simp only [xR]; omega⟩ (Nat.le_of_ble_eq_true rfl) dL_law_1001 (yk_i (kc := _) (ks := _) fun zv1100 zg1101 hzg1101 => ?_)
        obtain ⟨hv2, MA2, hm2⟩ := hzg1101
        have CA2 := CA1.cx O1 (fun j hj => hm2 j (cX_m j hj))
        refine xj_icmp_eq (tgt := 1453) (by decide) dL_law_1004 (fun zc => ?_) (fun zc => absurd (hv1.trans hv2.symm) zc)
        refine xj_iinc (n := 7) (i := 3) (v := nI (i + 7)) (lv1 := [(3, .int (nI (i + 7))), (0, .ref (xN + 3)), (1, .ref 0), (2, .ref 86)]) 0 rfl (by rw [show Int32.ofInt 7 = nI 7 from by decide]; exact nI_add i 7) rfl (Nat.le_of_ble_eq_true rfl) dL_law_1453 ?_
        refine xj_goto (tgt := 18) (by decide) dL_law_1456 ?_
        refine xj_sub (lv' := [(3, .int (nI (i + 7))), (0, .ref (xN + 3)), (1, .ref 0), (2, .ref 86)]) [0, 1, 2, 3] rfl ?_
        exact ih (i + 7) _ _ _ A Λ _ O1 CA2 MA2 (by omega) (by omega) (by show kc + 0 + 0 + 4 * t ≤ 600000; omega) (by show ks + 0 + 0 + 210 * t ≤ 7302250; omega)
      by_cases zs33_25 : zv1001 = 25
      · refine xj_top zs33_25 ?_
        refine xj_tableIn (off := 976) (tgt := 1009) dL_law_33 (by decide) (by decide) rfl (by decide) ?_
        refine xj_aload_n (n := 1) (i := 1) 2 rfl rfl dL_law_1009 ?_
        refine xj_aload_n (n := 0) (i := 0) 1 rfl rfl dL_law_1010 ?_
        refine xj_iload_n (n := 3) (i := 3) 0 rfl rfl dL_law_1011 ?_
        refine xj_iconst (v := 1) (by decide) dL_law_1012 ?_
        refine xj_iadd dL_law_1013 ?_
        refine xj_top (nI_add i 1) ?_
        refine xj_sald rfl (nI_in (by omega) (by omega)) dL_law_1014 ?_
        refine xj_aload_n (n := 0) (i := 0) 1 rfl rfl dL_law_1015 ?_
        refine xj_iload_n (n := 3) (i := 3) 0 rfl rfl dL_law_1016 ?_
        refine xj_iconst (v := 2) (by decide) dL_law_1017 ?_
        refine xj_iadd dL_law_1018 ?_
        refine xj_top (nI_add i 2) ?_
        refine xj_sald rfl (nI_in (by omega) (by omega)) dL_law_1019 ?_
        refine xj_aload_n (n := 0) (i := 0) 1 rfl rfl dL_law_1020 ?_
        refine xj_iload_n (n := 3) (i := 3) 0 rfl rfl dL_law_1021 ?_
        refine xj_iconst (v := 3) (by decide) dL_law_1022 ?_
        refine xj_iadd dL_law_1023 ?_
        refine xj_top (nI_add i 3) ?_
        refine xj_sald rfl (nI_in (by omega) (by omega)) dL_law_1024 ?_
        refine xj_callV kv_L_118 (c_X11_guess l 0 n g A Λ O CA (xs (nI (i + 1)).toNatClampNeg) (xs (nI (i + 2)).toNatClampNeg) (xs (nI (i + 3)).toNatClampNeg)) (As := [.int (xs (nI (i + 1)).toNatClampNeg), .int (xs (nI (i + 2)).toNatClampNeg), .int (xs (nI (i + 3)).toNatClampNeg)]) (st := []) (by omega) (fq_0 g) (ci := 11) rfl rfl rfl rfl ⟨Nat.le_of_ble_eq_true rfl, Nat.le_of_ble_eq_true rfl, by show kc + _ ≤ 600000; simp only [xR]; omega, by show ks + _ ≤ 7302250; simp only [xR]; omega⟩ (Nat.le_of_ble_eq_true rfl) dL_law_1025 (yk_i (kc := _) (ks := _) fun zv1102 zg1103 hzg1103 => ?_)
        obtain ⟨hv1, hf1⟩ := hzg1103
        have CA1 := CA.keep O hf1
        have MA1 := MA.cx (hf1.mono sX_c)
        have O1 := O
        refine xj_aload_n (n := 2) (i := 2) 3 rfl rfl dL_law_1028 ?_
        refine xj_aload_n (n := 0) (i := 0) 1 rfl rfl dL_law_1029 ?_
        refine xj_iload_n (n := 3) (i := 3) 0 rfl rfl dL_law_1030 ?_
        refine xj_iconst (v := 1) (by decide) dL_law_1031 ?_
        refine xj_iadd dL_law_1032 ?_
        refine xj_top (nI_add i 1) ?_
        refine xj_sald rfl (nI_in (by omega) (by omega)) dL_law_1033 ?_
        refine xj_aload_n (n := 0) (i := 0) 1 rfl rfl dL_law_1034 ?_
        refine xj_iload_n (n := 3) (i := 3) 0 rfl rfl dL_law_1035 ?_
        refine xj_iconst (v := 2) (by decide) dL_law_1036 ?_
        refine xj_iadd dL_law_1037 ?_
        refine xj_top (nI_add i 2) ?_
        refine xj_sald rfl (nI_in (by omega) (by omega)) dL_law_1038 ?_
        refine xj_aload_n (n := 0) (i := 0) 1 rfl rfl dL_law_1039 ?_
        refine xj_iload_n (n := 3) (i := 3) 0 rfl rfl dL_law_1040 ?_
        refine xj_iconst (v := 3) (by decide) dL_law_1041 ?_
        refine xj_iadd dL_law_1042 ?_
        refine xj_top (nI_add i 3) ?_
        refine xj_sald rfl (nI_in (by omega) (by omega)) dL_law_1043 ?_
        refine xj_callV kv_L_121 (c_X12_guess l 0 n hn zg1103 A Λ O MA1 (xs (nI (i + 1)).toNatClampNeg) (xs (nI (i + 2)).toNatClampNeg) (xs (nI (i + 3)).toNatClampNeg)) (As := [.int (xs (nI (i + 1)).toNatClampNeg), .int (xs (nI (i + 2)).toNatClampNeg), .int (xs (nI (i + 3)).toNatClampNeg)]) (st := [.int zv1102]) (by omega) (fq_86 zg1103) (ci := 12) rfl rfl rfl rfl ⟨Nat.le_of_ble_eq_true rfl, Nat.le_of_ble_eq_true rfl, by show kc + _ ≤ 600000; simp only [xR]; omega, by show ks + _ ≤ 7302250; simp only [xR]; omega⟩ (Nat.le_of_ble_eq_true rfl) dL_law_1044 (yk_i (kc := _) (ks := _) fun zv1104 zg1105 hzg1105 => ?_)
        obtain ⟨hv2, hq2⟩ := hzg1105
        have MA2 := MA1.keep hq2
        have hm2 := hq2.fr
        have CA2 := CA1.cx O1 (fun j hj => hm2 j (cX_m j hj))
        refine xj_icmp_eq (tgt := 1453) (by decide) dL_law_1047 (fun zc => ?_) (fun zc => absurd (hv1.trans hv2.symm) zc)
        refine xj_iinc (n := 7) (i := 3) (v := nI (i + 7)) (lv1 := [(3, .int (nI (i + 7))), (0, .ref (xN + 3)), (1, .ref 0), (2, .ref 86)]) 0 rfl (by rw [show Int32.ofInt 7 = nI 7 from by decide]; exact nI_add i 7) rfl (Nat.le_of_ble_eq_true rfl) dL_law_1453 ?_
        refine xj_goto (tgt := 18) (by decide) dL_law_1456 ?_
        refine xj_sub (lv' := [(3, .int (nI (i + 7))), (0, .ref (xN + 3)), (1, .ref 0), (2, .ref 86)]) [0, 1, 2, 3] rfl ?_
        exact ih (i + 7) _ _ _ A Λ _ O1 CA2 MA2 (by omega) (by omega) (by show kc + 0 + 0 + 4 * t ≤ 600000; omega) (by show ks + 0 + 0 + 210 * t ≤ 7302250; omega)
      by_cases zs33_26 : zv1001 = 26
      · refine xj_top zs33_26 ?_
        refine xj_tableIn (off := 1019) (tgt := 1052) dL_law_33 (by decide) (by decide) rfl (by decide) ?_
        refine xj_aload_n (n := 1) (i := 1) 2 rfl rfl dL_law_1052 ?_
        refine xj_aload_n (n := 0) (i := 0) 1 rfl rfl dL_law_1053 ?_
        refine xj_iload_n (n := 3) (i := 3) 0 rfl rfl dL_law_1054 ?_
        refine xj_iconst (v := 1) (by decide) dL_law_1055 ?_
        refine xj_iadd dL_law_1056 ?_
        refine xj_top (nI_add i 1) ?_
        refine xj_sald rfl (nI_in (by omega) (by omega)) dL_law_1057 ?_
        refine xj_aload_n (n := 0) (i := 0) 1 rfl rfl dL_law_1058 ?_
        refine xj_iload_n (n := 3) (i := 3) 0 rfl rfl dL_law_1059 ?_
        refine xj_iconst (v := 2) (by decide) dL_law_1060 ?_
        refine xj_iadd dL_law_1061 ?_
        refine xj_top (nI_add i 2) ?_
        refine xj_sald rfl (nI_in (by omega) (by omega)) dL_law_1062 ?_
        refine xj_aload_n (n := 0) (i := 0) 1 rfl rfl dL_law_1063 ?_
        refine xj_iload_n (n := 3) (i := 3) 0 rfl rfl dL_law_1064 ?_
        refine xj_iconst (v := 3) (by decide) dL_law_1065 ?_
        refine xj_iadd dL_law_1066 ?_
        refine xj_top (nI_add i 3) ?_
        refine xj_sald rfl (nI_in (by omega) (by omega)) dL_law_1067 ?_
        refine xj_callV kv_L_122 (c_X11_film l 0 n g A Λ O CA (xs (nI (i + 1)).toNatClampNeg) (xs (nI (i + 2)).toNatClampNeg) (xs (nI (i + 3)).toNatClampNeg)) (As := [.int (xs (nI (i + 1)).toNatClampNeg), .int (xs (nI (i + 2)).toNatClampNeg), .int (xs (nI (i + 3)).toNatClampNeg)]) (st := []) (by omega) (fq_0 g) (ci := 11) rfl rfl rfl rfl ⟨Nat.le_of_ble_eq_true rfl, Nat.le_of_ble_eq_true rfl, by show kc + _ ≤ 600000; simp only [xR]; omega, by show ks + _ ≤ 7302250; simp only [xR]; omega⟩ (Nat.le_of_ble_eq_true rfl) dL_law_1068 (yk_i (kc := _) (ks := _) fun zv1106 zg1107 hzg1107 => ?_)
        obtain ⟨hv1, CA1, hf1⟩ := hzg1107
        have MA1 := MA.cx hf1
        have O1 : okA (rFilm A Λ (xs (nI (i + 1)).toNatClampNeg) (xs (nI (i + 2)).toNatClampNeg) (xs (nI (i + 3)).toNatClampNeg)).2 := rFilm_ok Λ O (xs (nI (i + 1)).toNatClampNeg) (xs (nI (i + 2)).toNatClampNeg) (xs (nI (i + 3)).toNatClampNeg)
        refine xj_aload_n (n := 2) (i := 2) 3 rfl rfl dL_law_1071 ?_
        refine xj_aload_n (n := 0) (i := 0) 1 rfl rfl dL_law_1072 ?_
        refine xj_iload_n (n := 3) (i := 3) 0 rfl rfl dL_law_1073 ?_
        refine xj_iconst (v := 1) (by decide) dL_law_1074 ?_
        refine xj_iadd dL_law_1075 ?_
        refine xj_top (nI_add i 1) ?_
        refine xj_sald rfl (nI_in (by omega) (by omega)) dL_law_1076 ?_
        refine xj_aload_n (n := 0) (i := 0) 1 rfl rfl dL_law_1077 ?_
        refine xj_iload_n (n := 3) (i := 3) 0 rfl rfl dL_law_1078 ?_
        refine xj_iconst (v := 2) (by decide) dL_law_1079 ?_
        refine xj_iadd dL_law_1080 ?_
        refine xj_top (nI_add i 2) ?_
        refine xj_sald rfl (nI_in (by omega) (by omega)) dL_law_1081 ?_
        refine xj_aload_n (n := 0) (i := 0) 1 rfl rfl dL_law_1082 ?_
        refine xj_iload_n (n := 3) (i := 3) 0 rfl rfl dL_law_1083 ?_
        refine xj_iconst (v := 3) (by decide) dL_law_1084 ?_
        refine xj_iadd dL_law_1085 ?_
        refine xj_top (nI_add i 3) ?_
        refine xj_sald rfl (nI_in (by omega) (by omega)) dL_law_1086 ?_
        refine xj_callV kv_L_125 (c_X12_film l 0 n hn zg1107 A Λ O MA1 (xs (nI (i + 1)).toNatClampNeg) (xs (nI (i + 2)).toNatClampNeg) (xs (nI (i + 3)).toNatClampNeg)) (As := [.int (xs (nI (i + 1)).toNatClampNeg), .int (xs (nI (i + 2)).toNatClampNeg), .int (xs (nI (i + 3)).toNatClampNeg)]) (st := [.int zv1106]) (by omega) (fq_86 zg1107) (ci := 12) rfl rfl rfl rfl ⟨Nat.le_of_ble_eq_true rfl, Nat.le_of_ble_eq_true rfl, by show kc + _ ≤ 600000; simp only [xR]; omega, by show ks + _ ≤ 7302250; simp only [xR]; omega⟩ (Nat.le_of_ble_eq_true rfl) dL_law_1087 (yk_i (kc := _) (ks := _) fun zv1108 zg1109 hzg1109 => ?_)
        obtain ⟨hv2, MA2, hm2⟩ := hzg1109
        have CA2 := CA1.cx O1 (fun j hj => hm2 j (cX_m j hj))
        refine xj_icmp_eq (tgt := 1453) (by decide) dL_law_1090 (fun zc => ?_) (fun zc => absurd (hv1.trans hv2.symm) zc)
        refine xj_iinc (n := 7) (i := 3) (v := nI (i + 7)) (lv1 := [(3, .int (nI (i + 7))), (0, .ref (xN + 3)), (1, .ref 0), (2, .ref 86)]) 0 rfl (by rw [show Int32.ofInt 7 = nI 7 from by decide]; exact nI_add i 7) rfl (Nat.le_of_ble_eq_true rfl) dL_law_1453 ?_
        refine xj_goto (tgt := 18) (by decide) dL_law_1456 ?_
        refine xj_sub (lv' := [(3, .int (nI (i + 7))), (0, .ref (xN + 3)), (1, .ref 0), (2, .ref 86)]) [0, 1, 2, 3] rfl ?_
        exact ih (i + 7) _ _ _ (rFilm A Λ (xs (nI (i + 1)).toNatClampNeg) (xs (nI (i + 2)).toNatClampNeg) (xs (nI (i + 3)).toNatClampNeg)).2 Λ _ O1 CA2 MA2 (by omega) (by omega) (by show kc + 0 + 0 + 4 * t ≤ 600000; omega) (by show ks + 0 + 0 + 210 * t ≤ 7302250; omega)
      by_cases zs33_27 : zv1001 = 27
      · refine xj_top zs33_27 ?_
        refine xj_tableIn (off := 1062) (tgt := 1095) dL_law_33 (by decide) (by decide) rfl (by decide) ?_
        refine xj_aload_n (n := 1) (i := 1) 2 rfl rfl dL_law_1095 ?_
        refine xj_aload_n (n := 0) (i := 0) 1 rfl rfl dL_law_1096 ?_
        refine xj_iload_n (n := 3) (i := 3) 0 rfl rfl dL_law_1097 ?_
        refine xj_iconst (v := 1) (by decide) dL_law_1098 ?_
        refine xj_iadd dL_law_1099 ?_
        refine xj_top (nI_add i 1) ?_
        refine xj_sald rfl (nI_in (by omega) (by omega)) dL_law_1100 ?_
        refine xj_aload_n (n := 0) (i := 0) 1 rfl rfl dL_law_1101 ?_
        refine xj_iload_n (n := 3) (i := 3) 0 rfl rfl dL_law_1102 ?_
        refine xj_iconst (v := 2) (by decide) dL_law_1103 ?_
        refine xj_iadd dL_law_1104 ?_
        refine xj_top (nI_add i 2) ?_
        refine xj_sald rfl (nI_in (by omega) (by omega)) dL_law_1105 ?_
        refine xj_callV kv_L_126 (c_X11_drawn l 0 n g A Λ O CA (xs (nI (i + 1)).toNatClampNeg) (xs (nI (i + 2)).toNatClampNeg)) (As := [.int (xs (nI (i + 1)).toNatClampNeg), .int (xs (nI (i + 2)).toNatClampNeg)]) (st := []) (by omega) (fq_0 g) (ci := 11) rfl rfl rfl rfl ⟨Nat.le_of_ble_eq_true rfl, Nat.le_of_ble_eq_true rfl, by show kc + _ ≤ 600000; simp only [xR]; omega, by show ks + _ ≤ 7302250; simp only [xR]; omega⟩ (Nat.le_of_ble_eq_true rfl) dL_law_1106 (yk_i (kc := _) (ks := _) fun zv1110 zg1111 hzg1111 => ?_)
        obtain ⟨hv1, hf1⟩ := hzg1111
        have CA1 := CA.keep O hf1
        have MA1 := MA.cx (hf1.mono sX_c)
        have O1 := O
        refine xj_aload_n (n := 2) (i := 2) 3 rfl rfl dL_law_1109 ?_
        refine xj_aload_n (n := 0) (i := 0) 1 rfl rfl dL_law_1110 ?_
        refine xj_iload_n (n := 3) (i := 3) 0 rfl rfl dL_law_1111 ?_
        refine xj_iconst (v := 1) (by decide) dL_law_1112 ?_
        refine xj_iadd dL_law_1113 ?_
        refine xj_top (nI_add i 1) ?_
        refine xj_sald rfl (nI_in (by omega) (by omega)) dL_law_1114 ?_
        refine xj_aload_n (n := 0) (i := 0) 1 rfl rfl dL_law_1115 ?_
        refine xj_iload_n (n := 3) (i := 3) 0 rfl rfl dL_law_1116 ?_
        refine xj_iconst (v := 2) (by decide) dL_law_1117 ?_
        refine xj_iadd dL_law_1118 ?_
        refine xj_top (nI_add i 2) ?_
        refine xj_sald rfl (nI_in (by omega) (by omega)) dL_law_1119 ?_
        refine xj_callV kv_L_129 (c_X12_drawn l 0 n hn zg1111 A Λ O MA1 (xs (nI (i + 1)).toNatClampNeg) (xs (nI (i + 2)).toNatClampNeg)) (As := [.int (xs (nI (i + 1)).toNatClampNeg), .int (xs (nI (i + 2)).toNatClampNeg)]) (st := [.int zv1110]) (by omega) (fq_86 zg1111) (ci := 12) rfl rfl rfl rfl ⟨Nat.le_of_ble_eq_true rfl, Nat.le_of_ble_eq_true rfl, by show kc + _ ≤ 600000; simp only [xR]; omega, by show ks + _ ≤ 7302250; simp only [xR]; omega⟩ (Nat.le_of_ble_eq_true rfl) dL_law_1120 (yk_i (kc := _) (ks := _) fun zv1112 zg1113 hzg1113 => ?_)
        obtain ⟨hv2, MA2, hm2⟩ := hzg1113
        have CA2 := CA1.cx O1 (fun j hj => hm2 j (cX_m j hj))
        refine xj_icmp_eq (tgt := 1453) (by decide) dL_law_1123 (fun zc => ?_) (fun zc => absurd (hv1.trans hv2.symm) zc)
        refine xj_iinc (n := 7) (i := 3) (v := nI (i + 7)) (lv1 := [(3, .int (nI (i + 7))), (0, .ref (xN + 3)), (1, .ref 0), (2, .ref 86)]) 0 rfl (by rw [show Int32.ofInt 7 = nI 7 from by decide]; exact nI_add i 7) rfl (Nat.le_of_ble_eq_true rfl) dL_law_1453 ?_
        refine xj_goto (tgt := 18) (by decide) dL_law_1456 ?_
        refine xj_sub (lv' := [(3, .int (nI (i + 7))), (0, .ref (xN + 3)), (1, .ref 0), (2, .ref 86)]) [0, 1, 2, 3] rfl ?_
        exact ih (i + 7) _ _ _ A Λ _ O1 CA2 MA2 (by omega) (by omega) (by show kc + 0 + 0 + 4 * t ≤ 600000; omega) (by show ks + 0 + 0 + 210 * t ≤ 7302250; omega)
      by_cases zs33_28 : zv1001 = 28
      · refine xj_top zs33_28 ?_
        refine xj_tableIn (off := 1095) (tgt := 1128) dL_law_33 (by decide) (by decide) rfl (by decide) ?_
        refine xj_aload_n (n := 1) (i := 1) 2 rfl rfl dL_law_1128 ?_
        refine xj_aload_n (n := 0) (i := 0) 1 rfl rfl dL_law_1129 ?_
        refine xj_iload_n (n := 3) (i := 3) 0 rfl rfl dL_law_1130 ?_
        refine xj_iconst (v := 1) (by decide) dL_law_1131 ?_
        refine xj_iadd dL_law_1132 ?_
        refine xj_top (nI_add i 1) ?_
        refine xj_sald rfl (nI_in (by omega) (by omega)) dL_law_1133 ?_
        refine xj_aload_n (n := 0) (i := 0) 1 rfl rfl dL_law_1134 ?_
        refine xj_iload_n (n := 3) (i := 3) 0 rfl rfl dL_law_1135 ?_
        refine xj_iconst (v := 2) (by decide) dL_law_1136 ?_
        refine xj_iadd dL_law_1137 ?_
        refine xj_top (nI_add i 2) ?_
        refine xj_sald rfl (nI_in (by omega) (by omega)) dL_law_1138 ?_
        refine xj_aload_n (n := 0) (i := 0) 1 rfl rfl dL_law_1139 ?_
        refine xj_iload_n (n := 3) (i := 3) 0 rfl rfl dL_law_1140 ?_
        refine xj_iconst (v := 3) (by decide) dL_law_1141 ?_
        refine xj_iadd dL_law_1142 ?_
        refine xj_top (nI_add i 3) ?_
        refine xj_sald rfl (nI_in (by omega) (by omega)) dL_law_1143 ?_
        refine xj_aload_n (n := 0) (i := 0) 1 rfl rfl dL_law_1144 ?_
        refine xj_iload_n (n := 3) (i := 3) 0 rfl rfl dL_law_1145 ?_
        refine xj_iconst (v := 4) (by decide) dL_law_1146 ?_
        refine xj_iadd dL_law_1147 ?_
        refine xj_top (nI_add i 4) ?_
        refine xj_sald rfl (nI_in (by omega) (by omega)) dL_law_1148 ?_
        refine xj_aload_n (n := 0) (i := 0) 1 rfl rfl dL_law_1149 ?_
        refine xj_iload_n (n := 3) (i := 3) 0 rfl rfl dL_law_1150 ?_
        refine xj_iconst (v := 5) (by decide) dL_law_1151 ?_
        refine xj_iadd dL_law_1152 ?_
        refine xj_top (nI_add i 5) ?_
        refine xj_sald rfl (nI_in (by omega) (by omega)) dL_law_1153 ?_
        refine xj_callV kv_L_130 (c_X11_odds l 0 n g A Λ O CA (xs (nI (i + 1)).toNatClampNeg) (xs (nI (i + 2)).toNatClampNeg) (xs (nI (i + 3)).toNatClampNeg) (xs (nI (i + 4)).toNatClampNeg) (xs (nI (i + 5)).toNatClampNeg)) (As := [.int (xs (nI (i + 1)).toNatClampNeg), .int (xs (nI (i + 2)).toNatClampNeg), .int (xs (nI (i + 3)).toNatClampNeg), .int (xs (nI (i + 4)).toNatClampNeg), .int (xs (nI (i + 5)).toNatClampNeg)]) (st := []) (by omega) (fq_0 g) (ci := 11) rfl rfl rfl rfl ⟨Nat.le_of_ble_eq_true rfl, Nat.le_of_ble_eq_true rfl, by show kc + _ ≤ 600000; simp only [xR]; omega, by show ks + _ ≤ 7302250; simp only [xR]; omega⟩ (Nat.le_of_ble_eq_true rfl) dL_law_1154 (yk_l (kc := _) (ks := _) fun zv1114 zg1115 hzg1115 => ?_)
        obtain ⟨hv1, hf1⟩ := hzg1115
        have CA1 := CA.keep O hf1
        have MA1 := MA.cx (hf1.mono sX_c)
        have O1 := O
        refine xj_aload_n (n := 2) (i := 2) 3 rfl rfl dL_law_1157 ?_
        refine xj_aload_n (n := 0) (i := 0) 1 rfl rfl dL_law_1158 ?_
        refine xj_iload_n (n := 3) (i := 3) 0 rfl rfl dL_law_1159 ?_
        refine xj_iconst (v := 1) (by decide) dL_law_1160 ?_
        refine xj_iadd dL_law_1161 ?_
        refine xj_top (nI_add i 1) ?_
        refine xj_sald rfl (nI_in (by omega) (by omega)) dL_law_1162 ?_
        refine xj_aload_n (n := 0) (i := 0) 1 rfl rfl dL_law_1163 ?_
        refine xj_iload_n (n := 3) (i := 3) 0 rfl rfl dL_law_1164 ?_
        refine xj_iconst (v := 2) (by decide) dL_law_1165 ?_
        refine xj_iadd dL_law_1166 ?_
        refine xj_top (nI_add i 2) ?_
        refine xj_sald rfl (nI_in (by omega) (by omega)) dL_law_1167 ?_
        refine xj_aload_n (n := 0) (i := 0) 1 rfl rfl dL_law_1168 ?_
        refine xj_iload_n (n := 3) (i := 3) 0 rfl rfl dL_law_1169 ?_
        refine xj_iconst (v := 3) (by decide) dL_law_1170 ?_
        refine xj_iadd dL_law_1171 ?_
        refine xj_top (nI_add i 3) ?_
        refine xj_sald rfl (nI_in (by omega) (by omega)) dL_law_1172 ?_
        refine xj_aload_n (n := 0) (i := 0) 1 rfl rfl dL_law_1173 ?_
        refine xj_iload_n (n := 3) (i := 3) 0 rfl rfl dL_law_1174 ?_
        refine xj_iconst (v := 4) (by decide) dL_law_1175 ?_
        refine xj_iadd dL_law_1176 ?_
        refine xj_top (nI_add i 4) ?_
        refine xj_sald rfl (nI_in (by omega) (by omega)) dL_law_1177 ?_
        refine xj_aload_n (n := 0) (i := 0) 1 rfl rfl dL_law_1178 ?_
        refine xj_iload_n (n := 3) (i := 3) 0 rfl rfl dL_law_1179 ?_
        refine xj_iconst (v := 5) (by decide) dL_law_1180 ?_
        refine xj_iadd dL_law_1181 ?_
        refine xj_top (nI_add i 5) ?_
        refine xj_sald rfl (nI_in (by omega) (by omega)) dL_law_1182 ?_
        refine xj_callV kv_L_134 (c_X12_odds l 0 n hn zg1115 A Λ O MA1 (xs (nI (i + 1)).toNatClampNeg) (xs (nI (i + 2)).toNatClampNeg) (xs (nI (i + 3)).toNatClampNeg) (xs (nI (i + 4)).toNatClampNeg) (xs (nI (i + 5)).toNatClampNeg)) (As := [.int (xs (nI (i + 1)).toNatClampNeg), .int (xs (nI (i + 2)).toNatClampNeg), .int (xs (nI (i + 3)).toNatClampNeg), .int (xs (nI (i + 4)).toNatClampNeg), .int (xs (nI (i + 5)).toNatClampNeg)]) (st := [.long zv1114]) (by omega) (fq_86 zg1115) (ci := 12) rfl rfl rfl rfl ⟨Nat.le_of_ble_eq_true rfl, Nat.le_of_ble_eq_true rfl, by show kc + _ ≤ 600000; simp only [xR]; omega, by show ks + _ ≤ 7302250; simp only [xR]; omega⟩ (Nat.le_of_ble_eq_true rfl) dL_law_1183 (yk_l (kc := _) (ks := _) fun zv1116 zg1117 hzg1117 => ?_)
        obtain ⟨hv2, MA2, hm2⟩ := hzg1117
        have CA2 := CA1.cx O1 (fun j hj => hm2 j (cX_m j hj))
        refine xj_lcmp dL_law_1186 ?_
        refine xj_top (show lg_cmp zv1114 zv1116 = 0 from by rw [hv1, hv2]; exact lg_cmp_s _) ?_
        refine xj_if_eq (tgt := 1453) (by decide) dL_law_1187 (fun zc => ?_) (fun zc => absurd rfl zc)
        refine xj_iinc (n := 7) (i := 3) (v := nI (i + 7)) (lv1 := [(3, .int (nI (i + 7))), (0, .ref (xN + 3)), (1, .ref 0), (2, .ref 86)]) 0 rfl (by rw [show Int32.ofInt 7 = nI 7 from by decide]; exact nI_add i 7) rfl (Nat.le_of_ble_eq_true rfl) dL_law_1453 ?_
        refine xj_goto (tgt := 18) (by decide) dL_law_1456 ?_
        refine xj_sub (lv' := [(3, .int (nI (i + 7))), (0, .ref (xN + 3)), (1, .ref 0), (2, .ref 86)]) [0, 1, 2, 3] rfl ?_
        exact ih (i + 7) _ _ _ A Λ _ O1 CA2 MA2 (by omega) (by omega) (by show kc + 0 + 0 + 4 * t ≤ 600000; omega) (by show ks + 0 + 0 + 210 * t ≤ 7302250; omega)
      by_cases zs33_29 : zv1001 = 29
      · refine xj_top zs33_29 ?_
        refine xj_tableIn (off := 1159) (tgt := 1192) dL_law_33 (by decide) (by decide) rfl (by decide) ?_
        refine xj_aload_n (n := 1) (i := 1) 2 rfl rfl dL_law_1192 ?_
        refine xj_callV kv_L_135 (c_X11_image l 0 n g A Λ O CA) (As := []) (st := []) (by omega) (fq_0 g) (ci := 11) rfl rfl rfl rfl ⟨Nat.le_of_ble_eq_true rfl, Nat.le_of_ble_eq_true rfl, by show kc + _ ≤ 600000; simp only [xR]; omega, by show ks + _ ≤ 7302250; simp only [xR]; omega⟩ (Nat.le_of_ble_eq_true rfl) dL_law_1193 (yk_i (kc := _) (ks := _) fun zv1118 zg1119 hzg1119 => ?_)
        obtain ⟨hv1, CA1, hf1⟩ := hzg1119
        have MA1 := MA.cx hf1
        have O1 : okA (rImage A).2 := rImage_ok O 
        refine xj_aload_n (n := 2) (i := 2) 3 rfl rfl dL_law_1196 ?_
        refine xj_callV kv_L_138 (c_X12_image l 0 n hn zg1119 A Λ O MA1) (As := []) (st := [.int zv1118]) (by omega) (fq_86 zg1119) (ci := 12) rfl rfl rfl rfl ⟨Nat.le_of_ble_eq_true rfl, Nat.le_of_ble_eq_true rfl, by show kc + _ ≤ 600000; simp only [xR]; omega, by show ks + _ ≤ 7302250; simp only [xR]; omega⟩ (Nat.le_of_ble_eq_true rfl) dL_law_1197 (yk_i (kc := _) (ks := _) fun zv1120 zg1121 hzg1121 => ?_)
        obtain ⟨hv2, MA2, hm2⟩ := hzg1121
        have CA2 := CA1.cx O1 (fun j hj => hm2 j (cX_m j hj))
        refine xj_icmp_eq (tgt := 1453) (by decide) dL_law_1200 (fun zc => ?_) (fun zc => absurd (hv1.trans hv2.symm) zc)
        refine xj_iinc (n := 7) (i := 3) (v := nI (i + 7)) (lv1 := [(3, .int (nI (i + 7))), (0, .ref (xN + 3)), (1, .ref 0), (2, .ref 86)]) 0 rfl (by rw [show Int32.ofInt 7 = nI 7 from by decide]; exact nI_add i 7) rfl (Nat.le_of_ble_eq_true rfl) dL_law_1453 ?_
        refine xj_goto (tgt := 18) (by decide) dL_law_1456 ?_
        refine xj_sub (lv' := [(3, .int (nI (i + 7))), (0, .ref (xN + 3)), (1, .ref 0), (2, .ref 86)]) [0, 1, 2, 3] rfl ?_
        exact ih (i + 7) _ _ _ (rImage A).2 Λ _ O1 CA2 MA2 (by omega) (by omega) (by show kc + 0 + 0 + 4 * t ≤ 600000; omega) (by show ks + 0 + 0 + 210 * t ≤ 7302250; omega)
      by_cases zs33_30 : zv1001 = 30
      · refine xj_top zs33_30 ?_
        refine xj_tableIn (off := 1172) (tgt := 1205) dL_law_33 (by decide) (by decide) rfl (by decide) ?_
        refine xj_aload_n (n := 1) (i := 1) 2 rfl rfl dL_law_1205 ?_
        refine xj_callV kv_L_139 (c_X11_back l 0 n g A Λ O CA) (As := []) (st := []) (by omega) (fq_0 g) (ci := 11) rfl rfl rfl rfl ⟨Nat.le_of_ble_eq_true rfl, Nat.le_of_ble_eq_true rfl, by show kc + _ ≤ 600000; simp only [xR]; omega, by show ks + _ ≤ 7302250; simp only [xR]; omega⟩ (Nat.le_of_ble_eq_true rfl) dL_law_1206 (yk_i (kc := _) (ks := _) fun zv1122 zg1123 hzg1123 => ?_)
        obtain ⟨hv1, CA1, hf1⟩ := hzg1123
        have MA1 := MA.cx hf1
        have O1 : okA (rBack A).2 := rBack_ok O 
        refine xj_aload_n (n := 2) (i := 2) 3 rfl rfl dL_law_1209 ?_
        refine xj_callV kv_L_142 (c_X12_back l 0 n hn zg1123 A Λ O MA1) (As := []) (st := [.int zv1122]) (by omega) (fq_86 zg1123) (ci := 12) rfl rfl rfl rfl ⟨Nat.le_of_ble_eq_true rfl, Nat.le_of_ble_eq_true rfl, by show kc + _ ≤ 600000; simp only [xR]; omega, by show ks + _ ≤ 7302250; simp only [xR]; omega⟩ (Nat.le_of_ble_eq_true rfl) dL_law_1210 (yk_i (kc := _) (ks := _) fun zv1124 zg1125 hzg1125 => ?_)
        obtain ⟨hv2, MA2, hm2⟩ := hzg1125
        have CA2 := CA1.cx O1 (fun j hj => hm2 j (cX_m j hj))
        refine xj_icmp_eq (tgt := 1453) (by decide) dL_law_1213 (fun zc => ?_) (fun zc => absurd (hv1.trans hv2.symm) zc)
        refine xj_iinc (n := 7) (i := 3) (v := nI (i + 7)) (lv1 := [(3, .int (nI (i + 7))), (0, .ref (xN + 3)), (1, .ref 0), (2, .ref 86)]) 0 rfl (by rw [show Int32.ofInt 7 = nI 7 from by decide]; exact nI_add i 7) rfl (Nat.le_of_ble_eq_true rfl) dL_law_1453 ?_
        refine xj_goto (tgt := 18) (by decide) dL_law_1456 ?_
        refine xj_sub (lv' := [(3, .int (nI (i + 7))), (0, .ref (xN + 3)), (1, .ref 0), (2, .ref 86)]) [0, 1, 2, 3] rfl ?_
        exact ih (i + 7) _ _ _ (rBack A).2 Λ _ O1 CA2 MA2 (by omega) (by omega) (by show kc + 0 + 0 + 4 * t ≤ 600000; omega) (by show ks + 0 + 0 + 210 * t ≤ 7302250; omega)
      by_cases zs33_31 : zv1001 = 31
      · refine xj_top zs33_31 ?_
        refine xj_tableIn (off := 1185) (tgt := 1218) dL_law_33 (by decide) (by decide) rfl (by decide) ?_
        refine xj_aload_n (n := 1) (i := 1) 2 rfl rfl dL_law_1218 ?_
        refine xj_aload_n (n := 0) (i := 0) 1 rfl rfl dL_law_1219 ?_
        refine xj_iload_n (n := 3) (i := 3) 0 rfl rfl dL_law_1220 ?_
        refine xj_iconst (v := 1) (by decide) dL_law_1221 ?_
        refine xj_iadd dL_law_1222 ?_
        refine xj_top (nI_add i 1) ?_
        refine xj_sald rfl (nI_in (by omega) (by omega)) dL_law_1223 ?_
        refine xj_aload_n (n := 0) (i := 0) 1 rfl rfl dL_law_1224 ?_
        refine xj_iload_n (n := 3) (i := 3) 0 rfl rfl dL_law_1225 ?_
        refine xj_iconst (v := 2) (by decide) dL_law_1226 ?_
        refine xj_iadd dL_law_1227 ?_
        refine xj_top (nI_add i 2) ?_
        refine xj_sald rfl (nI_in (by omega) (by omega)) dL_law_1228 ?_
        refine xj_aload_n (n := 0) (i := 0) 1 rfl rfl dL_law_1229 ?_
        refine xj_iload_n (n := 3) (i := 3) 0 rfl rfl dL_law_1230 ?_
        refine xj_iconst (v := 3) (by decide) dL_law_1231 ?_
        refine xj_iadd dL_law_1232 ?_
        refine xj_top (nI_add i 3) ?_
        refine xj_sald rfl (nI_in (by omega) (by omega)) dL_law_1233 ?_
        refine xj_callV kv_L_143 (c_X11_sheet l 0 n g A Λ O CA (xs (nI (i + 1)).toNatClampNeg) (xs (nI (i + 2)).toNatClampNeg) (xs (nI (i + 3)).toNatClampNeg)) (As := [.int (xs (nI (i + 1)).toNatClampNeg), .int (xs (nI (i + 2)).toNatClampNeg), .int (xs (nI (i + 3)).toNatClampNeg)]) (st := []) (by omega) (fq_0 g) (ci := 11) rfl rfl rfl rfl ⟨Nat.le_of_ble_eq_true rfl, Nat.le_of_ble_eq_true rfl, by show kc + _ ≤ 600000; simp only [xR]; omega, by show ks + _ ≤ 7302250; simp only [xR]; omega⟩ (Nat.le_of_ble_eq_true rfl) dL_law_1234 (yk_i (kc := _) (ks := _) fun zv1126 zg1127 hzg1127 => ?_)
        obtain ⟨hv1, CA1, hf1⟩ := hzg1127
        have MA1 := MA.cx hf1
        have O1 : okA (rSheet A (xs (nI (i + 1)).toNatClampNeg) (xs (nI (i + 2)).toNatClampNeg) (xs (nI (i + 3)).toNatClampNeg)).2 := rSheet_ok O (xs (nI (i + 1)).toNatClampNeg) (xs (nI (i + 2)).toNatClampNeg) (xs (nI (i + 3)).toNatClampNeg)
        refine xj_aload_n (n := 2) (i := 2) 3 rfl rfl dL_law_1237 ?_
        refine xj_aload_n (n := 0) (i := 0) 1 rfl rfl dL_law_1238 ?_
        refine xj_iload_n (n := 3) (i := 3) 0 rfl rfl dL_law_1239 ?_
        refine xj_iconst (v := 1) (by decide) dL_law_1240 ?_
        refine xj_iadd dL_law_1241 ?_
        refine xj_top (nI_add i 1) ?_
        refine xj_sald rfl (nI_in (by omega) (by omega)) dL_law_1242 ?_
        refine xj_aload_n (n := 0) (i := 0) 1 rfl rfl dL_law_1243 ?_
        refine xj_iload_n (n := 3) (i := 3) 0 rfl rfl dL_law_1244 ?_
        refine xj_iconst (v := 2) (by decide) dL_law_1245 ?_
        refine xj_iadd dL_law_1246 ?_
        refine xj_top (nI_add i 2) ?_
        refine xj_sald rfl (nI_in (by omega) (by omega)) dL_law_1247 ?_
        refine xj_aload_n (n := 0) (i := 0) 1 rfl rfl dL_law_1248 ?_
        refine xj_iload_n (n := 3) (i := 3) 0 rfl rfl dL_law_1249 ?_
        refine xj_iconst (v := 3) (by decide) dL_law_1250 ?_
        refine xj_iadd dL_law_1251 ?_
        refine xj_top (nI_add i 3) ?_
        refine xj_sald rfl (nI_in (by omega) (by omega)) dL_law_1252 ?_
        refine xj_callV kv_L_146 (c_X12_sheet l 0 n hn zg1127 A Λ O MA1 (xs (nI (i + 1)).toNatClampNeg) (xs (nI (i + 2)).toNatClampNeg) (xs (nI (i + 3)).toNatClampNeg)) (As := [.int (xs (nI (i + 1)).toNatClampNeg), .int (xs (nI (i + 2)).toNatClampNeg), .int (xs (nI (i + 3)).toNatClampNeg)]) (st := [.int zv1126]) (by omega) (fq_86 zg1127) (ci := 12) rfl rfl rfl rfl ⟨Nat.le_of_ble_eq_true rfl, Nat.le_of_ble_eq_true rfl, by show kc + _ ≤ 600000; simp only [xR]; omega, by show ks + _ ≤ 7302250; simp only [xR]; omega⟩ (Nat.le_of_ble_eq_true rfl) dL_law_1253 (yk_i (kc := _) (ks := _) fun zv1128 zg1129 hzg1129 => ?_)
        obtain ⟨hv2, MA2, hm2⟩ := hzg1129
        have CA2 := CA1.cx O1 (fun j hj => hm2 j (cX_m j hj))
        refine xj_icmp_eq (tgt := 1453) (by decide) dL_law_1256 (fun zc => ?_) (fun zc => absurd (hv1.trans hv2.symm) zc)
        refine xj_iinc (n := 7) (i := 3) (v := nI (i + 7)) (lv1 := [(3, .int (nI (i + 7))), (0, .ref (xN + 3)), (1, .ref 0), (2, .ref 86)]) 0 rfl (by rw [show Int32.ofInt 7 = nI 7 from by decide]; exact nI_add i 7) rfl (Nat.le_of_ble_eq_true rfl) dL_law_1453 ?_
        refine xj_goto (tgt := 18) (by decide) dL_law_1456 ?_
        refine xj_sub (lv' := [(3, .int (nI (i + 7))), (0, .ref (xN + 3)), (1, .ref 0), (2, .ref 86)]) [0, 1, 2, 3] rfl ?_
        exact ih (i + 7) _ _ _ (rSheet A (xs (nI (i + 1)).toNatClampNeg) (xs (nI (i + 2)).toNatClampNeg) (xs (nI (i + 3)).toNatClampNeg)).2 Λ _ O1 CA2 MA2 (by omega) (by omega) (by show kc + 0 + 0 + 4 * t ≤ 600000; omega) (by show ks + 0 + 0 + 210 * t ≤ 7302250; omega)
      by_cases zs33_32 : zv1001 = 32
      · refine xj_top zs33_32 ?_
        refine xj_tableIn (off := 1228) (tgt := 1261) dL_law_33 (by decide) (by decide) rfl (by decide) ?_
        refine xj_aload_n (n := 1) (i := 1) 2 rfl rfl dL_law_1261 ?_
        refine xj_aload_n (n := 0) (i := 0) 1 rfl rfl dL_law_1262 ?_
        refine xj_iload_n (n := 3) (i := 3) 0 rfl rfl dL_law_1263 ?_
        refine xj_iconst (v := 1) (by decide) dL_law_1264 ?_
        refine xj_iadd dL_law_1265 ?_
        refine xj_top (nI_add i 1) ?_
        refine xj_sald rfl (nI_in (by omega) (by omega)) dL_law_1266 ?_
        refine xj_aload_n (n := 0) (i := 0) 1 rfl rfl dL_law_1267 ?_
        refine xj_iload_n (n := 3) (i := 3) 0 rfl rfl dL_law_1268 ?_
        refine xj_iconst (v := 2) (by decide) dL_law_1269 ?_
        refine xj_iadd dL_law_1270 ?_
        refine xj_top (nI_add i 2) ?_
        refine xj_sald rfl (nI_in (by omega) (by omega)) dL_law_1271 ?_
        refine xj_aload_n (n := 0) (i := 0) 1 rfl rfl dL_law_1272 ?_
        refine xj_iload_n (n := 3) (i := 3) 0 rfl rfl dL_law_1273 ?_
        refine xj_iconst (v := 3) (by decide) dL_law_1274 ?_
        refine xj_iadd dL_law_1275 ?_
        refine xj_top (nI_add i 3) ?_
        refine xj_sald rfl (nI_in (by omega) (by omega)) dL_law_1276 ?_
        refine xj_callV kv_L_147 (c_X11_cell l 0 n g A Λ O CA (xs (nI (i + 1)).toNatClampNeg) (xs (nI (i + 2)).toNatClampNeg) (xs (nI (i + 3)).toNatClampNeg)) (As := [.int (xs (nI (i + 1)).toNatClampNeg), .int (xs (nI (i + 2)).toNatClampNeg), .int (xs (nI (i + 3)).toNatClampNeg)]) (st := []) (by omega) (fq_0 g) (ci := 11) rfl rfl rfl rfl ⟨Nat.le_of_ble_eq_true rfl, Nat.le_of_ble_eq_true rfl, by show kc + _ ≤ 600000; simp only [xR]; omega, by show ks + _ ≤ 7302250; simp only [xR]; omega⟩ (Nat.le_of_ble_eq_true rfl) dL_law_1277 (yk_i (kc := _) (ks := _) fun zv1130 zg1131 hzg1131 => ?_)
        obtain ⟨hv1, CA1, hf1⟩ := hzg1131
        have MA1 := MA.cx hf1
        have O1 : okA (rCell A (xs (nI (i + 1)).toNatClampNeg) (xs (nI (i + 2)).toNatClampNeg) (xs (nI (i + 3)).toNatClampNeg)).2 := rCell_ok O (xs (nI (i + 1)).toNatClampNeg) (xs (nI (i + 2)).toNatClampNeg) (xs (nI (i + 3)).toNatClampNeg)
        refine xj_aload_n (n := 2) (i := 2) 3 rfl rfl dL_law_1280 ?_
        refine xj_aload_n (n := 0) (i := 0) 1 rfl rfl dL_law_1281 ?_
        refine xj_iload_n (n := 3) (i := 3) 0 rfl rfl dL_law_1282 ?_
        refine xj_iconst (v := 1) (by decide) dL_law_1283 ?_
        refine xj_iadd dL_law_1284 ?_
        refine xj_top (nI_add i 1) ?_
        refine xj_sald rfl (nI_in (by omega) (by omega)) dL_law_1285 ?_
        refine xj_aload_n (n := 0) (i := 0) 1 rfl rfl dL_law_1286 ?_
        refine xj_iload_n (n := 3) (i := 3) 0 rfl rfl dL_law_1287 ?_
        refine xj_iconst (v := 2) (by decide) dL_law_1288 ?_
        refine xj_iadd dL_law_1289 ?_
        refine xj_top (nI_add i 2) ?_
        refine xj_sald rfl (nI_in (by omega) (by omega)) dL_law_1290 ?_
        refine xj_aload_n (n := 0) (i := 0) 1 rfl rfl dL_law_1291 ?_
        refine xj_iload_n (n := 3) (i := 3) 0 rfl rfl dL_law_1292 ?_
        refine xj_iconst (v := 3) (by decide) dL_law_1293 ?_
        refine xj_iadd dL_law_1294 ?_
        refine xj_top (nI_add i 3) ?_
        refine xj_sald rfl (nI_in (by omega) (by omega)) dL_law_1295 ?_
        refine xj_callV kv_L_150 (c_X12_cell l 0 n hn zg1131 A Λ O MA1 (xs (nI (i + 1)).toNatClampNeg) (xs (nI (i + 2)).toNatClampNeg) (xs (nI (i + 3)).toNatClampNeg)) (As := [.int (xs (nI (i + 1)).toNatClampNeg), .int (xs (nI (i + 2)).toNatClampNeg), .int (xs (nI (i + 3)).toNatClampNeg)]) (st := [.int zv1130]) (by omega) (fq_86 zg1131) (ci := 12) rfl rfl rfl rfl ⟨Nat.le_of_ble_eq_true rfl, Nat.le_of_ble_eq_true rfl, by show kc + _ ≤ 600000; simp only [xR]; omega, by show ks + _ ≤ 7302250; simp only [xR]; omega⟩ (Nat.le_of_ble_eq_true rfl) dL_law_1296 (yk_i (kc := _) (ks := _) fun zv1132 zg1133 hzg1133 => ?_)
        obtain ⟨hv2, MA2, hm2⟩ := hzg1133
        have CA2 := CA1.cx O1 (fun j hj => hm2 j (cX_m j hj))
        refine xj_icmp_eq (tgt := 1453) (by decide) dL_law_1299 (fun zc => ?_) (fun zc => absurd (hv1.trans hv2.symm) zc)
        refine xj_iinc (n := 7) (i := 3) (v := nI (i + 7)) (lv1 := [(3, .int (nI (i + 7))), (0, .ref (xN + 3)), (1, .ref 0), (2, .ref 86)]) 0 rfl (by rw [show Int32.ofInt 7 = nI 7 from by decide]; exact nI_add i 7) rfl (Nat.le_of_ble_eq_true rfl) dL_law_1453 ?_
        refine xj_goto (tgt := 18) (by decide) dL_law_1456 ?_
        refine xj_sub (lv' := [(3, .int (nI (i + 7))), (0, .ref (xN + 3)), (1, .ref 0), (2, .ref 86)]) [0, 1, 2, 3] rfl ?_
        exact ih (i + 7) _ _ _ (rCell A (xs (nI (i + 1)).toNatClampNeg) (xs (nI (i + 2)).toNatClampNeg) (xs (nI (i + 3)).toNatClampNeg)).2 Λ _ O1 CA2 MA2 (by omega) (by omega) (by show kc + 0 + 0 + 4 * t ≤ 600000; omega) (by show ks + 0 + 0 + 210 * t ≤ 7302250; omega)
      by_cases zs33_33 : zv1001 = 33
      · refine xj_top zs33_33 ?_
        refine xj_tableIn (off := 1271) (tgt := 1304) dL_law_33 (by decide) (by decide) rfl (by decide) ?_
        refine xj_aload_n (n := 1) (i := 1) 2 rfl rfl dL_law_1304 ?_
        refine xj_aload_n (n := 0) (i := 0) 1 rfl rfl dL_law_1305 ?_
        refine xj_iload_n (n := 3) (i := 3) 0 rfl rfl dL_law_1306 ?_
        refine xj_iconst (v := 1) (by decide) dL_law_1307 ?_
        refine xj_iadd dL_law_1308 ?_
        refine xj_top (nI_add i 1) ?_
        refine xj_sald rfl (nI_in (by omega) (by omega)) dL_law_1309 ?_
        refine xj_aload_n (n := 0) (i := 0) 1 rfl rfl dL_law_1310 ?_
        refine xj_iload_n (n := 3) (i := 3) 0 rfl rfl dL_law_1311 ?_
        refine xj_iconst (v := 2) (by decide) dL_law_1312 ?_
        refine xj_iadd dL_law_1313 ?_
        refine xj_top (nI_add i 2) ?_
        refine xj_sald rfl (nI_in (by omega) (by omega)) dL_law_1314 ?_
        refine xj_aload_n (n := 0) (i := 0) 1 rfl rfl dL_law_1315 ?_
        refine xj_iload_n (n := 3) (i := 3) 0 rfl rfl dL_law_1316 ?_
        refine xj_iconst (v := 3) (by decide) dL_law_1317 ?_
        refine xj_iadd dL_law_1318 ?_
        refine xj_top (nI_add i 3) ?_
        refine xj_sald rfl (nI_in (by omega) (by omega)) dL_law_1319 ?_
        refine xj_aload_n (n := 0) (i := 0) 1 rfl rfl dL_law_1320 ?_
        refine xj_iload_n (n := 3) (i := 3) 0 rfl rfl dL_law_1321 ?_
        refine xj_iconst (v := 4) (by decide) dL_law_1322 ?_
        refine xj_iadd dL_law_1323 ?_
        refine xj_top (nI_add i 4) ?_
        refine xj_sald rfl (nI_in (by omega) (by omega)) dL_law_1324 ?_
        refine xj_aload_n (n := 0) (i := 0) 1 rfl rfl dL_law_1325 ?_
        refine xj_iload_n (n := 3) (i := 3) 0 rfl rfl dL_law_1326 ?_
        refine xj_iconst (v := 5) (by decide) dL_law_1327 ?_
        refine xj_iadd dL_law_1328 ?_
        refine xj_top (nI_add i 5) ?_
        refine xj_sald rfl (nI_in (by omega) (by omega)) dL_law_1329 ?_
        refine xj_callV kv_L_151 (c_X11_copy l 0 n g A Λ O CA (xs (nI (i + 1)).toNatClampNeg) (xs (nI (i + 2)).toNatClampNeg) (xs (nI (i + 3)).toNatClampNeg) (xs (nI (i + 4)).toNatClampNeg) (xs (nI (i + 5)).toNatClampNeg)) (As := [.int (xs (nI (i + 1)).toNatClampNeg), .int (xs (nI (i + 2)).toNatClampNeg), .int (xs (nI (i + 3)).toNatClampNeg), .int (xs (nI (i + 4)).toNatClampNeg), .int (xs (nI (i + 5)).toNatClampNeg)]) (st := []) (by omega) (fq_0 g) (ci := 11) rfl rfl rfl rfl ⟨Nat.le_of_ble_eq_true rfl, Nat.le_of_ble_eq_true rfl, by show kc + _ ≤ 600000; simp only [xR]; omega, by show ks + _ ≤ 7302250; simp only [xR]; omega⟩ (Nat.le_of_ble_eq_true rfl) dL_law_1330 (yk_i (kc := _) (ks := _) fun zv1134 zg1135 hzg1135 => ?_)
        obtain ⟨hv1, CA1, hf1⟩ := hzg1135
        have MA1 := MA.cx hf1
        have O1 : okA (rCopy A (xs (nI (i + 1)).toNatClampNeg) (xs (nI (i + 2)).toNatClampNeg) (xs (nI (i + 3)).toNatClampNeg) (xs (nI (i + 4)).toNatClampNeg) (xs (nI (i + 5)).toNatClampNeg)).2 := rCopy_ok O (xs (nI (i + 1)).toNatClampNeg) (xs (nI (i + 2)).toNatClampNeg) (xs (nI (i + 3)).toNatClampNeg) (xs (nI (i + 4)).toNatClampNeg) (xs (nI (i + 5)).toNatClampNeg)
        refine xj_aload_n (n := 2) (i := 2) 3 rfl rfl dL_law_1333 ?_
        refine xj_aload_n (n := 0) (i := 0) 1 rfl rfl dL_law_1334 ?_
        refine xj_iload_n (n := 3) (i := 3) 0 rfl rfl dL_law_1335 ?_
        refine xj_iconst (v := 1) (by decide) dL_law_1336 ?_
        refine xj_iadd dL_law_1337 ?_
        refine xj_top (nI_add i 1) ?_
        refine xj_sald rfl (nI_in (by omega) (by omega)) dL_law_1338 ?_
        refine xj_aload_n (n := 0) (i := 0) 1 rfl rfl dL_law_1339 ?_
        refine xj_iload_n (n := 3) (i := 3) 0 rfl rfl dL_law_1340 ?_
        refine xj_iconst (v := 2) (by decide) dL_law_1341 ?_
        refine xj_iadd dL_law_1342 ?_
        refine xj_top (nI_add i 2) ?_
        refine xj_sald rfl (nI_in (by omega) (by omega)) dL_law_1343 ?_
        refine xj_aload_n (n := 0) (i := 0) 1 rfl rfl dL_law_1344 ?_
        refine xj_iload_n (n := 3) (i := 3) 0 rfl rfl dL_law_1345 ?_
        refine xj_iconst (v := 3) (by decide) dL_law_1346 ?_
        refine xj_iadd dL_law_1347 ?_
        refine xj_top (nI_add i 3) ?_
        refine xj_sald rfl (nI_in (by omega) (by omega)) dL_law_1348 ?_
        refine xj_aload_n (n := 0) (i := 0) 1 rfl rfl dL_law_1349 ?_
        refine xj_iload_n (n := 3) (i := 3) 0 rfl rfl dL_law_1350 ?_
        refine xj_iconst (v := 4) (by decide) dL_law_1351 ?_
        refine xj_iadd dL_law_1352 ?_
        refine xj_top (nI_add i 4) ?_
        refine xj_sald rfl (nI_in (by omega) (by omega)) dL_law_1353 ?_
        refine xj_aload_n (n := 0) (i := 0) 1 rfl rfl dL_law_1354 ?_
        refine xj_iload_n (n := 3) (i := 3) 0 rfl rfl dL_law_1355 ?_
        refine xj_iconst (v := 5) (by decide) dL_law_1356 ?_
        refine xj_iadd dL_law_1357 ?_
        refine xj_top (nI_add i 5) ?_
        refine xj_sald rfl (nI_in (by omega) (by omega)) dL_law_1358 ?_
        refine xj_callV kv_L_155 (c_X12_copy l 0 n hn zg1135 A Λ O MA1 (xs (nI (i + 1)).toNatClampNeg) (xs (nI (i + 2)).toNatClampNeg) (xs (nI (i + 3)).toNatClampNeg) (xs (nI (i + 4)).toNatClampNeg) (xs (nI (i + 5)).toNatClampNeg)) (As := [.int (xs (nI (i + 1)).toNatClampNeg), .int (xs (nI (i + 2)).toNatClampNeg), .int (xs (nI (i + 3)).toNatClampNeg), .int (xs (nI (i + 4)).toNatClampNeg), .int (xs (nI (i + 5)).toNatClampNeg)]) (st := [.int zv1134]) (by omega) (fq_86 zg1135) (ci := 12) rfl rfl rfl rfl ⟨Nat.le_of_ble_eq_true rfl, Nat.le_of_ble_eq_true rfl, by show kc + _ ≤ 600000; simp only [xR]; omega, by show ks + _ ≤ 7302250; simp only [xR]; omega⟩ (Nat.le_of_ble_eq_true rfl) dL_law_1359 (yk_i (kc := _) (ks := _) fun zv1136 zg1137 hzg1137 => ?_)
        obtain ⟨hv2, MA2, hm2⟩ := hzg1137
        have CA2 := CA1.cx O1 (fun j hj => hm2 j (cX_m j hj))
        refine xj_icmp_eq (tgt := 1453) (by decide) dL_law_1362 (fun zc => ?_) (fun zc => absurd (hv1.trans hv2.symm) zc)
        refine xj_iinc (n := 7) (i := 3) (v := nI (i + 7)) (lv1 := [(3, .int (nI (i + 7))), (0, .ref (xN + 3)), (1, .ref 0), (2, .ref 86)]) 0 rfl (by rw [show Int32.ofInt 7 = nI 7 from by decide]; exact nI_add i 7) rfl (Nat.le_of_ble_eq_true rfl) dL_law_1453 ?_
        refine xj_goto (tgt := 18) (by decide) dL_law_1456 ?_
        refine xj_sub (lv' := [(3, .int (nI (i + 7))), (0, .ref (xN + 3)), (1, .ref 0), (2, .ref 86)]) [0, 1, 2, 3] rfl ?_
        exact ih (i + 7) _ _ _ (rCopy A (xs (nI (i + 1)).toNatClampNeg) (xs (nI (i + 2)).toNatClampNeg) (xs (nI (i + 3)).toNatClampNeg) (xs (nI (i + 4)).toNatClampNeg) (xs (nI (i + 5)).toNatClampNeg)).2 Λ _ O1 CA2 MA2 (by omega) (by omega) (by show kc + 0 + 0 + 4 * t ≤ 600000; omega) (by show ks + 0 + 0 + 210 * t ≤ 7302250; omega)
      by_cases zs33_34 : zv1001 = 34
      · refine xj_top zs33_34 ?_
        refine xj_tableIn (off := 1334) (tgt := 1367) dL_law_33 (by decide) (by decide) rfl (by decide) ?_
        refine xj_aload_n (n := 1) (i := 1) 2 rfl rfl dL_law_1367 ?_
        refine xj_aload_n (n := 0) (i := 0) 1 rfl rfl dL_law_1368 ?_
        refine xj_iload_n (n := 3) (i := 3) 0 rfl rfl dL_law_1369 ?_
        refine xj_iconst (v := 1) (by decide) dL_law_1370 ?_
        refine xj_iadd dL_law_1371 ?_
        refine xj_top (nI_add i 1) ?_
        refine xj_sald rfl (nI_in (by omega) (by omega)) dL_law_1372 ?_
        refine xj_aload_n (n := 0) (i := 0) 1 rfl rfl dL_law_1373 ?_
        refine xj_iload_n (n := 3) (i := 3) 0 rfl rfl dL_law_1374 ?_
        refine xj_iconst (v := 2) (by decide) dL_law_1375 ?_
        refine xj_iadd dL_law_1376 ?_
        refine xj_top (nI_add i 2) ?_
        refine xj_sald rfl (nI_in (by omega) (by omega)) dL_law_1377 ?_
        refine xj_aload_n (n := 0) (i := 0) 1 rfl rfl dL_law_1378 ?_
        refine xj_iload_n (n := 3) (i := 3) 0 rfl rfl dL_law_1379 ?_
        refine xj_iconst (v := 3) (by decide) dL_law_1380 ?_
        refine xj_iadd dL_law_1381 ?_
        refine xj_top (nI_add i 3) ?_
        refine xj_sald rfl (nI_in (by omega) (by omega)) dL_law_1382 ?_
        refine xj_aload_n (n := 0) (i := 0) 1 rfl rfl dL_law_1383 ?_
        refine xj_iload_n (n := 3) (i := 3) 0 rfl rfl dL_law_1384 ?_
        refine xj_iconst (v := 4) (by decide) dL_law_1385 ?_
        refine xj_iadd dL_law_1386 ?_
        refine xj_top (nI_add i 4) ?_
        refine xj_sald rfl (nI_in (by omega) (by omega)) dL_law_1387 ?_
        refine xj_callV kv_L_156 (c_X11_sleepersBy l 0 n g A Λ O CA (xs (nI (i + 1)).toNatClampNeg) (xs (nI (i + 2)).toNatClampNeg) (xs (nI (i + 3)).toNatClampNeg) (xs (nI (i + 4)).toNatClampNeg)) (As := [.int (xs (nI (i + 1)).toNatClampNeg), .int (xs (nI (i + 2)).toNatClampNeg), .int (xs (nI (i + 3)).toNatClampNeg), .int (xs (nI (i + 4)).toNatClampNeg)]) (st := []) (by omega) (fq_0 g) (ci := 11) rfl rfl rfl rfl ⟨Nat.le_of_ble_eq_true rfl, Nat.le_of_ble_eq_true rfl, by show kc + _ ≤ 600000; simp only [xR]; omega, by show ks + _ ≤ 7302250; simp only [xR]; omega⟩ (Nat.le_of_ble_eq_true rfl) dL_law_1388 (yk_i (kc := _) (ks := _) fun zv1138 zg1139 hzg1139 => ?_)
        obtain ⟨hv1, CA1, hf1⟩ := hzg1139
        have MA1 := MA.cx hf1
        have O1 : okA (rSlBy A (xs (nI (i + 1)).toNatClampNeg) (xs (nI (i + 2)).toNatClampNeg) (xs (nI (i + 3)).toNatClampNeg) (xs (nI (i + 4)).toNatClampNeg)).2 := rSlBy_ok O (xs (nI (i + 1)).toNatClampNeg) (xs (nI (i + 2)).toNatClampNeg) (xs (nI (i + 3)).toNatClampNeg) (xs (nI (i + 4)).toNatClampNeg)
        refine xj_aload_n (n := 2) (i := 2) 3 rfl rfl dL_law_1391 ?_
        refine xj_aload_n (n := 0) (i := 0) 1 rfl rfl dL_law_1392 ?_
        refine xj_iload_n (n := 3) (i := 3) 0 rfl rfl dL_law_1393 ?_
        refine xj_iconst (v := 1) (by decide) dL_law_1394 ?_
        refine xj_iadd dL_law_1395 ?_
        refine xj_top (nI_add i 1) ?_
        refine xj_sald rfl (nI_in (by omega) (by omega)) dL_law_1396 ?_
        refine xj_aload_n (n := 0) (i := 0) 1 rfl rfl dL_law_1397 ?_
        refine xj_iload_n (n := 3) (i := 3) 0 rfl rfl dL_law_1398 ?_
        refine xj_iconst (v := 2) (by decide) dL_law_1399 ?_
        refine xj_iadd dL_law_1400 ?_
        refine xj_top (nI_add i 2) ?_
        refine xj_sald rfl (nI_in (by omega) (by omega)) dL_law_1401 ?_
        refine xj_aload_n (n := 0) (i := 0) 1 rfl rfl dL_law_1402 ?_
        refine xj_iload_n (n := 3) (i := 3) 0 rfl rfl dL_law_1403 ?_
        refine xj_iconst (v := 3) (by decide) dL_law_1404 ?_
        refine xj_iadd dL_law_1405 ?_
        refine xj_top (nI_add i 3) ?_
        refine xj_sald rfl (nI_in (by omega) (by omega)) dL_law_1406 ?_
        refine xj_aload_n (n := 0) (i := 0) 1 rfl rfl dL_law_1407 ?_
        refine xj_iload_n (n := 3) (i := 3) 0 rfl rfl dL_law_1408 ?_
        refine xj_iconst (v := 4) (by decide) dL_law_1409 ?_
        refine xj_iadd dL_law_1410 ?_
        refine xj_top (nI_add i 4) ?_
        refine xj_sald rfl (nI_in (by omega) (by omega)) dL_law_1411 ?_
        refine xj_callV kv_L_160 (c_X12_sleepersBy l 0 n hn zg1139 A Λ O MA1 (xs (nI (i + 1)).toNatClampNeg) (xs (nI (i + 2)).toNatClampNeg) (xs (nI (i + 3)).toNatClampNeg) (xs (nI (i + 4)).toNatClampNeg)) (As := [.int (xs (nI (i + 1)).toNatClampNeg), .int (xs (nI (i + 2)).toNatClampNeg), .int (xs (nI (i + 3)).toNatClampNeg), .int (xs (nI (i + 4)).toNatClampNeg)]) (st := [.int zv1138]) (by omega) (fq_86 zg1139) (ci := 12) rfl rfl rfl rfl ⟨Nat.le_of_ble_eq_true rfl, Nat.le_of_ble_eq_true rfl, by show kc + _ ≤ 600000; simp only [xR]; omega, by show ks + _ ≤ 7302250; simp only [xR]; omega⟩ (Nat.le_of_ble_eq_true rfl) dL_law_1412 (yk_i (kc := _) (ks := _) fun zv1140 zg1141 hzg1141 => ?_)
        obtain ⟨hv2, MA2, hm2⟩ := hzg1141
        have CA2 := CA1.cx O1 (fun j hj => hm2 j (cX_m j hj))
        refine xj_icmp_eq (tgt := 1453) (by decide) dL_law_1415 (fun zc => ?_) (fun zc => absurd (hv1.trans hv2.symm) zc)
        refine xj_iinc (n := 7) (i := 3) (v := nI (i + 7)) (lv1 := [(3, .int (nI (i + 7))), (0, .ref (xN + 3)), (1, .ref 0), (2, .ref 86)]) 0 rfl (by rw [show Int32.ofInt 7 = nI 7 from by decide]; exact nI_add i 7) rfl (Nat.le_of_ble_eq_true rfl) dL_law_1453 ?_
        refine xj_goto (tgt := 18) (by decide) dL_law_1456 ?_
        refine xj_sub (lv' := [(3, .int (nI (i + 7))), (0, .ref (xN + 3)), (1, .ref 0), (2, .ref 86)]) [0, 1, 2, 3] rfl ?_
        exact ih (i + 7) _ _ _ (rSlBy A (xs (nI (i + 1)).toNatClampNeg) (xs (nI (i + 2)).toNatClampNeg) (xs (nI (i + 3)).toNatClampNeg) (xs (nI (i + 4)).toNatClampNeg)).2 Λ _ O1 CA2 MA2 (by omega) (by omega) (by show kc + 0 + 0 + 4 * t ≤ 600000; omega) (by show ks + 0 + 0 + 210 * t ≤ 7302250; omega)
      by_cases zs33_35 : zv1001 = 35
      · refine xj_top zs33_35 ?_
        refine xj_tableIn (off := 1387) (tgt := 1420) dL_law_33 (by decide) (by decide) rfl (by decide) ?_
        refine xj_aload_n (n := 1) (i := 1) 2 rfl rfl dL_law_1420 ?_
        refine xj_aload_n (n := 0) (i := 0) 1 rfl rfl dL_law_1421 ?_
        refine xj_iload_n (n := 3) (i := 3) 0 rfl rfl dL_law_1422 ?_
        refine xj_iconst (v := 1) (by decide) dL_law_1423 ?_
        refine xj_iadd dL_law_1424 ?_
        refine xj_top (nI_add i 1) ?_
        refine xj_sald rfl (nI_in (by omega) (by omega)) dL_law_1425 ?_
        refine xj_aload_n (n := 0) (i := 0) 1 rfl rfl dL_law_1426 ?_
        refine xj_iload_n (n := 3) (i := 3) 0 rfl rfl dL_law_1427 ?_
        refine xj_iconst (v := 2) (by decide) dL_law_1428 ?_
        refine xj_iadd dL_law_1429 ?_
        refine xj_top (nI_add i 2) ?_
        refine xj_sald rfl (nI_in (by omega) (by omega)) dL_law_1430 ?_
        refine xj_callV kv_L_161 (c_X11_taken l 0 n g A Λ O CA (xs (nI (i + 1)).toNatClampNeg) (xs (nI (i + 2)).toNatClampNeg)) (As := [.int (xs (nI (i + 1)).toNatClampNeg), .int (xs (nI (i + 2)).toNatClampNeg)]) (st := []) (by omega) (fq_0 g) (ci := 11) rfl rfl rfl rfl ⟨Nat.le_of_ble_eq_true rfl, Nat.le_of_ble_eq_true rfl, by show kc + _ ≤ 600000; simp only [xR]; omega, by show ks + _ ≤ 7302250; simp only [xR]; omega⟩ (Nat.le_of_ble_eq_true rfl) dL_law_1431 (yk_i (kc := _) (ks := _) fun zv1142 zg1143 hzg1143 => ?_)
        obtain ⟨hv1, hf1⟩ := hzg1143
        have CA1 := CA.keep O hf1
        have MA1 := MA.cx (hf1.mono sX_c)
        have O1 := O
        refine xj_aload_n (n := 2) (i := 2) 3 rfl rfl dL_law_1434 ?_
        refine xj_aload_n (n := 0) (i := 0) 1 rfl rfl dL_law_1435 ?_
        refine xj_iload_n (n := 3) (i := 3) 0 rfl rfl dL_law_1436 ?_
        refine xj_iconst (v := 1) (by decide) dL_law_1437 ?_
        refine xj_iadd dL_law_1438 ?_
        refine xj_top (nI_add i 1) ?_
        refine xj_sald rfl (nI_in (by omega) (by omega)) dL_law_1439 ?_
        refine xj_aload_n (n := 0) (i := 0) 1 rfl rfl dL_law_1440 ?_
        refine xj_iload_n (n := 3) (i := 3) 0 rfl rfl dL_law_1441 ?_
        refine xj_iconst (v := 2) (by decide) dL_law_1442 ?_
        refine xj_iadd dL_law_1443 ?_
        refine xj_top (nI_add i 2) ?_
        refine xj_sald rfl (nI_in (by omega) (by omega)) dL_law_1444 ?_
        refine xj_callV kv_L_164 (c_X12_taken l 0 n hn zg1143 A Λ O MA1 (xs (nI (i + 1)).toNatClampNeg) (xs (nI (i + 2)).toNatClampNeg)) (As := [.int (xs (nI (i + 1)).toNatClampNeg), .int (xs (nI (i + 2)).toNatClampNeg)]) (st := [.int zv1142]) (by omega) (fq_86 zg1143) (ci := 12) rfl rfl rfl rfl ⟨Nat.le_of_ble_eq_true rfl, Nat.le_of_ble_eq_true rfl, by show kc + _ ≤ 600000; simp only [xR]; omega, by show ks + _ ≤ 7302250; simp only [xR]; omega⟩ (Nat.le_of_ble_eq_true rfl) dL_law_1445 (yk_i (kc := _) (ks := _) fun zv1144 zg1145 hzg1145 => ?_)
        obtain ⟨hv2, hq2⟩ := hzg1145
        have MA2 := MA1.keep (fm.of hq2 sN_m)
        have hm2 := (fm.of hq2 sN_m).fr
        have CA2 := CA1.cx O1 (fun j hj => hm2 j (cX_m j hj))
        refine xj_icmp_eq (tgt := 1453) (by decide) dL_law_1448 (fun zc => ?_) (fun zc => absurd (hv1.trans hv2.symm) zc)
        refine xj_iinc (n := 7) (i := 3) (v := nI (i + 7)) (lv1 := [(3, .int (nI (i + 7))), (0, .ref (xN + 3)), (1, .ref 0), (2, .ref 86)]) 0 rfl (by rw [show Int32.ofInt 7 = nI 7 from by decide]; exact nI_add i 7) rfl (Nat.le_of_ble_eq_true rfl) dL_law_1453 ?_
        refine xj_goto (tgt := 18) (by decide) dL_law_1456 ?_
        refine xj_sub (lv' := [(3, .int (nI (i + 7))), (0, .ref (xN + 3)), (1, .ref 0), (2, .ref 86)]) [0, 1, 2, 3] rfl ?_
        exact ih (i + 7) _ _ _ A Λ _ O1 CA2 MA2 (by omega) (by omega) (by show kc + 0 + 0 + 4 * t ≤ 600000; omega) (by show ks + 0 + 0 + 210 * t ≤ 7302250; omega)
      have zo33_0 : zv1001.toInt ≠ 0 := fun e => zs33_0 (Int32.toInt_inj.mp (e.trans rfl))
      have zo33_1 : zv1001.toInt ≠ 1 := fun e => zs33_1 (Int32.toInt_inj.mp (e.trans rfl))
      have zo33_2 : zv1001.toInt ≠ 2 := fun e => zs33_2 (Int32.toInt_inj.mp (e.trans rfl))
      have zo33_3 : zv1001.toInt ≠ 3 := fun e => zs33_3 (Int32.toInt_inj.mp (e.trans rfl))
      have zo33_4 : zv1001.toInt ≠ 4 := fun e => zs33_4 (Int32.toInt_inj.mp (e.trans rfl))
      have zo33_5 : zv1001.toInt ≠ 5 := fun e => zs33_5 (Int32.toInt_inj.mp (e.trans rfl))
      have zo33_6 : zv1001.toInt ≠ 6 := fun e => zs33_6 (Int32.toInt_inj.mp (e.trans rfl))
      have zo33_7 : zv1001.toInt ≠ 7 := fun e => zs33_7 (Int32.toInt_inj.mp (e.trans rfl))
      have zo33_8 : zv1001.toInt ≠ 8 := fun e => zs33_8 (Int32.toInt_inj.mp (e.trans rfl))
      have zo33_9 : zv1001.toInt ≠ 9 := fun e => zs33_9 (Int32.toInt_inj.mp (e.trans rfl))
      have zo33_10 : zv1001.toInt ≠ 10 := fun e => zs33_10 (Int32.toInt_inj.mp (e.trans rfl))
      have zo33_11 : zv1001.toInt ≠ 11 := fun e => zs33_11 (Int32.toInt_inj.mp (e.trans rfl))
      have zo33_12 : zv1001.toInt ≠ 12 := fun e => zs33_12 (Int32.toInt_inj.mp (e.trans rfl))
      have zo33_13 : zv1001.toInt ≠ 13 := fun e => zs33_13 (Int32.toInt_inj.mp (e.trans rfl))
      have zo33_14 : zv1001.toInt ≠ 14 := fun e => zs33_14 (Int32.toInt_inj.mp (e.trans rfl))
      have zo33_15 : zv1001.toInt ≠ 15 := fun e => zs33_15 (Int32.toInt_inj.mp (e.trans rfl))
      have zo33_16 : zv1001.toInt ≠ 16 := fun e => zs33_16 (Int32.toInt_inj.mp (e.trans rfl))
      have zo33_17 : zv1001.toInt ≠ 17 := fun e => zs33_17 (Int32.toInt_inj.mp (e.trans rfl))
      have zo33_18 : zv1001.toInt ≠ 18 := fun e => zs33_18 (Int32.toInt_inj.mp (e.trans rfl))
      have zo33_19 : zv1001.toInt ≠ 19 := fun e => zs33_19 (Int32.toInt_inj.mp (e.trans rfl))
      have zo33_20 : zv1001.toInt ≠ 20 := fun e => zs33_20 (Int32.toInt_inj.mp (e.trans rfl))
      have zo33_21 : zv1001.toInt ≠ 21 := fun e => zs33_21 (Int32.toInt_inj.mp (e.trans rfl))
      have zo33_22 : zv1001.toInt ≠ 22 := fun e => zs33_22 (Int32.toInt_inj.mp (e.trans rfl))
      have zo33_23 : zv1001.toInt ≠ 23 := fun e => zs33_23 (Int32.toInt_inj.mp (e.trans rfl))
      have zo33_24 : zv1001.toInt ≠ 24 := fun e => zs33_24 (Int32.toInt_inj.mp (e.trans rfl))
      have zo33_25 : zv1001.toInt ≠ 25 := fun e => zs33_25 (Int32.toInt_inj.mp (e.trans rfl))
      have zo33_26 : zv1001.toInt ≠ 26 := fun e => zs33_26 (Int32.toInt_inj.mp (e.trans rfl))
      have zo33_27 : zv1001.toInt ≠ 27 := fun e => zs33_27 (Int32.toInt_inj.mp (e.trans rfl))
      have zo33_28 : zv1001.toInt ≠ 28 := fun e => zs33_28 (Int32.toInt_inj.mp (e.trans rfl))
      have zo33_29 : zv1001.toInt ≠ 29 := fun e => zs33_29 (Int32.toInt_inj.mp (e.trans rfl))
      have zo33_30 : zv1001.toInt ≠ 30 := fun e => zs33_30 (Int32.toInt_inj.mp (e.trans rfl))
      have zo33_31 : zv1001.toInt ≠ 31 := fun e => zs33_31 (Int32.toInt_inj.mp (e.trans rfl))
      have zo33_32 : zv1001.toInt ≠ 32 := fun e => zs33_32 (Int32.toInt_inj.mp (e.trans rfl))
      have zo33_33 : zv1001.toInt ≠ 33 := fun e => zs33_33 (Int32.toInt_inj.mp (e.trans rfl))
      have zo33_34 : zv1001.toInt ≠ 34 := fun e => zs33_34 (Int32.toInt_inj.mp (e.trans rfl))
      have zo33_35 : zv1001.toInt ≠ 35 := fun e => zs33_35 (Int32.toInt_inj.mp (e.trans rfl))
      refine xj_tableOut (tgt := 1453) dL_law_33 (by omega) (by decide) ?_
      refine xj_iinc (n := 7) (i := 3) (v := nI (i + 7)) (lv1 := [(3, .int (nI (i + 7))), (0, .ref (xN + 3)), (1, .ref 0), (2, .ref 86)]) 0 rfl (by rw [show Int32.ofInt 7 = nI 7 from by decide]; exact nI_add i 7) rfl (Nat.le_of_ble_eq_true rfl) dL_law_1453 ?_
      refine xj_goto (tgt := 18) (by decide) dL_law_1456 ?_
      refine xj_sub (lv' := [(3, .int (nI (i + 7))), (0, .ref (xN + 3)), (1, .ref 0), (2, .ref 86)]) [0, 1, 2, 3] rfl ?_
      exact ih (i + 7) _ _ _ A Λ g O CA MA (by omega) (by omega) (by omega) (by omega)
