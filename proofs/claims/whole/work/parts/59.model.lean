theorem neg1_b : (-1 : Int32).toBitVec = BitVec.allOnes 32 := by decide
theorem ge32 (x : Int32) {i : Nat} (h : 32 ≤ i) : x.toBitVec.getLsbD i = false := BitVec.getLsbD_of_ge _ _ h
/-- of a, all is in c -/
theorem andnot_0 (c p : Int32) : p &&& (c ^^^ (-1)) = 0 ↔ c &&& p = p := by
  have hb : ∀ a b : Bool, (a && (b ^^ true)) = false ↔ (b && a) = a := by decide
  have e1 : ∀ i, i < 32 → (p &&& (c ^^^ (-1))).toBitVec.getLsbD i = (p.toBitVec.getLsbD i && (c.toBitVec.getLsbD i ^^ true)) := fun i hi => by
    show (p.toBitVec &&& (c.toBitVec ^^^ (-1 : Int32).toBitVec)).getLsbD i = _
    rw [BitVec.getLsbD_and, BitVec.getLsbD_xor, neg1_b, BitVec.getLsbD_allOnes, decide_eq_true hi]
  have e2 : ∀ i, (c &&& p).toBitVec.getLsbD i = (c.toBitVec.getLsbD i && p.toBitVec.getLsbD i) := fun i => by
    show (c.toBitVec &&& p.toBitVec).getLsbD i = _
    rw [BitVec.getLsbD_and]
  have e0 : ∀ i, (0 : Int32).toBitVec.getLsbD i = false := fun i => BitVec.getLsbD_zero
  constructor
  · intro h
    apply Int32.toBitVec_inj.mp
    refine BitVec.eq_of_getLsbD_eq fun i hi => ?_
    rw [e2]
    refine (hb _ _).mp ?_
    rw [← e1 i hi, h, e0]
  · intro h
    apply Int32.toBitVec_inj.mp
    refine BitVec.eq_of_getLsbD_eq fun i hi => ?_
    rw [e1 i hi, e0]
    refine (hb _ _).mpr ?_
    rw [← e2, h]
theorem bit_b (x i : Int32) : (x >>> (i &&& 31)) &&& 1 = bI (hasF x i = true) := by
  unfold hasF
  obtain ⟨j, hj, e⟩ := pk_andE (x >>> (i &&& 31)) (m := 1) 1 (by decide)
  rw [e]
  rcases (show j = 0 ∨ j = 1 by omega) with rfl | rfl <;> decide
theorem cn_fi (f : Nat → Bool) (h : Nat → Int32) (hh : ∀ k, ¬ h k = -1) : ∀ n, n < 2 ^ 31 → (cnF f n = 0 ↔ fiG f h n = -1) ∧ ∃ m, m ≤ n ∧ cnF f n = nI m
  | 0, _ => ⟨⟨fun _ => rfl, fun _ => rfl⟩, 0, Nat.le_refl _, rfl⟩
  | n + 1, hn => by
    obtain ⟨ih, m, hm, em⟩ := cn_fi f h hh n (by omega)
    unfold cnF fiG
    by_cases hf : f n = true
    · rw [if_pos hf, if_pos hf]
      refine ⟨⟨fun z => ?_, fun z => ?_⟩, m + 1, by omega, by rw [em, nI_1]⟩
      · rw [em, nI_1] at z
        exact absurd z (nI_ne0 (by omega) (by omega))
      · by_cases h0 : fiG f h n = -1
        · rw [if_pos h0] at z; exact absurd z (hh n)
        · rw [if_neg h0] at z; exact absurd z h0
    · rw [if_neg hf, if_neg hf]
      exact ⟨ih, m, by omega, em⟩
theorem mvV_n (k : Nat) (hk : k < 49) : ¬ mvV k = -1 := fun z => by
  have h1 : (nI (10 * (k / 7) + k % 7)).toInt = (-1 : Int32).toInt := congrArg Int32.toInt z
  rw [nI_toInt (by omega), show (-1 : Int32).toInt = -1 from rfl] at h1
  omega
theorem cn_fi2 (f : Nat → Bool) : ∀ n, n ≤ 49 → (cnF f n = 0 ↔ fiG f mvV n = -1) := by
  intro n hn
  have h := (cn_fi f (fun k => if k < 49 then mvV k else 0) (fun k => by by_cases hk : k < 49; (rw [if_pos hk]; exact mvV_n k hk); (rw [if_neg hk]; decide)) n (by omega)).1
  have e : ∀ m, m ≤ 49 → fiG f (fun k => if k < 49 then mvV k else 0) m = fiG f mvV m := by
    intro m
    induction m with
    | zero => intro _; rfl
    | succ m ih =>
      intro hm
      unfold fiG
      rw [ih (by omega), if_pos (show m < 49 by omega)]
  rw [e n hn] at h
  exact h
theorem jo_out {A : zSt} (Λ : Nat → xL) {w : Int32} (what : Int32) (O : okA A) (h : ¬ (0 ≤ w ∧ w ≤ 55)) : joF A Λ (w / 10) (w - w / 10 * 10) what = -5 := by
  unfold joF
  by_cases h1 : isSl A (w / 10)
  · rw [if_pos h1]
    by_cases h2 : isSl A (w - w / 10 * 10)
    · exfalso
      obtain ⟨a, ha, e1⟩ := isSl_of O h1
      obtain ⟨b, hb, e2⟩ := isSl_of O h2
      have hS := O.1.2
      have e3 : w = nI (b + a * 10) := by
        have h3 : w = (w - w / 10 * 10) + w / 10 * 10 := (Int32.sub_add_cancel _ _).symm
        rw [h3, e2, e1, show (10 : Int32) = nI 10 from rfl, pk_mul, nI_add]
      exact h (by rw [e3]; exact ⟨nI_le (a := 0) (Nat.zero_le _) (by omega), nI_le (b := 55) (by omega) (by omega)⟩)
    · rw [if_neg h2]
  · rw [if_neg h1]
theorem ofK_u {k o : Nat} (hk : k < 6) (ho : o < 6) : (nI o = 0 ∨ nI k = nI o ∨ (nI o = 1 ∧ nI k = 3) ∨ (nI o = 2 ∧ nI k = 4)) ↔ ofK k (nI o) = true := by
  rcases (show k = 0 ∨ k = 1 ∨ k = 2 ∨ k = 3 ∨ k = 4 ∨ k = 5 by omega) with rfl | rfl | rfl | rfl | rfl | rfl <;> rcases (show o = 0 ∨ o = 1 ∨ o = 2 ∨ o = 3 ∨ o = 4 ∨ o = 5 by omega) with rfl | rfl | rfl | rfl | rfl | rfl <;> decide
theorem ofK_6 {k : Nat} (hk : k < 6) : ofK k (nI 6) = false := by
  rcases (show k = 0 ∨ k = 1 ∨ k = 2 ∨ k = 3 ∨ k = 4 ∨ k = 5 by omega) with rfl | rfl | rfl | rfl | rfl | rfl <;> decide
set_option maxHeartbeats 4000000 in
set_option maxRecDepth 100000 in
theorem c_X12_isOftenEnough (l : Launch) (d : Nat) (n : Nat) (hn : 110 ≤ n) (g : xG) (A : zSt) (Λ : Nat → xL) (O : okA A) (C : mA g A Λ) (s n1 : Nat) (hs : s < aS A) (hn1 : 1 ≤ n1 ∧ n1 ≤ 9)  : xC l yX12_isOftenEnough cX12_isOftenEnough 5 (some .boolean) (xR (d + 6) 0 0) [.ref 86, .int (nI s), .int (nI n1)] (n, fh g) (qI n fun v g1 => v = bI (ofE A Λ s n1 = true) ∧ fm g g1) := by
  refine xC_of false (by decide +kernel) (fun z => by cases z) (Nat.le_of_ble_eq_true rfl) ?_
  have hS6 := O.1.2
  have hW := O.W
  have hT6 := O.2.2.2.1.2.2
  have hN9 := O.2.1.2
  have hs6_s : s < 6 := by omega
  show xJ l (RX12, 5, (some .boolean), false, (xR (d + 6) 0 0), none) cX12_isOftenEnough _ 0 0 0 [(0, .ref 86), (1, .int (nI s)), (2, .int (nI n1))] [] (n, fh g)
  refine xj_aload_n (n := 0) (i := 0) 0 rfl rfl dX12_isOftenEnough_0 ?_
  refine xj_iload_n (n := 1) (i := 1) 1 rfl rfl dX12_isOftenEnough_1 ?_
  refine xj_callV kv_X12_225 (c_X12_rowOf l (d + 4) n hn g A Λ O C s hs) (As := [.int (nI s)]) (st := []) (by omega) (fq_86 g) (ci := 12) rfl rfl rfl rfl (xRm_of (by omega) (by decide) (by omega) (by omega)) (Nat.le_of_ble_eq_true rfl) dX12_isOftenEnough_2 (yk_v (kc := 0) (ks := 0) fun zg1 hzg1 => ?_)
  obtain ⟨Rzg1, hxzg1⟩ := hzg1
  have Czg1 := C.keep hxzg1
  refine xj_iconst (v := 0) (by decide) dX12_isOftenEnough_5 ?_
  refine xj_istore_n (n := 3) (i := 3) (lv1 := [(3, .int 0), (0, .ref 86), (1, .int (nI s)), (2, .int (nI n1))]) rfl rfl (Nat.le_of_ble_eq_true rfl) dX12_isOftenEnough_6 ?_
  have key : ∀ i, i ≤ 20 → ∀ (g1 : xG), fm g g1 → rwA g1 (ofT (Λ (aW A)) (aK A s) (A 2 s) (A 3 s) (aN A) n1 (A (10 + s)) i) (aN A + i) → ofE A Λ s n1 = allF (ofB A Λ s n1) (20 - i) i → xJ l (RX12, 5, (some .boolean), false, (xR (d + 6) 0 0), none) cX12_isOftenEnough (qI n fun v g1 => v = bI (ofE A Λ s n1 = true) ∧ fm g g1) 0 0 7 [(3, .int (nI i)), (0, .ref 86), (1, .int (nI s)), (2, .int (nI n1))] [] (n, fh g1) := by
    refine x_loop 20 _ ?_ ?_
    · intro g1 hf R hz
      refine xj_iload_n (n := 3) (i := 3) 0 rfl rfl dX12_isOftenEnough_7 ?_
      refine xj_bipush (v := 20) (by decide) dX12_isOftenEnough_8 ?_
      refine xj_icmp_ge (tgt := 73) (by decide) dX12_isOftenEnough_10 (fun zc10 => ?_) (fun zc10 => ?_)
      · refine xj_iconst (v := 1) (by decide) dX12_isOftenEnough_73 ?_
        exact xj_ireturn rfl nr_b1 (Nat.zero_le _) (Nat.zero_le _) dX12_isOftenEnough_74 (qI_e ⟨by rw [hz, Nat.sub_self]; exact (bI_t rfl).symm, hf⟩)
      · exact absurd (nI_le (Nat.le_refl _) (by decide)) zc10
    · intro i hi ih g1 hf R hz
      have hstep : allF (ofB A Λ s n1) (20 - i) i = if ofB A Λ s n1 i = true then allF (ofB A Λ s n1) (20 - (i + 1)) (i + 1) else false := by rw [show 20 - i = 20 - (i + 1) + 1 by omega]; rfl
      refine xj_iload_n (n := 3) (i := 3) 0 rfl rfl dX12_isOftenEnough_7 ?_
      refine xj_bipush (v := 20) (by decide) dX12_isOftenEnough_8 ?_
      refine xj_icmp_ge (tgt := 73) (by decide) dX12_isOftenEnough_10 (fun zc10 => ?_) (fun zc10 => ?_)
      · exact absurd zc10 (nI_ge hi (by decide))
      · refine xj_iload_n (n := 3) (i := 3) 0 rfl rfl dX12_isOftenEnough_13 ?_
        refine xj_iload_n (n := 2) (i := 2) 3 rfl rfl dX12_isOftenEnough_14 ?_
        refine xj_irem (nI_ne0 (by omega) (by omega)) dX12_isOftenEnough_15 ?_
        refine xj_top (show ((nI i) - (nI i) / (nI n1) * (nI n1)) = nI (i % n1) from (pk_rem (by omega) (by omega) (by omega))) ?_
        refine xj_if_ne (tgt := 43) (by decide) dX12_isOftenEnough_16 (fun zc16 => ?_) (fun zc16 => ?_)
        · have hnz : ¬ i % n1 = 0 := fun e => zc16 (by rw [e]; rfl)
          refine xj_aload_n (n := 0) (i := 0) 1 rfl rfl dX12_isOftenEnough_43 ?_
          refine xj_iload_n (n := 1) (i := 1) 2 rfl rfl dX12_isOftenEnough_44 ?_
          refine xj_callV kv_X12_228 (c_X12_rowNight l (d + 1) n hn g1 A Λ O (C.keep hf) s hs (ofT (Λ (aW A)) (aK A s) (A 2 s) (A 3 s) (aN A) n1 (A (10 + s)) i) (aN A + i) R) (As := [.int (nI s)]) (st := []) (by omega) (fq_86 g1) (ci := 12) rfl rfl rfl rfl (xRm_of (by omega) (by decide) (by omega) (by omega)) (Nat.le_of_ble_eq_true rfl) dX12_isOftenEnough_45 (yk_v (kc := 0) (ks := 0) fun zg2 hzg2 => ?_)
          obtain ⟨Rzg2, hxzg2⟩ := hzg2
          have Czg2 := (C.keep hf).keep hxzg2
          have R9 : rwA zg2 (ofT (Λ (aW A)) (aK A s) (A 2 s) (A 3 s) (aN A) n1 (A (10 + s)) (i + 1)) (aN A + (i + 1)) := by have h := Rzg2; unfold ofT; rw [if_neg hnz]; exact h
          refine xj_aload_n (n := 0) (i := 0) 1 rfl rfl dX12_isOftenEnough_48 ?_
          refine yj_getf (v := .ref 90) fl_X12_19_12 (by omega) (fq_86 zg2) rfl dX12_isOftenEnough_49 ?_
          refine xj_iload_n (n := 1) (i := 1) 2 rfl rfl dX12_isOftenEnough_52 ?_
          refine yj_ialdN s (by omega) fA_90 rfl (by omega) (by decide) dX12_isOftenEnough_53 ?_
          refine xj_top (Czg2.pi hs) ?_
          refine xj_aload_n (n := 0) (i := 0) 1 rfl rfl dX12_isOftenEnough_54 ?_
          refine xj_iload_n (n := 1) (i := 1) 2 rfl rfl dX12_isOftenEnough_55 ?_
          refine xj_callV kv_X12_231 (c_X12_rowClear l (d + 1) n hn zg2 A Λ O Czg2 s hs (ofT (Λ (aW A)) (aK A s) (A 2 s) (A 3 s) (aN A) n1 (A (10 + s)) (i + 1)) (aN A + (i + 1)) R9) (As := [.int (nI s)]) (st := [.int (A 3 s)]) (by omega) (fq_86 zg2) (ci := 12) rfl rfl rfl rfl (xRm_of (by omega) (by decide) (by omega) (by omega)) (Nat.le_of_ble_eq_true rfl) dX12_isOftenEnough_56 (yk_i (kc := 0) (ks := 0) fun zv3 zg4 hzg4 => ?_)
          obtain ⟨hvzv3, hfnzg4⟩ := hzg4
          have hxzg4 := fm.of hfnzg4 sN_m
          have Rzg4 := R9.keep hfnzg4
          have Czg4 := Czg2.keep hxzg4
          refine xj_iconst (v := (-1)) (by decide) dX12_isOftenEnough_59 ?_
          refine xj_ixor dX12_isOftenEnough_60 ?_
          refine xj_iand dX12_isOftenEnough_61 ?_
          refine xj_if_eq (tgt := 67) (by decide) dX12_isOftenEnough_62 (fun zc62 => ?_) (fun zc62 => ?_)
          · have hob : ofB A Λ s n1 i = true := decide_eq_true ((andnot_0 _ _).mp (by rw [← show _ = clearS (Λ (aW A)) (aK A s) (A 2 s) (A 3 s) (ofT (Λ (aW A)) (aK A s) (A 2 s) (A 3 s) (aN A) n1 (A (10 + s)) (i + 1)) (nI (aN A + i + 1)) from hvzv3]; exact zc62))
            refine xj_iinc (n := 1) (i := 3) (v := nI (i + 1)) (lv1 := [(3, .int (nI (i + 1))), (0, .ref 86), (1, .int (nI s)), (2, .int (nI n1))]) 0 rfl (nI_1 i) rfl (Nat.le_of_ble_eq_true rfl) dX12_isOftenEnough_67 ?_
            refine xj_goto (tgt := 7) (by decide) dX12_isOftenEnough_70 ?_
            refine xj_sub (lv' := [(3, .int (nI (i + 1))), (0, .ref 86), (1, .int (nI s)), (2, .int (nI n1))]) [0, 1, 2, 3] rfl ?_
            exact ih zg4 ((hf.tr hxzg2).tr hxzg4) Rzg4 (by rw [hz, hstep, if_pos hob])
          · have hob : ¬ ofB A Λ s n1 i = true := fun y => zc62 ((andnot_0 _ _).mpr (by rw [show _ = clearS (Λ (aW A)) (aK A s) (A 2 s) (A 3 s) (ofT (Λ (aW A)) (aK A s) (A 2 s) (A 3 s) (aN A) n1 (A (10 + s)) (i + 1)) (nI (aN A + i + 1)) from hvzv3]; exact of_decide_eq_true y))
            refine xj_iconst (v := 0) (by decide) dX12_isOftenEnough_65 ?_
            exact xj_ireturn rfl nr_b0 (Nat.zero_le _) (Nat.zero_le _) dX12_isOftenEnough_66 (qI_e ⟨by rw [hz, hstep, if_neg hob]; exact (bI_f (by decide)).symm, ((hf.tr hxzg2).tr hxzg4)⟩)
        · have hlt : i % n1 < n1 := Nat.mod_lt i (by omega)
          have hnz : i % n1 = 0 := (nI_eq (b := 0) (by omega) (by omega)).mp zc16
          refine xj_iconst (v := 0) (by decide) dX12_isOftenEnough_19 ?_
          refine xj_istore (i := 4) (lv1 := [(4, .int 0), (3, .int (nI i)), (0, .ref 86), (1, .int (nI s)), (2, .int (nI n1))]) rfl (Nat.le_of_ble_eq_true rfl) dX12_isOftenEnough_20 ?_
          have key2 : ∀ j, j ≤ 16 → ∀ (g2 : xG), fm g g2 → (∀ k, k < j → g2 105 k = 0) → g2 86 33 = nI (aN A + i) → xJ l (RX12, 5, (some .boolean), false, (xR (d + 6) 0 0), none) cX12_isOftenEnough (qI n fun v g1 => v = bI (ofE A Λ s n1 = true) ∧ fm g g1) 0 0 22 [(4, .int (nI j)), (3, .int (nI i)), (0, .ref 86), (1, .int (nI s)), (2, .int (nI n1))] [] (n, fh g2) := by
            refine x_loop 16 _ ?_ ?_
            · intro g2 hf2 hP h33
              have R2 : rwA g2 (fun _ => 0) (aN A + i) := ⟨fun c hc => ⟨hP c hc, ⟨0, by omega, rfl⟩⟩, h33⟩
              refine xj_iload (i := 4) 0 rfl dX12_isOftenEnough_22 ?_
              refine xj_bipush (v := 16) (by decide) dX12_isOftenEnough_24 ?_
              refine xj_icmp_ge (tgt := 43) (by decide) dX12_isOftenEnough_26 (fun zc26 => ?_) (fun zc26 => ?_)
              · refine xj_aload_n (n := 0) (i := 0) 2 rfl rfl dX12_isOftenEnough_43 ?_
                refine xj_iload_n (n := 1) (i := 1) 3 rfl rfl dX12_isOftenEnough_44 ?_
                refine xj_callV kv_X12_228 (c_X12_rowNight l (d + 1) n hn g2 A Λ O (C.keep hf2) s hs (fun _ => 0) (aN A + i) R2) (As := [.int (nI s)]) (st := []) (by omega) (fq_86 g2) (ci := 12) rfl rfl rfl rfl (xRm_of (by omega) (by decide) (by omega) (by omega)) (Nat.le_of_ble_eq_true rfl) dX12_isOftenEnough_45 (yk_v (kc := 0) (ks := 0) fun zg5 hzg5 => ?_)
                obtain ⟨Rzg5, hxzg5⟩ := hzg5
                have Czg5 := (C.keep hf2).keep hxzg5
                have R9 : rwA zg5 (ofT (Λ (aW A)) (aK A s) (A 2 s) (A 3 s) (aN A) n1 (A (10 + s)) (i + 1)) (aN A + (i + 1)) := by have h := Rzg5; unfold ofT; rw [if_pos hnz]; exact h
                refine xj_aload_n (n := 0) (i := 0) 2 rfl rfl dX12_isOftenEnough_48 ?_
                refine yj_getf (v := .ref 90) fl_X12_19_12 (by omega) (fq_86 zg5) rfl dX12_isOftenEnough_49 ?_
                refine xj_iload_n (n := 1) (i := 1) 3 rfl rfl dX12_isOftenEnough_52 ?_
                refine yj_ialdN s (by omega) fA_90 rfl (by omega) (by decide) dX12_isOftenEnough_53 ?_
                refine xj_top (Czg5.pi hs) ?_
                refine xj_aload_n (n := 0) (i := 0) 2 rfl rfl dX12_isOftenEnough_54 ?_
                refine xj_iload_n (n := 1) (i := 1) 3 rfl rfl dX12_isOftenEnough_55 ?_
                refine xj_callV kv_X12_231 (c_X12_rowClear l (d + 1) n hn zg5 A Λ O Czg5 s hs (ofT (Λ (aW A)) (aK A s) (A 2 s) (A 3 s) (aN A) n1 (A (10 + s)) (i + 1)) (aN A + (i + 1)) R9) (As := [.int (nI s)]) (st := [.int (A 3 s)]) (by omega) (fq_86 zg5) (ci := 12) rfl rfl rfl rfl (xRm_of (by omega) (by decide) (by omega) (by omega)) (Nat.le_of_ble_eq_true rfl) dX12_isOftenEnough_56 (yk_i (kc := 0) (ks := 0) fun zv6 zg7 hzg7 => ?_)
                obtain ⟨hvzv6, hfnzg7⟩ := hzg7
                have hxzg7 := fm.of hfnzg7 sN_m
                have Rzg7 := R9.keep hfnzg7
                have Czg7 := Czg5.keep hxzg7
                refine xj_iconst (v := (-1)) (by decide) dX12_isOftenEnough_59 ?_
                refine xj_ixor dX12_isOftenEnough_60 ?_
                refine xj_iand dX12_isOftenEnough_61 ?_
                refine xj_if_eq (tgt := 67) (by decide) dX12_isOftenEnough_62 (fun zc62 => ?_) (fun zc62 => ?_)
                · have hob : ofB A Λ s n1 i = true := decide_eq_true ((andnot_0 _ _).mp (by rw [← show _ = clearS (Λ (aW A)) (aK A s) (A 2 s) (A 3 s) (ofT (Λ (aW A)) (aK A s) (A 2 s) (A 3 s) (aN A) n1 (A (10 + s)) (i + 1)) (nI (aN A + i + 1)) from hvzv6]; exact zc62))
                  refine xj_iinc (n := 1) (i := 3) (v := nI (i + 1)) (lv1 := [(3, .int (nI (i + 1))), (4, .int (nI 16)), (0, .ref 86), (1, .int (nI s)), (2, .int (nI n1))]) 1 rfl (nI_1 i) rfl (Nat.le_of_ble_eq_true rfl) dX12_isOftenEnough_67 ?_
                  refine xj_goto (tgt := 7) (by decide) dX12_isOftenEnough_70 ?_
                  refine xj_sub (lv' := [(3, .int (nI (i + 1))), (0, .ref 86), (1, .int (nI s)), (2, .int (nI n1))]) [0, 2, 3, 4] rfl ?_
                  exact ih zg7 ((hf2.tr hxzg5).tr hxzg7) Rzg7 (by rw [hz, hstep, if_pos hob])
                · have hob : ¬ ofB A Λ s n1 i = true := fun y => zc62 ((andnot_0 _ _).mpr (by rw [show _ = clearS (Λ (aW A)) (aK A s) (A 2 s) (A 3 s) (ofT (Λ (aW A)) (aK A s) (A 2 s) (A 3 s) (aN A) n1 (A (10 + s)) (i + 1)) (nI (aN A + i + 1)) from hvzv6]; exact of_decide_eq_true y))
                  refine xj_iconst (v := 0) (by decide) dX12_isOftenEnough_65 ?_
                  exact xj_ireturn rfl nr_b0 (Nat.zero_le _) (Nat.zero_le _) dX12_isOftenEnough_66 (qI_e ⟨by rw [hz, hstep, if_neg hob]; exact (bI_f (by decide)).symm, ((hf2.tr hxzg5).tr hxzg7)⟩)
              · exact absurd (nI_le (Nat.le_refl _) (by decide)) zc26
            · intro j hi2 ih2 g2 hf2 hP h33
              refine xj_iload (i := 4) 0 rfl dX12_isOftenEnough_22 ?_
              refine xj_bipush (v := 16) (by decide) dX12_isOftenEnough_24 ?_
              refine xj_icmp_ge (tgt := 43) (by decide) dX12_isOftenEnough_26 (fun zc26 => ?_) (fun zc26 => ?_)
              · exact absurd zc26 (nI_ge hi2 (by decide))
              · refine xj_aload_n (n := 0) (i := 0) 2 rfl rfl dX12_isOftenEnough_29 ?_
                refine yj_getf (v := .ref 105) fl_X12_68_12 (by omega) (fq_86 g2) rfl dX12_isOftenEnough_30 ?_
                refine xj_iload (i := 4) 0 rfl dX12_isOftenEnough_33 ?_
                refine xj_iconst (v := 0) (by decide) dX12_isOftenEnough_35 ?_
                refine yj_iastN j (by omega) fA_105 rfl (by omega) (by decide) dX12_isOftenEnough_36 ?_
                obtain ⟨zg8, ezg8⟩ : ∃ z, z = gs g2 105 j 0 := ⟨_, rfl⟩
                rw [← ezg8]
                have hxzg8 : fm g zg8 := by rw [ezg8]; exact hf2.gS (by unfold sM; omega) _ _
                have Czg8 := C.keep hxzg8
                refine xj_iinc (n := 1) (i := 4) (v := nI (j + 1)) (lv1 := [(4, .int (nI (j + 1))), (3, .int (nI i)), (0, .ref 86), (1, .int (nI s)), (2, .int (nI n1))]) 0 rfl (nI_1 j) rfl (Nat.le_of_ble_eq_true rfl) dX12_isOftenEnough_37 ?_
                refine xj_goto (tgt := 22) (by decide) dX12_isOftenEnough_40 ?_
                refine xj_sub (lv' := [(4, .int (nI (j + 1))), (3, .int (nI i)), (0, .ref 86), (1, .int (nI s)), (2, .int (nI n1))]) [0, 1, 2, 3, 4] rfl ?_
                refine ih2 zg8 hxzg8 (fun k hk => ?_) (by rw [ezg8, gs_n _ _ _ (by decide)]; exact h33)
                rw [ezg8, gs_s]
                by_cases eqj : k = j
                · subst eqj; rw [upd_s]
                · rw [upd_n _ _ eqj]; exact hP k (by omega)
          refine xj_sub (lv' := [(4, .int 0), (3, .int (nI i)), (0, .ref 86), (1, .int (nI s)), (2, .int (nI n1))]) [0, 1, 2, 3, 4] rfl ?_
          exact key2 0 (Nat.zero_le _) g1 hf (fun k hk => absurd hk (Nat.not_lt_zero k)) R.2
  refine xj_sub (lv' := [(3, .int 0), (0, .ref 86), (1, .int (nI s)), (2, .int (nI n1))]) [0, 1, 2, 3] rfl ?_
  exact key 0 (Nat.zero_le _) zg1 hxzg1 Rzg1 rfl
set_option maxHeartbeats 4000000 in
set_option maxRecDepth 100000 in
theorem c_X12_often (l : Launch) (d : Nat) (n : Nat) (hn : 110 ≤ n) (g : xG) (A : zSt) (Λ : Nat → xL) (O : okA A) (C : mA g A Λ) (s : Int32)  : xC l yX12_often cX12_often 3 (some .int) (xR (d + 7) 0 0) [.ref 86, .int s] (n, fh g) (qI n fun v g1 => v = vOften A Λ s ∧ fm g g1) := by
  refine xC_of false (by decide +kernel) (fun z => by cases z) (Nat.le_of_ble_eq_true rfl) ?_
  have hS6 := O.1.2
  have hW := O.W
  have hT6 := O.2.2.2.1.2.2
  have hN9 := O.2.1.2
  show xJ l (RX12, 3, (some .int), false, (xR (d + 7) 0 0), none) cX12_often _ 0 0 0 [(0, .ref 86), (1, .int s)] [] (n, fh g)
  refine xj_aload_n (n := 0) (i := 0) 0 rfl rfl dX12_often_0 ?_
  refine xj_iload_n (n := 1) (i := 1) 1 rfl rfl dX12_often_1 ?_
  refine xj_callV kv_X12_176 (c_X12_isSleeper l (d + 5) n hn g A Λ O C s) (As := [.int s]) (st := []) (by omega) (fq_86 g) (ci := 12) rfl rfl rfl rfl (xRm_of (by omega) (by decide) (by omega) (by omega)) (Nat.le_of_ble_eq_true rfl) dX12_often_2 (yk_p (kc := 0) (ks := 0) ?_)
  refine xj_if_ne (tgt := 11) (by decide) dX12_often_5 (fun zc5 => ?_) (fun zc5 => ?_)
  · have zp5 : isSl A s := bI_n0.mp zc5
    obtain ⟨ks, hks, rfl⟩ := isSl_of O zp5
    have hs6_ks : ks < 6 := by omega
    refine xj_bipush (v := 9) (by decide) dX12_often_11 ?_
    refine xj_istore_n (n := 2) (i := 2) (lv1 := [(2, .int 9), (0, .ref 86), (1, .int (nI ks))]) rfl rfl (Nat.le_of_ble_eq_true rfl) dX12_often_13 ?_
    have key : ∀ i, i ≤ 9 → ∀ (g1 : xG), fm g g1 → vOften A Λ (nI ks) = lastF (ofE A Λ ks) (9 - i) → xJ l (RX12, 3, (some .int), false, (xR (d + 7) 0 0), none) cX12_often (qI n fun v g1 => v = vOften A Λ (nI ks) ∧ fm g g1) 0 0 14 [(2, .int (nI (9 - i))), (0, .ref 86), (1, .int (nI ks))] [] (n, fh g1) := by
      refine x_loop 9 _ ?_ ?_
      · intro g1 hf hz
        refine xj_iload_n (n := 2) (i := 2) 0 rfl rfl dX12_often_14 ?_
        refine xj_if_le (tgt := 35) (by decide) dX12_often_15 (fun zc15 => ?_) (fun zc15 => ?_)
        · refine xj_iconst (v := (-1)) (by decide) dX12_often_35 ?_
          exact xj_ireturn rfl (nr_i _) (Nat.zero_le _) (Nat.zero_le _) dX12_often_36 (qI_e ⟨by rw [hz]; rfl, hf⟩)
        · exact absurd (by decide) zc15
      · intro i hi ih g1 hf hz
        have hstep : lastF (ofE A Λ ks) (9 - i) = if ofE A Λ ks (9 - i) = true then nI (9 - i) else lastF (ofE A Λ ks) (9 - (i + 1)) := by rw [show 9 - i = 9 - (i + 1) + 1 by omega]; rfl
        refine xj_iload_n (n := 2) (i := 2) 0 rfl rfl dX12_often_14 ?_
        refine xj_if_le (tgt := 35) (by decide) dX12_often_15 (fun zc15 => ?_) (fun zc15 => ?_)
        · exact absurd zc15 (nI_nle (by omega) (by omega))
        · refine xj_aload_n (n := 0) (i := 0) 1 rfl rfl dX12_often_18 ?_
          refine xj_iload_n (n := 1) (i := 1) 2 rfl rfl dX12_often_19 ?_
          refine xj_iload_n (n := 2) (i := 2) 0 rfl rfl dX12_often_20 ?_
          refine xj_callV kv_X12_253 (c_X12_isOftenEnough l (d + 0) n hn g1 A Λ O (C.keep hf) ks (9 - i) hks (by omega)) (As := [.int (nI ks), .int (nI (9 - i))]) (st := []) (by omega) (fq_86 g1) (ci := 12) rfl rfl rfl rfl (xRm_of (by omega) (by decide) (by omega) (by omega)) (Nat.le_of_ble_eq_true rfl) dX12_often_21 (yk_i (kc := 0) (ks := 0) fun zv1 zg2 hzg2 => ?_)
          obtain ⟨hvzv1, hfnzg2⟩ := hzg2
          have hxzg2 := hfnzg2
          have Czg2 := (C.keep hf).keep hxzg2
          refine xj_if_eq (tgt := 29) (by decide) dX12_often_24 (fun zc24 => ?_) (fun zc24 => ?_)
          · have hob : ¬ ofE A Λ ks (9 - i) = true := bI_0.mp (hvzv1.symm.trans zc24)
            obtain ⟨zv3, ezv3⟩ : ∃ z : Int32, z = (nI (9 - i)) + Int32.ofInt (-1) := ⟨_, rfl⟩
            refine xj_iinc (i := 2) (v := zv3) (lv1 := [(2, .int zv3), (0, .ref 86), (1, .int (nI ks))]) 0 rfl ezv3.symm rfl (Nat.le_of_ble_eq_true rfl) dX12_often_29 ?_
            refine xj_goto (tgt := 14) (by decide) dX12_often_32 ?_
            refine xj_sub (lv' := [(2, .int zv3), (0, .ref 86), (1, .int (nI ks))]) [0, 1, 2] rfl ?_
            rw [show zv3 = nI (9 - (i + 1)) from by rw [ezv3, show 9 - i = 9 - (i + 1) + 1 by omega]; exact pk_m1 _]
            exact ih zg2 (hf.tr hxzg2) (by rw [hz, hstep, if_neg hob])
          · have hob : ofE A Λ ks (9 - i) = true := bI_n0.mp (fun z => zc24 (hvzv1.trans z))
            refine xj_iload_n (n := 2) (i := 2) 0 rfl rfl dX12_often_27 ?_
            exact xj_ireturn rfl (nr_i _) (Nat.zero_le _) (Nat.zero_le _) dX12_often_28 (qI_e ⟨by rw [hz, hstep, if_pos hob], (hf.tr hxzg2)⟩)
    refine xj_sub (lv' := [(2, .int 9), (0, .ref 86), (1, .int (nI ks))]) [0, 1, 2] rfl ?_
    exact key 0 (Nat.zero_le _) g fm.rf (by unfold vOften; rw [if_pos zp5, nI_clamp (by omega)])
  · have zp5 : ¬ (isSl A s) := bI_0.mp zc5
    refine xj_bipush (v := (-5)) (by decide) dX12_often_8 ?_
    exact xj_ireturn rfl (nr_i _) (Nat.zero_le _) (Nat.zero_le _) dX12_often_10 (qI_e ⟨by unfold vOften; rw [if_neg zp5]; all_goals (rfl), fm.rf⟩)
set_option maxHeartbeats 4000000 in
set_option maxRecDepth 100000 in
theorem c_X12_isLike (l : Launch) (d : Nat) (n : Nat) (hn : 110 ≤ n) (g : xG) (A : zSt) (Λ : Nat → xL) (O : okA A) (C : mA g A Λ) (a b : Nat) (ha : a < aS A) (hb : b < aS A) (oc tc x y : Int32)  : xC l yX12_isLike cX12_isLike 12 (some .boolean) (xR (d + 2) 0 0) [.ref 86, .int (nI a), .int (nI b), .int oc, .int tc, .int x, .int y] (n, fh g) (qP (bI (lkF (A 3 a) (A 3 b) oc tc x y = true)) (n, fh g)) := by
  refine xC_of false (by decide +kernel) (fun z => by cases z) (Nat.le_of_ble_eq_true rfl) ?_
  have hS6 := O.1.2
  have hW := O.W
  have hT6 := O.2.2.2.1.2.2
  have hN9 := O.2.1.2
  have hs6_a : a < 6 := by omega
  have hs6_b : b < 6 := by omega
  show xJ l (RX12, 12, (some .boolean), false, (xR (d + 2) 0 0), none) cX12_isLike _ 0 0 0 [(0, .ref 86), (1, .int (nI a)), (2, .int (nI b)), (3, .int oc), (4, .int tc), (5, .int x), (6, .int y)] [] (n, fh g)
  refine xj_iconst (v := 0) (by decide) dX12_isLike_0 ?_
  refine xj_istore (i := 7) (lv1 := [(7, .int 0), (0, .ref 86), (1, .int (nI a)), (2, .int (nI b)), (3, .int oc), (4, .int tc), (5, .int x), (6, .int y)]) rfl (Nat.le_of_ble_eq_true rfl) dX12_isLike_1 ?_
  have key : ∀ i, i ≤ 16 → ∀ (_ : True), lkF (A 3 a) (A 3 b) oc tc x y = allF (lkB (A 3 a) (A 3 b) oc tc x y) (16 - i) i → xJ l (RX12, 12, (some .boolean), false, (xR (d + 2) 0 0), none) cX12_isLike (qP (bI (lkF (A 3 a) (A 3 b) oc tc x y = true)) (n, fh g)) 0 0 3 [(7, .int (nI i)), (0, .ref 86), (1, .int (nI a)), (2, .int (nI b)), (3, .int oc), (4, .int tc), (5, .int x), (6, .int y)] [] (n, fh g) := by
    refine x_loop 16 _ ?_ ?_
    · intro _ hz
      refine xj_iload (i := 7) 0 rfl dX12_isLike_3 ?_
      refine xj_bipush (v := 16) (by decide) dX12_isLike_5 ?_
      refine xj_icmp_ge (tgt := 123) (by decide) dX12_isLike_7 (fun zc7 => ?_) (fun zc7 => ?_)
      · refine xj_iconst (v := 1) (by decide) dX12_isLike_123 ?_
        exact xj_ireturn rfl nr_b1 (Nat.zero_le _) (Nat.zero_le _) dX12_isLike_124 (qP_e (bI_t (by rw [hz, Nat.sub_self]; rfl)).symm)
      · exact absurd (nI_le (Nat.le_refl _) (by decide)) zc7
    · intro i hi ih _ hz
      have hstep : allF (lkB (A 3 a) (A 3 b) oc tc x y) (16 - i) i = if (lkB (A 3 a) (A 3 b) oc tc x y) i = true then allF (lkB (A 3 a) (A 3 b) oc tc x y) (16 - (i + 1)) (i + 1) else false := by rw [show 16 - i = 16 - (i + 1) + 1 by omega]; rfl
      refine xj_iload (i := 7) 0 rfl dX12_isLike_3 ?_
      refine xj_bipush (v := 16) (by decide) dX12_isLike_5 ?_
      refine xj_icmp_ge (tgt := 123) (by decide) dX12_isLike_7 (fun zc7 => ?_) (fun zc7 => ?_)
      · exact absurd zc7 (nI_ge hi (by decide))
      · refine xj_iload (i := 7) 0 rfl dX12_isLike_10 ?_
        refine xj_iconst (v := 4) (by decide) dX12_isLike_12 ?_
        refine xj_irem (by decide) dX12_isLike_13 ?_
        refine xj_top (show ((nI i) - (nI i) / 4 * 4) = nI (i % 4) from (nI_rem4 hi)) ?_
        refine xj_iload (i := 5) 6 rfl dX12_isLike_14 ?_
        refine xj_iadd dX12_isLike_16 ?_
        refine xj_topi (fun zv1 ezv1 => ?_)
        refine xj_istore (i := 8) (lv1 := [(8, .int zv1), (7, .int (nI i)), (0, .ref 86), (1, .int (nI a)), (2, .int (nI b)), (3, .int oc), (4, .int tc), (5, .int x), (6, .int y)]) rfl (Nat.le_of_ble_eq_true rfl) dX12_isLike_17 ?_
        refine xj_iload (i := 7) 1 rfl dX12_isLike_19 ?_
        refine xj_iconst (v := 4) (by decide) dX12_isLike_21 ?_
        refine xj_idiv (by decide) dX12_isLike_22 ?_
        refine xj_top (show ((nI i) / 4) = nI (i / 4) from (nI_div4 hi)) ?_
        refine xj_iload (i := 6) 8 rfl dX12_isLike_23 ?_
        refine xj_iadd dX12_isLike_25 ?_
        refine xj_topi (fun zv2 ezv2 => ?_)
        refine xj_istore (i := 9) (lv1 := [(9, .int zv2), (8, .int zv1), (7, .int (nI i)), (0, .ref 86), (1, .int (nI a)), (2, .int (nI b)), (3, .int oc), (4, .int tc), (5, .int x), (6, .int y)]) rfl (Nat.le_of_ble_eq_true rfl) dX12_isLike_26 ?_
        refine xj_iload (i := 8) 1 rfl dX12_isLike_28 ?_
        refine xj_iconst (v := 0) (by decide) dX12_isLike_30 ?_
        refine xj_iconst (v := 3) (by decide) dX12_isLike_31 ?_
        refine xj_callS ks_X12_93 (c_X12_in l (d + 1) zv1 0 3 _) (As := [.int zv1, .int 0, .int 3]) (st := []) rfl rfl (xRm_of (by omega) (by decide) (by omega) (by omega)) (Nat.le_of_ble_eq_true rfl) dX12_isLike_32 (yk_p (kc := 0) (ks := 0) ?_)
        refine xj_if_eq (tgt := 117) (by decide) dX12_isLike_35 (fun zc35 => ?_) (fun zc35 => ?_)
        · have hob : (lkB (A 3 a) (A 3 b) oc tc x y) i = true := decide_eq_true (fun y => bI_0.mp zc35 (by rw [ezv1]; exact y.1.1))
          refine xj_iinc (n := 1) (i := 7) (v := nI (i + 1)) (lv1 := [(7, .int (nI (i + 1))), (9, .int zv2), (8, .int zv1), (0, .ref 86), (1, .int (nI a)), (2, .int (nI b)), (3, .int oc), (4, .int tc), (5, .int x), (6, .int y)]) 2 rfl (nI_1 i) rfl (Nat.le_of_ble_eq_true rfl) dX12_isLike_117 ?_
          refine xj_goto (tgt := 3) (by decide) dX12_isLike_120 ?_
          refine xj_sub (lv' := [(7, .int (nI (i + 1))), (0, .ref 86), (1, .int (nI a)), (2, .int (nI b)), (3, .int oc), (4, .int tc), (5, .int x), (6, .int y)]) [0, 3, 4, 5, 6, 7, 8, 9] rfl ?_
          exact ih True.intro (by rw [hz, hstep, if_pos hob])
        · have h35 := bI_n0.mp zc35
          refine xj_iload (i := 9) 0 rfl dX12_isLike_38 ?_
          refine xj_iconst (v := 0) (by decide) dX12_isLike_40 ?_
          refine xj_iconst (v := 3) (by decide) dX12_isLike_41 ?_
          refine xj_callS ks_X12_93 (c_X12_in l (d + 1) zv2 0 3 _) (As := [.int zv2, .int 0, .int 3]) (st := []) rfl rfl (xRm_of (by omega) (by decide) (by omega) (by omega)) (Nat.le_of_ble_eq_true rfl) dX12_isLike_42 (yk_p (kc := 0) (ks := 0) ?_)
          refine xj_if_eq (tgt := 117) (by decide) dX12_isLike_45 (fun zc45 => ?_) (fun zc45 => ?_)
          · have hob : (lkB (A 3 a) (A 3 b) oc tc x y) i = true := decide_eq_true (fun y => bI_0.mp zc45 (by rw [ezv2]; exact y.1.2))
            refine xj_iinc (n := 1) (i := 7) (v := nI (i + 1)) (lv1 := [(7, .int (nI (i + 1))), (9, .int zv2), (8, .int zv1), (0, .ref 86), (1, .int (nI a)), (2, .int (nI b)), (3, .int oc), (4, .int tc), (5, .int x), (6, .int y)]) 2 rfl (nI_1 i) rfl (Nat.le_of_ble_eq_true rfl) dX12_isLike_117 ?_
            refine xj_goto (tgt := 3) (by decide) dX12_isLike_120 ?_
            refine xj_sub (lv' := [(7, .int (nI (i + 1))), (0, .ref 86), (1, .int (nI a)), (2, .int (nI b)), (3, .int oc), (4, .int tc), (5, .int x), (6, .int y)]) [0, 3, 4, 5, 6, 7, 8, 9] rfl ?_
            exact ih True.intro (by rw [hz, hstep, if_pos hob])
          · have h45 := bI_n0.mp zc45
            refine xj_iload (i := 4) 7 rfl dX12_isLike_48 ?_
            refine xj_iload (i := 7) 2 rfl dX12_isLike_50 ?_
            refine xj_ishr dX12_isLike_52 ?_
            refine xj_iconst (v := 1) (by decide) dX12_isLike_53 ?_
            refine xj_iand dX12_isLike_54 ?_
            refine xj_iconst (v := 1) (by decide) dX12_isLike_55 ?_
            refine xj_icmp_ne (tgt := 117) (by decide) dX12_isLike_56 (fun zc56 => ?_) (fun zc56 => ?_)
            · have hob : (lkB (A 3 a) (A 3 b) oc tc x y) i = true := decide_eq_true (fun y => zc56 (of_decide_eq_true y.2.1))
              refine xj_iinc (n := 1) (i := 7) (v := nI (i + 1)) (lv1 := [(7, .int (nI (i + 1))), (9, .int zv2), (8, .int zv1), (0, .ref 86), (1, .int (nI a)), (2, .int (nI b)), (3, .int oc), (4, .int tc), (5, .int x), (6, .int y)]) 2 rfl (nI_1 i) rfl (Nat.le_of_ble_eq_true rfl) dX12_isLike_117 ?_
              refine xj_goto (tgt := 3) (by decide) dX12_isLike_120 ?_
              refine xj_sub (lv' := [(7, .int (nI (i + 1))), (0, .ref 86), (1, .int (nI a)), (2, .int (nI b)), (3, .int oc), (4, .int tc), (5, .int x), (6, .int y)]) [0, 3, 4, 5, 6, 7, 8, 9] rfl ?_
              exact ih True.intro (by rw [hz, hstep, if_pos hob])
            · have h56 : hasF tc (nI i) = true := decide_eq_true zc56
              refine xj_iconst (v := 4) (by decide) dX12_isLike_59 ?_
              refine xj_iload (i := 9) 0 rfl dX12_isLike_60 ?_
              refine xj_imul dX12_isLike_62 ?_
              refine xj_iload (i := 8) 1 rfl dX12_isLike_63 ?_
              refine xj_iadd dX12_isLike_65 ?_
              refine xj_topi (fun zv3 ezv3 => ?_)
              refine xj_istore (i := 10) (lv1 := [(10, .int zv3), (9, .int zv2), (8, .int zv1), (7, .int (nI i)), (0, .ref 86), (1, .int (nI a)), (2, .int (nI b)), (3, .int oc), (4, .int tc), (5, .int x), (6, .int y)]) rfl (Nat.le_of_ble_eq_true rfl) dX12_isLike_66 ?_
              refine xj_iload_n (n := 3) (i := 3) 7 rfl rfl dX12_isLike_68 ?_
              refine xj_iload (i := 10) 0 rfl dX12_isLike_69 ?_
              refine xj_ishr dX12_isLike_71 ?_
              refine xj_iconst (v := 1) (by decide) dX12_isLike_72 ?_
              refine xj_iand dX12_isLike_73 ?_
              refine xj_iconst (v := 1) (by decide) dX12_isLike_74 ?_
              refine xj_icmp_ne (tgt := 82) (by decide) dX12_isLike_75 (fun zc75 => ?_) (fun zc75 => ?_)
              · have hw9 : zv3 = 4 * (nI (i / 4) + y) + (nI (i % 4) + x) := by rw [ezv3, ezv2, ezv1]
                have hob : (lkB (A 3 a) (A 3 b) oc tc x y) i = true := decide_eq_true (fun y => zc75 (by rw [hw9]; exact of_decide_eq_true y.2.2.1))
                refine xj_iconst (v := 0) (by decide) dX12_isLike_82 ?_
                refine xj_istore (i := 11) (lv1 := [(11, .int 0), (10, .int zv3), (9, .int zv2), (8, .int zv1), (7, .int (nI i)), (0, .ref 86), (1, .int (nI a)), (2, .int (nI b)), (3, .int oc), (4, .int tc), (5, .int x), (6, .int y)]) rfl (Nat.le_of_ble_eq_true rfl) dX12_isLike_83 ?_
                refine xj_iload (i := 11) 0 rfl dX12_isLike_85 ?_
                refine xj_if_eq (tgt := 117) (by decide) dX12_isLike_87 (fun zc87 => ?_) (fun zc87 => ?_)
                · refine xj_iinc (n := 1) (i := 7) (v := nI (i + 1)) (lv1 := [(7, .int (nI (i + 1))), (11, .int 0), (10, .int zv3), (9, .int zv2), (8, .int zv1), (0, .ref 86), (1, .int (nI a)), (2, .int (nI b)), (3, .int oc), (4, .int tc), (5, .int x), (6, .int y)]) 4 rfl (nI_1 i) rfl (Nat.le_of_ble_eq_true rfl) dX12_isLike_117 ?_
                  refine xj_goto (tgt := 3) (by decide) dX12_isLike_120 ?_
                  refine xj_sub (lv' := [(7, .int (nI (i + 1))), (0, .ref 86), (1, .int (nI a)), (2, .int (nI b)), (3, .int oc), (4, .int tc), (5, .int x), (6, .int y)]) [0, 5, 6, 7, 8, 9, 10, 11] rfl ?_
                  exact ih True.intro (by rw [hz, hstep, if_pos hob])
                · exact absurd rfl zc87
              · have hw9 : zv3 = 4 * (nI (i / 4) + y) + (nI (i % 4) + x) := by rw [ezv3, ezv2, ezv1]
                have h75 : hasF oc zv3 = true := decide_eq_true zc75
                refine xj_iconst (v := 1) (by decide) dX12_isLike_78 ?_
                refine xj_goto (tgt := 83) (by decide) dX12_isLike_79 ?_
                refine xj_istore (i := 11) (lv1 := [(11, .int 1), (10, .int zv3), (9, .int zv2), (8, .int zv1), (7, .int (nI i)), (0, .ref 86), (1, .int (nI a)), (2, .int (nI b)), (3, .int oc), (4, .int tc), (5, .int x), (6, .int y)]) rfl (Nat.le_of_ble_eq_true rfl) dX12_isLike_83 ?_
                refine xj_iload (i := 11) 0 rfl dX12_isLike_85 ?_
                refine xj_if_eq (tgt := 117) (by decide) dX12_isLike_87 (fun zc87 => ?_) (fun zc87 => ?_)
                · exact absurd zc87 (by decide)
                · refine xj_aload_n (n := 0) (i := 0) 5 rfl rfl dX12_isLike_90 ?_
                  refine yj_getf (v := .ref 90) fl_X12_19_12 (by omega) (fq_86 g) rfl dX12_isLike_91 ?_
                  refine xj_iload_n (n := 1) (i := 1) 6 rfl rfl dX12_isLike_94 ?_
                  refine yj_ialdN a (by omega) fA_90 rfl (by omega) (by decide) dX12_isLike_95 ?_
                  refine xj_top (C.pi ha) ?_
                  refine xj_iload (i := 10) 1 rfl dX12_isLike_96 ?_
                  refine xj_ishr dX12_isLike_98 ?_
                  refine xj_iconst (v := 1) (by decide) dX12_isLike_99 ?_
                  refine xj_iand dX12_isLike_100 ?_
                  refine xj_aload_n (n := 0) (i := 0) 5 rfl rfl dX12_isLike_101 ?_
                  refine yj_getf (v := .ref 90) fl_X12_19_12 (by omega) (fq_86 g) rfl dX12_isLike_102 ?_
                  refine xj_iload_n (n := 2) (i := 2) 7 rfl rfl dX12_isLike_105 ?_
                  refine yj_ialdN b (by omega) fA_90 rfl (by omega) (by decide) dX12_isLike_106 ?_
                  refine xj_top (C.pi hb) ?_
                  refine xj_iload (i := 7) 4 rfl dX12_isLike_107 ?_
                  refine xj_ishr dX12_isLike_109 ?_
                  refine xj_iconst (v := 1) (by decide) dX12_isLike_110 ?_
                  refine xj_iand dX12_isLike_111 ?_
                  refine xj_icmp_eq (tgt := 117) (by decide) dX12_isLike_112 (fun zc112 => ?_) (fun zc112 => ?_)
                  · rw [bit_b, bit_b] at zc112
                    have hob : (lkB (A 3 a) (A 3 b) oc tc x y) i = true := decide_eq_true (fun y => y.2.2.2 (by rw [← hw9]; exact zc112.symm))
                    refine xj_iinc (n := 1) (i := 7) (v := nI (i + 1)) (lv1 := [(7, .int (nI (i + 1))), (11, .int 1), (10, .int zv3), (9, .int zv2), (8, .int zv1), (0, .ref 86), (1, .int (nI a)), (2, .int (nI b)), (3, .int oc), (4, .int tc), (5, .int x), (6, .int y)]) 4 rfl (nI_1 i) rfl (Nat.le_of_ble_eq_true rfl) dX12_isLike_117 ?_
                    refine xj_goto (tgt := 3) (by decide) dX12_isLike_120 ?_
                    refine xj_sub (lv' := [(7, .int (nI (i + 1))), (0, .ref 86), (1, .int (nI a)), (2, .int (nI b)), (3, .int oc), (4, .int tc), (5, .int x), (6, .int y)]) [0, 5, 6, 7, 8, 9, 10, 11] rfl ?_
                    exact ih True.intro (by rw [hz, hstep, if_pos hob])
                  · rw [bit_b, bit_b] at zc112
                    have hob : ¬ (lkB (A 3 a) (A 3 b) oc tc x y) i = true := fun y => of_decide_eq_true y ⟨⟨by rw [← ezv1]; exact h35, by rw [← ezv2]; exact h45⟩, h56, by rw [← hw9]; exact h75, by rw [← hw9]; exact fun e => zc112 e.symm⟩
                    refine xj_iconst (v := 0) (by decide) dX12_isLike_115 ?_
                    exact xj_ireturn rfl nr_b0 (Nat.zero_le _) (Nat.zero_le _) dX12_isLike_116 (qP_e (bI_f (fun z => by rw [hz, hstep, if_neg hob] at z; exact absurd z (by decide))).symm)
  refine xj_sub (lv' := [(7, .int 0), (0, .ref 86), (1, .int (nI a)), (2, .int (nI b)), (3, .int oc), (4, .int tc), (5, .int x), (6, .int y)]) [0, 1, 2, 3, 4, 5, 6, 7] rfl ?_
  exact key 0 (Nat.zero_le _) True.intro rfl
set_option maxHeartbeats 4000000 in
set_option maxRecDepth 100000 in
theorem c_X12_isUnder (l : Launch) (d : Nat) (k o : Int32) (h : xH)  : xC l yX12_isUnder cX12_isUnder 2 (some .boolean) (xR (d + 0) 0 0) [.int k, .int o] h (qP (bI (o = 0 ∨ k = o ∨ (o = 1 ∧ k = 3) ∨ (o = 2 ∧ k = 4))) h) := by
  refine xC_of false (by decide +kernel) (fun z => by cases z) (Nat.le_of_ble_eq_true rfl) ?_
  show xJ l (RX12, 2, (some .boolean), false, (xR (d + 0) 0 0), none) cX12_isUnder _ 0 0 0 [(0, .int k), (1, .int o)] [] h
  refine xj_iload_n (n := 1) (i := 1) 1 rfl rfl dX12_isUnder_0 ?_
  refine xj_if_eq (tgt := 29) (by decide) dX12_isUnder_1 (fun zc1 => ?_) (fun zc1 => ?_)
  · refine xj_iconst (v := 1) (by decide) dX12_isUnder_29 ?_
    refine xj_goto (tgt := 34) (by decide) dX12_isUnder_30 ?_
    exact xj_ireturn rfl nr_b1 (Nat.zero_le _) (Nat.zero_le _) dX12_isUnder_34 (qP_e (by unfold bI; split <;> first | rfl | (exfalso; simp_all; done)))
  · refine xj_iload_n (n := 0) (i := 0) 0 rfl rfl dX12_isUnder_4 ?_
    refine xj_iload_n (n := 1) (i := 1) 1 rfl rfl dX12_isUnder_5 ?_
    refine xj_icmp_eq (tgt := 29) (by decide) dX12_isUnder_6 (fun zc6 => ?_) (fun zc6 => ?_)
    · refine xj_iconst (v := 1) (by decide) dX12_isUnder_29 ?_
      refine xj_goto (tgt := 34) (by decide) dX12_isUnder_30 ?_
      exact xj_ireturn rfl nr_b1 (Nat.zero_le _) (Nat.zero_le _) dX12_isUnder_34 (qP_e (by unfold bI; split <;> first | rfl | (exfalso; simp_all; done)))
    · refine xj_iload_n (n := 1) (i := 1) 1 rfl rfl dX12_isUnder_9 ?_
      refine xj_iconst (v := 1) (by decide) dX12_isUnder_10 ?_
      refine xj_icmp_ne (tgt := 19) (by decide) dX12_isUnder_11 (fun zc11 => ?_) (fun zc11 => ?_)
      · refine xj_iload_n (n := 1) (i := 1) 1 rfl rfl dX12_isUnder_19 ?_
        refine xj_iconst (v := 2) (by decide) dX12_isUnder_20 ?_
        refine xj_icmp_ne (tgt := 33) (by decide) dX12_isUnder_21 (fun zc21 => ?_) (fun zc21 => ?_)
        · refine xj_iconst (v := 0) (by decide) dX12_isUnder_33 ?_
          exact xj_ireturn rfl nr_b0 (Nat.zero_le _) (Nat.zero_le _) dX12_isUnder_34 (qP_e (by unfold bI; split <;> first | rfl | (exfalso; simp_all; done)))
        · refine xj_iload_n (n := 0) (i := 0) 0 rfl rfl dX12_isUnder_24 ?_
          refine xj_iconst (v := 4) (by decide) dX12_isUnder_25 ?_
          refine xj_icmp_ne (tgt := 33) (by decide) dX12_isUnder_26 (fun zc26 => ?_) (fun zc26 => ?_)
          · refine xj_iconst (v := 0) (by decide) dX12_isUnder_33 ?_
            exact xj_ireturn rfl nr_b0 (Nat.zero_le _) (Nat.zero_le _) dX12_isUnder_34 (qP_e (by unfold bI; split <;> first | rfl | (exfalso; simp_all; done)))
          · refine xj_iconst (v := 1) (by decide) dX12_isUnder_29 ?_
            refine xj_goto (tgt := 34) (by decide) dX12_isUnder_30 ?_
            exact xj_ireturn rfl nr_b1 (Nat.zero_le _) (Nat.zero_le _) dX12_isUnder_34 (qP_e (by unfold bI; split <;> first | rfl | (exfalso; simp_all; done)))
      · refine xj_iload_n (n := 0) (i := 0) 0 rfl rfl dX12_isUnder_14 ?_
        refine xj_iconst (v := 3) (by decide) dX12_isUnder_15 ?_
        refine xj_icmp_eq (tgt := 29) (by decide) dX12_isUnder_16 (fun zc16 => ?_) (fun zc16 => ?_)
        · refine xj_iconst (v := 1) (by decide) dX12_isUnder_29 ?_
          refine xj_goto (tgt := 34) (by decide) dX12_isUnder_30 ?_
          exact xj_ireturn rfl nr_b1 (Nat.zero_le _) (Nat.zero_le _) dX12_isUnder_34 (qP_e (by unfold bI; split <;> first | rfl | (exfalso; simp_all; done)))
        · refine xj_iload_n (n := 1) (i := 1) 1 rfl rfl dX12_isUnder_19 ?_
          refine xj_iconst (v := 2) (by decide) dX12_isUnder_20 ?_
          refine xj_icmp_ne (tgt := 33) (by decide) dX12_isUnder_21 (fun zc21 => ?_) (fun zc21 => ?_)
          · refine xj_iconst (v := 0) (by decide) dX12_isUnder_33 ?_
            exact xj_ireturn rfl nr_b0 (Nat.zero_le _) (Nat.zero_le _) dX12_isUnder_34 (qP_e (by unfold bI; split <;> first | rfl | (exfalso; simp_all; done)))
          · refine xj_iload_n (n := 0) (i := 0) 0 rfl rfl dX12_isUnder_24 ?_
            refine xj_iconst (v := 4) (by decide) dX12_isUnder_25 ?_
            refine xj_icmp_ne (tgt := 33) (by decide) dX12_isUnder_26 (fun zc26 => ?_) (fun zc26 => ?_)
            · refine xj_iconst (v := 0) (by decide) dX12_isUnder_33 ?_
              exact xj_ireturn rfl nr_b0 (Nat.zero_le _) (Nat.zero_le _) dX12_isUnder_34 (qP_e (by unfold bI; split <;> first | rfl | (exfalso; simp_all; done)))
            · refine xj_iconst (v := 1) (by decide) dX12_isUnder_29 ?_
              refine xj_goto (tgt := 34) (by decide) dX12_isUnder_30 ?_
              exact xj_ireturn rfl nr_b1 (Nat.zero_le _) (Nat.zero_le _) dX12_isUnder_34 (qP_e (by unfold bI; split <;> first | rfl | (exfalso; simp_all; done)))
set_option maxHeartbeats 4000000 in
set_option maxRecDepth 100000 in
theorem c_X12_taken (l : Launch) (d : Nat) (n : Nat) (hn : 110 ≤ n) (g : xG) (A : zSt) (Λ : Nat → xL) (O : okA A) (C : mA g A Λ) (i kind : Int32)  : xC l yX12_taken cX12_taken 3 (some .int) (xR (d + 2) 0 0) [.ref 86, .int i, .int kind] (n, fh g) (qI n fun v g1 => v = vTaken A i kind ∧ fr sN g g1) := by
  refine xC_of false (by decide +kernel) (fun z => by cases z) (Nat.le_of_ble_eq_true rfl) ?_
  have hS6 := O.1.2
  have hW := O.W
  have hT6 := O.2.2.2.1.2.2
  have hN9 := O.2.1.2
  show xJ l (RX12, 3, (some .int), false, (xR (d + 2) 0 0), none) cX12_taken _ 0 0 0 [(0, .ref 86), (1, .int i), (2, .int kind)] [] (n, fh g)
  refine xj_iload_n (n := 2) (i := 2) 2 rfl rfl dX12_taken_0 ?_
  refine xj_iconst (v := 0) (by decide) dX12_taken_1 ?_
  refine xj_bipush (v := 6) (by decide) dX12_taken_2 ?_
  refine xj_callS ks_X12_93 (c_X12_in l (d + 1) kind 0 6 _) (As := [.int kind, .int 0, .int 6]) (st := []) rfl rfl (xRm_of (by omega) (by decide) (by omega) (by omega)) (Nat.le_of_ble_eq_true rfl) dX12_taken_4 (yk_p (kc := 0) (ks := 0) ?_)
  refine xj_if_ne (tgt := 13) (by decide) dX12_taken_7 (fun zc7 => ?_) (fun zc7 => ?_)
  · have zp7 : 0 ≤ kind ∧ kind ≤ 6 := bI_n0.mp zc7
    obtain ⟨kkind, hkkind, rfl⟩ := nI_bnd (m := 6) (by decide) zp7.1 zp7.2
    refine xj_iload_n (n := 1) (i := 1) 1 rfl rfl dX12_taken_13 ?_
    refine xj_iconst (v := 0) (by decide) dX12_taken_14 ?_
    refine xj_bipush (v := 11) (by decide) dX12_taken_15 ?_
    refine xj_callS ks_X12_93 (c_X12_in l (d + 1) i 0 11 _) (As := [.int i, .int 0, .int 11]) (st := []) rfl rfl (xRm_of (by omega) (by decide) (by omega) (by omega)) (Nat.le_of_ble_eq_true rfl) dX12_taken_17 (yk_p (kc := 0) (ks := 0) ?_)
    refine xj_if_ne (tgt := 26) (by decide) dX12_taken_20 (fun zc20 => ?_) (fun zc20 => ?_)
    · have zp20 : 0 ≤ i ∧ i ≤ 11 := bI_n0.mp zc20
      obtain ⟨ki, hki, rfl⟩ := nI_bnd (m := 11) (by decide) zp20.1 zp20.2
      refine xj_iload_n (n := 1) (i := 1) 1 rfl rfl dX12_taken_26 ?_
      refine xj_bipush (v := 6) (by decide) dX12_taken_27 ?_
      refine xj_irem (by decide) dX12_taken_29 ?_
      refine xj_top (show ((nI ki) - (nI ki) / 6 * 6) = nI (ki % 6) from (pk_rem (a := ki) (d := 6) (by omega) (by omega) (by omega))) ?_
      refine xj_aload_n (n := 0) (i := 0) 0 rfl rfl dX12_taken_30 ?_
      refine yj_getf (v := .int (nI (aS A))) fl_X12_90_12 (by omega) (fq_86 g) (congrArg (fun z => some (Value.int z)) (C.S O)) dX12_taken_31 ?_
      refine xj_icmp_lt (tgt := 40) (by decide) dX12_taken_34 (fun zc34 => ?_) (fun zc34 => ?_)
      · have hi6 : ki % 6 < aS A := (nI_ltI (by omega) (by omega)).mp zc34
        have hsl : isSl A (nI (ki % 6)) := isSl_k O hi6
        refine xj_iload_n (n := 1) (i := 1) 1 rfl rfl dX12_taken_40 ?_
        refine xj_bipush (v := 6) (by decide) dX12_taken_41 ?_
        refine xj_icmp_lt (tgt := 67) (by decide) dX12_taken_43 (fun zc43 => ?_) (fun zc43 => ?_)
        · have hlt : ki < 6 := (nI_ltI (b := 6) (by omega) (by decide)).mp zc43
          have his : ki < aS A := by rw [Nat.mod_eq_of_lt hlt] at hi6; exact hi6
          have hk6 := O.k6 his
          refine xj_iload_n (n := 2) (i := 2) 2 rfl rfl dX12_taken_67 ?_
          refine xj_bipush (v := 6) (by decide) dX12_taken_68 ?_
          refine xj_icmp_ge (tgt := 90) (by decide) dX12_taken_70 (fun zc70 => ?_) (fun zc70 => ?_)
          · have hk66 : kkind = 6 := by have h := (nI_leI (a := 6) (by decide) (by omega)).mp zc70; omega
            have hno : ¬ ofK (aK A ki) (nI kkind) = true := by rw [hk66, ofK_6 hk6]; decide
            refine xj_bipush (v := (-13)) (by decide) dX12_taken_90 ?_
            exact xj_ireturn rfl (nr_i _) (Nat.zero_le _) (Nat.zero_le _) dX12_taken_92 (qI_e ⟨by unfold vTaken; (try simp only [nI_clamp (show kkind < 2147483648 by omega), nI_clamp (show ki < 2147483648 by omega)]); rw [if_pos zp7, if_pos zp20, if_pos hsl, if_pos zc43, if_neg hno]; all_goals (rfl), fr.rf⟩)
          · have hk66 : kkind < 6 := Nat.lt_of_not_le (fun z => zc70 (nI_le (a := 6) z (by omega)))
            refine xj_aload_n (n := 0) (i := 0) 0 rfl rfl dX12_taken_73 ?_
            refine yj_getf (v := .ref 87) fl_X12_7_12 (by omega) (fq_86 g) rfl dX12_taken_74 ?_
            refine xj_iload_n (n := 1) (i := 1) 1 rfl rfl dX12_taken_77 ?_
            refine yj_ialdN ki (by omega) fA_87 rfl (by omega) (by decide) dX12_taken_78 ?_
            refine xj_top (C.k O his) ?_
            refine xj_iload_n (n := 2) (i := 2) 2 rfl rfl dX12_taken_79 ?_
            refine xj_callS ks_X12_292 (c_X12_isUnder l (d + 1) (nI (aK A ki)) (nI kkind) _) (As := [.int (nI (aK A ki)), .int (nI kkind)]) (st := []) rfl rfl (xRm_of (by omega) (by decide) (by omega) (by omega)) (Nat.le_of_ble_eq_true rfl) dX12_taken_80 (yk_p (kc := 0) (ks := 0) ?_)
            refine xj_if_eq (tgt := 90) (by decide) dX12_taken_83 (fun zc83 => ?_) (fun zc83 => ?_)
            · have zp83 : ¬ ((nI kkind) = 0 ∨ (nI (aK A ki)) = (nI kkind) ∨ ((nI kkind) = 1 ∧ (nI (aK A ki)) = 3) ∨ ((nI kkind) = 2 ∧ (nI (aK A ki)) = 4)) := bI_0.mp zc83
              have hno : ¬ ofK (aK A ki) (nI kkind) = true := fun z => bI_0.mp zc83 ((ofK_u hk6 hk66).mpr z)
              refine xj_bipush (v := (-13)) (by decide) dX12_taken_90 ?_
              exact xj_ireturn rfl (nr_i _) (Nat.zero_le _) (Nat.zero_le _) dX12_taken_92 (qI_e ⟨by unfold vTaken; (try simp only [nI_clamp (show kkind < 2147483648 by omega), nI_clamp (show ki < 2147483648 by omega)]); rw [if_pos zp7, if_pos zp20, if_pos hsl, if_pos zc43, if_neg hno]; all_goals (rfl), fr.rf⟩)
            · have zp83 : (nI kkind) = 0 ∨ (nI (aK A ki)) = (nI kkind) ∨ ((nI kkind) = 1 ∧ (nI (aK A ki)) = 3) ∨ ((nI kkind) = 2 ∧ (nI (aK A ki)) = 4) := bI_n0.mp zc83
              have hyes : ofK (aK A ki) (nI kkind) = true := (ofK_u hk6 hk66).mp (bI_n0.mp zc83)
              refine xj_iload_n (n := 1) (i := 1) 1 rfl rfl dX12_taken_86 ?_
              refine xj_goto (tgt := 92) (by decide) dX12_taken_87 ?_
              exact xj_ireturn rfl (nr_i _) (Nat.zero_le _) (Nat.zero_le _) dX12_taken_92 (qI_e ⟨by unfold vTaken; (try simp only [nI_clamp (show kkind < 2147483648 by omega), nI_clamp (show ki < 2147483648 by omega)]); rw [if_pos zp7, if_pos zp20, if_pos hsl, if_pos zc43, if_pos hyes]; all_goals (rfl), fr.rf⟩)
        · have hge : 6 ≤ ki := Nat.le_of_not_lt (fun z => zc43 (nI_lt z (by decide)))
          have e6 : ki % 6 = ki - 6 := by omega
          have his : ki - 6 < aS A := e6 ▸ hi6
          refine xj_iload_n (n := 2) (i := 2) 2 rfl rfl dX12_taken_46 ?_
          refine xj_bipush (v := 6) (by decide) dX12_taken_47 ?_
          refine xj_icmp_ne (tgt := 64) (by decide) dX12_taken_49 (fun zc49 => ?_) (fun zc49 => ?_)
          · refine xj_bipush (v := (-13)) (by decide) dX12_taken_64 ?_
            exact xj_ireturn rfl (nr_i _) (Nat.zero_le _) (Nat.zero_le _) dX12_taken_66 (qI_e ⟨by unfold vTaken; (try simp only [nI_clamp (show kkind < 2147483648 by omega), nI_clamp (show ki < 2147483648 by omega)]); rw [if_pos zp7, if_pos zp20, if_pos hsl, if_neg zc43, if_neg zc49]; all_goals (rfl), fr.rf⟩)
          · refine xj_aload_n (n := 0) (i := 0) 0 rfl rfl dX12_taken_52 ?_
            refine yj_getf (v := .ref 90) fl_X12_19_12 (by omega) (fq_86 g) rfl dX12_taken_53 ?_
            refine xj_iload_n (n := 1) (i := 1) 1 rfl rfl dX12_taken_56 ?_
            refine xj_bipush (v := 6) (by decide) dX12_taken_57 ?_
            refine xj_isub dX12_taken_59 ?_
            refine yj_ialdN (ki - 6) (by omega) fA_90 (pk_sub (a := ki) (b := 6) hge) (by omega) (by decide) dX12_taken_60 ?_
            refine xj_top (C.pi his) ?_
            refine xj_goto (tgt := 66) (by decide) dX12_taken_61 ?_
            exact xj_ireturn rfl (nr_i _) (Nat.zero_le _) (Nat.zero_le _) dX12_taken_66 (qI_e ⟨by unfold vTaken; (try simp only [nI_clamp (show kkind < 2147483648 by omega), nI_clamp (show ki < 2147483648 by omega)]); rw [if_pos zp7, if_pos zp20, if_pos hsl, if_neg zc43, if_pos zc49]; all_goals (rfl), fr.rf⟩)
      · have hsl : ¬ isSl A (nI (ki % 6)) := fun z => by obtain ⟨y, hy, ey⟩ := isSl_of O z; exact zc34 (by rw [ey]; exact nI_lt hy (by omega))
        refine xj_bipush (v := (-11)) (by decide) dX12_taken_37 ?_
        exact xj_ireturn rfl (nr_i _) (Nat.zero_le _) (Nat.zero_le _) dX12_taken_39 (qI_e ⟨by unfold vTaken; (try simp only [nI_clamp (show kkind < 2147483648 by omega), nI_clamp (show ki < 2147483648 by omega)]); rw [if_pos zp7, if_pos zp20, if_neg hsl]; all_goals (rfl), fr.rf⟩)
    · have zp20 : ¬ (0 ≤ i ∧ i ≤ 11) := bI_0.mp zc20
      refine xj_bipush (v := (-12)) (by decide) dX12_taken_23 ?_
      exact xj_ireturn rfl (nr_i _) (Nat.zero_le _) (Nat.zero_le _) dX12_taken_25 (qI_e ⟨by unfold vTaken; (try simp only [nI_clamp (show kkind < 2147483648 by omega)]); rw [if_pos zp7, if_neg zp20]; all_goals (rfl), fr.rf⟩)
  · have zp7 : ¬ (0 ≤ kind ∧ kind ≤ 6) := bI_0.mp zc7
    refine xj_bipush (v := (-2)) (by decide) dX12_taken_10 ?_
    exact xj_ireturn rfl (nr_i _) (Nat.zero_le _) (Nat.zero_le _) dX12_taken_12 (qI_e ⟨by unfold vTaken; rw [if_neg zp7]; all_goals (rfl), fr.rf⟩)
