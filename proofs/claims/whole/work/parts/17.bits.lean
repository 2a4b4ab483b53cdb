theorem nI_and (a b : Nat) : nI a &&& nI b = nI (a &&& b) := by
  apply Int32.toBitVec_inj.mp
  show BitVec.ofInt 32 a &&& BitVec.ofInt 32 b = BitVec.ofInt 32 ((a &&& b : Nat) : Int)
  simp only [BitVec.ofInt_natCast]
  exact BitVec.ofNat_and.symm
def bcA (m : Nat) : Nat := m - (m / 2 &&& 1431655765)
def bcB (m : Nat) : Nat := (m &&& 858993459) + (m / 4 &&& 858993459)
def bcC (m : Nat) : Nat := (m + m / 16) &&& 252645135
def bcD (m : Nat) : Nat := m + m / 256
def bcE (m : Nat) : Nat := m + m / 65536
def bcF (m : Nat) : Nat := bcE (bcD (bcC (bcB (bcA m)))) &&& 63
def onN : Nat → Nat → Nat
  | 0, _ => 0
  | c + 1, m => onN c m + m / 2 ^ c % 2
def bcR (m : Nat) : Nat := (fun a => (fun b => (fun c => (fun d => Nat.land (Nat.add d (Nat.div d 65536)) 63) (Nat.add c (Nat.div c 256))) (Nat.land (Nat.add b (Nat.div b 16)) 252645135)) (Nat.add (Nat.land a 858993459) (Nat.land (Nat.div a 4) 858993459))) (Nat.sub m (Nat.land (Nat.div m 2) 1431655765))
theorem bcR_eq (m : Nat) : bcR m = bcF m := rfl
noncomputable def bcK (k : Nat) : Nat → Nat → Bool := Nat.rec (motive := fun _ => Nat → Nat → Bool) (fun m c => Nat.beq (bcR m) c) (fun k ih m c => and (ih m c) (ih (Nat.add m (Nat.pow 2 k)) (Nat.succ c))) k
theorem onN_hi (k c r : Nat) (h : c ≤ k) : onN c (2 ^ k + r) = onN c r := by
  induction c with
  | zero => rfl
  | succ c ih =>
    have e : (2 ^ k + r) / 2 ^ c % 2 = r / 2 ^ c % 2 := by
      obtain ⟨j, rfl⟩ : ∃ j, k = c + 1 + j := ⟨k - (c + 1), by omega⟩
      rw [show 2 ^ (c + 1 + j) + r = r + 2 ^ c * (2 * 2 ^ j) by rw [Nat.pow_add, Nat.pow_succ, Nat.mul_assoc]; omega, Nat.add_mul_div_left _ _ (Nat.two_pow_pos c)]
      omega
    show onN c (2 ^ k + r) + _ = onN c r + _
    rw [ih (by omega), e]
theorem bcK_ok : ∀ (k m c : Nat), bcK k m c = true → ∀ r, r < 2 ^ k → bcF (m + r) = c + onN k r
  | 0, m, c, h, r, hr => by
    have h0 : r = 0 := by omega
    subst h0
    have h2 := Nat.eq_of_beq_eq_true (show Nat.beq (bcR m) c = true from h)
    rw [bcR_eq] at h2
    exact h2
  | k + 1, m, c, h, r, hr => by
    have h1 : (bcK k m c && bcK k (m + 2 ^ k) (c + 1)) = true := h
    rw [Bool.and_eq_true] at h1
    by_cases hlt : r < 2 ^ k
    · rw [bcK_ok k m c h1.1 r hlt]
      show _ = c + (onN k r + r / 2 ^ k % 2)
      rw [Nat.div_eq_of_lt hlt]
      omega
    · obtain ⟨r', rfl⟩ : ∃ r', r = 2 ^ k + r' := ⟨r - 2 ^ k, by omega⟩
      have hr' : r' < 2 ^ k := by rw [Nat.pow_succ] at hr; omega
      have h3 := bcK_ok k (m + 2 ^ k) (c + 1) h1.2 r' hr'
      rw [← Nat.add_assoc, h3]
      show _ = c + (onN k (2 ^ k + r') + (2 ^ k + r') / 2 ^ k % 2)
      rw [onN_hi k k r' (Nat.le_refl k), show (2 ^ k + r') / 2 ^ k = 1 by rw [Nat.add_div_left _ (Nat.two_pow_pos k), Nat.div_eq_of_lt hr']]
      omega
theorem bcK_0 : bcK 12 0 0 = true := by decide +kernel
theorem bcK_1 : bcK 12 4096 1 = true := by decide +kernel
theorem bcK_2 : bcK 12 8192 1 = true := by decide +kernel
theorem bcK_3 : bcK 12 12288 2 = true := by decide +kernel
theorem bcK_4 : bcK 12 16384 1 = true := by decide +kernel
theorem bcK_5 : bcK 12 20480 2 = true := by decide +kernel
theorem bcK_6 : bcK 12 24576 2 = true := by decide +kernel
theorem bcK_7 : bcK 12 28672 3 = true := by decide +kernel
theorem bcK_8 : bcK 12 32768 1 = true := by decide +kernel
theorem bcK_9 : bcK 12 36864 2 = true := by decide +kernel
theorem bcK_10 : bcK 12 40960 2 = true := by decide +kernel
theorem bcK_11 : bcK 12 45056 3 = true := by decide +kernel
theorem bcK_12 : bcK 12 49152 2 = true := by decide +kernel
theorem bcK_13 : bcK 12 53248 3 = true := by decide +kernel
theorem bcK_14 : bcK 12 57344 3 = true := by decide +kernel
theorem bcK_15 : bcK 12 61440 4 = true := by decide +kernel
theorem onN_top (i r : Nat) (hr : r < 4096) (hi : i < 16) : onN 16 (4096 * i + r) = (i % 2 + i / 2 % 2 + i / 4 % 2 + i / 8 % 2) + onN 12 r := by
  have e : onN 12 (4096 * i + r) = onN 12 r := by
    have hc : ∀ c, c ≤ 12 → onN c (4096 * i + r) = onN c r := by
      intro c
      induction c with
      | zero => intro _; rfl
      | succ c ih =>
        intro h
        show onN c (4096 * i + r) + _ = onN c r + _
        rw [ih (by omega)]
        have e1 : (4096 * i + r) / 2 ^ c % 2 = r / 2 ^ c % 2 := by
          obtain ⟨j, hj⟩ : ∃ j, 12 = c + 1 + j := ⟨12 - (c + 1), by omega⟩
          have e2 : (4096 : Nat) = 2 ^ c * (2 * 2 ^ j) := by
            rw [show (4096 : Nat) = 2 ^ 12 from rfl, hj, Nat.pow_add, Nat.pow_succ, Nat.mul_assoc]
          rw [e2, show 2 ^ c * (2 * 2 ^ j) * i + r = r + 2 ^ c * (2 * (2 ^ j * i)) by rw [Nat.mul_assoc, Nat.mul_assoc]; omega, Nat.add_mul_div_left _ _ (Nat.two_pow_pos c)]
          omega
        rw [e1]
    exact hc 12 (Nat.le_refl _)
  show onN 12 (4096 * i + r) + (4096 * i + r) / 4096 % 2 + (4096 * i + r) / 8192 % 2 + (4096 * i + r) / 16384 % 2 + (4096 * i + r) / 32768 % 2 = _
  rw [e]
  omega
theorem bc_ok {m : Nat} (h : m < 65536) : bcF m = onN 16 m := by
  obtain ⟨i, r, hi, hr, rfl⟩ : ∃ i r, i < 16 ∧ r < 4096 ∧ m = 4096 * i + r := ⟨m / 4096, m % 4096, by omega, by omega, by omega⟩
  rw [onN_top i r hr hi]
  rcases (show i = 0 ∨ i = 1 ∨ i = 2 ∨ i = 3 ∨ i = 4 ∨ i = 5 ∨ i = 6 ∨ i = 7 ∨ i = 8 ∨ i = 9 ∨ i = 10 ∨ i = 11 ∨ i = 12 ∨ i = 13 ∨ i = 14 ∨ i = 15 by omega) with rfl | rfl | rfl | rfl | rfl | rfl | rfl | rfl | rfl | rfl | rfl | rfl | rfl | rfl | rfl | rfl
  · exact bcK_ok 12 0 0 bcK_0 r hr
  · exact bcK_ok 12 4096 1 bcK_1 r hr
  · exact bcK_ok 12 8192 1 bcK_2 r hr
  · exact bcK_ok 12 12288 2 bcK_3 r hr
  · exact bcK_ok 12 16384 1 bcK_4 r hr
  · exact bcK_ok 12 20480 2 bcK_5 r hr
  · exact bcK_ok 12 24576 2 bcK_6 r hr
  · exact bcK_ok 12 28672 3 bcK_7 r hr
  · exact bcK_ok 12 32768 1 bcK_8 r hr
  · exact bcK_ok 12 36864 2 bcK_9 r hr
  · exact bcK_ok 12 40960 2 bcK_10 r hr
  · exact bcK_ok 12 45056 3 bcK_11 r hr
  · exact bcK_ok 12 49152 2 bcK_12 r hr
  · exact bcK_ok 12 53248 3 bcK_13 r hr
  · exact bcK_ok 12 57344 3 bcK_14 r hr
  · exact bcK_ok 12 61440 4 bcK_15 r hr
theorem bc_1 {m : Nat} (h : m < 2 ^ 31) : nI m - (((nI m).toUInt32 >>> ((1 : Int32).toUInt32 &&& Int32.toUInt32 31)).toInt32 &&& 1431655765) = nI (bcA m) := by
  rw [pk_ushrN (by omega) 1 1 (by decide)]
  have e : (1431655765 : Int32) = nI 1431655765 := rfl
  rw [e, nI_and, pk_sub]
  · rfl
  · exact Nat.le_trans Nat.and_le_left (Nat.div_le_self _ _)
theorem bc_2 {m : Nat} (h : m < 2 ^ 31) : (nI m &&& 858993459) + (((nI m).toUInt32 >>> ((2 : Int32).toUInt32 &&& Int32.toUInt32 31)).toInt32 &&& 858993459) = nI (bcB m) := by
  rw [pk_ushrN (by omega) 2 2 (by decide)]
  have e : (858993459 : Int32) = nI 858993459 := rfl
  rw [e, nI_and, nI_and, nI_add]
  rfl
theorem bc_3 {m : Nat} (h : m < 2 ^ 31) : (nI m + ((nI m).toUInt32 >>> ((4 : Int32).toUInt32 &&& Int32.toUInt32 31)).toInt32) &&& 252645135 = nI (bcC m) := by
  rw [pk_ushrN (by omega) 4 4 (by decide)]
  have e : (252645135 : Int32) = nI 252645135 := rfl
  rw [e, nI_add, nI_and]
  rfl
theorem bc_4 {m : Nat} (h : m < 2 ^ 31) : nI m + ((nI m).toUInt32 >>> ((8 : Int32).toUInt32 &&& Int32.toUInt32 31)).toInt32 = nI (bcD m) := by
  rw [pk_ushrN (by omega) 8 8 (by decide), nI_add]
  rfl
theorem bc_5 {m : Nat} (h : m < 2 ^ 31) : nI m + ((nI m).toUInt32 >>> ((16 : Int32).toUInt32 &&& Int32.toUInt32 31)).toInt32 = nI (bcE m) := by
  rw [pk_ushrN (by omega) 16 16 (by decide), nI_add]
  rfl
theorem bcB_lt {m : Nat} (h : m < 2 ^ 16) : bcB m < 2 ^ 17 := by
  have h1 : m &&& 858993459 ≤ m := Nat.and_le_left
  have h2 : m / 4 &&& 858993459 ≤ m / 4 := Nat.and_le_left
  unfold bcB
  omega
theorem bcC_lt {m : Nat} (h : m < 2 ^ 17) : bcC m < 2 ^ 18 := by
  have h1 : (m + m / 16) &&& 252645135 ≤ m + m / 16 := Nat.and_le_left
  unfold bcC
  omega
theorem bcD_lt {m : Nat} (h : m < 2 ^ 18) : bcD m < 2 ^ 19 := by unfold bcD; omega
theorem bcA_lt {m : Nat} (h : m < 2 ^ 16) : bcA m < 2 ^ 16 := by unfold bcA; omega
/-- how many of the lowest 16 bits are set -/
def onesF (x : Int32) : Int32 := sumF (fun c => (x >>> (nI c &&& 31)) &&& 1) 16
theorem nI_c31 {c : Nat} (h : c < 32) : nI c &&& 31 = nI c := by
  have e := pk_andN (n := c) (by omega) (m := 31) 5 (by decide)
  rw [e, Nat.mod_eq_of_lt (by omega)]
theorem nI_smod {c : Nat} (h : c < 32) : ((nI c).toBitVec.smod 32).toNat = c := by
  have h1 : ∀ c, c < 32 → ((nI c).toBitVec.smod 32).toNat = c := by decide +kernel
  exact h1 c h
theorem bit_nI {m c : Nat} (hm : m < 2 ^ 31) (hc : c < 32) : (nI m >>> (nI c &&& 31)) &&& 1 = nI (m / 2 ^ c % 2) := by
  rw [nI_c31 hc, pk_shrN hm (nI c) c (nI_smod hc), pk_andN (n := m / 2 ^ c) (Nat.lt_of_le_of_lt (Nat.div_le_self _ _) (by omega)) (m := 1) 1 (by decide)]
theorem ones_nI {m : Nat} (hm : m < 2 ^ 31) : ∀ n, n ≤ 16 → sumF (fun c => (nI m >>> (nI c &&& 31)) &&& 1) n = nI (onN n m)
  | 0, _ => rfl
  | n + 1, h => by
    unfold sumF onN
    rw [ones_nI hm n (by omega), bit_nI hm (by omega), nI_add]
theorem bc_ones {m : Nat} (h : m < 65536) : nI (bcF m) = onesF (nI m) := by
  rw [bc_ok h]
  exact (ones_nI (by omega) 16 (by omega)).symm
set_option maxHeartbeats 4000000 in
set_option maxRecDepth 100000 in
theorem c_J6_bitCount_0f7a4 (l : Launch) (d : Nat) (m : Nat) (hm : m < 65536) (h : xH)  : xC l yJ6_bitCount_0f7a4 cJ6_bitCount_0f7a4 1 (some .int) (xR (d + 0) 0 0) [.int (nI m)] h (qP (onesF (nI m)) h) := by
  refine xC_of false (by decide +kernel) (fun z => by cases z) (Nat.le_of_ble_eq_true rfl) ?_
  show xJ l (RJ6, 1, (some .int), false, (xR (d + 0) 0 0), none) cJ6_bitCount_0f7a4 _ 0 0 0 [(0, .int (nI m))] [] h
  refine xj_iload_n (n := 0) (i := 0) 0 rfl rfl dJ6_bitCount_0f7a4_0 ?_
  refine xj_iload_n (n := 0) (i := 0) 0 rfl rfl dJ6_bitCount_0f7a4_1 ?_
  refine xj_iconst (v := 1) (by decide) dJ6_bitCount_0f7a4_2 ?_
  refine xj_iushr dJ6_bitCount_0f7a4_3 ?_
  refine xj_ldcw cn_J6_265 dJ6_bitCount_0f7a4_4 ?_
  refine xj_iand dJ6_bitCount_0f7a4_7 ?_
  refine xj_isub dJ6_bitCount_0f7a4_8 ?_
  refine xj_topi (fun zv1 ezv1 => ?_)
  refine xj_istore_n (n := 0) (i := 0) (lv1 := [(0, .int zv1)]) rfl rfl (Nat.le_of_ble_eq_true rfl) dJ6_bitCount_0f7a4_9 ?_
  refine xj_iload_n (n := 0) (i := 0) 0 rfl rfl dJ6_bitCount_0f7a4_10 ?_
  refine xj_ldcw cn_J6_266 dJ6_bitCount_0f7a4_11 ?_
  refine xj_iand dJ6_bitCount_0f7a4_14 ?_
  refine xj_iload_n (n := 0) (i := 0) 0 rfl rfl dJ6_bitCount_0f7a4_15 ?_
  refine xj_iconst (v := 2) (by decide) dJ6_bitCount_0f7a4_16 ?_
  refine xj_iushr dJ6_bitCount_0f7a4_17 ?_
  refine xj_ldcw cn_J6_266 dJ6_bitCount_0f7a4_18 ?_
  refine xj_iand dJ6_bitCount_0f7a4_21 ?_
  refine xj_iadd dJ6_bitCount_0f7a4_22 ?_
  refine xj_topi (fun zv2 ezv2 => ?_)
  refine xj_istore_n (n := 0) (i := 0) (lv1 := [(0, .int zv2)]) rfl rfl (Nat.le_of_ble_eq_true rfl) dJ6_bitCount_0f7a4_23 ?_
  refine xj_iload_n (n := 0) (i := 0) 0 rfl rfl dJ6_bitCount_0f7a4_24 ?_
  refine xj_iload_n (n := 0) (i := 0) 0 rfl rfl dJ6_bitCount_0f7a4_25 ?_
  refine xj_iconst (v := 4) (by decide) dJ6_bitCount_0f7a4_26 ?_
  refine xj_iushr dJ6_bitCount_0f7a4_27 ?_
  refine xj_iadd dJ6_bitCount_0f7a4_28 ?_
  refine xj_ldcw cn_J6_267 dJ6_bitCount_0f7a4_29 ?_
  refine xj_iand dJ6_bitCount_0f7a4_32 ?_
  refine xj_topi (fun zv3 ezv3 => ?_)
  refine xj_istore_n (n := 0) (i := 0) (lv1 := [(0, .int zv3)]) rfl rfl (Nat.le_of_ble_eq_true rfl) dJ6_bitCount_0f7a4_33 ?_
  refine xj_iload_n (n := 0) (i := 0) 0 rfl rfl dJ6_bitCount_0f7a4_34 ?_
  refine xj_iload_n (n := 0) (i := 0) 0 rfl rfl dJ6_bitCount_0f7a4_35 ?_
  refine xj_bipush (v := 8) (by decide) dJ6_bitCount_0f7a4_36 ?_
  refine xj_iushr dJ6_bitCount_0f7a4_38 ?_
  refine xj_iadd dJ6_bitCount_0f7a4_39 ?_
  refine xj_topi (fun zv4 ezv4 => ?_)
  refine xj_istore_n (n := 0) (i := 0) (lv1 := [(0, .int zv4)]) rfl rfl (Nat.le_of_ble_eq_true rfl) dJ6_bitCount_0f7a4_40 ?_
  refine xj_iload_n (n := 0) (i := 0) 0 rfl rfl dJ6_bitCount_0f7a4_41 ?_
  refine xj_iload_n (n := 0) (i := 0) 0 rfl rfl dJ6_bitCount_0f7a4_42 ?_
  refine xj_bipush (v := 16) (by decide) dJ6_bitCount_0f7a4_43 ?_
  refine xj_iushr dJ6_bitCount_0f7a4_45 ?_
  refine xj_iadd dJ6_bitCount_0f7a4_46 ?_
  refine xj_topi (fun zv5 ezv5 => ?_)
  refine xj_istore_n (n := 0) (i := 0) (lv1 := [(0, .int zv5)]) rfl rfl (Nat.le_of_ble_eq_true rfl) dJ6_bitCount_0f7a4_47 ?_
  refine xj_iload_n (n := 0) (i := 0) 0 rfl rfl dJ6_bitCount_0f7a4_48 ?_
  refine xj_bipush (v := 63) (by decide) dJ6_bitCount_0f7a4_49 ?_
  refine xj_iand dJ6_bitCount_0f7a4_51 ?_
  have w1 : zv1 = nI (bcA m) := ezv1.trans (bc_1 (by omega))
  have l1 := bcA_lt (m := m) hm
  have w2 : zv2 = nI (bcB (bcA m)) := by rw [ezv2, w1]; exact bc_2 (by omega)
  have l2 := bcB_lt l1
  have w3 : zv3 = nI (bcC (bcB (bcA m))) := by rw [ezv3, w2]; exact bc_3 (by omega)
  have l3 := bcC_lt l2
  have w4 : zv4 = nI (bcD (bcC (bcB (bcA m)))) := by rw [ezv4, w3]; exact bc_4 (by omega)
  have l4 := bcD_lt l3
  have w5 : zv5 = nI (bcE (bcD (bcC (bcB (bcA m))))) := by rw [ezv5, w4]; exact bc_5 (by omega)
  have w6 : zv5 &&& 63 = onesF (nI m) := by rw [w5, show (63 : Int32) = nI 63 from rfl, nI_and]; exact bc_ones hm
  exact xj_ireturn rfl (nr_i _) (Nat.zero_le _) (Nat.zero_le _) dJ6_bitCount_0f7a4_52 (qP_e w6)
