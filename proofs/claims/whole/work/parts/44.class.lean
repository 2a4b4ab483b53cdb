abbrev hoP (z : Nat) (a b : Int32) : Prop := 0 ≤ a ∧ 0 ≤ b ∧ a ≤ nI z ∧ b ≤ nI z - a
theorem ho_n {z : Nat} (hz : z ≤ 40) {a b : Int32} (h : hoP z a b) : ∃ i k, a = nI i ∧ b = nI k ∧ i + k ≤ z := by
  obtain ⟨h1, h2, h3, h4⟩ := h
  obtain ⟨i, hi, rfl⟩ := nI_bnd (M := nI z) (m := z) (nI_toInt (by omega)) h1 h3
  rw [pk_sub hi] at h4
  obtain ⟨k, hk, rfl⟩ := nI_bnd (M := nI (z - i)) (m := z - i) (nI_toInt (by omega)) h2 h4
  exact ⟨i, k, rfl, rfl, by omega⟩
theorem cpy_congr {f f' g g' : Nat → Int32} {a b k : Nat} (h1 : ∀ x, x < 40 → f x = f' x) (h2 : ∀ x, x < 40 → g x = g' x) (h : a + k ≤ 40) (j : Nat) (hj : j < 40) : va_cpy f g a b k j = va_cpy f' g' a b k j := by
  unfold va_cpy
  by_cases e : b ≤ j ∧ j < b + k
  · rw [if_pos e, if_pos e]
    exact h1 _ (by omega)
  · rw [if_neg e, if_neg e]
    exact h2 _ hj
def rCopy (A : zSt) (q i o j n : Int32) : Int32 × zSt := if 0 ≤ q ∧ q ≤ 3 then if 0 ≤ o ∧ o ≤ 3 then if A 5 q.toNatClampNeg = -1 then (-11, A) else if A 5 o.toNatClampNeg = -1 then (-11, A) else if A 5 q.toNatClampNeg = A 5 o.toNatClampNeg then if hoP (aQ A q.toNatClampNeg) i n then if hoP (aQ A o.toNatClampNeg) j n then (n, stQ A o.toNatClampNeg (A 5 o.toNatClampNeg) (A 6 o.toNatClampNeg) (va_cpy (A (40 + q.toNatClampNeg)) (A (40 + o.toNatClampNeg)) i.toNatClampNeg j.toNatClampNeg n.toNatClampNeg)) else (-12, A) else (-12, A) else (-13, A) else (-2, A) else (-2, A)
/-- sleepers by a sheet, three by three -/
def sbyF (q : Nat) (x : Nat → Int32) (z : Nat) (fr : Int32) : Nat → Nat → Int32 → zSt → Int32 × zSt
  | 0, _, m, A => (m, A)
  | k + 1, i, m, A => if hoP z (fr + 3 * nI i) 3 then sbyF q x z fr k (i + 1) (if (rSleeper A (x (fr + 3 * nI i).toNatClampNeg) (x ((fr + 3 * nI i).toNatClampNeg + 1)) (x ((fr + 3 * nI i).toNatClampNeg + 2))).1 < 0 then m else m + 1) (rSleeper A (x (fr + 3 * nI i).toNatClampNeg) (x ((fr + 3 * nI i).toNatClampNeg + 1)) (x ((fr + 3 * nI i).toNatClampNeg + 2))).2 else (-12, A)
def rSlBy (A : zSt) (q sort fr n : Int32) : Int32 × zSt := if 0 ≤ q ∧ q ≤ 3 then if 0 ≤ sort ∧ sort ≤ 2 then if 0 ≤ n ∧ n ≤ 6 then if A 5 q.toNatClampNeg = -1 then (-11, A) else if A 5 q.toNatClampNeg = sort then sbyF q.toNatClampNeg (A (40 + q.toNatClampNeg)) (aQ A q.toNatClampNeg) fr n.toNatClampNeg 0 0 A else (-13, A) else (-2, A) else (-2, A) else (-2, A)
theorem rSl_ok {A : zSt} (O : okA A) (km pic dl : Int32) : okA (rSleeper A km pic dl).2 := by
  unfold rSleeper
  by_cases h1 : 0 ≤ km ∧ km ≤ 59
  · rw [if_pos h1]
    by_cases h2 : 0 ≤ pic ∧ pic ≤ 65535
    · rw [if_pos h2]
      by_cases h3 : 0 ≤ dl ∧ dl ≤ 99
      · rw [if_pos h3]
        by_cases h4 : nI (aS A) < 6
        · rw [if_pos h4]
          obtain ⟨k, hk, rfl⟩ := nI_bnd (m := 59) (by decide) h1.1 h1.2
          obtain ⟨p, hp, rfl⟩ := nI_bnd (m := 65535) (by decide) h2.1 h2.2
          obtain ⟨d, hd, rfl⟩ := nI_bnd (m := 99) (by decide) h3.1 h3.2
          rw [nI_clamp (by omega)]
          exact O.slp ((nI_ltI (b := 6) (by have := O.1.2; omega) (by decide)).mp h4) ⟨_, by omega, rfl⟩ ⟨_, by omega, rfl⟩ ⟨_, hp, rfl⟩ ⟨_, hd, rfl⟩
        · rw [if_neg h4]; exact O
      · rw [if_neg h3]; exact O
    · rw [if_neg h2]; exact O
  · rw [if_neg h1]; exact O
theorem rSl_n {A : zSt} (O : okA A) (km pic dl : Int32) {q : Nat} (h : 4 ≤ q ∧ q < 10 ∨ 16 ≤ q) : (rSleeper A km pic dl).2 q = A q := by
  have hS := O.1.2
  unfold rSleeper
  split
  · split
    · split
      · split
        · rename_i h4
          have h6 : aS A < 6 := (nI_ltI (b := 6) (by omega) (by decide)).mp h4
          show stSl A _ _ _ _ q = A q
          unfold stSl
          rw [if_neg (by omega), if_neg (by omega), if_neg (by omega), if_neg (by omega), if_neg (by omega)]
        · rfl
      · rfl
    · rfl
  · rfl
theorem sby_use {g1 : xG} {n : Nat} {A A1 : zSt} {Λ : Nat → xL} {q : Nat} (hq : q < 4) (C1 : cA g1 n A1 Λ) (O1 : okA A1) (e : ∀ j, 4 ≤ j ∧ j < 10 ∨ 16 ≤ j → A1 j = A j) : g1 (72 + 2 * q) 1 = nI (aQ A q) ∧ ∀ j, j < 40 → g1 (72 + 2 * q + 1) j = A (40 + q) j := by
  refine ⟨?_, fun j hj => ?_⟩
  · rw [C1.qz O1 hq]
    unfold aQ
    rw [e 6 (by omega)]
  · rw [C1.qn hq hj, e (40 + q) (by omega)]
set_option maxHeartbeats 4000000 in
set_option maxRecDepth 100000 in
theorem c_X11_copy (l : Launch) (d : Nat) (n : Nat) (g : xG) (A : zSt) (Λ : Nat → xL) (O : okA A) (C : cA g n A Λ) (q i1 o j1 n1 : Int32)  : xC l yX11_copy cX11_copy 8 (some .int) (xR (d + 2) 0 0) [.ref 0, .int q, .int i1, .int o, .int j1, .int n1] (n, fh g) (qI n fun v g1 => v = (rCopy A q i1 o j1 n1).1 ∧ cA g1 n (rCopy A q i1 o j1 n1).2 Λ ∧ fr cX g g1) := by
  refine xC_of false (by decide +kernel) (fun z => by cases z) (Nat.le_of_ble_eq_true rfl) ?_
  have hn := C.n110 O
  have hS6 := O.1.2
  have hW := O.W
  have hT6 := O.2.2.2.1.2.2
  have hN9 := O.2.1.2
  show xJ l (RX11, 8, (some .int), false, (xR (d + 2) 0 0), none) cX11_copy _ 0 0 0 [(0, .ref 0), (1, .int q), (2, .int i1), (3, .int o), (4, .int j1), (5, .int n1)] [] (n, fh g)
  refine xj_iload_n (n := 1) (i := 1) 1 rfl rfl dX11_copy_0 ?_
  refine xj_callS ks_X11_230 (c_X11_isSheet l (d + 0) q _) (As := [.int q]) (st := []) rfl rfl (xRm_of (by omega) (by decide) (by omega) (by omega)) (Nat.le_of_ble_eq_true rfl) dX11_copy_1 (yk_p (kc := 0) (ks := 0) ?_)
  refine xj_if_eq (tgt := 14) (by decide) dX11_copy_4 (fun zc4 => ?_) (fun zc4 => ?_)
  · have zp4 : ¬ (0 ≤ q ∧ q ≤ 3) := bI_0.mp zc4
    refine xj_bipush (v := (-2)) (by decide) dX11_copy_14 ?_
    have er : rCopy A q i1 o j1 n1 = ((-2), A) := by unfold rCopy; rw [if_neg zp4]; all_goals (rfl)
    exact xj_ireturn rfl (nr_i _) (Nat.zero_le _) (Nat.zero_le _) dX11_copy_16 (qI_e (by rw [er]; exact ⟨rfl, C, fr.rf⟩))
  · have zp4 : 0 ≤ q ∧ q ≤ 3 := bI_n0.mp zc4
    obtain ⟨kq, hkq, rfl⟩ := nI_bnd (m := 3) (by decide) zp4.1 zp4.2
    have hk4_kq : kq < 4 := by omega
    refine xj_iload_n (n := 3) (i := 3) 3 rfl rfl dX11_copy_7 ?_
    refine xj_callS ks_X11_230 (c_X11_isSheet l (d + 0) o _) (As := [.int o]) (st := []) rfl rfl (xRm_of (by omega) (by decide) (by omega) (by omega)) (Nat.le_of_ble_eq_true rfl) dX11_copy_8 (yk_p (kc := 0) (ks := 0) ?_)
    refine xj_if_ne (tgt := 17) (by decide) dX11_copy_11 (fun zc11 => ?_) (fun zc11 => ?_)
    · have zp11 : 0 ≤ o ∧ o ≤ 3 := bI_n0.mp zc11
      obtain ⟨ko, hko, rfl⟩ := nI_bnd (m := 3) (by decide) zp11.1 zp11.2
      have hk4_ko : ko < 4 := by omega
      refine xj_aload_n (n := 0) (i := 0) 0 rfl rfl dX11_copy_17 ?_
      refine yj_getf (v := .ref 71) fl_X11_69_11 (by omega) (fq_0 g) rfl dX11_copy_18 ?_
      refine xj_iload_n (n := 1) (i := 1) 1 rfl rfl dX11_copy_21 ?_
      refine yj_aaldN (m := 4) (a := 72 + 2 * kq) kq (by omega) (fq_71 g) (by decide) (by decide) rfl (by omega) (by decide) (if_pos (by omega)) dX11_copy_22 ?_
      refine xj_astore (i := 6) (lv1 := [(6, .ref (72 + 2 * kq)), (0, .ref 0), (1, .int (nI kq)), (2, .int i1), (3, .int (nI ko)), (4, .int j1), (5, .int n1)]) rfl (Nat.le_of_ble_eq_true rfl) dX11_copy_23 ?_
      refine xj_aload_n (n := 0) (i := 0) 1 rfl rfl dX11_copy_25 ?_
      refine yj_getf (v := .ref 71) fl_X11_69_11 (by omega) (fq_0 g) rfl dX11_copy_26 ?_
      refine xj_iload_n (n := 3) (i := 3) 4 rfl rfl dX11_copy_29 ?_
      refine yj_aaldN (m := 4) (a := 72 + 2 * ko) ko (by omega) (fq_71 g) (by decide) (by decide) rfl (by omega) (by decide) (if_pos (by omega)) dX11_copy_30 ?_
      refine xj_astore (i := 7) (lv1 := [(7, .ref (72 + 2 * ko)), (6, .ref (72 + 2 * kq)), (0, .ref 0), (1, .int (nI kq)), (2, .int i1), (3, .int (nI ko)), (4, .int j1), (5, .int n1)]) rfl (Nat.le_of_ble_eq_true rfl) dX11_copy_31 ?_
      refine xj_aload (i := 6) 1 rfl dX11_copy_33 ?_
      refine yj_getf (v := .int (A 5 kq)) fl_X11_255_8 (by omega) ((fSt_q hk4_kq).2.1 (g (72 + 2 * kq))) (congrArg (fun z => some (Value.int z)) (C.qs hk4_kq)) dX11_copy_35 ?_
      refine xj_iconst (v := (-1)) (by decide) dX11_copy_38 ?_
      refine xj_icmp_eq (tgt := 51) (by decide) dX11_copy_39 (fun zc39 => ?_) (fun zc39 => ?_)
      · refine xj_bipush (v := (-11)) (by decide) dX11_copy_51 ?_
        have er : rCopy A (nI kq) i1 (nI ko) j1 n1 = ((-11), A) := by unfold rCopy; (try simp only [nI_clamp (show kq < 2147483648 by omega), nI_clamp (show ko < 2147483648 by omega)]); rw [if_pos zp4, if_pos zp11, if_pos zc39]; all_goals (rfl)
        exact xj_ireturn rfl (nr_i _) (Nat.zero_le _) (Nat.zero_le _) dX11_copy_53 (qI_e (by rw [er]; exact ⟨rfl, C, fr.rf⟩))
      · refine xj_aload (i := 7) 0 rfl dX11_copy_42 ?_
        refine yj_getf (v := .int (A 5 ko)) fl_X11_255_8 (by omega) ((fSt_q hk4_ko).2.1 (g (72 + 2 * ko))) (congrArg (fun z => some (Value.int z)) (C.qs hk4_ko)) dX11_copy_44 ?_
        refine xj_iconst (v := (-1)) (by decide) dX11_copy_47 ?_
        refine xj_icmp_ne (tgt := 54) (by decide) dX11_copy_48 (fun zc48 => ?_) (fun zc48 => ?_)
        · refine xj_aload (i := 6) 1 rfl dX11_copy_54 ?_
          refine yj_getf (v := .int (A 5 kq)) fl_X11_255_8 (by omega) ((fSt_q hk4_kq).2.1 (g (72 + 2 * kq))) (congrArg (fun z => some (Value.int z)) (C.qs hk4_kq)) dX11_copy_56 ?_
          refine xj_aload (i := 7) 0 rfl dX11_copy_59 ?_
          refine yj_getf (v := .int (A 5 ko)) fl_X11_255_8 (by omega) ((fSt_q hk4_ko).2.1 (g (72 + 2 * ko))) (congrArg (fun z => some (Value.int z)) (C.qs hk4_ko)) dX11_copy_61 ?_
          refine xj_icmp_eq (tgt := 70) (by decide) dX11_copy_64 (fun zc64 => ?_) (fun zc64 => ?_)
          · refine xj_aload (i := 6) 1 rfl dX11_copy_70 ?_
            refine xj_iload_n (n := 2) (i := 2) 4 rfl rfl dX11_copy_72 ?_
            refine xj_iload (i := 5) 7 rfl dX11_copy_73 ?_
            refine xj_callV kv_X11_258 (c_X8_holds l (d + 1) n hn g (72 + 2 * kq) (fSt_q hk4_kq) (nI (aQ A kq)) i1 n1 (C.qz O hk4_kq)) (As := [.int i1, .int n1]) (st := []) (by omega) ((fSt_q hk4_kq).2.1 _) (ci := 8) rfl rfl rfl rfl (xRm_of (by omega) (by decide) (by omega) (by omega)) (Nat.le_of_ble_eq_true rfl) dX11_copy_75 (yk_p (kc := 0) (ks := 0) ?_)
            refine xj_if_eq (tgt := 93) (by decide) dX11_copy_78 (fun zc78 => ?_) (fun zc78 => ?_)
            · have zp78 : ¬ (hoP (aQ A kq) i1 n1) := bI_0.mp zc78
              refine xj_bipush (v := (-12)) (by decide) dX11_copy_93 ?_
              have er : rCopy A (nI kq) i1 (nI ko) j1 n1 = ((-12), A) := by unfold rCopy; (try simp only [nI_clamp (show kq < 2147483648 by omega), nI_clamp (show ko < 2147483648 by omega)]); rw [if_pos zp4, if_pos zp11, if_neg zc39, if_neg zc48, if_pos zc64, if_neg zp78]; all_goals (rfl)
              exact xj_ireturn rfl (nr_i _) (Nat.zero_le _) (Nat.zero_le _) dX11_copy_95 (qI_e (by rw [er]; exact ⟨rfl, C, fr.rf⟩))
            · have zp78 : hoP (aQ A kq) i1 n1 := bI_n0.mp zc78
              refine xj_aload (i := 7) 0 rfl dX11_copy_81 ?_
              refine xj_iload (i := 4) 6 rfl dX11_copy_83 ?_
              refine xj_iload (i := 5) 7 rfl dX11_copy_85 ?_
              refine xj_callV kv_X11_258 (c_X8_holds l (d + 1) n hn g (72 + 2 * ko) (fSt_q hk4_ko) (nI (aQ A ko)) j1 n1 (C.qz O hk4_ko)) (As := [.int j1, .int n1]) (st := []) (by omega) ((fSt_q hk4_ko).2.1 _) (ci := 8) rfl rfl rfl rfl (xRm_of (by omega) (by decide) (by omega) (by omega)) (Nat.le_of_ble_eq_true rfl) dX11_copy_87 (yk_p (kc := 0) (ks := 0) ?_)
              refine xj_if_ne (tgt := 96) (by decide) dX11_copy_90 (fun zc90 => ?_) (fun zc90 => ?_)
              · have zp90 : hoP (aQ A ko) j1 n1 := bI_n0.mp zc90
                have hzq := (O.2.2.2.2.2.2.2.2 kq hk4_kq).2.2
                have hzo := (O.2.2.2.2.2.2.2.2 ko hk4_ko).2.2
                obtain ⟨ki1, kn1, rfl, rfl, hin⟩ := ho_n hzq zp78
                obtain ⟨kj1, kn2, rfl, hn2, hjn⟩ := ho_n hzo zp90
                have hn3 : kn1 = kn2 := (nI_eq (by omega) (by omega)).mp hn2
                subst hn3
                refine xj_aload (i := 6) 1 rfl dX11_copy_96 ?_
                refine yj_getf (v := .ref ((72 + 2 * kq) + 1)) fl_X11_261_8 (by omega) ((fSt_q hk4_kq).2.1 (g (72 + 2 * kq))) rfl dX11_copy_98 ?_
                refine xj_iload_n (n := 2) (i := 2) 4 rfl rfl dX11_copy_101 ?_
                refine xj_aload (i := 7) 0 rfl dX11_copy_102 ?_
                refine yj_getf (v := .ref ((72 + 2 * ko) + 1)) fl_X11_261_8 (by omega) ((fSt_q hk4_ko).2.1 (g (72 + 2 * ko))) rfl dX11_copy_104 ?_
                refine xj_iload (i := 4) 6 rfl dX11_copy_107 ?_
                refine xj_iload (i := 5) 7 rfl dX11_copy_109 ?_
                refine yj_copy ki1 kj1 kn1 xw804 xwz_n xwz_s xwz_i (by omega) (fSt_q hk4_kq).2.2 (by omega) (fSt_q hk4_ko).2.2 rfl rfl rfl (by decide) (by decide) (by omega) (by omega) (Nat.le_of_ble_eq_true rfl) ⟨by show 1 ≤ d + 2; omega, by show 40 ≤ 40 * (d + 2); omega⟩ dX11_copy_111 ?_
                obtain ⟨zg1, ezg1⟩ : ∃ z, z = va_up g (72 + 2 * ko + 1) (va_cpy (g (72 + 2 * kq + 1)) (g (72 + 2 * ko + 1)) ki1 kj1 kn1) := ⟨_, rfl⟩
                rw [← ezg1]
                have hfu : fr (fun j => j = 72 + 2 * ko ∨ j = 72 + 2 * ko + 1) g zg1 := by rw [ezg1]; exact fun j hj => va_up_n _ _ (fun z => hj (Or.inr z))
                have hcq := C.2.2.2.2.2.2 kq hk4_kq
                have hco := C.2.2.2.2.2.2 ko hk4_ko
                refine xj_iload (i := 5) 7 rfl dX11_copy_114 ?_
                have er : rCopy A (nI kq) (nI ki1) (nI ko) (nI kj1) (nI kn1) = ((nI kn1), stQ A ko (A 5 ko) (A 6 ko) (va_cpy (A (40 + kq)) (A (40 + ko)) ki1 kj1 kn1)) := by unfold rCopy; (try simp only [nI_clamp (show kq < 2147483648 by omega), nI_clamp (show ko < 2147483648 by omega), nI_clamp (show ki1 < 2147483648 by omega), nI_clamp (show kj1 < 2147483648 by omega), nI_clamp (show kn1 < 2147483648 by omega)]); rw [if_pos zp4, if_pos zp11, if_neg zc39, if_neg zc48, if_pos zc64, if_pos zp78, if_pos zp90]; all_goals (rfl)
                exact xj_ireturn rfl (nr_i _) (Nat.zero_le _) (Nat.zero_le _) dX11_copy_116 (qI_e (by rw [er]; exact ⟨rfl, (C.sht O hk4_ko hfu (by rw [ezg1, va_up_n _ _ (by omega)]; exact hco.1) (by rw [ezg1, va_up_n _ _ (by omega)]; exact hco.2.1) (fun j hj => by rw [ezg1, va_up_s]; exact cpy_congr hcq.2.2 hco.2.2 (by omega) j hj)), (hfu.mono (fun j hj => cX_lt (by omega)))⟩))
              · have zp90 : ¬ (hoP (aQ A ko) j1 n1) := bI_0.mp zc90
                refine xj_bipush (v := (-12)) (by decide) dX11_copy_93 ?_
                have er : rCopy A (nI kq) i1 (nI ko) j1 n1 = ((-12), A) := by unfold rCopy; (try simp only [nI_clamp (show kq < 2147483648 by omega), nI_clamp (show ko < 2147483648 by omega)]); rw [if_pos zp4, if_pos zp11, if_neg zc39, if_neg zc48, if_pos zc64, if_pos zp78, if_neg zp90]; all_goals (rfl)
                exact xj_ireturn rfl (nr_i _) (Nat.zero_le _) (Nat.zero_le _) dX11_copy_95 (qI_e (by rw [er]; exact ⟨rfl, C, fr.rf⟩))
          · refine xj_bipush (v := (-13)) (by decide) dX11_copy_67 ?_
            have er : rCopy A (nI kq) i1 (nI ko) j1 n1 = ((-13), A) := by unfold rCopy; (try simp only [nI_clamp (show kq < 2147483648 by omega), nI_clamp (show ko < 2147483648 by omega)]); rw [if_pos zp4, if_pos zp11, if_neg zc39, if_neg zc48, if_neg zc64]; all_goals (rfl)
            exact xj_ireturn rfl (nr_i _) (Nat.zero_le _) (Nat.zero_le _) dX11_copy_69 (qI_e (by rw [er]; exact ⟨rfl, C, fr.rf⟩))
        · refine xj_bipush (v := (-11)) (by decide) dX11_copy_51 ?_
          have er : rCopy A (nI kq) i1 (nI ko) j1 n1 = ((-11), A) := by unfold rCopy; (try simp only [nI_clamp (show kq < 2147483648 by omega), nI_clamp (show ko < 2147483648 by omega)]); rw [if_pos zp4, if_pos zp11, if_neg zc39, if_pos zc48]; all_goals (rfl)
          exact xj_ireturn rfl (nr_i _) (Nat.zero_le _) (Nat.zero_le _) dX11_copy_53 (qI_e (by rw [er]; exact ⟨rfl, C, fr.rf⟩))
    · have zp11 : ¬ (0 ≤ o ∧ o ≤ 3) := bI_0.mp zc11
      refine xj_bipush (v := (-2)) (by decide) dX11_copy_14 ?_
      have er : rCopy A (nI kq) i1 o j1 n1 = ((-2), A) := by unfold rCopy; (try simp only [nI_clamp (show kq < 2147483648 by omega)]); rw [if_pos zp4, if_neg zp11]; all_goals (rfl)
      exact xj_ireturn rfl (nr_i _) (Nat.zero_le _) (Nat.zero_le _) dX11_copy_16 (qI_e (by rw [er]; exact ⟨rfl, C, fr.rf⟩))
set_option maxHeartbeats 4000000 in
set_option maxRecDepth 100000 in
theorem c_X11_sleepersBy (l : Launch) (d : Nat) (n : Nat) (g : xG) (A : zSt) (Λ : Nat → xL) (O : okA A) (C : cA g n A Λ) (q sort fr1 n1 : Int32)  : xC l yX11_sleepersBy cX11_sleepersBy 9 (some .int) (xR (d + 3) 0 0) [.ref 0, .int q, .int sort, .int fr1, .int n1] (n, fh g) (qI n fun v g1 => v = (rSlBy A q sort fr1 n1).1 ∧ cA g1 n (rSlBy A q sort fr1 n1).2 Λ ∧ fr cX g g1) := by
  refine xC_of false (by decide +kernel) (fun z => by cases z) (Nat.le_of_ble_eq_true rfl) ?_
  have hn := C.n110 O
  have hS6 := O.1.2
  have hW := O.W
  have hT6 := O.2.2.2.1.2.2
  have hN9 := O.2.1.2
  show xJ l (RX11, 9, (some .int), false, (xR (d + 3) 0 0), none) cX11_sleepersBy _ 0 0 0 [(0, .ref 0), (1, .int q), (2, .int sort), (3, .int fr1), (4, .int n1)] [] (n, fh g)
  refine xj_iload_n (n := 1) (i := 1) 1 rfl rfl dX11_sleepersBy_0 ?_
  refine xj_callS ks_X11_230 (c_X11_isSheet l (d + 1) q _) (As := [.int q]) (st := []) rfl rfl (xRm_of (by omega) (by decide) (by omega) (by omega)) (Nat.le_of_ble_eq_true rfl) dX11_sleepersBy_1 (yk_p (kc := 0) (ks := 0) ?_)
  refine xj_if_eq (tgt := 25) (by decide) dX11_sleepersBy_4 (fun zc4 => ?_) (fun zc4 => ?_)
  · have zp4 : ¬ (0 ≤ q ∧ q ≤ 3) := bI_0.mp zc4
    refine xj_bipush (v := (-2)) (by decide) dX11_sleepersBy_25 ?_
    have er : rSlBy A q sort fr1 n1 = ((-2), A) := by unfold rSlBy; rw [if_neg zp4]; all_goals (rfl)
    exact xj_ireturn rfl (nr_i _) (Nat.zero_le _) (Nat.zero_le _) dX11_sleepersBy_27 (qI_e (by rw [er]; exact ⟨rfl, C, fr.rf⟩))
  · have zp4 : 0 ≤ q ∧ q ≤ 3 := bI_n0.mp zc4
    obtain ⟨kq, hkq, rfl⟩ := nI_bnd (m := 3) (by decide) zp4.1 zp4.2
    have hk4_kq : kq < 4 := by omega
    refine xj_iload_n (n := 2) (i := 2) 2 rfl rfl dX11_sleepersBy_7 ?_
    refine xj_iconst (v := 2) (by decide) dX11_sleepersBy_8 ?_
    refine xj_callS ks_X11_107 (c_X11_within l (d + 2) sort 2 _) (As := [.int sort, .int 2]) (st := []) rfl rfl (xRm_of (by omega) (by decide) (by omega) (by omega)) (Nat.le_of_ble_eq_true rfl) dX11_sleepersBy_9 (yk_p (kc := 0) (ks := 0) ?_)
    refine xj_if_eq (tgt := 25) (by decide) dX11_sleepersBy_12 (fun zc12 => ?_) (fun zc12 => ?_)
    · have zp12 : ¬ (0 ≤ sort ∧ sort ≤ 2) := bI_0.mp zc12
      refine xj_bipush (v := (-2)) (by decide) dX11_sleepersBy_25 ?_
      have er : rSlBy A (nI kq) sort fr1 n1 = ((-2), A) := by unfold rSlBy; (try simp only [nI_clamp (show kq < 2147483648 by omega)]); rw [if_pos zp4, if_neg zp12]; all_goals (rfl)
      exact xj_ireturn rfl (nr_i _) (Nat.zero_le _) (Nat.zero_le _) dX11_sleepersBy_27 (qI_e (by rw [er]; exact ⟨rfl, C, fr.rf⟩))
    · have zp12 : 0 ≤ sort ∧ sort ≤ 2 := bI_n0.mp zc12
      refine xj_iload (i := 4) 4 rfl dX11_sleepersBy_15 ?_
      refine xj_bipush (v := 6) (by decide) dX11_sleepersBy_17 ?_
      refine xj_callS ks_X11_107 (c_X11_within l (d + 2) n1 6 _) (As := [.int n1, .int 6]) (st := []) rfl rfl (xRm_of (by omega) (by decide) (by omega) (by omega)) (Nat.le_of_ble_eq_true rfl) dX11_sleepersBy_19 (yk_p (kc := 0) (ks := 0) ?_)
      refine xj_if_ne (tgt := 28) (by decide) dX11_sleepersBy_22 (fun zc22 => ?_) (fun zc22 => ?_)
      · have zp22 : 0 ≤ n1 ∧ n1 ≤ 6 := bI_n0.mp zc22
        obtain ⟨kn1, hkn1, rfl⟩ := nI_bnd (m := 6) (by decide) zp22.1 zp22.2
        refine xj_aload_n (n := 0) (i := 0) 0 rfl rfl dX11_sleepersBy_28 ?_
        refine yj_getf (v := .ref 71) fl_X11_69_11 (by omega) (fq_0 g) rfl dX11_sleepersBy_29 ?_
        refine xj_iload_n (n := 1) (i := 1) 1 rfl rfl dX11_sleepersBy_32 ?_
        refine yj_aaldN (m := 4) (a := 72 + 2 * kq) kq (by omega) (fq_71 g) (by decide) (by decide) rfl (by omega) (by decide) (if_pos (by omega)) dX11_sleepersBy_33 ?_
        refine xj_astore (i := 5) (lv1 := [(5, .ref (72 + 2 * kq)), (0, .ref 0), (1, .int (nI kq)), (2, .int sort), (3, .int fr1), (4, .int (nI kn1))]) rfl (Nat.le_of_ble_eq_true rfl) dX11_sleepersBy_34 ?_
        refine xj_aload (i := 5) 0 rfl dX11_sleepersBy_36 ?_
        refine yj_getf (v := .int (A 5 kq)) fl_X11_255_8 (by omega) ((fSt_q hk4_kq).2.1 (g (72 + 2 * kq))) (congrArg (fun z => some (Value.int z)) (C.qs hk4_kq)) dX11_sleepersBy_38 ?_
        refine xj_iconst (v := (-1)) (by decide) dX11_sleepersBy_41 ?_
        refine xj_icmp_ne (tgt := 48) (by decide) dX11_sleepersBy_42 (fun zc42 => ?_) (fun zc42 => ?_)
        · refine xj_aload (i := 5) 0 rfl dX11_sleepersBy_48 ?_
          refine yj_getf (v := .int (A 5 kq)) fl_X11_255_8 (by omega) ((fSt_q hk4_kq).2.1 (g (72 + 2 * kq))) (congrArg (fun z => some (Value.int z)) (C.qs hk4_kq)) dX11_sleepersBy_50 ?_
          refine xj_iload_n (n := 2) (i := 2) 3 rfl rfl dX11_sleepersBy_53 ?_
          refine xj_icmp_eq (tgt := 60) (by decide) dX11_sleepersBy_54 (fun zc54 => ?_) (fun zc54 => ?_)
          · refine xj_iconst (v := 0) (by decide) dX11_sleepersBy_60 ?_
            refine xj_istore (i := 6) (lv1 := [(6, .int 0), (5, .ref (72 + 2 * kq)), (0, .ref 0), (1, .int (nI kq)), (2, .int sort), (3, .int fr1), (4, .int (nI kn1))]) rfl (Nat.le_of_ble_eq_true rfl) dX11_sleepersBy_61 ?_
            refine xj_iconst (v := 0) (by decide) dX11_sleepersBy_63 ?_
            refine xj_istore (i := 7) (lv1 := [(7, .int 0), (6, .int 0), (5, .ref (72 + 2 * kq)), (0, .ref 0), (1, .int (nI kq)), (2, .int sort), (3, .int fr1), (4, .int (nI kn1))]) rfl (Nat.le_of_ble_eq_true rfl) dX11_sleepersBy_64 ?_
            have htot : rSlBy A (nI kq) sort fr1 (nI kn1) = sbyF kq (A (40 + kq)) (aQ A kq) fr1 kn1 0 0 A := by unfold rSlBy; (try simp only [nI_clamp (show kq < 2147483648 by omega), nI_clamp (show kn1 < 2147483648 by omega)]); rw [if_pos zp4, if_pos zp12, if_pos zp22, if_neg zc42, if_pos zc54]; all_goals (rfl)
            have hzq := (O.2.2.2.2.2.2.2.2 kq hk4_kq).2.2
            have key : ∀ i, i ≤ kn1 → ∀ (g1 : xG) (zvm : Int32) (A1 : zSt), cA g1 n A1 Λ → okA A1 → (∀ j, 4 ≤ j ∧ j < 10 ∨ 16 ≤ j → A1 j = A j) → fr cX g g1 → sbyF kq (A (40 + kq)) (aQ A kq) fr1 (kn1 - i) i zvm A1 = sbyF kq (A (40 + kq)) (aQ A kq) fr1 kn1 0 0 A → xJ l (RX11, 9, (some .int), false, (xR (d + 3) 0 0), none) cX11_sleepersBy (qI n fun v g1 => v = (rSlBy A (nI kq) sort fr1 (nI kn1)).1 ∧ cA g1 n (rSlBy A (nI kq) sort fr1 (nI kn1)).2 Λ ∧ fr cX g g1) 0 0 66 [(7, .int (nI i)), (6, .int zvm), (5, .ref (72 + 2 * kq)), (0, .ref 0), (1, .int (nI kq)), (2, .int sort), (3, .int fr1), (4, .int (nI kn1))] [] (n, fh g1) := by
              refine x_loop kn1 _ ?_ ?_
              · intro g1 zvm A1 C1 O1 hk hf hz
                refine xj_iload (i := 7) 0 rfl dX11_sleepersBy_66 ?_
                refine xj_iload (i := 4) 7 rfl dX11_sleepersBy_68 ?_
                refine xj_icmp_ge (tgt := 139) (by decide) dX11_sleepersBy_70 (fun zc70 => ?_) (fun zc70 => ?_)
                · refine xj_iload (i := 6) 1 rfl dX11_sleepersBy_139 ?_
                  have er : rSlBy A (nI kq) sort fr1 (nI kn1) = (zvm, A1) := by rw [htot, ← hz, Nat.sub_self]; rfl
                  exact xj_ireturn rfl (nr_i _) (Nat.zero_le _) (Nat.zero_le _) dX11_sleepersBy_141 (qI_e (by rw [er]; exact ⟨rfl, C1, hf⟩))
                · exact absurd (nI_le (Nat.le_refl _) (by omega)) zc70
              · intro i hi ih g1 zvm A1 C1 O1 hk hf hz
                have U := sby_use hk4_kq C1 O1 hk
                have hstep : sbyF kq (A (40 + kq)) (aQ A kq) fr1 (kn1 - i) i zvm A1 = if hoP (aQ A kq) (fr1 + 3 * nI i) 3 then sbyF kq (A (40 + kq)) (aQ A kq) fr1 (kn1 - (i + 1)) (i + 1) (if (rSleeper A1 (A (40 + kq) (fr1 + 3 * nI i).toNatClampNeg) (A (40 + kq) ((fr1 + 3 * nI i).toNatClampNeg + 1)) (A (40 + kq) ((fr1 + 3 * nI i).toNatClampNeg + 2))).1 < 0 then zvm else zvm + 1) (rSleeper A1 (A (40 + kq) (fr1 + 3 * nI i).toNatClampNeg) (A (40 + kq) ((fr1 + 3 * nI i).toNatClampNeg + 1)) (A (40 + kq) ((fr1 + 3 * nI i).toNatClampNeg + 2))).2 else (-12, A1) := by rw [show kn1 - i = kn1 - (i + 1) + 1 by omega]; rfl
                refine xj_iload (i := 7) 0 rfl dX11_sleepersBy_66 ?_
                refine xj_iload (i := 4) 7 rfl dX11_sleepersBy_68 ?_
                refine xj_icmp_ge (tgt := 139) (by decide) dX11_sleepersBy_70 (fun zc70 => ?_) (fun zc70 => ?_)
                · exact absurd zc70 (nI_ge hi (by omega))
                · refine xj_iload_n (n := 3) (i := 3) 6 rfl rfl dX11_sleepersBy_73 ?_
                  refine xj_iconst (v := 3) (by decide) dX11_sleepersBy_74 ?_
                  refine xj_iload (i := 7) 0 rfl dX11_sleepersBy_75 ?_
                  refine xj_imul dX11_sleepersBy_77 ?_
                  refine xj_iadd dX11_sleepersBy_78 ?_
                  refine xj_topi (fun zv1 ezv1 => ?_)
                  refine xj_istore (i := 8) (lv1 := [(8, .int zv1), (7, .int (nI i)), (6, .int zvm), (5, .ref (72 + 2 * kq)), (0, .ref 0), (1, .int (nI kq)), (2, .int sort), (3, .int fr1), (4, .int (nI kn1))]) rfl (Nat.le_of_ble_eq_true rfl) dX11_sleepersBy_79 ?_
                  refine xj_aload (i := 5) 3 rfl dX11_sleepersBy_81 ?_
                  refine xj_iload (i := 8) 0 rfl dX11_sleepersBy_83 ?_
                  refine xj_iconst (v := 3) (by decide) dX11_sleepersBy_85 ?_
                  refine xj_callV kv_X11_258 (c_X8_holds l (d + 2) n hn g1 (72 + 2 * kq) (fSt_q hk4_kq) (nI (aQ A kq)) zv1 3 U.1) (As := [.int zv1, .int 3]) (st := []) (by omega) ((fSt_q hk4_kq).2.1 _) (ci := 8) rfl rfl rfl rfl (xRm_of (by omega) (by decide) (by omega) (by omega)) (Nat.le_of_ble_eq_true rfl) dX11_sleepersBy_86 (yk_p (kc := 0) (ks := 0) ?_)
                  refine xj_if_ne (tgt := 95) (by decide) dX11_sleepersBy_89 (fun zc89 => ?_) (fun zc89 => ?_)
                  · have hp := bI_n0.mp zc89
                    obtain ⟨ki, k3, rfl, hk3, hi3⟩ := ho_n hzq hp
                    have hk33 : 3 = k3 := (nI_eq (a := 3) (by omega) (by omega)).mp hk3
                    rw [← ezv1, nI_clamp (show ki < 2147483648 by omega), if_pos hp] at hstep
                    refine xj_aload_n (n := 0) (i := 0) 4 rfl rfl dX11_sleepersBy_95 ?_
                    refine xj_aload (i := 5) 3 rfl dX11_sleepersBy_96 ?_
                    refine yj_getf (v := .ref ((72 + 2 * kq) + 1)) fl_X11_261_8 (by omega) ((fSt_q hk4_kq).2.1 (g1 (72 + 2 * kq))) rfl dX11_sleepersBy_98 ?_
                    refine xj_iload (i := 8) 0 rfl dX11_sleepersBy_101 ?_
                    refine yj_ialdN ki (by omega) (fSt_q hk4_kq).2.2 rfl (by omega) (by decide) dX11_sleepersBy_103 ?_
                    refine xj_top (U.2 _ (by omega)) ?_
                    refine xj_aload (i := 5) 3 rfl dX11_sleepersBy_104 ?_
                    refine yj_getf (v := .ref ((72 + 2 * kq) + 1)) fl_X11_261_8 (by omega) ((fSt_q hk4_kq).2.1 (g1 (72 + 2 * kq))) rfl dX11_sleepersBy_106 ?_
                    refine xj_iload (i := 8) 0 rfl dX11_sleepersBy_109 ?_
                    refine xj_iconst (v := 1) (by decide) dX11_sleepersBy_111 ?_
                    refine xj_iadd dX11_sleepersBy_112 ?_
                    refine yj_ialdN (ki + 1) (by omega) (fSt_q hk4_kq).2.2 (nI_1 ki) (by omega) (by decide) dX11_sleepersBy_113 ?_
                    refine xj_top (U.2 _ (by omega)) ?_
                    refine xj_aload (i := 5) 3 rfl dX11_sleepersBy_114 ?_
                    refine yj_getf (v := .ref ((72 + 2 * kq) + 1)) fl_X11_261_8 (by omega) ((fSt_q hk4_kq).2.1 (g1 (72 + 2 * kq))) rfl dX11_sleepersBy_116 ?_
                    refine xj_iload (i := 8) 0 rfl dX11_sleepersBy_119 ?_
                    refine xj_iconst (v := 2) (by decide) dX11_sleepersBy_121 ?_
                    refine xj_iadd dX11_sleepersBy_122 ?_
                    refine yj_ialdN (ki + 2) (by omega) (fSt_q hk4_kq).2.2 (nI_add ki 2) (by omega) (by decide) dX11_sleepersBy_123 ?_
                    refine xj_top (U.2 _ (by omega)) ?_
                    refine xj_callV kv_X11_270 (c_X11_sleeper l (d + 0) n g1 A1 Λ O1 C1 (A (40 + kq) ki) (A (40 + kq) (ki + 1)) (A (40 + kq) (ki + 2))) (As := [.int (A (40 + kq) ki), .int (A (40 + kq) (ki + 1)), .int (A (40 + kq) (ki + 2))]) (st := []) (by omega) (fq_0 g1) (ci := 11) rfl rfl rfl rfl (xRm_of (by omega) (by decide) (by omega) (by omega)) (Nat.le_of_ble_eq_true rfl) dX11_sleepersBy_124 (yk_i (kc := 0) (ks := 0) fun zv2 zg3 hzg3 => ?_)
                    obtain ⟨hv9, C2, hf2⟩ := hzg3
                    refine xj_if_lt (tgt := 133) (by decide) dX11_sleepersBy_127 (fun zc127 => ?_) (fun zc127 => ?_)
                    · refine xj_iinc (n := 1) (i := 7) (v := nI (i + 1)) (lv1 := [(7, .int (nI (i + 1))), (8, .int (nI ki)), (6, .int zvm), (5, .ref (72 + 2 * kq)), (0, .ref 0), (1, .int (nI kq)), (2, .int sort), (3, .int fr1), (4, .int (nI kn1))]) 1 rfl (nI_1 i) rfl (Nat.le_of_ble_eq_true rfl) dX11_sleepersBy_133 ?_
                      refine xj_goto (tgt := 66) (by decide) dX11_sleepersBy_136 ?_
                      refine xj_sub (lv' := [(7, .int (nI (i + 1))), (6, .int zvm), (5, .ref (72 + 2 * kq)), (0, .ref 0), (1, .int (nI kq)), (2, .int sort), (3, .int fr1), (4, .int (nI kn1))]) [0, 2, 3, 4, 5, 6, 7, 8] rfl ?_
                      rw [← hv9, if_pos zc127] at hstep
                      exact ih zg3 zvm _ C2 (rSl_ok O1 _ _ _) (fun j hj => (rSl_n O1 _ _ _ hj).trans (hk j hj)) (hf.tr hf2) (hstep.symm.trans hz)
                    · obtain ⟨zv4, ezv4⟩ : ∃ z : Int32, z = zvm + Int32.ofInt (1) := ⟨_, rfl⟩
                      refine xj_iinc (i := 6) (v := zv4) (lv1 := [(6, .int zv4), (8, .int (nI ki)), (7, .int (nI i)), (5, .ref (72 + 2 * kq)), (0, .ref 0), (1, .int (nI kq)), (2, .int sort), (3, .int fr1), (4, .int (nI kn1))]) 2 rfl ezv4.symm rfl (Nat.le_of_ble_eq_true rfl) dX11_sleepersBy_130 ?_
                      refine xj_iinc (n := 1) (i := 7) (v := nI (i + 1)) (lv1 := [(7, .int (nI (i + 1))), (6, .int zv4), (8, .int (nI ki)), (5, .ref (72 + 2 * kq)), (0, .ref 0), (1, .int (nI kq)), (2, .int sort), (3, .int fr1), (4, .int (nI kn1))]) 2 rfl (nI_1 i) rfl (Nat.le_of_ble_eq_true rfl) dX11_sleepersBy_133 ?_
                      refine xj_goto (tgt := 66) (by decide) dX11_sleepersBy_136 ?_
                      refine xj_sub (lv' := [(7, .int (nI (i + 1))), (6, .int zv4), (5, .ref (72 + 2 * kq)), (0, .ref 0), (1, .int (nI kq)), (2, .int sort), (3, .int fr1), (4, .int (nI kn1))]) [0, 1, 3, 4, 5, 6, 7, 8] rfl ?_
                      rw [← hv9, if_neg zc127] at hstep
                      rw [show zvm + 1 = zv4 from ezv4.symm] at hstep
                      exact ih zg3 zv4 _ C2 (rSl_ok O1 _ _ _) (fun j hj => (rSl_n O1 _ _ _ hj).trans (hk j hj)) (hf.tr hf2) (hstep.symm.trans hz)
                  · have hp := bI_0.mp zc89
                    refine xj_bipush (v := (-12)) (by decide) dX11_sleepersBy_92 ?_
                    have er : rSlBy A (nI kq) sort fr1 (nI kn1) = ((-12), A1) := by rw [htot, ← hz, hstep, ← ezv1, if_neg hp]
                    exact xj_ireturn rfl (nr_i _) (Nat.zero_le _) (Nat.zero_le _) dX11_sleepersBy_94 (qI_e (by rw [er]; exact ⟨rfl, C1, hf⟩))
            refine xj_sub (lv' := [(7, .int 0), (6, .int 0), (5, .ref (72 + 2 * kq)), (0, .ref 0), (1, .int (nI kq)), (2, .int sort), (3, .int fr1), (4, .int (nI kn1))]) [0, 1, 2, 3, 4, 5, 6, 7] rfl ?_
            exact key 0 (Nat.zero_le _) g 0 A C O (fun _ _ => rfl) fr.rf rfl
          · refine xj_bipush (v := (-13)) (by decide) dX11_sleepersBy_57 ?_
            have er : rSlBy A (nI kq) sort fr1 (nI kn1) = ((-13), A) := by unfold rSlBy; (try simp only [nI_clamp (show kq < 2147483648 by omega), nI_clamp (show kn1 < 2147483648 by omega)]); rw [if_pos zp4, if_pos zp12, if_pos zp22, if_neg zc42, if_neg zc54]; all_goals (rfl)
            exact xj_ireturn rfl (nr_i _) (Nat.zero_le _) (Nat.zero_le _) dX11_sleepersBy_59 (qI_e (by rw [er]; exact ⟨rfl, C, fr.rf⟩))
        · refine xj_bipush (v := (-11)) (by decide) dX11_sleepersBy_45 ?_
          have er : rSlBy A (nI kq) sort fr1 (nI kn1) = ((-11), A) := by unfold rSlBy; (try simp only [nI_clamp (show kq < 2147483648 by omega), nI_clamp (show kn1 < 2147483648 by omega)]); rw [if_pos zp4, if_pos zp12, if_pos zp22, if_pos zc42]; all_goals (rfl)
          exact xj_ireturn rfl (nr_i _) (Nat.zero_le _) (Nat.zero_le _) dX11_sleepersBy_47 (qI_e (by rw [er]; exact ⟨rfl, C, fr.rf⟩))
      · have zp22 : ¬ (0 ≤ n1 ∧ n1 ≤ 6) := bI_0.mp zc22
        refine xj_bipush (v := (-2)) (by decide) dX11_sleepersBy_25 ?_
        have er : rSlBy A (nI kq) sort fr1 n1 = ((-2), A) := by unfold rSlBy; (try simp only [nI_clamp (show kq < 2147483648 by omega)]); rw [if_pos zp4, if_pos zp12, if_neg zp22]; all_goals (rfl)
        exact xj_ireturn rfl (nr_i _) (Nat.zero_le _) (Nat.zero_le _) dX11_sleepersBy_27 (qI_e (by rw [er]; exact ⟨rfl, C, fr.rf⟩))
