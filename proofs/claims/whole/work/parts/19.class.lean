/-- in thought, night for night -/
def rowT (L : xL) (k : Nat) (more pic : Int32) (d0 : Nat → Int32) (N : Nat) : Nat → Nat → Int32
  | 0 => d0
  | i + 1 => nightR L k more pic (rowT L k more pic d0 N i) (nI (N + i)) 16
def rwP (A : zSt) (Λ : Nat → xL) (s : Nat) : Nat → Nat → Int32 := rowT (Λ (aW A)) (aK A s) (A 2 s) (A 3 s) (A (10 + s)) (aN A)
/-- what is seen in thought -/
def rsP (A : zSt) (Λ : Nat → xL) (s i : Nat) : Int32 := clearS (Λ (aW A)) (aK A s) (A 2 s) (A 3 s) (rwP A Λ s i) (nI (aN A + i)) &&& A 3 s
def andF (e : Int32) (f : Nat → Int32) : Nat → Int32
  | 0 => e
  | n + 1 => andF e f n &&& f n
def vAll (A : zSt) (Λ : Nat → xL) (what : Int32) : Int32 := if 0 ≤ what ∧ what ≤ 2 then if what = 0 then orF (seP A Λ) (aS A) else if what = 1 then andF (if aS A = 0 then 0 else 65535) (seP A Λ) (aS A) else sumF (fun s => onesF (seP A Λ s)) (aS A) else -2
def vRun (A : zSt) (Λ : Nat → xL) (s n what : Int32) : Int32 := if isSl A s then if 0 ≤ n ∧ n ≤ 40 then if 0 ≤ what ∧ what ≤ 1 then if what = 0 then rsP A Λ s.toNatClampNeg n.toNatClampNeg else sumF (rwP A Λ s.toNatClampNeg n.toNatClampNeg) 16 else -7 else -7 else -5
/-- the first of n.. that is so; -1: none up to m more -/
def firstF (f : Nat → Bool) : Nat → Nat → Int32
  | 0, _ => -1
  | m + 1, i => if f i = true then nI i else firstF f m (i + 1)
def vBlind (A : zSt) (Λ : Nat → xL) (s : Int32) : Int32 := if isSl A s then firstF (fun i => decide (rsP A Λ s.toNatClampNeg i = 0)) 41 0 else -5
set_option maxHeartbeats 4000000 in
set_option maxRecDepth 100000 in
theorem c_X11_inThought (l : Launch) (d : Nat) (n : Nat) (g : xG) (A : zSt) (Λ : Nat → xL) (O : okA A) (C : cA g n A Λ) (s : Nat) (hs : s < aS A)  : xC l yX11_inThought cX11_inThought 2 (some (.object "DreamWindows$Pane")) (xR (d + 2) 0 0) [.ref 0, .int (nI s)] (n, fh g) (qR n fun v g1 => v = 28 + 3 * s ∧ fr sX g g1 ∧ pnA g1 (28 + 3 * s) (aK A s) (A 2 s) (A 3 s) (A (10 + s))) := by
  refine xC_of false (by decide +kernel) (fun z => by cases z) (Nat.le_of_ble_eq_true rfl) ?_
  have hn := C.n110 O
  have hS6 := O.1.2
  have hW := O.W
  have hT6 := O.2.2.2.1.2.2
  have hs6 : s < 6 := by omega
  have hN9 := O.2.1.2
  show xJ l (RX11, 2, (some (.object "DreamWindows$Pane")), false, (xR (d + 2) 0 0), none) cX11_inThought _ 0 0 0 [(0, .ref 0), (1, .int (nI s))] [] (n, fh g)
  refine xj_aload_n (n := 0) (i := 0) 0 rfl rfl dX11_inThought_0 ?_
  refine yj_getf (v := .ref 27) fl_X11_41_11 (by omega) (fq_0 g) rfl dX11_inThought_1 ?_
  refine xj_iload_n (n := 1) (i := 1) 1 rfl rfl dX11_inThought_4 ?_
  refine yj_aaldN (m := 6) (a := 28 + 3 * s) s (by omega) (fq_27 g) (by decide) (by decide) rfl (by omega) (by decide) (if_pos (by omega)) dX11_inThought_5 ?_
  refine xj_aload_n (n := 0) (i := 0) 0 rfl rfl dX11_inThought_6 ?_
  refine yj_getf (v := .ref 8) fl_X11_37_11 (by omega) (fq_0 g) rfl dX11_inThought_7 ?_
  refine xj_iload_n (n := 1) (i := 1) 1 rfl rfl dX11_inThought_10 ?_
  refine yj_aaldN (m := 6) (a := 9 + 3 * s) s (by omega) (fq_8 g) (by decide) (by decide) rfl (by omega) (by decide) (if_pos (by omega)) dX11_inThought_11 ?_
  refine xj_callV kv_X11_247 (c_X7_takeAfter l (d + 0) n hn g (28 + 3 * s) (fPn_t hs6) (9 + 3 * s) (aK A s) (A 2 s) (A 3 s) (A (10 + s)) (fPn_r hs6) (C.pane hs) ⟨by omega, by omega, by omega⟩) (As := [.ref (9 + 3 * s)]) (st := []) (by omega) ((fPn_t hs6).2.2.1 _) (ci := 7) rfl rfl rfl rfl (xRm_of (by omega) (by decide) (by omega) (by omega)) (Nat.le_of_ble_eq_true rfl) dX11_inThought_12 (yk_v (kc := 0) (ks := 0) fun zg1 hzg1 => ?_)
  obtain ⟨hf, B⟩ := hzg1
  refine xj_aload_n (n := 0) (i := 0) 0 rfl rfl dX11_inThought_15 ?_
  refine yj_getf (v := .ref 27) fl_X11_41_11 (by omega) (fq_0 zg1) rfl dX11_inThought_16 ?_
  refine xj_iload_n (n := 1) (i := 1) 1 rfl rfl dX11_inThought_19 ?_
  refine yj_aaldN (m := 6) (a := 28 + 3 * s) s (by omega) (fq_27 zg1) (by decide) (by decide) rfl (by omega) (by decide) (if_pos (by omega)) dX11_inThought_20 ?_
  exact xj_areturn rfl (Or.inl ⟨_, rfl⟩) (Nat.zero_le _) (Nat.zero_le _) dX11_inThought_21 (qR_e ⟨rfl, hf.mono (fun j hj => by unfold sX; omega), B⟩)
set_option maxHeartbeats 4000000 in
set_option maxRecDepth 100000 in
theorem c_X11_all (l : Launch) (d : Nat) (n : Nat) (g : xG) (A : zSt) (Λ : Nat → xL) (O : okA A) (C : cA g n A Λ) (what : Int32)  : xC l yX11_all cX11_all 7 (some .int) (xR (d + 6) 0 0) [.ref 0, .int what] (n, fh g) (qI n fun v g1 => v = vAll A Λ what ∧ fr sX g g1) := by
  refine xC_of false (by decide +kernel) (fun z => by cases z) (Nat.le_of_ble_eq_true rfl) ?_
  have hn := C.n110 O
  have hS6 := O.1.2
  have hW := O.W
  have hT6 := O.2.2.2.1.2.2
  have hN9 := O.2.1.2
  show xJ l (RX11, 7, (some .int), false, (xR (d + 6) 0 0), none) cX11_all _ 0 0 0 [(0, .ref 0), (1, .int what)] [] (n, fh g)
  refine xj_iload_n (n := 1) (i := 1) 1 rfl rfl dX11_all_0 ?_
  refine xj_iconst (v := 2) (by decide) dX11_all_1 ?_
  refine xj_callS ks_X11_107 (c_X11_within l (d + 5) what 2 _) (As := [.int what, .int 2]) (st := []) rfl rfl (xRm_of (by omega) (by decide) (by omega) (by omega)) (Nat.le_of_ble_eq_true rfl) dX11_all_2 (yk_p (kc := 0) (ks := 0) ?_)
  refine xj_if_ne (tgt := 11) (by decide) dX11_all_5 (fun zc5 => ?_) (fun zc5 => ?_)
  · have zp5 : 0 ≤ what ∧ what ≤ 2 := bI_n0.mp zc5
    obtain ⟨kwhat, hkwhat, rfl⟩ := nI_bnd (m := 2) (by decide) zp5.1 zp5.2
    refine xj_iconst (v := 0) (by decide) dX11_all_11 ?_
    refine xj_istore_n (n := 2) (i := 2) (lv1 := [(2, .int 0), (0, .ref 0), (1, .int (nI kwhat))]) rfl rfl (Nat.le_of_ble_eq_true rfl) dX11_all_12 ?_
    refine xj_aload_n (n := 0) (i := 0) 1 rfl rfl dX11_all_13 ?_
    refine yj_getf (v := .int (nI (aS A))) fl_X11_80_11 (by omega) (fq_0 g) (congrArg (fun z => some (Value.int z)) (C.S O)) dX11_all_14 ?_
    refine xj_if_ne (tgt := 24) (by decide) dX11_all_17 (fun zc17 => ?_) (fun zc17 => ?_)
    · refine xj_ldc cn_X11_136 dX11_all_24 ?_
      refine xj_istore_n (n := 3) (i := 3) (lv1 := [(3, .int 65535), (2, .int 0), (0, .ref 0), (1, .int (nI kwhat))]) rfl rfl (Nat.le_of_ble_eq_true rfl) dX11_all_26 ?_
      refine xj_iconst (v := 0) (by decide) dX11_all_27 ?_
      refine xj_istore (i := 4) (lv1 := [(4, .int 0), (3, .int 65535), (2, .int 0), (0, .ref 0), (1, .int (nI kwhat))]) rfl (Nat.le_of_ble_eq_true rfl) dX11_all_28 ?_
      refine xj_iconst (v := 0) (by decide) dX11_all_30 ?_
      refine xj_istore (i := 5) (lv1 := [(5, .int 0), (4, .int 0), (3, .int 65535), (2, .int 0), (0, .ref 0), (1, .int (nI kwhat))]) rfl (Nat.le_of_ble_eq_true rfl) dX11_all_31 ?_
      have hz0 : (if aS A = 0 then (0 : Int32) else 65535) = 65535 := if_neg (fun e => zc17 (by rw [e]; rfl))
      have key : ∀ i, i ≤ aS A → ∀ (g1 : xG), fr sX g g1 → xJ l (RX11, 7, (some .int), false, (xR (d + 6) 0 0), none) cX11_all (qI n fun v g1 => v = vAll A Λ (nI kwhat) ∧ fr sX g g1) 0 0 33 [(5, .int (nI i)), (2, .int (orF (seP A Λ) i)), (3, .int (andF 65535 (seP A Λ) i)), (4, .int (sumF (fun s => onesF (seP A Λ s)) i)), (0, .ref 0), (1, .int (nI kwhat))] [] (n, fh g1) := by
        refine x_loop (aS A) _ ?_ ?_
        · intro g1 hf
          refine xj_iload (i := 5) 0 rfl dX11_all_33 ?_
          refine xj_aload_n (n := 0) (i := 0) 4 rfl rfl dX11_all_35 ?_
          refine yj_getf (v := .int (nI (aS A))) fl_X11_80_11 (by omega) (fq_0 g1) (congrArg (fun z => some (Value.int z)) ((C.keep O hf).S O)) dX11_all_36 ?_
          refine xj_icmp_ge (tgt := 93) (by decide) dX11_all_39 (fun zc39 => ?_) (fun zc39 => ?_)
          · refine xj_iload_n (n := 1) (i := 1) 5 rfl rfl dX11_all_93 ?_
            refine xj_if_ne (tgt := 99) (by decide) dX11_all_94 (fun zc94 => ?_) (fun zc94 => ?_)
            · refine xj_iload_n (n := 1) (i := 1) 5 rfl rfl dX11_all_99 ?_
              refine xj_iconst (v := 1) (by decide) dX11_all_100 ?_
              refine xj_icmp_ne (tgt := 108) (by decide) dX11_all_101 (fun zc101 => ?_) (fun zc101 => ?_)
              · refine xj_iload (i := 4) 3 rfl dX11_all_108 ?_
                exact xj_ireturn rfl (nr_i _) (Nat.zero_le _) (Nat.zero_le _) dX11_all_110 (qI_e ⟨by unfold vAll; (try simp only [nI_clamp (show kwhat < 2147483648 by omega)]); rw [if_pos zp5, if_neg zc94, if_neg zc101]; all_goals (rfl), hf⟩)
              · refine xj_iload_n (n := 3) (i := 3) 2 rfl rfl dX11_all_104 ?_
                refine xj_goto (tgt := 110) (by decide) dX11_all_105 ?_
                exact xj_ireturn rfl (nr_i _) (Nat.zero_le _) (Nat.zero_le _) dX11_all_110 (qI_e ⟨by unfold vAll; (try simp only [nI_clamp (show kwhat < 2147483648 by omega)]); rw [if_pos zp5, if_neg zc94, if_pos zc101]; all_goals (rw [hz0]), hf⟩)
            · refine xj_iload_n (n := 2) (i := 2) 1 rfl rfl dX11_all_97 ?_
              exact xj_ireturn rfl (nr_i _) (Nat.zero_le _) (Nat.zero_le _) dX11_all_98 (qI_e ⟨by unfold vAll; (try simp only [nI_clamp (show kwhat < 2147483648 by omega)]); rw [if_pos zp5, if_pos zc94]; all_goals (rfl), hf⟩)
          · exact absurd (nI_le (Nat.le_refl _) (by omega)) zc39
        · intro i hi ih g1 hf
          have hs6_i : i < 6 := by omega
          refine xj_iload (i := 5) 0 rfl dX11_all_33 ?_
          refine xj_aload_n (n := 0) (i := 0) 4 rfl rfl dX11_all_35 ?_
          refine yj_getf (v := .int (nI (aS A))) fl_X11_80_11 (by omega) (fq_0 g1) (congrArg (fun z => some (Value.int z)) ((C.keep O hf).S O)) dX11_all_36 ?_
          refine xj_icmp_ge (tgt := 93) (by decide) dX11_all_39 (fun zc39 => ?_) (fun zc39 => ?_)
          · exact absurd zc39 (nI_ge hi (by omega))
          · refine xj_aload_n (n := 0) (i := 0) 4 rfl rfl dX11_all_42 ?_
            refine yj_getf (v := .ref 8) fl_X11_37_11 (by omega) (fq_0 g1) rfl dX11_all_43 ?_
            refine xj_iload (i := 5) 0 rfl dX11_all_46 ?_
            refine yj_aaldN (m := 6) (a := 9 + 3 * i) i (by omega) (fq_8 g1) (by decide) (by decide) rfl (by omega) (by decide) (if_pos (by omega)) dX11_all_48 ?_
            refine xj_aload_n (n := 0) (i := 0) 4 rfl rfl dX11_all_49 ?_
            refine yj_getf (v := .ref 66) fl_X11_55_11 (by omega) (fq_0 g1) rfl dX11_all_50 ?_
            refine xj_aload_n (n := 0) (i := 0) 4 rfl rfl dX11_all_53 ?_
            refine yj_getf (v := .int (nI (aW A))) fl_X11_93_11 (by omega) (fq_0 g1) (congrArg (fun z => some (Value.int z)) ((C.keep O hf).W O)) dX11_all_54 ?_
            refine yj_aaldN (m := 6) (a := fTX (aW A)) (aW A) (by omega) (fq_66 g1) (by decide) (by decide) rfl (by omega) (by decide) ((C.keep O hf).tx O hW) dX11_all_57 ?_
            refine xj_aload_n (n := 0) (i := 0) 4 rfl rfl dX11_all_58 ?_
            refine yj_getf (v := .int (nI (aN A))) fl_X11_84_11 (by omega) (fq_0 g1) (congrArg (fun z => some (Value.int z)) ((C.keep O hf).N O)) dX11_all_59 ?_
            refine xj_callV kv_X11_164 (c_X7_seenCells l (d + 0) n hn g1 (9 + 3 * i) (fTX (aW A)) (aK A i) (A 2 i) (A 3 i) (A (10 + i)) (Λ (aW A)) (fPn_r hs6_i) ((C.keep O hf).pane hi) ((C.keep O hf).txt hW) (nI (aN A))) (As := [.ref (fTX (aW A)), .int (nI (aN A))]) (st := []) (by omega) ((fPn_r hs6_i).2.2.1 _) (ci := 7) rfl rfl rfl rfl (xRm_of (by omega) (by decide) (by omega) (by omega)) (Nat.le_of_ble_eq_true rfl) dX11_all_62 (yk_i (kc := 0) (ks := 0) fun zv1 zg2 hzg2 => ?_)
            obtain ⟨hvzv1, hfzg2⟩ := hzg2
            have hxzg2 := hfzg2.mono (fX_s (t := (aW A)) hs6_i (Or.inl rfl))
            have Czg2 := (C.keep O hf).keep O hxzg2
            refine xj_istore (i := 6) (lv1 := [(6, .int zv1), (5, .int (nI i)), (2, .int (orF (seP A Λ) i)), (3, .int (andF 65535 (seP A Λ) i)), (4, .int (sumF (fun s => onesF (seP A Λ s)) i)), (0, .ref 0), (1, .int (nI kwhat))]) rfl (Nat.le_of_ble_eq_true rfl) dX11_all_65 ?_
            refine xj_iload_n (n := 2) (i := 2) 2 rfl rfl dX11_all_67 ?_
            refine xj_iload (i := 6) 0 rfl dX11_all_68 ?_
            refine xj_ior dX11_all_70 ?_
            refine xj_topi (fun zv3 ezv3 => ?_)
            refine xj_istore_n (n := 2) (i := 2) (lv1 := [(2, .int zv3), (6, .int zv1), (5, .int (nI i)), (3, .int (andF 65535 (seP A Λ) i)), (4, .int (sumF (fun s => onesF (seP A Λ s)) i)), (0, .ref 0), (1, .int (nI kwhat))]) rfl rfl (Nat.le_of_ble_eq_true rfl) dX11_all_71 ?_
            refine xj_iload_n (n := 3) (i := 3) 3 rfl rfl dX11_all_72 ?_
            refine xj_iload (i := 6) 1 rfl dX11_all_73 ?_
            refine xj_iand dX11_all_75 ?_
            refine xj_topi (fun zv4 ezv4 => ?_)
            refine xj_istore_n (n := 3) (i := 3) (lv1 := [(3, .int zv4), (2, .int zv3), (6, .int zv1), (5, .int (nI i)), (4, .int (sumF (fun s => onesF (seP A Λ s)) i)), (0, .ref 0), (1, .int (nI kwhat))]) rfl rfl (Nat.le_of_ble_eq_true rfl) dX11_all_76 ?_
            refine xj_iload (i := 4) 4 rfl dX11_all_77 ?_
            refine xj_iload (i := 6) 2 rfl dX11_all_79 ?_
            obtain ⟨mz, hmz, emz⟩ := seP_n (Λ := Λ) O hi
            refine xj_top (show zv1 = nI mz from hvzv1.trans emz) ?_
            refine xj_callS ks_X11_167 (c_J6_bitCount_0f7a4 l (d + 5) mz hmz _) (As := [.int (nI mz)]) (st := [.int (sumF (fun s => onesF (seP A Λ s)) i)]) rfl rfl (xRm_of (by omega) (by decide) (by omega) (by omega)) (Nat.le_of_ble_eq_true rfl) dX11_all_81 (yk_p (kc := 0) (ks := 0) ?_)
            refine xj_iadd dX11_all_84 ?_
            refine xj_topi (fun zv5 ezv5 => ?_)
            refine xj_istore (i := 4) (lv1 := [(4, .int zv5), (3, .int zv4), (2, .int zv3), (6, .int zv1), (5, .int (nI i)), (0, .ref 0), (1, .int (nI kwhat))]) rfl (Nat.le_of_ble_eq_true rfl) dX11_all_85 ?_
            refine xj_iinc (n := 1) (i := 5) (v := nI (i + 1)) (lv1 := [(5, .int (nI (i + 1))), (4, .int zv5), (3, .int zv4), (2, .int zv3), (6, .int zv1), (0, .ref 0), (1, .int (nI kwhat))]) 4 rfl (nI_1 i) rfl (Nat.le_of_ble_eq_true rfl) dX11_all_87 ?_
            refine xj_goto (tgt := 33) (by decide) dX11_all_90 ?_
            refine xj_sub (lv' := [(5, .int (nI (i + 1))), (2, .int zv3), (3, .int zv4), (4, .int zv5), (0, .ref 0), (1, .int (nI kwhat))]) [0, 3, 2, 1, 5, 6] rfl ?_
            have h9 := ih zg2 (hf.tr hxzg2)
            rw [show orF (seP A Λ) (i + 1) = zv3 from by rw [ezv3, hvzv1]; rfl, show andF 65535 (seP A Λ) (i + 1) = zv4 from by rw [ezv4, hvzv1]; rfl, show sumF (fun s => onesF (seP A Λ s)) (i + 1) = zv5 from by rw [ezv5, ← emz]; rfl] at h9
            exact h9
      refine xj_sub (lv' := [(5, .int 0), (2, .int 0), (3, .int 65535), (4, .int 0), (0, .ref 0), (1, .int (nI kwhat))]) [0, 3, 2, 1, 4, 5] rfl ?_
      exact key 0 (Nat.zero_le _) g fr.rf
    · refine xj_iconst (v := 0) (by decide) dX11_all_20 ?_
      refine xj_goto (tgt := 26) (by decide) dX11_all_21 ?_
      refine xj_istore_n (n := 3) (i := 3) (lv1 := [(3, .int 0), (2, .int 0), (0, .ref 0), (1, .int (nI kwhat))]) rfl rfl (Nat.le_of_ble_eq_true rfl) dX11_all_26 ?_
      refine xj_iconst (v := 0) (by decide) dX11_all_27 ?_
      refine xj_istore (i := 4) (lv1 := [(4, .int 0), (3, .int 0), (2, .int 0), (0, .ref 0), (1, .int (nI kwhat))]) rfl (Nat.le_of_ble_eq_true rfl) dX11_all_28 ?_
      refine xj_iconst (v := 0) (by decide) dX11_all_30 ?_
      refine xj_istore (i := 5) (lv1 := [(5, .int 0), (4, .int 0), (3, .int 0), (2, .int 0), (0, .ref 0), (1, .int (nI kwhat))]) rfl (Nat.le_of_ble_eq_true rfl) dX11_all_31 ?_
      have hz0 : (if aS A = 0 then (0 : Int32) else 65535) = 0 := if_pos ((nI_eq (b := 0) (by omega) (by omega)).mp zc17)
      have key : ∀ i, i ≤ aS A → ∀ (g1 : xG), fr sX g g1 → xJ l (RX11, 7, (some .int), false, (xR (d + 6) 0 0), none) cX11_all (qI n fun v g1 => v = vAll A Λ (nI kwhat) ∧ fr sX g g1) 0 0 33 [(5, .int (nI i)), (2, .int (orF (seP A Λ) i)), (3, .int (andF 0 (seP A Λ) i)), (4, .int (sumF (fun s => onesF (seP A Λ s)) i)), (0, .ref 0), (1, .int (nI kwhat))] [] (n, fh g1) := by
        refine x_loop (aS A) _ ?_ ?_
        · intro g1 hf
          refine xj_iload (i := 5) 0 rfl dX11_all_33 ?_
          refine xj_aload_n (n := 0) (i := 0) 4 rfl rfl dX11_all_35 ?_
          refine yj_getf (v := .int (nI (aS A))) fl_X11_80_11 (by omega) (fq_0 g1) (congrArg (fun z => some (Value.int z)) ((C.keep O hf).S O)) dX11_all_36 ?_
          refine xj_icmp_ge (tgt := 93) (by decide) dX11_all_39 (fun zc39 => ?_) (fun zc39 => ?_)
          · refine xj_iload_n (n := 1) (i := 1) 5 rfl rfl dX11_all_93 ?_
            refine xj_if_ne (tgt := 99) (by decide) dX11_all_94 (fun zc94 => ?_) (fun zc94 => ?_)
            · refine xj_iload_n (n := 1) (i := 1) 5 rfl rfl dX11_all_99 ?_
              refine xj_iconst (v := 1) (by decide) dX11_all_100 ?_
              refine xj_icmp_ne (tgt := 108) (by decide) dX11_all_101 (fun zc101 => ?_) (fun zc101 => ?_)
              · refine xj_iload (i := 4) 3 rfl dX11_all_108 ?_
                exact xj_ireturn rfl (nr_i _) (Nat.zero_le _) (Nat.zero_le _) dX11_all_110 (qI_e ⟨by unfold vAll; (try simp only [nI_clamp (show kwhat < 2147483648 by omega)]); rw [if_pos zp5, if_neg zc94, if_neg zc101]; all_goals (rfl), hf⟩)
              · refine xj_iload_n (n := 3) (i := 3) 2 rfl rfl dX11_all_104 ?_
                refine xj_goto (tgt := 110) (by decide) dX11_all_105 ?_
                exact xj_ireturn rfl (nr_i _) (Nat.zero_le _) (Nat.zero_le _) dX11_all_110 (qI_e ⟨by unfold vAll; (try simp only [nI_clamp (show kwhat < 2147483648 by omega)]); rw [if_pos zp5, if_neg zc94, if_pos zc101]; all_goals (rw [hz0]), hf⟩)
            · refine xj_iload_n (n := 2) (i := 2) 1 rfl rfl dX11_all_97 ?_
              exact xj_ireturn rfl (nr_i _) (Nat.zero_le _) (Nat.zero_le _) dX11_all_98 (qI_e ⟨by unfold vAll; (try simp only [nI_clamp (show kwhat < 2147483648 by omega)]); rw [if_pos zp5, if_pos zc94]; all_goals (rfl), hf⟩)
          · exact absurd (nI_le (Nat.le_refl _) (by omega)) zc39
        · intro i hi ih g1 hf
          have hs6_i : i < 6 := by omega
          refine xj_iload (i := 5) 0 rfl dX11_all_33 ?_
          refine xj_aload_n (n := 0) (i := 0) 4 rfl rfl dX11_all_35 ?_
          refine yj_getf (v := .int (nI (aS A))) fl_X11_80_11 (by omega) (fq_0 g1) (congrArg (fun z => some (Value.int z)) ((C.keep O hf).S O)) dX11_all_36 ?_
          refine xj_icmp_ge (tgt := 93) (by decide) dX11_all_39 (fun zc39 => ?_) (fun zc39 => ?_)
          · exact absurd zc39 (nI_ge hi (by omega))
          · refine xj_aload_n (n := 0) (i := 0) 4 rfl rfl dX11_all_42 ?_
            refine yj_getf (v := .ref 8) fl_X11_37_11 (by omega) (fq_0 g1) rfl dX11_all_43 ?_
            refine xj_iload (i := 5) 0 rfl dX11_all_46 ?_
            refine yj_aaldN (m := 6) (a := 9 + 3 * i) i (by omega) (fq_8 g1) (by decide) (by decide) rfl (by omega) (by decide) (if_pos (by omega)) dX11_all_48 ?_
            refine xj_aload_n (n := 0) (i := 0) 4 rfl rfl dX11_all_49 ?_
            refine yj_getf (v := .ref 66) fl_X11_55_11 (by omega) (fq_0 g1) rfl dX11_all_50 ?_
            refine xj_aload_n (n := 0) (i := 0) 4 rfl rfl dX11_all_53 ?_
            refine yj_getf (v := .int (nI (aW A))) fl_X11_93_11 (by omega) (fq_0 g1) (congrArg (fun z => some (Value.int z)) ((C.keep O hf).W O)) dX11_all_54 ?_
            refine yj_aaldN (m := 6) (a := fTX (aW A)) (aW A) (by omega) (fq_66 g1) (by decide) (by decide) rfl (by omega) (by decide) ((C.keep O hf).tx O hW) dX11_all_57 ?_
            refine xj_aload_n (n := 0) (i := 0) 4 rfl rfl dX11_all_58 ?_
            refine yj_getf (v := .int (nI (aN A))) fl_X11_84_11 (by omega) (fq_0 g1) (congrArg (fun z => some (Value.int z)) ((C.keep O hf).N O)) dX11_all_59 ?_
            refine xj_callV kv_X11_164 (c_X7_seenCells l (d + 0) n hn g1 (9 + 3 * i) (fTX (aW A)) (aK A i) (A 2 i) (A 3 i) (A (10 + i)) (Λ (aW A)) (fPn_r hs6_i) ((C.keep O hf).pane hi) ((C.keep O hf).txt hW) (nI (aN A))) (As := [.ref (fTX (aW A)), .int (nI (aN A))]) (st := []) (by omega) ((fPn_r hs6_i).2.2.1 _) (ci := 7) rfl rfl rfl rfl (xRm_of (by omega) (by decide) (by omega) (by omega)) (Nat.le_of_ble_eq_true rfl) dX11_all_62 (yk_i (kc := 0) (ks := 0) fun zv6 zg7 hzg7 => ?_)
            obtain ⟨hvzv6, hfzg7⟩ := hzg7
            have hxzg7 := hfzg7.mono (fX_s (t := (aW A)) hs6_i (Or.inl rfl))
            have Czg7 := (C.keep O hf).keep O hxzg7
            refine xj_istore (i := 6) (lv1 := [(6, .int zv6), (5, .int (nI i)), (2, .int (orF (seP A Λ) i)), (3, .int (andF 0 (seP A Λ) i)), (4, .int (sumF (fun s => onesF (seP A Λ s)) i)), (0, .ref 0), (1, .int (nI kwhat))]) rfl (Nat.le_of_ble_eq_true rfl) dX11_all_65 ?_
            refine xj_iload_n (n := 2) (i := 2) 2 rfl rfl dX11_all_67 ?_
            refine xj_iload (i := 6) 0 rfl dX11_all_68 ?_
            refine xj_ior dX11_all_70 ?_
            refine xj_topi (fun zv8 ezv8 => ?_)
            refine xj_istore_n (n := 2) (i := 2) (lv1 := [(2, .int zv8), (6, .int zv6), (5, .int (nI i)), (3, .int (andF 0 (seP A Λ) i)), (4, .int (sumF (fun s => onesF (seP A Λ s)) i)), (0, .ref 0), (1, .int (nI kwhat))]) rfl rfl (Nat.le_of_ble_eq_true rfl) dX11_all_71 ?_
            refine xj_iload_n (n := 3) (i := 3) 3 rfl rfl dX11_all_72 ?_
            refine xj_iload (i := 6) 1 rfl dX11_all_73 ?_
            refine xj_iand dX11_all_75 ?_
            refine xj_topi (fun zv9 ezv9 => ?_)
            refine xj_istore_n (n := 3) (i := 3) (lv1 := [(3, .int zv9), (2, .int zv8), (6, .int zv6), (5, .int (nI i)), (4, .int (sumF (fun s => onesF (seP A Λ s)) i)), (0, .ref 0), (1, .int (nI kwhat))]) rfl rfl (Nat.le_of_ble_eq_true rfl) dX11_all_76 ?_
            refine xj_iload (i := 4) 4 rfl dX11_all_77 ?_
            refine xj_iload (i := 6) 2 rfl dX11_all_79 ?_
            obtain ⟨mz, hmz, emz⟩ := seP_n (Λ := Λ) O hi
            refine xj_top (show zv6 = nI mz from hvzv6.trans emz) ?_
            refine xj_callS ks_X11_167 (c_J6_bitCount_0f7a4 l (d + 5) mz hmz _) (As := [.int (nI mz)]) (st := [.int (sumF (fun s => onesF (seP A Λ s)) i)]) rfl rfl (xRm_of (by omega) (by decide) (by omega) (by omega)) (Nat.le_of_ble_eq_true rfl) dX11_all_81 (yk_p (kc := 0) (ks := 0) ?_)
            refine xj_iadd dX11_all_84 ?_
            refine xj_topi (fun zv10 ezv10 => ?_)
            refine xj_istore (i := 4) (lv1 := [(4, .int zv10), (3, .int zv9), (2, .int zv8), (6, .int zv6), (5, .int (nI i)), (0, .ref 0), (1, .int (nI kwhat))]) rfl (Nat.le_of_ble_eq_true rfl) dX11_all_85 ?_
            refine xj_iinc (n := 1) (i := 5) (v := nI (i + 1)) (lv1 := [(5, .int (nI (i + 1))), (4, .int zv10), (3, .int zv9), (2, .int zv8), (6, .int zv6), (0, .ref 0), (1, .int (nI kwhat))]) 4 rfl (nI_1 i) rfl (Nat.le_of_ble_eq_true rfl) dX11_all_87 ?_
            refine xj_goto (tgt := 33) (by decide) dX11_all_90 ?_
            refine xj_sub (lv' := [(5, .int (nI (i + 1))), (2, .int zv8), (3, .int zv9), (4, .int zv10), (0, .ref 0), (1, .int (nI kwhat))]) [0, 3, 2, 1, 5, 6] rfl ?_
            have h9 := ih zg7 (hf.tr hxzg7)
            rw [show orF (seP A Λ) (i + 1) = zv8 from by rw [ezv8, hvzv6]; rfl, show andF 0 (seP A Λ) (i + 1) = zv9 from by rw [ezv9, hvzv6]; rfl, show sumF (fun s => onesF (seP A Λ s)) (i + 1) = zv10 from by rw [ezv10, ← emz]; rfl] at h9
            exact h9
      refine xj_sub (lv' := [(5, .int 0), (2, .int 0), (3, .int 0), (4, .int 0), (0, .ref 0), (1, .int (nI kwhat))]) [0, 3, 2, 1, 4, 5] rfl ?_
      exact key 0 (Nat.zero_le _) g fr.rf
  · have zp5 : ¬ (0 ≤ what ∧ what ≤ 2) := bI_0.mp zc5
    refine xj_bipush (v := (-2)) (by decide) dX11_all_8 ?_
    exact xj_ireturn rfl (nr_i _) (Nat.zero_le _) (Nat.zero_le _) dX11_all_10 (qI_e ⟨by unfold vAll; rw [if_neg zp5]; all_goals (rfl), fr.rf⟩)
set_option maxHeartbeats 4000000 in
set_option maxRecDepth 100000 in
theorem c_X11_run (l : Launch) (d : Nat) (n : Nat) (g : xG) (A : zSt) (Λ : Nat → xL) (O : okA A) (C : cA g n A Λ) (s n1 what : Int32)  : xC l yX11_run cX11_run 6 (some .int) (xR (d + 6) 0 0) [.ref 0, .int s, .int n1, .int what] (n, fh g) (qI n fun v g1 => v = vRun A Λ s n1 what ∧ fr sX g g1) := by
  refine xC_of false (by decide +kernel) (fun z => by cases z) (Nat.le_of_ble_eq_true rfl) ?_
  have hn := C.n110 O
  have hS6 := O.1.2
  have hW := O.W
  have hT6 := O.2.2.2.1.2.2
  have hN9 := O.2.1.2
  show xJ l (RX11, 6, (some .int), false, (xR (d + 6) 0 0), none) cX11_run _ 0 0 0 [(0, .ref 0), (1, .int s), (2, .int n1), (3, .int what)] [] (n, fh g)
  refine xj_aload_n (n := 0) (i := 0) 0 rfl rfl dX11_run_0 ?_
  refine xj_iload_n (n := 1) (i := 1) 1 rfl rfl dX11_run_1 ?_
  refine xj_callV kv_X11_125 (c_X11_isSleeper l (d + 4) n g A Λ O C s) (As := [.int s]) (st := []) (by omega) (fq_0 g) (ci := 11) rfl rfl rfl rfl (xRm_of (by omega) (by decide) (by omega) (by omega)) (Nat.le_of_ble_eq_true rfl) dX11_run_2 (yk_p (kc := 0) (ks := 0) ?_)
  refine xj_if_ne (tgt := 11) (by decide) dX11_run_5 (fun zc5 => ?_) (fun zc5 => ?_)
  · have zp5 : isSl A s := bI_n0.mp zc5
    obtain ⟨ks, hks, rfl⟩ := isSl_of O zp5
    have hs6_ks : ks < 6 := by omega
    refine xj_iload_n (n := 2) (i := 2) 2 rfl rfl dX11_run_11 ?_
    refine xj_bipush (v := 40) (by decide) dX11_run_12 ?_
    refine xj_callS ks_X11_107 (c_X11_within l (d + 5) n1 40 _) (As := [.int n1, .int 40]) (st := []) rfl rfl (xRm_of (by omega) (by decide) (by omega) (by omega)) (Nat.le_of_ble_eq_true rfl) dX11_run_14 (yk_p (kc := 0) (ks := 0) ?_)
    refine xj_if_eq (tgt := 28) (by decide) dX11_run_17 (fun zc17 => ?_) (fun zc17 => ?_)
    · have zp17 : ¬ (0 ≤ n1 ∧ n1 ≤ 40) := bI_0.mp zc17
      refine xj_bipush (v := (-7)) (by decide) dX11_run_28 ?_
      exact xj_ireturn rfl (nr_i _) (Nat.zero_le _) (Nat.zero_le _) dX11_run_30 (qI_e ⟨by unfold vRun; (try simp only [nI_clamp (show ks < 2147483648 by omega)]); rw [if_pos zp5, if_neg zp17]; all_goals (rfl), fr.rf⟩)
    · have zp17 : 0 ≤ n1 ∧ n1 ≤ 40 := bI_n0.mp zc17
      obtain ⟨kn1, hkn1, rfl⟩ := nI_bnd (m := 40) (by decide) zp17.1 zp17.2
      refine xj_iload_n (n := 3) (i := 3) 3 rfl rfl dX11_run_20 ?_
      refine xj_iconst (v := 1) (by decide) dX11_run_21 ?_
      refine xj_callS ks_X11_107 (c_X11_within l (d + 5) what 1 _) (As := [.int what, .int 1]) (st := []) rfl rfl (xRm_of (by omega) (by decide) (by omega) (by omega)) (Nat.le_of_ble_eq_true rfl) dX11_run_22 (yk_p (kc := 0) (ks := 0) ?_)
      refine xj_if_ne (tgt := 31) (by decide) dX11_run_25 (fun zc25 => ?_) (fun zc25 => ?_)
      · have zp25 : 0 ≤ what ∧ what ≤ 1 := bI_n0.mp zc25
        obtain ⟨kwhat, hkwhat, rfl⟩ := nI_bnd (m := 1) (by decide) zp25.1 zp25.2
        refine xj_aload_n (n := 0) (i := 0) 0 rfl rfl dX11_run_31 ?_
        refine xj_iload_n (n := 1) (i := 1) 1 rfl rfl dX11_run_32 ?_
        refine xj_callV kv_X11_184 (c_X11_inThought l (d + 3) n g A Λ O C ks hks) (As := [.int (nI ks)]) (st := []) (by omega) (fq_0 g) (ci := 11) rfl rfl rfl rfl (xRm_of (by omega) (by decide) (by omega) (by omega)) (Nat.le_of_ble_eq_true rfl) dX11_run_33 (yk_r (kc := 0) (ks := 0) fun zv1 zg2 hzg2 => ?_)
        obtain ⟨hvzv1, hxzg2, Bzg2⟩ := hzg2
        subst hvzv1
        have Czg2 := C.keep O hxzg2
        refine xj_astore (i := 4) (lv1 := [(4, .ref (28 + 3 * ks)), (0, .ref 0), (1, .int (nI ks)), (2, .int (nI kn1)), (3, .int (nI kwhat))]) rfl (Nat.le_of_ble_eq_true rfl) dX11_run_36 ?_
        refine xj_iconst (v := 0) (by decide) dX11_run_38 ?_
        refine xj_istore (i := 5) (lv1 := [(5, .int 0), (4, .ref (28 + 3 * ks)), (0, .ref 0), (1, .int (nI ks)), (2, .int (nI kn1)), (3, .int (nI kwhat))]) rfl (Nat.le_of_ble_eq_true rfl) dX11_run_39 ?_
        have key : ∀ i, i ≤ kn1 → ∀ (g1 : xG), fr sX g g1 → pnA g1 (28 + 3 * ks) (aK A ks) (A 2 ks) (A 3 ks) (rwP A Λ ks i) → xJ l (RX11, 6, (some .int), false, (xR (d + 6) 0 0), none) cX11_run (qI n fun v g1 => v = vRun A Λ (nI ks) (nI kn1) (nI kwhat) ∧ fr sX g g1) 0 0 41 [(5, .int (nI i)), (4, .ref (28 + 3 * ks)), (0, .ref 0), (1, .int (nI ks)), (2, .int (nI kn1)), (3, .int (nI kwhat))] [] (n, fh g1) := by
          refine x_loop kn1 _ ?_ ?_
          · intro g1 hf B
            refine xj_iload (i := 5) 0 rfl dX11_run_41 ?_
            refine xj_iload_n (n := 2) (i := 2) 4 rfl rfl dX11_run_43 ?_
            refine xj_icmp_ge (tgt := 74) (by decide) dX11_run_44 (fun zc44 => ?_) (fun zc44 => ?_)
            · refine xj_iload_n (n := 3) (i := 3) 5 rfl rfl dX11_run_74 ?_
              refine xj_if_ne (tgt := 101) (by decide) dX11_run_75 (fun zc75 => ?_) (fun zc75 => ?_)
              · refine xj_aload (i := 4) 1 rfl dX11_run_101 ?_
                refine xj_callV kv_X11_156 (c_X7_dullTogether l (d + 5) n hn g1 (28 + 3 * ks) (fPn_t hs6_ks) (rwP A Λ ks kn1) (fun c hc => B.2.2.2.1 c hc)) (As := []) (st := []) (by omega) ((fPn_t hs6_ks).2.2.1 _) (ci := 7) rfl rfl rfl rfl (xRm_of (by omega) (by decide) (by omega) (by omega)) (Nat.le_of_ble_eq_true rfl) dX11_run_103 (yk_i (kc := 0) (ks := 0) fun zv3 zg4 hzg4 => ?_)
                obtain ⟨hvzv3, hgzg4⟩ := hzg4
                subst hgzg4
                exact xj_ireturn rfl (nr_i _) (Nat.zero_le _) (Nat.zero_le _) dX11_run_106 (qI_e ⟨by unfold vRun; (try simp only [nI_clamp (show ks < 2147483648 by omega), nI_clamp (show kn1 < 2147483648 by omega), nI_clamp (show kwhat < 2147483648 by omega)]); rw [if_pos zp5, if_pos zp17, if_pos zp25, if_neg zc75]; all_goals (exact hvzv3), hf⟩)
              · refine xj_aload (i := 4) 1 rfl dX11_run_78 ?_
                refine xj_aload_n (n := 0) (i := 0) 2 rfl rfl dX11_run_80 ?_
                refine yj_getf (v := .ref 66) fl_X11_55_11 (by omega) (fq_0 g1) rfl dX11_run_81 ?_
                refine xj_aload_n (n := 0) (i := 0) 2 rfl rfl dX11_run_84 ?_
                refine yj_getf (v := .int (nI (aW A))) fl_X11_93_11 (by omega) (fq_0 g1) (congrArg (fun z => some (Value.int z)) ((C.keep O hf).W O)) dX11_run_85 ?_
                refine yj_aaldN (m := 6) (a := fTX (aW A)) (aW A) (by omega) (fq_66 g1) (by decide) (by decide) rfl (by omega) (by decide) ((C.keep O hf).tx O hW) dX11_run_88 ?_
                refine xj_aload_n (n := 0) (i := 0) 2 rfl rfl dX11_run_89 ?_
                refine yj_getf (v := .int (nI (aN A))) fl_X11_84_11 (by omega) (fq_0 g1) (congrArg (fun z => some (Value.int z)) ((C.keep O hf).N O)) dX11_run_90 ?_
                refine xj_iload_n (n := 2) (i := 2) 4 rfl rfl dX11_run_93 ?_
                refine xj_iadd dX11_run_94 ?_
                refine xj_top (nI_add _ _) ?_
                refine xj_callV kv_X11_164 (c_X7_seenCells l (d + 0) n hn g1 (28 + 3 * ks) (fTX (aW A)) (aK A ks) (A 2 ks) (A 3 ks) (rwP A Λ ks kn1) (Λ (aW A)) (fPn_t hs6_ks) B ((C.keep O hf).txt hW) (nI ((aN A) + kn1))) (As := [.ref (fTX (aW A)), .int (nI ((aN A) + kn1))]) (st := []) (by omega) ((fPn_t hs6_ks).2.2.1 _) (ci := 7) rfl rfl rfl rfl (xRm_of (by omega) (by decide) (by omega) (by omega)) (Nat.le_of_ble_eq_true rfl) dX11_run_95 (yk_i (kc := 0) (ks := 0) fun zv5 zg6 hzg6 => ?_)
                obtain ⟨hvzv5, hfzg6⟩ := hzg6
                have hxzg6 := hfzg6.mono (fX_s (t := (aW A)) hs6_ks (Or.inr (Or.inl rfl)))
                have Czg6 := (C.keep O hf).keep O hxzg6
                have Bzg6 := B.keep (fPn_t hs6_ks) ((C.keep O hf).txt hW).1 hfzg6
                refine xj_goto (tgt := 106) (by decide) dX11_run_98 ?_
                exact xj_ireturn rfl (nr_i _) (Nat.zero_le _) (Nat.zero_le _) dX11_run_106 (qI_e ⟨by unfold vRun; (try simp only [nI_clamp (show ks < 2147483648 by omega), nI_clamp (show kn1 < 2147483648 by omega), nI_clamp (show kwhat < 2147483648 by omega)]); rw [if_pos zp5, if_pos zp17, if_pos zp25, if_pos zc75]; all_goals (exact hvzv5), (hf.tr hxzg6)⟩)
            · exact absurd (nI_le (Nat.le_refl _) (by omega)) zc44
          · intro i hi ih g1 hf B
            refine xj_iload (i := 5) 0 rfl dX11_run_41 ?_
            refine xj_iload_n (n := 2) (i := 2) 4 rfl rfl dX11_run_43 ?_
            refine xj_icmp_ge (tgt := 74) (by decide) dX11_run_44 (fun zc44 => ?_) (fun zc44 => ?_)
            · exact absurd zc44 (nI_ge hi (by omega))
            · refine xj_aload (i := 4) 1 rfl dX11_run_47 ?_
              refine xj_aload_n (n := 0) (i := 0) 2 rfl rfl dX11_run_49 ?_
              refine yj_getf (v := .ref 66) fl_X11_55_11 (by omega) (fq_0 g1) rfl dX11_run_50 ?_
              refine xj_aload_n (n := 0) (i := 0) 2 rfl rfl dX11_run_53 ?_
              refine yj_getf (v := .int (nI (aW A))) fl_X11_93_11 (by omega) (fq_0 g1) (congrArg (fun z => some (Value.int z)) ((C.keep O hf).W O)) dX11_run_54 ?_
              refine yj_aaldN (m := 6) (a := fTX (aW A)) (aW A) (by omega) (fq_66 g1) (by decide) (by decide) rfl (by omega) (by decide) ((C.keep O hf).tx O hW) dX11_run_57 ?_
              refine xj_aload_n (n := 0) (i := 0) 2 rfl rfl dX11_run_58 ?_
              refine yj_getf (v := .int (nI (aN A))) fl_X11_84_11 (by omega) (fq_0 g1) (congrArg (fun z => some (Value.int z)) ((C.keep O hf).N O)) dX11_run_59 ?_
              refine xj_iload (i := 5) 0 rfl dX11_run_62 ?_
              refine xj_iadd dX11_run_64 ?_
              refine xj_top (nI_add _ _) ?_
              refine xj_callV kv_X11_177 (c_X7_passNight l (d + 1) n hn g1 (28 + 3 * ks) (fTX (aW A)) (aK A ks) (A 2 ks) (A 3 ks) (rwP A Λ ks i) (Λ (aW A)) (fPn_t hs6_ks) B ((C.keep O hf).txt hW) (nI ((aN A) + i))) (As := [.ref (fTX (aW A)), .int (nI ((aN A) + i))]) (st := []) (by omega) ((fPn_t hs6_ks).2.2.1 _) (ci := 7) rfl rfl rfl rfl (xRm_of (by omega) (by decide) (by omega) (by omega)) (Nat.le_of_ble_eq_true rfl) dX11_run_65 (yk_v (kc := 0) (ks := 0) fun zg7 hzg7 => ?_)
              obtain ⟨hfzg7, Bzg7⟩ := hzg7
              have hxzg7 := hfzg7.mono (fXd_s (t := (aW A)) hs6_ks rfl)
              have Czg7 := (C.keep O hf).keep O hxzg7
              refine xj_iinc (n := 1) (i := 5) (v := nI (i + 1)) (lv1 := [(5, .int (nI (i + 1))), (4, .ref (28 + 3 * ks)), (0, .ref 0), (1, .int (nI ks)), (2, .int (nI kn1)), (3, .int (nI kwhat))]) 0 rfl (nI_1 i) rfl (Nat.le_of_ble_eq_true rfl) dX11_run_68 ?_
              refine xj_goto (tgt := 41) (by decide) dX11_run_71 ?_
              refine xj_sub (lv' := [(5, .int (nI (i + 1))), (4, .ref (28 + 3 * ks)), (0, .ref 0), (1, .int (nI ks)), (2, .int (nI kn1)), (3, .int (nI kwhat))]) [0, 1, 2, 3, 4, 5] rfl ?_
              exact ih zg7 (hf.tr hxzg7) Bzg7
        refine xj_sub (lv' := [(5, .int 0), (4, .ref (28 + 3 * ks)), (0, .ref 0), (1, .int (nI ks)), (2, .int (nI kn1)), (3, .int (nI kwhat))]) [0, 1, 2, 3, 4, 5] rfl ?_
        exact key 0 (Nat.zero_le _) zg2 hxzg2 Bzg2
      · have zp25 : ¬ (0 ≤ what ∧ what ≤ 1) := bI_0.mp zc25
        refine xj_bipush (v := (-7)) (by decide) dX11_run_28 ?_
        exact xj_ireturn rfl (nr_i _) (Nat.zero_le _) (Nat.zero_le _) dX11_run_30 (qI_e ⟨by unfold vRun; (try simp only [nI_clamp (show ks < 2147483648 by omega), nI_clamp (show kn1 < 2147483648 by omega)]); rw [if_pos zp5, if_pos zp17, if_neg zp25]; all_goals (rfl), fr.rf⟩)
  · have zp5 : ¬ (isSl A s) := bI_0.mp zc5
    refine xj_bipush (v := (-5)) (by decide) dX11_run_8 ?_
    exact xj_ireturn rfl (nr_i _) (Nat.zero_le _) (Nat.zero_le _) dX11_run_10 (qI_e ⟨by unfold vRun; rw [if_neg zp5]; all_goals (rfl), fr.rf⟩)
set_option maxHeartbeats 4000000 in
set_option maxRecDepth 100000 in
theorem c_X11_blind (l : Launch) (d : Nat) (n : Nat) (g : xG) (A : zSt) (Λ : Nat → xL) (O : okA A) (C : cA g n A Λ) (s : Int32)  : xC l yX11_blind cX11_blind 4 (some .int) (xR (d + 6) 0 0) [.ref 0, .int s] (n, fh g) (qI n fun v g1 => v = vBlind A Λ s ∧ fr sX g g1) := by
  refine xC_of false (by decide +kernel) (fun z => by cases z) (Nat.le_of_ble_eq_true rfl) ?_
  have hn := C.n110 O
  have hS6 := O.1.2
  have hW := O.W
  have hT6 := O.2.2.2.1.2.2
  have hN9 := O.2.1.2
  show xJ l (RX11, 4, (some .int), false, (xR (d + 6) 0 0), none) cX11_blind _ 0 0 0 [(0, .ref 0), (1, .int s)] [] (n, fh g)
  refine xj_aload_n (n := 0) (i := 0) 0 rfl rfl dX11_blind_0 ?_
  refine xj_iload_n (n := 1) (i := 1) 1 rfl rfl dX11_blind_1 ?_
  refine xj_callV kv_X11_125 (c_X11_isSleeper l (d + 4) n g A Λ O C s) (As := [.int s]) (st := []) (by omega) (fq_0 g) (ci := 11) rfl rfl rfl rfl (xRm_of (by omega) (by decide) (by omega) (by omega)) (Nat.le_of_ble_eq_true rfl) dX11_blind_2 (yk_p (kc := 0) (ks := 0) ?_)
  refine xj_if_ne (tgt := 11) (by decide) dX11_blind_5 (fun zc5 => ?_) (fun zc5 => ?_)
  · have zp5 : isSl A s := bI_n0.mp zc5
    obtain ⟨ks, hks, rfl⟩ := isSl_of O zp5
    have hs6_ks : ks < 6 := by omega
    refine xj_aload_n (n := 0) (i := 0) 0 rfl rfl dX11_blind_11 ?_
    refine xj_iload_n (n := 1) (i := 1) 1 rfl rfl dX11_blind_12 ?_
    refine xj_callV kv_X11_184 (c_X11_inThought l (d + 3) n g A Λ O C ks hks) (As := [.int (nI ks)]) (st := []) (by omega) (fq_0 g) (ci := 11) rfl rfl rfl rfl (xRm_of (by omega) (by decide) (by omega) (by omega)) (Nat.le_of_ble_eq_true rfl) dX11_blind_13 (yk_r (kc := 0) (ks := 0) fun zv1 zg2 hzg2 => ?_)
    obtain ⟨hvzv1, hxzg2, Bzg2⟩ := hzg2
    subst hvzv1
    have Czg2 := C.keep O hxzg2
    refine xj_astore_n (n := 2) (i := 2) (lv1 := [(2, .ref (28 + 3 * ks)), (0, .ref 0), (1, .int (nI ks))]) rfl rfl (Nat.le_of_ble_eq_true rfl) dX11_blind_16 ?_
    refine xj_iconst (v := 0) (by decide) dX11_blind_17 ?_
    refine xj_istore_n (n := 3) (i := 3) (lv1 := [(3, .int 0), (2, .ref (28 + 3 * ks)), (0, .ref 0), (1, .int (nI ks))]) rfl rfl (Nat.le_of_ble_eq_true rfl) dX11_blind_18 ?_
    have key : ∀ i, i ≤ 41 → ∀ (g1 : xG), fr sX g g1 → pnA g1 (28 + 3 * ks) (aK A ks) (A 2 ks) (A 3 ks) (rwP A Λ ks i) → vBlind A Λ (nI ks) = firstF (fun i => decide (rsP A Λ ks i = 0)) (41 - i) i → xJ l (RX11, 4, (some .int), false, (xR (d + 6) 0 0), none) cX11_blind (qI n fun v g1 => v = vBlind A Λ (nI ks) ∧ fr sX g g1) 0 0 19 [(3, .int (nI i)), (2, .ref (28 + 3 * ks)), (0, .ref 0), (1, .int (nI ks))] [] (n, fh g1) := by
      refine x_loop 41 _ ?_ ?_
      · intro g1 hf B hz
        refine xj_iload_n (n := 3) (i := 3) 0 rfl rfl dX11_blind_19 ?_
        refine xj_bipush (v := 40) (by decide) dX11_blind_20 ?_
        refine xj_icmp_gt (tgt := 74) (by decide) dX11_blind_22 (fun zc22 => ?_) (fun zc22 => ?_)
        · refine xj_iconst (v := (-1)) (by decide) dX11_blind_74 ?_
          exact xj_ireturn rfl (nr_i _) (Nat.zero_le _) (Nat.zero_le _) dX11_blind_75 (qI_e ⟨by rw [hz]; rfl, hf⟩)
        · exact absurd (nI_lt (a := 40) (b := 41) (Nat.lt_succ_self _) (by decide)) zc22
      · intro i hi ih g1 hf B hz
        have hstep : firstF (fun i => decide (rsP A Λ ks i = 0)) (41 - i) i = if decide (rsP A Λ ks i = 0) = true then nI i else firstF (fun i => decide (rsP A Λ ks i = 0)) (41 - (i + 1)) (i + 1) := by rw [show 41 - i = 41 - (i + 1) + 1 by omega]; rfl
        refine xj_iload_n (n := 3) (i := 3) 0 rfl rfl dX11_blind_19 ?_
        refine xj_bipush (v := 40) (by decide) dX11_blind_20 ?_
        refine xj_icmp_gt (tgt := 74) (by decide) dX11_blind_22 (fun zc22 => ?_) (fun zc22 => ?_)
        · exact absurd zc22 (nI_nlt (b := i) (a := 40) (Nat.le_of_lt_succ hi) (by decide))
        · refine xj_aload_n (n := 2) (i := 2) 1 rfl rfl dX11_blind_25 ?_
          refine xj_aload_n (n := 0) (i := 0) 2 rfl rfl dX11_blind_26 ?_
          refine yj_getf (v := .ref 66) fl_X11_55_11 (by omega) (fq_0 g1) rfl dX11_blind_27 ?_
          refine xj_aload_n (n := 0) (i := 0) 2 rfl rfl dX11_blind_30 ?_
          refine yj_getf (v := .int (nI (aW A))) fl_X11_93_11 (by omega) (fq_0 g1) (congrArg (fun z => some (Value.int z)) ((C.keep O hf).W O)) dX11_blind_31 ?_
          refine yj_aaldN (m := 6) (a := fTX (aW A)) (aW A) (by omega) (fq_66 g1) (by decide) (by decide) rfl (by omega) (by decide) ((C.keep O hf).tx O hW) dX11_blind_34 ?_
          refine xj_aload_n (n := 0) (i := 0) 2 rfl rfl dX11_blind_35 ?_
          refine yj_getf (v := .int (nI (aN A))) fl_X11_84_11 (by omega) (fq_0 g1) (congrArg (fun z => some (Value.int z)) ((C.keep O hf).N O)) dX11_blind_36 ?_
          refine xj_iload_n (n := 3) (i := 3) 0 rfl rfl dX11_blind_39 ?_
          refine xj_iadd dX11_blind_40 ?_
          refine xj_top (nI_add _ _) ?_
          refine xj_callV kv_X11_164 (c_X7_seenCells l (d + 0) n hn g1 (28 + 3 * ks) (fTX (aW A)) (aK A ks) (A 2 ks) (A 3 ks) (rwP A Λ ks i) (Λ (aW A)) (fPn_t hs6_ks) B ((C.keep O hf).txt hW) (nI ((aN A) + i))) (As := [.ref (fTX (aW A)), .int (nI ((aN A) + i))]) (st := []) (by omega) ((fPn_t hs6_ks).2.2.1 _) (ci := 7) rfl rfl rfl rfl (xRm_of (by omega) (by decide) (by omega) (by omega)) (Nat.le_of_ble_eq_true rfl) dX11_blind_41 (yk_i (kc := 0) (ks := 0) fun zv3 zg4 hzg4 => ?_)
          obtain ⟨hvzv3, hfzg4⟩ := hzg4
          have hxzg4 := hfzg4.mono (fX_s (t := (aW A)) hs6_ks (Or.inr (Or.inl rfl)))
          have Czg4 := (C.keep O hf).keep O hxzg4
          have Bzg4 := B.keep (fPn_t hs6_ks) ((C.keep O hf).txt hW).1 hfzg4
          refine xj_if_ne (tgt := 49) (by decide) dX11_blind_44 (fun zc44 => ?_) (fun zc44 => ?_)
          · refine xj_aload_n (n := 2) (i := 2) 1 rfl rfl dX11_blind_49 ?_
            refine xj_aload_n (n := 0) (i := 0) 2 rfl rfl dX11_blind_50 ?_
            refine yj_getf (v := .ref 66) fl_X11_55_11 (by omega) (fq_0 zg4) rfl dX11_blind_51 ?_
            refine xj_aload_n (n := 0) (i := 0) 2 rfl rfl dX11_blind_54 ?_
            refine yj_getf (v := .int (nI (aW A))) fl_X11_93_11 (by omega) (fq_0 zg4) (congrArg (fun z => some (Value.int z)) (Czg4.W O)) dX11_blind_55 ?_
            refine yj_aaldN (m := 6) (a := fTX (aW A)) (aW A) (by omega) (fq_66 zg4) (by decide) (by decide) rfl (by omega) (by decide) (Czg4.tx O hW) dX11_blind_58 ?_
            refine xj_aload_n (n := 0) (i := 0) 2 rfl rfl dX11_blind_59 ?_
            refine yj_getf (v := .int (nI (aN A))) fl_X11_84_11 (by omega) (fq_0 zg4) (congrArg (fun z => some (Value.int z)) (Czg4.N O)) dX11_blind_60 ?_
            refine xj_iload_n (n := 3) (i := 3) 0 rfl rfl dX11_blind_63 ?_
            refine xj_iadd dX11_blind_64 ?_
            refine xj_top (nI_add _ _) ?_
            refine xj_callV kv_X11_177 (c_X7_passNight l (d + 1) n hn zg4 (28 + 3 * ks) (fTX (aW A)) (aK A ks) (A 2 ks) (A 3 ks) (rwP A Λ ks i) (Λ (aW A)) (fPn_t hs6_ks) Bzg4 (Czg4.txt hW) (nI ((aN A) + i))) (As := [.ref (fTX (aW A)), .int (nI ((aN A) + i))]) (st := []) (by omega) ((fPn_t hs6_ks).2.2.1 _) (ci := 7) rfl rfl rfl rfl (xRm_of (by omega) (by decide) (by omega) (by omega)) (Nat.le_of_ble_eq_true rfl) dX11_blind_65 (yk_v (kc := 0) (ks := 0) fun zg5 hzg5 => ?_)
            obtain ⟨hfzg5, Bzg5⟩ := hzg5
            have hxzg5 := hfzg5.mono (fXd_s (t := (aW A)) hs6_ks rfl)
            have Czg5 := Czg4.keep O hxzg5
            refine xj_iinc (n := 1) (i := 3) (v := nI (i + 1)) (lv1 := [(3, .int (nI (i + 1))), (2, .ref (28 + 3 * ks)), (0, .ref 0), (1, .int (nI ks))]) 0 rfl (nI_1 i) rfl (Nat.le_of_ble_eq_true rfl) dX11_blind_68 ?_
            refine xj_goto (tgt := 19) (by decide) dX11_blind_71 ?_
            refine xj_sub (lv' := [(3, .int (nI (i + 1))), (2, .ref (28 + 3 * ks)), (0, .ref 0), (1, .int (nI ks))]) [0, 1, 2, 3] rfl ?_
            exact ih zg5 ((hf.tr hxzg4).tr hxzg5) Bzg5 (by rw [hz, hstep, if_neg (fun z => zc44 (hvzv3.trans (of_decide_eq_true (p := rsP A Λ ks i = 0) z)))])
          · refine xj_iload_n (n := 3) (i := 3) 0 rfl rfl dX11_blind_47 ?_
            exact xj_ireturn rfl (nr_i _) (Nat.zero_le _) (Nat.zero_le _) dX11_blind_48 (qI_e ⟨by rw [hz, hstep, if_pos (decide_eq_true (p := rsP A Λ ks i = 0) (hvzv3.symm.trans zc44))], (hf.tr hxzg4)⟩)
    refine xj_sub (lv' := [(3, .int 0), (2, .ref (28 + 3 * ks)), (0, .ref 0), (1, .int (nI ks))]) [0, 1, 2, 3] rfl ?_
    exact key 0 (Nat.zero_le _) zg2 hxzg2 Bzg2 (by unfold vBlind; rw [if_pos zp5, nI_clamp (by omega)])
  · have zp5 : ¬ (isSl A s) := bI_0.mp zc5
    refine xj_bipush (v := (-5)) (by decide) dX11_blind_8 ?_
    exact xj_ireturn rfl (nr_i _) (Nat.zero_le _) (Nat.zero_le _) dX11_blind_10 (qI_e ⟨by unfold vBlind; rw [if_neg zp5]; all_goals (rfl), fr.rf⟩)
