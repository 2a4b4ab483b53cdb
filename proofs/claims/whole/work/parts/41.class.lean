def lkB (pa pb oc tc x y : Int32) (c : Nat) : Bool := decide (¬ (((0 ≤ nI (c % 4) + x ∧ nI (c % 4) + x ≤ 3) ∧ (0 ≤ nI (c / 4) + y ∧ nI (c / 4) + y ≤ 3)) ∧ hasF tc (nI c) = true ∧ hasF oc (4 * (nI (c / 4) + y) + (nI (c % 4) + x)) = true ∧ ¬ bI (hasF pb (nI c) = true) = bI (hasF pa (4 * (nI (c / 4) + y) + (nI (c % 4) + x)) = true)))
def lkF (pa pb oc tc x y : Int32) : Bool := allF (lkB pa pb oc tc x y) 16 0
def m3F (i : Nat) : Int32 := nI i - 3
def fiG (f : Nat → Bool) (h : Nat → Int32) : Nat → Int32
  | 0 => -1
  | m + 1 => if f m = true then (if fiG f h m = -1 then h m else fiG f h m) else fiG f h m
def mvB (A : zSt) (Λ : Nat → xL) (a b k : Nat) : Bool := lkF (A 3 a) (A 3 b) (clP A Λ a) (clP A Λ b) (m3F (k / 7)) (m3F (k % 7))
def mvV (k : Nat) : Int32 := nI (10 * (k / 7) + k % 7)
def joF (A : zSt) (Λ : Nat → xL) (a b what : Int32) : Int32 := if isSl A a then if isSl A b then if a = b then -5 else if 0 ≤ what ∧ what ≤ 1 then if what = 0 then cnF (mvB A Λ a.toNatClampNeg b.toNatClampNeg) 49 else fiG (mvB A Λ a.toNatClampNeg b.toNatClampNeg) mvV 49 else -7 else -5 else -5
def vJoins (A : zSt) (Λ : Nat → xL) (w what : Int32) : Int32 := joF A Λ (w / 10) (w - w / 10 * 10) what
theorem m3_n {i : Nat} (h : i < 7) : ¬ ((3 : Int32) < m3F i) := by
  unfold m3F
  rw [i32_lt, show (nI i - 3 : Int32).toInt = (i : Int) - 3 from pk_sub_toInt (a := i) (b := 3) (by omega) (by omega)]
  show ¬ ((3 : Int) < (i : Int) - 3)
  omega
theorem m3_s (i : Nat) : m3F i + 1 = m3F (i + 1) := by
  unfold m3F
  rw [← nI_1, Int32.sub_eq_add_neg, Int32.sub_eq_add_neg, Int32.add_assoc, Int32.add_assoc, Int32.add_comm (-3) 1]
theorem jo_v (i j : Nat) : 10 * nI i + m3F j + 3 = nI (10 * i + j) := by
  unfold m3F
  rw [Int32.add_assoc, Int32.sub_add_cancel, show (10 : Int32) = nI 10 from rfl, pk_mul, nI_add]
theorem mv_e {i j : Nat} (h : j < 7) : (7 * i + j) / 7 = i ∧ (7 * i + j) % 7 = j := by omega
set_option maxHeartbeats 4000000 in
set_option maxRecDepth 100000 in
theorem c_X11_isTorn (l : Launch) (d : Nat) (n : Nat) (g : xG) (A : zSt) (Λ : Nat → xL) (O : okA A) (C : cA g n A Λ) (a b : Nat) (ha : a < aS A) (hb : b < aS A) (oc tc x y : Int32)  : xC l yX11_isTorn cX11_isTorn 11 (some .boolean) (xR (d + 1) 0 0) [.ref (9 + 3 * a), .int oc, .ref (9 + 3 * b), .int tc, .int x, .int y] (n, fh g) (qP (bI (¬ lkF (A 3 a) (A 3 b) oc tc x y = true)) (n, fh g)) := by
  refine xC_of false (by decide +kernel) (fun z => by cases z) (Nat.le_of_ble_eq_true rfl) ?_
  have hn := C.n110 O
  have hS6 := O.1.2
  have hW := O.W
  have hT6 := O.2.2.2.1.2.2
  have hN9 := O.2.1.2
  have hs6_a : a < 6 := by omega
  have hs6_b : b < 6 := by omega
  show xJ l (RX11, 11, (some .boolean), false, (xR (d + 1) 0 0), none) cX11_isTorn _ 0 0 0 [(0, .ref (9 + 3 * a)), (1, .int oc), (2, .ref (9 + 3 * b)), (3, .int tc), (4, .int x), (5, .int y)] [] (n, fh g)
  refine xj_iconst (v := 0) (by decide) dX11_isTorn_0 ?_
  refine xj_istore (i := 6) (lv1 := [(6, .int 0), (0, .ref (9 + 3 * a)), (1, .int oc), (2, .ref (9 + 3 * b)), (3, .int tc), (4, .int x), (5, .int y)]) rfl (Nat.le_of_ble_eq_true rfl) dX11_isTorn_1 ?_
  have key : ∀ i, i ≤ 16 → ∀ (_ : True), lkF (A 3 a) (A 3 b) oc tc x y = allF (lkB (A 3 a) (A 3 b) oc tc x y) (16 - i) i → xJ l (RX11, 11, (some .boolean), false, (xR (d + 1) 0 0), none) cX11_isTorn (qP (bI (¬ lkF (A 3 a) (A 3 b) oc tc x y = true)) (n, fh g)) 0 0 3 [(6, .int (nI i)), (0, .ref (9 + 3 * a)), (1, .int oc), (2, .ref (9 + 3 * b)), (3, .int tc), (4, .int x), (5, .int y)] [] (n, fh g) := by
    refine x_loop 16 _ ?_ ?_
    · intro _ hz
      refine xj_iload (i := 6) 0 rfl dX11_isTorn_3 ?_
      refine xj_bipush (v := 16) (by decide) dX11_isTorn_5 ?_
      refine xj_icmp_ge (tgt := 114) (by decide) dX11_isTorn_7 (fun zc7 => ?_) (fun zc7 => ?_)
      · refine xj_iconst (v := 0) (by decide) dX11_isTorn_114 ?_
        exact xj_ireturn rfl nr_b0 (Nat.zero_le _) (Nat.zero_le _) dX11_isTorn_115 (qP_e (bI_f (fun z => z (by rw [hz, Nat.sub_self]; rfl))).symm)
      · exact absurd (nI_le (Nat.le_refl _) (by decide)) zc7
    · intro i hi ih _ hz
      have hstep : allF (lkB (A 3 a) (A 3 b) oc tc x y) (16 - i) i = if (lkB (A 3 a) (A 3 b) oc tc x y) i = true then allF (lkB (A 3 a) (A 3 b) oc tc x y) (16 - (i + 1)) (i + 1) else false := by rw [show 16 - i = 16 - (i + 1) + 1 by omega]; rfl
      refine xj_iload (i := 6) 0 rfl dX11_isTorn_3 ?_
      refine xj_bipush (v := 16) (by decide) dX11_isTorn_5 ?_
      refine xj_icmp_ge (tgt := 114) (by decide) dX11_isTorn_7 (fun zc7 => ?_) (fun zc7 => ?_)
      · exact absurd zc7 (nI_ge hi (by decide))
      · refine xj_iload (i := 6) 0 rfl dX11_isTorn_10 ?_
        refine xj_iconst (v := 4) (by decide) dX11_isTorn_12 ?_
        refine xj_irem (by decide) dX11_isTorn_13 ?_
        refine xj_top (show ((nI i) - (nI i) / 4 * 4) = nI (i % 4) from nI_rem4 hi) ?_
        refine xj_iload (i := 4) 5 rfl dX11_isTorn_14 ?_
        refine xj_iadd dX11_isTorn_16 ?_
        refine xj_topi (fun zv1 ezv1 => ?_)
        refine xj_istore (i := 7) (lv1 := [(7, .int zv1), (6, .int (nI i)), (0, .ref (9 + 3 * a)), (1, .int oc), (2, .ref (9 + 3 * b)), (3, .int tc), (4, .int x), (5, .int y)]) rfl (Nat.le_of_ble_eq_true rfl) dX11_isTorn_17 ?_
        refine xj_iload (i := 6) 1 rfl dX11_isTorn_19 ?_
        refine xj_iconst (v := 4) (by decide) dX11_isTorn_21 ?_
        refine xj_idiv (by decide) dX11_isTorn_22 ?_
        refine xj_top (show ((nI i) / 4) = nI (i / 4) from nI_div4 hi) ?_
        refine xj_iload (i := 5) 7 rfl dX11_isTorn_23 ?_
        refine xj_iadd dX11_isTorn_25 ?_
        refine xj_topi (fun zv2 ezv2 => ?_)
        refine xj_istore (i := 8) (lv1 := [(8, .int zv2), (7, .int zv1), (6, .int (nI i)), (0, .ref (9 + 3 * a)), (1, .int oc), (2, .ref (9 + 3 * b)), (3, .int tc), (4, .int x), (5, .int y)]) rfl (Nat.le_of_ble_eq_true rfl) dX11_isTorn_26 ?_
        refine xj_iconst (v := 4) (by decide) dX11_isTorn_28 ?_
        refine xj_iload (i := 8) 0 rfl dX11_isTorn_29 ?_
        refine xj_imul dX11_isTorn_31 ?_
        refine xj_iload (i := 7) 1 rfl dX11_isTorn_32 ?_
        refine xj_iadd dX11_isTorn_34 ?_
        refine xj_topi (fun zv3 ezv3 => ?_)
        refine xj_istore (i := 9) (lv1 := [(9, .int zv3), (8, .int zv2), (7, .int zv1), (6, .int (nI i)), (0, .ref (9 + 3 * a)), (1, .int oc), (2, .ref (9 + 3 * b)), (3, .int tc), (4, .int x), (5, .int y)]) rfl (Nat.le_of_ble_eq_true rfl) dX11_isTorn_35 ?_
        refine xj_iload (i := 7) 2 rfl dX11_isTorn_37 ?_
        refine xj_iconst (v := 3) (by decide) dX11_isTorn_39 ?_
        refine xj_callS ks_X11_107 (c_X11_within l (d + 0) zv1 3 _) (As := [.int zv1, .int 3]) (st := []) rfl rfl (xRm_of (by omega) (by decide) (by omega) (by omega)) (Nat.le_of_ble_eq_true rfl) dX11_isTorn_40 (yk_p (kc := 0) (ks := 0) ?_)
        refine xj_if_eq (tgt := 59) (by decide) dX11_isTorn_43 (fun zc43 => ?_) (fun zc43 => ?_)
        · have hob : (lkB (A 3 a) (A 3 b) oc tc x y) i = true := decide_eq_true (fun y => bI_0.mp zc43 (by rw [ezv1]; exact y.1.1))
          refine xj_iconst (v := 0) (by decide) dX11_isTorn_59 ?_
          refine xj_istore (i := 10) (lv1 := [(10, .int 0), (9, .int zv3), (8, .int zv2), (7, .int zv1), (6, .int (nI i)), (0, .ref (9 + 3 * a)), (1, .int oc), (2, .ref (9 + 3 * b)), (3, .int tc), (4, .int x), (5, .int y)]) rfl (Nat.le_of_ble_eq_true rfl) dX11_isTorn_60 ?_
          refine xj_iload (i := 10) 0 rfl dX11_isTorn_62 ?_
          refine xj_if_eq (tgt := 108) (by decide) dX11_isTorn_64 (fun zc64 => ?_) (fun zc64 => ?_)
          · refine xj_iinc (n := 1) (i := 6) (v := nI (i + 1)) (lv1 := [(6, .int (nI (i + 1))), (10, .int 0), (9, .int zv3), (8, .int zv2), (7, .int zv1), (0, .ref (9 + 3 * a)), (1, .int oc), (2, .ref (9 + 3 * b)), (3, .int tc), (4, .int x), (5, .int y)]) 4 rfl (nI_1 i) rfl (Nat.le_of_ble_eq_true rfl) dX11_isTorn_108 ?_
            refine xj_goto (tgt := 3) (by decide) dX11_isTorn_111 ?_
            refine xj_sub (lv' := [(6, .int (nI (i + 1))), (0, .ref (9 + 3 * a)), (1, .int oc), (2, .ref (9 + 3 * b)), (3, .int tc), (4, .int x), (5, .int y)]) [0, 5, 6, 7, 8, 9, 10] rfl ?_
            exact ih True.intro (by rw [hz, hstep, if_pos hob])
          · exact absurd rfl zc64
        · have h43 := bI_n0.mp zc43
          refine xj_iload (i := 8) 1 rfl dX11_isTorn_46 ?_
          refine xj_iconst (v := 3) (by decide) dX11_isTorn_48 ?_
          refine xj_callS ks_X11_107 (c_X11_within l (d + 0) zv2 3 _) (As := [.int zv2, .int 3]) (st := []) rfl rfl (xRm_of (by omega) (by decide) (by omega) (by omega)) (Nat.le_of_ble_eq_true rfl) dX11_isTorn_49 (yk_p (kc := 0) (ks := 0) ?_)
          refine xj_if_eq (tgt := 59) (by decide) dX11_isTorn_52 (fun zc52 => ?_) (fun zc52 => ?_)
          · have hob : (lkB (A 3 a) (A 3 b) oc tc x y) i = true := decide_eq_true (fun y => bI_0.mp zc52 (by rw [ezv2]; exact y.1.2))
            refine xj_iconst (v := 0) (by decide) dX11_isTorn_59 ?_
            refine xj_istore (i := 10) (lv1 := [(10, .int 0), (9, .int zv3), (8, .int zv2), (7, .int zv1), (6, .int (nI i)), (0, .ref (9 + 3 * a)), (1, .int oc), (2, .ref (9 + 3 * b)), (3, .int tc), (4, .int x), (5, .int y)]) rfl (Nat.le_of_ble_eq_true rfl) dX11_isTorn_60 ?_
            refine xj_iload (i := 10) 0 rfl dX11_isTorn_62 ?_
            refine xj_if_eq (tgt := 108) (by decide) dX11_isTorn_64 (fun zc64 => ?_) (fun zc64 => ?_)
            · refine xj_iinc (n := 1) (i := 6) (v := nI (i + 1)) (lv1 := [(6, .int (nI (i + 1))), (10, .int 0), (9, .int zv3), (8, .int zv2), (7, .int zv1), (0, .ref (9 + 3 * a)), (1, .int oc), (2, .ref (9 + 3 * b)), (3, .int tc), (4, .int x), (5, .int y)]) 4 rfl (nI_1 i) rfl (Nat.le_of_ble_eq_true rfl) dX11_isTorn_108 ?_
              refine xj_goto (tgt := 3) (by decide) dX11_isTorn_111 ?_
              refine xj_sub (lv' := [(6, .int (nI (i + 1))), (0, .ref (9 + 3 * a)), (1, .int oc), (2, .ref (9 + 3 * b)), (3, .int tc), (4, .int x), (5, .int y)]) [0, 5, 6, 7, 8, 9, 10] rfl ?_
              exact ih True.intro (by rw [hz, hstep, if_pos hob])
            · exact absurd rfl zc64
          · have h52 := bI_n0.mp zc52
            refine xj_iconst (v := 1) (by decide) dX11_isTorn_55 ?_
            refine xj_goto (tgt := 60) (by decide) dX11_isTorn_56 ?_
            refine xj_istore (i := 10) (lv1 := [(10, .int 1), (9, .int zv3), (8, .int zv2), (7, .int zv1), (6, .int (nI i)), (0, .ref (9 + 3 * a)), (1, .int oc), (2, .ref (9 + 3 * b)), (3, .int tc), (4, .int x), (5, .int y)]) rfl (Nat.le_of_ble_eq_true rfl) dX11_isTorn_60 ?_
            refine xj_iload (i := 10) 0 rfl dX11_isTorn_62 ?_
            refine xj_if_eq (tgt := 108) (by decide) dX11_isTorn_64 (fun zc64 => ?_) (fun zc64 => ?_)
            · exact absurd zc64 (by decide)
            · refine xj_iload_n (n := 3) (i := 3) 8 rfl rfl dX11_isTorn_67 ?_
              refine xj_iload (i := 6) 4 rfl dX11_isTorn_68 ?_
              refine xj_callS ks_X11_281 (c_X11_has l (d + 0) tc (nI i) _) (As := [.int tc, .int (nI i)]) (st := []) rfl rfl (xRm_of (by omega) (by decide) (by omega) (by omega)) (Nat.le_of_ble_eq_true rfl) dX11_isTorn_70 (yk_p (kc := 0) (ks := 0) ?_)
              refine xj_if_eq (tgt := 108) (by decide) dX11_isTorn_73 (fun zc73 => ?_) (fun zc73 => ?_)
              · have hob : (lkB (A 3 a) (A 3 b) oc tc x y) i = true := decide_eq_true (fun y => bI_0.mp zc73 y.2.1)
                refine xj_iinc (n := 1) (i := 6) (v := nI (i + 1)) (lv1 := [(6, .int (nI (i + 1))), (10, .int 1), (9, .int zv3), (8, .int zv2), (7, .int zv1), (0, .ref (9 + 3 * a)), (1, .int oc), (2, .ref (9 + 3 * b)), (3, .int tc), (4, .int x), (5, .int y)]) 4 rfl (nI_1 i) rfl (Nat.le_of_ble_eq_true rfl) dX11_isTorn_108 ?_
                refine xj_goto (tgt := 3) (by decide) dX11_isTorn_111 ?_
                refine xj_sub (lv' := [(6, .int (nI (i + 1))), (0, .ref (9 + 3 * a)), (1, .int oc), (2, .ref (9 + 3 * b)), (3, .int tc), (4, .int x), (5, .int y)]) [0, 5, 6, 7, 8, 9, 10] rfl ?_
                exact ih True.intro (by rw [hz, hstep, if_pos hob])
              · have h73 := bI_n0.mp zc73
                refine xj_iload_n (n := 1) (i := 1) 6 rfl rfl dX11_isTorn_76 ?_
                refine xj_iload (i := 9) 1 rfl dX11_isTorn_77 ?_
                refine xj_callS ks_X11_281 (c_X11_has l (d + 0) oc zv3 _) (As := [.int oc, .int zv3]) (st := []) rfl rfl (xRm_of (by omega) (by decide) (by omega) (by omega)) (Nat.le_of_ble_eq_true rfl) dX11_isTorn_79 (yk_p (kc := 0) (ks := 0) ?_)
                refine xj_if_eq (tgt := 108) (by decide) dX11_isTorn_82 (fun zc82 => ?_) (fun zc82 => ?_)
                · have hob : (lkB (A 3 a) (A 3 b) oc tc x y) i = true := decide_eq_true (fun y => bI_0.mp zc82 (by rw [ezv3, ezv2, ezv1]; exact y.2.2.1))
                  refine xj_iinc (n := 1) (i := 6) (v := nI (i + 1)) (lv1 := [(6, .int (nI (i + 1))), (10, .int 1), (9, .int zv3), (8, .int zv2), (7, .int zv1), (0, .ref (9 + 3 * a)), (1, .int oc), (2, .ref (9 + 3 * b)), (3, .int tc), (4, .int x), (5, .int y)]) 4 rfl (nI_1 i) rfl (Nat.le_of_ble_eq_true rfl) dX11_isTorn_108 ?_
                  refine xj_goto (tgt := 3) (by decide) dX11_isTorn_111 ?_
                  refine xj_sub (lv' := [(6, .int (nI (i + 1))), (0, .ref (9 + 3 * a)), (1, .int oc), (2, .ref (9 + 3 * b)), (3, .int tc), (4, .int x), (5, .int y)]) [0, 5, 6, 7, 8, 9, 10] rfl ?_
                  exact ih True.intro (by rw [hz, hstep, if_pos hob])
                · have h82 := bI_n0.mp zc82
                  refine xj_aload_n (n := 2) (i := 2) 7 rfl rfl dX11_isTorn_85 ?_
                  refine yj_getf (v := .int ((A 3 b))) fl_X11_144_7 (by omega) ((fPn_r hs6_b).2.2.1 (g (9 + 3 * b))) (congrArg (fun z => some (Value.int z)) (C.pane hb).2.2.1) dX11_isTorn_86 ?_
                  refine xj_iload (i := 6) 4 rfl dX11_isTorn_89 ?_
                  refine xj_callS ks_X11_281 (c_X11_has l (d + 0) ((A 3 b)) (nI i) _) (As := [.int ((A 3 b)), .int (nI i)]) (st := []) rfl rfl (xRm_of (by omega) (by decide) (by omega) (by omega)) (Nat.le_of_ble_eq_true rfl) dX11_isTorn_91 (yk_p (kc := 0) (ks := 0) ?_)
                  refine xj_aload_n (n := 0) (i := 0) 5 rfl rfl dX11_isTorn_94 ?_
                  refine yj_getf (v := .int ((A 3 a))) fl_X11_144_7 (by omega) ((fPn_r hs6_a).2.2.1 (g (9 + 3 * a))) (congrArg (fun z => some (Value.int z)) (C.pane ha).2.2.1) dX11_isTorn_95 ?_
                  refine xj_iload (i := 9) 1 rfl dX11_isTorn_98 ?_
                  refine xj_callS ks_X11_281 (c_X11_has l (d + 0) ((A 3 a)) zv3 _) (As := [.int ((A 3 a)), .int zv3]) (st := [.int (bI (hasF ((A 3 b)) (nI i) = true))]) rfl rfl (xRm_of (by omega) (by decide) (by omega) (by omega)) (Nat.le_of_ble_eq_true rfl) dX11_isTorn_100 (yk_p (kc := 0) (ks := 0) ?_)
                  refine xj_icmp_eq (tgt := 108) (by decide) dX11_isTorn_103 (fun zc103 => ?_) (fun zc103 => ?_)
                  · have hob : (lkB (A 3 a) (A 3 b) oc tc x y) i = true := decide_eq_true (fun y => y.2.2.2 (by rw [ezv3, ezv2, ezv1] at zc103; exact zc103))
                    refine xj_iinc (n := 1) (i := 6) (v := nI (i + 1)) (lv1 := [(6, .int (nI (i + 1))), (10, .int 1), (9, .int zv3), (8, .int zv2), (7, .int zv1), (0, .ref (9 + 3 * a)), (1, .int oc), (2, .ref (9 + 3 * b)), (3, .int tc), (4, .int x), (5, .int y)]) 4 rfl (nI_1 i) rfl (Nat.le_of_ble_eq_true rfl) dX11_isTorn_108 ?_
                    refine xj_goto (tgt := 3) (by decide) dX11_isTorn_111 ?_
                    refine xj_sub (lv' := [(6, .int (nI (i + 1))), (0, .ref (9 + 3 * a)), (1, .int oc), (2, .ref (9 + 3 * b)), (3, .int tc), (4, .int x), (5, .int y)]) [0, 5, 6, 7, 8, 9, 10] rfl ?_
                    exact ih True.intro (by rw [hz, hstep, if_pos hob])
                  · have hob : ¬ (lkB (A 3 a) (A 3 b) oc tc x y) i = true := fun y => of_decide_eq_true y ⟨⟨by rw [← ezv1]; exact h43, by rw [← ezv2]; exact h52⟩, h73, by rw [← ezv1, ← ezv2, ← ezv3]; exact h82, by rw [← ezv1, ← ezv2, ← ezv3]; exact zc103⟩
                    refine xj_iconst (v := 1) (by decide) dX11_isTorn_106 ?_
                    exact xj_ireturn rfl nr_b1 (Nat.zero_le _) (Nat.zero_le _) dX11_isTorn_107 (qP_e (bI_t (show ¬ lkF (A 3 a) (A 3 b) oc tc x y = true from fun z => by rw [hz, hstep, if_neg hob] at z; exact absurd z (by decide))).symm)
  refine xj_sub (lv' := [(6, .int 0), (0, .ref (9 + 3 * a)), (1, .int oc), (2, .ref (9 + 3 * b)), (3, .int tc), (4, .int x), (5, .int y)]) [0, 1, 2, 3, 4, 5, 6] rfl ?_
  exact key 0 (Nat.zero_le _) True.intro rfl
set_option maxHeartbeats 4000000 in
set_option maxRecDepth 100000 in
theorem c_X11_joins (l : Launch) (d : Nat) (n : Nat) (g : xG) (A : zSt) (Λ : Nat → xL) (O : okA A) (C : cA g n A Λ) (w what : Int32)  : xC l yX11_joins cX11_joins 11 (some .int) (xR (d + 5) 0 0) [.ref 0, .int w, .int what] (n, fh g) (qI n fun v g1 => v = vJoins A Λ w what ∧ fr sX g g1) := by
  refine xC_of false (by decide +kernel) (fun z => by cases z) (Nat.le_of_ble_eq_true rfl) ?_
  have hn := C.n110 O
  have hS6 := O.1.2
  have hW := O.W
  have hT6 := O.2.2.2.1.2.2
  have hN9 := O.2.1.2
  show xJ l (RX11, 11, (some .int), false, (xR (d + 5) 0 0), none) cX11_joins _ 0 0 0 [(0, .ref 0), (1, .int w), (2, .int what)] [] (n, fh g)
  refine xj_iload_n (n := 1) (i := 1) 1 rfl rfl dX11_joins_0 ?_
  refine xj_bipush (v := 10) (by decide) dX11_joins_1 ?_
  refine xj_idiv (by decide) dX11_joins_3 ?_
  refine xj_topi (fun zv1 ezv1 => ?_)
  refine xj_istore_n (n := 3) (i := 3) (lv1 := [(3, .int zv1), (0, .ref 0), (1, .int w), (2, .int what)]) rfl rfl (Nat.le_of_ble_eq_true rfl) dX11_joins_4 ?_
  refine xj_iload_n (n := 1) (i := 1) 2 rfl rfl dX11_joins_5 ?_
  refine xj_bipush (v := 10) (by decide) dX11_joins_6 ?_
  refine xj_irem (by decide) dX11_joins_8 ?_
  refine xj_topi (fun zv2 ezv2 => ?_)
  refine xj_istore (i := 4) (lv1 := [(4, .int zv2), (3, .int zv1), (0, .ref 0), (1, .int w), (2, .int what)]) rfl (Nat.le_of_ble_eq_true rfl) dX11_joins_9 ?_
  refine xj_aload_n (n := 0) (i := 0) 2 rfl rfl dX11_joins_11 ?_
  refine xj_iload_n (n := 3) (i := 3) 1 rfl rfl dX11_joins_12 ?_
  refine xj_callV kv_X11_125 (c_X11_isSleeper l (d + 3) n g A Λ O C zv1) (As := [.int zv1]) (st := []) (by omega) (fq_0 g) (ci := 11) rfl rfl rfl rfl (xRm_of (by omega) (by decide) (by omega) (by omega)) (Nat.le_of_ble_eq_true rfl) dX11_joins_13 (yk_p (kc := 0) (ks := 0) ?_)
  refine xj_if_eq (tgt := 34) (by decide) dX11_joins_16 (fun zc16 => ?_) (fun zc16 => ?_)
  · have zp16 : ¬ (isSl A zv1) := bI_0.mp zc16
    refine xj_bipush (v := (-5)) (by decide) dX11_joins_34 ?_
    exact xj_ireturn rfl (nr_i _) (Nat.zero_le _) (Nat.zero_le _) dX11_joins_36 (qI_e ⟨by show _ = joF A Λ (w / 10) (w - w / 10 * 10) _; rw [← ezv2, ← ezv1]; unfold joF; rw [if_neg zp16]; all_goals (rfl), fr.rf⟩)
  · have zp16 : isSl A zv1 := bI_n0.mp zc16
    obtain ⟨ka, hka, rfl⟩ := isSl_of O zp16
    have hs6_ka : ka < 6 := by omega
    refine xj_aload_n (n := 0) (i := 0) 2 rfl rfl dX11_joins_19 ?_
    refine xj_iload (i := 4) 0 rfl dX11_joins_20 ?_
    refine xj_callV kv_X11_125 (c_X11_isSleeper l (d + 3) n g A Λ O C zv2) (As := [.int zv2]) (st := []) (by omega) (fq_0 g) (ci := 11) rfl rfl rfl rfl (xRm_of (by omega) (by decide) (by omega) (by omega)) (Nat.le_of_ble_eq_true rfl) dX11_joins_22 (yk_p (kc := 0) (ks := 0) ?_)
    refine xj_if_eq (tgt := 34) (by decide) dX11_joins_25 (fun zc25 => ?_) (fun zc25 => ?_)
    · have zp25 : ¬ (isSl A zv2) := bI_0.mp zc25
      refine xj_bipush (v := (-5)) (by decide) dX11_joins_34 ?_
      exact xj_ireturn rfl (nr_i _) (Nat.zero_le _) (Nat.zero_le _) dX11_joins_36 (qI_e ⟨by show _ = joF A Λ (w / 10) (w - w / 10 * 10) _; rw [← ezv2, ← ezv1]; unfold joF; (try simp only [nI_clamp (show ka < 2147483648 by omega)]); rw [if_pos zp16, if_neg zp25]; all_goals (rfl), fr.rf⟩)
    · have zp25 : isSl A zv2 := bI_n0.mp zc25
      obtain ⟨kb, hkb, rfl⟩ := isSl_of O zp25
      have hs6_kb : kb < 6 := by omega
      refine xj_iload_n (n := 3) (i := 3) 1 rfl rfl dX11_joins_28 ?_
      refine xj_iload (i := 4) 0 rfl dX11_joins_29 ?_
      refine xj_icmp_ne (tgt := 37) (by decide) dX11_joins_31 (fun zc31 => ?_) (fun zc31 => ?_)
      · refine xj_iload_n (n := 2) (i := 2) 4 rfl rfl dX11_joins_37 ?_
        refine xj_iconst (v := 1) (by decide) dX11_joins_38 ?_
        refine xj_callS ks_X11_107 (c_X11_within l (d + 4) what 1 _) (As := [.int what, .int 1]) (st := []) rfl rfl (xRm_of (by omega) (by decide) (by omega) (by omega)) (Nat.le_of_ble_eq_true rfl) dX11_joins_39 (yk_p (kc := 0) (ks := 0) ?_)
        refine xj_if_ne (tgt := 48) (by decide) dX11_joins_42 (fun zc42 => ?_) (fun zc42 => ?_)
        · have zp42 : 0 ≤ what ∧ what ≤ 1 := bI_n0.mp zc42
          obtain ⟨kwhat, hkwhat, rfl⟩ := nI_bnd (m := 1) (by decide) zp42.1 zp42.2
          refine xj_aload_n (n := 0) (i := 0) 2 rfl rfl dX11_joins_48 ?_
          refine yj_getf (v := .ref 8) fl_X11_37_11 (by omega) (fq_0 g) rfl dX11_joins_49 ?_
          refine xj_iload_n (n := 3) (i := 3) 1 rfl rfl dX11_joins_52 ?_
          refine yj_aaldN (m := 6) (a := 9 + 3 * ka) ka (by omega) (fq_8 g) (by decide) (by decide) rfl (by omega) (by decide) (if_pos (by omega)) dX11_joins_53 ?_
          refine xj_aload_n (n := 0) (i := 0) 2 rfl rfl dX11_joins_54 ?_
          refine yj_getf (v := .ref 66) fl_X11_55_11 (by omega) (fq_0 g) rfl dX11_joins_55 ?_
          refine xj_aload_n (n := 0) (i := 0) 2 rfl rfl dX11_joins_58 ?_
          refine yj_getf (v := .int (nI (aW A))) fl_X11_93_11 (by omega) (fq_0 g) (congrArg (fun z => some (Value.int z)) (C.W O)) dX11_joins_59 ?_
          refine yj_aaldN (m := 6) (a := fTX (aW A)) (aW A) (by omega) (fq_66 g) (by decide) (by decide) rfl (by omega) (by decide) (C.tx O hW) dX11_joins_62 ?_
          refine xj_aload_n (n := 0) (i := 0) 2 rfl rfl dX11_joins_63 ?_
          refine yj_getf (v := .int (nI (aN A))) fl_X11_84_11 (by omega) (fq_0 g) (congrArg (fun z => some (Value.int z)) (C.N O)) dX11_joins_64 ?_
          refine xj_callV kv_X11_160 (c_X7_clearCells l (d + 0) n hn g (9 + 3 * ka) (fTX (aW A)) (aK A ka) (A 2 ka) (A 3 ka) (A (10 + ka)) (Λ (aW A)) (fPn_r hs6_ka) (C.pane hka) (C.txt hW) (nI (aN A))) (As := [.ref (fTX (aW A)), .int (nI (aN A))]) (st := []) (by omega) ((fPn_r hs6_ka).2.2.1 _) (ci := 7) rfl rfl rfl rfl (xRm_of (by omega) (by decide) (by omega) (by omega)) (Nat.le_of_ble_eq_true rfl) dX11_joins_67 (yk_i (kc := 0) (ks := 0) fun zv3 zg4 hzg4 => ?_)
          obtain ⟨hvzv3, hfzg4⟩ := hzg4
          have hxzg4 := hfzg4.mono (fX_s (t := (aW A)) hs6_ka (Or.inl rfl))
          have Czg4 := C.keep O hxzg4
          refine xj_top (show zv3 = clP A Λ ka from hvzv3) ?_
          refine xj_istore (i := 5) (lv1 := [(5, .int (clP A Λ ka)), (4, .int (nI kb)), (3, .int (nI ka)), (0, .ref 0), (1, .int w), (2, .int (nI kwhat))]) rfl (Nat.le_of_ble_eq_true rfl) dX11_joins_70 ?_
          refine xj_aload_n (n := 0) (i := 0) 3 rfl rfl dX11_joins_72 ?_
          refine yj_getf (v := .ref 8) fl_X11_37_11 (by omega) (fq_0 zg4) rfl dX11_joins_73 ?_
          refine xj_iload (i := 4) 1 rfl dX11_joins_76 ?_
          refine yj_aaldN (m := 6) (a := 9 + 3 * kb) kb (by omega) (fq_8 zg4) (by decide) (by decide) rfl (by omega) (by decide) (if_pos (by omega)) dX11_joins_78 ?_
          refine xj_aload_n (n := 0) (i := 0) 3 rfl rfl dX11_joins_79 ?_
          refine yj_getf (v := .ref 66) fl_X11_55_11 (by omega) (fq_0 zg4) rfl dX11_joins_80 ?_
          refine xj_aload_n (n := 0) (i := 0) 3 rfl rfl dX11_joins_83 ?_
          refine yj_getf (v := .int (nI (aW A))) fl_X11_93_11 (by omega) (fq_0 zg4) (congrArg (fun z => some (Value.int z)) (Czg4.W O)) dX11_joins_84 ?_
          refine yj_aaldN (m := 6) (a := fTX (aW A)) (aW A) (by omega) (fq_66 zg4) (by decide) (by decide) rfl (by omega) (by decide) (Czg4.tx O hW) dX11_joins_87 ?_
          refine xj_aload_n (n := 0) (i := 0) 3 rfl rfl dX11_joins_88 ?_
          refine yj_getf (v := .int (nI (aN A))) fl_X11_84_11 (by omega) (fq_0 zg4) (congrArg (fun z => some (Value.int z)) (Czg4.N O)) dX11_joins_89 ?_
          refine xj_callV kv_X11_160 (c_X7_clearCells l (d + 0) n hn zg4 (9 + 3 * kb) (fTX (aW A)) (aK A kb) (A 2 kb) (A 3 kb) (A (10 + kb)) (Λ (aW A)) (fPn_r hs6_kb) (Czg4.pane hkb) (Czg4.txt hW) (nI (aN A))) (As := [.ref (fTX (aW A)), .int (nI (aN A))]) (st := []) (by omega) ((fPn_r hs6_kb).2.2.1 _) (ci := 7) rfl rfl rfl rfl (xRm_of (by omega) (by decide) (by omega) (by omega)) (Nat.le_of_ble_eq_true rfl) dX11_joins_92 (yk_i (kc := 0) (ks := 0) fun zv5 zg6 hzg6 => ?_)
          obtain ⟨hvzv5, hfzg6⟩ := hzg6
          have hxzg6 := hfzg6.mono (fX_s (t := (aW A)) hs6_kb (Or.inl rfl))
          have Czg6 := Czg4.keep O hxzg6
          refine xj_top (show zv5 = clP A Λ kb from hvzv5) ?_
          refine xj_istore (i := 6) (lv1 := [(6, .int (clP A Λ kb)), (5, .int (clP A Λ ka)), (4, .int (nI kb)), (3, .int (nI ka)), (0, .ref 0), (1, .int w), (2, .int (nI kwhat))]) rfl (Nat.le_of_ble_eq_true rfl) dX11_joins_95 ?_
          refine xj_iconst (v := 0) (by decide) dX11_joins_97 ?_
          refine xj_istore (i := 7) (lv1 := [(7, .int 0), (6, .int (clP A Λ kb)), (5, .int (clP A Λ ka)), (4, .int (nI kb)), (3, .int (nI ka)), (0, .ref 0), (1, .int w), (2, .int (nI kwhat))]) rfl (Nat.le_of_ble_eq_true rfl) dX11_joins_98 ?_
          refine xj_iconst (v := (-1)) (by decide) dX11_joins_100 ?_
          refine xj_istore (i := 8) (lv1 := [(8, .int (-1)), (7, .int 0), (6, .int (clP A Λ kb)), (5, .int (clP A Λ ka)), (4, .int (nI kb)), (3, .int (nI ka)), (0, .ref 0), (1, .int w), (2, .int (nI kwhat))]) rfl (Nat.le_of_ble_eq_true rfl) dX11_joins_101 ?_
          refine xj_bipush (v := (-3)) (by decide) dX11_joins_103 ?_
          refine xj_istore (i := 9) (lv1 := [(9, .int (-3)), (8, .int (-1)), (7, .int 0), (6, .int (clP A Λ kb)), (5, .int (clP A Λ ka)), (4, .int (nI kb)), (3, .int (nI ka)), (0, .ref 0), (1, .int w), (2, .int (nI kwhat))]) rfl (Nat.le_of_ble_eq_true rfl) dX11_joins_105 ?_
          refine xj_sub (lv' := [(9, .int (-3)), (7, .int 0), (8, .int (-1)), (5, .int (clP A Λ ka)), (6, .int (clP A Λ kb)), (0, .ref 0), (1, .int w), (2, .int (nI kwhat)), (3, .int (nI ka)), (4, .int (nI kb))]) [0, 2, 1, 4, 3, 7, 8, 9, 6, 5] rfl ?_
          rw [show (-3 : Int32) = m3F 0 from by decide]
          have key : ∀ i, i ≤ 7 → ∀ (g1 : xG), fr sX g g1 → xJ l (RX11, 11, (some .int), false, (xR (d + 5) 0 0), none) cX11_joins (qI n fun v g1 => v = vJoins A Λ w (nI kwhat) ∧ fr sX g g1) 0 0 107 [(9, .int (m3F i)), (7, .int (cnF (mvB A Λ ka kb) (7 * i))), (8, .int (fiG (mvB A Λ ka kb) mvV (7 * i))), (5, .int (clP A Λ ka)), (6, .int (clP A Λ kb)), (0, .ref 0), (1, .int w), (2, .int (nI kwhat)), (3, .int (nI ka)), (4, .int (nI kb))] [] (n, fh g1) := by
            refine x_loop 7 _ ?_ ?_
            · intro g1 hf
              refine xj_iload (i := 9) 0 rfl dX11_joins_107 ?_
              refine xj_iconst (v := 3) (by decide) dX11_joins_109 ?_
              refine xj_icmp_gt (tgt := 190) (by decide) dX11_joins_110 (fun zc110 => ?_) (fun zc110 => ?_)
              · refine xj_iload_n (n := 2) (i := 2) 7 rfl rfl dX11_joins_190 ?_
                refine xj_if_ne (tgt := 199) (by decide) dX11_joins_191 (fun zc191 => ?_) (fun zc191 => ?_)
                · refine xj_iload (i := 8) 2 rfl dX11_joins_199 ?_
                  exact xj_ireturn rfl (nr_i _) (Nat.zero_le _) (Nat.zero_le _) dX11_joins_201 (qI_e ⟨by show _ = joF A Λ (w / 10) (w - w / 10 * 10) _; rw [← ezv2, ← ezv1]; unfold joF; (try simp only [nI_clamp (show ka < 2147483648 by omega), nI_clamp (show kb < 2147483648 by omega), nI_clamp (show kwhat < 2147483648 by omega)]); rw [if_pos zp16, if_pos zp25, if_neg zc31, if_pos zp42, if_neg zc191]; all_goals (rfl), hf⟩)
                · refine xj_iload (i := 7) 1 rfl dX11_joins_194 ?_
                  refine xj_goto (tgt := 201) (by decide) dX11_joins_196 ?_
                  exact xj_ireturn rfl (nr_i _) (Nat.zero_le _) (Nat.zero_le _) dX11_joins_201 (qI_e ⟨by show _ = joF A Λ (w / 10) (w - w / 10 * 10) _; rw [← ezv2, ← ezv1]; unfold joF; (try simp only [nI_clamp (show ka < 2147483648 by omega), nI_clamp (show kb < 2147483648 by omega), nI_clamp (show kwhat < 2147483648 by omega)]); rw [if_pos zp16, if_pos zp25, if_neg zc31, if_pos zp42, if_pos zc191]; all_goals (rfl), hf⟩)
              · exact absurd (by decide) zc110
            · intro i hi ih g1 hf
              refine xj_iload (i := 9) 0 rfl dX11_joins_107 ?_
              refine xj_iconst (v := 3) (by decide) dX11_joins_109 ?_
              refine xj_icmp_gt (tgt := 190) (by decide) dX11_joins_110 (fun zc110 => ?_) (fun zc110 => ?_)
              · exact absurd zc110 (m3_n hi)
              · refine xj_bipush (v := (-3)) (by decide) dX11_joins_113 ?_
                refine xj_istore (i := 10) (lv1 := [(10, .int (-3)), (9, .int (m3F i)), (7, .int (cnF (mvB A Λ ka kb) (7 * i))), (8, .int (fiG (mvB A Λ ka kb) mvV (7 * i))), (5, .int (clP A Λ ka)), (6, .int (clP A Λ kb)), (0, .ref 0), (1, .int w), (2, .int (nI kwhat)), (3, .int (nI ka)), (4, .int (nI kb))]) rfl (Nat.le_of_ble_eq_true rfl) dX11_joins_115 ?_
                refine xj_sub (lv' := [(10, .int (-3)), (9, .int (m3F i)), (7, .int (cnF (mvB A Λ ka kb) (7 * i))), (8, .int (fiG (mvB A Λ ka kb) mvV (7 * i))), (5, .int (clP A Λ ka)), (6, .int (clP A Λ kb)), (0, .ref 0), (1, .int w), (2, .int (nI kwhat)), (3, .int (nI ka)), (4, .int (nI kb))]) [0, 1, 2, 3, 4, 5, 6, 7, 8, 9, 10] rfl ?_
                rw [show (-3 : Int32) = m3F 0 from by decide]
                have key2 : ∀ j, j ≤ 7 → ∀ (g2 : xG), fr sX g g2 → xJ l (RX11, 11, (some .int), false, (xR (d + 5) 0 0), none) cX11_joins (qI n fun v g1 => v = vJoins A Λ w (nI kwhat) ∧ fr sX g g1) 0 0 117 [(10, .int (m3F j)), (9, .int (m3F i)), (7, .int (cnF (mvB A Λ ka kb) (7 * i + j))), (8, .int (fiG (mvB A Λ ka kb) mvV (7 * i + j))), (5, .int (clP A Λ ka)), (6, .int (clP A Λ kb)), (0, .ref 0), (1, .int w), (2, .int (nI kwhat)), (3, .int (nI ka)), (4, .int (nI kb))] [] (n, fh g2) := by
                  refine x_loop 7 _ ?_ ?_
                  · intro g2 hf2
                    refine xj_iload (i := 10) 0 rfl dX11_joins_117 ?_
                    refine xj_iconst (v := 3) (by decide) dX11_joins_119 ?_
                    refine xj_icmp_gt (tgt := 184) (by decide) dX11_joins_120 (fun zc120 => ?_) (fun zc120 => ?_)
                    · obtain ⟨zv7, ezv7⟩ : ∃ z : Int32, z = (m3F i) + Int32.ofInt (1) := ⟨_, rfl⟩
                      refine xj_iinc (i := 9) (v := zv7) (lv1 := [(9, .int zv7), (10, .int (m3F 7)), (7, .int (cnF (mvB A Λ ka kb) (7 * i + 7))), (8, .int (fiG (mvB A Λ ka kb) mvV (7 * i + 7))), (5, .int (clP A Λ ka)), (6, .int (clP A Λ kb)), (0, .ref 0), (1, .int w), (2, .int (nI kwhat)), (3, .int (nI ka)), (4, .int (nI kb))]) 1 rfl ezv7.symm rfl (Nat.le_of_ble_eq_true rfl) dX11_joins_184 ?_
                      refine xj_goto (tgt := 107) (by decide) dX11_joins_187 ?_
                      refine xj_sub (lv' := [(9, .int zv7), (7, .int (cnF (mvB A Λ ka kb) (7 * i + 7))), (8, .int (fiG (mvB A Λ ka kb) mvV (7 * i + 7))), (5, .int (clP A Λ ka)), (6, .int (clP A Λ kb)), (0, .ref 0), (1, .int w), (2, .int (nI kwhat)), (3, .int (nI ka)), (4, .int (nI kb))]) [0, 2, 3, 4, 5, 6, 7, 8, 9, 10] rfl ?_
                      rw [show zv7 = m3F (i + 1) from by rw [ezv7]; exact m3_s i]
                      exact ih g2 hf2
                    · exact absurd (by decide) zc120
                  · intro j hi2 ih2 g2 hf2
                    have hm := mv_e (i := i) hi2
                    refine xj_iload (i := 10) 0 rfl dX11_joins_117 ?_
                    refine xj_iconst (v := 3) (by decide) dX11_joins_119 ?_
                    refine xj_icmp_gt (tgt := 184) (by decide) dX11_joins_120 (fun zc120 => ?_) (fun zc120 => ?_)
                    · exact absurd zc120 (m3_n hi2)
                    · refine xj_aload_n (n := 0) (i := 0) 6 rfl rfl dX11_joins_123 ?_
                      refine yj_getf (v := .ref 8) fl_X11_37_11 (by omega) (fq_0 g2) rfl dX11_joins_124 ?_
                      refine xj_iload_n (n := 3) (i := 3) 9 rfl rfl dX11_joins_127 ?_
                      refine yj_aaldN (m := 6) (a := 9 + 3 * ka) ka (by omega) (fq_8 g2) (by decide) (by decide) rfl (by omega) (by decide) (if_pos (by omega)) dX11_joins_128 ?_
                      refine xj_iload (i := 5) 4 rfl dX11_joins_129 ?_
                      refine xj_aload_n (n := 0) (i := 0) 6 rfl rfl dX11_joins_131 ?_
                      refine yj_getf (v := .ref 8) fl_X11_37_11 (by omega) (fq_0 g2) rfl dX11_joins_132 ?_
                      refine xj_iload (i := 4) 10 rfl dX11_joins_135 ?_
                      refine yj_aaldN (m := 6) (a := 9 + 3 * kb) kb (by omega) (fq_8 g2) (by decide) (by decide) rfl (by omega) (by decide) (if_pos (by omega)) dX11_joins_137 ?_
                      refine xj_iload (i := 6) 5 rfl dX11_joins_138 ?_
                      refine xj_iload (i := 9) 1 rfl dX11_joins_140 ?_
                      refine xj_iload (i := 10) 0 rfl dX11_joins_142 ?_
                      refine xj_callS ks_X11_207 (c_X11_isTorn l (d + 3) n g2 A Λ O (C.keep O hf2) ka kb hka hkb (clP A Λ ka) (clP A Λ kb) (m3F i) (m3F j)) (As := [.ref (9 + 3 * ka), .int (clP A Λ ka), .ref (9 + 3 * kb), .int (clP A Λ kb), .int (m3F i), .int (m3F j)]) (st := []) rfl rfl (xRm_of (by omega) (by decide) (by omega) (by omega)) (Nat.le_of_ble_eq_true rfl) dX11_joins_144 (yk_p (kc := 0) (ks := 0) ?_)
                      refine xj_if_ne (tgt := 178) (by decide) dX11_joins_147 (fun zc147 => ?_) (fun zc147 => ?_)
                      · have hob : ¬ (mvB A Λ ka kb) (7 * i + j) = true := by unfold mvB; rw [hm.1, hm.2]; exact bI_n0.mp zc147
                        obtain ⟨zv8, ezv8⟩ : ∃ z : Int32, z = (m3F j) + Int32.ofInt (1) := ⟨_, rfl⟩
                        refine xj_iinc (i := 10) (v := zv8) (lv1 := [(10, .int zv8), (9, .int (m3F i)), (7, .int (cnF (mvB A Λ ka kb) (7 * i + j))), (8, .int (fiG (mvB A Λ ka kb) mvV (7 * i + j))), (5, .int (clP A Λ ka)), (6, .int (clP A Λ kb)), (0, .ref 0), (1, .int w), (2, .int (nI kwhat)), (3, .int (nI ka)), (4, .int (nI kb))]) 0 rfl ezv8.symm rfl (Nat.le_of_ble_eq_true rfl) dX11_joins_178 ?_
                        refine xj_goto (tgt := 117) (by decide) dX11_joins_181 ?_
                        refine xj_sub (lv' := [(10, .int zv8), (9, .int (m3F i)), (7, .int (cnF (mvB A Λ ka kb) (7 * i + j))), (8, .int (fiG (mvB A Λ ka kb) mvV (7 * i + j))), (5, .int (clP A Λ ka)), (6, .int (clP A Λ kb)), (0, .ref 0), (1, .int w), (2, .int (nI kwhat)), (3, .int (nI ka)), (4, .int (nI kb))]) [0, 1, 2, 3, 4, 5, 6, 7, 8, 9, 10] rfl ?_
                        have h9 := ih2 g2 hf2
                        rw [show cnF (mvB A Λ ka kb) (7 * i + (j + 1)) = cnF (mvB A Λ ka kb) (7 * i + j) from if_neg hob, show fiG (mvB A Λ ka kb) mvV (7 * i + (j + 1)) = fiG (mvB A Λ ka kb) mvV (7 * i + j) from if_neg hob, show m3F (j + 1) = zv8 from by rw [ezv8]; exact (m3_s j).symm] at h9
                        exact h9
                      · have hob : (mvB A Λ ka kb) (7 * i + j) = true := by have h := bI_0.mp zc147; unfold mvB; rw [hm.1, hm.2]; exact Decidable.not_not.mp h
                        obtain ⟨zv9, ezv9⟩ : ∃ z : Int32, z = (cnF (mvB A Λ ka kb) (7 * i + j)) + Int32.ofInt (1) := ⟨_, rfl⟩
                        refine xj_iinc (i := 7) (v := zv9) (lv1 := [(7, .int zv9), (10, .int (m3F j)), (9, .int (m3F i)), (8, .int (fiG (mvB A Λ ka kb) mvV (7 * i + j))), (5, .int (clP A Λ ka)), (6, .int (clP A Λ kb)), (0, .ref 0), (1, .int w), (2, .int (nI kwhat)), (3, .int (nI ka)), (4, .int (nI kb))]) 2 rfl ezv9.symm rfl (Nat.le_of_ble_eq_true rfl) dX11_joins_150 ?_
                        refine xj_iload (i := 8) 3 rfl dX11_joins_153 ?_
                        refine xj_iconst (v := (-1)) (by decide) dX11_joins_155 ?_
                        refine xj_icmp_ne (tgt := 174) (by decide) dX11_joins_156 (fun zc156 => ?_) (fun zc156 => ?_)
                        · refine xj_iload (i := 8) 3 rfl dX11_joins_174 ?_
                          refine xj_istore (i := 8) (lv1 := [(8, .int (fiG (mvB A Λ ka kb) mvV (7 * i + j))), (7, .int zv9), (10, .int (m3F j)), (9, .int (m3F i)), (5, .int (clP A Λ ka)), (6, .int (clP A Λ kb)), (0, .ref 0), (1, .int w), (2, .int (nI kwhat)), (3, .int (nI ka)), (4, .int (nI kb))]) rfl (Nat.le_of_ble_eq_true rfl) dX11_joins_176 ?_
                          obtain ⟨zv10, ezv10⟩ : ∃ z : Int32, z = (m3F j) + Int32.ofInt (1) := ⟨_, rfl⟩
                          refine xj_iinc (i := 10) (v := zv10) (lv1 := [(10, .int zv10), (8, .int (fiG (mvB A Λ ka kb) mvV (7 * i + j))), (7, .int zv9), (9, .int (m3F i)), (5, .int (clP A Λ ka)), (6, .int (clP A Λ kb)), (0, .ref 0), (1, .int w), (2, .int (nI kwhat)), (3, .int (nI ka)), (4, .int (nI kb))]) 2 rfl ezv10.symm rfl (Nat.le_of_ble_eq_true rfl) dX11_joins_178 ?_
                          refine xj_goto (tgt := 117) (by decide) dX11_joins_181 ?_
                          refine xj_sub (lv' := [(10, .int zv10), (9, .int (m3F i)), (7, .int zv9), (8, .int (fiG (mvB A Λ ka kb) mvV (7 * i + j))), (5, .int (clP A Λ ka)), (6, .int (clP A Λ kb)), (0, .ref 0), (1, .int w), (2, .int (nI kwhat)), (3, .int (nI ka)), (4, .int (nI kb))]) [0, 3, 2, 1, 4, 5, 6, 7, 8, 9, 10] rfl ?_
                          have h9 := ih2 g2 hf2
                          rw [show cnF (mvB A Λ ka kb) (7 * i + (j + 1)) = zv9 from (if_pos hob).trans ezv9.symm, show fiG (mvB A Λ ka kb) mvV (7 * i + (j + 1)) = (fiG (mvB A Λ ka kb) mvV (7 * i + j)) from (if_pos hob).trans (if_neg zc156), show m3F (j + 1) = zv10 from by rw [ezv10]; exact (m3_s j).symm] at h9
                          exact h9
                        · refine xj_bipush (v := 10) (by decide) dX11_joins_159 ?_
                          refine xj_iload (i := 9) 2 rfl dX11_joins_161 ?_
                          refine xj_iconst (v := 3) (by decide) dX11_joins_163 ?_
                          refine xj_iadd dX11_joins_164 ?_
                          refine xj_top (show ((m3F i) + 3) = nI i from (Int32.sub_add_cancel _ _)) ?_
                          refine xj_imul dX11_joins_165 ?_
                          refine xj_iload (i := 10) 1 rfl dX11_joins_166 ?_
                          refine xj_iadd dX11_joins_168 ?_
                          refine xj_iconst (v := 3) (by decide) dX11_joins_169 ?_
                          refine xj_iadd dX11_joins_170 ?_
                          refine xj_goto (tgt := 176) (by decide) dX11_joins_171 ?_
                          refine xj_topi (fun zv11 ezv11 => ?_)
                          refine xj_istore (i := 8) (lv1 := [(8, .int zv11), (7, .int zv9), (10, .int (m3F j)), (9, .int (m3F i)), (5, .int (clP A Λ ka)), (6, .int (clP A Λ kb)), (0, .ref 0), (1, .int w), (2, .int (nI kwhat)), (3, .int (nI ka)), (4, .int (nI kb))]) rfl (Nat.le_of_ble_eq_true rfl) dX11_joins_176 ?_
                          obtain ⟨zv12, ezv12⟩ : ∃ z : Int32, z = (m3F j) + Int32.ofInt (1) := ⟨_, rfl⟩
                          refine xj_iinc (i := 10) (v := zv12) (lv1 := [(10, .int zv12), (8, .int zv11), (7, .int zv9), (9, .int (m3F i)), (5, .int (clP A Λ ka)), (6, .int (clP A Λ kb)), (0, .ref 0), (1, .int w), (2, .int (nI kwhat)), (3, .int (nI ka)), (4, .int (nI kb))]) 2 rfl ezv12.symm rfl (Nat.le_of_ble_eq_true rfl) dX11_joins_178 ?_
                          refine xj_goto (tgt := 117) (by decide) dX11_joins_181 ?_
                          refine xj_sub (lv' := [(10, .int zv12), (9, .int (m3F i)), (7, .int zv9), (8, .int zv11), (5, .int (clP A Λ ka)), (6, .int (clP A Λ kb)), (0, .ref 0), (1, .int w), (2, .int (nI kwhat)), (3, .int (nI ka)), (4, .int (nI kb))]) [0, 3, 2, 1, 4, 5, 6, 7, 8, 9, 10] rfl ?_
                          have h9 := ih2 g2 hf2
                          rw [show cnF (mvB A Λ ka kb) (7 * i + (j + 1)) = zv9 from (if_pos hob).trans ezv9.symm, show fiG (mvB A Λ ka kb) mvV (7 * i + (j + 1)) = zv11 from ((if_pos hob).trans (if_pos zc156)).trans (show mvV (7 * i + j) = zv11 from by unfold mvV; rw [hm.1, hm.2, ezv11]; exact (jo_v i j).symm), show m3F (j + 1) = zv12 from by rw [ezv12]; exact (m3_s j).symm] at h9
                          exact h9
                refine xj_sub (lv' := [(10, .int (m3F 0)), (9, .int (m3F i)), (7, .int (cnF (mvB A Λ ka kb) (7 * i))), (8, .int (fiG (mvB A Λ ka kb) mvV (7 * i))), (5, .int (clP A Λ ka)), (6, .int (clP A Λ kb)), (0, .ref 0), (1, .int w), (2, .int (nI kwhat)), (3, .int (nI ka)), (4, .int (nI kb))]) [0, 1, 2, 3, 4, 5, 6, 7, 8, 9, 10] rfl ?_
                exact key2 0 (Nat.zero_le _) g1 hf
          refine xj_sub (lv' := [(9, .int (m3F 0)), (7, .int 0), (8, .int (-1)), (5, .int (clP A Λ ka)), (6, .int (clP A Λ kb)), (0, .ref 0), (1, .int w), (2, .int (nI kwhat)), (3, .int (nI ka)), (4, .int (nI kb))]) [0, 1, 2, 3, 4, 5, 6, 7, 8, 9] rfl ?_
          exact key 0 (Nat.zero_le _) zg6 (hxzg4.tr hxzg6)
        · have zp42 : ¬ (0 ≤ what ∧ what ≤ 1) := bI_0.mp zc42
          refine xj_bipush (v := (-7)) (by decide) dX11_joins_45 ?_
          exact xj_ireturn rfl (nr_i _) (Nat.zero_le _) (Nat.zero_le _) dX11_joins_47 (qI_e ⟨by show _ = joF A Λ (w / 10) (w - w / 10 * 10) _; rw [← ezv2, ← ezv1]; unfold joF; (try simp only [nI_clamp (show ka < 2147483648 by omega), nI_clamp (show kb < 2147483648 by omega)]); rw [if_pos zp16, if_pos zp25, if_neg zc31, if_neg zp42]; all_goals (rfl), fr.rf⟩)
      · refine xj_bipush (v := (-5)) (by decide) dX11_joins_34 ?_
        exact xj_ireturn rfl (nr_i _) (Nat.zero_le _) (Nat.zero_le _) dX11_joins_36 (qI_e ⟨by show _ = joF A Λ (w / 10) (w - w / 10 * 10) _; rw [← ezv2, ← ezv1]; unfold joF; (try simp only [nI_clamp (show ka < 2147483648 by omega), nI_clamp (show kb < 2147483648 by omega)]); rw [if_pos zp16, if_pos zp25, if_pos zc31]; all_goals (rfl), fr.rf⟩)
